theorem lf_e_goes_1 (a0 : Int32) (h0 : 0 ≤ (a0).toInt ∧ (a0).toInt ≤ 7) : 0 ≤ (2 * (a0)).toInt ∧ (2 * (a0)).toInt < 16 := by
  first | rfl | assumption | decide | exact Or.inl rfl | (first | omega | (have hr0 := Int32.toInt_lt a0; have hs0 := Int32.le_toInt a0; simp only [Int64.toInt_add, Int64.toInt_sub, Int32.toInt_add, Int32.toInt_sub, Int32.toInt_mul, Int64.le_iff_toInt_le, Int64.lt_iff_toInt_lt, Int32.le_iff_toInt_le, Int32.lt_iff_toInt_lt, ← Int32.toInt_inj, ← Int64.toInt_inj, Int32.toInt_toInt64, kc_0, kc_2, kc_7, kc_16] at *; (first | omega | ((try simp (disch := omega) only [k_bm64] at *); (try simp (disch := omega) only [k_bm] at *); (try simp (disch := omega) only [k_bm] at *); omega) | (simp only [Int.bmod] at *; omega))))
theorem lf_e_goes_2 (a0 : Int32) (a1 : Int32) (a2 : Int32) (a3 : Int32) (a4 : Int32) (a5 : Int32) (a6 : Nat → Nat → Int32) (a7 : Int32) (a8 : Int32) (a9 : Nat → Nat → Int32) (a10 : Int32) (h0 : 0 ≤ a0 ∧ a0 ≤ 7) (h1 : 0 ≤ a1 ∧ a1 ≤ 23) (h2 : 0 ≤ a2 ∧ a2 ≤ 100) (h3 : 0 ≤ (a3).toInt ∧ (a3).toInt ≤ 7) (h4 : 0 ≤ (a4).toInt ∧ (a4).toInt ≤ 7) (h5 : ¬ a5 = 8) (h6 : (a6 0) 1 = a7) (h7 : (a6 1) 1 = a8) (h8 : (a9 0) 0 = (a6 0) 0) (h9 : (a9 1) 0 = (a6 1) 0) (h10 : a2 ≤ 5) (h11 : (a10 + 0) ≤ 20) (h12 : ¬ 6 ≤ a5) (h13 : a5 = 7) : False := by
  first | rfl | assumption | decide | exact Or.inl rfl | (first | omega | (have hr0 := Int32.toInt_lt a0; have hs0 := Int32.le_toInt a0; have hr1 := Int32.toInt_lt a1; have hs1 := Int32.le_toInt a1; have hr2 := Int32.toInt_lt a2; have hs2 := Int32.le_toInt a2; have hr3 := Int32.toInt_lt a3; have hs3 := Int32.le_toInt a3; have hr4 := Int32.toInt_lt a4; have hs4 := Int32.le_toInt a4; have hr5 := Int32.toInt_lt a5; have hs5 := Int32.le_toInt a5; have hr6 := Int32.toInt_lt a7; have hs6 := Int32.le_toInt a7; have hr7 := Int32.toInt_lt a8; have hs7 := Int32.le_toInt a8; have hr8 := Int32.toInt_lt a10; have hs8 := Int32.le_toInt a10; simp only [Int64.toInt_add, Int64.toInt_sub, Int32.toInt_add, Int32.toInt_sub, Int32.toInt_mul, Int64.le_iff_toInt_le, Int64.lt_iff_toInt_lt, Int32.le_iff_toInt_le, Int32.lt_iff_toInt_lt, ← Int32.toInt_inj, ← Int64.toInt_inj, Int32.toInt_toInt64, kc_0, kc_1, kc_5, kc_6, kc_7, kc_8, kc_20, kc_23, kc_100] at *; (first | omega | ((try simp (disch := omega) only [k_bm64] at *); (try simp (disch := omega) only [k_bm] at *); (try simp (disch := omega) only [k_bm] at *); omega) | (simp only [Int.bmod] at *; omega))))
theorem lf_e_goes_3 (a0 : Int32) (a1 : Int32) (a2 : Int32) (a3 : Int32) (a4 : Int32) (a5 : Int32) (a6 : Nat → Nat → Int32) (a7 : Int32) (a8 : Int32) (a9 : Nat → Nat → Int32) (a10 : Int32) (h0 : 0 ≤ a0 ∧ a0 ≤ 7) (h1 : 0 ≤ a1 ∧ a1 ≤ 23) (h2 : 0 ≤ a2 ∧ a2 ≤ 100) (h3 : 0 ≤ (a3).toInt ∧ (a3).toInt ≤ 7) (h4 : 0 ≤ (a4).toInt ∧ (a4).toInt ≤ 7) (h5 : ¬ a5 = 8) (h6 : (a6 0) 1 = a7) (h7 : (a6 1) 1 = a8) (h8 : (a9 0) 0 = (a6 0) 0) (h9 : (a9 1) 0 = (a6 1) 0) (h10 : ¬ a2 ≤ 5) (h11 : (a10 + (a2 - 5)) ≤ 20) (h12 : ¬ 6 ≤ a5) (h13 : a5 = 7) : False := by
  first | rfl | assumption | decide | exact Or.inl rfl | (first | omega | (have hr0 := Int32.toInt_lt a0; have hs0 := Int32.le_toInt a0; have hr1 := Int32.toInt_lt a1; have hs1 := Int32.le_toInt a1; have hr2 := Int32.toInt_lt a2; have hs2 := Int32.le_toInt a2; have hr3 := Int32.toInt_lt a3; have hs3 := Int32.le_toInt a3; have hr4 := Int32.toInt_lt a4; have hs4 := Int32.le_toInt a4; have hr5 := Int32.toInt_lt a5; have hs5 := Int32.le_toInt a5; have hr6 := Int32.toInt_lt a7; have hs6 := Int32.le_toInt a7; have hr7 := Int32.toInt_lt a8; have hs7 := Int32.le_toInt a8; have hr8 := Int32.toInt_lt a10; have hs8 := Int32.le_toInt a10; simp only [Int64.toInt_add, Int64.toInt_sub, Int32.toInt_add, Int32.toInt_sub, Int32.toInt_mul, Int64.le_iff_toInt_le, Int64.lt_iff_toInt_lt, Int32.le_iff_toInt_le, Int32.lt_iff_toInt_lt, ← Int32.toInt_inj, ← Int64.toInt_inj, Int32.toInt_toInt64, kc_0, kc_1, kc_5, kc_6, kc_7, kc_8, kc_20, kc_23, kc_100] at *; (first | omega | ((try simp (disch := omega) only [k_bm64] at *); (try simp (disch := omega) only [k_bm] at *); (try simp (disch := omega) only [k_bm] at *); omega) | (simp only [Int.bmod] at *; omega))))
set_option maxHeartbeats 4000000 in
set_option maxRecDepth 100000 in
theorem e_goes (l : Launch) (dC : Nat → ClassId) (dI : Nat → Nat → Nat) (cI cJ cQ : ClassId) (sz : Nat) (hm : Nat) (p1 : Int32) (m1 : Int32) (h1 : Int32) (vFo : Nat) (vSi : Nat) (vIt : Nat) (vMo : Nat) (la : Int32) (vBy : Nat) (vTy : Nat) (mi : Int32) (vMi : Nat) (pn : Int32) (vPs : Nat) (gn : Int32) (vGs : Nat) (fn : Int32) (vFt : Nat) (le : Int32) (vTo : Nat) (kn : Int32) (fe : Int32) (en : Int32) (ca : Int32) (an : Int32) (co : Int32) (vPr : Nat) (vSt : Nat) (vFn : Nat) (sn : Int32) (vSg : Nat) (vAl : Nat) (dr : Int32) (qMi : Nat → Int32) (qPs : Nat → Int32) (qGs : Nat → Int32) (qPr : Nat → Int32) (qSt : Nat → Int32) (qFn : Nat → Int32) (hh0 : k_bd 2 0 7 qPr) (hh1 : 0 ≤ p1 ∧ p1 ≤ 7) (hh2 : 0 ≤ m1 ∧ m1 ≤ 23) (hh3 : 0 ≤ h1 ∧ h1 ≤ 100) : Met l yX12_goes (kW yX12_goes cX12_goes 7 (some .int)) { frames := 1, cells := 0, slots := 0, locals := 25 } (kPre dC dI cI cJ cQ sz [.ref hm, .int p1, .int m1, .int h1] [(kX12 hm vFo vSi vIt vMo la vBy vTy mi vMi pn vPs gn vGs fn vFt le vTo kn fe en ca an co vPr vSt vFn sn vSg vAl dr), (kAI vMi cI 24 qMi), (kAI vPs cI 32 qPs), (kAI vGs cI 16 qGs), (kAI vPr cI 2 qPr), (kAI vSt cI 2 qSt), (kAI vFn cI 2 qFn)]) (va_Qi (fun (r : Int32) (u : kS) => (k_bd 2 0 7 (u.2.1 0)) ∧ (k_rs r (u.1 0) (u.1 1) (kPS qGs (u.2.1 0) (u.2.1 1) (u.2.1 2)) (kRs (kM qMi m1) (kP3 qPs p1) (5 * (kP2 qPs p1)) h1 an co (kAd (kM qMi m1) le ca m1 (kP0 qPs p1) (kP1 qPs p1) h1) (kPS qGs qPr qSt qFn)))) (fun (u : kS) t₀ => kB dC dI cI cJ cQ (va_A [(kX12 hm vFo vSi vIt vMo la vBy vTy mi vMi pn vPs gn vGs fn vFt le vTo kn fe en ca an co vPr vSt vFn sn vSg vAl dr), (kAI vMi cI 24 qMi), (kAI vPs cI 32 qPs), (kAI vGs cI 16 qGs), (kAI vPr cI 2 qPr), (kAI vSt cI 2 qSt), (kAI vFn cI 2 qFn)] sz) [(kX12 hm vFo vSi vIt vMo la vBy vTy mi vMi pn vPs gn vGs fn vFt le vTo kn fe en ca (u.1 0) (u.1 1) vPr vSt vFn sn vSg vAl dr), (kAI vMi cI 24 qMi), (kAI vPs cI 32 qPs), (kAI vGs cI 16 qGs), (kAI vPr cI 2 (u.2.1 0)), (kAI vSt cI 2 (u.2.1 1)), (kAI vFn cI 2 (u.2.1 2))] t₀) (va_A [(kX12 hm vFo vSi vIt vMo la vBy vTy mi vMi pn vPs gn vGs fn vFt le vTo kn fe en ca an co vPr vSt vFn sn vSg vAl dr), (kAI vMi cI 24 qMi), (kAI vPs cI 32 qPs), (kAI vGs cI 16 qGs), (kAI vPr cI 2 qPr), (kAI vSt cI 2 qSt), (kAI vFn cI 2 qFn)] sz)) 0 0 (va_A [(kX12 hm vFo vSi vIt vMo la vBy vTy mi vMi pn vPs gn vGs fn vFt le vTo kn fe en ca an co vPr vSt vFn sn vSg vAl dr), (kAI vMi cI 24 qMi), (kAI vPs cI 32 qPs), (kAI vGs cI 16 qGs), (kAI vPr cI 2 qPr), (kAI vSt cI 2 qSt), (kAI vFn cI 2 qFn)] sz) := by
  refine Met.ofW (cc := cX12_goes) (maxL := 7) (ret := (some .int)) (by decide) rfl ?_
  intro p₀ e₀ s₀ m₀ args below meth c₀ s₁ B hml hv₀
  obtain ⟨rfl, hsz, hP, hK, hD0, hN⟩ := hv₀
  have hx₀ := B.exec
  have hb := B.bytes
  have hr := B.returns
  have hts := atoms_spec (ws := (kW yX12_goes cX12_goes 7 (some .int))) B.pre
  have hts := fun w h => hts w (List.mem_cons_of_mem _ h)
  have hown : s₀.vm.findClass RX12 = some m₀.cls := findClass_of_methodNamed B.named
  have hlocks := B.notSynchronized
  subst hsz
  have hD := hD0.self (sz := s₀.heap.size)
  generalize hAe : va_A [(kX12 hm vFo vSi vIt vMo la vBy vTy mi vMi pn vPs gn vGs fn vFt le vTo kn fe en ca an co vPr vSt vFn sn vSg vAl dr), (kAI vMi cI 24 qMi), (kAI vPs cI 32 qPs), (kAI vGs cI 16 qGs), (kAI vPr cI 2 qPr), (kAI vSt cI 2 qSt), (kAI vFn cI 2 qFn)] s₀.heap.size = A at hD ⊢
  have hA : ∀ q : Nat, s₀.heap.size ≤ q → A q := fun q h => by rw [← hAe]; exact Or.inr h
  have hS : va_S A s₀.heap s₀.heap [] := va_S.rf
  have hP : va_P (dC, dI) vwCl [(kX12 hm vFo vSi vIt vMo la vBy vTy mi vMi pn vPs gn vGs fn vFt le vTo kn fe en ca an co vPr vSt vFn sn vSg vAl dr), (kAI vMi cI 24 qMi), (kAI vPs cI 32 qPs), (kAI vGs cI 16 qGs), (kAI vPr cI 2 qPr), (kAI vSt cI 2 qSt), (kAI vFn cI 2 qFn)] s₀.heap := hP
  have hl := lv_entry ([.ref hm, .int p1, .int m1, .int h1]) (n := 7) (Nat.le_of_ble_eq_true rfl)
  rw [lg_entry_eq]
  generalize (lg_sl ([.ref hm, .int p1, .int m1, .int h1]) ++ List.replicate (7 - (lg_sl ([.ref hm, .int p1, .int m1, .int h1])).length) Slot.unset).toArray = ls at hl ⊢
  have hl : lv_has ls 7 [(0, .ref hm), (1, .int p1), (2, .int m1), (3, .int h1)] := hl
  obtain ⟨H, hH⟩ : ∃ z : Heap, z = s₀.heap := ⟨_, rfl⟩
  rw [← hH] at hP
  have hS : va_S A s₀.heap H [] := by rw [hH]; exact hS
  refine k_heap hH ?_
  have hD : va_D A [(kX12 hm vFo vSi vIt vMo la vBy vTy mi vMi pn vPs gn vGs fn vFt le vTo kn fe en ca an co vPr vSt vFn sn vSg vAl dr), (kAI vMi cI 24 qMi), (kAI vPs cI 32 qPs), (kAI vGs cI 16 qGs), (kAI vPr cI 2 qPr), (kAI vSt cI 2 qSt), (kAI vFn cI 2 qFn)] := hD
  obtain ⟨locs, hlo⟩ : ∃ z : List Loc, z = [] := ⟨_, rfl⟩
  rw [← hlo] at hS ⊢
  clear hlo hH hAe hD0
  have hp0 : 0 ≤ (qPr 0).toInt ∧ (qPr 0).toInt ≤ 7 := hh0 0 (by decide)
  have hp1 : 0 ≤ (qPr 1).toInt ∧ (qPr 1).toInt ≤ 7 := hh0 1 (by decide)
  refine lv_aload_n hx₀ hb dX12_goes_0 rfl (lv_at hl 0 rfl) ?_
  refine va_get (D := (dC, dI)) (ci := 11) (v := .ref vMi) (C := RX12) (T := TX12) (N := 30) hx₀ hb hts inlX12 hown hK hP 0 rfl rfl 8 (by decide) (hts (.fieldLink RX12 28 "BittenStickModel" "mile" "[I") wd_121) (fun _ h9 => h9) rfl dX12_goes_1 ?_
  refine lv_iload_n hx₀ hb dX12_goes_4 rfl (lv_at hl 2 rfl) ?_
  refine va_iald hx₀ hb hK hP 1 0 rfl rfl (vp_in_iff.mpr (lf_g_goes_1 m1 hh2)) dX12_goes_5 ?_
  refine lv_topi (fun y_1 ey_1 => ?_)
  refine lv_istore (lv' := [(4, .int y_1), (0, .ref hm), (1, .int p1), (2, .int m1), (3, .int h1)]) hx₀ hb dX12_goes_6 hl (by decide) rfl (fun ls hl => ?_)
  refine lv_iload hx₀ hb dX12_goes_8 (lv_at hl 0 rfl) ?_
  refine lv_bipush (v := 8) hx₀ hb dX12_goes_10 (by decide +kernel) ?_
  refine lv_icmp_ne (tgt := 19) hx₀ hb dX12_goes_12 (by decide) (fun c_2 => ?_) (fun c_2 => ?_)
  · refine lv_aload_n hx₀ hb dX12_goes_19 rfl (lv_at hl 1 rfl) ?_
    refine lv_iconst (v := 0) hx₀ hb dX12_goes_20 (by decide +kernel) ?_
    obtain ⟨hPc, hDc, hFc, hC⟩ := k_cw (wc := [(kX12 hm vFo vSi vIt vMo la vBy vTy mi vMi pn vPs gn vGs fn vFt le vTo kn fe en ca an co vPr vSt vFn sn vSg vAl dr), (kAI vGs cI 16 qGs), (kAI vPr cI 2 qPr), (kAI vSt cI 2 qSt), (kAI vFn cI 2 qFn)]) hP hD hS hA [0, 3, 4, 5, 6] (by decide +kernel) rfl
    refine va_callv (va_runV (As := [.int 0]) (rest := []) ⟨hx₀, hb, hml, hown, hts⟩ (g_tires0 l dC dI cI cJ cQ H.size hm vFo vSi vIt vMo la vBy vTy mi vMi pn vPs gn vGs fn vFt le vTo kn fe en ca an co vPr vSt vFn sn vSg vAl dr qGs qPr qSt qFn (hh0)) (cwV 1 hts (kGV wd_557 wd_554 wd_555 wd_556 wd_5) rfl rfl rfl (by decide +kernel) ⟨Nat.le_of_ble_eq_true rfl, Nat.le_of_ble_eq_true rfl⟩) (k_preV11 (q0 := 0) hK hPc hDc hN rfl) rfl rfl hl.1 rfl (lv_room (Nat.le_of_ble_eq_true rfl)) dX12_goes_21 ⟨by decide +kernel, by decide +kernel⟩) hS (fun q _ h => hFc q h) hFc (fun u₀ t₀ H1 locs ht hvm hw hB hz1 hk1 hS => ?_)
    obtain ⟨g_4, ga_5, gl_6, gb_7, gp_8⟩ := u₀
    obtain ⟨hP1, hK1, hD1⟩ := hB
    rw [ht] at hP1
    have hJ := k_jn (wr := [(kAI vMi cI 24 qMi), (kAI vPs cI 32 qPs)]) (wt := [(kAI vMi cI 24 qMi), (kAI vPs cI 32 qPs), (kX12 hm vFo vSi vIt vMo la vBy vTy mi vMi pn vPs gn vGs fn vFt le vTo kn fe en ca an co vPr vSt vFn sn vSg vAl dr), (kAI vGs cI 16 qGs), (kAI vPr cI 2 qPr), (kAI vSt cI 2 (ga_5 0)), (kAI vFn cI 2 (ga_5 1))]) hP hD hC [1, 2] rfl (by decide +kernel) (by decide +kernel) hk1 hFc hP1 hD1 rfl
    clear hP hD hPc hDc hFc hC hP1 hD1 hK1 hz1 hk1 hvm ht
    obtain ⟨hP, hD⟩ := hJ
    generalize H1 = H at hP hS ⊢
    try dsimp only at hw
    obtain ⟨c_9, c_10, c_11, c_12⟩ := hw
    refine lv_aload_n hx₀ hb dX12_goes_24 rfl (lv_at hl 1 rfl) ?_
    refine lv_iconst (v := 1) hx₀ hb dX12_goes_25 (by decide +kernel) ?_
    obtain ⟨hPc, hDc, hFc, hC⟩ := k_cw (wc := [(kX12 hm vFo vSi vIt vMo la vBy vTy mi vMi pn vPs gn vGs fn vFt le vTo kn fe en ca an co vPr vSt vFn sn vSg vAl dr), (kAI vGs cI 16 qGs), (kAI vPr cI 2 qPr), (kAI vSt cI 2 (ga_5 0)), (kAI vFn cI 2 (ga_5 1))]) hP hD hS hA [2, 3, 4, 5, 6] (by decide +kernel) rfl
    refine va_callv (va_runV (As := [.int 1]) (rest := []) ⟨hx₀, hb, hml, hown, hts⟩ (g_tires1 l dC dI cI cJ cQ H.size hm vFo vSi vIt vMo la vBy vTy mi vMi pn vPs gn vGs fn vFt le vTo kn fe en ca an co vPr vSt vFn sn vSg vAl dr qGs qPr (ga_5 0) (ga_5 1) (hh0)) (cwV 1 hts (kGV wd_557 wd_554 wd_555 wd_556 wd_5) rfl rfl rfl (by decide +kernel) ⟨Nat.le_of_ble_eq_true rfl, Nat.le_of_ble_eq_true rfl⟩) (k_preV11 (q0 := 0) hK hPc hDc hN rfl) rfl rfl hl.1 rfl (lv_room (Nat.le_of_ble_eq_true rfl)) dX12_goes_26 ⟨by decide +kernel, by decide +kernel⟩) hS (fun q _ h => hFc q h) hFc (fun u₀ t₀ H1 locs ht hvm hw hB hz1 hk1 hS => ?_)
    obtain ⟨g_14, ga_15, gl_16, gb_17, gp_18⟩ := u₀
    obtain ⟨hP1, hK1, hD1⟩ := hB
    rw [ht] at hP1
    have hJ := k_jn (wr := [(kAI vMi cI 24 qMi), (kAI vPs cI 32 qPs)]) (wt := [(kAI vMi cI 24 qMi), (kAI vPs cI 32 qPs), (kX12 hm vFo vSi vIt vMo la vBy vTy mi vMi pn vPs gn vGs fn vFt le vTo kn fe en ca an co vPr vSt vFn sn vSg vAl dr), (kAI vGs cI 16 qGs), (kAI vPr cI 2 qPr), (kAI vSt cI 2 (ga_15 0)), (kAI vFn cI 2 (ga_15 1))]) hP hD hC [0, 1] rfl (by decide +kernel) (by decide +kernel) hk1 hFc hP1 hD1 rfl
    clear hP hD hPc hDc hFc hC hP1 hD1 hK1 hz1 hk1 hvm ht
    obtain ⟨hP, hD⟩ := hJ
    generalize H1 = H at hP hS ⊢
    try dsimp only at hw
    obtain ⟨c_19, c_20, c_21, c_22⟩ := hw
    refine lv_aload_n hx₀ hb dX12_goes_29 rfl (lv_at hl 1 rfl) ?_
    refine va_get (D := (dC, dI)) (ci := 11) (v := .ref vPs) (C := RX12) (T := TX12) (N := 30) hx₀ hb hts inlX12 hown hK hP 2 rfl rfl 10 (by decide) (hts (.fieldLink RX12 31 "BittenStickModel" "passenger" "[I") wd_122) (fun _ h9 => h9) rfl dX12_goes_30 ?_
    refine lv_iconst (v := 4) hx₀ hb dX12_goes_33 (by decide +kernel) ?_
    refine lv_iload_n hx₀ hb dX12_goes_34 rfl (lv_at hl 2 rfl) ?_
    refine lv_imul hx₀ hb dX12_goes_35 ?_
    refine lv_iconst (v := 3) hx₀ hb dX12_goes_36 (by decide +kernel) ?_
    refine lv_iadd hx₀ hb dX12_goes_37 ?_
    refine va_iald hx₀ hb hK hP 1 0 rfl rfl (vp_in_iff.mpr (lf_g_goes_2 p1 hh1)) dX12_goes_38 ?_
    refine k_topi (v := kP3 qPs p1) rfl ?_
    refine lv_istore (lv' := [(5, .int (kP3 qPs p1)), (4, .int y_1), (0, .ref hm), (1, .int p1), (2, .int m1), (3, .int h1)]) hx₀ hb dX12_goes_39 hl (by decide) rfl (fun ls hl => ?_)
    refine lv_aload_n hx₀ hb dX12_goes_41 rfl (lv_at hl 2 rfl) ?_
    refine va_get (D := (dC, dI)) (ci := 11) (v := .ref vSt) (C := RX12) (T := TX12) (N := 30) hx₀ hb hts inlX12 hown hK hP 2 rfl rfl 24 (by decide) (hts (.fieldLink RX12 46 "BittenStickModel" "strong" "[I") wd_127) (fun _ h9 => h9) rfl dX12_goes_42 ?_
    refine lv_iconst (v := 0) hx₀ hb dX12_goes_45 (by decide +kernel) ?_
    refine va_iald hx₀ hb hK hP 5 0 rfl rfl (by unfold vp_in; decide +kernel) dX12_goes_46 ?_
    refine k_topi (v := (ga_15 0) 0) rfl ?_
    refine lv_iload hx₀ hb dX12_goes_47 (lv_at hl 0 rfl) ?_
    refine lv_iconst (v := 1) hx₀ hb dX12_goes_49 (by decide +kernel) ?_
    refine lv_iadd hx₀ hb dX12_goes_50 ?_
    refine lv_iconst (v := 2) hx₀ hb dX12_goes_51 (by decide +kernel) ?_
    refine lv_idiv hx₀ hb dX12_goes_52 (by decide +kernel) ?_
    refine lv_icmp_lt (tgt := 69) hx₀ hb dX12_goes_53 (by decide) (fun c_23 => ?_) (fun c_23 => ?_)
    · refine lv_iconst (v := 1) hx₀ hb dX12_goes_69 (by decide +kernel) ?_
      obtain ⟨hP9, hD9⟩ := k_c2 (wc := [(kX12 hm vFo vSi vIt vMo la vBy vTy mi vMi pn vPs gn vGs fn vFt le vTo kn fe en ca an co vPr vSt vFn sn vSg vAl dr), (kAI vMi cI 24 qMi), (kAI vPs cI 32 qPs), (kAI vGs cI 16 qGs), (kAI vPr cI 2 qPr), (kAI vSt cI 2 (ga_15 0)), (kAI vFn cI 2 (ga_15 1))]) hP hD [2, 0, 1, 3, 4, 5, 6] (by decide +kernel) rfl
      exact W.iret (v := 1) hx₀ hb hr (fun t₀ ht hW => ⟨⟨1, (k_fn [an, co], k_fa [qPr, ga_15 0, ga_15 1], k_fl [], k_fL [], k_fp []), rfl, ⟨hh0, (by rw [show kM qMi m1 = y_1 from ey_1.symm]; exact kRs_1 ((kW_o c_2).trans (kT2 (c_21.trans c_9) (c_22.trans c_10) (c_19.trans (by rw [c_11, c_12])) (c_20.trans (by rw [c_12])))) (Or.inl c_23))⟩, by rw [ht]; exact hP9, va_K.moved hW.alike hK, hD9⟩, hS.F ht⟩) hS.2.2 dX12_goes_70
    · refine lv_aload_n hx₀ hb dX12_goes_56 rfl (lv_at hl 2 rfl) ?_
      refine va_get (D := (dC, dI)) (ci := 11) (v := .ref vSt) (C := RX12) (T := TX12) (N := 30) hx₀ hb hts inlX12 hown hK hP 2 rfl rfl 24 (by decide) (hts (.fieldLink RX12 46 "BittenStickModel" "strong" "[I") wd_127) (fun _ h9 => h9) rfl dX12_goes_57 ?_
      refine lv_iconst (v := 1) hx₀ hb dX12_goes_60 (by decide +kernel) ?_
      refine va_iald hx₀ hb hK hP 5 0 rfl rfl (by unfold vp_in; decide +kernel) dX12_goes_61 ?_
      refine k_topi (v := (ga_15 0) 1) rfl ?_
      refine lv_iload hx₀ hb dX12_goes_62 (lv_at hl 0 rfl) ?_
      refine lv_iconst (v := 2) hx₀ hb dX12_goes_64 (by decide +kernel) ?_
      refine lv_idiv hx₀ hb dX12_goes_65 (by decide +kernel) ?_
      refine lv_icmp_ge (tgt := 71) hx₀ hb dX12_goes_66 (by decide) (fun c_24 => ?_) (fun c_24 => ?_)
      · refine lv_aload_n hx₀ hb dX12_goes_71 rfl (lv_at hl 2 rfl) ?_
        refine lv_dup hx₀ hb dX12_goes_72 rfl ?_
        refine va_get (D := (dC, dI)) (ci := 11) (v := .int co) (C := RX12) (T := TX12) (N := 30) hx₀ hb hts inlX12 hown hK hP 2 rfl rfl 22 (by decide) (hts (.fieldLink RX12 177 "BittenStickModel" "cold" "I") wd_545) (fun _ h9 => h9) rfl dX12_goes_73 ?_
        refine lv_iload_n hx₀ hb dX12_goes_76 rfl (lv_at hl 5 rfl) ?_
        refine lv_iconst (v := 5) hx₀ hb dX12_goes_77 (by decide +kernel) ?_
        refine lv_icmp_le (tgt := 87) hx₀ hb dX12_goes_78 (by decide) (fun c_25 => ?_) (fun c_25 => ?_)
        · refine lv_iconst (v := 0) hx₀ hb dX12_goes_87 (by decide +kernel) ?_
          refine lv_iadd hx₀ hb dX12_goes_88 ?_
          refine va_put (D := (dC, dI)) (ci := 11) (v := .int (co + 0)) (ty := .int) (C := RX12) (T := TX12) (N := 30) hx₀ hb hts inlX12 tyX12 tyX12_ok nmX12 hown hK hP hD hS 2 rfl rfl 22 (by decide) (hts (.fieldLink RX12 177 "BittenStickModel" "cold" "I") wd_545) (fun _ h9 => h9) rfl (by decide +kernel) rfl rfl (Nat.le_of_ble_eq_true rfl) dX12_goes_89 ?_
          clear hP hD hS
          intro H locs hP hD hS
          replace hP := k_w2 (wt := [(kAI vMi cI 24 qMi), (kAI vPs cI 32 qPs), (kX12 hm vFo vSi vIt vMo la vBy vTy mi vMi pn vPs gn vGs fn vFt le vTo kn fe en ca an (co + 0) vPr vSt vFn sn vSg vAl dr), (kAI vGs cI 16 qGs), (kAI vPr cI 2 qPr), (kAI vSt cI 2 (ga_15 0)), (kAI vFn cI 2 (ga_15 1))]) hP hD rfl
          replace hD := hP.2
          replace hP := hP.1
          refine lv_aload_n hx₀ hb dX12_goes_92 rfl (lv_at hl 2 rfl) ?_
          refine va_get (D := (dC, dI)) (ci := 11) (v := .int (co + 0)) (C := RX12) (T := TX12) (N := 30) hx₀ hb hts inlX12 hown hK hP 2 rfl rfl 22 (by decide) (hts (.fieldLink RX12 177 "BittenStickModel" "cold" "I") wd_545) (fun _ h9 => h9) rfl dX12_goes_93 ?_
          refine lv_bipush (v := 20) hx₀ hb dX12_goes_96 (by decide +kernel) ?_
          refine lv_icmp_le (tgt := 103) hx₀ hb dX12_goes_98 (by decide) (fun c_26 => ?_) (fun c_26 => ?_)
          · refine lv_iload hx₀ hb dX12_goes_103 (lv_at hl 1 rfl) ?_
            refine lv_bipush (v := 6) hx₀ hb dX12_goes_105 (by decide +kernel) ?_
            refine lv_icmp_ge (tgt := 150) hx₀ hb dX12_goes_107 (by decide) (fun c_27 => ?_) (fun c_27 => ?_)
            · refine lv_aload_n hx₀ hb dX12_goes_150 rfl (lv_at hl 2 rfl) ?_
              refine va_get (D := (dC, dI)) (ci := 11) (v := .int an) (C := RX12) (T := TX12) (N := 30) hx₀ hb hts inlX12 hown hK hP 2 rfl rfl 21 (by decide) (hts (.fieldLink RX12 184 "BittenStickModel" "anger" "I") wd_544) (fun _ h9 => h9) rfl dX12_goes_151 ?_
              refine lv_iconst (v := 5) hx₀ hb dX12_goes_154 (by decide +kernel) ?_
              refine lv_aload_n hx₀ hb dX12_goes_155 rfl (lv_at hl 2 rfl) ?_
              refine va_get (D := (dC, dI)) (ci := 11) (v := .ref vPs) (C := RX12) (T := TX12) (N := 30) hx₀ hb hts inlX12 hown hK hP 2 rfl rfl 10 (by decide) (hts (.fieldLink RX12 31 "BittenStickModel" "passenger" "[I") wd_122) (fun _ h9 => h9) rfl dX12_goes_156 ?_
              refine lv_iconst (v := 4) hx₀ hb dX12_goes_159 (by decide +kernel) ?_
              refine lv_iload_n hx₀ hb dX12_goes_160 rfl (lv_at hl 3 rfl) ?_
              refine lv_imul hx₀ hb dX12_goes_161 ?_
              refine lv_iconst (v := 2) hx₀ hb dX12_goes_162 (by decide +kernel) ?_
              refine lv_iadd hx₀ hb dX12_goes_163 ?_
              refine va_iald hx₀ hb hK hP 1 0 rfl rfl (vp_in_iff.mpr (lf_g_goes_3 p1 hh1)) dX12_goes_164 ?_
              refine k_topi (v := kP2 qPs p1) rfl ?_
              refine lv_imul hx₀ hb dX12_goes_165 ?_
              refine lv_icmp_le (tgt := 171) hx₀ hb dX12_goes_166 (by decide) (fun c_28 => ?_) (fun c_28 => ?_)
              · refine lv_iload hx₀ hb dX12_goes_171 (lv_at hl 1 rfl) ?_
                refine lv_bipush (v := 7) hx₀ hb dX12_goes_173 (by decide +kernel) ?_
                refine lv_icmp_ne (tgt := 242) hx₀ hb dX12_goes_175 (by decide) (fun c_29 => ?_) (fun c_29 => ?_)
                · refine lv_iconst (v := 0) hx₀ hb dX12_goes_242 (by decide +kernel) ?_
                  obtain ⟨hP9, hD9⟩ := k_c2 (wc := [(kX12 hm vFo vSi vIt vMo la vBy vTy mi vMi pn vPs gn vGs fn vFt le vTo kn fe en ca an (co + 0) vPr vSt vFn sn vSg vAl dr), (kAI vMi cI 24 qMi), (kAI vPs cI 32 qPs), (kAI vGs cI 16 qGs), (kAI vPr cI 2 qPr), (kAI vSt cI 2 (ga_15 0)), (kAI vFn cI 2 (ga_15 1))]) hP hD [2, 0, 1, 3, 4, 5, 6] (by decide +kernel) rfl
                  exact W.iret (v := 0) hx₀ hb hr (fun t₀ ht hW => ⟨⟨0, (k_fn [an, (co + 0)], k_fa [qPr, ga_15 0, ga_15 1], k_fl [], k_fL [], k_fp []), rfl, ⟨hh0, (by rw [show kM qMi m1 = y_1 from ey_1.symm]; exact kRs_0 ((kW_o c_2).trans (kT2 (c_21.trans c_9) (c_22.trans c_10) (c_19.trans (by rw [c_11, c_12])) (c_20.trans (by rw [c_12])))) (fun z => z.elim c_23 (Int32.not_lt.mpr c_24)) (kCh_5n hh3 c_25) (Int32.not_lt.mpr c_26) (kAd_n (fun z => (Int32.not_lt.mpr c_27) z.1)) (Int32.not_lt.mpr c_28) c_29)⟩, by rw [ht]; exact hP9, va_K.moved hW.alike hK, hD9⟩, hS.F ht⟩) hS.2.2 dX12_goes_243
                · refine lv_aload_n hx₀ hb dX12_goes_178 rfl (lv_at hl 2 rfl) ?_
                  refine lv_iconst (v := 0) hx₀ hb dX12_goes_179 (by decide +kernel) ?_
                  refine va_put (D := (dC, dI)) (ci := 11) (v := .int 0) (ty := .int) (C := RX12) (T := TX12) (N := 30) hx₀ hb hts inlX12 tyX12 tyX12_ok nmX12 hown hK hP hD hS 2 rfl rfl 21 (by decide) (hts (.fieldLink RX12 184 "BittenStickModel" "anger" "I") wd_544) (fun _ h9 => h9) rfl (by decide +kernel) rfl rfl (Nat.le_of_ble_eq_true rfl) dX12_goes_180 ?_
                  clear hP hD hS
                  intro H locs hP hD hS
                  replace hP := k_w2 (wt := [(kAI vMi cI 24 qMi), (kAI vPs cI 32 qPs), (kX12 hm vFo vSi vIt vMo la vBy vTy mi vMi pn vPs gn vGs fn vFt le vTo kn fe en ca 0 (co + 0) vPr vSt vFn sn vSg vAl dr), (kAI vGs cI 16 qGs), (kAI vPr cI 2 qPr), (kAI vSt cI 2 (ga_15 0)), (kAI vFn cI 2 (ga_15 1))]) hP hD rfl
                  replace hD := hP.2
                  replace hP := hP.1
                  refine lv_aload_n hx₀ hb dX12_goes_183 rfl (lv_at hl 2 rfl) ?_
                  refine lv_iconst (v := 0) hx₀ hb dX12_goes_184 (by decide +kernel) ?_
                  refine va_put (D := (dC, dI)) (ci := 11) (v := .int 0) (ty := .int) (C := RX12) (T := TX12) (N := 30) hx₀ hb hts inlX12 tyX12 tyX12_ok nmX12 hown hK hP hD hS 2 rfl rfl 22 (by decide) (hts (.fieldLink RX12 177 "BittenStickModel" "cold" "I") wd_545) (fun _ h9 => h9) rfl (by decide +kernel) rfl rfl (Nat.le_of_ble_eq_true rfl) dX12_goes_185 ?_
                  clear hP hD hS
                  intro H locs hP hD hS
                  replace hP := k_w2 (wt := [(kAI vMi cI 24 qMi), (kAI vPs cI 32 qPs), (kX12 hm vFo vSi vIt vMo la vBy vTy mi vMi pn vPs gn vGs fn vFt le vTo kn fe en ca 0 0 vPr vSt vFn sn vSg vAl dr), (kAI vGs cI 16 qGs), (kAI vPr cI 2 qPr), (kAI vSt cI 2 (ga_15 0)), (kAI vFn cI 2 (ga_15 1))]) hP hD rfl
                  replace hD := hP.2
                  replace hP := hP.1
                  refine lv_iconst (v := 0) hx₀ hb dX12_goes_188 (by decide +kernel) ?_
                  refine lv_istore (lv' := [(6, .int 0), (5, .int (kP3 qPs p1)), (4, .int y_1), (0, .ref hm), (1, .int p1), (2, .int m1), (3, .int h1)]) hx₀ hb dX12_goes_189 hl (by decide) rfl (fun ls hl => ?_)
                  refine lv_iload hx₀ hb dX12_goes_191 (lv_at hl 0 rfl) ?_
                  refine lv_iconst (v := 2) hx₀ hb dX12_goes_193 (by decide +kernel) ?_
                  refine lv_icmp_ge (tgt := 242) hx₀ hb dX12_goes_194 (by decide) (fun c9 => absurd c9 (by decide +kernel)) (fun _ => ?_)
                  refine lv_aload_n hx₀ hb dX12_goes_197 rfl (lv_at hl 3 rfl) ?_
                  refine va_get (D := (dC, dI)) (ci := 11) (v := .ref vSt) (C := RX12) (T := TX12) (N := 30) hx₀ hb hts inlX12 hown hK hP 2 rfl rfl 24 (by decide) (hts (.fieldLink RX12 46 "BittenStickModel" "strong" "[I") wd_127) (fun _ h9 => h9) rfl dX12_goes_198 ?_
                  refine lv_iload hx₀ hb dX12_goes_201 (lv_at hl 0 rfl) ?_
                  refine lv_dup2_11 hx₀ hb dX12_goes_203 rfl rfl ?_
                  refine va_iald hx₀ hb hK hP 5 0 rfl rfl (by unfold vp_in; decide +kernel) dX12_goes_204 ?_
                  refine k_topi (v := (ga_15 0) 0) rfl ?_
                  refine lv_aload_n hx₀ hb dX12_goes_205 rfl (lv_at hl 3 rfl) ?_
                  refine va_get (D := (dC, dI)) (ci := 11) (v := .ref vSt) (C := RX12) (T := TX12) (N := 30) hx₀ hb hts inlX12 hown hK hP 2 rfl rfl 24 (by decide) (hts (.fieldLink RX12 46 "BittenStickModel" "strong" "[I") wd_127) (fun _ h9 => h9) rfl dX12_goes_206 ?_
                  refine lv_iload hx₀ hb dX12_goes_209 (lv_at hl 0 rfl) ?_
                  refine va_iald hx₀ hb hK hP 5 0 rfl rfl (by unfold vp_in; decide +kernel) dX12_goes_211 ?_
                  refine k_topi (v := (ga_15 0) 0) rfl ?_
                  refine lv_aload_n hx₀ hb dX12_goes_212 rfl (lv_at hl 3 rfl) ?_
                  refine va_get (D := (dC, dI)) (ci := 11) (v := .ref vGs) (C := RX12) (T := TX12) (N := 30) hx₀ hb hts inlX12 hown hK hP 2 rfl rfl 12 (by decide) (hts (.fieldLink RX12 34 "BittenStickModel" "goose" "[I") wd_123) (fun _ h9 => h9) rfl dX12_goes_213 ?_
                  refine lv_iconst (v := 2) hx₀ hb dX12_goes_216 (by decide +kernel) ?_
                  refine lv_aload_n hx₀ hb dX12_goes_217 rfl (lv_at hl 3 rfl) ?_
                  refine va_get (D := (dC, dI)) (ci := 11) (v := .ref vPr) (C := RX12) (T := TX12) (N := 30) hx₀ hb hts inlX12 hown hK hP 2 rfl rfl 23 (by decide) (hts (.fieldLink RX12 43 "BittenStickModel" "pair" "[I") wd_126) (fun _ h9 => h9) rfl dX12_goes_218 ?_
                  refine lv_iload hx₀ hb dX12_goes_221 (lv_at hl 0 rfl) ?_
                  refine va_iald hx₀ hb hK hP 4 0 rfl rfl (by unfold vp_in; decide +kernel) dX12_goes_223 ?_
                  refine k_topi (v := qPr 0) rfl ?_
                  refine lv_imul hx₀ hb dX12_goes_224 ?_
                  refine va_iald hx₀ hb hK hP 3 0 rfl rfl (vp_in_iff.mpr (lf_e_goes_1 (qPr 0) hp0)) dX12_goes_225 ?_
                  refine k_topi (v := kG0 qGs (qPr 0)) rfl ?_
                  refine lv_icmp_ge (tgt := 233) hx₀ hb dX12_goes_226 (by decide) (fun c_30 => ?_) (fun c_30 => ?_)
                  · refine lv_iconst (v := 0) hx₀ hb dX12_goes_233 (by decide +kernel) ?_
                    refine lv_iadd hx₀ hb dX12_goes_234 ?_
                    refine va_iast hx₀ hb hK hP hD hS 5 0 rfl rfl (by unfold vp_in; decide +kernel) dX12_goes_235 ?_
                    clear hP hD hS
                    intro H locs hP hD hS
                    replace hP := k_w2 (wt := [(kAI vMi cI 24 qMi), (kAI vPs cI 32 qPs), (kX12 hm vFo vSi vIt vMo la vBy vTy mi vMi pn vPs gn vGs fn vFt le vTo kn fe en ca 0 0 vPr vSt vFn sn vSg vAl dr), (kAI vGs cI 16 qGs), (kAI vPr cI 2 qPr), (kAI vSt cI 2 (upd (ga_15 0) (0 : Int32).toNatClampNeg (((ga_15 0) 0) + 0))), (kAI vFn cI 2 (ga_15 1))]) hP hD rfl
                    replace hD := hP.2
                    replace hP := hP.1
                    refine lv_iinc (v := 1) (lv' := [(6, .int 1), (5, .int (kP3 qPs p1)), (4, .int y_1), (0, .ref hm), (1, .int p1), (2, .int m1), (3, .int h1)]) hx₀ hb dX12_goes_236 hl (k := 0) rfl (by decide +kernel) (by decide) rfl (fun ls hl => ?_)
                    refine lv_goto (tgt := 191) hx₀ hb dX12_goes_239 (by decide) ?_
                    refine lv_iload hx₀ hb dX12_goes_191 (lv_at hl 0 rfl) ?_
                    refine lv_iconst (v := 2) hx₀ hb dX12_goes_193 (by decide +kernel) ?_
                    refine lv_icmp_ge (tgt := 242) hx₀ hb dX12_goes_194 (by decide) (fun c9 => absurd c9 (by decide +kernel)) (fun _ => ?_)
                    refine lv_aload_n hx₀ hb dX12_goes_197 rfl (lv_at hl 3 rfl) ?_
                    refine va_get (D := (dC, dI)) (ci := 11) (v := .ref vSt) (C := RX12) (T := TX12) (N := 30) hx₀ hb hts inlX12 hown hK hP 2 rfl rfl 24 (by decide) (hts (.fieldLink RX12 46 "BittenStickModel" "strong" "[I") wd_127) (fun _ h9 => h9) rfl dX12_goes_198 ?_
                    refine lv_iload hx₀ hb dX12_goes_201 (lv_at hl 0 rfl) ?_
                    refine lv_dup2_11 hx₀ hb dX12_goes_203 rfl rfl ?_
                    refine va_iald hx₀ hb hK hP 5 0 rfl rfl (by unfold vp_in; decide +kernel) dX12_goes_204 ?_
                    refine k_topi (v := (ga_15 0) 1) rfl ?_
                    refine lv_aload_n hx₀ hb dX12_goes_205 rfl (lv_at hl 3 rfl) ?_
                    refine va_get (D := (dC, dI)) (ci := 11) (v := .ref vSt) (C := RX12) (T := TX12) (N := 30) hx₀ hb hts inlX12 hown hK hP 2 rfl rfl 24 (by decide) (hts (.fieldLink RX12 46 "BittenStickModel" "strong" "[I") wd_127) (fun _ h9 => h9) rfl dX12_goes_206 ?_
                    refine lv_iload hx₀ hb dX12_goes_209 (lv_at hl 0 rfl) ?_
                    refine va_iald hx₀ hb hK hP 5 0 rfl rfl (by unfold vp_in; decide +kernel) dX12_goes_211 ?_
                    refine k_topi (v := (ga_15 0) 1) rfl ?_
                    refine lv_aload_n hx₀ hb dX12_goes_212 rfl (lv_at hl 3 rfl) ?_
                    refine va_get (D := (dC, dI)) (ci := 11) (v := .ref vGs) (C := RX12) (T := TX12) (N := 30) hx₀ hb hts inlX12 hown hK hP 2 rfl rfl 12 (by decide) (hts (.fieldLink RX12 34 "BittenStickModel" "goose" "[I") wd_123) (fun _ h9 => h9) rfl dX12_goes_213 ?_
                    refine lv_iconst (v := 2) hx₀ hb dX12_goes_216 (by decide +kernel) ?_
                    refine lv_aload_n hx₀ hb dX12_goes_217 rfl (lv_at hl 3 rfl) ?_
                    refine va_get (D := (dC, dI)) (ci := 11) (v := .ref vPr) (C := RX12) (T := TX12) (N := 30) hx₀ hb hts inlX12 hown hK hP 2 rfl rfl 23 (by decide) (hts (.fieldLink RX12 43 "BittenStickModel" "pair" "[I") wd_126) (fun _ h9 => h9) rfl dX12_goes_218 ?_
                    refine lv_iload hx₀ hb dX12_goes_221 (lv_at hl 0 rfl) ?_
                    refine va_iald hx₀ hb hK hP 4 0 rfl rfl (by unfold vp_in; decide +kernel) dX12_goes_223 ?_
                    refine k_topi (v := qPr 1) rfl ?_
                    refine lv_imul hx₀ hb dX12_goes_224 ?_
                    refine va_iald hx₀ hb hK hP 3 0 rfl rfl (vp_in_iff.mpr (lf_e_goes_1 (qPr 1) hp1)) dX12_goes_225 ?_
                    refine k_topi (v := kG0 qGs (qPr 1)) rfl ?_
                    refine lv_icmp_ge (tgt := 233) hx₀ hb dX12_goes_226 (by decide) (fun c_31 => ?_) (fun c_31 => ?_)
                    · refine lv_iconst (v := 0) hx₀ hb dX12_goes_233 (by decide +kernel) ?_
                      refine lv_iadd hx₀ hb dX12_goes_234 ?_
                      refine va_iast hx₀ hb hK hP hD hS 5 0 rfl rfl (by unfold vp_in; decide +kernel) dX12_goes_235 ?_
                      clear hP hD hS
                      intro H locs hP hD hS
                      replace hP := k_w2 (wt := [(kAI vMi cI 24 qMi), (kAI vPs cI 32 qPs), (kX12 hm vFo vSi vIt vMo la vBy vTy mi vMi pn vPs gn vGs fn vFt le vTo kn fe en ca 0 0 vPr vSt vFn sn vSg vAl dr), (kAI vGs cI 16 qGs), (kAI vPr cI 2 qPr), (kAI vSt cI 2 (upd (upd (ga_15 0) (0 : Int32).toNatClampNeg (((ga_15 0) 0) + 0)) (1 : Int32).toNatClampNeg (((ga_15 0) 1) + 0))), (kAI vFn cI 2 (ga_15 1))]) hP hD rfl
                      replace hD := hP.2
                      replace hP := hP.1
                      refine lv_iinc (v := 2) (lv' := [(6, .int 2), (5, .int (kP3 qPs p1)), (4, .int y_1), (0, .ref hm), (1, .int p1), (2, .int m1), (3, .int h1)]) hx₀ hb dX12_goes_236 hl (k := 0) rfl (by decide +kernel) (by decide) rfl (fun ls hl => ?_)
                      refine lv_goto (tgt := 191) hx₀ hb dX12_goes_239 (by decide) ?_
                      refine lv_iload hx₀ hb dX12_goes_191 (lv_at hl 0 rfl) ?_
                      refine lv_iconst (v := 2) hx₀ hb dX12_goes_193 (by decide +kernel) ?_
                      refine lv_icmp_ge (tgt := 242) hx₀ hb dX12_goes_194 (by decide) (fun _ => ?_) (fun c9 => absurd (by decide +kernel) c9)
                      refine lv_iconst (v := 0) hx₀ hb dX12_goes_242 (by decide +kernel) ?_
                      obtain ⟨hP9, hD9⟩ := k_c2 (wc := [(kX12 hm vFo vSi vIt vMo la vBy vTy mi vMi pn vPs gn vGs fn vFt le vTo kn fe en ca 0 0 vPr vSt vFn sn vSg vAl dr), (kAI vMi cI 24 qMi), (kAI vPs cI 32 qPs), (kAI vGs cI 16 qGs), (kAI vPr cI 2 qPr), (kAI vSt cI 2 (upd (upd (ga_15 0) (0 : Int32).toNatClampNeg (((ga_15 0) 0) + 0)) (1 : Int32).toNatClampNeg (((ga_15 0) 1) + 0))), (kAI vFn cI 2 (ga_15 1))]) hP hD [2, 0, 1, 3, 4, 5, 6] (by decide +kernel) rfl
                      exact W.iret (v := 0) hx₀ hb hr (fun t₀ ht hW => ⟨⟨0, (k_fn [(0 : Int32), (0 : Int32)], k_fa [qPr, upd (upd (ga_15 0) (0 : Int32).toNatClampNeg (((ga_15 0) 0) + 0)) (1 : Int32).toNatClampNeg (((ga_15 0) 1) + 0), ga_15 1], k_fl [], k_fL [], k_fp []), rfl, ⟨hh0, (by rw [show kM qMi m1 = y_1 from ey_1.symm]; exact kRs_i ((kW_o c_2).trans (kT2 (c_21.trans c_9) (c_22.trans c_10) (c_19.trans (by rw [c_11, c_12])) (c_20.trans (by rw [c_12])))) (fun z => z.elim c_23 (Int32.not_lt.mpr c_24)) (kCh_5n hh3 c_25) (Int32.not_lt.mpr c_26) (kAd_n (fun z => (Int32.not_lt.mpr c_27) z.1)) (Int32.not_lt.mpr c_28) c_29 (kIs c_29 (((Int32.add_zero _).trans (if_neg (Int32.not_lt.mpr c_30)).symm)) (((Int32.add_zero _).trans (if_neg (Int32.not_lt.mpr c_31)).symm))))⟩, by rw [ht]; exact hP9, va_K.moved hW.alike hK, hD9⟩, hS.F ht⟩) hS.2.2 dX12_goes_243
                    · refine lv_iconst (v := 1) hx₀ hb dX12_goes_229 (by decide +kernel) ?_
                      refine lv_goto (tgt := 234) hx₀ hb dX12_goes_230 (by decide) ?_
                      refine lv_iadd hx₀ hb dX12_goes_234 ?_
                      refine va_iast hx₀ hb hK hP hD hS 5 0 rfl rfl (by unfold vp_in; decide +kernel) dX12_goes_235 ?_
                      clear hP hD hS
                      intro H locs hP hD hS
                      replace hP := k_w2 (wt := [(kAI vMi cI 24 qMi), (kAI vPs cI 32 qPs), (kX12 hm vFo vSi vIt vMo la vBy vTy mi vMi pn vPs gn vGs fn vFt le vTo kn fe en ca 0 0 vPr vSt vFn sn vSg vAl dr), (kAI vGs cI 16 qGs), (kAI vPr cI 2 qPr), (kAI vSt cI 2 (upd (upd (ga_15 0) (0 : Int32).toNatClampNeg (((ga_15 0) 0) + 0)) (1 : Int32).toNatClampNeg (((ga_15 0) 1) + 1))), (kAI vFn cI 2 (ga_15 1))]) hP hD rfl
                      replace hD := hP.2
                      replace hP := hP.1
                      refine lv_iinc (v := 2) (lv' := [(6, .int 2), (5, .int (kP3 qPs p1)), (4, .int y_1), (0, .ref hm), (1, .int p1), (2, .int m1), (3, .int h1)]) hx₀ hb dX12_goes_236 hl (k := 0) rfl (by decide +kernel) (by decide) rfl (fun ls hl => ?_)
                      refine lv_goto (tgt := 191) hx₀ hb dX12_goes_239 (by decide) ?_
                      refine lv_iload hx₀ hb dX12_goes_191 (lv_at hl 0 rfl) ?_
                      refine lv_iconst (v := 2) hx₀ hb dX12_goes_193 (by decide +kernel) ?_
                      refine lv_icmp_ge (tgt := 242) hx₀ hb dX12_goes_194 (by decide) (fun _ => ?_) (fun c9 => absurd (by decide +kernel) c9)
                      refine lv_iconst (v := 0) hx₀ hb dX12_goes_242 (by decide +kernel) ?_
                      obtain ⟨hP9, hD9⟩ := k_c2 (wc := [(kX12 hm vFo vSi vIt vMo la vBy vTy mi vMi pn vPs gn vGs fn vFt le vTo kn fe en ca 0 0 vPr vSt vFn sn vSg vAl dr), (kAI vMi cI 24 qMi), (kAI vPs cI 32 qPs), (kAI vGs cI 16 qGs), (kAI vPr cI 2 qPr), (kAI vSt cI 2 (upd (upd (ga_15 0) (0 : Int32).toNatClampNeg (((ga_15 0) 0) + 0)) (1 : Int32).toNatClampNeg (((ga_15 0) 1) + 1))), (kAI vFn cI 2 (ga_15 1))]) hP hD [2, 0, 1, 3, 4, 5, 6] (by decide +kernel) rfl
                      exact W.iret (v := 0) hx₀ hb hr (fun t₀ ht hW => ⟨⟨0, (k_fn [(0 : Int32), (0 : Int32)], k_fa [qPr, upd (upd (ga_15 0) (0 : Int32).toNatClampNeg (((ga_15 0) 0) + 0)) (1 : Int32).toNatClampNeg (((ga_15 0) 1) + 1), ga_15 1], k_fl [], k_fL [], k_fp []), rfl, ⟨hh0, (by rw [show kM qMi m1 = y_1 from ey_1.symm]; exact kRs_i ((kW_o c_2).trans (kT2 (c_21.trans c_9) (c_22.trans c_10) (c_19.trans (by rw [c_11, c_12])) (c_20.trans (by rw [c_12])))) (fun z => z.elim c_23 (Int32.not_lt.mpr c_24)) (kCh_5n hh3 c_25) (Int32.not_lt.mpr c_26) (kAd_n (fun z => (Int32.not_lt.mpr c_27) z.1)) (Int32.not_lt.mpr c_28) c_29 (kIs c_29 (((Int32.add_zero _).trans (if_neg (Int32.not_lt.mpr c_30)).symm)) ((if_pos (Int32.not_le.mp c_31)).symm)))⟩, by rw [ht]; exact hP9, va_K.moved hW.alike hK, hD9⟩, hS.F ht⟩) hS.2.2 dX12_goes_243
                  · refine lv_iconst (v := 1) hx₀ hb dX12_goes_229 (by decide +kernel) ?_
                    refine lv_goto (tgt := 234) hx₀ hb dX12_goes_230 (by decide) ?_
                    refine lv_iadd hx₀ hb dX12_goes_234 ?_
                    refine va_iast hx₀ hb hK hP hD hS 5 0 rfl rfl (by unfold vp_in; decide +kernel) dX12_goes_235 ?_
                    clear hP hD hS
                    intro H locs hP hD hS
                    replace hP := k_w2 (wt := [(kAI vMi cI 24 qMi), (kAI vPs cI 32 qPs), (kX12 hm vFo vSi vIt vMo la vBy vTy mi vMi pn vPs gn vGs fn vFt le vTo kn fe en ca 0 0 vPr vSt vFn sn vSg vAl dr), (kAI vGs cI 16 qGs), (kAI vPr cI 2 qPr), (kAI vSt cI 2 (upd (ga_15 0) (0 : Int32).toNatClampNeg (((ga_15 0) 0) + 1))), (kAI vFn cI 2 (ga_15 1))]) hP hD rfl
                    replace hD := hP.2
                    replace hP := hP.1
                    refine lv_iinc (v := 1) (lv' := [(6, .int 1), (5, .int (kP3 qPs p1)), (4, .int y_1), (0, .ref hm), (1, .int p1), (2, .int m1), (3, .int h1)]) hx₀ hb dX12_goes_236 hl (k := 0) rfl (by decide +kernel) (by decide) rfl (fun ls hl => ?_)
                    refine lv_goto (tgt := 191) hx₀ hb dX12_goes_239 (by decide) ?_
                    refine lv_iload hx₀ hb dX12_goes_191 (lv_at hl 0 rfl) ?_
                    refine lv_iconst (v := 2) hx₀ hb dX12_goes_193 (by decide +kernel) ?_
                    refine lv_icmp_ge (tgt := 242) hx₀ hb dX12_goes_194 (by decide) (fun c9 => absurd c9 (by decide +kernel)) (fun _ => ?_)
                    refine lv_aload_n hx₀ hb dX12_goes_197 rfl (lv_at hl 3 rfl) ?_
                    refine va_get (D := (dC, dI)) (ci := 11) (v := .ref vSt) (C := RX12) (T := TX12) (N := 30) hx₀ hb hts inlX12 hown hK hP 2 rfl rfl 24 (by decide) (hts (.fieldLink RX12 46 "BittenStickModel" "strong" "[I") wd_127) (fun _ h9 => h9) rfl dX12_goes_198 ?_
                    refine lv_iload hx₀ hb dX12_goes_201 (lv_at hl 0 rfl) ?_
                    refine lv_dup2_11 hx₀ hb dX12_goes_203 rfl rfl ?_
                    refine va_iald hx₀ hb hK hP 5 0 rfl rfl (by unfold vp_in; decide +kernel) dX12_goes_204 ?_
                    refine k_topi (v := (ga_15 0) 1) rfl ?_
                    refine lv_aload_n hx₀ hb dX12_goes_205 rfl (lv_at hl 3 rfl) ?_
                    refine va_get (D := (dC, dI)) (ci := 11) (v := .ref vSt) (C := RX12) (T := TX12) (N := 30) hx₀ hb hts inlX12 hown hK hP 2 rfl rfl 24 (by decide) (hts (.fieldLink RX12 46 "BittenStickModel" "strong" "[I") wd_127) (fun _ h9 => h9) rfl dX12_goes_206 ?_
                    refine lv_iload hx₀ hb dX12_goes_209 (lv_at hl 0 rfl) ?_
                    refine va_iald hx₀ hb hK hP 5 0 rfl rfl (by unfold vp_in; decide +kernel) dX12_goes_211 ?_
                    refine k_topi (v := (ga_15 0) 1) rfl ?_
                    refine lv_aload_n hx₀ hb dX12_goes_212 rfl (lv_at hl 3 rfl) ?_
                    refine va_get (D := (dC, dI)) (ci := 11) (v := .ref vGs) (C := RX12) (T := TX12) (N := 30) hx₀ hb hts inlX12 hown hK hP 2 rfl rfl 12 (by decide) (hts (.fieldLink RX12 34 "BittenStickModel" "goose" "[I") wd_123) (fun _ h9 => h9) rfl dX12_goes_213 ?_
                    refine lv_iconst (v := 2) hx₀ hb dX12_goes_216 (by decide +kernel) ?_
                    refine lv_aload_n hx₀ hb dX12_goes_217 rfl (lv_at hl 3 rfl) ?_
                    refine va_get (D := (dC, dI)) (ci := 11) (v := .ref vPr) (C := RX12) (T := TX12) (N := 30) hx₀ hb hts inlX12 hown hK hP 2 rfl rfl 23 (by decide) (hts (.fieldLink RX12 43 "BittenStickModel" "pair" "[I") wd_126) (fun _ h9 => h9) rfl dX12_goes_218 ?_
                    refine lv_iload hx₀ hb dX12_goes_221 (lv_at hl 0 rfl) ?_
                    refine va_iald hx₀ hb hK hP 4 0 rfl rfl (by unfold vp_in; decide +kernel) dX12_goes_223 ?_
                    refine k_topi (v := qPr 1) rfl ?_
                    refine lv_imul hx₀ hb dX12_goes_224 ?_
                    refine va_iald hx₀ hb hK hP 3 0 rfl rfl (vp_in_iff.mpr (lf_e_goes_1 (qPr 1) hp1)) dX12_goes_225 ?_
                    refine k_topi (v := kG0 qGs (qPr 1)) rfl ?_
                    refine lv_icmp_ge (tgt := 233) hx₀ hb dX12_goes_226 (by decide) (fun c_32 => ?_) (fun c_32 => ?_)
                    · refine lv_iconst (v := 0) hx₀ hb dX12_goes_233 (by decide +kernel) ?_
                      refine lv_iadd hx₀ hb dX12_goes_234 ?_
                      refine va_iast hx₀ hb hK hP hD hS 5 0 rfl rfl (by unfold vp_in; decide +kernel) dX12_goes_235 ?_
                      clear hP hD hS
                      intro H locs hP hD hS
                      replace hP := k_w2 (wt := [(kAI vMi cI 24 qMi), (kAI vPs cI 32 qPs), (kX12 hm vFo vSi vIt vMo la vBy vTy mi vMi pn vPs gn vGs fn vFt le vTo kn fe en ca 0 0 vPr vSt vFn sn vSg vAl dr), (kAI vGs cI 16 qGs), (kAI vPr cI 2 qPr), (kAI vSt cI 2 (upd (upd (ga_15 0) (0 : Int32).toNatClampNeg (((ga_15 0) 0) + 1)) (1 : Int32).toNatClampNeg (((ga_15 0) 1) + 0))), (kAI vFn cI 2 (ga_15 1))]) hP hD rfl
                      replace hD := hP.2
                      replace hP := hP.1
                      refine lv_iinc (v := 2) (lv' := [(6, .int 2), (5, .int (kP3 qPs p1)), (4, .int y_1), (0, .ref hm), (1, .int p1), (2, .int m1), (3, .int h1)]) hx₀ hb dX12_goes_236 hl (k := 0) rfl (by decide +kernel) (by decide) rfl (fun ls hl => ?_)
                      refine lv_goto (tgt := 191) hx₀ hb dX12_goes_239 (by decide) ?_
                      refine lv_iload hx₀ hb dX12_goes_191 (lv_at hl 0 rfl) ?_
                      refine lv_iconst (v := 2) hx₀ hb dX12_goes_193 (by decide +kernel) ?_
                      refine lv_icmp_ge (tgt := 242) hx₀ hb dX12_goes_194 (by decide) (fun _ => ?_) (fun c9 => absurd (by decide +kernel) c9)
                      refine lv_iconst (v := 0) hx₀ hb dX12_goes_242 (by decide +kernel) ?_
                      obtain ⟨hP9, hD9⟩ := k_c2 (wc := [(kX12 hm vFo vSi vIt vMo la vBy vTy mi vMi pn vPs gn vGs fn vFt le vTo kn fe en ca 0 0 vPr vSt vFn sn vSg vAl dr), (kAI vMi cI 24 qMi), (kAI vPs cI 32 qPs), (kAI vGs cI 16 qGs), (kAI vPr cI 2 qPr), (kAI vSt cI 2 (upd (upd (ga_15 0) (0 : Int32).toNatClampNeg (((ga_15 0) 0) + 1)) (1 : Int32).toNatClampNeg (((ga_15 0) 1) + 0))), (kAI vFn cI 2 (ga_15 1))]) hP hD [2, 0, 1, 3, 4, 5, 6] (by decide +kernel) rfl
                      exact W.iret (v := 0) hx₀ hb hr (fun t₀ ht hW => ⟨⟨0, (k_fn [(0 : Int32), (0 : Int32)], k_fa [qPr, upd (upd (ga_15 0) (0 : Int32).toNatClampNeg (((ga_15 0) 0) + 1)) (1 : Int32).toNatClampNeg (((ga_15 0) 1) + 0), ga_15 1], k_fl [], k_fL [], k_fp []), rfl, ⟨hh0, (by rw [show kM qMi m1 = y_1 from ey_1.symm]; exact kRs_i ((kW_o c_2).trans (kT2 (c_21.trans c_9) (c_22.trans c_10) (c_19.trans (by rw [c_11, c_12])) (c_20.trans (by rw [c_12])))) (fun z => z.elim c_23 (Int32.not_lt.mpr c_24)) (kCh_5n hh3 c_25) (Int32.not_lt.mpr c_26) (kAd_n (fun z => (Int32.not_lt.mpr c_27) z.1)) (Int32.not_lt.mpr c_28) c_29 (kIs c_29 ((if_pos (Int32.not_le.mp c_30)).symm) (((Int32.add_zero _).trans (if_neg (Int32.not_lt.mpr c_32)).symm))))⟩, by rw [ht]; exact hP9, va_K.moved hW.alike hK, hD9⟩, hS.F ht⟩) hS.2.2 dX12_goes_243
                    · refine lv_iconst (v := 1) hx₀ hb dX12_goes_229 (by decide +kernel) ?_
                      refine lv_goto (tgt := 234) hx₀ hb dX12_goes_230 (by decide) ?_
                      refine lv_iadd hx₀ hb dX12_goes_234 ?_
                      refine va_iast hx₀ hb hK hP hD hS 5 0 rfl rfl (by unfold vp_in; decide +kernel) dX12_goes_235 ?_
                      clear hP hD hS
                      intro H locs hP hD hS
                      replace hP := k_w2 (wt := [(kAI vMi cI 24 qMi), (kAI vPs cI 32 qPs), (kX12 hm vFo vSi vIt vMo la vBy vTy mi vMi pn vPs gn vGs fn vFt le vTo kn fe en ca 0 0 vPr vSt vFn sn vSg vAl dr), (kAI vGs cI 16 qGs), (kAI vPr cI 2 qPr), (kAI vSt cI 2 (upd (upd (ga_15 0) (0 : Int32).toNatClampNeg (((ga_15 0) 0) + 1)) (1 : Int32).toNatClampNeg (((ga_15 0) 1) + 1))), (kAI vFn cI 2 (ga_15 1))]) hP hD rfl
                      replace hD := hP.2
                      replace hP := hP.1
                      refine lv_iinc (v := 2) (lv' := [(6, .int 2), (5, .int (kP3 qPs p1)), (4, .int y_1), (0, .ref hm), (1, .int p1), (2, .int m1), (3, .int h1)]) hx₀ hb dX12_goes_236 hl (k := 0) rfl (by decide +kernel) (by decide) rfl (fun ls hl => ?_)
                      refine lv_goto (tgt := 191) hx₀ hb dX12_goes_239 (by decide) ?_
                      refine lv_iload hx₀ hb dX12_goes_191 (lv_at hl 0 rfl) ?_
                      refine lv_iconst (v := 2) hx₀ hb dX12_goes_193 (by decide +kernel) ?_
                      refine lv_icmp_ge (tgt := 242) hx₀ hb dX12_goes_194 (by decide) (fun _ => ?_) (fun c9 => absurd (by decide +kernel) c9)
                      refine lv_iconst (v := 0) hx₀ hb dX12_goes_242 (by decide +kernel) ?_
                      obtain ⟨hP9, hD9⟩ := k_c2 (wc := [(kX12 hm vFo vSi vIt vMo la vBy vTy mi vMi pn vPs gn vGs fn vFt le vTo kn fe en ca 0 0 vPr vSt vFn sn vSg vAl dr), (kAI vMi cI 24 qMi), (kAI vPs cI 32 qPs), (kAI vGs cI 16 qGs), (kAI vPr cI 2 qPr), (kAI vSt cI 2 (upd (upd (ga_15 0) (0 : Int32).toNatClampNeg (((ga_15 0) 0) + 1)) (1 : Int32).toNatClampNeg (((ga_15 0) 1) + 1))), (kAI vFn cI 2 (ga_15 1))]) hP hD [2, 0, 1, 3, 4, 5, 6] (by decide +kernel) rfl
                      exact W.iret (v := 0) hx₀ hb hr (fun t₀ ht hW => ⟨⟨0, (k_fn [(0 : Int32), (0 : Int32)], k_fa [qPr, upd (upd (ga_15 0) (0 : Int32).toNatClampNeg (((ga_15 0) 0) + 1)) (1 : Int32).toNatClampNeg (((ga_15 0) 1) + 1), ga_15 1], k_fl [], k_fL [], k_fp []), rfl, ⟨hh0, (by rw [show kM qMi m1 = y_1 from ey_1.symm]; exact kRs_i ((kW_o c_2).trans (kT2 (c_21.trans c_9) (c_22.trans c_10) (c_19.trans (by rw [c_11, c_12])) (c_20.trans (by rw [c_12])))) (fun z => z.elim c_23 (Int32.not_lt.mpr c_24)) (kCh_5n hh3 c_25) (Int32.not_lt.mpr c_26) (kAd_n (fun z => (Int32.not_lt.mpr c_27) z.1)) (Int32.not_lt.mpr c_28) c_29 (kIs c_29 ((if_pos (Int32.not_le.mp c_30)).symm) ((if_pos (Int32.not_le.mp c_32)).symm)))⟩, by rw [ht]; exact hP9, va_K.moved hW.alike hK, hD9⟩, hS.F ht⟩) hS.2.2 dX12_goes_243
              · refine lv_iconst (v := 3) hx₀ hb dX12_goes_169 (by decide +kernel) ?_
                obtain ⟨hP9, hD9⟩ := k_c2 (wc := [(kX12 hm vFo vSi vIt vMo la vBy vTy mi vMi pn vPs gn vGs fn vFt le vTo kn fe en ca an (co + 0) vPr vSt vFn sn vSg vAl dr), (kAI vMi cI 24 qMi), (kAI vPs cI 32 qPs), (kAI vGs cI 16 qGs), (kAI vPr cI 2 qPr), (kAI vSt cI 2 (ga_15 0)), (kAI vFn cI 2 (ga_15 1))]) hP hD [2, 0, 1, 3, 4, 5, 6] (by decide +kernel) rfl
                exact W.iret (v := 3) hx₀ hb hr (fun t₀ ht hW => ⟨⟨3, (k_fn [an, (co + 0)], k_fa [qPr, ga_15 0, ga_15 1], k_fl [], k_fL [], k_fp []), rfl, ⟨hh0, (by rw [show kM qMi m1 = y_1 from ey_1.symm]; exact kRs_3 ((kW_o c_2).trans (kT2 (c_21.trans c_9) (c_22.trans c_10) (c_19.trans (by rw [c_11, c_12])) (c_20.trans (by rw [c_12])))) (fun z => z.elim c_23 (Int32.not_lt.mpr c_24)) (kCh_5n hh3 c_25) (Int32.not_lt.mpr c_26) (kAd_n (fun z => (Int32.not_lt.mpr c_27) z.1)) (Int32.not_le.mp c_28))⟩, by rw [ht]; exact hP9, va_K.moved hW.alike hK, hD9⟩, hS.F ht⟩) hS.2.2 dX12_goes_170
            · refine lv_aload_n hx₀ hb dX12_goes_110 rfl (lv_at hl 2 rfl) ?_
              refine va_get (D := (dC, dI)) (ci := 11) (v := .int le) (C := RX12) (T := TX12) (N := 30) hx₀ hb hts inlX12 hown hK hP 2 rfl rfl 15 (by decide) (hts (.fieldLink RX12 167 "BittenStickModel" "learned" "I") wd_417) (fun _ h9 => h9) rfl dX12_goes_111 ?_
              refine lv_iload hx₀ hb dX12_goes_114 (lv_at hl 1 rfl) ?_
              obtain ⟨hPc, hDc, hFc, hC⟩ := k_cw (wc := []) hP hD hS hA [] (by decide +kernel) rfl
              refine va_calli (va_runS (As := [.int le, .int y_1]) (rest := []) ⟨hx₀, hb, hml, hown, hts⟩ (g_isIn l dC dI cI cJ cQ H.size le y_1) (va_cwS 2 hts (kGS wd_560 wd_558 wd_559 wd_5) rfl rfl rfl (by decide +kernel) ⟨Nat.le_of_ble_eq_true rfl, Nat.le_of_ble_eq_true rfl⟩) (k_preS hK hPc hDc hN) rfl rfl hl.1 rfl (lv_room (Nat.le_of_ble_eq_true rfl)) dX12_goes_116 ⟨by decide +kernel, by decide +kernel⟩) hS (fun q _ h => hFc q h) hFc (fun r_33 u₀ t₀ H1 locs ht hvm hw hB hz1 hk1 hS => ?_)
              obtain ⟨hP1, hK1, hD1⟩ := hB
              rw [ht] at hP1
              have hJ := k_jn (wr := [(kAI vMi cI 24 qMi), (kAI vPs cI 32 qPs), (kX12 hm vFo vSi vIt vMo la vBy vTy mi vMi pn vPs gn vGs fn vFt le vTo kn fe en ca an (co + 0) vPr vSt vFn sn vSg vAl dr), (kAI vGs cI 16 qGs), (kAI vPr cI 2 qPr), (kAI vSt cI 2 (ga_15 0)), (kAI vFn cI 2 (ga_15 1))]) (wt := [(kAI vMi cI 24 qMi), (kAI vPs cI 32 qPs), (kX12 hm vFo vSi vIt vMo la vBy vTy mi vMi pn vPs gn vGs fn vFt le vTo kn fe en ca an (co + 0) vPr vSt vFn sn vSg vAl dr), (kAI vGs cI 16 qGs), (kAI vPr cI 2 qPr), (kAI vSt cI 2 (ga_15 0)), (kAI vFn cI 2 (ga_15 1))]) hP hD hC [0, 1, 2, 3, 4, 5, 6] rfl (by decide +kernel) (by decide +kernel) hk1 hFc hP1 hD1 rfl
              clear hP hD hPc hDc hFc hC hP1 hD1 hK1 hz1 hk1 hvm ht
              obtain ⟨hP, hD⟩ := hJ
              generalize H1 = H at hP hS ⊢
              try dsimp only at hw
              by_cases c_34 : ((le >>> (y_1 &&& 31)) &&& 1) = 1
              · rw [if_pos c_34] at hw
                refine k_topi (v := 1) hw ?_
                refine lv_if_ne (tgt := 150) hx₀ hb dX12_goes_119 (by decide) (fun _ => ?_) (fun c9 => absurd c9 (by decide +kernel))
                refine lv_aload_n hx₀ hb dX12_goes_150 rfl (lv_at hl 2 rfl) ?_
                refine va_get (D := (dC, dI)) (ci := 11) (v := .int an) (C := RX12) (T := TX12) (N := 30) hx₀ hb hts inlX12 hown hK hP 2 rfl rfl 21 (by decide) (hts (.fieldLink RX12 184 "BittenStickModel" "anger" "I") wd_544) (fun _ h9 => h9) rfl dX12_goes_151 ?_
                refine lv_iconst (v := 5) hx₀ hb dX12_goes_154 (by decide +kernel) ?_
                refine lv_aload_n hx₀ hb dX12_goes_155 rfl (lv_at hl 2 rfl) ?_
                refine va_get (D := (dC, dI)) (ci := 11) (v := .ref vPs) (C := RX12) (T := TX12) (N := 30) hx₀ hb hts inlX12 hown hK hP 2 rfl rfl 10 (by decide) (hts (.fieldLink RX12 31 "BittenStickModel" "passenger" "[I") wd_122) (fun _ h9 => h9) rfl dX12_goes_156 ?_
                refine lv_iconst (v := 4) hx₀ hb dX12_goes_159 (by decide +kernel) ?_
                refine lv_iload_n hx₀ hb dX12_goes_160 rfl (lv_at hl 3 rfl) ?_
                refine lv_imul hx₀ hb dX12_goes_161 ?_
                refine lv_iconst (v := 2) hx₀ hb dX12_goes_162 (by decide +kernel) ?_
                refine lv_iadd hx₀ hb dX12_goes_163 ?_
                refine va_iald hx₀ hb hK hP 1 0 rfl rfl (vp_in_iff.mpr (lf_g_goes_3 p1 hh1)) dX12_goes_164 ?_
                refine k_topi (v := kP2 qPs p1) rfl ?_
                refine lv_imul hx₀ hb dX12_goes_165 ?_
                refine lv_icmp_le (tgt := 171) hx₀ hb dX12_goes_166 (by decide) (fun c_35 => ?_) (fun c_35 => ?_)
                · refine lv_iload hx₀ hb dX12_goes_171 (lv_at hl 1 rfl) ?_
                  refine lv_bipush (v := 7) hx₀ hb dX12_goes_173 (by decide +kernel) ?_
                  refine lv_icmp_ne (tgt := 242) hx₀ hb dX12_goes_175 (by decide) (fun c_36 => ?_) (fun c9 => (lf_e_goes_2 p1 m1 h1 (qPr 0) (qPr 1) y_1 ga_5 (qSt 1) (qFn 1) ga_15 co hh1 hh2 hh3 hp0 hp1 c_2 c_11 c_12 c_21 c_22 c_25 c_26 c_27 c9).elim)
                  refine lv_iconst (v := 0) hx₀ hb dX12_goes_242 (by decide +kernel) ?_
                  obtain ⟨hP9, hD9⟩ := k_c2 (wc := [(kX12 hm vFo vSi vIt vMo la vBy vTy mi vMi pn vPs gn vGs fn vFt le vTo kn fe en ca an (co + 0) vPr vSt vFn sn vSg vAl dr), (kAI vMi cI 24 qMi), (kAI vPs cI 32 qPs), (kAI vGs cI 16 qGs), (kAI vPr cI 2 qPr), (kAI vSt cI 2 (ga_15 0)), (kAI vFn cI 2 (ga_15 1))]) hP hD [2, 0, 1, 3, 4, 5, 6] (by decide +kernel) rfl
                  exact W.iret (v := 0) hx₀ hb hr (fun t₀ ht hW => ⟨⟨0, (k_fn [an, (co + 0)], k_fa [qPr, ga_15 0, ga_15 1], k_fl [], k_fL [], k_fp []), rfl, ⟨hh0, (by rw [show kM qMi m1 = y_1 from ey_1.symm]; exact kRs_0 ((kW_o c_2).trans (kT2 (c_21.trans c_9) (c_22.trans c_10) (c_19.trans (by rw [c_11, c_12])) (c_20.trans (by rw [c_12])))) (fun z => z.elim c_23 (Int32.not_lt.mpr c_24)) (kCh_5n hh3 c_25) (Int32.not_lt.mpr c_26) (kAd_n (fun z => z.2.1 c_34)) (Int32.not_lt.mpr c_35) c_36)⟩, by rw [ht]; exact hP9, va_K.moved hW.alike hK, hD9⟩, hS.F ht⟩) hS.2.2 dX12_goes_243
                · refine lv_iconst (v := 3) hx₀ hb dX12_goes_169 (by decide +kernel) ?_
                  obtain ⟨hP9, hD9⟩ := k_c2 (wc := [(kX12 hm vFo vSi vIt vMo la vBy vTy mi vMi pn vPs gn vGs fn vFt le vTo kn fe en ca an (co + 0) vPr vSt vFn sn vSg vAl dr), (kAI vMi cI 24 qMi), (kAI vPs cI 32 qPs), (kAI vGs cI 16 qGs), (kAI vPr cI 2 qPr), (kAI vSt cI 2 (ga_15 0)), (kAI vFn cI 2 (ga_15 1))]) hP hD [2, 0, 1, 3, 4, 5, 6] (by decide +kernel) rfl
                  exact W.iret (v := 3) hx₀ hb hr (fun t₀ ht hW => ⟨⟨3, (k_fn [an, (co + 0)], k_fa [qPr, ga_15 0, ga_15 1], k_fl [], k_fL [], k_fp []), rfl, ⟨hh0, (by rw [show kM qMi m1 = y_1 from ey_1.symm]; exact kRs_3 ((kW_o c_2).trans (kT2 (c_21.trans c_9) (c_22.trans c_10) (c_19.trans (by rw [c_11, c_12])) (c_20.trans (by rw [c_12])))) (fun z => z.elim c_23 (Int32.not_lt.mpr c_24)) (kCh_5n hh3 c_25) (Int32.not_lt.mpr c_26) (kAd_n (fun z => z.2.1 c_34)) (Int32.not_le.mp c_35))⟩, by rw [ht]; exact hP9, va_K.moved hW.alike hK, hD9⟩, hS.F ht⟩) hS.2.2 dX12_goes_170
              rw [if_neg c_34] at hw
              refine k_topi (v := 0) hw ?_
              refine lv_if_ne (tgt := 150) hx₀ hb dX12_goes_119 (by decide) (fun c9 => absurd (by decide +kernel) c9) (fun _ => ?_)
              refine lv_aload_n hx₀ hb dX12_goes_122 rfl (lv_at hl 2 rfl) ?_
              refine va_get (D := (dC, dI)) (ci := 11) (v := .int ca) (C := RX12) (T := TX12) (N := 30) hx₀ hb hts inlX12 hown hK hP 2 rfl rfl 20 (by decide) (hts (.fieldLink RX12 59 "BittenStickModel" "calling" "I") wd_132) (fun _ h9 => h9) rfl dX12_goes_123 ?_
              refine lv_iload_n hx₀ hb dX12_goes_126 rfl (lv_at hl 4 rfl) ?_
              obtain ⟨hPc, hDc, hFc, hC⟩ := k_cw (wc := []) hP hD hS hA [] (by decide +kernel) rfl
              refine va_calli (va_runS (As := [.int ca, .int m1]) (rest := []) ⟨hx₀, hb, hml, hown, hts⟩ (g_isIn l dC dI cI cJ cQ H.size ca m1) (va_cwS 2 hts (kGS wd_560 wd_558 wd_559 wd_5) rfl rfl rfl (by decide +kernel) ⟨Nat.le_of_ble_eq_true rfl, Nat.le_of_ble_eq_true rfl⟩) (k_preS hK hPc hDc hN) rfl rfl hl.1 rfl (lv_room (Nat.le_of_ble_eq_true rfl)) dX12_goes_127 ⟨by decide +kernel, by decide +kernel⟩) hS (fun q _ h => hFc q h) hFc (fun r_37 u₀ t₀ H1 locs ht hvm hw hB hz1 hk1 hS => ?_)
              obtain ⟨hP1, hK1, hD1⟩ := hB
              rw [ht] at hP1
              have hJ := k_jn (wr := [(kAI vMi cI 24 qMi), (kAI vPs cI 32 qPs), (kX12 hm vFo vSi vIt vMo la vBy vTy mi vMi pn vPs gn vGs fn vFt le vTo kn fe en ca an (co + 0) vPr vSt vFn sn vSg vAl dr), (kAI vGs cI 16 qGs), (kAI vPr cI 2 qPr), (kAI vSt cI 2 (ga_15 0)), (kAI vFn cI 2 (ga_15 1))]) (wt := [(kAI vMi cI 24 qMi), (kAI vPs cI 32 qPs), (kX12 hm vFo vSi vIt vMo la vBy vTy mi vMi pn vPs gn vGs fn vFt le vTo kn fe en ca an (co + 0) vPr vSt vFn sn vSg vAl dr), (kAI vGs cI 16 qGs), (kAI vPr cI 2 qPr), (kAI vSt cI 2 (ga_15 0)), (kAI vFn cI 2 (ga_15 1))]) hP hD hC [0, 1, 2, 3, 4, 5, 6] rfl (by decide +kernel) (by decide +kernel) hk1 hFc hP1 hD1 rfl
              clear hP hD hPc hDc hFc hC hP1 hD1 hK1 hz1 hk1 hvm ht
              obtain ⟨hP, hD⟩ := hJ
              generalize H1 = H at hP hS ⊢
              try dsimp only at hw
              by_cases c_38 : ((ca >>> (m1 &&& 31)) &&& 1) = 1
              · rw [if_pos c_38] at hw
                refine k_topi (v := 1) hw ?_
                refine lv_if_eq (tgt := 150) hx₀ hb dX12_goes_130 (by decide) (fun c9 => absurd c9 (by decide +kernel)) (fun _ => ?_)
                refine lv_aload_n hx₀ hb dX12_goes_133 rfl (lv_at hl 2 rfl) ?_
                refine lv_dup hx₀ hb dX12_goes_134 rfl ?_
                refine va_get (D := (dC, dI)) (ci := 11) (v := .int an) (C := RX12) (T := TX12) (N := 30) hx₀ hb hts inlX12 hown hK hP 2 rfl rfl 21 (by decide) (hts (.fieldLink RX12 184 "BittenStickModel" "anger" "I") wd_544) (fun _ h9 => h9) rfl dX12_goes_135 ?_
                refine lv_aload_n hx₀ hb dX12_goes_138 rfl (lv_at hl 2 rfl) ?_
                refine lv_iload_n hx₀ hb dX12_goes_139 rfl (lv_at hl 3 rfl) ?_
                refine lv_iload hx₀ hb dX12_goes_140 (lv_at hl 1 rfl) ?_
                refine lv_iload_n hx₀ hb dX12_goes_142 rfl (lv_at hl 5 rfl) ?_
                obtain ⟨hPc, hDc, hFc, hC⟩ := k_cw (wc := [(kX12 hm vFo vSi vIt vMo la vBy vTy mi vMi pn vPs gn vGs fn vFt le vTo kn fe en ca an (co + 0) vPr vSt vFn sn vSg vAl dr), (kAI vPs cI 32 qPs)]) hP hD hS hA [2, 1] (by decide +kernel) rfl
                refine va_calli (va_runV (As := [.int p1, .int y_1, .int h1]) (rest := [.int an, .ref hm]) ⟨hx₀, hb, hml, hown, hts⟩ (g_angerBy l dC dI cI cJ cQ H.size hm p1 y_1 h1 vFo vSi vIt vMo la vBy vTy mi vMi pn vPs gn vGs fn vFt le vTo kn fe en ca an (co + 0) vPr vSt vFn sn vSg vAl dr qPs (hh1)) (cwV 3 hts (kGV wd_564 wd_561 wd_562 wd_563 wd_5) rfl rfl rfl (by decide +kernel) ⟨Nat.le_of_ble_eq_true rfl, Nat.le_of_ble_eq_true rfl⟩) (k_preV11 (q0 := 0) hK hPc hDc hN rfl) rfl rfl hl.1 rfl (lv_room (Nat.le_of_ble_eq_true rfl)) dX12_goes_143 ⟨by decide +kernel, by decide +kernel⟩) hS (fun q _ h => hFc q h) hFc (fun r_39 u₀ t₀ H1 locs ht hvm hw hB hz1 hk1 hS => ?_)
                obtain ⟨hP1, hK1, hD1⟩ := hB
                rw [ht] at hP1
                have hJ := k_jn (wr := [(kAI vMi cI 24 qMi), (kAI vGs cI 16 qGs), (kAI vPr cI 2 qPr), (kAI vSt cI 2 (ga_15 0)), (kAI vFn cI 2 (ga_15 1))]) (wt := [(kAI vMi cI 24 qMi), (kAI vGs cI 16 qGs), (kAI vPr cI 2 qPr), (kAI vSt cI 2 (ga_15 0)), (kAI vFn cI 2 (ga_15 1)), (kX12 hm vFo vSi vIt vMo la vBy vTy mi vMi pn vPs gn vGs fn vFt le vTo kn fe en ca an (co + 0) vPr vSt vFn sn vSg vAl dr), (kAI vPs cI 32 qPs)]) hP hD hC [0, 3, 4, 5, 6] rfl (by decide +kernel) (by decide +kernel) hk1 hFc hP1 hD1 rfl
                clear hP hD hPc hDc hFc hC hP1 hD1 hK1 hz1 hk1 hvm ht
                obtain ⟨hP, hD⟩ := hJ
                generalize H1 = H at hP hS ⊢
                try dsimp only at hw
                refine k_topi (v := kAn (kP0 qPs p1) (kP1 qPs p1) y_1 h1) hw ?_
                refine lv_iadd hx₀ hb dX12_goes_146 ?_
                refine va_put (D := (dC, dI)) (ci := 11) (v := .int (an + (kAn (kP0 qPs p1) (kP1 qPs p1) y_1 h1))) (ty := .int) (C := RX12) (T := TX12) (N := 30) hx₀ hb hts inlX12 tyX12 tyX12_ok nmX12 hown hK hP hD hS 5 rfl rfl 21 (by decide) (hts (.fieldLink RX12 184 "BittenStickModel" "anger" "I") wd_544) (fun _ h9 => h9) rfl (by decide +kernel) rfl rfl (Nat.le_of_ble_eq_true rfl) dX12_goes_147 ?_
                clear hP hD hS
                intro H locs hP hD hS
                replace hP := k_w2 (wt := [(kAI vMi cI 24 qMi), (kAI vGs cI 16 qGs), (kAI vPr cI 2 qPr), (kAI vSt cI 2 (ga_15 0)), (kAI vFn cI 2 (ga_15 1)), (kX12 hm vFo vSi vIt vMo la vBy vTy mi vMi pn vPs gn vGs fn vFt le vTo kn fe en ca (an + (kAn (kP0 qPs p1) (kP1 qPs p1) y_1 h1)) (co + 0) vPr vSt vFn sn vSg vAl dr), (kAI vPs cI 32 qPs)]) hP hD rfl
                replace hD := hP.2
                replace hP := hP.1
                refine lv_aload_n hx₀ hb dX12_goes_150 rfl (lv_at hl 2 rfl) ?_
                refine va_get (D := (dC, dI)) (ci := 11) (v := .int (an + (kAn (kP0 qPs p1) (kP1 qPs p1) y_1 h1))) (C := RX12) (T := TX12) (N := 30) hx₀ hb hts inlX12 hown hK hP 5 rfl rfl 21 (by decide) (hts (.fieldLink RX12 184 "BittenStickModel" "anger" "I") wd_544) (fun _ h9 => h9) rfl dX12_goes_151 ?_
                refine lv_iconst (v := 5) hx₀ hb dX12_goes_154 (by decide +kernel) ?_
                refine lv_aload_n hx₀ hb dX12_goes_155 rfl (lv_at hl 2 rfl) ?_
                refine va_get (D := (dC, dI)) (ci := 11) (v := .ref vPs) (C := RX12) (T := TX12) (N := 30) hx₀ hb hts inlX12 hown hK hP 5 rfl rfl 10 (by decide) (hts (.fieldLink RX12 31 "BittenStickModel" "passenger" "[I") wd_122) (fun _ h9 => h9) rfl dX12_goes_156 ?_
                refine lv_iconst (v := 4) hx₀ hb dX12_goes_159 (by decide +kernel) ?_
                refine lv_iload_n hx₀ hb dX12_goes_160 rfl (lv_at hl 3 rfl) ?_
                refine lv_imul hx₀ hb dX12_goes_161 ?_
                refine lv_iconst (v := 2) hx₀ hb dX12_goes_162 (by decide +kernel) ?_
                refine lv_iadd hx₀ hb dX12_goes_163 ?_
                refine va_iald hx₀ hb hK hP 6 0 rfl rfl (vp_in_iff.mpr (lf_g_goes_3 p1 hh1)) dX12_goes_164 ?_
                refine k_topi (v := kP2 qPs p1) rfl ?_
                refine lv_imul hx₀ hb dX12_goes_165 ?_
                refine lv_icmp_le (tgt := 171) hx₀ hb dX12_goes_166 (by decide) (fun c_40 => ?_) (fun c_40 => ?_)
                · refine lv_iload hx₀ hb dX12_goes_171 (lv_at hl 1 rfl) ?_
                  refine lv_bipush (v := 7) hx₀ hb dX12_goes_173 (by decide +kernel) ?_
                  refine lv_icmp_ne (tgt := 242) hx₀ hb dX12_goes_175 (by decide) (fun c_41 => ?_) (fun c9 => (lf_e_goes_2 p1 m1 h1 (qPr 0) (qPr 1) y_1 ga_5 (qSt 1) (qFn 1) ga_15 co hh1 hh2 hh3 hp0 hp1 c_2 c_11 c_12 c_21 c_22 c_25 c_26 c_27 c9).elim)
                  refine lv_iconst (v := 0) hx₀ hb dX12_goes_242 (by decide +kernel) ?_
                  obtain ⟨hP9, hD9⟩ := k_c2 (wc := [(kX12 hm vFo vSi vIt vMo la vBy vTy mi vMi pn vPs gn vGs fn vFt le vTo kn fe en ca (an + (kAn (kP0 qPs p1) (kP1 qPs p1) y_1 h1)) (co + 0) vPr vSt vFn sn vSg vAl dr), (kAI vMi cI 24 qMi), (kAI vPs cI 32 qPs), (kAI vGs cI 16 qGs), (kAI vPr cI 2 qPr), (kAI vSt cI 2 (ga_15 0)), (kAI vFn cI 2 (ga_15 1))]) hP hD [5, 0, 6, 1, 2, 3, 4] (by decide +kernel) rfl
                  exact W.iret (v := 0) hx₀ hb hr (fun t₀ ht hW => ⟨⟨0, (k_fn [(an + (kAn (kP0 qPs p1) (kP1 qPs p1) y_1 h1)), (co + 0)], k_fa [qPr, ga_15 0, ga_15 1], k_fl [], k_fL [], k_fp []), rfl, ⟨hh0, (by rw [show kM qMi m1 = y_1 from ey_1.symm]; exact kRs_0 ((kW_o c_2).trans (kT2 (c_21.trans c_9) (c_22.trans c_10) (c_19.trans (by rw [c_11, c_12])) (c_20.trans (by rw [c_12])))) (fun z => z.elim c_23 (Int32.not_lt.mpr c_24)) (kCh_5n hh3 c_25) (Int32.not_lt.mpr c_26) (kAd_y (Int32.not_le.mp c_27) c_34 c_38) (Int32.not_lt.mpr c_40) c_41)⟩, by rw [ht]; exact hP9, va_K.moved hW.alike hK, hD9⟩, hS.F ht⟩) hS.2.2 dX12_goes_243
                · refine lv_iconst (v := 3) hx₀ hb dX12_goes_169 (by decide +kernel) ?_
                  obtain ⟨hP9, hD9⟩ := k_c2 (wc := [(kX12 hm vFo vSi vIt vMo la vBy vTy mi vMi pn vPs gn vGs fn vFt le vTo kn fe en ca (an + (kAn (kP0 qPs p1) (kP1 qPs p1) y_1 h1)) (co + 0) vPr vSt vFn sn vSg vAl dr), (kAI vMi cI 24 qMi), (kAI vPs cI 32 qPs), (kAI vGs cI 16 qGs), (kAI vPr cI 2 qPr), (kAI vSt cI 2 (ga_15 0)), (kAI vFn cI 2 (ga_15 1))]) hP hD [5, 0, 6, 1, 2, 3, 4] (by decide +kernel) rfl
                  exact W.iret (v := 3) hx₀ hb hr (fun t₀ ht hW => ⟨⟨3, (k_fn [(an + (kAn (kP0 qPs p1) (kP1 qPs p1) y_1 h1)), (co + 0)], k_fa [qPr, ga_15 0, ga_15 1], k_fl [], k_fL [], k_fp []), rfl, ⟨hh0, (by rw [show kM qMi m1 = y_1 from ey_1.symm]; exact kRs_3 ((kW_o c_2).trans (kT2 (c_21.trans c_9) (c_22.trans c_10) (c_19.trans (by rw [c_11, c_12])) (c_20.trans (by rw [c_12])))) (fun z => z.elim c_23 (Int32.not_lt.mpr c_24)) (kCh_5n hh3 c_25) (Int32.not_lt.mpr c_26) (kAd_y (Int32.not_le.mp c_27) c_34 c_38) (Int32.not_le.mp c_40))⟩, by rw [ht]; exact hP9, va_K.moved hW.alike hK, hD9⟩, hS.F ht⟩) hS.2.2 dX12_goes_170
              rw [if_neg c_38] at hw
              refine k_topi (v := 0) hw ?_
              refine lv_if_eq (tgt := 150) hx₀ hb dX12_goes_130 (by decide) (fun _ => ?_) (fun c9 => absurd (by decide +kernel) c9)
              refine lv_aload_n hx₀ hb dX12_goes_150 rfl (lv_at hl 2 rfl) ?_
              refine va_get (D := (dC, dI)) (ci := 11) (v := .int an) (C := RX12) (T := TX12) (N := 30) hx₀ hb hts inlX12 hown hK hP 2 rfl rfl 21 (by decide) (hts (.fieldLink RX12 184 "BittenStickModel" "anger" "I") wd_544) (fun _ h9 => h9) rfl dX12_goes_151 ?_
              refine lv_iconst (v := 5) hx₀ hb dX12_goes_154 (by decide +kernel) ?_
              refine lv_aload_n hx₀ hb dX12_goes_155 rfl (lv_at hl 2 rfl) ?_
              refine va_get (D := (dC, dI)) (ci := 11) (v := .ref vPs) (C := RX12) (T := TX12) (N := 30) hx₀ hb hts inlX12 hown hK hP 2 rfl rfl 10 (by decide) (hts (.fieldLink RX12 31 "BittenStickModel" "passenger" "[I") wd_122) (fun _ h9 => h9) rfl dX12_goes_156 ?_
              refine lv_iconst (v := 4) hx₀ hb dX12_goes_159 (by decide +kernel) ?_
              refine lv_iload_n hx₀ hb dX12_goes_160 rfl (lv_at hl 3 rfl) ?_
              refine lv_imul hx₀ hb dX12_goes_161 ?_
              refine lv_iconst (v := 2) hx₀ hb dX12_goes_162 (by decide +kernel) ?_
              refine lv_iadd hx₀ hb dX12_goes_163 ?_
              refine va_iald hx₀ hb hK hP 1 0 rfl rfl (vp_in_iff.mpr (lf_g_goes_3 p1 hh1)) dX12_goes_164 ?_
              refine k_topi (v := kP2 qPs p1) rfl ?_
              refine lv_imul hx₀ hb dX12_goes_165 ?_
              refine lv_icmp_le (tgt := 171) hx₀ hb dX12_goes_166 (by decide) (fun c_42 => ?_) (fun c_42 => ?_)
              · refine lv_iload hx₀ hb dX12_goes_171 (lv_at hl 1 rfl) ?_
                refine lv_bipush (v := 7) hx₀ hb dX12_goes_173 (by decide +kernel) ?_
                refine lv_icmp_ne (tgt := 242) hx₀ hb dX12_goes_175 (by decide) (fun c_43 => ?_) (fun c9 => (lf_e_goes_2 p1 m1 h1 (qPr 0) (qPr 1) y_1 ga_5 (qSt 1) (qFn 1) ga_15 co hh1 hh2 hh3 hp0 hp1 c_2 c_11 c_12 c_21 c_22 c_25 c_26 c_27 c9).elim)
                refine lv_iconst (v := 0) hx₀ hb dX12_goes_242 (by decide +kernel) ?_
                obtain ⟨hP9, hD9⟩ := k_c2 (wc := [(kX12 hm vFo vSi vIt vMo la vBy vTy mi vMi pn vPs gn vGs fn vFt le vTo kn fe en ca an (co + 0) vPr vSt vFn sn vSg vAl dr), (kAI vMi cI 24 qMi), (kAI vPs cI 32 qPs), (kAI vGs cI 16 qGs), (kAI vPr cI 2 qPr), (kAI vSt cI 2 (ga_15 0)), (kAI vFn cI 2 (ga_15 1))]) hP hD [2, 0, 1, 3, 4, 5, 6] (by decide +kernel) rfl
                exact W.iret (v := 0) hx₀ hb hr (fun t₀ ht hW => ⟨⟨0, (k_fn [an, (co + 0)], k_fa [qPr, ga_15 0, ga_15 1], k_fl [], k_fL [], k_fp []), rfl, ⟨hh0, (by rw [show kM qMi m1 = y_1 from ey_1.symm]; exact kRs_0 ((kW_o c_2).trans (kT2 (c_21.trans c_9) (c_22.trans c_10) (c_19.trans (by rw [c_11, c_12])) (c_20.trans (by rw [c_12])))) (fun z => z.elim c_23 (Int32.not_lt.mpr c_24)) (kCh_5n hh3 c_25) (Int32.not_lt.mpr c_26) (kAd_n (fun z => c_38 z.2.2)) (Int32.not_lt.mpr c_42) c_43)⟩, by rw [ht]; exact hP9, va_K.moved hW.alike hK, hD9⟩, hS.F ht⟩) hS.2.2 dX12_goes_243
              · refine lv_iconst (v := 3) hx₀ hb dX12_goes_169 (by decide +kernel) ?_
                obtain ⟨hP9, hD9⟩ := k_c2 (wc := [(kX12 hm vFo vSi vIt vMo la vBy vTy mi vMi pn vPs gn vGs fn vFt le vTo kn fe en ca an (co + 0) vPr vSt vFn sn vSg vAl dr), (kAI vMi cI 24 qMi), (kAI vPs cI 32 qPs), (kAI vGs cI 16 qGs), (kAI vPr cI 2 qPr), (kAI vSt cI 2 (ga_15 0)), (kAI vFn cI 2 (ga_15 1))]) hP hD [2, 0, 1, 3, 4, 5, 6] (by decide +kernel) rfl
                exact W.iret (v := 3) hx₀ hb hr (fun t₀ ht hW => ⟨⟨3, (k_fn [an, (co + 0)], k_fa [qPr, ga_15 0, ga_15 1], k_fl [], k_fL [], k_fp []), rfl, ⟨hh0, (by rw [show kM qMi m1 = y_1 from ey_1.symm]; exact kRs_3 ((kW_o c_2).trans (kT2 (c_21.trans c_9) (c_22.trans c_10) (c_19.trans (by rw [c_11, c_12])) (c_20.trans (by rw [c_12])))) (fun z => z.elim c_23 (Int32.not_lt.mpr c_24)) (kCh_5n hh3 c_25) (Int32.not_lt.mpr c_26) (kAd_n (fun z => c_38 z.2.2)) (Int32.not_le.mp c_42))⟩, by rw [ht]; exact hP9, va_K.moved hW.alike hK, hD9⟩, hS.F ht⟩) hS.2.2 dX12_goes_170
          · refine lv_iconst (v := 2) hx₀ hb dX12_goes_101 (by decide +kernel) ?_
            obtain ⟨hP9, hD9⟩ := k_c2 (wc := [(kX12 hm vFo vSi vIt vMo la vBy vTy mi vMi pn vPs gn vGs fn vFt le vTo kn fe en ca an (co + 0) vPr vSt vFn sn vSg vAl dr), (kAI vMi cI 24 qMi), (kAI vPs cI 32 qPs), (kAI vGs cI 16 qGs), (kAI vPr cI 2 qPr), (kAI vSt cI 2 (ga_15 0)), (kAI vFn cI 2 (ga_15 1))]) hP hD [2, 0, 1, 3, 4, 5, 6] (by decide +kernel) rfl
            exact W.iret (v := 2) hx₀ hb hr (fun t₀ ht hW => ⟨⟨2, (k_fn [an, (co + 0)], k_fa [qPr, ga_15 0, ga_15 1], k_fl [], k_fL [], k_fp []), rfl, ⟨hh0, (by rw [show kM qMi m1 = y_1 from ey_1.symm]; exact kRs_2 ((kW_o c_2).trans (kT2 (c_21.trans c_9) (c_22.trans c_10) (c_19.trans (by rw [c_11, c_12])) (c_20.trans (by rw [c_12])))) (fun z => z.elim c_23 (Int32.not_lt.mpr c_24)) (kCh_5n hh3 c_25) (Int32.not_le.mp c_26))⟩, by rw [ht]; exact hP9, va_K.moved hW.alike hK, hD9⟩, hS.F ht⟩) hS.2.2 dX12_goes_102
        · refine lv_iload_n hx₀ hb dX12_goes_81 rfl (lv_at hl 5 rfl) ?_
          refine lv_iconst (v := 5) hx₀ hb dX12_goes_82 (by decide +kernel) ?_
          refine lv_isub hx₀ hb dX12_goes_83 ?_
          refine lv_goto (tgt := 88) hx₀ hb dX12_goes_84 (by decide) ?_
          refine lv_iadd hx₀ hb dX12_goes_88 ?_
          refine va_put (D := (dC, dI)) (ci := 11) (v := .int (co + (h1 - 5))) (ty := .int) (C := RX12) (T := TX12) (N := 30) hx₀ hb hts inlX12 tyX12 tyX12_ok nmX12 hown hK hP hD hS 2 rfl rfl 22 (by decide) (hts (.fieldLink RX12 177 "BittenStickModel" "cold" "I") wd_545) (fun _ h9 => h9) rfl (by decide +kernel) rfl rfl (Nat.le_of_ble_eq_true rfl) dX12_goes_89 ?_
          clear hP hD hS
          intro H locs hP hD hS
          replace hP := k_w2 (wt := [(kAI vMi cI 24 qMi), (kAI vPs cI 32 qPs), (kX12 hm vFo vSi vIt vMo la vBy vTy mi vMi pn vPs gn vGs fn vFt le vTo kn fe en ca an (co + (h1 - 5)) vPr vSt vFn sn vSg vAl dr), (kAI vGs cI 16 qGs), (kAI vPr cI 2 qPr), (kAI vSt cI 2 (ga_15 0)), (kAI vFn cI 2 (ga_15 1))]) hP hD rfl
          replace hD := hP.2
          replace hP := hP.1
          refine lv_aload_n hx₀ hb dX12_goes_92 rfl (lv_at hl 2 rfl) ?_
          refine va_get (D := (dC, dI)) (ci := 11) (v := .int (co + (h1 - 5))) (C := RX12) (T := TX12) (N := 30) hx₀ hb hts inlX12 hown hK hP 2 rfl rfl 22 (by decide) (hts (.fieldLink RX12 177 "BittenStickModel" "cold" "I") wd_545) (fun _ h9 => h9) rfl dX12_goes_93 ?_
          refine lv_bipush (v := 20) hx₀ hb dX12_goes_96 (by decide +kernel) ?_
          refine lv_icmp_le (tgt := 103) hx₀ hb dX12_goes_98 (by decide) (fun c_44 => ?_) (fun c_44 => ?_)
          · refine lv_iload hx₀ hb dX12_goes_103 (lv_at hl 1 rfl) ?_
            refine lv_bipush (v := 6) hx₀ hb dX12_goes_105 (by decide +kernel) ?_
            refine lv_icmp_ge (tgt := 150) hx₀ hb dX12_goes_107 (by decide) (fun c_45 => ?_) (fun c_45 => ?_)
            · refine lv_aload_n hx₀ hb dX12_goes_150 rfl (lv_at hl 2 rfl) ?_
              refine va_get (D := (dC, dI)) (ci := 11) (v := .int an) (C := RX12) (T := TX12) (N := 30) hx₀ hb hts inlX12 hown hK hP 2 rfl rfl 21 (by decide) (hts (.fieldLink RX12 184 "BittenStickModel" "anger" "I") wd_544) (fun _ h9 => h9) rfl dX12_goes_151 ?_
              refine lv_iconst (v := 5) hx₀ hb dX12_goes_154 (by decide +kernel) ?_
              refine lv_aload_n hx₀ hb dX12_goes_155 rfl (lv_at hl 2 rfl) ?_
              refine va_get (D := (dC, dI)) (ci := 11) (v := .ref vPs) (C := RX12) (T := TX12) (N := 30) hx₀ hb hts inlX12 hown hK hP 2 rfl rfl 10 (by decide) (hts (.fieldLink RX12 31 "BittenStickModel" "passenger" "[I") wd_122) (fun _ h9 => h9) rfl dX12_goes_156 ?_
              refine lv_iconst (v := 4) hx₀ hb dX12_goes_159 (by decide +kernel) ?_
              refine lv_iload_n hx₀ hb dX12_goes_160 rfl (lv_at hl 3 rfl) ?_
              refine lv_imul hx₀ hb dX12_goes_161 ?_
              refine lv_iconst (v := 2) hx₀ hb dX12_goes_162 (by decide +kernel) ?_
              refine lv_iadd hx₀ hb dX12_goes_163 ?_
              refine va_iald hx₀ hb hK hP 1 0 rfl rfl (vp_in_iff.mpr (lf_g_goes_3 p1 hh1)) dX12_goes_164 ?_
              refine k_topi (v := kP2 qPs p1) rfl ?_
              refine lv_imul hx₀ hb dX12_goes_165 ?_
              refine lv_icmp_le (tgt := 171) hx₀ hb dX12_goes_166 (by decide) (fun c_46 => ?_) (fun c_46 => ?_)
              · refine lv_iload hx₀ hb dX12_goes_171 (lv_at hl 1 rfl) ?_
                refine lv_bipush (v := 7) hx₀ hb dX12_goes_173 (by decide +kernel) ?_
                refine lv_icmp_ne (tgt := 242) hx₀ hb dX12_goes_175 (by decide) (fun c_47 => ?_) (fun c_47 => ?_)
                · refine lv_iconst (v := 0) hx₀ hb dX12_goes_242 (by decide +kernel) ?_
                  obtain ⟨hP9, hD9⟩ := k_c2 (wc := [(kX12 hm vFo vSi vIt vMo la vBy vTy mi vMi pn vPs gn vGs fn vFt le vTo kn fe en ca an (co + (h1 - 5)) vPr vSt vFn sn vSg vAl dr), (kAI vMi cI 24 qMi), (kAI vPs cI 32 qPs), (kAI vGs cI 16 qGs), (kAI vPr cI 2 qPr), (kAI vSt cI 2 (ga_15 0)), (kAI vFn cI 2 (ga_15 1))]) hP hD [2, 0, 1, 3, 4, 5, 6] (by decide +kernel) rfl
                  exact W.iret (v := 0) hx₀ hb hr (fun t₀ ht hW => ⟨⟨0, (k_fn [an, (co + (h1 - 5))], k_fa [qPr, ga_15 0, ga_15 1], k_fl [], k_fL [], k_fp []), rfl, ⟨hh0, (by rw [show kM qMi m1 = y_1 from ey_1.symm]; exact kRs_0 ((kW_o c_2).trans (kT2 (c_21.trans c_9) (c_22.trans c_10) (c_19.trans (by rw [c_11, c_12])) (c_20.trans (by rw [c_12])))) (fun z => z.elim c_23 (Int32.not_lt.mpr c_24)) (kCh_5p hh3 c_25) (Int32.not_lt.mpr c_44) (kAd_n (fun z => (Int32.not_lt.mpr c_45) z.1)) (Int32.not_lt.mpr c_46) c_47)⟩, by rw [ht]; exact hP9, va_K.moved hW.alike hK, hD9⟩, hS.F ht⟩) hS.2.2 dX12_goes_243
                · refine lv_aload_n hx₀ hb dX12_goes_178 rfl (lv_at hl 2 rfl) ?_
                  refine lv_iconst (v := 0) hx₀ hb dX12_goes_179 (by decide +kernel) ?_
                  refine va_put (D := (dC, dI)) (ci := 11) (v := .int 0) (ty := .int) (C := RX12) (T := TX12) (N := 30) hx₀ hb hts inlX12 tyX12 tyX12_ok nmX12 hown hK hP hD hS 2 rfl rfl 21 (by decide) (hts (.fieldLink RX12 184 "BittenStickModel" "anger" "I") wd_544) (fun _ h9 => h9) rfl (by decide +kernel) rfl rfl (Nat.le_of_ble_eq_true rfl) dX12_goes_180 ?_
                  clear hP hD hS
                  intro H locs hP hD hS
                  replace hP := k_w2 (wt := [(kAI vMi cI 24 qMi), (kAI vPs cI 32 qPs), (kX12 hm vFo vSi vIt vMo la vBy vTy mi vMi pn vPs gn vGs fn vFt le vTo kn fe en ca 0 (co + (h1 - 5)) vPr vSt vFn sn vSg vAl dr), (kAI vGs cI 16 qGs), (kAI vPr cI 2 qPr), (kAI vSt cI 2 (ga_15 0)), (kAI vFn cI 2 (ga_15 1))]) hP hD rfl
                  replace hD := hP.2
                  replace hP := hP.1
                  refine lv_aload_n hx₀ hb dX12_goes_183 rfl (lv_at hl 2 rfl) ?_
                  refine lv_iconst (v := 0) hx₀ hb dX12_goes_184 (by decide +kernel) ?_
                  refine va_put (D := (dC, dI)) (ci := 11) (v := .int 0) (ty := .int) (C := RX12) (T := TX12) (N := 30) hx₀ hb hts inlX12 tyX12 tyX12_ok nmX12 hown hK hP hD hS 2 rfl rfl 22 (by decide) (hts (.fieldLink RX12 177 "BittenStickModel" "cold" "I") wd_545) (fun _ h9 => h9) rfl (by decide +kernel) rfl rfl (Nat.le_of_ble_eq_true rfl) dX12_goes_185 ?_
                  clear hP hD hS
                  intro H locs hP hD hS
                  replace hP := k_w2 (wt := [(kAI vMi cI 24 qMi), (kAI vPs cI 32 qPs), (kX12 hm vFo vSi vIt vMo la vBy vTy mi vMi pn vPs gn vGs fn vFt le vTo kn fe en ca 0 0 vPr vSt vFn sn vSg vAl dr), (kAI vGs cI 16 qGs), (kAI vPr cI 2 qPr), (kAI vSt cI 2 (ga_15 0)), (kAI vFn cI 2 (ga_15 1))]) hP hD rfl
                  replace hD := hP.2
                  replace hP := hP.1
                  refine lv_iconst (v := 0) hx₀ hb dX12_goes_188 (by decide +kernel) ?_
                  refine lv_istore (lv' := [(6, .int 0), (5, .int (kP3 qPs p1)), (4, .int y_1), (0, .ref hm), (1, .int p1), (2, .int m1), (3, .int h1)]) hx₀ hb dX12_goes_189 hl (by decide) rfl (fun ls hl => ?_)
                  refine lv_iload hx₀ hb dX12_goes_191 (lv_at hl 0 rfl) ?_
                  refine lv_iconst (v := 2) hx₀ hb dX12_goes_193 (by decide +kernel) ?_
                  refine lv_icmp_ge (tgt := 242) hx₀ hb dX12_goes_194 (by decide) (fun c9 => absurd c9 (by decide +kernel)) (fun _ => ?_)
                  refine lv_aload_n hx₀ hb dX12_goes_197 rfl (lv_at hl 3 rfl) ?_
                  refine va_get (D := (dC, dI)) (ci := 11) (v := .ref vSt) (C := RX12) (T := TX12) (N := 30) hx₀ hb hts inlX12 hown hK hP 2 rfl rfl 24 (by decide) (hts (.fieldLink RX12 46 "BittenStickModel" "strong" "[I") wd_127) (fun _ h9 => h9) rfl dX12_goes_198 ?_
                  refine lv_iload hx₀ hb dX12_goes_201 (lv_at hl 0 rfl) ?_
                  refine lv_dup2_11 hx₀ hb dX12_goes_203 rfl rfl ?_
                  refine va_iald hx₀ hb hK hP 5 0 rfl rfl (by unfold vp_in; decide +kernel) dX12_goes_204 ?_
                  refine k_topi (v := (ga_15 0) 0) rfl ?_
                  refine lv_aload_n hx₀ hb dX12_goes_205 rfl (lv_at hl 3 rfl) ?_
                  refine va_get (D := (dC, dI)) (ci := 11) (v := .ref vSt) (C := RX12) (T := TX12) (N := 30) hx₀ hb hts inlX12 hown hK hP 2 rfl rfl 24 (by decide) (hts (.fieldLink RX12 46 "BittenStickModel" "strong" "[I") wd_127) (fun _ h9 => h9) rfl dX12_goes_206 ?_
                  refine lv_iload hx₀ hb dX12_goes_209 (lv_at hl 0 rfl) ?_
                  refine va_iald hx₀ hb hK hP 5 0 rfl rfl (by unfold vp_in; decide +kernel) dX12_goes_211 ?_
                  refine k_topi (v := (ga_15 0) 0) rfl ?_
                  refine lv_aload_n hx₀ hb dX12_goes_212 rfl (lv_at hl 3 rfl) ?_
                  refine va_get (D := (dC, dI)) (ci := 11) (v := .ref vGs) (C := RX12) (T := TX12) (N := 30) hx₀ hb hts inlX12 hown hK hP 2 rfl rfl 12 (by decide) (hts (.fieldLink RX12 34 "BittenStickModel" "goose" "[I") wd_123) (fun _ h9 => h9) rfl dX12_goes_213 ?_
                  refine lv_iconst (v := 2) hx₀ hb dX12_goes_216 (by decide +kernel) ?_
                  refine lv_aload_n hx₀ hb dX12_goes_217 rfl (lv_at hl 3 rfl) ?_
                  refine va_get (D := (dC, dI)) (ci := 11) (v := .ref vPr) (C := RX12) (T := TX12) (N := 30) hx₀ hb hts inlX12 hown hK hP 2 rfl rfl 23 (by decide) (hts (.fieldLink RX12 43 "BittenStickModel" "pair" "[I") wd_126) (fun _ h9 => h9) rfl dX12_goes_218 ?_
                  refine lv_iload hx₀ hb dX12_goes_221 (lv_at hl 0 rfl) ?_
                  refine va_iald hx₀ hb hK hP 4 0 rfl rfl (by unfold vp_in; decide +kernel) dX12_goes_223 ?_
                  refine k_topi (v := qPr 0) rfl ?_
                  refine lv_imul hx₀ hb dX12_goes_224 ?_
                  refine va_iald hx₀ hb hK hP 3 0 rfl rfl (vp_in_iff.mpr (lf_e_goes_1 (qPr 0) hp0)) dX12_goes_225 ?_
                  refine k_topi (v := kG0 qGs (qPr 0)) rfl ?_
                  refine lv_icmp_ge (tgt := 233) hx₀ hb dX12_goes_226 (by decide) (fun c_48 => ?_) (fun c_48 => ?_)
                  · refine lv_iconst (v := 0) hx₀ hb dX12_goes_233 (by decide +kernel) ?_
                    refine lv_iadd hx₀ hb dX12_goes_234 ?_
                    refine va_iast hx₀ hb hK hP hD hS 5 0 rfl rfl (by unfold vp_in; decide +kernel) dX12_goes_235 ?_
                    clear hP hD hS
                    intro H locs hP hD hS
                    replace hP := k_w2 (wt := [(kAI vMi cI 24 qMi), (kAI vPs cI 32 qPs), (kX12 hm vFo vSi vIt vMo la vBy vTy mi vMi pn vPs gn vGs fn vFt le vTo kn fe en ca 0 0 vPr vSt vFn sn vSg vAl dr), (kAI vGs cI 16 qGs), (kAI vPr cI 2 qPr), (kAI vSt cI 2 (upd (ga_15 0) (0 : Int32).toNatClampNeg (((ga_15 0) 0) + 0))), (kAI vFn cI 2 (ga_15 1))]) hP hD rfl
                    replace hD := hP.2
                    replace hP := hP.1
                    refine lv_iinc (v := 1) (lv' := [(6, .int 1), (5, .int (kP3 qPs p1)), (4, .int y_1), (0, .ref hm), (1, .int p1), (2, .int m1), (3, .int h1)]) hx₀ hb dX12_goes_236 hl (k := 0) rfl (by decide +kernel) (by decide) rfl (fun ls hl => ?_)
                    refine lv_goto (tgt := 191) hx₀ hb dX12_goes_239 (by decide) ?_
                    refine lv_iload hx₀ hb dX12_goes_191 (lv_at hl 0 rfl) ?_
                    refine lv_iconst (v := 2) hx₀ hb dX12_goes_193 (by decide +kernel) ?_
                    refine lv_icmp_ge (tgt := 242) hx₀ hb dX12_goes_194 (by decide) (fun c9 => absurd c9 (by decide +kernel)) (fun _ => ?_)
                    refine lv_aload_n hx₀ hb dX12_goes_197 rfl (lv_at hl 3 rfl) ?_
                    refine va_get (D := (dC, dI)) (ci := 11) (v := .ref vSt) (C := RX12) (T := TX12) (N := 30) hx₀ hb hts inlX12 hown hK hP 2 rfl rfl 24 (by decide) (hts (.fieldLink RX12 46 "BittenStickModel" "strong" "[I") wd_127) (fun _ h9 => h9) rfl dX12_goes_198 ?_
                    refine lv_iload hx₀ hb dX12_goes_201 (lv_at hl 0 rfl) ?_
                    refine lv_dup2_11 hx₀ hb dX12_goes_203 rfl rfl ?_
                    refine va_iald hx₀ hb hK hP 5 0 rfl rfl (by unfold vp_in; decide +kernel) dX12_goes_204 ?_
                    refine k_topi (v := (ga_15 0) 1) rfl ?_
                    refine lv_aload_n hx₀ hb dX12_goes_205 rfl (lv_at hl 3 rfl) ?_
                    refine va_get (D := (dC, dI)) (ci := 11) (v := .ref vSt) (C := RX12) (T := TX12) (N := 30) hx₀ hb hts inlX12 hown hK hP 2 rfl rfl 24 (by decide) (hts (.fieldLink RX12 46 "BittenStickModel" "strong" "[I") wd_127) (fun _ h9 => h9) rfl dX12_goes_206 ?_
                    refine lv_iload hx₀ hb dX12_goes_209 (lv_at hl 0 rfl) ?_
                    refine va_iald hx₀ hb hK hP 5 0 rfl rfl (by unfold vp_in; decide +kernel) dX12_goes_211 ?_
                    refine k_topi (v := (ga_15 0) 1) rfl ?_
                    refine lv_aload_n hx₀ hb dX12_goes_212 rfl (lv_at hl 3 rfl) ?_
                    refine va_get (D := (dC, dI)) (ci := 11) (v := .ref vGs) (C := RX12) (T := TX12) (N := 30) hx₀ hb hts inlX12 hown hK hP 2 rfl rfl 12 (by decide) (hts (.fieldLink RX12 34 "BittenStickModel" "goose" "[I") wd_123) (fun _ h9 => h9) rfl dX12_goes_213 ?_
                    refine lv_iconst (v := 2) hx₀ hb dX12_goes_216 (by decide +kernel) ?_
                    refine lv_aload_n hx₀ hb dX12_goes_217 rfl (lv_at hl 3 rfl) ?_
                    refine va_get (D := (dC, dI)) (ci := 11) (v := .ref vPr) (C := RX12) (T := TX12) (N := 30) hx₀ hb hts inlX12 hown hK hP 2 rfl rfl 23 (by decide) (hts (.fieldLink RX12 43 "BittenStickModel" "pair" "[I") wd_126) (fun _ h9 => h9) rfl dX12_goes_218 ?_
                    refine lv_iload hx₀ hb dX12_goes_221 (lv_at hl 0 rfl) ?_
                    refine va_iald hx₀ hb hK hP 4 0 rfl rfl (by unfold vp_in; decide +kernel) dX12_goes_223 ?_
                    refine k_topi (v := qPr 1) rfl ?_
                    refine lv_imul hx₀ hb dX12_goes_224 ?_
                    refine va_iald hx₀ hb hK hP 3 0 rfl rfl (vp_in_iff.mpr (lf_e_goes_1 (qPr 1) hp1)) dX12_goes_225 ?_
                    refine k_topi (v := kG0 qGs (qPr 1)) rfl ?_
                    refine lv_icmp_ge (tgt := 233) hx₀ hb dX12_goes_226 (by decide) (fun c_49 => ?_) (fun c_49 => ?_)
                    · refine lv_iconst (v := 0) hx₀ hb dX12_goes_233 (by decide +kernel) ?_
                      refine lv_iadd hx₀ hb dX12_goes_234 ?_
                      refine va_iast hx₀ hb hK hP hD hS 5 0 rfl rfl (by unfold vp_in; decide +kernel) dX12_goes_235 ?_
                      clear hP hD hS
                      intro H locs hP hD hS
                      replace hP := k_w2 (wt := [(kAI vMi cI 24 qMi), (kAI vPs cI 32 qPs), (kX12 hm vFo vSi vIt vMo la vBy vTy mi vMi pn vPs gn vGs fn vFt le vTo kn fe en ca 0 0 vPr vSt vFn sn vSg vAl dr), (kAI vGs cI 16 qGs), (kAI vPr cI 2 qPr), (kAI vSt cI 2 (upd (upd (ga_15 0) (0 : Int32).toNatClampNeg (((ga_15 0) 0) + 0)) (1 : Int32).toNatClampNeg (((ga_15 0) 1) + 0))), (kAI vFn cI 2 (ga_15 1))]) hP hD rfl
                      replace hD := hP.2
                      replace hP := hP.1
                      refine lv_iinc (v := 2) (lv' := [(6, .int 2), (5, .int (kP3 qPs p1)), (4, .int y_1), (0, .ref hm), (1, .int p1), (2, .int m1), (3, .int h1)]) hx₀ hb dX12_goes_236 hl (k := 0) rfl (by decide +kernel) (by decide) rfl (fun ls hl => ?_)
                      refine lv_goto (tgt := 191) hx₀ hb dX12_goes_239 (by decide) ?_
                      refine lv_iload hx₀ hb dX12_goes_191 (lv_at hl 0 rfl) ?_
                      refine lv_iconst (v := 2) hx₀ hb dX12_goes_193 (by decide +kernel) ?_
                      refine lv_icmp_ge (tgt := 242) hx₀ hb dX12_goes_194 (by decide) (fun _ => ?_) (fun c9 => absurd (by decide +kernel) c9)
                      refine lv_iconst (v := 0) hx₀ hb dX12_goes_242 (by decide +kernel) ?_
                      obtain ⟨hP9, hD9⟩ := k_c2 (wc := [(kX12 hm vFo vSi vIt vMo la vBy vTy mi vMi pn vPs gn vGs fn vFt le vTo kn fe en ca 0 0 vPr vSt vFn sn vSg vAl dr), (kAI vMi cI 24 qMi), (kAI vPs cI 32 qPs), (kAI vGs cI 16 qGs), (kAI vPr cI 2 qPr), (kAI vSt cI 2 (upd (upd (ga_15 0) (0 : Int32).toNatClampNeg (((ga_15 0) 0) + 0)) (1 : Int32).toNatClampNeg (((ga_15 0) 1) + 0))), (kAI vFn cI 2 (ga_15 1))]) hP hD [2, 0, 1, 3, 4, 5, 6] (by decide +kernel) rfl
                      exact W.iret (v := 0) hx₀ hb hr (fun t₀ ht hW => ⟨⟨0, (k_fn [(0 : Int32), (0 : Int32)], k_fa [qPr, upd (upd (ga_15 0) (0 : Int32).toNatClampNeg (((ga_15 0) 0) + 0)) (1 : Int32).toNatClampNeg (((ga_15 0) 1) + 0), ga_15 1], k_fl [], k_fL [], k_fp []), rfl, ⟨hh0, (by rw [show kM qMi m1 = y_1 from ey_1.symm]; exact kRs_i ((kW_o c_2).trans (kT2 (c_21.trans c_9) (c_22.trans c_10) (c_19.trans (by rw [c_11, c_12])) (c_20.trans (by rw [c_12])))) (fun z => z.elim c_23 (Int32.not_lt.mpr c_24)) (kCh_5p hh3 c_25) (Int32.not_lt.mpr c_44) (kAd_n (fun z => (Int32.not_lt.mpr c_45) z.1)) (Int32.not_lt.mpr c_46) c_47 (kIs c_47 (((Int32.add_zero _).trans (if_neg (Int32.not_lt.mpr c_48)).symm)) (((Int32.add_zero _).trans (if_neg (Int32.not_lt.mpr c_49)).symm))))⟩, by rw [ht]; exact hP9, va_K.moved hW.alike hK, hD9⟩, hS.F ht⟩) hS.2.2 dX12_goes_243
                    · refine lv_iconst (v := 1) hx₀ hb dX12_goes_229 (by decide +kernel) ?_
                      refine lv_goto (tgt := 234) hx₀ hb dX12_goes_230 (by decide) ?_
                      refine lv_iadd hx₀ hb dX12_goes_234 ?_
                      refine va_iast hx₀ hb hK hP hD hS 5 0 rfl rfl (by unfold vp_in; decide +kernel) dX12_goes_235 ?_
                      clear hP hD hS
                      intro H locs hP hD hS
                      replace hP := k_w2 (wt := [(kAI vMi cI 24 qMi), (kAI vPs cI 32 qPs), (kX12 hm vFo vSi vIt vMo la vBy vTy mi vMi pn vPs gn vGs fn vFt le vTo kn fe en ca 0 0 vPr vSt vFn sn vSg vAl dr), (kAI vGs cI 16 qGs), (kAI vPr cI 2 qPr), (kAI vSt cI 2 (upd (upd (ga_15 0) (0 : Int32).toNatClampNeg (((ga_15 0) 0) + 0)) (1 : Int32).toNatClampNeg (((ga_15 0) 1) + 1))), (kAI vFn cI 2 (ga_15 1))]) hP hD rfl
                      replace hD := hP.2
                      replace hP := hP.1
                      refine lv_iinc (v := 2) (lv' := [(6, .int 2), (5, .int (kP3 qPs p1)), (4, .int y_1), (0, .ref hm), (1, .int p1), (2, .int m1), (3, .int h1)]) hx₀ hb dX12_goes_236 hl (k := 0) rfl (by decide +kernel) (by decide) rfl (fun ls hl => ?_)
                      refine lv_goto (tgt := 191) hx₀ hb dX12_goes_239 (by decide) ?_
                      refine lv_iload hx₀ hb dX12_goes_191 (lv_at hl 0 rfl) ?_
                      refine lv_iconst (v := 2) hx₀ hb dX12_goes_193 (by decide +kernel) ?_
                      refine lv_icmp_ge (tgt := 242) hx₀ hb dX12_goes_194 (by decide) (fun _ => ?_) (fun c9 => absurd (by decide +kernel) c9)
                      refine lv_iconst (v := 0) hx₀ hb dX12_goes_242 (by decide +kernel) ?_
                      obtain ⟨hP9, hD9⟩ := k_c2 (wc := [(kX12 hm vFo vSi vIt vMo la vBy vTy mi vMi pn vPs gn vGs fn vFt le vTo kn fe en ca 0 0 vPr vSt vFn sn vSg vAl dr), (kAI vMi cI 24 qMi), (kAI vPs cI 32 qPs), (kAI vGs cI 16 qGs), (kAI vPr cI 2 qPr), (kAI vSt cI 2 (upd (upd (ga_15 0) (0 : Int32).toNatClampNeg (((ga_15 0) 0) + 0)) (1 : Int32).toNatClampNeg (((ga_15 0) 1) + 1))), (kAI vFn cI 2 (ga_15 1))]) hP hD [2, 0, 1, 3, 4, 5, 6] (by decide +kernel) rfl
                      exact W.iret (v := 0) hx₀ hb hr (fun t₀ ht hW => ⟨⟨0, (k_fn [(0 : Int32), (0 : Int32)], k_fa [qPr, upd (upd (ga_15 0) (0 : Int32).toNatClampNeg (((ga_15 0) 0) + 0)) (1 : Int32).toNatClampNeg (((ga_15 0) 1) + 1), ga_15 1], k_fl [], k_fL [], k_fp []), rfl, ⟨hh0, (by rw [show kM qMi m1 = y_1 from ey_1.symm]; exact kRs_i ((kW_o c_2).trans (kT2 (c_21.trans c_9) (c_22.trans c_10) (c_19.trans (by rw [c_11, c_12])) (c_20.trans (by rw [c_12])))) (fun z => z.elim c_23 (Int32.not_lt.mpr c_24)) (kCh_5p hh3 c_25) (Int32.not_lt.mpr c_44) (kAd_n (fun z => (Int32.not_lt.mpr c_45) z.1)) (Int32.not_lt.mpr c_46) c_47 (kIs c_47 (((Int32.add_zero _).trans (if_neg (Int32.not_lt.mpr c_48)).symm)) ((if_pos (Int32.not_le.mp c_49)).symm)))⟩, by rw [ht]; exact hP9, va_K.moved hW.alike hK, hD9⟩, hS.F ht⟩) hS.2.2 dX12_goes_243
                  · refine lv_iconst (v := 1) hx₀ hb dX12_goes_229 (by decide +kernel) ?_
                    refine lv_goto (tgt := 234) hx₀ hb dX12_goes_230 (by decide) ?_
                    refine lv_iadd hx₀ hb dX12_goes_234 ?_
                    refine va_iast hx₀ hb hK hP hD hS 5 0 rfl rfl (by unfold vp_in; decide +kernel) dX12_goes_235 ?_
                    clear hP hD hS
                    intro H locs hP hD hS
                    replace hP := k_w2 (wt := [(kAI vMi cI 24 qMi), (kAI vPs cI 32 qPs), (kX12 hm vFo vSi vIt vMo la vBy vTy mi vMi pn vPs gn vGs fn vFt le vTo kn fe en ca 0 0 vPr vSt vFn sn vSg vAl dr), (kAI vGs cI 16 qGs), (kAI vPr cI 2 qPr), (kAI vSt cI 2 (upd (ga_15 0) (0 : Int32).toNatClampNeg (((ga_15 0) 0) + 1))), (kAI vFn cI 2 (ga_15 1))]) hP hD rfl
                    replace hD := hP.2
                    replace hP := hP.1
                    refine lv_iinc (v := 1) (lv' := [(6, .int 1), (5, .int (kP3 qPs p1)), (4, .int y_1), (0, .ref hm), (1, .int p1), (2, .int m1), (3, .int h1)]) hx₀ hb dX12_goes_236 hl (k := 0) rfl (by decide +kernel) (by decide) rfl (fun ls hl => ?_)
                    refine lv_goto (tgt := 191) hx₀ hb dX12_goes_239 (by decide) ?_
                    refine lv_iload hx₀ hb dX12_goes_191 (lv_at hl 0 rfl) ?_
                    refine lv_iconst (v := 2) hx₀ hb dX12_goes_193 (by decide +kernel) ?_
                    refine lv_icmp_ge (tgt := 242) hx₀ hb dX12_goes_194 (by decide) (fun c9 => absurd c9 (by decide +kernel)) (fun _ => ?_)
                    refine lv_aload_n hx₀ hb dX12_goes_197 rfl (lv_at hl 3 rfl) ?_
                    refine va_get (D := (dC, dI)) (ci := 11) (v := .ref vSt) (C := RX12) (T := TX12) (N := 30) hx₀ hb hts inlX12 hown hK hP 2 rfl rfl 24 (by decide) (hts (.fieldLink RX12 46 "BittenStickModel" "strong" "[I") wd_127) (fun _ h9 => h9) rfl dX12_goes_198 ?_
                    refine lv_iload hx₀ hb dX12_goes_201 (lv_at hl 0 rfl) ?_
                    refine lv_dup2_11 hx₀ hb dX12_goes_203 rfl rfl ?_
                    refine va_iald hx₀ hb hK hP 5 0 rfl rfl (by unfold vp_in; decide +kernel) dX12_goes_204 ?_
                    refine k_topi (v := (ga_15 0) 1) rfl ?_
                    refine lv_aload_n hx₀ hb dX12_goes_205 rfl (lv_at hl 3 rfl) ?_
                    refine va_get (D := (dC, dI)) (ci := 11) (v := .ref vSt) (C := RX12) (T := TX12) (N := 30) hx₀ hb hts inlX12 hown hK hP 2 rfl rfl 24 (by decide) (hts (.fieldLink RX12 46 "BittenStickModel" "strong" "[I") wd_127) (fun _ h9 => h9) rfl dX12_goes_206 ?_
                    refine lv_iload hx₀ hb dX12_goes_209 (lv_at hl 0 rfl) ?_
                    refine va_iald hx₀ hb hK hP 5 0 rfl rfl (by unfold vp_in; decide +kernel) dX12_goes_211 ?_
                    refine k_topi (v := (ga_15 0) 1) rfl ?_
                    refine lv_aload_n hx₀ hb dX12_goes_212 rfl (lv_at hl 3 rfl) ?_
                    refine va_get (D := (dC, dI)) (ci := 11) (v := .ref vGs) (C := RX12) (T := TX12) (N := 30) hx₀ hb hts inlX12 hown hK hP 2 rfl rfl 12 (by decide) (hts (.fieldLink RX12 34 "BittenStickModel" "goose" "[I") wd_123) (fun _ h9 => h9) rfl dX12_goes_213 ?_
                    refine lv_iconst (v := 2) hx₀ hb dX12_goes_216 (by decide +kernel) ?_
                    refine lv_aload_n hx₀ hb dX12_goes_217 rfl (lv_at hl 3 rfl) ?_
                    refine va_get (D := (dC, dI)) (ci := 11) (v := .ref vPr) (C := RX12) (T := TX12) (N := 30) hx₀ hb hts inlX12 hown hK hP 2 rfl rfl 23 (by decide) (hts (.fieldLink RX12 43 "BittenStickModel" "pair" "[I") wd_126) (fun _ h9 => h9) rfl dX12_goes_218 ?_
                    refine lv_iload hx₀ hb dX12_goes_221 (lv_at hl 0 rfl) ?_
                    refine va_iald hx₀ hb hK hP 4 0 rfl rfl (by unfold vp_in; decide +kernel) dX12_goes_223 ?_
                    refine k_topi (v := qPr 1) rfl ?_
                    refine lv_imul hx₀ hb dX12_goes_224 ?_
                    refine va_iald hx₀ hb hK hP 3 0 rfl rfl (vp_in_iff.mpr (lf_e_goes_1 (qPr 1) hp1)) dX12_goes_225 ?_
                    refine k_topi (v := kG0 qGs (qPr 1)) rfl ?_
                    refine lv_icmp_ge (tgt := 233) hx₀ hb dX12_goes_226 (by decide) (fun c_50 => ?_) (fun c_50 => ?_)
                    · refine lv_iconst (v := 0) hx₀ hb dX12_goes_233 (by decide +kernel) ?_
                      refine lv_iadd hx₀ hb dX12_goes_234 ?_
                      refine va_iast hx₀ hb hK hP hD hS 5 0 rfl rfl (by unfold vp_in; decide +kernel) dX12_goes_235 ?_
                      clear hP hD hS
                      intro H locs hP hD hS
                      replace hP := k_w2 (wt := [(kAI vMi cI 24 qMi), (kAI vPs cI 32 qPs), (kX12 hm vFo vSi vIt vMo la vBy vTy mi vMi pn vPs gn vGs fn vFt le vTo kn fe en ca 0 0 vPr vSt vFn sn vSg vAl dr), (kAI vGs cI 16 qGs), (kAI vPr cI 2 qPr), (kAI vSt cI 2 (upd (upd (ga_15 0) (0 : Int32).toNatClampNeg (((ga_15 0) 0) + 1)) (1 : Int32).toNatClampNeg (((ga_15 0) 1) + 0))), (kAI vFn cI 2 (ga_15 1))]) hP hD rfl
                      replace hD := hP.2
                      replace hP := hP.1
                      refine lv_iinc (v := 2) (lv' := [(6, .int 2), (5, .int (kP3 qPs p1)), (4, .int y_1), (0, .ref hm), (1, .int p1), (2, .int m1), (3, .int h1)]) hx₀ hb dX12_goes_236 hl (k := 0) rfl (by decide +kernel) (by decide) rfl (fun ls hl => ?_)
                      refine lv_goto (tgt := 191) hx₀ hb dX12_goes_239 (by decide) ?_
                      refine lv_iload hx₀ hb dX12_goes_191 (lv_at hl 0 rfl) ?_
                      refine lv_iconst (v := 2) hx₀ hb dX12_goes_193 (by decide +kernel) ?_
                      refine lv_icmp_ge (tgt := 242) hx₀ hb dX12_goes_194 (by decide) (fun _ => ?_) (fun c9 => absurd (by decide +kernel) c9)
                      refine lv_iconst (v := 0) hx₀ hb dX12_goes_242 (by decide +kernel) ?_
                      obtain ⟨hP9, hD9⟩ := k_c2 (wc := [(kX12 hm vFo vSi vIt vMo la vBy vTy mi vMi pn vPs gn vGs fn vFt le vTo kn fe en ca 0 0 vPr vSt vFn sn vSg vAl dr), (kAI vMi cI 24 qMi), (kAI vPs cI 32 qPs), (kAI vGs cI 16 qGs), (kAI vPr cI 2 qPr), (kAI vSt cI 2 (upd (upd (ga_15 0) (0 : Int32).toNatClampNeg (((ga_15 0) 0) + 1)) (1 : Int32).toNatClampNeg (((ga_15 0) 1) + 0))), (kAI vFn cI 2 (ga_15 1))]) hP hD [2, 0, 1, 3, 4, 5, 6] (by decide +kernel) rfl
                      exact W.iret (v := 0) hx₀ hb hr (fun t₀ ht hW => ⟨⟨0, (k_fn [(0 : Int32), (0 : Int32)], k_fa [qPr, upd (upd (ga_15 0) (0 : Int32).toNatClampNeg (((ga_15 0) 0) + 1)) (1 : Int32).toNatClampNeg (((ga_15 0) 1) + 0), ga_15 1], k_fl [], k_fL [], k_fp []), rfl, ⟨hh0, (by rw [show kM qMi m1 = y_1 from ey_1.symm]; exact kRs_i ((kW_o c_2).trans (kT2 (c_21.trans c_9) (c_22.trans c_10) (c_19.trans (by rw [c_11, c_12])) (c_20.trans (by rw [c_12])))) (fun z => z.elim c_23 (Int32.not_lt.mpr c_24)) (kCh_5p hh3 c_25) (Int32.not_lt.mpr c_44) (kAd_n (fun z => (Int32.not_lt.mpr c_45) z.1)) (Int32.not_lt.mpr c_46) c_47 (kIs c_47 ((if_pos (Int32.not_le.mp c_48)).symm) (((Int32.add_zero _).trans (if_neg (Int32.not_lt.mpr c_50)).symm))))⟩, by rw [ht]; exact hP9, va_K.moved hW.alike hK, hD9⟩, hS.F ht⟩) hS.2.2 dX12_goes_243
                    · refine lv_iconst (v := 1) hx₀ hb dX12_goes_229 (by decide +kernel) ?_
                      refine lv_goto (tgt := 234) hx₀ hb dX12_goes_230 (by decide) ?_
                      refine lv_iadd hx₀ hb dX12_goes_234 ?_
                      refine va_iast hx₀ hb hK hP hD hS 5 0 rfl rfl (by unfold vp_in; decide +kernel) dX12_goes_235 ?_
                      clear hP hD hS
                      intro H locs hP hD hS
                      replace hP := k_w2 (wt := [(kAI vMi cI 24 qMi), (kAI vPs cI 32 qPs), (kX12 hm vFo vSi vIt vMo la vBy vTy mi vMi pn vPs gn vGs fn vFt le vTo kn fe en ca 0 0 vPr vSt vFn sn vSg vAl dr), (kAI vGs cI 16 qGs), (kAI vPr cI 2 qPr), (kAI vSt cI 2 (upd (upd (ga_15 0) (0 : Int32).toNatClampNeg (((ga_15 0) 0) + 1)) (1 : Int32).toNatClampNeg (((ga_15 0) 1) + 1))), (kAI vFn cI 2 (ga_15 1))]) hP hD rfl
                      replace hD := hP.2
                      replace hP := hP.1
                      refine lv_iinc (v := 2) (lv' := [(6, .int 2), (5, .int (kP3 qPs p1)), (4, .int y_1), (0, .ref hm), (1, .int p1), (2, .int m1), (3, .int h1)]) hx₀ hb dX12_goes_236 hl (k := 0) rfl (by decide +kernel) (by decide) rfl (fun ls hl => ?_)
                      refine lv_goto (tgt := 191) hx₀ hb dX12_goes_239 (by decide) ?_
                      refine lv_iload hx₀ hb dX12_goes_191 (lv_at hl 0 rfl) ?_
                      refine lv_iconst (v := 2) hx₀ hb dX12_goes_193 (by decide +kernel) ?_
                      refine lv_icmp_ge (tgt := 242) hx₀ hb dX12_goes_194 (by decide) (fun _ => ?_) (fun c9 => absurd (by decide +kernel) c9)
                      refine lv_iconst (v := 0) hx₀ hb dX12_goes_242 (by decide +kernel) ?_
                      obtain ⟨hP9, hD9⟩ := k_c2 (wc := [(kX12 hm vFo vSi vIt vMo la vBy vTy mi vMi pn vPs gn vGs fn vFt le vTo kn fe en ca 0 0 vPr vSt vFn sn vSg vAl dr), (kAI vMi cI 24 qMi), (kAI vPs cI 32 qPs), (kAI vGs cI 16 qGs), (kAI vPr cI 2 qPr), (kAI vSt cI 2 (upd (upd (ga_15 0) (0 : Int32).toNatClampNeg (((ga_15 0) 0) + 1)) (1 : Int32).toNatClampNeg (((ga_15 0) 1) + 1))), (kAI vFn cI 2 (ga_15 1))]) hP hD [2, 0, 1, 3, 4, 5, 6] (by decide +kernel) rfl
                      exact W.iret (v := 0) hx₀ hb hr (fun t₀ ht hW => ⟨⟨0, (k_fn [(0 : Int32), (0 : Int32)], k_fa [qPr, upd (upd (ga_15 0) (0 : Int32).toNatClampNeg (((ga_15 0) 0) + 1)) (1 : Int32).toNatClampNeg (((ga_15 0) 1) + 1), ga_15 1], k_fl [], k_fL [], k_fp []), rfl, ⟨hh0, (by rw [show kM qMi m1 = y_1 from ey_1.symm]; exact kRs_i ((kW_o c_2).trans (kT2 (c_21.trans c_9) (c_22.trans c_10) (c_19.trans (by rw [c_11, c_12])) (c_20.trans (by rw [c_12])))) (fun z => z.elim c_23 (Int32.not_lt.mpr c_24)) (kCh_5p hh3 c_25) (Int32.not_lt.mpr c_44) (kAd_n (fun z => (Int32.not_lt.mpr c_45) z.1)) (Int32.not_lt.mpr c_46) c_47 (kIs c_47 ((if_pos (Int32.not_le.mp c_48)).symm) ((if_pos (Int32.not_le.mp c_50)).symm)))⟩, by rw [ht]; exact hP9, va_K.moved hW.alike hK, hD9⟩, hS.F ht⟩) hS.2.2 dX12_goes_243
              · refine lv_iconst (v := 3) hx₀ hb dX12_goes_169 (by decide +kernel) ?_
                obtain ⟨hP9, hD9⟩ := k_c2 (wc := [(kX12 hm vFo vSi vIt vMo la vBy vTy mi vMi pn vPs gn vGs fn vFt le vTo kn fe en ca an (co + (h1 - 5)) vPr vSt vFn sn vSg vAl dr), (kAI vMi cI 24 qMi), (kAI vPs cI 32 qPs), (kAI vGs cI 16 qGs), (kAI vPr cI 2 qPr), (kAI vSt cI 2 (ga_15 0)), (kAI vFn cI 2 (ga_15 1))]) hP hD [2, 0, 1, 3, 4, 5, 6] (by decide +kernel) rfl
                exact W.iret (v := 3) hx₀ hb hr (fun t₀ ht hW => ⟨⟨3, (k_fn [an, (co + (h1 - 5))], k_fa [qPr, ga_15 0, ga_15 1], k_fl [], k_fL [], k_fp []), rfl, ⟨hh0, (by rw [show kM qMi m1 = y_1 from ey_1.symm]; exact kRs_3 ((kW_o c_2).trans (kT2 (c_21.trans c_9) (c_22.trans c_10) (c_19.trans (by rw [c_11, c_12])) (c_20.trans (by rw [c_12])))) (fun z => z.elim c_23 (Int32.not_lt.mpr c_24)) (kCh_5p hh3 c_25) (Int32.not_lt.mpr c_44) (kAd_n (fun z => (Int32.not_lt.mpr c_45) z.1)) (Int32.not_le.mp c_46))⟩, by rw [ht]; exact hP9, va_K.moved hW.alike hK, hD9⟩, hS.F ht⟩) hS.2.2 dX12_goes_170
            · refine lv_aload_n hx₀ hb dX12_goes_110 rfl (lv_at hl 2 rfl) ?_
              refine va_get (D := (dC, dI)) (ci := 11) (v := .int le) (C := RX12) (T := TX12) (N := 30) hx₀ hb hts inlX12 hown hK hP 2 rfl rfl 15 (by decide) (hts (.fieldLink RX12 167 "BittenStickModel" "learned" "I") wd_417) (fun _ h9 => h9) rfl dX12_goes_111 ?_
              refine lv_iload hx₀ hb dX12_goes_114 (lv_at hl 1 rfl) ?_
              obtain ⟨hPc, hDc, hFc, hC⟩ := k_cw (wc := []) hP hD hS hA [] (by decide +kernel) rfl
              refine va_calli (va_runS (As := [.int le, .int y_1]) (rest := []) ⟨hx₀, hb, hml, hown, hts⟩ (g_isIn l dC dI cI cJ cQ H.size le y_1) (va_cwS 2 hts (kGS wd_560 wd_558 wd_559 wd_5) rfl rfl rfl (by decide +kernel) ⟨Nat.le_of_ble_eq_true rfl, Nat.le_of_ble_eq_true rfl⟩) (k_preS hK hPc hDc hN) rfl rfl hl.1 rfl (lv_room (Nat.le_of_ble_eq_true rfl)) dX12_goes_116 ⟨by decide +kernel, by decide +kernel⟩) hS (fun q _ h => hFc q h) hFc (fun r_51 u₀ t₀ H1 locs ht hvm hw hB hz1 hk1 hS => ?_)
              obtain ⟨hP1, hK1, hD1⟩ := hB
              rw [ht] at hP1
              have hJ := k_jn (wr := [(kAI vMi cI 24 qMi), (kAI vPs cI 32 qPs), (kX12 hm vFo vSi vIt vMo la vBy vTy mi vMi pn vPs gn vGs fn vFt le vTo kn fe en ca an (co + (h1 - 5)) vPr vSt vFn sn vSg vAl dr), (kAI vGs cI 16 qGs), (kAI vPr cI 2 qPr), (kAI vSt cI 2 (ga_15 0)), (kAI vFn cI 2 (ga_15 1))]) (wt := [(kAI vMi cI 24 qMi), (kAI vPs cI 32 qPs), (kX12 hm vFo vSi vIt vMo la vBy vTy mi vMi pn vPs gn vGs fn vFt le vTo kn fe en ca an (co + (h1 - 5)) vPr vSt vFn sn vSg vAl dr), (kAI vGs cI 16 qGs), (kAI vPr cI 2 qPr), (kAI vSt cI 2 (ga_15 0)), (kAI vFn cI 2 (ga_15 1))]) hP hD hC [0, 1, 2, 3, 4, 5, 6] rfl (by decide +kernel) (by decide +kernel) hk1 hFc hP1 hD1 rfl
              clear hP hD hPc hDc hFc hC hP1 hD1 hK1 hz1 hk1 hvm ht
              obtain ⟨hP, hD⟩ := hJ
              generalize H1 = H at hP hS ⊢
              try dsimp only at hw
              by_cases c_52 : ((le >>> (y_1 &&& 31)) &&& 1) = 1
              · rw [if_pos c_52] at hw
                refine k_topi (v := 1) hw ?_
                refine lv_if_ne (tgt := 150) hx₀ hb dX12_goes_119 (by decide) (fun _ => ?_) (fun c9 => absurd c9 (by decide +kernel))
                refine lv_aload_n hx₀ hb dX12_goes_150 rfl (lv_at hl 2 rfl) ?_
                refine va_get (D := (dC, dI)) (ci := 11) (v := .int an) (C := RX12) (T := TX12) (N := 30) hx₀ hb hts inlX12 hown hK hP 2 rfl rfl 21 (by decide) (hts (.fieldLink RX12 184 "BittenStickModel" "anger" "I") wd_544) (fun _ h9 => h9) rfl dX12_goes_151 ?_
                refine lv_iconst (v := 5) hx₀ hb dX12_goes_154 (by decide +kernel) ?_
                refine lv_aload_n hx₀ hb dX12_goes_155 rfl (lv_at hl 2 rfl) ?_
                refine va_get (D := (dC, dI)) (ci := 11) (v := .ref vPs) (C := RX12) (T := TX12) (N := 30) hx₀ hb hts inlX12 hown hK hP 2 rfl rfl 10 (by decide) (hts (.fieldLink RX12 31 "BittenStickModel" "passenger" "[I") wd_122) (fun _ h9 => h9) rfl dX12_goes_156 ?_
                refine lv_iconst (v := 4) hx₀ hb dX12_goes_159 (by decide +kernel) ?_
                refine lv_iload_n hx₀ hb dX12_goes_160 rfl (lv_at hl 3 rfl) ?_
                refine lv_imul hx₀ hb dX12_goes_161 ?_
                refine lv_iconst (v := 2) hx₀ hb dX12_goes_162 (by decide +kernel) ?_
                refine lv_iadd hx₀ hb dX12_goes_163 ?_
                refine va_iald hx₀ hb hK hP 1 0 rfl rfl (vp_in_iff.mpr (lf_g_goes_3 p1 hh1)) dX12_goes_164 ?_
                refine k_topi (v := kP2 qPs p1) rfl ?_
                refine lv_imul hx₀ hb dX12_goes_165 ?_
                refine lv_icmp_le (tgt := 171) hx₀ hb dX12_goes_166 (by decide) (fun c_53 => ?_) (fun c_53 => ?_)
                · refine lv_iload hx₀ hb dX12_goes_171 (lv_at hl 1 rfl) ?_
                  refine lv_bipush (v := 7) hx₀ hb dX12_goes_173 (by decide +kernel) ?_
                  refine lv_icmp_ne (tgt := 242) hx₀ hb dX12_goes_175 (by decide) (fun c_54 => ?_) (fun c9 => (lf_e_goes_3 p1 m1 h1 (qPr 0) (qPr 1) y_1 ga_5 (qSt 1) (qFn 1) ga_15 co hh1 hh2 hh3 hp0 hp1 c_2 c_11 c_12 c_21 c_22 c_25 c_44 c_45 c9).elim)
                  refine lv_iconst (v := 0) hx₀ hb dX12_goes_242 (by decide +kernel) ?_
                  obtain ⟨hP9, hD9⟩ := k_c2 (wc := [(kX12 hm vFo vSi vIt vMo la vBy vTy mi vMi pn vPs gn vGs fn vFt le vTo kn fe en ca an (co + (h1 - 5)) vPr vSt vFn sn vSg vAl dr), (kAI vMi cI 24 qMi), (kAI vPs cI 32 qPs), (kAI vGs cI 16 qGs), (kAI vPr cI 2 qPr), (kAI vSt cI 2 (ga_15 0)), (kAI vFn cI 2 (ga_15 1))]) hP hD [2, 0, 1, 3, 4, 5, 6] (by decide +kernel) rfl
                  exact W.iret (v := 0) hx₀ hb hr (fun t₀ ht hW => ⟨⟨0, (k_fn [an, (co + (h1 - 5))], k_fa [qPr, ga_15 0, ga_15 1], k_fl [], k_fL [], k_fp []), rfl, ⟨hh0, (by rw [show kM qMi m1 = y_1 from ey_1.symm]; exact kRs_0 ((kW_o c_2).trans (kT2 (c_21.trans c_9) (c_22.trans c_10) (c_19.trans (by rw [c_11, c_12])) (c_20.trans (by rw [c_12])))) (fun z => z.elim c_23 (Int32.not_lt.mpr c_24)) (kCh_5p hh3 c_25) (Int32.not_lt.mpr c_44) (kAd_n (fun z => z.2.1 c_52)) (Int32.not_lt.mpr c_53) c_54)⟩, by rw [ht]; exact hP9, va_K.moved hW.alike hK, hD9⟩, hS.F ht⟩) hS.2.2 dX12_goes_243
                · refine lv_iconst (v := 3) hx₀ hb dX12_goes_169 (by decide +kernel) ?_
                  obtain ⟨hP9, hD9⟩ := k_c2 (wc := [(kX12 hm vFo vSi vIt vMo la vBy vTy mi vMi pn vPs gn vGs fn vFt le vTo kn fe en ca an (co + (h1 - 5)) vPr vSt vFn sn vSg vAl dr), (kAI vMi cI 24 qMi), (kAI vPs cI 32 qPs), (kAI vGs cI 16 qGs), (kAI vPr cI 2 qPr), (kAI vSt cI 2 (ga_15 0)), (kAI vFn cI 2 (ga_15 1))]) hP hD [2, 0, 1, 3, 4, 5, 6] (by decide +kernel) rfl
                  exact W.iret (v := 3) hx₀ hb hr (fun t₀ ht hW => ⟨⟨3, (k_fn [an, (co + (h1 - 5))], k_fa [qPr, ga_15 0, ga_15 1], k_fl [], k_fL [], k_fp []), rfl, ⟨hh0, (by rw [show kM qMi m1 = y_1 from ey_1.symm]; exact kRs_3 ((kW_o c_2).trans (kT2 (c_21.trans c_9) (c_22.trans c_10) (c_19.trans (by rw [c_11, c_12])) (c_20.trans (by rw [c_12])))) (fun z => z.elim c_23 (Int32.not_lt.mpr c_24)) (kCh_5p hh3 c_25) (Int32.not_lt.mpr c_44) (kAd_n (fun z => z.2.1 c_52)) (Int32.not_le.mp c_53))⟩, by rw [ht]; exact hP9, va_K.moved hW.alike hK, hD9⟩, hS.F ht⟩) hS.2.2 dX12_goes_170
              rw [if_neg c_52] at hw
              refine k_topi (v := 0) hw ?_
              refine lv_if_ne (tgt := 150) hx₀ hb dX12_goes_119 (by decide) (fun c9 => absurd (by decide +kernel) c9) (fun _ => ?_)
              refine lv_aload_n hx₀ hb dX12_goes_122 rfl (lv_at hl 2 rfl) ?_
              refine va_get (D := (dC, dI)) (ci := 11) (v := .int ca) (C := RX12) (T := TX12) (N := 30) hx₀ hb hts inlX12 hown hK hP 2 rfl rfl 20 (by decide) (hts (.fieldLink RX12 59 "BittenStickModel" "calling" "I") wd_132) (fun _ h9 => h9) rfl dX12_goes_123 ?_
              refine lv_iload_n hx₀ hb dX12_goes_126 rfl (lv_at hl 4 rfl) ?_
              obtain ⟨hPc, hDc, hFc, hC⟩ := k_cw (wc := []) hP hD hS hA [] (by decide +kernel) rfl
              refine va_calli (va_runS (As := [.int ca, .int m1]) (rest := []) ⟨hx₀, hb, hml, hown, hts⟩ (g_isIn l dC dI cI cJ cQ H.size ca m1) (va_cwS 2 hts (kGS wd_560 wd_558 wd_559 wd_5) rfl rfl rfl (by decide +kernel) ⟨Nat.le_of_ble_eq_true rfl, Nat.le_of_ble_eq_true rfl⟩) (k_preS hK hPc hDc hN) rfl rfl hl.1 rfl (lv_room (Nat.le_of_ble_eq_true rfl)) dX12_goes_127 ⟨by decide +kernel, by decide +kernel⟩) hS (fun q _ h => hFc q h) hFc (fun r_55 u₀ t₀ H1 locs ht hvm hw hB hz1 hk1 hS => ?_)
              obtain ⟨hP1, hK1, hD1⟩ := hB
              rw [ht] at hP1
              have hJ := k_jn (wr := [(kAI vMi cI 24 qMi), (kAI vPs cI 32 qPs), (kX12 hm vFo vSi vIt vMo la vBy vTy mi vMi pn vPs gn vGs fn vFt le vTo kn fe en ca an (co + (h1 - 5)) vPr vSt vFn sn vSg vAl dr), (kAI vGs cI 16 qGs), (kAI vPr cI 2 qPr), (kAI vSt cI 2 (ga_15 0)), (kAI vFn cI 2 (ga_15 1))]) (wt := [(kAI vMi cI 24 qMi), (kAI vPs cI 32 qPs), (kX12 hm vFo vSi vIt vMo la vBy vTy mi vMi pn vPs gn vGs fn vFt le vTo kn fe en ca an (co + (h1 - 5)) vPr vSt vFn sn vSg vAl dr), (kAI vGs cI 16 qGs), (kAI vPr cI 2 qPr), (kAI vSt cI 2 (ga_15 0)), (kAI vFn cI 2 (ga_15 1))]) hP hD hC [0, 1, 2, 3, 4, 5, 6] rfl (by decide +kernel) (by decide +kernel) hk1 hFc hP1 hD1 rfl
              clear hP hD hPc hDc hFc hC hP1 hD1 hK1 hz1 hk1 hvm ht
              obtain ⟨hP, hD⟩ := hJ
              generalize H1 = H at hP hS ⊢
              try dsimp only at hw
              by_cases c_56 : ((ca >>> (m1 &&& 31)) &&& 1) = 1
              · rw [if_pos c_56] at hw
                refine k_topi (v := 1) hw ?_
                refine lv_if_eq (tgt := 150) hx₀ hb dX12_goes_130 (by decide) (fun c9 => absurd c9 (by decide +kernel)) (fun _ => ?_)
                refine lv_aload_n hx₀ hb dX12_goes_133 rfl (lv_at hl 2 rfl) ?_
                refine lv_dup hx₀ hb dX12_goes_134 rfl ?_
                refine va_get (D := (dC, dI)) (ci := 11) (v := .int an) (C := RX12) (T := TX12) (N := 30) hx₀ hb hts inlX12 hown hK hP 2 rfl rfl 21 (by decide) (hts (.fieldLink RX12 184 "BittenStickModel" "anger" "I") wd_544) (fun _ h9 => h9) rfl dX12_goes_135 ?_
                refine lv_aload_n hx₀ hb dX12_goes_138 rfl (lv_at hl 2 rfl) ?_
                refine lv_iload_n hx₀ hb dX12_goes_139 rfl (lv_at hl 3 rfl) ?_
                refine lv_iload hx₀ hb dX12_goes_140 (lv_at hl 1 rfl) ?_
                refine lv_iload_n hx₀ hb dX12_goes_142 rfl (lv_at hl 5 rfl) ?_
                obtain ⟨hPc, hDc, hFc, hC⟩ := k_cw (wc := [(kX12 hm vFo vSi vIt vMo la vBy vTy mi vMi pn vPs gn vGs fn vFt le vTo kn fe en ca an (co + (h1 - 5)) vPr vSt vFn sn vSg vAl dr), (kAI vPs cI 32 qPs)]) hP hD hS hA [2, 1] (by decide +kernel) rfl
                refine va_calli (va_runV (As := [.int p1, .int y_1, .int h1]) (rest := [.int an, .ref hm]) ⟨hx₀, hb, hml, hown, hts⟩ (g_angerBy l dC dI cI cJ cQ H.size hm p1 y_1 h1 vFo vSi vIt vMo la vBy vTy mi vMi pn vPs gn vGs fn vFt le vTo kn fe en ca an (co + (h1 - 5)) vPr vSt vFn sn vSg vAl dr qPs (hh1)) (cwV 3 hts (kGV wd_564 wd_561 wd_562 wd_563 wd_5) rfl rfl rfl (by decide +kernel) ⟨Nat.le_of_ble_eq_true rfl, Nat.le_of_ble_eq_true rfl⟩) (k_preV11 (q0 := 0) hK hPc hDc hN rfl) rfl rfl hl.1 rfl (lv_room (Nat.le_of_ble_eq_true rfl)) dX12_goes_143 ⟨by decide +kernel, by decide +kernel⟩) hS (fun q _ h => hFc q h) hFc (fun r_57 u₀ t₀ H1 locs ht hvm hw hB hz1 hk1 hS => ?_)
                obtain ⟨hP1, hK1, hD1⟩ := hB
                rw [ht] at hP1
                have hJ := k_jn (wr := [(kAI vMi cI 24 qMi), (kAI vGs cI 16 qGs), (kAI vPr cI 2 qPr), (kAI vSt cI 2 (ga_15 0)), (kAI vFn cI 2 (ga_15 1))]) (wt := [(kAI vMi cI 24 qMi), (kAI vGs cI 16 qGs), (kAI vPr cI 2 qPr), (kAI vSt cI 2 (ga_15 0)), (kAI vFn cI 2 (ga_15 1)), (kX12 hm vFo vSi vIt vMo la vBy vTy mi vMi pn vPs gn vGs fn vFt le vTo kn fe en ca an (co + (h1 - 5)) vPr vSt vFn sn vSg vAl dr), (kAI vPs cI 32 qPs)]) hP hD hC [0, 3, 4, 5, 6] rfl (by decide +kernel) (by decide +kernel) hk1 hFc hP1 hD1 rfl
                clear hP hD hPc hDc hFc hC hP1 hD1 hK1 hz1 hk1 hvm ht
                obtain ⟨hP, hD⟩ := hJ
                generalize H1 = H at hP hS ⊢
                try dsimp only at hw
                refine k_topi (v := kAn (kP0 qPs p1) (kP1 qPs p1) y_1 h1) hw ?_
                refine lv_iadd hx₀ hb dX12_goes_146 ?_
                refine va_put (D := (dC, dI)) (ci := 11) (v := .int (an + (kAn (kP0 qPs p1) (kP1 qPs p1) y_1 h1))) (ty := .int) (C := RX12) (T := TX12) (N := 30) hx₀ hb hts inlX12 tyX12 tyX12_ok nmX12 hown hK hP hD hS 5 rfl rfl 21 (by decide) (hts (.fieldLink RX12 184 "BittenStickModel" "anger" "I") wd_544) (fun _ h9 => h9) rfl (by decide +kernel) rfl rfl (Nat.le_of_ble_eq_true rfl) dX12_goes_147 ?_
                clear hP hD hS
                intro H locs hP hD hS
                replace hP := k_w2 (wt := [(kAI vMi cI 24 qMi), (kAI vGs cI 16 qGs), (kAI vPr cI 2 qPr), (kAI vSt cI 2 (ga_15 0)), (kAI vFn cI 2 (ga_15 1)), (kX12 hm vFo vSi vIt vMo la vBy vTy mi vMi pn vPs gn vGs fn vFt le vTo kn fe en ca (an + (kAn (kP0 qPs p1) (kP1 qPs p1) y_1 h1)) (co + (h1 - 5)) vPr vSt vFn sn vSg vAl dr), (kAI vPs cI 32 qPs)]) hP hD rfl
                replace hD := hP.2
                replace hP := hP.1
                refine lv_aload_n hx₀ hb dX12_goes_150 rfl (lv_at hl 2 rfl) ?_
                refine va_get (D := (dC, dI)) (ci := 11) (v := .int (an + (kAn (kP0 qPs p1) (kP1 qPs p1) y_1 h1))) (C := RX12) (T := TX12) (N := 30) hx₀ hb hts inlX12 hown hK hP 5 rfl rfl 21 (by decide) (hts (.fieldLink RX12 184 "BittenStickModel" "anger" "I") wd_544) (fun _ h9 => h9) rfl dX12_goes_151 ?_
                refine lv_iconst (v := 5) hx₀ hb dX12_goes_154 (by decide +kernel) ?_
                refine lv_aload_n hx₀ hb dX12_goes_155 rfl (lv_at hl 2 rfl) ?_
                refine va_get (D := (dC, dI)) (ci := 11) (v := .ref vPs) (C := RX12) (T := TX12) (N := 30) hx₀ hb hts inlX12 hown hK hP 5 rfl rfl 10 (by decide) (hts (.fieldLink RX12 31 "BittenStickModel" "passenger" "[I") wd_122) (fun _ h9 => h9) rfl dX12_goes_156 ?_
                refine lv_iconst (v := 4) hx₀ hb dX12_goes_159 (by decide +kernel) ?_
                refine lv_iload_n hx₀ hb dX12_goes_160 rfl (lv_at hl 3 rfl) ?_
                refine lv_imul hx₀ hb dX12_goes_161 ?_
                refine lv_iconst (v := 2) hx₀ hb dX12_goes_162 (by decide +kernel) ?_
                refine lv_iadd hx₀ hb dX12_goes_163 ?_
                refine va_iald hx₀ hb hK hP 6 0 rfl rfl (vp_in_iff.mpr (lf_g_goes_3 p1 hh1)) dX12_goes_164 ?_
                refine k_topi (v := kP2 qPs p1) rfl ?_
                refine lv_imul hx₀ hb dX12_goes_165 ?_
                refine lv_icmp_le (tgt := 171) hx₀ hb dX12_goes_166 (by decide) (fun c_58 => ?_) (fun c_58 => ?_)
                · refine lv_iload hx₀ hb dX12_goes_171 (lv_at hl 1 rfl) ?_
                  refine lv_bipush (v := 7) hx₀ hb dX12_goes_173 (by decide +kernel) ?_
                  refine lv_icmp_ne (tgt := 242) hx₀ hb dX12_goes_175 (by decide) (fun c_59 => ?_) (fun c9 => (lf_e_goes_3 p1 m1 h1 (qPr 0) (qPr 1) y_1 ga_5 (qSt 1) (qFn 1) ga_15 co hh1 hh2 hh3 hp0 hp1 c_2 c_11 c_12 c_21 c_22 c_25 c_44 c_45 c9).elim)
                  refine lv_iconst (v := 0) hx₀ hb dX12_goes_242 (by decide +kernel) ?_
                  obtain ⟨hP9, hD9⟩ := k_c2 (wc := [(kX12 hm vFo vSi vIt vMo la vBy vTy mi vMi pn vPs gn vGs fn vFt le vTo kn fe en ca (an + (kAn (kP0 qPs p1) (kP1 qPs p1) y_1 h1)) (co + (h1 - 5)) vPr vSt vFn sn vSg vAl dr), (kAI vMi cI 24 qMi), (kAI vPs cI 32 qPs), (kAI vGs cI 16 qGs), (kAI vPr cI 2 qPr), (kAI vSt cI 2 (ga_15 0)), (kAI vFn cI 2 (ga_15 1))]) hP hD [5, 0, 6, 1, 2, 3, 4] (by decide +kernel) rfl
                  exact W.iret (v := 0) hx₀ hb hr (fun t₀ ht hW => ⟨⟨0, (k_fn [(an + (kAn (kP0 qPs p1) (kP1 qPs p1) y_1 h1)), (co + (h1 - 5))], k_fa [qPr, ga_15 0, ga_15 1], k_fl [], k_fL [], k_fp []), rfl, ⟨hh0, (by rw [show kM qMi m1 = y_1 from ey_1.symm]; exact kRs_0 ((kW_o c_2).trans (kT2 (c_21.trans c_9) (c_22.trans c_10) (c_19.trans (by rw [c_11, c_12])) (c_20.trans (by rw [c_12])))) (fun z => z.elim c_23 (Int32.not_lt.mpr c_24)) (kCh_5p hh3 c_25) (Int32.not_lt.mpr c_44) (kAd_y (Int32.not_le.mp c_45) c_52 c_56) (Int32.not_lt.mpr c_58) c_59)⟩, by rw [ht]; exact hP9, va_K.moved hW.alike hK, hD9⟩, hS.F ht⟩) hS.2.2 dX12_goes_243
                · refine lv_iconst (v := 3) hx₀ hb dX12_goes_169 (by decide +kernel) ?_
                  obtain ⟨hP9, hD9⟩ := k_c2 (wc := [(kX12 hm vFo vSi vIt vMo la vBy vTy mi vMi pn vPs gn vGs fn vFt le vTo kn fe en ca (an + (kAn (kP0 qPs p1) (kP1 qPs p1) y_1 h1)) (co + (h1 - 5)) vPr vSt vFn sn vSg vAl dr), (kAI vMi cI 24 qMi), (kAI vPs cI 32 qPs), (kAI vGs cI 16 qGs), (kAI vPr cI 2 qPr), (kAI vSt cI 2 (ga_15 0)), (kAI vFn cI 2 (ga_15 1))]) hP hD [5, 0, 6, 1, 2, 3, 4] (by decide +kernel) rfl
                  exact W.iret (v := 3) hx₀ hb hr (fun t₀ ht hW => ⟨⟨3, (k_fn [(an + (kAn (kP0 qPs p1) (kP1 qPs p1) y_1 h1)), (co + (h1 - 5))], k_fa [qPr, ga_15 0, ga_15 1], k_fl [], k_fL [], k_fp []), rfl, ⟨hh0, (by rw [show kM qMi m1 = y_1 from ey_1.symm]; exact kRs_3 ((kW_o c_2).trans (kT2 (c_21.trans c_9) (c_22.trans c_10) (c_19.trans (by rw [c_11, c_12])) (c_20.trans (by rw [c_12])))) (fun z => z.elim c_23 (Int32.not_lt.mpr c_24)) (kCh_5p hh3 c_25) (Int32.not_lt.mpr c_44) (kAd_y (Int32.not_le.mp c_45) c_52 c_56) (Int32.not_le.mp c_58))⟩, by rw [ht]; exact hP9, va_K.moved hW.alike hK, hD9⟩, hS.F ht⟩) hS.2.2 dX12_goes_170
              rw [if_neg c_56] at hw
              refine k_topi (v := 0) hw ?_
              refine lv_if_eq (tgt := 150) hx₀ hb dX12_goes_130 (by decide) (fun _ => ?_) (fun c9 => absurd (by decide +kernel) c9)
              refine lv_aload_n hx₀ hb dX12_goes_150 rfl (lv_at hl 2 rfl) ?_
              refine va_get (D := (dC, dI)) (ci := 11) (v := .int an) (C := RX12) (T := TX12) (N := 30) hx₀ hb hts inlX12 hown hK hP 2 rfl rfl 21 (by decide) (hts (.fieldLink RX12 184 "BittenStickModel" "anger" "I") wd_544) (fun _ h9 => h9) rfl dX12_goes_151 ?_
              refine lv_iconst (v := 5) hx₀ hb dX12_goes_154 (by decide +kernel) ?_
              refine lv_aload_n hx₀ hb dX12_goes_155 rfl (lv_at hl 2 rfl) ?_
              refine va_get (D := (dC, dI)) (ci := 11) (v := .ref vPs) (C := RX12) (T := TX12) (N := 30) hx₀ hb hts inlX12 hown hK hP 2 rfl rfl 10 (by decide) (hts (.fieldLink RX12 31 "BittenStickModel" "passenger" "[I") wd_122) (fun _ h9 => h9) rfl dX12_goes_156 ?_
              refine lv_iconst (v := 4) hx₀ hb dX12_goes_159 (by decide +kernel) ?_
              refine lv_iload_n hx₀ hb dX12_goes_160 rfl (lv_at hl 3 rfl) ?_
              refine lv_imul hx₀ hb dX12_goes_161 ?_
              refine lv_iconst (v := 2) hx₀ hb dX12_goes_162 (by decide +kernel) ?_
              refine lv_iadd hx₀ hb dX12_goes_163 ?_
              refine va_iald hx₀ hb hK hP 1 0 rfl rfl (vp_in_iff.mpr (lf_g_goes_3 p1 hh1)) dX12_goes_164 ?_
              refine k_topi (v := kP2 qPs p1) rfl ?_
              refine lv_imul hx₀ hb dX12_goes_165 ?_
              refine lv_icmp_le (tgt := 171) hx₀ hb dX12_goes_166 (by decide) (fun c_60 => ?_) (fun c_60 => ?_)
              · refine lv_iload hx₀ hb dX12_goes_171 (lv_at hl 1 rfl) ?_
                refine lv_bipush (v := 7) hx₀ hb dX12_goes_173 (by decide +kernel) ?_
                refine lv_icmp_ne (tgt := 242) hx₀ hb dX12_goes_175 (by decide) (fun c_61 => ?_) (fun c9 => (lf_e_goes_3 p1 m1 h1 (qPr 0) (qPr 1) y_1 ga_5 (qSt 1) (qFn 1) ga_15 co hh1 hh2 hh3 hp0 hp1 c_2 c_11 c_12 c_21 c_22 c_25 c_44 c_45 c9).elim)
                refine lv_iconst (v := 0) hx₀ hb dX12_goes_242 (by decide +kernel) ?_
                obtain ⟨hP9, hD9⟩ := k_c2 (wc := [(kX12 hm vFo vSi vIt vMo la vBy vTy mi vMi pn vPs gn vGs fn vFt le vTo kn fe en ca an (co + (h1 - 5)) vPr vSt vFn sn vSg vAl dr), (kAI vMi cI 24 qMi), (kAI vPs cI 32 qPs), (kAI vGs cI 16 qGs), (kAI vPr cI 2 qPr), (kAI vSt cI 2 (ga_15 0)), (kAI vFn cI 2 (ga_15 1))]) hP hD [2, 0, 1, 3, 4, 5, 6] (by decide +kernel) rfl
                exact W.iret (v := 0) hx₀ hb hr (fun t₀ ht hW => ⟨⟨0, (k_fn [an, (co + (h1 - 5))], k_fa [qPr, ga_15 0, ga_15 1], k_fl [], k_fL [], k_fp []), rfl, ⟨hh0, (by rw [show kM qMi m1 = y_1 from ey_1.symm]; exact kRs_0 ((kW_o c_2).trans (kT2 (c_21.trans c_9) (c_22.trans c_10) (c_19.trans (by rw [c_11, c_12])) (c_20.trans (by rw [c_12])))) (fun z => z.elim c_23 (Int32.not_lt.mpr c_24)) (kCh_5p hh3 c_25) (Int32.not_lt.mpr c_44) (kAd_n (fun z => c_56 z.2.2)) (Int32.not_lt.mpr c_60) c_61)⟩, by rw [ht]; exact hP9, va_K.moved hW.alike hK, hD9⟩, hS.F ht⟩) hS.2.2 dX12_goes_243
              · refine lv_iconst (v := 3) hx₀ hb dX12_goes_169 (by decide +kernel) ?_
                obtain ⟨hP9, hD9⟩ := k_c2 (wc := [(kX12 hm vFo vSi vIt vMo la vBy vTy mi vMi pn vPs gn vGs fn vFt le vTo kn fe en ca an (co + (h1 - 5)) vPr vSt vFn sn vSg vAl dr), (kAI vMi cI 24 qMi), (kAI vPs cI 32 qPs), (kAI vGs cI 16 qGs), (kAI vPr cI 2 qPr), (kAI vSt cI 2 (ga_15 0)), (kAI vFn cI 2 (ga_15 1))]) hP hD [2, 0, 1, 3, 4, 5, 6] (by decide +kernel) rfl
                exact W.iret (v := 3) hx₀ hb hr (fun t₀ ht hW => ⟨⟨3, (k_fn [an, (co + (h1 - 5))], k_fa [qPr, ga_15 0, ga_15 1], k_fl [], k_fL [], k_fp []), rfl, ⟨hh0, (by rw [show kM qMi m1 = y_1 from ey_1.symm]; exact kRs_3 ((kW_o c_2).trans (kT2 (c_21.trans c_9) (c_22.trans c_10) (c_19.trans (by rw [c_11, c_12])) (c_20.trans (by rw [c_12])))) (fun z => z.elim c_23 (Int32.not_lt.mpr c_24)) (kCh_5p hh3 c_25) (Int32.not_lt.mpr c_44) (kAd_n (fun z => c_56 z.2.2)) (Int32.not_le.mp c_60))⟩, by rw [ht]; exact hP9, va_K.moved hW.alike hK, hD9⟩, hS.F ht⟩) hS.2.2 dX12_goes_170
          · refine lv_iconst (v := 2) hx₀ hb dX12_goes_101 (by decide +kernel) ?_
            obtain ⟨hP9, hD9⟩ := k_c2 (wc := [(kX12 hm vFo vSi vIt vMo la vBy vTy mi vMi pn vPs gn vGs fn vFt le vTo kn fe en ca an (co + (h1 - 5)) vPr vSt vFn sn vSg vAl dr), (kAI vMi cI 24 qMi), (kAI vPs cI 32 qPs), (kAI vGs cI 16 qGs), (kAI vPr cI 2 qPr), (kAI vSt cI 2 (ga_15 0)), (kAI vFn cI 2 (ga_15 1))]) hP hD [2, 0, 1, 3, 4, 5, 6] (by decide +kernel) rfl
            exact W.iret (v := 2) hx₀ hb hr (fun t₀ ht hW => ⟨⟨2, (k_fn [an, (co + (h1 - 5))], k_fa [qPr, ga_15 0, ga_15 1], k_fl [], k_fL [], k_fp []), rfl, ⟨hh0, (by rw [show kM qMi m1 = y_1 from ey_1.symm]; exact kRs_2 ((kW_o c_2).trans (kT2 (c_21.trans c_9) (c_22.trans c_10) (c_19.trans (by rw [c_11, c_12])) (c_20.trans (by rw [c_12])))) (fun z => z.elim c_23 (Int32.not_lt.mpr c_24)) (kCh_5p hh3 c_25) (Int32.not_le.mp c_44))⟩, by rw [ht]; exact hP9, va_K.moved hW.alike hK, hD9⟩, hS.F ht⟩) hS.2.2 dX12_goes_102
      · refine lv_iconst (v := 1) hx₀ hb dX12_goes_69 (by decide +kernel) ?_
        obtain ⟨hP9, hD9⟩ := k_c2 (wc := [(kX12 hm vFo vSi vIt vMo la vBy vTy mi vMi pn vPs gn vGs fn vFt le vTo kn fe en ca an co vPr vSt vFn sn vSg vAl dr), (kAI vMi cI 24 qMi), (kAI vPs cI 32 qPs), (kAI vGs cI 16 qGs), (kAI vPr cI 2 qPr), (kAI vSt cI 2 (ga_15 0)), (kAI vFn cI 2 (ga_15 1))]) hP hD [2, 0, 1, 3, 4, 5, 6] (by decide +kernel) rfl
        exact W.iret (v := 1) hx₀ hb hr (fun t₀ ht hW => ⟨⟨1, (k_fn [an, co], k_fa [qPr, ga_15 0, ga_15 1], k_fl [], k_fL [], k_fp []), rfl, ⟨hh0, (by rw [show kM qMi m1 = y_1 from ey_1.symm]; exact kRs_1 ((kW_o c_2).trans (kT2 (c_21.trans c_9) (c_22.trans c_10) (c_19.trans (by rw [c_11, c_12])) (c_20.trans (by rw [c_12])))) (Or.inr (Int32.not_le.mp c_24)))⟩, by rw [ht]; exact hP9, va_K.moved hW.alike hK, hD9⟩, hS.F ht⟩) hS.2.2 dX12_goes_70
  · refine lv_aload_n hx₀ hb dX12_goes_15 rfl (lv_at hl 1 rfl) ?_
    obtain ⟨hPc, hDc, hFc, hC⟩ := k_cw (wc := [(kX12 hm vFo vSi vIt vMo la vBy vTy mi vMi pn vPs gn vGs fn vFt le vTo kn fe en ca an co vPr vSt vFn sn vSg vAl dr), (kAI vPr cI 2 qPr), (kAI vSt cI 2 qSt), (kAI vFn cI 2 qFn)]) hP hD hS hA [0, 4, 5, 6] (by decide +kernel) rfl
    refine va_callv (va_runV (As := []) (rest := []) ⟨hx₀, hb, hml, hown, hts⟩ (g_changes l dC dI cI cJ cQ H.size hm vFo vSi vIt vMo la vBy vTy mi vMi pn vPs gn vGs fn vFt le vTo kn fe en ca an co vPr vSt vFn sn vSg vAl dr qPr qSt qFn (hh0)) (cwV 0 hts (kGV wd_553 wd_550 wd_551 wd_552 wd_5) rfl rfl rfl (by decide +kernel) ⟨Nat.le_of_ble_eq_true rfl, Nat.le_of_ble_eq_true rfl⟩) (k_preV11 (q0 := 0) hK hPc hDc hN rfl) rfl rfl hl.1 rfl (lv_room (Nat.le_of_ble_eq_true rfl)) dX12_goes_16 ⟨by decide +kernel, by decide +kernel⟩) hS (fun q _ h => hFc q h) hFc (fun u₀ t₀ H1 locs ht hvm hw hB hz1 hk1 hS => ?_)
    obtain ⟨g_63, ga_64, gl_65, gb_66, gp_67⟩ := u₀
    obtain ⟨hP1, hK1, hD1⟩ := hB
    rw [ht] at hP1
    have hJ := k_jn (wr := [(kAI vMi cI 24 qMi), (kAI vPs cI 32 qPs), (kAI vGs cI 16 qGs)]) (wt := [(kAI vMi cI 24 qMi), (kAI vPs cI 32 qPs), (kAI vGs cI 16 qGs), (kX12 hm vFo vSi vIt vMo la vBy vTy mi vMi pn vPs gn vGs fn vFt le vTo kn fe en ca an co vPr vSt vFn sn vSg vAl dr), (kAI vPr cI 2 (ga_64 0)), (kAI vSt cI 2 (ga_64 1)), (kAI vFn cI 2 (ga_64 2))]) hP hD hC [1, 2, 3] rfl (by decide +kernel) (by decide +kernel) hk1 hFc hP1 hD1 rfl
    clear hP hD hPc hDc hFc hC hP1 hD1 hK1 hz1 hk1 hvm ht
    obtain ⟨hP, hD⟩ := hJ
    generalize H1 = H at hP hS ⊢
    try dsimp only at hw
    obtain ⟨c_68, c_69, c_70, c_71, c_72, c_73, c_74⟩ := hw
    refine lv_aload_n hx₀ hb dX12_goes_19 rfl (lv_at hl 1 rfl) ?_
    refine lv_iconst (v := 0) hx₀ hb dX12_goes_20 (by decide +kernel) ?_
    obtain ⟨hPc, hDc, hFc, hC⟩ := k_cw (wc := [(kX12 hm vFo vSi vIt vMo la vBy vTy mi vMi pn vPs gn vGs fn vFt le vTo kn fe en ca an co vPr vSt vFn sn vSg vAl dr), (kAI vGs cI 16 qGs), (kAI vPr cI 2 (ga_64 0)), (kAI vSt cI 2 (ga_64 1)), (kAI vFn cI 2 (ga_64 2))]) hP hD hS hA [3, 2, 4, 5, 6] (by decide +kernel) rfl
    refine va_callv (va_runV (As := [.int 0]) (rest := []) ⟨hx₀, hb, hml, hown, hts⟩ (g_tires0 l dC dI cI cJ cQ H.size hm vFo vSi vIt vMo la vBy vTy mi vMi pn vPs gn vGs fn vFt le vTo kn fe en ca an co vPr vSt vFn sn vSg vAl dr qGs (ga_64 0) (ga_64 1) (ga_64 2) (c_74)) (cwV 1 hts (kGV wd_557 wd_554 wd_555 wd_556 wd_5) rfl rfl rfl (by decide +kernel) ⟨Nat.le_of_ble_eq_true rfl, Nat.le_of_ble_eq_true rfl⟩) (k_preV11 (q0 := 0) hK hPc hDc hN rfl) rfl rfl hl.1 rfl (lv_room (Nat.le_of_ble_eq_true rfl)) dX12_goes_21 ⟨by decide +kernel, by decide +kernel⟩) hS (fun q _ h => hFc q h) hFc (fun u₀ t₀ H1 locs ht hvm hw hB hz1 hk1 hS => ?_)
    obtain ⟨g_76, ga_77, gl_78, gb_79, gp_80⟩ := u₀
    obtain ⟨hP1, hK1, hD1⟩ := hB
    rw [ht] at hP1
    have hJ := k_jn (wr := [(kAI vMi cI 24 qMi), (kAI vPs cI 32 qPs)]) (wt := [(kAI vMi cI 24 qMi), (kAI vPs cI 32 qPs), (kX12 hm vFo vSi vIt vMo la vBy vTy mi vMi pn vPs gn vGs fn vFt le vTo kn fe en ca an co vPr vSt vFn sn vSg vAl dr), (kAI vGs cI 16 qGs), (kAI vPr cI 2 (ga_64 0)), (kAI vSt cI 2 (ga_77 0)), (kAI vFn cI 2 (ga_77 1))]) hP hD hC [0, 1] rfl (by decide +kernel) (by decide +kernel) hk1 hFc hP1 hD1 rfl
    clear hP hD hPc hDc hFc hC hP1 hD1 hK1 hz1 hk1 hvm ht
    obtain ⟨hP, hD⟩ := hJ
    generalize H1 = H at hP hS ⊢
    try dsimp only at hw
    obtain ⟨c_81, c_82, c_83, c_84⟩ := hw
    refine lv_aload_n hx₀ hb dX12_goes_24 rfl (lv_at hl 1 rfl) ?_
    refine lv_iconst (v := 1) hx₀ hb dX12_goes_25 (by decide +kernel) ?_
    obtain ⟨hPc, hDc, hFc, hC⟩ := k_cw (wc := [(kX12 hm vFo vSi vIt vMo la vBy vTy mi vMi pn vPs gn vGs fn vFt le vTo kn fe en ca an co vPr vSt vFn sn vSg vAl dr), (kAI vGs cI 16 qGs), (kAI vPr cI 2 (ga_64 0)), (kAI vSt cI 2 (ga_77 0)), (kAI vFn cI 2 (ga_77 1))]) hP hD hS hA [2, 3, 4, 5, 6] (by decide +kernel) rfl
    refine va_callv (va_runV (As := [.int 1]) (rest := []) ⟨hx₀, hb, hml, hown, hts⟩ (g_tires1 l dC dI cI cJ cQ H.size hm vFo vSi vIt vMo la vBy vTy mi vMi pn vPs gn vGs fn vFt le vTo kn fe en ca an co vPr vSt vFn sn vSg vAl dr qGs (ga_64 0) (ga_77 0) (ga_77 1) (c_74)) (cwV 1 hts (kGV wd_557 wd_554 wd_555 wd_556 wd_5) rfl rfl rfl (by decide +kernel) ⟨Nat.le_of_ble_eq_true rfl, Nat.le_of_ble_eq_true rfl⟩) (k_preV11 (q0 := 0) hK hPc hDc hN rfl) rfl rfl hl.1 rfl (lv_room (Nat.le_of_ble_eq_true rfl)) dX12_goes_26 ⟨by decide +kernel, by decide +kernel⟩) hS (fun q _ h => hFc q h) hFc (fun u₀ t₀ H1 locs ht hvm hw hB hz1 hk1 hS => ?_)
    obtain ⟨g_86, ga_87, gl_88, gb_89, gp_90⟩ := u₀
    obtain ⟨hP1, hK1, hD1⟩ := hB
    rw [ht] at hP1
    have hJ := k_jn (wr := [(kAI vMi cI 24 qMi), (kAI vPs cI 32 qPs)]) (wt := [(kAI vMi cI 24 qMi), (kAI vPs cI 32 qPs), (kX12 hm vFo vSi vIt vMo la vBy vTy mi vMi pn vPs gn vGs fn vFt le vTo kn fe en ca an co vPr vSt vFn sn vSg vAl dr), (kAI vGs cI 16 qGs), (kAI vPr cI 2 (ga_64 0)), (kAI vSt cI 2 (ga_87 0)), (kAI vFn cI 2 (ga_87 1))]) hP hD hC [0, 1] rfl (by decide +kernel) (by decide +kernel) hk1 hFc hP1 hD1 rfl
    clear hP hD hPc hDc hFc hC hP1 hD1 hK1 hz1 hk1 hvm ht
    obtain ⟨hP, hD⟩ := hJ
    generalize H1 = H at hP hS ⊢
    try dsimp only at hw
    obtain ⟨c_91, c_92, c_93, c_94⟩ := hw
    refine lv_aload_n hx₀ hb dX12_goes_29 rfl (lv_at hl 1 rfl) ?_
    refine va_get (D := (dC, dI)) (ci := 11) (v := .ref vPs) (C := RX12) (T := TX12) (N := 30) hx₀ hb hts inlX12 hown hK hP 2 rfl rfl 10 (by decide) (hts (.fieldLink RX12 31 "BittenStickModel" "passenger" "[I") wd_122) (fun _ h9 => h9) rfl dX12_goes_30 ?_
    refine lv_iconst (v := 4) hx₀ hb dX12_goes_33 (by decide +kernel) ?_
    refine lv_iload_n hx₀ hb dX12_goes_34 rfl (lv_at hl 2 rfl) ?_
    refine lv_imul hx₀ hb dX12_goes_35 ?_
    refine lv_iconst (v := 3) hx₀ hb dX12_goes_36 (by decide +kernel) ?_
    refine lv_iadd hx₀ hb dX12_goes_37 ?_
    refine va_iald hx₀ hb hK hP 1 0 rfl rfl (vp_in_iff.mpr (lf_g_goes_2 p1 hh1)) dX12_goes_38 ?_
    refine k_topi (v := kP3 qPs p1) rfl ?_
    refine lv_istore (lv' := [(5, .int (kP3 qPs p1)), (4, .int y_1), (0, .ref hm), (1, .int p1), (2, .int m1), (3, .int h1)]) hx₀ hb dX12_goes_39 hl (by decide) rfl (fun ls hl => ?_)
    refine lv_aload_n hx₀ hb dX12_goes_41 rfl (lv_at hl 2 rfl) ?_
    refine va_get (D := (dC, dI)) (ci := 11) (v := .ref vSt) (C := RX12) (T := TX12) (N := 30) hx₀ hb hts inlX12 hown hK hP 2 rfl rfl 24 (by decide) (hts (.fieldLink RX12 46 "BittenStickModel" "strong" "[I") wd_127) (fun _ h9 => h9) rfl dX12_goes_42 ?_
    refine lv_iconst (v := 0) hx₀ hb dX12_goes_45 (by decide +kernel) ?_
    refine va_iald hx₀ hb hK hP 5 0 rfl rfl (by unfold vp_in; decide +kernel) dX12_goes_46 ?_
    refine k_topi (v := (ga_87 0) 0) rfl ?_
    refine lv_iload hx₀ hb dX12_goes_47 (lv_at hl 0 rfl) ?_
    refine lv_iconst (v := 1) hx₀ hb dX12_goes_49 (by decide +kernel) ?_
    refine lv_iadd hx₀ hb dX12_goes_50 ?_
    refine lv_iconst (v := 2) hx₀ hb dX12_goes_51 (by decide +kernel) ?_
    refine lv_idiv hx₀ hb dX12_goes_52 (by decide +kernel) ?_
    refine lv_icmp_lt (tgt := 69) hx₀ hb dX12_goes_53 (by decide) (fun c_95 => ?_) (fun c_95 => ?_)
    · refine lv_iconst (v := 1) hx₀ hb dX12_goes_69 (by decide +kernel) ?_
      obtain ⟨hP9, hD9⟩ := k_c2 (wc := [(kX12 hm vFo vSi vIt vMo la vBy vTy mi vMi pn vPs gn vGs fn vFt le vTo kn fe en ca an co vPr vSt vFn sn vSg vAl dr), (kAI vMi cI 24 qMi), (kAI vPs cI 32 qPs), (kAI vGs cI 16 qGs), (kAI vPr cI 2 (ga_64 0)), (kAI vSt cI 2 (ga_87 0)), (kAI vFn cI 2 (ga_87 1))]) hP hD [2, 0, 1, 3, 4, 5, 6] (by decide +kernel) rfl
      exact W.iret (v := 1) hx₀ hb hr (fun t₀ ht hW => ⟨⟨1, (k_fn [an, co], k_fa [(ga_64 0), ga_87 0, ga_87 1], k_fl [], k_fL [], k_fp []), rfl, ⟨c_74, (by rw [show kM qMi m1 = y_1 from ey_1.symm]; exact kRs_1 ((kW_w c_2 c_68 c_69 c_70 c_71 c_72 c_73).trans (kT2 (c_93.trans c_81) (c_94.trans c_82) (c_91.trans (by rw [c_83, c_84])) (c_92.trans (by rw [c_84])))) (Or.inl c_95))⟩, by rw [ht]; exact hP9, va_K.moved hW.alike hK, hD9⟩, hS.F ht⟩) hS.2.2 dX12_goes_70
    · refine lv_aload_n hx₀ hb dX12_goes_56 rfl (lv_at hl 2 rfl) ?_
      refine va_get (D := (dC, dI)) (ci := 11) (v := .ref vSt) (C := RX12) (T := TX12) (N := 30) hx₀ hb hts inlX12 hown hK hP 2 rfl rfl 24 (by decide) (hts (.fieldLink RX12 46 "BittenStickModel" "strong" "[I") wd_127) (fun _ h9 => h9) rfl dX12_goes_57 ?_
      refine lv_iconst (v := 1) hx₀ hb dX12_goes_60 (by decide +kernel) ?_
      refine va_iald hx₀ hb hK hP 5 0 rfl rfl (by unfold vp_in; decide +kernel) dX12_goes_61 ?_
      refine k_topi (v := (ga_87 0) 1) rfl ?_
      refine lv_iload hx₀ hb dX12_goes_62 (lv_at hl 0 rfl) ?_
      refine lv_iconst (v := 2) hx₀ hb dX12_goes_64 (by decide +kernel) ?_
      refine lv_idiv hx₀ hb dX12_goes_65 (by decide +kernel) ?_
      refine lv_icmp_ge (tgt := 71) hx₀ hb dX12_goes_66 (by decide) (fun c_96 => ?_) (fun c_96 => ?_)
      · refine lv_aload_n hx₀ hb dX12_goes_71 rfl (lv_at hl 2 rfl) ?_
        refine lv_dup hx₀ hb dX12_goes_72 rfl ?_
        refine va_get (D := (dC, dI)) (ci := 11) (v := .int co) (C := RX12) (T := TX12) (N := 30) hx₀ hb hts inlX12 hown hK hP 2 rfl rfl 22 (by decide) (hts (.fieldLink RX12 177 "BittenStickModel" "cold" "I") wd_545) (fun _ h9 => h9) rfl dX12_goes_73 ?_
        refine lv_iload_n hx₀ hb dX12_goes_76 rfl (lv_at hl 5 rfl) ?_
        refine lv_iconst (v := 5) hx₀ hb dX12_goes_77 (by decide +kernel) ?_
        refine lv_icmp_le (tgt := 87) hx₀ hb dX12_goes_78 (by decide) (fun c_97 => ?_) (fun c_97 => ?_)
        · refine lv_iconst (v := 0) hx₀ hb dX12_goes_87 (by decide +kernel) ?_
          refine lv_iadd hx₀ hb dX12_goes_88 ?_
          refine va_put (D := (dC, dI)) (ci := 11) (v := .int (co + 0)) (ty := .int) (C := RX12) (T := TX12) (N := 30) hx₀ hb hts inlX12 tyX12 tyX12_ok nmX12 hown hK hP hD hS 2 rfl rfl 22 (by decide) (hts (.fieldLink RX12 177 "BittenStickModel" "cold" "I") wd_545) (fun _ h9 => h9) rfl (by decide +kernel) rfl rfl (Nat.le_of_ble_eq_true rfl) dX12_goes_89 ?_
          clear hP hD hS
          intro H locs hP hD hS
          replace hP := k_w2 (wt := [(kAI vMi cI 24 qMi), (kAI vPs cI 32 qPs), (kX12 hm vFo vSi vIt vMo la vBy vTy mi vMi pn vPs gn vGs fn vFt le vTo kn fe en ca an (co + 0) vPr vSt vFn sn vSg vAl dr), (kAI vGs cI 16 qGs), (kAI vPr cI 2 (ga_64 0)), (kAI vSt cI 2 (ga_87 0)), (kAI vFn cI 2 (ga_87 1))]) hP hD rfl
          replace hD := hP.2
          replace hP := hP.1
          refine lv_aload_n hx₀ hb dX12_goes_92 rfl (lv_at hl 2 rfl) ?_
          refine va_get (D := (dC, dI)) (ci := 11) (v := .int (co + 0)) (C := RX12) (T := TX12) (N := 30) hx₀ hb hts inlX12 hown hK hP 2 rfl rfl 22 (by decide) (hts (.fieldLink RX12 177 "BittenStickModel" "cold" "I") wd_545) (fun _ h9 => h9) rfl dX12_goes_93 ?_
          refine lv_bipush (v := 20) hx₀ hb dX12_goes_96 (by decide +kernel) ?_
          refine lv_icmp_le (tgt := 103) hx₀ hb dX12_goes_98 (by decide) (fun c_98 => ?_) (fun c_98 => ?_)
          · refine lv_iload hx₀ hb dX12_goes_103 (lv_at hl 1 rfl) ?_
            refine lv_bipush (v := 6) hx₀ hb dX12_goes_105 (by decide +kernel) ?_
            refine lv_icmp_ge (tgt := 150) hx₀ hb dX12_goes_107 (by decide) (fun c_99 => ?_) (fun c9 => ((show ¬ (¬ 6 ≤ y_1) from (fun z => z (by rw [show y_1 = 8 from c_2]; decide))) c9).elim)
            refine lv_aload_n hx₀ hb dX12_goes_150 rfl (lv_at hl 2 rfl) ?_
            refine va_get (D := (dC, dI)) (ci := 11) (v := .int an) (C := RX12) (T := TX12) (N := 30) hx₀ hb hts inlX12 hown hK hP 2 rfl rfl 21 (by decide) (hts (.fieldLink RX12 184 "BittenStickModel" "anger" "I") wd_544) (fun _ h9 => h9) rfl dX12_goes_151 ?_
            refine lv_iconst (v := 5) hx₀ hb dX12_goes_154 (by decide +kernel) ?_
            refine lv_aload_n hx₀ hb dX12_goes_155 rfl (lv_at hl 2 rfl) ?_
            refine va_get (D := (dC, dI)) (ci := 11) (v := .ref vPs) (C := RX12) (T := TX12) (N := 30) hx₀ hb hts inlX12 hown hK hP 2 rfl rfl 10 (by decide) (hts (.fieldLink RX12 31 "BittenStickModel" "passenger" "[I") wd_122) (fun _ h9 => h9) rfl dX12_goes_156 ?_
            refine lv_iconst (v := 4) hx₀ hb dX12_goes_159 (by decide +kernel) ?_
            refine lv_iload_n hx₀ hb dX12_goes_160 rfl (lv_at hl 3 rfl) ?_
            refine lv_imul hx₀ hb dX12_goes_161 ?_
            refine lv_iconst (v := 2) hx₀ hb dX12_goes_162 (by decide +kernel) ?_
            refine lv_iadd hx₀ hb dX12_goes_163 ?_
            refine va_iald hx₀ hb hK hP 1 0 rfl rfl (vp_in_iff.mpr (lf_g_goes_3 p1 hh1)) dX12_goes_164 ?_
            refine k_topi (v := kP2 qPs p1) rfl ?_
            refine lv_imul hx₀ hb dX12_goes_165 ?_
            refine lv_icmp_le (tgt := 171) hx₀ hb dX12_goes_166 (by decide) (fun c_100 => ?_) (fun c_100 => ?_)
            · refine lv_iload hx₀ hb dX12_goes_171 (lv_at hl 1 rfl) ?_
              refine lv_bipush (v := 7) hx₀ hb dX12_goes_173 (by decide +kernel) ?_
              refine lv_icmp_ne (tgt := 242) hx₀ hb dX12_goes_175 (by decide) (fun c_101 => ?_) (fun c9 => ((show ¬ (y_1 = 7) from (fun z => absurd (c_2.symm.trans z) (by decide))) c9).elim)
              refine lv_iconst (v := 0) hx₀ hb dX12_goes_242 (by decide +kernel) ?_
              obtain ⟨hP9, hD9⟩ := k_c2 (wc := [(kX12 hm vFo vSi vIt vMo la vBy vTy mi vMi pn vPs gn vGs fn vFt le vTo kn fe en ca an (co + 0) vPr vSt vFn sn vSg vAl dr), (kAI vMi cI 24 qMi), (kAI vPs cI 32 qPs), (kAI vGs cI 16 qGs), (kAI vPr cI 2 (ga_64 0)), (kAI vSt cI 2 (ga_87 0)), (kAI vFn cI 2 (ga_87 1))]) hP hD [2, 0, 1, 3, 4, 5, 6] (by decide +kernel) rfl
              exact W.iret (v := 0) hx₀ hb hr (fun t₀ ht hW => ⟨⟨0, (k_fn [an, (co + 0)], k_fa [(ga_64 0), ga_87 0, ga_87 1], k_fl [], k_fL [], k_fp []), rfl, ⟨c_74, (by rw [show kM qMi m1 = y_1 from ey_1.symm]; exact kRs_0 ((kW_w c_2 c_68 c_69 c_70 c_71 c_72 c_73).trans (kT2 (c_93.trans c_81) (c_94.trans c_82) (c_91.trans (by rw [c_83, c_84])) (c_92.trans (by rw [c_84])))) (fun z => z.elim c_95 (Int32.not_lt.mpr c_96)) (kCh_5n hh3 c_97) (Int32.not_lt.mpr c_98) (kAd_n (fun z => (Int32.not_lt.mpr c_99) z.1)) (Int32.not_lt.mpr c_100) c_101)⟩, by rw [ht]; exact hP9, va_K.moved hW.alike hK, hD9⟩, hS.F ht⟩) hS.2.2 dX12_goes_243
            · refine lv_iconst (v := 3) hx₀ hb dX12_goes_169 (by decide +kernel) ?_
              obtain ⟨hP9, hD9⟩ := k_c2 (wc := [(kX12 hm vFo vSi vIt vMo la vBy vTy mi vMi pn vPs gn vGs fn vFt le vTo kn fe en ca an (co + 0) vPr vSt vFn sn vSg vAl dr), (kAI vMi cI 24 qMi), (kAI vPs cI 32 qPs), (kAI vGs cI 16 qGs), (kAI vPr cI 2 (ga_64 0)), (kAI vSt cI 2 (ga_87 0)), (kAI vFn cI 2 (ga_87 1))]) hP hD [2, 0, 1, 3, 4, 5, 6] (by decide +kernel) rfl
              exact W.iret (v := 3) hx₀ hb hr (fun t₀ ht hW => ⟨⟨3, (k_fn [an, (co + 0)], k_fa [(ga_64 0), ga_87 0, ga_87 1], k_fl [], k_fL [], k_fp []), rfl, ⟨c_74, (by rw [show kM qMi m1 = y_1 from ey_1.symm]; exact kRs_3 ((kW_w c_2 c_68 c_69 c_70 c_71 c_72 c_73).trans (kT2 (c_93.trans c_81) (c_94.trans c_82) (c_91.trans (by rw [c_83, c_84])) (c_92.trans (by rw [c_84])))) (fun z => z.elim c_95 (Int32.not_lt.mpr c_96)) (kCh_5n hh3 c_97) (Int32.not_lt.mpr c_98) (kAd_n (fun z => (Int32.not_lt.mpr c_99) z.1)) (Int32.not_le.mp c_100))⟩, by rw [ht]; exact hP9, va_K.moved hW.alike hK, hD9⟩, hS.F ht⟩) hS.2.2 dX12_goes_170
          · refine lv_iconst (v := 2) hx₀ hb dX12_goes_101 (by decide +kernel) ?_
            obtain ⟨hP9, hD9⟩ := k_c2 (wc := [(kX12 hm vFo vSi vIt vMo la vBy vTy mi vMi pn vPs gn vGs fn vFt le vTo kn fe en ca an (co + 0) vPr vSt vFn sn vSg vAl dr), (kAI vMi cI 24 qMi), (kAI vPs cI 32 qPs), (kAI vGs cI 16 qGs), (kAI vPr cI 2 (ga_64 0)), (kAI vSt cI 2 (ga_87 0)), (kAI vFn cI 2 (ga_87 1))]) hP hD [2, 0, 1, 3, 4, 5, 6] (by decide +kernel) rfl
            exact W.iret (v := 2) hx₀ hb hr (fun t₀ ht hW => ⟨⟨2, (k_fn [an, (co + 0)], k_fa [(ga_64 0), ga_87 0, ga_87 1], k_fl [], k_fL [], k_fp []), rfl, ⟨c_74, (by rw [show kM qMi m1 = y_1 from ey_1.symm]; exact kRs_2 ((kW_w c_2 c_68 c_69 c_70 c_71 c_72 c_73).trans (kT2 (c_93.trans c_81) (c_94.trans c_82) (c_91.trans (by rw [c_83, c_84])) (c_92.trans (by rw [c_84])))) (fun z => z.elim c_95 (Int32.not_lt.mpr c_96)) (kCh_5n hh3 c_97) (Int32.not_le.mp c_98))⟩, by rw [ht]; exact hP9, va_K.moved hW.alike hK, hD9⟩, hS.F ht⟩) hS.2.2 dX12_goes_102
        · refine lv_iload_n hx₀ hb dX12_goes_81 rfl (lv_at hl 5 rfl) ?_
          refine lv_iconst (v := 5) hx₀ hb dX12_goes_82 (by decide +kernel) ?_
          refine lv_isub hx₀ hb dX12_goes_83 ?_
          refine lv_goto (tgt := 88) hx₀ hb dX12_goes_84 (by decide) ?_
          refine lv_iadd hx₀ hb dX12_goes_88 ?_
          refine va_put (D := (dC, dI)) (ci := 11) (v := .int (co + (h1 - 5))) (ty := .int) (C := RX12) (T := TX12) (N := 30) hx₀ hb hts inlX12 tyX12 tyX12_ok nmX12 hown hK hP hD hS 2 rfl rfl 22 (by decide) (hts (.fieldLink RX12 177 "BittenStickModel" "cold" "I") wd_545) (fun _ h9 => h9) rfl (by decide +kernel) rfl rfl (Nat.le_of_ble_eq_true rfl) dX12_goes_89 ?_
          clear hP hD hS
          intro H locs hP hD hS
          replace hP := k_w2 (wt := [(kAI vMi cI 24 qMi), (kAI vPs cI 32 qPs), (kX12 hm vFo vSi vIt vMo la vBy vTy mi vMi pn vPs gn vGs fn vFt le vTo kn fe en ca an (co + (h1 - 5)) vPr vSt vFn sn vSg vAl dr), (kAI vGs cI 16 qGs), (kAI vPr cI 2 (ga_64 0)), (kAI vSt cI 2 (ga_87 0)), (kAI vFn cI 2 (ga_87 1))]) hP hD rfl
          replace hD := hP.2
          replace hP := hP.1
          refine lv_aload_n hx₀ hb dX12_goes_92 rfl (lv_at hl 2 rfl) ?_
          refine va_get (D := (dC, dI)) (ci := 11) (v := .int (co + (h1 - 5))) (C := RX12) (T := TX12) (N := 30) hx₀ hb hts inlX12 hown hK hP 2 rfl rfl 22 (by decide) (hts (.fieldLink RX12 177 "BittenStickModel" "cold" "I") wd_545) (fun _ h9 => h9) rfl dX12_goes_93 ?_
          refine lv_bipush (v := 20) hx₀ hb dX12_goes_96 (by decide +kernel) ?_
          refine lv_icmp_le (tgt := 103) hx₀ hb dX12_goes_98 (by decide) (fun c_102 => ?_) (fun c_102 => ?_)
          · refine lv_iload hx₀ hb dX12_goes_103 (lv_at hl 1 rfl) ?_
            refine lv_bipush (v := 6) hx₀ hb dX12_goes_105 (by decide +kernel) ?_
            refine lv_icmp_ge (tgt := 150) hx₀ hb dX12_goes_107 (by decide) (fun c_103 => ?_) (fun c9 => ((show ¬ (¬ 6 ≤ y_1) from (fun z => z (by rw [show y_1 = 8 from c_2]; decide))) c9).elim)
            refine lv_aload_n hx₀ hb dX12_goes_150 rfl (lv_at hl 2 rfl) ?_
            refine va_get (D := (dC, dI)) (ci := 11) (v := .int an) (C := RX12) (T := TX12) (N := 30) hx₀ hb hts inlX12 hown hK hP 2 rfl rfl 21 (by decide) (hts (.fieldLink RX12 184 "BittenStickModel" "anger" "I") wd_544) (fun _ h9 => h9) rfl dX12_goes_151 ?_
            refine lv_iconst (v := 5) hx₀ hb dX12_goes_154 (by decide +kernel) ?_
            refine lv_aload_n hx₀ hb dX12_goes_155 rfl (lv_at hl 2 rfl) ?_
            refine va_get (D := (dC, dI)) (ci := 11) (v := .ref vPs) (C := RX12) (T := TX12) (N := 30) hx₀ hb hts inlX12 hown hK hP 2 rfl rfl 10 (by decide) (hts (.fieldLink RX12 31 "BittenStickModel" "passenger" "[I") wd_122) (fun _ h9 => h9) rfl dX12_goes_156 ?_
            refine lv_iconst (v := 4) hx₀ hb dX12_goes_159 (by decide +kernel) ?_
            refine lv_iload_n hx₀ hb dX12_goes_160 rfl (lv_at hl 3 rfl) ?_
            refine lv_imul hx₀ hb dX12_goes_161 ?_
            refine lv_iconst (v := 2) hx₀ hb dX12_goes_162 (by decide +kernel) ?_
            refine lv_iadd hx₀ hb dX12_goes_163 ?_
            refine va_iald hx₀ hb hK hP 1 0 rfl rfl (vp_in_iff.mpr (lf_g_goes_3 p1 hh1)) dX12_goes_164 ?_
            refine k_topi (v := kP2 qPs p1) rfl ?_
            refine lv_imul hx₀ hb dX12_goes_165 ?_
            refine lv_icmp_le (tgt := 171) hx₀ hb dX12_goes_166 (by decide) (fun c_104 => ?_) (fun c_104 => ?_)
            · refine lv_iload hx₀ hb dX12_goes_171 (lv_at hl 1 rfl) ?_
              refine lv_bipush (v := 7) hx₀ hb dX12_goes_173 (by decide +kernel) ?_
              refine lv_icmp_ne (tgt := 242) hx₀ hb dX12_goes_175 (by decide) (fun c_105 => ?_) (fun c9 => ((show ¬ (y_1 = 7) from (fun z => absurd (c_2.symm.trans z) (by decide))) c9).elim)
              refine lv_iconst (v := 0) hx₀ hb dX12_goes_242 (by decide +kernel) ?_
              obtain ⟨hP9, hD9⟩ := k_c2 (wc := [(kX12 hm vFo vSi vIt vMo la vBy vTy mi vMi pn vPs gn vGs fn vFt le vTo kn fe en ca an (co + (h1 - 5)) vPr vSt vFn sn vSg vAl dr), (kAI vMi cI 24 qMi), (kAI vPs cI 32 qPs), (kAI vGs cI 16 qGs), (kAI vPr cI 2 (ga_64 0)), (kAI vSt cI 2 (ga_87 0)), (kAI vFn cI 2 (ga_87 1))]) hP hD [2, 0, 1, 3, 4, 5, 6] (by decide +kernel) rfl
              exact W.iret (v := 0) hx₀ hb hr (fun t₀ ht hW => ⟨⟨0, (k_fn [an, (co + (h1 - 5))], k_fa [(ga_64 0), ga_87 0, ga_87 1], k_fl [], k_fL [], k_fp []), rfl, ⟨c_74, (by rw [show kM qMi m1 = y_1 from ey_1.symm]; exact kRs_0 ((kW_w c_2 c_68 c_69 c_70 c_71 c_72 c_73).trans (kT2 (c_93.trans c_81) (c_94.trans c_82) (c_91.trans (by rw [c_83, c_84])) (c_92.trans (by rw [c_84])))) (fun z => z.elim c_95 (Int32.not_lt.mpr c_96)) (kCh_5p hh3 c_97) (Int32.not_lt.mpr c_102) (kAd_n (fun z => (Int32.not_lt.mpr c_103) z.1)) (Int32.not_lt.mpr c_104) c_105)⟩, by rw [ht]; exact hP9, va_K.moved hW.alike hK, hD9⟩, hS.F ht⟩) hS.2.2 dX12_goes_243
            · refine lv_iconst (v := 3) hx₀ hb dX12_goes_169 (by decide +kernel) ?_
              obtain ⟨hP9, hD9⟩ := k_c2 (wc := [(kX12 hm vFo vSi vIt vMo la vBy vTy mi vMi pn vPs gn vGs fn vFt le vTo kn fe en ca an (co + (h1 - 5)) vPr vSt vFn sn vSg vAl dr), (kAI vMi cI 24 qMi), (kAI vPs cI 32 qPs), (kAI vGs cI 16 qGs), (kAI vPr cI 2 (ga_64 0)), (kAI vSt cI 2 (ga_87 0)), (kAI vFn cI 2 (ga_87 1))]) hP hD [2, 0, 1, 3, 4, 5, 6] (by decide +kernel) rfl
              exact W.iret (v := 3) hx₀ hb hr (fun t₀ ht hW => ⟨⟨3, (k_fn [an, (co + (h1 - 5))], k_fa [(ga_64 0), ga_87 0, ga_87 1], k_fl [], k_fL [], k_fp []), rfl, ⟨c_74, (by rw [show kM qMi m1 = y_1 from ey_1.symm]; exact kRs_3 ((kW_w c_2 c_68 c_69 c_70 c_71 c_72 c_73).trans (kT2 (c_93.trans c_81) (c_94.trans c_82) (c_91.trans (by rw [c_83, c_84])) (c_92.trans (by rw [c_84])))) (fun z => z.elim c_95 (Int32.not_lt.mpr c_96)) (kCh_5p hh3 c_97) (Int32.not_lt.mpr c_102) (kAd_n (fun z => (Int32.not_lt.mpr c_103) z.1)) (Int32.not_le.mp c_104))⟩, by rw [ht]; exact hP9, va_K.moved hW.alike hK, hD9⟩, hS.F ht⟩) hS.2.2 dX12_goes_170
          · refine lv_iconst (v := 2) hx₀ hb dX12_goes_101 (by decide +kernel) ?_
            obtain ⟨hP9, hD9⟩ := k_c2 (wc := [(kX12 hm vFo vSi vIt vMo la vBy vTy mi vMi pn vPs gn vGs fn vFt le vTo kn fe en ca an (co + (h1 - 5)) vPr vSt vFn sn vSg vAl dr), (kAI vMi cI 24 qMi), (kAI vPs cI 32 qPs), (kAI vGs cI 16 qGs), (kAI vPr cI 2 (ga_64 0)), (kAI vSt cI 2 (ga_87 0)), (kAI vFn cI 2 (ga_87 1))]) hP hD [2, 0, 1, 3, 4, 5, 6] (by decide +kernel) rfl
            exact W.iret (v := 2) hx₀ hb hr (fun t₀ ht hW => ⟨⟨2, (k_fn [an, (co + (h1 - 5))], k_fa [(ga_64 0), ga_87 0, ga_87 1], k_fl [], k_fL [], k_fp []), rfl, ⟨c_74, (by rw [show kM qMi m1 = y_1 from ey_1.symm]; exact kRs_2 ((kW_w c_2 c_68 c_69 c_70 c_71 c_72 c_73).trans (kT2 (c_93.trans c_81) (c_94.trans c_82) (c_91.trans (by rw [c_83, c_84])) (c_92.trans (by rw [c_84])))) (fun z => z.elim c_95 (Int32.not_lt.mpr c_96)) (kCh_5p hh3 c_97) (Int32.not_le.mp c_102))⟩, by rw [ht]; exact hP9, va_K.moved hW.alike hK, hD9⟩, hS.F ht⟩) hS.2.2 dX12_goes_102
      · refine lv_iconst (v := 1) hx₀ hb dX12_goes_69 (by decide +kernel) ?_
        obtain ⟨hP9, hD9⟩ := k_c2 (wc := [(kX12 hm vFo vSi vIt vMo la vBy vTy mi vMi pn vPs gn vGs fn vFt le vTo kn fe en ca an co vPr vSt vFn sn vSg vAl dr), (kAI vMi cI 24 qMi), (kAI vPs cI 32 qPs), (kAI vGs cI 16 qGs), (kAI vPr cI 2 (ga_64 0)), (kAI vSt cI 2 (ga_87 0)), (kAI vFn cI 2 (ga_87 1))]) hP hD [2, 0, 1, 3, 4, 5, 6] (by decide +kernel) rfl
        exact W.iret (v := 1) hx₀ hb hr (fun t₀ ht hW => ⟨⟨1, (k_fn [an, co], k_fa [(ga_64 0), ga_87 0, ga_87 1], k_fl [], k_fL [], k_fp []), rfl, ⟨c_74, (by rw [show kM qMi m1 = y_1 from ey_1.symm]; exact kRs_1 ((kW_w c_2 c_68 c_69 c_70 c_71 c_72 c_73).trans (kT2 (c_93.trans c_81) (c_94.trans c_82) (c_91.trans (by rw [c_83, c_84])) (c_92.trans (by rw [c_84])))) (Or.inr (Int32.not_le.mp c_96)))⟩, by rw [ht]; exact hP9, va_K.moved hW.alike hK, hD9⟩, hS.F ht⟩) hS.2.2 dX12_goes_70
theorem lf_g_flies_1 (a0 : Int32) (a1 : Int32) (a2 : Int32) (h0 : 0 ≤ a0 ∧ a0 ≤ 8) (h1 : 0 ≤ a1 ∧ a1 < a0) (h2 : 0 ≤ a2 ∧ a2 < a0) : 0 ≤ a1.toInt ∧ a1.toInt ≤ 7 := by
  first | rfl | assumption | decide | exact Or.inl rfl | (first | omega | (have hr0 := Int32.toInt_lt a0; have hs0 := Int32.le_toInt a0; have hr1 := Int32.toInt_lt a1; have hs1 := Int32.le_toInt a1; have hr2 := Int32.toInt_lt a2; have hs2 := Int32.le_toInt a2; simp only [Int64.toInt_add, Int64.toInt_sub, Int32.toInt_add, Int32.toInt_sub, Int32.toInt_mul, Int64.le_iff_toInt_le, Int64.lt_iff_toInt_lt, Int32.le_iff_toInt_le, Int32.lt_iff_toInt_lt, ← Int32.toInt_inj, ← Int64.toInt_inj, Int32.toInt_toInt64, kc_0, kc_7, kc_8] at *; (first | omega | ((try simp (disch := omega) only [k_bm64] at *); (try simp (disch := omega) only [k_bm] at *); (try simp (disch := omega) only [k_bm] at *); omega) | (simp only [Int.bmod] at *; omega))))
theorem lf_g_flies_2 (a0 : Int32) (a1 : Int32) (a2 : Int32) (h0 : 0 ≤ a0 ∧ a0 ≤ 8) (h1 : 0 ≤ a1 ∧ a1 < a0) (h2 : 0 ≤ a2 ∧ a2 < a0) : 0 ≤ a2.toInt ∧ a2.toInt ≤ 7 := by
  first | rfl | assumption | decide | exact Or.inl rfl | (first | omega | (have hr0 := Int32.toInt_lt a0; have hs0 := Int32.le_toInt a0; have hr1 := Int32.toInt_lt a1; have hs1 := Int32.le_toInt a1; have hr2 := Int32.toInt_lt a2; have hs2 := Int32.le_toInt a2; simp only [Int64.toInt_add, Int64.toInt_sub, Int32.toInt_add, Int32.toInt_sub, Int32.toInt_mul, Int64.le_iff_toInt_le, Int64.lt_iff_toInt_lt, Int32.le_iff_toInt_le, Int32.lt_iff_toInt_lt, ← Int32.toInt_inj, ← Int64.toInt_inj, Int32.toInt_toInt64, kc_0, kc_7, kc_8] at *; (first | omega | ((try simp (disch := omega) only [k_bm64] at *); (try simp (disch := omega) only [k_bm] at *); (try simp (disch := omega) only [k_bm] at *); omega) | (simp only [Int.bmod] at *; omega))))
theorem lf_g_flies_3 (a0 : Int32) (a1 : Int32) (h0 : 0 ≤ a0 ∧ a0 ≤ 8) (h1 : 0 ≤ a1 ∧ a1 < a0) : 0 ≤ a1 ∧ a1 ≤ 7 := by
  first | rfl | assumption | decide | exact Or.inl rfl | (first | omega | (have hr0 := Int32.toInt_lt a0; have hs0 := Int32.le_toInt a0; have hr1 := Int32.toInt_lt a1; have hs1 := Int32.le_toInt a1; simp only [Int64.toInt_add, Int64.toInt_sub, Int32.toInt_add, Int32.toInt_sub, Int32.toInt_mul, Int64.le_iff_toInt_le, Int64.lt_iff_toInt_lt, Int32.le_iff_toInt_le, Int32.lt_iff_toInt_lt, ← Int32.toInt_inj, ← Int64.toInt_inj, Int32.toInt_toInt64, kc_0, kc_7, kc_8] at *; (first | omega | ((try simp (disch := omega) only [k_bm64] at *); (try simp (disch := omega) only [k_bm] at *); (try simp (disch := omega) only [k_bm] at *); omega) | (simp only [Int.bmod] at *; omega))))
theorem lf_g_flies_4 (a0 : Int32) (a1 : Int32) (a2 : Int32) (a3 : Int32) (a4 : Int32) (a5 : Nat) (a6 : Int32) (h0 : 0 ≤ a0 ∧ a0 ≤ 24) (h1 : 0 ≤ a1 ∧ a1 ≤ a0) (h2 : 0 ≤ a2 ∧ a2 ≤ a1) (h3 : 0 ≤ a3 ∧ a3 ≤ a1) (h4 : 0 ≤ a3 ∧ a3 ≤ 24) (h5 : a4 = 0 ∨ a2 = 0 ∨ a3 ≤ 23) (h6 : 0 ≤ a2 ∧ a2 ≤ 24) (h7 : (a0.toInt - a1.toInt).toNat = a5) (h8 : ¬ a0 ≤ a1) (h9 : a4 = 0) (h10 : a6 ≤ a1) : 0 ≤ a1 ∧ a1 ≤ 23 := by
  first | rfl | assumption | decide | exact Or.inl rfl | (first | omega | (have hr0 := Int32.toInt_lt a0; have hs0 := Int32.le_toInt a0; have hr1 := Int32.toInt_lt a1; have hs1 := Int32.le_toInt a1; have hr2 := Int32.toInt_lt a2; have hs2 := Int32.le_toInt a2; have hr3 := Int32.toInt_lt a3; have hs3 := Int32.le_toInt a3; have hr4 := Int32.toInt_lt a4; have hs4 := Int32.le_toInt a4; have hr5 := Int32.toInt_lt a6; have hs5 := Int32.le_toInt a6; simp only [Int64.toInt_add, Int64.toInt_sub, Int32.toInt_add, Int32.toInt_sub, Int32.toInt_mul, Int64.le_iff_toInt_le, Int64.lt_iff_toInt_lt, Int32.le_iff_toInt_le, Int32.lt_iff_toInt_lt, ← Int32.toInt_inj, ← Int64.toInt_inj, Int32.toInt_toInt64, kc_0, kc_23, kc_24] at *; (first | omega | ((try simp (disch := omega) only [k_bm64] at *); (try simp (disch := omega) only [k_bm] at *); (try simp (disch := omega) only [k_bm] at *); omega) | (simp only [Int.bmod] at *; omega))))
theorem lf_g_flies_5 (a0 : Int32) (a1 : Int32) (a2 : Int32) (a3 : Int32) (a4 : Int32) (a5 : Nat) (a6 : Int32) (h0 : 0 ≤ a0 ∧ a0 ≤ 24) (h1 : 0 ≤ a1 ∧ a1 ≤ a0) (h2 : 0 ≤ a2 ∧ a2 ≤ a1) (h3 : 0 ≤ a3 ∧ a3 ≤ a1) (h4 : 0 ≤ a3 ∧ a3 ≤ 24) (h5 : a4 = 0 ∨ a2 = 0 ∨ a3 ≤ 23) (h6 : 0 ≤ a2 ∧ a2 ≤ 24) (h7 : (a0.toInt - a1.toInt).toNat = a5) (h8 : ¬ a0 ≤ a1) (h9 : a4 = 0) (h10 : a6 ≤ a1) : 0 ≤ (4 * a1).toInt ∧ (4 * a1).toInt < 96 := by
  first | rfl | assumption | decide | exact Or.inl rfl | (first | omega | (have hr0 := Int32.toInt_lt a0; have hs0 := Int32.le_toInt a0; have hr1 := Int32.toInt_lt a1; have hs1 := Int32.le_toInt a1; have hr2 := Int32.toInt_lt a2; have hs2 := Int32.le_toInt a2; have hr3 := Int32.toInt_lt a3; have hs3 := Int32.le_toInt a3; have hr4 := Int32.toInt_lt a4; have hs4 := Int32.le_toInt a4; have hr5 := Int32.toInt_lt a6; have hs5 := Int32.le_toInt a6; simp only [Int64.toInt_add, Int64.toInt_sub, Int32.toInt_add, Int32.toInt_sub, Int32.toInt_mul, Int64.le_iff_toInt_le, Int64.lt_iff_toInt_lt, Int32.le_iff_toInt_le, Int32.lt_iff_toInt_lt, ← Int32.toInt_inj, ← Int64.toInt_inj, Int32.toInt_toInt64, kc_0, kc_4, kc_23, kc_24, kc_96] at *; (first | omega | ((try simp (disch := omega) only [k_bm64] at *); (try simp (disch := omega) only [k_bm] at *); (try simp (disch := omega) only [k_bm] at *); omega) | (simp only [Int.bmod] at *; omega))))
theorem lf_g_flies_6 (a0 : Int32) (a1 : Int32) (a2 : Int32) (a3 : Int32) (a4 : Int32) (a5 : Nat) (a6 : Int32) (h0 : 0 ≤ a0 ∧ a0 ≤ 24) (h1 : 0 ≤ a1 ∧ a1 ≤ a0) (h2 : 0 ≤ a2 ∧ a2 ≤ a1) (h3 : 0 ≤ a3 ∧ a3 ≤ a1) (h4 : 0 ≤ a3 ∧ a3 ≤ 24) (h5 : a4 = 0 ∨ a2 = 0 ∨ a3 ≤ 23) (h6 : 0 ≤ a2 ∧ a2 ≤ 24) (h7 : (a0.toInt - a1.toInt).toNat = a5) (h8 : ¬ a0 ≤ a1) (h9 : a4 = 0) (h10 : a6 ≤ a1) : 0 ≤ ((4 * a1) + 1).toInt ∧ ((4 * a1) + 1).toInt < 96 := by
  first | rfl | assumption | decide | exact Or.inl rfl | (first | omega | (have hr0 := Int32.toInt_lt a0; have hs0 := Int32.le_toInt a0; have hr1 := Int32.toInt_lt a1; have hs1 := Int32.le_toInt a1; have hr2 := Int32.toInt_lt a2; have hs2 := Int32.le_toInt a2; have hr3 := Int32.toInt_lt a3; have hs3 := Int32.le_toInt a3; have hr4 := Int32.toInt_lt a4; have hs4 := Int32.le_toInt a4; have hr5 := Int32.toInt_lt a6; have hs5 := Int32.le_toInt a6; simp only [Int64.toInt_add, Int64.toInt_sub, Int32.toInt_add, Int32.toInt_sub, Int32.toInt_mul, Int64.le_iff_toInt_le, Int64.lt_iff_toInt_lt, Int32.le_iff_toInt_le, Int32.lt_iff_toInt_lt, ← Int32.toInt_inj, ← Int64.toInt_inj, Int32.toInt_toInt64, kc_0, kc_1, kc_4, kc_23, kc_24, kc_96] at *; (first | omega | ((try simp (disch := omega) only [k_bm64] at *); (try simp (disch := omega) only [k_bm] at *); (try simp (disch := omega) only [k_bm] at *); omega) | (simp only [Int.bmod] at *; omega))))
theorem lf_g_flies_7 (a0 : Int32) (a1 : Int32) (a2 : Int32) (a3 : Int32) (a4 : Int32) (a5 : Nat) (a6 : Int32) (h0 : 0 ≤ a0 ∧ a0 ≤ 24) (h1 : 0 ≤ a1 ∧ a1 ≤ a0) (h2 : 0 ≤ a2 ∧ a2 ≤ a1) (h3 : 0 ≤ a3 ∧ a3 ≤ a1) (h4 : 0 ≤ a3 ∧ a3 ≤ 24) (h5 : a4 = 0 ∨ a2 = 0 ∨ a3 ≤ 23) (h6 : 0 ≤ a2 ∧ a2 ≤ 24) (h7 : (a0.toInt - a1.toInt).toNat = a5) (h8 : ¬ a0 ≤ a1) (h9 : a4 = 0) (h10 : a6 ≤ a1) : 0 ≤ ((4 * a1) + 2).toInt ∧ ((4 * a1) + 2).toInt < 96 := by
  first | rfl | assumption | decide | exact Or.inl rfl | (first | omega | (have hr0 := Int32.toInt_lt a0; have hs0 := Int32.le_toInt a0; have hr1 := Int32.toInt_lt a1; have hs1 := Int32.le_toInt a1; have hr2 := Int32.toInt_lt a2; have hs2 := Int32.le_toInt a2; have hr3 := Int32.toInt_lt a3; have hs3 := Int32.le_toInt a3; have hr4 := Int32.toInt_lt a4; have hs4 := Int32.le_toInt a4; have hr5 := Int32.toInt_lt a6; have hs5 := Int32.le_toInt a6; simp only [Int64.toInt_add, Int64.toInt_sub, Int32.toInt_add, Int32.toInt_sub, Int32.toInt_mul, Int64.le_iff_toInt_le, Int64.lt_iff_toInt_lt, Int32.le_iff_toInt_le, Int32.lt_iff_toInt_lt, ← Int32.toInt_inj, ← Int64.toInt_inj, Int32.toInt_toInt64, kc_0, kc_2, kc_4, kc_23, kc_24, kc_96] at *; (first | omega | ((try simp (disch := omega) only [k_bm64] at *); (try simp (disch := omega) only [k_bm] at *); (try simp (disch := omega) only [k_bm] at *); omega) | (simp only [Int.bmod] at *; omega))))
theorem lf_g_flies_8 (a0 : Int32) (a1 : Int32) (a2 : Int32) (a3 : Int32) (a4 : Int32) (a5 : Nat) (a6 : Int32) (h0 : 0 ≤ a0 ∧ a0 ≤ 24) (h1 : 0 ≤ a1 ∧ a1 ≤ a0) (h2 : 0 ≤ a2 ∧ a2 ≤ a1) (h3 : 0 ≤ a3 ∧ a3 ≤ a1) (h4 : 0 ≤ a3 ∧ a3 ≤ 24) (h5 : a4 = 0 ∨ a2 = 0 ∨ a3 ≤ 23) (h6 : 0 ≤ a2 ∧ a2 ≤ 24) (h7 : (a0.toInt - a1.toInt).toNat = a5) (h8 : ¬ a0 ≤ a1) (h9 : a4 = 0) (h10 : a6 ≤ a1) : 0 ≤ ((4 * a1) + 3).toInt ∧ ((4 * a1) + 3).toInt < 96 := by
  first | rfl | assumption | decide | exact Or.inl rfl | (first | omega | (have hr0 := Int32.toInt_lt a0; have hs0 := Int32.le_toInt a0; have hr1 := Int32.toInt_lt a1; have hs1 := Int32.le_toInt a1; have hr2 := Int32.toInt_lt a2; have hs2 := Int32.le_toInt a2; have hr3 := Int32.toInt_lt a3; have hs3 := Int32.le_toInt a3; have hr4 := Int32.toInt_lt a4; have hs4 := Int32.le_toInt a4; have hr5 := Int32.toInt_lt a6; have hs5 := Int32.le_toInt a6; simp only [Int64.toInt_add, Int64.toInt_sub, Int32.toInt_add, Int32.toInt_sub, Int32.toInt_mul, Int64.le_iff_toInt_le, Int64.lt_iff_toInt_lt, Int32.le_iff_toInt_le, Int32.lt_iff_toInt_lt, ← Int32.toInt_inj, ← Int64.toInt_inj, Int32.toInt_toInt64, kc_0, kc_3, kc_4, kc_23, kc_24, kc_96] at *; (first | omega | ((try simp (disch := omega) only [k_bm64] at *); (try simp (disch := omega) only [k_bm] at *); (try simp (disch := omega) only [k_bm] at *); omega) | (simp only [Int.bmod] at *; omega))))
theorem lf_g_flies_9 (a0 : Int32) (a1 : Int32) (a2 : Int32) (a3 : Int32) (a4 : Int32) (a5 : Nat) (a6 : Int32) (h0 : 0 ≤ a0 ∧ a0 ≤ 24) (h1 : 0 ≤ a1 ∧ a1 ≤ a0) (h2 : 0 ≤ a2 ∧ a2 ≤ a1) (h3 : 0 ≤ a3 ∧ a3 ≤ a1) (h4 : 0 ≤ a3 ∧ a3 ≤ 24) (h5 : a4 = 0 ∨ a2 = 0 ∨ a3 ≤ 23) (h6 : 0 ≤ a2 ∧ a2 ≤ 24) (h7 : (a0.toInt - a1.toInt).toNat = a5) (h8 : ¬ a0 ≤ a1) (h9 : a4 = 0) (h10 : a6 ≤ a1) : 0 ≤ (a1 + 1) ∧ (a1 + 1) ≤ a0 := by
  first | rfl | assumption | decide | exact Or.inl rfl | (first | omega | (have hr0 := Int32.toInt_lt a0; have hs0 := Int32.le_toInt a0; have hr1 := Int32.toInt_lt a1; have hs1 := Int32.le_toInt a1; have hr2 := Int32.toInt_lt a2; have hs2 := Int32.le_toInt a2; have hr3 := Int32.toInt_lt a3; have hs3 := Int32.le_toInt a3; have hr4 := Int32.toInt_lt a4; have hs4 := Int32.le_toInt a4; have hr5 := Int32.toInt_lt a6; have hs5 := Int32.le_toInt a6; simp only [Int64.toInt_add, Int64.toInt_sub, Int32.toInt_add, Int32.toInt_sub, Int32.toInt_mul, Int64.le_iff_toInt_le, Int64.lt_iff_toInt_lt, Int32.le_iff_toInt_le, Int32.lt_iff_toInt_lt, ← Int32.toInt_inj, ← Int64.toInt_inj, Int32.toInt_toInt64, kc_0, kc_1, kc_23, kc_24] at *; (first | omega | ((try simp (disch := omega) only [k_bm64] at *); (try simp (disch := omega) only [k_bm] at *); (try simp (disch := omega) only [k_bm] at *); omega) | (simp only [Int.bmod] at *; omega))))
theorem lf_g_flies_10 (a0 : Int32) (a1 : Int32) (a2 : Int32) (a3 : Int32) (a4 : Int32) (a5 : Nat) (a6 : Int32) (h0 : 0 ≤ a0 ∧ a0 ≤ 24) (h1 : 0 ≤ a1 ∧ a1 ≤ a0) (h2 : 0 ≤ a2 ∧ a2 ≤ a1) (h3 : 0 ≤ a3 ∧ a3 ≤ a1) (h4 : 0 ≤ a3 ∧ a3 ≤ 24) (h5 : a4 = 0 ∨ a2 = 0 ∨ a3 ≤ 23) (h6 : 0 ≤ a2 ∧ a2 ≤ 24) (h7 : (a0.toInt - a1.toInt).toNat = a5) (h8 : ¬ a0 ≤ a1) (h9 : a4 = 0) (h10 : a6 ≤ a1) : 0 ≤ (a2 + 1) ∧ (a2 + 1) ≤ (a1 + 1) := by
  first | rfl | assumption | decide | exact Or.inl rfl | (first | omega | (have hr0 := Int32.toInt_lt a0; have hs0 := Int32.le_toInt a0; have hr1 := Int32.toInt_lt a1; have hs1 := Int32.le_toInt a1; have hr2 := Int32.toInt_lt a2; have hs2 := Int32.le_toInt a2; have hr3 := Int32.toInt_lt a3; have hs3 := Int32.le_toInt a3; have hr4 := Int32.toInt_lt a4; have hs4 := Int32.le_toInt a4; have hr5 := Int32.toInt_lt a6; have hs5 := Int32.le_toInt a6; simp only [Int64.toInt_add, Int64.toInt_sub, Int32.toInt_add, Int32.toInt_sub, Int32.toInt_mul, Int64.le_iff_toInt_le, Int64.lt_iff_toInt_lt, Int32.le_iff_toInt_le, Int32.lt_iff_toInt_lt, ← Int32.toInt_inj, ← Int64.toInt_inj, Int32.toInt_toInt64, kc_0, kc_1, kc_23, kc_24] at *; (first | omega | ((try simp (disch := omega) only [k_bm64] at *); (try simp (disch := omega) only [k_bm] at *); (try simp (disch := omega) only [k_bm] at *); omega) | (simp only [Int.bmod] at *; omega))))
theorem lf_g_flies_11 (a0 : Int32) (a1 : Int32) (a2 : Int32) (a3 : Int32) (a4 : Int32) (a5 : Nat) (a6 : Int32) (h0 : 0 ≤ a0 ∧ a0 ≤ 24) (h1 : 0 ≤ a1 ∧ a1 ≤ a0) (h2 : 0 ≤ a2 ∧ a2 ≤ a1) (h3 : 0 ≤ a3 ∧ a3 ≤ a1) (h4 : 0 ≤ a3 ∧ a3 ≤ 24) (h5 : a4 = 0 ∨ a2 = 0 ∨ a3 ≤ 23) (h6 : 0 ≤ a2 ∧ a2 ≤ 24) (h7 : (a0.toInt - a1.toInt).toNat = a5) (h8 : ¬ a0 ≤ a1) (h9 : a4 = 0) (h10 : a6 ≤ a1) : 0 ≤ a1 ∧ a1 ≤ (a1 + 1) := by
  first | rfl | assumption | decide | exact Or.inl rfl | (first | omega | (have hr0 := Int32.toInt_lt a0; have hs0 := Int32.le_toInt a0; have hr1 := Int32.toInt_lt a1; have hs1 := Int32.le_toInt a1; have hr2 := Int32.toInt_lt a2; have hs2 := Int32.le_toInt a2; have hr3 := Int32.toInt_lt a3; have hs3 := Int32.le_toInt a3; have hr4 := Int32.toInt_lt a4; have hs4 := Int32.le_toInt a4; have hr5 := Int32.toInt_lt a6; have hs5 := Int32.le_toInt a6; simp only [Int64.toInt_add, Int64.toInt_sub, Int32.toInt_add, Int32.toInt_sub, Int32.toInt_mul, Int64.le_iff_toInt_le, Int64.lt_iff_toInt_lt, Int32.le_iff_toInt_le, Int32.lt_iff_toInt_lt, ← Int32.toInt_inj, ← Int64.toInt_inj, Int32.toInt_toInt64, kc_0, kc_1, kc_23, kc_24] at *; (first | omega | ((try simp (disch := omega) only [k_bm64] at *); (try simp (disch := omega) only [k_bm] at *); (try simp (disch := omega) only [k_bm] at *); omega) | (simp only [Int.bmod] at *; omega))))
theorem lf_g_flies_12 (a0 : Int32) (a1 : Int32) (a2 : Int32) (a3 : Int32) (a4 : Int32) (a5 : Nat) (a6 : Int32) (h0 : 0 ≤ a0 ∧ a0 ≤ 24) (h1 : 0 ≤ a1 ∧ a1 ≤ a0) (h2 : 0 ≤ a2 ∧ a2 ≤ a1) (h3 : 0 ≤ a3 ∧ a3 ≤ a1) (h4 : 0 ≤ a3 ∧ a3 ≤ 24) (h5 : a4 = 0 ∨ a2 = 0 ∨ a3 ≤ 23) (h6 : 0 ≤ a2 ∧ a2 ≤ 24) (h7 : (a0.toInt - a1.toInt).toNat = a5) (h8 : ¬ a0 ≤ a1) (h9 : a4 = 0) (h10 : a6 ≤ a1) : 0 ≤ a1 ∧ a1 ≤ 24 := by
  first | rfl | assumption | decide | exact Or.inl rfl | (first | omega | (have hr0 := Int32.toInt_lt a0; have hs0 := Int32.le_toInt a0; have hr1 := Int32.toInt_lt a1; have hs1 := Int32.le_toInt a1; have hr2 := Int32.toInt_lt a2; have hs2 := Int32.le_toInt a2; have hr3 := Int32.toInt_lt a3; have hs3 := Int32.le_toInt a3; have hr4 := Int32.toInt_lt a4; have hs4 := Int32.le_toInt a4; have hr5 := Int32.toInt_lt a6; have hs5 := Int32.le_toInt a6; simp only [Int64.toInt_add, Int64.toInt_sub, Int32.toInt_add, Int32.toInt_sub, Int32.toInt_mul, Int64.le_iff_toInt_le, Int64.lt_iff_toInt_lt, Int32.le_iff_toInt_le, Int32.lt_iff_toInt_lt, ← Int32.toInt_inj, ← Int64.toInt_inj, Int32.toInt_toInt64, kc_0, kc_23, kc_24] at *; (first | omega | ((try simp (disch := omega) only [k_bm64] at *); (try simp (disch := omega) only [k_bm] at *); (try simp (disch := omega) only [k_bm] at *); omega) | (simp only [Int.bmod] at *; omega))))
theorem lf_g_flies_13 (a0 : Int32) (a1 : Int32) (a2 : Int32) (a3 : Int32) (a4 : Int32) (a5 : Nat) (a6 : Int32) (a7 : Int32) (h0 : 0 ≤ a0 ∧ a0 ≤ 24) (h1 : 0 ≤ a1 ∧ a1 ≤ a0) (h2 : 0 ≤ a2 ∧ a2 ≤ a1) (h3 : 0 ≤ a3 ∧ a3 ≤ a1) (h4 : 0 ≤ a3 ∧ a3 ≤ 24) (h5 : a4 = 0 ∨ a2 = 0 ∨ a3 ≤ 23) (h6 : 0 ≤ a2 ∧ a2 ≤ 24) (h7 : (a0.toInt - a1.toInt).toNat = a5) (h8 : ¬ a0 ≤ a1) (h9 : a4 = 0) (h10 : a6 ≤ a1) (h11 : ¬ a7 = 0) : a7 = 0 ∨ (a2 + 1) = 0 ∨ a1 ≤ 23 := by
  first | rfl | assumption | decide | exact Or.inl rfl | (first | omega | (have hr0 := Int32.toInt_lt a0; have hs0 := Int32.le_toInt a0; have hr1 := Int32.toInt_lt a1; have hs1 := Int32.le_toInt a1; have hr2 := Int32.toInt_lt a2; have hs2 := Int32.le_toInt a2; have hr3 := Int32.toInt_lt a3; have hs3 := Int32.le_toInt a3; have hr4 := Int32.toInt_lt a4; have hs4 := Int32.le_toInt a4; have hr5 := Int32.toInt_lt a6; have hs5 := Int32.le_toInt a6; have hr6 := Int32.toInt_lt a7; have hs6 := Int32.le_toInt a7; simp only [Int64.toInt_add, Int64.toInt_sub, Int32.toInt_add, Int32.toInt_sub, Int32.toInt_mul, Int64.le_iff_toInt_le, Int64.lt_iff_toInt_lt, Int32.le_iff_toInt_le, Int32.lt_iff_toInt_lt, ← Int32.toInt_inj, ← Int64.toInt_inj, Int32.toInt_toInt64, kc_0, kc_1, kc_23, kc_24] at *; (first | omega | ((try simp (disch := omega) only [k_bm64] at *); (try simp (disch := omega) only [k_bm] at *); (try simp (disch := omega) only [k_bm] at *); omega) | (simp only [Int.bmod] at *; omega))))
theorem lf_g_flies_14 (a0 : Int32) (a1 : Int32) (a2 : Int32) (a3 : Int32) (a4 : Int32) (a5 : Nat) (a6 : Int32) (h0 : 0 ≤ a0 ∧ a0 ≤ 24) (h1 : 0 ≤ a1 ∧ a1 ≤ a0) (h2 : 0 ≤ a2 ∧ a2 ≤ a1) (h3 : 0 ≤ a3 ∧ a3 ≤ a1) (h4 : 0 ≤ a3 ∧ a3 ≤ 24) (h5 : a4 = 0 ∨ a2 = 0 ∨ a3 ≤ 23) (h6 : 0 ≤ a2 ∧ a2 ≤ 24) (h7 : (a0.toInt - a1.toInt).toNat = a5) (h8 : ¬ a0 ≤ a1) (h9 : a4 = 0) (h10 : a6 ≤ a1) : 0 ≤ (a2 + 1) ∧ (a2 + 1) ≤ 24 := by
  first | rfl | assumption | decide | exact Or.inl rfl | (first | omega | (have hr0 := Int32.toInt_lt a0; have hs0 := Int32.le_toInt a0; have hr1 := Int32.toInt_lt a1; have hs1 := Int32.le_toInt a1; have hr2 := Int32.toInt_lt a2; have hs2 := Int32.le_toInt a2; have hr3 := Int32.toInt_lt a3; have hs3 := Int32.le_toInt a3; have hr4 := Int32.toInt_lt a4; have hs4 := Int32.le_toInt a4; have hr5 := Int32.toInt_lt a6; have hs5 := Int32.le_toInt a6; simp only [Int64.toInt_add, Int64.toInt_sub, Int32.toInt_add, Int32.toInt_sub, Int32.toInt_mul, Int64.le_iff_toInt_le, Int64.lt_iff_toInt_lt, Int32.le_iff_toInt_le, Int32.lt_iff_toInt_lt, ← Int32.toInt_inj, ← Int64.toInt_inj, Int32.toInt_toInt64, kc_0, kc_1, kc_23, kc_24] at *; (first | omega | ((try simp (disch := omega) only [k_bm64] at *); (try simp (disch := omega) only [k_bm] at *); (try simp (disch := omega) only [k_bm] at *); omega) | (simp only [Int.bmod] at *; omega))))
theorem lf_g_flies_15 (a0 : Int32) (a1 : Int32) (a2 : Int32) (a3 : Int32) (a4 : Int32) (a5 : Nat) (a6 : Int32) (h0 : 0 ≤ a0 ∧ a0 ≤ 24) (h1 : 0 ≤ a1 ∧ a1 ≤ a0) (h2 : 0 ≤ a2 ∧ a2 ≤ a1) (h3 : 0 ≤ a3 ∧ a3 ≤ a1) (h4 : 0 ≤ a3 ∧ a3 ≤ 24) (h5 : a4 = 0 ∨ a2 = 0 ∨ a3 ≤ 23) (h6 : 0 ≤ a2 ∧ a2 ≤ 24) (h7 : (a0.toInt - a1.toInt).toNat = a5) (h8 : ¬ a0 ≤ a1) (h9 : a4 = 0) (h10 : a6 ≤ a1) : (a0.toInt - (a1 + 1).toInt).toNat < a5 := by
  first | rfl | assumption | decide | exact Or.inl rfl | (first | omega | (have hr0 := Int32.toInt_lt a0; have hs0 := Int32.le_toInt a0; have hr1 := Int32.toInt_lt a1; have hs1 := Int32.le_toInt a1; have hr2 := Int32.toInt_lt a2; have hs2 := Int32.le_toInt a2; have hr3 := Int32.toInt_lt a3; have hs3 := Int32.le_toInt a3; have hr4 := Int32.toInt_lt a4; have hs4 := Int32.le_toInt a4; have hr5 := Int32.toInt_lt a6; have hs5 := Int32.le_toInt a6; simp only [Int64.toInt_add, Int64.toInt_sub, Int32.toInt_add, Int32.toInt_sub, Int32.toInt_mul, Int64.le_iff_toInt_le, Int64.lt_iff_toInt_lt, Int32.le_iff_toInt_le, Int32.lt_iff_toInt_lt, ← Int32.toInt_inj, ← Int64.toInt_inj, Int32.toInt_toInt64, kc_0, kc_1, kc_23, kc_24] at *; (first | omega | ((try simp (disch := omega) only [k_bm64] at *); (try simp (disch := omega) only [k_bm] at *); (try simp (disch := omega) only [k_bm] at *); omega) | (simp only [Int.bmod] at *; omega))))
theorem lf_g_flies_16 (a0 : Int32) (a1 : Int32) (a2 : Int32) (a3 : Int32) (a4 : Int32) (a5 : Nat) (a6 : Int32) (h0 : 0 ≤ a0 ∧ a0 ≤ 24) (h1 : 0 ≤ a1 ∧ a1 ≤ a0) (h2 : 0 ≤ a2 ∧ a2 ≤ a1) (h3 : 0 ≤ a3 ∧ a3 ≤ a1) (h4 : 0 ≤ a3 ∧ a3 ≤ 24) (h5 : a4 = 0 ∨ a2 = 0 ∨ a3 ≤ 23) (h6 : 0 ≤ a2 ∧ a2 ≤ 24) (h7 : (a0.toInt - a1.toInt).toNat = a5) (h8 : ¬ a0 ≤ a1) (h9 : a4 = 0) (h10 : a6 ≤ a1) : 0 ≤ (a1 + 1) ∧ (a1 + 1) ≤ (a1 + 1) := by
  first | rfl | assumption | decide | exact Or.inl rfl | (first | omega | (have hr0 := Int32.toInt_lt a0; have hs0 := Int32.le_toInt a0; have hr1 := Int32.toInt_lt a1; have hs1 := Int32.le_toInt a1; have hr2 := Int32.toInt_lt a2; have hs2 := Int32.le_toInt a2; have hr3 := Int32.toInt_lt a3; have hs3 := Int32.le_toInt a3; have hr4 := Int32.toInt_lt a4; have hs4 := Int32.le_toInt a4; have hr5 := Int32.toInt_lt a6; have hs5 := Int32.le_toInt a6; simp only [Int64.toInt_add, Int64.toInt_sub, Int32.toInt_add, Int32.toInt_sub, Int32.toInt_mul, Int64.le_iff_toInt_le, Int64.lt_iff_toInt_lt, Int32.le_iff_toInt_le, Int32.lt_iff_toInt_lt, ← Int32.toInt_inj, ← Int64.toInt_inj, Int32.toInt_toInt64, kc_0, kc_1, kc_23, kc_24] at *; (first | omega | ((try simp (disch := omega) only [k_bm64] at *); (try simp (disch := omega) only [k_bm] at *); (try simp (disch := omega) only [k_bm] at *); omega) | (simp only [Int.bmod] at *; omega))))
theorem lf_g_flies_17 (a0 : Int32) (a1 : Int32) (a2 : Int32) (a3 : Int32) (a4 : Int32) (a5 : Nat) (a6 : Int32) (h0 : 0 ≤ a0 ∧ a0 ≤ 24) (h1 : 0 ≤ a1 ∧ a1 ≤ a0) (h2 : 0 ≤ a2 ∧ a2 ≤ a1) (h3 : 0 ≤ a3 ∧ a3 ≤ a1) (h4 : 0 ≤ a3 ∧ a3 ≤ 24) (h5 : a4 = 0 ∨ a2 = 0 ∨ a3 ≤ 23) (h6 : 0 ≤ a2 ∧ a2 ≤ 24) (h7 : (a0.toInt - a1.toInt).toNat = a5) (h8 : ¬ a0 ≤ a1) (h9 : a4 = 0) (h10 : a6 ≤ a1) : 0 ≤ (a1 + 1) ∧ (a1 + 1) ≤ 24 := by
  first | rfl | assumption | decide | exact Or.inl rfl | (first | omega | (have hr0 := Int32.toInt_lt a0; have hs0 := Int32.le_toInt a0; have hr1 := Int32.toInt_lt a1; have hs1 := Int32.le_toInt a1; have hr2 := Int32.toInt_lt a2; have hs2 := Int32.le_toInt a2; have hr3 := Int32.toInt_lt a3; have hs3 := Int32.le_toInt a3; have hr4 := Int32.toInt_lt a4; have hs4 := Int32.le_toInt a4; have hr5 := Int32.toInt_lt a6; have hs5 := Int32.le_toInt a6; simp only [Int64.toInt_add, Int64.toInt_sub, Int32.toInt_add, Int32.toInt_sub, Int32.toInt_mul, Int64.le_iff_toInt_le, Int64.lt_iff_toInt_lt, Int32.le_iff_toInt_le, Int32.lt_iff_toInt_lt, ← Int32.toInt_inj, ← Int64.toInt_inj, Int32.toInt_toInt64, kc_0, kc_1, kc_23, kc_24] at *; (first | omega | ((try simp (disch := omega) only [k_bm64] at *); (try simp (disch := omega) only [k_bm] at *); (try simp (disch := omega) only [k_bm] at *); omega) | (simp only [Int.bmod] at *; omega))))
theorem lf_g_flies_18 (a0 : Int32) (a1 : Int32) (a2 : Int32) (a3 : Int32) (a4 : Int32) (a5 : Nat) (a6 : Int32) (h0 : 0 ≤ a0 ∧ a0 ≤ 24) (h1 : 0 ≤ a1 ∧ a1 ≤ a0) (h2 : 0 ≤ a2 ∧ a2 ≤ a1) (h3 : 0 ≤ a3 ∧ a3 ≤ a1) (h4 : 0 ≤ a3 ∧ a3 ≤ 24) (h5 : a4 = 0 ∨ a2 = 0 ∨ a3 ≤ 23) (h6 : 0 ≤ a2 ∧ a2 ≤ 24) (h7 : (a0.toInt - a1.toInt).toNat = a5) (h8 : ¬ a0 ≤ a1) (h9 : a4 = 0) (h10 : ¬ a6 ≤ a1) : 0 ≤ a1 ∧ a1 ≤ 23 := by
  first | rfl | assumption | decide | exact Or.inl rfl | (first | omega | (have hr0 := Int32.toInt_lt a0; have hs0 := Int32.le_toInt a0; have hr1 := Int32.toInt_lt a1; have hs1 := Int32.le_toInt a1; have hr2 := Int32.toInt_lt a2; have hs2 := Int32.le_toInt a2; have hr3 := Int32.toInt_lt a3; have hs3 := Int32.le_toInt a3; have hr4 := Int32.toInt_lt a4; have hs4 := Int32.le_toInt a4; have hr5 := Int32.toInt_lt a6; have hs5 := Int32.le_toInt a6; simp only [Int64.toInt_add, Int64.toInt_sub, Int32.toInt_add, Int32.toInt_sub, Int32.toInt_mul, Int64.le_iff_toInt_le, Int64.lt_iff_toInt_lt, Int32.le_iff_toInt_le, Int32.lt_iff_toInt_lt, ← Int32.toInt_inj, ← Int64.toInt_inj, Int32.toInt_toInt64, kc_0, kc_23, kc_24] at *; (first | omega | ((try simp (disch := omega) only [k_bm64] at *); (try simp (disch := omega) only [k_bm] at *); (try simp (disch := omega) only [k_bm] at *); omega) | (simp only [Int.bmod] at *; omega))))
theorem lf_g_flies_19 (a0 : Int32) (a1 : Int32) (a2 : Int32) (a3 : Int32) (a4 : Int32) (a5 : Nat) (a6 : Int32) (h0 : 0 ≤ a0 ∧ a0 ≤ 24) (h1 : 0 ≤ a1 ∧ a1 ≤ a0) (h2 : 0 ≤ a2 ∧ a2 ≤ a1) (h3 : 0 ≤ a3 ∧ a3 ≤ a1) (h4 : 0 ≤ a3 ∧ a3 ≤ 24) (h5 : a4 = 0 ∨ a2 = 0 ∨ a3 ≤ 23) (h6 : 0 ≤ a2 ∧ a2 ≤ 24) (h7 : (a0.toInt - a1.toInt).toNat = a5) (h8 : ¬ a0 ≤ a1) (h9 : a4 = 0) (h10 : ¬ a6 ≤ a1) : 0 ≤ (4 * a1).toInt ∧ (4 * a1).toInt < 96 := by
  first | rfl | assumption | decide | exact Or.inl rfl | (first | omega | (have hr0 := Int32.toInt_lt a0; have hs0 := Int32.le_toInt a0; have hr1 := Int32.toInt_lt a1; have hs1 := Int32.le_toInt a1; have hr2 := Int32.toInt_lt a2; have hs2 := Int32.le_toInt a2; have hr3 := Int32.toInt_lt a3; have hs3 := Int32.le_toInt a3; have hr4 := Int32.toInt_lt a4; have hs4 := Int32.le_toInt a4; have hr5 := Int32.toInt_lt a6; have hs5 := Int32.le_toInt a6; simp only [Int64.toInt_add, Int64.toInt_sub, Int32.toInt_add, Int32.toInt_sub, Int32.toInt_mul, Int64.le_iff_toInt_le, Int64.lt_iff_toInt_lt, Int32.le_iff_toInt_le, Int32.lt_iff_toInt_lt, ← Int32.toInt_inj, ← Int64.toInt_inj, Int32.toInt_toInt64, kc_0, kc_4, kc_23, kc_24, kc_96] at *; (first | omega | ((try simp (disch := omega) only [k_bm64] at *); (try simp (disch := omega) only [k_bm] at *); (try simp (disch := omega) only [k_bm] at *); omega) | (simp only [Int.bmod] at *; omega))))
theorem lf_g_flies_20 (a0 : Int32) (a1 : Int32) (a2 : Int32) (a3 : Int32) (a4 : Int32) (a5 : Nat) (a6 : Int32) (h0 : 0 ≤ a0 ∧ a0 ≤ 24) (h1 : 0 ≤ a1 ∧ a1 ≤ a0) (h2 : 0 ≤ a2 ∧ a2 ≤ a1) (h3 : 0 ≤ a3 ∧ a3 ≤ a1) (h4 : 0 ≤ a3 ∧ a3 ≤ 24) (h5 : a4 = 0 ∨ a2 = 0 ∨ a3 ≤ 23) (h6 : 0 ≤ a2 ∧ a2 ≤ 24) (h7 : (a0.toInt - a1.toInt).toNat = a5) (h8 : ¬ a0 ≤ a1) (h9 : a4 = 0) (h10 : ¬ a6 ≤ a1) : 0 ≤ ((4 * a1) + 1).toInt ∧ ((4 * a1) + 1).toInt < 96 := by
  first | rfl | assumption | decide | exact Or.inl rfl | (first | omega | (have hr0 := Int32.toInt_lt a0; have hs0 := Int32.le_toInt a0; have hr1 := Int32.toInt_lt a1; have hs1 := Int32.le_toInt a1; have hr2 := Int32.toInt_lt a2; have hs2 := Int32.le_toInt a2; have hr3 := Int32.toInt_lt a3; have hs3 := Int32.le_toInt a3; have hr4 := Int32.toInt_lt a4; have hs4 := Int32.le_toInt a4; have hr5 := Int32.toInt_lt a6; have hs5 := Int32.le_toInt a6; simp only [Int64.toInt_add, Int64.toInt_sub, Int32.toInt_add, Int32.toInt_sub, Int32.toInt_mul, Int64.le_iff_toInt_le, Int64.lt_iff_toInt_lt, Int32.le_iff_toInt_le, Int32.lt_iff_toInt_lt, ← Int32.toInt_inj, ← Int64.toInt_inj, Int32.toInt_toInt64, kc_0, kc_1, kc_4, kc_23, kc_24, kc_96] at *; (first | omega | ((try simp (disch := omega) only [k_bm64] at *); (try simp (disch := omega) only [k_bm] at *); (try simp (disch := omega) only [k_bm] at *); omega) | (simp only [Int.bmod] at *; omega))))
theorem lf_g_flies_21 (a0 : Int32) (a1 : Int32) (a2 : Int32) (a3 : Int32) (a4 : Int32) (a5 : Nat) (a6 : Int32) (h0 : 0 ≤ a0 ∧ a0 ≤ 24) (h1 : 0 ≤ a1 ∧ a1 ≤ a0) (h2 : 0 ≤ a2 ∧ a2 ≤ a1) (h3 : 0 ≤ a3 ∧ a3 ≤ a1) (h4 : 0 ≤ a3 ∧ a3 ≤ 24) (h5 : a4 = 0 ∨ a2 = 0 ∨ a3 ≤ 23) (h6 : 0 ≤ a2 ∧ a2 ≤ 24) (h7 : (a0.toInt - a1.toInt).toNat = a5) (h8 : ¬ a0 ≤ a1) (h9 : a4 = 0) (h10 : ¬ a6 ≤ a1) : 0 ≤ ((4 * a1) + 2).toInt ∧ ((4 * a1) + 2).toInt < 96 := by
  first | rfl | assumption | decide | exact Or.inl rfl | (first | omega | (have hr0 := Int32.toInt_lt a0; have hs0 := Int32.le_toInt a0; have hr1 := Int32.toInt_lt a1; have hs1 := Int32.le_toInt a1; have hr2 := Int32.toInt_lt a2; have hs2 := Int32.le_toInt a2; have hr3 := Int32.toInt_lt a3; have hs3 := Int32.le_toInt a3; have hr4 := Int32.toInt_lt a4; have hs4 := Int32.le_toInt a4; have hr5 := Int32.toInt_lt a6; have hs5 := Int32.le_toInt a6; simp only [Int64.toInt_add, Int64.toInt_sub, Int32.toInt_add, Int32.toInt_sub, Int32.toInt_mul, Int64.le_iff_toInt_le, Int64.lt_iff_toInt_lt, Int32.le_iff_toInt_le, Int32.lt_iff_toInt_lt, ← Int32.toInt_inj, ← Int64.toInt_inj, Int32.toInt_toInt64, kc_0, kc_2, kc_4, kc_23, kc_24, kc_96] at *; (first | omega | ((try simp (disch := omega) only [k_bm64] at *); (try simp (disch := omega) only [k_bm] at *); (try simp (disch := omega) only [k_bm] at *); omega) | (simp only [Int.bmod] at *; omega))))
theorem lf_g_flies_22 (a0 : Int32) (a1 : Int32) (a2 : Int32) (a3 : Int32) (a4 : Int32) (a5 : Nat) (a6 : Int32) (h0 : 0 ≤ a0 ∧ a0 ≤ 24) (h1 : 0 ≤ a1 ∧ a1 ≤ a0) (h2 : 0 ≤ a2 ∧ a2 ≤ a1) (h3 : 0 ≤ a3 ∧ a3 ≤ a1) (h4 : 0 ≤ a3 ∧ a3 ≤ 24) (h5 : a4 = 0 ∨ a2 = 0 ∨ a3 ≤ 23) (h6 : 0 ≤ a2 ∧ a2 ≤ 24) (h7 : (a0.toInt - a1.toInt).toNat = a5) (h8 : ¬ a0 ≤ a1) (h9 : a4 = 0) (h10 : ¬ a6 ≤ a1) : 0 ≤ ((4 * a1) + 3).toInt ∧ ((4 * a1) + 3).toInt < 96 := by
  first | rfl | assumption | decide | exact Or.inl rfl | (first | omega | (have hr0 := Int32.toInt_lt a0; have hs0 := Int32.le_toInt a0; have hr1 := Int32.toInt_lt a1; have hs1 := Int32.le_toInt a1; have hr2 := Int32.toInt_lt a2; have hs2 := Int32.le_toInt a2; have hr3 := Int32.toInt_lt a3; have hs3 := Int32.le_toInt a3; have hr4 := Int32.toInt_lt a4; have hs4 := Int32.le_toInt a4; have hr5 := Int32.toInt_lt a6; have hs5 := Int32.le_toInt a6; simp only [Int64.toInt_add, Int64.toInt_sub, Int32.toInt_add, Int32.toInt_sub, Int32.toInt_mul, Int64.le_iff_toInt_le, Int64.lt_iff_toInt_lt, Int32.le_iff_toInt_le, Int32.lt_iff_toInt_lt, ← Int32.toInt_inj, ← Int64.toInt_inj, Int32.toInt_toInt64, kc_0, kc_3, kc_4, kc_23, kc_24, kc_96] at *; (first | omega | ((try simp (disch := omega) only [k_bm64] at *); (try simp (disch := omega) only [k_bm] at *); (try simp (disch := omega) only [k_bm] at *); omega) | (simp only [Int.bmod] at *; omega))))
theorem lf_g_flies_23 (a0 : Int32) (a1 : Int32) (a2 : Int32) (a3 : Int32) (a4 : Int32) (a5 : Nat) (a6 : Int32) (h0 : 0 ≤ a0 ∧ a0 ≤ 24) (h1 : 0 ≤ a1 ∧ a1 ≤ a0) (h2 : 0 ≤ a2 ∧ a2 ≤ a1) (h3 : 0 ≤ a3 ∧ a3 ≤ a1) (h4 : 0 ≤ a3 ∧ a3 ≤ 24) (h5 : a4 = 0 ∨ a2 = 0 ∨ a3 ≤ 23) (h6 : 0 ≤ a2 ∧ a2 ≤ 24) (h7 : (a0.toInt - a1.toInt).toNat = a5) (h8 : ¬ a0 ≤ a1) (h9 : a4 = 0) (h10 : ¬ a6 ≤ a1) : 0 ≤ (a1 + 1) ∧ (a1 + 1) ≤ a0 := by
  first | rfl | assumption | decide | exact Or.inl rfl | (first | omega | (have hr0 := Int32.toInt_lt a0; have hs0 := Int32.le_toInt a0; have hr1 := Int32.toInt_lt a1; have hs1 := Int32.le_toInt a1; have hr2 := Int32.toInt_lt a2; have hs2 := Int32.le_toInt a2; have hr3 := Int32.toInt_lt a3; have hs3 := Int32.le_toInt a3; have hr4 := Int32.toInt_lt a4; have hs4 := Int32.le_toInt a4; have hr5 := Int32.toInt_lt a6; have hs5 := Int32.le_toInt a6; simp only [Int64.toInt_add, Int64.toInt_sub, Int32.toInt_add, Int32.toInt_sub, Int32.toInt_mul, Int64.le_iff_toInt_le, Int64.lt_iff_toInt_lt, Int32.le_iff_toInt_le, Int32.lt_iff_toInt_lt, ← Int32.toInt_inj, ← Int64.toInt_inj, Int32.toInt_toInt64, kc_0, kc_1, kc_23, kc_24] at *; (first | omega | ((try simp (disch := omega) only [k_bm64] at *); (try simp (disch := omega) only [k_bm] at *); (try simp (disch := omega) only [k_bm] at *); omega) | (simp only [Int.bmod] at *; omega))))
theorem lf_g_flies_24 (a0 : Int32) (a1 : Int32) (a2 : Int32) (a3 : Int32) (a4 : Int32) (a5 : Nat) (a6 : Int32) (h0 : 0 ≤ a0 ∧ a0 ≤ 24) (h1 : 0 ≤ a1 ∧ a1 ≤ a0) (h2 : 0 ≤ a2 ∧ a2 ≤ a1) (h3 : 0 ≤ a3 ∧ a3 ≤ a1) (h4 : 0 ≤ a3 ∧ a3 ≤ 24) (h5 : a4 = 0 ∨ a2 = 0 ∨ a3 ≤ 23) (h6 : 0 ≤ a2 ∧ a2 ≤ 24) (h7 : (a0.toInt - a1.toInt).toNat = a5) (h8 : ¬ a0 ≤ a1) (h9 : a4 = 0) (h10 : ¬ a6 ≤ a1) : 0 ≤ (a2 + 1) ∧ (a2 + 1) ≤ (a1 + 1) := by
  first | rfl | assumption | decide | exact Or.inl rfl | (first | omega | (have hr0 := Int32.toInt_lt a0; have hs0 := Int32.le_toInt a0; have hr1 := Int32.toInt_lt a1; have hs1 := Int32.le_toInt a1; have hr2 := Int32.toInt_lt a2; have hs2 := Int32.le_toInt a2; have hr3 := Int32.toInt_lt a3; have hs3 := Int32.le_toInt a3; have hr4 := Int32.toInt_lt a4; have hs4 := Int32.le_toInt a4; have hr5 := Int32.toInt_lt a6; have hs5 := Int32.le_toInt a6; simp only [Int64.toInt_add, Int64.toInt_sub, Int32.toInt_add, Int32.toInt_sub, Int32.toInt_mul, Int64.le_iff_toInt_le, Int64.lt_iff_toInt_lt, Int32.le_iff_toInt_le, Int32.lt_iff_toInt_lt, ← Int32.toInt_inj, ← Int64.toInt_inj, Int32.toInt_toInt64, kc_0, kc_1, kc_23, kc_24] at *; (first | omega | ((try simp (disch := omega) only [k_bm64] at *); (try simp (disch := omega) only [k_bm] at *); (try simp (disch := omega) only [k_bm] at *); omega) | (simp only [Int.bmod] at *; omega))))
theorem lf_g_flies_25 (a0 : Int32) (a1 : Int32) (a2 : Int32) (a3 : Int32) (a4 : Int32) (a5 : Nat) (a6 : Int32) (h0 : 0 ≤ a0 ∧ a0 ≤ 24) (h1 : 0 ≤ a1 ∧ a1 ≤ a0) (h2 : 0 ≤ a2 ∧ a2 ≤ a1) (h3 : 0 ≤ a3 ∧ a3 ≤ a1) (h4 : 0 ≤ a3 ∧ a3 ≤ 24) (h5 : a4 = 0 ∨ a2 = 0 ∨ a3 ≤ 23) (h6 : 0 ≤ a2 ∧ a2 ≤ 24) (h7 : (a0.toInt - a1.toInt).toNat = a5) (h8 : ¬ a0 ≤ a1) (h9 : a4 = 0) (h10 : ¬ a6 ≤ a1) : 0 ≤ a1 ∧ a1 ≤ (a1 + 1) := by
  first | rfl | assumption | decide | exact Or.inl rfl | (first | omega | (have hr0 := Int32.toInt_lt a0; have hs0 := Int32.le_toInt a0; have hr1 := Int32.toInt_lt a1; have hs1 := Int32.le_toInt a1; have hr2 := Int32.toInt_lt a2; have hs2 := Int32.le_toInt a2; have hr3 := Int32.toInt_lt a3; have hs3 := Int32.le_toInt a3; have hr4 := Int32.toInt_lt a4; have hs4 := Int32.le_toInt a4; have hr5 := Int32.toInt_lt a6; have hs5 := Int32.le_toInt a6; simp only [Int64.toInt_add, Int64.toInt_sub, Int32.toInt_add, Int32.toInt_sub, Int32.toInt_mul, Int64.le_iff_toInt_le, Int64.lt_iff_toInt_lt, Int32.le_iff_toInt_le, Int32.lt_iff_toInt_lt, ← Int32.toInt_inj, ← Int64.toInt_inj, Int32.toInt_toInt64, kc_0, kc_1, kc_23, kc_24] at *; (first | omega | ((try simp (disch := omega) only [k_bm64] at *); (try simp (disch := omega) only [k_bm] at *); (try simp (disch := omega) only [k_bm] at *); omega) | (simp only [Int.bmod] at *; omega))))
theorem lf_g_flies_26 (a0 : Int32) (a1 : Int32) (a2 : Int32) (a3 : Int32) (a4 : Int32) (a5 : Nat) (a6 : Int32) (h0 : 0 ≤ a0 ∧ a0 ≤ 24) (h1 : 0 ≤ a1 ∧ a1 ≤ a0) (h2 : 0 ≤ a2 ∧ a2 ≤ a1) (h3 : 0 ≤ a3 ∧ a3 ≤ a1) (h4 : 0 ≤ a3 ∧ a3 ≤ 24) (h5 : a4 = 0 ∨ a2 = 0 ∨ a3 ≤ 23) (h6 : 0 ≤ a2 ∧ a2 ≤ 24) (h7 : (a0.toInt - a1.toInt).toNat = a5) (h8 : ¬ a0 ≤ a1) (h9 : a4 = 0) (h10 : ¬ a6 ≤ a1) : 0 ≤ a1 ∧ a1 ≤ 24 := by
  first | rfl | assumption | decide | exact Or.inl rfl | (first | omega | (have hr0 := Int32.toInt_lt a0; have hs0 := Int32.le_toInt a0; have hr1 := Int32.toInt_lt a1; have hs1 := Int32.le_toInt a1; have hr2 := Int32.toInt_lt a2; have hs2 := Int32.le_toInt a2; have hr3 := Int32.toInt_lt a3; have hs3 := Int32.le_toInt a3; have hr4 := Int32.toInt_lt a4; have hs4 := Int32.le_toInt a4; have hr5 := Int32.toInt_lt a6; have hs5 := Int32.le_toInt a6; simp only [Int64.toInt_add, Int64.toInt_sub, Int32.toInt_add, Int32.toInt_sub, Int32.toInt_mul, Int64.le_iff_toInt_le, Int64.lt_iff_toInt_lt, Int32.le_iff_toInt_le, Int32.lt_iff_toInt_lt, ← Int32.toInt_inj, ← Int64.toInt_inj, Int32.toInt_toInt64, kc_0, kc_23, kc_24] at *; (first | omega | ((try simp (disch := omega) only [k_bm64] at *); (try simp (disch := omega) only [k_bm] at *); (try simp (disch := omega) only [k_bm] at *); omega) | (simp only [Int.bmod] at *; omega))))
theorem lf_g_flies_27 (a0 : Int32) (a1 : Int32) (a2 : Int32) (a3 : Int32) (a4 : Int32) (a5 : Nat) (a6 : Int32) (a7 : Int32) (h0 : 0 ≤ a0 ∧ a0 ≤ 24) (h1 : 0 ≤ a1 ∧ a1 ≤ a0) (h2 : 0 ≤ a2 ∧ a2 ≤ a1) (h3 : 0 ≤ a3 ∧ a3 ≤ a1) (h4 : 0 ≤ a3 ∧ a3 ≤ 24) (h5 : a4 = 0 ∨ a2 = 0 ∨ a3 ≤ 23) (h6 : 0 ≤ a2 ∧ a2 ≤ 24) (h7 : (a0.toInt - a1.toInt).toNat = a5) (h8 : ¬ a0 ≤ a1) (h9 : a4 = 0) (h10 : ¬ a6 ≤ a1) (h11 : ¬ a7 = 0) : a7 = 0 ∨ (a2 + 1) = 0 ∨ a1 ≤ 23 := by
  first | rfl | assumption | decide | exact Or.inl rfl | (first | omega | (have hr0 := Int32.toInt_lt a0; have hs0 := Int32.le_toInt a0; have hr1 := Int32.toInt_lt a1; have hs1 := Int32.le_toInt a1; have hr2 := Int32.toInt_lt a2; have hs2 := Int32.le_toInt a2; have hr3 := Int32.toInt_lt a3; have hs3 := Int32.le_toInt a3; have hr4 := Int32.toInt_lt a4; have hs4 := Int32.le_toInt a4; have hr5 := Int32.toInt_lt a6; have hs5 := Int32.le_toInt a6; have hr6 := Int32.toInt_lt a7; have hs6 := Int32.le_toInt a7; simp only [Int64.toInt_add, Int64.toInt_sub, Int32.toInt_add, Int32.toInt_sub, Int32.toInt_mul, Int64.le_iff_toInt_le, Int64.lt_iff_toInt_lt, Int32.le_iff_toInt_le, Int32.lt_iff_toInt_lt, ← Int32.toInt_inj, ← Int64.toInt_inj, Int32.toInt_toInt64, kc_0, kc_1, kc_23, kc_24] at *; (first | omega | ((try simp (disch := omega) only [k_bm64] at *); (try simp (disch := omega) only [k_bm] at *); (try simp (disch := omega) only [k_bm] at *); omega) | (simp only [Int.bmod] at *; omega))))
theorem lf_g_flies_28 (a0 : Int32) (a1 : Int32) (a2 : Int32) (a3 : Int32) (a4 : Int32) (a5 : Nat) (a6 : Int32) (h0 : 0 ≤ a0 ∧ a0 ≤ 24) (h1 : 0 ≤ a1 ∧ a1 ≤ a0) (h2 : 0 ≤ a2 ∧ a2 ≤ a1) (h3 : 0 ≤ a3 ∧ a3 ≤ a1) (h4 : 0 ≤ a3 ∧ a3 ≤ 24) (h5 : a4 = 0 ∨ a2 = 0 ∨ a3 ≤ 23) (h6 : 0 ≤ a2 ∧ a2 ≤ 24) (h7 : (a0.toInt - a1.toInt).toNat = a5) (h8 : ¬ a0 ≤ a1) (h9 : a4 = 0) (h10 : ¬ a6 ≤ a1) : 0 ≤ (a2 + 1) ∧ (a2 + 1) ≤ 24 := by
  first | rfl | assumption | decide | exact Or.inl rfl | (first | omega | (have hr0 := Int32.toInt_lt a0; have hs0 := Int32.le_toInt a0; have hr1 := Int32.toInt_lt a1; have hs1 := Int32.le_toInt a1; have hr2 := Int32.toInt_lt a2; have hs2 := Int32.le_toInt a2; have hr3 := Int32.toInt_lt a3; have hs3 := Int32.le_toInt a3; have hr4 := Int32.toInt_lt a4; have hs4 := Int32.le_toInt a4; have hr5 := Int32.toInt_lt a6; have hs5 := Int32.le_toInt a6; simp only [Int64.toInt_add, Int64.toInt_sub, Int32.toInt_add, Int32.toInt_sub, Int32.toInt_mul, Int64.le_iff_toInt_le, Int64.lt_iff_toInt_lt, Int32.le_iff_toInt_le, Int32.lt_iff_toInt_lt, ← Int32.toInt_inj, ← Int64.toInt_inj, Int32.toInt_toInt64, kc_0, kc_1, kc_23, kc_24] at *; (first | omega | ((try simp (disch := omega) only [k_bm64] at *); (try simp (disch := omega) only [k_bm] at *); (try simp (disch := omega) only [k_bm] at *); omega) | (simp only [Int.bmod] at *; omega))))
theorem lf_g_flies_29 (a0 : Int32) (a1 : Int32) (a2 : Int32) (a3 : Int32) (a4 : Int32) (a5 : Nat) (a6 : Int32) (h0 : 0 ≤ a0 ∧ a0 ≤ 24) (h1 : 0 ≤ a1 ∧ a1 ≤ a0) (h2 : 0 ≤ a2 ∧ a2 ≤ a1) (h3 : 0 ≤ a3 ∧ a3 ≤ a1) (h4 : 0 ≤ a3 ∧ a3 ≤ 24) (h5 : a4 = 0 ∨ a2 = 0 ∨ a3 ≤ 23) (h6 : 0 ≤ a2 ∧ a2 ≤ 24) (h7 : (a0.toInt - a1.toInt).toNat = a5) (h8 : ¬ a0 ≤ a1) (h9 : a4 = 0) (h10 : ¬ a6 ≤ a1) : (a0.toInt - (a1 + 1).toInt).toNat < a5 := by
  first | rfl | assumption | decide | exact Or.inl rfl | (first | omega | (have hr0 := Int32.toInt_lt a0; have hs0 := Int32.le_toInt a0; have hr1 := Int32.toInt_lt a1; have hs1 := Int32.le_toInt a1; have hr2 := Int32.toInt_lt a2; have hs2 := Int32.le_toInt a2; have hr3 := Int32.toInt_lt a3; have hs3 := Int32.le_toInt a3; have hr4 := Int32.toInt_lt a4; have hs4 := Int32.le_toInt a4; have hr5 := Int32.toInt_lt a6; have hs5 := Int32.le_toInt a6; simp only [Int64.toInt_add, Int64.toInt_sub, Int32.toInt_add, Int32.toInt_sub, Int32.toInt_mul, Int64.le_iff_toInt_le, Int64.lt_iff_toInt_lt, Int32.le_iff_toInt_le, Int32.lt_iff_toInt_lt, ← Int32.toInt_inj, ← Int64.toInt_inj, Int32.toInt_toInt64, kc_0, kc_1, kc_23, kc_24] at *; (first | omega | ((try simp (disch := omega) only [k_bm64] at *); (try simp (disch := omega) only [k_bm] at *); (try simp (disch := omega) only [k_bm] at *); omega) | (simp only [Int.bmod] at *; omega))))
theorem lf_g_flies_30 (a0 : Int32) (a1 : Int32) (a2 : Int32) (a3 : Int32) (a4 : Int32) (a5 : Nat) (a6 : Int32) (h0 : 0 ≤ a0 ∧ a0 ≤ 24) (h1 : 0 ≤ a1 ∧ a1 ≤ a0) (h2 : 0 ≤ a2 ∧ a2 ≤ a1) (h3 : 0 ≤ a3 ∧ a3 ≤ a1) (h4 : 0 ≤ a3 ∧ a3 ≤ 24) (h5 : a4 = 0 ∨ a2 = 0 ∨ a3 ≤ 23) (h6 : 0 ≤ a2 ∧ a2 ≤ 24) (h7 : (a0.toInt - a1.toInt).toNat = a5) (h8 : ¬ a0 ≤ a1) (h9 : a4 = 0) (h10 : ¬ a6 ≤ a1) : 0 ≤ (a1 + 1) ∧ (a1 + 1) ≤ (a1 + 1) := by
  first | rfl | assumption | decide | exact Or.inl rfl | (first | omega | (have hr0 := Int32.toInt_lt a0; have hs0 := Int32.le_toInt a0; have hr1 := Int32.toInt_lt a1; have hs1 := Int32.le_toInt a1; have hr2 := Int32.toInt_lt a2; have hs2 := Int32.le_toInt a2; have hr3 := Int32.toInt_lt a3; have hs3 := Int32.le_toInt a3; have hr4 := Int32.toInt_lt a4; have hs4 := Int32.le_toInt a4; have hr5 := Int32.toInt_lt a6; have hs5 := Int32.le_toInt a6; simp only [Int64.toInt_add, Int64.toInt_sub, Int32.toInt_add, Int32.toInt_sub, Int32.toInt_mul, Int64.le_iff_toInt_le, Int64.lt_iff_toInt_lt, Int32.le_iff_toInt_le, Int32.lt_iff_toInt_lt, ← Int32.toInt_inj, ← Int64.toInt_inj, Int32.toInt_toInt64, kc_0, kc_1, kc_23, kc_24] at *; (first | omega | ((try simp (disch := omega) only [k_bm64] at *); (try simp (disch := omega) only [k_bm] at *); (try simp (disch := omega) only [k_bm] at *); omega) | (simp only [Int.bmod] at *; omega))))
theorem lf_g_flies_31 (a0 : Int32) (a1 : Int32) (a2 : Int32) (a3 : Int32) (a4 : Int32) (a5 : Nat) (a6 : Int32) (h0 : 0 ≤ a0 ∧ a0 ≤ 24) (h1 : 0 ≤ a1 ∧ a1 ≤ a0) (h2 : 0 ≤ a2 ∧ a2 ≤ a1) (h3 : 0 ≤ a3 ∧ a3 ≤ a1) (h4 : 0 ≤ a3 ∧ a3 ≤ 24) (h5 : a4 = 0 ∨ a2 = 0 ∨ a3 ≤ 23) (h6 : 0 ≤ a2 ∧ a2 ≤ 24) (h7 : (a0.toInt - a1.toInt).toNat = a5) (h8 : ¬ a0 ≤ a1) (h9 : a4 = 0) (h10 : ¬ a6 ≤ a1) : 0 ≤ (a1 + 1) ∧ (a1 + 1) ≤ 24 := by
  first | rfl | assumption | decide | exact Or.inl rfl | (first | omega | (have hr0 := Int32.toInt_lt a0; have hs0 := Int32.le_toInt a0; have hr1 := Int32.toInt_lt a1; have hs1 := Int32.le_toInt a1; have hr2 := Int32.toInt_lt a2; have hs2 := Int32.le_toInt a2; have hr3 := Int32.toInt_lt a3; have hs3 := Int32.le_toInt a3; have hr4 := Int32.toInt_lt a4; have hs4 := Int32.le_toInt a4; have hr5 := Int32.toInt_lt a6; have hs5 := Int32.le_toInt a6; simp only [Int64.toInt_add, Int64.toInt_sub, Int32.toInt_add, Int32.toInt_sub, Int32.toInt_mul, Int64.le_iff_toInt_le, Int64.lt_iff_toInt_lt, Int32.le_iff_toInt_le, Int32.lt_iff_toInt_lt, ← Int32.toInt_inj, ← Int64.toInt_inj, Int32.toInt_toInt64, kc_0, kc_1, kc_23, kc_24] at *; (first | omega | ((try simp (disch := omega) only [k_bm64] at *); (try simp (disch := omega) only [k_bm] at *); (try simp (disch := omega) only [k_bm] at *); omega) | (simp only [Int.bmod] at *; omega))))
set_option maxHeartbeats 4000000 in
set_option maxRecDepth 100000 in
theorem g_flies (l : Launch) (dC : Nat → ClassId) (dI : Nat → Nat → Nat) (cI cJ cQ : ClassId) (sz : Nat) (hm : Nat) (p1 : Int32) (le1 : Int32) (ri1 : Int32) (h1 : Int32) (fr : Int32) (th : Int32) (vFo : Nat) (vSi : Nat) (vIt : Nat) (vMo : Nat) (la : Int32) (vBy : Nat) (vTy : Nat) (mi : Int32) (vMi : Nat) (pn : Int32) (vPs : Nat) (gn : Int32) (vGs : Nat) (fn : Int32) (vFt : Nat) (le : Int32) (vTo : Nat) (kn : Int32) (fe : Int32) (en : Int32) (ca : Int32) (an : Int32) (co : Int32) (vPr : Nat) (vSt : Nat) (vFn : Nat) (sn : Int32) (vSg : Nat) (vAl : Nat) (dr : Int32) (qMi : Nat → Int32) (qPs : Nat → Int32) (qGs : Nat → Int32) (qTo : Nat → Int32) (qPr : Nat → Int32) (qSt : Nat → Int32) (qFn : Nat → Int32) (hh0 : 0 ≤ mi ∧ mi ≤ 24) (hh1 : 0 ≤ pn ∧ pn ≤ 8) (hh2 : 0 ≤ gn ∧ gn ≤ 8) (hh3 : k_bd 2 0 7 qPr) : Met l yX12_flies (kW yX12_flies cX12_flies 8 none) { frames := 2, cells := 0, slots := 0, locals := 51 } (kPre dC dI cI cJ cQ sz [.ref hm, .int p1, .int le1, .int ri1, .int h1, .int fr, .int th] [(kX12 hm vFo vSi vIt vMo la vBy vTy mi vMi pn vPs gn vGs fn vFt le vTo kn fe en ca an co vPr vSt vFn sn vSg vAl dr), (kAI vMi cI 24 qMi), (kAI vPs cI 32 qPs), (kAI vGs cI 16 qGs), (kAI vTo cI 96 qTo), (kAI vPr cI 2 qPr), (kAI vSt cI 2 qSt), (kAI vFn cI 2 qFn)]) (va_Qv (fun (u : kS) => (k_bd 2 0 7 (u.2.1 1)) ∧ (0 ≤ (u.1 1) ∧ (u.1 1) ≤ 24) ∧ ((u.1 2) = 0 ∨ (u.1 0) = 0 ∨ (u.1 1) ≤ 23) ∧ (0 ≤ (u.1 0) ∧ (u.1 0) ≤ 24)) (fun (u : kS) t₀ => kB dC dI cI cJ cQ (va_A [(kX12 hm vFo vSi vIt vMo la vBy vTy mi vMi pn vPs gn vGs fn vFt le vTo kn fe en ca an co vPr vSt vFn sn vSg vAl dr), (kAI vMi cI 24 qMi), (kAI vPs cI 32 qPs), (kAI vGs cI 16 qGs), (kAI vTo cI 96 qTo), (kAI vPr cI 2 qPr), (kAI vSt cI 2 qSt), (kAI vFn cI 2 qFn)] sz) [(kX12 hm vFo vSi vIt vMo la vBy vTy mi vMi pn vPs gn vGs fn vFt le vTo (u.1 0) (u.1 1) (u.1 2) ca (u.1 3) (u.1 4) vPr vSt vFn sn vSg vAl dr), (kAI vMi cI 24 qMi), (kAI vPs cI 32 qPs), (kAI vGs cI 16 qGs), (kAI vTo cI 96 (u.2.1 0)), (kAI vPr cI 2 (u.2.1 1)), (kAI vSt cI 2 (u.2.1 2)), (kAI vFn cI 2 (u.2.1 3))] t₀) (va_A [(kX12 hm vFo vSi vIt vMo la vBy vTy mi vMi pn vPs gn vGs fn vFt le vTo kn fe en ca an co vPr vSt vFn sn vSg vAl dr), (kAI vMi cI 24 qMi), (kAI vPs cI 32 qPs), (kAI vGs cI 16 qGs), (kAI vTo cI 96 qTo), (kAI vPr cI 2 qPr), (kAI vSt cI 2 qSt), (kAI vFn cI 2 qFn)] sz)) 0 0 (va_A [(kX12 hm vFo vSi vIt vMo la vBy vTy mi vMi pn vPs gn vGs fn vFt le vTo kn fe en ca an co vPr vSt vFn sn vSg vAl dr), (kAI vMi cI 24 qMi), (kAI vPs cI 32 qPs), (kAI vGs cI 16 qGs), (kAI vTo cI 96 qTo), (kAI vPr cI 2 qPr), (kAI vSt cI 2 qSt), (kAI vFn cI 2 qFn)] sz) := by
  refine Met.ofW (cc := cX12_flies) (maxL := 8) (ret := none) (by decide) rfl ?_
  intro p₀ e₀ s₀ m₀ args below meth c₀ s₁ B hml hv₀
  obtain ⟨rfl, hsz, hP, hK, hD0, hN⟩ := hv₀
  have hx₀ := B.exec
  have hb := B.bytes
  have hr := B.returns
  have hts := atoms_spec (ws := (kW yX12_flies cX12_flies 8 none)) B.pre
  have hts := fun w h => hts w (List.mem_cons_of_mem _ h)
  have hown : s₀.vm.findClass RX12 = some m₀.cls := findClass_of_methodNamed B.named
  have hlocks := B.notSynchronized
  subst hsz
  have hD := hD0.self (sz := s₀.heap.size)
  generalize hAe : va_A [(kX12 hm vFo vSi vIt vMo la vBy vTy mi vMi pn vPs gn vGs fn vFt le vTo kn fe en ca an co vPr vSt vFn sn vSg vAl dr), (kAI vMi cI 24 qMi), (kAI vPs cI 32 qPs), (kAI vGs cI 16 qGs), (kAI vTo cI 96 qTo), (kAI vPr cI 2 qPr), (kAI vSt cI 2 qSt), (kAI vFn cI 2 qFn)] s₀.heap.size = A at hD ⊢
  have hA : ∀ q : Nat, s₀.heap.size ≤ q → A q := fun q h => by rw [← hAe]; exact Or.inr h
  have hS : va_S A s₀.heap s₀.heap [] := va_S.rf
  have hP : va_P (dC, dI) vwCl [(kX12 hm vFo vSi vIt vMo la vBy vTy mi vMi pn vPs gn vGs fn vFt le vTo kn fe en ca an co vPr vSt vFn sn vSg vAl dr), (kAI vMi cI 24 qMi), (kAI vPs cI 32 qPs), (kAI vGs cI 16 qGs), (kAI vTo cI 96 qTo), (kAI vPr cI 2 qPr), (kAI vSt cI 2 qSt), (kAI vFn cI 2 qFn)] s₀.heap := hP
  have hl := lv_entry ([.ref hm, .int p1, .int le1, .int ri1, .int h1, .int fr, .int th]) (n := 8) (Nat.le_of_ble_eq_true rfl)
  rw [lg_entry_eq]
  generalize (lg_sl ([.ref hm, .int p1, .int le1, .int ri1, .int h1, .int fr, .int th]) ++ List.replicate (8 - (lg_sl ([.ref hm, .int p1, .int le1, .int ri1, .int h1, .int fr, .int th])).length) Slot.unset).toArray = ls at hl ⊢
  have hl : lv_has ls 8 [(0, .ref hm), (1, .int p1), (2, .int le1), (3, .int ri1), (4, .int h1), (5, .int fr), (6, .int th)] := hl
  obtain ⟨H, hH⟩ : ∃ z : Heap, z = s₀.heap := ⟨_, rfl⟩
  rw [← hH] at hP
  have hS : va_S A s₀.heap H [] := by rw [hH]; exact hS
  refine k_heap hH ?_
  have hD : va_D A [(kX12 hm vFo vSi vIt vMo la vBy vTy mi vMi pn vPs gn vGs fn vFt le vTo kn fe en ca an co vPr vSt vFn sn vSg vAl dr), (kAI vMi cI 24 qMi), (kAI vPs cI 32 qPs), (kAI vGs cI 16 qGs), (kAI vTo cI 96 qTo), (kAI vPr cI 2 qPr), (kAI vSt cI 2 qSt), (kAI vFn cI 2 qFn)] := hD
  obtain ⟨locs, hlo⟩ : ∃ z : List Loc, z = [] := ⟨_, rfl⟩
  rw [← hlo] at hS ⊢
  clear hlo hH hAe hD0
  refine lv_aload_n hx₀ hb dX12_flies_0 rfl (lv_at hl 0 rfl) ?_
  refine lv_iconst (v := 0) hx₀ hb dX12_flies_1 (by decide +kernel) ?_
  refine va_put (D := (dC, dI)) (ci := 11) (v := .int 0) (ty := .int) (C := RX12) (T := TX12) (N := 30) hx₀ hb hts inlX12 tyX12 tyX12_ok nmX12 hown hK hP hD hS 0 rfl rfl 17 (by decide) (hts (.fieldLink RX12 190 "BittenStickModel" "known" "I") wd_541) (fun _ h9 => h9) rfl (by decide +kernel) rfl rfl (Nat.le_of_ble_eq_true rfl) dX12_flies_2 ?_
  clear hP hD hS
  intro H locs hP hD hS
  replace hP := k_w2 (wt := [(kX12 hm vFo vSi vIt vMo la vBy vTy mi vMi pn vPs gn vGs fn vFt le vTo 0 fe en ca an co vPr vSt vFn sn vSg vAl dr), (kAI vMi cI 24 qMi), (kAI vPs cI 32 qPs), (kAI vGs cI 16 qGs), (kAI vTo cI 96 qTo), (kAI vPr cI 2 qPr), (kAI vSt cI 2 qSt), (kAI vFn cI 2 qFn)]) hP hD rfl
  replace hD := hP.2
  replace hP := hP.1
  refine lv_aload_n hx₀ hb dX12_flies_5 rfl (lv_at hl 0 rfl) ?_
  refine lv_iconst (v := 0) hx₀ hb dX12_flies_6 (by decide +kernel) ?_
  refine va_put (D := (dC, dI)) (ci := 11) (v := .int 0) (ty := .int) (C := RX12) (T := TX12) (N := 30) hx₀ hb hts inlX12 tyX12 tyX12_ok nmX12 hown hK hP hD hS 0 rfl rfl 18 (by decide) (hts (.fieldLink RX12 193 "BittenStickModel" "fell" "I") wd_542) (fun _ h9 => h9) rfl (by decide +kernel) rfl rfl (Nat.le_of_ble_eq_true rfl) dX12_flies_7 ?_
  clear hP hD hS
  intro H locs hP hD hS
  replace hP := k_w2 (wt := [(kX12 hm vFo vSi vIt vMo la vBy vTy mi vMi pn vPs gn vGs fn vFt le vTo 0 0 en ca an co vPr vSt vFn sn vSg vAl dr), (kAI vMi cI 24 qMi), (kAI vPs cI 32 qPs), (kAI vGs cI 16 qGs), (kAI vTo cI 96 qTo), (kAI vPr cI 2 qPr), (kAI vSt cI 2 qSt), (kAI vFn cI 2 qFn)]) hP hD rfl
  replace hD := hP.2
  replace hP := hP.1
  refine lv_aload_n hx₀ hb dX12_flies_10 rfl (lv_at hl 0 rfl) ?_
  refine lv_iconst (v := 1) hx₀ hb dX12_flies_11 (by decide +kernel) ?_
  refine va_put (D := (dC, dI)) (ci := 11) (v := .int 1) (ty := .int) (C := RX12) (T := TX12) (N := 30) hx₀ hb hts inlX12 tyX12 tyX12_ok nmX12 hown hK hP hD hS 0 rfl rfl 19 (by decide) (hts (.fieldLink RX12 196 "BittenStickModel" "end" "I") wd_543) (fun _ h9 => h9) rfl (by decide +kernel) rfl rfl (Nat.le_of_ble_eq_true rfl) dX12_flies_12 ?_
  clear hP hD hS
  intro H locs hP hD hS
  replace hP := k_w2 (wt := [(kX12 hm vFo vSi vIt vMo la vBy vTy mi vMi pn vPs gn vGs fn vFt le vTo 0 0 1 ca an co vPr vSt vFn sn vSg vAl dr), (kAI vMi cI 24 qMi), (kAI vPs cI 32 qPs), (kAI vGs cI 16 qGs), (kAI vTo cI 96 qTo), (kAI vPr cI 2 qPr), (kAI vSt cI 2 qSt), (kAI vFn cI 2 qFn)]) hP hD rfl
  replace hD := hP.2
  replace hP := hP.1
  refine lv_aload_n hx₀ hb dX12_flies_15 rfl (lv_at hl 0 rfl) ?_
  refine lv_iload_n hx₀ hb dX12_flies_16 rfl (lv_at hl 1 rfl) ?_
  obtain ⟨hPc, hDc, hFc, hC⟩ := k_cw (wc := [(kX12 hm vFo vSi vIt vMo la vBy vTy mi vMi pn vPs gn vGs fn vFt le vTo 0 0 1 ca an co vPr vSt vFn sn vSg vAl dr)]) hP hD hS hA [0] (by decide +kernel) rfl
  refine va_calli (va_runV (As := [.int p1]) (rest := []) ⟨hx₀, hb, hml, hown, hts⟩ (g_isPassenger l dC dI cI cJ cQ H.size hm p1 vFo vSi vIt vMo la vBy vTy mi vMi pn vPs gn vGs fn vFt le vTo 0 0 1 ca an co vPr vSt vFn sn vSg vAl dr (hh1)) (cwV 1 hts (kGV wd_323 wd_320 wd_321 wd_322 wd_5) rfl rfl rfl (by decide +kernel) ⟨Nat.le_of_ble_eq_true rfl, Nat.le_of_ble_eq_true rfl⟩) (k_preV11 (q0 := 0) hK hPc hDc hN rfl) rfl rfl hl.1 rfl (lv_room (Nat.le_of_ble_eq_true rfl)) dX12_flies_17 ⟨by decide +kernel, by decide +kernel⟩) hS (fun q _ h => hFc q h) hFc (fun r_1 u₀ t₀ H1 locs ht hvm hw hB hz1 hk1 hS => ?_)
  obtain ⟨hP1, hK1, hD1⟩ := hB
  rw [ht] at hP1
  have hJ := k_jn (wr := [(kAI vMi cI 24 qMi), (kAI vPs cI 32 qPs), (kAI vGs cI 16 qGs), (kAI vTo cI 96 qTo), (kAI vPr cI 2 qPr), (kAI vSt cI 2 qSt), (kAI vFn cI 2 qFn)]) (wt := [(kAI vMi cI 24 qMi), (kAI vPs cI 32 qPs), (kAI vGs cI 16 qGs), (kAI vTo cI 96 qTo), (kAI vPr cI 2 qPr), (kAI vSt cI 2 qSt), (kAI vFn cI 2 qFn), (kX12 hm vFo vSi vIt vMo la vBy vTy mi vMi pn vPs gn vGs fn vFt le vTo 0 0 1 ca an co vPr vSt vFn sn vSg vAl dr)]) hP hD hC [1, 2, 3, 4, 5, 6, 7] rfl (by decide +kernel) (by decide +kernel) hk1 hFc hP1 hD1 rfl
  clear hP hD hPc hDc hFc hC hP1 hD1 hK1 hz1 hk1 hvm ht
  obtain ⟨hP, hD⟩ := hJ
  generalize H1 = H at hP hS ⊢
  try dsimp only at hw
  by_cases c_2 : 0 ≤ p1 ∧ p1 < pn
  · rw [if_pos c_2] at hw
    refine k_topi (v := 1) hw ?_
    refine lv_if_eq (tgt := 39) hx₀ hb dX12_flies_20 (by decide) (fun c9 => absurd c9 (by decide +kernel)) (fun _ => ?_)
    refine lv_aload_n hx₀ hb dX12_flies_23 rfl (lv_at hl 0 rfl) ?_
    refine lv_iload_n hx₀ hb dX12_flies_24 rfl (lv_at hl 2 rfl) ?_
    obtain ⟨hPc, hDc, hFc, hC⟩ := k_cw (wc := [(kX12 hm vFo vSi vIt vMo la vBy vTy mi vMi pn vPs gn vGs fn vFt le vTo 0 0 1 ca an co vPr vSt vFn sn vSg vAl dr)]) hP hD hS hA [7] (by decide +kernel) rfl
    refine va_calli (va_runV (As := [.int le1]) (rest := []) ⟨hx₀, hb, hml, hown, hts⟩ (g_isGoose l dC dI cI cJ cQ H.size hm le1 vFo vSi vIt vMo la vBy vTy mi vMi pn vPs gn vGs fn vFt le vTo 0 0 1 ca an co vPr vSt vFn sn vSg vAl dr (hh2)) (cwV 1 hts (kGV wd_345 wd_342 wd_343 wd_344 wd_5) rfl rfl rfl (by decide +kernel) ⟨Nat.le_of_ble_eq_true rfl, Nat.le_of_ble_eq_true rfl⟩) (k_preV11 (q0 := 0) hK hPc hDc hN rfl) rfl rfl hl.1 rfl (lv_room (Nat.le_of_ble_eq_true rfl)) dX12_flies_25 ⟨by decide +kernel, by decide +kernel⟩) hS (fun q _ h => hFc q h) hFc (fun r_3 u₀ t₀ H1 locs ht hvm hw hB hz1 hk1 hS => ?_)
    obtain ⟨hP1, hK1, hD1⟩ := hB
    rw [ht] at hP1
    have hJ := k_jn (wr := [(kAI vMi cI 24 qMi), (kAI vPs cI 32 qPs), (kAI vGs cI 16 qGs), (kAI vTo cI 96 qTo), (kAI vPr cI 2 qPr), (kAI vSt cI 2 qSt), (kAI vFn cI 2 qFn)]) (wt := [(kAI vMi cI 24 qMi), (kAI vPs cI 32 qPs), (kAI vGs cI 16 qGs), (kAI vTo cI 96 qTo), (kAI vPr cI 2 qPr), (kAI vSt cI 2 qSt), (kAI vFn cI 2 qFn), (kX12 hm vFo vSi vIt vMo la vBy vTy mi vMi pn vPs gn vGs fn vFt le vTo 0 0 1 ca an co vPr vSt vFn sn vSg vAl dr)]) hP hD hC [0, 1, 2, 3, 4, 5, 6] rfl (by decide +kernel) (by decide +kernel) hk1 hFc hP1 hD1 rfl
    clear hP hD hPc hDc hFc hC hP1 hD1 hK1 hz1 hk1 hvm ht
    obtain ⟨hP, hD⟩ := hJ
    generalize H1 = H at hP hS ⊢
    try dsimp only at hw
    by_cases c_4 : 0 ≤ le1 ∧ le1 < gn
    · rw [if_pos c_4] at hw
      refine k_topi (v := 1) hw ?_
      refine lv_if_eq (tgt := 39) hx₀ hb dX12_flies_28 (by decide) (fun c9 => absurd c9 (by decide +kernel)) (fun _ => ?_)
      refine lv_aload_n hx₀ hb dX12_flies_31 rfl (lv_at hl 0 rfl) ?_
      refine lv_iload_n hx₀ hb dX12_flies_32 rfl (lv_at hl 3 rfl) ?_
      obtain ⟨hPc, hDc, hFc, hC⟩ := k_cw (wc := [(kX12 hm vFo vSi vIt vMo la vBy vTy mi vMi pn vPs gn vGs fn vFt le vTo 0 0 1 ca an co vPr vSt vFn sn vSg vAl dr)]) hP hD hS hA [7] (by decide +kernel) rfl
      refine va_calli (va_runV (As := [.int ri1]) (rest := []) ⟨hx₀, hb, hml, hown, hts⟩ (g_isGoose l dC dI cI cJ cQ H.size hm ri1 vFo vSi vIt vMo la vBy vTy mi vMi pn vPs gn vGs fn vFt le vTo 0 0 1 ca an co vPr vSt vFn sn vSg vAl dr (hh2)) (cwV 1 hts (kGV wd_345 wd_342 wd_343 wd_344 wd_5) rfl rfl rfl (by decide +kernel) ⟨Nat.le_of_ble_eq_true rfl, Nat.le_of_ble_eq_true rfl⟩) (k_preV11 (q0 := 0) hK hPc hDc hN rfl) rfl rfl hl.1 rfl (lv_room (Nat.le_of_ble_eq_true rfl)) dX12_flies_33 ⟨by decide +kernel, by decide +kernel⟩) hS (fun q _ h => hFc q h) hFc (fun r_5 u₀ t₀ H1 locs ht hvm hw hB hz1 hk1 hS => ?_)
      obtain ⟨hP1, hK1, hD1⟩ := hB
      rw [ht] at hP1
      have hJ := k_jn (wr := [(kAI vMi cI 24 qMi), (kAI vPs cI 32 qPs), (kAI vGs cI 16 qGs), (kAI vTo cI 96 qTo), (kAI vPr cI 2 qPr), (kAI vSt cI 2 qSt), (kAI vFn cI 2 qFn)]) (wt := [(kAI vMi cI 24 qMi), (kAI vPs cI 32 qPs), (kAI vGs cI 16 qGs), (kAI vTo cI 96 qTo), (kAI vPr cI 2 qPr), (kAI vSt cI 2 qSt), (kAI vFn cI 2 qFn), (kX12 hm vFo vSi vIt vMo la vBy vTy mi vMi pn vPs gn vGs fn vFt le vTo 0 0 1 ca an co vPr vSt vFn sn vSg vAl dr)]) hP hD hC [0, 1, 2, 3, 4, 5, 6] rfl (by decide +kernel) (by decide +kernel) hk1 hFc hP1 hD1 rfl
      clear hP hD hPc hDc hFc hC hP1 hD1 hK1 hz1 hk1 hvm ht
      obtain ⟨hP, hD⟩ := hJ
      generalize H1 = H at hP hS ⊢
      try dsimp only at hw
      by_cases c_6 : 0 ≤ ri1 ∧ ri1 < gn
      · rw [if_pos c_6] at hw
        refine k_topi (v := 1) hw ?_
        refine lv_if_ne (tgt := 40) hx₀ hb dX12_flies_36 (by decide) (fun _ => ?_) (fun c9 => absurd c9 (by decide +kernel))
        refine lv_aload_n hx₀ hb dX12_flies_40 rfl (lv_at hl 0 rfl) ?_
        refine va_get (D := (dC, dI)) (ci := 11) (v := .ref vPr) (C := RX12) (T := TX12) (N := 30) hx₀ hb hts inlX12 hown hK hP 7 rfl rfl 23 (by decide) (hts (.fieldLink RX12 43 "BittenStickModel" "pair" "[I") wd_126) (fun _ h9 => h9) rfl dX12_flies_41 ?_
        refine lv_iconst (v := 0) hx₀ hb dX12_flies_44 (by decide +kernel) ?_
        refine lv_iload_n hx₀ hb dX12_flies_45 rfl (lv_at hl 2 rfl) ?_
        refine va_iast hx₀ hb hK hP hD hS 4 0 rfl rfl (by unfold vp_in; decide +kernel) dX12_flies_46 ?_
        clear hP hD hS
        intro H locs hP hD hS
        obtain ⟨f_7, hf_7⟩ : ∃ z : Nat → Int32, z = upd qPr (0 : Int32).toNatClampNeg le1 := ⟨_, rfl⟩
        replace hP : va_P (dC, dI) vwCl [(kAI vMi cI 24 qMi), (kAI vPs cI 32 qPs), (kAI vGs cI 16 qGs), (kAI vTo cI 96 qTo), (kAI vPr cI 2 f_7), (kAI vSt cI 2 qSt), (kAI vFn cI 2 qFn), (kX12 hm vFo vSi vIt vMo la vBy vTy mi vMi pn vPs gn vGs fn vFt le vTo 0 0 1 ca an co vPr vSt vFn sn vSg vAl dr)] H := by rw [hf_7]; exact hP
        replace hD : va_D A [(kAI vMi cI 24 qMi), (kAI vPs cI 32 qPs), (kAI vGs cI 16 qGs), (kAI vTo cI 96 qTo), (kAI vPr cI 2 f_7), (kAI vSt cI 2 qSt), (kAI vFn cI 2 qFn), (kX12 hm vFo vSi vIt vMo la vBy vTy mi vMi pn vPs gn vGs fn vFt le vTo 0 0 1 ca an co vPr vSt vFn sn vSg vAl dr)] := by rw [hf_7]; exact hD
        have c_8 : k_bd 2 0 7 f_7 := by rw [hf_7]; exact k_bd_upd hh3 (lf_g_flies_1 gn le1 ri1 hh2 c_4 c_6)
        clear hf_7
        refine lv_aload_n hx₀ hb dX12_flies_47 rfl (lv_at hl 0 rfl) ?_
        refine va_get (D := (dC, dI)) (ci := 11) (v := .ref vPr) (C := RX12) (T := TX12) (N := 30) hx₀ hb hts inlX12 hown hK hP 7 rfl rfl 23 (by decide) (hts (.fieldLink RX12 43 "BittenStickModel" "pair" "[I") wd_126) (fun _ h9 => h9) rfl dX12_flies_48 ?_
        refine lv_iconst (v := 1) hx₀ hb dX12_flies_51 (by decide +kernel) ?_
        refine lv_iload_n hx₀ hb dX12_flies_52 rfl (lv_at hl 3 rfl) ?_
        refine va_iast hx₀ hb hK hP hD hS 4 0 rfl rfl (by unfold vp_in; decide +kernel) dX12_flies_53 ?_
        clear hP hD hS
        intro H locs hP hD hS
        obtain ⟨f_9, hf_9⟩ : ∃ z : Nat → Int32, z = upd f_7 (1 : Int32).toNatClampNeg ri1 := ⟨_, rfl⟩
        replace hP : va_P (dC, dI) vwCl [(kAI vMi cI 24 qMi), (kAI vPs cI 32 qPs), (kAI vGs cI 16 qGs), (kAI vTo cI 96 qTo), (kAI vPr cI 2 f_9), (kAI vSt cI 2 qSt), (kAI vFn cI 2 qFn), (kX12 hm vFo vSi vIt vMo la vBy vTy mi vMi pn vPs gn vGs fn vFt le vTo 0 0 1 ca an co vPr vSt vFn sn vSg vAl dr)] H := by rw [hf_9]; exact hP
        replace hD : va_D A [(kAI vMi cI 24 qMi), (kAI vPs cI 32 qPs), (kAI vGs cI 16 qGs), (kAI vTo cI 96 qTo), (kAI vPr cI 2 f_9), (kAI vSt cI 2 qSt), (kAI vFn cI 2 qFn), (kX12 hm vFo vSi vIt vMo la vBy vTy mi vMi pn vPs gn vGs fn vFt le vTo 0 0 1 ca an co vPr vSt vFn sn vSg vAl dr)] := by rw [hf_9]; exact hD
        have c_10 : k_bd 2 0 7 f_9 := by rw [hf_9]; exact k_bd_upd c_8 (lf_g_flies_2 gn le1 ri1 hh2 c_4 c_6)
        clear hf_9
        refine lv_iconst (v := 0) hx₀ hb dX12_flies_54 (by decide +kernel) ?_
        refine lv_istore (lv' := [(7, .int 0), (0, .ref hm), (1, .int p1), (2, .int le1), (3, .int ri1), (4, .int h1), (5, .int fr), (6, .int th)]) hx₀ hb dX12_flies_55 hl (by decide) rfl (fun ls hl => ?_)
        refine (?keyz11 : ∀ (jz11 : Nat) (iz11 : Int32) (qsz11 : Nat → Int32) (qfz11 : Nat → Int32) (H : Heap) (locs : List Loc) (ls : Array Slot), (0 ≤ iz11 ∧ iz11 ≤ 2) → ((2 - iz11.toInt).toNat = jz11) → va_P (dC, dI) vwCl [(kAI vMi cI 24 qMi), (kAI vPs cI 32 qPs), (kAI vGs cI 16 qGs), (kAI vTo cI 96 qTo), (kAI vPr cI 2 f_9), (kAI vSt cI 2 qsz11), (kAI vFn cI 2 qfz11), (kX12 hm vFo vSi vIt vMo la vBy vTy mi vMi pn vPs gn vGs fn vFt le vTo 0 0 1 ca an co vPr vSt vFn sn vSg vAl dr)] H → va_D A [(kAI vMi cI 24 qMi), (kAI vPs cI 32 qPs), (kAI vGs cI 16 qGs), (kAI vTo cI 96 qTo), (kAI vPr cI 2 f_9), (kAI vSt cI 2 qsz11), (kAI vFn cI 2 qfz11), (kX12 hm vFo vSi vIt vMo la vBy vTy mi vMi pn vPs gn vGs fn vFt le vTo 0 0 1 ca an co vPr vSt vFn sn vSg vAl dr)] → va_S A s₀.heap H locs → lv_has ls 8 [(7, .int iz11), (0, .ref hm), (1, .int p1), (2, .int le1), (3, .int ri1), (4, .int h1), (5, .int fr), (6, .int th)] → W p₀ l e₀ _ s₀ m₀ _ below meth c₀ H locs _ _ _ (F0 m₀ 57 ls [])) _ (0 : Int32) _ _ H locs ls (show 0 ≤ (0 : Int32) ∧ (0 : Int32) ≤ 2 from ⟨(by decide), (by decide)⟩) rfl hP hD hS hl
        clear hP hD hS hl
        intro jz11
        induction jz11 using Nat.strongRecOn with
        | ind jz11 ihz11 =>
          intro iz11 qsz11 qfz11 H locs ls hiz11_0 hjz11 hP hD hS hl
          refine lv_iload hx₀ hb dX12_flies_57 (lv_at hl 0 rfl) ?_
          refine lv_iconst (v := 2) hx₀ hb dX12_flies_59 (by decide +kernel) ?_
          refine lv_icmp_ge (tgt := 98) hx₀ hb dX12_flies_60 (by decide) (fun c_12 => ?_) (fun c_12 => ?_)
          · refine lv_aload_n hx₀ hb dX12_flies_98 rfl (lv_at hl 1 rfl) ?_
            refine lv_iconst (v := 0) hx₀ hb dX12_flies_99 (by decide +kernel) ?_
            refine va_put (D := (dC, dI)) (ci := 11) (v := .int 0) (ty := .int) (C := RX12) (T := TX12) (N := 30) hx₀ hb hts inlX12 tyX12 tyX12_ok nmX12 hown hK hP hD hS 7 rfl rfl 21 (by decide) (hts (.fieldLink RX12 184 "BittenStickModel" "anger" "I") wd_544) (fun _ h9 => h9) rfl (by decide +kernel) rfl rfl (Nat.le_of_ble_eq_true rfl) dX12_flies_100 ?_
            clear hP hD hS
            intro H locs hP hD hS
            replace hP := k_w2 (wt := [(kAI vMi cI 24 qMi), (kAI vPs cI 32 qPs), (kAI vGs cI 16 qGs), (kAI vTo cI 96 qTo), (kAI vPr cI 2 f_9), (kAI vSt cI 2 qsz11), (kAI vFn cI 2 qfz11), (kX12 hm vFo vSi vIt vMo la vBy vTy mi vMi pn vPs gn vGs fn vFt le vTo 0 0 1 ca 0 co vPr vSt vFn sn vSg vAl dr)]) hP hD rfl
            replace hD := hP.2
            replace hP := hP.1
            refine lv_aload_n hx₀ hb dX12_flies_103 rfl (lv_at hl 1 rfl) ?_
            refine lv_iconst (v := 0) hx₀ hb dX12_flies_104 (by decide +kernel) ?_
            refine va_put (D := (dC, dI)) (ci := 11) (v := .int 0) (ty := .int) (C := RX12) (T := TX12) (N := 30) hx₀ hb hts inlX12 tyX12 tyX12_ok nmX12 hown hK hP hD hS 7 rfl rfl 22 (by decide) (hts (.fieldLink RX12 177 "BittenStickModel" "cold" "I") wd_545) (fun _ h9 => h9) rfl (by decide +kernel) rfl rfl (Nat.le_of_ble_eq_true rfl) dX12_flies_105 ?_
            clear hP hD hS
            intro H locs hP hD hS
            replace hP := k_w2 (wt := [(kAI vMi cI 24 qMi), (kAI vPs cI 32 qPs), (kAI vGs cI 16 qGs), (kAI vTo cI 96 qTo), (kAI vPr cI 2 f_9), (kAI vSt cI 2 qsz11), (kAI vFn cI 2 qfz11), (kX12 hm vFo vSi vIt vMo la vBy vTy mi vMi pn vPs gn vGs fn vFt le vTo 0 0 1 ca 0 0 vPr vSt vFn sn vSg vAl dr)]) hP hD rfl
            replace hD := hP.2
            replace hP := hP.1
            refine lv_aload_n hx₀ hb dX12_flies_108 rfl (lv_at hl 1 rfl) ?_
            refine lv_iconst (v := 0) hx₀ hb dX12_flies_109 (by decide +kernel) ?_
            refine va_put (D := (dC, dI)) (ci := 11) (v := .int 0) (ty := .int) (C := RX12) (T := TX12) (N := 30) hx₀ hb hts inlX12 tyX12 tyX12_ok nmX12 hown hK hP hD hS 7 rfl rfl 19 (by decide) (hts (.fieldLink RX12 196 "BittenStickModel" "end" "I") wd_543) (fun _ h9 => h9) rfl (by decide +kernel) rfl rfl (Nat.le_of_ble_eq_true rfl) dX12_flies_110 ?_
            clear hP hD hS
            intro H locs hP hD hS
            replace hP := k_w2 (wt := [(kAI vMi cI 24 qMi), (kAI vPs cI 32 qPs), (kAI vGs cI 16 qGs), (kAI vTo cI 96 qTo), (kAI vPr cI 2 f_9), (kAI vSt cI 2 qsz11), (kAI vFn cI 2 qfz11), (kX12 hm vFo vSi vIt vMo la vBy vTy mi vMi pn vPs gn vGs fn vFt le vTo 0 0 0 ca 0 0 vPr vSt vFn sn vSg vAl dr)]) hP hD rfl
            replace hD := hP.2
            replace hP := hP.1
            refine lv_iconst (v := 0) hx₀ hb dX12_flies_113 (by decide +kernel) ?_
            refine lv_istore (lv' := [(7, .int 0), (0, .ref hm), (1, .int p1), (2, .int le1), (3, .int ri1), (4, .int h1), (5, .int fr), (6, .int th)]) hx₀ hb dX12_flies_114 hl (by decide) rfl (fun ls hl => ?_)
            refine (?keyz13 : ∀ (jz13 : Nat) (mz13 : Int32) (knz13 : Int32) (fez13 : Int32) (enz13 : Int32) (anz13 : Int32) (coz13 : Int32) (qtz13 : Nat → Int32) (qpz13 : Nat → Int32) (qsz13 : Nat → Int32) (qfz13 : Nat → Int32) (H : Heap) (locs : List Loc) (ls : Array Slot), (0 ≤ mz13 ∧ mz13 ≤ mi) → (0 ≤ knz13 ∧ knz13 ≤ mz13) → (0 ≤ fez13 ∧ fez13 ≤ mz13) → (k_bd 2 0 7 qpz13) → (0 ≤ fez13 ∧ fez13 ≤ 24) → (enz13 = 0 ∨ knz13 = 0 ∨ fez13 ≤ 23) → (0 ≤ knz13 ∧ knz13 ≤ 24) → ((mi.toInt - mz13.toInt).toNat = jz13) → va_P (dC, dI) vwCl [(kAI vMi cI 24 qMi), (kAI vPs cI 32 qPs), (kAI vGs cI 16 qGs), (kAI vTo cI 96 qtz13), (kAI vPr cI 2 qpz13), (kAI vSt cI 2 qsz13), (kAI vFn cI 2 qfz13), (kX12 hm vFo vSi vIt vMo la vBy vTy mi vMi pn vPs gn vGs fn vFt le vTo knz13 fez13 enz13 ca anz13 coz13 vPr vSt vFn sn vSg vAl dr)] H → va_D A [(kAI vMi cI 24 qMi), (kAI vPs cI 32 qPs), (kAI vGs cI 16 qGs), (kAI vTo cI 96 qtz13), (kAI vPr cI 2 qpz13), (kAI vSt cI 2 qsz13), (kAI vFn cI 2 qfz13), (kX12 hm vFo vSi vIt vMo la vBy vTy mi vMi pn vPs gn vGs fn vFt le vTo knz13 fez13 enz13 ca anz13 coz13 vPr vSt vFn sn vSg vAl dr)] → va_S A s₀.heap H locs → lv_has ls 8 [(7, .int mz13), (0, .ref hm), (1, .int p1), (2, .int le1), (3, .int ri1), (4, .int h1), (5, .int fr), (6, .int th)] → W p₀ l e₀ _ s₀ m₀ _ below meth c₀ H locs _ _ _ (F0 m₀ 116 ls [])) _ (0 : Int32) (0 : Int32) (0 : Int32) (0 : Int32) (0 : Int32) (0 : Int32) _ _ _ _ H locs ls (show 0 ≤ (0 : Int32) ∧ (0 : Int32) ≤ mi from ⟨(by decide), hh0.1⟩) (show 0 ≤ (0 : Int32) ∧ (0 : Int32) ≤ (0 : Int32) from ⟨(by decide), (by decide)⟩) (show 0 ≤ (0 : Int32) ∧ (0 : Int32) ≤ (0 : Int32) from ⟨(by decide), (by decide)⟩) (c_10) (show 0 ≤ (0 : Int32) ∧ (0 : Int32) ≤ 24 from ⟨(by decide), (by decide)⟩) (show (0 : Int32) = 0 ∨ (0 : Int32) = 0 ∨ (0 : Int32) ≤ 23 from (Or.inl (rfl))) (show 0 ≤ (0 : Int32) ∧ (0 : Int32) ≤ 24 from ⟨(by decide), (by decide)⟩) rfl hP hD hS hl
            clear hP hD hS hl
            intro jz13
            induction jz13 using Nat.strongRecOn with
            | ind jz13 ihz13 =>
              intro mz13 knz13 fez13 enz13 anz13 coz13 qtz13 qpz13 qsz13 qfz13 H locs ls hiz13_0 hiz13_1 hiz13_2 hiz13_3 hiz13_4 hiz13_5 hiz13_6 hjz13 hP hD hS hl
              refine lv_iload hx₀ hb dX12_flies_116 (lv_at hl 0 rfl) ?_
              refine lv_aload_n hx₀ hb dX12_flies_118 rfl (lv_at hl 1 rfl) ?_
              refine va_get (D := (dC, dI)) (ci := 11) (v := .int mi) (C := RX12) (T := TX12) (N := 30) hx₀ hb hts inlX12 hown hK hP 7 rfl rfl 7 (by decide) (hts (.fieldLink RX12 107 "BittenStickModel" "miles" "I") wd_252) (fun _ h9 => h9) rfl dX12_flies_119 ?_
              refine lv_icmp_ge (tgt := 255) hx₀ hb dX12_flies_122 (by decide) (fun c_14 => ?_) (fun c_14 => ?_)
              · obtain ⟨hP9, hD9⟩ := k_c2 (wc := [(kX12 hm vFo vSi vIt vMo la vBy vTy mi vMi pn vPs gn vGs fn vFt le vTo knz13 fez13 enz13 ca anz13 coz13 vPr vSt vFn sn vSg vAl dr), (kAI vMi cI 24 qMi), (kAI vPs cI 32 qPs), (kAI vGs cI 16 qGs), (kAI vTo cI 96 qtz13), (kAI vPr cI 2 qpz13), (kAI vSt cI 2 qsz13), (kAI vFn cI 2 qfz13)]) hP hD [7, 0, 1, 2, 3, 4, 5, 6] (by decide +kernel) rfl
                exact W.vret hx₀ hb hr (fun t₀ ht hW => ⟨⟨(k_fn [knz13, fez13, enz13, anz13, coz13], k_fa [qtz13, qpz13, qsz13, qfz13], k_fl [], k_fL [], k_fp []), rfl, ⟨hiz13_3, hiz13_4, hiz13_5, hiz13_6⟩, by rw [ht]; exact hP9, va_K.moved hW.alike hK, hD9⟩, hS.F ht⟩) hS.2.2 dX12_flies_255
              · refine lv_aload_n hx₀ hb dX12_flies_125 rfl (lv_at hl 1 rfl) ?_
                refine va_get (D := (dC, dI)) (ci := 11) (v := .int enz13) (C := RX12) (T := TX12) (N := 30) hx₀ hb hts inlX12 hown hK hP 7 rfl rfl 19 (by decide) (hts (.fieldLink RX12 196 "BittenStickModel" "end" "I") wd_543) (fun _ h9 => h9) rfl dX12_flies_126 ?_
                refine lv_if_ne (tgt := 255) hx₀ hb dX12_flies_129 (by decide) (fun c_15 => ?_) (fun c_15 => ?_)
                · obtain ⟨hP9, hD9⟩ := k_c2 (wc := [(kX12 hm vFo vSi vIt vMo la vBy vTy mi vMi pn vPs gn vGs fn vFt le vTo knz13 fez13 enz13 ca anz13 coz13 vPr vSt vFn sn vSg vAl dr), (kAI vMi cI 24 qMi), (kAI vPs cI 32 qPs), (kAI vGs cI 16 qGs), (kAI vTo cI 96 qtz13), (kAI vPr cI 2 qpz13), (kAI vSt cI 2 qsz13), (kAI vFn cI 2 qfz13)]) hP hD [7, 0, 1, 2, 3, 4, 5, 6] (by decide +kernel) rfl
                  exact W.vret hx₀ hb hr (fun t₀ ht hW => ⟨⟨(k_fn [knz13, fez13, enz13, anz13, coz13], k_fa [qtz13, qpz13, qsz13, qfz13], k_fl [], k_fL [], k_fp []), rfl, ⟨hiz13_3, hiz13_4, hiz13_5, hiz13_6⟩, by rw [ht]; exact hP9, va_K.moved hW.alike hK, hD9⟩, hS.F ht⟩) hS.2.2 dX12_flies_255
                · refine lv_aload_n hx₀ hb dX12_flies_132 rfl (lv_at hl 1 rfl) ?_
                  refine lv_aload_n hx₀ hb dX12_flies_133 rfl (lv_at hl 1 rfl) ?_
                  refine lv_iload_n hx₀ hb dX12_flies_134 rfl (lv_at hl 2 rfl) ?_
                  refine lv_iload hx₀ hb dX12_flies_135 (lv_at hl 0 rfl) ?_
                  refine lv_iload hx₀ hb dX12_flies_137 (lv_at hl 0 rfl) ?_
                  refine lv_iload hx₀ hb dX12_flies_139 (lv_at hl 6 rfl) ?_
                  refine lv_icmp_ge (tgt := 149) hx₀ hb dX12_flies_141 (by decide) (fun c_16 => ?_) (fun c_16 => ?_)
                  · refine lv_iload hx₀ hb dX12_flies_149 (lv_at hl 7 rfl) ?_
                    obtain ⟨hPc, hDc, hFc, hC⟩ := k_cw (wc := [(kX12 hm vFo vSi vIt vMo la vBy vTy mi vMi pn vPs gn vGs fn vFt le vTo knz13 fez13 enz13 ca anz13 coz13 vPr vSt vFn sn vSg vAl dr), (kAI vMi cI 24 qMi), (kAI vPs cI 32 qPs), (kAI vGs cI 16 qGs), (kAI vPr cI 2 qpz13), (kAI vSt cI 2 qsz13), (kAI vFn cI 2 qfz13)]) hP hD hS hA [7, 0, 1, 2, 4, 5, 6] (by decide +kernel) rfl
                    refine va_calli (va_runV (As := [.int p1, .int mz13, .int th]) (rest := [.ref hm]) ⟨hx₀, hb, hml, hown, hts⟩ (g_goes l dC dI cI cJ cQ H.size hm p1 mz13 th vFo vSi vIt vMo la vBy vTy mi vMi pn vPs gn vGs fn vFt le vTo knz13 fez13 enz13 ca anz13 coz13 vPr vSt vFn sn vSg vAl dr qMi qPs qGs qpz13 qsz13 qfz13 (lf_g_flies_3 pn p1 hh1 c_2) (lf_g_flies_4 mi mz13 knz13 fez13 enz13 jz13 fr hh0 hiz13_0 hiz13_1 hiz13_2 hiz13_4 hiz13_5 hiz13_6 hjz13 c_14 c_15 c_16) (hiz13_3)) (cwV 3 hts (kGV wd_549 wd_546 wd_547 wd_548 wd_5) rfl rfl rfl (by decide +kernel) ⟨Nat.le_of_ble_eq_true rfl, Nat.le_of_ble_eq_true rfl⟩) (k_preV11 (q0 := 0) hK hPc hDc hN rfl) rfl rfl hl.1 rfl (lv_room (Nat.le_of_ble_eq_true rfl)) dX12_flies_151 ⟨by decide +kernel, by decide +kernel⟩) hS (fun q _ h => hFc q h) hFc (fun r_17 u₀ t₀ H1 locs ht hvm hw hB hz1 hk1 hS => ?_)
                    obtain ⟨g_18, ga_19, gl_20, gb_21, gp_22⟩ := u₀
                    obtain ⟨hP1, hK1, hD1⟩ := hB
                    rw [ht] at hP1
                    have hJ := k_jn (wr := [(kAI vTo cI 96 qtz13)]) (wt := [(kAI vTo cI 96 qtz13), (kX12 hm vFo vSi vIt vMo la vBy vTy mi vMi pn vPs gn vGs fn vFt le vTo knz13 fez13 enz13 ca (g_18 0) (g_18 1) vPr vSt vFn sn vSg vAl dr), (kAI vMi cI 24 qMi), (kAI vPs cI 32 qPs), (kAI vGs cI 16 qGs), (kAI vPr cI 2 (ga_19 0)), (kAI vSt cI 2 (ga_19 1)), (kAI vFn cI 2 (ga_19 2))]) hP hD hC [3] rfl (by decide +kernel) (by decide +kernel) hk1 hFc hP1 hD1 rfl
                    clear hP hD hPc hDc hFc hC hP1 hD1 hK1 hz1 hk1 hvm ht
                    obtain ⟨hP, hD⟩ := hJ
                    generalize H1 = H at hP hS ⊢
                    try dsimp only at hw
                    have c_23 := hw
                    refine va_put (D := (dC, dI)) (ci := 11) (v := .int r_17) (ty := .int) (C := RX12) (T := TX12) (N := 30) hx₀ hb hts inlX12 tyX12 tyX12_ok nmX12 hown hK hP hD hS 1 rfl rfl 19 (by decide) (hts (.fieldLink RX12 196 "BittenStickModel" "end" "I") wd_543) (fun _ h9 => h9) rfl (by decide +kernel) rfl rfl (Nat.le_of_ble_eq_true rfl) dX12_flies_154 ?_
                    clear hP hD hS
                    intro H locs hP hD hS
                    replace hP := k_w2 (wt := [(kAI vTo cI 96 qtz13), (kX12 hm vFo vSi vIt vMo la vBy vTy mi vMi pn vPs gn vGs fn vFt le vTo knz13 fez13 r_17 ca (g_18 0) (g_18 1) vPr vSt vFn sn vSg vAl dr), (kAI vMi cI 24 qMi), (kAI vPs cI 32 qPs), (kAI vGs cI 16 qGs), (kAI vPr cI 2 (ga_19 0)), (kAI vSt cI 2 (ga_19 1)), (kAI vFn cI 2 (ga_19 2))]) hP hD rfl
                    replace hD := hP.2
                    replace hP := hP.1
                    refine lv_aload_n hx₀ hb dX12_flies_157 rfl (lv_at hl 1 rfl) ?_
                    refine va_get (D := (dC, dI)) (ci := 11) (v := .ref vTo) (C := RX12) (T := TX12) (N := 30) hx₀ hb hts inlX12 hown hK hP 1 rfl rfl 16 (by decide) (hts (.fieldLink RX12 40 "BittenStickModel" "told" "[I") wd_125) (fun _ h9 => h9) rfl dX12_flies_158 ?_
                    refine lv_iconst (v := 4) hx₀ hb dX12_flies_161 (by decide +kernel) ?_
                    refine lv_iload hx₀ hb dX12_flies_162 (lv_at hl 0 rfl) ?_
                    refine lv_imul hx₀ hb dX12_flies_164 ?_
                    refine lv_aload_n hx₀ hb dX12_flies_165 rfl (lv_at hl 1 rfl) ?_
                    refine va_get (D := (dC, dI)) (ci := 11) (v := .int (g_18 0)) (C := RX12) (T := TX12) (N := 30) hx₀ hb hts inlX12 hown hK hP 1 rfl rfl 21 (by decide) (hts (.fieldLink RX12 184 "BittenStickModel" "anger" "I") wd_544) (fun _ h9 => h9) rfl dX12_flies_166 ?_
                    refine va_iast hx₀ hb hK hP hD hS 0 0 rfl rfl (vp_in_iff.mpr (lf_g_flies_5 mi mz13 knz13 fez13 enz13 jz13 fr hh0 hiz13_0 hiz13_1 hiz13_2 hiz13_4 hiz13_5 hiz13_6 hjz13 c_14 c_15 c_16)) dX12_flies_169 ?_
                    clear hP hD hS
                    intro H locs hP hD hS
                    obtain ⟨f_24, hf_24⟩ : ∃ z : Nat → Int32, z = upd qtz13 (4 * mz13).toNatClampNeg (g_18 0) := ⟨_, rfl⟩
                    replace hP : va_P (dC, dI) vwCl [(kAI vTo cI 96 f_24), (kX12 hm vFo vSi vIt vMo la vBy vTy mi vMi pn vPs gn vGs fn vFt le vTo knz13 fez13 r_17 ca (g_18 0) (g_18 1) vPr vSt vFn sn vSg vAl dr), (kAI vMi cI 24 qMi), (kAI vPs cI 32 qPs), (kAI vGs cI 16 qGs), (kAI vPr cI 2 (ga_19 0)), (kAI vSt cI 2 (ga_19 1)), (kAI vFn cI 2 (ga_19 2))] H := by rw [hf_24]; exact hP
                    replace hD : va_D A [(kAI vTo cI 96 f_24), (kX12 hm vFo vSi vIt vMo la vBy vTy mi vMi pn vPs gn vGs fn vFt le vTo knz13 fez13 r_17 ca (g_18 0) (g_18 1) vPr vSt vFn sn vSg vAl dr), (kAI vMi cI 24 qMi), (kAI vPs cI 32 qPs), (kAI vGs cI 16 qGs), (kAI vPr cI 2 (ga_19 0)), (kAI vSt cI 2 (ga_19 1)), (kAI vFn cI 2 (ga_19 2))] := by rw [hf_24]; exact hD
                    clear hf_24
                    refine lv_aload_n hx₀ hb dX12_flies_170 rfl (lv_at hl 1 rfl) ?_
                    refine va_get (D := (dC, dI)) (ci := 11) (v := .ref vTo) (C := RX12) (T := TX12) (N := 30) hx₀ hb hts inlX12 hown hK hP 1 rfl rfl 16 (by decide) (hts (.fieldLink RX12 40 "BittenStickModel" "told" "[I") wd_125) (fun _ h9 => h9) rfl dX12_flies_171 ?_
                    refine lv_iconst (v := 4) hx₀ hb dX12_flies_174 (by decide +kernel) ?_
                    refine lv_iload hx₀ hb dX12_flies_175 (lv_at hl 0 rfl) ?_
                    refine lv_imul hx₀ hb dX12_flies_177 ?_
                    refine lv_iconst (v := 1) hx₀ hb dX12_flies_178 (by decide +kernel) ?_
                    refine lv_iadd hx₀ hb dX12_flies_179 ?_
                    refine lv_aload_n hx₀ hb dX12_flies_180 rfl (lv_at hl 1 rfl) ?_
                    refine va_get (D := (dC, dI)) (ci := 11) (v := .int (g_18 1)) (C := RX12) (T := TX12) (N := 30) hx₀ hb hts inlX12 hown hK hP 1 rfl rfl 22 (by decide) (hts (.fieldLink RX12 177 "BittenStickModel" "cold" "I") wd_545) (fun _ h9 => h9) rfl dX12_flies_181 ?_
                    refine va_iast hx₀ hb hK hP hD hS 0 0 rfl rfl (vp_in_iff.mpr (lf_g_flies_6 mi mz13 knz13 fez13 enz13 jz13 fr hh0 hiz13_0 hiz13_1 hiz13_2 hiz13_4 hiz13_5 hiz13_6 hjz13 c_14 c_15 c_16)) dX12_flies_184 ?_
                    clear hP hD hS
                    intro H locs hP hD hS
                    obtain ⟨f_25, hf_25⟩ : ∃ z : Nat → Int32, z = upd f_24 ((4 * mz13) + 1).toNatClampNeg (g_18 1) := ⟨_, rfl⟩
                    replace hP : va_P (dC, dI) vwCl [(kAI vTo cI 96 f_25), (kX12 hm vFo vSi vIt vMo la vBy vTy mi vMi pn vPs gn vGs fn vFt le vTo knz13 fez13 r_17 ca (g_18 0) (g_18 1) vPr vSt vFn sn vSg vAl dr), (kAI vMi cI 24 qMi), (kAI vPs cI 32 qPs), (kAI vGs cI 16 qGs), (kAI vPr cI 2 (ga_19 0)), (kAI vSt cI 2 (ga_19 1)), (kAI vFn cI 2 (ga_19 2))] H := by rw [hf_25]; exact hP
                    replace hD : va_D A [(kAI vTo cI 96 f_25), (kX12 hm vFo vSi vIt vMo la vBy vTy mi vMi pn vPs gn vGs fn vFt le vTo knz13 fez13 r_17 ca (g_18 0) (g_18 1) vPr vSt vFn sn vSg vAl dr), (kAI vMi cI 24 qMi), (kAI vPs cI 32 qPs), (kAI vGs cI 16 qGs), (kAI vPr cI 2 (ga_19 0)), (kAI vSt cI 2 (ga_19 1)), (kAI vFn cI 2 (ga_19 2))] := by rw [hf_25]; exact hD
                    clear hf_25
                    refine lv_aload_n hx₀ hb dX12_flies_185 rfl (lv_at hl 1 rfl) ?_
                    refine va_get (D := (dC, dI)) (ci := 11) (v := .ref vTo) (C := RX12) (T := TX12) (N := 30) hx₀ hb hts inlX12 hown hK hP 1 rfl rfl 16 (by decide) (hts (.fieldLink RX12 40 "BittenStickModel" "told" "[I") wd_125) (fun _ h9 => h9) rfl dX12_flies_186 ?_
                    refine lv_iconst (v := 4) hx₀ hb dX12_flies_189 (by decide +kernel) ?_
                    refine lv_iload hx₀ hb dX12_flies_190 (lv_at hl 0 rfl) ?_
                    refine lv_imul hx₀ hb dX12_flies_192 ?_
                    refine lv_iconst (v := 2) hx₀ hb dX12_flies_193 (by decide +kernel) ?_
                    refine lv_iadd hx₀ hb dX12_flies_194 ?_
                    refine lv_aload_n hx₀ hb dX12_flies_195 rfl (lv_at hl 1 rfl) ?_
                    refine va_get (D := (dC, dI)) (ci := 11) (v := .ref vSt) (C := RX12) (T := TX12) (N := 30) hx₀ hb hts inlX12 hown hK hP 1 rfl rfl 24 (by decide) (hts (.fieldLink RX12 46 "BittenStickModel" "strong" "[I") wd_127) (fun _ h9 => h9) rfl dX12_flies_196 ?_
                    refine lv_iconst (v := 0) hx₀ hb dX12_flies_199 (by decide +kernel) ?_
                    refine va_iald hx₀ hb hK hP 6 0 rfl rfl (by unfold vp_in; decide +kernel) dX12_flies_200 ?_
                    refine lv_topi (fun y_26 ey_26 => ?_)
                    refine va_iast hx₀ hb hK hP hD hS 0 0 rfl rfl (vp_in_iff.mpr (lf_g_flies_7 mi mz13 knz13 fez13 enz13 jz13 fr hh0 hiz13_0 hiz13_1 hiz13_2 hiz13_4 hiz13_5 hiz13_6 hjz13 c_14 c_15 c_16)) dX12_flies_201 ?_
                    clear hP hD hS
                    intro H locs hP hD hS
                    obtain ⟨f_27, hf_27⟩ : ∃ z : Nat → Int32, z = upd f_25 ((4 * mz13) + 2).toNatClampNeg y_26 := ⟨_, rfl⟩
                    replace hP : va_P (dC, dI) vwCl [(kAI vTo cI 96 f_27), (kX12 hm vFo vSi vIt vMo la vBy vTy mi vMi pn vPs gn vGs fn vFt le vTo knz13 fez13 r_17 ca (g_18 0) (g_18 1) vPr vSt vFn sn vSg vAl dr), (kAI vMi cI 24 qMi), (kAI vPs cI 32 qPs), (kAI vGs cI 16 qGs), (kAI vPr cI 2 (ga_19 0)), (kAI vSt cI 2 (ga_19 1)), (kAI vFn cI 2 (ga_19 2))] H := by rw [hf_27]; exact hP
                    replace hD : va_D A [(kAI vTo cI 96 f_27), (kX12 hm vFo vSi vIt vMo la vBy vTy mi vMi pn vPs gn vGs fn vFt le vTo knz13 fez13 r_17 ca (g_18 0) (g_18 1) vPr vSt vFn sn vSg vAl dr), (kAI vMi cI 24 qMi), (kAI vPs cI 32 qPs), (kAI vGs cI 16 qGs), (kAI vPr cI 2 (ga_19 0)), (kAI vSt cI 2 (ga_19 1)), (kAI vFn cI 2 (ga_19 2))] := by rw [hf_27]; exact hD
                    clear hf_27
                    refine lv_aload_n hx₀ hb dX12_flies_202 rfl (lv_at hl 1 rfl) ?_
                    refine va_get (D := (dC, dI)) (ci := 11) (v := .ref vTo) (C := RX12) (T := TX12) (N := 30) hx₀ hb hts inlX12 hown hK hP 1 rfl rfl 16 (by decide) (hts (.fieldLink RX12 40 "BittenStickModel" "told" "[I") wd_125) (fun _ h9 => h9) rfl dX12_flies_203 ?_
                    refine lv_iconst (v := 4) hx₀ hb dX12_flies_206 (by decide +kernel) ?_
                    refine lv_iload hx₀ hb dX12_flies_207 (lv_at hl 0 rfl) ?_
                    refine lv_imul hx₀ hb dX12_flies_209 ?_
                    refine lv_iconst (v := 3) hx₀ hb dX12_flies_210 (by decide +kernel) ?_
                    refine lv_iadd hx₀ hb dX12_flies_211 ?_
                    refine lv_aload_n hx₀ hb dX12_flies_212 rfl (lv_at hl 1 rfl) ?_
                    refine va_get (D := (dC, dI)) (ci := 11) (v := .ref vSt) (C := RX12) (T := TX12) (N := 30) hx₀ hb hts inlX12 hown hK hP 1 rfl rfl 24 (by decide) (hts (.fieldLink RX12 46 "BittenStickModel" "strong" "[I") wd_127) (fun _ h9 => h9) rfl dX12_flies_213 ?_
                    refine lv_iconst (v := 1) hx₀ hb dX12_flies_216 (by decide +kernel) ?_
                    refine va_iald hx₀ hb hK hP 6 0 rfl rfl (by unfold vp_in; decide +kernel) dX12_flies_217 ?_
                    refine lv_topi (fun y_28 ey_28 => ?_)
                    refine va_iast hx₀ hb hK hP hD hS 0 0 rfl rfl (vp_in_iff.mpr (lf_g_flies_8 mi mz13 knz13 fez13 enz13 jz13 fr hh0 hiz13_0 hiz13_1 hiz13_2 hiz13_4 hiz13_5 hiz13_6 hjz13 c_14 c_15 c_16)) dX12_flies_218 ?_
                    clear hP hD hS
                    intro H locs hP hD hS
                    obtain ⟨f_29, hf_29⟩ : ∃ z : Nat → Int32, z = upd f_27 ((4 * mz13) + 3).toNatClampNeg y_28 := ⟨_, rfl⟩
                    replace hP : va_P (dC, dI) vwCl [(kAI vTo cI 96 f_29), (kX12 hm vFo vSi vIt vMo la vBy vTy mi vMi pn vPs gn vGs fn vFt le vTo knz13 fez13 r_17 ca (g_18 0) (g_18 1) vPr vSt vFn sn vSg vAl dr), (kAI vMi cI 24 qMi), (kAI vPs cI 32 qPs), (kAI vGs cI 16 qGs), (kAI vPr cI 2 (ga_19 0)), (kAI vSt cI 2 (ga_19 1)), (kAI vFn cI 2 (ga_19 2))] H := by rw [hf_29]; exact hP
                    replace hD : va_D A [(kAI vTo cI 96 f_29), (kX12 hm vFo vSi vIt vMo la vBy vTy mi vMi pn vPs gn vGs fn vFt le vTo knz13 fez13 r_17 ca (g_18 0) (g_18 1) vPr vSt vFn sn vSg vAl dr), (kAI vMi cI 24 qMi), (kAI vPs cI 32 qPs), (kAI vGs cI 16 qGs), (kAI vPr cI 2 (ga_19 0)), (kAI vSt cI 2 (ga_19 1)), (kAI vFn cI 2 (ga_19 2))] := by rw [hf_29]; exact hD
                    clear hf_29
                    refine lv_aload_n hx₀ hb dX12_flies_219 rfl (lv_at hl 1 rfl) ?_
                    refine lv_dup hx₀ hb dX12_flies_220 rfl ?_
                    refine va_get (D := (dC, dI)) (ci := 11) (v := .int knz13) (C := RX12) (T := TX12) (N := 30) hx₀ hb hts inlX12 hown hK hP 1 rfl rfl 17 (by decide) (hts (.fieldLink RX12 190 "BittenStickModel" "known" "I") wd_541) (fun _ h9 => h9) rfl dX12_flies_221 ?_
                    refine lv_iconst (v := 1) hx₀ hb dX12_flies_224 (by decide +kernel) ?_
                    refine lv_iadd hx₀ hb dX12_flies_225 ?_
                    refine va_put (D := (dC, dI)) (ci := 11) (v := .int (knz13 + 1)) (ty := .int) (C := RX12) (T := TX12) (N := 30) hx₀ hb hts inlX12 tyX12 tyX12_ok nmX12 hown hK hP hD hS 1 rfl rfl 17 (by decide) (hts (.fieldLink RX12 190 "BittenStickModel" "known" "I") wd_541) (fun _ h9 => h9) rfl (by decide +kernel) rfl rfl (Nat.le_of_ble_eq_true rfl) dX12_flies_226 ?_
                    clear hP hD hS
                    intro H locs hP hD hS
                    replace hP := k_w2 (wt := [(kAI vTo cI 96 f_29), (kX12 hm vFo vSi vIt vMo la vBy vTy mi vMi pn vPs gn vGs fn vFt le vTo (knz13 + 1) fez13 r_17 ca (g_18 0) (g_18 1) vPr vSt vFn sn vSg vAl dr), (kAI vMi cI 24 qMi), (kAI vPs cI 32 qPs), (kAI vGs cI 16 qGs), (kAI vPr cI 2 (ga_19 0)), (kAI vSt cI 2 (ga_19 1)), (kAI vFn cI 2 (ga_19 2))]) hP hD rfl
                    replace hD := hP.2
                    replace hP := hP.1
                    refine lv_aload_n hx₀ hb dX12_flies_229 rfl (lv_at hl 1 rfl) ?_
                    refine lv_aload_n hx₀ hb dX12_flies_230 rfl (lv_at hl 1 rfl) ?_
                    refine va_get (D := (dC, dI)) (ci := 11) (v := .int r_17) (C := RX12) (T := TX12) (N := 30) hx₀ hb hts inlX12 hown hK hP 1 rfl rfl 19 (by decide) (hts (.fieldLink RX12 196 "BittenStickModel" "end" "I") wd_543) (fun _ h9 => h9) rfl dX12_flies_231 ?_
                    refine lv_if_ne (tgt := 244) hx₀ hb dX12_flies_234 (by decide) (fun c_30 => ?_) (fun c_30 => ?_)
                    · refine lv_iload hx₀ hb dX12_flies_244 (lv_at hl 0 rfl) ?_
                      refine va_put (D := (dC, dI)) (ci := 11) (v := .int mz13) (ty := .int) (C := RX12) (T := TX12) (N := 30) hx₀ hb hts inlX12 tyX12 tyX12_ok nmX12 hown hK hP hD hS 1 rfl rfl 18 (by decide) (hts (.fieldLink RX12 193 "BittenStickModel" "fell" "I") wd_542) (fun _ h9 => h9) rfl (by decide +kernel) rfl rfl (Nat.le_of_ble_eq_true rfl) dX12_flies_246 ?_
                      clear hP hD hS
                      intro H locs hP hD hS
                      replace hP := k_w2 (wt := [(kAI vTo cI 96 f_29), (kX12 hm vFo vSi vIt vMo la vBy vTy mi vMi pn vPs gn vGs fn vFt le vTo (knz13 + 1) mz13 r_17 ca (g_18 0) (g_18 1) vPr vSt vFn sn vSg vAl dr), (kAI vMi cI 24 qMi), (kAI vPs cI 32 qPs), (kAI vGs cI 16 qGs), (kAI vPr cI 2 (ga_19 0)), (kAI vSt cI 2 (ga_19 1)), (kAI vFn cI 2 (ga_19 2))]) hP hD rfl
                      replace hD := hP.2
                      replace hP := hP.1
                      refine lv_iinc (v := mz13 + 1) (lv' := [(7, .int (mz13 + 1)), (0, .ref hm), (1, .int p1), (2, .int le1), (3, .int ri1), (4, .int h1), (5, .int fr), (6, .int th)]) hx₀ hb dX12_flies_249 hl (k := 0) rfl rfl (by decide) rfl (fun ls hl => ?_)
                      refine lv_goto (tgt := 116) hx₀ hb dX12_flies_252 (by decide) ?_
                      exact ihz13 _ (lf_g_flies_15 mi mz13 knz13 fez13 enz13 jz13 fr hh0 hiz13_0 hiz13_1 hiz13_2 hiz13_4 hiz13_5 hiz13_6 hjz13 c_14 c_15 c_16) (mz13 + 1) (knz13 + 1) mz13 r_17 (g_18 0) (g_18 1) f_29 (ga_19 0) (ga_19 1) (ga_19 2) _ _ _ (lf_g_flies_9 mi mz13 knz13 fez13 enz13 jz13 fr hh0 hiz13_0 hiz13_1 hiz13_2 hiz13_4 hiz13_5 hiz13_6 hjz13 c_14 c_15 c_16) (lf_g_flies_10 mi mz13 knz13 fez13 enz13 jz13 fr hh0 hiz13_0 hiz13_1 hiz13_2 hiz13_4 hiz13_5 hiz13_6 hjz13 c_14 c_15 c_16) (lf_g_flies_11 mi mz13 knz13 fez13 enz13 jz13 fr hh0 hiz13_0 hiz13_1 hiz13_2 hiz13_4 hiz13_5 hiz13_6 hjz13 c_14 c_15 c_16) (c_23) (lf_g_flies_12 mi mz13 knz13 fez13 enz13 jz13 fr hh0 hiz13_0 hiz13_1 hiz13_2 hiz13_4 hiz13_5 hiz13_6 hjz13 c_14 c_15 c_16) (lf_g_flies_13 mi mz13 knz13 fez13 enz13 jz13 fr r_17 hh0 hiz13_0 hiz13_1 hiz13_2 hiz13_4 hiz13_5 hiz13_6 hjz13 c_14 c_15 c_16 c_30) (lf_g_flies_14 mi mz13 knz13 fez13 enz13 jz13 fr hh0 hiz13_0 hiz13_1 hiz13_2 hiz13_4 hiz13_5 hiz13_6 hjz13 c_14 c_15 c_16) rfl (hP.sub [2, 3, 4, 0, 5, 6, 7, 1] rfl) (hD.sub [2, 3, 4, 0, 5, 6, 7, 1] (by decide +kernel) rfl) hS (lv_sub hl [0, 1, 2, 3, 4, 5, 6, 7] rfl)
                    · refine lv_iload hx₀ hb dX12_flies_237 (lv_at hl 0 rfl) ?_
                      refine lv_iconst (v := 1) hx₀ hb dX12_flies_239 (by decide +kernel) ?_
                      refine lv_iadd hx₀ hb dX12_flies_240 ?_
                      refine lv_goto (tgt := 246) hx₀ hb dX12_flies_241 (by decide) ?_
                      refine va_put (D := (dC, dI)) (ci := 11) (v := .int (mz13 + 1)) (ty := .int) (C := RX12) (T := TX12) (N := 30) hx₀ hb hts inlX12 tyX12 tyX12_ok nmX12 hown hK hP hD hS 1 rfl rfl 18 (by decide) (hts (.fieldLink RX12 193 "BittenStickModel" "fell" "I") wd_542) (fun _ h9 => h9) rfl (by decide +kernel) rfl rfl (Nat.le_of_ble_eq_true rfl) dX12_flies_246 ?_
                      clear hP hD hS
                      intro H locs hP hD hS
                      replace hP := k_w2 (wt := [(kAI vTo cI 96 f_29), (kX12 hm vFo vSi vIt vMo la vBy vTy mi vMi pn vPs gn vGs fn vFt le vTo (knz13 + 1) (mz13 + 1) r_17 ca (g_18 0) (g_18 1) vPr vSt vFn sn vSg vAl dr), (kAI vMi cI 24 qMi), (kAI vPs cI 32 qPs), (kAI vGs cI 16 qGs), (kAI vPr cI 2 (ga_19 0)), (kAI vSt cI 2 (ga_19 1)), (kAI vFn cI 2 (ga_19 2))]) hP hD rfl
                      replace hD := hP.2
                      replace hP := hP.1
                      refine lv_iinc (v := mz13 + 1) (lv' := [(7, .int (mz13 + 1)), (0, .ref hm), (1, .int p1), (2, .int le1), (3, .int ri1), (4, .int h1), (5, .int fr), (6, .int th)]) hx₀ hb dX12_flies_249 hl (k := 0) rfl rfl (by decide) rfl (fun ls hl => ?_)
                      refine lv_goto (tgt := 116) hx₀ hb dX12_flies_252 (by decide) ?_
                      exact ihz13 _ (lf_g_flies_15 mi mz13 knz13 fez13 enz13 jz13 fr hh0 hiz13_0 hiz13_1 hiz13_2 hiz13_4 hiz13_5 hiz13_6 hjz13 c_14 c_15 c_16) (mz13 + 1) (knz13 + 1) (mz13 + 1) r_17 (g_18 0) (g_18 1) f_29 (ga_19 0) (ga_19 1) (ga_19 2) _ _ _ (lf_g_flies_9 mi mz13 knz13 fez13 enz13 jz13 fr hh0 hiz13_0 hiz13_1 hiz13_2 hiz13_4 hiz13_5 hiz13_6 hjz13 c_14 c_15 c_16) (lf_g_flies_10 mi mz13 knz13 fez13 enz13 jz13 fr hh0 hiz13_0 hiz13_1 hiz13_2 hiz13_4 hiz13_5 hiz13_6 hjz13 c_14 c_15 c_16) (lf_g_flies_16 mi mz13 knz13 fez13 enz13 jz13 fr hh0 hiz13_0 hiz13_1 hiz13_2 hiz13_4 hiz13_5 hiz13_6 hjz13 c_14 c_15 c_16) (c_23) (lf_g_flies_17 mi mz13 knz13 fez13 enz13 jz13 fr hh0 hiz13_0 hiz13_1 hiz13_2 hiz13_4 hiz13_5 hiz13_6 hjz13 c_14 c_15 c_16) (show r_17 = 0 ∨ (knz13 + 1) = 0 ∨ (mz13 + 1) ≤ 23 from (Or.inl (c_30))) (lf_g_flies_14 mi mz13 knz13 fez13 enz13 jz13 fr hh0 hiz13_0 hiz13_1 hiz13_2 hiz13_4 hiz13_5 hiz13_6 hjz13 c_14 c_15 c_16) rfl (hP.sub [2, 3, 4, 0, 5, 6, 7, 1] rfl) (hD.sub [2, 3, 4, 0, 5, 6, 7, 1] (by decide +kernel) rfl) hS (lv_sub hl [0, 1, 2, 3, 4, 5, 6, 7] rfl)
                  · refine lv_iload hx₀ hb dX12_flies_144 (lv_at hl 5 rfl) ?_
                    refine lv_goto (tgt := 151) hx₀ hb dX12_flies_146 (by decide) ?_
                    obtain ⟨hPc, hDc, hFc, hC⟩ := k_cw (wc := [(kX12 hm vFo vSi vIt vMo la vBy vTy mi vMi pn vPs gn vGs fn vFt le vTo knz13 fez13 enz13 ca anz13 coz13 vPr vSt vFn sn vSg vAl dr), (kAI vMi cI 24 qMi), (kAI vPs cI 32 qPs), (kAI vGs cI 16 qGs), (kAI vPr cI 2 qpz13), (kAI vSt cI 2 qsz13), (kAI vFn cI 2 qfz13)]) hP hD hS hA [7, 0, 1, 2, 4, 5, 6] (by decide +kernel) rfl
                    refine va_calli (va_runV (As := [.int p1, .int mz13, .int h1]) (rest := [.ref hm]) ⟨hx₀, hb, hml, hown, hts⟩ (g_goes l dC dI cI cJ cQ H.size hm p1 mz13 h1 vFo vSi vIt vMo la vBy vTy mi vMi pn vPs gn vGs fn vFt le vTo knz13 fez13 enz13 ca anz13 coz13 vPr vSt vFn sn vSg vAl dr qMi qPs qGs qpz13 qsz13 qfz13 (lf_g_flies_3 pn p1 hh1 c_2) (lf_g_flies_18 mi mz13 knz13 fez13 enz13 jz13 fr hh0 hiz13_0 hiz13_1 hiz13_2 hiz13_4 hiz13_5 hiz13_6 hjz13 c_14 c_15 c_16) (hiz13_3)) (cwV 3 hts (kGV wd_549 wd_546 wd_547 wd_548 wd_5) rfl rfl rfl (by decide +kernel) ⟨Nat.le_of_ble_eq_true rfl, Nat.le_of_ble_eq_true rfl⟩) (k_preV11 (q0 := 0) hK hPc hDc hN rfl) rfl rfl hl.1 rfl (lv_room (Nat.le_of_ble_eq_true rfl)) dX12_flies_151 ⟨by decide +kernel, by decide +kernel⟩) hS (fun q _ h => hFc q h) hFc (fun r_31 u₀ t₀ H1 locs ht hvm hw hB hz1 hk1 hS => ?_)
                    obtain ⟨g_32, ga_33, gl_34, gb_35, gp_36⟩ := u₀
                    obtain ⟨hP1, hK1, hD1⟩ := hB
                    rw [ht] at hP1
                    have hJ := k_jn (wr := [(kAI vTo cI 96 qtz13)]) (wt := [(kAI vTo cI 96 qtz13), (kX12 hm vFo vSi vIt vMo la vBy vTy mi vMi pn vPs gn vGs fn vFt le vTo knz13 fez13 enz13 ca (g_32 0) (g_32 1) vPr vSt vFn sn vSg vAl dr), (kAI vMi cI 24 qMi), (kAI vPs cI 32 qPs), (kAI vGs cI 16 qGs), (kAI vPr cI 2 (ga_33 0)), (kAI vSt cI 2 (ga_33 1)), (kAI vFn cI 2 (ga_33 2))]) hP hD hC [3] rfl (by decide +kernel) (by decide +kernel) hk1 hFc hP1 hD1 rfl
                    clear hP hD hPc hDc hFc hC hP1 hD1 hK1 hz1 hk1 hvm ht
                    obtain ⟨hP, hD⟩ := hJ
                    generalize H1 = H at hP hS ⊢
                    try dsimp only at hw
                    have c_37 := hw
                    refine va_put (D := (dC, dI)) (ci := 11) (v := .int r_31) (ty := .int) (C := RX12) (T := TX12) (N := 30) hx₀ hb hts inlX12 tyX12 tyX12_ok nmX12 hown hK hP hD hS 1 rfl rfl 19 (by decide) (hts (.fieldLink RX12 196 "BittenStickModel" "end" "I") wd_543) (fun _ h9 => h9) rfl (by decide +kernel) rfl rfl (Nat.le_of_ble_eq_true rfl) dX12_flies_154 ?_
                    clear hP hD hS
                    intro H locs hP hD hS
                    replace hP := k_w2 (wt := [(kAI vTo cI 96 qtz13), (kX12 hm vFo vSi vIt vMo la vBy vTy mi vMi pn vPs gn vGs fn vFt le vTo knz13 fez13 r_31 ca (g_32 0) (g_32 1) vPr vSt vFn sn vSg vAl dr), (kAI vMi cI 24 qMi), (kAI vPs cI 32 qPs), (kAI vGs cI 16 qGs), (kAI vPr cI 2 (ga_33 0)), (kAI vSt cI 2 (ga_33 1)), (kAI vFn cI 2 (ga_33 2))]) hP hD rfl
                    replace hD := hP.2
                    replace hP := hP.1
                    refine lv_aload_n hx₀ hb dX12_flies_157 rfl (lv_at hl 1 rfl) ?_
                    refine va_get (D := (dC, dI)) (ci := 11) (v := .ref vTo) (C := RX12) (T := TX12) (N := 30) hx₀ hb hts inlX12 hown hK hP 1 rfl rfl 16 (by decide) (hts (.fieldLink RX12 40 "BittenStickModel" "told" "[I") wd_125) (fun _ h9 => h9) rfl dX12_flies_158 ?_
                    refine lv_iconst (v := 4) hx₀ hb dX12_flies_161 (by decide +kernel) ?_
                    refine lv_iload hx₀ hb dX12_flies_162 (lv_at hl 0 rfl) ?_
                    refine lv_imul hx₀ hb dX12_flies_164 ?_
                    refine lv_aload_n hx₀ hb dX12_flies_165 rfl (lv_at hl 1 rfl) ?_
                    refine va_get (D := (dC, dI)) (ci := 11) (v := .int (g_32 0)) (C := RX12) (T := TX12) (N := 30) hx₀ hb hts inlX12 hown hK hP 1 rfl rfl 21 (by decide) (hts (.fieldLink RX12 184 "BittenStickModel" "anger" "I") wd_544) (fun _ h9 => h9) rfl dX12_flies_166 ?_
                    refine va_iast hx₀ hb hK hP hD hS 0 0 rfl rfl (vp_in_iff.mpr (lf_g_flies_19 mi mz13 knz13 fez13 enz13 jz13 fr hh0 hiz13_0 hiz13_1 hiz13_2 hiz13_4 hiz13_5 hiz13_6 hjz13 c_14 c_15 c_16)) dX12_flies_169 ?_
                    clear hP hD hS
                    intro H locs hP hD hS
                    obtain ⟨f_38, hf_38⟩ : ∃ z : Nat → Int32, z = upd qtz13 (4 * mz13).toNatClampNeg (g_32 0) := ⟨_, rfl⟩
                    replace hP : va_P (dC, dI) vwCl [(kAI vTo cI 96 f_38), (kX12 hm vFo vSi vIt vMo la vBy vTy mi vMi pn vPs gn vGs fn vFt le vTo knz13 fez13 r_31 ca (g_32 0) (g_32 1) vPr vSt vFn sn vSg vAl dr), (kAI vMi cI 24 qMi), (kAI vPs cI 32 qPs), (kAI vGs cI 16 qGs), (kAI vPr cI 2 (ga_33 0)), (kAI vSt cI 2 (ga_33 1)), (kAI vFn cI 2 (ga_33 2))] H := by rw [hf_38]; exact hP
                    replace hD : va_D A [(kAI vTo cI 96 f_38), (kX12 hm vFo vSi vIt vMo la vBy vTy mi vMi pn vPs gn vGs fn vFt le vTo knz13 fez13 r_31 ca (g_32 0) (g_32 1) vPr vSt vFn sn vSg vAl dr), (kAI vMi cI 24 qMi), (kAI vPs cI 32 qPs), (kAI vGs cI 16 qGs), (kAI vPr cI 2 (ga_33 0)), (kAI vSt cI 2 (ga_33 1)), (kAI vFn cI 2 (ga_33 2))] := by rw [hf_38]; exact hD
                    clear hf_38
                    refine lv_aload_n hx₀ hb dX12_flies_170 rfl (lv_at hl 1 rfl) ?_
                    refine va_get (D := (dC, dI)) (ci := 11) (v := .ref vTo) (C := RX12) (T := TX12) (N := 30) hx₀ hb hts inlX12 hown hK hP 1 rfl rfl 16 (by decide) (hts (.fieldLink RX12 40 "BittenStickModel" "told" "[I") wd_125) (fun _ h9 => h9) rfl dX12_flies_171 ?_
                    refine lv_iconst (v := 4) hx₀ hb dX12_flies_174 (by decide +kernel) ?_
                    refine lv_iload hx₀ hb dX12_flies_175 (lv_at hl 0 rfl) ?_
                    refine lv_imul hx₀ hb dX12_flies_177 ?_
                    refine lv_iconst (v := 1) hx₀ hb dX12_flies_178 (by decide +kernel) ?_
                    refine lv_iadd hx₀ hb dX12_flies_179 ?_
                    refine lv_aload_n hx₀ hb dX12_flies_180 rfl (lv_at hl 1 rfl) ?_
                    refine va_get (D := (dC, dI)) (ci := 11) (v := .int (g_32 1)) (C := RX12) (T := TX12) (N := 30) hx₀ hb hts inlX12 hown hK hP 1 rfl rfl 22 (by decide) (hts (.fieldLink RX12 177 "BittenStickModel" "cold" "I") wd_545) (fun _ h9 => h9) rfl dX12_flies_181 ?_
                    refine va_iast hx₀ hb hK hP hD hS 0 0 rfl rfl (vp_in_iff.mpr (lf_g_flies_20 mi mz13 knz13 fez13 enz13 jz13 fr hh0 hiz13_0 hiz13_1 hiz13_2 hiz13_4 hiz13_5 hiz13_6 hjz13 c_14 c_15 c_16)) dX12_flies_184 ?_
                    clear hP hD hS
                    intro H locs hP hD hS
                    obtain ⟨f_39, hf_39⟩ : ∃ z : Nat → Int32, z = upd f_38 ((4 * mz13) + 1).toNatClampNeg (g_32 1) := ⟨_, rfl⟩
                    replace hP : va_P (dC, dI) vwCl [(kAI vTo cI 96 f_39), (kX12 hm vFo vSi vIt vMo la vBy vTy mi vMi pn vPs gn vGs fn vFt le vTo knz13 fez13 r_31 ca (g_32 0) (g_32 1) vPr vSt vFn sn vSg vAl dr), (kAI vMi cI 24 qMi), (kAI vPs cI 32 qPs), (kAI vGs cI 16 qGs), (kAI vPr cI 2 (ga_33 0)), (kAI vSt cI 2 (ga_33 1)), (kAI vFn cI 2 (ga_33 2))] H := by rw [hf_39]; exact hP
                    replace hD : va_D A [(kAI vTo cI 96 f_39), (kX12 hm vFo vSi vIt vMo la vBy vTy mi vMi pn vPs gn vGs fn vFt le vTo knz13 fez13 r_31 ca (g_32 0) (g_32 1) vPr vSt vFn sn vSg vAl dr), (kAI vMi cI 24 qMi), (kAI vPs cI 32 qPs), (kAI vGs cI 16 qGs), (kAI vPr cI 2 (ga_33 0)), (kAI vSt cI 2 (ga_33 1)), (kAI vFn cI 2 (ga_33 2))] := by rw [hf_39]; exact hD
                    clear hf_39
                    refine lv_aload_n hx₀ hb dX12_flies_185 rfl (lv_at hl 1 rfl) ?_
                    refine va_get (D := (dC, dI)) (ci := 11) (v := .ref vTo) (C := RX12) (T := TX12) (N := 30) hx₀ hb hts inlX12 hown hK hP 1 rfl rfl 16 (by decide) (hts (.fieldLink RX12 40 "BittenStickModel" "told" "[I") wd_125) (fun _ h9 => h9) rfl dX12_flies_186 ?_
                    refine lv_iconst (v := 4) hx₀ hb dX12_flies_189 (by decide +kernel) ?_
                    refine lv_iload hx₀ hb dX12_flies_190 (lv_at hl 0 rfl) ?_
                    refine lv_imul hx₀ hb dX12_flies_192 ?_
                    refine lv_iconst (v := 2) hx₀ hb dX12_flies_193 (by decide +kernel) ?_
                    refine lv_iadd hx₀ hb dX12_flies_194 ?_
                    refine lv_aload_n hx₀ hb dX12_flies_195 rfl (lv_at hl 1 rfl) ?_
                    refine va_get (D := (dC, dI)) (ci := 11) (v := .ref vSt) (C := RX12) (T := TX12) (N := 30) hx₀ hb hts inlX12 hown hK hP 1 rfl rfl 24 (by decide) (hts (.fieldLink RX12 46 "BittenStickModel" "strong" "[I") wd_127) (fun _ h9 => h9) rfl dX12_flies_196 ?_
                    refine lv_iconst (v := 0) hx₀ hb dX12_flies_199 (by decide +kernel) ?_
                    refine va_iald hx₀ hb hK hP 6 0 rfl rfl (by unfold vp_in; decide +kernel) dX12_flies_200 ?_
                    refine lv_topi (fun y_40 ey_40 => ?_)
                    refine va_iast hx₀ hb hK hP hD hS 0 0 rfl rfl (vp_in_iff.mpr (lf_g_flies_21 mi mz13 knz13 fez13 enz13 jz13 fr hh0 hiz13_0 hiz13_1 hiz13_2 hiz13_4 hiz13_5 hiz13_6 hjz13 c_14 c_15 c_16)) dX12_flies_201 ?_
                    clear hP hD hS
                    intro H locs hP hD hS
                    obtain ⟨f_41, hf_41⟩ : ∃ z : Nat → Int32, z = upd f_39 ((4 * mz13) + 2).toNatClampNeg y_40 := ⟨_, rfl⟩
                    replace hP : va_P (dC, dI) vwCl [(kAI vTo cI 96 f_41), (kX12 hm vFo vSi vIt vMo la vBy vTy mi vMi pn vPs gn vGs fn vFt le vTo knz13 fez13 r_31 ca (g_32 0) (g_32 1) vPr vSt vFn sn vSg vAl dr), (kAI vMi cI 24 qMi), (kAI vPs cI 32 qPs), (kAI vGs cI 16 qGs), (kAI vPr cI 2 (ga_33 0)), (kAI vSt cI 2 (ga_33 1)), (kAI vFn cI 2 (ga_33 2))] H := by rw [hf_41]; exact hP
                    replace hD : va_D A [(kAI vTo cI 96 f_41), (kX12 hm vFo vSi vIt vMo la vBy vTy mi vMi pn vPs gn vGs fn vFt le vTo knz13 fez13 r_31 ca (g_32 0) (g_32 1) vPr vSt vFn sn vSg vAl dr), (kAI vMi cI 24 qMi), (kAI vPs cI 32 qPs), (kAI vGs cI 16 qGs), (kAI vPr cI 2 (ga_33 0)), (kAI vSt cI 2 (ga_33 1)), (kAI vFn cI 2 (ga_33 2))] := by rw [hf_41]; exact hD
                    clear hf_41
                    refine lv_aload_n hx₀ hb dX12_flies_202 rfl (lv_at hl 1 rfl) ?_
                    refine va_get (D := (dC, dI)) (ci := 11) (v := .ref vTo) (C := RX12) (T := TX12) (N := 30) hx₀ hb hts inlX12 hown hK hP 1 rfl rfl 16 (by decide) (hts (.fieldLink RX12 40 "BittenStickModel" "told" "[I") wd_125) (fun _ h9 => h9) rfl dX12_flies_203 ?_
                    refine lv_iconst (v := 4) hx₀ hb dX12_flies_206 (by decide +kernel) ?_
                    refine lv_iload hx₀ hb dX12_flies_207 (lv_at hl 0 rfl) ?_
                    refine lv_imul hx₀ hb dX12_flies_209 ?_
                    refine lv_iconst (v := 3) hx₀ hb dX12_flies_210 (by decide +kernel) ?_
                    refine lv_iadd hx₀ hb dX12_flies_211 ?_
                    refine lv_aload_n hx₀ hb dX12_flies_212 rfl (lv_at hl 1 rfl) ?_
                    refine va_get (D := (dC, dI)) (ci := 11) (v := .ref vSt) (C := RX12) (T := TX12) (N := 30) hx₀ hb hts inlX12 hown hK hP 1 rfl rfl 24 (by decide) (hts (.fieldLink RX12 46 "BittenStickModel" "strong" "[I") wd_127) (fun _ h9 => h9) rfl dX12_flies_213 ?_
                    refine lv_iconst (v := 1) hx₀ hb dX12_flies_216 (by decide +kernel) ?_
                    refine va_iald hx₀ hb hK hP 6 0 rfl rfl (by unfold vp_in; decide +kernel) dX12_flies_217 ?_
                    refine lv_topi (fun y_42 ey_42 => ?_)
                    refine va_iast hx₀ hb hK hP hD hS 0 0 rfl rfl (vp_in_iff.mpr (lf_g_flies_22 mi mz13 knz13 fez13 enz13 jz13 fr hh0 hiz13_0 hiz13_1 hiz13_2 hiz13_4 hiz13_5 hiz13_6 hjz13 c_14 c_15 c_16)) dX12_flies_218 ?_
                    clear hP hD hS
                    intro H locs hP hD hS
                    obtain ⟨f_43, hf_43⟩ : ∃ z : Nat → Int32, z = upd f_41 ((4 * mz13) + 3).toNatClampNeg y_42 := ⟨_, rfl⟩
                    replace hP : va_P (dC, dI) vwCl [(kAI vTo cI 96 f_43), (kX12 hm vFo vSi vIt vMo la vBy vTy mi vMi pn vPs gn vGs fn vFt le vTo knz13 fez13 r_31 ca (g_32 0) (g_32 1) vPr vSt vFn sn vSg vAl dr), (kAI vMi cI 24 qMi), (kAI vPs cI 32 qPs), (kAI vGs cI 16 qGs), (kAI vPr cI 2 (ga_33 0)), (kAI vSt cI 2 (ga_33 1)), (kAI vFn cI 2 (ga_33 2))] H := by rw [hf_43]; exact hP
                    replace hD : va_D A [(kAI vTo cI 96 f_43), (kX12 hm vFo vSi vIt vMo la vBy vTy mi vMi pn vPs gn vGs fn vFt le vTo knz13 fez13 r_31 ca (g_32 0) (g_32 1) vPr vSt vFn sn vSg vAl dr), (kAI vMi cI 24 qMi), (kAI vPs cI 32 qPs), (kAI vGs cI 16 qGs), (kAI vPr cI 2 (ga_33 0)), (kAI vSt cI 2 (ga_33 1)), (kAI vFn cI 2 (ga_33 2))] := by rw [hf_43]; exact hD
                    clear hf_43
                    refine lv_aload_n hx₀ hb dX12_flies_219 rfl (lv_at hl 1 rfl) ?_
                    refine lv_dup hx₀ hb dX12_flies_220 rfl ?_
                    refine va_get (D := (dC, dI)) (ci := 11) (v := .int knz13) (C := RX12) (T := TX12) (N := 30) hx₀ hb hts inlX12 hown hK hP 1 rfl rfl 17 (by decide) (hts (.fieldLink RX12 190 "BittenStickModel" "known" "I") wd_541) (fun _ h9 => h9) rfl dX12_flies_221 ?_
                    refine lv_iconst (v := 1) hx₀ hb dX12_flies_224 (by decide +kernel) ?_
                    refine lv_iadd hx₀ hb dX12_flies_225 ?_
                    refine va_put (D := (dC, dI)) (ci := 11) (v := .int (knz13 + 1)) (ty := .int) (C := RX12) (T := TX12) (N := 30) hx₀ hb hts inlX12 tyX12 tyX12_ok nmX12 hown hK hP hD hS 1 rfl rfl 17 (by decide) (hts (.fieldLink RX12 190 "BittenStickModel" "known" "I") wd_541) (fun _ h9 => h9) rfl (by decide +kernel) rfl rfl (Nat.le_of_ble_eq_true rfl) dX12_flies_226 ?_
                    clear hP hD hS
                    intro H locs hP hD hS
                    replace hP := k_w2 (wt := [(kAI vTo cI 96 f_43), (kX12 hm vFo vSi vIt vMo la vBy vTy mi vMi pn vPs gn vGs fn vFt le vTo (knz13 + 1) fez13 r_31 ca (g_32 0) (g_32 1) vPr vSt vFn sn vSg vAl dr), (kAI vMi cI 24 qMi), (kAI vPs cI 32 qPs), (kAI vGs cI 16 qGs), (kAI vPr cI 2 (ga_33 0)), (kAI vSt cI 2 (ga_33 1)), (kAI vFn cI 2 (ga_33 2))]) hP hD rfl
                    replace hD := hP.2
                    replace hP := hP.1
                    refine lv_aload_n hx₀ hb dX12_flies_229 rfl (lv_at hl 1 rfl) ?_
                    refine lv_aload_n hx₀ hb dX12_flies_230 rfl (lv_at hl 1 rfl) ?_
                    refine va_get (D := (dC, dI)) (ci := 11) (v := .int r_31) (C := RX12) (T := TX12) (N := 30) hx₀ hb hts inlX12 hown hK hP 1 rfl rfl 19 (by decide) (hts (.fieldLink RX12 196 "BittenStickModel" "end" "I") wd_543) (fun _ h9 => h9) rfl dX12_flies_231 ?_
                    refine lv_if_ne (tgt := 244) hx₀ hb dX12_flies_234 (by decide) (fun c_44 => ?_) (fun c_44 => ?_)
                    · refine lv_iload hx₀ hb dX12_flies_244 (lv_at hl 0 rfl) ?_
                      refine va_put (D := (dC, dI)) (ci := 11) (v := .int mz13) (ty := .int) (C := RX12) (T := TX12) (N := 30) hx₀ hb hts inlX12 tyX12 tyX12_ok nmX12 hown hK hP hD hS 1 rfl rfl 18 (by decide) (hts (.fieldLink RX12 193 "BittenStickModel" "fell" "I") wd_542) (fun _ h9 => h9) rfl (by decide +kernel) rfl rfl (Nat.le_of_ble_eq_true rfl) dX12_flies_246 ?_
                      clear hP hD hS
                      intro H locs hP hD hS
                      replace hP := k_w2 (wt := [(kAI vTo cI 96 f_43), (kX12 hm vFo vSi vIt vMo la vBy vTy mi vMi pn vPs gn vGs fn vFt le vTo (knz13 + 1) mz13 r_31 ca (g_32 0) (g_32 1) vPr vSt vFn sn vSg vAl dr), (kAI vMi cI 24 qMi), (kAI vPs cI 32 qPs), (kAI vGs cI 16 qGs), (kAI vPr cI 2 (ga_33 0)), (kAI vSt cI 2 (ga_33 1)), (kAI vFn cI 2 (ga_33 2))]) hP hD rfl
                      replace hD := hP.2
                      replace hP := hP.1
                      refine lv_iinc (v := mz13 + 1) (lv' := [(7, .int (mz13 + 1)), (0, .ref hm), (1, .int p1), (2, .int le1), (3, .int ri1), (4, .int h1), (5, .int fr), (6, .int th)]) hx₀ hb dX12_flies_249 hl (k := 0) rfl rfl (by decide) rfl (fun ls hl => ?_)
                      refine lv_goto (tgt := 116) hx₀ hb dX12_flies_252 (by decide) ?_
                      exact ihz13 _ (lf_g_flies_29 mi mz13 knz13 fez13 enz13 jz13 fr hh0 hiz13_0 hiz13_1 hiz13_2 hiz13_4 hiz13_5 hiz13_6 hjz13 c_14 c_15 c_16) (mz13 + 1) (knz13 + 1) mz13 r_31 (g_32 0) (g_32 1) f_43 (ga_33 0) (ga_33 1) (ga_33 2) _ _ _ (lf_g_flies_23 mi mz13 knz13 fez13 enz13 jz13 fr hh0 hiz13_0 hiz13_1 hiz13_2 hiz13_4 hiz13_5 hiz13_6 hjz13 c_14 c_15 c_16) (lf_g_flies_24 mi mz13 knz13 fez13 enz13 jz13 fr hh0 hiz13_0 hiz13_1 hiz13_2 hiz13_4 hiz13_5 hiz13_6 hjz13 c_14 c_15 c_16) (lf_g_flies_25 mi mz13 knz13 fez13 enz13 jz13 fr hh0 hiz13_0 hiz13_1 hiz13_2 hiz13_4 hiz13_5 hiz13_6 hjz13 c_14 c_15 c_16) (c_37) (lf_g_flies_26 mi mz13 knz13 fez13 enz13 jz13 fr hh0 hiz13_0 hiz13_1 hiz13_2 hiz13_4 hiz13_5 hiz13_6 hjz13 c_14 c_15 c_16) (lf_g_flies_27 mi mz13 knz13 fez13 enz13 jz13 fr r_31 hh0 hiz13_0 hiz13_1 hiz13_2 hiz13_4 hiz13_5 hiz13_6 hjz13 c_14 c_15 c_16 c_44) (lf_g_flies_28 mi mz13 knz13 fez13 enz13 jz13 fr hh0 hiz13_0 hiz13_1 hiz13_2 hiz13_4 hiz13_5 hiz13_6 hjz13 c_14 c_15 c_16) rfl (hP.sub [2, 3, 4, 0, 5, 6, 7, 1] rfl) (hD.sub [2, 3, 4, 0, 5, 6, 7, 1] (by decide +kernel) rfl) hS (lv_sub hl [0, 1, 2, 3, 4, 5, 6, 7] rfl)
                    · refine lv_iload hx₀ hb dX12_flies_237 (lv_at hl 0 rfl) ?_
                      refine lv_iconst (v := 1) hx₀ hb dX12_flies_239 (by decide +kernel) ?_
                      refine lv_iadd hx₀ hb dX12_flies_240 ?_
                      refine lv_goto (tgt := 246) hx₀ hb dX12_flies_241 (by decide) ?_
                      refine va_put (D := (dC, dI)) (ci := 11) (v := .int (mz13 + 1)) (ty := .int) (C := RX12) (T := TX12) (N := 30) hx₀ hb hts inlX12 tyX12 tyX12_ok nmX12 hown hK hP hD hS 1 rfl rfl 18 (by decide) (hts (.fieldLink RX12 193 "BittenStickModel" "fell" "I") wd_542) (fun _ h9 => h9) rfl (by decide +kernel) rfl rfl (Nat.le_of_ble_eq_true rfl) dX12_flies_246 ?_
                      clear hP hD hS
                      intro H locs hP hD hS
                      replace hP := k_w2 (wt := [(kAI vTo cI 96 f_43), (kX12 hm vFo vSi vIt vMo la vBy vTy mi vMi pn vPs gn vGs fn vFt le vTo (knz13 + 1) (mz13 + 1) r_31 ca (g_32 0) (g_32 1) vPr vSt vFn sn vSg vAl dr), (kAI vMi cI 24 qMi), (kAI vPs cI 32 qPs), (kAI vGs cI 16 qGs), (kAI vPr cI 2 (ga_33 0)), (kAI vSt cI 2 (ga_33 1)), (kAI vFn cI 2 (ga_33 2))]) hP hD rfl
                      replace hD := hP.2
                      replace hP := hP.1
                      refine lv_iinc (v := mz13 + 1) (lv' := [(7, .int (mz13 + 1)), (0, .ref hm), (1, .int p1), (2, .int le1), (3, .int ri1), (4, .int h1), (5, .int fr), (6, .int th)]) hx₀ hb dX12_flies_249 hl (k := 0) rfl rfl (by decide) rfl (fun ls hl => ?_)
                      refine lv_goto (tgt := 116) hx₀ hb dX12_flies_252 (by decide) ?_
                      exact ihz13 _ (lf_g_flies_29 mi mz13 knz13 fez13 enz13 jz13 fr hh0 hiz13_0 hiz13_1 hiz13_2 hiz13_4 hiz13_5 hiz13_6 hjz13 c_14 c_15 c_16) (mz13 + 1) (knz13 + 1) (mz13 + 1) r_31 (g_32 0) (g_32 1) f_43 (ga_33 0) (ga_33 1) (ga_33 2) _ _ _ (lf_g_flies_23 mi mz13 knz13 fez13 enz13 jz13 fr hh0 hiz13_0 hiz13_1 hiz13_2 hiz13_4 hiz13_5 hiz13_6 hjz13 c_14 c_15 c_16) (lf_g_flies_24 mi mz13 knz13 fez13 enz13 jz13 fr hh0 hiz13_0 hiz13_1 hiz13_2 hiz13_4 hiz13_5 hiz13_6 hjz13 c_14 c_15 c_16) (lf_g_flies_30 mi mz13 knz13 fez13 enz13 jz13 fr hh0 hiz13_0 hiz13_1 hiz13_2 hiz13_4 hiz13_5 hiz13_6 hjz13 c_14 c_15 c_16) (c_37) (lf_g_flies_31 mi mz13 knz13 fez13 enz13 jz13 fr hh0 hiz13_0 hiz13_1 hiz13_2 hiz13_4 hiz13_5 hiz13_6 hjz13 c_14 c_15 c_16) (show r_31 = 0 ∨ (knz13 + 1) = 0 ∨ (mz13 + 1) ≤ 23 from (Or.inl (c_44))) (lf_g_flies_28 mi mz13 knz13 fez13 enz13 jz13 fr hh0 hiz13_0 hiz13_1 hiz13_2 hiz13_4 hiz13_5 hiz13_6 hjz13 c_14 c_15 c_16) rfl (hP.sub [2, 3, 4, 0, 5, 6, 7, 1] rfl) (hD.sub [2, 3, 4, 0, 5, 6, 7, 1] (by decide +kernel) rfl) hS (lv_sub hl [0, 1, 2, 3, 4, 5, 6, 7] rfl)
          · refine lv_aload_n hx₀ hb dX12_flies_63 rfl (lv_at hl 1 rfl) ?_
            refine va_get (D := (dC, dI)) (ci := 11) (v := .ref vSt) (C := RX12) (T := TX12) (N := 30) hx₀ hb hts inlX12 hown hK hP 7 rfl rfl 24 (by decide) (hts (.fieldLink RX12 46 "BittenStickModel" "strong" "[I") wd_127) (fun _ h9 => h9) rfl dX12_flies_64 ?_
            refine lv_iload hx₀ hb dX12_flies_67 (lv_at hl 0 rfl) ?_
            refine lv_aload_n hx₀ hb dX12_flies_69 rfl (lv_at hl 1 rfl) ?_
            refine va_get (D := (dC, dI)) (ci := 11) (v := .ref vGs) (C := RX12) (T := TX12) (N := 30) hx₀ hb hts inlX12 hown hK hP 7 rfl rfl 12 (by decide) (hts (.fieldLink RX12 34 "BittenStickModel" "goose" "[I") wd_123) (fun _ h9 => h9) rfl dX12_flies_70 ?_
            refine lv_iconst (v := 2) hx₀ hb dX12_flies_73 (by decide +kernel) ?_
            refine lv_aload_n hx₀ hb dX12_flies_74 rfl (lv_at hl 1 rfl) ?_
            refine va_get (D := (dC, dI)) (ci := 11) (v := .ref vPr) (C := RX12) (T := TX12) (N := 30) hx₀ hb hts inlX12 hown hK hP 7 rfl rfl 23 (by decide) (hts (.fieldLink RX12 43 "BittenStickModel" "pair" "[I") wd_126) (fun _ h9 => h9) rfl dX12_flies_75 ?_
            refine lv_iload hx₀ hb dX12_flies_78 (lv_at hl 0 rfl) ?_
            refine va_iald hx₀ hb hK hP 4 0 rfl rfl (vp_in_iff.mpr (lf_g_goes_4 iz11 jz11 hiz11_0 hjz11 c_12)) dX12_flies_80 ?_
            refine lv_topi (fun y_45 ey_45 => ?_)
            have c_46 : 0 ≤ y_45.toInt ∧ y_45.toInt ≤ 7 := by rw [ey_45]; exact k_bd_at c_10 (vp_in_iff.mpr (lf_g_goes_4 iz11 jz11 hiz11_0 hjz11 c_12))
            refine lv_imul hx₀ hb dX12_flies_81 ?_
            refine va_iald hx₀ hb hK hP 2 0 rfl rfl (vp_in_iff.mpr (lf_g_goes_5 y_45 c_46)) dX12_flies_82 ?_
            refine lv_topi (fun y_47 ey_47 => ?_)
            refine va_iast hx₀ hb hK hP hD hS 5 0 rfl rfl (vp_in_iff.mpr (lf_g_goes_4 iz11 jz11 hiz11_0 hjz11 c_12)) dX12_flies_83 ?_
            clear hP hD hS
            intro H locs hP hD hS
            obtain ⟨f_48, hf_48⟩ : ∃ z : Nat → Int32, z = upd qsz11 iz11.toNatClampNeg y_47 := ⟨_, rfl⟩
            replace hP : va_P (dC, dI) vwCl [(kAI vMi cI 24 qMi), (kAI vPs cI 32 qPs), (kAI vGs cI 16 qGs), (kAI vTo cI 96 qTo), (kAI vPr cI 2 f_9), (kAI vSt cI 2 f_48), (kAI vFn cI 2 qfz11), (kX12 hm vFo vSi vIt vMo la vBy vTy mi vMi pn vPs gn vGs fn vFt le vTo 0 0 1 ca an co vPr vSt vFn sn vSg vAl dr)] H := by rw [hf_48]; exact hP
            replace hD : va_D A [(kAI vMi cI 24 qMi), (kAI vPs cI 32 qPs), (kAI vGs cI 16 qGs), (kAI vTo cI 96 qTo), (kAI vPr cI 2 f_9), (kAI vSt cI 2 f_48), (kAI vFn cI 2 qfz11), (kX12 hm vFo vSi vIt vMo la vBy vTy mi vMi pn vPs gn vGs fn vFt le vTo 0 0 1 ca an co vPr vSt vFn sn vSg vAl dr)] := by rw [hf_48]; exact hD
            clear hf_48
            refine lv_aload_n hx₀ hb dX12_flies_84 rfl (lv_at hl 1 rfl) ?_
            refine va_get (D := (dC, dI)) (ci := 11) (v := .ref vFn) (C := RX12) (T := TX12) (N := 30) hx₀ hb hts inlX12 hown hK hP 7 rfl rfl 25 (by decide) (hts (.fieldLink RX12 49 "BittenStickModel" "flown" "[I") wd_128) (fun _ h9 => h9) rfl dX12_flies_85 ?_
            refine lv_iload hx₀ hb dX12_flies_88 (lv_at hl 0 rfl) ?_
            refine lv_iconst (v := 0) hx₀ hb dX12_flies_90 (by decide +kernel) ?_
            refine va_iast hx₀ hb hK hP hD hS 6 0 rfl rfl (vp_in_iff.mpr (lf_g_goes_4 iz11 jz11 hiz11_0 hjz11 c_12)) dX12_flies_91 ?_
            clear hP hD hS
            intro H locs hP hD hS
            obtain ⟨f_49, hf_49⟩ : ∃ z : Nat → Int32, z = upd qfz11 iz11.toNatClampNeg 0 := ⟨_, rfl⟩
            replace hP : va_P (dC, dI) vwCl [(kAI vMi cI 24 qMi), (kAI vPs cI 32 qPs), (kAI vGs cI 16 qGs), (kAI vTo cI 96 qTo), (kAI vPr cI 2 f_9), (kAI vSt cI 2 f_48), (kAI vFn cI 2 f_49), (kX12 hm vFo vSi vIt vMo la vBy vTy mi vMi pn vPs gn vGs fn vFt le vTo 0 0 1 ca an co vPr vSt vFn sn vSg vAl dr)] H := by rw [hf_49]; exact hP
            replace hD : va_D A [(kAI vMi cI 24 qMi), (kAI vPs cI 32 qPs), (kAI vGs cI 16 qGs), (kAI vTo cI 96 qTo), (kAI vPr cI 2 f_9), (kAI vSt cI 2 f_48), (kAI vFn cI 2 f_49), (kX12 hm vFo vSi vIt vMo la vBy vTy mi vMi pn vPs gn vGs fn vFt le vTo 0 0 1 ca an co vPr vSt vFn sn vSg vAl dr)] := by rw [hf_49]; exact hD
            clear hf_49
            refine lv_iinc (v := iz11 + 1) (lv' := [(7, .int (iz11 + 1)), (0, .ref hm), (1, .int p1), (2, .int le1), (3, .int ri1), (4, .int h1), (5, .int fr), (6, .int th)]) hx₀ hb dX12_flies_92 hl (k := 0) rfl rfl (by decide) rfl (fun ls hl => ?_)
            refine lv_goto (tgt := 57) hx₀ hb dX12_flies_95 (by decide) ?_
            exact ihz11 _ (lf_g_goes_7 iz11 jz11 hiz11_0 hjz11 c_12) (iz11 + 1) f_48 f_49 _ _ _ (lf_g_goes_6 iz11 jz11 hiz11_0 hjz11 c_12) rfl (hP.sub [0, 1, 2, 3, 4, 5, 6, 7] rfl) (hD.sub [0, 1, 2, 3, 4, 5, 6, 7] (by decide +kernel) rfl) hS (lv_sub hl [0, 1, 2, 3, 4, 5, 6, 7] rfl)
      rw [if_neg c_6] at hw
      refine k_topi (v := 0) hw ?_
      refine lv_if_ne (tgt := 40) hx₀ hb dX12_flies_36 (by decide) (fun c9 => absurd (by decide +kernel) c9) (fun _ => ?_)
      obtain ⟨hP9, hD9⟩ := k_c2 (wc := [(kX12 hm vFo vSi vIt vMo la vBy vTy mi vMi pn vPs gn vGs fn vFt le vTo 0 0 1 ca an co vPr vSt vFn sn vSg vAl dr), (kAI vMi cI 24 qMi), (kAI vPs cI 32 qPs), (kAI vGs cI 16 qGs), (kAI vTo cI 96 qTo), (kAI vPr cI 2 qPr), (kAI vSt cI 2 qSt), (kAI vFn cI 2 qFn)]) hP hD [7, 0, 1, 2, 3, 4, 5, 6] (by decide +kernel) rfl
      exact W.vret hx₀ hb hr (fun t₀ ht hW => ⟨⟨(k_fn [(0 : Int32), (0 : Int32), (1 : Int32), an, co], k_fa [qTo, qPr, qSt, qFn], k_fl [], k_fL [], k_fp []), rfl, ⟨hh3, (show 0 ≤ (0 : Int32) ∧ (0 : Int32) ≤ 24 from ⟨(by decide), (by decide)⟩), (show (1 : Int32) = 0 ∨ (0 : Int32) = 0 ∨ (0 : Int32) ≤ 23 from (Or.inr (Or.inl (rfl)))), (show 0 ≤ (0 : Int32) ∧ (0 : Int32) ≤ 24 from ⟨(by decide), (by decide)⟩)⟩, by rw [ht]; exact hP9, va_K.moved hW.alike hK, hD9⟩, hS.F ht⟩) hS.2.2 dX12_flies_39
    rw [if_neg c_4] at hw
    refine k_topi (v := 0) hw ?_
    refine lv_if_eq (tgt := 39) hx₀ hb dX12_flies_28 (by decide) (fun _ => ?_) (fun c9 => absurd (by decide +kernel) c9)
    obtain ⟨hP9, hD9⟩ := k_c2 (wc := [(kX12 hm vFo vSi vIt vMo la vBy vTy mi vMi pn vPs gn vGs fn vFt le vTo 0 0 1 ca an co vPr vSt vFn sn vSg vAl dr), (kAI vMi cI 24 qMi), (kAI vPs cI 32 qPs), (kAI vGs cI 16 qGs), (kAI vTo cI 96 qTo), (kAI vPr cI 2 qPr), (kAI vSt cI 2 qSt), (kAI vFn cI 2 qFn)]) hP hD [7, 0, 1, 2, 3, 4, 5, 6] (by decide +kernel) rfl
    exact W.vret hx₀ hb hr (fun t₀ ht hW => ⟨⟨(k_fn [(0 : Int32), (0 : Int32), (1 : Int32), an, co], k_fa [qTo, qPr, qSt, qFn], k_fl [], k_fL [], k_fp []), rfl, ⟨hh3, (show 0 ≤ (0 : Int32) ∧ (0 : Int32) ≤ 24 from ⟨(by decide), (by decide)⟩), (show (1 : Int32) = 0 ∨ (0 : Int32) = 0 ∨ (0 : Int32) ≤ 23 from (Or.inr (Or.inl (rfl)))), (show 0 ≤ (0 : Int32) ∧ (0 : Int32) ≤ 24 from ⟨(by decide), (by decide)⟩)⟩, by rw [ht]; exact hP9, va_K.moved hW.alike hK, hD9⟩, hS.F ht⟩) hS.2.2 dX12_flies_39
  rw [if_neg c_2] at hw
  refine k_topi (v := 0) hw ?_
  refine lv_if_eq (tgt := 39) hx₀ hb dX12_flies_20 (by decide) (fun _ => ?_) (fun c9 => absurd (by decide +kernel) c9)
  obtain ⟨hP9, hD9⟩ := k_c2 (wc := [(kX12 hm vFo vSi vIt vMo la vBy vTy mi vMi pn vPs gn vGs fn vFt le vTo 0 0 1 ca an co vPr vSt vFn sn vSg vAl dr), (kAI vMi cI 24 qMi), (kAI vPs cI 32 qPs), (kAI vGs cI 16 qGs), (kAI vTo cI 96 qTo), (kAI vPr cI 2 qPr), (kAI vSt cI 2 qSt), (kAI vFn cI 2 qFn)]) hP hD [7, 0, 1, 2, 3, 4, 5, 6] (by decide +kernel) rfl
  exact W.vret hx₀ hb hr (fun t₀ ht hW => ⟨⟨(k_fn [(0 : Int32), (0 : Int32), (1 : Int32), an, co], k_fa [qTo, qPr, qSt, qFn], k_fl [], k_fL [], k_fp []), rfl, ⟨hh3, (show 0 ≤ (0 : Int32) ∧ (0 : Int32) ≤ 24 from ⟨(by decide), (by decide)⟩), (show (1 : Int32) = 0 ∨ (0 : Int32) = 0 ∨ (0 : Int32) ≤ 23 from (Or.inr (Or.inl (rfl)))), (show 0 ≤ (0 : Int32) ∧ (0 : Int32) ≤ 24 from ⟨(by decide), (by decide)⟩)⟩, by rw [ht]; exact hP9, va_K.moved hW.alike hK, hD9⟩, hS.F ht⟩) hS.2.2 dX12_flies_39
theorem lf_e_flies_1 (a0 : Int32) (a1 : Int32) (a2 : Int32) (h0 : 0 ≤ a0 ∧ a0 ≤ 8) (h1 : 0 ≤ a1 ∧ a1 < a0) (h2 : 0 ≤ a2 ∧ a2 < a0) : 0 ≤ (2 * a1).toInt ∧ (2 * a1).toInt < 16 := by
  first | rfl | assumption | decide | exact Or.inl rfl | (first | omega | (have hr0 := Int32.toInt_lt a0; have hs0 := Int32.le_toInt a0; have hr1 := Int32.toInt_lt a1; have hs1 := Int32.le_toInt a1; have hr2 := Int32.toInt_lt a2; have hs2 := Int32.le_toInt a2; simp only [Int64.toInt_add, Int64.toInt_sub, Int32.toInt_add, Int32.toInt_sub, Int32.toInt_mul, Int64.le_iff_toInt_le, Int64.lt_iff_toInt_lt, Int32.le_iff_toInt_le, Int32.lt_iff_toInt_lt, ← Int32.toInt_inj, ← Int64.toInt_inj, Int32.toInt_toInt64, kc_0, kc_2, kc_8, kc_16] at *; (first | omega | ((try simp (disch := omega) only [k_bm64] at *); (try simp (disch := omega) only [k_bm] at *); (try simp (disch := omega) only [k_bm] at *); omega) | (simp only [Int.bmod] at *; omega))))
theorem lf_e_flies_2 (a0 : Int32) (a1 : Int32) (a2 : Int32) (h0 : 0 ≤ a0 ∧ a0 ≤ 8) (h1 : 0 ≤ a1 ∧ a1 < a0) (h2 : 0 ≤ a2 ∧ a2 < a0) : 0 ≤ (2 * a2).toInt ∧ (2 * a2).toInt < 16 := by
  first | rfl | assumption | decide | exact Or.inl rfl | (first | omega | (have hr0 := Int32.toInt_lt a0; have hs0 := Int32.le_toInt a0; have hr1 := Int32.toInt_lt a1; have hs1 := Int32.le_toInt a1; have hr2 := Int32.toInt_lt a2; have hs2 := Int32.le_toInt a2; simp only [Int64.toInt_add, Int64.toInt_sub, Int32.toInt_add, Int32.toInt_sub, Int32.toInt_mul, Int64.le_iff_toInt_le, Int64.lt_iff_toInt_lt, Int32.le_iff_toInt_le, Int32.lt_iff_toInt_lt, ← Int32.toInt_inj, ← Int64.toInt_inj, Int32.toInt_toInt64, kc_0, kc_2, kc_8, kc_16] at *; (first | omega | ((try simp (disch := omega) only [k_bm64] at *); (try simp (disch := omega) only [k_bm] at *); (try simp (disch := omega) only [k_bm] at *); omega) | (simp only [Int.bmod] at *; omega))))
set_option maxHeartbeats 4000000 in
set_option maxRecDepth 100000 in
theorem e_flies (l : Launch) (dC : Nat → ClassId) (dI : Nat → Nat → Nat) (cI cJ cQ : ClassId) (sz : Nat) (hm : Nat) (p1 : Int32) (le1 : Int32) (ri1 : Int32) (h1 : Int32) (fr : Int32) (th : Int32) (vFo : Nat) (vSi : Nat) (vIt : Nat) (vMo : Nat) (la : Int32) (vBy : Nat) (vTy : Nat) (mi : Int32) (vMi : Nat) (pn : Int32) (vPs : Nat) (gn : Int32) (vGs : Nat) (fn : Int32) (vFt : Nat) (le : Int32) (vTo : Nat) (kn : Int32) (fe : Int32) (en : Int32) (ca : Int32) (an : Int32) (co : Int32) (vPr : Nat) (vSt : Nat) (vFn : Nat) (sn : Int32) (vSg : Nat) (vAl : Nat) (dr : Int32) (qMi : Nat → Int32) (qPs : Nat → Int32) (qGs : Nat → Int32) (qTo : Nat → Int32) (qPr : Nat → Int32) (qSt : Nat → Int32) (qFn : Nat → Int32) (hh0 : 0 ≤ mi ∧ mi ≤ 24) (hh1 : 0 ≤ pn ∧ pn ≤ 8) (hh2 : 0 ≤ gn ∧ gn ≤ 8) (hh3 : k_bd 2 0 7 qPr) (hh4 : 0 ≤ h1 ∧ h1 ≤ 100) (hh5 : 0 ≤ th ∧ th ≤ 100) (hh6 : k_tm pn qPs) (hh7 : ca = 16777215) : Met l yX12_flies (kW yX12_flies cX12_flies 8 none) { frames := 2, cells := 0, slots := 0, locals := 51 } (kPre dC dI cI cJ cQ sz [.ref hm, .int p1, .int le1, .int ri1, .int h1, .int fr, .int th] [(kX12 hm vFo vSi vIt vMo la vBy vTy mi vMi pn vPs gn vGs fn vFt le vTo kn fe en ca an co vPr vSt vFn sn vSg vAl dr), (kAI vMi cI 24 qMi), (kAI vPs cI 32 qPs), (kAI vGs cI 16 qGs), (kAI vTo cI 96 qTo), (kAI vPr cI 2 qPr), (kAI vSt cI 2 qSt), (kAI vFn cI 2 qFn)]) (va_Qv (fun (u : kS) => (k_bd 2 0 7 (u.2.1 1)) ∧ (0 ≤ (u.1 1) ∧ (u.1 1) ≤ 24) ∧ ((u.1 2) = 0 ∨ (u.1 0) = 0 ∨ (u.1 1) ≤ 23) ∧ (0 ≤ (u.1 0) ∧ (u.1 0) ≤ 24) ∧ (k_fd ((0 ≤ p1 ∧ p1 < pn) ∧ (0 ≤ le1 ∧ le1 < gn) ∧ 0 ≤ ri1 ∧ ri1 < gn) (k_done (kM qMi) (kCt (kM qMi) (kP3 qPs p1) (kfu mi 0) 0 ((kG0 qGs le1, kG1 qGs le1, kG0 qGs le1, 0), (kG0 qGs ri1, kG1 qGs ri1, kG0 qGs ri1, 0))) le (kP0 qPs p1) (kP1 qPs p1) (5 * (kP2 qPs p1)) (fun x9 => if x9 < fr then h1 else th) mi (u.1 0) (u.1 1) (u.1 2) (u.2.1 0)) (u.1 0) (u.1 1) (u.1 2))) (fun (u : kS) t₀ => kB dC dI cI cJ cQ (va_A [(kX12 hm vFo vSi vIt vMo la vBy vTy mi vMi pn vPs gn vGs fn vFt le vTo kn fe en ca an co vPr vSt vFn sn vSg vAl dr), (kAI vMi cI 24 qMi), (kAI vPs cI 32 qPs), (kAI vGs cI 16 qGs), (kAI vTo cI 96 qTo), (kAI vPr cI 2 qPr), (kAI vSt cI 2 qSt), (kAI vFn cI 2 qFn)] sz) [(kX12 hm vFo vSi vIt vMo la vBy vTy mi vMi pn vPs gn vGs fn vFt le vTo (u.1 0) (u.1 1) (u.1 2) ca (u.1 3) (u.1 4) vPr vSt vFn sn vSg vAl dr), (kAI vMi cI 24 qMi), (kAI vPs cI 32 qPs), (kAI vGs cI 16 qGs), (kAI vTo cI 96 (u.2.1 0)), (kAI vPr cI 2 (u.2.1 1)), (kAI vSt cI 2 (u.2.1 2)), (kAI vFn cI 2 (u.2.1 3))] t₀) (va_A [(kX12 hm vFo vSi vIt vMo la vBy vTy mi vMi pn vPs gn vGs fn vFt le vTo kn fe en ca an co vPr vSt vFn sn vSg vAl dr), (kAI vMi cI 24 qMi), (kAI vPs cI 32 qPs), (kAI vGs cI 16 qGs), (kAI vTo cI 96 qTo), (kAI vPr cI 2 qPr), (kAI vSt cI 2 qSt), (kAI vFn cI 2 qFn)] sz)) 0 0 (va_A [(kX12 hm vFo vSi vIt vMo la vBy vTy mi vMi pn vPs gn vGs fn vFt le vTo kn fe en ca an co vPr vSt vFn sn vSg vAl dr), (kAI vMi cI 24 qMi), (kAI vPs cI 32 qPs), (kAI vGs cI 16 qGs), (kAI vTo cI 96 qTo), (kAI vPr cI 2 qPr), (kAI vSt cI 2 qSt), (kAI vFn cI 2 qFn)] sz) := by
  refine Met.ofW (cc := cX12_flies) (maxL := 8) (ret := none) (by decide) rfl ?_
  intro p₀ e₀ s₀ m₀ args below meth c₀ s₁ B hml hv₀
  obtain ⟨rfl, hsz, hP, hK, hD0, hN⟩ := hv₀
  have hx₀ := B.exec
  have hb := B.bytes
  have hr := B.returns
  have hts := atoms_spec (ws := (kW yX12_flies cX12_flies 8 none)) B.pre
  have hts := fun w h => hts w (List.mem_cons_of_mem _ h)
  have hown : s₀.vm.findClass RX12 = some m₀.cls := findClass_of_methodNamed B.named
  have hlocks := B.notSynchronized
  subst hsz
  have hD := hD0.self (sz := s₀.heap.size)
  generalize hAe : va_A [(kX12 hm vFo vSi vIt vMo la vBy vTy mi vMi pn vPs gn vGs fn vFt le vTo kn fe en ca an co vPr vSt vFn sn vSg vAl dr), (kAI vMi cI 24 qMi), (kAI vPs cI 32 qPs), (kAI vGs cI 16 qGs), (kAI vTo cI 96 qTo), (kAI vPr cI 2 qPr), (kAI vSt cI 2 qSt), (kAI vFn cI 2 qFn)] s₀.heap.size = A at hD ⊢
  have hA : ∀ q : Nat, s₀.heap.size ≤ q → A q := fun q h => by rw [← hAe]; exact Or.inr h
  have hS : va_S A s₀.heap s₀.heap [] := va_S.rf
  have hP : va_P (dC, dI) vwCl [(kX12 hm vFo vSi vIt vMo la vBy vTy mi vMi pn vPs gn vGs fn vFt le vTo kn fe en ca an co vPr vSt vFn sn vSg vAl dr), (kAI vMi cI 24 qMi), (kAI vPs cI 32 qPs), (kAI vGs cI 16 qGs), (kAI vTo cI 96 qTo), (kAI vPr cI 2 qPr), (kAI vSt cI 2 qSt), (kAI vFn cI 2 qFn)] s₀.heap := hP
  have hl := lv_entry ([.ref hm, .int p1, .int le1, .int ri1, .int h1, .int fr, .int th]) (n := 8) (Nat.le_of_ble_eq_true rfl)
  rw [lg_entry_eq]
  generalize (lg_sl ([.ref hm, .int p1, .int le1, .int ri1, .int h1, .int fr, .int th]) ++ List.replicate (8 - (lg_sl ([.ref hm, .int p1, .int le1, .int ri1, .int h1, .int fr, .int th])).length) Slot.unset).toArray = ls at hl ⊢
  have hl : lv_has ls 8 [(0, .ref hm), (1, .int p1), (2, .int le1), (3, .int ri1), (4, .int h1), (5, .int fr), (6, .int th)] := hl
  obtain ⟨H, hH⟩ : ∃ z : Heap, z = s₀.heap := ⟨_, rfl⟩
  rw [← hH] at hP
  have hS : va_S A s₀.heap H [] := by rw [hH]; exact hS
  refine k_heap hH ?_
  have hD : va_D A [(kX12 hm vFo vSi vIt vMo la vBy vTy mi vMi pn vPs gn vGs fn vFt le vTo kn fe en ca an co vPr vSt vFn sn vSg vAl dr), (kAI vMi cI 24 qMi), (kAI vPs cI 32 qPs), (kAI vGs cI 16 qGs), (kAI vTo cI 96 qTo), (kAI vPr cI 2 qPr), (kAI vSt cI 2 qSt), (kAI vFn cI 2 qFn)] := hD
  obtain ⟨locs, hlo⟩ : ∃ z : List Loc, z = [] := ⟨_, rfl⟩
  rw [← hlo] at hS ⊢
  clear hlo hH hAe hD0
  refine lv_aload_n hx₀ hb dX12_flies_0 rfl (lv_at hl 0 rfl) ?_
  refine lv_iconst (v := 0) hx₀ hb dX12_flies_1 (by decide +kernel) ?_
  refine va_put (D := (dC, dI)) (ci := 11) (v := .int 0) (ty := .int) (C := RX12) (T := TX12) (N := 30) hx₀ hb hts inlX12 tyX12 tyX12_ok nmX12 hown hK hP hD hS 0 rfl rfl 17 (by decide) (hts (.fieldLink RX12 190 "BittenStickModel" "known" "I") wd_541) (fun _ h9 => h9) rfl (by decide +kernel) rfl rfl (Nat.le_of_ble_eq_true rfl) dX12_flies_2 ?_
  clear hP hD hS
  intro H locs hP hD hS
  replace hP := k_w2 (wt := [(kX12 hm vFo vSi vIt vMo la vBy vTy mi vMi pn vPs gn vGs fn vFt le vTo 0 fe en ca an co vPr vSt vFn sn vSg vAl dr), (kAI vMi cI 24 qMi), (kAI vPs cI 32 qPs), (kAI vGs cI 16 qGs), (kAI vTo cI 96 qTo), (kAI vPr cI 2 qPr), (kAI vSt cI 2 qSt), (kAI vFn cI 2 qFn)]) hP hD rfl
  replace hD := hP.2
  replace hP := hP.1
  refine lv_aload_n hx₀ hb dX12_flies_5 rfl (lv_at hl 0 rfl) ?_
  refine lv_iconst (v := 0) hx₀ hb dX12_flies_6 (by decide +kernel) ?_
  refine va_put (D := (dC, dI)) (ci := 11) (v := .int 0) (ty := .int) (C := RX12) (T := TX12) (N := 30) hx₀ hb hts inlX12 tyX12 tyX12_ok nmX12 hown hK hP hD hS 0 rfl rfl 18 (by decide) (hts (.fieldLink RX12 193 "BittenStickModel" "fell" "I") wd_542) (fun _ h9 => h9) rfl (by decide +kernel) rfl rfl (Nat.le_of_ble_eq_true rfl) dX12_flies_7 ?_
  clear hP hD hS
  intro H locs hP hD hS
  replace hP := k_w2 (wt := [(kX12 hm vFo vSi vIt vMo la vBy vTy mi vMi pn vPs gn vGs fn vFt le vTo 0 0 en ca an co vPr vSt vFn sn vSg vAl dr), (kAI vMi cI 24 qMi), (kAI vPs cI 32 qPs), (kAI vGs cI 16 qGs), (kAI vTo cI 96 qTo), (kAI vPr cI 2 qPr), (kAI vSt cI 2 qSt), (kAI vFn cI 2 qFn)]) hP hD rfl
  replace hD := hP.2
  replace hP := hP.1
  refine lv_aload_n hx₀ hb dX12_flies_10 rfl (lv_at hl 0 rfl) ?_
  refine lv_iconst (v := 1) hx₀ hb dX12_flies_11 (by decide +kernel) ?_
  refine va_put (D := (dC, dI)) (ci := 11) (v := .int 1) (ty := .int) (C := RX12) (T := TX12) (N := 30) hx₀ hb hts inlX12 tyX12 tyX12_ok nmX12 hown hK hP hD hS 0 rfl rfl 19 (by decide) (hts (.fieldLink RX12 196 "BittenStickModel" "end" "I") wd_543) (fun _ h9 => h9) rfl (by decide +kernel) rfl rfl (Nat.le_of_ble_eq_true rfl) dX12_flies_12 ?_
  clear hP hD hS
  intro H locs hP hD hS
  replace hP := k_w2 (wt := [(kX12 hm vFo vSi vIt vMo la vBy vTy mi vMi pn vPs gn vGs fn vFt le vTo 0 0 1 ca an co vPr vSt vFn sn vSg vAl dr), (kAI vMi cI 24 qMi), (kAI vPs cI 32 qPs), (kAI vGs cI 16 qGs), (kAI vTo cI 96 qTo), (kAI vPr cI 2 qPr), (kAI vSt cI 2 qSt), (kAI vFn cI 2 qFn)]) hP hD rfl
  replace hD := hP.2
  replace hP := hP.1
  refine lv_aload_n hx₀ hb dX12_flies_15 rfl (lv_at hl 0 rfl) ?_
  refine lv_iload_n hx₀ hb dX12_flies_16 rfl (lv_at hl 1 rfl) ?_
  obtain ⟨hPc, hDc, hFc, hC⟩ := k_cw (wc := [(kX12 hm vFo vSi vIt vMo la vBy vTy mi vMi pn vPs gn vGs fn vFt le vTo 0 0 1 ca an co vPr vSt vFn sn vSg vAl dr)]) hP hD hS hA [0] (by decide +kernel) rfl
  refine va_calli (va_runV (As := [.int p1]) (rest := []) ⟨hx₀, hb, hml, hown, hts⟩ (g_isPassenger l dC dI cI cJ cQ H.size hm p1 vFo vSi vIt vMo la vBy vTy mi vMi pn vPs gn vGs fn vFt le vTo 0 0 1 ca an co vPr vSt vFn sn vSg vAl dr (hh1)) (cwV 1 hts (kGV wd_323 wd_320 wd_321 wd_322 wd_5) rfl rfl rfl (by decide +kernel) ⟨Nat.le_of_ble_eq_true rfl, Nat.le_of_ble_eq_true rfl⟩) (k_preV11 (q0 := 0) hK hPc hDc hN rfl) rfl rfl hl.1 rfl (lv_room (Nat.le_of_ble_eq_true rfl)) dX12_flies_17 ⟨by decide +kernel, by decide +kernel⟩) hS (fun q _ h => hFc q h) hFc (fun r_1 u₀ t₀ H1 locs ht hvm hw hB hz1 hk1 hS => ?_)
  obtain ⟨hP1, hK1, hD1⟩ := hB
  rw [ht] at hP1
  have hJ := k_jn (wr := [(kAI vMi cI 24 qMi), (kAI vPs cI 32 qPs), (kAI vGs cI 16 qGs), (kAI vTo cI 96 qTo), (kAI vPr cI 2 qPr), (kAI vSt cI 2 qSt), (kAI vFn cI 2 qFn)]) (wt := [(kAI vMi cI 24 qMi), (kAI vPs cI 32 qPs), (kAI vGs cI 16 qGs), (kAI vTo cI 96 qTo), (kAI vPr cI 2 qPr), (kAI vSt cI 2 qSt), (kAI vFn cI 2 qFn), (kX12 hm vFo vSi vIt vMo la vBy vTy mi vMi pn vPs gn vGs fn vFt le vTo 0 0 1 ca an co vPr vSt vFn sn vSg vAl dr)]) hP hD hC [1, 2, 3, 4, 5, 6, 7] rfl (by decide +kernel) (by decide +kernel) hk1 hFc hP1 hD1 rfl
  clear hP hD hPc hDc hFc hC hP1 hD1 hK1 hz1 hk1 hvm ht
  obtain ⟨hP, hD⟩ := hJ
  generalize H1 = H at hP hS ⊢
  try dsimp only at hw
  by_cases c_2 : 0 ≤ p1 ∧ p1 < pn
  · rw [if_pos c_2] at hw
    refine k_topi (v := 1) hw ?_
    refine lv_if_eq (tgt := 39) hx₀ hb dX12_flies_20 (by decide) (fun c9 => absurd c9 (by decide +kernel)) (fun _ => ?_)
    refine lv_aload_n hx₀ hb dX12_flies_23 rfl (lv_at hl 0 rfl) ?_
    refine lv_iload_n hx₀ hb dX12_flies_24 rfl (lv_at hl 2 rfl) ?_
    obtain ⟨hPc, hDc, hFc, hC⟩ := k_cw (wc := [(kX12 hm vFo vSi vIt vMo la vBy vTy mi vMi pn vPs gn vGs fn vFt le vTo 0 0 1 ca an co vPr vSt vFn sn vSg vAl dr)]) hP hD hS hA [7] (by decide +kernel) rfl
    refine va_calli (va_runV (As := [.int le1]) (rest := []) ⟨hx₀, hb, hml, hown, hts⟩ (g_isGoose l dC dI cI cJ cQ H.size hm le1 vFo vSi vIt vMo la vBy vTy mi vMi pn vPs gn vGs fn vFt le vTo 0 0 1 ca an co vPr vSt vFn sn vSg vAl dr (hh2)) (cwV 1 hts (kGV wd_345 wd_342 wd_343 wd_344 wd_5) rfl rfl rfl (by decide +kernel) ⟨Nat.le_of_ble_eq_true rfl, Nat.le_of_ble_eq_true rfl⟩) (k_preV11 (q0 := 0) hK hPc hDc hN rfl) rfl rfl hl.1 rfl (lv_room (Nat.le_of_ble_eq_true rfl)) dX12_flies_25 ⟨by decide +kernel, by decide +kernel⟩) hS (fun q _ h => hFc q h) hFc (fun r_3 u₀ t₀ H1 locs ht hvm hw hB hz1 hk1 hS => ?_)
    obtain ⟨hP1, hK1, hD1⟩ := hB
    rw [ht] at hP1
    have hJ := k_jn (wr := [(kAI vMi cI 24 qMi), (kAI vPs cI 32 qPs), (kAI vGs cI 16 qGs), (kAI vTo cI 96 qTo), (kAI vPr cI 2 qPr), (kAI vSt cI 2 qSt), (kAI vFn cI 2 qFn)]) (wt := [(kAI vMi cI 24 qMi), (kAI vPs cI 32 qPs), (kAI vGs cI 16 qGs), (kAI vTo cI 96 qTo), (kAI vPr cI 2 qPr), (kAI vSt cI 2 qSt), (kAI vFn cI 2 qFn), (kX12 hm vFo vSi vIt vMo la vBy vTy mi vMi pn vPs gn vGs fn vFt le vTo 0 0 1 ca an co vPr vSt vFn sn vSg vAl dr)]) hP hD hC [0, 1, 2, 3, 4, 5, 6] rfl (by decide +kernel) (by decide +kernel) hk1 hFc hP1 hD1 rfl
    clear hP hD hPc hDc hFc hC hP1 hD1 hK1 hz1 hk1 hvm ht
    obtain ⟨hP, hD⟩ := hJ
    generalize H1 = H at hP hS ⊢
    try dsimp only at hw
    by_cases c_4 : 0 ≤ le1 ∧ le1 < gn
    · rw [if_pos c_4] at hw
      refine k_topi (v := 1) hw ?_
      refine lv_if_eq (tgt := 39) hx₀ hb dX12_flies_28 (by decide) (fun c9 => absurd c9 (by decide +kernel)) (fun _ => ?_)
      refine lv_aload_n hx₀ hb dX12_flies_31 rfl (lv_at hl 0 rfl) ?_
      refine lv_iload_n hx₀ hb dX12_flies_32 rfl (lv_at hl 3 rfl) ?_
      obtain ⟨hPc, hDc, hFc, hC⟩ := k_cw (wc := [(kX12 hm vFo vSi vIt vMo la vBy vTy mi vMi pn vPs gn vGs fn vFt le vTo 0 0 1 ca an co vPr vSt vFn sn vSg vAl dr)]) hP hD hS hA [7] (by decide +kernel) rfl
      refine va_calli (va_runV (As := [.int ri1]) (rest := []) ⟨hx₀, hb, hml, hown, hts⟩ (g_isGoose l dC dI cI cJ cQ H.size hm ri1 vFo vSi vIt vMo la vBy vTy mi vMi pn vPs gn vGs fn vFt le vTo 0 0 1 ca an co vPr vSt vFn sn vSg vAl dr (hh2)) (cwV 1 hts (kGV wd_345 wd_342 wd_343 wd_344 wd_5) rfl rfl rfl (by decide +kernel) ⟨Nat.le_of_ble_eq_true rfl, Nat.le_of_ble_eq_true rfl⟩) (k_preV11 (q0 := 0) hK hPc hDc hN rfl) rfl rfl hl.1 rfl (lv_room (Nat.le_of_ble_eq_true rfl)) dX12_flies_33 ⟨by decide +kernel, by decide +kernel⟩) hS (fun q _ h => hFc q h) hFc (fun r_5 u₀ t₀ H1 locs ht hvm hw hB hz1 hk1 hS => ?_)
      obtain ⟨hP1, hK1, hD1⟩ := hB
      rw [ht] at hP1
      have hJ := k_jn (wr := [(kAI vMi cI 24 qMi), (kAI vPs cI 32 qPs), (kAI vGs cI 16 qGs), (kAI vTo cI 96 qTo), (kAI vPr cI 2 qPr), (kAI vSt cI 2 qSt), (kAI vFn cI 2 qFn)]) (wt := [(kAI vMi cI 24 qMi), (kAI vPs cI 32 qPs), (kAI vGs cI 16 qGs), (kAI vTo cI 96 qTo), (kAI vPr cI 2 qPr), (kAI vSt cI 2 qSt), (kAI vFn cI 2 qFn), (kX12 hm vFo vSi vIt vMo la vBy vTy mi vMi pn vPs gn vGs fn vFt le vTo 0 0 1 ca an co vPr vSt vFn sn vSg vAl dr)]) hP hD hC [0, 1, 2, 3, 4, 5, 6] rfl (by decide +kernel) (by decide +kernel) hk1 hFc hP1 hD1 rfl
      clear hP hD hPc hDc hFc hC hP1 hD1 hK1 hz1 hk1 hvm ht
      obtain ⟨hP, hD⟩ := hJ
      generalize H1 = H at hP hS ⊢
      try dsimp only at hw
      by_cases c_6 : 0 ≤ ri1 ∧ ri1 < gn
      · rw [if_pos c_6] at hw
        refine k_topi (v := 1) hw ?_
        refine lv_if_ne (tgt := 40) hx₀ hb dX12_flies_36 (by decide) (fun _ => ?_) (fun c9 => absurd c9 (by decide +kernel))
        refine lv_aload_n hx₀ hb dX12_flies_40 rfl (lv_at hl 0 rfl) ?_
        refine va_get (D := (dC, dI)) (ci := 11) (v := .ref vPr) (C := RX12) (T := TX12) (N := 30) hx₀ hb hts inlX12 hown hK hP 7 rfl rfl 23 (by decide) (hts (.fieldLink RX12 43 "BittenStickModel" "pair" "[I") wd_126) (fun _ h9 => h9) rfl dX12_flies_41 ?_
        refine lv_iconst (v := 0) hx₀ hb dX12_flies_44 (by decide +kernel) ?_
        refine lv_iload_n hx₀ hb dX12_flies_45 rfl (lv_at hl 2 rfl) ?_
        refine va_iast hx₀ hb hK hP hD hS 4 0 rfl rfl (by unfold vp_in; decide +kernel) dX12_flies_46 ?_
        clear hP hD hS
        intro H locs hP hD hS
        replace hP := k_w2 (wt := [(kAI vMi cI 24 qMi), (kAI vPs cI 32 qPs), (kAI vGs cI 16 qGs), (kAI vTo cI 96 qTo), (kAI vPr cI 2 (upd qPr (0 : Int32).toNatClampNeg le1)), (kAI vSt cI 2 qSt), (kAI vFn cI 2 qFn), (kX12 hm vFo vSi vIt vMo la vBy vTy mi vMi pn vPs gn vGs fn vFt le vTo 0 0 1 ca an co vPr vSt vFn sn vSg vAl dr)]) hP hD rfl
        replace hD := hP.2
        replace hP := hP.1
        refine lv_aload_n hx₀ hb dX12_flies_47 rfl (lv_at hl 0 rfl) ?_
        refine va_get (D := (dC, dI)) (ci := 11) (v := .ref vPr) (C := RX12) (T := TX12) (N := 30) hx₀ hb hts inlX12 hown hK hP 7 rfl rfl 23 (by decide) (hts (.fieldLink RX12 43 "BittenStickModel" "pair" "[I") wd_126) (fun _ h9 => h9) rfl dX12_flies_48 ?_
        refine lv_iconst (v := 1) hx₀ hb dX12_flies_51 (by decide +kernel) ?_
        refine lv_iload_n hx₀ hb dX12_flies_52 rfl (lv_at hl 3 rfl) ?_
        refine va_iast hx₀ hb hK hP hD hS 4 0 rfl rfl (by unfold vp_in; decide +kernel) dX12_flies_53 ?_
        clear hP hD hS
        intro H locs hP hD hS
        replace hP := k_w2 (wt := [(kAI vMi cI 24 qMi), (kAI vPs cI 32 qPs), (kAI vGs cI 16 qGs), (kAI vTo cI 96 qTo), (kAI vPr cI 2 (upd (upd qPr (0 : Int32).toNatClampNeg le1) (1 : Int32).toNatClampNeg ri1)), (kAI vSt cI 2 qSt), (kAI vFn cI 2 qFn), (kX12 hm vFo vSi vIt vMo la vBy vTy mi vMi pn vPs gn vGs fn vFt le vTo 0 0 1 ca an co vPr vSt vFn sn vSg vAl dr)]) hP hD rfl
        replace hD := hP.2
        replace hP := hP.1
        refine lv_iconst (v := 0) hx₀ hb dX12_flies_54 (by decide +kernel) ?_
        refine lv_istore (lv' := [(7, .int 0), (0, .ref hm), (1, .int p1), (2, .int le1), (3, .int ri1), (4, .int h1), (5, .int fr), (6, .int th)]) hx₀ hb dX12_flies_55 hl (by decide) rfl (fun ls hl => ?_)
        refine lv_iload hx₀ hb dX12_flies_57 (lv_at hl 0 rfl) ?_
        refine lv_iconst (v := 2) hx₀ hb dX12_flies_59 (by decide +kernel) ?_
        refine lv_icmp_ge (tgt := 98) hx₀ hb dX12_flies_60 (by decide) (fun c9 => absurd c9 (by decide +kernel)) (fun _ => ?_)
        refine lv_aload_n hx₀ hb dX12_flies_63 rfl (lv_at hl 1 rfl) ?_
        refine va_get (D := (dC, dI)) (ci := 11) (v := .ref vSt) (C := RX12) (T := TX12) (N := 30) hx₀ hb hts inlX12 hown hK hP 7 rfl rfl 24 (by decide) (hts (.fieldLink RX12 46 "BittenStickModel" "strong" "[I") wd_127) (fun _ h9 => h9) rfl dX12_flies_64 ?_
        refine lv_iload hx₀ hb dX12_flies_67 (lv_at hl 0 rfl) ?_
        refine lv_aload_n hx₀ hb dX12_flies_69 rfl (lv_at hl 1 rfl) ?_
        refine va_get (D := (dC, dI)) (ci := 11) (v := .ref vGs) (C := RX12) (T := TX12) (N := 30) hx₀ hb hts inlX12 hown hK hP 7 rfl rfl 12 (by decide) (hts (.fieldLink RX12 34 "BittenStickModel" "goose" "[I") wd_123) (fun _ h9 => h9) rfl dX12_flies_70 ?_
        refine lv_iconst (v := 2) hx₀ hb dX12_flies_73 (by decide +kernel) ?_
        refine lv_aload_n hx₀ hb dX12_flies_74 rfl (lv_at hl 1 rfl) ?_
        refine va_get (D := (dC, dI)) (ci := 11) (v := .ref vPr) (C := RX12) (T := TX12) (N := 30) hx₀ hb hts inlX12 hown hK hP 7 rfl rfl 23 (by decide) (hts (.fieldLink RX12 43 "BittenStickModel" "pair" "[I") wd_126) (fun _ h9 => h9) rfl dX12_flies_75 ?_
        refine lv_iload hx₀ hb dX12_flies_78 (lv_at hl 0 rfl) ?_
        refine va_iald hx₀ hb hK hP 4 0 rfl rfl (by unfold vp_in; decide +kernel) dX12_flies_80 ?_
        refine k_topi (v := le1) rfl ?_
        refine lv_imul hx₀ hb dX12_flies_81 ?_
        refine va_iald hx₀ hb hK hP 2 0 rfl rfl (vp_in_iff.mpr (lf_e_flies_1 gn le1 ri1 hh2 c_4 c_6)) dX12_flies_82 ?_
        refine k_topi (v := kG0 qGs le1) rfl ?_
        refine va_iast hx₀ hb hK hP hD hS 5 0 rfl rfl (by unfold vp_in; decide +kernel) dX12_flies_83 ?_
        clear hP hD hS
        intro H locs hP hD hS
        replace hP := k_w2 (wt := [(kAI vMi cI 24 qMi), (kAI vPs cI 32 qPs), (kAI vGs cI 16 qGs), (kAI vTo cI 96 qTo), (kAI vPr cI 2 (upd (upd qPr (0 : Int32).toNatClampNeg le1) (1 : Int32).toNatClampNeg ri1)), (kAI vSt cI 2 (upd qSt (0 : Int32).toNatClampNeg (kG0 qGs le1))), (kAI vFn cI 2 qFn), (kX12 hm vFo vSi vIt vMo la vBy vTy mi vMi pn vPs gn vGs fn vFt le vTo 0 0 1 ca an co vPr vSt vFn sn vSg vAl dr)]) hP hD rfl
        replace hD := hP.2
        replace hP := hP.1
        refine lv_aload_n hx₀ hb dX12_flies_84 rfl (lv_at hl 1 rfl) ?_
        refine va_get (D := (dC, dI)) (ci := 11) (v := .ref vFn) (C := RX12) (T := TX12) (N := 30) hx₀ hb hts inlX12 hown hK hP 7 rfl rfl 25 (by decide) (hts (.fieldLink RX12 49 "BittenStickModel" "flown" "[I") wd_128) (fun _ h9 => h9) rfl dX12_flies_85 ?_
        refine lv_iload hx₀ hb dX12_flies_88 (lv_at hl 0 rfl) ?_
        refine lv_iconst (v := 0) hx₀ hb dX12_flies_90 (by decide +kernel) ?_
        refine va_iast hx₀ hb hK hP hD hS 6 0 rfl rfl (by unfold vp_in; decide +kernel) dX12_flies_91 ?_
        clear hP hD hS
        intro H locs hP hD hS
        replace hP := k_w2 (wt := [(kAI vMi cI 24 qMi), (kAI vPs cI 32 qPs), (kAI vGs cI 16 qGs), (kAI vTo cI 96 qTo), (kAI vPr cI 2 (upd (upd qPr (0 : Int32).toNatClampNeg le1) (1 : Int32).toNatClampNeg ri1)), (kAI vSt cI 2 (upd qSt (0 : Int32).toNatClampNeg (kG0 qGs le1))), (kAI vFn cI 2 (upd qFn (0 : Int32).toNatClampNeg 0)), (kX12 hm vFo vSi vIt vMo la vBy vTy mi vMi pn vPs gn vGs fn vFt le vTo 0 0 1 ca an co vPr vSt vFn sn vSg vAl dr)]) hP hD rfl
        replace hD := hP.2
        replace hP := hP.1
        refine lv_iinc (v := 1) (lv' := [(7, .int 1), (0, .ref hm), (1, .int p1), (2, .int le1), (3, .int ri1), (4, .int h1), (5, .int fr), (6, .int th)]) hx₀ hb dX12_flies_92 hl (k := 0) rfl (by decide +kernel) (by decide) rfl (fun ls hl => ?_)
        refine lv_goto (tgt := 57) hx₀ hb dX12_flies_95 (by decide) ?_
        refine lv_iload hx₀ hb dX12_flies_57 (lv_at hl 0 rfl) ?_
        refine lv_iconst (v := 2) hx₀ hb dX12_flies_59 (by decide +kernel) ?_
        refine lv_icmp_ge (tgt := 98) hx₀ hb dX12_flies_60 (by decide) (fun c9 => absurd c9 (by decide +kernel)) (fun _ => ?_)
        refine lv_aload_n hx₀ hb dX12_flies_63 rfl (lv_at hl 1 rfl) ?_
        refine va_get (D := (dC, dI)) (ci := 11) (v := .ref vSt) (C := RX12) (T := TX12) (N := 30) hx₀ hb hts inlX12 hown hK hP 7 rfl rfl 24 (by decide) (hts (.fieldLink RX12 46 "BittenStickModel" "strong" "[I") wd_127) (fun _ h9 => h9) rfl dX12_flies_64 ?_
        refine lv_iload hx₀ hb dX12_flies_67 (lv_at hl 0 rfl) ?_
        refine lv_aload_n hx₀ hb dX12_flies_69 rfl (lv_at hl 1 rfl) ?_
        refine va_get (D := (dC, dI)) (ci := 11) (v := .ref vGs) (C := RX12) (T := TX12) (N := 30) hx₀ hb hts inlX12 hown hK hP 7 rfl rfl 12 (by decide) (hts (.fieldLink RX12 34 "BittenStickModel" "goose" "[I") wd_123) (fun _ h9 => h9) rfl dX12_flies_70 ?_
        refine lv_iconst (v := 2) hx₀ hb dX12_flies_73 (by decide +kernel) ?_
        refine lv_aload_n hx₀ hb dX12_flies_74 rfl (lv_at hl 1 rfl) ?_
        refine va_get (D := (dC, dI)) (ci := 11) (v := .ref vPr) (C := RX12) (T := TX12) (N := 30) hx₀ hb hts inlX12 hown hK hP 7 rfl rfl 23 (by decide) (hts (.fieldLink RX12 43 "BittenStickModel" "pair" "[I") wd_126) (fun _ h9 => h9) rfl dX12_flies_75 ?_
        refine lv_iload hx₀ hb dX12_flies_78 (lv_at hl 0 rfl) ?_
        refine va_iald hx₀ hb hK hP 4 0 rfl rfl (by unfold vp_in; decide +kernel) dX12_flies_80 ?_
        refine k_topi (v := ri1) rfl ?_
        refine lv_imul hx₀ hb dX12_flies_81 ?_
        refine va_iald hx₀ hb hK hP 2 0 rfl rfl (vp_in_iff.mpr (lf_e_flies_2 gn le1 ri1 hh2 c_4 c_6)) dX12_flies_82 ?_
        refine k_topi (v := kG0 qGs ri1) rfl ?_
        refine va_iast hx₀ hb hK hP hD hS 5 0 rfl rfl (by unfold vp_in; decide +kernel) dX12_flies_83 ?_
        clear hP hD hS
        intro H locs hP hD hS
        replace hP := k_w2 (wt := [(kAI vMi cI 24 qMi), (kAI vPs cI 32 qPs), (kAI vGs cI 16 qGs), (kAI vTo cI 96 qTo), (kAI vPr cI 2 (upd (upd qPr (0 : Int32).toNatClampNeg le1) (1 : Int32).toNatClampNeg ri1)), (kAI vSt cI 2 (upd (upd qSt (0 : Int32).toNatClampNeg (kG0 qGs le1)) (1 : Int32).toNatClampNeg (kG0 qGs ri1))), (kAI vFn cI 2 (upd qFn (0 : Int32).toNatClampNeg 0)), (kX12 hm vFo vSi vIt vMo la vBy vTy mi vMi pn vPs gn vGs fn vFt le vTo 0 0 1 ca an co vPr vSt vFn sn vSg vAl dr)]) hP hD rfl
        replace hD := hP.2
        replace hP := hP.1
        refine lv_aload_n hx₀ hb dX12_flies_84 rfl (lv_at hl 1 rfl) ?_
        refine va_get (D := (dC, dI)) (ci := 11) (v := .ref vFn) (C := RX12) (T := TX12) (N := 30) hx₀ hb hts inlX12 hown hK hP 7 rfl rfl 25 (by decide) (hts (.fieldLink RX12 49 "BittenStickModel" "flown" "[I") wd_128) (fun _ h9 => h9) rfl dX12_flies_85 ?_
        refine lv_iload hx₀ hb dX12_flies_88 (lv_at hl 0 rfl) ?_
        refine lv_iconst (v := 0) hx₀ hb dX12_flies_90 (by decide +kernel) ?_
        refine va_iast hx₀ hb hK hP hD hS 6 0 rfl rfl (by unfold vp_in; decide +kernel) dX12_flies_91 ?_
        clear hP hD hS
        intro H locs hP hD hS
        replace hP := k_w2 (wt := [(kAI vMi cI 24 qMi), (kAI vPs cI 32 qPs), (kAI vGs cI 16 qGs), (kAI vTo cI 96 qTo), (kAI vPr cI 2 (upd (upd qPr (0 : Int32).toNatClampNeg le1) (1 : Int32).toNatClampNeg ri1)), (kAI vSt cI 2 (upd (upd qSt (0 : Int32).toNatClampNeg (kG0 qGs le1)) (1 : Int32).toNatClampNeg (kG0 qGs ri1))), (kAI vFn cI 2 (upd (upd qFn (0 : Int32).toNatClampNeg 0) (1 : Int32).toNatClampNeg 0)), (kX12 hm vFo vSi vIt vMo la vBy vTy mi vMi pn vPs gn vGs fn vFt le vTo 0 0 1 ca an co vPr vSt vFn sn vSg vAl dr)]) hP hD rfl
        replace hD := hP.2
        replace hP := hP.1
        refine lv_iinc (v := 2) (lv' := [(7, .int 2), (0, .ref hm), (1, .int p1), (2, .int le1), (3, .int ri1), (4, .int h1), (5, .int fr), (6, .int th)]) hx₀ hb dX12_flies_92 hl (k := 0) rfl (by decide +kernel) (by decide) rfl (fun ls hl => ?_)
        refine lv_goto (tgt := 57) hx₀ hb dX12_flies_95 (by decide) ?_
        refine lv_iload hx₀ hb dX12_flies_57 (lv_at hl 0 rfl) ?_
        refine lv_iconst (v := 2) hx₀ hb dX12_flies_59 (by decide +kernel) ?_
        refine lv_icmp_ge (tgt := 98) hx₀ hb dX12_flies_60 (by decide) (fun _ => ?_) (fun c9 => absurd (by decide +kernel) c9)
        refine lv_aload_n hx₀ hb dX12_flies_98 rfl (lv_at hl 1 rfl) ?_
        refine lv_iconst (v := 0) hx₀ hb dX12_flies_99 (by decide +kernel) ?_
        refine va_put (D := (dC, dI)) (ci := 11) (v := .int 0) (ty := .int) (C := RX12) (T := TX12) (N := 30) hx₀ hb hts inlX12 tyX12 tyX12_ok nmX12 hown hK hP hD hS 7 rfl rfl 21 (by decide) (hts (.fieldLink RX12 184 "BittenStickModel" "anger" "I") wd_544) (fun _ h9 => h9) rfl (by decide +kernel) rfl rfl (Nat.le_of_ble_eq_true rfl) dX12_flies_100 ?_
        clear hP hD hS
        intro H locs hP hD hS
        replace hP := k_w2 (wt := [(kAI vMi cI 24 qMi), (kAI vPs cI 32 qPs), (kAI vGs cI 16 qGs), (kAI vTo cI 96 qTo), (kAI vPr cI 2 (upd (upd qPr (0 : Int32).toNatClampNeg le1) (1 : Int32).toNatClampNeg ri1)), (kAI vSt cI 2 (upd (upd qSt (0 : Int32).toNatClampNeg (kG0 qGs le1)) (1 : Int32).toNatClampNeg (kG0 qGs ri1))), (kAI vFn cI 2 (upd (upd qFn (0 : Int32).toNatClampNeg 0) (1 : Int32).toNatClampNeg 0)), (kX12 hm vFo vSi vIt vMo la vBy vTy mi vMi pn vPs gn vGs fn vFt le vTo 0 0 1 ca 0 co vPr vSt vFn sn vSg vAl dr)]) hP hD rfl
        replace hD := hP.2
        replace hP := hP.1
        refine lv_aload_n hx₀ hb dX12_flies_103 rfl (lv_at hl 1 rfl) ?_
        refine lv_iconst (v := 0) hx₀ hb dX12_flies_104 (by decide +kernel) ?_
        refine va_put (D := (dC, dI)) (ci := 11) (v := .int 0) (ty := .int) (C := RX12) (T := TX12) (N := 30) hx₀ hb hts inlX12 tyX12 tyX12_ok nmX12 hown hK hP hD hS 7 rfl rfl 22 (by decide) (hts (.fieldLink RX12 177 "BittenStickModel" "cold" "I") wd_545) (fun _ h9 => h9) rfl (by decide +kernel) rfl rfl (Nat.le_of_ble_eq_true rfl) dX12_flies_105 ?_
        clear hP hD hS
        intro H locs hP hD hS
        replace hP := k_w2 (wt := [(kAI vMi cI 24 qMi), (kAI vPs cI 32 qPs), (kAI vGs cI 16 qGs), (kAI vTo cI 96 qTo), (kAI vPr cI 2 (upd (upd qPr (0 : Int32).toNatClampNeg le1) (1 : Int32).toNatClampNeg ri1)), (kAI vSt cI 2 (upd (upd qSt (0 : Int32).toNatClampNeg (kG0 qGs le1)) (1 : Int32).toNatClampNeg (kG0 qGs ri1))), (kAI vFn cI 2 (upd (upd qFn (0 : Int32).toNatClampNeg 0) (1 : Int32).toNatClampNeg 0)), (kX12 hm vFo vSi vIt vMo la vBy vTy mi vMi pn vPs gn vGs fn vFt le vTo 0 0 1 ca 0 0 vPr vSt vFn sn vSg vAl dr)]) hP hD rfl
        replace hD := hP.2
        replace hP := hP.1
        refine lv_aload_n hx₀ hb dX12_flies_108 rfl (lv_at hl 1 rfl) ?_
        refine lv_iconst (v := 0) hx₀ hb dX12_flies_109 (by decide +kernel) ?_
        refine va_put (D := (dC, dI)) (ci := 11) (v := .int 0) (ty := .int) (C := RX12) (T := TX12) (N := 30) hx₀ hb hts inlX12 tyX12 tyX12_ok nmX12 hown hK hP hD hS 7 rfl rfl 19 (by decide) (hts (.fieldLink RX12 196 "BittenStickModel" "end" "I") wd_543) (fun _ h9 => h9) rfl (by decide +kernel) rfl rfl (Nat.le_of_ble_eq_true rfl) dX12_flies_110 ?_
        clear hP hD hS
        intro H locs hP hD hS
        replace hP := k_w2 (wt := [(kAI vMi cI 24 qMi), (kAI vPs cI 32 qPs), (kAI vGs cI 16 qGs), (kAI vTo cI 96 qTo), (kAI vPr cI 2 (upd (upd qPr (0 : Int32).toNatClampNeg le1) (1 : Int32).toNatClampNeg ri1)), (kAI vSt cI 2 (upd (upd qSt (0 : Int32).toNatClampNeg (kG0 qGs le1)) (1 : Int32).toNatClampNeg (kG0 qGs ri1))), (kAI vFn cI 2 (upd (upd qFn (0 : Int32).toNatClampNeg 0) (1 : Int32).toNatClampNeg 0)), (kX12 hm vFo vSi vIt vMo la vBy vTy mi vMi pn vPs gn vGs fn vFt le vTo 0 0 0 ca 0 0 vPr vSt vFn sn vSg vAl dr)]) hP hD rfl
        replace hD := hP.2
        replace hP := hP.1
        refine lv_iconst (v := 0) hx₀ hb dX12_flies_113 (by decide +kernel) ?_
        refine lv_istore (lv' := [(7, .int 0), (0, .ref hm), (1, .int p1), (2, .int le1), (3, .int ri1), (4, .int h1), (5, .int fr), (6, .int th)]) hx₀ hb dX12_flies_114 hl (by decide) rfl (fun ls hl => ?_)
        refine (?keyz7 : ∀ (jz7 : Nat) (mz7 : Int32) (knz7 : Int32) (fez7 : Int32) (enz7 : Int32) (anz7 : Int32) (coz7 : Int32) (qtz7 : Nat → Int32) (qpz7 : Nat → Int32) (qsz7 : Nat → Int32) (qfz7 : Nat → Int32) (H : Heap) (locs : List Loc) (ls : Array Slot), (0 ≤ mz7 ∧ mz7 ≤ mi) → (0 ≤ knz7 ∧ knz7 ≤ mz7) → (0 ≤ fez7 ∧ fez7 ≤ mz7) → (k_fr (kM qMi) (kP3 qPs p1) mi le (kP0 qPs p1) (kP1 qPs p1) (5 * (kP2 qPs p1)) (fun x9 => if x9 < fr then h1 else th) (kCt (kM qMi) (kP3 qPs p1) (kfu mi 0) 0 ((kG0 qGs le1, kG1 qGs le1, kG0 qGs le1, 0), (kG0 qGs ri1, kG1 qGs ri1, kG0 qGs ri1, 0))) mz7 knz7 fez7 enz7 anz7 coz7 qtz7 (kPS qGs qpz7 qsz7 qfz7)) → (k_bd 2 0 7 qpz7) → (0 ≤ fez7 ∧ fez7 ≤ 24) → (enz7 = 0 ∨ knz7 = 0 ∨ fez7 ≤ 23) → (0 ≤ knz7 ∧ knz7 ≤ 24) → ((mi.toInt - mz7.toInt).toNat = jz7) → va_P (dC, dI) vwCl [(kAI vMi cI 24 qMi), (kAI vPs cI 32 qPs), (kAI vGs cI 16 qGs), (kAI vTo cI 96 qtz7), (kAI vPr cI 2 qpz7), (kAI vSt cI 2 qsz7), (kAI vFn cI 2 qfz7), (kX12 hm vFo vSi vIt vMo la vBy vTy mi vMi pn vPs gn vGs fn vFt le vTo knz7 fez7 enz7 ca anz7 coz7 vPr vSt vFn sn vSg vAl dr)] H → va_D A [(kAI vMi cI 24 qMi), (kAI vPs cI 32 qPs), (kAI vGs cI 16 qGs), (kAI vTo cI 96 qtz7), (kAI vPr cI 2 qpz7), (kAI vSt cI 2 qsz7), (kAI vFn cI 2 qfz7), (kX12 hm vFo vSi vIt vMo la vBy vTy mi vMi pn vPs gn vGs fn vFt le vTo knz7 fez7 enz7 ca anz7 coz7 vPr vSt vFn sn vSg vAl dr)] → va_S A s₀.heap H locs → lv_has ls 8 [(7, .int mz7), (0, .ref hm), (1, .int p1), (2, .int le1), (3, .int ri1), (4, .int h1), (5, .int fr), (6, .int th)] → W p₀ l e₀ _ s₀ m₀ _ below meth c₀ H locs _ _ _ (F0 m₀ 116 ls [])) _ (0 : Int32) (0 : Int32) (0 : Int32) (0 : Int32) (0 : Int32) (0 : Int32) _ _ _ _ H locs ls (show 0 ≤ (0 : Int32) ∧ (0 : Int32) ≤ mi from ⟨(by decide), hh0.1⟩) (show 0 ≤ (0 : Int32) ∧ (0 : Int32) ≤ (0 : Int32) from ⟨(by decide), (by decide)⟩) (show 0 ≤ (0 : Int32) ∧ (0 : Int32) ≤ (0 : Int32) from ⟨(by decide), (by decide)⟩) (k_fr_0 (hh6 p1 (c_2)) (congrArg (kCt (kM qMi) (kP3 qPs p1) (kfu mi 0) 0) k_ps0)) (k_bd2 (lf_g_flies_1 gn le1 ri1 hh2 c_4 c_6) (lf_g_flies_2 gn le1 ri1 hh2 c_4 c_6)) (show 0 ≤ (0 : Int32) ∧ (0 : Int32) ≤ 24 from ⟨(by decide), (by decide)⟩) (show (0 : Int32) = 0 ∨ (0 : Int32) = 0 ∨ (0 : Int32) ≤ 23 from (Or.inl (rfl))) (show 0 ≤ (0 : Int32) ∧ (0 : Int32) ≤ 24 from ⟨(by decide), (by decide)⟩) rfl hP hD hS hl
        clear hP hD hS hl
        intro jz7
        induction jz7 using Nat.strongRecOn with
        | ind jz7 ihz7 =>
          intro mz7 knz7 fez7 enz7 anz7 coz7 qtz7 qpz7 qsz7 qfz7 H locs ls hiz7_0 hiz7_1 hiz7_2 hiz7_3 hiz7_4 hiz7_5 hiz7_6 hiz7_7 hjz7 hP hD hS hl
          refine lv_iload hx₀ hb dX12_flies_116 (lv_at hl 0 rfl) ?_
          refine lv_aload_n hx₀ hb dX12_flies_118 rfl (lv_at hl 1 rfl) ?_
          refine va_get (D := (dC, dI)) (ci := 11) (v := .int mi) (C := RX12) (T := TX12) (N := 30) hx₀ hb hts inlX12 hown hK hP 7 rfl rfl 7 (by decide) (hts (.fieldLink RX12 107 "BittenStickModel" "miles" "I") wd_252) (fun _ h9 => h9) rfl dX12_flies_119 ?_
          refine lv_icmp_ge (tgt := 255) hx₀ hb dX12_flies_122 (by decide) (fun c_8 => ?_) (fun c_8 => ?_)
          · obtain ⟨hP9, hD9⟩ := k_c2 (wc := [(kX12 hm vFo vSi vIt vMo la vBy vTy mi vMi pn vPs gn vGs fn vFt le vTo knz7 fez7 enz7 ca anz7 coz7 vPr vSt vFn sn vSg vAl dr), (kAI vMi cI 24 qMi), (kAI vPs cI 32 qPs), (kAI vGs cI 16 qGs), (kAI vTo cI 96 qtz7), (kAI vPr cI 2 qpz7), (kAI vSt cI 2 qsz7), (kAI vFn cI 2 qfz7)]) hP hD [7, 0, 1, 2, 3, 4, 5, 6] (by decide +kernel) rfl
            exact W.vret hx₀ hb hr (fun t₀ ht hW => ⟨⟨(k_fn [knz7, fez7, enz7, anz7, coz7], k_fa [qtz7, qpz7, qsz7, qfz7], k_fl [], k_fL [], k_fp []), rfl, ⟨hiz7_4, hiz7_5, hiz7_6, hiz7_7, (k_fd_y (show (0 ≤ p1 ∧ p1 < pn) ∧ (0 ≤ le1 ∧ le1 < gn) ∧ 0 ≤ ri1 ∧ ri1 < gn from ⟨⟨c_2.1, c_2.2⟩, ⟨c_4.1, c_4.2⟩, c_6.1, c_6.2⟩) (k_fr_end hiz7_3 (hiz7_0.2) (hh0.2) (Or.inl c_8)))⟩, by rw [ht]; exact hP9, va_K.moved hW.alike hK, hD9⟩, hS.F ht⟩) hS.2.2 dX12_flies_255
          · refine lv_aload_n hx₀ hb dX12_flies_125 rfl (lv_at hl 1 rfl) ?_
            refine va_get (D := (dC, dI)) (ci := 11) (v := .int enz7) (C := RX12) (T := TX12) (N := 30) hx₀ hb hts inlX12 hown hK hP 7 rfl rfl 19 (by decide) (hts (.fieldLink RX12 196 "BittenStickModel" "end" "I") wd_543) (fun _ h9 => h9) rfl dX12_flies_126 ?_
            refine lv_if_ne (tgt := 255) hx₀ hb dX12_flies_129 (by decide) (fun c_9 => ?_) (fun c_9 => ?_)
            · obtain ⟨hP9, hD9⟩ := k_c2 (wc := [(kX12 hm vFo vSi vIt vMo la vBy vTy mi vMi pn vPs gn vGs fn vFt le vTo knz7 fez7 enz7 ca anz7 coz7 vPr vSt vFn sn vSg vAl dr), (kAI vMi cI 24 qMi), (kAI vPs cI 32 qPs), (kAI vGs cI 16 qGs), (kAI vTo cI 96 qtz7), (kAI vPr cI 2 qpz7), (kAI vSt cI 2 qsz7), (kAI vFn cI 2 qfz7)]) hP hD [7, 0, 1, 2, 3, 4, 5, 6] (by decide +kernel) rfl
              exact W.vret hx₀ hb hr (fun t₀ ht hW => ⟨⟨(k_fn [knz7, fez7, enz7, anz7, coz7], k_fa [qtz7, qpz7, qsz7, qfz7], k_fl [], k_fL [], k_fp []), rfl, ⟨hiz7_4, hiz7_5, hiz7_6, hiz7_7, (k_fd_y (show (0 ≤ p1 ∧ p1 < pn) ∧ (0 ≤ le1 ∧ le1 < gn) ∧ 0 ≤ ri1 ∧ ri1 < gn from ⟨⟨c_2.1, c_2.2⟩, ⟨c_4.1, c_4.2⟩, c_6.1, c_6.2⟩) (k_fr_end hiz7_3 (hiz7_0.2) (hh0.2) (Or.inr c_9)))⟩, by rw [ht]; exact hP9, va_K.moved hW.alike hK, hD9⟩, hS.F ht⟩) hS.2.2 dX12_flies_255
            · refine lv_aload_n hx₀ hb dX12_flies_132 rfl (lv_at hl 1 rfl) ?_
              refine lv_aload_n hx₀ hb dX12_flies_133 rfl (lv_at hl 1 rfl) ?_
              refine lv_iload_n hx₀ hb dX12_flies_134 rfl (lv_at hl 2 rfl) ?_
              refine lv_iload hx₀ hb dX12_flies_135 (lv_at hl 0 rfl) ?_
              refine lv_iload hx₀ hb dX12_flies_137 (lv_at hl 0 rfl) ?_
              refine lv_iload hx₀ hb dX12_flies_139 (lv_at hl 6 rfl) ?_
              refine lv_icmp_ge (tgt := 149) hx₀ hb dX12_flies_141 (by decide) (fun c_10 => ?_) (fun c_10 => ?_)
              · refine lv_iload hx₀ hb dX12_flies_149 (lv_at hl 7 rfl) ?_
                obtain ⟨hPc, hDc, hFc, hC⟩ := k_cw (wc := [(kX12 hm vFo vSi vIt vMo la vBy vTy mi vMi pn vPs gn vGs fn vFt le vTo knz7 fez7 enz7 ca anz7 coz7 vPr vSt vFn sn vSg vAl dr), (kAI vMi cI 24 qMi), (kAI vPs cI 32 qPs), (kAI vGs cI 16 qGs), (kAI vPr cI 2 qpz7), (kAI vSt cI 2 qsz7), (kAI vFn cI 2 qfz7)]) hP hD hS hA [7, 0, 1, 2, 4, 5, 6] (by decide +kernel) rfl
                refine va_calli (va_runV (As := [.int p1, .int mz7, .int th]) (rest := [.ref hm]) ⟨hx₀, hb, hml, hown, hts⟩ (e_goes l dC dI cI cJ cQ H.size hm p1 mz7 th vFo vSi vIt vMo la vBy vTy mi vMi pn vPs gn vGs fn vFt le vTo knz7 fez7 enz7 ca anz7 coz7 vPr vSt vFn sn vSg vAl dr qMi qPs qGs qpz7 qsz7 qfz7 (hiz7_4) (lf_g_flies_3 pn p1 hh1 c_2) (lf_g_flies_4 mi mz7 knz7 fez7 enz7 jz7 fr hh0 hiz7_0 hiz7_1 hiz7_2 hiz7_5 hiz7_6 hiz7_7 hjz7 c_8 c_9 c_10) (hh5)) (cwV 3 hts (kGV wd_549 wd_546 wd_547 wd_548 wd_5) rfl rfl rfl (by decide +kernel) ⟨Nat.le_of_ble_eq_true rfl, Nat.le_of_ble_eq_true rfl⟩) (k_preV11 (q0 := 0) hK hPc hDc hN rfl) rfl rfl hl.1 rfl (lv_room (Nat.le_of_ble_eq_true rfl)) dX12_flies_151 ⟨by decide +kernel, by decide +kernel⟩) hS (fun q _ h => hFc q h) hFc (fun r_11 u₀ t₀ H1 locs ht hvm hw hB hz1 hk1 hS => ?_)
                obtain ⟨g_12, ga_13, gl_14, gb_15, gp_16⟩ := u₀
                obtain ⟨hP1, hK1, hD1⟩ := hB
                rw [ht] at hP1
                have hJ := k_jn (wr := [(kAI vTo cI 96 qtz7)]) (wt := [(kAI vTo cI 96 qtz7), (kX12 hm vFo vSi vIt vMo la vBy vTy mi vMi pn vPs gn vGs fn vFt le vTo knz7 fez7 enz7 ca (g_12 0) (g_12 1) vPr vSt vFn sn vSg vAl dr), (kAI vMi cI 24 qMi), (kAI vPs cI 32 qPs), (kAI vGs cI 16 qGs), (kAI vPr cI 2 (ga_13 0)), (kAI vSt cI 2 (ga_13 1)), (kAI vFn cI 2 (ga_13 2))]) hP hD hC [3] rfl (by decide +kernel) (by decide +kernel) hk1 hFc hP1 hD1 rfl
                clear hP hD hPc hDc hFc hC hP1 hD1 hK1 hz1 hk1 hvm ht
                obtain ⟨hP, hD⟩ := hJ
                generalize H1 = H at hP hS ⊢
                try dsimp only at hw
                obtain ⟨c_17, c_18⟩ := hw
                refine va_put (D := (dC, dI)) (ci := 11) (v := .int r_11) (ty := .int) (C := RX12) (T := TX12) (N := 30) hx₀ hb hts inlX12 tyX12 tyX12_ok nmX12 hown hK hP hD hS 1 rfl rfl 19 (by decide) (hts (.fieldLink RX12 196 "BittenStickModel" "end" "I") wd_543) (fun _ h9 => h9) rfl (by decide +kernel) rfl rfl (Nat.le_of_ble_eq_true rfl) dX12_flies_154 ?_
                clear hP hD hS
                intro H locs hP hD hS
                replace hP := k_w2 (wt := [(kAI vTo cI 96 qtz7), (kX12 hm vFo vSi vIt vMo la vBy vTy mi vMi pn vPs gn vGs fn vFt le vTo knz7 fez7 r_11 ca (g_12 0) (g_12 1) vPr vSt vFn sn vSg vAl dr), (kAI vMi cI 24 qMi), (kAI vPs cI 32 qPs), (kAI vGs cI 16 qGs), (kAI vPr cI 2 (ga_13 0)), (kAI vSt cI 2 (ga_13 1)), (kAI vFn cI 2 (ga_13 2))]) hP hD rfl
                replace hD := hP.2
                replace hP := hP.1
                refine lv_aload_n hx₀ hb dX12_flies_157 rfl (lv_at hl 1 rfl) ?_
                refine va_get (D := (dC, dI)) (ci := 11) (v := .ref vTo) (C := RX12) (T := TX12) (N := 30) hx₀ hb hts inlX12 hown hK hP 1 rfl rfl 16 (by decide) (hts (.fieldLink RX12 40 "BittenStickModel" "told" "[I") wd_125) (fun _ h9 => h9) rfl dX12_flies_158 ?_
                refine lv_iconst (v := 4) hx₀ hb dX12_flies_161 (by decide +kernel) ?_
                refine lv_iload hx₀ hb dX12_flies_162 (lv_at hl 0 rfl) ?_
                refine lv_imul hx₀ hb dX12_flies_164 ?_
                refine lv_aload_n hx₀ hb dX12_flies_165 rfl (lv_at hl 1 rfl) ?_
                refine va_get (D := (dC, dI)) (ci := 11) (v := .int (g_12 0)) (C := RX12) (T := TX12) (N := 30) hx₀ hb hts inlX12 hown hK hP 1 rfl rfl 21 (by decide) (hts (.fieldLink RX12 184 "BittenStickModel" "anger" "I") wd_544) (fun _ h9 => h9) rfl dX12_flies_166 ?_
                refine va_iast hx₀ hb hK hP hD hS 0 0 rfl rfl (vp_in_iff.mpr (lf_g_flies_5 mi mz7 knz7 fez7 enz7 jz7 fr hh0 hiz7_0 hiz7_1 hiz7_2 hiz7_5 hiz7_6 hiz7_7 hjz7 c_8 c_9 c_10)) dX12_flies_169 ?_
                clear hP hD hS
                intro H locs hP hD hS
                replace hP := k_w2 (wt := [(kAI vTo cI 96 (upd qtz7 (4 * mz7).toNatClampNeg (g_12 0))), (kX12 hm vFo vSi vIt vMo la vBy vTy mi vMi pn vPs gn vGs fn vFt le vTo knz7 fez7 r_11 ca (g_12 0) (g_12 1) vPr vSt vFn sn vSg vAl dr), (kAI vMi cI 24 qMi), (kAI vPs cI 32 qPs), (kAI vGs cI 16 qGs), (kAI vPr cI 2 (ga_13 0)), (kAI vSt cI 2 (ga_13 1)), (kAI vFn cI 2 (ga_13 2))]) hP hD rfl
                replace hD := hP.2
                replace hP := hP.1
                refine lv_aload_n hx₀ hb dX12_flies_170 rfl (lv_at hl 1 rfl) ?_
                refine va_get (D := (dC, dI)) (ci := 11) (v := .ref vTo) (C := RX12) (T := TX12) (N := 30) hx₀ hb hts inlX12 hown hK hP 1 rfl rfl 16 (by decide) (hts (.fieldLink RX12 40 "BittenStickModel" "told" "[I") wd_125) (fun _ h9 => h9) rfl dX12_flies_171 ?_
                refine lv_iconst (v := 4) hx₀ hb dX12_flies_174 (by decide +kernel) ?_
                refine lv_iload hx₀ hb dX12_flies_175 (lv_at hl 0 rfl) ?_
                refine lv_imul hx₀ hb dX12_flies_177 ?_
                refine lv_iconst (v := 1) hx₀ hb dX12_flies_178 (by decide +kernel) ?_
                refine lv_iadd hx₀ hb dX12_flies_179 ?_
                refine lv_aload_n hx₀ hb dX12_flies_180 rfl (lv_at hl 1 rfl) ?_
                refine va_get (D := (dC, dI)) (ci := 11) (v := .int (g_12 1)) (C := RX12) (T := TX12) (N := 30) hx₀ hb hts inlX12 hown hK hP 1 rfl rfl 22 (by decide) (hts (.fieldLink RX12 177 "BittenStickModel" "cold" "I") wd_545) (fun _ h9 => h9) rfl dX12_flies_181 ?_
                refine va_iast hx₀ hb hK hP hD hS 0 0 rfl rfl (vp_in_iff.mpr (lf_g_flies_6 mi mz7 knz7 fez7 enz7 jz7 fr hh0 hiz7_0 hiz7_1 hiz7_2 hiz7_5 hiz7_6 hiz7_7 hjz7 c_8 c_9 c_10)) dX12_flies_184 ?_
                clear hP hD hS
                intro H locs hP hD hS
                replace hP := k_w2 (wt := [(kAI vTo cI 96 (upd (upd qtz7 (4 * mz7).toNatClampNeg (g_12 0)) ((4 * mz7) + 1).toNatClampNeg (g_12 1))), (kX12 hm vFo vSi vIt vMo la vBy vTy mi vMi pn vPs gn vGs fn vFt le vTo knz7 fez7 r_11 ca (g_12 0) (g_12 1) vPr vSt vFn sn vSg vAl dr), (kAI vMi cI 24 qMi), (kAI vPs cI 32 qPs), (kAI vGs cI 16 qGs), (kAI vPr cI 2 (ga_13 0)), (kAI vSt cI 2 (ga_13 1)), (kAI vFn cI 2 (ga_13 2))]) hP hD rfl
                replace hD := hP.2
                replace hP := hP.1
                refine lv_aload_n hx₀ hb dX12_flies_185 rfl (lv_at hl 1 rfl) ?_
                refine va_get (D := (dC, dI)) (ci := 11) (v := .ref vTo) (C := RX12) (T := TX12) (N := 30) hx₀ hb hts inlX12 hown hK hP 1 rfl rfl 16 (by decide) (hts (.fieldLink RX12 40 "BittenStickModel" "told" "[I") wd_125) (fun _ h9 => h9) rfl dX12_flies_186 ?_
                refine lv_iconst (v := 4) hx₀ hb dX12_flies_189 (by decide +kernel) ?_
                refine lv_iload hx₀ hb dX12_flies_190 (lv_at hl 0 rfl) ?_
                refine lv_imul hx₀ hb dX12_flies_192 ?_
                refine lv_iconst (v := 2) hx₀ hb dX12_flies_193 (by decide +kernel) ?_
                refine lv_iadd hx₀ hb dX12_flies_194 ?_
                refine lv_aload_n hx₀ hb dX12_flies_195 rfl (lv_at hl 1 rfl) ?_
                refine va_get (D := (dC, dI)) (ci := 11) (v := .ref vSt) (C := RX12) (T := TX12) (N := 30) hx₀ hb hts inlX12 hown hK hP 1 rfl rfl 24 (by decide) (hts (.fieldLink RX12 46 "BittenStickModel" "strong" "[I") wd_127) (fun _ h9 => h9) rfl dX12_flies_196 ?_
                refine lv_iconst (v := 0) hx₀ hb dX12_flies_199 (by decide +kernel) ?_
                refine va_iald hx₀ hb hK hP 6 0 rfl rfl (by unfold vp_in; decide +kernel) dX12_flies_200 ?_
                refine k_topi (v := (ga_13 1) 0) rfl ?_
                refine va_iast hx₀ hb hK hP hD hS 0 0 rfl rfl (vp_in_iff.mpr (lf_g_flies_7 mi mz7 knz7 fez7 enz7 jz7 fr hh0 hiz7_0 hiz7_1 hiz7_2 hiz7_5 hiz7_6 hiz7_7 hjz7 c_8 c_9 c_10)) dX12_flies_201 ?_
                clear hP hD hS
                intro H locs hP hD hS
                replace hP := k_w2 (wt := [(kAI vTo cI 96 (upd (upd (upd qtz7 (4 * mz7).toNatClampNeg (g_12 0)) ((4 * mz7) + 1).toNatClampNeg (g_12 1)) ((4 * mz7) + 2).toNatClampNeg ((ga_13 1) 0))), (kX12 hm vFo vSi vIt vMo la vBy vTy mi vMi pn vPs gn vGs fn vFt le vTo knz7 fez7 r_11 ca (g_12 0) (g_12 1) vPr vSt vFn sn vSg vAl dr), (kAI vMi cI 24 qMi), (kAI vPs cI 32 qPs), (kAI vGs cI 16 qGs), (kAI vPr cI 2 (ga_13 0)), (kAI vSt cI 2 (ga_13 1)), (kAI vFn cI 2 (ga_13 2))]) hP hD rfl
                replace hD := hP.2
                replace hP := hP.1
                refine lv_aload_n hx₀ hb dX12_flies_202 rfl (lv_at hl 1 rfl) ?_
                refine va_get (D := (dC, dI)) (ci := 11) (v := .ref vTo) (C := RX12) (T := TX12) (N := 30) hx₀ hb hts inlX12 hown hK hP 1 rfl rfl 16 (by decide) (hts (.fieldLink RX12 40 "BittenStickModel" "told" "[I") wd_125) (fun _ h9 => h9) rfl dX12_flies_203 ?_
                refine lv_iconst (v := 4) hx₀ hb dX12_flies_206 (by decide +kernel) ?_
                refine lv_iload hx₀ hb dX12_flies_207 (lv_at hl 0 rfl) ?_
                refine lv_imul hx₀ hb dX12_flies_209 ?_
                refine lv_iconst (v := 3) hx₀ hb dX12_flies_210 (by decide +kernel) ?_
                refine lv_iadd hx₀ hb dX12_flies_211 ?_
                refine lv_aload_n hx₀ hb dX12_flies_212 rfl (lv_at hl 1 rfl) ?_
                refine va_get (D := (dC, dI)) (ci := 11) (v := .ref vSt) (C := RX12) (T := TX12) (N := 30) hx₀ hb hts inlX12 hown hK hP 1 rfl rfl 24 (by decide) (hts (.fieldLink RX12 46 "BittenStickModel" "strong" "[I") wd_127) (fun _ h9 => h9) rfl dX12_flies_213 ?_
                refine lv_iconst (v := 1) hx₀ hb dX12_flies_216 (by decide +kernel) ?_
                refine va_iald hx₀ hb hK hP 6 0 rfl rfl (by unfold vp_in; decide +kernel) dX12_flies_217 ?_
                refine k_topi (v := (ga_13 1) 1) rfl ?_
                refine va_iast hx₀ hb hK hP hD hS 0 0 rfl rfl (vp_in_iff.mpr (lf_g_flies_8 mi mz7 knz7 fez7 enz7 jz7 fr hh0 hiz7_0 hiz7_1 hiz7_2 hiz7_5 hiz7_6 hiz7_7 hjz7 c_8 c_9 c_10)) dX12_flies_218 ?_
                clear hP hD hS
                intro H locs hP hD hS
                replace hP := k_w2 (wt := [(kAI vTo cI 96 (upd (upd (upd (upd qtz7 (4 * mz7).toNatClampNeg (g_12 0)) ((4 * mz7) + 1).toNatClampNeg (g_12 1)) ((4 * mz7) + 2).toNatClampNeg ((ga_13 1) 0)) ((4 * mz7) + 3).toNatClampNeg ((ga_13 1) 1))), (kX12 hm vFo vSi vIt vMo la vBy vTy mi vMi pn vPs gn vGs fn vFt le vTo knz7 fez7 r_11 ca (g_12 0) (g_12 1) vPr vSt vFn sn vSg vAl dr), (kAI vMi cI 24 qMi), (kAI vPs cI 32 qPs), (kAI vGs cI 16 qGs), (kAI vPr cI 2 (ga_13 0)), (kAI vSt cI 2 (ga_13 1)), (kAI vFn cI 2 (ga_13 2))]) hP hD rfl
                replace hD := hP.2
                replace hP := hP.1
                refine lv_aload_n hx₀ hb dX12_flies_219 rfl (lv_at hl 1 rfl) ?_
                refine lv_dup hx₀ hb dX12_flies_220 rfl ?_
                refine va_get (D := (dC, dI)) (ci := 11) (v := .int knz7) (C := RX12) (T := TX12) (N := 30) hx₀ hb hts inlX12 hown hK hP 1 rfl rfl 17 (by decide) (hts (.fieldLink RX12 190 "BittenStickModel" "known" "I") wd_541) (fun _ h9 => h9) rfl dX12_flies_221 ?_
                refine lv_iconst (v := 1) hx₀ hb dX12_flies_224 (by decide +kernel) ?_
                refine lv_iadd hx₀ hb dX12_flies_225 ?_
                refine va_put (D := (dC, dI)) (ci := 11) (v := .int (knz7 + 1)) (ty := .int) (C := RX12) (T := TX12) (N := 30) hx₀ hb hts inlX12 tyX12 tyX12_ok nmX12 hown hK hP hD hS 1 rfl rfl 17 (by decide) (hts (.fieldLink RX12 190 "BittenStickModel" "known" "I") wd_541) (fun _ h9 => h9) rfl (by decide +kernel) rfl rfl (Nat.le_of_ble_eq_true rfl) dX12_flies_226 ?_
                clear hP hD hS
                intro H locs hP hD hS
                replace hP := k_w2 (wt := [(kAI vTo cI 96 (upd (upd (upd (upd qtz7 (4 * mz7).toNatClampNeg (g_12 0)) ((4 * mz7) + 1).toNatClampNeg (g_12 1)) ((4 * mz7) + 2).toNatClampNeg ((ga_13 1) 0)) ((4 * mz7) + 3).toNatClampNeg ((ga_13 1) 1))), (kX12 hm vFo vSi vIt vMo la vBy vTy mi vMi pn vPs gn vGs fn vFt le vTo (knz7 + 1) fez7 r_11 ca (g_12 0) (g_12 1) vPr vSt vFn sn vSg vAl dr), (kAI vMi cI 24 qMi), (kAI vPs cI 32 qPs), (kAI vGs cI 16 qGs), (kAI vPr cI 2 (ga_13 0)), (kAI vSt cI 2 (ga_13 1)), (kAI vFn cI 2 (ga_13 2))]) hP hD rfl
                replace hD := hP.2
                replace hP := hP.1
                refine lv_aload_n hx₀ hb dX12_flies_229 rfl (lv_at hl 1 rfl) ?_
                refine lv_aload_n hx₀ hb dX12_flies_230 rfl (lv_at hl 1 rfl) ?_
                refine va_get (D := (dC, dI)) (ci := 11) (v := .int r_11) (C := RX12) (T := TX12) (N := 30) hx₀ hb hts inlX12 hown hK hP 1 rfl rfl 19 (by decide) (hts (.fieldLink RX12 196 "BittenStickModel" "end" "I") wd_543) (fun _ h9 => h9) rfl dX12_flies_231 ?_
                refine lv_if_ne (tgt := 244) hx₀ hb dX12_flies_234 (by decide) (fun c_19 => ?_) (fun c_19 => ?_)
                · refine lv_iload hx₀ hb dX12_flies_244 (lv_at hl 0 rfl) ?_
                  refine va_put (D := (dC, dI)) (ci := 11) (v := .int mz7) (ty := .int) (C := RX12) (T := TX12) (N := 30) hx₀ hb hts inlX12 tyX12 tyX12_ok nmX12 hown hK hP hD hS 1 rfl rfl 18 (by decide) (hts (.fieldLink RX12 193 "BittenStickModel" "fell" "I") wd_542) (fun _ h9 => h9) rfl (by decide +kernel) rfl rfl (Nat.le_of_ble_eq_true rfl) dX12_flies_246 ?_
                  clear hP hD hS
                  intro H locs hP hD hS
                  replace hP := k_w2 (wt := [(kAI vTo cI 96 (upd (upd (upd (upd qtz7 (4 * mz7).toNatClampNeg (g_12 0)) ((4 * mz7) + 1).toNatClampNeg (g_12 1)) ((4 * mz7) + 2).toNatClampNeg ((ga_13 1) 0)) ((4 * mz7) + 3).toNatClampNeg ((ga_13 1) 1))), (kX12 hm vFo vSi vIt vMo la vBy vTy mi vMi pn vPs gn vGs fn vFt le vTo (knz7 + 1) mz7 r_11 ca (g_12 0) (g_12 1) vPr vSt vFn sn vSg vAl dr), (kAI vMi cI 24 qMi), (kAI vPs cI 32 qPs), (kAI vGs cI 16 qGs), (kAI vPr cI 2 (ga_13 0)), (kAI vSt cI 2 (ga_13 1)), (kAI vFn cI 2 (ga_13 2))]) hP hD rfl
                  replace hD := hP.2
                  replace hP := hP.1
                  refine lv_iinc (v := mz7 + 1) (lv' := [(7, .int (mz7 + 1)), (0, .ref hm), (1, .int p1), (2, .int le1), (3, .int ri1), (4, .int h1), (5, .int fr), (6, .int th)]) hx₀ hb dX12_flies_249 hl (k := 0) rfl rfl (by decide) rfl (fun ls hl => ?_)
                  refine lv_goto (tgt := 116) hx₀ hb dX12_flies_252 (by decide) ?_
                  exact ihz7 _ (lf_g_flies_15 mi mz7 knz7 fez7 enz7 jz7 fr hh0 hiz7_0 hiz7_1 hiz7_2 hiz7_5 hiz7_6 hiz7_7 hjz7 c_8 c_9 c_10) (mz7 + 1) (knz7 + 1) mz7 r_11 (g_12 0) (g_12 1) (upd (upd (upd (upd qtz7 (4 * mz7).toNatClampNeg (g_12 0)) ((4 * mz7) + 1).toNatClampNeg (g_12 1)) ((4 * mz7) + 2).toNatClampNeg ((ga_13 1) 0)) ((4 * mz7) + 3).toNatClampNeg ((ga_13 1) 1)) (ga_13 0) (ga_13 1) (ga_13 2) _ _ _ (lf_g_flies_9 mi mz7 knz7 fez7 enz7 jz7 fr hh0 hiz7_0 hiz7_1 hiz7_2 hiz7_5 hiz7_6 hiz7_7 hjz7 c_8 c_9 c_10) (lf_g_flies_10 mi mz7 knz7 fez7 enz7 jz7 fr hh0 hiz7_0 hiz7_1 hiz7_2 hiz7_5 hiz7_6 hiz7_7 hjz7 c_8 c_9 c_10) (lf_g_flies_11 mi mz7 knz7 fez7 enz7 jz7 fr hh0 hiz7_0 hiz7_1 hiz7_2 hiz7_5 hiz7_6 hiz7_7 hjz7 c_8 c_9 c_10) (k_fr_t hiz7_3 c_9 (hiz7_0.1) c_8 (hh0.2) (hh6 p1 (c_2)) (if_neg (Int32.not_lt.mpr c_10)) ((if_neg c_19).symm) (by rw [← hh7]; exact c_18)) (c_17) (lf_g_flies_12 mi mz7 knz7 fez7 enz7 jz7 fr hh0 hiz7_0 hiz7_1 hiz7_2 hiz7_5 hiz7_6 hiz7_7 hjz7 c_8 c_9 c_10) (lf_g_flies_13 mi mz7 knz7 fez7 enz7 jz7 fr r_11 hh0 hiz7_0 hiz7_1 hiz7_2 hiz7_5 hiz7_6 hiz7_7 hjz7 c_8 c_9 c_10 c_19) (lf_g_flies_14 mi mz7 knz7 fez7 enz7 jz7 fr hh0 hiz7_0 hiz7_1 hiz7_2 hiz7_5 hiz7_6 hiz7_7 hjz7 c_8 c_9 c_10) rfl (hP.sub [2, 3, 4, 0, 5, 6, 7, 1] rfl) (hD.sub [2, 3, 4, 0, 5, 6, 7, 1] (by decide +kernel) rfl) hS (lv_sub hl [0, 1, 2, 3, 4, 5, 6, 7] rfl)
                · refine lv_iload hx₀ hb dX12_flies_237 (lv_at hl 0 rfl) ?_
                  refine lv_iconst (v := 1) hx₀ hb dX12_flies_239 (by decide +kernel) ?_
                  refine lv_iadd hx₀ hb dX12_flies_240 ?_
                  refine lv_goto (tgt := 246) hx₀ hb dX12_flies_241 (by decide) ?_
                  refine va_put (D := (dC, dI)) (ci := 11) (v := .int (mz7 + 1)) (ty := .int) (C := RX12) (T := TX12) (N := 30) hx₀ hb hts inlX12 tyX12 tyX12_ok nmX12 hown hK hP hD hS 1 rfl rfl 18 (by decide) (hts (.fieldLink RX12 193 "BittenStickModel" "fell" "I") wd_542) (fun _ h9 => h9) rfl (by decide +kernel) rfl rfl (Nat.le_of_ble_eq_true rfl) dX12_flies_246 ?_
                  clear hP hD hS
                  intro H locs hP hD hS
                  replace hP := k_w2 (wt := [(kAI vTo cI 96 (upd (upd (upd (upd qtz7 (4 * mz7).toNatClampNeg (g_12 0)) ((4 * mz7) + 1).toNatClampNeg (g_12 1)) ((4 * mz7) + 2).toNatClampNeg ((ga_13 1) 0)) ((4 * mz7) + 3).toNatClampNeg ((ga_13 1) 1))), (kX12 hm vFo vSi vIt vMo la vBy vTy mi vMi pn vPs gn vGs fn vFt le vTo (knz7 + 1) (mz7 + 1) r_11 ca (g_12 0) (g_12 1) vPr vSt vFn sn vSg vAl dr), (kAI vMi cI 24 qMi), (kAI vPs cI 32 qPs), (kAI vGs cI 16 qGs), (kAI vPr cI 2 (ga_13 0)), (kAI vSt cI 2 (ga_13 1)), (kAI vFn cI 2 (ga_13 2))]) hP hD rfl
                  replace hD := hP.2
                  replace hP := hP.1
                  refine lv_iinc (v := mz7 + 1) (lv' := [(7, .int (mz7 + 1)), (0, .ref hm), (1, .int p1), (2, .int le1), (3, .int ri1), (4, .int h1), (5, .int fr), (6, .int th)]) hx₀ hb dX12_flies_249 hl (k := 0) rfl rfl (by decide) rfl (fun ls hl => ?_)
                  refine lv_goto (tgt := 116) hx₀ hb dX12_flies_252 (by decide) ?_
                  exact ihz7 _ (lf_g_flies_15 mi mz7 knz7 fez7 enz7 jz7 fr hh0 hiz7_0 hiz7_1 hiz7_2 hiz7_5 hiz7_6 hiz7_7 hjz7 c_8 c_9 c_10) (mz7 + 1) (knz7 + 1) (mz7 + 1) r_11 (g_12 0) (g_12 1) (upd (upd (upd (upd qtz7 (4 * mz7).toNatClampNeg (g_12 0)) ((4 * mz7) + 1).toNatClampNeg (g_12 1)) ((4 * mz7) + 2).toNatClampNeg ((ga_13 1) 0)) ((4 * mz7) + 3).toNatClampNeg ((ga_13 1) 1)) (ga_13 0) (ga_13 1) (ga_13 2) _ _ _ (lf_g_flies_9 mi mz7 knz7 fez7 enz7 jz7 fr hh0 hiz7_0 hiz7_1 hiz7_2 hiz7_5 hiz7_6 hiz7_7 hjz7 c_8 c_9 c_10) (lf_g_flies_10 mi mz7 knz7 fez7 enz7 jz7 fr hh0 hiz7_0 hiz7_1 hiz7_2 hiz7_5 hiz7_6 hiz7_7 hjz7 c_8 c_9 c_10) (lf_g_flies_16 mi mz7 knz7 fez7 enz7 jz7 fr hh0 hiz7_0 hiz7_1 hiz7_2 hiz7_5 hiz7_6 hiz7_7 hjz7 c_8 c_9 c_10) (k_fr_t hiz7_3 c_9 (hiz7_0.1) c_8 (hh0.2) (hh6 p1 (c_2)) (if_neg (Int32.not_lt.mpr c_10)) ((if_pos c_19).symm) (by rw [← hh7]; exact c_18)) (c_17) (lf_g_flies_17 mi mz7 knz7 fez7 enz7 jz7 fr hh0 hiz7_0 hiz7_1 hiz7_2 hiz7_5 hiz7_6 hiz7_7 hjz7 c_8 c_9 c_10) (show r_11 = 0 ∨ (knz7 + 1) = 0 ∨ (mz7 + 1) ≤ 23 from (Or.inl (c_19))) (lf_g_flies_14 mi mz7 knz7 fez7 enz7 jz7 fr hh0 hiz7_0 hiz7_1 hiz7_2 hiz7_5 hiz7_6 hiz7_7 hjz7 c_8 c_9 c_10) rfl (hP.sub [2, 3, 4, 0, 5, 6, 7, 1] rfl) (hD.sub [2, 3, 4, 0, 5, 6, 7, 1] (by decide +kernel) rfl) hS (lv_sub hl [0, 1, 2, 3, 4, 5, 6, 7] rfl)
              · refine lv_iload hx₀ hb dX12_flies_144 (lv_at hl 5 rfl) ?_
                refine lv_goto (tgt := 151) hx₀ hb dX12_flies_146 (by decide) ?_
                obtain ⟨hPc, hDc, hFc, hC⟩ := k_cw (wc := [(kX12 hm vFo vSi vIt vMo la vBy vTy mi vMi pn vPs gn vGs fn vFt le vTo knz7 fez7 enz7 ca anz7 coz7 vPr vSt vFn sn vSg vAl dr), (kAI vMi cI 24 qMi), (kAI vPs cI 32 qPs), (kAI vGs cI 16 qGs), (kAI vPr cI 2 qpz7), (kAI vSt cI 2 qsz7), (kAI vFn cI 2 qfz7)]) hP hD hS hA [7, 0, 1, 2, 4, 5, 6] (by decide +kernel) rfl
                refine va_calli (va_runV (As := [.int p1, .int mz7, .int h1]) (rest := [.ref hm]) ⟨hx₀, hb, hml, hown, hts⟩ (e_goes l dC dI cI cJ cQ H.size hm p1 mz7 h1 vFo vSi vIt vMo la vBy vTy mi vMi pn vPs gn vGs fn vFt le vTo knz7 fez7 enz7 ca anz7 coz7 vPr vSt vFn sn vSg vAl dr qMi qPs qGs qpz7 qsz7 qfz7 (hiz7_4) (lf_g_flies_3 pn p1 hh1 c_2) (lf_g_flies_18 mi mz7 knz7 fez7 enz7 jz7 fr hh0 hiz7_0 hiz7_1 hiz7_2 hiz7_5 hiz7_6 hiz7_7 hjz7 c_8 c_9 c_10) (hh4)) (cwV 3 hts (kGV wd_549 wd_546 wd_547 wd_548 wd_5) rfl rfl rfl (by decide +kernel) ⟨Nat.le_of_ble_eq_true rfl, Nat.le_of_ble_eq_true rfl⟩) (k_preV11 (q0 := 0) hK hPc hDc hN rfl) rfl rfl hl.1 rfl (lv_room (Nat.le_of_ble_eq_true rfl)) dX12_flies_151 ⟨by decide +kernel, by decide +kernel⟩) hS (fun q _ h => hFc q h) hFc (fun r_20 u₀ t₀ H1 locs ht hvm hw hB hz1 hk1 hS => ?_)
                obtain ⟨g_21, ga_22, gl_23, gb_24, gp_25⟩ := u₀
                obtain ⟨hP1, hK1, hD1⟩ := hB
                rw [ht] at hP1
                have hJ := k_jn (wr := [(kAI vTo cI 96 qtz7)]) (wt := [(kAI vTo cI 96 qtz7), (kX12 hm vFo vSi vIt vMo la vBy vTy mi vMi pn vPs gn vGs fn vFt le vTo knz7 fez7 enz7 ca (g_21 0) (g_21 1) vPr vSt vFn sn vSg vAl dr), (kAI vMi cI 24 qMi), (kAI vPs cI 32 qPs), (kAI vGs cI 16 qGs), (kAI vPr cI 2 (ga_22 0)), (kAI vSt cI 2 (ga_22 1)), (kAI vFn cI 2 (ga_22 2))]) hP hD hC [3] rfl (by decide +kernel) (by decide +kernel) hk1 hFc hP1 hD1 rfl
                clear hP hD hPc hDc hFc hC hP1 hD1 hK1 hz1 hk1 hvm ht
                obtain ⟨hP, hD⟩ := hJ
                generalize H1 = H at hP hS ⊢
                try dsimp only at hw
                obtain ⟨c_26, c_27⟩ := hw
                refine va_put (D := (dC, dI)) (ci := 11) (v := .int r_20) (ty := .int) (C := RX12) (T := TX12) (N := 30) hx₀ hb hts inlX12 tyX12 tyX12_ok nmX12 hown hK hP hD hS 1 rfl rfl 19 (by decide) (hts (.fieldLink RX12 196 "BittenStickModel" "end" "I") wd_543) (fun _ h9 => h9) rfl (by decide +kernel) rfl rfl (Nat.le_of_ble_eq_true rfl) dX12_flies_154 ?_
                clear hP hD hS
                intro H locs hP hD hS
                replace hP := k_w2 (wt := [(kAI vTo cI 96 qtz7), (kX12 hm vFo vSi vIt vMo la vBy vTy mi vMi pn vPs gn vGs fn vFt le vTo knz7 fez7 r_20 ca (g_21 0) (g_21 1) vPr vSt vFn sn vSg vAl dr), (kAI vMi cI 24 qMi), (kAI vPs cI 32 qPs), (kAI vGs cI 16 qGs), (kAI vPr cI 2 (ga_22 0)), (kAI vSt cI 2 (ga_22 1)), (kAI vFn cI 2 (ga_22 2))]) hP hD rfl
                replace hD := hP.2
                replace hP := hP.1
                refine lv_aload_n hx₀ hb dX12_flies_157 rfl (lv_at hl 1 rfl) ?_
                refine va_get (D := (dC, dI)) (ci := 11) (v := .ref vTo) (C := RX12) (T := TX12) (N := 30) hx₀ hb hts inlX12 hown hK hP 1 rfl rfl 16 (by decide) (hts (.fieldLink RX12 40 "BittenStickModel" "told" "[I") wd_125) (fun _ h9 => h9) rfl dX12_flies_158 ?_
                refine lv_iconst (v := 4) hx₀ hb dX12_flies_161 (by decide +kernel) ?_
                refine lv_iload hx₀ hb dX12_flies_162 (lv_at hl 0 rfl) ?_
                refine lv_imul hx₀ hb dX12_flies_164 ?_
                refine lv_aload_n hx₀ hb dX12_flies_165 rfl (lv_at hl 1 rfl) ?_
                refine va_get (D := (dC, dI)) (ci := 11) (v := .int (g_21 0)) (C := RX12) (T := TX12) (N := 30) hx₀ hb hts inlX12 hown hK hP 1 rfl rfl 21 (by decide) (hts (.fieldLink RX12 184 "BittenStickModel" "anger" "I") wd_544) (fun _ h9 => h9) rfl dX12_flies_166 ?_
                refine va_iast hx₀ hb hK hP hD hS 0 0 rfl rfl (vp_in_iff.mpr (lf_g_flies_19 mi mz7 knz7 fez7 enz7 jz7 fr hh0 hiz7_0 hiz7_1 hiz7_2 hiz7_5 hiz7_6 hiz7_7 hjz7 c_8 c_9 c_10)) dX12_flies_169 ?_
                clear hP hD hS
                intro H locs hP hD hS
                replace hP := k_w2 (wt := [(kAI vTo cI 96 (upd qtz7 (4 * mz7).toNatClampNeg (g_21 0))), (kX12 hm vFo vSi vIt vMo la vBy vTy mi vMi pn vPs gn vGs fn vFt le vTo knz7 fez7 r_20 ca (g_21 0) (g_21 1) vPr vSt vFn sn vSg vAl dr), (kAI vMi cI 24 qMi), (kAI vPs cI 32 qPs), (kAI vGs cI 16 qGs), (kAI vPr cI 2 (ga_22 0)), (kAI vSt cI 2 (ga_22 1)), (kAI vFn cI 2 (ga_22 2))]) hP hD rfl
                replace hD := hP.2
                replace hP := hP.1
                refine lv_aload_n hx₀ hb dX12_flies_170 rfl (lv_at hl 1 rfl) ?_
                refine va_get (D := (dC, dI)) (ci := 11) (v := .ref vTo) (C := RX12) (T := TX12) (N := 30) hx₀ hb hts inlX12 hown hK hP 1 rfl rfl 16 (by decide) (hts (.fieldLink RX12 40 "BittenStickModel" "told" "[I") wd_125) (fun _ h9 => h9) rfl dX12_flies_171 ?_
                refine lv_iconst (v := 4) hx₀ hb dX12_flies_174 (by decide +kernel) ?_
                refine lv_iload hx₀ hb dX12_flies_175 (lv_at hl 0 rfl) ?_
                refine lv_imul hx₀ hb dX12_flies_177 ?_
                refine lv_iconst (v := 1) hx₀ hb dX12_flies_178 (by decide +kernel) ?_
                refine lv_iadd hx₀ hb dX12_flies_179 ?_
                refine lv_aload_n hx₀ hb dX12_flies_180 rfl (lv_at hl 1 rfl) ?_
                refine va_get (D := (dC, dI)) (ci := 11) (v := .int (g_21 1)) (C := RX12) (T := TX12) (N := 30) hx₀ hb hts inlX12 hown hK hP 1 rfl rfl 22 (by decide) (hts (.fieldLink RX12 177 "BittenStickModel" "cold" "I") wd_545) (fun _ h9 => h9) rfl dX12_flies_181 ?_
                refine va_iast hx₀ hb hK hP hD hS 0 0 rfl rfl (vp_in_iff.mpr (lf_g_flies_20 mi mz7 knz7 fez7 enz7 jz7 fr hh0 hiz7_0 hiz7_1 hiz7_2 hiz7_5 hiz7_6 hiz7_7 hjz7 c_8 c_9 c_10)) dX12_flies_184 ?_
                clear hP hD hS
                intro H locs hP hD hS
                replace hP := k_w2 (wt := [(kAI vTo cI 96 (upd (upd qtz7 (4 * mz7).toNatClampNeg (g_21 0)) ((4 * mz7) + 1).toNatClampNeg (g_21 1))), (kX12 hm vFo vSi vIt vMo la vBy vTy mi vMi pn vPs gn vGs fn vFt le vTo knz7 fez7 r_20 ca (g_21 0) (g_21 1) vPr vSt vFn sn vSg vAl dr), (kAI vMi cI 24 qMi), (kAI vPs cI 32 qPs), (kAI vGs cI 16 qGs), (kAI vPr cI 2 (ga_22 0)), (kAI vSt cI 2 (ga_22 1)), (kAI vFn cI 2 (ga_22 2))]) hP hD rfl
                replace hD := hP.2
                replace hP := hP.1
                refine lv_aload_n hx₀ hb dX12_flies_185 rfl (lv_at hl 1 rfl) ?_
                refine va_get (D := (dC, dI)) (ci := 11) (v := .ref vTo) (C := RX12) (T := TX12) (N := 30) hx₀ hb hts inlX12 hown hK hP 1 rfl rfl 16 (by decide) (hts (.fieldLink RX12 40 "BittenStickModel" "told" "[I") wd_125) (fun _ h9 => h9) rfl dX12_flies_186 ?_
                refine lv_iconst (v := 4) hx₀ hb dX12_flies_189 (by decide +kernel) ?_
                refine lv_iload hx₀ hb dX12_flies_190 (lv_at hl 0 rfl) ?_
                refine lv_imul hx₀ hb dX12_flies_192 ?_
                refine lv_iconst (v := 2) hx₀ hb dX12_flies_193 (by decide +kernel) ?_
                refine lv_iadd hx₀ hb dX12_flies_194 ?_
                refine lv_aload_n hx₀ hb dX12_flies_195 rfl (lv_at hl 1 rfl) ?_
                refine va_get (D := (dC, dI)) (ci := 11) (v := .ref vSt) (C := RX12) (T := TX12) (N := 30) hx₀ hb hts inlX12 hown hK hP 1 rfl rfl 24 (by decide) (hts (.fieldLink RX12 46 "BittenStickModel" "strong" "[I") wd_127) (fun _ h9 => h9) rfl dX12_flies_196 ?_
                refine lv_iconst (v := 0) hx₀ hb dX12_flies_199 (by decide +kernel) ?_
                refine va_iald hx₀ hb hK hP 6 0 rfl rfl (by unfold vp_in; decide +kernel) dX12_flies_200 ?_
                refine k_topi (v := (ga_22 1) 0) rfl ?_
                refine va_iast hx₀ hb hK hP hD hS 0 0 rfl rfl (vp_in_iff.mpr (lf_g_flies_21 mi mz7 knz7 fez7 enz7 jz7 fr hh0 hiz7_0 hiz7_1 hiz7_2 hiz7_5 hiz7_6 hiz7_7 hjz7 c_8 c_9 c_10)) dX12_flies_201 ?_
                clear hP hD hS
                intro H locs hP hD hS
                replace hP := k_w2 (wt := [(kAI vTo cI 96 (upd (upd (upd qtz7 (4 * mz7).toNatClampNeg (g_21 0)) ((4 * mz7) + 1).toNatClampNeg (g_21 1)) ((4 * mz7) + 2).toNatClampNeg ((ga_22 1) 0))), (kX12 hm vFo vSi vIt vMo la vBy vTy mi vMi pn vPs gn vGs fn vFt le vTo knz7 fez7 r_20 ca (g_21 0) (g_21 1) vPr vSt vFn sn vSg vAl dr), (kAI vMi cI 24 qMi), (kAI vPs cI 32 qPs), (kAI vGs cI 16 qGs), (kAI vPr cI 2 (ga_22 0)), (kAI vSt cI 2 (ga_22 1)), (kAI vFn cI 2 (ga_22 2))]) hP hD rfl
                replace hD := hP.2
                replace hP := hP.1
                refine lv_aload_n hx₀ hb dX12_flies_202 rfl (lv_at hl 1 rfl) ?_
                refine va_get (D := (dC, dI)) (ci := 11) (v := .ref vTo) (C := RX12) (T := TX12) (N := 30) hx₀ hb hts inlX12 hown hK hP 1 rfl rfl 16 (by decide) (hts (.fieldLink RX12 40 "BittenStickModel" "told" "[I") wd_125) (fun _ h9 => h9) rfl dX12_flies_203 ?_
                refine lv_iconst (v := 4) hx₀ hb dX12_flies_206 (by decide +kernel) ?_
                refine lv_iload hx₀ hb dX12_flies_207 (lv_at hl 0 rfl) ?_
                refine lv_imul hx₀ hb dX12_flies_209 ?_
                refine lv_iconst (v := 3) hx₀ hb dX12_flies_210 (by decide +kernel) ?_
                refine lv_iadd hx₀ hb dX12_flies_211 ?_
                refine lv_aload_n hx₀ hb dX12_flies_212 rfl (lv_at hl 1 rfl) ?_
                refine va_get (D := (dC, dI)) (ci := 11) (v := .ref vSt) (C := RX12) (T := TX12) (N := 30) hx₀ hb hts inlX12 hown hK hP 1 rfl rfl 24 (by decide) (hts (.fieldLink RX12 46 "BittenStickModel" "strong" "[I") wd_127) (fun _ h9 => h9) rfl dX12_flies_213 ?_
                refine lv_iconst (v := 1) hx₀ hb dX12_flies_216 (by decide +kernel) ?_
                refine va_iald hx₀ hb hK hP 6 0 rfl rfl (by unfold vp_in; decide +kernel) dX12_flies_217 ?_
                refine k_topi (v := (ga_22 1) 1) rfl ?_
                refine va_iast hx₀ hb hK hP hD hS 0 0 rfl rfl (vp_in_iff.mpr (lf_g_flies_22 mi mz7 knz7 fez7 enz7 jz7 fr hh0 hiz7_0 hiz7_1 hiz7_2 hiz7_5 hiz7_6 hiz7_7 hjz7 c_8 c_9 c_10)) dX12_flies_218 ?_
                clear hP hD hS
                intro H locs hP hD hS
                replace hP := k_w2 (wt := [(kAI vTo cI 96 (upd (upd (upd (upd qtz7 (4 * mz7).toNatClampNeg (g_21 0)) ((4 * mz7) + 1).toNatClampNeg (g_21 1)) ((4 * mz7) + 2).toNatClampNeg ((ga_22 1) 0)) ((4 * mz7) + 3).toNatClampNeg ((ga_22 1) 1))), (kX12 hm vFo vSi vIt vMo la vBy vTy mi vMi pn vPs gn vGs fn vFt le vTo knz7 fez7 r_20 ca (g_21 0) (g_21 1) vPr vSt vFn sn vSg vAl dr), (kAI vMi cI 24 qMi), (kAI vPs cI 32 qPs), (kAI vGs cI 16 qGs), (kAI vPr cI 2 (ga_22 0)), (kAI vSt cI 2 (ga_22 1)), (kAI vFn cI 2 (ga_22 2))]) hP hD rfl
                replace hD := hP.2
                replace hP := hP.1
                refine lv_aload_n hx₀ hb dX12_flies_219 rfl (lv_at hl 1 rfl) ?_
                refine lv_dup hx₀ hb dX12_flies_220 rfl ?_
                refine va_get (D := (dC, dI)) (ci := 11) (v := .int knz7) (C := RX12) (T := TX12) (N := 30) hx₀ hb hts inlX12 hown hK hP 1 rfl rfl 17 (by decide) (hts (.fieldLink RX12 190 "BittenStickModel" "known" "I") wd_541) (fun _ h9 => h9) rfl dX12_flies_221 ?_
                refine lv_iconst (v := 1) hx₀ hb dX12_flies_224 (by decide +kernel) ?_
                refine lv_iadd hx₀ hb dX12_flies_225 ?_
                refine va_put (D := (dC, dI)) (ci := 11) (v := .int (knz7 + 1)) (ty := .int) (C := RX12) (T := TX12) (N := 30) hx₀ hb hts inlX12 tyX12 tyX12_ok nmX12 hown hK hP hD hS 1 rfl rfl 17 (by decide) (hts (.fieldLink RX12 190 "BittenStickModel" "known" "I") wd_541) (fun _ h9 => h9) rfl (by decide +kernel) rfl rfl (Nat.le_of_ble_eq_true rfl) dX12_flies_226 ?_
                clear hP hD hS
                intro H locs hP hD hS
                replace hP := k_w2 (wt := [(kAI vTo cI 96 (upd (upd (upd (upd qtz7 (4 * mz7).toNatClampNeg (g_21 0)) ((4 * mz7) + 1).toNatClampNeg (g_21 1)) ((4 * mz7) + 2).toNatClampNeg ((ga_22 1) 0)) ((4 * mz7) + 3).toNatClampNeg ((ga_22 1) 1))), (kX12 hm vFo vSi vIt vMo la vBy vTy mi vMi pn vPs gn vGs fn vFt le vTo (knz7 + 1) fez7 r_20 ca (g_21 0) (g_21 1) vPr vSt vFn sn vSg vAl dr), (kAI vMi cI 24 qMi), (kAI vPs cI 32 qPs), (kAI vGs cI 16 qGs), (kAI vPr cI 2 (ga_22 0)), (kAI vSt cI 2 (ga_22 1)), (kAI vFn cI 2 (ga_22 2))]) hP hD rfl
                replace hD := hP.2
                replace hP := hP.1
                refine lv_aload_n hx₀ hb dX12_flies_229 rfl (lv_at hl 1 rfl) ?_
                refine lv_aload_n hx₀ hb dX12_flies_230 rfl (lv_at hl 1 rfl) ?_
                refine va_get (D := (dC, dI)) (ci := 11) (v := .int r_20) (C := RX12) (T := TX12) (N := 30) hx₀ hb hts inlX12 hown hK hP 1 rfl rfl 19 (by decide) (hts (.fieldLink RX12 196 "BittenStickModel" "end" "I") wd_543) (fun _ h9 => h9) rfl dX12_flies_231 ?_
                refine lv_if_ne (tgt := 244) hx₀ hb dX12_flies_234 (by decide) (fun c_28 => ?_) (fun c_28 => ?_)
                · refine lv_iload hx₀ hb dX12_flies_244 (lv_at hl 0 rfl) ?_
                  refine va_put (D := (dC, dI)) (ci := 11) (v := .int mz7) (ty := .int) (C := RX12) (T := TX12) (N := 30) hx₀ hb hts inlX12 tyX12 tyX12_ok nmX12 hown hK hP hD hS 1 rfl rfl 18 (by decide) (hts (.fieldLink RX12 193 "BittenStickModel" "fell" "I") wd_542) (fun _ h9 => h9) rfl (by decide +kernel) rfl rfl (Nat.le_of_ble_eq_true rfl) dX12_flies_246 ?_
                  clear hP hD hS
                  intro H locs hP hD hS
                  replace hP := k_w2 (wt := [(kAI vTo cI 96 (upd (upd (upd (upd qtz7 (4 * mz7).toNatClampNeg (g_21 0)) ((4 * mz7) + 1).toNatClampNeg (g_21 1)) ((4 * mz7) + 2).toNatClampNeg ((ga_22 1) 0)) ((4 * mz7) + 3).toNatClampNeg ((ga_22 1) 1))), (kX12 hm vFo vSi vIt vMo la vBy vTy mi vMi pn vPs gn vGs fn vFt le vTo (knz7 + 1) mz7 r_20 ca (g_21 0) (g_21 1) vPr vSt vFn sn vSg vAl dr), (kAI vMi cI 24 qMi), (kAI vPs cI 32 qPs), (kAI vGs cI 16 qGs), (kAI vPr cI 2 (ga_22 0)), (kAI vSt cI 2 (ga_22 1)), (kAI vFn cI 2 (ga_22 2))]) hP hD rfl
                  replace hD := hP.2
                  replace hP := hP.1
                  refine lv_iinc (v := mz7 + 1) (lv' := [(7, .int (mz7 + 1)), (0, .ref hm), (1, .int p1), (2, .int le1), (3, .int ri1), (4, .int h1), (5, .int fr), (6, .int th)]) hx₀ hb dX12_flies_249 hl (k := 0) rfl rfl (by decide) rfl (fun ls hl => ?_)
                  refine lv_goto (tgt := 116) hx₀ hb dX12_flies_252 (by decide) ?_
                  exact ihz7 _ (lf_g_flies_29 mi mz7 knz7 fez7 enz7 jz7 fr hh0 hiz7_0 hiz7_1 hiz7_2 hiz7_5 hiz7_6 hiz7_7 hjz7 c_8 c_9 c_10) (mz7 + 1) (knz7 + 1) mz7 r_20 (g_21 0) (g_21 1) (upd (upd (upd (upd qtz7 (4 * mz7).toNatClampNeg (g_21 0)) ((4 * mz7) + 1).toNatClampNeg (g_21 1)) ((4 * mz7) + 2).toNatClampNeg ((ga_22 1) 0)) ((4 * mz7) + 3).toNatClampNeg ((ga_22 1) 1)) (ga_22 0) (ga_22 1) (ga_22 2) _ _ _ (lf_g_flies_23 mi mz7 knz7 fez7 enz7 jz7 fr hh0 hiz7_0 hiz7_1 hiz7_2 hiz7_5 hiz7_6 hiz7_7 hjz7 c_8 c_9 c_10) (lf_g_flies_24 mi mz7 knz7 fez7 enz7 jz7 fr hh0 hiz7_0 hiz7_1 hiz7_2 hiz7_5 hiz7_6 hiz7_7 hjz7 c_8 c_9 c_10) (lf_g_flies_25 mi mz7 knz7 fez7 enz7 jz7 fr hh0 hiz7_0 hiz7_1 hiz7_2 hiz7_5 hiz7_6 hiz7_7 hjz7 c_8 c_9 c_10) (k_fr_t hiz7_3 c_9 (hiz7_0.1) c_8 (hh0.2) (hh6 p1 (c_2)) (if_pos (Int32.not_le.mp c_10)) ((if_neg c_28).symm) (by rw [← hh7]; exact c_27)) (c_26) (lf_g_flies_26 mi mz7 knz7 fez7 enz7 jz7 fr hh0 hiz7_0 hiz7_1 hiz7_2 hiz7_5 hiz7_6 hiz7_7 hjz7 c_8 c_9 c_10) (lf_g_flies_27 mi mz7 knz7 fez7 enz7 jz7 fr r_20 hh0 hiz7_0 hiz7_1 hiz7_2 hiz7_5 hiz7_6 hiz7_7 hjz7 c_8 c_9 c_10 c_28) (lf_g_flies_28 mi mz7 knz7 fez7 enz7 jz7 fr hh0 hiz7_0 hiz7_1 hiz7_2 hiz7_5 hiz7_6 hiz7_7 hjz7 c_8 c_9 c_10) rfl (hP.sub [2, 3, 4, 0, 5, 6, 7, 1] rfl) (hD.sub [2, 3, 4, 0, 5, 6, 7, 1] (by decide +kernel) rfl) hS (lv_sub hl [0, 1, 2, 3, 4, 5, 6, 7] rfl)
                · refine lv_iload hx₀ hb dX12_flies_237 (lv_at hl 0 rfl) ?_
                  refine lv_iconst (v := 1) hx₀ hb dX12_flies_239 (by decide +kernel) ?_
                  refine lv_iadd hx₀ hb dX12_flies_240 ?_
                  refine lv_goto (tgt := 246) hx₀ hb dX12_flies_241 (by decide) ?_
                  refine va_put (D := (dC, dI)) (ci := 11) (v := .int (mz7 + 1)) (ty := .int) (C := RX12) (T := TX12) (N := 30) hx₀ hb hts inlX12 tyX12 tyX12_ok nmX12 hown hK hP hD hS 1 rfl rfl 18 (by decide) (hts (.fieldLink RX12 193 "BittenStickModel" "fell" "I") wd_542) (fun _ h9 => h9) rfl (by decide +kernel) rfl rfl (Nat.le_of_ble_eq_true rfl) dX12_flies_246 ?_
                  clear hP hD hS
                  intro H locs hP hD hS
                  replace hP := k_w2 (wt := [(kAI vTo cI 96 (upd (upd (upd (upd qtz7 (4 * mz7).toNatClampNeg (g_21 0)) ((4 * mz7) + 1).toNatClampNeg (g_21 1)) ((4 * mz7) + 2).toNatClampNeg ((ga_22 1) 0)) ((4 * mz7) + 3).toNatClampNeg ((ga_22 1) 1))), (kX12 hm vFo vSi vIt vMo la vBy vTy mi vMi pn vPs gn vGs fn vFt le vTo (knz7 + 1) (mz7 + 1) r_20 ca (g_21 0) (g_21 1) vPr vSt vFn sn vSg vAl dr), (kAI vMi cI 24 qMi), (kAI vPs cI 32 qPs), (kAI vGs cI 16 qGs), (kAI vPr cI 2 (ga_22 0)), (kAI vSt cI 2 (ga_22 1)), (kAI vFn cI 2 (ga_22 2))]) hP hD rfl
                  replace hD := hP.2
                  replace hP := hP.1
                  refine lv_iinc (v := mz7 + 1) (lv' := [(7, .int (mz7 + 1)), (0, .ref hm), (1, .int p1), (2, .int le1), (3, .int ri1), (4, .int h1), (5, .int fr), (6, .int th)]) hx₀ hb dX12_flies_249 hl (k := 0) rfl rfl (by decide) rfl (fun ls hl => ?_)
                  refine lv_goto (tgt := 116) hx₀ hb dX12_flies_252 (by decide) ?_
                  exact ihz7 _ (lf_g_flies_29 mi mz7 knz7 fez7 enz7 jz7 fr hh0 hiz7_0 hiz7_1 hiz7_2 hiz7_5 hiz7_6 hiz7_7 hjz7 c_8 c_9 c_10) (mz7 + 1) (knz7 + 1) (mz7 + 1) r_20 (g_21 0) (g_21 1) (upd (upd (upd (upd qtz7 (4 * mz7).toNatClampNeg (g_21 0)) ((4 * mz7) + 1).toNatClampNeg (g_21 1)) ((4 * mz7) + 2).toNatClampNeg ((ga_22 1) 0)) ((4 * mz7) + 3).toNatClampNeg ((ga_22 1) 1)) (ga_22 0) (ga_22 1) (ga_22 2) _ _ _ (lf_g_flies_23 mi mz7 knz7 fez7 enz7 jz7 fr hh0 hiz7_0 hiz7_1 hiz7_2 hiz7_5 hiz7_6 hiz7_7 hjz7 c_8 c_9 c_10) (lf_g_flies_24 mi mz7 knz7 fez7 enz7 jz7 fr hh0 hiz7_0 hiz7_1 hiz7_2 hiz7_5 hiz7_6 hiz7_7 hjz7 c_8 c_9 c_10) (lf_g_flies_30 mi mz7 knz7 fez7 enz7 jz7 fr hh0 hiz7_0 hiz7_1 hiz7_2 hiz7_5 hiz7_6 hiz7_7 hjz7 c_8 c_9 c_10) (k_fr_t hiz7_3 c_9 (hiz7_0.1) c_8 (hh0.2) (hh6 p1 (c_2)) (if_pos (Int32.not_le.mp c_10)) ((if_pos c_28).symm) (by rw [← hh7]; exact c_27)) (c_26) (lf_g_flies_31 mi mz7 knz7 fez7 enz7 jz7 fr hh0 hiz7_0 hiz7_1 hiz7_2 hiz7_5 hiz7_6 hiz7_7 hjz7 c_8 c_9 c_10) (show r_20 = 0 ∨ (knz7 + 1) = 0 ∨ (mz7 + 1) ≤ 23 from (Or.inl (c_28))) (lf_g_flies_28 mi mz7 knz7 fez7 enz7 jz7 fr hh0 hiz7_0 hiz7_1 hiz7_2 hiz7_5 hiz7_6 hiz7_7 hjz7 c_8 c_9 c_10) rfl (hP.sub [2, 3, 4, 0, 5, 6, 7, 1] rfl) (hD.sub [2, 3, 4, 0, 5, 6, 7, 1] (by decide +kernel) rfl) hS (lv_sub hl [0, 1, 2, 3, 4, 5, 6, 7] rfl)
      rw [if_neg c_6] at hw
      refine k_topi (v := 0) hw ?_
      refine lv_if_ne (tgt := 40) hx₀ hb dX12_flies_36 (by decide) (fun c9 => absurd (by decide +kernel) c9) (fun _ => ?_)
      obtain ⟨hP9, hD9⟩ := k_c2 (wc := [(kX12 hm vFo vSi vIt vMo la vBy vTy mi vMi pn vPs gn vGs fn vFt le vTo 0 0 1 ca an co vPr vSt vFn sn vSg vAl dr), (kAI vMi cI 24 qMi), (kAI vPs cI 32 qPs), (kAI vGs cI 16 qGs), (kAI vTo cI 96 qTo), (kAI vPr cI 2 qPr), (kAI vSt cI 2 qSt), (kAI vFn cI 2 qFn)]) hP hD [7, 0, 1, 2, 3, 4, 5, 6] (by decide +kernel) rfl
      exact W.vret hx₀ hb hr (fun t₀ ht hW => ⟨⟨(k_fn [(0 : Int32), (0 : Int32), (1 : Int32), an, co], k_fa [qTo, qPr, qSt, qFn], k_fl [], k_fL [], k_fp []), rfl, ⟨hh3, (show 0 ≤ (0 : Int32) ∧ (0 : Int32) ≤ 24 from ⟨(by decide), (by decide)⟩), (show (1 : Int32) = 0 ∨ (0 : Int32) = 0 ∨ (0 : Int32) ≤ 23 from (Or.inr (Or.inl (rfl)))), (show 0 ≤ (0 : Int32) ∧ (0 : Int32) ≤ 24 from ⟨(by decide), (by decide)⟩), (k_fd_n (show ¬ ((0 ≤ p1 ∧ p1 < pn) ∧ (0 ≤ le1 ∧ le1 < gn) ∧ 0 ≤ ri1 ∧ ri1 < gn) from (fun z => c_6 (And.intro z.2.2.1 z.2.2.2))))⟩, by rw [ht]; exact hP9, va_K.moved hW.alike hK, hD9⟩, hS.F ht⟩) hS.2.2 dX12_flies_39
    rw [if_neg c_4] at hw
    refine k_topi (v := 0) hw ?_
    refine lv_if_eq (tgt := 39) hx₀ hb dX12_flies_28 (by decide) (fun _ => ?_) (fun c9 => absurd (by decide +kernel) c9)
    obtain ⟨hP9, hD9⟩ := k_c2 (wc := [(kX12 hm vFo vSi vIt vMo la vBy vTy mi vMi pn vPs gn vGs fn vFt le vTo 0 0 1 ca an co vPr vSt vFn sn vSg vAl dr), (kAI vMi cI 24 qMi), (kAI vPs cI 32 qPs), (kAI vGs cI 16 qGs), (kAI vTo cI 96 qTo), (kAI vPr cI 2 qPr), (kAI vSt cI 2 qSt), (kAI vFn cI 2 qFn)]) hP hD [7, 0, 1, 2, 3, 4, 5, 6] (by decide +kernel) rfl
    exact W.vret hx₀ hb hr (fun t₀ ht hW => ⟨⟨(k_fn [(0 : Int32), (0 : Int32), (1 : Int32), an, co], k_fa [qTo, qPr, qSt, qFn], k_fl [], k_fL [], k_fp []), rfl, ⟨hh3, (show 0 ≤ (0 : Int32) ∧ (0 : Int32) ≤ 24 from ⟨(by decide), (by decide)⟩), (show (1 : Int32) = 0 ∨ (0 : Int32) = 0 ∨ (0 : Int32) ≤ 23 from (Or.inr (Or.inl (rfl)))), (show 0 ≤ (0 : Int32) ∧ (0 : Int32) ≤ 24 from ⟨(by decide), (by decide)⟩), (k_fd_n (show ¬ ((0 ≤ p1 ∧ p1 < pn) ∧ (0 ≤ le1 ∧ le1 < gn) ∧ 0 ≤ ri1 ∧ ri1 < gn) from (fun z => c_4 z.2.1)))⟩, by rw [ht]; exact hP9, va_K.moved hW.alike hK, hD9⟩, hS.F ht⟩) hS.2.2 dX12_flies_39
  rw [if_neg c_2] at hw
  refine k_topi (v := 0) hw ?_
  refine lv_if_eq (tgt := 39) hx₀ hb dX12_flies_20 (by decide) (fun _ => ?_) (fun c9 => absurd (by decide +kernel) c9)
  obtain ⟨hP9, hD9⟩ := k_c2 (wc := [(kX12 hm vFo vSi vIt vMo la vBy vTy mi vMi pn vPs gn vGs fn vFt le vTo 0 0 1 ca an co vPr vSt vFn sn vSg vAl dr), (kAI vMi cI 24 qMi), (kAI vPs cI 32 qPs), (kAI vGs cI 16 qGs), (kAI vTo cI 96 qTo), (kAI vPr cI 2 qPr), (kAI vSt cI 2 qSt), (kAI vFn cI 2 qFn)]) hP hD [7, 0, 1, 2, 3, 4, 5, 6] (by decide +kernel) rfl
  exact W.vret hx₀ hb hr (fun t₀ ht hW => ⟨⟨(k_fn [(0 : Int32), (0 : Int32), (1 : Int32), an, co], k_fa [qTo, qPr, qSt, qFn], k_fl [], k_fL [], k_fp []), rfl, ⟨hh3, (show 0 ≤ (0 : Int32) ∧ (0 : Int32) ≤ 24 from ⟨(by decide), (by decide)⟩), (show (1 : Int32) = 0 ∨ (0 : Int32) = 0 ∨ (0 : Int32) ≤ 23 from (Or.inr (Or.inl (rfl)))), (show 0 ≤ (0 : Int32) ∧ (0 : Int32) ≤ 24 from ⟨(by decide), (by decide)⟩), (k_fd_n (show ¬ ((0 ≤ p1 ∧ p1 < pn) ∧ (0 ≤ le1 ∧ le1 < gn) ∧ 0 ≤ ri1 ∧ ri1 < gn) from (fun z => c_2 z.1)))⟩, by rw [ht]; exact hP9, va_K.moved hW.alike hK, hD9⟩, hS.F ht⟩) hS.2.2 dX12_flies_39
