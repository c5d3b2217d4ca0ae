set_option maxHeartbeats 4000000 in
set_option maxRecDepth 100000 in
theorem e_fliesTold (l : Launch) (dC : Nat → ClassId) (dI : Nat → Nat → Nat) (cI cJ cQ : ClassId) (sz : Nat) (hm : Nat) (f1 : Int32) (vFo : Nat) (vSi : Nat) (vIt : Nat) (vMo : Nat) (la : Int32) (vBy : Nat) (vTy : Nat) (mi : Int32) (vMi : Nat) (pn : Int32) (vPs : Nat) (gn : Int32) (vGs : Nat) (fn : Int32) (vFt : Nat) (le : Int32) (vTo : Nat) (kn : Int32) (fe : Int32) (en : Int32) (ca : Int32) (an : Int32) (co : Int32) (vPr : Nat) (vSt : Nat) (vFn : Nat) (sn : Int32) (vSg : Nat) (vAl : Nat) (dr : Int32) (qMi : Nat → Int32) (qPs : Nat → Int32) (qGs : Nat → Int32) (qTo : Nat → Int32) (qPr : Nat → Int32) (qSt : Nat → Int32) (qFn : Nat → Int32) (qFt : Nat → Int32) (hh0 : 0 ≤ mi ∧ mi ≤ 24) (hh1 : 0 ≤ pn ∧ pn ≤ 8) (hh2 : 0 ≤ gn ∧ gn ≤ 8) (hh3 : k_bd 2 0 7 qPr) (hh4 : 0 ≤ f1 ∧ f1 ≤ 7) (hh5 : k_tm pn qPs) (hh6 : ca = 16777215) (hh7 : k_bd 32 0 9 qFt) : Met l yX12_fliesTold (kW yX12_fliesTold cX12_fliesTold 2 none) { frames := 3, cells := 0, slots := 0, locals := 78 } (kPre dC dI cI cJ cQ sz [.ref hm, .int f1] [(kX12 hm vFo vSi vIt vMo la vBy vTy mi vMi pn vPs gn vGs fn vFt le vTo kn fe en ca an co vPr vSt vFn sn vSg vAl dr), (kAI vMi cI 24 qMi), (kAI vPs cI 32 qPs), (kAI vGs cI 16 qGs), (kAI vTo cI 96 qTo), (kAI vPr cI 2 qPr), (kAI vSt cI 2 qSt), (kAI vFn cI 2 qFn), (kAI vFt cI 32 qFt)]) (va_Qv (fun (u : kS) => (k_bd 2 0 7 (u.2.1 1)) ∧ (0 ≤ (u.1 1) ∧ (u.1 1) ≤ 24) ∧ ((u.1 2) = 0 ∨ (u.1 0) = 0 ∨ (u.1 1) ≤ 23) ∧ (0 ≤ (u.1 0) ∧ (u.1 0) ≤ 24) ∧ (k_fd ((0 ≤ (kP0 qFt f1) ∧ (kP0 qFt f1) < pn) ∧ (0 ≤ (kP1 qFt f1) ∧ (kP1 qFt f1) < gn) ∧ 0 ≤ (kP2 qFt f1) ∧ (kP2 qFt f1) < gn) (k_done (kM qMi) (kCt (kM qMi) (kP3 qPs (kP0 qFt f1)) (kfu mi 0) 0 ((kG0 qGs (kP1 qFt f1), kG1 qGs (kP1 qFt f1), kG0 qGs (kP1 qFt f1), 0), (kG0 qGs (kP2 qFt f1), kG1 qGs (kP2 qFt f1), kG0 qGs (kP2 qFt f1), 0))) le (kP0 qPs (kP0 qFt f1)) (kP1 qPs (kP0 qFt f1)) (5 * (kP2 qPs (kP0 qFt f1))) (fun x9 => if x9 < (24 : Int32) then (kP3 qFt f1) else (0 : Int32)) mi (u.1 0) (u.1 1) (u.1 2) (u.2.1 0)) (u.1 0) (u.1 1) (u.1 2))) (fun (u : kS) t₀ => kB dC dI cI cJ cQ (va_A [(kX12 hm vFo vSi vIt vMo la vBy vTy mi vMi pn vPs gn vGs fn vFt le vTo kn fe en ca an co vPr vSt vFn sn vSg vAl dr), (kAI vMi cI 24 qMi), (kAI vPs cI 32 qPs), (kAI vGs cI 16 qGs), (kAI vTo cI 96 qTo), (kAI vPr cI 2 qPr), (kAI vSt cI 2 qSt), (kAI vFn cI 2 qFn), (kAI vFt cI 32 qFt)] sz) [(kX12 hm vFo vSi vIt vMo la vBy vTy mi vMi pn vPs gn vGs fn vFt le vTo (u.1 0) (u.1 1) (u.1 2) ca (u.1 3) (u.1 4) vPr vSt vFn sn vSg vAl dr), (kAI vMi cI 24 qMi), (kAI vPs cI 32 qPs), (kAI vGs cI 16 qGs), (kAI vTo cI 96 (u.2.1 0)), (kAI vPr cI 2 (u.2.1 1)), (kAI vSt cI 2 (u.2.1 2)), (kAI vFn cI 2 (u.2.1 3)), (kAI vFt cI 32 qFt)] t₀) (va_A [(kX12 hm vFo vSi vIt vMo la vBy vTy mi vMi pn vPs gn vGs fn vFt le vTo kn fe en ca an co vPr vSt vFn sn vSg vAl dr), (kAI vMi cI 24 qMi), (kAI vPs cI 32 qPs), (kAI vGs cI 16 qGs), (kAI vTo cI 96 qTo), (kAI vPr cI 2 qPr), (kAI vSt cI 2 qSt), (kAI vFn cI 2 qFn), (kAI vFt cI 32 qFt)] sz)) 0 0 (va_A [(kX12 hm vFo vSi vIt vMo la vBy vTy mi vMi pn vPs gn vGs fn vFt le vTo kn fe en ca an co vPr vSt vFn sn vSg vAl dr), (kAI vMi cI 24 qMi), (kAI vPs cI 32 qPs), (kAI vGs cI 16 qGs), (kAI vTo cI 96 qTo), (kAI vPr cI 2 qPr), (kAI vSt cI 2 qSt), (kAI vFn cI 2 qFn), (kAI vFt cI 32 qFt)] sz) := by
  refine Met.ofW (cc := cX12_fliesTold) (maxL := 2) (ret := none) (by decide) rfl ?_
  intro p₀ e₀ s₀ m₀ args below meth c₀ s₁ B hml hv₀
  obtain ⟨rfl, hsz, hP, hK, hD0, hN⟩ := hv₀
  have hx₀ := B.exec
  have hb := B.bytes
  have hr := B.returns
  have hts := atoms_spec (ws := (kW yX12_fliesTold cX12_fliesTold 2 none)) B.pre
  have hts := fun w h => hts w (List.mem_cons_of_mem _ h)
  have hown : s₀.vm.findClass RX12 = some m₀.cls := findClass_of_methodNamed B.named
  have hlocks := B.notSynchronized
  subst hsz
  have hD := hD0.self (sz := s₀.heap.size)
  generalize hAe : va_A [(kX12 hm vFo vSi vIt vMo la vBy vTy mi vMi pn vPs gn vGs fn vFt le vTo kn fe en ca an co vPr vSt vFn sn vSg vAl dr), (kAI vMi cI 24 qMi), (kAI vPs cI 32 qPs), (kAI vGs cI 16 qGs), (kAI vTo cI 96 qTo), (kAI vPr cI 2 qPr), (kAI vSt cI 2 qSt), (kAI vFn cI 2 qFn), (kAI vFt cI 32 qFt)] s₀.heap.size = A at hD ⊢
  have hA : ∀ q : Nat, s₀.heap.size ≤ q → A q := fun q h => by rw [← hAe]; exact Or.inr h
  have hS : va_S A s₀.heap s₀.heap [] := va_S.rf
  have hP : va_P (dC, dI) vwCl [(kX12 hm vFo vSi vIt vMo la vBy vTy mi vMi pn vPs gn vGs fn vFt le vTo kn fe en ca an co vPr vSt vFn sn vSg vAl dr), (kAI vMi cI 24 qMi), (kAI vPs cI 32 qPs), (kAI vGs cI 16 qGs), (kAI vTo cI 96 qTo), (kAI vPr cI 2 qPr), (kAI vSt cI 2 qSt), (kAI vFn cI 2 qFn), (kAI vFt cI 32 qFt)] s₀.heap := hP
  have hl := lv_entry ([.ref hm, .int f1]) (n := 2) (Nat.le_of_ble_eq_true rfl)
  rw [lg_entry_eq]
  generalize (lg_sl ([.ref hm, .int f1]) ++ List.replicate (2 - (lg_sl ([.ref hm, .int f1])).length) Slot.unset).toArray = ls at hl ⊢
  have hl : lv_has ls 2 [(0, .ref hm), (1, .int f1)] := hl
  obtain ⟨H, hH⟩ : ∃ z : Heap, z = s₀.heap := ⟨_, rfl⟩
  rw [← hH] at hP
  have hS : va_S A s₀.heap H [] := by rw [hH]; exact hS
  refine k_heap hH ?_
  have hD : va_D A [(kX12 hm vFo vSi vIt vMo la vBy vTy mi vMi pn vPs gn vGs fn vFt le vTo kn fe en ca an co vPr vSt vFn sn vSg vAl dr), (kAI vMi cI 24 qMi), (kAI vPs cI 32 qPs), (kAI vGs cI 16 qGs), (kAI vTo cI 96 qTo), (kAI vPr cI 2 qPr), (kAI vSt cI 2 qSt), (kAI vFn cI 2 qFn), (kAI vFt cI 32 qFt)] := hD
  obtain ⟨locs, hlo⟩ : ∃ z : List Loc, z = [] := ⟨_, rfl⟩
  rw [← hlo] at hS ⊢
  clear hlo hH hAe hD0
  refine lv_aload_n hx₀ hb dX12_fliesTold_0 rfl (lv_at hl 0 rfl) ?_
  refine lv_aload_n hx₀ hb dX12_fliesTold_1 rfl (lv_at hl 0 rfl) ?_
  refine va_get (D := (dC, dI)) (ci := 11) (v := .ref vFt) (C := RX12) (T := TX12) (N := 30) hx₀ hb hts inlX12 hown hK hP 0 rfl rfl 14 (by decide) (hts (.fieldLink RX12 37 "BittenStickModel" "flight" "[I") wd_124) (fun _ h9 => h9) rfl dX12_fliesTold_2 ?_
  refine lv_iconst (v := 4) hx₀ hb dX12_fliesTold_5 (by decide +kernel) ?_
  refine lv_iload_n hx₀ hb dX12_fliesTold_6 rfl (lv_at hl 1 rfl) ?_
  refine lv_imul hx₀ hb dX12_fliesTold_7 ?_
  refine va_iald hx₀ hb hK hP 8 0 rfl rfl (vp_in_iff.mpr (lf_g_fliesTold_1 f1 hh4)) dX12_fliesTold_8 ?_
  refine k_topi (v := kP0 qFt f1) rfl ?_
  refine lv_aload_n hx₀ hb dX12_fliesTold_9 rfl (lv_at hl 0 rfl) ?_
  refine va_get (D := (dC, dI)) (ci := 11) (v := .ref vFt) (C := RX12) (T := TX12) (N := 30) hx₀ hb hts inlX12 hown hK hP 0 rfl rfl 14 (by decide) (hts (.fieldLink RX12 37 "BittenStickModel" "flight" "[I") wd_124) (fun _ h9 => h9) rfl dX12_fliesTold_10 ?_
  refine lv_iconst (v := 4) hx₀ hb dX12_fliesTold_13 (by decide +kernel) ?_
  refine lv_iload_n hx₀ hb dX12_fliesTold_14 rfl (lv_at hl 1 rfl) ?_
  refine lv_imul hx₀ hb dX12_fliesTold_15 ?_
  refine lv_iconst (v := 1) hx₀ hb dX12_fliesTold_16 (by decide +kernel) ?_
  refine lv_iadd hx₀ hb dX12_fliesTold_17 ?_
  refine va_iald hx₀ hb hK hP 8 0 rfl rfl (vp_in_iff.mpr (lf_g_fliesTold_2 f1 hh4)) dX12_fliesTold_18 ?_
  refine k_topi (v := kP1 qFt f1) rfl ?_
  refine lv_aload_n hx₀ hb dX12_fliesTold_19 rfl (lv_at hl 0 rfl) ?_
  refine va_get (D := (dC, dI)) (ci := 11) (v := .ref vFt) (C := RX12) (T := TX12) (N := 30) hx₀ hb hts inlX12 hown hK hP 0 rfl rfl 14 (by decide) (hts (.fieldLink RX12 37 "BittenStickModel" "flight" "[I") wd_124) (fun _ h9 => h9) rfl dX12_fliesTold_20 ?_
  refine lv_iconst (v := 4) hx₀ hb dX12_fliesTold_23 (by decide +kernel) ?_
  refine lv_iload_n hx₀ hb dX12_fliesTold_24 rfl (lv_at hl 1 rfl) ?_
  refine lv_imul hx₀ hb dX12_fliesTold_25 ?_
  refine lv_iconst (v := 2) hx₀ hb dX12_fliesTold_26 (by decide +kernel) ?_
  refine lv_iadd hx₀ hb dX12_fliesTold_27 ?_
  refine va_iald hx₀ hb hK hP 8 0 rfl rfl (vp_in_iff.mpr (lf_g_goes_3 f1 hh4)) dX12_fliesTold_28 ?_
  refine k_topi (v := kP2 qFt f1) rfl ?_
  refine lv_aload_n hx₀ hb dX12_fliesTold_29 rfl (lv_at hl 0 rfl) ?_
  refine va_get (D := (dC, dI)) (ci := 11) (v := .ref vFt) (C := RX12) (T := TX12) (N := 30) hx₀ hb hts inlX12 hown hK hP 0 rfl rfl 14 (by decide) (hts (.fieldLink RX12 37 "BittenStickModel" "flight" "[I") wd_124) (fun _ h9 => h9) rfl dX12_fliesTold_30 ?_
  refine lv_iconst (v := 4) hx₀ hb dX12_fliesTold_33 (by decide +kernel) ?_
  refine lv_iload_n hx₀ hb dX12_fliesTold_34 rfl (lv_at hl 1 rfl) ?_
  refine lv_imul hx₀ hb dX12_fliesTold_35 ?_
  refine lv_iconst (v := 3) hx₀ hb dX12_fliesTold_36 (by decide +kernel) ?_
  refine lv_iadd hx₀ hb dX12_fliesTold_37 ?_
  refine va_iald hx₀ hb hK hP 8 0 rfl rfl (vp_in_iff.mpr (lf_g_goes_2 f1 hh4)) dX12_fliesTold_38 ?_
  refine k_topi (v := kP3 qFt f1) rfl ?_
  refine lv_bipush (v := 24) hx₀ hb dX12_fliesTold_39 (by decide +kernel) ?_
  refine lv_iconst (v := 0) hx₀ hb dX12_fliesTold_41 (by decide +kernel) ?_
  obtain ⟨hPc, hDc, hFc, hC⟩ := k_cw (wc := [(kX12 hm vFo vSi vIt vMo la vBy vTy mi vMi pn vPs gn vGs fn vFt le vTo kn fe en ca an co vPr vSt vFn sn vSg vAl dr), (kAI vMi cI 24 qMi), (kAI vPs cI 32 qPs), (kAI vGs cI 16 qGs), (kAI vTo cI 96 qTo), (kAI vPr cI 2 qPr), (kAI vSt cI 2 qSt), (kAI vFn cI 2 qFn)]) hP hD hS hA [0, 1, 2, 3, 4, 5, 6, 7] (by decide +kernel) rfl
  refine va_callv (va_runV (As := [.int (kP0 qFt f1), .int (kP1 qFt f1), .int (kP2 qFt f1), .int (kP3 qFt f1), .int 24, .int 0]) (rest := []) ⟨hx₀, hb, hml, hown, hts⟩ (e_flies l dC dI cI cJ cQ H.size hm (kP0 qFt f1) (kP1 qFt f1) (kP2 qFt f1) (kP3 qFt f1) 24 0 vFo vSi vIt vMo la vBy vTy mi vMi pn vPs gn vGs fn vFt le vTo kn fe en ca an co vPr vSt vFn sn vSg vAl dr qMi qPs qGs qTo qPr qSt qFn (hh0) (hh1) (hh2) (hh3) (k_bdP3 hh7 (hh4)) (show 0 ≤ (0 : Int32) ∧ (0 : Int32) ≤ 100 from ⟨(by decide), (by decide)⟩) (hh5) (hh6)) (cwV 6 hts (kGV wd_540 wd_537 wd_538 wd_539 wd_5) rfl rfl rfl (by decide +kernel) ⟨Nat.le_of_ble_eq_true rfl, Nat.le_of_ble_eq_true rfl⟩) (k_preV11 (q0 := 0) hK hPc hDc hN rfl) rfl rfl hl.1 rfl (lv_room (Nat.le_of_ble_eq_true rfl)) dX12_fliesTold_42 ⟨by decide +kernel, by decide +kernel⟩) hS (fun q _ h => hFc q h) hFc (fun u₀ t₀ H1 locs ht hvm hw hB hz1 hk1 hS => ?_)
  obtain ⟨g_2, ga_3, gl_4, gb_5, gp_6⟩ := u₀
  obtain ⟨hP1, hK1, hD1⟩ := hB
  rw [ht] at hP1
  have hJ := k_jn (wr := [(kAI vFt cI 32 qFt)]) (wt := [(kAI vFt cI 32 qFt), (kX12 hm vFo vSi vIt vMo la vBy vTy mi vMi pn vPs gn vGs fn vFt le vTo (g_2 0) (g_2 1) (g_2 2) ca (g_2 3) (g_2 4) vPr vSt vFn sn vSg vAl dr), (kAI vMi cI 24 qMi), (kAI vPs cI 32 qPs), (kAI vGs cI 16 qGs), (kAI vTo cI 96 (ga_3 0)), (kAI vPr cI 2 (ga_3 1)), (kAI vSt cI 2 (ga_3 2)), (kAI vFn cI 2 (ga_3 3))]) hP hD hC [8] rfl (by decide +kernel) (by decide +kernel) hk1 hFc hP1 hD1 rfl
  clear hP hD hPc hDc hFc hC hP1 hD1 hK1 hz1 hk1 hvm ht
  obtain ⟨hP, hD⟩ := hJ
  generalize H1 = H at hP hS ⊢
  try dsimp only at hw
  obtain ⟨c_7, c_8, c_9, c_10, c_11⟩ := hw
  obtain ⟨hP9, hD9⟩ := k_c2 (wc := [(kX12 hm vFo vSi vIt vMo la vBy vTy mi vMi pn vPs gn vGs fn vFt le vTo (g_2 0) (g_2 1) (g_2 2) ca (g_2 3) (g_2 4) vPr vSt vFn sn vSg vAl dr), (kAI vMi cI 24 qMi), (kAI vPs cI 32 qPs), (kAI vGs cI 16 qGs), (kAI vTo cI 96 (ga_3 0)), (kAI vPr cI 2 (ga_3 1)), (kAI vSt cI 2 (ga_3 2)), (kAI vFn cI 2 (ga_3 3)), (kAI vFt cI 32 qFt)]) hP hD [1, 2, 3, 4, 5, 6, 7, 8, 0] (by decide +kernel) rfl
  exact W.vret hx₀ hb hr (fun t₀ ht hW => ⟨⟨(k_fn [(g_2 0), (g_2 1), (g_2 2), (g_2 3), (g_2 4)], k_fa [ga_3 0, ga_3 1, ga_3 2, ga_3 3], k_fl [], k_fL [], k_fp []), rfl, ⟨c_7, c_8, c_9, c_10, c_11⟩, by rw [ht]; exact hP9, va_K.moved hW.alike hK, hD9⟩, hS.F ht⟩) hS.2.2 dX12_fliesTold_45
