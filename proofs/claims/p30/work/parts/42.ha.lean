set_option maxHeartbeats 4000000 in
set_option maxRecDepth 100000 in
theorem g_tellsFlight (l : Launch) (dC : Nat → ClassId) (dI : Nat → Nat → Nat) (cI cJ cQ : ClassId) (sz : Nat) (hm : Nat) (x1 : Int64) (f1 : Int32) (vFo : Nat) (vSi : Nat) (vIt : Nat) (vMo : Nat) (la : Int32) (vBy : Nat) (vTy : Nat) (mi : Int32) (vMi : Nat) (pn : Int32) (vPs : Nat) (gn : Int32) (vGs : Nat) (fn : Int32) (vFt : Nat) (le : Int32) (vTo : Nat) (kn : Int32) (fe : Int32) (en : Int32) (ca : Int32) (an : Int32) (co : Int32) (vPr : Nat) (vSt : Nat) (vFn : Nat) (sn : Int32) (vSg : Nat) (vAl : Nat) (dr : Int32) (qTy : Nat → Int32) (qBy : Nat → Int32) (qMi : Nat → Int32) (qPs : Nat → Int32) (qGs : Nat → Int32) (qTo : Nat → Int32) (qPr : Nat → Int32) (qSt : Nat → Int32) (qFn : Nat → Int32) (qFt : Nat → Int32) (qSg : Nat → Int32) (qAl : Nat → Int32) (hh0 : 0 ≤ (qTy 0).toInt ∧ (qTy 0).toInt ≤ 24) (hh1 : 0 ≤ (qTy 1).toInt ∧ (qTy 1).toInt ≤ 39) (hh2 : 0 ≤ (qTy 2).toInt ∧ (qTy 2).toInt ≤ 23) (hh3 : k_bd 2 0 7 qPr) (hh4 : 0 ≤ fe ∧ fe ≤ 24) (hh5 : en = 0 ∨ kn = 0 ∨ fe ≤ 23) (hh6 : 0 ≤ kn ∧ kn ≤ 24) (hh7 : 0 ≤ fn ∧ fn ≤ 8) (hh8 : 0 ≤ sn ∧ sn ≤ 8) (hh9 : 0 ≤ mi ∧ mi ≤ 24) (hh10 : 0 ≤ pn ∧ pn ≤ 8) (hh11 : 0 ≤ gn ∧ gn ≤ 8) (hh12 : 0 ≤ f1 ∧ f1 ≤ 7) (hh13 : ca = 16777215) : Met l yX12_tellsFlight (kW yX12_tellsFlight cX12_tellsFlight 7 (some .long)) { frames := 7, cells := 0, slots := 0, locals := 167 } (kPre dC dI cI cJ cQ sz [.ref hm, .long x1, .int f1] [(kX12 hm vFo vSi vIt vMo la vBy vTy mi vMi pn vPs gn vGs fn vFt le vTo kn fe en ca an co vPr vSt vFn sn vSg vAl dr), (kAI vTy cI 3 qTy), (kAI vBy cI 120 qBy), (kAI vMi cI 24 qMi), (kAI vPs cI 32 qPs), (kAI vGs cI 16 qGs), (kAI vTo cI 96 qTo), (kAI vPr cI 2 qPr), (kAI vSt cI 2 qSt), (kAI vFn cI 2 qFn), (kAI vFt cI 32 qFt), (kAI vSg cI 16 qSg), (kAI vAl cI 25 qAl)]) (va_Ql (fun (r : Int64) (u : kS) => (0 ≤ (u.1 0) ∧ (u.1 0) ≤ 24) ∧ (0 ≤ (u.1 1) ∧ (u.1 1) ≤ 8) ∧ (0 ≤ (u.1 2) ∧ (u.1 2) ≤ 8) ∧ (k_bd 2 0 7 (u.2.1 4)) ∧ (0 ≤ (u.1 4) ∧ (u.1 4) ≤ 24) ∧ ((u.1 5) = 0 ∨ (u.1 3) = 0 ∨ (u.1 4) ≤ 23) ∧ (0 ≤ (u.1 3) ∧ (u.1 3) ≤ 24) ∧ ((u.1 8) = 16777215)) (fun (u : kS) t₀ => kB dC dI cI cJ cQ (va_A [(kX12 hm vFo vSi vIt vMo la vBy vTy mi vMi pn vPs gn vGs fn vFt le vTo kn fe en ca an co vPr vSt vFn sn vSg vAl dr), (kAI vTy cI 3 qTy), (kAI vBy cI 120 qBy), (kAI vMi cI 24 qMi), (kAI vPs cI 32 qPs), (kAI vGs cI 16 qGs), (kAI vTo cI 96 qTo), (kAI vPr cI 2 qPr), (kAI vSt cI 2 qSt), (kAI vFn cI 2 qFn), (kAI vFt cI 32 qFt), (kAI vSg cI 16 qSg), (kAI vAl cI 25 qAl)] sz) [(kX12 hm vFo vSi vIt vMo la vBy vTy (u.1 0) vMi (u.1 1) vPs (u.1 2) vGs fn vFt le vTo (u.1 3) (u.1 4) (u.1 5) (u.1 8) (u.1 6) (u.1 7) vPr vSt vFn sn vSg vAl dr), (kAI vTy cI 3 qTy), (kAI vBy cI 120 qBy), (kAI vMi cI 24 (u.2.1 0)), (kAI vPs cI 32 (u.2.1 1)), (kAI vGs cI 16 (u.2.1 2)), (kAI vTo cI 96 (u.2.1 3)), (kAI vPr cI 2 (u.2.1 4)), (kAI vSt cI 2 (u.2.1 5)), (kAI vFn cI 2 (u.2.1 6)), (kAI vFt cI 32 qFt), (kAI vSg cI 16 qSg), (kAI vAl cI 25 (u.2.1 7))] t₀) (va_A [(kX12 hm vFo vSi vIt vMo la vBy vTy mi vMi pn vPs gn vGs fn vFt le vTo kn fe en ca an co vPr vSt vFn sn vSg vAl dr), (kAI vTy cI 3 qTy), (kAI vBy cI 120 qBy), (kAI vMi cI 24 qMi), (kAI vPs cI 32 qPs), (kAI vGs cI 16 qGs), (kAI vTo cI 96 qTo), (kAI vPr cI 2 qPr), (kAI vSt cI 2 qSt), (kAI vFn cI 2 qFn), (kAI vFt cI 32 qFt), (kAI vSg cI 16 qSg), (kAI vAl cI 25 qAl)] sz)) 0 0 (va_A [(kX12 hm vFo vSi vIt vMo la vBy vTy mi vMi pn vPs gn vGs fn vFt le vTo kn fe en ca an co vPr vSt vFn sn vSg vAl dr), (kAI vTy cI 3 qTy), (kAI vBy cI 120 qBy), (kAI vMi cI 24 qMi), (kAI vPs cI 32 qPs), (kAI vGs cI 16 qGs), (kAI vTo cI 96 qTo), (kAI vPr cI 2 qPr), (kAI vSt cI 2 qSt), (kAI vFn cI 2 qFn), (kAI vFt cI 32 qFt), (kAI vSg cI 16 qSg), (kAI vAl cI 25 qAl)] sz) := by
  refine Met.ofW (cc := cX12_tellsFlight) (maxL := 7) (ret := (some .long)) (by decide) rfl ?_
  intro p₀ e₀ s₀ m₀ args below meth c₀ s₁ B hml hv₀
  obtain ⟨rfl, hsz, hP, hK, hD0, hN⟩ := hv₀
  have hx₀ := B.exec
  have hb := B.bytes
  have hr := B.returns
  have hts := atoms_spec (ws := (kW yX12_tellsFlight cX12_tellsFlight 7 (some .long))) B.pre
  have hts := fun w h => hts w (List.mem_cons_of_mem _ h)
  have hown : s₀.vm.findClass RX12 = some m₀.cls := findClass_of_methodNamed B.named
  have hlocks := B.notSynchronized
  subst hsz
  have hD := hD0.self (sz := s₀.heap.size)
  generalize hAe : va_A [(kX12 hm vFo vSi vIt vMo la vBy vTy mi vMi pn vPs gn vGs fn vFt le vTo kn fe en ca an co vPr vSt vFn sn vSg vAl dr), (kAI vTy cI 3 qTy), (kAI vBy cI 120 qBy), (kAI vMi cI 24 qMi), (kAI vPs cI 32 qPs), (kAI vGs cI 16 qGs), (kAI vTo cI 96 qTo), (kAI vPr cI 2 qPr), (kAI vSt cI 2 qSt), (kAI vFn cI 2 qFn), (kAI vFt cI 32 qFt), (kAI vSg cI 16 qSg), (kAI vAl cI 25 qAl)] s₀.heap.size = A at hD ⊢
  have hA : ∀ q : Nat, s₀.heap.size ≤ q → A q := fun q h => by rw [← hAe]; exact Or.inr h
  have hS : va_S A s₀.heap s₀.heap [] := va_S.rf
  have hP : va_P (dC, dI) vwCl [(kX12 hm vFo vSi vIt vMo la vBy vTy mi vMi pn vPs gn vGs fn vFt le vTo kn fe en ca an co vPr vSt vFn sn vSg vAl dr), (kAI vTy cI 3 qTy), (kAI vBy cI 120 qBy), (kAI vMi cI 24 qMi), (kAI vPs cI 32 qPs), (kAI vGs cI 16 qGs), (kAI vTo cI 96 qTo), (kAI vPr cI 2 qPr), (kAI vSt cI 2 qSt), (kAI vFn cI 2 qFn), (kAI vFt cI 32 qFt), (kAI vSg cI 16 qSg), (kAI vAl cI 25 qAl)] s₀.heap := hP
  have hl := lv_entry ([.ref hm, .long x1, .int f1]) (n := 7) (Nat.le_of_ble_eq_true rfl)
  rw [lg_entry_eq]
  generalize (lg_sl ([.ref hm, .long x1, .int f1]) ++ List.replicate (7 - (lg_sl ([.ref hm, .long x1, .int f1])).length) Slot.unset).toArray = ls at hl ⊢
  have hl : lv_has ls 7 [(0, .ref hm), (1, .long x1), (3, .int f1)] := hl
  obtain ⟨H, hH⟩ : ∃ z : Heap, z = s₀.heap := ⟨_, rfl⟩
  rw [← hH] at hP
  have hS : va_S A s₀.heap H [] := by rw [hH]; exact hS
  refine k_heap hH ?_
  have hD : va_D A [(kX12 hm vFo vSi vIt vMo la vBy vTy mi vMi pn vPs gn vGs fn vFt le vTo kn fe en ca an co vPr vSt vFn sn vSg vAl dr), (kAI vTy cI 3 qTy), (kAI vBy cI 120 qBy), (kAI vMi cI 24 qMi), (kAI vPs cI 32 qPs), (kAI vGs cI 16 qGs), (kAI vTo cI 96 qTo), (kAI vPr cI 2 qPr), (kAI vSt cI 2 qSt), (kAI vFn cI 2 qFn), (kAI vFt cI 32 qFt), (kAI vSg cI 16 qSg), (kAI vAl cI 25 qAl)] := hD
  obtain ⟨locs, hlo⟩ : ∃ z : List Loc, z = [] := ⟨_, rfl⟩
  rw [← hlo] at hS ⊢
  clear hlo hH hAe hD0
  refine lv_lload_n hx₀ hb dX12_tellsFlight_0 rfl (lv_at hl 1 rfl) ?_
  refine lv_lstore (lv' := [(4, .long x1), (0, .ref hm), (1, .long x1), (3, .int f1)]) hx₀ hb dX12_tellsFlight_1 hl (by decide) rfl (fun ls hl => ?_)
  refine lv_iconst (v := 0) hx₀ hb dX12_tellsFlight_3 (by decide +kernel) ?_
  refine lv_istore (lv' := [(6, .int 0), (4, .long x1), (0, .ref hm), (1, .long x1), (3, .int f1)]) hx₀ hb dX12_tellsFlight_4 hl (by decide) rfl (fun ls hl => ?_)
  refine lv_iload hx₀ hb dX12_tellsFlight_6 (lv_at hl 0 rfl) ?_
  refine lv_iconst (v := 3) hx₀ hb dX12_tellsFlight_8 (by decide +kernel) ?_
  refine lv_icmp_ge (tgt := 35) hx₀ hb dX12_tellsFlight_9 (by decide) (fun c9 => absurd c9 (by decide +kernel)) (fun _ => ?_)
  refine lv_ldc2 (v := 31) hx₀ hb hown (hts (.constantLong RX12 294 (31)) wd_991) dX12_tellsFlight_12 ?_
  refine lv_lload hx₀ hb dX12_tellsFlight_15 (lv_at hl 1 rfl) ?_
  refine lv_lmul hx₀ hb dX12_tellsFlight_17 ?_
  refine lv_aload_n hx₀ hb dX12_tellsFlight_18 rfl (lv_at hl 2 rfl) ?_
  refine lv_iload_n hx₀ hb dX12_tellsFlight_19 rfl (lv_at hl 4 rfl) ?_
  refine lv_iload hx₀ hb dX12_tellsFlight_20 (lv_at hl 0 rfl) ?_
  obtain ⟨hPc, hDc, hFc, hC⟩ := k_cw (wc := [(kX12 hm vFo vSi vIt vMo la vBy vTy mi vMi pn vPs gn vGs fn vFt le vTo kn fe en ca an co vPr vSt vFn sn vSg vAl dr), (kAI vMi cI 24 qMi), (kAI vPs cI 32 qPs), (kAI vGs cI 16 qGs), (kAI vTo cI 96 qTo), (kAI vPr cI 2 qPr), (kAI vSt cI 2 qSt), (kAI vFn cI 2 qFn), (kAI vFt cI 32 qFt)]) hP hD hS hA [0, 3, 4, 5, 6, 7, 8, 9, 10] (by decide +kernel) rfl
  refine va_calli (va_runV (As := [.int f1, .int 0]) (rest := [.long (31 * x1)]) ⟨hx₀, hb, hml, hown, hts⟩ (g_comesOf l dC dI cI cJ cQ H.size hm f1 0 vFo vSi vIt vMo la vBy vTy mi vMi pn vPs gn vGs fn vFt le vTo kn fe en ca an co vPr vSt vFn sn vSg vAl dr qMi qPs qGs qTo qPr qSt qFn qFt (hh9) (hh10) (hh11) (hh3) (hh12)) (cwV 2 hts (kGV wd_532 wd_529 wd_530 wd_531 wd_5) rfl rfl rfl (by decide +kernel) ⟨Nat.le_of_ble_eq_true rfl, Nat.le_of_ble_eq_true rfl⟩) (k_preV11 (q0 := 0) hK hPc hDc hN rfl) rfl rfl hl.1 rfl (lv_room (Nat.le_of_ble_eq_true rfl)) dX12_tellsFlight_22 ⟨by decide +kernel, by decide +kernel⟩) hS (fun q _ h => hFc q h) hFc (fun r_1 u₀ t₀ H1 locs ht hvm hw hB hz1 hk1 hS => ?_)
  obtain ⟨g_2, ga_3, gl_4, gb_5, gp_6⟩ := u₀
  obtain ⟨hP1, hK1, hD1⟩ := hB
  rw [ht] at hP1
  have hJ := k_jn (wr := [(kAI vTy cI 3 qTy), (kAI vBy cI 120 qBy), (kAI vSg cI 16 qSg), (kAI vAl cI 25 qAl)]) (wt := [(kAI vTy cI 3 qTy), (kAI vBy cI 120 qBy), (kAI vSg cI 16 qSg), (kAI vAl cI 25 qAl), (kX12 hm vFo vSi vIt vMo la vBy vTy mi vMi pn vPs gn vGs fn vFt le vTo (g_2 0) (g_2 1) (g_2 2) ca (g_2 3) (g_2 4) vPr vSt vFn sn vSg vAl dr), (kAI vMi cI 24 qMi), (kAI vPs cI 32 qPs), (kAI vGs cI 16 qGs), (kAI vTo cI 96 (ga_3 0)), (kAI vPr cI 2 (ga_3 1)), (kAI vSt cI 2 (ga_3 2)), (kAI vFn cI 2 (ga_3 3)), (kAI vFt cI 32 qFt)]) hP hD hC [1, 2, 11, 12] rfl (by decide +kernel) (by decide +kernel) hk1 hFc hP1 hD1 rfl
  clear hP hD hPc hDc hFc hC hP1 hD1 hK1 hz1 hk1 hvm ht
  obtain ⟨hP, hD⟩ := hJ
  generalize H1 = H at hP hS ⊢
  try dsimp only at hw
  obtain ⟨c_7, c_8, c_9, c_10⟩ := hw
  refine lv_i2l hx₀ hb dX12_tellsFlight_25 rfl ?_
  refine lv_ladd hx₀ hb dX12_tellsFlight_26 ?_
  refine lv_lstore (lv' := [(4, .long ((31 * x1) + r_1.toInt64)), (6, .int 0), (0, .ref hm), (1, .long x1), (3, .int f1)]) hx₀ hb dX12_tellsFlight_27 hl (by decide) rfl (fun ls hl => ?_)
  refine lv_iinc (v := 1) (lv' := [(6, .int 1), (4, .long ((31 * x1) + r_1.toInt64)), (0, .ref hm), (1, .long x1), (3, .int f1)]) hx₀ hb dX12_tellsFlight_29 hl (k := 1) rfl (by decide +kernel) (by decide) rfl (fun ls hl => ?_)
  refine lv_goto (tgt := 6) hx₀ hb dX12_tellsFlight_32 (by decide) ?_
  refine lv_iload hx₀ hb dX12_tellsFlight_6 (lv_at hl 0 rfl) ?_
  refine lv_iconst (v := 3) hx₀ hb dX12_tellsFlight_8 (by decide +kernel) ?_
  refine lv_icmp_ge (tgt := 35) hx₀ hb dX12_tellsFlight_9 (by decide) (fun c9 => absurd c9 (by decide +kernel)) (fun _ => ?_)
  refine lv_ldc2 (v := 31) hx₀ hb hown (hts (.constantLong RX12 294 (31)) wd_991) dX12_tellsFlight_12 ?_
  refine lv_lload hx₀ hb dX12_tellsFlight_15 (lv_at hl 1 rfl) ?_
  refine lv_lmul hx₀ hb dX12_tellsFlight_17 ?_
  refine lv_aload_n hx₀ hb dX12_tellsFlight_18 rfl (lv_at hl 2 rfl) ?_
  refine lv_iload_n hx₀ hb dX12_tellsFlight_19 rfl (lv_at hl 4 rfl) ?_
  refine lv_iload hx₀ hb dX12_tellsFlight_20 (lv_at hl 0 rfl) ?_
  obtain ⟨hPc, hDc, hFc, hC⟩ := k_cw (wc := [(kX12 hm vFo vSi vIt vMo la vBy vTy mi vMi pn vPs gn vGs fn vFt le vTo (g_2 0) (g_2 1) (g_2 2) ca (g_2 3) (g_2 4) vPr vSt vFn sn vSg vAl dr), (kAI vMi cI 24 qMi), (kAI vPs cI 32 qPs), (kAI vGs cI 16 qGs), (kAI vTo cI 96 (ga_3 0)), (kAI vPr cI 2 (ga_3 1)), (kAI vSt cI 2 (ga_3 2)), (kAI vFn cI 2 (ga_3 3)), (kAI vFt cI 32 qFt)]) hP hD hS hA [4, 5, 6, 7, 8, 9, 10, 11, 12] (by decide +kernel) rfl
  refine va_calli (va_runV (As := [.int f1, .int 1]) (rest := [.long (31 * ((31 * x1) + r_1.toInt64))]) ⟨hx₀, hb, hml, hown, hts⟩ (g_comesOf l dC dI cI cJ cQ H.size hm f1 1 vFo vSi vIt vMo la vBy vTy mi vMi pn vPs gn vGs fn vFt le vTo (g_2 0) (g_2 1) (g_2 2) ca (g_2 3) (g_2 4) vPr vSt vFn sn vSg vAl dr qMi qPs qGs (ga_3 0) (ga_3 1) (ga_3 2) (ga_3 3) qFt (hh9) (hh10) (hh11) (c_7) (hh12)) (cwV 2 hts (kGV wd_532 wd_529 wd_530 wd_531 wd_5) rfl rfl rfl (by decide +kernel) ⟨Nat.le_of_ble_eq_true rfl, Nat.le_of_ble_eq_true rfl⟩) (k_preV11 (q0 := 0) hK hPc hDc hN rfl) rfl rfl hl.1 rfl (lv_room (Nat.le_of_ble_eq_true rfl)) dX12_tellsFlight_22 ⟨by decide +kernel, by decide +kernel⟩) hS (fun q _ h => hFc q h) hFc (fun r_11 u₀ t₀ H1 locs ht hvm hw hB hz1 hk1 hS => ?_)
  obtain ⟨g_12, ga_13, gl_14, gb_15, gp_16⟩ := u₀
  obtain ⟨hP1, hK1, hD1⟩ := hB
  rw [ht] at hP1
  have hJ := k_jn (wr := [(kAI vTy cI 3 qTy), (kAI vBy cI 120 qBy), (kAI vSg cI 16 qSg), (kAI vAl cI 25 qAl)]) (wt := [(kAI vTy cI 3 qTy), (kAI vBy cI 120 qBy), (kAI vSg cI 16 qSg), (kAI vAl cI 25 qAl), (kX12 hm vFo vSi vIt vMo la vBy vTy mi vMi pn vPs gn vGs fn vFt le vTo (g_12 0) (g_12 1) (g_12 2) ca (g_12 3) (g_12 4) vPr vSt vFn sn vSg vAl dr), (kAI vMi cI 24 qMi), (kAI vPs cI 32 qPs), (kAI vGs cI 16 qGs), (kAI vTo cI 96 (ga_13 0)), (kAI vPr cI 2 (ga_13 1)), (kAI vSt cI 2 (ga_13 2)), (kAI vFn cI 2 (ga_13 3)), (kAI vFt cI 32 qFt)]) hP hD hC [0, 1, 2, 3] rfl (by decide +kernel) (by decide +kernel) hk1 hFc hP1 hD1 rfl
  clear hP hD hPc hDc hFc hC hP1 hD1 hK1 hz1 hk1 hvm ht
  obtain ⟨hP, hD⟩ := hJ
  generalize H1 = H at hP hS ⊢
  try dsimp only at hw
  obtain ⟨c_17, c_18, c_19, c_20⟩ := hw
  refine lv_i2l hx₀ hb dX12_tellsFlight_25 rfl ?_
  refine lv_ladd hx₀ hb dX12_tellsFlight_26 ?_
  refine lv_lstore (lv' := [(4, .long ((31 * ((31 * x1) + r_1.toInt64)) + r_11.toInt64)), (6, .int 1), (0, .ref hm), (1, .long x1), (3, .int f1)]) hx₀ hb dX12_tellsFlight_27 hl (by decide) rfl (fun ls hl => ?_)
  refine lv_iinc (v := 2) (lv' := [(6, .int 2), (4, .long ((31 * ((31 * x1) + r_1.toInt64)) + r_11.toInt64)), (0, .ref hm), (1, .long x1), (3, .int f1)]) hx₀ hb dX12_tellsFlight_29 hl (k := 1) rfl (by decide +kernel) (by decide) rfl (fun ls hl => ?_)
  refine lv_goto (tgt := 6) hx₀ hb dX12_tellsFlight_32 (by decide) ?_
  refine lv_iload hx₀ hb dX12_tellsFlight_6 (lv_at hl 0 rfl) ?_
  refine lv_iconst (v := 3) hx₀ hb dX12_tellsFlight_8 (by decide +kernel) ?_
  refine lv_icmp_ge (tgt := 35) hx₀ hb dX12_tellsFlight_9 (by decide) (fun c9 => absurd c9 (by decide +kernel)) (fun _ => ?_)
  refine lv_ldc2 (v := 31) hx₀ hb hown (hts (.constantLong RX12 294 (31)) wd_991) dX12_tellsFlight_12 ?_
  refine lv_lload hx₀ hb dX12_tellsFlight_15 (lv_at hl 1 rfl) ?_
  refine lv_lmul hx₀ hb dX12_tellsFlight_17 ?_
  refine lv_aload_n hx₀ hb dX12_tellsFlight_18 rfl (lv_at hl 2 rfl) ?_
  refine lv_iload_n hx₀ hb dX12_tellsFlight_19 rfl (lv_at hl 4 rfl) ?_
  refine lv_iload hx₀ hb dX12_tellsFlight_20 (lv_at hl 0 rfl) ?_
  obtain ⟨hPc, hDc, hFc, hC⟩ := k_cw (wc := [(kX12 hm vFo vSi vIt vMo la vBy vTy mi vMi pn vPs gn vGs fn vFt le vTo (g_12 0) (g_12 1) (g_12 2) ca (g_12 3) (g_12 4) vPr vSt vFn sn vSg vAl dr), (kAI vMi cI 24 qMi), (kAI vPs cI 32 qPs), (kAI vGs cI 16 qGs), (kAI vTo cI 96 (ga_13 0)), (kAI vPr cI 2 (ga_13 1)), (kAI vSt cI 2 (ga_13 2)), (kAI vFn cI 2 (ga_13 3)), (kAI vFt cI 32 qFt)]) hP hD hS hA [4, 5, 6, 7, 8, 9, 10, 11, 12] (by decide +kernel) rfl
  refine va_calli (va_runV (As := [.int f1, .int 2]) (rest := [.long (31 * ((31 * ((31 * x1) + r_1.toInt64)) + r_11.toInt64))]) ⟨hx₀, hb, hml, hown, hts⟩ (g_comesOf l dC dI cI cJ cQ H.size hm f1 2 vFo vSi vIt vMo la vBy vTy mi vMi pn vPs gn vGs fn vFt le vTo (g_12 0) (g_12 1) (g_12 2) ca (g_12 3) (g_12 4) vPr vSt vFn sn vSg vAl dr qMi qPs qGs (ga_13 0) (ga_13 1) (ga_13 2) (ga_13 3) qFt (hh9) (hh10) (hh11) (c_17) (hh12)) (cwV 2 hts (kGV wd_532 wd_529 wd_530 wd_531 wd_5) rfl rfl rfl (by decide +kernel) ⟨Nat.le_of_ble_eq_true rfl, Nat.le_of_ble_eq_true rfl⟩) (k_preV11 (q0 := 0) hK hPc hDc hN rfl) rfl rfl hl.1 rfl (lv_room (Nat.le_of_ble_eq_true rfl)) dX12_tellsFlight_22 ⟨by decide +kernel, by decide +kernel⟩) hS (fun q _ h => hFc q h) hFc (fun r_21 u₀ t₀ H1 locs ht hvm hw hB hz1 hk1 hS => ?_)
  obtain ⟨g_22, ga_23, gl_24, gb_25, gp_26⟩ := u₀
  obtain ⟨hP1, hK1, hD1⟩ := hB
  rw [ht] at hP1
  have hJ := k_jn (wr := [(kAI vTy cI 3 qTy), (kAI vBy cI 120 qBy), (kAI vSg cI 16 qSg), (kAI vAl cI 25 qAl)]) (wt := [(kAI vTy cI 3 qTy), (kAI vBy cI 120 qBy), (kAI vSg cI 16 qSg), (kAI vAl cI 25 qAl), (kX12 hm vFo vSi vIt vMo la vBy vTy mi vMi pn vPs gn vGs fn vFt le vTo (g_22 0) (g_22 1) (g_22 2) ca (g_22 3) (g_22 4) vPr vSt vFn sn vSg vAl dr), (kAI vMi cI 24 qMi), (kAI vPs cI 32 qPs), (kAI vGs cI 16 qGs), (kAI vTo cI 96 (ga_23 0)), (kAI vPr cI 2 (ga_23 1)), (kAI vSt cI 2 (ga_23 2)), (kAI vFn cI 2 (ga_23 3)), (kAI vFt cI 32 qFt)]) hP hD hC [0, 1, 2, 3] rfl (by decide +kernel) (by decide +kernel) hk1 hFc hP1 hD1 rfl
  clear hP hD hPc hDc hFc hC hP1 hD1 hK1 hz1 hk1 hvm ht
  obtain ⟨hP, hD⟩ := hJ
  generalize H1 = H at hP hS ⊢
  try dsimp only at hw
  obtain ⟨c_27, c_28, c_29, c_30⟩ := hw
  refine lv_i2l hx₀ hb dX12_tellsFlight_25 rfl ?_
  refine lv_ladd hx₀ hb dX12_tellsFlight_26 ?_
  refine lv_lstore (lv' := [(4, .long ((31 * ((31 * ((31 * x1) + r_1.toInt64)) + r_11.toInt64)) + r_21.toInt64)), (6, .int 2), (0, .ref hm), (1, .long x1), (3, .int f1)]) hx₀ hb dX12_tellsFlight_27 hl (by decide) rfl (fun ls hl => ?_)
  refine lv_iinc (v := 3) (lv' := [(6, .int 3), (4, .long ((31 * ((31 * ((31 * x1) + r_1.toInt64)) + r_11.toInt64)) + r_21.toInt64)), (0, .ref hm), (1, .long x1), (3, .int f1)]) hx₀ hb dX12_tellsFlight_29 hl (k := 1) rfl (by decide +kernel) (by decide) rfl (fun ls hl => ?_)
  refine lv_goto (tgt := 6) hx₀ hb dX12_tellsFlight_32 (by decide) ?_
  refine lv_iload hx₀ hb dX12_tellsFlight_6 (lv_at hl 0 rfl) ?_
  refine lv_iconst (v := 3) hx₀ hb dX12_tellsFlight_8 (by decide +kernel) ?_
  refine lv_icmp_ge (tgt := 35) hx₀ hb dX12_tellsFlight_9 (by decide) (fun _ => ?_) (fun c9 => absurd (by decide +kernel) c9)
  refine lv_iconst (v := 0) hx₀ hb dX12_tellsFlight_35 (by decide +kernel) ?_
  refine lv_istore (lv' := [(6, .int 0), (4, .long ((31 * ((31 * ((31 * x1) + r_1.toInt64)) + r_11.toInt64)) + r_21.toInt64)), (0, .ref hm), (1, .long x1), (3, .int f1)]) hx₀ hb dX12_tellsFlight_36 hl (by decide) rfl (fun ls hl => ?_)
  refine lv_iload hx₀ hb dX12_tellsFlight_38 (lv_at hl 0 rfl) ?_
  refine lv_iconst (v := 4) hx₀ hb dX12_tellsFlight_40 (by decide +kernel) ?_
  refine lv_icmp_ge (tgt := 68) hx₀ hb dX12_tellsFlight_41 (by decide) (fun c9 => absurd c9 (by decide +kernel)) (fun _ => ?_)
  refine lv_ldc2 (v := 31) hx₀ hb hown (hts (.constantLong RX12 294 (31)) wd_991) dX12_tellsFlight_44 ?_
  refine lv_lload hx₀ hb dX12_tellsFlight_47 (lv_at hl 1 rfl) ?_
  refine lv_lmul hx₀ hb dX12_tellsFlight_49 ?_
  refine lv_aload_n hx₀ hb dX12_tellsFlight_50 rfl (lv_at hl 2 rfl) ?_
  refine lv_iload_n hx₀ hb dX12_tellsFlight_51 rfl (lv_at hl 4 rfl) ?_
  refine lv_iconst (v := 3) hx₀ hb dX12_tellsFlight_52 (by decide +kernel) ?_
  refine lv_iload hx₀ hb dX12_tellsFlight_53 (lv_at hl 0 rfl) ?_
  obtain ⟨hPc, hDc, hFc, hC⟩ := k_cw (wc := [(kX12 hm vFo vSi vIt vMo la vBy vTy mi vMi pn vPs gn vGs fn vFt le vTo (g_22 0) (g_22 1) (g_22 2) ca (g_22 3) (g_22 4) vPr vSt vFn sn vSg vAl dr), (kAI vTy cI 3 qTy), (kAI vBy cI 120 qBy), (kAI vMi cI 24 qMi), (kAI vPs cI 32 qPs), (kAI vGs cI 16 qGs), (kAI vTo cI 96 (ga_23 0)), (kAI vPr cI 2 (ga_23 1)), (kAI vSt cI 2 (ga_23 2)), (kAI vFn cI 2 (ga_23 3)), (kAI vFt cI 32 qFt)]) hP hD hS hA [4, 0, 1, 5, 6, 7, 8, 9, 10, 11, 12] (by decide +kernel) rfl
  refine va_calli (va_runV (As := [.int f1, .int 3, .int 0]) (rest := [.long (31 * ((31 * ((31 * ((31 * x1) + r_1.toInt64)) + r_11.toInt64)) + r_21.toInt64))]) ⟨hx₀, hb, hml, hown, hts⟩ (g_behind l dC dI cI cJ cQ H.size hm f1 3 0 vFo vSi vIt vMo la vBy vTy mi vMi pn vPs gn vGs fn vFt le vTo (g_22 0) (g_22 1) (g_22 2) ca (g_22 3) (g_22 4) vPr vSt vFn sn vSg vAl dr qTy qBy qMi qPs qGs (ga_23 0) (ga_23 1) (ga_23 2) (ga_23 3) qFt (hh0) (hh1) (hh2) (c_27) (c_28) (c_29) (c_30) (hh7)) (cwV 3 hts (kGV wd_594 wd_997 wd_592 wd_593 wd_5) rfl rfl rfl (by decide +kernel) ⟨Nat.le_of_ble_eq_true rfl, Nat.le_of_ble_eq_true rfl⟩) (k_preV11 (q0 := 0) hK hPc hDc hN rfl) rfl rfl hl.1 rfl (lv_room (Nat.le_of_ble_eq_true rfl)) dX12_tellsFlight_55 ⟨by decide +kernel, by decide +kernel⟩) hS (fun q _ h => hFc q h) hFc (fun r_31 u₀ t₀ H1 locs ht hvm hw hB hz1 hk1 hS => ?_)
  obtain ⟨g_32, ga_33, gl_34, gb_35, gp_36⟩ := u₀
  obtain ⟨hP1, hK1, hD1⟩ := hB
  rw [ht] at hP1
  have hJ := k_jn (wr := [(kAI vSg cI 16 qSg), (kAI vAl cI 25 qAl)]) (wt := [(kAI vSg cI 16 qSg), (kAI vAl cI 25 qAl), (kX12 hm vFo vSi vIt vMo la vBy vTy (g_32 0) vMi (g_32 1) vPs (g_32 2) vGs fn vFt le vTo (g_32 3) (g_32 4) (g_32 5) ca (g_32 6) (g_32 7) vPr vSt vFn sn vSg vAl dr), (kAI vTy cI 3 qTy), (kAI vBy cI 120 qBy), (kAI vMi cI 24 (ga_33 0)), (kAI vPs cI 32 (ga_33 1)), (kAI vGs cI 16 (ga_33 2)), (kAI vTo cI 96 (ga_33 3)), (kAI vPr cI 2 (ga_33 4)), (kAI vSt cI 2 (ga_33 5)), (kAI vFn cI 2 (ga_33 6)), (kAI vFt cI 32 qFt)]) hP hD hC [2, 3] rfl (by decide +kernel) (by decide +kernel) hk1 hFc hP1 hD1 rfl
  clear hP hD hPc hDc hFc hC hP1 hD1 hK1 hz1 hk1 hvm ht
  obtain ⟨hP, hD⟩ := hJ
  generalize H1 = H at hP hS ⊢
  try dsimp only at hw
  obtain ⟨c_37, c_38, c_39, c_40, c_41, c_42, c_43⟩ := hw
  refine lv_i2l hx₀ hb dX12_tellsFlight_58 rfl ?_
  refine lv_ladd hx₀ hb dX12_tellsFlight_59 ?_
  refine lv_lstore (lv' := [(4, .long ((31 * ((31 * ((31 * ((31 * x1) + r_1.toInt64)) + r_11.toInt64)) + r_21.toInt64)) + r_31.toInt64)), (6, .int 0), (0, .ref hm), (1, .long x1), (3, .int f1)]) hx₀ hb dX12_tellsFlight_60 hl (by decide) rfl (fun ls hl => ?_)
  refine lv_iinc (v := 1) (lv' := [(6, .int 1), (4, .long ((31 * ((31 * ((31 * ((31 * x1) + r_1.toInt64)) + r_11.toInt64)) + r_21.toInt64)) + r_31.toInt64)), (0, .ref hm), (1, .long x1), (3, .int f1)]) hx₀ hb dX12_tellsFlight_62 hl (k := 1) rfl (by decide +kernel) (by decide) rfl (fun ls hl => ?_)
  refine lv_goto (tgt := 38) hx₀ hb dX12_tellsFlight_65 (by decide) ?_
  refine lv_iload hx₀ hb dX12_tellsFlight_38 (lv_at hl 0 rfl) ?_
  refine lv_iconst (v := 4) hx₀ hb dX12_tellsFlight_40 (by decide +kernel) ?_
  refine lv_icmp_ge (tgt := 68) hx₀ hb dX12_tellsFlight_41 (by decide) (fun c9 => absurd c9 (by decide +kernel)) (fun _ => ?_)
  refine lv_ldc2 (v := 31) hx₀ hb hown (hts (.constantLong RX12 294 (31)) wd_991) dX12_tellsFlight_44 ?_
  refine lv_lload hx₀ hb dX12_tellsFlight_47 (lv_at hl 1 rfl) ?_
  refine lv_lmul hx₀ hb dX12_tellsFlight_49 ?_
  refine lv_aload_n hx₀ hb dX12_tellsFlight_50 rfl (lv_at hl 2 rfl) ?_
  refine lv_iload_n hx₀ hb dX12_tellsFlight_51 rfl (lv_at hl 4 rfl) ?_
  refine lv_iconst (v := 3) hx₀ hb dX12_tellsFlight_52 (by decide +kernel) ?_
  refine lv_iload hx₀ hb dX12_tellsFlight_53 (lv_at hl 0 rfl) ?_
  obtain ⟨hPc, hDc, hFc, hC⟩ := k_cw (wc := [(kX12 hm vFo vSi vIt vMo la vBy vTy (g_32 0) vMi (g_32 1) vPs (g_32 2) vGs fn vFt le vTo (g_32 3) (g_32 4) (g_32 5) ca (g_32 6) (g_32 7) vPr vSt vFn sn vSg vAl dr), (kAI vTy cI 3 qTy), (kAI vBy cI 120 qBy), (kAI vMi cI 24 (ga_33 0)), (kAI vPs cI 32 (ga_33 1)), (kAI vGs cI 16 (ga_33 2)), (kAI vTo cI 96 (ga_33 3)), (kAI vPr cI 2 (ga_33 4)), (kAI vSt cI 2 (ga_33 5)), (kAI vFn cI 2 (ga_33 6)), (kAI vFt cI 32 qFt)]) hP hD hS hA [2, 3, 4, 5, 6, 7, 8, 9, 10, 11, 12] (by decide +kernel) rfl
  refine va_calli (va_runV (As := [.int f1, .int 3, .int 1]) (rest := [.long (31 * ((31 * ((31 * ((31 * ((31 * x1) + r_1.toInt64)) + r_11.toInt64)) + r_21.toInt64)) + r_31.toInt64))]) ⟨hx₀, hb, hml, hown, hts⟩ (g_behind l dC dI cI cJ cQ H.size hm f1 3 1 vFo vSi vIt vMo la vBy vTy (g_32 0) vMi (g_32 1) vPs (g_32 2) vGs fn vFt le vTo (g_32 3) (g_32 4) (g_32 5) ca (g_32 6) (g_32 7) vPr vSt vFn sn vSg vAl dr qTy qBy (ga_33 0) (ga_33 1) (ga_33 2) (ga_33 3) (ga_33 4) (ga_33 5) (ga_33 6) qFt (hh0) (hh1) (hh2) (c_40) (c_41) (c_42) (c_43) (hh7)) (cwV 3 hts (kGV wd_594 wd_997 wd_592 wd_593 wd_5) rfl rfl rfl (by decide +kernel) ⟨Nat.le_of_ble_eq_true rfl, Nat.le_of_ble_eq_true rfl⟩) (k_preV11 (q0 := 0) hK hPc hDc hN rfl) rfl rfl hl.1 rfl (lv_room (Nat.le_of_ble_eq_true rfl)) dX12_tellsFlight_55 ⟨by decide +kernel, by decide +kernel⟩) hS (fun q _ h => hFc q h) hFc (fun r_44 u₀ t₀ H1 locs ht hvm hw hB hz1 hk1 hS => ?_)
  obtain ⟨g_45, ga_46, gl_47, gb_48, gp_49⟩ := u₀
  obtain ⟨hP1, hK1, hD1⟩ := hB
  rw [ht] at hP1
  have hJ := k_jn (wr := [(kAI vSg cI 16 qSg), (kAI vAl cI 25 qAl)]) (wt := [(kAI vSg cI 16 qSg), (kAI vAl cI 25 qAl), (kX12 hm vFo vSi vIt vMo la vBy vTy (g_45 0) vMi (g_45 1) vPs (g_45 2) vGs fn vFt le vTo (g_45 3) (g_45 4) (g_45 5) ca (g_45 6) (g_45 7) vPr vSt vFn sn vSg vAl dr), (kAI vTy cI 3 qTy), (kAI vBy cI 120 qBy), (kAI vMi cI 24 (ga_46 0)), (kAI vPs cI 32 (ga_46 1)), (kAI vGs cI 16 (ga_46 2)), (kAI vTo cI 96 (ga_46 3)), (kAI vPr cI 2 (ga_46 4)), (kAI vSt cI 2 (ga_46 5)), (kAI vFn cI 2 (ga_46 6)), (kAI vFt cI 32 qFt)]) hP hD hC [0, 1] rfl (by decide +kernel) (by decide +kernel) hk1 hFc hP1 hD1 rfl
  clear hP hD hPc hDc hFc hC hP1 hD1 hK1 hz1 hk1 hvm ht
  obtain ⟨hP, hD⟩ := hJ
  generalize H1 = H at hP hS ⊢
  try dsimp only at hw
  obtain ⟨c_50, c_51, c_52, c_53, c_54, c_55, c_56⟩ := hw
  refine lv_i2l hx₀ hb dX12_tellsFlight_58 rfl ?_
  refine lv_ladd hx₀ hb dX12_tellsFlight_59 ?_
  refine lv_lstore (lv' := [(4, .long ((31 * ((31 * ((31 * ((31 * ((31 * x1) + r_1.toInt64)) + r_11.toInt64)) + r_21.toInt64)) + r_31.toInt64)) + r_44.toInt64)), (6, .int 1), (0, .ref hm), (1, .long x1), (3, .int f1)]) hx₀ hb dX12_tellsFlight_60 hl (by decide) rfl (fun ls hl => ?_)
  refine lv_iinc (v := 2) (lv' := [(6, .int 2), (4, .long ((31 * ((31 * ((31 * ((31 * ((31 * x1) + r_1.toInt64)) + r_11.toInt64)) + r_21.toInt64)) + r_31.toInt64)) + r_44.toInt64)), (0, .ref hm), (1, .long x1), (3, .int f1)]) hx₀ hb dX12_tellsFlight_62 hl (k := 1) rfl (by decide +kernel) (by decide) rfl (fun ls hl => ?_)
  refine lv_goto (tgt := 38) hx₀ hb dX12_tellsFlight_65 (by decide) ?_
  refine lv_iload hx₀ hb dX12_tellsFlight_38 (lv_at hl 0 rfl) ?_
  refine lv_iconst (v := 4) hx₀ hb dX12_tellsFlight_40 (by decide +kernel) ?_
  refine lv_icmp_ge (tgt := 68) hx₀ hb dX12_tellsFlight_41 (by decide) (fun c9 => absurd c9 (by decide +kernel)) (fun _ => ?_)
  refine lv_ldc2 (v := 31) hx₀ hb hown (hts (.constantLong RX12 294 (31)) wd_991) dX12_tellsFlight_44 ?_
  refine lv_lload hx₀ hb dX12_tellsFlight_47 (lv_at hl 1 rfl) ?_
  refine lv_lmul hx₀ hb dX12_tellsFlight_49 ?_
  refine lv_aload_n hx₀ hb dX12_tellsFlight_50 rfl (lv_at hl 2 rfl) ?_
  refine lv_iload_n hx₀ hb dX12_tellsFlight_51 rfl (lv_at hl 4 rfl) ?_
  refine lv_iconst (v := 3) hx₀ hb dX12_tellsFlight_52 (by decide +kernel) ?_
  refine lv_iload hx₀ hb dX12_tellsFlight_53 (lv_at hl 0 rfl) ?_
  obtain ⟨hPc, hDc, hFc, hC⟩ := k_cw (wc := [(kX12 hm vFo vSi vIt vMo la vBy vTy (g_45 0) vMi (g_45 1) vPs (g_45 2) vGs fn vFt le vTo (g_45 3) (g_45 4) (g_45 5) ca (g_45 6) (g_45 7) vPr vSt vFn sn vSg vAl dr), (kAI vTy cI 3 qTy), (kAI vBy cI 120 qBy), (kAI vMi cI 24 (ga_46 0)), (kAI vPs cI 32 (ga_46 1)), (kAI vGs cI 16 (ga_46 2)), (kAI vTo cI 96 (ga_46 3)), (kAI vPr cI 2 (ga_46 4)), (kAI vSt cI 2 (ga_46 5)), (kAI vFn cI 2 (ga_46 6)), (kAI vFt cI 32 qFt)]) hP hD hS hA [2, 3, 4, 5, 6, 7, 8, 9, 10, 11, 12] (by decide +kernel) rfl
  refine va_calli (va_runV (As := [.int f1, .int 3, .int 2]) (rest := [.long (31 * ((31 * ((31 * ((31 * ((31 * ((31 * x1) + r_1.toInt64)) + r_11.toInt64)) + r_21.toInt64)) + r_31.toInt64)) + r_44.toInt64))]) ⟨hx₀, hb, hml, hown, hts⟩ (g_behind l dC dI cI cJ cQ H.size hm f1 3 2 vFo vSi vIt vMo la vBy vTy (g_45 0) vMi (g_45 1) vPs (g_45 2) vGs fn vFt le vTo (g_45 3) (g_45 4) (g_45 5) ca (g_45 6) (g_45 7) vPr vSt vFn sn vSg vAl dr qTy qBy (ga_46 0) (ga_46 1) (ga_46 2) (ga_46 3) (ga_46 4) (ga_46 5) (ga_46 6) qFt (hh0) (hh1) (hh2) (c_53) (c_54) (c_55) (c_56) (hh7)) (cwV 3 hts (kGV wd_594 wd_997 wd_592 wd_593 wd_5) rfl rfl rfl (by decide +kernel) ⟨Nat.le_of_ble_eq_true rfl, Nat.le_of_ble_eq_true rfl⟩) (k_preV11 (q0 := 0) hK hPc hDc hN rfl) rfl rfl hl.1 rfl (lv_room (Nat.le_of_ble_eq_true rfl)) dX12_tellsFlight_55 ⟨by decide +kernel, by decide +kernel⟩) hS (fun q _ h => hFc q h) hFc (fun r_57 u₀ t₀ H1 locs ht hvm hw hB hz1 hk1 hS => ?_)
  obtain ⟨g_58, ga_59, gl_60, gb_61, gp_62⟩ := u₀
  obtain ⟨hP1, hK1, hD1⟩ := hB
  rw [ht] at hP1
  have hJ := k_jn (wr := [(kAI vSg cI 16 qSg), (kAI vAl cI 25 qAl)]) (wt := [(kAI vSg cI 16 qSg), (kAI vAl cI 25 qAl), (kX12 hm vFo vSi vIt vMo la vBy vTy (g_58 0) vMi (g_58 1) vPs (g_58 2) vGs fn vFt le vTo (g_58 3) (g_58 4) (g_58 5) ca (g_58 6) (g_58 7) vPr vSt vFn sn vSg vAl dr), (kAI vTy cI 3 qTy), (kAI vBy cI 120 qBy), (kAI vMi cI 24 (ga_59 0)), (kAI vPs cI 32 (ga_59 1)), (kAI vGs cI 16 (ga_59 2)), (kAI vTo cI 96 (ga_59 3)), (kAI vPr cI 2 (ga_59 4)), (kAI vSt cI 2 (ga_59 5)), (kAI vFn cI 2 (ga_59 6)), (kAI vFt cI 32 qFt)]) hP hD hC [0, 1] rfl (by decide +kernel) (by decide +kernel) hk1 hFc hP1 hD1 rfl
  clear hP hD hPc hDc hFc hC hP1 hD1 hK1 hz1 hk1 hvm ht
  obtain ⟨hP, hD⟩ := hJ
  generalize H1 = H at hP hS ⊢
  try dsimp only at hw
  obtain ⟨c_63, c_64, c_65, c_66, c_67, c_68, c_69⟩ := hw
  refine lv_i2l hx₀ hb dX12_tellsFlight_58 rfl ?_
  refine lv_ladd hx₀ hb dX12_tellsFlight_59 ?_
  refine lv_lstore (lv' := [(4, .long ((31 * ((31 * ((31 * ((31 * ((31 * ((31 * x1) + r_1.toInt64)) + r_11.toInt64)) + r_21.toInt64)) + r_31.toInt64)) + r_44.toInt64)) + r_57.toInt64)), (6, .int 2), (0, .ref hm), (1, .long x1), (3, .int f1)]) hx₀ hb dX12_tellsFlight_60 hl (by decide) rfl (fun ls hl => ?_)
  refine lv_iinc (v := 3) (lv' := [(6, .int 3), (4, .long ((31 * ((31 * ((31 * ((31 * ((31 * ((31 * x1) + r_1.toInt64)) + r_11.toInt64)) + r_21.toInt64)) + r_31.toInt64)) + r_44.toInt64)) + r_57.toInt64)), (0, .ref hm), (1, .long x1), (3, .int f1)]) hx₀ hb dX12_tellsFlight_62 hl (k := 1) rfl (by decide +kernel) (by decide) rfl (fun ls hl => ?_)
  refine lv_goto (tgt := 38) hx₀ hb dX12_tellsFlight_65 (by decide) ?_
  refine lv_iload hx₀ hb dX12_tellsFlight_38 (lv_at hl 0 rfl) ?_
  refine lv_iconst (v := 4) hx₀ hb dX12_tellsFlight_40 (by decide +kernel) ?_
  refine lv_icmp_ge (tgt := 68) hx₀ hb dX12_tellsFlight_41 (by decide) (fun c9 => absurd c9 (by decide +kernel)) (fun _ => ?_)
  refine lv_ldc2 (v := 31) hx₀ hb hown (hts (.constantLong RX12 294 (31)) wd_991) dX12_tellsFlight_44 ?_
  refine lv_lload hx₀ hb dX12_tellsFlight_47 (lv_at hl 1 rfl) ?_
  refine lv_lmul hx₀ hb dX12_tellsFlight_49 ?_
  refine lv_aload_n hx₀ hb dX12_tellsFlight_50 rfl (lv_at hl 2 rfl) ?_
  refine lv_iload_n hx₀ hb dX12_tellsFlight_51 rfl (lv_at hl 4 rfl) ?_
  refine lv_iconst (v := 3) hx₀ hb dX12_tellsFlight_52 (by decide +kernel) ?_
  refine lv_iload hx₀ hb dX12_tellsFlight_53 (lv_at hl 0 rfl) ?_
  obtain ⟨hPc, hDc, hFc, hC⟩ := k_cw (wc := [(kX12 hm vFo vSi vIt vMo la vBy vTy (g_58 0) vMi (g_58 1) vPs (g_58 2) vGs fn vFt le vTo (g_58 3) (g_58 4) (g_58 5) ca (g_58 6) (g_58 7) vPr vSt vFn sn vSg vAl dr), (kAI vTy cI 3 qTy), (kAI vBy cI 120 qBy), (kAI vMi cI 24 (ga_59 0)), (kAI vPs cI 32 (ga_59 1)), (kAI vGs cI 16 (ga_59 2)), (kAI vTo cI 96 (ga_59 3)), (kAI vPr cI 2 (ga_59 4)), (kAI vSt cI 2 (ga_59 5)), (kAI vFn cI 2 (ga_59 6)), (kAI vFt cI 32 qFt)]) hP hD hS hA [2, 3, 4, 5, 6, 7, 8, 9, 10, 11, 12] (by decide +kernel) rfl
  refine va_calli (va_runV (As := [.int f1, .int 3, .int 3]) (rest := [.long (31 * ((31 * ((31 * ((31 * ((31 * ((31 * ((31 * x1) + r_1.toInt64)) + r_11.toInt64)) + r_21.toInt64)) + r_31.toInt64)) + r_44.toInt64)) + r_57.toInt64))]) ⟨hx₀, hb, hml, hown, hts⟩ (g_behind l dC dI cI cJ cQ H.size hm f1 3 3 vFo vSi vIt vMo la vBy vTy (g_58 0) vMi (g_58 1) vPs (g_58 2) vGs fn vFt le vTo (g_58 3) (g_58 4) (g_58 5) ca (g_58 6) (g_58 7) vPr vSt vFn sn vSg vAl dr qTy qBy (ga_59 0) (ga_59 1) (ga_59 2) (ga_59 3) (ga_59 4) (ga_59 5) (ga_59 6) qFt (hh0) (hh1) (hh2) (c_66) (c_67) (c_68) (c_69) (hh7)) (cwV 3 hts (kGV wd_594 wd_997 wd_592 wd_593 wd_5) rfl rfl rfl (by decide +kernel) ⟨Nat.le_of_ble_eq_true rfl, Nat.le_of_ble_eq_true rfl⟩) (k_preV11 (q0 := 0) hK hPc hDc hN rfl) rfl rfl hl.1 rfl (lv_room (Nat.le_of_ble_eq_true rfl)) dX12_tellsFlight_55 ⟨by decide +kernel, by decide +kernel⟩) hS (fun q _ h => hFc q h) hFc (fun r_70 u₀ t₀ H1 locs ht hvm hw hB hz1 hk1 hS => ?_)
  obtain ⟨g_71, ga_72, gl_73, gb_74, gp_75⟩ := u₀
  obtain ⟨hP1, hK1, hD1⟩ := hB
  rw [ht] at hP1
  have hJ := k_jn (wr := [(kAI vSg cI 16 qSg), (kAI vAl cI 25 qAl)]) (wt := [(kAI vSg cI 16 qSg), (kAI vAl cI 25 qAl), (kX12 hm vFo vSi vIt vMo la vBy vTy (g_71 0) vMi (g_71 1) vPs (g_71 2) vGs fn vFt le vTo (g_71 3) (g_71 4) (g_71 5) ca (g_71 6) (g_71 7) vPr vSt vFn sn vSg vAl dr), (kAI vTy cI 3 qTy), (kAI vBy cI 120 qBy), (kAI vMi cI 24 (ga_72 0)), (kAI vPs cI 32 (ga_72 1)), (kAI vGs cI 16 (ga_72 2)), (kAI vTo cI 96 (ga_72 3)), (kAI vPr cI 2 (ga_72 4)), (kAI vSt cI 2 (ga_72 5)), (kAI vFn cI 2 (ga_72 6)), (kAI vFt cI 32 qFt)]) hP hD hC [0, 1] rfl (by decide +kernel) (by decide +kernel) hk1 hFc hP1 hD1 rfl
  clear hP hD hPc hDc hFc hC hP1 hD1 hK1 hz1 hk1 hvm ht
  obtain ⟨hP, hD⟩ := hJ
  generalize H1 = H at hP hS ⊢
  try dsimp only at hw
  obtain ⟨c_76, c_77, c_78, c_79, c_80, c_81, c_82⟩ := hw
  refine lv_i2l hx₀ hb dX12_tellsFlight_58 rfl ?_
  refine lv_ladd hx₀ hb dX12_tellsFlight_59 ?_
  refine lv_lstore (lv' := [(4, .long ((31 * ((31 * ((31 * ((31 * ((31 * ((31 * ((31 * x1) + r_1.toInt64)) + r_11.toInt64)) + r_21.toInt64)) + r_31.toInt64)) + r_44.toInt64)) + r_57.toInt64)) + r_70.toInt64)), (6, .int 3), (0, .ref hm), (1, .long x1), (3, .int f1)]) hx₀ hb dX12_tellsFlight_60 hl (by decide) rfl (fun ls hl => ?_)
  refine lv_iinc (v := 4) (lv' := [(6, .int 4), (4, .long ((31 * ((31 * ((31 * ((31 * ((31 * ((31 * ((31 * x1) + r_1.toInt64)) + r_11.toInt64)) + r_21.toInt64)) + r_31.toInt64)) + r_44.toInt64)) + r_57.toInt64)) + r_70.toInt64)), (0, .ref hm), (1, .long x1), (3, .int f1)]) hx₀ hb dX12_tellsFlight_62 hl (k := 1) rfl (by decide +kernel) (by decide) rfl (fun ls hl => ?_)
  refine lv_goto (tgt := 38) hx₀ hb dX12_tellsFlight_65 (by decide) ?_
  refine lv_iload hx₀ hb dX12_tellsFlight_38 (lv_at hl 0 rfl) ?_
  refine lv_iconst (v := 4) hx₀ hb dX12_tellsFlight_40 (by decide +kernel) ?_
  refine lv_icmp_ge (tgt := 68) hx₀ hb dX12_tellsFlight_41 (by decide) (fun _ => ?_) (fun c9 => absurd (by decide +kernel) c9)
  refine lv_iconst (v := (-1)) hx₀ hb dX12_tellsFlight_68 (by decide +kernel) ?_
  refine lv_istore (lv' := [(6, .int (-1)), (4, .long ((31 * ((31 * ((31 * ((31 * ((31 * ((31 * ((31 * x1) + r_1.toInt64)) + r_11.toInt64)) + r_21.toInt64)) + r_31.toInt64)) + r_44.toInt64)) + r_57.toInt64)) + r_70.toInt64)), (0, .ref hm), (1, .long x1), (3, .int f1)]) hx₀ hb dX12_tellsFlight_69 hl (by decide) rfl (fun ls hl => ?_)
  refine lv_iload hx₀ hb dX12_tellsFlight_71 (lv_at hl 0 rfl) ?_
  refine lv_iconst (v := 3) hx₀ hb dX12_tellsFlight_73 (by decide +kernel) ?_
  refine lv_icmp_ge (tgt := 100) hx₀ hb dX12_tellsFlight_74 (by decide) (fun c9 => absurd c9 (by decide +kernel)) (fun _ => ?_)
  refine lv_ldc2 (v := 31) hx₀ hb hown (hts (.constantLong RX12 294 (31)) wd_991) dX12_tellsFlight_77 ?_
  refine lv_lload hx₀ hb dX12_tellsFlight_80 (lv_at hl 1 rfl) ?_
  refine lv_lmul hx₀ hb dX12_tellsFlight_82 ?_
  refine lv_aload_n hx₀ hb dX12_tellsFlight_83 rfl (lv_at hl 2 rfl) ?_
  refine lv_iload_n hx₀ hb dX12_tellsFlight_84 rfl (lv_at hl 4 rfl) ?_
  refine lv_iload hx₀ hb dX12_tellsFlight_85 (lv_at hl 0 rfl) ?_
  obtain ⟨hPc, hDc, hFc, hC⟩ := k_cw (wc := [(kX12 hm vFo vSi vIt vMo la vBy vTy (g_71 0) vMi (g_71 1) vPs (g_71 2) vGs fn vFt le vTo (g_71 3) (g_71 4) (g_71 5) ca (g_71 6) (g_71 7) vPr vSt vFn sn vSg vAl dr), (kAI vMi cI 24 (ga_72 0)), (kAI vPs cI 32 (ga_72 1)), (kAI vGs cI 16 (ga_72 2)), (kAI vTo cI 96 (ga_72 3)), (kAI vPr cI 2 (ga_72 4)), (kAI vSt cI 2 (ga_72 5)), (kAI vFn cI 2 (ga_72 6)), (kAI vFt cI 32 qFt)]) hP hD hS hA [2, 5, 6, 7, 8, 9, 10, 11, 12] (by decide +kernel) rfl
  refine va_calli (va_runV (As := [.int f1, .int (-1)]) (rest := [.long (31 * ((31 * ((31 * ((31 * ((31 * ((31 * ((31 * ((31 * x1) + r_1.toInt64)) + r_11.toInt64)) + r_21.toInt64)) + r_31.toInt64)) + r_44.toInt64)) + r_57.toInt64)) + r_70.toInt64))]) ⟨hx₀, hb, hml, hown, hts⟩ (g_climbOf l dC dI cI cJ cQ H.size hm f1 (-1) vFo vSi vIt vMo la vBy vTy (g_71 0) vMi (g_71 1) vPs (g_71 2) vGs fn vFt le vTo (g_71 3) (g_71 4) (g_71 5) ca (g_71 6) (g_71 7) vPr vSt vFn sn vSg vAl dr (ga_72 0) (ga_72 1) (ga_72 2) (ga_72 3) (ga_72 4) (ga_72 5) (ga_72 6) qFt (c_76) (c_77) (c_78) (c_79) (c_80) (c_81) (c_82) (hh12)) (cwV 2 hts (kGV wd_649 wd_646 wd_647 wd_648 wd_5) rfl rfl rfl (by decide +kernel) ⟨Nat.le_of_ble_eq_true rfl, Nat.le_of_ble_eq_true rfl⟩) (k_preV11 (q0 := 0) hK hPc hDc hN rfl) rfl rfl hl.1 rfl (lv_room (Nat.le_of_ble_eq_true rfl)) dX12_tellsFlight_87 ⟨by decide +kernel, by decide +kernel⟩) hS (fun q _ h => hFc q h) hFc (fun r_83 u₀ t₀ H1 locs ht hvm hw hB hz1 hk1 hS => ?_)
  obtain ⟨g_84, ga_85, gl_86, gb_87, gp_88⟩ := u₀
  obtain ⟨hP1, hK1, hD1⟩ := hB
  rw [ht] at hP1
  have hJ := k_jn (wr := [(kAI vSg cI 16 qSg), (kAI vAl cI 25 qAl), (kAI vTy cI 3 qTy), (kAI vBy cI 120 qBy)]) (wt := [(kAI vSg cI 16 qSg), (kAI vAl cI 25 qAl), (kAI vTy cI 3 qTy), (kAI vBy cI 120 qBy), (kX12 hm vFo vSi vIt vMo la vBy vTy (g_71 0) vMi (g_71 1) vPs (g_71 2) vGs fn vFt le vTo (g_84 0) (g_84 1) (g_84 2) ca (g_84 3) (g_84 4) vPr vSt vFn sn vSg vAl dr), (kAI vMi cI 24 (ga_72 0)), (kAI vPs cI 32 (ga_72 1)), (kAI vGs cI 16 (ga_72 2)), (kAI vTo cI 96 (ga_85 0)), (kAI vPr cI 2 (ga_85 1)), (kAI vSt cI 2 (ga_85 2)), (kAI vFn cI 2 (ga_85 3)), (kAI vFt cI 32 qFt)]) hP hD hC [0, 1, 3, 4] rfl (by decide +kernel) (by decide +kernel) hk1 hFc hP1 hD1 rfl
  clear hP hD hPc hDc hFc hC hP1 hD1 hK1 hz1 hk1 hvm ht
  obtain ⟨hP, hD⟩ := hJ
  generalize H1 = H at hP hS ⊢
  try dsimp only at hw
  obtain ⟨c_89, c_90, c_91, c_92⟩ := hw
  refine lv_i2l hx₀ hb dX12_tellsFlight_90 rfl ?_
  refine lv_ladd hx₀ hb dX12_tellsFlight_91 ?_
  refine lv_lstore (lv' := [(4, .long ((31 * ((31 * ((31 * ((31 * ((31 * ((31 * ((31 * ((31 * x1) + r_1.toInt64)) + r_11.toInt64)) + r_21.toInt64)) + r_31.toInt64)) + r_44.toInt64)) + r_57.toInt64)) + r_70.toInt64)) + r_83.toInt64)), (6, .int (-1)), (0, .ref hm), (1, .long x1), (3, .int f1)]) hx₀ hb dX12_tellsFlight_92 hl (by decide) rfl (fun ls hl => ?_)
  refine lv_iinc (v := 0) (lv' := [(6, .int 0), (4, .long ((31 * ((31 * ((31 * ((31 * ((31 * ((31 * ((31 * ((31 * x1) + r_1.toInt64)) + r_11.toInt64)) + r_21.toInt64)) + r_31.toInt64)) + r_44.toInt64)) + r_57.toInt64)) + r_70.toInt64)) + r_83.toInt64)), (0, .ref hm), (1, .long x1), (3, .int f1)]) hx₀ hb dX12_tellsFlight_94 hl (k := 1) rfl (by decide +kernel) (by decide) rfl (fun ls hl => ?_)
  refine lv_goto (tgt := 71) hx₀ hb dX12_tellsFlight_97 (by decide) ?_
  refine lv_iload hx₀ hb dX12_tellsFlight_71 (lv_at hl 0 rfl) ?_
  refine lv_iconst (v := 3) hx₀ hb dX12_tellsFlight_73 (by decide +kernel) ?_
  refine lv_icmp_ge (tgt := 100) hx₀ hb dX12_tellsFlight_74 (by decide) (fun c9 => absurd c9 (by decide +kernel)) (fun _ => ?_)
  refine lv_ldc2 (v := 31) hx₀ hb hown (hts (.constantLong RX12 294 (31)) wd_991) dX12_tellsFlight_77 ?_
  refine lv_lload hx₀ hb dX12_tellsFlight_80 (lv_at hl 1 rfl) ?_
  refine lv_lmul hx₀ hb dX12_tellsFlight_82 ?_
  refine lv_aload_n hx₀ hb dX12_tellsFlight_83 rfl (lv_at hl 2 rfl) ?_
  refine lv_iload_n hx₀ hb dX12_tellsFlight_84 rfl (lv_at hl 4 rfl) ?_
  refine lv_iload hx₀ hb dX12_tellsFlight_85 (lv_at hl 0 rfl) ?_
  obtain ⟨hPc, hDc, hFc, hC⟩ := k_cw (wc := [(kX12 hm vFo vSi vIt vMo la vBy vTy (g_71 0) vMi (g_71 1) vPs (g_71 2) vGs fn vFt le vTo (g_84 0) (g_84 1) (g_84 2) ca (g_84 3) (g_84 4) vPr vSt vFn sn vSg vAl dr), (kAI vMi cI 24 (ga_72 0)), (kAI vPs cI 32 (ga_72 1)), (kAI vGs cI 16 (ga_72 2)), (kAI vTo cI 96 (ga_85 0)), (kAI vPr cI 2 (ga_85 1)), (kAI vSt cI 2 (ga_85 2)), (kAI vFn cI 2 (ga_85 3)), (kAI vFt cI 32 qFt)]) hP hD hS hA [4, 5, 6, 7, 8, 9, 10, 11, 12] (by decide +kernel) rfl
  refine va_calli (va_runV (As := [.int f1, .int 0]) (rest := [.long (31 * ((31 * ((31 * ((31 * ((31 * ((31 * ((31 * ((31 * ((31 * x1) + r_1.toInt64)) + r_11.toInt64)) + r_21.toInt64)) + r_31.toInt64)) + r_44.toInt64)) + r_57.toInt64)) + r_70.toInt64)) + r_83.toInt64))]) ⟨hx₀, hb, hml, hown, hts⟩ (g_climbOf l dC dI cI cJ cQ H.size hm f1 0 vFo vSi vIt vMo la vBy vTy (g_71 0) vMi (g_71 1) vPs (g_71 2) vGs fn vFt le vTo (g_84 0) (g_84 1) (g_84 2) ca (g_84 3) (g_84 4) vPr vSt vFn sn vSg vAl dr (ga_72 0) (ga_72 1) (ga_72 2) (ga_85 0) (ga_85 1) (ga_85 2) (ga_85 3) qFt (c_76) (c_77) (c_78) (c_89) (c_90) (c_91) (c_92) (hh12)) (cwV 2 hts (kGV wd_649 wd_646 wd_647 wd_648 wd_5) rfl rfl rfl (by decide +kernel) ⟨Nat.le_of_ble_eq_true rfl, Nat.le_of_ble_eq_true rfl⟩) (k_preV11 (q0 := 0) hK hPc hDc hN rfl) rfl rfl hl.1 rfl (lv_room (Nat.le_of_ble_eq_true rfl)) dX12_tellsFlight_87 ⟨by decide +kernel, by decide +kernel⟩) hS (fun q _ h => hFc q h) hFc (fun r_93 u₀ t₀ H1 locs ht hvm hw hB hz1 hk1 hS => ?_)
  obtain ⟨g_94, ga_95, gl_96, gb_97, gp_98⟩ := u₀
  obtain ⟨hP1, hK1, hD1⟩ := hB
  rw [ht] at hP1
  have hJ := k_jn (wr := [(kAI vSg cI 16 qSg), (kAI vAl cI 25 qAl), (kAI vTy cI 3 qTy), (kAI vBy cI 120 qBy)]) (wt := [(kAI vSg cI 16 qSg), (kAI vAl cI 25 qAl), (kAI vTy cI 3 qTy), (kAI vBy cI 120 qBy), (kX12 hm vFo vSi vIt vMo la vBy vTy (g_71 0) vMi (g_71 1) vPs (g_71 2) vGs fn vFt le vTo (g_94 0) (g_94 1) (g_94 2) ca (g_94 3) (g_94 4) vPr vSt vFn sn vSg vAl dr), (kAI vMi cI 24 (ga_72 0)), (kAI vPs cI 32 (ga_72 1)), (kAI vGs cI 16 (ga_72 2)), (kAI vTo cI 96 (ga_95 0)), (kAI vPr cI 2 (ga_95 1)), (kAI vSt cI 2 (ga_95 2)), (kAI vFn cI 2 (ga_95 3)), (kAI vFt cI 32 qFt)]) hP hD hC [0, 1, 2, 3] rfl (by decide +kernel) (by decide +kernel) hk1 hFc hP1 hD1 rfl
  clear hP hD hPc hDc hFc hC hP1 hD1 hK1 hz1 hk1 hvm ht
  obtain ⟨hP, hD⟩ := hJ
  generalize H1 = H at hP hS ⊢
  try dsimp only at hw
  obtain ⟨c_99, c_100, c_101, c_102⟩ := hw
  refine lv_i2l hx₀ hb dX12_tellsFlight_90 rfl ?_
  refine lv_ladd hx₀ hb dX12_tellsFlight_91 ?_
  refine lv_lstore (lv' := [(4, .long ((31 * ((31 * ((31 * ((31 * ((31 * ((31 * ((31 * ((31 * ((31 * x1) + r_1.toInt64)) + r_11.toInt64)) + r_21.toInt64)) + r_31.toInt64)) + r_44.toInt64)) + r_57.toInt64)) + r_70.toInt64)) + r_83.toInt64)) + r_93.toInt64)), (6, .int 0), (0, .ref hm), (1, .long x1), (3, .int f1)]) hx₀ hb dX12_tellsFlight_92 hl (by decide) rfl (fun ls hl => ?_)
  refine lv_iinc (v := 1) (lv' := [(6, .int 1), (4, .long ((31 * ((31 * ((31 * ((31 * ((31 * ((31 * ((31 * ((31 * ((31 * x1) + r_1.toInt64)) + r_11.toInt64)) + r_21.toInt64)) + r_31.toInt64)) + r_44.toInt64)) + r_57.toInt64)) + r_70.toInt64)) + r_83.toInt64)) + r_93.toInt64)), (0, .ref hm), (1, .long x1), (3, .int f1)]) hx₀ hb dX12_tellsFlight_94 hl (k := 1) rfl (by decide +kernel) (by decide) rfl (fun ls hl => ?_)
  refine lv_goto (tgt := 71) hx₀ hb dX12_tellsFlight_97 (by decide) ?_
  refine lv_iload hx₀ hb dX12_tellsFlight_71 (lv_at hl 0 rfl) ?_
  refine lv_iconst (v := 3) hx₀ hb dX12_tellsFlight_73 (by decide +kernel) ?_
  refine lv_icmp_ge (tgt := 100) hx₀ hb dX12_tellsFlight_74 (by decide) (fun c9 => absurd c9 (by decide +kernel)) (fun _ => ?_)
  refine lv_ldc2 (v := 31) hx₀ hb hown (hts (.constantLong RX12 294 (31)) wd_991) dX12_tellsFlight_77 ?_
  refine lv_lload hx₀ hb dX12_tellsFlight_80 (lv_at hl 1 rfl) ?_
  refine lv_lmul hx₀ hb dX12_tellsFlight_82 ?_
  refine lv_aload_n hx₀ hb dX12_tellsFlight_83 rfl (lv_at hl 2 rfl) ?_
  refine lv_iload_n hx₀ hb dX12_tellsFlight_84 rfl (lv_at hl 4 rfl) ?_
  refine lv_iload hx₀ hb dX12_tellsFlight_85 (lv_at hl 0 rfl) ?_
  obtain ⟨hPc, hDc, hFc, hC⟩ := k_cw (wc := [(kX12 hm vFo vSi vIt vMo la vBy vTy (g_71 0) vMi (g_71 1) vPs (g_71 2) vGs fn vFt le vTo (g_94 0) (g_94 1) (g_94 2) ca (g_94 3) (g_94 4) vPr vSt vFn sn vSg vAl dr), (kAI vMi cI 24 (ga_72 0)), (kAI vPs cI 32 (ga_72 1)), (kAI vGs cI 16 (ga_72 2)), (kAI vTo cI 96 (ga_95 0)), (kAI vPr cI 2 (ga_95 1)), (kAI vSt cI 2 (ga_95 2)), (kAI vFn cI 2 (ga_95 3)), (kAI vFt cI 32 qFt)]) hP hD hS hA [4, 5, 6, 7, 8, 9, 10, 11, 12] (by decide +kernel) rfl
  refine va_calli (va_runV (As := [.int f1, .int 1]) (rest := [.long (31 * ((31 * ((31 * ((31 * ((31 * ((31 * ((31 * ((31 * ((31 * ((31 * x1) + r_1.toInt64)) + r_11.toInt64)) + r_21.toInt64)) + r_31.toInt64)) + r_44.toInt64)) + r_57.toInt64)) + r_70.toInt64)) + r_83.toInt64)) + r_93.toInt64))]) ⟨hx₀, hb, hml, hown, hts⟩ (g_climbOf l dC dI cI cJ cQ H.size hm f1 1 vFo vSi vIt vMo la vBy vTy (g_71 0) vMi (g_71 1) vPs (g_71 2) vGs fn vFt le vTo (g_94 0) (g_94 1) (g_94 2) ca (g_94 3) (g_94 4) vPr vSt vFn sn vSg vAl dr (ga_72 0) (ga_72 1) (ga_72 2) (ga_95 0) (ga_95 1) (ga_95 2) (ga_95 3) qFt (c_76) (c_77) (c_78) (c_99) (c_100) (c_101) (c_102) (hh12)) (cwV 2 hts (kGV wd_649 wd_646 wd_647 wd_648 wd_5) rfl rfl rfl (by decide +kernel) ⟨Nat.le_of_ble_eq_true rfl, Nat.le_of_ble_eq_true rfl⟩) (k_preV11 (q0 := 0) hK hPc hDc hN rfl) rfl rfl hl.1 rfl (lv_room (Nat.le_of_ble_eq_true rfl)) dX12_tellsFlight_87 ⟨by decide +kernel, by decide +kernel⟩) hS (fun q _ h => hFc q h) hFc (fun r_103 u₀ t₀ H1 locs ht hvm hw hB hz1 hk1 hS => ?_)
  obtain ⟨g_104, ga_105, gl_106, gb_107, gp_108⟩ := u₀
  obtain ⟨hP1, hK1, hD1⟩ := hB
  rw [ht] at hP1
  have hJ := k_jn (wr := [(kAI vSg cI 16 qSg), (kAI vAl cI 25 qAl), (kAI vTy cI 3 qTy), (kAI vBy cI 120 qBy)]) (wt := [(kAI vSg cI 16 qSg), (kAI vAl cI 25 qAl), (kAI vTy cI 3 qTy), (kAI vBy cI 120 qBy), (kX12 hm vFo vSi vIt vMo la vBy vTy (g_71 0) vMi (g_71 1) vPs (g_71 2) vGs fn vFt le vTo (g_104 0) (g_104 1) (g_104 2) ca (g_104 3) (g_104 4) vPr vSt vFn sn vSg vAl dr), (kAI vMi cI 24 (ga_72 0)), (kAI vPs cI 32 (ga_72 1)), (kAI vGs cI 16 (ga_72 2)), (kAI vTo cI 96 (ga_105 0)), (kAI vPr cI 2 (ga_105 1)), (kAI vSt cI 2 (ga_105 2)), (kAI vFn cI 2 (ga_105 3)), (kAI vFt cI 32 qFt)]) hP hD hC [0, 1, 2, 3] rfl (by decide +kernel) (by decide +kernel) hk1 hFc hP1 hD1 rfl
  clear hP hD hPc hDc hFc hC hP1 hD1 hK1 hz1 hk1 hvm ht
  obtain ⟨hP, hD⟩ := hJ
  generalize H1 = H at hP hS ⊢
  try dsimp only at hw
  obtain ⟨c_109, c_110, c_111, c_112⟩ := hw
  refine lv_i2l hx₀ hb dX12_tellsFlight_90 rfl ?_
  refine lv_ladd hx₀ hb dX12_tellsFlight_91 ?_
  refine lv_lstore (lv' := [(4, .long ((31 * ((31 * ((31 * ((31 * ((31 * ((31 * ((31 * ((31 * ((31 * ((31 * x1) + r_1.toInt64)) + r_11.toInt64)) + r_21.toInt64)) + r_31.toInt64)) + r_44.toInt64)) + r_57.toInt64)) + r_70.toInt64)) + r_83.toInt64)) + r_93.toInt64)) + r_103.toInt64)), (6, .int 1), (0, .ref hm), (1, .long x1), (3, .int f1)]) hx₀ hb dX12_tellsFlight_92 hl (by decide) rfl (fun ls hl => ?_)
  refine lv_iinc (v := 2) (lv' := [(6, .int 2), (4, .long ((31 * ((31 * ((31 * ((31 * ((31 * ((31 * ((31 * ((31 * ((31 * ((31 * x1) + r_1.toInt64)) + r_11.toInt64)) + r_21.toInt64)) + r_31.toInt64)) + r_44.toInt64)) + r_57.toInt64)) + r_70.toInt64)) + r_83.toInt64)) + r_93.toInt64)) + r_103.toInt64)), (0, .ref hm), (1, .long x1), (3, .int f1)]) hx₀ hb dX12_tellsFlight_94 hl (k := 1) rfl (by decide +kernel) (by decide) rfl (fun ls hl => ?_)
  refine lv_goto (tgt := 71) hx₀ hb dX12_tellsFlight_97 (by decide) ?_
  refine lv_iload hx₀ hb dX12_tellsFlight_71 (lv_at hl 0 rfl) ?_
  refine lv_iconst (v := 3) hx₀ hb dX12_tellsFlight_73 (by decide +kernel) ?_
  refine lv_icmp_ge (tgt := 100) hx₀ hb dX12_tellsFlight_74 (by decide) (fun c9 => absurd c9 (by decide +kernel)) (fun _ => ?_)
  refine lv_ldc2 (v := 31) hx₀ hb hown (hts (.constantLong RX12 294 (31)) wd_991) dX12_tellsFlight_77 ?_
  refine lv_lload hx₀ hb dX12_tellsFlight_80 (lv_at hl 1 rfl) ?_
  refine lv_lmul hx₀ hb dX12_tellsFlight_82 ?_
  refine lv_aload_n hx₀ hb dX12_tellsFlight_83 rfl (lv_at hl 2 rfl) ?_
  refine lv_iload_n hx₀ hb dX12_tellsFlight_84 rfl (lv_at hl 4 rfl) ?_
  refine lv_iload hx₀ hb dX12_tellsFlight_85 (lv_at hl 0 rfl) ?_
  obtain ⟨hPc, hDc, hFc, hC⟩ := k_cw (wc := [(kX12 hm vFo vSi vIt vMo la vBy vTy (g_71 0) vMi (g_71 1) vPs (g_71 2) vGs fn vFt le vTo (g_104 0) (g_104 1) (g_104 2) ca (g_104 3) (g_104 4) vPr vSt vFn sn vSg vAl dr), (kAI vMi cI 24 (ga_72 0)), (kAI vPs cI 32 (ga_72 1)), (kAI vGs cI 16 (ga_72 2)), (kAI vTo cI 96 (ga_105 0)), (kAI vPr cI 2 (ga_105 1)), (kAI vSt cI 2 (ga_105 2)), (kAI vFn cI 2 (ga_105 3)), (kAI vFt cI 32 qFt)]) hP hD hS hA [4, 5, 6, 7, 8, 9, 10, 11, 12] (by decide +kernel) rfl
  refine va_calli (va_runV (As := [.int f1, .int 2]) (rest := [.long (31 * ((31 * ((31 * ((31 * ((31 * ((31 * ((31 * ((31 * ((31 * ((31 * ((31 * x1) + r_1.toInt64)) + r_11.toInt64)) + r_21.toInt64)) + r_31.toInt64)) + r_44.toInt64)) + r_57.toInt64)) + r_70.toInt64)) + r_83.toInt64)) + r_93.toInt64)) + r_103.toInt64))]) ⟨hx₀, hb, hml, hown, hts⟩ (g_climbOf l dC dI cI cJ cQ H.size hm f1 2 vFo vSi vIt vMo la vBy vTy (g_71 0) vMi (g_71 1) vPs (g_71 2) vGs fn vFt le vTo (g_104 0) (g_104 1) (g_104 2) ca (g_104 3) (g_104 4) vPr vSt vFn sn vSg vAl dr (ga_72 0) (ga_72 1) (ga_72 2) (ga_105 0) (ga_105 1) (ga_105 2) (ga_105 3) qFt (c_76) (c_77) (c_78) (c_109) (c_110) (c_111) (c_112) (hh12)) (cwV 2 hts (kGV wd_649 wd_646 wd_647 wd_648 wd_5) rfl rfl rfl (by decide +kernel) ⟨Nat.le_of_ble_eq_true rfl, Nat.le_of_ble_eq_true rfl⟩) (k_preV11 (q0 := 0) hK hPc hDc hN rfl) rfl rfl hl.1 rfl (lv_room (Nat.le_of_ble_eq_true rfl)) dX12_tellsFlight_87 ⟨by decide +kernel, by decide +kernel⟩) hS (fun q _ h => hFc q h) hFc (fun r_113 u₀ t₀ H1 locs ht hvm hw hB hz1 hk1 hS => ?_)
  obtain ⟨g_114, ga_115, gl_116, gb_117, gp_118⟩ := u₀
  obtain ⟨hP1, hK1, hD1⟩ := hB
  rw [ht] at hP1
  have hJ := k_jn (wr := [(kAI vSg cI 16 qSg), (kAI vAl cI 25 qAl), (kAI vTy cI 3 qTy), (kAI vBy cI 120 qBy)]) (wt := [(kAI vSg cI 16 qSg), (kAI vAl cI 25 qAl), (kAI vTy cI 3 qTy), (kAI vBy cI 120 qBy), (kX12 hm vFo vSi vIt vMo la vBy vTy (g_71 0) vMi (g_71 1) vPs (g_71 2) vGs fn vFt le vTo (g_114 0) (g_114 1) (g_114 2) ca (g_114 3) (g_114 4) vPr vSt vFn sn vSg vAl dr), (kAI vMi cI 24 (ga_72 0)), (kAI vPs cI 32 (ga_72 1)), (kAI vGs cI 16 (ga_72 2)), (kAI vTo cI 96 (ga_115 0)), (kAI vPr cI 2 (ga_115 1)), (kAI vSt cI 2 (ga_115 2)), (kAI vFn cI 2 (ga_115 3)), (kAI vFt cI 32 qFt)]) hP hD hC [0, 1, 2, 3] rfl (by decide +kernel) (by decide +kernel) hk1 hFc hP1 hD1 rfl
  clear hP hD hPc hDc hFc hC hP1 hD1 hK1 hz1 hk1 hvm ht
  obtain ⟨hP, hD⟩ := hJ
  generalize H1 = H at hP hS ⊢
  try dsimp only at hw
  obtain ⟨c_119, c_120, c_121, c_122⟩ := hw
  refine lv_i2l hx₀ hb dX12_tellsFlight_90 rfl ?_
  refine lv_ladd hx₀ hb dX12_tellsFlight_91 ?_
  refine lv_lstore (lv' := [(4, .long ((31 * ((31 * ((31 * ((31 * ((31 * ((31 * ((31 * ((31 * ((31 * ((31 * ((31 * x1) + r_1.toInt64)) + r_11.toInt64)) + r_21.toInt64)) + r_31.toInt64)) + r_44.toInt64)) + r_57.toInt64)) + r_70.toInt64)) + r_83.toInt64)) + r_93.toInt64)) + r_103.toInt64)) + r_113.toInt64)), (6, .int 2), (0, .ref hm), (1, .long x1), (3, .int f1)]) hx₀ hb dX12_tellsFlight_92 hl (by decide) rfl (fun ls hl => ?_)
  refine lv_iinc (v := 3) (lv' := [(6, .int 3), (4, .long ((31 * ((31 * ((31 * ((31 * ((31 * ((31 * ((31 * ((31 * ((31 * ((31 * ((31 * x1) + r_1.toInt64)) + r_11.toInt64)) + r_21.toInt64)) + r_31.toInt64)) + r_44.toInt64)) + r_57.toInt64)) + r_70.toInt64)) + r_83.toInt64)) + r_93.toInt64)) + r_103.toInt64)) + r_113.toInt64)), (0, .ref hm), (1, .long x1), (3, .int f1)]) hx₀ hb dX12_tellsFlight_94 hl (k := 1) rfl (by decide +kernel) (by decide) rfl (fun ls hl => ?_)
  refine lv_goto (tgt := 71) hx₀ hb dX12_tellsFlight_97 (by decide) ?_
  refine lv_iload hx₀ hb dX12_tellsFlight_71 (lv_at hl 0 rfl) ?_
  refine lv_iconst (v := 3) hx₀ hb dX12_tellsFlight_73 (by decide +kernel) ?_
  refine lv_icmp_ge (tgt := 100) hx₀ hb dX12_tellsFlight_74 (by decide) (fun _ => ?_) (fun c9 => absurd (by decide +kernel) c9)
  refine lv_ldc2 (v := 31) hx₀ hb hown (hts (.constantLong RX12 294 (31)) wd_991) dX12_tellsFlight_100 ?_
  refine lv_lload hx₀ hb dX12_tellsFlight_103 (lv_at hl 1 rfl) ?_
  refine lv_lmul hx₀ hb dX12_tellsFlight_105 ?_
  refine lv_aload_n hx₀ hb dX12_tellsFlight_106 rfl (lv_at hl 2 rfl) ?_
  refine lv_iload_n hx₀ hb dX12_tellsFlight_107 rfl (lv_at hl 4 rfl) ?_
  refine lv_iconst (v := 0) hx₀ hb dX12_tellsFlight_108 (by decide +kernel) ?_
  obtain ⟨hPc, hDc, hFc, hC⟩ := k_cw (wc := [(kX12 hm vFo vSi vIt vMo la vBy vTy (g_71 0) vMi (g_71 1) vPs (g_71 2) vGs fn vFt le vTo (g_114 0) (g_114 1) (g_114 2) ca (g_114 3) (g_114 4) vPr vSt vFn sn vSg vAl dr), (kAI vMi cI 24 (ga_72 0)), (kAI vPs cI 32 (ga_72 1)), (kAI vGs cI 16 (ga_72 2)), (kAI vTo cI 96 (ga_115 0)), (kAI vPr cI 2 (ga_115 1)), (kAI vSt cI 2 (ga_115 2)), (kAI vFn cI 2 (ga_115 3)), (kAI vFt cI 32 qFt)]) hP hD hS hA [4, 5, 6, 7, 8, 9, 10, 11, 12] (by decide +kernel) rfl
  refine va_calli (va_runV (As := [.int f1, .int 0]) (rest := [.long (31 * ((31 * ((31 * ((31 * ((31 * ((31 * ((31 * ((31 * ((31 * ((31 * ((31 * ((31 * x1) + r_1.toInt64)) + r_11.toInt64)) + r_21.toInt64)) + r_31.toInt64)) + r_44.toInt64)) + r_57.toInt64)) + r_70.toInt64)) + r_83.toInt64)) + r_93.toInt64)) + r_103.toInt64)) + r_113.toInt64))]) ⟨hx₀, hb, hml, hown, hts⟩ (g_practiceOf l dC dI cI cJ cQ H.size hm f1 0 vFo vSi vIt vMo la vBy vTy (g_71 0) vMi (g_71 1) vPs (g_71 2) vGs fn vFt le vTo (g_114 0) (g_114 1) (g_114 2) ca (g_114 3) (g_114 4) vPr vSt vFn sn vSg vAl dr (ga_72 0) (ga_72 1) (ga_72 2) (ga_115 0) (ga_115 1) (ga_115 2) (ga_115 3) qFt (c_76) (c_77) (c_78) (c_119) (c_120) (c_121) (c_122) (hh12)) (cwV 2 hts (kGV wd_668 wd_665 wd_666 wd_667 wd_5) rfl rfl rfl (by decide +kernel) ⟨Nat.le_of_ble_eq_true rfl, Nat.le_of_ble_eq_true rfl⟩) (k_preV11 (q0 := 0) hK hPc hDc hN rfl) rfl rfl hl.1 rfl (lv_room (Nat.le_of_ble_eq_true rfl)) dX12_tellsFlight_109 ⟨by decide +kernel, by decide +kernel⟩) hS (fun q _ h => hFc q h) hFc (fun r_123 u₀ t₀ H1 locs ht hvm hw hB hz1 hk1 hS => ?_)
  obtain ⟨g_124, ga_125, gl_126, gb_127, gp_128⟩ := u₀
  obtain ⟨hP1, hK1, hD1⟩ := hB
  rw [ht] at hP1
  have hJ := k_jn (wr := [(kAI vSg cI 16 qSg), (kAI vAl cI 25 qAl), (kAI vTy cI 3 qTy), (kAI vBy cI 120 qBy)]) (wt := [(kAI vSg cI 16 qSg), (kAI vAl cI 25 qAl), (kAI vTy cI 3 qTy), (kAI vBy cI 120 qBy), (kX12 hm vFo vSi vIt vMo la vBy vTy (g_71 0) vMi (g_71 1) vPs (g_71 2) vGs fn vFt le vTo (g_124 0) (g_124 1) (g_124 2) ca (g_124 3) (g_124 4) vPr vSt vFn sn vSg vAl dr), (kAI vMi cI 24 (ga_72 0)), (kAI vPs cI 32 (ga_72 1)), (kAI vGs cI 16 (ga_72 2)), (kAI vTo cI 96 (ga_125 0)), (kAI vPr cI 2 (ga_125 1)), (kAI vSt cI 2 (ga_125 2)), (kAI vFn cI 2 (ga_125 3)), (kAI vFt cI 32 qFt)]) hP hD hC [0, 1, 2, 3] rfl (by decide +kernel) (by decide +kernel) hk1 hFc hP1 hD1 rfl
  clear hP hD hPc hDc hFc hC hP1 hD1 hK1 hz1 hk1 hvm ht
  obtain ⟨hP, hD⟩ := hJ
  generalize H1 = H at hP hS ⊢
  try dsimp only at hw
  obtain ⟨c_129, c_130, c_131, c_132⟩ := hw
  refine lv_i2l hx₀ hb dX12_tellsFlight_112 rfl ?_
  refine lv_ladd hx₀ hb dX12_tellsFlight_113 ?_
  refine lv_lstore (lv' := [(4, .long ((31 * ((31 * ((31 * ((31 * ((31 * ((31 * ((31 * ((31 * ((31 * ((31 * ((31 * ((31 * x1) + r_1.toInt64)) + r_11.toInt64)) + r_21.toInt64)) + r_31.toInt64)) + r_44.toInt64)) + r_57.toInt64)) + r_70.toInt64)) + r_83.toInt64)) + r_93.toInt64)) + r_103.toInt64)) + r_113.toInt64)) + r_123.toInt64)), (6, .int 3), (0, .ref hm), (1, .long x1), (3, .int f1)]) hx₀ hb dX12_tellsFlight_114 hl (by decide) rfl (fun ls hl => ?_)
  refine lv_ldc2 (v := 31) hx₀ hb hown (hts (.constantLong RX12 294 (31)) wd_991) dX12_tellsFlight_116 ?_
  refine lv_lload hx₀ hb dX12_tellsFlight_119 (lv_at hl 0 rfl) ?_
  refine lv_lmul hx₀ hb dX12_tellsFlight_121 ?_
  refine lv_aload_n hx₀ hb dX12_tellsFlight_122 rfl (lv_at hl 2 rfl) ?_
  refine lv_iload_n hx₀ hb dX12_tellsFlight_123 rfl (lv_at hl 4 rfl) ?_
  refine lv_iconst (v := 1) hx₀ hb dX12_tellsFlight_124 (by decide +kernel) ?_
  obtain ⟨hPc, hDc, hFc, hC⟩ := k_cw (wc := [(kX12 hm vFo vSi vIt vMo la vBy vTy (g_71 0) vMi (g_71 1) vPs (g_71 2) vGs fn vFt le vTo (g_124 0) (g_124 1) (g_124 2) ca (g_124 3) (g_124 4) vPr vSt vFn sn vSg vAl dr), (kAI vMi cI 24 (ga_72 0)), (kAI vPs cI 32 (ga_72 1)), (kAI vGs cI 16 (ga_72 2)), (kAI vTo cI 96 (ga_125 0)), (kAI vPr cI 2 (ga_125 1)), (kAI vSt cI 2 (ga_125 2)), (kAI vFn cI 2 (ga_125 3)), (kAI vFt cI 32 qFt)]) hP hD hS hA [4, 5, 6, 7, 8, 9, 10, 11, 12] (by decide +kernel) rfl
  refine va_calli (va_runV (As := [.int f1, .int 1]) (rest := [.long (31 * ((31 * ((31 * ((31 * ((31 * ((31 * ((31 * ((31 * ((31 * ((31 * ((31 * ((31 * ((31 * x1) + r_1.toInt64)) + r_11.toInt64)) + r_21.toInt64)) + r_31.toInt64)) + r_44.toInt64)) + r_57.toInt64)) + r_70.toInt64)) + r_83.toInt64)) + r_93.toInt64)) + r_103.toInt64)) + r_113.toInt64)) + r_123.toInt64))]) ⟨hx₀, hb, hml, hown, hts⟩ (g_practiceOf l dC dI cI cJ cQ H.size hm f1 1 vFo vSi vIt vMo la vBy vTy (g_71 0) vMi (g_71 1) vPs (g_71 2) vGs fn vFt le vTo (g_124 0) (g_124 1) (g_124 2) ca (g_124 3) (g_124 4) vPr vSt vFn sn vSg vAl dr (ga_72 0) (ga_72 1) (ga_72 2) (ga_125 0) (ga_125 1) (ga_125 2) (ga_125 3) qFt (c_76) (c_77) (c_78) (c_129) (c_130) (c_131) (c_132) (hh12)) (cwV 2 hts (kGV wd_668 wd_665 wd_666 wd_667 wd_5) rfl rfl rfl (by decide +kernel) ⟨Nat.le_of_ble_eq_true rfl, Nat.le_of_ble_eq_true rfl⟩) (k_preV11 (q0 := 0) hK hPc hDc hN rfl) rfl rfl hl.1 rfl (lv_room (Nat.le_of_ble_eq_true rfl)) dX12_tellsFlight_125 ⟨by decide +kernel, by decide +kernel⟩) hS (fun q _ h => hFc q h) hFc (fun r_133 u₀ t₀ H1 locs ht hvm hw hB hz1 hk1 hS => ?_)
  obtain ⟨g_134, ga_135, gl_136, gb_137, gp_138⟩ := u₀
  obtain ⟨hP1, hK1, hD1⟩ := hB
  rw [ht] at hP1
  have hJ := k_jn (wr := [(kAI vSg cI 16 qSg), (kAI vAl cI 25 qAl), (kAI vTy cI 3 qTy), (kAI vBy cI 120 qBy)]) (wt := [(kAI vSg cI 16 qSg), (kAI vAl cI 25 qAl), (kAI vTy cI 3 qTy), (kAI vBy cI 120 qBy), (kX12 hm vFo vSi vIt vMo la vBy vTy (g_71 0) vMi (g_71 1) vPs (g_71 2) vGs fn vFt le vTo (g_134 0) (g_134 1) (g_134 2) ca (g_134 3) (g_134 4) vPr vSt vFn sn vSg vAl dr), (kAI vMi cI 24 (ga_72 0)), (kAI vPs cI 32 (ga_72 1)), (kAI vGs cI 16 (ga_72 2)), (kAI vTo cI 96 (ga_135 0)), (kAI vPr cI 2 (ga_135 1)), (kAI vSt cI 2 (ga_135 2)), (kAI vFn cI 2 (ga_135 3)), (kAI vFt cI 32 qFt)]) hP hD hC [0, 1, 2, 3] rfl (by decide +kernel) (by decide +kernel) hk1 hFc hP1 hD1 rfl
  clear hP hD hPc hDc hFc hC hP1 hD1 hK1 hz1 hk1 hvm ht
  obtain ⟨hP, hD⟩ := hJ
  generalize H1 = H at hP hS ⊢
  try dsimp only at hw
  obtain ⟨c_139, c_140, c_141, c_142⟩ := hw
  refine lv_i2l hx₀ hb dX12_tellsFlight_128 rfl ?_
  refine lv_ladd hx₀ hb dX12_tellsFlight_129 ?_
  refine lv_lstore (lv' := [(4, .long ((31 * ((31 * ((31 * ((31 * ((31 * ((31 * ((31 * ((31 * ((31 * ((31 * ((31 * ((31 * ((31 * x1) + r_1.toInt64)) + r_11.toInt64)) + r_21.toInt64)) + r_31.toInt64)) + r_44.toInt64)) + r_57.toInt64)) + r_70.toInt64)) + r_83.toInt64)) + r_93.toInt64)) + r_103.toInt64)) + r_113.toInt64)) + r_123.toInt64)) + r_133.toInt64)), (6, .int 3), (0, .ref hm), (1, .long x1), (3, .int f1)]) hx₀ hb dX12_tellsFlight_130 hl (by decide) rfl (fun ls hl => ?_)
  refine lv_ldc2 (v := 31) hx₀ hb hown (hts (.constantLong RX12 294 (31)) wd_991) dX12_tellsFlight_132 ?_
  refine lv_lload hx₀ hb dX12_tellsFlight_135 (lv_at hl 0 rfl) ?_
  refine lv_lmul hx₀ hb dX12_tellsFlight_137 ?_
  refine lv_aload_n hx₀ hb dX12_tellsFlight_138 rfl (lv_at hl 2 rfl) ?_
  refine lv_iload_n hx₀ hb dX12_tellsFlight_139 rfl (lv_at hl 4 rfl) ?_
  refine lv_iconst (v := 0) hx₀ hb dX12_tellsFlight_140 (by decide +kernel) ?_
  obtain ⟨hPc, hDc, hFc, hC⟩ := k_cw (wc := [(kX12 hm vFo vSi vIt vMo la vBy vTy (g_71 0) vMi (g_71 1) vPs (g_71 2) vGs fn vFt le vTo (g_134 0) (g_134 1) (g_134 2) ca (g_134 3) (g_134 4) vPr vSt vFn sn vSg vAl dr), (kAI vMi cI 24 (ga_72 0)), (kAI vPs cI 32 (ga_72 1)), (kAI vGs cI 16 (ga_72 2)), (kAI vTo cI 96 (ga_135 0)), (kAI vPr cI 2 (ga_135 1)), (kAI vSt cI 2 (ga_135 2)), (kAI vFn cI 2 (ga_135 3)), (kAI vFt cI 32 qFt)]) hP hD hS hA [4, 5, 6, 7, 8, 9, 10, 11, 12] (by decide +kernel) rfl
  refine va_calli (va_runV (As := [.int f1, .int 0]) (rest := [.long (31 * ((31 * ((31 * ((31 * ((31 * ((31 * ((31 * ((31 * ((31 * ((31 * ((31 * ((31 * ((31 * ((31 * x1) + r_1.toInt64)) + r_11.toInt64)) + r_21.toInt64)) + r_31.toInt64)) + r_44.toInt64)) + r_57.toInt64)) + r_70.toInt64)) + r_83.toInt64)) + r_93.toInt64)) + r_103.toInt64)) + r_113.toInt64)) + r_123.toInt64)) + r_133.toInt64))]) ⟨hx₀, hb, hml, hown, hts⟩ (g_pairOf l dC dI cI cJ cQ H.size hm f1 0 vFo vSi vIt vMo la vBy vTy (g_71 0) vMi (g_71 1) vPs (g_71 2) vGs fn vFt le vTo (g_134 0) (g_134 1) (g_134 2) ca (g_134 3) (g_134 4) vPr vSt vFn sn vSg vAl dr (ga_72 0) (ga_72 1) (ga_72 2) (ga_135 0) (ga_135 1) (ga_135 2) (ga_135 3) qFt (c_76) (c_77) (c_78) (c_139) (c_140) (c_141) (c_142) (hh12)) (cwV 2 hts (kGV wd_685 wd_682 wd_683 wd_684 wd_5) rfl rfl rfl (by decide +kernel) ⟨Nat.le_of_ble_eq_true rfl, Nat.le_of_ble_eq_true rfl⟩) (k_preV11 (q0 := 0) hK hPc hDc hN rfl) rfl rfl hl.1 rfl (lv_room (Nat.le_of_ble_eq_true rfl)) dX12_tellsFlight_141 ⟨by decide +kernel, by decide +kernel⟩) hS (fun q _ h => hFc q h) hFc (fun r_143 u₀ t₀ H1 locs ht hvm hw hB hz1 hk1 hS => ?_)
  obtain ⟨g_144, ga_145, gl_146, gb_147, gp_148⟩ := u₀
  obtain ⟨hP1, hK1, hD1⟩ := hB
  rw [ht] at hP1
  have hJ := k_jn (wr := [(kAI vSg cI 16 qSg), (kAI vAl cI 25 qAl), (kAI vTy cI 3 qTy), (kAI vBy cI 120 qBy)]) (wt := [(kAI vSg cI 16 qSg), (kAI vAl cI 25 qAl), (kAI vTy cI 3 qTy), (kAI vBy cI 120 qBy), (kX12 hm vFo vSi vIt vMo la vBy vTy (g_71 0) vMi (g_71 1) vPs (g_71 2) vGs fn vFt le vTo (g_144 0) (g_144 1) (g_144 2) ca (g_144 3) (g_144 4) vPr vSt vFn sn vSg vAl dr), (kAI vMi cI 24 (ga_72 0)), (kAI vPs cI 32 (ga_72 1)), (kAI vGs cI 16 (ga_72 2)), (kAI vTo cI 96 (ga_145 0)), (kAI vPr cI 2 (ga_145 1)), (kAI vSt cI 2 (ga_145 2)), (kAI vFn cI 2 (ga_145 3)), (kAI vFt cI 32 qFt)]) hP hD hC [0, 1, 2, 3] rfl (by decide +kernel) (by decide +kernel) hk1 hFc hP1 hD1 rfl
  clear hP hD hPc hDc hFc hC hP1 hD1 hK1 hz1 hk1 hvm ht
  obtain ⟨hP, hD⟩ := hJ
  generalize H1 = H at hP hS ⊢
  try dsimp only at hw
  obtain ⟨c_149, c_150, c_151, c_152⟩ := hw
  refine lv_i2l hx₀ hb dX12_tellsFlight_144 rfl ?_
  refine lv_ladd hx₀ hb dX12_tellsFlight_145 ?_
  refine lv_lstore (lv' := [(4, .long ((31 * ((31 * ((31 * ((31 * ((31 * ((31 * ((31 * ((31 * ((31 * ((31 * ((31 * ((31 * ((31 * ((31 * x1) + r_1.toInt64)) + r_11.toInt64)) + r_21.toInt64)) + r_31.toInt64)) + r_44.toInt64)) + r_57.toInt64)) + r_70.toInt64)) + r_83.toInt64)) + r_93.toInt64)) + r_103.toInt64)) + r_113.toInt64)) + r_123.toInt64)) + r_133.toInt64)) + r_143.toInt64)), (6, .int 3), (0, .ref hm), (1, .long x1), (3, .int f1)]) hx₀ hb dX12_tellsFlight_146 hl (by decide) rfl (fun ls hl => ?_)
  refine lv_ldc2 (v := 31) hx₀ hb hown (hts (.constantLong RX12 294 (31)) wd_991) dX12_tellsFlight_148 ?_
  refine lv_lload hx₀ hb dX12_tellsFlight_151 (lv_at hl 0 rfl) ?_
  refine lv_lmul hx₀ hb dX12_tellsFlight_153 ?_
  refine lv_aload_n hx₀ hb dX12_tellsFlight_154 rfl (lv_at hl 2 rfl) ?_
  refine lv_iload_n hx₀ hb dX12_tellsFlight_155 rfl (lv_at hl 4 rfl) ?_
  refine lv_iconst (v := 1) hx₀ hb dX12_tellsFlight_156 (by decide +kernel) ?_
  obtain ⟨hPc, hDc, hFc, hC⟩ := k_cw (wc := [(kX12 hm vFo vSi vIt vMo la vBy vTy (g_71 0) vMi (g_71 1) vPs (g_71 2) vGs fn vFt le vTo (g_144 0) (g_144 1) (g_144 2) ca (g_144 3) (g_144 4) vPr vSt vFn sn vSg vAl dr), (kAI vMi cI 24 (ga_72 0)), (kAI vPs cI 32 (ga_72 1)), (kAI vGs cI 16 (ga_72 2)), (kAI vTo cI 96 (ga_145 0)), (kAI vPr cI 2 (ga_145 1)), (kAI vSt cI 2 (ga_145 2)), (kAI vFn cI 2 (ga_145 3)), (kAI vFt cI 32 qFt)]) hP hD hS hA [4, 5, 6, 7, 8, 9, 10, 11, 12] (by decide +kernel) rfl
  refine va_calli (va_runV (As := [.int f1, .int 1]) (rest := [.long (31 * ((31 * ((31 * ((31 * ((31 * ((31 * ((31 * ((31 * ((31 * ((31 * ((31 * ((31 * ((31 * ((31 * ((31 * x1) + r_1.toInt64)) + r_11.toInt64)) + r_21.toInt64)) + r_31.toInt64)) + r_44.toInt64)) + r_57.toInt64)) + r_70.toInt64)) + r_83.toInt64)) + r_93.toInt64)) + r_103.toInt64)) + r_113.toInt64)) + r_123.toInt64)) + r_133.toInt64)) + r_143.toInt64))]) ⟨hx₀, hb, hml, hown, hts⟩ (g_pairOf l dC dI cI cJ cQ H.size hm f1 1 vFo vSi vIt vMo la vBy vTy (g_71 0) vMi (g_71 1) vPs (g_71 2) vGs fn vFt le vTo (g_144 0) (g_144 1) (g_144 2) ca (g_144 3) (g_144 4) vPr vSt vFn sn vSg vAl dr (ga_72 0) (ga_72 1) (ga_72 2) (ga_145 0) (ga_145 1) (ga_145 2) (ga_145 3) qFt (c_76) (c_77) (c_78) (c_149) (c_150) (c_151) (c_152) (hh12)) (cwV 2 hts (kGV wd_685 wd_682 wd_683 wd_684 wd_5) rfl rfl rfl (by decide +kernel) ⟨Nat.le_of_ble_eq_true rfl, Nat.le_of_ble_eq_true rfl⟩) (k_preV11 (q0 := 0) hK hPc hDc hN rfl) rfl rfl hl.1 rfl (lv_room (Nat.le_of_ble_eq_true rfl)) dX12_tellsFlight_157 ⟨by decide +kernel, by decide +kernel⟩) hS (fun q _ h => hFc q h) hFc (fun r_153 u₀ t₀ H1 locs ht hvm hw hB hz1 hk1 hS => ?_)
  obtain ⟨g_154, ga_155, gl_156, gb_157, gp_158⟩ := u₀
  obtain ⟨hP1, hK1, hD1⟩ := hB
  rw [ht] at hP1
  have hJ := k_jn (wr := [(kAI vSg cI 16 qSg), (kAI vAl cI 25 qAl), (kAI vTy cI 3 qTy), (kAI vBy cI 120 qBy)]) (wt := [(kAI vSg cI 16 qSg), (kAI vAl cI 25 qAl), (kAI vTy cI 3 qTy), (kAI vBy cI 120 qBy), (kX12 hm vFo vSi vIt vMo la vBy vTy (g_71 0) vMi (g_71 1) vPs (g_71 2) vGs fn vFt le vTo (g_154 0) (g_154 1) (g_154 2) ca (g_154 3) (g_154 4) vPr vSt vFn sn vSg vAl dr), (kAI vMi cI 24 (ga_72 0)), (kAI vPs cI 32 (ga_72 1)), (kAI vGs cI 16 (ga_72 2)), (kAI vTo cI 96 (ga_155 0)), (kAI vPr cI 2 (ga_155 1)), (kAI vSt cI 2 (ga_155 2)), (kAI vFn cI 2 (ga_155 3)), (kAI vFt cI 32 qFt)]) hP hD hC [0, 1, 2, 3] rfl (by decide +kernel) (by decide +kernel) hk1 hFc hP1 hD1 rfl
  clear hP hD hPc hDc hFc hC hP1 hD1 hK1 hz1 hk1 hvm ht
  obtain ⟨hP, hD⟩ := hJ
  generalize H1 = H at hP hS ⊢
  try dsimp only at hw
  obtain ⟨c_159, c_160, c_161, c_162⟩ := hw
  refine lv_i2l hx₀ hb dX12_tellsFlight_160 rfl ?_
  refine lv_ladd hx₀ hb dX12_tellsFlight_161 ?_
  refine lv_lstore (lv' := [(4, .long ((31 * ((31 * ((31 * ((31 * ((31 * ((31 * ((31 * ((31 * ((31 * ((31 * ((31 * ((31 * ((31 * ((31 * ((31 * x1) + r_1.toInt64)) + r_11.toInt64)) + r_21.toInt64)) + r_31.toInt64)) + r_44.toInt64)) + r_57.toInt64)) + r_70.toInt64)) + r_83.toInt64)) + r_93.toInt64)) + r_103.toInt64)) + r_113.toInt64)) + r_123.toInt64)) + r_133.toInt64)) + r_143.toInt64)) + r_153.toInt64)), (6, .int 3), (0, .ref hm), (1, .long x1), (3, .int f1)]) hx₀ hb dX12_tellsFlight_162 hl (by decide) rfl (fun ls hl => ?_)
  refine lv_ldc2 (v := 31) hx₀ hb hown (hts (.constantLong RX12 294 (31)) wd_991) dX12_tellsFlight_164 ?_
  refine lv_lload hx₀ hb dX12_tellsFlight_167 (lv_at hl 0 rfl) ?_
  refine lv_lmul hx₀ hb dX12_tellsFlight_169 ?_
  refine lv_aload_n hx₀ hb dX12_tellsFlight_170 rfl (lv_at hl 2 rfl) ?_
  refine lv_iload_n hx₀ hb dX12_tellsFlight_171 rfl (lv_at hl 4 rfl) ?_
  obtain ⟨hPc, hDc, hFc, hC⟩ := k_cw (wc := [(kX12 hm vFo vSi vIt vMo la vBy vTy (g_71 0) vMi (g_71 1) vPs (g_71 2) vGs fn vFt le vTo (g_154 0) (g_154 1) (g_154 2) ca (g_154 3) (g_154 4) vPr vSt vFn sn vSg vAl dr), (kAI vMi cI 24 (ga_72 0)), (kAI vPs cI 32 (ga_72 1)), (kAI vGs cI 16 (ga_72 2)), (kAI vTo cI 96 (ga_155 0)), (kAI vPr cI 2 (ga_155 1)), (kAI vSt cI 2 (ga_155 2)), (kAI vFn cI 2 (ga_155 3)), (kAI vFt cI 32 qFt), (kAI vSg cI 16 qSg)]) hP hD hS hA [4, 5, 6, 7, 8, 9, 10, 11, 12, 0] (by decide +kernel) rfl
  refine va_calli (va_runV (As := [.int f1]) (rest := [.long (31 * ((31 * ((31 * ((31 * ((31 * ((31 * ((31 * ((31 * ((31 * ((31 * ((31 * ((31 * ((31 * ((31 * ((31 * ((31 * x1) + r_1.toInt64)) + r_11.toInt64)) + r_21.toInt64)) + r_31.toInt64)) + r_44.toInt64)) + r_57.toInt64)) + r_70.toInt64)) + r_83.toInt64)) + r_93.toInt64)) + r_103.toInt64)) + r_113.toInt64)) + r_123.toInt64)) + r_133.toInt64)) + r_143.toInt64)) + r_153.toInt64))]) ⟨hx₀, hb, hml, hown, hts⟩ (g_highOf l dC dI cI cJ cQ H.size hm f1 vFo vSi vIt vMo la vBy vTy (g_71 0) vMi (g_71 1) vPs (g_71 2) vGs fn vFt le vTo (g_154 0) (g_154 1) (g_154 2) ca (g_154 3) (g_154 4) vPr vSt vFn sn vSg vAl dr (ga_72 0) (ga_72 1) (ga_72 2) (ga_155 0) (ga_155 1) (ga_155 2) (ga_155 3) qFt qSg (c_76) (c_77) (c_78) (c_159) (c_160) (c_161) (c_162) (hh7) (hh8) (hh12)) (cwV 1 hts (kGV wd_737 wd_734 wd_735 wd_736 wd_5) rfl rfl rfl (by decide +kernel) ⟨Nat.le_of_ble_eq_true rfl, Nat.le_of_ble_eq_true rfl⟩) (k_preV11 (q0 := 0) hK hPc hDc hN rfl) rfl rfl hl.1 rfl (lv_room (Nat.le_of_ble_eq_true rfl)) dX12_tellsFlight_172 ⟨by decide +kernel, by decide +kernel⟩) hS (fun q _ h => hFc q h) hFc (fun r_163 u₀ t₀ H1 locs ht hvm hw hB hz1 hk1 hS => ?_)
  obtain ⟨g_164, ga_165, gl_166, gb_167, gp_168⟩ := u₀
  obtain ⟨hP1, hK1, hD1⟩ := hB
  rw [ht] at hP1
  have hJ := k_jn (wr := [(kAI vAl cI 25 qAl), (kAI vTy cI 3 qTy), (kAI vBy cI 120 qBy)]) (wt := [(kAI vAl cI 25 qAl), (kAI vTy cI 3 qTy), (kAI vBy cI 120 qBy), (kX12 hm vFo vSi vIt vMo la vBy vTy (g_71 0) vMi (g_71 1) vPs (g_71 2) vGs fn vFt le vTo (g_164 0) (g_164 1) (g_164 2) ca (g_164 3) (g_164 4) vPr vSt vFn sn vSg vAl dr), (kAI vMi cI 24 (ga_72 0)), (kAI vPs cI 32 (ga_72 1)), (kAI vGs cI 16 (ga_72 2)), (kAI vTo cI 96 (ga_165 0)), (kAI vPr cI 2 (ga_165 1)), (kAI vSt cI 2 (ga_165 2)), (kAI vFn cI 2 (ga_165 3)), (kAI vFt cI 32 (ga_165 4)), (kAI vSg cI 16 qSg)]) hP hD hC [1, 2, 3] rfl (by decide +kernel) (by decide +kernel) hk1 hFc hP1 hD1 rfl
  clear hP hD hPc hDc hFc hC hP1 hD1 hK1 hz1 hk1 hvm ht
  obtain ⟨hP, hD⟩ := hJ
  generalize H1 = H at hP hS ⊢
  try dsimp only at hw
  obtain ⟨c_169, c_170, c_171, c_172, c_173⟩ := hw
  rw [c_173] at hP hD
  replace hP := k_w2 (wt := [(kAI vAl cI 25 qAl), (kAI vTy cI 3 qTy), (kAI vBy cI 120 qBy), (kX12 hm vFo vSi vIt vMo la vBy vTy (g_71 0) vMi (g_71 1) vPs (g_71 2) vGs fn vFt le vTo (g_164 0) (g_164 1) (g_164 2) ca (g_164 3) (g_164 4) vPr vSt vFn sn vSg vAl dr), (kAI vMi cI 24 (ga_72 0)), (kAI vPs cI 32 (ga_72 1)), (kAI vGs cI 16 (ga_72 2)), (kAI vTo cI 96 (ga_165 0)), (kAI vPr cI 2 (ga_165 1)), (kAI vSt cI 2 (ga_165 2)), (kAI vFn cI 2 (ga_165 3)), (kAI vFt cI 32 qFt), (kAI vSg cI 16 qSg)]) hP hD rfl
  replace hD := hP.2
  replace hP := hP.1
  refine lv_i2l hx₀ hb dX12_tellsFlight_175 rfl ?_
  refine lv_ladd hx₀ hb dX12_tellsFlight_176 ?_
  refine lv_lstore (lv' := [(4, .long ((31 * ((31 * ((31 * ((31 * ((31 * ((31 * ((31 * ((31 * ((31 * ((31 * ((31 * ((31 * ((31 * ((31 * ((31 * ((31 * x1) + r_1.toInt64)) + r_11.toInt64)) + r_21.toInt64)) + r_31.toInt64)) + r_44.toInt64)) + r_57.toInt64)) + r_70.toInt64)) + r_83.toInt64)) + r_93.toInt64)) + r_103.toInt64)) + r_113.toInt64)) + r_123.toInt64)) + r_133.toInt64)) + r_143.toInt64)) + r_153.toInt64)) + r_163.toInt64)), (6, .int 3), (0, .ref hm), (1, .long x1), (3, .int f1)]) hx₀ hb dX12_tellsFlight_177 hl (by decide) rfl (fun ls hl => ?_)
  refine lv_ldc2 (v := 31) hx₀ hb hown (hts (.constantLong RX12 294 (31)) wd_991) dX12_tellsFlight_179 ?_
  refine lv_lload hx₀ hb dX12_tellsFlight_182 (lv_at hl 0 rfl) ?_
  refine lv_lmul hx₀ hb dX12_tellsFlight_184 ?_
  refine lv_aload_n hx₀ hb dX12_tellsFlight_185 rfl (lv_at hl 2 rfl) ?_
  refine lv_iconst (v := 5) hx₀ hb dX12_tellsFlight_186 (by decide +kernel) ?_
  refine lv_iload_n hx₀ hb dX12_tellsFlight_187 rfl (lv_at hl 4 rfl) ?_
  refine lv_iconst (v := 0) hx₀ hb dX12_tellsFlight_188 (by decide +kernel) ?_
  obtain ⟨hPc, hDc, hFc, hC⟩ := k_cw (wc := [(kX12 hm vFo vSi vIt vMo la vBy vTy (g_71 0) vMi (g_71 1) vPs (g_71 2) vGs fn vFt le vTo (g_164 0) (g_164 1) (g_164 2) ca (g_164 3) (g_164 4) vPr vSt vFn sn vSg vAl dr), (kAI vTy cI 3 qTy), (kAI vBy cI 120 qBy), (kAI vMi cI 24 (ga_72 0)), (kAI vPs cI 32 (ga_72 1)), (kAI vGs cI 16 (ga_72 2)), (kAI vTo cI 96 (ga_165 0)), (kAI vPr cI 2 (ga_165 1)), (kAI vSt cI 2 (ga_165 2)), (kAI vFn cI 2 (ga_165 3)), (kAI vFt cI 32 qFt)]) hP hD hS hA [3, 1, 2, 4, 5, 6, 7, 8, 9, 10, 11] (by decide +kernel) rfl
  refine va_calll (va_runV (As := [.int 5, .int f1, .int 0]) (rest := [.long (31 * ((31 * ((31 * ((31 * ((31 * ((31 * ((31 * ((31 * ((31 * ((31 * ((31 * ((31 * ((31 * ((31 * ((31 * ((31 * ((31 * x1) + r_1.toInt64)) + r_11.toInt64)) + r_21.toInt64)) + r_31.toInt64)) + r_44.toInt64)) + r_57.toInt64)) + r_70.toInt64)) + r_83.toInt64)) + r_93.toInt64)) + r_103.toInt64)) + r_113.toInt64)) + r_123.toInt64)) + r_133.toInt64)) + r_143.toInt64)) + r_153.toInt64)) + r_163.toInt64))]) ⟨hx₀, hb, hml, hown, hts⟩ (g_laugh l dC dI cI cJ cQ H.size hm 5 f1 0 vFo vSi vIt vMo la vBy vTy (g_71 0) vMi (g_71 1) vPs (g_71 2) vGs fn vFt le vTo (g_164 0) (g_164 1) (g_164 2) ca (g_164 3) (g_164 4) vPr vSt vFn sn vSg vAl dr qTy qBy (ga_72 0) (ga_72 1) (ga_72 2) (ga_165 0) (ga_165 1) (ga_165 2) (ga_165 3) qFt (hh0) (hh1) (hh2) (c_169) (c_170) (c_171) (c_172) (hh7) (hh13)) (cwV 3 hts (kGV wd_809 wd_998 wd_807 wd_808 wd_5) rfl rfl rfl (by decide +kernel) ⟨Nat.le_of_ble_eq_true rfl, Nat.le_of_ble_eq_true rfl⟩) (k_preV11 (q0 := 0) hK hPc hDc hN rfl) rfl rfl hl.1 rfl (lv_room (Nat.le_of_ble_eq_true rfl)) dX12_tellsFlight_189 ⟨by decide +kernel, by decide +kernel⟩) hS (fun q _ h => hFc q h) hFc (fun r_174 u₀ t₀ H1 locs ht hvm hw hB hz1 hk1 hS => ?_)
  obtain ⟨g_175, ga_176, gl_177, gb_178, gp_179⟩ := u₀
  obtain ⟨hP1, hK1, hD1⟩ := hB
  rw [ht] at hP1
  have hJ := k_jn (wr := [(kAI vAl cI 25 qAl), (kAI vSg cI 16 qSg)]) (wt := [(kAI vAl cI 25 qAl), (kAI vSg cI 16 qSg), (kX12 hm vFo vSi vIt vMo la vBy vTy (g_175 0) vMi (g_175 1) vPs (g_175 2) vGs fn vFt le vTo (g_175 3) (g_175 4) (g_175 5) (g_175 8) (g_175 6) (g_175 7) vPr vSt vFn sn vSg vAl dr), (kAI vTy cI 3 qTy), (kAI vBy cI 120 qBy), (kAI vMi cI 24 (ga_176 0)), (kAI vPs cI 32 (ga_176 1)), (kAI vGs cI 16 (ga_176 2)), (kAI vTo cI 96 (ga_176 3)), (kAI vPr cI 2 (ga_176 4)), (kAI vSt cI 2 (ga_176 5)), (kAI vFn cI 2 (ga_176 6)), (kAI vFt cI 32 qFt)]) hP hD hC [0, 12] rfl (by decide +kernel) (by decide +kernel) hk1 hFc hP1 hD1 rfl
  clear hP hD hPc hDc hFc hC hP1 hD1 hK1 hz1 hk1 hvm ht
  obtain ⟨hP, hD⟩ := hJ
  generalize H1 = H at hP hS ⊢
  try dsimp only at hw
  obtain ⟨c_180, c_181, c_182, c_183, c_184, c_185, c_186, c_187⟩ := hw
  rw [c_187] at hP hD
  replace hP := k_w2 (wt := [(kAI vAl cI 25 qAl), (kAI vSg cI 16 qSg), (kX12 hm vFo vSi vIt vMo la vBy vTy (g_175 0) vMi (g_175 1) vPs (g_175 2) vGs fn vFt le vTo (g_175 3) (g_175 4) (g_175 5) 16777215 (g_175 6) (g_175 7) vPr vSt vFn sn vSg vAl dr), (kAI vTy cI 3 qTy), (kAI vBy cI 120 qBy), (kAI vMi cI 24 (ga_176 0)), (kAI vPs cI 32 (ga_176 1)), (kAI vGs cI 16 (ga_176 2)), (kAI vTo cI 96 (ga_176 3)), (kAI vPr cI 2 (ga_176 4)), (kAI vSt cI 2 (ga_176 5)), (kAI vFn cI 2 (ga_176 6)), (kAI vFt cI 32 qFt)]) hP hD rfl
  replace hD := hP.2
  replace hP := hP.1
  refine lv_ladd hx₀ hb dX12_tellsFlight_192 ?_
  refine lv_lstore (lv' := [(4, .long ((31 * ((31 * ((31 * ((31 * ((31 * ((31 * ((31 * ((31 * ((31 * ((31 * ((31 * ((31 * ((31 * ((31 * ((31 * ((31 * ((31 * x1) + r_1.toInt64)) + r_11.toInt64)) + r_21.toInt64)) + r_31.toInt64)) + r_44.toInt64)) + r_57.toInt64)) + r_70.toInt64)) + r_83.toInt64)) + r_93.toInt64)) + r_103.toInt64)) + r_113.toInt64)) + r_123.toInt64)) + r_133.toInt64)) + r_143.toInt64)) + r_153.toInt64)) + r_163.toInt64)) + r_174)), (6, .int 3), (0, .ref hm), (1, .long x1), (3, .int f1)]) hx₀ hb dX12_tellsFlight_193 hl (by decide) rfl (fun ls hl => ?_)
  refine lv_ldc2 (v := 31) hx₀ hb hown (hts (.constantLong RX12 294 (31)) wd_991) dX12_tellsFlight_195 ?_
  refine lv_lload hx₀ hb dX12_tellsFlight_198 (lv_at hl 0 rfl) ?_
  refine lv_lmul hx₀ hb dX12_tellsFlight_200 ?_
  refine lv_aload_n hx₀ hb dX12_tellsFlight_201 rfl (lv_at hl 2 rfl) ?_
  refine lv_iconst (v := 5) hx₀ hb dX12_tellsFlight_202 (by decide +kernel) ?_
  refine lv_iload_n hx₀ hb dX12_tellsFlight_203 rfl (lv_at hl 4 rfl) ?_
  refine lv_iconst (v := 1) hx₀ hb dX12_tellsFlight_204 (by decide +kernel) ?_
  obtain ⟨hPc, hDc, hFc, hC⟩ := k_cw (wc := [(kX12 hm vFo vSi vIt vMo la vBy vTy (g_175 0) vMi (g_175 1) vPs (g_175 2) vGs fn vFt le vTo (g_175 3) (g_175 4) (g_175 5) 16777215 (g_175 6) (g_175 7) vPr vSt vFn sn vSg vAl dr), (kAI vTy cI 3 qTy), (kAI vBy cI 120 qBy), (kAI vMi cI 24 (ga_176 0)), (kAI vPs cI 32 (ga_176 1)), (kAI vGs cI 16 (ga_176 2)), (kAI vTo cI 96 (ga_176 3)), (kAI vPr cI 2 (ga_176 4)), (kAI vSt cI 2 (ga_176 5)), (kAI vFn cI 2 (ga_176 6)), (kAI vFt cI 32 qFt)]) hP hD hS hA [2, 3, 4, 5, 6, 7, 8, 9, 10, 11, 12] (by decide +kernel) rfl
  refine va_calll (va_runV (As := [.int 5, .int f1, .int 1]) (rest := [.long (31 * ((31 * ((31 * ((31 * ((31 * ((31 * ((31 * ((31 * ((31 * ((31 * ((31 * ((31 * ((31 * ((31 * ((31 * ((31 * ((31 * ((31 * x1) + r_1.toInt64)) + r_11.toInt64)) + r_21.toInt64)) + r_31.toInt64)) + r_44.toInt64)) + r_57.toInt64)) + r_70.toInt64)) + r_83.toInt64)) + r_93.toInt64)) + r_103.toInt64)) + r_113.toInt64)) + r_123.toInt64)) + r_133.toInt64)) + r_143.toInt64)) + r_153.toInt64)) + r_163.toInt64)) + r_174))]) ⟨hx₀, hb, hml, hown, hts⟩ (g_laugh l dC dI cI cJ cQ H.size hm 5 f1 1 vFo vSi vIt vMo la vBy vTy (g_175 0) vMi (g_175 1) vPs (g_175 2) vGs fn vFt le vTo (g_175 3) (g_175 4) (g_175 5) 16777215 (g_175 6) (g_175 7) vPr vSt vFn sn vSg vAl dr qTy qBy (ga_176 0) (ga_176 1) (ga_176 2) (ga_176 3) (ga_176 4) (ga_176 5) (ga_176 6) qFt (hh0) (hh1) (hh2) (c_183) (c_184) (c_185) (c_186) (hh7) (rfl)) (cwV 3 hts (kGV wd_809 wd_998 wd_807 wd_808 wd_5) rfl rfl rfl (by decide +kernel) ⟨Nat.le_of_ble_eq_true rfl, Nat.le_of_ble_eq_true rfl⟩) (k_preV11 (q0 := 0) hK hPc hDc hN rfl) rfl rfl hl.1 rfl (lv_room (Nat.le_of_ble_eq_true rfl)) dX12_tellsFlight_205 ⟨by decide +kernel, by decide +kernel⟩) hS (fun q _ h => hFc q h) hFc (fun r_188 u₀ t₀ H1 locs ht hvm hw hB hz1 hk1 hS => ?_)
  obtain ⟨g_189, ga_190, gl_191, gb_192, gp_193⟩ := u₀
  obtain ⟨hP1, hK1, hD1⟩ := hB
  rw [ht] at hP1
  have hJ := k_jn (wr := [(kAI vAl cI 25 qAl), (kAI vSg cI 16 qSg)]) (wt := [(kAI vAl cI 25 qAl), (kAI vSg cI 16 qSg), (kX12 hm vFo vSi vIt vMo la vBy vTy (g_189 0) vMi (g_189 1) vPs (g_189 2) vGs fn vFt le vTo (g_189 3) (g_189 4) (g_189 5) (g_189 8) (g_189 6) (g_189 7) vPr vSt vFn sn vSg vAl dr), (kAI vTy cI 3 qTy), (kAI vBy cI 120 qBy), (kAI vMi cI 24 (ga_190 0)), (kAI vPs cI 32 (ga_190 1)), (kAI vGs cI 16 (ga_190 2)), (kAI vTo cI 96 (ga_190 3)), (kAI vPr cI 2 (ga_190 4)), (kAI vSt cI 2 (ga_190 5)), (kAI vFn cI 2 (ga_190 6)), (kAI vFt cI 32 qFt)]) hP hD hC [0, 1] rfl (by decide +kernel) (by decide +kernel) hk1 hFc hP1 hD1 rfl
  clear hP hD hPc hDc hFc hC hP1 hD1 hK1 hz1 hk1 hvm ht
  obtain ⟨hP, hD⟩ := hJ
  generalize H1 = H at hP hS ⊢
  try dsimp only at hw
  obtain ⟨c_194, c_195, c_196, c_197, c_198, c_199, c_200, c_201⟩ := hw
  rw [c_201] at hP hD
  replace hP := k_w2 (wt := [(kAI vAl cI 25 qAl), (kAI vSg cI 16 qSg), (kX12 hm vFo vSi vIt vMo la vBy vTy (g_189 0) vMi (g_189 1) vPs (g_189 2) vGs fn vFt le vTo (g_189 3) (g_189 4) (g_189 5) 16777215 (g_189 6) (g_189 7) vPr vSt vFn sn vSg vAl dr), (kAI vTy cI 3 qTy), (kAI vBy cI 120 qBy), (kAI vMi cI 24 (ga_190 0)), (kAI vPs cI 32 (ga_190 1)), (kAI vGs cI 16 (ga_190 2)), (kAI vTo cI 96 (ga_190 3)), (kAI vPr cI 2 (ga_190 4)), (kAI vSt cI 2 (ga_190 5)), (kAI vFn cI 2 (ga_190 6)), (kAI vFt cI 32 qFt)]) hP hD rfl
  replace hD := hP.2
  replace hP := hP.1
  refine lv_ladd hx₀ hb dX12_tellsFlight_208 ?_
  obtain ⟨hP9, hD9⟩ := k_c2 (wc := [(kX12 hm vFo vSi vIt vMo la vBy vTy (g_189 0) vMi (g_189 1) vPs (g_189 2) vGs fn vFt le vTo (g_189 3) (g_189 4) (g_189 5) 16777215 (g_189 6) (g_189 7) vPr vSt vFn sn vSg vAl dr), (kAI vTy cI 3 qTy), (kAI vBy cI 120 qBy), (kAI vMi cI 24 (ga_190 0)), (kAI vPs cI 32 (ga_190 1)), (kAI vGs cI 16 (ga_190 2)), (kAI vTo cI 96 (ga_190 3)), (kAI vPr cI 2 (ga_190 4)), (kAI vSt cI 2 (ga_190 5)), (kAI vFn cI 2 (ga_190 6)), (kAI vFt cI 32 qFt), (kAI vSg cI 16 qSg), (kAI vAl cI 25 qAl)]) hP hD [2, 3, 4, 5, 6, 7, 8, 9, 10, 11, 12, 1, 0] (by decide +kernel) rfl
  exact W.lret (v := (31 * ((31 * ((31 * ((31 * ((31 * ((31 * ((31 * ((31 * ((31 * ((31 * ((31 * ((31 * ((31 * ((31 * ((31 * ((31 * ((31 * ((31 * x1) + r_1.toInt64)) + r_11.toInt64)) + r_21.toInt64)) + r_31.toInt64)) + r_44.toInt64)) + r_57.toInt64)) + r_70.toInt64)) + r_83.toInt64)) + r_93.toInt64)) + r_103.toInt64)) + r_113.toInt64)) + r_123.toInt64)) + r_133.toInt64)) + r_143.toInt64)) + r_153.toInt64)) + r_163.toInt64)) + r_174)) + r_188) hx₀ hb hr (fun t₀ ht hW => ⟨⟨(31 * ((31 * ((31 * ((31 * ((31 * ((31 * ((31 * ((31 * ((31 * ((31 * ((31 * ((31 * ((31 * ((31 * ((31 * ((31 * ((31 * ((31 * x1) + r_1.toInt64)) + r_11.toInt64)) + r_21.toInt64)) + r_31.toInt64)) + r_44.toInt64)) + r_57.toInt64)) + r_70.toInt64)) + r_83.toInt64)) + r_93.toInt64)) + r_103.toInt64)) + r_113.toInt64)) + r_123.toInt64)) + r_133.toInt64)) + r_143.toInt64)) + r_153.toInt64)) + r_163.toInt64)) + r_174)) + r_188, (k_fn [(g_189 0), (g_189 1), (g_189 2), (g_189 3), (g_189 4), (g_189 5), (g_189 6), (g_189 7), (16777215 : Int32)], k_fa [ga_190 0, ga_190 1, ga_190 2, ga_190 3, ga_190 4, ga_190 5, ga_190 6, qAl], k_fl [], k_fL [], k_fp []), rfl, ⟨c_194, c_195, c_196, c_197, c_198, c_199, c_200, rfl⟩, by rw [ht]; exact hP9, va_K.moved hW.alike hK, hD9⟩, hS.F ht⟩) hS.2.2 dX12_tellsFlight_209
theorem lf_g_digest_1 (a0 : Int32) (a1 : Int32) (a2 : Nat) (h0 : 0 ≤ (a0) ∧ (a0) ≤ 8) (h1 : 0 ≤ a1) (h2 : ((a0).toInt - a1.toInt).toNat = a2) (h3 : ¬ (a0) ≤ a1) : 0 ≤ (2 * a1).toInt ∧ (2 * a1).toInt < 16 := by
  first | rfl | assumption | decide | exact Or.inl rfl | (first | omega | (have hr0 := Int32.toInt_lt a0; have hs0 := Int32.le_toInt a0; have hr1 := Int32.toInt_lt a1; have hs1 := Int32.le_toInt a1; simp only [Int64.toInt_add, Int64.toInt_sub, Int32.toInt_add, Int32.toInt_sub, Int32.toInt_mul, Int64.le_iff_toInt_le, Int64.lt_iff_toInt_lt, Int32.le_iff_toInt_le, Int32.lt_iff_toInt_lt, ← Int32.toInt_inj, ← Int64.toInt_inj, Int32.toInt_toInt64, kc_0, kc_2, kc_8, kc_16] at *; (first | omega | ((try simp (disch := omega) only [k_bm64] at *); (try simp (disch := omega) only [k_bm] at *); (try simp (disch := omega) only [k_bm] at *); omega) | (simp only [Int.bmod] at *; omega))))
theorem lf_g_digest_2 (a0 : Int32) (a1 : Int32) (a2 : Nat) (h0 : 0 ≤ (a0) ∧ (a0) ≤ 8) (h1 : 0 ≤ a1) (h2 : ((a0).toInt - a1.toInt).toNat = a2) (h3 : ¬ (a0) ≤ a1) : 0 ≤ ((2 * a1) + 1).toInt ∧ ((2 * a1) + 1).toInt < 16 := by
  first | rfl | assumption | decide | exact Or.inl rfl | (first | omega | (have hr0 := Int32.toInt_lt a0; have hs0 := Int32.le_toInt a0; have hr1 := Int32.toInt_lt a1; have hs1 := Int32.le_toInt a1; simp only [Int64.toInt_add, Int64.toInt_sub, Int32.toInt_add, Int32.toInt_sub, Int32.toInt_mul, Int64.le_iff_toInt_le, Int64.lt_iff_toInt_lt, Int32.le_iff_toInt_le, Int32.lt_iff_toInt_lt, ← Int32.toInt_inj, ← Int64.toInt_inj, Int32.toInt_toInt64, kc_0, kc_1, kc_2, kc_8, kc_16] at *; (first | omega | ((try simp (disch := omega) only [k_bm64] at *); (try simp (disch := omega) only [k_bm] at *); (try simp (disch := omega) only [k_bm] at *); omega) | (simp only [Int.bmod] at *; omega))))
theorem lf_g_digest_3 (a0 : Int32) (a1 : Int32) (a2 : Nat) (h0 : 0 ≤ (a0) ∧ (a0) ≤ 8) (h1 : 0 ≤ a1) (h2 : ((a0).toInt - a1.toInt).toNat = a2) (h3 : ¬ (a0) ≤ a1) : 0 ≤ (a1 + 1) := by
  first | rfl | assumption | decide | exact Or.inl rfl | (first | omega | (have hr0 := Int32.toInt_lt a0; have hs0 := Int32.le_toInt a0; have hr1 := Int32.toInt_lt a1; have hs1 := Int32.le_toInt a1; simp only [Int64.toInt_add, Int64.toInt_sub, Int32.toInt_add, Int32.toInt_sub, Int32.toInt_mul, Int64.le_iff_toInt_le, Int64.lt_iff_toInt_lt, Int32.le_iff_toInt_le, Int32.lt_iff_toInt_lt, ← Int32.toInt_inj, ← Int64.toInt_inj, Int32.toInt_toInt64, kc_0, kc_1, kc_8] at *; (first | omega | ((try simp (disch := omega) only [k_bm64] at *); (try simp (disch := omega) only [k_bm] at *); (try simp (disch := omega) only [k_bm] at *); omega) | (simp only [Int.bmod] at *; omega))))
theorem lf_g_digest_4 (a0 : Int32) (a1 : Int32) (a2 : Nat) (h0 : 0 ≤ (a0) ∧ (a0) ≤ 8) (h1 : 0 ≤ a1) (h2 : ((a0).toInt - a1.toInt).toNat = a2) (h3 : ¬ (a0) ≤ a1) : ((a0).toInt - (a1 + 1).toInt).toNat < a2 := by
  first | rfl | assumption | decide | exact Or.inl rfl | (first | omega | (have hr0 := Int32.toInt_lt a0; have hs0 := Int32.le_toInt a0; have hr1 := Int32.toInt_lt a1; have hs1 := Int32.le_toInt a1; simp only [Int64.toInt_add, Int64.toInt_sub, Int32.toInt_add, Int32.toInt_sub, Int32.toInt_mul, Int64.le_iff_toInt_le, Int64.lt_iff_toInt_lt, Int32.le_iff_toInt_le, Int32.lt_iff_toInt_lt, ← Int32.toInt_inj, ← Int64.toInt_inj, Int32.toInt_toInt64, kc_0, kc_1, kc_8] at *; (first | omega | ((try simp (disch := omega) only [k_bm64] at *); (try simp (disch := omega) only [k_bm] at *); (try simp (disch := omega) only [k_bm] at *); omega) | (simp only [Int.bmod] at *; omega))))
theorem lf_g_digest_5 (a0 : Int32) (a1 : Int32) (a2 : Nat) (h0 : 0 ≤ (a0) ∧ (a0) ≤ 8) (h1 : 0 ≤ a1) (h2 : ((a0).toInt - a1.toInt).toNat = a2) (h3 : ¬ (a0) ≤ a1) : 0 ≤ a1 ∧ a1 ≤ 7 := by
  first | rfl | assumption | decide | exact Or.inl rfl | (first | omega | (have hr0 := Int32.toInt_lt a0; have hs0 := Int32.le_toInt a0; have hr1 := Int32.toInt_lt a1; have hs1 := Int32.le_toInt a1; simp only [Int64.toInt_add, Int64.toInt_sub, Int32.toInt_add, Int32.toInt_sub, Int32.toInt_mul, Int64.le_iff_toInt_le, Int64.lt_iff_toInt_lt, Int32.le_iff_toInt_le, Int32.lt_iff_toInt_lt, ← Int32.toInt_inj, ← Int64.toInt_inj, Int32.toInt_toInt64, kc_0, kc_7, kc_8] at *; (first | omega | ((try simp (disch := omega) only [k_bm64] at *); (try simp (disch := omega) only [k_bm] at *); (try simp (disch := omega) only [k_bm] at *); omega) | (simp only [Int.bmod] at *; omega))))
theorem lf_g_digest_6 (a0 : Int32) (a1 : Int32) (a2 : Nat) (a3 : Int32) (a4 : Nat) (h0 : 0 ≤ (a0) ∧ (a0) ≤ 8) (h1 : 0 ≤ a1) (h2 : ((a0).toInt - a1.toInt).toNat = a2) (h3 : ¬ (a0) ≤ a1) (h4 : 0 ≤ a3 ∧ a3 ≤ 4) (h5 : (4 - a3.toInt).toNat = a4) (h6 : ¬ 4 ≤ a3) : 0 ≤ ((4 * a1) + a3).toInt ∧ ((4 * a1) + a3).toInt < 32 := by
  first | rfl | assumption | decide | exact Or.inl rfl | (first | omega | (have hr0 := Int32.toInt_lt a0; have hs0 := Int32.le_toInt a0; have hr1 := Int32.toInt_lt a1; have hs1 := Int32.le_toInt a1; have hr2 := Int32.toInt_lt a3; have hs2 := Int32.le_toInt a3; simp only [Int64.toInt_add, Int64.toInt_sub, Int32.toInt_add, Int32.toInt_sub, Int32.toInt_mul, Int64.le_iff_toInt_le, Int64.lt_iff_toInt_lt, Int32.le_iff_toInt_le, Int32.lt_iff_toInt_lt, ← Int32.toInt_inj, ← Int64.toInt_inj, Int32.toInt_toInt64, kc_0, kc_4, kc_8, kc_32] at *; (first | omega | ((try simp (disch := omega) only [k_bm64] at *); (try simp (disch := omega) only [k_bm] at *); (try simp (disch := omega) only [k_bm] at *); omega) | (simp only [Int.bmod] at *; omega))))
theorem lf_g_digest_7 (a0 : Int32) (a1 : Nat) (h0 : 0 ≤ a0 ∧ a0 ≤ 4) (h1 : (4 - a0.toInt).toNat = a1) (h2 : ¬ 4 ≤ a0) : 0 ≤ (a0 + 1) ∧ (a0 + 1) ≤ 4 := by
  first | rfl | assumption | decide | exact Or.inl rfl | (first | omega | (have hr0 := Int32.toInt_lt a0; have hs0 := Int32.le_toInt a0; simp only [Int64.toInt_add, Int64.toInt_sub, Int32.toInt_add, Int32.toInt_sub, Int32.toInt_mul, Int64.le_iff_toInt_le, Int64.lt_iff_toInt_lt, Int32.le_iff_toInt_le, Int32.lt_iff_toInt_lt, ← Int32.toInt_inj, ← Int64.toInt_inj, Int32.toInt_toInt64, kc_0, kc_1, kc_4] at *; (first | omega | ((try simp (disch := omega) only [k_bm64] at *); (try simp (disch := omega) only [k_bm] at *); (try simp (disch := omega) only [k_bm] at *); omega) | (simp only [Int.bmod] at *; omega))))
theorem lf_g_digest_8 (a0 : Int32) (a1 : Nat) (h0 : 0 ≤ a0 ∧ a0 ≤ 4) (h1 : (4 - a0.toInt).toNat = a1) (h2 : ¬ 4 ≤ a0) : (4 - (a0 + 1).toInt).toNat < a1 := by
  first | rfl | assumption | decide | exact Or.inl rfl | (first | omega | (have hr0 := Int32.toInt_lt a0; have hs0 := Int32.le_toInt a0; simp only [Int64.toInt_add, Int64.toInt_sub, Int32.toInt_add, Int32.toInt_sub, Int32.toInt_mul, Int64.le_iff_toInt_le, Int64.lt_iff_toInt_lt, Int32.le_iff_toInt_le, Int32.lt_iff_toInt_lt, ← Int32.toInt_inj, ← Int64.toInt_inj, Int32.toInt_toInt64, kc_0, kc_1, kc_4] at *; (first | omega | ((try simp (disch := omega) only [k_bm64] at *); (try simp (disch := omega) only [k_bm] at *); (try simp (disch := omega) only [k_bm] at *); omega) | (simp only [Int.bmod] at *; omega))))
theorem lf_g_digest_9 (a0 : Int32) (a1 : Int32) (a2 : Nat) (h0 : 0 ≤ (a0) ∧ (a0) ≤ 24) (h1 : 0 ≤ a1) (h2 : ((a0).toInt - a1.toInt).toNat = a2) (h3 : ¬ (a0) ≤ a1) : 0 ≤ a1.toInt ∧ a1.toInt < 24 := by
  first | rfl | assumption | decide | exact Or.inl rfl | (first | omega | (have hr0 := Int32.toInt_lt a0; have hs0 := Int32.le_toInt a0; have hr1 := Int32.toInt_lt a1; have hs1 := Int32.le_toInt a1; simp only [Int64.toInt_add, Int64.toInt_sub, Int32.toInt_add, Int32.toInt_sub, Int32.toInt_mul, Int64.le_iff_toInt_le, Int64.lt_iff_toInt_lt, Int32.le_iff_toInt_le, Int32.lt_iff_toInt_lt, ← Int32.toInt_inj, ← Int64.toInt_inj, Int32.toInt_toInt64, kc_0, kc_24] at *; (first | omega | ((try simp (disch := omega) only [k_bm64] at *); (try simp (disch := omega) only [k_bm] at *); (try simp (disch := omega) only [k_bm] at *); omega) | (simp only [Int.bmod] at *; omega))))
theorem lf_g_digest_10 (a0 : Int32) (a1 : Int32) (a2 : Nat) (h0 : 0 ≤ (a0) ∧ (a0) ≤ 24) (h1 : 0 ≤ a1) (h2 : ((a0).toInt - a1.toInt).toNat = a2) (h3 : ¬ (a0) ≤ a1) : 0 ≤ (a1 + 1) := by
  first | rfl | assumption | decide | exact Or.inl rfl | (first | omega | (have hr0 := Int32.toInt_lt a0; have hs0 := Int32.le_toInt a0; have hr1 := Int32.toInt_lt a1; have hs1 := Int32.le_toInt a1; simp only [Int64.toInt_add, Int64.toInt_sub, Int32.toInt_add, Int32.toInt_sub, Int32.toInt_mul, Int64.le_iff_toInt_le, Int64.lt_iff_toInt_lt, Int32.le_iff_toInt_le, Int32.lt_iff_toInt_lt, ← Int32.toInt_inj, ← Int64.toInt_inj, Int32.toInt_toInt64, kc_0, kc_1, kc_24] at *; (first | omega | ((try simp (disch := omega) only [k_bm64] at *); (try simp (disch := omega) only [k_bm] at *); (try simp (disch := omega) only [k_bm] at *); omega) | (simp only [Int.bmod] at *; omega))))
theorem lf_g_digest_11 (a0 : Int32) (a1 : Int32) (a2 : Nat) (h0 : 0 ≤ (a0) ∧ (a0) ≤ 24) (h1 : 0 ≤ a1) (h2 : ((a0).toInt - a1.toInt).toNat = a2) (h3 : ¬ (a0) ≤ a1) : ((a0).toInt - (a1 + 1).toInt).toNat < a2 := by
  first | rfl | assumption | decide | exact Or.inl rfl | (first | omega | (have hr0 := Int32.toInt_lt a0; have hs0 := Int32.le_toInt a0; have hr1 := Int32.toInt_lt a1; have hs1 := Int32.le_toInt a1; simp only [Int64.toInt_add, Int64.toInt_sub, Int32.toInt_add, Int32.toInt_sub, Int32.toInt_mul, Int64.le_iff_toInt_le, Int64.lt_iff_toInt_lt, Int32.le_iff_toInt_le, Int32.lt_iff_toInt_lt, ← Int32.toInt_inj, ← Int64.toInt_inj, Int32.toInt_toInt64, kc_0, kc_1, kc_24] at *; (first | omega | ((try simp (disch := omega) only [k_bm64] at *); (try simp (disch := omega) only [k_bm] at *); (try simp (disch := omega) only [k_bm] at *); omega) | (simp only [Int.bmod] at *; omega))))
set_option maxHeartbeats 4000000 in
set_option maxRecDepth 100000 in
theorem g_digest (l : Launch) (dC : Nat → ClassId) (dI : Nat → Nat → Nat) (cI cJ cQ : ClassId) (sz : Nat) (hm : Nat) (vFo : Nat) (vSi : Nat) (vIt : Nat) (vMo : Nat) (la : Int32) (vBy : Nat) (vTy : Nat) (mi : Int32) (vMi : Nat) (pn : Int32) (vPs : Nat) (gn : Int32) (vGs : Nat) (fn : Int32) (vFt : Nat) (le : Int32) (vTo : Nat) (kn : Int32) (fe : Int32) (en : Int32) (ca : Int32) (an : Int32) (co : Int32) (vPr : Nat) (vSt : Nat) (vFn : Nat) (sn : Int32) (vSg : Nat) (vAl : Nat) (dr : Int32) (qTy : Nat → Int32) (qBy : Nat → Int32) (qMi : Nat → Int32) (qPs : Nat → Int32) (qGs : Nat → Int32) (qTo : Nat → Int32) (qPr : Nat → Int32) (qSt : Nat → Int32) (qFn : Nat → Int32) (qFt : Nat → Int32) (qSg : Nat → Int32) (qAl : Nat → Int32) (hh0 : 0 ≤ (qTy 0).toInt ∧ (qTy 0).toInt ≤ 24) (hh1 : 0 ≤ (qTy 1).toInt ∧ (qTy 1).toInt ≤ 39) (hh2 : 0 ≤ (qTy 2).toInt ∧ (qTy 2).toInt ≤ 23) (hh3 : k_bd 2 0 7 qPr) (hh4 : 0 ≤ fe ∧ fe ≤ 24) (hh5 : en = 0 ∨ kn = 0 ∨ fe ≤ 23) (hh6 : 0 ≤ kn ∧ kn ≤ 24) (hh7 : 0 ≤ fn ∧ fn ≤ 8) (hh8 : 0 ≤ sn ∧ sn ≤ 8) (hh9 : 0 ≤ mi ∧ mi ≤ 24) (hh10 : 0 ≤ pn ∧ pn ≤ 8) (hh11 : 0 ≤ gn ∧ gn ≤ 8) (hh12 : ca = 16777215) : Met l yX12_digest (kW yX12_digest cX12_digest 5 (some .long)) { frames := 8, cells := 0, slots := 0, locals := 194 } (kPre dC dI cI cJ cQ sz [.ref hm] [(kX12 hm vFo vSi vIt vMo la vBy vTy mi vMi pn vPs gn vGs fn vFt le vTo kn fe en ca an co vPr vSt vFn sn vSg vAl dr), (kAI vTy cI 3 qTy), (kAI vBy cI 120 qBy), (kAI vMi cI 24 qMi), (kAI vPs cI 32 qPs), (kAI vGs cI 16 qGs), (kAI vTo cI 96 qTo), (kAI vPr cI 2 qPr), (kAI vSt cI 2 qSt), (kAI vFn cI 2 qFn), (kAI vFt cI 32 qFt), (kAI vSg cI 16 qSg), (kAI vAl cI 25 qAl)]) (va_Ql (fun (r : Int64) (u : kS) => (0 ≤ (u.1 0) ∧ (u.1 0) ≤ 24) ∧ (0 ≤ (u.1 1) ∧ (u.1 1) ≤ 8) ∧ (0 ≤ (u.1 2) ∧ (u.1 2) ≤ 8) ∧ (k_bd 2 0 7 (u.2.1 4)) ∧ (0 ≤ (u.1 4) ∧ (u.1 4) ≤ 24) ∧ ((u.1 5) = 0 ∨ (u.1 3) = 0 ∨ (u.1 4) ≤ 23) ∧ (0 ≤ (u.1 3) ∧ (u.1 3) ≤ 24) ∧ ((u.1 8) = 16777215)) (fun (u : kS) t₀ => kB dC dI cI cJ cQ (va_A [(kX12 hm vFo vSi vIt vMo la vBy vTy mi vMi pn vPs gn vGs fn vFt le vTo kn fe en ca an co vPr vSt vFn sn vSg vAl dr), (kAI vTy cI 3 qTy), (kAI vBy cI 120 qBy), (kAI vMi cI 24 qMi), (kAI vPs cI 32 qPs), (kAI vGs cI 16 qGs), (kAI vTo cI 96 qTo), (kAI vPr cI 2 qPr), (kAI vSt cI 2 qSt), (kAI vFn cI 2 qFn), (kAI vFt cI 32 qFt), (kAI vSg cI 16 qSg), (kAI vAl cI 25 qAl)] sz) [(kX12 hm vFo vSi vIt vMo la vBy vTy (u.1 0) vMi (u.1 1) vPs (u.1 2) vGs fn vFt le vTo (u.1 3) (u.1 4) (u.1 5) (u.1 8) (u.1 6) (u.1 7) vPr vSt vFn sn vSg vAl (u.1 9)), (kAI vTy cI 3 qTy), (kAI vBy cI 120 qBy), (kAI vMi cI 24 (u.2.1 0)), (kAI vPs cI 32 (u.2.1 1)), (kAI vGs cI 16 (u.2.1 2)), (kAI vTo cI 96 (u.2.1 3)), (kAI vPr cI 2 (u.2.1 4)), (kAI vSt cI 2 (u.2.1 5)), (kAI vFn cI 2 (u.2.1 6)), (kAI vFt cI 32 qFt), (kAI vSg cI 16 qSg), (kAI vAl cI 25 (u.2.1 7))] t₀) (va_A [(kX12 hm vFo vSi vIt vMo la vBy vTy mi vMi pn vPs gn vGs fn vFt le vTo kn fe en ca an co vPr vSt vFn sn vSg vAl dr), (kAI vTy cI 3 qTy), (kAI vBy cI 120 qBy), (kAI vMi cI 24 qMi), (kAI vPs cI 32 qPs), (kAI vGs cI 16 qGs), (kAI vTo cI 96 qTo), (kAI vPr cI 2 qPr), (kAI vSt cI 2 qSt), (kAI vFn cI 2 qFn), (kAI vFt cI 32 qFt), (kAI vSg cI 16 qSg), (kAI vAl cI 25 qAl)] sz)) 0 0 (va_A [(kX12 hm vFo vSi vIt vMo la vBy vTy mi vMi pn vPs gn vGs fn vFt le vTo kn fe en ca an co vPr vSt vFn sn vSg vAl dr), (kAI vTy cI 3 qTy), (kAI vBy cI 120 qBy), (kAI vMi cI 24 qMi), (kAI vPs cI 32 qPs), (kAI vGs cI 16 qGs), (kAI vTo cI 96 qTo), (kAI vPr cI 2 qPr), (kAI vSt cI 2 qSt), (kAI vFn cI 2 qFn), (kAI vFt cI 32 qFt), (kAI vSg cI 16 qSg), (kAI vAl cI 25 qAl)] sz) := by
  refine Met.ofW (cc := cX12_digest) (maxL := 5) (ret := (some .long)) (by decide) rfl ?_
  intro p₀ e₀ s₀ m₀ args below meth c₀ s₁ B hml hv₀
  obtain ⟨rfl, hsz, hP, hK, hD0, hN⟩ := hv₀
  have hx₀ := B.exec
  have hb := B.bytes
  have hr := B.returns
  have hts := atoms_spec (ws := (kW yX12_digest cX12_digest 5 (some .long))) B.pre
  have hts := fun w h => hts w (List.mem_cons_of_mem _ h)
  have hown : s₀.vm.findClass RX12 = some m₀.cls := findClass_of_methodNamed B.named
  have hlocks := B.notSynchronized
  subst hsz
  have hD := hD0.self (sz := s₀.heap.size)
  generalize hAe : va_A [(kX12 hm vFo vSi vIt vMo la vBy vTy mi vMi pn vPs gn vGs fn vFt le vTo kn fe en ca an co vPr vSt vFn sn vSg vAl dr), (kAI vTy cI 3 qTy), (kAI vBy cI 120 qBy), (kAI vMi cI 24 qMi), (kAI vPs cI 32 qPs), (kAI vGs cI 16 qGs), (kAI vTo cI 96 qTo), (kAI vPr cI 2 qPr), (kAI vSt cI 2 qSt), (kAI vFn cI 2 qFn), (kAI vFt cI 32 qFt), (kAI vSg cI 16 qSg), (kAI vAl cI 25 qAl)] s₀.heap.size = A at hD ⊢
  have hA : ∀ q : Nat, s₀.heap.size ≤ q → A q := fun q h => by rw [← hAe]; exact Or.inr h
  have hS : va_S A s₀.heap s₀.heap [] := va_S.rf
  have hP : va_P (dC, dI) vwCl [(kX12 hm vFo vSi vIt vMo la vBy vTy mi vMi pn vPs gn vGs fn vFt le vTo kn fe en ca an co vPr vSt vFn sn vSg vAl dr), (kAI vTy cI 3 qTy), (kAI vBy cI 120 qBy), (kAI vMi cI 24 qMi), (kAI vPs cI 32 qPs), (kAI vGs cI 16 qGs), (kAI vTo cI 96 qTo), (kAI vPr cI 2 qPr), (kAI vSt cI 2 qSt), (kAI vFn cI 2 qFn), (kAI vFt cI 32 qFt), (kAI vSg cI 16 qSg), (kAI vAl cI 25 qAl)] s₀.heap := hP
  have hl := lv_entry ([.ref hm]) (n := 5) (Nat.le_of_ble_eq_true rfl)
  rw [lg_entry_eq]
  generalize (lg_sl ([.ref hm]) ++ List.replicate (5 - (lg_sl ([.ref hm])).length) Slot.unset).toArray = ls at hl ⊢
  have hl : lv_has ls 5 [(0, .ref hm)] := hl
  obtain ⟨H, hH⟩ : ∃ z : Heap, z = s₀.heap := ⟨_, rfl⟩
  rw [← hH] at hP
  have hS : va_S A s₀.heap H [] := by rw [hH]; exact hS
  refine k_heap hH ?_
  have hD : va_D A [(kX12 hm vFo vSi vIt vMo la vBy vTy mi vMi pn vPs gn vGs fn vFt le vTo kn fe en ca an co vPr vSt vFn sn vSg vAl dr), (kAI vTy cI 3 qTy), (kAI vBy cI 120 qBy), (kAI vMi cI 24 qMi), (kAI vPs cI 32 qPs), (kAI vGs cI 16 qGs), (kAI vTo cI 96 qTo), (kAI vPr cI 2 qPr), (kAI vSt cI 2 qSt), (kAI vFn cI 2 qFn), (kAI vFt cI 32 qFt), (kAI vSg cI 16 qSg), (kAI vAl cI 25 qAl)] := hD
  obtain ⟨locs, hlo⟩ : ∃ z : List Loc, z = [] := ⟨_, rfl⟩
  rw [← hlo] at hS ⊢
  clear hlo hH hAe hD0
  refine lv_ldc2 (v := 17) hx₀ hb hown (hts (.constantLong RX12 303 (17)) wd_990) dX12_digest_0 ?_
  refine lv_lstore_n (lv' := [(1, .long 17), (0, .ref hm)]) hx₀ hb dX12_digest_3 rfl hl (by decide) rfl (fun ls hl => ?_)
  refine lv_iconst (v := 0) hx₀ hb dX12_digest_4 (by decide +kernel) ?_
  refine lv_istore_n (lv' := [(3, .int 0), (1, .long 17), (0, .ref hm)]) hx₀ hb dX12_digest_5 rfl hl (by decide) rfl (fun ls hl => ?_)
  refine lv_iload_n hx₀ hb dX12_digest_6 rfl (lv_at hl 0 rfl) ?_
  refine lv_bipush (v := 8) hx₀ hb dX12_digest_7 (by decide +kernel) ?_
  refine lv_icmp_ge (tgt := 31) hx₀ hb dX12_digest_9 (by decide) (fun c9 => absurd c9 (by decide +kernel)) (fun _ => ?_)
  refine lv_ldc2 (v := 31) hx₀ hb hown (hts (.constantLong RX12 294 (31)) wd_991) dX12_digest_12 ?_
  refine lv_lload_n hx₀ hb dX12_digest_15 rfl (lv_at hl 1 rfl) ?_
  refine lv_lmul hx₀ hb dX12_digest_16 ?_
  refine k_topl (v := 527) (by decide +kernel) ?_
  refine lv_aload_n hx₀ hb dX12_digest_17 rfl (lv_at hl 2 rfl) ?_
  refine lv_iload_n hx₀ hb dX12_digest_18 rfl (lv_at hl 0 rfl) ?_
  obtain ⟨hPc, hDc, hFc, hC⟩ := k_cw (wc := [(kX12 hm vFo vSi vIt vMo la vBy vTy mi vMi pn vPs gn vGs fn vFt le vTo kn fe en ca an co vPr vSt vFn sn vSg vAl dr), (kAI vTy cI 3 qTy), (kAI vBy cI 120 qBy), (kAI vMi cI 24 qMi), (kAI vPs cI 32 qPs), (kAI vGs cI 16 qGs)]) hP hD hS hA [0, 1, 2, 3, 4, 5] (by decide +kernel) rfl
  refine va_calli (va_runV (As := [.int 0]) (rest := [.long 527]) ⟨hx₀, hb, hml, hown, hts⟩ (g_count l dC dI cI cJ cQ H.size hm 0 vFo vSi vIt vMo la vBy vTy mi vMi pn vPs gn vGs fn vFt le vTo kn fe en ca an co vPr vSt vFn sn vSg vAl dr qTy qBy qMi qPs qGs (hh0) (hh1) (hh2)) (cwV 1 hts (kGV wd_960 wd_992 wd_958 wd_959 wd_5) rfl rfl rfl (by decide +kernel) ⟨Nat.le_of_ble_eq_true rfl, Nat.le_of_ble_eq_true rfl⟩) (k_preV11 (q0 := 0) hK hPc hDc hN rfl) rfl rfl hl.1 rfl (lv_room (Nat.le_of_ble_eq_true rfl)) dX12_digest_19 ⟨by decide +kernel, by decide +kernel⟩) hS (fun q _ h => hFc q h) hFc (fun r_1 u₀ t₀ H1 locs ht hvm hw hB hz1 hk1 hS => ?_)
  obtain ⟨g_2, ga_3, gl_4, gb_5, gp_6⟩ := u₀
  obtain ⟨hP1, hK1, hD1⟩ := hB
  rw [ht] at hP1
  have hJ := k_jn (wr := [(kAI vTo cI 96 qTo), (kAI vPr cI 2 qPr), (kAI vSt cI 2 qSt), (kAI vFn cI 2 qFn), (kAI vFt cI 32 qFt), (kAI vSg cI 16 qSg), (kAI vAl cI 25 qAl)]) (wt := [(kAI vTo cI 96 qTo), (kAI vPr cI 2 qPr), (kAI vSt cI 2 qSt), (kAI vFn cI 2 qFn), (kAI vFt cI 32 qFt), (kAI vSg cI 16 qSg), (kAI vAl cI 25 qAl), (kX12 hm vFo vSi vIt vMo la vBy vTy (g_2 0) vMi (g_2 1) vPs (g_2 2) vGs fn vFt le vTo kn fe en ca an co vPr vSt vFn sn vSg vAl dr), (kAI vTy cI 3 qTy), (kAI vBy cI 120 qBy), (kAI vMi cI 24 (ga_3 0)), (kAI vPs cI 32 (ga_3 1)), (kAI vGs cI 16 (ga_3 2))]) hP hD hC [6, 7, 8, 9, 10, 11, 12] rfl (by decide +kernel) (by decide +kernel) hk1 hFc hP1 hD1 rfl
  clear hP hD hPc hDc hFc hC hP1 hD1 hK1 hz1 hk1 hvm ht
  obtain ⟨hP, hD⟩ := hJ
  generalize H1 = H at hP hS ⊢
  try dsimp only at hw
  obtain ⟨c_7, c_8, c_9, c_10⟩ := hw
  refine lv_i2l hx₀ hb dX12_digest_22 rfl ?_
  refine lv_ladd hx₀ hb dX12_digest_23 ?_
  refine lv_lstore_n (lv' := [(1, .long (527 + r_1.toInt64)), (3, .int 0), (0, .ref hm)]) hx₀ hb dX12_digest_24 rfl hl (by decide) rfl (fun ls hl => ?_)
  refine lv_iinc (v := 1) (lv' := [(3, .int 1), (1, .long (527 + r_1.toInt64)), (0, .ref hm)]) hx₀ hb dX12_digest_25 hl (k := 1) rfl (by decide +kernel) (by decide) rfl (fun ls hl => ?_)
  refine lv_goto (tgt := 6) hx₀ hb dX12_digest_28 (by decide) ?_
  refine lv_iload_n hx₀ hb dX12_digest_6 rfl (lv_at hl 0 rfl) ?_
  refine lv_bipush (v := 8) hx₀ hb dX12_digest_7 (by decide +kernel) ?_
  refine lv_icmp_ge (tgt := 31) hx₀ hb dX12_digest_9 (by decide) (fun c9 => absurd c9 (by decide +kernel)) (fun _ => ?_)
  refine lv_ldc2 (v := 31) hx₀ hb hown (hts (.constantLong RX12 294 (31)) wd_991) dX12_digest_12 ?_
  refine lv_lload_n hx₀ hb dX12_digest_15 rfl (lv_at hl 1 rfl) ?_
  refine lv_lmul hx₀ hb dX12_digest_16 ?_
  refine lv_aload_n hx₀ hb dX12_digest_17 rfl (lv_at hl 2 rfl) ?_
  refine lv_iload_n hx₀ hb dX12_digest_18 rfl (lv_at hl 0 rfl) ?_
  obtain ⟨hPc, hDc, hFc, hC⟩ := k_cw (wc := [(kX12 hm vFo vSi vIt vMo la vBy vTy (g_2 0) vMi (g_2 1) vPs (g_2 2) vGs fn vFt le vTo kn fe en ca an co vPr vSt vFn sn vSg vAl dr), (kAI vTy cI 3 qTy), (kAI vBy cI 120 qBy), (kAI vMi cI 24 (ga_3 0)), (kAI vPs cI 32 (ga_3 1)), (kAI vGs cI 16 (ga_3 2))]) hP hD hS hA [7, 8, 9, 10, 11, 12] (by decide +kernel) rfl
  refine va_calli (va_runV (As := [.int 1]) (rest := [.long (31 * (527 + r_1.toInt64))]) ⟨hx₀, hb, hml, hown, hts⟩ (g_count l dC dI cI cJ cQ H.size hm 1 vFo vSi vIt vMo la vBy vTy (g_2 0) vMi (g_2 1) vPs (g_2 2) vGs fn vFt le vTo kn fe en ca an co vPr vSt vFn sn vSg vAl dr qTy qBy (ga_3 0) (ga_3 1) (ga_3 2) (hh0) (hh1) (hh2)) (cwV 1 hts (kGV wd_960 wd_992 wd_958 wd_959 wd_5) rfl rfl rfl (by decide +kernel) ⟨Nat.le_of_ble_eq_true rfl, Nat.le_of_ble_eq_true rfl⟩) (k_preV11 (q0 := 0) hK hPc hDc hN rfl) rfl rfl hl.1 rfl (lv_room (Nat.le_of_ble_eq_true rfl)) dX12_digest_19 ⟨by decide +kernel, by decide +kernel⟩) hS (fun q _ h => hFc q h) hFc (fun r_11 u₀ t₀ H1 locs ht hvm hw hB hz1 hk1 hS => ?_)
  obtain ⟨g_12, ga_13, gl_14, gb_15, gp_16⟩ := u₀
  obtain ⟨hP1, hK1, hD1⟩ := hB
  rw [ht] at hP1
  have hJ := k_jn (wr := [(kAI vTo cI 96 qTo), (kAI vPr cI 2 qPr), (kAI vSt cI 2 qSt), (kAI vFn cI 2 qFn), (kAI vFt cI 32 qFt), (kAI vSg cI 16 qSg), (kAI vAl cI 25 qAl)]) (wt := [(kAI vTo cI 96 qTo), (kAI vPr cI 2 qPr), (kAI vSt cI 2 qSt), (kAI vFn cI 2 qFn), (kAI vFt cI 32 qFt), (kAI vSg cI 16 qSg), (kAI vAl cI 25 qAl), (kX12 hm vFo vSi vIt vMo la vBy vTy (g_12 0) vMi (g_12 1) vPs (g_12 2) vGs fn vFt le vTo kn fe en ca an co vPr vSt vFn sn vSg vAl dr), (kAI vTy cI 3 qTy), (kAI vBy cI 120 qBy), (kAI vMi cI 24 (ga_13 0)), (kAI vPs cI 32 (ga_13 1)), (kAI vGs cI 16 (ga_13 2))]) hP hD hC [0, 1, 2, 3, 4, 5, 6] rfl (by decide +kernel) (by decide +kernel) hk1 hFc hP1 hD1 rfl
  clear hP hD hPc hDc hFc hC hP1 hD1 hK1 hz1 hk1 hvm ht
  obtain ⟨hP, hD⟩ := hJ
  generalize H1 = H at hP hS ⊢
  try dsimp only at hw
  obtain ⟨c_17, c_18, c_19, c_20⟩ := hw
  refine lv_i2l hx₀ hb dX12_digest_22 rfl ?_
  refine lv_ladd hx₀ hb dX12_digest_23 ?_
  refine lv_lstore_n (lv' := [(1, .long ((31 * (527 + r_1.toInt64)) + r_11.toInt64)), (3, .int 1), (0, .ref hm)]) hx₀ hb dX12_digest_24 rfl hl (by decide) rfl (fun ls hl => ?_)
  refine lv_iinc (v := 2) (lv' := [(3, .int 2), (1, .long ((31 * (527 + r_1.toInt64)) + r_11.toInt64)), (0, .ref hm)]) hx₀ hb dX12_digest_25 hl (k := 1) rfl (by decide +kernel) (by decide) rfl (fun ls hl => ?_)
  refine lv_goto (tgt := 6) hx₀ hb dX12_digest_28 (by decide) ?_
  refine lv_iload_n hx₀ hb dX12_digest_6 rfl (lv_at hl 0 rfl) ?_
  refine lv_bipush (v := 8) hx₀ hb dX12_digest_7 (by decide +kernel) ?_
  refine lv_icmp_ge (tgt := 31) hx₀ hb dX12_digest_9 (by decide) (fun c9 => absurd c9 (by decide +kernel)) (fun _ => ?_)
  refine lv_ldc2 (v := 31) hx₀ hb hown (hts (.constantLong RX12 294 (31)) wd_991) dX12_digest_12 ?_
  refine lv_lload_n hx₀ hb dX12_digest_15 rfl (lv_at hl 1 rfl) ?_
  refine lv_lmul hx₀ hb dX12_digest_16 ?_
  refine lv_aload_n hx₀ hb dX12_digest_17 rfl (lv_at hl 2 rfl) ?_
  refine lv_iload_n hx₀ hb dX12_digest_18 rfl (lv_at hl 0 rfl) ?_
  obtain ⟨hPc, hDc, hFc, hC⟩ := k_cw (wc := [(kX12 hm vFo vSi vIt vMo la vBy vTy (g_12 0) vMi (g_12 1) vPs (g_12 2) vGs fn vFt le vTo kn fe en ca an co vPr vSt vFn sn vSg vAl dr), (kAI vTy cI 3 qTy), (kAI vBy cI 120 qBy), (kAI vMi cI 24 (ga_13 0)), (kAI vPs cI 32 (ga_13 1)), (kAI vGs cI 16 (ga_13 2))]) hP hD hS hA [7, 8, 9, 10, 11, 12] (by decide +kernel) rfl
  refine va_calli (va_runV (As := [.int 2]) (rest := [.long (31 * ((31 * (527 + r_1.toInt64)) + r_11.toInt64))]) ⟨hx₀, hb, hml, hown, hts⟩ (g_count l dC dI cI cJ cQ H.size hm 2 vFo vSi vIt vMo la vBy vTy (g_12 0) vMi (g_12 1) vPs (g_12 2) vGs fn vFt le vTo kn fe en ca an co vPr vSt vFn sn vSg vAl dr qTy qBy (ga_13 0) (ga_13 1) (ga_13 2) (hh0) (hh1) (hh2)) (cwV 1 hts (kGV wd_960 wd_992 wd_958 wd_959 wd_5) rfl rfl rfl (by decide +kernel) ⟨Nat.le_of_ble_eq_true rfl, Nat.le_of_ble_eq_true rfl⟩) (k_preV11 (q0 := 0) hK hPc hDc hN rfl) rfl rfl hl.1 rfl (lv_room (Nat.le_of_ble_eq_true rfl)) dX12_digest_19 ⟨by decide +kernel, by decide +kernel⟩) hS (fun q _ h => hFc q h) hFc (fun r_21 u₀ t₀ H1 locs ht hvm hw hB hz1 hk1 hS => ?_)
  obtain ⟨g_22, ga_23, gl_24, gb_25, gp_26⟩ := u₀
  obtain ⟨hP1, hK1, hD1⟩ := hB
  rw [ht] at hP1
  have hJ := k_jn (wr := [(kAI vTo cI 96 qTo), (kAI vPr cI 2 qPr), (kAI vSt cI 2 qSt), (kAI vFn cI 2 qFn), (kAI vFt cI 32 qFt), (kAI vSg cI 16 qSg), (kAI vAl cI 25 qAl)]) (wt := [(kAI vTo cI 96 qTo), (kAI vPr cI 2 qPr), (kAI vSt cI 2 qSt), (kAI vFn cI 2 qFn), (kAI vFt cI 32 qFt), (kAI vSg cI 16 qSg), (kAI vAl cI 25 qAl), (kX12 hm vFo vSi vIt vMo la vBy vTy (g_22 0) vMi (g_22 1) vPs (g_22 2) vGs fn vFt le vTo kn fe en ca an co vPr vSt vFn sn vSg vAl dr), (kAI vTy cI 3 qTy), (kAI vBy cI 120 qBy), (kAI vMi cI 24 (ga_23 0)), (kAI vPs cI 32 (ga_23 1)), (kAI vGs cI 16 (ga_23 2))]) hP hD hC [0, 1, 2, 3, 4, 5, 6] rfl (by decide +kernel) (by decide +kernel) hk1 hFc hP1 hD1 rfl
  clear hP hD hPc hDc hFc hC hP1 hD1 hK1 hz1 hk1 hvm ht
  obtain ⟨hP, hD⟩ := hJ
  generalize H1 = H at hP hS ⊢
  try dsimp only at hw
  obtain ⟨c_27, c_28, c_29, c_30⟩ := hw
  refine lv_i2l hx₀ hb dX12_digest_22 rfl ?_
  refine lv_ladd hx₀ hb dX12_digest_23 ?_
  refine lv_lstore_n (lv' := [(1, .long ((31 * ((31 * (527 + r_1.toInt64)) + r_11.toInt64)) + r_21.toInt64)), (3, .int 2), (0, .ref hm)]) hx₀ hb dX12_digest_24 rfl hl (by decide) rfl (fun ls hl => ?_)
  refine lv_iinc (v := 3) (lv' := [(3, .int 3), (1, .long ((31 * ((31 * (527 + r_1.toInt64)) + r_11.toInt64)) + r_21.toInt64)), (0, .ref hm)]) hx₀ hb dX12_digest_25 hl (k := 1) rfl (by decide +kernel) (by decide) rfl (fun ls hl => ?_)
  refine lv_goto (tgt := 6) hx₀ hb dX12_digest_28 (by decide) ?_
  refine lv_iload_n hx₀ hb dX12_digest_6 rfl (lv_at hl 0 rfl) ?_
  refine lv_bipush (v := 8) hx₀ hb dX12_digest_7 (by decide +kernel) ?_
  refine lv_icmp_ge (tgt := 31) hx₀ hb dX12_digest_9 (by decide) (fun c9 => absurd c9 (by decide +kernel)) (fun _ => ?_)
  refine lv_ldc2 (v := 31) hx₀ hb hown (hts (.constantLong RX12 294 (31)) wd_991) dX12_digest_12 ?_
  refine lv_lload_n hx₀ hb dX12_digest_15 rfl (lv_at hl 1 rfl) ?_
  refine lv_lmul hx₀ hb dX12_digest_16 ?_
  refine lv_aload_n hx₀ hb dX12_digest_17 rfl (lv_at hl 2 rfl) ?_
  refine lv_iload_n hx₀ hb dX12_digest_18 rfl (lv_at hl 0 rfl) ?_
  obtain ⟨hPc, hDc, hFc, hC⟩ := k_cw (wc := [(kX12 hm vFo vSi vIt vMo la vBy vTy (g_22 0) vMi (g_22 1) vPs (g_22 2) vGs fn vFt le vTo kn fe en ca an co vPr vSt vFn sn vSg vAl dr), (kAI vTy cI 3 qTy), (kAI vBy cI 120 qBy), (kAI vMi cI 24 (ga_23 0)), (kAI vPs cI 32 (ga_23 1)), (kAI vGs cI 16 (ga_23 2))]) hP hD hS hA [7, 8, 9, 10, 11, 12] (by decide +kernel) rfl
  refine va_calli (va_runV (As := [.int 3]) (rest := [.long (31 * ((31 * ((31 * (527 + r_1.toInt64)) + r_11.toInt64)) + r_21.toInt64))]) ⟨hx₀, hb, hml, hown, hts⟩ (g_count l dC dI cI cJ cQ H.size hm 3 vFo vSi vIt vMo la vBy vTy (g_22 0) vMi (g_22 1) vPs (g_22 2) vGs fn vFt le vTo kn fe en ca an co vPr vSt vFn sn vSg vAl dr qTy qBy (ga_23 0) (ga_23 1) (ga_23 2) (hh0) (hh1) (hh2)) (cwV 1 hts (kGV wd_960 wd_992 wd_958 wd_959 wd_5) rfl rfl rfl (by decide +kernel) ⟨Nat.le_of_ble_eq_true rfl, Nat.le_of_ble_eq_true rfl⟩) (k_preV11 (q0 := 0) hK hPc hDc hN rfl) rfl rfl hl.1 rfl (lv_room (Nat.le_of_ble_eq_true rfl)) dX12_digest_19 ⟨by decide +kernel, by decide +kernel⟩) hS (fun q _ h => hFc q h) hFc (fun r_31 u₀ t₀ H1 locs ht hvm hw hB hz1 hk1 hS => ?_)
  obtain ⟨g_32, ga_33, gl_34, gb_35, gp_36⟩ := u₀
  obtain ⟨hP1, hK1, hD1⟩ := hB
  rw [ht] at hP1
  have hJ := k_jn (wr := [(kAI vTo cI 96 qTo), (kAI vPr cI 2 qPr), (kAI vSt cI 2 qSt), (kAI vFn cI 2 qFn), (kAI vFt cI 32 qFt), (kAI vSg cI 16 qSg), (kAI vAl cI 25 qAl)]) (wt := [(kAI vTo cI 96 qTo), (kAI vPr cI 2 qPr), (kAI vSt cI 2 qSt), (kAI vFn cI 2 qFn), (kAI vFt cI 32 qFt), (kAI vSg cI 16 qSg), (kAI vAl cI 25 qAl), (kX12 hm vFo vSi vIt vMo la vBy vTy (g_32 0) vMi (g_32 1) vPs (g_32 2) vGs fn vFt le vTo kn fe en ca an co vPr vSt vFn sn vSg vAl dr), (kAI vTy cI 3 qTy), (kAI vBy cI 120 qBy), (kAI vMi cI 24 (ga_33 0)), (kAI vPs cI 32 (ga_33 1)), (kAI vGs cI 16 (ga_33 2))]) hP hD hC [0, 1, 2, 3, 4, 5, 6] rfl (by decide +kernel) (by decide +kernel) hk1 hFc hP1 hD1 rfl
  clear hP hD hPc hDc hFc hC hP1 hD1 hK1 hz1 hk1 hvm ht
  obtain ⟨hP, hD⟩ := hJ
  generalize H1 = H at hP hS ⊢
  try dsimp only at hw
  obtain ⟨c_37, c_38, c_39, c_40⟩ := hw
  refine lv_i2l hx₀ hb dX12_digest_22 rfl ?_
  refine lv_ladd hx₀ hb dX12_digest_23 ?_
  refine lv_lstore_n (lv' := [(1, .long ((31 * ((31 * ((31 * (527 + r_1.toInt64)) + r_11.toInt64)) + r_21.toInt64)) + r_31.toInt64)), (3, .int 3), (0, .ref hm)]) hx₀ hb dX12_digest_24 rfl hl (by decide) rfl (fun ls hl => ?_)
  refine lv_iinc (v := 4) (lv' := [(3, .int 4), (1, .long ((31 * ((31 * ((31 * (527 + r_1.toInt64)) + r_11.toInt64)) + r_21.toInt64)) + r_31.toInt64)), (0, .ref hm)]) hx₀ hb dX12_digest_25 hl (k := 1) rfl (by decide +kernel) (by decide) rfl (fun ls hl => ?_)
  refine lv_goto (tgt := 6) hx₀ hb dX12_digest_28 (by decide) ?_
  refine lv_iload_n hx₀ hb dX12_digest_6 rfl (lv_at hl 0 rfl) ?_
  refine lv_bipush (v := 8) hx₀ hb dX12_digest_7 (by decide +kernel) ?_
  refine lv_icmp_ge (tgt := 31) hx₀ hb dX12_digest_9 (by decide) (fun c9 => absurd c9 (by decide +kernel)) (fun _ => ?_)
  refine lv_ldc2 (v := 31) hx₀ hb hown (hts (.constantLong RX12 294 (31)) wd_991) dX12_digest_12 ?_
  refine lv_lload_n hx₀ hb dX12_digest_15 rfl (lv_at hl 1 rfl) ?_
  refine lv_lmul hx₀ hb dX12_digest_16 ?_
  refine lv_aload_n hx₀ hb dX12_digest_17 rfl (lv_at hl 2 rfl) ?_
  refine lv_iload_n hx₀ hb dX12_digest_18 rfl (lv_at hl 0 rfl) ?_
  obtain ⟨hPc, hDc, hFc, hC⟩ := k_cw (wc := [(kX12 hm vFo vSi vIt vMo la vBy vTy (g_32 0) vMi (g_32 1) vPs (g_32 2) vGs fn vFt le vTo kn fe en ca an co vPr vSt vFn sn vSg vAl dr), (kAI vTy cI 3 qTy), (kAI vBy cI 120 qBy), (kAI vMi cI 24 (ga_33 0)), (kAI vPs cI 32 (ga_33 1)), (kAI vGs cI 16 (ga_33 2))]) hP hD hS hA [7, 8, 9, 10, 11, 12] (by decide +kernel) rfl
  refine va_calli (va_runV (As := [.int 4]) (rest := [.long (31 * ((31 * ((31 * ((31 * (527 + r_1.toInt64)) + r_11.toInt64)) + r_21.toInt64)) + r_31.toInt64))]) ⟨hx₀, hb, hml, hown, hts⟩ (g_count l dC dI cI cJ cQ H.size hm 4 vFo vSi vIt vMo la vBy vTy (g_32 0) vMi (g_32 1) vPs (g_32 2) vGs fn vFt le vTo kn fe en ca an co vPr vSt vFn sn vSg vAl dr qTy qBy (ga_33 0) (ga_33 1) (ga_33 2) (hh0) (hh1) (hh2)) (cwV 1 hts (kGV wd_960 wd_992 wd_958 wd_959 wd_5) rfl rfl rfl (by decide +kernel) ⟨Nat.le_of_ble_eq_true rfl, Nat.le_of_ble_eq_true rfl⟩) (k_preV11 (q0 := 0) hK hPc hDc hN rfl) rfl rfl hl.1 rfl (lv_room (Nat.le_of_ble_eq_true rfl)) dX12_digest_19 ⟨by decide +kernel, by decide +kernel⟩) hS (fun q _ h => hFc q h) hFc (fun r_41 u₀ t₀ H1 locs ht hvm hw hB hz1 hk1 hS => ?_)
  obtain ⟨g_42, ga_43, gl_44, gb_45, gp_46⟩ := u₀
  obtain ⟨hP1, hK1, hD1⟩ := hB
  rw [ht] at hP1
  have hJ := k_jn (wr := [(kAI vTo cI 96 qTo), (kAI vPr cI 2 qPr), (kAI vSt cI 2 qSt), (kAI vFn cI 2 qFn), (kAI vFt cI 32 qFt), (kAI vSg cI 16 qSg), (kAI vAl cI 25 qAl)]) (wt := [(kAI vTo cI 96 qTo), (kAI vPr cI 2 qPr), (kAI vSt cI 2 qSt), (kAI vFn cI 2 qFn), (kAI vFt cI 32 qFt), (kAI vSg cI 16 qSg), (kAI vAl cI 25 qAl), (kX12 hm vFo vSi vIt vMo la vBy vTy (g_42 0) vMi (g_42 1) vPs (g_42 2) vGs fn vFt le vTo kn fe en ca an co vPr vSt vFn sn vSg vAl dr), (kAI vTy cI 3 qTy), (kAI vBy cI 120 qBy), (kAI vMi cI 24 (ga_43 0)), (kAI vPs cI 32 (ga_43 1)), (kAI vGs cI 16 (ga_43 2))]) hP hD hC [0, 1, 2, 3, 4, 5, 6] rfl (by decide +kernel) (by decide +kernel) hk1 hFc hP1 hD1 rfl
  clear hP hD hPc hDc hFc hC hP1 hD1 hK1 hz1 hk1 hvm ht
  obtain ⟨hP, hD⟩ := hJ
  generalize H1 = H at hP hS ⊢
  try dsimp only at hw
  obtain ⟨c_47, c_48, c_49, c_50⟩ := hw
  refine lv_i2l hx₀ hb dX12_digest_22 rfl ?_
  refine lv_ladd hx₀ hb dX12_digest_23 ?_
  refine lv_lstore_n (lv' := [(1, .long ((31 * ((31 * ((31 * ((31 * (527 + r_1.toInt64)) + r_11.toInt64)) + r_21.toInt64)) + r_31.toInt64)) + r_41.toInt64)), (3, .int 4), (0, .ref hm)]) hx₀ hb dX12_digest_24 rfl hl (by decide) rfl (fun ls hl => ?_)
  refine lv_iinc (v := 5) (lv' := [(3, .int 5), (1, .long ((31 * ((31 * ((31 * ((31 * (527 + r_1.toInt64)) + r_11.toInt64)) + r_21.toInt64)) + r_31.toInt64)) + r_41.toInt64)), (0, .ref hm)]) hx₀ hb dX12_digest_25 hl (k := 1) rfl (by decide +kernel) (by decide) rfl (fun ls hl => ?_)
  refine lv_goto (tgt := 6) hx₀ hb dX12_digest_28 (by decide) ?_
  refine lv_iload_n hx₀ hb dX12_digest_6 rfl (lv_at hl 0 rfl) ?_
  refine lv_bipush (v := 8) hx₀ hb dX12_digest_7 (by decide +kernel) ?_
  refine lv_icmp_ge (tgt := 31) hx₀ hb dX12_digest_9 (by decide) (fun c9 => absurd c9 (by decide +kernel)) (fun _ => ?_)
  refine lv_ldc2 (v := 31) hx₀ hb hown (hts (.constantLong RX12 294 (31)) wd_991) dX12_digest_12 ?_
  refine lv_lload_n hx₀ hb dX12_digest_15 rfl (lv_at hl 1 rfl) ?_
  refine lv_lmul hx₀ hb dX12_digest_16 ?_
  refine lv_aload_n hx₀ hb dX12_digest_17 rfl (lv_at hl 2 rfl) ?_
  refine lv_iload_n hx₀ hb dX12_digest_18 rfl (lv_at hl 0 rfl) ?_
  obtain ⟨hPc, hDc, hFc, hC⟩ := k_cw (wc := [(kX12 hm vFo vSi vIt vMo la vBy vTy (g_42 0) vMi (g_42 1) vPs (g_42 2) vGs fn vFt le vTo kn fe en ca an co vPr vSt vFn sn vSg vAl dr), (kAI vTy cI 3 qTy), (kAI vBy cI 120 qBy), (kAI vMi cI 24 (ga_43 0)), (kAI vPs cI 32 (ga_43 1)), (kAI vGs cI 16 (ga_43 2))]) hP hD hS hA [7, 8, 9, 10, 11, 12] (by decide +kernel) rfl
  refine va_calli (va_runV (As := [.int 5]) (rest := [.long (31 * ((31 * ((31 * ((31 * ((31 * (527 + r_1.toInt64)) + r_11.toInt64)) + r_21.toInt64)) + r_31.toInt64)) + r_41.toInt64))]) ⟨hx₀, hb, hml, hown, hts⟩ (g_count l dC dI cI cJ cQ H.size hm 5 vFo vSi vIt vMo la vBy vTy (g_42 0) vMi (g_42 1) vPs (g_42 2) vGs fn vFt le vTo kn fe en ca an co vPr vSt vFn sn vSg vAl dr qTy qBy (ga_43 0) (ga_43 1) (ga_43 2) (hh0) (hh1) (hh2)) (cwV 1 hts (kGV wd_960 wd_992 wd_958 wd_959 wd_5) rfl rfl rfl (by decide +kernel) ⟨Nat.le_of_ble_eq_true rfl, Nat.le_of_ble_eq_true rfl⟩) (k_preV11 (q0 := 0) hK hPc hDc hN rfl) rfl rfl hl.1 rfl (lv_room (Nat.le_of_ble_eq_true rfl)) dX12_digest_19 ⟨by decide +kernel, by decide +kernel⟩) hS (fun q _ h => hFc q h) hFc (fun r_51 u₀ t₀ H1 locs ht hvm hw hB hz1 hk1 hS => ?_)
  obtain ⟨g_52, ga_53, gl_54, gb_55, gp_56⟩ := u₀
  obtain ⟨hP1, hK1, hD1⟩ := hB
  rw [ht] at hP1
  have hJ := k_jn (wr := [(kAI vTo cI 96 qTo), (kAI vPr cI 2 qPr), (kAI vSt cI 2 qSt), (kAI vFn cI 2 qFn), (kAI vFt cI 32 qFt), (kAI vSg cI 16 qSg), (kAI vAl cI 25 qAl)]) (wt := [(kAI vTo cI 96 qTo), (kAI vPr cI 2 qPr), (kAI vSt cI 2 qSt), (kAI vFn cI 2 qFn), (kAI vFt cI 32 qFt), (kAI vSg cI 16 qSg), (kAI vAl cI 25 qAl), (kX12 hm vFo vSi vIt vMo la vBy vTy (g_52 0) vMi (g_52 1) vPs (g_52 2) vGs fn vFt le vTo kn fe en ca an co vPr vSt vFn sn vSg vAl dr), (kAI vTy cI 3 qTy), (kAI vBy cI 120 qBy), (kAI vMi cI 24 (ga_53 0)), (kAI vPs cI 32 (ga_53 1)), (kAI vGs cI 16 (ga_53 2))]) hP hD hC [0, 1, 2, 3, 4, 5, 6] rfl (by decide +kernel) (by decide +kernel) hk1 hFc hP1 hD1 rfl
  clear hP hD hPc hDc hFc hC hP1 hD1 hK1 hz1 hk1 hvm ht
  obtain ⟨hP, hD⟩ := hJ
  generalize H1 = H at hP hS ⊢
  try dsimp only at hw
  obtain ⟨c_57, c_58, c_59, c_60⟩ := hw
  refine lv_i2l hx₀ hb dX12_digest_22 rfl ?_
  refine lv_ladd hx₀ hb dX12_digest_23 ?_
  refine lv_lstore_n (lv' := [(1, .long ((31 * ((31 * ((31 * ((31 * ((31 * (527 + r_1.toInt64)) + r_11.toInt64)) + r_21.toInt64)) + r_31.toInt64)) + r_41.toInt64)) + r_51.toInt64)), (3, .int 5), (0, .ref hm)]) hx₀ hb dX12_digest_24 rfl hl (by decide) rfl (fun ls hl => ?_)
  refine lv_iinc (v := 6) (lv' := [(3, .int 6), (1, .long ((31 * ((31 * ((31 * ((31 * ((31 * (527 + r_1.toInt64)) + r_11.toInt64)) + r_21.toInt64)) + r_31.toInt64)) + r_41.toInt64)) + r_51.toInt64)), (0, .ref hm)]) hx₀ hb dX12_digest_25 hl (k := 1) rfl (by decide +kernel) (by decide) rfl (fun ls hl => ?_)
  refine lv_goto (tgt := 6) hx₀ hb dX12_digest_28 (by decide) ?_
  refine lv_iload_n hx₀ hb dX12_digest_6 rfl (lv_at hl 0 rfl) ?_
  refine lv_bipush (v := 8) hx₀ hb dX12_digest_7 (by decide +kernel) ?_
  refine lv_icmp_ge (tgt := 31) hx₀ hb dX12_digest_9 (by decide) (fun c9 => absurd c9 (by decide +kernel)) (fun _ => ?_)
  refine lv_ldc2 (v := 31) hx₀ hb hown (hts (.constantLong RX12 294 (31)) wd_991) dX12_digest_12 ?_
  refine lv_lload_n hx₀ hb dX12_digest_15 rfl (lv_at hl 1 rfl) ?_
  refine lv_lmul hx₀ hb dX12_digest_16 ?_
  refine lv_aload_n hx₀ hb dX12_digest_17 rfl (lv_at hl 2 rfl) ?_
  refine lv_iload_n hx₀ hb dX12_digest_18 rfl (lv_at hl 0 rfl) ?_
  obtain ⟨hPc, hDc, hFc, hC⟩ := k_cw (wc := [(kX12 hm vFo vSi vIt vMo la vBy vTy (g_52 0) vMi (g_52 1) vPs (g_52 2) vGs fn vFt le vTo kn fe en ca an co vPr vSt vFn sn vSg vAl dr), (kAI vTy cI 3 qTy), (kAI vBy cI 120 qBy), (kAI vMi cI 24 (ga_53 0)), (kAI vPs cI 32 (ga_53 1)), (kAI vGs cI 16 (ga_53 2))]) hP hD hS hA [7, 8, 9, 10, 11, 12] (by decide +kernel) rfl
  refine va_calli (va_runV (As := [.int 6]) (rest := [.long (31 * ((31 * ((31 * ((31 * ((31 * ((31 * (527 + r_1.toInt64)) + r_11.toInt64)) + r_21.toInt64)) + r_31.toInt64)) + r_41.toInt64)) + r_51.toInt64))]) ⟨hx₀, hb, hml, hown, hts⟩ (g_count l dC dI cI cJ cQ H.size hm 6 vFo vSi vIt vMo la vBy vTy (g_52 0) vMi (g_52 1) vPs (g_52 2) vGs fn vFt le vTo kn fe en ca an co vPr vSt vFn sn vSg vAl dr qTy qBy (ga_53 0) (ga_53 1) (ga_53 2) (hh0) (hh1) (hh2)) (cwV 1 hts (kGV wd_960 wd_992 wd_958 wd_959 wd_5) rfl rfl rfl (by decide +kernel) ⟨Nat.le_of_ble_eq_true rfl, Nat.le_of_ble_eq_true rfl⟩) (k_preV11 (q0 := 0) hK hPc hDc hN rfl) rfl rfl hl.1 rfl (lv_room (Nat.le_of_ble_eq_true rfl)) dX12_digest_19 ⟨by decide +kernel, by decide +kernel⟩) hS (fun q _ h => hFc q h) hFc (fun r_61 u₀ t₀ H1 locs ht hvm hw hB hz1 hk1 hS => ?_)
  obtain ⟨g_62, ga_63, gl_64, gb_65, gp_66⟩ := u₀
  obtain ⟨hP1, hK1, hD1⟩ := hB
  rw [ht] at hP1
  have hJ := k_jn (wr := [(kAI vTo cI 96 qTo), (kAI vPr cI 2 qPr), (kAI vSt cI 2 qSt), (kAI vFn cI 2 qFn), (kAI vFt cI 32 qFt), (kAI vSg cI 16 qSg), (kAI vAl cI 25 qAl)]) (wt := [(kAI vTo cI 96 qTo), (kAI vPr cI 2 qPr), (kAI vSt cI 2 qSt), (kAI vFn cI 2 qFn), (kAI vFt cI 32 qFt), (kAI vSg cI 16 qSg), (kAI vAl cI 25 qAl), (kX12 hm vFo vSi vIt vMo la vBy vTy (g_62 0) vMi (g_62 1) vPs (g_62 2) vGs fn vFt le vTo kn fe en ca an co vPr vSt vFn sn vSg vAl dr), (kAI vTy cI 3 qTy), (kAI vBy cI 120 qBy), (kAI vMi cI 24 (ga_63 0)), (kAI vPs cI 32 (ga_63 1)), (kAI vGs cI 16 (ga_63 2))]) hP hD hC [0, 1, 2, 3, 4, 5, 6] rfl (by decide +kernel) (by decide +kernel) hk1 hFc hP1 hD1 rfl
  clear hP hD hPc hDc hFc hC hP1 hD1 hK1 hz1 hk1 hvm ht
  obtain ⟨hP, hD⟩ := hJ
  generalize H1 = H at hP hS ⊢
  try dsimp only at hw
  obtain ⟨c_67, c_68, c_69, c_70⟩ := hw
  refine lv_i2l hx₀ hb dX12_digest_22 rfl ?_
  refine lv_ladd hx₀ hb dX12_digest_23 ?_
  refine lv_lstore_n (lv' := [(1, .long ((31 * ((31 * ((31 * ((31 * ((31 * ((31 * (527 + r_1.toInt64)) + r_11.toInt64)) + r_21.toInt64)) + r_31.toInt64)) + r_41.toInt64)) + r_51.toInt64)) + r_61.toInt64)), (3, .int 6), (0, .ref hm)]) hx₀ hb dX12_digest_24 rfl hl (by decide) rfl (fun ls hl => ?_)
  refine lv_iinc (v := 7) (lv' := [(3, .int 7), (1, .long ((31 * ((31 * ((31 * ((31 * ((31 * ((31 * (527 + r_1.toInt64)) + r_11.toInt64)) + r_21.toInt64)) + r_31.toInt64)) + r_41.toInt64)) + r_51.toInt64)) + r_61.toInt64)), (0, .ref hm)]) hx₀ hb dX12_digest_25 hl (k := 1) rfl (by decide +kernel) (by decide) rfl (fun ls hl => ?_)
  refine lv_goto (tgt := 6) hx₀ hb dX12_digest_28 (by decide) ?_
  refine lv_iload_n hx₀ hb dX12_digest_6 rfl (lv_at hl 0 rfl) ?_
  refine lv_bipush (v := 8) hx₀ hb dX12_digest_7 (by decide +kernel) ?_
  refine lv_icmp_ge (tgt := 31) hx₀ hb dX12_digest_9 (by decide) (fun c9 => absurd c9 (by decide +kernel)) (fun _ => ?_)
  refine lv_ldc2 (v := 31) hx₀ hb hown (hts (.constantLong RX12 294 (31)) wd_991) dX12_digest_12 ?_
  refine lv_lload_n hx₀ hb dX12_digest_15 rfl (lv_at hl 1 rfl) ?_
  refine lv_lmul hx₀ hb dX12_digest_16 ?_
  refine lv_aload_n hx₀ hb dX12_digest_17 rfl (lv_at hl 2 rfl) ?_
  refine lv_iload_n hx₀ hb dX12_digest_18 rfl (lv_at hl 0 rfl) ?_
  obtain ⟨hPc, hDc, hFc, hC⟩ := k_cw (wc := [(kX12 hm vFo vSi vIt vMo la vBy vTy (g_62 0) vMi (g_62 1) vPs (g_62 2) vGs fn vFt le vTo kn fe en ca an co vPr vSt vFn sn vSg vAl dr), (kAI vTy cI 3 qTy), (kAI vBy cI 120 qBy), (kAI vMi cI 24 (ga_63 0)), (kAI vPs cI 32 (ga_63 1)), (kAI vGs cI 16 (ga_63 2))]) hP hD hS hA [7, 8, 9, 10, 11, 12] (by decide +kernel) rfl
  refine va_calli (va_runV (As := [.int 7]) (rest := [.long (31 * ((31 * ((31 * ((31 * ((31 * ((31 * ((31 * (527 + r_1.toInt64)) + r_11.toInt64)) + r_21.toInt64)) + r_31.toInt64)) + r_41.toInt64)) + r_51.toInt64)) + r_61.toInt64))]) ⟨hx₀, hb, hml, hown, hts⟩ (g_count l dC dI cI cJ cQ H.size hm 7 vFo vSi vIt vMo la vBy vTy (g_62 0) vMi (g_62 1) vPs (g_62 2) vGs fn vFt le vTo kn fe en ca an co vPr vSt vFn sn vSg vAl dr qTy qBy (ga_63 0) (ga_63 1) (ga_63 2) (hh0) (hh1) (hh2)) (cwV 1 hts (kGV wd_960 wd_992 wd_958 wd_959 wd_5) rfl rfl rfl (by decide +kernel) ⟨Nat.le_of_ble_eq_true rfl, Nat.le_of_ble_eq_true rfl⟩) (k_preV11 (q0 := 0) hK hPc hDc hN rfl) rfl rfl hl.1 rfl (lv_room (Nat.le_of_ble_eq_true rfl)) dX12_digest_19 ⟨by decide +kernel, by decide +kernel⟩) hS (fun q _ h => hFc q h) hFc (fun r_71 u₀ t₀ H1 locs ht hvm hw hB hz1 hk1 hS => ?_)
  obtain ⟨g_72, ga_73, gl_74, gb_75, gp_76⟩ := u₀
  obtain ⟨hP1, hK1, hD1⟩ := hB
  rw [ht] at hP1
  have hJ := k_jn (wr := [(kAI vTo cI 96 qTo), (kAI vPr cI 2 qPr), (kAI vSt cI 2 qSt), (kAI vFn cI 2 qFn), (kAI vFt cI 32 qFt), (kAI vSg cI 16 qSg), (kAI vAl cI 25 qAl)]) (wt := [(kAI vTo cI 96 qTo), (kAI vPr cI 2 qPr), (kAI vSt cI 2 qSt), (kAI vFn cI 2 qFn), (kAI vFt cI 32 qFt), (kAI vSg cI 16 qSg), (kAI vAl cI 25 qAl), (kX12 hm vFo vSi vIt vMo la vBy vTy (g_72 0) vMi (g_72 1) vPs (g_72 2) vGs fn vFt le vTo kn fe en ca an co vPr vSt vFn sn vSg vAl dr), (kAI vTy cI 3 qTy), (kAI vBy cI 120 qBy), (kAI vMi cI 24 (ga_73 0)), (kAI vPs cI 32 (ga_73 1)), (kAI vGs cI 16 (ga_73 2))]) hP hD hC [0, 1, 2, 3, 4, 5, 6] rfl (by decide +kernel) (by decide +kernel) hk1 hFc hP1 hD1 rfl
  clear hP hD hPc hDc hFc hC hP1 hD1 hK1 hz1 hk1 hvm ht
  obtain ⟨hP, hD⟩ := hJ
  generalize H1 = H at hP hS ⊢
  try dsimp only at hw
  obtain ⟨c_77, c_78, c_79, c_80⟩ := hw
  refine lv_i2l hx₀ hb dX12_digest_22 rfl ?_
  refine lv_ladd hx₀ hb dX12_digest_23 ?_
  refine lv_lstore_n (lv' := [(1, .long ((31 * ((31 * ((31 * ((31 * ((31 * ((31 * ((31 * (527 + r_1.toInt64)) + r_11.toInt64)) + r_21.toInt64)) + r_31.toInt64)) + r_41.toInt64)) + r_51.toInt64)) + r_61.toInt64)) + r_71.toInt64)), (3, .int 7), (0, .ref hm)]) hx₀ hb dX12_digest_24 rfl hl (by decide) rfl (fun ls hl => ?_)
  refine lv_iinc (v := 8) (lv' := [(3, .int 8), (1, .long ((31 * ((31 * ((31 * ((31 * ((31 * ((31 * ((31 * (527 + r_1.toInt64)) + r_11.toInt64)) + r_21.toInt64)) + r_31.toInt64)) + r_41.toInt64)) + r_51.toInt64)) + r_61.toInt64)) + r_71.toInt64)), (0, .ref hm)]) hx₀ hb dX12_digest_25 hl (k := 1) rfl (by decide +kernel) (by decide) rfl (fun ls hl => ?_)
  refine lv_goto (tgt := 6) hx₀ hb dX12_digest_28 (by decide) ?_
  refine lv_iload_n hx₀ hb dX12_digest_6 rfl (lv_at hl 0 rfl) ?_
  refine lv_bipush (v := 8) hx₀ hb dX12_digest_7 (by decide +kernel) ?_
  refine lv_icmp_ge (tgt := 31) hx₀ hb dX12_digest_9 (by decide) (fun _ => ?_) (fun c9 => absurd (by decide +kernel) c9)
  refine lv_iconst (v := 0) hx₀ hb dX12_digest_31 (by decide +kernel) ?_
  refine lv_istore_n (lv' := [(3, .int 0), (1, .long ((31 * ((31 * ((31 * ((31 * ((31 * ((31 * ((31 * (527 + r_1.toInt64)) + r_11.toInt64)) + r_21.toInt64)) + r_31.toInt64)) + r_41.toInt64)) + r_51.toInt64)) + r_61.toInt64)) + r_71.toInt64)), (0, .ref hm)]) hx₀ hb dX12_digest_32 rfl hl (by decide) rfl (fun ls hl => ?_)
  refine lv_iload_n hx₀ hb dX12_digest_33 rfl (lv_at hl 0 rfl) ?_
  refine lv_iconst (v := 3) hx₀ hb dX12_digest_34 (by decide +kernel) ?_
  refine lv_icmp_ge (tgt := 57) hx₀ hb dX12_digest_35 (by decide) (fun c9 => absurd c9 (by decide +kernel)) (fun _ => ?_)
  refine lv_ldc2 (v := 31) hx₀ hb hown (hts (.constantLong RX12 294 (31)) wd_991) dX12_digest_38 ?_
  refine lv_lload_n hx₀ hb dX12_digest_41 rfl (lv_at hl 1 rfl) ?_
  refine lv_lmul hx₀ hb dX12_digest_42 ?_
  refine lv_aload_n hx₀ hb dX12_digest_43 rfl (lv_at hl 2 rfl) ?_
  refine lv_iload_n hx₀ hb dX12_digest_44 rfl (lv_at hl 0 rfl) ?_
  obtain ⟨hPc, hDc, hFc, hC⟩ := k_cw (wc := [(kX12 hm vFo vSi vIt vMo la vBy vTy (g_72 0) vMi (g_72 1) vPs (g_72 2) vGs fn vFt le vTo kn fe en ca an co vPr vSt vFn sn vSg vAl dr), (kAI vTy cI 3 qTy), (kAI vBy cI 120 qBy), (kAI vMi cI 24 (ga_73 0)), (kAI vPs cI 32 (ga_73 1)), (kAI vGs cI 16 (ga_73 2))]) hP hD hS hA [7, 8, 9, 10, 11, 12] (by decide +kernel) rfl
  refine va_calli (va_runV (As := [.int 0]) (rest := [.long (31 * ((31 * ((31 * ((31 * ((31 * ((31 * ((31 * ((31 * (527 + r_1.toInt64)) + r_11.toInt64)) + r_21.toInt64)) + r_31.toInt64)) + r_41.toInt64)) + r_51.toInt64)) + r_61.toInt64)) + r_71.toInt64))]) ⟨hx₀, hb, hml, hown, hts⟩ (g_readsText l dC dI cI cJ cQ H.size hm 0 vFo vSi vIt vMo la vBy vTy (g_72 0) vMi (g_72 1) vPs (g_72 2) vGs fn vFt le vTo kn fe en ca an co vPr vSt vFn sn vSg vAl dr qTy qBy (ga_73 0) (ga_73 1) (ga_73 2) (hh0) (hh1) (hh2) (c_78) (c_79) (c_80)) (cwV 1 hts (kGV wd_247 wd_244 wd_245 wd_246 wd_5) rfl rfl rfl (by decide +kernel) ⟨Nat.le_of_ble_eq_true rfl, Nat.le_of_ble_eq_true rfl⟩) (k_preV11 (q0 := 0) hK hPc hDc hN rfl) rfl rfl hl.1 rfl (lv_room (Nat.le_of_ble_eq_true rfl)) dX12_digest_45 ⟨by decide +kernel, by decide +kernel⟩) hS (fun q _ h => hFc q h) hFc (fun r_81 u₀ t₀ H1 locs ht hvm hw hB hz1 hk1 hS => ?_)
  obtain ⟨g_82, ga_83, gl_84, gb_85, gp_86⟩ := u₀
  obtain ⟨hP1, hK1, hD1⟩ := hB
  rw [ht] at hP1
  have hJ := k_jn (wr := [(kAI vTo cI 96 qTo), (kAI vPr cI 2 qPr), (kAI vSt cI 2 qSt), (kAI vFn cI 2 qFn), (kAI vFt cI 32 qFt), (kAI vSg cI 16 qSg), (kAI vAl cI 25 qAl)]) (wt := [(kAI vTo cI 96 qTo), (kAI vPr cI 2 qPr), (kAI vSt cI 2 qSt), (kAI vFn cI 2 qFn), (kAI vFt cI 32 qFt), (kAI vSg cI 16 qSg), (kAI vAl cI 25 qAl), (kX12 hm vFo vSi vIt vMo la vBy vTy (g_82 0) vMi (g_82 1) vPs (g_82 2) vGs fn vFt le vTo kn fe en ca an co vPr vSt vFn sn vSg vAl dr), (kAI vTy cI 3 qTy), (kAI vBy cI 120 qBy), (kAI vMi cI 24 (ga_83 0)), (kAI vPs cI 32 (ga_83 1)), (kAI vGs cI 16 (ga_83 2))]) hP hD hC [0, 1, 2, 3, 4, 5, 6] rfl (by decide +kernel) (by decide +kernel) hk1 hFc hP1 hD1 rfl
  clear hP hD hPc hDc hFc hC hP1 hD1 hK1 hz1 hk1 hvm ht
  obtain ⟨hP, hD⟩ := hJ
  generalize H1 = H at hP hS ⊢
  try dsimp only at hw
  obtain ⟨c_87, c_88, c_89, c_90⟩ := hw
  refine k_topi (v := if (0 : Int32) = 0 then kFt (qTy 0) (qTy 0) (kv4 qBy) else if (0 : Int32) = 1 then kFt (kTh7 (qTy 1)) (qTy 1) (kv7 qBy) else kFt (kTh2 (qTy 2)) (qTy 2) (kv2 qBy)) c_87 ?_
  refine lv_i2l hx₀ hb dX12_digest_48 rfl ?_
  refine lv_ladd hx₀ hb dX12_digest_49 ?_
  refine lv_lstore_n (lv' := [(1, .long ((31 * ((31 * ((31 * ((31 * ((31 * ((31 * ((31 * ((31 * (527 + r_1.toInt64)) + r_11.toInt64)) + r_21.toInt64)) + r_31.toInt64)) + r_41.toInt64)) + r_51.toInt64)) + r_61.toInt64)) + r_71.toInt64)) + ((if (0 : Int32) = 0 then kFt (qTy 0) (qTy 0) (kv4 qBy) else if (0 : Int32) = 1 then kFt (kTh7 (qTy 1)) (qTy 1) (kv7 qBy) else kFt (kTh2 (qTy 2)) (qTy 2) (kv2 qBy)).toInt64))), (3, .int 0), (0, .ref hm)]) hx₀ hb dX12_digest_50 rfl hl (by decide) rfl (fun ls hl => ?_)
  refine lv_iinc (v := 1) (lv' := [(3, .int 1), (1, .long ((31 * ((31 * ((31 * ((31 * ((31 * ((31 * ((31 * ((31 * (527 + r_1.toInt64)) + r_11.toInt64)) + r_21.toInt64)) + r_31.toInt64)) + r_41.toInt64)) + r_51.toInt64)) + r_61.toInt64)) + r_71.toInt64)) + ((if (0 : Int32) = 0 then kFt (qTy 0) (qTy 0) (kv4 qBy) else if (0 : Int32) = 1 then kFt (kTh7 (qTy 1)) (qTy 1) (kv7 qBy) else kFt (kTh2 (qTy 2)) (qTy 2) (kv2 qBy)).toInt64))), (0, .ref hm)]) hx₀ hb dX12_digest_51 hl (k := 1) rfl (by decide +kernel) (by decide) rfl (fun ls hl => ?_)
  refine lv_goto (tgt := 33) hx₀ hb dX12_digest_54 (by decide) ?_
  refine lv_iload_n hx₀ hb dX12_digest_33 rfl (lv_at hl 0 rfl) ?_
  refine lv_iconst (v := 3) hx₀ hb dX12_digest_34 (by decide +kernel) ?_
  refine lv_icmp_ge (tgt := 57) hx₀ hb dX12_digest_35 (by decide) (fun c9 => absurd c9 (by decide +kernel)) (fun _ => ?_)
  refine lv_ldc2 (v := 31) hx₀ hb hown (hts (.constantLong RX12 294 (31)) wd_991) dX12_digest_38 ?_
  refine lv_lload_n hx₀ hb dX12_digest_41 rfl (lv_at hl 1 rfl) ?_
  refine lv_lmul hx₀ hb dX12_digest_42 ?_
  refine lv_aload_n hx₀ hb dX12_digest_43 rfl (lv_at hl 2 rfl) ?_
  refine lv_iload_n hx₀ hb dX12_digest_44 rfl (lv_at hl 0 rfl) ?_
  obtain ⟨hPc, hDc, hFc, hC⟩ := k_cw (wc := [(kX12 hm vFo vSi vIt vMo la vBy vTy (g_82 0) vMi (g_82 1) vPs (g_82 2) vGs fn vFt le vTo kn fe en ca an co vPr vSt vFn sn vSg vAl dr), (kAI vTy cI 3 qTy), (kAI vBy cI 120 qBy), (kAI vMi cI 24 (ga_83 0)), (kAI vPs cI 32 (ga_83 1)), (kAI vGs cI 16 (ga_83 2))]) hP hD hS hA [7, 8, 9, 10, 11, 12] (by decide +kernel) rfl
  refine va_calli (va_runV (As := [.int 1]) (rest := [.long (31 * ((31 * ((31 * ((31 * ((31 * ((31 * ((31 * ((31 * ((31 * (527 + r_1.toInt64)) + r_11.toInt64)) + r_21.toInt64)) + r_31.toInt64)) + r_41.toInt64)) + r_51.toInt64)) + r_61.toInt64)) + r_71.toInt64)) + ((if (0 : Int32) = 0 then kFt (qTy 0) (qTy 0) (kv4 qBy) else if (0 : Int32) = 1 then kFt (kTh7 (qTy 1)) (qTy 1) (kv7 qBy) else kFt (kTh2 (qTy 2)) (qTy 2) (kv2 qBy)).toInt64)))]) ⟨hx₀, hb, hml, hown, hts⟩ (g_readsText l dC dI cI cJ cQ H.size hm 1 vFo vSi vIt vMo la vBy vTy (g_82 0) vMi (g_82 1) vPs (g_82 2) vGs fn vFt le vTo kn fe en ca an co vPr vSt vFn sn vSg vAl dr qTy qBy (ga_83 0) (ga_83 1) (ga_83 2) (hh0) (hh1) (hh2) (c_88) (c_89) (c_90)) (cwV 1 hts (kGV wd_247 wd_244 wd_245 wd_246 wd_5) rfl rfl rfl (by decide +kernel) ⟨Nat.le_of_ble_eq_true rfl, Nat.le_of_ble_eq_true rfl⟩) (k_preV11 (q0 := 0) hK hPc hDc hN rfl) rfl rfl hl.1 rfl (lv_room (Nat.le_of_ble_eq_true rfl)) dX12_digest_45 ⟨by decide +kernel, by decide +kernel⟩) hS (fun q _ h => hFc q h) hFc (fun r_91 u₀ t₀ H1 locs ht hvm hw hB hz1 hk1 hS => ?_)
  obtain ⟨g_92, ga_93, gl_94, gb_95, gp_96⟩ := u₀
  obtain ⟨hP1, hK1, hD1⟩ := hB
  rw [ht] at hP1
  have hJ := k_jn (wr := [(kAI vTo cI 96 qTo), (kAI vPr cI 2 qPr), (kAI vSt cI 2 qSt), (kAI vFn cI 2 qFn), (kAI vFt cI 32 qFt), (kAI vSg cI 16 qSg), (kAI vAl cI 25 qAl)]) (wt := [(kAI vTo cI 96 qTo), (kAI vPr cI 2 qPr), (kAI vSt cI 2 qSt), (kAI vFn cI 2 qFn), (kAI vFt cI 32 qFt), (kAI vSg cI 16 qSg), (kAI vAl cI 25 qAl), (kX12 hm vFo vSi vIt vMo la vBy vTy (g_92 0) vMi (g_92 1) vPs (g_92 2) vGs fn vFt le vTo kn fe en ca an co vPr vSt vFn sn vSg vAl dr), (kAI vTy cI 3 qTy), (kAI vBy cI 120 qBy), (kAI vMi cI 24 (ga_93 0)), (kAI vPs cI 32 (ga_93 1)), (kAI vGs cI 16 (ga_93 2))]) hP hD hC [0, 1, 2, 3, 4, 5, 6] rfl (by decide +kernel) (by decide +kernel) hk1 hFc hP1 hD1 rfl
  clear hP hD hPc hDc hFc hC hP1 hD1 hK1 hz1 hk1 hvm ht
  obtain ⟨hP, hD⟩ := hJ
  generalize H1 = H at hP hS ⊢
  try dsimp only at hw
  obtain ⟨c_97, c_98, c_99, c_100⟩ := hw
  refine k_topi (v := if (1 : Int32) = 0 then kFt (qTy 0) (qTy 0) (kv4 qBy) else if (1 : Int32) = 1 then kFt (kTh7 (qTy 1)) (qTy 1) (kv7 qBy) else kFt (kTh2 (qTy 2)) (qTy 2) (kv2 qBy)) c_97 ?_
  refine lv_i2l hx₀ hb dX12_digest_48 rfl ?_
  refine lv_ladd hx₀ hb dX12_digest_49 ?_
  refine lv_lstore_n (lv' := [(1, .long ((31 * ((31 * ((31 * ((31 * ((31 * ((31 * ((31 * ((31 * ((31 * (527 + r_1.toInt64)) + r_11.toInt64)) + r_21.toInt64)) + r_31.toInt64)) + r_41.toInt64)) + r_51.toInt64)) + r_61.toInt64)) + r_71.toInt64)) + ((if (0 : Int32) = 0 then kFt (qTy 0) (qTy 0) (kv4 qBy) else if (0 : Int32) = 1 then kFt (kTh7 (qTy 1)) (qTy 1) (kv7 qBy) else kFt (kTh2 (qTy 2)) (qTy 2) (kv2 qBy)).toInt64))) + ((if (1 : Int32) = 0 then kFt (qTy 0) (qTy 0) (kv4 qBy) else if (1 : Int32) = 1 then kFt (kTh7 (qTy 1)) (qTy 1) (kv7 qBy) else kFt (kTh2 (qTy 2)) (qTy 2) (kv2 qBy)).toInt64))), (3, .int 1), (0, .ref hm)]) hx₀ hb dX12_digest_50 rfl hl (by decide) rfl (fun ls hl => ?_)
  refine lv_iinc (v := 2) (lv' := [(3, .int 2), (1, .long ((31 * ((31 * ((31 * ((31 * ((31 * ((31 * ((31 * ((31 * ((31 * (527 + r_1.toInt64)) + r_11.toInt64)) + r_21.toInt64)) + r_31.toInt64)) + r_41.toInt64)) + r_51.toInt64)) + r_61.toInt64)) + r_71.toInt64)) + ((if (0 : Int32) = 0 then kFt (qTy 0) (qTy 0) (kv4 qBy) else if (0 : Int32) = 1 then kFt (kTh7 (qTy 1)) (qTy 1) (kv7 qBy) else kFt (kTh2 (qTy 2)) (qTy 2) (kv2 qBy)).toInt64))) + ((if (1 : Int32) = 0 then kFt (qTy 0) (qTy 0) (kv4 qBy) else if (1 : Int32) = 1 then kFt (kTh7 (qTy 1)) (qTy 1) (kv7 qBy) else kFt (kTh2 (qTy 2)) (qTy 2) (kv2 qBy)).toInt64))), (0, .ref hm)]) hx₀ hb dX12_digest_51 hl (k := 1) rfl (by decide +kernel) (by decide) rfl (fun ls hl => ?_)
  refine lv_goto (tgt := 33) hx₀ hb dX12_digest_54 (by decide) ?_
  refine lv_iload_n hx₀ hb dX12_digest_33 rfl (lv_at hl 0 rfl) ?_
  refine lv_iconst (v := 3) hx₀ hb dX12_digest_34 (by decide +kernel) ?_
  refine lv_icmp_ge (tgt := 57) hx₀ hb dX12_digest_35 (by decide) (fun c9 => absurd c9 (by decide +kernel)) (fun _ => ?_)
  refine lv_ldc2 (v := 31) hx₀ hb hown (hts (.constantLong RX12 294 (31)) wd_991) dX12_digest_38 ?_
  refine lv_lload_n hx₀ hb dX12_digest_41 rfl (lv_at hl 1 rfl) ?_
  refine lv_lmul hx₀ hb dX12_digest_42 ?_
  refine lv_aload_n hx₀ hb dX12_digest_43 rfl (lv_at hl 2 rfl) ?_
  refine lv_iload_n hx₀ hb dX12_digest_44 rfl (lv_at hl 0 rfl) ?_
  obtain ⟨hPc, hDc, hFc, hC⟩ := k_cw (wc := [(kX12 hm vFo vSi vIt vMo la vBy vTy (g_92 0) vMi (g_92 1) vPs (g_92 2) vGs fn vFt le vTo kn fe en ca an co vPr vSt vFn sn vSg vAl dr), (kAI vTy cI 3 qTy), (kAI vBy cI 120 qBy), (kAI vMi cI 24 (ga_93 0)), (kAI vPs cI 32 (ga_93 1)), (kAI vGs cI 16 (ga_93 2))]) hP hD hS hA [7, 8, 9, 10, 11, 12] (by decide +kernel) rfl
  refine va_calli (va_runV (As := [.int 2]) (rest := [.long (31 * ((31 * ((31 * ((31 * ((31 * ((31 * ((31 * ((31 * ((31 * ((31 * (527 + r_1.toInt64)) + r_11.toInt64)) + r_21.toInt64)) + r_31.toInt64)) + r_41.toInt64)) + r_51.toInt64)) + r_61.toInt64)) + r_71.toInt64)) + ((if (0 : Int32) = 0 then kFt (qTy 0) (qTy 0) (kv4 qBy) else if (0 : Int32) = 1 then kFt (kTh7 (qTy 1)) (qTy 1) (kv7 qBy) else kFt (kTh2 (qTy 2)) (qTy 2) (kv2 qBy)).toInt64))) + ((if (1 : Int32) = 0 then kFt (qTy 0) (qTy 0) (kv4 qBy) else if (1 : Int32) = 1 then kFt (kTh7 (qTy 1)) (qTy 1) (kv7 qBy) else kFt (kTh2 (qTy 2)) (qTy 2) (kv2 qBy)).toInt64)))]) ⟨hx₀, hb, hml, hown, hts⟩ (g_readsText l dC dI cI cJ cQ H.size hm 2 vFo vSi vIt vMo la vBy vTy (g_92 0) vMi (g_92 1) vPs (g_92 2) vGs fn vFt le vTo kn fe en ca an co vPr vSt vFn sn vSg vAl dr qTy qBy (ga_93 0) (ga_93 1) (ga_93 2) (hh0) (hh1) (hh2) (c_98) (c_99) (c_100)) (cwV 1 hts (kGV wd_247 wd_244 wd_245 wd_246 wd_5) rfl rfl rfl (by decide +kernel) ⟨Nat.le_of_ble_eq_true rfl, Nat.le_of_ble_eq_true rfl⟩) (k_preV11 (q0 := 0) hK hPc hDc hN rfl) rfl rfl hl.1 rfl (lv_room (Nat.le_of_ble_eq_true rfl)) dX12_digest_45 ⟨by decide +kernel, by decide +kernel⟩) hS (fun q _ h => hFc q h) hFc (fun r_101 u₀ t₀ H1 locs ht hvm hw hB hz1 hk1 hS => ?_)
  obtain ⟨g_102, ga_103, gl_104, gb_105, gp_106⟩ := u₀
  obtain ⟨hP1, hK1, hD1⟩ := hB
  rw [ht] at hP1
  have hJ := k_jn (wr := [(kAI vTo cI 96 qTo), (kAI vPr cI 2 qPr), (kAI vSt cI 2 qSt), (kAI vFn cI 2 qFn), (kAI vFt cI 32 qFt), (kAI vSg cI 16 qSg), (kAI vAl cI 25 qAl)]) (wt := [(kAI vTo cI 96 qTo), (kAI vPr cI 2 qPr), (kAI vSt cI 2 qSt), (kAI vFn cI 2 qFn), (kAI vFt cI 32 qFt), (kAI vSg cI 16 qSg), (kAI vAl cI 25 qAl), (kX12 hm vFo vSi vIt vMo la vBy vTy (g_102 0) vMi (g_102 1) vPs (g_102 2) vGs fn vFt le vTo kn fe en ca an co vPr vSt vFn sn vSg vAl dr), (kAI vTy cI 3 qTy), (kAI vBy cI 120 qBy), (kAI vMi cI 24 (ga_103 0)), (kAI vPs cI 32 (ga_103 1)), (kAI vGs cI 16 (ga_103 2))]) hP hD hC [0, 1, 2, 3, 4, 5, 6] rfl (by decide +kernel) (by decide +kernel) hk1 hFc hP1 hD1 rfl
  clear hP hD hPc hDc hFc hC hP1 hD1 hK1 hz1 hk1 hvm ht
  obtain ⟨hP, hD⟩ := hJ
  generalize H1 = H at hP hS ⊢
  try dsimp only at hw
  obtain ⟨c_107, c_108, c_109, c_110⟩ := hw
  refine k_topi (v := if (2 : Int32) = 0 then kFt (qTy 0) (qTy 0) (kv4 qBy) else if (2 : Int32) = 1 then kFt (kTh7 (qTy 1)) (qTy 1) (kv7 qBy) else kFt (kTh2 (qTy 2)) (qTy 2) (kv2 qBy)) c_107 ?_
  refine lv_i2l hx₀ hb dX12_digest_48 rfl ?_
  refine lv_ladd hx₀ hb dX12_digest_49 ?_
  refine lv_lstore_n (lv' := [(1, .long ((31 * ((31 * ((31 * ((31 * ((31 * ((31 * ((31 * ((31 * ((31 * ((31 * (527 + r_1.toInt64)) + r_11.toInt64)) + r_21.toInt64)) + r_31.toInt64)) + r_41.toInt64)) + r_51.toInt64)) + r_61.toInt64)) + r_71.toInt64)) + ((if (0 : Int32) = 0 then kFt (qTy 0) (qTy 0) (kv4 qBy) else if (0 : Int32) = 1 then kFt (kTh7 (qTy 1)) (qTy 1) (kv7 qBy) else kFt (kTh2 (qTy 2)) (qTy 2) (kv2 qBy)).toInt64))) + ((if (1 : Int32) = 0 then kFt (qTy 0) (qTy 0) (kv4 qBy) else if (1 : Int32) = 1 then kFt (kTh7 (qTy 1)) (qTy 1) (kv7 qBy) else kFt (kTh2 (qTy 2)) (qTy 2) (kv2 qBy)).toInt64))) + ((if (2 : Int32) = 0 then kFt (qTy 0) (qTy 0) (kv4 qBy) else if (2 : Int32) = 1 then kFt (kTh7 (qTy 1)) (qTy 1) (kv7 qBy) else kFt (kTh2 (qTy 2)) (qTy 2) (kv2 qBy)).toInt64))), (3, .int 2), (0, .ref hm)]) hx₀ hb dX12_digest_50 rfl hl (by decide) rfl (fun ls hl => ?_)
  refine lv_iinc (v := 3) (lv' := [(3, .int 3), (1, .long ((31 * ((31 * ((31 * ((31 * ((31 * ((31 * ((31 * ((31 * ((31 * ((31 * (527 + r_1.toInt64)) + r_11.toInt64)) + r_21.toInt64)) + r_31.toInt64)) + r_41.toInt64)) + r_51.toInt64)) + r_61.toInt64)) + r_71.toInt64)) + ((if (0 : Int32) = 0 then kFt (qTy 0) (qTy 0) (kv4 qBy) else if (0 : Int32) = 1 then kFt (kTh7 (qTy 1)) (qTy 1) (kv7 qBy) else kFt (kTh2 (qTy 2)) (qTy 2) (kv2 qBy)).toInt64))) + ((if (1 : Int32) = 0 then kFt (qTy 0) (qTy 0) (kv4 qBy) else if (1 : Int32) = 1 then kFt (kTh7 (qTy 1)) (qTy 1) (kv7 qBy) else kFt (kTh2 (qTy 2)) (qTy 2) (kv2 qBy)).toInt64))) + ((if (2 : Int32) = 0 then kFt (qTy 0) (qTy 0) (kv4 qBy) else if (2 : Int32) = 1 then kFt (kTh7 (qTy 1)) (qTy 1) (kv7 qBy) else kFt (kTh2 (qTy 2)) (qTy 2) (kv2 qBy)).toInt64))), (0, .ref hm)]) hx₀ hb dX12_digest_51 hl (k := 1) rfl (by decide +kernel) (by decide) rfl (fun ls hl => ?_)
  refine lv_goto (tgt := 33) hx₀ hb dX12_digest_54 (by decide) ?_
  refine lv_iload_n hx₀ hb dX12_digest_33 rfl (lv_at hl 0 rfl) ?_
  refine lv_iconst (v := 3) hx₀ hb dX12_digest_34 (by decide +kernel) ?_
  refine lv_icmp_ge (tgt := 57) hx₀ hb dX12_digest_35 (by decide) (fun _ => ?_) (fun c9 => absurd (by decide +kernel) c9)
  refine lv_iconst (v := 0) hx₀ hb dX12_digest_57 (by decide +kernel) ?_
  refine lv_istore_n (lv' := [(3, .int 0), (1, .long ((31 * ((31 * ((31 * ((31 * ((31 * ((31 * ((31 * ((31 * ((31 * ((31 * (527 + r_1.toInt64)) + r_11.toInt64)) + r_21.toInt64)) + r_31.toInt64)) + r_41.toInt64)) + r_51.toInt64)) + r_61.toInt64)) + r_71.toInt64)) + ((if (0 : Int32) = 0 then kFt (qTy 0) (qTy 0) (kv4 qBy) else if (0 : Int32) = 1 then kFt (kTh7 (qTy 1)) (qTy 1) (kv7 qBy) else kFt (kTh2 (qTy 2)) (qTy 2) (kv2 qBy)).toInt64))) + ((if (1 : Int32) = 0 then kFt (qTy 0) (qTy 0) (kv4 qBy) else if (1 : Int32) = 1 then kFt (kTh7 (qTy 1)) (qTy 1) (kv7 qBy) else kFt (kTh2 (qTy 2)) (qTy 2) (kv2 qBy)).toInt64))) + ((if (2 : Int32) = 0 then kFt (qTy 0) (qTy 0) (kv4 qBy) else if (2 : Int32) = 1 then kFt (kTh7 (qTy 1)) (qTy 1) (kv7 qBy) else kFt (kTh2 (qTy 2)) (qTy 2) (kv2 qBy)).toInt64))), (0, .ref hm)]) hx₀ hb dX12_digest_58 rfl hl (by decide) rfl (fun ls hl => ?_)
  refine (?keyz111 : ∀ (jz111 : Nat) (hhz111 : Int64) (iz111 : Int32) (H : Heap) (locs : List Loc) (ls : Array Slot), (0 ≤ iz111) → (((g_102 0).toInt - iz111.toInt).toNat = jz111) → va_P (dC, dI) vwCl [(kAI vTo cI 96 qTo), (kAI vPr cI 2 qPr), (kAI vSt cI 2 qSt), (kAI vFn cI 2 qFn), (kAI vFt cI 32 qFt), (kAI vSg cI 16 qSg), (kAI vAl cI 25 qAl), (kX12 hm vFo vSi vIt vMo la vBy vTy (g_102 0) vMi (g_102 1) vPs (g_102 2) vGs fn vFt le vTo kn fe en ca an co vPr vSt vFn sn vSg vAl dr), (kAI vTy cI 3 qTy), (kAI vBy cI 120 qBy), (kAI vMi cI 24 (ga_103 0)), (kAI vPs cI 32 (ga_103 1)), (kAI vGs cI 16 (ga_103 2))] H → va_D A [(kAI vTo cI 96 qTo), (kAI vPr cI 2 qPr), (kAI vSt cI 2 qSt), (kAI vFn cI 2 qFn), (kAI vFt cI 32 qFt), (kAI vSg cI 16 qSg), (kAI vAl cI 25 qAl), (kX12 hm vFo vSi vIt vMo la vBy vTy (g_102 0) vMi (g_102 1) vPs (g_102 2) vGs fn vFt le vTo kn fe en ca an co vPr vSt vFn sn vSg vAl dr), (kAI vTy cI 3 qTy), (kAI vBy cI 120 qBy), (kAI vMi cI 24 (ga_103 0)), (kAI vPs cI 32 (ga_103 1)), (kAI vGs cI 16 (ga_103 2))] → va_S A s₀.heap H locs → lv_has ls 5 [(3, .int iz111), (1, .long hhz111), (0, .ref hm)] → W p₀ l e₀ _ s₀ m₀ _ below meth c₀ H locs _ _ _ (F0 m₀ 59 ls [])) _ ((31 * ((31 * ((31 * ((31 * ((31 * ((31 * ((31 * ((31 * ((31 * ((31 * (527 + r_1.toInt64)) + r_11.toInt64)) + r_21.toInt64)) + r_31.toInt64)) + r_41.toInt64)) + r_51.toInt64)) + r_61.toInt64)) + r_71.toInt64)) + ((if (0 : Int32) = 0 then kFt (qTy 0) (qTy 0) (kv4 qBy) else if (0 : Int32) = 1 then kFt (kTh7 (qTy 1)) (qTy 1) (kv7 qBy) else kFt (kTh2 (qTy 2)) (qTy 2) (kv2 qBy)).toInt64))) + ((if (1 : Int32) = 0 then kFt (qTy 0) (qTy 0) (kv4 qBy) else if (1 : Int32) = 1 then kFt (kTh7 (qTy 1)) (qTy 1) (kv7 qBy) else kFt (kTh2 (qTy 2)) (qTy 2) (kv2 qBy)).toInt64))) + ((if (2 : Int32) = 0 then kFt (qTy 0) (qTy 0) (kv4 qBy) else if (2 : Int32) = 1 then kFt (kTh7 (qTy 1)) (qTy 1) (kv7 qBy) else kFt (kTh2 (qTy 2)) (qTy 2) (kv2 qBy)).toInt64)) (0 : Int32) H locs ls (show 0 ≤ (0 : Int32) from (by decide)) rfl hP hD hS hl
  clear hP hD hS hl
  intro jz111
  induction jz111 using Nat.strongRecOn with
  | ind jz111 ihz111 =>
    intro hhz111 iz111 H locs ls hiz111_0 hjz111 hP hD hS hl
    refine lv_iload_n hx₀ hb dX12_digest_59 rfl (lv_at hl 0 rfl) ?_
    refine lv_aload_n hx₀ hb dX12_digest_60 rfl (lv_at hl 2 rfl) ?_
    refine va_get (D := (dC, dI)) (ci := 11) (v := .int (g_102 0)) (C := RX12) (T := TX12) (N := 30) hx₀ hb hts inlX12 hown hK hP 7 rfl rfl 7 (by decide) (hts (.fieldLink RX12 107 "BittenStickModel" "miles" "I") wd_252) (fun _ h9 => h9) rfl dX12_digest_61 ?_
    refine lv_icmp_ge (tgt := 87) hx₀ hb dX12_digest_64 (by decide) (fun c_112 => ?_) (fun c_112 => ?_)
    · refine lv_iconst (v := 0) hx₀ hb dX12_digest_87 (by decide +kernel) ?_
      refine lv_istore_n (lv' := [(3, .int 0), (1, .long hhz111), (0, .ref hm)]) hx₀ hb dX12_digest_88 rfl hl (by decide) rfl (fun ls hl => ?_)
      refine (?keyz113 : ∀ (jz113 : Nat) (hhz113 : Int64) (pz113 : Int32) (knz113 : Int32) (fez113 : Int32) (enz113 : Int32) (anz113 : Int32) (coz113 : Int32) (qtz113 : Nat → Int32) (qpz113 : Nat → Int32) (qsz113 : Nat → Int32) (qfz113 : Nat → Int32) (qpsz113 : Nat → Int32) (qalz113 : Nat → Int32) (H : Heap) (locs : List Loc) (ls : Array Slot), (0 ≤ pz113) → (k_bd 2 0 7 qpz113) → (0 ≤ fez113 ∧ fez113 ≤ 24) → (enz113 = 0 ∨ knz113 = 0 ∨ fez113 ≤ 23) → (0 ≤ knz113 ∧ knz113 ≤ 24) → (((g_102 1).toInt - pz113.toInt).toNat = jz113) → va_P (dC, dI) vwCl [(kAI vTo cI 96 qtz113), (kAI vPr cI 2 qpz113), (kAI vSt cI 2 qsz113), (kAI vFn cI 2 qfz113), (kAI vFt cI 32 qFt), (kAI vSg cI 16 qSg), (kAI vAl cI 25 qalz113), (kX12 hm vFo vSi vIt vMo la vBy vTy (g_102 0) vMi (g_102 1) vPs (g_102 2) vGs fn vFt le vTo knz113 fez113 enz113 ca anz113 coz113 vPr vSt vFn sn vSg vAl dr), (kAI vTy cI 3 qTy), (kAI vBy cI 120 qBy), (kAI vMi cI 24 (ga_103 0)), (kAI vPs cI 32 qpsz113), (kAI vGs cI 16 (ga_103 2))] H → va_D A [(kAI vTo cI 96 qtz113), (kAI vPr cI 2 qpz113), (kAI vSt cI 2 qsz113), (kAI vFn cI 2 qfz113), (kAI vFt cI 32 qFt), (kAI vSg cI 16 qSg), (kAI vAl cI 25 qalz113), (kX12 hm vFo vSi vIt vMo la vBy vTy (g_102 0) vMi (g_102 1) vPs (g_102 2) vGs fn vFt le vTo knz113 fez113 enz113 ca anz113 coz113 vPr vSt vFn sn vSg vAl dr), (kAI vTy cI 3 qTy), (kAI vBy cI 120 qBy), (kAI vMi cI 24 (ga_103 0)), (kAI vPs cI 32 qpsz113), (kAI vGs cI 16 (ga_103 2))] → va_S A s₀.heap H locs → lv_has ls 5 [(3, .int pz113), (1, .long hhz113), (0, .ref hm)] → W p₀ l e₀ _ s₀ m₀ _ below meth c₀ H locs _ _ _ (F0 m₀ 89 ls [])) _ hhz111 (0 : Int32) kn fe en an co _ _ _ _ _ _ H locs ls (show 0 ≤ (0 : Int32) from (by decide)) (hh3) (hh4) (hh5) (hh6) rfl hP hD hS hl
      clear hP hD hS hl
      intro jz113
      induction jz113 using Nat.strongRecOn with
      | ind jz113 ihz113 =>
        intro hhz113 pz113 knz113 fez113 enz113 anz113 coz113 qtz113 qpz113 qsz113 qfz113 qpsz113 qalz113 H locs ls hiz113_0 hiz113_1 hiz113_2 hiz113_3 hiz113_4 hjz113 hP hD hS hl
        refine lv_iload_n hx₀ hb dX12_digest_89 rfl (lv_at hl 0 rfl) ?_
        refine lv_aload_n hx₀ hb dX12_digest_90 rfl (lv_at hl 2 rfl) ?_
        refine va_get (D := (dC, dI)) (ci := 11) (v := .int (g_102 1)) (C := RX12) (T := TX12) (N := 30) hx₀ hb hts inlX12 hown hK hP 7 rfl rfl 9 (by decide) (hts (.fieldLink RX12 116 "BittenStickModel" "passengers" "I") wd_265) (fun _ h9 => h9) rfl dX12_digest_91 ?_
        refine lv_icmp_ge (tgt := 163) hx₀ hb dX12_digest_94 (by decide) (fun c_114 => ?_) (fun c_114 => ?_)
        · refine lv_iconst (v := 0) hx₀ hb dX12_digest_163 (by decide +kernel) ?_
          refine lv_istore_n (lv' := [(3, .int 0), (1, .long hhz113), (0, .ref hm)]) hx₀ hb dX12_digest_164 rfl hl (by decide) rfl (fun ls hl => ?_)
          refine (?keyz115 : ∀ (jz115 : Nat) (hhz115 : Int64) (iz115 : Int32) (H : Heap) (locs : List Loc) (ls : Array Slot), (0 ≤ iz115) → (((g_102 2).toInt - iz115.toInt).toNat = jz115) → va_P (dC, dI) vwCl [(kAI vTo cI 96 qtz113), (kAI vPr cI 2 qpz113), (kAI vSt cI 2 qsz113), (kAI vFn cI 2 qfz113), (kAI vFt cI 32 qFt), (kAI vSg cI 16 qSg), (kAI vAl cI 25 qalz113), (kX12 hm vFo vSi vIt vMo la vBy vTy (g_102 0) vMi (g_102 1) vPs (g_102 2) vGs fn vFt le vTo knz113 fez113 enz113 ca anz113 coz113 vPr vSt vFn sn vSg vAl dr), (kAI vTy cI 3 qTy), (kAI vBy cI 120 qBy), (kAI vMi cI 24 (ga_103 0)), (kAI vPs cI 32 qpsz113), (kAI vGs cI 16 (ga_103 2))] H → va_D A [(kAI vTo cI 96 qtz113), (kAI vPr cI 2 qpz113), (kAI vSt cI 2 qsz113), (kAI vFn cI 2 qfz113), (kAI vFt cI 32 qFt), (kAI vSg cI 16 qSg), (kAI vAl cI 25 qalz113), (kX12 hm vFo vSi vIt vMo la vBy vTy (g_102 0) vMi (g_102 1) vPs (g_102 2) vGs fn vFt le vTo knz113 fez113 enz113 ca anz113 coz113 vPr vSt vFn sn vSg vAl dr), (kAI vTy cI 3 qTy), (kAI vBy cI 120 qBy), (kAI vMi cI 24 (ga_103 0)), (kAI vPs cI 32 qpsz113), (kAI vGs cI 16 (ga_103 2))] → va_S A s₀.heap H locs → lv_has ls 5 [(3, .int iz115), (1, .long hhz115), (0, .ref hm)] → W p₀ l e₀ _ s₀ m₀ _ below meth c₀ H locs _ _ _ (F0 m₀ 165 ls [])) _ hhz113 (0 : Int32) H locs ls (show 0 ≤ (0 : Int32) from (by decide)) rfl hP hD hS hl
          clear hP hD hS hl
          intro jz115
          induction jz115 using Nat.strongRecOn with
          | ind jz115 ihz115 =>
            intro hhz115 iz115 H locs ls hiz115_0 hjz115 hP hD hS hl
            refine lv_iload_n hx₀ hb dX12_digest_165 rfl (lv_at hl 0 rfl) ?_
            refine lv_aload_n hx₀ hb dX12_digest_166 rfl (lv_at hl 2 rfl) ?_
            refine va_get (D := (dC, dI)) (ci := 11) (v := .int (g_102 2)) (C := RX12) (T := TX12) (N := 30) hx₀ hb hts inlX12 hown hK hP 7 rfl rfl 11 (by decide) (hts (.fieldLink RX12 122 "BittenStickModel" "geese" "I") wd_277) (fun _ h9 => h9) rfl dX12_digest_167 ?_
            refine lv_icmp_ge (tgt := 213) hx₀ hb dX12_digest_170 (by decide) (fun c_116 => ?_) (fun c_116 => ?_)
            · refine lv_iconst (v := 0) hx₀ hb dX12_digest_213 (by decide +kernel) ?_
              refine lv_istore_n (lv' := [(3, .int 0), (1, .long hhz115), (0, .ref hm)]) hx₀ hb dX12_digest_214 rfl hl (by decide) rfl (fun ls hl => ?_)
              refine (?keyz117 : ∀ (jz117 : Nat) (hhz117 : Int64) (fz117 : Int32) (knz117 : Int32) (fez117 : Int32) (enz117 : Int32) (anz117 : Int32) (coz117 : Int32) (miz117 : Int32) (pnz117 : Int32) (gnz117 : Int32) (caz117 : Int32) (qtz117 : Nat → Int32) (qpz117 : Nat → Int32) (qsz117 : Nat → Int32) (qfz117 : Nat → Int32) (qmiz117 : Nat → Int32) (qpsz117 : Nat → Int32) (qgsz117 : Nat → Int32) (qalz117 : Nat → Int32) (H : Heap) (locs : List Loc) (ls : Array Slot), (0 ≤ fz117 ∧ fz117 ≤ fn) → (k_bd 2 0 7 qpz117) → (0 ≤ fez117 ∧ fez117 ≤ 24) → (enz117 = 0 ∨ knz117 = 0 ∨ fez117 ≤ 23) → (0 ≤ knz117 ∧ knz117 ≤ 24) → (0 ≤ miz117 ∧ miz117 ≤ 24) → (0 ≤ pnz117 ∧ pnz117 ≤ 8) → (0 ≤ gnz117 ∧ gnz117 ≤ 8) → (caz117 = 16777215) → ((fn.toInt - fz117.toInt).toNat = jz117) → va_P (dC, dI) vwCl [(kAI vTo cI 96 qtz117), (kAI vPr cI 2 qpz117), (kAI vSt cI 2 qsz117), (kAI vFn cI 2 qfz117), (kAI vFt cI 32 qFt), (kAI vSg cI 16 qSg), (kAI vAl cI 25 qalz117), (kX12 hm vFo vSi vIt vMo la vBy vTy miz117 vMi pnz117 vPs gnz117 vGs fn vFt le vTo knz117 fez117 enz117 caz117 anz117 coz117 vPr vSt vFn sn vSg vAl dr), (kAI vTy cI 3 qTy), (kAI vBy cI 120 qBy), (kAI vMi cI 24 qmiz117), (kAI vPs cI 32 qpsz117), (kAI vGs cI 16 qgsz117)] H → va_D A [(kAI vTo cI 96 qtz117), (kAI vPr cI 2 qpz117), (kAI vSt cI 2 qsz117), (kAI vFn cI 2 qfz117), (kAI vFt cI 32 qFt), (kAI vSg cI 16 qSg), (kAI vAl cI 25 qalz117), (kX12 hm vFo vSi vIt vMo la vBy vTy miz117 vMi pnz117 vPs gnz117 vGs fn vFt le vTo knz117 fez117 enz117 caz117 anz117 coz117 vPr vSt vFn sn vSg vAl dr), (kAI vTy cI 3 qTy), (kAI vBy cI 120 qBy), (kAI vMi cI 24 qmiz117), (kAI vPs cI 32 qpsz117), (kAI vGs cI 16 qgsz117)] → va_S A s₀.heap H locs → lv_has ls 5 [(3, .int fz117), (1, .long hhz117), (0, .ref hm)] → W p₀ l e₀ _ s₀ m₀ _ below meth c₀ H locs _ _ _ (F0 m₀ 215 ls [])) _ hhz115 (0 : Int32) knz113 fez113 enz113 anz113 coz113 (g_102 0) (g_102 1) (g_102 2) ca _ _ _ _ _ _ _ _ H locs ls (show 0 ≤ (0 : Int32) ∧ (0 : Int32) ≤ fn from ⟨(by decide), hh7.1⟩) (hiz113_1) (hiz113_2) (hiz113_3) (hiz113_4) (c_108) (c_109) (c_110) (hh12) rfl hP hD hS hl
              clear hP hD hS hl
              intro jz117
              induction jz117 using Nat.strongRecOn with
              | ind jz117 ihz117 =>
                intro hhz117 fz117 knz117 fez117 enz117 anz117 coz117 miz117 pnz117 gnz117 caz117 qtz117 qpz117 qsz117 qfz117 qmiz117 qpsz117 qgsz117 qalz117 H locs ls hiz117_0 hiz117_1 hiz117_2 hiz117_3 hiz117_4 hiz117_5 hiz117_6 hiz117_7 hiz117_8 hjz117 hP hD hS hl
                refine lv_iload_n hx₀ hb dX12_digest_215 rfl (lv_at hl 0 rfl) ?_
                refine lv_aload_n hx₀ hb dX12_digest_216 rfl (lv_at hl 2 rfl) ?_
                refine va_get (D := (dC, dI)) (ci := 11) (v := .int fn) (C := RX12) (T := TX12) (N := 30) hx₀ hb hts inlX12 hown hK hP 7 rfl rfl 13 (by decide) (hts (.fieldLink RX12 159 "BittenStickModel" "flights" "I") wd_364) (fun _ h9 => h9) rfl dX12_digest_217 ?_
                refine lv_icmp_ge (tgt := 236) hx₀ hb dX12_digest_220 (by decide) (fun c_118 => ?_) (fun c_118 => ?_)
                · refine lv_ldc2 (v := 31) hx₀ hb hown (hts (.constantLong RX12 294 (31)) wd_991) dX12_digest_236 ?_
                  refine lv_lload_n hx₀ hb dX12_digest_239 rfl (lv_at hl 1 rfl) ?_
                  refine lv_lmul hx₀ hb dX12_digest_240 ?_
                  refine lv_aload_n hx₀ hb dX12_digest_241 rfl (lv_at hl 2 rfl) ?_
                  obtain ⟨hPc, hDc, hFc, hC⟩ := k_cw (wc := [(kX12 hm vFo vSi vIt vMo la vBy vTy miz117 vMi pnz117 vPs gnz117 vGs fn vFt le vTo knz117 fez117 enz117 caz117 anz117 coz117 vPr vSt vFn sn vSg vAl dr), (kAI vMi cI 24 qmiz117), (kAI vPs cI 32 qpsz117), (kAI vGs cI 16 qgsz117), (kAI vTo cI 96 qtz117), (kAI vPr cI 2 qpz117), (kAI vSt cI 2 qsz117), (kAI vFn cI 2 qfz117), (kAI vFt cI 32 qFt)]) hP hD hS hA [7, 10, 11, 12, 0, 1, 2, 3, 4] (by decide +kernel) rfl
                  refine va_calli (va_runV (As := []) (rest := [.long (31 * hhz117)]) ⟨hx₀, hb, hml, hown, hts⟩ (g_farthestNow l dC dI cI cJ cQ H.size hm vFo vSi vIt vMo la vBy vTy miz117 vMi pnz117 vPs gnz117 vGs fn vFt le vTo knz117 fez117 enz117 caz117 anz117 coz117 vPr vSt vFn sn vSg vAl dr qmiz117 qpsz117 qgsz117 qtz117 qpz117 qsz117 qfz117 qFt (hiz117_5) (hiz117_6) (hiz117_7) (hiz117_1) (hiz117_2) (hiz117_3) (hiz117_4) (hh7)) (cwV 0 hts (kGV wd_610 wd_607 wd_608 wd_609 wd_5) rfl rfl rfl (by decide +kernel) ⟨Nat.le_of_ble_eq_true rfl, Nat.le_of_ble_eq_true rfl⟩) (k_preV11 (q0 := 0) hK hPc hDc hN rfl) rfl rfl hl.1 rfl (lv_room (Nat.le_of_ble_eq_true rfl)) dX12_digest_242 ⟨by decide +kernel, by decide +kernel⟩) hS (fun q _ h => hFc q h) hFc (fun r_119 u₀ t₀ H1 locs ht hvm hw hB hz1 hk1 hS => ?_)
                  obtain ⟨g_120, ga_121, gl_122, gb_123, gp_124⟩ := u₀
                  obtain ⟨hP1, hK1, hD1⟩ := hB
                  rw [ht] at hP1
                  have hJ := k_jn (wr := [(kAI vSg cI 16 qSg), (kAI vAl cI 25 qalz117), (kAI vTy cI 3 qTy), (kAI vBy cI 120 qBy)]) (wt := [(kAI vSg cI 16 qSg), (kAI vAl cI 25 qalz117), (kAI vTy cI 3 qTy), (kAI vBy cI 120 qBy), (kX12 hm vFo vSi vIt vMo la vBy vTy miz117 vMi pnz117 vPs gnz117 vGs fn vFt le vTo (g_120 0) (g_120 1) (g_120 2) caz117 (g_120 3) (g_120 4) vPr vSt vFn sn vSg vAl dr), (kAI vMi cI 24 qmiz117), (kAI vPs cI 32 qpsz117), (kAI vGs cI 16 qgsz117), (kAI vTo cI 96 (ga_121 0)), (kAI vPr cI 2 (ga_121 1)), (kAI vSt cI 2 (ga_121 2)), (kAI vFn cI 2 (ga_121 3)), (kAI vFt cI 32 qFt)]) hP hD hC [5, 6, 8, 9] rfl (by decide +kernel) (by decide +kernel) hk1 hFc hP1 hD1 rfl
                  clear hP hD hPc hDc hFc hC hP1 hD1 hK1 hz1 hk1 hvm ht
                  obtain ⟨hP, hD⟩ := hJ
                  generalize H1 = H at hP hS ⊢
                  try dsimp only at hw
                  obtain ⟨c_125, c_126, c_127, c_128⟩ := hw
                  refine lv_i2l hx₀ hb dX12_digest_245 rfl ?_
                  refine lv_ladd hx₀ hb dX12_digest_246 ?_
                  refine lv_lstore_n (lv' := [(1, .long ((31 * hhz117) + r_119.toInt64)), (3, .int fz117), (0, .ref hm)]) hx₀ hb dX12_digest_247 rfl hl (by decide) rfl (fun ls hl => ?_)
                  refine lv_ldc2 (v := 31) hx₀ hb hown (hts (.constantLong RX12 294 (31)) wd_991) dX12_digest_248 ?_
                  refine lv_lload_n hx₀ hb dX12_digest_251 rfl (lv_at hl 0 rfl) ?_
                  refine lv_lmul hx₀ hb dX12_digest_252 ?_
                  refine lv_aload_n hx₀ hb dX12_digest_253 rfl (lv_at hl 2 rfl) ?_
                  refine lv_bipush (v := 7) hx₀ hb dX12_digest_254 (by decide +kernel) ?_
                  refine lv_bipush (v := 30) hx₀ hb dX12_digest_256 (by decide +kernel) ?_
                  refine lv_iconst (v := 0) hx₀ hb dX12_digest_258 (by decide +kernel) ?_
                  obtain ⟨hPc, hDc, hFc, hC⟩ := k_cw (wc := [(kX12 hm vFo vSi vIt vMo la vBy vTy miz117 vMi pnz117 vPs gnz117 vGs fn vFt le vTo (g_120 0) (g_120 1) (g_120 2) caz117 (g_120 3) (g_120 4) vPr vSt vFn sn vSg vAl dr), (kAI vMi cI 24 qmiz117), (kAI vPs cI 32 qpsz117), (kAI vGs cI 16 qgsz117), (kAI vTo cI 96 (ga_121 0)), (kAI vPr cI 2 (ga_121 1)), (kAI vSt cI 2 (ga_121 2)), (kAI vFn cI 2 (ga_121 3))]) hP hD hS hA [4, 5, 6, 7, 8, 9, 10, 11] (by decide +kernel) rfl
                  refine va_calli (va_runV (As := [.int 7, .int 30, .int 0]) (rest := [.long (31 * ((31 * hhz117) + r_119.toInt64))]) ⟨hx₀, hb, hml, hown, hts⟩ (g_lakesOf l dC dI cI cJ cQ H.size hm 7 30 0 vFo vSi vIt vMo la vBy vTy miz117 vMi pnz117 vPs gnz117 vGs fn vFt le vTo (g_120 0) (g_120 1) (g_120 2) caz117 (g_120 3) (g_120 4) vPr vSt vFn sn vSg vAl dr qmiz117 qpsz117 qgsz117 (ga_121 0) (ga_121 1) (ga_121 2) (ga_121 3) (hiz117_5) (hiz117_6) (hiz117_7) (c_125) (c_126) (c_127) (c_128)) (cwV 3 hts (kGV wd_851 wd_848 wd_849 wd_850 wd_5) rfl rfl rfl (by decide +kernel) ⟨Nat.le_of_ble_eq_true rfl, Nat.le_of_ble_eq_true rfl⟩) (k_preV11 (q0 := 0) hK hPc hDc hN rfl) rfl rfl hl.1 rfl (lv_room (Nat.le_of_ble_eq_true rfl)) dX12_digest_259 ⟨by decide +kernel, by decide +kernel⟩) hS (fun q _ h => hFc q h) hFc (fun r_129 u₀ t₀ H1 locs ht hvm hw hB hz1 hk1 hS => ?_)
                  obtain ⟨g_130, ga_131, gl_132, gb_133, gp_134⟩ := u₀
                  obtain ⟨hP1, hK1, hD1⟩ := hB
                  rw [ht] at hP1
                  have hJ := k_jn (wr := [(kAI vSg cI 16 qSg), (kAI vAl cI 25 qalz117), (kAI vTy cI 3 qTy), (kAI vBy cI 120 qBy), (kAI vFt cI 32 qFt)]) (wt := [(kAI vSg cI 16 qSg), (kAI vAl cI 25 qalz117), (kAI vTy cI 3 qTy), (kAI vBy cI 120 qBy), (kAI vFt cI 32 qFt), (kX12 hm vFo vSi vIt vMo la vBy vTy miz117 vMi pnz117 vPs gnz117 vGs fn vFt le vTo (g_130 0) (g_130 1) (g_130 2) caz117 (g_130 3) (g_130 4) vPr vSt vFn sn vSg vAl (g_130 5)), (kAI vMi cI 24 qmiz117), (kAI vPs cI 32 qpsz117), (kAI vGs cI 16 qgsz117), (kAI vTo cI 96 (ga_131 0)), (kAI vPr cI 2 (ga_131 1)), (kAI vSt cI 2 (ga_131 2)), (kAI vFn cI 2 (ga_131 3))]) hP hD hC [0, 1, 2, 3, 12] rfl (by decide +kernel) (by decide +kernel) hk1 hFc hP1 hD1 rfl
                  clear hP hD hPc hDc hFc hC hP1 hD1 hK1 hz1 hk1 hvm ht
                  obtain ⟨hP, hD⟩ := hJ
                  generalize H1 = H at hP hS ⊢
                  try dsimp only at hw
                  obtain ⟨c_135, c_136, c_137, c_138⟩ := hw
                  refine lv_i2l hx₀ hb dX12_digest_262 rfl ?_
                  refine lv_ladd hx₀ hb dX12_digest_263 ?_
                  refine lv_lstore_n (lv' := [(1, .long ((31 * ((31 * hhz117) + r_119.toInt64)) + r_129.toInt64)), (3, .int fz117), (0, .ref hm)]) hx₀ hb dX12_digest_264 rfl hl (by decide) rfl (fun ls hl => ?_)
                  refine lv_ldc2 (v := 31) hx₀ hb hown (hts (.constantLong RX12 294 (31)) wd_991) dX12_digest_265 ?_
                  refine lv_lload_n hx₀ hb dX12_digest_268 rfl (lv_at hl 0 rfl) ?_
                  refine lv_lmul hx₀ hb dX12_digest_269 ?_
                  refine lv_aload_n hx₀ hb dX12_digest_270 rfl (lv_at hl 2 rfl) ?_
                  refine lv_bipush (v := 7) hx₀ hb dX12_digest_271 (by decide +kernel) ?_
                  refine lv_bipush (v := 30) hx₀ hb dX12_digest_273 (by decide +kernel) ?_
                  refine lv_iconst (v := 1) hx₀ hb dX12_digest_275 (by decide +kernel) ?_
                  obtain ⟨hPc, hDc, hFc, hC⟩ := k_cw (wc := [(kX12 hm vFo vSi vIt vMo la vBy vTy miz117 vMi pnz117 vPs gnz117 vGs fn vFt le vTo (g_130 0) (g_130 1) (g_130 2) caz117 (g_130 3) (g_130 4) vPr vSt vFn sn vSg vAl (g_130 5)), (kAI vMi cI 24 qmiz117), (kAI vPs cI 32 qpsz117), (kAI vGs cI 16 qgsz117), (kAI vTo cI 96 (ga_131 0)), (kAI vPr cI 2 (ga_131 1)), (kAI vSt cI 2 (ga_131 2)), (kAI vFn cI 2 (ga_131 3))]) hP hD hS hA [5, 6, 7, 8, 9, 10, 11, 12] (by decide +kernel) rfl
                  refine va_calli (va_runV (As := [.int 7, .int 30, .int 1]) (rest := [.long (31 * ((31 * ((31 * hhz117) + r_119.toInt64)) + r_129.toInt64))]) ⟨hx₀, hb, hml, hown, hts⟩ (g_lakesOf l dC dI cI cJ cQ H.size hm 7 30 1 vFo vSi vIt vMo la vBy vTy miz117 vMi pnz117 vPs gnz117 vGs fn vFt le vTo (g_130 0) (g_130 1) (g_130 2) caz117 (g_130 3) (g_130 4) vPr vSt vFn sn vSg vAl (g_130 5) qmiz117 qpsz117 qgsz117 (ga_131 0) (ga_131 1) (ga_131 2) (ga_131 3) (hiz117_5) (hiz117_6) (hiz117_7) (c_135) (c_136) (c_137) (c_138)) (cwV 3 hts (kGV wd_851 wd_848 wd_849 wd_850 wd_5) rfl rfl rfl (by decide +kernel) ⟨Nat.le_of_ble_eq_true rfl, Nat.le_of_ble_eq_true rfl⟩) (k_preV11 (q0 := 0) hK hPc hDc hN rfl) rfl rfl hl.1 rfl (lv_room (Nat.le_of_ble_eq_true rfl)) dX12_digest_276 ⟨by decide +kernel, by decide +kernel⟩) hS (fun q _ h => hFc q h) hFc (fun r_139 u₀ t₀ H1 locs ht hvm hw hB hz1 hk1 hS => ?_)
                  obtain ⟨g_140, ga_141, gl_142, gb_143, gp_144⟩ := u₀
                  obtain ⟨hP1, hK1, hD1⟩ := hB
                  rw [ht] at hP1
                  have hJ := k_jn (wr := [(kAI vSg cI 16 qSg), (kAI vAl cI 25 qalz117), (kAI vTy cI 3 qTy), (kAI vBy cI 120 qBy), (kAI vFt cI 32 qFt)]) (wt := [(kAI vSg cI 16 qSg), (kAI vAl cI 25 qalz117), (kAI vTy cI 3 qTy), (kAI vBy cI 120 qBy), (kAI vFt cI 32 qFt), (kX12 hm vFo vSi vIt vMo la vBy vTy miz117 vMi pnz117 vPs gnz117 vGs fn vFt le vTo (g_140 0) (g_140 1) (g_140 2) caz117 (g_140 3) (g_140 4) vPr vSt vFn sn vSg vAl (g_140 5)), (kAI vMi cI 24 qmiz117), (kAI vPs cI 32 qpsz117), (kAI vGs cI 16 qgsz117), (kAI vTo cI 96 (ga_141 0)), (kAI vPr cI 2 (ga_141 1)), (kAI vSt cI 2 (ga_141 2)), (kAI vFn cI 2 (ga_141 3))]) hP hD hC [0, 1, 2, 3, 4] rfl (by decide +kernel) (by decide +kernel) hk1 hFc hP1 hD1 rfl
                  clear hP hD hPc hDc hFc hC hP1 hD1 hK1 hz1 hk1 hvm ht
                  obtain ⟨hP, hD⟩ := hJ
                  generalize H1 = H at hP hS ⊢
                  try dsimp only at hw
                  obtain ⟨c_145, c_146, c_147, c_148⟩ := hw
                  refine lv_i2l hx₀ hb dX12_digest_279 rfl ?_
                  refine lv_ladd hx₀ hb dX12_digest_280 ?_
                  obtain ⟨hP9, hD9⟩ := k_c2 (wc := [(kX12 hm vFo vSi vIt vMo la vBy vTy miz117 vMi pnz117 vPs gnz117 vGs fn vFt le vTo (g_140 0) (g_140 1) (g_140 2) caz117 (g_140 3) (g_140 4) vPr vSt vFn sn vSg vAl (g_140 5)), (kAI vTy cI 3 qTy), (kAI vBy cI 120 qBy), (kAI vMi cI 24 qmiz117), (kAI vPs cI 32 qpsz117), (kAI vGs cI 16 qgsz117), (kAI vTo cI 96 (ga_141 0)), (kAI vPr cI 2 (ga_141 1)), (kAI vSt cI 2 (ga_141 2)), (kAI vFn cI 2 (ga_141 3)), (kAI vFt cI 32 qFt), (kAI vSg cI 16 qSg), (kAI vAl cI 25 qalz117)]) hP hD [5, 2, 3, 6, 7, 8, 9, 10, 11, 12, 4, 0, 1] (by decide +kernel) rfl
                  exact W.lret (v := (31 * ((31 * ((31 * hhz117) + r_119.toInt64)) + r_129.toInt64)) + r_139.toInt64) hx₀ hb hr (fun t₀ ht hW => ⟨⟨(31 * ((31 * ((31 * hhz117) + r_119.toInt64)) + r_129.toInt64)) + r_139.toInt64, (k_fn [miz117, pnz117, gnz117, (g_140 0), (g_140 1), (g_140 2), (g_140 3), (g_140 4), caz117, (g_140 5)], k_fa [qmiz117, qpsz117, qgsz117, ga_141 0, ga_141 1, ga_141 2, ga_141 3, qalz117], k_fl [], k_fL [], k_fp []), rfl, ⟨hiz117_5, hiz117_6, hiz117_7, c_145, c_146, c_147, c_148, hiz117_8⟩, by rw [ht]; exact hP9, va_K.moved hW.alike hK, hD9⟩, hS.F ht⟩) hS.2.2 dX12_digest_281
                · refine lv_aload_n hx₀ hb dX12_digest_223 rfl (lv_at hl 2 rfl) ?_
                  refine lv_lload_n hx₀ hb dX12_digest_224 rfl (lv_at hl 1 rfl) ?_
                  refine lv_iload_n hx₀ hb dX12_digest_225 rfl (lv_at hl 0 rfl) ?_
                  obtain ⟨hPc, hDc, hFc, hC⟩ := k_cw (wc := [(kX12 hm vFo vSi vIt vMo la vBy vTy miz117 vMi pnz117 vPs gnz117 vGs fn vFt le vTo knz117 fez117 enz117 caz117 anz117 coz117 vPr vSt vFn sn vSg vAl dr), (kAI vTy cI 3 qTy), (kAI vBy cI 120 qBy), (kAI vMi cI 24 qmiz117), (kAI vPs cI 32 qpsz117), (kAI vGs cI 16 qgsz117), (kAI vTo cI 96 qtz117), (kAI vPr cI 2 qpz117), (kAI vSt cI 2 qsz117), (kAI vFn cI 2 qfz117), (kAI vFt cI 32 qFt), (kAI vSg cI 16 qSg), (kAI vAl cI 25 qalz117)]) hP hD hS hA [7, 8, 9, 10, 11, 12, 0, 1, 2, 3, 4, 5, 6] (by decide +kernel) rfl
                  refine va_calll (va_runV (As := [.long hhz117, .int fz117]) (rest := []) ⟨hx₀, hb, hml, hown, hts⟩ (g_tellsFlight l dC dI cI cJ cQ H.size hm hhz117 fz117 vFo vSi vIt vMo la vBy vTy miz117 vMi pnz117 vPs gnz117 vGs fn vFt le vTo knz117 fez117 enz117 caz117 anz117 coz117 vPr vSt vFn sn vSg vAl dr qTy qBy qmiz117 qpsz117 qgsz117 qtz117 qpz117 qsz117 qfz117 qFt qSg qalz117 (hh0) (hh1) (hh2) (hiz117_1) (hiz117_2) (hiz117_3) (hiz117_4) (hh7) (hh8) (hiz117_5) (hiz117_6) (hiz117_7) (lf_g_farthestNow_1 fn fz117 jz117 hh7 hiz117_0 hjz117 c_118) (hiz117_8)) (cwV 2 hts (kGV wd_996 wd_993 wd_994 wd_995 wd_5) rfl rfl rfl (by decide +kernel) ⟨Nat.le_of_ble_eq_true rfl, Nat.le_of_ble_eq_true rfl⟩) (k_preV11 (q0 := 0) hK hPc hDc hN rfl) rfl rfl hl.1 rfl (lv_room (Nat.le_of_ble_eq_true rfl)) dX12_digest_226 ⟨by decide +kernel, by decide +kernel⟩) hS (fun q _ h => hFc q h) hFc (fun r_149 u₀ t₀ H1 locs ht hvm hw hB hz1 hk1 hS => ?_)
                  obtain ⟨g_150, ga_151, gl_152, gb_153, gp_154⟩ := u₀
                  obtain ⟨hP1, hK1, hD1⟩ := hB
                  rw [ht] at hP1
                  have hJ := k_jn (wr := []) (wt := [(kX12 hm vFo vSi vIt vMo la vBy vTy (g_150 0) vMi (g_150 1) vPs (g_150 2) vGs fn vFt le vTo (g_150 3) (g_150 4) (g_150 5) (g_150 8) (g_150 6) (g_150 7) vPr vSt vFn sn vSg vAl dr), (kAI vTy cI 3 qTy), (kAI vBy cI 120 qBy), (kAI vMi cI 24 (ga_151 0)), (kAI vPs cI 32 (ga_151 1)), (kAI vGs cI 16 (ga_151 2)), (kAI vTo cI 96 (ga_151 3)), (kAI vPr cI 2 (ga_151 4)), (kAI vSt cI 2 (ga_151 5)), (kAI vFn cI 2 (ga_151 6)), (kAI vFt cI 32 qFt), (kAI vSg cI 16 qSg), (kAI vAl cI 25 (ga_151 7))]) hP hD hC [] rfl (by decide +kernel) (by decide +kernel) hk1 hFc hP1 hD1 rfl
                  clear hP hD hPc hDc hFc hC hP1 hD1 hK1 hz1 hk1 hvm ht
                  obtain ⟨hP, hD⟩ := hJ
                  generalize H1 = H at hP hS ⊢
                  try dsimp only at hw
                  obtain ⟨c_155, c_156, c_157, c_158, c_159, c_160, c_161, c_162⟩ := hw
                  rw [c_162] at hP hD
                  replace hP := k_w2 (wt := [(kX12 hm vFo vSi vIt vMo la vBy vTy (g_150 0) vMi (g_150 1) vPs (g_150 2) vGs fn vFt le vTo (g_150 3) (g_150 4) (g_150 5) 16777215 (g_150 6) (g_150 7) vPr vSt vFn sn vSg vAl dr), (kAI vTy cI 3 qTy), (kAI vBy cI 120 qBy), (kAI vMi cI 24 (ga_151 0)), (kAI vPs cI 32 (ga_151 1)), (kAI vGs cI 16 (ga_151 2)), (kAI vTo cI 96 (ga_151 3)), (kAI vPr cI 2 (ga_151 4)), (kAI vSt cI 2 (ga_151 5)), (kAI vFn cI 2 (ga_151 6)), (kAI vFt cI 32 qFt), (kAI vSg cI 16 qSg), (kAI vAl cI 25 (ga_151 7))]) hP hD rfl
                  replace hD := hP.2
                  replace hP := hP.1
                  refine lv_lstore_n (lv' := [(1, .long r_149), (3, .int fz117), (0, .ref hm)]) hx₀ hb dX12_digest_229 rfl hl (by decide) rfl (fun ls hl => ?_)
                  refine lv_iinc (v := fz117 + 1) (lv' := [(3, .int (fz117 + 1)), (1, .long r_149), (0, .ref hm)]) hx₀ hb dX12_digest_230 hl (k := 1) rfl rfl (by decide) rfl (fun ls hl => ?_)
                  refine lv_goto (tgt := 215) hx₀ hb dX12_digest_233 (by decide) ?_
                  exact ihz117 _ (lf_g_farthestNow_3 fn fz117 jz117 hh7 hiz117_0 hjz117 c_118) r_149 (fz117 + 1) (g_150 3) (g_150 4) (g_150 5) (g_150 6) (g_150 7) (g_150 0) (g_150 1) (g_150 2) (16777215 : Int32) (ga_151 3) (ga_151 4) (ga_151 5) (ga_151 6) (ga_151 0) (ga_151 1) (ga_151 2) (ga_151 7) _ _ _ (lf_g_farthestNow_2 fn fz117 jz117 hh7 hiz117_0 hjz117 c_118) (c_158) (c_159) (c_160) (c_161) (c_155) (c_156) (c_157) (rfl) rfl (hP.sub [6, 7, 8, 9, 10, 11, 12, 0, 1, 2, 3, 4, 5] rfl) (hD.sub [6, 7, 8, 9, 10, 11, 12, 0, 1, 2, 3, 4, 5] (by decide +kernel) rfl) hS (lv_sub hl [0, 1, 2] rfl)
            · refine lv_ldc2 (v := 31) hx₀ hb hown (hts (.constantLong RX12 294 (31)) wd_991) dX12_digest_173 ?_
              refine lv_lload_n hx₀ hb dX12_digest_176 rfl (lv_at hl 1 rfl) ?_
              refine lv_lmul hx₀ hb dX12_digest_177 ?_
              refine lv_aload_n hx₀ hb dX12_digest_178 rfl (lv_at hl 2 rfl) ?_
              refine va_get (D := (dC, dI)) (ci := 11) (v := .ref vGs) (C := RX12) (T := TX12) (N := 30) hx₀ hb hts inlX12 hown hK hP 7 rfl rfl 12 (by decide) (hts (.fieldLink RX12 34 "BittenStickModel" "goose" "[I") wd_123) (fun _ h9 => h9) rfl dX12_digest_179 ?_
              refine lv_iconst (v := 2) hx₀ hb dX12_digest_182 (by decide +kernel) ?_
              refine lv_iload_n hx₀ hb dX12_digest_183 rfl (lv_at hl 0 rfl) ?_
              refine lv_imul hx₀ hb dX12_digest_184 ?_
              refine va_iald hx₀ hb hK hP 12 0 rfl rfl (vp_in_iff.mpr (lf_g_digest_1 (g_102 2) iz115 jz115 c_110 hiz115_0 hjz115 c_116)) dX12_digest_185 ?_
              refine lv_topi (fun y_163 ey_163 => ?_)
              refine lv_i2l hx₀ hb dX12_digest_186 rfl ?_
              refine lv_ladd hx₀ hb dX12_digest_187 ?_
              refine lv_lstore_n (lv' := [(1, .long ((31 * hhz115) + y_163.toInt64)), (3, .int iz115), (0, .ref hm)]) hx₀ hb dX12_digest_188 rfl hl (by decide) rfl (fun ls hl => ?_)
              refine lv_ldc2 (v := 31) hx₀ hb hown (hts (.constantLong RX12 294 (31)) wd_991) dX12_digest_189 ?_
              refine lv_lload_n hx₀ hb dX12_digest_192 rfl (lv_at hl 0 rfl) ?_
              refine lv_lmul hx₀ hb dX12_digest_193 ?_
              refine lv_aload_n hx₀ hb dX12_digest_194 rfl (lv_at hl 2 rfl) ?_
              refine va_get (D := (dC, dI)) (ci := 11) (v := .ref vGs) (C := RX12) (T := TX12) (N := 30) hx₀ hb hts inlX12 hown hK hP 7 rfl rfl 12 (by decide) (hts (.fieldLink RX12 34 "BittenStickModel" "goose" "[I") wd_123) (fun _ h9 => h9) rfl dX12_digest_195 ?_
              refine lv_iconst (v := 2) hx₀ hb dX12_digest_198 (by decide +kernel) ?_
              refine lv_iload_n hx₀ hb dX12_digest_199 rfl (lv_at hl 1 rfl) ?_
              refine lv_imul hx₀ hb dX12_digest_200 ?_
              refine lv_iconst (v := 1) hx₀ hb dX12_digest_201 (by decide +kernel) ?_
              refine lv_iadd hx₀ hb dX12_digest_202 ?_
              refine va_iald hx₀ hb hK hP 12 0 rfl rfl (vp_in_iff.mpr (lf_g_digest_2 (g_102 2) iz115 jz115 c_110 hiz115_0 hjz115 c_116)) dX12_digest_203 ?_
              refine lv_topi (fun y_164 ey_164 => ?_)
              refine lv_i2l hx₀ hb dX12_digest_204 rfl ?_
              refine lv_ladd hx₀ hb dX12_digest_205 ?_
              refine lv_lstore_n (lv' := [(1, .long ((31 * ((31 * hhz115) + y_163.toInt64)) + y_164.toInt64)), (3, .int iz115), (0, .ref hm)]) hx₀ hb dX12_digest_206 rfl hl (by decide) rfl (fun ls hl => ?_)
              refine lv_iinc (v := iz115 + 1) (lv' := [(3, .int (iz115 + 1)), (1, .long ((31 * ((31 * hhz115) + y_163.toInt64)) + y_164.toInt64)), (0, .ref hm)]) hx₀ hb dX12_digest_207 hl (k := 1) rfl rfl (by decide) rfl (fun ls hl => ?_)
              refine lv_goto (tgt := 165) hx₀ hb dX12_digest_210 (by decide) ?_
              exact ihz115 _ (lf_g_digest_4 (g_102 2) iz115 jz115 c_110 hiz115_0 hjz115 c_116) ((31 * ((31 * hhz115) + y_163.toInt64)) + y_164.toInt64) (iz115 + 1) _ _ _ (lf_g_digest_3 (g_102 2) iz115 jz115 c_110 hiz115_0 hjz115 c_116) rfl (hP.sub [0, 1, 2, 3, 4, 5, 6, 7, 8, 9, 10, 11, 12] rfl) (hD.sub [0, 1, 2, 3, 4, 5, 6, 7, 8, 9, 10, 11, 12] (by decide +kernel) rfl) hS (lv_sub hl [0, 1, 2] rfl)
        · refine lv_iconst (v := 0) hx₀ hb dX12_digest_97 (by decide +kernel) ?_
          refine lv_istore (lv' := [(4, .int 0), (3, .int pz113), (1, .long hhz113), (0, .ref hm)]) hx₀ hb dX12_digest_98 hl (by decide) rfl (fun ls hl => ?_)
          refine (?keyz165 : ∀ (jz165 : Nat) (hhz165 : Int64) (kz165 : Int32) (H : Heap) (locs : List Loc) (ls : Array Slot), (0 ≤ kz165 ∧ kz165 ≤ 4) → ((4 - kz165.toInt).toNat = jz165) → va_P (dC, dI) vwCl [(kAI vTo cI 96 qtz113), (kAI vPr cI 2 qpz113), (kAI vSt cI 2 qsz113), (kAI vFn cI 2 qfz113), (kAI vFt cI 32 qFt), (kAI vSg cI 16 qSg), (kAI vAl cI 25 qalz113), (kX12 hm vFo vSi vIt vMo la vBy vTy (g_102 0) vMi (g_102 1) vPs (g_102 2) vGs fn vFt le vTo knz113 fez113 enz113 ca anz113 coz113 vPr vSt vFn sn vSg vAl dr), (kAI vTy cI 3 qTy), (kAI vBy cI 120 qBy), (kAI vMi cI 24 (ga_103 0)), (kAI vPs cI 32 qpsz113), (kAI vGs cI 16 (ga_103 2))] H → va_D A [(kAI vTo cI 96 qtz113), (kAI vPr cI 2 qpz113), (kAI vSt cI 2 qsz113), (kAI vFn cI 2 qfz113), (kAI vFt cI 32 qFt), (kAI vSg cI 16 qSg), (kAI vAl cI 25 qalz113), (kX12 hm vFo vSi vIt vMo la vBy vTy (g_102 0) vMi (g_102 1) vPs (g_102 2) vGs fn vFt le vTo knz113 fez113 enz113 ca anz113 coz113 vPr vSt vFn sn vSg vAl dr), (kAI vTy cI 3 qTy), (kAI vBy cI 120 qBy), (kAI vMi cI 24 (ga_103 0)), (kAI vPs cI 32 qpsz113), (kAI vGs cI 16 (ga_103 2))] → va_S A s₀.heap H locs → lv_has ls 5 [(4, .int kz165), (3, .int pz113), (1, .long hhz165), (0, .ref hm)] → W p₀ l e₀ _ s₀ m₀ _ below meth c₀ H locs _ _ _ (F0 m₀ 100 ls [])) _ hhz113 (0 : Int32) H locs ls (show 0 ≤ (0 : Int32) ∧ (0 : Int32) ≤ 4 from ⟨(by decide), (by decide)⟩) rfl hP hD hS hl
          clear hP hD hS hl
          intro jz165
          induction jz165 using Nat.strongRecOn with
          | ind jz165 ihz165 =>
            intro hhz165 kz165 H locs ls hiz165_0 hjz165 hP hD hS hl
            refine lv_iload hx₀ hb dX12_digest_100 (lv_at hl 0 rfl) ?_
            refine lv_iconst (v := 4) hx₀ hb dX12_digest_102 (by decide +kernel) ?_
            refine lv_icmp_ge (tgt := 131) hx₀ hb dX12_digest_103 (by decide) (fun c_166 => ?_) (fun c_166 => ?_)
            · refine lv_ldc2 (v := 31) hx₀ hb hown (hts (.constantLong RX12 294 (31)) wd_991) dX12_digest_131 ?_
              refine lv_lload_n hx₀ hb dX12_digest_134 rfl (lv_at hl 2 rfl) ?_
              refine lv_lmul hx₀ hb dX12_digest_135 ?_
              refine lv_aload_n hx₀ hb dX12_digest_136 rfl (lv_at hl 3 rfl) ?_
              refine lv_iload_n hx₀ hb dX12_digest_137 rfl (lv_at hl 1 rfl) ?_
              obtain ⟨hPc, hDc, hFc, hC⟩ := k_cw (wc := [(kX12 hm vFo vSi vIt vMo la vBy vTy (g_102 0) vMi (g_102 1) vPs (g_102 2) vGs fn vFt le vTo knz113 fez113 enz113 ca anz113 coz113 vPr vSt vFn sn vSg vAl dr), (kAI vMi cI 24 (ga_103 0)), (kAI vPs cI 32 qpsz113), (kAI vGs cI 16 (ga_103 2)), (kAI vTo cI 96 qtz113), (kAI vPr cI 2 qpz113), (kAI vSt cI 2 qsz113), (kAI vFn cI 2 qfz113), (kAI vFt cI 32 qFt), (kAI vSg cI 16 qSg)]) hP hD hS hA [7, 10, 11, 12, 0, 1, 2, 3, 4, 5] (by decide +kernel) rfl
              refine va_calli (va_runV (As := [.int pz113]) (rest := [.long (31 * hhz165)]) ⟨hx₀, hb, hml, hown, hts⟩ (g_soresOf l dC dI cI cJ cQ H.size hm pz113 vFo vSi vIt vMo la vBy vTy (g_102 0) vMi (g_102 1) vPs (g_102 2) vGs fn vFt le vTo knz113 fez113 enz113 ca anz113 coz113 vPr vSt vFn sn vSg vAl dr (ga_103 0) qpsz113 (ga_103 2) qtz113 qpz113 qsz113 qfz113 qFt qSg (c_108) (c_109) (c_110) (hiz113_1) (hiz113_2) (hiz113_3) (hiz113_4) (hh7) (hh8) (lf_g_digest_5 (g_102 1) pz113 jz113 c_109 hiz113_0 hjz113 c_114)) (cwV 1 hts (kGV wd_721 wd_718 wd_719 wd_720 wd_5) rfl rfl rfl (by decide +kernel) ⟨Nat.le_of_ble_eq_true rfl, Nat.le_of_ble_eq_true rfl⟩) (k_preV11 (q0 := 0) hK hPc hDc hN rfl) rfl rfl hl.1 rfl (lv_room (Nat.le_of_ble_eq_true rfl)) dX12_digest_138 ⟨by decide +kernel, by decide +kernel⟩) hS (fun q _ h => hFc q h) hFc (fun r_167 u₀ t₀ H1 locs ht hvm hw hB hz1 hk1 hS => ?_)
              obtain ⟨g_168, ga_169, gl_170, gb_171, gp_172⟩ := u₀
              obtain ⟨hP1, hK1, hD1⟩ := hB
              rw [ht] at hP1
              have hJ := k_jn (wr := [(kAI vAl cI 25 qalz113), (kAI vTy cI 3 qTy), (kAI vBy cI 120 qBy)]) (wt := [(kAI vAl cI 25 qalz113), (kAI vTy cI 3 qTy), (kAI vBy cI 120 qBy), (kX12 hm vFo vSi vIt vMo la vBy vTy (g_102 0) vMi (g_102 1) vPs (g_102 2) vGs fn vFt le vTo (g_168 0) (g_168 1) (g_168 2) ca (g_168 3) (g_168 4) vPr vSt vFn sn vSg vAl dr), (kAI vMi cI 24 (ga_103 0)), (kAI vPs cI 32 (ga_169 4)), (kAI vGs cI 16 (ga_103 2)), (kAI vTo cI 96 (ga_169 0)), (kAI vPr cI 2 (ga_169 1)), (kAI vSt cI 2 (ga_169 2)), (kAI vFn cI 2 (ga_169 3)), (kAI vFt cI 32 qFt), (kAI vSg cI 16 qSg)]) hP hD hC [6, 8, 9] rfl (by decide +kernel) (by decide +kernel) hk1 hFc hP1 hD1 rfl
              clear hP hD hPc hDc hFc hC hP1 hD1 hK1 hz1 hk1 hvm ht
              obtain ⟨hP, hD⟩ := hJ
              generalize H1 = H at hP hS ⊢
              try dsimp only at hw
              obtain ⟨c_173, c_174, c_175, c_176⟩ := hw
              refine lv_i2l hx₀ hb dX12_digest_141 rfl ?_
              refine lv_ladd hx₀ hb dX12_digest_142 ?_
              refine lv_lstore_n (lv' := [(1, .long ((31 * hhz165) + r_167.toInt64)), (4, .int kz165), (3, .int pz113), (0, .ref hm)]) hx₀ hb dX12_digest_143 rfl hl (by decide) rfl (fun ls hl => ?_)
              refine lv_ldc2 (v := 31) hx₀ hb hown (hts (.constantLong RX12 294 (31)) wd_991) dX12_digest_144 ?_
              refine lv_lload_n hx₀ hb dX12_digest_147 rfl (lv_at hl 0 rfl) ?_
              refine lv_lmul hx₀ hb dX12_digest_148 ?_
              refine lv_aload_n hx₀ hb dX12_digest_149 rfl (lv_at hl 3 rfl) ?_
              refine lv_iload_n hx₀ hb dX12_digest_150 rfl (lv_at hl 2 rfl) ?_
              obtain ⟨hPc, hDc, hFc, hC⟩ := k_cw (wc := [(kX12 hm vFo vSi vIt vMo la vBy vTy (g_102 0) vMi (g_102 1) vPs (g_102 2) vGs fn vFt le vTo (g_168 0) (g_168 1) (g_168 2) ca (g_168 3) (g_168 4) vPr vSt vFn sn vSg vAl dr), (kAI vMi cI 24 (ga_103 0)), (kAI vPs cI 32 (ga_169 4)), (kAI vGs cI 16 (ga_103 2)), (kAI vTo cI 96 (ga_169 0)), (kAI vPr cI 2 (ga_169 1)), (kAI vSt cI 2 (ga_169 2)), (kAI vFn cI 2 (ga_169 3)), (kAI vFt cI 32 qFt), (kAI vSg cI 16 qSg), (kAI vAl cI 25 qalz113)]) hP hD hS hA [3, 4, 5, 6, 7, 8, 9, 10, 11, 12, 0] (by decide +kernel) rfl
              refine va_calli (va_runV (As := [.int pz113]) (rest := [.long (31 * ((31 * hhz165) + r_167.toInt64))]) ⟨hx₀, hb, hml, hown, hts⟩ (g_askOf l dC dI cI cJ cQ H.size hm pz113 vFo vSi vIt vMo la vBy vTy (g_102 0) vMi (g_102 1) vPs (g_102 2) vGs fn vFt le vTo (g_168 0) (g_168 1) (g_168 2) ca (g_168 3) (g_168 4) vPr vSt vFn sn vSg vAl dr (ga_103 0) (ga_169 4) (ga_103 2) (ga_169 0) (ga_169 1) (ga_169 2) (ga_169 3) qFt qSg qalz113 (c_108) (c_109) (c_110) (c_173) (c_174) (c_175) (c_176) (hh7) (hh8) (lf_g_digest_5 (g_102 1) pz113 jz113 c_109 hiz113_0 hjz113 c_114)) (cwV 1 hts (kGV wd_755 wd_752 wd_753 wd_754 wd_5) rfl rfl rfl (by decide +kernel) ⟨Nat.le_of_ble_eq_true rfl, Nat.le_of_ble_eq_true rfl⟩) (k_preV11 (q0 := 0) hK hPc hDc hN rfl) rfl rfl hl.1 rfl (lv_room (Nat.le_of_ble_eq_true rfl)) dX12_digest_151 ⟨by decide +kernel, by decide +kernel⟩) hS (fun q _ h => hFc q h) hFc (fun r_177 u₀ t₀ H1 locs ht hvm hw hB hz1 hk1 hS => ?_)
              obtain ⟨g_178, ga_179, gl_180, gb_181, gp_182⟩ := u₀
              obtain ⟨hP1, hK1, hD1⟩ := hB
              rw [ht] at hP1
              have hJ := k_jn (wr := [(kAI vTy cI 3 qTy), (kAI vBy cI 120 qBy)]) (wt := [(kAI vTy cI 3 qTy), (kAI vBy cI 120 qBy), (kX12 hm vFo vSi vIt vMo la vBy vTy (g_102 0) vMi (g_102 1) vPs (g_102 2) vGs fn vFt le vTo (g_178 0) (g_178 1) (g_178 2) ca (g_178 3) (g_178 4) vPr vSt vFn sn vSg vAl dr), (kAI vMi cI 24 (ga_103 0)), (kAI vPs cI 32 (ga_179 4)), (kAI vGs cI 16 (ga_103 2)), (kAI vTo cI 96 (ga_179 0)), (kAI vPr cI 2 (ga_179 1)), (kAI vSt cI 2 (ga_179 2)), (kAI vFn cI 2 (ga_179 3)), (kAI vFt cI 32 qFt), (kAI vSg cI 16 qSg), (kAI vAl cI 25 (ga_179 5))]) hP hD hC [1, 2] rfl (by decide +kernel) (by decide +kernel) hk1 hFc hP1 hD1 rfl
              clear hP hD hPc hDc hFc hC hP1 hD1 hK1 hz1 hk1 hvm ht
              obtain ⟨hP, hD⟩ := hJ
              generalize H1 = H at hP hS ⊢
              try dsimp only at hw
              obtain ⟨c_183, c_184, c_185, c_186⟩ := hw
              refine lv_i2l hx₀ hb dX12_digest_154 rfl ?_
              refine lv_ladd hx₀ hb dX12_digest_155 ?_
              refine lv_lstore_n (lv' := [(1, .long ((31 * ((31 * hhz165) + r_167.toInt64)) + r_177.toInt64)), (4, .int kz165), (3, .int pz113), (0, .ref hm)]) hx₀ hb dX12_digest_156 rfl hl (by decide) rfl (fun ls hl => ?_)
              refine lv_iinc (v := pz113 + 1) (lv' := [(3, .int (pz113 + 1)), (1, .long ((31 * ((31 * hhz165) + r_167.toInt64)) + r_177.toInt64)), (4, .int kz165), (0, .ref hm)]) hx₀ hb dX12_digest_157 hl (k := 2) rfl rfl (by decide) rfl (fun ls hl => ?_)
              refine lv_goto (tgt := 89) hx₀ hb dX12_digest_160 (by decide) ?_
              exact ihz113 _ (lf_g_digest_4 (g_102 1) pz113 jz113 c_109 hiz113_0 hjz113 c_114) ((31 * ((31 * hhz165) + r_167.toInt64)) + r_177.toInt64) (pz113 + 1) (g_178 0) (g_178 1) (g_178 2) (g_178 3) (g_178 4) (ga_179 0) (ga_179 1) (ga_179 2) (ga_179 3) (ga_179 4) (ga_179 5) _ _ _ (lf_g_digest_3 (g_102 1) pz113 jz113 c_109 hiz113_0 hjz113 c_114) (c_183) (c_184) (c_185) (c_186) rfl (hP.sub [6, 7, 8, 9, 10, 11, 12, 2, 0, 1, 3, 4, 5] rfl) (hD.sub [6, 7, 8, 9, 10, 11, 12, 2, 0, 1, 3, 4, 5] (by decide +kernel) rfl) hS (lv_sub hl [0, 1, 3] rfl)
            · refine lv_ldc2 (v := 31) hx₀ hb hown (hts (.constantLong RX12 294 (31)) wd_991) dX12_digest_106 ?_
              refine lv_lload_n hx₀ hb dX12_digest_109 rfl (lv_at hl 2 rfl) ?_
              refine lv_lmul hx₀ hb dX12_digest_110 ?_
              refine lv_aload_n hx₀ hb dX12_digest_111 rfl (lv_at hl 3 rfl) ?_
              refine va_get (D := (dC, dI)) (ci := 11) (v := .ref vPs) (C := RX12) (T := TX12) (N := 30) hx₀ hb hts inlX12 hown hK hP 7 rfl rfl 10 (by decide) (hts (.fieldLink RX12 31 "BittenStickModel" "passenger" "[I") wd_122) (fun _ h9 => h9) rfl dX12_digest_112 ?_
              refine lv_iconst (v := 4) hx₀ hb dX12_digest_115 (by decide +kernel) ?_
              refine lv_iload_n hx₀ hb dX12_digest_116 rfl (lv_at hl 1 rfl) ?_
              refine lv_imul hx₀ hb dX12_digest_117 ?_
              refine lv_iload hx₀ hb dX12_digest_118 (lv_at hl 0 rfl) ?_
              refine lv_iadd hx₀ hb dX12_digest_120 ?_
              refine va_iald hx₀ hb hK hP 11 0 rfl rfl (vp_in_iff.mpr (lf_g_digest_6 (g_102 1) pz113 jz113 kz165 jz165 c_109 hiz113_0 hjz113 c_114 hiz165_0 hjz165 c_166)) dX12_digest_121 ?_
              refine lv_topi (fun y_187 ey_187 => ?_)
              refine lv_i2l hx₀ hb dX12_digest_122 rfl ?_
              refine lv_ladd hx₀ hb dX12_digest_123 ?_
              refine lv_lstore_n (lv' := [(1, .long ((31 * hhz165) + y_187.toInt64)), (4, .int kz165), (3, .int pz113), (0, .ref hm)]) hx₀ hb dX12_digest_124 rfl hl (by decide) rfl (fun ls hl => ?_)
              refine lv_iinc (v := kz165 + 1) (lv' := [(4, .int (kz165 + 1)), (1, .long ((31 * hhz165) + y_187.toInt64)), (3, .int pz113), (0, .ref hm)]) hx₀ hb dX12_digest_125 hl (k := 1) rfl rfl (by decide) rfl (fun ls hl => ?_)
              refine lv_goto (tgt := 100) hx₀ hb dX12_digest_128 (by decide) ?_
              exact ihz165 _ (lf_g_digest_8 kz165 jz165 hiz165_0 hjz165 c_166) ((31 * hhz165) + y_187.toInt64) (kz165 + 1) _ _ _ (lf_g_digest_7 kz165 jz165 hiz165_0 hjz165 c_166) rfl (hP.sub [0, 1, 2, 3, 4, 5, 6, 7, 8, 9, 10, 11, 12] rfl) (hD.sub [0, 1, 2, 3, 4, 5, 6, 7, 8, 9, 10, 11, 12] (by decide +kernel) rfl) hS (lv_sub hl [0, 2, 1, 3] rfl)
    · refine lv_ldc2 (v := 31) hx₀ hb hown (hts (.constantLong RX12 294 (31)) wd_991) dX12_digest_67 ?_
      refine lv_lload_n hx₀ hb dX12_digest_70 rfl (lv_at hl 1 rfl) ?_
      refine lv_lmul hx₀ hb dX12_digest_71 ?_
      refine lv_aload_n hx₀ hb dX12_digest_72 rfl (lv_at hl 2 rfl) ?_
      refine va_get (D := (dC, dI)) (ci := 11) (v := .ref vMi) (C := RX12) (T := TX12) (N := 30) hx₀ hb hts inlX12 hown hK hP 7 rfl rfl 8 (by decide) (hts (.fieldLink RX12 28 "BittenStickModel" "mile" "[I") wd_121) (fun _ h9 => h9) rfl dX12_digest_73 ?_
      refine lv_iload_n hx₀ hb dX12_digest_76 rfl (lv_at hl 0 rfl) ?_
      refine va_iald hx₀ hb hK hP 10 0 rfl rfl (vp_in_iff.mpr (lf_g_digest_9 (g_102 0) iz111 jz111 c_108 hiz111_0 hjz111 c_112)) dX12_digest_77 ?_
      refine lv_topi (fun y_188 ey_188 => ?_)
      refine lv_i2l hx₀ hb dX12_digest_78 rfl ?_
      refine lv_ladd hx₀ hb dX12_digest_79 ?_
      refine lv_lstore_n (lv' := [(1, .long ((31 * hhz111) + y_188.toInt64)), (3, .int iz111), (0, .ref hm)]) hx₀ hb dX12_digest_80 rfl hl (by decide) rfl (fun ls hl => ?_)
      refine lv_iinc (v := iz111 + 1) (lv' := [(3, .int (iz111 + 1)), (1, .long ((31 * hhz111) + y_188.toInt64)), (0, .ref hm)]) hx₀ hb dX12_digest_81 hl (k := 1) rfl rfl (by decide) rfl (fun ls hl => ?_)
      refine lv_goto (tgt := 59) hx₀ hb dX12_digest_84 (by decide) ?_
      exact ihz111 _ (lf_g_digest_11 (g_102 0) iz111 jz111 c_108 hiz111_0 hjz111 c_112) ((31 * hhz111) + y_188.toInt64) (iz111 + 1) _ _ _ (lf_g_digest_10 (g_102 0) iz111 jz111 c_108 hiz111_0 hjz111 c_112) rfl (hP.sub [0, 1, 2, 3, 4, 5, 6, 7, 8, 9, 10, 11, 12] rfl) (hD.sub [0, 1, 2, 3, 4, 5, 6, 7, 8, 9, 10, 11, 12] (by decide +kernel) rfl) hS (lv_sub hl [0, 1, 2] rfl)
