set_option maxHeartbeats 4000000 in
set_option maxRecDepth 100000 in
theorem e_fliesc (l : Launch) (dC : Nat → ClassId) (dI : Nat → Nat → Nat) (cI cJ cQ : ClassId) (sz : Nat) (hm : Nat) (p1 : Int32) (le1 : Int32) (ri1 : Int32) (h1 : Int32) (fr : Int32) (th : Int32) (vFo : Nat) (vSi : Nat) (vIt : Nat) (vMo : Nat) (la : Int32) (vBy : Nat) (vTy : Nat) (mi : Int32) (vMi : Nat) (pn : Int32) (vPs : Nat) (gn : Int32) (vGs : Nat) (fn : Int32) (vFt : Nat) (le : Int32) (vTo : Nat) (kn : Int32) (fe : Int32) (en : Int32) (ca : Int32) (an : Int32) (co : Int32) (vPr : Nat) (vSt : Nat) (vFn : Nat) (sn : Int32) (vSg : Nat) (vAl : Nat) (dr : Int32) (qMi : Nat → Int32) (qPs : Nat → Int32) (qGs : Nat → Int32) (qTo : Nat → Int32) (qPr : Nat → Int32) (qSt : Nat → Int32) (qFn : Nat → Int32) (hh0 : 0 ≤ mi ∧ mi ≤ 24) (hh1 : 0 ≤ pn ∧ pn ≤ 8) (hh2 : 0 ≤ gn ∧ gn ≤ 8) (hh3 : k_bd 2 0 7 qPr) (hh4 : 0 ≤ h1 ∧ h1 ≤ 100) (hh5 : 0 ≤ th ∧ th ≤ 100) (hh6 : k_tm pn qPs) : Met l yX12_flies (kW yX12_flies cX12_flies 8 none) { frames := 2, cells := 0, slots := 0, locals := 51 } (kPre dC dI cI cJ cQ sz [.ref hm, .int p1, .int le1, .int ri1, .int h1, .int fr, .int th] [(kX12 hm vFo vSi vIt vMo la vBy vTy mi vMi pn vPs gn vGs fn vFt le vTo kn fe en ca an co vPr vSt vFn sn vSg vAl dr), (kAI vMi cI 24 qMi), (kAI vPs cI 32 qPs), (kAI vGs cI 16 qGs), (kAI vTo cI 96 qTo), (kAI vPr cI 2 qPr), (kAI vSt cI 2 qSt), (kAI vFn cI 2 qFn)]) (va_Qv (fun (u : kS) => (k_bd 2 0 7 (u.2.1 1)) ∧ (0 ≤ (u.1 1) ∧ (u.1 1) ≤ 24) ∧ ((u.1 2) = 0 ∨ (u.1 0) = 0 ∨ (u.1 1) ≤ 23) ∧ (0 ≤ (u.1 0) ∧ (u.1 0) ≤ 24) ∧ (k_fd ((0 ≤ p1 ∧ p1 < pn) ∧ (0 ≤ le1 ∧ le1 < gn) ∧ 0 ≤ ri1 ∧ ri1 < gn) (k_done (kMc (kM qMi) ca) (kCt (kMc (kM qMi) ca) (kP3 qPs p1) (kfu mi 0) 0 ((kG0 qGs le1, kG1 qGs le1, kG0 qGs le1, 0), (kG0 qGs ri1, kG1 qGs ri1, kG0 qGs ri1, 0))) le (kP0 qPs p1) (kP1 qPs p1) (5 * (kP2 qPs p1)) (fun x9 => if x9 < fr then h1 else th) mi (u.1 0) (u.1 1) (u.1 2) (u.2.1 0)) (u.1 0) (u.1 1) (u.1 2))) (fun (u : kS) t₀ => kB dC dI cI cJ cQ (va_A [(kX12 hm vFo vSi vIt vMo la vBy vTy mi vMi pn vPs gn vGs fn vFt le vTo kn fe en ca an co vPr vSt vFn sn vSg vAl dr), (kAI vMi cI 24 qMi), (kAI vPs cI 32 qPs), (kAI vGs cI 16 qGs), (kAI vTo cI 96 qTo), (kAI vPr cI 2 qPr), (kAI vSt cI 2 qSt), (kAI vFn cI 2 qFn)] sz) [(kX12 hm vFo vSi vIt vMo la vBy vTy mi vMi pn vPs gn vGs fn vFt le vTo (u.1 0) (u.1 1) (u.1 2) ca (u.1 3) (u.1 4) vPr vSt vFn sn vSg vAl dr), (kAI vMi cI 24 qMi), (kAI vPs cI 32 qPs), (kAI vGs cI 16 qGs), (kAI vTo cI 96 (u.2.1 0)), (kAI vPr cI 2 (u.2.1 1)), (kAI vSt cI 2 (u.2.1 2)), (kAI vFn cI 2 (u.2.1 3))] t₀) (va_A [(kX12 hm vFo vSi vIt vMo la vBy vTy mi vMi pn vPs gn vGs fn vFt le vTo kn fe en ca an co vPr vSt vFn sn vSg vAl dr), (kAI vMi cI 24 qMi), (kAI vPs cI 32 qPs), (kAI vGs cI 16 qGs), (kAI vTo cI 96 qTo), (kAI vPr cI 2 qPr), (kAI vSt cI 2 qSt), (kAI vFn cI 2 qFn)] sz)) 0 0 (va_A [(kX12 hm vFo vSi vIt vMo la vBy vTy mi vMi pn vPs gn vGs fn vFt le vTo kn fe en ca an co vPr vSt vFn sn vSg vAl dr), (kAI vMi cI 24 qMi), (kAI vPs cI 32 qPs), (kAI vGs cI 16 qGs), (kAI vTo cI 96 qTo), (kAI vPr cI 2 qPr), (kAI vSt cI 2 qSt), (kAI vFn cI 2 qFn)] sz) := by
  refine Met.ofW (cc := cX12_flies) (maxL := 8) (ret := none) (by decide) rfl ?_
  intro p₀ e₀ s₀ m₀ args below meth c₀ s₁ B hml hv₀
  obtain ⟨rfl, hsz, hP, hK, hD0, hN⟩ := hv₀
  have hx₀ := B.exec
  have hb := B.bytes
  have hr := B.returns
  have hts := atoms_spec (ws := (kW yX12_flies cX12_flies 8 none)) B.pre
  have hts := fun w h => hts w (List.mem_cons_of_mem _ h)
  have hown : s₀.vm.findClass RX12 = some m₀.cls := findClass_of_methodNamed B.named
  have hlocks := B.notSynchronized
  subst hsz
  have hD := hD0.self (sz := s₀.heap.size)
  generalize hAe : va_A [(kX12 hm vFo vSi vIt vMo la vBy vTy mi vMi pn vPs gn vGs fn vFt le vTo kn fe en ca an co vPr vSt vFn sn vSg vAl dr), (kAI vMi cI 24 qMi), (kAI vPs cI 32 qPs), (kAI vGs cI 16 qGs), (kAI vTo cI 96 qTo), (kAI vPr cI 2 qPr), (kAI vSt cI 2 qSt), (kAI vFn cI 2 qFn)] s₀.heap.size = A at hD ⊢
  have hA : ∀ q : Nat, s₀.heap.size ≤ q → A q := fun q h => by rw [← hAe]; exact Or.inr h
  have hS : va_S A s₀.heap s₀.heap [] := va_S.rf
  have hP : va_P (dC, dI) vwCl [(kX12 hm vFo vSi vIt vMo la vBy vTy mi vMi pn vPs gn vGs fn vFt le vTo kn fe en ca an co vPr vSt vFn sn vSg vAl dr), (kAI vMi cI 24 qMi), (kAI vPs cI 32 qPs), (kAI vGs cI 16 qGs), (kAI vTo cI 96 qTo), (kAI vPr cI 2 qPr), (kAI vSt cI 2 qSt), (kAI vFn cI 2 qFn)] s₀.heap := hP
  have hl := lv_entry ([.ref hm, .int p1, .int le1, .int ri1, .int h1, .int fr, .int th]) (n := 8) (Nat.le_of_ble_eq_true rfl)
  rw [lg_entry_eq]
  generalize (lg_sl ([.ref hm, .int p1, .int le1, .int ri1, .int h1, .int fr, .int th]) ++ List.replicate (8 - (lg_sl ([.ref hm, .int p1, .int le1, .int ri1, .int h1, .int fr, .int th])).length) Slot.unset).toArray = ls at hl ⊢
  have hl : lv_has ls 8 [(0, .ref hm), (1, .int p1), (2, .int le1), (3, .int ri1), (4, .int h1), (5, .int fr), (6, .int th)] := hl
  obtain ⟨H, hH⟩ : ∃ z : Heap, z = s₀.heap := ⟨_, rfl⟩
  rw [← hH] at hP
  have hS : va_S A s₀.heap H [] := by rw [hH]; exact hS
  refine k_heap hH ?_
  have hD : va_D A [(kX12 hm vFo vSi vIt vMo la vBy vTy mi vMi pn vPs gn vGs fn vFt le vTo kn fe en ca an co vPr vSt vFn sn vSg vAl dr), (kAI vMi cI 24 qMi), (kAI vPs cI 32 qPs), (kAI vGs cI 16 qGs), (kAI vTo cI 96 qTo), (kAI vPr cI 2 qPr), (kAI vSt cI 2 qSt), (kAI vFn cI 2 qFn)] := hD
  obtain ⟨locs, hlo⟩ : ∃ z : List Loc, z = [] := ⟨_, rfl⟩
  rw [← hlo] at hS ⊢
  clear hlo hH hAe hD0
  refine lv_aload_n hx₀ hb dX12_flies_0 rfl (lv_at hl 0 rfl) ?_
  refine lv_iconst (v := 0) hx₀ hb dX12_flies_1 (by decide +kernel) ?_
  refine va_put (D := (dC, dI)) (ci := 11) (v := .int 0) (ty := .int) (C := RX12) (T := TX12) (N := 30) hx₀ hb hts inlX12 tyX12 tyX12_ok nmX12 hown hK hP hD hS 0 rfl rfl 17 (by decide) (hts (.fieldLink RX12 190 "BittenStickModel" "known" "I") wd_541) (fun _ h9 => h9) rfl (by decide +kernel) rfl rfl (Nat.le_of_ble_eq_true rfl) dX12_flies_2 ?_
  clear hP hD hS
  intro H locs hP hD hS
  replace hP := k_w2 (wt := [(kX12 hm vFo vSi vIt vMo la vBy vTy mi vMi pn vPs gn vGs fn vFt le vTo 0 fe en ca an co vPr vSt vFn sn vSg vAl dr), (kAI vMi cI 24 qMi), (kAI vPs cI 32 qPs), (kAI vGs cI 16 qGs), (kAI vTo cI 96 qTo), (kAI vPr cI 2 qPr), (kAI vSt cI 2 qSt), (kAI vFn cI 2 qFn)]) hP hD rfl
  replace hD := hP.2
  replace hP := hP.1
  refine lv_aload_n hx₀ hb dX12_flies_5 rfl (lv_at hl 0 rfl) ?_
  refine lv_iconst (v := 0) hx₀ hb dX12_flies_6 (by decide +kernel) ?_
  refine va_put (D := (dC, dI)) (ci := 11) (v := .int 0) (ty := .int) (C := RX12) (T := TX12) (N := 30) hx₀ hb hts inlX12 tyX12 tyX12_ok nmX12 hown hK hP hD hS 0 rfl rfl 18 (by decide) (hts (.fieldLink RX12 193 "BittenStickModel" "fell" "I") wd_542) (fun _ h9 => h9) rfl (by decide +kernel) rfl rfl (Nat.le_of_ble_eq_true rfl) dX12_flies_7 ?_
  clear hP hD hS
  intro H locs hP hD hS
  replace hP := k_w2 (wt := [(kX12 hm vFo vSi vIt vMo la vBy vTy mi vMi pn vPs gn vGs fn vFt le vTo 0 0 en ca an co vPr vSt vFn sn vSg vAl dr), (kAI vMi cI 24 qMi), (kAI vPs cI 32 qPs), (kAI vGs cI 16 qGs), (kAI vTo cI 96 qTo), (kAI vPr cI 2 qPr), (kAI vSt cI 2 qSt), (kAI vFn cI 2 qFn)]) hP hD rfl
  replace hD := hP.2
  replace hP := hP.1
  refine lv_aload_n hx₀ hb dX12_flies_10 rfl (lv_at hl 0 rfl) ?_
  refine lv_iconst (v := 1) hx₀ hb dX12_flies_11 (by decide +kernel) ?_
  refine va_put (D := (dC, dI)) (ci := 11) (v := .int 1) (ty := .int) (C := RX12) (T := TX12) (N := 30) hx₀ hb hts inlX12 tyX12 tyX12_ok nmX12 hown hK hP hD hS 0 rfl rfl 19 (by decide) (hts (.fieldLink RX12 196 "BittenStickModel" "end" "I") wd_543) (fun _ h9 => h9) rfl (by decide +kernel) rfl rfl (Nat.le_of_ble_eq_true rfl) dX12_flies_12 ?_
  clear hP hD hS
  intro H locs hP hD hS
  replace hP := k_w2 (wt := [(kX12 hm vFo vSi vIt vMo la vBy vTy mi vMi pn vPs gn vGs fn vFt le vTo 0 0 1 ca an co vPr vSt vFn sn vSg vAl dr), (kAI vMi cI 24 qMi), (kAI vPs cI 32 qPs), (kAI vGs cI 16 qGs), (kAI vTo cI 96 qTo), (kAI vPr cI 2 qPr), (kAI vSt cI 2 qSt), (kAI vFn cI 2 qFn)]) hP hD rfl
  replace hD := hP.2
  replace hP := hP.1
  refine lv_aload_n hx₀ hb dX12_flies_15 rfl (lv_at hl 0 rfl) ?_
  refine lv_iload_n hx₀ hb dX12_flies_16 rfl (lv_at hl 1 rfl) ?_
  obtain ⟨hPc, hDc, hFc, hC⟩ := k_cw (wc := [(kX12 hm vFo vSi vIt vMo la vBy vTy mi vMi pn vPs gn vGs fn vFt le vTo 0 0 1 ca an co vPr vSt vFn sn vSg vAl dr)]) hP hD hS hA [0] (by decide +kernel) rfl
  refine va_calli (va_runV (As := [.int p1]) (rest := []) ⟨hx₀, hb, hml, hown, hts⟩ (g_isPassenger l dC dI cI cJ cQ H.size hm p1 vFo vSi vIt vMo la vBy vTy mi vMi pn vPs gn vGs fn vFt le vTo 0 0 1 ca an co vPr vSt vFn sn vSg vAl dr (hh1)) (cwV 1 hts (kGV wd_323 wd_320 wd_321 wd_322 wd_5) rfl rfl rfl (by decide +kernel) ⟨Nat.le_of_ble_eq_true rfl, Nat.le_of_ble_eq_true rfl⟩) (k_preV (ci := 11) (q0 := 0) hK hPc hDc hN rfl rfl) rfl rfl hl.1 rfl (lv_room (Nat.le_of_ble_eq_true rfl)) dX12_flies_17 ⟨by decide +kernel, by decide +kernel⟩) hS (fun q _ h => hFc q h) hFc (fun r_1 u₀ t₀ H1 locs ht hvm hw hB hz1 hk1 hS => ?_)
  obtain ⟨hP1, hK1, hD1⟩ := hB
  rw [ht] at hP1
  have hJ := k_jn (wr := [(kAI vMi cI 24 qMi), (kAI vPs cI 32 qPs), (kAI vGs cI 16 qGs), (kAI vTo cI 96 qTo), (kAI vPr cI 2 qPr), (kAI vSt cI 2 qSt), (kAI vFn cI 2 qFn)]) (wt := [(kAI vMi cI 24 qMi), (kAI vPs cI 32 qPs), (kAI vGs cI 16 qGs), (kAI vTo cI 96 qTo), (kAI vPr cI 2 qPr), (kAI vSt cI 2 qSt), (kAI vFn cI 2 qFn), (kX12 hm vFo vSi vIt vMo la vBy vTy mi vMi pn vPs gn vGs fn vFt le vTo 0 0 1 ca an co vPr vSt vFn sn vSg vAl dr)]) hP hD hC [1, 2, 3, 4, 5, 6, 7] rfl (by decide +kernel) (by decide +kernel) hk1 hFc hP1 hD1 rfl
  clear hP hD hPc hDc hFc hC hP1 hD1 hK1 hz1 hk1 hvm ht
  obtain ⟨hP, hD⟩ := hJ
  generalize H1 = H at hP hS ⊢
  try dsimp only at hw
  by_cases c_2 : 0 ≤ p1 ∧ p1 < pn
  · rw [if_pos c_2] at hw
    refine k_topi (v := 1) hw ?_
    refine lv_if_eq (tgt := 39) hx₀ hb dX12_flies_20 (by decide) (fun c9 => absurd c9 (by decide +kernel)) (fun _ => ?_)
    refine lv_aload_n hx₀ hb dX12_flies_23 rfl (lv_at hl 0 rfl) ?_
    refine lv_iload_n hx₀ hb dX12_flies_24 rfl (lv_at hl 2 rfl) ?_
    obtain ⟨hPc, hDc, hFc, hC⟩ := k_cw (wc := [(kX12 hm vFo vSi vIt vMo la vBy vTy mi vMi pn vPs gn vGs fn vFt le vTo 0 0 1 ca an co vPr vSt vFn sn vSg vAl dr)]) hP hD hS hA [7] (by decide +kernel) rfl
    refine va_calli (va_runV (As := [.int le1]) (rest := []) ⟨hx₀, hb, hml, hown, hts⟩ (g_isGoose l dC dI cI cJ cQ H.size hm le1 vFo vSi vIt vMo la vBy vTy mi vMi pn vPs gn vGs fn vFt le vTo 0 0 1 ca an co vPr vSt vFn sn vSg vAl dr (hh2)) (cwV 1 hts (kGV wd_345 wd_342 wd_343 wd_344 wd_5) rfl rfl rfl (by decide +kernel) ⟨Nat.le_of_ble_eq_true rfl, Nat.le_of_ble_eq_true rfl⟩) (k_preV (ci := 11) (q0 := 0) hK hPc hDc hN rfl rfl) rfl rfl hl.1 rfl (lv_room (Nat.le_of_ble_eq_true rfl)) dX12_flies_25 ⟨by decide +kernel, by decide +kernel⟩) hS (fun q _ h => hFc q h) hFc (fun r_3 u₀ t₀ H1 locs ht hvm hw hB hz1 hk1 hS => ?_)
    obtain ⟨hP1, hK1, hD1⟩ := hB
    rw [ht] at hP1
    have hJ := k_jn (wr := [(kAI vMi cI 24 qMi), (kAI vPs cI 32 qPs), (kAI vGs cI 16 qGs), (kAI vTo cI 96 qTo), (kAI vPr cI 2 qPr), (kAI vSt cI 2 qSt), (kAI vFn cI 2 qFn)]) (wt := [(kAI vMi cI 24 qMi), (kAI vPs cI 32 qPs), (kAI vGs cI 16 qGs), (kAI vTo cI 96 qTo), (kAI vPr cI 2 qPr), (kAI vSt cI 2 qSt), (kAI vFn cI 2 qFn), (kX12 hm vFo vSi vIt vMo la vBy vTy mi vMi pn vPs gn vGs fn vFt le vTo 0 0 1 ca an co vPr vSt vFn sn vSg vAl dr)]) hP hD hC [0, 1, 2, 3, 4, 5, 6] rfl (by decide +kernel) (by decide +kernel) hk1 hFc hP1 hD1 rfl
    clear hP hD hPc hDc hFc hC hP1 hD1 hK1 hz1 hk1 hvm ht
    obtain ⟨hP, hD⟩ := hJ
    generalize H1 = H at hP hS ⊢
    try dsimp only at hw
    by_cases c_4 : 0 ≤ le1 ∧ le1 < gn
    · rw [if_pos c_4] at hw
      refine k_topi (v := 1) hw ?_
      refine lv_if_eq (tgt := 39) hx₀ hb dX12_flies_28 (by decide) (fun c9 => absurd c9 (by decide +kernel)) (fun _ => ?_)
      refine lv_aload_n hx₀ hb dX12_flies_31 rfl (lv_at hl 0 rfl) ?_
      refine lv_iload_n hx₀ hb dX12_flies_32 rfl (lv_at hl 3 rfl) ?_
      obtain ⟨hPc, hDc, hFc, hC⟩ := k_cw (wc := [(kX12 hm vFo vSi vIt vMo la vBy vTy mi vMi pn vPs gn vGs fn vFt le vTo 0 0 1 ca an co vPr vSt vFn sn vSg vAl dr)]) hP hD hS hA [7] (by decide +kernel) rfl
      refine va_calli (va_runV (As := [.int ri1]) (rest := []) ⟨hx₀, hb, hml, hown, hts⟩ (g_isGoose l dC dI cI cJ cQ H.size hm ri1 vFo vSi vIt vMo la vBy vTy mi vMi pn vPs gn vGs fn vFt le vTo 0 0 1 ca an co vPr vSt vFn sn vSg vAl dr (hh2)) (cwV 1 hts (kGV wd_345 wd_342 wd_343 wd_344 wd_5) rfl rfl rfl (by decide +kernel) ⟨Nat.le_of_ble_eq_true rfl, Nat.le_of_ble_eq_true rfl⟩) (k_preV (ci := 11) (q0 := 0) hK hPc hDc hN rfl rfl) rfl rfl hl.1 rfl (lv_room (Nat.le_of_ble_eq_true rfl)) dX12_flies_33 ⟨by decide +kernel, by decide +kernel⟩) hS (fun q _ h => hFc q h) hFc (fun r_5 u₀ t₀ H1 locs ht hvm hw hB hz1 hk1 hS => ?_)
      obtain ⟨hP1, hK1, hD1⟩ := hB
      rw [ht] at hP1
      have hJ := k_jn (wr := [(kAI vMi cI 24 qMi), (kAI vPs cI 32 qPs), (kAI vGs cI 16 qGs), (kAI vTo cI 96 qTo), (kAI vPr cI 2 qPr), (kAI vSt cI 2 qSt), (kAI vFn cI 2 qFn)]) (wt := [(kAI vMi cI 24 qMi), (kAI vPs cI 32 qPs), (kAI vGs cI 16 qGs), (kAI vTo cI 96 qTo), (kAI vPr cI 2 qPr), (kAI vSt cI 2 qSt), (kAI vFn cI 2 qFn), (kX12 hm vFo vSi vIt vMo la vBy vTy mi vMi pn vPs gn vGs fn vFt le vTo 0 0 1 ca an co vPr vSt vFn sn vSg vAl dr)]) hP hD hC [0, 1, 2, 3, 4, 5, 6] rfl (by decide +kernel) (by decide +kernel) hk1 hFc hP1 hD1 rfl
      clear hP hD hPc hDc hFc hC hP1 hD1 hK1 hz1 hk1 hvm ht
      obtain ⟨hP, hD⟩ := hJ
      generalize H1 = H at hP hS ⊢
      try dsimp only at hw
      by_cases c_6 : 0 ≤ ri1 ∧ ri1 < gn
      · rw [if_pos c_6] at hw
        refine k_topi (v := 1) hw ?_
        refine lv_if_ne (tgt := 40) hx₀ hb dX12_flies_36 (by decide) (fun _ => ?_) (fun c9 => absurd c9 (by decide +kernel))
        refine lv_aload_n hx₀ hb dX12_flies_40 rfl (lv_at hl 0 rfl) ?_
        refine va_get (D := (dC, dI)) (ci := 11) (v := .ref vPr) (C := RX12) (T := TX12) (N := 30) hx₀ hb hts inlX12 hown hK hP 7 rfl rfl 23 (by decide) (hts (.fieldLink RX12 43 "BittenStickModel" "pair" "[I") wd_126) (fun _ h9 => h9) rfl dX12_flies_41 ?_
        refine lv_iconst (v := 0) hx₀ hb dX12_flies_44 (by decide +kernel) ?_
        refine lv_iload_n hx₀ hb dX12_flies_45 rfl (lv_at hl 2 rfl) ?_
        refine va_iast hx₀ hb hK hP hD hS 4 0 rfl rfl (by unfold vp_in; decide +kernel) dX12_flies_46 ?_
        clear hP hD hS
        intro H locs hP hD hS
        replace hP := k_w2 (wt := [(kAI vMi cI 24 qMi), (kAI vPs cI 32 qPs), (kAI vGs cI 16 qGs), (kAI vTo cI 96 qTo), (kAI vPr cI 2 (upd qPr (0 : Int32).toNatClampNeg le1)), (kAI vSt cI 2 qSt), (kAI vFn cI 2 qFn), (kX12 hm vFo vSi vIt vMo la vBy vTy mi vMi pn vPs gn vGs fn vFt le vTo 0 0 1 ca an co vPr vSt vFn sn vSg vAl dr)]) hP hD rfl
        replace hD := hP.2
        replace hP := hP.1
        refine lv_aload_n hx₀ hb dX12_flies_47 rfl (lv_at hl 0 rfl) ?_
        refine va_get (D := (dC, dI)) (ci := 11) (v := .ref vPr) (C := RX12) (T := TX12) (N := 30) hx₀ hb hts inlX12 hown hK hP 7 rfl rfl 23 (by decide) (hts (.fieldLink RX12 43 "BittenStickModel" "pair" "[I") wd_126) (fun _ h9 => h9) rfl dX12_flies_48 ?_
        refine lv_iconst (v := 1) hx₀ hb dX12_flies_51 (by decide +kernel) ?_
        refine lv_iload_n hx₀ hb dX12_flies_52 rfl (lv_at hl 3 rfl) ?_
        refine va_iast hx₀ hb hK hP hD hS 4 0 rfl rfl (by unfold vp_in; decide +kernel) dX12_flies_53 ?_
        clear hP hD hS
        intro H locs hP hD hS
        replace hP := k_w2 (wt := [(kAI vMi cI 24 qMi), (kAI vPs cI 32 qPs), (kAI vGs cI 16 qGs), (kAI vTo cI 96 qTo), (kAI vPr cI 2 (upd (upd qPr (0 : Int32).toNatClampNeg le1) (1 : Int32).toNatClampNeg ri1)), (kAI vSt cI 2 qSt), (kAI vFn cI 2 qFn), (kX12 hm vFo vSi vIt vMo la vBy vTy mi vMi pn vPs gn vGs fn vFt le vTo 0 0 1 ca an co vPr vSt vFn sn vSg vAl dr)]) hP hD rfl
        replace hD := hP.2
        replace hP := hP.1
        refine lv_iconst (v := 0) hx₀ hb dX12_flies_54 (by decide +kernel) ?_
        refine lv_istore (lv' := [(7, .int 0), (0, .ref hm), (1, .int p1), (2, .int le1), (3, .int ri1), (4, .int h1), (5, .int fr), (6, .int th)]) hx₀ hb dX12_flies_55 hl (by decide) rfl (fun ls hl => ?_)
        refine lv_iload hx₀ hb dX12_flies_57 (lv_at hl 0 rfl) ?_
        refine lv_iconst (v := 2) hx₀ hb dX12_flies_59 (by decide +kernel) ?_
        refine lv_icmp_ge (tgt := 98) hx₀ hb dX12_flies_60 (by decide) (fun c9 => absurd c9 (by decide +kernel)) (fun _ => ?_)
        refine lv_aload_n hx₀ hb dX12_flies_63 rfl (lv_at hl 1 rfl) ?_
        refine va_get (D := (dC, dI)) (ci := 11) (v := .ref vSt) (C := RX12) (T := TX12) (N := 30) hx₀ hb hts inlX12 hown hK hP 7 rfl rfl 24 (by decide) (hts (.fieldLink RX12 46 "BittenStickModel" "strong" "[I") wd_127) (fun _ h9 => h9) rfl dX12_flies_64 ?_
        refine lv_iload hx₀ hb dX12_flies_67 (lv_at hl 0 rfl) ?_
        refine lv_aload_n hx₀ hb dX12_flies_69 rfl (lv_at hl 1 rfl) ?_
        refine va_get (D := (dC, dI)) (ci := 11) (v := .ref vGs) (C := RX12) (T := TX12) (N := 30) hx₀ hb hts inlX12 hown hK hP 7 rfl rfl 12 (by decide) (hts (.fieldLink RX12 34 "BittenStickModel" "goose" "[I") wd_123) (fun _ h9 => h9) rfl dX12_flies_70 ?_
        refine lv_iconst (v := 2) hx₀ hb dX12_flies_73 (by decide +kernel) ?_
        refine lv_aload_n hx₀ hb dX12_flies_74 rfl (lv_at hl 1 rfl) ?_
        refine va_get (D := (dC, dI)) (ci := 11) (v := .ref vPr) (C := RX12) (T := TX12) (N := 30) hx₀ hb hts inlX12 hown hK hP 7 rfl rfl 23 (by decide) (hts (.fieldLink RX12 43 "BittenStickModel" "pair" "[I") wd_126) (fun _ h9 => h9) rfl dX12_flies_75 ?_
        refine lv_iload hx₀ hb dX12_flies_78 (lv_at hl 0 rfl) ?_
        refine va_iald hx₀ hb hK hP 4 0 rfl rfl (by unfold vp_in; decide +kernel) dX12_flies_80 ?_
        refine k_topi (v := le1) rfl ?_
        refine lv_imul hx₀ hb dX12_flies_81 ?_
        refine va_iald hx₀ hb hK hP 2 0 rfl rfl (vp_in_iff.mpr (lf_e_flies_1 gn le1 ri1 hh2 c_4 c_6)) dX12_flies_82 ?_
        refine k_topi (v := kG0 qGs le1) rfl ?_
        refine va_iast hx₀ hb hK hP hD hS 5 0 rfl rfl (by unfold vp_in; decide +kernel) dX12_flies_83 ?_
        clear hP hD hS
        intro H locs hP hD hS
        replace hP := k_w2 (wt := [(kAI vMi cI 24 qMi), (kAI vPs cI 32 qPs), (kAI vGs cI 16 qGs), (kAI vTo cI 96 qTo), (kAI vPr cI 2 (upd (upd qPr (0 : Int32).toNatClampNeg le1) (1 : Int32).toNatClampNeg ri1)), (kAI vSt cI 2 (upd qSt (0 : Int32).toNatClampNeg (kG0 qGs le1))), (kAI vFn cI 2 qFn), (kX12 hm vFo vSi vIt vMo la vBy vTy mi vMi pn vPs gn vGs fn vFt le vTo 0 0 1 ca an co vPr vSt vFn sn vSg vAl dr)]) hP hD rfl
        replace hD := hP.2
        replace hP := hP.1
        refine lv_aload_n hx₀ hb dX12_flies_84 rfl (lv_at hl 1 rfl) ?_
        refine va_get (D := (dC, dI)) (ci := 11) (v := .ref vFn) (C := RX12) (T := TX12) (N := 30) hx₀ hb hts inlX12 hown hK hP 7 rfl rfl 25 (by decide) (hts (.fieldLink RX12 49 "BittenStickModel" "flown" "[I") wd_128) (fun _ h9 => h9) rfl dX12_flies_85 ?_
        refine lv_iload hx₀ hb dX12_flies_88 (lv_at hl 0 rfl) ?_
        refine lv_iconst (v := 0) hx₀ hb dX12_flies_90 (by decide +kernel) ?_
        refine va_iast hx₀ hb hK hP hD hS 6 0 rfl rfl (by unfold vp_in; decide +kernel) dX12_flies_91 ?_
        clear hP hD hS
        intro H locs hP hD hS
        replace hP := k_w2 (wt := [(kAI vMi cI 24 qMi), (kAI vPs cI 32 qPs), (kAI vGs cI 16 qGs), (kAI vTo cI 96 qTo), (kAI vPr cI 2 (upd (upd qPr (0 : Int32).toNatClampNeg le1) (1 : Int32).toNatClampNeg ri1)), (kAI vSt cI 2 (upd qSt (0 : Int32).toNatClampNeg (kG0 qGs le1))), (kAI vFn cI 2 (upd qFn (0 : Int32).toNatClampNeg 0)), (kX12 hm vFo vSi vIt vMo la vBy vTy mi vMi pn vPs gn vGs fn vFt le vTo 0 0 1 ca an co vPr vSt vFn sn vSg vAl dr)]) hP hD rfl
        replace hD := hP.2
        replace hP := hP.1
        refine lv_iinc (v := 1) (lv' := [(7, .int 1), (0, .ref hm), (1, .int p1), (2, .int le1), (3, .int ri1), (4, .int h1), (5, .int fr), (6, .int th)]) hx₀ hb dX12_flies_92 hl (k := 0) rfl (by decide +kernel) (by decide) rfl (fun ls hl => ?_)
        refine lv_goto (tgt := 57) hx₀ hb dX12_flies_95 (by decide) ?_
        refine lv_iload hx₀ hb dX12_flies_57 (lv_at hl 0 rfl) ?_
        refine lv_iconst (v := 2) hx₀ hb dX12_flies_59 (by decide +kernel) ?_
        refine lv_icmp_ge (tgt := 98) hx₀ hb dX12_flies_60 (by decide) (fun c9 => absurd c9 (by decide +kernel)) (fun _ => ?_)
        refine lv_aload_n hx₀ hb dX12_flies_63 rfl (lv_at hl 1 rfl) ?_
        refine va_get (D := (dC, dI)) (ci := 11) (v := .ref vSt) (C := RX12) (T := TX12) (N := 30) hx₀ hb hts inlX12 hown hK hP 7 rfl rfl 24 (by decide) (hts (.fieldLink RX12 46 "BittenStickModel" "strong" "[I") wd_127) (fun _ h9 => h9) rfl dX12_flies_64 ?_
        refine lv_iload hx₀ hb dX12_flies_67 (lv_at hl 0 rfl) ?_
        refine lv_aload_n hx₀ hb dX12_flies_69 rfl (lv_at hl 1 rfl) ?_
        refine va_get (D := (dC, dI)) (ci := 11) (v := .ref vGs) (C := RX12) (T := TX12) (N := 30) hx₀ hb hts inlX12 hown hK hP 7 rfl rfl 12 (by decide) (hts (.fieldLink RX12 34 "BittenStickModel" "goose" "[I") wd_123) (fun _ h9 => h9) rfl dX12_flies_70 ?_
        refine lv_iconst (v := 2) hx₀ hb dX12_flies_73 (by decide +kernel) ?_
        refine lv_aload_n hx₀ hb dX12_flies_74 rfl (lv_at hl 1 rfl) ?_
        refine va_get (D := (dC, dI)) (ci := 11) (v := .ref vPr) (C := RX12) (T := TX12) (N := 30) hx₀ hb hts inlX12 hown hK hP 7 rfl rfl 23 (by decide) (hts (.fieldLink RX12 43 "BittenStickModel" "pair" "[I") wd_126) (fun _ h9 => h9) rfl dX12_flies_75 ?_
        refine lv_iload hx₀ hb dX12_flies_78 (lv_at hl 0 rfl) ?_
        refine va_iald hx₀ hb hK hP 4 0 rfl rfl (by unfold vp_in; decide +kernel) dX12_flies_80 ?_
        refine k_topi (v := ri1) rfl ?_
        refine lv_imul hx₀ hb dX12_flies_81 ?_
        refine va_iald hx₀ hb hK hP 2 0 rfl rfl (vp_in_iff.mpr (lf_e_flies_2 gn le1 ri1 hh2 c_4 c_6)) dX12_flies_82 ?_
        refine k_topi (v := kG0 qGs ri1) rfl ?_
        refine va_iast hx₀ hb hK hP hD hS 5 0 rfl rfl (by unfold vp_in; decide +kernel) dX12_flies_83 ?_
        clear hP hD hS
        intro H locs hP hD hS
        replace hP := k_w2 (wt := [(kAI vMi cI 24 qMi), (kAI vPs cI 32 qPs), (kAI vGs cI 16 qGs), (kAI vTo cI 96 qTo), (kAI vPr cI 2 (upd (upd qPr (0 : Int32).toNatClampNeg le1) (1 : Int32).toNatClampNeg ri1)), (kAI vSt cI 2 (upd (upd qSt (0 : Int32).toNatClampNeg (kG0 qGs le1)) (1 : Int32).toNatClampNeg (kG0 qGs ri1))), (kAI vFn cI 2 (upd qFn (0 : Int32).toNatClampNeg 0)), (kX12 hm vFo vSi vIt vMo la vBy vTy mi vMi pn vPs gn vGs fn vFt le vTo 0 0 1 ca an co vPr vSt vFn sn vSg vAl dr)]) hP hD rfl
        replace hD := hP.2
        replace hP := hP.1
        refine lv_aload_n hx₀ hb dX12_flies_84 rfl (lv_at hl 1 rfl) ?_
        refine va_get (D := (dC, dI)) (ci := 11) (v := .ref vFn) (C := RX12) (T := TX12) (N := 30) hx₀ hb hts inlX12 hown hK hP 7 rfl rfl 25 (by decide) (hts (.fieldLink RX12 49 "BittenStickModel" "flown" "[I") wd_128) (fun _ h9 => h9) rfl dX12_flies_85 ?_
        refine lv_iload hx₀ hb dX12_flies_88 (lv_at hl 0 rfl) ?_
        refine lv_iconst (v := 0) hx₀ hb dX12_flies_90 (by decide +kernel) ?_
        refine va_iast hx₀ hb hK hP hD hS 6 0 rfl rfl (by unfold vp_in; decide +kernel) dX12_flies_91 ?_
        clear hP hD hS
        intro H locs hP hD hS
        replace hP := k_w2 (wt := [(kAI vMi cI 24 qMi), (kAI vPs cI 32 qPs), (kAI vGs cI 16 qGs), (kAI vTo cI 96 qTo), (kAI vPr cI 2 (upd (upd qPr (0 : Int32).toNatClampNeg le1) (1 : Int32).toNatClampNeg ri1)), (kAI vSt cI 2 (upd (upd qSt (0 : Int32).toNatClampNeg (kG0 qGs le1)) (1 : Int32).toNatClampNeg (kG0 qGs ri1))), (kAI vFn cI 2 (upd (upd qFn (0 : Int32).toNatClampNeg 0) (1 : Int32).toNatClampNeg 0)), (kX12 hm vFo vSi vIt vMo la vBy vTy mi vMi pn vPs gn vGs fn vFt le vTo 0 0 1 ca an co vPr vSt vFn sn vSg vAl dr)]) hP hD rfl
        replace hD := hP.2
        replace hP := hP.1
        refine lv_iinc (v := 2) (lv' := [(7, .int 2), (0, .ref hm), (1, .int p1), (2, .int le1), (3, .int ri1), (4, .int h1), (5, .int fr), (6, .int th)]) hx₀ hb dX12_flies_92 hl (k := 0) rfl (by decide +kernel) (by decide) rfl (fun ls hl => ?_)
        refine lv_goto (tgt := 57) hx₀ hb dX12_flies_95 (by decide) ?_
        refine lv_iload hx₀ hb dX12_flies_57 (lv_at hl 0 rfl) ?_
        refine lv_iconst (v := 2) hx₀ hb dX12_flies_59 (by decide +kernel) ?_
        refine lv_icmp_ge (tgt := 98) hx₀ hb dX12_flies_60 (by decide) (fun _ => ?_) (fun c9 => absurd (by decide +kernel) c9)
        refine lv_aload_n hx₀ hb dX12_flies_98 rfl (lv_at hl 1 rfl) ?_
        refine lv_iconst (v := 0) hx₀ hb dX12_flies_99 (by decide +kernel) ?_
        refine va_put (D := (dC, dI)) (ci := 11) (v := .int 0) (ty := .int) (C := RX12) (T := TX12) (N := 30) hx₀ hb hts inlX12 tyX12 tyX12_ok nmX12 hown hK hP hD hS 7 rfl rfl 21 (by decide) (hts (.fieldLink RX12 184 "BittenStickModel" "anger" "I") wd_544) (fun _ h9 => h9) rfl (by decide +kernel) rfl rfl (Nat.le_of_ble_eq_true rfl) dX12_flies_100 ?_
        clear hP hD hS
        intro H locs hP hD hS
        replace hP := k_w2 (wt := [(kAI vMi cI 24 qMi), (kAI vPs cI 32 qPs), (kAI vGs cI 16 qGs), (kAI vTo cI 96 qTo), (kAI vPr cI 2 (upd (upd qPr (0 : Int32).toNatClampNeg le1) (1 : Int32).toNatClampNeg ri1)), (kAI vSt cI 2 (upd (upd qSt (0 : Int32).toNatClampNeg (kG0 qGs le1)) (1 : Int32).toNatClampNeg (kG0 qGs ri1))), (kAI vFn cI 2 (upd (upd qFn (0 : Int32).toNatClampNeg 0) (1 : Int32).toNatClampNeg 0)), (kX12 hm vFo vSi vIt vMo la vBy vTy mi vMi pn vPs gn vGs fn vFt le vTo 0 0 1 ca 0 co vPr vSt vFn sn vSg vAl dr)]) hP hD rfl
        replace hD := hP.2
        replace hP := hP.1
        refine lv_aload_n hx₀ hb dX12_flies_103 rfl (lv_at hl 1 rfl) ?_
        refine lv_iconst (v := 0) hx₀ hb dX12_flies_104 (by decide +kernel) ?_
        refine va_put (D := (dC, dI)) (ci := 11) (v := .int 0) (ty := .int) (C := RX12) (T := TX12) (N := 30) hx₀ hb hts inlX12 tyX12 tyX12_ok nmX12 hown hK hP hD hS 7 rfl rfl 22 (by decide) (hts (.fieldLink RX12 177 "BittenStickModel" "cold" "I") wd_545) (fun _ h9 => h9) rfl (by decide +kernel) rfl rfl (Nat.le_of_ble_eq_true rfl) dX12_flies_105 ?_
        clear hP hD hS
        intro H locs hP hD hS
        replace hP := k_w2 (wt := [(kAI vMi cI 24 qMi), (kAI vPs cI 32 qPs), (kAI vGs cI 16 qGs), (kAI vTo cI 96 qTo), (kAI vPr cI 2 (upd (upd qPr (0 : Int32).toNatClampNeg le1) (1 : Int32).toNatClampNeg ri1)), (kAI vSt cI 2 (upd (upd qSt (0 : Int32).toNatClampNeg (kG0 qGs le1)) (1 : Int32).toNatClampNeg (kG0 qGs ri1))), (kAI vFn cI 2 (upd (upd qFn (0 : Int32).toNatClampNeg 0) (1 : Int32).toNatClampNeg 0)), (kX12 hm vFo vSi vIt vMo la vBy vTy mi vMi pn vPs gn vGs fn vFt le vTo 0 0 1 ca 0 0 vPr vSt vFn sn vSg vAl dr)]) hP hD rfl
        replace hD := hP.2
        replace hP := hP.1
        refine lv_aload_n hx₀ hb dX12_flies_108 rfl (lv_at hl 1 rfl) ?_
        refine lv_iconst (v := 0) hx₀ hb dX12_flies_109 (by decide +kernel) ?_
        refine va_put (D := (dC, dI)) (ci := 11) (v := .int 0) (ty := .int) (C := RX12) (T := TX12) (N := 30) hx₀ hb hts inlX12 tyX12 tyX12_ok nmX12 hown hK hP hD hS 7 rfl rfl 19 (by decide) (hts (.fieldLink RX12 196 "BittenStickModel" "end" "I") wd_543) (fun _ h9 => h9) rfl (by decide +kernel) rfl rfl (Nat.le_of_ble_eq_true rfl) dX12_flies_110 ?_
        clear hP hD hS
        intro H locs hP hD hS
        replace hP := k_w2 (wt := [(kAI vMi cI 24 qMi), (kAI vPs cI 32 qPs), (kAI vGs cI 16 qGs), (kAI vTo cI 96 qTo), (kAI vPr cI 2 (upd (upd qPr (0 : Int32).toNatClampNeg le1) (1 : Int32).toNatClampNeg ri1)), (kAI vSt cI 2 (upd (upd qSt (0 : Int32).toNatClampNeg (kG0 qGs le1)) (1 : Int32).toNatClampNeg (kG0 qGs ri1))), (kAI vFn cI 2 (upd (upd qFn (0 : Int32).toNatClampNeg 0) (1 : Int32).toNatClampNeg 0)), (kX12 hm vFo vSi vIt vMo la vBy vTy mi vMi pn vPs gn vGs fn vFt le vTo 0 0 0 ca 0 0 vPr vSt vFn sn vSg vAl dr)]) hP hD rfl
        replace hD := hP.2
        replace hP := hP.1
        refine lv_iconst (v := 0) hx₀ hb dX12_flies_113 (by decide +kernel) ?_
        refine lv_istore (lv' := [(7, .int 0), (0, .ref hm), (1, .int p1), (2, .int le1), (3, .int ri1), (4, .int h1), (5, .int fr), (6, .int th)]) hx₀ hb dX12_flies_114 hl (by decide) rfl (fun ls hl => ?_)
        refine (?keyz7 : ∀ (jz7 : Nat) (mz7 : Int32) (knz7 : Int32) (fez7 : Int32) (enz7 : Int32) (anz7 : Int32) (coz7 : Int32) (qtz7 : Nat → Int32) (qpz7 : Nat → Int32) (qsz7 : Nat → Int32) (qfz7 : Nat → Int32) (H : Heap) (locs : List Loc) (ls : Array Slot), (0 ≤ mz7 ∧ mz7 ≤ mi) → (0 ≤ knz7 ∧ knz7 ≤ mz7) → (0 ≤ fez7 ∧ fez7 ≤ mz7) → (k_fr (kMc (kM qMi) ca) (kP3 qPs p1) mi le (kP0 qPs p1) (kP1 qPs p1) (5 * (kP2 qPs p1)) (fun x9 => if x9 < fr then h1 else th) (kCt (kMc (kM qMi) ca) (kP3 qPs p1) (kfu mi 0) 0 ((kG0 qGs le1, kG1 qGs le1, kG0 qGs le1, 0), (kG0 qGs ri1, kG1 qGs ri1, kG0 qGs ri1, 0))) mz7 knz7 fez7 enz7 anz7 coz7 qtz7 (kPS qGs qpz7 qsz7 qfz7)) → (k_bd 2 0 7 qpz7) → (0 ≤ fez7 ∧ fez7 ≤ 24) → (enz7 = 0 ∨ knz7 = 0 ∨ fez7 ≤ 23) → (0 ≤ knz7 ∧ knz7 ≤ 24) → ((mi.toInt - mz7.toInt).toNat = jz7) → va_P (dC, dI) vwCl [(kAI vMi cI 24 qMi), (kAI vPs cI 32 qPs), (kAI vGs cI 16 qGs), (kAI vTo cI 96 qtz7), (kAI vPr cI 2 qpz7), (kAI vSt cI 2 qsz7), (kAI vFn cI 2 qfz7), (kX12 hm vFo vSi vIt vMo la vBy vTy mi vMi pn vPs gn vGs fn vFt le vTo knz7 fez7 enz7 ca anz7 coz7 vPr vSt vFn sn vSg vAl dr)] H → va_D A [(kAI vMi cI 24 qMi), (kAI vPs cI 32 qPs), (kAI vGs cI 16 qGs), (kAI vTo cI 96 qtz7), (kAI vPr cI 2 qpz7), (kAI vSt cI 2 qsz7), (kAI vFn cI 2 qfz7), (kX12 hm vFo vSi vIt vMo la vBy vTy mi vMi pn vPs gn vGs fn vFt le vTo knz7 fez7 enz7 ca anz7 coz7 vPr vSt vFn sn vSg vAl dr)] → va_S A s₀.heap H locs → lv_has ls 8 [(7, .int mz7), (0, .ref hm), (1, .int p1), (2, .int le1), (3, .int ri1), (4, .int h1), (5, .int fr), (6, .int th)] → W p₀ l e₀ _ s₀ m₀ _ below meth c₀ H locs _ _ _ (F0 m₀ 116 ls [])) _ (0 : Int32) (0 : Int32) (0 : Int32) (0 : Int32) (0 : Int32) (0 : Int32) _ _ _ _ H locs ls (show 0 ≤ (0 : Int32) ∧ (0 : Int32) ≤ mi from ⟨(by decide), hh0.1⟩) (show 0 ≤ (0 : Int32) ∧ (0 : Int32) ≤ (0 : Int32) from ⟨(by decide), (by decide)⟩) (show 0 ≤ (0 : Int32) ∧ (0 : Int32) ≤ (0 : Int32) from ⟨(by decide), (by decide)⟩) (k_fr_0 (hh6 p1 (c_2)) rfl) (k_bd2 (lf_g_flies_1 gn le1 ri1 hh2 c_4 c_6) (lf_g_flies_2 gn le1 ri1 hh2 c_4 c_6)) (show 0 ≤ (0 : Int32) ∧ (0 : Int32) ≤ 24 from ⟨(by decide), (by decide)⟩) (show (0 : Int32) = 0 ∨ (0 : Int32) = 0 ∨ (0 : Int32) ≤ 23 from (Or.inl (rfl))) (show 0 ≤ (0 : Int32) ∧ (0 : Int32) ≤ 24 from ⟨(by decide), (by decide)⟩) rfl hP hD hS hl
        clear hP hD hS hl
        intro jz7
        induction jz7 using Nat.strongRecOn with
        | ind jz7 ihz7 =>
          intro mz7 knz7 fez7 enz7 anz7 coz7 qtz7 qpz7 qsz7 qfz7 H locs ls hiz7_0 hiz7_1 hiz7_2 hiz7_3 hiz7_4 hiz7_5 hiz7_6 hiz7_7 hjz7 hP hD hS hl
          refine lv_iload hx₀ hb dX12_flies_116 (lv_at hl 0 rfl) ?_
          refine lv_aload_n hx₀ hb dX12_flies_118 rfl (lv_at hl 1 rfl) ?_
          refine va_get (D := (dC, dI)) (ci := 11) (v := .int mi) (C := RX12) (T := TX12) (N := 30) hx₀ hb hts inlX12 hown hK hP 7 rfl rfl 7 (by decide) (hts (.fieldLink RX12 107 "BittenStickModel" "miles" "I") wd_252) (fun _ h9 => h9) rfl dX12_flies_119 ?_
          refine lv_icmp_ge (tgt := 255) hx₀ hb dX12_flies_122 (by decide) (fun c_8 => ?_) (fun c_8 => ?_)
          · obtain ⟨hP9, hD9⟩ := k_c2 (wc := [(kX12 hm vFo vSi vIt vMo la vBy vTy mi vMi pn vPs gn vGs fn vFt le vTo knz7 fez7 enz7 ca anz7 coz7 vPr vSt vFn sn vSg vAl dr), (kAI vMi cI 24 qMi), (kAI vPs cI 32 qPs), (kAI vGs cI 16 qGs), (kAI vTo cI 96 qtz7), (kAI vPr cI 2 qpz7), (kAI vSt cI 2 qsz7), (kAI vFn cI 2 qfz7)]) hP hD [7, 0, 1, 2, 3, 4, 5, 6] (by decide +kernel) rfl
            exact W.vret hx₀ hb hr (fun t₀ ht hW => ⟨⟨(k_fn [knz7, fez7, enz7, anz7, coz7], k_fa [qtz7, qpz7, qsz7, qfz7], k_fl [], k_fL [], k_fp []), rfl, ⟨hiz7_4, hiz7_5, hiz7_6, hiz7_7, (k_fd_y (show (0 ≤ p1 ∧ p1 < pn) ∧ (0 ≤ le1 ∧ le1 < gn) ∧ 0 ≤ ri1 ∧ ri1 < gn from ⟨⟨c_2.1, c_2.2⟩, ⟨c_4.1, c_4.2⟩, c_6.1, c_6.2⟩) (k_fr_end hiz7_3 (hiz7_0.2) (hh0.2) (Or.inl c_8)))⟩, by rw [ht]; exact hP9, va_K.moved hW.alike hK, hD9⟩, hS.F ht⟩) hS.2.2 dX12_flies_255
          · refine lv_aload_n hx₀ hb dX12_flies_125 rfl (lv_at hl 1 rfl) ?_
            refine va_get (D := (dC, dI)) (ci := 11) (v := .int enz7) (C := RX12) (T := TX12) (N := 30) hx₀ hb hts inlX12 hown hK hP 7 rfl rfl 19 (by decide) (hts (.fieldLink RX12 196 "BittenStickModel" "end" "I") wd_543) (fun _ h9 => h9) rfl dX12_flies_126 ?_
            refine lv_if_ne (tgt := 255) hx₀ hb dX12_flies_129 (by decide) (fun c_9 => ?_) (fun c_9 => ?_)
            · obtain ⟨hP9, hD9⟩ := k_c2 (wc := [(kX12 hm vFo vSi vIt vMo la vBy vTy mi vMi pn vPs gn vGs fn vFt le vTo knz7 fez7 enz7 ca anz7 coz7 vPr vSt vFn sn vSg vAl dr), (kAI vMi cI 24 qMi), (kAI vPs cI 32 qPs), (kAI vGs cI 16 qGs), (kAI vTo cI 96 qtz7), (kAI vPr cI 2 qpz7), (kAI vSt cI 2 qsz7), (kAI vFn cI 2 qfz7)]) hP hD [7, 0, 1, 2, 3, 4, 5, 6] (by decide +kernel) rfl
              exact W.vret hx₀ hb hr (fun t₀ ht hW => ⟨⟨(k_fn [knz7, fez7, enz7, anz7, coz7], k_fa [qtz7, qpz7, qsz7, qfz7], k_fl [], k_fL [], k_fp []), rfl, ⟨hiz7_4, hiz7_5, hiz7_6, hiz7_7, (k_fd_y (show (0 ≤ p1 ∧ p1 < pn) ∧ (0 ≤ le1 ∧ le1 < gn) ∧ 0 ≤ ri1 ∧ ri1 < gn from ⟨⟨c_2.1, c_2.2⟩, ⟨c_4.1, c_4.2⟩, c_6.1, c_6.2⟩) (k_fr_end hiz7_3 (hiz7_0.2) (hh0.2) (Or.inr c_9)))⟩, by rw [ht]; exact hP9, va_K.moved hW.alike hK, hD9⟩, hS.F ht⟩) hS.2.2 dX12_flies_255
            · refine lv_aload_n hx₀ hb dX12_flies_132 rfl (lv_at hl 1 rfl) ?_
              refine lv_aload_n hx₀ hb dX12_flies_133 rfl (lv_at hl 1 rfl) ?_
              refine lv_iload_n hx₀ hb dX12_flies_134 rfl (lv_at hl 2 rfl) ?_
              refine lv_iload hx₀ hb dX12_flies_135 (lv_at hl 0 rfl) ?_
              refine lv_iload hx₀ hb dX12_flies_137 (lv_at hl 0 rfl) ?_
              refine lv_iload hx₀ hb dX12_flies_139 (lv_at hl 6 rfl) ?_
              refine lv_icmp_ge (tgt := 149) hx₀ hb dX12_flies_141 (by decide) (fun c_10 => ?_) (fun c_10 => ?_)
              · refine lv_iload hx₀ hb dX12_flies_149 (lv_at hl 7 rfl) ?_
                obtain ⟨hPc, hDc, hFc, hC⟩ := k_cw (wc := [(kX12 hm vFo vSi vIt vMo la vBy vTy mi vMi pn vPs gn vGs fn vFt le vTo knz7 fez7 enz7 ca anz7 coz7 vPr vSt vFn sn vSg vAl dr), (kAI vMi cI 24 qMi), (kAI vPs cI 32 qPs), (kAI vGs cI 16 qGs), (kAI vPr cI 2 qpz7), (kAI vSt cI 2 qsz7), (kAI vFn cI 2 qfz7)]) hP hD hS hA [7, 0, 1, 2, 4, 5, 6] (by decide +kernel) rfl
                refine va_calli (va_runV (As := [.int p1, .int mz7, .int th]) (rest := [.ref hm]) ⟨hx₀, hb, hml, hown, hts⟩ (e_goes l dC dI cI cJ cQ H.size hm p1 mz7 th vFo vSi vIt vMo la vBy vTy mi vMi pn vPs gn vGs fn vFt le vTo knz7 fez7 enz7 ca anz7 coz7 vPr vSt vFn sn vSg vAl dr qMi qPs qGs qpz7 qsz7 qfz7 (hiz7_4) (lf_g_flies_3 pn p1 hh1 c_2) (lf_g_flies_4 mi mz7 knz7 fez7 enz7 jz7 fr hh0 hiz7_0 hiz7_1 hiz7_2 hiz7_5 hiz7_6 hiz7_7 hjz7 c_8 c_9 c_10) (hh5)) (cwV 3 hts (kGV wd_549 wd_546 wd_547 wd_548 wd_5) rfl rfl rfl (by decide +kernel) ⟨Nat.le_of_ble_eq_true rfl, Nat.le_of_ble_eq_true rfl⟩) (k_preV (ci := 11) (q0 := 0) hK hPc hDc hN rfl rfl) rfl rfl hl.1 rfl (lv_room (Nat.le_of_ble_eq_true rfl)) dX12_flies_151 ⟨by decide +kernel, by decide +kernel⟩) hS (fun q _ h => hFc q h) hFc (fun r_11 u₀ t₀ H1 locs ht hvm hw hB hz1 hk1 hS => ?_)
                obtain ⟨g_12, ga_13, gl_14, gb_15, gp_16⟩ := u₀
                obtain ⟨hP1, hK1, hD1⟩ := hB
                rw [ht] at hP1
                have hJ := k_jn (wr := [(kAI vTo cI 96 qtz7)]) (wt := [(kAI vTo cI 96 qtz7), (kX12 hm vFo vSi vIt vMo la vBy vTy mi vMi pn vPs gn vGs fn vFt le vTo knz7 fez7 enz7 ca (g_12 0) (g_12 1) vPr vSt vFn sn vSg vAl dr), (kAI vMi cI 24 qMi), (kAI vPs cI 32 qPs), (kAI vGs cI 16 qGs), (kAI vPr cI 2 (ga_13 0)), (kAI vSt cI 2 (ga_13 1)), (kAI vFn cI 2 (ga_13 2))]) hP hD hC [3] rfl (by decide +kernel) (by decide +kernel) hk1 hFc hP1 hD1 rfl
                clear hP hD hPc hDc hFc hC hP1 hD1 hK1 hz1 hk1 hvm ht
                obtain ⟨hP, hD⟩ := hJ
                generalize H1 = H at hP hS ⊢
                try dsimp only at hw
                obtain ⟨c_17, c_18⟩ := hw
                refine va_put (D := (dC, dI)) (ci := 11) (v := .int r_11) (ty := .int) (C := RX12) (T := TX12) (N := 30) hx₀ hb hts inlX12 tyX12 tyX12_ok nmX12 hown hK hP hD hS 1 rfl rfl 19 (by decide) (hts (.fieldLink RX12 196 "BittenStickModel" "end" "I") wd_543) (fun _ h9 => h9) rfl (by decide +kernel) rfl rfl (Nat.le_of_ble_eq_true rfl) dX12_flies_154 ?_
                clear hP hD hS
                intro H locs hP hD hS
                replace hP := k_w2 (wt := [(kAI vTo cI 96 qtz7), (kX12 hm vFo vSi vIt vMo la vBy vTy mi vMi pn vPs gn vGs fn vFt le vTo knz7 fez7 r_11 ca (g_12 0) (g_12 1) vPr vSt vFn sn vSg vAl dr), (kAI vMi cI 24 qMi), (kAI vPs cI 32 qPs), (kAI vGs cI 16 qGs), (kAI vPr cI 2 (ga_13 0)), (kAI vSt cI 2 (ga_13 1)), (kAI vFn cI 2 (ga_13 2))]) hP hD rfl
                replace hD := hP.2
                replace hP := hP.1
                refine lv_aload_n hx₀ hb dX12_flies_157 rfl (lv_at hl 1 rfl) ?_
                refine va_get (D := (dC, dI)) (ci := 11) (v := .ref vTo) (C := RX12) (T := TX12) (N := 30) hx₀ hb hts inlX12 hown hK hP 1 rfl rfl 16 (by decide) (hts (.fieldLink RX12 40 "BittenStickModel" "told" "[I") wd_125) (fun _ h9 => h9) rfl dX12_flies_158 ?_
                refine lv_iconst (v := 4) hx₀ hb dX12_flies_161 (by decide +kernel) ?_
                refine lv_iload hx₀ hb dX12_flies_162 (lv_at hl 0 rfl) ?_
                refine lv_imul hx₀ hb dX12_flies_164 ?_
                refine lv_aload_n hx₀ hb dX12_flies_165 rfl (lv_at hl 1 rfl) ?_
                refine va_get (D := (dC, dI)) (ci := 11) (v := .int (g_12 0)) (C := RX12) (T := TX12) (N := 30) hx₀ hb hts inlX12 hown hK hP 1 rfl rfl 21 (by decide) (hts (.fieldLink RX12 184 "BittenStickModel" "anger" "I") wd_544) (fun _ h9 => h9) rfl dX12_flies_166 ?_
                refine va_iast hx₀ hb hK hP hD hS 0 0 rfl rfl (vp_in_iff.mpr (lf_g_flies_5 mi mz7 knz7 fez7 enz7 jz7 fr hh0 hiz7_0 hiz7_1 hiz7_2 hiz7_5 hiz7_6 hiz7_7 hjz7 c_8 c_9 c_10)) dX12_flies_169 ?_
                clear hP hD hS
                intro H locs hP hD hS
                replace hP := k_w2 (wt := [(kAI vTo cI 96 (upd qtz7 (4 * mz7).toNatClampNeg (g_12 0))), (kX12 hm vFo vSi vIt vMo la vBy vTy mi vMi pn vPs gn vGs fn vFt le vTo knz7 fez7 r_11 ca (g_12 0) (g_12 1) vPr vSt vFn sn vSg vAl dr), (kAI vMi cI 24 qMi), (kAI vPs cI 32 qPs), (kAI vGs cI 16 qGs), (kAI vPr cI 2 (ga_13 0)), (kAI vSt cI 2 (ga_13 1)), (kAI vFn cI 2 (ga_13 2))]) hP hD rfl
                replace hD := hP.2
                replace hP := hP.1
                refine lv_aload_n hx₀ hb dX12_flies_170 rfl (lv_at hl 1 rfl) ?_
                refine va_get (D := (dC, dI)) (ci := 11) (v := .ref vTo) (C := RX12) (T := TX12) (N := 30) hx₀ hb hts inlX12 hown hK hP 1 rfl rfl 16 (by decide) (hts (.fieldLink RX12 40 "BittenStickModel" "told" "[I") wd_125) (fun _ h9 => h9) rfl dX12_flies_171 ?_
                refine lv_iconst (v := 4) hx₀ hb dX12_flies_174 (by decide +kernel) ?_
                refine lv_iload hx₀ hb dX12_flies_175 (lv_at hl 0 rfl) ?_
                refine lv_imul hx₀ hb dX12_flies_177 ?_
                refine lv_iconst (v := 1) hx₀ hb dX12_flies_178 (by decide +kernel) ?_
                refine lv_iadd hx₀ hb dX12_flies_179 ?_
                refine lv_aload_n hx₀ hb dX12_flies_180 rfl (lv_at hl 1 rfl) ?_
                refine va_get (D := (dC, dI)) (ci := 11) (v := .int (g_12 1)) (C := RX12) (T := TX12) (N := 30) hx₀ hb hts inlX12 hown hK hP 1 rfl rfl 22 (by decide) (hts (.fieldLink RX12 177 "BittenStickModel" "cold" "I") wd_545) (fun _ h9 => h9) rfl dX12_flies_181 ?_
                refine va_iast hx₀ hb hK hP hD hS 0 0 rfl rfl (vp_in_iff.mpr (lf_g_flies_6 mi mz7 knz7 fez7 enz7 jz7 fr hh0 hiz7_0 hiz7_1 hiz7_2 hiz7_5 hiz7_6 hiz7_7 hjz7 c_8 c_9 c_10)) dX12_flies_184 ?_
                clear hP hD hS
                intro H locs hP hD hS
                replace hP := k_w2 (wt := [(kAI vTo cI 96 (upd (upd qtz7 (4 * mz7).toNatClampNeg (g_12 0)) ((4 * mz7) + 1).toNatClampNeg (g_12 1))), (kX12 hm vFo vSi vIt vMo la vBy vTy mi vMi pn vPs gn vGs fn vFt le vTo knz7 fez7 r_11 ca (g_12 0) (g_12 1) vPr vSt vFn sn vSg vAl dr), (kAI vMi cI 24 qMi), (kAI vPs cI 32 qPs), (kAI vGs cI 16 qGs), (kAI vPr cI 2 (ga_13 0)), (kAI vSt cI 2 (ga_13 1)), (kAI vFn cI 2 (ga_13 2))]) hP hD rfl
                replace hD := hP.2
                replace hP := hP.1
                refine lv_aload_n hx₀ hb dX12_flies_185 rfl (lv_at hl 1 rfl) ?_
                refine va_get (D := (dC, dI)) (ci := 11) (v := .ref vTo) (C := RX12) (T := TX12) (N := 30) hx₀ hb hts inlX12 hown hK hP 1 rfl rfl 16 (by decide) (hts (.fieldLink RX12 40 "BittenStickModel" "told" "[I") wd_125) (fun _ h9 => h9) rfl dX12_flies_186 ?_
                refine lv_iconst (v := 4) hx₀ hb dX12_flies_189 (by decide +kernel) ?_
                refine lv_iload hx₀ hb dX12_flies_190 (lv_at hl 0 rfl) ?_
                refine lv_imul hx₀ hb dX12_flies_192 ?_
                refine lv_iconst (v := 2) hx₀ hb dX12_flies_193 (by decide +kernel) ?_
                refine lv_iadd hx₀ hb dX12_flies_194 ?_
                refine lv_aload_n hx₀ hb dX12_flies_195 rfl (lv_at hl 1 rfl) ?_
                refine va_get (D := (dC, dI)) (ci := 11) (v := .ref vSt) (C := RX12) (T := TX12) (N := 30) hx₀ hb hts inlX12 hown hK hP 1 rfl rfl 24 (by decide) (hts (.fieldLink RX12 46 "BittenStickModel" "strong" "[I") wd_127) (fun _ h9 => h9) rfl dX12_flies_196 ?_
                refine lv_iconst (v := 0) hx₀ hb dX12_flies_199 (by decide +kernel) ?_
                refine va_iald hx₀ hb hK hP 6 0 rfl rfl (by unfold vp_in; decide +kernel) dX12_flies_200 ?_
                refine k_topi (v := (ga_13 1) 0) rfl ?_
                refine va_iast hx₀ hb hK hP hD hS 0 0 rfl rfl (vp_in_iff.mpr (lf_g_flies_7 mi mz7 knz7 fez7 enz7 jz7 fr hh0 hiz7_0 hiz7_1 hiz7_2 hiz7_5 hiz7_6 hiz7_7 hjz7 c_8 c_9 c_10)) dX12_flies_201 ?_
                clear hP hD hS
                intro H locs hP hD hS
                replace hP := k_w2 (wt := [(kAI vTo cI 96 (upd (upd (upd qtz7 (4 * mz7).toNatClampNeg (g_12 0)) ((4 * mz7) + 1).toNatClampNeg (g_12 1)) ((4 * mz7) + 2).toNatClampNeg ((ga_13 1) 0))), (kX12 hm vFo vSi vIt vMo la vBy vTy mi vMi pn vPs gn vGs fn vFt le vTo knz7 fez7 r_11 ca (g_12 0) (g_12 1) vPr vSt vFn sn vSg vAl dr), (kAI vMi cI 24 qMi), (kAI vPs cI 32 qPs), (kAI vGs cI 16 qGs), (kAI vPr cI 2 (ga_13 0)), (kAI vSt cI 2 (ga_13 1)), (kAI vFn cI 2 (ga_13 2))]) hP hD rfl
                replace hD := hP.2
                replace hP := hP.1
                refine lv_aload_n hx₀ hb dX12_flies_202 rfl (lv_at hl 1 rfl) ?_
                refine va_get (D := (dC, dI)) (ci := 11) (v := .ref vTo) (C := RX12) (T := TX12) (N := 30) hx₀ hb hts inlX12 hown hK hP 1 rfl rfl 16 (by decide) (hts (.fieldLink RX12 40 "BittenStickModel" "told" "[I") wd_125) (fun _ h9 => h9) rfl dX12_flies_203 ?_
                refine lv_iconst (v := 4) hx₀ hb dX12_flies_206 (by decide +kernel) ?_
                refine lv_iload hx₀ hb dX12_flies_207 (lv_at hl 0 rfl) ?_
                refine lv_imul hx₀ hb dX12_flies_209 ?_
                refine lv_iconst (v := 3) hx₀ hb dX12_flies_210 (by decide +kernel) ?_
                refine lv_iadd hx₀ hb dX12_flies_211 ?_
                refine lv_aload_n hx₀ hb dX12_flies_212 rfl (lv_at hl 1 rfl) ?_
                refine va_get (D := (dC, dI)) (ci := 11) (v := .ref vSt) (C := RX12) (T := TX12) (N := 30) hx₀ hb hts inlX12 hown hK hP 1 rfl rfl 24 (by decide) (hts (.fieldLink RX12 46 "BittenStickModel" "strong" "[I") wd_127) (fun _ h9 => h9) rfl dX12_flies_213 ?_
                refine lv_iconst (v := 1) hx₀ hb dX12_flies_216 (by decide +kernel) ?_
                refine va_iald hx₀ hb hK hP 6 0 rfl rfl (by unfold vp_in; decide +kernel) dX12_flies_217 ?_
                refine k_topi (v := (ga_13 1) 1) rfl ?_
                refine va_iast hx₀ hb hK hP hD hS 0 0 rfl rfl (vp_in_iff.mpr (lf_g_flies_8 mi mz7 knz7 fez7 enz7 jz7 fr hh0 hiz7_0 hiz7_1 hiz7_2 hiz7_5 hiz7_6 hiz7_7 hjz7 c_8 c_9 c_10)) dX12_flies_218 ?_
                clear hP hD hS
                intro H locs hP hD hS
                replace hP := k_w2 (wt := [(kAI vTo cI 96 (upd (upd (upd (upd qtz7 (4 * mz7).toNatClampNeg (g_12 0)) ((4 * mz7) + 1).toNatClampNeg (g_12 1)) ((4 * mz7) + 2).toNatClampNeg ((ga_13 1) 0)) ((4 * mz7) + 3).toNatClampNeg ((ga_13 1) 1))), (kX12 hm vFo vSi vIt vMo la vBy vTy mi vMi pn vPs gn vGs fn vFt le vTo knz7 fez7 r_11 ca (g_12 0) (g_12 1) vPr vSt vFn sn vSg vAl dr), (kAI vMi cI 24 qMi), (kAI vPs cI 32 qPs), (kAI vGs cI 16 qGs), (kAI vPr cI 2 (ga_13 0)), (kAI vSt cI 2 (ga_13 1)), (kAI vFn cI 2 (ga_13 2))]) hP hD rfl
                replace hD := hP.2
                replace hP := hP.1
                refine lv_aload_n hx₀ hb dX12_flies_219 rfl (lv_at hl 1 rfl) ?_
                refine lv_dup hx₀ hb dX12_flies_220 rfl ?_
                refine va_get (D := (dC, dI)) (ci := 11) (v := .int knz7) (C := RX12) (T := TX12) (N := 30) hx₀ hb hts inlX12 hown hK hP 1 rfl rfl 17 (by decide) (hts (.fieldLink RX12 190 "BittenStickModel" "known" "I") wd_541) (fun _ h9 => h9) rfl dX12_flies_221 ?_
                refine lv_iconst (v := 1) hx₀ hb dX12_flies_224 (by decide +kernel) ?_
                refine lv_iadd hx₀ hb dX12_flies_225 ?_
                refine va_put (D := (dC, dI)) (ci := 11) (v := .int (knz7 + 1)) (ty := .int) (C := RX12) (T := TX12) (N := 30) hx₀ hb hts inlX12 tyX12 tyX12_ok nmX12 hown hK hP hD hS 1 rfl rfl 17 (by decide) (hts (.fieldLink RX12 190 "BittenStickModel" "known" "I") wd_541) (fun _ h9 => h9) rfl (by decide +kernel) rfl rfl (Nat.le_of_ble_eq_true rfl) dX12_flies_226 ?_
                clear hP hD hS
                intro H locs hP hD hS
                replace hP := k_w2 (wt := [(kAI vTo cI 96 (upd (upd (upd (upd qtz7 (4 * mz7).toNatClampNeg (g_12 0)) ((4 * mz7) + 1).toNatClampNeg (g_12 1)) ((4 * mz7) + 2).toNatClampNeg ((ga_13 1) 0)) ((4 * mz7) + 3).toNatClampNeg ((ga_13 1) 1))), (kX12 hm vFo vSi vIt vMo la vBy vTy mi vMi pn vPs gn vGs fn vFt le vTo (knz7 + 1) fez7 r_11 ca (g_12 0) (g_12 1) vPr vSt vFn sn vSg vAl dr), (kAI vMi cI 24 qMi), (kAI vPs cI 32 qPs), (kAI vGs cI 16 qGs), (kAI vPr cI 2 (ga_13 0)), (kAI vSt cI 2 (ga_13 1)), (kAI vFn cI 2 (ga_13 2))]) hP hD rfl
                replace hD := hP.2
                replace hP := hP.1
                refine lv_aload_n hx₀ hb dX12_flies_229 rfl (lv_at hl 1 rfl) ?_
                refine lv_aload_n hx₀ hb dX12_flies_230 rfl (lv_at hl 1 rfl) ?_
                refine va_get (D := (dC, dI)) (ci := 11) (v := .int r_11) (C := RX12) (T := TX12) (N := 30) hx₀ hb hts inlX12 hown hK hP 1 rfl rfl 19 (by decide) (hts (.fieldLink RX12 196 "BittenStickModel" "end" "I") wd_543) (fun _ h9 => h9) rfl dX12_flies_231 ?_
                refine lv_if_ne (tgt := 244) hx₀ hb dX12_flies_234 (by decide) (fun c_19 => ?_) (fun c_19 => ?_)
                · refine lv_iload hx₀ hb dX12_flies_244 (lv_at hl 0 rfl) ?_
                  refine va_put (D := (dC, dI)) (ci := 11) (v := .int mz7) (ty := .int) (C := RX12) (T := TX12) (N := 30) hx₀ hb hts inlX12 tyX12 tyX12_ok nmX12 hown hK hP hD hS 1 rfl rfl 18 (by decide) (hts (.fieldLink RX12 193 "BittenStickModel" "fell" "I") wd_542) (fun _ h9 => h9) rfl (by decide +kernel) rfl rfl (Nat.le_of_ble_eq_true rfl) dX12_flies_246 ?_
                  clear hP hD hS
                  intro H locs hP hD hS
                  replace hP := k_w2 (wt := [(kAI vTo cI 96 (upd (upd (upd (upd qtz7 (4 * mz7).toNatClampNeg (g_12 0)) ((4 * mz7) + 1).toNatClampNeg (g_12 1)) ((4 * mz7) + 2).toNatClampNeg ((ga_13 1) 0)) ((4 * mz7) + 3).toNatClampNeg ((ga_13 1) 1))), (kX12 hm vFo vSi vIt vMo la vBy vTy mi vMi pn vPs gn vGs fn vFt le vTo (knz7 + 1) mz7 r_11 ca (g_12 0) (g_12 1) vPr vSt vFn sn vSg vAl dr), (kAI vMi cI 24 qMi), (kAI vPs cI 32 qPs), (kAI vGs cI 16 qGs), (kAI vPr cI 2 (ga_13 0)), (kAI vSt cI 2 (ga_13 1)), (kAI vFn cI 2 (ga_13 2))]) hP hD rfl
                  replace hD := hP.2
                  replace hP := hP.1
                  refine lv_iinc (v := mz7 + 1) (lv' := [(7, .int (mz7 + 1)), (0, .ref hm), (1, .int p1), (2, .int le1), (3, .int ri1), (4, .int h1), (5, .int fr), (6, .int th)]) hx₀ hb dX12_flies_249 hl (k := 0) rfl rfl (by decide) rfl (fun ls hl => ?_)
                  refine lv_goto (tgt := 116) hx₀ hb dX12_flies_252 (by decide) ?_
                  exact ihz7 _ (lf_g_flies_15 mi mz7 knz7 fez7 enz7 jz7 fr hh0 hiz7_0 hiz7_1 hiz7_2 hiz7_5 hiz7_6 hiz7_7 hjz7 c_8 c_9 c_10) (mz7 + 1) (knz7 + 1) mz7 r_11 (g_12 0) (g_12 1) _ _ _ _ _ _ _ (lf_g_flies_9 mi mz7 knz7 fez7 enz7 jz7 fr hh0 hiz7_0 hiz7_1 hiz7_2 hiz7_5 hiz7_6 hiz7_7 hjz7 c_8 c_9 c_10) (lf_g_flies_10 mi mz7 knz7 fez7 enz7 jz7 fr hh0 hiz7_0 hiz7_1 hiz7_2 hiz7_5 hiz7_6 hiz7_7 hjz7 c_8 c_9 c_10) (lf_g_flies_11 mi mz7 knz7 fez7 enz7 jz7 fr hh0 hiz7_0 hiz7_1 hiz7_2 hiz7_5 hiz7_6 hiz7_7 hjz7 c_8 c_9 c_10) (k_fr_t hiz7_3 c_9 (hiz7_0.1) c_8 (hh0.2) (hh6 p1 (c_2)) (if_neg (Int32.not_lt.mpr c_10)) ((if_neg c_19).symm) (by rw [← kRs_ca (lf_g_flies_4 mi mz7 knz7 fez7 enz7 jz7 fr hh0 hiz7_0 hiz7_1 hiz7_2 hiz7_5 hiz7_6 hiz7_7 hjz7 c_8 c_9 c_10)]; exact c_18)) (c_17) (lf_g_flies_12 mi mz7 knz7 fez7 enz7 jz7 fr hh0 hiz7_0 hiz7_1 hiz7_2 hiz7_5 hiz7_6 hiz7_7 hjz7 c_8 c_9 c_10) (lf_g_flies_13 mi mz7 knz7 fez7 enz7 jz7 fr r_11 hh0 hiz7_0 hiz7_1 hiz7_2 hiz7_5 hiz7_6 hiz7_7 hjz7 c_8 c_9 c_10 c_19) (lf_g_flies_14 mi mz7 knz7 fez7 enz7 jz7 fr hh0 hiz7_0 hiz7_1 hiz7_2 hiz7_5 hiz7_6 hiz7_7 hjz7 c_8 c_9 c_10) rfl (hP.sub [2, 3, 4, 0, 5, 6, 7, 1] rfl) (hD.sub [2, 3, 4, 0, 5, 6, 7, 1] (by decide +kernel) rfl) hS (lv_sub hl [0, 1, 2, 3, 4, 5, 6, 7] rfl)
                · refine lv_iload hx₀ hb dX12_flies_237 (lv_at hl 0 rfl) ?_
                  refine lv_iconst (v := 1) hx₀ hb dX12_flies_239 (by decide +kernel) ?_
                  refine lv_iadd hx₀ hb dX12_flies_240 ?_
                  refine lv_goto (tgt := 246) hx₀ hb dX12_flies_241 (by decide) ?_
                  refine va_put (D := (dC, dI)) (ci := 11) (v := .int (mz7 + 1)) (ty := .int) (C := RX12) (T := TX12) (N := 30) hx₀ hb hts inlX12 tyX12 tyX12_ok nmX12 hown hK hP hD hS 1 rfl rfl 18 (by decide) (hts (.fieldLink RX12 193 "BittenStickModel" "fell" "I") wd_542) (fun _ h9 => h9) rfl (by decide +kernel) rfl rfl (Nat.le_of_ble_eq_true rfl) dX12_flies_246 ?_
                  clear hP hD hS
                  intro H locs hP hD hS
                  replace hP := k_w2 (wt := [(kAI vTo cI 96 (upd (upd (upd (upd qtz7 (4 * mz7).toNatClampNeg (g_12 0)) ((4 * mz7) + 1).toNatClampNeg (g_12 1)) ((4 * mz7) + 2).toNatClampNeg ((ga_13 1) 0)) ((4 * mz7) + 3).toNatClampNeg ((ga_13 1) 1))), (kX12 hm vFo vSi vIt vMo la vBy vTy mi vMi pn vPs gn vGs fn vFt le vTo (knz7 + 1) (mz7 + 1) r_11 ca (g_12 0) (g_12 1) vPr vSt vFn sn vSg vAl dr), (kAI vMi cI 24 qMi), (kAI vPs cI 32 qPs), (kAI vGs cI 16 qGs), (kAI vPr cI 2 (ga_13 0)), (kAI vSt cI 2 (ga_13 1)), (kAI vFn cI 2 (ga_13 2))]) hP hD rfl
                  replace hD := hP.2
                  replace hP := hP.1
                  refine lv_iinc (v := mz7 + 1) (lv' := [(7, .int (mz7 + 1)), (0, .ref hm), (1, .int p1), (2, .int le1), (3, .int ri1), (4, .int h1), (5, .int fr), (6, .int th)]) hx₀ hb dX12_flies_249 hl (k := 0) rfl rfl (by decide) rfl (fun ls hl => ?_)
                  refine lv_goto (tgt := 116) hx₀ hb dX12_flies_252 (by decide) ?_
                  exact ihz7 _ (lf_g_flies_15 mi mz7 knz7 fez7 enz7 jz7 fr hh0 hiz7_0 hiz7_1 hiz7_2 hiz7_5 hiz7_6 hiz7_7 hjz7 c_8 c_9 c_10) (mz7 + 1) (knz7 + 1) (mz7 + 1) r_11 (g_12 0) (g_12 1) _ _ _ _ _ _ _ (lf_g_flies_9 mi mz7 knz7 fez7 enz7 jz7 fr hh0 hiz7_0 hiz7_1 hiz7_2 hiz7_5 hiz7_6 hiz7_7 hjz7 c_8 c_9 c_10) (lf_g_flies_10 mi mz7 knz7 fez7 enz7 jz7 fr hh0 hiz7_0 hiz7_1 hiz7_2 hiz7_5 hiz7_6 hiz7_7 hjz7 c_8 c_9 c_10) (lf_g_flies_16 mi mz7 knz7 fez7 enz7 jz7 fr hh0 hiz7_0 hiz7_1 hiz7_2 hiz7_5 hiz7_6 hiz7_7 hjz7 c_8 c_9 c_10) (k_fr_t hiz7_3 c_9 (hiz7_0.1) c_8 (hh0.2) (hh6 p1 (c_2)) (if_neg (Int32.not_lt.mpr c_10)) ((if_pos c_19).symm) (by rw [← kRs_ca (lf_g_flies_4 mi mz7 knz7 fez7 enz7 jz7 fr hh0 hiz7_0 hiz7_1 hiz7_2 hiz7_5 hiz7_6 hiz7_7 hjz7 c_8 c_9 c_10)]; exact c_18)) (c_17) (lf_g_flies_17 mi mz7 knz7 fez7 enz7 jz7 fr hh0 hiz7_0 hiz7_1 hiz7_2 hiz7_5 hiz7_6 hiz7_7 hjz7 c_8 c_9 c_10) (show r_11 = 0 ∨ (knz7 + 1) = 0 ∨ (mz7 + 1) ≤ 23 from (Or.inl (c_19))) (lf_g_flies_14 mi mz7 knz7 fez7 enz7 jz7 fr hh0 hiz7_0 hiz7_1 hiz7_2 hiz7_5 hiz7_6 hiz7_7 hjz7 c_8 c_9 c_10) rfl (hP.sub [2, 3, 4, 0, 5, 6, 7, 1] rfl) (hD.sub [2, 3, 4, 0, 5, 6, 7, 1] (by decide +kernel) rfl) hS (lv_sub hl [0, 1, 2, 3, 4, 5, 6, 7] rfl)
              · refine lv_iload hx₀ hb dX12_flies_144 (lv_at hl 5 rfl) ?_
                refine lv_goto (tgt := 151) hx₀ hb dX12_flies_146 (by decide) ?_
                obtain ⟨hPc, hDc, hFc, hC⟩ := k_cw (wc := [(kX12 hm vFo vSi vIt vMo la vBy vTy mi vMi pn vPs gn vGs fn vFt le vTo knz7 fez7 enz7 ca anz7 coz7 vPr vSt vFn sn vSg vAl dr), (kAI vMi cI 24 qMi), (kAI vPs cI 32 qPs), (kAI vGs cI 16 qGs), (kAI vPr cI 2 qpz7), (kAI vSt cI 2 qsz7), (kAI vFn cI 2 qfz7)]) hP hD hS hA [7, 0, 1, 2, 4, 5, 6] (by decide +kernel) rfl
                refine va_calli (va_runV (As := [.int p1, .int mz7, .int h1]) (rest := [.ref hm]) ⟨hx₀, hb, hml, hown, hts⟩ (e_goes l dC dI cI cJ cQ H.size hm p1 mz7 h1 vFo vSi vIt vMo la vBy vTy mi vMi pn vPs gn vGs fn vFt le vTo knz7 fez7 enz7 ca anz7 coz7 vPr vSt vFn sn vSg vAl dr qMi qPs qGs qpz7 qsz7 qfz7 (hiz7_4) (lf_g_flies_3 pn p1 hh1 c_2) (lf_g_flies_18 mi mz7 knz7 fez7 enz7 jz7 fr hh0 hiz7_0 hiz7_1 hiz7_2 hiz7_5 hiz7_6 hiz7_7 hjz7 c_8 c_9 c_10) (hh4)) (cwV 3 hts (kGV wd_549 wd_546 wd_547 wd_548 wd_5) rfl rfl rfl (by decide +kernel) ⟨Nat.le_of_ble_eq_true rfl, Nat.le_of_ble_eq_true rfl⟩) (k_preV (ci := 11) (q0 := 0) hK hPc hDc hN rfl rfl) rfl rfl hl.1 rfl (lv_room (Nat.le_of_ble_eq_true rfl)) dX12_flies_151 ⟨by decide +kernel, by decide +kernel⟩) hS (fun q _ h => hFc q h) hFc (fun r_20 u₀ t₀ H1 locs ht hvm hw hB hz1 hk1 hS => ?_)
                obtain ⟨g_21, ga_22, gl_23, gb_24, gp_25⟩ := u₀
                obtain ⟨hP1, hK1, hD1⟩ := hB
                rw [ht] at hP1
                have hJ := k_jn (wr := [(kAI vTo cI 96 qtz7)]) (wt := [(kAI vTo cI 96 qtz7), (kX12 hm vFo vSi vIt vMo la vBy vTy mi vMi pn vPs gn vGs fn vFt le vTo knz7 fez7 enz7 ca (g_21 0) (g_21 1) vPr vSt vFn sn vSg vAl dr), (kAI vMi cI 24 qMi), (kAI vPs cI 32 qPs), (kAI vGs cI 16 qGs), (kAI vPr cI 2 (ga_22 0)), (kAI vSt cI 2 (ga_22 1)), (kAI vFn cI 2 (ga_22 2))]) hP hD hC [3] rfl (by decide +kernel) (by decide +kernel) hk1 hFc hP1 hD1 rfl
                clear hP hD hPc hDc hFc hC hP1 hD1 hK1 hz1 hk1 hvm ht
                obtain ⟨hP, hD⟩ := hJ
                generalize H1 = H at hP hS ⊢
                try dsimp only at hw
                obtain ⟨c_26, c_27⟩ := hw
                refine va_put (D := (dC, dI)) (ci := 11) (v := .int r_20) (ty := .int) (C := RX12) (T := TX12) (N := 30) hx₀ hb hts inlX12 tyX12 tyX12_ok nmX12 hown hK hP hD hS 1 rfl rfl 19 (by decide) (hts (.fieldLink RX12 196 "BittenStickModel" "end" "I") wd_543) (fun _ h9 => h9) rfl (by decide +kernel) rfl rfl (Nat.le_of_ble_eq_true rfl) dX12_flies_154 ?_
                clear hP hD hS
                intro H locs hP hD hS
                replace hP := k_w2 (wt := [(kAI vTo cI 96 qtz7), (kX12 hm vFo vSi vIt vMo la vBy vTy mi vMi pn vPs gn vGs fn vFt le vTo knz7 fez7 r_20 ca (g_21 0) (g_21 1) vPr vSt vFn sn vSg vAl dr), (kAI vMi cI 24 qMi), (kAI vPs cI 32 qPs), (kAI vGs cI 16 qGs), (kAI vPr cI 2 (ga_22 0)), (kAI vSt cI 2 (ga_22 1)), (kAI vFn cI 2 (ga_22 2))]) hP hD rfl
                replace hD := hP.2
                replace hP := hP.1
                refine lv_aload_n hx₀ hb dX12_flies_157 rfl (lv_at hl 1 rfl) ?_
                refine va_get (D := (dC, dI)) (ci := 11) (v := .ref vTo) (C := RX12) (T := TX12) (N := 30) hx₀ hb hts inlX12 hown hK hP 1 rfl rfl 16 (by decide) (hts (.fieldLink RX12 40 "BittenStickModel" "told" "[I") wd_125) (fun _ h9 => h9) rfl dX12_flies_158 ?_
                refine lv_iconst (v := 4) hx₀ hb dX12_flies_161 (by decide +kernel) ?_
                refine lv_iload hx₀ hb dX12_flies_162 (lv_at hl 0 rfl) ?_
                refine lv_imul hx₀ hb dX12_flies_164 ?_
                refine lv_aload_n hx₀ hb dX12_flies_165 rfl (lv_at hl 1 rfl) ?_
                refine va_get (D := (dC, dI)) (ci := 11) (v := .int (g_21 0)) (C := RX12) (T := TX12) (N := 30) hx₀ hb hts inlX12 hown hK hP 1 rfl rfl 21 (by decide) (hts (.fieldLink RX12 184 "BittenStickModel" "anger" "I") wd_544) (fun _ h9 => h9) rfl dX12_flies_166 ?_
                refine va_iast hx₀ hb hK hP hD hS 0 0 rfl rfl (vp_in_iff.mpr (lf_g_flies_19 mi mz7 knz7 fez7 enz7 jz7 fr hh0 hiz7_0 hiz7_1 hiz7_2 hiz7_5 hiz7_6 hiz7_7 hjz7 c_8 c_9 c_10)) dX12_flies_169 ?_
                clear hP hD hS
                intro H locs hP hD hS
                replace hP := k_w2 (wt := [(kAI vTo cI 96 (upd qtz7 (4 * mz7).toNatClampNeg (g_21 0))), (kX12 hm vFo vSi vIt vMo la vBy vTy mi vMi pn vPs gn vGs fn vFt le vTo knz7 fez7 r_20 ca (g_21 0) (g_21 1) vPr vSt vFn sn vSg vAl dr), (kAI vMi cI 24 qMi), (kAI vPs cI 32 qPs), (kAI vGs cI 16 qGs), (kAI vPr cI 2 (ga_22 0)), (kAI vSt cI 2 (ga_22 1)), (kAI vFn cI 2 (ga_22 2))]) hP hD rfl
                replace hD := hP.2
                replace hP := hP.1
                refine lv_aload_n hx₀ hb dX12_flies_170 rfl (lv_at hl 1 rfl) ?_
                refine va_get (D := (dC, dI)) (ci := 11) (v := .ref vTo) (C := RX12) (T := TX12) (N := 30) hx₀ hb hts inlX12 hown hK hP 1 rfl rfl 16 (by decide) (hts (.fieldLink RX12 40 "BittenStickModel" "told" "[I") wd_125) (fun _ h9 => h9) rfl dX12_flies_171 ?_
                refine lv_iconst (v := 4) hx₀ hb dX12_flies_174 (by decide +kernel) ?_
                refine lv_iload hx₀ hb dX12_flies_175 (lv_at hl 0 rfl) ?_
                refine lv_imul hx₀ hb dX12_flies_177 ?_
                refine lv_iconst (v := 1) hx₀ hb dX12_flies_178 (by decide +kernel) ?_
                refine lv_iadd hx₀ hb dX12_flies_179 ?_
                refine lv_aload_n hx₀ hb dX12_flies_180 rfl (lv_at hl 1 rfl) ?_
                refine va_get (D := (dC, dI)) (ci := 11) (v := .int (g_21 1)) (C := RX12) (T := TX12) (N := 30) hx₀ hb hts inlX12 hown hK hP 1 rfl rfl 22 (by decide) (hts (.fieldLink RX12 177 "BittenStickModel" "cold" "I") wd_545) (fun _ h9 => h9) rfl dX12_flies_181 ?_
                refine va_iast hx₀ hb hK hP hD hS 0 0 rfl rfl (vp_in_iff.mpr (lf_g_flies_20 mi mz7 knz7 fez7 enz7 jz7 fr hh0 hiz7_0 hiz7_1 hiz7_2 hiz7_5 hiz7_6 hiz7_7 hjz7 c_8 c_9 c_10)) dX12_flies_184 ?_
                clear hP hD hS
                intro H locs hP hD hS
                replace hP := k_w2 (wt := [(kAI vTo cI 96 (upd (upd qtz7 (4 * mz7).toNatClampNeg (g_21 0)) ((4 * mz7) + 1).toNatClampNeg (g_21 1))), (kX12 hm vFo vSi vIt vMo la vBy vTy mi vMi pn vPs gn vGs fn vFt le vTo knz7 fez7 r_20 ca (g_21 0) (g_21 1) vPr vSt vFn sn vSg vAl dr), (kAI vMi cI 24 qMi), (kAI vPs cI 32 qPs), (kAI vGs cI 16 qGs), (kAI vPr cI 2 (ga_22 0)), (kAI vSt cI 2 (ga_22 1)), (kAI vFn cI 2 (ga_22 2))]) hP hD rfl
                replace hD := hP.2
                replace hP := hP.1
                refine lv_aload_n hx₀ hb dX12_flies_185 rfl (lv_at hl 1 rfl) ?_
                refine va_get (D := (dC, dI)) (ci := 11) (v := .ref vTo) (C := RX12) (T := TX12) (N := 30) hx₀ hb hts inlX12 hown hK hP 1 rfl rfl 16 (by decide) (hts (.fieldLink RX12 40 "BittenStickModel" "told" "[I") wd_125) (fun _ h9 => h9) rfl dX12_flies_186 ?_
                refine lv_iconst (v := 4) hx₀ hb dX12_flies_189 (by decide +kernel) ?_
                refine lv_iload hx₀ hb dX12_flies_190 (lv_at hl 0 rfl) ?_
                refine lv_imul hx₀ hb dX12_flies_192 ?_
                refine lv_iconst (v := 2) hx₀ hb dX12_flies_193 (by decide +kernel) ?_
                refine lv_iadd hx₀ hb dX12_flies_194 ?_
                refine lv_aload_n hx₀ hb dX12_flies_195 rfl (lv_at hl 1 rfl) ?_
                refine va_get (D := (dC, dI)) (ci := 11) (v := .ref vSt) (C := RX12) (T := TX12) (N := 30) hx₀ hb hts inlX12 hown hK hP 1 rfl rfl 24 (by decide) (hts (.fieldLink RX12 46 "BittenStickModel" "strong" "[I") wd_127) (fun _ h9 => h9) rfl dX12_flies_196 ?_
                refine lv_iconst (v := 0) hx₀ hb dX12_flies_199 (by decide +kernel) ?_
                refine va_iald hx₀ hb hK hP 6 0 rfl rfl (by unfold vp_in; decide +kernel) dX12_flies_200 ?_
                refine k_topi (v := (ga_22 1) 0) rfl ?_
                refine va_iast hx₀ hb hK hP hD hS 0 0 rfl rfl (vp_in_iff.mpr (lf_g_flies_21 mi mz7 knz7 fez7 enz7 jz7 fr hh0 hiz7_0 hiz7_1 hiz7_2 hiz7_5 hiz7_6 hiz7_7 hjz7 c_8 c_9 c_10)) dX12_flies_201 ?_
                clear hP hD hS
                intro H locs hP hD hS
                replace hP := k_w2 (wt := [(kAI vTo cI 96 (upd (upd (upd qtz7 (4 * mz7).toNatClampNeg (g_21 0)) ((4 * mz7) + 1).toNatClampNeg (g_21 1)) ((4 * mz7) + 2).toNatClampNeg ((ga_22 1) 0))), (kX12 hm vFo vSi vIt vMo la vBy vTy mi vMi pn vPs gn vGs fn vFt le vTo knz7 fez7 r_20 ca (g_21 0) (g_21 1) vPr vSt vFn sn vSg vAl dr), (kAI vMi cI 24 qMi), (kAI vPs cI 32 qPs), (kAI vGs cI 16 qGs), (kAI vPr cI 2 (ga_22 0)), (kAI vSt cI 2 (ga_22 1)), (kAI vFn cI 2 (ga_22 2))]) hP hD rfl
                replace hD := hP.2
                replace hP := hP.1
                refine lv_aload_n hx₀ hb dX12_flies_202 rfl (lv_at hl 1 rfl) ?_
                refine va_get (D := (dC, dI)) (ci := 11) (v := .ref vTo) (C := RX12) (T := TX12) (N := 30) hx₀ hb hts inlX12 hown hK hP 1 rfl rfl 16 (by decide) (hts (.fieldLink RX12 40 "BittenStickModel" "told" "[I") wd_125) (fun _ h9 => h9) rfl dX12_flies_203 ?_
                refine lv_iconst (v := 4) hx₀ hb dX12_flies_206 (by decide +kernel) ?_
                refine lv_iload hx₀ hb dX12_flies_207 (lv_at hl 0 rfl) ?_
                refine lv_imul hx₀ hb dX12_flies_209 ?_
                refine lv_iconst (v := 3) hx₀ hb dX12_flies_210 (by decide +kernel) ?_
                refine lv_iadd hx₀ hb dX12_flies_211 ?_
                refine lv_aload_n hx₀ hb dX12_flies_212 rfl (lv_at hl 1 rfl) ?_
                refine va_get (D := (dC, dI)) (ci := 11) (v := .ref vSt) (C := RX12) (T := TX12) (N := 30) hx₀ hb hts inlX12 hown hK hP 1 rfl rfl 24 (by decide) (hts (.fieldLink RX12 46 "BittenStickModel" "strong" "[I") wd_127) (fun _ h9 => h9) rfl dX12_flies_213 ?_
                refine lv_iconst (v := 1) hx₀ hb dX12_flies_216 (by decide +kernel) ?_
                refine va_iald hx₀ hb hK hP 6 0 rfl rfl (by unfold vp_in; decide +kernel) dX12_flies_217 ?_
                refine k_topi (v := (ga_22 1) 1) rfl ?_
                refine va_iast hx₀ hb hK hP hD hS 0 0 rfl rfl (vp_in_iff.mpr (lf_g_flies_22 mi mz7 knz7 fez7 enz7 jz7 fr hh0 hiz7_0 hiz7_1 hiz7_2 hiz7_5 hiz7_6 hiz7_7 hjz7 c_8 c_9 c_10)) dX12_flies_218 ?_
                clear hP hD hS
                intro H locs hP hD hS
                replace hP := k_w2 (wt := [(kAI vTo cI 96 (upd (upd (upd (upd qtz7 (4 * mz7).toNatClampNeg (g_21 0)) ((4 * mz7) + 1).toNatClampNeg (g_21 1)) ((4 * mz7) + 2).toNatClampNeg ((ga_22 1) 0)) ((4 * mz7) + 3).toNatClampNeg ((ga_22 1) 1))), (kX12 hm vFo vSi vIt vMo la vBy vTy mi vMi pn vPs gn vGs fn vFt le vTo knz7 fez7 r_20 ca (g_21 0) (g_21 1) vPr vSt vFn sn vSg vAl dr), (kAI vMi cI 24 qMi), (kAI vPs cI 32 qPs), (kAI vGs cI 16 qGs), (kAI vPr cI 2 (ga_22 0)), (kAI vSt cI 2 (ga_22 1)), (kAI vFn cI 2 (ga_22 2))]) hP hD rfl
                replace hD := hP.2
                replace hP := hP.1
                refine lv_aload_n hx₀ hb dX12_flies_219 rfl (lv_at hl 1 rfl) ?_
                refine lv_dup hx₀ hb dX12_flies_220 rfl ?_
                refine va_get (D := (dC, dI)) (ci := 11) (v := .int knz7) (C := RX12) (T := TX12) (N := 30) hx₀ hb hts inlX12 hown hK hP 1 rfl rfl 17 (by decide) (hts (.fieldLink RX12 190 "BittenStickModel" "known" "I") wd_541) (fun _ h9 => h9) rfl dX12_flies_221 ?_
                refine lv_iconst (v := 1) hx₀ hb dX12_flies_224 (by decide +kernel) ?_
                refine lv_iadd hx₀ hb dX12_flies_225 ?_
                refine va_put (D := (dC, dI)) (ci := 11) (v := .int (knz7 + 1)) (ty := .int) (C := RX12) (T := TX12) (N := 30) hx₀ hb hts inlX12 tyX12 tyX12_ok nmX12 hown hK hP hD hS 1 rfl rfl 17 (by decide) (hts (.fieldLink RX12 190 "BittenStickModel" "known" "I") wd_541) (fun _ h9 => h9) rfl (by decide +kernel) rfl rfl (Nat.le_of_ble_eq_true rfl) dX12_flies_226 ?_
                clear hP hD hS
                intro H locs hP hD hS
                replace hP := k_w2 (wt := [(kAI vTo cI 96 (upd (upd (upd (upd qtz7 (4 * mz7).toNatClampNeg (g_21 0)) ((4 * mz7) + 1).toNatClampNeg (g_21 1)) ((4 * mz7) + 2).toNatClampNeg ((ga_22 1) 0)) ((4 * mz7) + 3).toNatClampNeg ((ga_22 1) 1))), (kX12 hm vFo vSi vIt vMo la vBy vTy mi vMi pn vPs gn vGs fn vFt le vTo (knz7 + 1) fez7 r_20 ca (g_21 0) (g_21 1) vPr vSt vFn sn vSg vAl dr), (kAI vMi cI 24 qMi), (kAI vPs cI 32 qPs), (kAI vGs cI 16 qGs), (kAI vPr cI 2 (ga_22 0)), (kAI vSt cI 2 (ga_22 1)), (kAI vFn cI 2 (ga_22 2))]) hP hD rfl
                replace hD := hP.2
                replace hP := hP.1
                refine lv_aload_n hx₀ hb dX12_flies_229 rfl (lv_at hl 1 rfl) ?_
                refine lv_aload_n hx₀ hb dX12_flies_230 rfl (lv_at hl 1 rfl) ?_
                refine va_get (D := (dC, dI)) (ci := 11) (v := .int r_20) (C := RX12) (T := TX12) (N := 30) hx₀ hb hts inlX12 hown hK hP 1 rfl rfl 19 (by decide) (hts (.fieldLink RX12 196 "BittenStickModel" "end" "I") wd_543) (fun _ h9 => h9) rfl dX12_flies_231 ?_
                refine lv_if_ne (tgt := 244) hx₀ hb dX12_flies_234 (by decide) (fun c_28 => ?_) (fun c_28 => ?_)
                · refine lv_iload hx₀ hb dX12_flies_244 (lv_at hl 0 rfl) ?_
                  refine va_put (D := (dC, dI)) (ci := 11) (v := .int mz7) (ty := .int) (C := RX12) (T := TX12) (N := 30) hx₀ hb hts inlX12 tyX12 tyX12_ok nmX12 hown hK hP hD hS 1 rfl rfl 18 (by decide) (hts (.fieldLink RX12 193 "BittenStickModel" "fell" "I") wd_542) (fun _ h9 => h9) rfl (by decide +kernel) rfl rfl (Nat.le_of_ble_eq_true rfl) dX12_flies_246 ?_
                  clear hP hD hS
                  intro H locs hP hD hS
                  replace hP := k_w2 (wt := [(kAI vTo cI 96 (upd (upd (upd (upd qtz7 (4 * mz7).toNatClampNeg (g_21 0)) ((4 * mz7) + 1).toNatClampNeg (g_21 1)) ((4 * mz7) + 2).toNatClampNeg ((ga_22 1) 0)) ((4 * mz7) + 3).toNatClampNeg ((ga_22 1) 1))), (kX12 hm vFo vSi vIt vMo la vBy vTy mi vMi pn vPs gn vGs fn vFt le vTo (knz7 + 1) mz7 r_20 ca (g_21 0) (g_21 1) vPr vSt vFn sn vSg vAl dr), (kAI vMi cI 24 qMi), (kAI vPs cI 32 qPs), (kAI vGs cI 16 qGs), (kAI vPr cI 2 (ga_22 0)), (kAI vSt cI 2 (ga_22 1)), (kAI vFn cI 2 (ga_22 2))]) hP hD rfl
                  replace hD := hP.2
                  replace hP := hP.1
                  refine lv_iinc (v := mz7 + 1) (lv' := [(7, .int (mz7 + 1)), (0, .ref hm), (1, .int p1), (2, .int le1), (3, .int ri1), (4, .int h1), (5, .int fr), (6, .int th)]) hx₀ hb dX12_flies_249 hl (k := 0) rfl rfl (by decide) rfl (fun ls hl => ?_)
                  refine lv_goto (tgt := 116) hx₀ hb dX12_flies_252 (by decide) ?_
                  exact ihz7 _ (lf_g_flies_29 mi mz7 knz7 fez7 enz7 jz7 fr hh0 hiz7_0 hiz7_1 hiz7_2 hiz7_5 hiz7_6 hiz7_7 hjz7 c_8 c_9 c_10) (mz7 + 1) (knz7 + 1) mz7 r_20 (g_21 0) (g_21 1) _ _ _ _ _ _ _ (lf_g_flies_23 mi mz7 knz7 fez7 enz7 jz7 fr hh0 hiz7_0 hiz7_1 hiz7_2 hiz7_5 hiz7_6 hiz7_7 hjz7 c_8 c_9 c_10) (lf_g_flies_24 mi mz7 knz7 fez7 enz7 jz7 fr hh0 hiz7_0 hiz7_1 hiz7_2 hiz7_5 hiz7_6 hiz7_7 hjz7 c_8 c_9 c_10) (lf_g_flies_25 mi mz7 knz7 fez7 enz7 jz7 fr hh0 hiz7_0 hiz7_1 hiz7_2 hiz7_5 hiz7_6 hiz7_7 hjz7 c_8 c_9 c_10) (k_fr_t hiz7_3 c_9 (hiz7_0.1) c_8 (hh0.2) (hh6 p1 (c_2)) (if_pos (Int32.not_le.mp c_10)) ((if_neg c_28).symm) (by rw [← kRs_ca (lf_g_flies_18 mi mz7 knz7 fez7 enz7 jz7 fr hh0 hiz7_0 hiz7_1 hiz7_2 hiz7_5 hiz7_6 hiz7_7 hjz7 c_8 c_9 c_10)]; exact c_27)) (c_26) (lf_g_flies_26 mi mz7 knz7 fez7 enz7 jz7 fr hh0 hiz7_0 hiz7_1 hiz7_2 hiz7_5 hiz7_6 hiz7_7 hjz7 c_8 c_9 c_10) (lf_g_flies_27 mi mz7 knz7 fez7 enz7 jz7 fr r_20 hh0 hiz7_0 hiz7_1 hiz7_2 hiz7_5 hiz7_6 hiz7_7 hjz7 c_8 c_9 c_10 c_28) (lf_g_flies_28 mi mz7 knz7 fez7 enz7 jz7 fr hh0 hiz7_0 hiz7_1 hiz7_2 hiz7_5 hiz7_6 hiz7_7 hjz7 c_8 c_9 c_10) rfl (hP.sub [2, 3, 4, 0, 5, 6, 7, 1] rfl) (hD.sub [2, 3, 4, 0, 5, 6, 7, 1] (by decide +kernel) rfl) hS (lv_sub hl [0, 1, 2, 3, 4, 5, 6, 7] rfl)
                · refine lv_iload hx₀ hb dX12_flies_237 (lv_at hl 0 rfl) ?_
                  refine lv_iconst (v := 1) hx₀ hb dX12_flies_239 (by decide +kernel) ?_
                  refine lv_iadd hx₀ hb dX12_flies_240 ?_
                  refine lv_goto (tgt := 246) hx₀ hb dX12_flies_241 (by decide) ?_
                  refine va_put (D := (dC, dI)) (ci := 11) (v := .int (mz7 + 1)) (ty := .int) (C := RX12) (T := TX12) (N := 30) hx₀ hb hts inlX12 tyX12 tyX12_ok nmX12 hown hK hP hD hS 1 rfl rfl 18 (by decide) (hts (.fieldLink RX12 193 "BittenStickModel" "fell" "I") wd_542) (fun _ h9 => h9) rfl (by decide +kernel) rfl rfl (Nat.le_of_ble_eq_true rfl) dX12_flies_246 ?_
                  clear hP hD hS
                  intro H locs hP hD hS
                  replace hP := k_w2 (wt := [(kAI vTo cI 96 (upd (upd (upd (upd qtz7 (4 * mz7).toNatClampNeg (g_21 0)) ((4 * mz7) + 1).toNatClampNeg (g_21 1)) ((4 * mz7) + 2).toNatClampNeg ((ga_22 1) 0)) ((4 * mz7) + 3).toNatClampNeg ((ga_22 1) 1))), (kX12 hm vFo vSi vIt vMo la vBy vTy mi vMi pn vPs gn vGs fn vFt le vTo (knz7 + 1) (mz7 + 1) r_20 ca (g_21 0) (g_21 1) vPr vSt vFn sn vSg vAl dr), (kAI vMi cI 24 qMi), (kAI vPs cI 32 qPs), (kAI vGs cI 16 qGs), (kAI vPr cI 2 (ga_22 0)), (kAI vSt cI 2 (ga_22 1)), (kAI vFn cI 2 (ga_22 2))]) hP hD rfl
                  replace hD := hP.2
                  replace hP := hP.1
                  refine lv_iinc (v := mz7 + 1) (lv' := [(7, .int (mz7 + 1)), (0, .ref hm), (1, .int p1), (2, .int le1), (3, .int ri1), (4, .int h1), (5, .int fr), (6, .int th)]) hx₀ hb dX12_flies_249 hl (k := 0) rfl rfl (by decide) rfl (fun ls hl => ?_)
                  refine lv_goto (tgt := 116) hx₀ hb dX12_flies_252 (by decide) ?_
                  exact ihz7 _ (lf_g_flies_29 mi mz7 knz7 fez7 enz7 jz7 fr hh0 hiz7_0 hiz7_1 hiz7_2 hiz7_5 hiz7_6 hiz7_7 hjz7 c_8 c_9 c_10) (mz7 + 1) (knz7 + 1) (mz7 + 1) r_20 (g_21 0) (g_21 1) _ _ _ _ _ _ _ (lf_g_flies_23 mi mz7 knz7 fez7 enz7 jz7 fr hh0 hiz7_0 hiz7_1 hiz7_2 hiz7_5 hiz7_6 hiz7_7 hjz7 c_8 c_9 c_10) (lf_g_flies_24 mi mz7 knz7 fez7 enz7 jz7 fr hh0 hiz7_0 hiz7_1 hiz7_2 hiz7_5 hiz7_6 hiz7_7 hjz7 c_8 c_9 c_10) (lf_g_flies_30 mi mz7 knz7 fez7 enz7 jz7 fr hh0 hiz7_0 hiz7_1 hiz7_2 hiz7_5 hiz7_6 hiz7_7 hjz7 c_8 c_9 c_10) (k_fr_t hiz7_3 c_9 (hiz7_0.1) c_8 (hh0.2) (hh6 p1 (c_2)) (if_pos (Int32.not_le.mp c_10)) ((if_pos c_28).symm) (by rw [← kRs_ca (lf_g_flies_18 mi mz7 knz7 fez7 enz7 jz7 fr hh0 hiz7_0 hiz7_1 hiz7_2 hiz7_5 hiz7_6 hiz7_7 hjz7 c_8 c_9 c_10)]; exact c_27)) (c_26) (lf_g_flies_31 mi mz7 knz7 fez7 enz7 jz7 fr hh0 hiz7_0 hiz7_1 hiz7_2 hiz7_5 hiz7_6 hiz7_7 hjz7 c_8 c_9 c_10) (show r_20 = 0 ∨ (knz7 + 1) = 0 ∨ (mz7 + 1) ≤ 23 from (Or.inl (c_28))) (lf_g_flies_28 mi mz7 knz7 fez7 enz7 jz7 fr hh0 hiz7_0 hiz7_1 hiz7_2 hiz7_5 hiz7_6 hiz7_7 hjz7 c_8 c_9 c_10) rfl (hP.sub [2, 3, 4, 0, 5, 6, 7, 1] rfl) (hD.sub [2, 3, 4, 0, 5, 6, 7, 1] (by decide +kernel) rfl) hS (lv_sub hl [0, 1, 2, 3, 4, 5, 6, 7] rfl)
      rw [if_neg c_6] at hw
      refine k_topi (v := 0) hw ?_
      refine lv_if_ne (tgt := 40) hx₀ hb dX12_flies_36 (by decide) (fun c9 => absurd (by decide +kernel) c9) (fun _ => ?_)
      obtain ⟨hP9, hD9⟩ := k_c2 (wc := [(kX12 hm vFo vSi vIt vMo la vBy vTy mi vMi pn vPs gn vGs fn vFt le vTo 0 0 1 ca an co vPr vSt vFn sn vSg vAl dr), (kAI vMi cI 24 qMi), (kAI vPs cI 32 qPs), (kAI vGs cI 16 qGs), (kAI vTo cI 96 qTo), (kAI vPr cI 2 qPr), (kAI vSt cI 2 qSt), (kAI vFn cI 2 qFn)]) hP hD [7, 0, 1, 2, 3, 4, 5, 6] (by decide +kernel) rfl
      exact W.vret hx₀ hb hr (fun t₀ ht hW => ⟨⟨(k_fn [(0 : Int32), (0 : Int32), (1 : Int32), an, co], k_fa [qTo, qPr, qSt, qFn], k_fl [], k_fL [], k_fp []), rfl, ⟨hh3, (show 0 ≤ (0 : Int32) ∧ (0 : Int32) ≤ 24 from ⟨(by decide), (by decide)⟩), (show (1 : Int32) = 0 ∨ (0 : Int32) = 0 ∨ (0 : Int32) ≤ 23 from (Or.inr (Or.inl (rfl)))), (show 0 ≤ (0 : Int32) ∧ (0 : Int32) ≤ 24 from ⟨(by decide), (by decide)⟩), (k_fd_n (show ¬ ((0 ≤ p1 ∧ p1 < pn) ∧ (0 ≤ le1 ∧ le1 < gn) ∧ 0 ≤ ri1 ∧ ri1 < gn) from (fun z => c_6 (And.intro z.2.2.1 z.2.2.2))))⟩, by rw [ht]; exact hP9, va_K.moved hW.alike hK, hD9⟩, hS.F ht⟩) hS.2.2 dX12_flies_39
    rw [if_neg c_4] at hw
    refine k_topi (v := 0) hw ?_
    refine lv_if_eq (tgt := 39) hx₀ hb dX12_flies_28 (by decide) (fun _ => ?_) (fun c9 => absurd (by decide +kernel) c9)
    obtain ⟨hP9, hD9⟩ := k_c2 (wc := [(kX12 hm vFo vSi vIt vMo la vBy vTy mi vMi pn vPs gn vGs fn vFt le vTo 0 0 1 ca an co vPr vSt vFn sn vSg vAl dr), (kAI vMi cI 24 qMi), (kAI vPs cI 32 qPs), (kAI vGs cI 16 qGs), (kAI vTo cI 96 qTo), (kAI vPr cI 2 qPr), (kAI vSt cI 2 qSt), (kAI vFn cI 2 qFn)]) hP hD [7, 0, 1, 2, 3, 4, 5, 6] (by decide +kernel) rfl
    exact W.vret hx₀ hb hr (fun t₀ ht hW => ⟨⟨(k_fn [(0 : Int32), (0 : Int32), (1 : Int32), an, co], k_fa [qTo, qPr, qSt, qFn], k_fl [], k_fL [], k_fp []), rfl, ⟨hh3, (show 0 ≤ (0 : Int32) ∧ (0 : Int32) ≤ 24 from ⟨(by decide), (by decide)⟩), (show (1 : Int32) = 0 ∨ (0 : Int32) = 0 ∨ (0 : Int32) ≤ 23 from (Or.inr (Or.inl (rfl)))), (show 0 ≤ (0 : Int32) ∧ (0 : Int32) ≤ 24 from ⟨(by decide), (by decide)⟩), (k_fd_n (show ¬ ((0 ≤ p1 ∧ p1 < pn) ∧ (0 ≤ le1 ∧ le1 < gn) ∧ 0 ≤ ri1 ∧ ri1 < gn) from (fun z => c_4 z.2.1)))⟩, by rw [ht]; exact hP9, va_K.moved hW.alike hK, hD9⟩, hS.F ht⟩) hS.2.2 dX12_flies_39
  rw [if_neg c_2] at hw
  refine k_topi (v := 0) hw ?_
  refine lv_if_eq (tgt := 39) hx₀ hb dX12_flies_20 (by decide) (fun _ => ?_) (fun c9 => absurd (by decide +kernel) c9)
  obtain ⟨hP9, hD9⟩ := k_c2 (wc := [(kX12 hm vFo vSi vIt vMo la vBy vTy mi vMi pn vPs gn vGs fn vFt le vTo 0 0 1 ca an co vPr vSt vFn sn vSg vAl dr), (kAI vMi cI 24 qMi), (kAI vPs cI 32 qPs), (kAI vGs cI 16 qGs), (kAI vTo cI 96 qTo), (kAI vPr cI 2 qPr), (kAI vSt cI 2 qSt), (kAI vFn cI 2 qFn)]) hP hD [7, 0, 1, 2, 3, 4, 5, 6] (by decide +kernel) rfl
  exact W.vret hx₀ hb hr (fun t₀ ht hW => ⟨⟨(k_fn [(0 : Int32), (0 : Int32), (1 : Int32), an, co], k_fa [qTo, qPr, qSt, qFn], k_fl [], k_fL [], k_fp []), rfl, ⟨hh3, (show 0 ≤ (0 : Int32) ∧ (0 : Int32) ≤ 24 from ⟨(by decide), (by decide)⟩), (show (1 : Int32) = 0 ∨ (0 : Int32) = 0 ∨ (0 : Int32) ≤ 23 from (Or.inr (Or.inl (rfl)))), (show 0 ≤ (0 : Int32) ∧ (0 : Int32) ≤ 24 from ⟨(by decide), (by decide)⟩), (k_fd_n (show ¬ ((0 ≤ p1 ∧ p1 < pn) ∧ (0 ≤ le1 ∧ le1 < gn) ∧ 0 ≤ ri1 ∧ ri1 < gn) from (fun z => c_2 z.1)))⟩, by rw [ht]; exact hP9, va_K.moved hW.alike hK, hD9⟩, hS.F ht⟩) hS.2.2 dX12_flies_39
set_option maxHeartbeats 4000000 in
set_option maxRecDepth 100000 in
theorem e_fliesToldc (l : Launch) (dC : Nat → ClassId) (dI : Nat → Nat → Nat) (cI cJ cQ : ClassId) (sz : Nat) (hm : Nat) (f1 : Int32) (vFo : Nat) (vSi : Nat) (vIt : Nat) (vMo : Nat) (la : Int32) (vBy : Nat) (vTy : Nat) (mi : Int32) (vMi : Nat) (pn : Int32) (vPs : Nat) (gn : Int32) (vGs : Nat) (fn : Int32) (vFt : Nat) (le : Int32) (vTo : Nat) (kn : Int32) (fe : Int32) (en : Int32) (ca : Int32) (an : Int32) (co : Int32) (vPr : Nat) (vSt : Nat) (vFn : Nat) (sn : Int32) (vSg : Nat) (vAl : Nat) (dr : Int32) (qMi : Nat → Int32) (qPs : Nat → Int32) (qGs : Nat → Int32) (qTo : Nat → Int32) (qPr : Nat → Int32) (qSt : Nat → Int32) (qFn : Nat → Int32) (qFt : Nat → Int32) (hh0 : 0 ≤ mi ∧ mi ≤ 24) (hh1 : 0 ≤ pn ∧ pn ≤ 8) (hh2 : 0 ≤ gn ∧ gn ≤ 8) (hh3 : k_bd 2 0 7 qPr) (hh4 : 0 ≤ f1 ∧ f1 ≤ 7) (hh5 : k_tm pn qPs) (hh6 : k_bd 32 0 9 qFt) : Met l yX12_fliesTold (kW yX12_fliesTold cX12_fliesTold 2 none) { frames := 3, cells := 0, slots := 0, locals := 78 } (kPre dC dI cI cJ cQ sz [.ref hm, .int f1] [(kX12 hm vFo vSi vIt vMo la vBy vTy mi vMi pn vPs gn vGs fn vFt le vTo kn fe en ca an co vPr vSt vFn sn vSg vAl dr), (kAI vMi cI 24 qMi), (kAI vPs cI 32 qPs), (kAI vGs cI 16 qGs), (kAI vTo cI 96 qTo), (kAI vPr cI 2 qPr), (kAI vSt cI 2 qSt), (kAI vFn cI 2 qFn), (kAI vFt cI 32 qFt)]) (va_Qv (fun (u : kS) => (k_bd 2 0 7 (u.2.1 1)) ∧ (0 ≤ (u.1 1) ∧ (u.1 1) ≤ 24) ∧ ((u.1 2) = 0 ∨ (u.1 0) = 0 ∨ (u.1 1) ≤ 23) ∧ (0 ≤ (u.1 0) ∧ (u.1 0) ≤ 24) ∧ (k_fd ((0 ≤ (kP0 qFt f1) ∧ (kP0 qFt f1) < pn) ∧ (0 ≤ (kP1 qFt f1) ∧ (kP1 qFt f1) < gn) ∧ 0 ≤ (kP2 qFt f1) ∧ (kP2 qFt f1) < gn) (k_done (kMc (kM qMi) ca) (kCt (kMc (kM qMi) ca) (kP3 qPs (kP0 qFt f1)) (kfu mi 0) 0 ((kG0 qGs (kP1 qFt f1), kG1 qGs (kP1 qFt f1), kG0 qGs (kP1 qFt f1), 0), (kG0 qGs (kP2 qFt f1), kG1 qGs (kP2 qFt f1), kG0 qGs (kP2 qFt f1), 0))) le (kP0 qPs (kP0 qFt f1)) (kP1 qPs (kP0 qFt f1)) (5 * (kP2 qPs (kP0 qFt f1))) (fun x9 => if x9 < (24 : Int32) then (kP3 qFt f1) else (0 : Int32)) mi (u.1 0) (u.1 1) (u.1 2) (u.2.1 0)) (u.1 0) (u.1 1) (u.1 2))) (fun (u : kS) t₀ => kB dC dI cI cJ cQ (va_A [(kX12 hm vFo vSi vIt vMo la vBy vTy mi vMi pn vPs gn vGs fn vFt le vTo kn fe en ca an co vPr vSt vFn sn vSg vAl dr), (kAI vMi cI 24 qMi), (kAI vPs cI 32 qPs), (kAI vGs cI 16 qGs), (kAI vTo cI 96 qTo), (kAI vPr cI 2 qPr), (kAI vSt cI 2 qSt), (kAI vFn cI 2 qFn), (kAI vFt cI 32 qFt)] sz) [(kX12 hm vFo vSi vIt vMo la vBy vTy mi vMi pn vPs gn vGs fn vFt le vTo (u.1 0) (u.1 1) (u.1 2) ca (u.1 3) (u.1 4) vPr vSt vFn sn vSg vAl dr), (kAI vMi cI 24 qMi), (kAI vPs cI 32 qPs), (kAI vGs cI 16 qGs), (kAI vTo cI 96 (u.2.1 0)), (kAI vPr cI 2 (u.2.1 1)), (kAI vSt cI 2 (u.2.1 2)), (kAI vFn cI 2 (u.2.1 3)), (kAI vFt cI 32 qFt)] t₀) (va_A [(kX12 hm vFo vSi vIt vMo la vBy vTy mi vMi pn vPs gn vGs fn vFt le vTo kn fe en ca an co vPr vSt vFn sn vSg vAl dr), (kAI vMi cI 24 qMi), (kAI vPs cI 32 qPs), (kAI vGs cI 16 qGs), (kAI vTo cI 96 qTo), (kAI vPr cI 2 qPr), (kAI vSt cI 2 qSt), (kAI vFn cI 2 qFn), (kAI vFt cI 32 qFt)] sz)) 0 0 (va_A [(kX12 hm vFo vSi vIt vMo la vBy vTy mi vMi pn vPs gn vGs fn vFt le vTo kn fe en ca an co vPr vSt vFn sn vSg vAl dr), (kAI vMi cI 24 qMi), (kAI vPs cI 32 qPs), (kAI vGs cI 16 qGs), (kAI vTo cI 96 qTo), (kAI vPr cI 2 qPr), (kAI vSt cI 2 qSt), (kAI vFn cI 2 qFn), (kAI vFt cI 32 qFt)] sz) := by
  refine Met.ofW (cc := cX12_fliesTold) (maxL := 2) (ret := none) (by decide) rfl ?_
  intro p₀ e₀ s₀ m₀ args below meth c₀ s₁ B hml hv₀
  obtain ⟨rfl, hsz, hP, hK, hD0, hN⟩ := hv₀
  have hx₀ := B.exec
  have hb := B.bytes
  have hr := B.returns
  have hts := atoms_spec (ws := (kW yX12_fliesTold cX12_fliesTold 2 none)) B.pre
  have hts := fun w h => hts w (List.mem_cons_of_mem _ h)
  have hown : s₀.vm.findClass RX12 = some m₀.cls := findClass_of_methodNamed B.named
  have hlocks := B.notSynchronized
  subst hsz
  have hD := hD0.self (sz := s₀.heap.size)
  generalize hAe : va_A [(kX12 hm vFo vSi vIt vMo la vBy vTy mi vMi pn vPs gn vGs fn vFt le vTo kn fe en ca an co vPr vSt vFn sn vSg vAl dr), (kAI vMi cI 24 qMi), (kAI vPs cI 32 qPs), (kAI vGs cI 16 qGs), (kAI vTo cI 96 qTo), (kAI vPr cI 2 qPr), (kAI vSt cI 2 qSt), (kAI vFn cI 2 qFn), (kAI vFt cI 32 qFt)] s₀.heap.size = A at hD ⊢
  have hA : ∀ q : Nat, s₀.heap.size ≤ q → A q := fun q h => by rw [← hAe]; exact Or.inr h
  have hS : va_S A s₀.heap s₀.heap [] := va_S.rf
  have hP : va_P (dC, dI) vwCl [(kX12 hm vFo vSi vIt vMo la vBy vTy mi vMi pn vPs gn vGs fn vFt le vTo kn fe en ca an co vPr vSt vFn sn vSg vAl dr), (kAI vMi cI 24 qMi), (kAI vPs cI 32 qPs), (kAI vGs cI 16 qGs), (kAI vTo cI 96 qTo), (kAI vPr cI 2 qPr), (kAI vSt cI 2 qSt), (kAI vFn cI 2 qFn), (kAI vFt cI 32 qFt)] s₀.heap := hP
  have hl := lv_entry ([.ref hm, .int f1]) (n := 2) (Nat.le_of_ble_eq_true rfl)
  rw [lg_entry_eq]
  generalize (lg_sl ([.ref hm, .int f1]) ++ List.replicate (2 - (lg_sl ([.ref hm, .int f1])).length) Slot.unset).toArray = ls at hl ⊢
  have hl : lv_has ls 2 [(0, .ref hm), (1, .int f1)] := hl
  obtain ⟨H, hH⟩ : ∃ z : Heap, z = s₀.heap := ⟨_, rfl⟩
  rw [← hH] at hP
  have hS : va_S A s₀.heap H [] := by rw [hH]; exact hS
  refine k_heap hH ?_
  have hD : va_D A [(kX12 hm vFo vSi vIt vMo la vBy vTy mi vMi pn vPs gn vGs fn vFt le vTo kn fe en ca an co vPr vSt vFn sn vSg vAl dr), (kAI vMi cI 24 qMi), (kAI vPs cI 32 qPs), (kAI vGs cI 16 qGs), (kAI vTo cI 96 qTo), (kAI vPr cI 2 qPr), (kAI vSt cI 2 qSt), (kAI vFn cI 2 qFn), (kAI vFt cI 32 qFt)] := hD
  obtain ⟨locs, hlo⟩ : ∃ z : List Loc, z = [] := ⟨_, rfl⟩
  rw [← hlo] at hS ⊢
  clear hlo hH hAe hD0
  refine lv_aload_n hx₀ hb dX12_fliesTold_0 rfl (lv_at hl 0 rfl) ?_
  refine lv_aload_n hx₀ hb dX12_fliesTold_1 rfl (lv_at hl 0 rfl) ?_
  refine va_get (D := (dC, dI)) (ci := 11) (v := .ref vFt) (C := RX12) (T := TX12) (N := 30) hx₀ hb hts inlX12 hown hK hP 0 rfl rfl 14 (by decide) (hts (.fieldLink RX12 37 "BittenStickModel" "flight" "[I") wd_124) (fun _ h9 => h9) rfl dX12_fliesTold_2 ?_
  refine lv_iconst (v := 4) hx₀ hb dX12_fliesTold_5 (by decide +kernel) ?_
  refine lv_iload_n hx₀ hb dX12_fliesTold_6 rfl (lv_at hl 1 rfl) ?_
  refine lv_imul hx₀ hb dX12_fliesTold_7 ?_
  refine va_iald hx₀ hb hK hP 8 0 rfl rfl (vp_in_iff.mpr (lf_g_fliesTold_1 f1 hh4)) dX12_fliesTold_8 ?_
  refine k_topi (v := kP0 qFt f1) rfl ?_
  refine lv_aload_n hx₀ hb dX12_fliesTold_9 rfl (lv_at hl 0 rfl) ?_
  refine va_get (D := (dC, dI)) (ci := 11) (v := .ref vFt) (C := RX12) (T := TX12) (N := 30) hx₀ hb hts inlX12 hown hK hP 0 rfl rfl 14 (by decide) (hts (.fieldLink RX12 37 "BittenStickModel" "flight" "[I") wd_124) (fun _ h9 => h9) rfl dX12_fliesTold_10 ?_
  refine lv_iconst (v := 4) hx₀ hb dX12_fliesTold_13 (by decide +kernel) ?_
  refine lv_iload_n hx₀ hb dX12_fliesTold_14 rfl (lv_at hl 1 rfl) ?_
  refine lv_imul hx₀ hb dX12_fliesTold_15 ?_
  refine lv_iconst (v := 1) hx₀ hb dX12_fliesTold_16 (by decide +kernel) ?_
  refine lv_iadd hx₀ hb dX12_fliesTold_17 ?_
  refine va_iald hx₀ hb hK hP 8 0 rfl rfl (vp_in_iff.mpr (lf_g_fliesTold_2 f1 hh4)) dX12_fliesTold_18 ?_
  refine k_topi (v := kP1 qFt f1) rfl ?_
  refine lv_aload_n hx₀ hb dX12_fliesTold_19 rfl (lv_at hl 0 rfl) ?_
  refine va_get (D := (dC, dI)) (ci := 11) (v := .ref vFt) (C := RX12) (T := TX12) (N := 30) hx₀ hb hts inlX12 hown hK hP 0 rfl rfl 14 (by decide) (hts (.fieldLink RX12 37 "BittenStickModel" "flight" "[I") wd_124) (fun _ h9 => h9) rfl dX12_fliesTold_20 ?_
  refine lv_iconst (v := 4) hx₀ hb dX12_fliesTold_23 (by decide +kernel) ?_
  refine lv_iload_n hx₀ hb dX12_fliesTold_24 rfl (lv_at hl 1 rfl) ?_
  refine lv_imul hx₀ hb dX12_fliesTold_25 ?_
  refine lv_iconst (v := 2) hx₀ hb dX12_fliesTold_26 (by decide +kernel) ?_
  refine lv_iadd hx₀ hb dX12_fliesTold_27 ?_
  refine va_iald hx₀ hb hK hP 8 0 rfl rfl (vp_in_iff.mpr (lf_g_goes_3 f1 hh4)) dX12_fliesTold_28 ?_
  refine k_topi (v := kP2 qFt f1) rfl ?_
  refine lv_aload_n hx₀ hb dX12_fliesTold_29 rfl (lv_at hl 0 rfl) ?_
  refine va_get (D := (dC, dI)) (ci := 11) (v := .ref vFt) (C := RX12) (T := TX12) (N := 30) hx₀ hb hts inlX12 hown hK hP 0 rfl rfl 14 (by decide) (hts (.fieldLink RX12 37 "BittenStickModel" "flight" "[I") wd_124) (fun _ h9 => h9) rfl dX12_fliesTold_30 ?_
  refine lv_iconst (v := 4) hx₀ hb dX12_fliesTold_33 (by decide +kernel) ?_
  refine lv_iload_n hx₀ hb dX12_fliesTold_34 rfl (lv_at hl 1 rfl) ?_
  refine lv_imul hx₀ hb dX12_fliesTold_35 ?_
  refine lv_iconst (v := 3) hx₀ hb dX12_fliesTold_36 (by decide +kernel) ?_
  refine lv_iadd hx₀ hb dX12_fliesTold_37 ?_
  refine va_iald hx₀ hb hK hP 8 0 rfl rfl (vp_in_iff.mpr (lf_g_goes_2 f1 hh4)) dX12_fliesTold_38 ?_
  refine k_topi (v := kP3 qFt f1) rfl ?_
  refine lv_bipush (v := 24) hx₀ hb dX12_fliesTold_39 (by decide +kernel) ?_
  refine lv_iconst (v := 0) hx₀ hb dX12_fliesTold_41 (by decide +kernel) ?_
  obtain ⟨hPc, hDc, hFc, hC⟩ := k_cw (wc := [(kX12 hm vFo vSi vIt vMo la vBy vTy mi vMi pn vPs gn vGs fn vFt le vTo kn fe en ca an co vPr vSt vFn sn vSg vAl dr), (kAI vMi cI 24 qMi), (kAI vPs cI 32 qPs), (kAI vGs cI 16 qGs), (kAI vTo cI 96 qTo), (kAI vPr cI 2 qPr), (kAI vSt cI 2 qSt), (kAI vFn cI 2 qFn)]) hP hD hS hA [0, 1, 2, 3, 4, 5, 6, 7] (by decide +kernel) rfl
  refine va_callv (va_runV (As := [.int (kP0 qFt f1), .int (kP1 qFt f1), .int (kP2 qFt f1), .int (kP3 qFt f1), .int 24, .int 0]) (rest := []) ⟨hx₀, hb, hml, hown, hts⟩ (e_fliesc l dC dI cI cJ cQ H.size hm (kP0 qFt f1) (kP1 qFt f1) (kP2 qFt f1) (kP3 qFt f1) 24 0 vFo vSi vIt vMo la vBy vTy mi vMi pn vPs gn vGs fn vFt le vTo kn fe en ca an co vPr vSt vFn sn vSg vAl dr qMi qPs qGs qTo qPr qSt qFn (hh0) (hh1) (hh2) (hh3) (k_bdP3 hh6 (hh4)) (show 0 ≤ (0 : Int32) ∧ (0 : Int32) ≤ 100 from ⟨(by decide), (by decide)⟩) (hh5)) (cwV 6 hts (kGV wd_540 wd_537 wd_538 wd_539 wd_5) rfl rfl rfl (by decide +kernel) ⟨Nat.le_of_ble_eq_true rfl, Nat.le_of_ble_eq_true rfl⟩) (k_preV (ci := 11) (q0 := 0) hK hPc hDc hN rfl rfl) rfl rfl hl.1 rfl (lv_room (Nat.le_of_ble_eq_true rfl)) dX12_fliesTold_42 ⟨by decide +kernel, by decide +kernel⟩) hS (fun q _ h => hFc q h) hFc (fun u₀ t₀ H1 locs ht hvm hw hB hz1 hk1 hS => ?_)
  obtain ⟨g_2, ga_3, gl_4, gb_5, gp_6⟩ := u₀
  obtain ⟨hP1, hK1, hD1⟩ := hB
  rw [ht] at hP1
  have hJ := k_jn (wr := [(kAI vFt cI 32 qFt)]) (wt := [(kAI vFt cI 32 qFt), (kX12 hm vFo vSi vIt vMo la vBy vTy mi vMi pn vPs gn vGs fn vFt le vTo (g_2 0) (g_2 1) (g_2 2) ca (g_2 3) (g_2 4) vPr vSt vFn sn vSg vAl dr), (kAI vMi cI 24 qMi), (kAI vPs cI 32 qPs), (kAI vGs cI 16 qGs), (kAI vTo cI 96 (ga_3 0)), (kAI vPr cI 2 (ga_3 1)), (kAI vSt cI 2 (ga_3 2)), (kAI vFn cI 2 (ga_3 3))]) hP hD hC [8] rfl (by decide +kernel) (by decide +kernel) hk1 hFc hP1 hD1 rfl
  clear hP hD hPc hDc hFc hC hP1 hD1 hK1 hz1 hk1 hvm ht
  obtain ⟨hP, hD⟩ := hJ
  generalize H1 = H at hP hS ⊢
  try dsimp only at hw
  obtain ⟨c_7, c_8, c_9, c_10, c_11⟩ := hw
  obtain ⟨hP9, hD9⟩ := k_c2 (wc := [(kX12 hm vFo vSi vIt vMo la vBy vTy mi vMi pn vPs gn vGs fn vFt le vTo (g_2 0) (g_2 1) (g_2 2) ca (g_2 3) (g_2 4) vPr vSt vFn sn vSg vAl dr), (kAI vMi cI 24 qMi), (kAI vPs cI 32 qPs), (kAI vGs cI 16 qGs), (kAI vTo cI 96 (ga_3 0)), (kAI vPr cI 2 (ga_3 1)), (kAI vSt cI 2 (ga_3 2)), (kAI vFn cI 2 (ga_3 3)), (kAI vFt cI 32 qFt)]) hP hD [1, 2, 3, 4, 5, 6, 7, 8, 0] (by decide +kernel) rfl
  exact W.vret hx₀ hb hr (fun t₀ ht hW => ⟨⟨(k_fn [(g_2 0), (g_2 1), (g_2 2), (g_2 3), (g_2 4)], k_fa [ga_3 0, ga_3 1, ga_3 2, ga_3 3], k_fl [], k_fL [], k_fp []), rfl, ⟨c_7, c_8, c_9, c_10, c_11⟩, by rw [ht]; exact hP9, va_K.moved hW.alike hK, hD9⟩, hS.F ht⟩) hS.2.2 dX12_fliesTold_45
