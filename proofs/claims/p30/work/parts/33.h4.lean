set_option maxHeartbeats 4000000 in
set_option maxRecDepth 100000 in
theorem g_changes (l : Launch) (dC : Nat → ClassId) (dI : Nat → Nat → Nat) (cI cJ cQ : ClassId) (sz : Nat) (hm : Nat) (vFo : Nat) (vSi : Nat) (vIt : Nat) (vMo : Nat) (la : Int32) (vBy : Nat) (vTy : Nat) (mi : Int32) (vMi : Nat) (pn : Int32) (vPs : Nat) (gn : Int32) (vGs : Nat) (fn : Int32) (vFt : Nat) (le : Int32) (vTo : Nat) (kn : Int32) (fe : Int32) (en : Int32) (ca : Int32) (an : Int32) (co : Int32) (vPr : Nat) (vSt : Nat) (vFn : Nat) (sn : Int32) (vSg : Nat) (vAl : Nat) (dr : Int32) (qPr : Nat → Int32) (qSt : Nat → Int32) (qFn : Nat → Int32) (hh0 : k_bd 2 0 7 qPr) : Met l yX12_changes (kW yX12_changes cX12_changes 4 none) { frames := 0, cells := 0, slots := 0, locals := 0 } (kPre dC dI cI cJ cQ sz [.ref hm] [(kX12 hm vFo vSi vIt vMo la vBy vTy mi vMi pn vPs gn vGs fn vFt le vTo kn fe en ca an co vPr vSt vFn sn vSg vAl dr), (kAI vPr cI 2 qPr), (kAI vSt cI 2 qSt), (kAI vFn cI 2 qFn)]) (va_Qv (fun (u : kS) => ((u.2.1 0) 0 = qPr 1) ∧ ((u.2.1 0) 1 = qPr 0) ∧ ((u.2.1 1) 0 = qSt 1) ∧ ((u.2.1 1) 1 = qSt 0) ∧ ((u.2.1 2) 0 = qFn 1) ∧ ((u.2.1 2) 1 = qFn 0) ∧ (k_bd 2 0 7 (u.2.1 0))) (fun (u : kS) t₀ => kB dC dI cI cJ cQ (va_A [(kX12 hm vFo vSi vIt vMo la vBy vTy mi vMi pn vPs gn vGs fn vFt le vTo kn fe en ca an co vPr vSt vFn sn vSg vAl dr), (kAI vPr cI 2 qPr), (kAI vSt cI 2 qSt), (kAI vFn cI 2 qFn)] sz) [(kX12 hm vFo vSi vIt vMo la vBy vTy mi vMi pn vPs gn vGs fn vFt le vTo kn fe en ca an co vPr vSt vFn sn vSg vAl dr), (kAI vPr cI 2 (u.2.1 0)), (kAI vSt cI 2 (u.2.1 1)), (kAI vFn cI 2 (u.2.1 2))] t₀) (va_A [(kX12 hm vFo vSi vIt vMo la vBy vTy mi vMi pn vPs gn vGs fn vFt le vTo kn fe en ca an co vPr vSt vFn sn vSg vAl dr), (kAI vPr cI 2 qPr), (kAI vSt cI 2 qSt), (kAI vFn cI 2 qFn)] sz)) 0 0 (va_A [(kX12 hm vFo vSi vIt vMo la vBy vTy mi vMi pn vPs gn vGs fn vFt le vTo kn fe en ca an co vPr vSt vFn sn vSg vAl dr), (kAI vPr cI 2 qPr), (kAI vSt cI 2 qSt), (kAI vFn cI 2 qFn)] sz) := by
  refine Met.ofW (cc := cX12_changes) (maxL := 4) (ret := none) (by decide) rfl ?_
  intro p₀ e₀ s₀ m₀ args below meth c₀ s₁ B hml hv₀
  obtain ⟨rfl, hsz, hP, hK, hD0, hN⟩ := hv₀
  have hx₀ := B.exec
  have hb := B.bytes
  have hr := B.returns
  have hts := atoms_spec (ws := (kW yX12_changes cX12_changes 4 none)) B.pre
  have hts := fun w h => hts w (List.mem_cons_of_mem _ h)
  have hown : s₀.vm.findClass RX12 = some m₀.cls := findClass_of_methodNamed B.named
  have hlocks := B.notSynchronized
  subst hsz
  have hD := hD0.self (sz := s₀.heap.size)
  generalize hAe : va_A [(kX12 hm vFo vSi vIt vMo la vBy vTy mi vMi pn vPs gn vGs fn vFt le vTo kn fe en ca an co vPr vSt vFn sn vSg vAl dr), (kAI vPr cI 2 qPr), (kAI vSt cI 2 qSt), (kAI vFn cI 2 qFn)] s₀.heap.size = A at hD ⊢
  have hA : ∀ q : Nat, s₀.heap.size ≤ q → A q := fun q h => by rw [← hAe]; exact Or.inr h
  have hS : va_S A s₀.heap s₀.heap [] := va_S.rf
  have hP : va_P (dC, dI) vwCl [(kX12 hm vFo vSi vIt vMo la vBy vTy mi vMi pn vPs gn vGs fn vFt le vTo kn fe en ca an co vPr vSt vFn sn vSg vAl dr), (kAI vPr cI 2 qPr), (kAI vSt cI 2 qSt), (kAI vFn cI 2 qFn)] s₀.heap := hP
  have hl := lv_entry ([.ref hm]) (n := 4) (Nat.le_of_ble_eq_true rfl)
  rw [lg_entry_eq]
  generalize (lg_sl ([.ref hm]) ++ List.replicate (4 - (lg_sl ([.ref hm])).length) Slot.unset).toArray = ls at hl ⊢
  have hl : lv_has ls 4 [(0, .ref hm)] := hl
  obtain ⟨H, hH⟩ : ∃ z : Heap, z = s₀.heap := ⟨_, rfl⟩
  rw [← hH] at hP
  have hS : va_S A s₀.heap H [] := by rw [hH]; exact hS
  refine k_heap hH ?_
  have hD : va_D A [(kX12 hm vFo vSi vIt vMo la vBy vTy mi vMi pn vPs gn vGs fn vFt le vTo kn fe en ca an co vPr vSt vFn sn vSg vAl dr), (kAI vPr cI 2 qPr), (kAI vSt cI 2 qSt), (kAI vFn cI 2 qFn)] := hD
  obtain ⟨locs, hlo⟩ : ∃ z : List Loc, z = [] := ⟨_, rfl⟩
  rw [← hlo] at hS ⊢
  clear hlo hH hAe hD0
  have hp0 : 0 ≤ (qPr 0).toInt ∧ (qPr 0).toInt ≤ 7 := hh0 0 (by decide)
  have hp1 : 0 ≤ (qPr 1).toInt ∧ (qPr 1).toInt ≤ 7 := hh0 1 (by decide)
  refine lv_aload_n hx₀ hb dX12_changes_0 rfl (lv_at hl 0 rfl) ?_
  refine va_get (D := (dC, dI)) (ci := 11) (v := .ref vPr) (C := RX12) (T := TX12) (N := 30) hx₀ hb hts inlX12 hown hK hP 0 rfl rfl 23 (by decide) (hts (.fieldLink RX12 43 "BittenStickModel" "pair" "[I") wd_126) (fun _ h9 => h9) rfl dX12_changes_1 ?_
  refine lv_iconst (v := 0) hx₀ hb dX12_changes_4 (by decide +kernel) ?_
  refine va_iald hx₀ hb hK hP 1 0 rfl rfl (by unfold vp_in; decide +kernel) dX12_changes_5 ?_
  refine k_topi (v := qPr 0) rfl ?_
  refine lv_istore_n (lv' := [(1, .int (qPr 0)), (0, .ref hm)]) hx₀ hb dX12_changes_6 rfl hl (by decide) rfl (fun ls hl => ?_)
  refine lv_aload_n hx₀ hb dX12_changes_7 rfl (lv_at hl 1 rfl) ?_
  refine va_get (D := (dC, dI)) (ci := 11) (v := .ref vSt) (C := RX12) (T := TX12) (N := 30) hx₀ hb hts inlX12 hown hK hP 0 rfl rfl 24 (by decide) (hts (.fieldLink RX12 46 "BittenStickModel" "strong" "[I") wd_127) (fun _ h9 => h9) rfl dX12_changes_8 ?_
  refine lv_iconst (v := 0) hx₀ hb dX12_changes_11 (by decide +kernel) ?_
  refine va_iald hx₀ hb hK hP 2 0 rfl rfl (by unfold vp_in; decide +kernel) dX12_changes_12 ?_
  refine k_topi (v := qSt 0) rfl ?_
  refine lv_istore_n (lv' := [(2, .int (qSt 0)), (1, .int (qPr 0)), (0, .ref hm)]) hx₀ hb dX12_changes_13 rfl hl (by decide) rfl (fun ls hl => ?_)
  refine lv_aload_n hx₀ hb dX12_changes_14 rfl (lv_at hl 2 rfl) ?_
  refine va_get (D := (dC, dI)) (ci := 11) (v := .ref vFn) (C := RX12) (T := TX12) (N := 30) hx₀ hb hts inlX12 hown hK hP 0 rfl rfl 25 (by decide) (hts (.fieldLink RX12 49 "BittenStickModel" "flown" "[I") wd_128) (fun _ h9 => h9) rfl dX12_changes_15 ?_
  refine lv_iconst (v := 0) hx₀ hb dX12_changes_18 (by decide +kernel) ?_
  refine va_iald hx₀ hb hK hP 3 0 rfl rfl (by unfold vp_in; decide +kernel) dX12_changes_19 ?_
  refine k_topi (v := qFn 0) rfl ?_
  refine lv_istore_n (lv' := [(3, .int (qFn 0)), (2, .int (qSt 0)), (1, .int (qPr 0)), (0, .ref hm)]) hx₀ hb dX12_changes_20 rfl hl (by decide) rfl (fun ls hl => ?_)
  refine lv_aload_n hx₀ hb dX12_changes_21 rfl (lv_at hl 3 rfl) ?_
  refine va_get (D := (dC, dI)) (ci := 11) (v := .ref vPr) (C := RX12) (T := TX12) (N := 30) hx₀ hb hts inlX12 hown hK hP 0 rfl rfl 23 (by decide) (hts (.fieldLink RX12 43 "BittenStickModel" "pair" "[I") wd_126) (fun _ h9 => h9) rfl dX12_changes_22 ?_
  refine lv_iconst (v := 0) hx₀ hb dX12_changes_25 (by decide +kernel) ?_
  refine lv_aload_n hx₀ hb dX12_changes_26 rfl (lv_at hl 3 rfl) ?_
  refine va_get (D := (dC, dI)) (ci := 11) (v := .ref vPr) (C := RX12) (T := TX12) (N := 30) hx₀ hb hts inlX12 hown hK hP 0 rfl rfl 23 (by decide) (hts (.fieldLink RX12 43 "BittenStickModel" "pair" "[I") wd_126) (fun _ h9 => h9) rfl dX12_changes_27 ?_
  refine lv_iconst (v := 1) hx₀ hb dX12_changes_30 (by decide +kernel) ?_
  refine va_iald hx₀ hb hK hP 1 0 rfl rfl (by unfold vp_in; decide +kernel) dX12_changes_31 ?_
  refine k_topi (v := qPr 1) rfl ?_
  refine va_iast hx₀ hb hK hP hD hS 1 0 rfl rfl (by unfold vp_in; decide +kernel) dX12_changes_32 ?_
  clear hP hD hS
  intro H locs hP hD hS
  replace hP := k_w2 (wt := [(kX12 hm vFo vSi vIt vMo la vBy vTy mi vMi pn vPs gn vGs fn vFt le vTo kn fe en ca an co vPr vSt vFn sn vSg vAl dr), (kAI vPr cI 2 (upd qPr (0 : Int32).toNatClampNeg (qPr 1))), (kAI vSt cI 2 qSt), (kAI vFn cI 2 qFn)]) hP hD rfl
  replace hD := hP.2
  replace hP := hP.1
  refine lv_aload_n hx₀ hb dX12_changes_33 rfl (lv_at hl 3 rfl) ?_
  refine va_get (D := (dC, dI)) (ci := 11) (v := .ref vSt) (C := RX12) (T := TX12) (N := 30) hx₀ hb hts inlX12 hown hK hP 0 rfl rfl 24 (by decide) (hts (.fieldLink RX12 46 "BittenStickModel" "strong" "[I") wd_127) (fun _ h9 => h9) rfl dX12_changes_34 ?_
  refine lv_iconst (v := 0) hx₀ hb dX12_changes_37 (by decide +kernel) ?_
  refine lv_aload_n hx₀ hb dX12_changes_38 rfl (lv_at hl 3 rfl) ?_
  refine va_get (D := (dC, dI)) (ci := 11) (v := .ref vSt) (C := RX12) (T := TX12) (N := 30) hx₀ hb hts inlX12 hown hK hP 0 rfl rfl 24 (by decide) (hts (.fieldLink RX12 46 "BittenStickModel" "strong" "[I") wd_127) (fun _ h9 => h9) rfl dX12_changes_39 ?_
  refine lv_iconst (v := 1) hx₀ hb dX12_changes_42 (by decide +kernel) ?_
  refine va_iald hx₀ hb hK hP 2 0 rfl rfl (by unfold vp_in; decide +kernel) dX12_changes_43 ?_
  refine k_topi (v := qSt 1) rfl ?_
  refine va_iast hx₀ hb hK hP hD hS 2 0 rfl rfl (by unfold vp_in; decide +kernel) dX12_changes_44 ?_
  clear hP hD hS
  intro H locs hP hD hS
  replace hP := k_w2 (wt := [(kX12 hm vFo vSi vIt vMo la vBy vTy mi vMi pn vPs gn vGs fn vFt le vTo kn fe en ca an co vPr vSt vFn sn vSg vAl dr), (kAI vPr cI 2 (upd qPr (0 : Int32).toNatClampNeg (qPr 1))), (kAI vSt cI 2 (upd qSt (0 : Int32).toNatClampNeg (qSt 1))), (kAI vFn cI 2 qFn)]) hP hD rfl
  replace hD := hP.2
  replace hP := hP.1
  refine lv_aload_n hx₀ hb dX12_changes_45 rfl (lv_at hl 3 rfl) ?_
  refine va_get (D := (dC, dI)) (ci := 11) (v := .ref vFn) (C := RX12) (T := TX12) (N := 30) hx₀ hb hts inlX12 hown hK hP 0 rfl rfl 25 (by decide) (hts (.fieldLink RX12 49 "BittenStickModel" "flown" "[I") wd_128) (fun _ h9 => h9) rfl dX12_changes_46 ?_
  refine lv_iconst (v := 0) hx₀ hb dX12_changes_49 (by decide +kernel) ?_
  refine lv_aload_n hx₀ hb dX12_changes_50 rfl (lv_at hl 3 rfl) ?_
  refine va_get (D := (dC, dI)) (ci := 11) (v := .ref vFn) (C := RX12) (T := TX12) (N := 30) hx₀ hb hts inlX12 hown hK hP 0 rfl rfl 25 (by decide) (hts (.fieldLink RX12 49 "BittenStickModel" "flown" "[I") wd_128) (fun _ h9 => h9) rfl dX12_changes_51 ?_
  refine lv_iconst (v := 1) hx₀ hb dX12_changes_54 (by decide +kernel) ?_
  refine va_iald hx₀ hb hK hP 3 0 rfl rfl (by unfold vp_in; decide +kernel) dX12_changes_55 ?_
  refine k_topi (v := qFn 1) rfl ?_
  refine va_iast hx₀ hb hK hP hD hS 3 0 rfl rfl (by unfold vp_in; decide +kernel) dX12_changes_56 ?_
  clear hP hD hS
  intro H locs hP hD hS
  replace hP := k_w2 (wt := [(kX12 hm vFo vSi vIt vMo la vBy vTy mi vMi pn vPs gn vGs fn vFt le vTo kn fe en ca an co vPr vSt vFn sn vSg vAl dr), (kAI vPr cI 2 (upd qPr (0 : Int32).toNatClampNeg (qPr 1))), (kAI vSt cI 2 (upd qSt (0 : Int32).toNatClampNeg (qSt 1))), (kAI vFn cI 2 (upd qFn (0 : Int32).toNatClampNeg (qFn 1)))]) hP hD rfl
  replace hD := hP.2
  replace hP := hP.1
  refine lv_aload_n hx₀ hb dX12_changes_57 rfl (lv_at hl 3 rfl) ?_
  refine va_get (D := (dC, dI)) (ci := 11) (v := .ref vPr) (C := RX12) (T := TX12) (N := 30) hx₀ hb hts inlX12 hown hK hP 0 rfl rfl 23 (by decide) (hts (.fieldLink RX12 43 "BittenStickModel" "pair" "[I") wd_126) (fun _ h9 => h9) rfl dX12_changes_58 ?_
  refine lv_iconst (v := 1) hx₀ hb dX12_changes_61 (by decide +kernel) ?_
  refine lv_iload_n hx₀ hb dX12_changes_62 rfl (lv_at hl 2 rfl) ?_
  refine va_iast hx₀ hb hK hP hD hS 1 0 rfl rfl (by unfold vp_in; decide +kernel) dX12_changes_63 ?_
  clear hP hD hS
  intro H locs hP hD hS
  replace hP := k_w2 (wt := [(kX12 hm vFo vSi vIt vMo la vBy vTy mi vMi pn vPs gn vGs fn vFt le vTo kn fe en ca an co vPr vSt vFn sn vSg vAl dr), (kAI vPr cI 2 (upd (upd qPr (0 : Int32).toNatClampNeg (qPr 1)) (1 : Int32).toNatClampNeg (qPr 0))), (kAI vSt cI 2 (upd qSt (0 : Int32).toNatClampNeg (qSt 1))), (kAI vFn cI 2 (upd qFn (0 : Int32).toNatClampNeg (qFn 1)))]) hP hD rfl
  replace hD := hP.2
  replace hP := hP.1
  refine lv_aload_n hx₀ hb dX12_changes_64 rfl (lv_at hl 3 rfl) ?_
  refine va_get (D := (dC, dI)) (ci := 11) (v := .ref vSt) (C := RX12) (T := TX12) (N := 30) hx₀ hb hts inlX12 hown hK hP 0 rfl rfl 24 (by decide) (hts (.fieldLink RX12 46 "BittenStickModel" "strong" "[I") wd_127) (fun _ h9 => h9) rfl dX12_changes_65 ?_
  refine lv_iconst (v := 1) hx₀ hb dX12_changes_68 (by decide +kernel) ?_
  refine lv_iload_n hx₀ hb dX12_changes_69 rfl (lv_at hl 1 rfl) ?_
  refine va_iast hx₀ hb hK hP hD hS 2 0 rfl rfl (by unfold vp_in; decide +kernel) dX12_changes_70 ?_
  clear hP hD hS
  intro H locs hP hD hS
  replace hP := k_w2 (wt := [(kX12 hm vFo vSi vIt vMo la vBy vTy mi vMi pn vPs gn vGs fn vFt le vTo kn fe en ca an co vPr vSt vFn sn vSg vAl dr), (kAI vPr cI 2 (upd (upd qPr (0 : Int32).toNatClampNeg (qPr 1)) (1 : Int32).toNatClampNeg (qPr 0))), (kAI vSt cI 2 (upd (upd qSt (0 : Int32).toNatClampNeg (qSt 1)) (1 : Int32).toNatClampNeg (qSt 0))), (kAI vFn cI 2 (upd qFn (0 : Int32).toNatClampNeg (qFn 1)))]) hP hD rfl
  replace hD := hP.2
  replace hP := hP.1
  refine lv_aload_n hx₀ hb dX12_changes_71 rfl (lv_at hl 3 rfl) ?_
  refine va_get (D := (dC, dI)) (ci := 11) (v := .ref vFn) (C := RX12) (T := TX12) (N := 30) hx₀ hb hts inlX12 hown hK hP 0 rfl rfl 25 (by decide) (hts (.fieldLink RX12 49 "BittenStickModel" "flown" "[I") wd_128) (fun _ h9 => h9) rfl dX12_changes_72 ?_
  refine lv_iconst (v := 1) hx₀ hb dX12_changes_75 (by decide +kernel) ?_
  refine lv_iload_n hx₀ hb dX12_changes_76 rfl (lv_at hl 0 rfl) ?_
  refine va_iast hx₀ hb hK hP hD hS 3 0 rfl rfl (by unfold vp_in; decide +kernel) dX12_changes_77 ?_
  clear hP hD hS
  intro H locs hP hD hS
  replace hP := k_w2 (wt := [(kX12 hm vFo vSi vIt vMo la vBy vTy mi vMi pn vPs gn vGs fn vFt le vTo kn fe en ca an co vPr vSt vFn sn vSg vAl dr), (kAI vPr cI 2 (upd (upd qPr (0 : Int32).toNatClampNeg (qPr 1)) (1 : Int32).toNatClampNeg (qPr 0))), (kAI vSt cI 2 (upd (upd qSt (0 : Int32).toNatClampNeg (qSt 1)) (1 : Int32).toNatClampNeg (qSt 0))), (kAI vFn cI 2 (upd (upd qFn (0 : Int32).toNatClampNeg (qFn 1)) (1 : Int32).toNatClampNeg (qFn 0)))]) hP hD rfl
  replace hD := hP.2
  replace hP := hP.1
  obtain ⟨hP9, hD9⟩ := k_c2 (wc := [(kX12 hm vFo vSi vIt vMo la vBy vTy mi vMi pn vPs gn vGs fn vFt le vTo kn fe en ca an co vPr vSt vFn sn vSg vAl dr), (kAI vPr cI 2 (upd (upd qPr (0 : Int32).toNatClampNeg (qPr 1)) (1 : Int32).toNatClampNeg (qPr 0))), (kAI vSt cI 2 (upd (upd qSt (0 : Int32).toNatClampNeg (qSt 1)) (1 : Int32).toNatClampNeg (qSt 0))), (kAI vFn cI 2 (upd (upd qFn (0 : Int32).toNatClampNeg (qFn 1)) (1 : Int32).toNatClampNeg (qFn 0)))]) hP hD [0, 1, 2, 3] (by decide +kernel) rfl
  exact W.vret hx₀ hb hr (fun t₀ ht hW => ⟨⟨(k_fn [], k_fa [upd (upd qPr (0 : Int32).toNatClampNeg (qPr 1)) (1 : Int32).toNatClampNeg (qPr 0), upd (upd qSt (0 : Int32).toNatClampNeg (qSt 1)) (1 : Int32).toNatClampNeg (qSt 0), upd (upd qFn (0 : Int32).toNatClampNeg (qFn 1)) (1 : Int32).toNatClampNeg (qFn 0)], k_fl [], k_fL [], k_fp []), rfl, ⟨rfl, rfl, rfl, rfl, rfl, rfl, (k_bd2 hp1 hp0)⟩, by rw [ht]; exact hP9, va_K.moved hW.alike hK, hD9⟩, hS.F ht⟩) hS.2.2 dX12_changes_78
theorem lf_g_tires0_1 (a0 : Int32) (h0 : 0 ≤ (a0).toInt ∧ (a0).toInt ≤ 7) : 0 ≤ ((2 * (a0)) + 1).toInt ∧ ((2 * (a0)) + 1).toInt < 16 := by
  first | rfl | assumption | decide | exact Or.inl rfl | (first | omega | (have hr0 := Int32.toInt_lt a0; have hs0 := Int32.le_toInt a0; simp only [Int64.toInt_add, Int64.toInt_sub, Int32.toInt_add, Int32.toInt_sub, Int32.toInt_mul, Int64.le_iff_toInt_le, Int64.lt_iff_toInt_lt, Int32.le_iff_toInt_le, Int32.lt_iff_toInt_lt, ← Int32.toInt_inj, ← Int64.toInt_inj, Int32.toInt_toInt64, kc_0, kc_1, kc_2, kc_7, kc_16] at *; (first | omega | ((try simp (disch := omega) only [k_bm64] at *); (try simp (disch := omega) only [k_bm] at *); (try simp (disch := omega) only [k_bm] at *); omega) | (simp only [Int.bmod] at *; omega))))
set_option maxHeartbeats 4000000 in
set_option maxRecDepth 100000 in
theorem g_tires0 (l : Launch) (dC : Nat → ClassId) (dI : Nat → Nat → Nat) (cI cJ cQ : ClassId) (sz : Nat) (hm : Nat) (vFo : Nat) (vSi : Nat) (vIt : Nat) (vMo : Nat) (la : Int32) (vBy : Nat) (vTy : Nat) (mi : Int32) (vMi : Nat) (pn : Int32) (vPs : Nat) (gn : Int32) (vGs : Nat) (fn : Int32) (vFt : Nat) (le : Int32) (vTo : Nat) (kn : Int32) (fe : Int32) (en : Int32) (ca : Int32) (an : Int32) (co : Int32) (vPr : Nat) (vSt : Nat) (vFn : Nat) (sn : Int32) (vSg : Nat) (vAl : Nat) (dr : Int32) (qGs : Nat → Int32) (qPr : Nat → Int32) (qSt : Nat → Int32) (qFn : Nat → Int32) (hh0 : k_bd 2 0 7 qPr) : Met l yX12_tires (kW yX12_tires cX12_tires 2 none) { frames := 0, cells := 0, slots := 0, locals := 0 } (kPre dC dI cI cJ cQ sz [.ref hm, .int 0] [(kX12 hm vFo vSi vIt vMo la vBy vTy mi vMi pn vPs gn vGs fn vFt le vTo kn fe en ca an co vPr vSt vFn sn vSg vAl dr), (kAI vGs cI 16 qGs), (kAI vPr cI 2 qPr), (kAI vSt cI 2 qSt), (kAI vFn cI 2 qFn)]) (va_Qv (fun (u : kS) => ((u.2.1 0) 0 = if (qFn 0) + 1 = kG1 qGs (qPr 0) then (qSt 0) - 1 else qSt 0) ∧ ((u.2.1 1) 0 = if (qFn 0) + 1 = kG1 qGs (qPr 0) then 0 else (qFn 0) + 1) ∧ ((u.2.1 0) 1 = qSt 1) ∧ ((u.2.1 1) 1 = qFn 1)) (fun (u : kS) t₀ => kB dC dI cI cJ cQ (va_A [(kX12 hm vFo vSi vIt vMo la vBy vTy mi vMi pn vPs gn vGs fn vFt le vTo kn fe en ca an co vPr vSt vFn sn vSg vAl dr), (kAI vGs cI 16 qGs), (kAI vPr cI 2 qPr), (kAI vSt cI 2 qSt), (kAI vFn cI 2 qFn)] sz) [(kX12 hm vFo vSi vIt vMo la vBy vTy mi vMi pn vPs gn vGs fn vFt le vTo kn fe en ca an co vPr vSt vFn sn vSg vAl dr), (kAI vGs cI 16 qGs), (kAI vPr cI 2 qPr), (kAI vSt cI 2 (u.2.1 0)), (kAI vFn cI 2 (u.2.1 1))] t₀) (va_A [(kX12 hm vFo vSi vIt vMo la vBy vTy mi vMi pn vPs gn vGs fn vFt le vTo kn fe en ca an co vPr vSt vFn sn vSg vAl dr), (kAI vGs cI 16 qGs), (kAI vPr cI 2 qPr), (kAI vSt cI 2 qSt), (kAI vFn cI 2 qFn)] sz)) 0 0 (va_A [(kX12 hm vFo vSi vIt vMo la vBy vTy mi vMi pn vPs gn vGs fn vFt le vTo kn fe en ca an co vPr vSt vFn sn vSg vAl dr), (kAI vGs cI 16 qGs), (kAI vPr cI 2 qPr), (kAI vSt cI 2 qSt), (kAI vFn cI 2 qFn)] sz) := by
  refine Met.ofW (cc := cX12_tires) (maxL := 2) (ret := none) (by decide) rfl ?_
  intro p₀ e₀ s₀ m₀ args below meth c₀ s₁ B hml hv₀
  obtain ⟨rfl, hsz, hP, hK, hD0, hN⟩ := hv₀
  have hx₀ := B.exec
  have hb := B.bytes
  have hr := B.returns
  have hts := atoms_spec (ws := (kW yX12_tires cX12_tires 2 none)) B.pre
  have hts := fun w h => hts w (List.mem_cons_of_mem _ h)
  have hown : s₀.vm.findClass RX12 = some m₀.cls := findClass_of_methodNamed B.named
  have hlocks := B.notSynchronized
  subst hsz
  have hD := hD0.self (sz := s₀.heap.size)
  generalize hAe : va_A [(kX12 hm vFo vSi vIt vMo la vBy vTy mi vMi pn vPs gn vGs fn vFt le vTo kn fe en ca an co vPr vSt vFn sn vSg vAl dr), (kAI vGs cI 16 qGs), (kAI vPr cI 2 qPr), (kAI vSt cI 2 qSt), (kAI vFn cI 2 qFn)] s₀.heap.size = A at hD ⊢
  have hA : ∀ q : Nat, s₀.heap.size ≤ q → A q := fun q h => by rw [← hAe]; exact Or.inr h
  have hS : va_S A s₀.heap s₀.heap [] := va_S.rf
  have hP : va_P (dC, dI) vwCl [(kX12 hm vFo vSi vIt vMo la vBy vTy mi vMi pn vPs gn vGs fn vFt le vTo kn fe en ca an co vPr vSt vFn sn vSg vAl dr), (kAI vGs cI 16 qGs), (kAI vPr cI 2 qPr), (kAI vSt cI 2 qSt), (kAI vFn cI 2 qFn)] s₀.heap := hP
  have hl := lv_entry ([.ref hm, .int 0]) (n := 2) (Nat.le_of_ble_eq_true rfl)
  rw [lg_entry_eq]
  generalize (lg_sl ([.ref hm, .int 0]) ++ List.replicate (2 - (lg_sl ([.ref hm, .int 0])).length) Slot.unset).toArray = ls at hl ⊢
  have hl : lv_has ls 2 [(0, .ref hm), (1, .int 0)] := hl
  obtain ⟨H, hH⟩ : ∃ z : Heap, z = s₀.heap := ⟨_, rfl⟩
  rw [← hH] at hP
  have hS : va_S A s₀.heap H [] := by rw [hH]; exact hS
  refine k_heap hH ?_
  have hD : va_D A [(kX12 hm vFo vSi vIt vMo la vBy vTy mi vMi pn vPs gn vGs fn vFt le vTo kn fe en ca an co vPr vSt vFn sn vSg vAl dr), (kAI vGs cI 16 qGs), (kAI vPr cI 2 qPr), (kAI vSt cI 2 qSt), (kAI vFn cI 2 qFn)] := hD
  obtain ⟨locs, hlo⟩ : ∃ z : List Loc, z = [] := ⟨_, rfl⟩
  rw [← hlo] at hS ⊢
  clear hlo hH hAe hD0
  have hp0 : 0 ≤ (qPr 0).toInt ∧ (qPr 0).toInt ≤ 7 := hh0 0 (by decide)
  have hp1 : 0 ≤ (qPr 1).toInt ∧ (qPr 1).toInt ≤ 7 := hh0 1 (by decide)
  refine lv_aload_n hx₀ hb dX12_tires_0 rfl (lv_at hl 0 rfl) ?_
  refine va_get (D := (dC, dI)) (ci := 11) (v := .ref vFn) (C := RX12) (T := TX12) (N := 30) hx₀ hb hts inlX12 hown hK hP 0 rfl rfl 25 (by decide) (hts (.fieldLink RX12 49 "BittenStickModel" "flown" "[I") wd_128) (fun _ h9 => h9) rfl dX12_tires_1 ?_
  refine lv_iload_n hx₀ hb dX12_tires_4 rfl (lv_at hl 1 rfl) ?_
  refine lv_dup2_11 hx₀ hb dX12_tires_5 rfl rfl ?_
  refine va_iald hx₀ hb hK hP 4 0 rfl rfl (by unfold vp_in; decide +kernel) dX12_tires_6 ?_
  refine k_topi (v := qFn 0) rfl ?_
  refine lv_iconst (v := 1) hx₀ hb dX12_tires_7 (by decide +kernel) ?_
  refine lv_iadd hx₀ hb dX12_tires_8 ?_
  refine va_iast hx₀ hb hK hP hD hS 4 0 rfl rfl (by unfold vp_in; decide +kernel) dX12_tires_9 ?_
  clear hP hD hS
  intro H locs hP hD hS
  replace hP := k_w2 (wt := [(kX12 hm vFo vSi vIt vMo la vBy vTy mi vMi pn vPs gn vGs fn vFt le vTo kn fe en ca an co vPr vSt vFn sn vSg vAl dr), (kAI vGs cI 16 qGs), (kAI vPr cI 2 qPr), (kAI vSt cI 2 qSt), (kAI vFn cI 2 (upd qFn (0 : Int32).toNatClampNeg ((qFn 0) + 1)))]) hP hD rfl
  replace hD := hP.2
  replace hP := hP.1
  refine lv_aload_n hx₀ hb dX12_tires_10 rfl (lv_at hl 0 rfl) ?_
  refine va_get (D := (dC, dI)) (ci := 11) (v := .ref vFn) (C := RX12) (T := TX12) (N := 30) hx₀ hb hts inlX12 hown hK hP 0 rfl rfl 25 (by decide) (hts (.fieldLink RX12 49 "BittenStickModel" "flown" "[I") wd_128) (fun _ h9 => h9) rfl dX12_tires_11 ?_
  refine lv_iload_n hx₀ hb dX12_tires_14 rfl (lv_at hl 1 rfl) ?_
  refine va_iald hx₀ hb hK hP 4 0 rfl rfl (by unfold vp_in; decide +kernel) dX12_tires_15 ?_
  refine k_topi (v := (qFn 0) + 1) rfl ?_
  refine lv_aload_n hx₀ hb dX12_tires_16 rfl (lv_at hl 0 rfl) ?_
  refine va_get (D := (dC, dI)) (ci := 11) (v := .ref vGs) (C := RX12) (T := TX12) (N := 30) hx₀ hb hts inlX12 hown hK hP 0 rfl rfl 12 (by decide) (hts (.fieldLink RX12 34 "BittenStickModel" "goose" "[I") wd_123) (fun _ h9 => h9) rfl dX12_tires_17 ?_
  refine lv_iconst (v := 2) hx₀ hb dX12_tires_20 (by decide +kernel) ?_
  refine lv_aload_n hx₀ hb dX12_tires_21 rfl (lv_at hl 0 rfl) ?_
  refine va_get (D := (dC, dI)) (ci := 11) (v := .ref vPr) (C := RX12) (T := TX12) (N := 30) hx₀ hb hts inlX12 hown hK hP 0 rfl rfl 23 (by decide) (hts (.fieldLink RX12 43 "BittenStickModel" "pair" "[I") wd_126) (fun _ h9 => h9) rfl dX12_tires_22 ?_
  refine lv_iload_n hx₀ hb dX12_tires_25 rfl (lv_at hl 1 rfl) ?_
  refine va_iald hx₀ hb hK hP 2 0 rfl rfl (by unfold vp_in; decide +kernel) dX12_tires_26 ?_
  refine k_topi (v := qPr 0) rfl ?_
  refine lv_imul hx₀ hb dX12_tires_27 ?_
  refine lv_iconst (v := 1) hx₀ hb dX12_tires_28 (by decide +kernel) ?_
  refine lv_iadd hx₀ hb dX12_tires_29 ?_
  refine va_iald hx₀ hb hK hP 1 0 rfl rfl (vp_in_iff.mpr (lf_g_tires0_1 (qPr 0) hp0)) dX12_tires_30 ?_
  refine k_topi (v := kG1 qGs (qPr 0)) rfl ?_
  refine lv_icmp_ne (tgt := 51) hx₀ hb dX12_tires_31 (by decide) (fun c_1 => ?_) (fun c_1 => ?_)
  · obtain ⟨hP9, hD9⟩ := k_c2 (wc := [(kX12 hm vFo vSi vIt vMo la vBy vTy mi vMi pn vPs gn vGs fn vFt le vTo kn fe en ca an co vPr vSt vFn sn vSg vAl dr), (kAI vGs cI 16 qGs), (kAI vPr cI 2 qPr), (kAI vSt cI 2 qSt), (kAI vFn cI 2 (upd qFn (0 : Int32).toNatClampNeg ((qFn 0) + 1)))]) hP hD [0, 1, 2, 3, 4] (by decide +kernel) rfl
    exact W.vret hx₀ hb hr (fun t₀ ht hW => ⟨⟨(k_fn [], k_fa [qSt, upd qFn (0 : Int32).toNatClampNeg ((qFn 0) + 1)], k_fl [], k_fL [], k_fp []), rfl, ⟨(if_neg (c_1)).symm, (if_neg (c_1)).symm, rfl, rfl⟩, by rw [ht]; exact hP9, va_K.moved hW.alike hK, hD9⟩, hS.F ht⟩) hS.2.2 dX12_tires_51
  · refine lv_aload_n hx₀ hb dX12_tires_34 rfl (lv_at hl 0 rfl) ?_
    refine va_get (D := (dC, dI)) (ci := 11) (v := .ref vFn) (C := RX12) (T := TX12) (N := 30) hx₀ hb hts inlX12 hown hK hP 0 rfl rfl 25 (by decide) (hts (.fieldLink RX12 49 "BittenStickModel" "flown" "[I") wd_128) (fun _ h9 => h9) rfl dX12_tires_35 ?_
    refine lv_iload_n hx₀ hb dX12_tires_38 rfl (lv_at hl 1 rfl) ?_
    refine lv_iconst (v := 0) hx₀ hb dX12_tires_39 (by decide +kernel) ?_
    refine va_iast hx₀ hb hK hP hD hS 4 0 rfl rfl (by unfold vp_in; decide +kernel) dX12_tires_40 ?_
    clear hP hD hS
    intro H locs hP hD hS
    replace hP := k_w2 (wt := [(kX12 hm vFo vSi vIt vMo la vBy vTy mi vMi pn vPs gn vGs fn vFt le vTo kn fe en ca an co vPr vSt vFn sn vSg vAl dr), (kAI vGs cI 16 qGs), (kAI vPr cI 2 qPr), (kAI vSt cI 2 qSt), (kAI vFn cI 2 (upd (upd qFn (0 : Int32).toNatClampNeg ((qFn 0) + 1)) (0 : Int32).toNatClampNeg 0))]) hP hD rfl
    replace hD := hP.2
    replace hP := hP.1
    refine lv_aload_n hx₀ hb dX12_tires_41 rfl (lv_at hl 0 rfl) ?_
    refine va_get (D := (dC, dI)) (ci := 11) (v := .ref vSt) (C := RX12) (T := TX12) (N := 30) hx₀ hb hts inlX12 hown hK hP 0 rfl rfl 24 (by decide) (hts (.fieldLink RX12 46 "BittenStickModel" "strong" "[I") wd_127) (fun _ h9 => h9) rfl dX12_tires_42 ?_
    refine lv_iload_n hx₀ hb dX12_tires_45 rfl (lv_at hl 1 rfl) ?_
    refine lv_dup2_11 hx₀ hb dX12_tires_46 rfl rfl ?_
    refine va_iald hx₀ hb hK hP 3 0 rfl rfl (by unfold vp_in; decide +kernel) dX12_tires_47 ?_
    refine k_topi (v := qSt 0) rfl ?_
    refine lv_iconst (v := 1) hx₀ hb dX12_tires_48 (by decide +kernel) ?_
    refine lv_isub hx₀ hb dX12_tires_49 ?_
    refine va_iast hx₀ hb hK hP hD hS 3 0 rfl rfl (by unfold vp_in; decide +kernel) dX12_tires_50 ?_
    clear hP hD hS
    intro H locs hP hD hS
    replace hP := k_w2 (wt := [(kX12 hm vFo vSi vIt vMo la vBy vTy mi vMi pn vPs gn vGs fn vFt le vTo kn fe en ca an co vPr vSt vFn sn vSg vAl dr), (kAI vGs cI 16 qGs), (kAI vPr cI 2 qPr), (kAI vSt cI 2 (upd qSt (0 : Int32).toNatClampNeg ((qSt 0) - 1))), (kAI vFn cI 2 (upd (upd qFn (0 : Int32).toNatClampNeg ((qFn 0) + 1)) (0 : Int32).toNatClampNeg 0))]) hP hD rfl
    replace hD := hP.2
    replace hP := hP.1
    obtain ⟨hP9, hD9⟩ := k_c2 (wc := [(kX12 hm vFo vSi vIt vMo la vBy vTy mi vMi pn vPs gn vGs fn vFt le vTo kn fe en ca an co vPr vSt vFn sn vSg vAl dr), (kAI vGs cI 16 qGs), (kAI vPr cI 2 qPr), (kAI vSt cI 2 (upd qSt (0 : Int32).toNatClampNeg ((qSt 0) - 1))), (kAI vFn cI 2 (upd (upd qFn (0 : Int32).toNatClampNeg ((qFn 0) + 1)) (0 : Int32).toNatClampNeg 0))]) hP hD [0, 1, 2, 3, 4] (by decide +kernel) rfl
    exact W.vret hx₀ hb hr (fun t₀ ht hW => ⟨⟨(k_fn [], k_fa [upd qSt (0 : Int32).toNatClampNeg ((qSt 0) - 1), upd (upd qFn (0 : Int32).toNatClampNeg ((qFn 0) + 1)) (0 : Int32).toNatClampNeg 0], k_fl [], k_fL [], k_fp []), rfl, ⟨(if_pos (c_1)).symm, (if_pos (c_1)).symm, rfl, rfl⟩, by rw [ht]; exact hP9, va_K.moved hW.alike hK, hD9⟩, hS.F ht⟩) hS.2.2 dX12_tires_51
set_option maxHeartbeats 4000000 in
set_option maxRecDepth 100000 in
theorem g_tires1 (l : Launch) (dC : Nat → ClassId) (dI : Nat → Nat → Nat) (cI cJ cQ : ClassId) (sz : Nat) (hm : Nat) (vFo : Nat) (vSi : Nat) (vIt : Nat) (vMo : Nat) (la : Int32) (vBy : Nat) (vTy : Nat) (mi : Int32) (vMi : Nat) (pn : Int32) (vPs : Nat) (gn : Int32) (vGs : Nat) (fn : Int32) (vFt : Nat) (le : Int32) (vTo : Nat) (kn : Int32) (fe : Int32) (en : Int32) (ca : Int32) (an : Int32) (co : Int32) (vPr : Nat) (vSt : Nat) (vFn : Nat) (sn : Int32) (vSg : Nat) (vAl : Nat) (dr : Int32) (qGs : Nat → Int32) (qPr : Nat → Int32) (qSt : Nat → Int32) (qFn : Nat → Int32) (hh0 : k_bd 2 0 7 qPr) : Met l yX12_tires (kW yX12_tires cX12_tires 2 none) { frames := 0, cells := 0, slots := 0, locals := 0 } (kPre dC dI cI cJ cQ sz [.ref hm, .int 1] [(kX12 hm vFo vSi vIt vMo la vBy vTy mi vMi pn vPs gn vGs fn vFt le vTo kn fe en ca an co vPr vSt vFn sn vSg vAl dr), (kAI vGs cI 16 qGs), (kAI vPr cI 2 qPr), (kAI vSt cI 2 qSt), (kAI vFn cI 2 qFn)]) (va_Qv (fun (u : kS) => ((u.2.1 0) 1 = if (qFn 1) + 1 = kG1 qGs (qPr 1) then (qSt 1) - 1 else qSt 1) ∧ ((u.2.1 1) 1 = if (qFn 1) + 1 = kG1 qGs (qPr 1) then 0 else (qFn 1) + 1) ∧ ((u.2.1 0) 0 = qSt 0) ∧ ((u.2.1 1) 0 = qFn 0)) (fun (u : kS) t₀ => kB dC dI cI cJ cQ (va_A [(kX12 hm vFo vSi vIt vMo la vBy vTy mi vMi pn vPs gn vGs fn vFt le vTo kn fe en ca an co vPr vSt vFn sn vSg vAl dr), (kAI vGs cI 16 qGs), (kAI vPr cI 2 qPr), (kAI vSt cI 2 qSt), (kAI vFn cI 2 qFn)] sz) [(kX12 hm vFo vSi vIt vMo la vBy vTy mi vMi pn vPs gn vGs fn vFt le vTo kn fe en ca an co vPr vSt vFn sn vSg vAl dr), (kAI vGs cI 16 qGs), (kAI vPr cI 2 qPr), (kAI vSt cI 2 (u.2.1 0)), (kAI vFn cI 2 (u.2.1 1))] t₀) (va_A [(kX12 hm vFo vSi vIt vMo la vBy vTy mi vMi pn vPs gn vGs fn vFt le vTo kn fe en ca an co vPr vSt vFn sn vSg vAl dr), (kAI vGs cI 16 qGs), (kAI vPr cI 2 qPr), (kAI vSt cI 2 qSt), (kAI vFn cI 2 qFn)] sz)) 0 0 (va_A [(kX12 hm vFo vSi vIt vMo la vBy vTy mi vMi pn vPs gn vGs fn vFt le vTo kn fe en ca an co vPr vSt vFn sn vSg vAl dr), (kAI vGs cI 16 qGs), (kAI vPr cI 2 qPr), (kAI vSt cI 2 qSt), (kAI vFn cI 2 qFn)] sz) := by
  refine Met.ofW (cc := cX12_tires) (maxL := 2) (ret := none) (by decide) rfl ?_
  intro p₀ e₀ s₀ m₀ args below meth c₀ s₁ B hml hv₀
  obtain ⟨rfl, hsz, hP, hK, hD0, hN⟩ := hv₀
  have hx₀ := B.exec
  have hb := B.bytes
  have hr := B.returns
  have hts := atoms_spec (ws := (kW yX12_tires cX12_tires 2 none)) B.pre
  have hts := fun w h => hts w (List.mem_cons_of_mem _ h)
  have hown : s₀.vm.findClass RX12 = some m₀.cls := findClass_of_methodNamed B.named
  have hlocks := B.notSynchronized
  subst hsz
  have hD := hD0.self (sz := s₀.heap.size)
  generalize hAe : va_A [(kX12 hm vFo vSi vIt vMo la vBy vTy mi vMi pn vPs gn vGs fn vFt le vTo kn fe en ca an co vPr vSt vFn sn vSg vAl dr), (kAI vGs cI 16 qGs), (kAI vPr cI 2 qPr), (kAI vSt cI 2 qSt), (kAI vFn cI 2 qFn)] s₀.heap.size = A at hD ⊢
  have hA : ∀ q : Nat, s₀.heap.size ≤ q → A q := fun q h => by rw [← hAe]; exact Or.inr h
  have hS : va_S A s₀.heap s₀.heap [] := va_S.rf
  have hP : va_P (dC, dI) vwCl [(kX12 hm vFo vSi vIt vMo la vBy vTy mi vMi pn vPs gn vGs fn vFt le vTo kn fe en ca an co vPr vSt vFn sn vSg vAl dr), (kAI vGs cI 16 qGs), (kAI vPr cI 2 qPr), (kAI vSt cI 2 qSt), (kAI vFn cI 2 qFn)] s₀.heap := hP
  have hl := lv_entry ([.ref hm, .int 1]) (n := 2) (Nat.le_of_ble_eq_true rfl)
  rw [lg_entry_eq]
  generalize (lg_sl ([.ref hm, .int 1]) ++ List.replicate (2 - (lg_sl ([.ref hm, .int 1])).length) Slot.unset).toArray = ls at hl ⊢
  have hl : lv_has ls 2 [(0, .ref hm), (1, .int 1)] := hl
  obtain ⟨H, hH⟩ : ∃ z : Heap, z = s₀.heap := ⟨_, rfl⟩
  rw [← hH] at hP
  have hS : va_S A s₀.heap H [] := by rw [hH]; exact hS
  refine k_heap hH ?_
  have hD : va_D A [(kX12 hm vFo vSi vIt vMo la vBy vTy mi vMi pn vPs gn vGs fn vFt le vTo kn fe en ca an co vPr vSt vFn sn vSg vAl dr), (kAI vGs cI 16 qGs), (kAI vPr cI 2 qPr), (kAI vSt cI 2 qSt), (kAI vFn cI 2 qFn)] := hD
  obtain ⟨locs, hlo⟩ : ∃ z : List Loc, z = [] := ⟨_, rfl⟩
  rw [← hlo] at hS ⊢
  clear hlo hH hAe hD0
  have hp0 : 0 ≤ (qPr 0).toInt ∧ (qPr 0).toInt ≤ 7 := hh0 0 (by decide)
  have hp1 : 0 ≤ (qPr 1).toInt ∧ (qPr 1).toInt ≤ 7 := hh0 1 (by decide)
  refine lv_aload_n hx₀ hb dX12_tires_0 rfl (lv_at hl 0 rfl) ?_
  refine va_get (D := (dC, dI)) (ci := 11) (v := .ref vFn) (C := RX12) (T := TX12) (N := 30) hx₀ hb hts inlX12 hown hK hP 0 rfl rfl 25 (by decide) (hts (.fieldLink RX12 49 "BittenStickModel" "flown" "[I") wd_128) (fun _ h9 => h9) rfl dX12_tires_1 ?_
  refine lv_iload_n hx₀ hb dX12_tires_4 rfl (lv_at hl 1 rfl) ?_
  refine lv_dup2_11 hx₀ hb dX12_tires_5 rfl rfl ?_
  refine va_iald hx₀ hb hK hP 4 0 rfl rfl (by unfold vp_in; decide +kernel) dX12_tires_6 ?_
  refine k_topi (v := qFn 1) rfl ?_
  refine lv_iconst (v := 1) hx₀ hb dX12_tires_7 (by decide +kernel) ?_
  refine lv_iadd hx₀ hb dX12_tires_8 ?_
  refine va_iast hx₀ hb hK hP hD hS 4 0 rfl rfl (by unfold vp_in; decide +kernel) dX12_tires_9 ?_
  clear hP hD hS
  intro H locs hP hD hS
  replace hP := k_w2 (wt := [(kX12 hm vFo vSi vIt vMo la vBy vTy mi vMi pn vPs gn vGs fn vFt le vTo kn fe en ca an co vPr vSt vFn sn vSg vAl dr), (kAI vGs cI 16 qGs), (kAI vPr cI 2 qPr), (kAI vSt cI 2 qSt), (kAI vFn cI 2 (upd qFn (1 : Int32).toNatClampNeg ((qFn 1) + 1)))]) hP hD rfl
  replace hD := hP.2
  replace hP := hP.1
  refine lv_aload_n hx₀ hb dX12_tires_10 rfl (lv_at hl 0 rfl) ?_
  refine va_get (D := (dC, dI)) (ci := 11) (v := .ref vFn) (C := RX12) (T := TX12) (N := 30) hx₀ hb hts inlX12 hown hK hP 0 rfl rfl 25 (by decide) (hts (.fieldLink RX12 49 "BittenStickModel" "flown" "[I") wd_128) (fun _ h9 => h9) rfl dX12_tires_11 ?_
  refine lv_iload_n hx₀ hb dX12_tires_14 rfl (lv_at hl 1 rfl) ?_
  refine va_iald hx₀ hb hK hP 4 0 rfl rfl (by unfold vp_in; decide +kernel) dX12_tires_15 ?_
  refine k_topi (v := (qFn 1) + 1) rfl ?_
  refine lv_aload_n hx₀ hb dX12_tires_16 rfl (lv_at hl 0 rfl) ?_
  refine va_get (D := (dC, dI)) (ci := 11) (v := .ref vGs) (C := RX12) (T := TX12) (N := 30) hx₀ hb hts inlX12 hown hK hP 0 rfl rfl 12 (by decide) (hts (.fieldLink RX12 34 "BittenStickModel" "goose" "[I") wd_123) (fun _ h9 => h9) rfl dX12_tires_17 ?_
  refine lv_iconst (v := 2) hx₀ hb dX12_tires_20 (by decide +kernel) ?_
  refine lv_aload_n hx₀ hb dX12_tires_21 rfl (lv_at hl 0 rfl) ?_
  refine va_get (D := (dC, dI)) (ci := 11) (v := .ref vPr) (C := RX12) (T := TX12) (N := 30) hx₀ hb hts inlX12 hown hK hP 0 rfl rfl 23 (by decide) (hts (.fieldLink RX12 43 "BittenStickModel" "pair" "[I") wd_126) (fun _ h9 => h9) rfl dX12_tires_22 ?_
  refine lv_iload_n hx₀ hb dX12_tires_25 rfl (lv_at hl 1 rfl) ?_
  refine va_iald hx₀ hb hK hP 2 0 rfl rfl (by unfold vp_in; decide +kernel) dX12_tires_26 ?_
  refine k_topi (v := qPr 1) rfl ?_
  refine lv_imul hx₀ hb dX12_tires_27 ?_
  refine lv_iconst (v := 1) hx₀ hb dX12_tires_28 (by decide +kernel) ?_
  refine lv_iadd hx₀ hb dX12_tires_29 ?_
  refine va_iald hx₀ hb hK hP 1 0 rfl rfl (vp_in_iff.mpr (lf_g_tires0_1 (qPr 1) hp1)) dX12_tires_30 ?_
  refine k_topi (v := kG1 qGs (qPr 1)) rfl ?_
  refine lv_icmp_ne (tgt := 51) hx₀ hb dX12_tires_31 (by decide) (fun c_1 => ?_) (fun c_1 => ?_)
  · obtain ⟨hP9, hD9⟩ := k_c2 (wc := [(kX12 hm vFo vSi vIt vMo la vBy vTy mi vMi pn vPs gn vGs fn vFt le vTo kn fe en ca an co vPr vSt vFn sn vSg vAl dr), (kAI vGs cI 16 qGs), (kAI vPr cI 2 qPr), (kAI vSt cI 2 qSt), (kAI vFn cI 2 (upd qFn (1 : Int32).toNatClampNeg ((qFn 1) + 1)))]) hP hD [0, 1, 2, 3, 4] (by decide +kernel) rfl
    exact W.vret hx₀ hb hr (fun t₀ ht hW => ⟨⟨(k_fn [], k_fa [qSt, upd qFn (1 : Int32).toNatClampNeg ((qFn 1) + 1)], k_fl [], k_fL [], k_fp []), rfl, ⟨(if_neg (c_1)).symm, (if_neg (c_1)).symm, rfl, rfl⟩, by rw [ht]; exact hP9, va_K.moved hW.alike hK, hD9⟩, hS.F ht⟩) hS.2.2 dX12_tires_51
  · refine lv_aload_n hx₀ hb dX12_tires_34 rfl (lv_at hl 0 rfl) ?_
    refine va_get (D := (dC, dI)) (ci := 11) (v := .ref vFn) (C := RX12) (T := TX12) (N := 30) hx₀ hb hts inlX12 hown hK hP 0 rfl rfl 25 (by decide) (hts (.fieldLink RX12 49 "BittenStickModel" "flown" "[I") wd_128) (fun _ h9 => h9) rfl dX12_tires_35 ?_
    refine lv_iload_n hx₀ hb dX12_tires_38 rfl (lv_at hl 1 rfl) ?_
    refine lv_iconst (v := 0) hx₀ hb dX12_tires_39 (by decide +kernel) ?_
    refine va_iast hx₀ hb hK hP hD hS 4 0 rfl rfl (by unfold vp_in; decide +kernel) dX12_tires_40 ?_
    clear hP hD hS
    intro H locs hP hD hS
    replace hP := k_w2 (wt := [(kX12 hm vFo vSi vIt vMo la vBy vTy mi vMi pn vPs gn vGs fn vFt le vTo kn fe en ca an co vPr vSt vFn sn vSg vAl dr), (kAI vGs cI 16 qGs), (kAI vPr cI 2 qPr), (kAI vSt cI 2 qSt), (kAI vFn cI 2 (upd (upd qFn (1 : Int32).toNatClampNeg ((qFn 1) + 1)) (1 : Int32).toNatClampNeg 0))]) hP hD rfl
    replace hD := hP.2
    replace hP := hP.1
    refine lv_aload_n hx₀ hb dX12_tires_41 rfl (lv_at hl 0 rfl) ?_
    refine va_get (D := (dC, dI)) (ci := 11) (v := .ref vSt) (C := RX12) (T := TX12) (N := 30) hx₀ hb hts inlX12 hown hK hP 0 rfl rfl 24 (by decide) (hts (.fieldLink RX12 46 "BittenStickModel" "strong" "[I") wd_127) (fun _ h9 => h9) rfl dX12_tires_42 ?_
    refine lv_iload_n hx₀ hb dX12_tires_45 rfl (lv_at hl 1 rfl) ?_
    refine lv_dup2_11 hx₀ hb dX12_tires_46 rfl rfl ?_
    refine va_iald hx₀ hb hK hP 3 0 rfl rfl (by unfold vp_in; decide +kernel) dX12_tires_47 ?_
    refine k_topi (v := qSt 1) rfl ?_
    refine lv_iconst (v := 1) hx₀ hb dX12_tires_48 (by decide +kernel) ?_
    refine lv_isub hx₀ hb dX12_tires_49 ?_
    refine va_iast hx₀ hb hK hP hD hS 3 0 rfl rfl (by unfold vp_in; decide +kernel) dX12_tires_50 ?_
    clear hP hD hS
    intro H locs hP hD hS
    replace hP := k_w2 (wt := [(kX12 hm vFo vSi vIt vMo la vBy vTy mi vMi pn vPs gn vGs fn vFt le vTo kn fe en ca an co vPr vSt vFn sn vSg vAl dr), (kAI vGs cI 16 qGs), (kAI vPr cI 2 qPr), (kAI vSt cI 2 (upd qSt (1 : Int32).toNatClampNeg ((qSt 1) - 1))), (kAI vFn cI 2 (upd (upd qFn (1 : Int32).toNatClampNeg ((qFn 1) + 1)) (1 : Int32).toNatClampNeg 0))]) hP hD rfl
    replace hD := hP.2
    replace hP := hP.1
    obtain ⟨hP9, hD9⟩ := k_c2 (wc := [(kX12 hm vFo vSi vIt vMo la vBy vTy mi vMi pn vPs gn vGs fn vFt le vTo kn fe en ca an co vPr vSt vFn sn vSg vAl dr), (kAI vGs cI 16 qGs), (kAI vPr cI 2 qPr), (kAI vSt cI 2 (upd qSt (1 : Int32).toNatClampNeg ((qSt 1) - 1))), (kAI vFn cI 2 (upd (upd qFn (1 : Int32).toNatClampNeg ((qFn 1) + 1)) (1 : Int32).toNatClampNeg 0))]) hP hD [0, 1, 2, 3, 4] (by decide +kernel) rfl
    exact W.vret hx₀ hb hr (fun t₀ ht hW => ⟨⟨(k_fn [], k_fa [upd qSt (1 : Int32).toNatClampNeg ((qSt 1) - 1), upd (upd qFn (1 : Int32).toNatClampNeg ((qFn 1) + 1)) (1 : Int32).toNatClampNeg 0], k_fl [], k_fL [], k_fp []), rfl, ⟨(if_pos (c_1)).symm, (if_pos (c_1)).symm, rfl, rfl⟩, by rw [ht]; exact hP9, va_K.moved hW.alike hK, hD9⟩, hS.F ht⟩) hS.2.2 dX12_tires_51
theorem lf_g_angerBy_1 (a0 : Int32) (h0 : 0 ≤ a0 ∧ a0 ≤ 7) : 0 ≤ (4 * a0).toInt ∧ (4 * a0).toInt < 32 := by
  first | rfl | assumption | decide | exact Or.inl rfl | (first | rfl | assumption | decide | omega | (have hr0 := Int32.toInt_lt a0; have hs0 := Int32.le_toInt a0; simp only [Int64.toInt_add, Int64.toInt_sub, Int32.toInt_add, Int32.toInt_sub, Int32.toInt_mul, Int64.le_iff_toInt_le, Int64.lt_iff_toInt_lt, Int32.le_iff_toInt_le, Int32.lt_iff_toInt_lt, ← Int32.toInt_inj, ← Int64.toInt_inj, Int32.toInt_toInt64, kc_0, kc_4, kc_7, kc_32, true_and, and_true, not_true_eq_false, not_false_eq_true] at * <;> ((first | omega | ((try simp (disch := omega) only [k_bm64] at *); (try simp (disch := omega) only [k_bm] at *); (try simp (disch := omega) only [k_bm] at *); omega) | (simp only [Int.bmod] at *; omega)))))
theorem lf_g_angerBy_2 (a0 : Int32) (a1 : Int32) (a2 : Int32) (a3 : Int32) (h0 : a0 = 1) : (0 : Int32) = kAn a0 a1 a2 a3 := by
  ((try unfold kAn)) <;> ((repeat' split) <;> first | rfl | contradiction | assumption | (exfalso; (first | rfl | assumption | decide | omega | (have hr0 := Int32.toInt_lt a0; have hs0 := Int32.le_toInt a0; have hr1 := Int32.toInt_lt a1; have hs1 := Int32.le_toInt a1; have hr2 := Int32.toInt_lt a2; have hs2 := Int32.le_toInt a2; have hr3 := Int32.toInt_lt a3; have hs3 := Int32.le_toInt a3; simp only [Int64.toInt_add, Int64.toInt_sub, Int32.toInt_add, Int32.toInt_sub, Int32.toInt_mul, Int64.le_iff_toInt_le, Int64.lt_iff_toInt_lt, Int32.le_iff_toInt_le, Int32.lt_iff_toInt_lt, ← Int32.toInt_inj, ← Int64.toInt_inj, Int32.toInt_toInt64, kc_m1, kc_0, kc_1, kc_2, kc_3, kc_4, kc_5, kc_6, kc_7, kc_8, kc_10, kc_48, kc_49, kc_57, kc_59, kc_97, kc_100, kc_102, kc_105, kc_111, kc_112, kc_115, kc_116, kc_119, true_and, and_true, not_true_eq_false, not_false_eq_true] at * <;> ((first | omega | ((try simp (disch := omega) only [k_bm64] at *); (try simp (disch := omega) only [k_bm] at *); (try simp (disch := omega) only [k_bm] at *); omega) | (simp only [Int.bmod] at *; omega)))))) | (first | rfl | assumption | decide | omega | (have hr0 := Int32.toInt_lt a0; have hs0 := Int32.le_toInt a0; have hr1 := Int32.toInt_lt a1; have hs1 := Int32.le_toInt a1; have hr2 := Int32.toInt_lt a2; have hs2 := Int32.le_toInt a2; have hr3 := Int32.toInt_lt a3; have hs3 := Int32.le_toInt a3; simp only [Int64.toInt_add, Int64.toInt_sub, Int32.toInt_add, Int32.toInt_sub, Int32.toInt_mul, Int64.le_iff_toInt_le, Int64.lt_iff_toInt_lt, Int32.le_iff_toInt_le, Int32.lt_iff_toInt_lt, ← Int32.toInt_inj, ← Int64.toInt_inj, Int32.toInt_toInt64, kc_m1, kc_0, kc_1, kc_2, kc_3, kc_4, kc_5, kc_6, kc_7, kc_8, kc_10, kc_48, kc_49, kc_57, kc_59, kc_97, kc_100, kc_102, kc_105, kc_111, kc_112, kc_115, kc_116, kc_119, true_and, and_true, not_true_eq_false, not_false_eq_true] at * <;> ((first | omega | ((try simp (disch := omega) only [k_bm64] at *); (try simp (disch := omega) only [k_bm] at *); (try simp (disch := omega) only [k_bm] at *); omega) | (simp only [Int.bmod] at *; omega))))))
theorem lf_g_angerBy_3 (a0 : Int32) (h0 : 0 ≤ a0 ∧ a0 ≤ 7) : 0 ≤ ((4 * a0) + 1).toInt ∧ ((4 * a0) + 1).toInt < 32 := by
  first | rfl | assumption | decide | exact Or.inl rfl | (first | rfl | assumption | decide | omega | (have hr0 := Int32.toInt_lt a0; have hs0 := Int32.le_toInt a0; simp only [Int64.toInt_add, Int64.toInt_sub, Int32.toInt_add, Int32.toInt_sub, Int32.toInt_mul, Int64.le_iff_toInt_le, Int64.lt_iff_toInt_lt, Int32.le_iff_toInt_le, Int32.lt_iff_toInt_lt, ← Int32.toInt_inj, ← Int64.toInt_inj, Int32.toInt_toInt64, kc_0, kc_1, kc_4, kc_7, kc_32, true_and, and_true, not_true_eq_false, not_false_eq_true] at * <;> ((first | omega | ((try simp (disch := omega) only [k_bm64] at *); (try simp (disch := omega) only [k_bm] at *); (try simp (disch := omega) only [k_bm] at *); omega) | (simp only [Int.bmod] at *; omega)))))
theorem lf_g_angerBy_4 (a0 : Int32) (a1 : Int32) (a2 : Int32) (a3 : Int32) (h0 : ¬ a0 = 1) (h1 : ¬ a0 = 3) (h2 : ¬ a1 = a2) (h3 : ¬ a0 = 2) : (10 - a3 : Int32) = kAn a0 a1 a2 a3 := by
  ((try unfold kAn)) <;> ((repeat' split) <;> first | rfl | contradiction | assumption | (exfalso; (first | rfl | assumption | decide | omega | (have hr0 := Int32.toInt_lt a0; have hs0 := Int32.le_toInt a0; have hr1 := Int32.toInt_lt a1; have hs1 := Int32.le_toInt a1; have hr2 := Int32.toInt_lt a2; have hs2 := Int32.le_toInt a2; have hr3 := Int32.toInt_lt a3; have hs3 := Int32.le_toInt a3; simp only [Int64.toInt_add, Int64.toInt_sub, Int32.toInt_add, Int32.toInt_sub, Int32.toInt_mul, Int64.le_iff_toInt_le, Int64.lt_iff_toInt_lt, Int32.le_iff_toInt_le, Int32.lt_iff_toInt_lt, ← Int32.toInt_inj, ← Int64.toInt_inj, Int32.toInt_toInt64, kc_m1, kc_0, kc_1, kc_2, kc_3, kc_4, kc_5, kc_6, kc_7, kc_8, kc_10, kc_48, kc_49, kc_57, kc_59, kc_97, kc_100, kc_102, kc_105, kc_111, kc_112, kc_115, kc_116, kc_119, true_and, and_true, not_true_eq_false, not_false_eq_true] at * <;> ((first | omega | ((try simp (disch := omega) only [k_bm64] at *); (try simp (disch := omega) only [k_bm] at *); (try simp (disch := omega) only [k_bm] at *); omega) | (simp only [Int.bmod] at *; omega)))))) | (first | rfl | assumption | decide | omega | (have hr0 := Int32.toInt_lt a0; have hs0 := Int32.le_toInt a0; have hr1 := Int32.toInt_lt a1; have hs1 := Int32.le_toInt a1; have hr2 := Int32.toInt_lt a2; have hs2 := Int32.le_toInt a2; have hr3 := Int32.toInt_lt a3; have hs3 := Int32.le_toInt a3; simp only [Int64.toInt_add, Int64.toInt_sub, Int32.toInt_add, Int32.toInt_sub, Int32.toInt_mul, Int64.le_iff_toInt_le, Int64.lt_iff_toInt_lt, Int32.le_iff_toInt_le, Int32.lt_iff_toInt_lt, ← Int32.toInt_inj, ← Int64.toInt_inj, Int32.toInt_toInt64, kc_m1, kc_0, kc_1, kc_2, kc_3, kc_4, kc_5, kc_6, kc_7, kc_8, kc_10, kc_48, kc_49, kc_57, kc_59, kc_97, kc_100, kc_102, kc_105, kc_111, kc_112, kc_115, kc_116, kc_119, true_and, and_true, not_true_eq_false, not_false_eq_true] at * <;> ((first | omega | ((try simp (disch := omega) only [k_bm64] at *); (try simp (disch := omega) only [k_bm] at *); (try simp (disch := omega) only [k_bm] at *); omega) | (simp only [Int.bmod] at *; omega))))))
theorem lf_g_angerBy_5 (a0 : Int32) (a1 : Int32) (a2 : Int32) (a3 : Int32) (h0 : ¬ a0 = 1) (h1 : ¬ a0 = 3) (h2 : ¬ a1 = a2) (h3 : a0 = 2) : ((10 - a3) + 1 : Int32) = kAn a0 a1 a2 a3 := by
  ((try unfold kAn)) <;> ((repeat' split) <;> first | rfl | contradiction | assumption | (exfalso; (first | rfl | assumption | decide | omega | (have hr0 := Int32.toInt_lt a0; have hs0 := Int32.le_toInt a0; have hr1 := Int32.toInt_lt a1; have hs1 := Int32.le_toInt a1; have hr2 := Int32.toInt_lt a2; have hs2 := Int32.le_toInt a2; have hr3 := Int32.toInt_lt a3; have hs3 := Int32.le_toInt a3; simp only [Int64.toInt_add, Int64.toInt_sub, Int32.toInt_add, Int32.toInt_sub, Int32.toInt_mul, Int64.le_iff_toInt_le, Int64.lt_iff_toInt_lt, Int32.le_iff_toInt_le, Int32.lt_iff_toInt_lt, ← Int32.toInt_inj, ← Int64.toInt_inj, Int32.toInt_toInt64, kc_m1, kc_0, kc_1, kc_2, kc_3, kc_4, kc_5, kc_6, kc_7, kc_8, kc_10, kc_48, kc_49, kc_57, kc_59, kc_97, kc_100, kc_102, kc_105, kc_111, kc_112, kc_115, kc_116, kc_119, true_and, and_true, not_true_eq_false, not_false_eq_true] at * <;> ((first | omega | ((try simp (disch := omega) only [k_bm64] at *); (try simp (disch := omega) only [k_bm] at *); (try simp (disch := omega) only [k_bm] at *); omega) | (simp only [Int.bmod] at *; omega)))))) | (first | rfl | assumption | decide | omega | (have hr0 := Int32.toInt_lt a0; have hs0 := Int32.le_toInt a0; have hr1 := Int32.toInt_lt a1; have hs1 := Int32.le_toInt a1; have hr2 := Int32.toInt_lt a2; have hs2 := Int32.le_toInt a2; have hr3 := Int32.toInt_lt a3; have hs3 := Int32.le_toInt a3; simp only [Int64.toInt_add, Int64.toInt_sub, Int32.toInt_add, Int32.toInt_sub, Int32.toInt_mul, Int64.le_iff_toInt_le, Int64.lt_iff_toInt_lt, Int32.le_iff_toInt_le, Int32.lt_iff_toInt_lt, ← Int32.toInt_inj, ← Int64.toInt_inj, Int32.toInt_toInt64, kc_m1, kc_0, kc_1, kc_2, kc_3, kc_4, kc_5, kc_6, kc_7, kc_8, kc_10, kc_48, kc_49, kc_57, kc_59, kc_97, kc_100, kc_102, kc_105, kc_111, kc_112, kc_115, kc_116, kc_119, true_and, and_true, not_true_eq_false, not_false_eq_true] at * <;> ((first | omega | ((try simp (disch := omega) only [k_bm64] at *); (try simp (disch := omega) only [k_bm] at *); (try simp (disch := omega) only [k_bm] at *); omega) | (simp only [Int.bmod] at *; omega))))))
theorem lf_g_angerBy_6 (a0 : Int32) (a1 : Int32) (a2 : Int32) (a3 : Int32) (h0 : ¬ a0 = 1) (h1 : ¬ a0 = 3) (h2 : a1 = a2) (h3 : ¬ a0 = 2) : (2 * (10 - a3) : Int32) = kAn a0 a1 a2 a3 := by
  ((try unfold kAn)) <;> ((repeat' split) <;> first | rfl | contradiction | assumption | (exfalso; (first | rfl | assumption | decide | omega | (have hr0 := Int32.toInt_lt a0; have hs0 := Int32.le_toInt a0; have hr1 := Int32.toInt_lt a1; have hs1 := Int32.le_toInt a1; have hr2 := Int32.toInt_lt a2; have hs2 := Int32.le_toInt a2; have hr3 := Int32.toInt_lt a3; have hs3 := Int32.le_toInt a3; simp only [Int64.toInt_add, Int64.toInt_sub, Int32.toInt_add, Int32.toInt_sub, Int32.toInt_mul, Int64.le_iff_toInt_le, Int64.lt_iff_toInt_lt, Int32.le_iff_toInt_le, Int32.lt_iff_toInt_lt, ← Int32.toInt_inj, ← Int64.toInt_inj, Int32.toInt_toInt64, kc_m1, kc_0, kc_1, kc_2, kc_3, kc_4, kc_5, kc_6, kc_7, kc_8, kc_10, kc_48, kc_49, kc_57, kc_59, kc_97, kc_100, kc_102, kc_105, kc_111, kc_112, kc_115, kc_116, kc_119, true_and, and_true, not_true_eq_false, not_false_eq_true] at * <;> ((first | omega | ((try simp (disch := omega) only [k_bm64] at *); (try simp (disch := omega) only [k_bm] at *); (try simp (disch := omega) only [k_bm] at *); omega) | (simp only [Int.bmod] at *; omega)))))) | (first | rfl | assumption | decide | omega | (have hr0 := Int32.toInt_lt a0; have hs0 := Int32.le_toInt a0; have hr1 := Int32.toInt_lt a1; have hs1 := Int32.le_toInt a1; have hr2 := Int32.toInt_lt a2; have hs2 := Int32.le_toInt a2; have hr3 := Int32.toInt_lt a3; have hs3 := Int32.le_toInt a3; simp only [Int64.toInt_add, Int64.toInt_sub, Int32.toInt_add, Int32.toInt_sub, Int32.toInt_mul, Int64.le_iff_toInt_le, Int64.lt_iff_toInt_lt, Int32.le_iff_toInt_le, Int32.lt_iff_toInt_lt, ← Int32.toInt_inj, ← Int64.toInt_inj, Int32.toInt_toInt64, kc_m1, kc_0, kc_1, kc_2, kc_3, kc_4, kc_5, kc_6, kc_7, kc_8, kc_10, kc_48, kc_49, kc_57, kc_59, kc_97, kc_100, kc_102, kc_105, kc_111, kc_112, kc_115, kc_116, kc_119, true_and, and_true, not_true_eq_false, not_false_eq_true] at * <;> ((first | omega | ((try simp (disch := omega) only [k_bm64] at *); (try simp (disch := omega) only [k_bm] at *); (try simp (disch := omega) only [k_bm] at *); omega) | (simp only [Int.bmod] at *; omega))))))
theorem lf_g_angerBy_7 (a0 : Int32) (a1 : Int32) (a2 : Int32) (a3 : Int32) (h0 : ¬ a0 = 1) (h1 : ¬ a0 = 3) (h2 : a1 = a2) (h3 : a0 = 2) : ((2 * (10 - a3)) + 1 : Int32) = kAn a0 a1 a2 a3 := by
  ((try unfold kAn)) <;> ((repeat' split) <;> first | rfl | contradiction | assumption | (exfalso; (first | rfl | assumption | decide | omega | (have hr0 := Int32.toInt_lt a0; have hs0 := Int32.le_toInt a0; have hr1 := Int32.toInt_lt a1; have hs1 := Int32.le_toInt a1; have hr2 := Int32.toInt_lt a2; have hs2 := Int32.le_toInt a2; have hr3 := Int32.toInt_lt a3; have hs3 := Int32.le_toInt a3; simp only [Int64.toInt_add, Int64.toInt_sub, Int32.toInt_add, Int32.toInt_sub, Int32.toInt_mul, Int64.le_iff_toInt_le, Int64.lt_iff_toInt_lt, Int32.le_iff_toInt_le, Int32.lt_iff_toInt_lt, ← Int32.toInt_inj, ← Int64.toInt_inj, Int32.toInt_toInt64, kc_m1, kc_0, kc_1, kc_2, kc_3, kc_4, kc_5, kc_6, kc_7, kc_8, kc_10, kc_48, kc_49, kc_57, kc_59, kc_97, kc_100, kc_102, kc_105, kc_111, kc_112, kc_115, kc_116, kc_119, true_and, and_true, not_true_eq_false, not_false_eq_true] at * <;> ((first | omega | ((try simp (disch := omega) only [k_bm64] at *); (try simp (disch := omega) only [k_bm] at *); (try simp (disch := omega) only [k_bm] at *); omega) | (simp only [Int.bmod] at *; omega)))))) | (first | rfl | assumption | decide | omega | (have hr0 := Int32.toInt_lt a0; have hs0 := Int32.le_toInt a0; have hr1 := Int32.toInt_lt a1; have hs1 := Int32.le_toInt a1; have hr2 := Int32.toInt_lt a2; have hs2 := Int32.le_toInt a2; have hr3 := Int32.toInt_lt a3; have hs3 := Int32.le_toInt a3; simp only [Int64.toInt_add, Int64.toInt_sub, Int32.toInt_add, Int32.toInt_sub, Int32.toInt_mul, Int64.le_iff_toInt_le, Int64.lt_iff_toInt_lt, Int32.le_iff_toInt_le, Int32.lt_iff_toInt_lt, ← Int32.toInt_inj, ← Int64.toInt_inj, Int32.toInt_toInt64, kc_m1, kc_0, kc_1, kc_2, kc_3, kc_4, kc_5, kc_6, kc_7, kc_8, kc_10, kc_48, kc_49, kc_57, kc_59, kc_97, kc_100, kc_102, kc_105, kc_111, kc_112, kc_115, kc_116, kc_119, true_and, and_true, not_true_eq_false, not_false_eq_true] at * <;> ((first | omega | ((try simp (disch := omega) only [k_bm64] at *); (try simp (disch := omega) only [k_bm] at *); (try simp (disch := omega) only [k_bm] at *); omega) | (simp only [Int.bmod] at *; omega))))))
theorem lf_g_angerBy_8 (a0 : Int32) (a1 : Int32) (a2 : Int32) (a3 : Int32) (h0 : ¬ a0 = 1) (h1 : a0 = 3) (h2 : a1 ≤ 6) (h3 : ¬ a2 = a3) (h4 : ¬ a0 = 2) : (10 - a1 : Int32) = kAn a0 a2 a3 a1 := by
  ((try unfold kAn)) <;> ((repeat' split) <;> first | rfl | contradiction | assumption | (exfalso; (first | rfl | assumption | decide | omega | (have hr0 := Int32.toInt_lt a0; have hs0 := Int32.le_toInt a0; have hr1 := Int32.toInt_lt a1; have hs1 := Int32.le_toInt a1; have hr2 := Int32.toInt_lt a2; have hs2 := Int32.le_toInt a2; have hr3 := Int32.toInt_lt a3; have hs3 := Int32.le_toInt a3; simp only [Int64.toInt_add, Int64.toInt_sub, Int32.toInt_add, Int32.toInt_sub, Int32.toInt_mul, Int64.le_iff_toInt_le, Int64.lt_iff_toInt_lt, Int32.le_iff_toInt_le, Int32.lt_iff_toInt_lt, ← Int32.toInt_inj, ← Int64.toInt_inj, Int32.toInt_toInt64, kc_m1, kc_0, kc_1, kc_2, kc_3, kc_4, kc_5, kc_6, kc_7, kc_8, kc_10, kc_48, kc_49, kc_57, kc_59, kc_97, kc_100, kc_102, kc_105, kc_111, kc_112, kc_115, kc_116, kc_119, true_and, and_true, not_true_eq_false, not_false_eq_true] at * <;> ((first | omega | ((try simp (disch := omega) only [k_bm64] at *); (try simp (disch := omega) only [k_bm] at *); (try simp (disch := omega) only [k_bm] at *); omega) | (simp only [Int.bmod] at *; omega)))))) | (first | rfl | assumption | decide | omega | (have hr0 := Int32.toInt_lt a0; have hs0 := Int32.le_toInt a0; have hr1 := Int32.toInt_lt a1; have hs1 := Int32.le_toInt a1; have hr2 := Int32.toInt_lt a2; have hs2 := Int32.le_toInt a2; have hr3 := Int32.toInt_lt a3; have hs3 := Int32.le_toInt a3; simp only [Int64.toInt_add, Int64.toInt_sub, Int32.toInt_add, Int32.toInt_sub, Int32.toInt_mul, Int64.le_iff_toInt_le, Int64.lt_iff_toInt_lt, Int32.le_iff_toInt_le, Int32.lt_iff_toInt_lt, ← Int32.toInt_inj, ← Int64.toInt_inj, Int32.toInt_toInt64, kc_m1, kc_0, kc_1, kc_2, kc_3, kc_4, kc_5, kc_6, kc_7, kc_8, kc_10, kc_48, kc_49, kc_57, kc_59, kc_97, kc_100, kc_102, kc_105, kc_111, kc_112, kc_115, kc_116, kc_119, true_and, and_true, not_true_eq_false, not_false_eq_true] at * <;> ((first | omega | ((try simp (disch := omega) only [k_bm64] at *); (try simp (disch := omega) only [k_bm] at *); (try simp (disch := omega) only [k_bm] at *); omega) | (simp only [Int.bmod] at *; omega))))))
theorem lf_g_angerBy_9 (a0 : Int32) (a1 : Int32) (a2 : Int32) (a3 : Int32) (h0 : ¬ a0 = 1) (h1 : a0 = 3) (h2 : a1 ≤ 6) (h3 : ¬ a2 = a3) (h4 : a0 = 2) : ((10 - a1) + 1 : Int32) = kAn a0 a2 a3 a1 := by
  ((try unfold kAn)) <;> ((repeat' split) <;> first | rfl | contradiction | assumption | (exfalso; (first | rfl | assumption | decide | omega | (have hr0 := Int32.toInt_lt a0; have hs0 := Int32.le_toInt a0; have hr1 := Int32.toInt_lt a1; have hs1 := Int32.le_toInt a1; have hr2 := Int32.toInt_lt a2; have hs2 := Int32.le_toInt a2; have hr3 := Int32.toInt_lt a3; have hs3 := Int32.le_toInt a3; simp only [Int64.toInt_add, Int64.toInt_sub, Int32.toInt_add, Int32.toInt_sub, Int32.toInt_mul, Int64.le_iff_toInt_le, Int64.lt_iff_toInt_lt, Int32.le_iff_toInt_le, Int32.lt_iff_toInt_lt, ← Int32.toInt_inj, ← Int64.toInt_inj, Int32.toInt_toInt64, kc_m1, kc_0, kc_1, kc_2, kc_3, kc_4, kc_5, kc_6, kc_7, kc_8, kc_10, kc_48, kc_49, kc_57, kc_59, kc_97, kc_100, kc_102, kc_105, kc_111, kc_112, kc_115, kc_116, kc_119, true_and, and_true, not_true_eq_false, not_false_eq_true] at * <;> ((first | omega | ((try simp (disch := omega) only [k_bm64] at *); (try simp (disch := omega) only [k_bm] at *); (try simp (disch := omega) only [k_bm] at *); omega) | (simp only [Int.bmod] at *; omega)))))) | (first | rfl | assumption | decide | omega | (have hr0 := Int32.toInt_lt a0; have hs0 := Int32.le_toInt a0; have hr1 := Int32.toInt_lt a1; have hs1 := Int32.le_toInt a1; have hr2 := Int32.toInt_lt a2; have hs2 := Int32.le_toInt a2; have hr3 := Int32.toInt_lt a3; have hs3 := Int32.le_toInt a3; simp only [Int64.toInt_add, Int64.toInt_sub, Int32.toInt_add, Int32.toInt_sub, Int32.toInt_mul, Int64.le_iff_toInt_le, Int64.lt_iff_toInt_lt, Int32.le_iff_toInt_le, Int32.lt_iff_toInt_lt, ← Int32.toInt_inj, ← Int64.toInt_inj, Int32.toInt_toInt64, kc_m1, kc_0, kc_1, kc_2, kc_3, kc_4, kc_5, kc_6, kc_7, kc_8, kc_10, kc_48, kc_49, kc_57, kc_59, kc_97, kc_100, kc_102, kc_105, kc_111, kc_112, kc_115, kc_116, kc_119, true_and, and_true, not_true_eq_false, not_false_eq_true] at * <;> ((first | omega | ((try simp (disch := omega) only [k_bm64] at *); (try simp (disch := omega) only [k_bm] at *); (try simp (disch := omega) only [k_bm] at *); omega) | (simp only [Int.bmod] at *; omega))))))
theorem lf_g_angerBy_10 (a0 : Int32) (a1 : Int32) (a2 : Int32) (a3 : Int32) (h0 : ¬ a0 = 1) (h1 : a0 = 3) (h2 : a1 ≤ 6) (h3 : a2 = a3) (h4 : ¬ a0 = 2) : (2 * (10 - a1) : Int32) = kAn a0 a2 a3 a1 := by
  ((try unfold kAn)) <;> ((repeat' split) <;> first | rfl | contradiction | assumption | (exfalso; (first | rfl | assumption | decide | omega | (have hr0 := Int32.toInt_lt a0; have hs0 := Int32.le_toInt a0; have hr1 := Int32.toInt_lt a1; have hs1 := Int32.le_toInt a1; have hr2 := Int32.toInt_lt a2; have hs2 := Int32.le_toInt a2; have hr3 := Int32.toInt_lt a3; have hs3 := Int32.le_toInt a3; simp only [Int64.toInt_add, Int64.toInt_sub, Int32.toInt_add, Int32.toInt_sub, Int32.toInt_mul, Int64.le_iff_toInt_le, Int64.lt_iff_toInt_lt, Int32.le_iff_toInt_le, Int32.lt_iff_toInt_lt, ← Int32.toInt_inj, ← Int64.toInt_inj, Int32.toInt_toInt64, kc_m1, kc_0, kc_1, kc_2, kc_3, kc_4, kc_5, kc_6, kc_7, kc_8, kc_10, kc_48, kc_49, kc_57, kc_59, kc_97, kc_100, kc_102, kc_105, kc_111, kc_112, kc_115, kc_116, kc_119, true_and, and_true, not_true_eq_false, not_false_eq_true] at * <;> ((first | omega | ((try simp (disch := omega) only [k_bm64] at *); (try simp (disch := omega) only [k_bm] at *); (try simp (disch := omega) only [k_bm] at *); omega) | (simp only [Int.bmod] at *; omega)))))) | (first | rfl | assumption | decide | omega | (have hr0 := Int32.toInt_lt a0; have hs0 := Int32.le_toInt a0; have hr1 := Int32.toInt_lt a1; have hs1 := Int32.le_toInt a1; have hr2 := Int32.toInt_lt a2; have hs2 := Int32.le_toInt a2; have hr3 := Int32.toInt_lt a3; have hs3 := Int32.le_toInt a3; simp only [Int64.toInt_add, Int64.toInt_sub, Int32.toInt_add, Int32.toInt_sub, Int32.toInt_mul, Int64.le_iff_toInt_le, Int64.lt_iff_toInt_lt, Int32.le_iff_toInt_le, Int32.lt_iff_toInt_lt, ← Int32.toInt_inj, ← Int64.toInt_inj, Int32.toInt_toInt64, kc_m1, kc_0, kc_1, kc_2, kc_3, kc_4, kc_5, kc_6, kc_7, kc_8, kc_10, kc_48, kc_49, kc_57, kc_59, kc_97, kc_100, kc_102, kc_105, kc_111, kc_112, kc_115, kc_116, kc_119, true_and, and_true, not_true_eq_false, not_false_eq_true] at * <;> ((first | omega | ((try simp (disch := omega) only [k_bm64] at *); (try simp (disch := omega) only [k_bm] at *); (try simp (disch := omega) only [k_bm] at *); omega) | (simp only [Int.bmod] at *; omega))))))
theorem lf_g_angerBy_11 (a0 : Int32) (a1 : Int32) (a2 : Int32) (a3 : Int32) (h0 : ¬ a0 = 1) (h1 : a0 = 3) (h2 : a1 ≤ 6) (h3 : a2 = a3) (h4 : a0 = 2) : ((2 * (10 - a1)) + 1 : Int32) = kAn a0 a2 a3 a1 := by
  ((try unfold kAn)) <;> ((repeat' split) <;> first | rfl | contradiction | assumption | (exfalso; (first | rfl | assumption | decide | omega | (have hr0 := Int32.toInt_lt a0; have hs0 := Int32.le_toInt a0; have hr1 := Int32.toInt_lt a1; have hs1 := Int32.le_toInt a1; have hr2 := Int32.toInt_lt a2; have hs2 := Int32.le_toInt a2; have hr3 := Int32.toInt_lt a3; have hs3 := Int32.le_toInt a3; simp only [Int64.toInt_add, Int64.toInt_sub, Int32.toInt_add, Int32.toInt_sub, Int32.toInt_mul, Int64.le_iff_toInt_le, Int64.lt_iff_toInt_lt, Int32.le_iff_toInt_le, Int32.lt_iff_toInt_lt, ← Int32.toInt_inj, ← Int64.toInt_inj, Int32.toInt_toInt64, kc_m1, kc_0, kc_1, kc_2, kc_3, kc_4, kc_5, kc_6, kc_7, kc_8, kc_10, kc_48, kc_49, kc_57, kc_59, kc_97, kc_100, kc_102, kc_105, kc_111, kc_112, kc_115, kc_116, kc_119, true_and, and_true, not_true_eq_false, not_false_eq_true] at * <;> ((first | omega | ((try simp (disch := omega) only [k_bm64] at *); (try simp (disch := omega) only [k_bm] at *); (try simp (disch := omega) only [k_bm] at *); omega) | (simp only [Int.bmod] at *; omega)))))) | (first | rfl | assumption | decide | omega | (have hr0 := Int32.toInt_lt a0; have hs0 := Int32.le_toInt a0; have hr1 := Int32.toInt_lt a1; have hs1 := Int32.le_toInt a1; have hr2 := Int32.toInt_lt a2; have hs2 := Int32.le_toInt a2; have hr3 := Int32.toInt_lt a3; have hs3 := Int32.le_toInt a3; simp only [Int64.toInt_add, Int64.toInt_sub, Int32.toInt_add, Int32.toInt_sub, Int32.toInt_mul, Int64.le_iff_toInt_le, Int64.lt_iff_toInt_lt, Int32.le_iff_toInt_le, Int32.lt_iff_toInt_lt, ← Int32.toInt_inj, ← Int64.toInt_inj, Int32.toInt_toInt64, kc_m1, kc_0, kc_1, kc_2, kc_3, kc_4, kc_5, kc_6, kc_7, kc_8, kc_10, kc_48, kc_49, kc_57, kc_59, kc_97, kc_100, kc_102, kc_105, kc_111, kc_112, kc_115, kc_116, kc_119, true_and, and_true, not_true_eq_false, not_false_eq_true] at * <;> ((first | omega | ((try simp (disch := omega) only [k_bm64] at *); (try simp (disch := omega) only [k_bm] at *); (try simp (disch := omega) only [k_bm] at *); omega) | (simp only [Int.bmod] at *; omega))))))
theorem lf_g_angerBy_12 (a0 : Int32) (a1 : Int32) (a2 : Int32) (a3 : Int32) (h0 : ¬ a0 = 1) (h1 : a0 = 3) (h2 : ¬ a1 ≤ 6) : (0 : Int32) = kAn a0 a2 a3 a1 := by
  ((try unfold kAn)) <;> ((repeat' split) <;> first | rfl | contradiction | assumption | (exfalso; (first | rfl | assumption | decide | omega | (have hr0 := Int32.toInt_lt a0; have hs0 := Int32.le_toInt a0; have hr1 := Int32.toInt_lt a1; have hs1 := Int32.le_toInt a1; have hr2 := Int32.toInt_lt a2; have hs2 := Int32.le_toInt a2; have hr3 := Int32.toInt_lt a3; have hs3 := Int32.le_toInt a3; simp only [Int64.toInt_add, Int64.toInt_sub, Int32.toInt_add, Int32.toInt_sub, Int32.toInt_mul, Int64.le_iff_toInt_le, Int64.lt_iff_toInt_lt, Int32.le_iff_toInt_le, Int32.lt_iff_toInt_lt, ← Int32.toInt_inj, ← Int64.toInt_inj, Int32.toInt_toInt64, kc_m1, kc_0, kc_1, kc_2, kc_3, kc_4, kc_5, kc_6, kc_7, kc_8, kc_10, kc_48, kc_49, kc_57, kc_59, kc_97, kc_100, kc_102, kc_105, kc_111, kc_112, kc_115, kc_116, kc_119, true_and, and_true, not_true_eq_false, not_false_eq_true] at * <;> ((first | omega | ((try simp (disch := omega) only [k_bm64] at *); (try simp (disch := omega) only [k_bm] at *); (try simp (disch := omega) only [k_bm] at *); omega) | (simp only [Int.bmod] at *; omega)))))) | (first | rfl | assumption | decide | omega | (have hr0 := Int32.toInt_lt a0; have hs0 := Int32.le_toInt a0; have hr1 := Int32.toInt_lt a1; have hs1 := Int32.le_toInt a1; have hr2 := Int32.toInt_lt a2; have hs2 := Int32.le_toInt a2; have hr3 := Int32.toInt_lt a3; have hs3 := Int32.le_toInt a3; simp only [Int64.toInt_add, Int64.toInt_sub, Int32.toInt_add, Int32.toInt_sub, Int32.toInt_mul, Int64.le_iff_toInt_le, Int64.lt_iff_toInt_lt, Int32.le_iff_toInt_le, Int32.lt_iff_toInt_lt, ← Int32.toInt_inj, ← Int64.toInt_inj, Int32.toInt_toInt64, kc_m1, kc_0, kc_1, kc_2, kc_3, kc_4, kc_5, kc_6, kc_7, kc_8, kc_10, kc_48, kc_49, kc_57, kc_59, kc_97, kc_100, kc_102, kc_105, kc_111, kc_112, kc_115, kc_116, kc_119, true_and, and_true, not_true_eq_false, not_false_eq_true] at * <;> ((first | omega | ((try simp (disch := omega) only [k_bm64] at *); (try simp (disch := omega) only [k_bm] at *); (try simp (disch := omega) only [k_bm] at *); omega) | (simp only [Int.bmod] at *; omega))))))
set_option maxHeartbeats 4000000 in
set_option maxRecDepth 100000 in
theorem g_angerBy (l : Launch) (dC : Nat → ClassId) (dI : Nat → Nat → Nat) (cI cJ cQ : ClassId) (sz : Nat) (hm : Nat) (p1 : Int32) (cl : Int32) (h1 : Int32) (vFo : Nat) (vSi : Nat) (vIt : Nat) (vMo : Nat) (la : Int32) (vBy : Nat) (vTy : Nat) (mi : Int32) (vMi : Nat) (pn : Int32) (vPs : Nat) (gn : Int32) (vGs : Nat) (fn : Int32) (vFt : Nat) (le : Int32) (vTo : Nat) (kn : Int32) (fe : Int32) (en : Int32) (ca : Int32) (an : Int32) (co : Int32) (vPr : Nat) (vSt : Nat) (vFn : Nat) (sn : Int32) (vSg : Nat) (vAl : Nat) (dr : Int32) (qPs : Nat → Int32) (hh0 : 0 ≤ p1 ∧ p1 ≤ 7) : Met l yX12_angerBy (kW yX12_angerBy cX12_angerBy 6 (some .int)) { frames := 0, cells := 0, slots := 0, locals := 0 } (kPre dC dI cI cJ cQ sz [.ref hm, .int p1, .int cl, .int h1] [(kX12 hm vFo vSi vIt vMo la vBy vTy mi vMi pn vPs gn vGs fn vFt le vTo kn fe en ca an co vPr vSt vFn sn vSg vAl dr), (kAI vPs cI 32 qPs)]) (va_Qi (fun (r : Int32) (u : Unit) => (r = kAn (kP0 qPs p1) (kP1 qPs p1) cl h1)) (fun (u : Unit) t₀ => kB dC dI cI cJ cQ (va_A [(kX12 hm vFo vSi vIt vMo la vBy vTy mi vMi pn vPs gn vGs fn vFt le vTo kn fe en ca an co vPr vSt vFn sn vSg vAl dr), (kAI vPs cI 32 qPs)] sz) [(kX12 hm vFo vSi vIt vMo la vBy vTy mi vMi pn vPs gn vGs fn vFt le vTo kn fe en ca an co vPr vSt vFn sn vSg vAl dr), (kAI vPs cI 32 qPs)] t₀) (va_A [(kX12 hm vFo vSi vIt vMo la vBy vTy mi vMi pn vPs gn vGs fn vFt le vTo kn fe en ca an co vPr vSt vFn sn vSg vAl dr), (kAI vPs cI 32 qPs)] sz)) 0 0 (va_A [(kX12 hm vFo vSi vIt vMo la vBy vTy mi vMi pn vPs gn vGs fn vFt le vTo kn fe en ca an co vPr vSt vFn sn vSg vAl dr), (kAI vPs cI 32 qPs)] sz) := by
  refine Met.ofW (cc := cX12_angerBy) (maxL := 6) (ret := (some .int)) (by decide) rfl ?_
  intro p₀ e₀ s₀ m₀ args below meth c₀ s₁ B hml hv₀
  obtain ⟨rfl, hsz, hP, hK, hD0, hN⟩ := hv₀
  have hx₀ := B.exec
  have hb := B.bytes
  have hr := B.returns
  have hts := atoms_spec (ws := (kW yX12_angerBy cX12_angerBy 6 (some .int))) B.pre
  have hts := fun w h => hts w (List.mem_cons_of_mem _ h)
  have hown : s₀.vm.findClass RX12 = some m₀.cls := findClass_of_methodNamed B.named
  have hlocks := B.notSynchronized
  subst hsz
  have hD := hD0.self (sz := s₀.heap.size)
  generalize hAe : va_A [(kX12 hm vFo vSi vIt vMo la vBy vTy mi vMi pn vPs gn vGs fn vFt le vTo kn fe en ca an co vPr vSt vFn sn vSg vAl dr), (kAI vPs cI 32 qPs)] s₀.heap.size = A at hD ⊢
  have hA : ∀ q : Nat, s₀.heap.size ≤ q → A q := fun q h => by rw [← hAe]; exact Or.inr h
  have hS : va_S A s₀.heap s₀.heap [] := va_S.rf
  have hP : va_P (dC, dI) vwCl [(kX12 hm vFo vSi vIt vMo la vBy vTy mi vMi pn vPs gn vGs fn vFt le vTo kn fe en ca an co vPr vSt vFn sn vSg vAl dr), (kAI vPs cI 32 qPs)] s₀.heap := hP
  have hl := lv_entry ([.ref hm, .int p1, .int cl, .int h1]) (n := 6) (Nat.le_of_ble_eq_true rfl)
  rw [lg_entry_eq]
  generalize (lg_sl ([.ref hm, .int p1, .int cl, .int h1]) ++ List.replicate (6 - (lg_sl ([.ref hm, .int p1, .int cl, .int h1])).length) Slot.unset).toArray = ls at hl ⊢
  have hl : lv_has ls 6 [(0, .ref hm), (1, .int p1), (2, .int cl), (3, .int h1)] := hl
  obtain ⟨H, hH⟩ : ∃ z : Heap, z = s₀.heap := ⟨_, rfl⟩
  rw [← hH] at hP
  have hS : va_S A s₀.heap H [] := by rw [hH]; exact hS
  refine k_heap hH ?_
  have hD : va_D A [(kX12 hm vFo vSi vIt vMo la vBy vTy mi vMi pn vPs gn vGs fn vFt le vTo kn fe en ca an co vPr vSt vFn sn vSg vAl dr), (kAI vPs cI 32 qPs)] := hD
  obtain ⟨locs, hlo⟩ : ∃ z : List Loc, z = [] := ⟨_, rfl⟩
  rw [← hlo] at hS ⊢
  clear hlo hH hAe hD0
  refine lv_aload_n hx₀ hb dX12_angerBy_0 rfl (lv_at hl 0 rfl) ?_
  refine va_get (D := (dC, dI)) (ci := 11) (v := .ref vPs) (C := RX12) (T := TX12) (N := 30) hx₀ hb hts inlX12 hown hK hP 0 rfl rfl 10 (by decide) (hts (.fieldLink RX12 31 "BittenStickModel" "passenger" "[I") wd_122) (fun _ h9 => h9) rfl dX12_angerBy_1 ?_
  refine lv_iconst (v := 4) hx₀ hb dX12_angerBy_4 (by decide +kernel) ?_
  refine lv_iload_n hx₀ hb dX12_angerBy_5 rfl (lv_at hl 1 rfl) ?_
  refine lv_imul hx₀ hb dX12_angerBy_6 ?_
  refine va_iald hx₀ hb hK hP 1 0 rfl rfl (vp_in_iff.mpr (lf_g_angerBy_1 p1 hh0)) dX12_angerBy_7 ?_
  refine k_topi (v := kP0 qPs p1) rfl ?_
  refine lv_istore (lv' := [(4, .int (kP0 qPs p1)), (0, .ref hm), (1, .int p1), (2, .int cl), (3, .int h1)]) hx₀ hb dX12_angerBy_8 hl (by decide) rfl (fun ls hl => ?_)
  refine lv_iload hx₀ hb dX12_angerBy_10 (lv_at hl 0 rfl) ?_
  refine lv_iconst (v := 1) hx₀ hb dX12_angerBy_12 (by decide +kernel) ?_
  refine lv_icmp_eq (tgt := 28) hx₀ hb dX12_angerBy_13 (by decide) (fun c_1 => ?_) (fun c_1 => ?_)
  · refine lv_iconst (v := 0) hx₀ hb dX12_angerBy_28 (by decide +kernel) ?_
    obtain ⟨hP9, hD9⟩ := k_c2 (wc := [(kX12 hm vFo vSi vIt vMo la vBy vTy mi vMi pn vPs gn vGs fn vFt le vTo kn fe en ca an co vPr vSt vFn sn vSg vAl dr), (kAI vPs cI 32 qPs)]) hP hD [0, 1] (by decide +kernel) rfl
    exact W.iret (v := 0) hx₀ hb hr (fun t₀ ht hW => ⟨⟨0, (), rfl, (lf_g_angerBy_2 (kP0 qPs p1) (kP1 qPs p1) cl h1 c_1), by rw [ht]; exact hP9, va_K.moved hW.alike hK, hD9⟩, hS.F ht⟩) hS.2.2 dX12_angerBy_29
  · refine lv_iload hx₀ hb dX12_angerBy_16 (lv_at hl 0 rfl) ?_
    refine lv_iconst (v := 3) hx₀ hb dX12_angerBy_18 (by decide +kernel) ?_
    refine lv_icmp_ne (tgt := 30) hx₀ hb dX12_angerBy_19 (by decide) (fun c_2 => ?_) (fun c_2 => ?_)
    · refine lv_aload_n hx₀ hb dX12_angerBy_30 rfl (lv_at hl 1 rfl) ?_
      refine va_get (D := (dC, dI)) (ci := 11) (v := .ref vPs) (C := RX12) (T := TX12) (N := 30) hx₀ hb hts inlX12 hown hK hP 0 rfl rfl 10 (by decide) (hts (.fieldLink RX12 31 "BittenStickModel" "passenger" "[I") wd_122) (fun _ h9 => h9) rfl dX12_angerBy_31 ?_
      refine lv_iconst (v := 4) hx₀ hb dX12_angerBy_34 (by decide +kernel) ?_
      refine lv_iload_n hx₀ hb dX12_angerBy_35 rfl (lv_at hl 2 rfl) ?_
      refine lv_imul hx₀ hb dX12_angerBy_36 ?_
      refine lv_iconst (v := 1) hx₀ hb dX12_angerBy_37 (by decide +kernel) ?_
      refine lv_iadd hx₀ hb dX12_angerBy_38 ?_
      refine va_iald hx₀ hb hK hP 1 0 rfl rfl (vp_in_iff.mpr (lf_g_angerBy_3 p1 hh0)) dX12_angerBy_39 ?_
      refine k_topi (v := kP1 qPs p1) rfl ?_
      refine lv_iload_n hx₀ hb dX12_angerBy_40 rfl (lv_at hl 3 rfl) ?_
      refine lv_icmp_ne (tgt := 53) hx₀ hb dX12_angerBy_41 (by decide) (fun c_3 => ?_) (fun c_3 => ?_)
      · refine lv_bipush (v := 10) hx₀ hb dX12_angerBy_53 (by decide +kernel) ?_
        refine lv_iload_n hx₀ hb dX12_angerBy_55 rfl (lv_at hl 4 rfl) ?_
        refine lv_isub hx₀ hb dX12_angerBy_56 ?_
        refine lv_istore (lv' := [(5, .int (10 - h1)), (4, .int (kP0 qPs p1)), (0, .ref hm), (1, .int p1), (2, .int cl), (3, .int h1)]) hx₀ hb dX12_angerBy_57 hl (by decide) rfl (fun ls hl => ?_)
        refine lv_iload hx₀ hb dX12_angerBy_59 (lv_at hl 1 rfl) ?_
        refine lv_iconst (v := 2) hx₀ hb dX12_angerBy_61 (by decide +kernel) ?_
        refine lv_icmp_ne (tgt := 72) hx₀ hb dX12_angerBy_62 (by decide) (fun c_4 => ?_) (fun c_4 => ?_)
        · refine lv_iload hx₀ hb dX12_angerBy_72 (lv_at hl 0 rfl) ?_
          obtain ⟨hP9, hD9⟩ := k_c2 (wc := [(kX12 hm vFo vSi vIt vMo la vBy vTy mi vMi pn vPs gn vGs fn vFt le vTo kn fe en ca an co vPr vSt vFn sn vSg vAl dr), (kAI vPs cI 32 qPs)]) hP hD [0, 1] (by decide +kernel) rfl
          exact W.iret (v := 10 - h1) hx₀ hb hr (fun t₀ ht hW => ⟨⟨10 - h1, (), rfl, (lf_g_angerBy_4 (kP0 qPs p1) (kP1 qPs p1) cl h1 c_1 c_2 c_3 c_4), by rw [ht]; exact hP9, va_K.moved hW.alike hK, hD9⟩, hS.F ht⟩) hS.2.2 dX12_angerBy_74
        · refine lv_iload hx₀ hb dX12_angerBy_65 (lv_at hl 0 rfl) ?_
          refine lv_iconst (v := 1) hx₀ hb dX12_angerBy_67 (by decide +kernel) ?_
          refine lv_iadd hx₀ hb dX12_angerBy_68 ?_
          refine lv_goto (tgt := 74) hx₀ hb dX12_angerBy_69 (by decide) ?_
          obtain ⟨hP9, hD9⟩ := k_c2 (wc := [(kX12 hm vFo vSi vIt vMo la vBy vTy mi vMi pn vPs gn vGs fn vFt le vTo kn fe en ca an co vPr vSt vFn sn vSg vAl dr), (kAI vPs cI 32 qPs)]) hP hD [0, 1] (by decide +kernel) rfl
          exact W.iret (v := (10 - h1) + 1) hx₀ hb hr (fun t₀ ht hW => ⟨⟨(10 - h1) + 1, (), rfl, (lf_g_angerBy_5 (kP0 qPs p1) (kP1 qPs p1) cl h1 c_1 c_2 c_3 c_4), by rw [ht]; exact hP9, va_K.moved hW.alike hK, hD9⟩, hS.F ht⟩) hS.2.2 dX12_angerBy_74
      · refine lv_iconst (v := 2) hx₀ hb dX12_angerBy_44 (by decide +kernel) ?_
        refine lv_bipush (v := 10) hx₀ hb dX12_angerBy_45 (by decide +kernel) ?_
        refine lv_iload_n hx₀ hb dX12_angerBy_47 rfl (lv_at hl 4 rfl) ?_
        refine lv_isub hx₀ hb dX12_angerBy_48 ?_
        refine lv_imul hx₀ hb dX12_angerBy_49 ?_
        refine lv_goto (tgt := 57) hx₀ hb dX12_angerBy_50 (by decide) ?_
        refine lv_istore (lv' := [(5, .int (2 * (10 - h1))), (4, .int (kP0 qPs p1)), (0, .ref hm), (1, .int p1), (2, .int cl), (3, .int h1)]) hx₀ hb dX12_angerBy_57 hl (by decide) rfl (fun ls hl => ?_)
        refine lv_iload hx₀ hb dX12_angerBy_59 (lv_at hl 1 rfl) ?_
        refine lv_iconst (v := 2) hx₀ hb dX12_angerBy_61 (by decide +kernel) ?_
        refine lv_icmp_ne (tgt := 72) hx₀ hb dX12_angerBy_62 (by decide) (fun c_5 => ?_) (fun c_5 => ?_)
        · refine lv_iload hx₀ hb dX12_angerBy_72 (lv_at hl 0 rfl) ?_
          obtain ⟨hP9, hD9⟩ := k_c2 (wc := [(kX12 hm vFo vSi vIt vMo la vBy vTy mi vMi pn vPs gn vGs fn vFt le vTo kn fe en ca an co vPr vSt vFn sn vSg vAl dr), (kAI vPs cI 32 qPs)]) hP hD [0, 1] (by decide +kernel) rfl
          exact W.iret (v := 2 * (10 - h1)) hx₀ hb hr (fun t₀ ht hW => ⟨⟨2 * (10 - h1), (), rfl, (lf_g_angerBy_6 (kP0 qPs p1) (kP1 qPs p1) cl h1 c_1 c_2 c_3 c_5), by rw [ht]; exact hP9, va_K.moved hW.alike hK, hD9⟩, hS.F ht⟩) hS.2.2 dX12_angerBy_74
        · refine lv_iload hx₀ hb dX12_angerBy_65 (lv_at hl 0 rfl) ?_
          refine lv_iconst (v := 1) hx₀ hb dX12_angerBy_67 (by decide +kernel) ?_
          refine lv_iadd hx₀ hb dX12_angerBy_68 ?_
          refine lv_goto (tgt := 74) hx₀ hb dX12_angerBy_69 (by decide) ?_
          obtain ⟨hP9, hD9⟩ := k_c2 (wc := [(kX12 hm vFo vSi vIt vMo la vBy vTy mi vMi pn vPs gn vGs fn vFt le vTo kn fe en ca an co vPr vSt vFn sn vSg vAl dr), (kAI vPs cI 32 qPs)]) hP hD [0, 1] (by decide +kernel) rfl
          exact W.iret (v := (2 * (10 - h1)) + 1) hx₀ hb hr (fun t₀ ht hW => ⟨⟨(2 * (10 - h1)) + 1, (), rfl, (lf_g_angerBy_7 (kP0 qPs p1) (kP1 qPs p1) cl h1 c_1 c_2 c_3 c_5), by rw [ht]; exact hP9, va_K.moved hW.alike hK, hD9⟩, hS.F ht⟩) hS.2.2 dX12_angerBy_74
    · refine lv_iload_n hx₀ hb dX12_angerBy_22 rfl (lv_at hl 4 rfl) ?_
      refine lv_bipush (v := 6) hx₀ hb dX12_angerBy_23 (by decide +kernel) ?_
      refine lv_icmp_le (tgt := 30) hx₀ hb dX12_angerBy_25 (by decide) (fun c_6 => ?_) (fun c_6 => ?_)
      · refine lv_aload_n hx₀ hb dX12_angerBy_30 rfl (lv_at hl 1 rfl) ?_
        refine va_get (D := (dC, dI)) (ci := 11) (v := .ref vPs) (C := RX12) (T := TX12) (N := 30) hx₀ hb hts inlX12 hown hK hP 0 rfl rfl 10 (by decide) (hts (.fieldLink RX12 31 "BittenStickModel" "passenger" "[I") wd_122) (fun _ h9 => h9) rfl dX12_angerBy_31 ?_
        refine lv_iconst (v := 4) hx₀ hb dX12_angerBy_34 (by decide +kernel) ?_
        refine lv_iload_n hx₀ hb dX12_angerBy_35 rfl (lv_at hl 2 rfl) ?_
        refine lv_imul hx₀ hb dX12_angerBy_36 ?_
        refine lv_iconst (v := 1) hx₀ hb dX12_angerBy_37 (by decide +kernel) ?_
        refine lv_iadd hx₀ hb dX12_angerBy_38 ?_
        refine va_iald hx₀ hb hK hP 1 0 rfl rfl (vp_in_iff.mpr (lf_g_angerBy_3 p1 hh0)) dX12_angerBy_39 ?_
        refine k_topi (v := kP1 qPs p1) rfl ?_
        refine lv_iload_n hx₀ hb dX12_angerBy_40 rfl (lv_at hl 3 rfl) ?_
        refine lv_icmp_ne (tgt := 53) hx₀ hb dX12_angerBy_41 (by decide) (fun c_7 => ?_) (fun c_7 => ?_)
        · refine lv_bipush (v := 10) hx₀ hb dX12_angerBy_53 (by decide +kernel) ?_
          refine lv_iload_n hx₀ hb dX12_angerBy_55 rfl (lv_at hl 4 rfl) ?_
          refine lv_isub hx₀ hb dX12_angerBy_56 ?_
          refine lv_istore (lv' := [(5, .int (10 - h1)), (4, .int (kP0 qPs p1)), (0, .ref hm), (1, .int p1), (2, .int cl), (3, .int h1)]) hx₀ hb dX12_angerBy_57 hl (by decide) rfl (fun ls hl => ?_)
          refine lv_iload hx₀ hb dX12_angerBy_59 (lv_at hl 1 rfl) ?_
          refine lv_iconst (v := 2) hx₀ hb dX12_angerBy_61 (by decide +kernel) ?_
          refine lv_icmp_ne (tgt := 72) hx₀ hb dX12_angerBy_62 (by decide) (fun c_8 => ?_) (fun c_8 => ?_)
          · refine lv_iload hx₀ hb dX12_angerBy_72 (lv_at hl 0 rfl) ?_
            obtain ⟨hP9, hD9⟩ := k_c2 (wc := [(kX12 hm vFo vSi vIt vMo la vBy vTy mi vMi pn vPs gn vGs fn vFt le vTo kn fe en ca an co vPr vSt vFn sn vSg vAl dr), (kAI vPs cI 32 qPs)]) hP hD [0, 1] (by decide +kernel) rfl
            exact W.iret (v := 10 - h1) hx₀ hb hr (fun t₀ ht hW => ⟨⟨10 - h1, (), rfl, (lf_g_angerBy_8 (kP0 qPs p1) h1 (kP1 qPs p1) cl c_1 c_2 c_6 c_7 c_8), by rw [ht]; exact hP9, va_K.moved hW.alike hK, hD9⟩, hS.F ht⟩) hS.2.2 dX12_angerBy_74
          · refine lv_iload hx₀ hb dX12_angerBy_65 (lv_at hl 0 rfl) ?_
            refine lv_iconst (v := 1) hx₀ hb dX12_angerBy_67 (by decide +kernel) ?_
            refine lv_iadd hx₀ hb dX12_angerBy_68 ?_
            refine lv_goto (tgt := 74) hx₀ hb dX12_angerBy_69 (by decide) ?_
            obtain ⟨hP9, hD9⟩ := k_c2 (wc := [(kX12 hm vFo vSi vIt vMo la vBy vTy mi vMi pn vPs gn vGs fn vFt le vTo kn fe en ca an co vPr vSt vFn sn vSg vAl dr), (kAI vPs cI 32 qPs)]) hP hD [0, 1] (by decide +kernel) rfl
            exact W.iret (v := (10 - h1) + 1) hx₀ hb hr (fun t₀ ht hW => ⟨⟨(10 - h1) + 1, (), rfl, (lf_g_angerBy_9 (kP0 qPs p1) h1 (kP1 qPs p1) cl c_1 c_2 c_6 c_7 c_8), by rw [ht]; exact hP9, va_K.moved hW.alike hK, hD9⟩, hS.F ht⟩) hS.2.2 dX12_angerBy_74
        · refine lv_iconst (v := 2) hx₀ hb dX12_angerBy_44 (by decide +kernel) ?_
          refine lv_bipush (v := 10) hx₀ hb dX12_angerBy_45 (by decide +kernel) ?_
          refine lv_iload_n hx₀ hb dX12_angerBy_47 rfl (lv_at hl 4 rfl) ?_
          refine lv_isub hx₀ hb dX12_angerBy_48 ?_
          refine lv_imul hx₀ hb dX12_angerBy_49 ?_
          refine lv_goto (tgt := 57) hx₀ hb dX12_angerBy_50 (by decide) ?_
          refine lv_istore (lv' := [(5, .int (2 * (10 - h1))), (4, .int (kP0 qPs p1)), (0, .ref hm), (1, .int p1), (2, .int cl), (3, .int h1)]) hx₀ hb dX12_angerBy_57 hl (by decide) rfl (fun ls hl => ?_)
          refine lv_iload hx₀ hb dX12_angerBy_59 (lv_at hl 1 rfl) ?_
          refine lv_iconst (v := 2) hx₀ hb dX12_angerBy_61 (by decide +kernel) ?_
          refine lv_icmp_ne (tgt := 72) hx₀ hb dX12_angerBy_62 (by decide) (fun c_9 => ?_) (fun c_9 => ?_)
          · refine lv_iload hx₀ hb dX12_angerBy_72 (lv_at hl 0 rfl) ?_
            obtain ⟨hP9, hD9⟩ := k_c2 (wc := [(kX12 hm vFo vSi vIt vMo la vBy vTy mi vMi pn vPs gn vGs fn vFt le vTo kn fe en ca an co vPr vSt vFn sn vSg vAl dr), (kAI vPs cI 32 qPs)]) hP hD [0, 1] (by decide +kernel) rfl
            exact W.iret (v := 2 * (10 - h1)) hx₀ hb hr (fun t₀ ht hW => ⟨⟨2 * (10 - h1), (), rfl, (lf_g_angerBy_10 (kP0 qPs p1) h1 (kP1 qPs p1) cl c_1 c_2 c_6 c_7 c_9), by rw [ht]; exact hP9, va_K.moved hW.alike hK, hD9⟩, hS.F ht⟩) hS.2.2 dX12_angerBy_74
          · refine lv_iload hx₀ hb dX12_angerBy_65 (lv_at hl 0 rfl) ?_
            refine lv_iconst (v := 1) hx₀ hb dX12_angerBy_67 (by decide +kernel) ?_
            refine lv_iadd hx₀ hb dX12_angerBy_68 ?_
            refine lv_goto (tgt := 74) hx₀ hb dX12_angerBy_69 (by decide) ?_
            obtain ⟨hP9, hD9⟩ := k_c2 (wc := [(kX12 hm vFo vSi vIt vMo la vBy vTy mi vMi pn vPs gn vGs fn vFt le vTo kn fe en ca an co vPr vSt vFn sn vSg vAl dr), (kAI vPs cI 32 qPs)]) hP hD [0, 1] (by decide +kernel) rfl
            exact W.iret (v := (2 * (10 - h1)) + 1) hx₀ hb hr (fun t₀ ht hW => ⟨⟨(2 * (10 - h1)) + 1, (), rfl, (lf_g_angerBy_11 (kP0 qPs p1) h1 (kP1 qPs p1) cl c_1 c_2 c_6 c_7 c_9), by rw [ht]; exact hP9, va_K.moved hW.alike hK, hD9⟩, hS.F ht⟩) hS.2.2 dX12_angerBy_74
      · refine lv_iconst (v := 0) hx₀ hb dX12_angerBy_28 (by decide +kernel) ?_
        obtain ⟨hP9, hD9⟩ := k_c2 (wc := [(kX12 hm vFo vSi vIt vMo la vBy vTy mi vMi pn vPs gn vGs fn vFt le vTo kn fe en ca an co vPr vSt vFn sn vSg vAl dr), (kAI vPs cI 32 qPs)]) hP hD [0, 1] (by decide +kernel) rfl
        exact W.iret (v := 0) hx₀ hb hr (fun t₀ ht hW => ⟨⟨0, (), rfl, (lf_g_angerBy_12 (kP0 qPs p1) h1 (kP1 qPs p1) cl c_1 c_2 c_6), by rw [ht]; exact hP9, va_K.moved hW.alike hK, hD9⟩, hS.F ht⟩) hS.2.2 dX12_angerBy_29
theorem lf_g_goes_1 (a0 : Int32) (h0 : 0 ≤ a0 ∧ a0 ≤ 23) : 0 ≤ a0.toInt ∧ a0.toInt < 24 := by
  first | rfl | assumption | decide | exact Or.inl rfl | (first | omega | (have hr0 := Int32.toInt_lt a0; have hs0 := Int32.le_toInt a0; simp only [Int64.toInt_add, Int64.toInt_sub, Int32.toInt_add, Int32.toInt_sub, Int32.toInt_mul, Int64.le_iff_toInt_le, Int64.lt_iff_toInt_lt, Int32.le_iff_toInt_le, Int32.lt_iff_toInt_lt, ← Int32.toInt_inj, ← Int64.toInt_inj, Int32.toInt_toInt64, kc_0, kc_23, kc_24] at *; (first | omega | ((try simp (disch := omega) only [k_bm64] at *); (try simp (disch := omega) only [k_bm] at *); (try simp (disch := omega) only [k_bm] at *); omega) | (simp only [Int.bmod] at *; omega))))
theorem lf_g_goes_2 (a0 : Int32) (h0 : 0 ≤ a0 ∧ a0 ≤ 7) : 0 ≤ ((4 * a0) + 3).toInt ∧ ((4 * a0) + 3).toInt < 32 := by
  first | rfl | assumption | decide | exact Or.inl rfl | (first | omega | (have hr0 := Int32.toInt_lt a0; have hs0 := Int32.le_toInt a0; simp only [Int64.toInt_add, Int64.toInt_sub, Int32.toInt_add, Int32.toInt_sub, Int32.toInt_mul, Int64.le_iff_toInt_le, Int64.lt_iff_toInt_lt, Int32.le_iff_toInt_le, Int32.lt_iff_toInt_lt, ← Int32.toInt_inj, ← Int64.toInt_inj, Int32.toInt_toInt64, kc_0, kc_3, kc_4, kc_7, kc_32] at *; (first | omega | ((try simp (disch := omega) only [k_bm64] at *); (try simp (disch := omega) only [k_bm] at *); (try simp (disch := omega) only [k_bm] at *); omega) | (simp only [Int.bmod] at *; omega))))
theorem lf_g_goes_3 (a0 : Int32) (h0 : 0 ≤ a0 ∧ a0 ≤ 7) : 0 ≤ ((4 * a0) + 2).toInt ∧ ((4 * a0) + 2).toInt < 32 := by
  first | rfl | assumption | decide | exact Or.inl rfl | (first | omega | (have hr0 := Int32.toInt_lt a0; have hs0 := Int32.le_toInt a0; simp only [Int64.toInt_add, Int64.toInt_sub, Int32.toInt_add, Int32.toInt_sub, Int32.toInt_mul, Int64.le_iff_toInt_le, Int64.lt_iff_toInt_lt, Int32.le_iff_toInt_le, Int32.lt_iff_toInt_lt, ← Int32.toInt_inj, ← Int64.toInt_inj, Int32.toInt_toInt64, kc_0, kc_2, kc_4, kc_7, kc_32] at *; (first | omega | ((try simp (disch := omega) only [k_bm64] at *); (try simp (disch := omega) only [k_bm] at *); (try simp (disch := omega) only [k_bm] at *); omega) | (simp only [Int.bmod] at *; omega))))
theorem lf_g_goes_4 (a0 : Int32) (a1 : Nat) (h0 : 0 ≤ a0 ∧ a0 ≤ 2) (h1 : (2 - a0.toInt).toNat = a1) (h2 : ¬ 2 ≤ a0) : 0 ≤ a0.toInt ∧ a0.toInt < 2 := by
  first | rfl | assumption | decide | exact Or.inl rfl | (first | omega | (have hr0 := Int32.toInt_lt a0; have hs0 := Int32.le_toInt a0; simp only [Int64.toInt_add, Int64.toInt_sub, Int32.toInt_add, Int32.toInt_sub, Int32.toInt_mul, Int64.le_iff_toInt_le, Int64.lt_iff_toInt_lt, Int32.le_iff_toInt_le, Int32.lt_iff_toInt_lt, ← Int32.toInt_inj, ← Int64.toInt_inj, Int32.toInt_toInt64, kc_0, kc_2] at *; (first | omega | ((try simp (disch := omega) only [k_bm64] at *); (try simp (disch := omega) only [k_bm] at *); (try simp (disch := omega) only [k_bm] at *); omega) | (simp only [Int.bmod] at *; omega))))
theorem lf_g_goes_5 (a0 : Int32) (h0 : 0 ≤ a0.toInt ∧ a0.toInt ≤ 7) : 0 ≤ (2 * a0).toInt ∧ (2 * a0).toInt < 16 := by
  first | rfl | assumption | decide | exact Or.inl rfl | (first | omega | (have hr0 := Int32.toInt_lt a0; have hs0 := Int32.le_toInt a0; simp only [Int64.toInt_add, Int64.toInt_sub, Int32.toInt_add, Int32.toInt_sub, Int32.toInt_mul, Int64.le_iff_toInt_le, Int64.lt_iff_toInt_lt, Int32.le_iff_toInt_le, Int32.lt_iff_toInt_lt, ← Int32.toInt_inj, ← Int64.toInt_inj, Int32.toInt_toInt64, kc_0, kc_2, kc_7, kc_16] at *; (first | omega | ((try simp (disch := omega) only [k_bm64] at *); (try simp (disch := omega) only [k_bm] at *); (try simp (disch := omega) only [k_bm] at *); omega) | (simp only [Int.bmod] at *; omega))))
theorem lf_g_goes_6 (a0 : Int32) (a1 : Nat) (h0 : 0 ≤ a0 ∧ a0 ≤ 2) (h1 : (2 - a0.toInt).toNat = a1) (h2 : ¬ 2 ≤ a0) : 0 ≤ (a0 + 1) ∧ (a0 + 1) ≤ 2 := by
  first | rfl | assumption | decide | exact Or.inl rfl | (first | omega | (have hr0 := Int32.toInt_lt a0; have hs0 := Int32.le_toInt a0; simp only [Int64.toInt_add, Int64.toInt_sub, Int32.toInt_add, Int32.toInt_sub, Int32.toInt_mul, Int64.le_iff_toInt_le, Int64.lt_iff_toInt_lt, Int32.le_iff_toInt_le, Int32.lt_iff_toInt_lt, ← Int32.toInt_inj, ← Int64.toInt_inj, Int32.toInt_toInt64, kc_0, kc_1, kc_2] at *; (first | omega | ((try simp (disch := omega) only [k_bm64] at *); (try simp (disch := omega) only [k_bm] at *); (try simp (disch := omega) only [k_bm] at *); omega) | (simp only [Int.bmod] at *; omega))))
theorem lf_g_goes_7 (a0 : Int32) (a1 : Nat) (h0 : 0 ≤ a0 ∧ a0 ≤ 2) (h1 : (2 - a0.toInt).toNat = a1) (h2 : ¬ 2 ≤ a0) : (2 - (a0 + 1).toInt).toNat < a1 := by
  first | rfl | assumption | decide | exact Or.inl rfl | (first | omega | (have hr0 := Int32.toInt_lt a0; have hs0 := Int32.le_toInt a0; simp only [Int64.toInt_add, Int64.toInt_sub, Int32.toInt_add, Int32.toInt_sub, Int32.toInt_mul, Int64.le_iff_toInt_le, Int64.lt_iff_toInt_lt, Int32.le_iff_toInt_le, Int32.lt_iff_toInt_lt, ← Int32.toInt_inj, ← Int64.toInt_inj, Int32.toInt_toInt64, kc_0, kc_1, kc_2] at *; (first | omega | ((try simp (disch := omega) only [k_bm64] at *); (try simp (disch := omega) only [k_bm] at *); (try simp (disch := omega) only [k_bm] at *); omega) | (simp only [Int.bmod] at *; omega))))
theorem lf_g_goes_8 (a0 : Int32) (a1 : Int32) (a2 : Int32) (a3 : Nat → Nat → Int32) (a4 : Int32) (a5 : Int32) (a6 : Nat → Nat → Int32) (a7 : Int32) (a8 : Int32) (a9 : Int32) (a10 : Int32) (a11 : Int32) (a12 : Int32) (a13 : Int32) (h0 : 0 ≤ a0 ∧ a0 ≤ 7) (h1 : 0 ≤ a1 ∧ a1 ≤ 23) (h2 : ¬ a2 = 8) (h3 : (a3 0) 1 = a4) (h4 : (a3 1) 1 = a5) (h5 : (a6 0) 0 = (a3 0) 0) (h6 : (a6 1) 0 = (a3 1) 0) (h7 : ¬ a7 < ((a8 + 1) / 2)) (h8 : (a8 / 2) ≤ a9) (h9 : a10 ≤ 5) (h10 : (a11 + 0) ≤ 20) (h11 : ¬ 6 ≤ a2) (h12 : a12 ≤ (5 * a13)) (h13 : a2 = 7) : False := by
  first | rfl | assumption | decide | exact Or.inl rfl | (first | omega | (have hr0 := Int32.toInt_lt a0; have hs0 := Int32.le_toInt a0; have hr1 := Int32.toInt_lt a1; have hs1 := Int32.le_toInt a1; have hr2 := Int32.toInt_lt a2; have hs2 := Int32.le_toInt a2; have hr3 := Int32.toInt_lt a4; have hs3 := Int32.le_toInt a4; have hr4 := Int32.toInt_lt a5; have hs4 := Int32.le_toInt a5; have hr5 := Int32.toInt_lt a7; have hs5 := Int32.le_toInt a7; have hr6 := Int32.toInt_lt a8; have hs6 := Int32.le_toInt a8; have hr7 := Int32.toInt_lt a9; have hs7 := Int32.le_toInt a9; have hr8 := Int32.toInt_lt a10; have hs8 := Int32.le_toInt a10; have hr9 := Int32.toInt_lt a11; have hs9 := Int32.le_toInt a11; have hr10 := Int32.toInt_lt a12; have hs10 := Int32.le_toInt a12; have hr11 := Int32.toInt_lt a13; have hs11 := Int32.le_toInt a13; have hd0 : (0 : Int) ≤ a8.toInt := (by first | omega | (simp only [Int64.toInt_add, Int64.toInt_sub, Int32.toInt_add, Int32.toInt_sub, Int32.toInt_mul, Int64.le_iff_toInt_le, Int64.lt_iff_toInt_lt, Int32.le_iff_toInt_le, Int32.lt_iff_toInt_lt, ← Int32.toInt_inj, ← Int64.toInt_inj, Int32.toInt_toInt64, kc_0, kc_1, kc_2, kc_5, kc_6, kc_7, kc_8, kc_20, kc_23] at *; omega)); have he0 := Int.tdiv_eq_ediv_of_nonneg (b := 2) hd0; simp only [Int64.toInt_add, Int64.toInt_sub, Int32.toInt_add, Int32.toInt_sub, Int32.toInt_mul, Int64.le_iff_toInt_le, Int64.lt_iff_toInt_lt, Int32.le_iff_toInt_le, Int32.lt_iff_toInt_lt, ← Int32.toInt_inj, ← Int64.toInt_inj, Int32.toInt_toInt64, Int32.toInt_div, kc_0, kc_1, kc_2, kc_5, kc_6, kc_7, kc_8, kc_20, kc_23] at *; simp only [he0] at *; (first | omega | ((try simp (disch := omega) only [k_bm64] at *); (try simp (disch := omega) only [k_bm] at *); (try simp (disch := omega) only [k_bm] at *); omega) | (simp only [Int.bmod] at *; omega))))
theorem lf_g_goes_9 (a0 : Int32) (a1 : Int32) (a2 : Int32) (a3 : Nat → Nat → Int32) (a4 : Int32) (a5 : Int32) (a6 : Nat → Nat → Int32) (a7 : Int32) (a8 : Int32) (a9 : Int32) (a10 : Int32) (a11 : Int32) (h0 : 0 ≤ a0 ∧ a0 ≤ 7) (h1 : 0 ≤ a1 ∧ a1 ≤ 23) (h2 : ¬ a2 = 8) (h3 : (a3 0) 1 = a4) (h4 : (a3 1) 1 = a5) (h5 : (a6 0) 0 = (a3 0) 0) (h6 : (a6 1) 0 = (a3 1) 0) (h7 : ¬ a7 < ((a8 + 1) / 2)) (h8 : (a8 / 2) ≤ a9) (h9 : a10 ≤ 5) (h10 : (a11 + 0) ≤ 20) (h11 : ¬ 6 ≤ a2) (h12 : a2 = 7) : False := by
  first | rfl | assumption | decide | exact Or.inl rfl | (first | omega | (have hr0 := Int32.toInt_lt a0; have hs0 := Int32.le_toInt a0; have hr1 := Int32.toInt_lt a1; have hs1 := Int32.le_toInt a1; have hr2 := Int32.toInt_lt a2; have hs2 := Int32.le_toInt a2; have hr3 := Int32.toInt_lt a4; have hs3 := Int32.le_toInt a4; have hr4 := Int32.toInt_lt a5; have hs4 := Int32.le_toInt a5; have hr5 := Int32.toInt_lt a7; have hs5 := Int32.le_toInt a7; have hr6 := Int32.toInt_lt a8; have hs6 := Int32.le_toInt a8; have hr7 := Int32.toInt_lt a9; have hs7 := Int32.le_toInt a9; have hr8 := Int32.toInt_lt a10; have hs8 := Int32.le_toInt a10; have hr9 := Int32.toInt_lt a11; have hs9 := Int32.le_toInt a11; have hd0 : (0 : Int) ≤ a8.toInt := (by first | omega | (simp only [Int64.toInt_add, Int64.toInt_sub, Int32.toInt_add, Int32.toInt_sub, Int32.toInt_mul, Int64.le_iff_toInt_le, Int64.lt_iff_toInt_lt, Int32.le_iff_toInt_le, Int32.lt_iff_toInt_lt, ← Int32.toInt_inj, ← Int64.toInt_inj, Int32.toInt_toInt64, kc_0, kc_1, kc_2, kc_5, kc_6, kc_7, kc_8, kc_20, kc_23] at *; omega)); have he0 := Int.tdiv_eq_ediv_of_nonneg (b := 2) hd0; simp only [Int64.toInt_add, Int64.toInt_sub, Int32.toInt_add, Int32.toInt_sub, Int32.toInt_mul, Int64.le_iff_toInt_le, Int64.lt_iff_toInt_lt, Int32.le_iff_toInt_le, Int32.lt_iff_toInt_lt, ← Int32.toInt_inj, ← Int64.toInt_inj, Int32.toInt_toInt64, Int32.toInt_div, kc_0, kc_1, kc_2, kc_5, kc_6, kc_7, kc_8, kc_20, kc_23] at *; simp only [he0] at *; (first | omega | ((try simp (disch := omega) only [k_bm64] at *); (try simp (disch := omega) only [k_bm] at *); (try simp (disch := omega) only [k_bm] at *); omega) | (simp only [Int.bmod] at *; omega))))
theorem lf_g_goes_10 (a0 : Int32) (a1 : Int32) (a2 : Int32) (a3 : Nat → Nat → Int32) (a4 : Int32) (a5 : Int32) (a6 : Nat → Nat → Int32) (a7 : Int32) (a8 : Int32) (a9 : Int32) (a10 : Int32) (a11 : Int32) (a12 : Int32) (a13 : Int32) (h0 : 0 ≤ a0 ∧ a0 ≤ 7) (h1 : 0 ≤ a1 ∧ a1 ≤ 23) (h2 : ¬ a2 = 8) (h3 : (a3 0) 1 = a4) (h4 : (a3 1) 1 = a5) (h5 : (a6 0) 0 = (a3 0) 0) (h6 : (a6 1) 0 = (a3 1) 0) (h7 : ¬ a7 < ((a8 + 1) / 2)) (h8 : (a8 / 2) ≤ a9) (h9 : ¬ a10 ≤ 5) (h10 : (a11 + (a10 - 5)) ≤ 20) (h11 : ¬ 6 ≤ a2) (h12 : a12 ≤ (5 * a13)) (h13 : a2 = 7) : False := by
  first | rfl | assumption | decide | exact Or.inl rfl | (first | omega | (have hr0 := Int32.toInt_lt a0; have hs0 := Int32.le_toInt a0; have hr1 := Int32.toInt_lt a1; have hs1 := Int32.le_toInt a1; have hr2 := Int32.toInt_lt a2; have hs2 := Int32.le_toInt a2; have hr3 := Int32.toInt_lt a4; have hs3 := Int32.le_toInt a4; have hr4 := Int32.toInt_lt a5; have hs4 := Int32.le_toInt a5; have hr5 := Int32.toInt_lt a7; have hs5 := Int32.le_toInt a7; have hr6 := Int32.toInt_lt a8; have hs6 := Int32.le_toInt a8; have hr7 := Int32.toInt_lt a9; have hs7 := Int32.le_toInt a9; have hr8 := Int32.toInt_lt a10; have hs8 := Int32.le_toInt a10; have hr9 := Int32.toInt_lt a11; have hs9 := Int32.le_toInt a11; have hr10 := Int32.toInt_lt a12; have hs10 := Int32.le_toInt a12; have hr11 := Int32.toInt_lt a13; have hs11 := Int32.le_toInt a13; have hd0 : (0 : Int) ≤ a8.toInt := (by first | omega | (simp only [Int64.toInt_add, Int64.toInt_sub, Int32.toInt_add, Int32.toInt_sub, Int32.toInt_mul, Int64.le_iff_toInt_le, Int64.lt_iff_toInt_lt, Int32.le_iff_toInt_le, Int32.lt_iff_toInt_lt, ← Int32.toInt_inj, ← Int64.toInt_inj, Int32.toInt_toInt64, kc_0, kc_1, kc_2, kc_5, kc_6, kc_7, kc_8, kc_20, kc_23] at *; omega)); have he0 := Int.tdiv_eq_ediv_of_nonneg (b := 2) hd0; simp only [Int64.toInt_add, Int64.toInt_sub, Int32.toInt_add, Int32.toInt_sub, Int32.toInt_mul, Int64.le_iff_toInt_le, Int64.lt_iff_toInt_lt, Int32.le_iff_toInt_le, Int32.lt_iff_toInt_lt, ← Int32.toInt_inj, ← Int64.toInt_inj, Int32.toInt_toInt64, Int32.toInt_div, kc_0, kc_1, kc_2, kc_5, kc_6, kc_7, kc_8, kc_20, kc_23] at *; simp only [he0] at *; (first | omega | ((try simp (disch := omega) only [k_bm64] at *); (try simp (disch := omega) only [k_bm] at *); (try simp (disch := omega) only [k_bm] at *); omega) | (simp only [Int.bmod] at *; omega))))
theorem lf_g_goes_11 (a0 : Int32) (a1 : Int32) (a2 : Int32) (a3 : Nat → Nat → Int32) (a4 : Int32) (a5 : Int32) (a6 : Nat → Nat → Int32) (a7 : Int32) (a8 : Int32) (a9 : Int32) (a10 : Int32) (a11 : Int32) (h0 : 0 ≤ a0 ∧ a0 ≤ 7) (h1 : 0 ≤ a1 ∧ a1 ≤ 23) (h2 : ¬ a2 = 8) (h3 : (a3 0) 1 = a4) (h4 : (a3 1) 1 = a5) (h5 : (a6 0) 0 = (a3 0) 0) (h6 : (a6 1) 0 = (a3 1) 0) (h7 : ¬ a7 < ((a8 + 1) / 2)) (h8 : (a8 / 2) ≤ a9) (h9 : ¬ a10 ≤ 5) (h10 : (a11 + (a10 - 5)) ≤ 20) (h11 : ¬ 6 ≤ a2) (h12 : a2 = 7) : False := by
  first | rfl | assumption | decide | exact Or.inl rfl | (first | omega | (have hr0 := Int32.toInt_lt a0; have hs0 := Int32.le_toInt a0; have hr1 := Int32.toInt_lt a1; have hs1 := Int32.le_toInt a1; have hr2 := Int32.toInt_lt a2; have hs2 := Int32.le_toInt a2; have hr3 := Int32.toInt_lt a4; have hs3 := Int32.le_toInt a4; have hr4 := Int32.toInt_lt a5; have hs4 := Int32.le_toInt a5; have hr5 := Int32.toInt_lt a7; have hs5 := Int32.le_toInt a7; have hr6 := Int32.toInt_lt a8; have hs6 := Int32.le_toInt a8; have hr7 := Int32.toInt_lt a9; have hs7 := Int32.le_toInt a9; have hr8 := Int32.toInt_lt a10; have hs8 := Int32.le_toInt a10; have hr9 := Int32.toInt_lt a11; have hs9 := Int32.le_toInt a11; have hd0 : (0 : Int) ≤ a8.toInt := (by first | omega | (simp only [Int64.toInt_add, Int64.toInt_sub, Int32.toInt_add, Int32.toInt_sub, Int32.toInt_mul, Int64.le_iff_toInt_le, Int64.lt_iff_toInt_lt, Int32.le_iff_toInt_le, Int32.lt_iff_toInt_lt, ← Int32.toInt_inj, ← Int64.toInt_inj, Int32.toInt_toInt64, kc_0, kc_1, kc_2, kc_5, kc_6, kc_7, kc_8, kc_20, kc_23] at *; omega)); have he0 := Int.tdiv_eq_ediv_of_nonneg (b := 2) hd0; simp only [Int64.toInt_add, Int64.toInt_sub, Int32.toInt_add, Int32.toInt_sub, Int32.toInt_mul, Int64.le_iff_toInt_le, Int64.lt_iff_toInt_lt, Int32.le_iff_toInt_le, Int32.lt_iff_toInt_lt, ← Int32.toInt_inj, ← Int64.toInt_inj, Int32.toInt_toInt64, Int32.toInt_div, kc_0, kc_1, kc_2, kc_5, kc_6, kc_7, kc_8, kc_20, kc_23] at *; simp only [he0] at *; (first | omega | ((try simp (disch := omega) only [k_bm64] at *); (try simp (disch := omega) only [k_bm] at *); (try simp (disch := omega) only [k_bm] at *); omega) | (simp only [Int.bmod] at *; omega))))
set_option maxHeartbeats 4000000 in
set_option maxRecDepth 100000 in
theorem g_goes (l : Launch) (dC : Nat → ClassId) (dI : Nat → Nat → Nat) (cI cJ cQ : ClassId) (sz : Nat) (hm : Nat) (p1 : Int32) (m1 : Int32) (h1 : Int32) (vFo : Nat) (vSi : Nat) (vIt : Nat) (vMo : Nat) (la : Int32) (vBy : Nat) (vTy : Nat) (mi : Int32) (vMi : Nat) (pn : Int32) (vPs : Nat) (gn : Int32) (vGs : Nat) (fn : Int32) (vFt : Nat) (le : Int32) (vTo : Nat) (kn : Int32) (fe : Int32) (en : Int32) (ca : Int32) (an : Int32) (co : Int32) (vPr : Nat) (vSt : Nat) (vFn : Nat) (sn : Int32) (vSg : Nat) (vAl : Nat) (dr : Int32) (qMi : Nat → Int32) (qPs : Nat → Int32) (qGs : Nat → Int32) (qPr : Nat → Int32) (qSt : Nat → Int32) (qFn : Nat → Int32) (hh0 : 0 ≤ p1 ∧ p1 ≤ 7) (hh1 : 0 ≤ m1 ∧ m1 ≤ 23) (hh2 : k_bd 2 0 7 qPr) : Met l yX12_goes (kW yX12_goes cX12_goes 7 (some .int)) { frames := 1, cells := 0, slots := 0, locals := 25 } (kPre dC dI cI cJ cQ sz [.ref hm, .int p1, .int m1, .int h1] [(kX12 hm vFo vSi vIt vMo la vBy vTy mi vMi pn vPs gn vGs fn vFt le vTo kn fe en ca an co vPr vSt vFn sn vSg vAl dr), (kAI vMi cI 24 qMi), (kAI vPs cI 32 qPs), (kAI vGs cI 16 qGs), (kAI vPr cI 2 qPr), (kAI vSt cI 2 qSt), (kAI vFn cI 2 qFn)]) (va_Qi (fun (r : Int32) (u : kS) => (k_bd 2 0 7 (u.2.1 0))) (fun (u : kS) t₀ => kB dC dI cI cJ cQ (va_A [(kX12 hm vFo vSi vIt vMo la vBy vTy mi vMi pn vPs gn vGs fn vFt le vTo kn fe en ca an co vPr vSt vFn sn vSg vAl dr), (kAI vMi cI 24 qMi), (kAI vPs cI 32 qPs), (kAI vGs cI 16 qGs), (kAI vPr cI 2 qPr), (kAI vSt cI 2 qSt), (kAI vFn cI 2 qFn)] sz) [(kX12 hm vFo vSi vIt vMo la vBy vTy mi vMi pn vPs gn vGs fn vFt le vTo kn fe en ca (u.1 0) (u.1 1) vPr vSt vFn sn vSg vAl dr), (kAI vMi cI 24 qMi), (kAI vPs cI 32 qPs), (kAI vGs cI 16 qGs), (kAI vPr cI 2 (u.2.1 0)), (kAI vSt cI 2 (u.2.1 1)), (kAI vFn cI 2 (u.2.1 2))] t₀) (va_A [(kX12 hm vFo vSi vIt vMo la vBy vTy mi vMi pn vPs gn vGs fn vFt le vTo kn fe en ca an co vPr vSt vFn sn vSg vAl dr), (kAI vMi cI 24 qMi), (kAI vPs cI 32 qPs), (kAI vGs cI 16 qGs), (kAI vPr cI 2 qPr), (kAI vSt cI 2 qSt), (kAI vFn cI 2 qFn)] sz)) 0 0 (va_A [(kX12 hm vFo vSi vIt vMo la vBy vTy mi vMi pn vPs gn vGs fn vFt le vTo kn fe en ca an co vPr vSt vFn sn vSg vAl dr), (kAI vMi cI 24 qMi), (kAI vPs cI 32 qPs), (kAI vGs cI 16 qGs), (kAI vPr cI 2 qPr), (kAI vSt cI 2 qSt), (kAI vFn cI 2 qFn)] sz) := by
  refine Met.ofW (cc := cX12_goes) (maxL := 7) (ret := (some .int)) (by decide) rfl ?_
  intro p₀ e₀ s₀ m₀ args below meth c₀ s₁ B hml hv₀
  obtain ⟨rfl, hsz, hP, hK, hD0, hN⟩ := hv₀
  have hx₀ := B.exec
  have hb := B.bytes
  have hr := B.returns
  have hts := atoms_spec (ws := (kW yX12_goes cX12_goes 7 (some .int))) B.pre
  have hts := fun w h => hts w (List.mem_cons_of_mem _ h)
  have hown : s₀.vm.findClass RX12 = some m₀.cls := findClass_of_methodNamed B.named
  have hlocks := B.notSynchronized
  subst hsz
  have hD := hD0.self (sz := s₀.heap.size)
  generalize hAe : va_A [(kX12 hm vFo vSi vIt vMo la vBy vTy mi vMi pn vPs gn vGs fn vFt le vTo kn fe en ca an co vPr vSt vFn sn vSg vAl dr), (kAI vMi cI 24 qMi), (kAI vPs cI 32 qPs), (kAI vGs cI 16 qGs), (kAI vPr cI 2 qPr), (kAI vSt cI 2 qSt), (kAI vFn cI 2 qFn)] s₀.heap.size = A at hD ⊢
  have hA : ∀ q : Nat, s₀.heap.size ≤ q → A q := fun q h => by rw [← hAe]; exact Or.inr h
  have hS : va_S A s₀.heap s₀.heap [] := va_S.rf
  have hP : va_P (dC, dI) vwCl [(kX12 hm vFo vSi vIt vMo la vBy vTy mi vMi pn vPs gn vGs fn vFt le vTo kn fe en ca an co vPr vSt vFn sn vSg vAl dr), (kAI vMi cI 24 qMi), (kAI vPs cI 32 qPs), (kAI vGs cI 16 qGs), (kAI vPr cI 2 qPr), (kAI vSt cI 2 qSt), (kAI vFn cI 2 qFn)] s₀.heap := hP
  have hl := lv_entry ([.ref hm, .int p1, .int m1, .int h1]) (n := 7) (Nat.le_of_ble_eq_true rfl)
  rw [lg_entry_eq]
  generalize (lg_sl ([.ref hm, .int p1, .int m1, .int h1]) ++ List.replicate (7 - (lg_sl ([.ref hm, .int p1, .int m1, .int h1])).length) Slot.unset).toArray = ls at hl ⊢
  have hl : lv_has ls 7 [(0, .ref hm), (1, .int p1), (2, .int m1), (3, .int h1)] := hl
  obtain ⟨H, hH⟩ : ∃ z : Heap, z = s₀.heap := ⟨_, rfl⟩
  rw [← hH] at hP
  have hS : va_S A s₀.heap H [] := by rw [hH]; exact hS
  refine k_heap hH ?_
  have hD : va_D A [(kX12 hm vFo vSi vIt vMo la vBy vTy mi vMi pn vPs gn vGs fn vFt le vTo kn fe en ca an co vPr vSt vFn sn vSg vAl dr), (kAI vMi cI 24 qMi), (kAI vPs cI 32 qPs), (kAI vGs cI 16 qGs), (kAI vPr cI 2 qPr), (kAI vSt cI 2 qSt), (kAI vFn cI 2 qFn)] := hD
  obtain ⟨locs, hlo⟩ : ∃ z : List Loc, z = [] := ⟨_, rfl⟩
  rw [← hlo] at hS ⊢
  clear hlo hH hAe hD0
  refine lv_aload_n hx₀ hb dX12_goes_0 rfl (lv_at hl 0 rfl) ?_
  refine va_get (D := (dC, dI)) (ci := 11) (v := .ref vMi) (C := RX12) (T := TX12) (N := 30) hx₀ hb hts inlX12 hown hK hP 0 rfl rfl 8 (by decide) (hts (.fieldLink RX12 28 "BittenStickModel" "mile" "[I") wd_121) (fun _ h9 => h9) rfl dX12_goes_1 ?_
  refine lv_iload_n hx₀ hb dX12_goes_4 rfl (lv_at hl 2 rfl) ?_
  refine va_iald hx₀ hb hK hP 1 0 rfl rfl (vp_in_iff.mpr (lf_g_goes_1 m1 hh1)) dX12_goes_5 ?_
  refine lv_topi (fun y_1 ey_1 => ?_)
  refine lv_istore (lv' := [(4, .int y_1), (0, .ref hm), (1, .int p1), (2, .int m1), (3, .int h1)]) hx₀ hb dX12_goes_6 hl (by decide) rfl (fun ls hl => ?_)
  refine lv_iload hx₀ hb dX12_goes_8 (lv_at hl 0 rfl) ?_
  refine lv_bipush (v := 8) hx₀ hb dX12_goes_10 (by decide +kernel) ?_
  refine lv_icmp_ne (tgt := 19) hx₀ hb dX12_goes_12 (by decide) (fun c_2 => ?_) (fun c_2 => ?_)
  · refine lv_aload_n hx₀ hb dX12_goes_19 rfl (lv_at hl 1 rfl) ?_
    refine lv_iconst (v := 0) hx₀ hb dX12_goes_20 (by decide +kernel) ?_
    obtain ⟨hPc, hDc, hFc, hC⟩ := k_cw (wc := [(kX12 hm vFo vSi vIt vMo la vBy vTy mi vMi pn vPs gn vGs fn vFt le vTo kn fe en ca an co vPr vSt vFn sn vSg vAl dr), (kAI vGs cI 16 qGs), (kAI vPr cI 2 qPr), (kAI vSt cI 2 qSt), (kAI vFn cI 2 qFn)]) hP hD hS hA [0, 3, 4, 5, 6] (by decide +kernel) rfl
    refine va_callv (va_runV (As := [.int 0]) (rest := []) ⟨hx₀, hb, hml, hown, hts⟩ (g_tires0 l dC dI cI cJ cQ H.size hm vFo vSi vIt vMo la vBy vTy mi vMi pn vPs gn vGs fn vFt le vTo kn fe en ca an co vPr vSt vFn sn vSg vAl dr qGs qPr qSt qFn (hh2)) (cwV 1 hts (kGV wd_557 wd_554 wd_555 wd_556 wd_5) rfl rfl rfl (by decide +kernel) ⟨Nat.le_of_ble_eq_true rfl, Nat.le_of_ble_eq_true rfl⟩) (k_preV11 (q0 := 0) hK hPc hDc hN rfl) rfl rfl hl.1 rfl (lv_room (Nat.le_of_ble_eq_true rfl)) dX12_goes_21 ⟨by decide +kernel, by decide +kernel⟩) hS (fun q _ h => hFc q h) hFc (fun u₀ t₀ H1 locs ht hvm hw hB hz1 hk1 hS => ?_)
    obtain ⟨g_4, ga_5, gl_6, gb_7, gp_8⟩ := u₀
    obtain ⟨hP1, hK1, hD1⟩ := hB
    rw [ht] at hP1
    have hJ := k_jn (wr := [(kAI vMi cI 24 qMi), (kAI vPs cI 32 qPs)]) (wt := [(kAI vMi cI 24 qMi), (kAI vPs cI 32 qPs), (kX12 hm vFo vSi vIt vMo la vBy vTy mi vMi pn vPs gn vGs fn vFt le vTo kn fe en ca an co vPr vSt vFn sn vSg vAl dr), (kAI vGs cI 16 qGs), (kAI vPr cI 2 qPr), (kAI vSt cI 2 (ga_5 0)), (kAI vFn cI 2 (ga_5 1))]) hP hD hC [1, 2] rfl (by decide +kernel) (by decide +kernel) hk1 hFc hP1 hD1 rfl
    clear hP hD hPc hDc hFc hC hP1 hD1 hK1 hz1 hk1 hvm ht
    obtain ⟨hP, hD⟩ := hJ
    generalize H1 = H at hP hS ⊢
    try dsimp only at hw
    obtain ⟨c_9, c_10, c_11, c_12⟩ := hw
    refine lv_aload_n hx₀ hb dX12_goes_24 rfl (lv_at hl 1 rfl) ?_
    refine lv_iconst (v := 1) hx₀ hb dX12_goes_25 (by decide +kernel) ?_
    obtain ⟨hPc, hDc, hFc, hC⟩ := k_cw (wc := [(kX12 hm vFo vSi vIt vMo la vBy vTy mi vMi pn vPs gn vGs fn vFt le vTo kn fe en ca an co vPr vSt vFn sn vSg vAl dr), (kAI vGs cI 16 qGs), (kAI vPr cI 2 qPr), (kAI vSt cI 2 (ga_5 0)), (kAI vFn cI 2 (ga_5 1))]) hP hD hS hA [2, 3, 4, 5, 6] (by decide +kernel) rfl
    refine va_callv (va_runV (As := [.int 1]) (rest := []) ⟨hx₀, hb, hml, hown, hts⟩ (g_tires1 l dC dI cI cJ cQ H.size hm vFo vSi vIt vMo la vBy vTy mi vMi pn vPs gn vGs fn vFt le vTo kn fe en ca an co vPr vSt vFn sn vSg vAl dr qGs qPr (ga_5 0) (ga_5 1) (hh2)) (cwV 1 hts (kGV wd_557 wd_554 wd_555 wd_556 wd_5) rfl rfl rfl (by decide +kernel) ⟨Nat.le_of_ble_eq_true rfl, Nat.le_of_ble_eq_true rfl⟩) (k_preV11 (q0 := 0) hK hPc hDc hN rfl) rfl rfl hl.1 rfl (lv_room (Nat.le_of_ble_eq_true rfl)) dX12_goes_26 ⟨by decide +kernel, by decide +kernel⟩) hS (fun q _ h => hFc q h) hFc (fun u₀ t₀ H1 locs ht hvm hw hB hz1 hk1 hS => ?_)
    obtain ⟨g_14, ga_15, gl_16, gb_17, gp_18⟩ := u₀
    obtain ⟨hP1, hK1, hD1⟩ := hB
    rw [ht] at hP1
    have hJ := k_jn (wr := [(kAI vMi cI 24 qMi), (kAI vPs cI 32 qPs)]) (wt := [(kAI vMi cI 24 qMi), (kAI vPs cI 32 qPs), (kX12 hm vFo vSi vIt vMo la vBy vTy mi vMi pn vPs gn vGs fn vFt le vTo kn fe en ca an co vPr vSt vFn sn vSg vAl dr), (kAI vGs cI 16 qGs), (kAI vPr cI 2 qPr), (kAI vSt cI 2 (ga_15 0)), (kAI vFn cI 2 (ga_15 1))]) hP hD hC [0, 1] rfl (by decide +kernel) (by decide +kernel) hk1 hFc hP1 hD1 rfl
    clear hP hD hPc hDc hFc hC hP1 hD1 hK1 hz1 hk1 hvm ht
    obtain ⟨hP, hD⟩ := hJ
    generalize H1 = H at hP hS ⊢
    try dsimp only at hw
    obtain ⟨c_19, c_20, c_21, c_22⟩ := hw
    refine lv_aload_n hx₀ hb dX12_goes_29 rfl (lv_at hl 1 rfl) ?_
    refine va_get (D := (dC, dI)) (ci := 11) (v := .ref vPs) (C := RX12) (T := TX12) (N := 30) hx₀ hb hts inlX12 hown hK hP 2 rfl rfl 10 (by decide) (hts (.fieldLink RX12 31 "BittenStickModel" "passenger" "[I") wd_122) (fun _ h9 => h9) rfl dX12_goes_30 ?_
    refine lv_iconst (v := 4) hx₀ hb dX12_goes_33 (by decide +kernel) ?_
    refine lv_iload_n hx₀ hb dX12_goes_34 rfl (lv_at hl 2 rfl) ?_
    refine lv_imul hx₀ hb dX12_goes_35 ?_
    refine lv_iconst (v := 3) hx₀ hb dX12_goes_36 (by decide +kernel) ?_
    refine lv_iadd hx₀ hb dX12_goes_37 ?_
    refine va_iald hx₀ hb hK hP 1 0 rfl rfl (vp_in_iff.mpr (lf_g_goes_2 p1 hh0)) dX12_goes_38 ?_
    refine lv_topi (fun y_23 ey_23 => ?_)
    refine lv_istore (lv' := [(5, .int y_23), (4, .int y_1), (0, .ref hm), (1, .int p1), (2, .int m1), (3, .int h1)]) hx₀ hb dX12_goes_39 hl (by decide) rfl (fun ls hl => ?_)
    refine lv_aload_n hx₀ hb dX12_goes_41 rfl (lv_at hl 2 rfl) ?_
    refine va_get (D := (dC, dI)) (ci := 11) (v := .ref vSt) (C := RX12) (T := TX12) (N := 30) hx₀ hb hts inlX12 hown hK hP 2 rfl rfl 24 (by decide) (hts (.fieldLink RX12 46 "BittenStickModel" "strong" "[I") wd_127) (fun _ h9 => h9) rfl dX12_goes_42 ?_
    refine lv_iconst (v := 0) hx₀ hb dX12_goes_45 (by decide +kernel) ?_
    refine va_iald hx₀ hb hK hP 5 0 rfl rfl (by unfold vp_in; decide +kernel) dX12_goes_46 ?_
    refine lv_topi (fun y_24 ey_24 => ?_)
    refine lv_iload hx₀ hb dX12_goes_47 (lv_at hl 0 rfl) ?_
    refine lv_iconst (v := 1) hx₀ hb dX12_goes_49 (by decide +kernel) ?_
    refine lv_iadd hx₀ hb dX12_goes_50 ?_
    refine lv_iconst (v := 2) hx₀ hb dX12_goes_51 (by decide +kernel) ?_
    refine lv_idiv hx₀ hb dX12_goes_52 (by decide +kernel) ?_
    refine lv_icmp_lt (tgt := 69) hx₀ hb dX12_goes_53 (by decide) (fun c_25 => ?_) (fun c_25 => ?_)
    · refine lv_iconst (v := 1) hx₀ hb dX12_goes_69 (by decide +kernel) ?_
      obtain ⟨hP9, hD9⟩ := k_c2 (wc := [(kX12 hm vFo vSi vIt vMo la vBy vTy mi vMi pn vPs gn vGs fn vFt le vTo kn fe en ca an co vPr vSt vFn sn vSg vAl dr), (kAI vMi cI 24 qMi), (kAI vPs cI 32 qPs), (kAI vGs cI 16 qGs), (kAI vPr cI 2 qPr), (kAI vSt cI 2 (ga_15 0)), (kAI vFn cI 2 (ga_15 1))]) hP hD [2, 0, 1, 3, 4, 5, 6] (by decide +kernel) rfl
      exact W.iret (v := 1) hx₀ hb hr (fun t₀ ht hW => ⟨⟨1, (k_fn [an, co], k_fa [qPr, ga_15 0, ga_15 1], k_fl [], k_fL [], k_fp []), rfl, hh2, by rw [ht]; exact hP9, va_K.moved hW.alike hK, hD9⟩, hS.F ht⟩) hS.2.2 dX12_goes_70
    · refine lv_aload_n hx₀ hb dX12_goes_56 rfl (lv_at hl 2 rfl) ?_
      refine va_get (D := (dC, dI)) (ci := 11) (v := .ref vSt) (C := RX12) (T := TX12) (N := 30) hx₀ hb hts inlX12 hown hK hP 2 rfl rfl 24 (by decide) (hts (.fieldLink RX12 46 "BittenStickModel" "strong" "[I") wd_127) (fun _ h9 => h9) rfl dX12_goes_57 ?_
      refine lv_iconst (v := 1) hx₀ hb dX12_goes_60 (by decide +kernel) ?_
      refine va_iald hx₀ hb hK hP 5 0 rfl rfl (by unfold vp_in; decide +kernel) dX12_goes_61 ?_
      refine lv_topi (fun y_26 ey_26 => ?_)
      refine lv_iload hx₀ hb dX12_goes_62 (lv_at hl 0 rfl) ?_
      refine lv_iconst (v := 2) hx₀ hb dX12_goes_64 (by decide +kernel) ?_
      refine lv_idiv hx₀ hb dX12_goes_65 (by decide +kernel) ?_
      refine lv_icmp_ge (tgt := 71) hx₀ hb dX12_goes_66 (by decide) (fun c_27 => ?_) (fun c_27 => ?_)
      · refine lv_aload_n hx₀ hb dX12_goes_71 rfl (lv_at hl 2 rfl) ?_
        refine lv_dup hx₀ hb dX12_goes_72 rfl ?_
        refine va_get (D := (dC, dI)) (ci := 11) (v := .int co) (C := RX12) (T := TX12) (N := 30) hx₀ hb hts inlX12 hown hK hP 2 rfl rfl 22 (by decide) (hts (.fieldLink RX12 177 "BittenStickModel" "cold" "I") wd_545) (fun _ h9 => h9) rfl dX12_goes_73 ?_
        refine lv_iload_n hx₀ hb dX12_goes_76 rfl (lv_at hl 5 rfl) ?_
        refine lv_iconst (v := 5) hx₀ hb dX12_goes_77 (by decide +kernel) ?_
        refine lv_icmp_le (tgt := 87) hx₀ hb dX12_goes_78 (by decide) (fun c_28 => ?_) (fun c_28 => ?_)
        · refine lv_iconst (v := 0) hx₀ hb dX12_goes_87 (by decide +kernel) ?_
          refine lv_iadd hx₀ hb dX12_goes_88 ?_
          refine va_put (D := (dC, dI)) (ci := 11) (v := .int (co + 0)) (ty := .int) (C := RX12) (T := TX12) (N := 30) hx₀ hb hts inlX12 tyX12 tyX12_ok nmX12 hown hK hP hD hS 2 rfl rfl 22 (by decide) (hts (.fieldLink RX12 177 "BittenStickModel" "cold" "I") wd_545) (fun _ h9 => h9) rfl (by decide +kernel) rfl rfl (Nat.le_of_ble_eq_true rfl) dX12_goes_89 ?_
          clear hP hD hS
          intro H locs hP hD hS
          replace hP := k_w2 (wt := [(kAI vMi cI 24 qMi), (kAI vPs cI 32 qPs), (kX12 hm vFo vSi vIt vMo la vBy vTy mi vMi pn vPs gn vGs fn vFt le vTo kn fe en ca an (co + 0) vPr vSt vFn sn vSg vAl dr), (kAI vGs cI 16 qGs), (kAI vPr cI 2 qPr), (kAI vSt cI 2 (ga_15 0)), (kAI vFn cI 2 (ga_15 1))]) hP hD rfl
          replace hD := hP.2
          replace hP := hP.1
          refine lv_aload_n hx₀ hb dX12_goes_92 rfl (lv_at hl 2 rfl) ?_
          refine va_get (D := (dC, dI)) (ci := 11) (v := .int (co + 0)) (C := RX12) (T := TX12) (N := 30) hx₀ hb hts inlX12 hown hK hP 2 rfl rfl 22 (by decide) (hts (.fieldLink RX12 177 "BittenStickModel" "cold" "I") wd_545) (fun _ h9 => h9) rfl dX12_goes_93 ?_
          refine lv_bipush (v := 20) hx₀ hb dX12_goes_96 (by decide +kernel) ?_
          refine lv_icmp_le (tgt := 103) hx₀ hb dX12_goes_98 (by decide) (fun c_29 => ?_) (fun c_29 => ?_)
          · refine lv_iload hx₀ hb dX12_goes_103 (lv_at hl 1 rfl) ?_
            refine lv_bipush (v := 6) hx₀ hb dX12_goes_105 (by decide +kernel) ?_
            refine lv_icmp_ge (tgt := 150) hx₀ hb dX12_goes_107 (by decide) (fun c_30 => ?_) (fun c_30 => ?_)
            · refine lv_aload_n hx₀ hb dX12_goes_150 rfl (lv_at hl 2 rfl) ?_
              refine va_get (D := (dC, dI)) (ci := 11) (v := .int an) (C := RX12) (T := TX12) (N := 30) hx₀ hb hts inlX12 hown hK hP 2 rfl rfl 21 (by decide) (hts (.fieldLink RX12 184 "BittenStickModel" "anger" "I") wd_544) (fun _ h9 => h9) rfl dX12_goes_151 ?_
              refine lv_iconst (v := 5) hx₀ hb dX12_goes_154 (by decide +kernel) ?_
              refine lv_aload_n hx₀ hb dX12_goes_155 rfl (lv_at hl 2 rfl) ?_
              refine va_get (D := (dC, dI)) (ci := 11) (v := .ref vPs) (C := RX12) (T := TX12) (N := 30) hx₀ hb hts inlX12 hown hK hP 2 rfl rfl 10 (by decide) (hts (.fieldLink RX12 31 "BittenStickModel" "passenger" "[I") wd_122) (fun _ h9 => h9) rfl dX12_goes_156 ?_
              refine lv_iconst (v := 4) hx₀ hb dX12_goes_159 (by decide +kernel) ?_
              refine lv_iload_n hx₀ hb dX12_goes_160 rfl (lv_at hl 3 rfl) ?_
              refine lv_imul hx₀ hb dX12_goes_161 ?_
              refine lv_iconst (v := 2) hx₀ hb dX12_goes_162 (by decide +kernel) ?_
              refine lv_iadd hx₀ hb dX12_goes_163 ?_
              refine va_iald hx₀ hb hK hP 1 0 rfl rfl (vp_in_iff.mpr (lf_g_goes_3 p1 hh0)) dX12_goes_164 ?_
              refine lv_topi (fun y_31 ey_31 => ?_)
              refine lv_imul hx₀ hb dX12_goes_165 ?_
              refine lv_icmp_le (tgt := 171) hx₀ hb dX12_goes_166 (by decide) (fun c_32 => ?_) (fun c_32 => ?_)
              · refine lv_iload hx₀ hb dX12_goes_171 (lv_at hl 1 rfl) ?_
                refine lv_bipush (v := 7) hx₀ hb dX12_goes_173 (by decide +kernel) ?_
                refine lv_icmp_ne (tgt := 242) hx₀ hb dX12_goes_175 (by decide) (fun c_33 => ?_) (fun c_33 => ?_)
                · refine lv_iconst (v := 0) hx₀ hb dX12_goes_242 (by decide +kernel) ?_
                  obtain ⟨hP9, hD9⟩ := k_c2 (wc := [(kX12 hm vFo vSi vIt vMo la vBy vTy mi vMi pn vPs gn vGs fn vFt le vTo kn fe en ca an (co + 0) vPr vSt vFn sn vSg vAl dr), (kAI vMi cI 24 qMi), (kAI vPs cI 32 qPs), (kAI vGs cI 16 qGs), (kAI vPr cI 2 qPr), (kAI vSt cI 2 (ga_15 0)), (kAI vFn cI 2 (ga_15 1))]) hP hD [2, 0, 1, 3, 4, 5, 6] (by decide +kernel) rfl
                  exact W.iret (v := 0) hx₀ hb hr (fun t₀ ht hW => ⟨⟨0, (k_fn [an, (co + 0)], k_fa [qPr, ga_15 0, ga_15 1], k_fl [], k_fL [], k_fp []), rfl, hh2, by rw [ht]; exact hP9, va_K.moved hW.alike hK, hD9⟩, hS.F ht⟩) hS.2.2 dX12_goes_243
                · refine lv_aload_n hx₀ hb dX12_goes_178 rfl (lv_at hl 2 rfl) ?_
                  refine lv_iconst (v := 0) hx₀ hb dX12_goes_179 (by decide +kernel) ?_
                  refine va_put (D := (dC, dI)) (ci := 11) (v := .int 0) (ty := .int) (C := RX12) (T := TX12) (N := 30) hx₀ hb hts inlX12 tyX12 tyX12_ok nmX12 hown hK hP hD hS 2 rfl rfl 21 (by decide) (hts (.fieldLink RX12 184 "BittenStickModel" "anger" "I") wd_544) (fun _ h9 => h9) rfl (by decide +kernel) rfl rfl (Nat.le_of_ble_eq_true rfl) dX12_goes_180 ?_
                  clear hP hD hS
                  intro H locs hP hD hS
                  replace hP := k_w2 (wt := [(kAI vMi cI 24 qMi), (kAI vPs cI 32 qPs), (kX12 hm vFo vSi vIt vMo la vBy vTy mi vMi pn vPs gn vGs fn vFt le vTo kn fe en ca 0 (co + 0) vPr vSt vFn sn vSg vAl dr), (kAI vGs cI 16 qGs), (kAI vPr cI 2 qPr), (kAI vSt cI 2 (ga_15 0)), (kAI vFn cI 2 (ga_15 1))]) hP hD rfl
                  replace hD := hP.2
                  replace hP := hP.1
                  refine lv_aload_n hx₀ hb dX12_goes_183 rfl (lv_at hl 2 rfl) ?_
                  refine lv_iconst (v := 0) hx₀ hb dX12_goes_184 (by decide +kernel) ?_
                  refine va_put (D := (dC, dI)) (ci := 11) (v := .int 0) (ty := .int) (C := RX12) (T := TX12) (N := 30) hx₀ hb hts inlX12 tyX12 tyX12_ok nmX12 hown hK hP hD hS 2 rfl rfl 22 (by decide) (hts (.fieldLink RX12 177 "BittenStickModel" "cold" "I") wd_545) (fun _ h9 => h9) rfl (by decide +kernel) rfl rfl (Nat.le_of_ble_eq_true rfl) dX12_goes_185 ?_
                  clear hP hD hS
                  intro H locs hP hD hS
                  replace hP := k_w2 (wt := [(kAI vMi cI 24 qMi), (kAI vPs cI 32 qPs), (kX12 hm vFo vSi vIt vMo la vBy vTy mi vMi pn vPs gn vGs fn vFt le vTo kn fe en ca 0 0 vPr vSt vFn sn vSg vAl dr), (kAI vGs cI 16 qGs), (kAI vPr cI 2 qPr), (kAI vSt cI 2 (ga_15 0)), (kAI vFn cI 2 (ga_15 1))]) hP hD rfl
                  replace hD := hP.2
                  replace hP := hP.1
                  refine lv_iconst (v := 0) hx₀ hb dX12_goes_188 (by decide +kernel) ?_
                  refine lv_istore (lv' := [(6, .int 0), (5, .int y_23), (4, .int y_1), (0, .ref hm), (1, .int p1), (2, .int m1), (3, .int h1)]) hx₀ hb dX12_goes_189 hl (by decide) rfl (fun ls hl => ?_)
                  refine (?keyz34 : ∀ (jz34 : Nat) (iz34 : Int32) (qsz34 : Nat → Int32) (H : Heap) (locs : List Loc) (ls : Array Slot), (0 ≤ iz34 ∧ iz34 ≤ 2) → ((2 - iz34.toInt).toNat = jz34) → va_P (dC, dI) vwCl [(kAI vMi cI 24 qMi), (kAI vPs cI 32 qPs), (kX12 hm vFo vSi vIt vMo la vBy vTy mi vMi pn vPs gn vGs fn vFt le vTo kn fe en ca 0 0 vPr vSt vFn sn vSg vAl dr), (kAI vGs cI 16 qGs), (kAI vPr cI 2 qPr), (kAI vSt cI 2 qsz34), (kAI vFn cI 2 (ga_15 1))] H → va_D A [(kAI vMi cI 24 qMi), (kAI vPs cI 32 qPs), (kX12 hm vFo vSi vIt vMo la vBy vTy mi vMi pn vPs gn vGs fn vFt le vTo kn fe en ca 0 0 vPr vSt vFn sn vSg vAl dr), (kAI vGs cI 16 qGs), (kAI vPr cI 2 qPr), (kAI vSt cI 2 qsz34), (kAI vFn cI 2 (ga_15 1))] → va_S A s₀.heap H locs → lv_has ls 7 [(6, .int iz34), (5, .int y_23), (4, .int y_1), (0, .ref hm), (1, .int p1), (2, .int m1), (3, .int h1)] → W p₀ l e₀ _ s₀ m₀ _ below meth c₀ H locs _ _ _ (F0 m₀ 191 ls [])) _ (0 : Int32) _ H locs ls (show 0 ≤ (0 : Int32) ∧ (0 : Int32) ≤ 2 from ⟨(by decide), (by decide)⟩) rfl hP hD hS hl
                  clear hP hD hS hl
                  intro jz34
                  induction jz34 using Nat.strongRecOn with
                  | ind jz34 ihz34 =>
                    intro iz34 qsz34 H locs ls hiz34_0 hjz34 hP hD hS hl
                    refine lv_iload hx₀ hb dX12_goes_191 (lv_at hl 0 rfl) ?_
                    refine lv_iconst (v := 2) hx₀ hb dX12_goes_193 (by decide +kernel) ?_
                    refine lv_icmp_ge (tgt := 242) hx₀ hb dX12_goes_194 (by decide) (fun c_35 => ?_) (fun c_35 => ?_)
                    · refine lv_iconst (v := 0) hx₀ hb dX12_goes_242 (by decide +kernel) ?_
                      obtain ⟨hP9, hD9⟩ := k_c2 (wc := [(kX12 hm vFo vSi vIt vMo la vBy vTy mi vMi pn vPs gn vGs fn vFt le vTo kn fe en ca 0 0 vPr vSt vFn sn vSg vAl dr), (kAI vMi cI 24 qMi), (kAI vPs cI 32 qPs), (kAI vGs cI 16 qGs), (kAI vPr cI 2 qPr), (kAI vSt cI 2 qsz34), (kAI vFn cI 2 (ga_15 1))]) hP hD [2, 0, 1, 3, 4, 5, 6] (by decide +kernel) rfl
                      exact W.iret (v := 0) hx₀ hb hr (fun t₀ ht hW => ⟨⟨0, (k_fn [(0 : Int32), (0 : Int32)], k_fa [qPr, qsz34, ga_15 1], k_fl [], k_fL [], k_fp []), rfl, hh2, by rw [ht]; exact hP9, va_K.moved hW.alike hK, hD9⟩, hS.F ht⟩) hS.2.2 dX12_goes_243
                    · refine lv_aload_n hx₀ hb dX12_goes_197 rfl (lv_at hl 3 rfl) ?_
                      refine va_get (D := (dC, dI)) (ci := 11) (v := .ref vSt) (C := RX12) (T := TX12) (N := 30) hx₀ hb hts inlX12 hown hK hP 2 rfl rfl 24 (by decide) (hts (.fieldLink RX12 46 "BittenStickModel" "strong" "[I") wd_127) (fun _ h9 => h9) rfl dX12_goes_198 ?_
                      refine lv_iload hx₀ hb dX12_goes_201 (lv_at hl 0 rfl) ?_
                      refine lv_dup2_11 hx₀ hb dX12_goes_203 rfl rfl ?_
                      refine va_iald hx₀ hb hK hP 5 0 rfl rfl (vp_in_iff.mpr (lf_g_goes_4 iz34 jz34 hiz34_0 hjz34 c_35)) dX12_goes_204 ?_
                      refine lv_topi (fun y_36 ey_36 => ?_)
                      refine lv_aload_n hx₀ hb dX12_goes_205 rfl (lv_at hl 3 rfl) ?_
                      refine va_get (D := (dC, dI)) (ci := 11) (v := .ref vSt) (C := RX12) (T := TX12) (N := 30) hx₀ hb hts inlX12 hown hK hP 2 rfl rfl 24 (by decide) (hts (.fieldLink RX12 46 "BittenStickModel" "strong" "[I") wd_127) (fun _ h9 => h9) rfl dX12_goes_206 ?_
                      refine lv_iload hx₀ hb dX12_goes_209 (lv_at hl 0 rfl) ?_
                      refine va_iald hx₀ hb hK hP 5 0 rfl rfl (vp_in_iff.mpr (lf_g_goes_4 iz34 jz34 hiz34_0 hjz34 c_35)) dX12_goes_211 ?_
                      refine k_topi (v := y_36) ey_36.symm ?_
                      refine lv_aload_n hx₀ hb dX12_goes_212 rfl (lv_at hl 3 rfl) ?_
                      refine va_get (D := (dC, dI)) (ci := 11) (v := .ref vGs) (C := RX12) (T := TX12) (N := 30) hx₀ hb hts inlX12 hown hK hP 2 rfl rfl 12 (by decide) (hts (.fieldLink RX12 34 "BittenStickModel" "goose" "[I") wd_123) (fun _ h9 => h9) rfl dX12_goes_213 ?_
                      refine lv_iconst (v := 2) hx₀ hb dX12_goes_216 (by decide +kernel) ?_
                      refine lv_aload_n hx₀ hb dX12_goes_217 rfl (lv_at hl 3 rfl) ?_
                      refine va_get (D := (dC, dI)) (ci := 11) (v := .ref vPr) (C := RX12) (T := TX12) (N := 30) hx₀ hb hts inlX12 hown hK hP 2 rfl rfl 23 (by decide) (hts (.fieldLink RX12 43 "BittenStickModel" "pair" "[I") wd_126) (fun _ h9 => h9) rfl dX12_goes_218 ?_
                      refine lv_iload hx₀ hb dX12_goes_221 (lv_at hl 0 rfl) ?_
                      refine va_iald hx₀ hb hK hP 4 0 rfl rfl (vp_in_iff.mpr (lf_g_goes_4 iz34 jz34 hiz34_0 hjz34 c_35)) dX12_goes_223 ?_
                      refine lv_topi (fun y_37 ey_37 => ?_)
                      have c_38 : 0 ≤ y_37.toInt ∧ y_37.toInt ≤ 7 := by rw [ey_37]; exact k_bd_at hh2 (vp_in_iff.mpr (lf_g_goes_4 iz34 jz34 hiz34_0 hjz34 c_35))
                      refine lv_imul hx₀ hb dX12_goes_224 ?_
                      refine va_iald hx₀ hb hK hP 3 0 rfl rfl (vp_in_iff.mpr (lf_g_goes_5 y_37 c_38)) dX12_goes_225 ?_
                      refine lv_topi (fun y_39 ey_39 => ?_)
                      refine lv_icmp_ge (tgt := 233) hx₀ hb dX12_goes_226 (by decide) (fun c_40 => ?_) (fun c_40 => ?_)
                      · refine lv_iconst (v := 0) hx₀ hb dX12_goes_233 (by decide +kernel) ?_
                        refine lv_iadd hx₀ hb dX12_goes_234 ?_
                        refine va_iast hx₀ hb hK hP hD hS 5 0 rfl rfl (vp_in_iff.mpr (lf_g_goes_4 iz34 jz34 hiz34_0 hjz34 c_35)) dX12_goes_235 ?_
                        clear hP hD hS
                        intro H locs hP hD hS
                        obtain ⟨f_41, hf_41⟩ : ∃ z : Nat → Int32, z = upd qsz34 iz34.toNatClampNeg (y_36 + 0) := ⟨_, rfl⟩
                        replace hP : va_P (dC, dI) vwCl [(kAI vMi cI 24 qMi), (kAI vPs cI 32 qPs), (kX12 hm vFo vSi vIt vMo la vBy vTy mi vMi pn vPs gn vGs fn vFt le vTo kn fe en ca 0 0 vPr vSt vFn sn vSg vAl dr), (kAI vGs cI 16 qGs), (kAI vPr cI 2 qPr), (kAI vSt cI 2 f_41), (kAI vFn cI 2 (ga_15 1))] H := by rw [hf_41]; exact hP
                        replace hD : va_D A [(kAI vMi cI 24 qMi), (kAI vPs cI 32 qPs), (kX12 hm vFo vSi vIt vMo la vBy vTy mi vMi pn vPs gn vGs fn vFt le vTo kn fe en ca 0 0 vPr vSt vFn sn vSg vAl dr), (kAI vGs cI 16 qGs), (kAI vPr cI 2 qPr), (kAI vSt cI 2 f_41), (kAI vFn cI 2 (ga_15 1))] := by rw [hf_41]; exact hD
                        clear hf_41
                        refine lv_iinc (v := iz34 + 1) (lv' := [(6, .int (iz34 + 1)), (5, .int y_23), (4, .int y_1), (0, .ref hm), (1, .int p1), (2, .int m1), (3, .int h1)]) hx₀ hb dX12_goes_236 hl (k := 0) rfl rfl (by decide) rfl (fun ls hl => ?_)
                        refine lv_goto (tgt := 191) hx₀ hb dX12_goes_239 (by decide) ?_
                        exact ihz34 _ (lf_g_goes_7 iz34 jz34 hiz34_0 hjz34 c_35) (iz34 + 1) f_41 _ _ _ (lf_g_goes_6 iz34 jz34 hiz34_0 hjz34 c_35) rfl (hP.sub [0, 1, 2, 3, 4, 5, 6] rfl) (hD.sub [0, 1, 2, 3, 4, 5, 6] (by decide +kernel) rfl) hS (lv_sub hl [0, 1, 2, 3, 4, 5, 6] rfl)
                      · refine lv_iconst (v := 1) hx₀ hb dX12_goes_229 (by decide +kernel) ?_
                        refine lv_goto (tgt := 234) hx₀ hb dX12_goes_230 (by decide) ?_
                        refine lv_iadd hx₀ hb dX12_goes_234 ?_
                        refine va_iast hx₀ hb hK hP hD hS 5 0 rfl rfl (vp_in_iff.mpr (lf_g_goes_4 iz34 jz34 hiz34_0 hjz34 c_35)) dX12_goes_235 ?_
                        clear hP hD hS
                        intro H locs hP hD hS
                        obtain ⟨f_42, hf_42⟩ : ∃ z : Nat → Int32, z = upd qsz34 iz34.toNatClampNeg (y_36 + 1) := ⟨_, rfl⟩
                        replace hP : va_P (dC, dI) vwCl [(kAI vMi cI 24 qMi), (kAI vPs cI 32 qPs), (kX12 hm vFo vSi vIt vMo la vBy vTy mi vMi pn vPs gn vGs fn vFt le vTo kn fe en ca 0 0 vPr vSt vFn sn vSg vAl dr), (kAI vGs cI 16 qGs), (kAI vPr cI 2 qPr), (kAI vSt cI 2 f_42), (kAI vFn cI 2 (ga_15 1))] H := by rw [hf_42]; exact hP
                        replace hD : va_D A [(kAI vMi cI 24 qMi), (kAI vPs cI 32 qPs), (kX12 hm vFo vSi vIt vMo la vBy vTy mi vMi pn vPs gn vGs fn vFt le vTo kn fe en ca 0 0 vPr vSt vFn sn vSg vAl dr), (kAI vGs cI 16 qGs), (kAI vPr cI 2 qPr), (kAI vSt cI 2 f_42), (kAI vFn cI 2 (ga_15 1))] := by rw [hf_42]; exact hD
                        clear hf_42
                        refine lv_iinc (v := iz34 + 1) (lv' := [(6, .int (iz34 + 1)), (5, .int y_23), (4, .int y_1), (0, .ref hm), (1, .int p1), (2, .int m1), (3, .int h1)]) hx₀ hb dX12_goes_236 hl (k := 0) rfl rfl (by decide) rfl (fun ls hl => ?_)
                        refine lv_goto (tgt := 191) hx₀ hb dX12_goes_239 (by decide) ?_
                        exact ihz34 _ (lf_g_goes_7 iz34 jz34 hiz34_0 hjz34 c_35) (iz34 + 1) f_42 _ _ _ (lf_g_goes_6 iz34 jz34 hiz34_0 hjz34 c_35) rfl (hP.sub [0, 1, 2, 3, 4, 5, 6] rfl) (hD.sub [0, 1, 2, 3, 4, 5, 6] (by decide +kernel) rfl) hS (lv_sub hl [0, 1, 2, 3, 4, 5, 6] rfl)
              · refine lv_iconst (v := 3) hx₀ hb dX12_goes_169 (by decide +kernel) ?_
                obtain ⟨hP9, hD9⟩ := k_c2 (wc := [(kX12 hm vFo vSi vIt vMo la vBy vTy mi vMi pn vPs gn vGs fn vFt le vTo kn fe en ca an (co + 0) vPr vSt vFn sn vSg vAl dr), (kAI vMi cI 24 qMi), (kAI vPs cI 32 qPs), (kAI vGs cI 16 qGs), (kAI vPr cI 2 qPr), (kAI vSt cI 2 (ga_15 0)), (kAI vFn cI 2 (ga_15 1))]) hP hD [2, 0, 1, 3, 4, 5, 6] (by decide +kernel) rfl
                exact W.iret (v := 3) hx₀ hb hr (fun t₀ ht hW => ⟨⟨3, (k_fn [an, (co + 0)], k_fa [qPr, ga_15 0, ga_15 1], k_fl [], k_fL [], k_fp []), rfl, hh2, by rw [ht]; exact hP9, va_K.moved hW.alike hK, hD9⟩, hS.F ht⟩) hS.2.2 dX12_goes_170
            · refine lv_aload_n hx₀ hb dX12_goes_110 rfl (lv_at hl 2 rfl) ?_
              refine va_get (D := (dC, dI)) (ci := 11) (v := .int le) (C := RX12) (T := TX12) (N := 30) hx₀ hb hts inlX12 hown hK hP 2 rfl rfl 15 (by decide) (hts (.fieldLink RX12 167 "BittenStickModel" "learned" "I") wd_417) (fun _ h9 => h9) rfl dX12_goes_111 ?_
              refine lv_iload hx₀ hb dX12_goes_114 (lv_at hl 1 rfl) ?_
              obtain ⟨hPc, hDc, hFc, hC⟩ := k_cw (wc := []) hP hD hS hA [] (by decide +kernel) rfl
              refine va_calli (va_runS (As := [.int le, .int y_1]) (rest := []) ⟨hx₀, hb, hml, hown, hts⟩ (g_isIn l dC dI cI cJ cQ H.size le y_1) (va_cwS 2 hts (kGS wd_560 wd_558 wd_559 wd_5) rfl rfl rfl (by decide +kernel) ⟨Nat.le_of_ble_eq_true rfl, Nat.le_of_ble_eq_true rfl⟩) (k_preS hK hPc hDc hN) rfl rfl hl.1 rfl (lv_room (Nat.le_of_ble_eq_true rfl)) dX12_goes_116 ⟨by decide +kernel, by decide +kernel⟩) hS (fun q _ h => hFc q h) hFc (fun r_43 u₀ t₀ H1 locs ht hvm hw hB hz1 hk1 hS => ?_)
              obtain ⟨hP1, hK1, hD1⟩ := hB
              rw [ht] at hP1
              have hJ := k_jn (wr := [(kAI vMi cI 24 qMi), (kAI vPs cI 32 qPs), (kX12 hm vFo vSi vIt vMo la vBy vTy mi vMi pn vPs gn vGs fn vFt le vTo kn fe en ca an (co + 0) vPr vSt vFn sn vSg vAl dr), (kAI vGs cI 16 qGs), (kAI vPr cI 2 qPr), (kAI vSt cI 2 (ga_15 0)), (kAI vFn cI 2 (ga_15 1))]) (wt := [(kAI vMi cI 24 qMi), (kAI vPs cI 32 qPs), (kX12 hm vFo vSi vIt vMo la vBy vTy mi vMi pn vPs gn vGs fn vFt le vTo kn fe en ca an (co + 0) vPr vSt vFn sn vSg vAl dr), (kAI vGs cI 16 qGs), (kAI vPr cI 2 qPr), (kAI vSt cI 2 (ga_15 0)), (kAI vFn cI 2 (ga_15 1))]) hP hD hC [0, 1, 2, 3, 4, 5, 6] rfl (by decide +kernel) (by decide +kernel) hk1 hFc hP1 hD1 rfl
              clear hP hD hPc hDc hFc hC hP1 hD1 hK1 hz1 hk1 hvm ht
              obtain ⟨hP, hD⟩ := hJ
              generalize H1 = H at hP hS ⊢
              try dsimp only at hw
              by_cases c_44 : ((le >>> (y_1 &&& 31)) &&& 1) = 1
              · rw [if_pos c_44] at hw
                refine k_topi (v := 1) hw ?_
                refine lv_if_ne (tgt := 150) hx₀ hb dX12_goes_119 (by decide) (fun _ => ?_) (fun c9 => absurd c9 (by decide +kernel))
                refine lv_aload_n hx₀ hb dX12_goes_150 rfl (lv_at hl 2 rfl) ?_
                refine va_get (D := (dC, dI)) (ci := 11) (v := .int an) (C := RX12) (T := TX12) (N := 30) hx₀ hb hts inlX12 hown hK hP 2 rfl rfl 21 (by decide) (hts (.fieldLink RX12 184 "BittenStickModel" "anger" "I") wd_544) (fun _ h9 => h9) rfl dX12_goes_151 ?_
                refine lv_iconst (v := 5) hx₀ hb dX12_goes_154 (by decide +kernel) ?_
                refine lv_aload_n hx₀ hb dX12_goes_155 rfl (lv_at hl 2 rfl) ?_
                refine va_get (D := (dC, dI)) (ci := 11) (v := .ref vPs) (C := RX12) (T := TX12) (N := 30) hx₀ hb hts inlX12 hown hK hP 2 rfl rfl 10 (by decide) (hts (.fieldLink RX12 31 "BittenStickModel" "passenger" "[I") wd_122) (fun _ h9 => h9) rfl dX12_goes_156 ?_
                refine lv_iconst (v := 4) hx₀ hb dX12_goes_159 (by decide +kernel) ?_
                refine lv_iload_n hx₀ hb dX12_goes_160 rfl (lv_at hl 3 rfl) ?_
                refine lv_imul hx₀ hb dX12_goes_161 ?_
                refine lv_iconst (v := 2) hx₀ hb dX12_goes_162 (by decide +kernel) ?_
                refine lv_iadd hx₀ hb dX12_goes_163 ?_
                refine va_iald hx₀ hb hK hP 1 0 rfl rfl (vp_in_iff.mpr (lf_g_goes_3 p1 hh0)) dX12_goes_164 ?_
                refine lv_topi (fun y_45 ey_45 => ?_)
                refine lv_imul hx₀ hb dX12_goes_165 ?_
                refine lv_icmp_le (tgt := 171) hx₀ hb dX12_goes_166 (by decide) (fun c_46 => ?_) (fun c_46 => ?_)
                · refine lv_iload hx₀ hb dX12_goes_171 (lv_at hl 1 rfl) ?_
                  refine lv_bipush (v := 7) hx₀ hb dX12_goes_173 (by decide +kernel) ?_
                  refine lv_icmp_ne (tgt := 242) hx₀ hb dX12_goes_175 (by decide) (fun c_47 => ?_) (fun c9 => (lf_g_goes_8 p1 m1 y_1 ga_5 (qSt 1) (qFn 1) ga_15 y_24 y_23 y_26 h1 co an y_45 hh0 hh1 c_2 c_11 c_12 c_21 c_22 c_25 c_27 c_28 c_29 c_30 c_46 c9).elim)
                  refine lv_iconst (v := 0) hx₀ hb dX12_goes_242 (by decide +kernel) ?_
                  obtain ⟨hP9, hD9⟩ := k_c2 (wc := [(kX12 hm vFo vSi vIt vMo la vBy vTy mi vMi pn vPs gn vGs fn vFt le vTo kn fe en ca an (co + 0) vPr vSt vFn sn vSg vAl dr), (kAI vMi cI 24 qMi), (kAI vPs cI 32 qPs), (kAI vGs cI 16 qGs), (kAI vPr cI 2 qPr), (kAI vSt cI 2 (ga_15 0)), (kAI vFn cI 2 (ga_15 1))]) hP hD [2, 0, 1, 3, 4, 5, 6] (by decide +kernel) rfl
                  exact W.iret (v := 0) hx₀ hb hr (fun t₀ ht hW => ⟨⟨0, (k_fn [an, (co + 0)], k_fa [qPr, ga_15 0, ga_15 1], k_fl [], k_fL [], k_fp []), rfl, hh2, by rw [ht]; exact hP9, va_K.moved hW.alike hK, hD9⟩, hS.F ht⟩) hS.2.2 dX12_goes_243
                · refine lv_iconst (v := 3) hx₀ hb dX12_goes_169 (by decide +kernel) ?_
                  obtain ⟨hP9, hD9⟩ := k_c2 (wc := [(kX12 hm vFo vSi vIt vMo la vBy vTy mi vMi pn vPs gn vGs fn vFt le vTo kn fe en ca an (co + 0) vPr vSt vFn sn vSg vAl dr), (kAI vMi cI 24 qMi), (kAI vPs cI 32 qPs), (kAI vGs cI 16 qGs), (kAI vPr cI 2 qPr), (kAI vSt cI 2 (ga_15 0)), (kAI vFn cI 2 (ga_15 1))]) hP hD [2, 0, 1, 3, 4, 5, 6] (by decide +kernel) rfl
                  exact W.iret (v := 3) hx₀ hb hr (fun t₀ ht hW => ⟨⟨3, (k_fn [an, (co + 0)], k_fa [qPr, ga_15 0, ga_15 1], k_fl [], k_fL [], k_fp []), rfl, hh2, by rw [ht]; exact hP9, va_K.moved hW.alike hK, hD9⟩, hS.F ht⟩) hS.2.2 dX12_goes_170
              rw [if_neg c_44] at hw
              refine k_topi (v := 0) hw ?_
              refine lv_if_ne (tgt := 150) hx₀ hb dX12_goes_119 (by decide) (fun c9 => absurd (by decide +kernel) c9) (fun _ => ?_)
              refine lv_aload_n hx₀ hb dX12_goes_122 rfl (lv_at hl 2 rfl) ?_
              refine va_get (D := (dC, dI)) (ci := 11) (v := .int ca) (C := RX12) (T := TX12) (N := 30) hx₀ hb hts inlX12 hown hK hP 2 rfl rfl 20 (by decide) (hts (.fieldLink RX12 59 "BittenStickModel" "calling" "I") wd_132) (fun _ h9 => h9) rfl dX12_goes_123 ?_
              refine lv_iload_n hx₀ hb dX12_goes_126 rfl (lv_at hl 4 rfl) ?_
              obtain ⟨hPc, hDc, hFc, hC⟩ := k_cw (wc := []) hP hD hS hA [] (by decide +kernel) rfl
              refine va_calli (va_runS (As := [.int ca, .int m1]) (rest := []) ⟨hx₀, hb, hml, hown, hts⟩ (g_isIn l dC dI cI cJ cQ H.size ca m1) (va_cwS 2 hts (kGS wd_560 wd_558 wd_559 wd_5) rfl rfl rfl (by decide +kernel) ⟨Nat.le_of_ble_eq_true rfl, Nat.le_of_ble_eq_true rfl⟩) (k_preS hK hPc hDc hN) rfl rfl hl.1 rfl (lv_room (Nat.le_of_ble_eq_true rfl)) dX12_goes_127 ⟨by decide +kernel, by decide +kernel⟩) hS (fun q _ h => hFc q h) hFc (fun r_48 u₀ t₀ H1 locs ht hvm hw hB hz1 hk1 hS => ?_)
              obtain ⟨hP1, hK1, hD1⟩ := hB
              rw [ht] at hP1
              have hJ := k_jn (wr := [(kAI vMi cI 24 qMi), (kAI vPs cI 32 qPs), (kX12 hm vFo vSi vIt vMo la vBy vTy mi vMi pn vPs gn vGs fn vFt le vTo kn fe en ca an (co + 0) vPr vSt vFn sn vSg vAl dr), (kAI vGs cI 16 qGs), (kAI vPr cI 2 qPr), (kAI vSt cI 2 (ga_15 0)), (kAI vFn cI 2 (ga_15 1))]) (wt := [(kAI vMi cI 24 qMi), (kAI vPs cI 32 qPs), (kX12 hm vFo vSi vIt vMo la vBy vTy mi vMi pn vPs gn vGs fn vFt le vTo kn fe en ca an (co + 0) vPr vSt vFn sn vSg vAl dr), (kAI vGs cI 16 qGs), (kAI vPr cI 2 qPr), (kAI vSt cI 2 (ga_15 0)), (kAI vFn cI 2 (ga_15 1))]) hP hD hC [0, 1, 2, 3, 4, 5, 6] rfl (by decide +kernel) (by decide +kernel) hk1 hFc hP1 hD1 rfl
              clear hP hD hPc hDc hFc hC hP1 hD1 hK1 hz1 hk1 hvm ht
              obtain ⟨hP, hD⟩ := hJ
              generalize H1 = H at hP hS ⊢
              try dsimp only at hw
              by_cases c_49 : ((ca >>> (m1 &&& 31)) &&& 1) = 1
              · rw [if_pos c_49] at hw
                refine k_topi (v := 1) hw ?_
                refine lv_if_eq (tgt := 150) hx₀ hb dX12_goes_130 (by decide) (fun c9 => absurd c9 (by decide +kernel)) (fun _ => ?_)
                refine lv_aload_n hx₀ hb dX12_goes_133 rfl (lv_at hl 2 rfl) ?_
                refine lv_dup hx₀ hb dX12_goes_134 rfl ?_
                refine va_get (D := (dC, dI)) (ci := 11) (v := .int an) (C := RX12) (T := TX12) (N := 30) hx₀ hb hts inlX12 hown hK hP 2 rfl rfl 21 (by decide) (hts (.fieldLink RX12 184 "BittenStickModel" "anger" "I") wd_544) (fun _ h9 => h9) rfl dX12_goes_135 ?_
                refine lv_aload_n hx₀ hb dX12_goes_138 rfl (lv_at hl 2 rfl) ?_
                refine lv_iload_n hx₀ hb dX12_goes_139 rfl (lv_at hl 3 rfl) ?_
                refine lv_iload hx₀ hb dX12_goes_140 (lv_at hl 1 rfl) ?_
                refine lv_iload_n hx₀ hb dX12_goes_142 rfl (lv_at hl 5 rfl) ?_
                obtain ⟨hPc, hDc, hFc, hC⟩ := k_cw (wc := [(kX12 hm vFo vSi vIt vMo la vBy vTy mi vMi pn vPs gn vGs fn vFt le vTo kn fe en ca an (co + 0) vPr vSt vFn sn vSg vAl dr), (kAI vPs cI 32 qPs)]) hP hD hS hA [2, 1] (by decide +kernel) rfl
                refine va_calli (va_runV (As := [.int p1, .int y_1, .int h1]) (rest := [.int an, .ref hm]) ⟨hx₀, hb, hml, hown, hts⟩ (g_angerBy l dC dI cI cJ cQ H.size hm p1 y_1 h1 vFo vSi vIt vMo la vBy vTy mi vMi pn vPs gn vGs fn vFt le vTo kn fe en ca an (co + 0) vPr vSt vFn sn vSg vAl dr qPs (hh0)) (cwV 3 hts (kGV wd_564 wd_561 wd_562 wd_563 wd_5) rfl rfl rfl (by decide +kernel) ⟨Nat.le_of_ble_eq_true rfl, Nat.le_of_ble_eq_true rfl⟩) (k_preV11 (q0 := 0) hK hPc hDc hN rfl) rfl rfl hl.1 rfl (lv_room (Nat.le_of_ble_eq_true rfl)) dX12_goes_143 ⟨by decide +kernel, by decide +kernel⟩) hS (fun q _ h => hFc q h) hFc (fun r_50 u₀ t₀ H1 locs ht hvm hw hB hz1 hk1 hS => ?_)
                obtain ⟨hP1, hK1, hD1⟩ := hB
                rw [ht] at hP1
                have hJ := k_jn (wr := [(kAI vMi cI 24 qMi), (kAI vGs cI 16 qGs), (kAI vPr cI 2 qPr), (kAI vSt cI 2 (ga_15 0)), (kAI vFn cI 2 (ga_15 1))]) (wt := [(kAI vMi cI 24 qMi), (kAI vGs cI 16 qGs), (kAI vPr cI 2 qPr), (kAI vSt cI 2 (ga_15 0)), (kAI vFn cI 2 (ga_15 1)), (kX12 hm vFo vSi vIt vMo la vBy vTy mi vMi pn vPs gn vGs fn vFt le vTo kn fe en ca an (co + 0) vPr vSt vFn sn vSg vAl dr), (kAI vPs cI 32 qPs)]) hP hD hC [0, 3, 4, 5, 6] rfl (by decide +kernel) (by decide +kernel) hk1 hFc hP1 hD1 rfl
                clear hP hD hPc hDc hFc hC hP1 hD1 hK1 hz1 hk1 hvm ht
                obtain ⟨hP, hD⟩ := hJ
                generalize H1 = H at hP hS ⊢
                try dsimp only at hw
                refine k_topi (v := kAn (kP0 qPs p1) (kP1 qPs p1) y_1 h1) hw ?_
                refine lv_iadd hx₀ hb dX12_goes_146 ?_
                refine va_put (D := (dC, dI)) (ci := 11) (v := .int (an + (kAn (kP0 qPs p1) (kP1 qPs p1) y_1 h1))) (ty := .int) (C := RX12) (T := TX12) (N := 30) hx₀ hb hts inlX12 tyX12 tyX12_ok nmX12 hown hK hP hD hS 5 rfl rfl 21 (by decide) (hts (.fieldLink RX12 184 "BittenStickModel" "anger" "I") wd_544) (fun _ h9 => h9) rfl (by decide +kernel) rfl rfl (Nat.le_of_ble_eq_true rfl) dX12_goes_147 ?_
                clear hP hD hS
                intro H locs hP hD hS
                replace hP := k_w2 (wt := [(kAI vMi cI 24 qMi), (kAI vGs cI 16 qGs), (kAI vPr cI 2 qPr), (kAI vSt cI 2 (ga_15 0)), (kAI vFn cI 2 (ga_15 1)), (kX12 hm vFo vSi vIt vMo la vBy vTy mi vMi pn vPs gn vGs fn vFt le vTo kn fe en ca (an + (kAn (kP0 qPs p1) (kP1 qPs p1) y_1 h1)) (co + 0) vPr vSt vFn sn vSg vAl dr), (kAI vPs cI 32 qPs)]) hP hD rfl
                replace hD := hP.2
                replace hP := hP.1
                refine lv_aload_n hx₀ hb dX12_goes_150 rfl (lv_at hl 2 rfl) ?_
                refine va_get (D := (dC, dI)) (ci := 11) (v := .int (an + (kAn (kP0 qPs p1) (kP1 qPs p1) y_1 h1))) (C := RX12) (T := TX12) (N := 30) hx₀ hb hts inlX12 hown hK hP 5 rfl rfl 21 (by decide) (hts (.fieldLink RX12 184 "BittenStickModel" "anger" "I") wd_544) (fun _ h9 => h9) rfl dX12_goes_151 ?_
                refine lv_iconst (v := 5) hx₀ hb dX12_goes_154 (by decide +kernel) ?_
                refine lv_aload_n hx₀ hb dX12_goes_155 rfl (lv_at hl 2 rfl) ?_
                refine va_get (D := (dC, dI)) (ci := 11) (v := .ref vPs) (C := RX12) (T := TX12) (N := 30) hx₀ hb hts inlX12 hown hK hP 5 rfl rfl 10 (by decide) (hts (.fieldLink RX12 31 "BittenStickModel" "passenger" "[I") wd_122) (fun _ h9 => h9) rfl dX12_goes_156 ?_
                refine lv_iconst (v := 4) hx₀ hb dX12_goes_159 (by decide +kernel) ?_
                refine lv_iload_n hx₀ hb dX12_goes_160 rfl (lv_at hl 3 rfl) ?_
                refine lv_imul hx₀ hb dX12_goes_161 ?_
                refine lv_iconst (v := 2) hx₀ hb dX12_goes_162 (by decide +kernel) ?_
                refine lv_iadd hx₀ hb dX12_goes_163 ?_
                refine va_iald hx₀ hb hK hP 6 0 rfl rfl (vp_in_iff.mpr (lf_g_goes_3 p1 hh0)) dX12_goes_164 ?_
                refine lv_topi (fun y_51 ey_51 => ?_)
                refine lv_imul hx₀ hb dX12_goes_165 ?_
                refine lv_icmp_le (tgt := 171) hx₀ hb dX12_goes_166 (by decide) (fun c_52 => ?_) (fun c_52 => ?_)
                · refine lv_iload hx₀ hb dX12_goes_171 (lv_at hl 1 rfl) ?_
                  refine lv_bipush (v := 7) hx₀ hb dX12_goes_173 (by decide +kernel) ?_
                  refine lv_icmp_ne (tgt := 242) hx₀ hb dX12_goes_175 (by decide) (fun c_53 => ?_) (fun c9 => (lf_g_goes_9 p1 m1 y_1 ga_5 (qSt 1) (qFn 1) ga_15 y_24 y_23 y_26 h1 co hh0 hh1 c_2 c_11 c_12 c_21 c_22 c_25 c_27 c_28 c_29 c_30 c9).elim)
                  refine lv_iconst (v := 0) hx₀ hb dX12_goes_242 (by decide +kernel) ?_
                  obtain ⟨hP9, hD9⟩ := k_c2 (wc := [(kX12 hm vFo vSi vIt vMo la vBy vTy mi vMi pn vPs gn vGs fn vFt le vTo kn fe en ca (an + (kAn (kP0 qPs p1) (kP1 qPs p1) y_1 h1)) (co + 0) vPr vSt vFn sn vSg vAl dr), (kAI vMi cI 24 qMi), (kAI vPs cI 32 qPs), (kAI vGs cI 16 qGs), (kAI vPr cI 2 qPr), (kAI vSt cI 2 (ga_15 0)), (kAI vFn cI 2 (ga_15 1))]) hP hD [5, 0, 6, 1, 2, 3, 4] (by decide +kernel) rfl
                  exact W.iret (v := 0) hx₀ hb hr (fun t₀ ht hW => ⟨⟨0, (k_fn [(an + (kAn (kP0 qPs p1) (kP1 qPs p1) y_1 h1)), (co + 0)], k_fa [qPr, ga_15 0, ga_15 1], k_fl [], k_fL [], k_fp []), rfl, hh2, by rw [ht]; exact hP9, va_K.moved hW.alike hK, hD9⟩, hS.F ht⟩) hS.2.2 dX12_goes_243
                · refine lv_iconst (v := 3) hx₀ hb dX12_goes_169 (by decide +kernel) ?_
                  obtain ⟨hP9, hD9⟩ := k_c2 (wc := [(kX12 hm vFo vSi vIt vMo la vBy vTy mi vMi pn vPs gn vGs fn vFt le vTo kn fe en ca (an + (kAn (kP0 qPs p1) (kP1 qPs p1) y_1 h1)) (co + 0) vPr vSt vFn sn vSg vAl dr), (kAI vMi cI 24 qMi), (kAI vPs cI 32 qPs), (kAI vGs cI 16 qGs), (kAI vPr cI 2 qPr), (kAI vSt cI 2 (ga_15 0)), (kAI vFn cI 2 (ga_15 1))]) hP hD [5, 0, 6, 1, 2, 3, 4] (by decide +kernel) rfl
                  exact W.iret (v := 3) hx₀ hb hr (fun t₀ ht hW => ⟨⟨3, (k_fn [(an + (kAn (kP0 qPs p1) (kP1 qPs p1) y_1 h1)), (co + 0)], k_fa [qPr, ga_15 0, ga_15 1], k_fl [], k_fL [], k_fp []), rfl, hh2, by rw [ht]; exact hP9, va_K.moved hW.alike hK, hD9⟩, hS.F ht⟩) hS.2.2 dX12_goes_170
              rw [if_neg c_49] at hw
              refine k_topi (v := 0) hw ?_
              refine lv_if_eq (tgt := 150) hx₀ hb dX12_goes_130 (by decide) (fun _ => ?_) (fun c9 => absurd (by decide +kernel) c9)
              refine lv_aload_n hx₀ hb dX12_goes_150 rfl (lv_at hl 2 rfl) ?_
              refine va_get (D := (dC, dI)) (ci := 11) (v := .int an) (C := RX12) (T := TX12) (N := 30) hx₀ hb hts inlX12 hown hK hP 2 rfl rfl 21 (by decide) (hts (.fieldLink RX12 184 "BittenStickModel" "anger" "I") wd_544) (fun _ h9 => h9) rfl dX12_goes_151 ?_
              refine lv_iconst (v := 5) hx₀ hb dX12_goes_154 (by decide +kernel) ?_
              refine lv_aload_n hx₀ hb dX12_goes_155 rfl (lv_at hl 2 rfl) ?_
              refine va_get (D := (dC, dI)) (ci := 11) (v := .ref vPs) (C := RX12) (T := TX12) (N := 30) hx₀ hb hts inlX12 hown hK hP 2 rfl rfl 10 (by decide) (hts (.fieldLink RX12 31 "BittenStickModel" "passenger" "[I") wd_122) (fun _ h9 => h9) rfl dX12_goes_156 ?_
              refine lv_iconst (v := 4) hx₀ hb dX12_goes_159 (by decide +kernel) ?_
              refine lv_iload_n hx₀ hb dX12_goes_160 rfl (lv_at hl 3 rfl) ?_
              refine lv_imul hx₀ hb dX12_goes_161 ?_
              refine lv_iconst (v := 2) hx₀ hb dX12_goes_162 (by decide +kernel) ?_
              refine lv_iadd hx₀ hb dX12_goes_163 ?_
              refine va_iald hx₀ hb hK hP 1 0 rfl rfl (vp_in_iff.mpr (lf_g_goes_3 p1 hh0)) dX12_goes_164 ?_
              refine lv_topi (fun y_54 ey_54 => ?_)
              refine lv_imul hx₀ hb dX12_goes_165 ?_
              refine lv_icmp_le (tgt := 171) hx₀ hb dX12_goes_166 (by decide) (fun c_55 => ?_) (fun c_55 => ?_)
              · refine lv_iload hx₀ hb dX12_goes_171 (lv_at hl 1 rfl) ?_
                refine lv_bipush (v := 7) hx₀ hb dX12_goes_173 (by decide +kernel) ?_
                refine lv_icmp_ne (tgt := 242) hx₀ hb dX12_goes_175 (by decide) (fun c_56 => ?_) (fun c9 => (lf_g_goes_8 p1 m1 y_1 ga_5 (qSt 1) (qFn 1) ga_15 y_24 y_23 y_26 h1 co an y_54 hh0 hh1 c_2 c_11 c_12 c_21 c_22 c_25 c_27 c_28 c_29 c_30 c_55 c9).elim)
                refine lv_iconst (v := 0) hx₀ hb dX12_goes_242 (by decide +kernel) ?_
                obtain ⟨hP9, hD9⟩ := k_c2 (wc := [(kX12 hm vFo vSi vIt vMo la vBy vTy mi vMi pn vPs gn vGs fn vFt le vTo kn fe en ca an (co + 0) vPr vSt vFn sn vSg vAl dr), (kAI vMi cI 24 qMi), (kAI vPs cI 32 qPs), (kAI vGs cI 16 qGs), (kAI vPr cI 2 qPr), (kAI vSt cI 2 (ga_15 0)), (kAI vFn cI 2 (ga_15 1))]) hP hD [2, 0, 1, 3, 4, 5, 6] (by decide +kernel) rfl
                exact W.iret (v := 0) hx₀ hb hr (fun t₀ ht hW => ⟨⟨0, (k_fn [an, (co + 0)], k_fa [qPr, ga_15 0, ga_15 1], k_fl [], k_fL [], k_fp []), rfl, hh2, by rw [ht]; exact hP9, va_K.moved hW.alike hK, hD9⟩, hS.F ht⟩) hS.2.2 dX12_goes_243
              · refine lv_iconst (v := 3) hx₀ hb dX12_goes_169 (by decide +kernel) ?_
                obtain ⟨hP9, hD9⟩ := k_c2 (wc := [(kX12 hm vFo vSi vIt vMo la vBy vTy mi vMi pn vPs gn vGs fn vFt le vTo kn fe en ca an (co + 0) vPr vSt vFn sn vSg vAl dr), (kAI vMi cI 24 qMi), (kAI vPs cI 32 qPs), (kAI vGs cI 16 qGs), (kAI vPr cI 2 qPr), (kAI vSt cI 2 (ga_15 0)), (kAI vFn cI 2 (ga_15 1))]) hP hD [2, 0, 1, 3, 4, 5, 6] (by decide +kernel) rfl
                exact W.iret (v := 3) hx₀ hb hr (fun t₀ ht hW => ⟨⟨3, (k_fn [an, (co + 0)], k_fa [qPr, ga_15 0, ga_15 1], k_fl [], k_fL [], k_fp []), rfl, hh2, by rw [ht]; exact hP9, va_K.moved hW.alike hK, hD9⟩, hS.F ht⟩) hS.2.2 dX12_goes_170
          · refine lv_iconst (v := 2) hx₀ hb dX12_goes_101 (by decide +kernel) ?_
            obtain ⟨hP9, hD9⟩ := k_c2 (wc := [(kX12 hm vFo vSi vIt vMo la vBy vTy mi vMi pn vPs gn vGs fn vFt le vTo kn fe en ca an (co + 0) vPr vSt vFn sn vSg vAl dr), (kAI vMi cI 24 qMi), (kAI vPs cI 32 qPs), (kAI vGs cI 16 qGs), (kAI vPr cI 2 qPr), (kAI vSt cI 2 (ga_15 0)), (kAI vFn cI 2 (ga_15 1))]) hP hD [2, 0, 1, 3, 4, 5, 6] (by decide +kernel) rfl
            exact W.iret (v := 2) hx₀ hb hr (fun t₀ ht hW => ⟨⟨2, (k_fn [an, (co + 0)], k_fa [qPr, ga_15 0, ga_15 1], k_fl [], k_fL [], k_fp []), rfl, hh2, by rw [ht]; exact hP9, va_K.moved hW.alike hK, hD9⟩, hS.F ht⟩) hS.2.2 dX12_goes_102
        · refine lv_iload_n hx₀ hb dX12_goes_81 rfl (lv_at hl 5 rfl) ?_
          refine lv_iconst (v := 5) hx₀ hb dX12_goes_82 (by decide +kernel) ?_
          refine lv_isub hx₀ hb dX12_goes_83 ?_
          refine lv_goto (tgt := 88) hx₀ hb dX12_goes_84 (by decide) ?_
          refine lv_iadd hx₀ hb dX12_goes_88 ?_
          refine va_put (D := (dC, dI)) (ci := 11) (v := .int (co + (h1 - 5))) (ty := .int) (C := RX12) (T := TX12) (N := 30) hx₀ hb hts inlX12 tyX12 tyX12_ok nmX12 hown hK hP hD hS 2 rfl rfl 22 (by decide) (hts (.fieldLink RX12 177 "BittenStickModel" "cold" "I") wd_545) (fun _ h9 => h9) rfl (by decide +kernel) rfl rfl (Nat.le_of_ble_eq_true rfl) dX12_goes_89 ?_
          clear hP hD hS
          intro H locs hP hD hS
          replace hP := k_w2 (wt := [(kAI vMi cI 24 qMi), (kAI vPs cI 32 qPs), (kX12 hm vFo vSi vIt vMo la vBy vTy mi vMi pn vPs gn vGs fn vFt le vTo kn fe en ca an (co + (h1 - 5)) vPr vSt vFn sn vSg vAl dr), (kAI vGs cI 16 qGs), (kAI vPr cI 2 qPr), (kAI vSt cI 2 (ga_15 0)), (kAI vFn cI 2 (ga_15 1))]) hP hD rfl
          replace hD := hP.2
          replace hP := hP.1
          refine lv_aload_n hx₀ hb dX12_goes_92 rfl (lv_at hl 2 rfl) ?_
          refine va_get (D := (dC, dI)) (ci := 11) (v := .int (co + (h1 - 5))) (C := RX12) (T := TX12) (N := 30) hx₀ hb hts inlX12 hown hK hP 2 rfl rfl 22 (by decide) (hts (.fieldLink RX12 177 "BittenStickModel" "cold" "I") wd_545) (fun _ h9 => h9) rfl dX12_goes_93 ?_
          refine lv_bipush (v := 20) hx₀ hb dX12_goes_96 (by decide +kernel) ?_
          refine lv_icmp_le (tgt := 103) hx₀ hb dX12_goes_98 (by decide) (fun c_57 => ?_) (fun c_57 => ?_)
          · refine lv_iload hx₀ hb dX12_goes_103 (lv_at hl 1 rfl) ?_
            refine lv_bipush (v := 6) hx₀ hb dX12_goes_105 (by decide +kernel) ?_
            refine lv_icmp_ge (tgt := 150) hx₀ hb dX12_goes_107 (by decide) (fun c_58 => ?_) (fun c_58 => ?_)
            · refine lv_aload_n hx₀ hb dX12_goes_150 rfl (lv_at hl 2 rfl) ?_
              refine va_get (D := (dC, dI)) (ci := 11) (v := .int an) (C := RX12) (T := TX12) (N := 30) hx₀ hb hts inlX12 hown hK hP 2 rfl rfl 21 (by decide) (hts (.fieldLink RX12 184 "BittenStickModel" "anger" "I") wd_544) (fun _ h9 => h9) rfl dX12_goes_151 ?_
              refine lv_iconst (v := 5) hx₀ hb dX12_goes_154 (by decide +kernel) ?_
              refine lv_aload_n hx₀ hb dX12_goes_155 rfl (lv_at hl 2 rfl) ?_
              refine va_get (D := (dC, dI)) (ci := 11) (v := .ref vPs) (C := RX12) (T := TX12) (N := 30) hx₀ hb hts inlX12 hown hK hP 2 rfl rfl 10 (by decide) (hts (.fieldLink RX12 31 "BittenStickModel" "passenger" "[I") wd_122) (fun _ h9 => h9) rfl dX12_goes_156 ?_
              refine lv_iconst (v := 4) hx₀ hb dX12_goes_159 (by decide +kernel) ?_
              refine lv_iload_n hx₀ hb dX12_goes_160 rfl (lv_at hl 3 rfl) ?_
              refine lv_imul hx₀ hb dX12_goes_161 ?_
              refine lv_iconst (v := 2) hx₀ hb dX12_goes_162 (by decide +kernel) ?_
              refine lv_iadd hx₀ hb dX12_goes_163 ?_
              refine va_iald hx₀ hb hK hP 1 0 rfl rfl (vp_in_iff.mpr (lf_g_goes_3 p1 hh0)) dX12_goes_164 ?_
              refine lv_topi (fun y_59 ey_59 => ?_)
              refine lv_imul hx₀ hb dX12_goes_165 ?_
              refine lv_icmp_le (tgt := 171) hx₀ hb dX12_goes_166 (by decide) (fun c_60 => ?_) (fun c_60 => ?_)
              · refine lv_iload hx₀ hb dX12_goes_171 (lv_at hl 1 rfl) ?_
                refine lv_bipush (v := 7) hx₀ hb dX12_goes_173 (by decide +kernel) ?_
                refine lv_icmp_ne (tgt := 242) hx₀ hb dX12_goes_175 (by decide) (fun c_61 => ?_) (fun c_61 => ?_)
                · refine lv_iconst (v := 0) hx₀ hb dX12_goes_242 (by decide +kernel) ?_
                  obtain ⟨hP9, hD9⟩ := k_c2 (wc := [(kX12 hm vFo vSi vIt vMo la vBy vTy mi vMi pn vPs gn vGs fn vFt le vTo kn fe en ca an (co + (h1 - 5)) vPr vSt vFn sn vSg vAl dr), (kAI vMi cI 24 qMi), (kAI vPs cI 32 qPs), (kAI vGs cI 16 qGs), (kAI vPr cI 2 qPr), (kAI vSt cI 2 (ga_15 0)), (kAI vFn cI 2 (ga_15 1))]) hP hD [2, 0, 1, 3, 4, 5, 6] (by decide +kernel) rfl
                  exact W.iret (v := 0) hx₀ hb hr (fun t₀ ht hW => ⟨⟨0, (k_fn [an, (co + (h1 - 5))], k_fa [qPr, ga_15 0, ga_15 1], k_fl [], k_fL [], k_fp []), rfl, hh2, by rw [ht]; exact hP9, va_K.moved hW.alike hK, hD9⟩, hS.F ht⟩) hS.2.2 dX12_goes_243
                · refine lv_aload_n hx₀ hb dX12_goes_178 rfl (lv_at hl 2 rfl) ?_
                  refine lv_iconst (v := 0) hx₀ hb dX12_goes_179 (by decide +kernel) ?_
                  refine va_put (D := (dC, dI)) (ci := 11) (v := .int 0) (ty := .int) (C := RX12) (T := TX12) (N := 30) hx₀ hb hts inlX12 tyX12 tyX12_ok nmX12 hown hK hP hD hS 2 rfl rfl 21 (by decide) (hts (.fieldLink RX12 184 "BittenStickModel" "anger" "I") wd_544) (fun _ h9 => h9) rfl (by decide +kernel) rfl rfl (Nat.le_of_ble_eq_true rfl) dX12_goes_180 ?_
                  clear hP hD hS
                  intro H locs hP hD hS
                  replace hP := k_w2 (wt := [(kAI vMi cI 24 qMi), (kAI vPs cI 32 qPs), (kX12 hm vFo vSi vIt vMo la vBy vTy mi vMi pn vPs gn vGs fn vFt le vTo kn fe en ca 0 (co + (h1 - 5)) vPr vSt vFn sn vSg vAl dr), (kAI vGs cI 16 qGs), (kAI vPr cI 2 qPr), (kAI vSt cI 2 (ga_15 0)), (kAI vFn cI 2 (ga_15 1))]) hP hD rfl
                  replace hD := hP.2
                  replace hP := hP.1
                  refine lv_aload_n hx₀ hb dX12_goes_183 rfl (lv_at hl 2 rfl) ?_
                  refine lv_iconst (v := 0) hx₀ hb dX12_goes_184 (by decide +kernel) ?_
                  refine va_put (D := (dC, dI)) (ci := 11) (v := .int 0) (ty := .int) (C := RX12) (T := TX12) (N := 30) hx₀ hb hts inlX12 tyX12 tyX12_ok nmX12 hown hK hP hD hS 2 rfl rfl 22 (by decide) (hts (.fieldLink RX12 177 "BittenStickModel" "cold" "I") wd_545) (fun _ h9 => h9) rfl (by decide +kernel) rfl rfl (Nat.le_of_ble_eq_true rfl) dX12_goes_185 ?_
                  clear hP hD hS
                  intro H locs hP hD hS
                  replace hP := k_w2 (wt := [(kAI vMi cI 24 qMi), (kAI vPs cI 32 qPs), (kX12 hm vFo vSi vIt vMo la vBy vTy mi vMi pn vPs gn vGs fn vFt le vTo kn fe en ca 0 0 vPr vSt vFn sn vSg vAl dr), (kAI vGs cI 16 qGs), (kAI vPr cI 2 qPr), (kAI vSt cI 2 (ga_15 0)), (kAI vFn cI 2 (ga_15 1))]) hP hD rfl
                  replace hD := hP.2
                  replace hP := hP.1
                  refine lv_iconst (v := 0) hx₀ hb dX12_goes_188 (by decide +kernel) ?_
                  refine lv_istore (lv' := [(6, .int 0), (5, .int y_23), (4, .int y_1), (0, .ref hm), (1, .int p1), (2, .int m1), (3, .int h1)]) hx₀ hb dX12_goes_189 hl (by decide) rfl (fun ls hl => ?_)
                  refine (?keyz62 : ∀ (jz62 : Nat) (iz62 : Int32) (qsz62 : Nat → Int32) (H : Heap) (locs : List Loc) (ls : Array Slot), (0 ≤ iz62 ∧ iz62 ≤ 2) → ((2 - iz62.toInt).toNat = jz62) → va_P (dC, dI) vwCl [(kAI vMi cI 24 qMi), (kAI vPs cI 32 qPs), (kX12 hm vFo vSi vIt vMo la vBy vTy mi vMi pn vPs gn vGs fn vFt le vTo kn fe en ca 0 0 vPr vSt vFn sn vSg vAl dr), (kAI vGs cI 16 qGs), (kAI vPr cI 2 qPr), (kAI vSt cI 2 qsz62), (kAI vFn cI 2 (ga_15 1))] H → va_D A [(kAI vMi cI 24 qMi), (kAI vPs cI 32 qPs), (kX12 hm vFo vSi vIt vMo la vBy vTy mi vMi pn vPs gn vGs fn vFt le vTo kn fe en ca 0 0 vPr vSt vFn sn vSg vAl dr), (kAI vGs cI 16 qGs), (kAI vPr cI 2 qPr), (kAI vSt cI 2 qsz62), (kAI vFn cI 2 (ga_15 1))] → va_S A s₀.heap H locs → lv_has ls 7 [(6, .int iz62), (5, .int y_23), (4, .int y_1), (0, .ref hm), (1, .int p1), (2, .int m1), (3, .int h1)] → W p₀ l e₀ _ s₀ m₀ _ below meth c₀ H locs _ _ _ (F0 m₀ 191 ls [])) _ (0 : Int32) _ H locs ls (show 0 ≤ (0 : Int32) ∧ (0 : Int32) ≤ 2 from ⟨(by decide), (by decide)⟩) rfl hP hD hS hl
                  clear hP hD hS hl
                  intro jz62
                  induction jz62 using Nat.strongRecOn with
                  | ind jz62 ihz62 =>
                    intro iz62 qsz62 H locs ls hiz62_0 hjz62 hP hD hS hl
                    refine lv_iload hx₀ hb dX12_goes_191 (lv_at hl 0 rfl) ?_
                    refine lv_iconst (v := 2) hx₀ hb dX12_goes_193 (by decide +kernel) ?_
                    refine lv_icmp_ge (tgt := 242) hx₀ hb dX12_goes_194 (by decide) (fun c_63 => ?_) (fun c_63 => ?_)
                    · refine lv_iconst (v := 0) hx₀ hb dX12_goes_242 (by decide +kernel) ?_
                      obtain ⟨hP9, hD9⟩ := k_c2 (wc := [(kX12 hm vFo vSi vIt vMo la vBy vTy mi vMi pn vPs gn vGs fn vFt le vTo kn fe en ca 0 0 vPr vSt vFn sn vSg vAl dr), (kAI vMi cI 24 qMi), (kAI vPs cI 32 qPs), (kAI vGs cI 16 qGs), (kAI vPr cI 2 qPr), (kAI vSt cI 2 qsz62), (kAI vFn cI 2 (ga_15 1))]) hP hD [2, 0, 1, 3, 4, 5, 6] (by decide +kernel) rfl
                      exact W.iret (v := 0) hx₀ hb hr (fun t₀ ht hW => ⟨⟨0, (k_fn [(0 : Int32), (0 : Int32)], k_fa [qPr, qsz62, ga_15 1], k_fl [], k_fL [], k_fp []), rfl, hh2, by rw [ht]; exact hP9, va_K.moved hW.alike hK, hD9⟩, hS.F ht⟩) hS.2.2 dX12_goes_243
                    · refine lv_aload_n hx₀ hb dX12_goes_197 rfl (lv_at hl 3 rfl) ?_
                      refine va_get (D := (dC, dI)) (ci := 11) (v := .ref vSt) (C := RX12) (T := TX12) (N := 30) hx₀ hb hts inlX12 hown hK hP 2 rfl rfl 24 (by decide) (hts (.fieldLink RX12 46 "BittenStickModel" "strong" "[I") wd_127) (fun _ h9 => h9) rfl dX12_goes_198 ?_
                      refine lv_iload hx₀ hb dX12_goes_201 (lv_at hl 0 rfl) ?_
                      refine lv_dup2_11 hx₀ hb dX12_goes_203 rfl rfl ?_
                      refine va_iald hx₀ hb hK hP 5 0 rfl rfl (vp_in_iff.mpr (lf_g_goes_4 iz62 jz62 hiz62_0 hjz62 c_63)) dX12_goes_204 ?_
                      refine lv_topi (fun y_64 ey_64 => ?_)
                      refine lv_aload_n hx₀ hb dX12_goes_205 rfl (lv_at hl 3 rfl) ?_
                      refine va_get (D := (dC, dI)) (ci := 11) (v := .ref vSt) (C := RX12) (T := TX12) (N := 30) hx₀ hb hts inlX12 hown hK hP 2 rfl rfl 24 (by decide) (hts (.fieldLink RX12 46 "BittenStickModel" "strong" "[I") wd_127) (fun _ h9 => h9) rfl dX12_goes_206 ?_
                      refine lv_iload hx₀ hb dX12_goes_209 (lv_at hl 0 rfl) ?_
                      refine va_iald hx₀ hb hK hP 5 0 rfl rfl (vp_in_iff.mpr (lf_g_goes_4 iz62 jz62 hiz62_0 hjz62 c_63)) dX12_goes_211 ?_
                      refine k_topi (v := y_64) ey_64.symm ?_
                      refine lv_aload_n hx₀ hb dX12_goes_212 rfl (lv_at hl 3 rfl) ?_
                      refine va_get (D := (dC, dI)) (ci := 11) (v := .ref vGs) (C := RX12) (T := TX12) (N := 30) hx₀ hb hts inlX12 hown hK hP 2 rfl rfl 12 (by decide) (hts (.fieldLink RX12 34 "BittenStickModel" "goose" "[I") wd_123) (fun _ h9 => h9) rfl dX12_goes_213 ?_
                      refine lv_iconst (v := 2) hx₀ hb dX12_goes_216 (by decide +kernel) ?_
                      refine lv_aload_n hx₀ hb dX12_goes_217 rfl (lv_at hl 3 rfl) ?_
                      refine va_get (D := (dC, dI)) (ci := 11) (v := .ref vPr) (C := RX12) (T := TX12) (N := 30) hx₀ hb hts inlX12 hown hK hP 2 rfl rfl 23 (by decide) (hts (.fieldLink RX12 43 "BittenStickModel" "pair" "[I") wd_126) (fun _ h9 => h9) rfl dX12_goes_218 ?_
                      refine lv_iload hx₀ hb dX12_goes_221 (lv_at hl 0 rfl) ?_
                      refine va_iald hx₀ hb hK hP 4 0 rfl rfl (vp_in_iff.mpr (lf_g_goes_4 iz62 jz62 hiz62_0 hjz62 c_63)) dX12_goes_223 ?_
                      refine lv_topi (fun y_65 ey_65 => ?_)
                      have c_66 : 0 ≤ y_65.toInt ∧ y_65.toInt ≤ 7 := by rw [ey_65]; exact k_bd_at hh2 (vp_in_iff.mpr (lf_g_goes_4 iz62 jz62 hiz62_0 hjz62 c_63))
                      refine lv_imul hx₀ hb dX12_goes_224 ?_
                      refine va_iald hx₀ hb hK hP 3 0 rfl rfl (vp_in_iff.mpr (lf_g_goes_5 y_65 c_66)) dX12_goes_225 ?_
                      refine lv_topi (fun y_67 ey_67 => ?_)
                      refine lv_icmp_ge (tgt := 233) hx₀ hb dX12_goes_226 (by decide) (fun c_68 => ?_) (fun c_68 => ?_)
                      · refine lv_iconst (v := 0) hx₀ hb dX12_goes_233 (by decide +kernel) ?_
                        refine lv_iadd hx₀ hb dX12_goes_234 ?_
                        refine va_iast hx₀ hb hK hP hD hS 5 0 rfl rfl (vp_in_iff.mpr (lf_g_goes_4 iz62 jz62 hiz62_0 hjz62 c_63)) dX12_goes_235 ?_
                        clear hP hD hS
                        intro H locs hP hD hS
                        obtain ⟨f_69, hf_69⟩ : ∃ z : Nat → Int32, z = upd qsz62 iz62.toNatClampNeg (y_64 + 0) := ⟨_, rfl⟩
                        replace hP : va_P (dC, dI) vwCl [(kAI vMi cI 24 qMi), (kAI vPs cI 32 qPs), (kX12 hm vFo vSi vIt vMo la vBy vTy mi vMi pn vPs gn vGs fn vFt le vTo kn fe en ca 0 0 vPr vSt vFn sn vSg vAl dr), (kAI vGs cI 16 qGs), (kAI vPr cI 2 qPr), (kAI vSt cI 2 f_69), (kAI vFn cI 2 (ga_15 1))] H := by rw [hf_69]; exact hP
                        replace hD : va_D A [(kAI vMi cI 24 qMi), (kAI vPs cI 32 qPs), (kX12 hm vFo vSi vIt vMo la vBy vTy mi vMi pn vPs gn vGs fn vFt le vTo kn fe en ca 0 0 vPr vSt vFn sn vSg vAl dr), (kAI vGs cI 16 qGs), (kAI vPr cI 2 qPr), (kAI vSt cI 2 f_69), (kAI vFn cI 2 (ga_15 1))] := by rw [hf_69]; exact hD
                        clear hf_69
                        refine lv_iinc (v := iz62 + 1) (lv' := [(6, .int (iz62 + 1)), (5, .int y_23), (4, .int y_1), (0, .ref hm), (1, .int p1), (2, .int m1), (3, .int h1)]) hx₀ hb dX12_goes_236 hl (k := 0) rfl rfl (by decide) rfl (fun ls hl => ?_)
                        refine lv_goto (tgt := 191) hx₀ hb dX12_goes_239 (by decide) ?_
                        exact ihz62 _ (lf_g_goes_7 iz62 jz62 hiz62_0 hjz62 c_63) (iz62 + 1) f_69 _ _ _ (lf_g_goes_6 iz62 jz62 hiz62_0 hjz62 c_63) rfl (hP.sub [0, 1, 2, 3, 4, 5, 6] rfl) (hD.sub [0, 1, 2, 3, 4, 5, 6] (by decide +kernel) rfl) hS (lv_sub hl [0, 1, 2, 3, 4, 5, 6] rfl)
                      · refine lv_iconst (v := 1) hx₀ hb dX12_goes_229 (by decide +kernel) ?_
                        refine lv_goto (tgt := 234) hx₀ hb dX12_goes_230 (by decide) ?_
                        refine lv_iadd hx₀ hb dX12_goes_234 ?_
                        refine va_iast hx₀ hb hK hP hD hS 5 0 rfl rfl (vp_in_iff.mpr (lf_g_goes_4 iz62 jz62 hiz62_0 hjz62 c_63)) dX12_goes_235 ?_
                        clear hP hD hS
                        intro H locs hP hD hS
                        obtain ⟨f_70, hf_70⟩ : ∃ z : Nat → Int32, z = upd qsz62 iz62.toNatClampNeg (y_64 + 1) := ⟨_, rfl⟩
                        replace hP : va_P (dC, dI) vwCl [(kAI vMi cI 24 qMi), (kAI vPs cI 32 qPs), (kX12 hm vFo vSi vIt vMo la vBy vTy mi vMi pn vPs gn vGs fn vFt le vTo kn fe en ca 0 0 vPr vSt vFn sn vSg vAl dr), (kAI vGs cI 16 qGs), (kAI vPr cI 2 qPr), (kAI vSt cI 2 f_70), (kAI vFn cI 2 (ga_15 1))] H := by rw [hf_70]; exact hP
                        replace hD : va_D A [(kAI vMi cI 24 qMi), (kAI vPs cI 32 qPs), (kX12 hm vFo vSi vIt vMo la vBy vTy mi vMi pn vPs gn vGs fn vFt le vTo kn fe en ca 0 0 vPr vSt vFn sn vSg vAl dr), (kAI vGs cI 16 qGs), (kAI vPr cI 2 qPr), (kAI vSt cI 2 f_70), (kAI vFn cI 2 (ga_15 1))] := by rw [hf_70]; exact hD
                        clear hf_70
                        refine lv_iinc (v := iz62 + 1) (lv' := [(6, .int (iz62 + 1)), (5, .int y_23), (4, .int y_1), (0, .ref hm), (1, .int p1), (2, .int m1), (3, .int h1)]) hx₀ hb dX12_goes_236 hl (k := 0) rfl rfl (by decide) rfl (fun ls hl => ?_)
                        refine lv_goto (tgt := 191) hx₀ hb dX12_goes_239 (by decide) ?_
                        exact ihz62 _ (lf_g_goes_7 iz62 jz62 hiz62_0 hjz62 c_63) (iz62 + 1) f_70 _ _ _ (lf_g_goes_6 iz62 jz62 hiz62_0 hjz62 c_63) rfl (hP.sub [0, 1, 2, 3, 4, 5, 6] rfl) (hD.sub [0, 1, 2, 3, 4, 5, 6] (by decide +kernel) rfl) hS (lv_sub hl [0, 1, 2, 3, 4, 5, 6] rfl)
              · refine lv_iconst (v := 3) hx₀ hb dX12_goes_169 (by decide +kernel) ?_
                obtain ⟨hP9, hD9⟩ := k_c2 (wc := [(kX12 hm vFo vSi vIt vMo la vBy vTy mi vMi pn vPs gn vGs fn vFt le vTo kn fe en ca an (co + (h1 - 5)) vPr vSt vFn sn vSg vAl dr), (kAI vMi cI 24 qMi), (kAI vPs cI 32 qPs), (kAI vGs cI 16 qGs), (kAI vPr cI 2 qPr), (kAI vSt cI 2 (ga_15 0)), (kAI vFn cI 2 (ga_15 1))]) hP hD [2, 0, 1, 3, 4, 5, 6] (by decide +kernel) rfl
                exact W.iret (v := 3) hx₀ hb hr (fun t₀ ht hW => ⟨⟨3, (k_fn [an, (co + (h1 - 5))], k_fa [qPr, ga_15 0, ga_15 1], k_fl [], k_fL [], k_fp []), rfl, hh2, by rw [ht]; exact hP9, va_K.moved hW.alike hK, hD9⟩, hS.F ht⟩) hS.2.2 dX12_goes_170
            · refine lv_aload_n hx₀ hb dX12_goes_110 rfl (lv_at hl 2 rfl) ?_
              refine va_get (D := (dC, dI)) (ci := 11) (v := .int le) (C := RX12) (T := TX12) (N := 30) hx₀ hb hts inlX12 hown hK hP 2 rfl rfl 15 (by decide) (hts (.fieldLink RX12 167 "BittenStickModel" "learned" "I") wd_417) (fun _ h9 => h9) rfl dX12_goes_111 ?_
              refine lv_iload hx₀ hb dX12_goes_114 (lv_at hl 1 rfl) ?_
              obtain ⟨hPc, hDc, hFc, hC⟩ := k_cw (wc := []) hP hD hS hA [] (by decide +kernel) rfl
              refine va_calli (va_runS (As := [.int le, .int y_1]) (rest := []) ⟨hx₀, hb, hml, hown, hts⟩ (g_isIn l dC dI cI cJ cQ H.size le y_1) (va_cwS 2 hts (kGS wd_560 wd_558 wd_559 wd_5) rfl rfl rfl (by decide +kernel) ⟨Nat.le_of_ble_eq_true rfl, Nat.le_of_ble_eq_true rfl⟩) (k_preS hK hPc hDc hN) rfl rfl hl.1 rfl (lv_room (Nat.le_of_ble_eq_true rfl)) dX12_goes_116 ⟨by decide +kernel, by decide +kernel⟩) hS (fun q _ h => hFc q h) hFc (fun r_71 u₀ t₀ H1 locs ht hvm hw hB hz1 hk1 hS => ?_)
              obtain ⟨hP1, hK1, hD1⟩ := hB
              rw [ht] at hP1
              have hJ := k_jn (wr := [(kAI vMi cI 24 qMi), (kAI vPs cI 32 qPs), (kX12 hm vFo vSi vIt vMo la vBy vTy mi vMi pn vPs gn vGs fn vFt le vTo kn fe en ca an (co + (h1 - 5)) vPr vSt vFn sn vSg vAl dr), (kAI vGs cI 16 qGs), (kAI vPr cI 2 qPr), (kAI vSt cI 2 (ga_15 0)), (kAI vFn cI 2 (ga_15 1))]) (wt := [(kAI vMi cI 24 qMi), (kAI vPs cI 32 qPs), (kX12 hm vFo vSi vIt vMo la vBy vTy mi vMi pn vPs gn vGs fn vFt le vTo kn fe en ca an (co + (h1 - 5)) vPr vSt vFn sn vSg vAl dr), (kAI vGs cI 16 qGs), (kAI vPr cI 2 qPr), (kAI vSt cI 2 (ga_15 0)), (kAI vFn cI 2 (ga_15 1))]) hP hD hC [0, 1, 2, 3, 4, 5, 6] rfl (by decide +kernel) (by decide +kernel) hk1 hFc hP1 hD1 rfl
              clear hP hD hPc hDc hFc hC hP1 hD1 hK1 hz1 hk1 hvm ht
              obtain ⟨hP, hD⟩ := hJ
              generalize H1 = H at hP hS ⊢
              try dsimp only at hw
              by_cases c_72 : ((le >>> (y_1 &&& 31)) &&& 1) = 1
              · rw [if_pos c_72] at hw
                refine k_topi (v := 1) hw ?_
                refine lv_if_ne (tgt := 150) hx₀ hb dX12_goes_119 (by decide) (fun _ => ?_) (fun c9 => absurd c9 (by decide +kernel))
                refine lv_aload_n hx₀ hb dX12_goes_150 rfl (lv_at hl 2 rfl) ?_
                refine va_get (D := (dC, dI)) (ci := 11) (v := .int an) (C := RX12) (T := TX12) (N := 30) hx₀ hb hts inlX12 hown hK hP 2 rfl rfl 21 (by decide) (hts (.fieldLink RX12 184 "BittenStickModel" "anger" "I") wd_544) (fun _ h9 => h9) rfl dX12_goes_151 ?_
                refine lv_iconst (v := 5) hx₀ hb dX12_goes_154 (by decide +kernel) ?_
                refine lv_aload_n hx₀ hb dX12_goes_155 rfl (lv_at hl 2 rfl) ?_
                refine va_get (D := (dC, dI)) (ci := 11) (v := .ref vPs) (C := RX12) (T := TX12) (N := 30) hx₀ hb hts inlX12 hown hK hP 2 rfl rfl 10 (by decide) (hts (.fieldLink RX12 31 "BittenStickModel" "passenger" "[I") wd_122) (fun _ h9 => h9) rfl dX12_goes_156 ?_
                refine lv_iconst (v := 4) hx₀ hb dX12_goes_159 (by decide +kernel) ?_
                refine lv_iload_n hx₀ hb dX12_goes_160 rfl (lv_at hl 3 rfl) ?_
                refine lv_imul hx₀ hb dX12_goes_161 ?_
                refine lv_iconst (v := 2) hx₀ hb dX12_goes_162 (by decide +kernel) ?_
                refine lv_iadd hx₀ hb dX12_goes_163 ?_
                refine va_iald hx₀ hb hK hP 1 0 rfl rfl (vp_in_iff.mpr (lf_g_goes_3 p1 hh0)) dX12_goes_164 ?_
                refine lv_topi (fun y_73 ey_73 => ?_)
                refine lv_imul hx₀ hb dX12_goes_165 ?_
                refine lv_icmp_le (tgt := 171) hx₀ hb dX12_goes_166 (by decide) (fun c_74 => ?_) (fun c_74 => ?_)
                · refine lv_iload hx₀ hb dX12_goes_171 (lv_at hl 1 rfl) ?_
                  refine lv_bipush (v := 7) hx₀ hb dX12_goes_173 (by decide +kernel) ?_
                  refine lv_icmp_ne (tgt := 242) hx₀ hb dX12_goes_175 (by decide) (fun c_75 => ?_) (fun c9 => (lf_g_goes_10 p1 m1 y_1 ga_5 (qSt 1) (qFn 1) ga_15 y_24 y_23 y_26 h1 co an y_73 hh0 hh1 c_2 c_11 c_12 c_21 c_22 c_25 c_27 c_28 c_57 c_58 c_74 c9).elim)
                  refine lv_iconst (v := 0) hx₀ hb dX12_goes_242 (by decide +kernel) ?_
                  obtain ⟨hP9, hD9⟩ := k_c2 (wc := [(kX12 hm vFo vSi vIt vMo la vBy vTy mi vMi pn vPs gn vGs fn vFt le vTo kn fe en ca an (co + (h1 - 5)) vPr vSt vFn sn vSg vAl dr), (kAI vMi cI 24 qMi), (kAI vPs cI 32 qPs), (kAI vGs cI 16 qGs), (kAI vPr cI 2 qPr), (kAI vSt cI 2 (ga_15 0)), (kAI vFn cI 2 (ga_15 1))]) hP hD [2, 0, 1, 3, 4, 5, 6] (by decide +kernel) rfl
                  exact W.iret (v := 0) hx₀ hb hr (fun t₀ ht hW => ⟨⟨0, (k_fn [an, (co + (h1 - 5))], k_fa [qPr, ga_15 0, ga_15 1], k_fl [], k_fL [], k_fp []), rfl, hh2, by rw [ht]; exact hP9, va_K.moved hW.alike hK, hD9⟩, hS.F ht⟩) hS.2.2 dX12_goes_243
                · refine lv_iconst (v := 3) hx₀ hb dX12_goes_169 (by decide +kernel) ?_
                  obtain ⟨hP9, hD9⟩ := k_c2 (wc := [(kX12 hm vFo vSi vIt vMo la vBy vTy mi vMi pn vPs gn vGs fn vFt le vTo kn fe en ca an (co + (h1 - 5)) vPr vSt vFn sn vSg vAl dr), (kAI vMi cI 24 qMi), (kAI vPs cI 32 qPs), (kAI vGs cI 16 qGs), (kAI vPr cI 2 qPr), (kAI vSt cI 2 (ga_15 0)), (kAI vFn cI 2 (ga_15 1))]) hP hD [2, 0, 1, 3, 4, 5, 6] (by decide +kernel) rfl
                  exact W.iret (v := 3) hx₀ hb hr (fun t₀ ht hW => ⟨⟨3, (k_fn [an, (co + (h1 - 5))], k_fa [qPr, ga_15 0, ga_15 1], k_fl [], k_fL [], k_fp []), rfl, hh2, by rw [ht]; exact hP9, va_K.moved hW.alike hK, hD9⟩, hS.F ht⟩) hS.2.2 dX12_goes_170
              rw [if_neg c_72] at hw
              refine k_topi (v := 0) hw ?_
              refine lv_if_ne (tgt := 150) hx₀ hb dX12_goes_119 (by decide) (fun c9 => absurd (by decide +kernel) c9) (fun _ => ?_)
              refine lv_aload_n hx₀ hb dX12_goes_122 rfl (lv_at hl 2 rfl) ?_
              refine va_get (D := (dC, dI)) (ci := 11) (v := .int ca) (C := RX12) (T := TX12) (N := 30) hx₀ hb hts inlX12 hown hK hP 2 rfl rfl 20 (by decide) (hts (.fieldLink RX12 59 "BittenStickModel" "calling" "I") wd_132) (fun _ h9 => h9) rfl dX12_goes_123 ?_
              refine lv_iload_n hx₀ hb dX12_goes_126 rfl (lv_at hl 4 rfl) ?_
              obtain ⟨hPc, hDc, hFc, hC⟩ := k_cw (wc := []) hP hD hS hA [] (by decide +kernel) rfl
              refine va_calli (va_runS (As := [.int ca, .int m1]) (rest := []) ⟨hx₀, hb, hml, hown, hts⟩ (g_isIn l dC dI cI cJ cQ H.size ca m1) (va_cwS 2 hts (kGS wd_560 wd_558 wd_559 wd_5) rfl rfl rfl (by decide +kernel) ⟨Nat.le_of_ble_eq_true rfl, Nat.le_of_ble_eq_true rfl⟩) (k_preS hK hPc hDc hN) rfl rfl hl.1 rfl (lv_room (Nat.le_of_ble_eq_true rfl)) dX12_goes_127 ⟨by decide +kernel, by decide +kernel⟩) hS (fun q _ h => hFc q h) hFc (fun r_76 u₀ t₀ H1 locs ht hvm hw hB hz1 hk1 hS => ?_)
              obtain ⟨hP1, hK1, hD1⟩ := hB
              rw [ht] at hP1
              have hJ := k_jn (wr := [(kAI vMi cI 24 qMi), (kAI vPs cI 32 qPs), (kX12 hm vFo vSi vIt vMo la vBy vTy mi vMi pn vPs gn vGs fn vFt le vTo kn fe en ca an (co + (h1 - 5)) vPr vSt vFn sn vSg vAl dr), (kAI vGs cI 16 qGs), (kAI vPr cI 2 qPr), (kAI vSt cI 2 (ga_15 0)), (kAI vFn cI 2 (ga_15 1))]) (wt := [(kAI vMi cI 24 qMi), (kAI vPs cI 32 qPs), (kX12 hm vFo vSi vIt vMo la vBy vTy mi vMi pn vPs gn vGs fn vFt le vTo kn fe en ca an (co + (h1 - 5)) vPr vSt vFn sn vSg vAl dr), (kAI vGs cI 16 qGs), (kAI vPr cI 2 qPr), (kAI vSt cI 2 (ga_15 0)), (kAI vFn cI 2 (ga_15 1))]) hP hD hC [0, 1, 2, 3, 4, 5, 6] rfl (by decide +kernel) (by decide +kernel) hk1 hFc hP1 hD1 rfl
              clear hP hD hPc hDc hFc hC hP1 hD1 hK1 hz1 hk1 hvm ht
              obtain ⟨hP, hD⟩ := hJ
              generalize H1 = H at hP hS ⊢
              try dsimp only at hw
              by_cases c_77 : ((ca >>> (m1 &&& 31)) &&& 1) = 1
              · rw [if_pos c_77] at hw
                refine k_topi (v := 1) hw ?_
                refine lv_if_eq (tgt := 150) hx₀ hb dX12_goes_130 (by decide) (fun c9 => absurd c9 (by decide +kernel)) (fun _ => ?_)
                refine lv_aload_n hx₀ hb dX12_goes_133 rfl (lv_at hl 2 rfl) ?_
                refine lv_dup hx₀ hb dX12_goes_134 rfl ?_
                refine va_get (D := (dC, dI)) (ci := 11) (v := .int an) (C := RX12) (T := TX12) (N := 30) hx₀ hb hts inlX12 hown hK hP 2 rfl rfl 21 (by decide) (hts (.fieldLink RX12 184 "BittenStickModel" "anger" "I") wd_544) (fun _ h9 => h9) rfl dX12_goes_135 ?_
                refine lv_aload_n hx₀ hb dX12_goes_138 rfl (lv_at hl 2 rfl) ?_
                refine lv_iload_n hx₀ hb dX12_goes_139 rfl (lv_at hl 3 rfl) ?_
                refine lv_iload hx₀ hb dX12_goes_140 (lv_at hl 1 rfl) ?_
                refine lv_iload_n hx₀ hb dX12_goes_142 rfl (lv_at hl 5 rfl) ?_
                obtain ⟨hPc, hDc, hFc, hC⟩ := k_cw (wc := [(kX12 hm vFo vSi vIt vMo la vBy vTy mi vMi pn vPs gn vGs fn vFt le vTo kn fe en ca an (co + (h1 - 5)) vPr vSt vFn sn vSg vAl dr), (kAI vPs cI 32 qPs)]) hP hD hS hA [2, 1] (by decide +kernel) rfl
                refine va_calli (va_runV (As := [.int p1, .int y_1, .int h1]) (rest := [.int an, .ref hm]) ⟨hx₀, hb, hml, hown, hts⟩ (g_angerBy l dC dI cI cJ cQ H.size hm p1 y_1 h1 vFo vSi vIt vMo la vBy vTy mi vMi pn vPs gn vGs fn vFt le vTo kn fe en ca an (co + (h1 - 5)) vPr vSt vFn sn vSg vAl dr qPs (hh0)) (cwV 3 hts (kGV wd_564 wd_561 wd_562 wd_563 wd_5) rfl rfl rfl (by decide +kernel) ⟨Nat.le_of_ble_eq_true rfl, Nat.le_of_ble_eq_true rfl⟩) (k_preV11 (q0 := 0) hK hPc hDc hN rfl) rfl rfl hl.1 rfl (lv_room (Nat.le_of_ble_eq_true rfl)) dX12_goes_143 ⟨by decide +kernel, by decide +kernel⟩) hS (fun q _ h => hFc q h) hFc (fun r_78 u₀ t₀ H1 locs ht hvm hw hB hz1 hk1 hS => ?_)
                obtain ⟨hP1, hK1, hD1⟩ := hB
                rw [ht] at hP1
                have hJ := k_jn (wr := [(kAI vMi cI 24 qMi), (kAI vGs cI 16 qGs), (kAI vPr cI 2 qPr), (kAI vSt cI 2 (ga_15 0)), (kAI vFn cI 2 (ga_15 1))]) (wt := [(kAI vMi cI 24 qMi), (kAI vGs cI 16 qGs), (kAI vPr cI 2 qPr), (kAI vSt cI 2 (ga_15 0)), (kAI vFn cI 2 (ga_15 1)), (kX12 hm vFo vSi vIt vMo la vBy vTy mi vMi pn vPs gn vGs fn vFt le vTo kn fe en ca an (co + (h1 - 5)) vPr vSt vFn sn vSg vAl dr), (kAI vPs cI 32 qPs)]) hP hD hC [0, 3, 4, 5, 6] rfl (by decide +kernel) (by decide +kernel) hk1 hFc hP1 hD1 rfl
                clear hP hD hPc hDc hFc hC hP1 hD1 hK1 hz1 hk1 hvm ht
                obtain ⟨hP, hD⟩ := hJ
                generalize H1 = H at hP hS ⊢
                try dsimp only at hw
                refine k_topi (v := kAn (kP0 qPs p1) (kP1 qPs p1) y_1 h1) hw ?_
                refine lv_iadd hx₀ hb dX12_goes_146 ?_
                refine va_put (D := (dC, dI)) (ci := 11) (v := .int (an + (kAn (kP0 qPs p1) (kP1 qPs p1) y_1 h1))) (ty := .int) (C := RX12) (T := TX12) (N := 30) hx₀ hb hts inlX12 tyX12 tyX12_ok nmX12 hown hK hP hD hS 5 rfl rfl 21 (by decide) (hts (.fieldLink RX12 184 "BittenStickModel" "anger" "I") wd_544) (fun _ h9 => h9) rfl (by decide +kernel) rfl rfl (Nat.le_of_ble_eq_true rfl) dX12_goes_147 ?_
                clear hP hD hS
                intro H locs hP hD hS
                replace hP := k_w2 (wt := [(kAI vMi cI 24 qMi), (kAI vGs cI 16 qGs), (kAI vPr cI 2 qPr), (kAI vSt cI 2 (ga_15 0)), (kAI vFn cI 2 (ga_15 1)), (kX12 hm vFo vSi vIt vMo la vBy vTy mi vMi pn vPs gn vGs fn vFt le vTo kn fe en ca (an + (kAn (kP0 qPs p1) (kP1 qPs p1) y_1 h1)) (co + (h1 - 5)) vPr vSt vFn sn vSg vAl dr), (kAI vPs cI 32 qPs)]) hP hD rfl
                replace hD := hP.2
                replace hP := hP.1
                refine lv_aload_n hx₀ hb dX12_goes_150 rfl (lv_at hl 2 rfl) ?_
                refine va_get (D := (dC, dI)) (ci := 11) (v := .int (an + (kAn (kP0 qPs p1) (kP1 qPs p1) y_1 h1))) (C := RX12) (T := TX12) (N := 30) hx₀ hb hts inlX12 hown hK hP 5 rfl rfl 21 (by decide) (hts (.fieldLink RX12 184 "BittenStickModel" "anger" "I") wd_544) (fun _ h9 => h9) rfl dX12_goes_151 ?_
                refine lv_iconst (v := 5) hx₀ hb dX12_goes_154 (by decide +kernel) ?_
                refine lv_aload_n hx₀ hb dX12_goes_155 rfl (lv_at hl 2 rfl) ?_
                refine va_get (D := (dC, dI)) (ci := 11) (v := .ref vPs) (C := RX12) (T := TX12) (N := 30) hx₀ hb hts inlX12 hown hK hP 5 rfl rfl 10 (by decide) (hts (.fieldLink RX12 31 "BittenStickModel" "passenger" "[I") wd_122) (fun _ h9 => h9) rfl dX12_goes_156 ?_
                refine lv_iconst (v := 4) hx₀ hb dX12_goes_159 (by decide +kernel) ?_
                refine lv_iload_n hx₀ hb dX12_goes_160 rfl (lv_at hl 3 rfl) ?_
                refine lv_imul hx₀ hb dX12_goes_161 ?_
                refine lv_iconst (v := 2) hx₀ hb dX12_goes_162 (by decide +kernel) ?_
                refine lv_iadd hx₀ hb dX12_goes_163 ?_
                refine va_iald hx₀ hb hK hP 6 0 rfl rfl (vp_in_iff.mpr (lf_g_goes_3 p1 hh0)) dX12_goes_164 ?_
                refine lv_topi (fun y_79 ey_79 => ?_)
                refine lv_imul hx₀ hb dX12_goes_165 ?_
                refine lv_icmp_le (tgt := 171) hx₀ hb dX12_goes_166 (by decide) (fun c_80 => ?_) (fun c_80 => ?_)
                · refine lv_iload hx₀ hb dX12_goes_171 (lv_at hl 1 rfl) ?_
                  refine lv_bipush (v := 7) hx₀ hb dX12_goes_173 (by decide +kernel) ?_
                  refine lv_icmp_ne (tgt := 242) hx₀ hb dX12_goes_175 (by decide) (fun c_81 => ?_) (fun c9 => (lf_g_goes_11 p1 m1 y_1 ga_5 (qSt 1) (qFn 1) ga_15 y_24 y_23 y_26 h1 co hh0 hh1 c_2 c_11 c_12 c_21 c_22 c_25 c_27 c_28 c_57 c_58 c9).elim)
                  refine lv_iconst (v := 0) hx₀ hb dX12_goes_242 (by decide +kernel) ?_
                  obtain ⟨hP9, hD9⟩ := k_c2 (wc := [(kX12 hm vFo vSi vIt vMo la vBy vTy mi vMi pn vPs gn vGs fn vFt le vTo kn fe en ca (an + (kAn (kP0 qPs p1) (kP1 qPs p1) y_1 h1)) (co + (h1 - 5)) vPr vSt vFn sn vSg vAl dr), (kAI vMi cI 24 qMi), (kAI vPs cI 32 qPs), (kAI vGs cI 16 qGs), (kAI vPr cI 2 qPr), (kAI vSt cI 2 (ga_15 0)), (kAI vFn cI 2 (ga_15 1))]) hP hD [5, 0, 6, 1, 2, 3, 4] (by decide +kernel) rfl
                  exact W.iret (v := 0) hx₀ hb hr (fun t₀ ht hW => ⟨⟨0, (k_fn [(an + (kAn (kP0 qPs p1) (kP1 qPs p1) y_1 h1)), (co + (h1 - 5))], k_fa [qPr, ga_15 0, ga_15 1], k_fl [], k_fL [], k_fp []), rfl, hh2, by rw [ht]; exact hP9, va_K.moved hW.alike hK, hD9⟩, hS.F ht⟩) hS.2.2 dX12_goes_243
                · refine lv_iconst (v := 3) hx₀ hb dX12_goes_169 (by decide +kernel) ?_
                  obtain ⟨hP9, hD9⟩ := k_c2 (wc := [(kX12 hm vFo vSi vIt vMo la vBy vTy mi vMi pn vPs gn vGs fn vFt le vTo kn fe en ca (an + (kAn (kP0 qPs p1) (kP1 qPs p1) y_1 h1)) (co + (h1 - 5)) vPr vSt vFn sn vSg vAl dr), (kAI vMi cI 24 qMi), (kAI vPs cI 32 qPs), (kAI vGs cI 16 qGs), (kAI vPr cI 2 qPr), (kAI vSt cI 2 (ga_15 0)), (kAI vFn cI 2 (ga_15 1))]) hP hD [5, 0, 6, 1, 2, 3, 4] (by decide +kernel) rfl
                  exact W.iret (v := 3) hx₀ hb hr (fun t₀ ht hW => ⟨⟨3, (k_fn [(an + (kAn (kP0 qPs p1) (kP1 qPs p1) y_1 h1)), (co + (h1 - 5))], k_fa [qPr, ga_15 0, ga_15 1], k_fl [], k_fL [], k_fp []), rfl, hh2, by rw [ht]; exact hP9, va_K.moved hW.alike hK, hD9⟩, hS.F ht⟩) hS.2.2 dX12_goes_170
              rw [if_neg c_77] at hw
              refine k_topi (v := 0) hw ?_
              refine lv_if_eq (tgt := 150) hx₀ hb dX12_goes_130 (by decide) (fun _ => ?_) (fun c9 => absurd (by decide +kernel) c9)
              refine lv_aload_n hx₀ hb dX12_goes_150 rfl (lv_at hl 2 rfl) ?_
              refine va_get (D := (dC, dI)) (ci := 11) (v := .int an) (C := RX12) (T := TX12) (N := 30) hx₀ hb hts inlX12 hown hK hP 2 rfl rfl 21 (by decide) (hts (.fieldLink RX12 184 "BittenStickModel" "anger" "I") wd_544) (fun _ h9 => h9) rfl dX12_goes_151 ?_
              refine lv_iconst (v := 5) hx₀ hb dX12_goes_154 (by decide +kernel) ?_
              refine lv_aload_n hx₀ hb dX12_goes_155 rfl (lv_at hl 2 rfl) ?_
              refine va_get (D := (dC, dI)) (ci := 11) (v := .ref vPs) (C := RX12) (T := TX12) (N := 30) hx₀ hb hts inlX12 hown hK hP 2 rfl rfl 10 (by decide) (hts (.fieldLink RX12 31 "BittenStickModel" "passenger" "[I") wd_122) (fun _ h9 => h9) rfl dX12_goes_156 ?_
              refine lv_iconst (v := 4) hx₀ hb dX12_goes_159 (by decide +kernel) ?_
              refine lv_iload_n hx₀ hb dX12_goes_160 rfl (lv_at hl 3 rfl) ?_
              refine lv_imul hx₀ hb dX12_goes_161 ?_
              refine lv_iconst (v := 2) hx₀ hb dX12_goes_162 (by decide +kernel) ?_
              refine lv_iadd hx₀ hb dX12_goes_163 ?_
              refine va_iald hx₀ hb hK hP 1 0 rfl rfl (vp_in_iff.mpr (lf_g_goes_3 p1 hh0)) dX12_goes_164 ?_
              refine lv_topi (fun y_82 ey_82 => ?_)
              refine lv_imul hx₀ hb dX12_goes_165 ?_
              refine lv_icmp_le (tgt := 171) hx₀ hb dX12_goes_166 (by decide) (fun c_83 => ?_) (fun c_83 => ?_)
              · refine lv_iload hx₀ hb dX12_goes_171 (lv_at hl 1 rfl) ?_
                refine lv_bipush (v := 7) hx₀ hb dX12_goes_173 (by decide +kernel) ?_
                refine lv_icmp_ne (tgt := 242) hx₀ hb dX12_goes_175 (by decide) (fun c_84 => ?_) (fun c9 => (lf_g_goes_10 p1 m1 y_1 ga_5 (qSt 1) (qFn 1) ga_15 y_24 y_23 y_26 h1 co an y_82 hh0 hh1 c_2 c_11 c_12 c_21 c_22 c_25 c_27 c_28 c_57 c_58 c_83 c9).elim)
                refine lv_iconst (v := 0) hx₀ hb dX12_goes_242 (by decide +kernel) ?_
                obtain ⟨hP9, hD9⟩ := k_c2 (wc := [(kX12 hm vFo vSi vIt vMo la vBy vTy mi vMi pn vPs gn vGs fn vFt le vTo kn fe en ca an (co + (h1 - 5)) vPr vSt vFn sn vSg vAl dr), (kAI vMi cI 24 qMi), (kAI vPs cI 32 qPs), (kAI vGs cI 16 qGs), (kAI vPr cI 2 qPr), (kAI vSt cI 2 (ga_15 0)), (kAI vFn cI 2 (ga_15 1))]) hP hD [2, 0, 1, 3, 4, 5, 6] (by decide +kernel) rfl
                exact W.iret (v := 0) hx₀ hb hr (fun t₀ ht hW => ⟨⟨0, (k_fn [an, (co + (h1 - 5))], k_fa [qPr, ga_15 0, ga_15 1], k_fl [], k_fL [], k_fp []), rfl, hh2, by rw [ht]; exact hP9, va_K.moved hW.alike hK, hD9⟩, hS.F ht⟩) hS.2.2 dX12_goes_243
              · refine lv_iconst (v := 3) hx₀ hb dX12_goes_169 (by decide +kernel) ?_
                obtain ⟨hP9, hD9⟩ := k_c2 (wc := [(kX12 hm vFo vSi vIt vMo la vBy vTy mi vMi pn vPs gn vGs fn vFt le vTo kn fe en ca an (co + (h1 - 5)) vPr vSt vFn sn vSg vAl dr), (kAI vMi cI 24 qMi), (kAI vPs cI 32 qPs), (kAI vGs cI 16 qGs), (kAI vPr cI 2 qPr), (kAI vSt cI 2 (ga_15 0)), (kAI vFn cI 2 (ga_15 1))]) hP hD [2, 0, 1, 3, 4, 5, 6] (by decide +kernel) rfl
                exact W.iret (v := 3) hx₀ hb hr (fun t₀ ht hW => ⟨⟨3, (k_fn [an, (co + (h1 - 5))], k_fa [qPr, ga_15 0, ga_15 1], k_fl [], k_fL [], k_fp []), rfl, hh2, by rw [ht]; exact hP9, va_K.moved hW.alike hK, hD9⟩, hS.F ht⟩) hS.2.2 dX12_goes_170
          · refine lv_iconst (v := 2) hx₀ hb dX12_goes_101 (by decide +kernel) ?_
            obtain ⟨hP9, hD9⟩ := k_c2 (wc := [(kX12 hm vFo vSi vIt vMo la vBy vTy mi vMi pn vPs gn vGs fn vFt le vTo kn fe en ca an (co + (h1 - 5)) vPr vSt vFn sn vSg vAl dr), (kAI vMi cI 24 qMi), (kAI vPs cI 32 qPs), (kAI vGs cI 16 qGs), (kAI vPr cI 2 qPr), (kAI vSt cI 2 (ga_15 0)), (kAI vFn cI 2 (ga_15 1))]) hP hD [2, 0, 1, 3, 4, 5, 6] (by decide +kernel) rfl
            exact W.iret (v := 2) hx₀ hb hr (fun t₀ ht hW => ⟨⟨2, (k_fn [an, (co + (h1 - 5))], k_fa [qPr, ga_15 0, ga_15 1], k_fl [], k_fL [], k_fp []), rfl, hh2, by rw [ht]; exact hP9, va_K.moved hW.alike hK, hD9⟩, hS.F ht⟩) hS.2.2 dX12_goes_102
      · refine lv_iconst (v := 1) hx₀ hb dX12_goes_69 (by decide +kernel) ?_
        obtain ⟨hP9, hD9⟩ := k_c2 (wc := [(kX12 hm vFo vSi vIt vMo la vBy vTy mi vMi pn vPs gn vGs fn vFt le vTo kn fe en ca an co vPr vSt vFn sn vSg vAl dr), (kAI vMi cI 24 qMi), (kAI vPs cI 32 qPs), (kAI vGs cI 16 qGs), (kAI vPr cI 2 qPr), (kAI vSt cI 2 (ga_15 0)), (kAI vFn cI 2 (ga_15 1))]) hP hD [2, 0, 1, 3, 4, 5, 6] (by decide +kernel) rfl
        exact W.iret (v := 1) hx₀ hb hr (fun t₀ ht hW => ⟨⟨1, (k_fn [an, co], k_fa [qPr, ga_15 0, ga_15 1], k_fl [], k_fL [], k_fp []), rfl, hh2, by rw [ht]; exact hP9, va_K.moved hW.alike hK, hD9⟩, hS.F ht⟩) hS.2.2 dX12_goes_70
  · refine lv_aload_n hx₀ hb dX12_goes_15 rfl (lv_at hl 1 rfl) ?_
    obtain ⟨hPc, hDc, hFc, hC⟩ := k_cw (wc := [(kX12 hm vFo vSi vIt vMo la vBy vTy mi vMi pn vPs gn vGs fn vFt le vTo kn fe en ca an co vPr vSt vFn sn vSg vAl dr), (kAI vPr cI 2 qPr), (kAI vSt cI 2 qSt), (kAI vFn cI 2 qFn)]) hP hD hS hA [0, 4, 5, 6] (by decide +kernel) rfl
    refine va_callv (va_runV (As := []) (rest := []) ⟨hx₀, hb, hml, hown, hts⟩ (g_changes l dC dI cI cJ cQ H.size hm vFo vSi vIt vMo la vBy vTy mi vMi pn vPs gn vGs fn vFt le vTo kn fe en ca an co vPr vSt vFn sn vSg vAl dr qPr qSt qFn (hh2)) (cwV 0 hts (kGV wd_553 wd_550 wd_551 wd_552 wd_5) rfl rfl rfl (by decide +kernel) ⟨Nat.le_of_ble_eq_true rfl, Nat.le_of_ble_eq_true rfl⟩) (k_preV11 (q0 := 0) hK hPc hDc hN rfl) rfl rfl hl.1 rfl (lv_room (Nat.le_of_ble_eq_true rfl)) dX12_goes_16 ⟨by decide +kernel, by decide +kernel⟩) hS (fun q _ h => hFc q h) hFc (fun u₀ t₀ H1 locs ht hvm hw hB hz1 hk1 hS => ?_)
    obtain ⟨g_86, ga_87, gl_88, gb_89, gp_90⟩ := u₀
    obtain ⟨hP1, hK1, hD1⟩ := hB
    rw [ht] at hP1
    have hJ := k_jn (wr := [(kAI vMi cI 24 qMi), (kAI vPs cI 32 qPs), (kAI vGs cI 16 qGs)]) (wt := [(kAI vMi cI 24 qMi), (kAI vPs cI 32 qPs), (kAI vGs cI 16 qGs), (kX12 hm vFo vSi vIt vMo la vBy vTy mi vMi pn vPs gn vGs fn vFt le vTo kn fe en ca an co vPr vSt vFn sn vSg vAl dr), (kAI vPr cI 2 (ga_87 0)), (kAI vSt cI 2 (ga_87 1)), (kAI vFn cI 2 (ga_87 2))]) hP hD hC [1, 2, 3] rfl (by decide +kernel) (by decide +kernel) hk1 hFc hP1 hD1 rfl
    clear hP hD hPc hDc hFc hC hP1 hD1 hK1 hz1 hk1 hvm ht
    obtain ⟨hP, hD⟩ := hJ
    generalize H1 = H at hP hS ⊢
    try dsimp only at hw
    obtain ⟨c_91, c_92, c_93, c_94, c_95, c_96, c_97⟩ := hw
    refine lv_aload_n hx₀ hb dX12_goes_19 rfl (lv_at hl 1 rfl) ?_
    refine lv_iconst (v := 0) hx₀ hb dX12_goes_20 (by decide +kernel) ?_
    obtain ⟨hPc, hDc, hFc, hC⟩ := k_cw (wc := [(kX12 hm vFo vSi vIt vMo la vBy vTy mi vMi pn vPs gn vGs fn vFt le vTo kn fe en ca an co vPr vSt vFn sn vSg vAl dr), (kAI vGs cI 16 qGs), (kAI vPr cI 2 (ga_87 0)), (kAI vSt cI 2 (ga_87 1)), (kAI vFn cI 2 (ga_87 2))]) hP hD hS hA [3, 2, 4, 5, 6] (by decide +kernel) rfl
    refine va_callv (va_runV (As := [.int 0]) (rest := []) ⟨hx₀, hb, hml, hown, hts⟩ (g_tires0 l dC dI cI cJ cQ H.size hm vFo vSi vIt vMo la vBy vTy mi vMi pn vPs gn vGs fn vFt le vTo kn fe en ca an co vPr vSt vFn sn vSg vAl dr qGs (ga_87 0) (ga_87 1) (ga_87 2) (c_97)) (cwV 1 hts (kGV wd_557 wd_554 wd_555 wd_556 wd_5) rfl rfl rfl (by decide +kernel) ⟨Nat.le_of_ble_eq_true rfl, Nat.le_of_ble_eq_true rfl⟩) (k_preV11 (q0 := 0) hK hPc hDc hN rfl) rfl rfl hl.1 rfl (lv_room (Nat.le_of_ble_eq_true rfl)) dX12_goes_21 ⟨by decide +kernel, by decide +kernel⟩) hS (fun q _ h => hFc q h) hFc (fun u₀ t₀ H1 locs ht hvm hw hB hz1 hk1 hS => ?_)
    obtain ⟨g_99, ga_100, gl_101, gb_102, gp_103⟩ := u₀
    obtain ⟨hP1, hK1, hD1⟩ := hB
    rw [ht] at hP1
    have hJ := k_jn (wr := [(kAI vMi cI 24 qMi), (kAI vPs cI 32 qPs)]) (wt := [(kAI vMi cI 24 qMi), (kAI vPs cI 32 qPs), (kX12 hm vFo vSi vIt vMo la vBy vTy mi vMi pn vPs gn vGs fn vFt le vTo kn fe en ca an co vPr vSt vFn sn vSg vAl dr), (kAI vGs cI 16 qGs), (kAI vPr cI 2 (ga_87 0)), (kAI vSt cI 2 (ga_100 0)), (kAI vFn cI 2 (ga_100 1))]) hP hD hC [0, 1] rfl (by decide +kernel) (by decide +kernel) hk1 hFc hP1 hD1 rfl
    clear hP hD hPc hDc hFc hC hP1 hD1 hK1 hz1 hk1 hvm ht
    obtain ⟨hP, hD⟩ := hJ
    generalize H1 = H at hP hS ⊢
    try dsimp only at hw
    obtain ⟨c_104, c_105, c_106, c_107⟩ := hw
    refine lv_aload_n hx₀ hb dX12_goes_24 rfl (lv_at hl 1 rfl) ?_
    refine lv_iconst (v := 1) hx₀ hb dX12_goes_25 (by decide +kernel) ?_
    obtain ⟨hPc, hDc, hFc, hC⟩ := k_cw (wc := [(kX12 hm vFo vSi vIt vMo la vBy vTy mi vMi pn vPs gn vGs fn vFt le vTo kn fe en ca an co vPr vSt vFn sn vSg vAl dr), (kAI vGs cI 16 qGs), (kAI vPr cI 2 (ga_87 0)), (kAI vSt cI 2 (ga_100 0)), (kAI vFn cI 2 (ga_100 1))]) hP hD hS hA [2, 3, 4, 5, 6] (by decide +kernel) rfl
    refine va_callv (va_runV (As := [.int 1]) (rest := []) ⟨hx₀, hb, hml, hown, hts⟩ (g_tires1 l dC dI cI cJ cQ H.size hm vFo vSi vIt vMo la vBy vTy mi vMi pn vPs gn vGs fn vFt le vTo kn fe en ca an co vPr vSt vFn sn vSg vAl dr qGs (ga_87 0) (ga_100 0) (ga_100 1) (c_97)) (cwV 1 hts (kGV wd_557 wd_554 wd_555 wd_556 wd_5) rfl rfl rfl (by decide +kernel) ⟨Nat.le_of_ble_eq_true rfl, Nat.le_of_ble_eq_true rfl⟩) (k_preV11 (q0 := 0) hK hPc hDc hN rfl) rfl rfl hl.1 rfl (lv_room (Nat.le_of_ble_eq_true rfl)) dX12_goes_26 ⟨by decide +kernel, by decide +kernel⟩) hS (fun q _ h => hFc q h) hFc (fun u₀ t₀ H1 locs ht hvm hw hB hz1 hk1 hS => ?_)
    obtain ⟨g_109, ga_110, gl_111, gb_112, gp_113⟩ := u₀
    obtain ⟨hP1, hK1, hD1⟩ := hB
    rw [ht] at hP1
    have hJ := k_jn (wr := [(kAI vMi cI 24 qMi), (kAI vPs cI 32 qPs)]) (wt := [(kAI vMi cI 24 qMi), (kAI vPs cI 32 qPs), (kX12 hm vFo vSi vIt vMo la vBy vTy mi vMi pn vPs gn vGs fn vFt le vTo kn fe en ca an co vPr vSt vFn sn vSg vAl dr), (kAI vGs cI 16 qGs), (kAI vPr cI 2 (ga_87 0)), (kAI vSt cI 2 (ga_110 0)), (kAI vFn cI 2 (ga_110 1))]) hP hD hC [0, 1] rfl (by decide +kernel) (by decide +kernel) hk1 hFc hP1 hD1 rfl
    clear hP hD hPc hDc hFc hC hP1 hD1 hK1 hz1 hk1 hvm ht
    obtain ⟨hP, hD⟩ := hJ
    generalize H1 = H at hP hS ⊢
    try dsimp only at hw
    obtain ⟨c_114, c_115, c_116, c_117⟩ := hw
    refine lv_aload_n hx₀ hb dX12_goes_29 rfl (lv_at hl 1 rfl) ?_
    refine va_get (D := (dC, dI)) (ci := 11) (v := .ref vPs) (C := RX12) (T := TX12) (N := 30) hx₀ hb hts inlX12 hown hK hP 2 rfl rfl 10 (by decide) (hts (.fieldLink RX12 31 "BittenStickModel" "passenger" "[I") wd_122) (fun _ h9 => h9) rfl dX12_goes_30 ?_
    refine lv_iconst (v := 4) hx₀ hb dX12_goes_33 (by decide +kernel) ?_
    refine lv_iload_n hx₀ hb dX12_goes_34 rfl (lv_at hl 2 rfl) ?_
    refine lv_imul hx₀ hb dX12_goes_35 ?_
    refine lv_iconst (v := 3) hx₀ hb dX12_goes_36 (by decide +kernel) ?_
    refine lv_iadd hx₀ hb dX12_goes_37 ?_
    refine va_iald hx₀ hb hK hP 1 0 rfl rfl (vp_in_iff.mpr (lf_g_goes_2 p1 hh0)) dX12_goes_38 ?_
    refine lv_topi (fun y_118 ey_118 => ?_)
    refine lv_istore (lv' := [(5, .int y_118), (4, .int y_1), (0, .ref hm), (1, .int p1), (2, .int m1), (3, .int h1)]) hx₀ hb dX12_goes_39 hl (by decide) rfl (fun ls hl => ?_)
    refine lv_aload_n hx₀ hb dX12_goes_41 rfl (lv_at hl 2 rfl) ?_
    refine va_get (D := (dC, dI)) (ci := 11) (v := .ref vSt) (C := RX12) (T := TX12) (N := 30) hx₀ hb hts inlX12 hown hK hP 2 rfl rfl 24 (by decide) (hts (.fieldLink RX12 46 "BittenStickModel" "strong" "[I") wd_127) (fun _ h9 => h9) rfl dX12_goes_42 ?_
    refine lv_iconst (v := 0) hx₀ hb dX12_goes_45 (by decide +kernel) ?_
    refine va_iald hx₀ hb hK hP 5 0 rfl rfl (by unfold vp_in; decide +kernel) dX12_goes_46 ?_
    refine lv_topi (fun y_119 ey_119 => ?_)
    refine lv_iload hx₀ hb dX12_goes_47 (lv_at hl 0 rfl) ?_
    refine lv_iconst (v := 1) hx₀ hb dX12_goes_49 (by decide +kernel) ?_
    refine lv_iadd hx₀ hb dX12_goes_50 ?_
    refine lv_iconst (v := 2) hx₀ hb dX12_goes_51 (by decide +kernel) ?_
    refine lv_idiv hx₀ hb dX12_goes_52 (by decide +kernel) ?_
    refine lv_icmp_lt (tgt := 69) hx₀ hb dX12_goes_53 (by decide) (fun c_120 => ?_) (fun c_120 => ?_)
    · refine lv_iconst (v := 1) hx₀ hb dX12_goes_69 (by decide +kernel) ?_
      obtain ⟨hP9, hD9⟩ := k_c2 (wc := [(kX12 hm vFo vSi vIt vMo la vBy vTy mi vMi pn vPs gn vGs fn vFt le vTo kn fe en ca an co vPr vSt vFn sn vSg vAl dr), (kAI vMi cI 24 qMi), (kAI vPs cI 32 qPs), (kAI vGs cI 16 qGs), (kAI vPr cI 2 (ga_87 0)), (kAI vSt cI 2 (ga_110 0)), (kAI vFn cI 2 (ga_110 1))]) hP hD [2, 0, 1, 3, 4, 5, 6] (by decide +kernel) rfl
      exact W.iret (v := 1) hx₀ hb hr (fun t₀ ht hW => ⟨⟨1, (k_fn [an, co], k_fa [(ga_87 0), ga_110 0, ga_110 1], k_fl [], k_fL [], k_fp []), rfl, c_97, by rw [ht]; exact hP9, va_K.moved hW.alike hK, hD9⟩, hS.F ht⟩) hS.2.2 dX12_goes_70
    · refine lv_aload_n hx₀ hb dX12_goes_56 rfl (lv_at hl 2 rfl) ?_
      refine va_get (D := (dC, dI)) (ci := 11) (v := .ref vSt) (C := RX12) (T := TX12) (N := 30) hx₀ hb hts inlX12 hown hK hP 2 rfl rfl 24 (by decide) (hts (.fieldLink RX12 46 "BittenStickModel" "strong" "[I") wd_127) (fun _ h9 => h9) rfl dX12_goes_57 ?_
      refine lv_iconst (v := 1) hx₀ hb dX12_goes_60 (by decide +kernel) ?_
      refine va_iald hx₀ hb hK hP 5 0 rfl rfl (by unfold vp_in; decide +kernel) dX12_goes_61 ?_
      refine lv_topi (fun y_121 ey_121 => ?_)
      refine lv_iload hx₀ hb dX12_goes_62 (lv_at hl 0 rfl) ?_
      refine lv_iconst (v := 2) hx₀ hb dX12_goes_64 (by decide +kernel) ?_
      refine lv_idiv hx₀ hb dX12_goes_65 (by decide +kernel) ?_
      refine lv_icmp_ge (tgt := 71) hx₀ hb dX12_goes_66 (by decide) (fun c_122 => ?_) (fun c_122 => ?_)
      · refine lv_aload_n hx₀ hb dX12_goes_71 rfl (lv_at hl 2 rfl) ?_
        refine lv_dup hx₀ hb dX12_goes_72 rfl ?_
        refine va_get (D := (dC, dI)) (ci := 11) (v := .int co) (C := RX12) (T := TX12) (N := 30) hx₀ hb hts inlX12 hown hK hP 2 rfl rfl 22 (by decide) (hts (.fieldLink RX12 177 "BittenStickModel" "cold" "I") wd_545) (fun _ h9 => h9) rfl dX12_goes_73 ?_
        refine lv_iload_n hx₀ hb dX12_goes_76 rfl (lv_at hl 5 rfl) ?_
        refine lv_iconst (v := 5) hx₀ hb dX12_goes_77 (by decide +kernel) ?_
        refine lv_icmp_le (tgt := 87) hx₀ hb dX12_goes_78 (by decide) (fun c_123 => ?_) (fun c_123 => ?_)
        · refine lv_iconst (v := 0) hx₀ hb dX12_goes_87 (by decide +kernel) ?_
          refine lv_iadd hx₀ hb dX12_goes_88 ?_
          refine va_put (D := (dC, dI)) (ci := 11) (v := .int (co + 0)) (ty := .int) (C := RX12) (T := TX12) (N := 30) hx₀ hb hts inlX12 tyX12 tyX12_ok nmX12 hown hK hP hD hS 2 rfl rfl 22 (by decide) (hts (.fieldLink RX12 177 "BittenStickModel" "cold" "I") wd_545) (fun _ h9 => h9) rfl (by decide +kernel) rfl rfl (Nat.le_of_ble_eq_true rfl) dX12_goes_89 ?_
          clear hP hD hS
          intro H locs hP hD hS
          replace hP := k_w2 (wt := [(kAI vMi cI 24 qMi), (kAI vPs cI 32 qPs), (kX12 hm vFo vSi vIt vMo la vBy vTy mi vMi pn vPs gn vGs fn vFt le vTo kn fe en ca an (co + 0) vPr vSt vFn sn vSg vAl dr), (kAI vGs cI 16 qGs), (kAI vPr cI 2 (ga_87 0)), (kAI vSt cI 2 (ga_110 0)), (kAI vFn cI 2 (ga_110 1))]) hP hD rfl
          replace hD := hP.2
          replace hP := hP.1
          refine lv_aload_n hx₀ hb dX12_goes_92 rfl (lv_at hl 2 rfl) ?_
          refine va_get (D := (dC, dI)) (ci := 11) (v := .int (co + 0)) (C := RX12) (T := TX12) (N := 30) hx₀ hb hts inlX12 hown hK hP 2 rfl rfl 22 (by decide) (hts (.fieldLink RX12 177 "BittenStickModel" "cold" "I") wd_545) (fun _ h9 => h9) rfl dX12_goes_93 ?_
          refine lv_bipush (v := 20) hx₀ hb dX12_goes_96 (by decide +kernel) ?_
          refine lv_icmp_le (tgt := 103) hx₀ hb dX12_goes_98 (by decide) (fun c_124 => ?_) (fun c_124 => ?_)
          · refine lv_iload hx₀ hb dX12_goes_103 (lv_at hl 1 rfl) ?_
            refine lv_bipush (v := 6) hx₀ hb dX12_goes_105 (by decide +kernel) ?_
            refine lv_icmp_ge (tgt := 150) hx₀ hb dX12_goes_107 (by decide) (fun c_125 => ?_) (fun c9 => ((show ¬ (¬ 6 ≤ y_1) from (fun z => z (by rw [show y_1 = 8 from c_2]; decide))) c9).elim)
            refine lv_aload_n hx₀ hb dX12_goes_150 rfl (lv_at hl 2 rfl) ?_
            refine va_get (D := (dC, dI)) (ci := 11) (v := .int an) (C := RX12) (T := TX12) (N := 30) hx₀ hb hts inlX12 hown hK hP 2 rfl rfl 21 (by decide) (hts (.fieldLink RX12 184 "BittenStickModel" "anger" "I") wd_544) (fun _ h9 => h9) rfl dX12_goes_151 ?_
            refine lv_iconst (v := 5) hx₀ hb dX12_goes_154 (by decide +kernel) ?_
            refine lv_aload_n hx₀ hb dX12_goes_155 rfl (lv_at hl 2 rfl) ?_
            refine va_get (D := (dC, dI)) (ci := 11) (v := .ref vPs) (C := RX12) (T := TX12) (N := 30) hx₀ hb hts inlX12 hown hK hP 2 rfl rfl 10 (by decide) (hts (.fieldLink RX12 31 "BittenStickModel" "passenger" "[I") wd_122) (fun _ h9 => h9) rfl dX12_goes_156 ?_
            refine lv_iconst (v := 4) hx₀ hb dX12_goes_159 (by decide +kernel) ?_
            refine lv_iload_n hx₀ hb dX12_goes_160 rfl (lv_at hl 3 rfl) ?_
            refine lv_imul hx₀ hb dX12_goes_161 ?_
            refine lv_iconst (v := 2) hx₀ hb dX12_goes_162 (by decide +kernel) ?_
            refine lv_iadd hx₀ hb dX12_goes_163 ?_
            refine va_iald hx₀ hb hK hP 1 0 rfl rfl (vp_in_iff.mpr (lf_g_goes_3 p1 hh0)) dX12_goes_164 ?_
            refine lv_topi (fun y_126 ey_126 => ?_)
            refine lv_imul hx₀ hb dX12_goes_165 ?_
            refine lv_icmp_le (tgt := 171) hx₀ hb dX12_goes_166 (by decide) (fun c_127 => ?_) (fun c_127 => ?_)
            · refine lv_iload hx₀ hb dX12_goes_171 (lv_at hl 1 rfl) ?_
              refine lv_bipush (v := 7) hx₀ hb dX12_goes_173 (by decide +kernel) ?_
              refine lv_icmp_ne (tgt := 242) hx₀ hb dX12_goes_175 (by decide) (fun c_128 => ?_) (fun c9 => ((show ¬ (y_1 = 7) from (fun z => absurd (c_2.symm.trans z) (by decide))) c9).elim)
              refine lv_iconst (v := 0) hx₀ hb dX12_goes_242 (by decide +kernel) ?_
              obtain ⟨hP9, hD9⟩ := k_c2 (wc := [(kX12 hm vFo vSi vIt vMo la vBy vTy mi vMi pn vPs gn vGs fn vFt le vTo kn fe en ca an (co + 0) vPr vSt vFn sn vSg vAl dr), (kAI vMi cI 24 qMi), (kAI vPs cI 32 qPs), (kAI vGs cI 16 qGs), (kAI vPr cI 2 (ga_87 0)), (kAI vSt cI 2 (ga_110 0)), (kAI vFn cI 2 (ga_110 1))]) hP hD [2, 0, 1, 3, 4, 5, 6] (by decide +kernel) rfl
              exact W.iret (v := 0) hx₀ hb hr (fun t₀ ht hW => ⟨⟨0, (k_fn [an, (co + 0)], k_fa [(ga_87 0), ga_110 0, ga_110 1], k_fl [], k_fL [], k_fp []), rfl, c_97, by rw [ht]; exact hP9, va_K.moved hW.alike hK, hD9⟩, hS.F ht⟩) hS.2.2 dX12_goes_243
            · refine lv_iconst (v := 3) hx₀ hb dX12_goes_169 (by decide +kernel) ?_
              obtain ⟨hP9, hD9⟩ := k_c2 (wc := [(kX12 hm vFo vSi vIt vMo la vBy vTy mi vMi pn vPs gn vGs fn vFt le vTo kn fe en ca an (co + 0) vPr vSt vFn sn vSg vAl dr), (kAI vMi cI 24 qMi), (kAI vPs cI 32 qPs), (kAI vGs cI 16 qGs), (kAI vPr cI 2 (ga_87 0)), (kAI vSt cI 2 (ga_110 0)), (kAI vFn cI 2 (ga_110 1))]) hP hD [2, 0, 1, 3, 4, 5, 6] (by decide +kernel) rfl
              exact W.iret (v := 3) hx₀ hb hr (fun t₀ ht hW => ⟨⟨3, (k_fn [an, (co + 0)], k_fa [(ga_87 0), ga_110 0, ga_110 1], k_fl [], k_fL [], k_fp []), rfl, c_97, by rw [ht]; exact hP9, va_K.moved hW.alike hK, hD9⟩, hS.F ht⟩) hS.2.2 dX12_goes_170
          · refine lv_iconst (v := 2) hx₀ hb dX12_goes_101 (by decide +kernel) ?_
            obtain ⟨hP9, hD9⟩ := k_c2 (wc := [(kX12 hm vFo vSi vIt vMo la vBy vTy mi vMi pn vPs gn vGs fn vFt le vTo kn fe en ca an (co + 0) vPr vSt vFn sn vSg vAl dr), (kAI vMi cI 24 qMi), (kAI vPs cI 32 qPs), (kAI vGs cI 16 qGs), (kAI vPr cI 2 (ga_87 0)), (kAI vSt cI 2 (ga_110 0)), (kAI vFn cI 2 (ga_110 1))]) hP hD [2, 0, 1, 3, 4, 5, 6] (by decide +kernel) rfl
            exact W.iret (v := 2) hx₀ hb hr (fun t₀ ht hW => ⟨⟨2, (k_fn [an, (co + 0)], k_fa [(ga_87 0), ga_110 0, ga_110 1], k_fl [], k_fL [], k_fp []), rfl, c_97, by rw [ht]; exact hP9, va_K.moved hW.alike hK, hD9⟩, hS.F ht⟩) hS.2.2 dX12_goes_102
        · refine lv_iload_n hx₀ hb dX12_goes_81 rfl (lv_at hl 5 rfl) ?_
          refine lv_iconst (v := 5) hx₀ hb dX12_goes_82 (by decide +kernel) ?_
          refine lv_isub hx₀ hb dX12_goes_83 ?_
          refine lv_goto (tgt := 88) hx₀ hb dX12_goes_84 (by decide) ?_
          refine lv_iadd hx₀ hb dX12_goes_88 ?_
          refine va_put (D := (dC, dI)) (ci := 11) (v := .int (co + (h1 - 5))) (ty := .int) (C := RX12) (T := TX12) (N := 30) hx₀ hb hts inlX12 tyX12 tyX12_ok nmX12 hown hK hP hD hS 2 rfl rfl 22 (by decide) (hts (.fieldLink RX12 177 "BittenStickModel" "cold" "I") wd_545) (fun _ h9 => h9) rfl (by decide +kernel) rfl rfl (Nat.le_of_ble_eq_true rfl) dX12_goes_89 ?_
          clear hP hD hS
          intro H locs hP hD hS
          replace hP := k_w2 (wt := [(kAI vMi cI 24 qMi), (kAI vPs cI 32 qPs), (kX12 hm vFo vSi vIt vMo la vBy vTy mi vMi pn vPs gn vGs fn vFt le vTo kn fe en ca an (co + (h1 - 5)) vPr vSt vFn sn vSg vAl dr), (kAI vGs cI 16 qGs), (kAI vPr cI 2 (ga_87 0)), (kAI vSt cI 2 (ga_110 0)), (kAI vFn cI 2 (ga_110 1))]) hP hD rfl
          replace hD := hP.2
          replace hP := hP.1
          refine lv_aload_n hx₀ hb dX12_goes_92 rfl (lv_at hl 2 rfl) ?_
          refine va_get (D := (dC, dI)) (ci := 11) (v := .int (co + (h1 - 5))) (C := RX12) (T := TX12) (N := 30) hx₀ hb hts inlX12 hown hK hP 2 rfl rfl 22 (by decide) (hts (.fieldLink RX12 177 "BittenStickModel" "cold" "I") wd_545) (fun _ h9 => h9) rfl dX12_goes_93 ?_
          refine lv_bipush (v := 20) hx₀ hb dX12_goes_96 (by decide +kernel) ?_
          refine lv_icmp_le (tgt := 103) hx₀ hb dX12_goes_98 (by decide) (fun c_129 => ?_) (fun c_129 => ?_)
          · refine lv_iload hx₀ hb dX12_goes_103 (lv_at hl 1 rfl) ?_
            refine lv_bipush (v := 6) hx₀ hb dX12_goes_105 (by decide +kernel) ?_
            refine lv_icmp_ge (tgt := 150) hx₀ hb dX12_goes_107 (by decide) (fun c_130 => ?_) (fun c9 => ((show ¬ (¬ 6 ≤ y_1) from (fun z => z (by rw [show y_1 = 8 from c_2]; decide))) c9).elim)
            refine lv_aload_n hx₀ hb dX12_goes_150 rfl (lv_at hl 2 rfl) ?_
            refine va_get (D := (dC, dI)) (ci := 11) (v := .int an) (C := RX12) (T := TX12) (N := 30) hx₀ hb hts inlX12 hown hK hP 2 rfl rfl 21 (by decide) (hts (.fieldLink RX12 184 "BittenStickModel" "anger" "I") wd_544) (fun _ h9 => h9) rfl dX12_goes_151 ?_
            refine lv_iconst (v := 5) hx₀ hb dX12_goes_154 (by decide +kernel) ?_
            refine lv_aload_n hx₀ hb dX12_goes_155 rfl (lv_at hl 2 rfl) ?_
            refine va_get (D := (dC, dI)) (ci := 11) (v := .ref vPs) (C := RX12) (T := TX12) (N := 30) hx₀ hb hts inlX12 hown hK hP 2 rfl rfl 10 (by decide) (hts (.fieldLink RX12 31 "BittenStickModel" "passenger" "[I") wd_122) (fun _ h9 => h9) rfl dX12_goes_156 ?_
            refine lv_iconst (v := 4) hx₀ hb dX12_goes_159 (by decide +kernel) ?_
            refine lv_iload_n hx₀ hb dX12_goes_160 rfl (lv_at hl 3 rfl) ?_
            refine lv_imul hx₀ hb dX12_goes_161 ?_
            refine lv_iconst (v := 2) hx₀ hb dX12_goes_162 (by decide +kernel) ?_
            refine lv_iadd hx₀ hb dX12_goes_163 ?_
            refine va_iald hx₀ hb hK hP 1 0 rfl rfl (vp_in_iff.mpr (lf_g_goes_3 p1 hh0)) dX12_goes_164 ?_
            refine lv_topi (fun y_131 ey_131 => ?_)
            refine lv_imul hx₀ hb dX12_goes_165 ?_
            refine lv_icmp_le (tgt := 171) hx₀ hb dX12_goes_166 (by decide) (fun c_132 => ?_) (fun c_132 => ?_)
            · refine lv_iload hx₀ hb dX12_goes_171 (lv_at hl 1 rfl) ?_
              refine lv_bipush (v := 7) hx₀ hb dX12_goes_173 (by decide +kernel) ?_
              refine lv_icmp_ne (tgt := 242) hx₀ hb dX12_goes_175 (by decide) (fun c_133 => ?_) (fun c9 => ((show ¬ (y_1 = 7) from (fun z => absurd (c_2.symm.trans z) (by decide))) c9).elim)
              refine lv_iconst (v := 0) hx₀ hb dX12_goes_242 (by decide +kernel) ?_
              obtain ⟨hP9, hD9⟩ := k_c2 (wc := [(kX12 hm vFo vSi vIt vMo la vBy vTy mi vMi pn vPs gn vGs fn vFt le vTo kn fe en ca an (co + (h1 - 5)) vPr vSt vFn sn vSg vAl dr), (kAI vMi cI 24 qMi), (kAI vPs cI 32 qPs), (kAI vGs cI 16 qGs), (kAI vPr cI 2 (ga_87 0)), (kAI vSt cI 2 (ga_110 0)), (kAI vFn cI 2 (ga_110 1))]) hP hD [2, 0, 1, 3, 4, 5, 6] (by decide +kernel) rfl
              exact W.iret (v := 0) hx₀ hb hr (fun t₀ ht hW => ⟨⟨0, (k_fn [an, (co + (h1 - 5))], k_fa [(ga_87 0), ga_110 0, ga_110 1], k_fl [], k_fL [], k_fp []), rfl, c_97, by rw [ht]; exact hP9, va_K.moved hW.alike hK, hD9⟩, hS.F ht⟩) hS.2.2 dX12_goes_243
            · refine lv_iconst (v := 3) hx₀ hb dX12_goes_169 (by decide +kernel) ?_
              obtain ⟨hP9, hD9⟩ := k_c2 (wc := [(kX12 hm vFo vSi vIt vMo la vBy vTy mi vMi pn vPs gn vGs fn vFt le vTo kn fe en ca an (co + (h1 - 5)) vPr vSt vFn sn vSg vAl dr), (kAI vMi cI 24 qMi), (kAI vPs cI 32 qPs), (kAI vGs cI 16 qGs), (kAI vPr cI 2 (ga_87 0)), (kAI vSt cI 2 (ga_110 0)), (kAI vFn cI 2 (ga_110 1))]) hP hD [2, 0, 1, 3, 4, 5, 6] (by decide +kernel) rfl
              exact W.iret (v := 3) hx₀ hb hr (fun t₀ ht hW => ⟨⟨3, (k_fn [an, (co + (h1 - 5))], k_fa [(ga_87 0), ga_110 0, ga_110 1], k_fl [], k_fL [], k_fp []), rfl, c_97, by rw [ht]; exact hP9, va_K.moved hW.alike hK, hD9⟩, hS.F ht⟩) hS.2.2 dX12_goes_170
          · refine lv_iconst (v := 2) hx₀ hb dX12_goes_101 (by decide +kernel) ?_
            obtain ⟨hP9, hD9⟩ := k_c2 (wc := [(kX12 hm vFo vSi vIt vMo la vBy vTy mi vMi pn vPs gn vGs fn vFt le vTo kn fe en ca an (co + (h1 - 5)) vPr vSt vFn sn vSg vAl dr), (kAI vMi cI 24 qMi), (kAI vPs cI 32 qPs), (kAI vGs cI 16 qGs), (kAI vPr cI 2 (ga_87 0)), (kAI vSt cI 2 (ga_110 0)), (kAI vFn cI 2 (ga_110 1))]) hP hD [2, 0, 1, 3, 4, 5, 6] (by decide +kernel) rfl
            exact W.iret (v := 2) hx₀ hb hr (fun t₀ ht hW => ⟨⟨2, (k_fn [an, (co + (h1 - 5))], k_fa [(ga_87 0), ga_110 0, ga_110 1], k_fl [], k_fL [], k_fp []), rfl, c_97, by rw [ht]; exact hP9, va_K.moved hW.alike hK, hD9⟩, hS.F ht⟩) hS.2.2 dX12_goes_102
      · refine lv_iconst (v := 1) hx₀ hb dX12_goes_69 (by decide +kernel) ?_
        obtain ⟨hP9, hD9⟩ := k_c2 (wc := [(kX12 hm vFo vSi vIt vMo la vBy vTy mi vMi pn vPs gn vGs fn vFt le vTo kn fe en ca an co vPr vSt vFn sn vSg vAl dr), (kAI vMi cI 24 qMi), (kAI vPs cI 32 qPs), (kAI vGs cI 16 qGs), (kAI vPr cI 2 (ga_87 0)), (kAI vSt cI 2 (ga_110 0)), (kAI vFn cI 2 (ga_110 1))]) hP hD [2, 0, 1, 3, 4, 5, 6] (by decide +kernel) rfl
        exact W.iret (v := 1) hx₀ hb hr (fun t₀ ht hW => ⟨⟨1, (k_fn [an, co], k_fa [(ga_87 0), ga_110 0, ga_110 1], k_fl [], k_fL [], k_fp []), rfl, c_97, by rw [ht]; exact hP9, va_K.moved hW.alike hK, hD9⟩, hS.F ht⟩) hS.2.2 dX12_goes_70
