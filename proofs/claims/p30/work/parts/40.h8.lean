theorem lf_g_mile_1 (a0 : Int32) (a1 : Int32) (h0 : 0 ≤ (a0) ∧ (a0) ≤ 24) (h1 : (0 : Int64) ≤ a1.toInt64 ∧ a1.toInt64 ≤ (23 : Int64)) (h2 : ¬ (a0) ≤ a1) : 0 ≤ a1.toInt ∧ a1.toInt < 24 := by
  first | rfl | assumption | decide | exact Or.inl rfl | (first | omega | (have hr0 := Int32.toInt_lt a0; have hs0 := Int32.le_toInt a0; have hr1 := Int32.toInt_lt a1; have hs1 := Int32.le_toInt a1; simp only [Int64.toInt_add, Int64.toInt_sub, Int32.toInt_add, Int32.toInt_sub, Int32.toInt_mul, Int64.le_iff_toInt_le, Int64.lt_iff_toInt_lt, Int32.le_iff_toInt_le, Int32.lt_iff_toInt_lt, ← Int32.toInt_inj, ← Int64.toInt_inj, Int32.toInt_toInt64, kc_0, kd_0, kc_23, kd_23, kc_24, kd_24] at *; (first | omega | ((try simp (disch := omega) only [k_bm64] at *); (try simp (disch := omega) only [k_bm] at *); (try simp (disch := omega) only [k_bm] at *); omega) | (simp only [Int.bmod] at *; omega))))
set_option maxHeartbeats 4000000 in
set_option maxRecDepth 100000 in
theorem g_mile (l : Launch) (dC : Nat → ClassId) (dI : Nat → Nat → Nat) (cI cJ cQ : ClassId) (sz : Nat) (hm : Nat) (m1 : Int32) (vFo : Nat) (vSi : Nat) (vIt : Nat) (vMo : Nat) (la : Int32) (vBy : Nat) (vTy : Nat) (mi : Int32) (vMi : Nat) (pn : Int32) (vPs : Nat) (gn : Int32) (vGs : Nat) (fn : Int32) (vFt : Nat) (le : Int32) (vTo : Nat) (kn : Int32) (fe : Int32) (en : Int32) (ca : Int32) (an : Int32) (co : Int32) (vPr : Nat) (vSt : Nat) (vFn : Nat) (sn : Int32) (vSg : Nat) (vAl : Nat) (dr : Int32) (qTy : Nat → Int32) (qBy : Nat → Int32) (qMi : Nat → Int32) (qPs : Nat → Int32) (qGs : Nat → Int32) (hh0 : 0 ≤ (qTy 0).toInt ∧ (qTy 0).toInt ≤ 24) (hh1 : 0 ≤ (qTy 1).toInt ∧ (qTy 1).toInt ≤ 39) (hh2 : 0 ≤ (qTy 2).toInt ∧ (qTy 2).toInt ≤ 23) : Met l yX12_mile (kW yX12_mile cX12_mile 2 (some .int)) { frames := 5, cells := 0, slots := 0, locals := 111 } (kPre dC dI cI cJ cQ sz [.ref hm, .int m1] [(kX12 hm vFo vSi vIt vMo la vBy vTy mi vMi pn vPs gn vGs fn vFt le vTo kn fe en ca an co vPr vSt vFn sn vSg vAl dr), (kAI vTy cI 3 qTy), (kAI vBy cI 120 qBy), (kAI vMi cI 24 qMi), (kAI vPs cI 32 qPs), (kAI vGs cI 16 qGs)]) (va_Qi (fun (r : Int32) (u : kS) => (r = if 0 ≤ m1 ∧ m1 ≤ 23 then (if m1 < kNm (qTy 0) (qTy 0) (kv4 qBy) then kv4 qBy m1.toNatClampNeg else -1) else -2) ∧ (0 ≤ (u.1 0) ∧ (u.1 0) ≤ 24) ∧ (0 ≤ (u.1 1) ∧ (u.1 1) ≤ 8) ∧ (0 ≤ (u.1 2) ∧ (u.1 2) ≤ 8)) (fun (u : kS) t₀ => kB dC dI cI cJ cQ (va_A [(kX12 hm vFo vSi vIt vMo la vBy vTy mi vMi pn vPs gn vGs fn vFt le vTo kn fe en ca an co vPr vSt vFn sn vSg vAl dr), (kAI vTy cI 3 qTy), (kAI vBy cI 120 qBy), (kAI vMi cI 24 qMi), (kAI vPs cI 32 qPs), (kAI vGs cI 16 qGs)] sz) [(kX12 hm vFo vSi vIt vMo la vBy vTy (u.1 0) vMi (u.1 1) vPs (u.1 2) vGs fn vFt le vTo kn fe en ca an co vPr vSt vFn sn vSg vAl dr), (kAI vTy cI 3 qTy), (kAI vBy cI 120 qBy), (kAI vMi cI 24 (u.2.1 0)), (kAI vPs cI 32 (u.2.1 1)), (kAI vGs cI 16 (u.2.1 2))] t₀) (va_A [(kX12 hm vFo vSi vIt vMo la vBy vTy mi vMi pn vPs gn vGs fn vFt le vTo kn fe en ca an co vPr vSt vFn sn vSg vAl dr), (kAI vTy cI 3 qTy), (kAI vBy cI 120 qBy), (kAI vMi cI 24 qMi), (kAI vPs cI 32 qPs), (kAI vGs cI 16 qGs)] sz)) 0 0 (va_A [(kX12 hm vFo vSi vIt vMo la vBy vTy mi vMi pn vPs gn vGs fn vFt le vTo kn fe en ca an co vPr vSt vFn sn vSg vAl dr), (kAI vTy cI 3 qTy), (kAI vBy cI 120 qBy), (kAI vMi cI 24 qMi), (kAI vPs cI 32 qPs), (kAI vGs cI 16 qGs)] sz) := by
  refine Met.ofW (cc := cX12_mile) (maxL := 2) (ret := (some .int)) (by decide) rfl ?_
  intro p₀ e₀ s₀ m₀ args below meth c₀ s₁ B hml hv₀
  obtain ⟨rfl, hsz, hP, hK, hD0, hN⟩ := hv₀
  have hx₀ := B.exec
  have hb := B.bytes
  have hr := B.returns
  have hts := atoms_spec (ws := (kW yX12_mile cX12_mile 2 (some .int))) B.pre
  have hts := fun w h => hts w (List.mem_cons_of_mem _ h)
  have hown : s₀.vm.findClass RX12 = some m₀.cls := findClass_of_methodNamed B.named
  have hlocks := B.notSynchronized
  subst hsz
  have hD := hD0.self (sz := s₀.heap.size)
  generalize hAe : va_A [(kX12 hm vFo vSi vIt vMo la vBy vTy mi vMi pn vPs gn vGs fn vFt le vTo kn fe en ca an co vPr vSt vFn sn vSg vAl dr), (kAI vTy cI 3 qTy), (kAI vBy cI 120 qBy), (kAI vMi cI 24 qMi), (kAI vPs cI 32 qPs), (kAI vGs cI 16 qGs)] s₀.heap.size = A at hD ⊢
  have hA : ∀ q : Nat, s₀.heap.size ≤ q → A q := fun q h => by rw [← hAe]; exact Or.inr h
  have hS : va_S A s₀.heap s₀.heap [] := va_S.rf
  have hP : va_P (dC, dI) vwCl [(kX12 hm vFo vSi vIt vMo la vBy vTy mi vMi pn vPs gn vGs fn vFt le vTo kn fe en ca an co vPr vSt vFn sn vSg vAl dr), (kAI vTy cI 3 qTy), (kAI vBy cI 120 qBy), (kAI vMi cI 24 qMi), (kAI vPs cI 32 qPs), (kAI vGs cI 16 qGs)] s₀.heap := hP
  have hl := lv_entry ([.ref hm, .int m1]) (n := 2) (Nat.le_of_ble_eq_true rfl)
  rw [lg_entry_eq]
  generalize (lg_sl ([.ref hm, .int m1]) ++ List.replicate (2 - (lg_sl ([.ref hm, .int m1])).length) Slot.unset).toArray = ls at hl ⊢
  have hl : lv_has ls 2 [(0, .ref hm), (1, .int m1)] := hl
  obtain ⟨H, hH⟩ : ∃ z : Heap, z = s₀.heap := ⟨_, rfl⟩
  rw [← hH] at hP
  have hS : va_S A s₀.heap H [] := by rw [hH]; exact hS
  refine k_heap hH ?_
  have hD : va_D A [(kX12 hm vFo vSi vIt vMo la vBy vTy mi vMi pn vPs gn vGs fn vFt le vTo kn fe en ca an co vPr vSt vFn sn vSg vAl dr), (kAI vTy cI 3 qTy), (kAI vBy cI 120 qBy), (kAI vMi cI 24 qMi), (kAI vPs cI 32 qPs), (kAI vGs cI 16 qGs)] := hD
  obtain ⟨locs, hlo⟩ : ∃ z : List Loc, z = [] := ⟨_, rfl⟩
  rw [← hlo] at hS ⊢
  clear hlo hH hAe hD0
  refine lv_aload_n hx₀ hb dX12_mile_0 rfl (lv_at hl 0 rfl) ?_
  obtain ⟨hPc, hDc, hFc, hC⟩ := k_cw (wc := [(kX12 hm vFo vSi vIt vMo la vBy vTy mi vMi pn vPs gn vGs fn vFt le vTo kn fe en ca an co vPr vSt vFn sn vSg vAl dr), (kAI vTy cI 3 qTy), (kAI vBy cI 120 qBy), (kAI vMi cI 24 qMi), (kAI vPs cI 32 qPs), (kAI vGs cI 16 qGs)]) hP hD hS hA [0, 1, 2, 3, 4, 5] (by decide +kernel) rfl
  refine va_callv (va_runV (As := []) (rest := []) ⟨hx₀, hb, hml, hown, hts⟩ (g_reads l dC dI cI cJ cQ H.size hm vFo vSi vIt vMo la vBy vTy mi vMi pn vPs gn vGs fn vFt le vTo kn fe en ca an co vPr vSt vFn sn vSg vAl dr qTy qBy qMi qPs qGs (hh0) (hh1) (hh2)) (cwV 0 hts (kGV wd_298 wd_295 wd_296 wd_297 wd_5) rfl rfl rfl (by decide +kernel) ⟨Nat.le_of_ble_eq_true rfl, Nat.le_of_ble_eq_true rfl⟩) (k_preV11 (q0 := 0) hK hPc hDc hN rfl) rfl rfl hl.1 rfl (lv_room (Nat.le_of_ble_eq_true rfl)) dX12_mile_1 ⟨by decide +kernel, by decide +kernel⟩) hS (fun q _ h => hFc q h) hFc (fun u₀ t₀ H1 locs ht hvm hw hB hz1 hk1 hS => ?_)
  obtain ⟨g_2, ga_3, gl_4, gb_5, gp_6⟩ := u₀
  obtain ⟨hP1, hK1, hD1⟩ := hB
  rw [ht] at hP1
  have hJ := k_jn (wr := []) (wt := [(kX12 hm vFo vSi vIt vMo la vBy vTy (g_2 0) vMi (g_2 1) vPs (g_2 2) vGs fn vFt le vTo kn fe en ca an co vPr vSt vFn sn vSg vAl dr), (kAI vTy cI 3 qTy), (kAI vBy cI 120 qBy), (kAI vMi cI 24 (ga_3 0)), (kAI vPs cI 32 (ga_3 1)), (kAI vGs cI 16 (ga_3 2))]) hP hD hC [] rfl (by decide +kernel) (by decide +kernel) hk1 hFc hP1 hD1 rfl
  clear hP hD hPc hDc hFc hC hP1 hD1 hK1 hz1 hk1 hvm ht
  obtain ⟨hP, hD⟩ := hJ
  generalize H1 = H at hP hS ⊢
  try dsimp only at hw
  obtain ⟨c_7, c_8, c_9, c_10, c_11, c_12, c_13, c_14, c_15, c_16⟩ := hw
  refine lv_iload_n hx₀ hb dX12_mile_4 rfl (lv_at hl 1 rfl) ?_
  refine lv_i2l hx₀ hb dX12_mile_5 rfl ?_
  refine lv_lconst (v := 0) hx₀ hb dX12_mile_6 (by decide +kernel) ?_
  refine lv_ldc2 (v := 23) hx₀ hb hown (hts (.constantLong RX12 144 (23)) wd_294) dX12_mile_7 ?_
  obtain ⟨hPc, hDc, hFc, hC⟩ := k_cw (wc := []) hP hD hS hA [] (by decide +kernel) rfl
  refine va_calli (va_runS (As := [.long m1.toInt64, .long 0, .long 23]) (rest := []) ⟨hx₀, hb, hml, hown, hts⟩ (c_in l dC dI cI cJ cQ H.size m1.toInt64 0 23) (va_cwS 3 hts (kGS wd_208 wd_206 wd_207 wd_5) rfl rfl rfl (by decide +kernel) ⟨Nat.le_of_ble_eq_true rfl, Nat.le_of_ble_eq_true rfl⟩) (k_preS hK hPc hDc hN) rfl rfl hl.1 rfl (lv_room (Nat.le_of_ble_eq_true rfl)) dX12_mile_10 ⟨by decide +kernel, by decide +kernel⟩) hS (fun q _ h => hFc q h) hFc (fun r_17 u₀ t₀ H1 locs ht hvm hw hB hz1 hk1 hS => ?_)
  obtain ⟨hP1, hK1, hD1⟩ := hB
  rw [ht] at hP1
  have hJ := k_jn (wr := [(kX12 hm vFo vSi vIt vMo la vBy vTy (g_2 0) vMi (g_2 1) vPs (g_2 2) vGs fn vFt le vTo kn fe en ca an co vPr vSt vFn sn vSg vAl dr), (kAI vTy cI 3 qTy), (kAI vBy cI 120 qBy), (kAI vMi cI 24 (ga_3 0)), (kAI vPs cI 32 (ga_3 1)), (kAI vGs cI 16 (ga_3 2))]) (wt := [(kX12 hm vFo vSi vIt vMo la vBy vTy (g_2 0) vMi (g_2 1) vPs (g_2 2) vGs fn vFt le vTo kn fe en ca an co vPr vSt vFn sn vSg vAl dr), (kAI vTy cI 3 qTy), (kAI vBy cI 120 qBy), (kAI vMi cI 24 (ga_3 0)), (kAI vPs cI 32 (ga_3 1)), (kAI vGs cI 16 (ga_3 2))]) hP hD hC [0, 1, 2, 3, 4, 5] rfl (by decide +kernel) (by decide +kernel) hk1 hFc hP1 hD1 rfl
  clear hP hD hPc hDc hFc hC hP1 hD1 hK1 hz1 hk1 hvm ht
  obtain ⟨hP, hD⟩ := hJ
  generalize H1 = H at hP hS ⊢
  try dsimp only at hw
  by_cases c_18 : (0 : Int64) ≤ m1.toInt64 ∧ m1.toInt64 ≤ (23 : Int64)
  · rw [if_pos c_18] at hw
    refine k_topi (v := 1) hw ?_
    refine lv_if_ne (tgt := 21) hx₀ hb dX12_mile_13 (by decide) (fun _ => ?_) (fun c9 => absurd c9 (by decide +kernel))
    refine lv_iload_n hx₀ hb dX12_mile_21 rfl (lv_at hl 1 rfl) ?_
    refine lv_aload_n hx₀ hb dX12_mile_22 rfl (lv_at hl 0 rfl) ?_
    refine va_get (D := (dC, dI)) (ci := 11) (v := .int (g_2 0)) (C := RX12) (T := TX12) (N := 30) hx₀ hb hts inlX12 hown hK hP 0 rfl rfl 7 (by decide) (hts (.fieldLink RX12 107 "BittenStickModel" "miles" "I") wd_252) (fun _ h9 => h9) rfl dX12_mile_23 ?_
    refine lv_icmp_ge (tgt := 38) hx₀ hb dX12_mile_26 (by decide) (fun c_19 => ?_) (fun c_19 => ?_)
    · refine lv_iconst (v := (-1)) hx₀ hb dX12_mile_38 (by decide +kernel) ?_
      obtain ⟨hP9, hD9⟩ := k_c2 (wc := [(kX12 hm vFo vSi vIt vMo la vBy vTy (g_2 0) vMi (g_2 1) vPs (g_2 2) vGs fn vFt le vTo kn fe en ca an co vPr vSt vFn sn vSg vAl dr), (kAI vTy cI 3 qTy), (kAI vBy cI 120 qBy), (kAI vMi cI 24 (ga_3 0)), (kAI vPs cI 32 (ga_3 1)), (kAI vGs cI 16 (ga_3 2))]) hP hD [0, 1, 2, 3, 4, 5] (by decide +kernel) rfl
      exact W.iret (v := (-1)) hx₀ hb hr (fun t₀ ht hW => ⟨⟨(-1), (k_fn [(g_2 0), (g_2 1), (g_2 2)], k_fa [ga_3 0, ga_3 1, ga_3 2], k_fl [], k_fL [], k_fp []), rfl, ⟨(by rewrite [← c_11]; exact show ((-1) : Int32) = if 0 ≤ m1 ∧ m1 ≤ 23 then (if m1 < (g_2 0) then (kv4 qBy m1.toNatClampNeg) else -1) else -2 from (((if_neg (show ¬ (m1 < (g_2 0)) from (Int32.not_lt.mpr c_19))).symm).trans (if_pos (show 0 ≤ m1 ∧ m1 ≤ 23 from ⟨((k_64 (a := m1) (l := 0) (h := 23) (by decide) (by decide)).mp c_18).1, ((k_64 (a := m1) (l := 0) (h := 23) (by decide) (by decide)).mp c_18).2⟩)).symm)), c_7, c_8, c_9⟩, by rw [ht]; exact hP9, va_K.moved hW.alike hK, hD9⟩, hS.F ht⟩) hS.2.2 dX12_mile_39
    · refine lv_aload_n hx₀ hb dX12_mile_29 rfl (lv_at hl 0 rfl) ?_
      refine va_get (D := (dC, dI)) (ci := 11) (v := .ref vMi) (C := RX12) (T := TX12) (N := 30) hx₀ hb hts inlX12 hown hK hP 0 rfl rfl 8 (by decide) (hts (.fieldLink RX12 28 "BittenStickModel" "mile" "[I") wd_121) (fun _ h9 => h9) rfl dX12_mile_30 ?_
      refine lv_iload_n hx₀ hb dX12_mile_33 rfl (lv_at hl 1 rfl) ?_
      refine va_iald hx₀ hb hK hP 3 0 rfl rfl (vp_in_iff.mpr (lf_g_mile_1 (g_2 0) m1 c_7 c_18 c_19)) dX12_mile_34 ?_
      refine lv_topi (fun y_20 ey_20 => ?_)
      refine lv_goto (tgt := 39) hx₀ hb dX12_mile_35 (by decide) ?_
      obtain ⟨hP9, hD9⟩ := k_c2 (wc := [(kX12 hm vFo vSi vIt vMo la vBy vTy (g_2 0) vMi (g_2 1) vPs (g_2 2) vGs fn vFt le vTo kn fe en ca an co vPr vSt vFn sn vSg vAl dr), (kAI vTy cI 3 qTy), (kAI vBy cI 120 qBy), (kAI vMi cI 24 (ga_3 0)), (kAI vPs cI 32 (ga_3 1)), (kAI vGs cI 16 (ga_3 2))]) hP hD [0, 1, 2, 3, 4, 5] (by decide +kernel) rfl
      exact W.iret (v := y_20) hx₀ hb hr (fun t₀ ht hW => ⟨⟨y_20, (k_fn [(g_2 0), (g_2 1), (g_2 2)], k_fa [ga_3 0, ga_3 1, ga_3 2], k_fl [], k_fL [], k_fp []), rfl, ⟨(by rewrite [← c_11, ← show y_20 = kv4 qBy m1.toNatClampNeg from ey_20.trans (k_ml_at c_14 (show 0 ≤ m1 ∧ m1 < (g_2 0) from ⟨((k_64 (a := m1) (l := 0) (h := 23) (by decide) (by decide)).mp c_18).1, (Int32.not_le.mp c_19)⟩))]; exact show (y_20 : Int32) = if 0 ≤ m1 ∧ m1 ≤ 23 then (if m1 < (g_2 0) then y_20 else -1) else -2 from (((if_pos (show m1 < (g_2 0) from (Int32.not_le.mp c_19))).symm).trans (if_pos (show 0 ≤ m1 ∧ m1 ≤ 23 from ⟨((k_64 (a := m1) (l := 0) (h := 23) (by decide) (by decide)).mp c_18).1, ((k_64 (a := m1) (l := 0) (h := 23) (by decide) (by decide)).mp c_18).2⟩)).symm)), c_7, c_8, c_9⟩, by rw [ht]; exact hP9, va_K.moved hW.alike hK, hD9⟩, hS.F ht⟩) hS.2.2 dX12_mile_39
  rw [if_neg c_18] at hw
  refine k_topi (v := 0) hw ?_
  refine lv_if_ne (tgt := 21) hx₀ hb dX12_mile_13 (by decide) (fun c9 => absurd (by decide +kernel) c9) (fun _ => ?_)
  refine lv_bipush (v := (-2)) hx₀ hb dX12_mile_16 (by decide +kernel) ?_
  refine lv_goto (tgt := 39) hx₀ hb dX12_mile_18 (by decide) ?_
  obtain ⟨hP9, hD9⟩ := k_c2 (wc := [(kX12 hm vFo vSi vIt vMo la vBy vTy (g_2 0) vMi (g_2 1) vPs (g_2 2) vGs fn vFt le vTo kn fe en ca an co vPr vSt vFn sn vSg vAl dr), (kAI vTy cI 3 qTy), (kAI vBy cI 120 qBy), (kAI vMi cI 24 (ga_3 0)), (kAI vPs cI 32 (ga_3 1)), (kAI vGs cI 16 (ga_3 2))]) hP hD [0, 1, 2, 3, 4, 5] (by decide +kernel) rfl
  exact W.iret (v := (-2)) hx₀ hb hr (fun t₀ ht hW => ⟨⟨(-2), (k_fn [(g_2 0), (g_2 1), (g_2 2)], k_fa [ga_3 0, ga_3 1, ga_3 2], k_fl [], k_fL [], k_fp []), rfl, ⟨(by rewrite [← c_11]; exact show ((-2) : Int32) = if 0 ≤ m1 ∧ m1 ≤ 23 then (if m1 < (g_2 0) then (kv4 qBy m1.toNatClampNeg) else -1) else -2 from (if_neg (show ¬ (0 ≤ m1 ∧ m1 ≤ 23) from (fun z => (fun z => c_18 ((k_64 (a := m1) (l := 0) (h := 23) (by decide) (by decide)).mpr z)) (And.intro z.1 z.2)))).symm), c_7, c_8, c_9⟩, by rw [ht]; exact hP9, va_K.moved hW.alike hK, hD9⟩, hS.F ht⟩) hS.2.2 dX12_mile_39
theorem lf_g_passenger_1 (a0 : Int32) (a1 : Int32) (a2 : Int32) (h0 : 0 ≤ (a0) ∧ (a0) ≤ 8) (h1 : 0 ≤ a1 ∧ a1 < (a0)) (h2 : (0 : Int64) ≤ a2.toInt64 ∧ a2.toInt64 ≤ (3 : Int64)) : 0 ≤ ((4 * a1) + a2).toInt ∧ ((4 * a1) + a2).toInt < 32 := by
  first | rfl | assumption | decide | exact Or.inl rfl | (first | omega | (have hr0 := Int32.toInt_lt a0; have hs0 := Int32.le_toInt a0; have hr1 := Int32.toInt_lt a1; have hs1 := Int32.le_toInt a1; have hr2 := Int32.toInt_lt a2; have hs2 := Int32.le_toInt a2; simp only [Int64.toInt_add, Int64.toInt_sub, Int32.toInt_add, Int32.toInt_sub, Int32.toInt_mul, Int64.le_iff_toInt_le, Int64.lt_iff_toInt_lt, Int32.le_iff_toInt_le, Int32.lt_iff_toInt_lt, ← Int32.toInt_inj, ← Int64.toInt_inj, Int32.toInt_toInt64, kc_0, kd_0, kc_3, kd_3, kc_4, kd_4, kc_8, kd_8, kc_32, kd_32] at *; (first | omega | ((try simp (disch := omega) only [k_bm64] at *); (try simp (disch := omega) only [k_bm] at *); (try simp (disch := omega) only [k_bm] at *); omega) | (simp only [Int.bmod] at *; omega))))
theorem lf_g_passenger_2 (a0 : Int32) (h0 : 0 ≤ (a0).toInt ∧ (a0).toInt ≤ 39) : 0 ≤ (a0) ∧ (a0).toInt ≤ 100 := by
  first | rfl | assumption | decide | exact Or.inl rfl | (first | omega | (have hr0 := Int32.toInt_lt a0; have hs0 := Int32.le_toInt a0; simp only [Int64.toInt_add, Int64.toInt_sub, Int32.toInt_add, Int32.toInt_sub, Int32.toInt_mul, Int64.le_iff_toInt_le, Int64.lt_iff_toInt_lt, Int32.le_iff_toInt_le, Int32.lt_iff_toInt_lt, ← Int32.toInt_inj, ← Int64.toInt_inj, Int32.toInt_toInt64, kc_0, kc_39, kc_100] at *; (first | omega | ((try simp (disch := omega) only [k_bm64] at *); (try simp (disch := omega) only [k_bm] at *); (try simp (disch := omega) only [k_bm] at *); omega) | (simp only [Int.bmod] at *; omega))))
theorem lf_g_passenger_3 (a0 : Int32) (a1 : Int32) (h0 : 0 ≤ (a0) ∧ (a0) ≤ 8) (h1 : 0 ≤ a1 ∧ a1 < (a0)) : ¬ (a0) = 0 := by
  first | rfl | assumption | decide | exact Or.inl rfl | (first | omega | (have hr0 := Int32.toInt_lt a0; have hs0 := Int32.le_toInt a0; have hr1 := Int32.toInt_lt a1; have hs1 := Int32.le_toInt a1; simp only [Int64.toInt_add, Int64.toInt_sub, Int32.toInt_add, Int32.toInt_sub, Int32.toInt_mul, Int64.le_iff_toInt_le, Int64.lt_iff_toInt_lt, Int32.le_iff_toInt_le, Int32.lt_iff_toInt_lt, ← Int32.toInt_inj, ← Int64.toInt_inj, Int32.toInt_toInt64, kc_0, kc_8] at *; (first | omega | ((try simp (disch := omega) only [k_bm64] at *); (try simp (disch := omega) only [k_bm] at *); (try simp (disch := omega) only [k_bm] at *); omega) | (simp only [Int.bmod] at *; omega))))
theorem lf_g_passenger_4 (a0 : Int32) (a1 : Int32) (h0 : 0 ≤ (a0) ∧ (a0) ≤ 8) (h1 : 0 ≤ a1 ∧ a1 < (a0)) : 0 ≤ a1 ∧ a1.toInt ≤ 8 := by
  first | rfl | assumption | decide | exact Or.inl rfl | (first | omega | (have hr0 := Int32.toInt_lt a0; have hs0 := Int32.le_toInt a0; have hr1 := Int32.toInt_lt a1; have hs1 := Int32.le_toInt a1; simp only [Int64.toInt_add, Int64.toInt_sub, Int32.toInt_add, Int32.toInt_sub, Int32.toInt_mul, Int64.le_iff_toInt_le, Int64.lt_iff_toInt_lt, Int32.le_iff_toInt_le, Int32.lt_iff_toInt_lt, ← Int32.toInt_inj, ← Int64.toInt_inj, Int32.toInt_toInt64, kc_0, kc_8] at *; (first | omega | ((try simp (disch := omega) only [k_bm64] at *); (try simp (disch := omega) only [k_bm] at *); (try simp (disch := omega) only [k_bm] at *); omega) | (simp only [Int.bmod] at *; omega))))
theorem lf_g_passenger_5 (a0 : Int32) (h0 : (0 : Int64) ≤ a0.toInt64 ∧ a0.toInt64 ≤ (3 : Int64)) : 0 ≤ a0 ∧ a0 < 4 := by
  first | rfl | assumption | decide | exact Or.inl rfl | (first | omega | (have hr0 := Int32.toInt_lt a0; have hs0 := Int32.le_toInt a0; simp only [Int64.toInt_add, Int64.toInt_sub, Int32.toInt_add, Int32.toInt_sub, Int32.toInt_mul, Int64.le_iff_toInt_le, Int64.lt_iff_toInt_lt, Int32.le_iff_toInt_le, Int32.lt_iff_toInt_lt, ← Int32.toInt_inj, ← Int64.toInt_inj, Int32.toInt_toInt64, kc_0, kd_0, kc_3, kd_3, kc_4, kd_4] at *; (first | omega | ((try simp (disch := omega) only [k_bm64] at *); (try simp (disch := omega) only [k_bm] at *); (try simp (disch := omega) only [k_bm] at *); omega) | (simp only [Int.bmod] at *; omega))))
theorem lf_g_passenger_6 (a0 : Int32) (h0 : (0 : Int64) ≤ a0.toInt64 ∧ a0.toInt64 ≤ (3 : Int64)) : a0.toInt ≤ 3 := by
  first | rfl | assumption | decide | exact Or.inl rfl | (first | omega | (have hr0 := Int32.toInt_lt a0; have hs0 := Int32.le_toInt a0; simp only [Int64.toInt_add, Int64.toInt_sub, Int32.toInt_add, Int32.toInt_sub, Int32.toInt_mul, Int64.le_iff_toInt_le, Int64.lt_iff_toInt_lt, Int32.le_iff_toInt_le, Int32.lt_iff_toInt_lt, ← Int32.toInt_inj, ← Int64.toInt_inj, Int32.toInt_toInt64, kc_0, kd_0, kc_3, kd_3] at *; (first | omega | ((try simp (disch := omega) only [k_bm64] at *); (try simp (disch := omega) only [k_bm] at *); (try simp (disch := omega) only [k_bm] at *); omega) | (simp only [Int.bmod] at *; omega))))
set_option maxHeartbeats 4000000 in
set_option maxRecDepth 100000 in
theorem g_passenger (l : Launch) (dC : Nat → ClassId) (dI : Nat → Nat → Nat) (cI cJ cQ : ClassId) (sz : Nat) (hm : Nat) (p1 : Int32) (w1 : Int32) (vFo : Nat) (vSi : Nat) (vIt : Nat) (vMo : Nat) (la : Int32) (vBy : Nat) (vTy : Nat) (mi : Int32) (vMi : Nat) (pn : Int32) (vPs : Nat) (gn : Int32) (vGs : Nat) (fn : Int32) (vFt : Nat) (le : Int32) (vTo : Nat) (kn : Int32) (fe : Int32) (en : Int32) (ca : Int32) (an : Int32) (co : Int32) (vPr : Nat) (vSt : Nat) (vFn : Nat) (sn : Int32) (vSg : Nat) (vAl : Nat) (dr : Int32) (qTy : Nat → Int32) (qBy : Nat → Int32) (qMi : Nat → Int32) (qPs : Nat → Int32) (qGs : Nat → Int32) (hh0 : 0 ≤ (qTy 0).toInt ∧ (qTy 0).toInt ≤ 24) (hh1 : 0 ≤ (qTy 1).toInt ∧ (qTy 1).toInt ≤ 39) (hh2 : 0 ≤ (qTy 2).toInt ∧ (qTy 2).toInt ≤ 23) : Met l yX12_passenger (kW yX12_passenger cX12_passenger 3 (some .int)) { frames := 5, cells := 0, slots := 0, locals := 111 } (kPre dC dI cI cJ cQ sz [.ref hm, .int p1, .int w1] [(kX12 hm vFo vSi vIt vMo la vBy vTy mi vMi pn vPs gn vGs fn vFt le vTo kn fe en ca an co vPr vSt vFn sn vSg vAl dr), (kAI vTy cI 3 qTy), (kAI vBy cI 120 qBy), (kAI vMi cI 24 qMi), (kAI vPs cI 32 qPs), (kAI vGs cI 16 qGs)]) (va_Qi (fun (r : Int32) (u : kS) => (r = if (0 ≤ p1 ∧ p1 < kNm (kTh7 (qTy 1)) (qTy 1) (kv7 qBy)) ∧ 0 ≤ w1 ∧ w1 ≤ 3 then kv7 qBy ((5 * p1) + w1).toNatClampNeg else -2) ∧ (0 ≤ (u.1 0) ∧ (u.1 0) ≤ 24) ∧ (0 ≤ (u.1 1) ∧ (u.1 1) ≤ 8) ∧ (0 ≤ (u.1 2) ∧ (u.1 2) ≤ 8)) (fun (u : kS) t₀ => kB dC dI cI cJ cQ (va_A [(kX12 hm vFo vSi vIt vMo la vBy vTy mi vMi pn vPs gn vGs fn vFt le vTo kn fe en ca an co vPr vSt vFn sn vSg vAl dr), (kAI vTy cI 3 qTy), (kAI vBy cI 120 qBy), (kAI vMi cI 24 qMi), (kAI vPs cI 32 qPs), (kAI vGs cI 16 qGs)] sz) [(kX12 hm vFo vSi vIt vMo la vBy vTy (u.1 0) vMi (u.1 1) vPs (u.1 2) vGs fn vFt le vTo kn fe en ca an co vPr vSt vFn sn vSg vAl dr), (kAI vTy cI 3 qTy), (kAI vBy cI 120 qBy), (kAI vMi cI 24 (u.2.1 0)), (kAI vPs cI 32 (u.2.1 1)), (kAI vGs cI 16 (u.2.1 2))] t₀) (va_A [(kX12 hm vFo vSi vIt vMo la vBy vTy mi vMi pn vPs gn vGs fn vFt le vTo kn fe en ca an co vPr vSt vFn sn vSg vAl dr), (kAI vTy cI 3 qTy), (kAI vBy cI 120 qBy), (kAI vMi cI 24 qMi), (kAI vPs cI 32 qPs), (kAI vGs cI 16 qGs)] sz)) 0 0 (va_A [(kX12 hm vFo vSi vIt vMo la vBy vTy mi vMi pn vPs gn vGs fn vFt le vTo kn fe en ca an co vPr vSt vFn sn vSg vAl dr), (kAI vTy cI 3 qTy), (kAI vBy cI 120 qBy), (kAI vMi cI 24 qMi), (kAI vPs cI 32 qPs), (kAI vGs cI 16 qGs)] sz) := by
  refine Met.ofW (cc := cX12_passenger) (maxL := 3) (ret := (some .int)) (by decide) rfl ?_
  intro p₀ e₀ s₀ m₀ args below meth c₀ s₁ B hml hv₀
  obtain ⟨rfl, hsz, hP, hK, hD0, hN⟩ := hv₀
  have hx₀ := B.exec
  have hb := B.bytes
  have hr := B.returns
  have hts := atoms_spec (ws := (kW yX12_passenger cX12_passenger 3 (some .int))) B.pre
  have hts := fun w h => hts w (List.mem_cons_of_mem _ h)
  have hown : s₀.vm.findClass RX12 = some m₀.cls := findClass_of_methodNamed B.named
  have hlocks := B.notSynchronized
  subst hsz
  have hD := hD0.self (sz := s₀.heap.size)
  generalize hAe : va_A [(kX12 hm vFo vSi vIt vMo la vBy vTy mi vMi pn vPs gn vGs fn vFt le vTo kn fe en ca an co vPr vSt vFn sn vSg vAl dr), (kAI vTy cI 3 qTy), (kAI vBy cI 120 qBy), (kAI vMi cI 24 qMi), (kAI vPs cI 32 qPs), (kAI vGs cI 16 qGs)] s₀.heap.size = A at hD ⊢
  have hA : ∀ q : Nat, s₀.heap.size ≤ q → A q := fun q h => by rw [← hAe]; exact Or.inr h
  have hS : va_S A s₀.heap s₀.heap [] := va_S.rf
  have hP : va_P (dC, dI) vwCl [(kX12 hm vFo vSi vIt vMo la vBy vTy mi vMi pn vPs gn vGs fn vFt le vTo kn fe en ca an co vPr vSt vFn sn vSg vAl dr), (kAI vTy cI 3 qTy), (kAI vBy cI 120 qBy), (kAI vMi cI 24 qMi), (kAI vPs cI 32 qPs), (kAI vGs cI 16 qGs)] s₀.heap := hP
  have hl := lv_entry ([.ref hm, .int p1, .int w1]) (n := 3) (Nat.le_of_ble_eq_true rfl)
  rw [lg_entry_eq]
  generalize (lg_sl ([.ref hm, .int p1, .int w1]) ++ List.replicate (3 - (lg_sl ([.ref hm, .int p1, .int w1])).length) Slot.unset).toArray = ls at hl ⊢
  have hl : lv_has ls 3 [(0, .ref hm), (1, .int p1), (2, .int w1)] := hl
  obtain ⟨H, hH⟩ : ∃ z : Heap, z = s₀.heap := ⟨_, rfl⟩
  rw [← hH] at hP
  have hS : va_S A s₀.heap H [] := by rw [hH]; exact hS
  refine k_heap hH ?_
  have hD : va_D A [(kX12 hm vFo vSi vIt vMo la vBy vTy mi vMi pn vPs gn vGs fn vFt le vTo kn fe en ca an co vPr vSt vFn sn vSg vAl dr), (kAI vTy cI 3 qTy), (kAI vBy cI 120 qBy), (kAI vMi cI 24 qMi), (kAI vPs cI 32 qPs), (kAI vGs cI 16 qGs)] := hD
  obtain ⟨locs, hlo⟩ : ∃ z : List Loc, z = [] := ⟨_, rfl⟩
  rw [← hlo] at hS ⊢
  clear hlo hH hAe hD0
  refine lv_aload_n hx₀ hb dX12_passenger_0 rfl (lv_at hl 0 rfl) ?_
  obtain ⟨hPc, hDc, hFc, hC⟩ := k_cw (wc := [(kX12 hm vFo vSi vIt vMo la vBy vTy mi vMi pn vPs gn vGs fn vFt le vTo kn fe en ca an co vPr vSt vFn sn vSg vAl dr), (kAI vTy cI 3 qTy), (kAI vBy cI 120 qBy), (kAI vMi cI 24 qMi), (kAI vPs cI 32 qPs), (kAI vGs cI 16 qGs)]) hP hD hS hA [0, 1, 2, 3, 4, 5] (by decide +kernel) rfl
  refine va_callv (va_runV (As := []) (rest := []) ⟨hx₀, hb, hml, hown, hts⟩ (g_reads l dC dI cI cJ cQ H.size hm vFo vSi vIt vMo la vBy vTy mi vMi pn vPs gn vGs fn vFt le vTo kn fe en ca an co vPr vSt vFn sn vSg vAl dr qTy qBy qMi qPs qGs (hh0) (hh1) (hh2)) (cwV 0 hts (kGV wd_298 wd_295 wd_296 wd_297 wd_5) rfl rfl rfl (by decide +kernel) ⟨Nat.le_of_ble_eq_true rfl, Nat.le_of_ble_eq_true rfl⟩) (k_preV11 (q0 := 0) hK hPc hDc hN rfl) rfl rfl hl.1 rfl (lv_room (Nat.le_of_ble_eq_true rfl)) dX12_passenger_1 ⟨by decide +kernel, by decide +kernel⟩) hS (fun q _ h => hFc q h) hFc (fun u₀ t₀ H1 locs ht hvm hw hB hz1 hk1 hS => ?_)
  obtain ⟨g_2, ga_3, gl_4, gb_5, gp_6⟩ := u₀
  obtain ⟨hP1, hK1, hD1⟩ := hB
  rw [ht] at hP1
  have hJ := k_jn (wr := []) (wt := [(kX12 hm vFo vSi vIt vMo la vBy vTy (g_2 0) vMi (g_2 1) vPs (g_2 2) vGs fn vFt le vTo kn fe en ca an co vPr vSt vFn sn vSg vAl dr), (kAI vTy cI 3 qTy), (kAI vBy cI 120 qBy), (kAI vMi cI 24 (ga_3 0)), (kAI vPs cI 32 (ga_3 1)), (kAI vGs cI 16 (ga_3 2))]) hP hD hC [] rfl (by decide +kernel) (by decide +kernel) hk1 hFc hP1 hD1 rfl
  clear hP hD hPc hDc hFc hC hP1 hD1 hK1 hz1 hk1 hvm ht
  obtain ⟨hP, hD⟩ := hJ
  generalize H1 = H at hP hS ⊢
  try dsimp only at hw
  obtain ⟨c_7, c_8, c_9, c_10, c_11, c_12, c_13, c_14, c_15, c_16⟩ := hw
  refine lv_aload_n hx₀ hb dX12_passenger_4 rfl (lv_at hl 0 rfl) ?_
  refine lv_iload_n hx₀ hb dX12_passenger_5 rfl (lv_at hl 1 rfl) ?_
  obtain ⟨hPc, hDc, hFc, hC⟩ := k_cw (wc := [(kX12 hm vFo vSi vIt vMo la vBy vTy (g_2 0) vMi (g_2 1) vPs (g_2 2) vGs fn vFt le vTo kn fe en ca an co vPr vSt vFn sn vSg vAl dr)]) hP hD hS hA [0] (by decide +kernel) rfl
  refine va_calli (va_runV (As := [.int p1]) (rest := []) ⟨hx₀, hb, hml, hown, hts⟩ (g_isPassenger l dC dI cI cJ cQ H.size hm p1 vFo vSi vIt vMo la vBy vTy (g_2 0) vMi (g_2 1) vPs (g_2 2) vGs fn vFt le vTo kn fe en ca an co vPr vSt vFn sn vSg vAl dr (c_8)) (cwV 1 hts (kGV wd_323 wd_320 wd_321 wd_322 wd_5) rfl rfl rfl (by decide +kernel) ⟨Nat.le_of_ble_eq_true rfl, Nat.le_of_ble_eq_true rfl⟩) (k_preV11 (q0 := 0) hK hPc hDc hN rfl) rfl rfl hl.1 rfl (lv_room (Nat.le_of_ble_eq_true rfl)) dX12_passenger_6 ⟨by decide +kernel, by decide +kernel⟩) hS (fun q _ h => hFc q h) hFc (fun r_17 u₀ t₀ H1 locs ht hvm hw hB hz1 hk1 hS => ?_)
  obtain ⟨hP1, hK1, hD1⟩ := hB
  rw [ht] at hP1
  have hJ := k_jn (wr := [(kAI vTy cI 3 qTy), (kAI vBy cI 120 qBy), (kAI vMi cI 24 (ga_3 0)), (kAI vPs cI 32 (ga_3 1)), (kAI vGs cI 16 (ga_3 2))]) (wt := [(kAI vTy cI 3 qTy), (kAI vBy cI 120 qBy), (kAI vMi cI 24 (ga_3 0)), (kAI vPs cI 32 (ga_3 1)), (kAI vGs cI 16 (ga_3 2)), (kX12 hm vFo vSi vIt vMo la vBy vTy (g_2 0) vMi (g_2 1) vPs (g_2 2) vGs fn vFt le vTo kn fe en ca an co vPr vSt vFn sn vSg vAl dr)]) hP hD hC [1, 2, 3, 4, 5] rfl (by decide +kernel) (by decide +kernel) hk1 hFc hP1 hD1 rfl
  clear hP hD hPc hDc hFc hC hP1 hD1 hK1 hz1 hk1 hvm ht
  obtain ⟨hP, hD⟩ := hJ
  generalize H1 = H at hP hS ⊢
  try dsimp only at hw
  by_cases c_18 : 0 ≤ p1 ∧ p1 < (g_2 1)
  · rw [if_pos c_18] at hw
    refine k_topi (v := 1) hw ?_
    refine lv_if_eq (tgt := 37) hx₀ hb dX12_passenger_9 (by decide) (fun c9 => absurd c9 (by decide +kernel)) (fun _ => ?_)
    refine lv_iload_n hx₀ hb dX12_passenger_12 rfl (lv_at hl 2 rfl) ?_
    refine lv_i2l hx₀ hb dX12_passenger_13 rfl ?_
    refine lv_lconst (v := 0) hx₀ hb dX12_passenger_14 (by decide +kernel) ?_
    refine lv_ldc2 (v := 3) hx₀ hb hown (hts (.constantLong RX12 72 (3)) wd_319) dX12_passenger_15 ?_
    obtain ⟨hPc, hDc, hFc, hC⟩ := k_cw (wc := []) hP hD hS hA [] (by decide +kernel) rfl
    refine va_calli (va_runS (As := [.long w1.toInt64, .long 0, .long 3]) (rest := []) ⟨hx₀, hb, hml, hown, hts⟩ (c_in l dC dI cI cJ cQ H.size w1.toInt64 0 3) (va_cwS 3 hts (kGS wd_208 wd_206 wd_207 wd_5) rfl rfl rfl (by decide +kernel) ⟨Nat.le_of_ble_eq_true rfl, Nat.le_of_ble_eq_true rfl⟩) (k_preS hK hPc hDc hN) rfl rfl hl.1 rfl (lv_room (Nat.le_of_ble_eq_true rfl)) dX12_passenger_18 ⟨by decide +kernel, by decide +kernel⟩) hS (fun q _ h => hFc q h) hFc (fun r_19 u₀ t₀ H1 locs ht hvm hw hB hz1 hk1 hS => ?_)
    obtain ⟨hP1, hK1, hD1⟩ := hB
    rw [ht] at hP1
    have hJ := k_jn (wr := [(kAI vTy cI 3 qTy), (kAI vBy cI 120 qBy), (kAI vMi cI 24 (ga_3 0)), (kAI vPs cI 32 (ga_3 1)), (kAI vGs cI 16 (ga_3 2)), (kX12 hm vFo vSi vIt vMo la vBy vTy (g_2 0) vMi (g_2 1) vPs (g_2 2) vGs fn vFt le vTo kn fe en ca an co vPr vSt vFn sn vSg vAl dr)]) (wt := [(kAI vTy cI 3 qTy), (kAI vBy cI 120 qBy), (kAI vMi cI 24 (ga_3 0)), (kAI vPs cI 32 (ga_3 1)), (kAI vGs cI 16 (ga_3 2)), (kX12 hm vFo vSi vIt vMo la vBy vTy (g_2 0) vMi (g_2 1) vPs (g_2 2) vGs fn vFt le vTo kn fe en ca an co vPr vSt vFn sn vSg vAl dr)]) hP hD hC [0, 1, 2, 3, 4, 5] rfl (by decide +kernel) (by decide +kernel) hk1 hFc hP1 hD1 rfl
    clear hP hD hPc hDc hFc hC hP1 hD1 hK1 hz1 hk1 hvm ht
    obtain ⟨hP, hD⟩ := hJ
    generalize H1 = H at hP hS ⊢
    try dsimp only at hw
    by_cases c_20 : (0 : Int64) ≤ w1.toInt64 ∧ w1.toInt64 ≤ (3 : Int64)
    · rw [if_pos c_20] at hw
      refine k_topi (v := 1) hw ?_
      refine lv_if_eq (tgt := 37) hx₀ hb dX12_passenger_21 (by decide) (fun c9 => absurd c9 (by decide +kernel)) (fun _ => ?_)
      refine lv_aload_n hx₀ hb dX12_passenger_24 rfl (lv_at hl 0 rfl) ?_
      refine va_get (D := (dC, dI)) (ci := 11) (v := .ref vPs) (C := RX12) (T := TX12) (N := 30) hx₀ hb hts inlX12 hown hK hP 5 rfl rfl 10 (by decide) (hts (.fieldLink RX12 31 "BittenStickModel" "passenger" "[I") wd_122) (fun _ h9 => h9) rfl dX12_passenger_25 ?_
      refine lv_iconst (v := 4) hx₀ hb dX12_passenger_28 (by decide +kernel) ?_
      refine lv_iload_n hx₀ hb dX12_passenger_29 rfl (lv_at hl 1 rfl) ?_
      refine lv_imul hx₀ hb dX12_passenger_30 ?_
      refine lv_iload_n hx₀ hb dX12_passenger_31 rfl (lv_at hl 2 rfl) ?_
      refine lv_iadd hx₀ hb dX12_passenger_32 ?_
      refine va_iald hx₀ hb hK hP 3 0 rfl rfl (vp_in_iff.mpr (lf_g_passenger_1 (g_2 1) p1 w1 c_8 c_18 c_20)) dX12_passenger_33 ?_
      refine lv_topi (fun y_21 ey_21 => ?_)
      refine lv_goto (tgt := 39) hx₀ hb dX12_passenger_34 (by decide) ?_
      obtain ⟨hP9, hD9⟩ := k_c2 (wc := [(kX12 hm vFo vSi vIt vMo la vBy vTy (g_2 0) vMi (g_2 1) vPs (g_2 2) vGs fn vFt le vTo kn fe en ca an co vPr vSt vFn sn vSg vAl dr), (kAI vTy cI 3 qTy), (kAI vBy cI 120 qBy), (kAI vMi cI 24 (ga_3 0)), (kAI vPs cI 32 (ga_3 1)), (kAI vGs cI 16 (ga_3 2))]) hP hD [5, 0, 1, 2, 3, 4] (by decide +kernel) rfl
      exact W.iret (v := y_21) hx₀ hb hr (fun t₀ ht hW => ⟨⟨y_21, (k_fn [(g_2 0), (g_2 1), (g_2 2)], k_fa [ga_3 0, ga_3 1, ga_3 2], k_fl [], k_fL [], k_fp []), rfl, ⟨(by rewrite [← c_12, ← show y_21 = kv7 qBy ((5 * p1) + w1).toNatClampNeg from ey_21.trans (k_mp_at (c := 5) (d := 4) (by decide) (by decide) (by decide) (k_mq_mp c_15 (lf_g_passenger_3 (g_2 1) p1 c_8 c_18)) (lf_g_passenger_4 (g_2 1) p1 c_8 c_18) (lf_g_passenger_5 w1 c_20) (by have h9 := k_lt7 (f := (kv7 qBy)) (lf_g_passenger_2 (qTy 1) hh1) (by rw [← c_12]; exact c_18); have h8 := lf_g_passenger_6 w1 c_20; omega))]; exact show (y_21 : Int32) = if (0 ≤ p1 ∧ p1 < (g_2 1)) ∧ 0 ≤ w1 ∧ w1 ≤ 3 then y_21 else -2 from (if_pos (show (0 ≤ p1 ∧ p1 < (g_2 1)) ∧ 0 ≤ w1 ∧ w1 ≤ 3 from ⟨⟨c_18.1, c_18.2⟩, ((k_64 (a := w1) (l := 0) (h := 3) (by decide) (by decide)).mp c_20).1, ((k_64 (a := w1) (l := 0) (h := 3) (by decide) (by decide)).mp c_20).2⟩)).symm), c_7, c_8, c_9⟩, by rw [ht]; exact hP9, va_K.moved hW.alike hK, hD9⟩, hS.F ht⟩) hS.2.2 dX12_passenger_39
    rw [if_neg c_20] at hw
    refine k_topi (v := 0) hw ?_
    refine lv_if_eq (tgt := 37) hx₀ hb dX12_passenger_21 (by decide) (fun _ => ?_) (fun c9 => absurd (by decide +kernel) c9)
    refine lv_bipush (v := (-2)) hx₀ hb dX12_passenger_37 (by decide +kernel) ?_
    obtain ⟨hP9, hD9⟩ := k_c2 (wc := [(kX12 hm vFo vSi vIt vMo la vBy vTy (g_2 0) vMi (g_2 1) vPs (g_2 2) vGs fn vFt le vTo kn fe en ca an co vPr vSt vFn sn vSg vAl dr), (kAI vTy cI 3 qTy), (kAI vBy cI 120 qBy), (kAI vMi cI 24 (ga_3 0)), (kAI vPs cI 32 (ga_3 1)), (kAI vGs cI 16 (ga_3 2))]) hP hD [5, 0, 1, 2, 3, 4] (by decide +kernel) rfl
    exact W.iret (v := (-2)) hx₀ hb hr (fun t₀ ht hW => ⟨⟨(-2), (k_fn [(g_2 0), (g_2 1), (g_2 2)], k_fa [ga_3 0, ga_3 1, ga_3 2], k_fl [], k_fL [], k_fp []), rfl, ⟨(by rewrite [← c_12]; exact show ((-2) : Int32) = if (0 ≤ p1 ∧ p1 < (g_2 1)) ∧ 0 ≤ w1 ∧ w1 ≤ 3 then (kv7 qBy ((5 * p1) + w1).toNatClampNeg) else -2 from (if_neg (show ¬ ((0 ≤ p1 ∧ p1 < (g_2 1)) ∧ 0 ≤ w1 ∧ w1 ≤ 3) from (fun z => (fun z => c_20 ((k_64 (a := w1) (l := 0) (h := 3) (by decide) (by decide)).mpr z)) (And.intro z.2.1 z.2.2)))).symm), c_7, c_8, c_9⟩, by rw [ht]; exact hP9, va_K.moved hW.alike hK, hD9⟩, hS.F ht⟩) hS.2.2 dX12_passenger_39
  rw [if_neg c_18] at hw
  refine k_topi (v := 0) hw ?_
  refine lv_if_eq (tgt := 37) hx₀ hb dX12_passenger_9 (by decide) (fun _ => ?_) (fun c9 => absurd (by decide +kernel) c9)
  refine lv_bipush (v := (-2)) hx₀ hb dX12_passenger_37 (by decide +kernel) ?_
  obtain ⟨hP9, hD9⟩ := k_c2 (wc := [(kX12 hm vFo vSi vIt vMo la vBy vTy (g_2 0) vMi (g_2 1) vPs (g_2 2) vGs fn vFt le vTo kn fe en ca an co vPr vSt vFn sn vSg vAl dr), (kAI vTy cI 3 qTy), (kAI vBy cI 120 qBy), (kAI vMi cI 24 (ga_3 0)), (kAI vPs cI 32 (ga_3 1)), (kAI vGs cI 16 (ga_3 2))]) hP hD [5, 0, 1, 2, 3, 4] (by decide +kernel) rfl
  exact W.iret (v := (-2)) hx₀ hb hr (fun t₀ ht hW => ⟨⟨(-2), (k_fn [(g_2 0), (g_2 1), (g_2 2)], k_fa [ga_3 0, ga_3 1, ga_3 2], k_fl [], k_fL [], k_fp []), rfl, ⟨(by rewrite [← c_12]; exact show ((-2) : Int32) = if (0 ≤ p1 ∧ p1 < (g_2 1)) ∧ 0 ≤ w1 ∧ w1 ≤ 3 then (kv7 qBy ((5 * p1) + w1).toNatClampNeg) else -2 from (if_neg (show ¬ ((0 ≤ p1 ∧ p1 < (g_2 1)) ∧ 0 ≤ w1 ∧ w1 ≤ 3) from (fun z => c_18 z.1))).symm), c_7, c_8, c_9⟩, by rw [ht]; exact hP9, va_K.moved hW.alike hK, hD9⟩, hS.F ht⟩) hS.2.2 dX12_passenger_39
theorem lf_g_goose_1 (a0 : Int32) (a1 : Int32) (a2 : Int32) (h0 : 0 ≤ (a0) ∧ (a0) ≤ 8) (h1 : 0 ≤ a1 ∧ a1 < (a0)) (h2 : 0 ≤ a2 ∧ a2 ≤ 1) : 0 ≤ ((2 * a1) + a2).toInt ∧ ((2 * a1) + a2).toInt < 16 := by
  first | rfl | assumption | decide | exact Or.inl rfl | (first | omega | (have hr0 := Int32.toInt_lt a0; have hs0 := Int32.le_toInt a0; have hr1 := Int32.toInt_lt a1; have hs1 := Int32.le_toInt a1; have hr2 := Int32.toInt_lt a2; have hs2 := Int32.le_toInt a2; simp only [Int64.toInt_add, Int64.toInt_sub, Int32.toInt_add, Int32.toInt_sub, Int32.toInt_mul, Int64.le_iff_toInt_le, Int64.lt_iff_toInt_lt, Int32.le_iff_toInt_le, Int32.lt_iff_toInt_lt, ← Int32.toInt_inj, ← Int64.toInt_inj, Int32.toInt_toInt64, kc_0, kc_1, kc_2, kc_8, kc_16] at *; (first | omega | ((try simp (disch := omega) only [k_bm64] at *); (try simp (disch := omega) only [k_bm] at *); (try simp (disch := omega) only [k_bm] at *); omega) | (simp only [Int.bmod] at *; omega))))
theorem lf_g_goose_2 (a0 : Int32) (h0 : 0 ≤ (a0).toInt ∧ (a0).toInt ≤ 23) : 0 ≤ (a0) ∧ (a0).toInt ≤ 100 := by
  first | rfl | assumption | decide | exact Or.inl rfl | (first | omega | (have hr0 := Int32.toInt_lt a0; have hs0 := Int32.le_toInt a0; simp only [Int64.toInt_add, Int64.toInt_sub, Int32.toInt_add, Int32.toInt_sub, Int32.toInt_mul, Int64.le_iff_toInt_le, Int64.lt_iff_toInt_lt, Int32.le_iff_toInt_le, Int32.lt_iff_toInt_lt, ← Int32.toInt_inj, ← Int64.toInt_inj, Int32.toInt_toInt64, kc_0, kc_23, kc_100] at *; (first | omega | ((try simp (disch := omega) only [k_bm64] at *); (try simp (disch := omega) only [k_bm] at *); (try simp (disch := omega) only [k_bm] at *); omega) | (simp only [Int.bmod] at *; omega))))
theorem lf_g_goose_3 (a0 : Int32) (h0 : 0 ≤ a0 ∧ a0 ≤ 1) : 0 ≤ a0 ∧ a0 < 2 := by
  first | rfl | assumption | decide | exact Or.inl rfl | (first | omega | (have hr0 := Int32.toInt_lt a0; have hs0 := Int32.le_toInt a0; simp only [Int64.toInt_add, Int64.toInt_sub, Int32.toInt_add, Int32.toInt_sub, Int32.toInt_mul, Int64.le_iff_toInt_le, Int64.lt_iff_toInt_lt, Int32.le_iff_toInt_le, Int32.lt_iff_toInt_lt, ← Int32.toInt_inj, ← Int64.toInt_inj, Int32.toInt_toInt64, kc_0, kc_1, kc_2] at *; (first | omega | ((try simp (disch := omega) only [k_bm64] at *); (try simp (disch := omega) only [k_bm] at *); (try simp (disch := omega) only [k_bm] at *); omega) | (simp only [Int.bmod] at *; omega))))
theorem lf_g_goose_4 (a0 : Int32) (h0 : 0 ≤ a0 ∧ a0 ≤ 1) : a0.toInt ≤ 1 := by
  first | rfl | assumption | decide | exact Or.inl rfl | (first | omega | (have hr0 := Int32.toInt_lt a0; have hs0 := Int32.le_toInt a0; simp only [Int64.toInt_add, Int64.toInt_sub, Int32.toInt_add, Int32.toInt_sub, Int32.toInt_mul, Int64.le_iff_toInt_le, Int64.lt_iff_toInt_lt, Int32.le_iff_toInt_le, Int32.lt_iff_toInt_lt, ← Int32.toInt_inj, ← Int64.toInt_inj, Int32.toInt_toInt64, kc_0, kc_1] at *; (first | omega | ((try simp (disch := omega) only [k_bm64] at *); (try simp (disch := omega) only [k_bm] at *); (try simp (disch := omega) only [k_bm] at *); omega) | (simp only [Int.bmod] at *; omega))))
set_option maxHeartbeats 4000000 in
set_option maxRecDepth 100000 in
theorem g_goose (l : Launch) (dC : Nat → ClassId) (dI : Nat → Nat → Nat) (cI cJ cQ : ClassId) (sz : Nat) (hm : Nat) (g1 : Int32) (w1 : Int32) (vFo : Nat) (vSi : Nat) (vIt : Nat) (vMo : Nat) (la : Int32) (vBy : Nat) (vTy : Nat) (mi : Int32) (vMi : Nat) (pn : Int32) (vPs : Nat) (gn : Int32) (vGs : Nat) (fn : Int32) (vFt : Nat) (le : Int32) (vTo : Nat) (kn : Int32) (fe : Int32) (en : Int32) (ca : Int32) (an : Int32) (co : Int32) (vPr : Nat) (vSt : Nat) (vFn : Nat) (sn : Int32) (vSg : Nat) (vAl : Nat) (dr : Int32) (qTy : Nat → Int32) (qBy : Nat → Int32) (qMi : Nat → Int32) (qPs : Nat → Int32) (qGs : Nat → Int32) (hh0 : 0 ≤ (qTy 0).toInt ∧ (qTy 0).toInt ≤ 24) (hh1 : 0 ≤ (qTy 1).toInt ∧ (qTy 1).toInt ≤ 39) (hh2 : 0 ≤ (qTy 2).toInt ∧ (qTy 2).toInt ≤ 23) : Met l yX12_goose (kW yX12_goose cX12_goose 3 (some .int)) { frames := 5, cells := 0, slots := 0, locals := 111 } (kPre dC dI cI cJ cQ sz [.ref hm, .int g1, .int w1] [(kX12 hm vFo vSi vIt vMo la vBy vTy mi vMi pn vPs gn vGs fn vFt le vTo kn fe en ca an co vPr vSt vFn sn vSg vAl dr), (kAI vTy cI 3 qTy), (kAI vBy cI 120 qBy), (kAI vMi cI 24 qMi), (kAI vPs cI 32 qPs), (kAI vGs cI 16 qGs)]) (va_Qi (fun (r : Int32) (u : kS) => (r = if (0 ≤ g1 ∧ g1 < kNm (kTh2 (qTy 2)) (qTy 2) (kv2 qBy)) ∧ 0 ≤ w1 ∧ w1 ≤ 1 then kv2 qBy ((3 * g1) + w1).toNatClampNeg else -2) ∧ (0 ≤ (u.1 0) ∧ (u.1 0) ≤ 24) ∧ (0 ≤ (u.1 1) ∧ (u.1 1) ≤ 8) ∧ (0 ≤ (u.1 2) ∧ (u.1 2) ≤ 8)) (fun (u : kS) t₀ => kB dC dI cI cJ cQ (va_A [(kX12 hm vFo vSi vIt vMo la vBy vTy mi vMi pn vPs gn vGs fn vFt le vTo kn fe en ca an co vPr vSt vFn sn vSg vAl dr), (kAI vTy cI 3 qTy), (kAI vBy cI 120 qBy), (kAI vMi cI 24 qMi), (kAI vPs cI 32 qPs), (kAI vGs cI 16 qGs)] sz) [(kX12 hm vFo vSi vIt vMo la vBy vTy (u.1 0) vMi (u.1 1) vPs (u.1 2) vGs fn vFt le vTo kn fe en ca an co vPr vSt vFn sn vSg vAl dr), (kAI vTy cI 3 qTy), (kAI vBy cI 120 qBy), (kAI vMi cI 24 (u.2.1 0)), (kAI vPs cI 32 (u.2.1 1)), (kAI vGs cI 16 (u.2.1 2))] t₀) (va_A [(kX12 hm vFo vSi vIt vMo la vBy vTy mi vMi pn vPs gn vGs fn vFt le vTo kn fe en ca an co vPr vSt vFn sn vSg vAl dr), (kAI vTy cI 3 qTy), (kAI vBy cI 120 qBy), (kAI vMi cI 24 qMi), (kAI vPs cI 32 qPs), (kAI vGs cI 16 qGs)] sz)) 0 0 (va_A [(kX12 hm vFo vSi vIt vMo la vBy vTy mi vMi pn vPs gn vGs fn vFt le vTo kn fe en ca an co vPr vSt vFn sn vSg vAl dr), (kAI vTy cI 3 qTy), (kAI vBy cI 120 qBy), (kAI vMi cI 24 qMi), (kAI vPs cI 32 qPs), (kAI vGs cI 16 qGs)] sz) := by
  refine Met.ofW (cc := cX12_goose) (maxL := 3) (ret := (some .int)) (by decide) rfl ?_
  intro p₀ e₀ s₀ m₀ args below meth c₀ s₁ B hml hv₀
  obtain ⟨rfl, hsz, hP, hK, hD0, hN⟩ := hv₀
  have hx₀ := B.exec
  have hb := B.bytes
  have hr := B.returns
  have hts := atoms_spec (ws := (kW yX12_goose cX12_goose 3 (some .int))) B.pre
  have hts := fun w h => hts w (List.mem_cons_of_mem _ h)
  have hown : s₀.vm.findClass RX12 = some m₀.cls := findClass_of_methodNamed B.named
  have hlocks := B.notSynchronized
  subst hsz
  have hD := hD0.self (sz := s₀.heap.size)
  generalize hAe : va_A [(kX12 hm vFo vSi vIt vMo la vBy vTy mi vMi pn vPs gn vGs fn vFt le vTo kn fe en ca an co vPr vSt vFn sn vSg vAl dr), (kAI vTy cI 3 qTy), (kAI vBy cI 120 qBy), (kAI vMi cI 24 qMi), (kAI vPs cI 32 qPs), (kAI vGs cI 16 qGs)] s₀.heap.size = A at hD ⊢
  have hA : ∀ q : Nat, s₀.heap.size ≤ q → A q := fun q h => by rw [← hAe]; exact Or.inr h
  have hS : va_S A s₀.heap s₀.heap [] := va_S.rf
  have hP : va_P (dC, dI) vwCl [(kX12 hm vFo vSi vIt vMo la vBy vTy mi vMi pn vPs gn vGs fn vFt le vTo kn fe en ca an co vPr vSt vFn sn vSg vAl dr), (kAI vTy cI 3 qTy), (kAI vBy cI 120 qBy), (kAI vMi cI 24 qMi), (kAI vPs cI 32 qPs), (kAI vGs cI 16 qGs)] s₀.heap := hP
  have hl := lv_entry ([.ref hm, .int g1, .int w1]) (n := 3) (Nat.le_of_ble_eq_true rfl)
  rw [lg_entry_eq]
  generalize (lg_sl ([.ref hm, .int g1, .int w1]) ++ List.replicate (3 - (lg_sl ([.ref hm, .int g1, .int w1])).length) Slot.unset).toArray = ls at hl ⊢
  have hl : lv_has ls 3 [(0, .ref hm), (1, .int g1), (2, .int w1)] := hl
  obtain ⟨H, hH⟩ : ∃ z : Heap, z = s₀.heap := ⟨_, rfl⟩
  rw [← hH] at hP
  have hS : va_S A s₀.heap H [] := by rw [hH]; exact hS
  refine k_heap hH ?_
  have hD : va_D A [(kX12 hm vFo vSi vIt vMo la vBy vTy mi vMi pn vPs gn vGs fn vFt le vTo kn fe en ca an co vPr vSt vFn sn vSg vAl dr), (kAI vTy cI 3 qTy), (kAI vBy cI 120 qBy), (kAI vMi cI 24 qMi), (kAI vPs cI 32 qPs), (kAI vGs cI 16 qGs)] := hD
  obtain ⟨locs, hlo⟩ : ∃ z : List Loc, z = [] := ⟨_, rfl⟩
  rw [← hlo] at hS ⊢
  clear hlo hH hAe hD0
  refine lv_aload_n hx₀ hb dX12_goose_0 rfl (lv_at hl 0 rfl) ?_
  obtain ⟨hPc, hDc, hFc, hC⟩ := k_cw (wc := [(kX12 hm vFo vSi vIt vMo la vBy vTy mi vMi pn vPs gn vGs fn vFt le vTo kn fe en ca an co vPr vSt vFn sn vSg vAl dr), (kAI vTy cI 3 qTy), (kAI vBy cI 120 qBy), (kAI vMi cI 24 qMi), (kAI vPs cI 32 qPs), (kAI vGs cI 16 qGs)]) hP hD hS hA [0, 1, 2, 3, 4, 5] (by decide +kernel) rfl
  refine va_callv (va_runV (As := []) (rest := []) ⟨hx₀, hb, hml, hown, hts⟩ (g_reads l dC dI cI cJ cQ H.size hm vFo vSi vIt vMo la vBy vTy mi vMi pn vPs gn vGs fn vFt le vTo kn fe en ca an co vPr vSt vFn sn vSg vAl dr qTy qBy qMi qPs qGs (hh0) (hh1) (hh2)) (cwV 0 hts (kGV wd_298 wd_295 wd_296 wd_297 wd_5) rfl rfl rfl (by decide +kernel) ⟨Nat.le_of_ble_eq_true rfl, Nat.le_of_ble_eq_true rfl⟩) (k_preV11 (q0 := 0) hK hPc hDc hN rfl) rfl rfl hl.1 rfl (lv_room (Nat.le_of_ble_eq_true rfl)) dX12_goose_1 ⟨by decide +kernel, by decide +kernel⟩) hS (fun q _ h => hFc q h) hFc (fun u₀ t₀ H1 locs ht hvm hw hB hz1 hk1 hS => ?_)
  obtain ⟨g_2, ga_3, gl_4, gb_5, gp_6⟩ := u₀
  obtain ⟨hP1, hK1, hD1⟩ := hB
  rw [ht] at hP1
  have hJ := k_jn (wr := []) (wt := [(kX12 hm vFo vSi vIt vMo la vBy vTy (g_2 0) vMi (g_2 1) vPs (g_2 2) vGs fn vFt le vTo kn fe en ca an co vPr vSt vFn sn vSg vAl dr), (kAI vTy cI 3 qTy), (kAI vBy cI 120 qBy), (kAI vMi cI 24 (ga_3 0)), (kAI vPs cI 32 (ga_3 1)), (kAI vGs cI 16 (ga_3 2))]) hP hD hC [] rfl (by decide +kernel) (by decide +kernel) hk1 hFc hP1 hD1 rfl
  clear hP hD hPc hDc hFc hC hP1 hD1 hK1 hz1 hk1 hvm ht
  obtain ⟨hP, hD⟩ := hJ
  generalize H1 = H at hP hS ⊢
  try dsimp only at hw
  obtain ⟨c_7, c_8, c_9, c_10, c_11, c_12, c_13, c_14, c_15, c_16⟩ := hw
  refine lv_aload_n hx₀ hb dX12_goose_4 rfl (lv_at hl 0 rfl) ?_
  refine lv_iload_n hx₀ hb dX12_goose_5 rfl (lv_at hl 1 rfl) ?_
  obtain ⟨hPc, hDc, hFc, hC⟩ := k_cw (wc := [(kX12 hm vFo vSi vIt vMo la vBy vTy (g_2 0) vMi (g_2 1) vPs (g_2 2) vGs fn vFt le vTo kn fe en ca an co vPr vSt vFn sn vSg vAl dr)]) hP hD hS hA [0] (by decide +kernel) rfl
  refine va_calli (va_runV (As := [.int g1]) (rest := []) ⟨hx₀, hb, hml, hown, hts⟩ (g_isGoose l dC dI cI cJ cQ H.size hm g1 vFo vSi vIt vMo la vBy vTy (g_2 0) vMi (g_2 1) vPs (g_2 2) vGs fn vFt le vTo kn fe en ca an co vPr vSt vFn sn vSg vAl dr (c_9)) (cwV 1 hts (kGV wd_345 wd_342 wd_343 wd_344 wd_5) rfl rfl rfl (by decide +kernel) ⟨Nat.le_of_ble_eq_true rfl, Nat.le_of_ble_eq_true rfl⟩) (k_preV11 (q0 := 0) hK hPc hDc hN rfl) rfl rfl hl.1 rfl (lv_room (Nat.le_of_ble_eq_true rfl)) dX12_goose_6 ⟨by decide +kernel, by decide +kernel⟩) hS (fun q _ h => hFc q h) hFc (fun r_17 u₀ t₀ H1 locs ht hvm hw hB hz1 hk1 hS => ?_)
  obtain ⟨hP1, hK1, hD1⟩ := hB
  rw [ht] at hP1
  have hJ := k_jn (wr := [(kAI vTy cI 3 qTy), (kAI vBy cI 120 qBy), (kAI vMi cI 24 (ga_3 0)), (kAI vPs cI 32 (ga_3 1)), (kAI vGs cI 16 (ga_3 2))]) (wt := [(kAI vTy cI 3 qTy), (kAI vBy cI 120 qBy), (kAI vMi cI 24 (ga_3 0)), (kAI vPs cI 32 (ga_3 1)), (kAI vGs cI 16 (ga_3 2)), (kX12 hm vFo vSi vIt vMo la vBy vTy (g_2 0) vMi (g_2 1) vPs (g_2 2) vGs fn vFt le vTo kn fe en ca an co vPr vSt vFn sn vSg vAl dr)]) hP hD hC [1, 2, 3, 4, 5] rfl (by decide +kernel) (by decide +kernel) hk1 hFc hP1 hD1 rfl
  clear hP hD hPc hDc hFc hC hP1 hD1 hK1 hz1 hk1 hvm ht
  obtain ⟨hP, hD⟩ := hJ
  generalize H1 = H at hP hS ⊢
  try dsimp only at hw
  by_cases c_18 : 0 ≤ g1 ∧ g1 < (g_2 2)
  · rw [if_pos c_18] at hw
    refine k_topi (v := 1) hw ?_
    refine lv_if_eq (tgt := 32) hx₀ hb dX12_goose_9 (by decide) (fun c9 => absurd c9 (by decide +kernel)) (fun _ => ?_)
    refine lv_iload_n hx₀ hb dX12_goose_12 rfl (lv_at hl 2 rfl) ?_
    obtain ⟨hPc, hDc, hFc, hC⟩ := k_cw (wc := []) hP hD hS hA [] (by decide +kernel) rfl
    refine va_calli (va_runS (As := [.int w1]) (rest := []) ⟨hx₀, hb, hml, hown, hts⟩ (c_isTwo l dC dI cI cJ cQ H.size w1) (va_cwS 1 hts (kGS wd_348 wd_346 wd_347 wd_5) rfl rfl rfl (by decide +kernel) ⟨Nat.le_of_ble_eq_true rfl, Nat.le_of_ble_eq_true rfl⟩) (k_preS hK hPc hDc hN) rfl rfl hl.1 rfl (lv_room (Nat.le_of_ble_eq_true rfl)) dX12_goose_13 ⟨by decide +kernel, by decide +kernel⟩) hS (fun q _ h => hFc q h) hFc (fun r_19 u₀ t₀ H1 locs ht hvm hw hB hz1 hk1 hS => ?_)
    obtain ⟨hP1, hK1, hD1⟩ := hB
    rw [ht] at hP1
    have hJ := k_jn (wr := [(kAI vTy cI 3 qTy), (kAI vBy cI 120 qBy), (kAI vMi cI 24 (ga_3 0)), (kAI vPs cI 32 (ga_3 1)), (kAI vGs cI 16 (ga_3 2)), (kX12 hm vFo vSi vIt vMo la vBy vTy (g_2 0) vMi (g_2 1) vPs (g_2 2) vGs fn vFt le vTo kn fe en ca an co vPr vSt vFn sn vSg vAl dr)]) (wt := [(kAI vTy cI 3 qTy), (kAI vBy cI 120 qBy), (kAI vMi cI 24 (ga_3 0)), (kAI vPs cI 32 (ga_3 1)), (kAI vGs cI 16 (ga_3 2)), (kX12 hm vFo vSi vIt vMo la vBy vTy (g_2 0) vMi (g_2 1) vPs (g_2 2) vGs fn vFt le vTo kn fe en ca an co vPr vSt vFn sn vSg vAl dr)]) hP hD hC [0, 1, 2, 3, 4, 5] rfl (by decide +kernel) (by decide +kernel) hk1 hFc hP1 hD1 rfl
    clear hP hD hPc hDc hFc hC hP1 hD1 hK1 hz1 hk1 hvm ht
    obtain ⟨hP, hD⟩ := hJ
    generalize H1 = H at hP hS ⊢
    try dsimp only at hw
    by_cases c_20 : 0 ≤ w1 ∧ w1 ≤ 1
    · rw [if_pos c_20] at hw
      refine k_topi (v := 1) hw ?_
      refine lv_if_eq (tgt := 32) hx₀ hb dX12_goose_16 (by decide) (fun c9 => absurd c9 (by decide +kernel)) (fun _ => ?_)
      refine lv_aload_n hx₀ hb dX12_goose_19 rfl (lv_at hl 0 rfl) ?_
      refine va_get (D := (dC, dI)) (ci := 11) (v := .ref vGs) (C := RX12) (T := TX12) (N := 30) hx₀ hb hts inlX12 hown hK hP 5 rfl rfl 12 (by decide) (hts (.fieldLink RX12 34 "BittenStickModel" "goose" "[I") wd_123) (fun _ h9 => h9) rfl dX12_goose_20 ?_
      refine lv_iconst (v := 2) hx₀ hb dX12_goose_23 (by decide +kernel) ?_
      refine lv_iload_n hx₀ hb dX12_goose_24 rfl (lv_at hl 1 rfl) ?_
      refine lv_imul hx₀ hb dX12_goose_25 ?_
      refine lv_iload_n hx₀ hb dX12_goose_26 rfl (lv_at hl 2 rfl) ?_
      refine lv_iadd hx₀ hb dX12_goose_27 ?_
      refine va_iald hx₀ hb hK hP 4 0 rfl rfl (vp_in_iff.mpr (lf_g_goose_1 (g_2 2) g1 w1 c_9 c_18 c_20)) dX12_goose_28 ?_
      refine lv_topi (fun y_21 ey_21 => ?_)
      refine lv_goto (tgt := 34) hx₀ hb dX12_goose_29 (by decide) ?_
      obtain ⟨hP9, hD9⟩ := k_c2 (wc := [(kX12 hm vFo vSi vIt vMo la vBy vTy (g_2 0) vMi (g_2 1) vPs (g_2 2) vGs fn vFt le vTo kn fe en ca an co vPr vSt vFn sn vSg vAl dr), (kAI vTy cI 3 qTy), (kAI vBy cI 120 qBy), (kAI vMi cI 24 (ga_3 0)), (kAI vPs cI 32 (ga_3 1)), (kAI vGs cI 16 (ga_3 2))]) hP hD [5, 0, 1, 2, 3, 4] (by decide +kernel) rfl
      exact W.iret (v := y_21) hx₀ hb hr (fun t₀ ht hW => ⟨⟨y_21, (k_fn [(g_2 0), (g_2 1), (g_2 2)], k_fa [ga_3 0, ga_3 1, ga_3 2], k_fl [], k_fL [], k_fp []), rfl, ⟨(by rewrite [← c_13, ← show y_21 = kv2 qBy ((3 * g1) + w1).toNatClampNeg from ey_21.trans (k_mp_at (c := 3) (d := 2) (by decide) (by decide) (by decide) (k_mq_mp c_16 (lf_g_passenger_3 (g_2 2) g1 c_9 c_18)) (lf_g_passenger_4 (g_2 2) g1 c_9 c_18) (lf_g_goose_3 w1 c_20) (by have h9 := k_lt2 (f := (kv2 qBy)) (lf_g_goose_2 (qTy 2) hh2) (by rw [← c_13]; exact c_18); have h8 := lf_g_goose_4 w1 c_20; omega))]; exact show (y_21 : Int32) = if (0 ≤ g1 ∧ g1 < (g_2 2)) ∧ 0 ≤ w1 ∧ w1 ≤ 1 then y_21 else -2 from (if_pos (show (0 ≤ g1 ∧ g1 < (g_2 2)) ∧ 0 ≤ w1 ∧ w1 ≤ 1 from ⟨⟨c_18.1, c_18.2⟩, c_20.1, c_20.2⟩)).symm), c_7, c_8, c_9⟩, by rw [ht]; exact hP9, va_K.moved hW.alike hK, hD9⟩, hS.F ht⟩) hS.2.2 dX12_goose_34
    rw [if_neg c_20] at hw
    refine k_topi (v := 0) hw ?_
    refine lv_if_eq (tgt := 32) hx₀ hb dX12_goose_16 (by decide) (fun _ => ?_) (fun c9 => absurd (by decide +kernel) c9)
    refine lv_bipush (v := (-2)) hx₀ hb dX12_goose_32 (by decide +kernel) ?_
    obtain ⟨hP9, hD9⟩ := k_c2 (wc := [(kX12 hm vFo vSi vIt vMo la vBy vTy (g_2 0) vMi (g_2 1) vPs (g_2 2) vGs fn vFt le vTo kn fe en ca an co vPr vSt vFn sn vSg vAl dr), (kAI vTy cI 3 qTy), (kAI vBy cI 120 qBy), (kAI vMi cI 24 (ga_3 0)), (kAI vPs cI 32 (ga_3 1)), (kAI vGs cI 16 (ga_3 2))]) hP hD [5, 0, 1, 2, 3, 4] (by decide +kernel) rfl
    exact W.iret (v := (-2)) hx₀ hb hr (fun t₀ ht hW => ⟨⟨(-2), (k_fn [(g_2 0), (g_2 1), (g_2 2)], k_fa [ga_3 0, ga_3 1, ga_3 2], k_fl [], k_fL [], k_fp []), rfl, ⟨(by rewrite [← c_13]; exact show ((-2) : Int32) = if (0 ≤ g1 ∧ g1 < (g_2 2)) ∧ 0 ≤ w1 ∧ w1 ≤ 1 then (kv2 qBy ((3 * g1) + w1).toNatClampNeg) else -2 from (if_neg (show ¬ ((0 ≤ g1 ∧ g1 < (g_2 2)) ∧ 0 ≤ w1 ∧ w1 ≤ 1) from (fun z => c_20 (And.intro z.2.1 z.2.2)))).symm), c_7, c_8, c_9⟩, by rw [ht]; exact hP9, va_K.moved hW.alike hK, hD9⟩, hS.F ht⟩) hS.2.2 dX12_goose_34
  rw [if_neg c_18] at hw
  refine k_topi (v := 0) hw ?_
  refine lv_if_eq (tgt := 32) hx₀ hb dX12_goose_9 (by decide) (fun _ => ?_) (fun c9 => absurd (by decide +kernel) c9)
  refine lv_bipush (v := (-2)) hx₀ hb dX12_goose_32 (by decide +kernel) ?_
  obtain ⟨hP9, hD9⟩ := k_c2 (wc := [(kX12 hm vFo vSi vIt vMo la vBy vTy (g_2 0) vMi (g_2 1) vPs (g_2 2) vGs fn vFt le vTo kn fe en ca an co vPr vSt vFn sn vSg vAl dr), (kAI vTy cI 3 qTy), (kAI vBy cI 120 qBy), (kAI vMi cI 24 (ga_3 0)), (kAI vPs cI 32 (ga_3 1)), (kAI vGs cI 16 (ga_3 2))]) hP hD [5, 0, 1, 2, 3, 4] (by decide +kernel) rfl
  exact W.iret (v := (-2)) hx₀ hb hr (fun t₀ ht hW => ⟨⟨(-2), (k_fn [(g_2 0), (g_2 1), (g_2 2)], k_fa [ga_3 0, ga_3 1, ga_3 2], k_fl [], k_fL [], k_fp []), rfl, ⟨(by rewrite [← c_13]; exact show ((-2) : Int32) = if (0 ≤ g1 ∧ g1 < (g_2 2)) ∧ 0 ≤ w1 ∧ w1 ≤ 1 then (kv2 qBy ((3 * g1) + w1).toNatClampNeg) else -2 from (if_neg (show ¬ ((0 ≤ g1 ∧ g1 < (g_2 2)) ∧ 0 ≤ w1 ∧ w1 ≤ 1) from (fun z => c_18 z.1))).symm), c_7, c_8, c_9⟩, by rw [ht]; exact hP9, va_K.moved hW.alike hK, hD9⟩, hS.F ht⟩) hS.2.2 dX12_goose_34
set_option maxHeartbeats 4000000 in
set_option maxRecDepth 100000 in
theorem g_comes (l : Launch) (dC : Nat → ClassId) (dI : Nat → Nat → Nat) (cI cJ cQ : ClassId) (sz : Nat) (hm : Nat) (f1 : Int32) (w1 : Int32) (vFo : Nat) (vSi : Nat) (vIt : Nat) (vMo : Nat) (la : Int32) (vBy : Nat) (vTy : Nat) (mi : Int32) (vMi : Nat) (pn : Int32) (vPs : Nat) (gn : Int32) (vGs : Nat) (fn : Int32) (vFt : Nat) (le : Int32) (vTo : Nat) (kn : Int32) (fe : Int32) (en : Int32) (ca : Int32) (an : Int32) (co : Int32) (vPr : Nat) (vSt : Nat) (vFn : Nat) (sn : Int32) (vSg : Nat) (vAl : Nat) (dr : Int32) (qTy : Nat → Int32) (qBy : Nat → Int32) (qMi : Nat → Int32) (qPs : Nat → Int32) (qGs : Nat → Int32) (qTo : Nat → Int32) (qPr : Nat → Int32) (qSt : Nat → Int32) (qFn : Nat → Int32) (qFt : Nat → Int32) (hh0 : 0 ≤ (qTy 0).toInt ∧ (qTy 0).toInt ≤ 24) (hh1 : 0 ≤ (qTy 1).toInt ∧ (qTy 1).toInt ≤ 39) (hh2 : 0 ≤ (qTy 2).toInt ∧ (qTy 2).toInt ≤ 23) (hh3 : k_bd 2 0 7 qPr) (hh4 : 0 ≤ fe ∧ fe ≤ 24) (hh5 : en = 0 ∨ kn = 0 ∨ fe ≤ 23) (hh6 : 0 ≤ kn ∧ kn ≤ 24) (hh7 : 0 ≤ fn ∧ fn ≤ 8) : Met l yX12_comes (kW yX12_comes cX12_comes 3 (some .int)) { frames := 5, cells := 0, slots := 0, locals := 121 } (kPre dC dI cI cJ cQ sz [.ref hm, .int f1, .int w1] [(kX12 hm vFo vSi vIt vMo la vBy vTy mi vMi pn vPs gn vGs fn vFt le vTo kn fe en ca an co vPr vSt vFn sn vSg vAl dr), (kAI vTy cI 3 qTy), (kAI vBy cI 120 qBy), (kAI vMi cI 24 qMi), (kAI vPs cI 32 qPs), (kAI vGs cI 16 qGs), (kAI vTo cI 96 qTo), (kAI vPr cI 2 qPr), (kAI vSt cI 2 qSt), (kAI vFn cI 2 qFn), (kAI vFt cI 32 qFt)]) (va_Qi (fun (r : Int32) (u : kS) => (0 ≤ (u.1 0) ∧ (u.1 0) ≤ 24) ∧ (0 ≤ (u.1 1) ∧ (u.1 1) ≤ 8) ∧ (0 ≤ (u.1 2) ∧ (u.1 2) ≤ 8) ∧ (k_bd 2 0 7 (u.2.1 4)) ∧ (0 ≤ (u.1 4) ∧ (u.1 4) ≤ 24) ∧ ((u.1 5) = 0 ∨ (u.1 3) = 0 ∨ (u.1 4) ≤ 23) ∧ (0 ≤ (u.1 3) ∧ (u.1 3) ≤ 24)) (fun (u : kS) t₀ => kB dC dI cI cJ cQ (va_A [(kX12 hm vFo vSi vIt vMo la vBy vTy mi vMi pn vPs gn vGs fn vFt le vTo kn fe en ca an co vPr vSt vFn sn vSg vAl dr), (kAI vTy cI 3 qTy), (kAI vBy cI 120 qBy), (kAI vMi cI 24 qMi), (kAI vPs cI 32 qPs), (kAI vGs cI 16 qGs), (kAI vTo cI 96 qTo), (kAI vPr cI 2 qPr), (kAI vSt cI 2 qSt), (kAI vFn cI 2 qFn), (kAI vFt cI 32 qFt)] sz) [(kX12 hm vFo vSi vIt vMo la vBy vTy (u.1 0) vMi (u.1 1) vPs (u.1 2) vGs fn vFt le vTo (u.1 3) (u.1 4) (u.1 5) ca (u.1 6) (u.1 7) vPr vSt vFn sn vSg vAl dr), (kAI vTy cI 3 qTy), (kAI vBy cI 120 qBy), (kAI vMi cI 24 (u.2.1 0)), (kAI vPs cI 32 (u.2.1 1)), (kAI vGs cI 16 (u.2.1 2)), (kAI vTo cI 96 (u.2.1 3)), (kAI vPr cI 2 (u.2.1 4)), (kAI vSt cI 2 (u.2.1 5)), (kAI vFn cI 2 (u.2.1 6)), (kAI vFt cI 32 qFt)] t₀) (va_A [(kX12 hm vFo vSi vIt vMo la vBy vTy mi vMi pn vPs gn vGs fn vFt le vTo kn fe en ca an co vPr vSt vFn sn vSg vAl dr), (kAI vTy cI 3 qTy), (kAI vBy cI 120 qBy), (kAI vMi cI 24 qMi), (kAI vPs cI 32 qPs), (kAI vGs cI 16 qGs), (kAI vTo cI 96 qTo), (kAI vPr cI 2 qPr), (kAI vSt cI 2 qSt), (kAI vFn cI 2 qFn), (kAI vFt cI 32 qFt)] sz)) 0 0 (va_A [(kX12 hm vFo vSi vIt vMo la vBy vTy mi vMi pn vPs gn vGs fn vFt le vTo kn fe en ca an co vPr vSt vFn sn vSg vAl dr), (kAI vTy cI 3 qTy), (kAI vBy cI 120 qBy), (kAI vMi cI 24 qMi), (kAI vPs cI 32 qPs), (kAI vGs cI 16 qGs), (kAI vTo cI 96 qTo), (kAI vPr cI 2 qPr), (kAI vSt cI 2 qSt), (kAI vFn cI 2 qFn), (kAI vFt cI 32 qFt)] sz) := by
  refine Met.ofW (cc := cX12_comes) (maxL := 3) (ret := (some .int)) (by decide) rfl ?_
  intro p₀ e₀ s₀ m₀ args below meth c₀ s₁ B hml hv₀
  obtain ⟨rfl, hsz, hP, hK, hD0, hN⟩ := hv₀
  have hx₀ := B.exec
  have hb := B.bytes
  have hr := B.returns
  have hts := atoms_spec (ws := (kW yX12_comes cX12_comes 3 (some .int))) B.pre
  have hts := fun w h => hts w (List.mem_cons_of_mem _ h)
  have hown : s₀.vm.findClass RX12 = some m₀.cls := findClass_of_methodNamed B.named
  have hlocks := B.notSynchronized
  subst hsz
  have hD := hD0.self (sz := s₀.heap.size)
  generalize hAe : va_A [(kX12 hm vFo vSi vIt vMo la vBy vTy mi vMi pn vPs gn vGs fn vFt le vTo kn fe en ca an co vPr vSt vFn sn vSg vAl dr), (kAI vTy cI 3 qTy), (kAI vBy cI 120 qBy), (kAI vMi cI 24 qMi), (kAI vPs cI 32 qPs), (kAI vGs cI 16 qGs), (kAI vTo cI 96 qTo), (kAI vPr cI 2 qPr), (kAI vSt cI 2 qSt), (kAI vFn cI 2 qFn), (kAI vFt cI 32 qFt)] s₀.heap.size = A at hD ⊢
  have hA : ∀ q : Nat, s₀.heap.size ≤ q → A q := fun q h => by rw [← hAe]; exact Or.inr h
  have hS : va_S A s₀.heap s₀.heap [] := va_S.rf
  have hP : va_P (dC, dI) vwCl [(kX12 hm vFo vSi vIt vMo la vBy vTy mi vMi pn vPs gn vGs fn vFt le vTo kn fe en ca an co vPr vSt vFn sn vSg vAl dr), (kAI vTy cI 3 qTy), (kAI vBy cI 120 qBy), (kAI vMi cI 24 qMi), (kAI vPs cI 32 qPs), (kAI vGs cI 16 qGs), (kAI vTo cI 96 qTo), (kAI vPr cI 2 qPr), (kAI vSt cI 2 qSt), (kAI vFn cI 2 qFn), (kAI vFt cI 32 qFt)] s₀.heap := hP
  have hl := lv_entry ([.ref hm, .int f1, .int w1]) (n := 3) (Nat.le_of_ble_eq_true rfl)
  rw [lg_entry_eq]
  generalize (lg_sl ([.ref hm, .int f1, .int w1]) ++ List.replicate (3 - (lg_sl ([.ref hm, .int f1, .int w1])).length) Slot.unset).toArray = ls at hl ⊢
  have hl : lv_has ls 3 [(0, .ref hm), (1, .int f1), (2, .int w1)] := hl
  obtain ⟨H, hH⟩ : ∃ z : Heap, z = s₀.heap := ⟨_, rfl⟩
  rw [← hH] at hP
  have hS : va_S A s₀.heap H [] := by rw [hH]; exact hS
  refine k_heap hH ?_
  have hD : va_D A [(kX12 hm vFo vSi vIt vMo la vBy vTy mi vMi pn vPs gn vGs fn vFt le vTo kn fe en ca an co vPr vSt vFn sn vSg vAl dr), (kAI vTy cI 3 qTy), (kAI vBy cI 120 qBy), (kAI vMi cI 24 qMi), (kAI vPs cI 32 qPs), (kAI vGs cI 16 qGs), (kAI vTo cI 96 qTo), (kAI vPr cI 2 qPr), (kAI vSt cI 2 qSt), (kAI vFn cI 2 qFn), (kAI vFt cI 32 qFt)] := hD
  obtain ⟨locs, hlo⟩ : ∃ z : List Loc, z = [] := ⟨_, rfl⟩
  rw [← hlo] at hS ⊢
  clear hlo hH hAe hD0
  refine lv_aload_n hx₀ hb dX12_comes_0 rfl (lv_at hl 0 rfl) ?_
  obtain ⟨hPc, hDc, hFc, hC⟩ := k_cw (wc := [(kX12 hm vFo vSi vIt vMo la vBy vTy mi vMi pn vPs gn vGs fn vFt le vTo kn fe en ca an co vPr vSt vFn sn vSg vAl dr), (kAI vTy cI 3 qTy), (kAI vBy cI 120 qBy), (kAI vMi cI 24 qMi), (kAI vPs cI 32 qPs), (kAI vGs cI 16 qGs)]) hP hD hS hA [0, 1, 2, 3, 4, 5] (by decide +kernel) rfl
  refine va_callv (va_runV (As := []) (rest := []) ⟨hx₀, hb, hml, hown, hts⟩ (g_reads l dC dI cI cJ cQ H.size hm vFo vSi vIt vMo la vBy vTy mi vMi pn vPs gn vGs fn vFt le vTo kn fe en ca an co vPr vSt vFn sn vSg vAl dr qTy qBy qMi qPs qGs (hh0) (hh1) (hh2)) (cwV 0 hts (kGV wd_298 wd_295 wd_296 wd_297 wd_5) rfl rfl rfl (by decide +kernel) ⟨Nat.le_of_ble_eq_true rfl, Nat.le_of_ble_eq_true rfl⟩) (k_preV11 (q0 := 0) hK hPc hDc hN rfl) rfl rfl hl.1 rfl (lv_room (Nat.le_of_ble_eq_true rfl)) dX12_comes_1 ⟨by decide +kernel, by decide +kernel⟩) hS (fun q _ h => hFc q h) hFc (fun u₀ t₀ H1 locs ht hvm hw hB hz1 hk1 hS => ?_)
  obtain ⟨g_2, ga_3, gl_4, gb_5, gp_6⟩ := u₀
  obtain ⟨hP1, hK1, hD1⟩ := hB
  rw [ht] at hP1
  have hJ := k_jn (wr := [(kAI vTo cI 96 qTo), (kAI vPr cI 2 qPr), (kAI vSt cI 2 qSt), (kAI vFn cI 2 qFn), (kAI vFt cI 32 qFt)]) (wt := [(kAI vTo cI 96 qTo), (kAI vPr cI 2 qPr), (kAI vSt cI 2 qSt), (kAI vFn cI 2 qFn), (kAI vFt cI 32 qFt), (kX12 hm vFo vSi vIt vMo la vBy vTy (g_2 0) vMi (g_2 1) vPs (g_2 2) vGs fn vFt le vTo kn fe en ca an co vPr vSt vFn sn vSg vAl dr), (kAI vTy cI 3 qTy), (kAI vBy cI 120 qBy), (kAI vMi cI 24 (ga_3 0)), (kAI vPs cI 32 (ga_3 1)), (kAI vGs cI 16 (ga_3 2))]) hP hD hC [6, 7, 8, 9, 10] rfl (by decide +kernel) (by decide +kernel) hk1 hFc hP1 hD1 rfl
  clear hP hD hPc hDc hFc hC hP1 hD1 hK1 hz1 hk1 hvm ht
  obtain ⟨hP, hD⟩ := hJ
  generalize H1 = H at hP hS ⊢
  try dsimp only at hw
  obtain ⟨c_7, c_8, c_9, c_10, c_11, c_12, c_13, c_14, c_15, c_16⟩ := hw
  refine lv_aload_n hx₀ hb dX12_comes_4 rfl (lv_at hl 0 rfl) ?_
  refine lv_iload_n hx₀ hb dX12_comes_5 rfl (lv_at hl 1 rfl) ?_
  obtain ⟨hPc, hDc, hFc, hC⟩ := k_cw (wc := [(kX12 hm vFo vSi vIt vMo la vBy vTy (g_2 0) vMi (g_2 1) vPs (g_2 2) vGs fn vFt le vTo kn fe en ca an co vPr vSt vFn sn vSg vAl dr)]) hP hD hS hA [5] (by decide +kernel) rfl
  refine va_calli (va_runV (As := [.int f1]) (rest := []) ⟨hx₀, hb, hml, hown, hts⟩ (g_isFlight l dC dI cI cJ cQ H.size hm f1 vFo vSi vIt vMo la vBy vTy (g_2 0) vMi (g_2 1) vPs (g_2 2) vGs fn vFt le vTo kn fe en ca an co vPr vSt vFn sn vSg vAl dr (hh7)) (cwV 1 hts (kGV wd_528 wd_525 wd_526 wd_527 wd_5) rfl rfl rfl (by decide +kernel) ⟨Nat.le_of_ble_eq_true rfl, Nat.le_of_ble_eq_true rfl⟩) (k_preV11 (q0 := 0) hK hPc hDc hN rfl) rfl rfl hl.1 rfl (lv_room (Nat.le_of_ble_eq_true rfl)) dX12_comes_6 ⟨by decide +kernel, by decide +kernel⟩) hS (fun q _ h => hFc q h) hFc (fun r_17 u₀ t₀ H1 locs ht hvm hw hB hz1 hk1 hS => ?_)
  obtain ⟨hP1, hK1, hD1⟩ := hB
  rw [ht] at hP1
  have hJ := k_jn (wr := [(kAI vTo cI 96 qTo), (kAI vPr cI 2 qPr), (kAI vSt cI 2 qSt), (kAI vFn cI 2 qFn), (kAI vFt cI 32 qFt), (kAI vTy cI 3 qTy), (kAI vBy cI 120 qBy), (kAI vMi cI 24 (ga_3 0)), (kAI vPs cI 32 (ga_3 1)), (kAI vGs cI 16 (ga_3 2))]) (wt := [(kAI vTo cI 96 qTo), (kAI vPr cI 2 qPr), (kAI vSt cI 2 qSt), (kAI vFn cI 2 qFn), (kAI vFt cI 32 qFt), (kAI vTy cI 3 qTy), (kAI vBy cI 120 qBy), (kAI vMi cI 24 (ga_3 0)), (kAI vPs cI 32 (ga_3 1)), (kAI vGs cI 16 (ga_3 2)), (kX12 hm vFo vSi vIt vMo la vBy vTy (g_2 0) vMi (g_2 1) vPs (g_2 2) vGs fn vFt le vTo kn fe en ca an co vPr vSt vFn sn vSg vAl dr)]) hP hD hC [0, 1, 2, 3, 4, 6, 7, 8, 9, 10] rfl (by decide +kernel) (by decide +kernel) hk1 hFc hP1 hD1 rfl
  clear hP hD hPc hDc hFc hC hP1 hD1 hK1 hz1 hk1 hvm ht
  obtain ⟨hP, hD⟩ := hJ
  generalize H1 = H at hP hS ⊢
  try dsimp only at hw
  by_cases c_18 : 0 ≤ f1 ∧ f1 < fn
  · rw [if_pos c_18] at hw
    refine k_topi (v := 1) hw ?_
    refine lv_if_eq (tgt := 33) hx₀ hb dX12_comes_9 (by decide) (fun c9 => absurd c9 (by decide +kernel)) (fun _ => ?_)
    refine lv_iload_n hx₀ hb dX12_comes_12 rfl (lv_at hl 2 rfl) ?_
    refine lv_i2l hx₀ hb dX12_comes_13 rfl ?_
    refine lv_lconst (v := 0) hx₀ hb dX12_comes_14 (by decide +kernel) ?_
    refine lv_ldc2 (v := 2) hx₀ hb hown (hts (.constantLong RX12 78 (2)) wd_205) dX12_comes_15 ?_
    obtain ⟨hPc, hDc, hFc, hC⟩ := k_cw (wc := []) hP hD hS hA [] (by decide +kernel) rfl
    refine va_calli (va_runS (As := [.long w1.toInt64, .long 0, .long 2]) (rest := []) ⟨hx₀, hb, hml, hown, hts⟩ (c_in l dC dI cI cJ cQ H.size w1.toInt64 0 2) (va_cwS 3 hts (kGS wd_208 wd_206 wd_207 wd_5) rfl rfl rfl (by decide +kernel) ⟨Nat.le_of_ble_eq_true rfl, Nat.le_of_ble_eq_true rfl⟩) (k_preS hK hPc hDc hN) rfl rfl hl.1 rfl (lv_room (Nat.le_of_ble_eq_true rfl)) dX12_comes_18 ⟨by decide +kernel, by decide +kernel⟩) hS (fun q _ h => hFc q h) hFc (fun r_19 u₀ t₀ H1 locs ht hvm hw hB hz1 hk1 hS => ?_)
    obtain ⟨hP1, hK1, hD1⟩ := hB
    rw [ht] at hP1
    have hJ := k_jn (wr := [(kAI vTo cI 96 qTo), (kAI vPr cI 2 qPr), (kAI vSt cI 2 qSt), (kAI vFn cI 2 qFn), (kAI vFt cI 32 qFt), (kAI vTy cI 3 qTy), (kAI vBy cI 120 qBy), (kAI vMi cI 24 (ga_3 0)), (kAI vPs cI 32 (ga_3 1)), (kAI vGs cI 16 (ga_3 2)), (kX12 hm vFo vSi vIt vMo la vBy vTy (g_2 0) vMi (g_2 1) vPs (g_2 2) vGs fn vFt le vTo kn fe en ca an co vPr vSt vFn sn vSg vAl dr)]) (wt := [(kAI vTo cI 96 qTo), (kAI vPr cI 2 qPr), (kAI vSt cI 2 qSt), (kAI vFn cI 2 qFn), (kAI vFt cI 32 qFt), (kAI vTy cI 3 qTy), (kAI vBy cI 120 qBy), (kAI vMi cI 24 (ga_3 0)), (kAI vPs cI 32 (ga_3 1)), (kAI vGs cI 16 (ga_3 2)), (kX12 hm vFo vSi vIt vMo la vBy vTy (g_2 0) vMi (g_2 1) vPs (g_2 2) vGs fn vFt le vTo kn fe en ca an co vPr vSt vFn sn vSg vAl dr)]) hP hD hC [0, 1, 2, 3, 4, 5, 6, 7, 8, 9, 10] rfl (by decide +kernel) (by decide +kernel) hk1 hFc hP1 hD1 rfl
    clear hP hD hPc hDc hFc hC hP1 hD1 hK1 hz1 hk1 hvm ht
    obtain ⟨hP, hD⟩ := hJ
    generalize H1 = H at hP hS ⊢
    try dsimp only at hw
    by_cases c_20 : (0 : Int64) ≤ w1.toInt64 ∧ w1.toInt64 ≤ (2 : Int64)
    · rw [if_pos c_20] at hw
      refine k_topi (v := 1) hw ?_
      refine lv_if_eq (tgt := 33) hx₀ hb dX12_comes_21 (by decide) (fun c9 => absurd c9 (by decide +kernel)) (fun _ => ?_)
      refine lv_aload_n hx₀ hb dX12_comes_24 rfl (lv_at hl 0 rfl) ?_
      refine lv_iload_n hx₀ hb dX12_comes_25 rfl (lv_at hl 1 rfl) ?_
      refine lv_iload_n hx₀ hb dX12_comes_26 rfl (lv_at hl 2 rfl) ?_
      obtain ⟨hPc, hDc, hFc, hC⟩ := k_cw (wc := [(kX12 hm vFo vSi vIt vMo la vBy vTy (g_2 0) vMi (g_2 1) vPs (g_2 2) vGs fn vFt le vTo kn fe en ca an co vPr vSt vFn sn vSg vAl dr), (kAI vMi cI 24 (ga_3 0)), (kAI vPs cI 32 (ga_3 1)), (kAI vGs cI 16 (ga_3 2)), (kAI vTo cI 96 qTo), (kAI vPr cI 2 qPr), (kAI vSt cI 2 qSt), (kAI vFn cI 2 qFn), (kAI vFt cI 32 qFt)]) hP hD hS hA [10, 7, 8, 9, 0, 1, 2, 3, 4] (by decide +kernel) rfl
      refine va_calli (va_runV (As := [.int f1, .int w1]) (rest := []) ⟨hx₀, hb, hml, hown, hts⟩ (g_comesOf l dC dI cI cJ cQ H.size hm f1 w1 vFo vSi vIt vMo la vBy vTy (g_2 0) vMi (g_2 1) vPs (g_2 2) vGs fn vFt le vTo kn fe en ca an co vPr vSt vFn sn vSg vAl dr (ga_3 0) (ga_3 1) (ga_3 2) qTo qPr qSt qFn qFt (c_7) (c_8) (c_9) (hh3) (lf_g_flies_3 fn f1 hh7 c_18)) (cwV 2 hts (kGV wd_532 wd_529 wd_530 wd_531 wd_5) rfl rfl rfl (by decide +kernel) ⟨Nat.le_of_ble_eq_true rfl, Nat.le_of_ble_eq_true rfl⟩) (k_preV11 (q0 := 0) hK hPc hDc hN rfl) rfl rfl hl.1 rfl (lv_room (Nat.le_of_ble_eq_true rfl)) dX12_comes_27 ⟨by decide +kernel, by decide +kernel⟩) hS (fun q _ h => hFc q h) hFc (fun r_21 u₀ t₀ H1 locs ht hvm hw hB hz1 hk1 hS => ?_)
      obtain ⟨g_22, ga_23, gl_24, gb_25, gp_26⟩ := u₀
      obtain ⟨hP1, hK1, hD1⟩ := hB
      rw [ht] at hP1
      have hJ := k_jn (wr := [(kAI vTy cI 3 qTy), (kAI vBy cI 120 qBy)]) (wt := [(kAI vTy cI 3 qTy), (kAI vBy cI 120 qBy), (kX12 hm vFo vSi vIt vMo la vBy vTy (g_2 0) vMi (g_2 1) vPs (g_2 2) vGs fn vFt le vTo (g_22 0) (g_22 1) (g_22 2) ca (g_22 3) (g_22 4) vPr vSt vFn sn vSg vAl dr), (kAI vMi cI 24 (ga_3 0)), (kAI vPs cI 32 (ga_3 1)), (kAI vGs cI 16 (ga_3 2)), (kAI vTo cI 96 (ga_23 0)), (kAI vPr cI 2 (ga_23 1)), (kAI vSt cI 2 (ga_23 2)), (kAI vFn cI 2 (ga_23 3)), (kAI vFt cI 32 qFt)]) hP hD hC [5, 6] rfl (by decide +kernel) (by decide +kernel) hk1 hFc hP1 hD1 rfl
      clear hP hD hPc hDc hFc hC hP1 hD1 hK1 hz1 hk1 hvm ht
      obtain ⟨hP, hD⟩ := hJ
      generalize H1 = H at hP hS ⊢
      try dsimp only at hw
      obtain ⟨c_27, c_28, c_29, c_30⟩ := hw
      refine lv_goto (tgt := 35) hx₀ hb dX12_comes_30 (by decide) ?_
      obtain ⟨hP9, hD9⟩ := k_c2 (wc := [(kX12 hm vFo vSi vIt vMo la vBy vTy (g_2 0) vMi (g_2 1) vPs (g_2 2) vGs fn vFt le vTo (g_22 0) (g_22 1) (g_22 2) ca (g_22 3) (g_22 4) vPr vSt vFn sn vSg vAl dr), (kAI vTy cI 3 qTy), (kAI vBy cI 120 qBy), (kAI vMi cI 24 (ga_3 0)), (kAI vPs cI 32 (ga_3 1)), (kAI vGs cI 16 (ga_3 2)), (kAI vTo cI 96 (ga_23 0)), (kAI vPr cI 2 (ga_23 1)), (kAI vSt cI 2 (ga_23 2)), (kAI vFn cI 2 (ga_23 3)), (kAI vFt cI 32 qFt)]) hP hD [2, 0, 1, 3, 4, 5, 6, 7, 8, 9, 10] (by decide +kernel) rfl
      exact W.iret (v := r_21) hx₀ hb hr (fun t₀ ht hW => ⟨⟨r_21, (k_fn [(g_2 0), (g_2 1), (g_2 2), (g_22 0), (g_22 1), (g_22 2), (g_22 3), (g_22 4)], k_fa [(ga_3 0), (ga_3 1), (ga_3 2), ga_23 0, ga_23 1, ga_23 2, ga_23 3], k_fl [], k_fL [], k_fp []), rfl, ⟨c_7, c_8, c_9, c_27, c_28, c_29, c_30⟩, by rw [ht]; exact hP9, va_K.moved hW.alike hK, hD9⟩, hS.F ht⟩) hS.2.2 dX12_comes_35
    rw [if_neg c_20] at hw
    refine k_topi (v := 0) hw ?_
    refine lv_if_eq (tgt := 33) hx₀ hb dX12_comes_21 (by decide) (fun _ => ?_) (fun c9 => absurd (by decide +kernel) c9)
    refine lv_bipush (v := (-2)) hx₀ hb dX12_comes_33 (by decide +kernel) ?_
    obtain ⟨hP9, hD9⟩ := k_c2 (wc := [(kX12 hm vFo vSi vIt vMo la vBy vTy (g_2 0) vMi (g_2 1) vPs (g_2 2) vGs fn vFt le vTo kn fe en ca an co vPr vSt vFn sn vSg vAl dr), (kAI vTy cI 3 qTy), (kAI vBy cI 120 qBy), (kAI vMi cI 24 (ga_3 0)), (kAI vPs cI 32 (ga_3 1)), (kAI vGs cI 16 (ga_3 2)), (kAI vTo cI 96 qTo), (kAI vPr cI 2 qPr), (kAI vSt cI 2 qSt), (kAI vFn cI 2 qFn), (kAI vFt cI 32 qFt)]) hP hD [10, 5, 6, 7, 8, 9, 0, 1, 2, 3, 4] (by decide +kernel) rfl
    exact W.iret (v := (-2)) hx₀ hb hr (fun t₀ ht hW => ⟨⟨(-2), (k_fn [(g_2 0), (g_2 1), (g_2 2), kn, fe, en, an, co], k_fa [ga_3 0, ga_3 1, ga_3 2, qTo, qPr, qSt, qFn], k_fl [], k_fL [], k_fp []), rfl, ⟨c_7, c_8, c_9, hh3, hh4, hh5, hh6⟩, by rw [ht]; exact hP9, va_K.moved hW.alike hK, hD9⟩, hS.F ht⟩) hS.2.2 dX12_comes_35
  rw [if_neg c_18] at hw
  refine k_topi (v := 0) hw ?_
  refine lv_if_eq (tgt := 33) hx₀ hb dX12_comes_9 (by decide) (fun _ => ?_) (fun c9 => absurd (by decide +kernel) c9)
  refine lv_bipush (v := (-2)) hx₀ hb dX12_comes_33 (by decide +kernel) ?_
  obtain ⟨hP9, hD9⟩ := k_c2 (wc := [(kX12 hm vFo vSi vIt vMo la vBy vTy (g_2 0) vMi (g_2 1) vPs (g_2 2) vGs fn vFt le vTo kn fe en ca an co vPr vSt vFn sn vSg vAl dr), (kAI vTy cI 3 qTy), (kAI vBy cI 120 qBy), (kAI vMi cI 24 (ga_3 0)), (kAI vPs cI 32 (ga_3 1)), (kAI vGs cI 16 (ga_3 2)), (kAI vTo cI 96 qTo), (kAI vPr cI 2 qPr), (kAI vSt cI 2 qSt), (kAI vFn cI 2 qFn), (kAI vFt cI 32 qFt)]) hP hD [10, 5, 6, 7, 8, 9, 0, 1, 2, 3, 4] (by decide +kernel) rfl
  exact W.iret (v := (-2)) hx₀ hb hr (fun t₀ ht hW => ⟨⟨(-2), (k_fn [(g_2 0), (g_2 1), (g_2 2), kn, fe, en, an, co], k_fa [ga_3 0, ga_3 1, ga_3 2, qTo, qPr, qSt, qFn], k_fl [], k_fL [], k_fp []), rfl, ⟨c_7, c_8, c_9, hh3, hh4, hh5, hh6⟩, by rw [ht]; exact hP9, va_K.moved hW.alike hK, hD9⟩, hS.F ht⟩) hS.2.2 dX12_comes_35
theorem lf_g_behind_1 (a0 : Int32) (a1 : Int32) (h0 : 0 ≤ (a0) ∧ (a0) ≤ 24) (h1 : (0 : Int64) ≤ a1.toInt64 ∧ a1.toInt64 ≤ (((a0) - 1).toInt64)) : 0 ≤ a1 := by
  first | rfl | assumption | decide | exact Or.inl rfl | (first | omega | (have hr0 := Int32.toInt_lt a0; have hs0 := Int32.le_toInt a0; have hr1 := Int32.toInt_lt a1; have hs1 := Int32.le_toInt a1; simp only [Int64.toInt_add, Int64.toInt_sub, Int32.toInt_add, Int32.toInt_sub, Int32.toInt_mul, Int64.le_iff_toInt_le, Int64.lt_iff_toInt_lt, Int32.le_iff_toInt_le, Int32.lt_iff_toInt_lt, ← Int32.toInt_inj, ← Int64.toInt_inj, Int32.toInt_toInt64, kc_0, kd_0, kc_1, kd_1, kc_24, kd_24] at *; (first | omega | ((try simp (disch := omega) only [k_bm64] at *); (try simp (disch := omega) only [k_bm] at *); (try simp (disch := omega) only [k_bm] at *); omega) | (simp only [Int.bmod] at *; omega))))
set_option maxHeartbeats 4000000 in
set_option maxRecDepth 100000 in
theorem g_behind (l : Launch) (dC : Nat → ClassId) (dI : Nat → Nat → Nat) (cI cJ cQ : ClassId) (sz : Nat) (hm : Nat) (f1 : Int32) (m1 : Int32) (w1 : Int32) (vFo : Nat) (vSi : Nat) (vIt : Nat) (vMo : Nat) (la : Int32) (vBy : Nat) (vTy : Nat) (mi : Int32) (vMi : Nat) (pn : Int32) (vPs : Nat) (gn : Int32) (vGs : Nat) (fn : Int32) (vFt : Nat) (le : Int32) (vTo : Nat) (kn : Int32) (fe : Int32) (en : Int32) (ca : Int32) (an : Int32) (co : Int32) (vPr : Nat) (vSt : Nat) (vFn : Nat) (sn : Int32) (vSg : Nat) (vAl : Nat) (dr : Int32) (qTy : Nat → Int32) (qBy : Nat → Int32) (qMi : Nat → Int32) (qPs : Nat → Int32) (qGs : Nat → Int32) (qTo : Nat → Int32) (qPr : Nat → Int32) (qSt : Nat → Int32) (qFn : Nat → Int32) (qFt : Nat → Int32) (hh0 : 0 ≤ (qTy 0).toInt ∧ (qTy 0).toInt ≤ 24) (hh1 : 0 ≤ (qTy 1).toInt ∧ (qTy 1).toInt ≤ 39) (hh2 : 0 ≤ (qTy 2).toInt ∧ (qTy 2).toInt ≤ 23) (hh3 : k_bd 2 0 7 qPr) (hh4 : 0 ≤ fe ∧ fe ≤ 24) (hh5 : en = 0 ∨ kn = 0 ∨ fe ≤ 23) (hh6 : 0 ≤ kn ∧ kn ≤ 24) (hh7 : 0 ≤ fn ∧ fn ≤ 8) : Met l yX12_behind (kW yX12_behind cX12_behind 4 (some .int)) { frames := 5, cells := 0, slots := 0, locals := 122 } (kPre dC dI cI cJ cQ sz [.ref hm, .int f1, .int m1, .int w1] [(kX12 hm vFo vSi vIt vMo la vBy vTy mi vMi pn vPs gn vGs fn vFt le vTo kn fe en ca an co vPr vSt vFn sn vSg vAl dr), (kAI vTy cI 3 qTy), (kAI vBy cI 120 qBy), (kAI vMi cI 24 qMi), (kAI vPs cI 32 qPs), (kAI vGs cI 16 qGs), (kAI vTo cI 96 qTo), (kAI vPr cI 2 qPr), (kAI vSt cI 2 qSt), (kAI vFn cI 2 qFn), (kAI vFt cI 32 qFt)]) (va_Qi (fun (r : Int32) (u : kS) => (0 ≤ (u.1 0) ∧ (u.1 0) ≤ 24) ∧ (0 ≤ (u.1 1) ∧ (u.1 1) ≤ 8) ∧ (0 ≤ (u.1 2) ∧ (u.1 2) ≤ 8) ∧ (k_bd 2 0 7 (u.2.1 4)) ∧ (0 ≤ (u.1 4) ∧ (u.1 4) ≤ 24) ∧ ((u.1 5) = 0 ∨ (u.1 3) = 0 ∨ (u.1 4) ≤ 23) ∧ (0 ≤ (u.1 3) ∧ (u.1 3) ≤ 24)) (fun (u : kS) t₀ => kB dC dI cI cJ cQ (va_A [(kX12 hm vFo vSi vIt vMo la vBy vTy mi vMi pn vPs gn vGs fn vFt le vTo kn fe en ca an co vPr vSt vFn sn vSg vAl dr), (kAI vTy cI 3 qTy), (kAI vBy cI 120 qBy), (kAI vMi cI 24 qMi), (kAI vPs cI 32 qPs), (kAI vGs cI 16 qGs), (kAI vTo cI 96 qTo), (kAI vPr cI 2 qPr), (kAI vSt cI 2 qSt), (kAI vFn cI 2 qFn), (kAI vFt cI 32 qFt)] sz) [(kX12 hm vFo vSi vIt vMo la vBy vTy (u.1 0) vMi (u.1 1) vPs (u.1 2) vGs fn vFt le vTo (u.1 3) (u.1 4) (u.1 5) ca (u.1 6) (u.1 7) vPr vSt vFn sn vSg vAl dr), (kAI vTy cI 3 qTy), (kAI vBy cI 120 qBy), (kAI vMi cI 24 (u.2.1 0)), (kAI vPs cI 32 (u.2.1 1)), (kAI vGs cI 16 (u.2.1 2)), (kAI vTo cI 96 (u.2.1 3)), (kAI vPr cI 2 (u.2.1 4)), (kAI vSt cI 2 (u.2.1 5)), (kAI vFn cI 2 (u.2.1 6)), (kAI vFt cI 32 qFt)] t₀) (va_A [(kX12 hm vFo vSi vIt vMo la vBy vTy mi vMi pn vPs gn vGs fn vFt le vTo kn fe en ca an co vPr vSt vFn sn vSg vAl dr), (kAI vTy cI 3 qTy), (kAI vBy cI 120 qBy), (kAI vMi cI 24 qMi), (kAI vPs cI 32 qPs), (kAI vGs cI 16 qGs), (kAI vTo cI 96 qTo), (kAI vPr cI 2 qPr), (kAI vSt cI 2 qSt), (kAI vFn cI 2 qFn), (kAI vFt cI 32 qFt)] sz)) 0 0 (va_A [(kX12 hm vFo vSi vIt vMo la vBy vTy mi vMi pn vPs gn vGs fn vFt le vTo kn fe en ca an co vPr vSt vFn sn vSg vAl dr), (kAI vTy cI 3 qTy), (kAI vBy cI 120 qBy), (kAI vMi cI 24 qMi), (kAI vPs cI 32 qPs), (kAI vGs cI 16 qGs), (kAI vTo cI 96 qTo), (kAI vPr cI 2 qPr), (kAI vSt cI 2 qSt), (kAI vFn cI 2 qFn), (kAI vFt cI 32 qFt)] sz) := by
  refine Met.ofW (cc := cX12_behind) (maxL := 4) (ret := (some .int)) (by decide) rfl ?_
  intro p₀ e₀ s₀ m₀ args below meth c₀ s₁ B hml hv₀
  obtain ⟨rfl, hsz, hP, hK, hD0, hN⟩ := hv₀
  have hx₀ := B.exec
  have hb := B.bytes
  have hr := B.returns
  have hts := atoms_spec (ws := (kW yX12_behind cX12_behind 4 (some .int))) B.pre
  have hts := fun w h => hts w (List.mem_cons_of_mem _ h)
  have hown : s₀.vm.findClass RX12 = some m₀.cls := findClass_of_methodNamed B.named
  have hlocks := B.notSynchronized
  subst hsz
  have hD := hD0.self (sz := s₀.heap.size)
  generalize hAe : va_A [(kX12 hm vFo vSi vIt vMo la vBy vTy mi vMi pn vPs gn vGs fn vFt le vTo kn fe en ca an co vPr vSt vFn sn vSg vAl dr), (kAI vTy cI 3 qTy), (kAI vBy cI 120 qBy), (kAI vMi cI 24 qMi), (kAI vPs cI 32 qPs), (kAI vGs cI 16 qGs), (kAI vTo cI 96 qTo), (kAI vPr cI 2 qPr), (kAI vSt cI 2 qSt), (kAI vFn cI 2 qFn), (kAI vFt cI 32 qFt)] s₀.heap.size = A at hD ⊢
  have hA : ∀ q : Nat, s₀.heap.size ≤ q → A q := fun q h => by rw [← hAe]; exact Or.inr h
  have hS : va_S A s₀.heap s₀.heap [] := va_S.rf
  have hP : va_P (dC, dI) vwCl [(kX12 hm vFo vSi vIt vMo la vBy vTy mi vMi pn vPs gn vGs fn vFt le vTo kn fe en ca an co vPr vSt vFn sn vSg vAl dr), (kAI vTy cI 3 qTy), (kAI vBy cI 120 qBy), (kAI vMi cI 24 qMi), (kAI vPs cI 32 qPs), (kAI vGs cI 16 qGs), (kAI vTo cI 96 qTo), (kAI vPr cI 2 qPr), (kAI vSt cI 2 qSt), (kAI vFn cI 2 qFn), (kAI vFt cI 32 qFt)] s₀.heap := hP
  have hl := lv_entry ([.ref hm, .int f1, .int m1, .int w1]) (n := 4) (Nat.le_of_ble_eq_true rfl)
  rw [lg_entry_eq]
  generalize (lg_sl ([.ref hm, .int f1, .int m1, .int w1]) ++ List.replicate (4 - (lg_sl ([.ref hm, .int f1, .int m1, .int w1])).length) Slot.unset).toArray = ls at hl ⊢
  have hl : lv_has ls 4 [(0, .ref hm), (1, .int f1), (2, .int m1), (3, .int w1)] := hl
  obtain ⟨H, hH⟩ : ∃ z : Heap, z = s₀.heap := ⟨_, rfl⟩
  rw [← hH] at hP
  have hS : va_S A s₀.heap H [] := by rw [hH]; exact hS
  refine k_heap hH ?_
  have hD : va_D A [(kX12 hm vFo vSi vIt vMo la vBy vTy mi vMi pn vPs gn vGs fn vFt le vTo kn fe en ca an co vPr vSt vFn sn vSg vAl dr), (kAI vTy cI 3 qTy), (kAI vBy cI 120 qBy), (kAI vMi cI 24 qMi), (kAI vPs cI 32 qPs), (kAI vGs cI 16 qGs), (kAI vTo cI 96 qTo), (kAI vPr cI 2 qPr), (kAI vSt cI 2 qSt), (kAI vFn cI 2 qFn), (kAI vFt cI 32 qFt)] := hD
  obtain ⟨locs, hlo⟩ : ∃ z : List Loc, z = [] := ⟨_, rfl⟩
  rw [← hlo] at hS ⊢
  clear hlo hH hAe hD0
  refine lv_aload_n hx₀ hb dX12_behind_0 rfl (lv_at hl 0 rfl) ?_
  obtain ⟨hPc, hDc, hFc, hC⟩ := k_cw (wc := [(kX12 hm vFo vSi vIt vMo la vBy vTy mi vMi pn vPs gn vGs fn vFt le vTo kn fe en ca an co vPr vSt vFn sn vSg vAl dr), (kAI vTy cI 3 qTy), (kAI vBy cI 120 qBy), (kAI vMi cI 24 qMi), (kAI vPs cI 32 qPs), (kAI vGs cI 16 qGs)]) hP hD hS hA [0, 1, 2, 3, 4, 5] (by decide +kernel) rfl
  refine va_callv (va_runV (As := []) (rest := []) ⟨hx₀, hb, hml, hown, hts⟩ (g_reads l dC dI cI cJ cQ H.size hm vFo vSi vIt vMo la vBy vTy mi vMi pn vPs gn vGs fn vFt le vTo kn fe en ca an co vPr vSt vFn sn vSg vAl dr qTy qBy qMi qPs qGs (hh0) (hh1) (hh2)) (cwV 0 hts (kGV wd_298 wd_295 wd_296 wd_297 wd_5) rfl rfl rfl (by decide +kernel) ⟨Nat.le_of_ble_eq_true rfl, Nat.le_of_ble_eq_true rfl⟩) (k_preV11 (q0 := 0) hK hPc hDc hN rfl) rfl rfl hl.1 rfl (lv_room (Nat.le_of_ble_eq_true rfl)) dX12_behind_1 ⟨by decide +kernel, by decide +kernel⟩) hS (fun q _ h => hFc q h) hFc (fun u₀ t₀ H1 locs ht hvm hw hB hz1 hk1 hS => ?_)
  obtain ⟨g_2, ga_3, gl_4, gb_5, gp_6⟩ := u₀
  obtain ⟨hP1, hK1, hD1⟩ := hB
  rw [ht] at hP1
  have hJ := k_jn (wr := [(kAI vTo cI 96 qTo), (kAI vPr cI 2 qPr), (kAI vSt cI 2 qSt), (kAI vFn cI 2 qFn), (kAI vFt cI 32 qFt)]) (wt := [(kAI vTo cI 96 qTo), (kAI vPr cI 2 qPr), (kAI vSt cI 2 qSt), (kAI vFn cI 2 qFn), (kAI vFt cI 32 qFt), (kX12 hm vFo vSi vIt vMo la vBy vTy (g_2 0) vMi (g_2 1) vPs (g_2 2) vGs fn vFt le vTo kn fe en ca an co vPr vSt vFn sn vSg vAl dr), (kAI vTy cI 3 qTy), (kAI vBy cI 120 qBy), (kAI vMi cI 24 (ga_3 0)), (kAI vPs cI 32 (ga_3 1)), (kAI vGs cI 16 (ga_3 2))]) hP hD hC [6, 7, 8, 9, 10] rfl (by decide +kernel) (by decide +kernel) hk1 hFc hP1 hD1 rfl
  clear hP hD hPc hDc hFc hC hP1 hD1 hK1 hz1 hk1 hvm ht
  obtain ⟨hP, hD⟩ := hJ
  generalize H1 = H at hP hS ⊢
  try dsimp only at hw
  obtain ⟨c_7, c_8, c_9, c_10, c_11, c_12, c_13, c_14, c_15, c_16⟩ := hw
  refine lv_aload_n hx₀ hb dX12_behind_4 rfl (lv_at hl 0 rfl) ?_
  refine lv_iload_n hx₀ hb dX12_behind_5 rfl (lv_at hl 1 rfl) ?_
  obtain ⟨hPc, hDc, hFc, hC⟩ := k_cw (wc := [(kX12 hm vFo vSi vIt vMo la vBy vTy (g_2 0) vMi (g_2 1) vPs (g_2 2) vGs fn vFt le vTo kn fe en ca an co vPr vSt vFn sn vSg vAl dr)]) hP hD hS hA [5] (by decide +kernel) rfl
  refine va_calli (va_runV (As := [.int f1]) (rest := []) ⟨hx₀, hb, hml, hown, hts⟩ (g_isFlight l dC dI cI cJ cQ H.size hm f1 vFo vSi vIt vMo la vBy vTy (g_2 0) vMi (g_2 1) vPs (g_2 2) vGs fn vFt le vTo kn fe en ca an co vPr vSt vFn sn vSg vAl dr (hh7)) (cwV 1 hts (kGV wd_528 wd_525 wd_526 wd_527 wd_5) rfl rfl rfl (by decide +kernel) ⟨Nat.le_of_ble_eq_true rfl, Nat.le_of_ble_eq_true rfl⟩) (k_preV11 (q0 := 0) hK hPc hDc hN rfl) rfl rfl hl.1 rfl (lv_room (Nat.le_of_ble_eq_true rfl)) dX12_behind_6 ⟨by decide +kernel, by decide +kernel⟩) hS (fun q _ h => hFc q h) hFc (fun r_17 u₀ t₀ H1 locs ht hvm hw hB hz1 hk1 hS => ?_)
  obtain ⟨hP1, hK1, hD1⟩ := hB
  rw [ht] at hP1
  have hJ := k_jn (wr := [(kAI vTo cI 96 qTo), (kAI vPr cI 2 qPr), (kAI vSt cI 2 qSt), (kAI vFn cI 2 qFn), (kAI vFt cI 32 qFt), (kAI vTy cI 3 qTy), (kAI vBy cI 120 qBy), (kAI vMi cI 24 (ga_3 0)), (kAI vPs cI 32 (ga_3 1)), (kAI vGs cI 16 (ga_3 2))]) (wt := [(kAI vTo cI 96 qTo), (kAI vPr cI 2 qPr), (kAI vSt cI 2 qSt), (kAI vFn cI 2 qFn), (kAI vFt cI 32 qFt), (kAI vTy cI 3 qTy), (kAI vBy cI 120 qBy), (kAI vMi cI 24 (ga_3 0)), (kAI vPs cI 32 (ga_3 1)), (kAI vGs cI 16 (ga_3 2)), (kX12 hm vFo vSi vIt vMo la vBy vTy (g_2 0) vMi (g_2 1) vPs (g_2 2) vGs fn vFt le vTo kn fe en ca an co vPr vSt vFn sn vSg vAl dr)]) hP hD hC [0, 1, 2, 3, 4, 6, 7, 8, 9, 10] rfl (by decide +kernel) (by decide +kernel) hk1 hFc hP1 hD1 rfl
  clear hP hD hPc hDc hFc hC hP1 hD1 hK1 hz1 hk1 hvm ht
  obtain ⟨hP, hD⟩ := hJ
  generalize H1 = H at hP hS ⊢
  try dsimp only at hw
  by_cases c_18 : 0 ≤ f1 ∧ f1 < fn
  · rw [if_pos c_18] at hw
    refine k_topi (v := 1) hw ?_
    refine lv_if_eq (tgt := 50) hx₀ hb dX12_behind_9 (by decide) (fun c9 => absurd c9 (by decide +kernel)) (fun _ => ?_)
    refine lv_iload_n hx₀ hb dX12_behind_12 rfl (lv_at hl 2 rfl) ?_
    refine lv_i2l hx₀ hb dX12_behind_13 rfl ?_
    refine lv_lconst (v := 0) hx₀ hb dX12_behind_14 (by decide +kernel) ?_
    refine lv_aload_n hx₀ hb dX12_behind_15 rfl (lv_at hl 0 rfl) ?_
    refine va_get (D := (dC, dI)) (ci := 11) (v := .int (g_2 0)) (C := RX12) (T := TX12) (N := 30) hx₀ hb hts inlX12 hown hK hP 10 rfl rfl 7 (by decide) (hts (.fieldLink RX12 107 "BittenStickModel" "miles" "I") wd_252) (fun _ h9 => h9) rfl dX12_behind_16 ?_
    refine lv_iconst (v := 1) hx₀ hb dX12_behind_19 (by decide +kernel) ?_
    refine lv_isub hx₀ hb dX12_behind_20 ?_
    refine lv_i2l hx₀ hb dX12_behind_21 rfl ?_
    obtain ⟨hPc, hDc, hFc, hC⟩ := k_cw (wc := []) hP hD hS hA [] (by decide +kernel) rfl
    refine va_calli (va_runS (As := [.long m1.toInt64, .long 0, .long (((g_2 0) - 1).toInt64)]) (rest := []) ⟨hx₀, hb, hml, hown, hts⟩ (c_in l dC dI cI cJ cQ H.size m1.toInt64 0 (((g_2 0) - 1).toInt64)) (va_cwS 3 hts (kGS wd_208 wd_206 wd_207 wd_5) rfl rfl rfl (by decide +kernel) ⟨Nat.le_of_ble_eq_true rfl, Nat.le_of_ble_eq_true rfl⟩) (k_preS hK hPc hDc hN) rfl rfl hl.1 rfl (lv_room (Nat.le_of_ble_eq_true rfl)) dX12_behind_22 ⟨by decide +kernel, by decide +kernel⟩) hS (fun q _ h => hFc q h) hFc (fun r_19 u₀ t₀ H1 locs ht hvm hw hB hz1 hk1 hS => ?_)
    obtain ⟨hP1, hK1, hD1⟩ := hB
    rw [ht] at hP1
    have hJ := k_jn (wr := [(kAI vTo cI 96 qTo), (kAI vPr cI 2 qPr), (kAI vSt cI 2 qSt), (kAI vFn cI 2 qFn), (kAI vFt cI 32 qFt), (kAI vTy cI 3 qTy), (kAI vBy cI 120 qBy), (kAI vMi cI 24 (ga_3 0)), (kAI vPs cI 32 (ga_3 1)), (kAI vGs cI 16 (ga_3 2)), (kX12 hm vFo vSi vIt vMo la vBy vTy (g_2 0) vMi (g_2 1) vPs (g_2 2) vGs fn vFt le vTo kn fe en ca an co vPr vSt vFn sn vSg vAl dr)]) (wt := [(kAI vTo cI 96 qTo), (kAI vPr cI 2 qPr), (kAI vSt cI 2 qSt), (kAI vFn cI 2 qFn), (kAI vFt cI 32 qFt), (kAI vTy cI 3 qTy), (kAI vBy cI 120 qBy), (kAI vMi cI 24 (ga_3 0)), (kAI vPs cI 32 (ga_3 1)), (kAI vGs cI 16 (ga_3 2)), (kX12 hm vFo vSi vIt vMo la vBy vTy (g_2 0) vMi (g_2 1) vPs (g_2 2) vGs fn vFt le vTo kn fe en ca an co vPr vSt vFn sn vSg vAl dr)]) hP hD hC [0, 1, 2, 3, 4, 5, 6, 7, 8, 9, 10] rfl (by decide +kernel) (by decide +kernel) hk1 hFc hP1 hD1 rfl
    clear hP hD hPc hDc hFc hC hP1 hD1 hK1 hz1 hk1 hvm ht
    obtain ⟨hP, hD⟩ := hJ
    generalize H1 = H at hP hS ⊢
    try dsimp only at hw
    by_cases c_20 : (0 : Int64) ≤ m1.toInt64 ∧ m1.toInt64 ≤ (((g_2 0) - 1).toInt64)
    · rw [if_pos c_20] at hw
      refine k_topi (v := 1) hw ?_
      refine lv_if_eq (tgt := 50) hx₀ hb dX12_behind_25 (by decide) (fun c9 => absurd c9 (by decide +kernel)) (fun _ => ?_)
      refine lv_iload_n hx₀ hb dX12_behind_28 rfl (lv_at hl 3 rfl) ?_
      refine lv_i2l hx₀ hb dX12_behind_29 rfl ?_
      refine lv_lconst (v := 0) hx₀ hb dX12_behind_30 (by decide +kernel) ?_
      refine lv_ldc2 (v := 3) hx₀ hb hown (hts (.constantLong RX12 72 (3)) wd_319) dX12_behind_31 ?_
      obtain ⟨hPc, hDc, hFc, hC⟩ := k_cw (wc := []) hP hD hS hA [] (by decide +kernel) rfl
      refine va_calli (va_runS (As := [.long w1.toInt64, .long 0, .long 3]) (rest := []) ⟨hx₀, hb, hml, hown, hts⟩ (c_in l dC dI cI cJ cQ H.size w1.toInt64 0 3) (va_cwS 3 hts (kGS wd_208 wd_206 wd_207 wd_5) rfl rfl rfl (by decide +kernel) ⟨Nat.le_of_ble_eq_true rfl, Nat.le_of_ble_eq_true rfl⟩) (k_preS hK hPc hDc hN) rfl rfl hl.1 rfl (lv_room (Nat.le_of_ble_eq_true rfl)) dX12_behind_34 ⟨by decide +kernel, by decide +kernel⟩) hS (fun q _ h => hFc q h) hFc (fun r_21 u₀ t₀ H1 locs ht hvm hw hB hz1 hk1 hS => ?_)
      obtain ⟨hP1, hK1, hD1⟩ := hB
      rw [ht] at hP1
      have hJ := k_jn (wr := [(kAI vTo cI 96 qTo), (kAI vPr cI 2 qPr), (kAI vSt cI 2 qSt), (kAI vFn cI 2 qFn), (kAI vFt cI 32 qFt), (kAI vTy cI 3 qTy), (kAI vBy cI 120 qBy), (kAI vMi cI 24 (ga_3 0)), (kAI vPs cI 32 (ga_3 1)), (kAI vGs cI 16 (ga_3 2)), (kX12 hm vFo vSi vIt vMo la vBy vTy (g_2 0) vMi (g_2 1) vPs (g_2 2) vGs fn vFt le vTo kn fe en ca an co vPr vSt vFn sn vSg vAl dr)]) (wt := [(kAI vTo cI 96 qTo), (kAI vPr cI 2 qPr), (kAI vSt cI 2 qSt), (kAI vFn cI 2 qFn), (kAI vFt cI 32 qFt), (kAI vTy cI 3 qTy), (kAI vBy cI 120 qBy), (kAI vMi cI 24 (ga_3 0)), (kAI vPs cI 32 (ga_3 1)), (kAI vGs cI 16 (ga_3 2)), (kX12 hm vFo vSi vIt vMo la vBy vTy (g_2 0) vMi (g_2 1) vPs (g_2 2) vGs fn vFt le vTo kn fe en ca an co vPr vSt vFn sn vSg vAl dr)]) hP hD hC [0, 1, 2, 3, 4, 5, 6, 7, 8, 9, 10] rfl (by decide +kernel) (by decide +kernel) hk1 hFc hP1 hD1 rfl
      clear hP hD hPc hDc hFc hC hP1 hD1 hK1 hz1 hk1 hvm ht
      obtain ⟨hP, hD⟩ := hJ
      generalize H1 = H at hP hS ⊢
      try dsimp only at hw
      by_cases c_22 : (0 : Int64) ≤ w1.toInt64 ∧ w1.toInt64 ≤ (3 : Int64)
      · rw [if_pos c_22] at hw
        refine k_topi (v := 1) hw ?_
        refine lv_if_eq (tgt := 50) hx₀ hb dX12_behind_37 (by decide) (fun c9 => absurd c9 (by decide +kernel)) (fun _ => ?_)
        refine lv_aload_n hx₀ hb dX12_behind_40 rfl (lv_at hl 0 rfl) ?_
        refine lv_iload_n hx₀ hb dX12_behind_41 rfl (lv_at hl 1 rfl) ?_
        refine lv_iload_n hx₀ hb dX12_behind_42 rfl (lv_at hl 2 rfl) ?_
        refine lv_iload_n hx₀ hb dX12_behind_43 rfl (lv_at hl 3 rfl) ?_
        obtain ⟨hPc, hDc, hFc, hC⟩ := k_cw (wc := [(kX12 hm vFo vSi vIt vMo la vBy vTy (g_2 0) vMi (g_2 1) vPs (g_2 2) vGs fn vFt le vTo kn fe en ca an co vPr vSt vFn sn vSg vAl dr), (kAI vMi cI 24 (ga_3 0)), (kAI vPs cI 32 (ga_3 1)), (kAI vGs cI 16 (ga_3 2)), (kAI vTo cI 96 qTo), (kAI vPr cI 2 qPr), (kAI vSt cI 2 qSt), (kAI vFn cI 2 qFn), (kAI vFt cI 32 qFt)]) hP hD hS hA [10, 7, 8, 9, 0, 1, 2, 3, 4] (by decide +kernel) rfl
        refine va_calli (va_runV (As := [.int f1, .int m1, .int w1]) (rest := []) ⟨hx₀, hb, hml, hown, hts⟩ (g_behindOf l dC dI cI cJ cQ H.size hm f1 m1 w1 vFo vSi vIt vMo la vBy vTy (g_2 0) vMi (g_2 1) vPs (g_2 2) vGs fn vFt le vTo kn fe en ca an co vPr vSt vFn sn vSg vAl dr (ga_3 0) (ga_3 1) (ga_3 2) qTo qPr qSt qFn qFt (c_7) (c_8) (c_9) (hh3) (lf_g_flies_3 fn f1 hh7 c_18) (lf_g_behind_1 (g_2 0) m1 c_7 c_20) (show 0 ≤ w1 ∧ w1 ≤ 3 from ⟨((k_64 (a := w1) (l := 0) (h := 3) (by decide) (by decide)).mp c_22).1, ((k_64 (a := w1) (l := 0) (h := 3) (by decide) (by decide)).mp c_22).2⟩)) (cwV 3 hts (kGV wd_598 wd_595 wd_596 wd_597 wd_5) rfl rfl rfl (by decide +kernel) ⟨Nat.le_of_ble_eq_true rfl, Nat.le_of_ble_eq_true rfl⟩) (k_preV11 (q0 := 0) hK hPc hDc hN rfl) rfl rfl hl.1 rfl (lv_room (Nat.le_of_ble_eq_true rfl)) dX12_behind_44 ⟨by decide +kernel, by decide +kernel⟩) hS (fun q _ h => hFc q h) hFc (fun r_23 u₀ t₀ H1 locs ht hvm hw hB hz1 hk1 hS => ?_)
        obtain ⟨g_24, ga_25, gl_26, gb_27, gp_28⟩ := u₀
        obtain ⟨hP1, hK1, hD1⟩ := hB
        rw [ht] at hP1
        have hJ := k_jn (wr := [(kAI vTy cI 3 qTy), (kAI vBy cI 120 qBy)]) (wt := [(kAI vTy cI 3 qTy), (kAI vBy cI 120 qBy), (kX12 hm vFo vSi vIt vMo la vBy vTy (g_2 0) vMi (g_2 1) vPs (g_2 2) vGs fn vFt le vTo (g_24 0) (g_24 1) (g_24 2) ca (g_24 3) (g_24 4) vPr vSt vFn sn vSg vAl dr), (kAI vMi cI 24 (ga_3 0)), (kAI vPs cI 32 (ga_3 1)), (kAI vGs cI 16 (ga_3 2)), (kAI vTo cI 96 (ga_25 0)), (kAI vPr cI 2 (ga_25 1)), (kAI vSt cI 2 (ga_25 2)), (kAI vFn cI 2 (ga_25 3)), (kAI vFt cI 32 qFt)]) hP hD hC [5, 6] rfl (by decide +kernel) (by decide +kernel) hk1 hFc hP1 hD1 rfl
        clear hP hD hPc hDc hFc hC hP1 hD1 hK1 hz1 hk1 hvm ht
        obtain ⟨hP, hD⟩ := hJ
        generalize H1 = H at hP hS ⊢
        try dsimp only at hw
        obtain ⟨c_29, c_30, c_31, c_32⟩ := hw
        refine lv_goto (tgt := 52) hx₀ hb dX12_behind_47 (by decide) ?_
        obtain ⟨hP9, hD9⟩ := k_c2 (wc := [(kX12 hm vFo vSi vIt vMo la vBy vTy (g_2 0) vMi (g_2 1) vPs (g_2 2) vGs fn vFt le vTo (g_24 0) (g_24 1) (g_24 2) ca (g_24 3) (g_24 4) vPr vSt vFn sn vSg vAl dr), (kAI vTy cI 3 qTy), (kAI vBy cI 120 qBy), (kAI vMi cI 24 (ga_3 0)), (kAI vPs cI 32 (ga_3 1)), (kAI vGs cI 16 (ga_3 2)), (kAI vTo cI 96 (ga_25 0)), (kAI vPr cI 2 (ga_25 1)), (kAI vSt cI 2 (ga_25 2)), (kAI vFn cI 2 (ga_25 3)), (kAI vFt cI 32 qFt)]) hP hD [2, 0, 1, 3, 4, 5, 6, 7, 8, 9, 10] (by decide +kernel) rfl
        exact W.iret (v := r_23) hx₀ hb hr (fun t₀ ht hW => ⟨⟨r_23, (k_fn [(g_2 0), (g_2 1), (g_2 2), (g_24 0), (g_24 1), (g_24 2), (g_24 3), (g_24 4)], k_fa [(ga_3 0), (ga_3 1), (ga_3 2), ga_25 0, ga_25 1, ga_25 2, ga_25 3], k_fl [], k_fL [], k_fp []), rfl, ⟨c_7, c_8, c_9, c_29, c_30, c_31, c_32⟩, by rw [ht]; exact hP9, va_K.moved hW.alike hK, hD9⟩, hS.F ht⟩) hS.2.2 dX12_behind_52
      rw [if_neg c_22] at hw
      refine k_topi (v := 0) hw ?_
      refine lv_if_eq (tgt := 50) hx₀ hb dX12_behind_37 (by decide) (fun _ => ?_) (fun c9 => absurd (by decide +kernel) c9)
      refine lv_bipush (v := (-2)) hx₀ hb dX12_behind_50 (by decide +kernel) ?_
      obtain ⟨hP9, hD9⟩ := k_c2 (wc := [(kX12 hm vFo vSi vIt vMo la vBy vTy (g_2 0) vMi (g_2 1) vPs (g_2 2) vGs fn vFt le vTo kn fe en ca an co vPr vSt vFn sn vSg vAl dr), (kAI vTy cI 3 qTy), (kAI vBy cI 120 qBy), (kAI vMi cI 24 (ga_3 0)), (kAI vPs cI 32 (ga_3 1)), (kAI vGs cI 16 (ga_3 2)), (kAI vTo cI 96 qTo), (kAI vPr cI 2 qPr), (kAI vSt cI 2 qSt), (kAI vFn cI 2 qFn), (kAI vFt cI 32 qFt)]) hP hD [10, 5, 6, 7, 8, 9, 0, 1, 2, 3, 4] (by decide +kernel) rfl
      exact W.iret (v := (-2)) hx₀ hb hr (fun t₀ ht hW => ⟨⟨(-2), (k_fn [(g_2 0), (g_2 1), (g_2 2), kn, fe, en, an, co], k_fa [ga_3 0, ga_3 1, ga_3 2, qTo, qPr, qSt, qFn], k_fl [], k_fL [], k_fp []), rfl, ⟨c_7, c_8, c_9, hh3, hh4, hh5, hh6⟩, by rw [ht]; exact hP9, va_K.moved hW.alike hK, hD9⟩, hS.F ht⟩) hS.2.2 dX12_behind_52
    rw [if_neg c_20] at hw
    refine k_topi (v := 0) hw ?_
    refine lv_if_eq (tgt := 50) hx₀ hb dX12_behind_25 (by decide) (fun _ => ?_) (fun c9 => absurd (by decide +kernel) c9)
    refine lv_bipush (v := (-2)) hx₀ hb dX12_behind_50 (by decide +kernel) ?_
    obtain ⟨hP9, hD9⟩ := k_c2 (wc := [(kX12 hm vFo vSi vIt vMo la vBy vTy (g_2 0) vMi (g_2 1) vPs (g_2 2) vGs fn vFt le vTo kn fe en ca an co vPr vSt vFn sn vSg vAl dr), (kAI vTy cI 3 qTy), (kAI vBy cI 120 qBy), (kAI vMi cI 24 (ga_3 0)), (kAI vPs cI 32 (ga_3 1)), (kAI vGs cI 16 (ga_3 2)), (kAI vTo cI 96 qTo), (kAI vPr cI 2 qPr), (kAI vSt cI 2 qSt), (kAI vFn cI 2 qFn), (kAI vFt cI 32 qFt)]) hP hD [10, 5, 6, 7, 8, 9, 0, 1, 2, 3, 4] (by decide +kernel) rfl
    exact W.iret (v := (-2)) hx₀ hb hr (fun t₀ ht hW => ⟨⟨(-2), (k_fn [(g_2 0), (g_2 1), (g_2 2), kn, fe, en, an, co], k_fa [ga_3 0, ga_3 1, ga_3 2, qTo, qPr, qSt, qFn], k_fl [], k_fL [], k_fp []), rfl, ⟨c_7, c_8, c_9, hh3, hh4, hh5, hh6⟩, by rw [ht]; exact hP9, va_K.moved hW.alike hK, hD9⟩, hS.F ht⟩) hS.2.2 dX12_behind_52
  rw [if_neg c_18] at hw
  refine k_topi (v := 0) hw ?_
  refine lv_if_eq (tgt := 50) hx₀ hb dX12_behind_9 (by decide) (fun _ => ?_) (fun c9 => absurd (by decide +kernel) c9)
  refine lv_bipush (v := (-2)) hx₀ hb dX12_behind_50 (by decide +kernel) ?_
  obtain ⟨hP9, hD9⟩ := k_c2 (wc := [(kX12 hm vFo vSi vIt vMo la vBy vTy (g_2 0) vMi (g_2 1) vPs (g_2 2) vGs fn vFt le vTo kn fe en ca an co vPr vSt vFn sn vSg vAl dr), (kAI vTy cI 3 qTy), (kAI vBy cI 120 qBy), (kAI vMi cI 24 (ga_3 0)), (kAI vPs cI 32 (ga_3 1)), (kAI vGs cI 16 (ga_3 2)), (kAI vTo cI 96 qTo), (kAI vPr cI 2 qPr), (kAI vSt cI 2 qSt), (kAI vFn cI 2 qFn), (kAI vFt cI 32 qFt)]) hP hD [10, 5, 6, 7, 8, 9, 0, 1, 2, 3, 4] (by decide +kernel) rfl
  exact W.iret (v := (-2)) hx₀ hb hr (fun t₀ ht hW => ⟨⟨(-2), (k_fn [(g_2 0), (g_2 1), (g_2 2), kn, fe, en, an, co], k_fa [ga_3 0, ga_3 1, ga_3 2, qTo, qPr, qSt, qFn], k_fl [], k_fL [], k_fp []), rfl, ⟨c_7, c_8, c_9, hh3, hh4, hh5, hh6⟩, by rw [ht]; exact hP9, va_K.moved hW.alike hK, hD9⟩, hS.F ht⟩) hS.2.2 dX12_behind_52
set_option maxHeartbeats 4000000 in
set_option maxRecDepth 100000 in
theorem g_farthest (l : Launch) (dC : Nat → ClassId) (dI : Nat → Nat → Nat) (cI cJ cQ : ClassId) (sz : Nat) (hm : Nat) (vFo : Nat) (vSi : Nat) (vIt : Nat) (vMo : Nat) (la : Int32) (vBy : Nat) (vTy : Nat) (mi : Int32) (vMi : Nat) (pn : Int32) (vPs : Nat) (gn : Int32) (vGs : Nat) (fn : Int32) (vFt : Nat) (le : Int32) (vTo : Nat) (kn : Int32) (fe : Int32) (en : Int32) (ca : Int32) (an : Int32) (co : Int32) (vPr : Nat) (vSt : Nat) (vFn : Nat) (sn : Int32) (vSg : Nat) (vAl : Nat) (dr : Int32) (qTy : Nat → Int32) (qBy : Nat → Int32) (qMi : Nat → Int32) (qPs : Nat → Int32) (qGs : Nat → Int32) (qTo : Nat → Int32) (qPr : Nat → Int32) (qSt : Nat → Int32) (qFn : Nat → Int32) (qFt : Nat → Int32) (hh0 : 0 ≤ (qTy 0).toInt ∧ (qTy 0).toInt ≤ 24) (hh1 : 0 ≤ (qTy 1).toInt ∧ (qTy 1).toInt ≤ 39) (hh2 : 0 ≤ (qTy 2).toInt ∧ (qTy 2).toInt ≤ 23) (hh3 : k_bd 2 0 7 qPr) (hh4 : 0 ≤ fe ∧ fe ≤ 24) (hh5 : en = 0 ∨ kn = 0 ∨ fe ≤ 23) (hh6 : 0 ≤ kn ∧ kn ≤ 24) (hh7 : 0 ≤ fn ∧ fn ≤ 8) : Met l yX12_farthest (kW yX12_farthest cX12_farthest 1 (some .int)) { frames := 5, cells := 0, slots := 0, locals := 124 } (kPre dC dI cI cJ cQ sz [.ref hm] [(kX12 hm vFo vSi vIt vMo la vBy vTy mi vMi pn vPs gn vGs fn vFt le vTo kn fe en ca an co vPr vSt vFn sn vSg vAl dr), (kAI vTy cI 3 qTy), (kAI vBy cI 120 qBy), (kAI vMi cI 24 qMi), (kAI vPs cI 32 qPs), (kAI vGs cI 16 qGs), (kAI vTo cI 96 qTo), (kAI vPr cI 2 qPr), (kAI vSt cI 2 qSt), (kAI vFn cI 2 qFn), (kAI vFt cI 32 qFt)]) (va_Qi (fun (r : Int32) (u : kS) => (0 ≤ (u.1 0) ∧ (u.1 0) ≤ 24) ∧ (0 ≤ (u.1 1) ∧ (u.1 1) ≤ 8) ∧ (0 ≤ (u.1 2) ∧ (u.1 2) ≤ 8) ∧ (k_bd 2 0 7 (u.2.1 4)) ∧ (0 ≤ (u.1 4) ∧ (u.1 4) ≤ 24) ∧ ((u.1 5) = 0 ∨ (u.1 3) = 0 ∨ (u.1 4) ≤ 23) ∧ (0 ≤ (u.1 3) ∧ (u.1 3) ≤ 24)) (fun (u : kS) t₀ => kB dC dI cI cJ cQ (va_A [(kX12 hm vFo vSi vIt vMo la vBy vTy mi vMi pn vPs gn vGs fn vFt le vTo kn fe en ca an co vPr vSt vFn sn vSg vAl dr), (kAI vTy cI 3 qTy), (kAI vBy cI 120 qBy), (kAI vMi cI 24 qMi), (kAI vPs cI 32 qPs), (kAI vGs cI 16 qGs), (kAI vTo cI 96 qTo), (kAI vPr cI 2 qPr), (kAI vSt cI 2 qSt), (kAI vFn cI 2 qFn), (kAI vFt cI 32 qFt)] sz) [(kX12 hm vFo vSi vIt vMo la vBy vTy (u.1 0) vMi (u.1 1) vPs (u.1 2) vGs fn vFt le vTo (u.1 3) (u.1 4) (u.1 5) ca (u.1 6) (u.1 7) vPr vSt vFn sn vSg vAl dr), (kAI vTy cI 3 qTy), (kAI vBy cI 120 qBy), (kAI vMi cI 24 (u.2.1 0)), (kAI vPs cI 32 (u.2.1 1)), (kAI vGs cI 16 (u.2.1 2)), (kAI vTo cI 96 (u.2.1 3)), (kAI vPr cI 2 (u.2.1 4)), (kAI vSt cI 2 (u.2.1 5)), (kAI vFn cI 2 (u.2.1 6)), (kAI vFt cI 32 qFt)] t₀) (va_A [(kX12 hm vFo vSi vIt vMo la vBy vTy mi vMi pn vPs gn vGs fn vFt le vTo kn fe en ca an co vPr vSt vFn sn vSg vAl dr), (kAI vTy cI 3 qTy), (kAI vBy cI 120 qBy), (kAI vMi cI 24 qMi), (kAI vPs cI 32 qPs), (kAI vGs cI 16 qGs), (kAI vTo cI 96 qTo), (kAI vPr cI 2 qPr), (kAI vSt cI 2 qSt), (kAI vFn cI 2 qFn), (kAI vFt cI 32 qFt)] sz)) 0 0 (va_A [(kX12 hm vFo vSi vIt vMo la vBy vTy mi vMi pn vPs gn vGs fn vFt le vTo kn fe en ca an co vPr vSt vFn sn vSg vAl dr), (kAI vTy cI 3 qTy), (kAI vBy cI 120 qBy), (kAI vMi cI 24 qMi), (kAI vPs cI 32 qPs), (kAI vGs cI 16 qGs), (kAI vTo cI 96 qTo), (kAI vPr cI 2 qPr), (kAI vSt cI 2 qSt), (kAI vFn cI 2 qFn), (kAI vFt cI 32 qFt)] sz) := by
  refine Met.ofW (cc := cX12_farthest) (maxL := 1) (ret := (some .int)) (by decide) rfl ?_
  intro p₀ e₀ s₀ m₀ args below meth c₀ s₁ B hml hv₀
  obtain ⟨rfl, hsz, hP, hK, hD0, hN⟩ := hv₀
  have hx₀ := B.exec
  have hb := B.bytes
  have hr := B.returns
  have hts := atoms_spec (ws := (kW yX12_farthest cX12_farthest 1 (some .int))) B.pre
  have hts := fun w h => hts w (List.mem_cons_of_mem _ h)
  have hown : s₀.vm.findClass RX12 = some m₀.cls := findClass_of_methodNamed B.named
  have hlocks := B.notSynchronized
  subst hsz
  have hD := hD0.self (sz := s₀.heap.size)
  generalize hAe : va_A [(kX12 hm vFo vSi vIt vMo la vBy vTy mi vMi pn vPs gn vGs fn vFt le vTo kn fe en ca an co vPr vSt vFn sn vSg vAl dr), (kAI vTy cI 3 qTy), (kAI vBy cI 120 qBy), (kAI vMi cI 24 qMi), (kAI vPs cI 32 qPs), (kAI vGs cI 16 qGs), (kAI vTo cI 96 qTo), (kAI vPr cI 2 qPr), (kAI vSt cI 2 qSt), (kAI vFn cI 2 qFn), (kAI vFt cI 32 qFt)] s₀.heap.size = A at hD ⊢
  have hA : ∀ q : Nat, s₀.heap.size ≤ q → A q := fun q h => by rw [← hAe]; exact Or.inr h
  have hS : va_S A s₀.heap s₀.heap [] := va_S.rf
  have hP : va_P (dC, dI) vwCl [(kX12 hm vFo vSi vIt vMo la vBy vTy mi vMi pn vPs gn vGs fn vFt le vTo kn fe en ca an co vPr vSt vFn sn vSg vAl dr), (kAI vTy cI 3 qTy), (kAI vBy cI 120 qBy), (kAI vMi cI 24 qMi), (kAI vPs cI 32 qPs), (kAI vGs cI 16 qGs), (kAI vTo cI 96 qTo), (kAI vPr cI 2 qPr), (kAI vSt cI 2 qSt), (kAI vFn cI 2 qFn), (kAI vFt cI 32 qFt)] s₀.heap := hP
  have hl := lv_entry ([.ref hm]) (n := 1) (Nat.le_of_ble_eq_true rfl)
  rw [lg_entry_eq]
  generalize (lg_sl ([.ref hm]) ++ List.replicate (1 - (lg_sl ([.ref hm])).length) Slot.unset).toArray = ls at hl ⊢
  have hl : lv_has ls 1 [(0, .ref hm)] := hl
  obtain ⟨H, hH⟩ : ∃ z : Heap, z = s₀.heap := ⟨_, rfl⟩
  rw [← hH] at hP
  have hS : va_S A s₀.heap H [] := by rw [hH]; exact hS
  refine k_heap hH ?_
  have hD : va_D A [(kX12 hm vFo vSi vIt vMo la vBy vTy mi vMi pn vPs gn vGs fn vFt le vTo kn fe en ca an co vPr vSt vFn sn vSg vAl dr), (kAI vTy cI 3 qTy), (kAI vBy cI 120 qBy), (kAI vMi cI 24 qMi), (kAI vPs cI 32 qPs), (kAI vGs cI 16 qGs), (kAI vTo cI 96 qTo), (kAI vPr cI 2 qPr), (kAI vSt cI 2 qSt), (kAI vFn cI 2 qFn), (kAI vFt cI 32 qFt)] := hD
  obtain ⟨locs, hlo⟩ : ∃ z : List Loc, z = [] := ⟨_, rfl⟩
  rw [← hlo] at hS ⊢
  clear hlo hH hAe hD0
  refine lv_aload_n hx₀ hb dX12_farthest_0 rfl (lv_at hl 0 rfl) ?_
  obtain ⟨hPc, hDc, hFc, hC⟩ := k_cw (wc := [(kX12 hm vFo vSi vIt vMo la vBy vTy mi vMi pn vPs gn vGs fn vFt le vTo kn fe en ca an co vPr vSt vFn sn vSg vAl dr), (kAI vTy cI 3 qTy), (kAI vBy cI 120 qBy), (kAI vMi cI 24 qMi), (kAI vPs cI 32 qPs), (kAI vGs cI 16 qGs)]) hP hD hS hA [0, 1, 2, 3, 4, 5] (by decide +kernel) rfl
  refine va_callv (va_runV (As := []) (rest := []) ⟨hx₀, hb, hml, hown, hts⟩ (g_reads l dC dI cI cJ cQ H.size hm vFo vSi vIt vMo la vBy vTy mi vMi pn vPs gn vGs fn vFt le vTo kn fe en ca an co vPr vSt vFn sn vSg vAl dr qTy qBy qMi qPs qGs (hh0) (hh1) (hh2)) (cwV 0 hts (kGV wd_298 wd_295 wd_296 wd_297 wd_5) rfl rfl rfl (by decide +kernel) ⟨Nat.le_of_ble_eq_true rfl, Nat.le_of_ble_eq_true rfl⟩) (k_preV11 (q0 := 0) hK hPc hDc hN rfl) rfl rfl hl.1 rfl (lv_room (Nat.le_of_ble_eq_true rfl)) dX12_farthest_1 ⟨by decide +kernel, by decide +kernel⟩) hS (fun q _ h => hFc q h) hFc (fun u₀ t₀ H1 locs ht hvm hw hB hz1 hk1 hS => ?_)
  obtain ⟨g_2, ga_3, gl_4, gb_5, gp_6⟩ := u₀
  obtain ⟨hP1, hK1, hD1⟩ := hB
  rw [ht] at hP1
  have hJ := k_jn (wr := [(kAI vTo cI 96 qTo), (kAI vPr cI 2 qPr), (kAI vSt cI 2 qSt), (kAI vFn cI 2 qFn), (kAI vFt cI 32 qFt)]) (wt := [(kAI vTo cI 96 qTo), (kAI vPr cI 2 qPr), (kAI vSt cI 2 qSt), (kAI vFn cI 2 qFn), (kAI vFt cI 32 qFt), (kX12 hm vFo vSi vIt vMo la vBy vTy (g_2 0) vMi (g_2 1) vPs (g_2 2) vGs fn vFt le vTo kn fe en ca an co vPr vSt vFn sn vSg vAl dr), (kAI vTy cI 3 qTy), (kAI vBy cI 120 qBy), (kAI vMi cI 24 (ga_3 0)), (kAI vPs cI 32 (ga_3 1)), (kAI vGs cI 16 (ga_3 2))]) hP hD hC [6, 7, 8, 9, 10] rfl (by decide +kernel) (by decide +kernel) hk1 hFc hP1 hD1 rfl
  clear hP hD hPc hDc hFc hC hP1 hD1 hK1 hz1 hk1 hvm ht
  obtain ⟨hP, hD⟩ := hJ
  generalize H1 = H at hP hS ⊢
  try dsimp only at hw
  obtain ⟨c_7, c_8, c_9, c_10, c_11, c_12, c_13, c_14, c_15, c_16⟩ := hw
  refine lv_aload_n hx₀ hb dX12_farthest_4 rfl (lv_at hl 0 rfl) ?_
  obtain ⟨hPc, hDc, hFc, hC⟩ := k_cw (wc := [(kX12 hm vFo vSi vIt vMo la vBy vTy (g_2 0) vMi (g_2 1) vPs (g_2 2) vGs fn vFt le vTo kn fe en ca an co vPr vSt vFn sn vSg vAl dr), (kAI vMi cI 24 (ga_3 0)), (kAI vPs cI 32 (ga_3 1)), (kAI vGs cI 16 (ga_3 2)), (kAI vTo cI 96 qTo), (kAI vPr cI 2 qPr), (kAI vSt cI 2 qSt), (kAI vFn cI 2 qFn), (kAI vFt cI 32 qFt)]) hP hD hS hA [5, 8, 9, 10, 0, 1, 2, 3, 4] (by decide +kernel) rfl
  refine va_calli (va_runV (As := []) (rest := []) ⟨hx₀, hb, hml, hown, hts⟩ (g_farthestNow l dC dI cI cJ cQ H.size hm vFo vSi vIt vMo la vBy vTy (g_2 0) vMi (g_2 1) vPs (g_2 2) vGs fn vFt le vTo kn fe en ca an co vPr vSt vFn sn vSg vAl dr (ga_3 0) (ga_3 1) (ga_3 2) qTo qPr qSt qFn qFt (c_7) (c_8) (c_9) (hh3) (hh4) (hh5) (hh6) (hh7)) (cwV 0 hts (kGV wd_610 wd_607 wd_608 wd_609 wd_5) rfl rfl rfl (by decide +kernel) ⟨Nat.le_of_ble_eq_true rfl, Nat.le_of_ble_eq_true rfl⟩) (k_preV11 (q0 := 0) hK hPc hDc hN rfl) rfl rfl hl.1 rfl (lv_room (Nat.le_of_ble_eq_true rfl)) dX12_farthest_5 ⟨by decide +kernel, by decide +kernel⟩) hS (fun q _ h => hFc q h) hFc (fun r_17 u₀ t₀ H1 locs ht hvm hw hB hz1 hk1 hS => ?_)
  obtain ⟨g_18, ga_19, gl_20, gb_21, gp_22⟩ := u₀
  obtain ⟨hP1, hK1, hD1⟩ := hB
  rw [ht] at hP1
  have hJ := k_jn (wr := [(kAI vTy cI 3 qTy), (kAI vBy cI 120 qBy)]) (wt := [(kAI vTy cI 3 qTy), (kAI vBy cI 120 qBy), (kX12 hm vFo vSi vIt vMo la vBy vTy (g_2 0) vMi (g_2 1) vPs (g_2 2) vGs fn vFt le vTo (g_18 0) (g_18 1) (g_18 2) ca (g_18 3) (g_18 4) vPr vSt vFn sn vSg vAl dr), (kAI vMi cI 24 (ga_3 0)), (kAI vPs cI 32 (ga_3 1)), (kAI vGs cI 16 (ga_3 2)), (kAI vTo cI 96 (ga_19 0)), (kAI vPr cI 2 (ga_19 1)), (kAI vSt cI 2 (ga_19 2)), (kAI vFn cI 2 (ga_19 3)), (kAI vFt cI 32 qFt)]) hP hD hC [6, 7] rfl (by decide +kernel) (by decide +kernel) hk1 hFc hP1 hD1 rfl
  clear hP hD hPc hDc hFc hC hP1 hD1 hK1 hz1 hk1 hvm ht
  obtain ⟨hP, hD⟩ := hJ
  generalize H1 = H at hP hS ⊢
  try dsimp only at hw
  obtain ⟨c_23, c_24, c_25, c_26⟩ := hw
  obtain ⟨hP9, hD9⟩ := k_c2 (wc := [(kX12 hm vFo vSi vIt vMo la vBy vTy (g_2 0) vMi (g_2 1) vPs (g_2 2) vGs fn vFt le vTo (g_18 0) (g_18 1) (g_18 2) ca (g_18 3) (g_18 4) vPr vSt vFn sn vSg vAl dr), (kAI vTy cI 3 qTy), (kAI vBy cI 120 qBy), (kAI vMi cI 24 (ga_3 0)), (kAI vPs cI 32 (ga_3 1)), (kAI vGs cI 16 (ga_3 2)), (kAI vTo cI 96 (ga_19 0)), (kAI vPr cI 2 (ga_19 1)), (kAI vSt cI 2 (ga_19 2)), (kAI vFn cI 2 (ga_19 3)), (kAI vFt cI 32 qFt)]) hP hD [2, 0, 1, 3, 4, 5, 6, 7, 8, 9, 10] (by decide +kernel) rfl
  exact W.iret (v := r_17) hx₀ hb hr (fun t₀ ht hW => ⟨⟨r_17, (k_fn [(g_2 0), (g_2 1), (g_2 2), (g_18 0), (g_18 1), (g_18 2), (g_18 3), (g_18 4)], k_fa [(ga_3 0), (ga_3 1), (ga_3 2), ga_19 0, ga_19 1, ga_19 2, ga_19 3], k_fl [], k_fL [], k_fp []), rfl, ⟨c_7, c_8, c_9, c_23, c_24, c_25, c_26⟩, by rw [ht]; exact hP9, va_K.moved hW.alike hK, hD9⟩, hS.F ht⟩) hS.2.2 dX12_farthest_8
set_option maxHeartbeats 4000000 in
set_option maxRecDepth 100000 in
theorem g_climb (l : Launch) (dC : Nat → ClassId) (dI : Nat → Nat → Nat) (cI cJ cQ : ClassId) (sz : Nat) (hm : Nat) (f1 : Int32) (i1 : Int32) (vFo : Nat) (vSi : Nat) (vIt : Nat) (vMo : Nat) (la : Int32) (vBy : Nat) (vTy : Nat) (mi : Int32) (vMi : Nat) (pn : Int32) (vPs : Nat) (gn : Int32) (vGs : Nat) (fn : Int32) (vFt : Nat) (le : Int32) (vTo : Nat) (kn : Int32) (fe : Int32) (en : Int32) (ca : Int32) (an : Int32) (co : Int32) (vPr : Nat) (vSt : Nat) (vFn : Nat) (sn : Int32) (vSg : Nat) (vAl : Nat) (dr : Int32) (qTy : Nat → Int32) (qBy : Nat → Int32) (qMi : Nat → Int32) (qPs : Nat → Int32) (qGs : Nat → Int32) (qTo : Nat → Int32) (qPr : Nat → Int32) (qSt : Nat → Int32) (qFn : Nat → Int32) (qFt : Nat → Int32) (hh0 : 0 ≤ (qTy 0).toInt ∧ (qTy 0).toInt ≤ 24) (hh1 : 0 ≤ (qTy 1).toInt ∧ (qTy 1).toInt ≤ 39) (hh2 : 0 ≤ (qTy 2).toInt ∧ (qTy 2).toInt ≤ 23) (hh3 : k_bd 2 0 7 qPr) (hh4 : 0 ≤ fe ∧ fe ≤ 24) (hh5 : en = 0 ∨ kn = 0 ∨ fe ≤ 23) (hh6 : 0 ≤ kn ∧ kn ≤ 24) (hh7 : 0 ≤ fn ∧ fn ≤ 8) : Met l yX12_climb (kW yX12_climb cX12_climb 3 (some .int)) { frames := 5, cells := 0, slots := 0, locals := 111 } (kPre dC dI cI cJ cQ sz [.ref hm, .int f1, .int i1] [(kX12 hm vFo vSi vIt vMo la vBy vTy mi vMi pn vPs gn vGs fn vFt le vTo kn fe en ca an co vPr vSt vFn sn vSg vAl dr), (kAI vTy cI 3 qTy), (kAI vBy cI 120 qBy), (kAI vMi cI 24 qMi), (kAI vPs cI 32 qPs), (kAI vGs cI 16 qGs), (kAI vTo cI 96 qTo), (kAI vPr cI 2 qPr), (kAI vSt cI 2 qSt), (kAI vFn cI 2 qFn), (kAI vFt cI 32 qFt)]) (va_Qi (fun (r : Int32) (u : kS) => (0 ≤ (u.1 0) ∧ (u.1 0) ≤ 24) ∧ (0 ≤ (u.1 1) ∧ (u.1 1) ≤ 8) ∧ (0 ≤ (u.1 2) ∧ (u.1 2) ≤ 8) ∧ (k_bd 2 0 7 (u.2.1 4)) ∧ (0 ≤ (u.1 4) ∧ (u.1 4) ≤ 24) ∧ ((u.1 5) = 0 ∨ (u.1 3) = 0 ∨ (u.1 4) ≤ 23) ∧ (0 ≤ (u.1 3) ∧ (u.1 3) ≤ 24)) (fun (u : kS) t₀ => kB dC dI cI cJ cQ (va_A [(kX12 hm vFo vSi vIt vMo la vBy vTy mi vMi pn vPs gn vGs fn vFt le vTo kn fe en ca an co vPr vSt vFn sn vSg vAl dr), (kAI vTy cI 3 qTy), (kAI vBy cI 120 qBy), (kAI vMi cI 24 qMi), (kAI vPs cI 32 qPs), (kAI vGs cI 16 qGs), (kAI vTo cI 96 qTo), (kAI vPr cI 2 qPr), (kAI vSt cI 2 qSt), (kAI vFn cI 2 qFn), (kAI vFt cI 32 qFt)] sz) [(kX12 hm vFo vSi vIt vMo la vBy vTy (u.1 0) vMi (u.1 1) vPs (u.1 2) vGs fn vFt le vTo (u.1 3) (u.1 4) (u.1 5) ca (u.1 6) (u.1 7) vPr vSt vFn sn vSg vAl dr), (kAI vTy cI 3 qTy), (kAI vBy cI 120 qBy), (kAI vMi cI 24 (u.2.1 0)), (kAI vPs cI 32 (u.2.1 1)), (kAI vGs cI 16 (u.2.1 2)), (kAI vTo cI 96 (u.2.1 3)), (kAI vPr cI 2 (u.2.1 4)), (kAI vSt cI 2 (u.2.1 5)), (kAI vFn cI 2 (u.2.1 6)), (kAI vFt cI 32 qFt)] t₀) (va_A [(kX12 hm vFo vSi vIt vMo la vBy vTy mi vMi pn vPs gn vGs fn vFt le vTo kn fe en ca an co vPr vSt vFn sn vSg vAl dr), (kAI vTy cI 3 qTy), (kAI vBy cI 120 qBy), (kAI vMi cI 24 qMi), (kAI vPs cI 32 qPs), (kAI vGs cI 16 qGs), (kAI vTo cI 96 qTo), (kAI vPr cI 2 qPr), (kAI vSt cI 2 qSt), (kAI vFn cI 2 qFn), (kAI vFt cI 32 qFt)] sz)) 0 0 (va_A [(kX12 hm vFo vSi vIt vMo la vBy vTy mi vMi pn vPs gn vGs fn vFt le vTo kn fe en ca an co vPr vSt vFn sn vSg vAl dr), (kAI vTy cI 3 qTy), (kAI vBy cI 120 qBy), (kAI vMi cI 24 qMi), (kAI vPs cI 32 qPs), (kAI vGs cI 16 qGs), (kAI vTo cI 96 qTo), (kAI vPr cI 2 qPr), (kAI vSt cI 2 qSt), (kAI vFn cI 2 qFn), (kAI vFt cI 32 qFt)] sz) := by
  refine Met.ofW (cc := cX12_climb) (maxL := 3) (ret := (some .int)) (by decide) rfl ?_
  intro p₀ e₀ s₀ m₀ args below meth c₀ s₁ B hml hv₀
  obtain ⟨rfl, hsz, hP, hK, hD0, hN⟩ := hv₀
  have hx₀ := B.exec
  have hb := B.bytes
  have hr := B.returns
  have hts := atoms_spec (ws := (kW yX12_climb cX12_climb 3 (some .int))) B.pre
  have hts := fun w h => hts w (List.mem_cons_of_mem _ h)
  have hown : s₀.vm.findClass RX12 = some m₀.cls := findClass_of_methodNamed B.named
  have hlocks := B.notSynchronized
  subst hsz
  have hD := hD0.self (sz := s₀.heap.size)
  generalize hAe : va_A [(kX12 hm vFo vSi vIt vMo la vBy vTy mi vMi pn vPs gn vGs fn vFt le vTo kn fe en ca an co vPr vSt vFn sn vSg vAl dr), (kAI vTy cI 3 qTy), (kAI vBy cI 120 qBy), (kAI vMi cI 24 qMi), (kAI vPs cI 32 qPs), (kAI vGs cI 16 qGs), (kAI vTo cI 96 qTo), (kAI vPr cI 2 qPr), (kAI vSt cI 2 qSt), (kAI vFn cI 2 qFn), (kAI vFt cI 32 qFt)] s₀.heap.size = A at hD ⊢
  have hA : ∀ q : Nat, s₀.heap.size ≤ q → A q := fun q h => by rw [← hAe]; exact Or.inr h
  have hS : va_S A s₀.heap s₀.heap [] := va_S.rf
  have hP : va_P (dC, dI) vwCl [(kX12 hm vFo vSi vIt vMo la vBy vTy mi vMi pn vPs gn vGs fn vFt le vTo kn fe en ca an co vPr vSt vFn sn vSg vAl dr), (kAI vTy cI 3 qTy), (kAI vBy cI 120 qBy), (kAI vMi cI 24 qMi), (kAI vPs cI 32 qPs), (kAI vGs cI 16 qGs), (kAI vTo cI 96 qTo), (kAI vPr cI 2 qPr), (kAI vSt cI 2 qSt), (kAI vFn cI 2 qFn), (kAI vFt cI 32 qFt)] s₀.heap := hP
  have hl := lv_entry ([.ref hm, .int f1, .int i1]) (n := 3) (Nat.le_of_ble_eq_true rfl)
  rw [lg_entry_eq]
  generalize (lg_sl ([.ref hm, .int f1, .int i1]) ++ List.replicate (3 - (lg_sl ([.ref hm, .int f1, .int i1])).length) Slot.unset).toArray = ls at hl ⊢
  have hl : lv_has ls 3 [(0, .ref hm), (1, .int f1), (2, .int i1)] := hl
  obtain ⟨H, hH⟩ : ∃ z : Heap, z = s₀.heap := ⟨_, rfl⟩
  rw [← hH] at hP
  have hS : va_S A s₀.heap H [] := by rw [hH]; exact hS
  refine k_heap hH ?_
  have hD : va_D A [(kX12 hm vFo vSi vIt vMo la vBy vTy mi vMi pn vPs gn vGs fn vFt le vTo kn fe en ca an co vPr vSt vFn sn vSg vAl dr), (kAI vTy cI 3 qTy), (kAI vBy cI 120 qBy), (kAI vMi cI 24 qMi), (kAI vPs cI 32 qPs), (kAI vGs cI 16 qGs), (kAI vTo cI 96 qTo), (kAI vPr cI 2 qPr), (kAI vSt cI 2 qSt), (kAI vFn cI 2 qFn), (kAI vFt cI 32 qFt)] := hD
  obtain ⟨locs, hlo⟩ : ∃ z : List Loc, z = [] := ⟨_, rfl⟩
  rw [← hlo] at hS ⊢
  clear hlo hH hAe hD0
  refine lv_aload_n hx₀ hb dX12_climb_0 rfl (lv_at hl 0 rfl) ?_
  obtain ⟨hPc, hDc, hFc, hC⟩ := k_cw (wc := [(kX12 hm vFo vSi vIt vMo la vBy vTy mi vMi pn vPs gn vGs fn vFt le vTo kn fe en ca an co vPr vSt vFn sn vSg vAl dr), (kAI vTy cI 3 qTy), (kAI vBy cI 120 qBy), (kAI vMi cI 24 qMi), (kAI vPs cI 32 qPs), (kAI vGs cI 16 qGs)]) hP hD hS hA [0, 1, 2, 3, 4, 5] (by decide +kernel) rfl
  refine va_callv (va_runV (As := []) (rest := []) ⟨hx₀, hb, hml, hown, hts⟩ (g_reads l dC dI cI cJ cQ H.size hm vFo vSi vIt vMo la vBy vTy mi vMi pn vPs gn vGs fn vFt le vTo kn fe en ca an co vPr vSt vFn sn vSg vAl dr qTy qBy qMi qPs qGs (hh0) (hh1) (hh2)) (cwV 0 hts (kGV wd_298 wd_295 wd_296 wd_297 wd_5) rfl rfl rfl (by decide +kernel) ⟨Nat.le_of_ble_eq_true rfl, Nat.le_of_ble_eq_true rfl⟩) (k_preV11 (q0 := 0) hK hPc hDc hN rfl) rfl rfl hl.1 rfl (lv_room (Nat.le_of_ble_eq_true rfl)) dX12_climb_1 ⟨by decide +kernel, by decide +kernel⟩) hS (fun q _ h => hFc q h) hFc (fun u₀ t₀ H1 locs ht hvm hw hB hz1 hk1 hS => ?_)
  obtain ⟨g_2, ga_3, gl_4, gb_5, gp_6⟩ := u₀
  obtain ⟨hP1, hK1, hD1⟩ := hB
  rw [ht] at hP1
  have hJ := k_jn (wr := [(kAI vTo cI 96 qTo), (kAI vPr cI 2 qPr), (kAI vSt cI 2 qSt), (kAI vFn cI 2 qFn), (kAI vFt cI 32 qFt)]) (wt := [(kAI vTo cI 96 qTo), (kAI vPr cI 2 qPr), (kAI vSt cI 2 qSt), (kAI vFn cI 2 qFn), (kAI vFt cI 32 qFt), (kX12 hm vFo vSi vIt vMo la vBy vTy (g_2 0) vMi (g_2 1) vPs (g_2 2) vGs fn vFt le vTo kn fe en ca an co vPr vSt vFn sn vSg vAl dr), (kAI vTy cI 3 qTy), (kAI vBy cI 120 qBy), (kAI vMi cI 24 (ga_3 0)), (kAI vPs cI 32 (ga_3 1)), (kAI vGs cI 16 (ga_3 2))]) hP hD hC [6, 7, 8, 9, 10] rfl (by decide +kernel) (by decide +kernel) hk1 hFc hP1 hD1 rfl
  clear hP hD hPc hDc hFc hC hP1 hD1 hK1 hz1 hk1 hvm ht
  obtain ⟨hP, hD⟩ := hJ
  generalize H1 = H at hP hS ⊢
  try dsimp only at hw
  obtain ⟨c_7, c_8, c_9, c_10, c_11, c_12, c_13, c_14, c_15, c_16⟩ := hw
  refine lv_aload_n hx₀ hb dX12_climb_4 rfl (lv_at hl 0 rfl) ?_
  refine lv_iload_n hx₀ hb dX12_climb_5 rfl (lv_at hl 1 rfl) ?_
  obtain ⟨hPc, hDc, hFc, hC⟩ := k_cw (wc := [(kX12 hm vFo vSi vIt vMo la vBy vTy (g_2 0) vMi (g_2 1) vPs (g_2 2) vGs fn vFt le vTo kn fe en ca an co vPr vSt vFn sn vSg vAl dr)]) hP hD hS hA [5] (by decide +kernel) rfl
  refine va_calli (va_runV (As := [.int f1]) (rest := []) ⟨hx₀, hb, hml, hown, hts⟩ (g_isFlight l dC dI cI cJ cQ H.size hm f1 vFo vSi vIt vMo la vBy vTy (g_2 0) vMi (g_2 1) vPs (g_2 2) vGs fn vFt le vTo kn fe en ca an co vPr vSt vFn sn vSg vAl dr (hh7)) (cwV 1 hts (kGV wd_528 wd_525 wd_526 wd_527 wd_5) rfl rfl rfl (by decide +kernel) ⟨Nat.le_of_ble_eq_true rfl, Nat.le_of_ble_eq_true rfl⟩) (k_preV11 (q0 := 0) hK hPc hDc hN rfl) rfl rfl hl.1 rfl (lv_room (Nat.le_of_ble_eq_true rfl)) dX12_climb_6 ⟨by decide +kernel, by decide +kernel⟩) hS (fun q _ h => hFc q h) hFc (fun r_17 u₀ t₀ H1 locs ht hvm hw hB hz1 hk1 hS => ?_)
  obtain ⟨hP1, hK1, hD1⟩ := hB
  rw [ht] at hP1
  have hJ := k_jn (wr := [(kAI vTo cI 96 qTo), (kAI vPr cI 2 qPr), (kAI vSt cI 2 qSt), (kAI vFn cI 2 qFn), (kAI vFt cI 32 qFt), (kAI vTy cI 3 qTy), (kAI vBy cI 120 qBy), (kAI vMi cI 24 (ga_3 0)), (kAI vPs cI 32 (ga_3 1)), (kAI vGs cI 16 (ga_3 2))]) (wt := [(kAI vTo cI 96 qTo), (kAI vPr cI 2 qPr), (kAI vSt cI 2 qSt), (kAI vFn cI 2 qFn), (kAI vFt cI 32 qFt), (kAI vTy cI 3 qTy), (kAI vBy cI 120 qBy), (kAI vMi cI 24 (ga_3 0)), (kAI vPs cI 32 (ga_3 1)), (kAI vGs cI 16 (ga_3 2)), (kX12 hm vFo vSi vIt vMo la vBy vTy (g_2 0) vMi (g_2 1) vPs (g_2 2) vGs fn vFt le vTo kn fe en ca an co vPr vSt vFn sn vSg vAl dr)]) hP hD hC [0, 1, 2, 3, 4, 6, 7, 8, 9, 10] rfl (by decide +kernel) (by decide +kernel) hk1 hFc hP1 hD1 rfl
  clear hP hD hPc hDc hFc hC hP1 hD1 hK1 hz1 hk1 hvm ht
  obtain ⟨hP, hD⟩ := hJ
  generalize H1 = H at hP hS ⊢
  try dsimp only at hw
  by_cases c_18 : 0 ≤ f1 ∧ f1 < fn
  · rw [if_pos c_18] at hw
    refine k_topi (v := 1) hw ?_
    refine lv_if_eq (tgt := 35) hx₀ hb dX12_climb_9 (by decide) (fun c9 => absurd c9 (by decide +kernel)) (fun _ => ?_)
    refine lv_iload_n hx₀ hb dX12_climb_12 rfl (lv_at hl 2 rfl) ?_
    refine lv_i2l hx₀ hb dX12_climb_13 rfl ?_
    refine lv_ldc2 (v := (-1)) hx₀ hb hown (hts (.constantLong RX12 224 (-1)) wd_645) dX12_climb_14 ?_
    refine lv_ldc2 (v := 2) hx₀ hb hown (hts (.constantLong RX12 78 (2)) wd_205) dX12_climb_17 ?_
    obtain ⟨hPc, hDc, hFc, hC⟩ := k_cw (wc := []) hP hD hS hA [] (by decide +kernel) rfl
    refine va_calli (va_runS (As := [.long i1.toInt64, .long (-1), .long 2]) (rest := []) ⟨hx₀, hb, hml, hown, hts⟩ (c_in l dC dI cI cJ cQ H.size i1.toInt64 (-1) 2) (va_cwS 3 hts (kGS wd_208 wd_206 wd_207 wd_5) rfl rfl rfl (by decide +kernel) ⟨Nat.le_of_ble_eq_true rfl, Nat.le_of_ble_eq_true rfl⟩) (k_preS hK hPc hDc hN) rfl rfl hl.1 rfl (lv_room (Nat.le_of_ble_eq_true rfl)) dX12_climb_20 ⟨by decide +kernel, by decide +kernel⟩) hS (fun q _ h => hFc q h) hFc (fun r_19 u₀ t₀ H1 locs ht hvm hw hB hz1 hk1 hS => ?_)
    obtain ⟨hP1, hK1, hD1⟩ := hB
    rw [ht] at hP1
    have hJ := k_jn (wr := [(kAI vTo cI 96 qTo), (kAI vPr cI 2 qPr), (kAI vSt cI 2 qSt), (kAI vFn cI 2 qFn), (kAI vFt cI 32 qFt), (kAI vTy cI 3 qTy), (kAI vBy cI 120 qBy), (kAI vMi cI 24 (ga_3 0)), (kAI vPs cI 32 (ga_3 1)), (kAI vGs cI 16 (ga_3 2)), (kX12 hm vFo vSi vIt vMo la vBy vTy (g_2 0) vMi (g_2 1) vPs (g_2 2) vGs fn vFt le vTo kn fe en ca an co vPr vSt vFn sn vSg vAl dr)]) (wt := [(kAI vTo cI 96 qTo), (kAI vPr cI 2 qPr), (kAI vSt cI 2 qSt), (kAI vFn cI 2 qFn), (kAI vFt cI 32 qFt), (kAI vTy cI 3 qTy), (kAI vBy cI 120 qBy), (kAI vMi cI 24 (ga_3 0)), (kAI vPs cI 32 (ga_3 1)), (kAI vGs cI 16 (ga_3 2)), (kX12 hm vFo vSi vIt vMo la vBy vTy (g_2 0) vMi (g_2 1) vPs (g_2 2) vGs fn vFt le vTo kn fe en ca an co vPr vSt vFn sn vSg vAl dr)]) hP hD hC [0, 1, 2, 3, 4, 5, 6, 7, 8, 9, 10] rfl (by decide +kernel) (by decide +kernel) hk1 hFc hP1 hD1 rfl
    clear hP hD hPc hDc hFc hC hP1 hD1 hK1 hz1 hk1 hvm ht
    obtain ⟨hP, hD⟩ := hJ
    generalize H1 = H at hP hS ⊢
    try dsimp only at hw
    by_cases c_20 : (-1 : Int64) ≤ i1.toInt64 ∧ i1.toInt64 ≤ (2 : Int64)
    · rw [if_pos c_20] at hw
      refine k_topi (v := 1) hw ?_
      refine lv_if_eq (tgt := 35) hx₀ hb dX12_climb_23 (by decide) (fun c9 => absurd c9 (by decide +kernel)) (fun _ => ?_)
      refine lv_aload_n hx₀ hb dX12_climb_26 rfl (lv_at hl 0 rfl) ?_
      refine lv_iload_n hx₀ hb dX12_climb_27 rfl (lv_at hl 1 rfl) ?_
      refine lv_iload_n hx₀ hb dX12_climb_28 rfl (lv_at hl 2 rfl) ?_
      obtain ⟨hPc, hDc, hFc, hC⟩ := k_cw (wc := [(kX12 hm vFo vSi vIt vMo la vBy vTy (g_2 0) vMi (g_2 1) vPs (g_2 2) vGs fn vFt le vTo kn fe en ca an co vPr vSt vFn sn vSg vAl dr), (kAI vMi cI 24 (ga_3 0)), (kAI vPs cI 32 (ga_3 1)), (kAI vGs cI 16 (ga_3 2)), (kAI vTo cI 96 qTo), (kAI vPr cI 2 qPr), (kAI vSt cI 2 qSt), (kAI vFn cI 2 qFn), (kAI vFt cI 32 qFt)]) hP hD hS hA [10, 7, 8, 9, 0, 1, 2, 3, 4] (by decide +kernel) rfl
      refine va_calli (va_runV (As := [.int f1, .int i1]) (rest := []) ⟨hx₀, hb, hml, hown, hts⟩ (g_climbOf l dC dI cI cJ cQ H.size hm f1 i1 vFo vSi vIt vMo la vBy vTy (g_2 0) vMi (g_2 1) vPs (g_2 2) vGs fn vFt le vTo kn fe en ca an co vPr vSt vFn sn vSg vAl dr (ga_3 0) (ga_3 1) (ga_3 2) qTo qPr qSt qFn qFt (c_7) (c_8) (c_9) (hh3) (hh4) (hh5) (hh6) (lf_g_flies_3 fn f1 hh7 c_18)) (cwV 2 hts (kGV wd_649 wd_646 wd_647 wd_648 wd_5) rfl rfl rfl (by decide +kernel) ⟨Nat.le_of_ble_eq_true rfl, Nat.le_of_ble_eq_true rfl⟩) (k_preV11 (q0 := 0) hK hPc hDc hN rfl) rfl rfl hl.1 rfl (lv_room (Nat.le_of_ble_eq_true rfl)) dX12_climb_29 ⟨by decide +kernel, by decide +kernel⟩) hS (fun q _ h => hFc q h) hFc (fun r_21 u₀ t₀ H1 locs ht hvm hw hB hz1 hk1 hS => ?_)
      obtain ⟨g_22, ga_23, gl_24, gb_25, gp_26⟩ := u₀
      obtain ⟨hP1, hK1, hD1⟩ := hB
      rw [ht] at hP1
      have hJ := k_jn (wr := [(kAI vTy cI 3 qTy), (kAI vBy cI 120 qBy)]) (wt := [(kAI vTy cI 3 qTy), (kAI vBy cI 120 qBy), (kX12 hm vFo vSi vIt vMo la vBy vTy (g_2 0) vMi (g_2 1) vPs (g_2 2) vGs fn vFt le vTo (g_22 0) (g_22 1) (g_22 2) ca (g_22 3) (g_22 4) vPr vSt vFn sn vSg vAl dr), (kAI vMi cI 24 (ga_3 0)), (kAI vPs cI 32 (ga_3 1)), (kAI vGs cI 16 (ga_3 2)), (kAI vTo cI 96 (ga_23 0)), (kAI vPr cI 2 (ga_23 1)), (kAI vSt cI 2 (ga_23 2)), (kAI vFn cI 2 (ga_23 3)), (kAI vFt cI 32 qFt)]) hP hD hC [5, 6] rfl (by decide +kernel) (by decide +kernel) hk1 hFc hP1 hD1 rfl
      clear hP hD hPc hDc hFc hC hP1 hD1 hK1 hz1 hk1 hvm ht
      obtain ⟨hP, hD⟩ := hJ
      generalize H1 = H at hP hS ⊢
      try dsimp only at hw
      obtain ⟨c_27, c_28, c_29, c_30⟩ := hw
      refine lv_goto (tgt := 37) hx₀ hb dX12_climb_32 (by decide) ?_
      obtain ⟨hP9, hD9⟩ := k_c2 (wc := [(kX12 hm vFo vSi vIt vMo la vBy vTy (g_2 0) vMi (g_2 1) vPs (g_2 2) vGs fn vFt le vTo (g_22 0) (g_22 1) (g_22 2) ca (g_22 3) (g_22 4) vPr vSt vFn sn vSg vAl dr), (kAI vTy cI 3 qTy), (kAI vBy cI 120 qBy), (kAI vMi cI 24 (ga_3 0)), (kAI vPs cI 32 (ga_3 1)), (kAI vGs cI 16 (ga_3 2)), (kAI vTo cI 96 (ga_23 0)), (kAI vPr cI 2 (ga_23 1)), (kAI vSt cI 2 (ga_23 2)), (kAI vFn cI 2 (ga_23 3)), (kAI vFt cI 32 qFt)]) hP hD [2, 0, 1, 3, 4, 5, 6, 7, 8, 9, 10] (by decide +kernel) rfl
      exact W.iret (v := r_21) hx₀ hb hr (fun t₀ ht hW => ⟨⟨r_21, (k_fn [(g_2 0), (g_2 1), (g_2 2), (g_22 0), (g_22 1), (g_22 2), (g_22 3), (g_22 4)], k_fa [(ga_3 0), (ga_3 1), (ga_3 2), ga_23 0, ga_23 1, ga_23 2, ga_23 3], k_fl [], k_fL [], k_fp []), rfl, ⟨c_7, c_8, c_9, c_27, c_28, c_29, c_30⟩, by rw [ht]; exact hP9, va_K.moved hW.alike hK, hD9⟩, hS.F ht⟩) hS.2.2 dX12_climb_37
    rw [if_neg c_20] at hw
    refine k_topi (v := 0) hw ?_
    refine lv_if_eq (tgt := 35) hx₀ hb dX12_climb_23 (by decide) (fun _ => ?_) (fun c9 => absurd (by decide +kernel) c9)
    refine lv_bipush (v := (-2)) hx₀ hb dX12_climb_35 (by decide +kernel) ?_
    obtain ⟨hP9, hD9⟩ := k_c2 (wc := [(kX12 hm vFo vSi vIt vMo la vBy vTy (g_2 0) vMi (g_2 1) vPs (g_2 2) vGs fn vFt le vTo kn fe en ca an co vPr vSt vFn sn vSg vAl dr), (kAI vTy cI 3 qTy), (kAI vBy cI 120 qBy), (kAI vMi cI 24 (ga_3 0)), (kAI vPs cI 32 (ga_3 1)), (kAI vGs cI 16 (ga_3 2)), (kAI vTo cI 96 qTo), (kAI vPr cI 2 qPr), (kAI vSt cI 2 qSt), (kAI vFn cI 2 qFn), (kAI vFt cI 32 qFt)]) hP hD [10, 5, 6, 7, 8, 9, 0, 1, 2, 3, 4] (by decide +kernel) rfl
    exact W.iret (v := (-2)) hx₀ hb hr (fun t₀ ht hW => ⟨⟨(-2), (k_fn [(g_2 0), (g_2 1), (g_2 2), kn, fe, en, an, co], k_fa [ga_3 0, ga_3 1, ga_3 2, qTo, qPr, qSt, qFn], k_fl [], k_fL [], k_fp []), rfl, ⟨c_7, c_8, c_9, hh3, hh4, hh5, hh6⟩, by rw [ht]; exact hP9, va_K.moved hW.alike hK, hD9⟩, hS.F ht⟩) hS.2.2 dX12_climb_37
  rw [if_neg c_18] at hw
  refine k_topi (v := 0) hw ?_
  refine lv_if_eq (tgt := 35) hx₀ hb dX12_climb_9 (by decide) (fun _ => ?_) (fun c9 => absurd (by decide +kernel) c9)
  refine lv_bipush (v := (-2)) hx₀ hb dX12_climb_35 (by decide +kernel) ?_
  obtain ⟨hP9, hD9⟩ := k_c2 (wc := [(kX12 hm vFo vSi vIt vMo la vBy vTy (g_2 0) vMi (g_2 1) vPs (g_2 2) vGs fn vFt le vTo kn fe en ca an co vPr vSt vFn sn vSg vAl dr), (kAI vTy cI 3 qTy), (kAI vBy cI 120 qBy), (kAI vMi cI 24 (ga_3 0)), (kAI vPs cI 32 (ga_3 1)), (kAI vGs cI 16 (ga_3 2)), (kAI vTo cI 96 qTo), (kAI vPr cI 2 qPr), (kAI vSt cI 2 qSt), (kAI vFn cI 2 qFn), (kAI vFt cI 32 qFt)]) hP hD [10, 5, 6, 7, 8, 9, 0, 1, 2, 3, 4] (by decide +kernel) rfl
  exact W.iret (v := (-2)) hx₀ hb hr (fun t₀ ht hW => ⟨⟨(-2), (k_fn [(g_2 0), (g_2 1), (g_2 2), kn, fe, en, an, co], k_fa [ga_3 0, ga_3 1, ga_3 2, qTo, qPr, qSt, qFn], k_fl [], k_fL [], k_fp []), rfl, ⟨c_7, c_8, c_9, hh3, hh4, hh5, hh6⟩, by rw [ht]; exact hP9, va_K.moved hW.alike hK, hD9⟩, hS.F ht⟩) hS.2.2 dX12_climb_37
set_option maxHeartbeats 4000000 in
set_option maxRecDepth 100000 in
theorem g_practice (l : Launch) (dC : Nat → ClassId) (dI : Nat → Nat → Nat) (cI cJ cQ : ClassId) (sz : Nat) (hm : Nat) (f1 : Int32) (w1 : Int32) (vFo : Nat) (vSi : Nat) (vIt : Nat) (vMo : Nat) (la : Int32) (vBy : Nat) (vTy : Nat) (mi : Int32) (vMi : Nat) (pn : Int32) (vPs : Nat) (gn : Int32) (vGs : Nat) (fn : Int32) (vFt : Nat) (le : Int32) (vTo : Nat) (kn : Int32) (fe : Int32) (en : Int32) (ca : Int32) (an : Int32) (co : Int32) (vPr : Nat) (vSt : Nat) (vFn : Nat) (sn : Int32) (vSg : Nat) (vAl : Nat) (dr : Int32) (qTy : Nat → Int32) (qBy : Nat → Int32) (qMi : Nat → Int32) (qPs : Nat → Int32) (qGs : Nat → Int32) (qTo : Nat → Int32) (qPr : Nat → Int32) (qSt : Nat → Int32) (qFn : Nat → Int32) (qFt : Nat → Int32) (hh0 : 0 ≤ (qTy 0).toInt ∧ (qTy 0).toInt ≤ 24) (hh1 : 0 ≤ (qTy 1).toInt ∧ (qTy 1).toInt ≤ 39) (hh2 : 0 ≤ (qTy 2).toInt ∧ (qTy 2).toInt ≤ 23) (hh3 : k_bd 2 0 7 qPr) (hh4 : 0 ≤ fe ∧ fe ≤ 24) (hh5 : en = 0 ∨ kn = 0 ∨ fe ≤ 23) (hh6 : 0 ≤ kn ∧ kn ≤ 24) (hh7 : 0 ≤ fn ∧ fn ≤ 8) : Met l yX12_practice (kW yX12_practice cX12_practice 3 (some .int)) { frames := 5, cells := 0, slots := 0, locals := 124 } (kPre dC dI cI cJ cQ sz [.ref hm, .int f1, .int w1] [(kX12 hm vFo vSi vIt vMo la vBy vTy mi vMi pn vPs gn vGs fn vFt le vTo kn fe en ca an co vPr vSt vFn sn vSg vAl dr), (kAI vTy cI 3 qTy), (kAI vBy cI 120 qBy), (kAI vMi cI 24 qMi), (kAI vPs cI 32 qPs), (kAI vGs cI 16 qGs), (kAI vTo cI 96 qTo), (kAI vPr cI 2 qPr), (kAI vSt cI 2 qSt), (kAI vFn cI 2 qFn), (kAI vFt cI 32 qFt)]) (va_Qi (fun (r : Int32) (u : kS) => (0 ≤ (u.1 0) ∧ (u.1 0) ≤ 24) ∧ (0 ≤ (u.1 1) ∧ (u.1 1) ≤ 8) ∧ (0 ≤ (u.1 2) ∧ (u.1 2) ≤ 8) ∧ (k_bd 2 0 7 (u.2.1 4)) ∧ (0 ≤ (u.1 4) ∧ (u.1 4) ≤ 24) ∧ ((u.1 5) = 0 ∨ (u.1 3) = 0 ∨ (u.1 4) ≤ 23) ∧ (0 ≤ (u.1 3) ∧ (u.1 3) ≤ 24)) (fun (u : kS) t₀ => kB dC dI cI cJ cQ (va_A [(kX12 hm vFo vSi vIt vMo la vBy vTy mi vMi pn vPs gn vGs fn vFt le vTo kn fe en ca an co vPr vSt vFn sn vSg vAl dr), (kAI vTy cI 3 qTy), (kAI vBy cI 120 qBy), (kAI vMi cI 24 qMi), (kAI vPs cI 32 qPs), (kAI vGs cI 16 qGs), (kAI vTo cI 96 qTo), (kAI vPr cI 2 qPr), (kAI vSt cI 2 qSt), (kAI vFn cI 2 qFn), (kAI vFt cI 32 qFt)] sz) [(kX12 hm vFo vSi vIt vMo la vBy vTy (u.1 0) vMi (u.1 1) vPs (u.1 2) vGs fn vFt le vTo (u.1 3) (u.1 4) (u.1 5) ca (u.1 6) (u.1 7) vPr vSt vFn sn vSg vAl dr), (kAI vTy cI 3 qTy), (kAI vBy cI 120 qBy), (kAI vMi cI 24 (u.2.1 0)), (kAI vPs cI 32 (u.2.1 1)), (kAI vGs cI 16 (u.2.1 2)), (kAI vTo cI 96 (u.2.1 3)), (kAI vPr cI 2 (u.2.1 4)), (kAI vSt cI 2 (u.2.1 5)), (kAI vFn cI 2 (u.2.1 6)), (kAI vFt cI 32 qFt)] t₀) (va_A [(kX12 hm vFo vSi vIt vMo la vBy vTy mi vMi pn vPs gn vGs fn vFt le vTo kn fe en ca an co vPr vSt vFn sn vSg vAl dr), (kAI vTy cI 3 qTy), (kAI vBy cI 120 qBy), (kAI vMi cI 24 qMi), (kAI vPs cI 32 qPs), (kAI vGs cI 16 qGs), (kAI vTo cI 96 qTo), (kAI vPr cI 2 qPr), (kAI vSt cI 2 qSt), (kAI vFn cI 2 qFn), (kAI vFt cI 32 qFt)] sz)) 0 0 (va_A [(kX12 hm vFo vSi vIt vMo la vBy vTy mi vMi pn vPs gn vGs fn vFt le vTo kn fe en ca an co vPr vSt vFn sn vSg vAl dr), (kAI vTy cI 3 qTy), (kAI vBy cI 120 qBy), (kAI vMi cI 24 qMi), (kAI vPs cI 32 qPs), (kAI vGs cI 16 qGs), (kAI vTo cI 96 qTo), (kAI vPr cI 2 qPr), (kAI vSt cI 2 qSt), (kAI vFn cI 2 qFn), (kAI vFt cI 32 qFt)] sz) := by
  refine Met.ofW (cc := cX12_practice) (maxL := 3) (ret := (some .int)) (by decide) rfl ?_
  intro p₀ e₀ s₀ m₀ args below meth c₀ s₁ B hml hv₀
  obtain ⟨rfl, hsz, hP, hK, hD0, hN⟩ := hv₀
  have hx₀ := B.exec
  have hb := B.bytes
  have hr := B.returns
  have hts := atoms_spec (ws := (kW yX12_practice cX12_practice 3 (some .int))) B.pre
  have hts := fun w h => hts w (List.mem_cons_of_mem _ h)
  have hown : s₀.vm.findClass RX12 = some m₀.cls := findClass_of_methodNamed B.named
  have hlocks := B.notSynchronized
  subst hsz
  have hD := hD0.self (sz := s₀.heap.size)
  generalize hAe : va_A [(kX12 hm vFo vSi vIt vMo la vBy vTy mi vMi pn vPs gn vGs fn vFt le vTo kn fe en ca an co vPr vSt vFn sn vSg vAl dr), (kAI vTy cI 3 qTy), (kAI vBy cI 120 qBy), (kAI vMi cI 24 qMi), (kAI vPs cI 32 qPs), (kAI vGs cI 16 qGs), (kAI vTo cI 96 qTo), (kAI vPr cI 2 qPr), (kAI vSt cI 2 qSt), (kAI vFn cI 2 qFn), (kAI vFt cI 32 qFt)] s₀.heap.size = A at hD ⊢
  have hA : ∀ q : Nat, s₀.heap.size ≤ q → A q := fun q h => by rw [← hAe]; exact Or.inr h
  have hS : va_S A s₀.heap s₀.heap [] := va_S.rf
  have hP : va_P (dC, dI) vwCl [(kX12 hm vFo vSi vIt vMo la vBy vTy mi vMi pn vPs gn vGs fn vFt le vTo kn fe en ca an co vPr vSt vFn sn vSg vAl dr), (kAI vTy cI 3 qTy), (kAI vBy cI 120 qBy), (kAI vMi cI 24 qMi), (kAI vPs cI 32 qPs), (kAI vGs cI 16 qGs), (kAI vTo cI 96 qTo), (kAI vPr cI 2 qPr), (kAI vSt cI 2 qSt), (kAI vFn cI 2 qFn), (kAI vFt cI 32 qFt)] s₀.heap := hP
  have hl := lv_entry ([.ref hm, .int f1, .int w1]) (n := 3) (Nat.le_of_ble_eq_true rfl)
  rw [lg_entry_eq]
  generalize (lg_sl ([.ref hm, .int f1, .int w1]) ++ List.replicate (3 - (lg_sl ([.ref hm, .int f1, .int w1])).length) Slot.unset).toArray = ls at hl ⊢
  have hl : lv_has ls 3 [(0, .ref hm), (1, .int f1), (2, .int w1)] := hl
  obtain ⟨H, hH⟩ : ∃ z : Heap, z = s₀.heap := ⟨_, rfl⟩
  rw [← hH] at hP
  have hS : va_S A s₀.heap H [] := by rw [hH]; exact hS
  refine k_heap hH ?_
  have hD : va_D A [(kX12 hm vFo vSi vIt vMo la vBy vTy mi vMi pn vPs gn vGs fn vFt le vTo kn fe en ca an co vPr vSt vFn sn vSg vAl dr), (kAI vTy cI 3 qTy), (kAI vBy cI 120 qBy), (kAI vMi cI 24 qMi), (kAI vPs cI 32 qPs), (kAI vGs cI 16 qGs), (kAI vTo cI 96 qTo), (kAI vPr cI 2 qPr), (kAI vSt cI 2 qSt), (kAI vFn cI 2 qFn), (kAI vFt cI 32 qFt)] := hD
  obtain ⟨locs, hlo⟩ : ∃ z : List Loc, z = [] := ⟨_, rfl⟩
  rw [← hlo] at hS ⊢
  clear hlo hH hAe hD0
  refine lv_aload_n hx₀ hb dX12_practice_0 rfl (lv_at hl 0 rfl) ?_
  obtain ⟨hPc, hDc, hFc, hC⟩ := k_cw (wc := [(kX12 hm vFo vSi vIt vMo la vBy vTy mi vMi pn vPs gn vGs fn vFt le vTo kn fe en ca an co vPr vSt vFn sn vSg vAl dr), (kAI vTy cI 3 qTy), (kAI vBy cI 120 qBy), (kAI vMi cI 24 qMi), (kAI vPs cI 32 qPs), (kAI vGs cI 16 qGs)]) hP hD hS hA [0, 1, 2, 3, 4, 5] (by decide +kernel) rfl
  refine va_callv (va_runV (As := []) (rest := []) ⟨hx₀, hb, hml, hown, hts⟩ (g_reads l dC dI cI cJ cQ H.size hm vFo vSi vIt vMo la vBy vTy mi vMi pn vPs gn vGs fn vFt le vTo kn fe en ca an co vPr vSt vFn sn vSg vAl dr qTy qBy qMi qPs qGs (hh0) (hh1) (hh2)) (cwV 0 hts (kGV wd_298 wd_295 wd_296 wd_297 wd_5) rfl rfl rfl (by decide +kernel) ⟨Nat.le_of_ble_eq_true rfl, Nat.le_of_ble_eq_true rfl⟩) (k_preV11 (q0 := 0) hK hPc hDc hN rfl) rfl rfl hl.1 rfl (lv_room (Nat.le_of_ble_eq_true rfl)) dX12_practice_1 ⟨by decide +kernel, by decide +kernel⟩) hS (fun q _ h => hFc q h) hFc (fun u₀ t₀ H1 locs ht hvm hw hB hz1 hk1 hS => ?_)
  obtain ⟨g_2, ga_3, gl_4, gb_5, gp_6⟩ := u₀
  obtain ⟨hP1, hK1, hD1⟩ := hB
  rw [ht] at hP1
  have hJ := k_jn (wr := [(kAI vTo cI 96 qTo), (kAI vPr cI 2 qPr), (kAI vSt cI 2 qSt), (kAI vFn cI 2 qFn), (kAI vFt cI 32 qFt)]) (wt := [(kAI vTo cI 96 qTo), (kAI vPr cI 2 qPr), (kAI vSt cI 2 qSt), (kAI vFn cI 2 qFn), (kAI vFt cI 32 qFt), (kX12 hm vFo vSi vIt vMo la vBy vTy (g_2 0) vMi (g_2 1) vPs (g_2 2) vGs fn vFt le vTo kn fe en ca an co vPr vSt vFn sn vSg vAl dr), (kAI vTy cI 3 qTy), (kAI vBy cI 120 qBy), (kAI vMi cI 24 (ga_3 0)), (kAI vPs cI 32 (ga_3 1)), (kAI vGs cI 16 (ga_3 2))]) hP hD hC [6, 7, 8, 9, 10] rfl (by decide +kernel) (by decide +kernel) hk1 hFc hP1 hD1 rfl
  clear hP hD hPc hDc hFc hC hP1 hD1 hK1 hz1 hk1 hvm ht
  obtain ⟨hP, hD⟩ := hJ
  generalize H1 = H at hP hS ⊢
  try dsimp only at hw
  obtain ⟨c_7, c_8, c_9, c_10, c_11, c_12, c_13, c_14, c_15, c_16⟩ := hw
  refine lv_aload_n hx₀ hb dX12_practice_4 rfl (lv_at hl 0 rfl) ?_
  refine lv_iload_n hx₀ hb dX12_practice_5 rfl (lv_at hl 1 rfl) ?_
  obtain ⟨hPc, hDc, hFc, hC⟩ := k_cw (wc := [(kX12 hm vFo vSi vIt vMo la vBy vTy (g_2 0) vMi (g_2 1) vPs (g_2 2) vGs fn vFt le vTo kn fe en ca an co vPr vSt vFn sn vSg vAl dr)]) hP hD hS hA [5] (by decide +kernel) rfl
  refine va_calli (va_runV (As := [.int f1]) (rest := []) ⟨hx₀, hb, hml, hown, hts⟩ (g_isFlight l dC dI cI cJ cQ H.size hm f1 vFo vSi vIt vMo la vBy vTy (g_2 0) vMi (g_2 1) vPs (g_2 2) vGs fn vFt le vTo kn fe en ca an co vPr vSt vFn sn vSg vAl dr (hh7)) (cwV 1 hts (kGV wd_528 wd_525 wd_526 wd_527 wd_5) rfl rfl rfl (by decide +kernel) ⟨Nat.le_of_ble_eq_true rfl, Nat.le_of_ble_eq_true rfl⟩) (k_preV11 (q0 := 0) hK hPc hDc hN rfl) rfl rfl hl.1 rfl (lv_room (Nat.le_of_ble_eq_true rfl)) dX12_practice_6 ⟨by decide +kernel, by decide +kernel⟩) hS (fun q _ h => hFc q h) hFc (fun r_17 u₀ t₀ H1 locs ht hvm hw hB hz1 hk1 hS => ?_)
  obtain ⟨hP1, hK1, hD1⟩ := hB
  rw [ht] at hP1
  have hJ := k_jn (wr := [(kAI vTo cI 96 qTo), (kAI vPr cI 2 qPr), (kAI vSt cI 2 qSt), (kAI vFn cI 2 qFn), (kAI vFt cI 32 qFt), (kAI vTy cI 3 qTy), (kAI vBy cI 120 qBy), (kAI vMi cI 24 (ga_3 0)), (kAI vPs cI 32 (ga_3 1)), (kAI vGs cI 16 (ga_3 2))]) (wt := [(kAI vTo cI 96 qTo), (kAI vPr cI 2 qPr), (kAI vSt cI 2 qSt), (kAI vFn cI 2 qFn), (kAI vFt cI 32 qFt), (kAI vTy cI 3 qTy), (kAI vBy cI 120 qBy), (kAI vMi cI 24 (ga_3 0)), (kAI vPs cI 32 (ga_3 1)), (kAI vGs cI 16 (ga_3 2)), (kX12 hm vFo vSi vIt vMo la vBy vTy (g_2 0) vMi (g_2 1) vPs (g_2 2) vGs fn vFt le vTo kn fe en ca an co vPr vSt vFn sn vSg vAl dr)]) hP hD hC [0, 1, 2, 3, 4, 6, 7, 8, 9, 10] rfl (by decide +kernel) (by decide +kernel) hk1 hFc hP1 hD1 rfl
  clear hP hD hPc hDc hFc hC hP1 hD1 hK1 hz1 hk1 hvm ht
  obtain ⟨hP, hD⟩ := hJ
  generalize H1 = H at hP hS ⊢
  try dsimp only at hw
  by_cases c_18 : 0 ≤ f1 ∧ f1 < fn
  · rw [if_pos c_18] at hw
    refine k_topi (v := 1) hw ?_
    refine lv_if_eq (tgt := 28) hx₀ hb dX12_practice_9 (by decide) (fun c9 => absurd c9 (by decide +kernel)) (fun _ => ?_)
    refine lv_iload_n hx₀ hb dX12_practice_12 rfl (lv_at hl 2 rfl) ?_
    obtain ⟨hPc, hDc, hFc, hC⟩ := k_cw (wc := []) hP hD hS hA [] (by decide +kernel) rfl
    refine va_calli (va_runS (As := [.int w1]) (rest := []) ⟨hx₀, hb, hml, hown, hts⟩ (c_isTwo l dC dI cI cJ cQ H.size w1) (va_cwS 1 hts (kGS wd_348 wd_346 wd_347 wd_5) rfl rfl rfl (by decide +kernel) ⟨Nat.le_of_ble_eq_true rfl, Nat.le_of_ble_eq_true rfl⟩) (k_preS hK hPc hDc hN) rfl rfl hl.1 rfl (lv_room (Nat.le_of_ble_eq_true rfl)) dX12_practice_13 ⟨by decide +kernel, by decide +kernel⟩) hS (fun q _ h => hFc q h) hFc (fun r_19 u₀ t₀ H1 locs ht hvm hw hB hz1 hk1 hS => ?_)
    obtain ⟨hP1, hK1, hD1⟩ := hB
    rw [ht] at hP1
    have hJ := k_jn (wr := [(kAI vTo cI 96 qTo), (kAI vPr cI 2 qPr), (kAI vSt cI 2 qSt), (kAI vFn cI 2 qFn), (kAI vFt cI 32 qFt), (kAI vTy cI 3 qTy), (kAI vBy cI 120 qBy), (kAI vMi cI 24 (ga_3 0)), (kAI vPs cI 32 (ga_3 1)), (kAI vGs cI 16 (ga_3 2)), (kX12 hm vFo vSi vIt vMo la vBy vTy (g_2 0) vMi (g_2 1) vPs (g_2 2) vGs fn vFt le vTo kn fe en ca an co vPr vSt vFn sn vSg vAl dr)]) (wt := [(kAI vTo cI 96 qTo), (kAI vPr cI 2 qPr), (kAI vSt cI 2 qSt), (kAI vFn cI 2 qFn), (kAI vFt cI 32 qFt), (kAI vTy cI 3 qTy), (kAI vBy cI 120 qBy), (kAI vMi cI 24 (ga_3 0)), (kAI vPs cI 32 (ga_3 1)), (kAI vGs cI 16 (ga_3 2)), (kX12 hm vFo vSi vIt vMo la vBy vTy (g_2 0) vMi (g_2 1) vPs (g_2 2) vGs fn vFt le vTo kn fe en ca an co vPr vSt vFn sn vSg vAl dr)]) hP hD hC [0, 1, 2, 3, 4, 5, 6, 7, 8, 9, 10] rfl (by decide +kernel) (by decide +kernel) hk1 hFc hP1 hD1 rfl
    clear hP hD hPc hDc hFc hC hP1 hD1 hK1 hz1 hk1 hvm ht
    obtain ⟨hP, hD⟩ := hJ
    generalize H1 = H at hP hS ⊢
    try dsimp only at hw
    by_cases c_20 : 0 ≤ w1 ∧ w1 ≤ 1
    · rw [if_pos c_20] at hw
      refine k_topi (v := 1) hw ?_
      refine lv_if_eq (tgt := 28) hx₀ hb dX12_practice_16 (by decide) (fun c9 => absurd c9 (by decide +kernel)) (fun _ => ?_)
      refine lv_aload_n hx₀ hb dX12_practice_19 rfl (lv_at hl 0 rfl) ?_
      refine lv_iload_n hx₀ hb dX12_practice_20 rfl (lv_at hl 1 rfl) ?_
      refine lv_iload_n hx₀ hb dX12_practice_21 rfl (lv_at hl 2 rfl) ?_
      obtain ⟨hPc, hDc, hFc, hC⟩ := k_cw (wc := [(kX12 hm vFo vSi vIt vMo la vBy vTy (g_2 0) vMi (g_2 1) vPs (g_2 2) vGs fn vFt le vTo kn fe en ca an co vPr vSt vFn sn vSg vAl dr), (kAI vMi cI 24 (ga_3 0)), (kAI vPs cI 32 (ga_3 1)), (kAI vGs cI 16 (ga_3 2)), (kAI vTo cI 96 qTo), (kAI vPr cI 2 qPr), (kAI vSt cI 2 qSt), (kAI vFn cI 2 qFn), (kAI vFt cI 32 qFt)]) hP hD hS hA [10, 7, 8, 9, 0, 1, 2, 3, 4] (by decide +kernel) rfl
      refine va_calli (va_runV (As := [.int f1, .int w1]) (rest := []) ⟨hx₀, hb, hml, hown, hts⟩ (g_practiceOf l dC dI cI cJ cQ H.size hm f1 w1 vFo vSi vIt vMo la vBy vTy (g_2 0) vMi (g_2 1) vPs (g_2 2) vGs fn vFt le vTo kn fe en ca an co vPr vSt vFn sn vSg vAl dr (ga_3 0) (ga_3 1) (ga_3 2) qTo qPr qSt qFn qFt (c_7) (c_8) (c_9) (hh3) (hh4) (hh5) (hh6) (lf_g_flies_3 fn f1 hh7 c_18)) (cwV 2 hts (kGV wd_668 wd_665 wd_666 wd_667 wd_5) rfl rfl rfl (by decide +kernel) ⟨Nat.le_of_ble_eq_true rfl, Nat.le_of_ble_eq_true rfl⟩) (k_preV11 (q0 := 0) hK hPc hDc hN rfl) rfl rfl hl.1 rfl (lv_room (Nat.le_of_ble_eq_true rfl)) dX12_practice_22 ⟨by decide +kernel, by decide +kernel⟩) hS (fun q _ h => hFc q h) hFc (fun r_21 u₀ t₀ H1 locs ht hvm hw hB hz1 hk1 hS => ?_)
      obtain ⟨g_22, ga_23, gl_24, gb_25, gp_26⟩ := u₀
      obtain ⟨hP1, hK1, hD1⟩ := hB
      rw [ht] at hP1
      have hJ := k_jn (wr := [(kAI vTy cI 3 qTy), (kAI vBy cI 120 qBy)]) (wt := [(kAI vTy cI 3 qTy), (kAI vBy cI 120 qBy), (kX12 hm vFo vSi vIt vMo la vBy vTy (g_2 0) vMi (g_2 1) vPs (g_2 2) vGs fn vFt le vTo (g_22 0) (g_22 1) (g_22 2) ca (g_22 3) (g_22 4) vPr vSt vFn sn vSg vAl dr), (kAI vMi cI 24 (ga_3 0)), (kAI vPs cI 32 (ga_3 1)), (kAI vGs cI 16 (ga_3 2)), (kAI vTo cI 96 (ga_23 0)), (kAI vPr cI 2 (ga_23 1)), (kAI vSt cI 2 (ga_23 2)), (kAI vFn cI 2 (ga_23 3)), (kAI vFt cI 32 qFt)]) hP hD hC [5, 6] rfl (by decide +kernel) (by decide +kernel) hk1 hFc hP1 hD1 rfl
      clear hP hD hPc hDc hFc hC hP1 hD1 hK1 hz1 hk1 hvm ht
      obtain ⟨hP, hD⟩ := hJ
      generalize H1 = H at hP hS ⊢
      try dsimp only at hw
      obtain ⟨c_27, c_28, c_29, c_30⟩ := hw
      refine lv_goto (tgt := 30) hx₀ hb dX12_practice_25 (by decide) ?_
      obtain ⟨hP9, hD9⟩ := k_c2 (wc := [(kX12 hm vFo vSi vIt vMo la vBy vTy (g_2 0) vMi (g_2 1) vPs (g_2 2) vGs fn vFt le vTo (g_22 0) (g_22 1) (g_22 2) ca (g_22 3) (g_22 4) vPr vSt vFn sn vSg vAl dr), (kAI vTy cI 3 qTy), (kAI vBy cI 120 qBy), (kAI vMi cI 24 (ga_3 0)), (kAI vPs cI 32 (ga_3 1)), (kAI vGs cI 16 (ga_3 2)), (kAI vTo cI 96 (ga_23 0)), (kAI vPr cI 2 (ga_23 1)), (kAI vSt cI 2 (ga_23 2)), (kAI vFn cI 2 (ga_23 3)), (kAI vFt cI 32 qFt)]) hP hD [2, 0, 1, 3, 4, 5, 6, 7, 8, 9, 10] (by decide +kernel) rfl
      exact W.iret (v := r_21) hx₀ hb hr (fun t₀ ht hW => ⟨⟨r_21, (k_fn [(g_2 0), (g_2 1), (g_2 2), (g_22 0), (g_22 1), (g_22 2), (g_22 3), (g_22 4)], k_fa [(ga_3 0), (ga_3 1), (ga_3 2), ga_23 0, ga_23 1, ga_23 2, ga_23 3], k_fl [], k_fL [], k_fp []), rfl, ⟨c_7, c_8, c_9, c_27, c_28, c_29, c_30⟩, by rw [ht]; exact hP9, va_K.moved hW.alike hK, hD9⟩, hS.F ht⟩) hS.2.2 dX12_practice_30
    rw [if_neg c_20] at hw
    refine k_topi (v := 0) hw ?_
    refine lv_if_eq (tgt := 28) hx₀ hb dX12_practice_16 (by decide) (fun _ => ?_) (fun c9 => absurd (by decide +kernel) c9)
    refine lv_bipush (v := (-2)) hx₀ hb dX12_practice_28 (by decide +kernel) ?_
    obtain ⟨hP9, hD9⟩ := k_c2 (wc := [(kX12 hm vFo vSi vIt vMo la vBy vTy (g_2 0) vMi (g_2 1) vPs (g_2 2) vGs fn vFt le vTo kn fe en ca an co vPr vSt vFn sn vSg vAl dr), (kAI vTy cI 3 qTy), (kAI vBy cI 120 qBy), (kAI vMi cI 24 (ga_3 0)), (kAI vPs cI 32 (ga_3 1)), (kAI vGs cI 16 (ga_3 2)), (kAI vTo cI 96 qTo), (kAI vPr cI 2 qPr), (kAI vSt cI 2 qSt), (kAI vFn cI 2 qFn), (kAI vFt cI 32 qFt)]) hP hD [10, 5, 6, 7, 8, 9, 0, 1, 2, 3, 4] (by decide +kernel) rfl
    exact W.iret (v := (-2)) hx₀ hb hr (fun t₀ ht hW => ⟨⟨(-2), (k_fn [(g_2 0), (g_2 1), (g_2 2), kn, fe, en, an, co], k_fa [ga_3 0, ga_3 1, ga_3 2, qTo, qPr, qSt, qFn], k_fl [], k_fL [], k_fp []), rfl, ⟨c_7, c_8, c_9, hh3, hh4, hh5, hh6⟩, by rw [ht]; exact hP9, va_K.moved hW.alike hK, hD9⟩, hS.F ht⟩) hS.2.2 dX12_practice_30
  rw [if_neg c_18] at hw
  refine k_topi (v := 0) hw ?_
  refine lv_if_eq (tgt := 28) hx₀ hb dX12_practice_9 (by decide) (fun _ => ?_) (fun c9 => absurd (by decide +kernel) c9)
  refine lv_bipush (v := (-2)) hx₀ hb dX12_practice_28 (by decide +kernel) ?_
  obtain ⟨hP9, hD9⟩ := k_c2 (wc := [(kX12 hm vFo vSi vIt vMo la vBy vTy (g_2 0) vMi (g_2 1) vPs (g_2 2) vGs fn vFt le vTo kn fe en ca an co vPr vSt vFn sn vSg vAl dr), (kAI vTy cI 3 qTy), (kAI vBy cI 120 qBy), (kAI vMi cI 24 (ga_3 0)), (kAI vPs cI 32 (ga_3 1)), (kAI vGs cI 16 (ga_3 2)), (kAI vTo cI 96 qTo), (kAI vPr cI 2 qPr), (kAI vSt cI 2 qSt), (kAI vFn cI 2 qFn), (kAI vFt cI 32 qFt)]) hP hD [10, 5, 6, 7, 8, 9, 0, 1, 2, 3, 4] (by decide +kernel) rfl
  exact W.iret (v := (-2)) hx₀ hb hr (fun t₀ ht hW => ⟨⟨(-2), (k_fn [(g_2 0), (g_2 1), (g_2 2), kn, fe, en, an, co], k_fa [ga_3 0, ga_3 1, ga_3 2, qTo, qPr, qSt, qFn], k_fl [], k_fL [], k_fp []), rfl, ⟨c_7, c_8, c_9, hh3, hh4, hh5, hh6⟩, by rw [ht]; exact hP9, va_K.moved hW.alike hK, hD9⟩, hS.F ht⟩) hS.2.2 dX12_practice_30
set_option maxHeartbeats 4000000 in
set_option maxRecDepth 100000 in
theorem g_pair (l : Launch) (dC : Nat → ClassId) (dI : Nat → Nat → Nat) (cI cJ cQ : ClassId) (sz : Nat) (hm : Nat) (f1 : Int32) (w1 : Int32) (vFo : Nat) (vSi : Nat) (vIt : Nat) (vMo : Nat) (la : Int32) (vBy : Nat) (vTy : Nat) (mi : Int32) (vMi : Nat) (pn : Int32) (vPs : Nat) (gn : Int32) (vGs : Nat) (fn : Int32) (vFt : Nat) (le : Int32) (vTo : Nat) (kn : Int32) (fe : Int32) (en : Int32) (ca : Int32) (an : Int32) (co : Int32) (vPr : Nat) (vSt : Nat) (vFn : Nat) (sn : Int32) (vSg : Nat) (vAl : Nat) (dr : Int32) (qTy : Nat → Int32) (qBy : Nat → Int32) (qMi : Nat → Int32) (qPs : Nat → Int32) (qGs : Nat → Int32) (qTo : Nat → Int32) (qPr : Nat → Int32) (qSt : Nat → Int32) (qFn : Nat → Int32) (qFt : Nat → Int32) (hh0 : 0 ≤ (qTy 0).toInt ∧ (qTy 0).toInt ≤ 24) (hh1 : 0 ≤ (qTy 1).toInt ∧ (qTy 1).toInt ≤ 39) (hh2 : 0 ≤ (qTy 2).toInt ∧ (qTy 2).toInt ≤ 23) (hh3 : k_bd 2 0 7 qPr) (hh4 : 0 ≤ fe ∧ fe ≤ 24) (hh5 : en = 0 ∨ kn = 0 ∨ fe ≤ 23) (hh6 : 0 ≤ kn ∧ kn ≤ 24) (hh7 : 0 ≤ fn ∧ fn ≤ 8) : Met l yX12_pair (kW yX12_pair cX12_pair 3 (some .int)) { frames := 5, cells := 0, slots := 0, locals := 111 } (kPre dC dI cI cJ cQ sz [.ref hm, .int f1, .int w1] [(kX12 hm vFo vSi vIt vMo la vBy vTy mi vMi pn vPs gn vGs fn vFt le vTo kn fe en ca an co vPr vSt vFn sn vSg vAl dr), (kAI vTy cI 3 qTy), (kAI vBy cI 120 qBy), (kAI vMi cI 24 qMi), (kAI vPs cI 32 qPs), (kAI vGs cI 16 qGs), (kAI vTo cI 96 qTo), (kAI vPr cI 2 qPr), (kAI vSt cI 2 qSt), (kAI vFn cI 2 qFn), (kAI vFt cI 32 qFt)]) (va_Qi (fun (r : Int32) (u : kS) => (0 ≤ (u.1 0) ∧ (u.1 0) ≤ 24) ∧ (0 ≤ (u.1 1) ∧ (u.1 1) ≤ 8) ∧ (0 ≤ (u.1 2) ∧ (u.1 2) ≤ 8) ∧ (k_bd 2 0 7 (u.2.1 4)) ∧ (0 ≤ (u.1 4) ∧ (u.1 4) ≤ 24) ∧ ((u.1 5) = 0 ∨ (u.1 3) = 0 ∨ (u.1 4) ≤ 23) ∧ (0 ≤ (u.1 3) ∧ (u.1 3) ≤ 24)) (fun (u : kS) t₀ => kB dC dI cI cJ cQ (va_A [(kX12 hm vFo vSi vIt vMo la vBy vTy mi vMi pn vPs gn vGs fn vFt le vTo kn fe en ca an co vPr vSt vFn sn vSg vAl dr), (kAI vTy cI 3 qTy), (kAI vBy cI 120 qBy), (kAI vMi cI 24 qMi), (kAI vPs cI 32 qPs), (kAI vGs cI 16 qGs), (kAI vTo cI 96 qTo), (kAI vPr cI 2 qPr), (kAI vSt cI 2 qSt), (kAI vFn cI 2 qFn), (kAI vFt cI 32 qFt)] sz) [(kX12 hm vFo vSi vIt vMo la vBy vTy (u.1 0) vMi (u.1 1) vPs (u.1 2) vGs fn vFt le vTo (u.1 3) (u.1 4) (u.1 5) ca (u.1 6) (u.1 7) vPr vSt vFn sn vSg vAl dr), (kAI vTy cI 3 qTy), (kAI vBy cI 120 qBy), (kAI vMi cI 24 (u.2.1 0)), (kAI vPs cI 32 (u.2.1 1)), (kAI vGs cI 16 (u.2.1 2)), (kAI vTo cI 96 (u.2.1 3)), (kAI vPr cI 2 (u.2.1 4)), (kAI vSt cI 2 (u.2.1 5)), (kAI vFn cI 2 (u.2.1 6)), (kAI vFt cI 32 qFt)] t₀) (va_A [(kX12 hm vFo vSi vIt vMo la vBy vTy mi vMi pn vPs gn vGs fn vFt le vTo kn fe en ca an co vPr vSt vFn sn vSg vAl dr), (kAI vTy cI 3 qTy), (kAI vBy cI 120 qBy), (kAI vMi cI 24 qMi), (kAI vPs cI 32 qPs), (kAI vGs cI 16 qGs), (kAI vTo cI 96 qTo), (kAI vPr cI 2 qPr), (kAI vSt cI 2 qSt), (kAI vFn cI 2 qFn), (kAI vFt cI 32 qFt)] sz)) 0 0 (va_A [(kX12 hm vFo vSi vIt vMo la vBy vTy mi vMi pn vPs gn vGs fn vFt le vTo kn fe en ca an co vPr vSt vFn sn vSg vAl dr), (kAI vTy cI 3 qTy), (kAI vBy cI 120 qBy), (kAI vMi cI 24 qMi), (kAI vPs cI 32 qPs), (kAI vGs cI 16 qGs), (kAI vTo cI 96 qTo), (kAI vPr cI 2 qPr), (kAI vSt cI 2 qSt), (kAI vFn cI 2 qFn), (kAI vFt cI 32 qFt)] sz) := by
  refine Met.ofW (cc := cX12_pair) (maxL := 3) (ret := (some .int)) (by decide) rfl ?_
  intro p₀ e₀ s₀ m₀ args below meth c₀ s₁ B hml hv₀
  obtain ⟨rfl, hsz, hP, hK, hD0, hN⟩ := hv₀
  have hx₀ := B.exec
  have hb := B.bytes
  have hr := B.returns
  have hts := atoms_spec (ws := (kW yX12_pair cX12_pair 3 (some .int))) B.pre
  have hts := fun w h => hts w (List.mem_cons_of_mem _ h)
  have hown : s₀.vm.findClass RX12 = some m₀.cls := findClass_of_methodNamed B.named
  have hlocks := B.notSynchronized
  subst hsz
  have hD := hD0.self (sz := s₀.heap.size)
  generalize hAe : va_A [(kX12 hm vFo vSi vIt vMo la vBy vTy mi vMi pn vPs gn vGs fn vFt le vTo kn fe en ca an co vPr vSt vFn sn vSg vAl dr), (kAI vTy cI 3 qTy), (kAI vBy cI 120 qBy), (kAI vMi cI 24 qMi), (kAI vPs cI 32 qPs), (kAI vGs cI 16 qGs), (kAI vTo cI 96 qTo), (kAI vPr cI 2 qPr), (kAI vSt cI 2 qSt), (kAI vFn cI 2 qFn), (kAI vFt cI 32 qFt)] s₀.heap.size = A at hD ⊢
  have hA : ∀ q : Nat, s₀.heap.size ≤ q → A q := fun q h => by rw [← hAe]; exact Or.inr h
  have hS : va_S A s₀.heap s₀.heap [] := va_S.rf
  have hP : va_P (dC, dI) vwCl [(kX12 hm vFo vSi vIt vMo la vBy vTy mi vMi pn vPs gn vGs fn vFt le vTo kn fe en ca an co vPr vSt vFn sn vSg vAl dr), (kAI vTy cI 3 qTy), (kAI vBy cI 120 qBy), (kAI vMi cI 24 qMi), (kAI vPs cI 32 qPs), (kAI vGs cI 16 qGs), (kAI vTo cI 96 qTo), (kAI vPr cI 2 qPr), (kAI vSt cI 2 qSt), (kAI vFn cI 2 qFn), (kAI vFt cI 32 qFt)] s₀.heap := hP
  have hl := lv_entry ([.ref hm, .int f1, .int w1]) (n := 3) (Nat.le_of_ble_eq_true rfl)
  rw [lg_entry_eq]
  generalize (lg_sl ([.ref hm, .int f1, .int w1]) ++ List.replicate (3 - (lg_sl ([.ref hm, .int f1, .int w1])).length) Slot.unset).toArray = ls at hl ⊢
  have hl : lv_has ls 3 [(0, .ref hm), (1, .int f1), (2, .int w1)] := hl
  obtain ⟨H, hH⟩ : ∃ z : Heap, z = s₀.heap := ⟨_, rfl⟩
  rw [← hH] at hP
  have hS : va_S A s₀.heap H [] := by rw [hH]; exact hS
  refine k_heap hH ?_
  have hD : va_D A [(kX12 hm vFo vSi vIt vMo la vBy vTy mi vMi pn vPs gn vGs fn vFt le vTo kn fe en ca an co vPr vSt vFn sn vSg vAl dr), (kAI vTy cI 3 qTy), (kAI vBy cI 120 qBy), (kAI vMi cI 24 qMi), (kAI vPs cI 32 qPs), (kAI vGs cI 16 qGs), (kAI vTo cI 96 qTo), (kAI vPr cI 2 qPr), (kAI vSt cI 2 qSt), (kAI vFn cI 2 qFn), (kAI vFt cI 32 qFt)] := hD
  obtain ⟨locs, hlo⟩ : ∃ z : List Loc, z = [] := ⟨_, rfl⟩
  rw [← hlo] at hS ⊢
  clear hlo hH hAe hD0
  refine lv_aload_n hx₀ hb dX12_pair_0 rfl (lv_at hl 0 rfl) ?_
  obtain ⟨hPc, hDc, hFc, hC⟩ := k_cw (wc := [(kX12 hm vFo vSi vIt vMo la vBy vTy mi vMi pn vPs gn vGs fn vFt le vTo kn fe en ca an co vPr vSt vFn sn vSg vAl dr), (kAI vTy cI 3 qTy), (kAI vBy cI 120 qBy), (kAI vMi cI 24 qMi), (kAI vPs cI 32 qPs), (kAI vGs cI 16 qGs)]) hP hD hS hA [0, 1, 2, 3, 4, 5] (by decide +kernel) rfl
  refine va_callv (va_runV (As := []) (rest := []) ⟨hx₀, hb, hml, hown, hts⟩ (g_reads l dC dI cI cJ cQ H.size hm vFo vSi vIt vMo la vBy vTy mi vMi pn vPs gn vGs fn vFt le vTo kn fe en ca an co vPr vSt vFn sn vSg vAl dr qTy qBy qMi qPs qGs (hh0) (hh1) (hh2)) (cwV 0 hts (kGV wd_298 wd_295 wd_296 wd_297 wd_5) rfl rfl rfl (by decide +kernel) ⟨Nat.le_of_ble_eq_true rfl, Nat.le_of_ble_eq_true rfl⟩) (k_preV11 (q0 := 0) hK hPc hDc hN rfl) rfl rfl hl.1 rfl (lv_room (Nat.le_of_ble_eq_true rfl)) dX12_pair_1 ⟨by decide +kernel, by decide +kernel⟩) hS (fun q _ h => hFc q h) hFc (fun u₀ t₀ H1 locs ht hvm hw hB hz1 hk1 hS => ?_)
  obtain ⟨g_2, ga_3, gl_4, gb_5, gp_6⟩ := u₀
  obtain ⟨hP1, hK1, hD1⟩ := hB
  rw [ht] at hP1
  have hJ := k_jn (wr := [(kAI vTo cI 96 qTo), (kAI vPr cI 2 qPr), (kAI vSt cI 2 qSt), (kAI vFn cI 2 qFn), (kAI vFt cI 32 qFt)]) (wt := [(kAI vTo cI 96 qTo), (kAI vPr cI 2 qPr), (kAI vSt cI 2 qSt), (kAI vFn cI 2 qFn), (kAI vFt cI 32 qFt), (kX12 hm vFo vSi vIt vMo la vBy vTy (g_2 0) vMi (g_2 1) vPs (g_2 2) vGs fn vFt le vTo kn fe en ca an co vPr vSt vFn sn vSg vAl dr), (kAI vTy cI 3 qTy), (kAI vBy cI 120 qBy), (kAI vMi cI 24 (ga_3 0)), (kAI vPs cI 32 (ga_3 1)), (kAI vGs cI 16 (ga_3 2))]) hP hD hC [6, 7, 8, 9, 10] rfl (by decide +kernel) (by decide +kernel) hk1 hFc hP1 hD1 rfl
  clear hP hD hPc hDc hFc hC hP1 hD1 hK1 hz1 hk1 hvm ht
  obtain ⟨hP, hD⟩ := hJ
  generalize H1 = H at hP hS ⊢
  try dsimp only at hw
  obtain ⟨c_7, c_8, c_9, c_10, c_11, c_12, c_13, c_14, c_15, c_16⟩ := hw
  refine lv_aload_n hx₀ hb dX12_pair_4 rfl (lv_at hl 0 rfl) ?_
  refine lv_iload_n hx₀ hb dX12_pair_5 rfl (lv_at hl 1 rfl) ?_
  obtain ⟨hPc, hDc, hFc, hC⟩ := k_cw (wc := [(kX12 hm vFo vSi vIt vMo la vBy vTy (g_2 0) vMi (g_2 1) vPs (g_2 2) vGs fn vFt le vTo kn fe en ca an co vPr vSt vFn sn vSg vAl dr)]) hP hD hS hA [5] (by decide +kernel) rfl
  refine va_calli (va_runV (As := [.int f1]) (rest := []) ⟨hx₀, hb, hml, hown, hts⟩ (g_isFlight l dC dI cI cJ cQ H.size hm f1 vFo vSi vIt vMo la vBy vTy (g_2 0) vMi (g_2 1) vPs (g_2 2) vGs fn vFt le vTo kn fe en ca an co vPr vSt vFn sn vSg vAl dr (hh7)) (cwV 1 hts (kGV wd_528 wd_525 wd_526 wd_527 wd_5) rfl rfl rfl (by decide +kernel) ⟨Nat.le_of_ble_eq_true rfl, Nat.le_of_ble_eq_true rfl⟩) (k_preV11 (q0 := 0) hK hPc hDc hN rfl) rfl rfl hl.1 rfl (lv_room (Nat.le_of_ble_eq_true rfl)) dX12_pair_6 ⟨by decide +kernel, by decide +kernel⟩) hS (fun q _ h => hFc q h) hFc (fun r_17 u₀ t₀ H1 locs ht hvm hw hB hz1 hk1 hS => ?_)
  obtain ⟨hP1, hK1, hD1⟩ := hB
  rw [ht] at hP1
  have hJ := k_jn (wr := [(kAI vTo cI 96 qTo), (kAI vPr cI 2 qPr), (kAI vSt cI 2 qSt), (kAI vFn cI 2 qFn), (kAI vFt cI 32 qFt), (kAI vTy cI 3 qTy), (kAI vBy cI 120 qBy), (kAI vMi cI 24 (ga_3 0)), (kAI vPs cI 32 (ga_3 1)), (kAI vGs cI 16 (ga_3 2))]) (wt := [(kAI vTo cI 96 qTo), (kAI vPr cI 2 qPr), (kAI vSt cI 2 qSt), (kAI vFn cI 2 qFn), (kAI vFt cI 32 qFt), (kAI vTy cI 3 qTy), (kAI vBy cI 120 qBy), (kAI vMi cI 24 (ga_3 0)), (kAI vPs cI 32 (ga_3 1)), (kAI vGs cI 16 (ga_3 2)), (kX12 hm vFo vSi vIt vMo la vBy vTy (g_2 0) vMi (g_2 1) vPs (g_2 2) vGs fn vFt le vTo kn fe en ca an co vPr vSt vFn sn vSg vAl dr)]) hP hD hC [0, 1, 2, 3, 4, 6, 7, 8, 9, 10] rfl (by decide +kernel) (by decide +kernel) hk1 hFc hP1 hD1 rfl
  clear hP hD hPc hDc hFc hC hP1 hD1 hK1 hz1 hk1 hvm ht
  obtain ⟨hP, hD⟩ := hJ
  generalize H1 = H at hP hS ⊢
  try dsimp only at hw
  by_cases c_18 : 0 ≤ f1 ∧ f1 < fn
  · rw [if_pos c_18] at hw
    refine k_topi (v := 1) hw ?_
    refine lv_if_eq (tgt := 28) hx₀ hb dX12_pair_9 (by decide) (fun c9 => absurd c9 (by decide +kernel)) (fun _ => ?_)
    refine lv_iload_n hx₀ hb dX12_pair_12 rfl (lv_at hl 2 rfl) ?_
    obtain ⟨hPc, hDc, hFc, hC⟩ := k_cw (wc := []) hP hD hS hA [] (by decide +kernel) rfl
    refine va_calli (va_runS (As := [.int w1]) (rest := []) ⟨hx₀, hb, hml, hown, hts⟩ (c_isTwo l dC dI cI cJ cQ H.size w1) (va_cwS 1 hts (kGS wd_348 wd_346 wd_347 wd_5) rfl rfl rfl (by decide +kernel) ⟨Nat.le_of_ble_eq_true rfl, Nat.le_of_ble_eq_true rfl⟩) (k_preS hK hPc hDc hN) rfl rfl hl.1 rfl (lv_room (Nat.le_of_ble_eq_true rfl)) dX12_pair_13 ⟨by decide +kernel, by decide +kernel⟩) hS (fun q _ h => hFc q h) hFc (fun r_19 u₀ t₀ H1 locs ht hvm hw hB hz1 hk1 hS => ?_)
    obtain ⟨hP1, hK1, hD1⟩ := hB
    rw [ht] at hP1
    have hJ := k_jn (wr := [(kAI vTo cI 96 qTo), (kAI vPr cI 2 qPr), (kAI vSt cI 2 qSt), (kAI vFn cI 2 qFn), (kAI vFt cI 32 qFt), (kAI vTy cI 3 qTy), (kAI vBy cI 120 qBy), (kAI vMi cI 24 (ga_3 0)), (kAI vPs cI 32 (ga_3 1)), (kAI vGs cI 16 (ga_3 2)), (kX12 hm vFo vSi vIt vMo la vBy vTy (g_2 0) vMi (g_2 1) vPs (g_2 2) vGs fn vFt le vTo kn fe en ca an co vPr vSt vFn sn vSg vAl dr)]) (wt := [(kAI vTo cI 96 qTo), (kAI vPr cI 2 qPr), (kAI vSt cI 2 qSt), (kAI vFn cI 2 qFn), (kAI vFt cI 32 qFt), (kAI vTy cI 3 qTy), (kAI vBy cI 120 qBy), (kAI vMi cI 24 (ga_3 0)), (kAI vPs cI 32 (ga_3 1)), (kAI vGs cI 16 (ga_3 2)), (kX12 hm vFo vSi vIt vMo la vBy vTy (g_2 0) vMi (g_2 1) vPs (g_2 2) vGs fn vFt le vTo kn fe en ca an co vPr vSt vFn sn vSg vAl dr)]) hP hD hC [0, 1, 2, 3, 4, 5, 6, 7, 8, 9, 10] rfl (by decide +kernel) (by decide +kernel) hk1 hFc hP1 hD1 rfl
    clear hP hD hPc hDc hFc hC hP1 hD1 hK1 hz1 hk1 hvm ht
    obtain ⟨hP, hD⟩ := hJ
    generalize H1 = H at hP hS ⊢
    try dsimp only at hw
    by_cases c_20 : 0 ≤ w1 ∧ w1 ≤ 1
    · rw [if_pos c_20] at hw
      refine k_topi (v := 1) hw ?_
      refine lv_if_eq (tgt := 28) hx₀ hb dX12_pair_16 (by decide) (fun c9 => absurd c9 (by decide +kernel)) (fun _ => ?_)
      refine lv_aload_n hx₀ hb dX12_pair_19 rfl (lv_at hl 0 rfl) ?_
      refine lv_iload_n hx₀ hb dX12_pair_20 rfl (lv_at hl 1 rfl) ?_
      refine lv_iload_n hx₀ hb dX12_pair_21 rfl (lv_at hl 2 rfl) ?_
      obtain ⟨hPc, hDc, hFc, hC⟩ := k_cw (wc := [(kX12 hm vFo vSi vIt vMo la vBy vTy (g_2 0) vMi (g_2 1) vPs (g_2 2) vGs fn vFt le vTo kn fe en ca an co vPr vSt vFn sn vSg vAl dr), (kAI vMi cI 24 (ga_3 0)), (kAI vPs cI 32 (ga_3 1)), (kAI vGs cI 16 (ga_3 2)), (kAI vTo cI 96 qTo), (kAI vPr cI 2 qPr), (kAI vSt cI 2 qSt), (kAI vFn cI 2 qFn), (kAI vFt cI 32 qFt)]) hP hD hS hA [10, 7, 8, 9, 0, 1, 2, 3, 4] (by decide +kernel) rfl
      refine va_calli (va_runV (As := [.int f1, .int w1]) (rest := []) ⟨hx₀, hb, hml, hown, hts⟩ (g_pairOf l dC dI cI cJ cQ H.size hm f1 w1 vFo vSi vIt vMo la vBy vTy (g_2 0) vMi (g_2 1) vPs (g_2 2) vGs fn vFt le vTo kn fe en ca an co vPr vSt vFn sn vSg vAl dr (ga_3 0) (ga_3 1) (ga_3 2) qTo qPr qSt qFn qFt (c_7) (c_8) (c_9) (hh3) (hh4) (hh5) (hh6) (lf_g_flies_3 fn f1 hh7 c_18)) (cwV 2 hts (kGV wd_685 wd_682 wd_683 wd_684 wd_5) rfl rfl rfl (by decide +kernel) ⟨Nat.le_of_ble_eq_true rfl, Nat.le_of_ble_eq_true rfl⟩) (k_preV11 (q0 := 0) hK hPc hDc hN rfl) rfl rfl hl.1 rfl (lv_room (Nat.le_of_ble_eq_true rfl)) dX12_pair_22 ⟨by decide +kernel, by decide +kernel⟩) hS (fun q _ h => hFc q h) hFc (fun r_21 u₀ t₀ H1 locs ht hvm hw hB hz1 hk1 hS => ?_)
      obtain ⟨g_22, ga_23, gl_24, gb_25, gp_26⟩ := u₀
      obtain ⟨hP1, hK1, hD1⟩ := hB
      rw [ht] at hP1
      have hJ := k_jn (wr := [(kAI vTy cI 3 qTy), (kAI vBy cI 120 qBy)]) (wt := [(kAI vTy cI 3 qTy), (kAI vBy cI 120 qBy), (kX12 hm vFo vSi vIt vMo la vBy vTy (g_2 0) vMi (g_2 1) vPs (g_2 2) vGs fn vFt le vTo (g_22 0) (g_22 1) (g_22 2) ca (g_22 3) (g_22 4) vPr vSt vFn sn vSg vAl dr), (kAI vMi cI 24 (ga_3 0)), (kAI vPs cI 32 (ga_3 1)), (kAI vGs cI 16 (ga_3 2)), (kAI vTo cI 96 (ga_23 0)), (kAI vPr cI 2 (ga_23 1)), (kAI vSt cI 2 (ga_23 2)), (kAI vFn cI 2 (ga_23 3)), (kAI vFt cI 32 qFt)]) hP hD hC [5, 6] rfl (by decide +kernel) (by decide +kernel) hk1 hFc hP1 hD1 rfl
      clear hP hD hPc hDc hFc hC hP1 hD1 hK1 hz1 hk1 hvm ht
      obtain ⟨hP, hD⟩ := hJ
      generalize H1 = H at hP hS ⊢
      try dsimp only at hw
      obtain ⟨c_27, c_28, c_29, c_30⟩ := hw
      refine lv_goto (tgt := 30) hx₀ hb dX12_pair_25 (by decide) ?_
      obtain ⟨hP9, hD9⟩ := k_c2 (wc := [(kX12 hm vFo vSi vIt vMo la vBy vTy (g_2 0) vMi (g_2 1) vPs (g_2 2) vGs fn vFt le vTo (g_22 0) (g_22 1) (g_22 2) ca (g_22 3) (g_22 4) vPr vSt vFn sn vSg vAl dr), (kAI vTy cI 3 qTy), (kAI vBy cI 120 qBy), (kAI vMi cI 24 (ga_3 0)), (kAI vPs cI 32 (ga_3 1)), (kAI vGs cI 16 (ga_3 2)), (kAI vTo cI 96 (ga_23 0)), (kAI vPr cI 2 (ga_23 1)), (kAI vSt cI 2 (ga_23 2)), (kAI vFn cI 2 (ga_23 3)), (kAI vFt cI 32 qFt)]) hP hD [2, 0, 1, 3, 4, 5, 6, 7, 8, 9, 10] (by decide +kernel) rfl
      exact W.iret (v := r_21) hx₀ hb hr (fun t₀ ht hW => ⟨⟨r_21, (k_fn [(g_2 0), (g_2 1), (g_2 2), (g_22 0), (g_22 1), (g_22 2), (g_22 3), (g_22 4)], k_fa [(ga_3 0), (ga_3 1), (ga_3 2), ga_23 0, ga_23 1, ga_23 2, ga_23 3], k_fl [], k_fL [], k_fp []), rfl, ⟨c_7, c_8, c_9, c_27, c_28, c_29, c_30⟩, by rw [ht]; exact hP9, va_K.moved hW.alike hK, hD9⟩, hS.F ht⟩) hS.2.2 dX12_pair_30
    rw [if_neg c_20] at hw
    refine k_topi (v := 0) hw ?_
    refine lv_if_eq (tgt := 28) hx₀ hb dX12_pair_16 (by decide) (fun _ => ?_) (fun c9 => absurd (by decide +kernel) c9)
    refine lv_bipush (v := (-2)) hx₀ hb dX12_pair_28 (by decide +kernel) ?_
    obtain ⟨hP9, hD9⟩ := k_c2 (wc := [(kX12 hm vFo vSi vIt vMo la vBy vTy (g_2 0) vMi (g_2 1) vPs (g_2 2) vGs fn vFt le vTo kn fe en ca an co vPr vSt vFn sn vSg vAl dr), (kAI vTy cI 3 qTy), (kAI vBy cI 120 qBy), (kAI vMi cI 24 (ga_3 0)), (kAI vPs cI 32 (ga_3 1)), (kAI vGs cI 16 (ga_3 2)), (kAI vTo cI 96 qTo), (kAI vPr cI 2 qPr), (kAI vSt cI 2 qSt), (kAI vFn cI 2 qFn), (kAI vFt cI 32 qFt)]) hP hD [10, 5, 6, 7, 8, 9, 0, 1, 2, 3, 4] (by decide +kernel) rfl
    exact W.iret (v := (-2)) hx₀ hb hr (fun t₀ ht hW => ⟨⟨(-2), (k_fn [(g_2 0), (g_2 1), (g_2 2), kn, fe, en, an, co], k_fa [ga_3 0, ga_3 1, ga_3 2, qTo, qPr, qSt, qFn], k_fl [], k_fL [], k_fp []), rfl, ⟨c_7, c_8, c_9, hh3, hh4, hh5, hh6⟩, by rw [ht]; exact hP9, va_K.moved hW.alike hK, hD9⟩, hS.F ht⟩) hS.2.2 dX12_pair_30
  rw [if_neg c_18] at hw
  refine k_topi (v := 0) hw ?_
  refine lv_if_eq (tgt := 28) hx₀ hb dX12_pair_9 (by decide) (fun _ => ?_) (fun c9 => absurd (by decide +kernel) c9)
  refine lv_bipush (v := (-2)) hx₀ hb dX12_pair_28 (by decide +kernel) ?_
  obtain ⟨hP9, hD9⟩ := k_c2 (wc := [(kX12 hm vFo vSi vIt vMo la vBy vTy (g_2 0) vMi (g_2 1) vPs (g_2 2) vGs fn vFt le vTo kn fe en ca an co vPr vSt vFn sn vSg vAl dr), (kAI vTy cI 3 qTy), (kAI vBy cI 120 qBy), (kAI vMi cI 24 (ga_3 0)), (kAI vPs cI 32 (ga_3 1)), (kAI vGs cI 16 (ga_3 2)), (kAI vTo cI 96 qTo), (kAI vPr cI 2 qPr), (kAI vSt cI 2 qSt), (kAI vFn cI 2 qFn), (kAI vFt cI 32 qFt)]) hP hD [10, 5, 6, 7, 8, 9, 0, 1, 2, 3, 4] (by decide +kernel) rfl
  exact W.iret (v := (-2)) hx₀ hb hr (fun t₀ ht hW => ⟨⟨(-2), (k_fn [(g_2 0), (g_2 1), (g_2 2), kn, fe, en, an, co], k_fa [ga_3 0, ga_3 1, ga_3 2, qTo, qPr, qSt, qFn], k_fl [], k_fL [], k_fp []), rfl, ⟨c_7, c_8, c_9, hh3, hh4, hh5, hh6⟩, by rw [ht]; exact hP9, va_K.moved hW.alike hK, hD9⟩, hS.F ht⟩) hS.2.2 dX12_pair_30
theorem lf_g_sores_1 (a0 : Int32) (a1 : Int32) (h0 : 0 ≤ (a0) ∧ (a0) ≤ 8) (h1 : 0 ≤ a1 ∧ a1 < (a0)) : 0 ≤ a1 ∧ a1 ≤ 7 := by
  first | rfl | assumption | decide | exact Or.inl rfl | (first | omega | (have hr0 := Int32.toInt_lt a0; have hs0 := Int32.le_toInt a0; have hr1 := Int32.toInt_lt a1; have hs1 := Int32.le_toInt a1; simp only [Int64.toInt_add, Int64.toInt_sub, Int32.toInt_add, Int32.toInt_sub, Int32.toInt_mul, Int64.le_iff_toInt_le, Int64.lt_iff_toInt_lt, Int32.le_iff_toInt_le, Int32.lt_iff_toInt_lt, ← Int32.toInt_inj, ← Int64.toInt_inj, Int32.toInt_toInt64, kc_0, kc_7, kc_8] at *; (first | omega | ((try simp (disch := omega) only [k_bm64] at *); (try simp (disch := omega) only [k_bm] at *); (try simp (disch := omega) only [k_bm] at *); omega) | (simp only [Int.bmod] at *; omega))))
set_option maxHeartbeats 4000000 in
set_option maxRecDepth 100000 in
theorem g_sores (l : Launch) (dC : Nat → ClassId) (dI : Nat → Nat → Nat) (cI cJ cQ : ClassId) (sz : Nat) (hm : Nat) (p1 : Int32) (vFo : Nat) (vSi : Nat) (vIt : Nat) (vMo : Nat) (la : Int32) (vBy : Nat) (vTy : Nat) (mi : Int32) (vMi : Nat) (pn : Int32) (vPs : Nat) (gn : Int32) (vGs : Nat) (fn : Int32) (vFt : Nat) (le : Int32) (vTo : Nat) (kn : Int32) (fe : Int32) (en : Int32) (ca : Int32) (an : Int32) (co : Int32) (vPr : Nat) (vSt : Nat) (vFn : Nat) (sn : Int32) (vSg : Nat) (vAl : Nat) (dr : Int32) (qTy : Nat → Int32) (qBy : Nat → Int32) (qMi : Nat → Int32) (qPs : Nat → Int32) (qGs : Nat → Int32) (qTo : Nat → Int32) (qPr : Nat → Int32) (qSt : Nat → Int32) (qFn : Nat → Int32) (qFt : Nat → Int32) (qSg : Nat → Int32) (hh0 : 0 ≤ (qTy 0).toInt ∧ (qTy 0).toInt ≤ 24) (hh1 : 0 ≤ (qTy 1).toInt ∧ (qTy 1).toInt ≤ 39) (hh2 : 0 ≤ (qTy 2).toInt ∧ (qTy 2).toInt ≤ 23) (hh3 : k_bd 2 0 7 qPr) (hh4 : 0 ≤ fe ∧ fe ≤ 24) (hh5 : en = 0 ∨ kn = 0 ∨ fe ≤ 23) (hh6 : 0 ≤ kn ∧ kn ≤ 24) (hh7 : 0 ≤ fn ∧ fn ≤ 8) (hh8 : 0 ≤ sn ∧ sn ≤ 8) : Met l yX12_sores (kW yX12_sores cX12_sores 2 (some .int)) { frames := 7, cells := 0, slots := 0, locals := 167 } (kPre dC dI cI cJ cQ sz [.ref hm, .int p1] [(kX12 hm vFo vSi vIt vMo la vBy vTy mi vMi pn vPs gn vGs fn vFt le vTo kn fe en ca an co vPr vSt vFn sn vSg vAl dr), (kAI vTy cI 3 qTy), (kAI vBy cI 120 qBy), (kAI vMi cI 24 qMi), (kAI vPs cI 32 qPs), (kAI vGs cI 16 qGs), (kAI vTo cI 96 qTo), (kAI vPr cI 2 qPr), (kAI vSt cI 2 qSt), (kAI vFn cI 2 qFn), (kAI vFt cI 32 qFt), (kAI vSg cI 16 qSg)]) (va_Qi (fun (r : Int32) (u : kS) => (0 ≤ (u.1 0) ∧ (u.1 0) ≤ 24) ∧ (0 ≤ (u.1 1) ∧ (u.1 1) ≤ 8) ∧ (0 ≤ (u.1 2) ∧ (u.1 2) ≤ 8) ∧ (k_bd 2 0 7 (u.2.1 4)) ∧ (0 ≤ (u.1 4) ∧ (u.1 4) ≤ 24) ∧ ((u.1 5) = 0 ∨ (u.1 3) = 0 ∨ (u.1 4) ≤ 23) ∧ (0 ≤ (u.1 3) ∧ (u.1 3) ≤ 24)) (fun (u : kS) t₀ => kB dC dI cI cJ cQ (va_A [(kX12 hm vFo vSi vIt vMo la vBy vTy mi vMi pn vPs gn vGs fn vFt le vTo kn fe en ca an co vPr vSt vFn sn vSg vAl dr), (kAI vTy cI 3 qTy), (kAI vBy cI 120 qBy), (kAI vMi cI 24 qMi), (kAI vPs cI 32 qPs), (kAI vGs cI 16 qGs), (kAI vTo cI 96 qTo), (kAI vPr cI 2 qPr), (kAI vSt cI 2 qSt), (kAI vFn cI 2 qFn), (kAI vFt cI 32 qFt), (kAI vSg cI 16 qSg)] sz) [(kX12 hm vFo vSi vIt vMo la vBy vTy (u.1 0) vMi (u.1 1) vPs (u.1 2) vGs fn vFt le vTo (u.1 3) (u.1 4) (u.1 5) ca (u.1 6) (u.1 7) vPr vSt vFn sn vSg vAl dr), (kAI vTy cI 3 qTy), (kAI vBy cI 120 qBy), (kAI vMi cI 24 (u.2.1 0)), (kAI vPs cI 32 (u.2.1 1)), (kAI vGs cI 16 (u.2.1 2)), (kAI vTo cI 96 (u.2.1 3)), (kAI vPr cI 2 (u.2.1 4)), (kAI vSt cI 2 (u.2.1 5)), (kAI vFn cI 2 (u.2.1 6)), (kAI vFt cI 32 qFt), (kAI vSg cI 16 qSg)] t₀) (va_A [(kX12 hm vFo vSi vIt vMo la vBy vTy mi vMi pn vPs gn vGs fn vFt le vTo kn fe en ca an co vPr vSt vFn sn vSg vAl dr), (kAI vTy cI 3 qTy), (kAI vBy cI 120 qBy), (kAI vMi cI 24 qMi), (kAI vPs cI 32 qPs), (kAI vGs cI 16 qGs), (kAI vTo cI 96 qTo), (kAI vPr cI 2 qPr), (kAI vSt cI 2 qSt), (kAI vFn cI 2 qFn), (kAI vFt cI 32 qFt), (kAI vSg cI 16 qSg)] sz)) 0 0 (va_A [(kX12 hm vFo vSi vIt vMo la vBy vTy mi vMi pn vPs gn vGs fn vFt le vTo kn fe en ca an co vPr vSt vFn sn vSg vAl dr), (kAI vTy cI 3 qTy), (kAI vBy cI 120 qBy), (kAI vMi cI 24 qMi), (kAI vPs cI 32 qPs), (kAI vGs cI 16 qGs), (kAI vTo cI 96 qTo), (kAI vPr cI 2 qPr), (kAI vSt cI 2 qSt), (kAI vFn cI 2 qFn), (kAI vFt cI 32 qFt), (kAI vSg cI 16 qSg)] sz) := by
  refine Met.ofW (cc := cX12_sores) (maxL := 2) (ret := (some .int)) (by decide) rfl ?_
  intro p₀ e₀ s₀ m₀ args below meth c₀ s₁ B hml hv₀
  obtain ⟨rfl, hsz, hP, hK, hD0, hN⟩ := hv₀
  have hx₀ := B.exec
  have hb := B.bytes
  have hr := B.returns
  have hts := atoms_spec (ws := (kW yX12_sores cX12_sores 2 (some .int))) B.pre
  have hts := fun w h => hts w (List.mem_cons_of_mem _ h)
  have hown : s₀.vm.findClass RX12 = some m₀.cls := findClass_of_methodNamed B.named
  have hlocks := B.notSynchronized
  subst hsz
  have hD := hD0.self (sz := s₀.heap.size)
  generalize hAe : va_A [(kX12 hm vFo vSi vIt vMo la vBy vTy mi vMi pn vPs gn vGs fn vFt le vTo kn fe en ca an co vPr vSt vFn sn vSg vAl dr), (kAI vTy cI 3 qTy), (kAI vBy cI 120 qBy), (kAI vMi cI 24 qMi), (kAI vPs cI 32 qPs), (kAI vGs cI 16 qGs), (kAI vTo cI 96 qTo), (kAI vPr cI 2 qPr), (kAI vSt cI 2 qSt), (kAI vFn cI 2 qFn), (kAI vFt cI 32 qFt), (kAI vSg cI 16 qSg)] s₀.heap.size = A at hD ⊢
  have hA : ∀ q : Nat, s₀.heap.size ≤ q → A q := fun q h => by rw [← hAe]; exact Or.inr h
  have hS : va_S A s₀.heap s₀.heap [] := va_S.rf
  have hP : va_P (dC, dI) vwCl [(kX12 hm vFo vSi vIt vMo la vBy vTy mi vMi pn vPs gn vGs fn vFt le vTo kn fe en ca an co vPr vSt vFn sn vSg vAl dr), (kAI vTy cI 3 qTy), (kAI vBy cI 120 qBy), (kAI vMi cI 24 qMi), (kAI vPs cI 32 qPs), (kAI vGs cI 16 qGs), (kAI vTo cI 96 qTo), (kAI vPr cI 2 qPr), (kAI vSt cI 2 qSt), (kAI vFn cI 2 qFn), (kAI vFt cI 32 qFt), (kAI vSg cI 16 qSg)] s₀.heap := hP
  have hl := lv_entry ([.ref hm, .int p1]) (n := 2) (Nat.le_of_ble_eq_true rfl)
  rw [lg_entry_eq]
  generalize (lg_sl ([.ref hm, .int p1]) ++ List.replicate (2 - (lg_sl ([.ref hm, .int p1])).length) Slot.unset).toArray = ls at hl ⊢
  have hl : lv_has ls 2 [(0, .ref hm), (1, .int p1)] := hl
  obtain ⟨H, hH⟩ : ∃ z : Heap, z = s₀.heap := ⟨_, rfl⟩
  rw [← hH] at hP
  have hS : va_S A s₀.heap H [] := by rw [hH]; exact hS
  refine k_heap hH ?_
  have hD : va_D A [(kX12 hm vFo vSi vIt vMo la vBy vTy mi vMi pn vPs gn vGs fn vFt le vTo kn fe en ca an co vPr vSt vFn sn vSg vAl dr), (kAI vTy cI 3 qTy), (kAI vBy cI 120 qBy), (kAI vMi cI 24 qMi), (kAI vPs cI 32 qPs), (kAI vGs cI 16 qGs), (kAI vTo cI 96 qTo), (kAI vPr cI 2 qPr), (kAI vSt cI 2 qSt), (kAI vFn cI 2 qFn), (kAI vFt cI 32 qFt), (kAI vSg cI 16 qSg)] := hD
  obtain ⟨locs, hlo⟩ : ∃ z : List Loc, z = [] := ⟨_, rfl⟩
  rw [← hlo] at hS ⊢
  clear hlo hH hAe hD0
  refine lv_aload_n hx₀ hb dX12_sores_0 rfl (lv_at hl 0 rfl) ?_
  obtain ⟨hPc, hDc, hFc, hC⟩ := k_cw (wc := [(kX12 hm vFo vSi vIt vMo la vBy vTy mi vMi pn vPs gn vGs fn vFt le vTo kn fe en ca an co vPr vSt vFn sn vSg vAl dr), (kAI vTy cI 3 qTy), (kAI vBy cI 120 qBy), (kAI vMi cI 24 qMi), (kAI vPs cI 32 qPs), (kAI vGs cI 16 qGs)]) hP hD hS hA [0, 1, 2, 3, 4, 5] (by decide +kernel) rfl
  refine va_callv (va_runV (As := []) (rest := []) ⟨hx₀, hb, hml, hown, hts⟩ (g_reads l dC dI cI cJ cQ H.size hm vFo vSi vIt vMo la vBy vTy mi vMi pn vPs gn vGs fn vFt le vTo kn fe en ca an co vPr vSt vFn sn vSg vAl dr qTy qBy qMi qPs qGs (hh0) (hh1) (hh2)) (cwV 0 hts (kGV wd_298 wd_295 wd_296 wd_297 wd_5) rfl rfl rfl (by decide +kernel) ⟨Nat.le_of_ble_eq_true rfl, Nat.le_of_ble_eq_true rfl⟩) (k_preV11 (q0 := 0) hK hPc hDc hN rfl) rfl rfl hl.1 rfl (lv_room (Nat.le_of_ble_eq_true rfl)) dX12_sores_1 ⟨by decide +kernel, by decide +kernel⟩) hS (fun q _ h => hFc q h) hFc (fun u₀ t₀ H1 locs ht hvm hw hB hz1 hk1 hS => ?_)
  obtain ⟨g_2, ga_3, gl_4, gb_5, gp_6⟩ := u₀
  obtain ⟨hP1, hK1, hD1⟩ := hB
  rw [ht] at hP1
  have hJ := k_jn (wr := [(kAI vTo cI 96 qTo), (kAI vPr cI 2 qPr), (kAI vSt cI 2 qSt), (kAI vFn cI 2 qFn), (kAI vFt cI 32 qFt), (kAI vSg cI 16 qSg)]) (wt := [(kAI vTo cI 96 qTo), (kAI vPr cI 2 qPr), (kAI vSt cI 2 qSt), (kAI vFn cI 2 qFn), (kAI vFt cI 32 qFt), (kAI vSg cI 16 qSg), (kX12 hm vFo vSi vIt vMo la vBy vTy (g_2 0) vMi (g_2 1) vPs (g_2 2) vGs fn vFt le vTo kn fe en ca an co vPr vSt vFn sn vSg vAl dr), (kAI vTy cI 3 qTy), (kAI vBy cI 120 qBy), (kAI vMi cI 24 (ga_3 0)), (kAI vPs cI 32 (ga_3 1)), (kAI vGs cI 16 (ga_3 2))]) hP hD hC [6, 7, 8, 9, 10, 11] rfl (by decide +kernel) (by decide +kernel) hk1 hFc hP1 hD1 rfl
  clear hP hD hPc hDc hFc hC hP1 hD1 hK1 hz1 hk1 hvm ht
  obtain ⟨hP, hD⟩ := hJ
  generalize H1 = H at hP hS ⊢
  try dsimp only at hw
  obtain ⟨c_7, c_8, c_9, c_10, c_11, c_12, c_13, c_14, c_15, c_16⟩ := hw
  refine lv_aload_n hx₀ hb dX12_sores_4 rfl (lv_at hl 0 rfl) ?_
  refine lv_iload_n hx₀ hb dX12_sores_5 rfl (lv_at hl 1 rfl) ?_
  obtain ⟨hPc, hDc, hFc, hC⟩ := k_cw (wc := [(kX12 hm vFo vSi vIt vMo la vBy vTy (g_2 0) vMi (g_2 1) vPs (g_2 2) vGs fn vFt le vTo kn fe en ca an co vPr vSt vFn sn vSg vAl dr)]) hP hD hS hA [6] (by decide +kernel) rfl
  refine va_calli (va_runV (As := [.int p1]) (rest := []) ⟨hx₀, hb, hml, hown, hts⟩ (g_isPassenger l dC dI cI cJ cQ H.size hm p1 vFo vSi vIt vMo la vBy vTy (g_2 0) vMi (g_2 1) vPs (g_2 2) vGs fn vFt le vTo kn fe en ca an co vPr vSt vFn sn vSg vAl dr (c_8)) (cwV 1 hts (kGV wd_323 wd_320 wd_321 wd_322 wd_5) rfl rfl rfl (by decide +kernel) ⟨Nat.le_of_ble_eq_true rfl, Nat.le_of_ble_eq_true rfl⟩) (k_preV11 (q0 := 0) hK hPc hDc hN rfl) rfl rfl hl.1 rfl (lv_room (Nat.le_of_ble_eq_true rfl)) dX12_sores_6 ⟨by decide +kernel, by decide +kernel⟩) hS (fun q _ h => hFc q h) hFc (fun r_17 u₀ t₀ H1 locs ht hvm hw hB hz1 hk1 hS => ?_)
  obtain ⟨hP1, hK1, hD1⟩ := hB
  rw [ht] at hP1
  have hJ := k_jn (wr := [(kAI vTo cI 96 qTo), (kAI vPr cI 2 qPr), (kAI vSt cI 2 qSt), (kAI vFn cI 2 qFn), (kAI vFt cI 32 qFt), (kAI vSg cI 16 qSg), (kAI vTy cI 3 qTy), (kAI vBy cI 120 qBy), (kAI vMi cI 24 (ga_3 0)), (kAI vPs cI 32 (ga_3 1)), (kAI vGs cI 16 (ga_3 2))]) (wt := [(kAI vTo cI 96 qTo), (kAI vPr cI 2 qPr), (kAI vSt cI 2 qSt), (kAI vFn cI 2 qFn), (kAI vFt cI 32 qFt), (kAI vSg cI 16 qSg), (kAI vTy cI 3 qTy), (kAI vBy cI 120 qBy), (kAI vMi cI 24 (ga_3 0)), (kAI vPs cI 32 (ga_3 1)), (kAI vGs cI 16 (ga_3 2)), (kX12 hm vFo vSi vIt vMo la vBy vTy (g_2 0) vMi (g_2 1) vPs (g_2 2) vGs fn vFt le vTo kn fe en ca an co vPr vSt vFn sn vSg vAl dr)]) hP hD hC [0, 1, 2, 3, 4, 5, 7, 8, 9, 10, 11] rfl (by decide +kernel) (by decide +kernel) hk1 hFc hP1 hD1 rfl
  clear hP hD hPc hDc hFc hC hP1 hD1 hK1 hz1 hk1 hvm ht
  obtain ⟨hP, hD⟩ := hJ
  generalize H1 = H at hP hS ⊢
  try dsimp only at hw
  by_cases c_18 : 0 ≤ p1 ∧ p1 < (g_2 1)
  · rw [if_pos c_18] at hw
    refine k_topi (v := 1) hw ?_
    refine lv_if_eq (tgt := 20) hx₀ hb dX12_sores_9 (by decide) (fun c9 => absurd c9 (by decide +kernel)) (fun _ => ?_)
    refine lv_aload_n hx₀ hb dX12_sores_12 rfl (lv_at hl 0 rfl) ?_
    refine lv_iload_n hx₀ hb dX12_sores_13 rfl (lv_at hl 1 rfl) ?_
    obtain ⟨hPc, hDc, hFc, hC⟩ := k_cw (wc := [(kX12 hm vFo vSi vIt vMo la vBy vTy (g_2 0) vMi (g_2 1) vPs (g_2 2) vGs fn vFt le vTo kn fe en ca an co vPr vSt vFn sn vSg vAl dr), (kAI vMi cI 24 (ga_3 0)), (kAI vPs cI 32 (ga_3 1)), (kAI vGs cI 16 (ga_3 2)), (kAI vTo cI 96 qTo), (kAI vPr cI 2 qPr), (kAI vSt cI 2 qSt), (kAI vFn cI 2 qFn), (kAI vFt cI 32 qFt), (kAI vSg cI 16 qSg)]) hP hD hS hA [11, 8, 9, 10, 0, 1, 2, 3, 4, 5] (by decide +kernel) rfl
    refine va_calli (va_runV (As := [.int p1]) (rest := []) ⟨hx₀, hb, hml, hown, hts⟩ (g_soresOf l dC dI cI cJ cQ H.size hm p1 vFo vSi vIt vMo la vBy vTy (g_2 0) vMi (g_2 1) vPs (g_2 2) vGs fn vFt le vTo kn fe en ca an co vPr vSt vFn sn vSg vAl dr (ga_3 0) (ga_3 1) (ga_3 2) qTo qPr qSt qFn qFt qSg (c_7) (c_8) (c_9) (hh3) (hh4) (hh5) (hh6) (hh7) (hh8) (lf_g_sores_1 (g_2 1) p1 c_8 c_18)) (cwV 1 hts (kGV wd_721 wd_718 wd_719 wd_720 wd_5) rfl rfl rfl (by decide +kernel) ⟨Nat.le_of_ble_eq_true rfl, Nat.le_of_ble_eq_true rfl⟩) (k_preV11 (q0 := 0) hK hPc hDc hN rfl) rfl rfl hl.1 rfl (lv_room (Nat.le_of_ble_eq_true rfl)) dX12_sores_14 ⟨by decide +kernel, by decide +kernel⟩) hS (fun q _ h => hFc q h) hFc (fun r_19 u₀ t₀ H1 locs ht hvm hw hB hz1 hk1 hS => ?_)
    obtain ⟨g_20, ga_21, gl_22, gb_23, gp_24⟩ := u₀
    obtain ⟨hP1, hK1, hD1⟩ := hB
    rw [ht] at hP1
    have hJ := k_jn (wr := [(kAI vTy cI 3 qTy), (kAI vBy cI 120 qBy)]) (wt := [(kAI vTy cI 3 qTy), (kAI vBy cI 120 qBy), (kX12 hm vFo vSi vIt vMo la vBy vTy (g_2 0) vMi (g_2 1) vPs (g_2 2) vGs fn vFt le vTo (g_20 0) (g_20 1) (g_20 2) ca (g_20 3) (g_20 4) vPr vSt vFn sn vSg vAl dr), (kAI vMi cI 24 (ga_3 0)), (kAI vPs cI 32 (ga_21 4)), (kAI vGs cI 16 (ga_3 2)), (kAI vTo cI 96 (ga_21 0)), (kAI vPr cI 2 (ga_21 1)), (kAI vSt cI 2 (ga_21 2)), (kAI vFn cI 2 (ga_21 3)), (kAI vFt cI 32 qFt), (kAI vSg cI 16 qSg)]) hP hD hC [6, 7] rfl (by decide +kernel) (by decide +kernel) hk1 hFc hP1 hD1 rfl
    clear hP hD hPc hDc hFc hC hP1 hD1 hK1 hz1 hk1 hvm ht
    obtain ⟨hP, hD⟩ := hJ
    generalize H1 = H at hP hS ⊢
    try dsimp only at hw
    obtain ⟨c_25, c_26, c_27, c_28⟩ := hw
    refine lv_goto (tgt := 22) hx₀ hb dX12_sores_17 (by decide) ?_
    obtain ⟨hP9, hD9⟩ := k_c2 (wc := [(kX12 hm vFo vSi vIt vMo la vBy vTy (g_2 0) vMi (g_2 1) vPs (g_2 2) vGs fn vFt le vTo (g_20 0) (g_20 1) (g_20 2) ca (g_20 3) (g_20 4) vPr vSt vFn sn vSg vAl dr), (kAI vTy cI 3 qTy), (kAI vBy cI 120 qBy), (kAI vMi cI 24 (ga_3 0)), (kAI vPs cI 32 (ga_21 4)), (kAI vGs cI 16 (ga_3 2)), (kAI vTo cI 96 (ga_21 0)), (kAI vPr cI 2 (ga_21 1)), (kAI vSt cI 2 (ga_21 2)), (kAI vFn cI 2 (ga_21 3)), (kAI vFt cI 32 qFt), (kAI vSg cI 16 qSg)]) hP hD [2, 0, 1, 3, 4, 5, 6, 7, 8, 9, 10, 11] (by decide +kernel) rfl
    exact W.iret (v := r_19) hx₀ hb hr (fun t₀ ht hW => ⟨⟨r_19, (k_fn [(g_2 0), (g_2 1), (g_2 2), (g_20 0), (g_20 1), (g_20 2), (g_20 3), (g_20 4)], k_fa [(ga_3 0), ga_21 4, (ga_3 2), ga_21 0, ga_21 1, ga_21 2, ga_21 3], k_fl [], k_fL [], k_fp []), rfl, ⟨c_7, c_8, c_9, c_25, c_26, c_27, c_28⟩, by rw [ht]; exact hP9, va_K.moved hW.alike hK, hD9⟩, hS.F ht⟩) hS.2.2 dX12_sores_22
  rw [if_neg c_18] at hw
  refine k_topi (v := 0) hw ?_
  refine lv_if_eq (tgt := 20) hx₀ hb dX12_sores_9 (by decide) (fun _ => ?_) (fun c9 => absurd (by decide +kernel) c9)
  refine lv_bipush (v := (-2)) hx₀ hb dX12_sores_20 (by decide +kernel) ?_
  obtain ⟨hP9, hD9⟩ := k_c2 (wc := [(kX12 hm vFo vSi vIt vMo la vBy vTy (g_2 0) vMi (g_2 1) vPs (g_2 2) vGs fn vFt le vTo kn fe en ca an co vPr vSt vFn sn vSg vAl dr), (kAI vTy cI 3 qTy), (kAI vBy cI 120 qBy), (kAI vMi cI 24 (ga_3 0)), (kAI vPs cI 32 (ga_3 1)), (kAI vGs cI 16 (ga_3 2)), (kAI vTo cI 96 qTo), (kAI vPr cI 2 qPr), (kAI vSt cI 2 qSt), (kAI vFn cI 2 qFn), (kAI vFt cI 32 qFt), (kAI vSg cI 16 qSg)]) hP hD [11, 6, 7, 8, 9, 10, 0, 1, 2, 3, 4, 5] (by decide +kernel) rfl
  exact W.iret (v := (-2)) hx₀ hb hr (fun t₀ ht hW => ⟨⟨(-2), (k_fn [(g_2 0), (g_2 1), (g_2 2), kn, fe, en, an, co], k_fa [ga_3 0, ga_3 1, ga_3 2, qTo, qPr, qSt, qFn], k_fl [], k_fL [], k_fp []), rfl, ⟨c_7, c_8, c_9, hh3, hh4, hh5, hh6⟩, by rw [ht]; exact hP9, va_K.moved hW.alike hK, hD9⟩, hS.F ht⟩) hS.2.2 dX12_sores_22
set_option maxHeartbeats 4000000 in
set_option maxRecDepth 100000 in
theorem g_high (l : Launch) (dC : Nat → ClassId) (dI : Nat → Nat → Nat) (cI cJ cQ : ClassId) (sz : Nat) (hm : Nat) (f1 : Int32) (vFo : Nat) (vSi : Nat) (vIt : Nat) (vMo : Nat) (la : Int32) (vBy : Nat) (vTy : Nat) (mi : Int32) (vMi : Nat) (pn : Int32) (vPs : Nat) (gn : Int32) (vGs : Nat) (fn : Int32) (vFt : Nat) (le : Int32) (vTo : Nat) (kn : Int32) (fe : Int32) (en : Int32) (ca : Int32) (an : Int32) (co : Int32) (vPr : Nat) (vSt : Nat) (vFn : Nat) (sn : Int32) (vSg : Nat) (vAl : Nat) (dr : Int32) (qTy : Nat → Int32) (qBy : Nat → Int32) (qMi : Nat → Int32) (qPs : Nat → Int32) (qGs : Nat → Int32) (qTo : Nat → Int32) (qPr : Nat → Int32) (qSt : Nat → Int32) (qFn : Nat → Int32) (qFt : Nat → Int32) (qSg : Nat → Int32) (hh0 : 0 ≤ (qTy 0).toInt ∧ (qTy 0).toInt ≤ 24) (hh1 : 0 ≤ (qTy 1).toInt ∧ (qTy 1).toInt ≤ 39) (hh2 : 0 ≤ (qTy 2).toInt ∧ (qTy 2).toInt ≤ 23) (hh3 : k_bd 2 0 7 qPr) (hh4 : 0 ≤ fe ∧ fe ≤ 24) (hh5 : en = 0 ∨ kn = 0 ∨ fe ≤ 23) (hh6 : 0 ≤ kn ∧ kn ≤ 24) (hh7 : 0 ≤ fn ∧ fn ≤ 8) (hh8 : 0 ≤ sn ∧ sn ≤ 8) : Met l yX12_high (kW yX12_high cX12_high 2 (some .int)) { frames := 7, cells := 0, slots := 0, locals := 167 } (kPre dC dI cI cJ cQ sz [.ref hm, .int f1] [(kX12 hm vFo vSi vIt vMo la vBy vTy mi vMi pn vPs gn vGs fn vFt le vTo kn fe en ca an co vPr vSt vFn sn vSg vAl dr), (kAI vTy cI 3 qTy), (kAI vBy cI 120 qBy), (kAI vMi cI 24 qMi), (kAI vPs cI 32 qPs), (kAI vGs cI 16 qGs), (kAI vTo cI 96 qTo), (kAI vPr cI 2 qPr), (kAI vSt cI 2 qSt), (kAI vFn cI 2 qFn), (kAI vFt cI 32 qFt), (kAI vSg cI 16 qSg)]) (va_Qi (fun (r : Int32) (u : kS) => (0 ≤ (u.1 0) ∧ (u.1 0) ≤ 24) ∧ (0 ≤ (u.1 1) ∧ (u.1 1) ≤ 8) ∧ (0 ≤ (u.1 2) ∧ (u.1 2) ≤ 8) ∧ (k_bd 2 0 7 (u.2.1 4)) ∧ (0 ≤ (u.1 4) ∧ (u.1 4) ≤ 24) ∧ ((u.1 5) = 0 ∨ (u.1 3) = 0 ∨ (u.1 4) ≤ 23) ∧ (0 ≤ (u.1 3) ∧ (u.1 3) ≤ 24)) (fun (u : kS) t₀ => kB dC dI cI cJ cQ (va_A [(kX12 hm vFo vSi vIt vMo la vBy vTy mi vMi pn vPs gn vGs fn vFt le vTo kn fe en ca an co vPr vSt vFn sn vSg vAl dr), (kAI vTy cI 3 qTy), (kAI vBy cI 120 qBy), (kAI vMi cI 24 qMi), (kAI vPs cI 32 qPs), (kAI vGs cI 16 qGs), (kAI vTo cI 96 qTo), (kAI vPr cI 2 qPr), (kAI vSt cI 2 qSt), (kAI vFn cI 2 qFn), (kAI vFt cI 32 qFt), (kAI vSg cI 16 qSg)] sz) [(kX12 hm vFo vSi vIt vMo la vBy vTy (u.1 0) vMi (u.1 1) vPs (u.1 2) vGs fn vFt le vTo (u.1 3) (u.1 4) (u.1 5) ca (u.1 6) (u.1 7) vPr vSt vFn sn vSg vAl dr), (kAI vTy cI 3 qTy), (kAI vBy cI 120 qBy), (kAI vMi cI 24 (u.2.1 0)), (kAI vPs cI 32 (u.2.1 1)), (kAI vGs cI 16 (u.2.1 2)), (kAI vTo cI 96 (u.2.1 3)), (kAI vPr cI 2 (u.2.1 4)), (kAI vSt cI 2 (u.2.1 5)), (kAI vFn cI 2 (u.2.1 6)), (kAI vFt cI 32 qFt), (kAI vSg cI 16 qSg)] t₀) (va_A [(kX12 hm vFo vSi vIt vMo la vBy vTy mi vMi pn vPs gn vGs fn vFt le vTo kn fe en ca an co vPr vSt vFn sn vSg vAl dr), (kAI vTy cI 3 qTy), (kAI vBy cI 120 qBy), (kAI vMi cI 24 qMi), (kAI vPs cI 32 qPs), (kAI vGs cI 16 qGs), (kAI vTo cI 96 qTo), (kAI vPr cI 2 qPr), (kAI vSt cI 2 qSt), (kAI vFn cI 2 qFn), (kAI vFt cI 32 qFt), (kAI vSg cI 16 qSg)] sz)) 0 0 (va_A [(kX12 hm vFo vSi vIt vMo la vBy vTy mi vMi pn vPs gn vGs fn vFt le vTo kn fe en ca an co vPr vSt vFn sn vSg vAl dr), (kAI vTy cI 3 qTy), (kAI vBy cI 120 qBy), (kAI vMi cI 24 qMi), (kAI vPs cI 32 qPs), (kAI vGs cI 16 qGs), (kAI vTo cI 96 qTo), (kAI vPr cI 2 qPr), (kAI vSt cI 2 qSt), (kAI vFn cI 2 qFn), (kAI vFt cI 32 qFt), (kAI vSg cI 16 qSg)] sz) := by
  refine Met.ofW (cc := cX12_high) (maxL := 2) (ret := (some .int)) (by decide) rfl ?_
  intro p₀ e₀ s₀ m₀ args below meth c₀ s₁ B hml hv₀
  obtain ⟨rfl, hsz, hP, hK, hD0, hN⟩ := hv₀
  have hx₀ := B.exec
  have hb := B.bytes
  have hr := B.returns
  have hts := atoms_spec (ws := (kW yX12_high cX12_high 2 (some .int))) B.pre
  have hts := fun w h => hts w (List.mem_cons_of_mem _ h)
  have hown : s₀.vm.findClass RX12 = some m₀.cls := findClass_of_methodNamed B.named
  have hlocks := B.notSynchronized
  subst hsz
  have hD := hD0.self (sz := s₀.heap.size)
  generalize hAe : va_A [(kX12 hm vFo vSi vIt vMo la vBy vTy mi vMi pn vPs gn vGs fn vFt le vTo kn fe en ca an co vPr vSt vFn sn vSg vAl dr), (kAI vTy cI 3 qTy), (kAI vBy cI 120 qBy), (kAI vMi cI 24 qMi), (kAI vPs cI 32 qPs), (kAI vGs cI 16 qGs), (kAI vTo cI 96 qTo), (kAI vPr cI 2 qPr), (kAI vSt cI 2 qSt), (kAI vFn cI 2 qFn), (kAI vFt cI 32 qFt), (kAI vSg cI 16 qSg)] s₀.heap.size = A at hD ⊢
  have hA : ∀ q : Nat, s₀.heap.size ≤ q → A q := fun q h => by rw [← hAe]; exact Or.inr h
  have hS : va_S A s₀.heap s₀.heap [] := va_S.rf
  have hP : va_P (dC, dI) vwCl [(kX12 hm vFo vSi vIt vMo la vBy vTy mi vMi pn vPs gn vGs fn vFt le vTo kn fe en ca an co vPr vSt vFn sn vSg vAl dr), (kAI vTy cI 3 qTy), (kAI vBy cI 120 qBy), (kAI vMi cI 24 qMi), (kAI vPs cI 32 qPs), (kAI vGs cI 16 qGs), (kAI vTo cI 96 qTo), (kAI vPr cI 2 qPr), (kAI vSt cI 2 qSt), (kAI vFn cI 2 qFn), (kAI vFt cI 32 qFt), (kAI vSg cI 16 qSg)] s₀.heap := hP
  have hl := lv_entry ([.ref hm, .int f1]) (n := 2) (Nat.le_of_ble_eq_true rfl)
  rw [lg_entry_eq]
  generalize (lg_sl ([.ref hm, .int f1]) ++ List.replicate (2 - (lg_sl ([.ref hm, .int f1])).length) Slot.unset).toArray = ls at hl ⊢
  have hl : lv_has ls 2 [(0, .ref hm), (1, .int f1)] := hl
  obtain ⟨H, hH⟩ : ∃ z : Heap, z = s₀.heap := ⟨_, rfl⟩
  rw [← hH] at hP
  have hS : va_S A s₀.heap H [] := by rw [hH]; exact hS
  refine k_heap hH ?_
  have hD : va_D A [(kX12 hm vFo vSi vIt vMo la vBy vTy mi vMi pn vPs gn vGs fn vFt le vTo kn fe en ca an co vPr vSt vFn sn vSg vAl dr), (kAI vTy cI 3 qTy), (kAI vBy cI 120 qBy), (kAI vMi cI 24 qMi), (kAI vPs cI 32 qPs), (kAI vGs cI 16 qGs), (kAI vTo cI 96 qTo), (kAI vPr cI 2 qPr), (kAI vSt cI 2 qSt), (kAI vFn cI 2 qFn), (kAI vFt cI 32 qFt), (kAI vSg cI 16 qSg)] := hD
  obtain ⟨locs, hlo⟩ : ∃ z : List Loc, z = [] := ⟨_, rfl⟩
  rw [← hlo] at hS ⊢
  clear hlo hH hAe hD0
  refine lv_aload_n hx₀ hb dX12_high_0 rfl (lv_at hl 0 rfl) ?_
  obtain ⟨hPc, hDc, hFc, hC⟩ := k_cw (wc := [(kX12 hm vFo vSi vIt vMo la vBy vTy mi vMi pn vPs gn vGs fn vFt le vTo kn fe en ca an co vPr vSt vFn sn vSg vAl dr), (kAI vTy cI 3 qTy), (kAI vBy cI 120 qBy), (kAI vMi cI 24 qMi), (kAI vPs cI 32 qPs), (kAI vGs cI 16 qGs)]) hP hD hS hA [0, 1, 2, 3, 4, 5] (by decide +kernel) rfl
  refine va_callv (va_runV (As := []) (rest := []) ⟨hx₀, hb, hml, hown, hts⟩ (g_reads l dC dI cI cJ cQ H.size hm vFo vSi vIt vMo la vBy vTy mi vMi pn vPs gn vGs fn vFt le vTo kn fe en ca an co vPr vSt vFn sn vSg vAl dr qTy qBy qMi qPs qGs (hh0) (hh1) (hh2)) (cwV 0 hts (kGV wd_298 wd_295 wd_296 wd_297 wd_5) rfl rfl rfl (by decide +kernel) ⟨Nat.le_of_ble_eq_true rfl, Nat.le_of_ble_eq_true rfl⟩) (k_preV11 (q0 := 0) hK hPc hDc hN rfl) rfl rfl hl.1 rfl (lv_room (Nat.le_of_ble_eq_true rfl)) dX12_high_1 ⟨by decide +kernel, by decide +kernel⟩) hS (fun q _ h => hFc q h) hFc (fun u₀ t₀ H1 locs ht hvm hw hB hz1 hk1 hS => ?_)
  obtain ⟨g_2, ga_3, gl_4, gb_5, gp_6⟩ := u₀
  obtain ⟨hP1, hK1, hD1⟩ := hB
  rw [ht] at hP1
  have hJ := k_jn (wr := [(kAI vTo cI 96 qTo), (kAI vPr cI 2 qPr), (kAI vSt cI 2 qSt), (kAI vFn cI 2 qFn), (kAI vFt cI 32 qFt), (kAI vSg cI 16 qSg)]) (wt := [(kAI vTo cI 96 qTo), (kAI vPr cI 2 qPr), (kAI vSt cI 2 qSt), (kAI vFn cI 2 qFn), (kAI vFt cI 32 qFt), (kAI vSg cI 16 qSg), (kX12 hm vFo vSi vIt vMo la vBy vTy (g_2 0) vMi (g_2 1) vPs (g_2 2) vGs fn vFt le vTo kn fe en ca an co vPr vSt vFn sn vSg vAl dr), (kAI vTy cI 3 qTy), (kAI vBy cI 120 qBy), (kAI vMi cI 24 (ga_3 0)), (kAI vPs cI 32 (ga_3 1)), (kAI vGs cI 16 (ga_3 2))]) hP hD hC [6, 7, 8, 9, 10, 11] rfl (by decide +kernel) (by decide +kernel) hk1 hFc hP1 hD1 rfl
  clear hP hD hPc hDc hFc hC hP1 hD1 hK1 hz1 hk1 hvm ht
  obtain ⟨hP, hD⟩ := hJ
  generalize H1 = H at hP hS ⊢
  try dsimp only at hw
  obtain ⟨c_7, c_8, c_9, c_10, c_11, c_12, c_13, c_14, c_15, c_16⟩ := hw
  refine lv_aload_n hx₀ hb dX12_high_4 rfl (lv_at hl 0 rfl) ?_
  refine lv_iload_n hx₀ hb dX12_high_5 rfl (lv_at hl 1 rfl) ?_
  obtain ⟨hPc, hDc, hFc, hC⟩ := k_cw (wc := [(kX12 hm vFo vSi vIt vMo la vBy vTy (g_2 0) vMi (g_2 1) vPs (g_2 2) vGs fn vFt le vTo kn fe en ca an co vPr vSt vFn sn vSg vAl dr)]) hP hD hS hA [6] (by decide +kernel) rfl
  refine va_calli (va_runV (As := [.int f1]) (rest := []) ⟨hx₀, hb, hml, hown, hts⟩ (g_isFlight l dC dI cI cJ cQ H.size hm f1 vFo vSi vIt vMo la vBy vTy (g_2 0) vMi (g_2 1) vPs (g_2 2) vGs fn vFt le vTo kn fe en ca an co vPr vSt vFn sn vSg vAl dr (hh7)) (cwV 1 hts (kGV wd_528 wd_525 wd_526 wd_527 wd_5) rfl rfl rfl (by decide +kernel) ⟨Nat.le_of_ble_eq_true rfl, Nat.le_of_ble_eq_true rfl⟩) (k_preV11 (q0 := 0) hK hPc hDc hN rfl) rfl rfl hl.1 rfl (lv_room (Nat.le_of_ble_eq_true rfl)) dX12_high_6 ⟨by decide +kernel, by decide +kernel⟩) hS (fun q _ h => hFc q h) hFc (fun r_17 u₀ t₀ H1 locs ht hvm hw hB hz1 hk1 hS => ?_)
  obtain ⟨hP1, hK1, hD1⟩ := hB
  rw [ht] at hP1
  have hJ := k_jn (wr := [(kAI vTo cI 96 qTo), (kAI vPr cI 2 qPr), (kAI vSt cI 2 qSt), (kAI vFn cI 2 qFn), (kAI vFt cI 32 qFt), (kAI vSg cI 16 qSg), (kAI vTy cI 3 qTy), (kAI vBy cI 120 qBy), (kAI vMi cI 24 (ga_3 0)), (kAI vPs cI 32 (ga_3 1)), (kAI vGs cI 16 (ga_3 2))]) (wt := [(kAI vTo cI 96 qTo), (kAI vPr cI 2 qPr), (kAI vSt cI 2 qSt), (kAI vFn cI 2 qFn), (kAI vFt cI 32 qFt), (kAI vSg cI 16 qSg), (kAI vTy cI 3 qTy), (kAI vBy cI 120 qBy), (kAI vMi cI 24 (ga_3 0)), (kAI vPs cI 32 (ga_3 1)), (kAI vGs cI 16 (ga_3 2)), (kX12 hm vFo vSi vIt vMo la vBy vTy (g_2 0) vMi (g_2 1) vPs (g_2 2) vGs fn vFt le vTo kn fe en ca an co vPr vSt vFn sn vSg vAl dr)]) hP hD hC [0, 1, 2, 3, 4, 5, 7, 8, 9, 10, 11] rfl (by decide +kernel) (by decide +kernel) hk1 hFc hP1 hD1 rfl
  clear hP hD hPc hDc hFc hC hP1 hD1 hK1 hz1 hk1 hvm ht
  obtain ⟨hP, hD⟩ := hJ
  generalize H1 = H at hP hS ⊢
  try dsimp only at hw
  by_cases c_18 : 0 ≤ f1 ∧ f1 < fn
  · rw [if_pos c_18] at hw
    refine k_topi (v := 1) hw ?_
    refine lv_if_eq (tgt := 20) hx₀ hb dX12_high_9 (by decide) (fun c9 => absurd c9 (by decide +kernel)) (fun _ => ?_)
    refine lv_aload_n hx₀ hb dX12_high_12 rfl (lv_at hl 0 rfl) ?_
    refine lv_iload_n hx₀ hb dX12_high_13 rfl (lv_at hl 1 rfl) ?_
    obtain ⟨hPc, hDc, hFc, hC⟩ := k_cw (wc := [(kX12 hm vFo vSi vIt vMo la vBy vTy (g_2 0) vMi (g_2 1) vPs (g_2 2) vGs fn vFt le vTo kn fe en ca an co vPr vSt vFn sn vSg vAl dr), (kAI vMi cI 24 (ga_3 0)), (kAI vPs cI 32 (ga_3 1)), (kAI vGs cI 16 (ga_3 2)), (kAI vTo cI 96 qTo), (kAI vPr cI 2 qPr), (kAI vSt cI 2 qSt), (kAI vFn cI 2 qFn), (kAI vFt cI 32 qFt), (kAI vSg cI 16 qSg)]) hP hD hS hA [11, 8, 9, 10, 0, 1, 2, 3, 4, 5] (by decide +kernel) rfl
    refine va_calli (va_runV (As := [.int f1]) (rest := []) ⟨hx₀, hb, hml, hown, hts⟩ (g_highOf l dC dI cI cJ cQ H.size hm f1 vFo vSi vIt vMo la vBy vTy (g_2 0) vMi (g_2 1) vPs (g_2 2) vGs fn vFt le vTo kn fe en ca an co vPr vSt vFn sn vSg vAl dr (ga_3 0) (ga_3 1) (ga_3 2) qTo qPr qSt qFn qFt qSg (c_7) (c_8) (c_9) (hh3) (hh4) (hh5) (hh6) (hh7) (hh8) (lf_g_flies_3 fn f1 hh7 c_18)) (cwV 1 hts (kGV wd_737 wd_734 wd_735 wd_736 wd_5) rfl rfl rfl (by decide +kernel) ⟨Nat.le_of_ble_eq_true rfl, Nat.le_of_ble_eq_true rfl⟩) (k_preV11 (q0 := 0) hK hPc hDc hN rfl) rfl rfl hl.1 rfl (lv_room (Nat.le_of_ble_eq_true rfl)) dX12_high_14 ⟨by decide +kernel, by decide +kernel⟩) hS (fun q _ h => hFc q h) hFc (fun r_19 u₀ t₀ H1 locs ht hvm hw hB hz1 hk1 hS => ?_)
    obtain ⟨g_20, ga_21, gl_22, gb_23, gp_24⟩ := u₀
    obtain ⟨hP1, hK1, hD1⟩ := hB
    rw [ht] at hP1
    have hJ := k_jn (wr := [(kAI vTy cI 3 qTy), (kAI vBy cI 120 qBy)]) (wt := [(kAI vTy cI 3 qTy), (kAI vBy cI 120 qBy), (kX12 hm vFo vSi vIt vMo la vBy vTy (g_2 0) vMi (g_2 1) vPs (g_2 2) vGs fn vFt le vTo (g_20 0) (g_20 1) (g_20 2) ca (g_20 3) (g_20 4) vPr vSt vFn sn vSg vAl dr), (kAI vMi cI 24 (ga_3 0)), (kAI vPs cI 32 (ga_3 1)), (kAI vGs cI 16 (ga_3 2)), (kAI vTo cI 96 (ga_21 0)), (kAI vPr cI 2 (ga_21 1)), (kAI vSt cI 2 (ga_21 2)), (kAI vFn cI 2 (ga_21 3)), (kAI vFt cI 32 (ga_21 4)), (kAI vSg cI 16 qSg)]) hP hD hC [6, 7] rfl (by decide +kernel) (by decide +kernel) hk1 hFc hP1 hD1 rfl
    clear hP hD hPc hDc hFc hC hP1 hD1 hK1 hz1 hk1 hvm ht
    obtain ⟨hP, hD⟩ := hJ
    generalize H1 = H at hP hS ⊢
    try dsimp only at hw
    obtain ⟨c_25, c_26, c_27, c_28, c_29⟩ := hw
    rw [c_29] at hP hD
    replace hP := k_w2 (wt := [(kAI vTy cI 3 qTy), (kAI vBy cI 120 qBy), (kX12 hm vFo vSi vIt vMo la vBy vTy (g_2 0) vMi (g_2 1) vPs (g_2 2) vGs fn vFt le vTo (g_20 0) (g_20 1) (g_20 2) ca (g_20 3) (g_20 4) vPr vSt vFn sn vSg vAl dr), (kAI vMi cI 24 (ga_3 0)), (kAI vPs cI 32 (ga_3 1)), (kAI vGs cI 16 (ga_3 2)), (kAI vTo cI 96 (ga_21 0)), (kAI vPr cI 2 (ga_21 1)), (kAI vSt cI 2 (ga_21 2)), (kAI vFn cI 2 (ga_21 3)), (kAI vFt cI 32 qFt), (kAI vSg cI 16 qSg)]) hP hD rfl
    replace hD := hP.2
    replace hP := hP.1
    refine lv_goto (tgt := 22) hx₀ hb dX12_high_17 (by decide) ?_
    obtain ⟨hP9, hD9⟩ := k_c2 (wc := [(kX12 hm vFo vSi vIt vMo la vBy vTy (g_2 0) vMi (g_2 1) vPs (g_2 2) vGs fn vFt le vTo (g_20 0) (g_20 1) (g_20 2) ca (g_20 3) (g_20 4) vPr vSt vFn sn vSg vAl dr), (kAI vTy cI 3 qTy), (kAI vBy cI 120 qBy), (kAI vMi cI 24 (ga_3 0)), (kAI vPs cI 32 (ga_3 1)), (kAI vGs cI 16 (ga_3 2)), (kAI vTo cI 96 (ga_21 0)), (kAI vPr cI 2 (ga_21 1)), (kAI vSt cI 2 (ga_21 2)), (kAI vFn cI 2 (ga_21 3)), (kAI vFt cI 32 qFt), (kAI vSg cI 16 qSg)]) hP hD [2, 0, 1, 3, 4, 5, 6, 7, 8, 9, 10, 11] (by decide +kernel) rfl
    exact W.iret (v := r_19) hx₀ hb hr (fun t₀ ht hW => ⟨⟨r_19, (k_fn [(g_2 0), (g_2 1), (g_2 2), (g_20 0), (g_20 1), (g_20 2), (g_20 3), (g_20 4)], k_fa [(ga_3 0), (ga_3 1), (ga_3 2), ga_21 0, ga_21 1, ga_21 2, ga_21 3], k_fl [], k_fL [], k_fp []), rfl, ⟨c_7, c_8, c_9, c_25, c_26, c_27, c_28⟩, by rw [ht]; exact hP9, va_K.moved hW.alike hK, hD9⟩, hS.F ht⟩) hS.2.2 dX12_high_22
  rw [if_neg c_18] at hw
  refine k_topi (v := 0) hw ?_
  refine lv_if_eq (tgt := 20) hx₀ hb dX12_high_9 (by decide) (fun _ => ?_) (fun c9 => absurd (by decide +kernel) c9)
  refine lv_bipush (v := (-2)) hx₀ hb dX12_high_20 (by decide +kernel) ?_
  obtain ⟨hP9, hD9⟩ := k_c2 (wc := [(kX12 hm vFo vSi vIt vMo la vBy vTy (g_2 0) vMi (g_2 1) vPs (g_2 2) vGs fn vFt le vTo kn fe en ca an co vPr vSt vFn sn vSg vAl dr), (kAI vTy cI 3 qTy), (kAI vBy cI 120 qBy), (kAI vMi cI 24 (ga_3 0)), (kAI vPs cI 32 (ga_3 1)), (kAI vGs cI 16 (ga_3 2)), (kAI vTo cI 96 qTo), (kAI vPr cI 2 qPr), (kAI vSt cI 2 qSt), (kAI vFn cI 2 qFn), (kAI vFt cI 32 qFt), (kAI vSg cI 16 qSg)]) hP hD [11, 6, 7, 8, 9, 10, 0, 1, 2, 3, 4, 5] (by decide +kernel) rfl
  exact W.iret (v := (-2)) hx₀ hb hr (fun t₀ ht hW => ⟨⟨(-2), (k_fn [(g_2 0), (g_2 1), (g_2 2), kn, fe, en, an, co], k_fa [ga_3 0, ga_3 1, ga_3 2, qTo, qPr, qSt, qFn], k_fl [], k_fL [], k_fp []), rfl, ⟨c_7, c_8, c_9, hh3, hh4, hh5, hh6⟩, by rw [ht]; exact hP9, va_K.moved hW.alike hK, hD9⟩, hS.F ht⟩) hS.2.2 dX12_high_22
set_option maxHeartbeats 4000000 in
set_option maxRecDepth 100000 in
theorem g_ask (l : Launch) (dC : Nat → ClassId) (dI : Nat → Nat → Nat) (cI cJ cQ : ClassId) (sz : Nat) (hm : Nat) (p1 : Int32) (vFo : Nat) (vSi : Nat) (vIt : Nat) (vMo : Nat) (la : Int32) (vBy : Nat) (vTy : Nat) (mi : Int32) (vMi : Nat) (pn : Int32) (vPs : Nat) (gn : Int32) (vGs : Nat) (fn : Int32) (vFt : Nat) (le : Int32) (vTo : Nat) (kn : Int32) (fe : Int32) (en : Int32) (ca : Int32) (an : Int32) (co : Int32) (vPr : Nat) (vSt : Nat) (vFn : Nat) (sn : Int32) (vSg : Nat) (vAl : Nat) (dr : Int32) (qTy : Nat → Int32) (qBy : Nat → Int32) (qMi : Nat → Int32) (qPs : Nat → Int32) (qGs : Nat → Int32) (qTo : Nat → Int32) (qPr : Nat → Int32) (qSt : Nat → Int32) (qFn : Nat → Int32) (qFt : Nat → Int32) (qSg : Nat → Int32) (qAl : Nat → Int32) (hh0 : 0 ≤ (qTy 0).toInt ∧ (qTy 0).toInt ≤ 24) (hh1 : 0 ≤ (qTy 1).toInt ∧ (qTy 1).toInt ≤ 39) (hh2 : 0 ≤ (qTy 2).toInt ∧ (qTy 2).toInt ≤ 23) (hh3 : k_bd 2 0 7 qPr) (hh4 : 0 ≤ fe ∧ fe ≤ 24) (hh5 : en = 0 ∨ kn = 0 ∨ fe ≤ 23) (hh6 : 0 ≤ kn ∧ kn ≤ 24) (hh7 : 0 ≤ fn ∧ fn ≤ 8) (hh8 : 0 ≤ sn ∧ sn ≤ 8) : Met l yX12_ask (kW yX12_ask cX12_ask 2 (some .int)) { frames := 8, cells := 0, slots := 0, locals := 194 } (kPre dC dI cI cJ cQ sz [.ref hm, .int p1] [(kX12 hm vFo vSi vIt vMo la vBy vTy mi vMi pn vPs gn vGs fn vFt le vTo kn fe en ca an co vPr vSt vFn sn vSg vAl dr), (kAI vTy cI 3 qTy), (kAI vBy cI 120 qBy), (kAI vMi cI 24 qMi), (kAI vPs cI 32 qPs), (kAI vGs cI 16 qGs), (kAI vTo cI 96 qTo), (kAI vPr cI 2 qPr), (kAI vSt cI 2 qSt), (kAI vFn cI 2 qFn), (kAI vFt cI 32 qFt), (kAI vSg cI 16 qSg), (kAI vAl cI 25 qAl)]) (va_Qi (fun (r : Int32) (u : kS) => (0 ≤ (u.1 0) ∧ (u.1 0) ≤ 24) ∧ (0 ≤ (u.1 1) ∧ (u.1 1) ≤ 8) ∧ (0 ≤ (u.1 2) ∧ (u.1 2) ≤ 8) ∧ (k_bd 2 0 7 (u.2.1 4)) ∧ (0 ≤ (u.1 4) ∧ (u.1 4) ≤ 24) ∧ ((u.1 5) = 0 ∨ (u.1 3) = 0 ∨ (u.1 4) ≤ 23) ∧ (0 ≤ (u.1 3) ∧ (u.1 3) ≤ 24)) (fun (u : kS) t₀ => kB dC dI cI cJ cQ (va_A [(kX12 hm vFo vSi vIt vMo la vBy vTy mi vMi pn vPs gn vGs fn vFt le vTo kn fe en ca an co vPr vSt vFn sn vSg vAl dr), (kAI vTy cI 3 qTy), (kAI vBy cI 120 qBy), (kAI vMi cI 24 qMi), (kAI vPs cI 32 qPs), (kAI vGs cI 16 qGs), (kAI vTo cI 96 qTo), (kAI vPr cI 2 qPr), (kAI vSt cI 2 qSt), (kAI vFn cI 2 qFn), (kAI vFt cI 32 qFt), (kAI vSg cI 16 qSg), (kAI vAl cI 25 qAl)] sz) [(kX12 hm vFo vSi vIt vMo la vBy vTy (u.1 0) vMi (u.1 1) vPs (u.1 2) vGs fn vFt le vTo (u.1 3) (u.1 4) (u.1 5) ca (u.1 6) (u.1 7) vPr vSt vFn sn vSg vAl dr), (kAI vTy cI 3 qTy), (kAI vBy cI 120 qBy), (kAI vMi cI 24 (u.2.1 0)), (kAI vPs cI 32 (u.2.1 1)), (kAI vGs cI 16 (u.2.1 2)), (kAI vTo cI 96 (u.2.1 3)), (kAI vPr cI 2 (u.2.1 4)), (kAI vSt cI 2 (u.2.1 5)), (kAI vFn cI 2 (u.2.1 6)), (kAI vFt cI 32 qFt), (kAI vSg cI 16 qSg), (kAI vAl cI 25 (u.2.1 7))] t₀) (va_A [(kX12 hm vFo vSi vIt vMo la vBy vTy mi vMi pn vPs gn vGs fn vFt le vTo kn fe en ca an co vPr vSt vFn sn vSg vAl dr), (kAI vTy cI 3 qTy), (kAI vBy cI 120 qBy), (kAI vMi cI 24 qMi), (kAI vPs cI 32 qPs), (kAI vGs cI 16 qGs), (kAI vTo cI 96 qTo), (kAI vPr cI 2 qPr), (kAI vSt cI 2 qSt), (kAI vFn cI 2 qFn), (kAI vFt cI 32 qFt), (kAI vSg cI 16 qSg), (kAI vAl cI 25 qAl)] sz)) 0 0 (va_A [(kX12 hm vFo vSi vIt vMo la vBy vTy mi vMi pn vPs gn vGs fn vFt le vTo kn fe en ca an co vPr vSt vFn sn vSg vAl dr), (kAI vTy cI 3 qTy), (kAI vBy cI 120 qBy), (kAI vMi cI 24 qMi), (kAI vPs cI 32 qPs), (kAI vGs cI 16 qGs), (kAI vTo cI 96 qTo), (kAI vPr cI 2 qPr), (kAI vSt cI 2 qSt), (kAI vFn cI 2 qFn), (kAI vFt cI 32 qFt), (kAI vSg cI 16 qSg), (kAI vAl cI 25 qAl)] sz) := by
  refine Met.ofW (cc := cX12_ask) (maxL := 2) (ret := (some .int)) (by decide) rfl ?_
  intro p₀ e₀ s₀ m₀ args below meth c₀ s₁ B hml hv₀
  obtain ⟨rfl, hsz, hP, hK, hD0, hN⟩ := hv₀
  have hx₀ := B.exec
  have hb := B.bytes
  have hr := B.returns
  have hts := atoms_spec (ws := (kW yX12_ask cX12_ask 2 (some .int))) B.pre
  have hts := fun w h => hts w (List.mem_cons_of_mem _ h)
  have hown : s₀.vm.findClass RX12 = some m₀.cls := findClass_of_methodNamed B.named
  have hlocks := B.notSynchronized
  subst hsz
  have hD := hD0.self (sz := s₀.heap.size)
  generalize hAe : va_A [(kX12 hm vFo vSi vIt vMo la vBy vTy mi vMi pn vPs gn vGs fn vFt le vTo kn fe en ca an co vPr vSt vFn sn vSg vAl dr), (kAI vTy cI 3 qTy), (kAI vBy cI 120 qBy), (kAI vMi cI 24 qMi), (kAI vPs cI 32 qPs), (kAI vGs cI 16 qGs), (kAI vTo cI 96 qTo), (kAI vPr cI 2 qPr), (kAI vSt cI 2 qSt), (kAI vFn cI 2 qFn), (kAI vFt cI 32 qFt), (kAI vSg cI 16 qSg), (kAI vAl cI 25 qAl)] s₀.heap.size = A at hD ⊢
  have hA : ∀ q : Nat, s₀.heap.size ≤ q → A q := fun q h => by rw [← hAe]; exact Or.inr h
  have hS : va_S A s₀.heap s₀.heap [] := va_S.rf
  have hP : va_P (dC, dI) vwCl [(kX12 hm vFo vSi vIt vMo la vBy vTy mi vMi pn vPs gn vGs fn vFt le vTo kn fe en ca an co vPr vSt vFn sn vSg vAl dr), (kAI vTy cI 3 qTy), (kAI vBy cI 120 qBy), (kAI vMi cI 24 qMi), (kAI vPs cI 32 qPs), (kAI vGs cI 16 qGs), (kAI vTo cI 96 qTo), (kAI vPr cI 2 qPr), (kAI vSt cI 2 qSt), (kAI vFn cI 2 qFn), (kAI vFt cI 32 qFt), (kAI vSg cI 16 qSg), (kAI vAl cI 25 qAl)] s₀.heap := hP
  have hl := lv_entry ([.ref hm, .int p1]) (n := 2) (Nat.le_of_ble_eq_true rfl)
  rw [lg_entry_eq]
  generalize (lg_sl ([.ref hm, .int p1]) ++ List.replicate (2 - (lg_sl ([.ref hm, .int p1])).length) Slot.unset).toArray = ls at hl ⊢
  have hl : lv_has ls 2 [(0, .ref hm), (1, .int p1)] := hl
  obtain ⟨H, hH⟩ : ∃ z : Heap, z = s₀.heap := ⟨_, rfl⟩
  rw [← hH] at hP
  have hS : va_S A s₀.heap H [] := by rw [hH]; exact hS
  refine k_heap hH ?_
  have hD : va_D A [(kX12 hm vFo vSi vIt vMo la vBy vTy mi vMi pn vPs gn vGs fn vFt le vTo kn fe en ca an co vPr vSt vFn sn vSg vAl dr), (kAI vTy cI 3 qTy), (kAI vBy cI 120 qBy), (kAI vMi cI 24 qMi), (kAI vPs cI 32 qPs), (kAI vGs cI 16 qGs), (kAI vTo cI 96 qTo), (kAI vPr cI 2 qPr), (kAI vSt cI 2 qSt), (kAI vFn cI 2 qFn), (kAI vFt cI 32 qFt), (kAI vSg cI 16 qSg), (kAI vAl cI 25 qAl)] := hD
  obtain ⟨locs, hlo⟩ : ∃ z : List Loc, z = [] := ⟨_, rfl⟩
  rw [← hlo] at hS ⊢
  clear hlo hH hAe hD0
  refine lv_aload_n hx₀ hb dX12_ask_0 rfl (lv_at hl 0 rfl) ?_
  obtain ⟨hPc, hDc, hFc, hC⟩ := k_cw (wc := [(kX12 hm vFo vSi vIt vMo la vBy vTy mi vMi pn vPs gn vGs fn vFt le vTo kn fe en ca an co vPr vSt vFn sn vSg vAl dr), (kAI vTy cI 3 qTy), (kAI vBy cI 120 qBy), (kAI vMi cI 24 qMi), (kAI vPs cI 32 qPs), (kAI vGs cI 16 qGs)]) hP hD hS hA [0, 1, 2, 3, 4, 5] (by decide +kernel) rfl
  refine va_callv (va_runV (As := []) (rest := []) ⟨hx₀, hb, hml, hown, hts⟩ (g_reads l dC dI cI cJ cQ H.size hm vFo vSi vIt vMo la vBy vTy mi vMi pn vPs gn vGs fn vFt le vTo kn fe en ca an co vPr vSt vFn sn vSg vAl dr qTy qBy qMi qPs qGs (hh0) (hh1) (hh2)) (cwV 0 hts (kGV wd_298 wd_295 wd_296 wd_297 wd_5) rfl rfl rfl (by decide +kernel) ⟨Nat.le_of_ble_eq_true rfl, Nat.le_of_ble_eq_true rfl⟩) (k_preV11 (q0 := 0) hK hPc hDc hN rfl) rfl rfl hl.1 rfl (lv_room (Nat.le_of_ble_eq_true rfl)) dX12_ask_1 ⟨by decide +kernel, by decide +kernel⟩) hS (fun q _ h => hFc q h) hFc (fun u₀ t₀ H1 locs ht hvm hw hB hz1 hk1 hS => ?_)
  obtain ⟨g_2, ga_3, gl_4, gb_5, gp_6⟩ := u₀
  obtain ⟨hP1, hK1, hD1⟩ := hB
  rw [ht] at hP1
  have hJ := k_jn (wr := [(kAI vTo cI 96 qTo), (kAI vPr cI 2 qPr), (kAI vSt cI 2 qSt), (kAI vFn cI 2 qFn), (kAI vFt cI 32 qFt), (kAI vSg cI 16 qSg), (kAI vAl cI 25 qAl)]) (wt := [(kAI vTo cI 96 qTo), (kAI vPr cI 2 qPr), (kAI vSt cI 2 qSt), (kAI vFn cI 2 qFn), (kAI vFt cI 32 qFt), (kAI vSg cI 16 qSg), (kAI vAl cI 25 qAl), (kX12 hm vFo vSi vIt vMo la vBy vTy (g_2 0) vMi (g_2 1) vPs (g_2 2) vGs fn vFt le vTo kn fe en ca an co vPr vSt vFn sn vSg vAl dr), (kAI vTy cI 3 qTy), (kAI vBy cI 120 qBy), (kAI vMi cI 24 (ga_3 0)), (kAI vPs cI 32 (ga_3 1)), (kAI vGs cI 16 (ga_3 2))]) hP hD hC [6, 7, 8, 9, 10, 11, 12] rfl (by decide +kernel) (by decide +kernel) hk1 hFc hP1 hD1 rfl
  clear hP hD hPc hDc hFc hC hP1 hD1 hK1 hz1 hk1 hvm ht
  obtain ⟨hP, hD⟩ := hJ
  generalize H1 = H at hP hS ⊢
  try dsimp only at hw
  obtain ⟨c_7, c_8, c_9, c_10, c_11, c_12, c_13, c_14, c_15, c_16⟩ := hw
  refine lv_aload_n hx₀ hb dX12_ask_4 rfl (lv_at hl 0 rfl) ?_
  refine lv_iload_n hx₀ hb dX12_ask_5 rfl (lv_at hl 1 rfl) ?_
  obtain ⟨hPc, hDc, hFc, hC⟩ := k_cw (wc := [(kX12 hm vFo vSi vIt vMo la vBy vTy (g_2 0) vMi (g_2 1) vPs (g_2 2) vGs fn vFt le vTo kn fe en ca an co vPr vSt vFn sn vSg vAl dr)]) hP hD hS hA [7] (by decide +kernel) rfl
  refine va_calli (va_runV (As := [.int p1]) (rest := []) ⟨hx₀, hb, hml, hown, hts⟩ (g_isPassenger l dC dI cI cJ cQ H.size hm p1 vFo vSi vIt vMo la vBy vTy (g_2 0) vMi (g_2 1) vPs (g_2 2) vGs fn vFt le vTo kn fe en ca an co vPr vSt vFn sn vSg vAl dr (c_8)) (cwV 1 hts (kGV wd_323 wd_320 wd_321 wd_322 wd_5) rfl rfl rfl (by decide +kernel) ⟨Nat.le_of_ble_eq_true rfl, Nat.le_of_ble_eq_true rfl⟩) (k_preV11 (q0 := 0) hK hPc hDc hN rfl) rfl rfl hl.1 rfl (lv_room (Nat.le_of_ble_eq_true rfl)) dX12_ask_6 ⟨by decide +kernel, by decide +kernel⟩) hS (fun q _ h => hFc q h) hFc (fun r_17 u₀ t₀ H1 locs ht hvm hw hB hz1 hk1 hS => ?_)
  obtain ⟨hP1, hK1, hD1⟩ := hB
  rw [ht] at hP1
  have hJ := k_jn (wr := [(kAI vTo cI 96 qTo), (kAI vPr cI 2 qPr), (kAI vSt cI 2 qSt), (kAI vFn cI 2 qFn), (kAI vFt cI 32 qFt), (kAI vSg cI 16 qSg), (kAI vAl cI 25 qAl), (kAI vTy cI 3 qTy), (kAI vBy cI 120 qBy), (kAI vMi cI 24 (ga_3 0)), (kAI vPs cI 32 (ga_3 1)), (kAI vGs cI 16 (ga_3 2))]) (wt := [(kAI vTo cI 96 qTo), (kAI vPr cI 2 qPr), (kAI vSt cI 2 qSt), (kAI vFn cI 2 qFn), (kAI vFt cI 32 qFt), (kAI vSg cI 16 qSg), (kAI vAl cI 25 qAl), (kAI vTy cI 3 qTy), (kAI vBy cI 120 qBy), (kAI vMi cI 24 (ga_3 0)), (kAI vPs cI 32 (ga_3 1)), (kAI vGs cI 16 (ga_3 2)), (kX12 hm vFo vSi vIt vMo la vBy vTy (g_2 0) vMi (g_2 1) vPs (g_2 2) vGs fn vFt le vTo kn fe en ca an co vPr vSt vFn sn vSg vAl dr)]) hP hD hC [0, 1, 2, 3, 4, 5, 6, 8, 9, 10, 11, 12] rfl (by decide +kernel) (by decide +kernel) hk1 hFc hP1 hD1 rfl
  clear hP hD hPc hDc hFc hC hP1 hD1 hK1 hz1 hk1 hvm ht
  obtain ⟨hP, hD⟩ := hJ
  generalize H1 = H at hP hS ⊢
  try dsimp only at hw
  by_cases c_18 : 0 ≤ p1 ∧ p1 < (g_2 1)
  · rw [if_pos c_18] at hw
    refine k_topi (v := 1) hw ?_
    refine lv_if_eq (tgt := 20) hx₀ hb dX12_ask_9 (by decide) (fun c9 => absurd c9 (by decide +kernel)) (fun _ => ?_)
    refine lv_aload_n hx₀ hb dX12_ask_12 rfl (lv_at hl 0 rfl) ?_
    refine lv_iload_n hx₀ hb dX12_ask_13 rfl (lv_at hl 1 rfl) ?_
    obtain ⟨hPc, hDc, hFc, hC⟩ := k_cw (wc := [(kX12 hm vFo vSi vIt vMo la vBy vTy (g_2 0) vMi (g_2 1) vPs (g_2 2) vGs fn vFt le vTo kn fe en ca an co vPr vSt vFn sn vSg vAl dr), (kAI vMi cI 24 (ga_3 0)), (kAI vPs cI 32 (ga_3 1)), (kAI vGs cI 16 (ga_3 2)), (kAI vTo cI 96 qTo), (kAI vPr cI 2 qPr), (kAI vSt cI 2 qSt), (kAI vFn cI 2 qFn), (kAI vFt cI 32 qFt), (kAI vSg cI 16 qSg), (kAI vAl cI 25 qAl)]) hP hD hS hA [12, 9, 10, 11, 0, 1, 2, 3, 4, 5, 6] (by decide +kernel) rfl
    refine va_calli (va_runV (As := [.int p1]) (rest := []) ⟨hx₀, hb, hml, hown, hts⟩ (g_askOf l dC dI cI cJ cQ H.size hm p1 vFo vSi vIt vMo la vBy vTy (g_2 0) vMi (g_2 1) vPs (g_2 2) vGs fn vFt le vTo kn fe en ca an co vPr vSt vFn sn vSg vAl dr (ga_3 0) (ga_3 1) (ga_3 2) qTo qPr qSt qFn qFt qSg qAl (c_7) (c_8) (c_9) (hh3) (hh4) (hh5) (hh6) (hh7) (hh8) (lf_g_sores_1 (g_2 1) p1 c_8 c_18)) (cwV 1 hts (kGV wd_755 wd_752 wd_753 wd_754 wd_5) rfl rfl rfl (by decide +kernel) ⟨Nat.le_of_ble_eq_true rfl, Nat.le_of_ble_eq_true rfl⟩) (k_preV11 (q0 := 0) hK hPc hDc hN rfl) rfl rfl hl.1 rfl (lv_room (Nat.le_of_ble_eq_true rfl)) dX12_ask_14 ⟨by decide +kernel, by decide +kernel⟩) hS (fun q _ h => hFc q h) hFc (fun r_19 u₀ t₀ H1 locs ht hvm hw hB hz1 hk1 hS => ?_)
    obtain ⟨g_20, ga_21, gl_22, gb_23, gp_24⟩ := u₀
    obtain ⟨hP1, hK1, hD1⟩ := hB
    rw [ht] at hP1
    have hJ := k_jn (wr := [(kAI vTy cI 3 qTy), (kAI vBy cI 120 qBy)]) (wt := [(kAI vTy cI 3 qTy), (kAI vBy cI 120 qBy), (kX12 hm vFo vSi vIt vMo la vBy vTy (g_2 0) vMi (g_2 1) vPs (g_2 2) vGs fn vFt le vTo (g_20 0) (g_20 1) (g_20 2) ca (g_20 3) (g_20 4) vPr vSt vFn sn vSg vAl dr), (kAI vMi cI 24 (ga_3 0)), (kAI vPs cI 32 (ga_21 4)), (kAI vGs cI 16 (ga_3 2)), (kAI vTo cI 96 (ga_21 0)), (kAI vPr cI 2 (ga_21 1)), (kAI vSt cI 2 (ga_21 2)), (kAI vFn cI 2 (ga_21 3)), (kAI vFt cI 32 qFt), (kAI vSg cI 16 qSg), (kAI vAl cI 25 (ga_21 5))]) hP hD hC [7, 8] rfl (by decide +kernel) (by decide +kernel) hk1 hFc hP1 hD1 rfl
    clear hP hD hPc hDc hFc hC hP1 hD1 hK1 hz1 hk1 hvm ht
    obtain ⟨hP, hD⟩ := hJ
    generalize H1 = H at hP hS ⊢
    try dsimp only at hw
    obtain ⟨c_25, c_26, c_27, c_28⟩ := hw
    refine lv_goto (tgt := 22) hx₀ hb dX12_ask_17 (by decide) ?_
    obtain ⟨hP9, hD9⟩ := k_c2 (wc := [(kX12 hm vFo vSi vIt vMo la vBy vTy (g_2 0) vMi (g_2 1) vPs (g_2 2) vGs fn vFt le vTo (g_20 0) (g_20 1) (g_20 2) ca (g_20 3) (g_20 4) vPr vSt vFn sn vSg vAl dr), (kAI vTy cI 3 qTy), (kAI vBy cI 120 qBy), (kAI vMi cI 24 (ga_3 0)), (kAI vPs cI 32 (ga_21 4)), (kAI vGs cI 16 (ga_3 2)), (kAI vTo cI 96 (ga_21 0)), (kAI vPr cI 2 (ga_21 1)), (kAI vSt cI 2 (ga_21 2)), (kAI vFn cI 2 (ga_21 3)), (kAI vFt cI 32 qFt), (kAI vSg cI 16 qSg), (kAI vAl cI 25 (ga_21 5))]) hP hD [2, 0, 1, 3, 4, 5, 6, 7, 8, 9, 10, 11, 12] (by decide +kernel) rfl
    exact W.iret (v := r_19) hx₀ hb hr (fun t₀ ht hW => ⟨⟨r_19, (k_fn [(g_2 0), (g_2 1), (g_2 2), (g_20 0), (g_20 1), (g_20 2), (g_20 3), (g_20 4)], k_fa [(ga_3 0), ga_21 4, (ga_3 2), ga_21 0, ga_21 1, ga_21 2, ga_21 3, ga_21 5], k_fl [], k_fL [], k_fp []), rfl, ⟨c_7, c_8, c_9, c_25, c_26, c_27, c_28⟩, by rw [ht]; exact hP9, va_K.moved hW.alike hK, hD9⟩, hS.F ht⟩) hS.2.2 dX12_ask_22
  rw [if_neg c_18] at hw
  refine k_topi (v := 0) hw ?_
  refine lv_if_eq (tgt := 20) hx₀ hb dX12_ask_9 (by decide) (fun _ => ?_) (fun c9 => absurd (by decide +kernel) c9)
  refine lv_bipush (v := (-2)) hx₀ hb dX12_ask_20 (by decide +kernel) ?_
  obtain ⟨hP9, hD9⟩ := k_c2 (wc := [(kX12 hm vFo vSi vIt vMo la vBy vTy (g_2 0) vMi (g_2 1) vPs (g_2 2) vGs fn vFt le vTo kn fe en ca an co vPr vSt vFn sn vSg vAl dr), (kAI vTy cI 3 qTy), (kAI vBy cI 120 qBy), (kAI vMi cI 24 (ga_3 0)), (kAI vPs cI 32 (ga_3 1)), (kAI vGs cI 16 (ga_3 2)), (kAI vTo cI 96 qTo), (kAI vPr cI 2 qPr), (kAI vSt cI 2 qSt), (kAI vFn cI 2 qFn), (kAI vFt cI 32 qFt), (kAI vSg cI 16 qSg), (kAI vAl cI 25 qAl)]) hP hD [12, 7, 8, 9, 10, 11, 0, 1, 2, 3, 4, 5, 6] (by decide +kernel) rfl
  exact W.iret (v := (-2)) hx₀ hb hr (fun t₀ ht hW => ⟨⟨(-2), (k_fn [(g_2 0), (g_2 1), (g_2 2), kn, fe, en, an, co], k_fa [ga_3 0, ga_3 1, ga_3 2, qTo, qPr, qSt, qFn, qAl], k_fl [], k_fL [], k_fp []), rfl, ⟨c_7, c_8, c_9, hh3, hh4, hh5, hh6⟩, by rw [ht]; exact hP9, va_K.moved hW.alike hK, hD9⟩, hS.F ht⟩) hS.2.2 dX12_ask_22
set_option maxHeartbeats 4000000 in
set_option maxRecDepth 100000 in
theorem g_laugh (l : Launch) (dC : Nat → ClassId) (dI : Nat → Nat → Nat) (cI cJ cQ : ClassId) (sz : Nat) (hm : Nat) (c1 : Int32) (f1 : Int32) (w1 : Int32) (vFo : Nat) (vSi : Nat) (vIt : Nat) (vMo : Nat) (la : Int32) (vBy : Nat) (vTy : Nat) (mi : Int32) (vMi : Nat) (pn : Int32) (vPs : Nat) (gn : Int32) (vGs : Nat) (fn : Int32) (vFt : Nat) (le : Int32) (vTo : Nat) (kn : Int32) (fe : Int32) (en : Int32) (ca : Int32) (an : Int32) (co : Int32) (vPr : Nat) (vSt : Nat) (vFn : Nat) (sn : Int32) (vSg : Nat) (vAl : Nat) (dr : Int32) (qTy : Nat → Int32) (qBy : Nat → Int32) (qMi : Nat → Int32) (qPs : Nat → Int32) (qGs : Nat → Int32) (qTo : Nat → Int32) (qPr : Nat → Int32) (qSt : Nat → Int32) (qFn : Nat → Int32) (qFt : Nat → Int32) (hh0 : 0 ≤ (qTy 0).toInt ∧ (qTy 0).toInt ≤ 24) (hh1 : 0 ≤ (qTy 1).toInt ∧ (qTy 1).toInt ≤ 39) (hh2 : 0 ≤ (qTy 2).toInt ∧ (qTy 2).toInt ≤ 23) (hh3 : k_bd 2 0 7 qPr) (hh4 : 0 ≤ fe ∧ fe ≤ 24) (hh5 : en = 0 ∨ kn = 0 ∨ fe ≤ 23) (hh6 : 0 ≤ kn ∧ kn ≤ 24) (hh7 : 0 ≤ fn ∧ fn ≤ 8) (hh8 : ca = 16777215) : Met l yX12_laugh (kW yX12_laugh cX12_laugh 5 (some .long)) { frames := 5, cells := 0, slots := 0, locals := 129 } (kPre dC dI cI cJ cQ sz [.ref hm, .int c1, .int f1, .int w1] [(kX12 hm vFo vSi vIt vMo la vBy vTy mi vMi pn vPs gn vGs fn vFt le vTo kn fe en ca an co vPr vSt vFn sn vSg vAl dr), (kAI vTy cI 3 qTy), (kAI vBy cI 120 qBy), (kAI vMi cI 24 qMi), (kAI vPs cI 32 qPs), (kAI vGs cI 16 qGs), (kAI vTo cI 96 qTo), (kAI vPr cI 2 qPr), (kAI vSt cI 2 qSt), (kAI vFn cI 2 qFn), (kAI vFt cI 32 qFt)]) (va_Ql (fun (r : Int64) (u : kS) => (0 ≤ (u.1 0) ∧ (u.1 0) ≤ 24) ∧ (0 ≤ (u.1 1) ∧ (u.1 1) ≤ 8) ∧ (0 ≤ (u.1 2) ∧ (u.1 2) ≤ 8) ∧ (k_bd 2 0 7 (u.2.1 4)) ∧ (0 ≤ (u.1 4) ∧ (u.1 4) ≤ 24) ∧ ((u.1 5) = 0 ∨ (u.1 3) = 0 ∨ (u.1 4) ≤ 23) ∧ (0 ≤ (u.1 3) ∧ (u.1 3) ≤ 24) ∧ ((u.1 8) = 16777215)) (fun (u : kS) t₀ => kB dC dI cI cJ cQ (va_A [(kX12 hm vFo vSi vIt vMo la vBy vTy mi vMi pn vPs gn vGs fn vFt le vTo kn fe en ca an co vPr vSt vFn sn vSg vAl dr), (kAI vTy cI 3 qTy), (kAI vBy cI 120 qBy), (kAI vMi cI 24 qMi), (kAI vPs cI 32 qPs), (kAI vGs cI 16 qGs), (kAI vTo cI 96 qTo), (kAI vPr cI 2 qPr), (kAI vSt cI 2 qSt), (kAI vFn cI 2 qFn), (kAI vFt cI 32 qFt)] sz) [(kX12 hm vFo vSi vIt vMo la vBy vTy (u.1 0) vMi (u.1 1) vPs (u.1 2) vGs fn vFt le vTo (u.1 3) (u.1 4) (u.1 5) (u.1 8) (u.1 6) (u.1 7) vPr vSt vFn sn vSg vAl dr), (kAI vTy cI 3 qTy), (kAI vBy cI 120 qBy), (kAI vMi cI 24 (u.2.1 0)), (kAI vPs cI 32 (u.2.1 1)), (kAI vGs cI 16 (u.2.1 2)), (kAI vTo cI 96 (u.2.1 3)), (kAI vPr cI 2 (u.2.1 4)), (kAI vSt cI 2 (u.2.1 5)), (kAI vFn cI 2 (u.2.1 6)), (kAI vFt cI 32 qFt)] t₀) (va_A [(kX12 hm vFo vSi vIt vMo la vBy vTy mi vMi pn vPs gn vGs fn vFt le vTo kn fe en ca an co vPr vSt vFn sn vSg vAl dr), (kAI vTy cI 3 qTy), (kAI vBy cI 120 qBy), (kAI vMi cI 24 qMi), (kAI vPs cI 32 qPs), (kAI vGs cI 16 qGs), (kAI vTo cI 96 qTo), (kAI vPr cI 2 qPr), (kAI vSt cI 2 qSt), (kAI vFn cI 2 qFn), (kAI vFt cI 32 qFt)] sz)) 0 0 (va_A [(kX12 hm vFo vSi vIt vMo la vBy vTy mi vMi pn vPs gn vGs fn vFt le vTo kn fe en ca an co vPr vSt vFn sn vSg vAl dr), (kAI vTy cI 3 qTy), (kAI vBy cI 120 qBy), (kAI vMi cI 24 qMi), (kAI vPs cI 32 qPs), (kAI vGs cI 16 qGs), (kAI vTo cI 96 qTo), (kAI vPr cI 2 qPr), (kAI vSt cI 2 qSt), (kAI vFn cI 2 qFn), (kAI vFt cI 32 qFt)] sz) := by
  refine Met.ofW (cc := cX12_laugh) (maxL := 5) (ret := (some .long)) (by decide) rfl ?_
  intro p₀ e₀ s₀ m₀ args below meth c₀ s₁ B hml hv₀
  obtain ⟨rfl, hsz, hP, hK, hD0, hN⟩ := hv₀
  have hx₀ := B.exec
  have hb := B.bytes
  have hr := B.returns
  have hts := atoms_spec (ws := (kW yX12_laugh cX12_laugh 5 (some .long))) B.pre
  have hts := fun w h => hts w (List.mem_cons_of_mem _ h)
  have hown : s₀.vm.findClass RX12 = some m₀.cls := findClass_of_methodNamed B.named
  have hlocks := B.notSynchronized
  subst hsz
  have hD := hD0.self (sz := s₀.heap.size)
  generalize hAe : va_A [(kX12 hm vFo vSi vIt vMo la vBy vTy mi vMi pn vPs gn vGs fn vFt le vTo kn fe en ca an co vPr vSt vFn sn vSg vAl dr), (kAI vTy cI 3 qTy), (kAI vBy cI 120 qBy), (kAI vMi cI 24 qMi), (kAI vPs cI 32 qPs), (kAI vGs cI 16 qGs), (kAI vTo cI 96 qTo), (kAI vPr cI 2 qPr), (kAI vSt cI 2 qSt), (kAI vFn cI 2 qFn), (kAI vFt cI 32 qFt)] s₀.heap.size = A at hD ⊢
  have hA : ∀ q : Nat, s₀.heap.size ≤ q → A q := fun q h => by rw [← hAe]; exact Or.inr h
  have hS : va_S A s₀.heap s₀.heap [] := va_S.rf
  have hP : va_P (dC, dI) vwCl [(kX12 hm vFo vSi vIt vMo la vBy vTy mi vMi pn vPs gn vGs fn vFt le vTo kn fe en ca an co vPr vSt vFn sn vSg vAl dr), (kAI vTy cI 3 qTy), (kAI vBy cI 120 qBy), (kAI vMi cI 24 qMi), (kAI vPs cI 32 qPs), (kAI vGs cI 16 qGs), (kAI vTo cI 96 qTo), (kAI vPr cI 2 qPr), (kAI vSt cI 2 qSt), (kAI vFn cI 2 qFn), (kAI vFt cI 32 qFt)] s₀.heap := hP
  have hl := lv_entry ([.ref hm, .int c1, .int f1, .int w1]) (n := 5) (Nat.le_of_ble_eq_true rfl)
  rw [lg_entry_eq]
  generalize (lg_sl ([.ref hm, .int c1, .int f1, .int w1]) ++ List.replicate (5 - (lg_sl ([.ref hm, .int c1, .int f1, .int w1])).length) Slot.unset).toArray = ls at hl ⊢
  have hl : lv_has ls 5 [(0, .ref hm), (1, .int c1), (2, .int f1), (3, .int w1)] := hl
  obtain ⟨H, hH⟩ : ∃ z : Heap, z = s₀.heap := ⟨_, rfl⟩
  rw [← hH] at hP
  have hS : va_S A s₀.heap H [] := by rw [hH]; exact hS
  refine k_heap hH ?_
  have hD : va_D A [(kX12 hm vFo vSi vIt vMo la vBy vTy mi vMi pn vPs gn vGs fn vFt le vTo kn fe en ca an co vPr vSt vFn sn vSg vAl dr), (kAI vTy cI 3 qTy), (kAI vBy cI 120 qBy), (kAI vMi cI 24 qMi), (kAI vPs cI 32 qPs), (kAI vGs cI 16 qGs), (kAI vTo cI 96 qTo), (kAI vPr cI 2 qPr), (kAI vSt cI 2 qSt), (kAI vFn cI 2 qFn), (kAI vFt cI 32 qFt)] := hD
  obtain ⟨locs, hlo⟩ : ∃ z : List Loc, z = [] := ⟨_, rfl⟩
  rw [← hlo] at hS ⊢
  clear hlo hH hAe hD0
  refine lv_aload_n hx₀ hb dX12_laugh_0 rfl (lv_at hl 0 rfl) ?_
  obtain ⟨hPc, hDc, hFc, hC⟩ := k_cw (wc := [(kX12 hm vFo vSi vIt vMo la vBy vTy mi vMi pn vPs gn vGs fn vFt le vTo kn fe en ca an co vPr vSt vFn sn vSg vAl dr), (kAI vTy cI 3 qTy), (kAI vBy cI 120 qBy), (kAI vMi cI 24 qMi), (kAI vPs cI 32 qPs), (kAI vGs cI 16 qGs)]) hP hD hS hA [0, 1, 2, 3, 4, 5] (by decide +kernel) rfl
  refine va_callv (va_runV (As := []) (rest := []) ⟨hx₀, hb, hml, hown, hts⟩ (g_reads l dC dI cI cJ cQ H.size hm vFo vSi vIt vMo la vBy vTy mi vMi pn vPs gn vGs fn vFt le vTo kn fe en ca an co vPr vSt vFn sn vSg vAl dr qTy qBy qMi qPs qGs (hh0) (hh1) (hh2)) (cwV 0 hts (kGV wd_298 wd_295 wd_296 wd_297 wd_5) rfl rfl rfl (by decide +kernel) ⟨Nat.le_of_ble_eq_true rfl, Nat.le_of_ble_eq_true rfl⟩) (k_preV11 (q0 := 0) hK hPc hDc hN rfl) rfl rfl hl.1 rfl (lv_room (Nat.le_of_ble_eq_true rfl)) dX12_laugh_1 ⟨by decide +kernel, by decide +kernel⟩) hS (fun q _ h => hFc q h) hFc (fun u₀ t₀ H1 locs ht hvm hw hB hz1 hk1 hS => ?_)
  obtain ⟨g_2, ga_3, gl_4, gb_5, gp_6⟩ := u₀
  obtain ⟨hP1, hK1, hD1⟩ := hB
  rw [ht] at hP1
  have hJ := k_jn (wr := [(kAI vTo cI 96 qTo), (kAI vPr cI 2 qPr), (kAI vSt cI 2 qSt), (kAI vFn cI 2 qFn), (kAI vFt cI 32 qFt)]) (wt := [(kAI vTo cI 96 qTo), (kAI vPr cI 2 qPr), (kAI vSt cI 2 qSt), (kAI vFn cI 2 qFn), (kAI vFt cI 32 qFt), (kX12 hm vFo vSi vIt vMo la vBy vTy (g_2 0) vMi (g_2 1) vPs (g_2 2) vGs fn vFt le vTo kn fe en ca an co vPr vSt vFn sn vSg vAl dr), (kAI vTy cI 3 qTy), (kAI vBy cI 120 qBy), (kAI vMi cI 24 (ga_3 0)), (kAI vPs cI 32 (ga_3 1)), (kAI vGs cI 16 (ga_3 2))]) hP hD hC [6, 7, 8, 9, 10] rfl (by decide +kernel) (by decide +kernel) hk1 hFc hP1 hD1 rfl
  clear hP hD hPc hDc hFc hC hP1 hD1 hK1 hz1 hk1 hvm ht
  obtain ⟨hP, hD⟩ := hJ
  generalize H1 = H at hP hS ⊢
  try dsimp only at hw
  obtain ⟨c_7, c_8, c_9, c_10, c_11, c_12, c_13, c_14, c_15, c_16⟩ := hw
  refine lv_aload_n hx₀ hb dX12_laugh_4 rfl (lv_at hl 0 rfl) ?_
  obtain ⟨hPc, hDc, hFc, hC⟩ := k_cw (wc := [(kX12 hm vFo vSi vIt vMo la vBy vTy (g_2 0) vMi (g_2 1) vPs (g_2 2) vGs fn vFt le vTo kn fe en ca an co vPr vSt vFn sn vSg vAl dr), (kAI vMi cI 24 (ga_3 0))]) hP hD hS hA [5, 8] (by decide +kernel) rfl
  refine va_calli (va_runV (As := []) (rest := []) ⟨hx₀, hb, hml, hown, hts⟩ (g_towns l dC dI cI cJ cQ H.size hm vFo vSi vIt vMo la vBy vTy (g_2 0) vMi (g_2 1) vPs (g_2 2) vGs fn vFt le vTo kn fe en ca an co vPr vSt vFn sn vSg vAl dr (ga_3 0) (c_7)) (cwV 0 hts (kGV wd_814 wd_811 wd_812 wd_813 wd_5) rfl rfl rfl (by decide +kernel) ⟨Nat.le_of_ble_eq_true rfl, Nat.le_of_ble_eq_true rfl⟩) (k_preV11 (q0 := 0) hK hPc hDc hN rfl) rfl rfl hl.1 rfl (lv_room (Nat.le_of_ble_eq_true rfl)) dX12_laugh_5 ⟨by decide +kernel, by decide +kernel⟩) hS (fun q _ h => hFc q h) hFc (fun r_17 u₀ t₀ H1 locs ht hvm hw hB hz1 hk1 hS => ?_)
  obtain ⟨hP1, hK1, hD1⟩ := hB
  rw [ht] at hP1
  have hJ := k_jn (wr := [(kAI vTo cI 96 qTo), (kAI vPr cI 2 qPr), (kAI vSt cI 2 qSt), (kAI vFn cI 2 qFn), (kAI vFt cI 32 qFt), (kAI vTy cI 3 qTy), (kAI vBy cI 120 qBy), (kAI vPs cI 32 (ga_3 1)), (kAI vGs cI 16 (ga_3 2))]) (wt := [(kAI vTo cI 96 qTo), (kAI vPr cI 2 qPr), (kAI vSt cI 2 qSt), (kAI vFn cI 2 qFn), (kAI vFt cI 32 qFt), (kAI vTy cI 3 qTy), (kAI vBy cI 120 qBy), (kAI vPs cI 32 (ga_3 1)), (kAI vGs cI 16 (ga_3 2)), (kX12 hm vFo vSi vIt vMo la vBy vTy (g_2 0) vMi (g_2 1) vPs (g_2 2) vGs fn vFt le vTo kn fe en ca an co vPr vSt vFn sn vSg vAl dr), (kAI vMi cI 24 (ga_3 0))]) hP hD hC [0, 1, 2, 3, 4, 6, 7, 9, 10] rfl (by decide +kernel) (by decide +kernel) hk1 hFc hP1 hD1 rfl
  clear hP hD hPc hDc hFc hC hP1 hD1 hK1 hz1 hk1 hvm ht
  obtain ⟨hP, hD⟩ := hJ
  generalize H1 = H at hP hS ⊢
  try dsimp only at hw
  have c_18 := hw
  refine lv_istore (lv' := [(4, .int r_17), (0, .ref hm), (1, .int c1), (2, .int f1), (3, .int w1)]) hx₀ hb dX12_laugh_8 hl (by decide) rfl (fun ls hl => ?_)
  refine lv_iload_n hx₀ hb dX12_laugh_10 rfl (lv_at hl 2 rfl) ?_
  refine lv_i2l hx₀ hb dX12_laugh_11 rfl ?_
  refine lv_lconst (v := 0) hx₀ hb dX12_laugh_12 (by decide +kernel) ?_
  refine lv_ldc2 (v := 16) hx₀ hb hown (hts (.constantLong RX12 269 (16)) wd_810) dX12_laugh_13 ?_
  obtain ⟨hPc, hDc, hFc, hC⟩ := k_cw (wc := []) hP hD hS hA [] (by decide +kernel) rfl
  refine va_calli (va_runS (As := [.long c1.toInt64, .long 0, .long 16]) (rest := []) ⟨hx₀, hb, hml, hown, hts⟩ (c_in l dC dI cI cJ cQ H.size c1.toInt64 0 16) (va_cwS 3 hts (kGS wd_208 wd_206 wd_207 wd_5) rfl rfl rfl (by decide +kernel) ⟨Nat.le_of_ble_eq_true rfl, Nat.le_of_ble_eq_true rfl⟩) (k_preS hK hPc hDc hN) rfl rfl hl.1 rfl (lv_room (Nat.le_of_ble_eq_true rfl)) dX12_laugh_16 ⟨by decide +kernel, by decide +kernel⟩) hS (fun q _ h => hFc q h) hFc (fun r_19 u₀ t₀ H1 locs ht hvm hw hB hz1 hk1 hS => ?_)
  obtain ⟨hP1, hK1, hD1⟩ := hB
  rw [ht] at hP1
  have hJ := k_jn (wr := [(kAI vTo cI 96 qTo), (kAI vPr cI 2 qPr), (kAI vSt cI 2 qSt), (kAI vFn cI 2 qFn), (kAI vFt cI 32 qFt), (kAI vTy cI 3 qTy), (kAI vBy cI 120 qBy), (kAI vPs cI 32 (ga_3 1)), (kAI vGs cI 16 (ga_3 2)), (kX12 hm vFo vSi vIt vMo la vBy vTy (g_2 0) vMi (g_2 1) vPs (g_2 2) vGs fn vFt le vTo kn fe en ca an co vPr vSt vFn sn vSg vAl dr), (kAI vMi cI 24 (ga_3 0))]) (wt := [(kAI vTo cI 96 qTo), (kAI vPr cI 2 qPr), (kAI vSt cI 2 qSt), (kAI vFn cI 2 qFn), (kAI vFt cI 32 qFt), (kAI vTy cI 3 qTy), (kAI vBy cI 120 qBy), (kAI vPs cI 32 (ga_3 1)), (kAI vGs cI 16 (ga_3 2)), (kX12 hm vFo vSi vIt vMo la vBy vTy (g_2 0) vMi (g_2 1) vPs (g_2 2) vGs fn vFt le vTo kn fe en ca an co vPr vSt vFn sn vSg vAl dr), (kAI vMi cI 24 (ga_3 0))]) hP hD hC [0, 1, 2, 3, 4, 5, 6, 7, 8, 9, 10] rfl (by decide +kernel) (by decide +kernel) hk1 hFc hP1 hD1 rfl
  clear hP hD hPc hDc hFc hC hP1 hD1 hK1 hz1 hk1 hvm ht
  obtain ⟨hP, hD⟩ := hJ
  generalize H1 = H at hP hS ⊢
  try dsimp only at hw
  by_cases c_20 : (0 : Int64) ≤ c1.toInt64 ∧ c1.toInt64 ≤ (16 : Int64)
  · rw [if_pos c_20] at hw
    refine k_topi (v := 1) hw ?_
    refine lv_if_eq (tgt := 56) hx₀ hb dX12_laugh_19 (by decide) (fun c9 => absurd c9 (by decide +kernel)) (fun _ => ?_)
    refine lv_aload_n hx₀ hb dX12_laugh_22 rfl (lv_at hl 1 rfl) ?_
    refine lv_iload_n hx₀ hb dX12_laugh_23 rfl (lv_at hl 3 rfl) ?_
    obtain ⟨hPc, hDc, hFc, hC⟩ := k_cw (wc := [(kX12 hm vFo vSi vIt vMo la vBy vTy (g_2 0) vMi (g_2 1) vPs (g_2 2) vGs fn vFt le vTo kn fe en ca an co vPr vSt vFn sn vSg vAl dr)]) hP hD hS hA [9] (by decide +kernel) rfl
    refine va_calli (va_runV (As := [.int f1]) (rest := []) ⟨hx₀, hb, hml, hown, hts⟩ (g_isFlight l dC dI cI cJ cQ H.size hm f1 vFo vSi vIt vMo la vBy vTy (g_2 0) vMi (g_2 1) vPs (g_2 2) vGs fn vFt le vTo kn fe en ca an co vPr vSt vFn sn vSg vAl dr (hh7)) (cwV 1 hts (kGV wd_528 wd_525 wd_526 wd_527 wd_5) rfl rfl rfl (by decide +kernel) ⟨Nat.le_of_ble_eq_true rfl, Nat.le_of_ble_eq_true rfl⟩) (k_preV11 (q0 := 0) hK hPc hDc hN rfl) rfl rfl hl.1 rfl (lv_room (Nat.le_of_ble_eq_true rfl)) dX12_laugh_24 ⟨by decide +kernel, by decide +kernel⟩) hS (fun q _ h => hFc q h) hFc (fun r_21 u₀ t₀ H1 locs ht hvm hw hB hz1 hk1 hS => ?_)
    obtain ⟨hP1, hK1, hD1⟩ := hB
    rw [ht] at hP1
    have hJ := k_jn (wr := [(kAI vTo cI 96 qTo), (kAI vPr cI 2 qPr), (kAI vSt cI 2 qSt), (kAI vFn cI 2 qFn), (kAI vFt cI 32 qFt), (kAI vTy cI 3 qTy), (kAI vBy cI 120 qBy), (kAI vPs cI 32 (ga_3 1)), (kAI vGs cI 16 (ga_3 2)), (kAI vMi cI 24 (ga_3 0))]) (wt := [(kAI vTo cI 96 qTo), (kAI vPr cI 2 qPr), (kAI vSt cI 2 qSt), (kAI vFn cI 2 qFn), (kAI vFt cI 32 qFt), (kAI vTy cI 3 qTy), (kAI vBy cI 120 qBy), (kAI vPs cI 32 (ga_3 1)), (kAI vGs cI 16 (ga_3 2)), (kAI vMi cI 24 (ga_3 0)), (kX12 hm vFo vSi vIt vMo la vBy vTy (g_2 0) vMi (g_2 1) vPs (g_2 2) vGs fn vFt le vTo kn fe en ca an co vPr vSt vFn sn vSg vAl dr)]) hP hD hC [0, 1, 2, 3, 4, 5, 6, 7, 8, 10] rfl (by decide +kernel) (by decide +kernel) hk1 hFc hP1 hD1 rfl
    clear hP hD hPc hDc hFc hC hP1 hD1 hK1 hz1 hk1 hvm ht
    obtain ⟨hP, hD⟩ := hJ
    generalize H1 = H at hP hS ⊢
    try dsimp only at hw
    by_cases c_22 : 0 ≤ f1 ∧ f1 < fn
    · rw [if_pos c_22] at hw
      refine k_topi (v := 1) hw ?_
      refine lv_if_eq (tgt := 56) hx₀ hb dX12_laugh_27 (by decide) (fun c9 => absurd c9 (by decide +kernel)) (fun _ => ?_)
      refine lv_iload_n hx₀ hb dX12_laugh_30 rfl (lv_at hl 4 rfl) ?_
      obtain ⟨hPc, hDc, hFc, hC⟩ := k_cw (wc := []) hP hD hS hA [] (by decide +kernel) rfl
      refine va_calli (va_runS (As := [.int w1]) (rest := []) ⟨hx₀, hb, hml, hown, hts⟩ (c_isTwo l dC dI cI cJ cQ H.size w1) (va_cwS 1 hts (kGS wd_348 wd_346 wd_347 wd_5) rfl rfl rfl (by decide +kernel) ⟨Nat.le_of_ble_eq_true rfl, Nat.le_of_ble_eq_true rfl⟩) (k_preS hK hPc hDc hN) rfl rfl hl.1 rfl (lv_room (Nat.le_of_ble_eq_true rfl)) dX12_laugh_31 ⟨by decide +kernel, by decide +kernel⟩) hS (fun q _ h => hFc q h) hFc (fun r_23 u₀ t₀ H1 locs ht hvm hw hB hz1 hk1 hS => ?_)
      obtain ⟨hP1, hK1, hD1⟩ := hB
      rw [ht] at hP1
      have hJ := k_jn (wr := [(kAI vTo cI 96 qTo), (kAI vPr cI 2 qPr), (kAI vSt cI 2 qSt), (kAI vFn cI 2 qFn), (kAI vFt cI 32 qFt), (kAI vTy cI 3 qTy), (kAI vBy cI 120 qBy), (kAI vPs cI 32 (ga_3 1)), (kAI vGs cI 16 (ga_3 2)), (kAI vMi cI 24 (ga_3 0)), (kX12 hm vFo vSi vIt vMo la vBy vTy (g_2 0) vMi (g_2 1) vPs (g_2 2) vGs fn vFt le vTo kn fe en ca an co vPr vSt vFn sn vSg vAl dr)]) (wt := [(kAI vTo cI 96 qTo), (kAI vPr cI 2 qPr), (kAI vSt cI 2 qSt), (kAI vFn cI 2 qFn), (kAI vFt cI 32 qFt), (kAI vTy cI 3 qTy), (kAI vBy cI 120 qBy), (kAI vPs cI 32 (ga_3 1)), (kAI vGs cI 16 (ga_3 2)), (kAI vMi cI 24 (ga_3 0)), (kX12 hm vFo vSi vIt vMo la vBy vTy (g_2 0) vMi (g_2 1) vPs (g_2 2) vGs fn vFt le vTo kn fe en ca an co vPr vSt vFn sn vSg vAl dr)]) hP hD hC [0, 1, 2, 3, 4, 5, 6, 7, 8, 9, 10] rfl (by decide +kernel) (by decide +kernel) hk1 hFc hP1 hD1 rfl
      clear hP hD hPc hDc hFc hC hP1 hD1 hK1 hz1 hk1 hvm ht
      obtain ⟨hP, hD⟩ := hJ
      generalize H1 = H at hP hS ⊢
      try dsimp only at hw
      by_cases c_24 : 0 ≤ w1 ∧ w1 ≤ 1
      · rw [if_pos c_24] at hw
        refine k_topi (v := 1) hw ?_
        refine lv_if_eq (tgt := 56) hx₀ hb dX12_laugh_34 (by decide) (fun c9 => absurd c9 (by decide +kernel)) (fun _ => ?_)
        refine lv_iload hx₀ hb dX12_laugh_37 (lv_at hl 0 rfl) ?_
        refine lv_bipush (v := 10) hx₀ hb dX12_laugh_39 (by decide +kernel) ?_
        refine lv_icmp_gt (tgt := 56) hx₀ hb dX12_laugh_41 (by decide) (fun c_25 => ?_) (fun c_25 => ?_)
        · refine lv_bipush (v := (-2)) hx₀ hb dX12_laugh_56 (by decide +kernel) ?_
          obtain ⟨hPc, hDc, hFc, hC⟩ := k_cw (wc := []) hP hD hS hA [] (by decide +kernel) rfl
          refine va_calll (va_runS (As := [.int (-2)]) (rest := []) ⟨hx₀, hb, hml, hown, hts⟩ (c_no2 l dC dI cI cJ cQ H.size ) (va_cwS 1 hts (kGS wd_828 wd_826 wd_827 wd_5) rfl rfl rfl (by decide +kernel) ⟨Nat.le_of_ble_eq_true rfl, Nat.le_of_ble_eq_true rfl⟩) (k_preS hK hPc hDc hN) rfl rfl hl.1 rfl (lv_room (Nat.le_of_ble_eq_true rfl)) dX12_laugh_58 ⟨by decide +kernel, by decide +kernel⟩) hS (fun q _ h => hFc q h) hFc (fun r_26 u₀ t₀ H1 locs ht hvm hw hB hz1 hk1 hS => ?_)
          obtain ⟨hP1, hK1, hD1⟩ := hB
          rw [ht] at hP1
          have hJ := k_jn (wr := [(kAI vTo cI 96 qTo), (kAI vPr cI 2 qPr), (kAI vSt cI 2 qSt), (kAI vFn cI 2 qFn), (kAI vFt cI 32 qFt), (kAI vTy cI 3 qTy), (kAI vBy cI 120 qBy), (kAI vPs cI 32 (ga_3 1)), (kAI vGs cI 16 (ga_3 2)), (kAI vMi cI 24 (ga_3 0)), (kX12 hm vFo vSi vIt vMo la vBy vTy (g_2 0) vMi (g_2 1) vPs (g_2 2) vGs fn vFt le vTo kn fe en ca an co vPr vSt vFn sn vSg vAl dr)]) (wt := [(kAI vTo cI 96 qTo), (kAI vPr cI 2 qPr), (kAI vSt cI 2 qSt), (kAI vFn cI 2 qFn), (kAI vFt cI 32 qFt), (kAI vTy cI 3 qTy), (kAI vBy cI 120 qBy), (kAI vPs cI 32 (ga_3 1)), (kAI vGs cI 16 (ga_3 2)), (kAI vMi cI 24 (ga_3 0)), (kX12 hm vFo vSi vIt vMo la vBy vTy (g_2 0) vMi (g_2 1) vPs (g_2 2) vGs fn vFt le vTo kn fe en ca an co vPr vSt vFn sn vSg vAl dr)]) hP hD hC [0, 1, 2, 3, 4, 5, 6, 7, 8, 9, 10] rfl (by decide +kernel) (by decide +kernel) hk1 hFc hP1 hD1 rfl
          clear hP hD hPc hDc hFc hC hP1 hD1 hK1 hz1 hk1 hvm ht
          obtain ⟨hP, hD⟩ := hJ
          generalize H1 = H at hP hS ⊢
          try dsimp only at hw
          refine k_topl (v := (-9223372036854775806)) hw ?_
          obtain ⟨hP9, hD9⟩ := k_c2 (wc := [(kX12 hm vFo vSi vIt vMo la vBy vTy (g_2 0) vMi (g_2 1) vPs (g_2 2) vGs fn vFt le vTo kn fe en ca an co vPr vSt vFn sn vSg vAl dr), (kAI vTy cI 3 qTy), (kAI vBy cI 120 qBy), (kAI vMi cI 24 (ga_3 0)), (kAI vPs cI 32 (ga_3 1)), (kAI vGs cI 16 (ga_3 2)), (kAI vTo cI 96 qTo), (kAI vPr cI 2 qPr), (kAI vSt cI 2 qSt), (kAI vFn cI 2 qFn), (kAI vFt cI 32 qFt)]) hP hD [10, 5, 6, 9, 7, 8, 0, 1, 2, 3, 4] (by decide +kernel) rfl
          exact W.lret (v := (-9223372036854775806)) hx₀ hb hr (fun t₀ ht hW => ⟨⟨(-9223372036854775806), (k_fn [(g_2 0), (g_2 1), (g_2 2), kn, fe, en, an, co, ca], k_fa [(ga_3 0), ga_3 1, ga_3 2, qTo, qPr, qSt, qFn], k_fl [], k_fL [], k_fp []), rfl, ⟨c_7, c_8, c_9, hh3, hh4, hh5, hh6, hh8⟩, by rw [ht]; exact hP9, va_K.moved hW.alike hK, hD9⟩, hS.F ht⟩) hS.2.2 dX12_laugh_61
        · refine lv_aload_n hx₀ hb dX12_laugh_44 rfl (lv_at hl 1 rfl) ?_
          refine lv_iload_n hx₀ hb dX12_laugh_45 rfl (lv_at hl 2 rfl) ?_
          refine lv_iload_n hx₀ hb dX12_laugh_46 rfl (lv_at hl 3 rfl) ?_
          refine lv_iload hx₀ hb dX12_laugh_47 (lv_at hl 0 rfl) ?_
          refine lv_iload_n hx₀ hb dX12_laugh_49 rfl (lv_at hl 4 rfl) ?_
          obtain ⟨hPc, hDc, hFc, hC⟩ := k_cw (wc := [(kX12 hm vFo vSi vIt vMo la vBy vTy (g_2 0) vMi (g_2 1) vPs (g_2 2) vGs fn vFt le vTo kn fe en ca an co vPr vSt vFn sn vSg vAl dr), (kAI vMi cI 24 (ga_3 0)), (kAI vPs cI 32 (ga_3 1)), (kAI vGs cI 16 (ga_3 2)), (kAI vTo cI 96 qTo), (kAI vPr cI 2 qPr), (kAI vSt cI 2 qSt), (kAI vFn cI 2 qFn), (kAI vFt cI 32 qFt)]) hP hD hS hA [10, 9, 7, 8, 0, 1, 2, 3, 4] (by decide +kernel) rfl
          refine va_calll (va_runV (As := [.int c1, .int f1, .int r_17, .int w1]) (rest := []) ⟨hx₀, hb, hml, hown, hts⟩ (g_laughOf l dC dI cI cJ cQ H.size hm c1 f1 r_17 w1 vFo vSi vIt vMo la vBy vTy (g_2 0) vMi (g_2 1) vPs (g_2 2) vGs fn vFt le vTo kn fe en ca an co vPr vSt vFn sn vSg vAl dr (ga_3 0) (ga_3 1) (ga_3 2) qTo qPr qSt qFn qFt (c_7) (c_8) (c_9) (hh3) (hh4) (hh5) (hh6) (lf_g_flies_3 fn f1 hh7 c_22) (show 0 ≤ r_17 ∧ r_17 ≤ 10 from ⟨c_18.1, (Int32.not_lt.mp c_25)⟩) (k_kshl (show 0 ≤ r_17 ∧ r_17 ≤ 10 from ⟨c_18.1, (Int32.not_lt.mp c_25)⟩)) (k_klsh (show 0 ≤ r_17 ∧ r_17 ≤ 10 from ⟨c_18.1, (Int32.not_lt.mp c_25)⟩))) (cwV 4 hts (kGV wd_818 wd_815 wd_816 wd_817 wd_5) rfl rfl rfl (by decide +kernel) ⟨Nat.le_of_ble_eq_true rfl, Nat.le_of_ble_eq_true rfl⟩) (k_preV11 (q0 := 0) hK hPc hDc hN rfl) rfl rfl hl.1 rfl (lv_room (Nat.le_of_ble_eq_true rfl)) dX12_laugh_50 ⟨by decide +kernel, by decide +kernel⟩) hS (fun q _ h => hFc q h) hFc (fun r_27 u₀ t₀ H1 locs ht hvm hw hB hz1 hk1 hS => ?_)
          obtain ⟨g_28, ga_29, gl_30, gb_31, gp_32⟩ := u₀
          obtain ⟨hP1, hK1, hD1⟩ := hB
          rw [ht] at hP1
          have hJ := k_jn (wr := [(kAI vTy cI 3 qTy), (kAI vBy cI 120 qBy)]) (wt := [(kAI vTy cI 3 qTy), (kAI vBy cI 120 qBy), (kX12 hm vFo vSi vIt vMo la vBy vTy (g_2 0) vMi (g_2 1) vPs (g_2 2) vGs fn vFt le vTo (g_28 0) (g_28 1) (g_28 2) (g_28 5) (g_28 3) (g_28 4) vPr vSt vFn sn vSg vAl dr), (kAI vMi cI 24 (ga_3 0)), (kAI vPs cI 32 (ga_3 1)), (kAI vGs cI 16 (ga_3 2)), (kAI vTo cI 96 (ga_29 0)), (kAI vPr cI 2 (ga_29 1)), (kAI vSt cI 2 (ga_29 2)), (kAI vFn cI 2 (ga_29 3)), (kAI vFt cI 32 qFt)]) hP hD hC [5, 6] rfl (by decide +kernel) (by decide +kernel) hk1 hFc hP1 hD1 rfl
          clear hP hD hPc hDc hFc hC hP1 hD1 hK1 hz1 hk1 hvm ht
          obtain ⟨hP, hD⟩ := hJ
          generalize H1 = H at hP hS ⊢
          try dsimp only at hw
          obtain ⟨c_33, c_34, c_35, c_36, c_37⟩ := hw
          rw [c_37] at hP hD
          replace hP := k_w2 (wt := [(kAI vTy cI 3 qTy), (kAI vBy cI 120 qBy), (kX12 hm vFo vSi vIt vMo la vBy vTy (g_2 0) vMi (g_2 1) vPs (g_2 2) vGs fn vFt le vTo (g_28 0) (g_28 1) (g_28 2) 16777215 (g_28 3) (g_28 4) vPr vSt vFn sn vSg vAl dr), (kAI vMi cI 24 (ga_3 0)), (kAI vPs cI 32 (ga_3 1)), (kAI vGs cI 16 (ga_3 2)), (kAI vTo cI 96 (ga_29 0)), (kAI vPr cI 2 (ga_29 1)), (kAI vSt cI 2 (ga_29 2)), (kAI vFn cI 2 (ga_29 3)), (kAI vFt cI 32 qFt)]) hP hD rfl
          replace hD := hP.2
          replace hP := hP.1
          refine lv_goto (tgt := 61) hx₀ hb dX12_laugh_53 (by decide) ?_
          obtain ⟨hP9, hD9⟩ := k_c2 (wc := [(kX12 hm vFo vSi vIt vMo la vBy vTy (g_2 0) vMi (g_2 1) vPs (g_2 2) vGs fn vFt le vTo (g_28 0) (g_28 1) (g_28 2) 16777215 (g_28 3) (g_28 4) vPr vSt vFn sn vSg vAl dr), (kAI vTy cI 3 qTy), (kAI vBy cI 120 qBy), (kAI vMi cI 24 (ga_3 0)), (kAI vPs cI 32 (ga_3 1)), (kAI vGs cI 16 (ga_3 2)), (kAI vTo cI 96 (ga_29 0)), (kAI vPr cI 2 (ga_29 1)), (kAI vSt cI 2 (ga_29 2)), (kAI vFn cI 2 (ga_29 3)), (kAI vFt cI 32 qFt)]) hP hD [2, 0, 1, 3, 4, 5, 6, 7, 8, 9, 10] (by decide +kernel) rfl
          exact W.lret (v := r_27) hx₀ hb hr (fun t₀ ht hW => ⟨⟨r_27, (k_fn [(g_2 0), (g_2 1), (g_2 2), (g_28 0), (g_28 1), (g_28 2), (g_28 3), (g_28 4), (16777215 : Int32)], k_fa [(ga_3 0), (ga_3 1), (ga_3 2), ga_29 0, ga_29 1, ga_29 2, ga_29 3], k_fl [], k_fL [], k_fp []), rfl, ⟨c_7, c_8, c_9, c_33, c_34, c_35, c_36, rfl⟩, by rw [ht]; exact hP9, va_K.moved hW.alike hK, hD9⟩, hS.F ht⟩) hS.2.2 dX12_laugh_61
      rw [if_neg c_24] at hw
      refine k_topi (v := 0) hw ?_
      refine lv_if_eq (tgt := 56) hx₀ hb dX12_laugh_34 (by decide) (fun _ => ?_) (fun c9 => absurd (by decide +kernel) c9)
      refine lv_bipush (v := (-2)) hx₀ hb dX12_laugh_56 (by decide +kernel) ?_
      obtain ⟨hPc, hDc, hFc, hC⟩ := k_cw (wc := []) hP hD hS hA [] (by decide +kernel) rfl
      refine va_calll (va_runS (As := [.int (-2)]) (rest := []) ⟨hx₀, hb, hml, hown, hts⟩ (c_no2 l dC dI cI cJ cQ H.size ) (va_cwS 1 hts (kGS wd_828 wd_826 wd_827 wd_5) rfl rfl rfl (by decide +kernel) ⟨Nat.le_of_ble_eq_true rfl, Nat.le_of_ble_eq_true rfl⟩) (k_preS hK hPc hDc hN) rfl rfl hl.1 rfl (lv_room (Nat.le_of_ble_eq_true rfl)) dX12_laugh_58 ⟨by decide +kernel, by decide +kernel⟩) hS (fun q _ h => hFc q h) hFc (fun r_38 u₀ t₀ H1 locs ht hvm hw hB hz1 hk1 hS => ?_)
      obtain ⟨hP1, hK1, hD1⟩ := hB
      rw [ht] at hP1
      have hJ := k_jn (wr := [(kAI vTo cI 96 qTo), (kAI vPr cI 2 qPr), (kAI vSt cI 2 qSt), (kAI vFn cI 2 qFn), (kAI vFt cI 32 qFt), (kAI vTy cI 3 qTy), (kAI vBy cI 120 qBy), (kAI vPs cI 32 (ga_3 1)), (kAI vGs cI 16 (ga_3 2)), (kAI vMi cI 24 (ga_3 0)), (kX12 hm vFo vSi vIt vMo la vBy vTy (g_2 0) vMi (g_2 1) vPs (g_2 2) vGs fn vFt le vTo kn fe en ca an co vPr vSt vFn sn vSg vAl dr)]) (wt := [(kAI vTo cI 96 qTo), (kAI vPr cI 2 qPr), (kAI vSt cI 2 qSt), (kAI vFn cI 2 qFn), (kAI vFt cI 32 qFt), (kAI vTy cI 3 qTy), (kAI vBy cI 120 qBy), (kAI vPs cI 32 (ga_3 1)), (kAI vGs cI 16 (ga_3 2)), (kAI vMi cI 24 (ga_3 0)), (kX12 hm vFo vSi vIt vMo la vBy vTy (g_2 0) vMi (g_2 1) vPs (g_2 2) vGs fn vFt le vTo kn fe en ca an co vPr vSt vFn sn vSg vAl dr)]) hP hD hC [0, 1, 2, 3, 4, 5, 6, 7, 8, 9, 10] rfl (by decide +kernel) (by decide +kernel) hk1 hFc hP1 hD1 rfl
      clear hP hD hPc hDc hFc hC hP1 hD1 hK1 hz1 hk1 hvm ht
      obtain ⟨hP, hD⟩ := hJ
      generalize H1 = H at hP hS ⊢
      try dsimp only at hw
      refine k_topl (v := (-9223372036854775806)) hw ?_
      obtain ⟨hP9, hD9⟩ := k_c2 (wc := [(kX12 hm vFo vSi vIt vMo la vBy vTy (g_2 0) vMi (g_2 1) vPs (g_2 2) vGs fn vFt le vTo kn fe en ca an co vPr vSt vFn sn vSg vAl dr), (kAI vTy cI 3 qTy), (kAI vBy cI 120 qBy), (kAI vMi cI 24 (ga_3 0)), (kAI vPs cI 32 (ga_3 1)), (kAI vGs cI 16 (ga_3 2)), (kAI vTo cI 96 qTo), (kAI vPr cI 2 qPr), (kAI vSt cI 2 qSt), (kAI vFn cI 2 qFn), (kAI vFt cI 32 qFt)]) hP hD [10, 5, 6, 9, 7, 8, 0, 1, 2, 3, 4] (by decide +kernel) rfl
      exact W.lret (v := (-9223372036854775806)) hx₀ hb hr (fun t₀ ht hW => ⟨⟨(-9223372036854775806), (k_fn [(g_2 0), (g_2 1), (g_2 2), kn, fe, en, an, co, ca], k_fa [(ga_3 0), ga_3 1, ga_3 2, qTo, qPr, qSt, qFn], k_fl [], k_fL [], k_fp []), rfl, ⟨c_7, c_8, c_9, hh3, hh4, hh5, hh6, hh8⟩, by rw [ht]; exact hP9, va_K.moved hW.alike hK, hD9⟩, hS.F ht⟩) hS.2.2 dX12_laugh_61
    rw [if_neg c_22] at hw
    refine k_topi (v := 0) hw ?_
    refine lv_if_eq (tgt := 56) hx₀ hb dX12_laugh_27 (by decide) (fun _ => ?_) (fun c9 => absurd (by decide +kernel) c9)
    refine lv_bipush (v := (-2)) hx₀ hb dX12_laugh_56 (by decide +kernel) ?_
    obtain ⟨hPc, hDc, hFc, hC⟩ := k_cw (wc := []) hP hD hS hA [] (by decide +kernel) rfl
    refine va_calll (va_runS (As := [.int (-2)]) (rest := []) ⟨hx₀, hb, hml, hown, hts⟩ (c_no2 l dC dI cI cJ cQ H.size ) (va_cwS 1 hts (kGS wd_828 wd_826 wd_827 wd_5) rfl rfl rfl (by decide +kernel) ⟨Nat.le_of_ble_eq_true rfl, Nat.le_of_ble_eq_true rfl⟩) (k_preS hK hPc hDc hN) rfl rfl hl.1 rfl (lv_room (Nat.le_of_ble_eq_true rfl)) dX12_laugh_58 ⟨by decide +kernel, by decide +kernel⟩) hS (fun q _ h => hFc q h) hFc (fun r_39 u₀ t₀ H1 locs ht hvm hw hB hz1 hk1 hS => ?_)
    obtain ⟨hP1, hK1, hD1⟩ := hB
    rw [ht] at hP1
    have hJ := k_jn (wr := [(kAI vTo cI 96 qTo), (kAI vPr cI 2 qPr), (kAI vSt cI 2 qSt), (kAI vFn cI 2 qFn), (kAI vFt cI 32 qFt), (kAI vTy cI 3 qTy), (kAI vBy cI 120 qBy), (kAI vPs cI 32 (ga_3 1)), (kAI vGs cI 16 (ga_3 2)), (kAI vMi cI 24 (ga_3 0)), (kX12 hm vFo vSi vIt vMo la vBy vTy (g_2 0) vMi (g_2 1) vPs (g_2 2) vGs fn vFt le vTo kn fe en ca an co vPr vSt vFn sn vSg vAl dr)]) (wt := [(kAI vTo cI 96 qTo), (kAI vPr cI 2 qPr), (kAI vSt cI 2 qSt), (kAI vFn cI 2 qFn), (kAI vFt cI 32 qFt), (kAI vTy cI 3 qTy), (kAI vBy cI 120 qBy), (kAI vPs cI 32 (ga_3 1)), (kAI vGs cI 16 (ga_3 2)), (kAI vMi cI 24 (ga_3 0)), (kX12 hm vFo vSi vIt vMo la vBy vTy (g_2 0) vMi (g_2 1) vPs (g_2 2) vGs fn vFt le vTo kn fe en ca an co vPr vSt vFn sn vSg vAl dr)]) hP hD hC [0, 1, 2, 3, 4, 5, 6, 7, 8, 9, 10] rfl (by decide +kernel) (by decide +kernel) hk1 hFc hP1 hD1 rfl
    clear hP hD hPc hDc hFc hC hP1 hD1 hK1 hz1 hk1 hvm ht
    obtain ⟨hP, hD⟩ := hJ
    generalize H1 = H at hP hS ⊢
    try dsimp only at hw
    refine k_topl (v := (-9223372036854775806)) hw ?_
    obtain ⟨hP9, hD9⟩ := k_c2 (wc := [(kX12 hm vFo vSi vIt vMo la vBy vTy (g_2 0) vMi (g_2 1) vPs (g_2 2) vGs fn vFt le vTo kn fe en ca an co vPr vSt vFn sn vSg vAl dr), (kAI vTy cI 3 qTy), (kAI vBy cI 120 qBy), (kAI vMi cI 24 (ga_3 0)), (kAI vPs cI 32 (ga_3 1)), (kAI vGs cI 16 (ga_3 2)), (kAI vTo cI 96 qTo), (kAI vPr cI 2 qPr), (kAI vSt cI 2 qSt), (kAI vFn cI 2 qFn), (kAI vFt cI 32 qFt)]) hP hD [10, 5, 6, 9, 7, 8, 0, 1, 2, 3, 4] (by decide +kernel) rfl
    exact W.lret (v := (-9223372036854775806)) hx₀ hb hr (fun t₀ ht hW => ⟨⟨(-9223372036854775806), (k_fn [(g_2 0), (g_2 1), (g_2 2), kn, fe, en, an, co, ca], k_fa [(ga_3 0), ga_3 1, ga_3 2, qTo, qPr, qSt, qFn], k_fl [], k_fL [], k_fp []), rfl, ⟨c_7, c_8, c_9, hh3, hh4, hh5, hh6, hh8⟩, by rw [ht]; exact hP9, va_K.moved hW.alike hK, hD9⟩, hS.F ht⟩) hS.2.2 dX12_laugh_61
  rw [if_neg c_20] at hw
  refine k_topi (v := 0) hw ?_
  refine lv_if_eq (tgt := 56) hx₀ hb dX12_laugh_19 (by decide) (fun _ => ?_) (fun c9 => absurd (by decide +kernel) c9)
  refine lv_bipush (v := (-2)) hx₀ hb dX12_laugh_56 (by decide +kernel) ?_
  obtain ⟨hPc, hDc, hFc, hC⟩ := k_cw (wc := []) hP hD hS hA [] (by decide +kernel) rfl
  refine va_calll (va_runS (As := [.int (-2)]) (rest := []) ⟨hx₀, hb, hml, hown, hts⟩ (c_no2 l dC dI cI cJ cQ H.size ) (va_cwS 1 hts (kGS wd_828 wd_826 wd_827 wd_5) rfl rfl rfl (by decide +kernel) ⟨Nat.le_of_ble_eq_true rfl, Nat.le_of_ble_eq_true rfl⟩) (k_preS hK hPc hDc hN) rfl rfl hl.1 rfl (lv_room (Nat.le_of_ble_eq_true rfl)) dX12_laugh_58 ⟨by decide +kernel, by decide +kernel⟩) hS (fun q _ h => hFc q h) hFc (fun r_40 u₀ t₀ H1 locs ht hvm hw hB hz1 hk1 hS => ?_)
  obtain ⟨hP1, hK1, hD1⟩ := hB
  rw [ht] at hP1
  have hJ := k_jn (wr := [(kAI vTo cI 96 qTo), (kAI vPr cI 2 qPr), (kAI vSt cI 2 qSt), (kAI vFn cI 2 qFn), (kAI vFt cI 32 qFt), (kAI vTy cI 3 qTy), (kAI vBy cI 120 qBy), (kAI vPs cI 32 (ga_3 1)), (kAI vGs cI 16 (ga_3 2)), (kX12 hm vFo vSi vIt vMo la vBy vTy (g_2 0) vMi (g_2 1) vPs (g_2 2) vGs fn vFt le vTo kn fe en ca an co vPr vSt vFn sn vSg vAl dr), (kAI vMi cI 24 (ga_3 0))]) (wt := [(kAI vTo cI 96 qTo), (kAI vPr cI 2 qPr), (kAI vSt cI 2 qSt), (kAI vFn cI 2 qFn), (kAI vFt cI 32 qFt), (kAI vTy cI 3 qTy), (kAI vBy cI 120 qBy), (kAI vPs cI 32 (ga_3 1)), (kAI vGs cI 16 (ga_3 2)), (kX12 hm vFo vSi vIt vMo la vBy vTy (g_2 0) vMi (g_2 1) vPs (g_2 2) vGs fn vFt le vTo kn fe en ca an co vPr vSt vFn sn vSg vAl dr), (kAI vMi cI 24 (ga_3 0))]) hP hD hC [0, 1, 2, 3, 4, 5, 6, 7, 8, 9, 10] rfl (by decide +kernel) (by decide +kernel) hk1 hFc hP1 hD1 rfl
  clear hP hD hPc hDc hFc hC hP1 hD1 hK1 hz1 hk1 hvm ht
  obtain ⟨hP, hD⟩ := hJ
  generalize H1 = H at hP hS ⊢
  try dsimp only at hw
  refine k_topl (v := (-9223372036854775806)) hw ?_
  obtain ⟨hP9, hD9⟩ := k_c2 (wc := [(kX12 hm vFo vSi vIt vMo la vBy vTy (g_2 0) vMi (g_2 1) vPs (g_2 2) vGs fn vFt le vTo kn fe en ca an co vPr vSt vFn sn vSg vAl dr), (kAI vTy cI 3 qTy), (kAI vBy cI 120 qBy), (kAI vMi cI 24 (ga_3 0)), (kAI vPs cI 32 (ga_3 1)), (kAI vGs cI 16 (ga_3 2)), (kAI vTo cI 96 qTo), (kAI vPr cI 2 qPr), (kAI vSt cI 2 qSt), (kAI vFn cI 2 qFn), (kAI vFt cI 32 qFt)]) hP hD [9, 5, 6, 10, 7, 8, 0, 1, 2, 3, 4] (by decide +kernel) rfl
  exact W.lret (v := (-9223372036854775806)) hx₀ hb hr (fun t₀ ht hW => ⟨⟨(-9223372036854775806), (k_fn [(g_2 0), (g_2 1), (g_2 2), kn, fe, en, an, co, ca], k_fa [(ga_3 0), ga_3 1, ga_3 2, qTo, qPr, qSt, qFn], k_fl [], k_fL [], k_fp []), rfl, ⟨c_7, c_8, c_9, hh3, hh4, hh5, hh6, hh8⟩, by rw [ht]; exact hP9, va_K.moved hW.alike hK, hD9⟩, hS.F ht⟩) hS.2.2 dX12_laugh_61
set_option maxHeartbeats 4000000 in
set_option maxRecDepth 100000 in
theorem g_lakes (l : Launch) (dC : Nat → ClassId) (dI : Nat → Nat → Nat) (cI cJ cQ : ClassId) (sz : Nat) (hm : Nat) (z1 : Int32) (nn : Int32) (w1 : Int32) (vFo : Nat) (vSi : Nat) (vIt : Nat) (vMo : Nat) (la : Int32) (vBy : Nat) (vTy : Nat) (mi : Int32) (vMi : Nat) (pn : Int32) (vPs : Nat) (gn : Int32) (vGs : Nat) (fn : Int32) (vFt : Nat) (le : Int32) (vTo : Nat) (kn : Int32) (fe : Int32) (en : Int32) (ca : Int32) (an : Int32) (co : Int32) (vPr : Nat) (vSt : Nat) (vFn : Nat) (sn : Int32) (vSg : Nat) (vAl : Nat) (dr : Int32) (qTy : Nat → Int32) (qBy : Nat → Int32) (qMi : Nat → Int32) (qPs : Nat → Int32) (qGs : Nat → Int32) (qTo : Nat → Int32) (qPr : Nat → Int32) (qSt : Nat → Int32) (qFn : Nat → Int32) (qFt : Nat → Int32) (hh0 : 0 ≤ (qTy 0).toInt ∧ (qTy 0).toInt ≤ 24) (hh1 : 0 ≤ (qTy 1).toInt ∧ (qTy 1).toInt ≤ 39) (hh2 : 0 ≤ (qTy 2).toInt ∧ (qTy 2).toInt ≤ 23) (hh3 : k_bd 2 0 7 qPr) (hh4 : 0 ≤ fe ∧ fe ≤ 24) (hh5 : en = 0 ∨ kn = 0 ∨ fe ≤ 23) (hh6 : 0 ≤ kn ∧ kn ≤ 24) (hh7 : 0 ≤ fn ∧ fn ≤ 8) : Met l yX12_lakes (kW yX12_lakes cX12_lakes 4 (some .int)) { frames := 5, cells := 0, slots := 0, locals := 111 } (kPre dC dI cI cJ cQ sz [.ref hm, .int z1, .int nn, .int w1] [(kX12 hm vFo vSi vIt vMo la vBy vTy mi vMi pn vPs gn vGs fn vFt le vTo kn fe en ca an co vPr vSt vFn sn vSg vAl dr), (kAI vTy cI 3 qTy), (kAI vBy cI 120 qBy), (kAI vMi cI 24 qMi), (kAI vPs cI 32 qPs), (kAI vGs cI 16 qGs), (kAI vTo cI 96 qTo), (kAI vPr cI 2 qPr), (kAI vSt cI 2 qSt), (kAI vFn cI 2 qFn), (kAI vFt cI 32 qFt)]) (va_Qi (fun (r : Int32) (u : kS) => (0 ≤ (u.1 0) ∧ (u.1 0) ≤ 24) ∧ (0 ≤ (u.1 1) ∧ (u.1 1) ≤ 8) ∧ (0 ≤ (u.1 2) ∧ (u.1 2) ≤ 8) ∧ (k_bd 2 0 7 (u.2.1 4)) ∧ (0 ≤ (u.1 4) ∧ (u.1 4) ≤ 24) ∧ ((u.1 5) = 0 ∨ (u.1 3) = 0 ∨ (u.1 4) ≤ 23) ∧ (0 ≤ (u.1 3) ∧ (u.1 3) ≤ 24)) (fun (u : kS) t₀ => kB dC dI cI cJ cQ (va_A [(kX12 hm vFo vSi vIt vMo la vBy vTy mi vMi pn vPs gn vGs fn vFt le vTo kn fe en ca an co vPr vSt vFn sn vSg vAl dr), (kAI vTy cI 3 qTy), (kAI vBy cI 120 qBy), (kAI vMi cI 24 qMi), (kAI vPs cI 32 qPs), (kAI vGs cI 16 qGs), (kAI vTo cI 96 qTo), (kAI vPr cI 2 qPr), (kAI vSt cI 2 qSt), (kAI vFn cI 2 qFn), (kAI vFt cI 32 qFt)] sz) [(kX12 hm vFo vSi vIt vMo la vBy vTy (u.1 0) vMi (u.1 1) vPs (u.1 2) vGs fn vFt le vTo (u.1 3) (u.1 4) (u.1 5) ca (u.1 6) (u.1 7) vPr vSt vFn sn vSg vAl (u.1 8)), (kAI vTy cI 3 qTy), (kAI vBy cI 120 qBy), (kAI vMi cI 24 (u.2.1 0)), (kAI vPs cI 32 (u.2.1 1)), (kAI vGs cI 16 (u.2.1 2)), (kAI vTo cI 96 (u.2.1 3)), (kAI vPr cI 2 (u.2.1 4)), (kAI vSt cI 2 (u.2.1 5)), (kAI vFn cI 2 (u.2.1 6)), (kAI vFt cI 32 qFt)] t₀) (va_A [(kX12 hm vFo vSi vIt vMo la vBy vTy mi vMi pn vPs gn vGs fn vFt le vTo kn fe en ca an co vPr vSt vFn sn vSg vAl dr), (kAI vTy cI 3 qTy), (kAI vBy cI 120 qBy), (kAI vMi cI 24 qMi), (kAI vPs cI 32 qPs), (kAI vGs cI 16 qGs), (kAI vTo cI 96 qTo), (kAI vPr cI 2 qPr), (kAI vSt cI 2 qSt), (kAI vFn cI 2 qFn), (kAI vFt cI 32 qFt)] sz)) 0 0 (va_A [(kX12 hm vFo vSi vIt vMo la vBy vTy mi vMi pn vPs gn vGs fn vFt le vTo kn fe en ca an co vPr vSt vFn sn vSg vAl dr), (kAI vTy cI 3 qTy), (kAI vBy cI 120 qBy), (kAI vMi cI 24 qMi), (kAI vPs cI 32 qPs), (kAI vGs cI 16 qGs), (kAI vTo cI 96 qTo), (kAI vPr cI 2 qPr), (kAI vSt cI 2 qSt), (kAI vFn cI 2 qFn), (kAI vFt cI 32 qFt)] sz) := by
  refine Met.ofW (cc := cX12_lakes) (maxL := 4) (ret := (some .int)) (by decide) rfl ?_
  intro p₀ e₀ s₀ m₀ args below meth c₀ s₁ B hml hv₀
  obtain ⟨rfl, hsz, hP, hK, hD0, hN⟩ := hv₀
  have hx₀ := B.exec
  have hb := B.bytes
  have hr := B.returns
  have hts := atoms_spec (ws := (kW yX12_lakes cX12_lakes 4 (some .int))) B.pre
  have hts := fun w h => hts w (List.mem_cons_of_mem _ h)
  have hown : s₀.vm.findClass RX12 = some m₀.cls := findClass_of_methodNamed B.named
  have hlocks := B.notSynchronized
  subst hsz
  have hD := hD0.self (sz := s₀.heap.size)
  generalize hAe : va_A [(kX12 hm vFo vSi vIt vMo la vBy vTy mi vMi pn vPs gn vGs fn vFt le vTo kn fe en ca an co vPr vSt vFn sn vSg vAl dr), (kAI vTy cI 3 qTy), (kAI vBy cI 120 qBy), (kAI vMi cI 24 qMi), (kAI vPs cI 32 qPs), (kAI vGs cI 16 qGs), (kAI vTo cI 96 qTo), (kAI vPr cI 2 qPr), (kAI vSt cI 2 qSt), (kAI vFn cI 2 qFn), (kAI vFt cI 32 qFt)] s₀.heap.size = A at hD ⊢
  have hA : ∀ q : Nat, s₀.heap.size ≤ q → A q := fun q h => by rw [← hAe]; exact Or.inr h
  have hS : va_S A s₀.heap s₀.heap [] := va_S.rf
  have hP : va_P (dC, dI) vwCl [(kX12 hm vFo vSi vIt vMo la vBy vTy mi vMi pn vPs gn vGs fn vFt le vTo kn fe en ca an co vPr vSt vFn sn vSg vAl dr), (kAI vTy cI 3 qTy), (kAI vBy cI 120 qBy), (kAI vMi cI 24 qMi), (kAI vPs cI 32 qPs), (kAI vGs cI 16 qGs), (kAI vTo cI 96 qTo), (kAI vPr cI 2 qPr), (kAI vSt cI 2 qSt), (kAI vFn cI 2 qFn), (kAI vFt cI 32 qFt)] s₀.heap := hP
  have hl := lv_entry ([.ref hm, .int z1, .int nn, .int w1]) (n := 4) (Nat.le_of_ble_eq_true rfl)
  rw [lg_entry_eq]
  generalize (lg_sl ([.ref hm, .int z1, .int nn, .int w1]) ++ List.replicate (4 - (lg_sl ([.ref hm, .int z1, .int nn, .int w1])).length) Slot.unset).toArray = ls at hl ⊢
  have hl : lv_has ls 4 [(0, .ref hm), (1, .int z1), (2, .int nn), (3, .int w1)] := hl
  obtain ⟨H, hH⟩ : ∃ z : Heap, z = s₀.heap := ⟨_, rfl⟩
  rw [← hH] at hP
  have hS : va_S A s₀.heap H [] := by rw [hH]; exact hS
  refine k_heap hH ?_
  have hD : va_D A [(kX12 hm vFo vSi vIt vMo la vBy vTy mi vMi pn vPs gn vGs fn vFt le vTo kn fe en ca an co vPr vSt vFn sn vSg vAl dr), (kAI vTy cI 3 qTy), (kAI vBy cI 120 qBy), (kAI vMi cI 24 qMi), (kAI vPs cI 32 qPs), (kAI vGs cI 16 qGs), (kAI vTo cI 96 qTo), (kAI vPr cI 2 qPr), (kAI vSt cI 2 qSt), (kAI vFn cI 2 qFn), (kAI vFt cI 32 qFt)] := hD
  obtain ⟨locs, hlo⟩ : ∃ z : List Loc, z = [] := ⟨_, rfl⟩
  rw [← hlo] at hS ⊢
  clear hlo hH hAe hD0
  refine lv_aload_n hx₀ hb dX12_lakes_0 rfl (lv_at hl 0 rfl) ?_
  obtain ⟨hPc, hDc, hFc, hC⟩ := k_cw (wc := [(kX12 hm vFo vSi vIt vMo la vBy vTy mi vMi pn vPs gn vGs fn vFt le vTo kn fe en ca an co vPr vSt vFn sn vSg vAl dr), (kAI vTy cI 3 qTy), (kAI vBy cI 120 qBy), (kAI vMi cI 24 qMi), (kAI vPs cI 32 qPs), (kAI vGs cI 16 qGs)]) hP hD hS hA [0, 1, 2, 3, 4, 5] (by decide +kernel) rfl
  refine va_callv (va_runV (As := []) (rest := []) ⟨hx₀, hb, hml, hown, hts⟩ (g_reads l dC dI cI cJ cQ H.size hm vFo vSi vIt vMo la vBy vTy mi vMi pn vPs gn vGs fn vFt le vTo kn fe en ca an co vPr vSt vFn sn vSg vAl dr qTy qBy qMi qPs qGs (hh0) (hh1) (hh2)) (cwV 0 hts (kGV wd_298 wd_295 wd_296 wd_297 wd_5) rfl rfl rfl (by decide +kernel) ⟨Nat.le_of_ble_eq_true rfl, Nat.le_of_ble_eq_true rfl⟩) (k_preV11 (q0 := 0) hK hPc hDc hN rfl) rfl rfl hl.1 rfl (lv_room (Nat.le_of_ble_eq_true rfl)) dX12_lakes_1 ⟨by decide +kernel, by decide +kernel⟩) hS (fun q _ h => hFc q h) hFc (fun u₀ t₀ H1 locs ht hvm hw hB hz1 hk1 hS => ?_)
  obtain ⟨g_2, ga_3, gl_4, gb_5, gp_6⟩ := u₀
  obtain ⟨hP1, hK1, hD1⟩ := hB
  rw [ht] at hP1
  have hJ := k_jn (wr := [(kAI vTo cI 96 qTo), (kAI vPr cI 2 qPr), (kAI vSt cI 2 qSt), (kAI vFn cI 2 qFn), (kAI vFt cI 32 qFt)]) (wt := [(kAI vTo cI 96 qTo), (kAI vPr cI 2 qPr), (kAI vSt cI 2 qSt), (kAI vFn cI 2 qFn), (kAI vFt cI 32 qFt), (kX12 hm vFo vSi vIt vMo la vBy vTy (g_2 0) vMi (g_2 1) vPs (g_2 2) vGs fn vFt le vTo kn fe en ca an co vPr vSt vFn sn vSg vAl dr), (kAI vTy cI 3 qTy), (kAI vBy cI 120 qBy), (kAI vMi cI 24 (ga_3 0)), (kAI vPs cI 32 (ga_3 1)), (kAI vGs cI 16 (ga_3 2))]) hP hD hC [6, 7, 8, 9, 10] rfl (by decide +kernel) (by decide +kernel) hk1 hFc hP1 hD1 rfl
  clear hP hD hPc hDc hFc hC hP1 hD1 hK1 hz1 hk1 hvm ht
  obtain ⟨hP, hD⟩ := hJ
  generalize H1 = H at hP hS ⊢
  try dsimp only at hw
  obtain ⟨c_7, c_8, c_9, c_10, c_11, c_12, c_13, c_14, c_15, c_16⟩ := hw
  refine lv_iload_n hx₀ hb dX12_lakes_4 rfl (lv_at hl 2 rfl) ?_
  refine lv_i2l hx₀ hb dX12_lakes_5 rfl ?_
  refine lv_lconst (v := 1) hx₀ hb dX12_lakes_6 (by decide +kernel) ?_
  refine lv_ldc2 (v := 99) hx₀ hb hown (hts (.constantLong RX12 286 (99)) wd_847) dX12_lakes_7 ?_
  obtain ⟨hPc, hDc, hFc, hC⟩ := k_cw (wc := []) hP hD hS hA [] (by decide +kernel) rfl
  refine va_calli (va_runS (As := [.long nn.toInt64, .long 1, .long 99]) (rest := []) ⟨hx₀, hb, hml, hown, hts⟩ (c_in l dC dI cI cJ cQ H.size nn.toInt64 1 99) (va_cwS 3 hts (kGS wd_208 wd_206 wd_207 wd_5) rfl rfl rfl (by decide +kernel) ⟨Nat.le_of_ble_eq_true rfl, Nat.le_of_ble_eq_true rfl⟩) (k_preS hK hPc hDc hN) rfl rfl hl.1 rfl (lv_room (Nat.le_of_ble_eq_true rfl)) dX12_lakes_10 ⟨by decide +kernel, by decide +kernel⟩) hS (fun q _ h => hFc q h) hFc (fun r_17 u₀ t₀ H1 locs ht hvm hw hB hz1 hk1 hS => ?_)
  obtain ⟨hP1, hK1, hD1⟩ := hB
  rw [ht] at hP1
  have hJ := k_jn (wr := [(kAI vTo cI 96 qTo), (kAI vPr cI 2 qPr), (kAI vSt cI 2 qSt), (kAI vFn cI 2 qFn), (kAI vFt cI 32 qFt), (kX12 hm vFo vSi vIt vMo la vBy vTy (g_2 0) vMi (g_2 1) vPs (g_2 2) vGs fn vFt le vTo kn fe en ca an co vPr vSt vFn sn vSg vAl dr), (kAI vTy cI 3 qTy), (kAI vBy cI 120 qBy), (kAI vMi cI 24 (ga_3 0)), (kAI vPs cI 32 (ga_3 1)), (kAI vGs cI 16 (ga_3 2))]) (wt := [(kAI vTo cI 96 qTo), (kAI vPr cI 2 qPr), (kAI vSt cI 2 qSt), (kAI vFn cI 2 qFn), (kAI vFt cI 32 qFt), (kX12 hm vFo vSi vIt vMo la vBy vTy (g_2 0) vMi (g_2 1) vPs (g_2 2) vGs fn vFt le vTo kn fe en ca an co vPr vSt vFn sn vSg vAl dr), (kAI vTy cI 3 qTy), (kAI vBy cI 120 qBy), (kAI vMi cI 24 (ga_3 0)), (kAI vPs cI 32 (ga_3 1)), (kAI vGs cI 16 (ga_3 2))]) hP hD hC [0, 1, 2, 3, 4, 5, 6, 7, 8, 9, 10] rfl (by decide +kernel) (by decide +kernel) hk1 hFc hP1 hD1 rfl
  clear hP hD hPc hDc hFc hC hP1 hD1 hK1 hz1 hk1 hvm ht
  obtain ⟨hP, hD⟩ := hJ
  generalize H1 = H at hP hS ⊢
  try dsimp only at hw
  by_cases c_18 : (1 : Int64) ≤ nn.toInt64 ∧ nn.toInt64 ≤ (99 : Int64)
  · rw [if_pos c_18] at hw
    refine k_topi (v := 1) hw ?_
    refine lv_if_eq (tgt := 33) hx₀ hb dX12_lakes_13 (by decide) (fun c9 => absurd c9 (by decide +kernel)) (fun _ => ?_)
    refine lv_iload_n hx₀ hb dX12_lakes_16 rfl (lv_at hl 3 rfl) ?_
    obtain ⟨hPc, hDc, hFc, hC⟩ := k_cw (wc := []) hP hD hS hA [] (by decide +kernel) rfl
    refine va_calli (va_runS (As := [.int w1]) (rest := []) ⟨hx₀, hb, hml, hown, hts⟩ (c_isTwo l dC dI cI cJ cQ H.size w1) (va_cwS 1 hts (kGS wd_348 wd_346 wd_347 wd_5) rfl rfl rfl (by decide +kernel) ⟨Nat.le_of_ble_eq_true rfl, Nat.le_of_ble_eq_true rfl⟩) (k_preS hK hPc hDc hN) rfl rfl hl.1 rfl (lv_room (Nat.le_of_ble_eq_true rfl)) dX12_lakes_17 ⟨by decide +kernel, by decide +kernel⟩) hS (fun q _ h => hFc q h) hFc (fun r_19 u₀ t₀ H1 locs ht hvm hw hB hz1 hk1 hS => ?_)
    obtain ⟨hP1, hK1, hD1⟩ := hB
    rw [ht] at hP1
    have hJ := k_jn (wr := [(kAI vTo cI 96 qTo), (kAI vPr cI 2 qPr), (kAI vSt cI 2 qSt), (kAI vFn cI 2 qFn), (kAI vFt cI 32 qFt), (kX12 hm vFo vSi vIt vMo la vBy vTy (g_2 0) vMi (g_2 1) vPs (g_2 2) vGs fn vFt le vTo kn fe en ca an co vPr vSt vFn sn vSg vAl dr), (kAI vTy cI 3 qTy), (kAI vBy cI 120 qBy), (kAI vMi cI 24 (ga_3 0)), (kAI vPs cI 32 (ga_3 1)), (kAI vGs cI 16 (ga_3 2))]) (wt := [(kAI vTo cI 96 qTo), (kAI vPr cI 2 qPr), (kAI vSt cI 2 qSt), (kAI vFn cI 2 qFn), (kAI vFt cI 32 qFt), (kX12 hm vFo vSi vIt vMo la vBy vTy (g_2 0) vMi (g_2 1) vPs (g_2 2) vGs fn vFt le vTo kn fe en ca an co vPr vSt vFn sn vSg vAl dr), (kAI vTy cI 3 qTy), (kAI vBy cI 120 qBy), (kAI vMi cI 24 (ga_3 0)), (kAI vPs cI 32 (ga_3 1)), (kAI vGs cI 16 (ga_3 2))]) hP hD hC [0, 1, 2, 3, 4, 5, 6, 7, 8, 9, 10] rfl (by decide +kernel) (by decide +kernel) hk1 hFc hP1 hD1 rfl
    clear hP hD hPc hDc hFc hC hP1 hD1 hK1 hz1 hk1 hvm ht
    obtain ⟨hP, hD⟩ := hJ
    generalize H1 = H at hP hS ⊢
    try dsimp only at hw
    by_cases c_20 : 0 ≤ w1 ∧ w1 ≤ 1
    · rw [if_pos c_20] at hw
      refine k_topi (v := 1) hw ?_
      refine lv_if_eq (tgt := 33) hx₀ hb dX12_lakes_20 (by decide) (fun c9 => absurd c9 (by decide +kernel)) (fun _ => ?_)
      refine lv_aload_n hx₀ hb dX12_lakes_23 rfl (lv_at hl 0 rfl) ?_
      refine lv_iload_n hx₀ hb dX12_lakes_24 rfl (lv_at hl 1 rfl) ?_
      refine lv_iload_n hx₀ hb dX12_lakes_25 rfl (lv_at hl 2 rfl) ?_
      refine lv_iload_n hx₀ hb dX12_lakes_26 rfl (lv_at hl 3 rfl) ?_
      obtain ⟨hPc, hDc, hFc, hC⟩ := k_cw (wc := [(kX12 hm vFo vSi vIt vMo la vBy vTy (g_2 0) vMi (g_2 1) vPs (g_2 2) vGs fn vFt le vTo kn fe en ca an co vPr vSt vFn sn vSg vAl dr), (kAI vMi cI 24 (ga_3 0)), (kAI vPs cI 32 (ga_3 1)), (kAI vGs cI 16 (ga_3 2)), (kAI vTo cI 96 qTo), (kAI vPr cI 2 qPr), (kAI vSt cI 2 qSt), (kAI vFn cI 2 qFn)]) hP hD hS hA [5, 8, 9, 10, 0, 1, 2, 3] (by decide +kernel) rfl
      refine va_calli (va_runV (As := [.int z1, .int nn, .int w1]) (rest := []) ⟨hx₀, hb, hml, hown, hts⟩ (g_lakesOf l dC dI cI cJ cQ H.size hm z1 nn w1 vFo vSi vIt vMo la vBy vTy (g_2 0) vMi (g_2 1) vPs (g_2 2) vGs fn vFt le vTo kn fe en ca an co vPr vSt vFn sn vSg vAl dr (ga_3 0) (ga_3 1) (ga_3 2) qTo qPr qSt qFn (c_7) (c_8) (c_9) (hh3) (hh4) (hh5) (hh6)) (cwV 3 hts (kGV wd_851 wd_848 wd_849 wd_850 wd_5) rfl rfl rfl (by decide +kernel) ⟨Nat.le_of_ble_eq_true rfl, Nat.le_of_ble_eq_true rfl⟩) (k_preV11 (q0 := 0) hK hPc hDc hN rfl) rfl rfl hl.1 rfl (lv_room (Nat.le_of_ble_eq_true rfl)) dX12_lakes_27 ⟨by decide +kernel, by decide +kernel⟩) hS (fun q _ h => hFc q h) hFc (fun r_21 u₀ t₀ H1 locs ht hvm hw hB hz1 hk1 hS => ?_)
      obtain ⟨g_22, ga_23, gl_24, gb_25, gp_26⟩ := u₀
      obtain ⟨hP1, hK1, hD1⟩ := hB
      rw [ht] at hP1
      have hJ := k_jn (wr := [(kAI vFt cI 32 qFt), (kAI vTy cI 3 qTy), (kAI vBy cI 120 qBy)]) (wt := [(kAI vFt cI 32 qFt), (kAI vTy cI 3 qTy), (kAI vBy cI 120 qBy), (kX12 hm vFo vSi vIt vMo la vBy vTy (g_2 0) vMi (g_2 1) vPs (g_2 2) vGs fn vFt le vTo (g_22 0) (g_22 1) (g_22 2) ca (g_22 3) (g_22 4) vPr vSt vFn sn vSg vAl (g_22 5)), (kAI vMi cI 24 (ga_3 0)), (kAI vPs cI 32 (ga_3 1)), (kAI vGs cI 16 (ga_3 2)), (kAI vTo cI 96 (ga_23 0)), (kAI vPr cI 2 (ga_23 1)), (kAI vSt cI 2 (ga_23 2)), (kAI vFn cI 2 (ga_23 3))]) hP hD hC [4, 6, 7] rfl (by decide +kernel) (by decide +kernel) hk1 hFc hP1 hD1 rfl
      clear hP hD hPc hDc hFc hC hP1 hD1 hK1 hz1 hk1 hvm ht
      obtain ⟨hP, hD⟩ := hJ
      generalize H1 = H at hP hS ⊢
      try dsimp only at hw
      obtain ⟨c_27, c_28, c_29, c_30⟩ := hw
      refine lv_goto (tgt := 35) hx₀ hb dX12_lakes_30 (by decide) ?_
      obtain ⟨hP9, hD9⟩ := k_c2 (wc := [(kX12 hm vFo vSi vIt vMo la vBy vTy (g_2 0) vMi (g_2 1) vPs (g_2 2) vGs fn vFt le vTo (g_22 0) (g_22 1) (g_22 2) ca (g_22 3) (g_22 4) vPr vSt vFn sn vSg vAl (g_22 5)), (kAI vTy cI 3 qTy), (kAI vBy cI 120 qBy), (kAI vMi cI 24 (ga_3 0)), (kAI vPs cI 32 (ga_3 1)), (kAI vGs cI 16 (ga_3 2)), (kAI vTo cI 96 (ga_23 0)), (kAI vPr cI 2 (ga_23 1)), (kAI vSt cI 2 (ga_23 2)), (kAI vFn cI 2 (ga_23 3)), (kAI vFt cI 32 qFt)]) hP hD [3, 1, 2, 4, 5, 6, 7, 8, 9, 10, 0] (by decide +kernel) rfl
      exact W.iret (v := r_21) hx₀ hb hr (fun t₀ ht hW => ⟨⟨r_21, (k_fn [(g_2 0), (g_2 1), (g_2 2), (g_22 0), (g_22 1), (g_22 2), (g_22 3), (g_22 4), (g_22 5)], k_fa [(ga_3 0), (ga_3 1), (ga_3 2), ga_23 0, ga_23 1, ga_23 2, ga_23 3], k_fl [], k_fL [], k_fp []), rfl, ⟨c_7, c_8, c_9, c_27, c_28, c_29, c_30⟩, by rw [ht]; exact hP9, va_K.moved hW.alike hK, hD9⟩, hS.F ht⟩) hS.2.2 dX12_lakes_35
    rw [if_neg c_20] at hw
    refine k_topi (v := 0) hw ?_
    refine lv_if_eq (tgt := 33) hx₀ hb dX12_lakes_20 (by decide) (fun _ => ?_) (fun c9 => absurd (by decide +kernel) c9)
    refine lv_bipush (v := (-2)) hx₀ hb dX12_lakes_33 (by decide +kernel) ?_
    obtain ⟨hP9, hD9⟩ := k_c2 (wc := [(kX12 hm vFo vSi vIt vMo la vBy vTy (g_2 0) vMi (g_2 1) vPs (g_2 2) vGs fn vFt le vTo kn fe en ca an co vPr vSt vFn sn vSg vAl dr), (kAI vTy cI 3 qTy), (kAI vBy cI 120 qBy), (kAI vMi cI 24 (ga_3 0)), (kAI vPs cI 32 (ga_3 1)), (kAI vGs cI 16 (ga_3 2)), (kAI vTo cI 96 qTo), (kAI vPr cI 2 qPr), (kAI vSt cI 2 qSt), (kAI vFn cI 2 qFn), (kAI vFt cI 32 qFt)]) hP hD [5, 6, 7, 8, 9, 10, 0, 1, 2, 3, 4] (by decide +kernel) rfl
    exact W.iret (v := (-2)) hx₀ hb hr (fun t₀ ht hW => ⟨⟨(-2), (k_fn [(g_2 0), (g_2 1), (g_2 2), kn, fe, en, an, co, dr], k_fa [ga_3 0, ga_3 1, ga_3 2, qTo, qPr, qSt, qFn], k_fl [], k_fL [], k_fp []), rfl, ⟨c_7, c_8, c_9, hh3, hh4, hh5, hh6⟩, by rw [ht]; exact hP9, va_K.moved hW.alike hK, hD9⟩, hS.F ht⟩) hS.2.2 dX12_lakes_35
  rw [if_neg c_18] at hw
  refine k_topi (v := 0) hw ?_
  refine lv_if_eq (tgt := 33) hx₀ hb dX12_lakes_13 (by decide) (fun _ => ?_) (fun c9 => absurd (by decide +kernel) c9)
  refine lv_bipush (v := (-2)) hx₀ hb dX12_lakes_33 (by decide +kernel) ?_
  obtain ⟨hP9, hD9⟩ := k_c2 (wc := [(kX12 hm vFo vSi vIt vMo la vBy vTy (g_2 0) vMi (g_2 1) vPs (g_2 2) vGs fn vFt le vTo kn fe en ca an co vPr vSt vFn sn vSg vAl dr), (kAI vTy cI 3 qTy), (kAI vBy cI 120 qBy), (kAI vMi cI 24 (ga_3 0)), (kAI vPs cI 32 (ga_3 1)), (kAI vGs cI 16 (ga_3 2)), (kAI vTo cI 96 qTo), (kAI vPr cI 2 qPr), (kAI vSt cI 2 qSt), (kAI vFn cI 2 qFn), (kAI vFt cI 32 qFt)]) hP hD [5, 6, 7, 8, 9, 10, 0, 1, 2, 3, 4] (by decide +kernel) rfl
  exact W.iret (v := (-2)) hx₀ hb hr (fun t₀ ht hW => ⟨⟨(-2), (k_fn [(g_2 0), (g_2 1), (g_2 2), kn, fe, en, an, co, dr], k_fa [ga_3 0, ga_3 1, ga_3 2, qTo, qPr, qSt, qFn], k_fl [], k_fL [], k_fp []), rfl, ⟨c_7, c_8, c_9, hh3, hh4, hh5, hh6⟩, by rw [ht]; exact hP9, va_K.moved hW.alike hK, hD9⟩, hS.F ht⟩) hS.2.2 dX12_lakes_35
