theorem lf_e_townsm_1 (a0 : Int32) (a1 : Int32) (a2 : Int32) (a3 : Nat) (h0 : 0 ≤ a0 ∧ a0 ≤ 24) (h1 : 0 ≤ a1 ∧ a1 ≤ a0) (h2 : 0 ≤ a2 ∧ a2 ≤ a1) (h3 : (a0.toInt - a1.toInt).toNat = a3) (h4 : a0 ≤ a1) : a1 = a0 := by
  first | rfl | assumption | decide | exact Or.inl rfl | (first | omega | (have hr0 := Int32.toInt_lt a0; have hs0 := Int32.le_toInt a0; have hr1 := Int32.toInt_lt a1; have hs1 := Int32.le_toInt a1; have hr2 := Int32.toInt_lt a2; have hs2 := Int32.le_toInt a2; simp only [Int64.toInt_add, Int64.toInt_sub, Int32.toInt_add, Int32.toInt_sub, Int32.toInt_mul, Int32.toInt_neg, Int64.le_iff_toInt_le, Int64.lt_iff_toInt_lt, Int32.le_iff_toInt_le, Int32.lt_iff_toInt_lt, ← Int32.toInt_inj, ← Int64.toInt_inj, Int32.toInt_toInt64, (show (0 : Int32).toInt = 0 from by decide), (show (0 : Int64).toInt = 0 from by decide), (show (24 : Int32).toInt = 24 from by decide), (show (24 : Int64).toInt = 24 from by decide)] at *; (first | omega | ((try simp (disch := omega) only [k_bm64] at *); (try simp (disch := omega) only [k_bm] at *); (try simp (disch := omega) only [k_bm] at *); omega) | (simp only [Int.bmod] at *; omega))))
theorem lf_e_townsm_2 (a0 : Int32) (a1 : Int32) (a2 : Int32) (a3 : Nat) (h0 : 0 ≤ a0 ∧ a0 ≤ 24) (h1 : 0 ≤ a1 ∧ a1 ≤ a0) (h2 : 0 ≤ a2 ∧ a2 ≤ a1) (h3 : (a0.toInt - a1.toInt).toNat = a3) (h4 : ¬ a0 ≤ a1) : 0 ≤ a1 ∧ a1 ≤ 24 := by
  first | rfl | assumption | decide | exact Or.inl rfl | (first | omega | (have hr0 := Int32.toInt_lt a0; have hs0 := Int32.le_toInt a0; have hr1 := Int32.toInt_lt a1; have hs1 := Int32.le_toInt a1; have hr2 := Int32.toInt_lt a2; have hs2 := Int32.le_toInt a2; simp only [Int64.toInt_add, Int64.toInt_sub, Int32.toInt_add, Int32.toInt_sub, Int32.toInt_mul, Int32.toInt_neg, Int64.le_iff_toInt_le, Int64.lt_iff_toInt_lt, Int32.le_iff_toInt_le, Int32.lt_iff_toInt_lt, ← Int32.toInt_inj, ← Int64.toInt_inj, Int32.toInt_toInt64, (show (0 : Int32).toInt = 0 from by decide), (show (0 : Int64).toInt = 0 from by decide), (show (24 : Int32).toInt = 24 from by decide), (show (24 : Int64).toInt = 24 from by decide)] at *; (first | omega | ((try simp (disch := omega) only [k_bm64] at *); (try simp (disch := omega) only [k_bm] at *); (try simp (disch := omega) only [k_bm] at *); omega) | (simp only [Int.bmod] at *; omega))))
set_option maxHeartbeats 4000000 in
set_option maxRecDepth 100000 in
theorem e_townsm (l : Launch) (dC : Nat → ClassId) (dI : Nat → Nat → Nat) (cI cJ cQ : ClassId) (sz : Nat) (hm : Nat) (vFo : Nat) (vSi : Nat) (vIt : Nat) (vMo : Nat) (la : Int32) (vBy : Nat) (vTy : Nat) (mi : Int32) (vMi : Nat) (pn : Int32) (vPs : Nat) (gn : Int32) (vGs : Nat) (fn : Int32) (vFt : Nat) (le : Int32) (vTo : Nat) (kn : Int32) (fe : Int32) (en : Int32) (ca : Int32) (an : Int32) (co : Int32) (vPr : Nat) (vSt : Nat) (vFn : Nat) (sn : Int32) (vSg : Nat) (vAl : Nat) (dr : Int32) (qMi : Nat → Int32) (hh0 : 0 ≤ mi ∧ mi ≤ 24) : Met l yX12_towns (kW yX12_towns cX12_towns 3 (some .int)) { frames := 0, cells := 0, slots := 0, locals := 0 } (kPre dC dI cI cJ cQ sz [.ref hm] [(kX12 hm vFo vSi vIt vMo la vBy vTy mi vMi pn vPs gn vGs fn vFt le vTo kn fe en ca an co vPr vSt vFn sn vSg vAl dr), (kAI vMi cI 24 qMi)]) (va_Qi (fun (r : Int32) (u : Unit) => (r = nI (kTw (kM qMi) mi.toNatClampNeg)) ∧ (0 ≤ r ∧ r ≤ 24)) (fun (u : Unit) t₀ => kB dC dI cI cJ cQ (va_A [(kX12 hm vFo vSi vIt vMo la vBy vTy mi vMi pn vPs gn vGs fn vFt le vTo kn fe en ca an co vPr vSt vFn sn vSg vAl dr), (kAI vMi cI 24 qMi)] sz) [(kX12 hm vFo vSi vIt vMo la vBy vTy mi vMi pn vPs gn vGs fn vFt le vTo kn fe en ca an co vPr vSt vFn sn vSg vAl dr), (kAI vMi cI 24 qMi)] t₀) (va_A [(kX12 hm vFo vSi vIt vMo la vBy vTy mi vMi pn vPs gn vGs fn vFt le vTo kn fe en ca an co vPr vSt vFn sn vSg vAl dr), (kAI vMi cI 24 qMi)] sz)) 0 0 (va_A [(kX12 hm vFo vSi vIt vMo la vBy vTy mi vMi pn vPs gn vGs fn vFt le vTo kn fe en ca an co vPr vSt vFn sn vSg vAl dr), (kAI vMi cI 24 qMi)] sz) := by
  refine Met.ofW (cc := cX12_towns) (maxL := 3) (ret := (some .int)) (by decide) rfl ?_
  intro p₀ e₀ s₀ m₀ args below meth c₀ s₁ B hml hv₀
  obtain ⟨rfl, hsz, hP, hK, hD0, hN⟩ := hv₀
  have hx₀ := B.exec
  have hb := B.bytes
  have hr := B.returns
  have hts := atoms_spec (ws := (kW yX12_towns cX12_towns 3 (some .int))) B.pre
  have hts := fun w h => hts w (List.mem_cons_of_mem _ h)
  have hown : s₀.vm.findClass RX12 = some m₀.cls := findClass_of_methodNamed B.named
  have hlocks := B.notSynchronized
  subst hsz
  have hD := hD0.self (sz := s₀.heap.size)
  generalize hAe : va_A [(kX12 hm vFo vSi vIt vMo la vBy vTy mi vMi pn vPs gn vGs fn vFt le vTo kn fe en ca an co vPr vSt vFn sn vSg vAl dr), (kAI vMi cI 24 qMi)] s₀.heap.size = A at hD ⊢
  have hA : ∀ q : Nat, s₀.heap.size ≤ q → A q := fun q h => by rw [← hAe]; exact Or.inr h
  have hS : va_S A s₀.heap s₀.heap [] := va_S.rf
  have hP : va_P (dC, dI) vwCl [(kX12 hm vFo vSi vIt vMo la vBy vTy mi vMi pn vPs gn vGs fn vFt le vTo kn fe en ca an co vPr vSt vFn sn vSg vAl dr), (kAI vMi cI 24 qMi)] s₀.heap := hP
  have hl := lv_entry ([.ref hm]) (n := 3) (Nat.le_of_ble_eq_true rfl)
  rw [lg_entry_eq]
  generalize (lg_sl ([.ref hm]) ++ List.replicate (3 - (lg_sl ([.ref hm])).length) Slot.unset).toArray = ls at hl ⊢
  have hl : lv_has ls 3 [(0, .ref hm)] := hl
  obtain ⟨H, hH⟩ : ∃ z : Heap, z = s₀.heap := ⟨_, rfl⟩
  rw [← hH] at hP
  have hS : va_S A s₀.heap H [] := by rw [hH]; exact hS
  refine k_heap hH ?_
  have hD : va_D A [(kX12 hm vFo vSi vIt vMo la vBy vTy mi vMi pn vPs gn vGs fn vFt le vTo kn fe en ca an co vPr vSt vFn sn vSg vAl dr), (kAI vMi cI 24 qMi)] := hD
  obtain ⟨locs, hlo⟩ : ∃ z : List Loc, z = [] := ⟨_, rfl⟩
  rw [← hlo] at hS ⊢
  clear hlo hH hAe hD0
  refine lv_iconst (v := 0) hx₀ hb dX12_towns_0 (by decide +kernel) ?_
  refine lv_istore_n (lv' := [(1, .int 0), (0, .ref hm)]) hx₀ hb dX12_towns_1 rfl hl (by decide) rfl (fun ls hl => ?_)
  refine lv_iconst (v := 0) hx₀ hb dX12_towns_2 (by decide +kernel) ?_
  refine lv_istore_n (lv' := [(2, .int 0), (1, .int 0), (0, .ref hm)]) hx₀ hb dX12_towns_3 rfl hl (by decide) rfl (fun ls hl => ?_)
  refine (?keyz1 : ∀ (jz1 : Nat) (nz1 : Int32) (iz1 : Int32) (H : Heap) (locs : List Loc) (ls : Array Slot), (0 ≤ iz1 ∧ iz1 ≤ mi) → (0 ≤ nz1 ∧ nz1 ≤ iz1) → (nz1 = nI (kTw (kM qMi) iz1.toNatClampNeg)) → ((mi.toInt - iz1.toInt).toNat = jz1) → va_P (dC, dI) vwCl [(kX12 hm vFo vSi vIt vMo la vBy vTy mi vMi pn vPs gn vGs fn vFt le vTo kn fe en ca an co vPr vSt vFn sn vSg vAl dr), (kAI vMi cI 24 qMi)] H → va_D A [(kX12 hm vFo vSi vIt vMo la vBy vTy mi vMi pn vPs gn vGs fn vFt le vTo kn fe en ca an co vPr vSt vFn sn vSg vAl dr), (kAI vMi cI 24 qMi)] → va_S A s₀.heap H locs → lv_has ls 3 [(2, .int iz1), (1, .int nz1), (0, .ref hm)] → W p₀ l e₀ _ s₀ m₀ _ below meth c₀ H locs _ _ _ (F0 m₀ 4 ls [])) _ (0 : Int32) (0 : Int32) H locs ls (show 0 ≤ (0 : Int32) ∧ (0 : Int32) ≤ mi from ⟨(by decide), hh0.1⟩) (show 0 ≤ (0 : Int32) ∧ (0 : Int32) ≤ (0 : Int32) from ⟨(by decide), (by decide)⟩) (rfl) rfl hP hD hS hl
  clear hP hD hS hl
  intro jz1
  induction jz1 using Nat.strongRecOn with
  | ind jz1 ihz1 =>
    intro nz1 iz1 H locs ls hiz1_0 hiz1_1 hiz1_2 hjz1 hP hD hS hl
    refine lv_iload_n hx₀ hb dX12_towns_4 rfl (lv_at hl 0 rfl) ?_
    refine lv_aload_n hx₀ hb dX12_towns_5 rfl (lv_at hl 2 rfl) ?_
    refine va_get (D := (dC, dI)) (ci := 11) (v := .int mi) (C := RX12) (T := TX12) (N := 30) hx₀ hb hts inlX12 hown hK hP 0 rfl rfl 7 (by decide) (hts (.fieldLink RX12 107 "BittenStickModel" "miles" "I") wd_252) (fun _ h9 => h9) rfl dX12_towns_6 ?_
    refine lv_icmp_ge (tgt := 37) hx₀ hb dX12_towns_9 (by decide) (fun c_2 => ?_) (fun c_2 => ?_)
    · refine lv_iload_n hx₀ hb dX12_towns_37 rfl (lv_at hl 1 rfl) ?_
      obtain ⟨hP9, hD9⟩ := k_c2 (wc := [(kX12 hm vFo vSi vIt vMo la vBy vTy mi vMi pn vPs gn vGs fn vFt le vTo kn fe en ca an co vPr vSt vFn sn vSg vAl dr), (kAI vMi cI 24 qMi)]) hP hD [0, 1] (by decide +kernel) rfl
      exact W.iret (v := nz1) hx₀ hb hr (fun t₀ ht hW => ⟨⟨nz1, (), rfl, ⟨((by rw [hiz1_2, (lf_e_townsm_1 mi iz1 nz1 jz1 hh0 hiz1_0 hiz1_1 hjz1 c_2)])), (lf_g_towns_1 mi iz1 nz1 jz1 hh0 hiz1_0 hiz1_1 hjz1 c_2)⟩, by rw [ht]; exact hP9, va_K.moved hW.alike hK, hD9⟩, hS.F ht⟩) hS.2.2 dX12_towns_38
    · refine lv_iload_n hx₀ hb dX12_towns_12 rfl (lv_at hl 1 rfl) ?_
      refine lv_aload_n hx₀ hb dX12_towns_13 rfl (lv_at hl 2 rfl) ?_
      refine va_get (D := (dC, dI)) (ci := 11) (v := .ref vMi) (C := RX12) (T := TX12) (N := 30) hx₀ hb hts inlX12 hown hK hP 0 rfl rfl 8 (by decide) (hts (.fieldLink RX12 28 "BittenStickModel" "mile" "[I") wd_121) (fun _ h9 => h9) rfl dX12_towns_14 ?_
      refine lv_iload_n hx₀ hb dX12_towns_17 rfl (lv_at hl 0 rfl) ?_
      refine va_iald hx₀ hb hK hP 1 0 rfl rfl (vp_in_iff.mpr (lf_g_towns_2 mi iz1 nz1 jz1 hh0 hiz1_0 hiz1_1 hjz1 c_2)) dX12_towns_18 ?_
      refine k_topi (v := kM qMi iz1) rfl ?_
      refine lv_bipush (v := 6) hx₀ hb dX12_towns_19 (by decide +kernel) ?_
      refine lv_icmp_ge (tgt := 28) hx₀ hb dX12_towns_21 (by decide) (fun c_3 => ?_) (fun c_3 => ?_)
      · refine lv_iconst (v := 0) hx₀ hb dX12_towns_28 (by decide +kernel) ?_
        refine lv_iadd hx₀ hb dX12_towns_29 ?_
        refine lv_istore_n (lv' := [(1, .int (nz1 + 0)), (2, .int iz1), (0, .ref hm)]) hx₀ hb dX12_towns_30 rfl hl (by decide) rfl (fun ls hl => ?_)
        refine lv_iinc (v := iz1 + 1) (lv' := [(2, .int (iz1 + 1)), (1, .int (nz1 + 0)), (0, .ref hm)]) hx₀ hb dX12_towns_31 hl (k := 1) rfl rfl (by decide) rfl (fun ls hl => ?_)
        refine lv_goto (tgt := 4) hx₀ hb dX12_towns_34 (by decide) ?_
        exact ihz1 _ (lf_g_towns_5 mi iz1 nz1 jz1 hh0 hiz1_0 hiz1_1 hjz1 c_2) (nz1 + 0) (iz1 + 1) _ _ _ (lf_g_towns_3 mi iz1 nz1 jz1 hh0 hiz1_0 hiz1_1 hjz1 c_2) (lf_g_towns_4 mi iz1 nz1 jz1 hh0 hiz1_0 hiz1_1 hjz1 c_2) (((Int32.add_zero _).trans (k_tw_n (lf_e_townsm_2 mi iz1 nz1 jz1 hh0 hiz1_0 hiz1_1 hjz1 c_2) hiz1_2 (Int32.not_lt.mpr c_3)))) rfl (hP.sub [0, 1] rfl) (hD.sub [0, 1] (by decide +kernel) rfl) hS (lv_sub hl [0, 1, 2] rfl)
      · refine lv_iconst (v := 1) hx₀ hb dX12_towns_24 (by decide +kernel) ?_
        refine lv_goto (tgt := 29) hx₀ hb dX12_towns_25 (by decide) ?_
        refine lv_iadd hx₀ hb dX12_towns_29 ?_
        refine lv_istore_n (lv' := [(1, .int (nz1 + 1)), (2, .int iz1), (0, .ref hm)]) hx₀ hb dX12_towns_30 rfl hl (by decide) rfl (fun ls hl => ?_)
        refine lv_iinc (v := iz1 + 1) (lv' := [(2, .int (iz1 + 1)), (1, .int (nz1 + 1)), (0, .ref hm)]) hx₀ hb dX12_towns_31 hl (k := 1) rfl rfl (by decide) rfl (fun ls hl => ?_)
        refine lv_goto (tgt := 4) hx₀ hb dX12_towns_34 (by decide) ?_
        exact ihz1 _ (lf_g_towns_5 mi iz1 nz1 jz1 hh0 hiz1_0 hiz1_1 hjz1 c_2) (nz1 + 1) (iz1 + 1) _ _ _ (lf_g_towns_3 mi iz1 nz1 jz1 hh0 hiz1_0 hiz1_1 hjz1 c_2) (lf_g_towns_6 mi iz1 nz1 jz1 hh0 hiz1_0 hiz1_1 hjz1 c_2) (k_tw_y (lf_e_townsm_2 mi iz1 nz1 jz1 hh0 hiz1_0 hiz1_1 hjz1 c_2) hiz1_2 (Int32.not_le.mp c_3)) rfl (hP.sub [0, 1] rfl) (hD.sub [0, 1] (by decide +kernel) rfl) hS (lv_sub hl [0, 1, 2] rfl)
set_option maxHeartbeats 4000000 in
set_option maxRecDepth 100000 in
theorem e_calls (l : Launch) (dC : Nat → ClassId) (dI : Nat → Nat → Nat) (cI cJ cQ : ClassId) (sz : Nat) (hm : Nat) (so : Int32) (vFo : Nat) (vSi : Nat) (vIt : Nat) (vMo : Nat) (la : Int32) (vBy : Nat) (vTy : Nat) (mi : Int32) (vMi : Nat) (pn : Int32) (vPs : Nat) (gn : Int32) (vGs : Nat) (fn : Int32) (vFt : Nat) (le : Int32) (vTo : Nat) (kn : Int32) (fe : Int32) (en : Int32) (ca : Int32) (an : Int32) (co : Int32) (vPr : Nat) (vSt : Nat) (vFn : Nat) (sn : Int32) (vSg : Nat) (vAl : Nat) (dr : Int32) (qMi : Nat → Int32) (hh0 : 0 ≤ mi ∧ mi ≤ 24) (hh1 : 0 ≤ so ∧ so.toInt < 1000000) : Met l yX12_calls (kW yX12_calls cX12_calls 5 (some .int)) { frames := 1, cells := 0, slots := 0, locals := 21 } (kPre dC dI cI cJ cQ sz [.ref hm, .int so] [(kX12 hm vFo vSi vIt vMo la vBy vTy mi vMi pn vPs gn vGs fn vFt le vTo kn fe en ca an co vPr vSt vFn sn vSg vAl dr), (kAI vMi cI 24 qMi)]) (va_Qi (fun (r : Int32) (u : Unit) => (k_ca (kM qMi) so mi r)) (fun (u : Unit) t₀ => kB dC dI cI cJ cQ (va_A [(kX12 hm vFo vSi vIt vMo la vBy vTy mi vMi pn vPs gn vGs fn vFt le vTo kn fe en ca an co vPr vSt vFn sn vSg vAl dr), (kAI vMi cI 24 qMi)] sz) [(kX12 hm vFo vSi vIt vMo la vBy vTy mi vMi pn vPs gn vGs fn vFt le vTo kn fe en ca an co vPr vSt vFn sn vSg vAl dr), (kAI vMi cI 24 qMi)] t₀) (va_A [(kX12 hm vFo vSi vIt vMo la vBy vTy mi vMi pn vPs gn vGs fn vFt le vTo kn fe en ca an co vPr vSt vFn sn vSg vAl dr), (kAI vMi cI 24 qMi)] sz)) 0 0 (va_A [(kX12 hm vFo vSi vIt vMo la vBy vTy mi vMi pn vPs gn vGs fn vFt le vTo kn fe en ca an co vPr vSt vFn sn vSg vAl dr), (kAI vMi cI 24 qMi)] sz) := by
  refine Met.ofW (cc := cX12_calls) (maxL := 5) (ret := (some .int)) (by decide) rfl ?_
  intro p₀ e₀ s₀ m₀ args below meth c₀ s₁ B hml hv₀
  obtain ⟨rfl, hsz, hP, hK, hD0, hN⟩ := hv₀
  have hx₀ := B.exec
  have hb := B.bytes
  have hr := B.returns
  have hts := atoms_spec (ws := (kW yX12_calls cX12_calls 5 (some .int))) B.pre
  have hts := fun w h => hts w (List.mem_cons_of_mem _ h)
  have hown : s₀.vm.findClass RX12 = some m₀.cls := findClass_of_methodNamed B.named
  have hlocks := B.notSynchronized
  subst hsz
  have hD := hD0.self (sz := s₀.heap.size)
  generalize hAe : va_A [(kX12 hm vFo vSi vIt vMo la vBy vTy mi vMi pn vPs gn vGs fn vFt le vTo kn fe en ca an co vPr vSt vFn sn vSg vAl dr), (kAI vMi cI 24 qMi)] s₀.heap.size = A at hD ⊢
  have hA : ∀ q : Nat, s₀.heap.size ≤ q → A q := fun q h => by rw [← hAe]; exact Or.inr h
  have hS : va_S A s₀.heap s₀.heap [] := va_S.rf
  have hP : va_P (dC, dI) vwCl [(kX12 hm vFo vSi vIt vMo la vBy vTy mi vMi pn vPs gn vGs fn vFt le vTo kn fe en ca an co vPr vSt vFn sn vSg vAl dr), (kAI vMi cI 24 qMi)] s₀.heap := hP
  have hl := lv_entry ([.ref hm, .int so]) (n := 5) (Nat.le_of_ble_eq_true rfl)
  rw [lg_entry_eq]
  generalize (lg_sl ([.ref hm, .int so]) ++ List.replicate (5 - (lg_sl ([.ref hm, .int so])).length) Slot.unset).toArray = ls at hl ⊢
  have hl : lv_has ls 5 [(0, .ref hm), (1, .int so)] := hl
  obtain ⟨H, hH⟩ : ∃ z : Heap, z = s₀.heap := ⟨_, rfl⟩
  rw [← hH] at hP
  have hS : va_S A s₀.heap H [] := by rw [hH]; exact hS
  refine k_heap hH ?_
  have hD : va_D A [(kX12 hm vFo vSi vIt vMo la vBy vTy mi vMi pn vPs gn vGs fn vFt le vTo kn fe en ca an co vPr vSt vFn sn vSg vAl dr), (kAI vMi cI 24 qMi)] := hD
  obtain ⟨locs, hlo⟩ : ∃ z : List Loc, z = [] := ⟨_, rfl⟩
  rw [← hlo] at hS ⊢
  clear hlo hH hAe hD0
  refine lv_iconst (v := 0) hx₀ hb dX12_calls_0 (by decide +kernel) ?_
  refine lv_istore_n (lv' := [(2, .int 0), (0, .ref hm), (1, .int so)]) hx₀ hb dX12_calls_1 rfl hl (by decide) rfl (fun ls hl => ?_)
  refine lv_iconst (v := 0) hx₀ hb dX12_calls_2 (by decide +kernel) ?_
  refine lv_istore_n (lv' := [(3, .int 0), (2, .int 0), (0, .ref hm), (1, .int so)]) hx₀ hb dX12_calls_3 rfl hl (by decide) rfl (fun ls hl => ?_)
  refine lv_iconst (v := 0) hx₀ hb dX12_calls_4 (by decide +kernel) ?_
  refine lv_istore (lv' := [(4, .int 0), (3, .int 0), (2, .int 0), (0, .ref hm), (1, .int so)]) hx₀ hb dX12_calls_5 hl (by decide) rfl (fun ls hl => ?_)
  refine (?keyz1 : ∀ (jz1 : Nat) (biz1 : Int32) (kz1 : Int32) (iz1 : Int32) (H : Heap) (locs : List Loc) (ls : Array Slot), (0 ≤ iz1 ∧ iz1 ≤ mi) → (k_cb (kM qMi) so iz1 kz1 biz1) → ((mi.toInt - iz1.toInt).toNat = jz1) → va_P (dC, dI) vwCl [(kX12 hm vFo vSi vIt vMo la vBy vTy mi vMi pn vPs gn vGs fn vFt le vTo kn fe en ca an co vPr vSt vFn sn vSg vAl dr), (kAI vMi cI 24 qMi)] H → va_D A [(kX12 hm vFo vSi vIt vMo la vBy vTy mi vMi pn vPs gn vGs fn vFt le vTo kn fe en ca an co vPr vSt vFn sn vSg vAl dr), (kAI vMi cI 24 qMi)] → va_S A s₀.heap H locs → lv_has ls 5 [(4, .int iz1), (3, .int kz1), (2, .int biz1), (0, .ref hm), (1, .int so)] → W p₀ l e₀ _ s₀ m₀ _ below meth c₀ H locs _ _ _ (F0 m₀ 7 ls [])) _ (0 : Int32) (0 : Int32) (0 : Int32) H locs ls (show 0 ≤ (0 : Int32) ∧ (0 : Int32) ≤ mi from ⟨(by decide), hh0.1⟩) (k_cb_0 hh1) rfl hP hD hS hl
  clear hP hD hS hl
  intro jz1
  induction jz1 using Nat.strongRecOn with
  | ind jz1 ihz1 =>
    intro biz1 kz1 iz1 H locs ls hiz1_0 hiz1_1 hjz1 hP hD hS hl
    refine lv_iload hx₀ hb dX12_calls_7 (lv_at hl 0 rfl) ?_
    refine lv_aload_n hx₀ hb dX12_calls_9 rfl (lv_at hl 3 rfl) ?_
    refine va_get (D := (dC, dI)) (ci := 11) (v := .int mi) (C := RX12) (T := TX12) (N := 30) hx₀ hb hts inlX12 hown hK hP 0 rfl rfl 7 (by decide) (hts (.fieldLink RX12 107 "BittenStickModel" "miles" "I") wd_252) (fun _ h9 => h9) rfl dX12_calls_10 ?_
    refine lv_icmp_ge (tgt := 56) hx₀ hb dX12_calls_13 (by decide) (fun c_2 => ?_) (fun c_2 => ?_)
    · refine lv_iload_n hx₀ hb dX12_calls_56 rfl (lv_at hl 2 rfl) ?_
      obtain ⟨hP9, hD9⟩ := k_c2 (wc := [(kX12 hm vFo vSi vIt vMo la vBy vTy mi vMi pn vPs gn vGs fn vFt le vTo kn fe en ca an co vPr vSt vFn sn vSg vAl dr), (kAI vMi cI 24 qMi)]) hP hD [0, 1] (by decide +kernel) rfl
      exact W.iret (v := biz1) hx₀ hb hr (fun t₀ ht hW => ⟨⟨biz1, (), rfl, (k_cb_e hiz1_1 (lf_e_towns_1 mi iz1 jz1 hh0 hiz1_0 hjz1 c_2)), by rw [ht]; exact hP9, va_K.moved hW.alike hK, hD9⟩, hS.F ht⟩) hS.2.2 dX12_calls_57
    · refine lv_aload_n hx₀ hb dX12_calls_16 rfl (lv_at hl 3 rfl) ?_
      refine va_get (D := (dC, dI)) (ci := 11) (v := .ref vMi) (C := RX12) (T := TX12) (N := 30) hx₀ hb hts inlX12 hown hK hP 0 rfl rfl 8 (by decide) (hts (.fieldLink RX12 28 "BittenStickModel" "mile" "[I") wd_121) (fun _ h9 => h9) rfl dX12_calls_17 ?_
      refine lv_iload hx₀ hb dX12_calls_20 (lv_at hl 0 rfl) ?_
      refine va_iald hx₀ hb hK hP 1 0 rfl rfl (vp_in_iff.mpr (lf_g_calls_1 mi iz1 jz1 hh0 hiz1_0 hjz1 c_2)) dX12_calls_22 ?_
      refine k_topi (v := kM qMi iz1) rfl ?_
      refine lv_bipush (v := 6) hx₀ hb dX12_calls_23 (by decide +kernel) ?_
      refine lv_icmp_ge (tgt := 50) hx₀ hb dX12_calls_25 (by decide) (fun c_3 => ?_) (fun c_3 => ?_)
      · refine lv_iinc (v := iz1 + 1) (lv' := [(4, .int (iz1 + 1)), (3, .int kz1), (2, .int biz1), (0, .ref hm), (1, .int so)]) hx₀ hb dX12_calls_50 hl (k := 0) rfl rfl (by decide) rfl (fun ls hl => ?_)
        refine lv_goto (tgt := 7) hx₀ hb dX12_calls_53 (by decide) ?_
        exact ihz1 _ (lf_g_calls_3 mi iz1 jz1 hh0 hiz1_0 hjz1 c_2) biz1 kz1 (iz1 + 1) _ _ _ (lf_g_calls_2 mi iz1 jz1 hh0 hiz1_0 hjz1 c_2) (k_cb_n hiz1_1 hh0.2 c_2 (Int32.not_lt.mpr c_3)) rfl (hP.sub [0, 1] rfl) (hD.sub [0, 1] (by decide +kernel) rfl) hS (lv_sub hl [0, 1, 2, 3, 4] rfl)
      · refine lv_iload_n hx₀ hb dX12_calls_28 rfl (lv_at hl 2 rfl) ?_
        refine lv_iload_n hx₀ hb dX12_calls_29 rfl (lv_at hl 4 rfl) ?_
        refine lv_iload_n hx₀ hb dX12_calls_30 rfl (lv_at hl 1 rfl) ?_
        obtain ⟨hPc, hDc, hFc, hC⟩ := k_cw (wc := []) hP hD hS hA [] (by decide +kernel) rfl
        refine va_calli (va_runS (As := [.int so, .int kz1]) (rest := [.int biz1]) ⟨hx₀, hb, hml, hown, hts⟩ (g_isIn l dC dI cI cJ cQ H.size so kz1) (va_cwS 2 hts (kGS wd_560 wd_558 wd_559 wd_5) rfl rfl rfl (by decide +kernel) ⟨Nat.le_of_ble_eq_true rfl, Nat.le_of_ble_eq_true rfl⟩) (k_preS hK hPc hDc hN) rfl rfl hl.1 rfl (lv_room (Nat.le_of_ble_eq_true rfl)) dX12_calls_31 ⟨by decide +kernel, by decide +kernel⟩) hS (fun q _ h => hFc q h) hFc (fun r_4 u₀ t₀ H1 locs ht hvm hw hB hz1 hk1 hS => ?_)
        obtain ⟨hP1, hK1, hD1⟩ := hB
        rw [ht] at hP1
        have hJ := k_jn (wr := [(kX12 hm vFo vSi vIt vMo la vBy vTy mi vMi pn vPs gn vGs fn vFt le vTo kn fe en ca an co vPr vSt vFn sn vSg vAl dr), (kAI vMi cI 24 qMi)]) (wt := [(kX12 hm vFo vSi vIt vMo la vBy vTy mi vMi pn vPs gn vGs fn vFt le vTo kn fe en ca an co vPr vSt vFn sn vSg vAl dr), (kAI vMi cI 24 qMi)]) hP hD hC [0, 1] rfl (by decide +kernel) (by decide +kernel) hk1 hFc hP1 hD1 rfl
        clear hP hD hPc hDc hFc hC hP1 hD1 hK1 hz1 hk1 hvm ht
        obtain ⟨hP, hD⟩ := hJ
        generalize H1 = H at hP hS ⊢
        try dsimp only at hw
        by_cases c_5 : ((so >>> (kz1 &&& 31)) &&& 1) = 1
        · rw [if_pos c_5] at hw
          refine k_topi (v := 1) hw ?_
          refine lv_if_eq (tgt := 44) hx₀ hb dX12_calls_34 (by decide) (fun c9 => absurd c9 (by decide +kernel)) (fun _ => ?_)
          refine lv_iconst (v := 1) hx₀ hb dX12_calls_37 (by decide +kernel) ?_
          refine lv_iload hx₀ hb dX12_calls_38 (lv_at hl 0 rfl) ?_
          refine lv_ishl hx₀ hb dX12_calls_40 ?_
          refine k_topi (v := kshl iz1) rfl ?_
          refine lv_goto (tgt := 45) hx₀ hb dX12_calls_41 (by decide) ?_
          refine lv_ior hx₀ hb dX12_calls_45 ?_
          refine lv_istore_n (lv' := [(2, .int (biz1 ||| (kshl iz1))), (4, .int iz1), (3, .int kz1), (0, .ref hm), (1, .int so)]) hx₀ hb dX12_calls_46 rfl hl (by decide) rfl (fun ls hl => ?_)
          refine lv_iinc (v := kz1 + 1) (lv' := [(3, .int (kz1 + 1)), (2, .int (biz1 ||| (kshl iz1))), (4, .int iz1), (0, .ref hm), (1, .int so)]) hx₀ hb dX12_calls_47 hl (k := 2) rfl rfl (by decide) rfl (fun ls hl => ?_)
          refine lv_iinc (v := iz1 + 1) (lv' := [(4, .int (iz1 + 1)), (3, .int (kz1 + 1)), (2, .int (biz1 ||| (kshl iz1))), (0, .ref hm), (1, .int so)]) hx₀ hb dX12_calls_50 hl (k := 2) rfl rfl (by decide) rfl (fun ls hl => ?_)
          refine lv_goto (tgt := 7) hx₀ hb dX12_calls_53 (by decide) ?_
          exact ihz1 _ (lf_g_calls_3 mi iz1 jz1 hh0 hiz1_0 hjz1 c_2) (biz1 ||| (kshl iz1)) (kz1 + 1) (iz1 + 1) _ _ _ (lf_g_calls_2 mi iz1 jz1 hh0 hiz1_0 hjz1 c_2) ((k_cb_t hiz1_1 hh0.2 c_2 (Int32.not_le.mp c_3)).1 c_5) rfl (hP.sub [0, 1] rfl) (hD.sub [0, 1] (by decide +kernel) rfl) hS (lv_sub hl [0, 1, 2, 3, 4] rfl)
        rw [if_neg c_5] at hw
        refine k_topi (v := 0) hw ?_
        refine lv_if_eq (tgt := 44) hx₀ hb dX12_calls_34 (by decide) (fun _ => ?_) (fun c9 => absurd (by decide +kernel) c9)
        refine lv_iconst (v := 0) hx₀ hb dX12_calls_44 (by decide +kernel) ?_
        refine lv_ior hx₀ hb dX12_calls_45 ?_
        refine lv_istore_n (lv' := [(2, .int (biz1 ||| 0)), (4, .int iz1), (3, .int kz1), (0, .ref hm), (1, .int so)]) hx₀ hb dX12_calls_46 rfl hl (by decide) rfl (fun ls hl => ?_)
        refine lv_iinc (v := kz1 + 1) (lv' := [(3, .int (kz1 + 1)), (2, .int (biz1 ||| 0)), (4, .int iz1), (0, .ref hm), (1, .int so)]) hx₀ hb dX12_calls_47 hl (k := 2) rfl rfl (by decide) rfl (fun ls hl => ?_)
        refine lv_iinc (v := iz1 + 1) (lv' := [(4, .int (iz1 + 1)), (3, .int (kz1 + 1)), (2, .int (biz1 ||| 0)), (0, .ref hm), (1, .int so)]) hx₀ hb dX12_calls_50 hl (k := 2) rfl rfl (by decide) rfl (fun ls hl => ?_)
        refine lv_goto (tgt := 7) hx₀ hb dX12_calls_53 (by decide) ?_
        exact ihz1 _ (lf_g_calls_3 mi iz1 jz1 hh0 hiz1_0 hjz1 c_2) (biz1 ||| 0) (kz1 + 1) (iz1 + 1) _ _ _ (lf_g_calls_2 mi iz1 jz1 hh0 hiz1_0 hjz1 c_2) ((k_cb_t hiz1_1 hh0.2 c_2 (Int32.not_le.mp c_3)).2 c_5) rfl (hP.sub [0, 1] rfl) (hD.sub [0, 1] (by decide +kernel) rfl) hS (lv_sub hl [0, 1, 2, 3, 4] rfl)
