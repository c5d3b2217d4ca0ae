set_option maxHeartbeats 4000000 in
set_option maxRecDepth 100000 in
theorem m_finds1 (l : Launch) (dC : Nat → ClassId) (dI : Nat → Nat → Nat) (cI cJ cQ : ClassId) (sz : Nat) (hm : Nat) (vFo : Nat) (vSi : Nat) (vIt : Nat) (vMo : Nat) (vBy : Nat) (vTy : Nat) (vMi : Nat) (vPs : Nat) (vGs : Nat) (vFt : Nat) (vTo : Nat) (vPr : Nat) (vSt : Nat) (vFn : Nat) (vSg : Nat) (vAl : Nat) : Met l yX12_finds (kW yX12_finds cX12_finds 2 (some .int)) { frames := 0, cells := 0, slots := 0, locals := 0 } (kPre dC dI cI cJ cQ sz [.ref hm, .int 1] [(hm, .inr (11, [.ref vFo, .ref vSi, .ref vIt, .ref vMo, .int 0, .ref vBy, .ref vTy, .int 0, .ref vMi, .int 0, .ref vPs, .int 0, .ref vGs, .int 0, .ref vFt, .int 0, .ref vTo, .int 0, .int 0, .int 0, .int 16777215, .int 0, .int 0, .ref vPr, .ref vSt, .ref vFn, .int 0, .ref vSg, .ref vAl, .int 0]))]) (va_Qi (fun (r : Int32) (_ : Unit) => r = (-11)) (fun _ t₀ => kB dC dI cI cJ cQ (va_A [(hm, .inr (11, [.ref vFo, .ref vSi, .ref vIt, .ref vMo, .int 0, .ref vBy, .ref vTy, .int 0, .ref vMi, .int 0, .ref vPs, .int 0, .ref vGs, .int 0, .ref vFt, .int 0, .ref vTo, .int 0, .int 0, .int 0, .int 16777215, .int 0, .int 0, .ref vPr, .ref vSt, .ref vFn, .int 0, .ref vSg, .ref vAl, .int 0]))] sz) [(hm, .inr (11, [.ref vFo, .ref vSi, .ref vIt, .ref vMo, .int 1, .ref vBy, .ref vTy, .int 0, .ref vMi, .int 0, .ref vPs, .int 0, .ref vGs, .int 0, .ref vFt, .int 0, .ref vTo, .int 0, .int 0, .int 0, .int 16777215, .int 0, .int 0, .ref vPr, .ref vSt, .ref vFn, .int 0, .ref vSg, .ref vAl, .int 0]))] t₀) (va_A [(hm, .inr (11, [.ref vFo, .ref vSi, .ref vIt, .ref vMo, .int 0, .ref vBy, .ref vTy, .int 0, .ref vMi, .int 0, .ref vPs, .int 0, .ref vGs, .int 0, .ref vFt, .int 0, .ref vTo, .int 0, .int 0, .int 0, .int 16777215, .int 0, .int 0, .ref vPr, .ref vSt, .ref vFn, .int 0, .ref vSg, .ref vAl, .int 0]))] sz)) 0 0 (va_A [(hm, .inr (11, [.ref vFo, .ref vSi, .ref vIt, .ref vMo, .int 0, .ref vBy, .ref vTy, .int 0, .ref vMi, .int 0, .ref vPs, .int 0, .ref vGs, .int 0, .ref vFt, .int 0, .ref vTo, .int 0, .int 0, .int 0, .int 16777215, .int 0, .int 0, .ref vPr, .ref vSt, .ref vFn, .int 0, .ref vSg, .ref vAl, .int 0]))] sz) := by
  refine Met.ofW (cc := cX12_finds) (maxL := 2) (ret := (some .int)) (by decide) rfl ?_
  intro p₀ e₀ s₀ m₀ args below meth c₀ s₁ B hml hv₀
  obtain ⟨rfl, hsz, hP, hK, hD0, hN⟩ := hv₀
  have hx₀ := B.exec
  have hb := B.bytes
  have hr := B.returns
  have hts := atoms_spec (ws := (kW yX12_finds cX12_finds 2 (some .int))) B.pre
  have hts := fun w h => hts w (List.mem_cons_of_mem _ h)
  have hown : s₀.vm.findClass RX12 = some m₀.cls := findClass_of_methodNamed B.named
  have hlocks := B.notSynchronized
  subst hsz
  have hD := hD0.self (sz := s₀.heap.size)
  generalize hAe : va_A [(hm, .inr (11, [.ref vFo, .ref vSi, .ref vIt, .ref vMo, .int 0, .ref vBy, .ref vTy, .int 0, .ref vMi, .int 0, .ref vPs, .int 0, .ref vGs, .int 0, .ref vFt, .int 0, .ref vTo, .int 0, .int 0, .int 0, .int 16777215, .int 0, .int 0, .ref vPr, .ref vSt, .ref vFn, .int 0, .ref vSg, .ref vAl, .int 0]))] s₀.heap.size = A at hD ⊢
  have hA : ∀ q : Nat, s₀.heap.size ≤ q → A q := fun q h => by rw [← hAe]; exact Or.inr h
  have hS : va_S A s₀.heap s₀.heap [] := va_S.rf
  have hP : va_P (dC, dI) vwCl [(hm, .inr (11, [.ref vFo, .ref vSi, .ref vIt, .ref vMo, .int 0, .ref vBy, .ref vTy, .int 0, .ref vMi, .int 0, .ref vPs, .int 0, .ref vGs, .int 0, .ref vFt, .int 0, .ref vTo, .int 0, .int 0, .int 0, .int 16777215, .int 0, .int 0, .ref vPr, .ref vSt, .ref vFn, .int 0, .ref vSg, .ref vAl, .int 0]))] s₀.heap := hP
  have hl := lv_entry ([.ref hm, .int 1]) (n := 2) (Nat.le_of_ble_eq_true rfl)
  rw [lg_entry_eq]
  generalize (lg_sl ([.ref hm, .int 1]) ++ List.replicate (2 - (lg_sl ([.ref hm, .int 1])).length) Slot.unset).toArray = ls at hl ⊢
  have hl : lv_has ls 2 [(0, .ref hm), (1, .int 1)] := hl
  obtain ⟨H, hH⟩ : ∃ z : Heap, z = s₀.heap := ⟨_, rfl⟩
  rw [← hH] at hP
  have hS : va_S A s₀.heap H [] := by rw [hH]; exact hS
  refine k_heap hH ?_
  have hD : va_D A [(hm, .inr (11, [.ref vFo, .ref vSi, .ref vIt, .ref vMo, .int 0, .ref vBy, .ref vTy, .int 0, .ref vMi, .int 0, .ref vPs, .int 0, .ref vGs, .int 0, .ref vFt, .int 0, .ref vTo, .int 0, .int 0, .int 0, .int 16777215, .int 0, .int 0, .ref vPr, .ref vSt, .ref vFn, .int 0, .ref vSg, .ref vAl, .int 0]))] := hD
  obtain ⟨locs, hlo⟩ : ∃ z : List Loc, z = [] := ⟨_, rfl⟩
  rw [← hlo] at hS ⊢
  clear hlo hH hAe hD0
  refine lv_aload_n hx₀ hb dX12_finds_0 rfl (lv_at hl 0 rfl) ?_
  refine lv_iload_n hx₀ hb dX12_finds_1 rfl (lv_at hl 1 rfl) ?_
  refine va_put (D := (dC, dI)) (ci := 11) (v := .int 1) (ty := .int) (C := RX12) (T := TX12) (N := 30) hx₀ hb hts inlX12 tyX12 tyX12_ok nmX12 hown hK hP hD hS 0 rfl rfl 4 (by decide) (hts (.fieldLink RX12 69 "BittenStickModel" "latest" "I") wd_405) (fun _ h9 => h9) rfl (by decide +kernel) rfl rfl (Nat.le_of_ble_eq_true rfl) dX12_finds_2 (fun H locs hP hD hS => ?_)
  have hP : va_P (dC, dI) vwCl [(hm, .inr (11, [.ref vFo, .ref vSi, .ref vIt, .ref vMo, .int 1, .ref vBy, .ref vTy, .int 0, .ref vMi, .int 0, .ref vPs, .int 0, .ref vGs, .int 0, .ref vFt, .int 0, .ref vTo, .int 0, .int 0, .int 0, .int 16777215, .int 0, .int 0, .ref vPr, .ref vSt, .ref vFn, .int 0, .ref vSg, .ref vAl, .int 0]))] H := hP
  have hD : va_D A [(hm, .inr (11, [.ref vFo, .ref vSi, .ref vIt, .ref vMo, .int 1, .ref vBy, .ref vTy, .int 0, .ref vMi, .int 0, .ref vPs, .int 0, .ref vGs, .int 0, .ref vFt, .int 0, .ref vTo, .int 0, .int 0, .int 0, .int 16777215, .int 0, .int 0, .ref vPr, .ref vSt, .ref vFn, .int 0, .ref vSg, .ref vAl, .int 0]))] := hD
  refine lv_bipush (v := (-10)) hx₀ hb dX12_finds_5 (by decide +kernel) ?_
  refine lv_iload_n hx₀ hb dX12_finds_7 rfl (lv_at hl 1 rfl) ?_
  refine lv_isub hx₀ hb dX12_finds_8 ?_
  refine k_topi (v := (-11)) (by decide +kernel) ?_
  have hP9 := hP.sub (ws' := [(hm, .inr (11, [.ref vFo, .ref vSi, .ref vIt, .ref vMo, .int 1, .ref vBy, .ref vTy, .int 0, .ref vMi, .int 0, .ref vPs, .int 0, .ref vGs, .int 0, .ref vFt, .int 0, .ref vTo, .int 0, .int 0, .int 0, .int 16777215, .int 0, .int 0, .ref vPr, .ref vSt, .ref vFn, .int 0, .ref vSg, .ref vAl, .int 0]))]) [0] rfl
  have hD9 := hD.sub (ws' := [(hm, .inr (11, [.ref vFo, .ref vSi, .ref vIt, .ref vMo, .int 1, .ref vBy, .ref vTy, .int 0, .ref vMi, .int 0, .ref vPs, .int 0, .ref vGs, .int 0, .ref vFt, .int 0, .ref vTo, .int 0, .int 0, .int 0, .int 16777215, .int 0, .int 0, .ref vPr, .ref vSt, .ref vFn, .int 0, .ref vSg, .ref vAl, .int 0]))]) [0] (by decide) rfl
  exact W.iret (v := (-11)) hx₀ hb hr (fun t₀ ht hW => ⟨⟨(-11), (), rfl, rfl, by rw [ht]; exact hP9, va_K.moved hW.alike hK, hD9⟩, hS.F ht⟩) hS.2.2 dX12_finds_9
set_option maxHeartbeats 4000000 in
set_option maxRecDepth 100000 in
theorem m_finds5 (l : Launch) (dC : Nat → ClassId) (dI : Nat → Nat → Nat) (cI cJ cQ : ClassId) (sz : Nat) (hm : Nat) (vFo : Nat) (vSi : Nat) (vIt : Nat) (vMo : Nat) (vBy : Nat) (vTy : Nat) (vMi : Nat) (vPs : Nat) (vGs : Nat) (vFt : Nat) (vTo : Nat) (vPr : Nat) (vSt : Nat) (vFn : Nat) (vSg : Nat) (vAl : Nat) : Met l yX12_finds (kW yX12_finds cX12_finds 2 (some .int)) { frames := 0, cells := 0, slots := 0, locals := 0 } (kPre dC dI cI cJ cQ sz [.ref hm, .int 5] [(hm, .inr (11, [.ref vFo, .ref vSi, .ref vIt, .ref vMo, .int 0, .ref vBy, .ref vTy, .int 0, .ref vMi, .int 0, .ref vPs, .int 0, .ref vGs, .int 0, .ref vFt, .int 0, .ref vTo, .int 0, .int 0, .int 0, .int 16777215, .int 0, .int 0, .ref vPr, .ref vSt, .ref vFn, .int 0, .ref vSg, .ref vAl, .int 0]))]) (va_Qi (fun (r : Int32) (_ : Unit) => r = (-15)) (fun _ t₀ => kB dC dI cI cJ cQ (va_A [(hm, .inr (11, [.ref vFo, .ref vSi, .ref vIt, .ref vMo, .int 0, .ref vBy, .ref vTy, .int 0, .ref vMi, .int 0, .ref vPs, .int 0, .ref vGs, .int 0, .ref vFt, .int 0, .ref vTo, .int 0, .int 0, .int 0, .int 16777215, .int 0, .int 0, .ref vPr, .ref vSt, .ref vFn, .int 0, .ref vSg, .ref vAl, .int 0]))] sz) [(hm, .inr (11, [.ref vFo, .ref vSi, .ref vIt, .ref vMo, .int 5, .ref vBy, .ref vTy, .int 0, .ref vMi, .int 0, .ref vPs, .int 0, .ref vGs, .int 0, .ref vFt, .int 0, .ref vTo, .int 0, .int 0, .int 0, .int 16777215, .int 0, .int 0, .ref vPr, .ref vSt, .ref vFn, .int 0, .ref vSg, .ref vAl, .int 0]))] t₀) (va_A [(hm, .inr (11, [.ref vFo, .ref vSi, .ref vIt, .ref vMo, .int 0, .ref vBy, .ref vTy, .int 0, .ref vMi, .int 0, .ref vPs, .int 0, .ref vGs, .int 0, .ref vFt, .int 0, .ref vTo, .int 0, .int 0, .int 0, .int 16777215, .int 0, .int 0, .ref vPr, .ref vSt, .ref vFn, .int 0, .ref vSg, .ref vAl, .int 0]))] sz)) 0 0 (va_A [(hm, .inr (11, [.ref vFo, .ref vSi, .ref vIt, .ref vMo, .int 0, .ref vBy, .ref vTy, .int 0, .ref vMi, .int 0, .ref vPs, .int 0, .ref vGs, .int 0, .ref vFt, .int 0, .ref vTo, .int 0, .int 0, .int 0, .int 16777215, .int 0, .int 0, .ref vPr, .ref vSt, .ref vFn, .int 0, .ref vSg, .ref vAl, .int 0]))] sz) := by
  refine Met.ofW (cc := cX12_finds) (maxL := 2) (ret := (some .int)) (by decide) rfl ?_
  intro p₀ e₀ s₀ m₀ args below meth c₀ s₁ B hml hv₀
  obtain ⟨rfl, hsz, hP, hK, hD0, hN⟩ := hv₀
  have hx₀ := B.exec
  have hb := B.bytes
  have hr := B.returns
  have hts := atoms_spec (ws := (kW yX12_finds cX12_finds 2 (some .int))) B.pre
  have hts := fun w h => hts w (List.mem_cons_of_mem _ h)
  have hown : s₀.vm.findClass RX12 = some m₀.cls := findClass_of_methodNamed B.named
  have hlocks := B.notSynchronized
  subst hsz
  have hD := hD0.self (sz := s₀.heap.size)
  generalize hAe : va_A [(hm, .inr (11, [.ref vFo, .ref vSi, .ref vIt, .ref vMo, .int 0, .ref vBy, .ref vTy, .int 0, .ref vMi, .int 0, .ref vPs, .int 0, .ref vGs, .int 0, .ref vFt, .int 0, .ref vTo, .int 0, .int 0, .int 0, .int 16777215, .int 0, .int 0, .ref vPr, .ref vSt, .ref vFn, .int 0, .ref vSg, .ref vAl, .int 0]))] s₀.heap.size = A at hD ⊢
  have hA : ∀ q : Nat, s₀.heap.size ≤ q → A q := fun q h => by rw [← hAe]; exact Or.inr h
  have hS : va_S A s₀.heap s₀.heap [] := va_S.rf
  have hP : va_P (dC, dI) vwCl [(hm, .inr (11, [.ref vFo, .ref vSi, .ref vIt, .ref vMo, .int 0, .ref vBy, .ref vTy, .int 0, .ref vMi, .int 0, .ref vPs, .int 0, .ref vGs, .int 0, .ref vFt, .int 0, .ref vTo, .int 0, .int 0, .int 0, .int 16777215, .int 0, .int 0, .ref vPr, .ref vSt, .ref vFn, .int 0, .ref vSg, .ref vAl, .int 0]))] s₀.heap := hP
  have hl := lv_entry ([.ref hm, .int 5]) (n := 2) (Nat.le_of_ble_eq_true rfl)
  rw [lg_entry_eq]
  generalize (lg_sl ([.ref hm, .int 5]) ++ List.replicate (2 - (lg_sl ([.ref hm, .int 5])).length) Slot.unset).toArray = ls at hl ⊢
  have hl : lv_has ls 2 [(0, .ref hm), (1, .int 5)] := hl
  obtain ⟨H, hH⟩ : ∃ z : Heap, z = s₀.heap := ⟨_, rfl⟩
  rw [← hH] at hP
  have hS : va_S A s₀.heap H [] := by rw [hH]; exact hS
  refine k_heap hH ?_
  have hD : va_D A [(hm, .inr (11, [.ref vFo, .ref vSi, .ref vIt, .ref vMo, .int 0, .ref vBy, .ref vTy, .int 0, .ref vMi, .int 0, .ref vPs, .int 0, .ref vGs, .int 0, .ref vFt, .int 0, .ref vTo, .int 0, .int 0, .int 0, .int 16777215, .int 0, .int 0, .ref vPr, .ref vSt, .ref vFn, .int 0, .ref vSg, .ref vAl, .int 0]))] := hD
  obtain ⟨locs, hlo⟩ : ∃ z : List Loc, z = [] := ⟨_, rfl⟩
  rw [← hlo] at hS ⊢
  clear hlo hH hAe hD0
  refine lv_aload_n hx₀ hb dX12_finds_0 rfl (lv_at hl 0 rfl) ?_
  refine lv_iload_n hx₀ hb dX12_finds_1 rfl (lv_at hl 1 rfl) ?_
  refine va_put (D := (dC, dI)) (ci := 11) (v := .int 5) (ty := .int) (C := RX12) (T := TX12) (N := 30) hx₀ hb hts inlX12 tyX12 tyX12_ok nmX12 hown hK hP hD hS 0 rfl rfl 4 (by decide) (hts (.fieldLink RX12 69 "BittenStickModel" "latest" "I") wd_405) (fun _ h9 => h9) rfl (by decide +kernel) rfl rfl (Nat.le_of_ble_eq_true rfl) dX12_finds_2 (fun H locs hP hD hS => ?_)
  have hP : va_P (dC, dI) vwCl [(hm, .inr (11, [.ref vFo, .ref vSi, .ref vIt, .ref vMo, .int 5, .ref vBy, .ref vTy, .int 0, .ref vMi, .int 0, .ref vPs, .int 0, .ref vGs, .int 0, .ref vFt, .int 0, .ref vTo, .int 0, .int 0, .int 0, .int 16777215, .int 0, .int 0, .ref vPr, .ref vSt, .ref vFn, .int 0, .ref vSg, .ref vAl, .int 0]))] H := hP
  have hD : va_D A [(hm, .inr (11, [.ref vFo, .ref vSi, .ref vIt, .ref vMo, .int 5, .ref vBy, .ref vTy, .int 0, .ref vMi, .int 0, .ref vPs, .int 0, .ref vGs, .int 0, .ref vFt, .int 0, .ref vTo, .int 0, .int 0, .int 0, .int 16777215, .int 0, .int 0, .ref vPr, .ref vSt, .ref vFn, .int 0, .ref vSg, .ref vAl, .int 0]))] := hD
  refine lv_bipush (v := (-10)) hx₀ hb dX12_finds_5 (by decide +kernel) ?_
  refine lv_iload_n hx₀ hb dX12_finds_7 rfl (lv_at hl 1 rfl) ?_
  refine lv_isub hx₀ hb dX12_finds_8 ?_
  refine k_topi (v := (-15)) (by decide +kernel) ?_
  have hP9 := hP.sub (ws' := [(hm, .inr (11, [.ref vFo, .ref vSi, .ref vIt, .ref vMo, .int 5, .ref vBy, .ref vTy, .int 0, .ref vMi, .int 0, .ref vPs, .int 0, .ref vGs, .int 0, .ref vFt, .int 0, .ref vTo, .int 0, .int 0, .int 0, .int 16777215, .int 0, .int 0, .ref vPr, .ref vSt, .ref vFn, .int 0, .ref vSg, .ref vAl, .int 0]))]) [0] rfl
  have hD9 := hD.sub (ws' := [(hm, .inr (11, [.ref vFo, .ref vSi, .ref vIt, .ref vMo, .int 5, .ref vBy, .ref vTy, .int 0, .ref vMi, .int 0, .ref vPs, .int 0, .ref vGs, .int 0, .ref vFt, .int 0, .ref vTo, .int 0, .int 0, .int 0, .int 16777215, .int 0, .int 0, .ref vPr, .ref vSt, .ref vFn, .int 0, .ref vSg, .ref vAl, .int 0]))]) [0] (by decide) rfl
  exact W.iret (v := (-15)) hx₀ hb hr (fun t₀ ht hW => ⟨⟨(-15), (), rfl, rfl, by rw [ht]; exact hP9, va_K.moved hW.alike hK, hD9⟩, hS.F ht⟩) hS.2.2 dX12_finds_9
theorem lf_m_isPassenger_1 (k : Int32) (c9 : (0 : Int64) ≤ k.toInt64 ∧ k.toInt64 ≤ (-1 : Int64)) : False := by
  (first | omega | (simp only [Int64.le_iff_toInt_le, Int64.lt_iff_toInt_lt, Int32.le_iff_toInt_le, Int32.lt_iff_toInt_lt, ← Int32.toInt_inj, ← Int64.toInt_inj, Int32.toInt_toInt64, (show (-1 : Int32).toInt = -1 from by decide), (show (-1 : Int64).toInt = -1 from by decide), (show (0 : Int32).toInt = 0 from by decide), (show (0 : Int64).toInt = 0 from by decide)] at *; omega))
set_option maxHeartbeats 4000000 in
set_option maxRecDepth 100000 in
theorem m_isPassenger (l : Launch) (dC : Nat → ClassId) (dI : Nat → Nat → Nat) (cI cJ cQ : ClassId) (sz : Nat) (hm : Nat) (k : Int32) (vFo : Nat) (vSi : Nat) (vIt : Nat) (vMo : Nat) (vBy : Nat) (vTy : Nat) (vMi : Nat) (vPs : Nat) (vGs : Nat) (vFt : Nat) (vTo : Nat) (vPr : Nat) (vSt : Nat) (vFn : Nat) (vSg : Nat) (vAl : Nat) : Met l yX12_isPassenger (kW yX12_isPassenger cX12_isPassenger 2 (some .boolean)) { frames := 1, cells := 0, slots := 0, locals := 25 } (kPre dC dI cI cJ cQ sz [.ref hm, .int k] [(hm, .inr (11, [.ref vFo, .ref vSi, .ref vIt, .ref vMo, .int 0, .ref vBy, .ref vTy, .int 0, .ref vMi, .int 0, .ref vPs, .int 0, .ref vGs, .int 0, .ref vFt, .int 0, .ref vTo, .int 0, .int 0, .int 0, .int 16777215, .int 0, .int 0, .ref vPr, .ref vSt, .ref vFn, .int 0, .ref vSg, .ref vAl, .int 0]))]) (va_Qi (fun (r : Int32) (_ : Unit) => r = 0) (fun _ t₀ => kB dC dI cI cJ cQ (va_A [(hm, .inr (11, [.ref vFo, .ref vSi, .ref vIt, .ref vMo, .int 0, .ref vBy, .ref vTy, .int 0, .ref vMi, .int 0, .ref vPs, .int 0, .ref vGs, .int 0, .ref vFt, .int 0, .ref vTo, .int 0, .int 0, .int 0, .int 16777215, .int 0, .int 0, .ref vPr, .ref vSt, .ref vFn, .int 0, .ref vSg, .ref vAl, .int 0]))] sz) [(hm, .inr (11, [.ref vFo, .ref vSi, .ref vIt, .ref vMo, .int 0, .ref vBy, .ref vTy, .int 0, .ref vMi, .int 0, .ref vPs, .int 0, .ref vGs, .int 0, .ref vFt, .int 0, .ref vTo, .int 0, .int 0, .int 0, .int 16777215, .int 0, .int 0, .ref vPr, .ref vSt, .ref vFn, .int 0, .ref vSg, .ref vAl, .int 0]))] t₀) (va_A [(hm, .inr (11, [.ref vFo, .ref vSi, .ref vIt, .ref vMo, .int 0, .ref vBy, .ref vTy, .int 0, .ref vMi, .int 0, .ref vPs, .int 0, .ref vGs, .int 0, .ref vFt, .int 0, .ref vTo, .int 0, .int 0, .int 0, .int 16777215, .int 0, .int 0, .ref vPr, .ref vSt, .ref vFn, .int 0, .ref vSg, .ref vAl, .int 0]))] sz)) 0 0 (va_A [(hm, .inr (11, [.ref vFo, .ref vSi, .ref vIt, .ref vMo, .int 0, .ref vBy, .ref vTy, .int 0, .ref vMi, .int 0, .ref vPs, .int 0, .ref vGs, .int 0, .ref vFt, .int 0, .ref vTo, .int 0, .int 0, .int 0, .int 16777215, .int 0, .int 0, .ref vPr, .ref vSt, .ref vFn, .int 0, .ref vSg, .ref vAl, .int 0]))] sz) := by
  refine Met.ofW (cc := cX12_isPassenger) (maxL := 2) (ret := (some .boolean)) (by decide) rfl ?_
  intro p₀ e₀ s₀ m₀ args below meth c₀ s₁ B hml hv₀
  obtain ⟨rfl, hsz, hP, hK, hD0, hN⟩ := hv₀
  have hx₀ := B.exec
  have hb := B.bytes
  have hr := B.returns
  have hts := atoms_spec (ws := (kW yX12_isPassenger cX12_isPassenger 2 (some .boolean))) B.pre
  have hts := fun w h => hts w (List.mem_cons_of_mem _ h)
  have hown : s₀.vm.findClass RX12 = some m₀.cls := findClass_of_methodNamed B.named
  have hlocks := B.notSynchronized
  subst hsz
  have hD := hD0.self (sz := s₀.heap.size)
  generalize hAe : va_A [(hm, .inr (11, [.ref vFo, .ref vSi, .ref vIt, .ref vMo, .int 0, .ref vBy, .ref vTy, .int 0, .ref vMi, .int 0, .ref vPs, .int 0, .ref vGs, .int 0, .ref vFt, .int 0, .ref vTo, .int 0, .int 0, .int 0, .int 16777215, .int 0, .int 0, .ref vPr, .ref vSt, .ref vFn, .int 0, .ref vSg, .ref vAl, .int 0]))] s₀.heap.size = A at hD ⊢
  have hA : ∀ q : Nat, s₀.heap.size ≤ q → A q := fun q h => by rw [← hAe]; exact Or.inr h
  have hS : va_S A s₀.heap s₀.heap [] := va_S.rf
  have hP : va_P (dC, dI) vwCl [(hm, .inr (11, [.ref vFo, .ref vSi, .ref vIt, .ref vMo, .int 0, .ref vBy, .ref vTy, .int 0, .ref vMi, .int 0, .ref vPs, .int 0, .ref vGs, .int 0, .ref vFt, .int 0, .ref vTo, .int 0, .int 0, .int 0, .int 16777215, .int 0, .int 0, .ref vPr, .ref vSt, .ref vFn, .int 0, .ref vSg, .ref vAl, .int 0]))] s₀.heap := hP
  have hl := lv_entry ([.ref hm, .int k]) (n := 2) (Nat.le_of_ble_eq_true rfl)
  rw [lg_entry_eq]
  generalize (lg_sl ([.ref hm, .int k]) ++ List.replicate (2 - (lg_sl ([.ref hm, .int k])).length) Slot.unset).toArray = ls at hl ⊢
  have hl : lv_has ls 2 [(0, .ref hm), (1, .int k)] := hl
  obtain ⟨H, hH⟩ : ∃ z : Heap, z = s₀.heap := ⟨_, rfl⟩
  rw [← hH] at hP
  have hS : va_S A s₀.heap H [] := by rw [hH]; exact hS
  refine k_heap hH ?_
  have hD : va_D A [(hm, .inr (11, [.ref vFo, .ref vSi, .ref vIt, .ref vMo, .int 0, .ref vBy, .ref vTy, .int 0, .ref vMi, .int 0, .ref vPs, .int 0, .ref vGs, .int 0, .ref vFt, .int 0, .ref vTo, .int 0, .int 0, .int 0, .int 16777215, .int 0, .int 0, .ref vPr, .ref vSt, .ref vFn, .int 0, .ref vSg, .ref vAl, .int 0]))] := hD
  obtain ⟨locs, hlo⟩ : ∃ z : List Loc, z = [] := ⟨_, rfl⟩
  rw [← hlo] at hS ⊢
  clear hlo hH hAe hD0
  refine lv_iload_n hx₀ hb dX12_isPassenger_0 rfl (lv_at hl 1 rfl) ?_
  refine lv_i2l hx₀ hb dX12_isPassenger_1 rfl ?_
  refine lv_lconst (v := 0) hx₀ hb dX12_isPassenger_2 (by decide +kernel) ?_
  refine lv_aload_n hx₀ hb dX12_isPassenger_3 rfl (lv_at hl 0 rfl) ?_
  refine va_get (D := (dC, dI)) (ci := 11) (v := .int 0) (C := RX12) (T := TX12) (N := 30) hx₀ hb hts inlX12 hown hK hP 0 rfl rfl 9 (by decide) (hts (.fieldLink RX12 116 "BittenStickModel" "passengers" "I") wd_265) (fun _ h9 => h9) rfl dX12_isPassenger_4 ?_
  refine lv_iconst (v := 1) hx₀ hb dX12_isPassenger_7 (by decide +kernel) ?_
  refine lv_isub hx₀ hb dX12_isPassenger_8 ?_
  refine k_topi (v := (-1)) (by decide +kernel) ?_
  refine lv_i2l (v := (-1)) hx₀ hb dX12_isPassenger_9 (by decide +kernel) ?_
  have hPc := hP.sub (ws' := []) [] rfl
  have hDc := hD.sub (ws' := []) [] (by decide) rfl
  have hFc := va_free (wc := []) hD hS hA [] rfl
  refine va_calli (va_runS (As := [.long k.toInt64, .long 0, .long (-1)]) (rest := []) ⟨hx₀, hb, hml, hown, hts⟩ (c_in l dC dI cI cJ cQ H.size k.toInt64 0 (-1)) (va_cwS 3 hts (kGS wd_208 wd_206 wd_207 wd_5) rfl rfl rfl (by decide +kernel) ⟨Nat.le_of_ble_eq_true rfl, Nat.le_of_ble_eq_true rfl⟩) (k_preS hK hPc hDc hN) rfl rfl hl.1 rfl (lv_room (Nat.le_of_ble_eq_true rfl)) dX12_isPassenger_10 ⟨by decide +kernel, by decide +kernel⟩) hS (fun q _ h => hFc q h) hFc (fun r_1 u₀ t₀ H1 locs ht hvm hw hB hz1 hk1 hS => ?_)
  obtain ⟨hP1, hK1, hD1⟩ := hB
  rw [ht] at hP1
  obtain ⟨hP, hD⟩ := va_join (wr := [(hm, .inr (11, [.ref vFo, .ref vSi, .ref vIt, .ref vMo, .int 0, .ref vBy, .ref vTy, .int 0, .ref vMi, .int 0, .ref vPs, .int 0, .ref vGs, .int 0, .ref vFt, .int 0, .ref vTo, .int 0, .int 0, .int 0, .int 16777215, .int 0, .int 0, .ref vPr, .ref vSt, .ref vFn, .int 0, .ref vSg, .ref vAl, .int 0]))]) (w1 := []) hP hD [] [0] rfl rfl (by decide) (by decide) hk1 hFc hP1 hD1
  generalize H1 = H at hP hS ⊢
  have hP : va_P (dC, dI) vwCl [(hm, .inr (11, [.ref vFo, .ref vSi, .ref vIt, .ref vMo, .int 0, .ref vBy, .ref vTy, .int 0, .ref vMi, .int 0, .ref vPs, .int 0, .ref vGs, .int 0, .ref vFt, .int 0, .ref vTo, .int 0, .int 0, .int 0, .int 16777215, .int 0, .int 0, .ref vPr, .ref vSt, .ref vFn, .int 0, .ref vSg, .ref vAl, .int 0]))] H := hP
  have hD : va_D A [(hm, .inr (11, [.ref vFo, .ref vSi, .ref vIt, .ref vMo, .int 0, .ref vBy, .ref vTy, .int 0, .ref vMi, .int 0, .ref vPs, .int 0, .ref vGs, .int 0, .ref vFt, .int 0, .ref vTo, .int 0, .int 0, .int 0, .int 16777215, .int 0, .int 0, .ref vPr, .ref vSt, .ref vFn, .int 0, .ref vSg, .ref vAl, .int 0]))] := hD
  try dsimp only at hw
  rw [if_neg (fun c9 => lf_m_isPassenger_1 k c9)] at hw
  refine k_topi (v := 0) hw ?_
  have hP9 := hP.sub (ws' := [(hm, .inr (11, [.ref vFo, .ref vSi, .ref vIt, .ref vMo, .int 0, .ref vBy, .ref vTy, .int 0, .ref vMi, .int 0, .ref vPs, .int 0, .ref vGs, .int 0, .ref vFt, .int 0, .ref vTo, .int 0, .int 0, .int 0, .int 16777215, .int 0, .int 0, .ref vPr, .ref vSt, .ref vFn, .int 0, .ref vSg, .ref vAl, .int 0]))]) [0] rfl
  have hD9 := hD.sub (ws' := [(hm, .inr (11, [.ref vFo, .ref vSi, .ref vIt, .ref vMo, .int 0, .ref vBy, .ref vTy, .int 0, .ref vMi, .int 0, .ref vPs, .int 0, .ref vGs, .int 0, .ref vFt, .int 0, .ref vTo, .int 0, .int 0, .int 0, .int 16777215, .int 0, .int 0, .ref vPr, .ref vSt, .ref vFn, .int 0, .ref vSg, .ref vAl, .int 0]))]) [0] (by decide) rfl
  exact W.zret (v := 0) hx₀ hb hr (by decide +kernel) (fun t₀ ht hW => ⟨⟨0, (), rfl, rfl, by rw [ht]; exact hP9, va_K.moved hW.alike hK, hD9⟩, hS.F ht⟩) hS.2.2 dX12_isPassenger_13
theorem lf_m_isGoose_1 (k : Int32) (c9 : (0 : Int64) ≤ k.toInt64 ∧ k.toInt64 ≤ (-1 : Int64)) : False := by
  (first | omega | (simp only [Int64.le_iff_toInt_le, Int64.lt_iff_toInt_lt, Int32.le_iff_toInt_le, Int32.lt_iff_toInt_lt, ← Int32.toInt_inj, ← Int64.toInt_inj, Int32.toInt_toInt64, (show (-1 : Int32).toInt = -1 from by decide), (show (-1 : Int64).toInt = -1 from by decide), (show (0 : Int32).toInt = 0 from by decide), (show (0 : Int64).toInt = 0 from by decide)] at *; omega))
set_option maxHeartbeats 4000000 in
set_option maxRecDepth 100000 in
theorem m_isGoose (l : Launch) (dC : Nat → ClassId) (dI : Nat → Nat → Nat) (cI cJ cQ : ClassId) (sz : Nat) (hm : Nat) (k : Int32) (vFo : Nat) (vSi : Nat) (vIt : Nat) (vMo : Nat) (vBy : Nat) (vTy : Nat) (vMi : Nat) (vPs : Nat) (vGs : Nat) (vFt : Nat) (vTo : Nat) (vPr : Nat) (vSt : Nat) (vFn : Nat) (vSg : Nat) (vAl : Nat) : Met l yX12_isGoose (kW yX12_isGoose cX12_isGoose 2 (some .boolean)) { frames := 1, cells := 0, slots := 0, locals := 25 } (kPre dC dI cI cJ cQ sz [.ref hm, .int k] [(hm, .inr (11, [.ref vFo, .ref vSi, .ref vIt, .ref vMo, .int 0, .ref vBy, .ref vTy, .int 0, .ref vMi, .int 0, .ref vPs, .int 0, .ref vGs, .int 0, .ref vFt, .int 0, .ref vTo, .int 0, .int 0, .int 0, .int 16777215, .int 0, .int 0, .ref vPr, .ref vSt, .ref vFn, .int 0, .ref vSg, .ref vAl, .int 0]))]) (va_Qi (fun (r : Int32) (_ : Unit) => r = 0) (fun _ t₀ => kB dC dI cI cJ cQ (va_A [(hm, .inr (11, [.ref vFo, .ref vSi, .ref vIt, .ref vMo, .int 0, .ref vBy, .ref vTy, .int 0, .ref vMi, .int 0, .ref vPs, .int 0, .ref vGs, .int 0, .ref vFt, .int 0, .ref vTo, .int 0, .int 0, .int 0, .int 16777215, .int 0, .int 0, .ref vPr, .ref vSt, .ref vFn, .int 0, .ref vSg, .ref vAl, .int 0]))] sz) [(hm, .inr (11, [.ref vFo, .ref vSi, .ref vIt, .ref vMo, .int 0, .ref vBy, .ref vTy, .int 0, .ref vMi, .int 0, .ref vPs, .int 0, .ref vGs, .int 0, .ref vFt, .int 0, .ref vTo, .int 0, .int 0, .int 0, .int 16777215, .int 0, .int 0, .ref vPr, .ref vSt, .ref vFn, .int 0, .ref vSg, .ref vAl, .int 0]))] t₀) (va_A [(hm, .inr (11, [.ref vFo, .ref vSi, .ref vIt, .ref vMo, .int 0, .ref vBy, .ref vTy, .int 0, .ref vMi, .int 0, .ref vPs, .int 0, .ref vGs, .int 0, .ref vFt, .int 0, .ref vTo, .int 0, .int 0, .int 0, .int 16777215, .int 0, .int 0, .ref vPr, .ref vSt, .ref vFn, .int 0, .ref vSg, .ref vAl, .int 0]))] sz)) 0 0 (va_A [(hm, .inr (11, [.ref vFo, .ref vSi, .ref vIt, .ref vMo, .int 0, .ref vBy, .ref vTy, .int 0, .ref vMi, .int 0, .ref vPs, .int 0, .ref vGs, .int 0, .ref vFt, .int 0, .ref vTo, .int 0, .int 0, .int 0, .int 16777215, .int 0, .int 0, .ref vPr, .ref vSt, .ref vFn, .int 0, .ref vSg, .ref vAl, .int 0]))] sz) := by
  refine Met.ofW (cc := cX12_isGoose) (maxL := 2) (ret := (some .boolean)) (by decide) rfl ?_
  intro p₀ e₀ s₀ m₀ args below meth c₀ s₁ B hml hv₀
  obtain ⟨rfl, hsz, hP, hK, hD0, hN⟩ := hv₀
  have hx₀ := B.exec
  have hb := B.bytes
  have hr := B.returns
  have hts := atoms_spec (ws := (kW yX12_isGoose cX12_isGoose 2 (some .boolean))) B.pre
  have hts := fun w h => hts w (List.mem_cons_of_mem _ h)
  have hown : s₀.vm.findClass RX12 = some m₀.cls := findClass_of_methodNamed B.named
  have hlocks := B.notSynchronized
  subst hsz
  have hD := hD0.self (sz := s₀.heap.size)
  generalize hAe : va_A [(hm, .inr (11, [.ref vFo, .ref vSi, .ref vIt, .ref vMo, .int 0, .ref vBy, .ref vTy, .int 0, .ref vMi, .int 0, .ref vPs, .int 0, .ref vGs, .int 0, .ref vFt, .int 0, .ref vTo, .int 0, .int 0, .int 0, .int 16777215, .int 0, .int 0, .ref vPr, .ref vSt, .ref vFn, .int 0, .ref vSg, .ref vAl, .int 0]))] s₀.heap.size = A at hD ⊢
  have hA : ∀ q : Nat, s₀.heap.size ≤ q → A q := fun q h => by rw [← hAe]; exact Or.inr h
  have hS : va_S A s₀.heap s₀.heap [] := va_S.rf
  have hP : va_P (dC, dI) vwCl [(hm, .inr (11, [.ref vFo, .ref vSi, .ref vIt, .ref vMo, .int 0, .ref vBy, .ref vTy, .int 0, .ref vMi, .int 0, .ref vPs, .int 0, .ref vGs, .int 0, .ref vFt, .int 0, .ref vTo, .int 0, .int 0, .int 0, .int 16777215, .int 0, .int 0, .ref vPr, .ref vSt, .ref vFn, .int 0, .ref vSg, .ref vAl, .int 0]))] s₀.heap := hP
  have hl := lv_entry ([.ref hm, .int k]) (n := 2) (Nat.le_of_ble_eq_true rfl)
  rw [lg_entry_eq]
  generalize (lg_sl ([.ref hm, .int k]) ++ List.replicate (2 - (lg_sl ([.ref hm, .int k])).length) Slot.unset).toArray = ls at hl ⊢
  have hl : lv_has ls 2 [(0, .ref hm), (1, .int k)] := hl
  obtain ⟨H, hH⟩ : ∃ z : Heap, z = s₀.heap := ⟨_, rfl⟩
  rw [← hH] at hP
  have hS : va_S A s₀.heap H [] := by rw [hH]; exact hS
  refine k_heap hH ?_
  have hD : va_D A [(hm, .inr (11, [.ref vFo, .ref vSi, .ref vIt, .ref vMo, .int 0, .ref vBy, .ref vTy, .int 0, .ref vMi, .int 0, .ref vPs, .int 0, .ref vGs, .int 0, .ref vFt, .int 0, .ref vTo, .int 0, .int 0, .int 0, .int 16777215, .int 0, .int 0, .ref vPr, .ref vSt, .ref vFn, .int 0, .ref vSg, .ref vAl, .int 0]))] := hD
  obtain ⟨locs, hlo⟩ : ∃ z : List Loc, z = [] := ⟨_, rfl⟩
  rw [← hlo] at hS ⊢
  clear hlo hH hAe hD0
  refine lv_iload_n hx₀ hb dX12_isGoose_0 rfl (lv_at hl 1 rfl) ?_
  refine lv_i2l hx₀ hb dX12_isGoose_1 rfl ?_
  refine lv_lconst (v := 0) hx₀ hb dX12_isGoose_2 (by decide +kernel) ?_
  refine lv_aload_n hx₀ hb dX12_isGoose_3 rfl (lv_at hl 0 rfl) ?_
  refine va_get (D := (dC, dI)) (ci := 11) (v := .int 0) (C := RX12) (T := TX12) (N := 30) hx₀ hb hts inlX12 hown hK hP 0 rfl rfl 11 (by decide) (hts (.fieldLink RX12 122 "BittenStickModel" "geese" "I") wd_277) (fun _ h9 => h9) rfl dX12_isGoose_4 ?_
  refine lv_iconst (v := 1) hx₀ hb dX12_isGoose_7 (by decide +kernel) ?_
  refine lv_isub hx₀ hb dX12_isGoose_8 ?_
  refine k_topi (v := (-1)) (by decide +kernel) ?_
  refine lv_i2l (v := (-1)) hx₀ hb dX12_isGoose_9 (by decide +kernel) ?_
  have hPc := hP.sub (ws' := []) [] rfl
  have hDc := hD.sub (ws' := []) [] (by decide) rfl
  have hFc := va_free (wc := []) hD hS hA [] rfl
  refine va_calli (va_runS (As := [.long k.toInt64, .long 0, .long (-1)]) (rest := []) ⟨hx₀, hb, hml, hown, hts⟩ (c_in l dC dI cI cJ cQ H.size k.toInt64 0 (-1)) (va_cwS 3 hts (kGS wd_208 wd_206 wd_207 wd_5) rfl rfl rfl (by decide +kernel) ⟨Nat.le_of_ble_eq_true rfl, Nat.le_of_ble_eq_true rfl⟩) (k_preS hK hPc hDc hN) rfl rfl hl.1 rfl (lv_room (Nat.le_of_ble_eq_true rfl)) dX12_isGoose_10 ⟨by decide +kernel, by decide +kernel⟩) hS (fun q _ h => hFc q h) hFc (fun r_1 u₀ t₀ H1 locs ht hvm hw hB hz1 hk1 hS => ?_)
  obtain ⟨hP1, hK1, hD1⟩ := hB
  rw [ht] at hP1
  obtain ⟨hP, hD⟩ := va_join (wr := [(hm, .inr (11, [.ref vFo, .ref vSi, .ref vIt, .ref vMo, .int 0, .ref vBy, .ref vTy, .int 0, .ref vMi, .int 0, .ref vPs, .int 0, .ref vGs, .int 0, .ref vFt, .int 0, .ref vTo, .int 0, .int 0, .int 0, .int 16777215, .int 0, .int 0, .ref vPr, .ref vSt, .ref vFn, .int 0, .ref vSg, .ref vAl, .int 0]))]) (w1 := []) hP hD [] [0] rfl rfl (by decide) (by decide) hk1 hFc hP1 hD1
  generalize H1 = H at hP hS ⊢
  have hP : va_P (dC, dI) vwCl [(hm, .inr (11, [.ref vFo, .ref vSi, .ref vIt, .ref vMo, .int 0, .ref vBy, .ref vTy, .int 0, .ref vMi, .int 0, .ref vPs, .int 0, .ref vGs, .int 0, .ref vFt, .int 0, .ref vTo, .int 0, .int 0, .int 0, .int 16777215, .int 0, .int 0, .ref vPr, .ref vSt, .ref vFn, .int 0, .ref vSg, .ref vAl, .int 0]))] H := hP
  have hD : va_D A [(hm, .inr (11, [.ref vFo, .ref vSi, .ref vIt, .ref vMo, .int 0, .ref vBy, .ref vTy, .int 0, .ref vMi, .int 0, .ref vPs, .int 0, .ref vGs, .int 0, .ref vFt, .int 0, .ref vTo, .int 0, .int 0, .int 0, .int 16777215, .int 0, .int 0, .ref vPr, .ref vSt, .ref vFn, .int 0, .ref vSg, .ref vAl, .int 0]))] := hD
  try dsimp only at hw
  rw [if_neg (fun c9 => lf_m_isGoose_1 k c9)] at hw
  refine k_topi (v := 0) hw ?_
  have hP9 := hP.sub (ws' := [(hm, .inr (11, [.ref vFo, .ref vSi, .ref vIt, .ref vMo, .int 0, .ref vBy, .ref vTy, .int 0, .ref vMi, .int 0, .ref vPs, .int 0, .ref vGs, .int 0, .ref vFt, .int 0, .ref vTo, .int 0, .int 0, .int 0, .int 16777215, .int 0, .int 0, .ref vPr, .ref vSt, .ref vFn, .int 0, .ref vSg, .ref vAl, .int 0]))]) [0] rfl
  have hD9 := hD.sub (ws' := [(hm, .inr (11, [.ref vFo, .ref vSi, .ref vIt, .ref vMo, .int 0, .ref vBy, .ref vTy, .int 0, .ref vMi, .int 0, .ref vPs, .int 0, .ref vGs, .int 0, .ref vFt, .int 0, .ref vTo, .int 0, .int 0, .int 0, .int 16777215, .int 0, .int 0, .ref vPr, .ref vSt, .ref vFn, .int 0, .ref vSg, .ref vAl, .int 0]))]) [0] (by decide) rfl
  exact W.zret (v := 0) hx₀ hb hr (by decide +kernel) (fun t₀ ht hW => ⟨⟨0, (), rfl, rfl, by rw [ht]; exact hP9, va_K.moved hW.alike hK, hD9⟩, hS.F ht⟩) hS.2.2 dX12_isGoose_13
theorem lf_m_isFlight_1 (k : Int32) (c9 : (0 : Int64) ≤ k.toInt64 ∧ k.toInt64 ≤ (-1 : Int64)) : False := by
  (first | omega | (simp only [Int64.le_iff_toInt_le, Int64.lt_iff_toInt_lt, Int32.le_iff_toInt_le, Int32.lt_iff_toInt_lt, ← Int32.toInt_inj, ← Int64.toInt_inj, Int32.toInt_toInt64, (show (-1 : Int32).toInt = -1 from by decide), (show (-1 : Int64).toInt = -1 from by decide), (show (0 : Int32).toInt = 0 from by decide), (show (0 : Int64).toInt = 0 from by decide)] at *; omega))
set_option maxHeartbeats 4000000 in
set_option maxRecDepth 100000 in
theorem m_isFlight (l : Launch) (dC : Nat → ClassId) (dI : Nat → Nat → Nat) (cI cJ cQ : ClassId) (sz : Nat) (hm : Nat) (k : Int32) (vFo : Nat) (vSi : Nat) (vIt : Nat) (vMo : Nat) (vBy : Nat) (vTy : Nat) (vMi : Nat) (vPs : Nat) (vGs : Nat) (vFt : Nat) (vTo : Nat) (vPr : Nat) (vSt : Nat) (vFn : Nat) (vSg : Nat) (vAl : Nat) : Met l yX12_isFlight (kW yX12_isFlight cX12_isFlight 2 (some .boolean)) { frames := 1, cells := 0, slots := 0, locals := 25 } (kPre dC dI cI cJ cQ sz [.ref hm, .int k] [(hm, .inr (11, [.ref vFo, .ref vSi, .ref vIt, .ref vMo, .int 0, .ref vBy, .ref vTy, .int 0, .ref vMi, .int 0, .ref vPs, .int 0, .ref vGs, .int 0, .ref vFt, .int 0, .ref vTo, .int 0, .int 0, .int 0, .int 16777215, .int 0, .int 0, .ref vPr, .ref vSt, .ref vFn, .int 0, .ref vSg, .ref vAl, .int 0]))]) (va_Qi (fun (r : Int32) (_ : Unit) => r = 0) (fun _ t₀ => kB dC dI cI cJ cQ (va_A [(hm, .inr (11, [.ref vFo, .ref vSi, .ref vIt, .ref vMo, .int 0, .ref vBy, .ref vTy, .int 0, .ref vMi, .int 0, .ref vPs, .int 0, .ref vGs, .int 0, .ref vFt, .int 0, .ref vTo, .int 0, .int 0, .int 0, .int 16777215, .int 0, .int 0, .ref vPr, .ref vSt, .ref vFn, .int 0, .ref vSg, .ref vAl, .int 0]))] sz) [(hm, .inr (11, [.ref vFo, .ref vSi, .ref vIt, .ref vMo, .int 0, .ref vBy, .ref vTy, .int 0, .ref vMi, .int 0, .ref vPs, .int 0, .ref vGs, .int 0, .ref vFt, .int 0, .ref vTo, .int 0, .int 0, .int 0, .int 16777215, .int 0, .int 0, .ref vPr, .ref vSt, .ref vFn, .int 0, .ref vSg, .ref vAl, .int 0]))] t₀) (va_A [(hm, .inr (11, [.ref vFo, .ref vSi, .ref vIt, .ref vMo, .int 0, .ref vBy, .ref vTy, .int 0, .ref vMi, .int 0, .ref vPs, .int 0, .ref vGs, .int 0, .ref vFt, .int 0, .ref vTo, .int 0, .int 0, .int 0, .int 16777215, .int 0, .int 0, .ref vPr, .ref vSt, .ref vFn, .int 0, .ref vSg, .ref vAl, .int 0]))] sz)) 0 0 (va_A [(hm, .inr (11, [.ref vFo, .ref vSi, .ref vIt, .ref vMo, .int 0, .ref vBy, .ref vTy, .int 0, .ref vMi, .int 0, .ref vPs, .int 0, .ref vGs, .int 0, .ref vFt, .int 0, .ref vTo, .int 0, .int 0, .int 0, .int 16777215, .int 0, .int 0, .ref vPr, .ref vSt, .ref vFn, .int 0, .ref vSg, .ref vAl, .int 0]))] sz) := by
  refine Met.ofW (cc := cX12_isFlight) (maxL := 2) (ret := (some .boolean)) (by decide) rfl ?_
  intro p₀ e₀ s₀ m₀ args below meth c₀ s₁ B hml hv₀
  obtain ⟨rfl, hsz, hP, hK, hD0, hN⟩ := hv₀
  have hx₀ := B.exec
  have hb := B.bytes
  have hr := B.returns
  have hts := atoms_spec (ws := (kW yX12_isFlight cX12_isFlight 2 (some .boolean))) B.pre
  have hts := fun w h => hts w (List.mem_cons_of_mem _ h)
  have hown : s₀.vm.findClass RX12 = some m₀.cls := findClass_of_methodNamed B.named
  have hlocks := B.notSynchronized
  subst hsz
  have hD := hD0.self (sz := s₀.heap.size)
  generalize hAe : va_A [(hm, .inr (11, [.ref vFo, .ref vSi, .ref vIt, .ref vMo, .int 0, .ref vBy, .ref vTy, .int 0, .ref vMi, .int 0, .ref vPs, .int 0, .ref vGs, .int 0, .ref vFt, .int 0, .ref vTo, .int 0, .int 0, .int 0, .int 16777215, .int 0, .int 0, .ref vPr, .ref vSt, .ref vFn, .int 0, .ref vSg, .ref vAl, .int 0]))] s₀.heap.size = A at hD ⊢
  have hA : ∀ q : Nat, s₀.heap.size ≤ q → A q := fun q h => by rw [← hAe]; exact Or.inr h
  have hS : va_S A s₀.heap s₀.heap [] := va_S.rf
  have hP : va_P (dC, dI) vwCl [(hm, .inr (11, [.ref vFo, .ref vSi, .ref vIt, .ref vMo, .int 0, .ref vBy, .ref vTy, .int 0, .ref vMi, .int 0, .ref vPs, .int 0, .ref vGs, .int 0, .ref vFt, .int 0, .ref vTo, .int 0, .int 0, .int 0, .int 16777215, .int 0, .int 0, .ref vPr, .ref vSt, .ref vFn, .int 0, .ref vSg, .ref vAl, .int 0]))] s₀.heap := hP
  have hl := lv_entry ([.ref hm, .int k]) (n := 2) (Nat.le_of_ble_eq_true rfl)
  rw [lg_entry_eq]
  generalize (lg_sl ([.ref hm, .int k]) ++ List.replicate (2 - (lg_sl ([.ref hm, .int k])).length) Slot.unset).toArray = ls at hl ⊢
  have hl : lv_has ls 2 [(0, .ref hm), (1, .int k)] := hl
  obtain ⟨H, hH⟩ : ∃ z : Heap, z = s₀.heap := ⟨_, rfl⟩
  rw [← hH] at hP
  have hS : va_S A s₀.heap H [] := by rw [hH]; exact hS
  refine k_heap hH ?_
  have hD : va_D A [(hm, .inr (11, [.ref vFo, .ref vSi, .ref vIt, .ref vMo, .int 0, .ref vBy, .ref vTy, .int 0, .ref vMi, .int 0, .ref vPs, .int 0, .ref vGs, .int 0, .ref vFt, .int 0, .ref vTo, .int 0, .int 0, .int 0, .int 16777215, .int 0, .int 0, .ref vPr, .ref vSt, .ref vFn, .int 0, .ref vSg, .ref vAl, .int 0]))] := hD
  obtain ⟨locs, hlo⟩ : ∃ z : List Loc, z = [] := ⟨_, rfl⟩
  rw [← hlo] at hS ⊢
  clear hlo hH hAe hD0
  refine lv_iload_n hx₀ hb dX12_isFlight_0 rfl (lv_at hl 1 rfl) ?_
  refine lv_i2l hx₀ hb dX12_isFlight_1 rfl ?_
  refine lv_lconst (v := 0) hx₀ hb dX12_isFlight_2 (by decide +kernel) ?_
  refine lv_aload_n hx₀ hb dX12_isFlight_3 rfl (lv_at hl 0 rfl) ?_
  refine va_get (D := (dC, dI)) (ci := 11) (v := .int 0) (C := RX12) (T := TX12) (N := 30) hx₀ hb hts inlX12 hown hK hP 0 rfl rfl 13 (by decide) (hts (.fieldLink RX12 159 "BittenStickModel" "flights" "I") wd_364) (fun _ h9 => h9) rfl dX12_isFlight_4 ?_
  refine lv_iconst (v := 1) hx₀ hb dX12_isFlight_7 (by decide +kernel) ?_
  refine lv_isub hx₀ hb dX12_isFlight_8 ?_
  refine k_topi (v := (-1)) (by decide +kernel) ?_
  refine lv_i2l (v := (-1)) hx₀ hb dX12_isFlight_9 (by decide +kernel) ?_
  have hPc := hP.sub (ws' := []) [] rfl
  have hDc := hD.sub (ws' := []) [] (by decide) rfl
  have hFc := va_free (wc := []) hD hS hA [] rfl
  refine va_calli (va_runS (As := [.long k.toInt64, .long 0, .long (-1)]) (rest := []) ⟨hx₀, hb, hml, hown, hts⟩ (c_in l dC dI cI cJ cQ H.size k.toInt64 0 (-1)) (va_cwS 3 hts (kGS wd_208 wd_206 wd_207 wd_5) rfl rfl rfl (by decide +kernel) ⟨Nat.le_of_ble_eq_true rfl, Nat.le_of_ble_eq_true rfl⟩) (k_preS hK hPc hDc hN) rfl rfl hl.1 rfl (lv_room (Nat.le_of_ble_eq_true rfl)) dX12_isFlight_10 ⟨by decide +kernel, by decide +kernel⟩) hS (fun q _ h => hFc q h) hFc (fun r_1 u₀ t₀ H1 locs ht hvm hw hB hz1 hk1 hS => ?_)
  obtain ⟨hP1, hK1, hD1⟩ := hB
  rw [ht] at hP1
  obtain ⟨hP, hD⟩ := va_join (wr := [(hm, .inr (11, [.ref vFo, .ref vSi, .ref vIt, .ref vMo, .int 0, .ref vBy, .ref vTy, .int 0, .ref vMi, .int 0, .ref vPs, .int 0, .ref vGs, .int 0, .ref vFt, .int 0, .ref vTo, .int 0, .int 0, .int 0, .int 16777215, .int 0, .int 0, .ref vPr, .ref vSt, .ref vFn, .int 0, .ref vSg, .ref vAl, .int 0]))]) (w1 := []) hP hD [] [0] rfl rfl (by decide) (by decide) hk1 hFc hP1 hD1
  generalize H1 = H at hP hS ⊢
  have hP : va_P (dC, dI) vwCl [(hm, .inr (11, [.ref vFo, .ref vSi, .ref vIt, .ref vMo, .int 0, .ref vBy, .ref vTy, .int 0, .ref vMi, .int 0, .ref vPs, .int 0, .ref vGs, .int 0, .ref vFt, .int 0, .ref vTo, .int 0, .int 0, .int 0, .int 16777215, .int 0, .int 0, .ref vPr, .ref vSt, .ref vFn, .int 0, .ref vSg, .ref vAl, .int 0]))] H := hP
  have hD : va_D A [(hm, .inr (11, [.ref vFo, .ref vSi, .ref vIt, .ref vMo, .int 0, .ref vBy, .ref vTy, .int 0, .ref vMi, .int 0, .ref vPs, .int 0, .ref vGs, .int 0, .ref vFt, .int 0, .ref vTo, .int 0, .int 0, .int 0, .int 16777215, .int 0, .int 0, .ref vPr, .ref vSt, .ref vFn, .int 0, .ref vSg, .ref vAl, .int 0]))] := hD
  try dsimp only at hw
  rw [if_neg (fun c9 => lf_m_isFlight_1 k c9)] at hw
  refine k_topi (v := 0) hw ?_
  have hP9 := hP.sub (ws' := [(hm, .inr (11, [.ref vFo, .ref vSi, .ref vIt, .ref vMo, .int 0, .ref vBy, .ref vTy, .int 0, .ref vMi, .int 0, .ref vPs, .int 0, .ref vGs, .int 0, .ref vFt, .int 0, .ref vTo, .int 0, .int 0, .int 0, .int 16777215, .int 0, .int 0, .ref vPr, .ref vSt, .ref vFn, .int 0, .ref vSg, .ref vAl, .int 0]))]) [0] rfl
  have hD9 := hD.sub (ws' := [(hm, .inr (11, [.ref vFo, .ref vSi, .ref vIt, .ref vMo, .int 0, .ref vBy, .ref vTy, .int 0, .ref vMi, .int 0, .ref vPs, .int 0, .ref vGs, .int 0, .ref vFt, .int 0, .ref vTo, .int 0, .int 0, .int 0, .int 16777215, .int 0, .int 0, .ref vPr, .ref vSt, .ref vFn, .int 0, .ref vSg, .ref vAl, .int 0]))]) [0] (by decide) rfl
  exact W.zret (v := 0) hx₀ hb hr (by decide +kernel) (fun t₀ ht hW => ⟨⟨0, (), rfl, rfl, by rw [ht]; exact hP9, va_K.moved hW.alike hK, hD9⟩, hS.F ht⟩) hS.2.2 dX12_isFlight_13
set_option maxHeartbeats 4000000 in
set_option maxRecDepth 100000 in
theorem m_readsLand (l : Launch) (dC : Nat → ClassId) (dI : Nat → Nat → Nat) (cI cJ cQ : ClassId) (sz : Nat) (hm : Nat) (vFo : Nat) (vSi : Nat) (vIt : Nat) (vMo : Nat) (vBy : Nat) (vTy : Nat) (vMi : Nat) (vPs : Nat) (vGs : Nat) (vFt : Nat) (vTo : Nat) (vPr : Nat) (vSt : Nat) (vFn : Nat) (vSg : Nat) (vAl : Nat) : Met l yX12_readsLand (kW yX12_readsLand cX12_readsLand 3 (some .int)) { frames := 0, cells := 0, slots := 0, locals := 0 } (kPre dC dI cI cJ cQ sz [.ref hm] [(hm, .inr (11, [.ref vFo, .ref vSi, .ref vIt, .ref vMo, .int 0, .ref vBy, .ref vTy, .int 0, .ref vMi, .int 0, .ref vPs, .int 0, .ref vGs, .int 0, .ref vFt, .int 0, .ref vTo, .int 0, .int 0, .int 0, .int 16777215, .int 0, .int 0, .ref vPr, .ref vSt, .ref vFn, .int 0, .ref vSg, .ref vAl, .int 0])), (vTy, .inl (cI, 3, .inl (fun _ => 0)))]) (va_Qi (fun (r : Int32) (_ : Unit) => r = (-1)) (fun _ t₀ => kB dC dI cI cJ cQ (va_A [(hm, .inr (11, [.ref vFo, .ref vSi, .ref vIt, .ref vMo, .int 0, .ref vBy, .ref vTy, .int 0, .ref vMi, .int 0, .ref vPs, .int 0, .ref vGs, .int 0, .ref vFt, .int 0, .ref vTo, .int 0, .int 0, .int 0, .int 16777215, .int 0, .int 0, .ref vPr, .ref vSt, .ref vFn, .int 0, .ref vSg, .ref vAl, .int 0])), (vTy, .inl (cI, 3, .inl (fun _ => 0)))] sz) [(hm, .inr (11, [.ref vFo, .ref vSi, .ref vIt, .ref vMo, .int 0, .ref vBy, .ref vTy, .int 0, .ref vMi, .int 0, .ref vPs, .int 0, .ref vGs, .int 0, .ref vFt, .int 0, .ref vTo, .int 0, .int 0, .int 0, .int 16777215, .int 0, .int 0, .ref vPr, .ref vSt, .ref vFn, .int 0, .ref vSg, .ref vAl, .int 0])), (vTy, .inl (cI, 3, .inl (fun _ => 0)))] t₀) (va_A [(hm, .inr (11, [.ref vFo, .ref vSi, .ref vIt, .ref vMo, .int 0, .ref vBy, .ref vTy, .int 0, .ref vMi, .int 0, .ref vPs, .int 0, .ref vGs, .int 0, .ref vFt, .int 0, .ref vTo, .int 0, .int 0, .int 0, .int 16777215, .int 0, .int 0, .ref vPr, .ref vSt, .ref vFn, .int 0, .ref vSg, .ref vAl, .int 0])), (vTy, .inl (cI, 3, .inl (fun _ => 0)))] sz)) 0 0 (va_A [(hm, .inr (11, [.ref vFo, .ref vSi, .ref vIt, .ref vMo, .int 0, .ref vBy, .ref vTy, .int 0, .ref vMi, .int 0, .ref vPs, .int 0, .ref vGs, .int 0, .ref vFt, .int 0, .ref vTo, .int 0, .int 0, .int 0, .int 16777215, .int 0, .int 0, .ref vPr, .ref vSt, .ref vFn, .int 0, .ref vSg, .ref vAl, .int 0])), (vTy, .inl (cI, 3, .inl (fun _ => 0)))] sz) := by
  refine Met.ofW (cc := cX12_readsLand) (maxL := 3) (ret := (some .int)) (by decide) rfl ?_
  intro p₀ e₀ s₀ m₀ args below meth c₀ s₁ B hml hv₀
  obtain ⟨rfl, hsz, hP, hK, hD0, hN⟩ := hv₀
  have hx₀ := B.exec
  have hb := B.bytes
  have hr := B.returns
  have hts := atoms_spec (ws := (kW yX12_readsLand cX12_readsLand 3 (some .int))) B.pre
  have hts := fun w h => hts w (List.mem_cons_of_mem _ h)
  have hown : s₀.vm.findClass RX12 = some m₀.cls := findClass_of_methodNamed B.named
  have hlocks := B.notSynchronized
  subst hsz
  have hD := hD0.self (sz := s₀.heap.size)
  generalize hAe : va_A [(hm, .inr (11, [.ref vFo, .ref vSi, .ref vIt, .ref vMo, .int 0, .ref vBy, .ref vTy, .int 0, .ref vMi, .int 0, .ref vPs, .int 0, .ref vGs, .int 0, .ref vFt, .int 0, .ref vTo, .int 0, .int 0, .int 0, .int 16777215, .int 0, .int 0, .ref vPr, .ref vSt, .ref vFn, .int 0, .ref vSg, .ref vAl, .int 0])), (vTy, .inl (cI, 3, .inl (fun _ => 0)))] s₀.heap.size = A at hD ⊢
  have hA : ∀ q : Nat, s₀.heap.size ≤ q → A q := fun q h => by rw [← hAe]; exact Or.inr h
  have hS : va_S A s₀.heap s₀.heap [] := va_S.rf
  have hP : va_P (dC, dI) vwCl [(hm, .inr (11, [.ref vFo, .ref vSi, .ref vIt, .ref vMo, .int 0, .ref vBy, .ref vTy, .int 0, .ref vMi, .int 0, .ref vPs, .int 0, .ref vGs, .int 0, .ref vFt, .int 0, .ref vTo, .int 0, .int 0, .int 0, .int 16777215, .int 0, .int 0, .ref vPr, .ref vSt, .ref vFn, .int 0, .ref vSg, .ref vAl, .int 0])), (vTy, .inl (cI, 3, .inl (fun _ => 0)))] s₀.heap := hP
  have hl := lv_entry ([.ref hm]) (n := 3) (Nat.le_of_ble_eq_true rfl)
  rw [lg_entry_eq]
  generalize (lg_sl ([.ref hm]) ++ List.replicate (3 - (lg_sl ([.ref hm])).length) Slot.unset).toArray = ls at hl ⊢
  have hl : lv_has ls 3 [(0, .ref hm)] := hl
  obtain ⟨H, hH⟩ : ∃ z : Heap, z = s₀.heap := ⟨_, rfl⟩
  rw [← hH] at hP
  have hS : va_S A s₀.heap H [] := by rw [hH]; exact hS
  refine k_heap hH ?_
  have hD : va_D A [(hm, .inr (11, [.ref vFo, .ref vSi, .ref vIt, .ref vMo, .int 0, .ref vBy, .ref vTy, .int 0, .ref vMi, .int 0, .ref vPs, .int 0, .ref vGs, .int 0, .ref vFt, .int 0, .ref vTo, .int 0, .int 0, .int 0, .int 16777215, .int 0, .int 0, .ref vPr, .ref vSt, .ref vFn, .int 0, .ref vSg, .ref vAl, .int 0])), (vTy, .inl (cI, 3, .inl (fun _ => 0)))] := hD
  obtain ⟨locs, hlo⟩ : ∃ z : List Loc, z = [] := ⟨_, rfl⟩
  rw [← hlo] at hS ⊢
  clear hlo hH hAe hD0
  refine lv_aload_n hx₀ hb dX12_readsLand_0 rfl (lv_at hl 0 rfl) ?_
  refine lv_iconst (v := 0) hx₀ hb dX12_readsLand_1 (by decide +kernel) ?_
  refine va_put (D := (dC, dI)) (ci := 11) (v := .int 0) (ty := .int) (C := RX12) (T := TX12) (N := 30) hx₀ hb hts inlX12 tyX12 tyX12_ok nmX12 hown hK hP hD hS 0 rfl rfl 7 (by decide) (hts (.fieldLink RX12 107 "BittenStickModel" "miles" "I") wd_252) (fun _ h9 => h9) rfl (by decide +kernel) rfl rfl (Nat.le_of_ble_eq_true rfl) dX12_readsLand_2 (fun H locs hP hD hS => ?_)
  have hP : va_P (dC, dI) vwCl [(hm, .inr (11, [.ref vFo, .ref vSi, .ref vIt, .ref vMo, .int 0, .ref vBy, .ref vTy, .int 0, .ref vMi, .int 0, .ref vPs, .int 0, .ref vGs, .int 0, .ref vFt, .int 0, .ref vTo, .int 0, .int 0, .int 0, .int 16777215, .int 0, .int 0, .ref vPr, .ref vSt, .ref vFn, .int 0, .ref vSg, .ref vAl, .int 0])), (vTy, .inl (cI, 3, .inl (fun _ => 0)))] H := hP
  have hD : va_D A [(hm, .inr (11, [.ref vFo, .ref vSi, .ref vIt, .ref vMo, .int 0, .ref vBy, .ref vTy, .int 0, .ref vMi, .int 0, .ref vPs, .int 0, .ref vGs, .int 0, .ref vFt, .int 0, .ref vTo, .int 0, .int 0, .int 0, .int 16777215, .int 0, .int 0, .ref vPr, .ref vSt, .ref vFn, .int 0, .ref vSg, .ref vAl, .int 0])), (vTy, .inl (cI, 3, .inl (fun _ => 0)))] := hD
  refine lv_iconst (v := 0) hx₀ hb dX12_readsLand_5 (by decide +kernel) ?_
  refine lv_istore_n (lv' := [(1, .int 0), (0, .ref hm)]) hx₀ hb dX12_readsLand_6 rfl hl (by decide) rfl (fun ls hl => ?_)
  refine lv_iload_n hx₀ hb dX12_readsLand_7 rfl (lv_at hl 0 rfl) ?_
  refine lv_aload_n hx₀ hb dX12_readsLand_8 rfl (lv_at hl 1 rfl) ?_
  refine va_get (D := (dC, dI)) (ci := 11) (v := .ref vTy) (C := RX12) (T := TX12) (N := 30) hx₀ hb hts inlX12 hown hK hP 0 rfl rfl 6 (by decide) (hts (.fieldLink RX12 25 "BittenStickModel" "typed" "[I") wd_120) (fun _ h9 => h9) rfl dX12_readsLand_9 ?_
  refine lv_iconst (v := 0) hx₀ hb dX12_readsLand_12 (by decide +kernel) ?_
  refine va_iald hx₀ hb hK hP 1 0 rfl rfl (by unfold vp_in; decide +kernel) dX12_readsLand_13 ?_
  refine k_topi (v := 0) rfl ?_
  refine lv_icmp_ge (tgt := 63) hx₀ hb dX12_readsLand_14 (by decide) (fun _ => ?_) (fun c9 => absurd (by decide +kernel) c9)
  refine lv_iconst (v := (-1)) hx₀ hb dX12_readsLand_63 (by decide +kernel) ?_
  have hP9 := hP.sub (ws' := [(hm, .inr (11, [.ref vFo, .ref vSi, .ref vIt, .ref vMo, .int 0, .ref vBy, .ref vTy, .int 0, .ref vMi, .int 0, .ref vPs, .int 0, .ref vGs, .int 0, .ref vFt, .int 0, .ref vTo, .int 0, .int 0, .int 0, .int 16777215, .int 0, .int 0, .ref vPr, .ref vSt, .ref vFn, .int 0, .ref vSg, .ref vAl, .int 0])), (vTy, .inl (cI, 3, .inl (fun _ => 0)))]) [0, 1] rfl
  have hD9 := hD.sub (ws' := [(hm, .inr (11, [.ref vFo, .ref vSi, .ref vIt, .ref vMo, .int 0, .ref vBy, .ref vTy, .int 0, .ref vMi, .int 0, .ref vPs, .int 0, .ref vGs, .int 0, .ref vFt, .int 0, .ref vTo, .int 0, .int 0, .int 0, .int 16777215, .int 0, .int 0, .ref vPr, .ref vSt, .ref vFn, .int 0, .ref vSg, .ref vAl, .int 0])), (vTy, .inl (cI, 3, .inl (fun _ => 0)))]) [0, 1] (by decide) rfl
  exact W.iret (v := (-1)) hx₀ hb hr (fun t₀ ht hW => ⟨⟨(-1), (), rfl, rfl, by rw [ht]; exact hP9, va_K.moved hW.alike hK, hD9⟩, hS.F ht⟩) hS.2.2 dX12_readsLand_64
set_option maxHeartbeats 4000000 in
set_option maxRecDepth 100000 in
theorem m_readsPassengers (l : Launch) (dC : Nat → ClassId) (dI : Nat → Nat → Nat) (cI cJ cQ : ClassId) (sz : Nat) (hm : Nat) (vFo : Nat) (vSi : Nat) (vIt : Nat) (vMo : Nat) (vBy : Nat) (vTy : Nat) (vMi : Nat) (vPs : Nat) (vGs : Nat) (vFt : Nat) (vTo : Nat) (vPr : Nat) (vSt : Nat) (vFn : Nat) (vSg : Nat) (vAl : Nat) : Met l yX12_readsPassengers (kW yX12_readsPassengers cX12_readsPassengers 5 (some .int)) { frames := 0, cells := 0, slots := 0, locals := 0 } (kPre dC dI cI cJ cQ sz [.ref hm] [(hm, .inr (11, [.ref vFo, .ref vSi, .ref vIt, .ref vMo, .int 0, .ref vBy, .ref vTy, .int 0, .ref vMi, .int 0, .ref vPs, .int 0, .ref vGs, .int 0, .ref vFt, .int 0, .ref vTo, .int 0, .int 0, .int 0, .int 16777215, .int 0, .int 0, .ref vPr, .ref vSt, .ref vFn, .int 0, .ref vSg, .ref vAl, .int 0])), (vTy, .inl (cI, 3, .inl (fun _ => 0)))]) (va_Qi (fun (r : Int32) (_ : Unit) => r = (-1)) (fun _ t₀ => kB dC dI cI cJ cQ (va_A [(hm, .inr (11, [.ref vFo, .ref vSi, .ref vIt, .ref vMo, .int 0, .ref vBy, .ref vTy, .int 0, .ref vMi, .int 0, .ref vPs, .int 0, .ref vGs, .int 0, .ref vFt, .int 0, .ref vTo, .int 0, .int 0, .int 0, .int 16777215, .int 0, .int 0, .ref vPr, .ref vSt, .ref vFn, .int 0, .ref vSg, .ref vAl, .int 0])), (vTy, .inl (cI, 3, .inl (fun _ => 0)))] sz) [(hm, .inr (11, [.ref vFo, .ref vSi, .ref vIt, .ref vMo, .int 0, .ref vBy, .ref vTy, .int 0, .ref vMi, .int 0, .ref vPs, .int 0, .ref vGs, .int 0, .ref vFt, .int 0, .ref vTo, .int 0, .int 0, .int 0, .int 16777215, .int 0, .int 0, .ref vPr, .ref vSt, .ref vFn, .int 0, .ref vSg, .ref vAl, .int 0])), (vTy, .inl (cI, 3, .inl (fun _ => 0)))] t₀) (va_A [(hm, .inr (11, [.ref vFo, .ref vSi, .ref vIt, .ref vMo, .int 0, .ref vBy, .ref vTy, .int 0, .ref vMi, .int 0, .ref vPs, .int 0, .ref vGs, .int 0, .ref vFt, .int 0, .ref vTo, .int 0, .int 0, .int 0, .int 16777215, .int 0, .int 0, .ref vPr, .ref vSt, .ref vFn, .int 0, .ref vSg, .ref vAl, .int 0])), (vTy, .inl (cI, 3, .inl (fun _ => 0)))] sz)) 0 0 (va_A [(hm, .inr (11, [.ref vFo, .ref vSi, .ref vIt, .ref vMo, .int 0, .ref vBy, .ref vTy, .int 0, .ref vMi, .int 0, .ref vPs, .int 0, .ref vGs, .int 0, .ref vFt, .int 0, .ref vTo, .int 0, .int 0, .int 0, .int 16777215, .int 0, .int 0, .ref vPr, .ref vSt, .ref vFn, .int 0, .ref vSg, .ref vAl, .int 0])), (vTy, .inl (cI, 3, .inl (fun _ => 0)))] sz) := by
  refine Met.ofW (cc := cX12_readsPassengers) (maxL := 5) (ret := (some .int)) (by decide) rfl ?_
  intro p₀ e₀ s₀ m₀ args below meth c₀ s₁ B hml hv₀
  obtain ⟨rfl, hsz, hP, hK, hD0, hN⟩ := hv₀
  have hx₀ := B.exec
  have hb := B.bytes
  have hr := B.returns
  have hts := atoms_spec (ws := (kW yX12_readsPassengers cX12_readsPassengers 5 (some .int))) B.pre
  have hts := fun w h => hts w (List.mem_cons_of_mem _ h)
  have hown : s₀.vm.findClass RX12 = some m₀.cls := findClass_of_methodNamed B.named
  have hlocks := B.notSynchronized
  subst hsz
  have hD := hD0.self (sz := s₀.heap.size)
  generalize hAe : va_A [(hm, .inr (11, [.ref vFo, .ref vSi, .ref vIt, .ref vMo, .int 0, .ref vBy, .ref vTy, .int 0, .ref vMi, .int 0, .ref vPs, .int 0, .ref vGs, .int 0, .ref vFt, .int 0, .ref vTo, .int 0, .int 0, .int 0, .int 16777215, .int 0, .int 0, .ref vPr, .ref vSt, .ref vFn, .int 0, .ref vSg, .ref vAl, .int 0])), (vTy, .inl (cI, 3, .inl (fun _ => 0)))] s₀.heap.size = A at hD ⊢
  have hA : ∀ q : Nat, s₀.heap.size ≤ q → A q := fun q h => by rw [← hAe]; exact Or.inr h
  have hS : va_S A s₀.heap s₀.heap [] := va_S.rf
  have hP : va_P (dC, dI) vwCl [(hm, .inr (11, [.ref vFo, .ref vSi, .ref vIt, .ref vMo, .int 0, .ref vBy, .ref vTy, .int 0, .ref vMi, .int 0, .ref vPs, .int 0, .ref vGs, .int 0, .ref vFt, .int 0, .ref vTo, .int 0, .int 0, .int 0, .int 16777215, .int 0, .int 0, .ref vPr, .ref vSt, .ref vFn, .int 0, .ref vSg, .ref vAl, .int 0])), (vTy, .inl (cI, 3, .inl (fun _ => 0)))] s₀.heap := hP
  have hl := lv_entry ([.ref hm]) (n := 5) (Nat.le_of_ble_eq_true rfl)
  rw [lg_entry_eq]
  generalize (lg_sl ([.ref hm]) ++ List.replicate (5 - (lg_sl ([.ref hm])).length) Slot.unset).toArray = ls at hl ⊢
  have hl : lv_has ls 5 [(0, .ref hm)] := hl
  obtain ⟨H, hH⟩ : ∃ z : Heap, z = s₀.heap := ⟨_, rfl⟩
  rw [← hH] at hP
  have hS : va_S A s₀.heap H [] := by rw [hH]; exact hS
  refine k_heap hH ?_
  have hD : va_D A [(hm, .inr (11, [.ref vFo, .ref vSi, .ref vIt, .ref vMo, .int 0, .ref vBy, .ref vTy, .int 0, .ref vMi, .int 0, .ref vPs, .int 0, .ref vGs, .int 0, .ref vFt, .int 0, .ref vTo, .int 0, .int 0, .int 0, .int 16777215, .int 0, .int 0, .ref vPr, .ref vSt, .ref vFn, .int 0, .ref vSg, .ref vAl, .int 0])), (vTy, .inl (cI, 3, .inl (fun _ => 0)))] := hD
  obtain ⟨locs, hlo⟩ : ∃ z : List Loc, z = [] := ⟨_, rfl⟩
  rw [← hlo] at hS ⊢
  clear hlo hH hAe hD0
  refine lv_aload_n hx₀ hb dX12_readsPassengers_0 rfl (lv_at hl 0 rfl) ?_
  refine lv_iconst (v := 0) hx₀ hb dX12_readsPassengers_1 (by decide +kernel) ?_
  refine va_put (D := (dC, dI)) (ci := 11) (v := .int 0) (ty := .int) (C := RX12) (T := TX12) (N := 30) hx₀ hb hts inlX12 tyX12 tyX12_ok nmX12 hown hK hP hD hS 0 rfl rfl 9 (by decide) (hts (.fieldLink RX12 116 "BittenStickModel" "passengers" "I") wd_265) (fun _ h9 => h9) rfl (by decide +kernel) rfl rfl (Nat.le_of_ble_eq_true rfl) dX12_readsPassengers_2 (fun H locs hP hD hS => ?_)
  have hP : va_P (dC, dI) vwCl [(hm, .inr (11, [.ref vFo, .ref vSi, .ref vIt, .ref vMo, .int 0, .ref vBy, .ref vTy, .int 0, .ref vMi, .int 0, .ref vPs, .int 0, .ref vGs, .int 0, .ref vFt, .int 0, .ref vTo, .int 0, .int 0, .int 0, .int 16777215, .int 0, .int 0, .ref vPr, .ref vSt, .ref vFn, .int 0, .ref vSg, .ref vAl, .int 0])), (vTy, .inl (cI, 3, .inl (fun _ => 0)))] H := hP
  have hD : va_D A [(hm, .inr (11, [.ref vFo, .ref vSi, .ref vIt, .ref vMo, .int 0, .ref vBy, .ref vTy, .int 0, .ref vMi, .int 0, .ref vPs, .int 0, .ref vGs, .int 0, .ref vFt, .int 0, .ref vTo, .int 0, .int 0, .int 0, .int 16777215, .int 0, .int 0, .ref vPr, .ref vSt, .ref vFn, .int 0, .ref vSg, .ref vAl, .int 0])), (vTy, .inl (cI, 3, .inl (fun _ => 0)))] := hD
  refine lv_aload_n hx₀ hb dX12_readsPassengers_5 rfl (lv_at hl 0 rfl) ?_
  refine va_get (D := (dC, dI)) (ci := 11) (v := .ref vTy) (C := RX12) (T := TX12) (N := 30) hx₀ hb hts inlX12 hown hK hP 0 rfl rfl 6 (by decide) (hts (.fieldLink RX12 25 "BittenStickModel" "typed" "[I") wd_120) (fun _ h9 => h9) rfl dX12_readsPassengers_6 ?_
  refine lv_iconst (v := 1) hx₀ hb dX12_readsPassengers_9 (by decide +kernel) ?_
  refine va_iald hx₀ hb hK hP 1 0 rfl rfl (by unfold vp_in; decide +kernel) dX12_readsPassengers_10 ?_
  refine k_topi (v := 0) rfl ?_
  refine lv_istore_n (lv' := [(1, .int 0), (0, .ref hm)]) hx₀ hb dX12_readsPassengers_11 rfl hl (by decide) rfl (fun ls hl => ?_)
  refine lv_iconst (v := 0) hx₀ hb dX12_readsPassengers_12 (by decide +kernel) ?_
  refine lv_istore_n (lv' := [(2, .int 0), (1, .int 0), (0, .ref hm)]) hx₀ hb dX12_readsPassengers_13 rfl hl (by decide) rfl (fun ls hl => ?_)
  refine lv_iload_n hx₀ hb dX12_readsPassengers_14 rfl (lv_at hl 0 rfl) ?_
  refine lv_iload_n hx₀ hb dX12_readsPassengers_15 rfl (lv_at hl 1 rfl) ?_
  refine lv_icmp_ge (tgt := 96) hx₀ hb dX12_readsPassengers_16 (by decide) (fun _ => ?_) (fun c9 => absurd (by decide +kernel) c9)
  refine lv_iload_n hx₀ hb dX12_readsPassengers_96 rfl (lv_at hl 1 rfl) ?_
  refine lv_if_le (tgt := 114) hx₀ hb dX12_readsPassengers_97 (by decide) (fun _ => ?_) (fun c9 => absurd (by decide +kernel) c9)
  refine lv_iconst (v := (-1)) hx₀ hb dX12_readsPassengers_114 (by decide +kernel) ?_
  have hP9 := hP.sub (ws' := [(hm, .inr (11, [.ref vFo, .ref vSi, .ref vIt, .ref vMo, .int 0, .ref vBy, .ref vTy, .int 0, .ref vMi, .int 0, .ref vPs, .int 0, .ref vGs, .int 0, .ref vFt, .int 0, .ref vTo, .int 0, .int 0, .int 0, .int 16777215, .int 0, .int 0, .ref vPr, .ref vSt, .ref vFn, .int 0, .ref vSg, .ref vAl, .int 0])), (vTy, .inl (cI, 3, .inl (fun _ => 0)))]) [0, 1] rfl
  have hD9 := hD.sub (ws' := [(hm, .inr (11, [.ref vFo, .ref vSi, .ref vIt, .ref vMo, .int 0, .ref vBy, .ref vTy, .int 0, .ref vMi, .int 0, .ref vPs, .int 0, .ref vGs, .int 0, .ref vFt, .int 0, .ref vTo, .int 0, .int 0, .int 0, .int 16777215, .int 0, .int 0, .ref vPr, .ref vSt, .ref vFn, .int 0, .ref vSg, .ref vAl, .int 0])), (vTy, .inl (cI, 3, .inl (fun _ => 0)))]) [0, 1] (by decide) rfl
  exact W.iret (v := (-1)) hx₀ hb hr (fun t₀ ht hW => ⟨⟨(-1), (), rfl, rfl, by rw [ht]; exact hP9, va_K.moved hW.alike hK, hD9⟩, hS.F ht⟩) hS.2.2 dX12_readsPassengers_115
set_option maxHeartbeats 4000000 in
set_option maxRecDepth 100000 in
theorem m_readsGeese (l : Launch) (dC : Nat → ClassId) (dI : Nat → Nat → Nat) (cI cJ cQ : ClassId) (sz : Nat) (hm : Nat) (vFo : Nat) (vSi : Nat) (vIt : Nat) (vMo : Nat) (vBy : Nat) (vTy : Nat) (vMi : Nat) (vPs : Nat) (vGs : Nat) (vFt : Nat) (vTo : Nat) (vPr : Nat) (vSt : Nat) (vFn : Nat) (vSg : Nat) (vAl : Nat) : Met l yX12_readsGeese (kW yX12_readsGeese cX12_readsGeese 5 (some .int)) { frames := 0, cells := 0, slots := 0, locals := 0 } (kPre dC dI cI cJ cQ sz [.ref hm] [(hm, .inr (11, [.ref vFo, .ref vSi, .ref vIt, .ref vMo, .int 0, .ref vBy, .ref vTy, .int 0, .ref vMi, .int 0, .ref vPs, .int 0, .ref vGs, .int 0, .ref vFt, .int 0, .ref vTo, .int 0, .int 0, .int 0, .int 16777215, .int 0, .int 0, .ref vPr, .ref vSt, .ref vFn, .int 0, .ref vSg, .ref vAl, .int 0])), (vTy, .inl (cI, 3, .inl (fun _ => 0)))]) (va_Qi (fun (r : Int32) (_ : Unit) => r = (-1)) (fun _ t₀ => kB dC dI cI cJ cQ (va_A [(hm, .inr (11, [.ref vFo, .ref vSi, .ref vIt, .ref vMo, .int 0, .ref vBy, .ref vTy, .int 0, .ref vMi, .int 0, .ref vPs, .int 0, .ref vGs, .int 0, .ref vFt, .int 0, .ref vTo, .int 0, .int 0, .int 0, .int 16777215, .int 0, .int 0, .ref vPr, .ref vSt, .ref vFn, .int 0, .ref vSg, .ref vAl, .int 0])), (vTy, .inl (cI, 3, .inl (fun _ => 0)))] sz) [(hm, .inr (11, [.ref vFo, .ref vSi, .ref vIt, .ref vMo, .int 0, .ref vBy, .ref vTy, .int 0, .ref vMi, .int 0, .ref vPs, .int 0, .ref vGs, .int 0, .ref vFt, .int 0, .ref vTo, .int 0, .int 0, .int 0, .int 16777215, .int 0, .int 0, .ref vPr, .ref vSt, .ref vFn, .int 0, .ref vSg, .ref vAl, .int 0])), (vTy, .inl (cI, 3, .inl (fun _ => 0)))] t₀) (va_A [(hm, .inr (11, [.ref vFo, .ref vSi, .ref vIt, .ref vMo, .int 0, .ref vBy, .ref vTy, .int 0, .ref vMi, .int 0, .ref vPs, .int 0, .ref vGs, .int 0, .ref vFt, .int 0, .ref vTo, .int 0, .int 0, .int 0, .int 16777215, .int 0, .int 0, .ref vPr, .ref vSt, .ref vFn, .int 0, .ref vSg, .ref vAl, .int 0])), (vTy, .inl (cI, 3, .inl (fun _ => 0)))] sz)) 0 0 (va_A [(hm, .inr (11, [.ref vFo, .ref vSi, .ref vIt, .ref vMo, .int 0, .ref vBy, .ref vTy, .int 0, .ref vMi, .int 0, .ref vPs, .int 0, .ref vGs, .int 0, .ref vFt, .int 0, .ref vTo, .int 0, .int 0, .int 0, .int 16777215, .int 0, .int 0, .ref vPr, .ref vSt, .ref vFn, .int 0, .ref vSg, .ref vAl, .int 0])), (vTy, .inl (cI, 3, .inl (fun _ => 0)))] sz) := by
  refine Met.ofW (cc := cX12_readsGeese) (maxL := 5) (ret := (some .int)) (by decide) rfl ?_
  intro p₀ e₀ s₀ m₀ args below meth c₀ s₁ B hml hv₀
  obtain ⟨rfl, hsz, hP, hK, hD0, hN⟩ := hv₀
  have hx₀ := B.exec
  have hb := B.bytes
  have hr := B.returns
  have hts := atoms_spec (ws := (kW yX12_readsGeese cX12_readsGeese 5 (some .int))) B.pre
  have hts := fun w h => hts w (List.mem_cons_of_mem _ h)
  have hown : s₀.vm.findClass RX12 = some m₀.cls := findClass_of_methodNamed B.named
  have hlocks := B.notSynchronized
  subst hsz
  have hD := hD0.self (sz := s₀.heap.size)
  generalize hAe : va_A [(hm, .inr (11, [.ref vFo, .ref vSi, .ref vIt, .ref vMo, .int 0, .ref vBy, .ref vTy, .int 0, .ref vMi, .int 0, .ref vPs, .int 0, .ref vGs, .int 0, .ref vFt, .int 0, .ref vTo, .int 0, .int 0, .int 0, .int 16777215, .int 0, .int 0, .ref vPr, .ref vSt, .ref vFn, .int 0, .ref vSg, .ref vAl, .int 0])), (vTy, .inl (cI, 3, .inl (fun _ => 0)))] s₀.heap.size = A at hD ⊢
  have hA : ∀ q : Nat, s₀.heap.size ≤ q → A q := fun q h => by rw [← hAe]; exact Or.inr h
  have hS : va_S A s₀.heap s₀.heap [] := va_S.rf
  have hP : va_P (dC, dI) vwCl [(hm, .inr (11, [.ref vFo, .ref vSi, .ref vIt, .ref vMo, .int 0, .ref vBy, .ref vTy, .int 0, .ref vMi, .int 0, .ref vPs, .int 0, .ref vGs, .int 0, .ref vFt, .int 0, .ref vTo, .int 0, .int 0, .int 0, .int 16777215, .int 0, .int 0, .ref vPr, .ref vSt, .ref vFn, .int 0, .ref vSg, .ref vAl, .int 0])), (vTy, .inl (cI, 3, .inl (fun _ => 0)))] s₀.heap := hP
  have hl := lv_entry ([.ref hm]) (n := 5) (Nat.le_of_ble_eq_true rfl)
  rw [lg_entry_eq]
  generalize (lg_sl ([.ref hm]) ++ List.replicate (5 - (lg_sl ([.ref hm])).length) Slot.unset).toArray = ls at hl ⊢
  have hl : lv_has ls 5 [(0, .ref hm)] := hl
  obtain ⟨H, hH⟩ : ∃ z : Heap, z = s₀.heap := ⟨_, rfl⟩
  rw [← hH] at hP
  have hS : va_S A s₀.heap H [] := by rw [hH]; exact hS
  refine k_heap hH ?_
  have hD : va_D A [(hm, .inr (11, [.ref vFo, .ref vSi, .ref vIt, .ref vMo, .int 0, .ref vBy, .ref vTy, .int 0, .ref vMi, .int 0, .ref vPs, .int 0, .ref vGs, .int 0, .ref vFt, .int 0, .ref vTo, .int 0, .int 0, .int 0, .int 16777215, .int 0, .int 0, .ref vPr, .ref vSt, .ref vFn, .int 0, .ref vSg, .ref vAl, .int 0])), (vTy, .inl (cI, 3, .inl (fun _ => 0)))] := hD
  obtain ⟨locs, hlo⟩ : ∃ z : List Loc, z = [] := ⟨_, rfl⟩
  rw [← hlo] at hS ⊢
  clear hlo hH hAe hD0
  refine lv_aload_n hx₀ hb dX12_readsGeese_0 rfl (lv_at hl 0 rfl) ?_
  refine lv_iconst (v := 0) hx₀ hb dX12_readsGeese_1 (by decide +kernel) ?_
  refine va_put (D := (dC, dI)) (ci := 11) (v := .int 0) (ty := .int) (C := RX12) (T := TX12) (N := 30) hx₀ hb hts inlX12 tyX12 tyX12_ok nmX12 hown hK hP hD hS 0 rfl rfl 11 (by decide) (hts (.fieldLink RX12 122 "BittenStickModel" "geese" "I") wd_277) (fun _ h9 => h9) rfl (by decide +kernel) rfl rfl (Nat.le_of_ble_eq_true rfl) dX12_readsGeese_2 (fun H locs hP hD hS => ?_)
  have hP : va_P (dC, dI) vwCl [(hm, .inr (11, [.ref vFo, .ref vSi, .ref vIt, .ref vMo, .int 0, .ref vBy, .ref vTy, .int 0, .ref vMi, .int 0, .ref vPs, .int 0, .ref vGs, .int 0, .ref vFt, .int 0, .ref vTo, .int 0, .int 0, .int 0, .int 16777215, .int 0, .int 0, .ref vPr, .ref vSt, .ref vFn, .int 0, .ref vSg, .ref vAl, .int 0])), (vTy, .inl (cI, 3, .inl (fun _ => 0)))] H := hP
  have hD : va_D A [(hm, .inr (11, [.ref vFo, .ref vSi, .ref vIt, .ref vMo, .int 0, .ref vBy, .ref vTy, .int 0, .ref vMi, .int 0, .ref vPs, .int 0, .ref vGs, .int 0, .ref vFt, .int 0, .ref vTo, .int 0, .int 0, .int 0, .int 16777215, .int 0, .int 0, .ref vPr, .ref vSt, .ref vFn, .int 0, .ref vSg, .ref vAl, .int 0])), (vTy, .inl (cI, 3, .inl (fun _ => 0)))] := hD
  refine lv_aload_n hx₀ hb dX12_readsGeese_5 rfl (lv_at hl 0 rfl) ?_
  refine va_get (D := (dC, dI)) (ci := 11) (v := .ref vTy) (C := RX12) (T := TX12) (N := 30) hx₀ hb hts inlX12 hown hK hP 0 rfl rfl 6 (by decide) (hts (.fieldLink RX12 25 "BittenStickModel" "typed" "[I") wd_120) (fun _ h9 => h9) rfl dX12_readsGeese_6 ?_
  refine lv_iconst (v := 2) hx₀ hb dX12_readsGeese_9 (by decide +kernel) ?_
  refine va_iald hx₀ hb hK hP 1 0 rfl rfl (by unfold vp_in; decide +kernel) dX12_readsGeese_10 ?_
  refine k_topi (v := 0) rfl ?_
  refine lv_istore_n (lv' := [(1, .int 0), (0, .ref hm)]) hx₀ hb dX12_readsGeese_11 rfl hl (by decide) rfl (fun ls hl => ?_)
  refine lv_iconst (v := 0) hx₀ hb dX12_readsGeese_12 (by decide +kernel) ?_
  refine lv_istore_n (lv' := [(2, .int 0), (1, .int 0), (0, .ref hm)]) hx₀ hb dX12_readsGeese_13 rfl hl (by decide) rfl (fun ls hl => ?_)
  refine lv_iload_n hx₀ hb dX12_readsGeese_14 rfl (lv_at hl 0 rfl) ?_
  refine lv_iload_n hx₀ hb dX12_readsGeese_15 rfl (lv_at hl 1 rfl) ?_
  refine lv_icmp_ge (tgt := 96) hx₀ hb dX12_readsGeese_16 (by decide) (fun _ => ?_) (fun c9 => absurd (by decide +kernel) c9)
  refine lv_iload_n hx₀ hb dX12_readsGeese_96 rfl (lv_at hl 1 rfl) ?_
  refine lv_if_le (tgt := 114) hx₀ hb dX12_readsGeese_97 (by decide) (fun _ => ?_) (fun c9 => absurd (by decide +kernel) c9)
  refine lv_iconst (v := (-1)) hx₀ hb dX12_readsGeese_114 (by decide +kernel) ?_
  have hP9 := hP.sub (ws' := [(hm, .inr (11, [.ref vFo, .ref vSi, .ref vIt, .ref vMo, .int 0, .ref vBy, .ref vTy, .int 0, .ref vMi, .int 0, .ref vPs, .int 0, .ref vGs, .int 0, .ref vFt, .int 0, .ref vTo, .int 0, .int 0, .int 0, .int 16777215, .int 0, .int 0, .ref vPr, .ref vSt, .ref vFn, .int 0, .ref vSg, .ref vAl, .int 0])), (vTy, .inl (cI, 3, .inl (fun _ => 0)))]) [0, 1] rfl
  have hD9 := hD.sub (ws' := [(hm, .inr (11, [.ref vFo, .ref vSi, .ref vIt, .ref vMo, .int 0, .ref vBy, .ref vTy, .int 0, .ref vMi, .int 0, .ref vPs, .int 0, .ref vGs, .int 0, .ref vFt, .int 0, .ref vTo, .int 0, .int 0, .int 0, .int 16777215, .int 0, .int 0, .ref vPr, .ref vSt, .ref vFn, .int 0, .ref vSg, .ref vAl, .int 0])), (vTy, .inl (cI, 3, .inl (fun _ => 0)))]) [0, 1] (by decide) rfl
  exact W.iret (v := (-1)) hx₀ hb hr (fun t₀ ht hW => ⟨⟨(-1), (), rfl, rfl, by rw [ht]; exact hP9, va_K.moved hW.alike hK, hD9⟩, hS.F ht⟩) hS.2.2 dX12_readsGeese_115
set_option maxHeartbeats 4000000 in
set_option maxRecDepth 100000 in
theorem m_readsText (l : Launch) (dC : Nat → ClassId) (dI : Nat → Nat → Nat) (cI cJ cQ : ClassId) (sz : Nat) (hm : Nat) (t : Int32) (vFo : Nat) (vSi : Nat) (vIt : Nat) (vMo : Nat) (vBy : Nat) (vTy : Nat) (vMi : Nat) (vPs : Nat) (vGs : Nat) (vFt : Nat) (vTo : Nat) (vPr : Nat) (vSt : Nat) (vFn : Nat) (vSg : Nat) (vAl : Nat) : Met l yX12_readsText (kW yX12_readsText cX12_readsText 2 (some .int)) { frames := 1, cells := 0, slots := 0, locals := 24 } (kPre dC dI cI cJ cQ sz [.ref hm, .int t] [(hm, .inr (11, [.ref vFo, .ref vSi, .ref vIt, .ref vMo, .int 0, .ref vBy, .ref vTy, .int 0, .ref vMi, .int 0, .ref vPs, .int 0, .ref vGs, .int 0, .ref vFt, .int 0, .ref vTo, .int 0, .int 0, .int 0, .int 16777215, .int 0, .int 0, .ref vPr, .ref vSt, .ref vFn, .int 0, .ref vSg, .ref vAl, .int 0])), (vTy, .inl (cI, 3, .inl (fun _ => 0)))]) (va_Qi (fun (r : Int32) (_ : Unit) => r = (-1)) (fun _ t₀ => kB dC dI cI cJ cQ (va_A [(hm, .inr (11, [.ref vFo, .ref vSi, .ref vIt, .ref vMo, .int 0, .ref vBy, .ref vTy, .int 0, .ref vMi, .int 0, .ref vPs, .int 0, .ref vGs, .int 0, .ref vFt, .int 0, .ref vTo, .int 0, .int 0, .int 0, .int 16777215, .int 0, .int 0, .ref vPr, .ref vSt, .ref vFn, .int 0, .ref vSg, .ref vAl, .int 0])), (vTy, .inl (cI, 3, .inl (fun _ => 0)))] sz) [(hm, .inr (11, [.ref vFo, .ref vSi, .ref vIt, .ref vMo, .int 0, .ref vBy, .ref vTy, .int 0, .ref vMi, .int 0, .ref vPs, .int 0, .ref vGs, .int 0, .ref vFt, .int 0, .ref vTo, .int 0, .int 0, .int 0, .int 16777215, .int 0, .int 0, .ref vPr, .ref vSt, .ref vFn, .int 0, .ref vSg, .ref vAl, .int 0])), (vTy, .inl (cI, 3, .inl (fun _ => 0)))] t₀) (va_A [(hm, .inr (11, [.ref vFo, .ref vSi, .ref vIt, .ref vMo, .int 0, .ref vBy, .ref vTy, .int 0, .ref vMi, .int 0, .ref vPs, .int 0, .ref vGs, .int 0, .ref vFt, .int 0, .ref vTo, .int 0, .int 0, .int 0, .int 16777215, .int 0, .int 0, .ref vPr, .ref vSt, .ref vFn, .int 0, .ref vSg, .ref vAl, .int 0])), (vTy, .inl (cI, 3, .inl (fun _ => 0)))] sz)) 0 0 (va_A [(hm, .inr (11, [.ref vFo, .ref vSi, .ref vIt, .ref vMo, .int 0, .ref vBy, .ref vTy, .int 0, .ref vMi, .int 0, .ref vPs, .int 0, .ref vGs, .int 0, .ref vFt, .int 0, .ref vTo, .int 0, .int 0, .int 0, .int 16777215, .int 0, .int 0, .ref vPr, .ref vSt, .ref vFn, .int 0, .ref vSg, .ref vAl, .int 0])), (vTy, .inl (cI, 3, .inl (fun _ => 0)))] sz) := by
  refine Met.ofW (cc := cX12_readsText) (maxL := 2) (ret := (some .int)) (by decide) rfl ?_
  intro p₀ e₀ s₀ m₀ args below meth c₀ s₁ B hml hv₀
  obtain ⟨rfl, hsz, hP, hK, hD0, hN⟩ := hv₀
  have hx₀ := B.exec
  have hb := B.bytes
  have hr := B.returns
  have hts := atoms_spec (ws := (kW yX12_readsText cX12_readsText 2 (some .int))) B.pre
  have hts := fun w h => hts w (List.mem_cons_of_mem _ h)
  have hown : s₀.vm.findClass RX12 = some m₀.cls := findClass_of_methodNamed B.named
  have hlocks := B.notSynchronized
  subst hsz
  have hD := hD0.self (sz := s₀.heap.size)
  generalize hAe : va_A [(hm, .inr (11, [.ref vFo, .ref vSi, .ref vIt, .ref vMo, .int 0, .ref vBy, .ref vTy, .int 0, .ref vMi, .int 0, .ref vPs, .int 0, .ref vGs, .int 0, .ref vFt, .int 0, .ref vTo, .int 0, .int 0, .int 0, .int 16777215, .int 0, .int 0, .ref vPr, .ref vSt, .ref vFn, .int 0, .ref vSg, .ref vAl, .int 0])), (vTy, .inl (cI, 3, .inl (fun _ => 0)))] s₀.heap.size = A at hD ⊢
  have hA : ∀ q : Nat, s₀.heap.size ≤ q → A q := fun q h => by rw [← hAe]; exact Or.inr h
  have hS : va_S A s₀.heap s₀.heap [] := va_S.rf
  have hP : va_P (dC, dI) vwCl [(hm, .inr (11, [.ref vFo, .ref vSi, .ref vIt, .ref vMo, .int 0, .ref vBy, .ref vTy, .int 0, .ref vMi, .int 0, .ref vPs, .int 0, .ref vGs, .int 0, .ref vFt, .int 0, .ref vTo, .int 0, .int 0, .int 0, .int 16777215, .int 0, .int 0, .ref vPr, .ref vSt, .ref vFn, .int 0, .ref vSg, .ref vAl, .int 0])), (vTy, .inl (cI, 3, .inl (fun _ => 0)))] s₀.heap := hP
  have hl := lv_entry ([.ref hm, .int t]) (n := 2) (Nat.le_of_ble_eq_true rfl)
  rw [lg_entry_eq]
  generalize (lg_sl ([.ref hm, .int t]) ++ List.replicate (2 - (lg_sl ([.ref hm, .int t])).length) Slot.unset).toArray = ls at hl ⊢
  have hl : lv_has ls 2 [(0, .ref hm), (1, .int t)] := hl
  obtain ⟨H, hH⟩ : ∃ z : Heap, z = s₀.heap := ⟨_, rfl⟩
  rw [← hH] at hP
  have hS : va_S A s₀.heap H [] := by rw [hH]; exact hS
  refine k_heap hH ?_
  have hD : va_D A [(hm, .inr (11, [.ref vFo, .ref vSi, .ref vIt, .ref vMo, .int 0, .ref vBy, .ref vTy, .int 0, .ref vMi, .int 0, .ref vPs, .int 0, .ref vGs, .int 0, .ref vFt, .int 0, .ref vTo, .int 0, .int 0, .int 0, .int 16777215, .int 0, .int 0, .ref vPr, .ref vSt, .ref vFn, .int 0, .ref vSg, .ref vAl, .int 0])), (vTy, .inl (cI, 3, .inl (fun _ => 0)))] := hD
  obtain ⟨locs, hlo⟩ : ∃ z : List Loc, z = [] := ⟨_, rfl⟩
  rw [← hlo] at hS ⊢
  clear hlo hH hAe hD0
  refine lv_iload_n hx₀ hb dX12_readsText_0 rfl (lv_at hl 1 rfl) ?_
  refine lv_if_ne (tgt := 11) hx₀ hb dX12_readsText_1 (by decide) (fun c_1 => ?_) (fun c_1 => ?_)
  · refine lv_iload_n hx₀ hb dX12_readsText_11 rfl (lv_at hl 1 rfl) ?_
    refine lv_iconst (v := 1) hx₀ hb dX12_readsText_12 (by decide +kernel) ?_
    refine lv_icmp_ne (tgt := 23) hx₀ hb dX12_readsText_13 (by decide) (fun c_2 => ?_) (fun c_2 => ?_)
    · refine lv_aload_n hx₀ hb dX12_readsText_23 rfl (lv_at hl 0 rfl) ?_
      have hPc := hP.sub (ws' := [(hm, .inr (11, [.ref vFo, .ref vSi, .ref vIt, .ref vMo, .int 0, .ref vBy, .ref vTy, .int 0, .ref vMi, .int 0, .ref vPs, .int 0, .ref vGs, .int 0, .ref vFt, .int 0, .ref vTo, .int 0, .int 0, .int 0, .int 16777215, .int 0, .int 0, .ref vPr, .ref vSt, .ref vFn, .int 0, .ref vSg, .ref vAl, .int 0])), (vTy, .inl (cI, 3, .inl (fun _ => 0)))]) [0, 1] rfl
      have hDc := hD.sub (ws' := [(hm, .inr (11, [.ref vFo, .ref vSi, .ref vIt, .ref vMo, .int 0, .ref vBy, .ref vTy, .int 0, .ref vMi, .int 0, .ref vPs, .int 0, .ref vGs, .int 0, .ref vFt, .int 0, .ref vTo, .int 0, .int 0, .int 0, .int 16777215, .int 0, .int 0, .ref vPr, .ref vSt, .ref vFn, .int 0, .ref vSg, .ref vAl, .int 0])), (vTy, .inl (cI, 3, .inl (fun _ => 0)))]) [0, 1] (by decide) rfl
      have hFc := va_free (wc := [(hm, .inr (11, [.ref vFo, .ref vSi, .ref vIt, .ref vMo, .int 0, .ref vBy, .ref vTy, .int 0, .ref vMi, .int 0, .ref vPs, .int 0, .ref vGs, .int 0, .ref vFt, .int 0, .ref vTo, .int 0, .int 0, .int 0, .int 16777215, .int 0, .int 0, .ref vPr, .ref vSt, .ref vFn, .int 0, .ref vSg, .ref vAl, .int 0])), (vTy, .inl (cI, 3, .inl (fun _ => 0)))]) hD hS hA [0, 1] rfl
      refine va_calli (va_runV (As := []) (rest := []) ⟨hx₀, hb, hml, hown, hts⟩ (m_readsGeese l dC dI cI cJ cQ H.size hm vFo vSi vIt vMo vBy vTy vMi vPs vGs vFt vTo vPr vSt vFn vSg vAl) (cwV 0 hts (kGV wd_276 wd_273 wd_274 wd_275 wd_5) rfl rfl rfl (by decide +kernel) ⟨Nat.le_of_ble_eq_true rfl, Nat.le_of_ble_eq_true rfl⟩) (k_preV (ci := 11) (q0 := 0) hK hPc hDc hN rfl rfl) rfl rfl hl.1 rfl (lv_room (Nat.le_of_ble_eq_true rfl)) dX12_readsText_24 ⟨by decide +kernel, by decide +kernel⟩) hS (fun q _ h => hFc q h) hFc (fun r_3 u₀ t₀ H1 locs ht hvm hw hB hz1 hk1 hS => ?_)
      obtain ⟨hP1, hK1, hD1⟩ := hB
      rw [ht] at hP1
      obtain ⟨hP, hD⟩ := va_join (wr := []) (w1 := [(hm, .inr (11, [.ref vFo, .ref vSi, .ref vIt, .ref vMo, .int 0, .ref vBy, .ref vTy, .int 0, .ref vMi, .int 0, .ref vPs, .int 0, .ref vGs, .int 0, .ref vFt, .int 0, .ref vTo, .int 0, .int 0, .int 0, .int 16777215, .int 0, .int 0, .ref vPr, .ref vSt, .ref vFn, .int 0, .ref vSg, .ref vAl, .int 0])), (vTy, .inl (cI, 3, .inl (fun _ => 0)))]) hP hD [0, 1] [] rfl rfl (by decide) (by decide) hk1 hFc hP1 hD1
      generalize H1 = H at hP hS ⊢
      have hP : va_P (dC, dI) vwCl [(hm, .inr (11, [.ref vFo, .ref vSi, .ref vIt, .ref vMo, .int 0, .ref vBy, .ref vTy, .int 0, .ref vMi, .int 0, .ref vPs, .int 0, .ref vGs, .int 0, .ref vFt, .int 0, .ref vTo, .int 0, .int 0, .int 0, .int 16777215, .int 0, .int 0, .ref vPr, .ref vSt, .ref vFn, .int 0, .ref vSg, .ref vAl, .int 0])), (vTy, .inl (cI, 3, .inl (fun _ => 0)))] H := hP
      have hD : va_D A [(hm, .inr (11, [.ref vFo, .ref vSi, .ref vIt, .ref vMo, .int 0, .ref vBy, .ref vTy, .int 0, .ref vMi, .int 0, .ref vPs, .int 0, .ref vGs, .int 0, .ref vFt, .int 0, .ref vTo, .int 0, .int 0, .int 0, .int 16777215, .int 0, .int 0, .ref vPr, .ref vSt, .ref vFn, .int 0, .ref vSg, .ref vAl, .int 0])), (vTy, .inl (cI, 3, .inl (fun _ => 0)))] := hD
      try dsimp only at hw
      refine k_topi (v := (-1)) hw ?_
      have hP9 := hP.sub (ws' := [(hm, .inr (11, [.ref vFo, .ref vSi, .ref vIt, .ref vMo, .int 0, .ref vBy, .ref vTy, .int 0, .ref vMi, .int 0, .ref vPs, .int 0, .ref vGs, .int 0, .ref vFt, .int 0, .ref vTo, .int 0, .int 0, .int 0, .int 16777215, .int 0, .int 0, .ref vPr, .ref vSt, .ref vFn, .int 0, .ref vSg, .ref vAl, .int 0])), (vTy, .inl (cI, 3, .inl (fun _ => 0)))]) [0, 1] rfl
      have hD9 := hD.sub (ws' := [(hm, .inr (11, [.ref vFo, .ref vSi, .ref vIt, .ref vMo, .int 0, .ref vBy, .ref vTy, .int 0, .ref vMi, .int 0, .ref vPs, .int 0, .ref vGs, .int 0, .ref vFt, .int 0, .ref vTo, .int 0, .int 0, .int 0, .int 16777215, .int 0, .int 0, .ref vPr, .ref vSt, .ref vFn, .int 0, .ref vSg, .ref vAl, .int 0])), (vTy, .inl (cI, 3, .inl (fun _ => 0)))]) [0, 1] (by decide) rfl
      exact W.iret (v := (-1)) hx₀ hb hr (fun t₀ ht hW => ⟨⟨(-1), (), rfl, rfl, by rw [ht]; exact hP9, va_K.moved hW.alike hK, hD9⟩, hS.F ht⟩) hS.2.2 dX12_readsText_27
    · refine lv_aload_n hx₀ hb dX12_readsText_16 rfl (lv_at hl 0 rfl) ?_
      have hPc := hP.sub (ws' := [(hm, .inr (11, [.ref vFo, .ref vSi, .ref vIt, .ref vMo, .int 0, .ref vBy, .ref vTy, .int 0, .ref vMi, .int 0, .ref vPs, .int 0, .ref vGs, .int 0, .ref vFt, .int 0, .ref vTo, .int 0, .int 0, .int 0, .int 16777215, .int 0, .int 0, .ref vPr, .ref vSt, .ref vFn, .int 0, .ref vSg, .ref vAl, .int 0])), (vTy, .inl (cI, 3, .inl (fun _ => 0)))]) [0, 1] rfl
      have hDc := hD.sub (ws' := [(hm, .inr (11, [.ref vFo, .ref vSi, .ref vIt, .ref vMo, .int 0, .ref vBy, .ref vTy, .int 0, .ref vMi, .int 0, .ref vPs, .int 0, .ref vGs, .int 0, .ref vFt, .int 0, .ref vTo, .int 0, .int 0, .int 0, .int 16777215, .int 0, .int 0, .ref vPr, .ref vSt, .ref vFn, .int 0, .ref vSg, .ref vAl, .int 0])), (vTy, .inl (cI, 3, .inl (fun _ => 0)))]) [0, 1] (by decide) rfl
      have hFc := va_free (wc := [(hm, .inr (11, [.ref vFo, .ref vSi, .ref vIt, .ref vMo, .int 0, .ref vBy, .ref vTy, .int 0, .ref vMi, .int 0, .ref vPs, .int 0, .ref vGs, .int 0, .ref vFt, .int 0, .ref vTo, .int 0, .int 0, .int 0, .int 16777215, .int 0, .int 0, .ref vPr, .ref vSt, .ref vFn, .int 0, .ref vSg, .ref vAl, .int 0])), (vTy, .inl (cI, 3, .inl (fun _ => 0)))]) hD hS hA [0, 1] rfl
      refine va_calli (va_runV (As := []) (rest := []) ⟨hx₀, hb, hml, hown, hts⟩ (m_readsPassengers l dC dI cI cJ cQ H.size hm vFo vSi vIt vMo vBy vTy vMi vPs vGs vFt vTo vPr vSt vFn vSg vAl) (cwV 0 hts (kGV wd_264 wd_261 wd_262 wd_263 wd_5) rfl rfl rfl (by decide +kernel) ⟨Nat.le_of_ble_eq_true rfl, Nat.le_of_ble_eq_true rfl⟩) (k_preV (ci := 11) (q0 := 0) hK hPc hDc hN rfl rfl) rfl rfl hl.1 rfl (lv_room (Nat.le_of_ble_eq_true rfl)) dX12_readsText_17 ⟨by decide +kernel, by decide +kernel⟩) hS (fun q _ h => hFc q h) hFc (fun r_4 u₀ t₀ H1 locs ht hvm hw hB hz1 hk1 hS => ?_)
      obtain ⟨hP1, hK1, hD1⟩ := hB
      rw [ht] at hP1
      obtain ⟨hP, hD⟩ := va_join (wr := []) (w1 := [(hm, .inr (11, [.ref vFo, .ref vSi, .ref vIt, .ref vMo, .int 0, .ref vBy, .ref vTy, .int 0, .ref vMi, .int 0, .ref vPs, .int 0, .ref vGs, .int 0, .ref vFt, .int 0, .ref vTo, .int 0, .int 0, .int 0, .int 16777215, .int 0, .int 0, .ref vPr, .ref vSt, .ref vFn, .int 0, .ref vSg, .ref vAl, .int 0])), (vTy, .inl (cI, 3, .inl (fun _ => 0)))]) hP hD [0, 1] [] rfl rfl (by decide) (by decide) hk1 hFc hP1 hD1
      generalize H1 = H at hP hS ⊢
      have hP : va_P (dC, dI) vwCl [(hm, .inr (11, [.ref vFo, .ref vSi, .ref vIt, .ref vMo, .int 0, .ref vBy, .ref vTy, .int 0, .ref vMi, .int 0, .ref vPs, .int 0, .ref vGs, .int 0, .ref vFt, .int 0, .ref vTo, .int 0, .int 0, .int 0, .int 16777215, .int 0, .int 0, .ref vPr, .ref vSt, .ref vFn, .int 0, .ref vSg, .ref vAl, .int 0])), (vTy, .inl (cI, 3, .inl (fun _ => 0)))] H := hP
      have hD : va_D A [(hm, .inr (11, [.ref vFo, .ref vSi, .ref vIt, .ref vMo, .int 0, .ref vBy, .ref vTy, .int 0, .ref vMi, .int 0, .ref vPs, .int 0, .ref vGs, .int 0, .ref vFt, .int 0, .ref vTo, .int 0, .int 0, .int 0, .int 16777215, .int 0, .int 0, .ref vPr, .ref vSt, .ref vFn, .int 0, .ref vSg, .ref vAl, .int 0])), (vTy, .inl (cI, 3, .inl (fun _ => 0)))] := hD
      try dsimp only at hw
      refine k_topi (v := (-1)) hw ?_
      refine lv_goto (tgt := 27) hx₀ hb dX12_readsText_20 (by decide) ?_
      have hP9 := hP.sub (ws' := [(hm, .inr (11, [.ref vFo, .ref vSi, .ref vIt, .ref vMo, .int 0, .ref vBy, .ref vTy, .int 0, .ref vMi, .int 0, .ref vPs, .int 0, .ref vGs, .int 0, .ref vFt, .int 0, .ref vTo, .int 0, .int 0, .int 0, .int 16777215, .int 0, .int 0, .ref vPr, .ref vSt, .ref vFn, .int 0, .ref vSg, .ref vAl, .int 0])), (vTy, .inl (cI, 3, .inl (fun _ => 0)))]) [0, 1] rfl
      have hD9 := hD.sub (ws' := [(hm, .inr (11, [.ref vFo, .ref vSi, .ref vIt, .ref vMo, .int 0, .ref vBy, .ref vTy, .int 0, .ref vMi, .int 0, .ref vPs, .int 0, .ref vGs, .int 0, .ref vFt, .int 0, .ref vTo, .int 0, .int 0, .int 0, .int 16777215, .int 0, .int 0, .ref vPr, .ref vSt, .ref vFn, .int 0, .ref vSg, .ref vAl, .int 0])), (vTy, .inl (cI, 3, .inl (fun _ => 0)))]) [0, 1] (by decide) rfl
      exact W.iret (v := (-1)) hx₀ hb hr (fun t₀ ht hW => ⟨⟨(-1), (), rfl, rfl, by rw [ht]; exact hP9, va_K.moved hW.alike hK, hD9⟩, hS.F ht⟩) hS.2.2 dX12_readsText_27
  · refine lv_aload_n hx₀ hb dX12_readsText_4 rfl (lv_at hl 0 rfl) ?_
    have hPc := hP.sub (ws' := [(hm, .inr (11, [.ref vFo, .ref vSi, .ref vIt, .ref vMo, .int 0, .ref vBy, .ref vTy, .int 0, .ref vMi, .int 0, .ref vPs, .int 0, .ref vGs, .int 0, .ref vFt, .int 0, .ref vTo, .int 0, .int 0, .int 0, .int 16777215, .int 0, .int 0, .ref vPr, .ref vSt, .ref vFn, .int 0, .ref vSg, .ref vAl, .int 0])), (vTy, .inl (cI, 3, .inl (fun _ => 0)))]) [0, 1] rfl
    have hDc := hD.sub (ws' := [(hm, .inr (11, [.ref vFo, .ref vSi, .ref vIt, .ref vMo, .int 0, .ref vBy, .ref vTy, .int 0, .ref vMi, .int 0, .ref vPs, .int 0, .ref vGs, .int 0, .ref vFt, .int 0, .ref vTo, .int 0, .int 0, .int 0, .int 16777215, .int 0, .int 0, .ref vPr, .ref vSt, .ref vFn, .int 0, .ref vSg, .ref vAl, .int 0])), (vTy, .inl (cI, 3, .inl (fun _ => 0)))]) [0, 1] (by decide) rfl
    have hFc := va_free (wc := [(hm, .inr (11, [.ref vFo, .ref vSi, .ref vIt, .ref vMo, .int 0, .ref vBy, .ref vTy, .int 0, .ref vMi, .int 0, .ref vPs, .int 0, .ref vGs, .int 0, .ref vFt, .int 0, .ref vTo, .int 0, .int 0, .int 0, .int 16777215, .int 0, .int 0, .ref vPr, .ref vSt, .ref vFn, .int 0, .ref vSg, .ref vAl, .int 0])), (vTy, .inl (cI, 3, .inl (fun _ => 0)))]) hD hS hA [0, 1] rfl
    refine va_calli (va_runV (As := []) (rest := []) ⟨hx₀, hb, hml, hown, hts⟩ (m_readsLand l dC dI cI cJ cQ H.size hm vFo vSi vIt vMo vBy vTy vMi vPs vGs vFt vTo vPr vSt vFn vSg vAl) (cwV 0 hts (kGV wd_251 wd_248 wd_249 wd_250 wd_5) rfl rfl rfl (by decide +kernel) ⟨Nat.le_of_ble_eq_true rfl, Nat.le_of_ble_eq_true rfl⟩) (k_preV (ci := 11) (q0 := 0) hK hPc hDc hN rfl rfl) rfl rfl hl.1 rfl (lv_room (Nat.le_of_ble_eq_true rfl)) dX12_readsText_5 ⟨by decide +kernel, by decide +kernel⟩) hS (fun q _ h => hFc q h) hFc (fun r_5 u₀ t₀ H1 locs ht hvm hw hB hz1 hk1 hS => ?_)
    obtain ⟨hP1, hK1, hD1⟩ := hB
    rw [ht] at hP1
    obtain ⟨hP, hD⟩ := va_join (wr := []) (w1 := [(hm, .inr (11, [.ref vFo, .ref vSi, .ref vIt, .ref vMo, .int 0, .ref vBy, .ref vTy, .int 0, .ref vMi, .int 0, .ref vPs, .int 0, .ref vGs, .int 0, .ref vFt, .int 0, .ref vTo, .int 0, .int 0, .int 0, .int 16777215, .int 0, .int 0, .ref vPr, .ref vSt, .ref vFn, .int 0, .ref vSg, .ref vAl, .int 0])), (vTy, .inl (cI, 3, .inl (fun _ => 0)))]) hP hD [0, 1] [] rfl rfl (by decide) (by decide) hk1 hFc hP1 hD1
    generalize H1 = H at hP hS ⊢
    have hP : va_P (dC, dI) vwCl [(hm, .inr (11, [.ref vFo, .ref vSi, .ref vIt, .ref vMo, .int 0, .ref vBy, .ref vTy, .int 0, .ref vMi, .int 0, .ref vPs, .int 0, .ref vGs, .int 0, .ref vFt, .int 0, .ref vTo, .int 0, .int 0, .int 0, .int 16777215, .int 0, .int 0, .ref vPr, .ref vSt, .ref vFn, .int 0, .ref vSg, .ref vAl, .int 0])), (vTy, .inl (cI, 3, .inl (fun _ => 0)))] H := hP
    have hD : va_D A [(hm, .inr (11, [.ref vFo, .ref vSi, .ref vIt, .ref vMo, .int 0, .ref vBy, .ref vTy, .int 0, .ref vMi, .int 0, .ref vPs, .int 0, .ref vGs, .int 0, .ref vFt, .int 0, .ref vTo, .int 0, .int 0, .int 0, .int 16777215, .int 0, .int 0, .ref vPr, .ref vSt, .ref vFn, .int 0, .ref vSg, .ref vAl, .int 0])), (vTy, .inl (cI, 3, .inl (fun _ => 0)))] := hD
    try dsimp only at hw
    refine k_topi (v := (-1)) hw ?_
    refine lv_goto (tgt := 27) hx₀ hb dX12_readsText_8 (by decide) ?_
    have hP9 := hP.sub (ws' := [(hm, .inr (11, [.ref vFo, .ref vSi, .ref vIt, .ref vMo, .int 0, .ref vBy, .ref vTy, .int 0, .ref vMi, .int 0, .ref vPs, .int 0, .ref vGs, .int 0, .ref vFt, .int 0, .ref vTo, .int 0, .int 0, .int 0, .int 16777215, .int 0, .int 0, .ref vPr, .ref vSt, .ref vFn, .int 0, .ref vSg, .ref vAl, .int 0])), (vTy, .inl (cI, 3, .inl (fun _ => 0)))]) [0, 1] rfl
    have hD9 := hD.sub (ws' := [(hm, .inr (11, [.ref vFo, .ref vSi, .ref vIt, .ref vMo, .int 0, .ref vBy, .ref vTy, .int 0, .ref vMi, .int 0, .ref vPs, .int 0, .ref vGs, .int 0, .ref vFt, .int 0, .ref vTo, .int 0, .int 0, .int 0, .int 16777215, .int 0, .int 0, .ref vPr, .ref vSt, .ref vFn, .int 0, .ref vSg, .ref vAl, .int 0])), (vTy, .inl (cI, 3, .inl (fun _ => 0)))]) [0, 1] (by decide) rfl
    exact W.iret (v := (-1)) hx₀ hb hr (fun t₀ ht hW => ⟨⟨(-1), (), rfl, rfl, by rw [ht]; exact hP9, va_K.moved hW.alike hK, hD9⟩, hS.F ht⟩) hS.2.2 dX12_readsText_27
set_option maxHeartbeats 4000000 in
set_option maxRecDepth 100000 in
theorem m_reads (l : Launch) (dC : Nat → ClassId) (dI : Nat → Nat → Nat) (cI cJ cQ : ClassId) (sz : Nat) (hm : Nat) (vFo : Nat) (vSi : Nat) (vIt : Nat) (vMo : Nat) (vBy : Nat) (vTy : Nat) (vMi : Nat) (vPs : Nat) (vGs : Nat) (vFt : Nat) (vTo : Nat) (vPr : Nat) (vSt : Nat) (vFn : Nat) (vSg : Nat) (vAl : Nat) : Met l yX12_reads (kW yX12_reads cX12_reads 1 none) { frames := 1, cells := 0, slots := 0, locals := 24 } (kPre dC dI cI cJ cQ sz [.ref hm] [(hm, .inr (11, [.ref vFo, .ref vSi, .ref vIt, .ref vMo, .int 0, .ref vBy, .ref vTy, .int 0, .ref vMi, .int 0, .ref vPs, .int 0, .ref vGs, .int 0, .ref vFt, .int 0, .ref vTo, .int 0, .int 0, .int 0, .int 16777215, .int 0, .int 0, .ref vPr, .ref vSt, .ref vFn, .int 0, .ref vSg, .ref vAl, .int 0])), (vTy, .inl (cI, 3, .inl (fun _ => 0)))]) (va_Qv (fun (_ : Unit) => True) (fun _ t₀ => kB dC dI cI cJ cQ (va_A [(hm, .inr (11, [.ref vFo, .ref vSi, .ref vIt, .ref vMo, .int 0, .ref vBy, .ref vTy, .int 0, .ref vMi, .int 0, .ref vPs, .int 0, .ref vGs, .int 0, .ref vFt, .int 0, .ref vTo, .int 0, .int 0, .int 0, .int 16777215, .int 0, .int 0, .ref vPr, .ref vSt, .ref vFn, .int 0, .ref vSg, .ref vAl, .int 0])), (vTy, .inl (cI, 3, .inl (fun _ => 0)))] sz) [(hm, .inr (11, [.ref vFo, .ref vSi, .ref vIt, .ref vMo, .int 0, .ref vBy, .ref vTy, .int 0, .ref vMi, .int 0, .ref vPs, .int 0, .ref vGs, .int 0, .ref vFt, .int 0, .ref vTo, .int 0, .int 0, .int 0, .int 16777215, .int 0, .int 0, .ref vPr, .ref vSt, .ref vFn, .int 0, .ref vSg, .ref vAl, .int 0])), (vTy, .inl (cI, 3, .inl (fun _ => 0)))] t₀) (va_A [(hm, .inr (11, [.ref vFo, .ref vSi, .ref vIt, .ref vMo, .int 0, .ref vBy, .ref vTy, .int 0, .ref vMi, .int 0, .ref vPs, .int 0, .ref vGs, .int 0, .ref vFt, .int 0, .ref vTo, .int 0, .int 0, .int 0, .int 16777215, .int 0, .int 0, .ref vPr, .ref vSt, .ref vFn, .int 0, .ref vSg, .ref vAl, .int 0])), (vTy, .inl (cI, 3, .inl (fun _ => 0)))] sz)) 0 0 (va_A [(hm, .inr (11, [.ref vFo, .ref vSi, .ref vIt, .ref vMo, .int 0, .ref vBy, .ref vTy, .int 0, .ref vMi, .int 0, .ref vPs, .int 0, .ref vGs, .int 0, .ref vFt, .int 0, .ref vTo, .int 0, .int 0, .int 0, .int 16777215, .int 0, .int 0, .ref vPr, .ref vSt, .ref vFn, .int 0, .ref vSg, .ref vAl, .int 0])), (vTy, .inl (cI, 3, .inl (fun _ => 0)))] sz) := by
  refine Met.ofW (cc := cX12_reads) (maxL := 1) (ret := none) (by decide) rfl ?_
  intro p₀ e₀ s₀ m₀ args below meth c₀ s₁ B hml hv₀
  obtain ⟨rfl, hsz, hP, hK, hD0, hN⟩ := hv₀
  have hx₀ := B.exec
  have hb := B.bytes
  have hr := B.returns
  have hts := atoms_spec (ws := (kW yX12_reads cX12_reads 1 none)) B.pre
  have hts := fun w h => hts w (List.mem_cons_of_mem _ h)
  have hown : s₀.vm.findClass RX12 = some m₀.cls := findClass_of_methodNamed B.named
  have hlocks := B.notSynchronized
  subst hsz
  have hD := hD0.self (sz := s₀.heap.size)
  generalize hAe : va_A [(hm, .inr (11, [.ref vFo, .ref vSi, .ref vIt, .ref vMo, .int 0, .ref vBy, .ref vTy, .int 0, .ref vMi, .int 0, .ref vPs, .int 0, .ref vGs, .int 0, .ref vFt, .int 0, .ref vTo, .int 0, .int 0, .int 0, .int 16777215, .int 0, .int 0, .ref vPr, .ref vSt, .ref vFn, .int 0, .ref vSg, .ref vAl, .int 0])), (vTy, .inl (cI, 3, .inl (fun _ => 0)))] s₀.heap.size = A at hD ⊢
  have hA : ∀ q : Nat, s₀.heap.size ≤ q → A q := fun q h => by rw [← hAe]; exact Or.inr h
  have hS : va_S A s₀.heap s₀.heap [] := va_S.rf
  have hP : va_P (dC, dI) vwCl [(hm, .inr (11, [.ref vFo, .ref vSi, .ref vIt, .ref vMo, .int 0, .ref vBy, .ref vTy, .int 0, .ref vMi, .int 0, .ref vPs, .int 0, .ref vGs, .int 0, .ref vFt, .int 0, .ref vTo, .int 0, .int 0, .int 0, .int 16777215, .int 0, .int 0, .ref vPr, .ref vSt, .ref vFn, .int 0, .ref vSg, .ref vAl, .int 0])), (vTy, .inl (cI, 3, .inl (fun _ => 0)))] s₀.heap := hP
  have hl := lv_entry ([.ref hm]) (n := 1) (Nat.le_of_ble_eq_true rfl)
  rw [lg_entry_eq]
  generalize (lg_sl ([.ref hm]) ++ List.replicate (1 - (lg_sl ([.ref hm])).length) Slot.unset).toArray = ls at hl ⊢
  have hl : lv_has ls 1 [(0, .ref hm)] := hl
  obtain ⟨H, hH⟩ : ∃ z : Heap, z = s₀.heap := ⟨_, rfl⟩
  rw [← hH] at hP
  have hS : va_S A s₀.heap H [] := by rw [hH]; exact hS
  refine k_heap hH ?_
  have hD : va_D A [(hm, .inr (11, [.ref vFo, .ref vSi, .ref vIt, .ref vMo, .int 0, .ref vBy, .ref vTy, .int 0, .ref vMi, .int 0, .ref vPs, .int 0, .ref vGs, .int 0, .ref vFt, .int 0, .ref vTo, .int 0, .int 0, .int 0, .int 16777215, .int 0, .int 0, .ref vPr, .ref vSt, .ref vFn, .int 0, .ref vSg, .ref vAl, .int 0])), (vTy, .inl (cI, 3, .inl (fun _ => 0)))] := hD
  obtain ⟨locs, hlo⟩ : ∃ z : List Loc, z = [] := ⟨_, rfl⟩
  rw [← hlo] at hS ⊢
  clear hlo hH hAe hD0
  refine lv_aload_n hx₀ hb dX12_reads_0 rfl (lv_at hl 0 rfl) ?_
  have hPc := hP.sub (ws' := [(hm, .inr (11, [.ref vFo, .ref vSi, .ref vIt, .ref vMo, .int 0, .ref vBy, .ref vTy, .int 0, .ref vMi, .int 0, .ref vPs, .int 0, .ref vGs, .int 0, .ref vFt, .int 0, .ref vTo, .int 0, .int 0, .int 0, .int 16777215, .int 0, .int 0, .ref vPr, .ref vSt, .ref vFn, .int 0, .ref vSg, .ref vAl, .int 0])), (vTy, .inl (cI, 3, .inl (fun _ => 0)))]) [0, 1] rfl
  have hDc := hD.sub (ws' := [(hm, .inr (11, [.ref vFo, .ref vSi, .ref vIt, .ref vMo, .int 0, .ref vBy, .ref vTy, .int 0, .ref vMi, .int 0, .ref vPs, .int 0, .ref vGs, .int 0, .ref vFt, .int 0, .ref vTo, .int 0, .int 0, .int 0, .int 16777215, .int 0, .int 0, .ref vPr, .ref vSt, .ref vFn, .int 0, .ref vSg, .ref vAl, .int 0])), (vTy, .inl (cI, 3, .inl (fun _ => 0)))]) [0, 1] (by decide) rfl
  have hFc := va_free (wc := [(hm, .inr (11, [.ref vFo, .ref vSi, .ref vIt, .ref vMo, .int 0, .ref vBy, .ref vTy, .int 0, .ref vMi, .int 0, .ref vPs, .int 0, .ref vGs, .int 0, .ref vFt, .int 0, .ref vTo, .int 0, .int 0, .int 0, .int 16777215, .int 0, .int 0, .ref vPr, .ref vSt, .ref vFn, .int 0, .ref vSg, .ref vAl, .int 0])), (vTy, .inl (cI, 3, .inl (fun _ => 0)))]) hD hS hA [0, 1] rfl
  refine va_calli (va_runV (As := []) (rest := []) ⟨hx₀, hb, hml, hown, hts⟩ (m_readsLand l dC dI cI cJ cQ H.size hm vFo vSi vIt vMo vBy vTy vMi vPs vGs vFt vTo vPr vSt vFn vSg vAl) (cwV 0 hts (kGV wd_251 wd_248 wd_249 wd_250 wd_5) rfl rfl rfl (by decide +kernel) ⟨Nat.le_of_ble_eq_true rfl, Nat.le_of_ble_eq_true rfl⟩) (k_preV (ci := 11) (q0 := 0) hK hPc hDc hN rfl rfl) rfl rfl hl.1 rfl (lv_room (Nat.le_of_ble_eq_true rfl)) dX12_reads_1 ⟨by decide +kernel, by decide +kernel⟩) hS (fun q _ h => hFc q h) hFc (fun r_1 u₀ t₀ H1 locs ht hvm hw hB hz1 hk1 hS => ?_)
  obtain ⟨hP1, hK1, hD1⟩ := hB
  rw [ht] at hP1
  obtain ⟨hP, hD⟩ := va_join (wr := []) (w1 := [(hm, .inr (11, [.ref vFo, .ref vSi, .ref vIt, .ref vMo, .int 0, .ref vBy, .ref vTy, .int 0, .ref vMi, .int 0, .ref vPs, .int 0, .ref vGs, .int 0, .ref vFt, .int 0, .ref vTo, .int 0, .int 0, .int 0, .int 16777215, .int 0, .int 0, .ref vPr, .ref vSt, .ref vFn, .int 0, .ref vSg, .ref vAl, .int 0])), (vTy, .inl (cI, 3, .inl (fun _ => 0)))]) hP hD [0, 1] [] rfl rfl (by decide) (by decide) hk1 hFc hP1 hD1
  generalize H1 = H at hP hS ⊢
  have hP : va_P (dC, dI) vwCl [(hm, .inr (11, [.ref vFo, .ref vSi, .ref vIt, .ref vMo, .int 0, .ref vBy, .ref vTy, .int 0, .ref vMi, .int 0, .ref vPs, .int 0, .ref vGs, .int 0, .ref vFt, .int 0, .ref vTo, .int 0, .int 0, .int 0, .int 16777215, .int 0, .int 0, .ref vPr, .ref vSt, .ref vFn, .int 0, .ref vSg, .ref vAl, .int 0])), (vTy, .inl (cI, 3, .inl (fun _ => 0)))] H := hP
  have hD : va_D A [(hm, .inr (11, [.ref vFo, .ref vSi, .ref vIt, .ref vMo, .int 0, .ref vBy, .ref vTy, .int 0, .ref vMi, .int 0, .ref vPs, .int 0, .ref vGs, .int 0, .ref vFt, .int 0, .ref vTo, .int 0, .int 0, .int 0, .int 16777215, .int 0, .int 0, .ref vPr, .ref vSt, .ref vFn, .int 0, .ref vSg, .ref vAl, .int 0])), (vTy, .inl (cI, 3, .inl (fun _ => 0)))] := hD
  try dsimp only at hw
  refine k_topi (v := (-1)) hw ?_
  refine lv_pop hx₀ hb dX12_reads_4 rfl ?_
  refine lv_aload_n hx₀ hb dX12_reads_5 rfl (lv_at hl 0 rfl) ?_
  have hPc := hP.sub (ws' := [(hm, .inr (11, [.ref vFo, .ref vSi, .ref vIt, .ref vMo, .int 0, .ref vBy, .ref vTy, .int 0, .ref vMi, .int 0, .ref vPs, .int 0, .ref vGs, .int 0, .ref vFt, .int 0, .ref vTo, .int 0, .int 0, .int 0, .int 16777215, .int 0, .int 0, .ref vPr, .ref vSt, .ref vFn, .int 0, .ref vSg, .ref vAl, .int 0])), (vTy, .inl (cI, 3, .inl (fun _ => 0)))]) [0, 1] rfl
  have hDc := hD.sub (ws' := [(hm, .inr (11, [.ref vFo, .ref vSi, .ref vIt, .ref vMo, .int 0, .ref vBy, .ref vTy, .int 0, .ref vMi, .int 0, .ref vPs, .int 0, .ref vGs, .int 0, .ref vFt, .int 0, .ref vTo, .int 0, .int 0, .int 0, .int 16777215, .int 0, .int 0, .ref vPr, .ref vSt, .ref vFn, .int 0, .ref vSg, .ref vAl, .int 0])), (vTy, .inl (cI, 3, .inl (fun _ => 0)))]) [0, 1] (by decide) rfl
  have hFc := va_free (wc := [(hm, .inr (11, [.ref vFo, .ref vSi, .ref vIt, .ref vMo, .int 0, .ref vBy, .ref vTy, .int 0, .ref vMi, .int 0, .ref vPs, .int 0, .ref vGs, .int 0, .ref vFt, .int 0, .ref vTo, .int 0, .int 0, .int 0, .int 16777215, .int 0, .int 0, .ref vPr, .ref vSt, .ref vFn, .int 0, .ref vSg, .ref vAl, .int 0])), (vTy, .inl (cI, 3, .inl (fun _ => 0)))]) hD hS hA [0, 1] rfl
  refine va_calli (va_runV (As := []) (rest := []) ⟨hx₀, hb, hml, hown, hts⟩ (m_readsPassengers l dC dI cI cJ cQ H.size hm vFo vSi vIt vMo vBy vTy vMi vPs vGs vFt vTo vPr vSt vFn vSg vAl) (cwV 0 hts (kGV wd_264 wd_261 wd_262 wd_263 wd_5) rfl rfl rfl (by decide +kernel) ⟨Nat.le_of_ble_eq_true rfl, Nat.le_of_ble_eq_true rfl⟩) (k_preV (ci := 11) (q0 := 0) hK hPc hDc hN rfl rfl) rfl rfl hl.1 rfl (lv_room (Nat.le_of_ble_eq_true rfl)) dX12_reads_6 ⟨by decide +kernel, by decide +kernel⟩) hS (fun q _ h => hFc q h) hFc (fun r_2 u₀ t₀ H1 locs ht hvm hw hB hz1 hk1 hS => ?_)
  obtain ⟨hP1, hK1, hD1⟩ := hB
  rw [ht] at hP1
  obtain ⟨hP, hD⟩ := va_join (wr := []) (w1 := [(hm, .inr (11, [.ref vFo, .ref vSi, .ref vIt, .ref vMo, .int 0, .ref vBy, .ref vTy, .int 0, .ref vMi, .int 0, .ref vPs, .int 0, .ref vGs, .int 0, .ref vFt, .int 0, .ref vTo, .int 0, .int 0, .int 0, .int 16777215, .int 0, .int 0, .ref vPr, .ref vSt, .ref vFn, .int 0, .ref vSg, .ref vAl, .int 0])), (vTy, .inl (cI, 3, .inl (fun _ => 0)))]) hP hD [0, 1] [] rfl rfl (by decide) (by decide) hk1 hFc hP1 hD1
  generalize H1 = H at hP hS ⊢
  have hP : va_P (dC, dI) vwCl [(hm, .inr (11, [.ref vFo, .ref vSi, .ref vIt, .ref vMo, .int 0, .ref vBy, .ref vTy, .int 0, .ref vMi, .int 0, .ref vPs, .int 0, .ref vGs, .int 0, .ref vFt, .int 0, .ref vTo, .int 0, .int 0, .int 0, .int 16777215, .int 0, .int 0, .ref vPr, .ref vSt, .ref vFn, .int 0, .ref vSg, .ref vAl, .int 0])), (vTy, .inl (cI, 3, .inl (fun _ => 0)))] H := hP
  have hD : va_D A [(hm, .inr (11, [.ref vFo, .ref vSi, .ref vIt, .ref vMo, .int 0, .ref vBy, .ref vTy, .int 0, .ref vMi, .int 0, .ref vPs, .int 0, .ref vGs, .int 0, .ref vFt, .int 0, .ref vTo, .int 0, .int 0, .int 0, .int 16777215, .int 0, .int 0, .ref vPr, .ref vSt, .ref vFn, .int 0, .ref vSg, .ref vAl, .int 0])), (vTy, .inl (cI, 3, .inl (fun _ => 0)))] := hD
  try dsimp only at hw
  refine k_topi (v := (-1)) hw ?_
  refine lv_pop hx₀ hb dX12_reads_9 rfl ?_
  refine lv_aload_n hx₀ hb dX12_reads_10 rfl (lv_at hl 0 rfl) ?_
  have hPc := hP.sub (ws' := [(hm, .inr (11, [.ref vFo, .ref vSi, .ref vIt, .ref vMo, .int 0, .ref vBy, .ref vTy, .int 0, .ref vMi, .int 0, .ref vPs, .int 0, .ref vGs, .int 0, .ref vFt, .int 0, .ref vTo, .int 0, .int 0, .int 0, .int 16777215, .int 0, .int 0, .ref vPr, .ref vSt, .ref vFn, .int 0, .ref vSg, .ref vAl, .int 0])), (vTy, .inl (cI, 3, .inl (fun _ => 0)))]) [0, 1] rfl
  have hDc := hD.sub (ws' := [(hm, .inr (11, [.ref vFo, .ref vSi, .ref vIt, .ref vMo, .int 0, .ref vBy, .ref vTy, .int 0, .ref vMi, .int 0, .ref vPs, .int 0, .ref vGs, .int 0, .ref vFt, .int 0, .ref vTo, .int 0, .int 0, .int 0, .int 16777215, .int 0, .int 0, .ref vPr, .ref vSt, .ref vFn, .int 0, .ref vSg, .ref vAl, .int 0])), (vTy, .inl (cI, 3, .inl (fun _ => 0)))]) [0, 1] (by decide) rfl
  have hFc := va_free (wc := [(hm, .inr (11, [.ref vFo, .ref vSi, .ref vIt, .ref vMo, .int 0, .ref vBy, .ref vTy, .int 0, .ref vMi, .int 0, .ref vPs, .int 0, .ref vGs, .int 0, .ref vFt, .int 0, .ref vTo, .int 0, .int 0, .int 0, .int 16777215, .int 0, .int 0, .ref vPr, .ref vSt, .ref vFn, .int 0, .ref vSg, .ref vAl, .int 0])), (vTy, .inl (cI, 3, .inl (fun _ => 0)))]) hD hS hA [0, 1] rfl
  refine va_calli (va_runV (As := []) (rest := []) ⟨hx₀, hb, hml, hown, hts⟩ (m_readsGeese l dC dI cI cJ cQ H.size hm vFo vSi vIt vMo vBy vTy vMi vPs vGs vFt vTo vPr vSt vFn vSg vAl) (cwV 0 hts (kGV wd_276 wd_273 wd_274 wd_275 wd_5) rfl rfl rfl (by decide +kernel) ⟨Nat.le_of_ble_eq_true rfl, Nat.le_of_ble_eq_true rfl⟩) (k_preV (ci := 11) (q0 := 0) hK hPc hDc hN rfl rfl) rfl rfl hl.1 rfl (lv_room (Nat.le_of_ble_eq_true rfl)) dX12_reads_11 ⟨by decide +kernel, by decide +kernel⟩) hS (fun q _ h => hFc q h) hFc (fun r_3 u₀ t₀ H1 locs ht hvm hw hB hz1 hk1 hS => ?_)
  obtain ⟨hP1, hK1, hD1⟩ := hB
  rw [ht] at hP1
  obtain ⟨hP, hD⟩ := va_join (wr := []) (w1 := [(hm, .inr (11, [.ref vFo, .ref vSi, .ref vIt, .ref vMo, .int 0, .ref vBy, .ref vTy, .int 0, .ref vMi, .int 0, .ref vPs, .int 0, .ref vGs, .int 0, .ref vFt, .int 0, .ref vTo, .int 0, .int 0, .int 0, .int 16777215, .int 0, .int 0, .ref vPr, .ref vSt, .ref vFn, .int 0, .ref vSg, .ref vAl, .int 0])), (vTy, .inl (cI, 3, .inl (fun _ => 0)))]) hP hD [0, 1] [] rfl rfl (by decide) (by decide) hk1 hFc hP1 hD1
  generalize H1 = H at hP hS ⊢
  have hP : va_P (dC, dI) vwCl [(hm, .inr (11, [.ref vFo, .ref vSi, .ref vIt, .ref vMo, .int 0, .ref vBy, .ref vTy, .int 0, .ref vMi, .int 0, .ref vPs, .int 0, .ref vGs, .int 0, .ref vFt, .int 0, .ref vTo, .int 0, .int 0, .int 0, .int 16777215, .int 0, .int 0, .ref vPr, .ref vSt, .ref vFn, .int 0, .ref vSg, .ref vAl, .int 0])), (vTy, .inl (cI, 3, .inl (fun _ => 0)))] H := hP
  have hD : va_D A [(hm, .inr (11, [.ref vFo, .ref vSi, .ref vIt, .ref vMo, .int 0, .ref vBy, .ref vTy, .int 0, .ref vMi, .int 0, .ref vPs, .int 0, .ref vGs, .int 0, .ref vFt, .int 0, .ref vTo, .int 0, .int 0, .int 0, .int 16777215, .int 0, .int 0, .ref vPr, .ref vSt, .ref vFn, .int 0, .ref vSg, .ref vAl, .int 0])), (vTy, .inl (cI, 3, .inl (fun _ => 0)))] := hD
  try dsimp only at hw
  refine k_topi (v := (-1)) hw ?_
  refine lv_pop hx₀ hb dX12_reads_14 rfl ?_
  have hP9 := hP.sub (ws' := [(hm, .inr (11, [.ref vFo, .ref vSi, .ref vIt, .ref vMo, .int 0, .ref vBy, .ref vTy, .int 0, .ref vMi, .int 0, .ref vPs, .int 0, .ref vGs, .int 0, .ref vFt, .int 0, .ref vTo, .int 0, .int 0, .int 0, .int 16777215, .int 0, .int 0, .ref vPr, .ref vSt, .ref vFn, .int 0, .ref vSg, .ref vAl, .int 0])), (vTy, .inl (cI, 3, .inl (fun _ => 0)))]) [0, 1] rfl
  have hD9 := hD.sub (ws' := [(hm, .inr (11, [.ref vFo, .ref vSi, .ref vIt, .ref vMo, .int 0, .ref vBy, .ref vTy, .int 0, .ref vMi, .int 0, .ref vPs, .int 0, .ref vGs, .int 0, .ref vFt, .int 0, .ref vTo, .int 0, .int 0, .int 0, .int 16777215, .int 0, .int 0, .ref vPr, .ref vSt, .ref vFn, .int 0, .ref vSg, .ref vAl, .int 0])), (vTy, .inl (cI, 3, .inl (fun _ => 0)))]) [0, 1] (by decide) rfl
  exact W.vret hx₀ hb hr (fun t₀ ht hW => ⟨⟨(), rfl, trivial, by rw [ht]; exact hP9, va_K.moved hW.alike hK, hD9⟩, hS.F ht⟩) hS.2.2 dX12_reads_15
set_option maxHeartbeats 4000000 in
set_option maxRecDepth 100000 in
theorem m_towns (l : Launch) (dC : Nat → ClassId) (dI : Nat → Nat → Nat) (cI cJ cQ : ClassId) (sz : Nat) (hm : Nat) (vFo : Nat) (vSi : Nat) (vIt : Nat) (vMo : Nat) (vBy : Nat) (vTy : Nat) (vMi : Nat) (vPs : Nat) (vGs : Nat) (vFt : Nat) (vTo : Nat) (vPr : Nat) (vSt : Nat) (vFn : Nat) (vSg : Nat) (vAl : Nat) : Met l yX12_towns (kW yX12_towns cX12_towns 3 (some .int)) { frames := 0, cells := 0, slots := 0, locals := 0 } (kPre dC dI cI cJ cQ sz [.ref hm] [(hm, .inr (11, [.ref vFo, .ref vSi, .ref vIt, .ref vMo, .int 0, .ref vBy, .ref vTy, .int 0, .ref vMi, .int 0, .ref vPs, .int 0, .ref vGs, .int 0, .ref vFt, .int 0, .ref vTo, .int 0, .int 0, .int 0, .int 16777215, .int 0, .int 0, .ref vPr, .ref vSt, .ref vFn, .int 0, .ref vSg, .ref vAl, .int 0]))]) (va_Qi (fun (r : Int32) (_ : Unit) => r = 0) (fun _ t₀ => kB dC dI cI cJ cQ (va_A [(hm, .inr (11, [.ref vFo, .ref vSi, .ref vIt, .ref vMo, .int 0, .ref vBy, .ref vTy, .int 0, .ref vMi, .int 0, .ref vPs, .int 0, .ref vGs, .int 0, .ref vFt, .int 0, .ref vTo, .int 0, .int 0, .int 0, .int 16777215, .int 0, .int 0, .ref vPr, .ref vSt, .ref vFn, .int 0, .ref vSg, .ref vAl, .int 0]))] sz) [(hm, .inr (11, [.ref vFo, .ref vSi, .ref vIt, .ref vMo, .int 0, .ref vBy, .ref vTy, .int 0, .ref vMi, .int 0, .ref vPs, .int 0, .ref vGs, .int 0, .ref vFt, .int 0, .ref vTo, .int 0, .int 0, .int 0, .int 16777215, .int 0, .int 0, .ref vPr, .ref vSt, .ref vFn, .int 0, .ref vSg, .ref vAl, .int 0]))] t₀) (va_A [(hm, .inr (11, [.ref vFo, .ref vSi, .ref vIt, .ref vMo, .int 0, .ref vBy, .ref vTy, .int 0, .ref vMi, .int 0, .ref vPs, .int 0, .ref vGs, .int 0, .ref vFt, .int 0, .ref vTo, .int 0, .int 0, .int 0, .int 16777215, .int 0, .int 0, .ref vPr, .ref vSt, .ref vFn, .int 0, .ref vSg, .ref vAl, .int 0]))] sz)) 0 0 (va_A [(hm, .inr (11, [.ref vFo, .ref vSi, .ref vIt, .ref vMo, .int 0, .ref vBy, .ref vTy, .int 0, .ref vMi, .int 0, .ref vPs, .int 0, .ref vGs, .int 0, .ref vFt, .int 0, .ref vTo, .int 0, .int 0, .int 0, .int 16777215, .int 0, .int 0, .ref vPr, .ref vSt, .ref vFn, .int 0, .ref vSg, .ref vAl, .int 0]))] sz) := by
  refine Met.ofW (cc := cX12_towns) (maxL := 3) (ret := (some .int)) (by decide) rfl ?_
  intro p₀ e₀ s₀ m₀ args below meth c₀ s₁ B hml hv₀
  obtain ⟨rfl, hsz, hP, hK, hD0, hN⟩ := hv₀
  have hx₀ := B.exec
  have hb := B.bytes
  have hr := B.returns
  have hts := atoms_spec (ws := (kW yX12_towns cX12_towns 3 (some .int))) B.pre
  have hts := fun w h => hts w (List.mem_cons_of_mem _ h)
  have hown : s₀.vm.findClass RX12 = some m₀.cls := findClass_of_methodNamed B.named
  have hlocks := B.notSynchronized
  subst hsz
  have hD := hD0.self (sz := s₀.heap.size)
  generalize hAe : va_A [(hm, .inr (11, [.ref vFo, .ref vSi, .ref vIt, .ref vMo, .int 0, .ref vBy, .ref vTy, .int 0, .ref vMi, .int 0, .ref vPs, .int 0, .ref vGs, .int 0, .ref vFt, .int 0, .ref vTo, .int 0, .int 0, .int 0, .int 16777215, .int 0, .int 0, .ref vPr, .ref vSt, .ref vFn, .int 0, .ref vSg, .ref vAl, .int 0]))] s₀.heap.size = A at hD ⊢
  have hA : ∀ q : Nat, s₀.heap.size ≤ q → A q := fun q h => by rw [← hAe]; exact Or.inr h
  have hS : va_S A s₀.heap s₀.heap [] := va_S.rf
  have hP : va_P (dC, dI) vwCl [(hm, .inr (11, [.ref vFo, .ref vSi, .ref vIt, .ref vMo, .int 0, .ref vBy, .ref vTy, .int 0, .ref vMi, .int 0, .ref vPs, .int 0, .ref vGs, .int 0, .ref vFt, .int 0, .ref vTo, .int 0, .int 0, .int 0, .int 16777215, .int 0, .int 0, .ref vPr, .ref vSt, .ref vFn, .int 0, .ref vSg, .ref vAl, .int 0]))] s₀.heap := hP
  have hl := lv_entry ([.ref hm]) (n := 3) (Nat.le_of_ble_eq_true rfl)
  rw [lg_entry_eq]
  generalize (lg_sl ([.ref hm]) ++ List.replicate (3 - (lg_sl ([.ref hm])).length) Slot.unset).toArray = ls at hl ⊢
  have hl : lv_has ls 3 [(0, .ref hm)] := hl
  obtain ⟨H, hH⟩ : ∃ z : Heap, z = s₀.heap := ⟨_, rfl⟩
  rw [← hH] at hP
  have hS : va_S A s₀.heap H [] := by rw [hH]; exact hS
  refine k_heap hH ?_
  have hD : va_D A [(hm, .inr (11, [.ref vFo, .ref vSi, .ref vIt, .ref vMo, .int 0, .ref vBy, .ref vTy, .int 0, .ref vMi, .int 0, .ref vPs, .int 0, .ref vGs, .int 0, .ref vFt, .int 0, .ref vTo, .int 0, .int 0, .int 0, .int 16777215, .int 0, .int 0, .ref vPr, .ref vSt, .ref vFn, .int 0, .ref vSg, .ref vAl, .int 0]))] := hD
  obtain ⟨locs, hlo⟩ : ∃ z : List Loc, z = [] := ⟨_, rfl⟩
  rw [← hlo] at hS ⊢
  clear hlo hH hAe hD0
  refine lv_iconst (v := 0) hx₀ hb dX12_towns_0 (by decide +kernel) ?_
  refine lv_istore_n (lv' := [(1, .int 0), (0, .ref hm)]) hx₀ hb dX12_towns_1 rfl hl (by decide) rfl (fun ls hl => ?_)
  refine lv_iconst (v := 0) hx₀ hb dX12_towns_2 (by decide +kernel) ?_
  refine lv_istore_n (lv' := [(2, .int 0), (1, .int 0), (0, .ref hm)]) hx₀ hb dX12_towns_3 rfl hl (by decide) rfl (fun ls hl => ?_)
  refine lv_iload_n hx₀ hb dX12_towns_4 rfl (lv_at hl 0 rfl) ?_
  refine lv_aload_n hx₀ hb dX12_towns_5 rfl (lv_at hl 2 rfl) ?_
  refine va_get (D := (dC, dI)) (ci := 11) (v := .int 0) (C := RX12) (T := TX12) (N := 30) hx₀ hb hts inlX12 hown hK hP 0 rfl rfl 7 (by decide) (hts (.fieldLink RX12 107 "BittenStickModel" "miles" "I") wd_252) (fun _ h9 => h9) rfl dX12_towns_6 ?_
  refine lv_icmp_ge (tgt := 37) hx₀ hb dX12_towns_9 (by decide) (fun _ => ?_) (fun c9 => absurd (by decide +kernel) c9)
  refine lv_iload_n hx₀ hb dX12_towns_37 rfl (lv_at hl 1 rfl) ?_
  have hP9 := hP.sub (ws' := [(hm, .inr (11, [.ref vFo, .ref vSi, .ref vIt, .ref vMo, .int 0, .ref vBy, .ref vTy, .int 0, .ref vMi, .int 0, .ref vPs, .int 0, .ref vGs, .int 0, .ref vFt, .int 0, .ref vTo, .int 0, .int 0, .int 0, .int 16777215, .int 0, .int 0, .ref vPr, .ref vSt, .ref vFn, .int 0, .ref vSg, .ref vAl, .int 0]))]) [0] rfl
  have hD9 := hD.sub (ws' := [(hm, .inr (11, [.ref vFo, .ref vSi, .ref vIt, .ref vMo, .int 0, .ref vBy, .ref vTy, .int 0, .ref vMi, .int 0, .ref vPs, .int 0, .ref vGs, .int 0, .ref vFt, .int 0, .ref vTo, .int 0, .int 0, .int 0, .int 16777215, .int 0, .int 0, .ref vPr, .ref vSt, .ref vFn, .int 0, .ref vSg, .ref vAl, .int 0]))]) [0] (by decide) rfl
  exact W.iret (v := 0) hx₀ hb hr (fun t₀ ht hW => ⟨⟨0, (), rfl, rfl, by rw [ht]; exact hP9, va_K.moved hW.alike hK, hD9⟩, hS.F ht⟩) hS.2.2 dX12_towns_38
set_option maxHeartbeats 4000000 in
set_option maxRecDepth 100000 in
theorem m_farNow (l : Launch) (dC : Nat → ClassId) (dI : Nat → Nat → Nat) (cI cJ cQ : ClassId) (sz : Nat) (hm : Nat) (vFo : Nat) (vSi : Nat) (vIt : Nat) (vMo : Nat) (vBy : Nat) (vTy : Nat) (vMi : Nat) (vPs : Nat) (vGs : Nat) (vFt : Nat) (vTo : Nat) (vPr : Nat) (vSt : Nat) (vFn : Nat) (vSg : Nat) (vAl : Nat) : Met l yX12_farthestNow (kW yX12_farthestNow cX12_farthestNow 6 (some .int)) { frames := 0, cells := 0, slots := 0, locals := 0 } (kPre dC dI cI cJ cQ sz [.ref hm] [(hm, .inr (11, [.ref vFo, .ref vSi, .ref vIt, .ref vMo, .int 0, .ref vBy, .ref vTy, .int 0, .ref vMi, .int 0, .ref vPs, .int 0, .ref vGs, .int 0, .ref vFt, .int 0, .ref vTo, .int 0, .int 0, .int 0, .int 16777215, .int 0, .int 0, .ref vPr, .ref vSt, .ref vFn, .int 0, .ref vSg, .ref vAl, .int 0]))]) (va_Qi (fun (r : Int32) (_ : Unit) => r = (-1)) (fun _ t₀ => kB dC dI cI cJ cQ (va_A [(hm, .inr (11, [.ref vFo, .ref vSi, .ref vIt, .ref vMo, .int 0, .ref vBy, .ref vTy, .int 0, .ref vMi, .int 0, .ref vPs, .int 0, .ref vGs, .int 0, .ref vFt, .int 0, .ref vTo, .int 0, .int 0, .int 0, .int 16777215, .int 0, .int 0, .ref vPr, .ref vSt, .ref vFn, .int 0, .ref vSg, .ref vAl, .int 0]))] sz) [(hm, .inr (11, [.ref vFo, .ref vSi, .ref vIt, .ref vMo, .int 0, .ref vBy, .ref vTy, .int 0, .ref vMi, .int 0, .ref vPs, .int 0, .ref vGs, .int 0, .ref vFt, .int 0, .ref vTo, .int 0, .int 0, .int 0, .int 16777215, .int 0, .int 0, .ref vPr, .ref vSt, .ref vFn, .int 0, .ref vSg, .ref vAl, .int 0]))] t₀) (va_A [(hm, .inr (11, [.ref vFo, .ref vSi, .ref vIt, .ref vMo, .int 0, .ref vBy, .ref vTy, .int 0, .ref vMi, .int 0, .ref vPs, .int 0, .ref vGs, .int 0, .ref vFt, .int 0, .ref vTo, .int 0, .int 0, .int 0, .int 16777215, .int 0, .int 0, .ref vPr, .ref vSt, .ref vFn, .int 0, .ref vSg, .ref vAl, .int 0]))] sz)) 0 0 (va_A [(hm, .inr (11, [.ref vFo, .ref vSi, .ref vIt, .ref vMo, .int 0, .ref vBy, .ref vTy, .int 0, .ref vMi, .int 0, .ref vPs, .int 0, .ref vGs, .int 0, .ref vFt, .int 0, .ref vTo, .int 0, .int 0, .int 0, .int 16777215, .int 0, .int 0, .ref vPr, .ref vSt, .ref vFn, .int 0, .ref vSg, .ref vAl, .int 0]))] sz) := by
  refine Met.ofW (cc := cX12_farthestNow) (maxL := 6) (ret := (some .int)) (by decide) rfl ?_
  intro p₀ e₀ s₀ m₀ args below meth c₀ s₁ B hml hv₀
  obtain ⟨rfl, hsz, hP, hK, hD0, hN⟩ := hv₀
  have hx₀ := B.exec
  have hb := B.bytes
  have hr := B.returns
  have hts := atoms_spec (ws := (kW yX12_farthestNow cX12_farthestNow 6 (some .int))) B.pre
  have hts := fun w h => hts w (List.mem_cons_of_mem _ h)
  have hown : s₀.vm.findClass RX12 = some m₀.cls := findClass_of_methodNamed B.named
  have hlocks := B.notSynchronized
  subst hsz
  have hD := hD0.self (sz := s₀.heap.size)
  generalize hAe : va_A [(hm, .inr (11, [.ref vFo, .ref vSi, .ref vIt, .ref vMo, .int 0, .ref vBy, .ref vTy, .int 0, .ref vMi, .int 0, .ref vPs, .int 0, .ref vGs, .int 0, .ref vFt, .int 0, .ref vTo, .int 0, .int 0, .int 0, .int 16777215, .int 0, .int 0, .ref vPr, .ref vSt, .ref vFn, .int 0, .ref vSg, .ref vAl, .int 0]))] s₀.heap.size = A at hD ⊢
  have hA : ∀ q : Nat, s₀.heap.size ≤ q → A q := fun q h => by rw [← hAe]; exact Or.inr h
  have hS : va_S A s₀.heap s₀.heap [] := va_S.rf
  have hP : va_P (dC, dI) vwCl [(hm, .inr (11, [.ref vFo, .ref vSi, .ref vIt, .ref vMo, .int 0, .ref vBy, .ref vTy, .int 0, .ref vMi, .int 0, .ref vPs, .int 0, .ref vGs, .int 0, .ref vFt, .int 0, .ref vTo, .int 0, .int 0, .int 0, .int 16777215, .int 0, .int 0, .ref vPr, .ref vSt, .ref vFn, .int 0, .ref vSg, .ref vAl, .int 0]))] s₀.heap := hP
  have hl := lv_entry ([.ref hm]) (n := 6) (Nat.le_of_ble_eq_true rfl)
  rw [lg_entry_eq]
  generalize (lg_sl ([.ref hm]) ++ List.replicate (6 - (lg_sl ([.ref hm])).length) Slot.unset).toArray = ls at hl ⊢
  have hl : lv_has ls 6 [(0, .ref hm)] := hl
  obtain ⟨H, hH⟩ : ∃ z : Heap, z = s₀.heap := ⟨_, rfl⟩
  rw [← hH] at hP
  have hS : va_S A s₀.heap H [] := by rw [hH]; exact hS
  refine k_heap hH ?_
  have hD : va_D A [(hm, .inr (11, [.ref vFo, .ref vSi, .ref vIt, .ref vMo, .int 0, .ref vBy, .ref vTy, .int 0, .ref vMi, .int 0, .ref vPs, .int 0, .ref vGs, .int 0, .ref vFt, .int 0, .ref vTo, .int 0, .int 0, .int 0, .int 16777215, .int 0, .int 0, .ref vPr, .ref vSt, .ref vFn, .int 0, .ref vSg, .ref vAl, .int 0]))] := hD
  obtain ⟨locs, hlo⟩ : ∃ z : List Loc, z = [] := ⟨_, rfl⟩
  rw [← hlo] at hS ⊢
  clear hlo hH hAe hD0
  refine lv_iconst (v := (-1)) hx₀ hb dX12_farthestNow_0 (by decide +kernel) ?_
  refine lv_istore_n (lv' := [(1, .int (-1)), (0, .ref hm)]) hx₀ hb dX12_farthestNow_1 rfl hl (by decide) rfl (fun ls hl => ?_)
  refine lv_iconst (v := 0) hx₀ hb dX12_farthestNow_2 (by decide +kernel) ?_
  refine lv_istore_n (lv' := [(2, .int 0), (1, .int (-1)), (0, .ref hm)]) hx₀ hb dX12_farthestNow_3 rfl hl (by decide) rfl (fun ls hl => ?_)
  refine lv_iconst (v := 0) hx₀ hb dX12_farthestNow_4 (by decide +kernel) ?_
  refine lv_istore_n (lv' := [(3, .int 0), (2, .int 0), (1, .int (-1)), (0, .ref hm)]) hx₀ hb dX12_farthestNow_5 rfl hl (by decide) rfl (fun ls hl => ?_)
  refine lv_iload_n hx₀ hb dX12_farthestNow_6 rfl (lv_at hl 0 rfl) ?_
  refine lv_aload_n hx₀ hb dX12_farthestNow_7 rfl (lv_at hl 3 rfl) ?_
  refine va_get (D := (dC, dI)) (ci := 11) (v := .int 0) (C := RX12) (T := TX12) (N := 30) hx₀ hb hts inlX12 hown hK hP 0 rfl rfl 13 (by decide) (hts (.fieldLink RX12 159 "BittenStickModel" "flights" "I") wd_364) (fun _ h9 => h9) rfl dX12_farthestNow_8 ?_
  refine lv_icmp_ge (tgt := 87) hx₀ hb dX12_farthestNow_11 (by decide) (fun _ => ?_) (fun c9 => absurd (by decide +kernel) c9)
  refine lv_iload_n hx₀ hb dX12_farthestNow_87 rfl (lv_at hl 2 rfl) ?_
  have hP9 := hP.sub (ws' := [(hm, .inr (11, [.ref vFo, .ref vSi, .ref vIt, .ref vMo, .int 0, .ref vBy, .ref vTy, .int 0, .ref vMi, .int 0, .ref vPs, .int 0, .ref vGs, .int 0, .ref vFt, .int 0, .ref vTo, .int 0, .int 0, .int 0, .int 16777215, .int 0, .int 0, .ref vPr, .ref vSt, .ref vFn, .int 0, .ref vSg, .ref vAl, .int 0]))]) [0] rfl
  have hD9 := hD.sub (ws' := [(hm, .inr (11, [.ref vFo, .ref vSi, .ref vIt, .ref vMo, .int 0, .ref vBy, .ref vTy, .int 0, .ref vMi, .int 0, .ref vPs, .int 0, .ref vGs, .int 0, .ref vFt, .int 0, .ref vTo, .int 0, .int 0, .int 0, .int 16777215, .int 0, .int 0, .ref vPr, .ref vSt, .ref vFn, .int 0, .ref vSg, .ref vAl, .int 0]))]) [0] (by decide) rfl
  exact W.iret (v := (-1)) hx₀ hb hr (fun t₀ ht hW => ⟨⟨(-1), (), rfl, rfl, by rw [ht]; exact hP9, va_K.moved hW.alike hK, hD9⟩, hS.F ht⟩) hS.2.2 dX12_farthestNow_88
set_option maxHeartbeats 4000000 in
set_option maxRecDepth 100000 in
theorem m_lakesOf (l : Launch) (dC : Nat → ClassId) (dI : Nat → Nat → Nat) (cI cJ cQ : ClassId) (sz : Nat) (hm : Nat) (z : Int32) (n : Int32) (w : Int32) (vFo : Nat) (vSi : Nat) (vIt : Nat) (vMo : Nat) (vBy : Nat) (vTy : Nat) (vMi : Nat) (vPs : Nat) (vGs : Nat) (vFt : Nat) (vTo : Nat) (vPr : Nat) (vSt : Nat) (vFn : Nat) (vSg : Nat) (vAl : Nat) (dr : Int32) : Met l yX12_lakesOf (kW yX12_lakesOf cX12_lakesOf 9 (some .int)) { frames := 0, cells := 0, slots := 0, locals := 0 } (kPre dC dI cI cJ cQ sz [.ref hm, .int z, .int n, .int w] [(hm, .inr (11, [.ref vFo, .ref vSi, .ref vIt, .ref vMo, .int 0, .ref vBy, .ref vTy, .int 0, .ref vMi, .int 0, .ref vPs, .int 0, .ref vGs, .int 0, .ref vFt, .int 0, .ref vTo, .int 0, .int 0, .int 0, .int 16777215, .int 0, .int 0, .ref vPr, .ref vSt, .ref vFn, .int 0, .ref vSg, .ref vAl, .int dr]))]) (va_Qi (fun (r : Int32) (_ : Unit) => r = 0) (fun _ t₀ => kB dC dI cI cJ cQ (va_A [(hm, .inr (11, [.ref vFo, .ref vSi, .ref vIt, .ref vMo, .int 0, .ref vBy, .ref vTy, .int 0, .ref vMi, .int 0, .ref vPs, .int 0, .ref vGs, .int 0, .ref vFt, .int 0, .ref vTo, .int 0, .int 0, .int 0, .int 16777215, .int 0, .int 0, .ref vPr, .ref vSt, .ref vFn, .int 0, .ref vSg, .ref vAl, .int dr]))] sz) [(hm, .inr (11, [.ref vFo, .ref vSi, .ref vIt, .ref vMo, .int 0, .ref vBy, .ref vTy, .int 0, .ref vMi, .int 0, .ref vPs, .int 0, .ref vGs, .int 0, .ref vFt, .int 0, .ref vTo, .int 0, .int 0, .int 0, .int 16777215, .int 0, .int 0, .ref vPr, .ref vSt, .ref vFn, .int 0, .ref vSg, .ref vAl, .int z]))] t₀) (va_A [(hm, .inr (11, [.ref vFo, .ref vSi, .ref vIt, .ref vMo, .int 0, .ref vBy, .ref vTy, .int 0, .ref vMi, .int 0, .ref vPs, .int 0, .ref vGs, .int 0, .ref vFt, .int 0, .ref vTo, .int 0, .int 0, .int 0, .int 16777215, .int 0, .int 0, .ref vPr, .ref vSt, .ref vFn, .int 0, .ref vSg, .ref vAl, .int dr]))] sz)) 0 0 (va_A [(hm, .inr (11, [.ref vFo, .ref vSi, .ref vIt, .ref vMo, .int 0, .ref vBy, .ref vTy, .int 0, .ref vMi, .int 0, .ref vPs, .int 0, .ref vGs, .int 0, .ref vFt, .int 0, .ref vTo, .int 0, .int 0, .int 0, .int 16777215, .int 0, .int 0, .ref vPr, .ref vSt, .ref vFn, .int 0, .ref vSg, .ref vAl, .int dr]))] sz) := by
  refine Met.ofW (cc := cX12_lakesOf) (maxL := 9) (ret := (some .int)) (by decide) rfl ?_
  intro p₀ e₀ s₀ m₀ args below meth c₀ s₁ B hml hv₀
  obtain ⟨rfl, hsz, hP, hK, hD0, hN⟩ := hv₀
  have hx₀ := B.exec
  have hb := B.bytes
  have hr := B.returns
  have hts := atoms_spec (ws := (kW yX12_lakesOf cX12_lakesOf 9 (some .int))) B.pre
  have hts := fun w h => hts w (List.mem_cons_of_mem _ h)
  have hown : s₀.vm.findClass RX12 = some m₀.cls := findClass_of_methodNamed B.named
  have hlocks := B.notSynchronized
  subst hsz
  have hD := hD0.self (sz := s₀.heap.size)
  generalize hAe : va_A [(hm, .inr (11, [.ref vFo, .ref vSi, .ref vIt, .ref vMo, .int 0, .ref vBy, .ref vTy, .int 0, .ref vMi, .int 0, .ref vPs, .int 0, .ref vGs, .int 0, .ref vFt, .int 0, .ref vTo, .int 0, .int 0, .int 0, .int 16777215, .int 0, .int 0, .ref vPr, .ref vSt, .ref vFn, .int 0, .ref vSg, .ref vAl, .int dr]))] s₀.heap.size = A at hD ⊢
  have hA : ∀ q : Nat, s₀.heap.size ≤ q → A q := fun q h => by rw [← hAe]; exact Or.inr h
  have hS : va_S A s₀.heap s₀.heap [] := va_S.rf
  have hP : va_P (dC, dI) vwCl [(hm, .inr (11, [.ref vFo, .ref vSi, .ref vIt, .ref vMo, .int 0, .ref vBy, .ref vTy, .int 0, .ref vMi, .int 0, .ref vPs, .int 0, .ref vGs, .int 0, .ref vFt, .int 0, .ref vTo, .int 0, .int 0, .int 0, .int 16777215, .int 0, .int 0, .ref vPr, .ref vSt, .ref vFn, .int 0, .ref vSg, .ref vAl, .int dr]))] s₀.heap := hP
  have hl := lv_entry ([.ref hm, .int z, .int n, .int w]) (n := 9) (Nat.le_of_ble_eq_true rfl)
  rw [lg_entry_eq]
  generalize (lg_sl ([.ref hm, .int z, .int n, .int w]) ++ List.replicate (9 - (lg_sl ([.ref hm, .int z, .int n, .int w])).length) Slot.unset).toArray = ls at hl ⊢
  have hl : lv_has ls 9 [(0, .ref hm), (1, .int z), (2, .int n), (3, .int w)] := hl
  obtain ⟨H, hH⟩ : ∃ z : Heap, z = s₀.heap := ⟨_, rfl⟩
  rw [← hH] at hP
  have hS : va_S A s₀.heap H [] := by rw [hH]; exact hS
  refine k_heap hH ?_
  have hD : va_D A [(hm, .inr (11, [.ref vFo, .ref vSi, .ref vIt, .ref vMo, .int 0, .ref vBy, .ref vTy, .int 0, .ref vMi, .int 0, .ref vPs, .int 0, .ref vGs, .int 0, .ref vFt, .int 0, .ref vTo, .int 0, .int 0, .int 0, .int 16777215, .int 0, .int 0, .ref vPr, .ref vSt, .ref vFn, .int 0, .ref vSg, .ref vAl, .int dr]))] := hD
  obtain ⟨locs, hlo⟩ : ∃ z : List Loc, z = [] := ⟨_, rfl⟩
  rw [← hlo] at hS ⊢
  clear hlo hH hAe hD0
  refine lv_aload_n hx₀ hb dX12_lakesOf_0 rfl (lv_at hl 0 rfl) ?_
  refine lv_iload_n hx₀ hb dX12_lakesOf_1 rfl (lv_at hl 1 rfl) ?_
  refine va_put (D := (dC, dI)) (ci := 11) (v := .int z) (ty := .int) (C := RX12) (T := TX12) (N := 30) hx₀ hb hts inlX12 tyX12 tyX12_ok nmX12 hown hK hP hD hS 0 rfl rfl 29 (by decide) (hts (.fieldLink RX12 280 "BittenStickModel" "drawn" "I") wd_852) (fun _ h9 => h9) rfl (by decide +kernel) rfl rfl (Nat.le_of_ble_eq_true rfl) dX12_lakesOf_2 (fun H locs hP hD hS => ?_)
  have hP : va_P (dC, dI) vwCl [(hm, .inr (11, [.ref vFo, .ref vSi, .ref vIt, .ref vMo, .int 0, .ref vBy, .ref vTy, .int 0, .ref vMi, .int 0, .ref vPs, .int 0, .ref vGs, .int 0, .ref vFt, .int 0, .ref vTo, .int 0, .int 0, .int 0, .int 16777215, .int 0, .int 0, .ref vPr, .ref vSt, .ref vFn, .int 0, .ref vSg, .ref vAl, .int z]))] H := hP
  have hD : va_D A [(hm, .inr (11, [.ref vFo, .ref vSi, .ref vIt, .ref vMo, .int 0, .ref vBy, .ref vTy, .int 0, .ref vMi, .int 0, .ref vPs, .int 0, .ref vGs, .int 0, .ref vFt, .int 0, .ref vTo, .int 0, .int 0, .int 0, .int 16777215, .int 0, .int 0, .ref vPr, .ref vSt, .ref vFn, .int 0, .ref vSg, .ref vAl, .int z]))] := hD
  refine lv_iconst (v := 0) hx₀ hb dX12_lakesOf_5 (by decide +kernel) ?_
  refine lv_istore (lv' := [(4, .int 0), (0, .ref hm), (1, .int z), (2, .int n), (3, .int w)]) hx₀ hb dX12_lakesOf_6 hl (by decide) rfl (fun ls hl => ?_)
  refine lv_iconst (v := 0) hx₀ hb dX12_lakesOf_8 (by decide +kernel) ?_
  refine lv_istore (lv' := [(5, .int 0), (4, .int 0), (0, .ref hm), (1, .int z), (2, .int n), (3, .int w)]) hx₀ hb dX12_lakesOf_9 hl (by decide) rfl (fun ls hl => ?_)
  refine lv_iload hx₀ hb dX12_lakesOf_11 (lv_at hl 0 rfl) ?_
  refine lv_iload_n hx₀ hb dX12_lakesOf_13 rfl (lv_at hl 4 rfl) ?_
  refine lv_icmp_ge (tgt := 134) hx₀ hb dX12_lakesOf_14 (by decide) (fun c_1 => ?_) (fun c_1 => ?_)
  · refine lv_iload hx₀ hb dX12_lakesOf_134 (lv_at hl 1 rfl) ?_
    have hP9 := hP.sub (ws' := [(hm, .inr (11, [.ref vFo, .ref vSi, .ref vIt, .ref vMo, .int 0, .ref vBy, .ref vTy, .int 0, .ref vMi, .int 0, .ref vPs, .int 0, .ref vGs, .int 0, .ref vFt, .int 0, .ref vTo, .int 0, .int 0, .int 0, .int 16777215, .int 0, .int 0, .ref vPr, .ref vSt, .ref vFn, .int 0, .ref vSg, .ref vAl, .int z]))]) [0] rfl
    have hD9 := hD.sub (ws' := [(hm, .inr (11, [.ref vFo, .ref vSi, .ref vIt, .ref vMo, .int 0, .ref vBy, .ref vTy, .int 0, .ref vMi, .int 0, .ref vPs, .int 0, .ref vGs, .int 0, .ref vFt, .int 0, .ref vTo, .int 0, .int 0, .int 0, .int 16777215, .int 0, .int 0, .ref vPr, .ref vSt, .ref vFn, .int 0, .ref vSg, .ref vAl, .int z]))]) [0] (by decide) rfl
    exact W.iret (v := 0) hx₀ hb hr (fun t₀ ht hW => ⟨⟨0, (), rfl, rfl, by rw [ht]; exact hP9, va_K.moved hW.alike hK, hD9⟩, hS.F ht⟩) hS.2.2 dX12_lakesOf_136
  · refine lv_aload_n hx₀ hb dX12_lakesOf_17 rfl (lv_at hl 2 rfl) ?_
    refine va_get (D := (dC, dI)) (ci := 11) (v := .int 0) (C := RX12) (T := TX12) (N := 30) hx₀ hb hts inlX12 hown hK hP 0 rfl rfl 9 (by decide) (hts (.fieldLink RX12 116 "BittenStickModel" "passengers" "I") wd_265) (fun _ h9 => h9) rfl dX12_lakesOf_18 ?_
    refine lv_if_le (tgt := 134) hx₀ hb dX12_lakesOf_21 (by decide) (fun _ => ?_) (fun c9 => absurd (by decide +kernel) c9)
    refine lv_iload hx₀ hb dX12_lakesOf_134 (lv_at hl 1 rfl) ?_
    have hP9 := hP.sub (ws' := [(hm, .inr (11, [.ref vFo, .ref vSi, .ref vIt, .ref vMo, .int 0, .ref vBy, .ref vTy, .int 0, .ref vMi, .int 0, .ref vPs, .int 0, .ref vGs, .int 0, .ref vFt, .int 0, .ref vTo, .int 0, .int 0, .int 0, .int 16777215, .int 0, .int 0, .ref vPr, .ref vSt, .ref vFn, .int 0, .ref vSg, .ref vAl, .int z]))]) [0] rfl
    have hD9 := hD.sub (ws' := [(hm, .inr (11, [.ref vFo, .ref vSi, .ref vIt, .ref vMo, .int 0, .ref vBy, .ref vTy, .int 0, .ref vMi, .int 0, .ref vPs, .int 0, .ref vGs, .int 0, .ref vFt, .int 0, .ref vTo, .int 0, .int 0, .int 0, .int 16777215, .int 0, .int 0, .ref vPr, .ref vSt, .ref vFn, .int 0, .ref vSg, .ref vAl, .int z]))]) [0] (by decide) rfl
    exact W.iret (v := 0) hx₀ hb hr (fun t₀ ht hW => ⟨⟨0, (), rfl, rfl, by rw [ht]; exact hP9, va_K.moved hW.alike hK, hD9⟩, hS.F ht⟩) hS.2.2 dX12_lakesOf_136
set_option maxHeartbeats 4000000 in
set_option maxRecDepth 100000 in
theorem m_lacks (l : Launch) (dC : Nat → ClassId) (dI : Nat → Nat → Nat) (cI cJ cQ : ClassId) (sz : Nat) (hm : Nat) (s : Int32) (m : Int32) (i : Int32) (vFo : Nat) (vSi : Nat) (vIt : Nat) (vMo : Nat) (vBy : Nat) (vTy : Nat) (vMi : Nat) (vPs : Nat) (vGs : Nat) (vFt : Nat) (vTo : Nat) (vPr : Nat) (vSt : Nat) (vFn : Nat) (vSg : Nat) (vAl : Nat) (hs : 0 ≤ s ∧ s ≤ 3) : Met l yX12_lacks (kW yX12_lacks cX12_lacks 4 (some .int)) { frames := 1, cells := 0, slots := 0, locals := 21 } (kPre dC dI cI cJ cQ sz [.ref hm, .int s, .int m, .int i] [(hm, .inr (11, [.ref vFo, .ref vSi, .ref vIt, .ref vMo, .int 0, .ref vBy, .ref vTy, .int 0, .ref vMi, .int 0, .ref vPs, .int 0, .ref vGs, .int 0, .ref vFt, .int 0, .ref vTo, .int 0, .int 0, .int 0, .int 16777215, .int 0, .int 0, .ref vPr, .ref vSt, .ref vFn, .int 0, .ref vSg, .ref vAl, .int 0])), (vFo, .inl (cI, 4, .inl fFo))]) (va_Qi (fun (r : Int32) (_ : Unit) => r = (-11)) (fun _ _ => True) (va_A [(hm, .inr (11, [.ref vFo, .ref vSi, .ref vIt, .ref vMo, .int 0, .ref vBy, .ref vTy, .int 0, .ref vMi, .int 0, .ref vPs, .int 0, .ref vGs, .int 0, .ref vFt, .int 0, .ref vTo, .int 0, .int 0, .int 0, .int 16777215, .int 0, .int 0, .ref vPr, .ref vSt, .ref vFn, .int 0, .ref vSg, .ref vAl, .int 0])), (vFo, .inl (cI, 4, .inl fFo))] sz)) 0 0 (va_A [(hm, .inr (11, [.ref vFo, .ref vSi, .ref vIt, .ref vMo, .int 0, .ref vBy, .ref vTy, .int 0, .ref vMi, .int 0, .ref vPs, .int 0, .ref vGs, .int 0, .ref vFt, .int 0, .ref vTo, .int 0, .int 0, .int 0, .int 16777215, .int 0, .int 0, .ref vPr, .ref vSt, .ref vFn, .int 0, .ref vSg, .ref vAl, .int 0])), (vFo, .inl (cI, 4, .inl fFo))] sz) := by
  refine Met.ofW (cc := cX12_lacks) (maxL := 4) (ret := (some .int)) (by decide) rfl ?_
  intro p₀ e₀ s₀ m₀ args below meth c₀ s₁ B hml hv₀
  obtain ⟨rfl, hsz, hP, hK, hD0, hN⟩ := hv₀
  have hx₀ := B.exec
  have hb := B.bytes
  have hr := B.returns
  have hts := atoms_spec (ws := (kW yX12_lacks cX12_lacks 4 (some .int))) B.pre
  have hts := fun w h => hts w (List.mem_cons_of_mem _ h)
  have hown : s₀.vm.findClass RX12 = some m₀.cls := findClass_of_methodNamed B.named
  have hlocks := B.notSynchronized
  subst hsz
  have hD := hD0.self (sz := s₀.heap.size)
  generalize hAe : va_A [(hm, .inr (11, [.ref vFo, .ref vSi, .ref vIt, .ref vMo, .int 0, .ref vBy, .ref vTy, .int 0, .ref vMi, .int 0, .ref vPs, .int 0, .ref vGs, .int 0, .ref vFt, .int 0, .ref vTo, .int 0, .int 0, .int 0, .int 16777215, .int 0, .int 0, .ref vPr, .ref vSt, .ref vFn, .int 0, .ref vSg, .ref vAl, .int 0])), (vFo, .inl (cI, 4, .inl fFo))] s₀.heap.size = A at hD ⊢
  have hA : ∀ q : Nat, s₀.heap.size ≤ q → A q := fun q h => by rw [← hAe]; exact Or.inr h
  have hS : va_S A s₀.heap s₀.heap [] := va_S.rf
  have hP : va_P (dC, dI) vwCl [(hm, .inr (11, [.ref vFo, .ref vSi, .ref vIt, .ref vMo, .int 0, .ref vBy, .ref vTy, .int 0, .ref vMi, .int 0, .ref vPs, .int 0, .ref vGs, .int 0, .ref vFt, .int 0, .ref vTo, .int 0, .int 0, .int 0, .int 16777215, .int 0, .int 0, .ref vPr, .ref vSt, .ref vFn, .int 0, .ref vSg, .ref vAl, .int 0])), (vFo, .inl (cI, 4, .inl fFo))] s₀.heap := hP
  have hl := lv_entry ([.ref hm, .int s, .int m, .int i]) (n := 4) (Nat.le_of_ble_eq_true rfl)
  rw [lg_entry_eq]
  generalize (lg_sl ([.ref hm, .int s, .int m, .int i]) ++ List.replicate (4 - (lg_sl ([.ref hm, .int s, .int m, .int i])).length) Slot.unset).toArray = ls at hl ⊢
  have hl : lv_has ls 4 [(0, .ref hm), (1, .int s), (2, .int m), (3, .int i)] := hl
  obtain ⟨H, hH⟩ : ∃ z : Heap, z = s₀.heap := ⟨_, rfl⟩
  rw [← hH] at hP
  have hS : va_S A s₀.heap H [] := by rw [hH]; exact hS
  refine k_heap hH ?_
  have hD : va_D A [(hm, .inr (11, [.ref vFo, .ref vSi, .ref vIt, .ref vMo, .int 0, .ref vBy, .ref vTy, .int 0, .ref vMi, .int 0, .ref vPs, .int 0, .ref vGs, .int 0, .ref vFt, .int 0, .ref vTo, .int 0, .int 0, .int 0, .int 16777215, .int 0, .int 0, .ref vPr, .ref vSt, .ref vFn, .int 0, .ref vSg, .ref vAl, .int 0])), (vFo, .inl (cI, 4, .inl fFo))] := hD
  obtain ⟨locs, hlo⟩ : ∃ z : List Loc, z = [] := ⟨_, rfl⟩
  rw [← hlo] at hS ⊢
  clear hlo hH hAe hD0
  refine lv_aload_n hx₀ hb dX12_lacks_0 rfl (lv_at hl 0 rfl) ?_
  refine va_get (D := (dC, dI)) (ci := 11) (v := .ref vFo) (C := RX12) (T := TX12) (N := 30) hx₀ hb hts inlX12 hown hK hP 0 rfl rfl 0 (by decide) (hts (.fieldLink RX12 7 "BittenStickModel" "forms" "[I") wd_115) (fun _ h9 => h9) rfl dX12_lacks_1 ?_
  refine lv_iload_n hx₀ hb dX12_lacks_4 rfl (lv_at hl 1 rfl) ?_
  refine va_iald hx₀ hb hK hP 1 0 rfl rfl (k_in3 hs) dX12_lacks_5 ?_
  refine k_topi (v := (-1)) (fFo_at hs) ?_
  refine lv_if_ge (tgt := 15) hx₀ hb dX12_lacks_6 (by decide) (fun c9 => absurd c9 (by decide +kernel)) (fun _ => ?_)
  refine lv_aload_n hx₀ hb dX12_lacks_9 rfl (lv_at hl 0 rfl) ?_
  refine lv_iconst (v := 1) hx₀ hb dX12_lacks_10 (by decide +kernel) ?_
  have hPc := hP.sub (ws' := [(hm, .inr (11, [.ref vFo, .ref vSi, .ref vIt, .ref vMo, .int 0, .ref vBy, .ref vTy, .int 0, .ref vMi, .int 0, .ref vPs, .int 0, .ref vGs, .int 0, .ref vFt, .int 0, .ref vTo, .int 0, .int 0, .int 0, .int 16777215, .int 0, .int 0, .ref vPr, .ref vSt, .ref vFn, .int 0, .ref vSg, .ref vAl, .int 0]))]) [0] rfl
  have hDc := hD.sub (ws' := [(hm, .inr (11, [.ref vFo, .ref vSi, .ref vIt, .ref vMo, .int 0, .ref vBy, .ref vTy, .int 0, .ref vMi, .int 0, .ref vPs, .int 0, .ref vGs, .int 0, .ref vFt, .int 0, .ref vTo, .int 0, .int 0, .int 0, .int 16777215, .int 0, .int 0, .ref vPr, .ref vSt, .ref vFn, .int 0, .ref vSg, .ref vAl, .int 0]))]) [0] (by decide) rfl
  have hFc := va_free (wc := [(hm, .inr (11, [.ref vFo, .ref vSi, .ref vIt, .ref vMo, .int 0, .ref vBy, .ref vTy, .int 0, .ref vMi, .int 0, .ref vPs, .int 0, .ref vGs, .int 0, .ref vFt, .int 0, .ref vTo, .int 0, .int 0, .int 0, .int 16777215, .int 0, .int 0, .ref vPr, .ref vSt, .ref vFn, .int 0, .ref vSg, .ref vAl, .int 0]))]) hD hS hA [0] rfl
  refine va_calli (va_runV (As := [.int 1]) (rest := []) ⟨hx₀, hb, hml, hown, hts⟩ (m_finds1 l dC dI cI cJ cQ H.size hm vFo vSi vIt vMo vBy vTy vMi vPs vGs vFt vTo vPr vSt vFn vSg vAl) (cwV 1 hts (kGV wd_404 wd_401 wd_402 wd_403 wd_5) rfl rfl rfl (by decide +kernel) ⟨Nat.le_of_ble_eq_true rfl, Nat.le_of_ble_eq_true rfl⟩) (k_preV (ci := 11) (q0 := 0) hK hPc hDc hN rfl rfl) rfl rfl hl.1 rfl (lv_room (Nat.le_of_ble_eq_true rfl)) dX12_lacks_11 ⟨by decide +kernel, by decide +kernel⟩) hS (fun q _ h => hFc q h) hFc (fun r_1 u₀ t₀ H1 locs ht hvm hw hB hz1 hk1 hS => ?_)
  obtain ⟨hP1, hK1, hD1⟩ := hB
  rw [ht] at hP1
  obtain ⟨hP, hD⟩ := va_join (wr := [(vFo, .inl (cI, 4, .inl fFo))]) (w1 := [(hm, .inr (11, [.ref vFo, .ref vSi, .ref vIt, .ref vMo, .int 1, .ref vBy, .ref vTy, .int 0, .ref vMi, .int 0, .ref vPs, .int 0, .ref vGs, .int 0, .ref vFt, .int 0, .ref vTo, .int 0, .int 0, .int 0, .int 16777215, .int 0, .int 0, .ref vPr, .ref vSt, .ref vFn, .int 0, .ref vSg, .ref vAl, .int 0]))]) hP hD [0] [1] rfl rfl (by decide) (by decide) hk1 hFc hP1 hD1
  generalize H1 = H at hP hS ⊢
  have hP : va_P (dC, dI) vwCl [(vFo, .inl (cI, 4, .inl fFo)), (hm, .inr (11, [.ref vFo, .ref vSi, .ref vIt, .ref vMo, .int 1, .ref vBy, .ref vTy, .int 0, .ref vMi, .int 0, .ref vPs, .int 0, .ref vGs, .int 0, .ref vFt, .int 0, .ref vTo, .int 0, .int 0, .int 0, .int 16777215, .int 0, .int 0, .ref vPr, .ref vSt, .ref vFn, .int 0, .ref vSg, .ref vAl, .int 0]))] H := hP
  have hD : va_D A [(vFo, .inl (cI, 4, .inl fFo)), (hm, .inr (11, [.ref vFo, .ref vSi, .ref vIt, .ref vMo, .int 1, .ref vBy, .ref vTy, .int 0, .ref vMi, .int 0, .ref vPs, .int 0, .ref vGs, .int 0, .ref vFt, .int 0, .ref vTo, .int 0, .int 0, .int 0, .int 16777215, .int 0, .int 0, .ref vPr, .ref vSt, .ref vFn, .int 0, .ref vSg, .ref vAl, .int 0]))] := hD
  try dsimp only at hw
  refine k_topi (v := (-11)) hw ?_
  exact W.iret (v := (-11)) hx₀ hb hr (fun t₀ ht hW => ⟨⟨(-11), (), rfl, rfl, trivial⟩, hS.F ht⟩) hS.2.2 dX12_lacks_14
