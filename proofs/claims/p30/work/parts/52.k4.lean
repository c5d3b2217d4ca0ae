set_option maxHeartbeats 4000000 in
set_option maxRecDepth 100000 in
theorem j_isForm (l : Launch) (dC : Nat → ClassId) (dI : Nat → Nat → Nat) (cI cJ cQ : ClassId) (sz : Nat) (v1 : Int32) : Met l yX11_isForm (kW yX11_isForm cX11_isForm 1 (some .boolean)) { frames := 0, cells := 0, slots := 0, locals := 0 } (kPre dC dI cI cJ cQ sz [.int v1] []) (va_Qi (fun (r : Int32) (u : Unit) => (r = if 0 ≤ v1 ∧ v1 ≤ 2 then 1 else 0)) (fun (u : Unit) t₀ => kB dC dI cI cJ cQ (va_A [] sz) [] t₀) (va_A [] sz)) 0 0 (va_A [] sz) := by
  refine Met.ofW (cc := cX11_isForm) (maxL := 1) (ret := (some .boolean)) (by decide) rfl ?_
  intro p₀ e₀ s₀ m₀ args below meth c₀ s₁ B hml hv₀
  obtain ⟨rfl, hsz, hP, hK, hD0, hN⟩ := hv₀
  have hx₀ := B.exec
  have hb := B.bytes
  have hr := B.returns
  have hts := atoms_spec (ws := (kW yX11_isForm cX11_isForm 1 (some .boolean))) B.pre
  have hts := fun w h => hts w (List.mem_cons_of_mem _ h)
  have hown : s₀.vm.findClass RX11 = some m₀.cls := findClass_of_methodNamed B.named
  have hlocks := B.notSynchronized
  subst hsz
  have hD := hD0.self (sz := s₀.heap.size)
  generalize hAe : va_A [] s₀.heap.size = A at hD ⊢
  have hA : ∀ q : Nat, s₀.heap.size ≤ q → A q := fun q h => by rw [← hAe]; exact Or.inr h
  have hS : va_S A s₀.heap s₀.heap [] := va_S.rf
  have hP : va_P (dC, dI) vwCl [] s₀.heap := hP
  have hl := lv_entry ([.int v1]) (n := 1) (Nat.le_of_ble_eq_true rfl)
  rw [lg_entry_eq]
  generalize (lg_sl ([.int v1]) ++ List.replicate (1 - (lg_sl ([.int v1])).length) Slot.unset).toArray = ls at hl ⊢
  have hl : lv_has ls 1 [(0, .int v1)] := hl
  obtain ⟨H, hH⟩ : ∃ z : Heap, z = s₀.heap := ⟨_, rfl⟩
  rw [← hH] at hP
  have hS : va_S A s₀.heap H [] := by rw [hH]; exact hS
  refine k_heap hH ?_
  have hD : va_D A [] := hD
  obtain ⟨locs, hlo⟩ : ∃ z : List Loc, z = [] := ⟨_, rfl⟩
  rw [← hlo] at hS ⊢
  clear hlo hH hAe hD0
  refine lv_iload_n hx₀ hb dX11_isForm_0 rfl (lv_at hl 0 rfl) ?_
  refine lv_if_lt (tgt := 13) hx₀ hb dX11_isForm_1 (by decide) (fun c_1 => ?_) (fun c_1 => ?_)
  · refine lv_iconst (v := 0) hx₀ hb dX11_isForm_13 (by decide +kernel) ?_
    obtain ⟨hP9, hD9⟩ := k_c2 (wc := []) hP hD [] (by decide +kernel) rfl
    exact W.zret (v := 0) hx₀ hb hr (by decide +kernel) (fun t₀ ht hW => ⟨⟨0, (), rfl, (show (0 : Int32) = if 0 ≤ v1 ∧ v1 ≤ 2 then 1 else 0 from (if_neg (show ¬ (0 ≤ v1 ∧ v1 ≤ 2) from (fun z => (Int32.not_le.mpr c_1) z.1))).symm), by rw [ht]; exact hP9, va_K.moved hW.alike hK, hD9⟩, hS.F ht⟩) hS.2.2 dX11_isForm_14
  · refine lv_iload_n hx₀ hb dX11_isForm_4 rfl (lv_at hl 0 rfl) ?_
    refine lv_iconst (v := 2) hx₀ hb dX11_isForm_5 (by decide +kernel) ?_
    refine lv_icmp_gt (tgt := 13) hx₀ hb dX11_isForm_6 (by decide) (fun c_2 => ?_) (fun c_2 => ?_)
    · refine lv_iconst (v := 0) hx₀ hb dX11_isForm_13 (by decide +kernel) ?_
      obtain ⟨hP9, hD9⟩ := k_c2 (wc := []) hP hD [] (by decide +kernel) rfl
      exact W.zret (v := 0) hx₀ hb hr (by decide +kernel) (fun t₀ ht hW => ⟨⟨0, (), rfl, (show (0 : Int32) = if 0 ≤ v1 ∧ v1 ≤ 2 then 1 else 0 from (if_neg (show ¬ (0 ≤ v1 ∧ v1 ≤ 2) from (fun z => (Int32.not_le.mpr c_2) z.2))).symm), by rw [ht]; exact hP9, va_K.moved hW.alike hK, hD9⟩, hS.F ht⟩) hS.2.2 dX11_isForm_14
    · refine lv_iconst (v := 1) hx₀ hb dX11_isForm_9 (by decide +kernel) ?_
      refine lv_goto (tgt := 14) hx₀ hb dX11_isForm_10 (by decide) ?_
      obtain ⟨hP9, hD9⟩ := k_c2 (wc := []) hP hD [] (by decide +kernel) rfl
      exact W.zret (v := 1) hx₀ hb hr (by decide +kernel) (fun t₀ ht hW => ⟨⟨1, (), rfl, (show (1 : Int32) = if 0 ≤ v1 ∧ v1 ≤ 2 then 1 else 0 from (if_pos (show 0 ≤ v1 ∧ v1 ≤ 2 from ⟨(Int32.not_lt.mp c_1), (Int32.not_lt.mp c_2)⟩)).symm), by rw [ht]; exact hP9, va_K.moved hW.alike hK, hD9⟩, hS.F ht⟩) hS.2.2 dX11_isForm_14
set_option maxHeartbeats 4000000 in
set_option maxRecDepth 100000 in
theorem j_found1 (l : Launch) (dC : Nat → ClassId) (dI : Nat → Nat → Nat) (cI cJ cQ : ClassId) (sz : Nat) (hx : Nat) (aLa : Nat) (aPa : Nat) (aGe : Nat) (aFl : Nat) (aTr : Nat) (aBe : Nat) (aLu : Nat) (aLo : Nat) (vSf : Nat) (vSm : Nat) (vCo : Nat) (vSh : Nat) (xs : Int32) (xl : Int32) (xf : Int32) : Met l yX11_found (kW yX11_found cX11_found 2 (some .int)) { frames := 0, cells := 0, slots := 0, locals := 0 } (kPre dC dI cI cJ cQ sz [.ref hx, .int 1] [(kX11 hx aLa aPa aGe aFl aTr aBe aLu aLo vSf vSm vCo vSh xs xl xf)]) (va_Qi (fun (r : Int32) (u : Unit) => (r = (-11))) (fun (u : Unit) t₀ => kB dC dI cI cJ cQ (va_A [(kX11 hx aLa aPa aGe aFl aTr aBe aLu aLo vSf vSm vCo vSh xs xl xf)] sz) [(kX11 hx aLa aPa aGe aFl aTr aBe aLu aLo vSf vSm vCo vSh xs xl 1)] t₀) (va_A [(kX11 hx aLa aPa aGe aFl aTr aBe aLu aLo vSf vSm vCo vSh xs xl xf)] sz)) 0 0 (va_A [(kX11 hx aLa aPa aGe aFl aTr aBe aLu aLo vSf vSm vCo vSh xs xl xf)] sz) := by
  refine Met.ofW (cc := cX11_found) (maxL := 2) (ret := (some .int)) (by decide) rfl ?_
  intro p₀ e₀ s₀ m₀ args below meth c₀ s₁ B hml hv₀
  obtain ⟨rfl, hsz, hP, hK, hD0, hN⟩ := hv₀
  have hx₀ := B.exec
  have hb := B.bytes
  have hr := B.returns
  have hts := atoms_spec (ws := (kW yX11_found cX11_found 2 (some .int))) B.pre
  have hts := fun w h => hts w (List.mem_cons_of_mem _ h)
  have hown : s₀.vm.findClass RX11 = some m₀.cls := findClass_of_methodNamed B.named
  have hlocks := B.notSynchronized
  subst hsz
  have hD := hD0.self (sz := s₀.heap.size)
  generalize hAe : va_A [(kX11 hx aLa aPa aGe aFl aTr aBe aLu aLo vSf vSm vCo vSh xs xl xf)] s₀.heap.size = A at hD ⊢
  have hA : ∀ q : Nat, s₀.heap.size ≤ q → A q := fun q h => by rw [← hAe]; exact Or.inr h
  have hS : va_S A s₀.heap s₀.heap [] := va_S.rf
  have hP : va_P (dC, dI) vwCl [(kX11 hx aLa aPa aGe aFl aTr aBe aLu aLo vSf vSm vCo vSh xs xl xf)] s₀.heap := hP
  have hl := lv_entry ([.ref hx, .int 1]) (n := 2) (Nat.le_of_ble_eq_true rfl)
  rw [lg_entry_eq]
  generalize (lg_sl ([.ref hx, .int 1]) ++ List.replicate (2 - (lg_sl ([.ref hx, .int 1])).length) Slot.unset).toArray = ls at hl ⊢
  have hl : lv_has ls 2 [(0, .ref hx), (1, .int 1)] := hl
  obtain ⟨H, hH⟩ : ∃ z : Heap, z = s₀.heap := ⟨_, rfl⟩
  rw [← hH] at hP
  have hS : va_S A s₀.heap H [] := by rw [hH]; exact hS
  refine k_heap hH ?_
  have hD : va_D A [(kX11 hx aLa aPa aGe aFl aTr aBe aLu aLo vSf vSm vCo vSh xs xl xf)] := hD
  obtain ⟨locs, hlo⟩ : ∃ z : List Loc, z = [] := ⟨_, rfl⟩
  rw [← hlo] at hS ⊢
  clear hlo hH hAe hD0
  refine lv_aload_n hx₀ hb dX11_found_0 rfl (lv_at hl 0 rfl) ?_
  refine lv_iload_n hx₀ hb dX11_found_1 rfl (lv_at hl 1 rfl) ?_
  refine va_put (D := (dC, dI)) (ci := 10) (v := .int 1) (ty := .int) (C := RX11) (T := TX11) (N := 15) hx₀ hb hts inlX11 tyX11 tyX11_ok nmX11 hown hK hP hD hS 0 rfl rfl 14 (by decide) (hts (.fieldLink RX11 269 "BittenStick" "finding" "I") wd_388) (fun _ h9 => h9) rfl (by decide +kernel) rfl rfl (Nat.le_of_ble_eq_true rfl) dX11_found_2 ?_
  clear hP hD hS
  intro H locs hP hD hS
  replace hP := k_w2 (wt := [(kX11 hx aLa aPa aGe aFl aTr aBe aLu aLo vSf vSm vCo vSh xs xl 1)]) hP hD rfl
  replace hD := hP.2
  replace hP := hP.1
  refine lv_bipush (v := (-10)) hx₀ hb dX11_found_5 (by decide +kernel) ?_
  refine lv_iload_n hx₀ hb dX11_found_7 rfl (lv_at hl 1 rfl) ?_
  refine lv_isub hx₀ hb dX11_found_8 ?_
  refine k_topi (v := (-11)) (by decide +kernel) ?_
  obtain ⟨hP9, hD9⟩ := k_c2 (wc := [(kX11 hx aLa aPa aGe aFl aTr aBe aLu aLo vSf vSm vCo vSh xs xl 1)]) hP hD [0] (by decide +kernel) rfl
  exact W.iret (v := (-11)) hx₀ hb hr (fun t₀ ht hW => ⟨⟨(-11), (), rfl, rfl, by rw [ht]; exact hP9, va_K.moved hW.alike hK, hD9⟩, hS.F ht⟩) hS.2.2 dX11_found_9
set_option maxHeartbeats 4000000 in
set_option maxRecDepth 100000 in
theorem j_found2 (l : Launch) (dC : Nat → ClassId) (dI : Nat → Nat → Nat) (cI cJ cQ : ClassId) (sz : Nat) (hx : Nat) (aLa : Nat) (aPa : Nat) (aGe : Nat) (aFl : Nat) (aTr : Nat) (aBe : Nat) (aLu : Nat) (aLo : Nat) (vSf : Nat) (vSm : Nat) (vCo : Nat) (vSh : Nat) (xs : Int32) (xl : Int32) (xf : Int32) : Met l yX11_found (kW yX11_found cX11_found 2 (some .int)) { frames := 0, cells := 0, slots := 0, locals := 0 } (kPre dC dI cI cJ cQ sz [.ref hx, .int 2] [(kX11 hx aLa aPa aGe aFl aTr aBe aLu aLo vSf vSm vCo vSh xs xl xf)]) (va_Qi (fun (r : Int32) (u : Unit) => (r = (-12))) (fun (u : Unit) t₀ => kB dC dI cI cJ cQ (va_A [(kX11 hx aLa aPa aGe aFl aTr aBe aLu aLo vSf vSm vCo vSh xs xl xf)] sz) [(kX11 hx aLa aPa aGe aFl aTr aBe aLu aLo vSf vSm vCo vSh xs xl 2)] t₀) (va_A [(kX11 hx aLa aPa aGe aFl aTr aBe aLu aLo vSf vSm vCo vSh xs xl xf)] sz)) 0 0 (va_A [(kX11 hx aLa aPa aGe aFl aTr aBe aLu aLo vSf vSm vCo vSh xs xl xf)] sz) := by
  refine Met.ofW (cc := cX11_found) (maxL := 2) (ret := (some .int)) (by decide) rfl ?_
  intro p₀ e₀ s₀ m₀ args below meth c₀ s₁ B hml hv₀
  obtain ⟨rfl, hsz, hP, hK, hD0, hN⟩ := hv₀
  have hx₀ := B.exec
  have hb := B.bytes
  have hr := B.returns
  have hts := atoms_spec (ws := (kW yX11_found cX11_found 2 (some .int))) B.pre
  have hts := fun w h => hts w (List.mem_cons_of_mem _ h)
  have hown : s₀.vm.findClass RX11 = some m₀.cls := findClass_of_methodNamed B.named
  have hlocks := B.notSynchronized
  subst hsz
  have hD := hD0.self (sz := s₀.heap.size)
  generalize hAe : va_A [(kX11 hx aLa aPa aGe aFl aTr aBe aLu aLo vSf vSm vCo vSh xs xl xf)] s₀.heap.size = A at hD ⊢
  have hA : ∀ q : Nat, s₀.heap.size ≤ q → A q := fun q h => by rw [← hAe]; exact Or.inr h
  have hS : va_S A s₀.heap s₀.heap [] := va_S.rf
  have hP : va_P (dC, dI) vwCl [(kX11 hx aLa aPa aGe aFl aTr aBe aLu aLo vSf vSm vCo vSh xs xl xf)] s₀.heap := hP
  have hl := lv_entry ([.ref hx, .int 2]) (n := 2) (Nat.le_of_ble_eq_true rfl)
  rw [lg_entry_eq]
  generalize (lg_sl ([.ref hx, .int 2]) ++ List.replicate (2 - (lg_sl ([.ref hx, .int 2])).length) Slot.unset).toArray = ls at hl ⊢
  have hl : lv_has ls 2 [(0, .ref hx), (1, .int 2)] := hl
  obtain ⟨H, hH⟩ : ∃ z : Heap, z = s₀.heap := ⟨_, rfl⟩
  rw [← hH] at hP
  have hS : va_S A s₀.heap H [] := by rw [hH]; exact hS
  refine k_heap hH ?_
  have hD : va_D A [(kX11 hx aLa aPa aGe aFl aTr aBe aLu aLo vSf vSm vCo vSh xs xl xf)] := hD
  obtain ⟨locs, hlo⟩ : ∃ z : List Loc, z = [] := ⟨_, rfl⟩
  rw [← hlo] at hS ⊢
  clear hlo hH hAe hD0
  refine lv_aload_n hx₀ hb dX11_found_0 rfl (lv_at hl 0 rfl) ?_
  refine lv_iload_n hx₀ hb dX11_found_1 rfl (lv_at hl 1 rfl) ?_
  refine va_put (D := (dC, dI)) (ci := 10) (v := .int 2) (ty := .int) (C := RX11) (T := TX11) (N := 15) hx₀ hb hts inlX11 tyX11 tyX11_ok nmX11 hown hK hP hD hS 0 rfl rfl 14 (by decide) (hts (.fieldLink RX11 269 "BittenStick" "finding" "I") wd_388) (fun _ h9 => h9) rfl (by decide +kernel) rfl rfl (Nat.le_of_ble_eq_true rfl) dX11_found_2 ?_
  clear hP hD hS
  intro H locs hP hD hS
  replace hP := k_w2 (wt := [(kX11 hx aLa aPa aGe aFl aTr aBe aLu aLo vSf vSm vCo vSh xs xl 2)]) hP hD rfl
  replace hD := hP.2
  replace hP := hP.1
  refine lv_bipush (v := (-10)) hx₀ hb dX11_found_5 (by decide +kernel) ?_
  refine lv_iload_n hx₀ hb dX11_found_7 rfl (lv_at hl 1 rfl) ?_
  refine lv_isub hx₀ hb dX11_found_8 ?_
  refine k_topi (v := (-12)) (by decide +kernel) ?_
  obtain ⟨hP9, hD9⟩ := k_c2 (wc := [(kX11 hx aLa aPa aGe aFl aTr aBe aLu aLo vSf vSm vCo vSh xs xl 2)]) hP hD [0] (by decide +kernel) rfl
  exact W.iret (v := (-12)) hx₀ hb hr (fun t₀ ht hW => ⟨⟨(-12), (), rfl, rfl, by rw [ht]; exact hP9, va_K.moved hW.alike hK, hD9⟩, hS.F ht⟩) hS.2.2 dX11_found_9
set_option maxHeartbeats 4000000 in
set_option maxRecDepth 100000 in
theorem j_found3 (l : Launch) (dC : Nat → ClassId) (dI : Nat → Nat → Nat) (cI cJ cQ : ClassId) (sz : Nat) (hx : Nat) (aLa : Nat) (aPa : Nat) (aGe : Nat) (aFl : Nat) (aTr : Nat) (aBe : Nat) (aLu : Nat) (aLo : Nat) (vSf : Nat) (vSm : Nat) (vCo : Nat) (vSh : Nat) (xs : Int32) (xl : Int32) (xf : Int32) : Met l yX11_found (kW yX11_found cX11_found 2 (some .int)) { frames := 0, cells := 0, slots := 0, locals := 0 } (kPre dC dI cI cJ cQ sz [.ref hx, .int 3] [(kX11 hx aLa aPa aGe aFl aTr aBe aLu aLo vSf vSm vCo vSh xs xl xf)]) (va_Qi (fun (r : Int32) (u : Unit) => (r = (-13))) (fun (u : Unit) t₀ => kB dC dI cI cJ cQ (va_A [(kX11 hx aLa aPa aGe aFl aTr aBe aLu aLo vSf vSm vCo vSh xs xl xf)] sz) [(kX11 hx aLa aPa aGe aFl aTr aBe aLu aLo vSf vSm vCo vSh xs xl 3)] t₀) (va_A [(kX11 hx aLa aPa aGe aFl aTr aBe aLu aLo vSf vSm vCo vSh xs xl xf)] sz)) 0 0 (va_A [(kX11 hx aLa aPa aGe aFl aTr aBe aLu aLo vSf vSm vCo vSh xs xl xf)] sz) := by
  refine Met.ofW (cc := cX11_found) (maxL := 2) (ret := (some .int)) (by decide) rfl ?_
  intro p₀ e₀ s₀ m₀ args below meth c₀ s₁ B hml hv₀
  obtain ⟨rfl, hsz, hP, hK, hD0, hN⟩ := hv₀
  have hx₀ := B.exec
  have hb := B.bytes
  have hr := B.returns
  have hts := atoms_spec (ws := (kW yX11_found cX11_found 2 (some .int))) B.pre
  have hts := fun w h => hts w (List.mem_cons_of_mem _ h)
  have hown : s₀.vm.findClass RX11 = some m₀.cls := findClass_of_methodNamed B.named
  have hlocks := B.notSynchronized
  subst hsz
  have hD := hD0.self (sz := s₀.heap.size)
  generalize hAe : va_A [(kX11 hx aLa aPa aGe aFl aTr aBe aLu aLo vSf vSm vCo vSh xs xl xf)] s₀.heap.size = A at hD ⊢
  have hA : ∀ q : Nat, s₀.heap.size ≤ q → A q := fun q h => by rw [← hAe]; exact Or.inr h
  have hS : va_S A s₀.heap s₀.heap [] := va_S.rf
  have hP : va_P (dC, dI) vwCl [(kX11 hx aLa aPa aGe aFl aTr aBe aLu aLo vSf vSm vCo vSh xs xl xf)] s₀.heap := hP
  have hl := lv_entry ([.ref hx, .int 3]) (n := 2) (Nat.le_of_ble_eq_true rfl)
  rw [lg_entry_eq]
  generalize (lg_sl ([.ref hx, .int 3]) ++ List.replicate (2 - (lg_sl ([.ref hx, .int 3])).length) Slot.unset).toArray = ls at hl ⊢
  have hl : lv_has ls 2 [(0, .ref hx), (1, .int 3)] := hl
  obtain ⟨H, hH⟩ : ∃ z : Heap, z = s₀.heap := ⟨_, rfl⟩
  rw [← hH] at hP
  have hS : va_S A s₀.heap H [] := by rw [hH]; exact hS
  refine k_heap hH ?_
  have hD : va_D A [(kX11 hx aLa aPa aGe aFl aTr aBe aLu aLo vSf vSm vCo vSh xs xl xf)] := hD
  obtain ⟨locs, hlo⟩ : ∃ z : List Loc, z = [] := ⟨_, rfl⟩
  rw [← hlo] at hS ⊢
  clear hlo hH hAe hD0
  refine lv_aload_n hx₀ hb dX11_found_0 rfl (lv_at hl 0 rfl) ?_
  refine lv_iload_n hx₀ hb dX11_found_1 rfl (lv_at hl 1 rfl) ?_
  refine va_put (D := (dC, dI)) (ci := 10) (v := .int 3) (ty := .int) (C := RX11) (T := TX11) (N := 15) hx₀ hb hts inlX11 tyX11 tyX11_ok nmX11 hown hK hP hD hS 0 rfl rfl 14 (by decide) (hts (.fieldLink RX11 269 "BittenStick" "finding" "I") wd_388) (fun _ h9 => h9) rfl (by decide +kernel) rfl rfl (Nat.le_of_ble_eq_true rfl) dX11_found_2 ?_
  clear hP hD hS
  intro H locs hP hD hS
  replace hP := k_w2 (wt := [(kX11 hx aLa aPa aGe aFl aTr aBe aLu aLo vSf vSm vCo vSh xs xl 3)]) hP hD rfl
  replace hD := hP.2
  replace hP := hP.1
  refine lv_bipush (v := (-10)) hx₀ hb dX11_found_5 (by decide +kernel) ?_
  refine lv_iload_n hx₀ hb dX11_found_7 rfl (lv_at hl 1 rfl) ?_
  refine lv_isub hx₀ hb dX11_found_8 ?_
  refine k_topi (v := (-13)) (by decide +kernel) ?_
  obtain ⟨hP9, hD9⟩ := k_c2 (wc := [(kX11 hx aLa aPa aGe aFl aTr aBe aLu aLo vSf vSm vCo vSh xs xl 3)]) hP hD [0] (by decide +kernel) rfl
  exact W.iret (v := (-13)) hx₀ hb hr (fun t₀ ht hW => ⟨⟨(-13), (), rfl, rfl, by rw [ht]; exact hP9, va_K.moved hW.alike hK, hD9⟩, hS.F ht⟩) hS.2.2 dX11_found_9
set_option maxHeartbeats 4000000 in
set_option maxRecDepth 100000 in
theorem j_found4 (l : Launch) (dC : Nat → ClassId) (dI : Nat → Nat → Nat) (cI cJ cQ : ClassId) (sz : Nat) (hx : Nat) (aLa : Nat) (aPa : Nat) (aGe : Nat) (aFl : Nat) (aTr : Nat) (aBe : Nat) (aLu : Nat) (aLo : Nat) (vSf : Nat) (vSm : Nat) (vCo : Nat) (vSh : Nat) (xs : Int32) (xl : Int32) (xf : Int32) : Met l yX11_found (kW yX11_found cX11_found 2 (some .int)) { frames := 0, cells := 0, slots := 0, locals := 0 } (kPre dC dI cI cJ cQ sz [.ref hx, .int 4] [(kX11 hx aLa aPa aGe aFl aTr aBe aLu aLo vSf vSm vCo vSh xs xl xf)]) (va_Qi (fun (r : Int32) (u : Unit) => (r = (-14))) (fun (u : Unit) t₀ => kB dC dI cI cJ cQ (va_A [(kX11 hx aLa aPa aGe aFl aTr aBe aLu aLo vSf vSm vCo vSh xs xl xf)] sz) [(kX11 hx aLa aPa aGe aFl aTr aBe aLu aLo vSf vSm vCo vSh xs xl 4)] t₀) (va_A [(kX11 hx aLa aPa aGe aFl aTr aBe aLu aLo vSf vSm vCo vSh xs xl xf)] sz)) 0 0 (va_A [(kX11 hx aLa aPa aGe aFl aTr aBe aLu aLo vSf vSm vCo vSh xs xl xf)] sz) := by
  refine Met.ofW (cc := cX11_found) (maxL := 2) (ret := (some .int)) (by decide) rfl ?_
  intro p₀ e₀ s₀ m₀ args below meth c₀ s₁ B hml hv₀
  obtain ⟨rfl, hsz, hP, hK, hD0, hN⟩ := hv₀
  have hx₀ := B.exec
  have hb := B.bytes
  have hr := B.returns
  have hts := atoms_spec (ws := (kW yX11_found cX11_found 2 (some .int))) B.pre
  have hts := fun w h => hts w (List.mem_cons_of_mem _ h)
  have hown : s₀.vm.findClass RX11 = some m₀.cls := findClass_of_methodNamed B.named
  have hlocks := B.notSynchronized
  subst hsz
  have hD := hD0.self (sz := s₀.heap.size)
  generalize hAe : va_A [(kX11 hx aLa aPa aGe aFl aTr aBe aLu aLo vSf vSm vCo vSh xs xl xf)] s₀.heap.size = A at hD ⊢
  have hA : ∀ q : Nat, s₀.heap.size ≤ q → A q := fun q h => by rw [← hAe]; exact Or.inr h
  have hS : va_S A s₀.heap s₀.heap [] := va_S.rf
  have hP : va_P (dC, dI) vwCl [(kX11 hx aLa aPa aGe aFl aTr aBe aLu aLo vSf vSm vCo vSh xs xl xf)] s₀.heap := hP
  have hl := lv_entry ([.ref hx, .int 4]) (n := 2) (Nat.le_of_ble_eq_true rfl)
  rw [lg_entry_eq]
  generalize (lg_sl ([.ref hx, .int 4]) ++ List.replicate (2 - (lg_sl ([.ref hx, .int 4])).length) Slot.unset).toArray = ls at hl ⊢
  have hl : lv_has ls 2 [(0, .ref hx), (1, .int 4)] := hl
  obtain ⟨H, hH⟩ : ∃ z : Heap, z = s₀.heap := ⟨_, rfl⟩
  rw [← hH] at hP
  have hS : va_S A s₀.heap H [] := by rw [hH]; exact hS
  refine k_heap hH ?_
  have hD : va_D A [(kX11 hx aLa aPa aGe aFl aTr aBe aLu aLo vSf vSm vCo vSh xs xl xf)] := hD
  obtain ⟨locs, hlo⟩ : ∃ z : List Loc, z = [] := ⟨_, rfl⟩
  rw [← hlo] at hS ⊢
  clear hlo hH hAe hD0
  refine lv_aload_n hx₀ hb dX11_found_0 rfl (lv_at hl 0 rfl) ?_
  refine lv_iload_n hx₀ hb dX11_found_1 rfl (lv_at hl 1 rfl) ?_
  refine va_put (D := (dC, dI)) (ci := 10) (v := .int 4) (ty := .int) (C := RX11) (T := TX11) (N := 15) hx₀ hb hts inlX11 tyX11 tyX11_ok nmX11 hown hK hP hD hS 0 rfl rfl 14 (by decide) (hts (.fieldLink RX11 269 "BittenStick" "finding" "I") wd_388) (fun _ h9 => h9) rfl (by decide +kernel) rfl rfl (Nat.le_of_ble_eq_true rfl) dX11_found_2 ?_
  clear hP hD hS
  intro H locs hP hD hS
  replace hP := k_w2 (wt := [(kX11 hx aLa aPa aGe aFl aTr aBe aLu aLo vSf vSm vCo vSh xs xl 4)]) hP hD rfl
  replace hD := hP.2
  replace hP := hP.1
  refine lv_bipush (v := (-10)) hx₀ hb dX11_found_5 (by decide +kernel) ?_
  refine lv_iload_n hx₀ hb dX11_found_7 rfl (lv_at hl 1 rfl) ?_
  refine lv_isub hx₀ hb dX11_found_8 ?_
  refine k_topi (v := (-14)) (by decide +kernel) ?_
  obtain ⟨hP9, hD9⟩ := k_c2 (wc := [(kX11 hx aLa aPa aGe aFl aTr aBe aLu aLo vSf vSm vCo vSh xs xl 4)]) hP hD [0] (by decide +kernel) rfl
  exact W.iret (v := (-14)) hx₀ hb hr (fun t₀ ht hW => ⟨⟨(-14), (), rfl, rfl, by rw [ht]; exact hP9, va_K.moved hW.alike hK, hD9⟩, hS.F ht⟩) hS.2.2 dX11_found_9
set_option maxHeartbeats 4000000 in
set_option maxRecDepth 100000 in
theorem j_found5 (l : Launch) (dC : Nat → ClassId) (dI : Nat → Nat → Nat) (cI cJ cQ : ClassId) (sz : Nat) (hx : Nat) (aLa : Nat) (aPa : Nat) (aGe : Nat) (aFl : Nat) (aTr : Nat) (aBe : Nat) (aLu : Nat) (aLo : Nat) (vSf : Nat) (vSm : Nat) (vCo : Nat) (vSh : Nat) (xs : Int32) (xl : Int32) (xf : Int32) : Met l yX11_found (kW yX11_found cX11_found 2 (some .int)) { frames := 0, cells := 0, slots := 0, locals := 0 } (kPre dC dI cI cJ cQ sz [.ref hx, .int 5] [(kX11 hx aLa aPa aGe aFl aTr aBe aLu aLo vSf vSm vCo vSh xs xl xf)]) (va_Qi (fun (r : Int32) (u : Unit) => (r = (-15))) (fun (u : Unit) t₀ => kB dC dI cI cJ cQ (va_A [(kX11 hx aLa aPa aGe aFl aTr aBe aLu aLo vSf vSm vCo vSh xs xl xf)] sz) [(kX11 hx aLa aPa aGe aFl aTr aBe aLu aLo vSf vSm vCo vSh xs xl 5)] t₀) (va_A [(kX11 hx aLa aPa aGe aFl aTr aBe aLu aLo vSf vSm vCo vSh xs xl xf)] sz)) 0 0 (va_A [(kX11 hx aLa aPa aGe aFl aTr aBe aLu aLo vSf vSm vCo vSh xs xl xf)] sz) := by
  refine Met.ofW (cc := cX11_found) (maxL := 2) (ret := (some .int)) (by decide) rfl ?_
  intro p₀ e₀ s₀ m₀ args below meth c₀ s₁ B hml hv₀
  obtain ⟨rfl, hsz, hP, hK, hD0, hN⟩ := hv₀
  have hx₀ := B.exec
  have hb := B.bytes
  have hr := B.returns
  have hts := atoms_spec (ws := (kW yX11_found cX11_found 2 (some .int))) B.pre
  have hts := fun w h => hts w (List.mem_cons_of_mem _ h)
  have hown : s₀.vm.findClass RX11 = some m₀.cls := findClass_of_methodNamed B.named
  have hlocks := B.notSynchronized
  subst hsz
  have hD := hD0.self (sz := s₀.heap.size)
  generalize hAe : va_A [(kX11 hx aLa aPa aGe aFl aTr aBe aLu aLo vSf vSm vCo vSh xs xl xf)] s₀.heap.size = A at hD ⊢
  have hA : ∀ q : Nat, s₀.heap.size ≤ q → A q := fun q h => by rw [← hAe]; exact Or.inr h
  have hS : va_S A s₀.heap s₀.heap [] := va_S.rf
  have hP : va_P (dC, dI) vwCl [(kX11 hx aLa aPa aGe aFl aTr aBe aLu aLo vSf vSm vCo vSh xs xl xf)] s₀.heap := hP
  have hl := lv_entry ([.ref hx, .int 5]) (n := 2) (Nat.le_of_ble_eq_true rfl)
  rw [lg_entry_eq]
  generalize (lg_sl ([.ref hx, .int 5]) ++ List.replicate (2 - (lg_sl ([.ref hx, .int 5])).length) Slot.unset).toArray = ls at hl ⊢
  have hl : lv_has ls 2 [(0, .ref hx), (1, .int 5)] := hl
  obtain ⟨H, hH⟩ : ∃ z : Heap, z = s₀.heap := ⟨_, rfl⟩
  rw [← hH] at hP
  have hS : va_S A s₀.heap H [] := by rw [hH]; exact hS
  refine k_heap hH ?_
  have hD : va_D A [(kX11 hx aLa aPa aGe aFl aTr aBe aLu aLo vSf vSm vCo vSh xs xl xf)] := hD
  obtain ⟨locs, hlo⟩ : ∃ z : List Loc, z = [] := ⟨_, rfl⟩
  rw [← hlo] at hS ⊢
  clear hlo hH hAe hD0
  refine lv_aload_n hx₀ hb dX11_found_0 rfl (lv_at hl 0 rfl) ?_
  refine lv_iload_n hx₀ hb dX11_found_1 rfl (lv_at hl 1 rfl) ?_
  refine va_put (D := (dC, dI)) (ci := 10) (v := .int 5) (ty := .int) (C := RX11) (T := TX11) (N := 15) hx₀ hb hts inlX11 tyX11 tyX11_ok nmX11 hown hK hP hD hS 0 rfl rfl 14 (by decide) (hts (.fieldLink RX11 269 "BittenStick" "finding" "I") wd_388) (fun _ h9 => h9) rfl (by decide +kernel) rfl rfl (Nat.le_of_ble_eq_true rfl) dX11_found_2 ?_
  clear hP hD hS
  intro H locs hP hD hS
  replace hP := k_w2 (wt := [(kX11 hx aLa aPa aGe aFl aTr aBe aLu aLo vSf vSm vCo vSh xs xl 5)]) hP hD rfl
  replace hD := hP.2
  replace hP := hP.1
  refine lv_bipush (v := (-10)) hx₀ hb dX11_found_5 (by decide +kernel) ?_
  refine lv_iload_n hx₀ hb dX11_found_7 rfl (lv_at hl 1 rfl) ?_
  refine lv_isub hx₀ hb dX11_found_8 ?_
  refine k_topi (v := (-15)) (by decide +kernel) ?_
  obtain ⟨hP9, hD9⟩ := k_c2 (wc := [(kX11 hx aLa aPa aGe aFl aTr aBe aLu aLo vSf vSm vCo vSh xs xl 5)]) hP hD [0] (by decide +kernel) rfl
  exact W.iret (v := (-15)) hx₀ hb hr (fun t₀ ht hW => ⟨⟨(-15), (), rfl, rfl, by rw [ht]; exact hP9, va_K.moved hW.alike hK, hD9⟩, hS.F ht⟩) hS.2.2 dX11_found_9
theorem lf_j_renew_1 (a0 : Int32) (a1 : Nat) (h0 : 0 ≤ a0 ∧ a0 ≤ 60) (h1 : (60 - a0.toInt).toNat = a1) (h2 : 60 ≤ a0) : (60 : Int32) = a0 := by
  first | (first | omega | (have hr0 := Int32.toInt_lt a0; have hs0 := Int32.le_toInt a0; simp only [Int64.toInt_add, Int64.toInt_sub, Int32.toInt_add, Int32.toInt_sub, Int32.toInt_mul, Int64.le_iff_toInt_le, Int64.lt_iff_toInt_lt, Int32.le_iff_toInt_le, Int32.lt_iff_toInt_lt, ← Int32.toInt_inj, ← Int64.toInt_inj, Int32.toInt_toInt64, kc_0, kc_60, true_and, and_true, not_true_eq_false, not_false_eq_true] at * <;> ((first | omega | ((try simp (disch := omega) only [k_bm64] at *); (try simp (disch := omega) only [k_bm] at *); (try simp (disch := omega) only [k_bm] at *); omega) | (simp only [Int.bmod] at *; omega))))) | with_reducible assumption | exact Or.inl rfl | rfl
theorem lf_j_renew_2 (a0 : Int32) (a1 : Nat) (h0 : 0 ≤ a0 ∧ a0 ≤ 60) (h1 : (60 - a0.toInt).toNat = a1) (h2 : ¬ 60 ≤ a0) : 0 ≤ a0.toInt ∧ a0.toInt < 60 := by
  first | (first | omega | (have hr0 := Int32.toInt_lt a0; have hs0 := Int32.le_toInt a0; simp only [Int64.toInt_add, Int64.toInt_sub, Int32.toInt_add, Int32.toInt_sub, Int32.toInt_mul, Int64.le_iff_toInt_le, Int64.lt_iff_toInt_lt, Int32.le_iff_toInt_le, Int32.lt_iff_toInt_lt, ← Int32.toInt_inj, ← Int64.toInt_inj, Int32.toInt_toInt64, kc_0, kc_60, true_and, and_true, not_true_eq_false, not_false_eq_true] at * <;> ((first | omega | ((try simp (disch := omega) only [k_bm64] at *); (try simp (disch := omega) only [k_bm] at *); (try simp (disch := omega) only [k_bm] at *); omega) | (simp only [Int.bmod] at *; omega))))) | with_reducible assumption | exact Or.inl rfl | rfl
theorem lf_j_renew_3 (a0 : Int32) (a1 : Nat) (h0 : 0 ≤ a0 ∧ a0 ≤ 60) (h1 : (60 - a0.toInt).toNat = a1) (h2 : ¬ 60 ≤ a0) : 0 ≤ (a0 + 1) ∧ (a0 + 1) ≤ 60 := by
  first | (first | omega | (have hr0 := Int32.toInt_lt a0; have hs0 := Int32.le_toInt a0; simp only [Int64.toInt_add, Int64.toInt_sub, Int32.toInt_add, Int32.toInt_sub, Int32.toInt_mul, Int64.le_iff_toInt_le, Int64.lt_iff_toInt_lt, Int32.le_iff_toInt_le, Int32.lt_iff_toInt_lt, ← Int32.toInt_inj, ← Int64.toInt_inj, Int32.toInt_toInt64, kc_0, kc_1, kc_60, true_and, and_true, not_true_eq_false, not_false_eq_true] at * <;> ((first | omega | ((try simp (disch := omega) only [k_bm64] at *); (try simp (disch := omega) only [k_bm] at *); (try simp (disch := omega) only [k_bm] at *); omega) | (simp only [Int.bmod] at *; omega))))) | with_reducible assumption | exact Or.inl rfl | rfl
theorem lf_j_renew_4 (a0 : Int32) (a1 : Nat) (h0 : 0 ≤ a0 ∧ a0 ≤ 60) (h1 : (60 - a0.toInt).toNat = a1) (h2 : ¬ 60 ≤ a0) : 0 ≤ a0 ∧ a0.toInt ≤ 1000 := by
  first | (first | omega | (have hr0 := Int32.toInt_lt a0; have hs0 := Int32.le_toInt a0; simp only [Int64.toInt_add, Int64.toInt_sub, Int32.toInt_add, Int32.toInt_sub, Int32.toInt_mul, Int64.le_iff_toInt_le, Int64.lt_iff_toInt_lt, Int32.le_iff_toInt_le, Int32.lt_iff_toInt_lt, ← Int32.toInt_inj, ← Int64.toInt_inj, Int32.toInt_toInt64, kc_0, kc_60, kc_1000, true_and, and_true, not_true_eq_false, not_false_eq_true] at * <;> ((first | omega | ((try simp (disch := omega) only [k_bm64] at *); (try simp (disch := omega) only [k_bm] at *); (try simp (disch := omega) only [k_bm] at *); omega) | (simp only [Int.bmod] at *; omega))))) | with_reducible assumption | exact Or.inl rfl | rfl
theorem lf_j_renew_5 (a0 : Int32) (a1 : Nat) (h0 : 0 ≤ a0 ∧ a0 ≤ 60) (h1 : (60 - a0.toInt).toNat = a1) (h2 : ¬ 60 ≤ a0) : (60 - (a0 + 1).toInt).toNat < a1 := by
  first | (first | omega | (have hr0 := Int32.toInt_lt a0; have hs0 := Int32.le_toInt a0; simp only [Int64.toInt_add, Int64.toInt_sub, Int32.toInt_add, Int32.toInt_sub, Int32.toInt_mul, Int64.le_iff_toInt_le, Int64.lt_iff_toInt_lt, Int32.le_iff_toInt_le, Int32.lt_iff_toInt_lt, ← Int32.toInt_inj, ← Int64.toInt_inj, Int32.toInt_toInt64, kc_0, kc_1, kc_60, true_and, and_true, not_true_eq_false, not_false_eq_true] at * <;> ((first | omega | ((try simp (disch := omega) only [k_bm64] at *); (try simp (disch := omega) only [k_bm] at *); (try simp (disch := omega) only [k_bm] at *); omega) | (simp only [Int.bmod] at *; omega))))) | with_reducible assumption | exact Or.inl rfl | rfl
theorem lf_j_renew_6 (a0 : Int32) (h0 : 0 ≤ a0 ∧ a0 ≤ 60) (h1 : ¬ (0 : Int32) < a0) : (0 : Int32) = a0 := by
  first | (first | omega | (have hr0 := Int32.toInt_lt a0; have hs0 := Int32.le_toInt a0; simp only [Int64.toInt_add, Int64.toInt_sub, Int32.toInt_add, Int32.toInt_sub, Int32.toInt_mul, Int64.le_iff_toInt_le, Int64.lt_iff_toInt_lt, Int32.le_iff_toInt_le, Int32.lt_iff_toInt_lt, ← Int32.toInt_inj, ← Int64.toInt_inj, Int32.toInt_toInt64, kc_0, kc_60, true_and, and_true, not_true_eq_false, not_false_eq_true] at * <;> ((first | omega | ((try simp (disch := omega) only [k_bm64] at *); (try simp (disch := omega) only [k_bm] at *); (try simp (disch := omega) only [k_bm] at *); omega) | (simp only [Int.bmod] at *; omega))))) | with_reducible assumption | exact Or.inl rfl | rfl
set_option maxHeartbeats 4000000 in
set_option maxRecDepth 100000 in
theorem j_renew (l : Launch) (dC : Nat → ClassId) (dI : Nat → Nat → Nat) (cI cJ cQ : ClassId) (sz : Nat) (q1 : Nat) (fm : Int32) (nn : Int32) (qi : Nat) (lo : Int32) (fo : Int32) (si : Int32) (gq : Nat → Int32) (hh0 : 0 ≤ nn ∧ nn ≤ 60) : Met l yX8_renew (kW yX8_renew cX8_renew 4 none) { frames := 1, cells := 0, slots := 0, locals := 21 } (kPre dC dI cI cJ cQ sz [.ref q1, .int fm, .int nn] [(kX8 q1 qi lo fo si), (kAI qi cI 60 gq)]) (va_Qv (fun (u : kS) => ((u.1 0) = nn) ∧ (k_zr 60 (u.2.1 0))) (fun (u : kS) t₀ => kB dC dI cI cJ cQ (va_A [(kX8 q1 qi lo fo si), (kAI qi cI 60 gq)] sz) [(kX8 q1 qi 0 fm (u.1 0)), (kAI qi cI 60 (u.2.1 0))] t₀) (va_A [(kX8 q1 qi lo fo si), (kAI qi cI 60 gq)] sz)) 0 0 (va_A [(kX8 q1 qi lo fo si), (kAI qi cI 60 gq)] sz) := by
  refine Met.ofW (cc := cX8_renew) (maxL := 4) (ret := none) (by decide) rfl ?_
  intro p₀ e₀ s₀ m₀ args below meth c₀ s₁ B hml hv₀
  obtain ⟨rfl, hsz, hP, hK, hD0, hN⟩ := hv₀
  have hx₀ := B.exec
  have hb := B.bytes
  have hr := B.returns
  have hts := atoms_spec (ws := (kW yX8_renew cX8_renew 4 none)) B.pre
  have hts := fun w h => hts w (List.mem_cons_of_mem _ h)
  have hown : s₀.vm.findClass RX8 = some m₀.cls := findClass_of_methodNamed B.named
  have hlocks := B.notSynchronized
  subst hsz
  have hD := hD0.self (sz := s₀.heap.size)
  generalize hAe : va_A [(kX8 q1 qi lo fo si), (kAI qi cI 60 gq)] s₀.heap.size = A at hD ⊢
  have hA : ∀ q : Nat, s₀.heap.size ≤ q → A q := fun q h => by rw [← hAe]; exact Or.inr h
  have hS : va_S A s₀.heap s₀.heap [] := va_S.rf
  have hP : va_P (dC, dI) vwCl [(kX8 q1 qi lo fo si), (kAI qi cI 60 gq)] s₀.heap := hP
  have hl := lv_entry ([.ref q1, .int fm, .int nn]) (n := 4) (Nat.le_of_ble_eq_true rfl)
  rw [lg_entry_eq]
  generalize (lg_sl ([.ref q1, .int fm, .int nn]) ++ List.replicate (4 - (lg_sl ([.ref q1, .int fm, .int nn])).length) Slot.unset).toArray = ls at hl ⊢
  have hl : lv_has ls 4 [(0, .ref q1), (1, .int fm), (2, .int nn)] := hl
  obtain ⟨H, hH⟩ : ∃ z : Heap, z = s₀.heap := ⟨_, rfl⟩
  rw [← hH] at hP
  have hS : va_S A s₀.heap H [] := by rw [hH]; exact hS
  refine k_heap hH ?_
  have hD : va_D A [(kX8 q1 qi lo fo si), (kAI qi cI 60 gq)] := hD
  obtain ⟨locs, hlo⟩ : ∃ z : List Loc, z = [] := ⟨_, rfl⟩
  rw [← hlo] at hS ⊢
  clear hlo hH hAe hD0
  refine lv_aload_n hx₀ hb dX8_renew_0 rfl (lv_at hl 0 rfl) ?_
  refine lv_iconst (v := 0) hx₀ hb dX8_renew_1 (by decide +kernel) ?_
  refine va_put (D := (dC, dI)) (ci := 8) (v := .int 0) (ty := .boolean) (C := RX8) (T := TX8) (N := 4) hx₀ hb hts inlX8 tyX8 tyX8_ok nmX8 hown hK hP hD hS 0 rfl rfl 1 (by decide) (hts (.fieldLink RX8 15 "BittenStick$Sheet" "isLost" "Z") wd_110) (fun _ h9 => h9) rfl (by decide +kernel) (by decide +kernel) (by decide +kernel) (Nat.le_of_ble_eq_true rfl) dX8_renew_2 ?_
  clear hP hD hS
  intro H locs hP hD hS
  replace hP := k_w2 (wt := [(kX8 q1 qi 0 fo si), (kAI qi cI 60 gq)]) hP hD rfl
  replace hD := hP.2
  replace hP := hP.1
  refine lv_aload_n hx₀ hb dX8_renew_5 rfl (lv_at hl 0 rfl) ?_
  refine lv_iload_n hx₀ hb dX8_renew_6 rfl (lv_at hl 1 rfl) ?_
  refine va_put (D := (dC, dI)) (ci := 8) (v := .int fm) (ty := .int) (C := RX8) (T := TX8) (N := 4) hx₀ hb hts inlX8 tyX8 tyX8_ok nmX8 hown hK hP hD hS 0 rfl rfl 2 (by decide) (hts (.fieldLink RX8 19 "BittenStick$Sheet" "form" "I") wd_869) (fun _ h9 => h9) rfl (by decide +kernel) rfl rfl (Nat.le_of_ble_eq_true rfl) dX8_renew_7 ?_
  clear hP hD hS
  intro H locs hP hD hS
  replace hP := k_w2 (wt := [(kX8 q1 qi 0 fm si), (kAI qi cI 60 gq)]) hP hD rfl
  replace hD := hP.2
  replace hP := hP.1
  refine lv_aload_n hx₀ hb dX8_renew_10 rfl (lv_at hl 0 rfl) ?_
  refine lv_iconst (v := 0) hx₀ hb dX8_renew_11 (by decide +kernel) ?_
  refine lv_iload_n hx₀ hb dX8_renew_12 rfl (lv_at hl 2 rfl) ?_
  refine lv_bipush (v := 60) hx₀ hb dX8_renew_13 (by decide +kernel) ?_
  refine va_mmin hx₀ hb (by rw [hml]; exact hl.1.symm) hown (hts (.methodLink RX8 23 Lib.Math.min.name) wd_870) (hts (.static Lib.Math.min.name) wd_219) (hts (.initialized "java/lang/Math") wd_63) (hts (.code Lib.Math.min.name Lib.Math.min.code 2 (some .int)) wd_220) (by decide) (Nat.le_of_ble_eq_true rfl) (by decide) (by decide) dX8_renew_15 ?_
  refine k_topi (v := nn) (if_neg (fun c9 => ((show ¬ ((60 : Int32) < nn) from (Int32.not_lt.mpr hh0.2)) c9).elim)) ?_
  refine va_mmax hx₀ hb (by rw [hml]; exact hl.1.symm) hown (hts (.methodLink RX8 29 Lib.Math.max.name) wd_871) (hts (.static Lib.Math.max.name) wd_62) (hts (.initialized "java/lang/Math") wd_63) (hts (.code Lib.Math.max.name Lib.Math.max.code 2 (some .int)) wd_64) (by decide) (Nat.le_of_ble_eq_true rfl) (by decide) (by decide) dX8_renew_18 ?_
  by_cases c_1 : (0 : Int32) < nn
  · refine k_topi (v := nn) (if_pos c_1) ?_
    refine va_put (D := (dC, dI)) (ci := 8) (v := .int nn) (ty := .int) (C := RX8) (T := TX8) (N := 4) hx₀ hb hts inlX8 tyX8 tyX8_ok nmX8 hown hK hP hD hS 0 rfl rfl 3 (by decide) (hts (.fieldLink RX8 32 "BittenStick$Sheet" "size" "I") wd_393) (fun _ h9 => h9) rfl (by decide +kernel) rfl rfl (Nat.le_of_ble_eq_true rfl) dX8_renew_21 ?_
    clear hP hD hS
    intro H locs hP hD hS
    replace hP := k_w2 (wt := [(kX8 q1 qi 0 fm nn), (kAI qi cI 60 gq)]) hP hD rfl
    replace hD := hP.2
    replace hP := hP.1
    refine lv_iconst (v := 0) hx₀ hb dX8_renew_24 (by decide +kernel) ?_
    refine lv_istore_n (lv' := [(3, .int 0), (0, .ref q1), (1, .int fm), (2, .int nn)]) hx₀ hb dX8_renew_25 rfl hl (by decide) rfl (fun ls hl => ?_)
    refine (?keyz2 : ∀ (jz2 : Nat) (iz2 : Int32) (qgz2 : Nat → Int32) (H : Heap) (locs : List Loc) (ls : Array Slot), (0 ≤ iz2 ∧ iz2 ≤ 60) → (k_zr iz2 qgz2) → ((60 - iz2.toInt).toNat = jz2) → va_P (dC, dI) vwCl [(kX8 q1 qi 0 fm nn), (kAI qi cI 60 qgz2)] H → va_D A [(kX8 q1 qi 0 fm nn), (kAI qi cI 60 qgz2)] → va_S A s₀.heap H locs → lv_has ls 4 [(3, .int iz2), (0, .ref q1), (1, .int fm), (2, .int nn)] → W p₀ l e₀ _ s₀ m₀ _ below meth c₀ H locs _ _ _ (F0 m₀ 26 ls [])) _ (0 : Int32) _ H locs ls (show 0 ≤ (0 : Int32) ∧ (0 : Int32) ≤ 60 from ⟨(by decide), (by decide)⟩) (k_zr_0) rfl hP hD hS hl
    clear hP hD hS hl
    intro jz2
    induction jz2 using Nat.strongRecOn with
    | ind jz2 ihz2 =>
      intro iz2 qgz2 H locs ls hiz2_0 hiz2_1 hjz2 hP hD hS hl
      refine lv_iload_n hx₀ hb dX8_renew_26 rfl (lv_at hl 0 rfl) ?_
      refine lv_bipush (v := 60) hx₀ hb dX8_renew_27 (by decide +kernel) ?_
      refine lv_icmp_ge (tgt := 45) hx₀ hb dX8_renew_29 (by decide) (fun c_3 => ?_) (fun c_3 => ?_)
      · obtain ⟨hP9, hD9⟩ := k_c2 (wc := [(kX8 q1 qi 0 fm nn), (kAI qi cI 60 qgz2)]) hP hD [0, 1] (by decide +kernel) rfl
        exact W.vret hx₀ hb hr (fun t₀ ht hW => ⟨⟨(k_fn [nn], k_fa [qgz2], k_fl [], k_fL [], k_fp []), rfl, ⟨(rfl), (by rw [show (60 : Int32) = iz2 from lf_j_renew_1 iz2 jz2 hiz2_0 hjz2 c_3]; exact hiz2_1)⟩, by rw [ht]; exact hP9, va_K.moved hW.alike hK, hD9⟩, hS.F ht⟩) hS.2.2 dX8_renew_45
      · refine lv_aload_n hx₀ hb dX8_renew_32 rfl (lv_at hl 1 rfl) ?_
        refine va_get (D := (dC, dI)) (ci := 8) (v := .ref qi) (C := RX8) (T := TX8) (N := 4) hx₀ hb hts inlX8 hown hK hP 0 rfl rfl 0 (by decide) (hts (.fieldLink RX8 9 "BittenStick$Sheet" "items" "[I") wd_109) (fun _ h9 => h9) rfl dX8_renew_33 ?_
        refine lv_iload_n hx₀ hb dX8_renew_36 rfl (lv_at hl 0 rfl) ?_
        refine lv_iconst (v := 0) hx₀ hb dX8_renew_37 (by decide +kernel) ?_
        refine va_iast hx₀ hb hK hP hD hS 1 0 rfl rfl (vp_in_iff.mpr (lf_j_renew_2 iz2 jz2 hiz2_0 hjz2 c_3)) dX8_renew_38 ?_
        clear hP hD hS
        intro H locs hP hD hS
        replace hP := k_w2 (wt := [(kX8 q1 qi 0 fm nn), (kAI qi cI 60 (upd qgz2 iz2.toNatClampNeg 0))]) hP hD rfl
        replace hD := hP.2
        replace hP := hP.1
        refine lv_iinc (v := iz2 + 1) (lv' := [(3, .int (iz2 + 1)), (0, .ref q1), (1, .int fm), (2, .int nn)]) hx₀ hb dX8_renew_39 hl (k := 0) rfl rfl (by decide) rfl (fun ls hl => ?_)
        refine lv_goto (tgt := 26) hx₀ hb dX8_renew_42 (by decide) ?_
        exact ihz2 _ (lf_j_renew_5 iz2 jz2 hiz2_0 hjz2 c_3) (iz2 + 1) (upd qgz2 iz2.toNatClampNeg 0) _ _ _ (lf_j_renew_3 iz2 jz2 hiz2_0 hjz2 c_3) (k_zr_s (lf_j_renew_4 iz2 jz2 hiz2_0 hjz2 c_3) hiz2_1) rfl (hP.sub [0, 1] rfl) (hD.sub [0, 1] (by decide +kernel) rfl) hS (lv_sub hl [0, 1, 2, 3] rfl)
  refine k_topi (v := 0) (if_neg c_1) ?_
  refine va_put (D := (dC, dI)) (ci := 8) (v := .int 0) (ty := .int) (C := RX8) (T := TX8) (N := 4) hx₀ hb hts inlX8 tyX8 tyX8_ok nmX8 hown hK hP hD hS 0 rfl rfl 3 (by decide) (hts (.fieldLink RX8 32 "BittenStick$Sheet" "size" "I") wd_393) (fun _ h9 => h9) rfl (by decide +kernel) rfl rfl (Nat.le_of_ble_eq_true rfl) dX8_renew_21 ?_
  clear hP hD hS
  intro H locs hP hD hS
  replace hP := k_w2 (wt := [(kX8 q1 qi 0 fm 0), (kAI qi cI 60 gq)]) hP hD rfl
  replace hD := hP.2
  replace hP := hP.1
  refine lv_iconst (v := 0) hx₀ hb dX8_renew_24 (by decide +kernel) ?_
  refine lv_istore_n (lv' := [(3, .int 0), (0, .ref q1), (1, .int fm), (2, .int nn)]) hx₀ hb dX8_renew_25 rfl hl (by decide) rfl (fun ls hl => ?_)
  refine (?keyz4 : ∀ (jz4 : Nat) (iz4 : Int32) (qgz4 : Nat → Int32) (H : Heap) (locs : List Loc) (ls : Array Slot), (0 ≤ iz4 ∧ iz4 ≤ 60) → (k_zr iz4 qgz4) → ((60 - iz4.toInt).toNat = jz4) → va_P (dC, dI) vwCl [(kX8 q1 qi 0 fm 0), (kAI qi cI 60 qgz4)] H → va_D A [(kX8 q1 qi 0 fm 0), (kAI qi cI 60 qgz4)] → va_S A s₀.heap H locs → lv_has ls 4 [(3, .int iz4), (0, .ref q1), (1, .int fm), (2, .int nn)] → W p₀ l e₀ _ s₀ m₀ _ below meth c₀ H locs _ _ _ (F0 m₀ 26 ls [])) _ (0 : Int32) _ H locs ls (show 0 ≤ (0 : Int32) ∧ (0 : Int32) ≤ 60 from ⟨(by decide), (by decide)⟩) (k_zr_0) rfl hP hD hS hl
  clear hP hD hS hl
  intro jz4
  induction jz4 using Nat.strongRecOn with
  | ind jz4 ihz4 =>
    intro iz4 qgz4 H locs ls hiz4_0 hiz4_1 hjz4 hP hD hS hl
    refine lv_iload_n hx₀ hb dX8_renew_26 rfl (lv_at hl 0 rfl) ?_
    refine lv_bipush (v := 60) hx₀ hb dX8_renew_27 (by decide +kernel) ?_
    refine lv_icmp_ge (tgt := 45) hx₀ hb dX8_renew_29 (by decide) (fun c_5 => ?_) (fun c_5 => ?_)
    · obtain ⟨hP9, hD9⟩ := k_c2 (wc := [(kX8 q1 qi 0 fm 0), (kAI qi cI 60 qgz4)]) hP hD [0, 1] (by decide +kernel) rfl
      exact W.vret hx₀ hb hr (fun t₀ ht hW => ⟨⟨(k_fn [(0 : Int32)], k_fa [qgz4], k_fl [], k_fL [], k_fp []), rfl, ⟨(lf_j_renew_6 nn hh0 c_1), (by rw [show (60 : Int32) = iz4 from lf_j_renew_1 iz4 jz4 hiz4_0 hjz4 c_5]; exact hiz4_1)⟩, by rw [ht]; exact hP9, va_K.moved hW.alike hK, hD9⟩, hS.F ht⟩) hS.2.2 dX8_renew_45
    · refine lv_aload_n hx₀ hb dX8_renew_32 rfl (lv_at hl 1 rfl) ?_
      refine va_get (D := (dC, dI)) (ci := 8) (v := .ref qi) (C := RX8) (T := TX8) (N := 4) hx₀ hb hts inlX8 hown hK hP 0 rfl rfl 0 (by decide) (hts (.fieldLink RX8 9 "BittenStick$Sheet" "items" "[I") wd_109) (fun _ h9 => h9) rfl dX8_renew_33 ?_
      refine lv_iload_n hx₀ hb dX8_renew_36 rfl (lv_at hl 0 rfl) ?_
      refine lv_iconst (v := 0) hx₀ hb dX8_renew_37 (by decide +kernel) ?_
      refine va_iast hx₀ hb hK hP hD hS 1 0 rfl rfl (vp_in_iff.mpr (lf_j_renew_2 iz4 jz4 hiz4_0 hjz4 c_5)) dX8_renew_38 ?_
      clear hP hD hS
      intro H locs hP hD hS
      replace hP := k_w2 (wt := [(kX8 q1 qi 0 fm 0), (kAI qi cI 60 (upd qgz4 iz4.toNatClampNeg 0))]) hP hD rfl
      replace hD := hP.2
      replace hP := hP.1
      refine lv_iinc (v := iz4 + 1) (lv' := [(3, .int (iz4 + 1)), (0, .ref q1), (1, .int fm), (2, .int nn)]) hx₀ hb dX8_renew_39 hl (k := 0) rfl rfl (by decide) rfl (fun ls hl => ?_)
      refine lv_goto (tgt := 26) hx₀ hb dX8_renew_42 (by decide) ?_
      exact ihz4 _ (lf_j_renew_5 iz4 jz4 hiz4_0 hjz4 c_5) (iz4 + 1) (upd qgz4 iz4.toNatClampNeg 0) _ _ _ (lf_j_renew_3 iz4 jz4 hiz4_0 hjz4 c_5) (k_zr_s (lf_j_renew_4 iz4 jz4 hiz4_0 hjz4 c_5) hiz4_1) rfl (hP.sub [0, 1] rfl) (hD.sub [0, 1] (by decide +kernel) rfl) hS (lv_sub hl [0, 1, 2, 3] rfl)
set_option maxHeartbeats 4000000 in
set_option maxRecDepth 100000 in
theorem j_hasItems (l : Launch) (dC : Nat → ClassId) (dI : Nat → Nat → Nat) (cI cJ cQ : ClassId) (sz : Nat) (q1 : Nat) (f1 : Int32) (nn : Int32) (qi : Nat) (lo : Int32) (fo : Int32) (si : Int32) (hh0 : 0 ≤ si ∧ si ≤ 60) : Met l yX8_hasItems (kW yX8_hasItems cX8_hasItems 3 (some .boolean)) { frames := 0, cells := 0, slots := 0, locals := 0 } (kPre dC dI cI cJ cQ sz [.ref q1, .int f1, .int nn] [(kX8 q1 qi lo fo si)]) (va_Qi (fun (r : Int32) (u : Unit) => (r = if 0 ≤ f1 ∧ 0 ≤ nn ∧ nn ≤ si ∧ f1 ≤ si - nn then 1 else 0)) (fun (u : Unit) t₀ => kB dC dI cI cJ cQ (va_A [(kX8 q1 qi lo fo si)] sz) [(kX8 q1 qi lo fo si)] t₀) (va_A [(kX8 q1 qi lo fo si)] sz)) 0 0 (va_A [(kX8 q1 qi lo fo si)] sz) := by
  refine Met.ofW (cc := cX8_hasItems) (maxL := 3) (ret := (some .boolean)) (by decide) rfl ?_
  intro p₀ e₀ s₀ m₀ args below meth c₀ s₁ B hml hv₀
  obtain ⟨rfl, hsz, hP, hK, hD0, hN⟩ := hv₀
  have hx₀ := B.exec
  have hb := B.bytes
  have hr := B.returns
  have hts := atoms_spec (ws := (kW yX8_hasItems cX8_hasItems 3 (some .boolean))) B.pre
  have hts := fun w h => hts w (List.mem_cons_of_mem _ h)
  have hown : s₀.vm.findClass RX8 = some m₀.cls := findClass_of_methodNamed B.named
  have hlocks := B.notSynchronized
  subst hsz
  have hD := hD0.self (sz := s₀.heap.size)
  generalize hAe : va_A [(kX8 q1 qi lo fo si)] s₀.heap.size = A at hD ⊢
  have hA : ∀ q : Nat, s₀.heap.size ≤ q → A q := fun q h => by rw [← hAe]; exact Or.inr h
  have hS : va_S A s₀.heap s₀.heap [] := va_S.rf
  have hP : va_P (dC, dI) vwCl [(kX8 q1 qi lo fo si)] s₀.heap := hP
  have hl := lv_entry ([.ref q1, .int f1, .int nn]) (n := 3) (Nat.le_of_ble_eq_true rfl)
  rw [lg_entry_eq]
  generalize (lg_sl ([.ref q1, .int f1, .int nn]) ++ List.replicate (3 - (lg_sl ([.ref q1, .int f1, .int nn])).length) Slot.unset).toArray = ls at hl ⊢
  have hl : lv_has ls 3 [(0, .ref q1), (1, .int f1), (2, .int nn)] := hl
  obtain ⟨H, hH⟩ : ∃ z : Heap, z = s₀.heap := ⟨_, rfl⟩
  rw [← hH] at hP
  have hS : va_S A s₀.heap H [] := by rw [hH]; exact hS
  refine k_heap hH ?_
  have hD : va_D A [(kX8 q1 qi lo fo si)] := hD
  obtain ⟨locs, hlo⟩ : ∃ z : List Loc, z = [] := ⟨_, rfl⟩
  rw [← hlo] at hS ⊢
  clear hlo hH hAe hD0
  refine lv_iload_n hx₀ hb dX8_hasItems_0 rfl (lv_at hl 1 rfl) ?_
  refine lv_if_lt (tgt := 30) hx₀ hb dX8_hasItems_1 (by decide) (fun c_1 => ?_) (fun c_1 => ?_)
  · refine lv_iconst (v := 0) hx₀ hb dX8_hasItems_30 (by decide +kernel) ?_
    obtain ⟨hP9, hD9⟩ := k_c2 (wc := [(kX8 q1 qi lo fo si)]) hP hD [0] (by decide +kernel) rfl
    exact W.zret (v := 0) hx₀ hb hr (by decide +kernel) (fun t₀ ht hW => ⟨⟨0, (), rfl, (show (0 : Int32) = if 0 ≤ f1 ∧ 0 ≤ nn ∧ nn ≤ si ∧ f1 ≤ si - nn then 1 else 0 from (if_neg (show ¬ (0 ≤ f1 ∧ 0 ≤ nn ∧ nn ≤ si ∧ f1 ≤ si - nn) from (fun z => (Int32.not_le.mpr c_1) z.1))).symm), by rw [ht]; exact hP9, va_K.moved hW.alike hK, hD9⟩, hS.F ht⟩) hS.2.2 dX8_hasItems_31
  · refine lv_iload_n hx₀ hb dX8_hasItems_4 rfl (lv_at hl 2 rfl) ?_
    refine lv_if_lt (tgt := 30) hx₀ hb dX8_hasItems_5 (by decide) (fun c_2 => ?_) (fun c_2 => ?_)
    · refine lv_iconst (v := 0) hx₀ hb dX8_hasItems_30 (by decide +kernel) ?_
      obtain ⟨hP9, hD9⟩ := k_c2 (wc := [(kX8 q1 qi lo fo si)]) hP hD [0] (by decide +kernel) rfl
      exact W.zret (v := 0) hx₀ hb hr (by decide +kernel) (fun t₀ ht hW => ⟨⟨0, (), rfl, (show (0 : Int32) = if 0 ≤ f1 ∧ 0 ≤ nn ∧ nn ≤ si ∧ f1 ≤ si - nn then 1 else 0 from (if_neg (show ¬ (0 ≤ f1 ∧ 0 ≤ nn ∧ nn ≤ si ∧ f1 ≤ si - nn) from (fun z => (Int32.not_le.mpr c_2) z.2.1))).symm), by rw [ht]; exact hP9, va_K.moved hW.alike hK, hD9⟩, hS.F ht⟩) hS.2.2 dX8_hasItems_31
    · refine lv_iload_n hx₀ hb dX8_hasItems_8 rfl (lv_at hl 2 rfl) ?_
      refine lv_aload_n hx₀ hb dX8_hasItems_9 rfl (lv_at hl 0 rfl) ?_
      refine va_get (D := (dC, dI)) (ci := 8) (v := .int si) (C := RX8) (T := TX8) (N := 4) hx₀ hb hts inlX8 hown hK hP 0 rfl rfl 3 (by decide) (hts (.fieldLink RX8 32 "BittenStick$Sheet" "size" "I") wd_393) (fun _ h9 => h9) rfl dX8_hasItems_10 ?_
      refine lv_icmp_gt (tgt := 30) hx₀ hb dX8_hasItems_13 (by decide) (fun c_3 => ?_) (fun c_3 => ?_)
      · refine lv_iconst (v := 0) hx₀ hb dX8_hasItems_30 (by decide +kernel) ?_
        obtain ⟨hP9, hD9⟩ := k_c2 (wc := [(kX8 q1 qi lo fo si)]) hP hD [0] (by decide +kernel) rfl
        exact W.zret (v := 0) hx₀ hb hr (by decide +kernel) (fun t₀ ht hW => ⟨⟨0, (), rfl, (show (0 : Int32) = if 0 ≤ f1 ∧ 0 ≤ nn ∧ nn ≤ si ∧ f1 ≤ si - nn then 1 else 0 from (if_neg (show ¬ (0 ≤ f1 ∧ 0 ≤ nn ∧ nn ≤ si ∧ f1 ≤ si - nn) from (fun z => (Int32.not_le.mpr c_3) z.2.2.1))).symm), by rw [ht]; exact hP9, va_K.moved hW.alike hK, hD9⟩, hS.F ht⟩) hS.2.2 dX8_hasItems_31
      · refine lv_iload_n hx₀ hb dX8_hasItems_16 rfl (lv_at hl 1 rfl) ?_
        refine lv_aload_n hx₀ hb dX8_hasItems_17 rfl (lv_at hl 0 rfl) ?_
        refine va_get (D := (dC, dI)) (ci := 8) (v := .int si) (C := RX8) (T := TX8) (N := 4) hx₀ hb hts inlX8 hown hK hP 0 rfl rfl 3 (by decide) (hts (.fieldLink RX8 32 "BittenStick$Sheet" "size" "I") wd_393) (fun _ h9 => h9) rfl dX8_hasItems_18 ?_
        refine lv_iload_n hx₀ hb dX8_hasItems_21 rfl (lv_at hl 2 rfl) ?_
        refine lv_isub hx₀ hb dX8_hasItems_22 ?_
        refine lv_icmp_gt (tgt := 30) hx₀ hb dX8_hasItems_23 (by decide) (fun c_4 => ?_) (fun c_4 => ?_)
        · refine lv_iconst (v := 0) hx₀ hb dX8_hasItems_30 (by decide +kernel) ?_
          obtain ⟨hP9, hD9⟩ := k_c2 (wc := [(kX8 q1 qi lo fo si)]) hP hD [0] (by decide +kernel) rfl
          exact W.zret (v := 0) hx₀ hb hr (by decide +kernel) (fun t₀ ht hW => ⟨⟨0, (), rfl, (show (0 : Int32) = if 0 ≤ f1 ∧ 0 ≤ nn ∧ nn ≤ si ∧ f1 ≤ si - nn then 1 else 0 from (if_neg (show ¬ (0 ≤ f1 ∧ 0 ≤ nn ∧ nn ≤ si ∧ f1 ≤ si - nn) from (fun z => (Int32.not_le.mpr c_4) z.2.2.2))).symm), by rw [ht]; exact hP9, va_K.moved hW.alike hK, hD9⟩, hS.F ht⟩) hS.2.2 dX8_hasItems_31
        · refine lv_iconst (v := 1) hx₀ hb dX8_hasItems_26 (by decide +kernel) ?_
          refine lv_goto (tgt := 31) hx₀ hb dX8_hasItems_27 (by decide) ?_
          obtain ⟨hP9, hD9⟩ := k_c2 (wc := [(kX8 q1 qi lo fo si)]) hP hD [0] (by decide +kernel) rfl
          exact W.zret (v := 1) hx₀ hb hr (by decide +kernel) (fun t₀ ht hW => ⟨⟨1, (), rfl, (show (1 : Int32) = if 0 ≤ f1 ∧ 0 ≤ nn ∧ nn ≤ si ∧ f1 ≤ si - nn then 1 else 0 from (if_pos (show 0 ≤ f1 ∧ 0 ≤ nn ∧ nn ≤ si ∧ f1 ≤ si - nn from ⟨(Int32.not_lt.mp c_1), (Int32.not_lt.mp c_2), (Int32.not_lt.mp c_3), (Int32.not_lt.mp c_4)⟩)).symm), by rw [ht]; exact hP9, va_K.moved hW.alike hK, hD9⟩, hS.F ht⟩) hS.2.2 dX8_hasItems_31
theorem lf_j_item_1 (a0 : Int32) (a1 : Int32) (h0 : 0 ≤ a0 ∧ a0 ≤ 60) (h1 : ¬ a1 < 0) (h2 : ¬ a0 ≤ a1) : 0 ≤ a1.toInt ∧ a1.toInt < 60 := by
  first | (first | omega | (have hr0 := Int32.toInt_lt a0; have hs0 := Int32.le_toInt a0; have hr1 := Int32.toInt_lt a1; have hs1 := Int32.le_toInt a1; simp only [Int64.toInt_add, Int64.toInt_sub, Int32.toInt_add, Int32.toInt_sub, Int32.toInt_mul, Int64.le_iff_toInt_le, Int64.lt_iff_toInt_lt, Int32.le_iff_toInt_le, Int32.lt_iff_toInt_lt, ← Int32.toInt_inj, ← Int64.toInt_inj, Int32.toInt_toInt64, kc_0, kc_60, true_and, and_true, not_true_eq_false, not_false_eq_true] at * <;> ((first | omega | ((try simp (disch := omega) only [k_bm64] at *); (try simp (disch := omega) only [k_bm] at *); (try simp (disch := omega) only [k_bm] at *); omega) | (simp only [Int.bmod] at *; omega))))) | with_reducible assumption | exact Or.inl rfl | rfl
set_option maxHeartbeats 4000000 in
set_option maxRecDepth 100000 in
theorem j_item (l : Launch) (dC : Nat → ClassId) (dI : Nat → Nat → Nat) (cI cJ cQ : ClassId) (sz : Nat) (q1 : Nat) (i1 : Int32) (qi : Nat) (lo : Int32) (fo : Int32) (si : Int32) (gq : Nat → Int32) (hh0 : 0 ≤ si ∧ si ≤ 60) : Met l yX8_item (kW yX8_item cX8_item 2 (some .int)) { frames := 0, cells := 0, slots := 0, locals := 0 } (kPre dC dI cI cJ cQ sz [.ref q1, .int i1] [(kX8 q1 qi lo fo si), (kAI qi cI 60 gq)]) (va_Qi (fun (r : Int32) (u : Unit) => (r = kIm si gq i1)) (fun (u : Unit) t₀ => kB dC dI cI cJ cQ (va_A [(kX8 q1 qi lo fo si), (kAI qi cI 60 gq)] sz) [(kX8 q1 qi lo fo si), (kAI qi cI 60 gq)] t₀) (va_A [(kX8 q1 qi lo fo si), (kAI qi cI 60 gq)] sz)) 0 0 (va_A [(kX8 q1 qi lo fo si), (kAI qi cI 60 gq)] sz) := by
  refine Met.ofW (cc := cX8_item) (maxL := 2) (ret := (some .int)) (by decide) rfl ?_
  intro p₀ e₀ s₀ m₀ args below meth c₀ s₁ B hml hv₀
  obtain ⟨rfl, hsz, hP, hK, hD0, hN⟩ := hv₀
  have hx₀ := B.exec
  have hb := B.bytes
  have hr := B.returns
  have hts := atoms_spec (ws := (kW yX8_item cX8_item 2 (some .int))) B.pre
  have hts := fun w h => hts w (List.mem_cons_of_mem _ h)
  have hown : s₀.vm.findClass RX8 = some m₀.cls := findClass_of_methodNamed B.named
  have hlocks := B.notSynchronized
  subst hsz
  have hD := hD0.self (sz := s₀.heap.size)
  generalize hAe : va_A [(kX8 q1 qi lo fo si), (kAI qi cI 60 gq)] s₀.heap.size = A at hD ⊢
  have hA : ∀ q : Nat, s₀.heap.size ≤ q → A q := fun q h => by rw [← hAe]; exact Or.inr h
  have hS : va_S A s₀.heap s₀.heap [] := va_S.rf
  have hP : va_P (dC, dI) vwCl [(kX8 q1 qi lo fo si), (kAI qi cI 60 gq)] s₀.heap := hP
  have hl := lv_entry ([.ref q1, .int i1]) (n := 2) (Nat.le_of_ble_eq_true rfl)
  rw [lg_entry_eq]
  generalize (lg_sl ([.ref q1, .int i1]) ++ List.replicate (2 - (lg_sl ([.ref q1, .int i1])).length) Slot.unset).toArray = ls at hl ⊢
  have hl : lv_has ls 2 [(0, .ref q1), (1, .int i1)] := hl
  obtain ⟨H, hH⟩ : ∃ z : Heap, z = s₀.heap := ⟨_, rfl⟩
  rw [← hH] at hP
  have hS : va_S A s₀.heap H [] := by rw [hH]; exact hS
  refine k_heap hH ?_
  have hD : va_D A [(kX8 q1 qi lo fo si), (kAI qi cI 60 gq)] := hD
  obtain ⟨locs, hlo⟩ : ∃ z : List Loc, z = [] := ⟨_, rfl⟩
  rw [← hlo] at hS ⊢
  clear hlo hH hAe hD0
  refine lv_iload_n hx₀ hb dX8_item_0 rfl (lv_at hl 1 rfl) ?_
  refine lv_if_lt (tgt := 21) hx₀ hb dX8_item_1 (by decide) (fun c_1 => ?_) (fun c_1 => ?_)
  · refine lv_iconst (v := 0) hx₀ hb dX8_item_21 (by decide +kernel) ?_
    obtain ⟨hP9, hD9⟩ := k_c2 (wc := [(kX8 q1 qi lo fo si), (kAI qi cI 60 gq)]) hP hD [0, 1] (by decide +kernel) rfl
    exact W.iret (v := 0) hx₀ hb hr (fun t₀ ht hW => ⟨⟨0, (), rfl, ((if_neg (show ¬ (0 ≤ i1 ∧ i1 < si) from (fun z => (Int32.not_le.mpr c_1) z.1))).symm), by rw [ht]; exact hP9, va_K.moved hW.alike hK, hD9⟩, hS.F ht⟩) hS.2.2 dX8_item_22
  · refine lv_iload_n hx₀ hb dX8_item_4 rfl (lv_at hl 1 rfl) ?_
    refine lv_aload_n hx₀ hb dX8_item_5 rfl (lv_at hl 0 rfl) ?_
    refine va_get (D := (dC, dI)) (ci := 8) (v := .int si) (C := RX8) (T := TX8) (N := 4) hx₀ hb hts inlX8 hown hK hP 0 rfl rfl 3 (by decide) (hts (.fieldLink RX8 32 "BittenStick$Sheet" "size" "I") wd_393) (fun _ h9 => h9) rfl dX8_item_6 ?_
    refine lv_icmp_ge (tgt := 21) hx₀ hb dX8_item_9 (by decide) (fun c_2 => ?_) (fun c_2 => ?_)
    · refine lv_iconst (v := 0) hx₀ hb dX8_item_21 (by decide +kernel) ?_
      obtain ⟨hP9, hD9⟩ := k_c2 (wc := [(kX8 q1 qi lo fo si), (kAI qi cI 60 gq)]) hP hD [0, 1] (by decide +kernel) rfl
      exact W.iret (v := 0) hx₀ hb hr (fun t₀ ht hW => ⟨⟨0, (), rfl, ((if_neg (show ¬ (0 ≤ i1 ∧ i1 < si) from (fun z => (Int32.not_lt.mpr c_2) z.2))).symm), by rw [ht]; exact hP9, va_K.moved hW.alike hK, hD9⟩, hS.F ht⟩) hS.2.2 dX8_item_22
    · refine lv_aload_n hx₀ hb dX8_item_12 rfl (lv_at hl 0 rfl) ?_
      refine va_get (D := (dC, dI)) (ci := 8) (v := .ref qi) (C := RX8) (T := TX8) (N := 4) hx₀ hb hts inlX8 hown hK hP 0 rfl rfl 0 (by decide) (hts (.fieldLink RX8 9 "BittenStick$Sheet" "items" "[I") wd_109) (fun _ h9 => h9) rfl dX8_item_13 ?_
      refine lv_iload_n hx₀ hb dX8_item_16 rfl (lv_at hl 1 rfl) ?_
      refine va_iald hx₀ hb hK hP 1 0 rfl rfl (vp_in_iff.mpr (lf_j_item_1 si i1 hh0 c_1 c_2)) dX8_item_17 ?_
      refine lv_goto (tgt := 22) hx₀ hb dX8_item_18 (by decide) ?_
      obtain ⟨hP9, hD9⟩ := k_c2 (wc := [(kX8 q1 qi lo fo si), (kAI qi cI 60 gq)]) hP hD [0, 1] (by decide +kernel) rfl
      exact W.iret (v := gq i1.toNatClampNeg) hx₀ hb hr (fun t₀ ht hW => ⟨⟨gq i1.toNatClampNeg, (), rfl, ((if_pos (show 0 ≤ i1 ∧ i1 < si from ⟨(Int32.not_lt.mp c_1), (Int32.not_le.mp c_2)⟩)).symm), by rw [ht]; exact hP9, va_K.moved hW.alike hK, hD9⟩, hS.F ht⟩) hS.2.2 dX8_item_22
set_option maxHeartbeats 4000000 in
set_option maxRecDepth 100000 in
theorem j_put (l : Launch) (dC : Nat → ClassId) (dI : Nat → Nat → Nat) (cI cJ cQ : ClassId) (sz : Nat) (q1 : Nat) (i1 : Int32) (v1 : Int32) (qi : Nat) (lo : Int32) (fo : Int32) (si : Int32) (gq : Nat → Int32) (hh0 : 0 ≤ si ∧ si ≤ 60) : Met l yX8_put (kW yX8_put cX8_put 3 none) { frames := 0, cells := 0, slots := 0, locals := 0 } (kPre dC dI cI cJ cQ sz [.ref q1, .int i1, .int v1] [(kX8 q1 qi lo fo si), (kAI qi cI 60 gq)]) (va_Qv (fun (u : kS) => ((u.2.1 0) = if 0 ≤ i1 ∧ i1 < si then upd gq i1.toNatClampNeg (kCut fo v1) else gq)) (fun (u : kS) t₀ => kB dC dI cI cJ cQ (va_A [(kX8 q1 qi lo fo si), (kAI qi cI 60 gq)] sz) [(kX8 q1 qi lo fo si), (kAI qi cI 60 (u.2.1 0))] t₀) (va_A [(kX8 q1 qi lo fo si), (kAI qi cI 60 gq)] sz)) 0 0 (va_A [(kX8 q1 qi lo fo si), (kAI qi cI 60 gq)] sz) := by
  refine Met.ofW (cc := cX8_put) (maxL := 3) (ret := none) (by decide) rfl ?_
  intro p₀ e₀ s₀ m₀ args below meth c₀ s₁ B hml hv₀
  obtain ⟨rfl, hsz, hP, hK, hD0, hN⟩ := hv₀
  have hx₀ := B.exec
  have hb := B.bytes
  have hr := B.returns
  have hts := atoms_spec (ws := (kW yX8_put cX8_put 3 none)) B.pre
  have hts := fun w h => hts w (List.mem_cons_of_mem _ h)
  have hown : s₀.vm.findClass RX8 = some m₀.cls := findClass_of_methodNamed B.named
  have hlocks := B.notSynchronized
  subst hsz
  have hD := hD0.self (sz := s₀.heap.size)
  generalize hAe : va_A [(kX8 q1 qi lo fo si), (kAI qi cI 60 gq)] s₀.heap.size = A at hD ⊢
  have hA : ∀ q : Nat, s₀.heap.size ≤ q → A q := fun q h => by rw [← hAe]; exact Or.inr h
  have hS : va_S A s₀.heap s₀.heap [] := va_S.rf
  have hP : va_P (dC, dI) vwCl [(kX8 q1 qi lo fo si), (kAI qi cI 60 gq)] s₀.heap := hP
  have hl := lv_entry ([.ref q1, .int i1, .int v1]) (n := 3) (Nat.le_of_ble_eq_true rfl)
  rw [lg_entry_eq]
  generalize (lg_sl ([.ref q1, .int i1, .int v1]) ++ List.replicate (3 - (lg_sl ([.ref q1, .int i1, .int v1])).length) Slot.unset).toArray = ls at hl ⊢
  have hl : lv_has ls 3 [(0, .ref q1), (1, .int i1), (2, .int v1)] := hl
  obtain ⟨H, hH⟩ : ∃ z : Heap, z = s₀.heap := ⟨_, rfl⟩
  rw [← hH] at hP
  have hS : va_S A s₀.heap H [] := by rw [hH]; exact hS
  refine k_heap hH ?_
  have hD : va_D A [(kX8 q1 qi lo fo si), (kAI qi cI 60 gq)] := hD
  obtain ⟨locs, hlo⟩ : ∃ z : List Loc, z = [] := ⟨_, rfl⟩
  rw [← hlo] at hS ⊢
  clear hlo hH hAe hD0
  refine lv_iload_n hx₀ hb dX8_put_0 rfl (lv_at hl 1 rfl) ?_
  refine lv_if_lt (tgt := 44) hx₀ hb dX8_put_1 (by decide) (fun c_1 => ?_) (fun c_1 => ?_)
  · obtain ⟨hP9, hD9⟩ := k_c2 (wc := [(kX8 q1 qi lo fo si), (kAI qi cI 60 gq)]) hP hD [0, 1] (by decide +kernel) rfl
    exact W.vret hx₀ hb hr (fun t₀ ht hW => ⟨⟨(k_fn [], k_fa [gq], k_fl [], k_fL [], k_fp []), rfl, (if_neg (show ¬ (0 ≤ i1 ∧ i1 < si) from (fun z => (Int32.not_le.mpr c_1) z.1))).symm, by rw [ht]; exact hP9, va_K.moved hW.alike hK, hD9⟩, hS.F ht⟩) hS.2.2 dX8_put_44
  · refine lv_iload_n hx₀ hb dX8_put_4 rfl (lv_at hl 1 rfl) ?_
    refine lv_aload_n hx₀ hb dX8_put_5 rfl (lv_at hl 0 rfl) ?_
    refine va_get (D := (dC, dI)) (ci := 8) (v := .int si) (C := RX8) (T := TX8) (N := 4) hx₀ hb hts inlX8 hown hK hP 0 rfl rfl 3 (by decide) (hts (.fieldLink RX8 32 "BittenStick$Sheet" "size" "I") wd_393) (fun _ h9 => h9) rfl dX8_put_6 ?_
    refine lv_icmp_ge (tgt := 44) hx₀ hb dX8_put_9 (by decide) (fun c_2 => ?_) (fun c_2 => ?_)
    · obtain ⟨hP9, hD9⟩ := k_c2 (wc := [(kX8 q1 qi lo fo si), (kAI qi cI 60 gq)]) hP hD [0, 1] (by decide +kernel) rfl
      exact W.vret hx₀ hb hr (fun t₀ ht hW => ⟨⟨(k_fn [], k_fa [gq], k_fl [], k_fL [], k_fp []), rfl, (if_neg (show ¬ (0 ≤ i1 ∧ i1 < si) from (fun z => (Int32.not_lt.mpr c_2) z.2))).symm, by rw [ht]; exact hP9, va_K.moved hW.alike hK, hD9⟩, hS.F ht⟩) hS.2.2 dX8_put_44
    · refine lv_aload_n hx₀ hb dX8_put_12 rfl (lv_at hl 0 rfl) ?_
      refine va_get (D := (dC, dI)) (ci := 8) (v := .ref qi) (C := RX8) (T := TX8) (N := 4) hx₀ hb hts inlX8 hown hK hP 0 rfl rfl 0 (by decide) (hts (.fieldLink RX8 9 "BittenStick$Sheet" "items" "[I") wd_109) (fun _ h9 => h9) rfl dX8_put_13 ?_
      refine lv_iload_n hx₀ hb dX8_put_16 rfl (lv_at hl 1 rfl) ?_
      refine lv_aload_n hx₀ hb dX8_put_17 rfl (lv_at hl 0 rfl) ?_
      refine va_get (D := (dC, dI)) (ci := 8) (v := .int fo) (C := RX8) (T := TX8) (N := 4) hx₀ hb hts inlX8 hown hK hP 0 rfl rfl 2 (by decide) (hts (.fieldLink RX8 19 "BittenStick$Sheet" "form" "I") wd_869) (fun _ h9 => h9) rfl dX8_put_18 ?_
      refine lv_if_ne (tgt := 29) hx₀ hb dX8_put_21 (by decide) (fun c_3 => ?_) (fun c_3 => ?_)
      · refine lv_aload_n hx₀ hb dX8_put_29 rfl (lv_at hl 0 rfl) ?_
        refine va_get (D := (dC, dI)) (ci := 8) (v := .int fo) (C := RX8) (T := TX8) (N := 4) hx₀ hb hts inlX8 hown hK hP 0 rfl rfl 2 (by decide) (hts (.fieldLink RX8 19 "BittenStick$Sheet" "form" "I") wd_869) (fun _ h9 => h9) rfl dX8_put_30 ?_
        refine lv_iconst (v := 1) hx₀ hb dX8_put_33 (by decide +kernel) ?_
        refine lv_icmp_ne (tgt := 42) hx₀ hb dX8_put_34 (by decide) (fun c_4 => ?_) (fun c_4 => ?_)
        · refine lv_iload_n hx₀ hb dX8_put_42 rfl (lv_at hl 2 rfl) ?_
          refine va_iast hx₀ hb hK hP hD hS 1 0 rfl rfl (vp_in_iff.mpr (lf_j_item_1 si i1 hh0 c_1 c_2)) dX8_put_43 ?_
          clear hP hD hS
          intro H locs hP hD hS
          replace hP := k_w2 (wt := [(kX8 q1 qi lo fo si), (kAI qi cI 60 (upd gq i1.toNatClampNeg v1))]) hP hD rfl
          replace hD := hP.2
          replace hP := hP.1
          obtain ⟨hP9, hD9⟩ := k_c2 (wc := [(kX8 q1 qi lo fo si), (kAI qi cI 60 (upd gq i1.toNatClampNeg v1))]) hP hD [0, 1] (by decide +kernel) rfl
          exact W.vret hx₀ hb hr (fun t₀ ht hW => ⟨⟨(k_fn [], k_fa [upd gq i1.toNatClampNeg v1], k_fl [], k_fL [], k_fp []), rfl, (by rw [kCut_2 c_3 c_4]; exact (if_pos (show 0 ≤ i1 ∧ i1 < si from ⟨(Int32.not_lt.mp c_1), (Int32.not_le.mp c_2)⟩)).symm), by rw [ht]; exact hP9, va_K.moved hW.alike hK, hD9⟩, hS.F ht⟩) hS.2.2 dX8_put_44
        · refine lv_iload_n hx₀ hb dX8_put_37 rfl (lv_at hl 2 rfl) ?_
          refine lv_i2s hx₀ hb dX8_put_38 rfl ?_
          refine lv_goto (tgt := 43) hx₀ hb dX8_put_39 (by decide) ?_
          refine va_iast hx₀ hb hK hP hD hS 1 0 rfl rfl (vp_in_iff.mpr (lf_j_item_1 si i1 hh0 c_1 c_2)) dX8_put_43 ?_
          clear hP hD hS
          intro H locs hP hD hS
          replace hP := k_w2 (wt := [(kX8 q1 qi lo fo si), (kAI qi cI 60 (upd gq i1.toNatClampNeg v1.toInt16.toInt32))]) hP hD rfl
          replace hD := hP.2
          replace hP := hP.1
          obtain ⟨hP9, hD9⟩ := k_c2 (wc := [(kX8 q1 qi lo fo si), (kAI qi cI 60 (upd gq i1.toNatClampNeg v1.toInt16.toInt32))]) hP hD [0, 1] (by decide +kernel) rfl
          exact W.vret hx₀ hb hr (fun t₀ ht hW => ⟨⟨(k_fn [], k_fa [upd gq i1.toNatClampNeg v1.toInt16.toInt32], k_fl [], k_fL [], k_fp []), rfl, (by rw [kCut_1 c_3 c_4]; exact (if_pos (show 0 ≤ i1 ∧ i1 < si from ⟨(Int32.not_lt.mp c_1), (Int32.not_le.mp c_2)⟩)).symm), by rw [ht]; exact hP9, va_K.moved hW.alike hK, hD9⟩, hS.F ht⟩) hS.2.2 dX8_put_44
      · refine lv_iload_n hx₀ hb dX8_put_24 rfl (lv_at hl 2 rfl) ?_
        refine lv_i2b hx₀ hb dX8_put_25 rfl ?_
        refine lv_goto (tgt := 43) hx₀ hb dX8_put_26 (by decide) ?_
        refine va_iast hx₀ hb hK hP hD hS 1 0 rfl rfl (vp_in_iff.mpr (lf_j_item_1 si i1 hh0 c_1 c_2)) dX8_put_43 ?_
        clear hP hD hS
        intro H locs hP hD hS
        replace hP := k_w2 (wt := [(kX8 q1 qi lo fo si), (kAI qi cI 60 (upd gq i1.toNatClampNeg v1.toInt8.toInt32))]) hP hD rfl
        replace hD := hP.2
        replace hP := hP.1
        obtain ⟨hP9, hD9⟩ := k_c2 (wc := [(kX8 q1 qi lo fo si), (kAI qi cI 60 (upd gq i1.toNatClampNeg v1.toInt8.toInt32))]) hP hD [0, 1] (by decide +kernel) rfl
        exact W.vret hx₀ hb hr (fun t₀ ht hW => ⟨⟨(k_fn [], k_fa [upd gq i1.toNatClampNeg v1.toInt8.toInt32], k_fl [], k_fL [], k_fp []), rfl, (by rw [kCut_0 c_3]; exact (if_pos (show 0 ≤ i1 ∧ i1 < si from ⟨(Int32.not_lt.mp c_1), (Int32.not_le.mp c_2)⟩)).symm), by rw [ht]; exact hP9, va_K.moved hW.alike hK, hD9⟩, hS.F ht⟩) hS.2.2 dX8_put_44
theorem lf_j_sheetOf_1 (a0 : Int32) (h0 : a0 < 0) : ¬ (a0 = 3) := by
  first | (first | omega | (have hr0 := Int32.toInt_lt a0; have hs0 := Int32.le_toInt a0; simp only [Int64.toInt_add, Int64.toInt_sub, Int32.toInt_add, Int32.toInt_sub, Int32.toInt_mul, Int64.le_iff_toInt_le, Int64.lt_iff_toInt_lt, Int32.le_iff_toInt_le, Int32.lt_iff_toInt_lt, ← Int32.toInt_inj, ← Int64.toInt_inj, Int32.toInt_toInt64, kc_0, kc_3, true_and, and_true, not_true_eq_false, not_false_eq_true] at * <;> ((first | omega | ((try simp (disch := omega) only [k_bm64] at *); (try simp (disch := omega) only [k_bm] at *); (try simp (disch := omega) only [k_bm] at *); omega) | (simp only [Int.bmod] at *; omega))))) | with_reducible assumption | exact Or.inl rfl | rfl
theorem lf_j_sheetOf_2 (a0 : Int32) (h0 : a0 < 0) : ¬ (a0 = 2) := by
  first | (first | omega | (have hr0 := Int32.toInt_lt a0; have hs0 := Int32.le_toInt a0; simp only [Int64.toInt_add, Int64.toInt_sub, Int32.toInt_add, Int32.toInt_sub, Int32.toInt_mul, Int64.le_iff_toInt_le, Int64.lt_iff_toInt_lt, Int32.le_iff_toInt_le, Int32.lt_iff_toInt_lt, ← Int32.toInt_inj, ← Int64.toInt_inj, Int32.toInt_toInt64, kc_0, kc_2, true_and, and_true, not_true_eq_false, not_false_eq_true] at * <;> ((first | omega | ((try simp (disch := omega) only [k_bm64] at *); (try simp (disch := omega) only [k_bm] at *); (try simp (disch := omega) only [k_bm] at *); omega) | (simp only [Int.bmod] at *; omega))))) | with_reducible assumption | exact Or.inl rfl | rfl
theorem lf_j_sheetOf_3 (a0 : Int32) (h0 : a0 < 0) : ¬ (a0 = 1) := by
  first | (first | omega | (have hr0 := Int32.toInt_lt a0; have hs0 := Int32.le_toInt a0; simp only [Int64.toInt_add, Int64.toInt_sub, Int32.toInt_add, Int32.toInt_sub, Int32.toInt_mul, Int64.le_iff_toInt_le, Int64.lt_iff_toInt_lt, Int32.le_iff_toInt_le, Int32.lt_iff_toInt_lt, ← Int32.toInt_inj, ← Int64.toInt_inj, Int32.toInt_toInt64, kc_0, kc_1, true_and, and_true, not_true_eq_false, not_false_eq_true] at * <;> ((first | omega | ((try simp (disch := omega) only [k_bm64] at *); (try simp (disch := omega) only [k_bm] at *); (try simp (disch := omega) only [k_bm] at *); omega) | (simp only [Int.bmod] at *; omega))))) | with_reducible assumption | exact Or.inl rfl | rfl
theorem lf_j_sheetOf_4 (a0 : Int32) (h0 : ¬ a0 < 0) (h1 : 4 ≤ a0) : ¬ (a0 = 3) := by
  first | (first | omega | (have hr0 := Int32.toInt_lt a0; have hs0 := Int32.le_toInt a0; simp only [Int64.toInt_add, Int64.toInt_sub, Int32.toInt_add, Int32.toInt_sub, Int32.toInt_mul, Int64.le_iff_toInt_le, Int64.lt_iff_toInt_lt, Int32.le_iff_toInt_le, Int32.lt_iff_toInt_lt, ← Int32.toInt_inj, ← Int64.toInt_inj, Int32.toInt_toInt64, kc_0, kc_3, kc_4, true_and, and_true, not_true_eq_false, not_false_eq_true] at * <;> ((first | omega | ((try simp (disch := omega) only [k_bm64] at *); (try simp (disch := omega) only [k_bm] at *); (try simp (disch := omega) only [k_bm] at *); omega) | (simp only [Int.bmod] at *; omega))))) | with_reducible assumption | exact Or.inl rfl | rfl
theorem lf_j_sheetOf_5 (a0 : Int32) (h0 : ¬ a0 < 0) (h1 : 4 ≤ a0) : ¬ (a0 = 2) := by
  first | (first | omega | (have hr0 := Int32.toInt_lt a0; have hs0 := Int32.le_toInt a0; simp only [Int64.toInt_add, Int64.toInt_sub, Int32.toInt_add, Int32.toInt_sub, Int32.toInt_mul, Int64.le_iff_toInt_le, Int64.lt_iff_toInt_lt, Int32.le_iff_toInt_le, Int32.lt_iff_toInt_lt, ← Int32.toInt_inj, ← Int64.toInt_inj, Int32.toInt_toInt64, kc_0, kc_2, kc_4, true_and, and_true, not_true_eq_false, not_false_eq_true] at * <;> ((first | omega | ((try simp (disch := omega) only [k_bm64] at *); (try simp (disch := omega) only [k_bm] at *); (try simp (disch := omega) only [k_bm] at *); omega) | (simp only [Int.bmod] at *; omega))))) | with_reducible assumption | exact Or.inl rfl | rfl
theorem lf_j_sheetOf_6 (a0 : Int32) (h0 : ¬ a0 < 0) (h1 : 4 ≤ a0) : ¬ (a0 = 1) := by
  first | (first | omega | (have hr0 := Int32.toInt_lt a0; have hs0 := Int32.le_toInt a0; simp only [Int64.toInt_add, Int64.toInt_sub, Int32.toInt_add, Int32.toInt_sub, Int32.toInt_mul, Int64.le_iff_toInt_le, Int64.lt_iff_toInt_lt, Int32.le_iff_toInt_le, Int32.lt_iff_toInt_lt, ← Int32.toInt_inj, ← Int64.toInt_inj, Int32.toInt_toInt64, kc_0, kc_1, kc_4, true_and, and_true, not_true_eq_false, not_false_eq_true] at * <;> ((first | omega | ((try simp (disch := omega) only [k_bm64] at *); (try simp (disch := omega) only [k_bm] at *); (try simp (disch := omega) only [k_bm] at *); omega) | (simp only [Int.bmod] at *; omega))))) | with_reducible assumption | exact Or.inl rfl | rfl
theorem lf_j_sheetOf_7 (a0 : Int32) (h0 : ¬ a0 < 0) (h1 : 4 ≤ a0) : ¬ (a0 = 0) := by
  first | (first | omega | (have hr0 := Int32.toInt_lt a0; have hs0 := Int32.le_toInt a0; simp only [Int64.toInt_add, Int64.toInt_sub, Int32.toInt_add, Int32.toInt_sub, Int32.toInt_mul, Int64.le_iff_toInt_le, Int64.lt_iff_toInt_lt, Int32.le_iff_toInt_le, Int32.lt_iff_toInt_lt, ← Int32.toInt_inj, ← Int64.toInt_inj, Int32.toInt_toInt64, kc_0, kc_4, true_and, and_true, not_true_eq_false, not_false_eq_true] at * <;> ((first | omega | ((try simp (disch := omega) only [k_bm64] at *); (try simp (disch := omega) only [k_bm] at *); (try simp (disch := omega) only [k_bm] at *); omega) | (simp only [Int.bmod] at *; omega))))) | with_reducible assumption | exact Or.inl rfl | rfl
theorem lf_j_sheetOf_8 (a0 : Int32) (h0 : ¬ a0 < 0) (h1 : ¬ 4 ≤ a0) : 0 ≤ a0.toInt ∧ a0.toInt < 4 := by
  first | (first | omega | (have hr0 := Int32.toInt_lt a0; have hs0 := Int32.le_toInt a0; simp only [Int64.toInt_add, Int64.toInt_sub, Int32.toInt_add, Int32.toInt_sub, Int32.toInt_mul, Int64.le_iff_toInt_le, Int64.lt_iff_toInt_lt, Int32.le_iff_toInt_le, Int32.lt_iff_toInt_lt, ← Int32.toInt_inj, ← Int64.toInt_inj, Int32.toInt_toInt64, kc_0, kc_4, true_and, and_true, not_true_eq_false, not_false_eq_true] at * <;> ((first | omega | ((try simp (disch := omega) only [k_bm64] at *); (try simp (disch := omega) only [k_bm] at *); (try simp (disch := omega) only [k_bm] at *); omega) | (simp only [Int.bmod] at *; omega))))) | with_reducible assumption | exact Or.inl rfl | rfl
theorem lf_j_sheetOf_9 (a0 : Int32) (h0 : ¬ a0 < 0) (h1 : ¬ 4 ≤ a0) (h2 : ¬ a0 = 0) (h3 : ¬ a0 = 1) (h4 : ¬ a0 = 2) (h5 : ¬ a0 = 3) : False := by
  first | (first | omega | (have hr0 := Int32.toInt_lt a0; have hs0 := Int32.le_toInt a0; simp only [Int64.toInt_add, Int64.toInt_sub, Int32.toInt_add, Int32.toInt_sub, Int32.toInt_mul, Int64.le_iff_toInt_le, Int64.lt_iff_toInt_lt, Int32.le_iff_toInt_le, Int32.lt_iff_toInt_lt, ← Int32.toInt_inj, ← Int64.toInt_inj, Int32.toInt_toInt64, kc_0, kc_1, kc_2, kc_3, kc_4, true_and, and_true, not_true_eq_false, not_false_eq_true] at * <;> ((first | omega | ((try simp (disch := omega) only [k_bm64] at *); (try simp (disch := omega) only [k_bm] at *); (try simp (disch := omega) only [k_bm] at *); omega) | (simp only [Int.bmod] at *; omega))))) | with_reducible assumption | exact Or.inl rfl | rfl
set_option maxHeartbeats 4000000 in
set_option maxRecDepth 100000 in
theorem j_sheetOf (l : Launch) (dC : Nat → ClassId) (dI : Nat → Nat → Nat) (cI cJ cQ : ClassId) (sz : Nat) (hx : Nat) (ss : Int32) (aLa : Nat) (aPa : Nat) (aGe : Nat) (aFl : Nat) (aTr : Nat) (aBe : Nat) (aLu : Nat) (aLo : Nat) (vSf : Nat) (vSm : Nat) (vCo : Nat) (vSh : Nat) (xs : Int32) (xl : Int32) (xf : Int32) (s0 : Nat) (s1 : Nat) (s2 : Nat) (s3 : Nat) : Met l yX11_sheetOf (kW yX11_sheetOf cX11_sheetOf 2 (some (.object "BittenStick$Sheet"))) { frames := 0, cells := 0, slots := 0, locals := 0 } (kPre dC dI cI cJ cQ sz [.ref hx, .int ss] [(kX11 hx aLa aPa aGe aFl aTr aBe aLu aLo vSf vSm vCo vSh xs xl xf), (kAQ vSh cQ 4 (fSh s0 s1 s2 s3))]) (va_Qq (fun (r : Option Nat) (u : Unit) => (r = if ss = 0 then some s0 else if ss = 1 then some s1 else if ss = 2 then some s2 else if ss = 3 then some s3 else none)) (fun (u : Unit) t₀ => kB dC dI cI cJ cQ (va_A [(kX11 hx aLa aPa aGe aFl aTr aBe aLu aLo vSf vSm vCo vSh xs xl xf), (kAQ vSh cQ 4 (fSh s0 s1 s2 s3))] sz) [(kX11 hx aLa aPa aGe aFl aTr aBe aLu aLo vSf vSm vCo vSh xs xl xf), (kAQ vSh cQ 4 (fSh s0 s1 s2 s3))] t₀) (va_A [(kX11 hx aLa aPa aGe aFl aTr aBe aLu aLo vSf vSm vCo vSh xs xl xf), (kAQ vSh cQ 4 (fSh s0 s1 s2 s3))] sz)) 0 0 (va_A [(kX11 hx aLa aPa aGe aFl aTr aBe aLu aLo vSf vSm vCo vSh xs xl xf), (kAQ vSh cQ 4 (fSh s0 s1 s2 s3))] sz) := by
  refine Met.ofW (cc := cX11_sheetOf) (maxL := 2) (ret := (some (.object "BittenStick$Sheet"))) (by decide) rfl ?_
  intro p₀ e₀ s₀ m₀ args below meth c₀ s₁ B hml hv₀
  obtain ⟨rfl, hsz, hP, hK, hD0, hN⟩ := hv₀
  have hx₀ := B.exec
  have hb := B.bytes
  have hr := B.returns
  have hts := atoms_spec (ws := (kW yX11_sheetOf cX11_sheetOf 2 (some (.object "BittenStick$Sheet")))) B.pre
  have hts := fun w h => hts w (List.mem_cons_of_mem _ h)
  have hown : s₀.vm.findClass RX11 = some m₀.cls := findClass_of_methodNamed B.named
  have hlocks := B.notSynchronized
  subst hsz
  have hD := hD0.self (sz := s₀.heap.size)
  generalize hAe : va_A [(kX11 hx aLa aPa aGe aFl aTr aBe aLu aLo vSf vSm vCo vSh xs xl xf), (kAQ vSh cQ 4 (fSh s0 s1 s2 s3))] s₀.heap.size = A at hD ⊢
  have hA : ∀ q : Nat, s₀.heap.size ≤ q → A q := fun q h => by rw [← hAe]; exact Or.inr h
  have hS : va_S A s₀.heap s₀.heap [] := va_S.rf
  have hP : va_P (dC, dI) vwCl [(kX11 hx aLa aPa aGe aFl aTr aBe aLu aLo vSf vSm vCo vSh xs xl xf), (kAQ vSh cQ 4 (fSh s0 s1 s2 s3))] s₀.heap := hP
  have hl := lv_entry ([.ref hx, .int ss]) (n := 2) (Nat.le_of_ble_eq_true rfl)
  rw [lg_entry_eq]
  generalize (lg_sl ([.ref hx, .int ss]) ++ List.replicate (2 - (lg_sl ([.ref hx, .int ss])).length) Slot.unset).toArray = ls at hl ⊢
  have hl : lv_has ls 2 [(0, .ref hx), (1, .int ss)] := hl
  obtain ⟨H, hH⟩ : ∃ z : Heap, z = s₀.heap := ⟨_, rfl⟩
  rw [← hH] at hP
  have hS : va_S A s₀.heap H [] := by rw [hH]; exact hS
  refine k_heap hH ?_
  have hD : va_D A [(kX11 hx aLa aPa aGe aFl aTr aBe aLu aLo vSf vSm vCo vSh xs xl xf), (kAQ vSh cQ 4 (fSh s0 s1 s2 s3))] := hD
  obtain ⟨locs, hlo⟩ : ∃ z : List Loc, z = [] := ⟨_, rfl⟩
  rw [← hlo] at hS ⊢
  clear hlo hH hAe hD0
  refine lv_iload_n hx₀ hb dX11_sheetOf_0 rfl (lv_at hl 1 rfl) ?_
  refine lv_if_lt (tgt := 22) hx₀ hb dX11_sheetOf_1 (by decide) (fun c_1 => ?_) (fun c_1 => ?_)
  · refine lv_null hx₀ hb dX11_sheetOf_22 ?_
    obtain ⟨hP9, hD9⟩ := k_c2 (wc := [(kX11 hx aLa aPa aGe aFl aTr aBe aLu aLo vSf vSm vCo vSh xs xl xf), (kAQ vSh cQ 4 (fSh s0 s1 s2 s3))]) hP hD [0, 1] (by decide +kernel) rfl
    exact W.aret (v := .null) hx₀ hb hr (Or.inl ⟨_, rfl⟩) (Or.inl rfl) (fun t₀ ht hW => ⟨⟨none, (), rfl, (show none = if ss = 0 then some s0 else if ss = 1 then some s1 else if ss = 2 then some s2 else if ss = 3 then some s3 else none from (((((((if_neg (lf_j_sheetOf_1 ss c_1)).symm).trans (if_neg (lf_j_sheetOf_2 ss c_1)).symm)).trans (if_neg (lf_j_sheetOf_3 ss c_1)).symm)).trans (if_neg (show ¬ (ss = 0) from (fun z => (Int32.not_le.mpr c_1) (k_leq z.symm)))).symm)), by rw [ht]; exact hP9, va_K.moved hW.alike hK, hD9⟩, hS.F ht⟩) hS.2.2 dX11_sheetOf_23
  · refine lv_iload_n hx₀ hb dX11_sheetOf_4 rfl (lv_at hl 1 rfl) ?_
    refine lv_aload_n hx₀ hb dX11_sheetOf_5 rfl (lv_at hl 0 rfl) ?_
    refine va_get (D := (dC, dI)) (ci := 10) (v := .ref vSh) (C := RX11) (T := TX11) (N := 15) hx₀ hb hts inlX11 hown hK hP 0 rfl rfl 11 (by decide) (hts (.fieldLink RX11 79 "BittenStick" "sheets" "[LBittenStick$Sheet;") wd_49) (fun _ h9 => h9) rfl dX11_sheetOf_6 ?_
    refine va_alen (v := 4) hx₀ hb hK hP 1 2 rfl rfl rfl dX11_sheetOf_9 ?_
    refine lv_icmp_ge (tgt := 22) hx₀ hb dX11_sheetOf_10 (by decide) (fun c_2 => ?_) (fun c_2 => ?_)
    · refine lv_null hx₀ hb dX11_sheetOf_22 ?_
      obtain ⟨hP9, hD9⟩ := k_c2 (wc := [(kX11 hx aLa aPa aGe aFl aTr aBe aLu aLo vSf vSm vCo vSh xs xl xf), (kAQ vSh cQ 4 (fSh s0 s1 s2 s3))]) hP hD [0, 1] (by decide +kernel) rfl
      exact W.aret (v := .null) hx₀ hb hr (Or.inl ⟨_, rfl⟩) (Or.inl rfl) (fun t₀ ht hW => ⟨⟨none, (), rfl, (show none = if ss = 0 then some s0 else if ss = 1 then some s1 else if ss = 2 then some s2 else if ss = 3 then some s3 else none from (((((((if_neg (lf_j_sheetOf_4 ss c_1 c_2)).symm).trans (if_neg (lf_j_sheetOf_5 ss c_1 c_2)).symm)).trans (if_neg (lf_j_sheetOf_6 ss c_1 c_2)).symm)).trans (if_neg (lf_j_sheetOf_7 ss c_1 c_2)).symm)), by rw [ht]; exact hP9, va_K.moved hW.alike hK, hD9⟩, hS.F ht⟩) hS.2.2 dX11_sheetOf_23
    · refine lv_aload_n hx₀ hb dX11_sheetOf_13 rfl (lv_at hl 0 rfl) ?_
      refine va_get (D := (dC, dI)) (ci := 10) (v := .ref vSh) (C := RX11) (T := TX11) (N := 15) hx₀ hb hts inlX11 hown hK hP 0 rfl rfl 11 (by decide) (hts (.fieldLink RX11 79 "BittenStick" "sheets" "[LBittenStick$Sheet;") wd_49) (fun _ h9 => h9) rfl dX11_sheetOf_14 ?_
      refine lv_iload_n hx₀ hb dX11_sheetOf_17 rfl (lv_at hl 1 rfl) ?_
      refine va_aldq hx₀ hb hK hP 1 2 rfl rfl (vp_in_iff.mpr (lf_j_sheetOf_8 ss c_1 c_2)) dX11_sheetOf_18 ?_
      by_cases c_3 : ss = 0
      · subst c_3
        refine W.eq (g2 := F0 m₀ 19 ls [.ref s0]) (by rw [fSh_0]; rfl) ?_
        refine lv_goto (tgt := 23) hx₀ hb dX11_sheetOf_19 (by decide) ?_
        obtain ⟨hP9, hD9⟩ := k_c2 (wc := [(kX11 hx aLa aPa aGe aFl aTr aBe aLu aLo vSf vSm vCo vSh xs xl xf), (kAQ vSh cQ 4 (fSh s0 s1 s2 s3))]) hP hD [0, 1] (by decide +kernel) rfl
        exact W.aret (v := .ref s0) hx₀ hb hr (Or.inl ⟨_, rfl⟩) (Or.inr ⟨_, rfl⟩) (fun t₀ ht hW => ⟨⟨(some s0), (), rfl, (show (some s0) = if (0 : Int32) = 0 then some s0 else if (0 : Int32) = 1 then some s1 else if (0 : Int32) = 2 then some s2 else if (0 : Int32) = 3 then some s3 else none from (if_pos (rfl)).symm), by rw [ht]; exact hP9, va_K.moved hW.alike hK, hD9⟩, hS.F ht⟩) hS.2.2 dX11_sheetOf_23
      by_cases c_4 : ss = 1
      · subst c_4
        refine W.eq (g2 := F0 m₀ 19 ls [.ref s1]) (by rw [fSh_1]; rfl) ?_
        refine lv_goto (tgt := 23) hx₀ hb dX11_sheetOf_19 (by decide) ?_
        obtain ⟨hP9, hD9⟩ := k_c2 (wc := [(kX11 hx aLa aPa aGe aFl aTr aBe aLu aLo vSf vSm vCo vSh xs xl xf), (kAQ vSh cQ 4 (fSh s0 s1 s2 s3))]) hP hD [0, 1] (by decide +kernel) rfl
        exact W.aret (v := .ref s1) hx₀ hb hr (Or.inl ⟨_, rfl⟩) (Or.inr ⟨_, rfl⟩) (fun t₀ ht hW => ⟨⟨(some s1), (), rfl, (show (some s1) = if (1 : Int32) = 0 then some s0 else if (1 : Int32) = 1 then some s1 else if (1 : Int32) = 2 then some s2 else if (1 : Int32) = 3 then some s3 else none from (((if_pos (rfl)).symm).trans (if_neg (show ¬ ((1 : Int32) = 0) from (fun z => absurd z (by decide)))).symm)), by rw [ht]; exact hP9, va_K.moved hW.alike hK, hD9⟩, hS.F ht⟩) hS.2.2 dX11_sheetOf_23
      by_cases c_5 : ss = 2
      · subst c_5
        refine W.eq (g2 := F0 m₀ 19 ls [.ref s2]) (by rw [fSh_2]; rfl) ?_
        refine lv_goto (tgt := 23) hx₀ hb dX11_sheetOf_19 (by decide) ?_
        obtain ⟨hP9, hD9⟩ := k_c2 (wc := [(kX11 hx aLa aPa aGe aFl aTr aBe aLu aLo vSf vSm vCo vSh xs xl xf), (kAQ vSh cQ 4 (fSh s0 s1 s2 s3))]) hP hD [0, 1] (by decide +kernel) rfl
        exact W.aret (v := .ref s2) hx₀ hb hr (Or.inl ⟨_, rfl⟩) (Or.inr ⟨_, rfl⟩) (fun t₀ ht hW => ⟨⟨(some s2), (), rfl, (show (some s2) = if (2 : Int32) = 0 then some s0 else if (2 : Int32) = 1 then some s1 else if (2 : Int32) = 2 then some s2 else if (2 : Int32) = 3 then some s3 else none from (((((if_pos (rfl)).symm).trans (if_neg (show ¬ ((2 : Int32) = 1) from (fun z => absurd z (by decide)))).symm)).trans (if_neg (show ¬ ((2 : Int32) = 0) from (fun z => absurd z (by decide)))).symm)), by rw [ht]; exact hP9, va_K.moved hW.alike hK, hD9⟩, hS.F ht⟩) hS.2.2 dX11_sheetOf_23
      by_cases c_6 : ss = 3
      · subst c_6
        refine W.eq (g2 := F0 m₀ 19 ls [.ref s3]) (by rw [fSh_3]; rfl) ?_
        refine lv_goto (tgt := 23) hx₀ hb dX11_sheetOf_19 (by decide) ?_
        obtain ⟨hP9, hD9⟩ := k_c2 (wc := [(kX11 hx aLa aPa aGe aFl aTr aBe aLu aLo vSf vSm vCo vSh xs xl xf), (kAQ vSh cQ 4 (fSh s0 s1 s2 s3))]) hP hD [0, 1] (by decide +kernel) rfl
        exact W.aret (v := .ref s3) hx₀ hb hr (Or.inl ⟨_, rfl⟩) (Or.inr ⟨_, rfl⟩) (fun t₀ ht hW => ⟨⟨(some s3), (), rfl, (show (some s3) = if (3 : Int32) = 0 then some s0 else if (3 : Int32) = 1 then some s1 else if (3 : Int32) = 2 then some s2 else if (3 : Int32) = 3 then some s3 else none from (((((((if_pos (rfl)).symm).trans (if_neg (show ¬ ((3 : Int32) = 2) from (fun z => absurd z (by decide)))).symm)).trans (if_neg (show ¬ ((3 : Int32) = 1) from (fun z => absurd z (by decide)))).symm)).trans (if_neg (show ¬ ((3 : Int32) = 0) from (fun z => absurd z (by decide)))).symm)), by rw [ht]; exact hP9, va_K.moved hW.alike hK, hD9⟩, hS.F ht⟩) hS.2.2 dX11_sheetOf_23
      exact (lf_j_sheetOf_9 ss c_1 c_2 c_3 c_4 c_5 c_6).elim
theorem lf_j_refuse_1 (a0 : Int32) (a1 : Int32) (h0 : 0 ≤ a0 ∧ a0 ≤ 60) (h1 : 0 ≤ a1 ∧ 0 ≤ (1 : Int32) ∧ (1 : Int32) ≤ a0 ∧ a1 ≤ a0 - (1 : Int32)) : a1 < a0 := by
  first | (first | omega | (have hr0 := Int32.toInt_lt a0; have hs0 := Int32.le_toInt a0; have hr1 := Int32.toInt_lt a1; have hs1 := Int32.le_toInt a1; simp only [Int64.toInt_add, Int64.toInt_sub, Int32.toInt_add, Int32.toInt_sub, Int32.toInt_mul, Int64.le_iff_toInt_le, Int64.lt_iff_toInt_lt, Int32.le_iff_toInt_le, Int32.lt_iff_toInt_lt, ← Int32.toInt_inj, ← Int64.toInt_inj, Int32.toInt_toInt64, kc_0, kc_1, kc_60, true_and, and_true, not_true_eq_false, not_false_eq_true] at * <;> ((first | omega | ((try simp (disch := omega) only [k_bm64] at *); (try simp (disch := omega) only [k_bm] at *); (try simp (disch := omega) only [k_bm] at *); omega) | (simp only [Int.bmod] at *; omega))))) | with_reducible assumption | exact Or.inl rfl | rfl
theorem lf_j_refuse_2 (a0 : Int32) (a1 : Int32) (a2 : Int32) (a3 : Int32) (a4 : Int32) (h0 : 0 ≤ a0 ∧ a0 ≤ 60) (h1 : a1 = 0) (h2 : a2 = a3) (h3 : ¬ (0 ≤ a4 ∧ 0 ≤ (1 : Int32) ∧ (1 : Int32) ≤ a0 ∧ a4 ≤ a0 - (1 : Int32))) : ¬ (a1 = 0 ∧ a2 = a3 ∧ 0 ≤ a4 ∧ a4 < a0) := by
  first | (first | omega | (have hr0 := Int32.toInt_lt a0; have hs0 := Int32.le_toInt a0; have hr1 := Int32.toInt_lt a1; have hs1 := Int32.le_toInt a1; have hr2 := Int32.toInt_lt a2; have hs2 := Int32.le_toInt a2; have hr3 := Int32.toInt_lt a3; have hs3 := Int32.le_toInt a3; have hr4 := Int32.toInt_lt a4; have hs4 := Int32.le_toInt a4; simp only [Int64.toInt_add, Int64.toInt_sub, Int32.toInt_add, Int32.toInt_sub, Int32.toInt_mul, Int64.le_iff_toInt_le, Int64.lt_iff_toInt_lt, Int32.le_iff_toInt_le, Int32.lt_iff_toInt_lt, ← Int32.toInt_inj, ← Int64.toInt_inj, Int32.toInt_toInt64, kc_0, kc_1, kc_60, true_and, and_true, not_true_eq_false, not_false_eq_true] at * <;> ((first | omega | ((try simp (disch := omega) only [k_bm64] at *); (try simp (disch := omega) only [k_bm] at *); (try simp (disch := omega) only [k_bm] at *); omega) | (simp only [Int.bmod] at *; omega))))) | with_reducible assumption | exact Or.inl rfl | rfl
set_option maxHeartbeats 4000000 in
set_option maxRecDepth 100000 in
theorem j_refuse (l : Launch) (dC : Nat → ClassId) (dI : Nat → Nat → Nat) (cI cJ cQ : ClassId) (sz : Nat) (hx : Nat) (q1 : Nat) (fm : Int32) (i1 : Int32) (aLa : Nat) (aPa : Nat) (aGe : Nat) (aFl : Nat) (aTr : Nat) (aBe : Nat) (aLu : Nat) (aLo : Nat) (vSf : Nat) (vSm : Nat) (vCo : Nat) (vSh : Nat) (xs : Int32) (xl : Int32) (xf : Int32) (qi : Nat) (lo : Int32) (fo : Int32) (si : Int32) (hh0 : 0 ≤ si ∧ si ≤ 60) : Met l yX11_itemRefusal (kW yX11_itemRefusal cX11_itemRefusal 4 (some .int)) { frames := 1, cells := 0, slots := 0, locals := 22 } (kPre dC dI cI cJ cQ sz [.ref hx, .ref q1, .int fm, .int i1] [(kX11 hx aLa aPa aGe aFl aTr aBe aLu aLo vSf vSm vCo vSh xs xl xf), (kX8 q1 qi lo fo si)]) (va_Qi (fun (r : Int32) (u : kS) => (r = if lo = 0 ∧ fo = fm ∧ 0 ≤ i1 ∧ i1 < si then 0 else if lo = 0 ∧ fo = fm then -12 else if lo = 0 then -13 else -11) ∧ ((u.1 0) = kFd r xf)) (fun (u : kS) t₀ => kB dC dI cI cJ cQ (va_A [(kX11 hx aLa aPa aGe aFl aTr aBe aLu aLo vSf vSm vCo vSh xs xl xf), (kX8 q1 qi lo fo si)] sz) [(kX11 hx aLa aPa aGe aFl aTr aBe aLu aLo vSf vSm vCo vSh xs xl (u.1 0)), (kX8 q1 qi lo fo si)] t₀) (va_A [(kX11 hx aLa aPa aGe aFl aTr aBe aLu aLo vSf vSm vCo vSh xs xl xf), (kX8 q1 qi lo fo si)] sz)) 0 0 (va_A [(kX11 hx aLa aPa aGe aFl aTr aBe aLu aLo vSf vSm vCo vSh xs xl xf), (kX8 q1 qi lo fo si)] sz) := by
  refine Met.ofW (cc := cX11_itemRefusal) (maxL := 4) (ret := (some .int)) (by decide) rfl ?_
  intro p₀ e₀ s₀ m₀ args below meth c₀ s₁ B hml hv₀
  obtain ⟨rfl, hsz, hP, hK, hD0, hN⟩ := hv₀
  have hx₀ := B.exec
  have hb := B.bytes
  have hr := B.returns
  have hts := atoms_spec (ws := (kW yX11_itemRefusal cX11_itemRefusal 4 (some .int))) B.pre
  have hts := fun w h => hts w (List.mem_cons_of_mem _ h)
  have hown : s₀.vm.findClass RX11 = some m₀.cls := findClass_of_methodNamed B.named
  have hlocks := B.notSynchronized
  subst hsz
  have hD := hD0.self (sz := s₀.heap.size)
  generalize hAe : va_A [(kX11 hx aLa aPa aGe aFl aTr aBe aLu aLo vSf vSm vCo vSh xs xl xf), (kX8 q1 qi lo fo si)] s₀.heap.size = A at hD ⊢
  have hA : ∀ q : Nat, s₀.heap.size ≤ q → A q := fun q h => by rw [← hAe]; exact Or.inr h
  have hS : va_S A s₀.heap s₀.heap [] := va_S.rf
  have hP : va_P (dC, dI) vwCl [(kX11 hx aLa aPa aGe aFl aTr aBe aLu aLo vSf vSm vCo vSh xs xl xf), (kX8 q1 qi lo fo si)] s₀.heap := hP
  have hl := lv_entry ([.ref hx, .ref q1, .int fm, .int i1]) (n := 4) (Nat.le_of_ble_eq_true rfl)
  rw [lg_entry_eq]
  generalize (lg_sl ([.ref hx, .ref q1, .int fm, .int i1]) ++ List.replicate (4 - (lg_sl ([.ref hx, .ref q1, .int fm, .int i1])).length) Slot.unset).toArray = ls at hl ⊢
  have hl : lv_has ls 4 [(0, .ref hx), (1, .ref q1), (2, .int fm), (3, .int i1)] := hl
  obtain ⟨H, hH⟩ : ∃ z : Heap, z = s₀.heap := ⟨_, rfl⟩
  rw [← hH] at hP
  have hS : va_S A s₀.heap H [] := by rw [hH]; exact hS
  refine k_heap hH ?_
  have hD : va_D A [(kX11 hx aLa aPa aGe aFl aTr aBe aLu aLo vSf vSm vCo vSh xs xl xf), (kX8 q1 qi lo fo si)] := hD
  obtain ⟨locs, hlo⟩ : ∃ z : List Loc, z = [] := ⟨_, rfl⟩
  rw [← hlo] at hS ⊢
  clear hlo hH hAe hD0
  refine lv_aload_n hx₀ hb dX11_itemRefusal_0 rfl (lv_at hl 1 rfl) ?_
  refine va_get (D := (dC, dI)) (ci := 8) (v := .int lo) (C := RX8) (T := TX8) (N := 4) hx₀ hb hts inlX8 hown hK hP 1 rfl rfl 1 (by decide) (hts (.fieldLink RX11 133 "BittenStick$Sheet" "isLost" "Z") wd_378) (fun _ h9 => h9) rfl dX11_itemRefusal_1 ?_
  refine lv_if_eq (tgt := 13) hx₀ hb dX11_itemRefusal_4 (by decide) (fun c_1 => ?_) (fun c_1 => ?_)
  · refine lv_aload_n hx₀ hb dX11_itemRefusal_13 rfl (lv_at hl 1 rfl) ?_
    refine va_get (D := (dC, dI)) (ci := 8) (v := .int fo) (C := RX8) (T := TX8) (N := 4) hx₀ hb hts inlX8 hown hK hP 1 rfl rfl 2 (by decide) (hts (.fieldLink RX11 245 "BittenStick$Sheet" "form" "I") wd_892) (fun _ h9 => h9) rfl dX11_itemRefusal_14 ?_
    refine lv_iload_n hx₀ hb dX11_itemRefusal_17 rfl (lv_at hl 2 rfl) ?_
    refine lv_icmp_eq (tgt := 27) hx₀ hb dX11_itemRefusal_18 (by decide) (fun c_2 => ?_) (fun c_2 => ?_)
    · refine lv_aload_n hx₀ hb dX11_itemRefusal_27 rfl (lv_at hl 1 rfl) ?_
      refine lv_iload_n hx₀ hb dX11_itemRefusal_28 rfl (lv_at hl 3 rfl) ?_
      refine lv_iconst (v := 1) hx₀ hb dX11_itemRefusal_29 (by decide +kernel) ?_
      obtain ⟨hPc, hDc, hFc, hC⟩ := k_cw (wc := [(kX8 q1 qi lo fo si)]) hP hD hS hA [1] (by decide +kernel) rfl
      refine va_calli (va_runV (As := [.int i1, .int 1]) (rest := []) ⟨hx₀, hb, hml, hown, hts⟩ (j_hasItems l dC dI cI cJ cQ H.size q1 i1 1 qi lo fo si (hh0)) (cwV 2 hts (kGV wd_896 wd_893 wd_894 wd_895 wd_51) rfl rfl rfl (by decide +kernel) ⟨Nat.le_of_ble_eq_true rfl, Nat.le_of_ble_eq_true rfl⟩) (k_preV8 (q0 := 0) hK hPc hDc hN rfl) rfl rfl hl.1 rfl (lv_room (Nat.le_of_ble_eq_true rfl)) dX11_itemRefusal_30 ⟨by decide +kernel, by decide +kernel⟩) hS (fun q _ h => hFc q h) hFc (fun r_3 u₀ t₀ H1 locs ht hvm hw hB hz1 hk1 hS => ?_)
      obtain ⟨hP1, hK1, hD1⟩ := hB
      rw [ht] at hP1
      have hJ := k_jn (wr := [(kX11 hx aLa aPa aGe aFl aTr aBe aLu aLo vSf vSm vCo vSh xs xl xf)]) (wt := [(kX11 hx aLa aPa aGe aFl aTr aBe aLu aLo vSf vSm vCo vSh xs xl xf), (kX8 q1 qi lo fo si)]) hP hD hC [0] rfl (by decide +kernel) (by decide +kernel) hk1 hFc hP1 hD1 rfl
      clear hP hD hPc hDc hFc hC hP1 hD1 hK1 hz1 hk1 hvm ht
      obtain ⟨hP, hD⟩ := hJ
      generalize H1 = H at hP hS ⊢
      try dsimp only at hw
      by_cases c_4 : 0 ≤ i1 ∧ 0 ≤ (1 : Int32) ∧ (1 : Int32) ≤ si ∧ i1 ≤ si - (1 : Int32)
      · rw [if_pos c_4] at hw
        refine k_topi (v := 1) hw ?_
        refine lv_if_eq (tgt := 40) hx₀ hb dX11_itemRefusal_33 (by decide) (fun c9 => absurd c9 (by decide +kernel)) (fun _ => ?_)
        refine lv_iconst (v := 0) hx₀ hb dX11_itemRefusal_36 (by decide +kernel) ?_
        refine lv_goto (tgt := 45) hx₀ hb dX11_itemRefusal_37 (by decide) ?_
        obtain ⟨hP9, hD9⟩ := k_c2 (wc := [(kX11 hx aLa aPa aGe aFl aTr aBe aLu aLo vSf vSm vCo vSh xs xl xf), (kX8 q1 qi lo fo si)]) hP hD [0, 1] (by decide +kernel) rfl
        exact W.iret (v := 0) hx₀ hb hr (fun t₀ ht hW => ⟨⟨0, (k_fn [xf], k_fa [], k_fl [], k_fL [], k_fp []), rfl, ⟨(show (0 : Int32) = if lo = 0 ∧ fo = fm ∧ 0 ≤ i1 ∧ i1 < si then 0 else if lo = 0 ∧ fo = fm then -12 else if lo = 0 then -13 else -11 from (if_pos (show lo = 0 ∧ fo = fm ∧ 0 ≤ i1 ∧ i1 < si from ⟨c_1, c_2, c_4.1, (lf_j_refuse_1 si i1 hh0 c_4)⟩)).symm), (kFd_ge (by decide)).symm⟩, by rw [ht]; exact hP9, va_K.moved hW.alike hK, hD9⟩, hS.F ht⟩) hS.2.2 dX11_itemRefusal_45
      rw [if_neg c_4] at hw
      refine k_topi (v := 0) hw ?_
      refine lv_if_eq (tgt := 40) hx₀ hb dX11_itemRefusal_33 (by decide) (fun _ => ?_) (fun c9 => absurd (by decide +kernel) c9)
      refine lv_aload_n hx₀ hb dX11_itemRefusal_40 rfl (lv_at hl 0 rfl) ?_
      refine lv_iconst (v := 2) hx₀ hb dX11_itemRefusal_41 (by decide +kernel) ?_
      obtain ⟨hPc, hDc, hFc, hC⟩ := k_cw (wc := [(kX11 hx aLa aPa aGe aFl aTr aBe aLu aLo vSf vSm vCo vSh xs xl xf)]) hP hD hS hA [0] (by decide +kernel) rfl
      refine va_calli (va_runV (As := [.int 2]) (rest := []) ⟨hx₀, hb, hml, hown, hts⟩ (j_found2 l dC dI cI cJ cQ H.size hx aLa aPa aGe aFl aTr aBe aLu aLo vSf vSm vCo vSh xs xl xf) (cwV 1 hts (kGV wd_387 wd_384 wd_385 wd_386 wd_2) rfl rfl rfl (by decide +kernel) ⟨Nat.le_of_ble_eq_true rfl, Nat.le_of_ble_eq_true rfl⟩) (k_preV10 (q0 := 0) hK hPc hDc hN rfl) rfl rfl hl.1 rfl (lv_room (Nat.le_of_ble_eq_true rfl)) dX11_itemRefusal_42 ⟨by decide +kernel, by decide +kernel⟩) hS (fun q _ h => hFc q h) hFc (fun r_5 u₀ t₀ H1 locs ht hvm hw hB hz1 hk1 hS => ?_)
      obtain ⟨hP1, hK1, hD1⟩ := hB
      rw [ht] at hP1
      have hJ := k_jn (wr := [(kX8 q1 qi lo fo si)]) (wt := [(kX8 q1 qi lo fo si), (kX11 hx aLa aPa aGe aFl aTr aBe aLu aLo vSf vSm vCo vSh xs xl 2)]) hP hD hC [1] rfl (by decide +kernel) (by decide +kernel) hk1 hFc hP1 hD1 rfl
      clear hP hD hPc hDc hFc hC hP1 hD1 hK1 hz1 hk1 hvm ht
      obtain ⟨hP, hD⟩ := hJ
      generalize H1 = H at hP hS ⊢
      try dsimp only at hw
      refine k_topi (v := (-12)) hw ?_
      obtain ⟨hP9, hD9⟩ := k_c2 (wc := [(kX11 hx aLa aPa aGe aFl aTr aBe aLu aLo vSf vSm vCo vSh xs xl 2), (kX8 q1 qi lo fo si)]) hP hD [1, 0] (by decide +kernel) rfl
      exact W.iret (v := (-12)) hx₀ hb hr (fun t₀ ht hW => ⟨⟨(-12), (k_fn [(2 : Int32)], k_fa [], k_fl [], k_fL [], k_fp []), rfl, ⟨(show ((-12) : Int32) = if lo = 0 ∧ fo = fm ∧ 0 ≤ i1 ∧ i1 < si then 0 else if lo = 0 ∧ fo = fm then -12 else if lo = 0 then -13 else -11 from (((if_pos (show lo = 0 ∧ fo = fm from ⟨c_1, c_2⟩)).symm).trans (if_neg (lf_j_refuse_2 si lo fo fm i1 hh0 c_1 c_2 c_4)).symm)), kFd_12.symm⟩, by rw [ht]; exact hP9, va_K.moved hW.alike hK, hD9⟩, hS.F ht⟩) hS.2.2 dX11_itemRefusal_45
    · refine lv_aload_n hx₀ hb dX11_itemRefusal_21 rfl (lv_at hl 0 rfl) ?_
      refine lv_iconst (v := 3) hx₀ hb dX11_itemRefusal_22 (by decide +kernel) ?_
      obtain ⟨hPc, hDc, hFc, hC⟩ := k_cw (wc := [(kX11 hx aLa aPa aGe aFl aTr aBe aLu aLo vSf vSm vCo vSh xs xl xf)]) hP hD hS hA [0] (by decide +kernel) rfl
      refine va_calli (va_runV (As := [.int 3]) (rest := []) ⟨hx₀, hb, hml, hown, hts⟩ (j_found3 l dC dI cI cJ cQ H.size hx aLa aPa aGe aFl aTr aBe aLu aLo vSf vSm vCo vSh xs xl xf) (cwV 1 hts (kGV wd_387 wd_384 wd_385 wd_386 wd_2) rfl rfl rfl (by decide +kernel) ⟨Nat.le_of_ble_eq_true rfl, Nat.le_of_ble_eq_true rfl⟩) (k_preV10 (q0 := 0) hK hPc hDc hN rfl) rfl rfl hl.1 rfl (lv_room (Nat.le_of_ble_eq_true rfl)) dX11_itemRefusal_23 ⟨by decide +kernel, by decide +kernel⟩) hS (fun q _ h => hFc q h) hFc (fun r_6 u₀ t₀ H1 locs ht hvm hw hB hz1 hk1 hS => ?_)
      obtain ⟨hP1, hK1, hD1⟩ := hB
      rw [ht] at hP1
      have hJ := k_jn (wr := [(kX8 q1 qi lo fo si)]) (wt := [(kX8 q1 qi lo fo si), (kX11 hx aLa aPa aGe aFl aTr aBe aLu aLo vSf vSm vCo vSh xs xl 3)]) hP hD hC [1] rfl (by decide +kernel) (by decide +kernel) hk1 hFc hP1 hD1 rfl
      clear hP hD hPc hDc hFc hC hP1 hD1 hK1 hz1 hk1 hvm ht
      obtain ⟨hP, hD⟩ := hJ
      generalize H1 = H at hP hS ⊢
      try dsimp only at hw
      refine k_topi (v := (-13)) hw ?_
      obtain ⟨hP9, hD9⟩ := k_c2 (wc := [(kX11 hx aLa aPa aGe aFl aTr aBe aLu aLo vSf vSm vCo vSh xs xl 3), (kX8 q1 qi lo fo si)]) hP hD [1, 0] (by decide +kernel) rfl
      exact W.iret (v := (-13)) hx₀ hb hr (fun t₀ ht hW => ⟨⟨(-13), (k_fn [(3 : Int32)], k_fa [], k_fl [], k_fL [], k_fp []), rfl, ⟨(show ((-13) : Int32) = if lo = 0 ∧ fo = fm ∧ 0 ≤ i1 ∧ i1 < si then 0 else if lo = 0 ∧ fo = fm then -12 else if lo = 0 then -13 else -11 from (((((if_pos (c_1)).symm).trans (if_neg (show ¬ (lo = 0 ∧ fo = fm) from (fun z => c_2 z.2))).symm)).trans (if_neg (show ¬ (lo = 0 ∧ fo = fm ∧ 0 ≤ i1 ∧ i1 < si) from (fun z => c_2 z.2.1))).symm)), kFd_13.symm⟩, by rw [ht]; exact hP9, va_K.moved hW.alike hK, hD9⟩, hS.F ht⟩) hS.2.2 dX11_itemRefusal_26
  · refine lv_aload_n hx₀ hb dX11_itemRefusal_7 rfl (lv_at hl 0 rfl) ?_
    refine lv_iconst (v := 1) hx₀ hb dX11_itemRefusal_8 (by decide +kernel) ?_
    obtain ⟨hPc, hDc, hFc, hC⟩ := k_cw (wc := [(kX11 hx aLa aPa aGe aFl aTr aBe aLu aLo vSf vSm vCo vSh xs xl xf)]) hP hD hS hA [0] (by decide +kernel) rfl
    refine va_calli (va_runV (As := [.int 1]) (rest := []) ⟨hx₀, hb, hml, hown, hts⟩ (j_found1 l dC dI cI cJ cQ H.size hx aLa aPa aGe aFl aTr aBe aLu aLo vSf vSm vCo vSh xs xl xf) (cwV 1 hts (kGV wd_387 wd_384 wd_385 wd_386 wd_2) rfl rfl rfl (by decide +kernel) ⟨Nat.le_of_ble_eq_true rfl, Nat.le_of_ble_eq_true rfl⟩) (k_preV10 (q0 := 0) hK hPc hDc hN rfl) rfl rfl hl.1 rfl (lv_room (Nat.le_of_ble_eq_true rfl)) dX11_itemRefusal_9 ⟨by decide +kernel, by decide +kernel⟩) hS (fun q _ h => hFc q h) hFc (fun r_7 u₀ t₀ H1 locs ht hvm hw hB hz1 hk1 hS => ?_)
    obtain ⟨hP1, hK1, hD1⟩ := hB
    rw [ht] at hP1
    have hJ := k_jn (wr := [(kX8 q1 qi lo fo si)]) (wt := [(kX8 q1 qi lo fo si), (kX11 hx aLa aPa aGe aFl aTr aBe aLu aLo vSf vSm vCo vSh xs xl 1)]) hP hD hC [1] rfl (by decide +kernel) (by decide +kernel) hk1 hFc hP1 hD1 rfl
    clear hP hD hPc hDc hFc hC hP1 hD1 hK1 hz1 hk1 hvm ht
    obtain ⟨hP, hD⟩ := hJ
    generalize H1 = H at hP hS ⊢
    try dsimp only at hw
    refine k_topi (v := (-11)) hw ?_
    obtain ⟨hP9, hD9⟩ := k_c2 (wc := [(kX11 hx aLa aPa aGe aFl aTr aBe aLu aLo vSf vSm vCo vSh xs xl 1), (kX8 q1 qi lo fo si)]) hP hD [1, 0] (by decide +kernel) rfl
    exact W.iret (v := (-11)) hx₀ hb hr (fun t₀ ht hW => ⟨⟨(-11), (k_fn [(1 : Int32)], k_fa [], k_fl [], k_fL [], k_fp []), rfl, ⟨(show ((-11) : Int32) = if lo = 0 ∧ fo = fm ∧ 0 ≤ i1 ∧ i1 < si then 0 else if lo = 0 ∧ fo = fm then -12 else if lo = 0 then -13 else -11 from (((((if_neg (c_1)).symm).trans (if_neg (show ¬ (lo = 0 ∧ fo = fm) from (fun z => c_1 z.1))).symm)).trans (if_neg (show ¬ (lo = 0 ∧ fo = fm ∧ 0 ≤ i1 ∧ i1 < si) from (fun z => c_1 z.1))).symm)), kFd_11.symm⟩, by rw [ht]; exact hP9, va_K.moved hW.alike hK, hD9⟩, hS.F ht⟩) hS.2.2 dX11_itemRefusal_12
