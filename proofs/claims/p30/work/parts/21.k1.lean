set_option maxHeartbeats 4000000 in
set_option maxRecDepth 100000 in
theorem k_Text_X4 (l : Launch) (dC : Nat → ClassId) (dI : Nat → Nat → Nat) (cI cJ cQ : ClassId) (sz : Nat) (h : Nat) : Met l yX9_init (kW yX9_init cX9_init 2 none) { frames := 1, cells := 1, slots := 24, locals := 21 } (kPre dC dI cI cJ cQ sz [.ref h, .int 24] [(h, .inr (4, [.null, .int 0, .int 0, .int 0]))]) (va_Qv (fun (_ : Nat) => True) (fun (u : Nat) t₀ => kB dC dI cI cJ cQ (va_A [(h, .inr (4, [.null, .int 0, .int 0, .int 0]))] sz) [(kX4 h (u) 0 (-1) 0), (kAI (u) cI 24 (fun _ => 0))] t₀) (va_A [(h, .inr (4, [.null, .int 0, .int 0, .int 0]))] sz)) 1 24 (va_A [(h, .inr (4, [.null, .int 0, .int 0, .int 0]))] sz) := by
  refine Met.ofW (cc := cX9_init) (maxL := 2) (ret := none) (by decide) rfl ?_
  intro p₀ e₀ s₀ m₀ args below meth c₀ s₁ B hml hv₀
  obtain ⟨rfl, hsz, hP, hK, hD0, hN⟩ := hv₀
  have hx₀ := B.exec
  have hb := B.bytes
  have hr := B.returns
  have hts := atoms_spec (ws := (kW yX9_init cX9_init 2 none)) B.pre
  have hts := fun w h => hts w (List.mem_cons_of_mem _ h)
  have hown : s₀.vm.findClass RX9 = some m₀.cls := findClass_of_methodNamed B.named
  have hlocks := B.notSynchronized
  have hin : meth.name = "<init>" := (name_of_methodNamed B.named B.method).1
  subst hsz
  have hD := hD0.self (sz := s₀.heap.size)
  generalize hAe : va_A [(h, .inr (4, [.null, .int 0, .int 0, .int 0]))] s₀.heap.size = A at hD ⊢
  have hA : ∀ q : Nat, s₀.heap.size ≤ q → A q := fun q h => by rw [← hAe]; exact Or.inr h
  have hS : va_S A s₀.heap s₀.heap [] := va_S.rf
  have hP : va_P (dC, dI) vwCl [(h, .inr (4, [.null, .int 0, .int 0, .int 0]))] s₀.heap := hP
  have hl := lv_entry ([.ref h, .int 24]) (n := 2) (Nat.le_of_ble_eq_true rfl)
  rw [lg_entry_eq]
  generalize (lg_sl ([.ref h, .int 24]) ++ List.replicate (2 - (lg_sl ([.ref h, .int 24])).length) Slot.unset).toArray = ls at hl ⊢
  have hl : lv_has ls 2 [(0, .ref h), (1, .int 24)] := hl
  obtain ⟨H, hH⟩ : ∃ z : Heap, z = s₀.heap := ⟨_, rfl⟩
  rw [← hH] at hP
  have hS : va_S A s₀.heap H [] := by rw [hH]; exact hS
  refine k_heap hH ?_
  have hD : va_D A [(h, .inr (4, [.null, .int 0, .int 0, .int 0]))] := hD
  obtain ⟨locs, hlo⟩ : ∃ z : List Loc, z = [] := ⟨_, rfl⟩
  rw [← hlo] at hS ⊢
  clear hlo hH hAe hD0
  refine lv_aload_n hx₀ hb dX9_init_0 rfl (lv_at hl 0 rfl) ?_
  refine W.objInit hx₀ hb hown (hts (.methodLink RX9 3 objectInit) wd_59) (hts (.instanceMethod objectInit) wd_10) (hts (.code objectInit ⟨#[0xb1]⟩ 1 none) wd_11) rfl (by rw [hml]; exact hl.1) rfl dX9_init_1 (Nat.le_of_ble_eq_true rfl) (Nat.le_of_ble_eq_true rfl) ?_
  refine W.eq (g2 := F0 m₀ 4 ls []) rfl ?_
  refine lv_aload_n hx₀ hb dX9_init_4 rfl (lv_at hl 0 rfl) ?_
  refine lv_iconst (v := (-1)) hx₀ hb dX9_init_5 (by decide +kernel) ?_
  refine va_put (D := (dC, dI)) (ci := 4) (v := .int (-1)) (ty := .int) (C := RX4) (T := TX4) (N := 4) hx₀ hb hts inlX4 tyX4 tyX4_ok nmX4 hown hK hP hD hS 0 rfl rfl 2 (by decide) (hts (.fieldLink RX9 9 "BittenStick$Text" "faultAt" "I") wd_60) (fun _ h9 => h9) rfl (by decide +kernel) rfl rfl (Nat.le_of_ble_eq_true rfl) dX9_init_6 ?_
  clear hP hD hS
  intro H locs hP hD hS
  replace hP := k_w2 (wt := [(h, .inr (4, [.null, .int 0, .int (-1), .int 0]))]) hP hD rfl
  replace hD := hP.2
  replace hP := hP.1
  refine lv_aload_n hx₀ hb dX9_init_9 rfl (lv_at hl 0 rfl) ?_
  refine lv_iconst (v := 0) hx₀ hb dX9_init_10 (by decide +kernel) ?_
  refine lv_iload_n hx₀ hb dX9_init_11 rfl (lv_at hl 1 rfl) ?_
  refine va_mmax hx₀ hb (by rw [hml]; exact hl.1.symm) hown (hts (.methodLink RX9 15 Lib.Math.max.name) wd_61) (hts (.static Lib.Math.max.name) wd_62) (hts (.initialized "java/lang/Math") wd_63) (hts (.code Lib.Math.max.name Lib.Math.max.code 2 (some .int)) wd_64) (by decide) (Nat.le_of_ble_eq_true rfl) (by decide) (by decide) dX9_init_12 ?_
  refine k_topi (v := 24) (by decide +kernel) ?_
  refine k_newaI (N' := 24) hx₀ hb (hts (.arrayClass .int) wd_44) hK hP hD hS hA (by decide +kernel) (by decide +kernel) (by decide +kernel) (by decide +kernel) (by decide +kernel) dX9_init_15 (fun qa_1 H hP hD hS => ?_)
  replace hP := k_w2 (wt := [(h, .inr (4, [.null, .int 0, .int (-1), .int 0])), (kAI qa_1 cI 24 (fun _ => 0))]) hP hD rfl
  replace hD := hP.2
  replace hP := hP.1
  refine W.widen (k := 1) (n := 24) (by omega) (by omega) ?_
  refine va_putF (D := (dC, dI)) (ci := 4) (v := .ref qa_1) (ty := .array .int) (C := RX4) (T := TX4) (N := 4) hx₀ hb hts inlX4 tyX4 tyX4_ok nmX4 hown hK hP hD hS 0 rfl rfl 0 (by decide) (hts (.fieldLink RX9 21 "BittenStick$Text" "values" "[I") wd_65) (fun _ h9 => h9) rfl hin rfl (by decide +kernel) rfl rfl (Nat.le_of_ble_eq_true rfl) dX9_init_17 ?_
  clear hP hD hS
  intro H locs hP hD hS
  replace hP := k_w2 (wt := [(kX4 h qa_1 0 (-1) 0), (kAI qa_1 cI 24 (fun _ => 0))]) hP hD rfl
  replace hD := hP.2
  replace hP := hP.1
  refine W.widen (k := 1) (n := 24) (by decide +kernel) (by decide +kernel) ?_
  obtain ⟨hP9, hD9⟩ := k_c2 (wc := [(kX4 h qa_1 0 (-1) 0), (kAI qa_1 cI 24 (fun _ => 0))]) hP hD [0, 1] (by decide +kernel) rfl
  exact W.vret hx₀ hb hr (fun t₀ ht hW => ⟨⟨(qa_1), rfl, trivial, by rw [ht]; exact hP9, va_K.moved hW.alike hK, hD9⟩, hS.F ht⟩) hS.2.2 dX9_init_20
set_option maxHeartbeats 4000000 in
set_option maxRecDepth 100000 in
theorem k_X4 (l : Launch) (dC : Nat → ClassId) (dI : Nat → Nat → Nat) (cI cJ cQ : ClassId) (sz : Nat) (h : Nat) : Met l yX4_init (kW yX4_init cX4_init 1 none) { frames := 2, cells := 1, slots := 24, locals := 42 } (kPre dC dI cI cJ cQ sz [.ref h] [(h, .inr (4, [.null, .int 0, .int 0, .int 0]))]) (va_Qv (fun (_ : Nat) => True) (fun (u : Nat) t₀ => kB dC dI cI cJ cQ (va_A [(h, .inr (4, [.null, .int 0, .int 0, .int 0]))] sz) [(kX4 h (u) 0 (-1) 0), (kAI (u) cI 24 (fun _ => 0))] t₀) (va_A [(h, .inr (4, [.null, .int 0, .int 0, .int 0]))] sz)) 1 24 (va_A [(h, .inr (4, [.null, .int 0, .int 0, .int 0]))] sz) := by
  refine Met.ofW (cc := cX4_init) (maxL := 1) (ret := none) (by decide) rfl ?_
  intro p₀ e₀ s₀ m₀ args below meth c₀ s₁ B hml hv₀
  obtain ⟨rfl, hsz, hP, hK, hD0, hN⟩ := hv₀
  have hx₀ := B.exec
  have hb := B.bytes
  have hr := B.returns
  have hts := atoms_spec (ws := (kW yX4_init cX4_init 1 none)) B.pre
  have hts := fun w h => hts w (List.mem_cons_of_mem _ h)
  have hown : s₀.vm.findClass RX4 = some m₀.cls := findClass_of_methodNamed B.named
  have hlocks := B.notSynchronized
  have hin : meth.name = "<init>" := (name_of_methodNamed B.named B.method).1
  subst hsz
  have hD := hD0.self (sz := s₀.heap.size)
  generalize hAe : va_A [(h, .inr (4, [.null, .int 0, .int 0, .int 0]))] s₀.heap.size = A at hD ⊢
  have hA : ∀ q : Nat, s₀.heap.size ≤ q → A q := fun q h => by rw [← hAe]; exact Or.inr h
  have hS : va_S A s₀.heap s₀.heap [] := va_S.rf
  have hP : va_P (dC, dI) vwCl [(h, .inr (4, [.null, .int 0, .int 0, .int 0]))] s₀.heap := hP
  have hl := lv_entry ([.ref h]) (n := 1) (Nat.le_of_ble_eq_true rfl)
  rw [lg_entry_eq]
  generalize (lg_sl ([.ref h]) ++ List.replicate (1 - (lg_sl ([.ref h])).length) Slot.unset).toArray = ls at hl ⊢
  have hl : lv_has ls 1 [(0, .ref h)] := hl
  obtain ⟨H, hH⟩ : ∃ z : Heap, z = s₀.heap := ⟨_, rfl⟩
  rw [← hH] at hP
  have hS : va_S A s₀.heap H [] := by rw [hH]; exact hS
  refine k_heap hH ?_
  have hD : va_D A [(h, .inr (4, [.null, .int 0, .int 0, .int 0]))] := hD
  obtain ⟨locs, hlo⟩ : ∃ z : List Loc, z = [] := ⟨_, rfl⟩
  rw [← hlo] at hS ⊢
  clear hlo hH hAe hD0
  refine lv_aload_n hx₀ hb dX4_init_0 rfl (lv_at hl 0 rfl) ?_
  refine lv_bipush (v := 24) hx₀ hb dX4_init_1 (by decide +kernel) ?_
  obtain ⟨hPc, hDc, hFc, hC⟩ := k_cw (wc := [(h, .inr (4, [.null, .int 0, .int 0, .int 0]))]) hP hD hS hA [0] (by decide +kernel) rfl
  refine va_callv (va_runI (As := [.int 24]) (rest := []) ⟨hx₀, hb, hml, hown, hts⟩ (k_Text_X4 l dC dI cI cJ cQ H.size h) (cwI 1 hts (kG wd_58) rfl rfl rfl (hts (.initialized RX9) wd_57) (hts (.methodLink RX4 3 yX9_init) wd_55) (hts (.instanceMethod yX9_init) wd_56) rfl (by decide +kernel) ⟨Nat.le_of_ble_eq_true rfl, Nat.le_of_ble_eq_true rfl⟩) (k_preS hK hPc hDc hN) rfl rfl hl.1 rfl (lv_room (Nat.le_of_ble_eq_true rfl)) dX4_init_3 ⟨by decide +kernel, by decide +kernel⟩) hS (fun q _ h => hFc q h) hFc (fun u₀ t₀ H1 locs ht hvm hw hB hz1 hk1 hS => ?_)
  obtain ⟨qn_2, rfl⟩ : ∃ z, z = u₀ := ⟨_, rfl⟩
  obtain ⟨hP1, hK1, hD1⟩ := hB
  rw [ht] at hP1
  have hJ := k_jn (wr := []) (wt := [(kX4 h qn_2 0 (-1) 0), (kAI qn_2 cI 24 (fun _ => 0))]) hP hD hC [] rfl (by decide +kernel) (by decide +kernel) hk1 hFc hP1 hD1 rfl
  clear hP hD hPc hDc hFc hC hP1 hD1 hK1 hz1 hk1 hvm ht
  obtain ⟨hP, hD⟩ := hJ
  generalize H1 = H at hP hS ⊢
  refine W.widen (k := 1) (n := 24) (by omega) (by omega) ?_
  refine W.widen (k := 1) (n := 24) (by decide +kernel) (by decide +kernel) ?_
  obtain ⟨hP9, hD9⟩ := k_c2 (wc := [(kX4 h qn_2 0 (-1) 0), (kAI qn_2 cI 24 (fun _ => 0))]) hP hD [0, 1] (by decide +kernel) rfl
  exact W.vret hx₀ hb hr (fun t₀ ht hW => ⟨⟨(qn_2), rfl, trivial, by rw [ht]; exact hP9, va_K.moved hW.alike hK, hD9⟩, hS.F ht⟩) hS.2.2 dX4_init_6
set_option maxHeartbeats 4000000 in
set_option maxRecDepth 100000 in
theorem k_Text_X7 (l : Launch) (dC : Nat → ClassId) (dI : Nat → Nat → Nat) (cI cJ cQ : ClassId) (sz : Nat) (h : Nat) : Met l yX9_init (kW yX9_init cX9_init 2 none) { frames := 1, cells := 1, slots := 39, locals := 21 } (kPre dC dI cI cJ cQ sz [.ref h, .int 39] [(h, .inr (7, [.null, .int 0, .int 0, .int 0]))]) (va_Qv (fun (_ : Nat) => True) (fun (u : Nat) t₀ => kB dC dI cI cJ cQ (va_A [(h, .inr (7, [.null, .int 0, .int 0, .int 0]))] sz) [(kX7 h (u) 0 (-1) 0), (kAI (u) cI 39 (fun _ => 0))] t₀) (va_A [(h, .inr (7, [.null, .int 0, .int 0, .int 0]))] sz)) 1 39 (va_A [(h, .inr (7, [.null, .int 0, .int 0, .int 0]))] sz) := by
  refine Met.ofW (cc := cX9_init) (maxL := 2) (ret := none) (by decide) rfl ?_
  intro p₀ e₀ s₀ m₀ args below meth c₀ s₁ B hml hv₀
  obtain ⟨rfl, hsz, hP, hK, hD0, hN⟩ := hv₀
  have hx₀ := B.exec
  have hb := B.bytes
  have hr := B.returns
  have hts := atoms_spec (ws := (kW yX9_init cX9_init 2 none)) B.pre
  have hts := fun w h => hts w (List.mem_cons_of_mem _ h)
  have hown : s₀.vm.findClass RX9 = some m₀.cls := findClass_of_methodNamed B.named
  have hlocks := B.notSynchronized
  have hin : meth.name = "<init>" := (name_of_methodNamed B.named B.method).1
  subst hsz
  have hD := hD0.self (sz := s₀.heap.size)
  generalize hAe : va_A [(h, .inr (7, [.null, .int 0, .int 0, .int 0]))] s₀.heap.size = A at hD ⊢
  have hA : ∀ q : Nat, s₀.heap.size ≤ q → A q := fun q h => by rw [← hAe]; exact Or.inr h
  have hS : va_S A s₀.heap s₀.heap [] := va_S.rf
  have hP : va_P (dC, dI) vwCl [(h, .inr (7, [.null, .int 0, .int 0, .int 0]))] s₀.heap := hP
  have hl := lv_entry ([.ref h, .int 39]) (n := 2) (Nat.le_of_ble_eq_true rfl)
  rw [lg_entry_eq]
  generalize (lg_sl ([.ref h, .int 39]) ++ List.replicate (2 - (lg_sl ([.ref h, .int 39])).length) Slot.unset).toArray = ls at hl ⊢
  have hl : lv_has ls 2 [(0, .ref h), (1, .int 39)] := hl
  obtain ⟨H, hH⟩ : ∃ z : Heap, z = s₀.heap := ⟨_, rfl⟩
  rw [← hH] at hP
  have hS : va_S A s₀.heap H [] := by rw [hH]; exact hS
  refine k_heap hH ?_
  have hD : va_D A [(h, .inr (7, [.null, .int 0, .int 0, .int 0]))] := hD
  obtain ⟨locs, hlo⟩ : ∃ z : List Loc, z = [] := ⟨_, rfl⟩
  rw [← hlo] at hS ⊢
  clear hlo hH hAe hD0
  refine lv_aload_n hx₀ hb dX9_init_0 rfl (lv_at hl 0 rfl) ?_
  refine W.objInit hx₀ hb hown (hts (.methodLink RX9 3 objectInit) wd_59) (hts (.instanceMethod objectInit) wd_10) (hts (.code objectInit ⟨#[0xb1]⟩ 1 none) wd_11) rfl (by rw [hml]; exact hl.1) rfl dX9_init_1 (Nat.le_of_ble_eq_true rfl) (Nat.le_of_ble_eq_true rfl) ?_
  refine W.eq (g2 := F0 m₀ 4 ls []) rfl ?_
  refine lv_aload_n hx₀ hb dX9_init_4 rfl (lv_at hl 0 rfl) ?_
  refine lv_iconst (v := (-1)) hx₀ hb dX9_init_5 (by decide +kernel) ?_
  refine va_put (D := (dC, dI)) (ci := 7) (v := .int (-1)) (ty := .int) (C := RX7) (T := TX7) (N := 4) hx₀ hb hts inlX7 tyX7 tyX7_ok nmX7 hown hK hP hD hS 0 rfl rfl 2 (by decide) (hts (.fieldLink RX9 9 "BittenStick$Text" "faultAt" "I") wd_60) (fun _ h9 => h9) rfl (by decide +kernel) rfl rfl (Nat.le_of_ble_eq_true rfl) dX9_init_6 ?_
  clear hP hD hS
  intro H locs hP hD hS
  replace hP := k_w2 (wt := [(h, .inr (7, [.null, .int 0, .int (-1), .int 0]))]) hP hD rfl
  replace hD := hP.2
  replace hP := hP.1
  refine lv_aload_n hx₀ hb dX9_init_9 rfl (lv_at hl 0 rfl) ?_
  refine lv_iconst (v := 0) hx₀ hb dX9_init_10 (by decide +kernel) ?_
  refine lv_iload_n hx₀ hb dX9_init_11 rfl (lv_at hl 1 rfl) ?_
  refine va_mmax hx₀ hb (by rw [hml]; exact hl.1.symm) hown (hts (.methodLink RX9 15 Lib.Math.max.name) wd_61) (hts (.static Lib.Math.max.name) wd_62) (hts (.initialized "java/lang/Math") wd_63) (hts (.code Lib.Math.max.name Lib.Math.max.code 2 (some .int)) wd_64) (by decide) (Nat.le_of_ble_eq_true rfl) (by decide) (by decide) dX9_init_12 ?_
  refine k_topi (v := 39) (by decide +kernel) ?_
  refine k_newaI (N' := 39) hx₀ hb (hts (.arrayClass .int) wd_44) hK hP hD hS hA (by decide +kernel) (by decide +kernel) (by decide +kernel) (by decide +kernel) (by decide +kernel) dX9_init_15 (fun qa_1 H hP hD hS => ?_)
  replace hP := k_w2 (wt := [(h, .inr (7, [.null, .int 0, .int (-1), .int 0])), (kAI qa_1 cI 39 (fun _ => 0))]) hP hD rfl
  replace hD := hP.2
  replace hP := hP.1
  refine W.widen (k := 1) (n := 39) (by omega) (by omega) ?_
  refine va_putF (D := (dC, dI)) (ci := 7) (v := .ref qa_1) (ty := .array .int) (C := RX7) (T := TX7) (N := 4) hx₀ hb hts inlX7 tyX7 tyX7_ok nmX7 hown hK hP hD hS 0 rfl rfl 0 (by decide) (hts (.fieldLink RX9 21 "BittenStick$Text" "values" "[I") wd_65) (fun _ h9 => h9) rfl hin rfl (by decide +kernel) rfl rfl (Nat.le_of_ble_eq_true rfl) dX9_init_17 ?_
  clear hP hD hS
  intro H locs hP hD hS
  replace hP := k_w2 (wt := [(kX7 h qa_1 0 (-1) 0), (kAI qa_1 cI 39 (fun _ => 0))]) hP hD rfl
  replace hD := hP.2
  replace hP := hP.1
  refine W.widen (k := 1) (n := 39) (by decide +kernel) (by decide +kernel) ?_
  obtain ⟨hP9, hD9⟩ := k_c2 (wc := [(kX7 h qa_1 0 (-1) 0), (kAI qa_1 cI 39 (fun _ => 0))]) hP hD [0, 1] (by decide +kernel) rfl
  exact W.vret hx₀ hb hr (fun t₀ ht hW => ⟨⟨(qa_1), rfl, trivial, by rw [ht]; exact hP9, va_K.moved hW.alike hK, hD9⟩, hS.F ht⟩) hS.2.2 dX9_init_20
set_option maxHeartbeats 4000000 in
set_option maxRecDepth 100000 in
theorem k_X7 (l : Launch) (dC : Nat → ClassId) (dI : Nat → Nat → Nat) (cI cJ cQ : ClassId) (sz : Nat) (h : Nat) : Met l yX7_init (kW yX7_init cX7_init 1 none) { frames := 2, cells := 1, slots := 39, locals := 42 } (kPre dC dI cI cJ cQ sz [.ref h] [(h, .inr (7, [.null, .int 0, .int 0, .int 0]))]) (va_Qv (fun (_ : Nat) => True) (fun (u : Nat) t₀ => kB dC dI cI cJ cQ (va_A [(h, .inr (7, [.null, .int 0, .int 0, .int 0]))] sz) [(kX7 h (u) 0 (-1) 0), (kAI (u) cI 39 (fun _ => 0))] t₀) (va_A [(h, .inr (7, [.null, .int 0, .int 0, .int 0]))] sz)) 1 39 (va_A [(h, .inr (7, [.null, .int 0, .int 0, .int 0]))] sz) := by
  refine Met.ofW (cc := cX7_init) (maxL := 1) (ret := none) (by decide) rfl ?_
  intro p₀ e₀ s₀ m₀ args below meth c₀ s₁ B hml hv₀
  obtain ⟨rfl, hsz, hP, hK, hD0, hN⟩ := hv₀
  have hx₀ := B.exec
  have hb := B.bytes
  have hr := B.returns
  have hts := atoms_spec (ws := (kW yX7_init cX7_init 1 none)) B.pre
  have hts := fun w h => hts w (List.mem_cons_of_mem _ h)
  have hown : s₀.vm.findClass RX7 = some m₀.cls := findClass_of_methodNamed B.named
  have hlocks := B.notSynchronized
  have hin : meth.name = "<init>" := (name_of_methodNamed B.named B.method).1
  subst hsz
  have hD := hD0.self (sz := s₀.heap.size)
  generalize hAe : va_A [(h, .inr (7, [.null, .int 0, .int 0, .int 0]))] s₀.heap.size = A at hD ⊢
  have hA : ∀ q : Nat, s₀.heap.size ≤ q → A q := fun q h => by rw [← hAe]; exact Or.inr h
  have hS : va_S A s₀.heap s₀.heap [] := va_S.rf
  have hP : va_P (dC, dI) vwCl [(h, .inr (7, [.null, .int 0, .int 0, .int 0]))] s₀.heap := hP
  have hl := lv_entry ([.ref h]) (n := 1) (Nat.le_of_ble_eq_true rfl)
  rw [lg_entry_eq]
  generalize (lg_sl ([.ref h]) ++ List.replicate (1 - (lg_sl ([.ref h])).length) Slot.unset).toArray = ls at hl ⊢
  have hl : lv_has ls 1 [(0, .ref h)] := hl
  obtain ⟨H, hH⟩ : ∃ z : Heap, z = s₀.heap := ⟨_, rfl⟩
  rw [← hH] at hP
  have hS : va_S A s₀.heap H [] := by rw [hH]; exact hS
  refine k_heap hH ?_
  have hD : va_D A [(h, .inr (7, [.null, .int 0, .int 0, .int 0]))] := hD
  obtain ⟨locs, hlo⟩ : ∃ z : List Loc, z = [] := ⟨_, rfl⟩
  rw [← hlo] at hS ⊢
  clear hlo hH hAe hD0
  refine lv_aload_n hx₀ hb dX7_init_0 rfl (lv_at hl 0 rfl) ?_
  refine lv_bipush (v := 39) hx₀ hb dX7_init_1 (by decide +kernel) ?_
  obtain ⟨hPc, hDc, hFc, hC⟩ := k_cw (wc := [(h, .inr (7, [.null, .int 0, .int 0, .int 0]))]) hP hD hS hA [0] (by decide +kernel) rfl
  refine va_callv (va_runI (As := [.int 39]) (rest := []) ⟨hx₀, hb, hml, hown, hts⟩ (k_Text_X7 l dC dI cI cJ cQ H.size h) (cwI 1 hts (kG wd_58) rfl rfl rfl (hts (.initialized RX9) wd_57) (hts (.methodLink RX7 3 yX9_init) wd_69) (hts (.instanceMethod yX9_init) wd_56) rfl (by decide +kernel) ⟨Nat.le_of_ble_eq_true rfl, Nat.le_of_ble_eq_true rfl⟩) (k_preS hK hPc hDc hN) rfl rfl hl.1 rfl (lv_room (Nat.le_of_ble_eq_true rfl)) dX7_init_3 ⟨by decide +kernel, by decide +kernel⟩) hS (fun q _ h => hFc q h) hFc (fun u₀ t₀ H1 locs ht hvm hw hB hz1 hk1 hS => ?_)
  obtain ⟨qn_2, rfl⟩ : ∃ z, z = u₀ := ⟨_, rfl⟩
  obtain ⟨hP1, hK1, hD1⟩ := hB
  rw [ht] at hP1
  have hJ := k_jn (wr := []) (wt := [(kX7 h qn_2 0 (-1) 0), (kAI qn_2 cI 39 (fun _ => 0))]) hP hD hC [] rfl (by decide +kernel) (by decide +kernel) hk1 hFc hP1 hD1 rfl
  clear hP hD hPc hDc hFc hC hP1 hD1 hK1 hz1 hk1 hvm ht
  obtain ⟨hP, hD⟩ := hJ
  generalize H1 = H at hP hS ⊢
  refine W.widen (k := 1) (n := 39) (by omega) (by omega) ?_
  refine W.widen (k := 1) (n := 39) (by decide +kernel) (by decide +kernel) ?_
  obtain ⟨hP9, hD9⟩ := k_c2 (wc := [(kX7 h qn_2 0 (-1) 0), (kAI qn_2 cI 39 (fun _ => 0))]) hP hD [0, 1] (by decide +kernel) rfl
  exact W.vret hx₀ hb hr (fun t₀ ht hW => ⟨⟨(qn_2), rfl, trivial, by rw [ht]; exact hP9, va_K.moved hW.alike hK, hD9⟩, hS.F ht⟩) hS.2.2 dX7_init_6
set_option maxHeartbeats 4000000 in
set_option maxRecDepth 100000 in
theorem k_Text_X2 (l : Launch) (dC : Nat → ClassId) (dI : Nat → Nat → Nat) (cI cJ cQ : ClassId) (sz : Nat) (h : Nat) : Met l yX9_init (kW yX9_init cX9_init 2 none) { frames := 1, cells := 1, slots := 23, locals := 21 } (kPre dC dI cI cJ cQ sz [.ref h, .int 23] [(h, .inr (2, [.null, .int 0, .int 0, .int 0]))]) (va_Qv (fun (_ : Nat) => True) (fun (u : Nat) t₀ => kB dC dI cI cJ cQ (va_A [(h, .inr (2, [.null, .int 0, .int 0, .int 0]))] sz) [(kX2 h (u) 0 (-1) 0), (kAI (u) cI 23 (fun _ => 0))] t₀) (va_A [(h, .inr (2, [.null, .int 0, .int 0, .int 0]))] sz)) 1 23 (va_A [(h, .inr (2, [.null, .int 0, .int 0, .int 0]))] sz) := by
  refine Met.ofW (cc := cX9_init) (maxL := 2) (ret := none) (by decide) rfl ?_
  intro p₀ e₀ s₀ m₀ args below meth c₀ s₁ B hml hv₀
  obtain ⟨rfl, hsz, hP, hK, hD0, hN⟩ := hv₀
  have hx₀ := B.exec
  have hb := B.bytes
  have hr := B.returns
  have hts := atoms_spec (ws := (kW yX9_init cX9_init 2 none)) B.pre
  have hts := fun w h => hts w (List.mem_cons_of_mem _ h)
  have hown : s₀.vm.findClass RX9 = some m₀.cls := findClass_of_methodNamed B.named
  have hlocks := B.notSynchronized
  have hin : meth.name = "<init>" := (name_of_methodNamed B.named B.method).1
  subst hsz
  have hD := hD0.self (sz := s₀.heap.size)
  generalize hAe : va_A [(h, .inr (2, [.null, .int 0, .int 0, .int 0]))] s₀.heap.size = A at hD ⊢
  have hA : ∀ q : Nat, s₀.heap.size ≤ q → A q := fun q h => by rw [← hAe]; exact Or.inr h
  have hS : va_S A s₀.heap s₀.heap [] := va_S.rf
  have hP : va_P (dC, dI) vwCl [(h, .inr (2, [.null, .int 0, .int 0, .int 0]))] s₀.heap := hP
  have hl := lv_entry ([.ref h, .int 23]) (n := 2) (Nat.le_of_ble_eq_true rfl)
  rw [lg_entry_eq]
  generalize (lg_sl ([.ref h, .int 23]) ++ List.replicate (2 - (lg_sl ([.ref h, .int 23])).length) Slot.unset).toArray = ls at hl ⊢
  have hl : lv_has ls 2 [(0, .ref h), (1, .int 23)] := hl
  obtain ⟨H, hH⟩ : ∃ z : Heap, z = s₀.heap := ⟨_, rfl⟩
  rw [← hH] at hP
  have hS : va_S A s₀.heap H [] := by rw [hH]; exact hS
  refine k_heap hH ?_
  have hD : va_D A [(h, .inr (2, [.null, .int 0, .int 0, .int 0]))] := hD
  obtain ⟨locs, hlo⟩ : ∃ z : List Loc, z = [] := ⟨_, rfl⟩
  rw [← hlo] at hS ⊢
  clear hlo hH hAe hD0
  refine lv_aload_n hx₀ hb dX9_init_0 rfl (lv_at hl 0 rfl) ?_
  refine W.objInit hx₀ hb hown (hts (.methodLink RX9 3 objectInit) wd_59) (hts (.instanceMethod objectInit) wd_10) (hts (.code objectInit ⟨#[0xb1]⟩ 1 none) wd_11) rfl (by rw [hml]; exact hl.1) rfl dX9_init_1 (Nat.le_of_ble_eq_true rfl) (Nat.le_of_ble_eq_true rfl) ?_
  refine W.eq (g2 := F0 m₀ 4 ls []) rfl ?_
  refine lv_aload_n hx₀ hb dX9_init_4 rfl (lv_at hl 0 rfl) ?_
  refine lv_iconst (v := (-1)) hx₀ hb dX9_init_5 (by decide +kernel) ?_
  refine va_put (D := (dC, dI)) (ci := 2) (v := .int (-1)) (ty := .int) (C := RX2) (T := TX2) (N := 4) hx₀ hb hts inlX2 tyX2 tyX2_ok nmX2 hown hK hP hD hS 0 rfl rfl 2 (by decide) (hts (.fieldLink RX9 9 "BittenStick$Text" "faultAt" "I") wd_60) (fun _ h9 => h9) rfl (by decide +kernel) rfl rfl (Nat.le_of_ble_eq_true rfl) dX9_init_6 ?_
  clear hP hD hS
  intro H locs hP hD hS
  replace hP := k_w2 (wt := [(h, .inr (2, [.null, .int 0, .int (-1), .int 0]))]) hP hD rfl
  replace hD := hP.2
  replace hP := hP.1
  refine lv_aload_n hx₀ hb dX9_init_9 rfl (lv_at hl 0 rfl) ?_
  refine lv_iconst (v := 0) hx₀ hb dX9_init_10 (by decide +kernel) ?_
  refine lv_iload_n hx₀ hb dX9_init_11 rfl (lv_at hl 1 rfl) ?_
  refine va_mmax hx₀ hb (by rw [hml]; exact hl.1.symm) hown (hts (.methodLink RX9 15 Lib.Math.max.name) wd_61) (hts (.static Lib.Math.max.name) wd_62) (hts (.initialized "java/lang/Math") wd_63) (hts (.code Lib.Math.max.name Lib.Math.max.code 2 (some .int)) wd_64) (by decide) (Nat.le_of_ble_eq_true rfl) (by decide) (by decide) dX9_init_12 ?_
  refine k_topi (v := 23) (by decide +kernel) ?_
  refine k_newaI (N' := 23) hx₀ hb (hts (.arrayClass .int) wd_44) hK hP hD hS hA (by decide +kernel) (by decide +kernel) (by decide +kernel) (by decide +kernel) (by decide +kernel) dX9_init_15 (fun qa_1 H hP hD hS => ?_)
  replace hP := k_w2 (wt := [(h, .inr (2, [.null, .int 0, .int (-1), .int 0])), (kAI qa_1 cI 23 (fun _ => 0))]) hP hD rfl
  replace hD := hP.2
  replace hP := hP.1
  refine W.widen (k := 1) (n := 23) (by omega) (by omega) ?_
  refine va_putF (D := (dC, dI)) (ci := 2) (v := .ref qa_1) (ty := .array .int) (C := RX2) (T := TX2) (N := 4) hx₀ hb hts inlX2 tyX2 tyX2_ok nmX2 hown hK hP hD hS 0 rfl rfl 0 (by decide) (hts (.fieldLink RX9 21 "BittenStick$Text" "values" "[I") wd_65) (fun _ h9 => h9) rfl hin rfl (by decide +kernel) rfl rfl (Nat.le_of_ble_eq_true rfl) dX9_init_17 ?_
  clear hP hD hS
  intro H locs hP hD hS
  replace hP := k_w2 (wt := [(kX2 h qa_1 0 (-1) 0), (kAI qa_1 cI 23 (fun _ => 0))]) hP hD rfl
  replace hD := hP.2
  replace hP := hP.1
  refine W.widen (k := 1) (n := 23) (by decide +kernel) (by decide +kernel) ?_
  obtain ⟨hP9, hD9⟩ := k_c2 (wc := [(kX2 h qa_1 0 (-1) 0), (kAI qa_1 cI 23 (fun _ => 0))]) hP hD [0, 1] (by decide +kernel) rfl
  exact W.vret hx₀ hb hr (fun t₀ ht hW => ⟨⟨(qa_1), rfl, trivial, by rw [ht]; exact hP9, va_K.moved hW.alike hK, hD9⟩, hS.F ht⟩) hS.2.2 dX9_init_20
set_option maxHeartbeats 4000000 in
set_option maxRecDepth 100000 in
theorem k_X2 (l : Launch) (dC : Nat → ClassId) (dI : Nat → Nat → Nat) (cI cJ cQ : ClassId) (sz : Nat) (h : Nat) : Met l yX2_init (kW yX2_init cX2_init 1 none) { frames := 2, cells := 1, slots := 23, locals := 42 } (kPre dC dI cI cJ cQ sz [.ref h] [(h, .inr (2, [.null, .int 0, .int 0, .int 0]))]) (va_Qv (fun (_ : Nat) => True) (fun (u : Nat) t₀ => kB dC dI cI cJ cQ (va_A [(h, .inr (2, [.null, .int 0, .int 0, .int 0]))] sz) [(kX2 h (u) 0 (-1) 0), (kAI (u) cI 23 (fun _ => 0))] t₀) (va_A [(h, .inr (2, [.null, .int 0, .int 0, .int 0]))] sz)) 1 23 (va_A [(h, .inr (2, [.null, .int 0, .int 0, .int 0]))] sz) := by
  refine Met.ofW (cc := cX2_init) (maxL := 1) (ret := none) (by decide) rfl ?_
  intro p₀ e₀ s₀ m₀ args below meth c₀ s₁ B hml hv₀
  obtain ⟨rfl, hsz, hP, hK, hD0, hN⟩ := hv₀
  have hx₀ := B.exec
  have hb := B.bytes
  have hr := B.returns
  have hts := atoms_spec (ws := (kW yX2_init cX2_init 1 none)) B.pre
  have hts := fun w h => hts w (List.mem_cons_of_mem _ h)
  have hown : s₀.vm.findClass RX2 = some m₀.cls := findClass_of_methodNamed B.named
  have hlocks := B.notSynchronized
  have hin : meth.name = "<init>" := (name_of_methodNamed B.named B.method).1
  subst hsz
  have hD := hD0.self (sz := s₀.heap.size)
  generalize hAe : va_A [(h, .inr (2, [.null, .int 0, .int 0, .int 0]))] s₀.heap.size = A at hD ⊢
  have hA : ∀ q : Nat, s₀.heap.size ≤ q → A q := fun q h => by rw [← hAe]; exact Or.inr h
  have hS : va_S A s₀.heap s₀.heap [] := va_S.rf
  have hP : va_P (dC, dI) vwCl [(h, .inr (2, [.null, .int 0, .int 0, .int 0]))] s₀.heap := hP
  have hl := lv_entry ([.ref h]) (n := 1) (Nat.le_of_ble_eq_true rfl)
  rw [lg_entry_eq]
  generalize (lg_sl ([.ref h]) ++ List.replicate (1 - (lg_sl ([.ref h])).length) Slot.unset).toArray = ls at hl ⊢
  have hl : lv_has ls 1 [(0, .ref h)] := hl
  obtain ⟨H, hH⟩ : ∃ z : Heap, z = s₀.heap := ⟨_, rfl⟩
  rw [← hH] at hP
  have hS : va_S A s₀.heap H [] := by rw [hH]; exact hS
  refine k_heap hH ?_
  have hD : va_D A [(h, .inr (2, [.null, .int 0, .int 0, .int 0]))] := hD
  obtain ⟨locs, hlo⟩ : ∃ z : List Loc, z = [] := ⟨_, rfl⟩
  rw [← hlo] at hS ⊢
  clear hlo hH hAe hD0
  refine lv_aload_n hx₀ hb dX2_init_0 rfl (lv_at hl 0 rfl) ?_
  refine lv_bipush (v := 23) hx₀ hb dX2_init_1 (by decide +kernel) ?_
  obtain ⟨hPc, hDc, hFc, hC⟩ := k_cw (wc := [(h, .inr (2, [.null, .int 0, .int 0, .int 0]))]) hP hD hS hA [0] (by decide +kernel) rfl
  refine va_callv (va_runI (As := [.int 23]) (rest := []) ⟨hx₀, hb, hml, hown, hts⟩ (k_Text_X2 l dC dI cI cJ cQ H.size h) (cwI 1 hts (kG wd_58) rfl rfl rfl (hts (.initialized RX9) wd_57) (hts (.methodLink RX2 3 yX9_init) wd_73) (hts (.instanceMethod yX9_init) wd_56) rfl (by decide +kernel) ⟨Nat.le_of_ble_eq_true rfl, Nat.le_of_ble_eq_true rfl⟩) (k_preS hK hPc hDc hN) rfl rfl hl.1 rfl (lv_room (Nat.le_of_ble_eq_true rfl)) dX2_init_3 ⟨by decide +kernel, by decide +kernel⟩) hS (fun q _ h => hFc q h) hFc (fun u₀ t₀ H1 locs ht hvm hw hB hz1 hk1 hS => ?_)
  obtain ⟨qn_2, rfl⟩ : ∃ z, z = u₀ := ⟨_, rfl⟩
  obtain ⟨hP1, hK1, hD1⟩ := hB
  rw [ht] at hP1
  have hJ := k_jn (wr := []) (wt := [(kX2 h qn_2 0 (-1) 0), (kAI qn_2 cI 23 (fun _ => 0))]) hP hD hC [] rfl (by decide +kernel) (by decide +kernel) hk1 hFc hP1 hD1 rfl
  clear hP hD hPc hDc hFc hC hP1 hD1 hK1 hz1 hk1 hvm ht
  obtain ⟨hP, hD⟩ := hJ
  generalize H1 = H at hP hS ⊢
  refine W.widen (k := 1) (n := 23) (by omega) (by omega) ?_
  refine W.widen (k := 1) (n := 23) (by decide +kernel) (by decide +kernel) ?_
  obtain ⟨hP9, hD9⟩ := k_c2 (wc := [(kX2 h qn_2 0 (-1) 0), (kAI qn_2 cI 23 (fun _ => 0))]) hP hD [0, 1] (by decide +kernel) rfl
  exact W.vret hx₀ hb hr (fun t₀ ht hW => ⟨⟨(qn_2), rfl, trivial, by rw [ht]; exact hP9, va_K.moved hW.alike hK, hD9⟩, hS.F ht⟩) hS.2.2 dX2_init_6
set_option maxHeartbeats 4000000 in
set_option maxRecDepth 100000 in
theorem k_X1 (l : Launch) (dC : Nat → ClassId) (dI : Nat → Nat → Nat) (cI cJ cQ : ClassId) (sz : Nat) (h : Nat) : Met l yX1_init (kW yX1_init cX1_init 1 none) { frames := 1, cells := 1, slots := 32, locals := 20 } (kPre dC dI cI cJ cQ sz [.ref h] [(h, .inr (1, [.null, .int 0]))]) (va_Qv (fun (_ : Nat) => True) (fun (u : Nat) t₀ => kB dC dI cI cJ cQ (va_A [(h, .inr (1, [.null, .int 0]))] sz) [(kX1 h (u) 0), (kAI (u) cI 32 (fun _ => 0))] t₀) (va_A [(h, .inr (1, [.null, .int 0]))] sz)) 1 32 (va_A [(h, .inr (1, [.null, .int 0]))] sz) := by
  refine Met.ofW (cc := cX1_init) (maxL := 1) (ret := none) (by decide) rfl ?_
  intro p₀ e₀ s₀ m₀ args below meth c₀ s₁ B hml hv₀
  obtain ⟨rfl, hsz, hP, hK, hD0, hN⟩ := hv₀
  have hx₀ := B.exec
  have hb := B.bytes
  have hr := B.returns
  have hts := atoms_spec (ws := (kW yX1_init cX1_init 1 none)) B.pre
  have hts := fun w h => hts w (List.mem_cons_of_mem _ h)
  have hown : s₀.vm.findClass RX1 = some m₀.cls := findClass_of_methodNamed B.named
  have hlocks := B.notSynchronized
  have hin : meth.name = "<init>" := (name_of_methodNamed B.named B.method).1
  subst hsz
  have hD := hD0.self (sz := s₀.heap.size)
  generalize hAe : va_A [(h, .inr (1, [.null, .int 0]))] s₀.heap.size = A at hD ⊢
  have hA : ∀ q : Nat, s₀.heap.size ≤ q → A q := fun q h => by rw [← hAe]; exact Or.inr h
  have hS : va_S A s₀.heap s₀.heap [] := va_S.rf
  have hP : va_P (dC, dI) vwCl [(h, .inr (1, [.null, .int 0]))] s₀.heap := hP
  have hl := lv_entry ([.ref h]) (n := 1) (Nat.le_of_ble_eq_true rfl)
  rw [lg_entry_eq]
  generalize (lg_sl ([.ref h]) ++ List.replicate (1 - (lg_sl ([.ref h])).length) Slot.unset).toArray = ls at hl ⊢
  have hl : lv_has ls 1 [(0, .ref h)] := hl
  obtain ⟨H, hH⟩ : ∃ z : Heap, z = s₀.heap := ⟨_, rfl⟩
  rw [← hH] at hP
  have hS : va_S A s₀.heap H [] := by rw [hH]; exact hS
  refine k_heap hH ?_
  have hD : va_D A [(h, .inr (1, [.null, .int 0]))] := hD
  obtain ⟨locs, hlo⟩ : ∃ z : List Loc, z = [] := ⟨_, rfl⟩
  rw [← hlo] at hS ⊢
  clear hlo hH hAe hD0
  refine lv_aload_n hx₀ hb dX1_init_0 rfl (lv_at hl 0 rfl) ?_
  refine W.objInit hx₀ hb hown (hts (.methodLink RX1 3 objectInit) wd_76) (hts (.instanceMethod objectInit) wd_10) (hts (.code objectInit ⟨#[0xb1]⟩ 1 none) wd_11) rfl (by rw [hml]; exact hl.1) rfl dX1_init_1 (Nat.le_of_ble_eq_true rfl) (Nat.le_of_ble_eq_true rfl) ?_
  refine W.eq (g2 := F0 m₀ 4 ls []) rfl ?_
  refine lv_aload_n hx₀ hb dX1_init_4 rfl (lv_at hl 0 rfl) ?_
  refine lv_bipush (v := 32) hx₀ hb dX1_init_5 (by decide +kernel) ?_
  refine k_newaI (N' := 32) hx₀ hb (hts (.arrayClass .int) wd_44) hK hP hD hS hA (by decide +kernel) (by decide +kernel) (by decide +kernel) (by decide +kernel) (by decide +kernel) dX1_init_7 (fun qa_1 H hP hD hS => ?_)
  replace hP := k_w2 (wt := [(h, .inr (1, [.null, .int 0])), (kAI qa_1 cI 32 (fun _ => 0))]) hP hD rfl
  replace hD := hP.2
  replace hP := hP.1
  refine W.widen (k := 1) (n := 32) (by omega) (by omega) ?_
  refine va_putF (D := (dC, dI)) (ci := 1) (v := .ref qa_1) (ty := .array .int) (C := RX1) (T := TX1) (N := 2) hx₀ hb hts inlX1 tyX1 tyX1_ok nmX1 hown hK hP hD hS 0 rfl rfl 0 (by decide) (hts (.fieldLink RX1 9 "BittenStick$Flights" "items" "[I") wd_77) (fun _ h9 => h9) rfl hin rfl (by decide +kernel) rfl rfl (Nat.le_of_ble_eq_true rfl) dX1_init_9 ?_
  clear hP hD hS
  intro H locs hP hD hS
  replace hP := k_w2 (wt := [(kX1 h qa_1 0), (kAI qa_1 cI 32 (fun _ => 0))]) hP hD rfl
  replace hD := hP.2
  replace hP := hP.1
  refine W.widen (k := 1) (n := 32) (by decide +kernel) (by decide +kernel) ?_
  obtain ⟨hP9, hD9⟩ := k_c2 (wc := [(kX1 h qa_1 0), (kAI qa_1 cI 32 (fun _ => 0))]) hP hD [0, 1] (by decide +kernel) rfl
  exact W.vret hx₀ hb hr (fun t₀ ht hW => ⟨⟨(qa_1), rfl, trivial, by rw [ht]; exact hP9, va_K.moved hW.alike hK, hD9⟩, hS.F ht⟩) hS.2.2 dX1_init_12
set_option maxHeartbeats 4000000 in
set_option maxRecDepth 100000 in
theorem k_X3 (l : Launch) (dC : Nat → ClassId) (dI : Nat → Nat → Nat) (cI cJ cQ : ClassId) (sz : Nat) (h : Nat) : Met l yX3_init (kW yX3_init cX3_init 1 none) { frames := 1, cells := 0, slots := 0, locals := 20 } (kPre dC dI cI cJ cQ sz [.ref h] [(kX3 h 0 0 0 0)]) (va_Qv (fun (_ : Unit) => True) (fun (u : Unit) t₀ => kB dC dI cI cJ cQ (va_A [(kX3 h 0 0 0 0)] sz) [(kX3 h 0 0 0 0)] t₀) (va_A [(kX3 h 0 0 0 0)] sz)) 0 0 (va_A [(kX3 h 0 0 0 0)] sz) := by
  refine Met.ofW (cc := cX3_init) (maxL := 1) (ret := none) (by decide) rfl ?_
  intro p₀ e₀ s₀ m₀ args below meth c₀ s₁ B hml hv₀
  obtain ⟨rfl, hsz, hP, hK, hD0, hN⟩ := hv₀
  have hx₀ := B.exec
  have hb := B.bytes
  have hr := B.returns
  have hts := atoms_spec (ws := (kW yX3_init cX3_init 1 none)) B.pre
  have hts := fun w h => hts w (List.mem_cons_of_mem _ h)
  have hown : s₀.vm.findClass RX3 = some m₀.cls := findClass_of_methodNamed B.named
  have hlocks := B.notSynchronized
  have hin : meth.name = "<init>" := (name_of_methodNamed B.named B.method).1
  subst hsz
  have hD := hD0.self (sz := s₀.heap.size)
  generalize hAe : va_A [(kX3 h 0 0 0 0)] s₀.heap.size = A at hD ⊢
  have hA : ∀ q : Nat, s₀.heap.size ≤ q → A q := fun q h => by rw [← hAe]; exact Or.inr h
  have hS : va_S A s₀.heap s₀.heap [] := va_S.rf
  have hP : va_P (dC, dI) vwCl [(kX3 h 0 0 0 0)] s₀.heap := hP
  have hl := lv_entry ([.ref h]) (n := 1) (Nat.le_of_ble_eq_true rfl)
  rw [lg_entry_eq]
  generalize (lg_sl ([.ref h]) ++ List.replicate (1 - (lg_sl ([.ref h])).length) Slot.unset).toArray = ls at hl ⊢
  have hl : lv_has ls 1 [(0, .ref h)] := hl
  obtain ⟨H, hH⟩ : ∃ z : Heap, z = s₀.heap := ⟨_, rfl⟩
  rw [← hH] at hP
  have hS : va_S A s₀.heap H [] := by rw [hH]; exact hS
  refine k_heap hH ?_
  have hD : va_D A [(kX3 h 0 0 0 0)] := hD
  obtain ⟨locs, hlo⟩ : ∃ z : List Loc, z = [] := ⟨_, rfl⟩
  rw [← hlo] at hS ⊢
  clear hlo hH hAe hD0
  refine lv_aload_n hx₀ hb dX3_init_0 rfl (lv_at hl 0 rfl) ?_
  refine W.objInit hx₀ hb hown (hts (.methodLink RX3 1 objectInit) wd_94) (hts (.instanceMethod objectInit) wd_10) (hts (.code objectInit ⟨#[0xb1]⟩ 1 none) wd_11) rfl (by rw [hml]; exact hl.1) rfl dX3_init_1 (Nat.le_of_ble_eq_true rfl) (Nat.le_of_ble_eq_true rfl) ?_
  refine W.eq (g2 := F0 m₀ 4 ls []) rfl ?_
  obtain ⟨hP9, hD9⟩ := k_c2 (wc := [(kX3 h 0 0 0 0)]) hP hD [0] (by decide +kernel) rfl
  exact W.vret hx₀ hb hr (fun t₀ ht hW => ⟨⟨(), rfl, trivial, by rw [ht]; exact hP9, va_K.moved hW.alike hK, hD9⟩, hS.F ht⟩) hS.2.2 dX3_init_4
set_option maxHeartbeats 4000000 in
set_option maxRecDepth 100000 in
theorem k_X0 (l : Launch) (dC : Nat → ClassId) (dI : Nat → Nat → Nat) (cI cJ cQ : ClassId) (sz : Nat) (h : Nat) : Met l yX0_init (kW yX0_init cX0_init 1 none) { frames := 1, cells := 0, slots := 0, locals := 20 } (kPre dC dI cI cJ cQ sz [.ref h] [(kX0 h 0 0 0 0)]) (va_Qv (fun (_ : Unit) => True) (fun (u : Unit) t₀ => kB dC dI cI cJ cQ (va_A [(kX0 h 0 0 0 0)] sz) [(kX0 h 0 0 0 0)] t₀) (va_A [(kX0 h 0 0 0 0)] sz)) 0 0 (va_A [(kX0 h 0 0 0 0)] sz) := by
  refine Met.ofW (cc := cX0_init) (maxL := 1) (ret := none) (by decide) rfl ?_
  intro p₀ e₀ s₀ m₀ args below meth c₀ s₁ B hml hv₀
  obtain ⟨rfl, hsz, hP, hK, hD0, hN⟩ := hv₀
  have hx₀ := B.exec
  have hb := B.bytes
  have hr := B.returns
  have hts := atoms_spec (ws := (kW yX0_init cX0_init 1 none)) B.pre
  have hts := fun w h => hts w (List.mem_cons_of_mem _ h)
  have hown : s₀.vm.findClass RX0 = some m₀.cls := findClass_of_methodNamed B.named
  have hlocks := B.notSynchronized
  have hin : meth.name = "<init>" := (name_of_methodNamed B.named B.method).1
  subst hsz
  have hD := hD0.self (sz := s₀.heap.size)
  generalize hAe : va_A [(kX0 h 0 0 0 0)] s₀.heap.size = A at hD ⊢
  have hA : ∀ q : Nat, s₀.heap.size ≤ q → A q := fun q h => by rw [← hAe]; exact Or.inr h
  have hS : va_S A s₀.heap s₀.heap [] := va_S.rf
  have hP : va_P (dC, dI) vwCl [(kX0 h 0 0 0 0)] s₀.heap := hP
  have hl := lv_entry ([.ref h]) (n := 1) (Nat.le_of_ble_eq_true rfl)
  rw [lg_entry_eq]
  generalize (lg_sl ([.ref h]) ++ List.replicate (1 - (lg_sl ([.ref h])).length) Slot.unset).toArray = ls at hl ⊢
  have hl : lv_has ls 1 [(0, .ref h)] := hl
  obtain ⟨H, hH⟩ : ∃ z : Heap, z = s₀.heap := ⟨_, rfl⟩
  rw [← hH] at hP
  have hS : va_S A s₀.heap H [] := by rw [hH]; exact hS
  refine k_heap hH ?_
  have hD : va_D A [(kX0 h 0 0 0 0)] := hD
  obtain ⟨locs, hlo⟩ : ∃ z : List Loc, z = [] := ⟨_, rfl⟩
  rw [← hlo] at hS ⊢
  clear hlo hH hAe hD0
  refine lv_aload_n hx₀ hb dX0_init_0 rfl (lv_at hl 0 rfl) ?_
  refine W.objInit hx₀ hb hown (hts (.methodLink RX0 3 objectInit) wd_97) (hts (.instanceMethod objectInit) wd_10) (hts (.code objectInit ⟨#[0xb1]⟩ 1 none) wd_11) rfl (by rw [hml]; exact hl.1) rfl dX0_init_1 (Nat.le_of_ble_eq_true rfl) (Nat.le_of_ble_eq_true rfl) ?_
  refine W.eq (g2 := F0 m₀ 4 ls []) rfl ?_
  obtain ⟨hP9, hD9⟩ := k_c2 (wc := [(kX0 h 0 0 0 0)]) hP hD [0] (by decide +kernel) rfl
  exact W.vret hx₀ hb hr (fun t₀ ht hW => ⟨⟨(), rfl, trivial, by rw [ht]; exact hP9, va_K.moved hW.alike hK, hD9⟩, hS.F ht⟩) hS.2.2 dX0_init_4
set_option maxHeartbeats 4000000 in
set_option maxRecDepth 100000 in
theorem k_X6 (l : Launch) (dC : Nat → ClassId) (dI : Nat → Nat → Nat) (cI cJ cQ : ClassId) (sz : Nat) (h : Nat) : Met l yX6_init (kW yX6_init cX6_init 1 none) { frames := 1, cells := 0, slots := 0, locals := 20 } (kPre dC dI cI cJ cQ sz [.ref h] [(kX6 h 0)]) (va_Qv (fun (_ : Unit) => True) (fun (u : Unit) t₀ => kB dC dI cI cJ cQ (va_A [(kX6 h 0)] sz) [(kX6 h 0)] t₀) (va_A [(kX6 h 0)] sz)) 0 0 (va_A [(kX6 h 0)] sz) := by
  refine Met.ofW (cc := cX6_init) (maxL := 1) (ret := none) (by decide) rfl ?_
  intro p₀ e₀ s₀ m₀ args below meth c₀ s₁ B hml hv₀
  obtain ⟨rfl, hsz, hP, hK, hD0, hN⟩ := hv₀
  have hx₀ := B.exec
  have hb := B.bytes
  have hr := B.returns
  have hts := atoms_spec (ws := (kW yX6_init cX6_init 1 none)) B.pre
  have hts := fun w h => hts w (List.mem_cons_of_mem _ h)
  have hown : s₀.vm.findClass RX6 = some m₀.cls := findClass_of_methodNamed B.named
  have hlocks := B.notSynchronized
  have hin : meth.name = "<init>" := (name_of_methodNamed B.named B.method).1
  subst hsz
  have hD := hD0.self (sz := s₀.heap.size)
  generalize hAe : va_A [(kX6 h 0)] s₀.heap.size = A at hD ⊢
  have hA : ∀ q : Nat, s₀.heap.size ≤ q → A q := fun q h => by rw [← hAe]; exact Or.inr h
  have hS : va_S A s₀.heap s₀.heap [] := va_S.rf
  have hP : va_P (dC, dI) vwCl [(kX6 h 0)] s₀.heap := hP
  have hl := lv_entry ([.ref h]) (n := 1) (Nat.le_of_ble_eq_true rfl)
  rw [lg_entry_eq]
  generalize (lg_sl ([.ref h]) ++ List.replicate (1 - (lg_sl ([.ref h])).length) Slot.unset).toArray = ls at hl ⊢
  have hl : lv_has ls 1 [(0, .ref h)] := hl
  obtain ⟨H, hH⟩ : ∃ z : Heap, z = s₀.heap := ⟨_, rfl⟩
  rw [← hH] at hP
  have hS : va_S A s₀.heap H [] := by rw [hH]; exact hS
  refine k_heap hH ?_
  have hD : va_D A [(kX6 h 0)] := hD
  obtain ⟨locs, hlo⟩ : ∃ z : List Loc, z = [] := ⟨_, rfl⟩
  rw [← hlo] at hS ⊢
  clear hlo hH hAe hD0
  refine lv_aload_n hx₀ hb dX6_init_0 rfl (lv_at hl 0 rfl) ?_
  refine W.objInit hx₀ hb hown (hts (.methodLink RX6 1 objectInit) wd_105) (hts (.instanceMethod objectInit) wd_10) (hts (.code objectInit ⟨#[0xb1]⟩ 1 none) wd_11) rfl (by rw [hml]; exact hl.1) rfl dX6_init_1 (Nat.le_of_ble_eq_true rfl) (Nat.le_of_ble_eq_true rfl) ?_
  refine W.eq (g2 := F0 m₀ 4 ls []) rfl ?_
  obtain ⟨hP9, hD9⟩ := k_c2 (wc := [(kX6 h 0)]) hP hD [0] (by decide +kernel) rfl
  exact W.vret hx₀ hb hr (fun t₀ ht hW => ⟨⟨(), rfl, trivial, by rw [ht]; exact hP9, va_K.moved hW.alike hK, hD9⟩, hS.F ht⟩) hS.2.2 dX6_init_4
set_option maxHeartbeats 4000000 in
set_option maxRecDepth 100000 in
theorem k_X5 (l : Launch) (dC : Nat → ClassId) (dI : Nat → Nat → Nat) (cI cJ cQ : ClassId) (sz : Nat) (h : Nat) : Met l yX5_init (kW yX5_init cX5_init 1 none) { frames := 1, cells := 1, slots := 46, locals := 20 } (kPre dC dI cI cJ cQ sz [.ref h] [(h, .inr (5, [.null, .long 0, .long 0]))]) (va_Qv (fun (_ : Nat) => True) (fun (u : Nat) t₀ => kB dC dI cI cJ cQ (va_A [(h, .inr (5, [.null, .long 0, .long 0]))] sz) [(kX5 h (u) 0 0), (kAJ (u) cJ 46 (fun _ => 0))] t₀) (va_A [(h, .inr (5, [.null, .long 0, .long 0]))] sz)) 1 46 (va_A [(h, .inr (5, [.null, .long 0, .long 0]))] sz) := by
  refine Met.ofW (cc := cX5_init) (maxL := 1) (ret := none) (by decide) rfl ?_
  intro p₀ e₀ s₀ m₀ args below meth c₀ s₁ B hml hv₀
  obtain ⟨rfl, hsz, hP, hK, hD0, hN⟩ := hv₀
  have hx₀ := B.exec
  have hb := B.bytes
  have hr := B.returns
  have hts := atoms_spec (ws := (kW yX5_init cX5_init 1 none)) B.pre
  have hts := fun w h => hts w (List.mem_cons_of_mem _ h)
  have hown : s₀.vm.findClass RX5 = some m₀.cls := findClass_of_methodNamed B.named
  have hlocks := B.notSynchronized
  have hin : meth.name = "<init>" := (name_of_methodNamed B.named B.method).1
  subst hsz
  have hD := hD0.self (sz := s₀.heap.size)
  generalize hAe : va_A [(h, .inr (5, [.null, .long 0, .long 0]))] s₀.heap.size = A at hD ⊢
  have hA : ∀ q : Nat, s₀.heap.size ≤ q → A q := fun q h => by rw [← hAe]; exact Or.inr h
  have hS : va_S A s₀.heap s₀.heap [] := va_S.rf
  have hP : va_P (dC, dI) vwCl [(h, .inr (5, [.null, .long 0, .long 0]))] s₀.heap := hP
  have hl := lv_entry ([.ref h]) (n := 1) (Nat.le_of_ble_eq_true rfl)
  rw [lg_entry_eq]
  generalize (lg_sl ([.ref h]) ++ List.replicate (1 - (lg_sl ([.ref h])).length) Slot.unset).toArray = ls at hl ⊢
  have hl : lv_has ls 1 [(0, .ref h)] := hl
  obtain ⟨H, hH⟩ : ∃ z : Heap, z = s₀.heap := ⟨_, rfl⟩
  rw [← hH] at hP
  have hS : va_S A s₀.heap H [] := by rw [hH]; exact hS
  refine k_heap hH ?_
  have hD : va_D A [(h, .inr (5, [.null, .long 0, .long 0]))] := hD
  obtain ⟨locs, hlo⟩ : ∃ z : List Loc, z = [] := ⟨_, rfl⟩
  rw [← hlo] at hS ⊢
  clear hlo hH hAe hD0
  refine lv_aload_n hx₀ hb dX5_init_0 rfl (lv_at hl 0 rfl) ?_
  refine W.objInit hx₀ hb hown (hts (.methodLink RX5 3 objectInit) wd_100) (hts (.instanceMethod objectInit) wd_10) (hts (.code objectInit ⟨#[0xb1]⟩ 1 none) wd_11) rfl (by rw [hml]; exact hl.1) rfl dX5_init_1 (Nat.le_of_ble_eq_true rfl) (Nat.le_of_ble_eq_true rfl) ?_
  refine W.eq (g2 := F0 m₀ 4 ls []) rfl ?_
  refine lv_aload_n hx₀ hb dX5_init_4 rfl (lv_at hl 0 rfl) ?_
  refine lv_bipush (v := 46) hx₀ hb dX5_init_5 (by decide +kernel) ?_
  refine k_newaJ (N' := 46) hx₀ hb (hts (.arrayClass .long) wd_101) hK hP hD hS hA (by decide +kernel) (by decide +kernel) (by decide +kernel) (by decide +kernel) (by decide +kernel) dX5_init_7 (fun qa_1 H hP hD hS => ?_)
  replace hP := k_w2 (wt := [(h, .inr (5, [.null, .long 0, .long 0])), (kAJ qa_1 cJ 46 (fun _ => 0))]) hP hD rfl
  replace hD := hP.2
  replace hP := hP.1
  refine W.widen (k := 1) (n := 46) (by omega) (by omega) ?_
  refine va_putF (D := (dC, dI)) (ci := 5) (v := .ref qa_1) (ty := .array .long) (C := RX5) (T := TX5) (N := 3) hx₀ hb hts inlX5 tyX5 tyX5_ok nmX5 hown hK hP hD hS 0 rfl rfl 0 (by decide) (hts (.fieldLink RX5 9 "BittenStick$Laughter" "chances" "[J") wd_102) (fun _ h9 => h9) rfl hin rfl (by decide +kernel) rfl rfl (Nat.le_of_ble_eq_true rfl) dX5_init_9 ?_
  clear hP hD hS
  intro H locs hP hD hS
  replace hP := k_w2 (wt := [(kX5 h qa_1 0 0), (kAJ qa_1 cJ 46 (fun _ => 0))]) hP hD rfl
  replace hD := hP.2
  replace hP := hP.1
  refine W.widen (k := 1) (n := 46) (by decide +kernel) (by decide +kernel) ?_
  obtain ⟨hP9, hD9⟩ := k_c2 (wc := [(kX5 h qa_1 0 0), (kAJ qa_1 cJ 46 (fun _ => 0))]) hP hD [0, 1] (by decide +kernel) rfl
  exact W.vret hx₀ hb hr (fun t₀ ht hW => ⟨⟨(qa_1), rfl, trivial, by rw [ht]; exact hP9, va_K.moved hW.alike hK, hD9⟩, hS.F ht⟩) hS.2.2 dX5_init_12
set_option maxHeartbeats 4000000 in
set_option maxRecDepth 100000 in
theorem k_X8 (l : Launch) (dC : Nat → ClassId) (dI : Nat → Nat → Nat) (cI cJ cQ : ClassId) (sz : Nat) (h : Nat) : Met l yX8_init (kW yX8_init cX8_init 1 none) { frames := 1, cells := 1, slots := 60, locals := 20 } (kPre dC dI cI cJ cQ sz [.ref h] [(h, .inr (8, [.null, .int 0, .int 0, .int 0]))]) (va_Qv (fun (_ : Nat) => True) (fun (u : Nat) t₀ => kB dC dI cI cJ cQ (va_A [(h, .inr (8, [.null, .int 0, .int 0, .int 0]))] sz) [(kX8 h (u) 1 0 0), (kAI (u) cI 60 (fun _ => 0))] t₀) (va_A [(h, .inr (8, [.null, .int 0, .int 0, .int 0]))] sz)) 1 60 (va_A [(h, .inr (8, [.null, .int 0, .int 0, .int 0]))] sz) := by
  refine Met.ofW (cc := cX8_init) (maxL := 1) (ret := none) (by decide) rfl ?_
  intro p₀ e₀ s₀ m₀ args below meth c₀ s₁ B hml hv₀
  obtain ⟨rfl, hsz, hP, hK, hD0, hN⟩ := hv₀
  have hx₀ := B.exec
  have hb := B.bytes
  have hr := B.returns
  have hts := atoms_spec (ws := (kW yX8_init cX8_init 1 none)) B.pre
  have hts := fun w h => hts w (List.mem_cons_of_mem _ h)
  have hown : s₀.vm.findClass RX8 = some m₀.cls := findClass_of_methodNamed B.named
  have hlocks := B.notSynchronized
  have hin : meth.name = "<init>" := (name_of_methodNamed B.named B.method).1
  subst hsz
  have hD := hD0.self (sz := s₀.heap.size)
  generalize hAe : va_A [(h, .inr (8, [.null, .int 0, .int 0, .int 0]))] s₀.heap.size = A at hD ⊢
  have hA : ∀ q : Nat, s₀.heap.size ≤ q → A q := fun q h => by rw [← hAe]; exact Or.inr h
  have hS : va_S A s₀.heap s₀.heap [] := va_S.rf
  have hP : va_P (dC, dI) vwCl [(h, .inr (8, [.null, .int 0, .int 0, .int 0]))] s₀.heap := hP
  have hl := lv_entry ([.ref h]) (n := 1) (Nat.le_of_ble_eq_true rfl)
  rw [lg_entry_eq]
  generalize (lg_sl ([.ref h]) ++ List.replicate (1 - (lg_sl ([.ref h])).length) Slot.unset).toArray = ls at hl ⊢
  have hl : lv_has ls 1 [(0, .ref h)] := hl
  obtain ⟨H, hH⟩ : ∃ z : Heap, z = s₀.heap := ⟨_, rfl⟩
  rw [← hH] at hP
  have hS : va_S A s₀.heap H [] := by rw [hH]; exact hS
  refine k_heap hH ?_
  have hD : va_D A [(h, .inr (8, [.null, .int 0, .int 0, .int 0]))] := hD
  obtain ⟨locs, hlo⟩ : ∃ z : List Loc, z = [] := ⟨_, rfl⟩
  rw [← hlo] at hS ⊢
  clear hlo hH hAe hD0
  refine lv_aload_n hx₀ hb dX8_init_0 rfl (lv_at hl 0 rfl) ?_
  refine W.objInit hx₀ hb hown (hts (.methodLink RX8 3 objectInit) wd_108) (hts (.instanceMethod objectInit) wd_10) (hts (.code objectInit ⟨#[0xb1]⟩ 1 none) wd_11) rfl (by rw [hml]; exact hl.1) rfl dX8_init_1 (Nat.le_of_ble_eq_true rfl) (Nat.le_of_ble_eq_true rfl) ?_
  refine W.eq (g2 := F0 m₀ 4 ls []) rfl ?_
  refine lv_aload_n hx₀ hb dX8_init_4 rfl (lv_at hl 0 rfl) ?_
  refine lv_bipush (v := 60) hx₀ hb dX8_init_5 (by decide +kernel) ?_
  refine k_newaI (N' := 60) hx₀ hb (hts (.arrayClass .int) wd_44) hK hP hD hS hA (by decide +kernel) (by decide +kernel) (by decide +kernel) (by decide +kernel) (by decide +kernel) dX8_init_7 (fun qa_1 H hP hD hS => ?_)
  replace hP := k_w2 (wt := [(h, .inr (8, [.null, .int 0, .int 0, .int 0])), (kAI qa_1 cI 60 (fun _ => 0))]) hP hD rfl
  replace hD := hP.2
  replace hP := hP.1
  refine W.widen (k := 1) (n := 60) (by omega) (by omega) ?_
  refine va_putF (D := (dC, dI)) (ci := 8) (v := .ref qa_1) (ty := .array .int) (C := RX8) (T := TX8) (N := 4) hx₀ hb hts inlX8 tyX8 tyX8_ok nmX8 hown hK hP hD hS 0 rfl rfl 0 (by decide) (hts (.fieldLink RX8 9 "BittenStick$Sheet" "items" "[I") wd_109) (fun _ h9 => h9) rfl hin rfl (by decide +kernel) rfl rfl (Nat.le_of_ble_eq_true rfl) dX8_init_9 ?_
  clear hP hD hS
  intro H locs hP hD hS
  replace hP := k_w2 (wt := [(kX8 h qa_1 0 0 0), (kAI qa_1 cI 60 (fun _ => 0))]) hP hD rfl
  replace hD := hP.2
  replace hP := hP.1
  refine lv_aload_n hx₀ hb dX8_init_12 rfl (lv_at hl 0 rfl) ?_
  refine lv_iconst (v := 1) hx₀ hb dX8_init_13 (by decide +kernel) ?_
  refine va_put (D := (dC, dI)) (ci := 8) (v := .int 1) (ty := .boolean) (C := RX8) (T := TX8) (N := 4) hx₀ hb hts inlX8 tyX8 tyX8_ok nmX8 hown hK hP hD hS 0 rfl rfl 1 (by decide) (hts (.fieldLink RX8 15 "BittenStick$Sheet" "isLost" "Z") wd_110) (fun _ h9 => h9) rfl (by decide +kernel) (by decide +kernel) (by decide +kernel) (Nat.le_of_ble_eq_true rfl) dX8_init_14 ?_
  clear hP hD hS
  intro H locs hP hD hS
  replace hP := k_w2 (wt := [(kX8 h qa_1 1 0 0), (kAI qa_1 cI 60 (fun _ => 0))]) hP hD rfl
  replace hD := hP.2
  replace hP := hP.1
  refine W.widen (k := 1) (n := 60) (by decide +kernel) (by decide +kernel) ?_
  obtain ⟨hP9, hD9⟩ := k_c2 (wc := [(kX8 h qa_1 1 0 0), (kAI qa_1 cI 60 (fun _ => 0))]) hP hD [0, 1] (by decide +kernel) rfl
  exact W.vret hx₀ hb hr (fun t₀ ht hW => ⟨⟨(qa_1), rfl, trivial, by rw [ht]; exact hP9, va_K.moved hW.alike hK, hD9⟩, hS.F ht⟩) hS.2.2 dX8_init_17
set_option maxHeartbeats 4000000 in
set_option maxRecDepth 100000 in
theorem k_X10 (l : Launch) (dC : Nat → ClassId) (dI : Nat → Nat → Nat) (cI cJ cQ : ClassId) (sz : Nat) (h : Nat) (la : Nat) (pa : Nat) (ge : Nat) : Met l yX10_init (kW yX10_init cX10_init 4 none) { frames := 2, cells := 2, slots := 8, locals := 40 } (kPre dC dI cI cJ cQ sz [.ref h, .ref la, .ref pa, .ref ge] [(h, .inr (9, [.null, .null, .null, .null, .null, .null, .null, .int 0, .int 0, .int 0, .int 0, .int 0, .int 0, .int 0, .int 0, .int 0, .int 0]))]) (va_Qv (fun (_ : Nat × Nat) => True) (fun (u : Nat × Nat) t₀ => kB dC dI cI cJ cQ (va_A [(h, .inr (9, [.null, .null, .null, .null, .null, .null, .null, .int 0, .int 0, .int 0, .int 0, .int 0, .int 0, .int 0, .int 0, .int 0, .int 0]))] sz) [(kX10 h la pa ge (u.1) (u.2) (u.1) (u.2) 0 0 0 0 0 0 0 0 0 0), (kX3 (u.1) 0 0 0 0), (kX3 (u.2) 0 0 0 0)] t₀) (va_A [(h, .inr (9, [.null, .null, .null, .null, .null, .null, .null, .int 0, .int 0, .int 0, .int 0, .int 0, .int 0, .int 0, .int 0, .int 0, .int 0]))] sz)) 2 8 (va_A [(h, .inr (9, [.null, .null, .null, .null, .null, .null, .null, .int 0, .int 0, .int 0, .int 0, .int 0, .int 0, .int 0, .int 0, .int 0, .int 0]))] sz) := by
  refine Met.ofW (cc := cX10_init) (maxL := 4) (ret := none) (by decide) rfl ?_
  intro p₀ e₀ s₀ m₀ args below meth c₀ s₁ B hml hv₀
  obtain ⟨rfl, hsz, hP, hK, hD0, hN⟩ := hv₀
  have hx₀ := B.exec
  have hb := B.bytes
  have hr := B.returns
  have hts := atoms_spec (ws := (kW yX10_init cX10_init 4 none)) B.pre
  have hts := fun w h => hts w (List.mem_cons_of_mem _ h)
  have hown : s₀.vm.findClass RX10 = some m₀.cls := findClass_of_methodNamed B.named
  have hlocks := B.notSynchronized
  have hin : meth.name = "<init>" := (name_of_methodNamed B.named B.method).1
  subst hsz
  have hD := hD0.self (sz := s₀.heap.size)
  generalize hAe : va_A [(h, .inr (9, [.null, .null, .null, .null, .null, .null, .null, .int 0, .int 0, .int 0, .int 0, .int 0, .int 0, .int 0, .int 0, .int 0, .int 0]))] s₀.heap.size = A at hD ⊢
  have hA : ∀ q : Nat, s₀.heap.size ≤ q → A q := fun q h => by rw [← hAe]; exact Or.inr h
  have hS : va_S A s₀.heap s₀.heap [] := va_S.rf
  have hP : va_P (dC, dI) vwCl [(h, .inr (9, [.null, .null, .null, .null, .null, .null, .null, .int 0, .int 0, .int 0, .int 0, .int 0, .int 0, .int 0, .int 0, .int 0, .int 0]))] s₀.heap := hP
  have hl := lv_entry ([.ref h, .ref la, .ref pa, .ref ge]) (n := 4) (Nat.le_of_ble_eq_true rfl)
  rw [lg_entry_eq]
  generalize (lg_sl ([.ref h, .ref la, .ref pa, .ref ge]) ++ List.replicate (4 - (lg_sl ([.ref h, .ref la, .ref pa, .ref ge])).length) Slot.unset).toArray = ls at hl ⊢
  have hl : lv_has ls 4 [(0, .ref h), (1, .ref la), (2, .ref pa), (3, .ref ge)] := hl
  obtain ⟨H, hH⟩ : ∃ z : Heap, z = s₀.heap := ⟨_, rfl⟩
  rw [← hH] at hP
  have hS : va_S A s₀.heap H [] := by rw [hH]; exact hS
  refine k_heap hH ?_
  have hD : va_D A [(h, .inr (9, [.null, .null, .null, .null, .null, .null, .null, .int 0, .int 0, .int 0, .int 0, .int 0, .int 0, .int 0, .int 0, .int 0, .int 0]))] := hD
  obtain ⟨locs, hlo⟩ : ∃ z : List Loc, z = [] := ⟨_, rfl⟩
  rw [← hlo] at hS ⊢
  clear hlo hH hAe hD0
  refine lv_aload_n hx₀ hb dX10_init_0 rfl (lv_at hl 0 rfl) ?_
  refine W.objInit hx₀ hb hown (hts (.methodLink RX10 3 objectInit) wd_81) (hts (.instanceMethod objectInit) wd_10) (hts (.code objectInit ⟨#[0xb1]⟩ 1 none) wd_11) rfl (by rw [hml]; exact hl.1) rfl dX10_init_1 (Nat.le_of_ble_eq_true rfl) (Nat.le_of_ble_eq_true rfl) ?_
  refine W.eq (g2 := F0 m₀ 4 ls []) rfl ?_
  refine lv_aload_n hx₀ hb dX10_init_4 rfl (lv_at hl 0 rfl) ?_
  refine va_new (ci := 3) (fs := [.int 0, .int 0, .int 0, .int 0]) (C := RX3) (T := TX3) (N := 4) hx₀ hb hts inlX3 tyX3 tyX3_ok hown (hts (.classLink RX10 9 RX3) wd_82) (hts (.instantiable RX3 4) wd_83) (hts (.initialized RX3) wd_84) hK hP hD hS hA rfl (by decide +kernel) (by decide +kernel) (by decide +kernel) dX10_init_5 (fun qo_1 H hP hD hS => ?_)
  replace hP := k_w2 (wt := [(h, .inr (9, [.null, .null, .null, .null, .null, .null, .null, .int 0, .int 0, .int 0, .int 0, .int 0, .int 0, .int 0, .int 0, .int 0, .int 0])), (kX3 qo_1 0 0 0 0)]) hP hD rfl
  replace hD := hP.2
  replace hP := hP.1
  refine W.widen (k := 1) (n := 4) (by omega) (by omega) ?_
  refine lv_dup hx₀ hb dX10_init_8 rfl ?_
  obtain ⟨hPc, hDc, hFc, hC⟩ := k_cw (wc := [(kX3 qo_1 0 0 0 0)]) hP hD hS hA [1] (by decide +kernel) rfl
  refine va_callv (va_runIN (As := []) (rest := [.ref qo_1, .ref h]) ⟨hx₀, hb, hml, hown, hts⟩ (k_X3 l dC dI cI cJ cQ H.size qo_1) ⟨va_cnB (host := "BittenStick") 0 hts (kG wd_93) rfl rfl rfl hN.2.2.1 (hts (.initialized RX3) wd_84) (by decide +kernel) ⟨Nat.le_of_ble_eq_true rfl, Nat.le_of_ble_eq_true rfl⟩, rfl, (hts (.instanceMethod yX3_init) wd_92)⟩ (k_preS hK hPc hDc hN) rfl rfl hl.1 rfl (lv_room (Nat.le_of_ble_eq_true rfl)) dX10_init_9 ⟨by decide +kernel, by decide +kernel⟩) hS (fun q _ h => hFc q h) hFc (fun u₀ t₀ H1 locs ht hvm hw hB hz1 hk1 hS => ?_)
  obtain ⟨hP1, hK1, hD1⟩ := hB
  rw [ht] at hP1
  have hJ := k_jn (wr := [(h, .inr (9, [.null, .null, .null, .null, .null, .null, .null, .int 0, .int 0, .int 0, .int 0, .int 0, .int 0, .int 0, .int 0, .int 0, .int 0]))]) (wt := [(h, .inr (9, [.null, .null, .null, .null, .null, .null, .null, .int 0, .int 0, .int 0, .int 0, .int 0, .int 0, .int 0, .int 0, .int 0, .int 0])), (kX3 qo_1 0 0 0 0)]) hP hD hC [0] rfl (by decide +kernel) (by decide +kernel) hk1 hFc hP1 hD1 rfl
  clear hP hD hPc hDc hFc hC hP1 hD1 hK1 hz1 hk1 hvm ht
  obtain ⟨hP, hD⟩ := hJ
  generalize H1 = H at hP hS ⊢
  refine va_putF (D := (dC, dI)) (ci := 9) (v := .ref qo_1) (ty := .object "BittenStick$Goose") (C := RX10) (T := TX10) (N := 17) hx₀ hb hts inlX10 tyX10 tyX10_ok nmX10 hown hK hP hD hS 0 rfl rfl 3 (by decide) (hts (.fieldLink RX10 12 "BittenStick$Trip" "toldLeft" "LBittenStick$Goose;") wd_85) (fun _ h9 => h9) rfl hin rfl (by decide +kernel) rfl rfl (Nat.le_of_ble_eq_true rfl) dX10_init_12 ?_
  clear hP hD hS
  intro H locs hP hD hS
  replace hP := k_w2 (wt := [(h, .inr (9, [.null, .null, .null, .ref qo_1, .null, .null, .null, .int 0, .int 0, .int 0, .int 0, .int 0, .int 0, .int 0, .int 0, .int 0, .int 0])), (kX3 qo_1 0 0 0 0)]) hP hD rfl
  replace hD := hP.2
  replace hP := hP.1
  refine lv_aload_n hx₀ hb dX10_init_15 rfl (lv_at hl 0 rfl) ?_
  refine va_new (ci := 3) (fs := [.int 0, .int 0, .int 0, .int 0]) (C := RX3) (T := TX3) (N := 4) hx₀ hb hts inlX3 tyX3 tyX3_ok hown (hts (.classLink RX10 9 RX3) wd_82) (hts (.instantiable RX3 4) wd_83) (hts (.initialized RX3) wd_84) hK hP hD hS hA rfl (by decide +kernel) (by decide +kernel) (by decide +kernel) dX10_init_16 (fun qo_3 H hP hD hS => ?_)
  replace hP := k_w2 (wt := [(h, .inr (9, [.null, .null, .null, .ref qo_1, .null, .null, .null, .int 0, .int 0, .int 0, .int 0, .int 0, .int 0, .int 0, .int 0, .int 0, .int 0])), (kX3 qo_1 0 0 0 0), (kX3 qo_3 0 0 0 0)]) hP hD rfl
  replace hD := hP.2
  replace hP := hP.1
  refine W.widen (k := 2) (n := 8) (by omega) (by omega) ?_
  refine lv_dup hx₀ hb dX10_init_19 rfl ?_
  obtain ⟨hPc, hDc, hFc, hC⟩ := k_cw (wc := [(kX3 qo_3 0 0 0 0)]) hP hD hS hA [2] (by decide +kernel) rfl
  refine va_callv (va_runIN (As := []) (rest := [.ref qo_3, .ref h]) ⟨hx₀, hb, hml, hown, hts⟩ (k_X3 l dC dI cI cJ cQ H.size qo_3) ⟨va_cnB (host := "BittenStick") 0 hts (kG wd_93) rfl rfl rfl hN.2.2.1 (hts (.initialized RX3) wd_84) (by decide +kernel) ⟨Nat.le_of_ble_eq_true rfl, Nat.le_of_ble_eq_true rfl⟩, rfl, (hts (.instanceMethod yX3_init) wd_92)⟩ (k_preS hK hPc hDc hN) rfl rfl hl.1 rfl (lv_room (Nat.le_of_ble_eq_true rfl)) dX10_init_20 ⟨by decide +kernel, by decide +kernel⟩) hS (fun q _ h => hFc q h) hFc (fun u₀ t₀ H1 locs ht hvm hw hB hz1 hk1 hS => ?_)
  obtain ⟨hP1, hK1, hD1⟩ := hB
  rw [ht] at hP1
  have hJ := k_jn (wr := [(h, .inr (9, [.null, .null, .null, .ref qo_1, .null, .null, .null, .int 0, .int 0, .int 0, .int 0, .int 0, .int 0, .int 0, .int 0, .int 0, .int 0])), (kX3 qo_1 0 0 0 0)]) (wt := [(h, .inr (9, [.null, .null, .null, .ref qo_1, .null, .null, .null, .int 0, .int 0, .int 0, .int 0, .int 0, .int 0, .int 0, .int 0, .int 0, .int 0])), (kX3 qo_1 0 0 0 0), (kX3 qo_3 0 0 0 0)]) hP hD hC [0, 1] rfl (by decide +kernel) (by decide +kernel) hk1 hFc hP1 hD1 rfl
  clear hP hD hPc hDc hFc hC hP1 hD1 hK1 hz1 hk1 hvm ht
  obtain ⟨hP, hD⟩ := hJ
  generalize H1 = H at hP hS ⊢
  refine va_putF (D := (dC, dI)) (ci := 9) (v := .ref qo_3) (ty := .object "BittenStick$Goose") (C := RX10) (T := TX10) (N := 17) hx₀ hb hts inlX10 tyX10 tyX10_ok nmX10 hown hK hP hD hS 0 rfl rfl 4 (by decide) (hts (.fieldLink RX10 18 "BittenStick$Trip" "toldRight" "LBittenStick$Goose;") wd_86) (fun _ h9 => h9) rfl hin rfl (by decide +kernel) rfl rfl (Nat.le_of_ble_eq_true rfl) dX10_init_23 ?_
  clear hP hD hS
  intro H locs hP hD hS
  replace hP := k_w2 (wt := [(h, .inr (9, [.null, .null, .null, .ref qo_1, .ref qo_3, .null, .null, .int 0, .int 0, .int 0, .int 0, .int 0, .int 0, .int 0, .int 0, .int 0, .int 0])), (kX3 qo_1 0 0 0 0), (kX3 qo_3 0 0 0 0)]) hP hD rfl
  replace hD := hP.2
  replace hP := hP.1
  refine lv_aload_n hx₀ hb dX10_init_26 rfl (lv_at hl 0 rfl) ?_
  refine lv_aload_n hx₀ hb dX10_init_27 rfl (lv_at hl 0 rfl) ?_
  refine va_get (D := (dC, dI)) (ci := 9) (v := .ref qo_1) (C := RX10) (T := TX10) (N := 17) hx₀ hb hts inlX10 hown hK hP 0 rfl rfl 3 (by decide) (hts (.fieldLink RX10 12 "BittenStick$Trip" "toldLeft" "LBittenStick$Goose;") wd_85) (fun _ h9 => h9) rfl dX10_init_28 ?_
  refine va_put (D := (dC, dI)) (ci := 9) (v := .ref qo_1) (ty := .object "BittenStick$Goose") (C := RX10) (T := TX10) (N := 17) hx₀ hb hts inlX10 tyX10 tyX10_ok nmX10 hown hK hP hD hS 0 rfl rfl 5 (by decide) (hts (.fieldLink RX10 21 "BittenStick$Trip" "left" "LBittenStick$Goose;") wd_87) (fun _ h9 => h9) rfl (by decide +kernel) rfl rfl (Nat.le_of_ble_eq_true rfl) dX10_init_31 ?_
  clear hP hD hS
  intro H locs hP hD hS
  replace hP := k_w2 (wt := [(h, .inr (9, [.null, .null, .null, .ref qo_1, .ref qo_3, .ref qo_1, .null, .int 0, .int 0, .int 0, .int 0, .int 0, .int 0, .int 0, .int 0, .int 0, .int 0])), (kX3 qo_1 0 0 0 0), (kX3 qo_3 0 0 0 0)]) hP hD rfl
  replace hD := hP.2
  replace hP := hP.1
  refine lv_aload_n hx₀ hb dX10_init_34 rfl (lv_at hl 0 rfl) ?_
  refine lv_aload_n hx₀ hb dX10_init_35 rfl (lv_at hl 0 rfl) ?_
  refine va_get (D := (dC, dI)) (ci := 9) (v := .ref qo_3) (C := RX10) (T := TX10) (N := 17) hx₀ hb hts inlX10 hown hK hP 0 rfl rfl 4 (by decide) (hts (.fieldLink RX10 18 "BittenStick$Trip" "toldRight" "LBittenStick$Goose;") wd_86) (fun _ h9 => h9) rfl dX10_init_36 ?_
  refine va_put (D := (dC, dI)) (ci := 9) (v := .ref qo_3) (ty := .object "BittenStick$Goose") (C := RX10) (T := TX10) (N := 17) hx₀ hb hts inlX10 tyX10 tyX10_ok nmX10 hown hK hP hD hS 0 rfl rfl 6 (by decide) (hts (.fieldLink RX10 24 "BittenStick$Trip" "right" "LBittenStick$Goose;") wd_88) (fun _ h9 => h9) rfl (by decide +kernel) rfl rfl (Nat.le_of_ble_eq_true rfl) dX10_init_39 ?_
  clear hP hD hS
  intro H locs hP hD hS
  replace hP := k_w2 (wt := [(h, .inr (9, [.null, .null, .null, .ref qo_1, .ref qo_3, .ref qo_1, .ref qo_3, .int 0, .int 0, .int 0, .int 0, .int 0, .int 0, .int 0, .int 0, .int 0, .int 0])), (kX3 qo_1 0 0 0 0), (kX3 qo_3 0 0 0 0)]) hP hD rfl
  replace hD := hP.2
  replace hP := hP.1
  refine lv_aload_n hx₀ hb dX10_init_42 rfl (lv_at hl 0 rfl) ?_
  refine lv_aload_n hx₀ hb dX10_init_43 rfl (lv_at hl 1 rfl) ?_
  refine va_putF (D := (dC, dI)) (ci := 9) (v := .ref la) (ty := .object "BittenStick$Land") (C := RX10) (T := TX10) (N := 17) hx₀ hb hts inlX10 tyX10 tyX10_ok nmX10 hown hK hP hD hS 0 rfl rfl 0 (by decide) (hts (.fieldLink RX10 27 "BittenStick$Trip" "land" "LBittenStick$Land;") wd_89) (fun _ h9 => h9) rfl hin rfl (by decide +kernel) rfl rfl (Nat.le_of_ble_eq_true rfl) dX10_init_44 ?_
  clear hP hD hS
  intro H locs hP hD hS
  replace hP := k_w2 (wt := [(h, .inr (9, [.ref la, .null, .null, .ref qo_1, .ref qo_3, .ref qo_1, .ref qo_3, .int 0, .int 0, .int 0, .int 0, .int 0, .int 0, .int 0, .int 0, .int 0, .int 0])), (kX3 qo_1 0 0 0 0), (kX3 qo_3 0 0 0 0)]) hP hD rfl
  replace hD := hP.2
  replace hP := hP.1
  refine lv_aload_n hx₀ hb dX10_init_47 rfl (lv_at hl 0 rfl) ?_
  refine lv_aload_n hx₀ hb dX10_init_48 rfl (lv_at hl 2 rfl) ?_
  refine va_putF (D := (dC, dI)) (ci := 9) (v := .ref pa) (ty := .object "BittenStick$Passengers") (C := RX10) (T := TX10) (N := 17) hx₀ hb hts inlX10 tyX10 tyX10_ok nmX10 hown hK hP hD hS 0 rfl rfl 1 (by decide) (hts (.fieldLink RX10 31 "BittenStick$Trip" "passengers" "LBittenStick$Passengers;") wd_90) (fun _ h9 => h9) rfl hin rfl (by decide +kernel) rfl rfl (Nat.le_of_ble_eq_true rfl) dX10_init_49 ?_
  clear hP hD hS
  intro H locs hP hD hS
  replace hP := k_w2 (wt := [(h, .inr (9, [.ref la, .ref pa, .null, .ref qo_1, .ref qo_3, .ref qo_1, .ref qo_3, .int 0, .int 0, .int 0, .int 0, .int 0, .int 0, .int 0, .int 0, .int 0, .int 0])), (kX3 qo_1 0 0 0 0), (kX3 qo_3 0 0 0 0)]) hP hD rfl
  replace hD := hP.2
  replace hP := hP.1
  refine lv_aload_n hx₀ hb dX10_init_52 rfl (lv_at hl 0 rfl) ?_
  refine lv_aload_n hx₀ hb dX10_init_53 rfl (lv_at hl 3 rfl) ?_
  refine va_putF (D := (dC, dI)) (ci := 9) (v := .ref ge) (ty := .object "BittenStick$Geese") (C := RX10) (T := TX10) (N := 17) hx₀ hb hts inlX10 tyX10 tyX10_ok nmX10 hown hK hP hD hS 0 rfl rfl 2 (by decide) (hts (.fieldLink RX10 35 "BittenStick$Trip" "geese" "LBittenStick$Geese;") wd_91) (fun _ h9 => h9) rfl hin rfl (by decide +kernel) rfl rfl (Nat.le_of_ble_eq_true rfl) dX10_init_54 ?_
  clear hP hD hS
  intro H locs hP hD hS
  replace hP := k_w2 (wt := [(kX10 h la pa ge qo_1 qo_3 qo_1 qo_3 0 0 0 0 0 0 0 0 0 0), (kX3 qo_1 0 0 0 0), (kX3 qo_3 0 0 0 0)]) hP hD rfl
  replace hD := hP.2
  replace hP := hP.1
  refine W.widen (k := 2) (n := 8) (by decide +kernel) (by decide +kernel) ?_
  obtain ⟨hP9, hD9⟩ := k_c2 (wc := [(kX10 h la pa ge qo_1 qo_3 qo_1 qo_3 0 0 0 0 0 0 0 0 0 0), (kX3 qo_1 0 0 0 0), (kX3 qo_3 0 0 0 0)]) hP hD [0, 1, 2] (by decide +kernel) rfl
  exact W.vret hx₀ hb hr (fun t₀ ht hW => ⟨⟨(qo_1, qo_3), rfl, trivial, by rw [ht]; exact hP9, va_K.moved hW.alike hK, hD9⟩, hS.F ht⟩) hS.2.2 dX10_init_57
