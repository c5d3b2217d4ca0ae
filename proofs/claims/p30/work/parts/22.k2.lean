set_option maxHeartbeats 4000000 in
set_option maxRecDepth 100000 in
theorem k_X11 (l : Launch) (dC : Nat → ClassId) (dI : Nat → Nat → Nat) (cI cJ cQ : ClassId) (sz : Nat) (hx : Nat) : Met l yX11_init (kW yX11_init cX11_init 2 none) { frames := 3, cells := 27, slots := 512, locals := 63 } (kPre dC dI cI cJ cQ sz [.ref hx] [(hx, .inr (10, [.null, .null, .null, .null, .null, .null, .null, .null, .null, .null, .null, .null, .int 0, .int 0, .int 0]))]) (va_Qv (fun (_ : Nat × Nat × Nat × Nat × Nat × Nat × Nat × Nat × Nat × Nat × Nat × Nat × Nat × Nat × Nat × Nat × Nat × Nat × Nat × Nat × Nat × Nat × Nat × Nat × Nat × Nat × Nat) => True) (fun (u : Nat × Nat × Nat × Nat × Nat × Nat × Nat × Nat × Nat × Nat × Nat × Nat × Nat × Nat × Nat × Nat × Nat × Nat × Nat × Nat × Nat × Nat × Nat × Nat × Nat × Nat × Nat) t₀ => kB dC dI cI cJ cQ (va_A [(hx, .inr (10, [.null, .null, .null, .null, .null, .null, .null, .null, .null, .null, .null, .null, .int 0, .int 0, .int 0]))] sz) [(kX11 hx (u.1) (u.2.2.1) (u.2.2.2.2.1) (u.2.2.2.2.2.2.1) (u.2.2.2.2.2.2.2.2.1) (u.2.2.2.2.2.2.2.2.2.2.2.1) (u.2.2.2.2.2.2.2.2.2.2.2.2.1) (u.2.2.2.2.2.2.2.2.2.2.2.2.2.2.1) (u.2.2.2.2.2.2.2.2.2.2.2.2.2.2.2.1) (u.2.2.2.2.2.2.2.2.2.2.2.2.2.2.2.2.1) (u.2.2.2.2.2.2.2.2.2.2.2.2.2.2.2.2.2.1) (u.2.2.2.2.2.2.2.2.2.2.2.2.2.2.2.2.2.2.1) 0 0 0), (kX4 (u.1) (u.2.1) 0 (-1) 0), (kAI (u.2.1) cI 24 (fun _ => 0)), (kX7 (u.2.2.1) (u.2.2.2.1) 0 (-1) 0), (kAI (u.2.2.2.1) cI 39 (fun _ => 0)), (kX2 (u.2.2.2.2.1) (u.2.2.2.2.2.1) 0 (-1) 0), (kAI (u.2.2.2.2.2.1) cI 23 (fun _ => 0)), (kX1 (u.2.2.2.2.2.2.1) (u.2.2.2.2.2.2.2.1) 0), (kAI (u.2.2.2.2.2.2.2.1) cI 32 (fun _ => 0)), (kX10 (u.2.2.2.2.2.2.2.2.1) (u.1) (u.2.2.1) (u.2.2.2.2.1) (u.2.2.2.2.2.2.2.2.2.1) (u.2.2.2.2.2.2.2.2.2.2.1) (u.2.2.2.2.2.2.2.2.2.1) (u.2.2.2.2.2.2.2.2.2.2.1) 0 0 0 0 0 0 0 0 0 0), (kX3 (u.2.2.2.2.2.2.2.2.2.1) 0 0 0 0), (kX3 (u.2.2.2.2.2.2.2.2.2.2.1) 0 0 0 0), (kX0 (u.2.2.2.2.2.2.2.2.2.2.2.1) 0 0 0 0), (kX5 (u.2.2.2.2.2.2.2.2.2.2.2.2.1) (u.2.2.2.2.2.2.2.2.2.2.2.2.2.1) 0 0), (kAJ (u.2.2.2.2.2.2.2.2.2.2.2.2.2.1) cJ 46 (fun _ => 0)), (kX6 (u.2.2.2.2.2.2.2.2.2.2.2.2.2.2.1) 0), (kAI (u.2.2.2.2.2.2.2.2.2.2.2.2.2.2.2.1) cI 8 (fun _ => 0)), (kAI (u.2.2.2.2.2.2.2.2.2.2.2.2.2.2.2.2.1) cI 8 (fun _ => 0)), (kAI (u.2.2.2.2.2.2.2.2.2.2.2.2.2.2.2.2.2.1) cI 25 (fun _ => 0)), (kAQ (u.2.2.2.2.2.2.2.2.2.2.2.2.2.2.2.2.2.2.1) cQ 4 (fSh (u.2.2.2.2.2.2.2.2.2.2.2.2.2.2.2.2.2.2.2.1) (u.2.2.2.2.2.2.2.2.2.2.2.2.2.2.2.2.2.2.2.2.2.1) (u.2.2.2.2.2.2.2.2.2.2.2.2.2.2.2.2.2.2.2.2.2.2.2.1) (u.2.2.2.2.2.2.2.2.2.2.2.2.2.2.2.2.2.2.2.2.2.2.2.2.2.1))), (kX8 (u.2.2.2.2.2.2.2.2.2.2.2.2.2.2.2.2.2.2.2.1) (u.2.2.2.2.2.2.2.2.2.2.2.2.2.2.2.2.2.2.2.2.1) 1 0 0), (kAI (u.2.2.2.2.2.2.2.2.2.2.2.2.2.2.2.2.2.2.2.2.1) cI 60 (fun _ => 0)), (kX8 (u.2.2.2.2.2.2.2.2.2.2.2.2.2.2.2.2.2.2.2.2.2.1) (u.2.2.2.2.2.2.2.2.2.2.2.2.2.2.2.2.2.2.2.2.2.2.1) 1 0 0), (kAI (u.2.2.2.2.2.2.2.2.2.2.2.2.2.2.2.2.2.2.2.2.2.2.1) cI 60 (fun _ => 0)), (kX8 (u.2.2.2.2.2.2.2.2.2.2.2.2.2.2.2.2.2.2.2.2.2.2.2.1) (u.2.2.2.2.2.2.2.2.2.2.2.2.2.2.2.2.2.2.2.2.2.2.2.2.1) 1 0 0), (kAI (u.2.2.2.2.2.2.2.2.2.2.2.2.2.2.2.2.2.2.2.2.2.2.2.2.1) cI 60 (fun _ => 0)), (kX8 (u.2.2.2.2.2.2.2.2.2.2.2.2.2.2.2.2.2.2.2.2.2.2.2.2.2.1) (u.2.2.2.2.2.2.2.2.2.2.2.2.2.2.2.2.2.2.2.2.2.2.2.2.2.2) 1 0 0), (kAI (u.2.2.2.2.2.2.2.2.2.2.2.2.2.2.2.2.2.2.2.2.2.2.2.2.2.2) cI 60 (fun _ => 0))] t₀) (va_A [(hx, .inr (10, [.null, .null, .null, .null, .null, .null, .null, .null, .null, .null, .null, .null, .int 0, .int 0, .int 0]))] sz)) 27 512 (va_A [(hx, .inr (10, [.null, .null, .null, .null, .null, .null, .null, .null, .null, .null, .null, .null, .int 0, .int 0, .int 0]))] sz) := by
  refine Met.ofW (cc := cX11_init) (maxL := 2) (ret := none) (by decide) rfl ?_
  intro p₀ e₀ s₀ m₀ args below meth c₀ s₁ B hml hv₀
  obtain ⟨rfl, hsz, hP, hK, hD0, hN⟩ := hv₀
  have hx₀ := B.exec
  have hb := B.bytes
  have hr := B.returns
  have hts := atoms_spec (ws := (kW yX11_init cX11_init 2 none)) B.pre
  have hts := fun w h => hts w (List.mem_cons_of_mem _ h)
  have hown : s₀.vm.findClass RX11 = some m₀.cls := findClass_of_methodNamed B.named
  have hlocks := B.notSynchronized
  have hin : meth.name = "<init>" := (name_of_methodNamed B.named B.method).1
  subst hsz
  have hD := hD0.self (sz := s₀.heap.size)
  generalize hAe : va_A [(hx, .inr (10, [.null, .null, .null, .null, .null, .null, .null, .null, .null, .null, .null, .null, .int 0, .int 0, .int 0]))] s₀.heap.size = A at hD ⊢
  have hA : ∀ q : Nat, s₀.heap.size ≤ q → A q := fun q h => by rw [← hAe]; exact Or.inr h
  have hS : va_S A s₀.heap s₀.heap [] := va_S.rf
  have hP : va_P (dC, dI) vwCl [(hx, .inr (10, [.null, .null, .null, .null, .null, .null, .null, .null, .null, .null, .null, .null, .int 0, .int 0, .int 0]))] s₀.heap := hP
  have hl := lv_entry ([.ref hx]) (n := 2) (Nat.le_of_ble_eq_true rfl)
  rw [lg_entry_eq]
  generalize (lg_sl ([.ref hx]) ++ List.replicate (2 - (lg_sl ([.ref hx])).length) Slot.unset).toArray = ls at hl ⊢
  have hl : lv_has ls 2 [(0, .ref hx)] := hl
  obtain ⟨H, hH⟩ : ∃ z : Heap, z = s₀.heap := ⟨_, rfl⟩
  rw [← hH] at hP
  have hS : va_S A s₀.heap H [] := by rw [hH]; exact hS
  refine k_heap hH ?_
  have hD : va_D A [(hx, .inr (10, [.null, .null, .null, .null, .null, .null, .null, .null, .null, .null, .null, .null, .int 0, .int 0, .int 0]))] := hD
  obtain ⟨locs, hlo⟩ : ∃ z : List Loc, z = [] := ⟨_, rfl⟩
  rw [← hlo] at hS ⊢
  clear hlo hH hAe hD0
  refine lv_aload_n hx₀ hb dX11_init_0 rfl (lv_at hl 0 rfl) ?_
  refine W.objInit hx₀ hb hown (hts (.methodLink RX11 1 objectInit) wd_9) (hts (.instanceMethod objectInit) wd_10) (hts (.code objectInit ⟨#[0xb1]⟩ 1 none) wd_11) rfl (by rw [hml]; exact hl.1) rfl dX11_init_1 (Nat.le_of_ble_eq_true rfl) (Nat.le_of_ble_eq_true rfl) ?_
  refine W.eq (g2 := F0 m₀ 4 ls []) rfl ?_
  refine lv_aload_n hx₀ hb dX11_init_4 rfl (lv_at hl 0 rfl) ?_
  refine va_new (ci := 4) (fs := [.null, .int 0, .int 0, .int 0]) (C := RX4) (T := TX4) (N := 4) hx₀ hb hts inlX4 tyX4 tyX4_ok hown (hts (.classLink RX11 7 RX4) wd_12) (hts (.instantiable RX4 4) wd_13) (hts (.initialized RX4) wd_14) hK hP hD hS hA rfl (by decide +kernel) (by decide +kernel) (by decide +kernel) dX11_init_5 (fun qo_1 H hP hD hS => ?_)
  replace hP := k_w2 (wt := [(hx, .inr (10, [.null, .null, .null, .null, .null, .null, .null, .null, .null, .null, .null, .null, .int 0, .int 0, .int 0])), (qo_1, .inr (4, [.null, .int 0, .int 0, .int 0]))]) hP hD rfl
  replace hD := hP.2
  replace hP := hP.1
  refine W.widen (k := 1) (n := 4) (by omega) (by omega) ?_
  refine lv_dup hx₀ hb dX11_init_8 rfl ?_
  obtain ⟨hPc, hDc, hFc, hC⟩ := k_cw (wc := [(qo_1, .inr (4, [.null, .int 0, .int 0, .int 0]))]) hP hD hS hA [1] (by decide +kernel) rfl
  refine va_callv (va_runI (As := []) (rest := [.ref qo_1, .ref hx]) ⟨hx₀, hb, hml, hown, hts⟩ (k_X4 l dC dI cI cJ cQ H.size qo_1) (cwI 0 hts (kG wd_54) rfl rfl rfl (hts (.initialized RX4) wd_14) (hts (.methodLink RX11 9 yX4_init) wd_52) (hts (.instanceMethod yX4_init) wd_53) rfl (by decide +kernel) ⟨Nat.le_of_ble_eq_true rfl, Nat.le_of_ble_eq_true rfl⟩) (k_preS hK hPc hDc hN) rfl rfl hl.1 rfl (lv_room (Nat.le_of_ble_eq_true rfl)) dX11_init_9 ⟨by decide +kernel, by decide +kernel⟩) hS (fun q _ h => hFc q h) hFc (fun u₀ t₀ H1 locs ht hvm hw hB hz1 hk1 hS => ?_)
  obtain ⟨qn_3, rfl⟩ : ∃ z, z = u₀ := ⟨_, rfl⟩
  obtain ⟨hP1, hK1, hD1⟩ := hB
  rw [ht] at hP1
  have hJ := k_jn (wr := [(hx, .inr (10, [.null, .null, .null, .null, .null, .null, .null, .null, .null, .null, .null, .null, .int 0, .int 0, .int 0]))]) (wt := [(hx, .inr (10, [.null, .null, .null, .null, .null, .null, .null, .null, .null, .null, .null, .null, .int 0, .int 0, .int 0])), (kX4 qo_1 qn_3 0 (-1) 0), (kAI qn_3 cI 24 (fun _ => 0))]) hP hD hC [0] rfl (by decide +kernel) (by decide +kernel) hk1 hFc hP1 hD1 rfl
  clear hP hD hPc hDc hFc hC hP1 hD1 hK1 hz1 hk1 hvm ht
  obtain ⟨hP, hD⟩ := hJ
  generalize H1 = H at hP hS ⊢
  refine W.widen (k := 2) (n := 28) (by omega) (by omega) ?_
  refine va_putF (D := (dC, dI)) (ci := 10) (v := .ref qo_1) (ty := .object "BittenStick$Land") (C := RX11) (T := TX11) (N := 15) hx₀ hb hts inlX11 tyX11 tyX11_ok nmX11 hown hK hP hD hS 0 rfl rfl 0 (by decide) (hts (.fieldLink RX11 10 "BittenStick" "land" "LBittenStick$Land;") wd_15) (fun _ h9 => h9) rfl hin rfl (by decide +kernel) rfl rfl (Nat.le_of_ble_eq_true rfl) dX11_init_12 ?_
  clear hP hD hS
  intro H locs hP hD hS
  replace hP := k_w2 (wt := [(hx, .inr (10, [.ref qo_1, .null, .null, .null, .null, .null, .null, .null, .null, .null, .null, .null, .int 0, .int 0, .int 0])), (kX4 qo_1 qn_3 0 (-1) 0), (kAI qn_3 cI 24 (fun _ => 0))]) hP hD rfl
  replace hD := hP.2
  replace hP := hP.1
  refine lv_aload_n hx₀ hb dX11_init_15 rfl (lv_at hl 0 rfl) ?_
  refine va_new (ci := 7) (fs := [.null, .int 0, .int 0, .int 0]) (C := RX7) (T := TX7) (N := 4) hx₀ hb hts inlX7 tyX7 tyX7_ok hown (hts (.classLink RX11 16 RX7) wd_16) (hts (.instantiable RX7 4) wd_17) (hts (.initialized RX7) wd_18) hK hP hD hS hA rfl (by decide +kernel) (by decide +kernel) (by decide +kernel) dX11_init_16 (fun qo_4 H hP hD hS => ?_)
  replace hP := k_w2 (wt := [(hx, .inr (10, [.ref qo_1, .null, .null, .null, .null, .null, .null, .null, .null, .null, .null, .null, .int 0, .int 0, .int 0])), (kX4 qo_1 qn_3 0 (-1) 0), (kAI qn_3 cI 24 (fun _ => 0)), (qo_4, .inr (7, [.null, .int 0, .int 0, .int 0]))]) hP hD rfl
  replace hD := hP.2
  replace hP := hP.1
  refine W.widen (k := 3) (n := 32) (by omega) (by omega) ?_
  refine lv_dup hx₀ hb dX11_init_19 rfl ?_
  obtain ⟨hPc, hDc, hFc, hC⟩ := k_cw (wc := [(qo_4, .inr (7, [.null, .int 0, .int 0, .int 0]))]) hP hD hS hA [3] (by decide +kernel) rfl
  refine va_callv (va_runI (As := []) (rest := [.ref qo_4, .ref hx]) ⟨hx₀, hb, hml, hown, hts⟩ (k_X7 l dC dI cI cJ cQ H.size qo_4) (cwI 0 hts (kG wd_68) rfl rfl rfl (hts (.initialized RX7) wd_18) (hts (.methodLink RX11 18 yX7_init) wd_66) (hts (.instanceMethod yX7_init) wd_67) rfl (by decide +kernel) ⟨Nat.le_of_ble_eq_true rfl, Nat.le_of_ble_eq_true rfl⟩) (k_preS hK hPc hDc hN) rfl rfl hl.1 rfl (lv_room (Nat.le_of_ble_eq_true rfl)) dX11_init_20 ⟨by decide +kernel, by decide +kernel⟩) hS (fun q _ h => hFc q h) hFc (fun u₀ t₀ H1 locs ht hvm hw hB hz1 hk1 hS => ?_)
  obtain ⟨qn_6, rfl⟩ : ∃ z, z = u₀ := ⟨_, rfl⟩
  obtain ⟨hP1, hK1, hD1⟩ := hB
  rw [ht] at hP1
  have hJ := k_jn (wr := [(hx, .inr (10, [.ref qo_1, .null, .null, .null, .null, .null, .null, .null, .null, .null, .null, .null, .int 0, .int 0, .int 0])), (kX4 qo_1 qn_3 0 (-1) 0), (kAI qn_3 cI 24 (fun _ => 0))]) (wt := [(hx, .inr (10, [.ref qo_1, .null, .null, .null, .null, .null, .null, .null, .null, .null, .null, .null, .int 0, .int 0, .int 0])), (kX4 qo_1 qn_3 0 (-1) 0), (kAI qn_3 cI 24 (fun _ => 0)), (kX7 qo_4 qn_6 0 (-1) 0), (kAI qn_6 cI 39 (fun _ => 0))]) hP hD hC [0, 1, 2] rfl (by decide +kernel) (by decide +kernel) hk1 hFc hP1 hD1 rfl
  clear hP hD hPc hDc hFc hC hP1 hD1 hK1 hz1 hk1 hvm ht
  obtain ⟨hP, hD⟩ := hJ
  generalize H1 = H at hP hS ⊢
  refine W.widen (k := 4) (n := 71) (by omega) (by omega) ?_
  refine va_putF (D := (dC, dI)) (ci := 10) (v := .ref qo_4) (ty := .object "BittenStick$Passengers") (C := RX11) (T := TX11) (N := 15) hx₀ hb hts inlX11 tyX11 tyX11_ok nmX11 hown hK hP hD hS 0 rfl rfl 1 (by decide) (hts (.fieldLink RX11 19 "BittenStick" "passengers" "LBittenStick$Passengers;") wd_19) (fun _ h9 => h9) rfl hin rfl (by decide +kernel) rfl rfl (Nat.le_of_ble_eq_true rfl) dX11_init_23 ?_
  clear hP hD hS
  intro H locs hP hD hS
  replace hP := k_w2 (wt := [(hx, .inr (10, [.ref qo_1, .ref qo_4, .null, .null, .null, .null, .null, .null, .null, .null, .null, .null, .int 0, .int 0, .int 0])), (kX4 qo_1 qn_3 0 (-1) 0), (kAI qn_3 cI 24 (fun _ => 0)), (kX7 qo_4 qn_6 0 (-1) 0), (kAI qn_6 cI 39 (fun _ => 0))]) hP hD rfl
  replace hD := hP.2
  replace hP := hP.1
  refine lv_aload_n hx₀ hb dX11_init_26 rfl (lv_at hl 0 rfl) ?_
  refine va_new (ci := 2) (fs := [.null, .int 0, .int 0, .int 0]) (C := RX2) (T := TX2) (N := 4) hx₀ hb hts inlX2 tyX2 tyX2_ok hown (hts (.classLink RX11 23 RX2) wd_20) (hts (.instantiable RX2 4) wd_21) (hts (.initialized RX2) wd_22) hK hP hD hS hA rfl (by decide +kernel) (by decide +kernel) (by decide +kernel) dX11_init_27 (fun qo_7 H hP hD hS => ?_)
  replace hP := k_w2 (wt := [(hx, .inr (10, [.ref qo_1, .ref qo_4, .null, .null, .null, .null, .null, .null, .null, .null, .null, .null, .int 0, .int 0, .int 0])), (kX4 qo_1 qn_3 0 (-1) 0), (kAI qn_3 cI 24 (fun _ => 0)), (kX7 qo_4 qn_6 0 (-1) 0), (kAI qn_6 cI 39 (fun _ => 0)), (qo_7, .inr (2, [.null, .int 0, .int 0, .int 0]))]) hP hD rfl
  replace hD := hP.2
  replace hP := hP.1
  refine W.widen (k := 5) (n := 75) (by omega) (by omega) ?_
  refine lv_dup hx₀ hb dX11_init_30 rfl ?_
  obtain ⟨hPc, hDc, hFc, hC⟩ := k_cw (wc := [(qo_7, .inr (2, [.null, .int 0, .int 0, .int 0]))]) hP hD hS hA [5] (by decide +kernel) rfl
  refine va_callv (va_runI (As := []) (rest := [.ref qo_7, .ref hx]) ⟨hx₀, hb, hml, hown, hts⟩ (k_X2 l dC dI cI cJ cQ H.size qo_7) (cwI 0 hts (kG wd_72) rfl rfl rfl (hts (.initialized RX2) wd_22) (hts (.methodLink RX11 25 yX2_init) wd_70) (hts (.instanceMethod yX2_init) wd_71) rfl (by decide +kernel) ⟨Nat.le_of_ble_eq_true rfl, Nat.le_of_ble_eq_true rfl⟩) (k_preS hK hPc hDc hN) rfl rfl hl.1 rfl (lv_room (Nat.le_of_ble_eq_true rfl)) dX11_init_31 ⟨by decide +kernel, by decide +kernel⟩) hS (fun q _ h => hFc q h) hFc (fun u₀ t₀ H1 locs ht hvm hw hB hz1 hk1 hS => ?_)
  obtain ⟨qn_9, rfl⟩ : ∃ z, z = u₀ := ⟨_, rfl⟩
  obtain ⟨hP1, hK1, hD1⟩ := hB
  rw [ht] at hP1
  have hJ := k_jn (wr := [(hx, .inr (10, [.ref qo_1, .ref qo_4, .null, .null, .null, .null, .null, .null, .null, .null, .null, .null, .int 0, .int 0, .int 0])), (kX4 qo_1 qn_3 0 (-1) 0), (kAI qn_3 cI 24 (fun _ => 0)), (kX7 qo_4 qn_6 0 (-1) 0), (kAI qn_6 cI 39 (fun _ => 0))]) (wt := [(hx, .inr (10, [.ref qo_1, .ref qo_4, .null, .null, .null, .null, .null, .null, .null, .null, .null, .null, .int 0, .int 0, .int 0])), (kX4 qo_1 qn_3 0 (-1) 0), (kAI qn_3 cI 24 (fun _ => 0)), (kX7 qo_4 qn_6 0 (-1) 0), (kAI qn_6 cI 39 (fun _ => 0)), (kX2 qo_7 qn_9 0 (-1) 0), (kAI qn_9 cI 23 (fun _ => 0))]) hP hD hC [0, 1, 2, 3, 4] rfl (by decide +kernel) (by decide +kernel) hk1 hFc hP1 hD1 rfl
  clear hP hD hPc hDc hFc hC hP1 hD1 hK1 hz1 hk1 hvm ht
  obtain ⟨hP, hD⟩ := hJ
  generalize H1 = H at hP hS ⊢
  refine W.widen (k := 6) (n := 98) (by omega) (by omega) ?_
  refine va_putF (D := (dC, dI)) (ci := 10) (v := .ref qo_7) (ty := .object "BittenStick$Geese") (C := RX11) (T := TX11) (N := 15) hx₀ hb hts inlX11 tyX11 tyX11_ok nmX11 hown hK hP hD hS 0 rfl rfl 2 (by decide) (hts (.fieldLink RX11 26 "BittenStick" "geese" "LBittenStick$Geese;") wd_23) (fun _ h9 => h9) rfl hin rfl (by decide +kernel) rfl rfl (Nat.le_of_ble_eq_true rfl) dX11_init_34 ?_
  clear hP hD hS
  intro H locs hP hD hS
  replace hP := k_w2 (wt := [(hx, .inr (10, [.ref qo_1, .ref qo_4, .ref qo_7, .null, .null, .null, .null, .null, .null, .null, .null, .null, .int 0, .int 0, .int 0])), (kX4 qo_1 qn_3 0 (-1) 0), (kAI qn_3 cI 24 (fun _ => 0)), (kX7 qo_4 qn_6 0 (-1) 0), (kAI qn_6 cI 39 (fun _ => 0)), (kX2 qo_7 qn_9 0 (-1) 0), (kAI qn_9 cI 23 (fun _ => 0))]) hP hD rfl
  replace hD := hP.2
  replace hP := hP.1
  refine lv_aload_n hx₀ hb dX11_init_37 rfl (lv_at hl 0 rfl) ?_
  refine va_new (ci := 1) (fs := [.null, .int 0]) (C := RX1) (T := TX1) (N := 2) hx₀ hb hts inlX1 tyX1 tyX1_ok hown (hts (.classLink RX11 30 RX1) wd_24) (hts (.instantiable RX1 2) wd_25) (hts (.initialized RX1) wd_26) hK hP hD hS hA rfl (by decide +kernel) (by decide +kernel) (by decide +kernel) dX11_init_38 (fun qo_10 H hP hD hS => ?_)
  replace hP := k_w2 (wt := [(hx, .inr (10, [.ref qo_1, .ref qo_4, .ref qo_7, .null, .null, .null, .null, .null, .null, .null, .null, .null, .int 0, .int 0, .int 0])), (kX4 qo_1 qn_3 0 (-1) 0), (kAI qn_3 cI 24 (fun _ => 0)), (kX7 qo_4 qn_6 0 (-1) 0), (kAI qn_6 cI 39 (fun _ => 0)), (kX2 qo_7 qn_9 0 (-1) 0), (kAI qn_9 cI 23 (fun _ => 0)), (qo_10, .inr (1, [.null, .int 0]))]) hP hD rfl
  replace hD := hP.2
  replace hP := hP.1
  refine W.widen (k := 7) (n := 100) (by omega) (by omega) ?_
  refine lv_dup hx₀ hb dX11_init_41 rfl ?_
  obtain ⟨hPc, hDc, hFc, hC⟩ := k_cw (wc := [(qo_10, .inr (1, [.null, .int 0]))]) hP hD hS hA [7] (by decide +kernel) rfl
  refine va_callv (va_runIN (As := []) (rest := [.ref qo_10, .ref hx]) ⟨hx₀, hb, hml, hown, hts⟩ (k_X1 l dC dI cI cJ cQ H.size qo_10) ⟨va_cnB (host := "BittenStick") 0 hts (kG wd_75) rfl rfl rfl hN.2.2.2.1 (hts (.initialized RX1) wd_26) (by decide +kernel) ⟨Nat.le_of_ble_eq_true rfl, Nat.le_of_ble_eq_true rfl⟩, rfl, (hts (.instanceMethod yX1_init) wd_74)⟩ (k_preS hK hPc hDc hN) rfl rfl hl.1 rfl (lv_room (Nat.le_of_ble_eq_true rfl)) dX11_init_42 ⟨by decide +kernel, by decide +kernel⟩) hS (fun q _ h => hFc q h) hFc (fun u₀ t₀ H1 locs ht hvm hw hB hz1 hk1 hS => ?_)
  obtain ⟨qn_12, rfl⟩ : ∃ z, z = u₀ := ⟨_, rfl⟩
  obtain ⟨hP1, hK1, hD1⟩ := hB
  rw [ht] at hP1
  have hJ := k_jn (wr := [(hx, .inr (10, [.ref qo_1, .ref qo_4, .ref qo_7, .null, .null, .null, .null, .null, .null, .null, .null, .null, .int 0, .int 0, .int 0])), (kX4 qo_1 qn_3 0 (-1) 0), (kAI qn_3 cI 24 (fun _ => 0)), (kX7 qo_4 qn_6 0 (-1) 0), (kAI qn_6 cI 39 (fun _ => 0)), (kX2 qo_7 qn_9 0 (-1) 0), (kAI qn_9 cI 23 (fun _ => 0))]) (wt := [(hx, .inr (10, [.ref qo_1, .ref qo_4, .ref qo_7, .null, .null, .null, .null, .null, .null, .null, .null, .null, .int 0, .int 0, .int 0])), (kX4 qo_1 qn_3 0 (-1) 0), (kAI qn_3 cI 24 (fun _ => 0)), (kX7 qo_4 qn_6 0 (-1) 0), (kAI qn_6 cI 39 (fun _ => 0)), (kX2 qo_7 qn_9 0 (-1) 0), (kAI qn_9 cI 23 (fun _ => 0)), (kX1 qo_10 qn_12 0), (kAI qn_12 cI 32 (fun _ => 0))]) hP hD hC [0, 1, 2, 3, 4, 5, 6] rfl (by decide +kernel) (by decide +kernel) hk1 hFc hP1 hD1 rfl
  clear hP hD hPc hDc hFc hC hP1 hD1 hK1 hz1 hk1 hvm ht
  obtain ⟨hP, hD⟩ := hJ
  generalize H1 = H at hP hS ⊢
  refine W.widen (k := 8) (n := 132) (by omega) (by omega) ?_
  refine va_putF (D := (dC, dI)) (ci := 10) (v := .ref qo_10) (ty := .object "BittenStick$Flights") (C := RX11) (T := TX11) (N := 15) hx₀ hb hts inlX11 tyX11 tyX11_ok nmX11 hown hK hP hD hS 0 rfl rfl 3 (by decide) (hts (.fieldLink RX11 33 "BittenStick" "flights" "LBittenStick$Flights;") wd_27) (fun _ h9 => h9) rfl hin rfl (by decide +kernel) rfl rfl (Nat.le_of_ble_eq_true rfl) dX11_init_45 ?_
  clear hP hD hS
  intro H locs hP hD hS
  replace hP := k_w2 (wt := [(hx, .inr (10, [.ref qo_1, .ref qo_4, .ref qo_7, .ref qo_10, .null, .null, .null, .null, .null, .null, .null, .null, .int 0, .int 0, .int 0])), (kX4 qo_1 qn_3 0 (-1) 0), (kAI qn_3 cI 24 (fun _ => 0)), (kX7 qo_4 qn_6 0 (-1) 0), (kAI qn_6 cI 39 (fun _ => 0)), (kX2 qo_7 qn_9 0 (-1) 0), (kAI qn_9 cI 23 (fun _ => 0)), (kX1 qo_10 qn_12 0), (kAI qn_12 cI 32 (fun _ => 0))]) hP hD rfl
  replace hD := hP.2
  replace hP := hP.1
  refine lv_aload_n hx₀ hb dX11_init_48 rfl (lv_at hl 0 rfl) ?_
  refine va_new (ci := 9) (fs := [.null, .null, .null, .null, .null, .null, .null, .int 0, .int 0, .int 0, .int 0, .int 0, .int 0, .int 0, .int 0, .int 0, .int 0]) (C := RX10) (T := TX10) (N := 17) hx₀ hb hts inlX10 tyX10 tyX10_ok hown (hts (.classLink RX11 37 RX10) wd_28) (hts (.instantiable RX10 17) wd_29) (hts (.initialized RX10) wd_30) hK hP hD hS hA rfl (by decide +kernel) (by decide +kernel) (by decide +kernel) dX11_init_49 (fun qo_13 H hP hD hS => ?_)
  replace hP := k_w2 (wt := [(hx, .inr (10, [.ref qo_1, .ref qo_4, .ref qo_7, .ref qo_10, .null, .null, .null, .null, .null, .null, .null, .null, .int 0, .int 0, .int 0])), (kX4 qo_1 qn_3 0 (-1) 0), (kAI qn_3 cI 24 (fun _ => 0)), (kX7 qo_4 qn_6 0 (-1) 0), (kAI qn_6 cI 39 (fun _ => 0)), (kX2 qo_7 qn_9 0 (-1) 0), (kAI qn_9 cI 23 (fun _ => 0)), (kX1 qo_10 qn_12 0), (kAI qn_12 cI 32 (fun _ => 0)), (qo_13, .inr (9, [.null, .null, .null, .null, .null, .null, .null, .int 0, .int 0, .int 0, .int 0, .int 0, .int 0, .int 0, .int 0, .int 0, .int 0]))]) hP hD rfl
  replace hD := hP.2
  replace hP := hP.1
  refine W.widen (k := 9) (n := 149) (by omega) (by omega) ?_
  refine lv_dup hx₀ hb dX11_init_52 rfl ?_
  refine lv_aload_n hx₀ hb dX11_init_53 rfl (lv_at hl 0 rfl) ?_
  refine va_get (D := (dC, dI)) (ci := 10) (v := .ref qo_1) (C := RX11) (T := TX11) (N := 15) hx₀ hb hts inlX11 hown hK hP 0 rfl rfl 0 (by decide) (hts (.fieldLink RX11 10 "BittenStick" "land" "LBittenStick$Land;") wd_15) (fun _ h9 => h9) rfl dX11_init_54 ?_
  refine lv_aload_n hx₀ hb dX11_init_57 rfl (lv_at hl 0 rfl) ?_
  refine va_get (D := (dC, dI)) (ci := 10) (v := .ref qo_4) (C := RX11) (T := TX11) (N := 15) hx₀ hb hts inlX11 hown hK hP 0 rfl rfl 1 (by decide) (hts (.fieldLink RX11 19 "BittenStick" "passengers" "LBittenStick$Passengers;") wd_19) (fun _ h9 => h9) rfl dX11_init_58 ?_
  refine lv_aload_n hx₀ hb dX11_init_61 rfl (lv_at hl 0 rfl) ?_
  refine va_get (D := (dC, dI)) (ci := 10) (v := .ref qo_7) (C := RX11) (T := TX11) (N := 15) hx₀ hb hts inlX11 hown hK hP 0 rfl rfl 2 (by decide) (hts (.fieldLink RX11 26 "BittenStick" "geese" "LBittenStick$Geese;") wd_23) (fun _ h9 => h9) rfl dX11_init_62 ?_
  obtain ⟨hPc, hDc, hFc, hC⟩ := k_cw (wc := [(qo_13, .inr (9, [.null, .null, .null, .null, .null, .null, .null, .int 0, .int 0, .int 0, .int 0, .int 0, .int 0, .int 0, .int 0, .int 0, .int 0]))]) hP hD hS hA [9] (by decide +kernel) rfl
  refine va_callv (va_runI (As := [.ref qo_1, .ref qo_4, .ref qo_7]) (rest := [.ref qo_13, .ref hx]) ⟨hx₀, hb, hml, hown, hts⟩ (k_X10 l dC dI cI cJ cQ H.size qo_13 qo_1 qo_4 qo_7) (cwI 3 hts (kG wd_80) rfl rfl rfl (hts (.initialized RX10) wd_30) (hts (.methodLink RX11 39 yX10_init) wd_78) (hts (.instanceMethod yX10_init) wd_79) rfl (by decide +kernel) ⟨Nat.le_of_ble_eq_true rfl, Nat.le_of_ble_eq_true rfl⟩) (k_preS hK hPc hDc hN) rfl rfl hl.1 rfl (lv_room (Nat.le_of_ble_eq_true rfl)) dX11_init_65 ⟨by decide +kernel, by decide +kernel⟩) hS (fun q _ h => hFc q h) hFc (fun u₀ t₀ H1 locs ht hvm hw hB hz1 hk1 hS => ?_)
  obtain ⟨qn_15, qn_16⟩ := u₀
  obtain ⟨hP1, hK1, hD1⟩ := hB
  rw [ht] at hP1
  have hJ := k_jn (wr := [(hx, .inr (10, [.ref qo_1, .ref qo_4, .ref qo_7, .ref qo_10, .null, .null, .null, .null, .null, .null, .null, .null, .int 0, .int 0, .int 0])), (kX4 qo_1 qn_3 0 (-1) 0), (kAI qn_3 cI 24 (fun _ => 0)), (kX7 qo_4 qn_6 0 (-1) 0), (kAI qn_6 cI 39 (fun _ => 0)), (kX2 qo_7 qn_9 0 (-1) 0), (kAI qn_9 cI 23 (fun _ => 0)), (kX1 qo_10 qn_12 0), (kAI qn_12 cI 32 (fun _ => 0))]) (wt := [(hx, .inr (10, [.ref qo_1, .ref qo_4, .ref qo_7, .ref qo_10, .null, .null, .null, .null, .null, .null, .null, .null, .int 0, .int 0, .int 0])), (kX4 qo_1 qn_3 0 (-1) 0), (kAI qn_3 cI 24 (fun _ => 0)), (kX7 qo_4 qn_6 0 (-1) 0), (kAI qn_6 cI 39 (fun _ => 0)), (kX2 qo_7 qn_9 0 (-1) 0), (kAI qn_9 cI 23 (fun _ => 0)), (kX1 qo_10 qn_12 0), (kAI qn_12 cI 32 (fun _ => 0)), (kX10 qo_13 qo_1 qo_4 qo_7 qn_15 qn_16 qn_15 qn_16 0 0 0 0 0 0 0 0 0 0), (kX3 qn_15 0 0 0 0), (kX3 qn_16 0 0 0 0)]) hP hD hC [0, 1, 2, 3, 4, 5, 6, 7, 8] rfl (by decide +kernel) (by decide +kernel) hk1 hFc hP1 hD1 rfl
  clear hP hD hPc hDc hFc hC hP1 hD1 hK1 hz1 hk1 hvm ht
  obtain ⟨hP, hD⟩ := hJ
  generalize H1 = H at hP hS ⊢
  refine W.widen (k := 11) (n := 157) (by omega) (by omega) ?_
  refine va_putF (D := (dC, dI)) (ci := 10) (v := .ref qo_13) (ty := .object "BittenStick$Trip") (C := RX11) (T := TX11) (N := 15) hx₀ hb hts inlX11 tyX11 tyX11_ok nmX11 hown hK hP hD hS 0 rfl rfl 4 (by decide) (hts (.fieldLink RX11 42 "BittenStick" "trip" "LBittenStick$Trip;") wd_31) (fun _ h9 => h9) rfl hin rfl (by decide +kernel) rfl rfl (Nat.le_of_ble_eq_true rfl) dX11_init_68 ?_
  clear hP hD hS
  intro H locs hP hD hS
  replace hP := k_w2 (wt := [(hx, .inr (10, [.ref qo_1, .ref qo_4, .ref qo_7, .ref qo_10, .ref qo_13, .null, .null, .null, .null, .null, .null, .null, .int 0, .int 0, .int 0])), (kX4 qo_1 qn_3 0 (-1) 0), (kAI qn_3 cI 24 (fun _ => 0)), (kX7 qo_4 qn_6 0 (-1) 0), (kAI qn_6 cI 39 (fun _ => 0)), (kX2 qo_7 qn_9 0 (-1) 0), (kAI qn_9 cI 23 (fun _ => 0)), (kX1 qo_10 qn_12 0), (kAI qn_12 cI 32 (fun _ => 0)), (kX10 qo_13 qo_1 qo_4 qo_7 qn_15 qn_16 qn_15 qn_16 0 0 0 0 0 0 0 0 0 0), (kX3 qn_15 0 0 0 0), (kX3 qn_16 0 0 0 0)]) hP hD rfl
  replace hD := hP.2
  replace hP := hP.1
  refine lv_aload_n hx₀ hb dX11_init_71 rfl (lv_at hl 0 rfl) ?_
  refine va_new (ci := 0) (fs := [.int 0, .int 0, .int 0, .int 0]) (C := RX0) (T := TX0) (N := 4) hx₀ hb hts inlX0 tyX0 tyX0_ok hown (hts (.classLink RX11 46 RX0) wd_32) (hts (.instantiable RX0 4) wd_33) (hts (.initialized RX0) wd_34) hK hP hD hS hA rfl (by decide +kernel) (by decide +kernel) (by decide +kernel) dX11_init_72 (fun qo_17 H hP hD hS => ?_)
  replace hP := k_w2 (wt := [(hx, .inr (10, [.ref qo_1, .ref qo_4, .ref qo_7, .ref qo_10, .ref qo_13, .null, .null, .null, .null, .null, .null, .null, .int 0, .int 0, .int 0])), (kX4 qo_1 qn_3 0 (-1) 0), (kAI qn_3 cI 24 (fun _ => 0)), (kX7 qo_4 qn_6 0 (-1) 0), (kAI qn_6 cI 39 (fun _ => 0)), (kX2 qo_7 qn_9 0 (-1) 0), (kAI qn_9 cI 23 (fun _ => 0)), (kX1 qo_10 qn_12 0), (kAI qn_12 cI 32 (fun _ => 0)), (kX10 qo_13 qo_1 qo_4 qo_7 qn_15 qn_16 qn_15 qn_16 0 0 0 0 0 0 0 0 0 0), (kX3 qn_15 0 0 0 0), (kX3 qn_16 0 0 0 0), (kX0 qo_17 0 0 0 0)]) hP hD rfl
  replace hD := hP.2
  replace hP := hP.1
  refine W.widen (k := 12) (n := 161) (by omega) (by omega) ?_
  refine lv_dup hx₀ hb dX11_init_75 rfl ?_
  obtain ⟨hPc, hDc, hFc, hC⟩ := k_cw (wc := [(kX0 qo_17 0 0 0 0)]) hP hD hS hA [12] (by decide +kernel) rfl
  refine va_callv (va_runIN (As := []) (rest := [.ref qo_17, .ref hx]) ⟨hx₀, hb, hml, hown, hts⟩ (k_X0 l dC dI cI cJ cQ H.size qo_17) ⟨va_cnB (host := "BittenStick") 0 hts (kG wd_96) rfl rfl rfl hN.2.2.2.2.1 (hts (.initialized RX0) wd_34) (by decide +kernel) ⟨Nat.le_of_ble_eq_true rfl, Nat.le_of_ble_eq_true rfl⟩, rfl, (hts (.instanceMethod yX0_init) wd_95)⟩ (k_preS hK hPc hDc hN) rfl rfl hl.1 rfl (lv_room (Nat.le_of_ble_eq_true rfl)) dX11_init_76 ⟨by decide +kernel, by decide +kernel⟩) hS (fun q _ h => hFc q h) hFc (fun u₀ t₀ H1 locs ht hvm hw hB hz1 hk1 hS => ?_)
  obtain ⟨hP1, hK1, hD1⟩ := hB
  rw [ht] at hP1
  have hJ := k_jn (wr := [(hx, .inr (10, [.ref qo_1, .ref qo_4, .ref qo_7, .ref qo_10, .ref qo_13, .null, .null, .null, .null, .null, .null, .null, .int 0, .int 0, .int 0])), (kX4 qo_1 qn_3 0 (-1) 0), (kAI qn_3 cI 24 (fun _ => 0)), (kX7 qo_4 qn_6 0 (-1) 0), (kAI qn_6 cI 39 (fun _ => 0)), (kX2 qo_7 qn_9 0 (-1) 0), (kAI qn_9 cI 23 (fun _ => 0)), (kX1 qo_10 qn_12 0), (kAI qn_12 cI 32 (fun _ => 0)), (kX10 qo_13 qo_1 qo_4 qo_7 qn_15 qn_16 qn_15 qn_16 0 0 0 0 0 0 0 0 0 0), (kX3 qn_15 0 0 0 0), (kX3 qn_16 0 0 0 0)]) (wt := [(hx, .inr (10, [.ref qo_1, .ref qo_4, .ref qo_7, .ref qo_10, .ref qo_13, .null, .null, .null, .null, .null, .null, .null, .int 0, .int 0, .int 0])), (kX4 qo_1 qn_3 0 (-1) 0), (kAI qn_3 cI 24 (fun _ => 0)), (kX7 qo_4 qn_6 0 (-1) 0), (kAI qn_6 cI 39 (fun _ => 0)), (kX2 qo_7 qn_9 0 (-1) 0), (kAI qn_9 cI 23 (fun _ => 0)), (kX1 qo_10 qn_12 0), (kAI qn_12 cI 32 (fun _ => 0)), (kX10 qo_13 qo_1 qo_4 qo_7 qn_15 qn_16 qn_15 qn_16 0 0 0 0 0 0 0 0 0 0), (kX3 qn_15 0 0 0 0), (kX3 qn_16 0 0 0 0), (kX0 qo_17 0 0 0 0)]) hP hD hC [0, 1, 2, 3, 4, 5, 6, 7, 8, 9, 10, 11] rfl (by decide +kernel) (by decide +kernel) hk1 hFc hP1 hD1 rfl
  clear hP hD hPc hDc hFc hC hP1 hD1 hK1 hz1 hk1 hvm ht
  obtain ⟨hP, hD⟩ := hJ
  generalize H1 = H at hP hS ⊢
  refine va_putF (D := (dC, dI)) (ci := 10) (v := .ref qo_17) (ty := .object "BittenStick$Climb") (C := RX11) (T := TX11) (N := 15) hx₀ hb hts inlX11 tyX11 tyX11_ok nmX11 hown hK hP hD hS 0 rfl rfl 5 (by decide) (hts (.fieldLink RX11 49 "BittenStick" "best" "LBittenStick$Climb;") wd_35) (fun _ h9 => h9) rfl hin rfl (by decide +kernel) rfl rfl (Nat.le_of_ble_eq_true rfl) dX11_init_79 ?_
  clear hP hD hS
  intro H locs hP hD hS
  replace hP := k_w2 (wt := [(hx, .inr (10, [.ref qo_1, .ref qo_4, .ref qo_7, .ref qo_10, .ref qo_13, .ref qo_17, .null, .null, .null, .null, .null, .null, .int 0, .int 0, .int 0])), (kX4 qo_1 qn_3 0 (-1) 0), (kAI qn_3 cI 24 (fun _ => 0)), (kX7 qo_4 qn_6 0 (-1) 0), (kAI qn_6 cI 39 (fun _ => 0)), (kX2 qo_7 qn_9 0 (-1) 0), (kAI qn_9 cI 23 (fun _ => 0)), (kX1 qo_10 qn_12 0), (kAI qn_12 cI 32 (fun _ => 0)), (kX10 qo_13 qo_1 qo_4 qo_7 qn_15 qn_16 qn_15 qn_16 0 0 0 0 0 0 0 0 0 0), (kX3 qn_15 0 0 0 0), (kX3 qn_16 0 0 0 0), (kX0 qo_17 0 0 0 0)]) hP hD rfl
  replace hD := hP.2
  replace hP := hP.1
  refine lv_aload_n hx₀ hb dX11_init_82 rfl (lv_at hl 0 rfl) ?_
  refine va_new (ci := 5) (fs := [.null, .long 0, .long 0]) (C := RX5) (T := TX5) (N := 3) hx₀ hb hts inlX5 tyX5 tyX5_ok hown (hts (.classLink RX11 53 RX5) wd_36) (hts (.instantiable RX5 3) wd_37) (hts (.initialized RX5) wd_38) hK hP hD hS hA rfl (by decide +kernel) (by decide +kernel) (by decide +kernel) dX11_init_83 (fun qo_19 H hP hD hS => ?_)
  replace hP := k_w2 (wt := [(hx, .inr (10, [.ref qo_1, .ref qo_4, .ref qo_7, .ref qo_10, .ref qo_13, .ref qo_17, .null, .null, .null, .null, .null, .null, .int 0, .int 0, .int 0])), (kX4 qo_1 qn_3 0 (-1) 0), (kAI qn_3 cI 24 (fun _ => 0)), (kX7 qo_4 qn_6 0 (-1) 0), (kAI qn_6 cI 39 (fun _ => 0)), (kX2 qo_7 qn_9 0 (-1) 0), (kAI qn_9 cI 23 (fun _ => 0)), (kX1 qo_10 qn_12 0), (kAI qn_12 cI 32 (fun _ => 0)), (kX10 qo_13 qo_1 qo_4 qo_7 qn_15 qn_16 qn_15 qn_16 0 0 0 0 0 0 0 0 0 0), (kX3 qn_15 0 0 0 0), (kX3 qn_16 0 0 0 0), (kX0 qo_17 0 0 0 0), (qo_19, .inr (5, [.null, .long 0, .long 0]))]) hP hD rfl
  replace hD := hP.2
  replace hP := hP.1
  refine W.widen (k := 13) (n := 164) (by omega) (by omega) ?_
  refine lv_dup hx₀ hb dX11_init_86 rfl ?_
  obtain ⟨hPc, hDc, hFc, hC⟩ := k_cw (wc := [(qo_19, .inr (5, [.null, .long 0, .long 0]))]) hP hD hS hA [13] (by decide +kernel) rfl
  refine va_callv (va_runIN (As := []) (rest := [.ref qo_19, .ref hx]) ⟨hx₀, hb, hml, hown, hts⟩ (k_X5 l dC dI cI cJ cQ H.size qo_19) ⟨va_cnB (host := "BittenStick") 0 hts (kG wd_99) rfl rfl rfl hN.2.2.2.2.2.1 (hts (.initialized RX5) wd_38) (by decide +kernel) ⟨Nat.le_of_ble_eq_true rfl, Nat.le_of_ble_eq_true rfl⟩, rfl, (hts (.instanceMethod yX5_init) wd_98)⟩ (k_preS hK hPc hDc hN) rfl rfl hl.1 rfl (lv_room (Nat.le_of_ble_eq_true rfl)) dX11_init_87 ⟨by decide +kernel, by decide +kernel⟩) hS (fun q _ h => hFc q h) hFc (fun u₀ t₀ H1 locs ht hvm hw hB hz1 hk1 hS => ?_)
  obtain ⟨qn_21, rfl⟩ : ∃ z, z = u₀ := ⟨_, rfl⟩
  obtain ⟨hP1, hK1, hD1⟩ := hB
  rw [ht] at hP1
  have hJ := k_jn (wr := [(hx, .inr (10, [.ref qo_1, .ref qo_4, .ref qo_7, .ref qo_10, .ref qo_13, .ref qo_17, .null, .null, .null, .null, .null, .null, .int 0, .int 0, .int 0])), (kX4 qo_1 qn_3 0 (-1) 0), (kAI qn_3 cI 24 (fun _ => 0)), (kX7 qo_4 qn_6 0 (-1) 0), (kAI qn_6 cI 39 (fun _ => 0)), (kX2 qo_7 qn_9 0 (-1) 0), (kAI qn_9 cI 23 (fun _ => 0)), (kX1 qo_10 qn_12 0), (kAI qn_12 cI 32 (fun _ => 0)), (kX10 qo_13 qo_1 qo_4 qo_7 qn_15 qn_16 qn_15 qn_16 0 0 0 0 0 0 0 0 0 0), (kX3 qn_15 0 0 0 0), (kX3 qn_16 0 0 0 0), (kX0 qo_17 0 0 0 0)]) (wt := [(hx, .inr (10, [.ref qo_1, .ref qo_4, .ref qo_7, .ref qo_10, .ref qo_13, .ref qo_17, .null, .null, .null, .null, .null, .null, .int 0, .int 0, .int 0])), (kX4 qo_1 qn_3 0 (-1) 0), (kAI qn_3 cI 24 (fun _ => 0)), (kX7 qo_4 qn_6 0 (-1) 0), (kAI qn_6 cI 39 (fun _ => 0)), (kX2 qo_7 qn_9 0 (-1) 0), (kAI qn_9 cI 23 (fun _ => 0)), (kX1 qo_10 qn_12 0), (kAI qn_12 cI 32 (fun _ => 0)), (kX10 qo_13 qo_1 qo_4 qo_7 qn_15 qn_16 qn_15 qn_16 0 0 0 0 0 0 0 0 0 0), (kX3 qn_15 0 0 0 0), (kX3 qn_16 0 0 0 0), (kX0 qo_17 0 0 0 0), (kX5 qo_19 qn_21 0 0), (kAJ qn_21 cJ 46 (fun _ => 0))]) hP hD hC [0, 1, 2, 3, 4, 5, 6, 7, 8, 9, 10, 11, 12] rfl (by decide +kernel) (by decide +kernel) hk1 hFc hP1 hD1 rfl
  clear hP hD hPc hDc hFc hC hP1 hD1 hK1 hz1 hk1 hvm ht
  obtain ⟨hP, hD⟩ := hJ
  generalize H1 = H at hP hS ⊢
  refine W.widen (k := 14) (n := 210) (by omega) (by omega) ?_
  refine va_putF (D := (dC, dI)) (ci := 10) (v := .ref qo_19) (ty := .object "BittenStick$Laughter") (C := RX11) (T := TX11) (N := 15) hx₀ hb hts inlX11 tyX11 tyX11_ok nmX11 hown hK hP hD hS 0 rfl rfl 6 (by decide) (hts (.fieldLink RX11 56 "BittenStick" "laughter" "LBittenStick$Laughter;") wd_39) (fun _ h9 => h9) rfl hin rfl (by decide +kernel) rfl rfl (Nat.le_of_ble_eq_true rfl) dX11_init_90 ?_
  clear hP hD hS
  intro H locs hP hD hS
  replace hP := k_w2 (wt := [(hx, .inr (10, [.ref qo_1, .ref qo_4, .ref qo_7, .ref qo_10, .ref qo_13, .ref qo_17, .ref qo_19, .null, .null, .null, .null, .null, .int 0, .int 0, .int 0])), (kX4 qo_1 qn_3 0 (-1) 0), (kAI qn_3 cI 24 (fun _ => 0)), (kX7 qo_4 qn_6 0 (-1) 0), (kAI qn_6 cI 39 (fun _ => 0)), (kX2 qo_7 qn_9 0 (-1) 0), (kAI qn_9 cI 23 (fun _ => 0)), (kX1 qo_10 qn_12 0), (kAI qn_12 cI 32 (fun _ => 0)), (kX10 qo_13 qo_1 qo_4 qo_7 qn_15 qn_16 qn_15 qn_16 0 0 0 0 0 0 0 0 0 0), (kX3 qn_15 0 0 0 0), (kX3 qn_16 0 0 0 0), (kX0 qo_17 0 0 0 0), (kX5 qo_19 qn_21 0 0), (kAJ qn_21 cJ 46 (fun _ => 0))]) hP hD rfl
  replace hD := hP.2
  replace hP := hP.1
  refine lv_aload_n hx₀ hb dX11_init_93 rfl (lv_at hl 0 rfl) ?_
  refine va_new (ci := 6) (fs := [.int 0]) (C := RX6) (T := TX6) (N := 1) hx₀ hb hts inlX6 tyX6 tyX6_ok hown (hts (.classLink RX11 60 RX6) wd_40) (hts (.instantiable RX6 1) wd_41) (hts (.initialized RX6) wd_42) hK hP hD hS hA rfl (by decide +kernel) (by decide +kernel) (by decide +kernel) dX11_init_94 (fun qo_22 H hP hD hS => ?_)
  replace hP := k_w2 (wt := [(hx, .inr (10, [.ref qo_1, .ref qo_4, .ref qo_7, .ref qo_10, .ref qo_13, .ref qo_17, .ref qo_19, .null, .null, .null, .null, .null, .int 0, .int 0, .int 0])), (kX4 qo_1 qn_3 0 (-1) 0), (kAI qn_3 cI 24 (fun _ => 0)), (kX7 qo_4 qn_6 0 (-1) 0), (kAI qn_6 cI 39 (fun _ => 0)), (kX2 qo_7 qn_9 0 (-1) 0), (kAI qn_9 cI 23 (fun _ => 0)), (kX1 qo_10 qn_12 0), (kAI qn_12 cI 32 (fun _ => 0)), (kX10 qo_13 qo_1 qo_4 qo_7 qn_15 qn_16 qn_15 qn_16 0 0 0 0 0 0 0 0 0 0), (kX3 qn_15 0 0 0 0), (kX3 qn_16 0 0 0 0), (kX0 qo_17 0 0 0 0), (kX5 qo_19 qn_21 0 0), (kAJ qn_21 cJ 46 (fun _ => 0)), (kX6 qo_22 0)]) hP hD rfl
  replace hD := hP.2
  replace hP := hP.1
  refine W.widen (k := 15) (n := 211) (by omega) (by omega) ?_
  refine lv_dup hx₀ hb dX11_init_97 rfl ?_
  obtain ⟨hPc, hDc, hFc, hC⟩ := k_cw (wc := [(kX6 qo_22 0)]) hP hD hS hA [15] (by decide +kernel) rfl
  refine va_callv (va_runIN (As := []) (rest := [.ref qo_22, .ref hx]) ⟨hx₀, hb, hml, hown, hts⟩ (k_X6 l dC dI cI cJ cQ H.size qo_22) ⟨va_cnB (host := "BittenStick") 0 hts (kG wd_104) rfl rfl rfl hN.2.2.2.2.2.2.1 (hts (.initialized RX6) wd_42) (by decide +kernel) ⟨Nat.le_of_ble_eq_true rfl, Nat.le_of_ble_eq_true rfl⟩, rfl, (hts (.instanceMethod yX6_init) wd_103)⟩ (k_preS hK hPc hDc hN) rfl rfl hl.1 rfl (lv_room (Nat.le_of_ble_eq_true rfl)) dX11_init_98 ⟨by decide +kernel, by decide +kernel⟩) hS (fun q _ h => hFc q h) hFc (fun u₀ t₀ H1 locs ht hvm hw hB hz1 hk1 hS => ?_)
  obtain ⟨hP1, hK1, hD1⟩ := hB
  rw [ht] at hP1
  have hJ := k_jn (wr := [(hx, .inr (10, [.ref qo_1, .ref qo_4, .ref qo_7, .ref qo_10, .ref qo_13, .ref qo_17, .ref qo_19, .null, .null, .null, .null, .null, .int 0, .int 0, .int 0])), (kX4 qo_1 qn_3 0 (-1) 0), (kAI qn_3 cI 24 (fun _ => 0)), (kX7 qo_4 qn_6 0 (-1) 0), (kAI qn_6 cI 39 (fun _ => 0)), (kX2 qo_7 qn_9 0 (-1) 0), (kAI qn_9 cI 23 (fun _ => 0)), (kX1 qo_10 qn_12 0), (kAI qn_12 cI 32 (fun _ => 0)), (kX10 qo_13 qo_1 qo_4 qo_7 qn_15 qn_16 qn_15 qn_16 0 0 0 0 0 0 0 0 0 0), (kX3 qn_15 0 0 0 0), (kX3 qn_16 0 0 0 0), (kX0 qo_17 0 0 0 0), (kX5 qo_19 qn_21 0 0), (kAJ qn_21 cJ 46 (fun _ => 0))]) (wt := [(hx, .inr (10, [.ref qo_1, .ref qo_4, .ref qo_7, .ref qo_10, .ref qo_13, .ref qo_17, .ref qo_19, .null, .null, .null, .null, .null, .int 0, .int 0, .int 0])), (kX4 qo_1 qn_3 0 (-1) 0), (kAI qn_3 cI 24 (fun _ => 0)), (kX7 qo_4 qn_6 0 (-1) 0), (kAI qn_6 cI 39 (fun _ => 0)), (kX2 qo_7 qn_9 0 (-1) 0), (kAI qn_9 cI 23 (fun _ => 0)), (kX1 qo_10 qn_12 0), (kAI qn_12 cI 32 (fun _ => 0)), (kX10 qo_13 qo_1 qo_4 qo_7 qn_15 qn_16 qn_15 qn_16 0 0 0 0 0 0 0 0 0 0), (kX3 qn_15 0 0 0 0), (kX3 qn_16 0 0 0 0), (kX0 qo_17 0 0 0 0), (kX5 qo_19 qn_21 0 0), (kAJ qn_21 cJ 46 (fun _ => 0)), (kX6 qo_22 0)]) hP hD hC [0, 1, 2, 3, 4, 5, 6, 7, 8, 9, 10, 11, 12, 13, 14] rfl (by decide +kernel) (by decide +kernel) hk1 hFc hP1 hD1 rfl
  clear hP hD hPc hDc hFc hC hP1 hD1 hK1 hz1 hk1 hvm ht
  obtain ⟨hP, hD⟩ := hJ
  generalize H1 = H at hP hS ⊢
  refine va_putF (D := (dC, dI)) (ci := 10) (v := .ref qo_22) (ty := .object "BittenStick$Lots") (C := RX11) (T := TX11) (N := 15) hx₀ hb hts inlX11 tyX11 tyX11_ok nmX11 hown hK hP hD hS 0 rfl rfl 7 (by decide) (hts (.fieldLink RX11 63 "BittenStick" "lots" "LBittenStick$Lots;") wd_43) (fun _ h9 => h9) rfl hin rfl (by decide +kernel) rfl rfl (Nat.le_of_ble_eq_true rfl) dX11_init_101 ?_
  clear hP hD hS
  intro H locs hP hD hS
  replace hP := k_w2 (wt := [(hx, .inr (10, [.ref qo_1, .ref qo_4, .ref qo_7, .ref qo_10, .ref qo_13, .ref qo_17, .ref qo_19, .ref qo_22, .null, .null, .null, .null, .int 0, .int 0, .int 0])), (kX4 qo_1 qn_3 0 (-1) 0), (kAI qn_3 cI 24 (fun _ => 0)), (kX7 qo_4 qn_6 0 (-1) 0), (kAI qn_6 cI 39 (fun _ => 0)), (kX2 qo_7 qn_9 0 (-1) 0), (kAI qn_9 cI 23 (fun _ => 0)), (kX1 qo_10 qn_12 0), (kAI qn_12 cI 32 (fun _ => 0)), (kX10 qo_13 qo_1 qo_4 qo_7 qn_15 qn_16 qn_15 qn_16 0 0 0 0 0 0 0 0 0 0), (kX3 qn_15 0 0 0 0), (kX3 qn_16 0 0 0 0), (kX0 qo_17 0 0 0 0), (kX5 qo_19 qn_21 0 0), (kAJ qn_21 cJ 46 (fun _ => 0)), (kX6 qo_22 0)]) hP hD rfl
  replace hD := hP.2
  replace hP := hP.1
  refine lv_aload_n hx₀ hb dX11_init_104 rfl (lv_at hl 0 rfl) ?_
  refine lv_bipush (v := 8) hx₀ hb dX11_init_105 (by decide +kernel) ?_
  refine k_newaI (N' := 8) hx₀ hb (hts (.arrayClass .int) wd_44) hK hP hD hS hA (by decide +kernel) (by decide +kernel) (by decide +kernel) (by decide +kernel) (by decide +kernel) dX11_init_107 (fun qa_24 H hP hD hS => ?_)
  replace hP := k_w2 (wt := [(hx, .inr (10, [.ref qo_1, .ref qo_4, .ref qo_7, .ref qo_10, .ref qo_13, .ref qo_17, .ref qo_19, .ref qo_22, .null, .null, .null, .null, .int 0, .int 0, .int 0])), (kX4 qo_1 qn_3 0 (-1) 0), (kAI qn_3 cI 24 (fun _ => 0)), (kX7 qo_4 qn_6 0 (-1) 0), (kAI qn_6 cI 39 (fun _ => 0)), (kX2 qo_7 qn_9 0 (-1) 0), (kAI qn_9 cI 23 (fun _ => 0)), (kX1 qo_10 qn_12 0), (kAI qn_12 cI 32 (fun _ => 0)), (kX10 qo_13 qo_1 qo_4 qo_7 qn_15 qn_16 qn_15 qn_16 0 0 0 0 0 0 0 0 0 0), (kX3 qn_15 0 0 0 0), (kX3 qn_16 0 0 0 0), (kX0 qo_17 0 0 0 0), (kX5 qo_19 qn_21 0 0), (kAJ qn_21 cJ 46 (fun _ => 0)), (kX6 qo_22 0), (kAI qa_24 cI 8 (fun _ => 0))]) hP hD rfl
  replace hD := hP.2
  replace hP := hP.1
  refine W.widen (k := 16) (n := 219) (by omega) (by omega) ?_
  refine va_putF (D := (dC, dI)) (ci := 10) (v := .ref qa_24) (ty := .array .int) (C := RX11) (T := TX11) (N := 15) hx₀ hb hts inlX11 tyX11 tyX11_ok nmX11 hown hK hP hD hS 0 rfl rfl 8 (by decide) (hts (.fieldLink RX11 67 "BittenStick" "seenFlights" "[I") wd_45) (fun _ h9 => h9) rfl hin rfl (by decide +kernel) rfl rfl (Nat.le_of_ble_eq_true rfl) dX11_init_109 ?_
  clear hP hD hS
  intro H locs hP hD hS
  replace hP := k_w2 (wt := [(hx, .inr (10, [.ref qo_1, .ref qo_4, .ref qo_7, .ref qo_10, .ref qo_13, .ref qo_17, .ref qo_19, .ref qo_22, .ref qa_24, .null, .null, .null, .int 0, .int 0, .int 0])), (kX4 qo_1 qn_3 0 (-1) 0), (kAI qn_3 cI 24 (fun _ => 0)), (kX7 qo_4 qn_6 0 (-1) 0), (kAI qn_6 cI 39 (fun _ => 0)), (kX2 qo_7 qn_9 0 (-1) 0), (kAI qn_9 cI 23 (fun _ => 0)), (kX1 qo_10 qn_12 0), (kAI qn_12 cI 32 (fun _ => 0)), (kX10 qo_13 qo_1 qo_4 qo_7 qn_15 qn_16 qn_15 qn_16 0 0 0 0 0 0 0 0 0 0), (kX3 qn_15 0 0 0 0), (kX3 qn_16 0 0 0 0), (kX0 qo_17 0 0 0 0), (kX5 qo_19 qn_21 0 0), (kAJ qn_21 cJ 46 (fun _ => 0)), (kX6 qo_22 0), (kAI qa_24 cI 8 (fun _ => 0))]) hP hD rfl
  replace hD := hP.2
  replace hP := hP.1
  refine lv_aload_n hx₀ hb dX11_init_112 rfl (lv_at hl 0 rfl) ?_
  refine lv_bipush (v := 8) hx₀ hb dX11_init_113 (by decide +kernel) ?_
  refine k_newaI (N' := 8) hx₀ hb (hts (.arrayClass .int) wd_44) hK hP hD hS hA (by decide +kernel) (by decide +kernel) (by decide +kernel) (by decide +kernel) (by decide +kernel) dX11_init_115 (fun qa_25 H hP hD hS => ?_)
  replace hP := k_w2 (wt := [(hx, .inr (10, [.ref qo_1, .ref qo_4, .ref qo_7, .ref qo_10, .ref qo_13, .ref qo_17, .ref qo_19, .ref qo_22, .ref qa_24, .null, .null, .null, .int 0, .int 0, .int 0])), (kX4 qo_1 qn_3 0 (-1) 0), (kAI qn_3 cI 24 (fun _ => 0)), (kX7 qo_4 qn_6 0 (-1) 0), (kAI qn_6 cI 39 (fun _ => 0)), (kX2 qo_7 qn_9 0 (-1) 0), (kAI qn_9 cI 23 (fun _ => 0)), (kX1 qo_10 qn_12 0), (kAI qn_12 cI 32 (fun _ => 0)), (kX10 qo_13 qo_1 qo_4 qo_7 qn_15 qn_16 qn_15 qn_16 0 0 0 0 0 0 0 0 0 0), (kX3 qn_15 0 0 0 0), (kX3 qn_16 0 0 0 0), (kX0 qo_17 0 0 0 0), (kX5 qo_19 qn_21 0 0), (kAJ qn_21 cJ 46 (fun _ => 0)), (kX6 qo_22 0), (kAI qa_24 cI 8 (fun _ => 0)), (kAI qa_25 cI 8 (fun _ => 0))]) hP hD rfl
  replace hD := hP.2
  replace hP := hP.1
  refine W.widen (k := 17) (n := 227) (by omega) (by omega) ?_
  refine va_putF (D := (dC, dI)) (ci := 10) (v := .ref qa_25) (ty := .array .int) (C := RX11) (T := TX11) (N := 15) hx₀ hb hts inlX11 tyX11 tyX11_ok nmX11 hown hK hP hD hS 0 rfl rfl 9 (by decide) (hts (.fieldLink RX11 71 "BittenStick" "seenMiles" "[I") wd_46) (fun _ h9 => h9) rfl hin rfl (by decide +kernel) rfl rfl (Nat.le_of_ble_eq_true rfl) dX11_init_117 ?_
  clear hP hD hS
  intro H locs hP hD hS
  replace hP := k_w2 (wt := [(hx, .inr (10, [.ref qo_1, .ref qo_4, .ref qo_7, .ref qo_10, .ref qo_13, .ref qo_17, .ref qo_19, .ref qo_22, .ref qa_24, .ref qa_25, .null, .null, .int 0, .int 0, .int 0])), (kX4 qo_1 qn_3 0 (-1) 0), (kAI qn_3 cI 24 (fun _ => 0)), (kX7 qo_4 qn_6 0 (-1) 0), (kAI qn_6 cI 39 (fun _ => 0)), (kX2 qo_7 qn_9 0 (-1) 0), (kAI qn_9 cI 23 (fun _ => 0)), (kX1 qo_10 qn_12 0), (kAI qn_12 cI 32 (fun _ => 0)), (kX10 qo_13 qo_1 qo_4 qo_7 qn_15 qn_16 qn_15 qn_16 0 0 0 0 0 0 0 0 0 0), (kX3 qn_15 0 0 0 0), (kX3 qn_16 0 0 0 0), (kX0 qo_17 0 0 0 0), (kX5 qo_19 qn_21 0 0), (kAJ qn_21 cJ 46 (fun _ => 0)), (kX6 qo_22 0), (kAI qa_24 cI 8 (fun _ => 0)), (kAI qa_25 cI 8 (fun _ => 0))]) hP hD rfl
  replace hD := hP.2
  replace hP := hP.1
  refine lv_aload_n hx₀ hb dX11_init_120 rfl (lv_at hl 0 rfl) ?_
  refine lv_bipush (v := 25) hx₀ hb dX11_init_121 (by decide +kernel) ?_
  refine k_newaI (N' := 25) hx₀ hb (hts (.arrayClass .int) wd_44) hK hP hD hS hA (by decide +kernel) (by decide +kernel) (by decide +kernel) (by decide +kernel) (by decide +kernel) dX11_init_123 (fun qa_26 H hP hD hS => ?_)
  replace hP := k_w2 (wt := [(hx, .inr (10, [.ref qo_1, .ref qo_4, .ref qo_7, .ref qo_10, .ref qo_13, .ref qo_17, .ref qo_19, .ref qo_22, .ref qa_24, .ref qa_25, .null, .null, .int 0, .int 0, .int 0])), (kX4 qo_1 qn_3 0 (-1) 0), (kAI qn_3 cI 24 (fun _ => 0)), (kX7 qo_4 qn_6 0 (-1) 0), (kAI qn_6 cI 39 (fun _ => 0)), (kX2 qo_7 qn_9 0 (-1) 0), (kAI qn_9 cI 23 (fun _ => 0)), (kX1 qo_10 qn_12 0), (kAI qn_12 cI 32 (fun _ => 0)), (kX10 qo_13 qo_1 qo_4 qo_7 qn_15 qn_16 qn_15 qn_16 0 0 0 0 0 0 0 0 0 0), (kX3 qn_15 0 0 0 0), (kX3 qn_16 0 0 0 0), (kX0 qo_17 0 0 0 0), (kX5 qo_19 qn_21 0 0), (kAJ qn_21 cJ 46 (fun _ => 0)), (kX6 qo_22 0), (kAI qa_24 cI 8 (fun _ => 0)), (kAI qa_25 cI 8 (fun _ => 0)), (kAI qa_26 cI 25 (fun _ => 0))]) hP hD rfl
  replace hD := hP.2
  replace hP := hP.1
  refine W.widen (k := 18) (n := 252) (by omega) (by omega) ?_
  refine va_putF (D := (dC, dI)) (ci := 10) (v := .ref qa_26) (ty := .array .int) (C := RX11) (T := TX11) (N := 15) hx₀ hb hts inlX11 tyX11 tyX11_ok nmX11 hown hK hP hD hS 0 rfl rfl 10 (by decide) (hts (.fieldLink RX11 74 "BittenStick" "comers" "[I") wd_47) (fun _ h9 => h9) rfl hin rfl (by decide +kernel) rfl rfl (Nat.le_of_ble_eq_true rfl) dX11_init_125 ?_
  clear hP hD hS
  intro H locs hP hD hS
  replace hP := k_w2 (wt := [(hx, .inr (10, [.ref qo_1, .ref qo_4, .ref qo_7, .ref qo_10, .ref qo_13, .ref qo_17, .ref qo_19, .ref qo_22, .ref qa_24, .ref qa_25, .ref qa_26, .null, .int 0, .int 0, .int 0])), (kX4 qo_1 qn_3 0 (-1) 0), (kAI qn_3 cI 24 (fun _ => 0)), (kX7 qo_4 qn_6 0 (-1) 0), (kAI qn_6 cI 39 (fun _ => 0)), (kX2 qo_7 qn_9 0 (-1) 0), (kAI qn_9 cI 23 (fun _ => 0)), (kX1 qo_10 qn_12 0), (kAI qn_12 cI 32 (fun _ => 0)), (kX10 qo_13 qo_1 qo_4 qo_7 qn_15 qn_16 qn_15 qn_16 0 0 0 0 0 0 0 0 0 0), (kX3 qn_15 0 0 0 0), (kX3 qn_16 0 0 0 0), (kX0 qo_17 0 0 0 0), (kX5 qo_19 qn_21 0 0), (kAJ qn_21 cJ 46 (fun _ => 0)), (kX6 qo_22 0), (kAI qa_24 cI 8 (fun _ => 0)), (kAI qa_25 cI 8 (fun _ => 0)), (kAI qa_26 cI 25 (fun _ => 0))]) hP hD rfl
  replace hD := hP.2
  replace hP := hP.1
  refine lv_aload_n hx₀ hb dX11_init_128 rfl (lv_at hl 0 rfl) ?_
  refine lv_iconst (v := 4) hx₀ hb dX11_init_129 (by decide +kernel) ?_
  refine k_newq (N' := 4) hx₀ hb hown (hts (.classLink RX11 77 RX8) wd_48) hN.2.2.2.2.2.2.2.2 hK hP hD hS hA (by decide +kernel) (by decide +kernel) (by decide +kernel) (by decide +kernel) (by decide +kernel) dX11_init_130 (fun qa_27 H hP hD hS => ?_)
  replace hP := k_w2 (wt := [(hx, .inr (10, [.ref qo_1, .ref qo_4, .ref qo_7, .ref qo_10, .ref qo_13, .ref qo_17, .ref qo_19, .ref qo_22, .ref qa_24, .ref qa_25, .ref qa_26, .null, .int 0, .int 0, .int 0])), (kX4 qo_1 qn_3 0 (-1) 0), (kAI qn_3 cI 24 (fun _ => 0)), (kX7 qo_4 qn_6 0 (-1) 0), (kAI qn_6 cI 39 (fun _ => 0)), (kX2 qo_7 qn_9 0 (-1) 0), (kAI qn_9 cI 23 (fun _ => 0)), (kX1 qo_10 qn_12 0), (kAI qn_12 cI 32 (fun _ => 0)), (kX10 qo_13 qo_1 qo_4 qo_7 qn_15 qn_16 qn_15 qn_16 0 0 0 0 0 0 0 0 0 0), (kX3 qn_15 0 0 0 0), (kX3 qn_16 0 0 0 0), (kX0 qo_17 0 0 0 0), (kX5 qo_19 qn_21 0 0), (kAJ qn_21 cJ 46 (fun _ => 0)), (kX6 qo_22 0), (kAI qa_24 cI 8 (fun _ => 0)), (kAI qa_25 cI 8 (fun _ => 0)), (kAI qa_26 cI 25 (fun _ => 0)), (kAQ qa_27 cQ 4 (fun _ => none))]) hP hD rfl
  replace hD := hP.2
  replace hP := hP.1
  refine W.widen (k := 19) (n := 256) (by omega) (by omega) ?_
  refine va_putF (D := (dC, dI)) (ci := 10) (v := .ref qa_27) (ty := .array (.object "BittenStick$Sheet")) (C := RX11) (T := TX11) (N := 15) hx₀ hb hts inlX11 tyX11 tyX11_ok nmX11 hown hK hP hD hS 0 rfl rfl 11 (by decide) (hts (.fieldLink RX11 79 "BittenStick" "sheets" "[LBittenStick$Sheet;") wd_49) (fun _ h9 => h9) rfl hin rfl (by decide +kernel) rfl rfl (Nat.le_of_ble_eq_true rfl) dX11_init_133 ?_
  clear hP hD hS
  intro H locs hP hD hS
  replace hP := k_w2 (wt := [(kX11 hx qo_1 qo_4 qo_7 qo_10 qo_13 qo_17 qo_19 qo_22 qa_24 qa_25 qa_26 qa_27 0 0 0), (kX4 qo_1 qn_3 0 (-1) 0), (kAI qn_3 cI 24 (fun _ => 0)), (kX7 qo_4 qn_6 0 (-1) 0), (kAI qn_6 cI 39 (fun _ => 0)), (kX2 qo_7 qn_9 0 (-1) 0), (kAI qn_9 cI 23 (fun _ => 0)), (kX1 qo_10 qn_12 0), (kAI qn_12 cI 32 (fun _ => 0)), (kX10 qo_13 qo_1 qo_4 qo_7 qn_15 qn_16 qn_15 qn_16 0 0 0 0 0 0 0 0 0 0), (kX3 qn_15 0 0 0 0), (kX3 qn_16 0 0 0 0), (kX0 qo_17 0 0 0 0), (kX5 qo_19 qn_21 0 0), (kAJ qn_21 cJ 46 (fun _ => 0)), (kX6 qo_22 0), (kAI qa_24 cI 8 (fun _ => 0)), (kAI qa_25 cI 8 (fun _ => 0)), (kAI qa_26 cI 25 (fun _ => 0)), (kAQ qa_27 cQ 4 (fun _ => none))]) hP hD rfl
  replace hD := hP.2
  replace hP := hP.1
  refine lv_iconst (v := 0) hx₀ hb dX11_init_136 (by decide +kernel) ?_
  refine lv_istore_n (lv' := [(1, .int 0), (0, .ref hx)]) hx₀ hb dX11_init_137 rfl hl (by decide) rfl (fun ls hl => ?_)
  refine lv_iload_n hx₀ hb dX11_init_138 rfl (lv_at hl 0 rfl) ?_
  refine lv_iconst (v := 4) hx₀ hb dX11_init_139 (by decide +kernel) ?_
  refine lv_icmp_ge (tgt := 162) hx₀ hb dX11_init_140 (by decide) (fun c9 => absurd c9 (by decide +kernel)) (fun _ => ?_)
  refine lv_aload_n hx₀ hb dX11_init_143 rfl (lv_at hl 1 rfl) ?_
  refine va_get (D := (dC, dI)) (ci := 10) (v := .ref qa_27) (C := RX11) (T := TX11) (N := 15) hx₀ hb hts inlX11 hown hK hP 0 rfl rfl 11 (by decide) (hts (.fieldLink RX11 79 "BittenStick" "sheets" "[LBittenStick$Sheet;") wd_49) (fun _ h9 => h9) rfl dX11_init_144 ?_
  refine lv_iload_n hx₀ hb dX11_init_147 rfl (lv_at hl 0 rfl) ?_
  refine va_new (ci := 8) (fs := [.null, .int 0, .int 0, .int 0]) (C := RX8) (T := TX8) (N := 4) hx₀ hb hts inlX8 tyX8 tyX8_ok hown (hts (.classLink RX11 77 RX8) wd_48) (hts (.instantiable RX8 4) wd_50) (hts (.initialized RX8) wd_51) hK hP hD hS hA rfl (by decide +kernel) (by decide +kernel) (by decide +kernel) dX11_init_148 (fun qo_28 H hP hD hS => ?_)
  replace hP := k_w2 (wt := [(kX11 hx qo_1 qo_4 qo_7 qo_10 qo_13 qo_17 qo_19 qo_22 qa_24 qa_25 qa_26 qa_27 0 0 0), (kX4 qo_1 qn_3 0 (-1) 0), (kAI qn_3 cI 24 (fun _ => 0)), (kX7 qo_4 qn_6 0 (-1) 0), (kAI qn_6 cI 39 (fun _ => 0)), (kX2 qo_7 qn_9 0 (-1) 0), (kAI qn_9 cI 23 (fun _ => 0)), (kX1 qo_10 qn_12 0), (kAI qn_12 cI 32 (fun _ => 0)), (kX10 qo_13 qo_1 qo_4 qo_7 qn_15 qn_16 qn_15 qn_16 0 0 0 0 0 0 0 0 0 0), (kX3 qn_15 0 0 0 0), (kX3 qn_16 0 0 0 0), (kX0 qo_17 0 0 0 0), (kX5 qo_19 qn_21 0 0), (kAJ qn_21 cJ 46 (fun _ => 0)), (kX6 qo_22 0), (kAI qa_24 cI 8 (fun _ => 0)), (kAI qa_25 cI 8 (fun _ => 0)), (kAI qa_26 cI 25 (fun _ => 0)), (kAQ qa_27 cQ 4 (fun _ => none)), (qo_28, .inr (8, [.null, .int 0, .int 0, .int 0]))]) hP hD rfl
  replace hD := hP.2
  replace hP := hP.1
  refine W.widen (k := 20) (n := 260) (by omega) (by omega) ?_
  refine lv_dup hx₀ hb dX11_init_151 rfl ?_
  obtain ⟨hPc, hDc, hFc, hC⟩ := k_cw (wc := [(qo_28, .inr (8, [.null, .int 0, .int 0, .int 0]))]) hP hD hS hA [20] (by decide +kernel) rfl
  refine va_callv (va_runIN (As := []) (rest := [.ref qo_28, .int 0, .ref qa_27]) ⟨hx₀, hb, hml, hown, hts⟩ (k_X8 l dC dI cI cJ cQ H.size qo_28) ⟨va_cnB (host := "BittenStick") 0 hts (kG wd_107) rfl rfl rfl hN.2.2.2.2.2.2.2.1 (hts (.initialized RX8) wd_51) (by decide +kernel) ⟨Nat.le_of_ble_eq_true rfl, Nat.le_of_ble_eq_true rfl⟩, rfl, (hts (.instanceMethod yX8_init) wd_106)⟩ (k_preS hK hPc hDc hN) rfl rfl hl.1 rfl (lv_room (Nat.le_of_ble_eq_true rfl)) dX11_init_152 ⟨by decide +kernel, by decide +kernel⟩) hS (fun q _ h => hFc q h) hFc (fun u₀ t₀ H1 locs ht hvm hw hB hz1 hk1 hS => ?_)
  obtain ⟨qn_30, rfl⟩ : ∃ z, z = u₀ := ⟨_, rfl⟩
  obtain ⟨hP1, hK1, hD1⟩ := hB
  rw [ht] at hP1
  have hJ := k_jn (wr := [(kX11 hx qo_1 qo_4 qo_7 qo_10 qo_13 qo_17 qo_19 qo_22 qa_24 qa_25 qa_26 qa_27 0 0 0), (kX4 qo_1 qn_3 0 (-1) 0), (kAI qn_3 cI 24 (fun _ => 0)), (kX7 qo_4 qn_6 0 (-1) 0), (kAI qn_6 cI 39 (fun _ => 0)), (kX2 qo_7 qn_9 0 (-1) 0), (kAI qn_9 cI 23 (fun _ => 0)), (kX1 qo_10 qn_12 0), (kAI qn_12 cI 32 (fun _ => 0)), (kX10 qo_13 qo_1 qo_4 qo_7 qn_15 qn_16 qn_15 qn_16 0 0 0 0 0 0 0 0 0 0), (kX3 qn_15 0 0 0 0), (kX3 qn_16 0 0 0 0), (kX0 qo_17 0 0 0 0), (kX5 qo_19 qn_21 0 0), (kAJ qn_21 cJ 46 (fun _ => 0)), (kX6 qo_22 0), (kAI qa_24 cI 8 (fun _ => 0)), (kAI qa_25 cI 8 (fun _ => 0)), (kAI qa_26 cI 25 (fun _ => 0)), (kAQ qa_27 cQ 4 (fun _ => none))]) (wt := [(kX11 hx qo_1 qo_4 qo_7 qo_10 qo_13 qo_17 qo_19 qo_22 qa_24 qa_25 qa_26 qa_27 0 0 0), (kX4 qo_1 qn_3 0 (-1) 0), (kAI qn_3 cI 24 (fun _ => 0)), (kX7 qo_4 qn_6 0 (-1) 0), (kAI qn_6 cI 39 (fun _ => 0)), (kX2 qo_7 qn_9 0 (-1) 0), (kAI qn_9 cI 23 (fun _ => 0)), (kX1 qo_10 qn_12 0), (kAI qn_12 cI 32 (fun _ => 0)), (kX10 qo_13 qo_1 qo_4 qo_7 qn_15 qn_16 qn_15 qn_16 0 0 0 0 0 0 0 0 0 0), (kX3 qn_15 0 0 0 0), (kX3 qn_16 0 0 0 0), (kX0 qo_17 0 0 0 0), (kX5 qo_19 qn_21 0 0), (kAJ qn_21 cJ 46 (fun _ => 0)), (kX6 qo_22 0), (kAI qa_24 cI 8 (fun _ => 0)), (kAI qa_25 cI 8 (fun _ => 0)), (kAI qa_26 cI 25 (fun _ => 0)), (kAQ qa_27 cQ 4 (fun _ => none)), (kX8 qo_28 qn_30 1 0 0), (kAI qn_30 cI 60 (fun _ => 0))]) hP hD hC [0, 1, 2, 3, 4, 5, 6, 7, 8, 9, 10, 11, 12, 13, 14, 15, 16, 17, 18, 19] rfl (by decide +kernel) (by decide +kernel) hk1 hFc hP1 hD1 rfl
  clear hP hD hPc hDc hFc hC hP1 hD1 hK1 hz1 hk1 hvm ht
  obtain ⟨hP, hD⟩ := hJ
  generalize H1 = H at hP hS ⊢
  refine W.widen (k := 21) (n := 320) (by omega) (by omega) ?_
  refine va_astq (r := (RX8, TX8, 4)) hx₀ hb hK hP hD hS 19 2 20 8 rfl rfl rfl rfl (by unfold vp_in; decide +kernel) dX11_init_155 ?_
  clear hP hD hS
  intro H locs hP hD hS
  replace hP := k_w2 (wt := [(kX11 hx qo_1 qo_4 qo_7 qo_10 qo_13 qo_17 qo_19 qo_22 qa_24 qa_25 qa_26 qa_27 0 0 0), (kX4 qo_1 qn_3 0 (-1) 0), (kAI qn_3 cI 24 (fun _ => 0)), (kX7 qo_4 qn_6 0 (-1) 0), (kAI qn_6 cI 39 (fun _ => 0)), (kX2 qo_7 qn_9 0 (-1) 0), (kAI qn_9 cI 23 (fun _ => 0)), (kX1 qo_10 qn_12 0), (kAI qn_12 cI 32 (fun _ => 0)), (kX10 qo_13 qo_1 qo_4 qo_7 qn_15 qn_16 qn_15 qn_16 0 0 0 0 0 0 0 0 0 0), (kX3 qn_15 0 0 0 0), (kX3 qn_16 0 0 0 0), (kX0 qo_17 0 0 0 0), (kX5 qo_19 qn_21 0 0), (kAJ qn_21 cJ 46 (fun _ => 0)), (kX6 qo_22 0), (kAI qa_24 cI 8 (fun _ => 0)), (kAI qa_25 cI 8 (fun _ => 0)), (kAI qa_26 cI 25 (fun _ => 0)), (kAQ qa_27 cQ 4 (va_up (fun _ => none) (0 : Int32).toNatClampNeg (some qo_28))), (kX8 qo_28 qn_30 1 0 0), (kAI qn_30 cI 60 (fun _ => 0))]) hP hD rfl
  replace hD := hP.2
  replace hP := hP.1
  refine lv_iinc (v := 1) (lv' := [(1, .int 1), (0, .ref hx)]) hx₀ hb dX11_init_156 hl (k := 0) rfl (by decide +kernel) (by decide) rfl (fun ls hl => ?_)
  refine lv_goto (tgt := 138) hx₀ hb dX11_init_159 (by decide) ?_
  refine lv_iload_n hx₀ hb dX11_init_138 rfl (lv_at hl 0 rfl) ?_
  refine lv_iconst (v := 4) hx₀ hb dX11_init_139 (by decide +kernel) ?_
  refine lv_icmp_ge (tgt := 162) hx₀ hb dX11_init_140 (by decide) (fun c9 => absurd c9 (by decide +kernel)) (fun _ => ?_)
  refine lv_aload_n hx₀ hb dX11_init_143 rfl (lv_at hl 1 rfl) ?_
  refine va_get (D := (dC, dI)) (ci := 10) (v := .ref qa_27) (C := RX11) (T := TX11) (N := 15) hx₀ hb hts inlX11 hown hK hP 0 rfl rfl 11 (by decide) (hts (.fieldLink RX11 79 "BittenStick" "sheets" "[LBittenStick$Sheet;") wd_49) (fun _ h9 => h9) rfl dX11_init_144 ?_
  refine lv_iload_n hx₀ hb dX11_init_147 rfl (lv_at hl 0 rfl) ?_
  refine va_new (ci := 8) (fs := [.null, .int 0, .int 0, .int 0]) (C := RX8) (T := TX8) (N := 4) hx₀ hb hts inlX8 tyX8 tyX8_ok hown (hts (.classLink RX11 77 RX8) wd_48) (hts (.instantiable RX8 4) wd_50) (hts (.initialized RX8) wd_51) hK hP hD hS hA rfl (by decide +kernel) (by decide +kernel) (by decide +kernel) dX11_init_148 (fun qo_31 H hP hD hS => ?_)
  replace hP := k_w2 (wt := [(kX11 hx qo_1 qo_4 qo_7 qo_10 qo_13 qo_17 qo_19 qo_22 qa_24 qa_25 qa_26 qa_27 0 0 0), (kX4 qo_1 qn_3 0 (-1) 0), (kAI qn_3 cI 24 (fun _ => 0)), (kX7 qo_4 qn_6 0 (-1) 0), (kAI qn_6 cI 39 (fun _ => 0)), (kX2 qo_7 qn_9 0 (-1) 0), (kAI qn_9 cI 23 (fun _ => 0)), (kX1 qo_10 qn_12 0), (kAI qn_12 cI 32 (fun _ => 0)), (kX10 qo_13 qo_1 qo_4 qo_7 qn_15 qn_16 qn_15 qn_16 0 0 0 0 0 0 0 0 0 0), (kX3 qn_15 0 0 0 0), (kX3 qn_16 0 0 0 0), (kX0 qo_17 0 0 0 0), (kX5 qo_19 qn_21 0 0), (kAJ qn_21 cJ 46 (fun _ => 0)), (kX6 qo_22 0), (kAI qa_24 cI 8 (fun _ => 0)), (kAI qa_25 cI 8 (fun _ => 0)), (kAI qa_26 cI 25 (fun _ => 0)), (kAQ qa_27 cQ 4 (va_up (fun _ => none) (0 : Int32).toNatClampNeg (some qo_28))), (kX8 qo_28 qn_30 1 0 0), (kAI qn_30 cI 60 (fun _ => 0)), (qo_31, .inr (8, [.null, .int 0, .int 0, .int 0]))]) hP hD rfl
  replace hD := hP.2
  replace hP := hP.1
  refine W.widen (k := 22) (n := 324) (by omega) (by omega) ?_
  refine lv_dup hx₀ hb dX11_init_151 rfl ?_
  obtain ⟨hPc, hDc, hFc, hC⟩ := k_cw (wc := [(qo_31, .inr (8, [.null, .int 0, .int 0, .int 0]))]) hP hD hS hA [22] (by decide +kernel) rfl
  refine va_callv (va_runIN (As := []) (rest := [.ref qo_31, .int 1, .ref qa_27]) ⟨hx₀, hb, hml, hown, hts⟩ (k_X8 l dC dI cI cJ cQ H.size qo_31) ⟨va_cnB (host := "BittenStick") 0 hts (kG wd_107) rfl rfl rfl hN.2.2.2.2.2.2.2.1 (hts (.initialized RX8) wd_51) (by decide +kernel) ⟨Nat.le_of_ble_eq_true rfl, Nat.le_of_ble_eq_true rfl⟩, rfl, (hts (.instanceMethod yX8_init) wd_106)⟩ (k_preS hK hPc hDc hN) rfl rfl hl.1 rfl (lv_room (Nat.le_of_ble_eq_true rfl)) dX11_init_152 ⟨by decide +kernel, by decide +kernel⟩) hS (fun q _ h => hFc q h) hFc (fun u₀ t₀ H1 locs ht hvm hw hB hz1 hk1 hS => ?_)
  obtain ⟨qn_33, rfl⟩ : ∃ z, z = u₀ := ⟨_, rfl⟩
  obtain ⟨hP1, hK1, hD1⟩ := hB
  rw [ht] at hP1
  have hJ := k_jn (wr := [(kX11 hx qo_1 qo_4 qo_7 qo_10 qo_13 qo_17 qo_19 qo_22 qa_24 qa_25 qa_26 qa_27 0 0 0), (kX4 qo_1 qn_3 0 (-1) 0), (kAI qn_3 cI 24 (fun _ => 0)), (kX7 qo_4 qn_6 0 (-1) 0), (kAI qn_6 cI 39 (fun _ => 0)), (kX2 qo_7 qn_9 0 (-1) 0), (kAI qn_9 cI 23 (fun _ => 0)), (kX1 qo_10 qn_12 0), (kAI qn_12 cI 32 (fun _ => 0)), (kX10 qo_13 qo_1 qo_4 qo_7 qn_15 qn_16 qn_15 qn_16 0 0 0 0 0 0 0 0 0 0), (kX3 qn_15 0 0 0 0), (kX3 qn_16 0 0 0 0), (kX0 qo_17 0 0 0 0), (kX5 qo_19 qn_21 0 0), (kAJ qn_21 cJ 46 (fun _ => 0)), (kX6 qo_22 0), (kAI qa_24 cI 8 (fun _ => 0)), (kAI qa_25 cI 8 (fun _ => 0)), (kAI qa_26 cI 25 (fun _ => 0)), (kAQ qa_27 cQ 4 (va_up (fun _ => none) (0 : Int32).toNatClampNeg (some qo_28))), (kX8 qo_28 qn_30 1 0 0), (kAI qn_30 cI 60 (fun _ => 0))]) (wt := [(kX11 hx qo_1 qo_4 qo_7 qo_10 qo_13 qo_17 qo_19 qo_22 qa_24 qa_25 qa_26 qa_27 0 0 0), (kX4 qo_1 qn_3 0 (-1) 0), (kAI qn_3 cI 24 (fun _ => 0)), (kX7 qo_4 qn_6 0 (-1) 0), (kAI qn_6 cI 39 (fun _ => 0)), (kX2 qo_7 qn_9 0 (-1) 0), (kAI qn_9 cI 23 (fun _ => 0)), (kX1 qo_10 qn_12 0), (kAI qn_12 cI 32 (fun _ => 0)), (kX10 qo_13 qo_1 qo_4 qo_7 qn_15 qn_16 qn_15 qn_16 0 0 0 0 0 0 0 0 0 0), (kX3 qn_15 0 0 0 0), (kX3 qn_16 0 0 0 0), (kX0 qo_17 0 0 0 0), (kX5 qo_19 qn_21 0 0), (kAJ qn_21 cJ 46 (fun _ => 0)), (kX6 qo_22 0), (kAI qa_24 cI 8 (fun _ => 0)), (kAI qa_25 cI 8 (fun _ => 0)), (kAI qa_26 cI 25 (fun _ => 0)), (kAQ qa_27 cQ 4 (va_up (fun _ => none) (0 : Int32).toNatClampNeg (some qo_28))), (kX8 qo_28 qn_30 1 0 0), (kAI qn_30 cI 60 (fun _ => 0)), (kX8 qo_31 qn_33 1 0 0), (kAI qn_33 cI 60 (fun _ => 0))]) hP hD hC [0, 1, 2, 3, 4, 5, 6, 7, 8, 9, 10, 11, 12, 13, 14, 15, 16, 17, 18, 19, 20, 21] rfl (by decide +kernel) (by decide +kernel) hk1 hFc hP1 hD1 rfl
  clear hP hD hPc hDc hFc hC hP1 hD1 hK1 hz1 hk1 hvm ht
  obtain ⟨hP, hD⟩ := hJ
  generalize H1 = H at hP hS ⊢
  refine W.widen (k := 23) (n := 384) (by omega) (by omega) ?_
  refine va_astq (r := (RX8, TX8, 4)) hx₀ hb hK hP hD hS 19 2 22 8 rfl rfl rfl rfl (by unfold vp_in; decide +kernel) dX11_init_155 ?_
  clear hP hD hS
  intro H locs hP hD hS
  replace hP := k_w2 (wt := [(kX11 hx qo_1 qo_4 qo_7 qo_10 qo_13 qo_17 qo_19 qo_22 qa_24 qa_25 qa_26 qa_27 0 0 0), (kX4 qo_1 qn_3 0 (-1) 0), (kAI qn_3 cI 24 (fun _ => 0)), (kX7 qo_4 qn_6 0 (-1) 0), (kAI qn_6 cI 39 (fun _ => 0)), (kX2 qo_7 qn_9 0 (-1) 0), (kAI qn_9 cI 23 (fun _ => 0)), (kX1 qo_10 qn_12 0), (kAI qn_12 cI 32 (fun _ => 0)), (kX10 qo_13 qo_1 qo_4 qo_7 qn_15 qn_16 qn_15 qn_16 0 0 0 0 0 0 0 0 0 0), (kX3 qn_15 0 0 0 0), (kX3 qn_16 0 0 0 0), (kX0 qo_17 0 0 0 0), (kX5 qo_19 qn_21 0 0), (kAJ qn_21 cJ 46 (fun _ => 0)), (kX6 qo_22 0), (kAI qa_24 cI 8 (fun _ => 0)), (kAI qa_25 cI 8 (fun _ => 0)), (kAI qa_26 cI 25 (fun _ => 0)), (kAQ qa_27 cQ 4 (va_up (va_up (fun _ => none) (0 : Int32).toNatClampNeg (some qo_28)) (1 : Int32).toNatClampNeg (some qo_31))), (kX8 qo_28 qn_30 1 0 0), (kAI qn_30 cI 60 (fun _ => 0)), (kX8 qo_31 qn_33 1 0 0), (kAI qn_33 cI 60 (fun _ => 0))]) hP hD rfl
  replace hD := hP.2
  replace hP := hP.1
  refine lv_iinc (v := 2) (lv' := [(1, .int 2), (0, .ref hx)]) hx₀ hb dX11_init_156 hl (k := 0) rfl (by decide +kernel) (by decide) rfl (fun ls hl => ?_)
  refine lv_goto (tgt := 138) hx₀ hb dX11_init_159 (by decide) ?_
  refine lv_iload_n hx₀ hb dX11_init_138 rfl (lv_at hl 0 rfl) ?_
  refine lv_iconst (v := 4) hx₀ hb dX11_init_139 (by decide +kernel) ?_
  refine lv_icmp_ge (tgt := 162) hx₀ hb dX11_init_140 (by decide) (fun c9 => absurd c9 (by decide +kernel)) (fun _ => ?_)
  refine lv_aload_n hx₀ hb dX11_init_143 rfl (lv_at hl 1 rfl) ?_
  refine va_get (D := (dC, dI)) (ci := 10) (v := .ref qa_27) (C := RX11) (T := TX11) (N := 15) hx₀ hb hts inlX11 hown hK hP 0 rfl rfl 11 (by decide) (hts (.fieldLink RX11 79 "BittenStick" "sheets" "[LBittenStick$Sheet;") wd_49) (fun _ h9 => h9) rfl dX11_init_144 ?_
  refine lv_iload_n hx₀ hb dX11_init_147 rfl (lv_at hl 0 rfl) ?_
  refine va_new (ci := 8) (fs := [.null, .int 0, .int 0, .int 0]) (C := RX8) (T := TX8) (N := 4) hx₀ hb hts inlX8 tyX8 tyX8_ok hown (hts (.classLink RX11 77 RX8) wd_48) (hts (.instantiable RX8 4) wd_50) (hts (.initialized RX8) wd_51) hK hP hD hS hA rfl (by decide +kernel) (by decide +kernel) (by decide +kernel) dX11_init_148 (fun qo_34 H hP hD hS => ?_)
  replace hP := k_w2 (wt := [(kX11 hx qo_1 qo_4 qo_7 qo_10 qo_13 qo_17 qo_19 qo_22 qa_24 qa_25 qa_26 qa_27 0 0 0), (kX4 qo_1 qn_3 0 (-1) 0), (kAI qn_3 cI 24 (fun _ => 0)), (kX7 qo_4 qn_6 0 (-1) 0), (kAI qn_6 cI 39 (fun _ => 0)), (kX2 qo_7 qn_9 0 (-1) 0), (kAI qn_9 cI 23 (fun _ => 0)), (kX1 qo_10 qn_12 0), (kAI qn_12 cI 32 (fun _ => 0)), (kX10 qo_13 qo_1 qo_4 qo_7 qn_15 qn_16 qn_15 qn_16 0 0 0 0 0 0 0 0 0 0), (kX3 qn_15 0 0 0 0), (kX3 qn_16 0 0 0 0), (kX0 qo_17 0 0 0 0), (kX5 qo_19 qn_21 0 0), (kAJ qn_21 cJ 46 (fun _ => 0)), (kX6 qo_22 0), (kAI qa_24 cI 8 (fun _ => 0)), (kAI qa_25 cI 8 (fun _ => 0)), (kAI qa_26 cI 25 (fun _ => 0)), (kAQ qa_27 cQ 4 (va_up (va_up (fun _ => none) (0 : Int32).toNatClampNeg (some qo_28)) (1 : Int32).toNatClampNeg (some qo_31))), (kX8 qo_28 qn_30 1 0 0), (kAI qn_30 cI 60 (fun _ => 0)), (kX8 qo_31 qn_33 1 0 0), (kAI qn_33 cI 60 (fun _ => 0)), (qo_34, .inr (8, [.null, .int 0, .int 0, .int 0]))]) hP hD rfl
  replace hD := hP.2
  replace hP := hP.1
  refine W.widen (k := 24) (n := 388) (by omega) (by omega) ?_
  refine lv_dup hx₀ hb dX11_init_151 rfl ?_
  obtain ⟨hPc, hDc, hFc, hC⟩ := k_cw (wc := [(qo_34, .inr (8, [.null, .int 0, .int 0, .int 0]))]) hP hD hS hA [24] (by decide +kernel) rfl
  refine va_callv (va_runIN (As := []) (rest := [.ref qo_34, .int 2, .ref qa_27]) ⟨hx₀, hb, hml, hown, hts⟩ (k_X8 l dC dI cI cJ cQ H.size qo_34) ⟨va_cnB (host := "BittenStick") 0 hts (kG wd_107) rfl rfl rfl hN.2.2.2.2.2.2.2.1 (hts (.initialized RX8) wd_51) (by decide +kernel) ⟨Nat.le_of_ble_eq_true rfl, Nat.le_of_ble_eq_true rfl⟩, rfl, (hts (.instanceMethod yX8_init) wd_106)⟩ (k_preS hK hPc hDc hN) rfl rfl hl.1 rfl (lv_room (Nat.le_of_ble_eq_true rfl)) dX11_init_152 ⟨by decide +kernel, by decide +kernel⟩) hS (fun q _ h => hFc q h) hFc (fun u₀ t₀ H1 locs ht hvm hw hB hz1 hk1 hS => ?_)
  obtain ⟨qn_36, rfl⟩ : ∃ z, z = u₀ := ⟨_, rfl⟩
  obtain ⟨hP1, hK1, hD1⟩ := hB
  rw [ht] at hP1
  have hJ := k_jn (wr := [(kX11 hx qo_1 qo_4 qo_7 qo_10 qo_13 qo_17 qo_19 qo_22 qa_24 qa_25 qa_26 qa_27 0 0 0), (kX4 qo_1 qn_3 0 (-1) 0), (kAI qn_3 cI 24 (fun _ => 0)), (kX7 qo_4 qn_6 0 (-1) 0), (kAI qn_6 cI 39 (fun _ => 0)), (kX2 qo_7 qn_9 0 (-1) 0), (kAI qn_9 cI 23 (fun _ => 0)), (kX1 qo_10 qn_12 0), (kAI qn_12 cI 32 (fun _ => 0)), (kX10 qo_13 qo_1 qo_4 qo_7 qn_15 qn_16 qn_15 qn_16 0 0 0 0 0 0 0 0 0 0), (kX3 qn_15 0 0 0 0), (kX3 qn_16 0 0 0 0), (kX0 qo_17 0 0 0 0), (kX5 qo_19 qn_21 0 0), (kAJ qn_21 cJ 46 (fun _ => 0)), (kX6 qo_22 0), (kAI qa_24 cI 8 (fun _ => 0)), (kAI qa_25 cI 8 (fun _ => 0)), (kAI qa_26 cI 25 (fun _ => 0)), (kAQ qa_27 cQ 4 (va_up (va_up (fun _ => none) (0 : Int32).toNatClampNeg (some qo_28)) (1 : Int32).toNatClampNeg (some qo_31))), (kX8 qo_28 qn_30 1 0 0), (kAI qn_30 cI 60 (fun _ => 0)), (kX8 qo_31 qn_33 1 0 0), (kAI qn_33 cI 60 (fun _ => 0))]) (wt := [(kX11 hx qo_1 qo_4 qo_7 qo_10 qo_13 qo_17 qo_19 qo_22 qa_24 qa_25 qa_26 qa_27 0 0 0), (kX4 qo_1 qn_3 0 (-1) 0), (kAI qn_3 cI 24 (fun _ => 0)), (kX7 qo_4 qn_6 0 (-1) 0), (kAI qn_6 cI 39 (fun _ => 0)), (kX2 qo_7 qn_9 0 (-1) 0), (kAI qn_9 cI 23 (fun _ => 0)), (kX1 qo_10 qn_12 0), (kAI qn_12 cI 32 (fun _ => 0)), (kX10 qo_13 qo_1 qo_4 qo_7 qn_15 qn_16 qn_15 qn_16 0 0 0 0 0 0 0 0 0 0), (kX3 qn_15 0 0 0 0), (kX3 qn_16 0 0 0 0), (kX0 qo_17 0 0 0 0), (kX5 qo_19 qn_21 0 0), (kAJ qn_21 cJ 46 (fun _ => 0)), (kX6 qo_22 0), (kAI qa_24 cI 8 (fun _ => 0)), (kAI qa_25 cI 8 (fun _ => 0)), (kAI qa_26 cI 25 (fun _ => 0)), (kAQ qa_27 cQ 4 (va_up (va_up (fun _ => none) (0 : Int32).toNatClampNeg (some qo_28)) (1 : Int32).toNatClampNeg (some qo_31))), (kX8 qo_28 qn_30 1 0 0), (kAI qn_30 cI 60 (fun _ => 0)), (kX8 qo_31 qn_33 1 0 0), (kAI qn_33 cI 60 (fun _ => 0)), (kX8 qo_34 qn_36 1 0 0), (kAI qn_36 cI 60 (fun _ => 0))]) hP hD hC [0, 1, 2, 3, 4, 5, 6, 7, 8, 9, 10, 11, 12, 13, 14, 15, 16, 17, 18, 19, 20, 21, 22, 23] rfl (by decide +kernel) (by decide +kernel) hk1 hFc hP1 hD1 rfl
  clear hP hD hPc hDc hFc hC hP1 hD1 hK1 hz1 hk1 hvm ht
  obtain ⟨hP, hD⟩ := hJ
  generalize H1 = H at hP hS ⊢
  refine W.widen (k := 25) (n := 448) (by omega) (by omega) ?_
  refine va_astq (r := (RX8, TX8, 4)) hx₀ hb hK hP hD hS 19 2 24 8 rfl rfl rfl rfl (by unfold vp_in; decide +kernel) dX11_init_155 ?_
  clear hP hD hS
  intro H locs hP hD hS
  replace hP := k_w2 (wt := [(kX11 hx qo_1 qo_4 qo_7 qo_10 qo_13 qo_17 qo_19 qo_22 qa_24 qa_25 qa_26 qa_27 0 0 0), (kX4 qo_1 qn_3 0 (-1) 0), (kAI qn_3 cI 24 (fun _ => 0)), (kX7 qo_4 qn_6 0 (-1) 0), (kAI qn_6 cI 39 (fun _ => 0)), (kX2 qo_7 qn_9 0 (-1) 0), (kAI qn_9 cI 23 (fun _ => 0)), (kX1 qo_10 qn_12 0), (kAI qn_12 cI 32 (fun _ => 0)), (kX10 qo_13 qo_1 qo_4 qo_7 qn_15 qn_16 qn_15 qn_16 0 0 0 0 0 0 0 0 0 0), (kX3 qn_15 0 0 0 0), (kX3 qn_16 0 0 0 0), (kX0 qo_17 0 0 0 0), (kX5 qo_19 qn_21 0 0), (kAJ qn_21 cJ 46 (fun _ => 0)), (kX6 qo_22 0), (kAI qa_24 cI 8 (fun _ => 0)), (kAI qa_25 cI 8 (fun _ => 0)), (kAI qa_26 cI 25 (fun _ => 0)), (kAQ qa_27 cQ 4 (va_up (va_up (va_up (fun _ => none) (0 : Int32).toNatClampNeg (some qo_28)) (1 : Int32).toNatClampNeg (some qo_31)) (2 : Int32).toNatClampNeg (some qo_34))), (kX8 qo_28 qn_30 1 0 0), (kAI qn_30 cI 60 (fun _ => 0)), (kX8 qo_31 qn_33 1 0 0), (kAI qn_33 cI 60 (fun _ => 0)), (kX8 qo_34 qn_36 1 0 0), (kAI qn_36 cI 60 (fun _ => 0))]) hP hD rfl
  replace hD := hP.2
  replace hP := hP.1
  refine lv_iinc (v := 3) (lv' := [(1, .int 3), (0, .ref hx)]) hx₀ hb dX11_init_156 hl (k := 0) rfl (by decide +kernel) (by decide) rfl (fun ls hl => ?_)
  refine lv_goto (tgt := 138) hx₀ hb dX11_init_159 (by decide) ?_
  refine lv_iload_n hx₀ hb dX11_init_138 rfl (lv_at hl 0 rfl) ?_
  refine lv_iconst (v := 4) hx₀ hb dX11_init_139 (by decide +kernel) ?_
  refine lv_icmp_ge (tgt := 162) hx₀ hb dX11_init_140 (by decide) (fun c9 => absurd c9 (by decide +kernel)) (fun _ => ?_)
  refine lv_aload_n hx₀ hb dX11_init_143 rfl (lv_at hl 1 rfl) ?_
  refine va_get (D := (dC, dI)) (ci := 10) (v := .ref qa_27) (C := RX11) (T := TX11) (N := 15) hx₀ hb hts inlX11 hown hK hP 0 rfl rfl 11 (by decide) (hts (.fieldLink RX11 79 "BittenStick" "sheets" "[LBittenStick$Sheet;") wd_49) (fun _ h9 => h9) rfl dX11_init_144 ?_
  refine lv_iload_n hx₀ hb dX11_init_147 rfl (lv_at hl 0 rfl) ?_
  refine va_new (ci := 8) (fs := [.null, .int 0, .int 0, .int 0]) (C := RX8) (T := TX8) (N := 4) hx₀ hb hts inlX8 tyX8 tyX8_ok hown (hts (.classLink RX11 77 RX8) wd_48) (hts (.instantiable RX8 4) wd_50) (hts (.initialized RX8) wd_51) hK hP hD hS hA rfl (by decide +kernel) (by decide +kernel) (by decide +kernel) dX11_init_148 (fun qo_37 H hP hD hS => ?_)
  replace hP := k_w2 (wt := [(kX11 hx qo_1 qo_4 qo_7 qo_10 qo_13 qo_17 qo_19 qo_22 qa_24 qa_25 qa_26 qa_27 0 0 0), (kX4 qo_1 qn_3 0 (-1) 0), (kAI qn_3 cI 24 (fun _ => 0)), (kX7 qo_4 qn_6 0 (-1) 0), (kAI qn_6 cI 39 (fun _ => 0)), (kX2 qo_7 qn_9 0 (-1) 0), (kAI qn_9 cI 23 (fun _ => 0)), (kX1 qo_10 qn_12 0), (kAI qn_12 cI 32 (fun _ => 0)), (kX10 qo_13 qo_1 qo_4 qo_7 qn_15 qn_16 qn_15 qn_16 0 0 0 0 0 0 0 0 0 0), (kX3 qn_15 0 0 0 0), (kX3 qn_16 0 0 0 0), (kX0 qo_17 0 0 0 0), (kX5 qo_19 qn_21 0 0), (kAJ qn_21 cJ 46 (fun _ => 0)), (kX6 qo_22 0), (kAI qa_24 cI 8 (fun _ => 0)), (kAI qa_25 cI 8 (fun _ => 0)), (kAI qa_26 cI 25 (fun _ => 0)), (kAQ qa_27 cQ 4 (va_up (va_up (va_up (fun _ => none) (0 : Int32).toNatClampNeg (some qo_28)) (1 : Int32).toNatClampNeg (some qo_31)) (2 : Int32).toNatClampNeg (some qo_34))), (kX8 qo_28 qn_30 1 0 0), (kAI qn_30 cI 60 (fun _ => 0)), (kX8 qo_31 qn_33 1 0 0), (kAI qn_33 cI 60 (fun _ => 0)), (kX8 qo_34 qn_36 1 0 0), (kAI qn_36 cI 60 (fun _ => 0)), (qo_37, .inr (8, [.null, .int 0, .int 0, .int 0]))]) hP hD rfl
  replace hD := hP.2
  replace hP := hP.1
  refine W.widen (k := 26) (n := 452) (by omega) (by omega) ?_
  refine lv_dup hx₀ hb dX11_init_151 rfl ?_
  obtain ⟨hPc, hDc, hFc, hC⟩ := k_cw (wc := [(qo_37, .inr (8, [.null, .int 0, .int 0, .int 0]))]) hP hD hS hA [26] (by decide +kernel) rfl
  refine va_callv (va_runIN (As := []) (rest := [.ref qo_37, .int 3, .ref qa_27]) ⟨hx₀, hb, hml, hown, hts⟩ (k_X8 l dC dI cI cJ cQ H.size qo_37) ⟨va_cnB (host := "BittenStick") 0 hts (kG wd_107) rfl rfl rfl hN.2.2.2.2.2.2.2.1 (hts (.initialized RX8) wd_51) (by decide +kernel) ⟨Nat.le_of_ble_eq_true rfl, Nat.le_of_ble_eq_true rfl⟩, rfl, (hts (.instanceMethod yX8_init) wd_106)⟩ (k_preS hK hPc hDc hN) rfl rfl hl.1 rfl (lv_room (Nat.le_of_ble_eq_true rfl)) dX11_init_152 ⟨by decide +kernel, by decide +kernel⟩) hS (fun q _ h => hFc q h) hFc (fun u₀ t₀ H1 locs ht hvm hw hB hz1 hk1 hS => ?_)
  obtain ⟨qn_39, rfl⟩ : ∃ z, z = u₀ := ⟨_, rfl⟩
  obtain ⟨hP1, hK1, hD1⟩ := hB
  rw [ht] at hP1
  have hJ := k_jn (wr := [(kX11 hx qo_1 qo_4 qo_7 qo_10 qo_13 qo_17 qo_19 qo_22 qa_24 qa_25 qa_26 qa_27 0 0 0), (kX4 qo_1 qn_3 0 (-1) 0), (kAI qn_3 cI 24 (fun _ => 0)), (kX7 qo_4 qn_6 0 (-1) 0), (kAI qn_6 cI 39 (fun _ => 0)), (kX2 qo_7 qn_9 0 (-1) 0), (kAI qn_9 cI 23 (fun _ => 0)), (kX1 qo_10 qn_12 0), (kAI qn_12 cI 32 (fun _ => 0)), (kX10 qo_13 qo_1 qo_4 qo_7 qn_15 qn_16 qn_15 qn_16 0 0 0 0 0 0 0 0 0 0), (kX3 qn_15 0 0 0 0), (kX3 qn_16 0 0 0 0), (kX0 qo_17 0 0 0 0), (kX5 qo_19 qn_21 0 0), (kAJ qn_21 cJ 46 (fun _ => 0)), (kX6 qo_22 0), (kAI qa_24 cI 8 (fun _ => 0)), (kAI qa_25 cI 8 (fun _ => 0)), (kAI qa_26 cI 25 (fun _ => 0)), (kAQ qa_27 cQ 4 (va_up (va_up (va_up (fun _ => none) (0 : Int32).toNatClampNeg (some qo_28)) (1 : Int32).toNatClampNeg (some qo_31)) (2 : Int32).toNatClampNeg (some qo_34))), (kX8 qo_28 qn_30 1 0 0), (kAI qn_30 cI 60 (fun _ => 0)), (kX8 qo_31 qn_33 1 0 0), (kAI qn_33 cI 60 (fun _ => 0)), (kX8 qo_34 qn_36 1 0 0), (kAI qn_36 cI 60 (fun _ => 0))]) (wt := [(kX11 hx qo_1 qo_4 qo_7 qo_10 qo_13 qo_17 qo_19 qo_22 qa_24 qa_25 qa_26 qa_27 0 0 0), (kX4 qo_1 qn_3 0 (-1) 0), (kAI qn_3 cI 24 (fun _ => 0)), (kX7 qo_4 qn_6 0 (-1) 0), (kAI qn_6 cI 39 (fun _ => 0)), (kX2 qo_7 qn_9 0 (-1) 0), (kAI qn_9 cI 23 (fun _ => 0)), (kX1 qo_10 qn_12 0), (kAI qn_12 cI 32 (fun _ => 0)), (kX10 qo_13 qo_1 qo_4 qo_7 qn_15 qn_16 qn_15 qn_16 0 0 0 0 0 0 0 0 0 0), (kX3 qn_15 0 0 0 0), (kX3 qn_16 0 0 0 0), (kX0 qo_17 0 0 0 0), (kX5 qo_19 qn_21 0 0), (kAJ qn_21 cJ 46 (fun _ => 0)), (kX6 qo_22 0), (kAI qa_24 cI 8 (fun _ => 0)), (kAI qa_25 cI 8 (fun _ => 0)), (kAI qa_26 cI 25 (fun _ => 0)), (kAQ qa_27 cQ 4 (va_up (va_up (va_up (fun _ => none) (0 : Int32).toNatClampNeg (some qo_28)) (1 : Int32).toNatClampNeg (some qo_31)) (2 : Int32).toNatClampNeg (some qo_34))), (kX8 qo_28 qn_30 1 0 0), (kAI qn_30 cI 60 (fun _ => 0)), (kX8 qo_31 qn_33 1 0 0), (kAI qn_33 cI 60 (fun _ => 0)), (kX8 qo_34 qn_36 1 0 0), (kAI qn_36 cI 60 (fun _ => 0)), (kX8 qo_37 qn_39 1 0 0), (kAI qn_39 cI 60 (fun _ => 0))]) hP hD hC [0, 1, 2, 3, 4, 5, 6, 7, 8, 9, 10, 11, 12, 13, 14, 15, 16, 17, 18, 19, 20, 21, 22, 23, 24, 25] rfl (by decide +kernel) (by decide +kernel) hk1 hFc hP1 hD1 rfl
  clear hP hD hPc hDc hFc hC hP1 hD1 hK1 hz1 hk1 hvm ht
  obtain ⟨hP, hD⟩ := hJ
  generalize H1 = H at hP hS ⊢
  refine W.widen (k := 27) (n := 512) (by omega) (by omega) ?_
  refine va_astq (r := (RX8, TX8, 4)) hx₀ hb hK hP hD hS 19 2 26 8 rfl rfl rfl rfl (by unfold vp_in; decide +kernel) dX11_init_155 ?_
  clear hP hD hS
  intro H locs hP hD hS
  replace hP := k_w2 (wt := [(kX11 hx qo_1 qo_4 qo_7 qo_10 qo_13 qo_17 qo_19 qo_22 qa_24 qa_25 qa_26 qa_27 0 0 0), (kX4 qo_1 qn_3 0 (-1) 0), (kAI qn_3 cI 24 (fun _ => 0)), (kX7 qo_4 qn_6 0 (-1) 0), (kAI qn_6 cI 39 (fun _ => 0)), (kX2 qo_7 qn_9 0 (-1) 0), (kAI qn_9 cI 23 (fun _ => 0)), (kX1 qo_10 qn_12 0), (kAI qn_12 cI 32 (fun _ => 0)), (kX10 qo_13 qo_1 qo_4 qo_7 qn_15 qn_16 qn_15 qn_16 0 0 0 0 0 0 0 0 0 0), (kX3 qn_15 0 0 0 0), (kX3 qn_16 0 0 0 0), (kX0 qo_17 0 0 0 0), (kX5 qo_19 qn_21 0 0), (kAJ qn_21 cJ 46 (fun _ => 0)), (kX6 qo_22 0), (kAI qa_24 cI 8 (fun _ => 0)), (kAI qa_25 cI 8 (fun _ => 0)), (kAI qa_26 cI 25 (fun _ => 0)), (kAQ qa_27 cQ 4 (va_up (va_up (va_up (va_up (fun _ => none) (0 : Int32).toNatClampNeg (some qo_28)) (1 : Int32).toNatClampNeg (some qo_31)) (2 : Int32).toNatClampNeg (some qo_34)) (3 : Int32).toNatClampNeg (some qo_37))), (kX8 qo_28 qn_30 1 0 0), (kAI qn_30 cI 60 (fun _ => 0)), (kX8 qo_31 qn_33 1 0 0), (kAI qn_33 cI 60 (fun _ => 0)), (kX8 qo_34 qn_36 1 0 0), (kAI qn_36 cI 60 (fun _ => 0)), (kX8 qo_37 qn_39 1 0 0), (kAI qn_39 cI 60 (fun _ => 0))]) hP hD rfl
  replace hD := hP.2
  replace hP := hP.1
  refine lv_iinc (v := 4) (lv' := [(1, .int 4), (0, .ref hx)]) hx₀ hb dX11_init_156 hl (k := 0) rfl (by decide +kernel) (by decide) rfl (fun ls hl => ?_)
  refine lv_goto (tgt := 138) hx₀ hb dX11_init_159 (by decide) ?_
  refine lv_iload_n hx₀ hb dX11_init_138 rfl (lv_at hl 0 rfl) ?_
  refine lv_iconst (v := 4) hx₀ hb dX11_init_139 (by decide +kernel) ?_
  refine lv_icmp_ge (tgt := 162) hx₀ hb dX11_init_140 (by decide) (fun _ => ?_) (fun c9 => absurd (by decide +kernel) c9)
  refine W.widen (k := 27) (n := 512) (by decide +kernel) (by decide +kernel) ?_
  replace hP := k_w2 (wt := [(kX11 hx qo_1 qo_4 qo_7 qo_10 qo_13 qo_17 qo_19 qo_22 qa_24 qa_25 qa_26 qa_27 0 0 0), (kX4 qo_1 qn_3 0 (-1) 0), (kAI qn_3 cI 24 (fun _ => 0)), (kX7 qo_4 qn_6 0 (-1) 0), (kAI qn_6 cI 39 (fun _ => 0)), (kX2 qo_7 qn_9 0 (-1) 0), (kAI qn_9 cI 23 (fun _ => 0)), (kX1 qo_10 qn_12 0), (kAI qn_12 cI 32 (fun _ => 0)), (kX10 qo_13 qo_1 qo_4 qo_7 qn_15 qn_16 qn_15 qn_16 0 0 0 0 0 0 0 0 0 0), (kX3 qn_15 0 0 0 0), (kX3 qn_16 0 0 0 0), (kX0 qo_17 0 0 0 0), (kX5 qo_19 qn_21 0 0), (kAJ qn_21 cJ 46 (fun _ => 0)), (kX6 qo_22 0), (kAI qa_24 cI 8 (fun _ => 0)), (kAI qa_25 cI 8 (fun _ => 0)), (kAI qa_26 cI 25 (fun _ => 0)), (kAQ qa_27 cQ 4 (fSh qo_28 qo_31 qo_34 qo_37)), (kX8 qo_28 qn_30 1 0 0), (kAI qn_30 cI 60 (fun _ => 0)), (kX8 qo_31 qn_33 1 0 0), (kAI qn_33 cI 60 (fun _ => 0)), (kX8 qo_34 qn_36 1 0 0), (kAI qn_36 cI 60 (fun _ => 0)), (kX8 qo_37 qn_39 1 0 0), (kAI qn_39 cI 60 (fun _ => 0))]) hP hD rfl
  replace hD := hP.2
  replace hP := hP.1
  obtain ⟨hP9, hD9⟩ := k_c2 (wc := [(kX11 hx qo_1 qo_4 qo_7 qo_10 qo_13 qo_17 qo_19 qo_22 qa_24 qa_25 qa_26 qa_27 0 0 0), (kX4 qo_1 qn_3 0 (-1) 0), (kAI qn_3 cI 24 (fun _ => 0)), (kX7 qo_4 qn_6 0 (-1) 0), (kAI qn_6 cI 39 (fun _ => 0)), (kX2 qo_7 qn_9 0 (-1) 0), (kAI qn_9 cI 23 (fun _ => 0)), (kX1 qo_10 qn_12 0), (kAI qn_12 cI 32 (fun _ => 0)), (kX10 qo_13 qo_1 qo_4 qo_7 qn_15 qn_16 qn_15 qn_16 0 0 0 0 0 0 0 0 0 0), (kX3 qn_15 0 0 0 0), (kX3 qn_16 0 0 0 0), (kX0 qo_17 0 0 0 0), (kX5 qo_19 qn_21 0 0), (kAJ qn_21 cJ 46 (fun _ => 0)), (kX6 qo_22 0), (kAI qa_24 cI 8 (fun _ => 0)), (kAI qa_25 cI 8 (fun _ => 0)), (kAI qa_26 cI 25 (fun _ => 0)), (kAQ qa_27 cQ 4 (fSh qo_28 qo_31 qo_34 qo_37)), (kX8 qo_28 qn_30 1 0 0), (kAI qn_30 cI 60 (fun _ => 0)), (kX8 qo_31 qn_33 1 0 0), (kAI qn_33 cI 60 (fun _ => 0)), (kX8 qo_34 qn_36 1 0 0), (kAI qn_36 cI 60 (fun _ => 0)), (kX8 qo_37 qn_39 1 0 0), (kAI qn_39 cI 60 (fun _ => 0))]) hP hD [0, 1, 2, 3, 4, 5, 6, 7, 8, 9, 10, 11, 12, 13, 14, 15, 16, 17, 18, 19, 20, 21, 22, 23, 24, 25, 26, 27] (by decide +kernel) rfl
  exact W.vret hx₀ hb hr (fun t₀ ht hW => ⟨⟨(qo_1, qn_3, qo_4, qn_6, qo_7, qn_9, qo_10, qn_12, qo_13, qn_15, qn_16, qo_17, qo_19, qn_21, qo_22, qa_24, qa_25, qa_26, qa_27, qo_28, qn_30, qo_31, qn_33, qo_34, qn_36, qo_37, qn_39), rfl, trivial, by rw [ht]; exact hP9, va_K.moved hW.alike hK, hD9⟩, hS.F ht⟩) hS.2.2 dX11_init_162
