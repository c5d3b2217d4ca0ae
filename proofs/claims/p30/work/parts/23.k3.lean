set_option maxHeartbeats 4000000 in
set_option maxRecDepth 100000 in
theorem k_X12 (l : Launch) (dC : Nat → ClassId) (dI : Nat → Nat → Nat) (cI cJ cQ : ClassId) (sz : Nat) (hm : Nat) : Met l yX12_init (kW yX12_init cX12_init 2 none) { frames := 1, cells := 16, slots := 678, locals := 20 } (kPre dC dI cI cJ cQ sz [.ref hm] [(hm, .inr (11, [.null, .null, .null, .null, .int 0, .null, .null, .int 0, .null, .int 0, .null, .int 0, .null, .int 0, .null, .int 0, .null, .int 0, .int 0, .int 0, .int 0, .int 0, .int 0, .null, .null, .null, .int 0, .null, .null, .int 0]))]) (va_Qv (fun (_ : Nat × Nat × Nat × Nat × Nat × Nat × Nat × Nat × Nat × Nat × Nat × Nat × Nat × Nat × Nat × Nat) => True) (fun (u : Nat × Nat × Nat × Nat × Nat × Nat × Nat × Nat × Nat × Nat × Nat × Nat × Nat × Nat × Nat × Nat) t₀ => kB dC dI cI cJ cQ (va_A [(hm, .inr (11, [.null, .null, .null, .null, .int 0, .null, .null, .int 0, .null, .int 0, .null, .int 0, .null, .int 0, .null, .int 0, .null, .int 0, .int 0, .int 0, .int 0, .int 0, .int 0, .null, .null, .null, .int 0, .null, .null, .int 0]))] sz) [(kX12 hm (u.1) (u.2.1) (u.2.2.1) (u.2.2.2.1) 0 (u.2.2.2.2.1) (u.2.2.2.2.2.1) 0 (u.2.2.2.2.2.2.1) 0 (u.2.2.2.2.2.2.2.1) 0 (u.2.2.2.2.2.2.2.2.1) 0 (u.2.2.2.2.2.2.2.2.2.1) 0 (u.2.2.2.2.2.2.2.2.2.2.1) 0 0 0 16777215 0 0 (u.2.2.2.2.2.2.2.2.2.2.2.1) (u.2.2.2.2.2.2.2.2.2.2.2.2.1) (u.2.2.2.2.2.2.2.2.2.2.2.2.2.1) 0 (u.2.2.2.2.2.2.2.2.2.2.2.2.2.2.1) (u.2.2.2.2.2.2.2.2.2.2.2.2.2.2.2) 0), (kAI (u.1) cI 4 fFo), (kAI (u.2.1) cI 4 (fun _ => 0)), (kAI (u.2.2.1) cI 240 (fun _ => 0)), (kAI (u.2.2.2.1) cI 60 (fun _ => 0)), (kAI (u.2.2.2.2.1) cI 120 (fun _ => 0)), (kAI (u.2.2.2.2.2.1) cI 3 (fun _ => 0)), (kAI (u.2.2.2.2.2.2.1) cI 24 (fun _ => 0)), (kAI (u.2.2.2.2.2.2.2.1) cI 32 (fun _ => 0)), (kAI (u.2.2.2.2.2.2.2.2.1) cI 16 (fun _ => 0)), (kAI (u.2.2.2.2.2.2.2.2.2.1) cI 32 (fun _ => 0)), (kAI (u.2.2.2.2.2.2.2.2.2.2.1) cI 96 (fun _ => 0)), (kAI (u.2.2.2.2.2.2.2.2.2.2.2.1) cI 2 (fun _ => 0)), (kAI (u.2.2.2.2.2.2.2.2.2.2.2.2.1) cI 2 (fun _ => 0)), (kAI (u.2.2.2.2.2.2.2.2.2.2.2.2.2.1) cI 2 (fun _ => 0)), (kAI (u.2.2.2.2.2.2.2.2.2.2.2.2.2.2.1) cI 16 (fun _ => 0)), (kAI (u.2.2.2.2.2.2.2.2.2.2.2.2.2.2.2) cI 25 (fun _ => 0))] t₀) (va_A [(hm, .inr (11, [.null, .null, .null, .null, .int 0, .null, .null, .int 0, .null, .int 0, .null, .int 0, .null, .int 0, .null, .int 0, .null, .int 0, .int 0, .int 0, .int 0, .int 0, .int 0, .null, .null, .null, .int 0, .null, .null, .int 0]))] sz)) 16 678 (va_A [(hm, .inr (11, [.null, .null, .null, .null, .int 0, .null, .null, .int 0, .null, .int 0, .null, .int 0, .null, .int 0, .null, .int 0, .null, .int 0, .int 0, .int 0, .int 0, .int 0, .int 0, .null, .null, .null, .int 0, .null, .null, .int 0]))] sz) := by
  refine Met.ofW (cc := cX12_init) (maxL := 2) (ret := none) (by decide) rfl ?_
  intro p₀ e₀ s₀ m₀ args below meth c₀ s₁ B hml hv₀
  obtain ⟨rfl, hsz, hP, hK, hD0, hN⟩ := hv₀
  have hx₀ := B.exec
  have hb := B.bytes
  have hr := B.returns
  have hts := atoms_spec (ws := (kW yX12_init cX12_init 2 none)) B.pre
  have hts := fun w h => hts w (List.mem_cons_of_mem _ h)
  have hown : s₀.vm.findClass RX12 = some m₀.cls := findClass_of_methodNamed B.named
  have hlocks := B.notSynchronized
  have hin : meth.name = "<init>" := (name_of_methodNamed B.named B.method).1
  subst hsz
  have hD := hD0.self (sz := s₀.heap.size)
  generalize hAe : va_A [(hm, .inr (11, [.null, .null, .null, .null, .int 0, .null, .null, .int 0, .null, .int 0, .null, .int 0, .null, .int 0, .null, .int 0, .null, .int 0, .int 0, .int 0, .int 0, .int 0, .int 0, .null, .null, .null, .int 0, .null, .null, .int 0]))] s₀.heap.size = A at hD ⊢
  have hA : ∀ q : Nat, s₀.heap.size ≤ q → A q := fun q h => by rw [← hAe]; exact Or.inr h
  have hS : va_S A s₀.heap s₀.heap [] := va_S.rf
  have hP : va_P (dC, dI) vwCl [(hm, .inr (11, [.null, .null, .null, .null, .int 0, .null, .null, .int 0, .null, .int 0, .null, .int 0, .null, .int 0, .null, .int 0, .null, .int 0, .int 0, .int 0, .int 0, .int 0, .int 0, .null, .null, .null, .int 0, .null, .null, .int 0]))] s₀.heap := hP
  have hl := lv_entry ([.ref hm]) (n := 2) (Nat.le_of_ble_eq_true rfl)
  rw [lg_entry_eq]
  generalize (lg_sl ([.ref hm]) ++ List.replicate (2 - (lg_sl ([.ref hm])).length) Slot.unset).toArray = ls at hl ⊢
  have hl : lv_has ls 2 [(0, .ref hm)] := hl
  obtain ⟨H, hH⟩ : ∃ z : Heap, z = s₀.heap := ⟨_, rfl⟩
  rw [← hH] at hP
  have hS : va_S A s₀.heap H [] := by rw [hH]; exact hS
  refine k_heap hH ?_
  have hD : va_D A [(hm, .inr (11, [.null, .null, .null, .null, .int 0, .null, .null, .int 0, .null, .int 0, .null, .int 0, .null, .int 0, .null, .int 0, .null, .int 0, .int 0, .int 0, .int 0, .int 0, .int 0, .null, .null, .null, .int 0, .null, .null, .int 0]))] := hD
  obtain ⟨locs, hlo⟩ : ∃ z : List Loc, z = [] := ⟨_, rfl⟩
  rw [← hlo] at hS ⊢
  clear hlo hH hAe hD0
  refine lv_aload_n hx₀ hb dX12_init_0 rfl (lv_at hl 0 rfl) ?_
  refine W.objInit hx₀ hb hown (hts (.methodLink RX12 1 objectInit) wd_114) (hts (.instanceMethod objectInit) wd_10) (hts (.code objectInit ⟨#[0xb1]⟩ 1 none) wd_11) rfl (by rw [hml]; exact hl.1) rfl dX12_init_1 (Nat.le_of_ble_eq_true rfl) (Nat.le_of_ble_eq_true rfl) ?_
  refine W.eq (g2 := F0 m₀ 4 ls []) rfl ?_
  refine lv_aload_n hx₀ hb dX12_init_4 rfl (lv_at hl 0 rfl) ?_
  refine lv_iconst (v := 4) hx₀ hb dX12_init_5 (by decide +kernel) ?_
  refine k_newaI (N' := 4) hx₀ hb (hts (.arrayClass .int) wd_44) hK hP hD hS hA (by decide +kernel) (by decide +kernel) (by decide +kernel) (by decide +kernel) (by decide +kernel) dX12_init_6 (fun qa_1 H hP hD hS => ?_)
  replace hP := k_w2 (wt := [(hm, .inr (11, [.null, .null, .null, .null, .int 0, .null, .null, .int 0, .null, .int 0, .null, .int 0, .null, .int 0, .null, .int 0, .null, .int 0, .int 0, .int 0, .int 0, .int 0, .int 0, .null, .null, .null, .int 0, .null, .null, .int 0])), (kAI qa_1 cI 4 (fun _ => 0))]) hP hD rfl
  replace hD := hP.2
  replace hP := hP.1
  refine W.widen (k := 1) (n := 4) (by omega) (by omega) ?_
  refine va_putF (D := (dC, dI)) (ci := 11) (v := .ref qa_1) (ty := .array .int) (C := RX12) (T := TX12) (N := 30) hx₀ hb hts inlX12 tyX12 tyX12_ok nmX12 hown hK hP hD hS 0 rfl rfl 0 (by decide) (hts (.fieldLink RX12 7 "BittenStickModel" "forms" "[I") wd_115) (fun _ h9 => h9) rfl hin rfl (by decide +kernel) rfl rfl (Nat.le_of_ble_eq_true rfl) dX12_init_8 ?_
  clear hP hD hS
  intro H locs hP hD hS
  replace hP := k_w2 (wt := [(hm, .inr (11, [.ref qa_1, .null, .null, .null, .int 0, .null, .null, .int 0, .null, .int 0, .null, .int 0, .null, .int 0, .null, .int 0, .null, .int 0, .int 0, .int 0, .int 0, .int 0, .int 0, .null, .null, .null, .int 0, .null, .null, .int 0])), (kAI qa_1 cI 4 (fun _ => 0))]) hP hD rfl
  replace hD := hP.2
  replace hP := hP.1
  refine lv_aload_n hx₀ hb dX12_init_11 rfl (lv_at hl 0 rfl) ?_
  refine lv_iconst (v := 4) hx₀ hb dX12_init_12 (by decide +kernel) ?_
  refine k_newaI (N' := 4) hx₀ hb (hts (.arrayClass .int) wd_44) hK hP hD hS hA (by decide +kernel) (by decide +kernel) (by decide +kernel) (by decide +kernel) (by decide +kernel) dX12_init_13 (fun qa_2 H hP hD hS => ?_)
  replace hP := k_w2 (wt := [(hm, .inr (11, [.ref qa_1, .null, .null, .null, .int 0, .null, .null, .int 0, .null, .int 0, .null, .int 0, .null, .int 0, .null, .int 0, .null, .int 0, .int 0, .int 0, .int 0, .int 0, .int 0, .null, .null, .null, .int 0, .null, .null, .int 0])), (kAI qa_1 cI 4 (fun _ => 0)), (kAI qa_2 cI 4 (fun _ => 0))]) hP hD rfl
  replace hD := hP.2
  replace hP := hP.1
  refine W.widen (k := 2) (n := 8) (by omega) (by omega) ?_
  refine va_putF (D := (dC, dI)) (ci := 11) (v := .ref qa_2) (ty := .array .int) (C := RX12) (T := TX12) (N := 30) hx₀ hb hts inlX12 tyX12 tyX12_ok nmX12 hown hK hP hD hS 0 rfl rfl 1 (by decide) (hts (.fieldLink RX12 13 "BittenStickModel" "sizes" "[I") wd_116) (fun _ h9 => h9) rfl hin rfl (by decide +kernel) rfl rfl (Nat.le_of_ble_eq_true rfl) dX12_init_15 ?_
  clear hP hD hS
  intro H locs hP hD hS
  replace hP := k_w2 (wt := [(hm, .inr (11, [.ref qa_1, .ref qa_2, .null, .null, .int 0, .null, .null, .int 0, .null, .int 0, .null, .int 0, .null, .int 0, .null, .int 0, .null, .int 0, .int 0, .int 0, .int 0, .int 0, .int 0, .null, .null, .null, .int 0, .null, .null, .int 0])), (kAI qa_1 cI 4 (fun _ => 0)), (kAI qa_2 cI 4 (fun _ => 0))]) hP hD rfl
  replace hD := hP.2
  replace hP := hP.1
  refine lv_aload_n hx₀ hb dX12_init_18 rfl (lv_at hl 0 rfl) ?_
  refine lv_sipush (v := 240) hx₀ hb dX12_init_19 (by decide +kernel) ?_
  refine k_newaI (N' := 240) hx₀ hb (hts (.arrayClass .int) wd_44) hK hP hD hS hA (by decide +kernel) (by decide +kernel) (by decide +kernel) (by decide +kernel) (by decide +kernel) dX12_init_22 (fun qa_3 H hP hD hS => ?_)
  replace hP := k_w2 (wt := [(hm, .inr (11, [.ref qa_1, .ref qa_2, .null, .null, .int 0, .null, .null, .int 0, .null, .int 0, .null, .int 0, .null, .int 0, .null, .int 0, .null, .int 0, .int 0, .int 0, .int 0, .int 0, .int 0, .null, .null, .null, .int 0, .null, .null, .int 0])), (kAI qa_1 cI 4 (fun _ => 0)), (kAI qa_2 cI 4 (fun _ => 0)), (kAI qa_3 cI 240 (fun _ => 0))]) hP hD rfl
  replace hD := hP.2
  replace hP := hP.1
  refine W.widen (k := 3) (n := 248) (by omega) (by omega) ?_
  refine va_putF (D := (dC, dI)) (ci := 11) (v := .ref qa_3) (ty := .array .int) (C := RX12) (T := TX12) (N := 30) hx₀ hb hts inlX12 tyX12 tyX12_ok nmX12 hown hK hP hD hS 0 rfl rfl 2 (by decide) (hts (.fieldLink RX12 16 "BittenStickModel" "items" "[I") wd_117) (fun _ h9 => h9) rfl hin rfl (by decide +kernel) rfl rfl (Nat.le_of_ble_eq_true rfl) dX12_init_24 ?_
  clear hP hD hS
  intro H locs hP hD hS
  replace hP := k_w2 (wt := [(hm, .inr (11, [.ref qa_1, .ref qa_2, .ref qa_3, .null, .int 0, .null, .null, .int 0, .null, .int 0, .null, .int 0, .null, .int 0, .null, .int 0, .null, .int 0, .int 0, .int 0, .int 0, .int 0, .int 0, .null, .null, .null, .int 0, .null, .null, .int 0])), (kAI qa_1 cI 4 (fun _ => 0)), (kAI qa_2 cI 4 (fun _ => 0)), (kAI qa_3 cI 240 (fun _ => 0))]) hP hD rfl
  replace hD := hP.2
  replace hP := hP.1
  refine lv_aload_n hx₀ hb dX12_init_27 rfl (lv_at hl 0 rfl) ?_
  refine lv_bipush (v := 60) hx₀ hb dX12_init_28 (by decide +kernel) ?_
  refine k_newaI (N' := 60) hx₀ hb (hts (.arrayClass .int) wd_44) hK hP hD hS hA (by decide +kernel) (by decide +kernel) (by decide +kernel) (by decide +kernel) (by decide +kernel) dX12_init_30 (fun qa_4 H hP hD hS => ?_)
  replace hP := k_w2 (wt := [(hm, .inr (11, [.ref qa_1, .ref qa_2, .ref qa_3, .null, .int 0, .null, .null, .int 0, .null, .int 0, .null, .int 0, .null, .int 0, .null, .int 0, .null, .int 0, .int 0, .int 0, .int 0, .int 0, .int 0, .null, .null, .null, .int 0, .null, .null, .int 0])), (kAI qa_1 cI 4 (fun _ => 0)), (kAI qa_2 cI 4 (fun _ => 0)), (kAI qa_3 cI 240 (fun _ => 0)), (kAI qa_4 cI 60 (fun _ => 0))]) hP hD rfl
  replace hD := hP.2
  replace hP := hP.1
  refine W.widen (k := 4) (n := 308) (by omega) (by omega) ?_
  refine va_putF (D := (dC, dI)) (ci := 11) (v := .ref qa_4) (ty := .array .int) (C := RX12) (T := TX12) (N := 30) hx₀ hb hts inlX12 tyX12 tyX12_ok nmX12 hown hK hP hD hS 0 rfl rfl 3 (by decide) (hts (.fieldLink RX12 19 "BittenStickModel" "moved" "[I") wd_118) (fun _ h9 => h9) rfl hin rfl (by decide +kernel) rfl rfl (Nat.le_of_ble_eq_true rfl) dX12_init_32 ?_
  clear hP hD hS
  intro H locs hP hD hS
  replace hP := k_w2 (wt := [(hm, .inr (11, [.ref qa_1, .ref qa_2, .ref qa_3, .ref qa_4, .int 0, .null, .null, .int 0, .null, .int 0, .null, .int 0, .null, .int 0, .null, .int 0, .null, .int 0, .int 0, .int 0, .int 0, .int 0, .int 0, .null, .null, .null, .int 0, .null, .null, .int 0])), (kAI qa_1 cI 4 (fun _ => 0)), (kAI qa_2 cI 4 (fun _ => 0)), (kAI qa_3 cI 240 (fun _ => 0)), (kAI qa_4 cI 60 (fun _ => 0))]) hP hD rfl
  replace hD := hP.2
  replace hP := hP.1
  refine lv_aload_n hx₀ hb dX12_init_35 rfl (lv_at hl 0 rfl) ?_
  refine lv_bipush (v := 120) hx₀ hb dX12_init_36 (by decide +kernel) ?_
  refine k_newaI (N' := 120) hx₀ hb (hts (.arrayClass .int) wd_44) hK hP hD hS hA (by decide +kernel) (by decide +kernel) (by decide +kernel) (by decide +kernel) (by decide +kernel) dX12_init_38 (fun qa_5 H hP hD hS => ?_)
  replace hP := k_w2 (wt := [(hm, .inr (11, [.ref qa_1, .ref qa_2, .ref qa_3, .ref qa_4, .int 0, .null, .null, .int 0, .null, .int 0, .null, .int 0, .null, .int 0, .null, .int 0, .null, .int 0, .int 0, .int 0, .int 0, .int 0, .int 0, .null, .null, .null, .int 0, .null, .null, .int 0])), (kAI qa_1 cI 4 (fun _ => 0)), (kAI qa_2 cI 4 (fun _ => 0)), (kAI qa_3 cI 240 (fun _ => 0)), (kAI qa_4 cI 60 (fun _ => 0)), (kAI qa_5 cI 120 (fun _ => 0))]) hP hD rfl
  replace hD := hP.2
  replace hP := hP.1
  refine W.widen (k := 5) (n := 428) (by omega) (by omega) ?_
  refine va_putF (D := (dC, dI)) (ci := 11) (v := .ref qa_5) (ty := .array .int) (C := RX12) (T := TX12) (N := 30) hx₀ hb hts inlX12 tyX12 tyX12_ok nmX12 hown hK hP hD hS 0 rfl rfl 5 (by decide) (hts (.fieldLink RX12 22 "BittenStickModel" "bytes" "[I") wd_119) (fun _ h9 => h9) rfl hin rfl (by decide +kernel) rfl rfl (Nat.le_of_ble_eq_true rfl) dX12_init_40 ?_
  clear hP hD hS
  intro H locs hP hD hS
  replace hP := k_w2 (wt := [(hm, .inr (11, [.ref qa_1, .ref qa_2, .ref qa_3, .ref qa_4, .int 0, .ref qa_5, .null, .int 0, .null, .int 0, .null, .int 0, .null, .int 0, .null, .int 0, .null, .int 0, .int 0, .int 0, .int 0, .int 0, .int 0, .null, .null, .null, .int 0, .null, .null, .int 0])), (kAI qa_1 cI 4 (fun _ => 0)), (kAI qa_2 cI 4 (fun _ => 0)), (kAI qa_3 cI 240 (fun _ => 0)), (kAI qa_4 cI 60 (fun _ => 0)), (kAI qa_5 cI 120 (fun _ => 0))]) hP hD rfl
  replace hD := hP.2
  replace hP := hP.1
  refine lv_aload_n hx₀ hb dX12_init_43 rfl (lv_at hl 0 rfl) ?_
  refine lv_iconst (v := 3) hx₀ hb dX12_init_44 (by decide +kernel) ?_
  refine k_newaI (N' := 3) hx₀ hb (hts (.arrayClass .int) wd_44) hK hP hD hS hA (by decide +kernel) (by decide +kernel) (by decide +kernel) (by decide +kernel) (by decide +kernel) dX12_init_45 (fun qa_6 H hP hD hS => ?_)
  replace hP := k_w2 (wt := [(hm, .inr (11, [.ref qa_1, .ref qa_2, .ref qa_3, .ref qa_4, .int 0, .ref qa_5, .null, .int 0, .null, .int 0, .null, .int 0, .null, .int 0, .null, .int 0, .null, .int 0, .int 0, .int 0, .int 0, .int 0, .int 0, .null, .null, .null, .int 0, .null, .null, .int 0])), (kAI qa_1 cI 4 (fun _ => 0)), (kAI qa_2 cI 4 (fun _ => 0)), (kAI qa_3 cI 240 (fun _ => 0)), (kAI qa_4 cI 60 (fun _ => 0)), (kAI qa_5 cI 120 (fun _ => 0)), (kAI qa_6 cI 3 (fun _ => 0))]) hP hD rfl
  replace hD := hP.2
  replace hP := hP.1
  refine W.widen (k := 6) (n := 431) (by omega) (by omega) ?_
  refine va_putF (D := (dC, dI)) (ci := 11) (v := .ref qa_6) (ty := .array .int) (C := RX12) (T := TX12) (N := 30) hx₀ hb hts inlX12 tyX12 tyX12_ok nmX12 hown hK hP hD hS 0 rfl rfl 6 (by decide) (hts (.fieldLink RX12 25 "BittenStickModel" "typed" "[I") wd_120) (fun _ h9 => h9) rfl hin rfl (by decide +kernel) rfl rfl (Nat.le_of_ble_eq_true rfl) dX12_init_47 ?_
  clear hP hD hS
  intro H locs hP hD hS
  replace hP := k_w2 (wt := [(hm, .inr (11, [.ref qa_1, .ref qa_2, .ref qa_3, .ref qa_4, .int 0, .ref qa_5, .ref qa_6, .int 0, .null, .int 0, .null, .int 0, .null, .int 0, .null, .int 0, .null, .int 0, .int 0, .int 0, .int 0, .int 0, .int 0, .null, .null, .null, .int 0, .null, .null, .int 0])), (kAI qa_1 cI 4 (fun _ => 0)), (kAI qa_2 cI 4 (fun _ => 0)), (kAI qa_3 cI 240 (fun _ => 0)), (kAI qa_4 cI 60 (fun _ => 0)), (kAI qa_5 cI 120 (fun _ => 0)), (kAI qa_6 cI 3 (fun _ => 0))]) hP hD rfl
  replace hD := hP.2
  replace hP := hP.1
  refine lv_aload_n hx₀ hb dX12_init_50 rfl (lv_at hl 0 rfl) ?_
  refine lv_bipush (v := 24) hx₀ hb dX12_init_51 (by decide +kernel) ?_
  refine k_newaI (N' := 24) hx₀ hb (hts (.arrayClass .int) wd_44) hK hP hD hS hA (by decide +kernel) (by decide +kernel) (by decide +kernel) (by decide +kernel) (by decide +kernel) dX12_init_53 (fun qa_7 H hP hD hS => ?_)
  replace hP := k_w2 (wt := [(hm, .inr (11, [.ref qa_1, .ref qa_2, .ref qa_3, .ref qa_4, .int 0, .ref qa_5, .ref qa_6, .int 0, .null, .int 0, .null, .int 0, .null, .int 0, .null, .int 0, .null, .int 0, .int 0, .int 0, .int 0, .int 0, .int 0, .null, .null, .null, .int 0, .null, .null, .int 0])), (kAI qa_1 cI 4 (fun _ => 0)), (kAI qa_2 cI 4 (fun _ => 0)), (kAI qa_3 cI 240 (fun _ => 0)), (kAI qa_4 cI 60 (fun _ => 0)), (kAI qa_5 cI 120 (fun _ => 0)), (kAI qa_6 cI 3 (fun _ => 0)), (kAI qa_7 cI 24 (fun _ => 0))]) hP hD rfl
  replace hD := hP.2
  replace hP := hP.1
  refine W.widen (k := 7) (n := 455) (by omega) (by omega) ?_
  refine va_putF (D := (dC, dI)) (ci := 11) (v := .ref qa_7) (ty := .array .int) (C := RX12) (T := TX12) (N := 30) hx₀ hb hts inlX12 tyX12 tyX12_ok nmX12 hown hK hP hD hS 0 rfl rfl 8 (by decide) (hts (.fieldLink RX12 28 "BittenStickModel" "mile" "[I") wd_121) (fun _ h9 => h9) rfl hin rfl (by decide +kernel) rfl rfl (Nat.le_of_ble_eq_true rfl) dX12_init_55 ?_
  clear hP hD hS
  intro H locs hP hD hS
  replace hP := k_w2 (wt := [(hm, .inr (11, [.ref qa_1, .ref qa_2, .ref qa_3, .ref qa_4, .int 0, .ref qa_5, .ref qa_6, .int 0, .ref qa_7, .int 0, .null, .int 0, .null, .int 0, .null, .int 0, .null, .int 0, .int 0, .int 0, .int 0, .int 0, .int 0, .null, .null, .null, .int 0, .null, .null, .int 0])), (kAI qa_1 cI 4 (fun _ => 0)), (kAI qa_2 cI 4 (fun _ => 0)), (kAI qa_3 cI 240 (fun _ => 0)), (kAI qa_4 cI 60 (fun _ => 0)), (kAI qa_5 cI 120 (fun _ => 0)), (kAI qa_6 cI 3 (fun _ => 0)), (kAI qa_7 cI 24 (fun _ => 0))]) hP hD rfl
  replace hD := hP.2
  replace hP := hP.1
  refine lv_aload_n hx₀ hb dX12_init_58 rfl (lv_at hl 0 rfl) ?_
  refine lv_bipush (v := 32) hx₀ hb dX12_init_59 (by decide +kernel) ?_
  refine k_newaI (N' := 32) hx₀ hb (hts (.arrayClass .int) wd_44) hK hP hD hS hA (by decide +kernel) (by decide +kernel) (by decide +kernel) (by decide +kernel) (by decide +kernel) dX12_init_61 (fun qa_8 H hP hD hS => ?_)
  replace hP := k_w2 (wt := [(hm, .inr (11, [.ref qa_1, .ref qa_2, .ref qa_3, .ref qa_4, .int 0, .ref qa_5, .ref qa_6, .int 0, .ref qa_7, .int 0, .null, .int 0, .null, .int 0, .null, .int 0, .null, .int 0, .int 0, .int 0, .int 0, .int 0, .int 0, .null, .null, .null, .int 0, .null, .null, .int 0])), (kAI qa_1 cI 4 (fun _ => 0)), (kAI qa_2 cI 4 (fun _ => 0)), (kAI qa_3 cI 240 (fun _ => 0)), (kAI qa_4 cI 60 (fun _ => 0)), (kAI qa_5 cI 120 (fun _ => 0)), (kAI qa_6 cI 3 (fun _ => 0)), (kAI qa_7 cI 24 (fun _ => 0)), (kAI qa_8 cI 32 (fun _ => 0))]) hP hD rfl
  replace hD := hP.2
  replace hP := hP.1
  refine W.widen (k := 8) (n := 487) (by omega) (by omega) ?_
  refine va_putF (D := (dC, dI)) (ci := 11) (v := .ref qa_8) (ty := .array .int) (C := RX12) (T := TX12) (N := 30) hx₀ hb hts inlX12 tyX12 tyX12_ok nmX12 hown hK hP hD hS 0 rfl rfl 10 (by decide) (hts (.fieldLink RX12 31 "BittenStickModel" "passenger" "[I") wd_122) (fun _ h9 => h9) rfl hin rfl (by decide +kernel) rfl rfl (Nat.le_of_ble_eq_true rfl) dX12_init_63 ?_
  clear hP hD hS
  intro H locs hP hD hS
  replace hP := k_w2 (wt := [(hm, .inr (11, [.ref qa_1, .ref qa_2, .ref qa_3, .ref qa_4, .int 0, .ref qa_5, .ref qa_6, .int 0, .ref qa_7, .int 0, .ref qa_8, .int 0, .null, .int 0, .null, .int 0, .null, .int 0, .int 0, .int 0, .int 0, .int 0, .int 0, .null, .null, .null, .int 0, .null, .null, .int 0])), (kAI qa_1 cI 4 (fun _ => 0)), (kAI qa_2 cI 4 (fun _ => 0)), (kAI qa_3 cI 240 (fun _ => 0)), (kAI qa_4 cI 60 (fun _ => 0)), (kAI qa_5 cI 120 (fun _ => 0)), (kAI qa_6 cI 3 (fun _ => 0)), (kAI qa_7 cI 24 (fun _ => 0)), (kAI qa_8 cI 32 (fun _ => 0))]) hP hD rfl
  replace hD := hP.2
  replace hP := hP.1
  refine lv_aload_n hx₀ hb dX12_init_66 rfl (lv_at hl 0 rfl) ?_
  refine lv_bipush (v := 16) hx₀ hb dX12_init_67 (by decide +kernel) ?_
  refine k_newaI (N' := 16) hx₀ hb (hts (.arrayClass .int) wd_44) hK hP hD hS hA (by decide +kernel) (by decide +kernel) (by decide +kernel) (by decide +kernel) (by decide +kernel) dX12_init_69 (fun qa_9 H hP hD hS => ?_)
  replace hP := k_w2 (wt := [(hm, .inr (11, [.ref qa_1, .ref qa_2, .ref qa_3, .ref qa_4, .int 0, .ref qa_5, .ref qa_6, .int 0, .ref qa_7, .int 0, .ref qa_8, .int 0, .null, .int 0, .null, .int 0, .null, .int 0, .int 0, .int 0, .int 0, .int 0, .int 0, .null, .null, .null, .int 0, .null, .null, .int 0])), (kAI qa_1 cI 4 (fun _ => 0)), (kAI qa_2 cI 4 (fun _ => 0)), (kAI qa_3 cI 240 (fun _ => 0)), (kAI qa_4 cI 60 (fun _ => 0)), (kAI qa_5 cI 120 (fun _ => 0)), (kAI qa_6 cI 3 (fun _ => 0)), (kAI qa_7 cI 24 (fun _ => 0)), (kAI qa_8 cI 32 (fun _ => 0)), (kAI qa_9 cI 16 (fun _ => 0))]) hP hD rfl
  replace hD := hP.2
  replace hP := hP.1
  refine W.widen (k := 9) (n := 503) (by omega) (by omega) ?_
  refine va_putF (D := (dC, dI)) (ci := 11) (v := .ref qa_9) (ty := .array .int) (C := RX12) (T := TX12) (N := 30) hx₀ hb hts inlX12 tyX12 tyX12_ok nmX12 hown hK hP hD hS 0 rfl rfl 12 (by decide) (hts (.fieldLink RX12 34 "BittenStickModel" "goose" "[I") wd_123) (fun _ h9 => h9) rfl hin rfl (by decide +kernel) rfl rfl (Nat.le_of_ble_eq_true rfl) dX12_init_71 ?_
  clear hP hD hS
  intro H locs hP hD hS
  replace hP := k_w2 (wt := [(hm, .inr (11, [.ref qa_1, .ref qa_2, .ref qa_3, .ref qa_4, .int 0, .ref qa_5, .ref qa_6, .int 0, .ref qa_7, .int 0, .ref qa_8, .int 0, .ref qa_9, .int 0, .null, .int 0, .null, .int 0, .int 0, .int 0, .int 0, .int 0, .int 0, .null, .null, .null, .int 0, .null, .null, .int 0])), (kAI qa_1 cI 4 (fun _ => 0)), (kAI qa_2 cI 4 (fun _ => 0)), (kAI qa_3 cI 240 (fun _ => 0)), (kAI qa_4 cI 60 (fun _ => 0)), (kAI qa_5 cI 120 (fun _ => 0)), (kAI qa_6 cI 3 (fun _ => 0)), (kAI qa_7 cI 24 (fun _ => 0)), (kAI qa_8 cI 32 (fun _ => 0)), (kAI qa_9 cI 16 (fun _ => 0))]) hP hD rfl
  replace hD := hP.2
  replace hP := hP.1
  refine lv_aload_n hx₀ hb dX12_init_74 rfl (lv_at hl 0 rfl) ?_
  refine lv_bipush (v := 32) hx₀ hb dX12_init_75 (by decide +kernel) ?_
  refine k_newaI (N' := 32) hx₀ hb (hts (.arrayClass .int) wd_44) hK hP hD hS hA (by decide +kernel) (by decide +kernel) (by decide +kernel) (by decide +kernel) (by decide +kernel) dX12_init_77 (fun qa_10 H hP hD hS => ?_)
  replace hP := k_w2 (wt := [(hm, .inr (11, [.ref qa_1, .ref qa_2, .ref qa_3, .ref qa_4, .int 0, .ref qa_5, .ref qa_6, .int 0, .ref qa_7, .int 0, .ref qa_8, .int 0, .ref qa_9, .int 0, .null, .int 0, .null, .int 0, .int 0, .int 0, .int 0, .int 0, .int 0, .null, .null, .null, .int 0, .null, .null, .int 0])), (kAI qa_1 cI 4 (fun _ => 0)), (kAI qa_2 cI 4 (fun _ => 0)), (kAI qa_3 cI 240 (fun _ => 0)), (kAI qa_4 cI 60 (fun _ => 0)), (kAI qa_5 cI 120 (fun _ => 0)), (kAI qa_6 cI 3 (fun _ => 0)), (kAI qa_7 cI 24 (fun _ => 0)), (kAI qa_8 cI 32 (fun _ => 0)), (kAI qa_9 cI 16 (fun _ => 0)), (kAI qa_10 cI 32 (fun _ => 0))]) hP hD rfl
  replace hD := hP.2
  replace hP := hP.1
  refine W.widen (k := 10) (n := 535) (by omega) (by omega) ?_
  refine va_putF (D := (dC, dI)) (ci := 11) (v := .ref qa_10) (ty := .array .int) (C := RX12) (T := TX12) (N := 30) hx₀ hb hts inlX12 tyX12 tyX12_ok nmX12 hown hK hP hD hS 0 rfl rfl 14 (by decide) (hts (.fieldLink RX12 37 "BittenStickModel" "flight" "[I") wd_124) (fun _ h9 => h9) rfl hin rfl (by decide +kernel) rfl rfl (Nat.le_of_ble_eq_true rfl) dX12_init_79 ?_
  clear hP hD hS
  intro H locs hP hD hS
  replace hP := k_w2 (wt := [(hm, .inr (11, [.ref qa_1, .ref qa_2, .ref qa_3, .ref qa_4, .int 0, .ref qa_5, .ref qa_6, .int 0, .ref qa_7, .int 0, .ref qa_8, .int 0, .ref qa_9, .int 0, .ref qa_10, .int 0, .null, .int 0, .int 0, .int 0, .int 0, .int 0, .int 0, .null, .null, .null, .int 0, .null, .null, .int 0])), (kAI qa_1 cI 4 (fun _ => 0)), (kAI qa_2 cI 4 (fun _ => 0)), (kAI qa_3 cI 240 (fun _ => 0)), (kAI qa_4 cI 60 (fun _ => 0)), (kAI qa_5 cI 120 (fun _ => 0)), (kAI qa_6 cI 3 (fun _ => 0)), (kAI qa_7 cI 24 (fun _ => 0)), (kAI qa_8 cI 32 (fun _ => 0)), (kAI qa_9 cI 16 (fun _ => 0)), (kAI qa_10 cI 32 (fun _ => 0))]) hP hD rfl
  replace hD := hP.2
  replace hP := hP.1
  refine lv_aload_n hx₀ hb dX12_init_82 rfl (lv_at hl 0 rfl) ?_
  refine lv_bipush (v := 96) hx₀ hb dX12_init_83 (by decide +kernel) ?_
  refine k_newaI (N' := 96) hx₀ hb (hts (.arrayClass .int) wd_44) hK hP hD hS hA (by decide +kernel) (by decide +kernel) (by decide +kernel) (by decide +kernel) (by decide +kernel) dX12_init_85 (fun qa_11 H hP hD hS => ?_)
  replace hP := k_w2 (wt := [(hm, .inr (11, [.ref qa_1, .ref qa_2, .ref qa_3, .ref qa_4, .int 0, .ref qa_5, .ref qa_6, .int 0, .ref qa_7, .int 0, .ref qa_8, .int 0, .ref qa_9, .int 0, .ref qa_10, .int 0, .null, .int 0, .int 0, .int 0, .int 0, .int 0, .int 0, .null, .null, .null, .int 0, .null, .null, .int 0])), (kAI qa_1 cI 4 (fun _ => 0)), (kAI qa_2 cI 4 (fun _ => 0)), (kAI qa_3 cI 240 (fun _ => 0)), (kAI qa_4 cI 60 (fun _ => 0)), (kAI qa_5 cI 120 (fun _ => 0)), (kAI qa_6 cI 3 (fun _ => 0)), (kAI qa_7 cI 24 (fun _ => 0)), (kAI qa_8 cI 32 (fun _ => 0)), (kAI qa_9 cI 16 (fun _ => 0)), (kAI qa_10 cI 32 (fun _ => 0)), (kAI qa_11 cI 96 (fun _ => 0))]) hP hD rfl
  replace hD := hP.2
  replace hP := hP.1
  refine W.widen (k := 11) (n := 631) (by omega) (by omega) ?_
  refine va_putF (D := (dC, dI)) (ci := 11) (v := .ref qa_11) (ty := .array .int) (C := RX12) (T := TX12) (N := 30) hx₀ hb hts inlX12 tyX12 tyX12_ok nmX12 hown hK hP hD hS 0 rfl rfl 16 (by decide) (hts (.fieldLink RX12 40 "BittenStickModel" "told" "[I") wd_125) (fun _ h9 => h9) rfl hin rfl (by decide +kernel) rfl rfl (Nat.le_of_ble_eq_true rfl) dX12_init_87 ?_
  clear hP hD hS
  intro H locs hP hD hS
  replace hP := k_w2 (wt := [(hm, .inr (11, [.ref qa_1, .ref qa_2, .ref qa_3, .ref qa_4, .int 0, .ref qa_5, .ref qa_6, .int 0, .ref qa_7, .int 0, .ref qa_8, .int 0, .ref qa_9, .int 0, .ref qa_10, .int 0, .ref qa_11, .int 0, .int 0, .int 0, .int 0, .int 0, .int 0, .null, .null, .null, .int 0, .null, .null, .int 0])), (kAI qa_1 cI 4 (fun _ => 0)), (kAI qa_2 cI 4 (fun _ => 0)), (kAI qa_3 cI 240 (fun _ => 0)), (kAI qa_4 cI 60 (fun _ => 0)), (kAI qa_5 cI 120 (fun _ => 0)), (kAI qa_6 cI 3 (fun _ => 0)), (kAI qa_7 cI 24 (fun _ => 0)), (kAI qa_8 cI 32 (fun _ => 0)), (kAI qa_9 cI 16 (fun _ => 0)), (kAI qa_10 cI 32 (fun _ => 0)), (kAI qa_11 cI 96 (fun _ => 0))]) hP hD rfl
  replace hD := hP.2
  replace hP := hP.1
  refine lv_aload_n hx₀ hb dX12_init_90 rfl (lv_at hl 0 rfl) ?_
  refine lv_iconst (v := 2) hx₀ hb dX12_init_91 (by decide +kernel) ?_
  refine k_newaI (N' := 2) hx₀ hb (hts (.arrayClass .int) wd_44) hK hP hD hS hA (by decide +kernel) (by decide +kernel) (by decide +kernel) (by decide +kernel) (by decide +kernel) dX12_init_92 (fun qa_12 H hP hD hS => ?_)
  replace hP := k_w2 (wt := [(hm, .inr (11, [.ref qa_1, .ref qa_2, .ref qa_3, .ref qa_4, .int 0, .ref qa_5, .ref qa_6, .int 0, .ref qa_7, .int 0, .ref qa_8, .int 0, .ref qa_9, .int 0, .ref qa_10, .int 0, .ref qa_11, .int 0, .int 0, .int 0, .int 0, .int 0, .int 0, .null, .null, .null, .int 0, .null, .null, .int 0])), (kAI qa_1 cI 4 (fun _ => 0)), (kAI qa_2 cI 4 (fun _ => 0)), (kAI qa_3 cI 240 (fun _ => 0)), (kAI qa_4 cI 60 (fun _ => 0)), (kAI qa_5 cI 120 (fun _ => 0)), (kAI qa_6 cI 3 (fun _ => 0)), (kAI qa_7 cI 24 (fun _ => 0)), (kAI qa_8 cI 32 (fun _ => 0)), (kAI qa_9 cI 16 (fun _ => 0)), (kAI qa_10 cI 32 (fun _ => 0)), (kAI qa_11 cI 96 (fun _ => 0)), (kAI qa_12 cI 2 (fun _ => 0))]) hP hD rfl
  replace hD := hP.2
  replace hP := hP.1
  refine W.widen (k := 12) (n := 633) (by omega) (by omega) ?_
  refine va_putF (D := (dC, dI)) (ci := 11) (v := .ref qa_12) (ty := .array .int) (C := RX12) (T := TX12) (N := 30) hx₀ hb hts inlX12 tyX12 tyX12_ok nmX12 hown hK hP hD hS 0 rfl rfl 23 (by decide) (hts (.fieldLink RX12 43 "BittenStickModel" "pair" "[I") wd_126) (fun _ h9 => h9) rfl hin rfl (by decide +kernel) rfl rfl (Nat.le_of_ble_eq_true rfl) dX12_init_94 ?_
  clear hP hD hS
  intro H locs hP hD hS
  replace hP := k_w2 (wt := [(hm, .inr (11, [.ref qa_1, .ref qa_2, .ref qa_3, .ref qa_4, .int 0, .ref qa_5, .ref qa_6, .int 0, .ref qa_7, .int 0, .ref qa_8, .int 0, .ref qa_9, .int 0, .ref qa_10, .int 0, .ref qa_11, .int 0, .int 0, .int 0, .int 0, .int 0, .int 0, .ref qa_12, .null, .null, .int 0, .null, .null, .int 0])), (kAI qa_1 cI 4 (fun _ => 0)), (kAI qa_2 cI 4 (fun _ => 0)), (kAI qa_3 cI 240 (fun _ => 0)), (kAI qa_4 cI 60 (fun _ => 0)), (kAI qa_5 cI 120 (fun _ => 0)), (kAI qa_6 cI 3 (fun _ => 0)), (kAI qa_7 cI 24 (fun _ => 0)), (kAI qa_8 cI 32 (fun _ => 0)), (kAI qa_9 cI 16 (fun _ => 0)), (kAI qa_10 cI 32 (fun _ => 0)), (kAI qa_11 cI 96 (fun _ => 0)), (kAI qa_12 cI 2 (fun _ => 0))]) hP hD rfl
  replace hD := hP.2
  replace hP := hP.1
  refine lv_aload_n hx₀ hb dX12_init_97 rfl (lv_at hl 0 rfl) ?_
  refine lv_iconst (v := 2) hx₀ hb dX12_init_98 (by decide +kernel) ?_
  refine k_newaI (N' := 2) hx₀ hb (hts (.arrayClass .int) wd_44) hK hP hD hS hA (by decide +kernel) (by decide +kernel) (by decide +kernel) (by decide +kernel) (by decide +kernel) dX12_init_99 (fun qa_13 H hP hD hS => ?_)
  replace hP := k_w2 (wt := [(hm, .inr (11, [.ref qa_1, .ref qa_2, .ref qa_3, .ref qa_4, .int 0, .ref qa_5, .ref qa_6, .int 0, .ref qa_7, .int 0, .ref qa_8, .int 0, .ref qa_9, .int 0, .ref qa_10, .int 0, .ref qa_11, .int 0, .int 0, .int 0, .int 0, .int 0, .int 0, .ref qa_12, .null, .null, .int 0, .null, .null, .int 0])), (kAI qa_1 cI 4 (fun _ => 0)), (kAI qa_2 cI 4 (fun _ => 0)), (kAI qa_3 cI 240 (fun _ => 0)), (kAI qa_4 cI 60 (fun _ => 0)), (kAI qa_5 cI 120 (fun _ => 0)), (kAI qa_6 cI 3 (fun _ => 0)), (kAI qa_7 cI 24 (fun _ => 0)), (kAI qa_8 cI 32 (fun _ => 0)), (kAI qa_9 cI 16 (fun _ => 0)), (kAI qa_10 cI 32 (fun _ => 0)), (kAI qa_11 cI 96 (fun _ => 0)), (kAI qa_12 cI 2 (fun _ => 0)), (kAI qa_13 cI 2 (fun _ => 0))]) hP hD rfl
  replace hD := hP.2
  replace hP := hP.1
  refine W.widen (k := 13) (n := 635) (by omega) (by omega) ?_
  refine va_putF (D := (dC, dI)) (ci := 11) (v := .ref qa_13) (ty := .array .int) (C := RX12) (T := TX12) (N := 30) hx₀ hb hts inlX12 tyX12 tyX12_ok nmX12 hown hK hP hD hS 0 rfl rfl 24 (by decide) (hts (.fieldLink RX12 46 "BittenStickModel" "strong" "[I") wd_127) (fun _ h9 => h9) rfl hin rfl (by decide +kernel) rfl rfl (Nat.le_of_ble_eq_true rfl) dX12_init_101 ?_
  clear hP hD hS
  intro H locs hP hD hS
  replace hP := k_w2 (wt := [(hm, .inr (11, [.ref qa_1, .ref qa_2, .ref qa_3, .ref qa_4, .int 0, .ref qa_5, .ref qa_6, .int 0, .ref qa_7, .int 0, .ref qa_8, .int 0, .ref qa_9, .int 0, .ref qa_10, .int 0, .ref qa_11, .int 0, .int 0, .int 0, .int 0, .int 0, .int 0, .ref qa_12, .ref qa_13, .null, .int 0, .null, .null, .int 0])), (kAI qa_1 cI 4 (fun _ => 0)), (kAI qa_2 cI 4 (fun _ => 0)), (kAI qa_3 cI 240 (fun _ => 0)), (kAI qa_4 cI 60 (fun _ => 0)), (kAI qa_5 cI 120 (fun _ => 0)), (kAI qa_6 cI 3 (fun _ => 0)), (kAI qa_7 cI 24 (fun _ => 0)), (kAI qa_8 cI 32 (fun _ => 0)), (kAI qa_9 cI 16 (fun _ => 0)), (kAI qa_10 cI 32 (fun _ => 0)), (kAI qa_11 cI 96 (fun _ => 0)), (kAI qa_12 cI 2 (fun _ => 0)), (kAI qa_13 cI 2 (fun _ => 0))]) hP hD rfl
  replace hD := hP.2
  replace hP := hP.1
  refine lv_aload_n hx₀ hb dX12_init_104 rfl (lv_at hl 0 rfl) ?_
  refine lv_iconst (v := 2) hx₀ hb dX12_init_105 (by decide +kernel) ?_
  refine k_newaI (N' := 2) hx₀ hb (hts (.arrayClass .int) wd_44) hK hP hD hS hA (by decide +kernel) (by decide +kernel) (by decide +kernel) (by decide +kernel) (by decide +kernel) dX12_init_106 (fun qa_14 H hP hD hS => ?_)
  replace hP := k_w2 (wt := [(hm, .inr (11, [.ref qa_1, .ref qa_2, .ref qa_3, .ref qa_4, .int 0, .ref qa_5, .ref qa_6, .int 0, .ref qa_7, .int 0, .ref qa_8, .int 0, .ref qa_9, .int 0, .ref qa_10, .int 0, .ref qa_11, .int 0, .int 0, .int 0, .int 0, .int 0, .int 0, .ref qa_12, .ref qa_13, .null, .int 0, .null, .null, .int 0])), (kAI qa_1 cI 4 (fun _ => 0)), (kAI qa_2 cI 4 (fun _ => 0)), (kAI qa_3 cI 240 (fun _ => 0)), (kAI qa_4 cI 60 (fun _ => 0)), (kAI qa_5 cI 120 (fun _ => 0)), (kAI qa_6 cI 3 (fun _ => 0)), (kAI qa_7 cI 24 (fun _ => 0)), (kAI qa_8 cI 32 (fun _ => 0)), (kAI qa_9 cI 16 (fun _ => 0)), (kAI qa_10 cI 32 (fun _ => 0)), (kAI qa_11 cI 96 (fun _ => 0)), (kAI qa_12 cI 2 (fun _ => 0)), (kAI qa_13 cI 2 (fun _ => 0)), (kAI qa_14 cI 2 (fun _ => 0))]) hP hD rfl
  replace hD := hP.2
  replace hP := hP.1
  refine W.widen (k := 14) (n := 637) (by omega) (by omega) ?_
  refine va_putF (D := (dC, dI)) (ci := 11) (v := .ref qa_14) (ty := .array .int) (C := RX12) (T := TX12) (N := 30) hx₀ hb hts inlX12 tyX12 tyX12_ok nmX12 hown hK hP hD hS 0 rfl rfl 25 (by decide) (hts (.fieldLink RX12 49 "BittenStickModel" "flown" "[I") wd_128) (fun _ h9 => h9) rfl hin rfl (by decide +kernel) rfl rfl (Nat.le_of_ble_eq_true rfl) dX12_init_108 ?_
  clear hP hD hS
  intro H locs hP hD hS
  replace hP := k_w2 (wt := [(hm, .inr (11, [.ref qa_1, .ref qa_2, .ref qa_3, .ref qa_4, .int 0, .ref qa_5, .ref qa_6, .int 0, .ref qa_7, .int 0, .ref qa_8, .int 0, .ref qa_9, .int 0, .ref qa_10, .int 0, .ref qa_11, .int 0, .int 0, .int 0, .int 0, .int 0, .int 0, .ref qa_12, .ref qa_13, .ref qa_14, .int 0, .null, .null, .int 0])), (kAI qa_1 cI 4 (fun _ => 0)), (kAI qa_2 cI 4 (fun _ => 0)), (kAI qa_3 cI 240 (fun _ => 0)), (kAI qa_4 cI 60 (fun _ => 0)), (kAI qa_5 cI 120 (fun _ => 0)), (kAI qa_6 cI 3 (fun _ => 0)), (kAI qa_7 cI 24 (fun _ => 0)), (kAI qa_8 cI 32 (fun _ => 0)), (kAI qa_9 cI 16 (fun _ => 0)), (kAI qa_10 cI 32 (fun _ => 0)), (kAI qa_11 cI 96 (fun _ => 0)), (kAI qa_12 cI 2 (fun _ => 0)), (kAI qa_13 cI 2 (fun _ => 0)), (kAI qa_14 cI 2 (fun _ => 0))]) hP hD rfl
  replace hD := hP.2
  replace hP := hP.1
  refine lv_aload_n hx₀ hb dX12_init_111 rfl (lv_at hl 0 rfl) ?_
  refine lv_bipush (v := 16) hx₀ hb dX12_init_112 (by decide +kernel) ?_
  refine k_newaI (N' := 16) hx₀ hb (hts (.arrayClass .int) wd_44) hK hP hD hS hA (by decide +kernel) (by decide +kernel) (by decide +kernel) (by decide +kernel) (by decide +kernel) dX12_init_114 (fun qa_15 H hP hD hS => ?_)
  replace hP := k_w2 (wt := [(hm, .inr (11, [.ref qa_1, .ref qa_2, .ref qa_3, .ref qa_4, .int 0, .ref qa_5, .ref qa_6, .int 0, .ref qa_7, .int 0, .ref qa_8, .int 0, .ref qa_9, .int 0, .ref qa_10, .int 0, .ref qa_11, .int 0, .int 0, .int 0, .int 0, .int 0, .int 0, .ref qa_12, .ref qa_13, .ref qa_14, .int 0, .null, .null, .int 0])), (kAI qa_1 cI 4 (fun _ => 0)), (kAI qa_2 cI 4 (fun _ => 0)), (kAI qa_3 cI 240 (fun _ => 0)), (kAI qa_4 cI 60 (fun _ => 0)), (kAI qa_5 cI 120 (fun _ => 0)), (kAI qa_6 cI 3 (fun _ => 0)), (kAI qa_7 cI 24 (fun _ => 0)), (kAI qa_8 cI 32 (fun _ => 0)), (kAI qa_9 cI 16 (fun _ => 0)), (kAI qa_10 cI 32 (fun _ => 0)), (kAI qa_11 cI 96 (fun _ => 0)), (kAI qa_12 cI 2 (fun _ => 0)), (kAI qa_13 cI 2 (fun _ => 0)), (kAI qa_14 cI 2 (fun _ => 0)), (kAI qa_15 cI 16 (fun _ => 0))]) hP hD rfl
  replace hD := hP.2
  replace hP := hP.1
  refine W.widen (k := 15) (n := 653) (by omega) (by omega) ?_
  refine va_putF (D := (dC, dI)) (ci := 11) (v := .ref qa_15) (ty := .array .int) (C := RX12) (T := TX12) (N := 30) hx₀ hb hts inlX12 tyX12 tyX12_ok nmX12 hown hK hP hD hS 0 rfl rfl 27 (by decide) (hts (.fieldLink RX12 52 "BittenStickModel" "sight" "[I") wd_129) (fun _ h9 => h9) rfl hin rfl (by decide +kernel) rfl rfl (Nat.le_of_ble_eq_true rfl) dX12_init_116 ?_
  clear hP hD hS
  intro H locs hP hD hS
  replace hP := k_w2 (wt := [(hm, .inr (11, [.ref qa_1, .ref qa_2, .ref qa_3, .ref qa_4, .int 0, .ref qa_5, .ref qa_6, .int 0, .ref qa_7, .int 0, .ref qa_8, .int 0, .ref qa_9, .int 0, .ref qa_10, .int 0, .ref qa_11, .int 0, .int 0, .int 0, .int 0, .int 0, .int 0, .ref qa_12, .ref qa_13, .ref qa_14, .int 0, .ref qa_15, .null, .int 0])), (kAI qa_1 cI 4 (fun _ => 0)), (kAI qa_2 cI 4 (fun _ => 0)), (kAI qa_3 cI 240 (fun _ => 0)), (kAI qa_4 cI 60 (fun _ => 0)), (kAI qa_5 cI 120 (fun _ => 0)), (kAI qa_6 cI 3 (fun _ => 0)), (kAI qa_7 cI 24 (fun _ => 0)), (kAI qa_8 cI 32 (fun _ => 0)), (kAI qa_9 cI 16 (fun _ => 0)), (kAI qa_10 cI 32 (fun _ => 0)), (kAI qa_11 cI 96 (fun _ => 0)), (kAI qa_12 cI 2 (fun _ => 0)), (kAI qa_13 cI 2 (fun _ => 0)), (kAI qa_14 cI 2 (fun _ => 0)), (kAI qa_15 cI 16 (fun _ => 0))]) hP hD rfl
  replace hD := hP.2
  replace hP := hP.1
  refine lv_aload_n hx₀ hb dX12_init_119 rfl (lv_at hl 0 rfl) ?_
  refine lv_bipush (v := 25) hx₀ hb dX12_init_120 (by decide +kernel) ?_
  refine k_newaI (N' := 25) hx₀ hb (hts (.arrayClass .int) wd_44) hK hP hD hS hA (by decide +kernel) (by decide +kernel) (by decide +kernel) (by decide +kernel) (by decide +kernel) dX12_init_122 (fun qa_16 H hP hD hS => ?_)
  replace hP := k_w2 (wt := [(hm, .inr (11, [.ref qa_1, .ref qa_2, .ref qa_3, .ref qa_4, .int 0, .ref qa_5, .ref qa_6, .int 0, .ref qa_7, .int 0, .ref qa_8, .int 0, .ref qa_9, .int 0, .ref qa_10, .int 0, .ref qa_11, .int 0, .int 0, .int 0, .int 0, .int 0, .int 0, .ref qa_12, .ref qa_13, .ref qa_14, .int 0, .ref qa_15, .null, .int 0])), (kAI qa_1 cI 4 (fun _ => 0)), (kAI qa_2 cI 4 (fun _ => 0)), (kAI qa_3 cI 240 (fun _ => 0)), (kAI qa_4 cI 60 (fun _ => 0)), (kAI qa_5 cI 120 (fun _ => 0)), (kAI qa_6 cI 3 (fun _ => 0)), (kAI qa_7 cI 24 (fun _ => 0)), (kAI qa_8 cI 32 (fun _ => 0)), (kAI qa_9 cI 16 (fun _ => 0)), (kAI qa_10 cI 32 (fun _ => 0)), (kAI qa_11 cI 96 (fun _ => 0)), (kAI qa_12 cI 2 (fun _ => 0)), (kAI qa_13 cI 2 (fun _ => 0)), (kAI qa_14 cI 2 (fun _ => 0)), (kAI qa_15 cI 16 (fun _ => 0)), (kAI qa_16 cI 25 (fun _ => 0))]) hP hD rfl
  replace hD := hP.2
  replace hP := hP.1
  refine W.widen (k := 16) (n := 678) (by omega) (by omega) ?_
  refine va_putF (D := (dC, dI)) (ci := 11) (v := .ref qa_16) (ty := .array .int) (C := RX12) (T := TX12) (N := 30) hx₀ hb hts inlX12 tyX12 tyX12_ok nmX12 hown hK hP hD hS 0 rfl rfl 28 (by decide) (hts (.fieldLink RX12 55 "BittenStickModel" "alike" "[I") wd_130) (fun _ h9 => h9) rfl hin rfl (by decide +kernel) rfl rfl (Nat.le_of_ble_eq_true rfl) dX12_init_124 ?_
  clear hP hD hS
  intro H locs hP hD hS
  replace hP := k_w2 (wt := [(kX12 hm qa_1 qa_2 qa_3 qa_4 0 qa_5 qa_6 0 qa_7 0 qa_8 0 qa_9 0 qa_10 0 qa_11 0 0 0 0 0 0 qa_12 qa_13 qa_14 0 qa_15 qa_16 0), (kAI qa_1 cI 4 (fun _ => 0)), (kAI qa_2 cI 4 (fun _ => 0)), (kAI qa_3 cI 240 (fun _ => 0)), (kAI qa_4 cI 60 (fun _ => 0)), (kAI qa_5 cI 120 (fun _ => 0)), (kAI qa_6 cI 3 (fun _ => 0)), (kAI qa_7 cI 24 (fun _ => 0)), (kAI qa_8 cI 32 (fun _ => 0)), (kAI qa_9 cI 16 (fun _ => 0)), (kAI qa_10 cI 32 (fun _ => 0)), (kAI qa_11 cI 96 (fun _ => 0)), (kAI qa_12 cI 2 (fun _ => 0)), (kAI qa_13 cI 2 (fun _ => 0)), (kAI qa_14 cI 2 (fun _ => 0)), (kAI qa_15 cI 16 (fun _ => 0)), (kAI qa_16 cI 25 (fun _ => 0))]) hP hD rfl
  replace hD := hP.2
  replace hP := hP.1
  refine lv_iconst (v := 0) hx₀ hb dX12_init_127 (by decide +kernel) ?_
  refine lv_istore_n (lv' := [(1, .int 0), (0, .ref hm)]) hx₀ hb dX12_init_128 rfl hl (by decide) rfl (fun ls hl => ?_)
  refine lv_iload_n hx₀ hb dX12_init_129 rfl (lv_at hl 0 rfl) ?_
  refine lv_iconst (v := 4) hx₀ hb dX12_init_130 (by decide +kernel) ?_
  refine lv_icmp_ge (tgt := 147) hx₀ hb dX12_init_131 (by decide) (fun c9 => absurd c9 (by decide +kernel)) (fun _ => ?_)
  refine lv_aload_n hx₀ hb dX12_init_134 rfl (lv_at hl 1 rfl) ?_
  refine va_get (D := (dC, dI)) (ci := 11) (v := .ref qa_1) (C := RX12) (T := TX12) (N := 30) hx₀ hb hts inlX12 hown hK hP 0 rfl rfl 0 (by decide) (hts (.fieldLink RX12 7 "BittenStickModel" "forms" "[I") wd_115) (fun _ h9 => h9) rfl dX12_init_135 ?_
  refine lv_iload_n hx₀ hb dX12_init_138 rfl (lv_at hl 0 rfl) ?_
  refine lv_iconst (v := (-1)) hx₀ hb dX12_init_139 (by decide +kernel) ?_
  refine va_iast hx₀ hb hK hP hD hS 1 0 rfl rfl (by unfold vp_in; decide +kernel) dX12_init_140 ?_
  clear hP hD hS
  intro H locs hP hD hS
  replace hP := k_w2 (wt := [(kX12 hm qa_1 qa_2 qa_3 qa_4 0 qa_5 qa_6 0 qa_7 0 qa_8 0 qa_9 0 qa_10 0 qa_11 0 0 0 0 0 0 qa_12 qa_13 qa_14 0 qa_15 qa_16 0), (kAI qa_1 cI 4 (upd (fun _ => 0) (0 : Int32).toNatClampNeg (-1))), (kAI qa_2 cI 4 (fun _ => 0)), (kAI qa_3 cI 240 (fun _ => 0)), (kAI qa_4 cI 60 (fun _ => 0)), (kAI qa_5 cI 120 (fun _ => 0)), (kAI qa_6 cI 3 (fun _ => 0)), (kAI qa_7 cI 24 (fun _ => 0)), (kAI qa_8 cI 32 (fun _ => 0)), (kAI qa_9 cI 16 (fun _ => 0)), (kAI qa_10 cI 32 (fun _ => 0)), (kAI qa_11 cI 96 (fun _ => 0)), (kAI qa_12 cI 2 (fun _ => 0)), (kAI qa_13 cI 2 (fun _ => 0)), (kAI qa_14 cI 2 (fun _ => 0)), (kAI qa_15 cI 16 (fun _ => 0)), (kAI qa_16 cI 25 (fun _ => 0))]) hP hD rfl
  replace hD := hP.2
  replace hP := hP.1
  refine lv_iinc (v := 1) (lv' := [(1, .int 1), (0, .ref hm)]) hx₀ hb dX12_init_141 hl (k := 0) rfl (by decide +kernel) (by decide) rfl (fun ls hl => ?_)
  refine lv_goto (tgt := 129) hx₀ hb dX12_init_144 (by decide) ?_
  refine lv_iload_n hx₀ hb dX12_init_129 rfl (lv_at hl 0 rfl) ?_
  refine lv_iconst (v := 4) hx₀ hb dX12_init_130 (by decide +kernel) ?_
  refine lv_icmp_ge (tgt := 147) hx₀ hb dX12_init_131 (by decide) (fun c9 => absurd c9 (by decide +kernel)) (fun _ => ?_)
  refine lv_aload_n hx₀ hb dX12_init_134 rfl (lv_at hl 1 rfl) ?_
  refine va_get (D := (dC, dI)) (ci := 11) (v := .ref qa_1) (C := RX12) (T := TX12) (N := 30) hx₀ hb hts inlX12 hown hK hP 0 rfl rfl 0 (by decide) (hts (.fieldLink RX12 7 "BittenStickModel" "forms" "[I") wd_115) (fun _ h9 => h9) rfl dX12_init_135 ?_
  refine lv_iload_n hx₀ hb dX12_init_138 rfl (lv_at hl 0 rfl) ?_
  refine lv_iconst (v := (-1)) hx₀ hb dX12_init_139 (by decide +kernel) ?_
  refine va_iast hx₀ hb hK hP hD hS 1 0 rfl rfl (by unfold vp_in; decide +kernel) dX12_init_140 ?_
  clear hP hD hS
  intro H locs hP hD hS
  replace hP := k_w2 (wt := [(kX12 hm qa_1 qa_2 qa_3 qa_4 0 qa_5 qa_6 0 qa_7 0 qa_8 0 qa_9 0 qa_10 0 qa_11 0 0 0 0 0 0 qa_12 qa_13 qa_14 0 qa_15 qa_16 0), (kAI qa_1 cI 4 (upd (upd (fun _ => 0) (0 : Int32).toNatClampNeg (-1)) (1 : Int32).toNatClampNeg (-1))), (kAI qa_2 cI 4 (fun _ => 0)), (kAI qa_3 cI 240 (fun _ => 0)), (kAI qa_4 cI 60 (fun _ => 0)), (kAI qa_5 cI 120 (fun _ => 0)), (kAI qa_6 cI 3 (fun _ => 0)), (kAI qa_7 cI 24 (fun _ => 0)), (kAI qa_8 cI 32 (fun _ => 0)), (kAI qa_9 cI 16 (fun _ => 0)), (kAI qa_10 cI 32 (fun _ => 0)), (kAI qa_11 cI 96 (fun _ => 0)), (kAI qa_12 cI 2 (fun _ => 0)), (kAI qa_13 cI 2 (fun _ => 0)), (kAI qa_14 cI 2 (fun _ => 0)), (kAI qa_15 cI 16 (fun _ => 0)), (kAI qa_16 cI 25 (fun _ => 0))]) hP hD rfl
  replace hD := hP.2
  replace hP := hP.1
  refine lv_iinc (v := 2) (lv' := [(1, .int 2), (0, .ref hm)]) hx₀ hb dX12_init_141 hl (k := 0) rfl (by decide +kernel) (by decide) rfl (fun ls hl => ?_)
  refine lv_goto (tgt := 129) hx₀ hb dX12_init_144 (by decide) ?_
  refine lv_iload_n hx₀ hb dX12_init_129 rfl (lv_at hl 0 rfl) ?_
  refine lv_iconst (v := 4) hx₀ hb dX12_init_130 (by decide +kernel) ?_
  refine lv_icmp_ge (tgt := 147) hx₀ hb dX12_init_131 (by decide) (fun c9 => absurd c9 (by decide +kernel)) (fun _ => ?_)
  refine lv_aload_n hx₀ hb dX12_init_134 rfl (lv_at hl 1 rfl) ?_
  refine va_get (D := (dC, dI)) (ci := 11) (v := .ref qa_1) (C := RX12) (T := TX12) (N := 30) hx₀ hb hts inlX12 hown hK hP 0 rfl rfl 0 (by decide) (hts (.fieldLink RX12 7 "BittenStickModel" "forms" "[I") wd_115) (fun _ h9 => h9) rfl dX12_init_135 ?_
  refine lv_iload_n hx₀ hb dX12_init_138 rfl (lv_at hl 0 rfl) ?_
  refine lv_iconst (v := (-1)) hx₀ hb dX12_init_139 (by decide +kernel) ?_
  refine va_iast hx₀ hb hK hP hD hS 1 0 rfl rfl (by unfold vp_in; decide +kernel) dX12_init_140 ?_
  clear hP hD hS
  intro H locs hP hD hS
  replace hP := k_w2 (wt := [(kX12 hm qa_1 qa_2 qa_3 qa_4 0 qa_5 qa_6 0 qa_7 0 qa_8 0 qa_9 0 qa_10 0 qa_11 0 0 0 0 0 0 qa_12 qa_13 qa_14 0 qa_15 qa_16 0), (kAI qa_1 cI 4 (upd (upd (upd (fun _ => 0) (0 : Int32).toNatClampNeg (-1)) (1 : Int32).toNatClampNeg (-1)) (2 : Int32).toNatClampNeg (-1))), (kAI qa_2 cI 4 (fun _ => 0)), (kAI qa_3 cI 240 (fun _ => 0)), (kAI qa_4 cI 60 (fun _ => 0)), (kAI qa_5 cI 120 (fun _ => 0)), (kAI qa_6 cI 3 (fun _ => 0)), (kAI qa_7 cI 24 (fun _ => 0)), (kAI qa_8 cI 32 (fun _ => 0)), (kAI qa_9 cI 16 (fun _ => 0)), (kAI qa_10 cI 32 (fun _ => 0)), (kAI qa_11 cI 96 (fun _ => 0)), (kAI qa_12 cI 2 (fun _ => 0)), (kAI qa_13 cI 2 (fun _ => 0)), (kAI qa_14 cI 2 (fun _ => 0)), (kAI qa_15 cI 16 (fun _ => 0)), (kAI qa_16 cI 25 (fun _ => 0))]) hP hD rfl
  replace hD := hP.2
  replace hP := hP.1
  refine lv_iinc (v := 3) (lv' := [(1, .int 3), (0, .ref hm)]) hx₀ hb dX12_init_141 hl (k := 0) rfl (by decide +kernel) (by decide) rfl (fun ls hl => ?_)
  refine lv_goto (tgt := 129) hx₀ hb dX12_init_144 (by decide) ?_
  refine lv_iload_n hx₀ hb dX12_init_129 rfl (lv_at hl 0 rfl) ?_
  refine lv_iconst (v := 4) hx₀ hb dX12_init_130 (by decide +kernel) ?_
  refine lv_icmp_ge (tgt := 147) hx₀ hb dX12_init_131 (by decide) (fun c9 => absurd c9 (by decide +kernel)) (fun _ => ?_)
  refine lv_aload_n hx₀ hb dX12_init_134 rfl (lv_at hl 1 rfl) ?_
  refine va_get (D := (dC, dI)) (ci := 11) (v := .ref qa_1) (C := RX12) (T := TX12) (N := 30) hx₀ hb hts inlX12 hown hK hP 0 rfl rfl 0 (by decide) (hts (.fieldLink RX12 7 "BittenStickModel" "forms" "[I") wd_115) (fun _ h9 => h9) rfl dX12_init_135 ?_
  refine lv_iload_n hx₀ hb dX12_init_138 rfl (lv_at hl 0 rfl) ?_
  refine lv_iconst (v := (-1)) hx₀ hb dX12_init_139 (by decide +kernel) ?_
  refine va_iast hx₀ hb hK hP hD hS 1 0 rfl rfl (by unfold vp_in; decide +kernel) dX12_init_140 ?_
  clear hP hD hS
  intro H locs hP hD hS
  replace hP := k_w2 (wt := [(kX12 hm qa_1 qa_2 qa_3 qa_4 0 qa_5 qa_6 0 qa_7 0 qa_8 0 qa_9 0 qa_10 0 qa_11 0 0 0 0 0 0 qa_12 qa_13 qa_14 0 qa_15 qa_16 0), (kAI qa_1 cI 4 (upd (upd (upd (upd (fun _ => 0) (0 : Int32).toNatClampNeg (-1)) (1 : Int32).toNatClampNeg (-1)) (2 : Int32).toNatClampNeg (-1)) (3 : Int32).toNatClampNeg (-1))), (kAI qa_2 cI 4 (fun _ => 0)), (kAI qa_3 cI 240 (fun _ => 0)), (kAI qa_4 cI 60 (fun _ => 0)), (kAI qa_5 cI 120 (fun _ => 0)), (kAI qa_6 cI 3 (fun _ => 0)), (kAI qa_7 cI 24 (fun _ => 0)), (kAI qa_8 cI 32 (fun _ => 0)), (kAI qa_9 cI 16 (fun _ => 0)), (kAI qa_10 cI 32 (fun _ => 0)), (kAI qa_11 cI 96 (fun _ => 0)), (kAI qa_12 cI 2 (fun _ => 0)), (kAI qa_13 cI 2 (fun _ => 0)), (kAI qa_14 cI 2 (fun _ => 0)), (kAI qa_15 cI 16 (fun _ => 0)), (kAI qa_16 cI 25 (fun _ => 0))]) hP hD rfl
  replace hD := hP.2
  replace hP := hP.1
  refine lv_iinc (v := 4) (lv' := [(1, .int 4), (0, .ref hm)]) hx₀ hb dX12_init_141 hl (k := 0) rfl (by decide +kernel) (by decide) rfl (fun ls hl => ?_)
  refine lv_goto (tgt := 129) hx₀ hb dX12_init_144 (by decide) ?_
  refine lv_iload_n hx₀ hb dX12_init_129 rfl (lv_at hl 0 rfl) ?_
  refine lv_iconst (v := 4) hx₀ hb dX12_init_130 (by decide +kernel) ?_
  refine lv_icmp_ge (tgt := 147) hx₀ hb dX12_init_131 (by decide) (fun _ => ?_) (fun c9 => absurd (by decide +kernel) c9)
  refine lv_aload_n hx₀ hb dX12_init_147 rfl (lv_at hl 1 rfl) ?_
  refine lv_ldc (v := 16777215) hx₀ hb hown (hts (.constant RX12 58 (16777215)) wd_131) dX12_init_148 ?_
  refine va_put (D := (dC, dI)) (ci := 11) (v := .int 16777215) (ty := .int) (C := RX12) (T := TX12) (N := 30) hx₀ hb hts inlX12 tyX12 tyX12_ok nmX12 hown hK hP hD hS 0 rfl rfl 20 (by decide) (hts (.fieldLink RX12 59 "BittenStickModel" "calling" "I") wd_132) (fun _ h9 => h9) rfl (by decide +kernel) rfl rfl (Nat.le_of_ble_eq_true rfl) dX12_init_150 ?_
  clear hP hD hS
  intro H locs hP hD hS
  replace hP := k_w2 (wt := [(kX12 hm qa_1 qa_2 qa_3 qa_4 0 qa_5 qa_6 0 qa_7 0 qa_8 0 qa_9 0 qa_10 0 qa_11 0 0 0 16777215 0 0 qa_12 qa_13 qa_14 0 qa_15 qa_16 0), (kAI qa_1 cI 4 (upd (upd (upd (upd (fun _ => 0) (0 : Int32).toNatClampNeg (-1)) (1 : Int32).toNatClampNeg (-1)) (2 : Int32).toNatClampNeg (-1)) (3 : Int32).toNatClampNeg (-1))), (kAI qa_2 cI 4 (fun _ => 0)), (kAI qa_3 cI 240 (fun _ => 0)), (kAI qa_4 cI 60 (fun _ => 0)), (kAI qa_5 cI 120 (fun _ => 0)), (kAI qa_6 cI 3 (fun _ => 0)), (kAI qa_7 cI 24 (fun _ => 0)), (kAI qa_8 cI 32 (fun _ => 0)), (kAI qa_9 cI 16 (fun _ => 0)), (kAI qa_10 cI 32 (fun _ => 0)), (kAI qa_11 cI 96 (fun _ => 0)), (kAI qa_12 cI 2 (fun _ => 0)), (kAI qa_13 cI 2 (fun _ => 0)), (kAI qa_14 cI 2 (fun _ => 0)), (kAI qa_15 cI 16 (fun _ => 0)), (kAI qa_16 cI 25 (fun _ => 0))]) hP hD rfl
  replace hD := hP.2
  replace hP := hP.1
  refine W.widen (k := 16) (n := 678) (by decide +kernel) (by decide +kernel) ?_
  replace hP := k_w2 (wt := [(kX12 hm qa_1 qa_2 qa_3 qa_4 0 qa_5 qa_6 0 qa_7 0 qa_8 0 qa_9 0 qa_10 0 qa_11 0 0 0 16777215 0 0 qa_12 qa_13 qa_14 0 qa_15 qa_16 0), (kAI qa_1 cI 4 fFo), (kAI qa_2 cI 4 (fun _ => 0)), (kAI qa_3 cI 240 (fun _ => 0)), (kAI qa_4 cI 60 (fun _ => 0)), (kAI qa_5 cI 120 (fun _ => 0)), (kAI qa_6 cI 3 (fun _ => 0)), (kAI qa_7 cI 24 (fun _ => 0)), (kAI qa_8 cI 32 (fun _ => 0)), (kAI qa_9 cI 16 (fun _ => 0)), (kAI qa_10 cI 32 (fun _ => 0)), (kAI qa_11 cI 96 (fun _ => 0)), (kAI qa_12 cI 2 (fun _ => 0)), (kAI qa_13 cI 2 (fun _ => 0)), (kAI qa_14 cI 2 (fun _ => 0)), (kAI qa_15 cI 16 (fun _ => 0)), (kAI qa_16 cI 25 (fun _ => 0))]) hP hD rfl
  replace hD := hP.2
  replace hP := hP.1
  obtain ⟨hP9, hD9⟩ := k_c2 (wc := [(kX12 hm qa_1 qa_2 qa_3 qa_4 0 qa_5 qa_6 0 qa_7 0 qa_8 0 qa_9 0 qa_10 0 qa_11 0 0 0 16777215 0 0 qa_12 qa_13 qa_14 0 qa_15 qa_16 0), (kAI qa_1 cI 4 fFo), (kAI qa_2 cI 4 (fun _ => 0)), (kAI qa_3 cI 240 (fun _ => 0)), (kAI qa_4 cI 60 (fun _ => 0)), (kAI qa_5 cI 120 (fun _ => 0)), (kAI qa_6 cI 3 (fun _ => 0)), (kAI qa_7 cI 24 (fun _ => 0)), (kAI qa_8 cI 32 (fun _ => 0)), (kAI qa_9 cI 16 (fun _ => 0)), (kAI qa_10 cI 32 (fun _ => 0)), (kAI qa_11 cI 96 (fun _ => 0)), (kAI qa_12 cI 2 (fun _ => 0)), (kAI qa_13 cI 2 (fun _ => 0)), (kAI qa_14 cI 2 (fun _ => 0)), (kAI qa_15 cI 16 (fun _ => 0)), (kAI qa_16 cI 25 (fun _ => 0))]) hP hD [0, 1, 2, 3, 4, 5, 6, 7, 8, 9, 10, 11, 12, 13, 14, 15, 16] (by decide +kernel) rfl
  exact W.vret hx₀ hb hr (fun t₀ ht hW => ⟨⟨(qa_1, qa_2, qa_3, qa_4, qa_5, qa_6, qa_7, qa_8, qa_9, qa_10, qa_11, qa_12, qa_13, qa_14, qa_15, qa_16), rfl, trivial, by rw [ht]; exact hP9, va_K.moved hW.alike hK, hD9⟩, hS.F ht⟩) hS.2.2 dX12_init_153
