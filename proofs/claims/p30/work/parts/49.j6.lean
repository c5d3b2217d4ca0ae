set_option maxHeartbeats 4000000 in
set_option maxRecDepth 100000 in
theorem j_bitCount (l : Launch) (dC : Nat → ClassId) (dI : Nat → Nat → Nat) (cI cJ cQ : ClassId) (sz : Nat) (b1 : Int32) : Met l yJ6_bitCount_0f7a4 (kW yJ6_bitCount_0f7a4 cJ6_bitCount_0f7a4 1 (some .int)) { frames := 0, cells := 0, slots := 0, locals := 0 } (kPre dC dI cI cJ cQ sz [.int b1] []) (va_Qi (fun (r : Int32) (u : Unit) => True) (fun (u : Unit) t₀ => kB dC dI cI cJ cQ (va_A [] sz) [] t₀) (va_A [] sz)) 0 0 (va_A [] sz) := by
  refine Met.ofW (cc := cJ6_bitCount_0f7a4) (maxL := 1) (ret := (some .int)) (by decide) rfl ?_
  intro p₀ e₀ s₀ m₀ args below meth c₀ s₁ B hml hv₀
  obtain ⟨rfl, hsz, hP, hK, hD0, hN⟩ := hv₀
  have hx₀ := B.exec
  have hb := B.bytes
  have hr := B.returns
  have hts := atoms_spec (ws := (kW yJ6_bitCount_0f7a4 cJ6_bitCount_0f7a4 1 (some .int))) B.pre
  have hts := fun w h => hts w (List.mem_cons_of_mem _ h)
  have hown : s₀.vm.findClass RJ6 = some m₀.cls := findClass_of_methodNamed B.named
  have hlocks := B.notSynchronized
  subst hsz
  have hD := hD0.self (sz := s₀.heap.size)
  generalize hAe : va_A [] s₀.heap.size = A at hD ⊢
  have hA : ∀ q : Nat, s₀.heap.size ≤ q → A q := fun q h => by rw [← hAe]; exact Or.inr h
  have hS : va_S A s₀.heap s₀.heap [] := va_S.rf
  have hP : va_P (dC, dI) vwCl [] s₀.heap := hP
  have hl := lv_entry ([.int b1]) (n := 1) (Nat.le_of_ble_eq_true rfl)
  rw [lg_entry_eq]
  generalize (lg_sl ([.int b1]) ++ List.replicate (1 - (lg_sl ([.int b1])).length) Slot.unset).toArray = ls at hl ⊢
  have hl : lv_has ls 1 [(0, .int b1)] := hl
  obtain ⟨H, hH⟩ : ∃ z : Heap, z = s₀.heap := ⟨_, rfl⟩
  rw [← hH] at hP
  have hS : va_S A s₀.heap H [] := by rw [hH]; exact hS
  refine k_heap hH ?_
  have hD : va_D A [] := hD
  obtain ⟨locs, hlo⟩ : ∃ z : List Loc, z = [] := ⟨_, rfl⟩
  rw [← hlo] at hS ⊢
  clear hlo hH hAe hD0
  refine lv_iload_n hx₀ hb dJ6_bitCount_0f7a4_0 rfl (lv_at hl 0 rfl) ?_
  refine lv_iload_n hx₀ hb dJ6_bitCount_0f7a4_1 rfl (lv_at hl 0 rfl) ?_
  refine lv_iconst (v := 1) hx₀ hb dJ6_bitCount_0f7a4_2 (by decide +kernel) ?_
  refine lv_iushr hx₀ hb dJ6_bitCount_0f7a4_3 rfl ?_
  refine lv_ldcw (v := 1431655765) hx₀ hb hown (hts (.constant RJ6 265 (1431655765)) wd_658) dJ6_bitCount_0f7a4_4 ?_
  refine lv_iand hx₀ hb dJ6_bitCount_0f7a4_7 ?_
  refine lv_isub hx₀ hb dJ6_bitCount_0f7a4_8 ?_
  refine lv_istore_n (lv' := [(0, .int (b1 - (((b1.toUInt32 >>> ((1 : Int32).toUInt32 &&& Int32.toUInt32 31)).toInt32) &&& 1431655765)))]) hx₀ hb dJ6_bitCount_0f7a4_9 rfl hl (by decide) rfl (fun ls hl => ?_)
  refine lv_iload_n hx₀ hb dJ6_bitCount_0f7a4_10 rfl (lv_at hl 0 rfl) ?_
  refine lv_ldcw (v := 858993459) hx₀ hb hown (hts (.constant RJ6 266 (858993459)) wd_659) dJ6_bitCount_0f7a4_11 ?_
  refine lv_iand hx₀ hb dJ6_bitCount_0f7a4_14 ?_
  refine lv_iload_n hx₀ hb dJ6_bitCount_0f7a4_15 rfl (lv_at hl 0 rfl) ?_
  refine lv_iconst (v := 2) hx₀ hb dJ6_bitCount_0f7a4_16 (by decide +kernel) ?_
  refine lv_iushr hx₀ hb dJ6_bitCount_0f7a4_17 rfl ?_
  refine lv_ldcw (v := 858993459) hx₀ hb hown (hts (.constant RJ6 266 (858993459)) wd_659) dJ6_bitCount_0f7a4_18 ?_
  refine lv_iand hx₀ hb dJ6_bitCount_0f7a4_21 ?_
  refine lv_iadd hx₀ hb dJ6_bitCount_0f7a4_22 ?_
  refine lv_istore_n (lv' := [(0, .int (((b1 - (((b1.toUInt32 >>> ((1 : Int32).toUInt32 &&& Int32.toUInt32 31)).toInt32) &&& 1431655765)) &&& 858993459) + ((((b1 - (((b1.toUInt32 >>> ((1 : Int32).toUInt32 &&& Int32.toUInt32 31)).toInt32) &&& 1431655765)).toUInt32 >>> ((2 : Int32).toUInt32 &&& Int32.toUInt32 31)).toInt32) &&& 858993459)))]) hx₀ hb dJ6_bitCount_0f7a4_23 rfl hl (by decide) rfl (fun ls hl => ?_)
  refine lv_iload_n hx₀ hb dJ6_bitCount_0f7a4_24 rfl (lv_at hl 0 rfl) ?_
  refine lv_iload_n hx₀ hb dJ6_bitCount_0f7a4_25 rfl (lv_at hl 0 rfl) ?_
  refine lv_iconst (v := 4) hx₀ hb dJ6_bitCount_0f7a4_26 (by decide +kernel) ?_
  refine lv_iushr hx₀ hb dJ6_bitCount_0f7a4_27 rfl ?_
  refine lv_iadd hx₀ hb dJ6_bitCount_0f7a4_28 ?_
  refine lv_ldcw (v := 252645135) hx₀ hb hown (hts (.constant RJ6 267 (252645135)) wd_660) dJ6_bitCount_0f7a4_29 ?_
  refine lv_iand hx₀ hb dJ6_bitCount_0f7a4_32 ?_
  refine lv_istore_n (lv' := [(0, .int (((((b1 - (((b1.toUInt32 >>> ((1 : Int32).toUInt32 &&& Int32.toUInt32 31)).toInt32) &&& 1431655765)) &&& 858993459) + ((((b1 - (((b1.toUInt32 >>> ((1 : Int32).toUInt32 &&& Int32.toUInt32 31)).toInt32) &&& 1431655765)).toUInt32 >>> ((2 : Int32).toUInt32 &&& Int32.toUInt32 31)).toInt32) &&& 858993459)) + (((((b1 - (((b1.toUInt32 >>> ((1 : Int32).toUInt32 &&& Int32.toUInt32 31)).toInt32) &&& 1431655765)) &&& 858993459) + ((((b1 - (((b1.toUInt32 >>> ((1 : Int32).toUInt32 &&& Int32.toUInt32 31)).toInt32) &&& 1431655765)).toUInt32 >>> ((2 : Int32).toUInt32 &&& Int32.toUInt32 31)).toInt32) &&& 858993459)).toUInt32 >>> ((4 : Int32).toUInt32 &&& Int32.toUInt32 31)).toInt32)) &&& 252645135))]) hx₀ hb dJ6_bitCount_0f7a4_33 rfl hl (by decide) rfl (fun ls hl => ?_)
  refine lv_iload_n hx₀ hb dJ6_bitCount_0f7a4_34 rfl (lv_at hl 0 rfl) ?_
  refine lv_iload_n hx₀ hb dJ6_bitCount_0f7a4_35 rfl (lv_at hl 0 rfl) ?_
  refine lv_bipush (v := 8) hx₀ hb dJ6_bitCount_0f7a4_36 (by decide +kernel) ?_
  refine lv_iushr hx₀ hb dJ6_bitCount_0f7a4_38 rfl ?_
  refine lv_iadd hx₀ hb dJ6_bitCount_0f7a4_39 ?_
  refine lv_istore_n (lv' := [(0, .int ((((((b1 - (((b1.toUInt32 >>> ((1 : Int32).toUInt32 &&& Int32.toUInt32 31)).toInt32) &&& 1431655765)) &&& 858993459) + ((((b1 - (((b1.toUInt32 >>> ((1 : Int32).toUInt32 &&& Int32.toUInt32 31)).toInt32) &&& 1431655765)).toUInt32 >>> ((2 : Int32).toUInt32 &&& Int32.toUInt32 31)).toInt32) &&& 858993459)) + (((((b1 - (((b1.toUInt32 >>> ((1 : Int32).toUInt32 &&& Int32.toUInt32 31)).toInt32) &&& 1431655765)) &&& 858993459) + ((((b1 - (((b1.toUInt32 >>> ((1 : Int32).toUInt32 &&& Int32.toUInt32 31)).toInt32) &&& 1431655765)).toUInt32 >>> ((2 : Int32).toUInt32 &&& Int32.toUInt32 31)).toInt32) &&& 858993459)).toUInt32 >>> ((4 : Int32).toUInt32 &&& Int32.toUInt32 31)).toInt32)) &&& 252645135) + (((((((b1 - (((b1.toUInt32 >>> ((1 : Int32).toUInt32 &&& Int32.toUInt32 31)).toInt32) &&& 1431655765)) &&& 858993459) + ((((b1 - (((b1.toUInt32 >>> ((1 : Int32).toUInt32 &&& Int32.toUInt32 31)).toInt32) &&& 1431655765)).toUInt32 >>> ((2 : Int32).toUInt32 &&& Int32.toUInt32 31)).toInt32) &&& 858993459)) + (((((b1 - (((b1.toUInt32 >>> ((1 : Int32).toUInt32 &&& Int32.toUInt32 31)).toInt32) &&& 1431655765)) &&& 858993459) + ((((b1 - (((b1.toUInt32 >>> ((1 : Int32).toUInt32 &&& Int32.toUInt32 31)).toInt32) &&& 1431655765)).toUInt32 >>> ((2 : Int32).toUInt32 &&& Int32.toUInt32 31)).toInt32) &&& 858993459)).toUInt32 >>> ((4 : Int32).toUInt32 &&& Int32.toUInt32 31)).toInt32)) &&& 252645135).toUInt32 >>> ((8 : Int32).toUInt32 &&& Int32.toUInt32 31)).toInt32)))]) hx₀ hb dJ6_bitCount_0f7a4_40 rfl hl (by decide) rfl (fun ls hl => ?_)
  refine lv_iload_n hx₀ hb dJ6_bitCount_0f7a4_41 rfl (lv_at hl 0 rfl) ?_
  refine lv_iload_n hx₀ hb dJ6_bitCount_0f7a4_42 rfl (lv_at hl 0 rfl) ?_
  refine lv_bipush (v := 16) hx₀ hb dJ6_bitCount_0f7a4_43 (by decide +kernel) ?_
  refine lv_iushr hx₀ hb dJ6_bitCount_0f7a4_45 rfl ?_
  refine lv_iadd hx₀ hb dJ6_bitCount_0f7a4_46 ?_
  refine lv_istore_n (lv' := [(0, .int (((((((b1 - (((b1.toUInt32 >>> ((1 : Int32).toUInt32 &&& Int32.toUInt32 31)).toInt32) &&& 1431655765)) &&& 858993459) + ((((b1 - (((b1.toUInt32 >>> ((1 : Int32).toUInt32 &&& Int32.toUInt32 31)).toInt32) &&& 1431655765)).toUInt32 >>> ((2 : Int32).toUInt32 &&& Int32.toUInt32 31)).toInt32) &&& 858993459)) + (((((b1 - (((b1.toUInt32 >>> ((1 : Int32).toUInt32 &&& Int32.toUInt32 31)).toInt32) &&& 1431655765)) &&& 858993459) + ((((b1 - (((b1.toUInt32 >>> ((1 : Int32).toUInt32 &&& Int32.toUInt32 31)).toInt32) &&& 1431655765)).toUInt32 >>> ((2 : Int32).toUInt32 &&& Int32.toUInt32 31)).toInt32) &&& 858993459)).toUInt32 >>> ((4 : Int32).toUInt32 &&& Int32.toUInt32 31)).toInt32)) &&& 252645135) + (((((((b1 - (((b1.toUInt32 >>> ((1 : Int32).toUInt32 &&& Int32.toUInt32 31)).toInt32) &&& 1431655765)) &&& 858993459) + ((((b1 - (((b1.toUInt32 >>> ((1 : Int32).toUInt32 &&& Int32.toUInt32 31)).toInt32) &&& 1431655765)).toUInt32 >>> ((2 : Int32).toUInt32 &&& Int32.toUInt32 31)).toInt32) &&& 858993459)) + (((((b1 - (((b1.toUInt32 >>> ((1 : Int32).toUInt32 &&& Int32.toUInt32 31)).toInt32) &&& 1431655765)) &&& 858993459) + ((((b1 - (((b1.toUInt32 >>> ((1 : Int32).toUInt32 &&& Int32.toUInt32 31)).toInt32) &&& 1431655765)).toUInt32 >>> ((2 : Int32).toUInt32 &&& Int32.toUInt32 31)).toInt32) &&& 858993459)).toUInt32 >>> ((4 : Int32).toUInt32 &&& Int32.toUInt32 31)).toInt32)) &&& 252645135).toUInt32 >>> ((8 : Int32).toUInt32 &&& Int32.toUInt32 31)).toInt32)) + ((((((((b1 - (((b1.toUInt32 >>> ((1 : Int32).toUInt32 &&& Int32.toUInt32 31)).toInt32) &&& 1431655765)) &&& 858993459) + ((((b1 - (((b1.toUInt32 >>> ((1 : Int32).toUInt32 &&& Int32.toUInt32 31)).toInt32) &&& 1431655765)).toUInt32 >>> ((2 : Int32).toUInt32 &&& Int32.toUInt32 31)).toInt32) &&& 858993459)) + (((((b1 - (((b1.toUInt32 >>> ((1 : Int32).toUInt32 &&& Int32.toUInt32 31)).toInt32) &&& 1431655765)) &&& 858993459) + ((((b1 - (((b1.toUInt32 >>> ((1 : Int32).toUInt32 &&& Int32.toUInt32 31)).toInt32) &&& 1431655765)).toUInt32 >>> ((2 : Int32).toUInt32 &&& Int32.toUInt32 31)).toInt32) &&& 858993459)).toUInt32 >>> ((4 : Int32).toUInt32 &&& Int32.toUInt32 31)).toInt32)) &&& 252645135) + (((((((b1 - (((b1.toUInt32 >>> ((1 : Int32).toUInt32 &&& Int32.toUInt32 31)).toInt32) &&& 1431655765)) &&& 858993459) + ((((b1 - (((b1.toUInt32 >>> ((1 : Int32).toUInt32 &&& Int32.toUInt32 31)).toInt32) &&& 1431655765)).toUInt32 >>> ((2 : Int32).toUInt32 &&& Int32.toUInt32 31)).toInt32) &&& 858993459)) + (((((b1 - (((b1.toUInt32 >>> ((1 : Int32).toUInt32 &&& Int32.toUInt32 31)).toInt32) &&& 1431655765)) &&& 858993459) + ((((b1 - (((b1.toUInt32 >>> ((1 : Int32).toUInt32 &&& Int32.toUInt32 31)).toInt32) &&& 1431655765)).toUInt32 >>> ((2 : Int32).toUInt32 &&& Int32.toUInt32 31)).toInt32) &&& 858993459)).toUInt32 >>> ((4 : Int32).toUInt32 &&& Int32.toUInt32 31)).toInt32)) &&& 252645135).toUInt32 >>> ((8 : Int32).toUInt32 &&& Int32.toUInt32 31)).toInt32)).toUInt32 >>> ((16 : Int32).toUInt32 &&& Int32.toUInt32 31)).toInt32)))]) hx₀ hb dJ6_bitCount_0f7a4_47 rfl hl (by decide) rfl (fun ls hl => ?_)
  refine lv_iload_n hx₀ hb dJ6_bitCount_0f7a4_48 rfl (lv_at hl 0 rfl) ?_
  refine lv_bipush (v := 63) hx₀ hb dJ6_bitCount_0f7a4_49 (by decide +kernel) ?_
  refine lv_iand hx₀ hb dJ6_bitCount_0f7a4_51 ?_
  obtain ⟨hP9, hD9⟩ := k_c2 (wc := []) hP hD [] (by decide +kernel) rfl
  exact W.iret (v := (((((((b1 - (((b1.toUInt32 >>> ((1 : Int32).toUInt32 &&& Int32.toUInt32 31)).toInt32) &&& 1431655765)) &&& 858993459) + ((((b1 - (((b1.toUInt32 >>> ((1 : Int32).toUInt32 &&& Int32.toUInt32 31)).toInt32) &&& 1431655765)).toUInt32 >>> ((2 : Int32).toUInt32 &&& Int32.toUInt32 31)).toInt32) &&& 858993459)) + (((((b1 - (((b1.toUInt32 >>> ((1 : Int32).toUInt32 &&& Int32.toUInt32 31)).toInt32) &&& 1431655765)) &&& 858993459) + ((((b1 - (((b1.toUInt32 >>> ((1 : Int32).toUInt32 &&& Int32.toUInt32 31)).toInt32) &&& 1431655765)).toUInt32 >>> ((2 : Int32).toUInt32 &&& Int32.toUInt32 31)).toInt32) &&& 858993459)).toUInt32 >>> ((4 : Int32).toUInt32 &&& Int32.toUInt32 31)).toInt32)) &&& 252645135) + (((((((b1 - (((b1.toUInt32 >>> ((1 : Int32).toUInt32 &&& Int32.toUInt32 31)).toInt32) &&& 1431655765)) &&& 858993459) + ((((b1 - (((b1.toUInt32 >>> ((1 : Int32).toUInt32 &&& Int32.toUInt32 31)).toInt32) &&& 1431655765)).toUInt32 >>> ((2 : Int32).toUInt32 &&& Int32.toUInt32 31)).toInt32) &&& 858993459)) + (((((b1 - (((b1.toUInt32 >>> ((1 : Int32).toUInt32 &&& Int32.toUInt32 31)).toInt32) &&& 1431655765)) &&& 858993459) + ((((b1 - (((b1.toUInt32 >>> ((1 : Int32).toUInt32 &&& Int32.toUInt32 31)).toInt32) &&& 1431655765)).toUInt32 >>> ((2 : Int32).toUInt32 &&& Int32.toUInt32 31)).toInt32) &&& 858993459)).toUInt32 >>> ((4 : Int32).toUInt32 &&& Int32.toUInt32 31)).toInt32)) &&& 252645135).toUInt32 >>> ((8 : Int32).toUInt32 &&& Int32.toUInt32 31)).toInt32)) + ((((((((b1 - (((b1.toUInt32 >>> ((1 : Int32).toUInt32 &&& Int32.toUInt32 31)).toInt32) &&& 1431655765)) &&& 858993459) + ((((b1 - (((b1.toUInt32 >>> ((1 : Int32).toUInt32 &&& Int32.toUInt32 31)).toInt32) &&& 1431655765)).toUInt32 >>> ((2 : Int32).toUInt32 &&& Int32.toUInt32 31)).toInt32) &&& 858993459)) + (((((b1 - (((b1.toUInt32 >>> ((1 : Int32).toUInt32 &&& Int32.toUInt32 31)).toInt32) &&& 1431655765)) &&& 858993459) + ((((b1 - (((b1.toUInt32 >>> ((1 : Int32).toUInt32 &&& Int32.toUInt32 31)).toInt32) &&& 1431655765)).toUInt32 >>> ((2 : Int32).toUInt32 &&& Int32.toUInt32 31)).toInt32) &&& 858993459)).toUInt32 >>> ((4 : Int32).toUInt32 &&& Int32.toUInt32 31)).toInt32)) &&& 252645135) + (((((((b1 - (((b1.toUInt32 >>> ((1 : Int32).toUInt32 &&& Int32.toUInt32 31)).toInt32) &&& 1431655765)) &&& 858993459) + ((((b1 - (((b1.toUInt32 >>> ((1 : Int32).toUInt32 &&& Int32.toUInt32 31)).toInt32) &&& 1431655765)).toUInt32 >>> ((2 : Int32).toUInt32 &&& Int32.toUInt32 31)).toInt32) &&& 858993459)) + (((((b1 - (((b1.toUInt32 >>> ((1 : Int32).toUInt32 &&& Int32.toUInt32 31)).toInt32) &&& 1431655765)) &&& 858993459) + ((((b1 - (((b1.toUInt32 >>> ((1 : Int32).toUInt32 &&& Int32.toUInt32 31)).toInt32) &&& 1431655765)).toUInt32 >>> ((2 : Int32).toUInt32 &&& Int32.toUInt32 31)).toInt32) &&& 858993459)).toUInt32 >>> ((4 : Int32).toUInt32 &&& Int32.toUInt32 31)).toInt32)) &&& 252645135).toUInt32 >>> ((8 : Int32).toUInt32 &&& Int32.toUInt32 31)).toInt32)).toUInt32 >>> ((16 : Int32).toUInt32 &&& Int32.toUInt32 31)).toInt32)) &&& 63) hx₀ hb hr (fun t₀ ht hW => ⟨⟨(((((((b1 - (((b1.toUInt32 >>> ((1 : Int32).toUInt32 &&& Int32.toUInt32 31)).toInt32) &&& 1431655765)) &&& 858993459) + ((((b1 - (((b1.toUInt32 >>> ((1 : Int32).toUInt32 &&& Int32.toUInt32 31)).toInt32) &&& 1431655765)).toUInt32 >>> ((2 : Int32).toUInt32 &&& Int32.toUInt32 31)).toInt32) &&& 858993459)) + (((((b1 - (((b1.toUInt32 >>> ((1 : Int32).toUInt32 &&& Int32.toUInt32 31)).toInt32) &&& 1431655765)) &&& 858993459) + ((((b1 - (((b1.toUInt32 >>> ((1 : Int32).toUInt32 &&& Int32.toUInt32 31)).toInt32) &&& 1431655765)).toUInt32 >>> ((2 : Int32).toUInt32 &&& Int32.toUInt32 31)).toInt32) &&& 858993459)).toUInt32 >>> ((4 : Int32).toUInt32 &&& Int32.toUInt32 31)).toInt32)) &&& 252645135) + (((((((b1 - (((b1.toUInt32 >>> ((1 : Int32).toUInt32 &&& Int32.toUInt32 31)).toInt32) &&& 1431655765)) &&& 858993459) + ((((b1 - (((b1.toUInt32 >>> ((1 : Int32).toUInt32 &&& Int32.toUInt32 31)).toInt32) &&& 1431655765)).toUInt32 >>> ((2 : Int32).toUInt32 &&& Int32.toUInt32 31)).toInt32) &&& 858993459)) + (((((b1 - (((b1.toUInt32 >>> ((1 : Int32).toUInt32 &&& Int32.toUInt32 31)).toInt32) &&& 1431655765)) &&& 858993459) + ((((b1 - (((b1.toUInt32 >>> ((1 : Int32).toUInt32 &&& Int32.toUInt32 31)).toInt32) &&& 1431655765)).toUInt32 >>> ((2 : Int32).toUInt32 &&& Int32.toUInt32 31)).toInt32) &&& 858993459)).toUInt32 >>> ((4 : Int32).toUInt32 &&& Int32.toUInt32 31)).toInt32)) &&& 252645135).toUInt32 >>> ((8 : Int32).toUInt32 &&& Int32.toUInt32 31)).toInt32)) + ((((((((b1 - (((b1.toUInt32 >>> ((1 : Int32).toUInt32 &&& Int32.toUInt32 31)).toInt32) &&& 1431655765)) &&& 858993459) + ((((b1 - (((b1.toUInt32 >>> ((1 : Int32).toUInt32 &&& Int32.toUInt32 31)).toInt32) &&& 1431655765)).toUInt32 >>> ((2 : Int32).toUInt32 &&& Int32.toUInt32 31)).toInt32) &&& 858993459)) + (((((b1 - (((b1.toUInt32 >>> ((1 : Int32).toUInt32 &&& Int32.toUInt32 31)).toInt32) &&& 1431655765)) &&& 858993459) + ((((b1 - (((b1.toUInt32 >>> ((1 : Int32).toUInt32 &&& Int32.toUInt32 31)).toInt32) &&& 1431655765)).toUInt32 >>> ((2 : Int32).toUInt32 &&& Int32.toUInt32 31)).toInt32) &&& 858993459)).toUInt32 >>> ((4 : Int32).toUInt32 &&& Int32.toUInt32 31)).toInt32)) &&& 252645135) + (((((((b1 - (((b1.toUInt32 >>> ((1 : Int32).toUInt32 &&& Int32.toUInt32 31)).toInt32) &&& 1431655765)) &&& 858993459) + ((((b1 - (((b1.toUInt32 >>> ((1 : Int32).toUInt32 &&& Int32.toUInt32 31)).toInt32) &&& 1431655765)).toUInt32 >>> ((2 : Int32).toUInt32 &&& Int32.toUInt32 31)).toInt32) &&& 858993459)) + (((((b1 - (((b1.toUInt32 >>> ((1 : Int32).toUInt32 &&& Int32.toUInt32 31)).toInt32) &&& 1431655765)) &&& 858993459) + ((((b1 - (((b1.toUInt32 >>> ((1 : Int32).toUInt32 &&& Int32.toUInt32 31)).toInt32) &&& 1431655765)).toUInt32 >>> ((2 : Int32).toUInt32 &&& Int32.toUInt32 31)).toInt32) &&& 858993459)).toUInt32 >>> ((4 : Int32).toUInt32 &&& Int32.toUInt32 31)).toInt32)) &&& 252645135).toUInt32 >>> ((8 : Int32).toUInt32 &&& Int32.toUInt32 31)).toInt32)).toUInt32 >>> ((16 : Int32).toUInt32 &&& Int32.toUInt32 31)).toInt32)) &&& 63, (), rfl, trivial, by rw [ht]; exact hP9, va_K.moved hW.alike hK, hD9⟩, hS.F ht⟩) hS.2.2 dJ6_bitCount_0f7a4_52
set_option maxHeartbeats 4000000 in
set_option maxRecDepth 100000 in
theorem j_prepare (l : Launch) (dC : Nat → ClassId) (dI : Nat → Nat → Nat) (cI cJ cQ : ClassId) (sz : Nat) (hx : Nat) (f1 : Int32) (aLa : Nat) (aPa : Nat) (aGe : Nat) (aFl : Nat) (aTr : Nat) (aBe : Nat) (aLu : Nat) (aLo : Nat) (vSf : Nat) (vSm : Nat) (vCo : Nat) (vSh : Nat) (xs : Int32) (xl : Int32) (xf : Int32) (gL : Nat) (gR : Nat) (lf : Nat) (rt : Nat) (tgo : Int32) (tca : Int32) (tki : Int32) (tso : Int32) (tbe : Int32) (twe : Int32) (tle : Int32) (tan : Int32) (tco : Int32) (ten : Int32) (u0 : Int32) (u1 : Int32) (u2 : Int32) (u3 : Int32) (v0 : Int32) (v1 : Int32) (v2 : Int32) (v3 : Int32) (vLa : Nat) (l4 : Int32) (a4 : Int32) (n4 : Int32) (f4 : Nat → Int32) (vPa : Nat) (l7 : Int32) (a7 : Int32) (n7 : Int32) (f7 : Nat → Int32) (vGe : Nat) (l2 : Int32) (a2 : Int32) (n2 : Int32) (f2 : Nat → Int32) (vFl : Nat) (xn : Int32) (ff : Nat → Int32) (hh0 : 0 ≤ n4 ∧ n4 ≤ 24) (hh1 : 0 ≤ xn ∧ xn ≤ 8) : Met l yX11_prepare (kW yX11_prepare cX11_prepare 2 none) { frames := 3, cells := 0, slots := 0, locals := 69 } (kPre dC dI cI cJ cQ sz [.ref hx, .int f1] [(kX11 hx aLa aPa aGe aFl aTr aBe aLu aLo vSf vSm vCo vSh xs xl xf), (kX10 aTr aLa aPa aGe gL gR lf rt tgo tca tki tso tbe twe tle tan tco ten), (kX3 gL u0 u1 u2 u3), (kX3 gR v0 v1 v2 v3), (kX4 aLa vLa l4 a4 n4), (kAI vLa cI 24 f4), (kX7 aPa vPa l7 a7 n7), (kAI vPa cI 39 f7), (kX2 aGe vGe l2 a2 n2), (kAI vGe cI 23 f2), (kX1 aFl vFl xn), (kAI vFl cI 32 ff)]) (va_Qv (fun (u : kS) => ((u.1 8) = if (0 ≤ (kIt xn ff f1 0) ∧ (kIt xn ff f1 0) < n7) ∧ (0 ≤ (kIt xn ff f1 1) ∧ (kIt xn ff f1 1) < n2) ∧ 0 ≤ (kIt xn ff f1 2) ∧ (kIt xn ff f1 2) < n2 then 1 else 0) ∧ ((u.1 9) = if (0 ≤ (kIt xn ff f1 0) ∧ (kIt xn ff f1 0) < n7) ∧ (0 ≤ (kIt xn ff f1 1) ∧ (kIt xn ff f1 1) < n2) ∧ 0 ≤ (kIt xn ff f1 2) ∧ (kIt xn ff f1 2) < n2 then kCt (kAt 24 f4) (kAt 39 f7 ((5 * (kIt xn ff f1 0)) + 3)) (kfu n4 0) 0 ((kAt 23 f2 ((3 * (kIt xn ff f1 1)) + 0), kAt 23 f2 ((3 * (kIt xn ff f1 1)) + 1), kAt 23 f2 ((3 * (kIt xn ff f1 1)) + 0), 0), (kAt 23 f2 ((3 * (kIt xn ff f1 2)) + 0), kAt 23 f2 ((3 * (kIt xn ff f1 2)) + 1), kAt 23 f2 ((3 * (kIt xn ff f1 2)) + 0), 0)) else 0) ∧ ((u.1 10) = if (0 ≤ (kIt xn ff f1 0) ∧ (kIt xn ff f1 0) < n7) ∧ (0 ≤ (kIt xn ff f1 1) ∧ (kIt xn ff f1 1) < n2) ∧ 0 ≤ (kIt xn ff f1 2) ∧ (kIt xn ff f1 2) < n2 then kAt 39 f7 ((5 * (kIt xn ff f1 0)) + 0) else tki) ∧ ((u.1 11) = if (0 ≤ (kIt xn ff f1 0) ∧ (kIt xn ff f1 0) < n7) ∧ (0 ≤ (kIt xn ff f1 1) ∧ (kIt xn ff f1 1) < n2) ∧ 0 ≤ (kIt xn ff f1 2) ∧ (kIt xn ff f1 2) < n2 then kAt 39 f7 ((5 * (kIt xn ff f1 0)) + 1) else tso) ∧ ((u.1 12) = if (0 ≤ (kIt xn ff f1 0) ∧ (kIt xn ff f1 0) < n7) ∧ (0 ≤ (kIt xn ff f1 1) ∧ (kIt xn ff f1 1) < n2) ∧ 0 ≤ (kIt xn ff f1 2) ∧ (kIt xn ff f1 2) < n2 then 5 * (kAt 39 f7 ((5 * (kIt xn ff f1 0)) + 2)) else tbe) ∧ ((u.1 13) = if (0 ≤ (kIt xn ff f1 0) ∧ (kIt xn ff f1 0) < n7) ∧ (0 ≤ (kIt xn ff f1 1) ∧ (kIt xn ff f1 1) < n2) ∧ 0 ≤ (kIt xn ff f1 2) ∧ (kIt xn ff f1 2) < n2 then kAt 39 f7 ((5 * (kIt xn ff f1 0)) + 3) else twe) ∧ ((u.1 14) = xl)) (fun (u : kS) t₀ => kB dC dI cI cJ cQ (va_A [(kX11 hx aLa aPa aGe aFl aTr aBe aLu aLo vSf vSm vCo vSh xs xl xf), (kX10 aTr aLa aPa aGe gL gR lf rt tgo tca tki tso tbe twe tle tan tco ten), (kX3 gL u0 u1 u2 u3), (kX3 gR v0 v1 v2 v3), (kX4 aLa vLa l4 a4 n4), (kAI vLa cI 24 f4), (kX7 aPa vPa l7 a7 n7), (kAI vPa cI 39 f7), (kX2 aGe vGe l2 a2 n2), (kAI vGe cI 23 f2), (kX1 aFl vFl xn), (kAI vFl cI 32 ff)] sz) [(kX11 hx aLa aPa aGe aFl aTr aBe aLu aLo vSf vSm vCo vSh xs xl xf), (kX10 aTr aLa aPa aGe gL gR (u.2.2.2.2 0) (u.2.2.2.2 1) (u.1 8) (u.1 9) (u.1 10) (u.1 11) (u.1 12) (u.1 13) (u.1 14) (u.1 15) (u.1 16) (u.1 17)), (kX3 gL (u.1 0) (u.1 1) (u.1 2) (u.1 3)), (kX3 gR (u.1 4) (u.1 5) (u.1 6) (u.1 7)), (kX4 aLa vLa l4 a4 n4), (kAI vLa cI 24 f4), (kX7 aPa vPa l7 a7 n7), (kAI vPa cI 39 f7), (kX2 aGe vGe l2 a2 n2), (kAI vGe cI 23 f2), (kX1 aFl vFl xn), (kAI vFl cI 32 ff)] t₀) (va_A [(kX11 hx aLa aPa aGe aFl aTr aBe aLu aLo vSf vSm vCo vSh xs xl xf), (kX10 aTr aLa aPa aGe gL gR lf rt tgo tca tki tso tbe twe tle tan tco ten), (kX3 gL u0 u1 u2 u3), (kX3 gR v0 v1 v2 v3), (kX4 aLa vLa l4 a4 n4), (kAI vLa cI 24 f4), (kX7 aPa vPa l7 a7 n7), (kAI vPa cI 39 f7), (kX2 aGe vGe l2 a2 n2), (kAI vGe cI 23 f2), (kX1 aFl vFl xn), (kAI vFl cI 32 ff)] sz)) 0 0 (va_A [(kX11 hx aLa aPa aGe aFl aTr aBe aLu aLo vSf vSm vCo vSh xs xl xf), (kX10 aTr aLa aPa aGe gL gR lf rt tgo tca tki tso tbe twe tle tan tco ten), (kX3 gL u0 u1 u2 u3), (kX3 gR v0 v1 v2 v3), (kX4 aLa vLa l4 a4 n4), (kAI vLa cI 24 f4), (kX7 aPa vPa l7 a7 n7), (kAI vPa cI 39 f7), (kX2 aGe vGe l2 a2 n2), (kAI vGe cI 23 f2), (kX1 aFl vFl xn), (kAI vFl cI 32 ff)] sz) := by
  refine Met.ofW (cc := cX11_prepare) (maxL := 2) (ret := none) (by decide) rfl ?_
  intro p₀ e₀ s₀ m₀ args below meth c₀ s₁ B hml hv₀
  obtain ⟨rfl, hsz, hP, hK, hD0, hN⟩ := hv₀
  have hx₀ := B.exec
  have hb := B.bytes
  have hr := B.returns
  have hts := atoms_spec (ws := (kW yX11_prepare cX11_prepare 2 none)) B.pre
  have hts := fun w h => hts w (List.mem_cons_of_mem _ h)
  have hown : s₀.vm.findClass RX11 = some m₀.cls := findClass_of_methodNamed B.named
  have hlocks := B.notSynchronized
  subst hsz
  have hD := hD0.self (sz := s₀.heap.size)
  generalize hAe : va_A [(kX11 hx aLa aPa aGe aFl aTr aBe aLu aLo vSf vSm vCo vSh xs xl xf), (kX10 aTr aLa aPa aGe gL gR lf rt tgo tca tki tso tbe twe tle tan tco ten), (kX3 gL u0 u1 u2 u3), (kX3 gR v0 v1 v2 v3), (kX4 aLa vLa l4 a4 n4), (kAI vLa cI 24 f4), (kX7 aPa vPa l7 a7 n7), (kAI vPa cI 39 f7), (kX2 aGe vGe l2 a2 n2), (kAI vGe cI 23 f2), (kX1 aFl vFl xn), (kAI vFl cI 32 ff)] s₀.heap.size = A at hD ⊢
  have hA : ∀ q : Nat, s₀.heap.size ≤ q → A q := fun q h => by rw [← hAe]; exact Or.inr h
  have hS : va_S A s₀.heap s₀.heap [] := va_S.rf
  have hP : va_P (dC, dI) vwCl [(kX11 hx aLa aPa aGe aFl aTr aBe aLu aLo vSf vSm vCo vSh xs xl xf), (kX10 aTr aLa aPa aGe gL gR lf rt tgo tca tki tso tbe twe tle tan tco ten), (kX3 gL u0 u1 u2 u3), (kX3 gR v0 v1 v2 v3), (kX4 aLa vLa l4 a4 n4), (kAI vLa cI 24 f4), (kX7 aPa vPa l7 a7 n7), (kAI vPa cI 39 f7), (kX2 aGe vGe l2 a2 n2), (kAI vGe cI 23 f2), (kX1 aFl vFl xn), (kAI vFl cI 32 ff)] s₀.heap := hP
  have hl := lv_entry ([.ref hx, .int f1]) (n := 2) (Nat.le_of_ble_eq_true rfl)
  rw [lg_entry_eq]
  generalize (lg_sl ([.ref hx, .int f1]) ++ List.replicate (2 - (lg_sl ([.ref hx, .int f1])).length) Slot.unset).toArray = ls at hl ⊢
  have hl : lv_has ls 2 [(0, .ref hx), (1, .int f1)] := hl
  obtain ⟨H, hH⟩ : ∃ z : Heap, z = s₀.heap := ⟨_, rfl⟩
  rw [← hH] at hP
  have hS : va_S A s₀.heap H [] := by rw [hH]; exact hS
  refine k_heap hH ?_
  have hD : va_D A [(kX11 hx aLa aPa aGe aFl aTr aBe aLu aLo vSf vSm vCo vSh xs xl xf), (kX10 aTr aLa aPa aGe gL gR lf rt tgo tca tki tso tbe twe tle tan tco ten), (kX3 gL u0 u1 u2 u3), (kX3 gR v0 v1 v2 v3), (kX4 aLa vLa l4 a4 n4), (kAI vLa cI 24 f4), (kX7 aPa vPa l7 a7 n7), (kAI vPa cI 39 f7), (kX2 aGe vGe l2 a2 n2), (kAI vGe cI 23 f2), (kX1 aFl vFl xn), (kAI vFl cI 32 ff)] := hD
  obtain ⟨locs, hlo⟩ : ∃ z : List Loc, z = [] := ⟨_, rfl⟩
  rw [← hlo] at hS ⊢
  clear hlo hH hAe hD0
  refine lv_aload_n hx₀ hb dX11_prepare_0 rfl (lv_at hl 0 rfl) ?_
  refine va_get (D := (dC, dI)) (ci := 10) (v := .ref aTr) (C := RX11) (T := TX11) (N := 15) hx₀ hb hts inlX11 hown hK hP 0 rfl rfl 4 (by decide) (hts (.fieldLink RX11 42 "BittenStick" "trip" "LBittenStick$Trip;") wd_31) (fun _ h9 => h9) rfl dX11_prepare_1 ?_
  refine lv_aload_n hx₀ hb dX11_prepare_4 rfl (lv_at hl 0 rfl) ?_
  refine va_get (D := (dC, dI)) (ci := 10) (v := .int xl) (C := RX11) (T := TX11) (N := 15) hx₀ hb hts inlX11 hown hK hP 0 rfl rfl 13 (by decide) (hts (.fieldLink RX11 146 "BittenStick" "learned" "I") wd_411) (fun _ h9 => h9) rfl dX11_prepare_5 ?_
  refine va_put (D := (dC, dI)) (ci := 9) (v := .int xl) (ty := .int) (C := RX10) (T := TX10) (N := 17) hx₀ hb hts inlX10 tyX10 tyX10_ok nmX10 hown hK hP hD hS 1 rfl rfl 13 (by decide) (hts (.fieldLink RX11 184 "BittenStick$Trip" "learned" "I") wd_431) (fun _ h9 => h9) rfl (by decide +kernel) rfl rfl (Nat.le_of_ble_eq_true rfl) dX11_prepare_8 ?_
  clear hP hD hS
  intro H locs hP hD hS
  replace hP := k_w2 (wt := [(kX11 hx aLa aPa aGe aFl aTr aBe aLu aLo vSf vSm vCo vSh xs xl xf), (kX10 aTr aLa aPa aGe gL gR lf rt tgo tca tki tso tbe twe xl tan tco ten), (kX3 gL u0 u1 u2 u3), (kX3 gR v0 v1 v2 v3), (kX4 aLa vLa l4 a4 n4), (kAI vLa cI 24 f4), (kX7 aPa vPa l7 a7 n7), (kAI vPa cI 39 f7), (kX2 aGe vGe l2 a2 n2), (kAI vGe cI 23 f2), (kX1 aFl vFl xn), (kAI vFl cI 32 ff)]) hP hD rfl
  replace hD := hP.2
  replace hP := hP.1
  refine lv_aload_n hx₀ hb dX11_prepare_11 rfl (lv_at hl 0 rfl) ?_
  refine va_get (D := (dC, dI)) (ci := 10) (v := .ref aTr) (C := RX11) (T := TX11) (N := 15) hx₀ hb hts inlX11 hown hK hP 0 rfl rfl 4 (by decide) (hts (.fieldLink RX11 42 "BittenStick" "trip" "LBittenStick$Trip;") wd_31) (fun _ h9 => h9) rfl dX11_prepare_12 ?_
  refine lv_aload_n hx₀ hb dX11_prepare_15 rfl (lv_at hl 0 rfl) ?_
  refine va_get (D := (dC, dI)) (ci := 10) (v := .ref aFl) (C := RX11) (T := TX11) (N := 15) hx₀ hb hts inlX11 hown hK hP 0 rfl rfl 3 (by decide) (hts (.fieldLink RX11 33 "BittenStick" "flights" "LBittenStick$Flights;") wd_27) (fun _ h9 => h9) rfl dX11_prepare_16 ?_
  refine lv_iload_n hx₀ hb dX11_prepare_19 rfl (lv_at hl 1 rfl) ?_
  obtain ⟨hPc, hDc, hFc, hC⟩ := k_cw (wc := [(kX1 aFl vFl xn), (kAI vFl cI 32 ff)]) hP hD hS hA [10, 11] (by decide +kernel) rfl
  refine va_calli (va_runV (As := [.int f1]) (rest := [.ref aTr]) ⟨hx₀, hb, hml, hown, hts⟩ (j_passengerOf l dC dI cI cJ cQ H.size aFl f1 vFl xn ff (hh1)) (cwV 1 hts (kGV wd_435 wd_432 wd_433 wd_434 wd_26) rfl rfl rfl (by decide +kernel) ⟨Nat.le_of_ble_eq_true rfl, Nat.le_of_ble_eq_true rfl⟩) (k_preV1 (q0 := 0) hK hPc hDc hN rfl) rfl rfl hl.1 rfl (lv_room (Nat.le_of_ble_eq_true rfl)) dX11_prepare_20 ⟨by decide +kernel, by decide +kernel⟩) hS (fun q _ h => hFc q h) hFc (fun r_1 u₀ t₀ H1 locs ht hvm hw hB hz1 hk1 hS => ?_)
  obtain ⟨hP1, hK1, hD1⟩ := hB
  rw [ht] at hP1
  have hJ := k_jn (wr := [(kX11 hx aLa aPa aGe aFl aTr aBe aLu aLo vSf vSm vCo vSh xs xl xf), (kX10 aTr aLa aPa aGe gL gR lf rt tgo tca tki tso tbe twe xl tan tco ten), (kX3 gL u0 u1 u2 u3), (kX3 gR v0 v1 v2 v3), (kX4 aLa vLa l4 a4 n4), (kAI vLa cI 24 f4), (kX7 aPa vPa l7 a7 n7), (kAI vPa cI 39 f7), (kX2 aGe vGe l2 a2 n2), (kAI vGe cI 23 f2)]) (wt := [(kX11 hx aLa aPa aGe aFl aTr aBe aLu aLo vSf vSm vCo vSh xs xl xf), (kX10 aTr aLa aPa aGe gL gR lf rt tgo tca tki tso tbe twe xl tan tco ten), (kX3 gL u0 u1 u2 u3), (kX3 gR v0 v1 v2 v3), (kX4 aLa vLa l4 a4 n4), (kAI vLa cI 24 f4), (kX7 aPa vPa l7 a7 n7), (kAI vPa cI 39 f7), (kX2 aGe vGe l2 a2 n2), (kAI vGe cI 23 f2), (kX1 aFl vFl xn), (kAI vFl cI 32 ff)]) hP hD hC [0, 1, 2, 3, 4, 5, 6, 7, 8, 9] rfl (by decide +kernel) (by decide +kernel) hk1 hFc hP1 hD1 rfl
  clear hP hD hPc hDc hFc hC hP1 hD1 hK1 hz1 hk1 hvm ht
  obtain ⟨hP, hD⟩ := hJ
  generalize H1 = H at hP hS ⊢
  try dsimp only at hw
  refine k_topi (v := kIt xn ff f1 0) hw ?_
  refine lv_aload_n hx₀ hb dX11_prepare_23 rfl (lv_at hl 0 rfl) ?_
  refine va_get (D := (dC, dI)) (ci := 10) (v := .ref aFl) (C := RX11) (T := TX11) (N := 15) hx₀ hb hts inlX11 hown hK hP 0 rfl rfl 3 (by decide) (hts (.fieldLink RX11 33 "BittenStick" "flights" "LBittenStick$Flights;") wd_27) (fun _ h9 => h9) rfl dX11_prepare_24 ?_
  refine lv_iload_n hx₀ hb dX11_prepare_27 rfl (lv_at hl 1 rfl) ?_
  obtain ⟨hPc, hDc, hFc, hC⟩ := k_cw (wc := [(kX1 aFl vFl xn), (kAI vFl cI 32 ff)]) hP hD hS hA [10, 11] (by decide +kernel) rfl
  refine va_calli (va_runV (As := [.int f1]) (rest := [.int (kIt xn ff f1 0), .ref aTr]) ⟨hx₀, hb, hml, hown, hts⟩ (j_leftOf l dC dI cI cJ cQ H.size aFl f1 vFl xn ff (hh1)) (cwV 1 hts (kGV wd_444 wd_441 wd_442 wd_443 wd_26) rfl rfl rfl (by decide +kernel) ⟨Nat.le_of_ble_eq_true rfl, Nat.le_of_ble_eq_true rfl⟩) (k_preV1 (q0 := 0) hK hPc hDc hN rfl) rfl rfl hl.1 rfl (lv_room (Nat.le_of_ble_eq_true rfl)) dX11_prepare_28 ⟨by decide +kernel, by decide +kernel⟩) hS (fun q _ h => hFc q h) hFc (fun r_2 u₀ t₀ H1 locs ht hvm hw hB hz1 hk1 hS => ?_)
  obtain ⟨hP1, hK1, hD1⟩ := hB
  rw [ht] at hP1
  have hJ := k_jn (wr := [(kX11 hx aLa aPa aGe aFl aTr aBe aLu aLo vSf vSm vCo vSh xs xl xf), (kX10 aTr aLa aPa aGe gL gR lf rt tgo tca tki tso tbe twe xl tan tco ten), (kX3 gL u0 u1 u2 u3), (kX3 gR v0 v1 v2 v3), (kX4 aLa vLa l4 a4 n4), (kAI vLa cI 24 f4), (kX7 aPa vPa l7 a7 n7), (kAI vPa cI 39 f7), (kX2 aGe vGe l2 a2 n2), (kAI vGe cI 23 f2)]) (wt := [(kX11 hx aLa aPa aGe aFl aTr aBe aLu aLo vSf vSm vCo vSh xs xl xf), (kX10 aTr aLa aPa aGe gL gR lf rt tgo tca tki tso tbe twe xl tan tco ten), (kX3 gL u0 u1 u2 u3), (kX3 gR v0 v1 v2 v3), (kX4 aLa vLa l4 a4 n4), (kAI vLa cI 24 f4), (kX7 aPa vPa l7 a7 n7), (kAI vPa cI 39 f7), (kX2 aGe vGe l2 a2 n2), (kAI vGe cI 23 f2), (kX1 aFl vFl xn), (kAI vFl cI 32 ff)]) hP hD hC [0, 1, 2, 3, 4, 5, 6, 7, 8, 9] rfl (by decide +kernel) (by decide +kernel) hk1 hFc hP1 hD1 rfl
  clear hP hD hPc hDc hFc hC hP1 hD1 hK1 hz1 hk1 hvm ht
  obtain ⟨hP, hD⟩ := hJ
  generalize H1 = H at hP hS ⊢
  try dsimp only at hw
  refine k_topi (v := kIt xn ff f1 1) hw ?_
  refine lv_aload_n hx₀ hb dX11_prepare_31 rfl (lv_at hl 0 rfl) ?_
  refine va_get (D := (dC, dI)) (ci := 10) (v := .ref aFl) (C := RX11) (T := TX11) (N := 15) hx₀ hb hts inlX11 hown hK hP 0 rfl rfl 3 (by decide) (hts (.fieldLink RX11 33 "BittenStick" "flights" "LBittenStick$Flights;") wd_27) (fun _ h9 => h9) rfl dX11_prepare_32 ?_
  refine lv_iload_n hx₀ hb dX11_prepare_35 rfl (lv_at hl 1 rfl) ?_
  obtain ⟨hPc, hDc, hFc, hC⟩ := k_cw (wc := [(kX1 aFl vFl xn), (kAI vFl cI 32 ff)]) hP hD hS hA [10, 11] (by decide +kernel) rfl
  refine va_calli (va_runV (As := [.int f1]) (rest := [.int (kIt xn ff f1 1), .int (kIt xn ff f1 0), .ref aTr]) ⟨hx₀, hb, hml, hown, hts⟩ (j_rightOf l dC dI cI cJ cQ H.size aFl f1 vFl xn ff (hh1)) (cwV 1 hts (kGV wd_448 wd_445 wd_446 wd_447 wd_26) rfl rfl rfl (by decide +kernel) ⟨Nat.le_of_ble_eq_true rfl, Nat.le_of_ble_eq_true rfl⟩) (k_preV1 (q0 := 0) hK hPc hDc hN rfl) rfl rfl hl.1 rfl (lv_room (Nat.le_of_ble_eq_true rfl)) dX11_prepare_36 ⟨by decide +kernel, by decide +kernel⟩) hS (fun q _ h => hFc q h) hFc (fun r_3 u₀ t₀ H1 locs ht hvm hw hB hz1 hk1 hS => ?_)
  obtain ⟨hP1, hK1, hD1⟩ := hB
  rw [ht] at hP1
  have hJ := k_jn (wr := [(kX11 hx aLa aPa aGe aFl aTr aBe aLu aLo vSf vSm vCo vSh xs xl xf), (kX10 aTr aLa aPa aGe gL gR lf rt tgo tca tki tso tbe twe xl tan tco ten), (kX3 gL u0 u1 u2 u3), (kX3 gR v0 v1 v2 v3), (kX4 aLa vLa l4 a4 n4), (kAI vLa cI 24 f4), (kX7 aPa vPa l7 a7 n7), (kAI vPa cI 39 f7), (kX2 aGe vGe l2 a2 n2), (kAI vGe cI 23 f2)]) (wt := [(kX11 hx aLa aPa aGe aFl aTr aBe aLu aLo vSf vSm vCo vSh xs xl xf), (kX10 aTr aLa aPa aGe gL gR lf rt tgo tca tki tso tbe twe xl tan tco ten), (kX3 gL u0 u1 u2 u3), (kX3 gR v0 v1 v2 v3), (kX4 aLa vLa l4 a4 n4), (kAI vLa cI 24 f4), (kX7 aPa vPa l7 a7 n7), (kAI vPa cI 39 f7), (kX2 aGe vGe l2 a2 n2), (kAI vGe cI 23 f2), (kX1 aFl vFl xn), (kAI vFl cI 32 ff)]) hP hD hC [0, 1, 2, 3, 4, 5, 6, 7, 8, 9] rfl (by decide +kernel) (by decide +kernel) hk1 hFc hP1 hD1 rfl
  clear hP hD hPc hDc hFc hC hP1 hD1 hK1 hz1 hk1 hvm ht
  obtain ⟨hP, hD⟩ := hJ
  generalize H1 = H at hP hS ⊢
  try dsimp only at hw
  refine k_topi (v := kIt xn ff f1 2) hw ?_
  obtain ⟨hPc, hDc, hFc, hC⟩ := k_cw (wc := [(kX10 aTr aLa aPa aGe gL gR lf rt tgo tca tki tso tbe twe xl tan tco ten), (kX3 gL u0 u1 u2 u3), (kX3 gR v0 v1 v2 v3), (kX4 aLa vLa l4 a4 n4), (kAI vLa cI 24 f4), (kX7 aPa vPa l7 a7 n7), (kAI vPa cI 39 f7), (kX2 aGe vGe l2 a2 n2), (kAI vGe cI 23 f2)]) hP hD hS hA [1, 2, 3, 4, 5, 6, 7, 8, 9] (by decide +kernel) rfl
  refine va_callv (va_runV (As := [.int (kIt xn ff f1 0), .int (kIt xn ff f1 1), .int (kIt xn ff f1 2)]) (rest := []) ⟨hx₀, hb, hml, hown, hts⟩ (j_board l dC dI cI cJ cQ H.size aTr (kIt xn ff f1 0) (kIt xn ff f1 1) (kIt xn ff f1 2) aLa aPa aGe gL gR lf rt tgo tca tki tso tbe twe xl tan tco ten u0 u1 u2 u3 v0 v1 v2 v3 vLa l4 a4 n4 f4 vPa l7 a7 n7 f7 vGe l2 a2 n2 f2 (hh0)) (cwV 3 hts (kGV wd_452 wd_449 wd_450 wd_451 wd_30) rfl rfl rfl (by decide +kernel) ⟨Nat.le_of_ble_eq_true rfl, Nat.le_of_ble_eq_true rfl⟩) (k_preV9 (q0 := 0) hK hPc hDc hN rfl) rfl rfl hl.1 rfl (lv_room (Nat.le_of_ble_eq_true rfl)) dX11_prepare_39 ⟨by decide +kernel, by decide +kernel⟩) hS (fun q _ h => hFc q h) hFc (fun u₀ t₀ H1 locs ht hvm hw hB hz1 hk1 hS => ?_)
  obtain ⟨g_5, ga_6, gl_7, gb_8, gp_9⟩ := u₀
  obtain ⟨hP1, hK1, hD1⟩ := hB
  rw [ht] at hP1
  have hJ := k_jn (wr := [(kX11 hx aLa aPa aGe aFl aTr aBe aLu aLo vSf vSm vCo vSh xs xl xf), (kX1 aFl vFl xn), (kAI vFl cI 32 ff)]) (wt := [(kX11 hx aLa aPa aGe aFl aTr aBe aLu aLo vSf vSm vCo vSh xs xl xf), (kX1 aFl vFl xn), (kAI vFl cI 32 ff), (kX10 aTr aLa aPa aGe gL gR (gp_9 0) (gp_9 1) (g_5 8) (g_5 9) (g_5 10) (g_5 11) (g_5 12) (g_5 13) xl tan tco ten), (kX3 gL (g_5 0) (g_5 1) (g_5 2) (g_5 3)), (kX3 gR (g_5 4) (g_5 5) (g_5 6) (g_5 7)), (kX4 aLa vLa l4 a4 n4), (kAI vLa cI 24 f4), (kX7 aPa vPa l7 a7 n7), (kAI vPa cI 39 f7), (kX2 aGe vGe l2 a2 n2), (kAI vGe cI 23 f2)]) hP hD hC [0, 10, 11] rfl (by decide +kernel) (by decide +kernel) hk1 hFc hP1 hD1 rfl
  clear hP hD hPc hDc hFc hC hP1 hD1 hK1 hz1 hk1 hvm ht
  obtain ⟨hP, hD⟩ := hJ
  generalize H1 = H at hP hS ⊢
  try dsimp only at hw
  obtain ⟨c_10, c_11, c_12, c_13, c_14, c_15⟩ := hw
  obtain ⟨hP9, hD9⟩ := k_c2 (wc := [(kX11 hx aLa aPa aGe aFl aTr aBe aLu aLo vSf vSm vCo vSh xs xl xf), (kX10 aTr aLa aPa aGe gL gR (gp_9 0) (gp_9 1) (g_5 8) (g_5 9) (g_5 10) (g_5 11) (g_5 12) (g_5 13) xl tan tco ten), (kX3 gL (g_5 0) (g_5 1) (g_5 2) (g_5 3)), (kX3 gR (g_5 4) (g_5 5) (g_5 6) (g_5 7)), (kX4 aLa vLa l4 a4 n4), (kAI vLa cI 24 f4), (kX7 aPa vPa l7 a7 n7), (kAI vPa cI 39 f7), (kX2 aGe vGe l2 a2 n2), (kAI vGe cI 23 f2), (kX1 aFl vFl xn), (kAI vFl cI 32 ff)]) hP hD [0, 3, 4, 5, 6, 7, 8, 9, 10, 11, 1, 2] (by decide +kernel) rfl
  exact W.vret hx₀ hb hr (fun t₀ ht hW => ⟨⟨(k_fn [(g_5 0), (g_5 1), (g_5 2), (g_5 3), (g_5 4), (g_5 5), (g_5 6), (g_5 7), (g_5 8), (g_5 9), (g_5 10), (g_5 11), (g_5 12), (g_5 13), xl, tan, tco, ten], k_fa [], k_fl [], k_fL [], k_fp [(gp_9 0), (gp_9 1)]), rfl, ⟨c_10, c_11, c_12, c_13, c_14, c_15, (rfl)⟩, by rw [ht]; exact hP9, va_K.moved hW.alike hK, hD9⟩, hS.F ht⟩) hS.2.2 dX11_prepare_42
theorem lf_j_moodBehind_1 (a0 : Int32) (h0 : 0 ≤ a0 ∧ a0.toInt < 2147483647) : (0 : Int32) ≤ (a0 + 1) := by
  first | (first | omega | (have hr0 := Int32.toInt_lt a0; have hs0 := Int32.le_toInt a0; simp only [Int64.toInt_add, Int64.toInt_sub, Int32.toInt_add, Int32.toInt_sub, Int32.toInt_mul, Int64.le_iff_toInt_le, Int64.lt_iff_toInt_lt, Int32.le_iff_toInt_le, Int32.lt_iff_toInt_lt, ← Int32.toInt_inj, ← Int64.toInt_inj, Int32.toInt_toInt64, kc_0, kc_1, kc_2147483647, true_and, and_true, not_true_eq_false, not_false_eq_true] at * <;> ((first | omega | ((try simp (disch := omega) only [k_bm64] at *); (try simp (disch := omega) only [k_bm] at *); (try simp (disch := omega) only [k_bm] at *); omega) | (simp only [Int.bmod] at *; omega))))) | with_reducible assumption | rfl
set_option maxHeartbeats 4000000 in
set_option maxRecDepth 100000 in
theorem j_moodBehind (l : Launch) (dC : Nat → ClassId) (dI : Nat → Nat → Nat) (cI cJ cQ : ClassId) (sz : Nat) (hx : Nat) (f1 : Int32) (m1 : Int32) (w1 : Int32) (aLa : Nat) (aPa : Nat) (aGe : Nat) (aFl : Nat) (aTr : Nat) (aBe : Nat) (aLu : Nat) (aLo : Nat) (vSf : Nat) (vSm : Nat) (vCo : Nat) (vSh : Nat) (xs : Int32) (xl : Int32) (xf : Int32) (gL : Nat) (gR : Nat) (lf : Nat) (rt : Nat) (tgo : Int32) (tca : Int32) (tki : Int32) (tso : Int32) (tbe : Int32) (twe : Int32) (tle : Int32) (tan : Int32) (tco : Int32) (ten : Int32) (vLa : Nat) (l4 : Int32) (a4 : Int32) (n4 : Int32) (f4 : Nat → Int32) (vFl : Nat) (xn : Int32) (ff : Nat → Int32) (hh0 : 0 ≤ xn ∧ xn ≤ 8) (hh1 : 0 ≤ m1 ∧ m1.toInt < 2147483647) : Met l yX11_moodBehind (kW yX11_moodBehind cX11_moodBehind 5 (some .int)) { frames := 3, cells := 0, slots := 0, locals := 64 } (kPre dC dI cI cJ cQ sz [.ref hx, .int f1, .int m1, .int w1] [(kX11 hx aLa aPa aGe aFl aTr aBe aLu aLo vSf vSm vCo vSh xs xl xf), (kX10 aTr aLa aPa aGe gL gR lf rt tgo tca tki tso tbe twe tle tan tco ten), (kX4 aLa vLa l4 a4 n4), (kAI vLa cI 24 f4), (kX1 aFl vFl xn), (kAI vFl cI 32 ff)]) (va_Qi (fun (r : Int32) (u : kS) => (r = if tgo = 0 ∨ ((kGo (kAt 24 f4) tca tle tki tso tbe (fun _ => (kIt xn ff f1 3))) (kfu (m1 + 1) (0 : Int32)) (0 : Int32) (0 : Int32) (0 : Int32) (if tgo = 0 then 1 else 0)).1 < m1 then -1 else if w1 = 0 then ((kGo (kAt 24 f4) tca tle tki tso tbe (fun _ => (kIt xn ff f1 3))) (kfu (m1 + 1) (0 : Int32)) (0 : Int32) (0 : Int32) (0 : Int32) (if tgo = 0 then 1 else 0)).2.1 else ((kGo (kAt 24 f4) tca tle tki tso tbe (fun _ => (kIt xn ff f1 3))) (kfu (m1 + 1) (0 : Int32)) (0 : Int32) (0 : Int32) (0 : Int32) (if tgo = 0 then 1 else 0)).2.2.1)) (fun (u : kS) t₀ => kB dC dI cI cJ cQ (va_A [(kX11 hx aLa aPa aGe aFl aTr aBe aLu aLo vSf vSm vCo vSh xs xl xf), (kX10 aTr aLa aPa aGe gL gR lf rt tgo tca tki tso tbe twe tle tan tco ten), (kX4 aLa vLa l4 a4 n4), (kAI vLa cI 24 f4), (kX1 aFl vFl xn), (kAI vFl cI 32 ff)] sz) [(kX11 hx aLa aPa aGe aFl aTr aBe aLu aLo vSf vSm vCo vSh xs xl xf), (kX10 aTr aLa aPa aGe gL gR lf rt tgo tca tki tso tbe twe tle (u.1 0) (u.1 1) (u.1 2)), (kX4 aLa vLa l4 a4 n4), (kAI vLa cI 24 f4), (kX1 aFl vFl xn), (kAI vFl cI 32 ff)] t₀) (va_A [(kX11 hx aLa aPa aGe aFl aTr aBe aLu aLo vSf vSm vCo vSh xs xl xf), (kX10 aTr aLa aPa aGe gL gR lf rt tgo tca tki tso tbe twe tle tan tco ten), (kX4 aLa vLa l4 a4 n4), (kAI vLa cI 24 f4), (kX1 aFl vFl xn), (kAI vFl cI 32 ff)] sz)) 0 0 (va_A [(kX11 hx aLa aPa aGe aFl aTr aBe aLu aLo vSf vSm vCo vSh xs xl xf), (kX10 aTr aLa aPa aGe gL gR lf rt tgo tca tki tso tbe twe tle tan tco ten), (kX4 aLa vLa l4 a4 n4), (kAI vLa cI 24 f4), (kX1 aFl vFl xn), (kAI vFl cI 32 ff)] sz) := by
  refine Met.ofW (cc := cX11_moodBehind) (maxL := 5) (ret := (some .int)) (by decide) rfl ?_
  intro p₀ e₀ s₀ m₀ args below meth c₀ s₁ B hml hv₀
  obtain ⟨rfl, hsz, hP, hK, hD0, hN⟩ := hv₀
  have hx₀ := B.exec
  have hb := B.bytes
  have hr := B.returns
  have hts := atoms_spec (ws := (kW yX11_moodBehind cX11_moodBehind 5 (some .int))) B.pre
  have hts := fun w h => hts w (List.mem_cons_of_mem _ h)
  have hown : s₀.vm.findClass RX11 = some m₀.cls := findClass_of_methodNamed B.named
  have hlocks := B.notSynchronized
  subst hsz
  have hD := hD0.self (sz := s₀.heap.size)
  generalize hAe : va_A [(kX11 hx aLa aPa aGe aFl aTr aBe aLu aLo vSf vSm vCo vSh xs xl xf), (kX10 aTr aLa aPa aGe gL gR lf rt tgo tca tki tso tbe twe tle tan tco ten), (kX4 aLa vLa l4 a4 n4), (kAI vLa cI 24 f4), (kX1 aFl vFl xn), (kAI vFl cI 32 ff)] s₀.heap.size = A at hD ⊢
  have hA : ∀ q : Nat, s₀.heap.size ≤ q → A q := fun q h => by rw [← hAe]; exact Or.inr h
  have hS : va_S A s₀.heap s₀.heap [] := va_S.rf
  have hP : va_P (dC, dI) vwCl [(kX11 hx aLa aPa aGe aFl aTr aBe aLu aLo vSf vSm vCo vSh xs xl xf), (kX10 aTr aLa aPa aGe gL gR lf rt tgo tca tki tso tbe twe tle tan tco ten), (kX4 aLa vLa l4 a4 n4), (kAI vLa cI 24 f4), (kX1 aFl vFl xn), (kAI vFl cI 32 ff)] s₀.heap := hP
  have hl := lv_entry ([.ref hx, .int f1, .int m1, .int w1]) (n := 5) (Nat.le_of_ble_eq_true rfl)
  rw [lg_entry_eq]
  generalize (lg_sl ([.ref hx, .int f1, .int m1, .int w1]) ++ List.replicate (5 - (lg_sl ([.ref hx, .int f1, .int m1, .int w1])).length) Slot.unset).toArray = ls at hl ⊢
  have hl : lv_has ls 5 [(0, .ref hx), (1, .int f1), (2, .int m1), (3, .int w1)] := hl
  obtain ⟨H, hH⟩ : ∃ z : Heap, z = s₀.heap := ⟨_, rfl⟩
  rw [← hH] at hP
  have hS : va_S A s₀.heap H [] := by rw [hH]; exact hS
  refine k_heap hH ?_
  have hD : va_D A [(kX11 hx aLa aPa aGe aFl aTr aBe aLu aLo vSf vSm vCo vSh xs xl xf), (kX10 aTr aLa aPa aGe gL gR lf rt tgo tca tki tso tbe twe tle tan tco ten), (kX4 aLa vLa l4 a4 n4), (kAI vLa cI 24 f4), (kX1 aFl vFl xn), (kAI vFl cI 32 ff)] := hD
  obtain ⟨locs, hlo⟩ : ∃ z : List Loc, z = [] := ⟨_, rfl⟩
  rw [← hlo] at hS ⊢
  clear hlo hH hAe hD0
  refine lv_aload_n hx₀ hb dX11_moodBehind_0 rfl (lv_at hl 0 rfl) ?_
  refine va_get (D := (dC, dI)) (ci := 10) (v := .ref aTr) (C := RX11) (T := TX11) (N := 15) hx₀ hb hts inlX11 hown hK hP 0 rfl rfl 4 (by decide) (hts (.fieldLink RX11 42 "BittenStick" "trip" "LBittenStick$Trip;") wd_31) (fun _ h9 => h9) rfl dX11_moodBehind_1 ?_
  obtain ⟨hPc, hDc, hFc, hC⟩ := k_cw (wc := [(kX10 aTr aLa aPa aGe gL gR lf rt tgo tca tki tso tbe twe tle tan tco ten)]) hP hD hS hA [1] (by decide +kernel) rfl
  refine va_callv (va_runV (As := []) (rest := []) ⟨hx₀, hb, hml, hown, hts⟩ (j_tSet l dC dI cI cJ cQ H.size aTr aLa aPa aGe gL gR lf rt tgo tca tki tso tbe twe tle tan tco ten) (cwV 0 hts (kGV wd_499 wd_581 wd_497 wd_498 wd_30) rfl rfl rfl (by decide +kernel) ⟨Nat.le_of_ble_eq_true rfl, Nat.le_of_ble_eq_true rfl⟩) (k_preV9 (q0 := 0) hK hPc hDc hN rfl) rfl rfl hl.1 rfl (lv_room (Nat.le_of_ble_eq_true rfl)) dX11_moodBehind_4 ⟨by decide +kernel, by decide +kernel⟩) hS (fun q _ h => hFc q h) hFc (fun u₀ t₀ H1 locs ht hvm hw hB hz1 hk1 hS => ?_)
  obtain ⟨g_2, ga_3, gl_4, gb_5, gp_6⟩ := u₀
  obtain ⟨hP1, hK1, hD1⟩ := hB
  rw [ht] at hP1
  have hJ := k_jn (wr := [(kX11 hx aLa aPa aGe aFl aTr aBe aLu aLo vSf vSm vCo vSh xs xl xf), (kX4 aLa vLa l4 a4 n4), (kAI vLa cI 24 f4), (kX1 aFl vFl xn), (kAI vFl cI 32 ff)]) (wt := [(kX11 hx aLa aPa aGe aFl aTr aBe aLu aLo vSf vSm vCo vSh xs xl xf), (kX4 aLa vLa l4 a4 n4), (kAI vLa cI 24 f4), (kX1 aFl vFl xn), (kAI vFl cI 32 ff), (kX10 aTr aLa aPa aGe gL gR lf rt tgo tca tki tso tbe twe tle 0 0 (g_2 0))]) hP hD hC [0, 2, 3, 4, 5] rfl (by decide +kernel) (by decide +kernel) hk1 hFc hP1 hD1 rfl
  clear hP hD hPc hDc hFc hC hP1 hD1 hK1 hz1 hk1 hvm ht
  obtain ⟨hP, hD⟩ := hJ
  generalize H1 = H at hP hS ⊢
  try dsimp only at hw
  have c_7 := hw
  rw [c_7] at hP hD
  replace hP := k_w2 (wt := [(kX11 hx aLa aPa aGe aFl aTr aBe aLu aLo vSf vSm vCo vSh xs xl xf), (kX4 aLa vLa l4 a4 n4), (kAI vLa cI 24 f4), (kX1 aFl vFl xn), (kAI vFl cI 32 ff), (kX10 aTr aLa aPa aGe gL gR lf rt tgo tca tki tso tbe twe tle 0 0 (if tgo = 0 then 1 else 0))]) hP hD rfl
  replace hD := hP.2
  replace hP := hP.1
  refine lv_aload_n hx₀ hb dX11_moodBehind_7 rfl (lv_at hl 0 rfl) ?_
  refine va_get (D := (dC, dI)) (ci := 10) (v := .ref aTr) (C := RX11) (T := TX11) (N := 15) hx₀ hb hts inlX11 hown hK hP 0 rfl rfl 4 (by decide) (hts (.fieldLink RX11 42 "BittenStick" "trip" "LBittenStick$Trip;") wd_31) (fun _ h9 => h9) rfl dX11_moodBehind_8 ?_
  refine lv_iconst (v := 0) hx₀ hb dX11_moodBehind_11 (by decide +kernel) ?_
  refine lv_iload_n hx₀ hb dX11_moodBehind_12 rfl (lv_at hl 2 rfl) ?_
  refine lv_iconst (v := 1) hx₀ hb dX11_moodBehind_13 (by decide +kernel) ?_
  refine lv_iadd hx₀ hb dX11_moodBehind_14 ?_
  refine lv_aload_n hx₀ hb dX11_moodBehind_15 rfl (lv_at hl 0 rfl) ?_
  refine va_get (D := (dC, dI)) (ci := 10) (v := .ref aFl) (C := RX11) (T := TX11) (N := 15) hx₀ hb hts inlX11 hown hK hP 0 rfl rfl 3 (by decide) (hts (.fieldLink RX11 33 "BittenStick" "flights" "LBittenStick$Flights;") wd_27) (fun _ h9 => h9) rfl dX11_moodBehind_16 ?_
  refine lv_iload_n hx₀ hb dX11_moodBehind_19 rfl (lv_at hl 1 rfl) ?_
  obtain ⟨hPc, hDc, hFc, hC⟩ := k_cw (wc := [(kX1 aFl vFl xn), (kAI vFl cI 32 ff)]) hP hD hS hA [3, 4] (by decide +kernel) rfl
  refine va_calli (va_runV (As := [.int f1]) (rest := [.int (m1 + 1), .int 0, .ref aTr]) ⟨hx₀, hb, hml, hown, hts⟩ (j_heightOf l dC dI cI cJ cQ H.size aFl f1 vFl xn ff (hh0)) (cwV 1 hts (kGV wd_491 wd_488 wd_489 wd_490 wd_26) rfl rfl rfl (by decide +kernel) ⟨Nat.le_of_ble_eq_true rfl, Nat.le_of_ble_eq_true rfl⟩) (k_preV1 (q0 := 0) hK hPc hDc hN rfl) rfl rfl hl.1 rfl (lv_room (Nat.le_of_ble_eq_true rfl)) dX11_moodBehind_20 ⟨by decide +kernel, by decide +kernel⟩) hS (fun q _ h => hFc q h) hFc (fun r_8 u₀ t₀ H1 locs ht hvm hw hB hz1 hk1 hS => ?_)
  obtain ⟨hP1, hK1, hD1⟩ := hB
  rw [ht] at hP1
  have hJ := k_jn (wr := [(kX11 hx aLa aPa aGe aFl aTr aBe aLu aLo vSf vSm vCo vSh xs xl xf), (kX4 aLa vLa l4 a4 n4), (kAI vLa cI 24 f4), (kX10 aTr aLa aPa aGe gL gR lf rt tgo tca tki tso tbe twe tle 0 0 (if tgo = 0 then 1 else 0))]) (wt := [(kX11 hx aLa aPa aGe aFl aTr aBe aLu aLo vSf vSm vCo vSh xs xl xf), (kX4 aLa vLa l4 a4 n4), (kAI vLa cI 24 f4), (kX10 aTr aLa aPa aGe gL gR lf rt tgo tca tki tso tbe twe tle 0 0 (if tgo = 0 then 1 else 0)), (kX1 aFl vFl xn), (kAI vFl cI 32 ff)]) hP hD hC [0, 1, 2, 5] rfl (by decide +kernel) (by decide +kernel) hk1 hFc hP1 hD1 rfl
  clear hP hD hPc hDc hFc hC hP1 hD1 hK1 hz1 hk1 hvm ht
  obtain ⟨hP, hD⟩ := hJ
  generalize H1 = H at hP hS ⊢
  try dsimp only at hw
  refine k_topi (v := kIt xn ff f1 3) hw ?_
  obtain ⟨hPc, hDc, hFc, hC⟩ := k_cw (wc := [(kX10 aTr aLa aPa aGe gL gR lf rt tgo tca tki tso tbe twe tle 0 0 (if tgo = 0 then 1 else 0)), (kX4 aLa vLa l4 a4 n4), (kAI vLa cI 24 f4)]) hP hD hS hA [3, 1, 2] (by decide +kernel) rfl
  refine va_calli (va_runV (As := [.int 0, .int (m1 + 1), .int (kIt xn ff f1 3)]) (rest := []) ⟨hx₀, hb, hml, hown, hts⟩ (e_goOn l dC dI cI cJ cQ H.size aTr 0 (m1 + 1) (kIt xn ff f1 3) aLa aPa aGe gL gR lf rt tgo tca tki tso tbe twe tle 0 0 (if tgo = 0 then 1 else 0) vLa l4 a4 n4 f4 (lf_j_moodBehind_1 m1 hh1)) (cwV 3 hts (kGV wd_506 wd_582 wd_504 wd_505 wd_30) rfl rfl rfl (by decide +kernel) ⟨Nat.le_of_ble_eq_true rfl, Nat.le_of_ble_eq_true rfl⟩) (k_preV9 (q0 := 0) hK hPc hDc hN rfl) rfl rfl hl.1 rfl (lv_room (Nat.le_of_ble_eq_true rfl)) dX11_moodBehind_23 ⟨by decide +kernel, by decide +kernel⟩) hS (fun q _ h => hFc q h) hFc (fun r_9 u₀ t₀ H1 locs ht hvm hw hB hz1 hk1 hS => ?_)
  obtain ⟨g_10, ga_11, gl_12, gb_13, gp_14⟩ := u₀
  obtain ⟨hP1, hK1, hD1⟩ := hB
  rw [ht] at hP1
  have hJ := k_jn (wr := [(kX11 hx aLa aPa aGe aFl aTr aBe aLu aLo vSf vSm vCo vSh xs xl xf), (kX1 aFl vFl xn), (kAI vFl cI 32 ff)]) (wt := [(kX11 hx aLa aPa aGe aFl aTr aBe aLu aLo vSf vSm vCo vSh xs xl xf), (kX1 aFl vFl xn), (kAI vFl cI 32 ff), (kX10 aTr aLa aPa aGe gL gR lf rt tgo tca tki tso tbe twe tle (g_10 0) (g_10 1) (g_10 2)), (kX4 aLa vLa l4 a4 n4), (kAI vLa cI 24 f4)]) hP hD hC [0, 4, 5] rfl (by decide +kernel) (by decide +kernel) hk1 hFc hP1 hD1 rfl
  clear hP hD hPc hDc hFc hC hP1 hD1 hK1 hz1 hk1 hvm ht
  obtain ⟨hP, hD⟩ := hJ
  generalize H1 = H at hP hS ⊢
  try dsimp only at hw
  obtain ⟨c_15, c_16, c_17, c_18⟩ := hw
  refine lv_istore (lv' := [(4, .int r_9), (0, .ref hx), (1, .int f1), (2, .int m1), (3, .int w1)]) hx₀ hb dX11_moodBehind_26 hl (by decide) rfl (fun ls hl => ?_)
  refine lv_aload_n hx₀ hb dX11_moodBehind_28 rfl (lv_at hl 1 rfl) ?_
  refine va_get (D := (dC, dI)) (ci := 10) (v := .ref aTr) (C := RX11) (T := TX11) (N := 15) hx₀ hb hts inlX11 hown hK hP 0 rfl rfl 4 (by decide) (hts (.fieldLink RX11 42 "BittenStick" "trip" "LBittenStick$Trip;") wd_31) (fun _ h9 => h9) rfl dX11_moodBehind_29 ?_
  refine va_get (D := (dC, dI)) (ci := 9) (v := .int tgo) (C := RX10) (T := TX10) (N := 17) hx₀ hb hts inlX10 hown hK hP 3 rfl rfl 7 (by decide) (hts (.fieldLink RX11 338 "BittenStick$Trip" "goes" "Z") wd_578) (fun _ h9 => h9) rfl dX11_moodBehind_32 ?_
  refine lv_if_eq (tgt := 44) hx₀ hb dX11_moodBehind_35 (by decide) (fun c_19 => ?_) (fun c_19 => ?_)
  · refine lv_iconst (v := (-1)) hx₀ hb dX11_moodBehind_44 (by decide +kernel) ?_
    obtain ⟨hP9, hD9⟩ := k_c2 (wc := [(kX11 hx aLa aPa aGe aFl aTr aBe aLu aLo vSf vSm vCo vSh xs xl xf), (kX10 aTr aLa aPa aGe gL gR lf rt tgo tca tki tso tbe twe tle (g_10 0) (g_10 1) (g_10 2)), (kX4 aLa vLa l4 a4 n4), (kAI vLa cI 24 f4), (kX1 aFl vFl xn), (kAI vFl cI 32 ff)]) hP hD [0, 3, 4, 5, 1, 2] (by decide +kernel) rfl
    exact W.iret (v := (-1)) hx₀ hb hr (fun t₀ ht hW => ⟨⟨(-1), (k_fn [(g_10 0), (g_10 1), (g_10 2)], k_fa [], k_fl [], k_fL [], k_fp []), rfl, (show ((-1) : Int32) = if tgo = 0 ∨ ((kGo (kAt 24 f4) tca tle tki tso tbe (fun _ => (kIt xn ff f1 3))) (kfu (m1 + 1) (0 : Int32)) (0 : Int32) (0 : Int32) (0 : Int32) (if tgo = 0 then 1 else 0)).1 < m1 then -1 else if w1 = 0 then ((kGo (kAt 24 f4) tca tle tki tso tbe (fun _ => (kIt xn ff f1 3))) (kfu (m1 + 1) (0 : Int32)) (0 : Int32) (0 : Int32) (0 : Int32) (if tgo = 0 then 1 else 0)).2.1 else ((kGo (kAt 24 f4) tca tle tki tso tbe (fun _ => (kIt xn ff f1 3))) (kfu (m1 + 1) (0 : Int32)) (0 : Int32) (0 : Int32) (0 : Int32) (if tgo = 0 then 1 else 0)).2.2.1 from (if_pos (show tgo = 0 ∨ ((kGo (kAt 24 f4) tca tle tki tso tbe (fun _ => (kIt xn ff f1 3))) (kfu (m1 + 1) (0 : Int32)) (0 : Int32) (0 : Int32) (0 : Int32) (if tgo = 0 then 1 else 0)).1 < m1 from (Or.inl (c_19)))).symm), by rw [ht]; exact hP9, va_K.moved hW.alike hK, hD9⟩, hS.F ht⟩) hS.2.2 dX11_moodBehind_45
  · refine lv_iload hx₀ hb dX11_moodBehind_38 (lv_at hl 0 rfl) ?_
    refine lv_iload_n hx₀ hb dX11_moodBehind_40 rfl (lv_at hl 3 rfl) ?_
    refine lv_icmp_ge (tgt := 46) hx₀ hb dX11_moodBehind_41 (by decide) (fun c_20 => ?_) (fun c_20 => ?_)
    · refine lv_iload_n hx₀ hb dX11_moodBehind_46 rfl (lv_at hl 4 rfl) ?_
      refine lv_if_ne (tgt := 60) hx₀ hb dX11_moodBehind_47 (by decide) (fun c_21 => ?_) (fun c_21 => ?_)
      · refine lv_aload_n hx₀ hb dX11_moodBehind_60 rfl (lv_at hl 1 rfl) ?_
        refine va_get (D := (dC, dI)) (ci := 10) (v := .ref aTr) (C := RX11) (T := TX11) (N := 15) hx₀ hb hts inlX11 hown hK hP 0 rfl rfl 4 (by decide) (hts (.fieldLink RX11 42 "BittenStick" "trip" "LBittenStick$Trip;") wd_31) (fun _ h9 => h9) rfl dX11_moodBehind_61 ?_
        refine va_get (D := (dC, dI)) (ci := 9) (v := .int (g_10 1)) (C := RX10) (T := TX10) (N := 17) hx₀ hb hts inlX10 hown hK hP 3 rfl rfl 15 (by decide) (hts (.fieldLink RX11 344 "BittenStick$Trip" "cold" "I") wd_580) (fun _ h9 => h9) rfl dX11_moodBehind_64 ?_
        obtain ⟨hP9, hD9⟩ := k_c2 (wc := [(kX11 hx aLa aPa aGe aFl aTr aBe aLu aLo vSf vSm vCo vSh xs xl xf), (kX10 aTr aLa aPa aGe gL gR lf rt tgo tca tki tso tbe twe tle (g_10 0) (g_10 1) (g_10 2)), (kX4 aLa vLa l4 a4 n4), (kAI vLa cI 24 f4), (kX1 aFl vFl xn), (kAI vFl cI 32 ff)]) hP hD [0, 3, 4, 5, 1, 2] (by decide +kernel) rfl
        exact W.iret (v := g_10 1) hx₀ hb hr (fun t₀ ht hW => ⟨⟨g_10 1, (k_fn [(g_10 0), (g_10 1), (g_10 2)], k_fa [], k_fl [], k_fL [], k_fp []), rfl, (by rewrite [← c_15, ← c_16, ← c_17]; exact show (g_10 1 : Int32) = if tgo = 0 ∨ r_9 < m1 then -1 else if w1 = 0 then (g_10 0) else (g_10 1) from (((if_neg (c_21)).symm).trans (if_neg (show ¬ (tgo = 0 ∨ r_9 < m1) from (fun z => z.elim c_19 (Int32.not_lt.mpr c_20)))).symm)), by rw [ht]; exact hP9, va_K.moved hW.alike hK, hD9⟩, hS.F ht⟩) hS.2.2 dX11_moodBehind_67
      · refine lv_aload_n hx₀ hb dX11_moodBehind_50 rfl (lv_at hl 1 rfl) ?_
        refine va_get (D := (dC, dI)) (ci := 10) (v := .ref aTr) (C := RX11) (T := TX11) (N := 15) hx₀ hb hts inlX11 hown hK hP 0 rfl rfl 4 (by decide) (hts (.fieldLink RX11 42 "BittenStick" "trip" "LBittenStick$Trip;") wd_31) (fun _ h9 => h9) rfl dX11_moodBehind_51 ?_
        refine va_get (D := (dC, dI)) (ci := 9) (v := .int (g_10 0)) (C := RX10) (T := TX10) (N := 17) hx₀ hb hts inlX10 hown hK hP 3 rfl rfl 14 (by decide) (hts (.fieldLink RX11 341 "BittenStick$Trip" "anger" "I") wd_579) (fun _ h9 => h9) rfl dX11_moodBehind_54 ?_
        refine lv_goto (tgt := 67) hx₀ hb dX11_moodBehind_57 (by decide) ?_
        obtain ⟨hP9, hD9⟩ := k_c2 (wc := [(kX11 hx aLa aPa aGe aFl aTr aBe aLu aLo vSf vSm vCo vSh xs xl xf), (kX10 aTr aLa aPa aGe gL gR lf rt tgo tca tki tso tbe twe tle (g_10 0) (g_10 1) (g_10 2)), (kX4 aLa vLa l4 a4 n4), (kAI vLa cI 24 f4), (kX1 aFl vFl xn), (kAI vFl cI 32 ff)]) hP hD [0, 3, 4, 5, 1, 2] (by decide +kernel) rfl
        exact W.iret (v := g_10 0) hx₀ hb hr (fun t₀ ht hW => ⟨⟨g_10 0, (k_fn [(g_10 0), (g_10 1), (g_10 2)], k_fa [], k_fl [], k_fL [], k_fp []), rfl, (by rewrite [← c_15, ← c_16, ← c_17]; exact show (g_10 0 : Int32) = if tgo = 0 ∨ r_9 < m1 then -1 else if w1 = 0 then (g_10 0) else (g_10 1) from (((if_pos (c_21)).symm).trans (if_neg (show ¬ (tgo = 0 ∨ r_9 < m1) from (fun z => z.elim c_19 (Int32.not_lt.mpr c_20)))).symm)), by rw [ht]; exact hP9, va_K.moved hW.alike hK, hD9⟩, hS.F ht⟩) hS.2.2 dX11_moodBehind_67
    · refine lv_iconst (v := (-1)) hx₀ hb dX11_moodBehind_44 (by decide +kernel) ?_
      obtain ⟨hP9, hD9⟩ := k_c2 (wc := [(kX11 hx aLa aPa aGe aFl aTr aBe aLu aLo vSf vSm vCo vSh xs xl xf), (kX10 aTr aLa aPa aGe gL gR lf rt tgo tca tki tso tbe twe tle (g_10 0) (g_10 1) (g_10 2)), (kX4 aLa vLa l4 a4 n4), (kAI vLa cI 24 f4), (kX1 aFl vFl xn), (kAI vFl cI 32 ff)]) hP hD [0, 3, 4, 5, 1, 2] (by decide +kernel) rfl
      exact W.iret (v := (-1)) hx₀ hb hr (fun t₀ ht hW => ⟨⟨(-1), (k_fn [(g_10 0), (g_10 1), (g_10 2)], k_fa [], k_fl [], k_fL [], k_fp []), rfl, (by rewrite [← c_15, ← c_16, ← c_17]; exact show ((-1) : Int32) = if tgo = 0 ∨ r_9 < m1 then -1 else if w1 = 0 then (g_10 0) else (g_10 1) from (if_pos (show tgo = 0 ∨ r_9 < m1 from (Or.inr ((Int32.not_le.mp c_20))))).symm), by rw [ht]; exact hP9, va_K.moved hW.alike hK, hD9⟩, hS.F ht⟩) hS.2.2 dX11_moodBehind_45
theorem lf_j_strengthBehind_1 (a0 : Int32) (a1 : Int32) (h0 : 0 ≤ a0 ∧ a0.toInt < 2147483647) (h1 : a0 ≤ a1) (h2 : a1 ≤ a0) : -1 ≤ a0 ∧ a0.toInt < 2147483647 := by
  first | (first | omega | (have hr0 := Int32.toInt_lt a0; have hs0 := Int32.le_toInt a0; have hr1 := Int32.toInt_lt a1; have hs1 := Int32.le_toInt a1; simp only [Int64.toInt_add, Int64.toInt_sub, Int32.toInt_add, Int32.toInt_sub, Int32.toInt_mul, Int64.le_iff_toInt_le, Int64.lt_iff_toInt_lt, Int32.le_iff_toInt_le, Int32.lt_iff_toInt_lt, ← Int32.toInt_inj, ← Int64.toInt_inj, Int32.toInt_toInt64, kc_m1, kc_0, kc_1, kc_2147483647, true_and, and_true, not_true_eq_false, not_false_eq_true] at * <;> ((first | omega | ((try simp (disch := omega) only [k_bm64] at *); (try simp (disch := omega) only [k_bm] at *); (try simp (disch := omega) only [k_bm] at *); omega) | (simp only [Int.bmod] at *; omega))))) | with_reducible assumption | rfl
theorem lf_j_strengthBehind_2 (a0 : Int32) (a1 : Int32) (h0 : 0 ≤ a0 ∧ a0.toInt < 2147483647) (h1 : a0 ≤ a1) (h2 : ¬ a1 ≤ a0) : -1 ≤ a0 ∧ a0.toInt < 2147483647 := by
  first | (first | omega | (have hr0 := Int32.toInt_lt a0; have hs0 := Int32.le_toInt a0; have hr1 := Int32.toInt_lt a1; have hs1 := Int32.le_toInt a1; simp only [Int64.toInt_add, Int64.toInt_sub, Int32.toInt_add, Int32.toInt_sub, Int32.toInt_mul, Int64.le_iff_toInt_le, Int64.lt_iff_toInt_lt, Int32.le_iff_toInt_le, Int32.lt_iff_toInt_lt, ← Int32.toInt_inj, ← Int64.toInt_inj, Int32.toInt_toInt64, kc_m1, kc_0, kc_1, kc_2147483647, true_and, and_true, not_true_eq_false, not_false_eq_true] at * <;> ((first | omega | ((try simp (disch := omega) only [k_bm64] at *); (try simp (disch := omega) only [k_bm] at *); (try simp (disch := omega) only [k_bm] at *); omega) | (simp only [Int.bmod] at *; omega))))) | with_reducible assumption | rfl
set_option maxHeartbeats 4000000 in
set_option maxRecDepth 100000 in
theorem j_strengthBehind (l : Launch) (dC : Nat → ClassId) (dI : Nat → Nat → Nat) (cI cJ cQ : ClassId) (sz : Nat) (hx : Nat) (f1 : Int32) (m1 : Int32) (w1 : Int32) (aLa : Nat) (aPa : Nat) (aGe : Nat) (aFl : Nat) (aTr : Nat) (aBe : Nat) (aLu : Nat) (aLo : Nat) (vSf : Nat) (vSm : Nat) (vCo : Nat) (vSh : Nat) (xs : Int32) (xl : Int32) (xf : Int32) (gL : Nat) (gR : Nat) (lf : Nat) (rt : Nat) (tgo : Int32) (tca : Int32) (tki : Int32) (tso : Int32) (tbe : Int32) (twe : Int32) (tle : Int32) (tan : Int32) (tco : Int32) (ten : Int32) (u0 : Int32) (u1 : Int32) (u2 : Int32) (u3 : Int32) (v0 : Int32) (v1 : Int32) (v2 : Int32) (v3 : Int32) (vLa : Nat) (l4 : Int32) (a4 : Int32) (n4 : Int32) (f4 : Nat → Int32) (vPa : Nat) (l7 : Int32) (a7 : Int32) (n7 : Int32) (f7 : Nat → Int32) (vGe : Nat) (l2 : Int32) (a2 : Int32) (n2 : Int32) (f2 : Nat → Int32) (vFl : Nat) (xn : Int32) (ff : Nat → Int32) (hh0 : 0 ≤ n4 ∧ n4 ≤ 24) (hh1 : 0 ≤ xn ∧ xn ≤ 8) (hh2 : 0 ≤ m1 ∧ m1.toInt < 2147483647) : Met l yX11_strengthBehind (kW yX11_strengthBehind cX11_strengthBehind 5 (some .int)) { frames := 3, cells := 0, slots := 0, locals := 70 } (kPre dC dI cI cJ cQ sz [.ref hx, .int f1, .int m1, .int w1] [(kX11 hx aLa aPa aGe aFl aTr aBe aLu aLo vSf vSm vCo vSh xs xl xf), (kX10 aTr aLa aPa aGe gL gR lf rt tgo tca tki tso tbe twe tle tan tco ten), (kX3 gL u0 u1 u2 u3), (kX3 gR v0 v1 v2 v3), (kX4 aLa vLa l4 a4 n4), (kAI vLa cI 24 f4), (kX7 aPa vPa l7 a7 n7), (kAI vPa cI 39 f7), (kX2 aGe vGe l2 a2 n2), (kAI vGe cI 23 f2), (kX1 aFl vFl xn), (kAI vFl cI 32 ff)]) (va_Qi (fun (r : Int32) (u : kS) => True) (fun (u : kS) t₀ => kB dC dI cI cJ cQ (va_A [(kX11 hx aLa aPa aGe aFl aTr aBe aLu aLo vSf vSm vCo vSh xs xl xf), (kX10 aTr aLa aPa aGe gL gR lf rt tgo tca tki tso tbe twe tle tan tco ten), (kX3 gL u0 u1 u2 u3), (kX3 gR v0 v1 v2 v3), (kX4 aLa vLa l4 a4 n4), (kAI vLa cI 24 f4), (kX7 aPa vPa l7 a7 n7), (kAI vPa cI 39 f7), (kX2 aGe vGe l2 a2 n2), (kAI vGe cI 23 f2), (kX1 aFl vFl xn), (kAI vFl cI 32 ff)] sz) [(kX11 hx aLa aPa aGe aFl aTr aBe aLu aLo vSf vSm vCo vSh xs xl xf), (kX10 aTr aLa aPa aGe gL gR (u.2.2.2.2 0) (u.2.2.2.2 1) (u.1 8) (u.1 9) (u.1 10) (u.1 11) (u.1 12) (u.1 13) (u.1 14) (u.1 15) (u.1 16) (u.1 17)), (kX3 gL (u.1 0) (u.1 1) (u.1 2) (u.1 3)), (kX3 gR (u.1 4) (u.1 5) (u.1 6) (u.1 7)), (kX4 aLa vLa l4 a4 n4), (kAI vLa cI 24 f4), (kX7 aPa vPa l7 a7 n7), (kAI vPa cI 39 f7), (kX2 aGe vGe l2 a2 n2), (kAI vGe cI 23 f2), (kX1 aFl vFl xn), (kAI vFl cI 32 ff)] t₀) (va_A [(kX11 hx aLa aPa aGe aFl aTr aBe aLu aLo vSf vSm vCo vSh xs xl xf), (kX10 aTr aLa aPa aGe gL gR lf rt tgo tca tki tso tbe twe tle tan tco ten), (kX3 gL u0 u1 u2 u3), (kX3 gR v0 v1 v2 v3), (kX4 aLa vLa l4 a4 n4), (kAI vLa cI 24 f4), (kX7 aPa vPa l7 a7 n7), (kAI vPa cI 39 f7), (kX2 aGe vGe l2 a2 n2), (kAI vGe cI 23 f2), (kX1 aFl vFl xn), (kAI vFl cI 32 ff)] sz)) 0 0 (va_A [(kX11 hx aLa aPa aGe aFl aTr aBe aLu aLo vSf vSm vCo vSh xs xl xf), (kX10 aTr aLa aPa aGe gL gR lf rt tgo tca tki tso tbe twe tle tan tco ten), (kX3 gL u0 u1 u2 u3), (kX3 gR v0 v1 v2 v3), (kX4 aLa vLa l4 a4 n4), (kAI vLa cI 24 f4), (kX7 aPa vPa l7 a7 n7), (kAI vPa cI 39 f7), (kX2 aGe vGe l2 a2 n2), (kAI vGe cI 23 f2), (kX1 aFl vFl xn), (kAI vFl cI 32 ff)] sz) := by
  refine Met.ofW (cc := cX11_strengthBehind) (maxL := 5) (ret := (some .int)) (by decide) rfl ?_
  intro p₀ e₀ s₀ m₀ args below meth c₀ s₁ B hml hv₀
  obtain ⟨rfl, hsz, hP, hK, hD0, hN⟩ := hv₀
  have hx₀ := B.exec
  have hb := B.bytes
  have hr := B.returns
  have hts := atoms_spec (ws := (kW yX11_strengthBehind cX11_strengthBehind 5 (some .int))) B.pre
  have hts := fun w h => hts w (List.mem_cons_of_mem _ h)
  have hown : s₀.vm.findClass RX11 = some m₀.cls := findClass_of_methodNamed B.named
  have hlocks := B.notSynchronized
  subst hsz
  have hD := hD0.self (sz := s₀.heap.size)
  generalize hAe : va_A [(kX11 hx aLa aPa aGe aFl aTr aBe aLu aLo vSf vSm vCo vSh xs xl xf), (kX10 aTr aLa aPa aGe gL gR lf rt tgo tca tki tso tbe twe tle tan tco ten), (kX3 gL u0 u1 u2 u3), (kX3 gR v0 v1 v2 v3), (kX4 aLa vLa l4 a4 n4), (kAI vLa cI 24 f4), (kX7 aPa vPa l7 a7 n7), (kAI vPa cI 39 f7), (kX2 aGe vGe l2 a2 n2), (kAI vGe cI 23 f2), (kX1 aFl vFl xn), (kAI vFl cI 32 ff)] s₀.heap.size = A at hD ⊢
  have hA : ∀ q : Nat, s₀.heap.size ≤ q → A q := fun q h => by rw [← hAe]; exact Or.inr h
  have hS : va_S A s₀.heap s₀.heap [] := va_S.rf
  have hP : va_P (dC, dI) vwCl [(kX11 hx aLa aPa aGe aFl aTr aBe aLu aLo vSf vSm vCo vSh xs xl xf), (kX10 aTr aLa aPa aGe gL gR lf rt tgo tca tki tso tbe twe tle tan tco ten), (kX3 gL u0 u1 u2 u3), (kX3 gR v0 v1 v2 v3), (kX4 aLa vLa l4 a4 n4), (kAI vLa cI 24 f4), (kX7 aPa vPa l7 a7 n7), (kAI vPa cI 39 f7), (kX2 aGe vGe l2 a2 n2), (kAI vGe cI 23 f2), (kX1 aFl vFl xn), (kAI vFl cI 32 ff)] s₀.heap := hP
  have hl := lv_entry ([.ref hx, .int f1, .int m1, .int w1]) (n := 5) (Nat.le_of_ble_eq_true rfl)
  rw [lg_entry_eq]
  generalize (lg_sl ([.ref hx, .int f1, .int m1, .int w1]) ++ List.replicate (5 - (lg_sl ([.ref hx, .int f1, .int m1, .int w1])).length) Slot.unset).toArray = ls at hl ⊢
  have hl : lv_has ls 5 [(0, .ref hx), (1, .int f1), (2, .int m1), (3, .int w1)] := hl
  obtain ⟨H, hH⟩ : ∃ z : Heap, z = s₀.heap := ⟨_, rfl⟩
  rw [← hH] at hP
  have hS : va_S A s₀.heap H [] := by rw [hH]; exact hS
  refine k_heap hH ?_
  have hD : va_D A [(kX11 hx aLa aPa aGe aFl aTr aBe aLu aLo vSf vSm vCo vSh xs xl xf), (kX10 aTr aLa aPa aGe gL gR lf rt tgo tca tki tso tbe twe tle tan tco ten), (kX3 gL u0 u1 u2 u3), (kX3 gR v0 v1 v2 v3), (kX4 aLa vLa l4 a4 n4), (kAI vLa cI 24 f4), (kX7 aPa vPa l7 a7 n7), (kAI vPa cI 39 f7), (kX2 aGe vGe l2 a2 n2), (kAI vGe cI 23 f2), (kX1 aFl vFl xn), (kAI vFl cI 32 ff)] := hD
  obtain ⟨locs, hlo⟩ : ∃ z : List Loc, z = [] := ⟨_, rfl⟩
  rw [← hlo] at hS ⊢
  clear hlo hH hAe hD0
  refine lv_aload_n hx₀ hb dX11_strengthBehind_0 rfl (lv_at hl 0 rfl) ?_
  refine va_get (D := (dC, dI)) (ci := 10) (v := .ref aTr) (C := RX11) (T := TX11) (N := 15) hx₀ hb hts inlX11 hown hK hP 0 rfl rfl 4 (by decide) (hts (.fieldLink RX11 42 "BittenStick" "trip" "LBittenStick$Trip;") wd_31) (fun _ h9 => h9) rfl dX11_strengthBehind_1 ?_
  refine lv_aload_n hx₀ hb dX11_strengthBehind_4 rfl (lv_at hl 0 rfl) ?_
  refine va_get (D := (dC, dI)) (ci := 10) (v := .ref aFl) (C := RX11) (T := TX11) (N := 15) hx₀ hb hts inlX11 hown hK hP 0 rfl rfl 3 (by decide) (hts (.fieldLink RX11 33 "BittenStick" "flights" "LBittenStick$Flights;") wd_27) (fun _ h9 => h9) rfl dX11_strengthBehind_5 ?_
  refine lv_iload_n hx₀ hb dX11_strengthBehind_8 rfl (lv_at hl 1 rfl) ?_
  obtain ⟨hPc, hDc, hFc, hC⟩ := k_cw (wc := [(kX1 aFl vFl xn), (kAI vFl cI 32 ff)]) hP hD hS hA [10, 11] (by decide +kernel) rfl
  refine va_calli (va_runV (As := [.int f1]) (rest := [.ref aTr]) ⟨hx₀, hb, hml, hown, hts⟩ (j_heightOf l dC dI cI cJ cQ H.size aFl f1 vFl xn ff (hh1)) (cwV 1 hts (kGV wd_491 wd_488 wd_489 wd_490 wd_26) rfl rfl rfl (by decide +kernel) ⟨Nat.le_of_ble_eq_true rfl, Nat.le_of_ble_eq_true rfl⟩) (k_preV1 (q0 := 0) hK hPc hDc hN rfl) rfl rfl hl.1 rfl (lv_room (Nat.le_of_ble_eq_true rfl)) dX11_strengthBehind_9 ⟨by decide +kernel, by decide +kernel⟩) hS (fun q _ h => hFc q h) hFc (fun r_1 u₀ t₀ H1 locs ht hvm hw hB hz1 hk1 hS => ?_)
  obtain ⟨hP1, hK1, hD1⟩ := hB
  rw [ht] at hP1
  have hJ := k_jn (wr := [(kX11 hx aLa aPa aGe aFl aTr aBe aLu aLo vSf vSm vCo vSh xs xl xf), (kX10 aTr aLa aPa aGe gL gR lf rt tgo tca tki tso tbe twe tle tan tco ten), (kX3 gL u0 u1 u2 u3), (kX3 gR v0 v1 v2 v3), (kX4 aLa vLa l4 a4 n4), (kAI vLa cI 24 f4), (kX7 aPa vPa l7 a7 n7), (kAI vPa cI 39 f7), (kX2 aGe vGe l2 a2 n2), (kAI vGe cI 23 f2)]) (wt := [(kX11 hx aLa aPa aGe aFl aTr aBe aLu aLo vSf vSm vCo vSh xs xl xf), (kX10 aTr aLa aPa aGe gL gR lf rt tgo tca tki tso tbe twe tle tan tco ten), (kX3 gL u0 u1 u2 u3), (kX3 gR v0 v1 v2 v3), (kX4 aLa vLa l4 a4 n4), (kAI vLa cI 24 f4), (kX7 aPa vPa l7 a7 n7), (kAI vPa cI 39 f7), (kX2 aGe vGe l2 a2 n2), (kAI vGe cI 23 f2), (kX1 aFl vFl xn), (kAI vFl cI 32 ff)]) hP hD hC [0, 1, 2, 3, 4, 5, 6, 7, 8, 9] rfl (by decide +kernel) (by decide +kernel) hk1 hFc hP1 hD1 rfl
  clear hP hD hPc hDc hFc hC hP1 hD1 hK1 hz1 hk1 hvm ht
  obtain ⟨hP, hD⟩ := hJ
  generalize H1 = H at hP hS ⊢
  try dsimp only at hw
  refine k_topi (v := kIt xn ff f1 3) hw ?_
  obtain ⟨hPc, hDc, hFc, hC⟩ := k_cw (wc := [(kX10 aTr aLa aPa aGe gL gR lf rt tgo tca tki tso tbe twe tle tan tco ten), (kX4 aLa vLa l4 a4 n4), (kAI vLa cI 24 f4)]) hP hD hS hA [1, 4, 5] (by decide +kernel) rfl
  refine va_calli (va_runV (As := [.int (kIt xn ff f1 3)]) (rest := []) ⟨hx₀, hb, hml, hown, hts⟩ (j_comesTo l dC dI cI cJ cQ H.size aTr (kIt xn ff f1 3) aLa aPa aGe gL gR lf rt tgo tca tki tso tbe twe tle tan tco ten vLa l4 a4 n4 f4 (hh0)) (cwV 1 hts (kGV wd_495 wd_492 wd_493 wd_494 wd_30) rfl rfl rfl (by decide +kernel) ⟨Nat.le_of_ble_eq_true rfl, Nat.le_of_ble_eq_true rfl⟩) (k_preV9 (q0 := 0) hK hPc hDc hN rfl) rfl rfl hl.1 rfl (lv_room (Nat.le_of_ble_eq_true rfl)) dX11_strengthBehind_12 ⟨by decide +kernel, by decide +kernel⟩) hS (fun q _ h => hFc q h) hFc (fun r_2 u₀ t₀ H1 locs ht hvm hw hB hz1 hk1 hS => ?_)
  obtain ⟨g_3, ga_4, gl_5, gb_6, gp_7⟩ := u₀
  obtain ⟨hP1, hK1, hD1⟩ := hB
  rw [ht] at hP1
  have hJ := k_jn (wr := [(kX11 hx aLa aPa aGe aFl aTr aBe aLu aLo vSf vSm vCo vSh xs xl xf), (kX3 gL u0 u1 u2 u3), (kX3 gR v0 v1 v2 v3), (kX7 aPa vPa l7 a7 n7), (kAI vPa cI 39 f7), (kX2 aGe vGe l2 a2 n2), (kAI vGe cI 23 f2), (kX1 aFl vFl xn), (kAI vFl cI 32 ff)]) (wt := [(kX11 hx aLa aPa aGe aFl aTr aBe aLu aLo vSf vSm vCo vSh xs xl xf), (kX3 gL u0 u1 u2 u3), (kX3 gR v0 v1 v2 v3), (kX7 aPa vPa l7 a7 n7), (kAI vPa cI 39 f7), (kX2 aGe vGe l2 a2 n2), (kAI vGe cI 23 f2), (kX1 aFl vFl xn), (kAI vFl cI 32 ff), (kX10 aTr aLa aPa aGe gL gR lf rt tgo tca tki tso tbe twe tle (g_3 0) (g_3 1) (g_3 2)), (kX4 aLa vLa l4 a4 n4), (kAI vLa cI 24 f4)]) hP hD hC [0, 2, 3, 6, 7, 8, 9, 10, 11] rfl (by decide +kernel) (by decide +kernel) hk1 hFc hP1 hD1 rfl
  clear hP hD hPc hDc hFc hC hP1 hD1 hK1 hz1 hk1 hvm ht
  obtain ⟨hP, hD⟩ := hJ
  generalize H1 = H at hP hS ⊢
  try dsimp only at hw
  obtain ⟨c_8, c_9, c_10, c_11⟩ := hw
  refine lv_istore (lv' := [(4, .int r_2), (0, .ref hx), (1, .int f1), (2, .int m1), (3, .int w1)]) hx₀ hb dX11_strengthBehind_15 hl (by decide) rfl (fun ls hl => ?_)
  refine lv_aload_n hx₀ hb dX11_strengthBehind_17 rfl (lv_at hl 1 rfl) ?_
  refine va_get (D := (dC, dI)) (ci := 10) (v := .ref aTr) (C := RX11) (T := TX11) (N := 15) hx₀ hb hts inlX11 hown hK hP 0 rfl rfl 4 (by decide) (hts (.fieldLink RX11 42 "BittenStick" "trip" "LBittenStick$Trip;") wd_31) (fun _ h9 => h9) rfl dX11_strengthBehind_18 ?_
  refine va_get (D := (dC, dI)) (ci := 9) (v := .int tgo) (C := RX10) (T := TX10) (N := 17) hx₀ hb hts inlX10 hown hK hP 9 rfl rfl 7 (by decide) (hts (.fieldLink RX11 338 "BittenStick$Trip" "goes" "Z") wd_578) (fun _ h9 => h9) rfl dX11_strengthBehind_21 ?_
  refine lv_if_eq (tgt := 33) hx₀ hb dX11_strengthBehind_24 (by decide) (fun c_12 => ?_) (fun c_12 => ?_)
  · refine lv_iconst (v := (-1)) hx₀ hb dX11_strengthBehind_33 (by decide +kernel) ?_
    obtain ⟨hP9, hD9⟩ := k_c2 (wc := [(kX11 hx aLa aPa aGe aFl aTr aBe aLu aLo vSf vSm vCo vSh xs xl xf), (kX10 aTr aLa aPa aGe gL gR lf rt tgo tca tki tso tbe twe tle (g_3 0) (g_3 1) (g_3 2)), (kX3 gL u0 u1 u2 u3), (kX3 gR v0 v1 v2 v3), (kX4 aLa vLa l4 a4 n4), (kAI vLa cI 24 f4), (kX7 aPa vPa l7 a7 n7), (kAI vPa cI 39 f7), (kX2 aGe vGe l2 a2 n2), (kAI vGe cI 23 f2), (kX1 aFl vFl xn), (kAI vFl cI 32 ff)]) hP hD [0, 9, 1, 2, 10, 11, 3, 4, 5, 6, 7, 8] (by decide +kernel) rfl
    exact W.iret (v := (-1)) hx₀ hb hr (fun t₀ ht hW => ⟨⟨(-1), (k_fn [u0, u1, u2, u3, v0, v1, v2, v3, tgo, tca, tki, tso, tbe, twe, tle, (g_3 0), (g_3 1), (g_3 2)], k_fa [], k_fl [], k_fL [], k_fp [lf, rt]), rfl, trivial, by rw [ht]; exact hP9, va_K.moved hW.alike hK, hD9⟩, hS.F ht⟩) hS.2.2 dX11_strengthBehind_34
  · refine lv_iload hx₀ hb dX11_strengthBehind_27 (lv_at hl 0 rfl) ?_
    refine lv_iload_n hx₀ hb dX11_strengthBehind_29 rfl (lv_at hl 3 rfl) ?_
    refine lv_icmp_ge (tgt := 35) hx₀ hb dX11_strengthBehind_30 (by decide) (fun c_13 => ?_) (fun c_13 => ?_)
    · refine lv_aload_n hx₀ hb dX11_strengthBehind_35 rfl (lv_at hl 1 rfl) ?_
      refine va_get (D := (dC, dI)) (ci := 10) (v := .ref aTr) (C := RX11) (T := TX11) (N := 15) hx₀ hb hts inlX11 hown hK hP 0 rfl rfl 4 (by decide) (hts (.fieldLink RX11 42 "BittenStick" "trip" "LBittenStick$Trip;") wd_31) (fun _ h9 => h9) rfl dX11_strengthBehind_36 ?_
      refine lv_iload_n hx₀ hb dX11_strengthBehind_39 rfl (lv_at hl 3 rfl) ?_
      refine lv_iload hx₀ hb dX11_strengthBehind_40 (lv_at hl 0 rfl) ?_
      refine lv_iload_n hx₀ hb dX11_strengthBehind_42 rfl (lv_at hl 3 rfl) ?_
      refine lv_icmp_le (tgt := 50) hx₀ hb dX11_strengthBehind_43 (by decide) (fun c_14 => ?_) (fun c_14 => ?_)
      · refine lv_iconst (v := 0) hx₀ hb dX11_strengthBehind_50 (by decide +kernel) ?_
        obtain ⟨hPc, hDc, hFc, hC⟩ := k_cw (wc := [(kX10 aTr aLa aPa aGe gL gR lf rt tgo tca tki tso tbe twe tle (g_3 0) (g_3 1) (g_3 2)), (kX3 gL u0 u1 u2 u3), (kX3 gR v0 v1 v2 v3), (kX4 aLa vLa l4 a4 n4), (kAI vLa cI 24 f4)]) hP hD hS hA [9, 1, 2, 10, 11] (by decide +kernel) rfl
        refine va_calli (va_runV (As := [.int m1, .int 0]) (rest := []) ⟨hx₀, hb, hml, hown, hts⟩ (j_flyGeese l dC dI cI cJ cQ H.size aTr m1 0 aLa aPa aGe gL gR lf rt tgo tca tki tso tbe twe tle (g_3 0) (g_3 1) (g_3 2) u0 u1 u2 u3 v0 v1 v2 v3 vLa l4 a4 n4 f4 (lf_j_strengthBehind_1 m1 r_2 hh2 c_13 c_14)) (cwV 2 hts (kGV wd_469 wd_590 wd_467 wd_468 wd_30) rfl rfl rfl (by decide +kernel) ⟨Nat.le_of_ble_eq_true rfl, Nat.le_of_ble_eq_true rfl⟩) (k_preV9 (q0 := 0) hK hPc hDc hN rfl) rfl rfl hl.1 rfl (lv_room (Nat.le_of_ble_eq_true rfl)) dX11_strengthBehind_51 ⟨by decide +kernel, by decide +kernel⟩) hS (fun q _ h => hFc q h) hFc (fun r_15 u₀ t₀ H1 locs ht hvm hw hB hz1 hk1 hS => ?_)
        obtain ⟨g_16, ga_17, gl_18, gb_19, gp_20⟩ := u₀
        obtain ⟨hP1, hK1, hD1⟩ := hB
        rw [ht] at hP1
        have hJ := k_jn (wr := [(kX11 hx aLa aPa aGe aFl aTr aBe aLu aLo vSf vSm vCo vSh xs xl xf), (kX7 aPa vPa l7 a7 n7), (kAI vPa cI 39 f7), (kX2 aGe vGe l2 a2 n2), (kAI vGe cI 23 f2), (kX1 aFl vFl xn), (kAI vFl cI 32 ff)]) (wt := [(kX11 hx aLa aPa aGe aFl aTr aBe aLu aLo vSf vSm vCo vSh xs xl xf), (kX7 aPa vPa l7 a7 n7), (kAI vPa cI 39 f7), (kX2 aGe vGe l2 a2 n2), (kAI vGe cI 23 f2), (kX1 aFl vFl xn), (kAI vFl cI 32 ff), (kX10 aTr aLa aPa aGe gL gR (gp_20 0) (gp_20 1) tgo tca tki tso tbe twe tle (g_3 0) (g_3 1) (g_3 2)), (kX3 gL (g_16 0) (g_16 1) (g_16 2) (g_16 3)), (kX3 gR (g_16 4) (g_16 5) (g_16 6) (g_16 7)), (kX4 aLa vLa l4 a4 n4), (kAI vLa cI 24 f4)]) hP hD hC [0, 3, 4, 5, 6, 7, 8] rfl (by decide +kernel) (by decide +kernel) hk1 hFc hP1 hD1 rfl
        clear hP hD hPc hDc hFc hC hP1 hD1 hK1 hz1 hk1 hvm ht
        obtain ⟨hP, hD⟩ := hJ
        generalize H1 = H at hP hS ⊢
        try dsimp only at hw
        obtain ⟨c_21, c_22⟩ := hw
        refine lv_pop hx₀ hb dX11_strengthBehind_54 rfl ?_
        rcases c_22 with ⟨e1, e2⟩ | ⟨e1, e2⟩
        · replace hP : va_P (dC, dI) vwCl [(kX11 hx aLa aPa aGe aFl aTr aBe aLu aLo vSf vSm vCo vSh xs xl xf), (kX7 aPa vPa l7 a7 n7), (kAI vPa cI 39 f7), (kX2 aGe vGe l2 a2 n2), (kAI vGe cI 23 f2), (kX1 aFl vFl xn), (kAI vFl cI 32 ff), (kX10 aTr aLa aPa aGe gL gR gL gR tgo tca tki tso tbe twe tle (g_3 0) (g_3 1) (g_3 2)), (kX3 gL (g_16 0) (g_16 1) (g_16 2) (g_16 3)), (kX3 gR (g_16 4) (g_16 5) (g_16 6) (g_16 7)), (kX4 aLa vLa l4 a4 n4), (kAI vLa cI 24 f4)] H := by rw [e1, e2] at hP; exact hP
          replace hD : va_D A [(kX11 hx aLa aPa aGe aFl aTr aBe aLu aLo vSf vSm vCo vSh xs xl xf), (kX7 aPa vPa l7 a7 n7), (kAI vPa cI 39 f7), (kX2 aGe vGe l2 a2 n2), (kAI vGe cI 23 f2), (kX1 aFl vFl xn), (kAI vFl cI 32 ff), (kX10 aTr aLa aPa aGe gL gR gL gR tgo tca tki tso tbe twe tle (g_3 0) (g_3 1) (g_3 2)), (kX3 gL (g_16 0) (g_16 1) (g_16 2) (g_16 3)), (kX3 gR (g_16 4) (g_16 5) (g_16 6) (g_16 7)), (kX4 aLa vLa l4 a4 n4), (kAI vLa cI 24 f4)] := by rw [e1, e2] at hD; exact hD
          refine lv_iload_n hx₀ hb dX11_strengthBehind_55 rfl (lv_at hl 4 rfl) ?_
          refine lv_iconst (v := 2) hx₀ hb dX11_strengthBehind_56 (by decide +kernel) ?_
          refine lv_icmp_ne (tgt := 73) hx₀ hb dX11_strengthBehind_57 (by decide) (fun c_23 => ?_) (fun c_23 => ?_)
          · refine lv_aload_n hx₀ hb dX11_strengthBehind_73 rfl (lv_at hl 1 rfl) ?_
            refine va_get (D := (dC, dI)) (ci := 10) (v := .ref aTr) (C := RX11) (T := TX11) (N := 15) hx₀ hb hts inlX11 hown hK hP 0 rfl rfl 4 (by decide) (hts (.fieldLink RX11 42 "BittenStick" "trip" "LBittenStick$Trip;") wd_31) (fun _ h9 => h9) rfl dX11_strengthBehind_74 ?_
            refine va_get (D := (dC, dI)) (ci := 9) (v := .ref gR) (C := RX10) (T := TX10) (N := 17) hx₀ hb hts inlX10 hown hK hP 7 rfl rfl 6 (by decide) (hts (.fieldLink RX11 360 "BittenStick$Trip" "right" "LBittenStick$Goose;") wd_589) (fun _ h9 => h9) rfl dX11_strengthBehind_77 ?_
            refine va_get (D := (dC, dI)) (ci := 3) (v := .int (g_16 6)) (C := RX3) (T := TX3) (N := 4) hx₀ hb hts inlX3 hown hK hP 9 rfl rfl 2 (by decide) (hts (.fieldLink RX11 355 "BittenStick$Goose" "strong" "I") wd_588) (fun _ h9 => h9) rfl dX11_strengthBehind_80 ?_
            obtain ⟨hP9, hD9⟩ := k_c2 (wc := [(kX11 hx aLa aPa aGe aFl aTr aBe aLu aLo vSf vSm vCo vSh xs xl xf), (kX10 aTr aLa aPa aGe gL gR gL gR tgo tca tki tso tbe twe tle (g_3 0) (g_3 1) (g_3 2)), (kX3 gL (g_16 0) (g_16 1) (g_16 2) (g_16 3)), (kX3 gR (g_16 4) (g_16 5) (g_16 6) (g_16 7)), (kX4 aLa vLa l4 a4 n4), (kAI vLa cI 24 f4), (kX7 aPa vPa l7 a7 n7), (kAI vPa cI 39 f7), (kX2 aGe vGe l2 a2 n2), (kAI vGe cI 23 f2), (kX1 aFl vFl xn), (kAI vFl cI 32 ff)]) hP hD [0, 7, 8, 9, 10, 11, 1, 2, 3, 4, 5, 6] (by decide +kernel) rfl
            exact W.iret (v := g_16 6) hx₀ hb hr (fun t₀ ht hW => ⟨⟨g_16 6, (k_fn [(g_16 0), (g_16 1), (g_16 2), (g_16 3), (g_16 4), (g_16 5), (g_16 6), (g_16 7), tgo, tca, tki, tso, tbe, twe, tle, (g_3 0), (g_3 1), (g_3 2)], k_fa [], k_fl [], k_fL [], k_fp [gL, gR]), rfl, trivial, by rw [ht]; exact hP9, va_K.moved hW.alike hK, hD9⟩, hS.F ht⟩) hS.2.2 dX11_strengthBehind_83
          · refine lv_aload_n hx₀ hb dX11_strengthBehind_60 rfl (lv_at hl 1 rfl) ?_
            refine va_get (D := (dC, dI)) (ci := 10) (v := .ref aTr) (C := RX11) (T := TX11) (N := 15) hx₀ hb hts inlX11 hown hK hP 0 rfl rfl 4 (by decide) (hts (.fieldLink RX11 42 "BittenStick" "trip" "LBittenStick$Trip;") wd_31) (fun _ h9 => h9) rfl dX11_strengthBehind_61 ?_
            refine va_get (D := (dC, dI)) (ci := 9) (v := .ref gL) (C := RX10) (T := TX10) (N := 17) hx₀ hb hts inlX10 hown hK hP 7 rfl rfl 5 (by decide) (hts (.fieldLink RX11 351 "BittenStick$Trip" "left" "LBittenStick$Goose;") wd_587) (fun _ h9 => h9) rfl dX11_strengthBehind_64 ?_
            refine va_get (D := (dC, dI)) (ci := 3) (v := .int (g_16 2)) (C := RX3) (T := TX3) (N := 4) hx₀ hb hts inlX3 hown hK hP 8 rfl rfl 2 (by decide) (hts (.fieldLink RX11 355 "BittenStick$Goose" "strong" "I") wd_588) (fun _ h9 => h9) rfl dX11_strengthBehind_67 ?_
            refine lv_goto (tgt := 83) hx₀ hb dX11_strengthBehind_70 (by decide) ?_
            obtain ⟨hP9, hD9⟩ := k_c2 (wc := [(kX11 hx aLa aPa aGe aFl aTr aBe aLu aLo vSf vSm vCo vSh xs xl xf), (kX10 aTr aLa aPa aGe gL gR gL gR tgo tca tki tso tbe twe tle (g_3 0) (g_3 1) (g_3 2)), (kX3 gL (g_16 0) (g_16 1) (g_16 2) (g_16 3)), (kX3 gR (g_16 4) (g_16 5) (g_16 6) (g_16 7)), (kX4 aLa vLa l4 a4 n4), (kAI vLa cI 24 f4), (kX7 aPa vPa l7 a7 n7), (kAI vPa cI 39 f7), (kX2 aGe vGe l2 a2 n2), (kAI vGe cI 23 f2), (kX1 aFl vFl xn), (kAI vFl cI 32 ff)]) hP hD [0, 7, 8, 9, 10, 11, 1, 2, 3, 4, 5, 6] (by decide +kernel) rfl
            exact W.iret (v := g_16 2) hx₀ hb hr (fun t₀ ht hW => ⟨⟨g_16 2, (k_fn [(g_16 0), (g_16 1), (g_16 2), (g_16 3), (g_16 4), (g_16 5), (g_16 6), (g_16 7), tgo, tca, tki, tso, tbe, twe, tle, (g_3 0), (g_3 1), (g_3 2)], k_fa [], k_fl [], k_fL [], k_fp [gL, gR]), rfl, trivial, by rw [ht]; exact hP9, va_K.moved hW.alike hK, hD9⟩, hS.F ht⟩) hS.2.2 dX11_strengthBehind_83
        · replace hP : va_P (dC, dI) vwCl [(kX11 hx aLa aPa aGe aFl aTr aBe aLu aLo vSf vSm vCo vSh xs xl xf), (kX7 aPa vPa l7 a7 n7), (kAI vPa cI 39 f7), (kX2 aGe vGe l2 a2 n2), (kAI vGe cI 23 f2), (kX1 aFl vFl xn), (kAI vFl cI 32 ff), (kX10 aTr aLa aPa aGe gL gR gR gL tgo tca tki tso tbe twe tle (g_3 0) (g_3 1) (g_3 2)), (kX3 gL (g_16 0) (g_16 1) (g_16 2) (g_16 3)), (kX3 gR (g_16 4) (g_16 5) (g_16 6) (g_16 7)), (kX4 aLa vLa l4 a4 n4), (kAI vLa cI 24 f4)] H := by rw [e1, e2] at hP; exact hP
          replace hD : va_D A [(kX11 hx aLa aPa aGe aFl aTr aBe aLu aLo vSf vSm vCo vSh xs xl xf), (kX7 aPa vPa l7 a7 n7), (kAI vPa cI 39 f7), (kX2 aGe vGe l2 a2 n2), (kAI vGe cI 23 f2), (kX1 aFl vFl xn), (kAI vFl cI 32 ff), (kX10 aTr aLa aPa aGe gL gR gR gL tgo tca tki tso tbe twe tle (g_3 0) (g_3 1) (g_3 2)), (kX3 gL (g_16 0) (g_16 1) (g_16 2) (g_16 3)), (kX3 gR (g_16 4) (g_16 5) (g_16 6) (g_16 7)), (kX4 aLa vLa l4 a4 n4), (kAI vLa cI 24 f4)] := by rw [e1, e2] at hD; exact hD
          refine lv_iload_n hx₀ hb dX11_strengthBehind_55 rfl (lv_at hl 4 rfl) ?_
          refine lv_iconst (v := 2) hx₀ hb dX11_strengthBehind_56 (by decide +kernel) ?_
          refine lv_icmp_ne (tgt := 73) hx₀ hb dX11_strengthBehind_57 (by decide) (fun c_24 => ?_) (fun c_24 => ?_)
          · refine lv_aload_n hx₀ hb dX11_strengthBehind_73 rfl (lv_at hl 1 rfl) ?_
            refine va_get (D := (dC, dI)) (ci := 10) (v := .ref aTr) (C := RX11) (T := TX11) (N := 15) hx₀ hb hts inlX11 hown hK hP 0 rfl rfl 4 (by decide) (hts (.fieldLink RX11 42 "BittenStick" "trip" "LBittenStick$Trip;") wd_31) (fun _ h9 => h9) rfl dX11_strengthBehind_74 ?_
            refine va_get (D := (dC, dI)) (ci := 9) (v := .ref gL) (C := RX10) (T := TX10) (N := 17) hx₀ hb hts inlX10 hown hK hP 7 rfl rfl 6 (by decide) (hts (.fieldLink RX11 360 "BittenStick$Trip" "right" "LBittenStick$Goose;") wd_589) (fun _ h9 => h9) rfl dX11_strengthBehind_77 ?_
            refine va_get (D := (dC, dI)) (ci := 3) (v := .int (g_16 2)) (C := RX3) (T := TX3) (N := 4) hx₀ hb hts inlX3 hown hK hP 8 rfl rfl 2 (by decide) (hts (.fieldLink RX11 355 "BittenStick$Goose" "strong" "I") wd_588) (fun _ h9 => h9) rfl dX11_strengthBehind_80 ?_
            obtain ⟨hP9, hD9⟩ := k_c2 (wc := [(kX11 hx aLa aPa aGe aFl aTr aBe aLu aLo vSf vSm vCo vSh xs xl xf), (kX10 aTr aLa aPa aGe gL gR gR gL tgo tca tki tso tbe twe tle (g_3 0) (g_3 1) (g_3 2)), (kX3 gL (g_16 0) (g_16 1) (g_16 2) (g_16 3)), (kX3 gR (g_16 4) (g_16 5) (g_16 6) (g_16 7)), (kX4 aLa vLa l4 a4 n4), (kAI vLa cI 24 f4), (kX7 aPa vPa l7 a7 n7), (kAI vPa cI 39 f7), (kX2 aGe vGe l2 a2 n2), (kAI vGe cI 23 f2), (kX1 aFl vFl xn), (kAI vFl cI 32 ff)]) hP hD [0, 7, 8, 9, 10, 11, 1, 2, 3, 4, 5, 6] (by decide +kernel) rfl
            exact W.iret (v := g_16 2) hx₀ hb hr (fun t₀ ht hW => ⟨⟨g_16 2, (k_fn [(g_16 0), (g_16 1), (g_16 2), (g_16 3), (g_16 4), (g_16 5), (g_16 6), (g_16 7), tgo, tca, tki, tso, tbe, twe, tle, (g_3 0), (g_3 1), (g_3 2)], k_fa [], k_fl [], k_fL [], k_fp [gR, gL]), rfl, trivial, by rw [ht]; exact hP9, va_K.moved hW.alike hK, hD9⟩, hS.F ht⟩) hS.2.2 dX11_strengthBehind_83
          · refine lv_aload_n hx₀ hb dX11_strengthBehind_60 rfl (lv_at hl 1 rfl) ?_
            refine va_get (D := (dC, dI)) (ci := 10) (v := .ref aTr) (C := RX11) (T := TX11) (N := 15) hx₀ hb hts inlX11 hown hK hP 0 rfl rfl 4 (by decide) (hts (.fieldLink RX11 42 "BittenStick" "trip" "LBittenStick$Trip;") wd_31) (fun _ h9 => h9) rfl dX11_strengthBehind_61 ?_
            refine va_get (D := (dC, dI)) (ci := 9) (v := .ref gR) (C := RX10) (T := TX10) (N := 17) hx₀ hb hts inlX10 hown hK hP 7 rfl rfl 5 (by decide) (hts (.fieldLink RX11 351 "BittenStick$Trip" "left" "LBittenStick$Goose;") wd_587) (fun _ h9 => h9) rfl dX11_strengthBehind_64 ?_
            refine va_get (D := (dC, dI)) (ci := 3) (v := .int (g_16 6)) (C := RX3) (T := TX3) (N := 4) hx₀ hb hts inlX3 hown hK hP 9 rfl rfl 2 (by decide) (hts (.fieldLink RX11 355 "BittenStick$Goose" "strong" "I") wd_588) (fun _ h9 => h9) rfl dX11_strengthBehind_67 ?_
            refine lv_goto (tgt := 83) hx₀ hb dX11_strengthBehind_70 (by decide) ?_
            obtain ⟨hP9, hD9⟩ := k_c2 (wc := [(kX11 hx aLa aPa aGe aFl aTr aBe aLu aLo vSf vSm vCo vSh xs xl xf), (kX10 aTr aLa aPa aGe gL gR gR gL tgo tca tki tso tbe twe tle (g_3 0) (g_3 1) (g_3 2)), (kX3 gL (g_16 0) (g_16 1) (g_16 2) (g_16 3)), (kX3 gR (g_16 4) (g_16 5) (g_16 6) (g_16 7)), (kX4 aLa vLa l4 a4 n4), (kAI vLa cI 24 f4), (kX7 aPa vPa l7 a7 n7), (kAI vPa cI 39 f7), (kX2 aGe vGe l2 a2 n2), (kAI vGe cI 23 f2), (kX1 aFl vFl xn), (kAI vFl cI 32 ff)]) hP hD [0, 7, 8, 9, 10, 11, 1, 2, 3, 4, 5, 6] (by decide +kernel) rfl
            exact W.iret (v := g_16 6) hx₀ hb hr (fun t₀ ht hW => ⟨⟨g_16 6, (k_fn [(g_16 0), (g_16 1), (g_16 2), (g_16 3), (g_16 4), (g_16 5), (g_16 6), (g_16 7), tgo, tca, tki, tso, tbe, twe, tle, (g_3 0), (g_3 1), (g_3 2)], k_fa [], k_fl [], k_fL [], k_fp [gR, gL]), rfl, trivial, by rw [ht]; exact hP9, va_K.moved hW.alike hK, hD9⟩, hS.F ht⟩) hS.2.2 dX11_strengthBehind_83
      · refine lv_iconst (v := 1) hx₀ hb dX11_strengthBehind_46 (by decide +kernel) ?_
        refine lv_goto (tgt := 51) hx₀ hb dX11_strengthBehind_47 (by decide) ?_
        obtain ⟨hPc, hDc, hFc, hC⟩ := k_cw (wc := [(kX10 aTr aLa aPa aGe gL gR lf rt tgo tca tki tso tbe twe tle (g_3 0) (g_3 1) (g_3 2)), (kX3 gL u0 u1 u2 u3), (kX3 gR v0 v1 v2 v3), (kX4 aLa vLa l4 a4 n4), (kAI vLa cI 24 f4)]) hP hD hS hA [9, 1, 2, 10, 11] (by decide +kernel) rfl
        refine va_calli (va_runV (As := [.int m1, .int 1]) (rest := []) ⟨hx₀, hb, hml, hown, hts⟩ (j_flyGeese l dC dI cI cJ cQ H.size aTr m1 1 aLa aPa aGe gL gR lf rt tgo tca tki tso tbe twe tle (g_3 0) (g_3 1) (g_3 2) u0 u1 u2 u3 v0 v1 v2 v3 vLa l4 a4 n4 f4 (lf_j_strengthBehind_2 m1 r_2 hh2 c_13 c_14)) (cwV 2 hts (kGV wd_469 wd_590 wd_467 wd_468 wd_30) rfl rfl rfl (by decide +kernel) ⟨Nat.le_of_ble_eq_true rfl, Nat.le_of_ble_eq_true rfl⟩) (k_preV9 (q0 := 0) hK hPc hDc hN rfl) rfl rfl hl.1 rfl (lv_room (Nat.le_of_ble_eq_true rfl)) dX11_strengthBehind_51 ⟨by decide +kernel, by decide +kernel⟩) hS (fun q _ h => hFc q h) hFc (fun r_25 u₀ t₀ H1 locs ht hvm hw hB hz1 hk1 hS => ?_)
        obtain ⟨g_26, ga_27, gl_28, gb_29, gp_30⟩ := u₀
        obtain ⟨hP1, hK1, hD1⟩ := hB
        rw [ht] at hP1
        have hJ := k_jn (wr := [(kX11 hx aLa aPa aGe aFl aTr aBe aLu aLo vSf vSm vCo vSh xs xl xf), (kX7 aPa vPa l7 a7 n7), (kAI vPa cI 39 f7), (kX2 aGe vGe l2 a2 n2), (kAI vGe cI 23 f2), (kX1 aFl vFl xn), (kAI vFl cI 32 ff)]) (wt := [(kX11 hx aLa aPa aGe aFl aTr aBe aLu aLo vSf vSm vCo vSh xs xl xf), (kX7 aPa vPa l7 a7 n7), (kAI vPa cI 39 f7), (kX2 aGe vGe l2 a2 n2), (kAI vGe cI 23 f2), (kX1 aFl vFl xn), (kAI vFl cI 32 ff), (kX10 aTr aLa aPa aGe gL gR (gp_30 0) (gp_30 1) tgo tca tki tso tbe twe tle (g_3 0) (g_3 1) (g_3 2)), (kX3 gL (g_26 0) (g_26 1) (g_26 2) (g_26 3)), (kX3 gR (g_26 4) (g_26 5) (g_26 6) (g_26 7)), (kX4 aLa vLa l4 a4 n4), (kAI vLa cI 24 f4)]) hP hD hC [0, 3, 4, 5, 6, 7, 8] rfl (by decide +kernel) (by decide +kernel) hk1 hFc hP1 hD1 rfl
        clear hP hD hPc hDc hFc hC hP1 hD1 hK1 hz1 hk1 hvm ht
        obtain ⟨hP, hD⟩ := hJ
        generalize H1 = H at hP hS ⊢
        try dsimp only at hw
        obtain ⟨c_31, c_32⟩ := hw
        refine lv_pop hx₀ hb dX11_strengthBehind_54 rfl ?_
        rcases c_32 with ⟨e1, e2⟩ | ⟨e1, e2⟩
        · replace hP : va_P (dC, dI) vwCl [(kX11 hx aLa aPa aGe aFl aTr aBe aLu aLo vSf vSm vCo vSh xs xl xf), (kX7 aPa vPa l7 a7 n7), (kAI vPa cI 39 f7), (kX2 aGe vGe l2 a2 n2), (kAI vGe cI 23 f2), (kX1 aFl vFl xn), (kAI vFl cI 32 ff), (kX10 aTr aLa aPa aGe gL gR gL gR tgo tca tki tso tbe twe tle (g_3 0) (g_3 1) (g_3 2)), (kX3 gL (g_26 0) (g_26 1) (g_26 2) (g_26 3)), (kX3 gR (g_26 4) (g_26 5) (g_26 6) (g_26 7)), (kX4 aLa vLa l4 a4 n4), (kAI vLa cI 24 f4)] H := by rw [e1, e2] at hP; exact hP
          replace hD : va_D A [(kX11 hx aLa aPa aGe aFl aTr aBe aLu aLo vSf vSm vCo vSh xs xl xf), (kX7 aPa vPa l7 a7 n7), (kAI vPa cI 39 f7), (kX2 aGe vGe l2 a2 n2), (kAI vGe cI 23 f2), (kX1 aFl vFl xn), (kAI vFl cI 32 ff), (kX10 aTr aLa aPa aGe gL gR gL gR tgo tca tki tso tbe twe tle (g_3 0) (g_3 1) (g_3 2)), (kX3 gL (g_26 0) (g_26 1) (g_26 2) (g_26 3)), (kX3 gR (g_26 4) (g_26 5) (g_26 6) (g_26 7)), (kX4 aLa vLa l4 a4 n4), (kAI vLa cI 24 f4)] := by rw [e1, e2] at hD; exact hD
          refine lv_iload_n hx₀ hb dX11_strengthBehind_55 rfl (lv_at hl 4 rfl) ?_
          refine lv_iconst (v := 2) hx₀ hb dX11_strengthBehind_56 (by decide +kernel) ?_
          refine lv_icmp_ne (tgt := 73) hx₀ hb dX11_strengthBehind_57 (by decide) (fun c_33 => ?_) (fun c_33 => ?_)
          · refine lv_aload_n hx₀ hb dX11_strengthBehind_73 rfl (lv_at hl 1 rfl) ?_
            refine va_get (D := (dC, dI)) (ci := 10) (v := .ref aTr) (C := RX11) (T := TX11) (N := 15) hx₀ hb hts inlX11 hown hK hP 0 rfl rfl 4 (by decide) (hts (.fieldLink RX11 42 "BittenStick" "trip" "LBittenStick$Trip;") wd_31) (fun _ h9 => h9) rfl dX11_strengthBehind_74 ?_
            refine va_get (D := (dC, dI)) (ci := 9) (v := .ref gR) (C := RX10) (T := TX10) (N := 17) hx₀ hb hts inlX10 hown hK hP 7 rfl rfl 6 (by decide) (hts (.fieldLink RX11 360 "BittenStick$Trip" "right" "LBittenStick$Goose;") wd_589) (fun _ h9 => h9) rfl dX11_strengthBehind_77 ?_
            refine va_get (D := (dC, dI)) (ci := 3) (v := .int (g_26 6)) (C := RX3) (T := TX3) (N := 4) hx₀ hb hts inlX3 hown hK hP 9 rfl rfl 2 (by decide) (hts (.fieldLink RX11 355 "BittenStick$Goose" "strong" "I") wd_588) (fun _ h9 => h9) rfl dX11_strengthBehind_80 ?_
            obtain ⟨hP9, hD9⟩ := k_c2 (wc := [(kX11 hx aLa aPa aGe aFl aTr aBe aLu aLo vSf vSm vCo vSh xs xl xf), (kX10 aTr aLa aPa aGe gL gR gL gR tgo tca tki tso tbe twe tle (g_3 0) (g_3 1) (g_3 2)), (kX3 gL (g_26 0) (g_26 1) (g_26 2) (g_26 3)), (kX3 gR (g_26 4) (g_26 5) (g_26 6) (g_26 7)), (kX4 aLa vLa l4 a4 n4), (kAI vLa cI 24 f4), (kX7 aPa vPa l7 a7 n7), (kAI vPa cI 39 f7), (kX2 aGe vGe l2 a2 n2), (kAI vGe cI 23 f2), (kX1 aFl vFl xn), (kAI vFl cI 32 ff)]) hP hD [0, 7, 8, 9, 10, 11, 1, 2, 3, 4, 5, 6] (by decide +kernel) rfl
            exact W.iret (v := g_26 6) hx₀ hb hr (fun t₀ ht hW => ⟨⟨g_26 6, (k_fn [(g_26 0), (g_26 1), (g_26 2), (g_26 3), (g_26 4), (g_26 5), (g_26 6), (g_26 7), tgo, tca, tki, tso, tbe, twe, tle, (g_3 0), (g_3 1), (g_3 2)], k_fa [], k_fl [], k_fL [], k_fp [gL, gR]), rfl, trivial, by rw [ht]; exact hP9, va_K.moved hW.alike hK, hD9⟩, hS.F ht⟩) hS.2.2 dX11_strengthBehind_83
          · refine lv_aload_n hx₀ hb dX11_strengthBehind_60 rfl (lv_at hl 1 rfl) ?_
            refine va_get (D := (dC, dI)) (ci := 10) (v := .ref aTr) (C := RX11) (T := TX11) (N := 15) hx₀ hb hts inlX11 hown hK hP 0 rfl rfl 4 (by decide) (hts (.fieldLink RX11 42 "BittenStick" "trip" "LBittenStick$Trip;") wd_31) (fun _ h9 => h9) rfl dX11_strengthBehind_61 ?_
            refine va_get (D := (dC, dI)) (ci := 9) (v := .ref gL) (C := RX10) (T := TX10) (N := 17) hx₀ hb hts inlX10 hown hK hP 7 rfl rfl 5 (by decide) (hts (.fieldLink RX11 351 "BittenStick$Trip" "left" "LBittenStick$Goose;") wd_587) (fun _ h9 => h9) rfl dX11_strengthBehind_64 ?_
            refine va_get (D := (dC, dI)) (ci := 3) (v := .int (g_26 2)) (C := RX3) (T := TX3) (N := 4) hx₀ hb hts inlX3 hown hK hP 8 rfl rfl 2 (by decide) (hts (.fieldLink RX11 355 "BittenStick$Goose" "strong" "I") wd_588) (fun _ h9 => h9) rfl dX11_strengthBehind_67 ?_
            refine lv_goto (tgt := 83) hx₀ hb dX11_strengthBehind_70 (by decide) ?_
            obtain ⟨hP9, hD9⟩ := k_c2 (wc := [(kX11 hx aLa aPa aGe aFl aTr aBe aLu aLo vSf vSm vCo vSh xs xl xf), (kX10 aTr aLa aPa aGe gL gR gL gR tgo tca tki tso tbe twe tle (g_3 0) (g_3 1) (g_3 2)), (kX3 gL (g_26 0) (g_26 1) (g_26 2) (g_26 3)), (kX3 gR (g_26 4) (g_26 5) (g_26 6) (g_26 7)), (kX4 aLa vLa l4 a4 n4), (kAI vLa cI 24 f4), (kX7 aPa vPa l7 a7 n7), (kAI vPa cI 39 f7), (kX2 aGe vGe l2 a2 n2), (kAI vGe cI 23 f2), (kX1 aFl vFl xn), (kAI vFl cI 32 ff)]) hP hD [0, 7, 8, 9, 10, 11, 1, 2, 3, 4, 5, 6] (by decide +kernel) rfl
            exact W.iret (v := g_26 2) hx₀ hb hr (fun t₀ ht hW => ⟨⟨g_26 2, (k_fn [(g_26 0), (g_26 1), (g_26 2), (g_26 3), (g_26 4), (g_26 5), (g_26 6), (g_26 7), tgo, tca, tki, tso, tbe, twe, tle, (g_3 0), (g_3 1), (g_3 2)], k_fa [], k_fl [], k_fL [], k_fp [gL, gR]), rfl, trivial, by rw [ht]; exact hP9, va_K.moved hW.alike hK, hD9⟩, hS.F ht⟩) hS.2.2 dX11_strengthBehind_83
        · replace hP : va_P (dC, dI) vwCl [(kX11 hx aLa aPa aGe aFl aTr aBe aLu aLo vSf vSm vCo vSh xs xl xf), (kX7 aPa vPa l7 a7 n7), (kAI vPa cI 39 f7), (kX2 aGe vGe l2 a2 n2), (kAI vGe cI 23 f2), (kX1 aFl vFl xn), (kAI vFl cI 32 ff), (kX10 aTr aLa aPa aGe gL gR gR gL tgo tca tki tso tbe twe tle (g_3 0) (g_3 1) (g_3 2)), (kX3 gL (g_26 0) (g_26 1) (g_26 2) (g_26 3)), (kX3 gR (g_26 4) (g_26 5) (g_26 6) (g_26 7)), (kX4 aLa vLa l4 a4 n4), (kAI vLa cI 24 f4)] H := by rw [e1, e2] at hP; exact hP
          replace hD : va_D A [(kX11 hx aLa aPa aGe aFl aTr aBe aLu aLo vSf vSm vCo vSh xs xl xf), (kX7 aPa vPa l7 a7 n7), (kAI vPa cI 39 f7), (kX2 aGe vGe l2 a2 n2), (kAI vGe cI 23 f2), (kX1 aFl vFl xn), (kAI vFl cI 32 ff), (kX10 aTr aLa aPa aGe gL gR gR gL tgo tca tki tso tbe twe tle (g_3 0) (g_3 1) (g_3 2)), (kX3 gL (g_26 0) (g_26 1) (g_26 2) (g_26 3)), (kX3 gR (g_26 4) (g_26 5) (g_26 6) (g_26 7)), (kX4 aLa vLa l4 a4 n4), (kAI vLa cI 24 f4)] := by rw [e1, e2] at hD; exact hD
          refine lv_iload_n hx₀ hb dX11_strengthBehind_55 rfl (lv_at hl 4 rfl) ?_
          refine lv_iconst (v := 2) hx₀ hb dX11_strengthBehind_56 (by decide +kernel) ?_
          refine lv_icmp_ne (tgt := 73) hx₀ hb dX11_strengthBehind_57 (by decide) (fun c_34 => ?_) (fun c_34 => ?_)
          · refine lv_aload_n hx₀ hb dX11_strengthBehind_73 rfl (lv_at hl 1 rfl) ?_
            refine va_get (D := (dC, dI)) (ci := 10) (v := .ref aTr) (C := RX11) (T := TX11) (N := 15) hx₀ hb hts inlX11 hown hK hP 0 rfl rfl 4 (by decide) (hts (.fieldLink RX11 42 "BittenStick" "trip" "LBittenStick$Trip;") wd_31) (fun _ h9 => h9) rfl dX11_strengthBehind_74 ?_
            refine va_get (D := (dC, dI)) (ci := 9) (v := .ref gL) (C := RX10) (T := TX10) (N := 17) hx₀ hb hts inlX10 hown hK hP 7 rfl rfl 6 (by decide) (hts (.fieldLink RX11 360 "BittenStick$Trip" "right" "LBittenStick$Goose;") wd_589) (fun _ h9 => h9) rfl dX11_strengthBehind_77 ?_
            refine va_get (D := (dC, dI)) (ci := 3) (v := .int (g_26 2)) (C := RX3) (T := TX3) (N := 4) hx₀ hb hts inlX3 hown hK hP 8 rfl rfl 2 (by decide) (hts (.fieldLink RX11 355 "BittenStick$Goose" "strong" "I") wd_588) (fun _ h9 => h9) rfl dX11_strengthBehind_80 ?_
            obtain ⟨hP9, hD9⟩ := k_c2 (wc := [(kX11 hx aLa aPa aGe aFl aTr aBe aLu aLo vSf vSm vCo vSh xs xl xf), (kX10 aTr aLa aPa aGe gL gR gR gL tgo tca tki tso tbe twe tle (g_3 0) (g_3 1) (g_3 2)), (kX3 gL (g_26 0) (g_26 1) (g_26 2) (g_26 3)), (kX3 gR (g_26 4) (g_26 5) (g_26 6) (g_26 7)), (kX4 aLa vLa l4 a4 n4), (kAI vLa cI 24 f4), (kX7 aPa vPa l7 a7 n7), (kAI vPa cI 39 f7), (kX2 aGe vGe l2 a2 n2), (kAI vGe cI 23 f2), (kX1 aFl vFl xn), (kAI vFl cI 32 ff)]) hP hD [0, 7, 8, 9, 10, 11, 1, 2, 3, 4, 5, 6] (by decide +kernel) rfl
            exact W.iret (v := g_26 2) hx₀ hb hr (fun t₀ ht hW => ⟨⟨g_26 2, (k_fn [(g_26 0), (g_26 1), (g_26 2), (g_26 3), (g_26 4), (g_26 5), (g_26 6), (g_26 7), tgo, tca, tki, tso, tbe, twe, tle, (g_3 0), (g_3 1), (g_3 2)], k_fa [], k_fl [], k_fL [], k_fp [gR, gL]), rfl, trivial, by rw [ht]; exact hP9, va_K.moved hW.alike hK, hD9⟩, hS.F ht⟩) hS.2.2 dX11_strengthBehind_83
          · refine lv_aload_n hx₀ hb dX11_strengthBehind_60 rfl (lv_at hl 1 rfl) ?_
            refine va_get (D := (dC, dI)) (ci := 10) (v := .ref aTr) (C := RX11) (T := TX11) (N := 15) hx₀ hb hts inlX11 hown hK hP 0 rfl rfl 4 (by decide) (hts (.fieldLink RX11 42 "BittenStick" "trip" "LBittenStick$Trip;") wd_31) (fun _ h9 => h9) rfl dX11_strengthBehind_61 ?_
            refine va_get (D := (dC, dI)) (ci := 9) (v := .ref gR) (C := RX10) (T := TX10) (N := 17) hx₀ hb hts inlX10 hown hK hP 7 rfl rfl 5 (by decide) (hts (.fieldLink RX11 351 "BittenStick$Trip" "left" "LBittenStick$Goose;") wd_587) (fun _ h9 => h9) rfl dX11_strengthBehind_64 ?_
            refine va_get (D := (dC, dI)) (ci := 3) (v := .int (g_26 6)) (C := RX3) (T := TX3) (N := 4) hx₀ hb hts inlX3 hown hK hP 9 rfl rfl 2 (by decide) (hts (.fieldLink RX11 355 "BittenStick$Goose" "strong" "I") wd_588) (fun _ h9 => h9) rfl dX11_strengthBehind_67 ?_
            refine lv_goto (tgt := 83) hx₀ hb dX11_strengthBehind_70 (by decide) ?_
            obtain ⟨hP9, hD9⟩ := k_c2 (wc := [(kX11 hx aLa aPa aGe aFl aTr aBe aLu aLo vSf vSm vCo vSh xs xl xf), (kX10 aTr aLa aPa aGe gL gR gR gL tgo tca tki tso tbe twe tle (g_3 0) (g_3 1) (g_3 2)), (kX3 gL (g_26 0) (g_26 1) (g_26 2) (g_26 3)), (kX3 gR (g_26 4) (g_26 5) (g_26 6) (g_26 7)), (kX4 aLa vLa l4 a4 n4), (kAI vLa cI 24 f4), (kX7 aPa vPa l7 a7 n7), (kAI vPa cI 39 f7), (kX2 aGe vGe l2 a2 n2), (kAI vGe cI 23 f2), (kX1 aFl vFl xn), (kAI vFl cI 32 ff)]) hP hD [0, 7, 8, 9, 10, 11, 1, 2, 3, 4, 5, 6] (by decide +kernel) rfl
            exact W.iret (v := g_26 6) hx₀ hb hr (fun t₀ ht hW => ⟨⟨g_26 6, (k_fn [(g_26 0), (g_26 1), (g_26 2), (g_26 3), (g_26 4), (g_26 5), (g_26 6), (g_26 7), tgo, tca, tki, tso, tbe, twe, tle, (g_3 0), (g_3 1), (g_3 2)], k_fa [], k_fl [], k_fL [], k_fp [gR, gL]), rfl, trivial, by rw [ht]; exact hP9, va_K.moved hW.alike hK, hD9⟩, hS.F ht⟩) hS.2.2 dX11_strengthBehind_83
    · refine lv_iconst (v := (-1)) hx₀ hb dX11_strengthBehind_33 (by decide +kernel) ?_
      obtain ⟨hP9, hD9⟩ := k_c2 (wc := [(kX11 hx aLa aPa aGe aFl aTr aBe aLu aLo vSf vSm vCo vSh xs xl xf), (kX10 aTr aLa aPa aGe gL gR lf rt tgo tca tki tso tbe twe tle (g_3 0) (g_3 1) (g_3 2)), (kX3 gL u0 u1 u2 u3), (kX3 gR v0 v1 v2 v3), (kX4 aLa vLa l4 a4 n4), (kAI vLa cI 24 f4), (kX7 aPa vPa l7 a7 n7), (kAI vPa cI 39 f7), (kX2 aGe vGe l2 a2 n2), (kAI vGe cI 23 f2), (kX1 aFl vFl xn), (kAI vFl cI 32 ff)]) hP hD [0, 9, 1, 2, 10, 11, 3, 4, 5, 6, 7, 8] (by decide +kernel) rfl
      exact W.iret (v := (-1)) hx₀ hb hr (fun t₀ ht hW => ⟨⟨(-1), (k_fn [u0, u1, u2, u3, v0, v1, v2, v3, tgo, tca, tki, tso, tbe, twe, tle, (g_3 0), (g_3 1), (g_3 2)], k_fa [], k_fl [], k_fL [], k_fp [lf, rt]), rfl, trivial, by rw [ht]; exact hP9, va_K.moved hW.alike hK, hD9⟩, hS.F ht⟩) hS.2.2 dX11_strengthBehind_34
set_option maxHeartbeats 4000000 in
set_option maxRecDepth 100000 in
theorem j_comes (l : Launch) (dC : Nat → ClassId) (dI : Nat → Nat → Nat) (cI cJ cQ : ClassId) (sz : Nat) (hx : Nat) (f1 : Int32) (w1 : Int32) (aLa : Nat) (aPa : Nat) (aGe : Nat) (aFl : Nat) (aTr : Nat) (aBe : Nat) (aLu : Nat) (aLo : Nat) (vSf : Nat) (vSm : Nat) (vCo : Nat) (vSh : Nat) (xs : Int32) (xl : Int32) (xf : Int32) (gL : Nat) (gR : Nat) (lf : Nat) (rt : Nat) (tgo : Int32) (tca : Int32) (tki : Int32) (tso : Int32) (tbe : Int32) (twe : Int32) (tle : Int32) (tan : Int32) (tco : Int32) (ten : Int32) (u0 : Int32) (u1 : Int32) (u2 : Int32) (u3 : Int32) (v0 : Int32) (v1 : Int32) (v2 : Int32) (v3 : Int32) (vLa : Nat) (l4 : Int32) (a4 : Int32) (n4 : Int32) (f4 : Nat → Int32) (vPa : Nat) (l7 : Int32) (a7 : Int32) (n7 : Int32) (f7 : Nat → Int32) (vGe : Nat) (l2 : Int32) (a2 : Int32) (n2 : Int32) (f2 : Nat → Int32) (vFl : Nat) (xn : Int32) (ff : Nat → Int32) (hh0 : 0 ≤ n4 ∧ n4 ≤ 24) (hh1 : 0 ≤ xn ∧ xn ≤ 8) : Met l yX11_comes (kW yX11_comes cX11_comes 5 (some .int)) { frames := 4, cells := 0, slots := 0, locals := 90 } (kPre dC dI cI cJ cQ sz [.ref hx, .int f1, .int w1] [(kX11 hx aLa aPa aGe aFl aTr aBe aLu aLo vSf vSm vCo vSh xs xl xf), (kX10 aTr aLa aPa aGe gL gR lf rt tgo tca tki tso tbe twe tle tan tco ten), (kX3 gL u0 u1 u2 u3), (kX3 gR v0 v1 v2 v3), (kX4 aLa vLa l4 a4 n4), (kAI vLa cI 24 f4), (kX7 aPa vPa l7 a7 n7), (kAI vPa cI 39 f7), (kX2 aGe vGe l2 a2 n2), (kAI vGe cI 23 f2), (kX1 aFl vFl xn), (kAI vFl cI 32 ff)]) (va_Qi (fun (r : Int32) (u : kS) => True) (fun (u : kS) t₀ => kB dC dI cI cJ cQ (va_A [(kX11 hx aLa aPa aGe aFl aTr aBe aLu aLo vSf vSm vCo vSh xs xl xf), (kX10 aTr aLa aPa aGe gL gR lf rt tgo tca tki tso tbe twe tle tan tco ten), (kX3 gL u0 u1 u2 u3), (kX3 gR v0 v1 v2 v3), (kX4 aLa vLa l4 a4 n4), (kAI vLa cI 24 f4), (kX7 aPa vPa l7 a7 n7), (kAI vPa cI 39 f7), (kX2 aGe vGe l2 a2 n2), (kAI vGe cI 23 f2), (kX1 aFl vFl xn), (kAI vFl cI 32 ff)] sz) [(kX11 hx aLa aPa aGe aFl aTr aBe aLu aLo vSf vSm vCo vSh xs xl xf), (kX10 aTr aLa aPa aGe gL gR (u.2.2.2.2 0) (u.2.2.2.2 1) (u.1 8) (u.1 9) (u.1 10) (u.1 11) (u.1 12) (u.1 13) (u.1 14) (u.1 15) (u.1 16) (u.1 17)), (kX3 gL (u.1 0) (u.1 1) (u.1 2) (u.1 3)), (kX3 gR (u.1 4) (u.1 5) (u.1 6) (u.1 7)), (kX4 aLa vLa l4 a4 n4), (kAI vLa cI 24 f4), (kX7 aPa vPa l7 a7 n7), (kAI vPa cI 39 f7), (kX2 aGe vGe l2 a2 n2), (kAI vGe cI 23 f2), (kX1 aFl vFl xn), (kAI vFl cI 32 ff)] t₀) (va_A [(kX11 hx aLa aPa aGe aFl aTr aBe aLu aLo vSf vSm vCo vSh xs xl xf), (kX10 aTr aLa aPa aGe gL gR lf rt tgo tca tki tso tbe twe tle tan tco ten), (kX3 gL u0 u1 u2 u3), (kX3 gR v0 v1 v2 v3), (kX4 aLa vLa l4 a4 n4), (kAI vLa cI 24 f4), (kX7 aPa vPa l7 a7 n7), (kAI vPa cI 39 f7), (kX2 aGe vGe l2 a2 n2), (kAI vGe cI 23 f2), (kX1 aFl vFl xn), (kAI vFl cI 32 ff)] sz)) 0 0 (va_A [(kX11 hx aLa aPa aGe aFl aTr aBe aLu aLo vSf vSm vCo vSh xs xl xf), (kX10 aTr aLa aPa aGe gL gR lf rt tgo tca tki tso tbe twe tle tan tco ten), (kX3 gL u0 u1 u2 u3), (kX3 gR v0 v1 v2 v3), (kX4 aLa vLa l4 a4 n4), (kAI vLa cI 24 f4), (kX7 aPa vPa l7 a7 n7), (kAI vPa cI 39 f7), (kX2 aGe vGe l2 a2 n2), (kAI vGe cI 23 f2), (kX1 aFl vFl xn), (kAI vFl cI 32 ff)] sz) := by
  refine Met.ofW (cc := cX11_comes) (maxL := 5) (ret := (some .int)) (by decide) rfl ?_
  intro p₀ e₀ s₀ m₀ args below meth c₀ s₁ B hml hv₀
  obtain ⟨rfl, hsz, hP, hK, hD0, hN⟩ := hv₀
  have hx₀ := B.exec
  have hb := B.bytes
  have hr := B.returns
  have hts := atoms_spec (ws := (kW yX11_comes cX11_comes 5 (some .int))) B.pre
  have hts := fun w h => hts w (List.mem_cons_of_mem _ h)
  have hown : s₀.vm.findClass RX11 = some m₀.cls := findClass_of_methodNamed B.named
  have hlocks := B.notSynchronized
  subst hsz
  have hD := hD0.self (sz := s₀.heap.size)
  generalize hAe : va_A [(kX11 hx aLa aPa aGe aFl aTr aBe aLu aLo vSf vSm vCo vSh xs xl xf), (kX10 aTr aLa aPa aGe gL gR lf rt tgo tca tki tso tbe twe tle tan tco ten), (kX3 gL u0 u1 u2 u3), (kX3 gR v0 v1 v2 v3), (kX4 aLa vLa l4 a4 n4), (kAI vLa cI 24 f4), (kX7 aPa vPa l7 a7 n7), (kAI vPa cI 39 f7), (kX2 aGe vGe l2 a2 n2), (kAI vGe cI 23 f2), (kX1 aFl vFl xn), (kAI vFl cI 32 ff)] s₀.heap.size = A at hD ⊢
  have hA : ∀ q : Nat, s₀.heap.size ≤ q → A q := fun q h => by rw [← hAe]; exact Or.inr h
  have hS : va_S A s₀.heap s₀.heap [] := va_S.rf
  have hP : va_P (dC, dI) vwCl [(kX11 hx aLa aPa aGe aFl aTr aBe aLu aLo vSf vSm vCo vSh xs xl xf), (kX10 aTr aLa aPa aGe gL gR lf rt tgo tca tki tso tbe twe tle tan tco ten), (kX3 gL u0 u1 u2 u3), (kX3 gR v0 v1 v2 v3), (kX4 aLa vLa l4 a4 n4), (kAI vLa cI 24 f4), (kX7 aPa vPa l7 a7 n7), (kAI vPa cI 39 f7), (kX2 aGe vGe l2 a2 n2), (kAI vGe cI 23 f2), (kX1 aFl vFl xn), (kAI vFl cI 32 ff)] s₀.heap := hP
  have hl := lv_entry ([.ref hx, .int f1, .int w1]) (n := 5) (Nat.le_of_ble_eq_true rfl)
  rw [lg_entry_eq]
  generalize (lg_sl ([.ref hx, .int f1, .int w1]) ++ List.replicate (5 - (lg_sl ([.ref hx, .int f1, .int w1])).length) Slot.unset).toArray = ls at hl ⊢
  have hl : lv_has ls 5 [(0, .ref hx), (1, .int f1), (2, .int w1)] := hl
  obtain ⟨H, hH⟩ : ∃ z : Heap, z = s₀.heap := ⟨_, rfl⟩
  rw [← hH] at hP
  have hS : va_S A s₀.heap H [] := by rw [hH]; exact hS
  refine k_heap hH ?_
  have hD : va_D A [(kX11 hx aLa aPa aGe aFl aTr aBe aLu aLo vSf vSm vCo vSh xs xl xf), (kX10 aTr aLa aPa aGe gL gR lf rt tgo tca tki tso tbe twe tle tan tco ten), (kX3 gL u0 u1 u2 u3), (kX3 gR v0 v1 v2 v3), (kX4 aLa vLa l4 a4 n4), (kAI vLa cI 24 f4), (kX7 aPa vPa l7 a7 n7), (kAI vPa cI 39 f7), (kX2 aGe vGe l2 a2 n2), (kAI vGe cI 23 f2), (kX1 aFl vFl xn), (kAI vFl cI 32 ff)] := hD
  obtain ⟨locs, hlo⟩ : ∃ z : List Loc, z = [] := ⟨_, rfl⟩
  rw [← hlo] at hS ⊢
  clear hlo hH hAe hD0
  refine lv_aload_n hx₀ hb dX11_comes_0 rfl (lv_at hl 0 rfl) ?_
  refine va_get (D := (dC, dI)) (ci := 10) (v := .ref aFl) (C := RX11) (T := TX11) (N := 15) hx₀ hb hts inlX11 hown hK hP 0 rfl rfl 3 (by decide) (hts (.fieldLink RX11 33 "BittenStick" "flights" "LBittenStick$Flights;") wd_27) (fun _ h9 => h9) rfl dX11_comes_1 ?_
  refine lv_iload_n hx₀ hb dX11_comes_4 rfl (lv_at hl 1 rfl) ?_
  obtain ⟨hPc, hDc, hFc, hC⟩ := k_cw (wc := [(kX1 aFl vFl xn)]) hP hD hS hA [10] (by decide +kernel) rfl
  refine va_calli (va_runV (As := [.int f1]) (rest := []) ⟨hx₀, hb, hml, hown, hts⟩ (j_fHas l dC dI cI cJ cQ H.size aFl f1 vFl xn) (cwV 1 hts (kGV wd_426 wd_423 wd_424 wd_425 wd_26) rfl rfl rfl (by decide +kernel) ⟨Nat.le_of_ble_eq_true rfl, Nat.le_of_ble_eq_true rfl⟩) (k_preV1 (q0 := 0) hK hPc hDc hN rfl) rfl rfl hl.1 rfl (lv_room (Nat.le_of_ble_eq_true rfl)) dX11_comes_5 ⟨by decide +kernel, by decide +kernel⟩) hS (fun q _ h => hFc q h) hFc (fun r_1 u₀ t₀ H1 locs ht hvm hw hB hz1 hk1 hS => ?_)
  obtain ⟨hP1, hK1, hD1⟩ := hB
  rw [ht] at hP1
  have hJ := k_jn (wr := [(kX11 hx aLa aPa aGe aFl aTr aBe aLu aLo vSf vSm vCo vSh xs xl xf), (kX10 aTr aLa aPa aGe gL gR lf rt tgo tca tki tso tbe twe tle tan tco ten), (kX3 gL u0 u1 u2 u3), (kX3 gR v0 v1 v2 v3), (kX4 aLa vLa l4 a4 n4), (kAI vLa cI 24 f4), (kX7 aPa vPa l7 a7 n7), (kAI vPa cI 39 f7), (kX2 aGe vGe l2 a2 n2), (kAI vGe cI 23 f2), (kAI vFl cI 32 ff)]) (wt := [(kX11 hx aLa aPa aGe aFl aTr aBe aLu aLo vSf vSm vCo vSh xs xl xf), (kX10 aTr aLa aPa aGe gL gR lf rt tgo tca tki tso tbe twe tle tan tco ten), (kX3 gL u0 u1 u2 u3), (kX3 gR v0 v1 v2 v3), (kX4 aLa vLa l4 a4 n4), (kAI vLa cI 24 f4), (kX7 aPa vPa l7 a7 n7), (kAI vPa cI 39 f7), (kX2 aGe vGe l2 a2 n2), (kAI vGe cI 23 f2), (kAI vFl cI 32 ff), (kX1 aFl vFl xn)]) hP hD hC [0, 1, 2, 3, 4, 5, 6, 7, 8, 9, 11] rfl (by decide +kernel) (by decide +kernel) hk1 hFc hP1 hD1 rfl
  clear hP hD hPc hDc hFc hC hP1 hD1 hK1 hz1 hk1 hvm ht
  obtain ⟨hP, hD⟩ := hJ
  generalize H1 = H at hP hS ⊢
  try dsimp only at hw
  by_cases c_2 : 0 ≤ f1 ∧ f1 < xn
  · rw [if_pos c_2] at hw
    refine k_topi (v := 1) hw ?_
    refine lv_if_eq (tgt := 20) hx₀ hb dX11_comes_8 (by decide) (fun c9 => absurd c9 (by decide +kernel)) (fun _ => ?_)
    refine lv_iload_n hx₀ hb dX11_comes_11 rfl (lv_at hl 2 rfl) ?_
    refine lv_if_lt (tgt := 20) hx₀ hb dX11_comes_12 (by decide) (fun c_3 => ?_) (fun c_3 => ?_)
    · refine lv_bipush (v := (-2)) hx₀ hb dX11_comes_20 (by decide +kernel) ?_
      obtain ⟨hP9, hD9⟩ := k_c2 (wc := [(kX11 hx aLa aPa aGe aFl aTr aBe aLu aLo vSf vSm vCo vSh xs xl xf), (kX10 aTr aLa aPa aGe gL gR lf rt tgo tca tki tso tbe twe tle tan tco ten), (kX3 gL u0 u1 u2 u3), (kX3 gR v0 v1 v2 v3), (kX4 aLa vLa l4 a4 n4), (kAI vLa cI 24 f4), (kX7 aPa vPa l7 a7 n7), (kAI vPa cI 39 f7), (kX2 aGe vGe l2 a2 n2), (kAI vGe cI 23 f2), (kX1 aFl vFl xn), (kAI vFl cI 32 ff)]) hP hD [0, 1, 2, 3, 4, 5, 6, 7, 8, 9, 11, 10] (by decide +kernel) rfl
      exact W.iret (v := (-2)) hx₀ hb hr (fun t₀ ht hW => ⟨⟨(-2), (k_fn [u0, u1, u2, u3, v0, v1, v2, v3, tgo, tca, tki, tso, tbe, twe, tle, tan, tco, ten], k_fa [], k_fl [], k_fL [], k_fp [lf, rt]), rfl, trivial, by rw [ht]; exact hP9, va_K.moved hW.alike hK, hD9⟩, hS.F ht⟩) hS.2.2 dX11_comes_22
    · refine lv_iload_n hx₀ hb dX11_comes_15 rfl (lv_at hl 2 rfl) ?_
      refine lv_iconst (v := 2) hx₀ hb dX11_comes_16 (by decide +kernel) ?_
      refine lv_icmp_le (tgt := 23) hx₀ hb dX11_comes_17 (by decide) (fun c_4 => ?_) (fun c_4 => ?_)
      · refine lv_aload_n hx₀ hb dX11_comes_23 rfl (lv_at hl 0 rfl) ?_
        refine lv_iload_n hx₀ hb dX11_comes_24 rfl (lv_at hl 1 rfl) ?_
        obtain ⟨hPc, hDc, hFc, hC⟩ := k_cw (wc := [(kX11 hx aLa aPa aGe aFl aTr aBe aLu aLo vSf vSm vCo vSh xs xl xf), (kX10 aTr aLa aPa aGe gL gR lf rt tgo tca tki tso tbe twe tle tan tco ten), (kX3 gL u0 u1 u2 u3), (kX3 gR v0 v1 v2 v3), (kX4 aLa vLa l4 a4 n4), (kAI vLa cI 24 f4), (kX7 aPa vPa l7 a7 n7), (kAI vPa cI 39 f7), (kX2 aGe vGe l2 a2 n2), (kAI vGe cI 23 f2), (kX1 aFl vFl xn), (kAI vFl cI 32 ff)]) hP hD hS hA [0, 1, 2, 3, 4, 5, 6, 7, 8, 9, 11, 10] (by decide +kernel) rfl
        refine va_callv (va_runV (As := [.int f1]) (rest := []) ⟨hx₀, hb, hml, hown, hts⟩ (j_prepare l dC dI cI cJ cQ H.size hx f1 aLa aPa aGe aFl aTr aBe aLu aLo vSf vSm vCo vSh xs xl xf gL gR lf rt tgo tca tki tso tbe twe tle tan tco ten u0 u1 u2 u3 v0 v1 v2 v3 vLa l4 a4 n4 f4 vPa l7 a7 n7 f7 vGe l2 a2 n2 f2 vFl xn ff (hh0) (hh1)) (cwV 1 hts (kGV wd_430 wd_427 wd_428 wd_429 wd_2) rfl rfl rfl (by decide +kernel) ⟨Nat.le_of_ble_eq_true rfl, Nat.le_of_ble_eq_true rfl⟩) (k_preV10 (q0 := 0) hK hPc hDc hN rfl) rfl rfl hl.1 rfl (lv_room (Nat.le_of_ble_eq_true rfl)) dX11_comes_25 ⟨by decide +kernel, by decide +kernel⟩) hS (fun q _ h => hFc q h) hFc (fun u₀ t₀ H1 locs ht hvm hw hB hz1 hk1 hS => ?_)
        obtain ⟨g_6, ga_7, gl_8, gb_9, gp_10⟩ := u₀
        obtain ⟨hP1, hK1, hD1⟩ := hB
        rw [ht] at hP1
        have hJ := k_jn (wr := []) (wt := [(kX11 hx aLa aPa aGe aFl aTr aBe aLu aLo vSf vSm vCo vSh xs xl xf), (kX10 aTr aLa aPa aGe gL gR (gp_10 0) (gp_10 1) (g_6 8) (g_6 9) (g_6 10) (g_6 11) (g_6 12) (g_6 13) (g_6 14) (g_6 15) (g_6 16) (g_6 17)), (kX3 gL (g_6 0) (g_6 1) (g_6 2) (g_6 3)), (kX3 gR (g_6 4) (g_6 5) (g_6 6) (g_6 7)), (kX4 aLa vLa l4 a4 n4), (kAI vLa cI 24 f4), (kX7 aPa vPa l7 a7 n7), (kAI vPa cI 39 f7), (kX2 aGe vGe l2 a2 n2), (kAI vGe cI 23 f2), (kX1 aFl vFl xn), (kAI vFl cI 32 ff)]) hP hD hC [] rfl (by decide +kernel) (by decide +kernel) hk1 hFc hP1 hD1 rfl
        clear hP hD hPc hDc hFc hC hP1 hD1 hK1 hz1 hk1 hvm ht
        obtain ⟨hP, hD⟩ := hJ
        generalize H1 = H at hP hS ⊢
        try dsimp only at hw
        obtain ⟨c_11, c_12, c_13, c_14, c_15, c_16, c_17⟩ := hw
        refine lv_aload_n hx₀ hb dX11_comes_28 rfl (lv_at hl 0 rfl) ?_
        refine va_get (D := (dC, dI)) (ci := 10) (v := .ref aTr) (C := RX11) (T := TX11) (N := 15) hx₀ hb hts inlX11 hown hK hP 0 rfl rfl 4 (by decide) (hts (.fieldLink RX11 42 "BittenStick" "trip" "LBittenStick$Trip;") wd_31) (fun _ h9 => h9) rfl dX11_comes_29 ?_
        refine lv_aload_n hx₀ hb dX11_comes_32 rfl (lv_at hl 0 rfl) ?_
        refine va_get (D := (dC, dI)) (ci := 10) (v := .ref aFl) (C := RX11) (T := TX11) (N := 15) hx₀ hb hts inlX11 hown hK hP 0 rfl rfl 3 (by decide) (hts (.fieldLink RX11 33 "BittenStick" "flights" "LBittenStick$Flights;") wd_27) (fun _ h9 => h9) rfl dX11_comes_33 ?_
        refine lv_iload_n hx₀ hb dX11_comes_36 rfl (lv_at hl 1 rfl) ?_
        obtain ⟨hPc, hDc, hFc, hC⟩ := k_cw (wc := [(kX1 aFl vFl xn), (kAI vFl cI 32 ff)]) hP hD hS hA [10, 11] (by decide +kernel) rfl
        refine va_calli (va_runV (As := [.int f1]) (rest := [.ref aTr]) ⟨hx₀, hb, hml, hown, hts⟩ (j_heightOf l dC dI cI cJ cQ H.size aFl f1 vFl xn ff (hh1)) (cwV 1 hts (kGV wd_491 wd_488 wd_489 wd_490 wd_26) rfl rfl rfl (by decide +kernel) ⟨Nat.le_of_ble_eq_true rfl, Nat.le_of_ble_eq_true rfl⟩) (k_preV1 (q0 := 0) hK hPc hDc hN rfl) rfl rfl hl.1 rfl (lv_room (Nat.le_of_ble_eq_true rfl)) dX11_comes_37 ⟨by decide +kernel, by decide +kernel⟩) hS (fun q _ h => hFc q h) hFc (fun r_18 u₀ t₀ H1 locs ht hvm hw hB hz1 hk1 hS => ?_)
        obtain ⟨hP1, hK1, hD1⟩ := hB
        rw [ht] at hP1
        have hJ := k_jn (wr := [(kX11 hx aLa aPa aGe aFl aTr aBe aLu aLo vSf vSm vCo vSh xs xl xf), (kX10 aTr aLa aPa aGe gL gR (gp_10 0) (gp_10 1) (g_6 8) (g_6 9) (g_6 10) (g_6 11) (g_6 12) (g_6 13) (g_6 14) (g_6 15) (g_6 16) (g_6 17)), (kX3 gL (g_6 0) (g_6 1) (g_6 2) (g_6 3)), (kX3 gR (g_6 4) (g_6 5) (g_6 6) (g_6 7)), (kX4 aLa vLa l4 a4 n4), (kAI vLa cI 24 f4), (kX7 aPa vPa l7 a7 n7), (kAI vPa cI 39 f7), (kX2 aGe vGe l2 a2 n2), (kAI vGe cI 23 f2)]) (wt := [(kX11 hx aLa aPa aGe aFl aTr aBe aLu aLo vSf vSm vCo vSh xs xl xf), (kX10 aTr aLa aPa aGe gL gR (gp_10 0) (gp_10 1) (g_6 8) (g_6 9) (g_6 10) (g_6 11) (g_6 12) (g_6 13) (g_6 14) (g_6 15) (g_6 16) (g_6 17)), (kX3 gL (g_6 0) (g_6 1) (g_6 2) (g_6 3)), (kX3 gR (g_6 4) (g_6 5) (g_6 6) (g_6 7)), (kX4 aLa vLa l4 a4 n4), (kAI vLa cI 24 f4), (kX7 aPa vPa l7 a7 n7), (kAI vPa cI 39 f7), (kX2 aGe vGe l2 a2 n2), (kAI vGe cI 23 f2), (kX1 aFl vFl xn), (kAI vFl cI 32 ff)]) hP hD hC [0, 1, 2, 3, 4, 5, 6, 7, 8, 9] rfl (by decide +kernel) (by decide +kernel) hk1 hFc hP1 hD1 rfl
        clear hP hD hPc hDc hFc hC hP1 hD1 hK1 hz1 hk1 hvm ht
        obtain ⟨hP, hD⟩ := hJ
        generalize H1 = H at hP hS ⊢
        try dsimp only at hw
        refine k_topi (v := kIt xn ff f1 3) hw ?_
        obtain ⟨hPc, hDc, hFc, hC⟩ := k_cw (wc := [(kX10 aTr aLa aPa aGe gL gR (gp_10 0) (gp_10 1) (g_6 8) (g_6 9) (g_6 10) (g_6 11) (g_6 12) (g_6 13) (g_6 14) (g_6 15) (g_6 16) (g_6 17)), (kX4 aLa vLa l4 a4 n4), (kAI vLa cI 24 f4)]) hP hD hS hA [1, 4, 5] (by decide +kernel) rfl
        refine va_calli (va_runV (As := [.int (kIt xn ff f1 3)]) (rest := []) ⟨hx₀, hb, hml, hown, hts⟩ (j_comesTo l dC dI cI cJ cQ H.size aTr (kIt xn ff f1 3) aLa aPa aGe gL gR (gp_10 0) (gp_10 1) (g_6 8) (g_6 9) (g_6 10) (g_6 11) (g_6 12) (g_6 13) (g_6 14) (g_6 15) (g_6 16) (g_6 17) vLa l4 a4 n4 f4 (hh0)) (cwV 1 hts (kGV wd_495 wd_492 wd_493 wd_494 wd_30) rfl rfl rfl (by decide +kernel) ⟨Nat.le_of_ble_eq_true rfl, Nat.le_of_ble_eq_true rfl⟩) (k_preV9 (q0 := 0) hK hPc hDc hN rfl) rfl rfl hl.1 rfl (lv_room (Nat.le_of_ble_eq_true rfl)) dX11_comes_40 ⟨by decide +kernel, by decide +kernel⟩) hS (fun q _ h => hFc q h) hFc (fun r_19 u₀ t₀ H1 locs ht hvm hw hB hz1 hk1 hS => ?_)
        obtain ⟨g_20, ga_21, gl_22, gb_23, gp_24⟩ := u₀
        obtain ⟨hP1, hK1, hD1⟩ := hB
        rw [ht] at hP1
        have hJ := k_jn (wr := [(kX11 hx aLa aPa aGe aFl aTr aBe aLu aLo vSf vSm vCo vSh xs xl xf), (kX3 gL (g_6 0) (g_6 1) (g_6 2) (g_6 3)), (kX3 gR (g_6 4) (g_6 5) (g_6 6) (g_6 7)), (kX7 aPa vPa l7 a7 n7), (kAI vPa cI 39 f7), (kX2 aGe vGe l2 a2 n2), (kAI vGe cI 23 f2), (kX1 aFl vFl xn), (kAI vFl cI 32 ff)]) (wt := [(kX11 hx aLa aPa aGe aFl aTr aBe aLu aLo vSf vSm vCo vSh xs xl xf), (kX3 gL (g_6 0) (g_6 1) (g_6 2) (g_6 3)), (kX3 gR (g_6 4) (g_6 5) (g_6 6) (g_6 7)), (kX7 aPa vPa l7 a7 n7), (kAI vPa cI 39 f7), (kX2 aGe vGe l2 a2 n2), (kAI vGe cI 23 f2), (kX1 aFl vFl xn), (kAI vFl cI 32 ff), (kX10 aTr aLa aPa aGe gL gR (gp_10 0) (gp_10 1) (g_6 8) (g_6 9) (g_6 10) (g_6 11) (g_6 12) (g_6 13) (g_6 14) (g_20 0) (g_20 1) (g_20 2)), (kX4 aLa vLa l4 a4 n4), (kAI vLa cI 24 f4)]) hP hD hC [0, 2, 3, 6, 7, 8, 9, 10, 11] rfl (by decide +kernel) (by decide +kernel) hk1 hFc hP1 hD1 rfl
        clear hP hD hPc hDc hFc hC hP1 hD1 hK1 hz1 hk1 hvm ht
        obtain ⟨hP, hD⟩ := hJ
        generalize H1 = H at hP hS ⊢
        try dsimp only at hw
        obtain ⟨c_25, c_26, c_27, c_28⟩ := hw
        refine lv_istore_n (lv' := [(3, .int r_19), (0, .ref hx), (1, .int f1), (2, .int w1)]) hx₀ hb dX11_comes_43 rfl hl (by decide) rfl (fun ls hl => ?_)
        refine lv_iload_n hx₀ hb dX11_comes_44 rfl (lv_at hl 3 rfl) ?_
        refine lv_if_ne (tgt := 50) hx₀ hb dX11_comes_45 (by decide) (fun c_29 => ?_) (fun c_29 => ?_)
        · refine lv_iload_n hx₀ hb dX11_comes_50 rfl (lv_at hl 3 rfl) ?_
          refine lv_iconst (v := 1) hx₀ hb dX11_comes_51 (by decide +kernel) ?_
          refine lv_icmp_ne (tgt := 63) hx₀ hb dX11_comes_52 (by decide) (fun c_30 => ?_) (fun c_30 => ?_)
          · refine lv_aload_n hx₀ hb dX11_comes_63 rfl (lv_at hl 1 rfl) ?_
            refine va_get (D := (dC, dI)) (ci := 10) (v := .ref aTr) (C := RX11) (T := TX11) (N := 15) hx₀ hb hts inlX11 hown hK hP 0 rfl rfl 4 (by decide) (hts (.fieldLink RX11 42 "BittenStick" "trip" "LBittenStick$Trip;") wd_31) (fun _ h9 => h9) rfl dX11_comes_64 ?_
            refine va_get (D := (dC, dI)) (ci := 9) (v := .int (g_20 2)) (C := RX10) (T := TX10) (N := 17) hx₀ hb hts inlX10 hown hK hP 9 rfl rfl 16 (by decide) (hts (.fieldLink RX11 159 "BittenStick$Trip" "end" "I") wd_422) (fun _ h9 => h9) rfl dX11_comes_67 ?_
            refine lv_if_eq (tgt := 88) hx₀ hb dX11_comes_70 (by decide) (fun c_31 => ?_) (fun c_31 => ?_)
            · refine lv_iconst (v := 0) hx₀ hb dX11_comes_88 (by decide +kernel) ?_
              refine lv_istore (lv' := [(4, .int 0), (3, .int r_19), (0, .ref hx), (1, .int f1), (2, .int w1)]) hx₀ hb dX11_comes_89 hl (by decide) rfl (fun ls hl => ?_)
              refine lv_iload hx₀ hb dX11_comes_91 (lv_at hl 0 rfl) ?_
              refine lv_if_eq (tgt := 107) hx₀ hb dX11_comes_93 (by decide) (fun _ => ?_) (fun c9 => absurd (by decide +kernel) c9)
              refine lv_iconst (v := (-1)) hx₀ hb dX11_comes_107 (by decide +kernel) ?_
              obtain ⟨hP9, hD9⟩ := k_c2 (wc := [(kX11 hx aLa aPa aGe aFl aTr aBe aLu aLo vSf vSm vCo vSh xs xl xf), (kX10 aTr aLa aPa aGe gL gR (gp_10 0) (gp_10 1) (g_6 8) (g_6 9) (g_6 10) (g_6 11) (g_6 12) (g_6 13) (g_6 14) (g_20 0) (g_20 1) (g_20 2)), (kX3 gL (g_6 0) (g_6 1) (g_6 2) (g_6 3)), (kX3 gR (g_6 4) (g_6 5) (g_6 6) (g_6 7)), (kX4 aLa vLa l4 a4 n4), (kAI vLa cI 24 f4), (kX7 aPa vPa l7 a7 n7), (kAI vPa cI 39 f7), (kX2 aGe vGe l2 a2 n2), (kAI vGe cI 23 f2), (kX1 aFl vFl xn), (kAI vFl cI 32 ff)]) hP hD [0, 9, 1, 2, 10, 11, 3, 4, 5, 6, 7, 8] (by decide +kernel) rfl
              exact W.iret (v := (-1)) hx₀ hb hr (fun t₀ ht hW => ⟨⟨(-1), (k_fn [(g_6 0), (g_6 1), (g_6 2), (g_6 3), (g_6 4), (g_6 5), (g_6 6), (g_6 7), (g_6 8), (g_6 9), (g_6 10), (g_6 11), (g_6 12), (g_6 13), (g_6 14), (g_20 0), (g_20 1), (g_20 2)], k_fa [], k_fl [], k_fL [], k_fp [(gp_10 0), (gp_10 1)]), rfl, trivial, by rw [ht]; exact hP9, va_K.moved hW.alike hK, hD9⟩, hS.F ht⟩) hS.2.2 dX11_comes_108
            · refine lv_aload_n hx₀ hb dX11_comes_73 rfl (lv_at hl 1 rfl) ?_
              refine va_get (D := (dC, dI)) (ci := 10) (v := .ref aLa) (C := RX11) (T := TX11) (N := 15) hx₀ hb hts inlX11 hown hK hP 0 rfl rfl 0 (by decide) (hts (.fieldLink RX11 10 "BittenStick" "land" "LBittenStick$Land;") wd_15) (fun _ h9 => h9) rfl dX11_comes_74 ?_
              refine lv_iload_n hx₀ hb dX11_comes_77 rfl (lv_at hl 0 rfl) ?_
              obtain ⟨hPc, hDc, hFc, hC⟩ := k_cw (wc := [(kX4 aLa vLa l4 a4 n4), (kAI vLa cI 24 f4)]) hP hD hS hA [10, 11] (by decide +kernel) rfl
              refine va_calli (va_runV (As := [.int r_19]) (rest := []) ⟨hx₀, hb, hml, hown, hts⟩ (j_isTown l dC dI cI cJ cQ H.size aLa r_19 vLa l4 a4 n4 f4) (cwV 1 hts (kGV wd_516 wd_513 wd_514 wd_515 wd_14) rfl rfl rfl (by decide +kernel) ⟨Nat.le_of_ble_eq_true rfl, Nat.le_of_ble_eq_true rfl⟩) (k_preV4 (q0 := 0) hK hPc hDc hN rfl) rfl rfl hl.1 rfl (lv_room (Nat.le_of_ble_eq_true rfl)) dX11_comes_78 ⟨by decide +kernel, by decide +kernel⟩) hS (fun q _ h => hFc q h) hFc (fun r_32 u₀ t₀ H1 locs ht hvm hw hB hz1 hk1 hS => ?_)
              obtain ⟨hP1, hK1, hD1⟩ := hB
              rw [ht] at hP1
              have hJ := k_jn (wr := [(kX11 hx aLa aPa aGe aFl aTr aBe aLu aLo vSf vSm vCo vSh xs xl xf), (kX3 gL (g_6 0) (g_6 1) (g_6 2) (g_6 3)), (kX3 gR (g_6 4) (g_6 5) (g_6 6) (g_6 7)), (kX7 aPa vPa l7 a7 n7), (kAI vPa cI 39 f7), (kX2 aGe vGe l2 a2 n2), (kAI vGe cI 23 f2), (kX1 aFl vFl xn), (kAI vFl cI 32 ff), (kX10 aTr aLa aPa aGe gL gR (gp_10 0) (gp_10 1) (g_6 8) (g_6 9) (g_6 10) (g_6 11) (g_6 12) (g_6 13) (g_6 14) (g_20 0) (g_20 1) (g_20 2))]) (wt := [(kX11 hx aLa aPa aGe aFl aTr aBe aLu aLo vSf vSm vCo vSh xs xl xf), (kX3 gL (g_6 0) (g_6 1) (g_6 2) (g_6 3)), (kX3 gR (g_6 4) (g_6 5) (g_6 6) (g_6 7)), (kX7 aPa vPa l7 a7 n7), (kAI vPa cI 39 f7), (kX2 aGe vGe l2 a2 n2), (kAI vGe cI 23 f2), (kX1 aFl vFl xn), (kAI vFl cI 32 ff), (kX10 aTr aLa aPa aGe gL gR (gp_10 0) (gp_10 1) (g_6 8) (g_6 9) (g_6 10) (g_6 11) (g_6 12) (g_6 13) (g_6 14) (g_20 0) (g_20 1) (g_20 2)), (kX4 aLa vLa l4 a4 n4), (kAI vLa cI 24 f4)]) hP hD hC [0, 1, 2, 3, 4, 5, 6, 7, 8, 9] rfl (by decide +kernel) (by decide +kernel) hk1 hFc hP1 hD1 rfl
              clear hP hD hPc hDc hFc hC hP1 hD1 hK1 hz1 hk1 hvm ht
              obtain ⟨hP, hD⟩ := hJ
              generalize H1 = H at hP hS ⊢
              try dsimp only at hw
              refine lv_if_eq (tgt := 88) hx₀ hb dX11_comes_81 (by decide) (fun c_33 => ?_) (fun c_33 => ?_)
              · refine lv_iconst (v := 0) hx₀ hb dX11_comes_88 (by decide +kernel) ?_
                refine lv_istore (lv' := [(4, .int 0), (3, .int r_19), (0, .ref hx), (1, .int f1), (2, .int w1)]) hx₀ hb dX11_comes_89 hl (by decide) rfl (fun ls hl => ?_)
                refine lv_iload hx₀ hb dX11_comes_91 (lv_at hl 0 rfl) ?_
                refine lv_if_eq (tgt := 107) hx₀ hb dX11_comes_93 (by decide) (fun _ => ?_) (fun c9 => absurd (by decide +kernel) c9)
                refine lv_iconst (v := (-1)) hx₀ hb dX11_comes_107 (by decide +kernel) ?_
                obtain ⟨hP9, hD9⟩ := k_c2 (wc := [(kX11 hx aLa aPa aGe aFl aTr aBe aLu aLo vSf vSm vCo vSh xs xl xf), (kX10 aTr aLa aPa aGe gL gR (gp_10 0) (gp_10 1) (g_6 8) (g_6 9) (g_6 10) (g_6 11) (g_6 12) (g_6 13) (g_6 14) (g_20 0) (g_20 1) (g_20 2)), (kX3 gL (g_6 0) (g_6 1) (g_6 2) (g_6 3)), (kX3 gR (g_6 4) (g_6 5) (g_6 6) (g_6 7)), (kX4 aLa vLa l4 a4 n4), (kAI vLa cI 24 f4), (kX7 aPa vPa l7 a7 n7), (kAI vPa cI 39 f7), (kX2 aGe vGe l2 a2 n2), (kAI vGe cI 23 f2), (kX1 aFl vFl xn), (kAI vFl cI 32 ff)]) hP hD [0, 9, 1, 2, 10, 11, 3, 4, 5, 6, 7, 8] (by decide +kernel) rfl
                exact W.iret (v := (-1)) hx₀ hb hr (fun t₀ ht hW => ⟨⟨(-1), (k_fn [(g_6 0), (g_6 1), (g_6 2), (g_6 3), (g_6 4), (g_6 5), (g_6 6), (g_6 7), (g_6 8), (g_6 9), (g_6 10), (g_6 11), (g_6 12), (g_6 13), (g_6 14), (g_20 0), (g_20 1), (g_20 2)], k_fa [], k_fl [], k_fL [], k_fp [(gp_10 0), (gp_10 1)]), rfl, trivial, by rw [ht]; exact hP9, va_K.moved hW.alike hK, hD9⟩, hS.F ht⟩) hS.2.2 dX11_comes_108
              · refine lv_iconst (v := 1) hx₀ hb dX11_comes_84 (by decide +kernel) ?_
                refine lv_goto (tgt := 89) hx₀ hb dX11_comes_85 (by decide) ?_
                refine lv_istore (lv' := [(4, .int 1), (3, .int r_19), (0, .ref hx), (1, .int f1), (2, .int w1)]) hx₀ hb dX11_comes_89 hl (by decide) rfl (fun ls hl => ?_)
                refine lv_iload hx₀ hb dX11_comes_91 (lv_at hl 0 rfl) ?_
                refine lv_if_eq (tgt := 107) hx₀ hb dX11_comes_93 (by decide) (fun c9 => absurd c9 (by decide +kernel)) (fun _ => ?_)
                refine lv_aload_n hx₀ hb dX11_comes_96 rfl (lv_at hl 2 rfl) ?_
                refine va_get (D := (dC, dI)) (ci := 10) (v := .ref aLa) (C := RX11) (T := TX11) (N := 15) hx₀ hb hts inlX11 hown hK hP 0 rfl rfl 0 (by decide) (hts (.fieldLink RX11 10 "BittenStick" "land" "LBittenStick$Land;") wd_15) (fun _ h9 => h9) rfl dX11_comes_97 ?_
                refine lv_iload_n hx₀ hb dX11_comes_100 rfl (lv_at hl 1 rfl) ?_
                obtain ⟨hPc, hDc, hFc, hC⟩ := k_cw (wc := [(kX4 aLa vLa l4 a4 n4), (kAI vLa cI 24 f4)]) hP hD hS hA [10, 11] (by decide +kernel) rfl
                refine va_calli (va_runU (As := [.int r_19]) (rest := []) ⟨hx₀, hb, hml, hown, hts⟩ (j_valueAt_X4 l dC dI cI cJ cQ H.size aLa r_19 vLa l4 a4 n4 f4) (va_cwU 1 hts (kGU wd_179 wd_287 wd_288 wd_289 wd_178 wd_57) rfl rfl rfl rfl (by decide +kernel) ⟨Nat.le_of_ble_eq_true rfl, Nat.le_of_ble_eq_true rfl⟩) (k_preV4 (q0 := 0) hK hPc hDc hN rfl) rfl rfl hl.1 rfl (lv_room (Nat.le_of_ble_eq_true rfl)) dX11_comes_101 ⟨by decide +kernel, by decide +kernel⟩) hS (fun q _ h => hFc q h) hFc (fun r_34 u₀ t₀ H1 locs ht hvm hw hB hz1 hk1 hS => ?_)
                obtain ⟨hP1, hK1, hD1⟩ := hB
                rw [ht] at hP1
                have hJ := k_jn (wr := [(kX11 hx aLa aPa aGe aFl aTr aBe aLu aLo vSf vSm vCo vSh xs xl xf), (kX3 gL (g_6 0) (g_6 1) (g_6 2) (g_6 3)), (kX3 gR (g_6 4) (g_6 5) (g_6 6) (g_6 7)), (kX7 aPa vPa l7 a7 n7), (kAI vPa cI 39 f7), (kX2 aGe vGe l2 a2 n2), (kAI vGe cI 23 f2), (kX1 aFl vFl xn), (kAI vFl cI 32 ff), (kX10 aTr aLa aPa aGe gL gR (gp_10 0) (gp_10 1) (g_6 8) (g_6 9) (g_6 10) (g_6 11) (g_6 12) (g_6 13) (g_6 14) (g_20 0) (g_20 1) (g_20 2))]) (wt := [(kX11 hx aLa aPa aGe aFl aTr aBe aLu aLo vSf vSm vCo vSh xs xl xf), (kX3 gL (g_6 0) (g_6 1) (g_6 2) (g_6 3)), (kX3 gR (g_6 4) (g_6 5) (g_6 6) (g_6 7)), (kX7 aPa vPa l7 a7 n7), (kAI vPa cI 39 f7), (kX2 aGe vGe l2 a2 n2), (kAI vGe cI 23 f2), (kX1 aFl vFl xn), (kAI vFl cI 32 ff), (kX10 aTr aLa aPa aGe gL gR (gp_10 0) (gp_10 1) (g_6 8) (g_6 9) (g_6 10) (g_6 11) (g_6 12) (g_6 13) (g_6 14) (g_20 0) (g_20 1) (g_20 2)), (kX4 aLa vLa l4 a4 n4), (kAI vLa cI 24 f4)]) hP hD hC [0, 1, 2, 3, 4, 5, 6, 7, 8, 9] rfl (by decide +kernel) (by decide +kernel) hk1 hFc hP1 hD1 rfl
                clear hP hD hPc hDc hFc hC hP1 hD1 hK1 hz1 hk1 hvm ht
                obtain ⟨hP, hD⟩ := hJ
                generalize H1 = H at hP hS ⊢
                try dsimp only at hw
                refine k_topi (v := kAt 24 f4 r_19) hw ?_
                refine lv_goto (tgt := 108) hx₀ hb dX11_comes_104 (by decide) ?_
                obtain ⟨hP9, hD9⟩ := k_c2 (wc := [(kX11 hx aLa aPa aGe aFl aTr aBe aLu aLo vSf vSm vCo vSh xs xl xf), (kX10 aTr aLa aPa aGe gL gR (gp_10 0) (gp_10 1) (g_6 8) (g_6 9) (g_6 10) (g_6 11) (g_6 12) (g_6 13) (g_6 14) (g_20 0) (g_20 1) (g_20 2)), (kX3 gL (g_6 0) (g_6 1) (g_6 2) (g_6 3)), (kX3 gR (g_6 4) (g_6 5) (g_6 6) (g_6 7)), (kX4 aLa vLa l4 a4 n4), (kAI vLa cI 24 f4), (kX7 aPa vPa l7 a7 n7), (kAI vPa cI 39 f7), (kX2 aGe vGe l2 a2 n2), (kAI vGe cI 23 f2), (kX1 aFl vFl xn), (kAI vFl cI 32 ff)]) hP hD [0, 9, 1, 2, 10, 11, 3, 4, 5, 6, 7, 8] (by decide +kernel) rfl
                exact W.iret (v := kAt 24 f4 r_19) hx₀ hb hr (fun t₀ ht hW => ⟨⟨kAt 24 f4 r_19, (k_fn [(g_6 0), (g_6 1), (g_6 2), (g_6 3), (g_6 4), (g_6 5), (g_6 6), (g_6 7), (g_6 8), (g_6 9), (g_6 10), (g_6 11), (g_6 12), (g_6 13), (g_6 14), (g_20 0), (g_20 1), (g_20 2)], k_fa [], k_fl [], k_fL [], k_fp [(gp_10 0), (gp_10 1)]), rfl, trivial, by rw [ht]; exact hP9, va_K.moved hW.alike hK, hD9⟩, hS.F ht⟩) hS.2.2 dX11_comes_108
          · refine lv_aload_n hx₀ hb dX11_comes_55 rfl (lv_at hl 1 rfl) ?_
            refine va_get (D := (dC, dI)) (ci := 10) (v := .ref aTr) (C := RX11) (T := TX11) (N := 15) hx₀ hb hts inlX11 hown hK hP 0 rfl rfl 4 (by decide) (hts (.fieldLink RX11 42 "BittenStick" "trip" "LBittenStick$Trip;") wd_31) (fun _ h9 => h9) rfl dX11_comes_56 ?_
            refine va_get (D := (dC, dI)) (ci := 9) (v := .int (g_20 2)) (C := RX10) (T := TX10) (N := 17) hx₀ hb hts inlX10 hown hK hP 9 rfl rfl 16 (by decide) (hts (.fieldLink RX11 159 "BittenStick$Trip" "end" "I") wd_422) (fun _ h9 => h9) rfl dX11_comes_59 ?_
            obtain ⟨hP9, hD9⟩ := k_c2 (wc := [(kX11 hx aLa aPa aGe aFl aTr aBe aLu aLo vSf vSm vCo vSh xs xl xf), (kX10 aTr aLa aPa aGe gL gR (gp_10 0) (gp_10 1) (g_6 8) (g_6 9) (g_6 10) (g_6 11) (g_6 12) (g_6 13) (g_6 14) (g_20 0) (g_20 1) (g_20 2)), (kX3 gL (g_6 0) (g_6 1) (g_6 2) (g_6 3)), (kX3 gR (g_6 4) (g_6 5) (g_6 6) (g_6 7)), (kX4 aLa vLa l4 a4 n4), (kAI vLa cI 24 f4), (kX7 aPa vPa l7 a7 n7), (kAI vPa cI 39 f7), (kX2 aGe vGe l2 a2 n2), (kAI vGe cI 23 f2), (kX1 aFl vFl xn), (kAI vFl cI 32 ff)]) hP hD [0, 9, 1, 2, 10, 11, 3, 4, 5, 6, 7, 8] (by decide +kernel) rfl
            exact W.iret (v := g_20 2) hx₀ hb hr (fun t₀ ht hW => ⟨⟨g_20 2, (k_fn [(g_6 0), (g_6 1), (g_6 2), (g_6 3), (g_6 4), (g_6 5), (g_6 6), (g_6 7), (g_6 8), (g_6 9), (g_6 10), (g_6 11), (g_6 12), (g_6 13), (g_6 14), (g_20 0), (g_20 1), (g_20 2)], k_fa [], k_fl [], k_fL [], k_fp [(gp_10 0), (gp_10 1)]), rfl, trivial, by rw [ht]; exact hP9, va_K.moved hW.alike hK, hD9⟩, hS.F ht⟩) hS.2.2 dX11_comes_62
        · refine lv_iload_n hx₀ hb dX11_comes_48 rfl (lv_at hl 0 rfl) ?_
          obtain ⟨hP9, hD9⟩ := k_c2 (wc := [(kX11 hx aLa aPa aGe aFl aTr aBe aLu aLo vSf vSm vCo vSh xs xl xf), (kX10 aTr aLa aPa aGe gL gR (gp_10 0) (gp_10 1) (g_6 8) (g_6 9) (g_6 10) (g_6 11) (g_6 12) (g_6 13) (g_6 14) (g_20 0) (g_20 1) (g_20 2)), (kX3 gL (g_6 0) (g_6 1) (g_6 2) (g_6 3)), (kX3 gR (g_6 4) (g_6 5) (g_6 6) (g_6 7)), (kX4 aLa vLa l4 a4 n4), (kAI vLa cI 24 f4), (kX7 aPa vPa l7 a7 n7), (kAI vPa cI 39 f7), (kX2 aGe vGe l2 a2 n2), (kAI vGe cI 23 f2), (kX1 aFl vFl xn), (kAI vFl cI 32 ff)]) hP hD [0, 9, 1, 2, 10, 11, 3, 4, 5, 6, 7, 8] (by decide +kernel) rfl
          exact W.iret (v := r_19) hx₀ hb hr (fun t₀ ht hW => ⟨⟨r_19, (k_fn [(g_6 0), (g_6 1), (g_6 2), (g_6 3), (g_6 4), (g_6 5), (g_6 6), (g_6 7), (g_6 8), (g_6 9), (g_6 10), (g_6 11), (g_6 12), (g_6 13), (g_6 14), (g_20 0), (g_20 1), (g_20 2)], k_fa [], k_fl [], k_fL [], k_fp [(gp_10 0), (gp_10 1)]), rfl, trivial, by rw [ht]; exact hP9, va_K.moved hW.alike hK, hD9⟩, hS.F ht⟩) hS.2.2 dX11_comes_49
      · refine lv_bipush (v := (-2)) hx₀ hb dX11_comes_20 (by decide +kernel) ?_
        obtain ⟨hP9, hD9⟩ := k_c2 (wc := [(kX11 hx aLa aPa aGe aFl aTr aBe aLu aLo vSf vSm vCo vSh xs xl xf), (kX10 aTr aLa aPa aGe gL gR lf rt tgo tca tki tso tbe twe tle tan tco ten), (kX3 gL u0 u1 u2 u3), (kX3 gR v0 v1 v2 v3), (kX4 aLa vLa l4 a4 n4), (kAI vLa cI 24 f4), (kX7 aPa vPa l7 a7 n7), (kAI vPa cI 39 f7), (kX2 aGe vGe l2 a2 n2), (kAI vGe cI 23 f2), (kX1 aFl vFl xn), (kAI vFl cI 32 ff)]) hP hD [0, 1, 2, 3, 4, 5, 6, 7, 8, 9, 11, 10] (by decide +kernel) rfl
        exact W.iret (v := (-2)) hx₀ hb hr (fun t₀ ht hW => ⟨⟨(-2), (k_fn [u0, u1, u2, u3, v0, v1, v2, v3, tgo, tca, tki, tso, tbe, twe, tle, tan, tco, ten], k_fa [], k_fl [], k_fL [], k_fp [lf, rt]), rfl, trivial, by rw [ht]; exact hP9, va_K.moved hW.alike hK, hD9⟩, hS.F ht⟩) hS.2.2 dX11_comes_22
  rw [if_neg c_2] at hw
  refine k_topi (v := 0) hw ?_
  refine lv_if_eq (tgt := 20) hx₀ hb dX11_comes_8 (by decide) (fun _ => ?_) (fun c9 => absurd (by decide +kernel) c9)
  refine lv_bipush (v := (-2)) hx₀ hb dX11_comes_20 (by decide +kernel) ?_
  obtain ⟨hP9, hD9⟩ := k_c2 (wc := [(kX11 hx aLa aPa aGe aFl aTr aBe aLu aLo vSf vSm vCo vSh xs xl xf), (kX10 aTr aLa aPa aGe gL gR lf rt tgo tca tki tso tbe twe tle tan tco ten), (kX3 gL u0 u1 u2 u3), (kX3 gR v0 v1 v2 v3), (kX4 aLa vLa l4 a4 n4), (kAI vLa cI 24 f4), (kX7 aPa vPa l7 a7 n7), (kAI vPa cI 39 f7), (kX2 aGe vGe l2 a2 n2), (kAI vGe cI 23 f2), (kX1 aFl vFl xn), (kAI vFl cI 32 ff)]) hP hD [0, 1, 2, 3, 4, 5, 6, 7, 8, 9, 11, 10] (by decide +kernel) rfl
  exact W.iret (v := (-2)) hx₀ hb hr (fun t₀ ht hW => ⟨⟨(-2), (k_fn [u0, u1, u2, u3, v0, v1, v2, v3, tgo, tca, tki, tso, tbe, twe, tle, tan, tco, ten], k_fa [], k_fl [], k_fL [], k_fp [lf, rt]), rfl, trivial, by rw [ht]; exact hP9, va_K.moved hW.alike hK, hD9⟩, hS.F ht⟩) hS.2.2 dX11_comes_22
theorem lf_j_behind_1 (a0 : Int32) (a1 : Int32) (h0 : 0 ≤ a0 ∧ a0 ≤ 24) (h1 : 0 ≤ a1 ∧ a1 < a0) : 0 ≤ a1 ∧ a1.toInt < 2147483647 := by
  first | (first | omega | (have hr0 := Int32.toInt_lt a0; have hs0 := Int32.le_toInt a0; have hr1 := Int32.toInt_lt a1; have hs1 := Int32.le_toInt a1; simp only [Int64.toInt_add, Int64.toInt_sub, Int32.toInt_add, Int32.toInt_sub, Int32.toInt_mul, Int64.le_iff_toInt_le, Int64.lt_iff_toInt_lt, Int32.le_iff_toInt_le, Int32.lt_iff_toInt_lt, ← Int32.toInt_inj, ← Int64.toInt_inj, Int32.toInt_toInt64, kc_0, kc_24, kc_2147483647, true_and, and_true, not_true_eq_false, not_false_eq_true] at * <;> ((first | omega | ((try simp (disch := omega) only [k_bm64] at *); (try simp (disch := omega) only [k_bm] at *); (try simp (disch := omega) only [k_bm] at *); omega) | (simp only [Int.bmod] at *; omega))))) | with_reducible assumption | rfl
set_option maxHeartbeats 4000000 in
set_option maxRecDepth 100000 in
theorem j_behind (l : Launch) (dC : Nat → ClassId) (dI : Nat → Nat → Nat) (cI cJ cQ : ClassId) (sz : Nat) (hx : Nat) (f1 : Int32) (m1 : Int32) (w1 : Int32) (aLa : Nat) (aPa : Nat) (aGe : Nat) (aFl : Nat) (aTr : Nat) (aBe : Nat) (aLu : Nat) (aLo : Nat) (vSf : Nat) (vSm : Nat) (vCo : Nat) (vSh : Nat) (xs : Int32) (xl : Int32) (xf : Int32) (gL : Nat) (gR : Nat) (lf : Nat) (rt : Nat) (tgo : Int32) (tca : Int32) (tki : Int32) (tso : Int32) (tbe : Int32) (twe : Int32) (tle : Int32) (tan : Int32) (tco : Int32) (ten : Int32) (u0 : Int32) (u1 : Int32) (u2 : Int32) (u3 : Int32) (v0 : Int32) (v1 : Int32) (v2 : Int32) (v3 : Int32) (vLa : Nat) (l4 : Int32) (a4 : Int32) (n4 : Int32) (f4 : Nat → Int32) (vPa : Nat) (l7 : Int32) (a7 : Int32) (n7 : Int32) (f7 : Nat → Int32) (vGe : Nat) (l2 : Int32) (a2 : Int32) (n2 : Int32) (f2 : Nat → Int32) (vFl : Nat) (xn : Int32) (ff : Nat → Int32) (hh0 : 0 ≤ n4 ∧ n4 ≤ 24) (hh1 : 0 ≤ xn ∧ xn ≤ 8) : Met l yX11_behind (kW yX11_behind cX11_behind 4 (some .int)) { frames := 4, cells := 0, slots := 0, locals := 94 } (kPre dC dI cI cJ cQ sz [.ref hx, .int f1, .int m1, .int w1] [(kX11 hx aLa aPa aGe aFl aTr aBe aLu aLo vSf vSm vCo vSh xs xl xf), (kX10 aTr aLa aPa aGe gL gR lf rt tgo tca tki tso tbe twe tle tan tco ten), (kX3 gL u0 u1 u2 u3), (kX3 gR v0 v1 v2 v3), (kX4 aLa vLa l4 a4 n4), (kAI vLa cI 24 f4), (kX7 aPa vPa l7 a7 n7), (kAI vPa cI 39 f7), (kX2 aGe vGe l2 a2 n2), (kAI vGe cI 23 f2), (kX1 aFl vFl xn), (kAI vFl cI 32 ff)]) (va_Qi (fun (r : Int32) (u : kS) => True) (fun (u : kS) t₀ => kB dC dI cI cJ cQ (va_A [(kX11 hx aLa aPa aGe aFl aTr aBe aLu aLo vSf vSm vCo vSh xs xl xf), (kX10 aTr aLa aPa aGe gL gR lf rt tgo tca tki tso tbe twe tle tan tco ten), (kX3 gL u0 u1 u2 u3), (kX3 gR v0 v1 v2 v3), (kX4 aLa vLa l4 a4 n4), (kAI vLa cI 24 f4), (kX7 aPa vPa l7 a7 n7), (kAI vPa cI 39 f7), (kX2 aGe vGe l2 a2 n2), (kAI vGe cI 23 f2), (kX1 aFl vFl xn), (kAI vFl cI 32 ff)] sz) [(kX11 hx aLa aPa aGe aFl aTr aBe aLu aLo vSf vSm vCo vSh xs xl xf), (kX10 aTr aLa aPa aGe gL gR (u.2.2.2.2 0) (u.2.2.2.2 1) (u.1 8) (u.1 9) (u.1 10) (u.1 11) (u.1 12) (u.1 13) (u.1 14) (u.1 15) (u.1 16) (u.1 17)), (kX3 gL (u.1 0) (u.1 1) (u.1 2) (u.1 3)), (kX3 gR (u.1 4) (u.1 5) (u.1 6) (u.1 7)), (kX4 aLa vLa l4 a4 n4), (kAI vLa cI 24 f4), (kX7 aPa vPa l7 a7 n7), (kAI vPa cI 39 f7), (kX2 aGe vGe l2 a2 n2), (kAI vGe cI 23 f2), (kX1 aFl vFl xn), (kAI vFl cI 32 ff)] t₀) (va_A [(kX11 hx aLa aPa aGe aFl aTr aBe aLu aLo vSf vSm vCo vSh xs xl xf), (kX10 aTr aLa aPa aGe gL gR lf rt tgo tca tki tso tbe twe tle tan tco ten), (kX3 gL u0 u1 u2 u3), (kX3 gR v0 v1 v2 v3), (kX4 aLa vLa l4 a4 n4), (kAI vLa cI 24 f4), (kX7 aPa vPa l7 a7 n7), (kAI vPa cI 39 f7), (kX2 aGe vGe l2 a2 n2), (kAI vGe cI 23 f2), (kX1 aFl vFl xn), (kAI vFl cI 32 ff)] sz)) 0 0 (va_A [(kX11 hx aLa aPa aGe aFl aTr aBe aLu aLo vSf vSm vCo vSh xs xl xf), (kX10 aTr aLa aPa aGe gL gR lf rt tgo tca tki tso tbe twe tle tan tco ten), (kX3 gL u0 u1 u2 u3), (kX3 gR v0 v1 v2 v3), (kX4 aLa vLa l4 a4 n4), (kAI vLa cI 24 f4), (kX7 aPa vPa l7 a7 n7), (kAI vPa cI 39 f7), (kX2 aGe vGe l2 a2 n2), (kAI vGe cI 23 f2), (kX1 aFl vFl xn), (kAI vFl cI 32 ff)] sz) := by
  refine Met.ofW (cc := cX11_behind) (maxL := 4) (ret := (some .int)) (by decide) rfl ?_
  intro p₀ e₀ s₀ m₀ args below meth c₀ s₁ B hml hv₀
  obtain ⟨rfl, hsz, hP, hK, hD0, hN⟩ := hv₀
  have hx₀ := B.exec
  have hb := B.bytes
  have hr := B.returns
  have hts := atoms_spec (ws := (kW yX11_behind cX11_behind 4 (some .int))) B.pre
  have hts := fun w h => hts w (List.mem_cons_of_mem _ h)
  have hown : s₀.vm.findClass RX11 = some m₀.cls := findClass_of_methodNamed B.named
  have hlocks := B.notSynchronized
  subst hsz
  have hD := hD0.self (sz := s₀.heap.size)
  generalize hAe : va_A [(kX11 hx aLa aPa aGe aFl aTr aBe aLu aLo vSf vSm vCo vSh xs xl xf), (kX10 aTr aLa aPa aGe gL gR lf rt tgo tca tki tso tbe twe tle tan tco ten), (kX3 gL u0 u1 u2 u3), (kX3 gR v0 v1 v2 v3), (kX4 aLa vLa l4 a4 n4), (kAI vLa cI 24 f4), (kX7 aPa vPa l7 a7 n7), (kAI vPa cI 39 f7), (kX2 aGe vGe l2 a2 n2), (kAI vGe cI 23 f2), (kX1 aFl vFl xn), (kAI vFl cI 32 ff)] s₀.heap.size = A at hD ⊢
  have hA : ∀ q : Nat, s₀.heap.size ≤ q → A q := fun q h => by rw [← hAe]; exact Or.inr h
  have hS : va_S A s₀.heap s₀.heap [] := va_S.rf
  have hP : va_P (dC, dI) vwCl [(kX11 hx aLa aPa aGe aFl aTr aBe aLu aLo vSf vSm vCo vSh xs xl xf), (kX10 aTr aLa aPa aGe gL gR lf rt tgo tca tki tso tbe twe tle tan tco ten), (kX3 gL u0 u1 u2 u3), (kX3 gR v0 v1 v2 v3), (kX4 aLa vLa l4 a4 n4), (kAI vLa cI 24 f4), (kX7 aPa vPa l7 a7 n7), (kAI vPa cI 39 f7), (kX2 aGe vGe l2 a2 n2), (kAI vGe cI 23 f2), (kX1 aFl vFl xn), (kAI vFl cI 32 ff)] s₀.heap := hP
  have hl := lv_entry ([.ref hx, .int f1, .int m1, .int w1]) (n := 4) (Nat.le_of_ble_eq_true rfl)
  rw [lg_entry_eq]
  generalize (lg_sl ([.ref hx, .int f1, .int m1, .int w1]) ++ List.replicate (4 - (lg_sl ([.ref hx, .int f1, .int m1, .int w1])).length) Slot.unset).toArray = ls at hl ⊢
  have hl : lv_has ls 4 [(0, .ref hx), (1, .int f1), (2, .int m1), (3, .int w1)] := hl
  obtain ⟨H, hH⟩ : ∃ z : Heap, z = s₀.heap := ⟨_, rfl⟩
  rw [← hH] at hP
  have hS : va_S A s₀.heap H [] := by rw [hH]; exact hS
  refine k_heap hH ?_
  have hD : va_D A [(kX11 hx aLa aPa aGe aFl aTr aBe aLu aLo vSf vSm vCo vSh xs xl xf), (kX10 aTr aLa aPa aGe gL gR lf rt tgo tca tki tso tbe twe tle tan tco ten), (kX3 gL u0 u1 u2 u3), (kX3 gR v0 v1 v2 v3), (kX4 aLa vLa l4 a4 n4), (kAI vLa cI 24 f4), (kX7 aPa vPa l7 a7 n7), (kAI vPa cI 39 f7), (kX2 aGe vGe l2 a2 n2), (kAI vGe cI 23 f2), (kX1 aFl vFl xn), (kAI vFl cI 32 ff)] := hD
  obtain ⟨locs, hlo⟩ : ∃ z : List Loc, z = [] := ⟨_, rfl⟩
  rw [← hlo] at hS ⊢
  clear hlo hH hAe hD0
  refine lv_aload_n hx₀ hb dX11_behind_0 rfl (lv_at hl 0 rfl) ?_
  refine va_get (D := (dC, dI)) (ci := 10) (v := .ref aFl) (C := RX11) (T := TX11) (N := 15) hx₀ hb hts inlX11 hown hK hP 0 rfl rfl 3 (by decide) (hts (.fieldLink RX11 33 "BittenStick" "flights" "LBittenStick$Flights;") wd_27) (fun _ h9 => h9) rfl dX11_behind_1 ?_
  refine lv_iload_n hx₀ hb dX11_behind_4 rfl (lv_at hl 1 rfl) ?_
  obtain ⟨hPc, hDc, hFc, hC⟩ := k_cw (wc := [(kX1 aFl vFl xn)]) hP hD hS hA [10] (by decide +kernel) rfl
  refine va_calli (va_runV (As := [.int f1]) (rest := []) ⟨hx₀, hb, hml, hown, hts⟩ (j_fHas l dC dI cI cJ cQ H.size aFl f1 vFl xn) (cwV 1 hts (kGV wd_426 wd_423 wd_424 wd_425 wd_26) rfl rfl rfl (by decide +kernel) ⟨Nat.le_of_ble_eq_true rfl, Nat.le_of_ble_eq_true rfl⟩) (k_preV1 (q0 := 0) hK hPc hDc hN rfl) rfl rfl hl.1 rfl (lv_room (Nat.le_of_ble_eq_true rfl)) dX11_behind_5 ⟨by decide +kernel, by decide +kernel⟩) hS (fun q _ h => hFc q h) hFc (fun r_1 u₀ t₀ H1 locs ht hvm hw hB hz1 hk1 hS => ?_)
  obtain ⟨hP1, hK1, hD1⟩ := hB
  rw [ht] at hP1
  have hJ := k_jn (wr := [(kX11 hx aLa aPa aGe aFl aTr aBe aLu aLo vSf vSm vCo vSh xs xl xf), (kX10 aTr aLa aPa aGe gL gR lf rt tgo tca tki tso tbe twe tle tan tco ten), (kX3 gL u0 u1 u2 u3), (kX3 gR v0 v1 v2 v3), (kX4 aLa vLa l4 a4 n4), (kAI vLa cI 24 f4), (kX7 aPa vPa l7 a7 n7), (kAI vPa cI 39 f7), (kX2 aGe vGe l2 a2 n2), (kAI vGe cI 23 f2), (kAI vFl cI 32 ff)]) (wt := [(kX11 hx aLa aPa aGe aFl aTr aBe aLu aLo vSf vSm vCo vSh xs xl xf), (kX10 aTr aLa aPa aGe gL gR lf rt tgo tca tki tso tbe twe tle tan tco ten), (kX3 gL u0 u1 u2 u3), (kX3 gR v0 v1 v2 v3), (kX4 aLa vLa l4 a4 n4), (kAI vLa cI 24 f4), (kX7 aPa vPa l7 a7 n7), (kAI vPa cI 39 f7), (kX2 aGe vGe l2 a2 n2), (kAI vGe cI 23 f2), (kAI vFl cI 32 ff), (kX1 aFl vFl xn)]) hP hD hC [0, 1, 2, 3, 4, 5, 6, 7, 8, 9, 11] rfl (by decide +kernel) (by decide +kernel) hk1 hFc hP1 hD1 rfl
  clear hP hD hPc hDc hFc hC hP1 hD1 hK1 hz1 hk1 hvm ht
  obtain ⟨hP, hD⟩ := hJ
  generalize H1 = H at hP hS ⊢
  try dsimp only at hw
  by_cases c_2 : 0 ≤ f1 ∧ f1 < xn
  · rw [if_pos c_2] at hw
    refine k_topi (v := 1) hw ?_
    refine lv_if_eq (tgt := 31) hx₀ hb dX11_behind_8 (by decide) (fun c9 => absurd c9 (by decide +kernel)) (fun _ => ?_)
    refine lv_aload_n hx₀ hb dX11_behind_11 rfl (lv_at hl 0 rfl) ?_
    refine va_get (D := (dC, dI)) (ci := 10) (v := .ref aLa) (C := RX11) (T := TX11) (N := 15) hx₀ hb hts inlX11 hown hK hP 0 rfl rfl 0 (by decide) (hts (.fieldLink RX11 10 "BittenStick" "land" "LBittenStick$Land;") wd_15) (fun _ h9 => h9) rfl dX11_behind_12 ?_
    refine lv_iload_n hx₀ hb dX11_behind_15 rfl (lv_at hl 2 rfl) ?_
    obtain ⟨hPc, hDc, hFc, hC⟩ := k_cw (wc := [(kX4 aLa vLa l4 a4 n4)]) hP hD hS hA [4] (by decide +kernel) rfl
    refine va_calli (va_runU (As := [.int m1]) (rest := []) ⟨hx₀, hb, hml, hown, hts⟩ (j_has_X4 l dC dI cI cJ cQ H.size aLa m1 vLa l4 a4 n4) (va_cwU 1 hts (kGU wd_307 wd_573 wd_518 wd_519 wd_306 wd_57) rfl rfl rfl rfl (by decide +kernel) ⟨Nat.le_of_ble_eq_true rfl, Nat.le_of_ble_eq_true rfl⟩) (k_preV4 (q0 := 0) hK hPc hDc hN rfl) rfl rfl hl.1 rfl (lv_room (Nat.le_of_ble_eq_true rfl)) dX11_behind_16 ⟨by decide +kernel, by decide +kernel⟩) hS (fun q _ h => hFc q h) hFc (fun r_3 u₀ t₀ H1 locs ht hvm hw hB hz1 hk1 hS => ?_)
    obtain ⟨hP1, hK1, hD1⟩ := hB
    rw [ht] at hP1
    have hJ := k_jn (wr := [(kX11 hx aLa aPa aGe aFl aTr aBe aLu aLo vSf vSm vCo vSh xs xl xf), (kX10 aTr aLa aPa aGe gL gR lf rt tgo tca tki tso tbe twe tle tan tco ten), (kX3 gL u0 u1 u2 u3), (kX3 gR v0 v1 v2 v3), (kAI vLa cI 24 f4), (kX7 aPa vPa l7 a7 n7), (kAI vPa cI 39 f7), (kX2 aGe vGe l2 a2 n2), (kAI vGe cI 23 f2), (kAI vFl cI 32 ff), (kX1 aFl vFl xn)]) (wt := [(kX11 hx aLa aPa aGe aFl aTr aBe aLu aLo vSf vSm vCo vSh xs xl xf), (kX10 aTr aLa aPa aGe gL gR lf rt tgo tca tki tso tbe twe tle tan tco ten), (kX3 gL u0 u1 u2 u3), (kX3 gR v0 v1 v2 v3), (kAI vLa cI 24 f4), (kX7 aPa vPa l7 a7 n7), (kAI vPa cI 39 f7), (kX2 aGe vGe l2 a2 n2), (kAI vGe cI 23 f2), (kAI vFl cI 32 ff), (kX1 aFl vFl xn), (kX4 aLa vLa l4 a4 n4)]) hP hD hC [0, 1, 2, 3, 5, 6, 7, 8, 9, 10, 11] rfl (by decide +kernel) (by decide +kernel) hk1 hFc hP1 hD1 rfl
    clear hP hD hPc hDc hFc hC hP1 hD1 hK1 hz1 hk1 hvm ht
    obtain ⟨hP, hD⟩ := hJ
    generalize H1 = H at hP hS ⊢
    try dsimp only at hw
    by_cases c_4 : 0 ≤ m1 ∧ m1 < n4
    · rw [if_pos c_4] at hw
      refine k_topi (v := 1) hw ?_
      refine lv_if_eq (tgt := 31) hx₀ hb dX11_behind_19 (by decide) (fun c9 => absurd c9 (by decide +kernel)) (fun _ => ?_)
      refine lv_iload_n hx₀ hb dX11_behind_22 rfl (lv_at hl 3 rfl) ?_
      refine lv_if_lt (tgt := 31) hx₀ hb dX11_behind_23 (by decide) (fun c_5 => ?_) (fun c_5 => ?_)
      · refine lv_bipush (v := (-2)) hx₀ hb dX11_behind_31 (by decide +kernel) ?_
        obtain ⟨hP9, hD9⟩ := k_c2 (wc := [(kX11 hx aLa aPa aGe aFl aTr aBe aLu aLo vSf vSm vCo vSh xs xl xf), (kX10 aTr aLa aPa aGe gL gR lf rt tgo tca tki tso tbe twe tle tan tco ten), (kX3 gL u0 u1 u2 u3), (kX3 gR v0 v1 v2 v3), (kX4 aLa vLa l4 a4 n4), (kAI vLa cI 24 f4), (kX7 aPa vPa l7 a7 n7), (kAI vPa cI 39 f7), (kX2 aGe vGe l2 a2 n2), (kAI vGe cI 23 f2), (kX1 aFl vFl xn), (kAI vFl cI 32 ff)]) hP hD [0, 1, 2, 3, 11, 4, 5, 6, 7, 8, 10, 9] (by decide +kernel) rfl
        exact W.iret (v := (-2)) hx₀ hb hr (fun t₀ ht hW => ⟨⟨(-2), (k_fn [u0, u1, u2, u3, v0, v1, v2, v3, tgo, tca, tki, tso, tbe, twe, tle, tan, tco, ten], k_fa [], k_fl [], k_fL [], k_fp [lf, rt]), rfl, trivial, by rw [ht]; exact hP9, va_K.moved hW.alike hK, hD9⟩, hS.F ht⟩) hS.2.2 dX11_behind_33
      · refine lv_iload_n hx₀ hb dX11_behind_26 rfl (lv_at hl 3 rfl) ?_
        refine lv_iconst (v := 3) hx₀ hb dX11_behind_27 (by decide +kernel) ?_
        refine lv_icmp_le (tgt := 34) hx₀ hb dX11_behind_28 (by decide) (fun c_6 => ?_) (fun c_6 => ?_)
        · refine lv_aload_n hx₀ hb dX11_behind_34 rfl (lv_at hl 0 rfl) ?_
          refine lv_iload_n hx₀ hb dX11_behind_35 rfl (lv_at hl 1 rfl) ?_
          obtain ⟨hPc, hDc, hFc, hC⟩ := k_cw (wc := [(kX11 hx aLa aPa aGe aFl aTr aBe aLu aLo vSf vSm vCo vSh xs xl xf), (kX10 aTr aLa aPa aGe gL gR lf rt tgo tca tki tso tbe twe tle tan tco ten), (kX3 gL u0 u1 u2 u3), (kX3 gR v0 v1 v2 v3), (kX4 aLa vLa l4 a4 n4), (kAI vLa cI 24 f4), (kX7 aPa vPa l7 a7 n7), (kAI vPa cI 39 f7), (kX2 aGe vGe l2 a2 n2), (kAI vGe cI 23 f2), (kX1 aFl vFl xn), (kAI vFl cI 32 ff)]) hP hD hS hA [0, 1, 2, 3, 11, 4, 5, 6, 7, 8, 10, 9] (by decide +kernel) rfl
          refine va_callv (va_runV (As := [.int f1]) (rest := []) ⟨hx₀, hb, hml, hown, hts⟩ (j_prepare l dC dI cI cJ cQ H.size hx f1 aLa aPa aGe aFl aTr aBe aLu aLo vSf vSm vCo vSh xs xl xf gL gR lf rt tgo tca tki tso tbe twe tle tan tco ten u0 u1 u2 u3 v0 v1 v2 v3 vLa l4 a4 n4 f4 vPa l7 a7 n7 f7 vGe l2 a2 n2 f2 vFl xn ff (hh0) (hh1)) (cwV 1 hts (kGV wd_430 wd_427 wd_428 wd_429 wd_2) rfl rfl rfl (by decide +kernel) ⟨Nat.le_of_ble_eq_true rfl, Nat.le_of_ble_eq_true rfl⟩) (k_preV10 (q0 := 0) hK hPc hDc hN rfl) rfl rfl hl.1 rfl (lv_room (Nat.le_of_ble_eq_true rfl)) dX11_behind_36 ⟨by decide +kernel, by decide +kernel⟩) hS (fun q _ h => hFc q h) hFc (fun u₀ t₀ H1 locs ht hvm hw hB hz1 hk1 hS => ?_)
          obtain ⟨g_8, ga_9, gl_10, gb_11, gp_12⟩ := u₀
          obtain ⟨hP1, hK1, hD1⟩ := hB
          rw [ht] at hP1
          have hJ := k_jn (wr := []) (wt := [(kX11 hx aLa aPa aGe aFl aTr aBe aLu aLo vSf vSm vCo vSh xs xl xf), (kX10 aTr aLa aPa aGe gL gR (gp_12 0) (gp_12 1) (g_8 8) (g_8 9) (g_8 10) (g_8 11) (g_8 12) (g_8 13) (g_8 14) (g_8 15) (g_8 16) (g_8 17)), (kX3 gL (g_8 0) (g_8 1) (g_8 2) (g_8 3)), (kX3 gR (g_8 4) (g_8 5) (g_8 6) (g_8 7)), (kX4 aLa vLa l4 a4 n4), (kAI vLa cI 24 f4), (kX7 aPa vPa l7 a7 n7), (kAI vPa cI 39 f7), (kX2 aGe vGe l2 a2 n2), (kAI vGe cI 23 f2), (kX1 aFl vFl xn), (kAI vFl cI 32 ff)]) hP hD hC [] rfl (by decide +kernel) (by decide +kernel) hk1 hFc hP1 hD1 rfl
          clear hP hD hPc hDc hFc hC hP1 hD1 hK1 hz1 hk1 hvm ht
          obtain ⟨hP, hD⟩ := hJ
          generalize H1 = H at hP hS ⊢
          try dsimp only at hw
          obtain ⟨c_13, c_14, c_15, c_16, c_17, c_18, c_19⟩ := hw
          refine lv_iload_n hx₀ hb dX11_behind_39 rfl (lv_at hl 3 rfl) ?_
          refine lv_iconst (v := 2) hx₀ hb dX11_behind_40 (by decide +kernel) ?_
          refine lv_icmp_ge (tgt := 54) hx₀ hb dX11_behind_41 (by decide) (fun c_20 => ?_) (fun c_20 => ?_)
          · refine lv_aload_n hx₀ hb dX11_behind_54 rfl (lv_at hl 0 rfl) ?_
            refine lv_iload_n hx₀ hb dX11_behind_55 rfl (lv_at hl 1 rfl) ?_
            refine lv_iload_n hx₀ hb dX11_behind_56 rfl (lv_at hl 2 rfl) ?_
            refine lv_iload_n hx₀ hb dX11_behind_57 rfl (lv_at hl 3 rfl) ?_
            obtain ⟨hPc, hDc, hFc, hC⟩ := k_cw (wc := [(kX11 hx aLa aPa aGe aFl aTr aBe aLu aLo vSf vSm vCo vSh xs xl xf), (kX10 aTr aLa aPa aGe gL gR (gp_12 0) (gp_12 1) (g_8 8) (g_8 9) (g_8 10) (g_8 11) (g_8 12) (g_8 13) (g_8 14) (g_8 15) (g_8 16) (g_8 17)), (kX3 gL (g_8 0) (g_8 1) (g_8 2) (g_8 3)), (kX3 gR (g_8 4) (g_8 5) (g_8 6) (g_8 7)), (kX4 aLa vLa l4 a4 n4), (kAI vLa cI 24 f4), (kX7 aPa vPa l7 a7 n7), (kAI vPa cI 39 f7), (kX2 aGe vGe l2 a2 n2), (kAI vGe cI 23 f2), (kX1 aFl vFl xn), (kAI vFl cI 32 ff)]) hP hD hS hA [0, 1, 2, 3, 4, 5, 6, 7, 8, 9, 10, 11] (by decide +kernel) rfl
            refine va_calli (va_runV (As := [.int f1, .int m1, .int w1]) (rest := []) ⟨hx₀, hb, hml, hown, hts⟩ (j_strengthBehind l dC dI cI cJ cQ H.size hx f1 m1 w1 aLa aPa aGe aFl aTr aBe aLu aLo vSf vSm vCo vSh xs xl xf gL gR (gp_12 0) (gp_12 1) (g_8 8) (g_8 9) (g_8 10) (g_8 11) (g_8 12) (g_8 13) (g_8 14) (g_8 15) (g_8 16) (g_8 17) (g_8 0) (g_8 1) (g_8 2) (g_8 3) (g_8 4) (g_8 5) (g_8 6) (g_8 7) vLa l4 a4 n4 f4 vPa l7 a7 n7 f7 vGe l2 a2 n2 f2 vFl xn ff (hh0) (hh1) (lf_j_behind_1 n4 m1 hh0 c_4)) (cwV 3 hts (kGV wd_586 wd_583 wd_584 wd_585 wd_2) rfl rfl rfl (by decide +kernel) ⟨Nat.le_of_ble_eq_true rfl, Nat.le_of_ble_eq_true rfl⟩) (k_preV10 (q0 := 0) hK hPc hDc hN rfl) rfl rfl hl.1 rfl (lv_room (Nat.le_of_ble_eq_true rfl)) dX11_behind_58 ⟨by decide +kernel, by decide +kernel⟩) hS (fun q _ h => hFc q h) hFc (fun r_21 u₀ t₀ H1 locs ht hvm hw hB hz1 hk1 hS => ?_)
            obtain ⟨g_22, ga_23, gl_24, gb_25, gp_26⟩ := u₀
            obtain ⟨hP1, hK1, hD1⟩ := hB
            rw [ht] at hP1
            have hJ := k_jn (wr := []) (wt := [(kX11 hx aLa aPa aGe aFl aTr aBe aLu aLo vSf vSm vCo vSh xs xl xf), (kX10 aTr aLa aPa aGe gL gR (gp_26 0) (gp_26 1) (g_22 8) (g_22 9) (g_22 10) (g_22 11) (g_22 12) (g_22 13) (g_22 14) (g_22 15) (g_22 16) (g_22 17)), (kX3 gL (g_22 0) (g_22 1) (g_22 2) (g_22 3)), (kX3 gR (g_22 4) (g_22 5) (g_22 6) (g_22 7)), (kX4 aLa vLa l4 a4 n4), (kAI vLa cI 24 f4), (kX7 aPa vPa l7 a7 n7), (kAI vPa cI 39 f7), (kX2 aGe vGe l2 a2 n2), (kAI vGe cI 23 f2), (kX1 aFl vFl xn), (kAI vFl cI 32 ff)]) hP hD hC [] rfl (by decide +kernel) (by decide +kernel) hk1 hFc hP1 hD1 rfl
            clear hP hD hPc hDc hFc hC hP1 hD1 hK1 hz1 hk1 hvm ht
            obtain ⟨hP, hD⟩ := hJ
            generalize H1 = H at hP hS ⊢
            try dsimp only at hw
            obtain ⟨hP9, hD9⟩ := k_c2 (wc := [(kX11 hx aLa aPa aGe aFl aTr aBe aLu aLo vSf vSm vCo vSh xs xl xf), (kX10 aTr aLa aPa aGe gL gR (gp_26 0) (gp_26 1) (g_22 8) (g_22 9) (g_22 10) (g_22 11) (g_22 12) (g_22 13) (g_22 14) (g_22 15) (g_22 16) (g_22 17)), (kX3 gL (g_22 0) (g_22 1) (g_22 2) (g_22 3)), (kX3 gR (g_22 4) (g_22 5) (g_22 6) (g_22 7)), (kX4 aLa vLa l4 a4 n4), (kAI vLa cI 24 f4), (kX7 aPa vPa l7 a7 n7), (kAI vPa cI 39 f7), (kX2 aGe vGe l2 a2 n2), (kAI vGe cI 23 f2), (kX1 aFl vFl xn), (kAI vFl cI 32 ff)]) hP hD [0, 1, 2, 3, 4, 5, 6, 7, 8, 9, 10, 11] (by decide +kernel) rfl
            exact W.iret (v := r_21) hx₀ hb hr (fun t₀ ht hW => ⟨⟨r_21, (k_fn [(g_22 0), (g_22 1), (g_22 2), (g_22 3), (g_22 4), (g_22 5), (g_22 6), (g_22 7), (g_22 8), (g_22 9), (g_22 10), (g_22 11), (g_22 12), (g_22 13), (g_22 14), (g_22 15), (g_22 16), (g_22 17)], k_fa [], k_fl [], k_fL [], k_fp [(gp_26 0), (gp_26 1)]), rfl, trivial, by rw [ht]; exact hP9, va_K.moved hW.alike hK, hD9⟩, hS.F ht⟩) hS.2.2 dX11_behind_61
          · refine lv_aload_n hx₀ hb dX11_behind_44 rfl (lv_at hl 0 rfl) ?_
            refine lv_iload_n hx₀ hb dX11_behind_45 rfl (lv_at hl 1 rfl) ?_
            refine lv_iload_n hx₀ hb dX11_behind_46 rfl (lv_at hl 2 rfl) ?_
            refine lv_iload_n hx₀ hb dX11_behind_47 rfl (lv_at hl 3 rfl) ?_
            obtain ⟨hPc, hDc, hFc, hC⟩ := k_cw (wc := [(kX11 hx aLa aPa aGe aFl aTr aBe aLu aLo vSf vSm vCo vSh xs xl xf), (kX10 aTr aLa aPa aGe gL gR (gp_12 0) (gp_12 1) (g_8 8) (g_8 9) (g_8 10) (g_8 11) (g_8 12) (g_8 13) (g_8 14) (g_8 15) (g_8 16) (g_8 17)), (kX4 aLa vLa l4 a4 n4), (kAI vLa cI 24 f4), (kX1 aFl vFl xn), (kAI vFl cI 32 ff)]) hP hD hS hA [0, 1, 4, 5, 10, 11] (by decide +kernel) rfl
            refine va_calli (va_runV (As := [.int f1, .int m1, .int w1]) (rest := []) ⟨hx₀, hb, hml, hown, hts⟩ (j_moodBehind l dC dI cI cJ cQ H.size hx f1 m1 w1 aLa aPa aGe aFl aTr aBe aLu aLo vSf vSm vCo vSh xs xl xf gL gR (gp_12 0) (gp_12 1) (g_8 8) (g_8 9) (g_8 10) (g_8 11) (g_8 12) (g_8 13) (g_8 14) (g_8 15) (g_8 16) (g_8 17) vLa l4 a4 n4 f4 vFl xn ff (hh1) (lf_j_behind_1 n4 m1 hh0 c_4)) (cwV 3 hts (kGV wd_577 wd_574 wd_575 wd_576 wd_2) rfl rfl rfl (by decide +kernel) ⟨Nat.le_of_ble_eq_true rfl, Nat.le_of_ble_eq_true rfl⟩) (k_preV10 (q0 := 0) hK hPc hDc hN rfl) rfl rfl hl.1 rfl (lv_room (Nat.le_of_ble_eq_true rfl)) dX11_behind_48 ⟨by decide +kernel, by decide +kernel⟩) hS (fun q _ h => hFc q h) hFc (fun r_27 u₀ t₀ H1 locs ht hvm hw hB hz1 hk1 hS => ?_)
            obtain ⟨g_28, ga_29, gl_30, gb_31, gp_32⟩ := u₀
            obtain ⟨hP1, hK1, hD1⟩ := hB
            rw [ht] at hP1
            have hJ := k_jn (wr := [(kX3 gL (g_8 0) (g_8 1) (g_8 2) (g_8 3)), (kX3 gR (g_8 4) (g_8 5) (g_8 6) (g_8 7)), (kX7 aPa vPa l7 a7 n7), (kAI vPa cI 39 f7), (kX2 aGe vGe l2 a2 n2), (kAI vGe cI 23 f2)]) (wt := [(kX3 gL (g_8 0) (g_8 1) (g_8 2) (g_8 3)), (kX3 gR (g_8 4) (g_8 5) (g_8 6) (g_8 7)), (kX7 aPa vPa l7 a7 n7), (kAI vPa cI 39 f7), (kX2 aGe vGe l2 a2 n2), (kAI vGe cI 23 f2), (kX11 hx aLa aPa aGe aFl aTr aBe aLu aLo vSf vSm vCo vSh xs xl xf), (kX10 aTr aLa aPa aGe gL gR (gp_12 0) (gp_12 1) (g_8 8) (g_8 9) (g_8 10) (g_8 11) (g_8 12) (g_8 13) (g_8 14) (g_28 0) (g_28 1) (g_28 2)), (kX4 aLa vLa l4 a4 n4), (kAI vLa cI 24 f4), (kX1 aFl vFl xn), (kAI vFl cI 32 ff)]) hP hD hC [2, 3, 6, 7, 8, 9] rfl (by decide +kernel) (by decide +kernel) hk1 hFc hP1 hD1 rfl
            clear hP hD hPc hDc hFc hC hP1 hD1 hK1 hz1 hk1 hvm ht
            obtain ⟨hP, hD⟩ := hJ
            generalize H1 = H at hP hS ⊢
            try dsimp only at hw
            have c_33 := hw
            refine lv_goto (tgt := 61) hx₀ hb dX11_behind_51 (by decide) ?_
            obtain ⟨hP9, hD9⟩ := k_c2 (wc := [(kX11 hx aLa aPa aGe aFl aTr aBe aLu aLo vSf vSm vCo vSh xs xl xf), (kX10 aTr aLa aPa aGe gL gR (gp_12 0) (gp_12 1) (g_8 8) (g_8 9) (g_8 10) (g_8 11) (g_8 12) (g_8 13) (g_8 14) (g_28 0) (g_28 1) (g_28 2)), (kX3 gL (g_8 0) (g_8 1) (g_8 2) (g_8 3)), (kX3 gR (g_8 4) (g_8 5) (g_8 6) (g_8 7)), (kX4 aLa vLa l4 a4 n4), (kAI vLa cI 24 f4), (kX7 aPa vPa l7 a7 n7), (kAI vPa cI 39 f7), (kX2 aGe vGe l2 a2 n2), (kAI vGe cI 23 f2), (kX1 aFl vFl xn), (kAI vFl cI 32 ff)]) hP hD [6, 7, 0, 1, 8, 9, 2, 3, 4, 5, 10, 11] (by decide +kernel) rfl
            exact W.iret (v := r_27) hx₀ hb hr (fun t₀ ht hW => ⟨⟨r_27, (k_fn [(g_8 0), (g_8 1), (g_8 2), (g_8 3), (g_8 4), (g_8 5), (g_8 6), (g_8 7), (g_8 8), (g_8 9), (g_8 10), (g_8 11), (g_8 12), (g_8 13), (g_8 14), (g_28 0), (g_28 1), (g_28 2)], k_fa [], k_fl [], k_fL [], k_fp [(gp_12 0), (gp_12 1)]), rfl, trivial, by rw [ht]; exact hP9, va_K.moved hW.alike hK, hD9⟩, hS.F ht⟩) hS.2.2 dX11_behind_61
        · refine lv_bipush (v := (-2)) hx₀ hb dX11_behind_31 (by decide +kernel) ?_
          obtain ⟨hP9, hD9⟩ := k_c2 (wc := [(kX11 hx aLa aPa aGe aFl aTr aBe aLu aLo vSf vSm vCo vSh xs xl xf), (kX10 aTr aLa aPa aGe gL gR lf rt tgo tca tki tso tbe twe tle tan tco ten), (kX3 gL u0 u1 u2 u3), (kX3 gR v0 v1 v2 v3), (kX4 aLa vLa l4 a4 n4), (kAI vLa cI 24 f4), (kX7 aPa vPa l7 a7 n7), (kAI vPa cI 39 f7), (kX2 aGe vGe l2 a2 n2), (kAI vGe cI 23 f2), (kX1 aFl vFl xn), (kAI vFl cI 32 ff)]) hP hD [0, 1, 2, 3, 11, 4, 5, 6, 7, 8, 10, 9] (by decide +kernel) rfl
          exact W.iret (v := (-2)) hx₀ hb hr (fun t₀ ht hW => ⟨⟨(-2), (k_fn [u0, u1, u2, u3, v0, v1, v2, v3, tgo, tca, tki, tso, tbe, twe, tle, tan, tco, ten], k_fa [], k_fl [], k_fL [], k_fp [lf, rt]), rfl, trivial, by rw [ht]; exact hP9, va_K.moved hW.alike hK, hD9⟩, hS.F ht⟩) hS.2.2 dX11_behind_33
    rw [if_neg c_4] at hw
    refine k_topi (v := 0) hw ?_
    refine lv_if_eq (tgt := 31) hx₀ hb dX11_behind_19 (by decide) (fun _ => ?_) (fun c9 => absurd (by decide +kernel) c9)
    refine lv_bipush (v := (-2)) hx₀ hb dX11_behind_31 (by decide +kernel) ?_
    obtain ⟨hP9, hD9⟩ := k_c2 (wc := [(kX11 hx aLa aPa aGe aFl aTr aBe aLu aLo vSf vSm vCo vSh xs xl xf), (kX10 aTr aLa aPa aGe gL gR lf rt tgo tca tki tso tbe twe tle tan tco ten), (kX3 gL u0 u1 u2 u3), (kX3 gR v0 v1 v2 v3), (kX4 aLa vLa l4 a4 n4), (kAI vLa cI 24 f4), (kX7 aPa vPa l7 a7 n7), (kAI vPa cI 39 f7), (kX2 aGe vGe l2 a2 n2), (kAI vGe cI 23 f2), (kX1 aFl vFl xn), (kAI vFl cI 32 ff)]) hP hD [0, 1, 2, 3, 11, 4, 5, 6, 7, 8, 10, 9] (by decide +kernel) rfl
    exact W.iret (v := (-2)) hx₀ hb hr (fun t₀ ht hW => ⟨⟨(-2), (k_fn [u0, u1, u2, u3, v0, v1, v2, v3, tgo, tca, tki, tso, tbe, twe, tle, tan, tco, ten], k_fa [], k_fl [], k_fL [], k_fp [lf, rt]), rfl, trivial, by rw [ht]; exact hP9, va_K.moved hW.alike hK, hD9⟩, hS.F ht⟩) hS.2.2 dX11_behind_33
  rw [if_neg c_2] at hw
  refine k_topi (v := 0) hw ?_
  refine lv_if_eq (tgt := 31) hx₀ hb dX11_behind_8 (by decide) (fun _ => ?_) (fun c9 => absurd (by decide +kernel) c9)
  refine lv_bipush (v := (-2)) hx₀ hb dX11_behind_31 (by decide +kernel) ?_
  obtain ⟨hP9, hD9⟩ := k_c2 (wc := [(kX11 hx aLa aPa aGe aFl aTr aBe aLu aLo vSf vSm vCo vSh xs xl xf), (kX10 aTr aLa aPa aGe gL gR lf rt tgo tca tki tso tbe twe tle tan tco ten), (kX3 gL u0 u1 u2 u3), (kX3 gR v0 v1 v2 v3), (kX4 aLa vLa l4 a4 n4), (kAI vLa cI 24 f4), (kX7 aPa vPa l7 a7 n7), (kAI vPa cI 39 f7), (kX2 aGe vGe l2 a2 n2), (kAI vGe cI 23 f2), (kX1 aFl vFl xn), (kAI vFl cI 32 ff)]) hP hD [0, 1, 2, 3, 4, 5, 6, 7, 8, 9, 11, 10] (by decide +kernel) rfl
  exact W.iret (v := (-2)) hx₀ hb hr (fun t₀ ht hW => ⟨⟨(-2), (k_fn [u0, u1, u2, u3, v0, v1, v2, v3, tgo, tca, tki, tso, tbe, twe, tle, tan, tco, ten], k_fa [], k_fl [], k_fL [], k_fp [lf, rt]), rfl, trivial, by rw [ht]; exact hP9, va_K.moved hW.alike hK, hD9⟩, hS.F ht⟩) hS.2.2 dX11_behind_33
theorem lf_j_farthest_1 (a0 : Int32) (a1 : Int32) (a2 : Nat) (h0 : 0 ≤ a0 ∧ a0 ≤ 8) (h1 : 0 ≤ a1) (h2 : (a0.toInt - a1.toInt).toNat = a2) (h3 : ¬ a0 ≤ a1) : 0 ≤ (a1 + 1) := by
  first | (first | omega | (have hr0 := Int32.toInt_lt a0; have hs0 := Int32.le_toInt a0; have hr1 := Int32.toInt_lt a1; have hs1 := Int32.le_toInt a1; simp only [Int64.toInt_add, Int64.toInt_sub, Int32.toInt_add, Int32.toInt_sub, Int32.toInt_mul, Int64.le_iff_toInt_le, Int64.lt_iff_toInt_lt, Int32.le_iff_toInt_le, Int32.lt_iff_toInt_lt, ← Int32.toInt_inj, ← Int64.toInt_inj, Int32.toInt_toInt64, kc_0, kc_1, kc_8, true_and, and_true, not_true_eq_false, not_false_eq_true] at * <;> ((first | omega | ((try simp (disch := omega) only [k_bm64] at *); (try simp (disch := omega) only [k_bm] at *); (try simp (disch := omega) only [k_bm] at *); omega) | (simp only [Int.bmod] at *; omega))))) | with_reducible assumption | rfl
theorem lf_j_farthest_2 (a0 : Int32) (a1 : Int32) (a2 : Nat) (h0 : 0 ≤ a0 ∧ a0 ≤ 8) (h1 : 0 ≤ a1) (h2 : (a0.toInt - a1.toInt).toNat = a2) (h3 : ¬ a0 ≤ a1) : (a0.toInt - (a1 + 1).toInt).toNat < a2 := by
  first | (first | omega | (have hr0 := Int32.toInt_lt a0; have hs0 := Int32.le_toInt a0; have hr1 := Int32.toInt_lt a1; have hs1 := Int32.le_toInt a1; simp only [Int64.toInt_add, Int64.toInt_sub, Int32.toInt_add, Int32.toInt_sub, Int32.toInt_mul, Int64.le_iff_toInt_le, Int64.lt_iff_toInt_lt, Int32.le_iff_toInt_le, Int32.lt_iff_toInt_lt, ← Int32.toInt_inj, ← Int64.toInt_inj, Int32.toInt_toInt64, kc_0, kc_1, kc_8, true_and, and_true, not_true_eq_false, not_false_eq_true] at * <;> ((first | omega | ((try simp (disch := omega) only [k_bm64] at *); (try simp (disch := omega) only [k_bm] at *); (try simp (disch := omega) only [k_bm] at *); omega) | (simp only [Int.bmod] at *; omega))))) | with_reducible assumption | rfl
set_option maxHeartbeats 4000000 in
set_option maxRecDepth 100000 in
theorem j_farthest (l : Launch) (dC : Nat → ClassId) (dI : Nat → Nat → Nat) (cI cJ cQ : ClassId) (sz : Nat) (hx : Nat) (aLa : Nat) (aPa : Nat) (aGe : Nat) (aFl : Nat) (aTr : Nat) (aBe : Nat) (aLu : Nat) (aLo : Nat) (vSf : Nat) (vSm : Nat) (vCo : Nat) (vSh : Nat) (xs : Int32) (xl : Int32) (xf : Int32) (gL : Nat) (gR : Nat) (lf : Nat) (rt : Nat) (tgo : Int32) (tca : Int32) (tki : Int32) (tso : Int32) (tbe : Int32) (twe : Int32) (tle : Int32) (tan : Int32) (tco : Int32) (ten : Int32) (u0 : Int32) (u1 : Int32) (u2 : Int32) (u3 : Int32) (v0 : Int32) (v1 : Int32) (v2 : Int32) (v3 : Int32) (vLa : Nat) (l4 : Int32) (a4 : Int32) (n4 : Int32) (f4 : Nat → Int32) (vPa : Nat) (l7 : Int32) (a7 : Int32) (n7 : Int32) (f7 : Nat → Int32) (vGe : Nat) (l2 : Int32) (a2 : Int32) (n2 : Int32) (f2 : Nat → Int32) (vFl : Nat) (xn : Int32) (ff : Nat → Int32) (hh0 : 0 ≤ n4 ∧ n4 ≤ 24) (hh1 : 0 ≤ xn ∧ xn ≤ 8) : Met l yX11_farthest (kW yX11_farthest cX11_farthest 6 (some .int)) { frames := 4, cells := 0, slots := 0, locals := 90 } (kPre dC dI cI cJ cQ sz [.ref hx] [(kX11 hx aLa aPa aGe aFl aTr aBe aLu aLo vSf vSm vCo vSh xs xl xf), (kX10 aTr aLa aPa aGe gL gR lf rt tgo tca tki tso tbe twe tle tan tco ten), (kX3 gL u0 u1 u2 u3), (kX3 gR v0 v1 v2 v3), (kX4 aLa vLa l4 a4 n4), (kAI vLa cI 24 f4), (kX7 aPa vPa l7 a7 n7), (kAI vPa cI 39 f7), (kX2 aGe vGe l2 a2 n2), (kAI vGe cI 23 f2), (kX1 aFl vFl xn), (kAI vFl cI 32 ff)]) (va_Qi (fun (r : Int32) (u : kS) => True) (fun (u : kS) t₀ => kB dC dI cI cJ cQ (va_A [(kX11 hx aLa aPa aGe aFl aTr aBe aLu aLo vSf vSm vCo vSh xs xl xf), (kX10 aTr aLa aPa aGe gL gR lf rt tgo tca tki tso tbe twe tle tan tco ten), (kX3 gL u0 u1 u2 u3), (kX3 gR v0 v1 v2 v3), (kX4 aLa vLa l4 a4 n4), (kAI vLa cI 24 f4), (kX7 aPa vPa l7 a7 n7), (kAI vPa cI 39 f7), (kX2 aGe vGe l2 a2 n2), (kAI vGe cI 23 f2), (kX1 aFl vFl xn), (kAI vFl cI 32 ff)] sz) [(kX11 hx aLa aPa aGe aFl aTr aBe aLu aLo vSf vSm vCo vSh xs xl xf), (kX10 aTr aLa aPa aGe gL gR (u.2.2.2.2 0) (u.2.2.2.2 1) (u.1 8) (u.1 9) (u.1 10) (u.1 11) (u.1 12) (u.1 13) (u.1 14) (u.1 15) (u.1 16) (u.1 17)), (kX3 gL (u.1 0) (u.1 1) (u.1 2) (u.1 3)), (kX3 gR (u.1 4) (u.1 5) (u.1 6) (u.1 7)), (kX4 aLa vLa l4 a4 n4), (kAI vLa cI 24 f4), (kX7 aPa vPa l7 a7 n7), (kAI vPa cI 39 f7), (kX2 aGe vGe l2 a2 n2), (kAI vGe cI 23 f2), (kX1 aFl vFl xn), (kAI vFl cI 32 ff)] t₀) (va_A [(kX11 hx aLa aPa aGe aFl aTr aBe aLu aLo vSf vSm vCo vSh xs xl xf), (kX10 aTr aLa aPa aGe gL gR lf rt tgo tca tki tso tbe twe tle tan tco ten), (kX3 gL u0 u1 u2 u3), (kX3 gR v0 v1 v2 v3), (kX4 aLa vLa l4 a4 n4), (kAI vLa cI 24 f4), (kX7 aPa vPa l7 a7 n7), (kAI vPa cI 39 f7), (kX2 aGe vGe l2 a2 n2), (kAI vGe cI 23 f2), (kX1 aFl vFl xn), (kAI vFl cI 32 ff)] sz)) 0 0 (va_A [(kX11 hx aLa aPa aGe aFl aTr aBe aLu aLo vSf vSm vCo vSh xs xl xf), (kX10 aTr aLa aPa aGe gL gR lf rt tgo tca tki tso tbe twe tle tan tco ten), (kX3 gL u0 u1 u2 u3), (kX3 gR v0 v1 v2 v3), (kX4 aLa vLa l4 a4 n4), (kAI vLa cI 24 f4), (kX7 aPa vPa l7 a7 n7), (kAI vPa cI 39 f7), (kX2 aGe vGe l2 a2 n2), (kAI vGe cI 23 f2), (kX1 aFl vFl xn), (kAI vFl cI 32 ff)] sz) := by
  refine Met.ofW (cc := cX11_farthest) (maxL := 6) (ret := (some .int)) (by decide) rfl ?_
  intro p₀ e₀ s₀ m₀ args below meth c₀ s₁ B hml hv₀
  obtain ⟨rfl, hsz, hP, hK, hD0, hN⟩ := hv₀
  have hx₀ := B.exec
  have hb := B.bytes
  have hr := B.returns
  have hts := atoms_spec (ws := (kW yX11_farthest cX11_farthest 6 (some .int))) B.pre
  have hts := fun w h => hts w (List.mem_cons_of_mem _ h)
  have hown : s₀.vm.findClass RX11 = some m₀.cls := findClass_of_methodNamed B.named
  have hlocks := B.notSynchronized
  subst hsz
  have hD := hD0.self (sz := s₀.heap.size)
  generalize hAe : va_A [(kX11 hx aLa aPa aGe aFl aTr aBe aLu aLo vSf vSm vCo vSh xs xl xf), (kX10 aTr aLa aPa aGe gL gR lf rt tgo tca tki tso tbe twe tle tan tco ten), (kX3 gL u0 u1 u2 u3), (kX3 gR v0 v1 v2 v3), (kX4 aLa vLa l4 a4 n4), (kAI vLa cI 24 f4), (kX7 aPa vPa l7 a7 n7), (kAI vPa cI 39 f7), (kX2 aGe vGe l2 a2 n2), (kAI vGe cI 23 f2), (kX1 aFl vFl xn), (kAI vFl cI 32 ff)] s₀.heap.size = A at hD ⊢
  have hA : ∀ q : Nat, s₀.heap.size ≤ q → A q := fun q h => by rw [← hAe]; exact Or.inr h
  have hS : va_S A s₀.heap s₀.heap [] := va_S.rf
  have hP : va_P (dC, dI) vwCl [(kX11 hx aLa aPa aGe aFl aTr aBe aLu aLo vSf vSm vCo vSh xs xl xf), (kX10 aTr aLa aPa aGe gL gR lf rt tgo tca tki tso tbe twe tle tan tco ten), (kX3 gL u0 u1 u2 u3), (kX3 gR v0 v1 v2 v3), (kX4 aLa vLa l4 a4 n4), (kAI vLa cI 24 f4), (kX7 aPa vPa l7 a7 n7), (kAI vPa cI 39 f7), (kX2 aGe vGe l2 a2 n2), (kAI vGe cI 23 f2), (kX1 aFl vFl xn), (kAI vFl cI 32 ff)] s₀.heap := hP
  have hl := lv_entry ([.ref hx]) (n := 6) (Nat.le_of_ble_eq_true rfl)
  rw [lg_entry_eq]
  generalize (lg_sl ([.ref hx]) ++ List.replicate (6 - (lg_sl ([.ref hx])).length) Slot.unset).toArray = ls at hl ⊢
  have hl : lv_has ls 6 [(0, .ref hx)] := hl
  obtain ⟨H, hH⟩ : ∃ z : Heap, z = s₀.heap := ⟨_, rfl⟩
  rw [← hH] at hP
  have hS : va_S A s₀.heap H [] := by rw [hH]; exact hS
  refine k_heap hH ?_
  have hD : va_D A [(kX11 hx aLa aPa aGe aFl aTr aBe aLu aLo vSf vSm vCo vSh xs xl xf), (kX10 aTr aLa aPa aGe gL gR lf rt tgo tca tki tso tbe twe tle tan tco ten), (kX3 gL u0 u1 u2 u3), (kX3 gR v0 v1 v2 v3), (kX4 aLa vLa l4 a4 n4), (kAI vLa cI 24 f4), (kX7 aPa vPa l7 a7 n7), (kAI vPa cI 39 f7), (kX2 aGe vGe l2 a2 n2), (kAI vGe cI 23 f2), (kX1 aFl vFl xn), (kAI vFl cI 32 ff)] := hD
  obtain ⟨locs, hlo⟩ : ∃ z : List Loc, z = [] := ⟨_, rfl⟩
  rw [← hlo] at hS ⊢
  clear hlo hH hAe hD0
  refine lv_iconst (v := (-1)) hx₀ hb dX11_farthest_0 (by decide +kernel) ?_
  refine lv_istore_n (lv' := [(1, .int (-1)), (0, .ref hx)]) hx₀ hb dX11_farthest_1 rfl hl (by decide) rfl (fun ls hl => ?_)
  refine lv_iconst (v := (-1)) hx₀ hb dX11_farthest_2 (by decide +kernel) ?_
  refine lv_istore_n (lv' := [(2, .int (-1)), (1, .int (-1)), (0, .ref hx)]) hx₀ hb dX11_farthest_3 rfl hl (by decide) rfl (fun ls hl => ?_)
  refine lv_iconst (v := 0) hx₀ hb dX11_farthest_4 (by decide +kernel) ?_
  refine lv_istore_n (lv' := [(3, .int 0), (2, .int (-1)), (1, .int (-1)), (0, .ref hx)]) hx₀ hb dX11_farthest_5 rfl hl (by decide) rfl (fun ls hl => ?_)
  refine (?keyz1 : ∀ (jz1 : Nat) (faz1 : Int32) (moz1 : Int32) (fz1 : Int32) (ygoez1 : Int32) (ycarz1 : Int32) (ykinz1 : Int32) (ysorz1 : Int32) (ybeaz1 : Int32) (yweiz1 : Int32) (yleaz1 : Int32) (yangz1 : Int32) (ycolz1 : Int32) (yendz1 : Int32) (pz1 : Nat) (qz1 : Nat) (w0z1 : Int32) (w1z1 : Int32) (w2z1 : Int32) (w3z1 : Int32) (z0z1 : Int32) (z1z1 : Int32) (z2z1 : Int32) (z3z1 : Int32) (H : Heap) (locs : List Loc) (ls : Array Slot), (0 ≤ fz1) → ((xn.toInt - fz1.toInt).toNat = jz1) → va_P (dC, dI) vwCl [(kX11 hx aLa aPa aGe aFl aTr aBe aLu aLo vSf vSm vCo vSh xs xl xf), (kX10 aTr aLa aPa aGe gL gR pz1 qz1 ygoez1 ycarz1 ykinz1 ysorz1 ybeaz1 yweiz1 yleaz1 yangz1 ycolz1 yendz1), (kX3 gL w0z1 w1z1 w2z1 w3z1), (kX3 gR z0z1 z1z1 z2z1 z3z1), (kX4 aLa vLa l4 a4 n4), (kAI vLa cI 24 f4), (kX7 aPa vPa l7 a7 n7), (kAI vPa cI 39 f7), (kX2 aGe vGe l2 a2 n2), (kAI vGe cI 23 f2), (kX1 aFl vFl xn), (kAI vFl cI 32 ff)] H → va_D A [(kX11 hx aLa aPa aGe aFl aTr aBe aLu aLo vSf vSm vCo vSh xs xl xf), (kX10 aTr aLa aPa aGe gL gR pz1 qz1 ygoez1 ycarz1 ykinz1 ysorz1 ybeaz1 yweiz1 yleaz1 yangz1 ycolz1 yendz1), (kX3 gL w0z1 w1z1 w2z1 w3z1), (kX3 gR z0z1 z1z1 z2z1 z3z1), (kX4 aLa vLa l4 a4 n4), (kAI vLa cI 24 f4), (kX7 aPa vPa l7 a7 n7), (kAI vPa cI 39 f7), (kX2 aGe vGe l2 a2 n2), (kAI vGe cI 23 f2), (kX1 aFl vFl xn), (kAI vFl cI 32 ff)] → va_S A s₀.heap H locs → lv_has ls 6 [(3, .int fz1), (2, .int moz1), (1, .int faz1), (0, .ref hx)] → W p₀ l e₀ _ s₀ m₀ _ below meth c₀ H locs _ _ _ (F0 m₀ 6 ls [])) _ (-1 : Int32) (-1 : Int32) (0 : Int32) tgo tca tki tso tbe twe tle tan tco ten lf rt u0 u1 u2 u3 v0 v1 v2 v3 H locs ls (show 0 ≤ (0 : Int32) from (by decide)) rfl hP hD hS hl
  clear hP hD hS hl
  intro jz1
  induction jz1 using Nat.strongRecOn with
  | ind jz1 ihz1 =>
    intro faz1 moz1 fz1 ygoez1 ycarz1 ykinz1 ysorz1 ybeaz1 yweiz1 yleaz1 yangz1 ycolz1 yendz1 pz1 qz1 w0z1 w1z1 w2z1 w3z1 z0z1 z1z1 z2z1 z3z1 H locs ls hiz1_0 hjz1 hP hD hS hl
    refine lv_iload_n hx₀ hb dX11_farthest_6 rfl (lv_at hl 0 rfl) ?_
    refine lv_aload_n hx₀ hb dX11_farthest_7 rfl (lv_at hl 3 rfl) ?_
    refine va_get (D := (dC, dI)) (ci := 10) (v := .ref aFl) (C := RX11) (T := TX11) (N := 15) hx₀ hb hts inlX11 hown hK hP 0 rfl rfl 3 (by decide) (hts (.fieldLink RX11 33 "BittenStick" "flights" "LBittenStick$Flights;") wd_27) (fun _ h9 => h9) rfl dX11_farthest_8 ?_
    refine va_get (D := (dC, dI)) (ci := 1) (v := .int xn) (C := RX1) (T := TX1) (N := 2) hx₀ hb hts inlX1 hown hK hP 10 rfl rfl 1 (by decide) (hts (.fieldLink RX11 128 "BittenStick$Flights" "number" "I") wd_369) (fun _ h9 => h9) rfl dX11_farthest_11 ?_
    refine lv_icmp_ge (tgt := 78) hx₀ hb dX11_farthest_14 (by decide) (fun c_2 => ?_) (fun c_2 => ?_)
    · refine lv_iload_n hx₀ hb dX11_farthest_78 rfl (lv_at hl 2 rfl) ?_
      obtain ⟨hP9, hD9⟩ := k_c2 (wc := [(kX11 hx aLa aPa aGe aFl aTr aBe aLu aLo vSf vSm vCo vSh xs xl xf), (kX10 aTr aLa aPa aGe gL gR pz1 qz1 ygoez1 ycarz1 ykinz1 ysorz1 ybeaz1 yweiz1 yleaz1 yangz1 ycolz1 yendz1), (kX3 gL w0z1 w1z1 w2z1 w3z1), (kX3 gR z0z1 z1z1 z2z1 z3z1), (kX4 aLa vLa l4 a4 n4), (kAI vLa cI 24 f4), (kX7 aPa vPa l7 a7 n7), (kAI vPa cI 39 f7), (kX2 aGe vGe l2 a2 n2), (kAI vGe cI 23 f2), (kX1 aFl vFl xn), (kAI vFl cI 32 ff)]) hP hD [0, 1, 2, 3, 4, 5, 6, 7, 8, 9, 10, 11] (by decide +kernel) rfl
      exact W.iret (v := faz1) hx₀ hb hr (fun t₀ ht hW => ⟨⟨faz1, (k_fn [w0z1, w1z1, w2z1, w3z1, z0z1, z1z1, z2z1, z3z1, ygoez1, ycarz1, ykinz1, ysorz1, ybeaz1, yweiz1, yleaz1, yangz1, ycolz1, yendz1], k_fa [], k_fl [], k_fL [], k_fp [pz1, qz1]), rfl, trivial, by rw [ht]; exact hP9, va_K.moved hW.alike hK, hD9⟩, hS.F ht⟩) hS.2.2 dX11_farthest_79
    · refine lv_aload_n hx₀ hb dX11_farthest_17 rfl (lv_at hl 3 rfl) ?_
      refine lv_iload_n hx₀ hb dX11_farthest_18 rfl (lv_at hl 0 rfl) ?_
      obtain ⟨hPc, hDc, hFc, hC⟩ := k_cw (wc := [(kX11 hx aLa aPa aGe aFl aTr aBe aLu aLo vSf vSm vCo vSh xs xl xf), (kX10 aTr aLa aPa aGe gL gR pz1 qz1 ygoez1 ycarz1 ykinz1 ysorz1 ybeaz1 yweiz1 yleaz1 yangz1 ycolz1 yendz1), (kX3 gL w0z1 w1z1 w2z1 w3z1), (kX3 gR z0z1 z1z1 z2z1 z3z1), (kX4 aLa vLa l4 a4 n4), (kAI vLa cI 24 f4), (kX7 aPa vPa l7 a7 n7), (kAI vPa cI 39 f7), (kX2 aGe vGe l2 a2 n2), (kAI vGe cI 23 f2), (kX1 aFl vFl xn), (kAI vFl cI 32 ff)]) hP hD hS hA [0, 1, 2, 3, 4, 5, 6, 7, 8, 9, 10, 11] (by decide +kernel) rfl
      refine va_callv (va_runV (As := [.int fz1]) (rest := []) ⟨hx₀, hb, hml, hown, hts⟩ (j_prepare l dC dI cI cJ cQ H.size hx fz1 aLa aPa aGe aFl aTr aBe aLu aLo vSf vSm vCo vSh xs xl xf gL gR pz1 qz1 ygoez1 ycarz1 ykinz1 ysorz1 ybeaz1 yweiz1 yleaz1 yangz1 ycolz1 yendz1 w0z1 w1z1 w2z1 w3z1 z0z1 z1z1 z2z1 z3z1 vLa l4 a4 n4 f4 vPa l7 a7 n7 f7 vGe l2 a2 n2 f2 vFl xn ff (hh0) (hh1)) (cwV 1 hts (kGV wd_430 wd_427 wd_428 wd_429 wd_2) rfl rfl rfl (by decide +kernel) ⟨Nat.le_of_ble_eq_true rfl, Nat.le_of_ble_eq_true rfl⟩) (k_preV10 (q0 := 0) hK hPc hDc hN rfl) rfl rfl hl.1 rfl (lv_room (Nat.le_of_ble_eq_true rfl)) dX11_farthest_19 ⟨by decide +kernel, by decide +kernel⟩) hS (fun q _ h => hFc q h) hFc (fun u₀ t₀ H1 locs ht hvm hw hB hz1 hk1 hS => ?_)
      obtain ⟨g_4, ga_5, gl_6, gb_7, gp_8⟩ := u₀
      obtain ⟨hP1, hK1, hD1⟩ := hB
      rw [ht] at hP1
      have hJ := k_jn (wr := []) (wt := [(kX11 hx aLa aPa aGe aFl aTr aBe aLu aLo vSf vSm vCo vSh xs xl xf), (kX10 aTr aLa aPa aGe gL gR (gp_8 0) (gp_8 1) (g_4 8) (g_4 9) (g_4 10) (g_4 11) (g_4 12) (g_4 13) (g_4 14) (g_4 15) (g_4 16) (g_4 17)), (kX3 gL (g_4 0) (g_4 1) (g_4 2) (g_4 3)), (kX3 gR (g_4 4) (g_4 5) (g_4 6) (g_4 7)), (kX4 aLa vLa l4 a4 n4), (kAI vLa cI 24 f4), (kX7 aPa vPa l7 a7 n7), (kAI vPa cI 39 f7), (kX2 aGe vGe l2 a2 n2), (kAI vGe cI 23 f2), (kX1 aFl vFl xn), (kAI vFl cI 32 ff)]) hP hD hC [] rfl (by decide +kernel) (by decide +kernel) hk1 hFc hP1 hD1 rfl
      clear hP hD hPc hDc hFc hC hP1 hD1 hK1 hz1 hk1 hvm ht
      obtain ⟨hP, hD⟩ := hJ
      generalize H1 = H at hP hS ⊢
      try dsimp only at hw
      obtain ⟨c_9, c_10, c_11, c_12, c_13, c_14, c_15⟩ := hw
      refine lv_aload_n hx₀ hb dX11_farthest_22 rfl (lv_at hl 3 rfl) ?_
      refine va_get (D := (dC, dI)) (ci := 10) (v := .ref aTr) (C := RX11) (T := TX11) (N := 15) hx₀ hb hts inlX11 hown hK hP 0 rfl rfl 4 (by decide) (hts (.fieldLink RX11 42 "BittenStick" "trip" "LBittenStick$Trip;") wd_31) (fun _ h9 => h9) rfl dX11_farthest_23 ?_
      refine lv_aload_n hx₀ hb dX11_farthest_26 rfl (lv_at hl 3 rfl) ?_
      refine va_get (D := (dC, dI)) (ci := 10) (v := .ref aFl) (C := RX11) (T := TX11) (N := 15) hx₀ hb hts inlX11 hown hK hP 0 rfl rfl 3 (by decide) (hts (.fieldLink RX11 33 "BittenStick" "flights" "LBittenStick$Flights;") wd_27) (fun _ h9 => h9) rfl dX11_farthest_27 ?_
      refine lv_iload_n hx₀ hb dX11_farthest_30 rfl (lv_at hl 0 rfl) ?_
      obtain ⟨hPc, hDc, hFc, hC⟩ := k_cw (wc := [(kX1 aFl vFl xn), (kAI vFl cI 32 ff)]) hP hD hS hA [10, 11] (by decide +kernel) rfl
      refine va_calli (va_runV (As := [.int fz1]) (rest := [.ref aTr]) ⟨hx₀, hb, hml, hown, hts⟩ (j_heightOf l dC dI cI cJ cQ H.size aFl fz1 vFl xn ff (hh1)) (cwV 1 hts (kGV wd_491 wd_488 wd_489 wd_490 wd_26) rfl rfl rfl (by decide +kernel) ⟨Nat.le_of_ble_eq_true rfl, Nat.le_of_ble_eq_true rfl⟩) (k_preV1 (q0 := 0) hK hPc hDc hN rfl) rfl rfl hl.1 rfl (lv_room (Nat.le_of_ble_eq_true rfl)) dX11_farthest_31 ⟨by decide +kernel, by decide +kernel⟩) hS (fun q _ h => hFc q h) hFc (fun r_16 u₀ t₀ H1 locs ht hvm hw hB hz1 hk1 hS => ?_)
      obtain ⟨hP1, hK1, hD1⟩ := hB
      rw [ht] at hP1
      have hJ := k_jn (wr := [(kX11 hx aLa aPa aGe aFl aTr aBe aLu aLo vSf vSm vCo vSh xs xl xf), (kX10 aTr aLa aPa aGe gL gR (gp_8 0) (gp_8 1) (g_4 8) (g_4 9) (g_4 10) (g_4 11) (g_4 12) (g_4 13) (g_4 14) (g_4 15) (g_4 16) (g_4 17)), (kX3 gL (g_4 0) (g_4 1) (g_4 2) (g_4 3)), (kX3 gR (g_4 4) (g_4 5) (g_4 6) (g_4 7)), (kX4 aLa vLa l4 a4 n4), (kAI vLa cI 24 f4), (kX7 aPa vPa l7 a7 n7), (kAI vPa cI 39 f7), (kX2 aGe vGe l2 a2 n2), (kAI vGe cI 23 f2)]) (wt := [(kX11 hx aLa aPa aGe aFl aTr aBe aLu aLo vSf vSm vCo vSh xs xl xf), (kX10 aTr aLa aPa aGe gL gR (gp_8 0) (gp_8 1) (g_4 8) (g_4 9) (g_4 10) (g_4 11) (g_4 12) (g_4 13) (g_4 14) (g_4 15) (g_4 16) (g_4 17)), (kX3 gL (g_4 0) (g_4 1) (g_4 2) (g_4 3)), (kX3 gR (g_4 4) (g_4 5) (g_4 6) (g_4 7)), (kX4 aLa vLa l4 a4 n4), (kAI vLa cI 24 f4), (kX7 aPa vPa l7 a7 n7), (kAI vPa cI 39 f7), (kX2 aGe vGe l2 a2 n2), (kAI vGe cI 23 f2), (kX1 aFl vFl xn), (kAI vFl cI 32 ff)]) hP hD hC [0, 1, 2, 3, 4, 5, 6, 7, 8, 9] rfl (by decide +kernel) (by decide +kernel) hk1 hFc hP1 hD1 rfl
      clear hP hD hPc hDc hFc hC hP1 hD1 hK1 hz1 hk1 hvm ht
      obtain ⟨hP, hD⟩ := hJ
      generalize H1 = H at hP hS ⊢
      try dsimp only at hw
      refine k_topi (v := kIt xn ff fz1 3) hw ?_
      obtain ⟨hPc, hDc, hFc, hC⟩ := k_cw (wc := [(kX10 aTr aLa aPa aGe gL gR (gp_8 0) (gp_8 1) (g_4 8) (g_4 9) (g_4 10) (g_4 11) (g_4 12) (g_4 13) (g_4 14) (g_4 15) (g_4 16) (g_4 17)), (kX4 aLa vLa l4 a4 n4), (kAI vLa cI 24 f4)]) hP hD hS hA [1, 4, 5] (by decide +kernel) rfl
      refine va_calli (va_runV (As := [.int (kIt xn ff fz1 3)]) (rest := []) ⟨hx₀, hb, hml, hown, hts⟩ (j_comesTo l dC dI cI cJ cQ H.size aTr (kIt xn ff fz1 3) aLa aPa aGe gL gR (gp_8 0) (gp_8 1) (g_4 8) (g_4 9) (g_4 10) (g_4 11) (g_4 12) (g_4 13) (g_4 14) (g_4 15) (g_4 16) (g_4 17) vLa l4 a4 n4 f4 (hh0)) (cwV 1 hts (kGV wd_495 wd_492 wd_493 wd_494 wd_30) rfl rfl rfl (by decide +kernel) ⟨Nat.le_of_ble_eq_true rfl, Nat.le_of_ble_eq_true rfl⟩) (k_preV9 (q0 := 0) hK hPc hDc hN rfl) rfl rfl hl.1 rfl (lv_room (Nat.le_of_ble_eq_true rfl)) dX11_farthest_34 ⟨by decide +kernel, by decide +kernel⟩) hS (fun q _ h => hFc q h) hFc (fun r_17 u₀ t₀ H1 locs ht hvm hw hB hz1 hk1 hS => ?_)
      obtain ⟨g_18, ga_19, gl_20, gb_21, gp_22⟩ := u₀
      obtain ⟨hP1, hK1, hD1⟩ := hB
      rw [ht] at hP1
      have hJ := k_jn (wr := [(kX11 hx aLa aPa aGe aFl aTr aBe aLu aLo vSf vSm vCo vSh xs xl xf), (kX3 gL (g_4 0) (g_4 1) (g_4 2) (g_4 3)), (kX3 gR (g_4 4) (g_4 5) (g_4 6) (g_4 7)), (kX7 aPa vPa l7 a7 n7), (kAI vPa cI 39 f7), (kX2 aGe vGe l2 a2 n2), (kAI vGe cI 23 f2), (kX1 aFl vFl xn), (kAI vFl cI 32 ff)]) (wt := [(kX11 hx aLa aPa aGe aFl aTr aBe aLu aLo vSf vSm vCo vSh xs xl xf), (kX3 gL (g_4 0) (g_4 1) (g_4 2) (g_4 3)), (kX3 gR (g_4 4) (g_4 5) (g_4 6) (g_4 7)), (kX7 aPa vPa l7 a7 n7), (kAI vPa cI 39 f7), (kX2 aGe vGe l2 a2 n2), (kAI vGe cI 23 f2), (kX1 aFl vFl xn), (kAI vFl cI 32 ff), (kX10 aTr aLa aPa aGe gL gR (gp_8 0) (gp_8 1) (g_4 8) (g_4 9) (g_4 10) (g_4 11) (g_4 12) (g_4 13) (g_4 14) (g_18 0) (g_18 1) (g_18 2)), (kX4 aLa vLa l4 a4 n4), (kAI vLa cI 24 f4)]) hP hD hC [0, 2, 3, 6, 7, 8, 9, 10, 11] rfl (by decide +kernel) (by decide +kernel) hk1 hFc hP1 hD1 rfl
      clear hP hD hPc hDc hFc hC hP1 hD1 hK1 hz1 hk1 hvm ht
      obtain ⟨hP, hD⟩ := hJ
      generalize H1 = H at hP hS ⊢
      try dsimp only at hw
      obtain ⟨c_23, c_24, c_25, c_26⟩ := hw
      refine lv_istore (lv' := [(4, .int r_17), (3, .int fz1), (2, .int moz1), (1, .int faz1), (0, .ref hx)]) hx₀ hb dX11_farthest_37 hl (by decide) rfl (fun ls hl => ?_)
      refine lv_iconst (v := 2) hx₀ hb dX11_farthest_39 (by decide +kernel) ?_
      refine lv_iload hx₀ hb dX11_farthest_40 (lv_at hl 0 rfl) ?_
      refine lv_imul hx₀ hb dX11_farthest_42 ?_
      refine lv_aload_n hx₀ hb dX11_farthest_43 rfl (lv_at hl 4 rfl) ?_
      refine va_get (D := (dC, dI)) (ci := 10) (v := .ref aTr) (C := RX11) (T := TX11) (N := 15) hx₀ hb hts inlX11 hown hK hP 0 rfl rfl 4 (by decide) (hts (.fieldLink RX11 42 "BittenStick" "trip" "LBittenStick$Trip;") wd_31) (fun _ h9 => h9) rfl dX11_farthest_44 ?_
      refine va_get (D := (dC, dI)) (ci := 9) (v := .int (g_18 2)) (C := RX10) (T := TX10) (N := 17) hx₀ hb hts inlX10 hown hK hP 9 rfl rfl 16 (by decide) (hts (.fieldLink RX11 159 "BittenStick$Trip" "end" "I") wd_422) (fun _ h9 => h9) rfl dX11_farthest_47 ?_
      refine lv_if_ne (tgt := 57) hx₀ hb dX11_farthest_50 (by decide) (fun c_27 => ?_) (fun c_27 => ?_)
      · refine lv_iconst (v := 0) hx₀ hb dX11_farthest_57 (by decide +kernel) ?_
        refine lv_iadd hx₀ hb dX11_farthest_58 ?_
        refine lv_istore (lv' := [(5, .int ((2 * r_17) + 0)), (4, .int r_17), (3, .int fz1), (2, .int moz1), (1, .int faz1), (0, .ref hx)]) hx₀ hb dX11_farthest_59 hl (by decide) rfl (fun ls hl => ?_)
        refine lv_iload hx₀ hb dX11_farthest_61 (lv_at hl 0 rfl) ?_
        refine lv_iload_n hx₀ hb dX11_farthest_63 rfl (lv_at hl 3 rfl) ?_
        refine lv_icmp_le (tgt := 72) hx₀ hb dX11_farthest_64 (by decide) (fun c_28 => ?_) (fun c_28 => ?_)
        · refine lv_iinc (v := fz1 + 1) (lv' := [(3, .int (fz1 + 1)), (5, .int ((2 * r_17) + 0)), (4, .int r_17), (2, .int moz1), (1, .int faz1), (0, .ref hx)]) hx₀ hb dX11_farthest_72 hl (k := 2) rfl rfl (by decide) rfl (fun ls hl => ?_)
          refine lv_goto (tgt := 6) hx₀ hb dX11_farthest_75 (by decide) ?_
          exact ihz1 _ (lf_j_farthest_2 xn fz1 jz1 hh1 hiz1_0 hjz1 c_2) faz1 moz1 (fz1 + 1) (g_4 8) (g_4 9) (g_4 10) (g_4 11) (g_4 12) (g_4 13) (g_4 14) (g_18 0) (g_18 1) (g_18 2) (gp_8 0) (gp_8 1) (g_4 0) (g_4 1) (g_4 2) (g_4 3) (g_4 4) (g_4 5) (g_4 6) (g_4 7) _ _ _ (lf_j_farthest_1 xn fz1 jz1 hh1 hiz1_0 hjz1 c_2) rfl (hP.sub [0, 9, 1, 2, 10, 11, 3, 4, 5, 6, 7, 8] rfl) (hD.sub [0, 9, 1, 2, 10, 11, 3, 4, 5, 6, 7, 8] (by decide +kernel) rfl) hS (lv_sub hl [0, 3, 4, 5] rfl)
        · refine lv_iload hx₀ hb dX11_farthest_67 (lv_at hl 0 rfl) ?_
          refine lv_istore_n (lv' := [(2, .int ((2 * r_17) + 0)), (5, .int ((2 * r_17) + 0)), (4, .int r_17), (3, .int fz1), (1, .int faz1), (0, .ref hx)]) hx₀ hb dX11_farthest_69 rfl hl (by decide) rfl (fun ls hl => ?_)
          refine lv_iload_n hx₀ hb dX11_farthest_70 rfl (lv_at hl 3 rfl) ?_
          refine lv_istore_n (lv' := [(1, .int fz1), (2, .int ((2 * r_17) + 0)), (5, .int ((2 * r_17) + 0)), (4, .int r_17), (3, .int fz1), (0, .ref hx)]) hx₀ hb dX11_farthest_71 rfl hl (by decide) rfl (fun ls hl => ?_)
          refine lv_iinc (v := fz1 + 1) (lv' := [(3, .int (fz1 + 1)), (1, .int fz1), (2, .int ((2 * r_17) + 0)), (5, .int ((2 * r_17) + 0)), (4, .int r_17), (0, .ref hx)]) hx₀ hb dX11_farthest_72 hl (k := 4) rfl rfl (by decide) rfl (fun ls hl => ?_)
          refine lv_goto (tgt := 6) hx₀ hb dX11_farthest_75 (by decide) ?_
          exact ihz1 _ (lf_j_farthest_2 xn fz1 jz1 hh1 hiz1_0 hjz1 c_2) fz1 ((2 * r_17) + 0) (fz1 + 1) (g_4 8) (g_4 9) (g_4 10) (g_4 11) (g_4 12) (g_4 13) (g_4 14) (g_18 0) (g_18 1) (g_18 2) (gp_8 0) (gp_8 1) (g_4 0) (g_4 1) (g_4 2) (g_4 3) (g_4 4) (g_4 5) (g_4 6) (g_4 7) _ _ _ (lf_j_farthest_1 xn fz1 jz1 hh1 hiz1_0 hjz1 c_2) rfl (hP.sub [0, 9, 1, 2, 10, 11, 3, 4, 5, 6, 7, 8] rfl) (hD.sub [0, 9, 1, 2, 10, 11, 3, 4, 5, 6, 7, 8] (by decide +kernel) rfl) hS (lv_sub hl [0, 2, 1, 5] rfl)
      · refine lv_iconst (v := 1) hx₀ hb dX11_farthest_53 (by decide +kernel) ?_
        refine lv_goto (tgt := 58) hx₀ hb dX11_farthest_54 (by decide) ?_
        refine lv_iadd hx₀ hb dX11_farthest_58 ?_
        refine lv_istore (lv' := [(5, .int ((2 * r_17) + 1)), (4, .int r_17), (3, .int fz1), (2, .int moz1), (1, .int faz1), (0, .ref hx)]) hx₀ hb dX11_farthest_59 hl (by decide) rfl (fun ls hl => ?_)
        refine lv_iload hx₀ hb dX11_farthest_61 (lv_at hl 0 rfl) ?_
        refine lv_iload_n hx₀ hb dX11_farthest_63 rfl (lv_at hl 3 rfl) ?_
        refine lv_icmp_le (tgt := 72) hx₀ hb dX11_farthest_64 (by decide) (fun c_29 => ?_) (fun c_29 => ?_)
        · refine lv_iinc (v := fz1 + 1) (lv' := [(3, .int (fz1 + 1)), (5, .int ((2 * r_17) + 1)), (4, .int r_17), (2, .int moz1), (1, .int faz1), (0, .ref hx)]) hx₀ hb dX11_farthest_72 hl (k := 2) rfl rfl (by decide) rfl (fun ls hl => ?_)
          refine lv_goto (tgt := 6) hx₀ hb dX11_farthest_75 (by decide) ?_
          exact ihz1 _ (lf_j_farthest_2 xn fz1 jz1 hh1 hiz1_0 hjz1 c_2) faz1 moz1 (fz1 + 1) (g_4 8) (g_4 9) (g_4 10) (g_4 11) (g_4 12) (g_4 13) (g_4 14) (g_18 0) (g_18 1) (g_18 2) (gp_8 0) (gp_8 1) (g_4 0) (g_4 1) (g_4 2) (g_4 3) (g_4 4) (g_4 5) (g_4 6) (g_4 7) _ _ _ (lf_j_farthest_1 xn fz1 jz1 hh1 hiz1_0 hjz1 c_2) rfl (hP.sub [0, 9, 1, 2, 10, 11, 3, 4, 5, 6, 7, 8] rfl) (hD.sub [0, 9, 1, 2, 10, 11, 3, 4, 5, 6, 7, 8] (by decide +kernel) rfl) hS (lv_sub hl [0, 3, 4, 5] rfl)
        · refine lv_iload hx₀ hb dX11_farthest_67 (lv_at hl 0 rfl) ?_
          refine lv_istore_n (lv' := [(2, .int ((2 * r_17) + 1)), (5, .int ((2 * r_17) + 1)), (4, .int r_17), (3, .int fz1), (1, .int faz1), (0, .ref hx)]) hx₀ hb dX11_farthest_69 rfl hl (by decide) rfl (fun ls hl => ?_)
          refine lv_iload_n hx₀ hb dX11_farthest_70 rfl (lv_at hl 3 rfl) ?_
          refine lv_istore_n (lv' := [(1, .int fz1), (2, .int ((2 * r_17) + 1)), (5, .int ((2 * r_17) + 1)), (4, .int r_17), (3, .int fz1), (0, .ref hx)]) hx₀ hb dX11_farthest_71 rfl hl (by decide) rfl (fun ls hl => ?_)
          refine lv_iinc (v := fz1 + 1) (lv' := [(3, .int (fz1 + 1)), (1, .int fz1), (2, .int ((2 * r_17) + 1)), (5, .int ((2 * r_17) + 1)), (4, .int r_17), (0, .ref hx)]) hx₀ hb dX11_farthest_72 hl (k := 4) rfl rfl (by decide) rfl (fun ls hl => ?_)
          refine lv_goto (tgt := 6) hx₀ hb dX11_farthest_75 (by decide) ?_
          exact ihz1 _ (lf_j_farthest_2 xn fz1 jz1 hh1 hiz1_0 hjz1 c_2) fz1 ((2 * r_17) + 1) (fz1 + 1) (g_4 8) (g_4 9) (g_4 10) (g_4 11) (g_4 12) (g_4 13) (g_4 14) (g_18 0) (g_18 1) (g_18 2) (gp_8 0) (gp_8 1) (g_4 0) (g_4 1) (g_4 2) (g_4 3) (g_4 4) (g_4 5) (g_4 6) (g_4 7) _ _ _ (lf_j_farthest_1 xn fz1 jz1 hh1 hiz1_0 hjz1 c_2) rfl (hP.sub [0, 9, 1, 2, 10, 11, 3, 4, 5, 6, 7, 8] rfl) (hD.sub [0, 9, 1, 2, 10, 11, 3, 4, 5, 6, 7, 8] (by decide +kernel) rfl) hS (lv_sub hl [0, 2, 1, 5] rfl)
