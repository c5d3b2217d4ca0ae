set_option maxHeartbeats 4000000 in
set_option maxRecDepth 100000 in
theorem e_bitCount (l : Launch) (dC : Nat → ClassId) (dI : Nat → Nat → Nat) (cI cJ cQ : ClassId) (sz : Nat) (b1 : Int32) (hh0 : 0 ≤ b1 ∧ b1 ≤ 63) : Met l yJ6_bitCount_0f7a4 (kW yJ6_bitCount_0f7a4 cJ6_bitCount_0f7a4 1 (some .int)) { frames := 0, cells := 0, slots := 0, locals := 0 } (kPre dC dI cI cJ cQ sz [.int b1] []) (va_Qi (fun (r : Int32) (u : Unit) => (r = kPp b1)) (fun (u : Unit) t₀ => kB dC dI cI cJ cQ (va_A [] sz) [] t₀) (va_A [] sz)) 0 0 (va_A [] sz) := by
  refine Met.ofW (cc := cJ6_bitCount_0f7a4) (maxL := 1) (ret := (some .int)) (by decide) rfl ?_
  intro p₀ e₀ s₀ m₀ args below meth c₀ s₁ B hml hv₀
  obtain ⟨rfl, hsz, hP, hK, hD0, hN⟩ := hv₀
  have hx₀ := B.exec
  have hb := B.bytes
  have hr := B.returns
  have hts := atoms_spec (ws := (kW yJ6_bitCount_0f7a4 cJ6_bitCount_0f7a4 1 (some .int))) B.pre
  have hts := fun w h => hts w (List.mem_cons_of_mem _ h)
  have hown : s₀.vm.findClass RJ6 = some m₀.cls := findClass_of_methodNamed B.named
  have hlocks := B.notSynchronized
  subst hsz
  have hD := hD0.self (sz := s₀.heap.size)
  generalize hAe : va_A [] s₀.heap.size = A at hD ⊢
  have hA : ∀ q : Nat, s₀.heap.size ≤ q → A q := fun q h => by rw [← hAe]; exact Or.inr h
  have hS : va_S A s₀.heap s₀.heap [] := va_S.rf
  have hP : va_P (dC, dI) vwCl [] s₀.heap := hP
  have hl := lv_entry ([.int b1]) (n := 1) (Nat.le_of_ble_eq_true rfl)
  rw [lg_entry_eq]
  generalize (lg_sl ([.int b1]) ++ List.replicate (1 - (lg_sl ([.int b1])).length) Slot.unset).toArray = ls at hl ⊢
  have hl : lv_has ls 1 [(0, .int b1)] := hl
  obtain ⟨H, hH⟩ : ∃ z : Heap, z = s₀.heap := ⟨_, rfl⟩
  rw [← hH] at hP
  have hS : va_S A s₀.heap H [] := by rw [hH]; exact hS
  refine k_heap hH ?_
  have hD : va_D A [] := hD
  obtain ⟨locs, hlo⟩ : ∃ z : List Loc, z = [] := ⟨_, rfl⟩
  rw [← hlo] at hS ⊢
  clear hlo hH hAe hD0
  refine lv_iload_n hx₀ hb dJ6_bitCount_0f7a4_0_a.1 rfl (lv_at hl 0 rfl) ?_
  refine lv_iload_n hx₀ hb dJ6_bitCount_0f7a4_0_a.2.1 rfl (lv_at hl 0 rfl) ?_
  refine lv_iconst (v := 1) hx₀ hb dJ6_bitCount_0f7a4_0_a.2.2.1 (by decide +kernel) ?_
  refine lv_iushr hx₀ hb dJ6_bitCount_0f7a4_0_a.2.2.2.1 rfl ?_
  refine lv_ldcw (v := 1431655765) hx₀ hb hown (hts (.constant RJ6 265 (1431655765)) wd_658) dJ6_bitCount_0f7a4_0_a.2.2.2.2.1 ?_
  refine lv_iand hx₀ hb dJ6_bitCount_0f7a4_0_a.2.2.2.2.2.1 ?_
  refine lv_isub hx₀ hb dJ6_bitCount_0f7a4_0_a.2.2.2.2.2.2.1 ?_
  refine lv_istore_n (lv' := [(0, .int (b1 - (((b1.toUInt32 >>> ((1 : Int32).toUInt32 &&& Int32.toUInt32 31)).toInt32) &&& 1431655765)))]) hx₀ hb dJ6_bitCount_0f7a4_0_a.2.2.2.2.2.2.2.1 rfl hl (by decide) rfl (fun ls hl => ?_)
  refine lv_iload_n hx₀ hb dJ6_bitCount_0f7a4_0_a.2.2.2.2.2.2.2.2.1 rfl (lv_at hl 0 rfl) ?_
  refine lv_ldcw (v := 858993459) hx₀ hb hown (hts (.constant RJ6 266 (858993459)) wd_659) dJ6_bitCount_0f7a4_0_a.2.2.2.2.2.2.2.2.2.1 ?_
  refine lv_iand hx₀ hb dJ6_bitCount_0f7a4_0_a.2.2.2.2.2.2.2.2.2.2.1 ?_
  refine lv_iload_n hx₀ hb dJ6_bitCount_0f7a4_0_a.2.2.2.2.2.2.2.2.2.2.2.1 rfl (lv_at hl 0 rfl) ?_
  refine lv_iconst (v := 2) hx₀ hb dJ6_bitCount_0f7a4_0_a.2.2.2.2.2.2.2.2.2.2.2.2.1 (by decide +kernel) ?_
  refine lv_iushr hx₀ hb dJ6_bitCount_0f7a4_0_a.2.2.2.2.2.2.2.2.2.2.2.2.2.1 rfl ?_
  refine lv_ldcw (v := 858993459) hx₀ hb hown (hts (.constant RJ6 266 (858993459)) wd_659) dJ6_bitCount_0f7a4_0_a.2.2.2.2.2.2.2.2.2.2.2.2.2.2.1 ?_
  refine lv_iand hx₀ hb dJ6_bitCount_0f7a4_0_a.2.2.2.2.2.2.2.2.2.2.2.2.2.2.2 ?_
  refine lv_iadd hx₀ hb dJ6_bitCount_0f7a4_22_a.1 ?_
  refine lv_istore_n (lv' := [(0, .int (((b1 - (((b1.toUInt32 >>> ((1 : Int32).toUInt32 &&& Int32.toUInt32 31)).toInt32) &&& 1431655765)) &&& 858993459) + ((((b1 - (((b1.toUInt32 >>> ((1 : Int32).toUInt32 &&& Int32.toUInt32 31)).toInt32) &&& 1431655765)).toUInt32 >>> ((2 : Int32).toUInt32 &&& Int32.toUInt32 31)).toInt32) &&& 858993459)))]) hx₀ hb dJ6_bitCount_0f7a4_22_a.2.1 rfl hl (by decide) rfl (fun ls hl => ?_)
  refine lv_iload_n hx₀ hb dJ6_bitCount_0f7a4_22_a.2.2.1 rfl (lv_at hl 0 rfl) ?_
  refine lv_iload_n hx₀ hb dJ6_bitCount_0f7a4_22_a.2.2.2.1 rfl (lv_at hl 0 rfl) ?_
  refine lv_iconst (v := 4) hx₀ hb dJ6_bitCount_0f7a4_22_a.2.2.2.2.1 (by decide +kernel) ?_
  refine lv_iushr hx₀ hb dJ6_bitCount_0f7a4_22_a.2.2.2.2.2.1 rfl ?_
  refine lv_iadd hx₀ hb dJ6_bitCount_0f7a4_22_a.2.2.2.2.2.2.1 ?_
  refine lv_ldcw (v := 252645135) hx₀ hb hown (hts (.constant RJ6 267 (252645135)) wd_660) dJ6_bitCount_0f7a4_22_a.2.2.2.2.2.2.2.1 ?_
  refine lv_iand hx₀ hb dJ6_bitCount_0f7a4_22_a.2.2.2.2.2.2.2.2.1 ?_
  refine lv_istore_n (lv' := [(0, .int (((((b1 - (((b1.toUInt32 >>> ((1 : Int32).toUInt32 &&& Int32.toUInt32 31)).toInt32) &&& 1431655765)) &&& 858993459) + ((((b1 - (((b1.toUInt32 >>> ((1 : Int32).toUInt32 &&& Int32.toUInt32 31)).toInt32) &&& 1431655765)).toUInt32 >>> ((2 : Int32).toUInt32 &&& Int32.toUInt32 31)).toInt32) &&& 858993459)) + (((((b1 - (((b1.toUInt32 >>> ((1 : Int32).toUInt32 &&& Int32.toUInt32 31)).toInt32) &&& 1431655765)) &&& 858993459) + ((((b1 - (((b1.toUInt32 >>> ((1 : Int32).toUInt32 &&& Int32.toUInt32 31)).toInt32) &&& 1431655765)).toUInt32 >>> ((2 : Int32).toUInt32 &&& Int32.toUInt32 31)).toInt32) &&& 858993459)).toUInt32 >>> ((4 : Int32).toUInt32 &&& Int32.toUInt32 31)).toInt32)) &&& 252645135))]) hx₀ hb dJ6_bitCount_0f7a4_22_a.2.2.2.2.2.2.2.2.2.1 rfl hl (by decide) rfl (fun ls hl => ?_)
  refine lv_iload_n hx₀ hb dJ6_bitCount_0f7a4_22_a.2.2.2.2.2.2.2.2.2.2.1 rfl (lv_at hl 0 rfl) ?_
  refine lv_iload_n hx₀ hb dJ6_bitCount_0f7a4_22_a.2.2.2.2.2.2.2.2.2.2.2.1 rfl (lv_at hl 0 rfl) ?_
  refine lv_bipush (v := 8) hx₀ hb dJ6_bitCount_0f7a4_22_a.2.2.2.2.2.2.2.2.2.2.2.2.1 (by decide +kernel) ?_
  refine lv_iushr hx₀ hb dJ6_bitCount_0f7a4_22_a.2.2.2.2.2.2.2.2.2.2.2.2.2.1 rfl ?_
  refine lv_iadd hx₀ hb dJ6_bitCount_0f7a4_22_a.2.2.2.2.2.2.2.2.2.2.2.2.2.2.1 ?_
  refine lv_istore_n (lv' := [(0, .int ((((((b1 - (((b1.toUInt32 >>> ((1 : Int32).toUInt32 &&& Int32.toUInt32 31)).toInt32) &&& 1431655765)) &&& 858993459) + ((((b1 - (((b1.toUInt32 >>> ((1 : Int32).toUInt32 &&& Int32.toUInt32 31)).toInt32) &&& 1431655765)).toUInt32 >>> ((2 : Int32).toUInt32 &&& Int32.toUInt32 31)).toInt32) &&& 858993459)) + (((((b1 - (((b1.toUInt32 >>> ((1 : Int32).toUInt32 &&& Int32.toUInt32 31)).toInt32) &&& 1431655765)) &&& 858993459) + ((((b1 - (((b1.toUInt32 >>> ((1 : Int32).toUInt32 &&& Int32.toUInt32 31)).toInt32) &&& 1431655765)).toUInt32 >>> ((2 : Int32).toUInt32 &&& Int32.toUInt32 31)).toInt32) &&& 858993459)).toUInt32 >>> ((4 : Int32).toUInt32 &&& Int32.toUInt32 31)).toInt32)) &&& 252645135) + (((((((b1 - (((b1.toUInt32 >>> ((1 : Int32).toUInt32 &&& Int32.toUInt32 31)).toInt32) &&& 1431655765)) &&& 858993459) + ((((b1 - (((b1.toUInt32 >>> ((1 : Int32).toUInt32 &&& Int32.toUInt32 31)).toInt32) &&& 1431655765)).toUInt32 >>> ((2 : Int32).toUInt32 &&& Int32.toUInt32 31)).toInt32) &&& 858993459)) + (((((b1 - (((b1.toUInt32 >>> ((1 : Int32).toUInt32 &&& Int32.toUInt32 31)).toInt32) &&& 1431655765)) &&& 858993459) + ((((b1 - (((b1.toUInt32 >>> ((1 : Int32).toUInt32 &&& Int32.toUInt32 31)).toInt32) &&& 1431655765)).toUInt32 >>> ((2 : Int32).toUInt32 &&& Int32.toUInt32 31)).toInt32) &&& 858993459)).toUInt32 >>> ((4 : Int32).toUInt32 &&& Int32.toUInt32 31)).toInt32)) &&& 252645135).toUInt32 >>> ((8 : Int32).toUInt32 &&& Int32.toUInt32 31)).toInt32)))]) hx₀ hb dJ6_bitCount_0f7a4_22_a.2.2.2.2.2.2.2.2.2.2.2.2.2.2.2 rfl hl (by decide) rfl (fun ls hl => ?_)
  refine lv_iload_n hx₀ hb dJ6_bitCount_0f7a4_41_a.1 rfl (lv_at hl 0 rfl) ?_
  refine lv_iload_n hx₀ hb dJ6_bitCount_0f7a4_41_a.2.1 rfl (lv_at hl 0 rfl) ?_
  refine lv_bipush (v := 16) hx₀ hb dJ6_bitCount_0f7a4_41_a.2.2.1 (by decide +kernel) ?_
  refine lv_iushr hx₀ hb dJ6_bitCount_0f7a4_41_a.2.2.2.1 rfl ?_
  refine lv_iadd hx₀ hb dJ6_bitCount_0f7a4_41_a.2.2.2.2.1 ?_
  refine lv_istore_n (lv' := [(0, .int (((((((b1 - (((b1.toUInt32 >>> ((1 : Int32).toUInt32 &&& Int32.toUInt32 31)).toInt32) &&& 1431655765)) &&& 858993459) + ((((b1 - (((b1.toUInt32 >>> ((1 : Int32).toUInt32 &&& Int32.toUInt32 31)).toInt32) &&& 1431655765)).toUInt32 >>> ((2 : Int32).toUInt32 &&& Int32.toUInt32 31)).toInt32) &&& 858993459)) + (((((b1 - (((b1.toUInt32 >>> ((1 : Int32).toUInt32 &&& Int32.toUInt32 31)).toInt32) &&& 1431655765)) &&& 858993459) + ((((b1 - (((b1.toUInt32 >>> ((1 : Int32).toUInt32 &&& Int32.toUInt32 31)).toInt32) &&& 1431655765)).toUInt32 >>> ((2 : Int32).toUInt32 &&& Int32.toUInt32 31)).toInt32) &&& 858993459)).toUInt32 >>> ((4 : Int32).toUInt32 &&& Int32.toUInt32 31)).toInt32)) &&& 252645135) + (((((((b1 - (((b1.toUInt32 >>> ((1 : Int32).toUInt32 &&& Int32.toUInt32 31)).toInt32) &&& 1431655765)) &&& 858993459) + ((((b1 - (((b1.toUInt32 >>> ((1 : Int32).toUInt32 &&& Int32.toUInt32 31)).toInt32) &&& 1431655765)).toUInt32 >>> ((2 : Int32).toUInt32 &&& Int32.toUInt32 31)).toInt32) &&& 858993459)) + (((((b1 - (((b1.toUInt32 >>> ((1 : Int32).toUInt32 &&& Int32.toUInt32 31)).toInt32) &&& 1431655765)) &&& 858993459) + ((((b1 - (((b1.toUInt32 >>> ((1 : Int32).toUInt32 &&& Int32.toUInt32 31)).toInt32) &&& 1431655765)).toUInt32 >>> ((2 : Int32).toUInt32 &&& Int32.toUInt32 31)).toInt32) &&& 858993459)).toUInt32 >>> ((4 : Int32).toUInt32 &&& Int32.toUInt32 31)).toInt32)) &&& 252645135).toUInt32 >>> ((8 : Int32).toUInt32 &&& Int32.toUInt32 31)).toInt32)) + ((((((((b1 - (((b1.toUInt32 >>> ((1 : Int32).toUInt32 &&& Int32.toUInt32 31)).toInt32) &&& 1431655765)) &&& 858993459) + ((((b1 - (((b1.toUInt32 >>> ((1 : Int32).toUInt32 &&& Int32.toUInt32 31)).toInt32) &&& 1431655765)).toUInt32 >>> ((2 : Int32).toUInt32 &&& Int32.toUInt32 31)).toInt32) &&& 858993459)) + (((((b1 - (((b1.toUInt32 >>> ((1 : Int32).toUInt32 &&& Int32.toUInt32 31)).toInt32) &&& 1431655765)) &&& 858993459) + ((((b1 - (((b1.toUInt32 >>> ((1 : Int32).toUInt32 &&& Int32.toUInt32 31)).toInt32) &&& 1431655765)).toUInt32 >>> ((2 : Int32).toUInt32 &&& Int32.toUInt32 31)).toInt32) &&& 858993459)).toUInt32 >>> ((4 : Int32).toUInt32 &&& Int32.toUInt32 31)).toInt32)) &&& 252645135) + (((((((b1 - (((b1.toUInt32 >>> ((1 : Int32).toUInt32 &&& Int32.toUInt32 31)).toInt32) &&& 1431655765)) &&& 858993459) + ((((b1 - (((b1.toUInt32 >>> ((1 : Int32).toUInt32 &&& Int32.toUInt32 31)).toInt32) &&& 1431655765)).toUInt32 >>> ((2 : Int32).toUInt32 &&& Int32.toUInt32 31)).toInt32) &&& 858993459)) + (((((b1 - (((b1.toUInt32 >>> ((1 : Int32).toUInt32 &&& Int32.toUInt32 31)).toInt32) &&& 1431655765)) &&& 858993459) + ((((b1 - (((b1.toUInt32 >>> ((1 : Int32).toUInt32 &&& Int32.toUInt32 31)).toInt32) &&& 1431655765)).toUInt32 >>> ((2 : Int32).toUInt32 &&& Int32.toUInt32 31)).toInt32) &&& 858993459)).toUInt32 >>> ((4 : Int32).toUInt32 &&& Int32.toUInt32 31)).toInt32)) &&& 252645135).toUInt32 >>> ((8 : Int32).toUInt32 &&& Int32.toUInt32 31)).toInt32)).toUInt32 >>> ((16 : Int32).toUInt32 &&& Int32.toUInt32 31)).toInt32)))]) hx₀ hb dJ6_bitCount_0f7a4_41_a.2.2.2.2.2.1 rfl hl (by decide) rfl (fun ls hl => ?_)
  refine lv_iload_n hx₀ hb dJ6_bitCount_0f7a4_41_a.2.2.2.2.2.2.1 rfl (lv_at hl 0 rfl) ?_
  refine lv_bipush (v := 63) hx₀ hb dJ6_bitCount_0f7a4_41_a.2.2.2.2.2.2.2.1 (by decide +kernel) ?_
  refine lv_iand hx₀ hb dJ6_bitCount_0f7a4_41_a.2.2.2.2.2.2.2.2.1 ?_
  obtain ⟨hP9, hD9⟩ := k_c2 (wc := []) hP hD [] (by decide +kernel) rfl
  exact W.iret (v := (((((((b1 - (((b1.toUInt32 >>> ((1 : Int32).toUInt32 &&& Int32.toUInt32 31)).toInt32) &&& 1431655765)) &&& 858993459) + ((((b1 - (((b1.toUInt32 >>> ((1 : Int32).toUInt32 &&& Int32.toUInt32 31)).toInt32) &&& 1431655765)).toUInt32 >>> ((2 : Int32).toUInt32 &&& Int32.toUInt32 31)).toInt32) &&& 858993459)) + (((((b1 - (((b1.toUInt32 >>> ((1 : Int32).toUInt32 &&& Int32.toUInt32 31)).toInt32) &&& 1431655765)) &&& 858993459) + ((((b1 - (((b1.toUInt32 >>> ((1 : Int32).toUInt32 &&& Int32.toUInt32 31)).toInt32) &&& 1431655765)).toUInt32 >>> ((2 : Int32).toUInt32 &&& Int32.toUInt32 31)).toInt32) &&& 858993459)).toUInt32 >>> ((4 : Int32).toUInt32 &&& Int32.toUInt32 31)).toInt32)) &&& 252645135) + (((((((b1 - (((b1.toUInt32 >>> ((1 : Int32).toUInt32 &&& Int32.toUInt32 31)).toInt32) &&& 1431655765)) &&& 858993459) + ((((b1 - (((b1.toUInt32 >>> ((1 : Int32).toUInt32 &&& Int32.toUInt32 31)).toInt32) &&& 1431655765)).toUInt32 >>> ((2 : Int32).toUInt32 &&& Int32.toUInt32 31)).toInt32) &&& 858993459)) + (((((b1 - (((b1.toUInt32 >>> ((1 : Int32).toUInt32 &&& Int32.toUInt32 31)).toInt32) &&& 1431655765)) &&& 858993459) + ((((b1 - (((b1.toUInt32 >>> ((1 : Int32).toUInt32 &&& Int32.toUInt32 31)).toInt32) &&& 1431655765)).toUInt32 >>> ((2 : Int32).toUInt32 &&& Int32.toUInt32 31)).toInt32) &&& 858993459)).toUInt32 >>> ((4 : Int32).toUInt32 &&& Int32.toUInt32 31)).toInt32)) &&& 252645135).toUInt32 >>> ((8 : Int32).toUInt32 &&& Int32.toUInt32 31)).toInt32)) + ((((((((b1 - (((b1.toUInt32 >>> ((1 : Int32).toUInt32 &&& Int32.toUInt32 31)).toInt32) &&& 1431655765)) &&& 858993459) + ((((b1 - (((b1.toUInt32 >>> ((1 : Int32).toUInt32 &&& Int32.toUInt32 31)).toInt32) &&& 1431655765)).toUInt32 >>> ((2 : Int32).toUInt32 &&& Int32.toUInt32 31)).toInt32) &&& 858993459)) + (((((b1 - (((b1.toUInt32 >>> ((1 : Int32).toUInt32 &&& Int32.toUInt32 31)).toInt32) &&& 1431655765)) &&& 858993459) + ((((b1 - (((b1.toUInt32 >>> ((1 : Int32).toUInt32 &&& Int32.toUInt32 31)).toInt32) &&& 1431655765)).toUInt32 >>> ((2 : Int32).toUInt32 &&& Int32.toUInt32 31)).toInt32) &&& 858993459)).toUInt32 >>> ((4 : Int32).toUInt32 &&& Int32.toUInt32 31)).toInt32)) &&& 252645135) + (((((((b1 - (((b1.toUInt32 >>> ((1 : Int32).toUInt32 &&& Int32.toUInt32 31)).toInt32) &&& 1431655765)) &&& 858993459) + ((((b1 - (((b1.toUInt32 >>> ((1 : Int32).toUInt32 &&& Int32.toUInt32 31)).toInt32) &&& 1431655765)).toUInt32 >>> ((2 : Int32).toUInt32 &&& Int32.toUInt32 31)).toInt32) &&& 858993459)) + (((((b1 - (((b1.toUInt32 >>> ((1 : Int32).toUInt32 &&& Int32.toUInt32 31)).toInt32) &&& 1431655765)) &&& 858993459) + ((((b1 - (((b1.toUInt32 >>> ((1 : Int32).toUInt32 &&& Int32.toUInt32 31)).toInt32) &&& 1431655765)).toUInt32 >>> ((2 : Int32).toUInt32 &&& Int32.toUInt32 31)).toInt32) &&& 858993459)).toUInt32 >>> ((4 : Int32).toUInt32 &&& Int32.toUInt32 31)).toInt32)) &&& 252645135).toUInt32 >>> ((8 : Int32).toUInt32 &&& Int32.toUInt32 31)).toInt32)).toUInt32 >>> ((16 : Int32).toUInt32 &&& Int32.toUInt32 31)).toInt32)) &&& 63) hx₀ hb hr (fun t₀ ht hW => ⟨⟨(((((((b1 - (((b1.toUInt32 >>> ((1 : Int32).toUInt32 &&& Int32.toUInt32 31)).toInt32) &&& 1431655765)) &&& 858993459) + ((((b1 - (((b1.toUInt32 >>> ((1 : Int32).toUInt32 &&& Int32.toUInt32 31)).toInt32) &&& 1431655765)).toUInt32 >>> ((2 : Int32).toUInt32 &&& Int32.toUInt32 31)).toInt32) &&& 858993459)) + (((((b1 - (((b1.toUInt32 >>> ((1 : Int32).toUInt32 &&& Int32.toUInt32 31)).toInt32) &&& 1431655765)) &&& 858993459) + ((((b1 - (((b1.toUInt32 >>> ((1 : Int32).toUInt32 &&& Int32.toUInt32 31)).toInt32) &&& 1431655765)).toUInt32 >>> ((2 : Int32).toUInt32 &&& Int32.toUInt32 31)).toInt32) &&& 858993459)).toUInt32 >>> ((4 : Int32).toUInt32 &&& Int32.toUInt32 31)).toInt32)) &&& 252645135) + (((((((b1 - (((b1.toUInt32 >>> ((1 : Int32).toUInt32 &&& Int32.toUInt32 31)).toInt32) &&& 1431655765)) &&& 858993459) + ((((b1 - (((b1.toUInt32 >>> ((1 : Int32).toUInt32 &&& Int32.toUInt32 31)).toInt32) &&& 1431655765)).toUInt32 >>> ((2 : Int32).toUInt32 &&& Int32.toUInt32 31)).toInt32) &&& 858993459)) + (((((b1 - (((b1.toUInt32 >>> ((1 : Int32).toUInt32 &&& Int32.toUInt32 31)).toInt32) &&& 1431655765)) &&& 858993459) + ((((b1 - (((b1.toUInt32 >>> ((1 : Int32).toUInt32 &&& Int32.toUInt32 31)).toInt32) &&& 1431655765)).toUInt32 >>> ((2 : Int32).toUInt32 &&& Int32.toUInt32 31)).toInt32) &&& 858993459)).toUInt32 >>> ((4 : Int32).toUInt32 &&& Int32.toUInt32 31)).toInt32)) &&& 252645135).toUInt32 >>> ((8 : Int32).toUInt32 &&& Int32.toUInt32 31)).toInt32)) + ((((((((b1 - (((b1.toUInt32 >>> ((1 : Int32).toUInt32 &&& Int32.toUInt32 31)).toInt32) &&& 1431655765)) &&& 858993459) + ((((b1 - (((b1.toUInt32 >>> ((1 : Int32).toUInt32 &&& Int32.toUInt32 31)).toInt32) &&& 1431655765)).toUInt32 >>> ((2 : Int32).toUInt32 &&& Int32.toUInt32 31)).toInt32) &&& 858993459)) + (((((b1 - (((b1.toUInt32 >>> ((1 : Int32).toUInt32 &&& Int32.toUInt32 31)).toInt32) &&& 1431655765)) &&& 858993459) + ((((b1 - (((b1.toUInt32 >>> ((1 : Int32).toUInt32 &&& Int32.toUInt32 31)).toInt32) &&& 1431655765)).toUInt32 >>> ((2 : Int32).toUInt32 &&& Int32.toUInt32 31)).toInt32) &&& 858993459)).toUInt32 >>> ((4 : Int32).toUInt32 &&& Int32.toUInt32 31)).toInt32)) &&& 252645135) + (((((((b1 - (((b1.toUInt32 >>> ((1 : Int32).toUInt32 &&& Int32.toUInt32 31)).toInt32) &&& 1431655765)) &&& 858993459) + ((((b1 - (((b1.toUInt32 >>> ((1 : Int32).toUInt32 &&& Int32.toUInt32 31)).toInt32) &&& 1431655765)).toUInt32 >>> ((2 : Int32).toUInt32 &&& Int32.toUInt32 31)).toInt32) &&& 858993459)) + (((((b1 - (((b1.toUInt32 >>> ((1 : Int32).toUInt32 &&& Int32.toUInt32 31)).toInt32) &&& 1431655765)) &&& 858993459) + ((((b1 - (((b1.toUInt32 >>> ((1 : Int32).toUInt32 &&& Int32.toUInt32 31)).toInt32) &&& 1431655765)).toUInt32 >>> ((2 : Int32).toUInt32 &&& Int32.toUInt32 31)).toInt32) &&& 858993459)).toUInt32 >>> ((4 : Int32).toUInt32 &&& Int32.toUInt32 31)).toInt32)) &&& 252645135).toUInt32 >>> ((8 : Int32).toUInt32 &&& Int32.toUInt32 31)).toInt32)).toUInt32 >>> ((16 : Int32).toUInt32 &&& Int32.toUInt32 31)).toInt32)) &&& 63, (), rfl, ((by obtain ⟨j, hj, ej⟩ := nI_of2 (n := 63) (M := 63) (by decide) (Int32.not_lt.mpr hh0.1) hh0.2; rw [ej]; exact (show ∀ k, k < 64 → (((((((((nI k) - ((((nI k).toUInt32 >>> ((1 : Int32).toUInt32 &&& Int32.toUInt32 31)).toInt32) &&& 1431655765)) &&& 858993459) + (((((nI k) - ((((nI k).toUInt32 >>> ((1 : Int32).toUInt32 &&& Int32.toUInt32 31)).toInt32) &&& 1431655765)).toUInt32 >>> ((2 : Int32).toUInt32 &&& Int32.toUInt32 31)).toInt32) &&& 858993459)) + ((((((nI k) - ((((nI k).toUInt32 >>> ((1 : Int32).toUInt32 &&& Int32.toUInt32 31)).toInt32) &&& 1431655765)) &&& 858993459) + (((((nI k) - ((((nI k).toUInt32 >>> ((1 : Int32).toUInt32 &&& Int32.toUInt32 31)).toInt32) &&& 1431655765)).toUInt32 >>> ((2 : Int32).toUInt32 &&& Int32.toUInt32 31)).toInt32) &&& 858993459)).toUInt32 >>> ((4 : Int32).toUInt32 &&& Int32.toUInt32 31)).toInt32)) &&& 252645135) + ((((((((nI k) - ((((nI k).toUInt32 >>> ((1 : Int32).toUInt32 &&& Int32.toUInt32 31)).toInt32) &&& 1431655765)) &&& 858993459) + (((((nI k) - ((((nI k).toUInt32 >>> ((1 : Int32).toUInt32 &&& Int32.toUInt32 31)).toInt32) &&& 1431655765)).toUInt32 >>> ((2 : Int32).toUInt32 &&& Int32.toUInt32 31)).toInt32) &&& 858993459)) + ((((((nI k) - ((((nI k).toUInt32 >>> ((1 : Int32).toUInt32 &&& Int32.toUInt32 31)).toInt32) &&& 1431655765)) &&& 858993459) + (((((nI k) - ((((nI k).toUInt32 >>> ((1 : Int32).toUInt32 &&& Int32.toUInt32 31)).toInt32) &&& 1431655765)).toUInt32 >>> ((2 : Int32).toUInt32 &&& Int32.toUInt32 31)).toInt32) &&& 858993459)).toUInt32 >>> ((4 : Int32).toUInt32 &&& Int32.toUInt32 31)).toInt32)) &&& 252645135).toUInt32 >>> ((8 : Int32).toUInt32 &&& Int32.toUInt32 31)).toInt32)) + (((((((((nI k) - ((((nI k).toUInt32 >>> ((1 : Int32).toUInt32 &&& Int32.toUInt32 31)).toInt32) &&& 1431655765)) &&& 858993459) + (((((nI k) - ((((nI k).toUInt32 >>> ((1 : Int32).toUInt32 &&& Int32.toUInt32 31)).toInt32) &&& 1431655765)).toUInt32 >>> ((2 : Int32).toUInt32 &&& Int32.toUInt32 31)).toInt32) &&& 858993459)) + ((((((nI k) - ((((nI k).toUInt32 >>> ((1 : Int32).toUInt32 &&& Int32.toUInt32 31)).toInt32) &&& 1431655765)) &&& 858993459) + (((((nI k) - ((((nI k).toUInt32 >>> ((1 : Int32).toUInt32 &&& Int32.toUInt32 31)).toInt32) &&& 1431655765)).toUInt32 >>> ((2 : Int32).toUInt32 &&& Int32.toUInt32 31)).toInt32) &&& 858993459)).toUInt32 >>> ((4 : Int32).toUInt32 &&& Int32.toUInt32 31)).toInt32)) &&& 252645135) + ((((((((nI k) - ((((nI k).toUInt32 >>> ((1 : Int32).toUInt32 &&& Int32.toUInt32 31)).toInt32) &&& 1431655765)) &&& 858993459) + (((((nI k) - ((((nI k).toUInt32 >>> ((1 : Int32).toUInt32 &&& Int32.toUInt32 31)).toInt32) &&& 1431655765)).toUInt32 >>> ((2 : Int32).toUInt32 &&& Int32.toUInt32 31)).toInt32) &&& 858993459)) + ((((((nI k) - ((((nI k).toUInt32 >>> ((1 : Int32).toUInt32 &&& Int32.toUInt32 31)).toInt32) &&& 1431655765)) &&& 858993459) + (((((nI k) - ((((nI k).toUInt32 >>> ((1 : Int32).toUInt32 &&& Int32.toUInt32 31)).toInt32) &&& 1431655765)).toUInt32 >>> ((2 : Int32).toUInt32 &&& Int32.toUInt32 31)).toInt32) &&& 858993459)).toUInt32 >>> ((4 : Int32).toUInt32 &&& Int32.toUInt32 31)).toInt32)) &&& 252645135).toUInt32 >>> ((8 : Int32).toUInt32 &&& Int32.toUInt32 31)).toInt32)).toUInt32 >>> ((16 : Int32).toUInt32 &&& Int32.toUInt32 31)).toInt32)) &&& 63 : Int32) = kPp (nI k) from by decide +kernel) j (by omega))), by rw [ht]; exact hP9, va_K.moved hW.alike hK, hD9⟩, hS.F ht⟩) hS.2.2 dJ6_bitCount_0f7a4_41_a.2.2.2.2.2.2.2.2.2
theorem lf_e_prac__1 (a0 : Int32) (a1 : Nat) (h0 : 0 ≤ a0 ∧ a0 ≤ 64) (h1 : (64 - a0.toInt).toNat = a1) (h2 : ¬ 64 ≤ a0) : 0 ≤ a0 ∧ a0 ≤ 63 := by
  first | rfl | assumption | decide | exact Or.inl rfl | (first | omega | (have hr0 := Int32.toInt_lt a0; have hs0 := Int32.le_toInt a0; simp only [Int64.toInt_add, Int64.toInt_sub, Int32.toInt_add, Int32.toInt_sub, Int32.toInt_mul, Int64.le_iff_toInt_le, Int64.lt_iff_toInt_lt, Int32.le_iff_toInt_le, Int32.lt_iff_toInt_lt, ← Int32.toInt_inj, ← Int64.toInt_inj, Int32.toInt_toInt64, kc_0, kc_63, kc_64] at *; (first | omega | ((try simp (disch := omega) only [k_bm64] at *); (try simp (disch := omega) only [k_bm] at *); (try simp (disch := omega) only [k_bm] at *); omega) | (simp only [Int.bmod] at *; omega))))
set_option maxHeartbeats 4000000 in
set_option maxRecDepth 100000 in
theorem e_prac_ (l : Launch) (dC : Nat → ClassId) (dI : Nat → Nat → Nat) (cI cJ cQ : ClassId) (sz : Nat) (hx : Nat) (f1 : Int32) (w1 : Int32) (aLa : Nat) (aPa : Nat) (aGe : Nat) (aFl : Nat) (aTr : Nat) (aBe : Nat) (aLu : Nat) (aLo : Nat) (vSf : Nat) (vSm : Nat) (vCo : Nat) (vSh : Nat) (xs : Int32) (xl : Int32) (xf : Int32) (gL : Nat) (gR : Nat) (lf : Nat) (rt : Nat) (tgo : Int32) (tca : Int32) (tki : Int32) (tso : Int32) (tbe : Int32) (twe : Int32) (tle : Int32) (tan : Int32) (tco : Int32) (ten : Int32) (u0 : Int32) (u1 : Int32) (u2 : Int32) (u3 : Int32) (v0 : Int32) (v1 : Int32) (v2 : Int32) (v3 : Int32) (vLa : Nat) (l4 : Int32) (a4 : Int32) (n4 : Int32) (f4 : Nat → Int32) (vPa : Nat) (l7 : Int32) (a7 : Int32) (n7 : Int32) (f7 : Nat → Int32) (vGe : Nat) (l2 : Int32) (a2 : Int32) (n2 : Int32) (f2 : Nat → Int32) (vFl : Nat) (xn : Int32) (ff : Nat → Int32) (hh0 : 0 ≤ n4 ∧ n4 ≤ 24) (hh1 : 0 ≤ xn ∧ xn ≤ 8) : Met l yX11_practice (kW yX11_practice cX11_practice 7 (some .int)) { frames := 4, cells := 0, slots := 0, locals := 90 } (kPre dC dI cI cJ cQ sz [.ref hx, .int f1, .int w1] [(kX11 hx aLa aPa aGe aFl aTr aBe aLu aLo vSf vSm vCo vSh xs xl xf), (kX10 aTr aLa aPa aGe gL gR lf rt tgo tca tki tso tbe twe tle tan tco ten), (kX3 gL u0 u1 u2 u3), (kX3 gR v0 v1 v2 v3), (kX4 aLa vLa l4 a4 n4), (kAI vLa cI 24 f4), (kX7 aPa vPa l7 a7 n7), (kAI vPa cI 39 f7), (kX2 aGe vGe l2 a2 n2), (kAI vGe cI 23 f2), (kX1 aFl vFl xn), (kAI vFl cI 32 ff)]) (va_Qi (fun (r : Int32) (u : kS) => (r = if (0 ≤ f1 ∧ f1 < xn) ∧ 0 ≤ w1 ∧ w1 ≤ 1 then (if (kRc (fun x1 => kOC f4 f7 f2 n4 n7 n2 x1 (kIt xn ff f1 0) (kIt xn ff f1 1) (kIt xn ff f1 2) (kIt xn ff f1 3) (kAt 39 f7 ((5 * (kIt xn ff f1 0)) + 1))) (kfu 64 0) 0 7 (-1)).2 = -1 then -1 else if w1 = 0 then (kRc (fun x1 => kOC f4 f7 f2 n4 n7 n2 x1 (kIt xn ff f1 0) (kIt xn ff f1 1) (kIt xn ff f1 2) (kIt xn ff f1 3) (kAt 39 f7 ((5 * (kIt xn ff f1 0)) + 1))) (kfu 64 0) 0 7 (-1)).1 else (kRc (fun x1 => kOC f4 f7 f2 n4 n7 n2 x1 (kIt xn ff f1 0) (kIt xn ff f1 1) (kIt xn ff f1 2) (kIt xn ff f1 3) (kAt 39 f7 ((5 * (kIt xn ff f1 0)) + 1))) (kfu 64 0) 0 7 (-1)).2) else -2)) (fun (u : kS) t₀ => kB dC dI cI cJ cQ (va_A [(kX11 hx aLa aPa aGe aFl aTr aBe aLu aLo vSf vSm vCo vSh xs xl xf), (kX10 aTr aLa aPa aGe gL gR lf rt tgo tca tki tso tbe twe tle tan tco ten), (kX3 gL u0 u1 u2 u3), (kX3 gR v0 v1 v2 v3), (kX4 aLa vLa l4 a4 n4), (kAI vLa cI 24 f4), (kX7 aPa vPa l7 a7 n7), (kAI vPa cI 39 f7), (kX2 aGe vGe l2 a2 n2), (kAI vGe cI 23 f2), (kX1 aFl vFl xn), (kAI vFl cI 32 ff)] sz) [(kX11 hx aLa aPa aGe aFl aTr aBe aLu aLo vSf vSm vCo vSh xs xl xf), (kX10 aTr aLa aPa aGe gL gR (u.2.2.2.2 0) (u.2.2.2.2 1) (u.1 8) (u.1 9) (u.1 10) (u.1 11) (u.1 12) (u.1 13) (u.1 14) (u.1 15) (u.1 16) (u.1 17)), (kX3 gL (u.1 0) (u.1 1) (u.1 2) (u.1 3)), (kX3 gR (u.1 4) (u.1 5) (u.1 6) (u.1 7)), (kX4 aLa vLa l4 a4 n4), (kAI vLa cI 24 f4), (kX7 aPa vPa l7 a7 n7), (kAI vPa cI 39 f7), (kX2 aGe vGe l2 a2 n2), (kAI vGe cI 23 f2), (kX1 aFl vFl xn), (kAI vFl cI 32 ff)] t₀) (va_A [(kX11 hx aLa aPa aGe aFl aTr aBe aLu aLo vSf vSm vCo vSh xs xl xf), (kX10 aTr aLa aPa aGe gL gR lf rt tgo tca tki tso tbe twe tle tan tco ten), (kX3 gL u0 u1 u2 u3), (kX3 gR v0 v1 v2 v3), (kX4 aLa vLa l4 a4 n4), (kAI vLa cI 24 f4), (kX7 aPa vPa l7 a7 n7), (kAI vPa cI 39 f7), (kX2 aGe vGe l2 a2 n2), (kAI vGe cI 23 f2), (kX1 aFl vFl xn), (kAI vFl cI 32 ff)] sz)) 0 0 (va_A [(kX11 hx aLa aPa aGe aFl aTr aBe aLu aLo vSf vSm vCo vSh xs xl xf), (kX10 aTr aLa aPa aGe gL gR lf rt tgo tca tki tso tbe twe tle tan tco ten), (kX3 gL u0 u1 u2 u3), (kX3 gR v0 v1 v2 v3), (kX4 aLa vLa l4 a4 n4), (kAI vLa cI 24 f4), (kX7 aPa vPa l7 a7 n7), (kAI vPa cI 39 f7), (kX2 aGe vGe l2 a2 n2), (kAI vGe cI 23 f2), (kX1 aFl vFl xn), (kAI vFl cI 32 ff)] sz) := by
  refine Met.ofW (cc := cX11_practice) (maxL := 7) (ret := (some .int)) (by decide) rfl ?_
  intro p₀ e₀ s₀ m₀ args below meth c₀ s₁ B hml hv₀
  obtain ⟨rfl, hsz, hP, hK, hD0, hN⟩ := hv₀
  have hx₀ := B.exec
  have hb := B.bytes
  have hr := B.returns
  have hts := atoms_spec (ws := (kW yX11_practice cX11_practice 7 (some .int))) B.pre
  have hts := fun w h => hts w (List.mem_cons_of_mem _ h)
  have hown : s₀.vm.findClass RX11 = some m₀.cls := findClass_of_methodNamed B.named
  have hlocks := B.notSynchronized
  subst hsz
  have hD := hD0.self (sz := s₀.heap.size)
  generalize hAe : va_A [(kX11 hx aLa aPa aGe aFl aTr aBe aLu aLo vSf vSm vCo vSh xs xl xf), (kX10 aTr aLa aPa aGe gL gR lf rt tgo tca tki tso tbe twe tle tan tco ten), (kX3 gL u0 u1 u2 u3), (kX3 gR v0 v1 v2 v3), (kX4 aLa vLa l4 a4 n4), (kAI vLa cI 24 f4), (kX7 aPa vPa l7 a7 n7), (kAI vPa cI 39 f7), (kX2 aGe vGe l2 a2 n2), (kAI vGe cI 23 f2), (kX1 aFl vFl xn), (kAI vFl cI 32 ff)] s₀.heap.size = A at hD ⊢
  have hA : ∀ q : Nat, s₀.heap.size ≤ q → A q := fun q h => by rw [← hAe]; exact Or.inr h
  have hS : va_S A s₀.heap s₀.heap [] := va_S.rf
  have hP : va_P (dC, dI) vwCl [(kX11 hx aLa aPa aGe aFl aTr aBe aLu aLo vSf vSm vCo vSh xs xl xf), (kX10 aTr aLa aPa aGe gL gR lf rt tgo tca tki tso tbe twe tle tan tco ten), (kX3 gL u0 u1 u2 u3), (kX3 gR v0 v1 v2 v3), (kX4 aLa vLa l4 a4 n4), (kAI vLa cI 24 f4), (kX7 aPa vPa l7 a7 n7), (kAI vPa cI 39 f7), (kX2 aGe vGe l2 a2 n2), (kAI vGe cI 23 f2), (kX1 aFl vFl xn), (kAI vFl cI 32 ff)] s₀.heap := hP
  have hl := lv_entry ([.ref hx, .int f1, .int w1]) (n := 7) (Nat.le_of_ble_eq_true rfl)
  rw [lg_entry_eq]
  generalize (lg_sl ([.ref hx, .int f1, .int w1]) ++ List.replicate (7 - (lg_sl ([.ref hx, .int f1, .int w1])).length) Slot.unset).toArray = ls at hl ⊢
  have hl : lv_has ls 7 [(0, .ref hx), (1, .int f1), (2, .int w1)] := hl
  obtain ⟨H, hH⟩ : ∃ z : Heap, z = s₀.heap := ⟨_, rfl⟩
  rw [← hH] at hP
  have hS : va_S A s₀.heap H [] := by rw [hH]; exact hS
  refine k_heap hH ?_
  have hD : va_D A [(kX11 hx aLa aPa aGe aFl aTr aBe aLu aLo vSf vSm vCo vSh xs xl xf), (kX10 aTr aLa aPa aGe gL gR lf rt tgo tca tki tso tbe twe tle tan tco ten), (kX3 gL u0 u1 u2 u3), (kX3 gR v0 v1 v2 v3), (kX4 aLa vLa l4 a4 n4), (kAI vLa cI 24 f4), (kX7 aPa vPa l7 a7 n7), (kAI vPa cI 39 f7), (kX2 aGe vGe l2 a2 n2), (kAI vGe cI 23 f2), (kX1 aFl vFl xn), (kAI vFl cI 32 ff)] := hD
  obtain ⟨locs, hlo⟩ : ∃ z : List Loc, z = [] := ⟨_, rfl⟩
  rw [← hlo] at hS ⊢
  clear hlo hH hAe hD0
  refine lv_aload_n hx₀ hb dX11_practice_0_a.1 rfl (lv_at hl 0 rfl) ?_
  refine va_get (D := (dC, dI)) (ci := 10) (v := .ref aFl) (C := RX11) (T := TX11) (N := 15) hx₀ hb hts inlX11 hown hK hP 0 rfl rfl 3 (by decide) (hts (.fieldLink RX11 33 "BittenStick" "flights" "LBittenStick$Flights;") wd_27) (fun _ h9 => h9) rfl dX11_practice_0_a.2.1 ?_
  refine lv_iload_n hx₀ hb dX11_practice_0_a.2.2.1 rfl (lv_at hl 1 rfl) ?_
  obtain ⟨hPc, hDc, hFc, hC⟩ := k_cw (wc := [(kX1 aFl vFl xn)]) hP hD hS hA [10] (by decide +kernel) rfl
  refine va_calli (va_runV (As := [.int f1]) (rest := []) ⟨hx₀, hb, hml, hown, hts⟩ (j_fHas l dC dI cI cJ cQ H.size aFl f1 vFl xn) (cwV 1 hts (kGV wd_426 wd_423 wd_424 wd_425 wd_26) rfl rfl rfl (by decide +kernel) ⟨Nat.le_of_ble_eq_true rfl, Nat.le_of_ble_eq_true rfl⟩) (k_preV1 (q0 := 0) hK hPc hDc hN rfl) rfl rfl hl.1 rfl (lv_room (Nat.le_of_ble_eq_true rfl)) dX11_practice_0_a.2.2.2.1 ⟨by decide +kernel, by decide +kernel⟩) hS (fun q _ h => hFc q h) hFc (fun r_1 u₀ t₀ H1 locs ht hvm hw hB hz1 hk1 hS => ?_)
  obtain ⟨hP1, hK1, hD1⟩ := hB
  rw [ht] at hP1
  have hJ := k_jn (wr := [(kX11 hx aLa aPa aGe aFl aTr aBe aLu aLo vSf vSm vCo vSh xs xl xf), (kX10 aTr aLa aPa aGe gL gR lf rt tgo tca tki tso tbe twe tle tan tco ten), (kX3 gL u0 u1 u2 u3), (kX3 gR v0 v1 v2 v3), (kX4 aLa vLa l4 a4 n4), (kAI vLa cI 24 f4), (kX7 aPa vPa l7 a7 n7), (kAI vPa cI 39 f7), (kX2 aGe vGe l2 a2 n2), (kAI vGe cI 23 f2), (kAI vFl cI 32 ff)]) (wt := [(kX11 hx aLa aPa aGe aFl aTr aBe aLu aLo vSf vSm vCo vSh xs xl xf), (kX10 aTr aLa aPa aGe gL gR lf rt tgo tca tki tso tbe twe tle tan tco ten), (kX3 gL u0 u1 u2 u3), (kX3 gR v0 v1 v2 v3), (kX4 aLa vLa l4 a4 n4), (kAI vLa cI 24 f4), (kX7 aPa vPa l7 a7 n7), (kAI vPa cI 39 f7), (kX2 aGe vGe l2 a2 n2), (kAI vGe cI 23 f2), (kAI vFl cI 32 ff), (kX1 aFl vFl xn)]) hP hD hC [0, 1, 2, 3, 4, 5, 6, 7, 8, 9, 11] rfl (by decide +kernel) (by decide +kernel) hk1 hFc hP1 hD1 rfl
  clear hP hD hPc hDc hFc hC hP1 hD1 hK1 hz1 hk1 hvm ht
  obtain ⟨hP, hD⟩ := hJ
  generalize H1 = H at hP hS ⊢
  try dsimp only at hw
  by_cases c_2 : 0 ≤ f1 ∧ f1 < xn
  · rw [if_pos c_2] at hw
    refine k_topi (v := 1) hw ?_
    refine lv_if_eq (tgt := 20) hx₀ hb dX11_practice_0_a.2.2.2.2.1 (by decide) (fun c9 => absurd c9 (by decide +kernel)) (fun _ => ?_)
    refine lv_iload_n hx₀ hb dX11_practice_0_a.2.2.2.2.2.1 rfl (lv_at hl 2 rfl) ?_
    refine lv_if_lt (tgt := 20) hx₀ hb dX11_practice_0_a.2.2.2.2.2.2.1 (by decide) (fun c_3 => ?_) (fun c_3 => ?_)
    · refine lv_bipush (v := (-2)) hx₀ hb dX11_practice_0_a.2.2.2.2.2.2.2.2.2.2.1 (by decide +kernel) ?_
      obtain ⟨hP9, hD9⟩ := k_c2 (wc := [(kX11 hx aLa aPa aGe aFl aTr aBe aLu aLo vSf vSm vCo vSh xs xl xf), (kX10 aTr aLa aPa aGe gL gR lf rt tgo tca tki tso tbe twe tle tan tco ten), (kX3 gL u0 u1 u2 u3), (kX3 gR v0 v1 v2 v3), (kX4 aLa vLa l4 a4 n4), (kAI vLa cI 24 f4), (kX7 aPa vPa l7 a7 n7), (kAI vPa cI 39 f7), (kX2 aGe vGe l2 a2 n2), (kAI vGe cI 23 f2), (kX1 aFl vFl xn), (kAI vFl cI 32 ff)]) hP hD [0, 1, 2, 3, 4, 5, 6, 7, 8, 9, 11, 10] (by decide +kernel) rfl
      exact W.iret (v := (-2)) hx₀ hb hr (fun t₀ ht hW => ⟨⟨(-2), (k_fn [u0, u1, u2, u3, v0, v1, v2, v3, tgo, tca, tki, tso, tbe, twe, tle, tan, tco, ten], k_fa [], k_fl [], k_fL [], k_fp [lf, rt]), rfl, (if_neg (show ¬ ((0 ≤ f1 ∧ f1 < xn) ∧ 0 ≤ w1 ∧ w1 ≤ 1) from (fun z => (Int32.not_le.mpr c_3) z.2.1))).symm, by rw [ht]; exact hP9, va_K.moved hW.alike hK, hD9⟩, hS.F ht⟩) hS.2.2 dX11_practice_0_a.2.2.2.2.2.2.2.2.2.2.2.1
    · refine lv_iload_n hx₀ hb dX11_practice_0_a.2.2.2.2.2.2.2.1 rfl (lv_at hl 2 rfl) ?_
      refine lv_iconst (v := 1) hx₀ hb dX11_practice_0_a.2.2.2.2.2.2.2.2.1 (by decide +kernel) ?_
      refine lv_icmp_le (tgt := 23) hx₀ hb dX11_practice_0_a.2.2.2.2.2.2.2.2.2.1 (by decide) (fun c_4 => ?_) (fun c_4 => ?_)
      · refine lv_aload_n hx₀ hb dX11_practice_0_a.2.2.2.2.2.2.2.2.2.2.2.2.1 rfl (lv_at hl 0 rfl) ?_
        refine lv_iload_n hx₀ hb dX11_practice_0_a.2.2.2.2.2.2.2.2.2.2.2.2.2.1 rfl (lv_at hl 1 rfl) ?_
        obtain ⟨hPc, hDc, hFc, hC⟩ := k_cw (wc := [(kX11 hx aLa aPa aGe aFl aTr aBe aLu aLo vSf vSm vCo vSh xs xl xf), (kX10 aTr aLa aPa aGe gL gR lf rt tgo tca tki tso tbe twe tle tan tco ten), (kX3 gL u0 u1 u2 u3), (kX3 gR v0 v1 v2 v3), (kX4 aLa vLa l4 a4 n4), (kAI vLa cI 24 f4), (kX7 aPa vPa l7 a7 n7), (kAI vPa cI 39 f7), (kX2 aGe vGe l2 a2 n2), (kAI vGe cI 23 f2), (kX1 aFl vFl xn), (kAI vFl cI 32 ff)]) hP hD hS hA [0, 1, 2, 3, 4, 5, 6, 7, 8, 9, 11, 10] (by decide +kernel) rfl
        refine va_callv (va_runV (As := [.int f1]) (rest := []) ⟨hx₀, hb, hml, hown, hts⟩ (j_prepare l dC dI cI cJ cQ H.size hx f1 aLa aPa aGe aFl aTr aBe aLu aLo vSf vSm vCo vSh xs xl xf gL gR lf rt tgo tca tki tso tbe twe tle tan tco ten u0 u1 u2 u3 v0 v1 v2 v3 vLa l4 a4 n4 f4 vPa l7 a7 n7 f7 vGe l2 a2 n2 f2 vFl xn ff (hh0) (hh1)) (cwV 1 hts (kGV wd_430 wd_427 wd_428 wd_429 wd_2) rfl rfl rfl (by decide +kernel) ⟨Nat.le_of_ble_eq_true rfl, Nat.le_of_ble_eq_true rfl⟩) (k_preV10 (q0 := 0) hK hPc hDc hN rfl) rfl rfl hl.1 rfl (lv_room (Nat.le_of_ble_eq_true rfl)) dX11_practice_0_a.2.2.2.2.2.2.2.2.2.2.2.2.2.2.1 ⟨by decide +kernel, by decide +kernel⟩) hS (fun q _ h => hFc q h) hFc (fun u₀ t₀ H1 locs ht hvm hw hB hz1 hk1 hS => ?_)
        obtain ⟨g_6, ga_7, gl_8, gb_9, gp_10⟩ := u₀
        obtain ⟨hP1, hK1, hD1⟩ := hB
        rw [ht] at hP1
        have hJ := k_jn (wr := []) (wt := [(kX11 hx aLa aPa aGe aFl aTr aBe aLu aLo vSf vSm vCo vSh xs xl xf), (kX10 aTr aLa aPa aGe gL gR (gp_10 0) (gp_10 1) (g_6 8) (g_6 9) (g_6 10) (g_6 11) (g_6 12) (g_6 13) (g_6 14) (g_6 15) (g_6 16) (g_6 17)), (kX3 gL (g_6 0) (g_6 1) (g_6 2) (g_6 3)), (kX3 gR (g_6 4) (g_6 5) (g_6 6) (g_6 7)), (kX4 aLa vLa l4 a4 n4), (kAI vLa cI 24 f4), (kX7 aPa vPa l7 a7 n7), (kAI vPa cI 39 f7), (kX2 aGe vGe l2 a2 n2), (kAI vGe cI 23 f2), (kX1 aFl vFl xn), (kAI vFl cI 32 ff)]) hP hD hC [] rfl (by decide +kernel) (by decide +kernel) hk1 hFc hP1 hD1 rfl
        clear hP hD hPc hDc hFc hC hP1 hD1 hK1 hz1 hk1 hvm ht
        obtain ⟨hP, hD⟩ := hJ
        generalize H1 = H at hP hS ⊢
        try dsimp only at hw
        obtain ⟨c_11, c_12, c_13, c_14, c_15, c_16, c_17⟩ := hw
        refine lv_bipush (v := 7) hx₀ hb dX11_practice_0_a.2.2.2.2.2.2.2.2.2.2.2.2.2.2.2 (by decide +kernel) ?_
        refine lv_istore_n (lv' := [(3, .int 7), (0, .ref hx), (1, .int f1), (2, .int w1)]) hx₀ hb dX11_practice_30_a.1 rfl hl (by decide) rfl (fun ls hl => ?_)
        refine lv_iconst (v := (-1)) hx₀ hb dX11_practice_30_a.2.1 (by decide +kernel) ?_
        refine lv_istore (lv' := [(4, .int (-1)), (3, .int 7), (0, .ref hx), (1, .int f1), (2, .int w1)]) hx₀ hb dX11_practice_30_a.2.2.1 hl (by decide) rfl (fun ls hl => ?_)
        refine lv_iconst (v := 0) hx₀ hb dX11_practice_30_a.2.2.2.1 (by decide +kernel) ?_
        refine lv_istore (lv' := [(5, .int 0), (4, .int (-1)), (3, .int 7), (0, .ref hx), (1, .int f1), (2, .int w1)]) hx₀ hb dX11_practice_30_a.2.2.2.2.1 hl (by decide) rfl (fun ls hl => ?_)
        refine (?keyz18 : ∀ (jz18 : Nat) (fwz18 : Int32) (biz18 : Int32) (clz18 : Int32) (yleaz18 : Int32) (yangz18 : Int32) (ycolz18 : Int32) (yendz18 : Int32) (H : Heap) (locs : List Loc) (ls : Array Slot), (0 ≤ clz18 ∧ clz18 ≤ 64) → (k_rc (fun x1 => kOC f4 f7 f2 n4 n7 n2 x1 (kIt xn ff f1 0) (kIt xn ff f1 1) (kIt xn ff f1 2) (kIt xn ff f1 3) (kAt 39 f7 ((5 * (kIt xn ff f1 0)) + 1))) clz18 fwz18 biz18 (kRc (fun x1 => kOC f4 f7 f2 n4 n7 n2 x1 (kIt xn ff f1 0) (kIt xn ff f1 1) (kIt xn ff f1 2) (kIt xn ff f1 3) (kAt 39 f7 ((5 * (kIt xn ff f1 0)) + 1))) (kfu 64 0) 0 7 (-1))) → ((64 - clz18.toInt).toNat = jz18) → va_P (dC, dI) vwCl [(kX11 hx aLa aPa aGe aFl aTr aBe aLu aLo vSf vSm vCo vSh xs xl xf), (kX10 aTr aLa aPa aGe gL gR (gp_10 0) (gp_10 1) (g_6 8) (g_6 9) (g_6 10) (g_6 11) (g_6 12) (g_6 13) yleaz18 yangz18 ycolz18 yendz18), (kX3 gL (g_6 0) (g_6 1) (g_6 2) (g_6 3)), (kX3 gR (g_6 4) (g_6 5) (g_6 6) (g_6 7)), (kX4 aLa vLa l4 a4 n4), (kAI vLa cI 24 f4), (kX7 aPa vPa l7 a7 n7), (kAI vPa cI 39 f7), (kX2 aGe vGe l2 a2 n2), (kAI vGe cI 23 f2), (kX1 aFl vFl xn), (kAI vFl cI 32 ff)] H → va_D A [(kX11 hx aLa aPa aGe aFl aTr aBe aLu aLo vSf vSm vCo vSh xs xl xf), (kX10 aTr aLa aPa aGe gL gR (gp_10 0) (gp_10 1) (g_6 8) (g_6 9) (g_6 10) (g_6 11) (g_6 12) (g_6 13) yleaz18 yangz18 ycolz18 yendz18), (kX3 gL (g_6 0) (g_6 1) (g_6 2) (g_6 3)), (kX3 gR (g_6 4) (g_6 5) (g_6 6) (g_6 7)), (kX4 aLa vLa l4 a4 n4), (kAI vLa cI 24 f4), (kX7 aPa vPa l7 a7 n7), (kAI vPa cI 39 f7), (kX2 aGe vGe l2 a2 n2), (kAI vGe cI 23 f2), (kX1 aFl vFl xn), (kAI vFl cI 32 ff)] → va_S A s₀.heap H locs → lv_has ls 7 [(5, .int clz18), (4, .int biz18), (3, .int fwz18), (0, .ref hx), (1, .int f1), (2, .int w1)] → W p₀ l e₀ _ s₀ m₀ _ below meth c₀ H locs _ _ _ (F0 m₀ 37 ls [])) _ (7 : Int32) (-1 : Int32) (0 : Int32) (g_6 14) (g_6 15) (g_6 16) (g_6 17) H locs ls (show 0 ≤ (0 : Int32) ∧ (0 : Int32) ≤ 64 from ⟨(by decide), (by decide)⟩) (rfl) rfl hP hD hS hl
        clear hP hD hS hl
        intro jz18
        induction jz18 using Nat.strongRecOn with
        | ind jz18 ihz18 =>
          intro fwz18 biz18 clz18 yleaz18 yangz18 ycolz18 yendz18 H locs ls hiz18_0 hiz18_1 hjz18 hP hD hS hl
          refine lv_iload hx₀ hb dX11_practice_30_a.2.2.2.2.2.1 (lv_at hl 0 rfl) ?_
          refine lv_bipush (v := 64) hx₀ hb dX11_practice_30_a.2.2.2.2.2.2.1 (by decide +kernel) ?_
          refine lv_icmp_ge (tgt := 105) hx₀ hb dX11_practice_30_a.2.2.2.2.2.2.2.1 (by decide) (fun c_19 => ?_) (fun c_19 => ?_)
          · refine lv_iload hx₀ hb dX11_practice_95_a.2.2.2.2.1 (lv_at hl 1 rfl) ?_
            refine lv_iconst (v := (-1)) hx₀ hb dX11_practice_95_a.2.2.2.2.2.1 (by decide +kernel) ?_
            refine lv_icmp_ne (tgt := 113) hx₀ hb dX11_practice_95_a.2.2.2.2.2.2.1 (by decide) (fun c_20 => ?_) (fun c_20 => ?_)
            · refine lv_iload_n hx₀ hb dX11_practice_95_a.2.2.2.2.2.2.2.2.2.1 rfl (lv_at hl 5 rfl) ?_
              refine lv_if_ne (tgt := 121) hx₀ hb dX11_practice_95_a.2.2.2.2.2.2.2.2.2.2.1 (by decide) (fun c_21 => ?_) (fun c_21 => ?_)
              · refine lv_iload hx₀ hb dX11_practice_95_a.2.2.2.2.2.2.2.2.2.2.2.2.2.1 (lv_at hl 1 rfl) ?_
                obtain ⟨hP9, hD9⟩ := k_c2 (wc := [(kX11 hx aLa aPa aGe aFl aTr aBe aLu aLo vSf vSm vCo vSh xs xl xf), (kX10 aTr aLa aPa aGe gL gR (gp_10 0) (gp_10 1) (g_6 8) (g_6 9) (g_6 10) (g_6 11) (g_6 12) (g_6 13) yleaz18 yangz18 ycolz18 yendz18), (kX3 gL (g_6 0) (g_6 1) (g_6 2) (g_6 3)), (kX3 gR (g_6 4) (g_6 5) (g_6 6) (g_6 7)), (kX4 aLa vLa l4 a4 n4), (kAI vLa cI 24 f4), (kX7 aPa vPa l7 a7 n7), (kAI vPa cI 39 f7), (kX2 aGe vGe l2 a2 n2), (kAI vGe cI 23 f2), (kX1 aFl vFl xn), (kAI vFl cI 32 ff)]) hP hD [0, 1, 2, 3, 4, 5, 6, 7, 8, 9, 10, 11] (by decide +kernel) rfl
                exact W.iret (v := biz18) hx₀ hb hr (fun t₀ ht hW => ⟨⟨biz18, (k_fn [(g_6 0), (g_6 1), (g_6 2), (g_6 3), (g_6 4), (g_6 5), (g_6 6), (g_6 7), (g_6 8), (g_6 9), (g_6 10), (g_6 11), (g_6 12), (g_6 13), yleaz18, yangz18, ycolz18, yendz18], k_fa [], k_fl [], k_fL [], k_fp [(gp_10 0), (gp_10 1)]), rfl, (by rw [if_pos (show (0 ≤ f1 ∧ f1 < xn) ∧ 0 ≤ w1 ∧ w1 ≤ 1 from ⟨⟨c_2.1, c_2.2⟩, (Int32.not_lt.mp c_3), c_4⟩), if_neg (fun z => c_20 ((kRc_e hiz18_1 c_19).2.trans z)), if_neg c_21]; exact (kRc_e hiz18_1 c_19).2), by rw [ht]; exact hP9, va_K.moved hW.alike hK, hD9⟩, hS.F ht⟩) hS.2.2 dX11_practice_95_a.2.2.2.2.2.2.2.2.2.2.2.2.2.2
              · refine lv_iload_n hx₀ hb dX11_practice_95_a.2.2.2.2.2.2.2.2.2.2.2.1 rfl (lv_at hl 2 rfl) ?_
                refine lv_goto (tgt := 123) hx₀ hb dX11_practice_95_a.2.2.2.2.2.2.2.2.2.2.2.2.1 (by decide) ?_
                obtain ⟨hP9, hD9⟩ := k_c2 (wc := [(kX11 hx aLa aPa aGe aFl aTr aBe aLu aLo vSf vSm vCo vSh xs xl xf), (kX10 aTr aLa aPa aGe gL gR (gp_10 0) (gp_10 1) (g_6 8) (g_6 9) (g_6 10) (g_6 11) (g_6 12) (g_6 13) yleaz18 yangz18 ycolz18 yendz18), (kX3 gL (g_6 0) (g_6 1) (g_6 2) (g_6 3)), (kX3 gR (g_6 4) (g_6 5) (g_6 6) (g_6 7)), (kX4 aLa vLa l4 a4 n4), (kAI vLa cI 24 f4), (kX7 aPa vPa l7 a7 n7), (kAI vPa cI 39 f7), (kX2 aGe vGe l2 a2 n2), (kAI vGe cI 23 f2), (kX1 aFl vFl xn), (kAI vFl cI 32 ff)]) hP hD [0, 1, 2, 3, 4, 5, 6, 7, 8, 9, 10, 11] (by decide +kernel) rfl
                exact W.iret (v := fwz18) hx₀ hb hr (fun t₀ ht hW => ⟨⟨fwz18, (k_fn [(g_6 0), (g_6 1), (g_6 2), (g_6 3), (g_6 4), (g_6 5), (g_6 6), (g_6 7), (g_6 8), (g_6 9), (g_6 10), (g_6 11), (g_6 12), (g_6 13), yleaz18, yangz18, ycolz18, yendz18], k_fa [], k_fl [], k_fL [], k_fp [(gp_10 0), (gp_10 1)]), rfl, (by rw [if_pos (show (0 ≤ f1 ∧ f1 < xn) ∧ 0 ≤ w1 ∧ w1 ≤ 1 from ⟨⟨c_2.1, c_2.2⟩, (by rw [show w1 = 0 from c_21]; decide), c_4⟩), if_neg (fun z => c_20 ((kRc_e hiz18_1 c_19).2.trans z)), if_pos c_21]; exact (kRc_e hiz18_1 c_19).1), by rw [ht]; exact hP9, va_K.moved hW.alike hK, hD9⟩, hS.F ht⟩) hS.2.2 dX11_practice_95_a.2.2.2.2.2.2.2.2.2.2.2.2.2.2
            · refine lv_iconst (v := (-1)) hx₀ hb dX11_practice_95_a.2.2.2.2.2.2.2.1 (by decide +kernel) ?_
              obtain ⟨hP9, hD9⟩ := k_c2 (wc := [(kX11 hx aLa aPa aGe aFl aTr aBe aLu aLo vSf vSm vCo vSh xs xl xf), (kX10 aTr aLa aPa aGe gL gR (gp_10 0) (gp_10 1) (g_6 8) (g_6 9) (g_6 10) (g_6 11) (g_6 12) (g_6 13) yleaz18 yangz18 ycolz18 yendz18), (kX3 gL (g_6 0) (g_6 1) (g_6 2) (g_6 3)), (kX3 gR (g_6 4) (g_6 5) (g_6 6) (g_6 7)), (kX4 aLa vLa l4 a4 n4), (kAI vLa cI 24 f4), (kX7 aPa vPa l7 a7 n7), (kAI vPa cI 39 f7), (kX2 aGe vGe l2 a2 n2), (kAI vGe cI 23 f2), (kX1 aFl vFl xn), (kAI vFl cI 32 ff)]) hP hD [0, 1, 2, 3, 4, 5, 6, 7, 8, 9, 10, 11] (by decide +kernel) rfl
              exact W.iret (v := (-1)) hx₀ hb hr (fun t₀ ht hW => ⟨⟨(-1), (k_fn [(g_6 0), (g_6 1), (g_6 2), (g_6 3), (g_6 4), (g_6 5), (g_6 6), (g_6 7), (g_6 8), (g_6 9), (g_6 10), (g_6 11), (g_6 12), (g_6 13), yleaz18, yangz18, ycolz18, yendz18], k_fa [], k_fl [], k_fL [], k_fp [(gp_10 0), (gp_10 1)]), rfl, (by rw [if_pos (show (0 ≤ f1 ∧ f1 < xn) ∧ 0 ≤ w1 ∧ w1 ≤ 1 from ⟨⟨c_2.1, c_2.2⟩, (Int32.not_lt.mp c_3), c_4⟩), if_pos ((kRc_e hiz18_1 c_19).2.symm.trans c_20)]), by rw [ht]; exact hP9, va_K.moved hW.alike hK, hD9⟩, hS.F ht⟩) hS.2.2 dX11_practice_95_a.2.2.2.2.2.2.2.2.1
          · refine lv_iload hx₀ hb dX11_practice_30_a.2.2.2.2.2.2.2.2.1 (lv_at hl 0 rfl) ?_
            obtain ⟨hPc, hDc, hFc, hC⟩ := k_cw (wc := []) hP hD hS hA [] (by decide +kernel) rfl
            refine va_calli (va_runS (As := [.int clz18]) (rest := []) ⟨hx₀, hb, hml, hown, hts⟩ (e_bitCount l dC dI cI cJ cQ H.size clz18 (lf_e_prac__1 clz18 jz18 hiz18_0 hjz18 c_19)) (va_cwS 1 hts (kGS wd_657 wd_654 wd_655 wd_656) rfl rfl rfl (by decide +kernel) ⟨Nat.le_of_ble_eq_true rfl, Nat.le_of_ble_eq_true rfl⟩) (k_preS hK hPc hDc hN) rfl rfl hl.1 rfl (lv_room (Nat.le_of_ble_eq_true rfl)) dX11_practice_30_a.2.2.2.2.2.2.2.2.2.1 ⟨by decide +kernel, by decide +kernel⟩) hS (fun q _ h => hFc q h) hFc (fun r_22 u₀ t₀ H1 locs ht hvm hw hB hz1 hk1 hS => ?_)
            obtain ⟨hP1, hK1, hD1⟩ := hB
            rw [ht] at hP1
            have hJ := k_jn (wr := [(kX11 hx aLa aPa aGe aFl aTr aBe aLu aLo vSf vSm vCo vSh xs xl xf), (kX10 aTr aLa aPa aGe gL gR (gp_10 0) (gp_10 1) (g_6 8) (g_6 9) (g_6 10) (g_6 11) (g_6 12) (g_6 13) yleaz18 yangz18 ycolz18 yendz18), (kX3 gL (g_6 0) (g_6 1) (g_6 2) (g_6 3)), (kX3 gR (g_6 4) (g_6 5) (g_6 6) (g_6 7)), (kX4 aLa vLa l4 a4 n4), (kAI vLa cI 24 f4), (kX7 aPa vPa l7 a7 n7), (kAI vPa cI 39 f7), (kX2 aGe vGe l2 a2 n2), (kAI vGe cI 23 f2), (kX1 aFl vFl xn), (kAI vFl cI 32 ff)]) (wt := [(kX11 hx aLa aPa aGe aFl aTr aBe aLu aLo vSf vSm vCo vSh xs xl xf), (kX10 aTr aLa aPa aGe gL gR (gp_10 0) (gp_10 1) (g_6 8) (g_6 9) (g_6 10) (g_6 11) (g_6 12) (g_6 13) yleaz18 yangz18 ycolz18 yendz18), (kX3 gL (g_6 0) (g_6 1) (g_6 2) (g_6 3)), (kX3 gR (g_6 4) (g_6 5) (g_6 6) (g_6 7)), (kX4 aLa vLa l4 a4 n4), (kAI vLa cI 24 f4), (kX7 aPa vPa l7 a7 n7), (kAI vPa cI 39 f7), (kX2 aGe vGe l2 a2 n2), (kAI vGe cI 23 f2), (kX1 aFl vFl xn), (kAI vFl cI 32 ff)]) hP hD hC [0, 1, 2, 3, 4, 5, 6, 7, 8, 9, 10, 11] rfl (by decide +kernel) (by decide +kernel) hk1 hFc hP1 hD1 rfl
            clear hP hD hPc hDc hFc hC hP1 hD1 hK1 hz1 hk1 hvm ht
            obtain ⟨hP, hD⟩ := hJ
            generalize H1 = H at hP hS ⊢
            try dsimp only at hw
            refine k_topi (v := kPp clz18) hw ?_
            refine lv_istore (lv' := [(6, .int (kPp clz18)), (5, .int clz18), (4, .int biz18), (3, .int fwz18), (0, .ref hx), (1, .int f1), (2, .int w1)]) hx₀ hb dX11_practice_30_a.2.2.2.2.2.2.2.2.2.2.1 hl (by decide) rfl (fun ls hl => ?_)
            refine lv_iload hx₀ hb dX11_practice_30_a.2.2.2.2.2.2.2.2.2.2.2.1 (lv_at hl 0 rfl) ?_
            refine lv_iload_n hx₀ hb dX11_practice_30_a.2.2.2.2.2.2.2.2.2.2.2.2.1 rfl (lv_at hl 3 rfl) ?_
            refine lv_icmp_ge (tgt := 99) hx₀ hb dX11_practice_30_a.2.2.2.2.2.2.2.2.2.2.2.2.2.1 (by decide) (fun c_23 => ?_) (fun c_23 => ?_)
            · refine lv_iinc (v := clz18 + 1) (lv' := [(5, .int (clz18 + 1)), (6, .int (kPp clz18)), (4, .int biz18), (3, .int fwz18), (0, .ref hx), (1, .int f1), (2, .int w1)]) hx₀ hb dX11_practice_95_a.2.2.1 hl (k := 1) rfl rfl (by decide) rfl (fun ls hl => ?_)
              refine lv_goto (tgt := 37) hx₀ hb dX11_practice_95_a.2.2.2.1 (by decide) ?_
              exact ihz18 _ (lf_g_practiceOf_2 clz18 jz18 hiz18_0 hjz18 c_19) fwz18 biz18 (clz18 + 1) yleaz18 yangz18 ycolz18 yendz18 _ _ _ (lf_g_practiceOf_1 clz18 jz18 hiz18_0 hjz18 c_19) (kRc_o hiz18_1 c_19 rfl (Int32.not_lt.mpr c_23)) rfl (hP.sub [0, 1, 2, 3, 4, 5, 6, 7, 8, 9, 10, 11] rfl) (hD.sub [0, 1, 2, 3, 4, 5, 6, 7, 8, 9, 10, 11] (by decide +kernel) rfl) hS (lv_sub hl [0, 2, 3, 4, 5, 6] rfl)
            · refine lv_aload_n hx₀ hb dX11_practice_30_a.2.2.2.2.2.2.2.2.2.2.2.2.2.2.1 rfl (lv_at hl 4 rfl) ?_
              refine va_get (D := (dC, dI)) (ci := 10) (v := .ref aTr) (C := RX11) (T := TX11) (N := 15) hx₀ hb hts inlX11 hown hK hP 0 rfl rfl 4 (by decide) (hts (.fieldLink RX11 42 "BittenStick" "trip" "LBittenStick$Trip;") wd_31) (fun _ h9 => h9) rfl dX11_practice_30_a.2.2.2.2.2.2.2.2.2.2.2.2.2.2.2 ?_
              refine lv_iload hx₀ hb dX11_practice_61_a.1 (lv_at hl 1 rfl) ?_
              refine va_put (D := (dC, dI)) (ci := 9) (v := .int clz18) (ty := .int) (C := RX10) (T := TX10) (N := 17) hx₀ hb hts inlX10 tyX10 tyX10_ok nmX10 hown hK hP hD hS 1 rfl rfl 13 (by decide) (hts (.fieldLink RX11 184 "BittenStick$Trip" "learned" "I") wd_431) (fun _ h9 => h9) rfl (by decide +kernel) rfl rfl (Nat.le_of_ble_eq_true rfl) dX11_practice_61_a.2.1 ?_
              clear hP hD hS
              intro H locs hP hD hS
              replace hP := k_w2 (wt := [(kX11 hx aLa aPa aGe aFl aTr aBe aLu aLo vSf vSm vCo vSh xs xl xf), (kX10 aTr aLa aPa aGe gL gR (gp_10 0) (gp_10 1) (g_6 8) (g_6 9) (g_6 10) (g_6 11) (g_6 12) (g_6 13) clz18 yangz18 ycolz18 yendz18), (kX3 gL (g_6 0) (g_6 1) (g_6 2) (g_6 3)), (kX3 gR (g_6 4) (g_6 5) (g_6 6) (g_6 7)), (kX4 aLa vLa l4 a4 n4), (kAI vLa cI 24 f4), (kX7 aPa vPa l7 a7 n7), (kAI vPa cI 39 f7), (kX2 aGe vGe l2 a2 n2), (kAI vGe cI 23 f2), (kX1 aFl vFl xn), (kAI vFl cI 32 ff)]) hP hD rfl
              replace hD := hP.2
              replace hP := hP.1
              refine lv_aload_n hx₀ hb dX11_practice_61_a.2.2.1 rfl (lv_at hl 4 rfl) ?_
              refine va_get (D := (dC, dI)) (ci := 10) (v := .ref aTr) (C := RX11) (T := TX11) (N := 15) hx₀ hb hts inlX11 hown hK hP 0 rfl rfl 4 (by decide) (hts (.fieldLink RX11 42 "BittenStick" "trip" "LBittenStick$Trip;") wd_31) (fun _ h9 => h9) rfl dX11_practice_61_a.2.2.2.1 ?_
              refine lv_aload_n hx₀ hb dX11_practice_61_a.2.2.2.2.1 rfl (lv_at hl 4 rfl) ?_
              refine va_get (D := (dC, dI)) (ci := 10) (v := .ref aFl) (C := RX11) (T := TX11) (N := 15) hx₀ hb hts inlX11 hown hK hP 0 rfl rfl 3 (by decide) (hts (.fieldLink RX11 33 "BittenStick" "flights" "LBittenStick$Flights;") wd_27) (fun _ h9 => h9) rfl dX11_practice_61_a.2.2.2.2.2.1 ?_
              refine lv_iload_n hx₀ hb dX11_practice_61_a.2.2.2.2.2.2.1 rfl (lv_at hl 5 rfl) ?_
              obtain ⟨hPc, hDc, hFc, hC⟩ := k_cw (wc := [(kX1 aFl vFl xn), (kAI vFl cI 32 ff)]) hP hD hS hA [10, 11] (by decide +kernel) rfl
              refine va_calli (va_runV (As := [.int f1]) (rest := [.ref aTr]) ⟨hx₀, hb, hml, hown, hts⟩ (j_heightOf l dC dI cI cJ cQ H.size aFl f1 vFl xn ff (hh1)) (cwV 1 hts (kGV wd_491 wd_488 wd_489 wd_490 wd_26) rfl rfl rfl (by decide +kernel) ⟨Nat.le_of_ble_eq_true rfl, Nat.le_of_ble_eq_true rfl⟩) (k_preV1 (q0 := 0) hK hPc hDc hN rfl) rfl rfl hl.1 rfl (lv_room (Nat.le_of_ble_eq_true rfl)) dX11_practice_61_a.2.2.2.2.2.2.2.1 ⟨by decide +kernel, by decide +kernel⟩) hS (fun q _ h => hFc q h) hFc (fun r_24 u₀ t₀ H1 locs ht hvm hw hB hz1 hk1 hS => ?_)
              obtain ⟨hP1, hK1, hD1⟩ := hB
              rw [ht] at hP1
              have hJ := k_jn (wr := [(kX11 hx aLa aPa aGe aFl aTr aBe aLu aLo vSf vSm vCo vSh xs xl xf), (kX10 aTr aLa aPa aGe gL gR (gp_10 0) (gp_10 1) (g_6 8) (g_6 9) (g_6 10) (g_6 11) (g_6 12) (g_6 13) clz18 yangz18 ycolz18 yendz18), (kX3 gL (g_6 0) (g_6 1) (g_6 2) (g_6 3)), (kX3 gR (g_6 4) (g_6 5) (g_6 6) (g_6 7)), (kX4 aLa vLa l4 a4 n4), (kAI vLa cI 24 f4), (kX7 aPa vPa l7 a7 n7), (kAI vPa cI 39 f7), (kX2 aGe vGe l2 a2 n2), (kAI vGe cI 23 f2)]) (wt := [(kX11 hx aLa aPa aGe aFl aTr aBe aLu aLo vSf vSm vCo vSh xs xl xf), (kX10 aTr aLa aPa aGe gL gR (gp_10 0) (gp_10 1) (g_6 8) (g_6 9) (g_6 10) (g_6 11) (g_6 12) (g_6 13) clz18 yangz18 ycolz18 yendz18), (kX3 gL (g_6 0) (g_6 1) (g_6 2) (g_6 3)), (kX3 gR (g_6 4) (g_6 5) (g_6 6) (g_6 7)), (kX4 aLa vLa l4 a4 n4), (kAI vLa cI 24 f4), (kX7 aPa vPa l7 a7 n7), (kAI vPa cI 39 f7), (kX2 aGe vGe l2 a2 n2), (kAI vGe cI 23 f2), (kX1 aFl vFl xn), (kAI vFl cI 32 ff)]) hP hD hC [0, 1, 2, 3, 4, 5, 6, 7, 8, 9] rfl (by decide +kernel) (by decide +kernel) hk1 hFc hP1 hD1 rfl
              clear hP hD hPc hDc hFc hC hP1 hD1 hK1 hz1 hk1 hvm ht
              obtain ⟨hP, hD⟩ := hJ
              generalize H1 = H at hP hS ⊢
              try dsimp only at hw
              refine k_topi (v := kIt xn ff f1 3) hw ?_
              obtain ⟨hPc, hDc, hFc, hC⟩ := k_cw (wc := [(kX10 aTr aLa aPa aGe gL gR (gp_10 0) (gp_10 1) (g_6 8) (g_6 9) (g_6 10) (g_6 11) (g_6 12) (g_6 13) clz18 yangz18 ycolz18 yendz18), (kX4 aLa vLa l4 a4 n4), (kAI vLa cI 24 f4)]) hP hD hS hA [1, 4, 5] (by decide +kernel) rfl
              refine va_calli (va_runV (As := [.int (kIt xn ff f1 3)]) (rest := []) ⟨hx₀, hb, hml, hown, hts⟩ (j_comesTo l dC dI cI cJ cQ H.size aTr (kIt xn ff f1 3) aLa aPa aGe gL gR (gp_10 0) (gp_10 1) (g_6 8) (g_6 9) (g_6 10) (g_6 11) (g_6 12) (g_6 13) clz18 yangz18 ycolz18 yendz18 vLa l4 a4 n4 f4 (hh0)) (cwV 1 hts (kGV wd_495 wd_492 wd_493 wd_494 wd_30) rfl rfl rfl (by decide +kernel) ⟨Nat.le_of_ble_eq_true rfl, Nat.le_of_ble_eq_true rfl⟩) (k_preV9 (q0 := 0) hK hPc hDc hN rfl) rfl rfl hl.1 rfl (lv_room (Nat.le_of_ble_eq_true rfl)) dX11_practice_61_a.2.2.2.2.2.2.2.2.1 ⟨by decide +kernel, by decide +kernel⟩) hS (fun q _ h => hFc q h) hFc (fun r_25 u₀ t₀ H1 locs ht hvm hw hB hz1 hk1 hS => ?_)
              obtain ⟨g_26, ga_27, gl_28, gb_29, gp_30⟩ := u₀
              obtain ⟨hP1, hK1, hD1⟩ := hB
              rw [ht] at hP1
              have hJ := k_jn (wr := [(kX11 hx aLa aPa aGe aFl aTr aBe aLu aLo vSf vSm vCo vSh xs xl xf), (kX3 gL (g_6 0) (g_6 1) (g_6 2) (g_6 3)), (kX3 gR (g_6 4) (g_6 5) (g_6 6) (g_6 7)), (kX7 aPa vPa l7 a7 n7), (kAI vPa cI 39 f7), (kX2 aGe vGe l2 a2 n2), (kAI vGe cI 23 f2), (kX1 aFl vFl xn), (kAI vFl cI 32 ff)]) (wt := [(kX11 hx aLa aPa aGe aFl aTr aBe aLu aLo vSf vSm vCo vSh xs xl xf), (kX3 gL (g_6 0) (g_6 1) (g_6 2) (g_6 3)), (kX3 gR (g_6 4) (g_6 5) (g_6 6) (g_6 7)), (kX7 aPa vPa l7 a7 n7), (kAI vPa cI 39 f7), (kX2 aGe vGe l2 a2 n2), (kAI vGe cI 23 f2), (kX1 aFl vFl xn), (kAI vFl cI 32 ff), (kX10 aTr aLa aPa aGe gL gR (gp_10 0) (gp_10 1) (g_6 8) (g_6 9) (g_6 10) (g_6 11) (g_6 12) (g_6 13) clz18 (g_26 0) (g_26 1) (g_26 2)), (kX4 aLa vLa l4 a4 n4), (kAI vLa cI 24 f4)]) hP hD hC [0, 2, 3, 6, 7, 8, 9, 10, 11] rfl (by decide +kernel) (by decide +kernel) hk1 hFc hP1 hD1 rfl
              clear hP hD hPc hDc hFc hC hP1 hD1 hK1 hz1 hk1 hvm ht
              obtain ⟨hP, hD⟩ := hJ
              generalize H1 = H at hP hS ⊢
              try dsimp only at hw
              obtain ⟨c_31, c_32, c_33, c_34⟩ := hw
              refine lv_pop hx₀ hb dX11_practice_61_a.2.2.2.2.2.2.2.2.2.1 rfl ?_
              refine lv_aload_n hx₀ hb dX11_practice_61_a.2.2.2.2.2.2.2.2.2.2.1 rfl (lv_at hl 4 rfl) ?_
              refine va_get (D := (dC, dI)) (ci := 10) (v := .ref aTr) (C := RX11) (T := TX11) (N := 15) hx₀ hb hts inlX11 hown hK hP 0 rfl rfl 4 (by decide) (hts (.fieldLink RX11 42 "BittenStick" "trip" "LBittenStick$Trip;") wd_31) (fun _ h9 => h9) rfl dX11_practice_61_a.2.2.2.2.2.2.2.2.2.2.2.1 ?_
              refine va_get (D := (dC, dI)) (ci := 9) (v := .int (g_26 2)) (C := RX10) (T := TX10) (N := 17) hx₀ hb hts inlX10 hown hK hP 9 rfl rfl 16 (by decide) (hts (.fieldLink RX11 159 "BittenStick$Trip" "end" "I") wd_422) (fun _ h9 => h9) rfl dX11_practice_61_a.2.2.2.2.2.2.2.2.2.2.2.2.1 ?_
              refine lv_if_ne (tgt := 99) hx₀ hb dX11_practice_61_a.2.2.2.2.2.2.2.2.2.2.2.2.2.1 (by decide) (fun c_35 => ?_) (fun c_35 => ?_)
              · refine lv_iinc (v := clz18 + 1) (lv' := [(5, .int (clz18 + 1)), (6, .int (kPp clz18)), (4, .int biz18), (3, .int fwz18), (0, .ref hx), (1, .int f1), (2, .int w1)]) hx₀ hb dX11_practice_95_a.2.2.1 hl (k := 1) rfl rfl (by decide) rfl (fun ls hl => ?_)
                refine lv_goto (tgt := 37) hx₀ hb dX11_practice_95_a.2.2.2.1 (by decide) ?_
                exact ihz18 _ (lf_g_practiceOf_2 clz18 jz18 hiz18_0 hjz18 c_19) fwz18 biz18 (clz18 + 1) clz18 (g_26 0) (g_26 1) (g_26 2) _ _ _ (lf_g_practiceOf_1 clz18 jz18 hiz18_0 hjz18 c_19) (kRc_n hiz18_1 c_19 rfl (Int32.not_le.mp c_23) (c_34.trans (congrArg (fun z => z.2.2.2) (show ((kGo (kAt 24 f4) (g_6 9) clz18 (g_6 10) (g_6 11) (g_6 12) (fun _ => (kIt xn ff f1 3))) (kfu n4 (0 : Int32)) (0 : Int32) (0 : Int32) (0 : Int32) (if (g_6 8) = 0 then 1 else 0)) = (fun x1 => kOC f4 f7 f2 n4 n7 n2 x1 (kIt xn ff f1 0) (kIt xn ff f1 1) (kIt xn ff f1 2) (kIt xn ff f1 3) (kAt 39 f7 ((5 * (kIt xn ff f1 0)) + 1))) clz18 from (by exact kO_trip hh0.1 c_11 c_12 (fun c => c_13.trans (if_pos c)) (fun c => c_14.trans (if_pos c)) (fun c => c_15.trans (if_pos c)))))) c_35) rfl (hP.sub [0, 9, 1, 2, 10, 11, 3, 4, 5, 6, 7, 8] rfl) (hD.sub [0, 9, 1, 2, 10, 11, 3, 4, 5, 6, 7, 8] (by decide +kernel) rfl) hS (lv_sub hl [0, 2, 3, 4, 5, 6] rfl)
              · refine lv_iload hx₀ hb dX11_practice_61_a.2.2.2.2.2.2.2.2.2.2.2.2.2.2.1 (lv_at hl 0 rfl) ?_
                refine lv_istore_n (lv' := [(3, .int (kPp clz18)), (6, .int (kPp clz18)), (5, .int clz18), (4, .int biz18), (0, .ref hx), (1, .int f1), (2, .int w1)]) hx₀ hb dX11_practice_61_a.2.2.2.2.2.2.2.2.2.2.2.2.2.2.2 rfl hl (by decide) rfl (fun ls hl => ?_)
                refine lv_iload hx₀ hb dX11_practice_95_a.1 (lv_at hl 2 rfl) ?_
                refine lv_istore (lv' := [(4, .int clz18), (3, .int (kPp clz18)), (6, .int (kPp clz18)), (5, .int clz18), (0, .ref hx), (1, .int f1), (2, .int w1)]) hx₀ hb dX11_practice_95_a.2.1 hl (by decide) rfl (fun ls hl => ?_)
                refine lv_iinc (v := clz18 + 1) (lv' := [(5, .int (clz18 + 1)), (4, .int clz18), (3, .int (kPp clz18)), (6, .int (kPp clz18)), (0, .ref hx), (1, .int f1), (2, .int w1)]) hx₀ hb dX11_practice_95_a.2.2.1 hl (k := 3) rfl rfl (by decide) rfl (fun ls hl => ?_)
                refine lv_goto (tgt := 37) hx₀ hb dX11_practice_95_a.2.2.2.1 (by decide) ?_
                exact ihz18 _ (lf_g_practiceOf_2 clz18 jz18 hiz18_0 hjz18 c_19) (kPp clz18) clz18 (clz18 + 1) clz18 (g_26 0) (g_26 1) (g_26 2) _ _ _ (lf_g_practiceOf_1 clz18 jz18 hiz18_0 hjz18 c_19) (kRc_y hiz18_1 c_19 rfl (Int32.not_le.mp c_23) (c_34.trans (congrArg (fun z => z.2.2.2) (show ((kGo (kAt 24 f4) (g_6 9) clz18 (g_6 10) (g_6 11) (g_6 12) (fun _ => (kIt xn ff f1 3))) (kfu n4 (0 : Int32)) (0 : Int32) (0 : Int32) (0 : Int32) (if (g_6 8) = 0 then 1 else 0)) = (fun x1 => kOC f4 f7 f2 n4 n7 n2 x1 (kIt xn ff f1 0) (kIt xn ff f1 1) (kIt xn ff f1 2) (kIt xn ff f1 3) (kAt 39 f7 ((5 * (kIt xn ff f1 0)) + 1))) clz18 from (by exact kO_trip hh0.1 c_11 c_12 (fun c => c_13.trans (if_pos c)) (fun c => c_14.trans (if_pos c)) (fun c => c_15.trans (if_pos c)))))) c_35) rfl (hP.sub [0, 9, 1, 2, 10, 11, 3, 4, 5, 6, 7, 8] rfl) (hD.sub [0, 9, 1, 2, 10, 11, 3, 4, 5, 6, 7, 8] (by decide +kernel) rfl) hS (lv_sub hl [0, 1, 2, 4, 5, 6] rfl)
      · refine lv_bipush (v := (-2)) hx₀ hb dX11_practice_0_a.2.2.2.2.2.2.2.2.2.2.1 (by decide +kernel) ?_
        obtain ⟨hP9, hD9⟩ := k_c2 (wc := [(kX11 hx aLa aPa aGe aFl aTr aBe aLu aLo vSf vSm vCo vSh xs xl xf), (kX10 aTr aLa aPa aGe gL gR lf rt tgo tca tki tso tbe twe tle tan tco ten), (kX3 gL u0 u1 u2 u3), (kX3 gR v0 v1 v2 v3), (kX4 aLa vLa l4 a4 n4), (kAI vLa cI 24 f4), (kX7 aPa vPa l7 a7 n7), (kAI vPa cI 39 f7), (kX2 aGe vGe l2 a2 n2), (kAI vGe cI 23 f2), (kX1 aFl vFl xn), (kAI vFl cI 32 ff)]) hP hD [0, 1, 2, 3, 4, 5, 6, 7, 8, 9, 11, 10] (by decide +kernel) rfl
        exact W.iret (v := (-2)) hx₀ hb hr (fun t₀ ht hW => ⟨⟨(-2), (k_fn [u0, u1, u2, u3, v0, v1, v2, v3, tgo, tca, tki, tso, tbe, twe, tle, tan, tco, ten], k_fa [], k_fl [], k_fL [], k_fp [lf, rt]), rfl, (if_neg (show ¬ ((0 ≤ f1 ∧ f1 < xn) ∧ 0 ≤ w1 ∧ w1 ≤ 1) from (fun z => c_4 z.2.2))).symm, by rw [ht]; exact hP9, va_K.moved hW.alike hK, hD9⟩, hS.F ht⟩) hS.2.2 dX11_practice_0_a.2.2.2.2.2.2.2.2.2.2.2.1
  rw [if_neg c_2] at hw
  refine k_topi (v := 0) hw ?_
  refine lv_if_eq (tgt := 20) hx₀ hb dX11_practice_0_a.2.2.2.2.1 (by decide) (fun _ => ?_) (fun c9 => absurd (by decide +kernel) c9)
  refine lv_bipush (v := (-2)) hx₀ hb dX11_practice_0_a.2.2.2.2.2.2.2.2.2.2.1 (by decide +kernel) ?_
  obtain ⟨hP9, hD9⟩ := k_c2 (wc := [(kX11 hx aLa aPa aGe aFl aTr aBe aLu aLo vSf vSm vCo vSh xs xl xf), (kX10 aTr aLa aPa aGe gL gR lf rt tgo tca tki tso tbe twe tle tan tco ten), (kX3 gL u0 u1 u2 u3), (kX3 gR v0 v1 v2 v3), (kX4 aLa vLa l4 a4 n4), (kAI vLa cI 24 f4), (kX7 aPa vPa l7 a7 n7), (kAI vPa cI 39 f7), (kX2 aGe vGe l2 a2 n2), (kAI vGe cI 23 f2), (kX1 aFl vFl xn), (kAI vFl cI 32 ff)]) hP hD [0, 1, 2, 3, 4, 5, 6, 7, 8, 9, 11, 10] (by decide +kernel) rfl
  exact W.iret (v := (-2)) hx₀ hb hr (fun t₀ ht hW => ⟨⟨(-2), (k_fn [u0, u1, u2, u3, v0, v1, v2, v3, tgo, tca, tki, tso, tbe, twe, tle, tan, tco, ten], k_fa [], k_fl [], k_fL [], k_fp [lf, rt]), rfl, (if_neg (show ¬ ((0 ≤ f1 ∧ f1 < xn) ∧ 0 ≤ w1 ∧ w1 ≤ 1) from (fun z => c_2 z.1))).symm, by rw [ht]; exact hP9, va_K.moved hW.alike hK, hD9⟩, hS.F ht⟩) hS.2.2 dX11_practice_0_a.2.2.2.2.2.2.2.2.2.2.2.1
set_option maxHeartbeats 4000000 in
set_option maxRecDepth 100000 in
theorem e_ones (l : Launch) (dC : Nat → ClassId) (dI : Nat → Nat → Nat) (cI cJ cQ : ClassId) (sz : Nat) (bi : Int32) (hh0 : 0 ≤ bi ∧ bi ≤ 63) : Met l yX12_ones (kW yX12_ones cX12_ones 3 (some .int)) { frames := 0, cells := 0, slots := 0, locals := 0 } (kPre dC dI cI cJ cQ sz [.int bi] []) (va_Qi (fun (r : Int32) (u : Unit) => (r = kPp bi)) (fun (u : Unit) t₀ => kB dC dI cI cJ cQ (va_A [] sz) [] t₀) (va_A [] sz)) 0 0 (va_A [] sz) := by
  refine Met.ofW (cc := cX12_ones) (maxL := 3) (ret := (some .int)) (by decide) rfl ?_
  intro p₀ e₀ s₀ m₀ args below meth c₀ s₁ B hml hv₀
  obtain ⟨rfl, hsz, hP, hK, hD0, hN⟩ := hv₀
  have hx₀ := B.exec
  have hb := B.bytes
  have hr := B.returns
  have hts := atoms_spec (ws := (kW yX12_ones cX12_ones 3 (some .int))) B.pre
  have hts := fun w h => hts w (List.mem_cons_of_mem _ h)
  have hown : s₀.vm.findClass RX12 = some m₀.cls := findClass_of_methodNamed B.named
  have hlocks := B.notSynchronized
  subst hsz
  have hD := hD0.self (sz := s₀.heap.size)
  generalize hAe : va_A [] s₀.heap.size = A at hD ⊢
  have hA : ∀ q : Nat, s₀.heap.size ≤ q → A q := fun q h => by rw [← hAe]; exact Or.inr h
  have hS : va_S A s₀.heap s₀.heap [] := va_S.rf
  have hP : va_P (dC, dI) vwCl [] s₀.heap := hP
  have hl := lv_entry ([.int bi]) (n := 3) (Nat.le_of_ble_eq_true rfl)
  rw [lg_entry_eq]
  generalize (lg_sl ([.int bi]) ++ List.replicate (3 - (lg_sl ([.int bi])).length) Slot.unset).toArray = ls at hl ⊢
  have hl : lv_has ls 3 [(0, .int bi)] := hl
  obtain ⟨H, hH⟩ : ∃ z : Heap, z = s₀.heap := ⟨_, rfl⟩
  rw [← hH] at hP
  have hS : va_S A s₀.heap H [] := by rw [hH]; exact hS
  refine k_heap hH ?_
  have hD : va_D A [] := hD
  obtain ⟨locs, hlo⟩ : ∃ z : List Loc, z = [] := ⟨_, rfl⟩
  rw [← hlo] at hS ⊢
  clear hlo hH hAe hD0
  refine lv_iconst (v := 0) hx₀ hb dX12_ones_0_a.1 (by decide +kernel) ?_
  refine lv_istore_n (lv' := [(1, .int 0), (0, .int bi)]) hx₀ hb dX12_ones_0_a.2.1 rfl hl (by decide) rfl (fun ls hl => ?_)
  refine lv_iload_n hx₀ hb dX12_ones_0_a.2.2.1 rfl (lv_at hl 1 rfl) ?_
  refine lv_istore_n (lv' := [(2, .int bi), (1, .int 0), (0, .int bi)]) hx₀ hb dX12_ones_0_a.2.2.2.1 rfl hl (by decide) rfl (fun ls hl => ?_)
  refine (?keyz1 : ∀ (jz1 : Nat) (nz1 : Int32) (lfz1 : Int32) (H : Heap) (locs : List Loc) (ls : Array Slot), (0 ≤ lfz1 ∧ lfz1 ≤ 63) → (nz1 + kPp lfz1 = kPp bi) → (kpop lfz1 = jz1) → va_P (dC, dI) vwCl [] H → va_D A [] → va_S A s₀.heap H locs → lv_has ls 3 [(2, .int lfz1), (1, .int nz1), (0, .int bi)] → W p₀ l e₀ _ s₀ m₀ _ below meth c₀ H locs _ _ _ (F0 m₀ 4 ls [])) _ (0 : Int32) bi H locs ls (hh0) (Int32.zero_add _) rfl hP hD hS hl
  clear hP hD hS hl
  intro jz1
  induction jz1 using Nat.strongRecOn with
  | ind jz1 ihz1 =>
    intro nz1 lfz1 H locs ls hiz1_0 hiz1_1 hjz1 hP hD hS hl
    refine lv_iload_n hx₀ hb dX12_ones_0_a.2.2.2.2.1 rfl (lv_at hl 0 rfl) ?_
    refine lv_if_eq (tgt := 20) hx₀ hb dX12_ones_0_a.2.2.2.2.2.1 (by decide) (fun c_2 => ?_) (fun c_2 => ?_)
    · refine lv_iload_n hx₀ hb dX12_ones_0_a.2.2.2.2.2.2.2.2.2.2.2.2.2.2.1 rfl (lv_at hl 1 rfl) ?_
      obtain ⟨hP9, hD9⟩ := k_c2 (wc := []) hP hD [] (by decide +kernel) rfl
      exact W.iret (v := nz1) hx₀ hb hr (fun t₀ ht hW => ⟨⟨nz1, (), rfl, (kPp_e c_2 hiz1_1), by rw [ht]; exact hP9, va_K.moved hW.alike hK, hD9⟩, hS.F ht⟩) hS.2.2 dX12_ones_0_a.2.2.2.2.2.2.2.2.2.2.2.2.2.2.2
    · refine lv_iinc (v := nz1 + 1) (lv' := [(1, .int (nz1 + 1)), (2, .int lfz1), (0, .int bi)]) hx₀ hb dX12_ones_0_a.2.2.2.2.2.2.1 hl (k := 1) rfl rfl (by decide) rfl (fun ls hl => ?_)
      refine lv_iload_n hx₀ hb dX12_ones_0_a.2.2.2.2.2.2.2.1 rfl (lv_at hl 1 rfl) ?_
      refine lv_iload_n hx₀ hb dX12_ones_0_a.2.2.2.2.2.2.2.2.1 rfl (lv_at hl 1 rfl) ?_
      refine lv_iconst (v := 1) hx₀ hb dX12_ones_0_a.2.2.2.2.2.2.2.2.2.1 (by decide +kernel) ?_
      refine lv_isub hx₀ hb dX12_ones_0_a.2.2.2.2.2.2.2.2.2.2.1 ?_
      refine lv_iand hx₀ hb dX12_ones_0_a.2.2.2.2.2.2.2.2.2.2.2.1 ?_
      refine lv_istore_n (lv' := [(2, .int (lfz1 &&& (lfz1 - 1))), (1, .int (nz1 + 1)), (0, .int bi)]) hx₀ hb dX12_ones_0_a.2.2.2.2.2.2.2.2.2.2.2.2.1 rfl hl (by decide) rfl (fun ls hl => ?_)
      refine lv_goto (tgt := 4) hx₀ hb dX12_ones_0_a.2.2.2.2.2.2.2.2.2.2.2.2.2.1 (by decide) ?_
      exact ihz1 _ (k_pop_lt hjz1 c_2) (nz1 + 1) (lfz1 &&& (lfz1 - 1)) _ _ _ ((kPp_s hiz1_0 c_2).2) (kPp_t hiz1_0 c_2 hiz1_1) rfl (hP.sub [] rfl) (hD.sub [] (by decide +kernel) rfl) hS (lv_sub hl [0, 1, 2] rfl)
theorem lf_e_practiceOf_1 (a0 : Int32) (h0 : a0 = -1 ∨ (0 ≤ a0 ∧ a0 ≤ 63)) (h1 : ¬ a0 = (-1)) : 0 ≤ a0 ∧ a0 ≤ 63 := by
  first | rfl | assumption | decide | exact Or.inl rfl | (first | omega | (have hr0 := Int32.toInt_lt a0; have hs0 := Int32.le_toInt a0; simp only [Int64.toInt_add, Int64.toInt_sub, Int32.toInt_add, Int32.toInt_sub, Int32.toInt_mul, Int64.le_iff_toInt_le, Int64.lt_iff_toInt_lt, Int32.le_iff_toInt_le, Int32.lt_iff_toInt_lt, ← Int32.toInt_inj, ← Int64.toInt_inj, Int32.toInt_toInt64, kc_m1, kc_0, kc_1, kc_63] at *; (first | omega | ((try simp (disch := omega) only [k_bm64] at *); (try simp (disch := omega) only [k_bm] at *); (try simp (disch := omega) only [k_bm] at *); omega) | (simp only [Int.bmod] at *; omega))))
theorem lf_e_practiceOf_2 (a0 : Int32) (a1 : Nat) (h0 : 0 ≤ a0 ∧ a0 ≤ 64) (h1 : (64 - a0.toInt).toNat = a1) (h2 : ¬ 64 ≤ a0) : a0 = -1 ∨ (0 ≤ a0 ∧ a0 ≤ 63) := by
  first | rfl | assumption | decide | exact Or.inl rfl | (first | omega | (have hr0 := Int32.toInt_lt a0; have hs0 := Int32.le_toInt a0; simp only [Int64.toInt_add, Int64.toInt_sub, Int32.toInt_add, Int32.toInt_sub, Int32.toInt_mul, Int64.le_iff_toInt_le, Int64.lt_iff_toInt_lt, Int32.le_iff_toInt_le, Int32.lt_iff_toInt_lt, ← Int32.toInt_inj, ← Int64.toInt_inj, Int32.toInt_toInt64, kc_m1, kc_0, kc_1, kc_63, kc_64] at *; (first | omega | ((try simp (disch := omega) only [k_bm64] at *); (try simp (disch := omega) only [k_bm] at *); (try simp (disch := omega) only [k_bm] at *); omega) | (simp only [Int.bmod] at *; omega))))
set_option maxHeartbeats 4000000 in
set_option maxRecDepth 100000 in
theorem e_practiceOf (l : Launch) (dC : Nat → ClassId) (dI : Nat → Nat → Nat) (cI cJ cQ : ClassId) (sz : Nat) (hm : Nat) (f1 : Int32) (w1 : Int32) (vFo : Nat) (vSi : Nat) (vIt : Nat) (vMo : Nat) (la : Int32) (vBy : Nat) (vTy : Nat) (mi : Int32) (vMi : Nat) (pn : Int32) (vPs : Nat) (gn : Int32) (vGs : Nat) (fn : Int32) (vFt : Nat) (le : Int32) (vTo : Nat) (kn : Int32) (fe : Int32) (en : Int32) (ca : Int32) (an : Int32) (co : Int32) (vPr : Nat) (vSt : Nat) (vFn : Nat) (sn : Int32) (vSg : Nat) (vAl : Nat) (dr : Int32) (qMi : Nat → Int32) (qPs : Nat → Int32) (qGs : Nat → Int32) (qTo : Nat → Int32) (qPr : Nat → Int32) (qSt : Nat → Int32) (qFn : Nat → Int32) (qFt : Nat → Int32) (hh0 : 0 ≤ mi ∧ mi ≤ 24) (hh1 : 0 ≤ pn ∧ pn ≤ 8) (hh2 : 0 ≤ gn ∧ gn ≤ 8) (hh3 : k_bd 2 0 7 qPr) (hh4 : 0 ≤ fe ∧ fe ≤ 24) (hh5 : en = 0 ∨ kn = 0 ∨ fe ≤ 23) (hh6 : 0 ≤ kn ∧ kn ≤ 24) (hh7 : 0 ≤ f1 ∧ f1 ≤ 7) (hh8 : k_tm pn qPs) (hh9 : ca = 16777215) (hh10 : k_bd 32 0 9 qFt) : Met l yX12_practiceOf (kW yX12_practiceOf cX12_practiceOf 6 (some .int)) { frames := 4, cells := 0, slots := 0, locals := 99 } (kPre dC dI cI cJ cQ sz [.ref hm, .int f1, .int w1] [(kX12 hm vFo vSi vIt vMo la vBy vTy mi vMi pn vPs gn vGs fn vFt le vTo kn fe en ca an co vPr vSt vFn sn vSg vAl dr), (kAI vMi cI 24 qMi), (kAI vPs cI 32 qPs), (kAI vGs cI 16 qGs), (kAI vTo cI 96 qTo), (kAI vPr cI 2 qPr), (kAI vSt cI 2 qSt), (kAI vFn cI 2 qFn), (kAI vFt cI 32 qFt)]) (va_Qi (fun (r : Int32) (u : kS) => (r = if (kRq (fun x1 => kOR qMi qPs qGs mi pn gn x1 (kP0 qFt f1) (kP1 qFt f1) (kP2 qFt f1) (kP1 qPs (kP0 qFt f1)) (fun x8 => if x8 < (24 : Int32) then (kP3 qFt f1) else (0 : Int32))) (kfu 64 0) 0 (-1)) = -1 ∨ w1 = 1 then (kRq (fun x1 => kOR qMi qPs qGs mi pn gn x1 (kP0 qFt f1) (kP1 qFt f1) (kP2 qFt f1) (kP1 qPs (kP0 qFt f1)) (fun x8 => if x8 < (24 : Int32) then (kP3 qFt f1) else (0 : Int32))) (kfu 64 0) 0 (-1)) else kPp (kRq (fun x1 => kOR qMi qPs qGs mi pn gn x1 (kP0 qFt f1) (kP1 qFt f1) (kP2 qFt f1) (kP1 qPs (kP0 qFt f1)) (fun x8 => if x8 < (24 : Int32) then (kP3 qFt f1) else (0 : Int32))) (kfu 64 0) 0 (-1))) ∧ (k_bd 2 0 7 (u.2.1 1)) ∧ (0 ≤ (u.1 1) ∧ (u.1 1) ≤ 24) ∧ ((u.1 2) = 0 ∨ (u.1 0) = 0 ∨ (u.1 1) ≤ 23) ∧ (0 ≤ (u.1 0) ∧ (u.1 0) ≤ 24)) (fun (u : kS) t₀ => kB dC dI cI cJ cQ (va_A [(kX12 hm vFo vSi vIt vMo la vBy vTy mi vMi pn vPs gn vGs fn vFt le vTo kn fe en ca an co vPr vSt vFn sn vSg vAl dr), (kAI vMi cI 24 qMi), (kAI vPs cI 32 qPs), (kAI vGs cI 16 qGs), (kAI vTo cI 96 qTo), (kAI vPr cI 2 qPr), (kAI vSt cI 2 qSt), (kAI vFn cI 2 qFn), (kAI vFt cI 32 qFt)] sz) [(kX12 hm vFo vSi vIt vMo la vBy vTy mi vMi pn vPs gn vGs fn vFt le vTo (u.1 0) (u.1 1) (u.1 2) ca (u.1 3) (u.1 4) vPr vSt vFn sn vSg vAl dr), (kAI vMi cI 24 qMi), (kAI vPs cI 32 qPs), (kAI vGs cI 16 qGs), (kAI vTo cI 96 (u.2.1 0)), (kAI vPr cI 2 (u.2.1 1)), (kAI vSt cI 2 (u.2.1 2)), (kAI vFn cI 2 (u.2.1 3)), (kAI vFt cI 32 qFt)] t₀) (va_A [(kX12 hm vFo vSi vIt vMo la vBy vTy mi vMi pn vPs gn vGs fn vFt le vTo kn fe en ca an co vPr vSt vFn sn vSg vAl dr), (kAI vMi cI 24 qMi), (kAI vPs cI 32 qPs), (kAI vGs cI 16 qGs), (kAI vTo cI 96 qTo), (kAI vPr cI 2 qPr), (kAI vSt cI 2 qSt), (kAI vFn cI 2 qFn), (kAI vFt cI 32 qFt)] sz)) 0 0 (va_A [(kX12 hm vFo vSi vIt vMo la vBy vTy mi vMi pn vPs gn vGs fn vFt le vTo kn fe en ca an co vPr vSt vFn sn vSg vAl dr), (kAI vMi cI 24 qMi), (kAI vPs cI 32 qPs), (kAI vGs cI 16 qGs), (kAI vTo cI 96 qTo), (kAI vPr cI 2 qPr), (kAI vSt cI 2 qSt), (kAI vFn cI 2 qFn), (kAI vFt cI 32 qFt)] sz) := by
  refine Met.ofW (cc := cX12_practiceOf) (maxL := 6) (ret := (some .int)) (by decide) rfl ?_
  intro p₀ e₀ s₀ m₀ args below meth c₀ s₁ B hml hv₀
  obtain ⟨rfl, hsz, hP, hK, hD0, hN⟩ := hv₀
  have hx₀ := B.exec
  have hb := B.bytes
  have hr := B.returns
  have hts := atoms_spec (ws := (kW yX12_practiceOf cX12_practiceOf 6 (some .int))) B.pre
  have hts := fun w h => hts w (List.mem_cons_of_mem _ h)
  have hown : s₀.vm.findClass RX12 = some m₀.cls := findClass_of_methodNamed B.named
  have hlocks := B.notSynchronized
  subst hsz
  have hD := hD0.self (sz := s₀.heap.size)
  generalize hAe : va_A [(kX12 hm vFo vSi vIt vMo la vBy vTy mi vMi pn vPs gn vGs fn vFt le vTo kn fe en ca an co vPr vSt vFn sn vSg vAl dr), (kAI vMi cI 24 qMi), (kAI vPs cI 32 qPs), (kAI vGs cI 16 qGs), (kAI vTo cI 96 qTo), (kAI vPr cI 2 qPr), (kAI vSt cI 2 qSt), (kAI vFn cI 2 qFn), (kAI vFt cI 32 qFt)] s₀.heap.size = A at hD ⊢
  have hA : ∀ q : Nat, s₀.heap.size ≤ q → A q := fun q h => by rw [← hAe]; exact Or.inr h
  have hS : va_S A s₀.heap s₀.heap [] := va_S.rf
  have hP : va_P (dC, dI) vwCl [(kX12 hm vFo vSi vIt vMo la vBy vTy mi vMi pn vPs gn vGs fn vFt le vTo kn fe en ca an co vPr vSt vFn sn vSg vAl dr), (kAI vMi cI 24 qMi), (kAI vPs cI 32 qPs), (kAI vGs cI 16 qGs), (kAI vTo cI 96 qTo), (kAI vPr cI 2 qPr), (kAI vSt cI 2 qSt), (kAI vFn cI 2 qFn), (kAI vFt cI 32 qFt)] s₀.heap := hP
  have hl := lv_entry ([.ref hm, .int f1, .int w1]) (n := 6) (Nat.le_of_ble_eq_true rfl)
  rw [lg_entry_eq]
  generalize (lg_sl ([.ref hm, .int f1, .int w1]) ++ List.replicate (6 - (lg_sl ([.ref hm, .int f1, .int w1])).length) Slot.unset).toArray = ls at hl ⊢
  have hl : lv_has ls 6 [(0, .ref hm), (1, .int f1), (2, .int w1)] := hl
  obtain ⟨H, hH⟩ : ∃ z : Heap, z = s₀.heap := ⟨_, rfl⟩
  rw [← hH] at hP
  have hS : va_S A s₀.heap H [] := by rw [hH]; exact hS
  refine k_heap hH ?_
  have hD : va_D A [(kX12 hm vFo vSi vIt vMo la vBy vTy mi vMi pn vPs gn vGs fn vFt le vTo kn fe en ca an co vPr vSt vFn sn vSg vAl dr), (kAI vMi cI 24 qMi), (kAI vPs cI 32 qPs), (kAI vGs cI 16 qGs), (kAI vTo cI 96 qTo), (kAI vPr cI 2 qPr), (kAI vSt cI 2 qSt), (kAI vFn cI 2 qFn), (kAI vFt cI 32 qFt)] := hD
  obtain ⟨locs, hlo⟩ : ∃ z : List Loc, z = [] := ⟨_, rfl⟩
  rw [← hlo] at hS ⊢
  clear hlo hH hAe hD0
  refine lv_aload_n hx₀ hb dX12_practiceOf_0_a.1 rfl (lv_at hl 0 rfl) ?_
  refine va_get (D := (dC, dI)) (ci := 11) (v := .int le) (C := RX12) (T := TX12) (N := 30) hx₀ hb hts inlX12 hown hK hP 0 rfl rfl 15 (by decide) (hts (.fieldLink RX12 167 "BittenStickModel" "learned" "I") wd_417) (fun _ h9 => h9) rfl dX12_practiceOf_0_a.2.1 ?_
  refine lv_istore_n (lv' := [(3, .int le), (0, .ref hm), (1, .int f1), (2, .int w1)]) hx₀ hb dX12_practiceOf_0_a.2.2.1 rfl hl (by decide) rfl (fun ls hl => ?_)
  refine lv_iconst (v := (-1)) hx₀ hb dX12_practiceOf_0_a.2.2.2.1 (by decide +kernel) ?_
  refine lv_istore (lv' := [(4, .int (-1)), (3, .int le), (0, .ref hm), (1, .int f1), (2, .int w1)]) hx₀ hb dX12_practiceOf_0_a.2.2.2.2.1 hl (by decide) rfl (fun ls hl => ?_)
  refine lv_iconst (v := 0) hx₀ hb dX12_practiceOf_0_a.2.2.2.2.2.1 (by decide +kernel) ?_
  refine lv_istore (lv' := [(5, .int 0), (4, .int (-1)), (3, .int le), (0, .ref hm), (1, .int f1), (2, .int w1)]) hx₀ hb dX12_practiceOf_0_a.2.2.2.2.2.2.1 hl (by decide) rfl (fun ls hl => ?_)
  refine (?keyz1 : ∀ (jz1 : Nat) (bez1 : Int32) (smz1 : Int32) (knz1 : Int32) (fez1 : Int32) (enz1 : Int32) (anz1 : Int32) (coz1 : Int32) (lez1 : Int32) (qtz1 : Nat → Int32) (qpz1 : Nat → Int32) (qsz1 : Nat → Int32) (qfz1 : Nat → Int32) (H : Heap) (locs : List Loc) (ls : Array Slot), (0 ≤ smz1 ∧ smz1 ≤ 64) → (bez1 = -1 ∨ (0 ≤ bez1 ∧ bez1 ≤ 63)) → (k_rq (fun x1 => kOR qMi qPs qGs mi pn gn x1 (kP0 qFt f1) (kP1 qFt f1) (kP2 qFt f1) (kP1 qPs (kP0 qFt f1)) (fun x8 => if x8 < (24 : Int32) then (kP3 qFt f1) else (0 : Int32))) smz1 bez1 (kRq (fun x1 => kOR qMi qPs qGs mi pn gn x1 (kP0 qFt f1) (kP1 qFt f1) (kP2 qFt f1) (kP1 qPs (kP0 qFt f1)) (fun x8 => if x8 < (24 : Int32) then (kP3 qFt f1) else (0 : Int32))) (kfu 64 0) 0 (-1))) → (k_bd 2 0 7 qpz1) → (0 ≤ fez1 ∧ fez1 ≤ 24) → (enz1 = 0 ∨ knz1 = 0 ∨ fez1 ≤ 23) → (0 ≤ knz1 ∧ knz1 ≤ 24) → ((64 - smz1.toInt).toNat = jz1) → va_P (dC, dI) vwCl [(kX12 hm vFo vSi vIt vMo la vBy vTy mi vMi pn vPs gn vGs fn vFt lez1 vTo knz1 fez1 enz1 ca anz1 coz1 vPr vSt vFn sn vSg vAl dr), (kAI vMi cI 24 qMi), (kAI vPs cI 32 qPs), (kAI vGs cI 16 qGs), (kAI vTo cI 96 qtz1), (kAI vPr cI 2 qpz1), (kAI vSt cI 2 qsz1), (kAI vFn cI 2 qfz1), (kAI vFt cI 32 qFt)] H → va_D A [(kX12 hm vFo vSi vIt vMo la vBy vTy mi vMi pn vPs gn vGs fn vFt lez1 vTo knz1 fez1 enz1 ca anz1 coz1 vPr vSt vFn sn vSg vAl dr), (kAI vMi cI 24 qMi), (kAI vPs cI 32 qPs), (kAI vGs cI 16 qGs), (kAI vTo cI 96 qtz1), (kAI vPr cI 2 qpz1), (kAI vSt cI 2 qsz1), (kAI vFn cI 2 qfz1), (kAI vFt cI 32 qFt)] → va_S A s₀.heap H locs → lv_has ls 6 [(5, .int smz1), (4, .int bez1), (3, .int le), (0, .ref hm), (1, .int f1), (2, .int w1)] → W p₀ l e₀ _ s₀ m₀ _ below meth c₀ H locs _ _ _ (F0 m₀ 11 ls [])) _ (-1 : Int32) (0 : Int32) kn fe en an co le _ _ _ _ H locs ls (show 0 ≤ (0 : Int32) ∧ (0 : Int32) ≤ 64 from ⟨(by decide), (by decide)⟩) (show (-1 : Int32) = -1 ∨ (0 ≤ (-1 : Int32) ∧ (-1 : Int32) ≤ 63) from (Or.inl (rfl))) (rfl) (hh3) (hh4) (hh5) (hh6) rfl hP hD hS hl
  clear hP hD hS hl
  intro jz1
  induction jz1 using Nat.strongRecOn with
  | ind jz1 ihz1 =>
    intro bez1 smz1 knz1 fez1 enz1 anz1 coz1 lez1 qtz1 qpz1 qsz1 qfz1 H locs ls hiz1_0 hiz1_1 hiz1_2 hiz1_3 hiz1_4 hiz1_5 hiz1_6 hjz1 hP hD hS hl
    refine lv_iload hx₀ hb dX12_practiceOf_0_a.2.2.2.2.2.2.2.1 (lv_at hl 0 rfl) ?_
    refine lv_bipush (v := 64) hx₀ hb dX12_practiceOf_0_a.2.2.2.2.2.2.2.2.1 (by decide +kernel) ?_
    refine lv_icmp_ge (tgt := 70) hx₀ hb dX12_practiceOf_0_a.2.2.2.2.2.2.2.2.2.1 (by decide) (fun c_2 => ?_) (fun c_2 => ?_)
    · refine lv_aload_n hx₀ hb dX12_practiceOf_67_a.2.1 rfl (lv_at hl 3 rfl) ?_
      refine lv_iload_n hx₀ hb dX12_practiceOf_67_a.2.2.1 rfl (lv_at hl 2 rfl) ?_
      refine va_put (D := (dC, dI)) (ci := 11) (v := .int le) (ty := .int) (C := RX12) (T := TX12) (N := 30) hx₀ hb hts inlX12 tyX12 tyX12_ok nmX12 hown hK hP hD hS 0 rfl rfl 15 (by decide) (hts (.fieldLink RX12 167 "BittenStickModel" "learned" "I") wd_417) (fun _ h9 => h9) rfl (by decide +kernel) rfl rfl (Nat.le_of_ble_eq_true rfl) dX12_practiceOf_67_a.2.2.2.1 ?_
      clear hP hD hS
      intro H locs hP hD hS
      replace hP := k_w2 (wt := [(kX12 hm vFo vSi vIt vMo la vBy vTy mi vMi pn vPs gn vGs fn vFt le vTo knz1 fez1 enz1 ca anz1 coz1 vPr vSt vFn sn vSg vAl dr), (kAI vMi cI 24 qMi), (kAI vPs cI 32 qPs), (kAI vGs cI 16 qGs), (kAI vTo cI 96 qtz1), (kAI vPr cI 2 qpz1), (kAI vSt cI 2 qsz1), (kAI vFn cI 2 qfz1), (kAI vFt cI 32 qFt)]) hP hD rfl
      replace hD := hP.2
      replace hP := hP.1
      refine lv_iload hx₀ hb dX12_practiceOf_67_a.2.2.2.2.1 (lv_at hl 1 rfl) ?_
      refine lv_iconst (v := (-1)) hx₀ hb dX12_practiceOf_67_a.2.2.2.2.2.1 (by decide +kernel) ?_
      refine lv_icmp_eq (tgt := 86) hx₀ hb dX12_practiceOf_67_a.2.2.2.2.2.2.1 (by decide) (fun c_3 => ?_) (fun c_3 => ?_)
      · refine lv_iload hx₀ hb dX12_practiceOf_67_a.2.2.2.2.2.2.2.2.2.2.1 (lv_at hl 1 rfl) ?_
        refine lv_goto (tgt := 96) hx₀ hb dX12_practiceOf_67_a.2.2.2.2.2.2.2.2.2.2.2.1 (by decide) ?_
        obtain ⟨hP9, hD9⟩ := k_c2 (wc := [(kX12 hm vFo vSi vIt vMo la vBy vTy mi vMi pn vPs gn vGs fn vFt le vTo knz1 fez1 enz1 ca anz1 coz1 vPr vSt vFn sn vSg vAl dr), (kAI vMi cI 24 qMi), (kAI vPs cI 32 qPs), (kAI vGs cI 16 qGs), (kAI vTo cI 96 qtz1), (kAI vPr cI 2 qpz1), (kAI vSt cI 2 qsz1), (kAI vFn cI 2 qfz1), (kAI vFt cI 32 qFt)]) hP hD [0, 1, 2, 3, 4, 5, 6, 7, 8] (by decide +kernel) rfl
        exact W.iret (v := bez1) hx₀ hb hr (fun t₀ ht hW => ⟨⟨bez1, (k_fn [knz1, fez1, enz1, anz1, coz1], k_fa [qtz1, qpz1, qsz1, qfz1], k_fl [], k_fL [], k_fp []), rfl, ⟨(by rw [← (kRq_e hiz1_2 c_2)]; exact (if_pos (Or.inl c_3)).symm), hiz1_3, hiz1_4, hiz1_5, hiz1_6⟩, by rw [ht]; exact hP9, va_K.moved hW.alike hK, hD9⟩, hS.F ht⟩) hS.2.2 dX12_practiceOf_67_a.2.2.2.2.2.2.2.2.2.2.2.2.2.2
      · refine lv_iload_n hx₀ hb dX12_practiceOf_67_a.2.2.2.2.2.2.2.1 rfl (lv_at hl 5 rfl) ?_
        refine lv_iconst (v := 1) hx₀ hb dX12_practiceOf_67_a.2.2.2.2.2.2.2.2.1 (by decide +kernel) ?_
        refine lv_icmp_ne (tgt := 91) hx₀ hb dX12_practiceOf_67_a.2.2.2.2.2.2.2.2.2.1 (by decide) (fun c_4 => ?_) (fun c_4 => ?_)
        · refine lv_iload hx₀ hb dX12_practiceOf_67_a.2.2.2.2.2.2.2.2.2.2.2.2.1 (lv_at hl 1 rfl) ?_
          obtain ⟨hPc, hDc, hFc, hC⟩ := k_cw (wc := []) hP hD hS hA [] (by decide +kernel) rfl
          refine va_calli (va_runS (As := [.int bez1]) (rest := []) ⟨hx₀, hb, hml, hown, hts⟩ (e_ones l dC dI cI cJ cQ H.size bez1 (lf_e_practiceOf_1 bez1 hiz1_1 c_3)) (va_cwS 1 hts (kGS wd_671 wd_669 wd_670 wd_5) rfl rfl rfl (by decide +kernel) ⟨Nat.le_of_ble_eq_true rfl, Nat.le_of_ble_eq_true rfl⟩) (k_preS hK hPc hDc hN) rfl rfl hl.1 rfl (lv_room (Nat.le_of_ble_eq_true rfl)) dX12_practiceOf_67_a.2.2.2.2.2.2.2.2.2.2.2.2.2.1 ⟨by decide +kernel, by decide +kernel⟩) hS (fun q _ h => hFc q h) hFc (fun r_5 u₀ t₀ H1 locs ht hvm hw hB hz1 hk1 hS => ?_)
          obtain ⟨hP1, hK1, hD1⟩ := hB
          rw [ht] at hP1
          have hJ := k_jn (wr := [(kX12 hm vFo vSi vIt vMo la vBy vTy mi vMi pn vPs gn vGs fn vFt le vTo knz1 fez1 enz1 ca anz1 coz1 vPr vSt vFn sn vSg vAl dr), (kAI vMi cI 24 qMi), (kAI vPs cI 32 qPs), (kAI vGs cI 16 qGs), (kAI vTo cI 96 qtz1), (kAI vPr cI 2 qpz1), (kAI vSt cI 2 qsz1), (kAI vFn cI 2 qfz1), (kAI vFt cI 32 qFt)]) (wt := [(kX12 hm vFo vSi vIt vMo la vBy vTy mi vMi pn vPs gn vGs fn vFt le vTo knz1 fez1 enz1 ca anz1 coz1 vPr vSt vFn sn vSg vAl dr), (kAI vMi cI 24 qMi), (kAI vPs cI 32 qPs), (kAI vGs cI 16 qGs), (kAI vTo cI 96 qtz1), (kAI vPr cI 2 qpz1), (kAI vSt cI 2 qsz1), (kAI vFn cI 2 qfz1), (kAI vFt cI 32 qFt)]) hP hD hC [0, 1, 2, 3, 4, 5, 6, 7, 8] rfl (by decide +kernel) (by decide +kernel) hk1 hFc hP1 hD1 rfl
          clear hP hD hPc hDc hFc hC hP1 hD1 hK1 hz1 hk1 hvm ht
          obtain ⟨hP, hD⟩ := hJ
          generalize H1 = H at hP hS ⊢
          try dsimp only at hw
          refine k_topi (v := kPp bez1) hw ?_
          obtain ⟨hP9, hD9⟩ := k_c2 (wc := [(kX12 hm vFo vSi vIt vMo la vBy vTy mi vMi pn vPs gn vGs fn vFt le vTo knz1 fez1 enz1 ca anz1 coz1 vPr vSt vFn sn vSg vAl dr), (kAI vMi cI 24 qMi), (kAI vPs cI 32 qPs), (kAI vGs cI 16 qGs), (kAI vTo cI 96 qtz1), (kAI vPr cI 2 qpz1), (kAI vSt cI 2 qsz1), (kAI vFn cI 2 qfz1), (kAI vFt cI 32 qFt)]) hP hD [0, 1, 2, 3, 4, 5, 6, 7, 8] (by decide +kernel) rfl
          exact W.iret (v := kPp bez1) hx₀ hb hr (fun t₀ ht hW => ⟨⟨kPp bez1, (k_fn [knz1, fez1, enz1, anz1, coz1], k_fa [qtz1, qpz1, qsz1, qfz1], k_fl [], k_fL [], k_fp []), rfl, ⟨(by rw [← (kRq_e hiz1_2 c_2)]; exact (if_neg (fun z => z.elim c_3 c_4)).symm), hiz1_3, hiz1_4, hiz1_5, hiz1_6⟩, by rw [ht]; exact hP9, va_K.moved hW.alike hK, hD9⟩, hS.F ht⟩) hS.2.2 dX12_practiceOf_67_a.2.2.2.2.2.2.2.2.2.2.2.2.2.2
        · refine lv_iload hx₀ hb dX12_practiceOf_67_a.2.2.2.2.2.2.2.2.2.2.1 (lv_at hl 1 rfl) ?_
          refine lv_goto (tgt := 96) hx₀ hb dX12_practiceOf_67_a.2.2.2.2.2.2.2.2.2.2.2.1 (by decide) ?_
          obtain ⟨hP9, hD9⟩ := k_c2 (wc := [(kX12 hm vFo vSi vIt vMo la vBy vTy mi vMi pn vPs gn vGs fn vFt le vTo knz1 fez1 enz1 ca anz1 coz1 vPr vSt vFn sn vSg vAl dr), (kAI vMi cI 24 qMi), (kAI vPs cI 32 qPs), (kAI vGs cI 16 qGs), (kAI vTo cI 96 qtz1), (kAI vPr cI 2 qpz1), (kAI vSt cI 2 qsz1), (kAI vFn cI 2 qfz1), (kAI vFt cI 32 qFt)]) hP hD [0, 1, 2, 3, 4, 5, 6, 7, 8] (by decide +kernel) rfl
          exact W.iret (v := bez1) hx₀ hb hr (fun t₀ ht hW => ⟨⟨bez1, (k_fn [knz1, fez1, enz1, anz1, coz1], k_fa [qtz1, qpz1, qsz1, qfz1], k_fl [], k_fL [], k_fp []), rfl, ⟨(by rw [← (kRq_e hiz1_2 c_2)]; exact (if_pos (Or.inr c_4)).symm), hiz1_3, hiz1_4, hiz1_5, hiz1_6⟩, by rw [ht]; exact hP9, va_K.moved hW.alike hK, hD9⟩, hS.F ht⟩) hS.2.2 dX12_practiceOf_67_a.2.2.2.2.2.2.2.2.2.2.2.2.2.2
    · refine lv_aload_n hx₀ hb dX12_practiceOf_0_a.2.2.2.2.2.2.2.2.2.2.1 rfl (lv_at hl 3 rfl) ?_
      refine lv_iload hx₀ hb dX12_practiceOf_0_a.2.2.2.2.2.2.2.2.2.2.2.1 (lv_at hl 0 rfl) ?_
      refine va_put (D := (dC, dI)) (ci := 11) (v := .int smz1) (ty := .int) (C := RX12) (T := TX12) (N := 30) hx₀ hb hts inlX12 tyX12 tyX12_ok nmX12 hown hK hP hD hS 0 rfl rfl 15 (by decide) (hts (.fieldLink RX12 167 "BittenStickModel" "learned" "I") wd_417) (fun _ h9 => h9) rfl (by decide +kernel) rfl rfl (Nat.le_of_ble_eq_true rfl) dX12_practiceOf_0_a.2.2.2.2.2.2.2.2.2.2.2.2.1 ?_
      clear hP hD hS
      intro H locs hP hD hS
      replace hP := k_w2 (wt := [(kX12 hm vFo vSi vIt vMo la vBy vTy mi vMi pn vPs gn vGs fn vFt smz1 vTo knz1 fez1 enz1 ca anz1 coz1 vPr vSt vFn sn vSg vAl dr), (kAI vMi cI 24 qMi), (kAI vPs cI 32 qPs), (kAI vGs cI 16 qGs), (kAI vTo cI 96 qtz1), (kAI vPr cI 2 qpz1), (kAI vSt cI 2 qsz1), (kAI vFn cI 2 qfz1), (kAI vFt cI 32 qFt)]) hP hD rfl
      replace hD := hP.2
      replace hP := hP.1
      refine lv_aload_n hx₀ hb dX12_practiceOf_0_a.2.2.2.2.2.2.2.2.2.2.2.2.2.1 rfl (lv_at hl 3 rfl) ?_
      refine lv_iload_n hx₀ hb dX12_practiceOf_0_a.2.2.2.2.2.2.2.2.2.2.2.2.2.2.1 rfl (lv_at hl 4 rfl) ?_
      obtain ⟨hPc, hDc, hFc, hC⟩ := k_cw (wc := [(kX12 hm vFo vSi vIt vMo la vBy vTy mi vMi pn vPs gn vGs fn vFt smz1 vTo knz1 fez1 enz1 ca anz1 coz1 vPr vSt vFn sn vSg vAl dr), (kAI vMi cI 24 qMi), (kAI vPs cI 32 qPs), (kAI vGs cI 16 qGs), (kAI vTo cI 96 qtz1), (kAI vPr cI 2 qpz1), (kAI vSt cI 2 qsz1), (kAI vFn cI 2 qfz1), (kAI vFt cI 32 qFt)]) hP hD hS hA [0, 1, 2, 3, 4, 5, 6, 7, 8] (by decide +kernel) rfl
      refine va_callv (va_runV (As := [.int f1]) (rest := []) ⟨hx₀, hb, hml, hown, hts⟩ (e_fliesTold l dC dI cI cJ cQ H.size hm f1 vFo vSi vIt vMo la vBy vTy mi vMi pn vPs gn vGs fn vFt smz1 vTo knz1 fez1 enz1 ca anz1 coz1 vPr vSt vFn sn vSg vAl dr qMi qPs qGs qtz1 qpz1 qsz1 qfz1 qFt (hh0) (hh1) (hh2) (hiz1_3) (hh7) (hh8) (hh9) (hh10)) (cwV 1 hts (kGV wd_536 wd_533 wd_534 wd_535 wd_5) rfl rfl rfl (by decide +kernel) ⟨Nat.le_of_ble_eq_true rfl, Nat.le_of_ble_eq_true rfl⟩) (k_preV11 (q0 := 0) hK hPc hDc hN rfl) rfl rfl hl.1 rfl (lv_room (Nat.le_of_ble_eq_true rfl)) dX12_practiceOf_0_a.2.2.2.2.2.2.2.2.2.2.2.2.2.2.2 ⟨by decide +kernel, by decide +kernel⟩) hS (fun q _ h => hFc q h) hFc (fun u₀ t₀ H1 locs ht hvm hw hB hz1 hk1 hS => ?_)
      obtain ⟨g_7, ga_8, gl_9, gb_10, gp_11⟩ := u₀
      obtain ⟨hP1, hK1, hD1⟩ := hB
      rw [ht] at hP1
      have hJ := k_jn (wr := []) (wt := [(kX12 hm vFo vSi vIt vMo la vBy vTy mi vMi pn vPs gn vGs fn vFt smz1 vTo (g_7 0) (g_7 1) (g_7 2) ca (g_7 3) (g_7 4) vPr vSt vFn sn vSg vAl dr), (kAI vMi cI 24 qMi), (kAI vPs cI 32 qPs), (kAI vGs cI 16 qGs), (kAI vTo cI 96 (ga_8 0)), (kAI vPr cI 2 (ga_8 1)), (kAI vSt cI 2 (ga_8 2)), (kAI vFn cI 2 (ga_8 3)), (kAI vFt cI 32 qFt)]) hP hD hC [] rfl (by decide +kernel) (by decide +kernel) hk1 hFc hP1 hD1 rfl
      clear hP hD hPc hDc hFc hC hP1 hD1 hK1 hz1 hk1 hvm ht
      obtain ⟨hP, hD⟩ := hJ
      generalize H1 = H at hP hS ⊢
      try dsimp only at hw
      obtain ⟨c_12, c_13, c_14, c_15, c_16⟩ := hw
      refine lv_aload_n hx₀ hb dX12_practiceOf_29_a.1 rfl (lv_at hl 3 rfl) ?_
      refine va_get (D := (dC, dI)) (ci := 11) (v := .int (g_7 2)) (C := RX12) (T := TX12) (N := 30) hx₀ hb hts inlX12 hown hK hP 0 rfl rfl 19 (by decide) (hts (.fieldLink RX12 196 "BittenStickModel" "end" "I") wd_543) (fun _ h9 => h9) rfl dX12_practiceOf_29_a.2.1 ?_
      refine lv_if_ne (tgt := 60) hx₀ hb dX12_practiceOf_29_a.2.2.1 (by decide) (fun c_17 => ?_) (fun c_17 => ?_)
      · refine lv_iload hx₀ hb dX12_practiceOf_29_a.2.2.2.2.2.2.2.2.2.2.2.2.2.1 (lv_at hl 1 rfl) ?_
        refine lv_istore (lv' := [(4, .int bez1), (5, .int smz1), (3, .int le), (0, .ref hm), (1, .int f1), (2, .int w1)]) hx₀ hb dX12_practiceOf_29_a.2.2.2.2.2.2.2.2.2.2.2.2.2.2.1 hl (by decide) rfl (fun ls hl => ?_)
        refine lv_iinc (v := smz1 + 1) (lv' := [(5, .int (smz1 + 1)), (4, .int bez1), (3, .int le), (0, .ref hm), (1, .int f1), (2, .int w1)]) hx₀ hb dX12_practiceOf_29_a.2.2.2.2.2.2.2.2.2.2.2.2.2.2.2 hl (k := 1) rfl rfl (by decide) rfl (fun ls hl => ?_)
        refine lv_goto (tgt := 11) hx₀ hb dX12_practiceOf_67_a.1 (by decide) ?_
        exact ihz1 _ (lf_g_practiceOf_2 smz1 jz1 hiz1_0 hjz1 c_2) bez1 (smz1 + 1) (g_7 0) (g_7 1) (g_7 2) (g_7 3) (g_7 4) smz1 (ga_8 0) (ga_8 1) (ga_8 2) (ga_8 3) _ _ _ (lf_g_practiceOf_1 smz1 jz1 hiz1_0 hjz1 c_2) (hiz1_1) (kRq_n hiz1_2 c_2 (kO_done c_16).2 (fun z => c_17 z.1)) (c_12) (c_13) (c_14) (c_15) rfl (hP.sub [0, 1, 2, 3, 4, 5, 6, 7, 8] rfl) (hD.sub [0, 1, 2, 3, 4, 5, 6, 7, 8] (by decide +kernel) rfl) hS (lv_sub hl [0, 1, 2, 3, 4, 5] rfl)
      · refine lv_iload hx₀ hb dX12_practiceOf_29_a.2.2.2.1 (lv_at hl 1 rfl) ?_
        refine lv_iconst (v := (-1)) hx₀ hb dX12_practiceOf_29_a.2.2.2.2.1 (by decide +kernel) ?_
        refine lv_icmp_eq (tgt := 55) hx₀ hb dX12_practiceOf_29_a.2.2.2.2.2.1 (by decide) (fun c_18 => ?_) (fun c_18 => ?_)
        · refine lv_iload hx₀ hb dX12_practiceOf_29_a.2.2.2.2.2.2.2.2.2.2.2.1 (lv_at hl 0 rfl) ?_
          refine lv_goto (tgt := 62) hx₀ hb dX12_practiceOf_29_a.2.2.2.2.2.2.2.2.2.2.2.2.1 (by decide) ?_
          refine lv_istore (lv' := [(4, .int smz1), (5, .int smz1), (3, .int le), (0, .ref hm), (1, .int f1), (2, .int w1)]) hx₀ hb dX12_practiceOf_29_a.2.2.2.2.2.2.2.2.2.2.2.2.2.2.1 hl (by decide) rfl (fun ls hl => ?_)
          refine lv_iinc (v := smz1 + 1) (lv' := [(5, .int (smz1 + 1)), (4, .int smz1), (3, .int le), (0, .ref hm), (1, .int f1), (2, .int w1)]) hx₀ hb dX12_practiceOf_29_a.2.2.2.2.2.2.2.2.2.2.2.2.2.2.2 hl (k := 1) rfl rfl (by decide) rfl (fun ls hl => ?_)
          refine lv_goto (tgt := 11) hx₀ hb dX12_practiceOf_67_a.1 (by decide) ?_
          exact ihz1 _ (lf_g_practiceOf_2 smz1 jz1 hiz1_0 hjz1 c_2) smz1 (smz1 + 1) (g_7 0) (g_7 1) (g_7 2) (g_7 3) (g_7 4) smz1 (ga_8 0) (ga_8 1) (ga_8 2) (ga_8 3) _ _ _ (lf_g_practiceOf_1 smz1 jz1 hiz1_0 hjz1 c_2) (lf_e_practiceOf_2 smz1 jz1 hiz1_0 hjz1 c_2) (kRq_y hiz1_2 c_2 (kO_done c_16).2 c_17 (Or.inl c_18)) (c_12) (c_13) (c_14) (c_15) rfl (hP.sub [0, 1, 2, 3, 4, 5, 6, 7, 8] rfl) (hD.sub [0, 1, 2, 3, 4, 5, 6, 7, 8] (by decide +kernel) rfl) hS (lv_sub hl [0, 1, 2, 3, 4, 5] rfl)
        · refine lv_iload hx₀ hb dX12_practiceOf_29_a.2.2.2.2.2.2.1 (lv_at hl 0 rfl) ?_
          obtain ⟨hPc, hDc, hFc, hC⟩ := k_cw (wc := []) hP hD hS hA [] (by decide +kernel) rfl
          refine va_calli (va_runS (As := [.int smz1]) (rest := []) ⟨hx₀, hb, hml, hown, hts⟩ (e_ones l dC dI cI cJ cQ H.size smz1 (lf_e_prac__1 smz1 jz1 hiz1_0 hjz1 c_2)) (va_cwS 1 hts (kGS wd_671 wd_669 wd_670 wd_5) rfl rfl rfl (by decide +kernel) ⟨Nat.le_of_ble_eq_true rfl, Nat.le_of_ble_eq_true rfl⟩) (k_preS hK hPc hDc hN) rfl rfl hl.1 rfl (lv_room (Nat.le_of_ble_eq_true rfl)) dX12_practiceOf_29_a.2.2.2.2.2.2.2.1 ⟨by decide +kernel, by decide +kernel⟩) hS (fun q _ h => hFc q h) hFc (fun r_19 u₀ t₀ H1 locs ht hvm hw hB hz1 hk1 hS => ?_)
          obtain ⟨hP1, hK1, hD1⟩ := hB
          rw [ht] at hP1
          have hJ := k_jn (wr := [(kX12 hm vFo vSi vIt vMo la vBy vTy mi vMi pn vPs gn vGs fn vFt smz1 vTo (g_7 0) (g_7 1) (g_7 2) ca (g_7 3) (g_7 4) vPr vSt vFn sn vSg vAl dr), (kAI vMi cI 24 qMi), (kAI vPs cI 32 qPs), (kAI vGs cI 16 qGs), (kAI vTo cI 96 (ga_8 0)), (kAI vPr cI 2 (ga_8 1)), (kAI vSt cI 2 (ga_8 2)), (kAI vFn cI 2 (ga_8 3)), (kAI vFt cI 32 qFt)]) (wt := [(kX12 hm vFo vSi vIt vMo la vBy vTy mi vMi pn vPs gn vGs fn vFt smz1 vTo (g_7 0) (g_7 1) (g_7 2) ca (g_7 3) (g_7 4) vPr vSt vFn sn vSg vAl dr), (kAI vMi cI 24 qMi), (kAI vPs cI 32 qPs), (kAI vGs cI 16 qGs), (kAI vTo cI 96 (ga_8 0)), (kAI vPr cI 2 (ga_8 1)), (kAI vSt cI 2 (ga_8 2)), (kAI vFn cI 2 (ga_8 3)), (kAI vFt cI 32 qFt)]) hP hD hC [0, 1, 2, 3, 4, 5, 6, 7, 8] rfl (by decide +kernel) (by decide +kernel) hk1 hFc hP1 hD1 rfl
          clear hP hD hPc hDc hFc hC hP1 hD1 hK1 hz1 hk1 hvm ht
          obtain ⟨hP, hD⟩ := hJ
          generalize H1 = H at hP hS ⊢
          try dsimp only at hw
          refine k_topi (v := kPp smz1) hw ?_
          refine lv_iload hx₀ hb dX12_practiceOf_29_a.2.2.2.2.2.2.2.2.1 (lv_at hl 1 rfl) ?_
          obtain ⟨hPc, hDc, hFc, hC⟩ := k_cw (wc := []) hP hD hS hA [] (by decide +kernel) rfl
          refine va_calli (va_runS (As := [.int bez1]) (rest := [.int (kPp smz1)]) ⟨hx₀, hb, hml, hown, hts⟩ (e_ones l dC dI cI cJ cQ H.size bez1 (lf_e_practiceOf_1 bez1 hiz1_1 c_18)) (va_cwS 1 hts (kGS wd_671 wd_669 wd_670 wd_5) rfl rfl rfl (by decide +kernel) ⟨Nat.le_of_ble_eq_true rfl, Nat.le_of_ble_eq_true rfl⟩) (k_preS hK hPc hDc hN) rfl rfl hl.1 rfl (lv_room (Nat.le_of_ble_eq_true rfl)) dX12_practiceOf_29_a.2.2.2.2.2.2.2.2.2.1 ⟨by decide +kernel, by decide +kernel⟩) hS (fun q _ h => hFc q h) hFc (fun r_20 u₀ t₀ H1 locs ht hvm hw hB hz1 hk1 hS => ?_)
          obtain ⟨hP1, hK1, hD1⟩ := hB
          rw [ht] at hP1
          have hJ := k_jn (wr := [(kX12 hm vFo vSi vIt vMo la vBy vTy mi vMi pn vPs gn vGs fn vFt smz1 vTo (g_7 0) (g_7 1) (g_7 2) ca (g_7 3) (g_7 4) vPr vSt vFn sn vSg vAl dr), (kAI vMi cI 24 qMi), (kAI vPs cI 32 qPs), (kAI vGs cI 16 qGs), (kAI vTo cI 96 (ga_8 0)), (kAI vPr cI 2 (ga_8 1)), (kAI vSt cI 2 (ga_8 2)), (kAI vFn cI 2 (ga_8 3)), (kAI vFt cI 32 qFt)]) (wt := [(kX12 hm vFo vSi vIt vMo la vBy vTy mi vMi pn vPs gn vGs fn vFt smz1 vTo (g_7 0) (g_7 1) (g_7 2) ca (g_7 3) (g_7 4) vPr vSt vFn sn vSg vAl dr), (kAI vMi cI 24 qMi), (kAI vPs cI 32 qPs), (kAI vGs cI 16 qGs), (kAI vTo cI 96 (ga_8 0)), (kAI vPr cI 2 (ga_8 1)), (kAI vSt cI 2 (ga_8 2)), (kAI vFn cI 2 (ga_8 3)), (kAI vFt cI 32 qFt)]) hP hD hC [0, 1, 2, 3, 4, 5, 6, 7, 8] rfl (by decide +kernel) (by decide +kernel) hk1 hFc hP1 hD1 rfl
          clear hP hD hPc hDc hFc hC hP1 hD1 hK1 hz1 hk1 hvm ht
          obtain ⟨hP, hD⟩ := hJ
          generalize H1 = H at hP hS ⊢
          try dsimp only at hw
          refine k_topi (v := kPp bez1) hw ?_
          refine lv_icmp_ge (tgt := 60) hx₀ hb dX12_practiceOf_29_a.2.2.2.2.2.2.2.2.2.2.1 (by decide) (fun c_21 => ?_) (fun c_21 => ?_)
          · refine lv_iload hx₀ hb dX12_practiceOf_29_a.2.2.2.2.2.2.2.2.2.2.2.2.2.1 (lv_at hl 1 rfl) ?_
            refine lv_istore (lv' := [(4, .int bez1), (5, .int smz1), (3, .int le), (0, .ref hm), (1, .int f1), (2, .int w1)]) hx₀ hb dX12_practiceOf_29_a.2.2.2.2.2.2.2.2.2.2.2.2.2.2.1 hl (by decide) rfl (fun ls hl => ?_)
            refine lv_iinc (v := smz1 + 1) (lv' := [(5, .int (smz1 + 1)), (4, .int bez1), (3, .int le), (0, .ref hm), (1, .int f1), (2, .int w1)]) hx₀ hb dX12_practiceOf_29_a.2.2.2.2.2.2.2.2.2.2.2.2.2.2.2 hl (k := 1) rfl rfl (by decide) rfl (fun ls hl => ?_)
            refine lv_goto (tgt := 11) hx₀ hb dX12_practiceOf_67_a.1 (by decide) ?_
            exact ihz1 _ (lf_g_practiceOf_2 smz1 jz1 hiz1_0 hjz1 c_2) bez1 (smz1 + 1) (g_7 0) (g_7 1) (g_7 2) (g_7 3) (g_7 4) smz1 (ga_8 0) (ga_8 1) (ga_8 2) (ga_8 3) _ _ _ (lf_g_practiceOf_1 smz1 jz1 hiz1_0 hjz1 c_2) (hiz1_1) (kRq_n hiz1_2 c_2 (kO_done c_16).2 (fun z => z.2.elim c_18 (Int32.not_lt.mpr c_21))) (c_12) (c_13) (c_14) (c_15) rfl (hP.sub [0, 1, 2, 3, 4, 5, 6, 7, 8] rfl) (hD.sub [0, 1, 2, 3, 4, 5, 6, 7, 8] (by decide +kernel) rfl) hS (lv_sub hl [0, 1, 2, 3, 4, 5] rfl)
          · refine lv_iload hx₀ hb dX12_practiceOf_29_a.2.2.2.2.2.2.2.2.2.2.2.1 (lv_at hl 0 rfl) ?_
            refine lv_goto (tgt := 62) hx₀ hb dX12_practiceOf_29_a.2.2.2.2.2.2.2.2.2.2.2.2.1 (by decide) ?_
            refine lv_istore (lv' := [(4, .int smz1), (5, .int smz1), (3, .int le), (0, .ref hm), (1, .int f1), (2, .int w1)]) hx₀ hb dX12_practiceOf_29_a.2.2.2.2.2.2.2.2.2.2.2.2.2.2.1 hl (by decide) rfl (fun ls hl => ?_)
            refine lv_iinc (v := smz1 + 1) (lv' := [(5, .int (smz1 + 1)), (4, .int smz1), (3, .int le), (0, .ref hm), (1, .int f1), (2, .int w1)]) hx₀ hb dX12_practiceOf_29_a.2.2.2.2.2.2.2.2.2.2.2.2.2.2.2 hl (k := 1) rfl rfl (by decide) rfl (fun ls hl => ?_)
            refine lv_goto (tgt := 11) hx₀ hb dX12_practiceOf_67_a.1 (by decide) ?_
            exact ihz1 _ (lf_g_practiceOf_2 smz1 jz1 hiz1_0 hjz1 c_2) smz1 (smz1 + 1) (g_7 0) (g_7 1) (g_7 2) (g_7 3) (g_7 4) smz1 (ga_8 0) (ga_8 1) (ga_8 2) (ga_8 3) _ _ _ (lf_g_practiceOf_1 smz1 jz1 hiz1_0 hjz1 c_2) (lf_e_practiceOf_2 smz1 jz1 hiz1_0 hjz1 c_2) (kRq_y hiz1_2 c_2 (kO_done c_16).2 c_17 (Or.inr (Int32.not_le.mp c_21))) (c_12) (c_13) (c_14) (c_15) rfl (hP.sub [0, 1, 2, 3, 4, 5, 6, 7, 8] rfl) (hD.sub [0, 1, 2, 3, 4, 5, 6, 7, 8] (by decide +kernel) rfl) hS (lv_sub hl [0, 1, 2, 3, 4, 5] rfl)
set_option maxHeartbeats 4000000 in
set_option maxRecDepth 100000 in
theorem m_practice (l : Launch) (dC : Nat → ClassId) (dI : Nat → Nat → Nat) (cI cJ cQ : ClassId) (sz : Nat) (hm : Nat) (f1 : Int32) (w1 : Int32) (vFo : Nat) (vSi : Nat) (vIt : Nat) (vMo : Nat) (la : Int32) (vBy : Nat) (vTy : Nat) (mi : Int32) (vMi : Nat) (pn : Int32) (vPs : Nat) (gn : Int32) (vGs : Nat) (fn : Int32) (vFt : Nat) (le : Int32) (vTo : Nat) (kn : Int32) (fe : Int32) (en : Int32) (ca : Int32) (an : Int32) (co : Int32) (vPr : Nat) (vSt : Nat) (vFn : Nat) (sn : Int32) (vSg : Nat) (vAl : Nat) (dr : Int32) (qTy : Nat → Int32) (qBy : Nat → Int32) (qMi : Nat → Int32) (qPs : Nat → Int32) (qGs : Nat → Int32) (qTo : Nat → Int32) (qPr : Nat → Int32) (qSt : Nat → Int32) (qFn : Nat → Int32) (qFt : Nat → Int32) (hh0 : 0 ≤ (qTy 0).toInt ∧ (qTy 0).toInt ≤ 24) (hh1 : 0 ≤ (qTy 1).toInt ∧ (qTy 1).toInt ≤ 39) (hh2 : 0 ≤ (qTy 2).toInt ∧ (qTy 2).toInt ≤ 23) (hh3 : k_bd 2 0 7 qPr) (hh4 : 0 ≤ fe ∧ fe ≤ 24) (hh5 : en = 0 ∨ kn = 0 ∨ fe ≤ 23) (hh6 : 0 ≤ kn ∧ kn ≤ 24) (hh7 : 0 ≤ fn ∧ fn ≤ 8) (hh8 : ca = 16777215) (hh9 : k_bd 32 0 9 qFt) : Met l yX12_practice (kW yX12_practice cX12_practice 3 (some .int)) { frames := 5, cells := 0, slots := 0, locals := 124 } (kPre dC dI cI cJ cQ sz [.ref hm, .int f1, .int w1] [(kX12 hm vFo vSi vIt vMo la vBy vTy mi vMi pn vPs gn vGs fn vFt le vTo kn fe en ca an co vPr vSt vFn sn vSg vAl dr), (kAI vTy cI 3 qTy), (kAI vBy cI 120 qBy), (kAI vMi cI 24 qMi), (kAI vPs cI 32 qPs), (kAI vGs cI 16 qGs), (kAI vTo cI 96 qTo), (kAI vPr cI 2 qPr), (kAI vSt cI 2 qSt), (kAI vFn cI 2 qFn), (kAI vFt cI 32 qFt)]) (va_Qi (fun (r : Int32) (u : kS) => (r = if (0 ≤ f1 ∧ f1 < fn) ∧ 0 ≤ w1 ∧ w1 ≤ 1 then (if (kRq (fun x1 => kOR (u.2.1 0) (u.2.1 1) (u.2.1 2) (u.1 0) (u.1 1) (u.1 2) x1 (kP0 qFt f1) (kP1 qFt f1) (kP2 qFt f1) (kP1 (u.2.1 1) (kP0 qFt f1)) (fun x8 => if x8 < (24 : Int32) then (kP3 qFt f1) else (0 : Int32))) (kfu 64 0) 0 (-1)) = -1 ∨ w1 = 1 then (kRq (fun x1 => kOR (u.2.1 0) (u.2.1 1) (u.2.1 2) (u.1 0) (u.1 1) (u.1 2) x1 (kP0 qFt f1) (kP1 qFt f1) (kP2 qFt f1) (kP1 (u.2.1 1) (kP0 qFt f1)) (fun x8 => if x8 < (24 : Int32) then (kP3 qFt f1) else (0 : Int32))) (kfu 64 0) 0 (-1)) else kPp (kRq (fun x1 => kOR (u.2.1 0) (u.2.1 1) (u.2.1 2) (u.1 0) (u.1 1) (u.1 2) x1 (kP0 qFt f1) (kP1 qFt f1) (kP2 qFt f1) (kP1 (u.2.1 1) (kP0 qFt f1)) (fun x8 => if x8 < (24 : Int32) then (kP3 qFt f1) else (0 : Int32))) (kfu 64 0) 0 (-1))) else -2) ∧ (0 ≤ (u.1 0) ∧ (u.1 0) ≤ 24) ∧ (0 ≤ (u.1 1) ∧ (u.1 1) ≤ 8) ∧ (0 ≤ (u.1 2) ∧ (u.1 2) ≤ 8) ∧ (k_bd 2 0 7 (u.2.1 4)) ∧ (0 ≤ (u.1 4) ∧ (u.1 4) ≤ 24) ∧ ((u.1 5) = 0 ∨ (u.1 3) = 0 ∨ (u.1 4) ≤ 23) ∧ (0 ≤ (u.1 3) ∧ (u.1 3) ≤ 24) ∧ (k_tm (u.1 1) (u.2.1 1)) ∧ ((u.1 0) = kNm (qTy 0) (qTy 0) (kv4 qBy)) ∧ ((u.1 1) = kNm (kTh7 (qTy 1)) (qTy 1) (kv7 qBy)) ∧ ((u.1 2) = kNm (kTh2 (qTy 2)) (qTy 2) (kv2 qBy)) ∧ (k_ml (u.1 0) (u.2.1 0) (kv4 qBy)) ∧ (k_mq 5 4 (u.1 1) (qTy 1) (u.2.1 1) (kv7 qBy)) ∧ (k_mq 3 2 (u.1 2) (qTy 2) (u.2.1 2) (kv2 qBy))) (fun (u : kS) t₀ => kB dC dI cI cJ cQ (va_A [(kX12 hm vFo vSi vIt vMo la vBy vTy mi vMi pn vPs gn vGs fn vFt le vTo kn fe en ca an co vPr vSt vFn sn vSg vAl dr), (kAI vTy cI 3 qTy), (kAI vBy cI 120 qBy), (kAI vMi cI 24 qMi), (kAI vPs cI 32 qPs), (kAI vGs cI 16 qGs), (kAI vTo cI 96 qTo), (kAI vPr cI 2 qPr), (kAI vSt cI 2 qSt), (kAI vFn cI 2 qFn), (kAI vFt cI 32 qFt)] sz) [(kX12 hm vFo vSi vIt vMo la vBy vTy (u.1 0) vMi (u.1 1) vPs (u.1 2) vGs fn vFt le vTo (u.1 3) (u.1 4) (u.1 5) ca (u.1 6) (u.1 7) vPr vSt vFn sn vSg vAl dr), (kAI vTy cI 3 qTy), (kAI vBy cI 120 qBy), (kAI vMi cI 24 (u.2.1 0)), (kAI vPs cI 32 (u.2.1 1)), (kAI vGs cI 16 (u.2.1 2)), (kAI vTo cI 96 (u.2.1 3)), (kAI vPr cI 2 (u.2.1 4)), (kAI vSt cI 2 (u.2.1 5)), (kAI vFn cI 2 (u.2.1 6)), (kAI vFt cI 32 qFt)] t₀) (va_A [(kX12 hm vFo vSi vIt vMo la vBy vTy mi vMi pn vPs gn vGs fn vFt le vTo kn fe en ca an co vPr vSt vFn sn vSg vAl dr), (kAI vTy cI 3 qTy), (kAI vBy cI 120 qBy), (kAI vMi cI 24 qMi), (kAI vPs cI 32 qPs), (kAI vGs cI 16 qGs), (kAI vTo cI 96 qTo), (kAI vPr cI 2 qPr), (kAI vSt cI 2 qSt), (kAI vFn cI 2 qFn), (kAI vFt cI 32 qFt)] sz)) 0 0 (va_A [(kX12 hm vFo vSi vIt vMo la vBy vTy mi vMi pn vPs gn vGs fn vFt le vTo kn fe en ca an co vPr vSt vFn sn vSg vAl dr), (kAI vTy cI 3 qTy), (kAI vBy cI 120 qBy), (kAI vMi cI 24 qMi), (kAI vPs cI 32 qPs), (kAI vGs cI 16 qGs), (kAI vTo cI 96 qTo), (kAI vPr cI 2 qPr), (kAI vSt cI 2 qSt), (kAI vFn cI 2 qFn), (kAI vFt cI 32 qFt)] sz) := by
  refine Met.ofW (cc := cX12_practice) (maxL := 3) (ret := (some .int)) (by decide) rfl ?_
  intro p₀ e₀ s₀ m₀ args below meth c₀ s₁ B hml hv₀
  obtain ⟨rfl, hsz, hP, hK, hD0, hN⟩ := hv₀
  have hx₀ := B.exec
  have hb := B.bytes
  have hr := B.returns
  have hts := atoms_spec (ws := (kW yX12_practice cX12_practice 3 (some .int))) B.pre
  have hts := fun w h => hts w (List.mem_cons_of_mem _ h)
  have hown : s₀.vm.findClass RX12 = some m₀.cls := findClass_of_methodNamed B.named
  have hlocks := B.notSynchronized
  subst hsz
  have hD := hD0.self (sz := s₀.heap.size)
  generalize hAe : va_A [(kX12 hm vFo vSi vIt vMo la vBy vTy mi vMi pn vPs gn vGs fn vFt le vTo kn fe en ca an co vPr vSt vFn sn vSg vAl dr), (kAI vTy cI 3 qTy), (kAI vBy cI 120 qBy), (kAI vMi cI 24 qMi), (kAI vPs cI 32 qPs), (kAI vGs cI 16 qGs), (kAI vTo cI 96 qTo), (kAI vPr cI 2 qPr), (kAI vSt cI 2 qSt), (kAI vFn cI 2 qFn), (kAI vFt cI 32 qFt)] s₀.heap.size = A at hD ⊢
  have hA : ∀ q : Nat, s₀.heap.size ≤ q → A q := fun q h => by rw [← hAe]; exact Or.inr h
  have hS : va_S A s₀.heap s₀.heap [] := va_S.rf
  have hP : va_P (dC, dI) vwCl [(kX12 hm vFo vSi vIt vMo la vBy vTy mi vMi pn vPs gn vGs fn vFt le vTo kn fe en ca an co vPr vSt vFn sn vSg vAl dr), (kAI vTy cI 3 qTy), (kAI vBy cI 120 qBy), (kAI vMi cI 24 qMi), (kAI vPs cI 32 qPs), (kAI vGs cI 16 qGs), (kAI vTo cI 96 qTo), (kAI vPr cI 2 qPr), (kAI vSt cI 2 qSt), (kAI vFn cI 2 qFn), (kAI vFt cI 32 qFt)] s₀.heap := hP
  have hl := lv_entry ([.ref hm, .int f1, .int w1]) (n := 3) (Nat.le_of_ble_eq_true rfl)
  rw [lg_entry_eq]
  generalize (lg_sl ([.ref hm, .int f1, .int w1]) ++ List.replicate (3 - (lg_sl ([.ref hm, .int f1, .int w1])).length) Slot.unset).toArray = ls at hl ⊢
  have hl : lv_has ls 3 [(0, .ref hm), (1, .int f1), (2, .int w1)] := hl
  obtain ⟨H, hH⟩ : ∃ z : Heap, z = s₀.heap := ⟨_, rfl⟩
  rw [← hH] at hP
  have hS : va_S A s₀.heap H [] := by rw [hH]; exact hS
  refine k_heap hH ?_
  have hD : va_D A [(kX12 hm vFo vSi vIt vMo la vBy vTy mi vMi pn vPs gn vGs fn vFt le vTo kn fe en ca an co vPr vSt vFn sn vSg vAl dr), (kAI vTy cI 3 qTy), (kAI vBy cI 120 qBy), (kAI vMi cI 24 qMi), (kAI vPs cI 32 qPs), (kAI vGs cI 16 qGs), (kAI vTo cI 96 qTo), (kAI vPr cI 2 qPr), (kAI vSt cI 2 qSt), (kAI vFn cI 2 qFn), (kAI vFt cI 32 qFt)] := hD
  obtain ⟨locs, hlo⟩ : ∃ z : List Loc, z = [] := ⟨_, rfl⟩
  rw [← hlo] at hS ⊢
  clear hlo hH hAe hD0
  refine lv_aload_n hx₀ hb dX12_practice_0_a.1 rfl (lv_at hl 0 rfl) ?_
  obtain ⟨hPc, hDc, hFc, hC⟩ := k_cw (wc := [(kX12 hm vFo vSi vIt vMo la vBy vTy mi vMi pn vPs gn vGs fn vFt le vTo kn fe en ca an co vPr vSt vFn sn vSg vAl dr), (kAI vTy cI 3 qTy), (kAI vBy cI 120 qBy), (kAI vMi cI 24 qMi), (kAI vPs cI 32 qPs), (kAI vGs cI 16 qGs)]) hP hD hS hA [0, 1, 2, 3, 4, 5] (by decide +kernel) rfl
  refine va_callv (va_runV (As := []) (rest := []) ⟨hx₀, hb, hml, hown, hts⟩ (g_reads l dC dI cI cJ cQ H.size hm vFo vSi vIt vMo la vBy vTy mi vMi pn vPs gn vGs fn vFt le vTo kn fe en ca an co vPr vSt vFn sn vSg vAl dr qTy qBy qMi qPs qGs (hh0) (hh1) (hh2)) (cwV 0 hts (kGV wd_298 wd_295 wd_296 wd_297 wd_5) rfl rfl rfl (by decide +kernel) ⟨Nat.le_of_ble_eq_true rfl, Nat.le_of_ble_eq_true rfl⟩) (k_preV11 (q0 := 0) hK hPc hDc hN rfl) rfl rfl hl.1 rfl (lv_room (Nat.le_of_ble_eq_true rfl)) dX12_practice_0_a.2.1 ⟨by decide +kernel, by decide +kernel⟩) hS (fun q _ h => hFc q h) hFc (fun u₀ t₀ H1 locs ht hvm hw hB hz1 hk1 hS => ?_)
  obtain ⟨g_2, ga_3, gl_4, gb_5, gp_6⟩ := u₀
  obtain ⟨hP1, hK1, hD1⟩ := hB
  rw [ht] at hP1
  have hJ := k_jn (wr := [(kAI vTo cI 96 qTo), (kAI vPr cI 2 qPr), (kAI vSt cI 2 qSt), (kAI vFn cI 2 qFn), (kAI vFt cI 32 qFt)]) (wt := [(kAI vTo cI 96 qTo), (kAI vPr cI 2 qPr), (kAI vSt cI 2 qSt), (kAI vFn cI 2 qFn), (kAI vFt cI 32 qFt), (kX12 hm vFo vSi vIt vMo la vBy vTy (g_2 0) vMi (g_2 1) vPs (g_2 2) vGs fn vFt le vTo kn fe en ca an co vPr vSt vFn sn vSg vAl dr), (kAI vTy cI 3 qTy), (kAI vBy cI 120 qBy), (kAI vMi cI 24 (ga_3 0)), (kAI vPs cI 32 (ga_3 1)), (kAI vGs cI 16 (ga_3 2))]) hP hD hC [6, 7, 8, 9, 10] rfl (by decide +kernel) (by decide +kernel) hk1 hFc hP1 hD1 rfl
  clear hP hD hPc hDc hFc hC hP1 hD1 hK1 hz1 hk1 hvm ht
  obtain ⟨hP, hD⟩ := hJ
  generalize H1 = H at hP hS ⊢
  try dsimp only at hw
  obtain ⟨c_7, c_8, c_9, c_10, c_11, c_12, c_13, c_14, c_15, c_16⟩ := hw
  refine lv_aload_n hx₀ hb dX12_practice_0_a.2.2.1 rfl (lv_at hl 0 rfl) ?_
  refine lv_iload_n hx₀ hb dX12_practice_0_a.2.2.2.1 rfl (lv_at hl 1 rfl) ?_
  obtain ⟨hPc, hDc, hFc, hC⟩ := k_cw (wc := [(kX12 hm vFo vSi vIt vMo la vBy vTy (g_2 0) vMi (g_2 1) vPs (g_2 2) vGs fn vFt le vTo kn fe en ca an co vPr vSt vFn sn vSg vAl dr)]) hP hD hS hA [5] (by decide +kernel) rfl
  refine va_calli (va_runV (As := [.int f1]) (rest := []) ⟨hx₀, hb, hml, hown, hts⟩ (g_isFlight l dC dI cI cJ cQ H.size hm f1 vFo vSi vIt vMo la vBy vTy (g_2 0) vMi (g_2 1) vPs (g_2 2) vGs fn vFt le vTo kn fe en ca an co vPr vSt vFn sn vSg vAl dr (hh7)) (cwV 1 hts (kGV wd_528 wd_525 wd_526 wd_527 wd_5) rfl rfl rfl (by decide +kernel) ⟨Nat.le_of_ble_eq_true rfl, Nat.le_of_ble_eq_true rfl⟩) (k_preV11 (q0 := 0) hK hPc hDc hN rfl) rfl rfl hl.1 rfl (lv_room (Nat.le_of_ble_eq_true rfl)) dX12_practice_0_a.2.2.2.2.1 ⟨by decide +kernel, by decide +kernel⟩) hS (fun q _ h => hFc q h) hFc (fun r_17 u₀ t₀ H1 locs ht hvm hw hB hz1 hk1 hS => ?_)
  obtain ⟨hP1, hK1, hD1⟩ := hB
  rw [ht] at hP1
  have hJ := k_jn (wr := [(kAI vTo cI 96 qTo), (kAI vPr cI 2 qPr), (kAI vSt cI 2 qSt), (kAI vFn cI 2 qFn), (kAI vFt cI 32 qFt), (kAI vTy cI 3 qTy), (kAI vBy cI 120 qBy), (kAI vMi cI 24 (ga_3 0)), (kAI vPs cI 32 (ga_3 1)), (kAI vGs cI 16 (ga_3 2))]) (wt := [(kAI vTo cI 96 qTo), (kAI vPr cI 2 qPr), (kAI vSt cI 2 qSt), (kAI vFn cI 2 qFn), (kAI vFt cI 32 qFt), (kAI vTy cI 3 qTy), (kAI vBy cI 120 qBy), (kAI vMi cI 24 (ga_3 0)), (kAI vPs cI 32 (ga_3 1)), (kAI vGs cI 16 (ga_3 2)), (kX12 hm vFo vSi vIt vMo la vBy vTy (g_2 0) vMi (g_2 1) vPs (g_2 2) vGs fn vFt le vTo kn fe en ca an co vPr vSt vFn sn vSg vAl dr)]) hP hD hC [0, 1, 2, 3, 4, 6, 7, 8, 9, 10] rfl (by decide +kernel) (by decide +kernel) hk1 hFc hP1 hD1 rfl
  clear hP hD hPc hDc hFc hC hP1 hD1 hK1 hz1 hk1 hvm ht
  obtain ⟨hP, hD⟩ := hJ
  generalize H1 = H at hP hS ⊢
  try dsimp only at hw
  by_cases c_18 : 0 ≤ f1 ∧ f1 < fn
  · rw [if_pos c_18] at hw
    refine k_topi (v := 1) hw ?_
    refine lv_if_eq (tgt := 28) hx₀ hb dX12_practice_0_a.2.2.2.2.2.1 (by decide) (fun c9 => absurd c9 (by decide +kernel)) (fun _ => ?_)
    refine lv_iload_n hx₀ hb dX12_practice_0_a.2.2.2.2.2.2.1 rfl (lv_at hl 2 rfl) ?_
    obtain ⟨hPc, hDc, hFc, hC⟩ := k_cw (wc := []) hP hD hS hA [] (by decide +kernel) rfl
    refine va_calli (va_runS (As := [.int w1]) (rest := []) ⟨hx₀, hb, hml, hown, hts⟩ (c_isTwo l dC dI cI cJ cQ H.size w1) (va_cwS 1 hts (kGS wd_348 wd_346 wd_347 wd_5) rfl rfl rfl (by decide +kernel) ⟨Nat.le_of_ble_eq_true rfl, Nat.le_of_ble_eq_true rfl⟩) (k_preS hK hPc hDc hN) rfl rfl hl.1 rfl (lv_room (Nat.le_of_ble_eq_true rfl)) dX12_practice_0_a.2.2.2.2.2.2.2.1 ⟨by decide +kernel, by decide +kernel⟩) hS (fun q _ h => hFc q h) hFc (fun r_19 u₀ t₀ H1 locs ht hvm hw hB hz1 hk1 hS => ?_)
    obtain ⟨hP1, hK1, hD1⟩ := hB
    rw [ht] at hP1
    have hJ := k_jn (wr := [(kAI vTo cI 96 qTo), (kAI vPr cI 2 qPr), (kAI vSt cI 2 qSt), (kAI vFn cI 2 qFn), (kAI vFt cI 32 qFt), (kAI vTy cI 3 qTy), (kAI vBy cI 120 qBy), (kAI vMi cI 24 (ga_3 0)), (kAI vPs cI 32 (ga_3 1)), (kAI vGs cI 16 (ga_3 2)), (kX12 hm vFo vSi vIt vMo la vBy vTy (g_2 0) vMi (g_2 1) vPs (g_2 2) vGs fn vFt le vTo kn fe en ca an co vPr vSt vFn sn vSg vAl dr)]) (wt := [(kAI vTo cI 96 qTo), (kAI vPr cI 2 qPr), (kAI vSt cI 2 qSt), (kAI vFn cI 2 qFn), (kAI vFt cI 32 qFt), (kAI vTy cI 3 qTy), (kAI vBy cI 120 qBy), (kAI vMi cI 24 (ga_3 0)), (kAI vPs cI 32 (ga_3 1)), (kAI vGs cI 16 (ga_3 2)), (kX12 hm vFo vSi vIt vMo la vBy vTy (g_2 0) vMi (g_2 1) vPs (g_2 2) vGs fn vFt le vTo kn fe en ca an co vPr vSt vFn sn vSg vAl dr)]) hP hD hC [0, 1, 2, 3, 4, 5, 6, 7, 8, 9, 10] rfl (by decide +kernel) (by decide +kernel) hk1 hFc hP1 hD1 rfl
    clear hP hD hPc hDc hFc hC hP1 hD1 hK1 hz1 hk1 hvm ht
    obtain ⟨hP, hD⟩ := hJ
    generalize H1 = H at hP hS ⊢
    try dsimp only at hw
    by_cases c_20 : 0 ≤ w1 ∧ w1 ≤ 1
    · rw [if_pos c_20] at hw
      refine k_topi (v := 1) hw ?_
      refine lv_if_eq (tgt := 28) hx₀ hb dX12_practice_0_a.2.2.2.2.2.2.2.2.1 (by decide) (fun c9 => absurd c9 (by decide +kernel)) (fun _ => ?_)
      refine lv_aload_n hx₀ hb dX12_practice_0_a.2.2.2.2.2.2.2.2.2.1 rfl (lv_at hl 0 rfl) ?_
      refine lv_iload_n hx₀ hb dX12_practice_0_a.2.2.2.2.2.2.2.2.2.2.1 rfl (lv_at hl 1 rfl) ?_
      refine lv_iload_n hx₀ hb dX12_practice_0_a.2.2.2.2.2.2.2.2.2.2.2.1 rfl (lv_at hl 2 rfl) ?_
      obtain ⟨hPc, hDc, hFc, hC⟩ := k_cw (wc := [(kX12 hm vFo vSi vIt vMo la vBy vTy (g_2 0) vMi (g_2 1) vPs (g_2 2) vGs fn vFt le vTo kn fe en ca an co vPr vSt vFn sn vSg vAl dr), (kAI vMi cI 24 (ga_3 0)), (kAI vPs cI 32 (ga_3 1)), (kAI vGs cI 16 (ga_3 2)), (kAI vTo cI 96 qTo), (kAI vPr cI 2 qPr), (kAI vSt cI 2 qSt), (kAI vFn cI 2 qFn), (kAI vFt cI 32 qFt)]) hP hD hS hA [10, 7, 8, 9, 0, 1, 2, 3, 4] (by decide +kernel) rfl
      refine va_calli (va_runV (As := [.int f1, .int w1]) (rest := []) ⟨hx₀, hb, hml, hown, hts⟩ (e_practiceOf l dC dI cI cJ cQ H.size hm f1 w1 vFo vSi vIt vMo la vBy vTy (g_2 0) vMi (g_2 1) vPs (g_2 2) vGs fn vFt le vTo kn fe en ca an co vPr vSt vFn sn vSg vAl dr (ga_3 0) (ga_3 1) (ga_3 2) qTo qPr qSt qFn qFt (c_7) (c_8) (c_9) (hh3) (hh4) (hh5) (hh6) (lf_g_flies_3 fn f1 hh7 c_18) (c_10) (hh8) (hh9)) (cwV 2 hts (kGV wd_668 wd_665 wd_666 wd_667 wd_5) rfl rfl rfl (by decide +kernel) ⟨Nat.le_of_ble_eq_true rfl, Nat.le_of_ble_eq_true rfl⟩) (k_preV11 (q0 := 0) hK hPc hDc hN rfl) rfl rfl hl.1 rfl (lv_room (Nat.le_of_ble_eq_true rfl)) dX12_practice_0_a.2.2.2.2.2.2.2.2.2.2.2.2.1 ⟨by decide +kernel, by decide +kernel⟩) hS (fun q _ h => hFc q h) hFc (fun r_21 u₀ t₀ H1 locs ht hvm hw hB hz1 hk1 hS => ?_)
      obtain ⟨g_22, ga_23, gl_24, gb_25, gp_26⟩ := u₀
      obtain ⟨hP1, hK1, hD1⟩ := hB
      rw [ht] at hP1
      have hJ := k_jn (wr := [(kAI vTy cI 3 qTy), (kAI vBy cI 120 qBy)]) (wt := [(kAI vTy cI 3 qTy), (kAI vBy cI 120 qBy), (kX12 hm vFo vSi vIt vMo la vBy vTy (g_2 0) vMi (g_2 1) vPs (g_2 2) vGs fn vFt le vTo (g_22 0) (g_22 1) (g_22 2) ca (g_22 3) (g_22 4) vPr vSt vFn sn vSg vAl dr), (kAI vMi cI 24 (ga_3 0)), (kAI vPs cI 32 (ga_3 1)), (kAI vGs cI 16 (ga_3 2)), (kAI vTo cI 96 (ga_23 0)), (kAI vPr cI 2 (ga_23 1)), (kAI vSt cI 2 (ga_23 2)), (kAI vFn cI 2 (ga_23 3)), (kAI vFt cI 32 qFt)]) hP hD hC [5, 6] rfl (by decide +kernel) (by decide +kernel) hk1 hFc hP1 hD1 rfl
      clear hP hD hPc hDc hFc hC hP1 hD1 hK1 hz1 hk1 hvm ht
      obtain ⟨hP, hD⟩ := hJ
      generalize H1 = H at hP hS ⊢
      try dsimp only at hw
      obtain ⟨c_27, c_28, c_29, c_30, c_31⟩ := hw
      refine lv_goto (tgt := 30) hx₀ hb dX12_practice_0_a.2.2.2.2.2.2.2.2.2.2.2.2.2.1 (by decide) ?_
      obtain ⟨hP9, hD9⟩ := k_c2 (wc := [(kX12 hm vFo vSi vIt vMo la vBy vTy (g_2 0) vMi (g_2 1) vPs (g_2 2) vGs fn vFt le vTo (g_22 0) (g_22 1) (g_22 2) ca (g_22 3) (g_22 4) vPr vSt vFn sn vSg vAl dr), (kAI vTy cI 3 qTy), (kAI vBy cI 120 qBy), (kAI vMi cI 24 (ga_3 0)), (kAI vPs cI 32 (ga_3 1)), (kAI vGs cI 16 (ga_3 2)), (kAI vTo cI 96 (ga_23 0)), (kAI vPr cI 2 (ga_23 1)), (kAI vSt cI 2 (ga_23 2)), (kAI vFn cI 2 (ga_23 3)), (kAI vFt cI 32 qFt)]) hP hD [2, 0, 1, 3, 4, 5, 6, 7, 8, 9, 10] (by decide +kernel) rfl
      exact W.iret (v := r_21) hx₀ hb hr (fun t₀ ht hW => ⟨⟨r_21, (k_fn [(g_2 0), (g_2 1), (g_2 2), (g_22 0), (g_22 1), (g_22 2), (g_22 3), (g_22 4)], k_fa [(ga_3 0), (ga_3 1), (ga_3 2), ga_23 0, ga_23 1, ga_23 2, ga_23 3], k_fl [], k_fL [], k_fp []), rfl, ⟨(c_27.trans (if_pos (show (0 ≤ f1 ∧ f1 < fn) ∧ 0 ≤ w1 ∧ w1 ≤ 1 from ⟨⟨c_18.1, c_18.2⟩, c_20.1, c_20.2⟩)).symm), c_7, c_8, c_9, c_28, c_29, c_30, c_31, c_10, c_11, c_12, c_13, c_14, c_15, c_16⟩, by rw [ht]; exact hP9, va_K.moved hW.alike hK, hD9⟩, hS.F ht⟩) hS.2.2 dX12_practice_0_a.2.2.2.2.2.2.2.2.2.2.2.2.2.2.2
    rw [if_neg c_20] at hw
    refine k_topi (v := 0) hw ?_
    refine lv_if_eq (tgt := 28) hx₀ hb dX12_practice_0_a.2.2.2.2.2.2.2.2.1 (by decide) (fun _ => ?_) (fun c9 => absurd (by decide +kernel) c9)
    refine lv_bipush (v := (-2)) hx₀ hb dX12_practice_0_a.2.2.2.2.2.2.2.2.2.2.2.2.2.2.1 (by decide +kernel) ?_
    obtain ⟨hP9, hD9⟩ := k_c2 (wc := [(kX12 hm vFo vSi vIt vMo la vBy vTy (g_2 0) vMi (g_2 1) vPs (g_2 2) vGs fn vFt le vTo kn fe en ca an co vPr vSt vFn sn vSg vAl dr), (kAI vTy cI 3 qTy), (kAI vBy cI 120 qBy), (kAI vMi cI 24 (ga_3 0)), (kAI vPs cI 32 (ga_3 1)), (kAI vGs cI 16 (ga_3 2)), (kAI vTo cI 96 qTo), (kAI vPr cI 2 qPr), (kAI vSt cI 2 qSt), (kAI vFn cI 2 qFn), (kAI vFt cI 32 qFt)]) hP hD [10, 5, 6, 7, 8, 9, 0, 1, 2, 3, 4] (by decide +kernel) rfl
    exact W.iret (v := (-2)) hx₀ hb hr (fun t₀ ht hW => ⟨⟨(-2), (k_fn [(g_2 0), (g_2 1), (g_2 2), kn, fe, en, an, co], k_fa [ga_3 0, ga_3 1, ga_3 2, qTo, qPr, qSt, qFn], k_fl [], k_fL [], k_fp []), rfl, ⟨(if_neg (show ¬ ((0 ≤ f1 ∧ f1 < fn) ∧ 0 ≤ w1 ∧ w1 ≤ 1) from (fun z => c_20 (And.intro z.2.1 z.2.2)))).symm, c_7, c_8, c_9, hh3, hh4, hh5, hh6, c_10, c_11, c_12, c_13, c_14, c_15, c_16⟩, by rw [ht]; exact hP9, va_K.moved hW.alike hK, hD9⟩, hS.F ht⟩) hS.2.2 dX12_practice_0_a.2.2.2.2.2.2.2.2.2.2.2.2.2.2.2
  rw [if_neg c_18] at hw
  refine k_topi (v := 0) hw ?_
  refine lv_if_eq (tgt := 28) hx₀ hb dX12_practice_0_a.2.2.2.2.2.1 (by decide) (fun _ => ?_) (fun c9 => absurd (by decide +kernel) c9)
  refine lv_bipush (v := (-2)) hx₀ hb dX12_practice_0_a.2.2.2.2.2.2.2.2.2.2.2.2.2.2.1 (by decide +kernel) ?_
  obtain ⟨hP9, hD9⟩ := k_c2 (wc := [(kX12 hm vFo vSi vIt vMo la vBy vTy (g_2 0) vMi (g_2 1) vPs (g_2 2) vGs fn vFt le vTo kn fe en ca an co vPr vSt vFn sn vSg vAl dr), (kAI vTy cI 3 qTy), (kAI vBy cI 120 qBy), (kAI vMi cI 24 (ga_3 0)), (kAI vPs cI 32 (ga_3 1)), (kAI vGs cI 16 (ga_3 2)), (kAI vTo cI 96 qTo), (kAI vPr cI 2 qPr), (kAI vSt cI 2 qSt), (kAI vFn cI 2 qFn), (kAI vFt cI 32 qFt)]) hP hD [10, 5, 6, 7, 8, 9, 0, 1, 2, 3, 4] (by decide +kernel) rfl
  exact W.iret (v := (-2)) hx₀ hb hr (fun t₀ ht hW => ⟨⟨(-2), (k_fn [(g_2 0), (g_2 1), (g_2 2), kn, fe, en, an, co], k_fa [ga_3 0, ga_3 1, ga_3 2, qTo, qPr, qSt, qFn], k_fl [], k_fL [], k_fp []), rfl, ⟨(if_neg (show ¬ ((0 ≤ f1 ∧ f1 < fn) ∧ 0 ≤ w1 ∧ w1 ≤ 1) from (fun z => c_18 z.1))).symm, c_7, c_8, c_9, hh3, hh4, hh5, hh6, c_10, c_11, c_12, c_13, c_14, c_15, c_16⟩, by rw [ht]; exact hP9, va_K.moved hW.alike hK, hD9⟩, hS.F ht⟩) hS.2.2 dX12_practice_0_a.2.2.2.2.2.2.2.2.2.2.2.2.2.2.2
