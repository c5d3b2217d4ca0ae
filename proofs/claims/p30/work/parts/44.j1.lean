theorem lf_j_kind_1 (a0 : Int32) (h0 : a0 = 100) : (1 : Int32) = wK a0 := by
  ((try unfold wK)) <;> ((repeat' split) <;> first | rfl | contradiction | assumption | (exfalso; (first | rfl | assumption | decide | omega | (have hr0 := Int32.toInt_lt a0; have hs0 := Int32.le_toInt a0; simp only [Int64.toInt_add, Int64.toInt_sub, Int32.toInt_add, Int32.toInt_sub, Int32.toInt_mul, Int64.le_iff_toInt_le, Int64.lt_iff_toInt_lt, Int32.le_iff_toInt_le, Int32.lt_iff_toInt_lt, ← Int32.toInt_inj, ← Int64.toInt_inj, Int32.toInt_toInt64, kc_m1, kc_0, kc_1, kc_2, kc_3, kc_4, kc_5, kc_6, kc_7, kc_8, kc_10, kc_48, kc_49, kc_57, kc_59, kc_97, kc_100, kc_102, kc_105, kc_111, kc_112, kc_115, kc_116, kc_119, true_and, and_true, not_true_eq_false, not_false_eq_true] at * <;> ((first | omega | ((try simp (disch := omega) only [k_bm64] at *); (try simp (disch := omega) only [k_bm] at *); (try simp (disch := omega) only [k_bm] at *); omega) | (simp only [Int.bmod] at *; omega)))))) | (first | rfl | assumption | decide | omega | (have hr0 := Int32.toInt_lt a0; have hs0 := Int32.le_toInt a0; simp only [Int64.toInt_add, Int64.toInt_sub, Int32.toInt_add, Int32.toInt_sub, Int32.toInt_mul, Int64.le_iff_toInt_le, Int64.lt_iff_toInt_lt, Int32.le_iff_toInt_le, Int32.lt_iff_toInt_lt, ← Int32.toInt_inj, ← Int64.toInt_inj, Int32.toInt_toInt64, kc_m1, kc_0, kc_1, kc_2, kc_3, kc_4, kc_5, kc_6, kc_7, kc_8, kc_10, kc_48, kc_49, kc_57, kc_59, kc_97, kc_100, kc_102, kc_105, kc_111, kc_112, kc_115, kc_116, kc_119, true_and, and_true, not_true_eq_false, not_false_eq_true] at * <;> ((first | omega | ((try simp (disch := omega) only [k_bm64] at *); (try simp (disch := omega) only [k_bm] at *); (try simp (disch := omega) only [k_bm] at *); omega) | (simp only [Int.bmod] at *; omega))))))
theorem lf_j_kind_2 (a0 : Int32) (h0 : ¬ a0 = 100) (h1 : a0 = 112) : (2 : Int32) = wK a0 := by
  ((try unfold wK)) <;> ((repeat' split) <;> first | rfl | contradiction | assumption | (exfalso; (first | rfl | assumption | decide | omega | (have hr0 := Int32.toInt_lt a0; have hs0 := Int32.le_toInt a0; simp only [Int64.toInt_add, Int64.toInt_sub, Int32.toInt_add, Int32.toInt_sub, Int32.toInt_mul, Int64.le_iff_toInt_le, Int64.lt_iff_toInt_lt, Int32.le_iff_toInt_le, Int32.lt_iff_toInt_lt, ← Int32.toInt_inj, ← Int64.toInt_inj, Int32.toInt_toInt64, kc_m1, kc_0, kc_1, kc_2, kc_3, kc_4, kc_5, kc_6, kc_7, kc_8, kc_10, kc_48, kc_49, kc_57, kc_59, kc_97, kc_100, kc_102, kc_105, kc_111, kc_112, kc_115, kc_116, kc_119, true_and, and_true, not_true_eq_false, not_false_eq_true] at * <;> ((first | omega | ((try simp (disch := omega) only [k_bm64] at *); (try simp (disch := omega) only [k_bm] at *); (try simp (disch := omega) only [k_bm] at *); omega) | (simp only [Int.bmod] at *; omega)))))) | (first | rfl | assumption | decide | omega | (have hr0 := Int32.toInt_lt a0; have hs0 := Int32.le_toInt a0; simp only [Int64.toInt_add, Int64.toInt_sub, Int32.toInt_add, Int32.toInt_sub, Int32.toInt_mul, Int64.le_iff_toInt_le, Int64.lt_iff_toInt_lt, Int32.le_iff_toInt_le, Int32.lt_iff_toInt_lt, ← Int32.toInt_inj, ← Int64.toInt_inj, Int32.toInt_toInt64, kc_m1, kc_0, kc_1, kc_2, kc_3, kc_4, kc_5, kc_6, kc_7, kc_8, kc_10, kc_48, kc_49, kc_57, kc_59, kc_97, kc_100, kc_102, kc_105, kc_111, kc_112, kc_115, kc_116, kc_119, true_and, and_true, not_true_eq_false, not_false_eq_true] at * <;> ((first | omega | ((try simp (disch := omega) only [k_bm64] at *); (try simp (disch := omega) only [k_bm] at *); (try simp (disch := omega) only [k_bm] at *); omega) | (simp only [Int.bmod] at *; omega))))))
theorem lf_j_kind_3 (a0 : Int32) (h0 : ¬ a0 = 100) (h1 : ¬ a0 = 112) (h2 : a0 = 115) : (3 : Int32) = wK a0 := by
  ((try unfold wK)) <;> ((repeat' split) <;> first | rfl | contradiction | assumption | (exfalso; (first | rfl | assumption | decide | omega | (have hr0 := Int32.toInt_lt a0; have hs0 := Int32.le_toInt a0; simp only [Int64.toInt_add, Int64.toInt_sub, Int32.toInt_add, Int32.toInt_sub, Int32.toInt_mul, Int64.le_iff_toInt_le, Int64.lt_iff_toInt_lt, Int32.le_iff_toInt_le, Int32.lt_iff_toInt_lt, ← Int32.toInt_inj, ← Int64.toInt_inj, Int32.toInt_toInt64, kc_m1, kc_0, kc_1, kc_2, kc_3, kc_4, kc_5, kc_6, kc_7, kc_8, kc_10, kc_48, kc_49, kc_57, kc_59, kc_97, kc_100, kc_102, kc_105, kc_111, kc_112, kc_115, kc_116, kc_119, true_and, and_true, not_true_eq_false, not_false_eq_true] at * <;> ((first | omega | ((try simp (disch := omega) only [k_bm64] at *); (try simp (disch := omega) only [k_bm] at *); (try simp (disch := omega) only [k_bm] at *); omega) | (simp only [Int.bmod] at *; omega)))))) | (first | rfl | assumption | decide | omega | (have hr0 := Int32.toInt_lt a0; have hs0 := Int32.le_toInt a0; simp only [Int64.toInt_add, Int64.toInt_sub, Int32.toInt_add, Int32.toInt_sub, Int32.toInt_mul, Int64.le_iff_toInt_le, Int64.lt_iff_toInt_lt, Int32.le_iff_toInt_le, Int32.lt_iff_toInt_lt, ← Int32.toInt_inj, ← Int64.toInt_inj, Int32.toInt_toInt64, kc_m1, kc_0, kc_1, kc_2, kc_3, kc_4, kc_5, kc_6, kc_7, kc_8, kc_10, kc_48, kc_49, kc_57, kc_59, kc_97, kc_100, kc_102, kc_105, kc_111, kc_112, kc_115, kc_116, kc_119, true_and, and_true, not_true_eq_false, not_false_eq_true] at * <;> ((first | omega | ((try simp (disch := omega) only [k_bm64] at *); (try simp (disch := omega) only [k_bm] at *); (try simp (disch := omega) only [k_bm] at *); omega) | (simp only [Int.bmod] at *; omega))))))
theorem lf_j_kind_4 (a0 : Int32) (h0 : ¬ a0 = 100) (h1 : ¬ a0 = 112) (h2 : ¬ a0 = 115) (h3 : a0 = 116) : (0 : Int32) = wK a0 := by
  ((try unfold wK)) <;> ((repeat' split) <;> first | rfl | contradiction | assumption | (exfalso; (first | rfl | assumption | decide | omega | (have hr0 := Int32.toInt_lt a0; have hs0 := Int32.le_toInt a0; simp only [Int64.toInt_add, Int64.toInt_sub, Int32.toInt_add, Int32.toInt_sub, Int32.toInt_mul, Int64.le_iff_toInt_le, Int64.lt_iff_toInt_lt, Int32.le_iff_toInt_le, Int32.lt_iff_toInt_lt, ← Int32.toInt_inj, ← Int64.toInt_inj, Int32.toInt_toInt64, kc_m1, kc_0, kc_1, kc_2, kc_3, kc_4, kc_5, kc_6, kc_7, kc_8, kc_10, kc_48, kc_49, kc_57, kc_59, kc_97, kc_100, kc_102, kc_105, kc_111, kc_112, kc_115, kc_116, kc_119, true_and, and_true, not_true_eq_false, not_false_eq_true] at * <;> ((first | omega | ((try simp (disch := omega) only [k_bm64] at *); (try simp (disch := omega) only [k_bm] at *); (try simp (disch := omega) only [k_bm] at *); omega) | (simp only [Int.bmod] at *; omega)))))) | (first | rfl | assumption | decide | omega | (have hr0 := Int32.toInt_lt a0; have hs0 := Int32.le_toInt a0; simp only [Int64.toInt_add, Int64.toInt_sub, Int32.toInt_add, Int32.toInt_sub, Int32.toInt_mul, Int64.le_iff_toInt_le, Int64.lt_iff_toInt_lt, Int32.le_iff_toInt_le, Int32.lt_iff_toInt_lt, ← Int32.toInt_inj, ← Int64.toInt_inj, Int32.toInt_toInt64, kc_m1, kc_0, kc_1, kc_2, kc_3, kc_4, kc_5, kc_6, kc_7, kc_8, kc_10, kc_48, kc_49, kc_57, kc_59, kc_97, kc_100, kc_102, kc_105, kc_111, kc_112, kc_115, kc_116, kc_119, true_and, and_true, not_true_eq_false, not_false_eq_true] at * <;> ((first | omega | ((try simp (disch := omega) only [k_bm64] at *); (try simp (disch := omega) only [k_bm] at *); (try simp (disch := omega) only [k_bm] at *); omega) | (simp only [Int.bmod] at *; omega))))))
theorem lf_j_kind_5 (a0 : Int32) (h0 : ¬ a0 = 100) (h1 : ¬ a0 = 112) (h2 : ¬ a0 = 115) (h3 : ¬ a0 = 116) : ((-1) : Int32) = wK a0 := by
  ((try unfold wK)) <;> ((repeat' split) <;> first | rfl | contradiction | assumption | (exfalso; (first | rfl | assumption | decide | omega | (have hr0 := Int32.toInt_lt a0; have hs0 := Int32.le_toInt a0; simp only [Int64.toInt_add, Int64.toInt_sub, Int32.toInt_add, Int32.toInt_sub, Int32.toInt_mul, Int64.le_iff_toInt_le, Int64.lt_iff_toInt_lt, Int32.le_iff_toInt_le, Int32.lt_iff_toInt_lt, ← Int32.toInt_inj, ← Int64.toInt_inj, Int32.toInt_toInt64, kc_m1, kc_0, kc_1, kc_2, kc_3, kc_4, kc_5, kc_6, kc_7, kc_8, kc_10, kc_48, kc_49, kc_57, kc_59, kc_97, kc_100, kc_102, kc_105, kc_111, kc_112, kc_115, kc_116, kc_119, true_and, and_true, not_true_eq_false, not_false_eq_true] at * <;> ((first | omega | ((try simp (disch := omega) only [k_bm64] at *); (try simp (disch := omega) only [k_bm] at *); (try simp (disch := omega) only [k_bm] at *); omega) | (simp only [Int.bmod] at *; omega)))))) | (first | rfl | assumption | decide | omega | (have hr0 := Int32.toInt_lt a0; have hs0 := Int32.le_toInt a0; simp only [Int64.toInt_add, Int64.toInt_sub, Int32.toInt_add, Int32.toInt_sub, Int32.toInt_mul, Int64.le_iff_toInt_le, Int64.lt_iff_toInt_lt, Int32.le_iff_toInt_le, Int32.lt_iff_toInt_lt, ← Int32.toInt_inj, ← Int64.toInt_inj, Int32.toInt_toInt64, kc_m1, kc_0, kc_1, kc_2, kc_3, kc_4, kc_5, kc_6, kc_7, kc_8, kc_10, kc_48, kc_49, kc_57, kc_59, kc_97, kc_100, kc_102, kc_105, kc_111, kc_112, kc_115, kc_116, kc_119, true_and, and_true, not_true_eq_false, not_false_eq_true] at * <;> ((first | omega | ((try simp (disch := omega) only [k_bm64] at *); (try simp (disch := omega) only [k_bm] at *); (try simp (disch := omega) only [k_bm] at *); omega) | (simp only [Int.bmod] at *; omega))))))
set_option maxHeartbeats 4000000 in
set_option maxRecDepth 100000 in
theorem j_kind (l : Launch) (dC : Nat → ClassId) (dI : Nat → Nat → Nat) (cI cJ cQ : ClassId) (sz : Nat) (b1 : Int32) : Met l yX7_kind (kW yX7_kind cX7_kind 1 (some .int)) { frames := 0, cells := 0, slots := 0, locals := 0 } (kPre dC dI cI cJ cQ sz [.int b1] []) (va_Qi (fun (r : Int32) (u : Unit) => (r = wK b1)) (fun (u : Unit) t₀ => kB dC dI cI cJ cQ (va_A [] sz) [] t₀) (va_A [] sz)) 0 0 (va_A [] sz) := by
  refine Met.ofW (cc := cX7_kind) (maxL := 1) (ret := (some .int)) (by decide) rfl ?_
  intro p₀ e₀ s₀ m₀ args below meth c₀ s₁ B hml hv₀
  obtain ⟨rfl, hsz, hP, hK, hD0, hN⟩ := hv₀
  have hx₀ := B.exec
  have hb := B.bytes
  have hr := B.returns
  have hts := atoms_spec (ws := (kW yX7_kind cX7_kind 1 (some .int))) B.pre
  have hts := fun w h => hts w (List.mem_cons_of_mem _ h)
  have hown : s₀.vm.findClass RX7 = some m₀.cls := findClass_of_methodNamed B.named
  have hlocks := B.notSynchronized
  subst hsz
  have hD := hD0.self (sz := s₀.heap.size)
  generalize hAe : va_A [] s₀.heap.size = A at hD ⊢
  have hA : ∀ q : Nat, s₀.heap.size ≤ q → A q := fun q h => by rw [← hAe]; exact Or.inr h
  have hS : va_S A s₀.heap s₀.heap [] := va_S.rf
  have hP : va_P (dC, dI) vwCl [] s₀.heap := hP
  have hl := lv_entry ([.int b1]) (n := 1) (Nat.le_of_ble_eq_true rfl)
  rw [lg_entry_eq]
  generalize (lg_sl ([.int b1]) ++ List.replicate (1 - (lg_sl ([.int b1])).length) Slot.unset).toArray = ls at hl ⊢
  have hl : lv_has ls 1 [(0, .int b1)] := hl
  obtain ⟨H, hH⟩ : ∃ z : Heap, z = s₀.heap := ⟨_, rfl⟩
  rw [← hH] at hP
  have hS : va_S A s₀.heap H [] := by rw [hH]; exact hS
  refine k_heap hH ?_
  have hD : va_D A [] := hD
  obtain ⟨locs, hlo⟩ : ∃ z : List Loc, z = [] := ⟨_, rfl⟩
  rw [← hlo] at hS ⊢
  clear hlo hH hAe hD0
  refine lv_iload_n hx₀ hb dX7_kind_0 rfl (lv_at hl 0 rfl) ?_
  by_cases c_1 : b1 = 100
  · refine k_topi (v := 100) c_1 ?_
    refine lv_lookup (off := 45) (tgt := 46) hx₀ hb dX7_kind_1 (by decide +kernel) (by decide +kernel) (by decide) ?_
    refine lv_iconst (v := 1) hx₀ hb dX7_kind_46 (by decide +kernel) ?_
    obtain ⟨hP9, hD9⟩ := k_c2 (wc := []) hP hD [] (by decide +kernel) rfl
    exact W.iret (v := 1) hx₀ hb hr (fun t₀ ht hW => ⟨⟨1, (), rfl, (lf_j_kind_1 b1 c_1), by rw [ht]; exact hP9, va_K.moved hW.alike hK, hD9⟩, hS.F ht⟩) hS.2.2 dX7_kind_47
  by_cases c_2 : b1 = 112
  · refine k_topi (v := 112) c_2 ?_
    refine lv_lookup (off := 47) (tgt := 48) hx₀ hb dX7_kind_1 (by decide +kernel) (by decide +kernel) (by decide) ?_
    refine lv_iconst (v := 2) hx₀ hb dX7_kind_48 (by decide +kernel) ?_
    obtain ⟨hP9, hD9⟩ := k_c2 (wc := []) hP hD [] (by decide +kernel) rfl
    exact W.iret (v := 2) hx₀ hb hr (fun t₀ ht hW => ⟨⟨2, (), rfl, (lf_j_kind_2 b1 c_1 c_2), by rw [ht]; exact hP9, va_K.moved hW.alike hK, hD9⟩, hS.F ht⟩) hS.2.2 dX7_kind_49
  by_cases c_3 : b1 = 115
  · refine k_topi (v := 115) c_3 ?_
    refine lv_lookup (off := 49) (tgt := 50) hx₀ hb dX7_kind_1 (by decide +kernel) (by decide +kernel) (by decide) ?_
    refine lv_iconst (v := 3) hx₀ hb dX7_kind_50 (by decide +kernel) ?_
    obtain ⟨hP9, hD9⟩ := k_c2 (wc := []) hP hD [] (by decide +kernel) rfl
    exact W.iret (v := 3) hx₀ hb hr (fun t₀ ht hW => ⟨⟨3, (), rfl, (lf_j_kind_3 b1 c_1 c_2 c_3), by rw [ht]; exact hP9, va_K.moved hW.alike hK, hD9⟩, hS.F ht⟩) hS.2.2 dX7_kind_51
  by_cases c_4 : b1 = 116
  · refine k_topi (v := 116) c_4 ?_
    refine lv_lookup (off := 43) (tgt := 44) hx₀ hb dX7_kind_1 (by decide +kernel) (by decide +kernel) (by decide) ?_
    refine lv_iconst (v := 0) hx₀ hb dX7_kind_44 (by decide +kernel) ?_
    obtain ⟨hP9, hD9⟩ := k_c2 (wc := []) hP hD [] (by decide +kernel) rfl
    exact W.iret (v := 0) hx₀ hb hr (fun t₀ ht hW => ⟨⟨0, (), rfl, (lf_j_kind_4 b1 c_1 c_2 c_3 c_4), by rw [ht]; exact hP9, va_K.moved hW.alike hK, hD9⟩, hS.F ht⟩) hS.2.2 dX7_kind_45
  refine lv_lookup (off := 51) (tgt := 52) hx₀ hb dX7_kind_1 (by decide +kernel) ((lv_osw c_1 rfl).trans ((lv_osw c_2 rfl).trans ((lv_osw c_3 rfl).trans ((lv_osw c_4 rfl).trans rfl)))) (by decide) ?_
  refine lv_iconst (v := (-1)) hx₀ hb dX7_kind_52 (by decide +kernel) ?_
  obtain ⟨hP9, hD9⟩ := k_c2 (wc := []) hP hD [] (by decide +kernel) rfl
  exact W.iret (v := (-1)) hx₀ hb hr (fun t₀ ht hW => ⟨⟨(-1), (), rfl, (lf_j_kind_5 b1 c_1 c_2 c_3 c_4), by rw [ht]; exact hP9, va_K.moved hW.alike hK, hD9⟩, hS.F ht⟩) hS.2.2 dX7_kind_53
set_option maxHeartbeats 4000000 in
set_option maxRecDepth 100000 in
theorem j_isFull_X4 (l : Launch) (dC : Nat → ClassId) (dI : Nat → Nat → Nat) (cI cJ cQ : ClassId) (sz : Nat) (ah : Nat) (av : Nat) (ln : Int32) (fa : Int32) (nu : Int32) (tf : Nat → Int32) : Met l yX9_isFull (kW yX9_isFull cX9_isFull 1 (some .boolean)) { frames := 0, cells := 0, slots := 0, locals := 0 } (kPre dC dI cI cJ cQ sz [.ref ah] [(kX4 ah av ln fa nu), (kAI av cI 24 tf)]) (va_Qi (fun (r : Int32) (u : Unit) => (r = if 24 ≤ ln then 1 else 0)) (fun (u : Unit) t₀ => kB dC dI cI cJ cQ (va_A [(kX4 ah av ln fa nu), (kAI av cI 24 tf)] sz) [(kX4 ah av ln fa nu), (kAI av cI 24 tf)] t₀) (va_A [(kX4 ah av ln fa nu), (kAI av cI 24 tf)] sz)) 0 0 (va_A [(kX4 ah av ln fa nu), (kAI av cI 24 tf)] sz) := by
  refine Met.ofW (cc := cX9_isFull) (maxL := 1) (ret := (some .boolean)) (by decide) rfl ?_
  intro p₀ e₀ s₀ m₀ args below meth c₀ s₁ B hml hv₀
  obtain ⟨rfl, hsz, hP, hK, hD0, hN⟩ := hv₀
  have hx₀ := B.exec
  have hb := B.bytes
  have hr := B.returns
  have hts := atoms_spec (ws := (kW yX9_isFull cX9_isFull 1 (some .boolean))) B.pre
  have hts := fun w h => hts w (List.mem_cons_of_mem _ h)
  have hown : s₀.vm.findClass RX9 = some m₀.cls := findClass_of_methodNamed B.named
  have hlocks := B.notSynchronized
  subst hsz
  have hD := hD0.self (sz := s₀.heap.size)
  generalize hAe : va_A [(kX4 ah av ln fa nu), (kAI av cI 24 tf)] s₀.heap.size = A at hD ⊢
  have hA : ∀ q : Nat, s₀.heap.size ≤ q → A q := fun q h => by rw [← hAe]; exact Or.inr h
  have hS : va_S A s₀.heap s₀.heap [] := va_S.rf
  have hP : va_P (dC, dI) vwCl [(kX4 ah av ln fa nu), (kAI av cI 24 tf)] s₀.heap := hP
  have hl := lv_entry ([.ref ah]) (n := 1) (Nat.le_of_ble_eq_true rfl)
  rw [lg_entry_eq]
  generalize (lg_sl ([.ref ah]) ++ List.replicate (1 - (lg_sl ([.ref ah])).length) Slot.unset).toArray = ls at hl ⊢
  have hl : lv_has ls 1 [(0, .ref ah)] := hl
  obtain ⟨H, hH⟩ : ∃ z : Heap, z = s₀.heap := ⟨_, rfl⟩
  rw [← hH] at hP
  have hS : va_S A s₀.heap H [] := by rw [hH]; exact hS
  refine k_heap hH ?_
  have hD : va_D A [(kX4 ah av ln fa nu), (kAI av cI 24 tf)] := hD
  obtain ⟨locs, hlo⟩ : ∃ z : List Loc, z = [] := ⟨_, rfl⟩
  rw [← hlo] at hS ⊢
  clear hlo hH hAe hD0
  refine lv_aload_n hx₀ hb dX9_isFull_0 rfl (lv_at hl 0 rfl) ?_
  refine va_get (D := (dC, dI)) (ci := 4) (v := .int ln) (C := RX4) (T := TX4) (N := 4) hx₀ hb hts inlX4 hown hK hP 0 rfl rfl 1 (by decide) (hts (.fieldLink RX9 25 "BittenStick$Text" "length" "I") wd_147) (fun _ h9 => h9) rfl dX9_isFull_1 ?_
  refine lv_aload_n hx₀ hb dX9_isFull_4 rfl (lv_at hl 0 rfl) ?_
  refine va_get (D := (dC, dI)) (ci := 4) (v := .ref av) (C := RX4) (T := TX4) (N := 4) hx₀ hb hts inlX4 hown hK hP 0 rfl rfl 0 (by decide) (hts (.fieldLink RX9 21 "BittenStick$Text" "values" "[I") wd_65) (fun _ h9 => h9) rfl dX9_isFull_5 ?_
  refine va_alen (v := 24) hx₀ hb hK hP 1 0 rfl rfl rfl dX9_isFull_8 ?_
  refine lv_icmp_lt (tgt := 16) hx₀ hb dX9_isFull_9 (by decide) (fun c_1 => ?_) (fun c_1 => ?_)
  · refine lv_iconst (v := 0) hx₀ hb dX9_isFull_16 (by decide +kernel) ?_
    obtain ⟨hP9, hD9⟩ := k_c2 (wc := [(kX4 ah av ln fa nu), (kAI av cI 24 tf)]) hP hD [0, 1] (by decide +kernel) rfl
    exact W.zret (v := 0) hx₀ hb hr (by decide +kernel) (fun t₀ ht hW => ⟨⟨0, (), rfl, (show (0 : Int32) = if 24 ≤ ln then 1 else 0 from (if_neg (show ¬ (24 ≤ ln) from (Int32.not_le.mpr c_1))).symm), by rw [ht]; exact hP9, va_K.moved hW.alike hK, hD9⟩, hS.F ht⟩) hS.2.2 dX9_isFull_17
  · refine lv_iconst (v := 1) hx₀ hb dX9_isFull_12 (by decide +kernel) ?_
    refine lv_goto (tgt := 17) hx₀ hb dX9_isFull_13 (by decide) ?_
    obtain ⟨hP9, hD9⟩ := k_c2 (wc := [(kX4 ah av ln fa nu), (kAI av cI 24 tf)]) hP hD [0, 1] (by decide +kernel) rfl
    exact W.zret (v := 1) hx₀ hb hr (by decide +kernel) (fun t₀ ht hW => ⟨⟨1, (), rfl, (show (1 : Int32) = if 24 ≤ ln then 1 else 0 from (if_pos (show 24 ≤ ln from (Int32.not_lt.mp c_1))).symm), by rw [ht]; exact hP9, va_K.moved hW.alike hK, hD9⟩, hS.F ht⟩) hS.2.2 dX9_isFull_17
set_option maxHeartbeats 4000000 in
set_option maxRecDepth 100000 in
theorem j_has_X4 (l : Launch) (dC : Nat → ClassId) (dI : Nat → Nat → Nat) (cI cJ cQ : ClassId) (sz : Nat) (ah : Nat) (k1 : Int32) (av : Nat) (ln : Int32) (fa : Int32) (nu : Int32) : Met l yX9_has (kW yX9_has cX9_has 2 (some .boolean)) { frames := 0, cells := 0, slots := 0, locals := 0 } (kPre dC dI cI cJ cQ sz [.ref ah, .int k1] [(kX4 ah av ln fa nu)]) (va_Qi (fun (r : Int32) (u : Unit) => (r = if 0 ≤ k1 ∧ k1 < nu then 1 else 0)) (fun (u : Unit) t₀ => kB dC dI cI cJ cQ (va_A [(kX4 ah av ln fa nu)] sz) [(kX4 ah av ln fa nu)] t₀) (va_A [(kX4 ah av ln fa nu)] sz)) 0 0 (va_A [(kX4 ah av ln fa nu)] sz) := by
  refine Met.ofW (cc := cX9_has) (maxL := 2) (ret := (some .boolean)) (by decide) rfl ?_
  intro p₀ e₀ s₀ m₀ args below meth c₀ s₁ B hml hv₀
  obtain ⟨rfl, hsz, hP, hK, hD0, hN⟩ := hv₀
  have hx₀ := B.exec
  have hb := B.bytes
  have hr := B.returns
  have hts := atoms_spec (ws := (kW yX9_has cX9_has 2 (some .boolean))) B.pre
  have hts := fun w h => hts w (List.mem_cons_of_mem _ h)
  have hown : s₀.vm.findClass RX9 = some m₀.cls := findClass_of_methodNamed B.named
  have hlocks := B.notSynchronized
  subst hsz
  have hD := hD0.self (sz := s₀.heap.size)
  generalize hAe : va_A [(kX4 ah av ln fa nu)] s₀.heap.size = A at hD ⊢
  have hA : ∀ q : Nat, s₀.heap.size ≤ q → A q := fun q h => by rw [← hAe]; exact Or.inr h
  have hS : va_S A s₀.heap s₀.heap [] := va_S.rf
  have hP : va_P (dC, dI) vwCl [(kX4 ah av ln fa nu)] s₀.heap := hP
  have hl := lv_entry ([.ref ah, .int k1]) (n := 2) (Nat.le_of_ble_eq_true rfl)
  rw [lg_entry_eq]
  generalize (lg_sl ([.ref ah, .int k1]) ++ List.replicate (2 - (lg_sl ([.ref ah, .int k1])).length) Slot.unset).toArray = ls at hl ⊢
  have hl : lv_has ls 2 [(0, .ref ah), (1, .int k1)] := hl
  obtain ⟨H, hH⟩ : ∃ z : Heap, z = s₀.heap := ⟨_, rfl⟩
  rw [← hH] at hP
  have hS : va_S A s₀.heap H [] := by rw [hH]; exact hS
  refine k_heap hH ?_
  have hD : va_D A [(kX4 ah av ln fa nu)] := hD
  obtain ⟨locs, hlo⟩ : ∃ z : List Loc, z = [] := ⟨_, rfl⟩
  rw [← hlo] at hS ⊢
  clear hlo hH hAe hD0
  refine lv_iload_n hx₀ hb dX9_has_0 rfl (lv_at hl 1 rfl) ?_
  refine lv_if_lt (tgt := 16) hx₀ hb dX9_has_1 (by decide) (fun c_1 => ?_) (fun c_1 => ?_)
  · refine lv_iconst (v := 0) hx₀ hb dX9_has_16 (by decide +kernel) ?_
    obtain ⟨hP9, hD9⟩ := k_c2 (wc := [(kX4 ah av ln fa nu)]) hP hD [0] (by decide +kernel) rfl
    exact W.zret (v := 0) hx₀ hb hr (by decide +kernel) (fun t₀ ht hW => ⟨⟨0, (), rfl, (show (0 : Int32) = if 0 ≤ k1 ∧ k1 < nu then 1 else 0 from (if_neg (show ¬ (0 ≤ k1 ∧ k1 < nu) from (fun z => (Int32.not_le.mpr c_1) z.1))).symm), by rw [ht]; exact hP9, va_K.moved hW.alike hK, hD9⟩, hS.F ht⟩) hS.2.2 dX9_has_17
  · refine lv_iload_n hx₀ hb dX9_has_4 rfl (lv_at hl 1 rfl) ?_
    refine lv_aload_n hx₀ hb dX9_has_5 rfl (lv_at hl 0 rfl) ?_
    refine va_get (D := (dC, dI)) (ci := 4) (v := .int nu) (C := RX4) (T := TX4) (N := 4) hx₀ hb hts inlX4 hown hK hP 0 rfl rfl 3 (by decide) (hts (.fieldLink RX9 37 "BittenStick$Text" "number" "I") wd_174) (fun _ h9 => h9) rfl dX9_has_6 ?_
    refine lv_icmp_ge (tgt := 16) hx₀ hb dX9_has_9 (by decide) (fun c_2 => ?_) (fun c_2 => ?_)
    · refine lv_iconst (v := 0) hx₀ hb dX9_has_16 (by decide +kernel) ?_
      obtain ⟨hP9, hD9⟩ := k_c2 (wc := [(kX4 ah av ln fa nu)]) hP hD [0] (by decide +kernel) rfl
      exact W.zret (v := 0) hx₀ hb hr (by decide +kernel) (fun t₀ ht hW => ⟨⟨0, (), rfl, (show (0 : Int32) = if 0 ≤ k1 ∧ k1 < nu then 1 else 0 from (if_neg (show ¬ (0 ≤ k1 ∧ k1 < nu) from (fun z => (Int32.not_lt.mpr c_2) z.2))).symm), by rw [ht]; exact hP9, va_K.moved hW.alike hK, hD9⟩, hS.F ht⟩) hS.2.2 dX9_has_17
    · refine lv_iconst (v := 1) hx₀ hb dX9_has_12 (by decide +kernel) ?_
      refine lv_goto (tgt := 17) hx₀ hb dX9_has_13 (by decide) ?_
      obtain ⟨hP9, hD9⟩ := k_c2 (wc := [(kX4 ah av ln fa nu)]) hP hD [0] (by decide +kernel) rfl
      exact W.zret (v := 1) hx₀ hb hr (by decide +kernel) (fun t₀ ht hW => ⟨⟨1, (), rfl, (show (1 : Int32) = if 0 ≤ k1 ∧ k1 < nu then 1 else 0 from (if_pos (show 0 ≤ k1 ∧ k1 < nu from ⟨(Int32.not_lt.mp c_1), (Int32.not_le.mp c_2)⟩)).symm), by rw [ht]; exact hP9, va_K.moved hW.alike hK, hD9⟩, hS.F ht⟩) hS.2.2 dX9_has_17
theorem lf_j_valueAt_X4_1 (a0 : Int32) (h0 : ¬ a0 < 0) (h1 : ¬ 24 ≤ a0) : 0 ≤ a0.toInt ∧ a0.toInt < 24 := by
  first | rfl | assumption | decide | exact Or.inl rfl | (first | rfl | assumption | decide | omega | (have hr0 := Int32.toInt_lt a0; have hs0 := Int32.le_toInt a0; simp only [Int64.toInt_add, Int64.toInt_sub, Int32.toInt_add, Int32.toInt_sub, Int32.toInt_mul, Int64.le_iff_toInt_le, Int64.lt_iff_toInt_lt, Int32.le_iff_toInt_le, Int32.lt_iff_toInt_lt, ← Int32.toInt_inj, ← Int64.toInt_inj, Int32.toInt_toInt64, kc_0, kc_24, true_and, and_true, not_true_eq_false, not_false_eq_true] at * <;> ((first | omega | ((try simp (disch := omega) only [k_bm64] at *); (try simp (disch := omega) only [k_bm] at *); (try simp (disch := omega) only [k_bm] at *); omega) | (simp only [Int.bmod] at *; omega)))))
set_option maxHeartbeats 4000000 in
set_option maxRecDepth 100000 in
theorem j_valueAt_X4 (l : Launch) (dC : Nat → ClassId) (dI : Nat → Nat → Nat) (cI cJ cQ : ClassId) (sz : Nat) (ah : Nat) (k1 : Int32) (av : Nat) (ln : Int32) (fa : Int32) (nu : Int32) (tf : Nat → Int32) : Met l yX9_valueAt (kW yX9_valueAt cX9_valueAt 2 (some .int)) { frames := 0, cells := 0, slots := 0, locals := 0 } (kPre dC dI cI cJ cQ sz [.ref ah, .int k1] [(kX4 ah av ln fa nu), (kAI av cI 24 tf)]) (va_Qi (fun (r : Int32) (u : Unit) => (r = kAt 24 tf k1)) (fun (u : Unit) t₀ => kB dC dI cI cJ cQ (va_A [(kX4 ah av ln fa nu), (kAI av cI 24 tf)] sz) [(kX4 ah av ln fa nu), (kAI av cI 24 tf)] t₀) (va_A [(kX4 ah av ln fa nu), (kAI av cI 24 tf)] sz)) 0 0 (va_A [(kX4 ah av ln fa nu), (kAI av cI 24 tf)] sz) := by
  refine Met.ofW (cc := cX9_valueAt) (maxL := 2) (ret := (some .int)) (by decide) rfl ?_
  intro p₀ e₀ s₀ m₀ args below meth c₀ s₁ B hml hv₀
  obtain ⟨rfl, hsz, hP, hK, hD0, hN⟩ := hv₀
  have hx₀ := B.exec
  have hb := B.bytes
  have hr := B.returns
  have hts := atoms_spec (ws := (kW yX9_valueAt cX9_valueAt 2 (some .int))) B.pre
  have hts := fun w h => hts w (List.mem_cons_of_mem _ h)
  have hown : s₀.vm.findClass RX9 = some m₀.cls := findClass_of_methodNamed B.named
  have hlocks := B.notSynchronized
  subst hsz
  have hD := hD0.self (sz := s₀.heap.size)
  generalize hAe : va_A [(kX4 ah av ln fa nu), (kAI av cI 24 tf)] s₀.heap.size = A at hD ⊢
  have hA : ∀ q : Nat, s₀.heap.size ≤ q → A q := fun q h => by rw [← hAe]; exact Or.inr h
  have hS : va_S A s₀.heap s₀.heap [] := va_S.rf
  have hP : va_P (dC, dI) vwCl [(kX4 ah av ln fa nu), (kAI av cI 24 tf)] s₀.heap := hP
  have hl := lv_entry ([.ref ah, .int k1]) (n := 2) (Nat.le_of_ble_eq_true rfl)
  rw [lg_entry_eq]
  generalize (lg_sl ([.ref ah, .int k1]) ++ List.replicate (2 - (lg_sl ([.ref ah, .int k1])).length) Slot.unset).toArray = ls at hl ⊢
  have hl : lv_has ls 2 [(0, .ref ah), (1, .int k1)] := hl
  obtain ⟨H, hH⟩ : ∃ z : Heap, z = s₀.heap := ⟨_, rfl⟩
  rw [← hH] at hP
  have hS : va_S A s₀.heap H [] := by rw [hH]; exact hS
  refine k_heap hH ?_
  have hD : va_D A [(kX4 ah av ln fa nu), (kAI av cI 24 tf)] := hD
  obtain ⟨locs, hlo⟩ : ∃ z : List Loc, z = [] := ⟨_, rfl⟩
  rw [← hlo] at hS ⊢
  clear hlo hH hAe hD0
  refine lv_iload_n hx₀ hb dX9_valueAt_0 rfl (lv_at hl 1 rfl) ?_
  refine lv_if_lt (tgt := 22) hx₀ hb dX9_valueAt_1 (by decide) (fun c_1 => ?_) (fun c_1 => ?_)
  · refine lv_iconst (v := (-1)) hx₀ hb dX9_valueAt_22 (by decide +kernel) ?_
    obtain ⟨hP9, hD9⟩ := k_c2 (wc := [(kX4 ah av ln fa nu), (kAI av cI 24 tf)]) hP hD [0, 1] (by decide +kernel) rfl
    exact W.iret (v := (-1)) hx₀ hb hr (fun t₀ ht hW => ⟨⟨(-1), (), rfl, ((if_neg (show ¬ (0 ≤ k1 ∧ k1 < 24) from (fun z => (Int32.not_le.mpr c_1) z.1))).symm), by rw [ht]; exact hP9, va_K.moved hW.alike hK, hD9⟩, hS.F ht⟩) hS.2.2 dX9_valueAt_23
  · refine lv_iload_n hx₀ hb dX9_valueAt_4 rfl (lv_at hl 1 rfl) ?_
    refine lv_aload_n hx₀ hb dX9_valueAt_5 rfl (lv_at hl 0 rfl) ?_
    refine va_get (D := (dC, dI)) (ci := 4) (v := .ref av) (C := RX4) (T := TX4) (N := 4) hx₀ hb hts inlX4 hown hK hP 0 rfl rfl 0 (by decide) (hts (.fieldLink RX9 21 "BittenStick$Text" "values" "[I") wd_65) (fun _ h9 => h9) rfl dX9_valueAt_6 ?_
    refine va_alen (v := 24) hx₀ hb hK hP 1 0 rfl rfl rfl dX9_valueAt_9 ?_
    refine lv_icmp_ge (tgt := 22) hx₀ hb dX9_valueAt_10 (by decide) (fun c_2 => ?_) (fun c_2 => ?_)
    · refine lv_iconst (v := (-1)) hx₀ hb dX9_valueAt_22 (by decide +kernel) ?_
      obtain ⟨hP9, hD9⟩ := k_c2 (wc := [(kX4 ah av ln fa nu), (kAI av cI 24 tf)]) hP hD [0, 1] (by decide +kernel) rfl
      exact W.iret (v := (-1)) hx₀ hb hr (fun t₀ ht hW => ⟨⟨(-1), (), rfl, ((if_neg (show ¬ (0 ≤ k1 ∧ k1 < 24) from (fun z => (Int32.not_lt.mpr c_2) z.2))).symm), by rw [ht]; exact hP9, va_K.moved hW.alike hK, hD9⟩, hS.F ht⟩) hS.2.2 dX9_valueAt_23
    · refine lv_aload_n hx₀ hb dX9_valueAt_13 rfl (lv_at hl 0 rfl) ?_
      refine va_get (D := (dC, dI)) (ci := 4) (v := .ref av) (C := RX4) (T := TX4) (N := 4) hx₀ hb hts inlX4 hown hK hP 0 rfl rfl 0 (by decide) (hts (.fieldLink RX9 21 "BittenStick$Text" "values" "[I") wd_65) (fun _ h9 => h9) rfl dX9_valueAt_14 ?_
      refine lv_iload_n hx₀ hb dX9_valueAt_17 rfl (lv_at hl 1 rfl) ?_
      refine va_iald hx₀ hb hK hP 1 0 rfl rfl (vp_in_iff.mpr (lf_j_valueAt_X4_1 k1 c_1 c_2)) dX9_valueAt_18 ?_
      refine lv_goto (tgt := 23) hx₀ hb dX9_valueAt_19 (by decide) ?_
      obtain ⟨hP9, hD9⟩ := k_c2 (wc := [(kX4 ah av ln fa nu), (kAI av cI 24 tf)]) hP hD [0, 1] (by decide +kernel) rfl
      exact W.iret (v := tf k1.toNatClampNeg) hx₀ hb hr (fun t₀ ht hW => ⟨⟨tf k1.toNatClampNeg, (), rfl, ((if_pos (show 0 ≤ k1 ∧ k1 < 24 from ⟨(Int32.not_lt.mp c_1), (Int32.not_le.mp c_2)⟩)).symm), by rw [ht]; exact hP9, va_K.moved hW.alike hK, hD9⟩, hS.F ht⟩) hS.2.2 dX9_valueAt_23
theorem lf_j_worth_X4_1 (a0 : Int32) (h0 : a0 < 97) (h1 : a0 = 105) : (7 : Int32) = wL a0 := by
  ((try unfold wL); (try unfold wCall)) <;> ((repeat' split) <;> first | rfl | contradiction | assumption | (exfalso; (first | rfl | assumption | decide | omega | (have hr0 := Int32.toInt_lt a0; have hs0 := Int32.le_toInt a0; simp only [Int64.toInt_add, Int64.toInt_sub, Int32.toInt_add, Int32.toInt_sub, Int32.toInt_mul, Int64.le_iff_toInt_le, Int64.lt_iff_toInt_lt, Int32.le_iff_toInt_le, Int32.lt_iff_toInt_lt, ← Int32.toInt_inj, ← Int64.toInt_inj, Int32.toInt_toInt64, kc_m1, kc_0, kc_1, kc_2, kc_3, kc_4, kc_5, kc_6, kc_7, kc_8, kc_10, kc_48, kc_49, kc_57, kc_59, kc_97, kc_100, kc_102, kc_105, kc_111, kc_112, kc_115, kc_116, kc_119, true_and, and_true, not_true_eq_false, not_false_eq_true] at * <;> ((first | omega | ((try simp (disch := omega) only [k_bm64] at *); (try simp (disch := omega) only [k_bm] at *); (try simp (disch := omega) only [k_bm] at *); omega) | (simp only [Int.bmod] at *; omega)))))) | (first | rfl | assumption | decide | omega | (have hr0 := Int32.toInt_lt a0; have hs0 := Int32.le_toInt a0; simp only [Int64.toInt_add, Int64.toInt_sub, Int32.toInt_add, Int32.toInt_sub, Int32.toInt_mul, Int64.le_iff_toInt_le, Int64.lt_iff_toInt_lt, Int32.le_iff_toInt_le, Int32.lt_iff_toInt_lt, ← Int32.toInt_inj, ← Int64.toInt_inj, Int32.toInt_toInt64, kc_m1, kc_0, kc_1, kc_2, kc_3, kc_4, kc_5, kc_6, kc_7, kc_8, kc_10, kc_48, kc_49, kc_57, kc_59, kc_97, kc_100, kc_102, kc_105, kc_111, kc_112, kc_115, kc_116, kc_119, true_and, and_true, not_true_eq_false, not_false_eq_true] at * <;> ((first | omega | ((try simp (disch := omega) only [k_bm64] at *); (try simp (disch := omega) only [k_bm] at *); (try simp (disch := omega) only [k_bm] at *); omega) | (simp only [Int.bmod] at *; omega))))))
theorem lf_j_worth_X4_2 (a0 : Int32) (h0 : a0 < 97) (h1 : ¬ a0 = 105) (h2 : a0 = 111) : (6 : Int32) = wL a0 := by
  ((try unfold wL); (try unfold wCall)) <;> ((repeat' split) <;> first | rfl | contradiction | assumption | (exfalso; (first | rfl | assumption | decide | omega | (have hr0 := Int32.toInt_lt a0; have hs0 := Int32.le_toInt a0; simp only [Int64.toInt_add, Int64.toInt_sub, Int32.toInt_add, Int32.toInt_sub, Int32.toInt_mul, Int64.le_iff_toInt_le, Int64.lt_iff_toInt_lt, Int32.le_iff_toInt_le, Int32.lt_iff_toInt_lt, ← Int32.toInt_inj, ← Int64.toInt_inj, Int32.toInt_toInt64, kc_m1, kc_0, kc_1, kc_2, kc_3, kc_4, kc_5, kc_6, kc_7, kc_8, kc_10, kc_48, kc_49, kc_57, kc_59, kc_97, kc_100, kc_102, kc_105, kc_111, kc_112, kc_115, kc_116, kc_119, true_and, and_true, not_true_eq_false, not_false_eq_true] at * <;> ((first | omega | ((try simp (disch := omega) only [k_bm64] at *); (try simp (disch := omega) only [k_bm] at *); (try simp (disch := omega) only [k_bm] at *); omega) | (simp only [Int.bmod] at *; omega)))))) | (first | rfl | assumption | decide | omega | (have hr0 := Int32.toInt_lt a0; have hs0 := Int32.le_toInt a0; simp only [Int64.toInt_add, Int64.toInt_sub, Int32.toInt_add, Int32.toInt_sub, Int32.toInt_mul, Int64.le_iff_toInt_le, Int64.lt_iff_toInt_lt, Int32.le_iff_toInt_le, Int32.lt_iff_toInt_lt, ← Int32.toInt_inj, ← Int64.toInt_inj, Int32.toInt_toInt64, kc_m1, kc_0, kc_1, kc_2, kc_3, kc_4, kc_5, kc_6, kc_7, kc_8, kc_10, kc_48, kc_49, kc_57, kc_59, kc_97, kc_100, kc_102, kc_105, kc_111, kc_112, kc_115, kc_116, kc_119, true_and, and_true, not_true_eq_false, not_false_eq_true] at * <;> ((first | omega | ((try simp (disch := omega) only [k_bm64] at *); (try simp (disch := omega) only [k_bm] at *); (try simp (disch := omega) only [k_bm] at *); omega) | (simp only [Int.bmod] at *; omega))))))
theorem lf_j_worth_X4_3 (a0 : Int32) (h0 : a0 < 97) (h1 : ¬ a0 = 105) (h2 : ¬ a0 = 111) (h3 : a0 = 119) : (8 : Int32) = wL a0 := by
  ((try unfold wL); (try unfold wCall)) <;> ((repeat' split) <;> first | rfl | contradiction | assumption | (exfalso; (first | rfl | assumption | decide | omega | (have hr0 := Int32.toInt_lt a0; have hs0 := Int32.le_toInt a0; simp only [Int64.toInt_add, Int64.toInt_sub, Int32.toInt_add, Int32.toInt_sub, Int32.toInt_mul, Int64.le_iff_toInt_le, Int64.lt_iff_toInt_lt, Int32.le_iff_toInt_le, Int32.lt_iff_toInt_lt, ← Int32.toInt_inj, ← Int64.toInt_inj, Int32.toInt_toInt64, kc_m1, kc_0, kc_1, kc_2, kc_3, kc_4, kc_5, kc_6, kc_7, kc_8, kc_10, kc_48, kc_49, kc_57, kc_59, kc_97, kc_100, kc_102, kc_105, kc_111, kc_112, kc_115, kc_116, kc_119, true_and, and_true, not_true_eq_false, not_false_eq_true] at * <;> ((first | omega | ((try simp (disch := omega) only [k_bm64] at *); (try simp (disch := omega) only [k_bm] at *); (try simp (disch := omega) only [k_bm] at *); omega) | (simp only [Int.bmod] at *; omega)))))) | (first | rfl | assumption | decide | omega | (have hr0 := Int32.toInt_lt a0; have hs0 := Int32.le_toInt a0; simp only [Int64.toInt_add, Int64.toInt_sub, Int32.toInt_add, Int32.toInt_sub, Int32.toInt_mul, Int64.le_iff_toInt_le, Int64.lt_iff_toInt_lt, Int32.le_iff_toInt_le, Int32.lt_iff_toInt_lt, ← Int32.toInt_inj, ← Int64.toInt_inj, Int32.toInt_toInt64, kc_m1, kc_0, kc_1, kc_2, kc_3, kc_4, kc_5, kc_6, kc_7, kc_8, kc_10, kc_48, kc_49, kc_57, kc_59, kc_97, kc_100, kc_102, kc_105, kc_111, kc_112, kc_115, kc_116, kc_119, true_and, and_true, not_true_eq_false, not_false_eq_true] at * <;> ((first | omega | ((try simp (disch := omega) only [k_bm64] at *); (try simp (disch := omega) only [k_bm] at *); (try simp (disch := omega) only [k_bm] at *); omega) | (simp only [Int.bmod] at *; omega))))))
theorem lf_j_worth_X4_4 (a0 : Int32) (h0 : a0 < 97) (h1 : ¬ a0 = 105) (h2 : ¬ a0 = 111) (h3 : ¬ a0 = 119) : ((-1) : Int32) = wL a0 := by
  ((try unfold wL); (try unfold wCall)) <;> ((repeat' split) <;> first | rfl | contradiction | assumption | (exfalso; (first | rfl | assumption | decide | omega | (have hr0 := Int32.toInt_lt a0; have hs0 := Int32.le_toInt a0; simp only [Int64.toInt_add, Int64.toInt_sub, Int32.toInt_add, Int32.toInt_sub, Int32.toInt_mul, Int64.le_iff_toInt_le, Int64.lt_iff_toInt_lt, Int32.le_iff_toInt_le, Int32.lt_iff_toInt_lt, ← Int32.toInt_inj, ← Int64.toInt_inj, Int32.toInt_toInt64, kc_m1, kc_0, kc_1, kc_2, kc_3, kc_4, kc_5, kc_6, kc_7, kc_8, kc_10, kc_48, kc_49, kc_57, kc_59, kc_97, kc_100, kc_102, kc_105, kc_111, kc_112, kc_115, kc_116, kc_119, true_and, and_true, not_true_eq_false, not_false_eq_true] at * <;> ((first | omega | ((try simp (disch := omega) only [k_bm64] at *); (try simp (disch := omega) only [k_bm] at *); (try simp (disch := omega) only [k_bm] at *); omega) | (simp only [Int.bmod] at *; omega)))))) | (first | rfl | assumption | decide | omega | (have hr0 := Int32.toInt_lt a0; have hs0 := Int32.le_toInt a0; simp only [Int64.toInt_add, Int64.toInt_sub, Int32.toInt_add, Int32.toInt_sub, Int32.toInt_mul, Int64.le_iff_toInt_le, Int64.lt_iff_toInt_lt, Int32.le_iff_toInt_le, Int32.lt_iff_toInt_lt, ← Int32.toInt_inj, ← Int64.toInt_inj, Int32.toInt_toInt64, kc_m1, kc_0, kc_1, kc_2, kc_3, kc_4, kc_5, kc_6, kc_7, kc_8, kc_10, kc_48, kc_49, kc_57, kc_59, kc_97, kc_100, kc_102, kc_105, kc_111, kc_112, kc_115, kc_116, kc_119, true_and, and_true, not_true_eq_false, not_false_eq_true] at * <;> ((first | omega | ((try simp (disch := omega) only [k_bm64] at *); (try simp (disch := omega) only [k_bm] at *); (try simp (disch := omega) only [k_bm] at *); omega) | (simp only [Int.bmod] at *; omega))))))
theorem lf_j_worth_X4_5 (a0 : Int32) (h0 : ¬ a0 < 97) (h1 : 102 < a0) (h2 : a0 = 105) : (7 : Int32) = wL a0 := by
  ((try unfold wL); (try unfold wCall)) <;> ((repeat' split) <;> first | rfl | contradiction | assumption | (exfalso; (first | rfl | assumption | decide | omega | (have hr0 := Int32.toInt_lt a0; have hs0 := Int32.le_toInt a0; simp only [Int64.toInt_add, Int64.toInt_sub, Int32.toInt_add, Int32.toInt_sub, Int32.toInt_mul, Int64.le_iff_toInt_le, Int64.lt_iff_toInt_lt, Int32.le_iff_toInt_le, Int32.lt_iff_toInt_lt, ← Int32.toInt_inj, ← Int64.toInt_inj, Int32.toInt_toInt64, kc_m1, kc_0, kc_1, kc_2, kc_3, kc_4, kc_5, kc_6, kc_7, kc_8, kc_10, kc_48, kc_49, kc_57, kc_59, kc_97, kc_100, kc_102, kc_105, kc_111, kc_112, kc_115, kc_116, kc_119, true_and, and_true, not_true_eq_false, not_false_eq_true] at * <;> ((first | omega | ((try simp (disch := omega) only [k_bm64] at *); (try simp (disch := omega) only [k_bm] at *); (try simp (disch := omega) only [k_bm] at *); omega) | (simp only [Int.bmod] at *; omega)))))) | (first | rfl | assumption | decide | omega | (have hr0 := Int32.toInt_lt a0; have hs0 := Int32.le_toInt a0; simp only [Int64.toInt_add, Int64.toInt_sub, Int32.toInt_add, Int32.toInt_sub, Int32.toInt_mul, Int64.le_iff_toInt_le, Int64.lt_iff_toInt_lt, Int32.le_iff_toInt_le, Int32.lt_iff_toInt_lt, ← Int32.toInt_inj, ← Int64.toInt_inj, Int32.toInt_toInt64, kc_m1, kc_0, kc_1, kc_2, kc_3, kc_4, kc_5, kc_6, kc_7, kc_8, kc_10, kc_48, kc_49, kc_57, kc_59, kc_97, kc_100, kc_102, kc_105, kc_111, kc_112, kc_115, kc_116, kc_119, true_and, and_true, not_true_eq_false, not_false_eq_true] at * <;> ((first | omega | ((try simp (disch := omega) only [k_bm64] at *); (try simp (disch := omega) only [k_bm] at *); (try simp (disch := omega) only [k_bm] at *); omega) | (simp only [Int.bmod] at *; omega))))))
theorem lf_j_worth_X4_6 (a0 : Int32) (h0 : ¬ a0 < 97) (h1 : 102 < a0) (h2 : ¬ a0 = 105) (h3 : a0 = 111) : (6 : Int32) = wL a0 := by
  ((try unfold wL); (try unfold wCall)) <;> ((repeat' split) <;> first | rfl | contradiction | assumption | (exfalso; (first | rfl | assumption | decide | omega | (have hr0 := Int32.toInt_lt a0; have hs0 := Int32.le_toInt a0; simp only [Int64.toInt_add, Int64.toInt_sub, Int32.toInt_add, Int32.toInt_sub, Int32.toInt_mul, Int64.le_iff_toInt_le, Int64.lt_iff_toInt_lt, Int32.le_iff_toInt_le, Int32.lt_iff_toInt_lt, ← Int32.toInt_inj, ← Int64.toInt_inj, Int32.toInt_toInt64, kc_m1, kc_0, kc_1, kc_2, kc_3, kc_4, kc_5, kc_6, kc_7, kc_8, kc_10, kc_48, kc_49, kc_57, kc_59, kc_97, kc_100, kc_102, kc_105, kc_111, kc_112, kc_115, kc_116, kc_119, true_and, and_true, not_true_eq_false, not_false_eq_true] at * <;> ((first | omega | ((try simp (disch := omega) only [k_bm64] at *); (try simp (disch := omega) only [k_bm] at *); (try simp (disch := omega) only [k_bm] at *); omega) | (simp only [Int.bmod] at *; omega)))))) | (first | rfl | assumption | decide | omega | (have hr0 := Int32.toInt_lt a0; have hs0 := Int32.le_toInt a0; simp only [Int64.toInt_add, Int64.toInt_sub, Int32.toInt_add, Int32.toInt_sub, Int32.toInt_mul, Int64.le_iff_toInt_le, Int64.lt_iff_toInt_lt, Int32.le_iff_toInt_le, Int32.lt_iff_toInt_lt, ← Int32.toInt_inj, ← Int64.toInt_inj, Int32.toInt_toInt64, kc_m1, kc_0, kc_1, kc_2, kc_3, kc_4, kc_5, kc_6, kc_7, kc_8, kc_10, kc_48, kc_49, kc_57, kc_59, kc_97, kc_100, kc_102, kc_105, kc_111, kc_112, kc_115, kc_116, kc_119, true_and, and_true, not_true_eq_false, not_false_eq_true] at * <;> ((first | omega | ((try simp (disch := omega) only [k_bm64] at *); (try simp (disch := omega) only [k_bm] at *); (try simp (disch := omega) only [k_bm] at *); omega) | (simp only [Int.bmod] at *; omega))))))
theorem lf_j_worth_X4_7 (a0 : Int32) (h0 : ¬ a0 < 97) (h1 : 102 < a0) (h2 : ¬ a0 = 105) (h3 : ¬ a0 = 111) (h4 : a0 = 119) : (8 : Int32) = wL a0 := by
  ((try unfold wL); (try unfold wCall)) <;> ((repeat' split) <;> first | rfl | contradiction | assumption | (exfalso; (first | rfl | assumption | decide | omega | (have hr0 := Int32.toInt_lt a0; have hs0 := Int32.le_toInt a0; simp only [Int64.toInt_add, Int64.toInt_sub, Int32.toInt_add, Int32.toInt_sub, Int32.toInt_mul, Int64.le_iff_toInt_le, Int64.lt_iff_toInt_lt, Int32.le_iff_toInt_le, Int32.lt_iff_toInt_lt, ← Int32.toInt_inj, ← Int64.toInt_inj, Int32.toInt_toInt64, kc_m1, kc_0, kc_1, kc_2, kc_3, kc_4, kc_5, kc_6, kc_7, kc_8, kc_10, kc_48, kc_49, kc_57, kc_59, kc_97, kc_100, kc_102, kc_105, kc_111, kc_112, kc_115, kc_116, kc_119, true_and, and_true, not_true_eq_false, not_false_eq_true] at * <;> ((first | omega | ((try simp (disch := omega) only [k_bm64] at *); (try simp (disch := omega) only [k_bm] at *); (try simp (disch := omega) only [k_bm] at *); omega) | (simp only [Int.bmod] at *; omega)))))) | (first | rfl | assumption | decide | omega | (have hr0 := Int32.toInt_lt a0; have hs0 := Int32.le_toInt a0; simp only [Int64.toInt_add, Int64.toInt_sub, Int32.toInt_add, Int32.toInt_sub, Int32.toInt_mul, Int64.le_iff_toInt_le, Int64.lt_iff_toInt_lt, Int32.le_iff_toInt_le, Int32.lt_iff_toInt_lt, ← Int32.toInt_inj, ← Int64.toInt_inj, Int32.toInt_toInt64, kc_m1, kc_0, kc_1, kc_2, kc_3, kc_4, kc_5, kc_6, kc_7, kc_8, kc_10, kc_48, kc_49, kc_57, kc_59, kc_97, kc_100, kc_102, kc_105, kc_111, kc_112, kc_115, kc_116, kc_119, true_and, and_true, not_true_eq_false, not_false_eq_true] at * <;> ((first | omega | ((try simp (disch := omega) only [k_bm64] at *); (try simp (disch := omega) only [k_bm] at *); (try simp (disch := omega) only [k_bm] at *); omega) | (simp only [Int.bmod] at *; omega))))))
theorem lf_j_worth_X4_8 (a0 : Int32) (h0 : ¬ a0 < 97) (h1 : 102 < a0) (h2 : ¬ a0 = 105) (h3 : ¬ a0 = 111) (h4 : ¬ a0 = 119) : ((-1) : Int32) = wL a0 := by
  ((try unfold wL); (try unfold wCall)) <;> ((repeat' split) <;> first | rfl | contradiction | assumption | (exfalso; (first | rfl | assumption | decide | omega | (have hr0 := Int32.toInt_lt a0; have hs0 := Int32.le_toInt a0; simp only [Int64.toInt_add, Int64.toInt_sub, Int32.toInt_add, Int32.toInt_sub, Int32.toInt_mul, Int64.le_iff_toInt_le, Int64.lt_iff_toInt_lt, Int32.le_iff_toInt_le, Int32.lt_iff_toInt_lt, ← Int32.toInt_inj, ← Int64.toInt_inj, Int32.toInt_toInt64, kc_m1, kc_0, kc_1, kc_2, kc_3, kc_4, kc_5, kc_6, kc_7, kc_8, kc_10, kc_48, kc_49, kc_57, kc_59, kc_97, kc_100, kc_102, kc_105, kc_111, kc_112, kc_115, kc_116, kc_119, true_and, and_true, not_true_eq_false, not_false_eq_true] at * <;> ((first | omega | ((try simp (disch := omega) only [k_bm64] at *); (try simp (disch := omega) only [k_bm] at *); (try simp (disch := omega) only [k_bm] at *); omega) | (simp only [Int.bmod] at *; omega)))))) | (first | rfl | assumption | decide | omega | (have hr0 := Int32.toInt_lt a0; have hs0 := Int32.le_toInt a0; simp only [Int64.toInt_add, Int64.toInt_sub, Int32.toInt_add, Int32.toInt_sub, Int32.toInt_mul, Int64.le_iff_toInt_le, Int64.lt_iff_toInt_lt, Int32.le_iff_toInt_le, Int32.lt_iff_toInt_lt, ← Int32.toInt_inj, ← Int64.toInt_inj, Int32.toInt_toInt64, kc_m1, kc_0, kc_1, kc_2, kc_3, kc_4, kc_5, kc_6, kc_7, kc_8, kc_10, kc_48, kc_49, kc_57, kc_59, kc_97, kc_100, kc_102, kc_105, kc_111, kc_112, kc_115, kc_116, kc_119, true_and, and_true, not_true_eq_false, not_false_eq_true] at * <;> ((first | omega | ((try simp (disch := omega) only [k_bm64] at *); (try simp (disch := omega) only [k_bm] at *); (try simp (disch := omega) only [k_bm] at *); omega) | (simp only [Int.bmod] at *; omega))))))
theorem lf_j_worth_X4_9 (a0 : Int32) (h0 : ¬ a0 < 97) (h1 : ¬ 102 < a0) : (a0 - 97 : Int32) = wL a0 := by
  ((try unfold wL); (try unfold wCall)) <;> ((repeat' split) <;> first | rfl | contradiction | assumption | (exfalso; (first | rfl | assumption | decide | omega | (have hr0 := Int32.toInt_lt a0; have hs0 := Int32.le_toInt a0; simp only [Int64.toInt_add, Int64.toInt_sub, Int32.toInt_add, Int32.toInt_sub, Int32.toInt_mul, Int64.le_iff_toInt_le, Int64.lt_iff_toInt_lt, Int32.le_iff_toInt_le, Int32.lt_iff_toInt_lt, ← Int32.toInt_inj, ← Int64.toInt_inj, Int32.toInt_toInt64, kc_m1, kc_0, kc_1, kc_2, kc_3, kc_4, kc_5, kc_6, kc_7, kc_8, kc_10, kc_48, kc_49, kc_57, kc_59, kc_97, kc_100, kc_102, kc_105, kc_111, kc_112, kc_115, kc_116, kc_119, true_and, and_true, not_true_eq_false, not_false_eq_true] at * <;> ((first | omega | ((try simp (disch := omega) only [k_bm64] at *); (try simp (disch := omega) only [k_bm] at *); (try simp (disch := omega) only [k_bm] at *); omega) | (simp only [Int.bmod] at *; omega)))))) | (first | rfl | assumption | decide | omega | (have hr0 := Int32.toInt_lt a0; have hs0 := Int32.le_toInt a0; simp only [Int64.toInt_add, Int64.toInt_sub, Int32.toInt_add, Int32.toInt_sub, Int32.toInt_mul, Int64.le_iff_toInt_le, Int64.lt_iff_toInt_lt, Int32.le_iff_toInt_le, Int32.lt_iff_toInt_lt, ← Int32.toInt_inj, ← Int64.toInt_inj, Int32.toInt_toInt64, kc_m1, kc_0, kc_1, kc_2, kc_3, kc_4, kc_5, kc_6, kc_7, kc_8, kc_10, kc_48, kc_49, kc_57, kc_59, kc_97, kc_100, kc_102, kc_105, kc_111, kc_112, kc_115, kc_116, kc_119, true_and, and_true, not_true_eq_false, not_false_eq_true] at * <;> ((first | omega | ((try simp (disch := omega) only [k_bm64] at *); (try simp (disch := omega) only [k_bm] at *); (try simp (disch := omega) only [k_bm] at *); omega) | (simp only [Int.bmod] at *; omega))))))
set_option maxHeartbeats 4000000 in
set_option maxRecDepth 100000 in
theorem j_worth_X4 (l : Launch) (dC : Nat → ClassId) (dI : Nat → Nat → Nat) (cI cJ cQ : ClassId) (sz : Nat) (ah : Nat) (pl : Int32) (b1 : Int32) (av : Nat) (ln : Int32) (fa : Int32) (nu : Int32) (hh0 : 0 ≤ pl) : Met l yX4_worth (kW yX4_worth cX4_worth 3 (some .int)) { frames := 0, cells := 0, slots := 0, locals := 0 } (kPre dC dI cI cJ cQ sz [.ref ah, .int pl, .int b1] [(kX4 ah av ln fa nu)]) (va_Qi (fun (r : Int32) (u : Unit) => (r = wL b1)) (fun (u : Unit) t₀ => kB dC dI cI cJ cQ (va_A [(kX4 ah av ln fa nu)] sz) [(kX4 ah av ln fa nu)] t₀) (va_A [(kX4 ah av ln fa nu)] sz)) 0 0 (va_A [(kX4 ah av ln fa nu)] sz) := by
  refine Met.ofW (cc := cX4_worth) (maxL := 3) (ret := (some .int)) (by decide) rfl ?_
  intro p₀ e₀ s₀ m₀ args below meth c₀ s₁ B hml hv₀
  obtain ⟨rfl, hsz, hP, hK, hD0, hN⟩ := hv₀
  have hx₀ := B.exec
  have hb := B.bytes
  have hr := B.returns
  have hts := atoms_spec (ws := (kW yX4_worth cX4_worth 3 (some .int))) B.pre
  have hts := fun w h => hts w (List.mem_cons_of_mem _ h)
  have hown : s₀.vm.findClass RX4 = some m₀.cls := findClass_of_methodNamed B.named
  have hlocks := B.notSynchronized
  subst hsz
  have hD := hD0.self (sz := s₀.heap.size)
  generalize hAe : va_A [(kX4 ah av ln fa nu)] s₀.heap.size = A at hD ⊢
  have hA : ∀ q : Nat, s₀.heap.size ≤ q → A q := fun q h => by rw [← hAe]; exact Or.inr h
  have hS : va_S A s₀.heap s₀.heap [] := va_S.rf
  have hP : va_P (dC, dI) vwCl [(kX4 ah av ln fa nu)] s₀.heap := hP
  have hl := lv_entry ([.ref ah, .int pl, .int b1]) (n := 3) (Nat.le_of_ble_eq_true rfl)
  rw [lg_entry_eq]
  generalize (lg_sl ([.ref ah, .int pl, .int b1]) ++ List.replicate (3 - (lg_sl ([.ref ah, .int pl, .int b1])).length) Slot.unset).toArray = ls at hl ⊢
  have hl : lv_has ls 3 [(0, .ref ah), (1, .int pl), (2, .int b1)] := hl
  obtain ⟨H, hH⟩ : ∃ z : Heap, z = s₀.heap := ⟨_, rfl⟩
  rw [← hH] at hP
  have hS : va_S A s₀.heap H [] := by rw [hH]; exact hS
  refine k_heap hH ?_
  have hD : va_D A [(kX4 ah av ln fa nu)] := hD
  obtain ⟨locs, hlo⟩ : ∃ z : List Loc, z = [] := ⟨_, rfl⟩
  rw [← hlo] at hS ⊢
  clear hlo hH hAe hD0
  refine lv_iload_n hx₀ hb dX4_worth_0 rfl (lv_at hl 2 rfl) ?_
  refine lv_bipush (v := 97) hx₀ hb dX4_worth_1 (by decide +kernel) ?_
  refine lv_icmp_lt (tgt := 17) hx₀ hb dX4_worth_3 (by decide) (fun c_1 => ?_) (fun c_1 => ?_)
  · refine lv_iload_n hx₀ hb dX4_worth_17 rfl (lv_at hl 2 rfl) ?_
    by_cases c_2 : b1 = 105
    · refine k_topi (v := 105) c_2 ?_
      refine lv_lookup (off := 37) (tgt := 55) hx₀ hb dX4_worth_18 (by decide +kernel) (by decide +kernel) (by decide) ?_
      refine lv_bipush (v := 7) hx₀ hb dX4_worth_55 (by decide +kernel) ?_
      obtain ⟨hP9, hD9⟩ := k_c2 (wc := [(kX4 ah av ln fa nu)]) hP hD [0] (by decide +kernel) rfl
      exact W.iret (v := 7) hx₀ hb hr (fun t₀ ht hW => ⟨⟨7, (), rfl, (lf_j_worth_X4_1 b1 c_1 c_2), by rw [ht]; exact hP9, va_K.moved hW.alike hK, hD9⟩, hS.F ht⟩) hS.2.2 dX4_worth_57
    by_cases c_3 : b1 = 111
    · refine k_topi (v := 111) c_3 ?_
      refine lv_lookup (off := 34) (tgt := 52) hx₀ hb dX4_worth_18 (by decide +kernel) (by decide +kernel) (by decide) ?_
      refine lv_bipush (v := 6) hx₀ hb dX4_worth_52 (by decide +kernel) ?_
      obtain ⟨hP9, hD9⟩ := k_c2 (wc := [(kX4 ah av ln fa nu)]) hP hD [0] (by decide +kernel) rfl
      exact W.iret (v := 6) hx₀ hb hr (fun t₀ ht hW => ⟨⟨6, (), rfl, (lf_j_worth_X4_2 b1 c_1 c_2 c_3), by rw [ht]; exact hP9, va_K.moved hW.alike hK, hD9⟩, hS.F ht⟩) hS.2.2 dX4_worth_54
    by_cases c_4 : b1 = 119
    · refine k_topi (v := 119) c_4 ?_
      refine lv_lookup (off := 40) (tgt := 58) hx₀ hb dX4_worth_18 (by decide +kernel) (by decide +kernel) (by decide) ?_
      refine lv_bipush (v := 8) hx₀ hb dX4_worth_58 (by decide +kernel) ?_
      obtain ⟨hP9, hD9⟩ := k_c2 (wc := [(kX4 ah av ln fa nu)]) hP hD [0] (by decide +kernel) rfl
      exact W.iret (v := 8) hx₀ hb hr (fun t₀ ht hW => ⟨⟨8, (), rfl, (lf_j_worth_X4_3 b1 c_1 c_2 c_3 c_4), by rw [ht]; exact hP9, va_K.moved hW.alike hK, hD9⟩, hS.F ht⟩) hS.2.2 dX4_worth_60
    refine lv_lookup (off := 43) (tgt := 61) hx₀ hb dX4_worth_18 (by decide +kernel) ((lv_osw c_2 rfl).trans ((lv_osw c_3 rfl).trans ((lv_osw c_4 rfl).trans rfl))) (by decide) ?_
    refine lv_iconst (v := (-1)) hx₀ hb dX4_worth_61 (by decide +kernel) ?_
    obtain ⟨hP9, hD9⟩ := k_c2 (wc := [(kX4 ah av ln fa nu)]) hP hD [0] (by decide +kernel) rfl
    exact W.iret (v := (-1)) hx₀ hb hr (fun t₀ ht hW => ⟨⟨(-1), (), rfl, (lf_j_worth_X4_4 b1 c_1 c_2 c_3 c_4), by rw [ht]; exact hP9, va_K.moved hW.alike hK, hD9⟩, hS.F ht⟩) hS.2.2 dX4_worth_62
  · refine lv_iload_n hx₀ hb dX4_worth_6 rfl (lv_at hl 2 rfl) ?_
    refine lv_bipush (v := 102) hx₀ hb dX4_worth_7 (by decide +kernel) ?_
    refine lv_icmp_gt (tgt := 17) hx₀ hb dX4_worth_9 (by decide) (fun c_5 => ?_) (fun c_5 => ?_)
    · refine lv_iload_n hx₀ hb dX4_worth_17 rfl (lv_at hl 2 rfl) ?_
      by_cases c_6 : b1 = 105
      · refine k_topi (v := 105) c_6 ?_
        refine lv_lookup (off := 37) (tgt := 55) hx₀ hb dX4_worth_18 (by decide +kernel) (by decide +kernel) (by decide) ?_
        refine lv_bipush (v := 7) hx₀ hb dX4_worth_55 (by decide +kernel) ?_
        obtain ⟨hP9, hD9⟩ := k_c2 (wc := [(kX4 ah av ln fa nu)]) hP hD [0] (by decide +kernel) rfl
        exact W.iret (v := 7) hx₀ hb hr (fun t₀ ht hW => ⟨⟨7, (), rfl, (lf_j_worth_X4_5 b1 c_1 c_5 c_6), by rw [ht]; exact hP9, va_K.moved hW.alike hK, hD9⟩, hS.F ht⟩) hS.2.2 dX4_worth_57
      by_cases c_7 : b1 = 111
      · refine k_topi (v := 111) c_7 ?_
        refine lv_lookup (off := 34) (tgt := 52) hx₀ hb dX4_worth_18 (by decide +kernel) (by decide +kernel) (by decide) ?_
        refine lv_bipush (v := 6) hx₀ hb dX4_worth_52 (by decide +kernel) ?_
        obtain ⟨hP9, hD9⟩ := k_c2 (wc := [(kX4 ah av ln fa nu)]) hP hD [0] (by decide +kernel) rfl
        exact W.iret (v := 6) hx₀ hb hr (fun t₀ ht hW => ⟨⟨6, (), rfl, (lf_j_worth_X4_6 b1 c_1 c_5 c_6 c_7), by rw [ht]; exact hP9, va_K.moved hW.alike hK, hD9⟩, hS.F ht⟩) hS.2.2 dX4_worth_54
      by_cases c_8 : b1 = 119
      · refine k_topi (v := 119) c_8 ?_
        refine lv_lookup (off := 40) (tgt := 58) hx₀ hb dX4_worth_18 (by decide +kernel) (by decide +kernel) (by decide) ?_
        refine lv_bipush (v := 8) hx₀ hb dX4_worth_58 (by decide +kernel) ?_
        obtain ⟨hP9, hD9⟩ := k_c2 (wc := [(kX4 ah av ln fa nu)]) hP hD [0] (by decide +kernel) rfl
        exact W.iret (v := 8) hx₀ hb hr (fun t₀ ht hW => ⟨⟨8, (), rfl, (lf_j_worth_X4_7 b1 c_1 c_5 c_6 c_7 c_8), by rw [ht]; exact hP9, va_K.moved hW.alike hK, hD9⟩, hS.F ht⟩) hS.2.2 dX4_worth_60
      refine lv_lookup (off := 43) (tgt := 61) hx₀ hb dX4_worth_18 (by decide +kernel) ((lv_osw c_6 rfl).trans ((lv_osw c_7 rfl).trans ((lv_osw c_8 rfl).trans rfl))) (by decide) ?_
      refine lv_iconst (v := (-1)) hx₀ hb dX4_worth_61 (by decide +kernel) ?_
      obtain ⟨hP9, hD9⟩ := k_c2 (wc := [(kX4 ah av ln fa nu)]) hP hD [0] (by decide +kernel) rfl
      exact W.iret (v := (-1)) hx₀ hb hr (fun t₀ ht hW => ⟨⟨(-1), (), rfl, (lf_j_worth_X4_8 b1 c_1 c_5 c_6 c_7 c_8), by rw [ht]; exact hP9, va_K.moved hW.alike hK, hD9⟩, hS.F ht⟩) hS.2.2 dX4_worth_62
    · refine lv_iload_n hx₀ hb dX4_worth_12 rfl (lv_at hl 2 rfl) ?_
      refine lv_bipush (v := 97) hx₀ hb dX4_worth_13 (by decide +kernel) ?_
      refine lv_isub hx₀ hb dX4_worth_15 ?_
      obtain ⟨hP9, hD9⟩ := k_c2 (wc := [(kX4 ah av ln fa nu)]) hP hD [0] (by decide +kernel) rfl
      exact W.iret (v := b1 - 97) hx₀ hb hr (fun t₀ ht hW => ⟨⟨b1 - 97, (), rfl, (lf_j_worth_X4_9 b1 c_1 c_5), by rw [ht]; exact hP9, va_K.moved hW.alike hK, hD9⟩, hS.F ht⟩) hS.2.2 dX4_worth_16
set_option maxHeartbeats 4000000 in
set_option maxRecDepth 100000 in
theorem j_things_X4 (l : Launch) (dC : Nat → ClassId) (dI : Nat → Nat → Nat) (cI cJ cQ : ClassId) (sz : Nat) (ah : Nat) (b1 : Int32) (av : Nat) (ln : Int32) (fa : Int32) (nu : Int32) : Met l yX4_thingsIn (kW yX4_thingsIn cX4_thingsIn 2 (some .int)) { frames := 0, cells := 0, slots := 0, locals := 0 } (kPre dC dI cI cJ cQ sz [.ref ah, .int b1] [(kX4 ah av ln fa nu)]) (va_Qi (fun (r : Int32) (u : Unit) => (r = b1)) (fun (u : Unit) t₀ => kB dC dI cI cJ cQ (va_A [(kX4 ah av ln fa nu)] sz) [(kX4 ah av ln fa nu)] t₀) (va_A [(kX4 ah av ln fa nu)] sz)) 0 0 (va_A [(kX4 ah av ln fa nu)] sz) := by
  refine Met.ofW (cc := cX4_thingsIn) (maxL := 2) (ret := (some .int)) (by decide) rfl ?_
  intro p₀ e₀ s₀ m₀ args below meth c₀ s₁ B hml hv₀
  obtain ⟨rfl, hsz, hP, hK, hD0, hN⟩ := hv₀
  have hx₀ := B.exec
  have hb := B.bytes
  have hr := B.returns
  have hts := atoms_spec (ws := (kW yX4_thingsIn cX4_thingsIn 2 (some .int))) B.pre
  have hts := fun w h => hts w (List.mem_cons_of_mem _ h)
  have hown : s₀.vm.findClass RX4 = some m₀.cls := findClass_of_methodNamed B.named
  have hlocks := B.notSynchronized
  subst hsz
  have hD := hD0.self (sz := s₀.heap.size)
  generalize hAe : va_A [(kX4 ah av ln fa nu)] s₀.heap.size = A at hD ⊢
  have hA : ∀ q : Nat, s₀.heap.size ≤ q → A q := fun q h => by rw [← hAe]; exact Or.inr h
  have hS : va_S A s₀.heap s₀.heap [] := va_S.rf
  have hP : va_P (dC, dI) vwCl [(kX4 ah av ln fa nu)] s₀.heap := hP
  have hl := lv_entry ([.ref ah, .int b1]) (n := 2) (Nat.le_of_ble_eq_true rfl)
  rw [lg_entry_eq]
  generalize (lg_sl ([.ref ah, .int b1]) ++ List.replicate (2 - (lg_sl ([.ref ah, .int b1])).length) Slot.unset).toArray = ls at hl ⊢
  have hl : lv_has ls 2 [(0, .ref ah), (1, .int b1)] := hl
  obtain ⟨H, hH⟩ : ∃ z : Heap, z = s₀.heap := ⟨_, rfl⟩
  rw [← hH] at hP
  have hS : va_S A s₀.heap H [] := by rw [hH]; exact hS
  refine k_heap hH ?_
  have hD : va_D A [(kX4 ah av ln fa nu)] := hD
  obtain ⟨locs, hlo⟩ : ∃ z : List Loc, z = [] := ⟨_, rfl⟩
  rw [← hlo] at hS ⊢
  clear hlo hH hAe hD0
  refine lv_iload_n hx₀ hb dX4_thingsIn_0 rfl (lv_at hl 1 rfl) ?_
  obtain ⟨hP9, hD9⟩ := k_c2 (wc := [(kX4 ah av ln fa nu)]) hP hD [0] (by decide +kernel) rfl
  exact W.iret (v := b1) hx₀ hb hr (fun t₀ ht hW => ⟨⟨b1, (), rfl, rfl, by rw [ht]; exact hP9, va_K.moved hW.alike hK, hD9⟩, hS.F ht⟩) hS.2.2 dX4_thingsIn_1
set_option maxHeartbeats 4000000 in
set_option maxRecDepth 100000 in
theorem j_isFull_X7 (l : Launch) (dC : Nat → ClassId) (dI : Nat → Nat → Nat) (cI cJ cQ : ClassId) (sz : Nat) (ah : Nat) (av : Nat) (ln : Int32) (fa : Int32) (nu : Int32) (tf : Nat → Int32) : Met l yX9_isFull (kW yX9_isFull cX9_isFull 1 (some .boolean)) { frames := 0, cells := 0, slots := 0, locals := 0 } (kPre dC dI cI cJ cQ sz [.ref ah] [(kX7 ah av ln fa nu), (kAI av cI 39 tf)]) (va_Qi (fun (r : Int32) (u : Unit) => (r = if 39 ≤ ln then 1 else 0)) (fun (u : Unit) t₀ => kB dC dI cI cJ cQ (va_A [(kX7 ah av ln fa nu), (kAI av cI 39 tf)] sz) [(kX7 ah av ln fa nu), (kAI av cI 39 tf)] t₀) (va_A [(kX7 ah av ln fa nu), (kAI av cI 39 tf)] sz)) 0 0 (va_A [(kX7 ah av ln fa nu), (kAI av cI 39 tf)] sz) := by
  refine Met.ofW (cc := cX9_isFull) (maxL := 1) (ret := (some .boolean)) (by decide) rfl ?_
  intro p₀ e₀ s₀ m₀ args below meth c₀ s₁ B hml hv₀
  obtain ⟨rfl, hsz, hP, hK, hD0, hN⟩ := hv₀
  have hx₀ := B.exec
  have hb := B.bytes
  have hr := B.returns
  have hts := atoms_spec (ws := (kW yX9_isFull cX9_isFull 1 (some .boolean))) B.pre
  have hts := fun w h => hts w (List.mem_cons_of_mem _ h)
  have hown : s₀.vm.findClass RX9 = some m₀.cls := findClass_of_methodNamed B.named
  have hlocks := B.notSynchronized
  subst hsz
  have hD := hD0.self (sz := s₀.heap.size)
  generalize hAe : va_A [(kX7 ah av ln fa nu), (kAI av cI 39 tf)] s₀.heap.size = A at hD ⊢
  have hA : ∀ q : Nat, s₀.heap.size ≤ q → A q := fun q h => by rw [← hAe]; exact Or.inr h
  have hS : va_S A s₀.heap s₀.heap [] := va_S.rf
  have hP : va_P (dC, dI) vwCl [(kX7 ah av ln fa nu), (kAI av cI 39 tf)] s₀.heap := hP
  have hl := lv_entry ([.ref ah]) (n := 1) (Nat.le_of_ble_eq_true rfl)
  rw [lg_entry_eq]
  generalize (lg_sl ([.ref ah]) ++ List.replicate (1 - (lg_sl ([.ref ah])).length) Slot.unset).toArray = ls at hl ⊢
  have hl : lv_has ls 1 [(0, .ref ah)] := hl
  obtain ⟨H, hH⟩ : ∃ z : Heap, z = s₀.heap := ⟨_, rfl⟩
  rw [← hH] at hP
  have hS : va_S A s₀.heap H [] := by rw [hH]; exact hS
  refine k_heap hH ?_
  have hD : va_D A [(kX7 ah av ln fa nu), (kAI av cI 39 tf)] := hD
  obtain ⟨locs, hlo⟩ : ∃ z : List Loc, z = [] := ⟨_, rfl⟩
  rw [← hlo] at hS ⊢
  clear hlo hH hAe hD0
  refine lv_aload_n hx₀ hb dX9_isFull_0 rfl (lv_at hl 0 rfl) ?_
  refine va_get (D := (dC, dI)) (ci := 7) (v := .int ln) (C := RX7) (T := TX7) (N := 4) hx₀ hb hts inlX7 hown hK hP 0 rfl rfl 1 (by decide) (hts (.fieldLink RX9 25 "BittenStick$Text" "length" "I") wd_147) (fun _ h9 => h9) rfl dX9_isFull_1 ?_
  refine lv_aload_n hx₀ hb dX9_isFull_4 rfl (lv_at hl 0 rfl) ?_
  refine va_get (D := (dC, dI)) (ci := 7) (v := .ref av) (C := RX7) (T := TX7) (N := 4) hx₀ hb hts inlX7 hown hK hP 0 rfl rfl 0 (by decide) (hts (.fieldLink RX9 21 "BittenStick$Text" "values" "[I") wd_65) (fun _ h9 => h9) rfl dX9_isFull_5 ?_
  refine va_alen (v := 39) hx₀ hb hK hP 1 0 rfl rfl rfl dX9_isFull_8 ?_
  refine lv_icmp_lt (tgt := 16) hx₀ hb dX9_isFull_9 (by decide) (fun c_1 => ?_) (fun c_1 => ?_)
  · refine lv_iconst (v := 0) hx₀ hb dX9_isFull_16 (by decide +kernel) ?_
    obtain ⟨hP9, hD9⟩ := k_c2 (wc := [(kX7 ah av ln fa nu), (kAI av cI 39 tf)]) hP hD [0, 1] (by decide +kernel) rfl
    exact W.zret (v := 0) hx₀ hb hr (by decide +kernel) (fun t₀ ht hW => ⟨⟨0, (), rfl, (show (0 : Int32) = if 39 ≤ ln then 1 else 0 from (if_neg (show ¬ (39 ≤ ln) from (Int32.not_le.mpr c_1))).symm), by rw [ht]; exact hP9, va_K.moved hW.alike hK, hD9⟩, hS.F ht⟩) hS.2.2 dX9_isFull_17
  · refine lv_iconst (v := 1) hx₀ hb dX9_isFull_12 (by decide +kernel) ?_
    refine lv_goto (tgt := 17) hx₀ hb dX9_isFull_13 (by decide) ?_
    obtain ⟨hP9, hD9⟩ := k_c2 (wc := [(kX7 ah av ln fa nu), (kAI av cI 39 tf)]) hP hD [0, 1] (by decide +kernel) rfl
    exact W.zret (v := 1) hx₀ hb hr (by decide +kernel) (fun t₀ ht hW => ⟨⟨1, (), rfl, (show (1 : Int32) = if 39 ≤ ln then 1 else 0 from (if_pos (show 39 ≤ ln from (Int32.not_lt.mp c_1))).symm), by rw [ht]; exact hP9, va_K.moved hW.alike hK, hD9⟩, hS.F ht⟩) hS.2.2 dX9_isFull_17
set_option maxHeartbeats 4000000 in
set_option maxRecDepth 100000 in
theorem j_has_X7 (l : Launch) (dC : Nat → ClassId) (dI : Nat → Nat → Nat) (cI cJ cQ : ClassId) (sz : Nat) (ah : Nat) (k1 : Int32) (av : Nat) (ln : Int32) (fa : Int32) (nu : Int32) : Met l yX9_has (kW yX9_has cX9_has 2 (some .boolean)) { frames := 0, cells := 0, slots := 0, locals := 0 } (kPre dC dI cI cJ cQ sz [.ref ah, .int k1] [(kX7 ah av ln fa nu)]) (va_Qi (fun (r : Int32) (u : Unit) => (r = if 0 ≤ k1 ∧ k1 < nu then 1 else 0)) (fun (u : Unit) t₀ => kB dC dI cI cJ cQ (va_A [(kX7 ah av ln fa nu)] sz) [(kX7 ah av ln fa nu)] t₀) (va_A [(kX7 ah av ln fa nu)] sz)) 0 0 (va_A [(kX7 ah av ln fa nu)] sz) := by
  refine Met.ofW (cc := cX9_has) (maxL := 2) (ret := (some .boolean)) (by decide) rfl ?_
  intro p₀ e₀ s₀ m₀ args below meth c₀ s₁ B hml hv₀
  obtain ⟨rfl, hsz, hP, hK, hD0, hN⟩ := hv₀
  have hx₀ := B.exec
  have hb := B.bytes
  have hr := B.returns
  have hts := atoms_spec (ws := (kW yX9_has cX9_has 2 (some .boolean))) B.pre
  have hts := fun w h => hts w (List.mem_cons_of_mem _ h)
  have hown : s₀.vm.findClass RX9 = some m₀.cls := findClass_of_methodNamed B.named
  have hlocks := B.notSynchronized
  subst hsz
  have hD := hD0.self (sz := s₀.heap.size)
  generalize hAe : va_A [(kX7 ah av ln fa nu)] s₀.heap.size = A at hD ⊢
  have hA : ∀ q : Nat, s₀.heap.size ≤ q → A q := fun q h => by rw [← hAe]; exact Or.inr h
  have hS : va_S A s₀.heap s₀.heap [] := va_S.rf
  have hP : va_P (dC, dI) vwCl [(kX7 ah av ln fa nu)] s₀.heap := hP
  have hl := lv_entry ([.ref ah, .int k1]) (n := 2) (Nat.le_of_ble_eq_true rfl)
  rw [lg_entry_eq]
  generalize (lg_sl ([.ref ah, .int k1]) ++ List.replicate (2 - (lg_sl ([.ref ah, .int k1])).length) Slot.unset).toArray = ls at hl ⊢
  have hl : lv_has ls 2 [(0, .ref ah), (1, .int k1)] := hl
  obtain ⟨H, hH⟩ : ∃ z : Heap, z = s₀.heap := ⟨_, rfl⟩
  rw [← hH] at hP
  have hS : va_S A s₀.heap H [] := by rw [hH]; exact hS
  refine k_heap hH ?_
  have hD : va_D A [(kX7 ah av ln fa nu)] := hD
  obtain ⟨locs, hlo⟩ : ∃ z : List Loc, z = [] := ⟨_, rfl⟩
  rw [← hlo] at hS ⊢
  clear hlo hH hAe hD0
  refine lv_iload_n hx₀ hb dX9_has_0 rfl (lv_at hl 1 rfl) ?_
  refine lv_if_lt (tgt := 16) hx₀ hb dX9_has_1 (by decide) (fun c_1 => ?_) (fun c_1 => ?_)
  · refine lv_iconst (v := 0) hx₀ hb dX9_has_16 (by decide +kernel) ?_
    obtain ⟨hP9, hD9⟩ := k_c2 (wc := [(kX7 ah av ln fa nu)]) hP hD [0] (by decide +kernel) rfl
    exact W.zret (v := 0) hx₀ hb hr (by decide +kernel) (fun t₀ ht hW => ⟨⟨0, (), rfl, (show (0 : Int32) = if 0 ≤ k1 ∧ k1 < nu then 1 else 0 from (if_neg (show ¬ (0 ≤ k1 ∧ k1 < nu) from (fun z => (Int32.not_le.mpr c_1) z.1))).symm), by rw [ht]; exact hP9, va_K.moved hW.alike hK, hD9⟩, hS.F ht⟩) hS.2.2 dX9_has_17
  · refine lv_iload_n hx₀ hb dX9_has_4 rfl (lv_at hl 1 rfl) ?_
    refine lv_aload_n hx₀ hb dX9_has_5 rfl (lv_at hl 0 rfl) ?_
    refine va_get (D := (dC, dI)) (ci := 7) (v := .int nu) (C := RX7) (T := TX7) (N := 4) hx₀ hb hts inlX7 hown hK hP 0 rfl rfl 3 (by decide) (hts (.fieldLink RX9 37 "BittenStick$Text" "number" "I") wd_174) (fun _ h9 => h9) rfl dX9_has_6 ?_
    refine lv_icmp_ge (tgt := 16) hx₀ hb dX9_has_9 (by decide) (fun c_2 => ?_) (fun c_2 => ?_)
    · refine lv_iconst (v := 0) hx₀ hb dX9_has_16 (by decide +kernel) ?_
      obtain ⟨hP9, hD9⟩ := k_c2 (wc := [(kX7 ah av ln fa nu)]) hP hD [0] (by decide +kernel) rfl
      exact W.zret (v := 0) hx₀ hb hr (by decide +kernel) (fun t₀ ht hW => ⟨⟨0, (), rfl, (show (0 : Int32) = if 0 ≤ k1 ∧ k1 < nu then 1 else 0 from (if_neg (show ¬ (0 ≤ k1 ∧ k1 < nu) from (fun z => (Int32.not_lt.mpr c_2) z.2))).symm), by rw [ht]; exact hP9, va_K.moved hW.alike hK, hD9⟩, hS.F ht⟩) hS.2.2 dX9_has_17
    · refine lv_iconst (v := 1) hx₀ hb dX9_has_12 (by decide +kernel) ?_
      refine lv_goto (tgt := 17) hx₀ hb dX9_has_13 (by decide) ?_
      obtain ⟨hP9, hD9⟩ := k_c2 (wc := [(kX7 ah av ln fa nu)]) hP hD [0] (by decide +kernel) rfl
      exact W.zret (v := 1) hx₀ hb hr (by decide +kernel) (fun t₀ ht hW => ⟨⟨1, (), rfl, (show (1 : Int32) = if 0 ≤ k1 ∧ k1 < nu then 1 else 0 from (if_pos (show 0 ≤ k1 ∧ k1 < nu from ⟨(Int32.not_lt.mp c_1), (Int32.not_le.mp c_2)⟩)).symm), by rw [ht]; exact hP9, va_K.moved hW.alike hK, hD9⟩, hS.F ht⟩) hS.2.2 dX9_has_17
theorem lf_j_valueAt_X7_1 (a0 : Int32) (h0 : ¬ a0 < 0) (h1 : ¬ 39 ≤ a0) : 0 ≤ a0.toInt ∧ a0.toInt < 39 := by
  first | rfl | assumption | decide | exact Or.inl rfl | (first | rfl | assumption | decide | omega | (have hr0 := Int32.toInt_lt a0; have hs0 := Int32.le_toInt a0; simp only [Int64.toInt_add, Int64.toInt_sub, Int32.toInt_add, Int32.toInt_sub, Int32.toInt_mul, Int64.le_iff_toInt_le, Int64.lt_iff_toInt_lt, Int32.le_iff_toInt_le, Int32.lt_iff_toInt_lt, ← Int32.toInt_inj, ← Int64.toInt_inj, Int32.toInt_toInt64, kc_0, kc_39, true_and, and_true, not_true_eq_false, not_false_eq_true] at * <;> ((first | omega | ((try simp (disch := omega) only [k_bm64] at *); (try simp (disch := omega) only [k_bm] at *); (try simp (disch := omega) only [k_bm] at *); omega) | (simp only [Int.bmod] at *; omega)))))
set_option maxHeartbeats 4000000 in
set_option maxRecDepth 100000 in
theorem j_valueAt_X7 (l : Launch) (dC : Nat → ClassId) (dI : Nat → Nat → Nat) (cI cJ cQ : ClassId) (sz : Nat) (ah : Nat) (k1 : Int32) (av : Nat) (ln : Int32) (fa : Int32) (nu : Int32) (tf : Nat → Int32) : Met l yX9_valueAt (kW yX9_valueAt cX9_valueAt 2 (some .int)) { frames := 0, cells := 0, slots := 0, locals := 0 } (kPre dC dI cI cJ cQ sz [.ref ah, .int k1] [(kX7 ah av ln fa nu), (kAI av cI 39 tf)]) (va_Qi (fun (r : Int32) (u : Unit) => (r = kAt 39 tf k1)) (fun (u : Unit) t₀ => kB dC dI cI cJ cQ (va_A [(kX7 ah av ln fa nu), (kAI av cI 39 tf)] sz) [(kX7 ah av ln fa nu), (kAI av cI 39 tf)] t₀) (va_A [(kX7 ah av ln fa nu), (kAI av cI 39 tf)] sz)) 0 0 (va_A [(kX7 ah av ln fa nu), (kAI av cI 39 tf)] sz) := by
  refine Met.ofW (cc := cX9_valueAt) (maxL := 2) (ret := (some .int)) (by decide) rfl ?_
  intro p₀ e₀ s₀ m₀ args below meth c₀ s₁ B hml hv₀
  obtain ⟨rfl, hsz, hP, hK, hD0, hN⟩ := hv₀
  have hx₀ := B.exec
  have hb := B.bytes
  have hr := B.returns
  have hts := atoms_spec (ws := (kW yX9_valueAt cX9_valueAt 2 (some .int))) B.pre
  have hts := fun w h => hts w (List.mem_cons_of_mem _ h)
  have hown : s₀.vm.findClass RX9 = some m₀.cls := findClass_of_methodNamed B.named
  have hlocks := B.notSynchronized
  subst hsz
  have hD := hD0.self (sz := s₀.heap.size)
  generalize hAe : va_A [(kX7 ah av ln fa nu), (kAI av cI 39 tf)] s₀.heap.size = A at hD ⊢
  have hA : ∀ q : Nat, s₀.heap.size ≤ q → A q := fun q h => by rw [← hAe]; exact Or.inr h
  have hS : va_S A s₀.heap s₀.heap [] := va_S.rf
  have hP : va_P (dC, dI) vwCl [(kX7 ah av ln fa nu), (kAI av cI 39 tf)] s₀.heap := hP
  have hl := lv_entry ([.ref ah, .int k1]) (n := 2) (Nat.le_of_ble_eq_true rfl)
  rw [lg_entry_eq]
  generalize (lg_sl ([.ref ah, .int k1]) ++ List.replicate (2 - (lg_sl ([.ref ah, .int k1])).length) Slot.unset).toArray = ls at hl ⊢
  have hl : lv_has ls 2 [(0, .ref ah), (1, .int k1)] := hl
  obtain ⟨H, hH⟩ : ∃ z : Heap, z = s₀.heap := ⟨_, rfl⟩
  rw [← hH] at hP
  have hS : va_S A s₀.heap H [] := by rw [hH]; exact hS
  refine k_heap hH ?_
  have hD : va_D A [(kX7 ah av ln fa nu), (kAI av cI 39 tf)] := hD
  obtain ⟨locs, hlo⟩ : ∃ z : List Loc, z = [] := ⟨_, rfl⟩
  rw [← hlo] at hS ⊢
  clear hlo hH hAe hD0
  refine lv_iload_n hx₀ hb dX9_valueAt_0 rfl (lv_at hl 1 rfl) ?_
  refine lv_if_lt (tgt := 22) hx₀ hb dX9_valueAt_1 (by decide) (fun c_1 => ?_) (fun c_1 => ?_)
  · refine lv_iconst (v := (-1)) hx₀ hb dX9_valueAt_22 (by decide +kernel) ?_
    obtain ⟨hP9, hD9⟩ := k_c2 (wc := [(kX7 ah av ln fa nu), (kAI av cI 39 tf)]) hP hD [0, 1] (by decide +kernel) rfl
    exact W.iret (v := (-1)) hx₀ hb hr (fun t₀ ht hW => ⟨⟨(-1), (), rfl, ((if_neg (show ¬ (0 ≤ k1 ∧ k1 < 39) from (fun z => (Int32.not_le.mpr c_1) z.1))).symm), by rw [ht]; exact hP9, va_K.moved hW.alike hK, hD9⟩, hS.F ht⟩) hS.2.2 dX9_valueAt_23
  · refine lv_iload_n hx₀ hb dX9_valueAt_4 rfl (lv_at hl 1 rfl) ?_
    refine lv_aload_n hx₀ hb dX9_valueAt_5 rfl (lv_at hl 0 rfl) ?_
    refine va_get (D := (dC, dI)) (ci := 7) (v := .ref av) (C := RX7) (T := TX7) (N := 4) hx₀ hb hts inlX7 hown hK hP 0 rfl rfl 0 (by decide) (hts (.fieldLink RX9 21 "BittenStick$Text" "values" "[I") wd_65) (fun _ h9 => h9) rfl dX9_valueAt_6 ?_
    refine va_alen (v := 39) hx₀ hb hK hP 1 0 rfl rfl rfl dX9_valueAt_9 ?_
    refine lv_icmp_ge (tgt := 22) hx₀ hb dX9_valueAt_10 (by decide) (fun c_2 => ?_) (fun c_2 => ?_)
    · refine lv_iconst (v := (-1)) hx₀ hb dX9_valueAt_22 (by decide +kernel) ?_
      obtain ⟨hP9, hD9⟩ := k_c2 (wc := [(kX7 ah av ln fa nu), (kAI av cI 39 tf)]) hP hD [0, 1] (by decide +kernel) rfl
      exact W.iret (v := (-1)) hx₀ hb hr (fun t₀ ht hW => ⟨⟨(-1), (), rfl, ((if_neg (show ¬ (0 ≤ k1 ∧ k1 < 39) from (fun z => (Int32.not_lt.mpr c_2) z.2))).symm), by rw [ht]; exact hP9, va_K.moved hW.alike hK, hD9⟩, hS.F ht⟩) hS.2.2 dX9_valueAt_23
    · refine lv_aload_n hx₀ hb dX9_valueAt_13 rfl (lv_at hl 0 rfl) ?_
      refine va_get (D := (dC, dI)) (ci := 7) (v := .ref av) (C := RX7) (T := TX7) (N := 4) hx₀ hb hts inlX7 hown hK hP 0 rfl rfl 0 (by decide) (hts (.fieldLink RX9 21 "BittenStick$Text" "values" "[I") wd_65) (fun _ h9 => h9) rfl dX9_valueAt_14 ?_
      refine lv_iload_n hx₀ hb dX9_valueAt_17 rfl (lv_at hl 1 rfl) ?_
      refine va_iald hx₀ hb hK hP 1 0 rfl rfl (vp_in_iff.mpr (lf_j_valueAt_X7_1 k1 c_1 c_2)) dX9_valueAt_18 ?_
      refine lv_goto (tgt := 23) hx₀ hb dX9_valueAt_19 (by decide) ?_
      obtain ⟨hP9, hD9⟩ := k_c2 (wc := [(kX7 ah av ln fa nu), (kAI av cI 39 tf)]) hP hD [0, 1] (by decide +kernel) rfl
      exact W.iret (v := tf k1.toNatClampNeg) hx₀ hb hr (fun t₀ ht hW => ⟨⟨tf k1.toNatClampNeg, (), rfl, ((if_pos (show 0 ≤ k1 ∧ k1 < 39 from ⟨(Int32.not_lt.mp c_1), (Int32.not_le.mp c_2)⟩)).symm), by rw [ht]; exact hP9, va_K.moved hW.alike hK, hD9⟩, hS.F ht⟩) hS.2.2 dX9_valueAt_23
theorem lf_j_worth_X7_1 (a0 : Int32) (a1 : Int32) (h0 : a0 = 0) : (wK a1 : Int32) = wP a0 a1 := by
  ((try unfold wP); (try unfold wK); (try unfold wS); (try unfold wCall); (try unfold wFig)) <;> ((repeat' split) <;> first | rfl | contradiction | assumption | (exfalso; (first | rfl | assumption | decide | omega | (have hr0 := Int32.toInt_lt a0; have hs0 := Int32.le_toInt a0; have hr1 := Int32.toInt_lt a1; have hs1 := Int32.le_toInt a1; simp only [Int64.toInt_add, Int64.toInt_sub, Int32.toInt_add, Int32.toInt_sub, Int32.toInt_mul, Int64.le_iff_toInt_le, Int64.lt_iff_toInt_lt, Int32.le_iff_toInt_le, Int32.lt_iff_toInt_lt, ← Int32.toInt_inj, ← Int64.toInt_inj, Int32.toInt_toInt64, kc_m1, kc_0, kc_1, kc_2, kc_3, kc_4, kc_5, kc_6, kc_7, kc_8, kc_10, kc_48, kc_49, kc_57, kc_59, kc_97, kc_100, kc_102, kc_105, kc_111, kc_112, kc_115, kc_116, kc_119, true_and, and_true, not_true_eq_false, not_false_eq_true] at * <;> ((first | omega | ((try simp (disch := omega) only [k_bm64] at *); (try simp (disch := omega) only [k_bm] at *); (try simp (disch := omega) only [k_bm] at *); omega) | (simp only [Int.bmod] at *; omega)))))) | (first | rfl | assumption | decide | omega | (have hr0 := Int32.toInt_lt a0; have hs0 := Int32.le_toInt a0; have hr1 := Int32.toInt_lt a1; have hs1 := Int32.le_toInt a1; simp only [Int64.toInt_add, Int64.toInt_sub, Int32.toInt_add, Int32.toInt_sub, Int32.toInt_mul, Int64.le_iff_toInt_le, Int64.lt_iff_toInt_lt, Int32.le_iff_toInt_le, Int32.lt_iff_toInt_lt, ← Int32.toInt_inj, ← Int64.toInt_inj, Int32.toInt_toInt64, kc_m1, kc_0, kc_1, kc_2, kc_3, kc_4, kc_5, kc_6, kc_7, kc_8, kc_10, kc_48, kc_49, kc_57, kc_59, kc_97, kc_100, kc_102, kc_105, kc_111, kc_112, kc_115, kc_116, kc_119, true_and, and_true, not_true_eq_false, not_false_eq_true] at * <;> ((first | omega | ((try simp (disch := omega) only [k_bm64] at *); (try simp (disch := omega) only [k_bm] at *); (try simp (disch := omega) only [k_bm] at *); omega) | (simp only [Int.bmod] at *; omega))))))
theorem lf_j_worth_X7_2 (a0 : Int32) (a1 : Int32) (h0 : ¬ a0 = 0) (h1 : a0 = 1) (h2 : a1 < 97) : ((-1) : Int32) = wP a0 a1 := by
  ((try unfold wP); (try unfold wK); (try unfold wS); (try unfold wCall); (try unfold wFig)) <;> ((repeat' split) <;> first | rfl | contradiction | assumption | (exfalso; (first | rfl | assumption | decide | omega | (have hr0 := Int32.toInt_lt a0; have hs0 := Int32.le_toInt a0; have hr1 := Int32.toInt_lt a1; have hs1 := Int32.le_toInt a1; simp only [Int64.toInt_add, Int64.toInt_sub, Int32.toInt_add, Int32.toInt_sub, Int32.toInt_mul, Int64.le_iff_toInt_le, Int64.lt_iff_toInt_lt, Int32.le_iff_toInt_le, Int32.lt_iff_toInt_lt, ← Int32.toInt_inj, ← Int64.toInt_inj, Int32.toInt_toInt64, kc_m1, kc_0, kc_1, kc_2, kc_3, kc_4, kc_5, kc_6, kc_7, kc_8, kc_10, kc_48, kc_49, kc_57, kc_59, kc_97, kc_100, kc_102, kc_105, kc_111, kc_112, kc_115, kc_116, kc_119, true_and, and_true, not_true_eq_false, not_false_eq_true] at * <;> ((first | omega | ((try simp (disch := omega) only [k_bm64] at *); (try simp (disch := omega) only [k_bm] at *); (try simp (disch := omega) only [k_bm] at *); omega) | (simp only [Int.bmod] at *; omega)))))) | (first | rfl | assumption | decide | omega | (have hr0 := Int32.toInt_lt a0; have hs0 := Int32.le_toInt a0; have hr1 := Int32.toInt_lt a1; have hs1 := Int32.le_toInt a1; simp only [Int64.toInt_add, Int64.toInt_sub, Int32.toInt_add, Int32.toInt_sub, Int32.toInt_mul, Int64.le_iff_toInt_le, Int64.lt_iff_toInt_lt, Int32.le_iff_toInt_le, Int32.lt_iff_toInt_lt, ← Int32.toInt_inj, ← Int64.toInt_inj, Int32.toInt_toInt64, kc_m1, kc_0, kc_1, kc_2, kc_3, kc_4, kc_5, kc_6, kc_7, kc_8, kc_10, kc_48, kc_49, kc_57, kc_59, kc_97, kc_100, kc_102, kc_105, kc_111, kc_112, kc_115, kc_116, kc_119, true_and, and_true, not_true_eq_false, not_false_eq_true] at * <;> ((first | omega | ((try simp (disch := omega) only [k_bm64] at *); (try simp (disch := omega) only [k_bm] at *); (try simp (disch := omega) only [k_bm] at *); omega) | (simp only [Int.bmod] at *; omega))))))
theorem lf_j_worth_X7_3 (a0 : Int32) (a1 : Int32) (h0 : ¬ a0 = 0) (h1 : a0 = 1) (h2 : ¬ a1 < 97) (h3 : 102 < a1) : ((-1) : Int32) = wP a0 a1 := by
  ((try unfold wP); (try unfold wK); (try unfold wS); (try unfold wCall); (try unfold wFig)) <;> ((repeat' split) <;> first | rfl | contradiction | assumption | (exfalso; (first | rfl | assumption | decide | omega | (have hr0 := Int32.toInt_lt a0; have hs0 := Int32.le_toInt a0; have hr1 := Int32.toInt_lt a1; have hs1 := Int32.le_toInt a1; simp only [Int64.toInt_add, Int64.toInt_sub, Int32.toInt_add, Int32.toInt_sub, Int32.toInt_mul, Int64.le_iff_toInt_le, Int64.lt_iff_toInt_lt, Int32.le_iff_toInt_le, Int32.lt_iff_toInt_lt, ← Int32.toInt_inj, ← Int64.toInt_inj, Int32.toInt_toInt64, kc_m1, kc_0, kc_1, kc_2, kc_3, kc_4, kc_5, kc_6, kc_7, kc_8, kc_10, kc_48, kc_49, kc_57, kc_59, kc_97, kc_100, kc_102, kc_105, kc_111, kc_112, kc_115, kc_116, kc_119, true_and, and_true, not_true_eq_false, not_false_eq_true] at * <;> ((first | omega | ((try simp (disch := omega) only [k_bm64] at *); (try simp (disch := omega) only [k_bm] at *); (try simp (disch := omega) only [k_bm] at *); omega) | (simp only [Int.bmod] at *; omega)))))) | (first | rfl | assumption | decide | omega | (have hr0 := Int32.toInt_lt a0; have hs0 := Int32.le_toInt a0; have hr1 := Int32.toInt_lt a1; have hs1 := Int32.le_toInt a1; simp only [Int64.toInt_add, Int64.toInt_sub, Int32.toInt_add, Int32.toInt_sub, Int32.toInt_mul, Int64.le_iff_toInt_le, Int64.lt_iff_toInt_lt, Int32.le_iff_toInt_le, Int32.lt_iff_toInt_lt, ← Int32.toInt_inj, ← Int64.toInt_inj, Int32.toInt_toInt64, kc_m1, kc_0, kc_1, kc_2, kc_3, kc_4, kc_5, kc_6, kc_7, kc_8, kc_10, kc_48, kc_49, kc_57, kc_59, kc_97, kc_100, kc_102, kc_105, kc_111, kc_112, kc_115, kc_116, kc_119, true_and, and_true, not_true_eq_false, not_false_eq_true] at * <;> ((first | omega | ((try simp (disch := omega) only [k_bm64] at *); (try simp (disch := omega) only [k_bm] at *); (try simp (disch := omega) only [k_bm] at *); omega) | (simp only [Int.bmod] at *; omega))))))
theorem lf_j_worth_X7_4 (a0 : Int32) (a1 : Int32) (h0 : ¬ a0 = 0) (h1 : a0 = 1) (h2 : ¬ a1 < 97) (h3 : ¬ 102 < a1) : (a1 - 97 : Int32) = wP a0 a1 := by
  ((try unfold wP); (try unfold wK); (try unfold wS); (try unfold wCall); (try unfold wFig)) <;> ((repeat' split) <;> first | rfl | contradiction | assumption | (exfalso; (first | rfl | assumption | decide | omega | (have hr0 := Int32.toInt_lt a0; have hs0 := Int32.le_toInt a0; have hr1 := Int32.toInt_lt a1; have hs1 := Int32.le_toInt a1; simp only [Int64.toInt_add, Int64.toInt_sub, Int32.toInt_add, Int32.toInt_sub, Int32.toInt_mul, Int64.le_iff_toInt_le, Int64.lt_iff_toInt_lt, Int32.le_iff_toInt_le, Int32.lt_iff_toInt_lt, ← Int32.toInt_inj, ← Int64.toInt_inj, Int32.toInt_toInt64, kc_m1, kc_0, kc_1, kc_2, kc_3, kc_4, kc_5, kc_6, kc_7, kc_8, kc_10, kc_48, kc_49, kc_57, kc_59, kc_97, kc_100, kc_102, kc_105, kc_111, kc_112, kc_115, kc_116, kc_119, true_and, and_true, not_true_eq_false, not_false_eq_true] at * <;> ((first | omega | ((try simp (disch := omega) only [k_bm64] at *); (try simp (disch := omega) only [k_bm] at *); (try simp (disch := omega) only [k_bm] at *); omega) | (simp only [Int.bmod] at *; omega)))))) | (first | rfl | assumption | decide | omega | (have hr0 := Int32.toInt_lt a0; have hs0 := Int32.le_toInt a0; have hr1 := Int32.toInt_lt a1; have hs1 := Int32.le_toInt a1; simp only [Int64.toInt_add, Int64.toInt_sub, Int32.toInt_add, Int32.toInt_sub, Int32.toInt_mul, Int64.le_iff_toInt_le, Int64.lt_iff_toInt_lt, Int32.le_iff_toInt_le, Int32.lt_iff_toInt_lt, ← Int32.toInt_inj, ← Int64.toInt_inj, Int32.toInt_toInt64, kc_m1, kc_0, kc_1, kc_2, kc_3, kc_4, kc_5, kc_6, kc_7, kc_8, kc_10, kc_48, kc_49, kc_57, kc_59, kc_97, kc_100, kc_102, kc_105, kc_111, kc_112, kc_115, kc_116, kc_119, true_and, and_true, not_true_eq_false, not_false_eq_true] at * <;> ((first | omega | ((try simp (disch := omega) only [k_bm64] at *); (try simp (disch := omega) only [k_bm] at *); (try simp (disch := omega) only [k_bm] at *); omega) | (simp only [Int.bmod] at *; omega))))))
theorem lf_j_worth_X7_5 (a0 : Int32) (a1 : Int32) (h0 : ¬ a0 = 0) (h1 : ¬ a0 = 1) (h2 : a0 = 2) (h3 : a1 < 49) : ((-1) : Int32) = wP a0 a1 := by
  ((try unfold wP); (try unfold wK); (try unfold wS); (try unfold wCall); (try unfold wFig)) <;> ((repeat' split) <;> first | rfl | contradiction | assumption | (exfalso; (first | rfl | assumption | decide | omega | (have hr0 := Int32.toInt_lt a0; have hs0 := Int32.le_toInt a0; have hr1 := Int32.toInt_lt a1; have hs1 := Int32.le_toInt a1; simp only [Int64.toInt_add, Int64.toInt_sub, Int32.toInt_add, Int32.toInt_sub, Int32.toInt_mul, Int64.le_iff_toInt_le, Int64.lt_iff_toInt_lt, Int32.le_iff_toInt_le, Int32.lt_iff_toInt_lt, ← Int32.toInt_inj, ← Int64.toInt_inj, Int32.toInt_toInt64, kc_m1, kc_0, kc_1, kc_2, kc_3, kc_4, kc_5, kc_6, kc_7, kc_8, kc_10, kc_48, kc_49, kc_57, kc_59, kc_97, kc_100, kc_102, kc_105, kc_111, kc_112, kc_115, kc_116, kc_119, true_and, and_true, not_true_eq_false, not_false_eq_true] at * <;> ((first | omega | ((try simp (disch := omega) only [k_bm64] at *); (try simp (disch := omega) only [k_bm] at *); (try simp (disch := omega) only [k_bm] at *); omega) | (simp only [Int.bmod] at *; omega)))))) | (first | rfl | assumption | decide | omega | (have hr0 := Int32.toInt_lt a0; have hs0 := Int32.le_toInt a0; have hr1 := Int32.toInt_lt a1; have hs1 := Int32.le_toInt a1; simp only [Int64.toInt_add, Int64.toInt_sub, Int32.toInt_add, Int32.toInt_sub, Int32.toInt_mul, Int64.le_iff_toInt_le, Int64.lt_iff_toInt_lt, Int32.le_iff_toInt_le, Int32.lt_iff_toInt_lt, ← Int32.toInt_inj, ← Int64.toInt_inj, Int32.toInt_toInt64, kc_m1, kc_0, kc_1, kc_2, kc_3, kc_4, kc_5, kc_6, kc_7, kc_8, kc_10, kc_48, kc_49, kc_57, kc_59, kc_97, kc_100, kc_102, kc_105, kc_111, kc_112, kc_115, kc_116, kc_119, true_and, and_true, not_true_eq_false, not_false_eq_true] at * <;> ((first | omega | ((try simp (disch := omega) only [k_bm64] at *); (try simp (disch := omega) only [k_bm] at *); (try simp (disch := omega) only [k_bm] at *); omega) | (simp only [Int.bmod] at *; omega))))))
theorem lf_j_worth_X7_6 (a0 : Int32) (a1 : Int32) (h0 : ¬ a0 = 0) (h1 : ¬ a0 = 1) (h2 : a0 = 2) (h3 : ¬ a1 < 49) (h4 : 57 < a1) : ((-1) : Int32) = wP a0 a1 := by
  ((try unfold wP); (try unfold wK); (try unfold wS); (try unfold wCall); (try unfold wFig)) <;> ((repeat' split) <;> first | rfl | contradiction | assumption | (exfalso; (first | rfl | assumption | decide | omega | (have hr0 := Int32.toInt_lt a0; have hs0 := Int32.le_toInt a0; have hr1 := Int32.toInt_lt a1; have hs1 := Int32.le_toInt a1; simp only [Int64.toInt_add, Int64.toInt_sub, Int32.toInt_add, Int32.toInt_sub, Int32.toInt_mul, Int64.le_iff_toInt_le, Int64.lt_iff_toInt_lt, Int32.le_iff_toInt_le, Int32.lt_iff_toInt_lt, ← Int32.toInt_inj, ← Int64.toInt_inj, Int32.toInt_toInt64, kc_m1, kc_0, kc_1, kc_2, kc_3, kc_4, kc_5, kc_6, kc_7, kc_8, kc_10, kc_48, kc_49, kc_57, kc_59, kc_97, kc_100, kc_102, kc_105, kc_111, kc_112, kc_115, kc_116, kc_119, true_and, and_true, not_true_eq_false, not_false_eq_true] at * <;> ((first | omega | ((try simp (disch := omega) only [k_bm64] at *); (try simp (disch := omega) only [k_bm] at *); (try simp (disch := omega) only [k_bm] at *); omega) | (simp only [Int.bmod] at *; omega)))))) | (first | rfl | assumption | decide | omega | (have hr0 := Int32.toInt_lt a0; have hs0 := Int32.le_toInt a0; have hr1 := Int32.toInt_lt a1; have hs1 := Int32.le_toInt a1; simp only [Int64.toInt_add, Int64.toInt_sub, Int32.toInt_add, Int32.toInt_sub, Int32.toInt_mul, Int64.le_iff_toInt_le, Int64.lt_iff_toInt_lt, Int32.le_iff_toInt_le, Int32.lt_iff_toInt_lt, ← Int32.toInt_inj, ← Int64.toInt_inj, Int32.toInt_toInt64, kc_m1, kc_0, kc_1, kc_2, kc_3, kc_4, kc_5, kc_6, kc_7, kc_8, kc_10, kc_48, kc_49, kc_57, kc_59, kc_97, kc_100, kc_102, kc_105, kc_111, kc_112, kc_115, kc_116, kc_119, true_and, and_true, not_true_eq_false, not_false_eq_true] at * <;> ((first | omega | ((try simp (disch := omega) only [k_bm64] at *); (try simp (disch := omega) only [k_bm] at *); (try simp (disch := omega) only [k_bm] at *); omega) | (simp only [Int.bmod] at *; omega))))))
theorem lf_j_worth_X7_7 (a0 : Int32) (a1 : Int32) (h0 : ¬ a0 = 0) (h1 : ¬ a0 = 1) (h2 : a0 = 2) (h3 : ¬ a1 < 49) (h4 : ¬ 57 < a1) : (a1 - 48 : Int32) = wP a0 a1 := by
  ((try unfold wP); (try unfold wK); (try unfold wS); (try unfold wCall); (try unfold wFig)) <;> ((repeat' split) <;> first | rfl | contradiction | assumption | (exfalso; (first | rfl | assumption | decide | omega | (have hr0 := Int32.toInt_lt a0; have hs0 := Int32.le_toInt a0; have hr1 := Int32.toInt_lt a1; have hs1 := Int32.le_toInt a1; simp only [Int64.toInt_add, Int64.toInt_sub, Int32.toInt_add, Int32.toInt_sub, Int32.toInt_mul, Int64.le_iff_toInt_le, Int64.lt_iff_toInt_lt, Int32.le_iff_toInt_le, Int32.lt_iff_toInt_lt, ← Int32.toInt_inj, ← Int64.toInt_inj, Int32.toInt_toInt64, kc_m1, kc_0, kc_1, kc_2, kc_3, kc_4, kc_5, kc_6, kc_7, kc_8, kc_10, kc_48, kc_49, kc_57, kc_59, kc_97, kc_100, kc_102, kc_105, kc_111, kc_112, kc_115, kc_116, kc_119, true_and, and_true, not_true_eq_false, not_false_eq_true] at * <;> ((first | omega | ((try simp (disch := omega) only [k_bm64] at *); (try simp (disch := omega) only [k_bm] at *); (try simp (disch := omega) only [k_bm] at *); omega) | (simp only [Int.bmod] at *; omega)))))) | (first | rfl | assumption | decide | omega | (have hr0 := Int32.toInt_lt a0; have hs0 := Int32.le_toInt a0; have hr1 := Int32.toInt_lt a1; have hs1 := Int32.le_toInt a1; simp only [Int64.toInt_add, Int64.toInt_sub, Int32.toInt_add, Int32.toInt_sub, Int32.toInt_mul, Int64.le_iff_toInt_le, Int64.lt_iff_toInt_lt, Int32.le_iff_toInt_le, Int32.lt_iff_toInt_lt, ← Int32.toInt_inj, ← Int64.toInt_inj, Int32.toInt_toInt64, kc_m1, kc_0, kc_1, kc_2, kc_3, kc_4, kc_5, kc_6, kc_7, kc_8, kc_10, kc_48, kc_49, kc_57, kc_59, kc_97, kc_100, kc_102, kc_105, kc_111, kc_112, kc_115, kc_116, kc_119, true_and, and_true, not_true_eq_false, not_false_eq_true] at * <;> ((first | omega | ((try simp (disch := omega) only [k_bm64] at *); (try simp (disch := omega) only [k_bm] at *); (try simp (disch := omega) only [k_bm] at *); omega) | (simp only [Int.bmod] at *; omega))))))
theorem lf_j_worth_X7_8 (a0 : Int32) (a1 : Int32) (h0 : ¬ a0 = 0) (h1 : ¬ a0 = 1) (h2 : ¬ a0 = 2) (h3 : a0 = 3) (h4 : a1 < 49) : ((-1) : Int32) = wP a0 a1 := by
  ((try unfold wP); (try unfold wK); (try unfold wS); (try unfold wCall); (try unfold wFig)) <;> ((repeat' split) <;> first | rfl | contradiction | assumption | (exfalso; (first | rfl | assumption | decide | omega | (have hr0 := Int32.toInt_lt a0; have hs0 := Int32.le_toInt a0; have hr1 := Int32.toInt_lt a1; have hs1 := Int32.le_toInt a1; simp only [Int64.toInt_add, Int64.toInt_sub, Int32.toInt_add, Int32.toInt_sub, Int32.toInt_mul, Int64.le_iff_toInt_le, Int64.lt_iff_toInt_lt, Int32.le_iff_toInt_le, Int32.lt_iff_toInt_lt, ← Int32.toInt_inj, ← Int64.toInt_inj, Int32.toInt_toInt64, kc_m1, kc_0, kc_1, kc_2, kc_3, kc_4, kc_5, kc_6, kc_7, kc_8, kc_10, kc_48, kc_49, kc_57, kc_59, kc_97, kc_100, kc_102, kc_105, kc_111, kc_112, kc_115, kc_116, kc_119, true_and, and_true, not_true_eq_false, not_false_eq_true] at * <;> ((first | omega | ((try simp (disch := omega) only [k_bm64] at *); (try simp (disch := omega) only [k_bm] at *); (try simp (disch := omega) only [k_bm] at *); omega) | (simp only [Int.bmod] at *; omega)))))) | (first | rfl | assumption | decide | omega | (have hr0 := Int32.toInt_lt a0; have hs0 := Int32.le_toInt a0; have hr1 := Int32.toInt_lt a1; have hs1 := Int32.le_toInt a1; simp only [Int64.toInt_add, Int64.toInt_sub, Int32.toInt_add, Int32.toInt_sub, Int32.toInt_mul, Int64.le_iff_toInt_le, Int64.lt_iff_toInt_lt, Int32.le_iff_toInt_le, Int32.lt_iff_toInt_lt, ← Int32.toInt_inj, ← Int64.toInt_inj, Int32.toInt_toInt64, kc_m1, kc_0, kc_1, kc_2, kc_3, kc_4, kc_5, kc_6, kc_7, kc_8, kc_10, kc_48, kc_49, kc_57, kc_59, kc_97, kc_100, kc_102, kc_105, kc_111, kc_112, kc_115, kc_116, kc_119, true_and, and_true, not_true_eq_false, not_false_eq_true] at * <;> ((first | omega | ((try simp (disch := omega) only [k_bm64] at *); (try simp (disch := omega) only [k_bm] at *); (try simp (disch := omega) only [k_bm] at *); omega) | (simp only [Int.bmod] at *; omega))))))
theorem lf_j_worth_X7_9 (a0 : Int32) (a1 : Int32) (h0 : ¬ a0 = 0) (h1 : ¬ a0 = 1) (h2 : ¬ a0 = 2) (h3 : a0 = 3) (h4 : ¬ a1 < 49) (h5 : 57 < a1) : ((-1) : Int32) = wP a0 a1 := by
  ((try unfold wP); (try unfold wK); (try unfold wS); (try unfold wCall); (try unfold wFig)) <;> ((repeat' split) <;> first | rfl | contradiction | assumption | (exfalso; (first | rfl | assumption | decide | omega | (have hr0 := Int32.toInt_lt a0; have hs0 := Int32.le_toInt a0; have hr1 := Int32.toInt_lt a1; have hs1 := Int32.le_toInt a1; simp only [Int64.toInt_add, Int64.toInt_sub, Int32.toInt_add, Int32.toInt_sub, Int32.toInt_mul, Int64.le_iff_toInt_le, Int64.lt_iff_toInt_lt, Int32.le_iff_toInt_le, Int32.lt_iff_toInt_lt, ← Int32.toInt_inj, ← Int64.toInt_inj, Int32.toInt_toInt64, kc_m1, kc_0, kc_1, kc_2, kc_3, kc_4, kc_5, kc_6, kc_7, kc_8, kc_10, kc_48, kc_49, kc_57, kc_59, kc_97, kc_100, kc_102, kc_105, kc_111, kc_112, kc_115, kc_116, kc_119, true_and, and_true, not_true_eq_false, not_false_eq_true] at * <;> ((first | omega | ((try simp (disch := omega) only [k_bm64] at *); (try simp (disch := omega) only [k_bm] at *); (try simp (disch := omega) only [k_bm] at *); omega) | (simp only [Int.bmod] at *; omega)))))) | (first | rfl | assumption | decide | omega | (have hr0 := Int32.toInt_lt a0; have hs0 := Int32.le_toInt a0; have hr1 := Int32.toInt_lt a1; have hs1 := Int32.le_toInt a1; simp only [Int64.toInt_add, Int64.toInt_sub, Int32.toInt_add, Int32.toInt_sub, Int32.toInt_mul, Int64.le_iff_toInt_le, Int64.lt_iff_toInt_lt, Int32.le_iff_toInt_le, Int32.lt_iff_toInt_lt, ← Int32.toInt_inj, ← Int64.toInt_inj, Int32.toInt_toInt64, kc_m1, kc_0, kc_1, kc_2, kc_3, kc_4, kc_5, kc_6, kc_7, kc_8, kc_10, kc_48, kc_49, kc_57, kc_59, kc_97, kc_100, kc_102, kc_105, kc_111, kc_112, kc_115, kc_116, kc_119, true_and, and_true, not_true_eq_false, not_false_eq_true] at * <;> ((first | omega | ((try simp (disch := omega) only [k_bm64] at *); (try simp (disch := omega) only [k_bm] at *); (try simp (disch := omega) only [k_bm] at *); omega) | (simp only [Int.bmod] at *; omega))))))
theorem lf_j_worth_X7_10 (a0 : Int32) (a1 : Int32) (h0 : ¬ a0 = 0) (h1 : ¬ a0 = 1) (h2 : ¬ a0 = 2) (h3 : a0 = 3) (h4 : ¬ a1 < 49) (h5 : ¬ 57 < a1) : (a1 - 48 : Int32) = wP a0 a1 := by
  ((try unfold wP); (try unfold wK); (try unfold wS); (try unfold wCall); (try unfold wFig)) <;> ((repeat' split) <;> first | rfl | contradiction | assumption | (exfalso; (first | rfl | assumption | decide | omega | (have hr0 := Int32.toInt_lt a0; have hs0 := Int32.le_toInt a0; have hr1 := Int32.toInt_lt a1; have hs1 := Int32.le_toInt a1; simp only [Int64.toInt_add, Int64.toInt_sub, Int32.toInt_add, Int32.toInt_sub, Int32.toInt_mul, Int64.le_iff_toInt_le, Int64.lt_iff_toInt_lt, Int32.le_iff_toInt_le, Int32.lt_iff_toInt_lt, ← Int32.toInt_inj, ← Int64.toInt_inj, Int32.toInt_toInt64, kc_m1, kc_0, kc_1, kc_2, kc_3, kc_4, kc_5, kc_6, kc_7, kc_8, kc_10, kc_48, kc_49, kc_57, kc_59, kc_97, kc_100, kc_102, kc_105, kc_111, kc_112, kc_115, kc_116, kc_119, true_and, and_true, not_true_eq_false, not_false_eq_true] at * <;> ((first | omega | ((try simp (disch := omega) only [k_bm64] at *); (try simp (disch := omega) only [k_bm] at *); (try simp (disch := omega) only [k_bm] at *); omega) | (simp only [Int.bmod] at *; omega)))))) | (first | rfl | assumption | decide | omega | (have hr0 := Int32.toInt_lt a0; have hs0 := Int32.le_toInt a0; have hr1 := Int32.toInt_lt a1; have hs1 := Int32.le_toInt a1; simp only [Int64.toInt_add, Int64.toInt_sub, Int32.toInt_add, Int32.toInt_sub, Int32.toInt_mul, Int64.le_iff_toInt_le, Int64.lt_iff_toInt_lt, Int32.le_iff_toInt_le, Int32.lt_iff_toInt_lt, ← Int32.toInt_inj, ← Int64.toInt_inj, Int32.toInt_toInt64, kc_m1, kc_0, kc_1, kc_2, kc_3, kc_4, kc_5, kc_6, kc_7, kc_8, kc_10, kc_48, kc_49, kc_57, kc_59, kc_97, kc_100, kc_102, kc_105, kc_111, kc_112, kc_115, kc_116, kc_119, true_and, and_true, not_true_eq_false, not_false_eq_true] at * <;> ((first | omega | ((try simp (disch := omega) only [k_bm64] at *); (try simp (disch := omega) only [k_bm] at *); (try simp (disch := omega) only [k_bm] at *); omega) | (simp only [Int.bmod] at *; omega))))))
theorem lf_j_worth_X7_11 (a0 : Int32) (a1 : Int32) (h0 : ¬ a0 = 0) (h1 : ¬ a0 = 1) (h2 : ¬ a0 = 2) (h3 : ¬ a0 = 3) (h4 : a0 = 4) (h5 : ¬ a1 = 59) : ((-1) : Int32) = wP a0 a1 := by
  ((try unfold wP); (try unfold wK); (try unfold wS); (try unfold wCall); (try unfold wFig)) <;> ((repeat' split) <;> first | rfl | contradiction | assumption | (exfalso; (first | rfl | assumption | decide | omega | (have hr0 := Int32.toInt_lt a0; have hs0 := Int32.le_toInt a0; have hr1 := Int32.toInt_lt a1; have hs1 := Int32.le_toInt a1; simp only [Int64.toInt_add, Int64.toInt_sub, Int32.toInt_add, Int32.toInt_sub, Int32.toInt_mul, Int64.le_iff_toInt_le, Int64.lt_iff_toInt_lt, Int32.le_iff_toInt_le, Int32.lt_iff_toInt_lt, ← Int32.toInt_inj, ← Int64.toInt_inj, Int32.toInt_toInt64, kc_m1, kc_0, kc_1, kc_2, kc_3, kc_4, kc_5, kc_6, kc_7, kc_8, kc_10, kc_48, kc_49, kc_57, kc_59, kc_97, kc_100, kc_102, kc_105, kc_111, kc_112, kc_115, kc_116, kc_119, true_and, and_true, not_true_eq_false, not_false_eq_true] at * <;> ((first | omega | ((try simp (disch := omega) only [k_bm64] at *); (try simp (disch := omega) only [k_bm] at *); (try simp (disch := omega) only [k_bm] at *); omega) | (simp only [Int.bmod] at *; omega)))))) | (first | rfl | assumption | decide | omega | (have hr0 := Int32.toInt_lt a0; have hs0 := Int32.le_toInt a0; have hr1 := Int32.toInt_lt a1; have hs1 := Int32.le_toInt a1; simp only [Int64.toInt_add, Int64.toInt_sub, Int32.toInt_add, Int32.toInt_sub, Int32.toInt_mul, Int64.le_iff_toInt_le, Int64.lt_iff_toInt_lt, Int32.le_iff_toInt_le, Int32.lt_iff_toInt_lt, ← Int32.toInt_inj, ← Int64.toInt_inj, Int32.toInt_toInt64, kc_m1, kc_0, kc_1, kc_2, kc_3, kc_4, kc_5, kc_6, kc_7, kc_8, kc_10, kc_48, kc_49, kc_57, kc_59, kc_97, kc_100, kc_102, kc_105, kc_111, kc_112, kc_115, kc_116, kc_119, true_and, and_true, not_true_eq_false, not_false_eq_true] at * <;> ((first | omega | ((try simp (disch := omega) only [k_bm64] at *); (try simp (disch := omega) only [k_bm] at *); (try simp (disch := omega) only [k_bm] at *); omega) | (simp only [Int.bmod] at *; omega))))))
theorem lf_j_worth_X7_12 (a0 : Int32) (a1 : Int32) (h0 : ¬ a0 = 0) (h1 : ¬ a0 = 1) (h2 : ¬ a0 = 2) (h3 : ¬ a0 = 3) (h4 : a0 = 4) (h5 : a1 = 59) : (0 : Int32) = wP a0 a1 := by
  ((try unfold wP); (try unfold wK); (try unfold wS); (try unfold wCall); (try unfold wFig)) <;> ((repeat' split) <;> first | rfl | contradiction | assumption | (exfalso; (first | rfl | assumption | decide | omega | (have hr0 := Int32.toInt_lt a0; have hs0 := Int32.le_toInt a0; have hr1 := Int32.toInt_lt a1; have hs1 := Int32.le_toInt a1; simp only [Int64.toInt_add, Int64.toInt_sub, Int32.toInt_add, Int32.toInt_sub, Int32.toInt_mul, Int64.le_iff_toInt_le, Int64.lt_iff_toInt_lt, Int32.le_iff_toInt_le, Int32.lt_iff_toInt_lt, ← Int32.toInt_inj, ← Int64.toInt_inj, Int32.toInt_toInt64, kc_m1, kc_0, kc_1, kc_2, kc_3, kc_4, kc_5, kc_6, kc_7, kc_8, kc_10, kc_48, kc_49, kc_57, kc_59, kc_97, kc_100, kc_102, kc_105, kc_111, kc_112, kc_115, kc_116, kc_119, true_and, and_true, not_true_eq_false, not_false_eq_true] at * <;> ((first | omega | ((try simp (disch := omega) only [k_bm64] at *); (try simp (disch := omega) only [k_bm] at *); (try simp (disch := omega) only [k_bm] at *); omega) | (simp only [Int.bmod] at *; omega)))))) | (first | rfl | assumption | decide | omega | (have hr0 := Int32.toInt_lt a0; have hs0 := Int32.le_toInt a0; have hr1 := Int32.toInt_lt a1; have hs1 := Int32.le_toInt a1; simp only [Int64.toInt_add, Int64.toInt_sub, Int32.toInt_add, Int32.toInt_sub, Int32.toInt_mul, Int64.le_iff_toInt_le, Int64.lt_iff_toInt_lt, Int32.le_iff_toInt_le, Int32.lt_iff_toInt_lt, ← Int32.toInt_inj, ← Int64.toInt_inj, Int32.toInt_toInt64, kc_m1, kc_0, kc_1, kc_2, kc_3, kc_4, kc_5, kc_6, kc_7, kc_8, kc_10, kc_48, kc_49, kc_57, kc_59, kc_97, kc_100, kc_102, kc_105, kc_111, kc_112, kc_115, kc_116, kc_119, true_and, and_true, not_true_eq_false, not_false_eq_true] at * <;> ((first | omega | ((try simp (disch := omega) only [k_bm64] at *); (try simp (disch := omega) only [k_bm] at *); (try simp (disch := omega) only [k_bm] at *); omega) | (simp only [Int.bmod] at *; omega))))))
theorem lf_j_worth_X7_13 (a0 : Int32) (a1 : Int32) (h0 : ¬ a0 = 0) (h1 : ¬ a0 = 1) (h2 : ¬ a0 = 2) (h3 : ¬ a0 = 3) (h4 : ¬ a0 = 4) (h5 : a1 < 49) : ((-1) : Int32) = wP a0 a1 := by
  ((try unfold wP); (try unfold wK); (try unfold wS); (try unfold wCall); (try unfold wFig)) <;> ((repeat' split) <;> first | rfl | contradiction | assumption | (exfalso; (first | rfl | assumption | decide | omega | (have hr0 := Int32.toInt_lt a0; have hs0 := Int32.le_toInt a0; have hr1 := Int32.toInt_lt a1; have hs1 := Int32.le_toInt a1; simp only [Int64.toInt_add, Int64.toInt_sub, Int32.toInt_add, Int32.toInt_sub, Int32.toInt_mul, Int64.le_iff_toInt_le, Int64.lt_iff_toInt_lt, Int32.le_iff_toInt_le, Int32.lt_iff_toInt_lt, ← Int32.toInt_inj, ← Int64.toInt_inj, Int32.toInt_toInt64, kc_m1, kc_0, kc_1, kc_2, kc_3, kc_4, kc_5, kc_6, kc_7, kc_8, kc_10, kc_48, kc_49, kc_57, kc_59, kc_97, kc_100, kc_102, kc_105, kc_111, kc_112, kc_115, kc_116, kc_119, true_and, and_true, not_true_eq_false, not_false_eq_true] at * <;> ((first | omega | ((try simp (disch := omega) only [k_bm64] at *); (try simp (disch := omega) only [k_bm] at *); (try simp (disch := omega) only [k_bm] at *); omega) | (simp only [Int.bmod] at *; omega)))))) | (first | rfl | assumption | decide | omega | (have hr0 := Int32.toInt_lt a0; have hs0 := Int32.le_toInt a0; have hr1 := Int32.toInt_lt a1; have hs1 := Int32.le_toInt a1; simp only [Int64.toInt_add, Int64.toInt_sub, Int32.toInt_add, Int32.toInt_sub, Int32.toInt_mul, Int64.le_iff_toInt_le, Int64.lt_iff_toInt_lt, Int32.le_iff_toInt_le, Int32.lt_iff_toInt_lt, ← Int32.toInt_inj, ← Int64.toInt_inj, Int32.toInt_toInt64, kc_m1, kc_0, kc_1, kc_2, kc_3, kc_4, kc_5, kc_6, kc_7, kc_8, kc_10, kc_48, kc_49, kc_57, kc_59, kc_97, kc_100, kc_102, kc_105, kc_111, kc_112, kc_115, kc_116, kc_119, true_and, and_true, not_true_eq_false, not_false_eq_true] at * <;> ((first | omega | ((try simp (disch := omega) only [k_bm64] at *); (try simp (disch := omega) only [k_bm] at *); (try simp (disch := omega) only [k_bm] at *); omega) | (simp only [Int.bmod] at *; omega))))))
theorem lf_j_worth_X7_14 (a0 : Int32) (a1 : Int32) (h0 : ¬ a0 = 0) (h1 : ¬ a0 = 1) (h2 : ¬ a0 = 2) (h3 : ¬ a0 = 3) (h4 : ¬ a0 = 4) (h5 : ¬ a1 < 49) (h6 : 57 < a1) : ((-1) : Int32) = wP a0 a1 := by
  ((try unfold wP); (try unfold wK); (try unfold wS); (try unfold wCall); (try unfold wFig)) <;> ((repeat' split) <;> first | rfl | contradiction | assumption | (exfalso; (first | rfl | assumption | decide | omega | (have hr0 := Int32.toInt_lt a0; have hs0 := Int32.le_toInt a0; have hr1 := Int32.toInt_lt a1; have hs1 := Int32.le_toInt a1; simp only [Int64.toInt_add, Int64.toInt_sub, Int32.toInt_add, Int32.toInt_sub, Int32.toInt_mul, Int64.le_iff_toInt_le, Int64.lt_iff_toInt_lt, Int32.le_iff_toInt_le, Int32.lt_iff_toInt_lt, ← Int32.toInt_inj, ← Int64.toInt_inj, Int32.toInt_toInt64, kc_m1, kc_0, kc_1, kc_2, kc_3, kc_4, kc_5, kc_6, kc_7, kc_8, kc_10, kc_48, kc_49, kc_57, kc_59, kc_97, kc_100, kc_102, kc_105, kc_111, kc_112, kc_115, kc_116, kc_119, true_and, and_true, not_true_eq_false, not_false_eq_true] at * <;> ((first | omega | ((try simp (disch := omega) only [k_bm64] at *); (try simp (disch := omega) only [k_bm] at *); (try simp (disch := omega) only [k_bm] at *); omega) | (simp only [Int.bmod] at *; omega)))))) | (first | rfl | assumption | decide | omega | (have hr0 := Int32.toInt_lt a0; have hs0 := Int32.le_toInt a0; have hr1 := Int32.toInt_lt a1; have hs1 := Int32.le_toInt a1; simp only [Int64.toInt_add, Int64.toInt_sub, Int32.toInt_add, Int32.toInt_sub, Int32.toInt_mul, Int64.le_iff_toInt_le, Int64.lt_iff_toInt_lt, Int32.le_iff_toInt_le, Int32.lt_iff_toInt_lt, ← Int32.toInt_inj, ← Int64.toInt_inj, Int32.toInt_toInt64, kc_m1, kc_0, kc_1, kc_2, kc_3, kc_4, kc_5, kc_6, kc_7, kc_8, kc_10, kc_48, kc_49, kc_57, kc_59, kc_97, kc_100, kc_102, kc_105, kc_111, kc_112, kc_115, kc_116, kc_119, true_and, and_true, not_true_eq_false, not_false_eq_true] at * <;> ((first | omega | ((try simp (disch := omega) only [k_bm64] at *); (try simp (disch := omega) only [k_bm] at *); (try simp (disch := omega) only [k_bm] at *); omega) | (simp only [Int.bmod] at *; omega))))))
theorem lf_j_worth_X7_15 (a0 : Int32) (a1 : Int32) (h0 : ¬ a0 = 0) (h1 : ¬ a0 = 1) (h2 : ¬ a0 = 2) (h3 : ¬ a0 = 3) (h4 : ¬ a0 = 4) (h5 : ¬ a1 < 49) (h6 : ¬ 57 < a1) : (a1 - 48 : Int32) = wP a0 a1 := by
  ((try unfold wP); (try unfold wK); (try unfold wS); (try unfold wCall); (try unfold wFig)) <;> ((repeat' split) <;> first | rfl | contradiction | assumption | (exfalso; (first | rfl | assumption | decide | omega | (have hr0 := Int32.toInt_lt a0; have hs0 := Int32.le_toInt a0; have hr1 := Int32.toInt_lt a1; have hs1 := Int32.le_toInt a1; simp only [Int64.toInt_add, Int64.toInt_sub, Int32.toInt_add, Int32.toInt_sub, Int32.toInt_mul, Int64.le_iff_toInt_le, Int64.lt_iff_toInt_lt, Int32.le_iff_toInt_le, Int32.lt_iff_toInt_lt, ← Int32.toInt_inj, ← Int64.toInt_inj, Int32.toInt_toInt64, kc_m1, kc_0, kc_1, kc_2, kc_3, kc_4, kc_5, kc_6, kc_7, kc_8, kc_10, kc_48, kc_49, kc_57, kc_59, kc_97, kc_100, kc_102, kc_105, kc_111, kc_112, kc_115, kc_116, kc_119, true_and, and_true, not_true_eq_false, not_false_eq_true] at * <;> ((first | omega | ((try simp (disch := omega) only [k_bm64] at *); (try simp (disch := omega) only [k_bm] at *); (try simp (disch := omega) only [k_bm] at *); omega) | (simp only [Int.bmod] at *; omega)))))) | (first | rfl | assumption | decide | omega | (have hr0 := Int32.toInt_lt a0; have hs0 := Int32.le_toInt a0; have hr1 := Int32.toInt_lt a1; have hs1 := Int32.le_toInt a1; simp only [Int64.toInt_add, Int64.toInt_sub, Int32.toInt_add, Int32.toInt_sub, Int32.toInt_mul, Int64.le_iff_toInt_le, Int64.lt_iff_toInt_lt, Int32.le_iff_toInt_le, Int32.lt_iff_toInt_lt, ← Int32.toInt_inj, ← Int64.toInt_inj, Int32.toInt_toInt64, kc_m1, kc_0, kc_1, kc_2, kc_3, kc_4, kc_5, kc_6, kc_7, kc_8, kc_10, kc_48, kc_49, kc_57, kc_59, kc_97, kc_100, kc_102, kc_105, kc_111, kc_112, kc_115, kc_116, kc_119, true_and, and_true, not_true_eq_false, not_false_eq_true] at * <;> ((first | omega | ((try simp (disch := omega) only [k_bm64] at *); (try simp (disch := omega) only [k_bm] at *); (try simp (disch := omega) only [k_bm] at *); omega) | (simp only [Int.bmod] at *; omega))))))
set_option maxHeartbeats 4000000 in
set_option maxRecDepth 100000 in
theorem j_worth_X7 (l : Launch) (dC : Nat → ClassId) (dI : Nat → Nat → Nat) (cI cJ cQ : ClassId) (sz : Nat) (ah : Nat) (pl : Int32) (b1 : Int32) (av : Nat) (ln : Int32) (fa : Int32) (nu : Int32) (hh0 : 0 ≤ pl) : Met l yX7_worth (kW yX7_worth cX7_worth 3 (some .int)) { frames := 1, cells := 0, slots := 0, locals := 20 } (kPre dC dI cI cJ cQ sz [.ref ah, .int pl, .int b1] [(kX7 ah av ln fa nu)]) (va_Qi (fun (r : Int32) (u : Unit) => (r = wP (pl - pl / 5 * 5) b1)) (fun (u : Unit) t₀ => kB dC dI cI cJ cQ (va_A [(kX7 ah av ln fa nu)] sz) [(kX7 ah av ln fa nu)] t₀) (va_A [(kX7 ah av ln fa nu)] sz)) 0 0 (va_A [(kX7 ah av ln fa nu)] sz) := by
  refine Met.ofW (cc := cX7_worth) (maxL := 3) (ret := (some .int)) (by decide) rfl ?_
  intro p₀ e₀ s₀ m₀ args below meth c₀ s₁ B hml hv₀
  obtain ⟨rfl, hsz, hP, hK, hD0, hN⟩ := hv₀
  have hx₀ := B.exec
  have hb := B.bytes
  have hr := B.returns
  have hts := atoms_spec (ws := (kW yX7_worth cX7_worth 3 (some .int))) B.pre
  have hts := fun w h => hts w (List.mem_cons_of_mem _ h)
  have hown : s₀.vm.findClass RX7 = some m₀.cls := findClass_of_methodNamed B.named
  have hlocks := B.notSynchronized
  subst hsz
  have hD := hD0.self (sz := s₀.heap.size)
  generalize hAe : va_A [(kX7 ah av ln fa nu)] s₀.heap.size = A at hD ⊢
  have hA : ∀ q : Nat, s₀.heap.size ≤ q → A q := fun q h => by rw [← hAe]; exact Or.inr h
  have hS : va_S A s₀.heap s₀.heap [] := va_S.rf
  have hP : va_P (dC, dI) vwCl [(kX7 ah av ln fa nu)] s₀.heap := hP
  have hl := lv_entry ([.ref ah, .int pl, .int b1]) (n := 3) (Nat.le_of_ble_eq_true rfl)
  rw [lg_entry_eq]
  generalize (lg_sl ([.ref ah, .int pl, .int b1]) ++ List.replicate (3 - (lg_sl ([.ref ah, .int pl, .int b1])).length) Slot.unset).toArray = ls at hl ⊢
  have hl : lv_has ls 3 [(0, .ref ah), (1, .int pl), (2, .int b1)] := hl
  obtain ⟨H, hH⟩ : ∃ z : Heap, z = s₀.heap := ⟨_, rfl⟩
  rw [← hH] at hP
  have hS : va_S A s₀.heap H [] := by rw [hH]; exact hS
  refine k_heap hH ?_
  have hD : va_D A [(kX7 ah av ln fa nu)] := hD
  obtain ⟨locs, hlo⟩ : ∃ z : List Loc, z = [] := ⟨_, rfl⟩
  rw [← hlo] at hS ⊢
  clear hlo hH hAe hD0
  refine lv_iload_n hx₀ hb dX7_worth_0 rfl (lv_at hl 1 rfl) ?_
  refine lv_iconst (v := 5) hx₀ hb dX7_worth_1 (by decide +kernel) ?_
  refine lv_irem hx₀ hb dX7_worth_2 (by decide +kernel) ?_
  by_cases c_1 : (pl - pl / 5 * 5) = 0
  · refine k_topi (v := 0) c_1 ?_
    refine lv_tableIn (off := 33) (tgt := 36) hx₀ hb dX7_worth_3 (by decide +kernel) (by decide +kernel) (by decide +kernel) (by decide) ?_
    refine lv_iload_n hx₀ hb dX7_worth_36 rfl (lv_at hl 2 rfl) ?_
    obtain ⟨hPc, hDc, hFc, hC⟩ := k_cw (wc := []) hP hD hS hA [] (by decide +kernel) rfl
    refine va_calli (va_runS (As := [.int b1]) (rest := []) ⟨hx₀, hb, hml, hown, hts⟩ (j_kind l dC dI cI cJ cQ H.size b1) (va_cwS 1 hts (kGS wd_168 wd_166 wd_167 wd_18) rfl rfl rfl (by decide +kernel) ⟨Nat.le_of_ble_eq_true rfl, Nat.le_of_ble_eq_true rfl⟩) (k_preS hK hPc hDc hN) rfl rfl hl.1 rfl (lv_room (Nat.le_of_ble_eq_true rfl)) dX7_worth_37 ⟨by decide +kernel, by decide +kernel⟩) hS (fun q _ h => hFc q h) hFc (fun r_2 u₀ t₀ H1 locs ht hvm hw hB hz1 hk1 hS => ?_)
    obtain ⟨hP1, hK1, hD1⟩ := hB
    rw [ht] at hP1
    have hJ := k_jn (wr := [(kX7 ah av ln fa nu)]) (wt := [(kX7 ah av ln fa nu)]) hP hD hC [0] rfl (by decide +kernel) (by decide +kernel) hk1 hFc hP1 hD1 rfl
    clear hP hD hPc hDc hFc hC hP1 hD1 hK1 hz1 hk1 hvm ht
    obtain ⟨hP, hD⟩ := hJ
    generalize H1 = H at hP hS ⊢
    try dsimp only at hw
    refine k_topi (v := wK b1) hw ?_
    obtain ⟨hP9, hD9⟩ := k_c2 (wc := [(kX7 ah av ln fa nu)]) hP hD [0] (by decide +kernel) rfl
    exact W.iret (v := wK b1) hx₀ hb hr (fun t₀ ht hW => ⟨⟨wK b1, (), rfl, (lf_j_worth_X7_1 (pl - pl / 5 * 5) b1 c_1), by rw [ht]; exact hP9, va_K.moved hW.alike hK, hD9⟩, hS.F ht⟩) hS.2.2 dX7_worth_40
  by_cases c_3 : (pl - pl / 5 * 5) = 1
  · refine k_topi (v := 1) c_3 ?_
    refine lv_tableIn (off := 38) (tgt := 41) hx₀ hb dX7_worth_3 (by decide +kernel) (by decide +kernel) (by decide +kernel) (by decide) ?_
    refine lv_iload_n hx₀ hb dX7_worth_41 rfl (lv_at hl 2 rfl) ?_
    refine lv_bipush (v := 97) hx₀ hb dX7_worth_42 (by decide +kernel) ?_
    refine lv_icmp_lt (tgt := 60) hx₀ hb dX7_worth_44 (by decide) (fun c_4 => ?_) (fun c_4 => ?_)
    · refine lv_iconst (v := (-1)) hx₀ hb dX7_worth_60 (by decide +kernel) ?_
      obtain ⟨hP9, hD9⟩ := k_c2 (wc := [(kX7 ah av ln fa nu)]) hP hD [0] (by decide +kernel) rfl
      exact W.iret (v := (-1)) hx₀ hb hr (fun t₀ ht hW => ⟨⟨(-1), (), rfl, (lf_j_worth_X7_2 (pl - pl / 5 * 5) b1 c_1 c_3 c_4), by rw [ht]; exact hP9, va_K.moved hW.alike hK, hD9⟩, hS.F ht⟩) hS.2.2 dX7_worth_61
    · refine lv_iload_n hx₀ hb dX7_worth_47 rfl (lv_at hl 2 rfl) ?_
      refine lv_bipush (v := 102) hx₀ hb dX7_worth_48 (by decide +kernel) ?_
      refine lv_icmp_gt (tgt := 60) hx₀ hb dX7_worth_50 (by decide) (fun c_5 => ?_) (fun c_5 => ?_)
      · refine lv_iconst (v := (-1)) hx₀ hb dX7_worth_60 (by decide +kernel) ?_
        obtain ⟨hP9, hD9⟩ := k_c2 (wc := [(kX7 ah av ln fa nu)]) hP hD [0] (by decide +kernel) rfl
        exact W.iret (v := (-1)) hx₀ hb hr (fun t₀ ht hW => ⟨⟨(-1), (), rfl, (lf_j_worth_X7_3 (pl - pl / 5 * 5) b1 c_1 c_3 c_4 c_5), by rw [ht]; exact hP9, va_K.moved hW.alike hK, hD9⟩, hS.F ht⟩) hS.2.2 dX7_worth_61
      · refine lv_iload_n hx₀ hb dX7_worth_53 rfl (lv_at hl 2 rfl) ?_
        refine lv_bipush (v := 97) hx₀ hb dX7_worth_54 (by decide +kernel) ?_
        refine lv_isub hx₀ hb dX7_worth_56 ?_
        refine lv_goto (tgt := 61) hx₀ hb dX7_worth_57 (by decide) ?_
        obtain ⟨hP9, hD9⟩ := k_c2 (wc := [(kX7 ah av ln fa nu)]) hP hD [0] (by decide +kernel) rfl
        exact W.iret (v := b1 - 97) hx₀ hb hr (fun t₀ ht hW => ⟨⟨b1 - 97, (), rfl, (lf_j_worth_X7_4 (pl - pl / 5 * 5) b1 c_1 c_3 c_4 c_5), by rw [ht]; exact hP9, va_K.moved hW.alike hK, hD9⟩, hS.F ht⟩) hS.2.2 dX7_worth_61
  by_cases c_6 : (pl - pl / 5 * 5) = 2
  · refine k_topi (v := 2) c_6 ?_
    refine lv_tableIn (off := 71) (tgt := 74) hx₀ hb dX7_worth_3 (by decide +kernel) (by decide +kernel) (by decide +kernel) (by decide) ?_
    refine lv_iload_n hx₀ hb dX7_worth_74 rfl (lv_at hl 2 rfl) ?_
    refine lv_bipush (v := 49) hx₀ hb dX7_worth_75 (by decide +kernel) ?_
    refine lv_icmp_lt (tgt := 93) hx₀ hb dX7_worth_77 (by decide) (fun c_7 => ?_) (fun c_7 => ?_)
    · refine lv_iconst (v := (-1)) hx₀ hb dX7_worth_93 (by decide +kernel) ?_
      obtain ⟨hP9, hD9⟩ := k_c2 (wc := [(kX7 ah av ln fa nu)]) hP hD [0] (by decide +kernel) rfl
      exact W.iret (v := (-1)) hx₀ hb hr (fun t₀ ht hW => ⟨⟨(-1), (), rfl, (lf_j_worth_X7_5 (pl - pl / 5 * 5) b1 c_1 c_3 c_6 c_7), by rw [ht]; exact hP9, va_K.moved hW.alike hK, hD9⟩, hS.F ht⟩) hS.2.2 dX7_worth_94
    · refine lv_iload_n hx₀ hb dX7_worth_80 rfl (lv_at hl 2 rfl) ?_
      refine lv_bipush (v := 57) hx₀ hb dX7_worth_81 (by decide +kernel) ?_
      refine lv_icmp_gt (tgt := 93) hx₀ hb dX7_worth_83 (by decide) (fun c_8 => ?_) (fun c_8 => ?_)
      · refine lv_iconst (v := (-1)) hx₀ hb dX7_worth_93 (by decide +kernel) ?_
        obtain ⟨hP9, hD9⟩ := k_c2 (wc := [(kX7 ah av ln fa nu)]) hP hD [0] (by decide +kernel) rfl
        exact W.iret (v := (-1)) hx₀ hb hr (fun t₀ ht hW => ⟨⟨(-1), (), rfl, (lf_j_worth_X7_6 (pl - pl / 5 * 5) b1 c_1 c_3 c_6 c_7 c_8), by rw [ht]; exact hP9, va_K.moved hW.alike hK, hD9⟩, hS.F ht⟩) hS.2.2 dX7_worth_94
      · refine lv_iload_n hx₀ hb dX7_worth_86 rfl (lv_at hl 2 rfl) ?_
        refine lv_bipush (v := 48) hx₀ hb dX7_worth_87 (by decide +kernel) ?_
        refine lv_isub hx₀ hb dX7_worth_89 ?_
        refine lv_goto (tgt := 94) hx₀ hb dX7_worth_90 (by decide) ?_
        obtain ⟨hP9, hD9⟩ := k_c2 (wc := [(kX7 ah av ln fa nu)]) hP hD [0] (by decide +kernel) rfl
        exact W.iret (v := b1 - 48) hx₀ hb hr (fun t₀ ht hW => ⟨⟨b1 - 48, (), rfl, (lf_j_worth_X7_7 (pl - pl / 5 * 5) b1 c_1 c_3 c_6 c_7 c_8), by rw [ht]; exact hP9, va_K.moved hW.alike hK, hD9⟩, hS.F ht⟩) hS.2.2 dX7_worth_94
  by_cases c_9 : (pl - pl / 5 * 5) = 3
  · refine k_topi (v := 3) c_9 ?_
    refine lv_tableIn (off := 71) (tgt := 74) hx₀ hb dX7_worth_3 (by decide +kernel) (by decide +kernel) (by decide +kernel) (by decide) ?_
    refine lv_iload_n hx₀ hb dX7_worth_74 rfl (lv_at hl 2 rfl) ?_
    refine lv_bipush (v := 49) hx₀ hb dX7_worth_75 (by decide +kernel) ?_
    refine lv_icmp_lt (tgt := 93) hx₀ hb dX7_worth_77 (by decide) (fun c_10 => ?_) (fun c_10 => ?_)
    · refine lv_iconst (v := (-1)) hx₀ hb dX7_worth_93 (by decide +kernel) ?_
      obtain ⟨hP9, hD9⟩ := k_c2 (wc := [(kX7 ah av ln fa nu)]) hP hD [0] (by decide +kernel) rfl
      exact W.iret (v := (-1)) hx₀ hb hr (fun t₀ ht hW => ⟨⟨(-1), (), rfl, (lf_j_worth_X7_8 (pl - pl / 5 * 5) b1 c_1 c_3 c_6 c_9 c_10), by rw [ht]; exact hP9, va_K.moved hW.alike hK, hD9⟩, hS.F ht⟩) hS.2.2 dX7_worth_94
    · refine lv_iload_n hx₀ hb dX7_worth_80 rfl (lv_at hl 2 rfl) ?_
      refine lv_bipush (v := 57) hx₀ hb dX7_worth_81 (by decide +kernel) ?_
      refine lv_icmp_gt (tgt := 93) hx₀ hb dX7_worth_83 (by decide) (fun c_11 => ?_) (fun c_11 => ?_)
      · refine lv_iconst (v := (-1)) hx₀ hb dX7_worth_93 (by decide +kernel) ?_
        obtain ⟨hP9, hD9⟩ := k_c2 (wc := [(kX7 ah av ln fa nu)]) hP hD [0] (by decide +kernel) rfl
        exact W.iret (v := (-1)) hx₀ hb hr (fun t₀ ht hW => ⟨⟨(-1), (), rfl, (lf_j_worth_X7_9 (pl - pl / 5 * 5) b1 c_1 c_3 c_6 c_9 c_10 c_11), by rw [ht]; exact hP9, va_K.moved hW.alike hK, hD9⟩, hS.F ht⟩) hS.2.2 dX7_worth_94
      · refine lv_iload_n hx₀ hb dX7_worth_86 rfl (lv_at hl 2 rfl) ?_
        refine lv_bipush (v := 48) hx₀ hb dX7_worth_87 (by decide +kernel) ?_
        refine lv_isub hx₀ hb dX7_worth_89 ?_
        refine lv_goto (tgt := 94) hx₀ hb dX7_worth_90 (by decide) ?_
        obtain ⟨hP9, hD9⟩ := k_c2 (wc := [(kX7 ah av ln fa nu)]) hP hD [0] (by decide +kernel) rfl
        exact W.iret (v := b1 - 48) hx₀ hb hr (fun t₀ ht hW => ⟨⟨b1 - 48, (), rfl, (lf_j_worth_X7_10 (pl - pl / 5 * 5) b1 c_1 c_3 c_6 c_9 c_10 c_11), by rw [ht]; exact hP9, va_K.moved hW.alike hK, hD9⟩, hS.F ht⟩) hS.2.2 dX7_worth_94
  by_cases c_12 : (pl - pl / 5 * 5) = 4
  · refine k_topi (v := 4) c_12 ?_
    refine lv_tableIn (off := 59) (tgt := 62) hx₀ hb dX7_worth_3 (by decide +kernel) (by decide +kernel) (by decide +kernel) (by decide) ?_
    refine lv_iload_n hx₀ hb dX7_worth_62 rfl (lv_at hl 2 rfl) ?_
    refine lv_bipush (v := 59) hx₀ hb dX7_worth_63 (by decide +kernel) ?_
    refine lv_icmp_ne (tgt := 72) hx₀ hb dX7_worth_65 (by decide) (fun c_13 => ?_) (fun c_13 => ?_)
    · refine lv_iconst (v := (-1)) hx₀ hb dX7_worth_72 (by decide +kernel) ?_
      obtain ⟨hP9, hD9⟩ := k_c2 (wc := [(kX7 ah av ln fa nu)]) hP hD [0] (by decide +kernel) rfl
      exact W.iret (v := (-1)) hx₀ hb hr (fun t₀ ht hW => ⟨⟨(-1), (), rfl, (lf_j_worth_X7_11 (pl - pl / 5 * 5) b1 c_1 c_3 c_6 c_9 c_12 c_13), by rw [ht]; exact hP9, va_K.moved hW.alike hK, hD9⟩, hS.F ht⟩) hS.2.2 dX7_worth_73
    · refine lv_iconst (v := 0) hx₀ hb dX7_worth_68 (by decide +kernel) ?_
      refine lv_goto (tgt := 73) hx₀ hb dX7_worth_69 (by decide) ?_
      obtain ⟨hP9, hD9⟩ := k_c2 (wc := [(kX7 ah av ln fa nu)]) hP hD [0] (by decide +kernel) rfl
      exact W.iret (v := 0) hx₀ hb hr (fun t₀ ht hW => ⟨⟨0, (), rfl, (lf_j_worth_X7_12 (pl - pl / 5 * 5) b1 c_1 c_3 c_6 c_9 c_12 c_13), by rw [ht]; exact hP9, va_K.moved hW.alike hK, hD9⟩, hS.F ht⟩) hS.2.2 dX7_worth_73
  refine lv_tableOut (tgt := 74) hx₀ hb dX7_worth_3 (k_out5 c_1 c_3 c_6 c_9 c_12) (by decide) ?_
  refine lv_iload_n hx₀ hb dX7_worth_74 rfl (lv_at hl 2 rfl) ?_
  refine lv_bipush (v := 49) hx₀ hb dX7_worth_75 (by decide +kernel) ?_
  refine lv_icmp_lt (tgt := 93) hx₀ hb dX7_worth_77 (by decide) (fun c_14 => ?_) (fun c_14 => ?_)
  · refine lv_iconst (v := (-1)) hx₀ hb dX7_worth_93 (by decide +kernel) ?_
    obtain ⟨hP9, hD9⟩ := k_c2 (wc := [(kX7 ah av ln fa nu)]) hP hD [0] (by decide +kernel) rfl
    exact W.iret (v := (-1)) hx₀ hb hr (fun t₀ ht hW => ⟨⟨(-1), (), rfl, (lf_j_worth_X7_13 (pl - pl / 5 * 5) b1 c_1 c_3 c_6 c_9 c_12 c_14), by rw [ht]; exact hP9, va_K.moved hW.alike hK, hD9⟩, hS.F ht⟩) hS.2.2 dX7_worth_94
  · refine lv_iload_n hx₀ hb dX7_worth_80 rfl (lv_at hl 2 rfl) ?_
    refine lv_bipush (v := 57) hx₀ hb dX7_worth_81 (by decide +kernel) ?_
    refine lv_icmp_gt (tgt := 93) hx₀ hb dX7_worth_83 (by decide) (fun c_15 => ?_) (fun c_15 => ?_)
    · refine lv_iconst (v := (-1)) hx₀ hb dX7_worth_93 (by decide +kernel) ?_
      obtain ⟨hP9, hD9⟩ := k_c2 (wc := [(kX7 ah av ln fa nu)]) hP hD [0] (by decide +kernel) rfl
      exact W.iret (v := (-1)) hx₀ hb hr (fun t₀ ht hW => ⟨⟨(-1), (), rfl, (lf_j_worth_X7_14 (pl - pl / 5 * 5) b1 c_1 c_3 c_6 c_9 c_12 c_14 c_15), by rw [ht]; exact hP9, va_K.moved hW.alike hK, hD9⟩, hS.F ht⟩) hS.2.2 dX7_worth_94
    · refine lv_iload_n hx₀ hb dX7_worth_86 rfl (lv_at hl 2 rfl) ?_
      refine lv_bipush (v := 48) hx₀ hb dX7_worth_87 (by decide +kernel) ?_
      refine lv_isub hx₀ hb dX7_worth_89 ?_
      refine lv_goto (tgt := 94) hx₀ hb dX7_worth_90 (by decide) ?_
      obtain ⟨hP9, hD9⟩ := k_c2 (wc := [(kX7 ah av ln fa nu)]) hP hD [0] (by decide +kernel) rfl
      exact W.iret (v := b1 - 48) hx₀ hb hr (fun t₀ ht hW => ⟨⟨b1 - 48, (), rfl, (lf_j_worth_X7_15 (pl - pl / 5 * 5) b1 c_1 c_3 c_6 c_9 c_12 c_14 c_15), by rw [ht]; exact hP9, va_K.moved hW.alike hK, hD9⟩, hS.F ht⟩) hS.2.2 dX7_worth_94
theorem lf_j_things_X7_1 (a0 : Int32) (h0 : 0 ≤ a0) (h1 : ¬ a0 = 0) (h2 : ¬ (a0 - a0 / 5 * 5) = 4) : ((-1) : Int32) = kTh7 a0 := by
  ((try unfold kTh7)) <;> ((repeat' split) <;> first | rfl | contradiction | assumption | (exfalso; (first | rfl | assumption | decide | omega | (have hr0 := Int32.toInt_lt a0; have hs0 := Int32.le_toInt a0; have hd0 : (0 : Int) ≤ a0.toInt := (by first | omega | (simp only [Int64.toInt_add, Int64.toInt_sub, Int32.toInt_add, Int32.toInt_sub, Int32.toInt_mul, Int64.le_iff_toInt_le, Int64.lt_iff_toInt_lt, Int32.le_iff_toInt_le, Int32.lt_iff_toInt_lt, ← Int32.toInt_inj, ← Int64.toInt_inj, Int32.toInt_toInt64, kc_m1, kc_0, kc_1, kc_2, kc_3, kc_4, kc_5, kc_6, kc_7, kc_8, kc_10, kc_48, kc_49, kc_57, kc_59, kc_97, kc_100, kc_102, kc_105, kc_111, kc_112, kc_115, kc_116, kc_119] at *; omega)); have he0 := Int.tdiv_eq_ediv_of_nonneg (b := 5) hd0; simp only [Int64.toInt_add, Int64.toInt_sub, Int32.toInt_add, Int32.toInt_sub, Int32.toInt_mul, Int64.le_iff_toInt_le, Int64.lt_iff_toInt_lt, Int32.le_iff_toInt_le, Int32.lt_iff_toInt_lt, ← Int32.toInt_inj, ← Int64.toInt_inj, Int32.toInt_toInt64, Int32.toInt_div, kc_m1, kc_0, kc_1, kc_2, kc_3, kc_4, kc_5, kc_6, kc_7, kc_8, kc_10, kc_48, kc_49, kc_57, kc_59, kc_97, kc_100, kc_102, kc_105, kc_111, kc_112, kc_115, kc_116, kc_119, true_and, and_true, not_true_eq_false, not_false_eq_true] at * <;> (simp only [he0] at *; (first | omega | ((try simp (disch := omega) only [k_bm64] at *); (try simp (disch := omega) only [k_bm] at *); (try simp (disch := omega) only [k_bm] at *); omega) | (simp only [Int.bmod] at *; omega)))))) | (first | rfl | assumption | decide | omega | (have hr0 := Int32.toInt_lt a0; have hs0 := Int32.le_toInt a0; have hd0 : (0 : Int) ≤ a0.toInt := (by first | omega | (simp only [Int64.toInt_add, Int64.toInt_sub, Int32.toInt_add, Int32.toInt_sub, Int32.toInt_mul, Int64.le_iff_toInt_le, Int64.lt_iff_toInt_lt, Int32.le_iff_toInt_le, Int32.lt_iff_toInt_lt, ← Int32.toInt_inj, ← Int64.toInt_inj, Int32.toInt_toInt64, kc_m1, kc_0, kc_1, kc_2, kc_3, kc_4, kc_5, kc_6, kc_7, kc_8, kc_10, kc_48, kc_49, kc_57, kc_59, kc_97, kc_100, kc_102, kc_105, kc_111, kc_112, kc_115, kc_116, kc_119] at *; omega)); have he0 := Int.tdiv_eq_ediv_of_nonneg (b := 5) hd0; simp only [Int64.toInt_add, Int64.toInt_sub, Int32.toInt_add, Int32.toInt_sub, Int32.toInt_mul, Int64.le_iff_toInt_le, Int64.lt_iff_toInt_lt, Int32.le_iff_toInt_le, Int32.lt_iff_toInt_lt, ← Int32.toInt_inj, ← Int64.toInt_inj, Int32.toInt_toInt64, Int32.toInt_div, kc_m1, kc_0, kc_1, kc_2, kc_3, kc_4, kc_5, kc_6, kc_7, kc_8, kc_10, kc_48, kc_49, kc_57, kc_59, kc_97, kc_100, kc_102, kc_105, kc_111, kc_112, kc_115, kc_116, kc_119, true_and, and_true, not_true_eq_false, not_false_eq_true] at * <;> (simp only [he0] at *; (first | omega | ((try simp (disch := omega) only [k_bm64] at *); (try simp (disch := omega) only [k_bm] at *); (try simp (disch := omega) only [k_bm] at *); omega) | (simp only [Int.bmod] at *; omega))))))
theorem lf_j_things_X7_2 (a0 : Int32) (h0 : 0 ≤ a0) (h1 : ¬ a0 = 0) (h2 : (a0 - a0 / 5 * 5) = 4) : ((a0 + 1) / 5 : Int32) = kTh7 a0 := by
  ((try unfold kTh7)) <;> ((repeat' split) <;> first | rfl | contradiction | assumption | (exfalso; (first | rfl | assumption | decide | omega | (have hr0 := Int32.toInt_lt a0; have hs0 := Int32.le_toInt a0; have hd0 : (0 : Int) ≤ a0.toInt := (by first | omega | (simp only [Int64.toInt_add, Int64.toInt_sub, Int32.toInt_add, Int32.toInt_sub, Int32.toInt_mul, Int64.le_iff_toInt_le, Int64.lt_iff_toInt_lt, Int32.le_iff_toInt_le, Int32.lt_iff_toInt_lt, ← Int32.toInt_inj, ← Int64.toInt_inj, Int32.toInt_toInt64, kc_m1, kc_0, kc_1, kc_2, kc_3, kc_4, kc_5, kc_6, kc_7, kc_8, kc_10, kc_48, kc_49, kc_57, kc_59, kc_97, kc_100, kc_102, kc_105, kc_111, kc_112, kc_115, kc_116, kc_119] at *; omega)); have he0 := Int.tdiv_eq_ediv_of_nonneg (b := 5) hd0; simp only [Int64.toInt_add, Int64.toInt_sub, Int32.toInt_add, Int32.toInt_sub, Int32.toInt_mul, Int64.le_iff_toInt_le, Int64.lt_iff_toInt_lt, Int32.le_iff_toInt_le, Int32.lt_iff_toInt_lt, ← Int32.toInt_inj, ← Int64.toInt_inj, Int32.toInt_toInt64, Int32.toInt_div, kc_m1, kc_0, kc_1, kc_2, kc_3, kc_4, kc_5, kc_6, kc_7, kc_8, kc_10, kc_48, kc_49, kc_57, kc_59, kc_97, kc_100, kc_102, kc_105, kc_111, kc_112, kc_115, kc_116, kc_119, true_and, and_true, not_true_eq_false, not_false_eq_true] at * <;> (simp only [he0] at *; (first | omega | ((try simp (disch := omega) only [k_bm64] at *); (try simp (disch := omega) only [k_bm] at *); (try simp (disch := omega) only [k_bm] at *); omega) | (simp only [Int.bmod] at *; omega)))))) | (first | rfl | assumption | decide | omega | (have hr0 := Int32.toInt_lt a0; have hs0 := Int32.le_toInt a0; have hd0 : (0 : Int) ≤ a0.toInt := (by first | omega | (simp only [Int64.toInt_add, Int64.toInt_sub, Int32.toInt_add, Int32.toInt_sub, Int32.toInt_mul, Int64.le_iff_toInt_le, Int64.lt_iff_toInt_lt, Int32.le_iff_toInt_le, Int32.lt_iff_toInt_lt, ← Int32.toInt_inj, ← Int64.toInt_inj, Int32.toInt_toInt64, kc_m1, kc_0, kc_1, kc_2, kc_3, kc_4, kc_5, kc_6, kc_7, kc_8, kc_10, kc_48, kc_49, kc_57, kc_59, kc_97, kc_100, kc_102, kc_105, kc_111, kc_112, kc_115, kc_116, kc_119] at *; omega)); have he0 := Int.tdiv_eq_ediv_of_nonneg (b := 5) hd0; simp only [Int64.toInt_add, Int64.toInt_sub, Int32.toInt_add, Int32.toInt_sub, Int32.toInt_mul, Int64.le_iff_toInt_le, Int64.lt_iff_toInt_lt, Int32.le_iff_toInt_le, Int32.lt_iff_toInt_lt, ← Int32.toInt_inj, ← Int64.toInt_inj, Int32.toInt_toInt64, Int32.toInt_div, kc_m1, kc_0, kc_1, kc_2, kc_3, kc_4, kc_5, kc_6, kc_7, kc_8, kc_10, kc_48, kc_49, kc_57, kc_59, kc_97, kc_100, kc_102, kc_105, kc_111, kc_112, kc_115, kc_116, kc_119, true_and, and_true, not_true_eq_false, not_false_eq_true] at * <;> (simp only [he0] at *; (first | omega | ((try simp (disch := omega) only [k_bm64] at *); (try simp (disch := omega) only [k_bm] at *); (try simp (disch := omega) only [k_bm] at *); omega) | (simp only [Int.bmod] at *; omega))))))
theorem lf_j_things_X7_3 (a0 : Int32) (h0 : 0 ≤ a0) (h1 : a0 = 0) : (0 : Int32) = kTh7 a0 := by
  ((try unfold kTh7)) <;> ((repeat' split) <;> first | rfl | contradiction | assumption | (exfalso; (first | rfl | assumption | decide | omega | (have hr0 := Int32.toInt_lt a0; have hs0 := Int32.le_toInt a0; simp only [Int64.toInt_add, Int64.toInt_sub, Int32.toInt_add, Int32.toInt_sub, Int32.toInt_mul, Int64.le_iff_toInt_le, Int64.lt_iff_toInt_lt, Int32.le_iff_toInt_le, Int32.lt_iff_toInt_lt, ← Int32.toInt_inj, ← Int64.toInt_inj, Int32.toInt_toInt64, kc_m1, kc_0, kc_1, kc_2, kc_3, kc_4, kc_5, kc_6, kc_7, kc_8, kc_10, kc_48, kc_49, kc_57, kc_59, kc_97, kc_100, kc_102, kc_105, kc_111, kc_112, kc_115, kc_116, kc_119, true_and, and_true, not_true_eq_false, not_false_eq_true] at * <;> ((first | omega | ((try simp (disch := omega) only [k_bm64] at *); (try simp (disch := omega) only [k_bm] at *); (try simp (disch := omega) only [k_bm] at *); omega) | (simp only [Int.bmod] at *; omega)))))) | (first | rfl | assumption | decide | omega | (have hr0 := Int32.toInt_lt a0; have hs0 := Int32.le_toInt a0; simp only [Int64.toInt_add, Int64.toInt_sub, Int32.toInt_add, Int32.toInt_sub, Int32.toInt_mul, Int64.le_iff_toInt_le, Int64.lt_iff_toInt_lt, Int32.le_iff_toInt_le, Int32.lt_iff_toInt_lt, ← Int32.toInt_inj, ← Int64.toInt_inj, Int32.toInt_toInt64, kc_m1, kc_0, kc_1, kc_2, kc_3, kc_4, kc_5, kc_6, kc_7, kc_8, kc_10, kc_48, kc_49, kc_57, kc_59, kc_97, kc_100, kc_102, kc_105, kc_111, kc_112, kc_115, kc_116, kc_119, true_and, and_true, not_true_eq_false, not_false_eq_true] at * <;> ((first | omega | ((try simp (disch := omega) only [k_bm64] at *); (try simp (disch := omega) only [k_bm] at *); (try simp (disch := omega) only [k_bm] at *); omega) | (simp only [Int.bmod] at *; omega))))))
set_option maxHeartbeats 4000000 in
set_option maxRecDepth 100000 in
theorem j_things_X7 (l : Launch) (dC : Nat → ClassId) (dI : Nat → Nat → Nat) (cI cJ cQ : ClassId) (sz : Nat) (ah : Nat) (b1 : Int32) (av : Nat) (ln : Int32) (fa : Int32) (nu : Int32) (hh0 : 0 ≤ b1) : Met l yX7_thingsIn (kW yX7_thingsIn cX7_thingsIn 2 (some .int)) { frames := 0, cells := 0, slots := 0, locals := 0 } (kPre dC dI cI cJ cQ sz [.ref ah, .int b1] [(kX7 ah av ln fa nu)]) (va_Qi (fun (r : Int32) (u : Unit) => (r = kTh7 b1)) (fun (u : Unit) t₀ => kB dC dI cI cJ cQ (va_A [(kX7 ah av ln fa nu)] sz) [(kX7 ah av ln fa nu)] t₀) (va_A [(kX7 ah av ln fa nu)] sz)) 0 0 (va_A [(kX7 ah av ln fa nu)] sz) := by
  refine Met.ofW (cc := cX7_thingsIn) (maxL := 2) (ret := (some .int)) (by decide) rfl ?_
  intro p₀ e₀ s₀ m₀ args below meth c₀ s₁ B hml hv₀
  obtain ⟨rfl, hsz, hP, hK, hD0, hN⟩ := hv₀
  have hx₀ := B.exec
  have hb := B.bytes
  have hr := B.returns
  have hts := atoms_spec (ws := (kW yX7_thingsIn cX7_thingsIn 2 (some .int))) B.pre
  have hts := fun w h => hts w (List.mem_cons_of_mem _ h)
  have hown : s₀.vm.findClass RX7 = some m₀.cls := findClass_of_methodNamed B.named
  have hlocks := B.notSynchronized
  subst hsz
  have hD := hD0.self (sz := s₀.heap.size)
  generalize hAe : va_A [(kX7 ah av ln fa nu)] s₀.heap.size = A at hD ⊢
  have hA : ∀ q : Nat, s₀.heap.size ≤ q → A q := fun q h => by rw [← hAe]; exact Or.inr h
  have hS : va_S A s₀.heap s₀.heap [] := va_S.rf
  have hP : va_P (dC, dI) vwCl [(kX7 ah av ln fa nu)] s₀.heap := hP
  have hl := lv_entry ([.ref ah, .int b1]) (n := 2) (Nat.le_of_ble_eq_true rfl)
  rw [lg_entry_eq]
  generalize (lg_sl ([.ref ah, .int b1]) ++ List.replicate (2 - (lg_sl ([.ref ah, .int b1])).length) Slot.unset).toArray = ls at hl ⊢
  have hl : lv_has ls 2 [(0, .ref ah), (1, .int b1)] := hl
  obtain ⟨H, hH⟩ : ∃ z : Heap, z = s₀.heap := ⟨_, rfl⟩
  rw [← hH] at hP
  have hS : va_S A s₀.heap H [] := by rw [hH]; exact hS
  refine k_heap hH ?_
  have hD : va_D A [(kX7 ah av ln fa nu)] := hD
  obtain ⟨locs, hlo⟩ : ∃ z : List Loc, z = [] := ⟨_, rfl⟩
  rw [← hlo] at hS ⊢
  clear hlo hH hAe hD0
  refine lv_iload_n hx₀ hb dX7_thingsIn_0 rfl (lv_at hl 1 rfl) ?_
  refine lv_if_ne (tgt := 6) hx₀ hb dX7_thingsIn_1 (by decide) (fun c_1 => ?_) (fun c_1 => ?_)
  · refine lv_iload_n hx₀ hb dX7_thingsIn_6 rfl (lv_at hl 1 rfl) ?_
    refine lv_iconst (v := 5) hx₀ hb dX7_thingsIn_7 (by decide +kernel) ?_
    refine lv_irem hx₀ hb dX7_thingsIn_8 (by decide +kernel) ?_
    refine lv_iconst (v := 4) hx₀ hb dX7_thingsIn_9 (by decide +kernel) ?_
    refine lv_icmp_ne (tgt := 21) hx₀ hb dX7_thingsIn_10 (by decide) (fun c_2 => ?_) (fun c_2 => ?_)
    · refine lv_iconst (v := (-1)) hx₀ hb dX7_thingsIn_21 (by decide +kernel) ?_
      obtain ⟨hP9, hD9⟩ := k_c2 (wc := [(kX7 ah av ln fa nu)]) hP hD [0] (by decide +kernel) rfl
      exact W.iret (v := (-1)) hx₀ hb hr (fun t₀ ht hW => ⟨⟨(-1), (), rfl, (lf_j_things_X7_1 b1 hh0 c_1 c_2), by rw [ht]; exact hP9, va_K.moved hW.alike hK, hD9⟩, hS.F ht⟩) hS.2.2 dX7_thingsIn_22
    · refine lv_iload_n hx₀ hb dX7_thingsIn_13 rfl (lv_at hl 1 rfl) ?_
      refine lv_iconst (v := 1) hx₀ hb dX7_thingsIn_14 (by decide +kernel) ?_
      refine lv_iadd hx₀ hb dX7_thingsIn_15 ?_
      refine lv_iconst (v := 5) hx₀ hb dX7_thingsIn_16 (by decide +kernel) ?_
      refine lv_idiv hx₀ hb dX7_thingsIn_17 (by decide +kernel) ?_
      refine lv_goto (tgt := 22) hx₀ hb dX7_thingsIn_18 (by decide) ?_
      obtain ⟨hP9, hD9⟩ := k_c2 (wc := [(kX7 ah av ln fa nu)]) hP hD [0] (by decide +kernel) rfl
      exact W.iret (v := (b1 + 1) / 5) hx₀ hb hr (fun t₀ ht hW => ⟨⟨(b1 + 1) / 5, (), rfl, (lf_j_things_X7_2 b1 hh0 c_1 c_2), by rw [ht]; exact hP9, va_K.moved hW.alike hK, hD9⟩, hS.F ht⟩) hS.2.2 dX7_thingsIn_22
  · refine lv_iconst (v := 0) hx₀ hb dX7_thingsIn_4 (by decide +kernel) ?_
    obtain ⟨hP9, hD9⟩ := k_c2 (wc := [(kX7 ah av ln fa nu)]) hP hD [0] (by decide +kernel) rfl
    exact W.iret (v := 0) hx₀ hb hr (fun t₀ ht hW => ⟨⟨0, (), rfl, (lf_j_things_X7_3 b1 hh0 c_1), by rw [ht]; exact hP9, va_K.moved hW.alike hK, hD9⟩, hS.F ht⟩) hS.2.2 dX7_thingsIn_5
set_option maxHeartbeats 4000000 in
set_option maxRecDepth 100000 in
theorem j_isFull_X2 (l : Launch) (dC : Nat → ClassId) (dI : Nat → Nat → Nat) (cI cJ cQ : ClassId) (sz : Nat) (ah : Nat) (av : Nat) (ln : Int32) (fa : Int32) (nu : Int32) (tf : Nat → Int32) : Met l yX9_isFull (kW yX9_isFull cX9_isFull 1 (some .boolean)) { frames := 0, cells := 0, slots := 0, locals := 0 } (kPre dC dI cI cJ cQ sz [.ref ah] [(kX2 ah av ln fa nu), (kAI av cI 23 tf)]) (va_Qi (fun (r : Int32) (u : Unit) => (r = if 23 ≤ ln then 1 else 0)) (fun (u : Unit) t₀ => kB dC dI cI cJ cQ (va_A [(kX2 ah av ln fa nu), (kAI av cI 23 tf)] sz) [(kX2 ah av ln fa nu), (kAI av cI 23 tf)] t₀) (va_A [(kX2 ah av ln fa nu), (kAI av cI 23 tf)] sz)) 0 0 (va_A [(kX2 ah av ln fa nu), (kAI av cI 23 tf)] sz) := by
  refine Met.ofW (cc := cX9_isFull) (maxL := 1) (ret := (some .boolean)) (by decide) rfl ?_
  intro p₀ e₀ s₀ m₀ args below meth c₀ s₁ B hml hv₀
  obtain ⟨rfl, hsz, hP, hK, hD0, hN⟩ := hv₀
  have hx₀ := B.exec
  have hb := B.bytes
  have hr := B.returns
  have hts := atoms_spec (ws := (kW yX9_isFull cX9_isFull 1 (some .boolean))) B.pre
  have hts := fun w h => hts w (List.mem_cons_of_mem _ h)
  have hown : s₀.vm.findClass RX9 = some m₀.cls := findClass_of_methodNamed B.named
  have hlocks := B.notSynchronized
  subst hsz
  have hD := hD0.self (sz := s₀.heap.size)
  generalize hAe : va_A [(kX2 ah av ln fa nu), (kAI av cI 23 tf)] s₀.heap.size = A at hD ⊢
  have hA : ∀ q : Nat, s₀.heap.size ≤ q → A q := fun q h => by rw [← hAe]; exact Or.inr h
  have hS : va_S A s₀.heap s₀.heap [] := va_S.rf
  have hP : va_P (dC, dI) vwCl [(kX2 ah av ln fa nu), (kAI av cI 23 tf)] s₀.heap := hP
  have hl := lv_entry ([.ref ah]) (n := 1) (Nat.le_of_ble_eq_true rfl)
  rw [lg_entry_eq]
  generalize (lg_sl ([.ref ah]) ++ List.replicate (1 - (lg_sl ([.ref ah])).length) Slot.unset).toArray = ls at hl ⊢
  have hl : lv_has ls 1 [(0, .ref ah)] := hl
  obtain ⟨H, hH⟩ : ∃ z : Heap, z = s₀.heap := ⟨_, rfl⟩
  rw [← hH] at hP
  have hS : va_S A s₀.heap H [] := by rw [hH]; exact hS
  refine k_heap hH ?_
  have hD : va_D A [(kX2 ah av ln fa nu), (kAI av cI 23 tf)] := hD
  obtain ⟨locs, hlo⟩ : ∃ z : List Loc, z = [] := ⟨_, rfl⟩
  rw [← hlo] at hS ⊢
  clear hlo hH hAe hD0
  refine lv_aload_n hx₀ hb dX9_isFull_0 rfl (lv_at hl 0 rfl) ?_
  refine va_get (D := (dC, dI)) (ci := 2) (v := .int ln) (C := RX2) (T := TX2) (N := 4) hx₀ hb hts inlX2 hown hK hP 0 rfl rfl 1 (by decide) (hts (.fieldLink RX9 25 "BittenStick$Text" "length" "I") wd_147) (fun _ h9 => h9) rfl dX9_isFull_1 ?_
  refine lv_aload_n hx₀ hb dX9_isFull_4 rfl (lv_at hl 0 rfl) ?_
  refine va_get (D := (dC, dI)) (ci := 2) (v := .ref av) (C := RX2) (T := TX2) (N := 4) hx₀ hb hts inlX2 hown hK hP 0 rfl rfl 0 (by decide) (hts (.fieldLink RX9 21 "BittenStick$Text" "values" "[I") wd_65) (fun _ h9 => h9) rfl dX9_isFull_5 ?_
  refine va_alen (v := 23) hx₀ hb hK hP 1 0 rfl rfl rfl dX9_isFull_8 ?_
  refine lv_icmp_lt (tgt := 16) hx₀ hb dX9_isFull_9 (by decide) (fun c_1 => ?_) (fun c_1 => ?_)
  · refine lv_iconst (v := 0) hx₀ hb dX9_isFull_16 (by decide +kernel) ?_
    obtain ⟨hP9, hD9⟩ := k_c2 (wc := [(kX2 ah av ln fa nu), (kAI av cI 23 tf)]) hP hD [0, 1] (by decide +kernel) rfl
    exact W.zret (v := 0) hx₀ hb hr (by decide +kernel) (fun t₀ ht hW => ⟨⟨0, (), rfl, (show (0 : Int32) = if 23 ≤ ln then 1 else 0 from (if_neg (show ¬ (23 ≤ ln) from (Int32.not_le.mpr c_1))).symm), by rw [ht]; exact hP9, va_K.moved hW.alike hK, hD9⟩, hS.F ht⟩) hS.2.2 dX9_isFull_17
  · refine lv_iconst (v := 1) hx₀ hb dX9_isFull_12 (by decide +kernel) ?_
    refine lv_goto (tgt := 17) hx₀ hb dX9_isFull_13 (by decide) ?_
    obtain ⟨hP9, hD9⟩ := k_c2 (wc := [(kX2 ah av ln fa nu), (kAI av cI 23 tf)]) hP hD [0, 1] (by decide +kernel) rfl
    exact W.zret (v := 1) hx₀ hb hr (by decide +kernel) (fun t₀ ht hW => ⟨⟨1, (), rfl, (show (1 : Int32) = if 23 ≤ ln then 1 else 0 from (if_pos (show 23 ≤ ln from (Int32.not_lt.mp c_1))).symm), by rw [ht]; exact hP9, va_K.moved hW.alike hK, hD9⟩, hS.F ht⟩) hS.2.2 dX9_isFull_17
set_option maxHeartbeats 4000000 in
set_option maxRecDepth 100000 in
theorem j_has_X2 (l : Launch) (dC : Nat → ClassId) (dI : Nat → Nat → Nat) (cI cJ cQ : ClassId) (sz : Nat) (ah : Nat) (k1 : Int32) (av : Nat) (ln : Int32) (fa : Int32) (nu : Int32) : Met l yX9_has (kW yX9_has cX9_has 2 (some .boolean)) { frames := 0, cells := 0, slots := 0, locals := 0 } (kPre dC dI cI cJ cQ sz [.ref ah, .int k1] [(kX2 ah av ln fa nu)]) (va_Qi (fun (r : Int32) (u : Unit) => (r = if 0 ≤ k1 ∧ k1 < nu then 1 else 0)) (fun (u : Unit) t₀ => kB dC dI cI cJ cQ (va_A [(kX2 ah av ln fa nu)] sz) [(kX2 ah av ln fa nu)] t₀) (va_A [(kX2 ah av ln fa nu)] sz)) 0 0 (va_A [(kX2 ah av ln fa nu)] sz) := by
  refine Met.ofW (cc := cX9_has) (maxL := 2) (ret := (some .boolean)) (by decide) rfl ?_
  intro p₀ e₀ s₀ m₀ args below meth c₀ s₁ B hml hv₀
  obtain ⟨rfl, hsz, hP, hK, hD0, hN⟩ := hv₀
  have hx₀ := B.exec
  have hb := B.bytes
  have hr := B.returns
  have hts := atoms_spec (ws := (kW yX9_has cX9_has 2 (some .boolean))) B.pre
  have hts := fun w h => hts w (List.mem_cons_of_mem _ h)
  have hown : s₀.vm.findClass RX9 = some m₀.cls := findClass_of_methodNamed B.named
  have hlocks := B.notSynchronized
  subst hsz
  have hD := hD0.self (sz := s₀.heap.size)
  generalize hAe : va_A [(kX2 ah av ln fa nu)] s₀.heap.size = A at hD ⊢
  have hA : ∀ q : Nat, s₀.heap.size ≤ q → A q := fun q h => by rw [← hAe]; exact Or.inr h
  have hS : va_S A s₀.heap s₀.heap [] := va_S.rf
  have hP : va_P (dC, dI) vwCl [(kX2 ah av ln fa nu)] s₀.heap := hP
  have hl := lv_entry ([.ref ah, .int k1]) (n := 2) (Nat.le_of_ble_eq_true rfl)
  rw [lg_entry_eq]
  generalize (lg_sl ([.ref ah, .int k1]) ++ List.replicate (2 - (lg_sl ([.ref ah, .int k1])).length) Slot.unset).toArray = ls at hl ⊢
  have hl : lv_has ls 2 [(0, .ref ah), (1, .int k1)] := hl
  obtain ⟨H, hH⟩ : ∃ z : Heap, z = s₀.heap := ⟨_, rfl⟩
  rw [← hH] at hP
  have hS : va_S A s₀.heap H [] := by rw [hH]; exact hS
  refine k_heap hH ?_
  have hD : va_D A [(kX2 ah av ln fa nu)] := hD
  obtain ⟨locs, hlo⟩ : ∃ z : List Loc, z = [] := ⟨_, rfl⟩
  rw [← hlo] at hS ⊢
  clear hlo hH hAe hD0
  refine lv_iload_n hx₀ hb dX9_has_0 rfl (lv_at hl 1 rfl) ?_
  refine lv_if_lt (tgt := 16) hx₀ hb dX9_has_1 (by decide) (fun c_1 => ?_) (fun c_1 => ?_)
  · refine lv_iconst (v := 0) hx₀ hb dX9_has_16 (by decide +kernel) ?_
    obtain ⟨hP9, hD9⟩ := k_c2 (wc := [(kX2 ah av ln fa nu)]) hP hD [0] (by decide +kernel) rfl
    exact W.zret (v := 0) hx₀ hb hr (by decide +kernel) (fun t₀ ht hW => ⟨⟨0, (), rfl, (show (0 : Int32) = if 0 ≤ k1 ∧ k1 < nu then 1 else 0 from (if_neg (show ¬ (0 ≤ k1 ∧ k1 < nu) from (fun z => (Int32.not_le.mpr c_1) z.1))).symm), by rw [ht]; exact hP9, va_K.moved hW.alike hK, hD9⟩, hS.F ht⟩) hS.2.2 dX9_has_17
  · refine lv_iload_n hx₀ hb dX9_has_4 rfl (lv_at hl 1 rfl) ?_
    refine lv_aload_n hx₀ hb dX9_has_5 rfl (lv_at hl 0 rfl) ?_
    refine va_get (D := (dC, dI)) (ci := 2) (v := .int nu) (C := RX2) (T := TX2) (N := 4) hx₀ hb hts inlX2 hown hK hP 0 rfl rfl 3 (by decide) (hts (.fieldLink RX9 37 "BittenStick$Text" "number" "I") wd_174) (fun _ h9 => h9) rfl dX9_has_6 ?_
    refine lv_icmp_ge (tgt := 16) hx₀ hb dX9_has_9 (by decide) (fun c_2 => ?_) (fun c_2 => ?_)
    · refine lv_iconst (v := 0) hx₀ hb dX9_has_16 (by decide +kernel) ?_
      obtain ⟨hP9, hD9⟩ := k_c2 (wc := [(kX2 ah av ln fa nu)]) hP hD [0] (by decide +kernel) rfl
      exact W.zret (v := 0) hx₀ hb hr (by decide +kernel) (fun t₀ ht hW => ⟨⟨0, (), rfl, (show (0 : Int32) = if 0 ≤ k1 ∧ k1 < nu then 1 else 0 from (if_neg (show ¬ (0 ≤ k1 ∧ k1 < nu) from (fun z => (Int32.not_lt.mpr c_2) z.2))).symm), by rw [ht]; exact hP9, va_K.moved hW.alike hK, hD9⟩, hS.F ht⟩) hS.2.2 dX9_has_17
    · refine lv_iconst (v := 1) hx₀ hb dX9_has_12 (by decide +kernel) ?_
      refine lv_goto (tgt := 17) hx₀ hb dX9_has_13 (by decide) ?_
      obtain ⟨hP9, hD9⟩ := k_c2 (wc := [(kX2 ah av ln fa nu)]) hP hD [0] (by decide +kernel) rfl
      exact W.zret (v := 1) hx₀ hb hr (by decide +kernel) (fun t₀ ht hW => ⟨⟨1, (), rfl, (show (1 : Int32) = if 0 ≤ k1 ∧ k1 < nu then 1 else 0 from (if_pos (show 0 ≤ k1 ∧ k1 < nu from ⟨(Int32.not_lt.mp c_1), (Int32.not_le.mp c_2)⟩)).symm), by rw [ht]; exact hP9, va_K.moved hW.alike hK, hD9⟩, hS.F ht⟩) hS.2.2 dX9_has_17
theorem lf_j_valueAt_X2_1 (a0 : Int32) (h0 : ¬ a0 < 0) (h1 : ¬ 23 ≤ a0) : 0 ≤ a0.toInt ∧ a0.toInt < 23 := by
  first | rfl | assumption | decide | exact Or.inl rfl | (first | rfl | assumption | decide | omega | (have hr0 := Int32.toInt_lt a0; have hs0 := Int32.le_toInt a0; simp only [Int64.toInt_add, Int64.toInt_sub, Int32.toInt_add, Int32.toInt_sub, Int32.toInt_mul, Int64.le_iff_toInt_le, Int64.lt_iff_toInt_lt, Int32.le_iff_toInt_le, Int32.lt_iff_toInt_lt, ← Int32.toInt_inj, ← Int64.toInt_inj, Int32.toInt_toInt64, kc_0, kc_23, true_and, and_true, not_true_eq_false, not_false_eq_true] at * <;> ((first | omega | ((try simp (disch := omega) only [k_bm64] at *); (try simp (disch := omega) only [k_bm] at *); (try simp (disch := omega) only [k_bm] at *); omega) | (simp only [Int.bmod] at *; omega)))))
set_option maxHeartbeats 4000000 in
set_option maxRecDepth 100000 in
theorem j_valueAt_X2 (l : Launch) (dC : Nat → ClassId) (dI : Nat → Nat → Nat) (cI cJ cQ : ClassId) (sz : Nat) (ah : Nat) (k1 : Int32) (av : Nat) (ln : Int32) (fa : Int32) (nu : Int32) (tf : Nat → Int32) : Met l yX9_valueAt (kW yX9_valueAt cX9_valueAt 2 (some .int)) { frames := 0, cells := 0, slots := 0, locals := 0 } (kPre dC dI cI cJ cQ sz [.ref ah, .int k1] [(kX2 ah av ln fa nu), (kAI av cI 23 tf)]) (va_Qi (fun (r : Int32) (u : Unit) => (r = kAt 23 tf k1)) (fun (u : Unit) t₀ => kB dC dI cI cJ cQ (va_A [(kX2 ah av ln fa nu), (kAI av cI 23 tf)] sz) [(kX2 ah av ln fa nu), (kAI av cI 23 tf)] t₀) (va_A [(kX2 ah av ln fa nu), (kAI av cI 23 tf)] sz)) 0 0 (va_A [(kX2 ah av ln fa nu), (kAI av cI 23 tf)] sz) := by
  refine Met.ofW (cc := cX9_valueAt) (maxL := 2) (ret := (some .int)) (by decide) rfl ?_
  intro p₀ e₀ s₀ m₀ args below meth c₀ s₁ B hml hv₀
  obtain ⟨rfl, hsz, hP, hK, hD0, hN⟩ := hv₀
  have hx₀ := B.exec
  have hb := B.bytes
  have hr := B.returns
  have hts := atoms_spec (ws := (kW yX9_valueAt cX9_valueAt 2 (some .int))) B.pre
  have hts := fun w h => hts w (List.mem_cons_of_mem _ h)
  have hown : s₀.vm.findClass RX9 = some m₀.cls := findClass_of_methodNamed B.named
  have hlocks := B.notSynchronized
  subst hsz
  have hD := hD0.self (sz := s₀.heap.size)
  generalize hAe : va_A [(kX2 ah av ln fa nu), (kAI av cI 23 tf)] s₀.heap.size = A at hD ⊢
  have hA : ∀ q : Nat, s₀.heap.size ≤ q → A q := fun q h => by rw [← hAe]; exact Or.inr h
  have hS : va_S A s₀.heap s₀.heap [] := va_S.rf
  have hP : va_P (dC, dI) vwCl [(kX2 ah av ln fa nu), (kAI av cI 23 tf)] s₀.heap := hP
  have hl := lv_entry ([.ref ah, .int k1]) (n := 2) (Nat.le_of_ble_eq_true rfl)
  rw [lg_entry_eq]
  generalize (lg_sl ([.ref ah, .int k1]) ++ List.replicate (2 - (lg_sl ([.ref ah, .int k1])).length) Slot.unset).toArray = ls at hl ⊢
  have hl : lv_has ls 2 [(0, .ref ah), (1, .int k1)] := hl
  obtain ⟨H, hH⟩ : ∃ z : Heap, z = s₀.heap := ⟨_, rfl⟩
  rw [← hH] at hP
  have hS : va_S A s₀.heap H [] := by rw [hH]; exact hS
  refine k_heap hH ?_
  have hD : va_D A [(kX2 ah av ln fa nu), (kAI av cI 23 tf)] := hD
  obtain ⟨locs, hlo⟩ : ∃ z : List Loc, z = [] := ⟨_, rfl⟩
  rw [← hlo] at hS ⊢
  clear hlo hH hAe hD0
  refine lv_iload_n hx₀ hb dX9_valueAt_0 rfl (lv_at hl 1 rfl) ?_
  refine lv_if_lt (tgt := 22) hx₀ hb dX9_valueAt_1 (by decide) (fun c_1 => ?_) (fun c_1 => ?_)
  · refine lv_iconst (v := (-1)) hx₀ hb dX9_valueAt_22 (by decide +kernel) ?_
    obtain ⟨hP9, hD9⟩ := k_c2 (wc := [(kX2 ah av ln fa nu), (kAI av cI 23 tf)]) hP hD [0, 1] (by decide +kernel) rfl
    exact W.iret (v := (-1)) hx₀ hb hr (fun t₀ ht hW => ⟨⟨(-1), (), rfl, ((if_neg (show ¬ (0 ≤ k1 ∧ k1 < 23) from (fun z => (Int32.not_le.mpr c_1) z.1))).symm), by rw [ht]; exact hP9, va_K.moved hW.alike hK, hD9⟩, hS.F ht⟩) hS.2.2 dX9_valueAt_23
  · refine lv_iload_n hx₀ hb dX9_valueAt_4 rfl (lv_at hl 1 rfl) ?_
    refine lv_aload_n hx₀ hb dX9_valueAt_5 rfl (lv_at hl 0 rfl) ?_
    refine va_get (D := (dC, dI)) (ci := 2) (v := .ref av) (C := RX2) (T := TX2) (N := 4) hx₀ hb hts inlX2 hown hK hP 0 rfl rfl 0 (by decide) (hts (.fieldLink RX9 21 "BittenStick$Text" "values" "[I") wd_65) (fun _ h9 => h9) rfl dX9_valueAt_6 ?_
    refine va_alen (v := 23) hx₀ hb hK hP 1 0 rfl rfl rfl dX9_valueAt_9 ?_
    refine lv_icmp_ge (tgt := 22) hx₀ hb dX9_valueAt_10 (by decide) (fun c_2 => ?_) (fun c_2 => ?_)
    · refine lv_iconst (v := (-1)) hx₀ hb dX9_valueAt_22 (by decide +kernel) ?_
      obtain ⟨hP9, hD9⟩ := k_c2 (wc := [(kX2 ah av ln fa nu), (kAI av cI 23 tf)]) hP hD [0, 1] (by decide +kernel) rfl
      exact W.iret (v := (-1)) hx₀ hb hr (fun t₀ ht hW => ⟨⟨(-1), (), rfl, ((if_neg (show ¬ (0 ≤ k1 ∧ k1 < 23) from (fun z => (Int32.not_lt.mpr c_2) z.2))).symm), by rw [ht]; exact hP9, va_K.moved hW.alike hK, hD9⟩, hS.F ht⟩) hS.2.2 dX9_valueAt_23
    · refine lv_aload_n hx₀ hb dX9_valueAt_13 rfl (lv_at hl 0 rfl) ?_
      refine va_get (D := (dC, dI)) (ci := 2) (v := .ref av) (C := RX2) (T := TX2) (N := 4) hx₀ hb hts inlX2 hown hK hP 0 rfl rfl 0 (by decide) (hts (.fieldLink RX9 21 "BittenStick$Text" "values" "[I") wd_65) (fun _ h9 => h9) rfl dX9_valueAt_14 ?_
      refine lv_iload_n hx₀ hb dX9_valueAt_17 rfl (lv_at hl 1 rfl) ?_
      refine va_iald hx₀ hb hK hP 1 0 rfl rfl (vp_in_iff.mpr (lf_j_valueAt_X2_1 k1 c_1 c_2)) dX9_valueAt_18 ?_
      refine lv_goto (tgt := 23) hx₀ hb dX9_valueAt_19 (by decide) ?_
      obtain ⟨hP9, hD9⟩ := k_c2 (wc := [(kX2 ah av ln fa nu), (kAI av cI 23 tf)]) hP hD [0, 1] (by decide +kernel) rfl
      exact W.iret (v := tf k1.toNatClampNeg) hx₀ hb hr (fun t₀ ht hW => ⟨⟨tf k1.toNatClampNeg, (), rfl, ((if_pos (show 0 ≤ k1 ∧ k1 < 23 from ⟨(Int32.not_lt.mp c_1), (Int32.not_le.mp c_2)⟩)).symm), by rw [ht]; exact hP9, va_K.moved hW.alike hK, hD9⟩, hS.F ht⟩) hS.2.2 dX9_valueAt_23
theorem lf_j_worth_X2_1 (a0 : Int32) (a1 : Int32) (h0 : a0 = 0) (h1 : a1 < 49) : ((-1) : Int32) = wG a0 a1 := by
  ((try unfold wG); (try unfold wS); (try unfold wFig)) <;> ((repeat' split) <;> first | rfl | contradiction | assumption | (exfalso; (first | rfl | assumption | decide | omega | (have hr0 := Int32.toInt_lt a0; have hs0 := Int32.le_toInt a0; have hr1 := Int32.toInt_lt a1; have hs1 := Int32.le_toInt a1; simp only [Int64.toInt_add, Int64.toInt_sub, Int32.toInt_add, Int32.toInt_sub, Int32.toInt_mul, Int64.le_iff_toInt_le, Int64.lt_iff_toInt_lt, Int32.le_iff_toInt_le, Int32.lt_iff_toInt_lt, ← Int32.toInt_inj, ← Int64.toInt_inj, Int32.toInt_toInt64, kc_m1, kc_0, kc_1, kc_2, kc_3, kc_4, kc_5, kc_6, kc_7, kc_8, kc_10, kc_48, kc_49, kc_57, kc_59, kc_97, kc_100, kc_102, kc_105, kc_111, kc_112, kc_115, kc_116, kc_119, true_and, and_true, not_true_eq_false, not_false_eq_true] at * <;> ((first | omega | ((try simp (disch := omega) only [k_bm64] at *); (try simp (disch := omega) only [k_bm] at *); (try simp (disch := omega) only [k_bm] at *); omega) | (simp only [Int.bmod] at *; omega)))))) | (first | rfl | assumption | decide | omega | (have hr0 := Int32.toInt_lt a0; have hs0 := Int32.le_toInt a0; have hr1 := Int32.toInt_lt a1; have hs1 := Int32.le_toInt a1; simp only [Int64.toInt_add, Int64.toInt_sub, Int32.toInt_add, Int32.toInt_sub, Int32.toInt_mul, Int64.le_iff_toInt_le, Int64.lt_iff_toInt_lt, Int32.le_iff_toInt_le, Int32.lt_iff_toInt_lt, ← Int32.toInt_inj, ← Int64.toInt_inj, Int32.toInt_toInt64, kc_m1, kc_0, kc_1, kc_2, kc_3, kc_4, kc_5, kc_6, kc_7, kc_8, kc_10, kc_48, kc_49, kc_57, kc_59, kc_97, kc_100, kc_102, kc_105, kc_111, kc_112, kc_115, kc_116, kc_119, true_and, and_true, not_true_eq_false, not_false_eq_true] at * <;> ((first | omega | ((try simp (disch := omega) only [k_bm64] at *); (try simp (disch := omega) only [k_bm] at *); (try simp (disch := omega) only [k_bm] at *); omega) | (simp only [Int.bmod] at *; omega))))))
theorem lf_j_worth_X2_2 (a0 : Int32) (a1 : Int32) (h0 : a0 = 0) (h1 : ¬ a1 < 49) (h2 : 57 < a1) : ((-1) : Int32) = wG a0 a1 := by
  ((try unfold wG); (try unfold wS); (try unfold wFig)) <;> ((repeat' split) <;> first | rfl | contradiction | assumption | (exfalso; (first | rfl | assumption | decide | omega | (have hr0 := Int32.toInt_lt a0; have hs0 := Int32.le_toInt a0; have hr1 := Int32.toInt_lt a1; have hs1 := Int32.le_toInt a1; simp only [Int64.toInt_add, Int64.toInt_sub, Int32.toInt_add, Int32.toInt_sub, Int32.toInt_mul, Int64.le_iff_toInt_le, Int64.lt_iff_toInt_lt, Int32.le_iff_toInt_le, Int32.lt_iff_toInt_lt, ← Int32.toInt_inj, ← Int64.toInt_inj, Int32.toInt_toInt64, kc_m1, kc_0, kc_1, kc_2, kc_3, kc_4, kc_5, kc_6, kc_7, kc_8, kc_10, kc_48, kc_49, kc_57, kc_59, kc_97, kc_100, kc_102, kc_105, kc_111, kc_112, kc_115, kc_116, kc_119, true_and, and_true, not_true_eq_false, not_false_eq_true] at * <;> ((first | omega | ((try simp (disch := omega) only [k_bm64] at *); (try simp (disch := omega) only [k_bm] at *); (try simp (disch := omega) only [k_bm] at *); omega) | (simp only [Int.bmod] at *; omega)))))) | (first | rfl | assumption | decide | omega | (have hr0 := Int32.toInt_lt a0; have hs0 := Int32.le_toInt a0; have hr1 := Int32.toInt_lt a1; have hs1 := Int32.le_toInt a1; simp only [Int64.toInt_add, Int64.toInt_sub, Int32.toInt_add, Int32.toInt_sub, Int32.toInt_mul, Int64.le_iff_toInt_le, Int64.lt_iff_toInt_lt, Int32.le_iff_toInt_le, Int32.lt_iff_toInt_lt, ← Int32.toInt_inj, ← Int64.toInt_inj, Int32.toInt_toInt64, kc_m1, kc_0, kc_1, kc_2, kc_3, kc_4, kc_5, kc_6, kc_7, kc_8, kc_10, kc_48, kc_49, kc_57, kc_59, kc_97, kc_100, kc_102, kc_105, kc_111, kc_112, kc_115, kc_116, kc_119, true_and, and_true, not_true_eq_false, not_false_eq_true] at * <;> ((first | omega | ((try simp (disch := omega) only [k_bm64] at *); (try simp (disch := omega) only [k_bm] at *); (try simp (disch := omega) only [k_bm] at *); omega) | (simp only [Int.bmod] at *; omega))))))
theorem lf_j_worth_X2_3 (a0 : Int32) (a1 : Int32) (h0 : a0 = 0) (h1 : ¬ a1 < 49) (h2 : ¬ 57 < a1) : (a1 - 48 : Int32) = wG a0 a1 := by
  ((try unfold wG); (try unfold wS); (try unfold wFig)) <;> ((repeat' split) <;> first | rfl | contradiction | assumption | (exfalso; (first | rfl | assumption | decide | omega | (have hr0 := Int32.toInt_lt a0; have hs0 := Int32.le_toInt a0; have hr1 := Int32.toInt_lt a1; have hs1 := Int32.le_toInt a1; simp only [Int64.toInt_add, Int64.toInt_sub, Int32.toInt_add, Int32.toInt_sub, Int32.toInt_mul, Int64.le_iff_toInt_le, Int64.lt_iff_toInt_lt, Int32.le_iff_toInt_le, Int32.lt_iff_toInt_lt, ← Int32.toInt_inj, ← Int64.toInt_inj, Int32.toInt_toInt64, kc_m1, kc_0, kc_1, kc_2, kc_3, kc_4, kc_5, kc_6, kc_7, kc_8, kc_10, kc_48, kc_49, kc_57, kc_59, kc_97, kc_100, kc_102, kc_105, kc_111, kc_112, kc_115, kc_116, kc_119, true_and, and_true, not_true_eq_false, not_false_eq_true] at * <;> ((first | omega | ((try simp (disch := omega) only [k_bm64] at *); (try simp (disch := omega) only [k_bm] at *); (try simp (disch := omega) only [k_bm] at *); omega) | (simp only [Int.bmod] at *; omega)))))) | (first | rfl | assumption | decide | omega | (have hr0 := Int32.toInt_lt a0; have hs0 := Int32.le_toInt a0; have hr1 := Int32.toInt_lt a1; have hs1 := Int32.le_toInt a1; simp only [Int64.toInt_add, Int64.toInt_sub, Int32.toInt_add, Int32.toInt_sub, Int32.toInt_mul, Int64.le_iff_toInt_le, Int64.lt_iff_toInt_lt, Int32.le_iff_toInt_le, Int32.lt_iff_toInt_lt, ← Int32.toInt_inj, ← Int64.toInt_inj, Int32.toInt_toInt64, kc_m1, kc_0, kc_1, kc_2, kc_3, kc_4, kc_5, kc_6, kc_7, kc_8, kc_10, kc_48, kc_49, kc_57, kc_59, kc_97, kc_100, kc_102, kc_105, kc_111, kc_112, kc_115, kc_116, kc_119, true_and, and_true, not_true_eq_false, not_false_eq_true] at * <;> ((first | omega | ((try simp (disch := omega) only [k_bm64] at *); (try simp (disch := omega) only [k_bm] at *); (try simp (disch := omega) only [k_bm] at *); omega) | (simp only [Int.bmod] at *; omega))))))
theorem lf_j_worth_X2_4 (a0 : Int32) (a1 : Int32) (h0 : ¬ a0 = 0) (h1 : a0 = 1) (h2 : a1 < 48) : ((-1) : Int32) = wG a0 a1 := by
  ((try unfold wG); (try unfold wS); (try unfold wFig)) <;> ((repeat' split) <;> first | rfl | contradiction | assumption | (exfalso; (first | rfl | assumption | decide | omega | (have hr0 := Int32.toInt_lt a0; have hs0 := Int32.le_toInt a0; have hr1 := Int32.toInt_lt a1; have hs1 := Int32.le_toInt a1; simp only [Int64.toInt_add, Int64.toInt_sub, Int32.toInt_add, Int32.toInt_sub, Int32.toInt_mul, Int64.le_iff_toInt_le, Int64.lt_iff_toInt_lt, Int32.le_iff_toInt_le, Int32.lt_iff_toInt_lt, ← Int32.toInt_inj, ← Int64.toInt_inj, Int32.toInt_toInt64, kc_m1, kc_0, kc_1, kc_2, kc_3, kc_4, kc_5, kc_6, kc_7, kc_8, kc_10, kc_48, kc_49, kc_57, kc_59, kc_97, kc_100, kc_102, kc_105, kc_111, kc_112, kc_115, kc_116, kc_119, true_and, and_true, not_true_eq_false, not_false_eq_true] at * <;> ((first | omega | ((try simp (disch := omega) only [k_bm64] at *); (try simp (disch := omega) only [k_bm] at *); (try simp (disch := omega) only [k_bm] at *); omega) | (simp only [Int.bmod] at *; omega)))))) | (first | rfl | assumption | decide | omega | (have hr0 := Int32.toInt_lt a0; have hs0 := Int32.le_toInt a0; have hr1 := Int32.toInt_lt a1; have hs1 := Int32.le_toInt a1; simp only [Int64.toInt_add, Int64.toInt_sub, Int32.toInt_add, Int32.toInt_sub, Int32.toInt_mul, Int64.le_iff_toInt_le, Int64.lt_iff_toInt_lt, Int32.le_iff_toInt_le, Int32.lt_iff_toInt_lt, ← Int32.toInt_inj, ← Int64.toInt_inj, Int32.toInt_toInt64, kc_m1, kc_0, kc_1, kc_2, kc_3, kc_4, kc_5, kc_6, kc_7, kc_8, kc_10, kc_48, kc_49, kc_57, kc_59, kc_97, kc_100, kc_102, kc_105, kc_111, kc_112, kc_115, kc_116, kc_119, true_and, and_true, not_true_eq_false, not_false_eq_true] at * <;> ((first | omega | ((try simp (disch := omega) only [k_bm64] at *); (try simp (disch := omega) only [k_bm] at *); (try simp (disch := omega) only [k_bm] at *); omega) | (simp only [Int.bmod] at *; omega))))))
theorem lf_j_worth_X2_5 (a0 : Int32) (a1 : Int32) (h0 : ¬ a0 = 0) (h1 : a0 = 1) (h2 : ¬ a1 < 48) (h3 : 57 < a1) : ((-1) : Int32) = wG a0 a1 := by
  ((try unfold wG); (try unfold wS); (try unfold wFig)) <;> ((repeat' split) <;> first | rfl | contradiction | assumption | (exfalso; (first | rfl | assumption | decide | omega | (have hr0 := Int32.toInt_lt a0; have hs0 := Int32.le_toInt a0; have hr1 := Int32.toInt_lt a1; have hs1 := Int32.le_toInt a1; simp only [Int64.toInt_add, Int64.toInt_sub, Int32.toInt_add, Int32.toInt_sub, Int32.toInt_mul, Int64.le_iff_toInt_le, Int64.lt_iff_toInt_lt, Int32.le_iff_toInt_le, Int32.lt_iff_toInt_lt, ← Int32.toInt_inj, ← Int64.toInt_inj, Int32.toInt_toInt64, kc_m1, kc_0, kc_1, kc_2, kc_3, kc_4, kc_5, kc_6, kc_7, kc_8, kc_10, kc_48, kc_49, kc_57, kc_59, kc_97, kc_100, kc_102, kc_105, kc_111, kc_112, kc_115, kc_116, kc_119, true_and, and_true, not_true_eq_false, not_false_eq_true] at * <;> ((first | omega | ((try simp (disch := omega) only [k_bm64] at *); (try simp (disch := omega) only [k_bm] at *); (try simp (disch := omega) only [k_bm] at *); omega) | (simp only [Int.bmod] at *; omega)))))) | (first | rfl | assumption | decide | omega | (have hr0 := Int32.toInt_lt a0; have hs0 := Int32.le_toInt a0; have hr1 := Int32.toInt_lt a1; have hs1 := Int32.le_toInt a1; simp only [Int64.toInt_add, Int64.toInt_sub, Int32.toInt_add, Int32.toInt_sub, Int32.toInt_mul, Int64.le_iff_toInt_le, Int64.lt_iff_toInt_lt, Int32.le_iff_toInt_le, Int32.lt_iff_toInt_lt, ← Int32.toInt_inj, ← Int64.toInt_inj, Int32.toInt_toInt64, kc_m1, kc_0, kc_1, kc_2, kc_3, kc_4, kc_5, kc_6, kc_7, kc_8, kc_10, kc_48, kc_49, kc_57, kc_59, kc_97, kc_100, kc_102, kc_105, kc_111, kc_112, kc_115, kc_116, kc_119, true_and, and_true, not_true_eq_false, not_false_eq_true] at * <;> ((first | omega | ((try simp (disch := omega) only [k_bm64] at *); (try simp (disch := omega) only [k_bm] at *); (try simp (disch := omega) only [k_bm] at *); omega) | (simp only [Int.bmod] at *; omega))))))
theorem lf_j_worth_X2_6 (a0 : Int32) (a1 : Int32) (h0 : ¬ a0 = 0) (h1 : a0 = 1) (h2 : ¬ a1 < 48) (h3 : ¬ 57 < a1) : (a1 - 48 : Int32) = wG a0 a1 := by
  ((try unfold wG); (try unfold wS); (try unfold wFig)) <;> ((repeat' split) <;> first | rfl | contradiction | assumption | (exfalso; (first | rfl | assumption | decide | omega | (have hr0 := Int32.toInt_lt a0; have hs0 := Int32.le_toInt a0; have hr1 := Int32.toInt_lt a1; have hs1 := Int32.le_toInt a1; simp only [Int64.toInt_add, Int64.toInt_sub, Int32.toInt_add, Int32.toInt_sub, Int32.toInt_mul, Int64.le_iff_toInt_le, Int64.lt_iff_toInt_lt, Int32.le_iff_toInt_le, Int32.lt_iff_toInt_lt, ← Int32.toInt_inj, ← Int64.toInt_inj, Int32.toInt_toInt64, kc_m1, kc_0, kc_1, kc_2, kc_3, kc_4, kc_5, kc_6, kc_7, kc_8, kc_10, kc_48, kc_49, kc_57, kc_59, kc_97, kc_100, kc_102, kc_105, kc_111, kc_112, kc_115, kc_116, kc_119, true_and, and_true, not_true_eq_false, not_false_eq_true] at * <;> ((first | omega | ((try simp (disch := omega) only [k_bm64] at *); (try simp (disch := omega) only [k_bm] at *); (try simp (disch := omega) only [k_bm] at *); omega) | (simp only [Int.bmod] at *; omega)))))) | (first | rfl | assumption | decide | omega | (have hr0 := Int32.toInt_lt a0; have hs0 := Int32.le_toInt a0; have hr1 := Int32.toInt_lt a1; have hs1 := Int32.le_toInt a1; simp only [Int64.toInt_add, Int64.toInt_sub, Int32.toInt_add, Int32.toInt_sub, Int32.toInt_mul, Int64.le_iff_toInt_le, Int64.lt_iff_toInt_lt, Int32.le_iff_toInt_le, Int32.lt_iff_toInt_lt, ← Int32.toInt_inj, ← Int64.toInt_inj, Int32.toInt_toInt64, kc_m1, kc_0, kc_1, kc_2, kc_3, kc_4, kc_5, kc_6, kc_7, kc_8, kc_10, kc_48, kc_49, kc_57, kc_59, kc_97, kc_100, kc_102, kc_105, kc_111, kc_112, kc_115, kc_116, kc_119, true_and, and_true, not_true_eq_false, not_false_eq_true] at * <;> ((first | omega | ((try simp (disch := omega) only [k_bm64] at *); (try simp (disch := omega) only [k_bm] at *); (try simp (disch := omega) only [k_bm] at *); omega) | (simp only [Int.bmod] at *; omega))))))
theorem lf_j_worth_X2_7 (a0 : Int32) (a1 : Int32) (h0 : ¬ a0 = 0) (h1 : ¬ a0 = 1) (h2 : ¬ a1 = 59) : ((-1) : Int32) = wG a0 a1 := by
  ((try unfold wG); (try unfold wS); (try unfold wFig)) <;> ((repeat' split) <;> first | rfl | contradiction | assumption | (exfalso; (first | rfl | assumption | decide | omega | (have hr0 := Int32.toInt_lt a0; have hs0 := Int32.le_toInt a0; have hr1 := Int32.toInt_lt a1; have hs1 := Int32.le_toInt a1; simp only [Int64.toInt_add, Int64.toInt_sub, Int32.toInt_add, Int32.toInt_sub, Int32.toInt_mul, Int64.le_iff_toInt_le, Int64.lt_iff_toInt_lt, Int32.le_iff_toInt_le, Int32.lt_iff_toInt_lt, ← Int32.toInt_inj, ← Int64.toInt_inj, Int32.toInt_toInt64, kc_m1, kc_0, kc_1, kc_2, kc_3, kc_4, kc_5, kc_6, kc_7, kc_8, kc_10, kc_48, kc_49, kc_57, kc_59, kc_97, kc_100, kc_102, kc_105, kc_111, kc_112, kc_115, kc_116, kc_119, true_and, and_true, not_true_eq_false, not_false_eq_true] at * <;> ((first | omega | ((try simp (disch := omega) only [k_bm64] at *); (try simp (disch := omega) only [k_bm] at *); (try simp (disch := omega) only [k_bm] at *); omega) | (simp only [Int.bmod] at *; omega)))))) | (first | rfl | assumption | decide | omega | (have hr0 := Int32.toInt_lt a0; have hs0 := Int32.le_toInt a0; have hr1 := Int32.toInt_lt a1; have hs1 := Int32.le_toInt a1; simp only [Int64.toInt_add, Int64.toInt_sub, Int32.toInt_add, Int32.toInt_sub, Int32.toInt_mul, Int64.le_iff_toInt_le, Int64.lt_iff_toInt_lt, Int32.le_iff_toInt_le, Int32.lt_iff_toInt_lt, ← Int32.toInt_inj, ← Int64.toInt_inj, Int32.toInt_toInt64, kc_m1, kc_0, kc_1, kc_2, kc_3, kc_4, kc_5, kc_6, kc_7, kc_8, kc_10, kc_48, kc_49, kc_57, kc_59, kc_97, kc_100, kc_102, kc_105, kc_111, kc_112, kc_115, kc_116, kc_119, true_and, and_true, not_true_eq_false, not_false_eq_true] at * <;> ((first | omega | ((try simp (disch := omega) only [k_bm64] at *); (try simp (disch := omega) only [k_bm] at *); (try simp (disch := omega) only [k_bm] at *); omega) | (simp only [Int.bmod] at *; omega))))))
theorem lf_j_worth_X2_8 (a0 : Int32) (a1 : Int32) (h0 : ¬ a0 = 0) (h1 : ¬ a0 = 1) (h2 : a1 = 59) : (0 : Int32) = wG a0 a1 := by
  ((try unfold wG); (try unfold wS); (try unfold wFig)) <;> ((repeat' split) <;> first | rfl | contradiction | assumption | (exfalso; (first | rfl | assumption | decide | omega | (have hr0 := Int32.toInt_lt a0; have hs0 := Int32.le_toInt a0; have hr1 := Int32.toInt_lt a1; have hs1 := Int32.le_toInt a1; simp only [Int64.toInt_add, Int64.toInt_sub, Int32.toInt_add, Int32.toInt_sub, Int32.toInt_mul, Int64.le_iff_toInt_le, Int64.lt_iff_toInt_lt, Int32.le_iff_toInt_le, Int32.lt_iff_toInt_lt, ← Int32.toInt_inj, ← Int64.toInt_inj, Int32.toInt_toInt64, kc_m1, kc_0, kc_1, kc_2, kc_3, kc_4, kc_5, kc_6, kc_7, kc_8, kc_10, kc_48, kc_49, kc_57, kc_59, kc_97, kc_100, kc_102, kc_105, kc_111, kc_112, kc_115, kc_116, kc_119, true_and, and_true, not_true_eq_false, not_false_eq_true] at * <;> ((first | omega | ((try simp (disch := omega) only [k_bm64] at *); (try simp (disch := omega) only [k_bm] at *); (try simp (disch := omega) only [k_bm] at *); omega) | (simp only [Int.bmod] at *; omega)))))) | (first | rfl | assumption | decide | omega | (have hr0 := Int32.toInt_lt a0; have hs0 := Int32.le_toInt a0; have hr1 := Int32.toInt_lt a1; have hs1 := Int32.le_toInt a1; simp only [Int64.toInt_add, Int64.toInt_sub, Int32.toInt_add, Int32.toInt_sub, Int32.toInt_mul, Int64.le_iff_toInt_le, Int64.lt_iff_toInt_lt, Int32.le_iff_toInt_le, Int32.lt_iff_toInt_lt, ← Int32.toInt_inj, ← Int64.toInt_inj, Int32.toInt_toInt64, kc_m1, kc_0, kc_1, kc_2, kc_3, kc_4, kc_5, kc_6, kc_7, kc_8, kc_10, kc_48, kc_49, kc_57, kc_59, kc_97, kc_100, kc_102, kc_105, kc_111, kc_112, kc_115, kc_116, kc_119, true_and, and_true, not_true_eq_false, not_false_eq_true] at * <;> ((first | omega | ((try simp (disch := omega) only [k_bm64] at *); (try simp (disch := omega) only [k_bm] at *); (try simp (disch := omega) only [k_bm] at *); omega) | (simp only [Int.bmod] at *; omega))))))
set_option maxHeartbeats 4000000 in
set_option maxRecDepth 100000 in
theorem j_worth_X2 (l : Launch) (dC : Nat → ClassId) (dI : Nat → Nat → Nat) (cI cJ cQ : ClassId) (sz : Nat) (ah : Nat) (pl : Int32) (b1 : Int32) (av : Nat) (ln : Int32) (fa : Int32) (nu : Int32) (hh0 : 0 ≤ pl) : Met l yX2_worth (kW yX2_worth cX2_worth 3 (some .int)) { frames := 0, cells := 0, slots := 0, locals := 0 } (kPre dC dI cI cJ cQ sz [.ref ah, .int pl, .int b1] [(kX2 ah av ln fa nu)]) (va_Qi (fun (r : Int32) (u : Unit) => (r = wG (pl - pl / 3 * 3) b1)) (fun (u : Unit) t₀ => kB dC dI cI cJ cQ (va_A [(kX2 ah av ln fa nu)] sz) [(kX2 ah av ln fa nu)] t₀) (va_A [(kX2 ah av ln fa nu)] sz)) 0 0 (va_A [(kX2 ah av ln fa nu)] sz) := by
  refine Met.ofW (cc := cX2_worth) (maxL := 3) (ret := (some .int)) (by decide) rfl ?_
  intro p₀ e₀ s₀ m₀ args below meth c₀ s₁ B hml hv₀
  obtain ⟨rfl, hsz, hP, hK, hD0, hN⟩ := hv₀
  have hx₀ := B.exec
  have hb := B.bytes
  have hr := B.returns
  have hts := atoms_spec (ws := (kW yX2_worth cX2_worth 3 (some .int))) B.pre
  have hts := fun w h => hts w (List.mem_cons_of_mem _ h)
  have hown : s₀.vm.findClass RX2 = some m₀.cls := findClass_of_methodNamed B.named
  have hlocks := B.notSynchronized
  subst hsz
  have hD := hD0.self (sz := s₀.heap.size)
  generalize hAe : va_A [(kX2 ah av ln fa nu)] s₀.heap.size = A at hD ⊢
  have hA : ∀ q : Nat, s₀.heap.size ≤ q → A q := fun q h => by rw [← hAe]; exact Or.inr h
  have hS : va_S A s₀.heap s₀.heap [] := va_S.rf
  have hP : va_P (dC, dI) vwCl [(kX2 ah av ln fa nu)] s₀.heap := hP
  have hl := lv_entry ([.ref ah, .int pl, .int b1]) (n := 3) (Nat.le_of_ble_eq_true rfl)
  rw [lg_entry_eq]
  generalize (lg_sl ([.ref ah, .int pl, .int b1]) ++ List.replicate (3 - (lg_sl ([.ref ah, .int pl, .int b1])).length) Slot.unset).toArray = ls at hl ⊢
  have hl : lv_has ls 3 [(0, .ref ah), (1, .int pl), (2, .int b1)] := hl
  obtain ⟨H, hH⟩ : ∃ z : Heap, z = s₀.heap := ⟨_, rfl⟩
  rw [← hH] at hP
  have hS : va_S A s₀.heap H [] := by rw [hH]; exact hS
  refine k_heap hH ?_
  have hD : va_D A [(kX2 ah av ln fa nu)] := hD
  obtain ⟨locs, hlo⟩ : ∃ z : List Loc, z = [] := ⟨_, rfl⟩
  rw [← hlo] at hS ⊢
  clear hlo hH hAe hD0
  refine lv_iload_n hx₀ hb dX2_worth_0 rfl (lv_at hl 1 rfl) ?_
  refine lv_iconst (v := 3) hx₀ hb dX2_worth_1 (by decide +kernel) ?_
  refine lv_irem hx₀ hb dX2_worth_2 (by decide +kernel) ?_
  by_cases c_1 : (pl - pl / 3 * 3) = 0
  · refine k_topi (v := 0) c_1 ?_
    refine lv_lookup (off := 25) (tgt := 28) hx₀ hb dX2_worth_3 (by decide +kernel) (by decide +kernel) (by decide) ?_
    refine lv_iload_n hx₀ hb dX2_worth_28 rfl (lv_at hl 2 rfl) ?_
    refine lv_bipush (v := 49) hx₀ hb dX2_worth_29 (by decide +kernel) ?_
    refine lv_icmp_lt (tgt := 47) hx₀ hb dX2_worth_31 (by decide) (fun c_2 => ?_) (fun c_2 => ?_)
    · refine lv_iconst (v := (-1)) hx₀ hb dX2_worth_47 (by decide +kernel) ?_
      obtain ⟨hP9, hD9⟩ := k_c2 (wc := [(kX2 ah av ln fa nu)]) hP hD [0] (by decide +kernel) rfl
      exact W.iret (v := (-1)) hx₀ hb hr (fun t₀ ht hW => ⟨⟨(-1), (), rfl, (lf_j_worth_X2_1 (pl - pl / 3 * 3) b1 c_1 c_2), by rw [ht]; exact hP9, va_K.moved hW.alike hK, hD9⟩, hS.F ht⟩) hS.2.2 dX2_worth_48
    · refine lv_iload_n hx₀ hb dX2_worth_34 rfl (lv_at hl 2 rfl) ?_
      refine lv_bipush (v := 57) hx₀ hb dX2_worth_35 (by decide +kernel) ?_
      refine lv_icmp_gt (tgt := 47) hx₀ hb dX2_worth_37 (by decide) (fun c_3 => ?_) (fun c_3 => ?_)
      · refine lv_iconst (v := (-1)) hx₀ hb dX2_worth_47 (by decide +kernel) ?_
        obtain ⟨hP9, hD9⟩ := k_c2 (wc := [(kX2 ah av ln fa nu)]) hP hD [0] (by decide +kernel) rfl
        exact W.iret (v := (-1)) hx₀ hb hr (fun t₀ ht hW => ⟨⟨(-1), (), rfl, (lf_j_worth_X2_2 (pl - pl / 3 * 3) b1 c_1 c_2 c_3), by rw [ht]; exact hP9, va_K.moved hW.alike hK, hD9⟩, hS.F ht⟩) hS.2.2 dX2_worth_48
      · refine lv_iload_n hx₀ hb dX2_worth_40 rfl (lv_at hl 2 rfl) ?_
        refine lv_bipush (v := 48) hx₀ hb dX2_worth_41 (by decide +kernel) ?_
        refine lv_isub hx₀ hb dX2_worth_43 ?_
        refine lv_goto (tgt := 48) hx₀ hb dX2_worth_44 (by decide) ?_
        obtain ⟨hP9, hD9⟩ := k_c2 (wc := [(kX2 ah av ln fa nu)]) hP hD [0] (by decide +kernel) rfl
        exact W.iret (v := b1 - 48) hx₀ hb hr (fun t₀ ht hW => ⟨⟨b1 - 48, (), rfl, (lf_j_worth_X2_3 (pl - pl / 3 * 3) b1 c_1 c_2 c_3), by rw [ht]; exact hP9, va_K.moved hW.alike hK, hD9⟩, hS.F ht⟩) hS.2.2 dX2_worth_48
  by_cases c_4 : (pl - pl / 3 * 3) = 1
  · refine k_topi (v := 1) c_4 ?_
    refine lv_lookup (off := 46) (tgt := 49) hx₀ hb dX2_worth_3 (by decide +kernel) (by decide +kernel) (by decide) ?_
    refine lv_iload_n hx₀ hb dX2_worth_49 rfl (lv_at hl 2 rfl) ?_
    refine lv_bipush (v := 48) hx₀ hb dX2_worth_50 (by decide +kernel) ?_
    refine lv_icmp_lt (tgt := 68) hx₀ hb dX2_worth_52 (by decide) (fun c_5 => ?_) (fun c_5 => ?_)
    · refine lv_iconst (v := (-1)) hx₀ hb dX2_worth_68 (by decide +kernel) ?_
      obtain ⟨hP9, hD9⟩ := k_c2 (wc := [(kX2 ah av ln fa nu)]) hP hD [0] (by decide +kernel) rfl
      exact W.iret (v := (-1)) hx₀ hb hr (fun t₀ ht hW => ⟨⟨(-1), (), rfl, (lf_j_worth_X2_4 (pl - pl / 3 * 3) b1 c_1 c_4 c_5), by rw [ht]; exact hP9, va_K.moved hW.alike hK, hD9⟩, hS.F ht⟩) hS.2.2 dX2_worth_69
    · refine lv_iload_n hx₀ hb dX2_worth_55 rfl (lv_at hl 2 rfl) ?_
      refine lv_bipush (v := 57) hx₀ hb dX2_worth_56 (by decide +kernel) ?_
      refine lv_icmp_gt (tgt := 68) hx₀ hb dX2_worth_58 (by decide) (fun c_6 => ?_) (fun c_6 => ?_)
      · refine lv_iconst (v := (-1)) hx₀ hb dX2_worth_68 (by decide +kernel) ?_
        obtain ⟨hP9, hD9⟩ := k_c2 (wc := [(kX2 ah av ln fa nu)]) hP hD [0] (by decide +kernel) rfl
        exact W.iret (v := (-1)) hx₀ hb hr (fun t₀ ht hW => ⟨⟨(-1), (), rfl, (lf_j_worth_X2_5 (pl - pl / 3 * 3) b1 c_1 c_4 c_5 c_6), by rw [ht]; exact hP9, va_K.moved hW.alike hK, hD9⟩, hS.F ht⟩) hS.2.2 dX2_worth_69
      · refine lv_iload_n hx₀ hb dX2_worth_61 rfl (lv_at hl 2 rfl) ?_
        refine lv_bipush (v := 48) hx₀ hb dX2_worth_62 (by decide +kernel) ?_
        refine lv_isub hx₀ hb dX2_worth_64 ?_
        refine lv_goto (tgt := 69) hx₀ hb dX2_worth_65 (by decide) ?_
        obtain ⟨hP9, hD9⟩ := k_c2 (wc := [(kX2 ah av ln fa nu)]) hP hD [0] (by decide +kernel) rfl
        exact W.iret (v := b1 - 48) hx₀ hb hr (fun t₀ ht hW => ⟨⟨b1 - 48, (), rfl, (lf_j_worth_X2_6 (pl - pl / 3 * 3) b1 c_1 c_4 c_5 c_6), by rw [ht]; exact hP9, va_K.moved hW.alike hK, hD9⟩, hS.F ht⟩) hS.2.2 dX2_worth_69
  refine lv_lookup (off := 67) (tgt := 70) hx₀ hb dX2_worth_3 (by decide +kernel) ((lv_osw c_1 rfl).trans ((lv_osw c_4 rfl).trans rfl)) (by decide) ?_
  refine lv_iload_n hx₀ hb dX2_worth_70 rfl (lv_at hl 2 rfl) ?_
  refine lv_bipush (v := 59) hx₀ hb dX2_worth_71 (by decide +kernel) ?_
  refine lv_icmp_ne (tgt := 80) hx₀ hb dX2_worth_73 (by decide) (fun c_7 => ?_) (fun c_7 => ?_)
  · refine lv_iconst (v := (-1)) hx₀ hb dX2_worth_80 (by decide +kernel) ?_
    obtain ⟨hP9, hD9⟩ := k_c2 (wc := [(kX2 ah av ln fa nu)]) hP hD [0] (by decide +kernel) rfl
    exact W.iret (v := (-1)) hx₀ hb hr (fun t₀ ht hW => ⟨⟨(-1), (), rfl, (lf_j_worth_X2_7 (pl - pl / 3 * 3) b1 c_1 c_4 c_7), by rw [ht]; exact hP9, va_K.moved hW.alike hK, hD9⟩, hS.F ht⟩) hS.2.2 dX2_worth_81
  · refine lv_iconst (v := 0) hx₀ hb dX2_worth_76 (by decide +kernel) ?_
    refine lv_goto (tgt := 81) hx₀ hb dX2_worth_77 (by decide) ?_
    obtain ⟨hP9, hD9⟩ := k_c2 (wc := [(kX2 ah av ln fa nu)]) hP hD [0] (by decide +kernel) rfl
    exact W.iret (v := 0) hx₀ hb hr (fun t₀ ht hW => ⟨⟨0, (), rfl, (lf_j_worth_X2_8 (pl - pl / 3 * 3) b1 c_1 c_4 c_7), by rw [ht]; exact hP9, va_K.moved hW.alike hK, hD9⟩, hS.F ht⟩) hS.2.2 dX2_worth_81
theorem lf_j_things_X2_1 (a0 : Int32) (h0 : 0 ≤ a0) (h1 : ¬ a0 = 0) (h2 : ¬ (a0 - a0 / 3 * 3) = 2) : ((-1) : Int32) = kTh2 a0 := by
  ((try unfold kTh2)) <;> ((repeat' split) <;> first | rfl | contradiction | assumption | (exfalso; (first | rfl | assumption | decide | omega | (have hr0 := Int32.toInt_lt a0; have hs0 := Int32.le_toInt a0; have hd0 : (0 : Int) ≤ a0.toInt := (by first | omega | (simp only [Int64.toInt_add, Int64.toInt_sub, Int32.toInt_add, Int32.toInt_sub, Int32.toInt_mul, Int64.le_iff_toInt_le, Int64.lt_iff_toInt_lt, Int32.le_iff_toInt_le, Int32.lt_iff_toInt_lt, ← Int32.toInt_inj, ← Int64.toInt_inj, Int32.toInt_toInt64, kc_m1, kc_0, kc_1, kc_2, kc_3, kc_4, kc_5, kc_6, kc_7, kc_8, kc_10, kc_48, kc_49, kc_57, kc_59, kc_97, kc_100, kc_102, kc_105, kc_111, kc_112, kc_115, kc_116, kc_119] at *; omega)); have he0 := Int.tdiv_eq_ediv_of_nonneg (b := 3) hd0; simp only [Int64.toInt_add, Int64.toInt_sub, Int32.toInt_add, Int32.toInt_sub, Int32.toInt_mul, Int64.le_iff_toInt_le, Int64.lt_iff_toInt_lt, Int32.le_iff_toInt_le, Int32.lt_iff_toInt_lt, ← Int32.toInt_inj, ← Int64.toInt_inj, Int32.toInt_toInt64, Int32.toInt_div, kc_m1, kc_0, kc_1, kc_2, kc_3, kc_4, kc_5, kc_6, kc_7, kc_8, kc_10, kc_48, kc_49, kc_57, kc_59, kc_97, kc_100, kc_102, kc_105, kc_111, kc_112, kc_115, kc_116, kc_119, true_and, and_true, not_true_eq_false, not_false_eq_true] at * <;> (simp only [he0] at *; (first | omega | ((try simp (disch := omega) only [k_bm64] at *); (try simp (disch := omega) only [k_bm] at *); (try simp (disch := omega) only [k_bm] at *); omega) | (simp only [Int.bmod] at *; omega)))))) | (first | rfl | assumption | decide | omega | (have hr0 := Int32.toInt_lt a0; have hs0 := Int32.le_toInt a0; have hd0 : (0 : Int) ≤ a0.toInt := (by first | omega | (simp only [Int64.toInt_add, Int64.toInt_sub, Int32.toInt_add, Int32.toInt_sub, Int32.toInt_mul, Int64.le_iff_toInt_le, Int64.lt_iff_toInt_lt, Int32.le_iff_toInt_le, Int32.lt_iff_toInt_lt, ← Int32.toInt_inj, ← Int64.toInt_inj, Int32.toInt_toInt64, kc_m1, kc_0, kc_1, kc_2, kc_3, kc_4, kc_5, kc_6, kc_7, kc_8, kc_10, kc_48, kc_49, kc_57, kc_59, kc_97, kc_100, kc_102, kc_105, kc_111, kc_112, kc_115, kc_116, kc_119] at *; omega)); have he0 := Int.tdiv_eq_ediv_of_nonneg (b := 3) hd0; simp only [Int64.toInt_add, Int64.toInt_sub, Int32.toInt_add, Int32.toInt_sub, Int32.toInt_mul, Int64.le_iff_toInt_le, Int64.lt_iff_toInt_lt, Int32.le_iff_toInt_le, Int32.lt_iff_toInt_lt, ← Int32.toInt_inj, ← Int64.toInt_inj, Int32.toInt_toInt64, Int32.toInt_div, kc_m1, kc_0, kc_1, kc_2, kc_3, kc_4, kc_5, kc_6, kc_7, kc_8, kc_10, kc_48, kc_49, kc_57, kc_59, kc_97, kc_100, kc_102, kc_105, kc_111, kc_112, kc_115, kc_116, kc_119, true_and, and_true, not_true_eq_false, not_false_eq_true] at * <;> (simp only [he0] at *; (first | omega | ((try simp (disch := omega) only [k_bm64] at *); (try simp (disch := omega) only [k_bm] at *); (try simp (disch := omega) only [k_bm] at *); omega) | (simp only [Int.bmod] at *; omega))))))
theorem lf_j_things_X2_2 (a0 : Int32) (h0 : 0 ≤ a0) (h1 : ¬ a0 = 0) (h2 : (a0 - a0 / 3 * 3) = 2) : ((a0 + 1) / 3 : Int32) = kTh2 a0 := by
  ((try unfold kTh2)) <;> ((repeat' split) <;> first | rfl | contradiction | assumption | (exfalso; (first | rfl | assumption | decide | omega | (have hr0 := Int32.toInt_lt a0; have hs0 := Int32.le_toInt a0; have hd0 : (0 : Int) ≤ a0.toInt := (by first | omega | (simp only [Int64.toInt_add, Int64.toInt_sub, Int32.toInt_add, Int32.toInt_sub, Int32.toInt_mul, Int64.le_iff_toInt_le, Int64.lt_iff_toInt_lt, Int32.le_iff_toInt_le, Int32.lt_iff_toInt_lt, ← Int32.toInt_inj, ← Int64.toInt_inj, Int32.toInt_toInt64, kc_m1, kc_0, kc_1, kc_2, kc_3, kc_4, kc_5, kc_6, kc_7, kc_8, kc_10, kc_48, kc_49, kc_57, kc_59, kc_97, kc_100, kc_102, kc_105, kc_111, kc_112, kc_115, kc_116, kc_119] at *; omega)); have he0 := Int.tdiv_eq_ediv_of_nonneg (b := 3) hd0; simp only [Int64.toInt_add, Int64.toInt_sub, Int32.toInt_add, Int32.toInt_sub, Int32.toInt_mul, Int64.le_iff_toInt_le, Int64.lt_iff_toInt_lt, Int32.le_iff_toInt_le, Int32.lt_iff_toInt_lt, ← Int32.toInt_inj, ← Int64.toInt_inj, Int32.toInt_toInt64, Int32.toInt_div, kc_m1, kc_0, kc_1, kc_2, kc_3, kc_4, kc_5, kc_6, kc_7, kc_8, kc_10, kc_48, kc_49, kc_57, kc_59, kc_97, kc_100, kc_102, kc_105, kc_111, kc_112, kc_115, kc_116, kc_119, true_and, and_true, not_true_eq_false, not_false_eq_true] at * <;> (simp only [he0] at *; (first | omega | ((try simp (disch := omega) only [k_bm64] at *); (try simp (disch := omega) only [k_bm] at *); (try simp (disch := omega) only [k_bm] at *); omega) | (simp only [Int.bmod] at *; omega)))))) | (first | rfl | assumption | decide | omega | (have hr0 := Int32.toInt_lt a0; have hs0 := Int32.le_toInt a0; have hd0 : (0 : Int) ≤ a0.toInt := (by first | omega | (simp only [Int64.toInt_add, Int64.toInt_sub, Int32.toInt_add, Int32.toInt_sub, Int32.toInt_mul, Int64.le_iff_toInt_le, Int64.lt_iff_toInt_lt, Int32.le_iff_toInt_le, Int32.lt_iff_toInt_lt, ← Int32.toInt_inj, ← Int64.toInt_inj, Int32.toInt_toInt64, kc_m1, kc_0, kc_1, kc_2, kc_3, kc_4, kc_5, kc_6, kc_7, kc_8, kc_10, kc_48, kc_49, kc_57, kc_59, kc_97, kc_100, kc_102, kc_105, kc_111, kc_112, kc_115, kc_116, kc_119] at *; omega)); have he0 := Int.tdiv_eq_ediv_of_nonneg (b := 3) hd0; simp only [Int64.toInt_add, Int64.toInt_sub, Int32.toInt_add, Int32.toInt_sub, Int32.toInt_mul, Int64.le_iff_toInt_le, Int64.lt_iff_toInt_lt, Int32.le_iff_toInt_le, Int32.lt_iff_toInt_lt, ← Int32.toInt_inj, ← Int64.toInt_inj, Int32.toInt_toInt64, Int32.toInt_div, kc_m1, kc_0, kc_1, kc_2, kc_3, kc_4, kc_5, kc_6, kc_7, kc_8, kc_10, kc_48, kc_49, kc_57, kc_59, kc_97, kc_100, kc_102, kc_105, kc_111, kc_112, kc_115, kc_116, kc_119, true_and, and_true, not_true_eq_false, not_false_eq_true] at * <;> (simp only [he0] at *; (first | omega | ((try simp (disch := omega) only [k_bm64] at *); (try simp (disch := omega) only [k_bm] at *); (try simp (disch := omega) only [k_bm] at *); omega) | (simp only [Int.bmod] at *; omega))))))
theorem lf_j_things_X2_3 (a0 : Int32) (h0 : 0 ≤ a0) (h1 : a0 = 0) : (0 : Int32) = kTh2 a0 := by
  ((try unfold kTh2)) <;> ((repeat' split) <;> first | rfl | contradiction | assumption | (exfalso; (first | rfl | assumption | decide | omega | (have hr0 := Int32.toInt_lt a0; have hs0 := Int32.le_toInt a0; simp only [Int64.toInt_add, Int64.toInt_sub, Int32.toInt_add, Int32.toInt_sub, Int32.toInt_mul, Int64.le_iff_toInt_le, Int64.lt_iff_toInt_lt, Int32.le_iff_toInt_le, Int32.lt_iff_toInt_lt, ← Int32.toInt_inj, ← Int64.toInt_inj, Int32.toInt_toInt64, kc_m1, kc_0, kc_1, kc_2, kc_3, kc_4, kc_5, kc_6, kc_7, kc_8, kc_10, kc_48, kc_49, kc_57, kc_59, kc_97, kc_100, kc_102, kc_105, kc_111, kc_112, kc_115, kc_116, kc_119, true_and, and_true, not_true_eq_false, not_false_eq_true] at * <;> ((first | omega | ((try simp (disch := omega) only [k_bm64] at *); (try simp (disch := omega) only [k_bm] at *); (try simp (disch := omega) only [k_bm] at *); omega) | (simp only [Int.bmod] at *; omega)))))) | (first | rfl | assumption | decide | omega | (have hr0 := Int32.toInt_lt a0; have hs0 := Int32.le_toInt a0; simp only [Int64.toInt_add, Int64.toInt_sub, Int32.toInt_add, Int32.toInt_sub, Int32.toInt_mul, Int64.le_iff_toInt_le, Int64.lt_iff_toInt_lt, Int32.le_iff_toInt_le, Int32.lt_iff_toInt_lt, ← Int32.toInt_inj, ← Int64.toInt_inj, Int32.toInt_toInt64, kc_m1, kc_0, kc_1, kc_2, kc_3, kc_4, kc_5, kc_6, kc_7, kc_8, kc_10, kc_48, kc_49, kc_57, kc_59, kc_97, kc_100, kc_102, kc_105, kc_111, kc_112, kc_115, kc_116, kc_119, true_and, and_true, not_true_eq_false, not_false_eq_true] at * <;> ((first | omega | ((try simp (disch := omega) only [k_bm64] at *); (try simp (disch := omega) only [k_bm] at *); (try simp (disch := omega) only [k_bm] at *); omega) | (simp only [Int.bmod] at *; omega))))))
set_option maxHeartbeats 4000000 in
set_option maxRecDepth 100000 in
theorem j_things_X2 (l : Launch) (dC : Nat → ClassId) (dI : Nat → Nat → Nat) (cI cJ cQ : ClassId) (sz : Nat) (ah : Nat) (b1 : Int32) (av : Nat) (ln : Int32) (fa : Int32) (nu : Int32) (hh0 : 0 ≤ b1) : Met l yX2_thingsIn (kW yX2_thingsIn cX2_thingsIn 2 (some .int)) { frames := 0, cells := 0, slots := 0, locals := 0 } (kPre dC dI cI cJ cQ sz [.ref ah, .int b1] [(kX2 ah av ln fa nu)]) (va_Qi (fun (r : Int32) (u : Unit) => (r = kTh2 b1)) (fun (u : Unit) t₀ => kB dC dI cI cJ cQ (va_A [(kX2 ah av ln fa nu)] sz) [(kX2 ah av ln fa nu)] t₀) (va_A [(kX2 ah av ln fa nu)] sz)) 0 0 (va_A [(kX2 ah av ln fa nu)] sz) := by
  refine Met.ofW (cc := cX2_thingsIn) (maxL := 2) (ret := (some .int)) (by decide) rfl ?_
  intro p₀ e₀ s₀ m₀ args below meth c₀ s₁ B hml hv₀
  obtain ⟨rfl, hsz, hP, hK, hD0, hN⟩ := hv₀
  have hx₀ := B.exec
  have hb := B.bytes
  have hr := B.returns
  have hts := atoms_spec (ws := (kW yX2_thingsIn cX2_thingsIn 2 (some .int))) B.pre
  have hts := fun w h => hts w (List.mem_cons_of_mem _ h)
  have hown : s₀.vm.findClass RX2 = some m₀.cls := findClass_of_methodNamed B.named
  have hlocks := B.notSynchronized
  subst hsz
  have hD := hD0.self (sz := s₀.heap.size)
  generalize hAe : va_A [(kX2 ah av ln fa nu)] s₀.heap.size = A at hD ⊢
  have hA : ∀ q : Nat, s₀.heap.size ≤ q → A q := fun q h => by rw [← hAe]; exact Or.inr h
  have hS : va_S A s₀.heap s₀.heap [] := va_S.rf
  have hP : va_P (dC, dI) vwCl [(kX2 ah av ln fa nu)] s₀.heap := hP
  have hl := lv_entry ([.ref ah, .int b1]) (n := 2) (Nat.le_of_ble_eq_true rfl)
  rw [lg_entry_eq]
  generalize (lg_sl ([.ref ah, .int b1]) ++ List.replicate (2 - (lg_sl ([.ref ah, .int b1])).length) Slot.unset).toArray = ls at hl ⊢
  have hl : lv_has ls 2 [(0, .ref ah), (1, .int b1)] := hl
  obtain ⟨H, hH⟩ : ∃ z : Heap, z = s₀.heap := ⟨_, rfl⟩
  rw [← hH] at hP
  have hS : va_S A s₀.heap H [] := by rw [hH]; exact hS
  refine k_heap hH ?_
  have hD : va_D A [(kX2 ah av ln fa nu)] := hD
  obtain ⟨locs, hlo⟩ : ∃ z : List Loc, z = [] := ⟨_, rfl⟩
  rw [← hlo] at hS ⊢
  clear hlo hH hAe hD0
  refine lv_iload_n hx₀ hb dX2_thingsIn_0 rfl (lv_at hl 1 rfl) ?_
  refine lv_if_ne (tgt := 6) hx₀ hb dX2_thingsIn_1 (by decide) (fun c_1 => ?_) (fun c_1 => ?_)
  · refine lv_iload_n hx₀ hb dX2_thingsIn_6 rfl (lv_at hl 1 rfl) ?_
    refine lv_iconst (v := 3) hx₀ hb dX2_thingsIn_7 (by decide +kernel) ?_
    refine lv_irem hx₀ hb dX2_thingsIn_8 (by decide +kernel) ?_
    refine lv_iconst (v := 2) hx₀ hb dX2_thingsIn_9 (by decide +kernel) ?_
    refine lv_icmp_ne (tgt := 21) hx₀ hb dX2_thingsIn_10 (by decide) (fun c_2 => ?_) (fun c_2 => ?_)
    · refine lv_iconst (v := (-1)) hx₀ hb dX2_thingsIn_21 (by decide +kernel) ?_
      obtain ⟨hP9, hD9⟩ := k_c2 (wc := [(kX2 ah av ln fa nu)]) hP hD [0] (by decide +kernel) rfl
      exact W.iret (v := (-1)) hx₀ hb hr (fun t₀ ht hW => ⟨⟨(-1), (), rfl, (lf_j_things_X2_1 b1 hh0 c_1 c_2), by rw [ht]; exact hP9, va_K.moved hW.alike hK, hD9⟩, hS.F ht⟩) hS.2.2 dX2_thingsIn_22
    · refine lv_iload_n hx₀ hb dX2_thingsIn_13 rfl (lv_at hl 1 rfl) ?_
      refine lv_iconst (v := 1) hx₀ hb dX2_thingsIn_14 (by decide +kernel) ?_
      refine lv_iadd hx₀ hb dX2_thingsIn_15 ?_
      refine lv_iconst (v := 3) hx₀ hb dX2_thingsIn_16 (by decide +kernel) ?_
      refine lv_idiv hx₀ hb dX2_thingsIn_17 (by decide +kernel) ?_
      refine lv_goto (tgt := 22) hx₀ hb dX2_thingsIn_18 (by decide) ?_
      obtain ⟨hP9, hD9⟩ := k_c2 (wc := [(kX2 ah av ln fa nu)]) hP hD [0] (by decide +kernel) rfl
      exact W.iret (v := (b1 + 1) / 3) hx₀ hb hr (fun t₀ ht hW => ⟨⟨(b1 + 1) / 3, (), rfl, (lf_j_things_X2_2 b1 hh0 c_1 c_2), by rw [ht]; exact hP9, va_K.moved hW.alike hK, hD9⟩, hS.F ht⟩) hS.2.2 dX2_thingsIn_22
  · refine lv_iconst (v := 0) hx₀ hb dX2_thingsIn_4 (by decide +kernel) ?_
    obtain ⟨hP9, hD9⟩ := k_c2 (wc := [(kX2 ah av ln fa nu)]) hP hD [0] (by decide +kernel) rfl
    exact W.iret (v := 0) hx₀ hb hr (fun t₀ ht hW => ⟨⟨0, (), rfl, (lf_j_things_X2_3 b1 hh0 c_1), by rw [ht]; exact hP9, va_K.moved hW.alike hK, hD9⟩, hS.F ht⟩) hS.2.2 dX2_thingsIn_5
