set_option maxHeartbeats 4000000 in
set_option maxRecDepth 100000 in
theorem j_kind (l : Launch) (dC : Nat → ClassId) (dI : Nat → Nat → Nat) (cI cJ cQ : ClassId) (sz : Nat) (b1 : Int32) : Met l yX7_kind (kW yX7_kind cX7_kind 1 (some .int)) { frames := 0, cells := 0, slots := 0, locals := 0 } (kPre dC dI cI cJ cQ sz [.int b1] []) (va_Qi (fun (r : Int32) (u : Unit) => True) (fun (u : Unit) t₀ => kB dC dI cI cJ cQ (va_A [] sz) [] t₀) (va_A [] sz)) 0 0 (va_A [] sz) := by
  refine Met.ofW (cc := cX7_kind) (maxL := 1) (ret := (some .int)) (by decide) rfl ?_
  intro p₀ e₀ s₀ m₀ args below meth c₀ s₁ B hml hv₀
  obtain ⟨rfl, hsz, hP, hK, hD0, hN⟩ := hv₀
  have hx₀ := B.exec
  have hb := B.bytes
  have hr := B.returns
  have hts := atoms_spec (ws := (kW yX7_kind cX7_kind 1 (some .int))) B.pre
  have hts := fun w h => hts w (List.mem_cons_of_mem _ h)
  have hown : s₀.vm.findClass RX7 = some m₀.cls := findClass_of_methodNamed B.named
  have hlocks := B.notSynchronized
  subst hsz
  have hD := hD0.self (sz := s₀.heap.size)
  generalize hAe : va_A [] s₀.heap.size = A at hD ⊢
  have hA : ∀ q : Nat, s₀.heap.size ≤ q → A q := fun q h => by rw [← hAe]; exact Or.inr h
  have hS : va_S A s₀.heap s₀.heap [] := va_S.rf
  have hP : va_P (dC, dI) vwCl [] s₀.heap := hP
  have hl := lv_entry ([.int b1]) (n := 1) (Nat.le_of_ble_eq_true rfl)
  rw [lg_entry_eq]
  generalize (lg_sl ([.int b1]) ++ List.replicate (1 - (lg_sl ([.int b1])).length) Slot.unset).toArray = ls at hl ⊢
  have hl : lv_has ls 1 [(0, .int b1)] := hl
  obtain ⟨H, hH⟩ : ∃ z : Heap, z = s₀.heap := ⟨_, rfl⟩
  rw [← hH] at hP
  have hS : va_S A s₀.heap H [] := by rw [hH]; exact hS
  refine k_heap hH ?_
  have hD : va_D A [] := hD
  obtain ⟨locs, hlo⟩ : ∃ z : List Loc, z = [] := ⟨_, rfl⟩
  rw [← hlo] at hS ⊢
  clear hlo hH hAe hD0
  refine lv_iload_n hx₀ hb dX7_kind_0 rfl (lv_at hl 0 rfl) ?_
  by_cases c_1 : b1 = 100
  · refine k_topi (v := 100) c_1 ?_
    refine lv_lookup (off := 45) (tgt := 46) hx₀ hb dX7_kind_1 (by decide +kernel) (by decide +kernel) (by decide) ?_
    refine lv_iconst (v := 1) hx₀ hb dX7_kind_46 (by decide +kernel) ?_
    have hP9 := hP.sub (ws' := []) [] rfl
    have hD9 := hD.sub (ws' := []) [] (by decide) rfl
    exact W.iret (v := 1) hx₀ hb hr (fun t₀ ht hW => ⟨⟨1, (), rfl, trivial, by rw [ht]; exact hP9, va_K.moved hW.alike hK, hD9⟩, hS.F ht⟩) hS.2.2 dX7_kind_47
  by_cases c_2 : b1 = 112
  · refine k_topi (v := 112) c_2 ?_
    refine lv_lookup (off := 47) (tgt := 48) hx₀ hb dX7_kind_1 (by decide +kernel) (by decide +kernel) (by decide) ?_
    refine lv_iconst (v := 2) hx₀ hb dX7_kind_48 (by decide +kernel) ?_
    have hP9 := hP.sub (ws' := []) [] rfl
    have hD9 := hD.sub (ws' := []) [] (by decide) rfl
    exact W.iret (v := 2) hx₀ hb hr (fun t₀ ht hW => ⟨⟨2, (), rfl, trivial, by rw [ht]; exact hP9, va_K.moved hW.alike hK, hD9⟩, hS.F ht⟩) hS.2.2 dX7_kind_49
  by_cases c_3 : b1 = 115
  · refine k_topi (v := 115) c_3 ?_
    refine lv_lookup (off := 49) (tgt := 50) hx₀ hb dX7_kind_1 (by decide +kernel) (by decide +kernel) (by decide) ?_
    refine lv_iconst (v := 3) hx₀ hb dX7_kind_50 (by decide +kernel) ?_
    have hP9 := hP.sub (ws' := []) [] rfl
    have hD9 := hD.sub (ws' := []) [] (by decide) rfl
    exact W.iret (v := 3) hx₀ hb hr (fun t₀ ht hW => ⟨⟨3, (), rfl, trivial, by rw [ht]; exact hP9, va_K.moved hW.alike hK, hD9⟩, hS.F ht⟩) hS.2.2 dX7_kind_51
  by_cases c_4 : b1 = 116
  · refine k_topi (v := 116) c_4 ?_
    refine lv_lookup (off := 43) (tgt := 44) hx₀ hb dX7_kind_1 (by decide +kernel) (by decide +kernel) (by decide) ?_
    refine lv_iconst (v := 0) hx₀ hb dX7_kind_44 (by decide +kernel) ?_
    have hP9 := hP.sub (ws' := []) [] rfl
    have hD9 := hD.sub (ws' := []) [] (by decide) rfl
    exact W.iret (v := 0) hx₀ hb hr (fun t₀ ht hW => ⟨⟨0, (), rfl, trivial, by rw [ht]; exact hP9, va_K.moved hW.alike hK, hD9⟩, hS.F ht⟩) hS.2.2 dX7_kind_45
  refine lv_lookup (off := 51) (tgt := 52) hx₀ hb dX7_kind_1 (by decide +kernel) ((lv_osw c_1 rfl).trans ((lv_osw c_2 rfl).trans ((lv_osw c_3 rfl).trans ((lv_osw c_4 rfl).trans rfl)))) (by decide) ?_
  refine lv_iconst (v := (-1)) hx₀ hb dX7_kind_52 (by decide +kernel) ?_
  have hP9 := hP.sub (ws' := []) [] rfl
  have hD9 := hD.sub (ws' := []) [] (by decide) rfl
  exact W.iret (v := (-1)) hx₀ hb hr (fun t₀ ht hW => ⟨⟨(-1), (), rfl, trivial, by rw [ht]; exact hP9, va_K.moved hW.alike hK, hD9⟩, hS.F ht⟩) hS.2.2 dX7_kind_53
theorem lf_j_isFull_X4_1 (ln : Int32) (c_1 : ln < 24) : (0 : Int32) = if 24 ≤ ln then 1 else 0 := by
  (repeat' split) <;> first | rfl | contradiction | assumption | (exfalso; (first | rfl | assumption | decide | omega | (have hr0 := Int32.toInt_lt ln; have hs0 := Int32.le_toInt ln; simp only [Int64.toInt_add, Int64.toInt_sub, Int32.toInt_add, Int32.toInt_sub, Int32.toInt_mul, Int32.toInt_neg, Int64.le_iff_toInt_le, Int64.lt_iff_toInt_lt, Int32.le_iff_toInt_le, Int32.lt_iff_toInt_lt, ← Int32.toInt_inj, ← Int64.toInt_inj, Int32.toInt_toInt64, (show (0 : Int32).toInt = 0 from by decide), (show (0 : Int64).toInt = 0 from by decide), (show (1 : Int32).toInt = 1 from by decide), (show (1 : Int64).toInt = 1 from by decide), (show (24 : Int32).toInt = 24 from by decide), (show (24 : Int64).toInt = 24 from by decide), true_and, and_true, not_true_eq_false, not_false_eq_true] at * <;> ((first | omega | ((try simp (disch := omega) only [k_bm64] at *); (try simp (disch := omega) only [k_bm] at *); (try simp (disch := omega) only [k_bm] at *); omega) | (simp only [Int.bmod] at *; omega)))))) | (first | rfl | assumption | decide | omega | (have hr0 := Int32.toInt_lt ln; have hs0 := Int32.le_toInt ln; simp only [Int64.toInt_add, Int64.toInt_sub, Int32.toInt_add, Int32.toInt_sub, Int32.toInt_mul, Int32.toInt_neg, Int64.le_iff_toInt_le, Int64.lt_iff_toInt_lt, Int32.le_iff_toInt_le, Int32.lt_iff_toInt_lt, ← Int32.toInt_inj, ← Int64.toInt_inj, Int32.toInt_toInt64, (show (0 : Int32).toInt = 0 from by decide), (show (0 : Int64).toInt = 0 from by decide), (show (1 : Int32).toInt = 1 from by decide), (show (1 : Int64).toInt = 1 from by decide), (show (24 : Int32).toInt = 24 from by decide), (show (24 : Int64).toInt = 24 from by decide), true_and, and_true, not_true_eq_false, not_false_eq_true] at * <;> ((first | omega | ((try simp (disch := omega) only [k_bm64] at *); (try simp (disch := omega) only [k_bm] at *); (try simp (disch := omega) only [k_bm] at *); omega) | (simp only [Int.bmod] at *; omega)))))
theorem lf_j_isFull_X4_2 (ln : Int32) (c_1 : ¬ ln < 24) : (1 : Int32) = if 24 ≤ ln then 1 else 0 := by
  (repeat' split) <;> first | rfl | contradiction | assumption | (exfalso; (first | rfl | assumption | decide | omega | (have hr0 := Int32.toInt_lt ln; have hs0 := Int32.le_toInt ln; simp only [Int64.toInt_add, Int64.toInt_sub, Int32.toInt_add, Int32.toInt_sub, Int32.toInt_mul, Int32.toInt_neg, Int64.le_iff_toInt_le, Int64.lt_iff_toInt_lt, Int32.le_iff_toInt_le, Int32.lt_iff_toInt_lt, ← Int32.toInt_inj, ← Int64.toInt_inj, Int32.toInt_toInt64, (show (0 : Int32).toInt = 0 from by decide), (show (0 : Int64).toInt = 0 from by decide), (show (1 : Int32).toInt = 1 from by decide), (show (1 : Int64).toInt = 1 from by decide), (show (24 : Int32).toInt = 24 from by decide), (show (24 : Int64).toInt = 24 from by decide), true_and, and_true, not_true_eq_false, not_false_eq_true] at * <;> ((first | omega | ((try simp (disch := omega) only [k_bm64] at *); (try simp (disch := omega) only [k_bm] at *); (try simp (disch := omega) only [k_bm] at *); omega) | (simp only [Int.bmod] at *; omega)))))) | (first | rfl | assumption | decide | omega | (have hr0 := Int32.toInt_lt ln; have hs0 := Int32.le_toInt ln; simp only [Int64.toInt_add, Int64.toInt_sub, Int32.toInt_add, Int32.toInt_sub, Int32.toInt_mul, Int32.toInt_neg, Int64.le_iff_toInt_le, Int64.lt_iff_toInt_lt, Int32.le_iff_toInt_le, Int32.lt_iff_toInt_lt, ← Int32.toInt_inj, ← Int64.toInt_inj, Int32.toInt_toInt64, (show (0 : Int32).toInt = 0 from by decide), (show (0 : Int64).toInt = 0 from by decide), (show (1 : Int32).toInt = 1 from by decide), (show (1 : Int64).toInt = 1 from by decide), (show (24 : Int32).toInt = 24 from by decide), (show (24 : Int64).toInt = 24 from by decide), true_and, and_true, not_true_eq_false, not_false_eq_true] at * <;> ((first | omega | ((try simp (disch := omega) only [k_bm64] at *); (try simp (disch := omega) only [k_bm] at *); (try simp (disch := omega) only [k_bm] at *); omega) | (simp only [Int.bmod] at *; omega)))))
set_option maxHeartbeats 4000000 in
set_option maxRecDepth 100000 in
theorem j_isFull_X4 (l : Launch) (dC : Nat → ClassId) (dI : Nat → Nat → Nat) (cI cJ cQ : ClassId) (sz : Nat) (ah : Nat) (av : Nat) (ln : Int32) (fa : Int32) (nu : Int32) (tf : Nat → Int32) : Met l yX9_isFull (kW yX9_isFull cX9_isFull 1 (some .boolean)) { frames := 0, cells := 0, slots := 0, locals := 0 } (kPre dC dI cI cJ cQ sz [.ref ah] [(ah, .inr (4, [.ref av, .int ln, .int fa, .int nu])), (av, .inl (cI, 24, .inl tf))]) (va_Qi (fun (r : Int32) (u : Unit) => (r = if 24 ≤ ln then 1 else 0)) (fun (u : Unit) t₀ => kB dC dI cI cJ cQ (va_A [(ah, .inr (4, [.ref av, .int ln, .int fa, .int nu])), (av, .inl (cI, 24, .inl tf))] sz) [(ah, .inr (4, [.ref av, .int ln, .int fa, .int nu])), (av, .inl (cI, 24, .inl tf))] t₀) (va_A [(ah, .inr (4, [.ref av, .int ln, .int fa, .int nu])), (av, .inl (cI, 24, .inl tf))] sz)) 0 0 (va_A [(ah, .inr (4, [.ref av, .int ln, .int fa, .int nu])), (av, .inl (cI, 24, .inl tf))] sz) := by
  refine Met.ofW (cc := cX9_isFull) (maxL := 1) (ret := (some .boolean)) (by decide) rfl ?_
  intro p₀ e₀ s₀ m₀ args below meth c₀ s₁ B hml hv₀
  obtain ⟨rfl, hsz, hP, hK, hD0, hN⟩ := hv₀
  have hx₀ := B.exec
  have hb := B.bytes
  have hr := B.returns
  have hts := atoms_spec (ws := (kW yX9_isFull cX9_isFull 1 (some .boolean))) B.pre
  have hts := fun w h => hts w (List.mem_cons_of_mem _ h)
  have hown : s₀.vm.findClass RX9 = some m₀.cls := findClass_of_methodNamed B.named
  have hlocks := B.notSynchronized
  subst hsz
  have hD := hD0.self (sz := s₀.heap.size)
  generalize hAe : va_A [(ah, .inr (4, [.ref av, .int ln, .int fa, .int nu])), (av, .inl (cI, 24, .inl tf))] s₀.heap.size = A at hD ⊢
  have hA : ∀ q : Nat, s₀.heap.size ≤ q → A q := fun q h => by rw [← hAe]; exact Or.inr h
  have hS : va_S A s₀.heap s₀.heap [] := va_S.rf
  have hP : va_P (dC, dI) vwCl [(ah, .inr (4, [.ref av, .int ln, .int fa, .int nu])), (av, .inl (cI, 24, .inl tf))] s₀.heap := hP
  have hl := lv_entry ([.ref ah]) (n := 1) (Nat.le_of_ble_eq_true rfl)
  rw [lg_entry_eq]
  generalize (lg_sl ([.ref ah]) ++ List.replicate (1 - (lg_sl ([.ref ah])).length) Slot.unset).toArray = ls at hl ⊢
  have hl : lv_has ls 1 [(0, .ref ah)] := hl
  obtain ⟨H, hH⟩ : ∃ z : Heap, z = s₀.heap := ⟨_, rfl⟩
  rw [← hH] at hP
  have hS : va_S A s₀.heap H [] := by rw [hH]; exact hS
  refine k_heap hH ?_
  have hD : va_D A [(ah, .inr (4, [.ref av, .int ln, .int fa, .int nu])), (av, .inl (cI, 24, .inl tf))] := hD
  obtain ⟨locs, hlo⟩ : ∃ z : List Loc, z = [] := ⟨_, rfl⟩
  rw [← hlo] at hS ⊢
  clear hlo hH hAe hD0
  refine lv_aload_n hx₀ hb dX9_isFull_0 rfl (lv_at hl 0 rfl) ?_
  refine va_get (D := (dC, dI)) (ci := 4) (v := .int ln) (C := RX4) (T := TX4) (N := 4) hx₀ hb hts inlX4 hown hK hP 0 rfl rfl 1 (by decide) (hts (.fieldLink RX9 25 "BittenStick$Text" "length" "I") wd_147) (fun _ h9 => h9) rfl dX9_isFull_1 ?_
  refine lv_aload_n hx₀ hb dX9_isFull_4 rfl (lv_at hl 0 rfl) ?_
  refine va_get (D := (dC, dI)) (ci := 4) (v := .ref av) (C := RX4) (T := TX4) (N := 4) hx₀ hb hts inlX4 hown hK hP 0 rfl rfl 0 (by decide) (hts (.fieldLink RX9 21 "BittenStick$Text" "values" "[I") wd_65) (fun _ h9 => h9) rfl dX9_isFull_5 ?_
  refine va_alen (v := 24) hx₀ hb hK hP 1 0 rfl rfl rfl dX9_isFull_8 ?_
  refine lv_icmp_lt (tgt := 16) hx₀ hb dX9_isFull_9 (by decide) (fun c_1 => ?_) (fun c_1 => ?_)
  · refine lv_iconst (v := 0) hx₀ hb dX9_isFull_16 (by decide +kernel) ?_
    have hP9 := hP.sub (ws' := [(ah, .inr (4, [.ref av, .int ln, .int fa, .int nu])), (av, .inl (cI, 24, .inl tf))]) [0, 1] rfl
    have hD9 := hD.sub (ws' := [(ah, .inr (4, [.ref av, .int ln, .int fa, .int nu])), (av, .inl (cI, 24, .inl tf))]) [0, 1] (by decide) rfl
    exact W.zret (v := 0) hx₀ hb hr (by decide +kernel) (fun t₀ ht hW => ⟨⟨0, (), rfl, (lf_j_isFull_X4_1 ln c_1), by rw [ht]; exact hP9, va_K.moved hW.alike hK, hD9⟩, hS.F ht⟩) hS.2.2 dX9_isFull_17
  · refine lv_iconst (v := 1) hx₀ hb dX9_isFull_12 (by decide +kernel) ?_
    refine lv_goto (tgt := 17) hx₀ hb dX9_isFull_13 (by decide) ?_
    have hP9 := hP.sub (ws' := [(ah, .inr (4, [.ref av, .int ln, .int fa, .int nu])), (av, .inl (cI, 24, .inl tf))]) [0, 1] rfl
    have hD9 := hD.sub (ws' := [(ah, .inr (4, [.ref av, .int ln, .int fa, .int nu])), (av, .inl (cI, 24, .inl tf))]) [0, 1] (by decide) rfl
    exact W.zret (v := 1) hx₀ hb hr (by decide +kernel) (fun t₀ ht hW => ⟨⟨1, (), rfl, (lf_j_isFull_X4_2 ln c_1), by rw [ht]; exact hP9, va_K.moved hW.alike hK, hD9⟩, hS.F ht⟩) hS.2.2 dX9_isFull_17
theorem lf_j_has_X4_1 (k1 : Int32) (nu : Int32) (c_1 : k1 < 0) : (0 : Int32) = if 0 ≤ k1 ∧ k1 < nu then 1 else 0 := by
  (repeat' split) <;> first | rfl | contradiction | assumption | (exfalso; (first | rfl | assumption | decide | omega | (have hr0 := Int32.toInt_lt k1; have hs0 := Int32.le_toInt k1; have hr1 := Int32.toInt_lt nu; have hs1 := Int32.le_toInt nu; simp only [Int64.toInt_add, Int64.toInt_sub, Int32.toInt_add, Int32.toInt_sub, Int32.toInt_mul, Int32.toInt_neg, Int64.le_iff_toInt_le, Int64.lt_iff_toInt_lt, Int32.le_iff_toInt_le, Int32.lt_iff_toInt_lt, ← Int32.toInt_inj, ← Int64.toInt_inj, Int32.toInt_toInt64, (show (0 : Int32).toInt = 0 from by decide), (show (0 : Int64).toInt = 0 from by decide), (show (1 : Int32).toInt = 1 from by decide), (show (1 : Int64).toInt = 1 from by decide), true_and, and_true, not_true_eq_false, not_false_eq_true] at * <;> ((first | omega | ((try simp (disch := omega) only [k_bm64] at *); (try simp (disch := omega) only [k_bm] at *); (try simp (disch := omega) only [k_bm] at *); omega) | (simp only [Int.bmod] at *; omega)))))) | (first | rfl | assumption | decide | omega | (have hr0 := Int32.toInt_lt k1; have hs0 := Int32.le_toInt k1; have hr1 := Int32.toInt_lt nu; have hs1 := Int32.le_toInt nu; simp only [Int64.toInt_add, Int64.toInt_sub, Int32.toInt_add, Int32.toInt_sub, Int32.toInt_mul, Int32.toInt_neg, Int64.le_iff_toInt_le, Int64.lt_iff_toInt_lt, Int32.le_iff_toInt_le, Int32.lt_iff_toInt_lt, ← Int32.toInt_inj, ← Int64.toInt_inj, Int32.toInt_toInt64, (show (0 : Int32).toInt = 0 from by decide), (show (0 : Int64).toInt = 0 from by decide), (show (1 : Int32).toInt = 1 from by decide), (show (1 : Int64).toInt = 1 from by decide), true_and, and_true, not_true_eq_false, not_false_eq_true] at * <;> ((first | omega | ((try simp (disch := omega) only [k_bm64] at *); (try simp (disch := omega) only [k_bm] at *); (try simp (disch := omega) only [k_bm] at *); omega) | (simp only [Int.bmod] at *; omega)))))
theorem lf_j_has_X4_2 (k1 : Int32) (nu : Int32) (c_1 : ¬ k1 < 0) (c_2 : nu ≤ k1) : (0 : Int32) = if 0 ≤ k1 ∧ k1 < nu then 1 else 0 := by
  (repeat' split) <;> first | rfl | contradiction | assumption | (exfalso; (first | rfl | assumption | decide | omega | (have hr0 := Int32.toInt_lt k1; have hs0 := Int32.le_toInt k1; have hr1 := Int32.toInt_lt nu; have hs1 := Int32.le_toInt nu; simp only [Int64.toInt_add, Int64.toInt_sub, Int32.toInt_add, Int32.toInt_sub, Int32.toInt_mul, Int32.toInt_neg, Int64.le_iff_toInt_le, Int64.lt_iff_toInt_lt, Int32.le_iff_toInt_le, Int32.lt_iff_toInt_lt, ← Int32.toInt_inj, ← Int64.toInt_inj, Int32.toInt_toInt64, (show (0 : Int32).toInt = 0 from by decide), (show (0 : Int64).toInt = 0 from by decide), (show (1 : Int32).toInt = 1 from by decide), (show (1 : Int64).toInt = 1 from by decide), true_and, and_true, not_true_eq_false, not_false_eq_true] at * <;> ((first | omega | ((try simp (disch := omega) only [k_bm64] at *); (try simp (disch := omega) only [k_bm] at *); (try simp (disch := omega) only [k_bm] at *); omega) | (simp only [Int.bmod] at *; omega)))))) | (first | rfl | assumption | decide | omega | (have hr0 := Int32.toInt_lt k1; have hs0 := Int32.le_toInt k1; have hr1 := Int32.toInt_lt nu; have hs1 := Int32.le_toInt nu; simp only [Int64.toInt_add, Int64.toInt_sub, Int32.toInt_add, Int32.toInt_sub, Int32.toInt_mul, Int32.toInt_neg, Int64.le_iff_toInt_le, Int64.lt_iff_toInt_lt, Int32.le_iff_toInt_le, Int32.lt_iff_toInt_lt, ← Int32.toInt_inj, ← Int64.toInt_inj, Int32.toInt_toInt64, (show (0 : Int32).toInt = 0 from by decide), (show (0 : Int64).toInt = 0 from by decide), (show (1 : Int32).toInt = 1 from by decide), (show (1 : Int64).toInt = 1 from by decide), true_and, and_true, not_true_eq_false, not_false_eq_true] at * <;> ((first | omega | ((try simp (disch := omega) only [k_bm64] at *); (try simp (disch := omega) only [k_bm] at *); (try simp (disch := omega) only [k_bm] at *); omega) | (simp only [Int.bmod] at *; omega)))))
theorem lf_j_has_X4_3 (k1 : Int32) (nu : Int32) (c_1 : ¬ k1 < 0) (c_2 : ¬ nu ≤ k1) : (1 : Int32) = if 0 ≤ k1 ∧ k1 < nu then 1 else 0 := by
  (repeat' split) <;> first | rfl | contradiction | assumption | (exfalso; (first | rfl | assumption | decide | omega | (have hr0 := Int32.toInt_lt k1; have hs0 := Int32.le_toInt k1; have hr1 := Int32.toInt_lt nu; have hs1 := Int32.le_toInt nu; simp only [Int64.toInt_add, Int64.toInt_sub, Int32.toInt_add, Int32.toInt_sub, Int32.toInt_mul, Int32.toInt_neg, Int64.le_iff_toInt_le, Int64.lt_iff_toInt_lt, Int32.le_iff_toInt_le, Int32.lt_iff_toInt_lt, ← Int32.toInt_inj, ← Int64.toInt_inj, Int32.toInt_toInt64, (show (0 : Int32).toInt = 0 from by decide), (show (0 : Int64).toInt = 0 from by decide), (show (1 : Int32).toInt = 1 from by decide), (show (1 : Int64).toInt = 1 from by decide), true_and, and_true, not_true_eq_false, not_false_eq_true] at * <;> ((first | omega | ((try simp (disch := omega) only [k_bm64] at *); (try simp (disch := omega) only [k_bm] at *); (try simp (disch := omega) only [k_bm] at *); omega) | (simp only [Int.bmod] at *; omega)))))) | (first | rfl | assumption | decide | omega | (have hr0 := Int32.toInt_lt k1; have hs0 := Int32.le_toInt k1; have hr1 := Int32.toInt_lt nu; have hs1 := Int32.le_toInt nu; simp only [Int64.toInt_add, Int64.toInt_sub, Int32.toInt_add, Int32.toInt_sub, Int32.toInt_mul, Int32.toInt_neg, Int64.le_iff_toInt_le, Int64.lt_iff_toInt_lt, Int32.le_iff_toInt_le, Int32.lt_iff_toInt_lt, ← Int32.toInt_inj, ← Int64.toInt_inj, Int32.toInt_toInt64, (show (0 : Int32).toInt = 0 from by decide), (show (0 : Int64).toInt = 0 from by decide), (show (1 : Int32).toInt = 1 from by decide), (show (1 : Int64).toInt = 1 from by decide), true_and, and_true, not_true_eq_false, not_false_eq_true] at * <;> ((first | omega | ((try simp (disch := omega) only [k_bm64] at *); (try simp (disch := omega) only [k_bm] at *); (try simp (disch := omega) only [k_bm] at *); omega) | (simp only [Int.bmod] at *; omega)))))
set_option maxHeartbeats 4000000 in
set_option maxRecDepth 100000 in
theorem j_has_X4 (l : Launch) (dC : Nat → ClassId) (dI : Nat → Nat → Nat) (cI cJ cQ : ClassId) (sz : Nat) (ah : Nat) (k1 : Int32) (av : Nat) (ln : Int32) (fa : Int32) (nu : Int32) : Met l yX9_has (kW yX9_has cX9_has 2 (some .boolean)) { frames := 0, cells := 0, slots := 0, locals := 0 } (kPre dC dI cI cJ cQ sz [.ref ah, .int k1] [(ah, .inr (4, [.ref av, .int ln, .int fa, .int nu]))]) (va_Qi (fun (r : Int32) (u : Unit) => (r = if 0 ≤ k1 ∧ k1 < nu then 1 else 0)) (fun (u : Unit) t₀ => kB dC dI cI cJ cQ (va_A [(ah, .inr (4, [.ref av, .int ln, .int fa, .int nu]))] sz) [(ah, .inr (4, [.ref av, .int ln, .int fa, .int nu]))] t₀) (va_A [(ah, .inr (4, [.ref av, .int ln, .int fa, .int nu]))] sz)) 0 0 (va_A [(ah, .inr (4, [.ref av, .int ln, .int fa, .int nu]))] sz) := by
  refine Met.ofW (cc := cX9_has) (maxL := 2) (ret := (some .boolean)) (by decide) rfl ?_
  intro p₀ e₀ s₀ m₀ args below meth c₀ s₁ B hml hv₀
  obtain ⟨rfl, hsz, hP, hK, hD0, hN⟩ := hv₀
  have hx₀ := B.exec
  have hb := B.bytes
  have hr := B.returns
  have hts := atoms_spec (ws := (kW yX9_has cX9_has 2 (some .boolean))) B.pre
  have hts := fun w h => hts w (List.mem_cons_of_mem _ h)
  have hown : s₀.vm.findClass RX9 = some m₀.cls := findClass_of_methodNamed B.named
  have hlocks := B.notSynchronized
  subst hsz
  have hD := hD0.self (sz := s₀.heap.size)
  generalize hAe : va_A [(ah, .inr (4, [.ref av, .int ln, .int fa, .int nu]))] s₀.heap.size = A at hD ⊢
  have hA : ∀ q : Nat, s₀.heap.size ≤ q → A q := fun q h => by rw [← hAe]; exact Or.inr h
  have hS : va_S A s₀.heap s₀.heap [] := va_S.rf
  have hP : va_P (dC, dI) vwCl [(ah, .inr (4, [.ref av, .int ln, .int fa, .int nu]))] s₀.heap := hP
  have hl := lv_entry ([.ref ah, .int k1]) (n := 2) (Nat.le_of_ble_eq_true rfl)
  rw [lg_entry_eq]
  generalize (lg_sl ([.ref ah, .int k1]) ++ List.replicate (2 - (lg_sl ([.ref ah, .int k1])).length) Slot.unset).toArray = ls at hl ⊢
  have hl : lv_has ls 2 [(0, .ref ah), (1, .int k1)] := hl
  obtain ⟨H, hH⟩ : ∃ z : Heap, z = s₀.heap := ⟨_, rfl⟩
  rw [← hH] at hP
  have hS : va_S A s₀.heap H [] := by rw [hH]; exact hS
  refine k_heap hH ?_
  have hD : va_D A [(ah, .inr (4, [.ref av, .int ln, .int fa, .int nu]))] := hD
  obtain ⟨locs, hlo⟩ : ∃ z : List Loc, z = [] := ⟨_, rfl⟩
  rw [← hlo] at hS ⊢
  clear hlo hH hAe hD0
  refine lv_iload_n hx₀ hb dX9_has_0 rfl (lv_at hl 1 rfl) ?_
  refine lv_if_lt (tgt := 16) hx₀ hb dX9_has_1 (by decide) (fun c_1 => ?_) (fun c_1 => ?_)
  · refine lv_iconst (v := 0) hx₀ hb dX9_has_16 (by decide +kernel) ?_
    have hP9 := hP.sub (ws' := [(ah, .inr (4, [.ref av, .int ln, .int fa, .int nu]))]) [0] rfl
    have hD9 := hD.sub (ws' := [(ah, .inr (4, [.ref av, .int ln, .int fa, .int nu]))]) [0] (by decide) rfl
    exact W.zret (v := 0) hx₀ hb hr (by decide +kernel) (fun t₀ ht hW => ⟨⟨0, (), rfl, (lf_j_has_X4_1 k1 nu c_1), by rw [ht]; exact hP9, va_K.moved hW.alike hK, hD9⟩, hS.F ht⟩) hS.2.2 dX9_has_17
  · refine lv_iload_n hx₀ hb dX9_has_4 rfl (lv_at hl 1 rfl) ?_
    refine lv_aload_n hx₀ hb dX9_has_5 rfl (lv_at hl 0 rfl) ?_
    refine va_get (D := (dC, dI)) (ci := 4) (v := .int nu) (C := RX4) (T := TX4) (N := 4) hx₀ hb hts inlX4 hown hK hP 0 rfl rfl 3 (by decide) (hts (.fieldLink RX9 37 "BittenStick$Text" "number" "I") wd_174) (fun _ h9 => h9) rfl dX9_has_6 ?_
    refine lv_icmp_ge (tgt := 16) hx₀ hb dX9_has_9 (by decide) (fun c_2 => ?_) (fun c_2 => ?_)
    · refine lv_iconst (v := 0) hx₀ hb dX9_has_16 (by decide +kernel) ?_
      have hP9 := hP.sub (ws' := [(ah, .inr (4, [.ref av, .int ln, .int fa, .int nu]))]) [0] rfl
      have hD9 := hD.sub (ws' := [(ah, .inr (4, [.ref av, .int ln, .int fa, .int nu]))]) [0] (by decide) rfl
      exact W.zret (v := 0) hx₀ hb hr (by decide +kernel) (fun t₀ ht hW => ⟨⟨0, (), rfl, (lf_j_has_X4_2 k1 nu c_1 c_2), by rw [ht]; exact hP9, va_K.moved hW.alike hK, hD9⟩, hS.F ht⟩) hS.2.2 dX9_has_17
    · refine lv_iconst (v := 1) hx₀ hb dX9_has_12 (by decide +kernel) ?_
      refine lv_goto (tgt := 17) hx₀ hb dX9_has_13 (by decide) ?_
      have hP9 := hP.sub (ws' := [(ah, .inr (4, [.ref av, .int ln, .int fa, .int nu]))]) [0] rfl
      have hD9 := hD.sub (ws' := [(ah, .inr (4, [.ref av, .int ln, .int fa, .int nu]))]) [0] (by decide) rfl
      exact W.zret (v := 1) hx₀ hb hr (by decide +kernel) (fun t₀ ht hW => ⟨⟨1, (), rfl, (lf_j_has_X4_3 k1 nu c_1 c_2), by rw [ht]; exact hP9, va_K.moved hW.alike hK, hD9⟩, hS.F ht⟩) hS.2.2 dX9_has_17
theorem lf_j_valueAt_X4_1 (k1 : Int32) (c_1 : ¬ k1 < 0) (c_2 : ¬ 24 ≤ k1) : 0 ≤ k1.toInt ∧ k1.toInt < 24 := by
  first | rfl | assumption | decide | exact Or.inl rfl | (first | rfl | assumption | decide | omega | (have hr0 := Int32.toInt_lt k1; have hs0 := Int32.le_toInt k1; simp only [Int64.toInt_add, Int64.toInt_sub, Int32.toInt_add, Int32.toInt_sub, Int32.toInt_mul, Int32.toInt_neg, Int64.le_iff_toInt_le, Int64.lt_iff_toInt_lt, Int32.le_iff_toInt_le, Int32.lt_iff_toInt_lt, ← Int32.toInt_inj, ← Int64.toInt_inj, Int32.toInt_toInt64, (show (0 : Int32).toInt = 0 from by decide), (show (0 : Int64).toInt = 0 from by decide), (show (24 : Int32).toInt = 24 from by decide), (show (24 : Int64).toInt = 24 from by decide), true_and, and_true, not_true_eq_false, not_false_eq_true] at * <;> ((first | omega | ((try simp (disch := omega) only [k_bm64] at *); (try simp (disch := omega) only [k_bm] at *); (try simp (disch := omega) only [k_bm] at *); omega) | (simp only [Int.bmod] at *; omega)))))
set_option maxHeartbeats 4000000 in
set_option maxRecDepth 100000 in
theorem j_valueAt_X4 (l : Launch) (dC : Nat → ClassId) (dI : Nat → Nat → Nat) (cI cJ cQ : ClassId) (sz : Nat) (ah : Nat) (k1 : Int32) (av : Nat) (ln : Int32) (fa : Int32) (nu : Int32) (tf : Nat → Int32) : Met l yX9_valueAt (kW yX9_valueAt cX9_valueAt 2 (some .int)) { frames := 0, cells := 0, slots := 0, locals := 0 } (kPre dC dI cI cJ cQ sz [.ref ah, .int k1] [(ah, .inr (4, [.ref av, .int ln, .int fa, .int nu])), (av, .inl (cI, 24, .inl tf))]) (va_Qi (fun (r : Int32) (u : Unit) => True) (fun (u : Unit) t₀ => kB dC dI cI cJ cQ (va_A [(ah, .inr (4, [.ref av, .int ln, .int fa, .int nu])), (av, .inl (cI, 24, .inl tf))] sz) [(ah, .inr (4, [.ref av, .int ln, .int fa, .int nu])), (av, .inl (cI, 24, .inl tf))] t₀) (va_A [(ah, .inr (4, [.ref av, .int ln, .int fa, .int nu])), (av, .inl (cI, 24, .inl tf))] sz)) 0 0 (va_A [(ah, .inr (4, [.ref av, .int ln, .int fa, .int nu])), (av, .inl (cI, 24, .inl tf))] sz) := by
  refine Met.ofW (cc := cX9_valueAt) (maxL := 2) (ret := (some .int)) (by decide) rfl ?_
  intro p₀ e₀ s₀ m₀ args below meth c₀ s₁ B hml hv₀
  obtain ⟨rfl, hsz, hP, hK, hD0, hN⟩ := hv₀
  have hx₀ := B.exec
  have hb := B.bytes
  have hr := B.returns
  have hts := atoms_spec (ws := (kW yX9_valueAt cX9_valueAt 2 (some .int))) B.pre
  have hts := fun w h => hts w (List.mem_cons_of_mem _ h)
  have hown : s₀.vm.findClass RX9 = some m₀.cls := findClass_of_methodNamed B.named
  have hlocks := B.notSynchronized
  subst hsz
  have hD := hD0.self (sz := s₀.heap.size)
  generalize hAe : va_A [(ah, .inr (4, [.ref av, .int ln, .int fa, .int nu])), (av, .inl (cI, 24, .inl tf))] s₀.heap.size = A at hD ⊢
  have hA : ∀ q : Nat, s₀.heap.size ≤ q → A q := fun q h => by rw [← hAe]; exact Or.inr h
  have hS : va_S A s₀.heap s₀.heap [] := va_S.rf
  have hP : va_P (dC, dI) vwCl [(ah, .inr (4, [.ref av, .int ln, .int fa, .int nu])), (av, .inl (cI, 24, .inl tf))] s₀.heap := hP
  have hl := lv_entry ([.ref ah, .int k1]) (n := 2) (Nat.le_of_ble_eq_true rfl)
  rw [lg_entry_eq]
  generalize (lg_sl ([.ref ah, .int k1]) ++ List.replicate (2 - (lg_sl ([.ref ah, .int k1])).length) Slot.unset).toArray = ls at hl ⊢
  have hl : lv_has ls 2 [(0, .ref ah), (1, .int k1)] := hl
  obtain ⟨H, hH⟩ : ∃ z : Heap, z = s₀.heap := ⟨_, rfl⟩
  rw [← hH] at hP
  have hS : va_S A s₀.heap H [] := by rw [hH]; exact hS
  refine k_heap hH ?_
  have hD : va_D A [(ah, .inr (4, [.ref av, .int ln, .int fa, .int nu])), (av, .inl (cI, 24, .inl tf))] := hD
  obtain ⟨locs, hlo⟩ : ∃ z : List Loc, z = [] := ⟨_, rfl⟩
  rw [← hlo] at hS ⊢
  clear hlo hH hAe hD0
  refine lv_iload_n hx₀ hb dX9_valueAt_0 rfl (lv_at hl 1 rfl) ?_
  refine lv_if_lt (tgt := 22) hx₀ hb dX9_valueAt_1 (by decide) (fun c_1 => ?_) (fun c_1 => ?_)
  · refine lv_iconst (v := (-1)) hx₀ hb dX9_valueAt_22 (by decide +kernel) ?_
    have hP9 := hP.sub (ws' := [(ah, .inr (4, [.ref av, .int ln, .int fa, .int nu])), (av, .inl (cI, 24, .inl tf))]) [0, 1] rfl
    have hD9 := hD.sub (ws' := [(ah, .inr (4, [.ref av, .int ln, .int fa, .int nu])), (av, .inl (cI, 24, .inl tf))]) [0, 1] (by decide) rfl
    exact W.iret (v := (-1)) hx₀ hb hr (fun t₀ ht hW => ⟨⟨(-1), (), rfl, trivial, by rw [ht]; exact hP9, va_K.moved hW.alike hK, hD9⟩, hS.F ht⟩) hS.2.2 dX9_valueAt_23
  · refine lv_iload_n hx₀ hb dX9_valueAt_4 rfl (lv_at hl 1 rfl) ?_
    refine lv_aload_n hx₀ hb dX9_valueAt_5 rfl (lv_at hl 0 rfl) ?_
    refine va_get (D := (dC, dI)) (ci := 4) (v := .ref av) (C := RX4) (T := TX4) (N := 4) hx₀ hb hts inlX4 hown hK hP 0 rfl rfl 0 (by decide) (hts (.fieldLink RX9 21 "BittenStick$Text" "values" "[I") wd_65) (fun _ h9 => h9) rfl dX9_valueAt_6 ?_
    refine va_alen (v := 24) hx₀ hb hK hP 1 0 rfl rfl rfl dX9_valueAt_9 ?_
    refine lv_icmp_ge (tgt := 22) hx₀ hb dX9_valueAt_10 (by decide) (fun c_2 => ?_) (fun c_2 => ?_)
    · refine lv_iconst (v := (-1)) hx₀ hb dX9_valueAt_22 (by decide +kernel) ?_
      have hP9 := hP.sub (ws' := [(ah, .inr (4, [.ref av, .int ln, .int fa, .int nu])), (av, .inl (cI, 24, .inl tf))]) [0, 1] rfl
      have hD9 := hD.sub (ws' := [(ah, .inr (4, [.ref av, .int ln, .int fa, .int nu])), (av, .inl (cI, 24, .inl tf))]) [0, 1] (by decide) rfl
      exact W.iret (v := (-1)) hx₀ hb hr (fun t₀ ht hW => ⟨⟨(-1), (), rfl, trivial, by rw [ht]; exact hP9, va_K.moved hW.alike hK, hD9⟩, hS.F ht⟩) hS.2.2 dX9_valueAt_23
    · refine lv_aload_n hx₀ hb dX9_valueAt_13 rfl (lv_at hl 0 rfl) ?_
      refine va_get (D := (dC, dI)) (ci := 4) (v := .ref av) (C := RX4) (T := TX4) (N := 4) hx₀ hb hts inlX4 hown hK hP 0 rfl rfl 0 (by decide) (hts (.fieldLink RX9 21 "BittenStick$Text" "values" "[I") wd_65) (fun _ h9 => h9) rfl dX9_valueAt_14 ?_
      refine lv_iload_n hx₀ hb dX9_valueAt_17 rfl (lv_at hl 1 rfl) ?_
      refine va_iald hx₀ hb hK hP 1 0 rfl rfl (vp_in_iff.mpr (lf_j_valueAt_X4_1 k1 c_1 c_2)) dX9_valueAt_18 ?_
      refine lv_topi (fun y_3 ey_3 => ?_)
      refine lv_goto (tgt := 23) hx₀ hb dX9_valueAt_19 (by decide) ?_
      have hP9 := hP.sub (ws' := [(ah, .inr (4, [.ref av, .int ln, .int fa, .int nu])), (av, .inl (cI, 24, .inl tf))]) [0, 1] rfl
      have hD9 := hD.sub (ws' := [(ah, .inr (4, [.ref av, .int ln, .int fa, .int nu])), (av, .inl (cI, 24, .inl tf))]) [0, 1] (by decide) rfl
      exact W.iret (v := y_3) hx₀ hb hr (fun t₀ ht hW => ⟨⟨y_3, (), rfl, trivial, by rw [ht]; exact hP9, va_K.moved hW.alike hK, hD9⟩, hS.F ht⟩) hS.2.2 dX9_valueAt_23
set_option maxHeartbeats 4000000 in
set_option maxRecDepth 100000 in
theorem j_worth_X4 (l : Launch) (dC : Nat → ClassId) (dI : Nat → Nat → Nat) (cI cJ cQ : ClassId) (sz : Nat) (ah : Nat) (pl : Int32) (b1 : Int32) (av : Nat) (ln : Int32) (fa : Int32) (nu : Int32) (hh0 : 0 ≤ pl) : Met l yX4_worth (kW yX4_worth cX4_worth 3 (some .int)) { frames := 0, cells := 0, slots := 0, locals := 0 } (kPre dC dI cI cJ cQ sz [.ref ah, .int pl, .int b1] [(ah, .inr (4, [.ref av, .int ln, .int fa, .int nu]))]) (va_Qi (fun (r : Int32) (u : Unit) => True) (fun (u : Unit) t₀ => kB dC dI cI cJ cQ (va_A [(ah, .inr (4, [.ref av, .int ln, .int fa, .int nu]))] sz) [(ah, .inr (4, [.ref av, .int ln, .int fa, .int nu]))] t₀) (va_A [(ah, .inr (4, [.ref av, .int ln, .int fa, .int nu]))] sz)) 0 0 (va_A [(ah, .inr (4, [.ref av, .int ln, .int fa, .int nu]))] sz) := by
  refine Met.ofW (cc := cX4_worth) (maxL := 3) (ret := (some .int)) (by decide) rfl ?_
  intro p₀ e₀ s₀ m₀ args below meth c₀ s₁ B hml hv₀
  obtain ⟨rfl, hsz, hP, hK, hD0, hN⟩ := hv₀
  have hx₀ := B.exec
  have hb := B.bytes
  have hr := B.returns
  have hts := atoms_spec (ws := (kW yX4_worth cX4_worth 3 (some .int))) B.pre
  have hts := fun w h => hts w (List.mem_cons_of_mem _ h)
  have hown : s₀.vm.findClass RX4 = some m₀.cls := findClass_of_methodNamed B.named
  have hlocks := B.notSynchronized
  subst hsz
  have hD := hD0.self (sz := s₀.heap.size)
  generalize hAe : va_A [(ah, .inr (4, [.ref av, .int ln, .int fa, .int nu]))] s₀.heap.size = A at hD ⊢
  have hA : ∀ q : Nat, s₀.heap.size ≤ q → A q := fun q h => by rw [← hAe]; exact Or.inr h
  have hS : va_S A s₀.heap s₀.heap [] := va_S.rf
  have hP : va_P (dC, dI) vwCl [(ah, .inr (4, [.ref av, .int ln, .int fa, .int nu]))] s₀.heap := hP
  have hl := lv_entry ([.ref ah, .int pl, .int b1]) (n := 3) (Nat.le_of_ble_eq_true rfl)
  rw [lg_entry_eq]
  generalize (lg_sl ([.ref ah, .int pl, .int b1]) ++ List.replicate (3 - (lg_sl ([.ref ah, .int pl, .int b1])).length) Slot.unset).toArray = ls at hl ⊢
  have hl : lv_has ls 3 [(0, .ref ah), (1, .int pl), (2, .int b1)] := hl
  obtain ⟨H, hH⟩ : ∃ z : Heap, z = s₀.heap := ⟨_, rfl⟩
  rw [← hH] at hP
  have hS : va_S A s₀.heap H [] := by rw [hH]; exact hS
  refine k_heap hH ?_
  have hD : va_D A [(ah, .inr (4, [.ref av, .int ln, .int fa, .int nu]))] := hD
  obtain ⟨locs, hlo⟩ : ∃ z : List Loc, z = [] := ⟨_, rfl⟩
  rw [← hlo] at hS ⊢
  clear hlo hH hAe hD0
  refine lv_iload_n hx₀ hb dX4_worth_0 rfl (lv_at hl 2 rfl) ?_
  refine lv_bipush (v := 97) hx₀ hb dX4_worth_1 (by decide +kernel) ?_
  refine lv_icmp_lt (tgt := 17) hx₀ hb dX4_worth_3 (by decide) (fun c_1 => ?_) (fun c_1 => ?_)
  · refine lv_iload_n hx₀ hb dX4_worth_17 rfl (lv_at hl 2 rfl) ?_
    by_cases c_2 : b1 = 105
    · refine k_topi (v := 105) c_2 ?_
      refine lv_lookup (off := 37) (tgt := 55) hx₀ hb dX4_worth_18 (by decide +kernel) (by decide +kernel) (by decide) ?_
      refine lv_bipush (v := 7) hx₀ hb dX4_worth_55 (by decide +kernel) ?_
      have hP9 := hP.sub (ws' := [(ah, .inr (4, [.ref av, .int ln, .int fa, .int nu]))]) [0] rfl
      have hD9 := hD.sub (ws' := [(ah, .inr (4, [.ref av, .int ln, .int fa, .int nu]))]) [0] (by decide) rfl
      exact W.iret (v := 7) hx₀ hb hr (fun t₀ ht hW => ⟨⟨7, (), rfl, trivial, by rw [ht]; exact hP9, va_K.moved hW.alike hK, hD9⟩, hS.F ht⟩) hS.2.2 dX4_worth_57
    by_cases c_3 : b1 = 111
    · refine k_topi (v := 111) c_3 ?_
      refine lv_lookup (off := 34) (tgt := 52) hx₀ hb dX4_worth_18 (by decide +kernel) (by decide +kernel) (by decide) ?_
      refine lv_bipush (v := 6) hx₀ hb dX4_worth_52 (by decide +kernel) ?_
      have hP9 := hP.sub (ws' := [(ah, .inr (4, [.ref av, .int ln, .int fa, .int nu]))]) [0] rfl
      have hD9 := hD.sub (ws' := [(ah, .inr (4, [.ref av, .int ln, .int fa, .int nu]))]) [0] (by decide) rfl
      exact W.iret (v := 6) hx₀ hb hr (fun t₀ ht hW => ⟨⟨6, (), rfl, trivial, by rw [ht]; exact hP9, va_K.moved hW.alike hK, hD9⟩, hS.F ht⟩) hS.2.2 dX4_worth_54
    by_cases c_4 : b1 = 119
    · refine k_topi (v := 119) c_4 ?_
      refine lv_lookup (off := 40) (tgt := 58) hx₀ hb dX4_worth_18 (by decide +kernel) (by decide +kernel) (by decide) ?_
      refine lv_bipush (v := 8) hx₀ hb dX4_worth_58 (by decide +kernel) ?_
      have hP9 := hP.sub (ws' := [(ah, .inr (4, [.ref av, .int ln, .int fa, .int nu]))]) [0] rfl
      have hD9 := hD.sub (ws' := [(ah, .inr (4, [.ref av, .int ln, .int fa, .int nu]))]) [0] (by decide) rfl
      exact W.iret (v := 8) hx₀ hb hr (fun t₀ ht hW => ⟨⟨8, (), rfl, trivial, by rw [ht]; exact hP9, va_K.moved hW.alike hK, hD9⟩, hS.F ht⟩) hS.2.2 dX4_worth_60
    refine lv_lookup (off := 43) (tgt := 61) hx₀ hb dX4_worth_18 (by decide +kernel) ((lv_osw c_2 rfl).trans ((lv_osw c_3 rfl).trans ((lv_osw c_4 rfl).trans rfl))) (by decide) ?_
    refine lv_iconst (v := (-1)) hx₀ hb dX4_worth_61 (by decide +kernel) ?_
    have hP9 := hP.sub (ws' := [(ah, .inr (4, [.ref av, .int ln, .int fa, .int nu]))]) [0] rfl
    have hD9 := hD.sub (ws' := [(ah, .inr (4, [.ref av, .int ln, .int fa, .int nu]))]) [0] (by decide) rfl
    exact W.iret (v := (-1)) hx₀ hb hr (fun t₀ ht hW => ⟨⟨(-1), (), rfl, trivial, by rw [ht]; exact hP9, va_K.moved hW.alike hK, hD9⟩, hS.F ht⟩) hS.2.2 dX4_worth_62
  · refine lv_iload_n hx₀ hb dX4_worth_6 rfl (lv_at hl 2 rfl) ?_
    refine lv_bipush (v := 102) hx₀ hb dX4_worth_7 (by decide +kernel) ?_
    refine lv_icmp_gt (tgt := 17) hx₀ hb dX4_worth_9 (by decide) (fun c_5 => ?_) (fun c_5 => ?_)
    · refine lv_iload_n hx₀ hb dX4_worth_17 rfl (lv_at hl 2 rfl) ?_
      by_cases c_6 : b1 = 105
      · refine k_topi (v := 105) c_6 ?_
        refine lv_lookup (off := 37) (tgt := 55) hx₀ hb dX4_worth_18 (by decide +kernel) (by decide +kernel) (by decide) ?_
        refine lv_bipush (v := 7) hx₀ hb dX4_worth_55 (by decide +kernel) ?_
        have hP9 := hP.sub (ws' := [(ah, .inr (4, [.ref av, .int ln, .int fa, .int nu]))]) [0] rfl
        have hD9 := hD.sub (ws' := [(ah, .inr (4, [.ref av, .int ln, .int fa, .int nu]))]) [0] (by decide) rfl
        exact W.iret (v := 7) hx₀ hb hr (fun t₀ ht hW => ⟨⟨7, (), rfl, trivial, by rw [ht]; exact hP9, va_K.moved hW.alike hK, hD9⟩, hS.F ht⟩) hS.2.2 dX4_worth_57
      by_cases c_7 : b1 = 111
      · refine k_topi (v := 111) c_7 ?_
        refine lv_lookup (off := 34) (tgt := 52) hx₀ hb dX4_worth_18 (by decide +kernel) (by decide +kernel) (by decide) ?_
        refine lv_bipush (v := 6) hx₀ hb dX4_worth_52 (by decide +kernel) ?_
        have hP9 := hP.sub (ws' := [(ah, .inr (4, [.ref av, .int ln, .int fa, .int nu]))]) [0] rfl
        have hD9 := hD.sub (ws' := [(ah, .inr (4, [.ref av, .int ln, .int fa, .int nu]))]) [0] (by decide) rfl
        exact W.iret (v := 6) hx₀ hb hr (fun t₀ ht hW => ⟨⟨6, (), rfl, trivial, by rw [ht]; exact hP9, va_K.moved hW.alike hK, hD9⟩, hS.F ht⟩) hS.2.2 dX4_worth_54
      by_cases c_8 : b1 = 119
      · refine k_topi (v := 119) c_8 ?_
        refine lv_lookup (off := 40) (tgt := 58) hx₀ hb dX4_worth_18 (by decide +kernel) (by decide +kernel) (by decide) ?_
        refine lv_bipush (v := 8) hx₀ hb dX4_worth_58 (by decide +kernel) ?_
        have hP9 := hP.sub (ws' := [(ah, .inr (4, [.ref av, .int ln, .int fa, .int nu]))]) [0] rfl
        have hD9 := hD.sub (ws' := [(ah, .inr (4, [.ref av, .int ln, .int fa, .int nu]))]) [0] (by decide) rfl
        exact W.iret (v := 8) hx₀ hb hr (fun t₀ ht hW => ⟨⟨8, (), rfl, trivial, by rw [ht]; exact hP9, va_K.moved hW.alike hK, hD9⟩, hS.F ht⟩) hS.2.2 dX4_worth_60
      refine lv_lookup (off := 43) (tgt := 61) hx₀ hb dX4_worth_18 (by decide +kernel) ((lv_osw c_6 rfl).trans ((lv_osw c_7 rfl).trans ((lv_osw c_8 rfl).trans rfl))) (by decide) ?_
      refine lv_iconst (v := (-1)) hx₀ hb dX4_worth_61 (by decide +kernel) ?_
      have hP9 := hP.sub (ws' := [(ah, .inr (4, [.ref av, .int ln, .int fa, .int nu]))]) [0] rfl
      have hD9 := hD.sub (ws' := [(ah, .inr (4, [.ref av, .int ln, .int fa, .int nu]))]) [0] (by decide) rfl
      exact W.iret (v := (-1)) hx₀ hb hr (fun t₀ ht hW => ⟨⟨(-1), (), rfl, trivial, by rw [ht]; exact hP9, va_K.moved hW.alike hK, hD9⟩, hS.F ht⟩) hS.2.2 dX4_worth_62
    · refine lv_iload_n hx₀ hb dX4_worth_12 rfl (lv_at hl 2 rfl) ?_
      refine lv_bipush (v := 97) hx₀ hb dX4_worth_13 (by decide +kernel) ?_
      refine lv_isub hx₀ hb dX4_worth_15 ?_
      have hP9 := hP.sub (ws' := [(ah, .inr (4, [.ref av, .int ln, .int fa, .int nu]))]) [0] rfl
      have hD9 := hD.sub (ws' := [(ah, .inr (4, [.ref av, .int ln, .int fa, .int nu]))]) [0] (by decide) rfl
      exact W.iret (v := b1 - 97) hx₀ hb hr (fun t₀ ht hW => ⟨⟨b1 - 97, (), rfl, trivial, by rw [ht]; exact hP9, va_K.moved hW.alike hK, hD9⟩, hS.F ht⟩) hS.2.2 dX4_worth_16
set_option maxHeartbeats 4000000 in
set_option maxRecDepth 100000 in
theorem j_things_X4 (l : Launch) (dC : Nat → ClassId) (dI : Nat → Nat → Nat) (cI cJ cQ : ClassId) (sz : Nat) (ah : Nat) (b1 : Int32) (av : Nat) (ln : Int32) (fa : Int32) (nu : Int32) : Met l yX4_thingsIn (kW yX4_thingsIn cX4_thingsIn 2 (some .int)) { frames := 0, cells := 0, slots := 0, locals := 0 } (kPre dC dI cI cJ cQ sz [.ref ah, .int b1] [(ah, .inr (4, [.ref av, .int ln, .int fa, .int nu]))]) (va_Qi (fun (r : Int32) (u : Unit) => (r = b1)) (fun (u : Unit) t₀ => kB dC dI cI cJ cQ (va_A [(ah, .inr (4, [.ref av, .int ln, .int fa, .int nu]))] sz) [(ah, .inr (4, [.ref av, .int ln, .int fa, .int nu]))] t₀) (va_A [(ah, .inr (4, [.ref av, .int ln, .int fa, .int nu]))] sz)) 0 0 (va_A [(ah, .inr (4, [.ref av, .int ln, .int fa, .int nu]))] sz) := by
  refine Met.ofW (cc := cX4_thingsIn) (maxL := 2) (ret := (some .int)) (by decide) rfl ?_
  intro p₀ e₀ s₀ m₀ args below meth c₀ s₁ B hml hv₀
  obtain ⟨rfl, hsz, hP, hK, hD0, hN⟩ := hv₀
  have hx₀ := B.exec
  have hb := B.bytes
  have hr := B.returns
  have hts := atoms_spec (ws := (kW yX4_thingsIn cX4_thingsIn 2 (some .int))) B.pre
  have hts := fun w h => hts w (List.mem_cons_of_mem _ h)
  have hown : s₀.vm.findClass RX4 = some m₀.cls := findClass_of_methodNamed B.named
  have hlocks := B.notSynchronized
  subst hsz
  have hD := hD0.self (sz := s₀.heap.size)
  generalize hAe : va_A [(ah, .inr (4, [.ref av, .int ln, .int fa, .int nu]))] s₀.heap.size = A at hD ⊢
  have hA : ∀ q : Nat, s₀.heap.size ≤ q → A q := fun q h => by rw [← hAe]; exact Or.inr h
  have hS : va_S A s₀.heap s₀.heap [] := va_S.rf
  have hP : va_P (dC, dI) vwCl [(ah, .inr (4, [.ref av, .int ln, .int fa, .int nu]))] s₀.heap := hP
  have hl := lv_entry ([.ref ah, .int b1]) (n := 2) (Nat.le_of_ble_eq_true rfl)
  rw [lg_entry_eq]
  generalize (lg_sl ([.ref ah, .int b1]) ++ List.replicate (2 - (lg_sl ([.ref ah, .int b1])).length) Slot.unset).toArray = ls at hl ⊢
  have hl : lv_has ls 2 [(0, .ref ah), (1, .int b1)] := hl
  obtain ⟨H, hH⟩ : ∃ z : Heap, z = s₀.heap := ⟨_, rfl⟩
  rw [← hH] at hP
  have hS : va_S A s₀.heap H [] := by rw [hH]; exact hS
  refine k_heap hH ?_
  have hD : va_D A [(ah, .inr (4, [.ref av, .int ln, .int fa, .int nu]))] := hD
  obtain ⟨locs, hlo⟩ : ∃ z : List Loc, z = [] := ⟨_, rfl⟩
  rw [← hlo] at hS ⊢
  clear hlo hH hAe hD0
  refine lv_iload_n hx₀ hb dX4_thingsIn_0 rfl (lv_at hl 1 rfl) ?_
  have hP9 := hP.sub (ws' := [(ah, .inr (4, [.ref av, .int ln, .int fa, .int nu]))]) [0] rfl
  have hD9 := hD.sub (ws' := [(ah, .inr (4, [.ref av, .int ln, .int fa, .int nu]))]) [0] (by decide) rfl
  exact W.iret (v := b1) hx₀ hb hr (fun t₀ ht hW => ⟨⟨b1, (), rfl, rfl, by rw [ht]; exact hP9, va_K.moved hW.alike hK, hD9⟩, hS.F ht⟩) hS.2.2 dX4_thingsIn_1
theorem lf_j_isFull_X7_1 (ln : Int32) (c_1 : ln < 39) : (0 : Int32) = if 39 ≤ ln then 1 else 0 := by
  (repeat' split) <;> first | rfl | contradiction | assumption | (exfalso; (first | rfl | assumption | decide | omega | (have hr0 := Int32.toInt_lt ln; have hs0 := Int32.le_toInt ln; simp only [Int64.toInt_add, Int64.toInt_sub, Int32.toInt_add, Int32.toInt_sub, Int32.toInt_mul, Int32.toInt_neg, Int64.le_iff_toInt_le, Int64.lt_iff_toInt_lt, Int32.le_iff_toInt_le, Int32.lt_iff_toInt_lt, ← Int32.toInt_inj, ← Int64.toInt_inj, Int32.toInt_toInt64, (show (0 : Int32).toInt = 0 from by decide), (show (0 : Int64).toInt = 0 from by decide), (show (1 : Int32).toInt = 1 from by decide), (show (1 : Int64).toInt = 1 from by decide), (show (39 : Int32).toInt = 39 from by decide), (show (39 : Int64).toInt = 39 from by decide), true_and, and_true, not_true_eq_false, not_false_eq_true] at * <;> ((first | omega | ((try simp (disch := omega) only [k_bm64] at *); (try simp (disch := omega) only [k_bm] at *); (try simp (disch := omega) only [k_bm] at *); omega) | (simp only [Int.bmod] at *; omega)))))) | (first | rfl | assumption | decide | omega | (have hr0 := Int32.toInt_lt ln; have hs0 := Int32.le_toInt ln; simp only [Int64.toInt_add, Int64.toInt_sub, Int32.toInt_add, Int32.toInt_sub, Int32.toInt_mul, Int32.toInt_neg, Int64.le_iff_toInt_le, Int64.lt_iff_toInt_lt, Int32.le_iff_toInt_le, Int32.lt_iff_toInt_lt, ← Int32.toInt_inj, ← Int64.toInt_inj, Int32.toInt_toInt64, (show (0 : Int32).toInt = 0 from by decide), (show (0 : Int64).toInt = 0 from by decide), (show (1 : Int32).toInt = 1 from by decide), (show (1 : Int64).toInt = 1 from by decide), (show (39 : Int32).toInt = 39 from by decide), (show (39 : Int64).toInt = 39 from by decide), true_and, and_true, not_true_eq_false, not_false_eq_true] at * <;> ((first | omega | ((try simp (disch := omega) only [k_bm64] at *); (try simp (disch := omega) only [k_bm] at *); (try simp (disch := omega) only [k_bm] at *); omega) | (simp only [Int.bmod] at *; omega)))))
theorem lf_j_isFull_X7_2 (ln : Int32) (c_1 : ¬ ln < 39) : (1 : Int32) = if 39 ≤ ln then 1 else 0 := by
  (repeat' split) <;> first | rfl | contradiction | assumption | (exfalso; (first | rfl | assumption | decide | omega | (have hr0 := Int32.toInt_lt ln; have hs0 := Int32.le_toInt ln; simp only [Int64.toInt_add, Int64.toInt_sub, Int32.toInt_add, Int32.toInt_sub, Int32.toInt_mul, Int32.toInt_neg, Int64.le_iff_toInt_le, Int64.lt_iff_toInt_lt, Int32.le_iff_toInt_le, Int32.lt_iff_toInt_lt, ← Int32.toInt_inj, ← Int64.toInt_inj, Int32.toInt_toInt64, (show (0 : Int32).toInt = 0 from by decide), (show (0 : Int64).toInt = 0 from by decide), (show (1 : Int32).toInt = 1 from by decide), (show (1 : Int64).toInt = 1 from by decide), (show (39 : Int32).toInt = 39 from by decide), (show (39 : Int64).toInt = 39 from by decide), true_and, and_true, not_true_eq_false, not_false_eq_true] at * <;> ((first | omega | ((try simp (disch := omega) only [k_bm64] at *); (try simp (disch := omega) only [k_bm] at *); (try simp (disch := omega) only [k_bm] at *); omega) | (simp only [Int.bmod] at *; omega)))))) | (first | rfl | assumption | decide | omega | (have hr0 := Int32.toInt_lt ln; have hs0 := Int32.le_toInt ln; simp only [Int64.toInt_add, Int64.toInt_sub, Int32.toInt_add, Int32.toInt_sub, Int32.toInt_mul, Int32.toInt_neg, Int64.le_iff_toInt_le, Int64.lt_iff_toInt_lt, Int32.le_iff_toInt_le, Int32.lt_iff_toInt_lt, ← Int32.toInt_inj, ← Int64.toInt_inj, Int32.toInt_toInt64, (show (0 : Int32).toInt = 0 from by decide), (show (0 : Int64).toInt = 0 from by decide), (show (1 : Int32).toInt = 1 from by decide), (show (1 : Int64).toInt = 1 from by decide), (show (39 : Int32).toInt = 39 from by decide), (show (39 : Int64).toInt = 39 from by decide), true_and, and_true, not_true_eq_false, not_false_eq_true] at * <;> ((first | omega | ((try simp (disch := omega) only [k_bm64] at *); (try simp (disch := omega) only [k_bm] at *); (try simp (disch := omega) only [k_bm] at *); omega) | (simp only [Int.bmod] at *; omega)))))
set_option maxHeartbeats 4000000 in
set_option maxRecDepth 100000 in
theorem j_isFull_X7 (l : Launch) (dC : Nat → ClassId) (dI : Nat → Nat → Nat) (cI cJ cQ : ClassId) (sz : Nat) (ah : Nat) (av : Nat) (ln : Int32) (fa : Int32) (nu : Int32) (tf : Nat → Int32) : Met l yX9_isFull (kW yX9_isFull cX9_isFull 1 (some .boolean)) { frames := 0, cells := 0, slots := 0, locals := 0 } (kPre dC dI cI cJ cQ sz [.ref ah] [(ah, .inr (7, [.ref av, .int ln, .int fa, .int nu])), (av, .inl (cI, 39, .inl tf))]) (va_Qi (fun (r : Int32) (u : Unit) => (r = if 39 ≤ ln then 1 else 0)) (fun (u : Unit) t₀ => kB dC dI cI cJ cQ (va_A [(ah, .inr (7, [.ref av, .int ln, .int fa, .int nu])), (av, .inl (cI, 39, .inl tf))] sz) [(ah, .inr (7, [.ref av, .int ln, .int fa, .int nu])), (av, .inl (cI, 39, .inl tf))] t₀) (va_A [(ah, .inr (7, [.ref av, .int ln, .int fa, .int nu])), (av, .inl (cI, 39, .inl tf))] sz)) 0 0 (va_A [(ah, .inr (7, [.ref av, .int ln, .int fa, .int nu])), (av, .inl (cI, 39, .inl tf))] sz) := by
  refine Met.ofW (cc := cX9_isFull) (maxL := 1) (ret := (some .boolean)) (by decide) rfl ?_
  intro p₀ e₀ s₀ m₀ args below meth c₀ s₁ B hml hv₀
  obtain ⟨rfl, hsz, hP, hK, hD0, hN⟩ := hv₀
  have hx₀ := B.exec
  have hb := B.bytes
  have hr := B.returns
  have hts := atoms_spec (ws := (kW yX9_isFull cX9_isFull 1 (some .boolean))) B.pre
  have hts := fun w h => hts w (List.mem_cons_of_mem _ h)
  have hown : s₀.vm.findClass RX9 = some m₀.cls := findClass_of_methodNamed B.named
  have hlocks := B.notSynchronized
  subst hsz
  have hD := hD0.self (sz := s₀.heap.size)
  generalize hAe : va_A [(ah, .inr (7, [.ref av, .int ln, .int fa, .int nu])), (av, .inl (cI, 39, .inl tf))] s₀.heap.size = A at hD ⊢
  have hA : ∀ q : Nat, s₀.heap.size ≤ q → A q := fun q h => by rw [← hAe]; exact Or.inr h
  have hS : va_S A s₀.heap s₀.heap [] := va_S.rf
  have hP : va_P (dC, dI) vwCl [(ah, .inr (7, [.ref av, .int ln, .int fa, .int nu])), (av, .inl (cI, 39, .inl tf))] s₀.heap := hP
  have hl := lv_entry ([.ref ah]) (n := 1) (Nat.le_of_ble_eq_true rfl)
  rw [lg_entry_eq]
  generalize (lg_sl ([.ref ah]) ++ List.replicate (1 - (lg_sl ([.ref ah])).length) Slot.unset).toArray = ls at hl ⊢
  have hl : lv_has ls 1 [(0, .ref ah)] := hl
  obtain ⟨H, hH⟩ : ∃ z : Heap, z = s₀.heap := ⟨_, rfl⟩
  rw [← hH] at hP
  have hS : va_S A s₀.heap H [] := by rw [hH]; exact hS
  refine k_heap hH ?_
  have hD : va_D A [(ah, .inr (7, [.ref av, .int ln, .int fa, .int nu])), (av, .inl (cI, 39, .inl tf))] := hD
  obtain ⟨locs, hlo⟩ : ∃ z : List Loc, z = [] := ⟨_, rfl⟩
  rw [← hlo] at hS ⊢
  clear hlo hH hAe hD0
  refine lv_aload_n hx₀ hb dX9_isFull_0 rfl (lv_at hl 0 rfl) ?_
  refine va_get (D := (dC, dI)) (ci := 7) (v := .int ln) (C := RX7) (T := TX7) (N := 4) hx₀ hb hts inlX7 hown hK hP 0 rfl rfl 1 (by decide) (hts (.fieldLink RX9 25 "BittenStick$Text" "length" "I") wd_147) (fun _ h9 => h9) rfl dX9_isFull_1 ?_
  refine lv_aload_n hx₀ hb dX9_isFull_4 rfl (lv_at hl 0 rfl) ?_
  refine va_get (D := (dC, dI)) (ci := 7) (v := .ref av) (C := RX7) (T := TX7) (N := 4) hx₀ hb hts inlX7 hown hK hP 0 rfl rfl 0 (by decide) (hts (.fieldLink RX9 21 "BittenStick$Text" "values" "[I") wd_65) (fun _ h9 => h9) rfl dX9_isFull_5 ?_
  refine va_alen (v := 39) hx₀ hb hK hP 1 0 rfl rfl rfl dX9_isFull_8 ?_
  refine lv_icmp_lt (tgt := 16) hx₀ hb dX9_isFull_9 (by decide) (fun c_1 => ?_) (fun c_1 => ?_)
  · refine lv_iconst (v := 0) hx₀ hb dX9_isFull_16 (by decide +kernel) ?_
    have hP9 := hP.sub (ws' := [(ah, .inr (7, [.ref av, .int ln, .int fa, .int nu])), (av, .inl (cI, 39, .inl tf))]) [0, 1] rfl
    have hD9 := hD.sub (ws' := [(ah, .inr (7, [.ref av, .int ln, .int fa, .int nu])), (av, .inl (cI, 39, .inl tf))]) [0, 1] (by decide) rfl
    exact W.zret (v := 0) hx₀ hb hr (by decide +kernel) (fun t₀ ht hW => ⟨⟨0, (), rfl, (lf_j_isFull_X7_1 ln c_1), by rw [ht]; exact hP9, va_K.moved hW.alike hK, hD9⟩, hS.F ht⟩) hS.2.2 dX9_isFull_17
  · refine lv_iconst (v := 1) hx₀ hb dX9_isFull_12 (by decide +kernel) ?_
    refine lv_goto (tgt := 17) hx₀ hb dX9_isFull_13 (by decide) ?_
    have hP9 := hP.sub (ws' := [(ah, .inr (7, [.ref av, .int ln, .int fa, .int nu])), (av, .inl (cI, 39, .inl tf))]) [0, 1] rfl
    have hD9 := hD.sub (ws' := [(ah, .inr (7, [.ref av, .int ln, .int fa, .int nu])), (av, .inl (cI, 39, .inl tf))]) [0, 1] (by decide) rfl
    exact W.zret (v := 1) hx₀ hb hr (by decide +kernel) (fun t₀ ht hW => ⟨⟨1, (), rfl, (lf_j_isFull_X7_2 ln c_1), by rw [ht]; exact hP9, va_K.moved hW.alike hK, hD9⟩, hS.F ht⟩) hS.2.2 dX9_isFull_17
theorem lf_j_has_X7_1 (k1 : Int32) (nu : Int32) (c_1 : k1 < 0) : (0 : Int32) = if 0 ≤ k1 ∧ k1 < nu then 1 else 0 := by
  (repeat' split) <;> first | rfl | contradiction | assumption | (exfalso; (first | rfl | assumption | decide | omega | (have hr0 := Int32.toInt_lt k1; have hs0 := Int32.le_toInt k1; have hr1 := Int32.toInt_lt nu; have hs1 := Int32.le_toInt nu; simp only [Int64.toInt_add, Int64.toInt_sub, Int32.toInt_add, Int32.toInt_sub, Int32.toInt_mul, Int32.toInt_neg, Int64.le_iff_toInt_le, Int64.lt_iff_toInt_lt, Int32.le_iff_toInt_le, Int32.lt_iff_toInt_lt, ← Int32.toInt_inj, ← Int64.toInt_inj, Int32.toInt_toInt64, (show (0 : Int32).toInt = 0 from by decide), (show (0 : Int64).toInt = 0 from by decide), (show (1 : Int32).toInt = 1 from by decide), (show (1 : Int64).toInt = 1 from by decide), true_and, and_true, not_true_eq_false, not_false_eq_true] at * <;> ((first | omega | ((try simp (disch := omega) only [k_bm64] at *); (try simp (disch := omega) only [k_bm] at *); (try simp (disch := omega) only [k_bm] at *); omega) | (simp only [Int.bmod] at *; omega)))))) | (first | rfl | assumption | decide | omega | (have hr0 := Int32.toInt_lt k1; have hs0 := Int32.le_toInt k1; have hr1 := Int32.toInt_lt nu; have hs1 := Int32.le_toInt nu; simp only [Int64.toInt_add, Int64.toInt_sub, Int32.toInt_add, Int32.toInt_sub, Int32.toInt_mul, Int32.toInt_neg, Int64.le_iff_toInt_le, Int64.lt_iff_toInt_lt, Int32.le_iff_toInt_le, Int32.lt_iff_toInt_lt, ← Int32.toInt_inj, ← Int64.toInt_inj, Int32.toInt_toInt64, (show (0 : Int32).toInt = 0 from by decide), (show (0 : Int64).toInt = 0 from by decide), (show (1 : Int32).toInt = 1 from by decide), (show (1 : Int64).toInt = 1 from by decide), true_and, and_true, not_true_eq_false, not_false_eq_true] at * <;> ((first | omega | ((try simp (disch := omega) only [k_bm64] at *); (try simp (disch := omega) only [k_bm] at *); (try simp (disch := omega) only [k_bm] at *); omega) | (simp only [Int.bmod] at *; omega)))))
theorem lf_j_has_X7_2 (k1 : Int32) (nu : Int32) (c_1 : ¬ k1 < 0) (c_2 : nu ≤ k1) : (0 : Int32) = if 0 ≤ k1 ∧ k1 < nu then 1 else 0 := by
  (repeat' split) <;> first | rfl | contradiction | assumption | (exfalso; (first | rfl | assumption | decide | omega | (have hr0 := Int32.toInt_lt k1; have hs0 := Int32.le_toInt k1; have hr1 := Int32.toInt_lt nu; have hs1 := Int32.le_toInt nu; simp only [Int64.toInt_add, Int64.toInt_sub, Int32.toInt_add, Int32.toInt_sub, Int32.toInt_mul, Int32.toInt_neg, Int64.le_iff_toInt_le, Int64.lt_iff_toInt_lt, Int32.le_iff_toInt_le, Int32.lt_iff_toInt_lt, ← Int32.toInt_inj, ← Int64.toInt_inj, Int32.toInt_toInt64, (show (0 : Int32).toInt = 0 from by decide), (show (0 : Int64).toInt = 0 from by decide), (show (1 : Int32).toInt = 1 from by decide), (show (1 : Int64).toInt = 1 from by decide), true_and, and_true, not_true_eq_false, not_false_eq_true] at * <;> ((first | omega | ((try simp (disch := omega) only [k_bm64] at *); (try simp (disch := omega) only [k_bm] at *); (try simp (disch := omega) only [k_bm] at *); omega) | (simp only [Int.bmod] at *; omega)))))) | (first | rfl | assumption | decide | omega | (have hr0 := Int32.toInt_lt k1; have hs0 := Int32.le_toInt k1; have hr1 := Int32.toInt_lt nu; have hs1 := Int32.le_toInt nu; simp only [Int64.toInt_add, Int64.toInt_sub, Int32.toInt_add, Int32.toInt_sub, Int32.toInt_mul, Int32.toInt_neg, Int64.le_iff_toInt_le, Int64.lt_iff_toInt_lt, Int32.le_iff_toInt_le, Int32.lt_iff_toInt_lt, ← Int32.toInt_inj, ← Int64.toInt_inj, Int32.toInt_toInt64, (show (0 : Int32).toInt = 0 from by decide), (show (0 : Int64).toInt = 0 from by decide), (show (1 : Int32).toInt = 1 from by decide), (show (1 : Int64).toInt = 1 from by decide), true_and, and_true, not_true_eq_false, not_false_eq_true] at * <;> ((first | omega | ((try simp (disch := omega) only [k_bm64] at *); (try simp (disch := omega) only [k_bm] at *); (try simp (disch := omega) only [k_bm] at *); omega) | (simp only [Int.bmod] at *; omega)))))
theorem lf_j_has_X7_3 (k1 : Int32) (nu : Int32) (c_1 : ¬ k1 < 0) (c_2 : ¬ nu ≤ k1) : (1 : Int32) = if 0 ≤ k1 ∧ k1 < nu then 1 else 0 := by
  (repeat' split) <;> first | rfl | contradiction | assumption | (exfalso; (first | rfl | assumption | decide | omega | (have hr0 := Int32.toInt_lt k1; have hs0 := Int32.le_toInt k1; have hr1 := Int32.toInt_lt nu; have hs1 := Int32.le_toInt nu; simp only [Int64.toInt_add, Int64.toInt_sub, Int32.toInt_add, Int32.toInt_sub, Int32.toInt_mul, Int32.toInt_neg, Int64.le_iff_toInt_le, Int64.lt_iff_toInt_lt, Int32.le_iff_toInt_le, Int32.lt_iff_toInt_lt, ← Int32.toInt_inj, ← Int64.toInt_inj, Int32.toInt_toInt64, (show (0 : Int32).toInt = 0 from by decide), (show (0 : Int64).toInt = 0 from by decide), (show (1 : Int32).toInt = 1 from by decide), (show (1 : Int64).toInt = 1 from by decide), true_and, and_true, not_true_eq_false, not_false_eq_true] at * <;> ((first | omega | ((try simp (disch := omega) only [k_bm64] at *); (try simp (disch := omega) only [k_bm] at *); (try simp (disch := omega) only [k_bm] at *); omega) | (simp only [Int.bmod] at *; omega)))))) | (first | rfl | assumption | decide | omega | (have hr0 := Int32.toInt_lt k1; have hs0 := Int32.le_toInt k1; have hr1 := Int32.toInt_lt nu; have hs1 := Int32.le_toInt nu; simp only [Int64.toInt_add, Int64.toInt_sub, Int32.toInt_add, Int32.toInt_sub, Int32.toInt_mul, Int32.toInt_neg, Int64.le_iff_toInt_le, Int64.lt_iff_toInt_lt, Int32.le_iff_toInt_le, Int32.lt_iff_toInt_lt, ← Int32.toInt_inj, ← Int64.toInt_inj, Int32.toInt_toInt64, (show (0 : Int32).toInt = 0 from by decide), (show (0 : Int64).toInt = 0 from by decide), (show (1 : Int32).toInt = 1 from by decide), (show (1 : Int64).toInt = 1 from by decide), true_and, and_true, not_true_eq_false, not_false_eq_true] at * <;> ((first | omega | ((try simp (disch := omega) only [k_bm64] at *); (try simp (disch := omega) only [k_bm] at *); (try simp (disch := omega) only [k_bm] at *); omega) | (simp only [Int.bmod] at *; omega)))))
set_option maxHeartbeats 4000000 in
set_option maxRecDepth 100000 in
theorem j_has_X7 (l : Launch) (dC : Nat → ClassId) (dI : Nat → Nat → Nat) (cI cJ cQ : ClassId) (sz : Nat) (ah : Nat) (k1 : Int32) (av : Nat) (ln : Int32) (fa : Int32) (nu : Int32) : Met l yX9_has (kW yX9_has cX9_has 2 (some .boolean)) { frames := 0, cells := 0, slots := 0, locals := 0 } (kPre dC dI cI cJ cQ sz [.ref ah, .int k1] [(ah, .inr (7, [.ref av, .int ln, .int fa, .int nu]))]) (va_Qi (fun (r : Int32) (u : Unit) => (r = if 0 ≤ k1 ∧ k1 < nu then 1 else 0)) (fun (u : Unit) t₀ => kB dC dI cI cJ cQ (va_A [(ah, .inr (7, [.ref av, .int ln, .int fa, .int nu]))] sz) [(ah, .inr (7, [.ref av, .int ln, .int fa, .int nu]))] t₀) (va_A [(ah, .inr (7, [.ref av, .int ln, .int fa, .int nu]))] sz)) 0 0 (va_A [(ah, .inr (7, [.ref av, .int ln, .int fa, .int nu]))] sz) := by
  refine Met.ofW (cc := cX9_has) (maxL := 2) (ret := (some .boolean)) (by decide) rfl ?_
  intro p₀ e₀ s₀ m₀ args below meth c₀ s₁ B hml hv₀
  obtain ⟨rfl, hsz, hP, hK, hD0, hN⟩ := hv₀
  have hx₀ := B.exec
  have hb := B.bytes
  have hr := B.returns
  have hts := atoms_spec (ws := (kW yX9_has cX9_has 2 (some .boolean))) B.pre
  have hts := fun w h => hts w (List.mem_cons_of_mem _ h)
  have hown : s₀.vm.findClass RX9 = some m₀.cls := findClass_of_methodNamed B.named
  have hlocks := B.notSynchronized
  subst hsz
  have hD := hD0.self (sz := s₀.heap.size)
  generalize hAe : va_A [(ah, .inr (7, [.ref av, .int ln, .int fa, .int nu]))] s₀.heap.size = A at hD ⊢
  have hA : ∀ q : Nat, s₀.heap.size ≤ q → A q := fun q h => by rw [← hAe]; exact Or.inr h
  have hS : va_S A s₀.heap s₀.heap [] := va_S.rf
  have hP : va_P (dC, dI) vwCl [(ah, .inr (7, [.ref av, .int ln, .int fa, .int nu]))] s₀.heap := hP
  have hl := lv_entry ([.ref ah, .int k1]) (n := 2) (Nat.le_of_ble_eq_true rfl)
  rw [lg_entry_eq]
  generalize (lg_sl ([.ref ah, .int k1]) ++ List.replicate (2 - (lg_sl ([.ref ah, .int k1])).length) Slot.unset).toArray = ls at hl ⊢
  have hl : lv_has ls 2 [(0, .ref ah), (1, .int k1)] := hl
  obtain ⟨H, hH⟩ : ∃ z : Heap, z = s₀.heap := ⟨_, rfl⟩
  rw [← hH] at hP
  have hS : va_S A s₀.heap H [] := by rw [hH]; exact hS
  refine k_heap hH ?_
  have hD : va_D A [(ah, .inr (7, [.ref av, .int ln, .int fa, .int nu]))] := hD
  obtain ⟨locs, hlo⟩ : ∃ z : List Loc, z = [] := ⟨_, rfl⟩
  rw [← hlo] at hS ⊢
  clear hlo hH hAe hD0
  refine lv_iload_n hx₀ hb dX9_has_0 rfl (lv_at hl 1 rfl) ?_
  refine lv_if_lt (tgt := 16) hx₀ hb dX9_has_1 (by decide) (fun c_1 => ?_) (fun c_1 => ?_)
  · refine lv_iconst (v := 0) hx₀ hb dX9_has_16 (by decide +kernel) ?_
    have hP9 := hP.sub (ws' := [(ah, .inr (7, [.ref av, .int ln, .int fa, .int nu]))]) [0] rfl
    have hD9 := hD.sub (ws' := [(ah, .inr (7, [.ref av, .int ln, .int fa, .int nu]))]) [0] (by decide) rfl
    exact W.zret (v := 0) hx₀ hb hr (by decide +kernel) (fun t₀ ht hW => ⟨⟨0, (), rfl, (lf_j_has_X7_1 k1 nu c_1), by rw [ht]; exact hP9, va_K.moved hW.alike hK, hD9⟩, hS.F ht⟩) hS.2.2 dX9_has_17
  · refine lv_iload_n hx₀ hb dX9_has_4 rfl (lv_at hl 1 rfl) ?_
    refine lv_aload_n hx₀ hb dX9_has_5 rfl (lv_at hl 0 rfl) ?_
    refine va_get (D := (dC, dI)) (ci := 7) (v := .int nu) (C := RX7) (T := TX7) (N := 4) hx₀ hb hts inlX7 hown hK hP 0 rfl rfl 3 (by decide) (hts (.fieldLink RX9 37 "BittenStick$Text" "number" "I") wd_174) (fun _ h9 => h9) rfl dX9_has_6 ?_
    refine lv_icmp_ge (tgt := 16) hx₀ hb dX9_has_9 (by decide) (fun c_2 => ?_) (fun c_2 => ?_)
    · refine lv_iconst (v := 0) hx₀ hb dX9_has_16 (by decide +kernel) ?_
      have hP9 := hP.sub (ws' := [(ah, .inr (7, [.ref av, .int ln, .int fa, .int nu]))]) [0] rfl
      have hD9 := hD.sub (ws' := [(ah, .inr (7, [.ref av, .int ln, .int fa, .int nu]))]) [0] (by decide) rfl
      exact W.zret (v := 0) hx₀ hb hr (by decide +kernel) (fun t₀ ht hW => ⟨⟨0, (), rfl, (lf_j_has_X7_2 k1 nu c_1 c_2), by rw [ht]; exact hP9, va_K.moved hW.alike hK, hD9⟩, hS.F ht⟩) hS.2.2 dX9_has_17
    · refine lv_iconst (v := 1) hx₀ hb dX9_has_12 (by decide +kernel) ?_
      refine lv_goto (tgt := 17) hx₀ hb dX9_has_13 (by decide) ?_
      have hP9 := hP.sub (ws' := [(ah, .inr (7, [.ref av, .int ln, .int fa, .int nu]))]) [0] rfl
      have hD9 := hD.sub (ws' := [(ah, .inr (7, [.ref av, .int ln, .int fa, .int nu]))]) [0] (by decide) rfl
      exact W.zret (v := 1) hx₀ hb hr (by decide +kernel) (fun t₀ ht hW => ⟨⟨1, (), rfl, (lf_j_has_X7_3 k1 nu c_1 c_2), by rw [ht]; exact hP9, va_K.moved hW.alike hK, hD9⟩, hS.F ht⟩) hS.2.2 dX9_has_17
theorem lf_j_valueAt_X7_1 (k1 : Int32) (c_1 : ¬ k1 < 0) (c_2 : ¬ 39 ≤ k1) : 0 ≤ k1.toInt ∧ k1.toInt < 39 := by
  first | rfl | assumption | decide | exact Or.inl rfl | (first | rfl | assumption | decide | omega | (have hr0 := Int32.toInt_lt k1; have hs0 := Int32.le_toInt k1; simp only [Int64.toInt_add, Int64.toInt_sub, Int32.toInt_add, Int32.toInt_sub, Int32.toInt_mul, Int32.toInt_neg, Int64.le_iff_toInt_le, Int64.lt_iff_toInt_lt, Int32.le_iff_toInt_le, Int32.lt_iff_toInt_lt, ← Int32.toInt_inj, ← Int64.toInt_inj, Int32.toInt_toInt64, (show (0 : Int32).toInt = 0 from by decide), (show (0 : Int64).toInt = 0 from by decide), (show (39 : Int32).toInt = 39 from by decide), (show (39 : Int64).toInt = 39 from by decide), true_and, and_true, not_true_eq_false, not_false_eq_true] at * <;> ((first | omega | ((try simp (disch := omega) only [k_bm64] at *); (try simp (disch := omega) only [k_bm] at *); (try simp (disch := omega) only [k_bm] at *); omega) | (simp only [Int.bmod] at *; omega)))))
set_option maxHeartbeats 4000000 in
set_option maxRecDepth 100000 in
theorem j_valueAt_X7 (l : Launch) (dC : Nat → ClassId) (dI : Nat → Nat → Nat) (cI cJ cQ : ClassId) (sz : Nat) (ah : Nat) (k1 : Int32) (av : Nat) (ln : Int32) (fa : Int32) (nu : Int32) (tf : Nat → Int32) : Met l yX9_valueAt (kW yX9_valueAt cX9_valueAt 2 (some .int)) { frames := 0, cells := 0, slots := 0, locals := 0 } (kPre dC dI cI cJ cQ sz [.ref ah, .int k1] [(ah, .inr (7, [.ref av, .int ln, .int fa, .int nu])), (av, .inl (cI, 39, .inl tf))]) (va_Qi (fun (r : Int32) (u : Unit) => True) (fun (u : Unit) t₀ => kB dC dI cI cJ cQ (va_A [(ah, .inr (7, [.ref av, .int ln, .int fa, .int nu])), (av, .inl (cI, 39, .inl tf))] sz) [(ah, .inr (7, [.ref av, .int ln, .int fa, .int nu])), (av, .inl (cI, 39, .inl tf))] t₀) (va_A [(ah, .inr (7, [.ref av, .int ln, .int fa, .int nu])), (av, .inl (cI, 39, .inl tf))] sz)) 0 0 (va_A [(ah, .inr (7, [.ref av, .int ln, .int fa, .int nu])), (av, .inl (cI, 39, .inl tf))] sz) := by
  refine Met.ofW (cc := cX9_valueAt) (maxL := 2) (ret := (some .int)) (by decide) rfl ?_
  intro p₀ e₀ s₀ m₀ args below meth c₀ s₁ B hml hv₀
  obtain ⟨rfl, hsz, hP, hK, hD0, hN⟩ := hv₀
  have hx₀ := B.exec
  have hb := B.bytes
  have hr := B.returns
  have hts := atoms_spec (ws := (kW yX9_valueAt cX9_valueAt 2 (some .int))) B.pre
  have hts := fun w h => hts w (List.mem_cons_of_mem _ h)
  have hown : s₀.vm.findClass RX9 = some m₀.cls := findClass_of_methodNamed B.named
  have hlocks := B.notSynchronized
  subst hsz
  have hD := hD0.self (sz := s₀.heap.size)
  generalize hAe : va_A [(ah, .inr (7, [.ref av, .int ln, .int fa, .int nu])), (av, .inl (cI, 39, .inl tf))] s₀.heap.size = A at hD ⊢
  have hA : ∀ q : Nat, s₀.heap.size ≤ q → A q := fun q h => by rw [← hAe]; exact Or.inr h
  have hS : va_S A s₀.heap s₀.heap [] := va_S.rf
  have hP : va_P (dC, dI) vwCl [(ah, .inr (7, [.ref av, .int ln, .int fa, .int nu])), (av, .inl (cI, 39, .inl tf))] s₀.heap := hP
  have hl := lv_entry ([.ref ah, .int k1]) (n := 2) (Nat.le_of_ble_eq_true rfl)
  rw [lg_entry_eq]
  generalize (lg_sl ([.ref ah, .int k1]) ++ List.replicate (2 - (lg_sl ([.ref ah, .int k1])).length) Slot.unset).toArray = ls at hl ⊢
  have hl : lv_has ls 2 [(0, .ref ah), (1, .int k1)] := hl
  obtain ⟨H, hH⟩ : ∃ z : Heap, z = s₀.heap := ⟨_, rfl⟩
  rw [← hH] at hP
  have hS : va_S A s₀.heap H [] := by rw [hH]; exact hS
  refine k_heap hH ?_
  have hD : va_D A [(ah, .inr (7, [.ref av, .int ln, .int fa, .int nu])), (av, .inl (cI, 39, .inl tf))] := hD
  obtain ⟨locs, hlo⟩ : ∃ z : List Loc, z = [] := ⟨_, rfl⟩
  rw [← hlo] at hS ⊢
  clear hlo hH hAe hD0
  refine lv_iload_n hx₀ hb dX9_valueAt_0 rfl (lv_at hl 1 rfl) ?_
  refine lv_if_lt (tgt := 22) hx₀ hb dX9_valueAt_1 (by decide) (fun c_1 => ?_) (fun c_1 => ?_)
  · refine lv_iconst (v := (-1)) hx₀ hb dX9_valueAt_22 (by decide +kernel) ?_
    have hP9 := hP.sub (ws' := [(ah, .inr (7, [.ref av, .int ln, .int fa, .int nu])), (av, .inl (cI, 39, .inl tf))]) [0, 1] rfl
    have hD9 := hD.sub (ws' := [(ah, .inr (7, [.ref av, .int ln, .int fa, .int nu])), (av, .inl (cI, 39, .inl tf))]) [0, 1] (by decide) rfl
    exact W.iret (v := (-1)) hx₀ hb hr (fun t₀ ht hW => ⟨⟨(-1), (), rfl, trivial, by rw [ht]; exact hP9, va_K.moved hW.alike hK, hD9⟩, hS.F ht⟩) hS.2.2 dX9_valueAt_23
  · refine lv_iload_n hx₀ hb dX9_valueAt_4 rfl (lv_at hl 1 rfl) ?_
    refine lv_aload_n hx₀ hb dX9_valueAt_5 rfl (lv_at hl 0 rfl) ?_
    refine va_get (D := (dC, dI)) (ci := 7) (v := .ref av) (C := RX7) (T := TX7) (N := 4) hx₀ hb hts inlX7 hown hK hP 0 rfl rfl 0 (by decide) (hts (.fieldLink RX9 21 "BittenStick$Text" "values" "[I") wd_65) (fun _ h9 => h9) rfl dX9_valueAt_6 ?_
    refine va_alen (v := 39) hx₀ hb hK hP 1 0 rfl rfl rfl dX9_valueAt_9 ?_
    refine lv_icmp_ge (tgt := 22) hx₀ hb dX9_valueAt_10 (by decide) (fun c_2 => ?_) (fun c_2 => ?_)
    · refine lv_iconst (v := (-1)) hx₀ hb dX9_valueAt_22 (by decide +kernel) ?_
      have hP9 := hP.sub (ws' := [(ah, .inr (7, [.ref av, .int ln, .int fa, .int nu])), (av, .inl (cI, 39, .inl tf))]) [0, 1] rfl
      have hD9 := hD.sub (ws' := [(ah, .inr (7, [.ref av, .int ln, .int fa, .int nu])), (av, .inl (cI, 39, .inl tf))]) [0, 1] (by decide) rfl
      exact W.iret (v := (-1)) hx₀ hb hr (fun t₀ ht hW => ⟨⟨(-1), (), rfl, trivial, by rw [ht]; exact hP9, va_K.moved hW.alike hK, hD9⟩, hS.F ht⟩) hS.2.2 dX9_valueAt_23
    · refine lv_aload_n hx₀ hb dX9_valueAt_13 rfl (lv_at hl 0 rfl) ?_
      refine va_get (D := (dC, dI)) (ci := 7) (v := .ref av) (C := RX7) (T := TX7) (N := 4) hx₀ hb hts inlX7 hown hK hP 0 rfl rfl 0 (by decide) (hts (.fieldLink RX9 21 "BittenStick$Text" "values" "[I") wd_65) (fun _ h9 => h9) rfl dX9_valueAt_14 ?_
      refine lv_iload_n hx₀ hb dX9_valueAt_17 rfl (lv_at hl 1 rfl) ?_
      refine va_iald hx₀ hb hK hP 1 0 rfl rfl (vp_in_iff.mpr (lf_j_valueAt_X7_1 k1 c_1 c_2)) dX9_valueAt_18 ?_
      refine lv_topi (fun y_3 ey_3 => ?_)
      refine lv_goto (tgt := 23) hx₀ hb dX9_valueAt_19 (by decide) ?_
      have hP9 := hP.sub (ws' := [(ah, .inr (7, [.ref av, .int ln, .int fa, .int nu])), (av, .inl (cI, 39, .inl tf))]) [0, 1] rfl
      have hD9 := hD.sub (ws' := [(ah, .inr (7, [.ref av, .int ln, .int fa, .int nu])), (av, .inl (cI, 39, .inl tf))]) [0, 1] (by decide) rfl
      exact W.iret (v := y_3) hx₀ hb hr (fun t₀ ht hW => ⟨⟨y_3, (), rfl, trivial, by rw [ht]; exact hP9, va_K.moved hW.alike hK, hD9⟩, hS.F ht⟩) hS.2.2 dX9_valueAt_23
set_option maxHeartbeats 4000000 in
set_option maxRecDepth 100000 in
theorem j_worth_X7 (l : Launch) (dC : Nat → ClassId) (dI : Nat → Nat → Nat) (cI cJ cQ : ClassId) (sz : Nat) (ah : Nat) (pl : Int32) (b1 : Int32) (av : Nat) (ln : Int32) (fa : Int32) (nu : Int32) (hh0 : 0 ≤ pl) : Met l yX7_worth (kW yX7_worth cX7_worth 3 (some .int)) { frames := 1, cells := 0, slots := 0, locals := 20 } (kPre dC dI cI cJ cQ sz [.ref ah, .int pl, .int b1] [(ah, .inr (7, [.ref av, .int ln, .int fa, .int nu]))]) (va_Qi (fun (r : Int32) (u : Unit) => True) (fun (u : Unit) t₀ => kB dC dI cI cJ cQ (va_A [(ah, .inr (7, [.ref av, .int ln, .int fa, .int nu]))] sz) [(ah, .inr (7, [.ref av, .int ln, .int fa, .int nu]))] t₀) (va_A [(ah, .inr (7, [.ref av, .int ln, .int fa, .int nu]))] sz)) 0 0 (va_A [(ah, .inr (7, [.ref av, .int ln, .int fa, .int nu]))] sz) := by
  refine Met.ofW (cc := cX7_worth) (maxL := 3) (ret := (some .int)) (by decide) rfl ?_
  intro p₀ e₀ s₀ m₀ args below meth c₀ s₁ B hml hv₀
  obtain ⟨rfl, hsz, hP, hK, hD0, hN⟩ := hv₀
  have hx₀ := B.exec
  have hb := B.bytes
  have hr := B.returns
  have hts := atoms_spec (ws := (kW yX7_worth cX7_worth 3 (some .int))) B.pre
  have hts := fun w h => hts w (List.mem_cons_of_mem _ h)
  have hown : s₀.vm.findClass RX7 = some m₀.cls := findClass_of_methodNamed B.named
  have hlocks := B.notSynchronized
  subst hsz
  have hD := hD0.self (sz := s₀.heap.size)
  generalize hAe : va_A [(ah, .inr (7, [.ref av, .int ln, .int fa, .int nu]))] s₀.heap.size = A at hD ⊢
  have hA : ∀ q : Nat, s₀.heap.size ≤ q → A q := fun q h => by rw [← hAe]; exact Or.inr h
  have hS : va_S A s₀.heap s₀.heap [] := va_S.rf
  have hP : va_P (dC, dI) vwCl [(ah, .inr (7, [.ref av, .int ln, .int fa, .int nu]))] s₀.heap := hP
  have hl := lv_entry ([.ref ah, .int pl, .int b1]) (n := 3) (Nat.le_of_ble_eq_true rfl)
  rw [lg_entry_eq]
  generalize (lg_sl ([.ref ah, .int pl, .int b1]) ++ List.replicate (3 - (lg_sl ([.ref ah, .int pl, .int b1])).length) Slot.unset).toArray = ls at hl ⊢
  have hl : lv_has ls 3 [(0, .ref ah), (1, .int pl), (2, .int b1)] := hl
  obtain ⟨H, hH⟩ : ∃ z : Heap, z = s₀.heap := ⟨_, rfl⟩
  rw [← hH] at hP
  have hS : va_S A s₀.heap H [] := by rw [hH]; exact hS
  refine k_heap hH ?_
  have hD : va_D A [(ah, .inr (7, [.ref av, .int ln, .int fa, .int nu]))] := hD
  obtain ⟨locs, hlo⟩ : ∃ z : List Loc, z = [] := ⟨_, rfl⟩
  rw [← hlo] at hS ⊢
  clear hlo hH hAe hD0
  refine lv_iload_n hx₀ hb dX7_worth_0 rfl (lv_at hl 1 rfl) ?_
  refine lv_iconst (v := 5) hx₀ hb dX7_worth_1 (by decide +kernel) ?_
  refine lv_irem hx₀ hb dX7_worth_2 (by decide +kernel) ?_
  by_cases c_1 : (pl - pl / 5 * 5) = 0
  · refine k_topi (v := 0) c_1 ?_
    refine lv_tableIn (off := 33) (tgt := 36) hx₀ hb dX7_worth_3 (by decide +kernel) (by decide +kernel) (by decide +kernel) (by decide) ?_
    refine lv_iload_n hx₀ hb dX7_worth_36 rfl (lv_at hl 2 rfl) ?_
    have hPc := hP.sub (ws' := []) [] rfl
    have hDc := hD.sub (ws' := []) [] (by decide) rfl
    have hFc := va_free (wc := []) hD hS hA [] rfl
    refine va_calli (va_runS (As := [.int b1]) (rest := []) ⟨hx₀, hb, hml, hown, hts⟩ (j_kind l dC dI cI cJ cQ H.size b1) (va_cwS 1 hts (kGS wd_168 wd_166 wd_167 wd_18) rfl rfl rfl (by decide +kernel) ⟨Nat.le_of_ble_eq_true rfl, Nat.le_of_ble_eq_true rfl⟩) (k_preS hK hPc hDc hN) rfl rfl hl.1 rfl (lv_room (Nat.le_of_ble_eq_true rfl)) dX7_worth_37 ⟨by decide +kernel, by decide +kernel⟩) hS (fun q _ h => hFc q h) hFc (fun r_2 u₀ t₀ H1 locs ht hvm hw hB hz1 hk1 hS => ?_)
    obtain ⟨hP1, hK1, hD1⟩ := hB
    rw [ht] at hP1
    obtain ⟨hP, hD⟩ := va_join (wr := [(ah, .inr (7, [.ref av, .int ln, .int fa, .int nu]))]) (w1 := []) hP hD [] [0] rfl rfl (by decide) (by decide) hk1 hFc hP1 hD1
    generalize H1 = H at hP hS ⊢
    have hP : va_P (dC, dI) vwCl [(ah, .inr (7, [.ref av, .int ln, .int fa, .int nu]))] H := hP
    have hD : va_D A [(ah, .inr (7, [.ref av, .int ln, .int fa, .int nu]))] := hD
    try dsimp only at hw
    have hP9 := hP.sub (ws' := [(ah, .inr (7, [.ref av, .int ln, .int fa, .int nu]))]) [0] rfl
    have hD9 := hD.sub (ws' := [(ah, .inr (7, [.ref av, .int ln, .int fa, .int nu]))]) [0] (by decide) rfl
    exact W.iret (v := r_2) hx₀ hb hr (fun t₀ ht hW => ⟨⟨r_2, (), rfl, trivial, by rw [ht]; exact hP9, va_K.moved hW.alike hK, hD9⟩, hS.F ht⟩) hS.2.2 dX7_worth_40
  by_cases c_3 : (pl - pl / 5 * 5) = 1
  · refine k_topi (v := 1) c_3 ?_
    refine lv_tableIn (off := 38) (tgt := 41) hx₀ hb dX7_worth_3 (by decide +kernel) (by decide +kernel) (by decide +kernel) (by decide) ?_
    refine lv_iload_n hx₀ hb dX7_worth_41 rfl (lv_at hl 2 rfl) ?_
    refine lv_bipush (v := 97) hx₀ hb dX7_worth_42 (by decide +kernel) ?_
    refine lv_icmp_lt (tgt := 60) hx₀ hb dX7_worth_44 (by decide) (fun c_4 => ?_) (fun c_4 => ?_)
    · refine lv_iconst (v := (-1)) hx₀ hb dX7_worth_60 (by decide +kernel) ?_
      have hP9 := hP.sub (ws' := [(ah, .inr (7, [.ref av, .int ln, .int fa, .int nu]))]) [0] rfl
      have hD9 := hD.sub (ws' := [(ah, .inr (7, [.ref av, .int ln, .int fa, .int nu]))]) [0] (by decide) rfl
      exact W.iret (v := (-1)) hx₀ hb hr (fun t₀ ht hW => ⟨⟨(-1), (), rfl, trivial, by rw [ht]; exact hP9, va_K.moved hW.alike hK, hD9⟩, hS.F ht⟩) hS.2.2 dX7_worth_61
    · refine lv_iload_n hx₀ hb dX7_worth_47 rfl (lv_at hl 2 rfl) ?_
      refine lv_bipush (v := 102) hx₀ hb dX7_worth_48 (by decide +kernel) ?_
      refine lv_icmp_gt (tgt := 60) hx₀ hb dX7_worth_50 (by decide) (fun c_5 => ?_) (fun c_5 => ?_)
      · refine lv_iconst (v := (-1)) hx₀ hb dX7_worth_60 (by decide +kernel) ?_
        have hP9 := hP.sub (ws' := [(ah, .inr (7, [.ref av, .int ln, .int fa, .int nu]))]) [0] rfl
        have hD9 := hD.sub (ws' := [(ah, .inr (7, [.ref av, .int ln, .int fa, .int nu]))]) [0] (by decide) rfl
        exact W.iret (v := (-1)) hx₀ hb hr (fun t₀ ht hW => ⟨⟨(-1), (), rfl, trivial, by rw [ht]; exact hP9, va_K.moved hW.alike hK, hD9⟩, hS.F ht⟩) hS.2.2 dX7_worth_61
      · refine lv_iload_n hx₀ hb dX7_worth_53 rfl (lv_at hl 2 rfl) ?_
        refine lv_bipush (v := 97) hx₀ hb dX7_worth_54 (by decide +kernel) ?_
        refine lv_isub hx₀ hb dX7_worth_56 ?_
        refine lv_goto (tgt := 61) hx₀ hb dX7_worth_57 (by decide) ?_
        have hP9 := hP.sub (ws' := [(ah, .inr (7, [.ref av, .int ln, .int fa, .int nu]))]) [0] rfl
        have hD9 := hD.sub (ws' := [(ah, .inr (7, [.ref av, .int ln, .int fa, .int nu]))]) [0] (by decide) rfl
        exact W.iret (v := b1 - 97) hx₀ hb hr (fun t₀ ht hW => ⟨⟨b1 - 97, (), rfl, trivial, by rw [ht]; exact hP9, va_K.moved hW.alike hK, hD9⟩, hS.F ht⟩) hS.2.2 dX7_worth_61
  by_cases c_6 : (pl - pl / 5 * 5) = 2
  · refine k_topi (v := 2) c_6 ?_
    refine lv_tableIn (off := 71) (tgt := 74) hx₀ hb dX7_worth_3 (by decide +kernel) (by decide +kernel) (by decide +kernel) (by decide) ?_
    refine lv_iload_n hx₀ hb dX7_worth_74 rfl (lv_at hl 2 rfl) ?_
    refine lv_bipush (v := 49) hx₀ hb dX7_worth_75 (by decide +kernel) ?_
    refine lv_icmp_lt (tgt := 93) hx₀ hb dX7_worth_77 (by decide) (fun c_7 => ?_) (fun c_7 => ?_)
    · refine lv_iconst (v := (-1)) hx₀ hb dX7_worth_93 (by decide +kernel) ?_
      have hP9 := hP.sub (ws' := [(ah, .inr (7, [.ref av, .int ln, .int fa, .int nu]))]) [0] rfl
      have hD9 := hD.sub (ws' := [(ah, .inr (7, [.ref av, .int ln, .int fa, .int nu]))]) [0] (by decide) rfl
      exact W.iret (v := (-1)) hx₀ hb hr (fun t₀ ht hW => ⟨⟨(-1), (), rfl, trivial, by rw [ht]; exact hP9, va_K.moved hW.alike hK, hD9⟩, hS.F ht⟩) hS.2.2 dX7_worth_94
    · refine lv_iload_n hx₀ hb dX7_worth_80 rfl (lv_at hl 2 rfl) ?_
      refine lv_bipush (v := 57) hx₀ hb dX7_worth_81 (by decide +kernel) ?_
      refine lv_icmp_gt (tgt := 93) hx₀ hb dX7_worth_83 (by decide) (fun c_8 => ?_) (fun c_8 => ?_)
      · refine lv_iconst (v := (-1)) hx₀ hb dX7_worth_93 (by decide +kernel) ?_
        have hP9 := hP.sub (ws' := [(ah, .inr (7, [.ref av, .int ln, .int fa, .int nu]))]) [0] rfl
        have hD9 := hD.sub (ws' := [(ah, .inr (7, [.ref av, .int ln, .int fa, .int nu]))]) [0] (by decide) rfl
        exact W.iret (v := (-1)) hx₀ hb hr (fun t₀ ht hW => ⟨⟨(-1), (), rfl, trivial, by rw [ht]; exact hP9, va_K.moved hW.alike hK, hD9⟩, hS.F ht⟩) hS.2.2 dX7_worth_94
      · refine lv_iload_n hx₀ hb dX7_worth_86 rfl (lv_at hl 2 rfl) ?_
        refine lv_bipush (v := 48) hx₀ hb dX7_worth_87 (by decide +kernel) ?_
        refine lv_isub hx₀ hb dX7_worth_89 ?_
        refine lv_goto (tgt := 94) hx₀ hb dX7_worth_90 (by decide) ?_
        have hP9 := hP.sub (ws' := [(ah, .inr (7, [.ref av, .int ln, .int fa, .int nu]))]) [0] rfl
        have hD9 := hD.sub (ws' := [(ah, .inr (7, [.ref av, .int ln, .int fa, .int nu]))]) [0] (by decide) rfl
        exact W.iret (v := b1 - 48) hx₀ hb hr (fun t₀ ht hW => ⟨⟨b1 - 48, (), rfl, trivial, by rw [ht]; exact hP9, va_K.moved hW.alike hK, hD9⟩, hS.F ht⟩) hS.2.2 dX7_worth_94
  by_cases c_9 : (pl - pl / 5 * 5) = 3
  · refine k_topi (v := 3) c_9 ?_
    refine lv_tableIn (off := 71) (tgt := 74) hx₀ hb dX7_worth_3 (by decide +kernel) (by decide +kernel) (by decide +kernel) (by decide) ?_
    refine lv_iload_n hx₀ hb dX7_worth_74 rfl (lv_at hl 2 rfl) ?_
    refine lv_bipush (v := 49) hx₀ hb dX7_worth_75 (by decide +kernel) ?_
    refine lv_icmp_lt (tgt := 93) hx₀ hb dX7_worth_77 (by decide) (fun c_10 => ?_) (fun c_10 => ?_)
    · refine lv_iconst (v := (-1)) hx₀ hb dX7_worth_93 (by decide +kernel) ?_
      have hP9 := hP.sub (ws' := [(ah, .inr (7, [.ref av, .int ln, .int fa, .int nu]))]) [0] rfl
      have hD9 := hD.sub (ws' := [(ah, .inr (7, [.ref av, .int ln, .int fa, .int nu]))]) [0] (by decide) rfl
      exact W.iret (v := (-1)) hx₀ hb hr (fun t₀ ht hW => ⟨⟨(-1), (), rfl, trivial, by rw [ht]; exact hP9, va_K.moved hW.alike hK, hD9⟩, hS.F ht⟩) hS.2.2 dX7_worth_94
    · refine lv_iload_n hx₀ hb dX7_worth_80 rfl (lv_at hl 2 rfl) ?_
      refine lv_bipush (v := 57) hx₀ hb dX7_worth_81 (by decide +kernel) ?_
      refine lv_icmp_gt (tgt := 93) hx₀ hb dX7_worth_83 (by decide) (fun c_11 => ?_) (fun c_11 => ?_)
      · refine lv_iconst (v := (-1)) hx₀ hb dX7_worth_93 (by decide +kernel) ?_
        have hP9 := hP.sub (ws' := [(ah, .inr (7, [.ref av, .int ln, .int fa, .int nu]))]) [0] rfl
        have hD9 := hD.sub (ws' := [(ah, .inr (7, [.ref av, .int ln, .int fa, .int nu]))]) [0] (by decide) rfl
        exact W.iret (v := (-1)) hx₀ hb hr (fun t₀ ht hW => ⟨⟨(-1), (), rfl, trivial, by rw [ht]; exact hP9, va_K.moved hW.alike hK, hD9⟩, hS.F ht⟩) hS.2.2 dX7_worth_94
      · refine lv_iload_n hx₀ hb dX7_worth_86 rfl (lv_at hl 2 rfl) ?_
        refine lv_bipush (v := 48) hx₀ hb dX7_worth_87 (by decide +kernel) ?_
        refine lv_isub hx₀ hb dX7_worth_89 ?_
        refine lv_goto (tgt := 94) hx₀ hb dX7_worth_90 (by decide) ?_
        have hP9 := hP.sub (ws' := [(ah, .inr (7, [.ref av, .int ln, .int fa, .int nu]))]) [0] rfl
        have hD9 := hD.sub (ws' := [(ah, .inr (7, [.ref av, .int ln, .int fa, .int nu]))]) [0] (by decide) rfl
        exact W.iret (v := b1 - 48) hx₀ hb hr (fun t₀ ht hW => ⟨⟨b1 - 48, (), rfl, trivial, by rw [ht]; exact hP9, va_K.moved hW.alike hK, hD9⟩, hS.F ht⟩) hS.2.2 dX7_worth_94
  by_cases c_12 : (pl - pl / 5 * 5) = 4
  · refine k_topi (v := 4) c_12 ?_
    refine lv_tableIn (off := 59) (tgt := 62) hx₀ hb dX7_worth_3 (by decide +kernel) (by decide +kernel) (by decide +kernel) (by decide) ?_
    refine lv_iload_n hx₀ hb dX7_worth_62 rfl (lv_at hl 2 rfl) ?_
    refine lv_bipush (v := 59) hx₀ hb dX7_worth_63 (by decide +kernel) ?_
    refine lv_icmp_ne (tgt := 72) hx₀ hb dX7_worth_65 (by decide) (fun c_13 => ?_) (fun c_13 => ?_)
    · refine lv_iconst (v := (-1)) hx₀ hb dX7_worth_72 (by decide +kernel) ?_
      have hP9 := hP.sub (ws' := [(ah, .inr (7, [.ref av, .int ln, .int fa, .int nu]))]) [0] rfl
      have hD9 := hD.sub (ws' := [(ah, .inr (7, [.ref av, .int ln, .int fa, .int nu]))]) [0] (by decide) rfl
      exact W.iret (v := (-1)) hx₀ hb hr (fun t₀ ht hW => ⟨⟨(-1), (), rfl, trivial, by rw [ht]; exact hP9, va_K.moved hW.alike hK, hD9⟩, hS.F ht⟩) hS.2.2 dX7_worth_73
    · refine lv_iconst (v := 0) hx₀ hb dX7_worth_68 (by decide +kernel) ?_
      refine lv_goto (tgt := 73) hx₀ hb dX7_worth_69 (by decide) ?_
      have hP9 := hP.sub (ws' := [(ah, .inr (7, [.ref av, .int ln, .int fa, .int nu]))]) [0] rfl
      have hD9 := hD.sub (ws' := [(ah, .inr (7, [.ref av, .int ln, .int fa, .int nu]))]) [0] (by decide) rfl
      exact W.iret (v := 0) hx₀ hb hr (fun t₀ ht hW => ⟨⟨0, (), rfl, trivial, by rw [ht]; exact hP9, va_K.moved hW.alike hK, hD9⟩, hS.F ht⟩) hS.2.2 dX7_worth_73
  refine lv_tableOut (tgt := 74) hx₀ hb dX7_worth_3 (k_out5 c_1 c_3 c_6 c_9 c_12) (by decide) ?_
  refine lv_iload_n hx₀ hb dX7_worth_74 rfl (lv_at hl 2 rfl) ?_
  refine lv_bipush (v := 49) hx₀ hb dX7_worth_75 (by decide +kernel) ?_
  refine lv_icmp_lt (tgt := 93) hx₀ hb dX7_worth_77 (by decide) (fun c_14 => ?_) (fun c_14 => ?_)
  · refine lv_iconst (v := (-1)) hx₀ hb dX7_worth_93 (by decide +kernel) ?_
    have hP9 := hP.sub (ws' := [(ah, .inr (7, [.ref av, .int ln, .int fa, .int nu]))]) [0] rfl
    have hD9 := hD.sub (ws' := [(ah, .inr (7, [.ref av, .int ln, .int fa, .int nu]))]) [0] (by decide) rfl
    exact W.iret (v := (-1)) hx₀ hb hr (fun t₀ ht hW => ⟨⟨(-1), (), rfl, trivial, by rw [ht]; exact hP9, va_K.moved hW.alike hK, hD9⟩, hS.F ht⟩) hS.2.2 dX7_worth_94
  · refine lv_iload_n hx₀ hb dX7_worth_80 rfl (lv_at hl 2 rfl) ?_
    refine lv_bipush (v := 57) hx₀ hb dX7_worth_81 (by decide +kernel) ?_
    refine lv_icmp_gt (tgt := 93) hx₀ hb dX7_worth_83 (by decide) (fun c_15 => ?_) (fun c_15 => ?_)
    · refine lv_iconst (v := (-1)) hx₀ hb dX7_worth_93 (by decide +kernel) ?_
      have hP9 := hP.sub (ws' := [(ah, .inr (7, [.ref av, .int ln, .int fa, .int nu]))]) [0] rfl
      have hD9 := hD.sub (ws' := [(ah, .inr (7, [.ref av, .int ln, .int fa, .int nu]))]) [0] (by decide) rfl
      exact W.iret (v := (-1)) hx₀ hb hr (fun t₀ ht hW => ⟨⟨(-1), (), rfl, trivial, by rw [ht]; exact hP9, va_K.moved hW.alike hK, hD9⟩, hS.F ht⟩) hS.2.2 dX7_worth_94
    · refine lv_iload_n hx₀ hb dX7_worth_86 rfl (lv_at hl 2 rfl) ?_
      refine lv_bipush (v := 48) hx₀ hb dX7_worth_87 (by decide +kernel) ?_
      refine lv_isub hx₀ hb dX7_worth_89 ?_
      refine lv_goto (tgt := 94) hx₀ hb dX7_worth_90 (by decide) ?_
      have hP9 := hP.sub (ws' := [(ah, .inr (7, [.ref av, .int ln, .int fa, .int nu]))]) [0] rfl
      have hD9 := hD.sub (ws' := [(ah, .inr (7, [.ref av, .int ln, .int fa, .int nu]))]) [0] (by decide) rfl
      exact W.iret (v := b1 - 48) hx₀ hb hr (fun t₀ ht hW => ⟨⟨b1 - 48, (), rfl, trivial, by rw [ht]; exact hP9, va_K.moved hW.alike hK, hD9⟩, hS.F ht⟩) hS.2.2 dX7_worth_94
set_option maxHeartbeats 4000000 in
set_option maxRecDepth 100000 in
theorem j_things_X7 (l : Launch) (dC : Nat → ClassId) (dI : Nat → Nat → Nat) (cI cJ cQ : ClassId) (sz : Nat) (ah : Nat) (b1 : Int32) (av : Nat) (ln : Int32) (fa : Int32) (nu : Int32) (hh0 : 0 ≤ b1) : Met l yX7_thingsIn (kW yX7_thingsIn cX7_thingsIn 2 (some .int)) { frames := 0, cells := 0, slots := 0, locals := 0 } (kPre dC dI cI cJ cQ sz [.ref ah, .int b1] [(ah, .inr (7, [.ref av, .int ln, .int fa, .int nu]))]) (va_Qi (fun (r : Int32) (u : Unit) => True) (fun (u : Unit) t₀ => kB dC dI cI cJ cQ (va_A [(ah, .inr (7, [.ref av, .int ln, .int fa, .int nu]))] sz) [(ah, .inr (7, [.ref av, .int ln, .int fa, .int nu]))] t₀) (va_A [(ah, .inr (7, [.ref av, .int ln, .int fa, .int nu]))] sz)) 0 0 (va_A [(ah, .inr (7, [.ref av, .int ln, .int fa, .int nu]))] sz) := by
  refine Met.ofW (cc := cX7_thingsIn) (maxL := 2) (ret := (some .int)) (by decide) rfl ?_
  intro p₀ e₀ s₀ m₀ args below meth c₀ s₁ B hml hv₀
  obtain ⟨rfl, hsz, hP, hK, hD0, hN⟩ := hv₀
  have hx₀ := B.exec
  have hb := B.bytes
  have hr := B.returns
  have hts := atoms_spec (ws := (kW yX7_thingsIn cX7_thingsIn 2 (some .int))) B.pre
  have hts := fun w h => hts w (List.mem_cons_of_mem _ h)
  have hown : s₀.vm.findClass RX7 = some m₀.cls := findClass_of_methodNamed B.named
  have hlocks := B.notSynchronized
  subst hsz
  have hD := hD0.self (sz := s₀.heap.size)
  generalize hAe : va_A [(ah, .inr (7, [.ref av, .int ln, .int fa, .int nu]))] s₀.heap.size = A at hD ⊢
  have hA : ∀ q : Nat, s₀.heap.size ≤ q → A q := fun q h => by rw [← hAe]; exact Or.inr h
  have hS : va_S A s₀.heap s₀.heap [] := va_S.rf
  have hP : va_P (dC, dI) vwCl [(ah, .inr (7, [.ref av, .int ln, .int fa, .int nu]))] s₀.heap := hP
  have hl := lv_entry ([.ref ah, .int b1]) (n := 2) (Nat.le_of_ble_eq_true rfl)
  rw [lg_entry_eq]
  generalize (lg_sl ([.ref ah, .int b1]) ++ List.replicate (2 - (lg_sl ([.ref ah, .int b1])).length) Slot.unset).toArray = ls at hl ⊢
  have hl : lv_has ls 2 [(0, .ref ah), (1, .int b1)] := hl
  obtain ⟨H, hH⟩ : ∃ z : Heap, z = s₀.heap := ⟨_, rfl⟩
  rw [← hH] at hP
  have hS : va_S A s₀.heap H [] := by rw [hH]; exact hS
  refine k_heap hH ?_
  have hD : va_D A [(ah, .inr (7, [.ref av, .int ln, .int fa, .int nu]))] := hD
  obtain ⟨locs, hlo⟩ : ∃ z : List Loc, z = [] := ⟨_, rfl⟩
  rw [← hlo] at hS ⊢
  clear hlo hH hAe hD0
  refine lv_iload_n hx₀ hb dX7_thingsIn_0 rfl (lv_at hl 1 rfl) ?_
  refine lv_if_ne (tgt := 6) hx₀ hb dX7_thingsIn_1 (by decide) (fun c_1 => ?_) (fun c_1 => ?_)
  · refine lv_iload_n hx₀ hb dX7_thingsIn_6 rfl (lv_at hl 1 rfl) ?_
    refine lv_iconst (v := 5) hx₀ hb dX7_thingsIn_7 (by decide +kernel) ?_
    refine lv_irem hx₀ hb dX7_thingsIn_8 (by decide +kernel) ?_
    refine lv_iconst (v := 4) hx₀ hb dX7_thingsIn_9 (by decide +kernel) ?_
    refine lv_icmp_ne (tgt := 21) hx₀ hb dX7_thingsIn_10 (by decide) (fun c_2 => ?_) (fun c_2 => ?_)
    · refine lv_iconst (v := (-1)) hx₀ hb dX7_thingsIn_21 (by decide +kernel) ?_
      have hP9 := hP.sub (ws' := [(ah, .inr (7, [.ref av, .int ln, .int fa, .int nu]))]) [0] rfl
      have hD9 := hD.sub (ws' := [(ah, .inr (7, [.ref av, .int ln, .int fa, .int nu]))]) [0] (by decide) rfl
      exact W.iret (v := (-1)) hx₀ hb hr (fun t₀ ht hW => ⟨⟨(-1), (), rfl, trivial, by rw [ht]; exact hP9, va_K.moved hW.alike hK, hD9⟩, hS.F ht⟩) hS.2.2 dX7_thingsIn_22
    · refine lv_iload_n hx₀ hb dX7_thingsIn_13 rfl (lv_at hl 1 rfl) ?_
      refine lv_iconst (v := 1) hx₀ hb dX7_thingsIn_14 (by decide +kernel) ?_
      refine lv_iadd hx₀ hb dX7_thingsIn_15 ?_
      refine lv_iconst (v := 5) hx₀ hb dX7_thingsIn_16 (by decide +kernel) ?_
      refine lv_idiv hx₀ hb dX7_thingsIn_17 (by decide +kernel) ?_
      refine lv_goto (tgt := 22) hx₀ hb dX7_thingsIn_18 (by decide) ?_
      have hP9 := hP.sub (ws' := [(ah, .inr (7, [.ref av, .int ln, .int fa, .int nu]))]) [0] rfl
      have hD9 := hD.sub (ws' := [(ah, .inr (7, [.ref av, .int ln, .int fa, .int nu]))]) [0] (by decide) rfl
      exact W.iret (v := (b1 + 1) / 5) hx₀ hb hr (fun t₀ ht hW => ⟨⟨(b1 + 1) / 5, (), rfl, trivial, by rw [ht]; exact hP9, va_K.moved hW.alike hK, hD9⟩, hS.F ht⟩) hS.2.2 dX7_thingsIn_22
  · refine lv_iconst (v := 0) hx₀ hb dX7_thingsIn_4 (by decide +kernel) ?_
    have hP9 := hP.sub (ws' := [(ah, .inr (7, [.ref av, .int ln, .int fa, .int nu]))]) [0] rfl
    have hD9 := hD.sub (ws' := [(ah, .inr (7, [.ref av, .int ln, .int fa, .int nu]))]) [0] (by decide) rfl
    exact W.iret (v := 0) hx₀ hb hr (fun t₀ ht hW => ⟨⟨0, (), rfl, trivial, by rw [ht]; exact hP9, va_K.moved hW.alike hK, hD9⟩, hS.F ht⟩) hS.2.2 dX7_thingsIn_5
theorem lf_j_isFull_X2_1 (ln : Int32) (c_1 : ln < 23) : (0 : Int32) = if 23 ≤ ln then 1 else 0 := by
  (repeat' split) <;> first | rfl | contradiction | assumption | (exfalso; (first | rfl | assumption | decide | omega | (have hr0 := Int32.toInt_lt ln; have hs0 := Int32.le_toInt ln; simp only [Int64.toInt_add, Int64.toInt_sub, Int32.toInt_add, Int32.toInt_sub, Int32.toInt_mul, Int32.toInt_neg, Int64.le_iff_toInt_le, Int64.lt_iff_toInt_lt, Int32.le_iff_toInt_le, Int32.lt_iff_toInt_lt, ← Int32.toInt_inj, ← Int64.toInt_inj, Int32.toInt_toInt64, (show (0 : Int32).toInt = 0 from by decide), (show (0 : Int64).toInt = 0 from by decide), (show (1 : Int32).toInt = 1 from by decide), (show (1 : Int64).toInt = 1 from by decide), (show (23 : Int32).toInt = 23 from by decide), (show (23 : Int64).toInt = 23 from by decide), true_and, and_true, not_true_eq_false, not_false_eq_true] at * <;> ((first | omega | ((try simp (disch := omega) only [k_bm64] at *); (try simp (disch := omega) only [k_bm] at *); (try simp (disch := omega) only [k_bm] at *); omega) | (simp only [Int.bmod] at *; omega)))))) | (first | rfl | assumption | decide | omega | (have hr0 := Int32.toInt_lt ln; have hs0 := Int32.le_toInt ln; simp only [Int64.toInt_add, Int64.toInt_sub, Int32.toInt_add, Int32.toInt_sub, Int32.toInt_mul, Int32.toInt_neg, Int64.le_iff_toInt_le, Int64.lt_iff_toInt_lt, Int32.le_iff_toInt_le, Int32.lt_iff_toInt_lt, ← Int32.toInt_inj, ← Int64.toInt_inj, Int32.toInt_toInt64, (show (0 : Int32).toInt = 0 from by decide), (show (0 : Int64).toInt = 0 from by decide), (show (1 : Int32).toInt = 1 from by decide), (show (1 : Int64).toInt = 1 from by decide), (show (23 : Int32).toInt = 23 from by decide), (show (23 : Int64).toInt = 23 from by decide), true_and, and_true, not_true_eq_false, not_false_eq_true] at * <;> ((first | omega | ((try simp (disch := omega) only [k_bm64] at *); (try simp (disch := omega) only [k_bm] at *); (try simp (disch := omega) only [k_bm] at *); omega) | (simp only [Int.bmod] at *; omega)))))
theorem lf_j_isFull_X2_2 (ln : Int32) (c_1 : ¬ ln < 23) : (1 : Int32) = if 23 ≤ ln then 1 else 0 := by
  (repeat' split) <;> first | rfl | contradiction | assumption | (exfalso; (first | rfl | assumption | decide | omega | (have hr0 := Int32.toInt_lt ln; have hs0 := Int32.le_toInt ln; simp only [Int64.toInt_add, Int64.toInt_sub, Int32.toInt_add, Int32.toInt_sub, Int32.toInt_mul, Int32.toInt_neg, Int64.le_iff_toInt_le, Int64.lt_iff_toInt_lt, Int32.le_iff_toInt_le, Int32.lt_iff_toInt_lt, ← Int32.toInt_inj, ← Int64.toInt_inj, Int32.toInt_toInt64, (show (0 : Int32).toInt = 0 from by decide), (show (0 : Int64).toInt = 0 from by decide), (show (1 : Int32).toInt = 1 from by decide), (show (1 : Int64).toInt = 1 from by decide), (show (23 : Int32).toInt = 23 from by decide), (show (23 : Int64).toInt = 23 from by decide), true_and, and_true, not_true_eq_false, not_false_eq_true] at * <;> ((first | omega | ((try simp (disch := omega) only [k_bm64] at *); (try simp (disch := omega) only [k_bm] at *); (try simp (disch := omega) only [k_bm] at *); omega) | (simp only [Int.bmod] at *; omega)))))) | (first | rfl | assumption | decide | omega | (have hr0 := Int32.toInt_lt ln; have hs0 := Int32.le_toInt ln; simp only [Int64.toInt_add, Int64.toInt_sub, Int32.toInt_add, Int32.toInt_sub, Int32.toInt_mul, Int32.toInt_neg, Int64.le_iff_toInt_le, Int64.lt_iff_toInt_lt, Int32.le_iff_toInt_le, Int32.lt_iff_toInt_lt, ← Int32.toInt_inj, ← Int64.toInt_inj, Int32.toInt_toInt64, (show (0 : Int32).toInt = 0 from by decide), (show (0 : Int64).toInt = 0 from by decide), (show (1 : Int32).toInt = 1 from by decide), (show (1 : Int64).toInt = 1 from by decide), (show (23 : Int32).toInt = 23 from by decide), (show (23 : Int64).toInt = 23 from by decide), true_and, and_true, not_true_eq_false, not_false_eq_true] at * <;> ((first | omega | ((try simp (disch := omega) only [k_bm64] at *); (try simp (disch := omega) only [k_bm] at *); (try simp (disch := omega) only [k_bm] at *); omega) | (simp only [Int.bmod] at *; omega)))))
set_option maxHeartbeats 4000000 in
set_option maxRecDepth 100000 in
theorem j_isFull_X2 (l : Launch) (dC : Nat → ClassId) (dI : Nat → Nat → Nat) (cI cJ cQ : ClassId) (sz : Nat) (ah : Nat) (av : Nat) (ln : Int32) (fa : Int32) (nu : Int32) (tf : Nat → Int32) : Met l yX9_isFull (kW yX9_isFull cX9_isFull 1 (some .boolean)) { frames := 0, cells := 0, slots := 0, locals := 0 } (kPre dC dI cI cJ cQ sz [.ref ah] [(ah, .inr (2, [.ref av, .int ln, .int fa, .int nu])), (av, .inl (cI, 23, .inl tf))]) (va_Qi (fun (r : Int32) (u : Unit) => (r = if 23 ≤ ln then 1 else 0)) (fun (u : Unit) t₀ => kB dC dI cI cJ cQ (va_A [(ah, .inr (2, [.ref av, .int ln, .int fa, .int nu])), (av, .inl (cI, 23, .inl tf))] sz) [(ah, .inr (2, [.ref av, .int ln, .int fa, .int nu])), (av, .inl (cI, 23, .inl tf))] t₀) (va_A [(ah, .inr (2, [.ref av, .int ln, .int fa, .int nu])), (av, .inl (cI, 23, .inl tf))] sz)) 0 0 (va_A [(ah, .inr (2, [.ref av, .int ln, .int fa, .int nu])), (av, .inl (cI, 23, .inl tf))] sz) := by
  refine Met.ofW (cc := cX9_isFull) (maxL := 1) (ret := (some .boolean)) (by decide) rfl ?_
  intro p₀ e₀ s₀ m₀ args below meth c₀ s₁ B hml hv₀
  obtain ⟨rfl, hsz, hP, hK, hD0, hN⟩ := hv₀
  have hx₀ := B.exec
  have hb := B.bytes
  have hr := B.returns
  have hts := atoms_spec (ws := (kW yX9_isFull cX9_isFull 1 (some .boolean))) B.pre
  have hts := fun w h => hts w (List.mem_cons_of_mem _ h)
  have hown : s₀.vm.findClass RX9 = some m₀.cls := findClass_of_methodNamed B.named
  have hlocks := B.notSynchronized
  subst hsz
  have hD := hD0.self (sz := s₀.heap.size)
  generalize hAe : va_A [(ah, .inr (2, [.ref av, .int ln, .int fa, .int nu])), (av, .inl (cI, 23, .inl tf))] s₀.heap.size = A at hD ⊢
  have hA : ∀ q : Nat, s₀.heap.size ≤ q → A q := fun q h => by rw [← hAe]; exact Or.inr h
  have hS : va_S A s₀.heap s₀.heap [] := va_S.rf
  have hP : va_P (dC, dI) vwCl [(ah, .inr (2, [.ref av, .int ln, .int fa, .int nu])), (av, .inl (cI, 23, .inl tf))] s₀.heap := hP
  have hl := lv_entry ([.ref ah]) (n := 1) (Nat.le_of_ble_eq_true rfl)
  rw [lg_entry_eq]
  generalize (lg_sl ([.ref ah]) ++ List.replicate (1 - (lg_sl ([.ref ah])).length) Slot.unset).toArray = ls at hl ⊢
  have hl : lv_has ls 1 [(0, .ref ah)] := hl
  obtain ⟨H, hH⟩ : ∃ z : Heap, z = s₀.heap := ⟨_, rfl⟩
  rw [← hH] at hP
  have hS : va_S A s₀.heap H [] := by rw [hH]; exact hS
  refine k_heap hH ?_
  have hD : va_D A [(ah, .inr (2, [.ref av, .int ln, .int fa, .int nu])), (av, .inl (cI, 23, .inl tf))] := hD
  obtain ⟨locs, hlo⟩ : ∃ z : List Loc, z = [] := ⟨_, rfl⟩
  rw [← hlo] at hS ⊢
  clear hlo hH hAe hD0
  refine lv_aload_n hx₀ hb dX9_isFull_0 rfl (lv_at hl 0 rfl) ?_
  refine va_get (D := (dC, dI)) (ci := 2) (v := .int ln) (C := RX2) (T := TX2) (N := 4) hx₀ hb hts inlX2 hown hK hP 0 rfl rfl 1 (by decide) (hts (.fieldLink RX9 25 "BittenStick$Text" "length" "I") wd_147) (fun _ h9 => h9) rfl dX9_isFull_1 ?_
  refine lv_aload_n hx₀ hb dX9_isFull_4 rfl (lv_at hl 0 rfl) ?_
  refine va_get (D := (dC, dI)) (ci := 2) (v := .ref av) (C := RX2) (T := TX2) (N := 4) hx₀ hb hts inlX2 hown hK hP 0 rfl rfl 0 (by decide) (hts (.fieldLink RX9 21 "BittenStick$Text" "values" "[I") wd_65) (fun _ h9 => h9) rfl dX9_isFull_5 ?_
  refine va_alen (v := 23) hx₀ hb hK hP 1 0 rfl rfl rfl dX9_isFull_8 ?_
  refine lv_icmp_lt (tgt := 16) hx₀ hb dX9_isFull_9 (by decide) (fun c_1 => ?_) (fun c_1 => ?_)
  · refine lv_iconst (v := 0) hx₀ hb dX9_isFull_16 (by decide +kernel) ?_
    have hP9 := hP.sub (ws' := [(ah, .inr (2, [.ref av, .int ln, .int fa, .int nu])), (av, .inl (cI, 23, .inl tf))]) [0, 1] rfl
    have hD9 := hD.sub (ws' := [(ah, .inr (2, [.ref av, .int ln, .int fa, .int nu])), (av, .inl (cI, 23, .inl tf))]) [0, 1] (by decide) rfl
    exact W.zret (v := 0) hx₀ hb hr (by decide +kernel) (fun t₀ ht hW => ⟨⟨0, (), rfl, (lf_j_isFull_X2_1 ln c_1), by rw [ht]; exact hP9, va_K.moved hW.alike hK, hD9⟩, hS.F ht⟩) hS.2.2 dX9_isFull_17
  · refine lv_iconst (v := 1) hx₀ hb dX9_isFull_12 (by decide +kernel) ?_
    refine lv_goto (tgt := 17) hx₀ hb dX9_isFull_13 (by decide) ?_
    have hP9 := hP.sub (ws' := [(ah, .inr (2, [.ref av, .int ln, .int fa, .int nu])), (av, .inl (cI, 23, .inl tf))]) [0, 1] rfl
    have hD9 := hD.sub (ws' := [(ah, .inr (2, [.ref av, .int ln, .int fa, .int nu])), (av, .inl (cI, 23, .inl tf))]) [0, 1] (by decide) rfl
    exact W.zret (v := 1) hx₀ hb hr (by decide +kernel) (fun t₀ ht hW => ⟨⟨1, (), rfl, (lf_j_isFull_X2_2 ln c_1), by rw [ht]; exact hP9, va_K.moved hW.alike hK, hD9⟩, hS.F ht⟩) hS.2.2 dX9_isFull_17
theorem lf_j_has_X2_1 (k1 : Int32) (nu : Int32) (c_1 : k1 < 0) : (0 : Int32) = if 0 ≤ k1 ∧ k1 < nu then 1 else 0 := by
  (repeat' split) <;> first | rfl | contradiction | assumption | (exfalso; (first | rfl | assumption | decide | omega | (have hr0 := Int32.toInt_lt k1; have hs0 := Int32.le_toInt k1; have hr1 := Int32.toInt_lt nu; have hs1 := Int32.le_toInt nu; simp only [Int64.toInt_add, Int64.toInt_sub, Int32.toInt_add, Int32.toInt_sub, Int32.toInt_mul, Int32.toInt_neg, Int64.le_iff_toInt_le, Int64.lt_iff_toInt_lt, Int32.le_iff_toInt_le, Int32.lt_iff_toInt_lt, ← Int32.toInt_inj, ← Int64.toInt_inj, Int32.toInt_toInt64, (show (0 : Int32).toInt = 0 from by decide), (show (0 : Int64).toInt = 0 from by decide), (show (1 : Int32).toInt = 1 from by decide), (show (1 : Int64).toInt = 1 from by decide), true_and, and_true, not_true_eq_false, not_false_eq_true] at * <;> ((first | omega | ((try simp (disch := omega) only [k_bm64] at *); (try simp (disch := omega) only [k_bm] at *); (try simp (disch := omega) only [k_bm] at *); omega) | (simp only [Int.bmod] at *; omega)))))) | (first | rfl | assumption | decide | omega | (have hr0 := Int32.toInt_lt k1; have hs0 := Int32.le_toInt k1; have hr1 := Int32.toInt_lt nu; have hs1 := Int32.le_toInt nu; simp only [Int64.toInt_add, Int64.toInt_sub, Int32.toInt_add, Int32.toInt_sub, Int32.toInt_mul, Int32.toInt_neg, Int64.le_iff_toInt_le, Int64.lt_iff_toInt_lt, Int32.le_iff_toInt_le, Int32.lt_iff_toInt_lt, ← Int32.toInt_inj, ← Int64.toInt_inj, Int32.toInt_toInt64, (show (0 : Int32).toInt = 0 from by decide), (show (0 : Int64).toInt = 0 from by decide), (show (1 : Int32).toInt = 1 from by decide), (show (1 : Int64).toInt = 1 from by decide), true_and, and_true, not_true_eq_false, not_false_eq_true] at * <;> ((first | omega | ((try simp (disch := omega) only [k_bm64] at *); (try simp (disch := omega) only [k_bm] at *); (try simp (disch := omega) only [k_bm] at *); omega) | (simp only [Int.bmod] at *; omega)))))
theorem lf_j_has_X2_2 (k1 : Int32) (nu : Int32) (c_1 : ¬ k1 < 0) (c_2 : nu ≤ k1) : (0 : Int32) = if 0 ≤ k1 ∧ k1 < nu then 1 else 0 := by
  (repeat' split) <;> first | rfl | contradiction | assumption | (exfalso; (first | rfl | assumption | decide | omega | (have hr0 := Int32.toInt_lt k1; have hs0 := Int32.le_toInt k1; have hr1 := Int32.toInt_lt nu; have hs1 := Int32.le_toInt nu; simp only [Int64.toInt_add, Int64.toInt_sub, Int32.toInt_add, Int32.toInt_sub, Int32.toInt_mul, Int32.toInt_neg, Int64.le_iff_toInt_le, Int64.lt_iff_toInt_lt, Int32.le_iff_toInt_le, Int32.lt_iff_toInt_lt, ← Int32.toInt_inj, ← Int64.toInt_inj, Int32.toInt_toInt64, (show (0 : Int32).toInt = 0 from by decide), (show (0 : Int64).toInt = 0 from by decide), (show (1 : Int32).toInt = 1 from by decide), (show (1 : Int64).toInt = 1 from by decide), true_and, and_true, not_true_eq_false, not_false_eq_true] at * <;> ((first | omega | ((try simp (disch := omega) only [k_bm64] at *); (try simp (disch := omega) only [k_bm] at *); (try simp (disch := omega) only [k_bm] at *); omega) | (simp only [Int.bmod] at *; omega)))))) | (first | rfl | assumption | decide | omega | (have hr0 := Int32.toInt_lt k1; have hs0 := Int32.le_toInt k1; have hr1 := Int32.toInt_lt nu; have hs1 := Int32.le_toInt nu; simp only [Int64.toInt_add, Int64.toInt_sub, Int32.toInt_add, Int32.toInt_sub, Int32.toInt_mul, Int32.toInt_neg, Int64.le_iff_toInt_le, Int64.lt_iff_toInt_lt, Int32.le_iff_toInt_le, Int32.lt_iff_toInt_lt, ← Int32.toInt_inj, ← Int64.toInt_inj, Int32.toInt_toInt64, (show (0 : Int32).toInt = 0 from by decide), (show (0 : Int64).toInt = 0 from by decide), (show (1 : Int32).toInt = 1 from by decide), (show (1 : Int64).toInt = 1 from by decide), true_and, and_true, not_true_eq_false, not_false_eq_true] at * <;> ((first | omega | ((try simp (disch := omega) only [k_bm64] at *); (try simp (disch := omega) only [k_bm] at *); (try simp (disch := omega) only [k_bm] at *); omega) | (simp only [Int.bmod] at *; omega)))))
theorem lf_j_has_X2_3 (k1 : Int32) (nu : Int32) (c_1 : ¬ k1 < 0) (c_2 : ¬ nu ≤ k1) : (1 : Int32) = if 0 ≤ k1 ∧ k1 < nu then 1 else 0 := by
  (repeat' split) <;> first | rfl | contradiction | assumption | (exfalso; (first | rfl | assumption | decide | omega | (have hr0 := Int32.toInt_lt k1; have hs0 := Int32.le_toInt k1; have hr1 := Int32.toInt_lt nu; have hs1 := Int32.le_toInt nu; simp only [Int64.toInt_add, Int64.toInt_sub, Int32.toInt_add, Int32.toInt_sub, Int32.toInt_mul, Int32.toInt_neg, Int64.le_iff_toInt_le, Int64.lt_iff_toInt_lt, Int32.le_iff_toInt_le, Int32.lt_iff_toInt_lt, ← Int32.toInt_inj, ← Int64.toInt_inj, Int32.toInt_toInt64, (show (0 : Int32).toInt = 0 from by decide), (show (0 : Int64).toInt = 0 from by decide), (show (1 : Int32).toInt = 1 from by decide), (show (1 : Int64).toInt = 1 from by decide), true_and, and_true, not_true_eq_false, not_false_eq_true] at * <;> ((first | omega | ((try simp (disch := omega) only [k_bm64] at *); (try simp (disch := omega) only [k_bm] at *); (try simp (disch := omega) only [k_bm] at *); omega) | (simp only [Int.bmod] at *; omega)))))) | (first | rfl | assumption | decide | omega | (have hr0 := Int32.toInt_lt k1; have hs0 := Int32.le_toInt k1; have hr1 := Int32.toInt_lt nu; have hs1 := Int32.le_toInt nu; simp only [Int64.toInt_add, Int64.toInt_sub, Int32.toInt_add, Int32.toInt_sub, Int32.toInt_mul, Int32.toInt_neg, Int64.le_iff_toInt_le, Int64.lt_iff_toInt_lt, Int32.le_iff_toInt_le, Int32.lt_iff_toInt_lt, ← Int32.toInt_inj, ← Int64.toInt_inj, Int32.toInt_toInt64, (show (0 : Int32).toInt = 0 from by decide), (show (0 : Int64).toInt = 0 from by decide), (show (1 : Int32).toInt = 1 from by decide), (show (1 : Int64).toInt = 1 from by decide), true_and, and_true, not_true_eq_false, not_false_eq_true] at * <;> ((first | omega | ((try simp (disch := omega) only [k_bm64] at *); (try simp (disch := omega) only [k_bm] at *); (try simp (disch := omega) only [k_bm] at *); omega) | (simp only [Int.bmod] at *; omega)))))
set_option maxHeartbeats 4000000 in
set_option maxRecDepth 100000 in
theorem j_has_X2 (l : Launch) (dC : Nat → ClassId) (dI : Nat → Nat → Nat) (cI cJ cQ : ClassId) (sz : Nat) (ah : Nat) (k1 : Int32) (av : Nat) (ln : Int32) (fa : Int32) (nu : Int32) : Met l yX9_has (kW yX9_has cX9_has 2 (some .boolean)) { frames := 0, cells := 0, slots := 0, locals := 0 } (kPre dC dI cI cJ cQ sz [.ref ah, .int k1] [(ah, .inr (2, [.ref av, .int ln, .int fa, .int nu]))]) (va_Qi (fun (r : Int32) (u : Unit) => (r = if 0 ≤ k1 ∧ k1 < nu then 1 else 0)) (fun (u : Unit) t₀ => kB dC dI cI cJ cQ (va_A [(ah, .inr (2, [.ref av, .int ln, .int fa, .int nu]))] sz) [(ah, .inr (2, [.ref av, .int ln, .int fa, .int nu]))] t₀) (va_A [(ah, .inr (2, [.ref av, .int ln, .int fa, .int nu]))] sz)) 0 0 (va_A [(ah, .inr (2, [.ref av, .int ln, .int fa, .int nu]))] sz) := by
  refine Met.ofW (cc := cX9_has) (maxL := 2) (ret := (some .boolean)) (by decide) rfl ?_
  intro p₀ e₀ s₀ m₀ args below meth c₀ s₁ B hml hv₀
  obtain ⟨rfl, hsz, hP, hK, hD0, hN⟩ := hv₀
  have hx₀ := B.exec
  have hb := B.bytes
  have hr := B.returns
  have hts := atoms_spec (ws := (kW yX9_has cX9_has 2 (some .boolean))) B.pre
  have hts := fun w h => hts w (List.mem_cons_of_mem _ h)
  have hown : s₀.vm.findClass RX9 = some m₀.cls := findClass_of_methodNamed B.named
  have hlocks := B.notSynchronized
  subst hsz
  have hD := hD0.self (sz := s₀.heap.size)
  generalize hAe : va_A [(ah, .inr (2, [.ref av, .int ln, .int fa, .int nu]))] s₀.heap.size = A at hD ⊢
  have hA : ∀ q : Nat, s₀.heap.size ≤ q → A q := fun q h => by rw [← hAe]; exact Or.inr h
  have hS : va_S A s₀.heap s₀.heap [] := va_S.rf
  have hP : va_P (dC, dI) vwCl [(ah, .inr (2, [.ref av, .int ln, .int fa, .int nu]))] s₀.heap := hP
  have hl := lv_entry ([.ref ah, .int k1]) (n := 2) (Nat.le_of_ble_eq_true rfl)
  rw [lg_entry_eq]
  generalize (lg_sl ([.ref ah, .int k1]) ++ List.replicate (2 - (lg_sl ([.ref ah, .int k1])).length) Slot.unset).toArray = ls at hl ⊢
  have hl : lv_has ls 2 [(0, .ref ah), (1, .int k1)] := hl
  obtain ⟨H, hH⟩ : ∃ z : Heap, z = s₀.heap := ⟨_, rfl⟩
  rw [← hH] at hP
  have hS : va_S A s₀.heap H [] := by rw [hH]; exact hS
  refine k_heap hH ?_
  have hD : va_D A [(ah, .inr (2, [.ref av, .int ln, .int fa, .int nu]))] := hD
  obtain ⟨locs, hlo⟩ : ∃ z : List Loc, z = [] := ⟨_, rfl⟩
  rw [← hlo] at hS ⊢
  clear hlo hH hAe hD0
  refine lv_iload_n hx₀ hb dX9_has_0 rfl (lv_at hl 1 rfl) ?_
  refine lv_if_lt (tgt := 16) hx₀ hb dX9_has_1 (by decide) (fun c_1 => ?_) (fun c_1 => ?_)
  · refine lv_iconst (v := 0) hx₀ hb dX9_has_16 (by decide +kernel) ?_
    have hP9 := hP.sub (ws' := [(ah, .inr (2, [.ref av, .int ln, .int fa, .int nu]))]) [0] rfl
    have hD9 := hD.sub (ws' := [(ah, .inr (2, [.ref av, .int ln, .int fa, .int nu]))]) [0] (by decide) rfl
    exact W.zret (v := 0) hx₀ hb hr (by decide +kernel) (fun t₀ ht hW => ⟨⟨0, (), rfl, (lf_j_has_X2_1 k1 nu c_1), by rw [ht]; exact hP9, va_K.moved hW.alike hK, hD9⟩, hS.F ht⟩) hS.2.2 dX9_has_17
  · refine lv_iload_n hx₀ hb dX9_has_4 rfl (lv_at hl 1 rfl) ?_
    refine lv_aload_n hx₀ hb dX9_has_5 rfl (lv_at hl 0 rfl) ?_
    refine va_get (D := (dC, dI)) (ci := 2) (v := .int nu) (C := RX2) (T := TX2) (N := 4) hx₀ hb hts inlX2 hown hK hP 0 rfl rfl 3 (by decide) (hts (.fieldLink RX9 37 "BittenStick$Text" "number" "I") wd_174) (fun _ h9 => h9) rfl dX9_has_6 ?_
    refine lv_icmp_ge (tgt := 16) hx₀ hb dX9_has_9 (by decide) (fun c_2 => ?_) (fun c_2 => ?_)
    · refine lv_iconst (v := 0) hx₀ hb dX9_has_16 (by decide +kernel) ?_
      have hP9 := hP.sub (ws' := [(ah, .inr (2, [.ref av, .int ln, .int fa, .int nu]))]) [0] rfl
      have hD9 := hD.sub (ws' := [(ah, .inr (2, [.ref av, .int ln, .int fa, .int nu]))]) [0] (by decide) rfl
      exact W.zret (v := 0) hx₀ hb hr (by decide +kernel) (fun t₀ ht hW => ⟨⟨0, (), rfl, (lf_j_has_X2_2 k1 nu c_1 c_2), by rw [ht]; exact hP9, va_K.moved hW.alike hK, hD9⟩, hS.F ht⟩) hS.2.2 dX9_has_17
    · refine lv_iconst (v := 1) hx₀ hb dX9_has_12 (by decide +kernel) ?_
      refine lv_goto (tgt := 17) hx₀ hb dX9_has_13 (by decide) ?_
      have hP9 := hP.sub (ws' := [(ah, .inr (2, [.ref av, .int ln, .int fa, .int nu]))]) [0] rfl
      have hD9 := hD.sub (ws' := [(ah, .inr (2, [.ref av, .int ln, .int fa, .int nu]))]) [0] (by decide) rfl
      exact W.zret (v := 1) hx₀ hb hr (by decide +kernel) (fun t₀ ht hW => ⟨⟨1, (), rfl, (lf_j_has_X2_3 k1 nu c_1 c_2), by rw [ht]; exact hP9, va_K.moved hW.alike hK, hD9⟩, hS.F ht⟩) hS.2.2 dX9_has_17
theorem lf_j_valueAt_X2_1 (k1 : Int32) (c_1 : ¬ k1 < 0) (c_2 : ¬ 23 ≤ k1) : 0 ≤ k1.toInt ∧ k1.toInt < 23 := by
  first | rfl | assumption | decide | exact Or.inl rfl | (first | rfl | assumption | decide | omega | (have hr0 := Int32.toInt_lt k1; have hs0 := Int32.le_toInt k1; simp only [Int64.toInt_add, Int64.toInt_sub, Int32.toInt_add, Int32.toInt_sub, Int32.toInt_mul, Int32.toInt_neg, Int64.le_iff_toInt_le, Int64.lt_iff_toInt_lt, Int32.le_iff_toInt_le, Int32.lt_iff_toInt_lt, ← Int32.toInt_inj, ← Int64.toInt_inj, Int32.toInt_toInt64, (show (0 : Int32).toInt = 0 from by decide), (show (0 : Int64).toInt = 0 from by decide), (show (23 : Int32).toInt = 23 from by decide), (show (23 : Int64).toInt = 23 from by decide), true_and, and_true, not_true_eq_false, not_false_eq_true] at * <;> ((first | omega | ((try simp (disch := omega) only [k_bm64] at *); (try simp (disch := omega) only [k_bm] at *); (try simp (disch := omega) only [k_bm] at *); omega) | (simp only [Int.bmod] at *; omega)))))
set_option maxHeartbeats 4000000 in
set_option maxRecDepth 100000 in
theorem j_valueAt_X2 (l : Launch) (dC : Nat → ClassId) (dI : Nat → Nat → Nat) (cI cJ cQ : ClassId) (sz : Nat) (ah : Nat) (k1 : Int32) (av : Nat) (ln : Int32) (fa : Int32) (nu : Int32) (tf : Nat → Int32) : Met l yX9_valueAt (kW yX9_valueAt cX9_valueAt 2 (some .int)) { frames := 0, cells := 0, slots := 0, locals := 0 } (kPre dC dI cI cJ cQ sz [.ref ah, .int k1] [(ah, .inr (2, [.ref av, .int ln, .int fa, .int nu])), (av, .inl (cI, 23, .inl tf))]) (va_Qi (fun (r : Int32) (u : Unit) => True) (fun (u : Unit) t₀ => kB dC dI cI cJ cQ (va_A [(ah, .inr (2, [.ref av, .int ln, .int fa, .int nu])), (av, .inl (cI, 23, .inl tf))] sz) [(ah, .inr (2, [.ref av, .int ln, .int fa, .int nu])), (av, .inl (cI, 23, .inl tf))] t₀) (va_A [(ah, .inr (2, [.ref av, .int ln, .int fa, .int nu])), (av, .inl (cI, 23, .inl tf))] sz)) 0 0 (va_A [(ah, .inr (2, [.ref av, .int ln, .int fa, .int nu])), (av, .inl (cI, 23, .inl tf))] sz) := by
  refine Met.ofW (cc := cX9_valueAt) (maxL := 2) (ret := (some .int)) (by decide) rfl ?_
  intro p₀ e₀ s₀ m₀ args below meth c₀ s₁ B hml hv₀
  obtain ⟨rfl, hsz, hP, hK, hD0, hN⟩ := hv₀
  have hx₀ := B.exec
  have hb := B.bytes
  have hr := B.returns
  have hts := atoms_spec (ws := (kW yX9_valueAt cX9_valueAt 2 (some .int))) B.pre
  have hts := fun w h => hts w (List.mem_cons_of_mem _ h)
  have hown : s₀.vm.findClass RX9 = some m₀.cls := findClass_of_methodNamed B.named
  have hlocks := B.notSynchronized
  subst hsz
  have hD := hD0.self (sz := s₀.heap.size)
  generalize hAe : va_A [(ah, .inr (2, [.ref av, .int ln, .int fa, .int nu])), (av, .inl (cI, 23, .inl tf))] s₀.heap.size = A at hD ⊢
  have hA : ∀ q : Nat, s₀.heap.size ≤ q → A q := fun q h => by rw [← hAe]; exact Or.inr h
  have hS : va_S A s₀.heap s₀.heap [] := va_S.rf
  have hP : va_P (dC, dI) vwCl [(ah, .inr (2, [.ref av, .int ln, .int fa, .int nu])), (av, .inl (cI, 23, .inl tf))] s₀.heap := hP
  have hl := lv_entry ([.ref ah, .int k1]) (n := 2) (Nat.le_of_ble_eq_true rfl)
  rw [lg_entry_eq]
  generalize (lg_sl ([.ref ah, .int k1]) ++ List.replicate (2 - (lg_sl ([.ref ah, .int k1])).length) Slot.unset).toArray = ls at hl ⊢
  have hl : lv_has ls 2 [(0, .ref ah), (1, .int k1)] := hl
  obtain ⟨H, hH⟩ : ∃ z : Heap, z = s₀.heap := ⟨_, rfl⟩
  rw [← hH] at hP
  have hS : va_S A s₀.heap H [] := by rw [hH]; exact hS
  refine k_heap hH ?_
  have hD : va_D A [(ah, .inr (2, [.ref av, .int ln, .int fa, .int nu])), (av, .inl (cI, 23, .inl tf))] := hD
  obtain ⟨locs, hlo⟩ : ∃ z : List Loc, z = [] := ⟨_, rfl⟩
  rw [← hlo] at hS ⊢
  clear hlo hH hAe hD0
  refine lv_iload_n hx₀ hb dX9_valueAt_0 rfl (lv_at hl 1 rfl) ?_
  refine lv_if_lt (tgt := 22) hx₀ hb dX9_valueAt_1 (by decide) (fun c_1 => ?_) (fun c_1 => ?_)
  · refine lv_iconst (v := (-1)) hx₀ hb dX9_valueAt_22 (by decide +kernel) ?_
    have hP9 := hP.sub (ws' := [(ah, .inr (2, [.ref av, .int ln, .int fa, .int nu])), (av, .inl (cI, 23, .inl tf))]) [0, 1] rfl
    have hD9 := hD.sub (ws' := [(ah, .inr (2, [.ref av, .int ln, .int fa, .int nu])), (av, .inl (cI, 23, .inl tf))]) [0, 1] (by decide) rfl
    exact W.iret (v := (-1)) hx₀ hb hr (fun t₀ ht hW => ⟨⟨(-1), (), rfl, trivial, by rw [ht]; exact hP9, va_K.moved hW.alike hK, hD9⟩, hS.F ht⟩) hS.2.2 dX9_valueAt_23
  · refine lv_iload_n hx₀ hb dX9_valueAt_4 rfl (lv_at hl 1 rfl) ?_
    refine lv_aload_n hx₀ hb dX9_valueAt_5 rfl (lv_at hl 0 rfl) ?_
    refine va_get (D := (dC, dI)) (ci := 2) (v := .ref av) (C := RX2) (T := TX2) (N := 4) hx₀ hb hts inlX2 hown hK hP 0 rfl rfl 0 (by decide) (hts (.fieldLink RX9 21 "BittenStick$Text" "values" "[I") wd_65) (fun _ h9 => h9) rfl dX9_valueAt_6 ?_
    refine va_alen (v := 23) hx₀ hb hK hP 1 0 rfl rfl rfl dX9_valueAt_9 ?_
    refine lv_icmp_ge (tgt := 22) hx₀ hb dX9_valueAt_10 (by decide) (fun c_2 => ?_) (fun c_2 => ?_)
    · refine lv_iconst (v := (-1)) hx₀ hb dX9_valueAt_22 (by decide +kernel) ?_
      have hP9 := hP.sub (ws' := [(ah, .inr (2, [.ref av, .int ln, .int fa, .int nu])), (av, .inl (cI, 23, .inl tf))]) [0, 1] rfl
      have hD9 := hD.sub (ws' := [(ah, .inr (2, [.ref av, .int ln, .int fa, .int nu])), (av, .inl (cI, 23, .inl tf))]) [0, 1] (by decide) rfl
      exact W.iret (v := (-1)) hx₀ hb hr (fun t₀ ht hW => ⟨⟨(-1), (), rfl, trivial, by rw [ht]; exact hP9, va_K.moved hW.alike hK, hD9⟩, hS.F ht⟩) hS.2.2 dX9_valueAt_23
    · refine lv_aload_n hx₀ hb dX9_valueAt_13 rfl (lv_at hl 0 rfl) ?_
      refine va_get (D := (dC, dI)) (ci := 2) (v := .ref av) (C := RX2) (T := TX2) (N := 4) hx₀ hb hts inlX2 hown hK hP 0 rfl rfl 0 (by decide) (hts (.fieldLink RX9 21 "BittenStick$Text" "values" "[I") wd_65) (fun _ h9 => h9) rfl dX9_valueAt_14 ?_
      refine lv_iload_n hx₀ hb dX9_valueAt_17 rfl (lv_at hl 1 rfl) ?_
      refine va_iald hx₀ hb hK hP 1 0 rfl rfl (vp_in_iff.mpr (lf_j_valueAt_X2_1 k1 c_1 c_2)) dX9_valueAt_18 ?_
      refine lv_topi (fun y_3 ey_3 => ?_)
      refine lv_goto (tgt := 23) hx₀ hb dX9_valueAt_19 (by decide) ?_
      have hP9 := hP.sub (ws' := [(ah, .inr (2, [.ref av, .int ln, .int fa, .int nu])), (av, .inl (cI, 23, .inl tf))]) [0, 1] rfl
      have hD9 := hD.sub (ws' := [(ah, .inr (2, [.ref av, .int ln, .int fa, .int nu])), (av, .inl (cI, 23, .inl tf))]) [0, 1] (by decide) rfl
      exact W.iret (v := y_3) hx₀ hb hr (fun t₀ ht hW => ⟨⟨y_3, (), rfl, trivial, by rw [ht]; exact hP9, va_K.moved hW.alike hK, hD9⟩, hS.F ht⟩) hS.2.2 dX9_valueAt_23
set_option maxHeartbeats 4000000 in
set_option maxRecDepth 100000 in
theorem j_worth_X2 (l : Launch) (dC : Nat → ClassId) (dI : Nat → Nat → Nat) (cI cJ cQ : ClassId) (sz : Nat) (ah : Nat) (pl : Int32) (b1 : Int32) (av : Nat) (ln : Int32) (fa : Int32) (nu : Int32) (hh0 : 0 ≤ pl) : Met l yX2_worth (kW yX2_worth cX2_worth 3 (some .int)) { frames := 0, cells := 0, slots := 0, locals := 0 } (kPre dC dI cI cJ cQ sz [.ref ah, .int pl, .int b1] [(ah, .inr (2, [.ref av, .int ln, .int fa, .int nu]))]) (va_Qi (fun (r : Int32) (u : Unit) => True) (fun (u : Unit) t₀ => kB dC dI cI cJ cQ (va_A [(ah, .inr (2, [.ref av, .int ln, .int fa, .int nu]))] sz) [(ah, .inr (2, [.ref av, .int ln, .int fa, .int nu]))] t₀) (va_A [(ah, .inr (2, [.ref av, .int ln, .int fa, .int nu]))] sz)) 0 0 (va_A [(ah, .inr (2, [.ref av, .int ln, .int fa, .int nu]))] sz) := by
  refine Met.ofW (cc := cX2_worth) (maxL := 3) (ret := (some .int)) (by decide) rfl ?_
  intro p₀ e₀ s₀ m₀ args below meth c₀ s₁ B hml hv₀
  obtain ⟨rfl, hsz, hP, hK, hD0, hN⟩ := hv₀
  have hx₀ := B.exec
  have hb := B.bytes
  have hr := B.returns
  have hts := atoms_spec (ws := (kW yX2_worth cX2_worth 3 (some .int))) B.pre
  have hts := fun w h => hts w (List.mem_cons_of_mem _ h)
  have hown : s₀.vm.findClass RX2 = some m₀.cls := findClass_of_methodNamed B.named
  have hlocks := B.notSynchronized
  subst hsz
  have hD := hD0.self (sz := s₀.heap.size)
  generalize hAe : va_A [(ah, .inr (2, [.ref av, .int ln, .int fa, .int nu]))] s₀.heap.size = A at hD ⊢
  have hA : ∀ q : Nat, s₀.heap.size ≤ q → A q := fun q h => by rw [← hAe]; exact Or.inr h
  have hS : va_S A s₀.heap s₀.heap [] := va_S.rf
  have hP : va_P (dC, dI) vwCl [(ah, .inr (2, [.ref av, .int ln, .int fa, .int nu]))] s₀.heap := hP
  have hl := lv_entry ([.ref ah, .int pl, .int b1]) (n := 3) (Nat.le_of_ble_eq_true rfl)
  rw [lg_entry_eq]
  generalize (lg_sl ([.ref ah, .int pl, .int b1]) ++ List.replicate (3 - (lg_sl ([.ref ah, .int pl, .int b1])).length) Slot.unset).toArray = ls at hl ⊢
  have hl : lv_has ls 3 [(0, .ref ah), (1, .int pl), (2, .int b1)] := hl
  obtain ⟨H, hH⟩ : ∃ z : Heap, z = s₀.heap := ⟨_, rfl⟩
  rw [← hH] at hP
  have hS : va_S A s₀.heap H [] := by rw [hH]; exact hS
  refine k_heap hH ?_
  have hD : va_D A [(ah, .inr (2, [.ref av, .int ln, .int fa, .int nu]))] := hD
  obtain ⟨locs, hlo⟩ : ∃ z : List Loc, z = [] := ⟨_, rfl⟩
  rw [← hlo] at hS ⊢
  clear hlo hH hAe hD0
  refine lv_iload_n hx₀ hb dX2_worth_0 rfl (lv_at hl 1 rfl) ?_
  refine lv_iconst (v := 3) hx₀ hb dX2_worth_1 (by decide +kernel) ?_
  refine lv_irem hx₀ hb dX2_worth_2 (by decide +kernel) ?_
  by_cases c_1 : (pl - pl / 3 * 3) = 0
  · refine k_topi (v := 0) c_1 ?_
    refine lv_lookup (off := 25) (tgt := 28) hx₀ hb dX2_worth_3 (by decide +kernel) (by decide +kernel) (by decide) ?_
    refine lv_iload_n hx₀ hb dX2_worth_28 rfl (lv_at hl 2 rfl) ?_
    refine lv_bipush (v := 49) hx₀ hb dX2_worth_29 (by decide +kernel) ?_
    refine lv_icmp_lt (tgt := 47) hx₀ hb dX2_worth_31 (by decide) (fun c_2 => ?_) (fun c_2 => ?_)
    · refine lv_iconst (v := (-1)) hx₀ hb dX2_worth_47 (by decide +kernel) ?_
      have hP9 := hP.sub (ws' := [(ah, .inr (2, [.ref av, .int ln, .int fa, .int nu]))]) [0] rfl
      have hD9 := hD.sub (ws' := [(ah, .inr (2, [.ref av, .int ln, .int fa, .int nu]))]) [0] (by decide) rfl
      exact W.iret (v := (-1)) hx₀ hb hr (fun t₀ ht hW => ⟨⟨(-1), (), rfl, trivial, by rw [ht]; exact hP9, va_K.moved hW.alike hK, hD9⟩, hS.F ht⟩) hS.2.2 dX2_worth_48
    · refine lv_iload_n hx₀ hb dX2_worth_34 rfl (lv_at hl 2 rfl) ?_
      refine lv_bipush (v := 57) hx₀ hb dX2_worth_35 (by decide +kernel) ?_
      refine lv_icmp_gt (tgt := 47) hx₀ hb dX2_worth_37 (by decide) (fun c_3 => ?_) (fun c_3 => ?_)
      · refine lv_iconst (v := (-1)) hx₀ hb dX2_worth_47 (by decide +kernel) ?_
        have hP9 := hP.sub (ws' := [(ah, .inr (2, [.ref av, .int ln, .int fa, .int nu]))]) [0] rfl
        have hD9 := hD.sub (ws' := [(ah, .inr (2, [.ref av, .int ln, .int fa, .int nu]))]) [0] (by decide) rfl
        exact W.iret (v := (-1)) hx₀ hb hr (fun t₀ ht hW => ⟨⟨(-1), (), rfl, trivial, by rw [ht]; exact hP9, va_K.moved hW.alike hK, hD9⟩, hS.F ht⟩) hS.2.2 dX2_worth_48
      · refine lv_iload_n hx₀ hb dX2_worth_40 rfl (lv_at hl 2 rfl) ?_
        refine lv_bipush (v := 48) hx₀ hb dX2_worth_41 (by decide +kernel) ?_
        refine lv_isub hx₀ hb dX2_worth_43 ?_
        refine lv_goto (tgt := 48) hx₀ hb dX2_worth_44 (by decide) ?_
        have hP9 := hP.sub (ws' := [(ah, .inr (2, [.ref av, .int ln, .int fa, .int nu]))]) [0] rfl
        have hD9 := hD.sub (ws' := [(ah, .inr (2, [.ref av, .int ln, .int fa, .int nu]))]) [0] (by decide) rfl
        exact W.iret (v := b1 - 48) hx₀ hb hr (fun t₀ ht hW => ⟨⟨b1 - 48, (), rfl, trivial, by rw [ht]; exact hP9, va_K.moved hW.alike hK, hD9⟩, hS.F ht⟩) hS.2.2 dX2_worth_48
  by_cases c_4 : (pl - pl / 3 * 3) = 1
  · refine k_topi (v := 1) c_4 ?_
    refine lv_lookup (off := 46) (tgt := 49) hx₀ hb dX2_worth_3 (by decide +kernel) (by decide +kernel) (by decide) ?_
    refine lv_iload_n hx₀ hb dX2_worth_49 rfl (lv_at hl 2 rfl) ?_
    refine lv_bipush (v := 48) hx₀ hb dX2_worth_50 (by decide +kernel) ?_
    refine lv_icmp_lt (tgt := 68) hx₀ hb dX2_worth_52 (by decide) (fun c_5 => ?_) (fun c_5 => ?_)
    · refine lv_iconst (v := (-1)) hx₀ hb dX2_worth_68 (by decide +kernel) ?_
      have hP9 := hP.sub (ws' := [(ah, .inr (2, [.ref av, .int ln, .int fa, .int nu]))]) [0] rfl
      have hD9 := hD.sub (ws' := [(ah, .inr (2, [.ref av, .int ln, .int fa, .int nu]))]) [0] (by decide) rfl
      exact W.iret (v := (-1)) hx₀ hb hr (fun t₀ ht hW => ⟨⟨(-1), (), rfl, trivial, by rw [ht]; exact hP9, va_K.moved hW.alike hK, hD9⟩, hS.F ht⟩) hS.2.2 dX2_worth_69
    · refine lv_iload_n hx₀ hb dX2_worth_55 rfl (lv_at hl 2 rfl) ?_
      refine lv_bipush (v := 57) hx₀ hb dX2_worth_56 (by decide +kernel) ?_
      refine lv_icmp_gt (tgt := 68) hx₀ hb dX2_worth_58 (by decide) (fun c_6 => ?_) (fun c_6 => ?_)
      · refine lv_iconst (v := (-1)) hx₀ hb dX2_worth_68 (by decide +kernel) ?_
        have hP9 := hP.sub (ws' := [(ah, .inr (2, [.ref av, .int ln, .int fa, .int nu]))]) [0] rfl
        have hD9 := hD.sub (ws' := [(ah, .inr (2, [.ref av, .int ln, .int fa, .int nu]))]) [0] (by decide) rfl
        exact W.iret (v := (-1)) hx₀ hb hr (fun t₀ ht hW => ⟨⟨(-1), (), rfl, trivial, by rw [ht]; exact hP9, va_K.moved hW.alike hK, hD9⟩, hS.F ht⟩) hS.2.2 dX2_worth_69
      · refine lv_iload_n hx₀ hb dX2_worth_61 rfl (lv_at hl 2 rfl) ?_
        refine lv_bipush (v := 48) hx₀ hb dX2_worth_62 (by decide +kernel) ?_
        refine lv_isub hx₀ hb dX2_worth_64 ?_
        refine lv_goto (tgt := 69) hx₀ hb dX2_worth_65 (by decide) ?_
        have hP9 := hP.sub (ws' := [(ah, .inr (2, [.ref av, .int ln, .int fa, .int nu]))]) [0] rfl
        have hD9 := hD.sub (ws' := [(ah, .inr (2, [.ref av, .int ln, .int fa, .int nu]))]) [0] (by decide) rfl
        exact W.iret (v := b1 - 48) hx₀ hb hr (fun t₀ ht hW => ⟨⟨b1 - 48, (), rfl, trivial, by rw [ht]; exact hP9, va_K.moved hW.alike hK, hD9⟩, hS.F ht⟩) hS.2.2 dX2_worth_69
  refine lv_lookup (off := 67) (tgt := 70) hx₀ hb dX2_worth_3 (by decide +kernel) ((lv_osw c_1 rfl).trans ((lv_osw c_4 rfl).trans rfl)) (by decide) ?_
  refine lv_iload_n hx₀ hb dX2_worth_70 rfl (lv_at hl 2 rfl) ?_
  refine lv_bipush (v := 59) hx₀ hb dX2_worth_71 (by decide +kernel) ?_
  refine lv_icmp_ne (tgt := 80) hx₀ hb dX2_worth_73 (by decide) (fun c_7 => ?_) (fun c_7 => ?_)
  · refine lv_iconst (v := (-1)) hx₀ hb dX2_worth_80 (by decide +kernel) ?_
    have hP9 := hP.sub (ws' := [(ah, .inr (2, [.ref av, .int ln, .int fa, .int nu]))]) [0] rfl
    have hD9 := hD.sub (ws' := [(ah, .inr (2, [.ref av, .int ln, .int fa, .int nu]))]) [0] (by decide) rfl
    exact W.iret (v := (-1)) hx₀ hb hr (fun t₀ ht hW => ⟨⟨(-1), (), rfl, trivial, by rw [ht]; exact hP9, va_K.moved hW.alike hK, hD9⟩, hS.F ht⟩) hS.2.2 dX2_worth_81
  · refine lv_iconst (v := 0) hx₀ hb dX2_worth_76 (by decide +kernel) ?_
    refine lv_goto (tgt := 81) hx₀ hb dX2_worth_77 (by decide) ?_
    have hP9 := hP.sub (ws' := [(ah, .inr (2, [.ref av, .int ln, .int fa, .int nu]))]) [0] rfl
    have hD9 := hD.sub (ws' := [(ah, .inr (2, [.ref av, .int ln, .int fa, .int nu]))]) [0] (by decide) rfl
    exact W.iret (v := 0) hx₀ hb hr (fun t₀ ht hW => ⟨⟨0, (), rfl, trivial, by rw [ht]; exact hP9, va_K.moved hW.alike hK, hD9⟩, hS.F ht⟩) hS.2.2 dX2_worth_81
set_option maxHeartbeats 4000000 in
set_option maxRecDepth 100000 in
theorem j_things_X2 (l : Launch) (dC : Nat → ClassId) (dI : Nat → Nat → Nat) (cI cJ cQ : ClassId) (sz : Nat) (ah : Nat) (b1 : Int32) (av : Nat) (ln : Int32) (fa : Int32) (nu : Int32) (hh0 : 0 ≤ b1) : Met l yX2_thingsIn (kW yX2_thingsIn cX2_thingsIn 2 (some .int)) { frames := 0, cells := 0, slots := 0, locals := 0 } (kPre dC dI cI cJ cQ sz [.ref ah, .int b1] [(ah, .inr (2, [.ref av, .int ln, .int fa, .int nu]))]) (va_Qi (fun (r : Int32) (u : Unit) => True) (fun (u : Unit) t₀ => kB dC dI cI cJ cQ (va_A [(ah, .inr (2, [.ref av, .int ln, .int fa, .int nu]))] sz) [(ah, .inr (2, [.ref av, .int ln, .int fa, .int nu]))] t₀) (va_A [(ah, .inr (2, [.ref av, .int ln, .int fa, .int nu]))] sz)) 0 0 (va_A [(ah, .inr (2, [.ref av, .int ln, .int fa, .int nu]))] sz) := by
  refine Met.ofW (cc := cX2_thingsIn) (maxL := 2) (ret := (some .int)) (by decide) rfl ?_
  intro p₀ e₀ s₀ m₀ args below meth c₀ s₁ B hml hv₀
  obtain ⟨rfl, hsz, hP, hK, hD0, hN⟩ := hv₀
  have hx₀ := B.exec
  have hb := B.bytes
  have hr := B.returns
  have hts := atoms_spec (ws := (kW yX2_thingsIn cX2_thingsIn 2 (some .int))) B.pre
  have hts := fun w h => hts w (List.mem_cons_of_mem _ h)
  have hown : s₀.vm.findClass RX2 = some m₀.cls := findClass_of_methodNamed B.named
  have hlocks := B.notSynchronized
  subst hsz
  have hD := hD0.self (sz := s₀.heap.size)
  generalize hAe : va_A [(ah, .inr (2, [.ref av, .int ln, .int fa, .int nu]))] s₀.heap.size = A at hD ⊢
  have hA : ∀ q : Nat, s₀.heap.size ≤ q → A q := fun q h => by rw [← hAe]; exact Or.inr h
  have hS : va_S A s₀.heap s₀.heap [] := va_S.rf
  have hP : va_P (dC, dI) vwCl [(ah, .inr (2, [.ref av, .int ln, .int fa, .int nu]))] s₀.heap := hP
  have hl := lv_entry ([.ref ah, .int b1]) (n := 2) (Nat.le_of_ble_eq_true rfl)
  rw [lg_entry_eq]
  generalize (lg_sl ([.ref ah, .int b1]) ++ List.replicate (2 - (lg_sl ([.ref ah, .int b1])).length) Slot.unset).toArray = ls at hl ⊢
  have hl : lv_has ls 2 [(0, .ref ah), (1, .int b1)] := hl
  obtain ⟨H, hH⟩ : ∃ z : Heap, z = s₀.heap := ⟨_, rfl⟩
  rw [← hH] at hP
  have hS : va_S A s₀.heap H [] := by rw [hH]; exact hS
  refine k_heap hH ?_
  have hD : va_D A [(ah, .inr (2, [.ref av, .int ln, .int fa, .int nu]))] := hD
  obtain ⟨locs, hlo⟩ : ∃ z : List Loc, z = [] := ⟨_, rfl⟩
  rw [← hlo] at hS ⊢
  clear hlo hH hAe hD0
  refine lv_iload_n hx₀ hb dX2_thingsIn_0 rfl (lv_at hl 1 rfl) ?_
  refine lv_if_ne (tgt := 6) hx₀ hb dX2_thingsIn_1 (by decide) (fun c_1 => ?_) (fun c_1 => ?_)
  · refine lv_iload_n hx₀ hb dX2_thingsIn_6 rfl (lv_at hl 1 rfl) ?_
    refine lv_iconst (v := 3) hx₀ hb dX2_thingsIn_7 (by decide +kernel) ?_
    refine lv_irem hx₀ hb dX2_thingsIn_8 (by decide +kernel) ?_
    refine lv_iconst (v := 2) hx₀ hb dX2_thingsIn_9 (by decide +kernel) ?_
    refine lv_icmp_ne (tgt := 21) hx₀ hb dX2_thingsIn_10 (by decide) (fun c_2 => ?_) (fun c_2 => ?_)
    · refine lv_iconst (v := (-1)) hx₀ hb dX2_thingsIn_21 (by decide +kernel) ?_
      have hP9 := hP.sub (ws' := [(ah, .inr (2, [.ref av, .int ln, .int fa, .int nu]))]) [0] rfl
      have hD9 := hD.sub (ws' := [(ah, .inr (2, [.ref av, .int ln, .int fa, .int nu]))]) [0] (by decide) rfl
      exact W.iret (v := (-1)) hx₀ hb hr (fun t₀ ht hW => ⟨⟨(-1), (), rfl, trivial, by rw [ht]; exact hP9, va_K.moved hW.alike hK, hD9⟩, hS.F ht⟩) hS.2.2 dX2_thingsIn_22
    · refine lv_iload_n hx₀ hb dX2_thingsIn_13 rfl (lv_at hl 1 rfl) ?_
      refine lv_iconst (v := 1) hx₀ hb dX2_thingsIn_14 (by decide +kernel) ?_
      refine lv_iadd hx₀ hb dX2_thingsIn_15 ?_
      refine lv_iconst (v := 3) hx₀ hb dX2_thingsIn_16 (by decide +kernel) ?_
      refine lv_idiv hx₀ hb dX2_thingsIn_17 (by decide +kernel) ?_
      refine lv_goto (tgt := 22) hx₀ hb dX2_thingsIn_18 (by decide) ?_
      have hP9 := hP.sub (ws' := [(ah, .inr (2, [.ref av, .int ln, .int fa, .int nu]))]) [0] rfl
      have hD9 := hD.sub (ws' := [(ah, .inr (2, [.ref av, .int ln, .int fa, .int nu]))]) [0] (by decide) rfl
      exact W.iret (v := (b1 + 1) / 3) hx₀ hb hr (fun t₀ ht hW => ⟨⟨(b1 + 1) / 3, (), rfl, trivial, by rw [ht]; exact hP9, va_K.moved hW.alike hK, hD9⟩, hS.F ht⟩) hS.2.2 dX2_thingsIn_22
  · refine lv_iconst (v := 0) hx₀ hb dX2_thingsIn_4 (by decide +kernel) ?_
    have hP9 := hP.sub (ws' := [(ah, .inr (2, [.ref av, .int ln, .int fa, .int nu]))]) [0] rfl
    have hD9 := hD.sub (ws' := [(ah, .inr (2, [.ref av, .int ln, .int fa, .int nu]))]) [0] (by decide) rfl
    exact W.iret (v := 0) hx₀ hb hr (fun t₀ ht hW => ⟨⟨0, (), rfl, trivial, by rw [ht]; exact hP9, va_K.moved hW.alike hK, hD9⟩, hS.F ht⟩) hS.2.2 dX2_thingsIn_5
