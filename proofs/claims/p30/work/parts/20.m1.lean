theorem lf_c_in_1 (v : Int64) (lo : Int64) (hi : Int64) (c_1 : (lg_cmp v lo) < 0) : (0 : Int32) = if lo ≤ v ∧ v ≤ hi then 1 else 0 := by
  repeat first | rfl | rw [if_pos (by (first | omega | (simp only [k_clt, k_cgt, k_ceq] at *; simp only [Int64.le_iff_toInt_le, Int64.lt_iff_toInt_lt, Int32.le_iff_toInt_le, Int32.lt_iff_toInt_lt, ← Int32.toInt_inj, ← Int64.toInt_inj, Int32.toInt_toInt64, (show (0 : Int32).toInt = 0 from by decide), (show (0 : Int64).toInt = 0 from by decide), (show (1 : Int32).toInt = 1 from by decide), (show (1 : Int64).toInt = 1 from by decide)] at *; omega)))] | rw [if_neg (by (first | omega | (simp only [k_clt, k_cgt, k_ceq] at *; simp only [Int64.le_iff_toInt_le, Int64.lt_iff_toInt_lt, Int32.le_iff_toInt_le, Int32.lt_iff_toInt_lt, ← Int32.toInt_inj, ← Int64.toInt_inj, Int32.toInt_toInt64, (show (0 : Int32).toInt = 0 from by decide), (show (0 : Int64).toInt = 0 from by decide), (show (1 : Int32).toInt = 1 from by decide), (show (1 : Int64).toInt = 1 from by decide)] at *; omega)))]
theorem lf_c_in_2 (v : Int64) (lo : Int64) (hi : Int64) (c_1 : ¬ (lg_cmp v lo) < 0) (c_2 : 0 < (lg_cmp v hi)) : (0 : Int32) = if lo ≤ v ∧ v ≤ hi then 1 else 0 := by
  repeat first | rfl | rw [if_pos (by (first | omega | (simp only [k_clt, k_cgt, k_ceq] at *; simp only [Int64.le_iff_toInt_le, Int64.lt_iff_toInt_lt, Int32.le_iff_toInt_le, Int32.lt_iff_toInt_lt, ← Int32.toInt_inj, ← Int64.toInt_inj, Int32.toInt_toInt64, (show (0 : Int32).toInt = 0 from by decide), (show (0 : Int64).toInt = 0 from by decide), (show (1 : Int32).toInt = 1 from by decide), (show (1 : Int64).toInt = 1 from by decide)] at *; omega)))] | rw [if_neg (by (first | omega | (simp only [k_clt, k_cgt, k_ceq] at *; simp only [Int64.le_iff_toInt_le, Int64.lt_iff_toInt_lt, Int32.le_iff_toInt_le, Int32.lt_iff_toInt_lt, ← Int32.toInt_inj, ← Int64.toInt_inj, Int32.toInt_toInt64, (show (0 : Int32).toInt = 0 from by decide), (show (0 : Int64).toInt = 0 from by decide), (show (1 : Int32).toInt = 1 from by decide), (show (1 : Int64).toInt = 1 from by decide)] at *; omega)))]
theorem lf_c_in_3 (v : Int64) (lo : Int64) (hi : Int64) (c_1 : ¬ (lg_cmp v lo) < 0) (c_2 : ¬ 0 < (lg_cmp v hi)) : (1 : Int32) = if lo ≤ v ∧ v ≤ hi then 1 else 0 := by
  repeat first | rfl | rw [if_pos (by (first | omega | (simp only [k_clt, k_cgt, k_ceq] at *; simp only [Int64.le_iff_toInt_le, Int64.lt_iff_toInt_lt, Int32.le_iff_toInt_le, Int32.lt_iff_toInt_lt, ← Int32.toInt_inj, ← Int64.toInt_inj, Int32.toInt_toInt64, (show (0 : Int32).toInt = 0 from by decide), (show (0 : Int64).toInt = 0 from by decide), (show (1 : Int32).toInt = 1 from by decide), (show (1 : Int64).toInt = 1 from by decide)] at *; omega)))] | rw [if_neg (by (first | omega | (simp only [k_clt, k_cgt, k_ceq] at *; simp only [Int64.le_iff_toInt_le, Int64.lt_iff_toInt_lt, Int32.le_iff_toInt_le, Int32.lt_iff_toInt_lt, ← Int32.toInt_inj, ← Int64.toInt_inj, Int32.toInt_toInt64, (show (0 : Int32).toInt = 0 from by decide), (show (0 : Int64).toInt = 0 from by decide), (show (1 : Int32).toInt = 1 from by decide), (show (1 : Int64).toInt = 1 from by decide)] at *; omega)))]
set_option maxHeartbeats 4000000 in
set_option maxRecDepth 100000 in
theorem c_in (l : Launch) (dC : Nat → ClassId) (dI : Nat → Nat → Nat) (cI cJ cQ : ClassId) (sz : Nat) (v : Int64) (lo : Int64) (hi : Int64) : Met l yX12_in (kW yX12_in cX12_in 6 (some .boolean)) { frames := 0, cells := 0, slots := 0, locals := 0 } (kPre dC dI cI cJ cQ sz [.long v, .long lo, .long hi] []) (va_Qi (fun (r : Int32) (_ : Unit) => r = if lo ≤ v ∧ v ≤ hi then 1 else 0) (fun _ t₀ => kB dC dI cI cJ cQ (va_A [] sz) [] t₀) (va_A [] sz)) 0 0 (va_A [] sz) := by
  refine Met.ofW (cc := cX12_in) (maxL := 6) (ret := (some .boolean)) (by decide) rfl ?_
  intro p₀ e₀ s₀ m₀ args below meth c₀ s₁ B hml hv₀
  obtain ⟨rfl, hsz, hP, hK, hD0, hN⟩ := hv₀
  have hx₀ := B.exec
  have hb := B.bytes
  have hr := B.returns
  have hts := atoms_spec (ws := (kW yX12_in cX12_in 6 (some .boolean))) B.pre
  have hts := fun w h => hts w (List.mem_cons_of_mem _ h)
  have hown : s₀.vm.findClass RX12 = some m₀.cls := findClass_of_methodNamed B.named
  have hlocks := B.notSynchronized
  subst hsz
  have hD := hD0.self (sz := s₀.heap.size)
  generalize hAe : va_A [] s₀.heap.size = A at hD ⊢
  have hA : ∀ q : Nat, s₀.heap.size ≤ q → A q := fun q h => by rw [← hAe]; exact Or.inr h
  have hS : va_S A s₀.heap s₀.heap [] := va_S.rf
  have hP : va_P (dC, dI) vwCl [] s₀.heap := hP
  have hl := lv_entry ([.long v, .long lo, .long hi]) (n := 6) (Nat.le_of_ble_eq_true rfl)
  rw [lg_entry_eq]
  generalize (lg_sl ([.long v, .long lo, .long hi]) ++ List.replicate (6 - (lg_sl ([.long v, .long lo, .long hi])).length) Slot.unset).toArray = ls at hl ⊢
  have hl : lv_has ls 6 [(0, .long v), (2, .long lo), (4, .long hi)] := hl
  obtain ⟨H, hH⟩ : ∃ z : Heap, z = s₀.heap := ⟨_, rfl⟩
  rw [← hH] at hP
  have hS : va_S A s₀.heap H [] := by rw [hH]; exact hS
  refine k_heap hH ?_
  have hD : va_D A [] := hD
  obtain ⟨locs, hlo⟩ : ∃ z : List Loc, z = [] := ⟨_, rfl⟩
  rw [← hlo] at hS ⊢
  clear hlo hH hAe hD0
  refine lv_lload_n hx₀ hb dX12_in_0 rfl (lv_at hl 0 rfl) ?_
  refine lv_lload_n hx₀ hb dX12_in_1 rfl (lv_at hl 1 rfl) ?_
  refine W.lcmp hx₀ hb dX12_in_2 ?_
  refine lv_if_lt (tgt := 17) hx₀ hb dX12_in_3 (by decide) (fun c_1 => ?_) (fun c_1 => ?_)
  · refine lv_iconst (v := 0) hx₀ hb dX12_in_17 (by decide +kernel) ?_
    obtain ⟨hP9, hD9⟩ := k_c2 (wc := []) hP hD [] (by decide +kernel) rfl
    exact W.zret (v := 0) hx₀ hb hr (by decide +kernel) (fun t₀ ht hW => ⟨⟨0, (), rfl, (lf_c_in_1 v lo hi c_1), by rw [ht]; exact hP9, va_K.moved hW.alike hK, hD9⟩, hS.F ht⟩) hS.2.2 dX12_in_18
  · refine lv_lload_n hx₀ hb dX12_in_6 rfl (lv_at hl 0 rfl) ?_
    refine lv_lload hx₀ hb dX12_in_7 (lv_at hl 2 rfl) ?_
    refine W.lcmp hx₀ hb dX12_in_9 ?_
    refine lv_if_gt (tgt := 17) hx₀ hb dX12_in_10 (by decide) (fun c_2 => ?_) (fun c_2 => ?_)
    · refine lv_iconst (v := 0) hx₀ hb dX12_in_17 (by decide +kernel) ?_
      obtain ⟨hP9, hD9⟩ := k_c2 (wc := []) hP hD [] (by decide +kernel) rfl
      exact W.zret (v := 0) hx₀ hb hr (by decide +kernel) (fun t₀ ht hW => ⟨⟨0, (), rfl, (lf_c_in_2 v lo hi c_1 c_2), by rw [ht]; exact hP9, va_K.moved hW.alike hK, hD9⟩, hS.F ht⟩) hS.2.2 dX12_in_18
    · refine lv_iconst (v := 1) hx₀ hb dX12_in_13 (by decide +kernel) ?_
      refine lv_goto (tgt := 18) hx₀ hb dX12_in_14 (by decide) ?_
      obtain ⟨hP9, hD9⟩ := k_c2 (wc := []) hP hD [] (by decide +kernel) rfl
      exact W.zret (v := 1) hx₀ hb hr (by decide +kernel) (fun t₀ ht hW => ⟨⟨1, (), rfl, (lf_c_in_3 v lo hi c_1 c_2), by rw [ht]; exact hP9, va_K.moved hW.alike hK, hD9⟩, hS.F ht⟩) hS.2.2 dX12_in_18
theorem lf_c_isTwo_1 (v : Int32) (c_2 : (0 : Int64) ≤ v.toInt64 ∧ v.toInt64 ≤ (1 : Int64)) : (1 : Int32) = if 0 ≤ v ∧ v ≤ 1 then 1 else 0 := by
  repeat first | rfl | rw [if_pos (by (first | omega | (simp only [Int64.le_iff_toInt_le, Int64.lt_iff_toInt_lt, Int32.le_iff_toInt_le, Int32.lt_iff_toInt_lt, ← Int32.toInt_inj, ← Int64.toInt_inj, Int32.toInt_toInt64, (show (0 : Int32).toInt = 0 from by decide), (show (0 : Int64).toInt = 0 from by decide), (show (1 : Int32).toInt = 1 from by decide), (show (1 : Int64).toInt = 1 from by decide)] at *; omega)))] | rw [if_neg (by (first | omega | (simp only [Int64.le_iff_toInt_le, Int64.lt_iff_toInt_lt, Int32.le_iff_toInt_le, Int32.lt_iff_toInt_lt, ← Int32.toInt_inj, ← Int64.toInt_inj, Int32.toInt_toInt64, (show (0 : Int32).toInt = 0 from by decide), (show (0 : Int64).toInt = 0 from by decide), (show (1 : Int32).toInt = 1 from by decide), (show (1 : Int64).toInt = 1 from by decide)] at *; omega)))]
theorem lf_c_isTwo_2 (v : Int32) (c_2 : ¬ ((0 : Int64) ≤ v.toInt64 ∧ v.toInt64 ≤ (1 : Int64))) : (0 : Int32) = if 0 ≤ v ∧ v ≤ 1 then 1 else 0 := by
  repeat first | rfl | rw [if_pos (by (first | omega | (simp only [Int64.le_iff_toInt_le, Int64.lt_iff_toInt_lt, Int32.le_iff_toInt_le, Int32.lt_iff_toInt_lt, ← Int32.toInt_inj, ← Int64.toInt_inj, Int32.toInt_toInt64, (show (0 : Int32).toInt = 0 from by decide), (show (0 : Int64).toInt = 0 from by decide), (show (1 : Int32).toInt = 1 from by decide), (show (1 : Int64).toInt = 1 from by decide)] at *; omega)))] | rw [if_neg (by (first | omega | (simp only [Int64.le_iff_toInt_le, Int64.lt_iff_toInt_lt, Int32.le_iff_toInt_le, Int32.lt_iff_toInt_lt, ← Int32.toInt_inj, ← Int64.toInt_inj, Int32.toInt_toInt64, (show (0 : Int32).toInt = 0 from by decide), (show (0 : Int64).toInt = 0 from by decide), (show (1 : Int32).toInt = 1 from by decide), (show (1 : Int64).toInt = 1 from by decide)] at *; omega)))]
set_option maxHeartbeats 4000000 in
set_option maxRecDepth 100000 in
theorem c_isTwo (l : Launch) (dC : Nat → ClassId) (dI : Nat → Nat → Nat) (cI cJ cQ : ClassId) (sz : Nat) (v : Int32) : Met l yX12_isTwo (kW yX12_isTwo cX12_isTwo 1 (some .boolean)) { frames := 1, cells := 0, slots := 0, locals := 25 } (kPre dC dI cI cJ cQ sz [.int v] []) (va_Qi (fun (r : Int32) (_ : Unit) => r = if 0 ≤ v ∧ v ≤ 1 then 1 else 0) (fun _ t₀ => kB dC dI cI cJ cQ (va_A [] sz) [] t₀) (va_A [] sz)) 0 0 (va_A [] sz) := by
  refine Met.ofW (cc := cX12_isTwo) (maxL := 1) (ret := (some .boolean)) (by decide) rfl ?_
  intro p₀ e₀ s₀ m₀ args below meth c₀ s₁ B hml hv₀
  obtain ⟨rfl, hsz, hP, hK, hD0, hN⟩ := hv₀
  have hx₀ := B.exec
  have hb := B.bytes
  have hr := B.returns
  have hts := atoms_spec (ws := (kW yX12_isTwo cX12_isTwo 1 (some .boolean))) B.pre
  have hts := fun w h => hts w (List.mem_cons_of_mem _ h)
  have hown : s₀.vm.findClass RX12 = some m₀.cls := findClass_of_methodNamed B.named
  have hlocks := B.notSynchronized
  subst hsz
  have hD := hD0.self (sz := s₀.heap.size)
  generalize hAe : va_A [] s₀.heap.size = A at hD ⊢
  have hA : ∀ q : Nat, s₀.heap.size ≤ q → A q := fun q h => by rw [← hAe]; exact Or.inr h
  have hS : va_S A s₀.heap s₀.heap [] := va_S.rf
  have hP : va_P (dC, dI) vwCl [] s₀.heap := hP
  have hl := lv_entry ([.int v]) (n := 1) (Nat.le_of_ble_eq_true rfl)
  rw [lg_entry_eq]
  generalize (lg_sl ([.int v]) ++ List.replicate (1 - (lg_sl ([.int v])).length) Slot.unset).toArray = ls at hl ⊢
  have hl : lv_has ls 1 [(0, .int v)] := hl
  obtain ⟨H, hH⟩ : ∃ z : Heap, z = s₀.heap := ⟨_, rfl⟩
  rw [← hH] at hP
  have hS : va_S A s₀.heap H [] := by rw [hH]; exact hS
  refine k_heap hH ?_
  have hD : va_D A [] := hD
  obtain ⟨locs, hlo⟩ : ∃ z : List Loc, z = [] := ⟨_, rfl⟩
  rw [← hlo] at hS ⊢
  clear hlo hH hAe hD0
  refine lv_iload_n hx₀ hb dX12_isTwo_0 rfl (lv_at hl 0 rfl) ?_
  refine lv_i2l hx₀ hb dX12_isTwo_1 rfl ?_
  refine lv_lconst (v := 0) hx₀ hb dX12_isTwo_2 (by decide +kernel) ?_
  refine lv_lconst (v := 1) hx₀ hb dX12_isTwo_3 (by decide +kernel) ?_
  obtain ⟨hPc, hDc, hFc, hC⟩ := k_cw (wc := []) hP hD hS hA [] (by decide +kernel) rfl
  refine va_calli (va_runS (As := [.long v.toInt64, .long 0, .long 1]) (rest := []) ⟨hx₀, hb, hml, hown, hts⟩ (c_in l dC dI cI cJ cQ H.size v.toInt64 0 1) (va_cwS 3 hts (kGS wd_208 wd_206 wd_207 wd_5) rfl rfl rfl (by decide +kernel) ⟨Nat.le_of_ble_eq_true rfl, Nat.le_of_ble_eq_true rfl⟩) (k_preS hK hPc hDc hN) rfl rfl hl.1 rfl (lv_room (Nat.le_of_ble_eq_true rfl)) dX12_isTwo_4 ⟨by decide +kernel, by decide +kernel⟩) hS (fun q _ h => hFc q h) hFc (fun r_1 u₀ t₀ H1 locs ht hvm hw hB hz1 hk1 hS => ?_)
  obtain ⟨hP1, hK1, hD1⟩ := hB
  rw [ht] at hP1
  have hJ := k_jn (wr := []) (wt := []) hP hD hC [] rfl (by decide +kernel) (by decide +kernel) hk1 hFc hP1 hD1 rfl
  clear hP hD hPc hDc hFc hC hP1 hD1 hK1 hz1 hk1 hvm ht
  obtain ⟨hP, hD⟩ := hJ
  generalize H1 = H at hP hS ⊢
  try dsimp only at hw
  by_cases c_2 : (0 : Int64) ≤ v.toInt64 ∧ v.toInt64 ≤ (1 : Int64)
  · rw [if_pos c_2] at hw
    refine k_topi (v := 1) hw ?_
    obtain ⟨hP9, hD9⟩ := k_c2 (wc := []) hP hD [] (by decide +kernel) rfl
    exact W.zret (v := 1) hx₀ hb hr (by decide +kernel) (fun t₀ ht hW => ⟨⟨1, (), rfl, (lf_c_isTwo_1 v c_2), by rw [ht]; exact hP9, va_K.moved hW.alike hK, hD9⟩, hS.F ht⟩) hS.2.2 dX12_isTwo_7
  rw [if_neg c_2] at hw
  refine k_topi (v := 0) hw ?_
  obtain ⟨hP9, hD9⟩ := k_c2 (wc := []) hP hD [] (by decide +kernel) rfl
  exact W.zret (v := 0) hx₀ hb hr (by decide +kernel) (fun t₀ ht hW => ⟨⟨0, (), rfl, (lf_c_isTwo_2 v c_2), by rw [ht]; exact hP9, va_K.moved hW.alike hK, hD9⟩, hS.F ht⟩) hS.2.2 dX12_isTwo_7
theorem lf_c_isSheet_1 (v : Int32) (c_2 : (0 : Int64) ≤ v.toInt64 ∧ v.toInt64 ≤ (3 : Int64)) : (1 : Int32) = if 0 ≤ v ∧ v ≤ 3 then 1 else 0 := by
  repeat first | rfl | rw [if_pos (by (first | omega | (simp only [Int64.le_iff_toInt_le, Int64.lt_iff_toInt_lt, Int32.le_iff_toInt_le, Int32.lt_iff_toInt_lt, ← Int32.toInt_inj, ← Int64.toInt_inj, Int32.toInt_toInt64, (show (0 : Int32).toInt = 0 from by decide), (show (0 : Int64).toInt = 0 from by decide), (show (1 : Int32).toInt = 1 from by decide), (show (1 : Int64).toInt = 1 from by decide), (show (3 : Int32).toInt = 3 from by decide), (show (3 : Int64).toInt = 3 from by decide)] at *; omega)))] | rw [if_neg (by (first | omega | (simp only [Int64.le_iff_toInt_le, Int64.lt_iff_toInt_lt, Int32.le_iff_toInt_le, Int32.lt_iff_toInt_lt, ← Int32.toInt_inj, ← Int64.toInt_inj, Int32.toInt_toInt64, (show (0 : Int32).toInt = 0 from by decide), (show (0 : Int64).toInt = 0 from by decide), (show (1 : Int32).toInt = 1 from by decide), (show (1 : Int64).toInt = 1 from by decide), (show (3 : Int32).toInt = 3 from by decide), (show (3 : Int64).toInt = 3 from by decide)] at *; omega)))]
theorem lf_c_isSheet_2 (v : Int32) (c_2 : ¬ ((0 : Int64) ≤ v.toInt64 ∧ v.toInt64 ≤ (3 : Int64))) : (0 : Int32) = if 0 ≤ v ∧ v ≤ 3 then 1 else 0 := by
  repeat first | rfl | rw [if_pos (by (first | omega | (simp only [Int64.le_iff_toInt_le, Int64.lt_iff_toInt_lt, Int32.le_iff_toInt_le, Int32.lt_iff_toInt_lt, ← Int32.toInt_inj, ← Int64.toInt_inj, Int32.toInt_toInt64, (show (0 : Int32).toInt = 0 from by decide), (show (0 : Int64).toInt = 0 from by decide), (show (1 : Int32).toInt = 1 from by decide), (show (1 : Int64).toInt = 1 from by decide), (show (3 : Int32).toInt = 3 from by decide), (show (3 : Int64).toInt = 3 from by decide)] at *; omega)))] | rw [if_neg (by (first | omega | (simp only [Int64.le_iff_toInt_le, Int64.lt_iff_toInt_lt, Int32.le_iff_toInt_le, Int32.lt_iff_toInt_lt, ← Int32.toInt_inj, ← Int64.toInt_inj, Int32.toInt_toInt64, (show (0 : Int32).toInt = 0 from by decide), (show (0 : Int64).toInt = 0 from by decide), (show (1 : Int32).toInt = 1 from by decide), (show (1 : Int64).toInt = 1 from by decide), (show (3 : Int32).toInt = 3 from by decide), (show (3 : Int64).toInt = 3 from by decide)] at *; omega)))]
set_option maxHeartbeats 4000000 in
set_option maxRecDepth 100000 in
theorem c_isSheet (l : Launch) (dC : Nat → ClassId) (dI : Nat → Nat → Nat) (cI cJ cQ : ClassId) (sz : Nat) (v : Int32) : Met l yX12_isSheet (kW yX12_isSheet cX12_isSheet 1 (some .boolean)) { frames := 1, cells := 0, slots := 0, locals := 25 } (kPre dC dI cI cJ cQ sz [.int v] []) (va_Qi (fun (r : Int32) (_ : Unit) => r = if 0 ≤ v ∧ v ≤ 3 then 1 else 0) (fun _ t₀ => kB dC dI cI cJ cQ (va_A [] sz) [] t₀) (va_A [] sz)) 0 0 (va_A [] sz) := by
  refine Met.ofW (cc := cX12_isSheet) (maxL := 1) (ret := (some .boolean)) (by decide) rfl ?_
  intro p₀ e₀ s₀ m₀ args below meth c₀ s₁ B hml hv₀
  obtain ⟨rfl, hsz, hP, hK, hD0, hN⟩ := hv₀
  have hx₀ := B.exec
  have hb := B.bytes
  have hr := B.returns
  have hts := atoms_spec (ws := (kW yX12_isSheet cX12_isSheet 1 (some .boolean))) B.pre
  have hts := fun w h => hts w (List.mem_cons_of_mem _ h)
  have hown : s₀.vm.findClass RX12 = some m₀.cls := findClass_of_methodNamed B.named
  have hlocks := B.notSynchronized
  subst hsz
  have hD := hD0.self (sz := s₀.heap.size)
  generalize hAe : va_A [] s₀.heap.size = A at hD ⊢
  have hA : ∀ q : Nat, s₀.heap.size ≤ q → A q := fun q h => by rw [← hAe]; exact Or.inr h
  have hS : va_S A s₀.heap s₀.heap [] := va_S.rf
  have hP : va_P (dC, dI) vwCl [] s₀.heap := hP
  have hl := lv_entry ([.int v]) (n := 1) (Nat.le_of_ble_eq_true rfl)
  rw [lg_entry_eq]
  generalize (lg_sl ([.int v]) ++ List.replicate (1 - (lg_sl ([.int v])).length) Slot.unset).toArray = ls at hl ⊢
  have hl : lv_has ls 1 [(0, .int v)] := hl
  obtain ⟨H, hH⟩ : ∃ z : Heap, z = s₀.heap := ⟨_, rfl⟩
  rw [← hH] at hP
  have hS : va_S A s₀.heap H [] := by rw [hH]; exact hS
  refine k_heap hH ?_
  have hD : va_D A [] := hD
  obtain ⟨locs, hlo⟩ : ∃ z : List Loc, z = [] := ⟨_, rfl⟩
  rw [← hlo] at hS ⊢
  clear hlo hH hAe hD0
  refine lv_iload_n hx₀ hb dX12_isSheet_0 rfl (lv_at hl 0 rfl) ?_
  refine lv_i2l hx₀ hb dX12_isSheet_1 rfl ?_
  refine lv_lconst (v := 0) hx₀ hb dX12_isSheet_2 (by decide +kernel) ?_
  refine lv_ldc2 (v := 3) hx₀ hb hown (hts (.constantLong RX12 72 (3)) wd_319) dX12_isSheet_3 ?_
  obtain ⟨hPc, hDc, hFc, hC⟩ := k_cw (wc := []) hP hD hS hA [] (by decide +kernel) rfl
  refine va_calli (va_runS (As := [.long v.toInt64, .long 0, .long 3]) (rest := []) ⟨hx₀, hb, hml, hown, hts⟩ (c_in l dC dI cI cJ cQ H.size v.toInt64 0 3) (va_cwS 3 hts (kGS wd_208 wd_206 wd_207 wd_5) rfl rfl rfl (by decide +kernel) ⟨Nat.le_of_ble_eq_true rfl, Nat.le_of_ble_eq_true rfl⟩) (k_preS hK hPc hDc hN) rfl rfl hl.1 rfl (lv_room (Nat.le_of_ble_eq_true rfl)) dX12_isSheet_6 ⟨by decide +kernel, by decide +kernel⟩) hS (fun q _ h => hFc q h) hFc (fun r_1 u₀ t₀ H1 locs ht hvm hw hB hz1 hk1 hS => ?_)
  obtain ⟨hP1, hK1, hD1⟩ := hB
  rw [ht] at hP1
  have hJ := k_jn (wr := []) (wt := []) hP hD hC [] rfl (by decide +kernel) (by decide +kernel) hk1 hFc hP1 hD1 rfl
  clear hP hD hPc hDc hFc hC hP1 hD1 hK1 hz1 hk1 hvm ht
  obtain ⟨hP, hD⟩ := hJ
  generalize H1 = H at hP hS ⊢
  try dsimp only at hw
  by_cases c_2 : (0 : Int64) ≤ v.toInt64 ∧ v.toInt64 ≤ (3 : Int64)
  · rw [if_pos c_2] at hw
    refine k_topi (v := 1) hw ?_
    obtain ⟨hP9, hD9⟩ := k_c2 (wc := []) hP hD [] (by decide +kernel) rfl
    exact W.zret (v := 1) hx₀ hb hr (by decide +kernel) (fun t₀ ht hW => ⟨⟨1, (), rfl, (lf_c_isSheet_1 v c_2), by rw [ht]; exact hP9, va_K.moved hW.alike hK, hD9⟩, hS.F ht⟩) hS.2.2 dX12_isSheet_9
  rw [if_neg c_2] at hw
  refine k_topi (v := 0) hw ?_
  obtain ⟨hP9, hD9⟩ := k_c2 (wc := []) hP hD [] (by decide +kernel) rfl
  exact W.zret (v := 0) hx₀ hb hr (by decide +kernel) (fun t₀ ht hW => ⟨⟨0, (), rfl, (lf_c_isSheet_2 v c_2), by rw [ht]; exact hP9, va_K.moved hW.alike hK, hD9⟩, hS.F ht⟩) hS.2.2 dX12_isSheet_9
theorem lf_c_isText_1 (v : Int32) (c_2 : (0 : Int64) ≤ v.toInt64 ∧ v.toInt64 ≤ (2 : Int64)) : (1 : Int32) = if 0 ≤ v ∧ v ≤ 2 then 1 else 0 := by
  repeat first | rfl | rw [if_pos (by (first | omega | (simp only [Int64.le_iff_toInt_le, Int64.lt_iff_toInt_lt, Int32.le_iff_toInt_le, Int32.lt_iff_toInt_lt, ← Int32.toInt_inj, ← Int64.toInt_inj, Int32.toInt_toInt64, (show (0 : Int32).toInt = 0 from by decide), (show (0 : Int64).toInt = 0 from by decide), (show (1 : Int32).toInt = 1 from by decide), (show (1 : Int64).toInt = 1 from by decide), (show (2 : Int32).toInt = 2 from by decide), (show (2 : Int64).toInt = 2 from by decide)] at *; omega)))] | rw [if_neg (by (first | omega | (simp only [Int64.le_iff_toInt_le, Int64.lt_iff_toInt_lt, Int32.le_iff_toInt_le, Int32.lt_iff_toInt_lt, ← Int32.toInt_inj, ← Int64.toInt_inj, Int32.toInt_toInt64, (show (0 : Int32).toInt = 0 from by decide), (show (0 : Int64).toInt = 0 from by decide), (show (1 : Int32).toInt = 1 from by decide), (show (1 : Int64).toInt = 1 from by decide), (show (2 : Int32).toInt = 2 from by decide), (show (2 : Int64).toInt = 2 from by decide)] at *; omega)))]
theorem lf_c_isText_2 (v : Int32) (c_2 : ¬ ((0 : Int64) ≤ v.toInt64 ∧ v.toInt64 ≤ (2 : Int64))) : (0 : Int32) = if 0 ≤ v ∧ v ≤ 2 then 1 else 0 := by
  repeat first | rfl | rw [if_pos (by (first | omega | (simp only [Int64.le_iff_toInt_le, Int64.lt_iff_toInt_lt, Int32.le_iff_toInt_le, Int32.lt_iff_toInt_lt, ← Int32.toInt_inj, ← Int64.toInt_inj, Int32.toInt_toInt64, (show (0 : Int32).toInt = 0 from by decide), (show (0 : Int64).toInt = 0 from by decide), (show (1 : Int32).toInt = 1 from by decide), (show (1 : Int64).toInt = 1 from by decide), (show (2 : Int32).toInt = 2 from by decide), (show (2 : Int64).toInt = 2 from by decide)] at *; omega)))] | rw [if_neg (by (first | omega | (simp only [Int64.le_iff_toInt_le, Int64.lt_iff_toInt_lt, Int32.le_iff_toInt_le, Int32.lt_iff_toInt_lt, ← Int32.toInt_inj, ← Int64.toInt_inj, Int32.toInt_toInt64, (show (0 : Int32).toInt = 0 from by decide), (show (0 : Int64).toInt = 0 from by decide), (show (1 : Int32).toInt = 1 from by decide), (show (1 : Int64).toInt = 1 from by decide), (show (2 : Int32).toInt = 2 from by decide), (show (2 : Int64).toInt = 2 from by decide)] at *; omega)))]
set_option maxHeartbeats 4000000 in
set_option maxRecDepth 100000 in
theorem c_isText (l : Launch) (dC : Nat → ClassId) (dI : Nat → Nat → Nat) (cI cJ cQ : ClassId) (sz : Nat) (v : Int32) : Met l yX12_isText (kW yX12_isText cX12_isText 1 (some .boolean)) { frames := 1, cells := 0, slots := 0, locals := 25 } (kPre dC dI cI cJ cQ sz [.int v] []) (va_Qi (fun (r : Int32) (_ : Unit) => r = if 0 ≤ v ∧ v ≤ 2 then 1 else 0) (fun _ t₀ => kB dC dI cI cJ cQ (va_A [] sz) [] t₀) (va_A [] sz)) 0 0 (va_A [] sz) := by
  refine Met.ofW (cc := cX12_isText) (maxL := 1) (ret := (some .boolean)) (by decide) rfl ?_
  intro p₀ e₀ s₀ m₀ args below meth c₀ s₁ B hml hv₀
  obtain ⟨rfl, hsz, hP, hK, hD0, hN⟩ := hv₀
  have hx₀ := B.exec
  have hb := B.bytes
  have hr := B.returns
  have hts := atoms_spec (ws := (kW yX12_isText cX12_isText 1 (some .boolean))) B.pre
  have hts := fun w h => hts w (List.mem_cons_of_mem _ h)
  have hown : s₀.vm.findClass RX12 = some m₀.cls := findClass_of_methodNamed B.named
  have hlocks := B.notSynchronized
  subst hsz
  have hD := hD0.self (sz := s₀.heap.size)
  generalize hAe : va_A [] s₀.heap.size = A at hD ⊢
  have hA : ∀ q : Nat, s₀.heap.size ≤ q → A q := fun q h => by rw [← hAe]; exact Or.inr h
  have hS : va_S A s₀.heap s₀.heap [] := va_S.rf
  have hP : va_P (dC, dI) vwCl [] s₀.heap := hP
  have hl := lv_entry ([.int v]) (n := 1) (Nat.le_of_ble_eq_true rfl)
  rw [lg_entry_eq]
  generalize (lg_sl ([.int v]) ++ List.replicate (1 - (lg_sl ([.int v])).length) Slot.unset).toArray = ls at hl ⊢
  have hl : lv_has ls 1 [(0, .int v)] := hl
  obtain ⟨H, hH⟩ : ∃ z : Heap, z = s₀.heap := ⟨_, rfl⟩
  rw [← hH] at hP
  have hS : va_S A s₀.heap H [] := by rw [hH]; exact hS
  refine k_heap hH ?_
  have hD : va_D A [] := hD
  obtain ⟨locs, hlo⟩ : ∃ z : List Loc, z = [] := ⟨_, rfl⟩
  rw [← hlo] at hS ⊢
  clear hlo hH hAe hD0
  refine lv_iload_n hx₀ hb dX12_isText_0 rfl (lv_at hl 0 rfl) ?_
  refine lv_i2l hx₀ hb dX12_isText_1 rfl ?_
  refine lv_lconst (v := 0) hx₀ hb dX12_isText_2 (by decide +kernel) ?_
  refine lv_ldc2 (v := 2) hx₀ hb hown (hts (.constantLong RX12 78 (2)) wd_205) dX12_isText_3 ?_
  obtain ⟨hPc, hDc, hFc, hC⟩ := k_cw (wc := []) hP hD hS hA [] (by decide +kernel) rfl
  refine va_calli (va_runS (As := [.long v.toInt64, .long 0, .long 2]) (rest := []) ⟨hx₀, hb, hml, hown, hts⟩ (c_in l dC dI cI cJ cQ H.size v.toInt64 0 2) (va_cwS 3 hts (kGS wd_208 wd_206 wd_207 wd_5) rfl rfl rfl (by decide +kernel) ⟨Nat.le_of_ble_eq_true rfl, Nat.le_of_ble_eq_true rfl⟩) (k_preS hK hPc hDc hN) rfl rfl hl.1 rfl (lv_room (Nat.le_of_ble_eq_true rfl)) dX12_isText_6 ⟨by decide +kernel, by decide +kernel⟩) hS (fun q _ h => hFc q h) hFc (fun r_1 u₀ t₀ H1 locs ht hvm hw hB hz1 hk1 hS => ?_)
  obtain ⟨hP1, hK1, hD1⟩ := hB
  rw [ht] at hP1
  have hJ := k_jn (wr := []) (wt := []) hP hD hC [] rfl (by decide +kernel) (by decide +kernel) hk1 hFc hP1 hD1 rfl
  clear hP hD hPc hDc hFc hC hP1 hD1 hK1 hz1 hk1 hvm ht
  obtain ⟨hP, hD⟩ := hJ
  generalize H1 = H at hP hS ⊢
  try dsimp only at hw
  by_cases c_2 : (0 : Int64) ≤ v.toInt64 ∧ v.toInt64 ≤ (2 : Int64)
  · rw [if_pos c_2] at hw
    refine k_topi (v := 1) hw ?_
    obtain ⟨hP9, hD9⟩ := k_c2 (wc := []) hP hD [] (by decide +kernel) rfl
    exact W.zret (v := 1) hx₀ hb hr (by decide +kernel) (fun t₀ ht hW => ⟨⟨1, (), rfl, (lf_c_isText_1 v c_2), by rw [ht]; exact hP9, va_K.moved hW.alike hK, hD9⟩, hS.F ht⟩) hS.2.2 dX12_isText_9
  rw [if_neg c_2] at hw
  refine k_topi (v := 0) hw ?_
  obtain ⟨hP9, hD9⟩ := k_c2 (wc := []) hP hD [] (by decide +kernel) rfl
  exact W.zret (v := 0) hx₀ hb hr (by decide +kernel) (fun t₀ ht hW => ⟨⟨0, (), rfl, (lf_c_isText_2 v c_2), by rw [ht]; exact hP9, va_K.moved hW.alike hK, hD9⟩, hS.F ht⟩) hS.2.2 dX12_isText_9
set_option maxHeartbeats 4000000 in
set_option maxRecDepth 100000 in
theorem c_no2 (l : Launch) (dC : Nat → ClassId) (dI : Nat → Nat → Nat) (cI cJ cQ : ClassId) (sz : Nat)  : Met l yX12_no (kW yX12_no cX12_no 1 (some .long)) { frames := 0, cells := 0, slots := 0, locals := 0 } (kPre dC dI cI cJ cQ sz [.int (-2)] []) (va_Ql (fun (r : Int64) (_ : Unit) => r = (-9223372036854775806)) (fun _ t₀ => kB dC dI cI cJ cQ (va_A [] sz) [] t₀) (va_A [] sz)) 0 0 (va_A [] sz) := by
  refine Met.ofW (cc := cX12_no) (maxL := 1) (ret := (some .long)) (by decide) rfl ?_
  intro p₀ e₀ s₀ m₀ args below meth c₀ s₁ B hml hv₀
  obtain ⟨rfl, hsz, hP, hK, hD0, hN⟩ := hv₀
  have hx₀ := B.exec
  have hb := B.bytes
  have hr := B.returns
  have hts := atoms_spec (ws := (kW yX12_no cX12_no 1 (some .long))) B.pre
  have hts := fun w h => hts w (List.mem_cons_of_mem _ h)
  have hown : s₀.vm.findClass RX12 = some m₀.cls := findClass_of_methodNamed B.named
  have hlocks := B.notSynchronized
  subst hsz
  have hD := hD0.self (sz := s₀.heap.size)
  generalize hAe : va_A [] s₀.heap.size = A at hD ⊢
  have hA : ∀ q : Nat, s₀.heap.size ≤ q → A q := fun q h => by rw [← hAe]; exact Or.inr h
  have hS : va_S A s₀.heap s₀.heap [] := va_S.rf
  have hP : va_P (dC, dI) vwCl [] s₀.heap := hP
  have hl := lv_entry ([.int (-2)]) (n := 1) (Nat.le_of_ble_eq_true rfl)
  rw [lg_entry_eq]
  generalize (lg_sl ([.int (-2)]) ++ List.replicate (1 - (lg_sl ([.int (-2)])).length) Slot.unset).toArray = ls at hl ⊢
  have hl : lv_has ls 1 [(0, .int (-2))] := hl
  obtain ⟨H, hH⟩ : ∃ z : Heap, z = s₀.heap := ⟨_, rfl⟩
  rw [← hH] at hP
  have hS : va_S A s₀.heap H [] := by rw [hH]; exact hS
  refine k_heap hH ?_
  have hD : va_D A [] := hD
  obtain ⟨locs, hlo⟩ : ∃ z : List Loc, z = [] := ⟨_, rfl⟩
  rw [← hlo] at hS ⊢
  clear hlo hH hAe hD0
  refine lv_ldc2 (v := (-9223372036854775808)) hx₀ hb hown (hts (.constantLong RX12 63 (-9223372036854775808)) wd_829) dX12_no_0 ?_
  refine lv_iload_n hx₀ hb dX12_no_3 rfl (lv_at hl 0 rfl) ?_
  refine lv_i2l (v := (-2)) hx₀ hb dX12_no_4 (by decide +kernel) ?_
  refine lv_lsub hx₀ hb dX12_no_5 ?_
  refine k_topl (v := (-9223372036854775806)) (by decide +kernel) ?_
  obtain ⟨hP9, hD9⟩ := k_c2 (wc := []) hP hD [] (by decide +kernel) rfl
  exact W.lret (v := (-9223372036854775806)) hx₀ hb hr (fun t₀ ht hW => ⟨⟨(-9223372036854775806), (), rfl, rfl, by rw [ht]; exact hP9, va_K.moved hW.alike hK, hD9⟩, hS.F ht⟩) hS.2.2 dX12_no_6
