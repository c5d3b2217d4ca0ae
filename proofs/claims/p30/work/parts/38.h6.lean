set_option maxHeartbeats 4000000 in
set_option maxRecDepth 100000 in
theorem g_ones (l : Launch) (dC : Nat → ClassId) (dI : Nat → Nat → Nat) (cI cJ cQ : ClassId) (sz : Nat) (bi : Int32) : Met l yX12_ones (kW yX12_ones cX12_ones 3 (some .int)) { frames := 0, cells := 0, slots := 0, locals := 0 } (kPre dC dI cI cJ cQ sz [.int bi] []) (va_Qi (fun (r : Int32) (u : Unit) => True) (fun (u : Unit) t₀ => kB dC dI cI cJ cQ (va_A [] sz) [] t₀) (va_A [] sz)) 0 0 (va_A [] sz) := by
  refine Met.ofW (cc := cX12_ones) (maxL := 3) (ret := (some .int)) (by decide) rfl ?_
  intro p₀ e₀ s₀ m₀ args below meth c₀ s₁ B hml hv₀
  obtain ⟨rfl, hsz, hP, hK, hD0, hN⟩ := hv₀
  have hx₀ := B.exec
  have hb := B.bytes
  have hr := B.returns
  have hts := atoms_spec (ws := (kW yX12_ones cX12_ones 3 (some .int))) B.pre
  have hts := fun w h => hts w (List.mem_cons_of_mem _ h)
  have hown : s₀.vm.findClass RX12 = some m₀.cls := findClass_of_methodNamed B.named
  have hlocks := B.notSynchronized
  subst hsz
  have hD := hD0.self (sz := s₀.heap.size)
  generalize hAe : va_A [] s₀.heap.size = A at hD ⊢
  have hA : ∀ q : Nat, s₀.heap.size ≤ q → A q := fun q h => by rw [← hAe]; exact Or.inr h
  have hS : va_S A s₀.heap s₀.heap [] := va_S.rf
  have hP : va_P (dC, dI) vwCl [] s₀.heap := hP
  have hl := lv_entry ([.int bi]) (n := 3) (Nat.le_of_ble_eq_true rfl)
  rw [lg_entry_eq]
  generalize (lg_sl ([.int bi]) ++ List.replicate (3 - (lg_sl ([.int bi])).length) Slot.unset).toArray = ls at hl ⊢
  have hl : lv_has ls 3 [(0, .int bi)] := hl
  obtain ⟨H, hH⟩ : ∃ z : Heap, z = s₀.heap := ⟨_, rfl⟩
  rw [← hH] at hP
  have hS : va_S A s₀.heap H [] := by rw [hH]; exact hS
  refine k_heap hH ?_
  have hD : va_D A [] := hD
  obtain ⟨locs, hlo⟩ : ∃ z : List Loc, z = [] := ⟨_, rfl⟩
  rw [← hlo] at hS ⊢
  clear hlo hH hAe hD0
  refine lv_iconst (v := 0) hx₀ hb dX12_ones_0 (by decide +kernel) ?_
  refine lv_istore_n (lv' := [(1, .int 0), (0, .int bi)]) hx₀ hb dX12_ones_1 rfl hl (by decide) rfl (fun ls hl => ?_)
  refine lv_iload_n hx₀ hb dX12_ones_2 rfl (lv_at hl 1 rfl) ?_
  refine lv_istore_n (lv' := [(2, .int bi), (1, .int 0), (0, .int bi)]) hx₀ hb dX12_ones_3 rfl hl (by decide) rfl (fun ls hl => ?_)
  refine (?keyz1 : ∀ (jz1 : Nat) (nz1 : Int32) (lfz1 : Int32) (H : Heap) (locs : List Loc) (ls : Array Slot),  (kpop lfz1 = jz1) → va_P (dC, dI) vwCl [] H → va_D A [] → va_S A s₀.heap H locs → lv_has ls 3 [(2, .int lfz1), (1, .int nz1), (0, .int bi)] → W p₀ l e₀ _ s₀ m₀ _ below meth c₀ H locs _ _ _ (F0 m₀ 4 ls [])) _ (0 : Int32) bi H locs ls  rfl hP hD hS hl
  clear hP hD hS hl
  intro jz1
  induction jz1 using Nat.strongRecOn with
  | ind jz1 ihz1 =>
    intro nz1 lfz1 H locs ls  hjz1 hP hD hS hl
    refine lv_iload_n hx₀ hb dX12_ones_4 rfl (lv_at hl 0 rfl) ?_
    refine lv_if_eq (tgt := 20) hx₀ hb dX12_ones_5 (by decide) (fun c_2 => ?_) (fun c_2 => ?_)
    · refine lv_iload_n hx₀ hb dX12_ones_20 rfl (lv_at hl 1 rfl) ?_
      obtain ⟨hP9, hD9⟩ := k_c2 (wc := []) hP hD [] (by decide +kernel) rfl
      exact W.iret (v := nz1) hx₀ hb hr (fun t₀ ht hW => ⟨⟨nz1, (), rfl, trivial, by rw [ht]; exact hP9, va_K.moved hW.alike hK, hD9⟩, hS.F ht⟩) hS.2.2 dX12_ones_21
    · refine lv_iinc (v := nz1 + 1) (lv' := [(1, .int (nz1 + 1)), (2, .int lfz1), (0, .int bi)]) hx₀ hb dX12_ones_8 hl (k := 1) rfl rfl (by decide) rfl (fun ls hl => ?_)
      refine lv_iload_n hx₀ hb dX12_ones_11 rfl (lv_at hl 1 rfl) ?_
      refine lv_iload_n hx₀ hb dX12_ones_12 rfl (lv_at hl 1 rfl) ?_
      refine lv_iconst (v := 1) hx₀ hb dX12_ones_13 (by decide +kernel) ?_
      refine lv_isub hx₀ hb dX12_ones_14 ?_
      refine lv_iand hx₀ hb dX12_ones_15 ?_
      refine lv_istore_n (lv' := [(2, .int (lfz1 &&& (lfz1 - 1))), (1, .int (nz1 + 1)), (0, .int bi)]) hx₀ hb dX12_ones_16 rfl hl (by decide) rfl (fun ls hl => ?_)
      refine lv_goto (tgt := 4) hx₀ hb dX12_ones_17 (by decide) ?_
      exact ihz1 _ (k_pop_lt hjz1 c_2) (nz1 + 1) (lfz1 &&& (lfz1 - 1)) _ _ _  rfl (hP.sub [] rfl) (hD.sub [] (by decide +kernel) rfl) hS (lv_sub hl [0, 1, 2] rfl)
theorem lf_g_part_1 (a0 : Int64) (a1 : Int64) (h0 : ¬ a0 = 0) : ¬ a1 = 0 ∨ ¬ a0 = 0 := by
  first | rfl | assumption | decide | exact Or.inl rfl | (first | omega | (simp only [Int64.toInt_add, Int64.toInt_sub, Int32.toInt_add, Int32.toInt_sub, Int32.toInt_mul, Int64.le_iff_toInt_le, Int64.lt_iff_toInt_lt, Int32.le_iff_toInt_le, Int32.lt_iff_toInt_lt, ← Int32.toInt_inj, ← Int64.toInt_inj, Int32.toInt_toInt64, kc_0] at *; (first | omega | ((try simp (disch := omega) only [k_bm64] at *); (try simp (disch := omega) only [k_bm] at *); (try simp (disch := omega) only [k_bm] at *); omega) | (simp only [Int.bmod] at *; omega))))
theorem lf_g_part_2 (a0 : Int64) (a1 : Int64) (a2 : Nat) (h0 : ¬ a0 = 0 ∨ ¬ a1 = 0) (h1 : a1.toInt.natAbs = a2) (h2 : (lg_cmp a1 0) = 0) : ¬ a0 = 0 := by
  first | rfl | assumption | decide | exact Or.inl rfl | (first | omega | (simp only [k_clt, k_cgt, k_ceq, k_cle, k_cge] at *; simp only [Int64.toInt_add, Int64.toInt_sub, Int32.toInt_add, Int32.toInt_sub, Int32.toInt_mul, Int64.le_iff_toInt_le, Int64.lt_iff_toInt_lt, Int32.le_iff_toInt_le, Int32.lt_iff_toInt_lt, ← Int32.toInt_inj, ← Int64.toInt_inj, Int32.toInt_toInt64, kc_0, kd_0] at *; (first | omega | ((try simp (disch := omega) only [k_bm64] at *); (try simp (disch := omega) only [k_bm] at *); (try simp (disch := omega) only [k_bm] at *); omega) | (simp only [Int.bmod] at *; omega))))
theorem lf_g_part_3 (a0 : Int64) (a1 : Int64) (a2 : Nat) (h0 : ¬ a0 = 0 ∨ ¬ a1 = 0) (h1 : a1.toInt.natAbs = a2) (h2 : ¬ (lg_cmp a1 0) = 0) : ¬ a1 = 0 := by
  first | rfl | assumption | decide | exact Or.inl rfl | (first | omega | (simp only [k_clt, k_cgt, k_ceq, k_cle, k_cge] at *; simp only [Int64.toInt_add, Int64.toInt_sub, Int32.toInt_add, Int32.toInt_sub, Int32.toInt_mul, Int64.le_iff_toInt_le, Int64.lt_iff_toInt_lt, Int32.le_iff_toInt_le, Int32.lt_iff_toInt_lt, ← Int32.toInt_inj, ← Int64.toInt_inj, Int32.toInt_toInt64, kc_0, kd_0] at *; (first | omega | ((try simp (disch := omega) only [k_bm64] at *); (try simp (disch := omega) only [k_bm] at *); (try simp (disch := omega) only [k_bm] at *); omega) | (simp only [Int.bmod] at *; omega))))
set_option maxHeartbeats 4000000 in
set_option maxRecDepth 100000 in
theorem g_part (l : Launch) (dC : Nat → ClassId) (dI : Nat → Nat → Nat) (cI cJ cQ : ClassId) (sz : Nat) (ab : Int64) (be : Int64) (w1 : Int32) (hh0 : ¬ be = 0) : Met l yX12_part (kW yX12_part cX12_part 11 (some .long)) { frames := 0, cells := 0, slots := 0, locals := 0 } (kPre dC dI cI cJ cQ sz [.long ab, .long be, .int w1] []) (va_Ql (fun (r : Int64) (u : Unit) => True) (fun (u : Unit) t₀ => kB dC dI cI cJ cQ (va_A [] sz) [] t₀) (va_A [] sz)) 0 0 (va_A [] sz) := by
  refine Met.ofW (cc := cX12_part) (maxL := 11) (ret := (some .long)) (by decide) rfl ?_
  intro p₀ e₀ s₀ m₀ args below meth c₀ s₁ B hml hv₀
  obtain ⟨rfl, hsz, hP, hK, hD0, hN⟩ := hv₀
  have hx₀ := B.exec
  have hb := B.bytes
  have hr := B.returns
  have hts := atoms_spec (ws := (kW yX12_part cX12_part 11 (some .long))) B.pre
  have hts := fun w h => hts w (List.mem_cons_of_mem _ h)
  have hown : s₀.vm.findClass RX12 = some m₀.cls := findClass_of_methodNamed B.named
  have hlocks := B.notSynchronized
  subst hsz
  have hD := hD0.self (sz := s₀.heap.size)
  generalize hAe : va_A [] s₀.heap.size = A at hD ⊢
  have hA : ∀ q : Nat, s₀.heap.size ≤ q → A q := fun q h => by rw [← hAe]; exact Or.inr h
  have hS : va_S A s₀.heap s₀.heap [] := va_S.rf
  have hP : va_P (dC, dI) vwCl [] s₀.heap := hP
  have hl := lv_entry ([.long ab, .long be, .int w1]) (n := 11) (Nat.le_of_ble_eq_true rfl)
  rw [lg_entry_eq]
  generalize (lg_sl ([.long ab, .long be, .int w1]) ++ List.replicate (11 - (lg_sl ([.long ab, .long be, .int w1])).length) Slot.unset).toArray = ls at hl ⊢
  have hl : lv_has ls 11 [(0, .long ab), (2, .long be), (4, .int w1)] := hl
  obtain ⟨H, hH⟩ : ∃ z : Heap, z = s₀.heap := ⟨_, rfl⟩
  rw [← hH] at hP
  have hS : va_S A s₀.heap H [] := by rw [hH]; exact hS
  refine k_heap hH ?_
  have hD : va_D A [] := hD
  obtain ⟨locs, hlo⟩ : ∃ z : List Loc, z = [] := ⟨_, rfl⟩
  rw [← hlo] at hS ⊢
  clear hlo hH hAe hD0
  refine lv_lload_n hx₀ hb dX12_part_0 rfl (lv_at hl 0 rfl) ?_
  refine lv_lstore (lv' := [(5, .long ab), (0, .long ab), (2, .long be), (4, .int w1)]) hx₀ hb dX12_part_1 hl (by decide) rfl (fun ls hl => ?_)
  refine lv_lload_n hx₀ hb dX12_part_3 rfl (lv_at hl 2 rfl) ?_
  refine lv_lstore (lv' := [(7, .long be), (5, .long ab), (0, .long ab), (2, .long be), (4, .int w1)]) hx₀ hb dX12_part_4 hl (by decide) rfl (fun ls hl => ?_)
  refine (?keyz1 : ∀ (jz1 : Nat) (az1 : Int64) (bz1 : Int64) (H : Heap) (locs : List Loc) (ls : Array Slot), (¬ az1 = 0 ∨ ¬ bz1 = 0) → (bz1.toInt.natAbs = jz1) → va_P (dC, dI) vwCl [] H → va_D A [] → va_S A s₀.heap H locs → lv_has ls 11 [(7, .long bz1), (5, .long az1), (0, .long ab), (2, .long be), (4, .int w1)] → W p₀ l e₀ _ s₀ m₀ _ below meth c₀ H locs _ _ _ (F0 m₀ 6 ls [])) _ ab be H locs ls (lf_g_part_1 be ab hh0) rfl hP hD hS hl
  clear hP hD hS hl
  intro jz1
  induction jz1 using Nat.strongRecOn with
  | ind jz1 ihz1 =>
    intro az1 bz1 H locs ls hiz1_0 hjz1 hP hD hS hl
    refine lv_lload hx₀ hb dX12_part_6 (lv_at hl 0 rfl) ?_
    refine lv_lconst (v := 0) hx₀ hb dX12_part_8 (by decide +kernel) ?_
    refine W.lcmp hx₀ hb dX12_part_9 ?_
    refine lv_if_eq (tgt := 31) hx₀ hb dX12_part_10 (by decide) (fun c_2 => ?_) (fun c_2 => ?_)
    · refine lv_iload hx₀ hb dX12_part_31 (lv_at hl 4 rfl) ?_
      refine lv_if_ne (tgt := 40) hx₀ hb dX12_part_33 (by decide) (fun c_3 => ?_) (fun c_3 => ?_)
      · refine lv_lload_n hx₀ hb dX12_part_40 rfl (lv_at hl 3 rfl) ?_
        refine lv_lload hx₀ hb dX12_part_41 (lv_at hl 1 rfl) ?_
        refine lv_ldiv hx₀ hb dX12_part_43 (lf_g_part_2 az1 bz1 jz1 hiz1_0 hjz1 c_2) ?_
        obtain ⟨hP9, hD9⟩ := k_c2 (wc := []) hP hD [] (by decide +kernel) rfl
        exact W.lret (v := be / az1) hx₀ hb hr (fun t₀ ht hW => ⟨⟨be / az1, (), rfl, trivial, by rw [ht]; exact hP9, va_K.moved hW.alike hK, hD9⟩, hS.F ht⟩) hS.2.2 dX12_part_44
      · refine lv_lload_n hx₀ hb dX12_part_36 rfl (lv_at hl 2 rfl) ?_
        refine lv_goto (tgt := 41) hx₀ hb dX12_part_37 (by decide) ?_
        refine lv_lload hx₀ hb dX12_part_41 (lv_at hl 1 rfl) ?_
        refine lv_ldiv hx₀ hb dX12_part_43 (lf_g_part_2 az1 bz1 jz1 hiz1_0 hjz1 c_2) ?_
        obtain ⟨hP9, hD9⟩ := k_c2 (wc := []) hP hD [] (by decide +kernel) rfl
        exact W.lret (v := ab / az1) hx₀ hb hr (fun t₀ ht hW => ⟨⟨ab / az1, (), rfl, trivial, by rw [ht]; exact hP9, va_K.moved hW.alike hK, hD9⟩, hS.F ht⟩) hS.2.2 dX12_part_44
    · refine lv_lload hx₀ hb dX12_part_13 (lv_at hl 1 rfl) ?_
      refine lv_lload hx₀ hb dX12_part_15 (lv_at hl 0 rfl) ?_
      refine lv_lrem hx₀ hb dX12_part_17 (lf_g_part_3 az1 bz1 jz1 hiz1_0 hjz1 c_2) ?_
      refine lv_lstore (lv' := [(9, .long (az1 - az1 / bz1 * bz1)), (7, .long bz1), (5, .long az1), (0, .long ab), (2, .long be), (4, .int w1)]) hx₀ hb dX12_part_18 hl (by decide) rfl (fun ls hl => ?_)
      refine lv_lload hx₀ hb dX12_part_20 (lv_at hl 1 rfl) ?_
      refine lv_lstore (lv' := [(5, .long bz1), (9, .long (az1 - az1 / bz1 * bz1)), (7, .long bz1), (0, .long ab), (2, .long be), (4, .int w1)]) hx₀ hb dX12_part_22 hl (by decide) rfl (fun ls hl => ?_)
      refine lv_lload hx₀ hb dX12_part_24 (lv_at hl 1 rfl) ?_
      refine lv_lstore (lv' := [(7, .long (az1 - az1 / bz1 * bz1)), (5, .long bz1), (9, .long (az1 - az1 / bz1 * bz1)), (0, .long ab), (2, .long be), (4, .int w1)]) hx₀ hb dX12_part_26 hl (by decide) rfl (fun ls hl => ?_)
      refine lv_goto (tgt := 6) hx₀ hb dX12_part_28 (by decide) ?_
      exact ihz1 _ (k_rem_lt (a := az1) hjz1 (lf_g_part_3 az1 bz1 jz1 hiz1_0 hjz1 c_2)) bz1 (az1 - az1 / bz1 * bz1) _ _ _ (Or.inl (lf_g_part_3 az1 bz1 jz1 hiz1_0 hjz1 c_2)) rfl (hP.sub [] rfl) (hD.sub [] (by decide +kernel) rfl) hS (lv_sub hl [0, 1, 3, 4, 5] rfl)
theorem lf_g_practiceOf_1 (a0 : Int32) (a1 : Nat) (h0 : 0 ≤ a0 ∧ a0 ≤ 64) (h1 : (64 - a0.toInt).toNat = a1) (h2 : ¬ 64 ≤ a0) : 0 ≤ (a0 + 1) ∧ (a0 + 1) ≤ 64 := by
  first | rfl | assumption | decide | exact Or.inl rfl | (first | omega | (have hr0 := Int32.toInt_lt a0; have hs0 := Int32.le_toInt a0; simp only [Int64.toInt_add, Int64.toInt_sub, Int32.toInt_add, Int32.toInt_sub, Int32.toInt_mul, Int64.le_iff_toInt_le, Int64.lt_iff_toInt_lt, Int32.le_iff_toInt_le, Int32.lt_iff_toInt_lt, ← Int32.toInt_inj, ← Int64.toInt_inj, Int32.toInt_toInt64, kc_0, kc_1, kc_64] at *; (first | omega | ((try simp (disch := omega) only [k_bm64] at *); (try simp (disch := omega) only [k_bm] at *); (try simp (disch := omega) only [k_bm] at *); omega) | (simp only [Int.bmod] at *; omega))))
theorem lf_g_practiceOf_2 (a0 : Int32) (a1 : Nat) (h0 : 0 ≤ a0 ∧ a0 ≤ 64) (h1 : (64 - a0.toInt).toNat = a1) (h2 : ¬ 64 ≤ a0) : (64 - (a0 + 1).toInt).toNat < a1 := by
  first | rfl | assumption | decide | exact Or.inl rfl | (first | omega | (have hr0 := Int32.toInt_lt a0; have hs0 := Int32.le_toInt a0; simp only [Int64.toInt_add, Int64.toInt_sub, Int32.toInt_add, Int32.toInt_sub, Int32.toInt_mul, Int64.le_iff_toInt_le, Int64.lt_iff_toInt_lt, Int32.le_iff_toInt_le, Int32.lt_iff_toInt_lt, ← Int32.toInt_inj, ← Int64.toInt_inj, Int32.toInt_toInt64, kc_0, kc_1, kc_64] at *; (first | omega | ((try simp (disch := omega) only [k_bm64] at *); (try simp (disch := omega) only [k_bm] at *); (try simp (disch := omega) only [k_bm] at *); omega) | (simp only [Int.bmod] at *; omega))))
set_option maxHeartbeats 4000000 in
set_option maxRecDepth 100000 in
theorem g_practiceOf (l : Launch) (dC : Nat → ClassId) (dI : Nat → Nat → Nat) (cI cJ cQ : ClassId) (sz : Nat) (hm : Nat) (f1 : Int32) (w1 : Int32) (vFo : Nat) (vSi : Nat) (vIt : Nat) (vMo : Nat) (la : Int32) (vBy : Nat) (vTy : Nat) (mi : Int32) (vMi : Nat) (pn : Int32) (vPs : Nat) (gn : Int32) (vGs : Nat) (fn : Int32) (vFt : Nat) (le : Int32) (vTo : Nat) (kn : Int32) (fe : Int32) (en : Int32) (ca : Int32) (an : Int32) (co : Int32) (vPr : Nat) (vSt : Nat) (vFn : Nat) (sn : Int32) (vSg : Nat) (vAl : Nat) (dr : Int32) (qMi : Nat → Int32) (qPs : Nat → Int32) (qGs : Nat → Int32) (qTo : Nat → Int32) (qPr : Nat → Int32) (qSt : Nat → Int32) (qFn : Nat → Int32) (qFt : Nat → Int32) (hh0 : 0 ≤ mi ∧ mi ≤ 24) (hh1 : 0 ≤ pn ∧ pn ≤ 8) (hh2 : 0 ≤ gn ∧ gn ≤ 8) (hh3 : k_bd 2 0 7 qPr) (hh4 : 0 ≤ fe ∧ fe ≤ 24) (hh5 : en = 0 ∨ kn = 0 ∨ fe ≤ 23) (hh6 : 0 ≤ kn ∧ kn ≤ 24) (hh7 : 0 ≤ f1 ∧ f1 ≤ 7) : Met l yX12_practiceOf (kW yX12_practiceOf cX12_practiceOf 6 (some .int)) { frames := 4, cells := 0, slots := 0, locals := 99 } (kPre dC dI cI cJ cQ sz [.ref hm, .int f1, .int w1] [(kX12 hm vFo vSi vIt vMo la vBy vTy mi vMi pn vPs gn vGs fn vFt le vTo kn fe en ca an co vPr vSt vFn sn vSg vAl dr), (kAI vMi cI 24 qMi), (kAI vPs cI 32 qPs), (kAI vGs cI 16 qGs), (kAI vTo cI 96 qTo), (kAI vPr cI 2 qPr), (kAI vSt cI 2 qSt), (kAI vFn cI 2 qFn), (kAI vFt cI 32 qFt)]) (va_Qi (fun (r : Int32) (u : kS) => (k_bd 2 0 7 (u.2.1 1)) ∧ (0 ≤ (u.1 1) ∧ (u.1 1) ≤ 24) ∧ ((u.1 2) = 0 ∨ (u.1 0) = 0 ∨ (u.1 1) ≤ 23) ∧ (0 ≤ (u.1 0) ∧ (u.1 0) ≤ 24)) (fun (u : kS) t₀ => kB dC dI cI cJ cQ (va_A [(kX12 hm vFo vSi vIt vMo la vBy vTy mi vMi pn vPs gn vGs fn vFt le vTo kn fe en ca an co vPr vSt vFn sn vSg vAl dr), (kAI vMi cI 24 qMi), (kAI vPs cI 32 qPs), (kAI vGs cI 16 qGs), (kAI vTo cI 96 qTo), (kAI vPr cI 2 qPr), (kAI vSt cI 2 qSt), (kAI vFn cI 2 qFn), (kAI vFt cI 32 qFt)] sz) [(kX12 hm vFo vSi vIt vMo la vBy vTy mi vMi pn vPs gn vGs fn vFt le vTo (u.1 0) (u.1 1) (u.1 2) ca (u.1 3) (u.1 4) vPr vSt vFn sn vSg vAl dr), (kAI vMi cI 24 qMi), (kAI vPs cI 32 qPs), (kAI vGs cI 16 qGs), (kAI vTo cI 96 (u.2.1 0)), (kAI vPr cI 2 (u.2.1 1)), (kAI vSt cI 2 (u.2.1 2)), (kAI vFn cI 2 (u.2.1 3)), (kAI vFt cI 32 qFt)] t₀) (va_A [(kX12 hm vFo vSi vIt vMo la vBy vTy mi vMi pn vPs gn vGs fn vFt le vTo kn fe en ca an co vPr vSt vFn sn vSg vAl dr), (kAI vMi cI 24 qMi), (kAI vPs cI 32 qPs), (kAI vGs cI 16 qGs), (kAI vTo cI 96 qTo), (kAI vPr cI 2 qPr), (kAI vSt cI 2 qSt), (kAI vFn cI 2 qFn), (kAI vFt cI 32 qFt)] sz)) 0 0 (va_A [(kX12 hm vFo vSi vIt vMo la vBy vTy mi vMi pn vPs gn vGs fn vFt le vTo kn fe en ca an co vPr vSt vFn sn vSg vAl dr), (kAI vMi cI 24 qMi), (kAI vPs cI 32 qPs), (kAI vGs cI 16 qGs), (kAI vTo cI 96 qTo), (kAI vPr cI 2 qPr), (kAI vSt cI 2 qSt), (kAI vFn cI 2 qFn), (kAI vFt cI 32 qFt)] sz) := by
  refine Met.ofW (cc := cX12_practiceOf) (maxL := 6) (ret := (some .int)) (by decide) rfl ?_
  intro p₀ e₀ s₀ m₀ args below meth c₀ s₁ B hml hv₀
  obtain ⟨rfl, hsz, hP, hK, hD0, hN⟩ := hv₀
  have hx₀ := B.exec
  have hb := B.bytes
  have hr := B.returns
  have hts := atoms_spec (ws := (kW yX12_practiceOf cX12_practiceOf 6 (some .int))) B.pre
  have hts := fun w h => hts w (List.mem_cons_of_mem _ h)
  have hown : s₀.vm.findClass RX12 = some m₀.cls := findClass_of_methodNamed B.named
  have hlocks := B.notSynchronized
  subst hsz
  have hD := hD0.self (sz := s₀.heap.size)
  generalize hAe : va_A [(kX12 hm vFo vSi vIt vMo la vBy vTy mi vMi pn vPs gn vGs fn vFt le vTo kn fe en ca an co vPr vSt vFn sn vSg vAl dr), (kAI vMi cI 24 qMi), (kAI vPs cI 32 qPs), (kAI vGs cI 16 qGs), (kAI vTo cI 96 qTo), (kAI vPr cI 2 qPr), (kAI vSt cI 2 qSt), (kAI vFn cI 2 qFn), (kAI vFt cI 32 qFt)] s₀.heap.size = A at hD ⊢
  have hA : ∀ q : Nat, s₀.heap.size ≤ q → A q := fun q h => by rw [← hAe]; exact Or.inr h
  have hS : va_S A s₀.heap s₀.heap [] := va_S.rf
  have hP : va_P (dC, dI) vwCl [(kX12 hm vFo vSi vIt vMo la vBy vTy mi vMi pn vPs gn vGs fn vFt le vTo kn fe en ca an co vPr vSt vFn sn vSg vAl dr), (kAI vMi cI 24 qMi), (kAI vPs cI 32 qPs), (kAI vGs cI 16 qGs), (kAI vTo cI 96 qTo), (kAI vPr cI 2 qPr), (kAI vSt cI 2 qSt), (kAI vFn cI 2 qFn), (kAI vFt cI 32 qFt)] s₀.heap := hP
  have hl := lv_entry ([.ref hm, .int f1, .int w1]) (n := 6) (Nat.le_of_ble_eq_true rfl)
  rw [lg_entry_eq]
  generalize (lg_sl ([.ref hm, .int f1, .int w1]) ++ List.replicate (6 - (lg_sl ([.ref hm, .int f1, .int w1])).length) Slot.unset).toArray = ls at hl ⊢
  have hl : lv_has ls 6 [(0, .ref hm), (1, .int f1), (2, .int w1)] := hl
  obtain ⟨H, hH⟩ : ∃ z : Heap, z = s₀.heap := ⟨_, rfl⟩
  rw [← hH] at hP
  have hS : va_S A s₀.heap H [] := by rw [hH]; exact hS
  refine k_heap hH ?_
  have hD : va_D A [(kX12 hm vFo vSi vIt vMo la vBy vTy mi vMi pn vPs gn vGs fn vFt le vTo kn fe en ca an co vPr vSt vFn sn vSg vAl dr), (kAI vMi cI 24 qMi), (kAI vPs cI 32 qPs), (kAI vGs cI 16 qGs), (kAI vTo cI 96 qTo), (kAI vPr cI 2 qPr), (kAI vSt cI 2 qSt), (kAI vFn cI 2 qFn), (kAI vFt cI 32 qFt)] := hD
  obtain ⟨locs, hlo⟩ : ∃ z : List Loc, z = [] := ⟨_, rfl⟩
  rw [← hlo] at hS ⊢
  clear hlo hH hAe hD0
  refine lv_aload_n hx₀ hb dX12_practiceOf_0 rfl (lv_at hl 0 rfl) ?_
  refine va_get (D := (dC, dI)) (ci := 11) (v := .int le) (C := RX12) (T := TX12) (N := 30) hx₀ hb hts inlX12 hown hK hP 0 rfl rfl 15 (by decide) (hts (.fieldLink RX12 167 "BittenStickModel" "learned" "I") wd_417) (fun _ h9 => h9) rfl dX12_practiceOf_1 ?_
  refine lv_istore_n (lv' := [(3, .int le), (0, .ref hm), (1, .int f1), (2, .int w1)]) hx₀ hb dX12_practiceOf_4 rfl hl (by decide) rfl (fun ls hl => ?_)
  refine lv_iconst (v := (-1)) hx₀ hb dX12_practiceOf_5 (by decide +kernel) ?_
  refine lv_istore (lv' := [(4, .int (-1)), (3, .int le), (0, .ref hm), (1, .int f1), (2, .int w1)]) hx₀ hb dX12_practiceOf_6 hl (by decide) rfl (fun ls hl => ?_)
  refine lv_iconst (v := 0) hx₀ hb dX12_practiceOf_8 (by decide +kernel) ?_
  refine lv_istore (lv' := [(5, .int 0), (4, .int (-1)), (3, .int le), (0, .ref hm), (1, .int f1), (2, .int w1)]) hx₀ hb dX12_practiceOf_9 hl (by decide) rfl (fun ls hl => ?_)
  refine (?keyz1 : ∀ (jz1 : Nat) (bez1 : Int32) (smz1 : Int32) (knz1 : Int32) (fez1 : Int32) (enz1 : Int32) (anz1 : Int32) (coz1 : Int32) (lez1 : Int32) (qtz1 : Nat → Int32) (qpz1 : Nat → Int32) (qsz1 : Nat → Int32) (qfz1 : Nat → Int32) (H : Heap) (locs : List Loc) (ls : Array Slot), (0 ≤ smz1 ∧ smz1 ≤ 64) → (k_bd 2 0 7 qpz1) → (0 ≤ fez1 ∧ fez1 ≤ 24) → (enz1 = 0 ∨ knz1 = 0 ∨ fez1 ≤ 23) → (0 ≤ knz1 ∧ knz1 ≤ 24) → ((64 - smz1.toInt).toNat = jz1) → va_P (dC, dI) vwCl [(kX12 hm vFo vSi vIt vMo la vBy vTy mi vMi pn vPs gn vGs fn vFt lez1 vTo knz1 fez1 enz1 ca anz1 coz1 vPr vSt vFn sn vSg vAl dr), (kAI vMi cI 24 qMi), (kAI vPs cI 32 qPs), (kAI vGs cI 16 qGs), (kAI vTo cI 96 qtz1), (kAI vPr cI 2 qpz1), (kAI vSt cI 2 qsz1), (kAI vFn cI 2 qfz1), (kAI vFt cI 32 qFt)] H → va_D A [(kX12 hm vFo vSi vIt vMo la vBy vTy mi vMi pn vPs gn vGs fn vFt lez1 vTo knz1 fez1 enz1 ca anz1 coz1 vPr vSt vFn sn vSg vAl dr), (kAI vMi cI 24 qMi), (kAI vPs cI 32 qPs), (kAI vGs cI 16 qGs), (kAI vTo cI 96 qtz1), (kAI vPr cI 2 qpz1), (kAI vSt cI 2 qsz1), (kAI vFn cI 2 qfz1), (kAI vFt cI 32 qFt)] → va_S A s₀.heap H locs → lv_has ls 6 [(5, .int smz1), (4, .int bez1), (3, .int le), (0, .ref hm), (1, .int f1), (2, .int w1)] → W p₀ l e₀ _ s₀ m₀ _ below meth c₀ H locs _ _ _ (F0 m₀ 11 ls [])) _ (-1 : Int32) (0 : Int32) kn fe en an co le _ _ _ _ H locs ls (show 0 ≤ (0 : Int32) ∧ (0 : Int32) ≤ 64 from ⟨(by decide), (by decide)⟩) (hh3) (hh4) (hh5) (hh6) rfl hP hD hS hl
  clear hP hD hS hl
  intro jz1
  induction jz1 using Nat.strongRecOn with
  | ind jz1 ihz1 =>
    intro bez1 smz1 knz1 fez1 enz1 anz1 coz1 lez1 qtz1 qpz1 qsz1 qfz1 H locs ls hiz1_0 hiz1_1 hiz1_2 hiz1_3 hiz1_4 hjz1 hP hD hS hl
    refine lv_iload hx₀ hb dX12_practiceOf_11 (lv_at hl 0 rfl) ?_
    refine lv_bipush (v := 64) hx₀ hb dX12_practiceOf_13 (by decide +kernel) ?_
    refine lv_icmp_ge (tgt := 70) hx₀ hb dX12_practiceOf_15 (by decide) (fun c_2 => ?_) (fun c_2 => ?_)
    · refine lv_aload_n hx₀ hb dX12_practiceOf_70 rfl (lv_at hl 3 rfl) ?_
      refine lv_iload_n hx₀ hb dX12_practiceOf_71 rfl (lv_at hl 2 rfl) ?_
      refine va_put (D := (dC, dI)) (ci := 11) (v := .int le) (ty := .int) (C := RX12) (T := TX12) (N := 30) hx₀ hb hts inlX12 tyX12 tyX12_ok nmX12 hown hK hP hD hS 0 rfl rfl 15 (by decide) (hts (.fieldLink RX12 167 "BittenStickModel" "learned" "I") wd_417) (fun _ h9 => h9) rfl (by decide +kernel) rfl rfl (Nat.le_of_ble_eq_true rfl) dX12_practiceOf_72 ?_
      clear hP hD hS
      intro H locs hP hD hS
      replace hP := k_w2 (wt := [(kX12 hm vFo vSi vIt vMo la vBy vTy mi vMi pn vPs gn vGs fn vFt le vTo knz1 fez1 enz1 ca anz1 coz1 vPr vSt vFn sn vSg vAl dr), (kAI vMi cI 24 qMi), (kAI vPs cI 32 qPs), (kAI vGs cI 16 qGs), (kAI vTo cI 96 qtz1), (kAI vPr cI 2 qpz1), (kAI vSt cI 2 qsz1), (kAI vFn cI 2 qfz1), (kAI vFt cI 32 qFt)]) hP hD rfl
      replace hD := hP.2
      replace hP := hP.1
      refine lv_iload hx₀ hb dX12_practiceOf_75 (lv_at hl 1 rfl) ?_
      refine lv_iconst (v := (-1)) hx₀ hb dX12_practiceOf_77 (by decide +kernel) ?_
      refine lv_icmp_eq (tgt := 86) hx₀ hb dX12_practiceOf_78 (by decide) (fun c_3 => ?_) (fun c_3 => ?_)
      · refine lv_iload hx₀ hb dX12_practiceOf_86 (lv_at hl 1 rfl) ?_
        refine lv_goto (tgt := 96) hx₀ hb dX12_practiceOf_88 (by decide) ?_
        obtain ⟨hP9, hD9⟩ := k_c2 (wc := [(kX12 hm vFo vSi vIt vMo la vBy vTy mi vMi pn vPs gn vGs fn vFt le vTo knz1 fez1 enz1 ca anz1 coz1 vPr vSt vFn sn vSg vAl dr), (kAI vMi cI 24 qMi), (kAI vPs cI 32 qPs), (kAI vGs cI 16 qGs), (kAI vTo cI 96 qtz1), (kAI vPr cI 2 qpz1), (kAI vSt cI 2 qsz1), (kAI vFn cI 2 qfz1), (kAI vFt cI 32 qFt)]) hP hD [0, 1, 2, 3, 4, 5, 6, 7, 8] (by decide +kernel) rfl
        exact W.iret (v := bez1) hx₀ hb hr (fun t₀ ht hW => ⟨⟨bez1, (k_fn [knz1, fez1, enz1, anz1, coz1], k_fa [qtz1, qpz1, qsz1, qfz1], k_fl [], k_fL [], k_fp []), rfl, ⟨hiz1_1, hiz1_2, hiz1_3, hiz1_4⟩, by rw [ht]; exact hP9, va_K.moved hW.alike hK, hD9⟩, hS.F ht⟩) hS.2.2 dX12_practiceOf_96
      · refine lv_iload_n hx₀ hb dX12_practiceOf_81 rfl (lv_at hl 5 rfl) ?_
        refine lv_iconst (v := 1) hx₀ hb dX12_practiceOf_82 (by decide +kernel) ?_
        refine lv_icmp_ne (tgt := 91) hx₀ hb dX12_practiceOf_83 (by decide) (fun c_4 => ?_) (fun c_4 => ?_)
        · refine lv_iload hx₀ hb dX12_practiceOf_91 (lv_at hl 1 rfl) ?_
          obtain ⟨hPc, hDc, hFc, hC⟩ := k_cw (wc := []) hP hD hS hA [] (by decide +kernel) rfl
          refine va_calli (va_runS (As := [.int bez1]) (rest := []) ⟨hx₀, hb, hml, hown, hts⟩ (g_ones l dC dI cI cJ cQ H.size bez1) (va_cwS 1 hts (kGS wd_671 wd_669 wd_670 wd_5) rfl rfl rfl (by decide +kernel) ⟨Nat.le_of_ble_eq_true rfl, Nat.le_of_ble_eq_true rfl⟩) (k_preS hK hPc hDc hN) rfl rfl hl.1 rfl (lv_room (Nat.le_of_ble_eq_true rfl)) dX12_practiceOf_93 ⟨by decide +kernel, by decide +kernel⟩) hS (fun q _ h => hFc q h) hFc (fun r_5 u₀ t₀ H1 locs ht hvm hw hB hz1 hk1 hS => ?_)
          obtain ⟨hP1, hK1, hD1⟩ := hB
          rw [ht] at hP1
          have hJ := k_jn (wr := [(kX12 hm vFo vSi vIt vMo la vBy vTy mi vMi pn vPs gn vGs fn vFt le vTo knz1 fez1 enz1 ca anz1 coz1 vPr vSt vFn sn vSg vAl dr), (kAI vMi cI 24 qMi), (kAI vPs cI 32 qPs), (kAI vGs cI 16 qGs), (kAI vTo cI 96 qtz1), (kAI vPr cI 2 qpz1), (kAI vSt cI 2 qsz1), (kAI vFn cI 2 qfz1), (kAI vFt cI 32 qFt)]) (wt := [(kX12 hm vFo vSi vIt vMo la vBy vTy mi vMi pn vPs gn vGs fn vFt le vTo knz1 fez1 enz1 ca anz1 coz1 vPr vSt vFn sn vSg vAl dr), (kAI vMi cI 24 qMi), (kAI vPs cI 32 qPs), (kAI vGs cI 16 qGs), (kAI vTo cI 96 qtz1), (kAI vPr cI 2 qpz1), (kAI vSt cI 2 qsz1), (kAI vFn cI 2 qfz1), (kAI vFt cI 32 qFt)]) hP hD hC [0, 1, 2, 3, 4, 5, 6, 7, 8] rfl (by decide +kernel) (by decide +kernel) hk1 hFc hP1 hD1 rfl
          clear hP hD hPc hDc hFc hC hP1 hD1 hK1 hz1 hk1 hvm ht
          obtain ⟨hP, hD⟩ := hJ
          generalize H1 = H at hP hS ⊢
          try dsimp only at hw
          obtain ⟨hP9, hD9⟩ := k_c2 (wc := [(kX12 hm vFo vSi vIt vMo la vBy vTy mi vMi pn vPs gn vGs fn vFt le vTo knz1 fez1 enz1 ca anz1 coz1 vPr vSt vFn sn vSg vAl dr), (kAI vMi cI 24 qMi), (kAI vPs cI 32 qPs), (kAI vGs cI 16 qGs), (kAI vTo cI 96 qtz1), (kAI vPr cI 2 qpz1), (kAI vSt cI 2 qsz1), (kAI vFn cI 2 qfz1), (kAI vFt cI 32 qFt)]) hP hD [0, 1, 2, 3, 4, 5, 6, 7, 8] (by decide +kernel) rfl
          exact W.iret (v := r_5) hx₀ hb hr (fun t₀ ht hW => ⟨⟨r_5, (k_fn [knz1, fez1, enz1, anz1, coz1], k_fa [qtz1, qpz1, qsz1, qfz1], k_fl [], k_fL [], k_fp []), rfl, ⟨hiz1_1, hiz1_2, hiz1_3, hiz1_4⟩, by rw [ht]; exact hP9, va_K.moved hW.alike hK, hD9⟩, hS.F ht⟩) hS.2.2 dX12_practiceOf_96
        · refine lv_iload hx₀ hb dX12_practiceOf_86 (lv_at hl 1 rfl) ?_
          refine lv_goto (tgt := 96) hx₀ hb dX12_practiceOf_88 (by decide) ?_
          obtain ⟨hP9, hD9⟩ := k_c2 (wc := [(kX12 hm vFo vSi vIt vMo la vBy vTy mi vMi pn vPs gn vGs fn vFt le vTo knz1 fez1 enz1 ca anz1 coz1 vPr vSt vFn sn vSg vAl dr), (kAI vMi cI 24 qMi), (kAI vPs cI 32 qPs), (kAI vGs cI 16 qGs), (kAI vTo cI 96 qtz1), (kAI vPr cI 2 qpz1), (kAI vSt cI 2 qsz1), (kAI vFn cI 2 qfz1), (kAI vFt cI 32 qFt)]) hP hD [0, 1, 2, 3, 4, 5, 6, 7, 8] (by decide +kernel) rfl
          exact W.iret (v := bez1) hx₀ hb hr (fun t₀ ht hW => ⟨⟨bez1, (k_fn [knz1, fez1, enz1, anz1, coz1], k_fa [qtz1, qpz1, qsz1, qfz1], k_fl [], k_fL [], k_fp []), rfl, ⟨hiz1_1, hiz1_2, hiz1_3, hiz1_4⟩, by rw [ht]; exact hP9, va_K.moved hW.alike hK, hD9⟩, hS.F ht⟩) hS.2.2 dX12_practiceOf_96
    · refine lv_aload_n hx₀ hb dX12_practiceOf_18 rfl (lv_at hl 3 rfl) ?_
      refine lv_iload hx₀ hb dX12_practiceOf_19 (lv_at hl 0 rfl) ?_
      refine va_put (D := (dC, dI)) (ci := 11) (v := .int smz1) (ty := .int) (C := RX12) (T := TX12) (N := 30) hx₀ hb hts inlX12 tyX12 tyX12_ok nmX12 hown hK hP hD hS 0 rfl rfl 15 (by decide) (hts (.fieldLink RX12 167 "BittenStickModel" "learned" "I") wd_417) (fun _ h9 => h9) rfl (by decide +kernel) rfl rfl (Nat.le_of_ble_eq_true rfl) dX12_practiceOf_21 ?_
      clear hP hD hS
      intro H locs hP hD hS
      replace hP := k_w2 (wt := [(kX12 hm vFo vSi vIt vMo la vBy vTy mi vMi pn vPs gn vGs fn vFt smz1 vTo knz1 fez1 enz1 ca anz1 coz1 vPr vSt vFn sn vSg vAl dr), (kAI vMi cI 24 qMi), (kAI vPs cI 32 qPs), (kAI vGs cI 16 qGs), (kAI vTo cI 96 qtz1), (kAI vPr cI 2 qpz1), (kAI vSt cI 2 qsz1), (kAI vFn cI 2 qfz1), (kAI vFt cI 32 qFt)]) hP hD rfl
      replace hD := hP.2
      replace hP := hP.1
      refine lv_aload_n hx₀ hb dX12_practiceOf_24 rfl (lv_at hl 3 rfl) ?_
      refine lv_iload_n hx₀ hb dX12_practiceOf_25 rfl (lv_at hl 4 rfl) ?_
      obtain ⟨hPc, hDc, hFc, hC⟩ := k_cw (wc := [(kX12 hm vFo vSi vIt vMo la vBy vTy mi vMi pn vPs gn vGs fn vFt smz1 vTo knz1 fez1 enz1 ca anz1 coz1 vPr vSt vFn sn vSg vAl dr), (kAI vMi cI 24 qMi), (kAI vPs cI 32 qPs), (kAI vGs cI 16 qGs), (kAI vTo cI 96 qtz1), (kAI vPr cI 2 qpz1), (kAI vSt cI 2 qsz1), (kAI vFn cI 2 qfz1), (kAI vFt cI 32 qFt)]) hP hD hS hA [0, 1, 2, 3, 4, 5, 6, 7, 8] (by decide +kernel) rfl
      refine va_callv (va_runV (As := [.int f1]) (rest := []) ⟨hx₀, hb, hml, hown, hts⟩ (g_fliesTold l dC dI cI cJ cQ H.size hm f1 vFo vSi vIt vMo la vBy vTy mi vMi pn vPs gn vGs fn vFt smz1 vTo knz1 fez1 enz1 ca anz1 coz1 vPr vSt vFn sn vSg vAl dr qMi qPs qGs qtz1 qpz1 qsz1 qfz1 qFt (hh0) (hh1) (hh2) (hiz1_1) (hh7)) (cwV 1 hts (kGV wd_536 wd_533 wd_534 wd_535 wd_5) rfl rfl rfl (by decide +kernel) ⟨Nat.le_of_ble_eq_true rfl, Nat.le_of_ble_eq_true rfl⟩) (k_preV11 (q0 := 0) hK hPc hDc hN rfl) rfl rfl hl.1 rfl (lv_room (Nat.le_of_ble_eq_true rfl)) dX12_practiceOf_26 ⟨by decide +kernel, by decide +kernel⟩) hS (fun q _ h => hFc q h) hFc (fun u₀ t₀ H1 locs ht hvm hw hB hz1 hk1 hS => ?_)
      obtain ⟨g_7, ga_8, gl_9, gb_10, gp_11⟩ := u₀
      obtain ⟨hP1, hK1, hD1⟩ := hB
      rw [ht] at hP1
      have hJ := k_jn (wr := []) (wt := [(kX12 hm vFo vSi vIt vMo la vBy vTy mi vMi pn vPs gn vGs fn vFt smz1 vTo (g_7 0) (g_7 1) (g_7 2) ca (g_7 3) (g_7 4) vPr vSt vFn sn vSg vAl dr), (kAI vMi cI 24 qMi), (kAI vPs cI 32 qPs), (kAI vGs cI 16 qGs), (kAI vTo cI 96 (ga_8 0)), (kAI vPr cI 2 (ga_8 1)), (kAI vSt cI 2 (ga_8 2)), (kAI vFn cI 2 (ga_8 3)), (kAI vFt cI 32 qFt)]) hP hD hC [] rfl (by decide +kernel) (by decide +kernel) hk1 hFc hP1 hD1 rfl
      clear hP hD hPc hDc hFc hC hP1 hD1 hK1 hz1 hk1 hvm ht
      obtain ⟨hP, hD⟩ := hJ
      generalize H1 = H at hP hS ⊢
      try dsimp only at hw
      obtain ⟨c_12, c_13, c_14, c_15⟩ := hw
      refine lv_aload_n hx₀ hb dX12_practiceOf_29 rfl (lv_at hl 3 rfl) ?_
      refine va_get (D := (dC, dI)) (ci := 11) (v := .int (g_7 2)) (C := RX12) (T := TX12) (N := 30) hx₀ hb hts inlX12 hown hK hP 0 rfl rfl 19 (by decide) (hts (.fieldLink RX12 196 "BittenStickModel" "end" "I") wd_543) (fun _ h9 => h9) rfl dX12_practiceOf_30 ?_
      refine lv_if_ne (tgt := 60) hx₀ hb dX12_practiceOf_33 (by decide) (fun c_16 => ?_) (fun c_16 => ?_)
      · refine lv_iload hx₀ hb dX12_practiceOf_60 (lv_at hl 1 rfl) ?_
        refine lv_istore (lv' := [(4, .int bez1), (5, .int smz1), (3, .int le), (0, .ref hm), (1, .int f1), (2, .int w1)]) hx₀ hb dX12_practiceOf_62 hl (by decide) rfl (fun ls hl => ?_)
        refine lv_iinc (v := smz1 + 1) (lv' := [(5, .int (smz1 + 1)), (4, .int bez1), (3, .int le), (0, .ref hm), (1, .int f1), (2, .int w1)]) hx₀ hb dX12_practiceOf_64 hl (k := 1) rfl rfl (by decide) rfl (fun ls hl => ?_)
        refine lv_goto (tgt := 11) hx₀ hb dX12_practiceOf_67 (by decide) ?_
        exact ihz1 _ (lf_g_practiceOf_2 smz1 jz1 hiz1_0 hjz1 c_2) bez1 (smz1 + 1) (g_7 0) (g_7 1) (g_7 2) (g_7 3) (g_7 4) smz1 (ga_8 0) (ga_8 1) (ga_8 2) (ga_8 3) _ _ _ (lf_g_practiceOf_1 smz1 jz1 hiz1_0 hjz1 c_2) (c_12) (c_13) (c_14) (c_15) rfl (hP.sub [0, 1, 2, 3, 4, 5, 6, 7, 8] rfl) (hD.sub [0, 1, 2, 3, 4, 5, 6, 7, 8] (by decide +kernel) rfl) hS (lv_sub hl [0, 1, 2, 3, 4, 5] rfl)
      · refine lv_iload hx₀ hb dX12_practiceOf_36 (lv_at hl 1 rfl) ?_
        refine lv_iconst (v := (-1)) hx₀ hb dX12_practiceOf_38 (by decide +kernel) ?_
        refine lv_icmp_eq (tgt := 55) hx₀ hb dX12_practiceOf_39 (by decide) (fun c_17 => ?_) (fun c_17 => ?_)
        · refine lv_iload hx₀ hb dX12_practiceOf_55 (lv_at hl 0 rfl) ?_
          refine lv_goto (tgt := 62) hx₀ hb dX12_practiceOf_57 (by decide) ?_
          refine lv_istore (lv' := [(4, .int smz1), (5, .int smz1), (3, .int le), (0, .ref hm), (1, .int f1), (2, .int w1)]) hx₀ hb dX12_practiceOf_62 hl (by decide) rfl (fun ls hl => ?_)
          refine lv_iinc (v := smz1 + 1) (lv' := [(5, .int (smz1 + 1)), (4, .int smz1), (3, .int le), (0, .ref hm), (1, .int f1), (2, .int w1)]) hx₀ hb dX12_practiceOf_64 hl (k := 1) rfl rfl (by decide) rfl (fun ls hl => ?_)
          refine lv_goto (tgt := 11) hx₀ hb dX12_practiceOf_67 (by decide) ?_
          exact ihz1 _ (lf_g_practiceOf_2 smz1 jz1 hiz1_0 hjz1 c_2) smz1 (smz1 + 1) (g_7 0) (g_7 1) (g_7 2) (g_7 3) (g_7 4) smz1 (ga_8 0) (ga_8 1) (ga_8 2) (ga_8 3) _ _ _ (lf_g_practiceOf_1 smz1 jz1 hiz1_0 hjz1 c_2) (c_12) (c_13) (c_14) (c_15) rfl (hP.sub [0, 1, 2, 3, 4, 5, 6, 7, 8] rfl) (hD.sub [0, 1, 2, 3, 4, 5, 6, 7, 8] (by decide +kernel) rfl) hS (lv_sub hl [0, 1, 2, 3, 4, 5] rfl)
        · refine lv_iload hx₀ hb dX12_practiceOf_42 (lv_at hl 0 rfl) ?_
          obtain ⟨hPc, hDc, hFc, hC⟩ := k_cw (wc := []) hP hD hS hA [] (by decide +kernel) rfl
          refine va_calli (va_runS (As := [.int smz1]) (rest := []) ⟨hx₀, hb, hml, hown, hts⟩ (g_ones l dC dI cI cJ cQ H.size smz1) (va_cwS 1 hts (kGS wd_671 wd_669 wd_670 wd_5) rfl rfl rfl (by decide +kernel) ⟨Nat.le_of_ble_eq_true rfl, Nat.le_of_ble_eq_true rfl⟩) (k_preS hK hPc hDc hN) rfl rfl hl.1 rfl (lv_room (Nat.le_of_ble_eq_true rfl)) dX12_practiceOf_44 ⟨by decide +kernel, by decide +kernel⟩) hS (fun q _ h => hFc q h) hFc (fun r_18 u₀ t₀ H1 locs ht hvm hw hB hz1 hk1 hS => ?_)
          obtain ⟨hP1, hK1, hD1⟩ := hB
          rw [ht] at hP1
          have hJ := k_jn (wr := [(kX12 hm vFo vSi vIt vMo la vBy vTy mi vMi pn vPs gn vGs fn vFt smz1 vTo (g_7 0) (g_7 1) (g_7 2) ca (g_7 3) (g_7 4) vPr vSt vFn sn vSg vAl dr), (kAI vMi cI 24 qMi), (kAI vPs cI 32 qPs), (kAI vGs cI 16 qGs), (kAI vTo cI 96 (ga_8 0)), (kAI vPr cI 2 (ga_8 1)), (kAI vSt cI 2 (ga_8 2)), (kAI vFn cI 2 (ga_8 3)), (kAI vFt cI 32 qFt)]) (wt := [(kX12 hm vFo vSi vIt vMo la vBy vTy mi vMi pn vPs gn vGs fn vFt smz1 vTo (g_7 0) (g_7 1) (g_7 2) ca (g_7 3) (g_7 4) vPr vSt vFn sn vSg vAl dr), (kAI vMi cI 24 qMi), (kAI vPs cI 32 qPs), (kAI vGs cI 16 qGs), (kAI vTo cI 96 (ga_8 0)), (kAI vPr cI 2 (ga_8 1)), (kAI vSt cI 2 (ga_8 2)), (kAI vFn cI 2 (ga_8 3)), (kAI vFt cI 32 qFt)]) hP hD hC [0, 1, 2, 3, 4, 5, 6, 7, 8] rfl (by decide +kernel) (by decide +kernel) hk1 hFc hP1 hD1 rfl
          clear hP hD hPc hDc hFc hC hP1 hD1 hK1 hz1 hk1 hvm ht
          obtain ⟨hP, hD⟩ := hJ
          generalize H1 = H at hP hS ⊢
          try dsimp only at hw
          refine lv_iload hx₀ hb dX12_practiceOf_47 (lv_at hl 1 rfl) ?_
          obtain ⟨hPc, hDc, hFc, hC⟩ := k_cw (wc := []) hP hD hS hA [] (by decide +kernel) rfl
          refine va_calli (va_runS (As := [.int bez1]) (rest := [.int r_18]) ⟨hx₀, hb, hml, hown, hts⟩ (g_ones l dC dI cI cJ cQ H.size bez1) (va_cwS 1 hts (kGS wd_671 wd_669 wd_670 wd_5) rfl rfl rfl (by decide +kernel) ⟨Nat.le_of_ble_eq_true rfl, Nat.le_of_ble_eq_true rfl⟩) (k_preS hK hPc hDc hN) rfl rfl hl.1 rfl (lv_room (Nat.le_of_ble_eq_true rfl)) dX12_practiceOf_49 ⟨by decide +kernel, by decide +kernel⟩) hS (fun q _ h => hFc q h) hFc (fun r_19 u₀ t₀ H1 locs ht hvm hw hB hz1 hk1 hS => ?_)
          obtain ⟨hP1, hK1, hD1⟩ := hB
          rw [ht] at hP1
          have hJ := k_jn (wr := [(kX12 hm vFo vSi vIt vMo la vBy vTy mi vMi pn vPs gn vGs fn vFt smz1 vTo (g_7 0) (g_7 1) (g_7 2) ca (g_7 3) (g_7 4) vPr vSt vFn sn vSg vAl dr), (kAI vMi cI 24 qMi), (kAI vPs cI 32 qPs), (kAI vGs cI 16 qGs), (kAI vTo cI 96 (ga_8 0)), (kAI vPr cI 2 (ga_8 1)), (kAI vSt cI 2 (ga_8 2)), (kAI vFn cI 2 (ga_8 3)), (kAI vFt cI 32 qFt)]) (wt := [(kX12 hm vFo vSi vIt vMo la vBy vTy mi vMi pn vPs gn vGs fn vFt smz1 vTo (g_7 0) (g_7 1) (g_7 2) ca (g_7 3) (g_7 4) vPr vSt vFn sn vSg vAl dr), (kAI vMi cI 24 qMi), (kAI vPs cI 32 qPs), (kAI vGs cI 16 qGs), (kAI vTo cI 96 (ga_8 0)), (kAI vPr cI 2 (ga_8 1)), (kAI vSt cI 2 (ga_8 2)), (kAI vFn cI 2 (ga_8 3)), (kAI vFt cI 32 qFt)]) hP hD hC [0, 1, 2, 3, 4, 5, 6, 7, 8] rfl (by decide +kernel) (by decide +kernel) hk1 hFc hP1 hD1 rfl
          clear hP hD hPc hDc hFc hC hP1 hD1 hK1 hz1 hk1 hvm ht
          obtain ⟨hP, hD⟩ := hJ
          generalize H1 = H at hP hS ⊢
          try dsimp only at hw
          refine lv_icmp_ge (tgt := 60) hx₀ hb dX12_practiceOf_52 (by decide) (fun c_20 => ?_) (fun c_20 => ?_)
          · refine lv_iload hx₀ hb dX12_practiceOf_60 (lv_at hl 1 rfl) ?_
            refine lv_istore (lv' := [(4, .int bez1), (5, .int smz1), (3, .int le), (0, .ref hm), (1, .int f1), (2, .int w1)]) hx₀ hb dX12_practiceOf_62 hl (by decide) rfl (fun ls hl => ?_)
            refine lv_iinc (v := smz1 + 1) (lv' := [(5, .int (smz1 + 1)), (4, .int bez1), (3, .int le), (0, .ref hm), (1, .int f1), (2, .int w1)]) hx₀ hb dX12_practiceOf_64 hl (k := 1) rfl rfl (by decide) rfl (fun ls hl => ?_)
            refine lv_goto (tgt := 11) hx₀ hb dX12_practiceOf_67 (by decide) ?_
            exact ihz1 _ (lf_g_practiceOf_2 smz1 jz1 hiz1_0 hjz1 c_2) bez1 (smz1 + 1) (g_7 0) (g_7 1) (g_7 2) (g_7 3) (g_7 4) smz1 (ga_8 0) (ga_8 1) (ga_8 2) (ga_8 3) _ _ _ (lf_g_practiceOf_1 smz1 jz1 hiz1_0 hjz1 c_2) (c_12) (c_13) (c_14) (c_15) rfl (hP.sub [0, 1, 2, 3, 4, 5, 6, 7, 8] rfl) (hD.sub [0, 1, 2, 3, 4, 5, 6, 7, 8] (by decide +kernel) rfl) hS (lv_sub hl [0, 1, 2, 3, 4, 5] rfl)
          · refine lv_iload hx₀ hb dX12_practiceOf_55 (lv_at hl 0 rfl) ?_
            refine lv_goto (tgt := 62) hx₀ hb dX12_practiceOf_57 (by decide) ?_
            refine lv_istore (lv' := [(4, .int smz1), (5, .int smz1), (3, .int le), (0, .ref hm), (1, .int f1), (2, .int w1)]) hx₀ hb dX12_practiceOf_62 hl (by decide) rfl (fun ls hl => ?_)
            refine lv_iinc (v := smz1 + 1) (lv' := [(5, .int (smz1 + 1)), (4, .int smz1), (3, .int le), (0, .ref hm), (1, .int f1), (2, .int w1)]) hx₀ hb dX12_practiceOf_64 hl (k := 1) rfl rfl (by decide) rfl (fun ls hl => ?_)
            refine lv_goto (tgt := 11) hx₀ hb dX12_practiceOf_67 (by decide) ?_
            exact ihz1 _ (lf_g_practiceOf_2 smz1 jz1 hiz1_0 hjz1 c_2) smz1 (smz1 + 1) (g_7 0) (g_7 1) (g_7 2) (g_7 3) (g_7 4) smz1 (ga_8 0) (ga_8 1) (ga_8 2) (ga_8 3) _ _ _ (lf_g_practiceOf_1 smz1 jz1 hiz1_0 hjz1 c_2) (c_12) (c_13) (c_14) (c_15) rfl (hP.sub [0, 1, 2, 3, 4, 5, 6, 7, 8] rfl) (hD.sub [0, 1, 2, 3, 4, 5, 6, 7, 8] (by decide +kernel) rfl) hS (lv_sub hl [0, 1, 2, 3, 4, 5] rfl)
theorem lf_g_pairOf_1 (a0 : Int32) (a1 : Nat) (h0 : 0 ≤ a0 ∧ a0 ≤ 64) (h1 : (64 - a0.toInt).toNat = a1) (h2 : ¬ 64 ≤ a0) (h3 : (a0 / 8) = (a0 - a0 / 8 * 8)) : 0 ≤ (a0 + 1) ∧ (a0 + 1) ≤ 64 := by
  first | rfl | assumption | decide | exact Or.inl rfl | (first | omega | (have hr0 := Int32.toInt_lt a0; have hs0 := Int32.le_toInt a0; have hd0 : (0 : Int) ≤ a0.toInt := (by first | omega | (simp only [Int64.toInt_add, Int64.toInt_sub, Int32.toInt_add, Int32.toInt_sub, Int32.toInt_mul, Int64.le_iff_toInt_le, Int64.lt_iff_toInt_lt, Int32.le_iff_toInt_le, Int32.lt_iff_toInt_lt, ← Int32.toInt_inj, ← Int64.toInt_inj, Int32.toInt_toInt64, kc_0, kc_1, kc_8, kc_64] at *; omega)); have he0 := Int.tdiv_eq_ediv_of_nonneg (b := 8) hd0; simp only [Int64.toInt_add, Int64.toInt_sub, Int32.toInt_add, Int32.toInt_sub, Int32.toInt_mul, Int64.le_iff_toInt_le, Int64.lt_iff_toInt_lt, Int32.le_iff_toInt_le, Int32.lt_iff_toInt_lt, ← Int32.toInt_inj, ← Int64.toInt_inj, Int32.toInt_toInt64, Int32.toInt_div, kc_0, kc_1, kc_8, kc_64] at *; simp only [he0] at *; (first | omega | ((try simp (disch := omega) only [k_bm64] at *); (try simp (disch := omega) only [k_bm] at *); (try simp (disch := omega) only [k_bm] at *); omega) | (simp only [Int.bmod] at *; omega))))
theorem lf_g_pairOf_2 (a0 : Int32) (a1 : Nat) (h0 : 0 ≤ a0 ∧ a0 ≤ 64) (h1 : (64 - a0.toInt).toNat = a1) (h2 : ¬ 64 ≤ a0) (h3 : (a0 / 8) = (a0 - a0 / 8 * 8)) : (64 - (a0 + 1).toInt).toNat < a1 := by
  first | rfl | assumption | decide | exact Or.inl rfl | (first | omega | (have hr0 := Int32.toInt_lt a0; have hs0 := Int32.le_toInt a0; have hd0 : (0 : Int) ≤ a0.toInt := (by first | omega | (simp only [Int64.toInt_add, Int64.toInt_sub, Int32.toInt_add, Int32.toInt_sub, Int32.toInt_mul, Int64.le_iff_toInt_le, Int64.lt_iff_toInt_lt, Int32.le_iff_toInt_le, Int32.lt_iff_toInt_lt, ← Int32.toInt_inj, ← Int64.toInt_inj, Int32.toInt_toInt64, kc_0, kc_1, kc_8, kc_64] at *; omega)); have he0 := Int.tdiv_eq_ediv_of_nonneg (b := 8) hd0; simp only [Int64.toInt_add, Int64.toInt_sub, Int32.toInt_add, Int32.toInt_sub, Int32.toInt_mul, Int64.le_iff_toInt_le, Int64.lt_iff_toInt_lt, Int32.le_iff_toInt_le, Int32.lt_iff_toInt_lt, ← Int32.toInt_inj, ← Int64.toInt_inj, Int32.toInt_toInt64, Int32.toInt_div, kc_0, kc_1, kc_8, kc_64] at *; simp only [he0] at *; (first | omega | ((try simp (disch := omega) only [k_bm64] at *); (try simp (disch := omega) only [k_bm] at *); (try simp (disch := omega) only [k_bm] at *); omega) | (simp only [Int.bmod] at *; omega))))
theorem lf_g_pairOf_3 (a0 : Int32) (a1 : Int32) (a2 : Nat) (h0 : 0 ≤ a0 ∧ a0 ≤ 8) (h1 : 0 ≤ a1 ∧ a1 ≤ 64) (h2 : (64 - a1.toInt).toNat = a2) (h3 : ¬ 64 ≤ a1) (h4 : ¬ (a1 / 8) = (a1 - a1 / 8 * 8)) (h5 : a0 ≤ (a1 / 8)) : 0 ≤ (a1 + 1) ∧ (a1 + 1) ≤ 64 := by
  first | rfl | assumption | decide | exact Or.inl rfl | (first | omega | (have hr0 := Int32.toInt_lt a0; have hs0 := Int32.le_toInt a0; have hr1 := Int32.toInt_lt a1; have hs1 := Int32.le_toInt a1; have hd0 : (0 : Int) ≤ a1.toInt := (by first | omega | (simp only [Int64.toInt_add, Int64.toInt_sub, Int32.toInt_add, Int32.toInt_sub, Int32.toInt_mul, Int64.le_iff_toInt_le, Int64.lt_iff_toInt_lt, Int32.le_iff_toInt_le, Int32.lt_iff_toInt_lt, ← Int32.toInt_inj, ← Int64.toInt_inj, Int32.toInt_toInt64, kc_0, kc_1, kc_8, kc_64] at *; omega)); have he0 := Int.tdiv_eq_ediv_of_nonneg (b := 8) hd0; simp only [Int64.toInt_add, Int64.toInt_sub, Int32.toInt_add, Int32.toInt_sub, Int32.toInt_mul, Int64.le_iff_toInt_le, Int64.lt_iff_toInt_lt, Int32.le_iff_toInt_le, Int32.lt_iff_toInt_lt, ← Int32.toInt_inj, ← Int64.toInt_inj, Int32.toInt_toInt64, Int32.toInt_div, kc_0, kc_1, kc_8, kc_64] at *; simp only [he0] at *; (first | omega | ((try simp (disch := omega) only [k_bm64] at *); (try simp (disch := omega) only [k_bm] at *); (try simp (disch := omega) only [k_bm] at *); omega) | (simp only [Int.bmod] at *; omega))))
theorem lf_g_pairOf_4 (a0 : Int32) (a1 : Int32) (a2 : Nat) (h0 : 0 ≤ a0 ∧ a0 ≤ 8) (h1 : 0 ≤ a1 ∧ a1 ≤ 64) (h2 : (64 - a1.toInt).toNat = a2) (h3 : ¬ 64 ≤ a1) (h4 : ¬ (a1 / 8) = (a1 - a1 / 8 * 8)) (h5 : a0 ≤ (a1 / 8)) : (64 - (a1 + 1).toInt).toNat < a2 := by
  first | rfl | assumption | decide | exact Or.inl rfl | (first | omega | (have hr0 := Int32.toInt_lt a0; have hs0 := Int32.le_toInt a0; have hr1 := Int32.toInt_lt a1; have hs1 := Int32.le_toInt a1; have hd0 : (0 : Int) ≤ a1.toInt := (by first | omega | (simp only [Int64.toInt_add, Int64.toInt_sub, Int32.toInt_add, Int32.toInt_sub, Int32.toInt_mul, Int64.le_iff_toInt_le, Int64.lt_iff_toInt_lt, Int32.le_iff_toInt_le, Int32.lt_iff_toInt_lt, ← Int32.toInt_inj, ← Int64.toInt_inj, Int32.toInt_toInt64, kc_0, kc_1, kc_8, kc_64] at *; omega)); have he0 := Int.tdiv_eq_ediv_of_nonneg (b := 8) hd0; simp only [Int64.toInt_add, Int64.toInt_sub, Int32.toInt_add, Int32.toInt_sub, Int32.toInt_mul, Int64.le_iff_toInt_le, Int64.lt_iff_toInt_lt, Int32.le_iff_toInt_le, Int32.lt_iff_toInt_lt, ← Int32.toInt_inj, ← Int64.toInt_inj, Int32.toInt_toInt64, Int32.toInt_div, kc_0, kc_1, kc_8, kc_64] at *; simp only [he0] at *; (first | omega | ((try simp (disch := omega) only [k_bm64] at *); (try simp (disch := omega) only [k_bm] at *); (try simp (disch := omega) only [k_bm] at *); omega) | (simp only [Int.bmod] at *; omega))))
theorem lf_g_pairOf_5 (a0 : Int32) (a1 : Int32) (a2 : Nat) (h0 : 0 ≤ a0 ∧ a0 ≤ 8) (h1 : 0 ≤ a1 ∧ a1 ≤ 64) (h2 : (64 - a1.toInt).toNat = a2) (h3 : ¬ 64 ≤ a1) (h4 : ¬ (a1 / 8) = (a1 - a1 / 8 * 8)) (h5 : ¬ a0 ≤ (a1 / 8)) (h6 : a0 ≤ (a1 - a1 / 8 * 8)) : 0 ≤ (a1 + 1) ∧ (a1 + 1) ≤ 64 := by
  first | rfl | assumption | decide | exact Or.inl rfl | (first | omega | (have hr0 := Int32.toInt_lt a0; have hs0 := Int32.le_toInt a0; have hr1 := Int32.toInt_lt a1; have hs1 := Int32.le_toInt a1; have hd0 : (0 : Int) ≤ a1.toInt := (by first | omega | (simp only [Int64.toInt_add, Int64.toInt_sub, Int32.toInt_add, Int32.toInt_sub, Int32.toInt_mul, Int64.le_iff_toInt_le, Int64.lt_iff_toInt_lt, Int32.le_iff_toInt_le, Int32.lt_iff_toInt_lt, ← Int32.toInt_inj, ← Int64.toInt_inj, Int32.toInt_toInt64, kc_0, kc_1, kc_8, kc_64] at *; omega)); have he0 := Int.tdiv_eq_ediv_of_nonneg (b := 8) hd0; simp only [Int64.toInt_add, Int64.toInt_sub, Int32.toInt_add, Int32.toInt_sub, Int32.toInt_mul, Int64.le_iff_toInt_le, Int64.lt_iff_toInt_lt, Int32.le_iff_toInt_le, Int32.lt_iff_toInt_lt, ← Int32.toInt_inj, ← Int64.toInt_inj, Int32.toInt_toInt64, Int32.toInt_div, kc_0, kc_1, kc_8, kc_64] at *; simp only [he0] at *; (first | omega | ((try simp (disch := omega) only [k_bm64] at *); (try simp (disch := omega) only [k_bm] at *); (try simp (disch := omega) only [k_bm] at *); omega) | (simp only [Int.bmod] at *; omega))))
theorem lf_g_pairOf_6 (a0 : Int32) (a1 : Int32) (a2 : Nat) (h0 : 0 ≤ a0 ∧ a0 ≤ 8) (h1 : 0 ≤ a1 ∧ a1 ≤ 64) (h2 : (64 - a1.toInt).toNat = a2) (h3 : ¬ 64 ≤ a1) (h4 : ¬ (a1 / 8) = (a1 - a1 / 8 * 8)) (h5 : ¬ a0 ≤ (a1 / 8)) (h6 : a0 ≤ (a1 - a1 / 8 * 8)) : (64 - (a1 + 1).toInt).toNat < a2 := by
  first | rfl | assumption | decide | exact Or.inl rfl | (first | omega | (have hr0 := Int32.toInt_lt a0; have hs0 := Int32.le_toInt a0; have hr1 := Int32.toInt_lt a1; have hs1 := Int32.le_toInt a1; have hd0 : (0 : Int) ≤ a1.toInt := (by first | omega | (simp only [Int64.toInt_add, Int64.toInt_sub, Int32.toInt_add, Int32.toInt_sub, Int32.toInt_mul, Int64.le_iff_toInt_le, Int64.lt_iff_toInt_lt, Int32.le_iff_toInt_le, Int32.lt_iff_toInt_lt, ← Int32.toInt_inj, ← Int64.toInt_inj, Int32.toInt_toInt64, kc_0, kc_1, kc_8, kc_64] at *; omega)); have he0 := Int.tdiv_eq_ediv_of_nonneg (b := 8) hd0; simp only [Int64.toInt_add, Int64.toInt_sub, Int32.toInt_add, Int32.toInt_sub, Int32.toInt_mul, Int64.le_iff_toInt_le, Int64.lt_iff_toInt_lt, Int32.le_iff_toInt_le, Int32.lt_iff_toInt_lt, ← Int32.toInt_inj, ← Int64.toInt_inj, Int32.toInt_toInt64, Int32.toInt_div, kc_0, kc_1, kc_8, kc_64] at *; simp only [he0] at *; (first | omega | ((try simp (disch := omega) only [k_bm64] at *); (try simp (disch := omega) only [k_bm] at *); (try simp (disch := omega) only [k_bm] at *); omega) | (simp only [Int.bmod] at *; omega))))
theorem lf_g_pairOf_7 (a0 : Int32) (a1 : Int32) (a2 : Nat) (h0 : 0 ≤ a0 ∧ a0 ≤ 8) (h1 : 0 ≤ a1 ∧ a1 ≤ 64) (h2 : (64 - a1.toInt).toNat = a2) (h3 : ¬ 64 ≤ a1) (h4 : ¬ (a1 / 8) = (a1 - a1 / 8 * 8)) (h5 : ¬ a0 ≤ (a1 / 8)) (h6 : ¬ a0 ≤ (a1 - a1 / 8 * 8)) : 0 ≤ (a1 + 1) ∧ (a1 + 1) ≤ 64 := by
  first | rfl | assumption | decide | exact Or.inl rfl | (first | omega | (have hr0 := Int32.toInt_lt a0; have hs0 := Int32.le_toInt a0; have hr1 := Int32.toInt_lt a1; have hs1 := Int32.le_toInt a1; have hd0 : (0 : Int) ≤ a1.toInt := (by first | omega | (simp only [Int64.toInt_add, Int64.toInt_sub, Int32.toInt_add, Int32.toInt_sub, Int32.toInt_mul, Int64.le_iff_toInt_le, Int64.lt_iff_toInt_lt, Int32.le_iff_toInt_le, Int32.lt_iff_toInt_lt, ← Int32.toInt_inj, ← Int64.toInt_inj, Int32.toInt_toInt64, kc_0, kc_1, kc_8, kc_64] at *; omega)); have he0 := Int.tdiv_eq_ediv_of_nonneg (b := 8) hd0; simp only [Int64.toInt_add, Int64.toInt_sub, Int32.toInt_add, Int32.toInt_sub, Int32.toInt_mul, Int64.le_iff_toInt_le, Int64.lt_iff_toInt_lt, Int32.le_iff_toInt_le, Int32.lt_iff_toInt_lt, ← Int32.toInt_inj, ← Int64.toInt_inj, Int32.toInt_toInt64, Int32.toInt_div, kc_0, kc_1, kc_8, kc_64] at *; simp only [he0] at *; (first | omega | ((try simp (disch := omega) only [k_bm64] at *); (try simp (disch := omega) only [k_bm] at *); (try simp (disch := omega) only [k_bm] at *); omega) | (simp only [Int.bmod] at *; omega))))
theorem lf_g_pairOf_8 (a0 : Int32) (a1 : Int32) (a2 : Nat) (h0 : 0 ≤ a0 ∧ a0 ≤ 8) (h1 : 0 ≤ a1 ∧ a1 ≤ 64) (h2 : (64 - a1.toInt).toNat = a2) (h3 : ¬ 64 ≤ a1) (h4 : ¬ (a1 / 8) = (a1 - a1 / 8 * 8)) (h5 : ¬ a0 ≤ (a1 / 8)) (h6 : ¬ a0 ≤ (a1 - a1 / 8 * 8)) : (64 - (a1 + 1).toInt).toNat < a2 := by
  first | rfl | assumption | decide | exact Or.inl rfl | (first | omega | (have hr0 := Int32.toInt_lt a0; have hs0 := Int32.le_toInt a0; have hr1 := Int32.toInt_lt a1; have hs1 := Int32.le_toInt a1; have hd0 : (0 : Int) ≤ a1.toInt := (by first | omega | (simp only [Int64.toInt_add, Int64.toInt_sub, Int32.toInt_add, Int32.toInt_sub, Int32.toInt_mul, Int64.le_iff_toInt_le, Int64.lt_iff_toInt_lt, Int32.le_iff_toInt_le, Int32.lt_iff_toInt_lt, ← Int32.toInt_inj, ← Int64.toInt_inj, Int32.toInt_toInt64, kc_0, kc_1, kc_8, kc_64] at *; omega)); have he0 := Int.tdiv_eq_ediv_of_nonneg (b := 8) hd0; simp only [Int64.toInt_add, Int64.toInt_sub, Int32.toInt_add, Int32.toInt_sub, Int32.toInt_mul, Int64.le_iff_toInt_le, Int64.lt_iff_toInt_lt, Int32.le_iff_toInt_le, Int32.lt_iff_toInt_lt, ← Int32.toInt_inj, ← Int64.toInt_inj, Int32.toInt_toInt64, Int32.toInt_div, kc_0, kc_1, kc_8, kc_64] at *; simp only [he0] at *; (first | omega | ((try simp (disch := omega) only [k_bm64] at *); (try simp (disch := omega) only [k_bm] at *); (try simp (disch := omega) only [k_bm] at *); omega) | (simp only [Int.bmod] at *; omega))))
set_option maxHeartbeats 4000000 in
set_option maxRecDepth 100000 in
theorem g_pairOf (l : Launch) (dC : Nat → ClassId) (dI : Nat → Nat → Nat) (cI cJ cQ : ClassId) (sz : Nat) (hm : Nat) (f1 : Int32) (w1 : Int32) (vFo : Nat) (vSi : Nat) (vIt : Nat) (vMo : Nat) (la : Int32) (vBy : Nat) (vTy : Nat) (mi : Int32) (vMi : Nat) (pn : Int32) (vPs : Nat) (gn : Int32) (vGs : Nat) (fn : Int32) (vFt : Nat) (le : Int32) (vTo : Nat) (kn : Int32) (fe : Int32) (en : Int32) (ca : Int32) (an : Int32) (co : Int32) (vPr : Nat) (vSt : Nat) (vFn : Nat) (sn : Int32) (vSg : Nat) (vAl : Nat) (dr : Int32) (qMi : Nat → Int32) (qPs : Nat → Int32) (qGs : Nat → Int32) (qTo : Nat → Int32) (qPr : Nat → Int32) (qSt : Nat → Int32) (qFn : Nat → Int32) (qFt : Nat → Int32) (hh0 : 0 ≤ mi ∧ mi ≤ 24) (hh1 : 0 ≤ pn ∧ pn ≤ 8) (hh2 : 0 ≤ gn ∧ gn ≤ 8) (hh3 : k_bd 2 0 7 qPr) (hh4 : 0 ≤ fe ∧ fe ≤ 24) (hh5 : en = 0 ∨ kn = 0 ∨ fe ≤ 23) (hh6 : 0 ≤ kn ∧ kn ≤ 24) (hh7 : 0 ≤ f1 ∧ f1 ≤ 7) : Met l yX12_pairOf (kW yX12_pairOf cX12_pairOf 8 (some .int)) { frames := 3, cells := 0, slots := 0, locals := 78 } (kPre dC dI cI cJ cQ sz [.ref hm, .int f1, .int w1] [(kX12 hm vFo vSi vIt vMo la vBy vTy mi vMi pn vPs gn vGs fn vFt le vTo kn fe en ca an co vPr vSt vFn sn vSg vAl dr), (kAI vMi cI 24 qMi), (kAI vPs cI 32 qPs), (kAI vGs cI 16 qGs), (kAI vTo cI 96 qTo), (kAI vPr cI 2 qPr), (kAI vSt cI 2 qSt), (kAI vFn cI 2 qFn), (kAI vFt cI 32 qFt)]) (va_Qi (fun (r : Int32) (u : kS) => (k_bd 2 0 7 (u.2.1 1)) ∧ (0 ≤ (u.1 1) ∧ (u.1 1) ≤ 24) ∧ ((u.1 2) = 0 ∨ (u.1 0) = 0 ∨ (u.1 1) ≤ 23) ∧ (0 ≤ (u.1 0) ∧ (u.1 0) ≤ 24)) (fun (u : kS) t₀ => kB dC dI cI cJ cQ (va_A [(kX12 hm vFo vSi vIt vMo la vBy vTy mi vMi pn vPs gn vGs fn vFt le vTo kn fe en ca an co vPr vSt vFn sn vSg vAl dr), (kAI vMi cI 24 qMi), (kAI vPs cI 32 qPs), (kAI vGs cI 16 qGs), (kAI vTo cI 96 qTo), (kAI vPr cI 2 qPr), (kAI vSt cI 2 qSt), (kAI vFn cI 2 qFn), (kAI vFt cI 32 qFt)] sz) [(kX12 hm vFo vSi vIt vMo la vBy vTy mi vMi pn vPs gn vGs fn vFt le vTo (u.1 0) (u.1 1) (u.1 2) ca (u.1 3) (u.1 4) vPr vSt vFn sn vSg vAl dr), (kAI vMi cI 24 qMi), (kAI vPs cI 32 qPs), (kAI vGs cI 16 qGs), (kAI vTo cI 96 (u.2.1 0)), (kAI vPr cI 2 (u.2.1 1)), (kAI vSt cI 2 (u.2.1 2)), (kAI vFn cI 2 (u.2.1 3)), (kAI vFt cI 32 qFt)] t₀) (va_A [(kX12 hm vFo vSi vIt vMo la vBy vTy mi vMi pn vPs gn vGs fn vFt le vTo kn fe en ca an co vPr vSt vFn sn vSg vAl dr), (kAI vMi cI 24 qMi), (kAI vPs cI 32 qPs), (kAI vGs cI 16 qGs), (kAI vTo cI 96 qTo), (kAI vPr cI 2 qPr), (kAI vSt cI 2 qSt), (kAI vFn cI 2 qFn), (kAI vFt cI 32 qFt)] sz)) 0 0 (va_A [(kX12 hm vFo vSi vIt vMo la vBy vTy mi vMi pn vPs gn vGs fn vFt le vTo kn fe en ca an co vPr vSt vFn sn vSg vAl dr), (kAI vMi cI 24 qMi), (kAI vPs cI 32 qPs), (kAI vGs cI 16 qGs), (kAI vTo cI 96 qTo), (kAI vPr cI 2 qPr), (kAI vSt cI 2 qSt), (kAI vFn cI 2 qFn), (kAI vFt cI 32 qFt)] sz) := by
  refine Met.ofW (cc := cX12_pairOf) (maxL := 8) (ret := (some .int)) (by decide) rfl ?_
  intro p₀ e₀ s₀ m₀ args below meth c₀ s₁ B hml hv₀
  obtain ⟨rfl, hsz, hP, hK, hD0, hN⟩ := hv₀
  have hx₀ := B.exec
  have hb := B.bytes
  have hr := B.returns
  have hts := atoms_spec (ws := (kW yX12_pairOf cX12_pairOf 8 (some .int))) B.pre
  have hts := fun w h => hts w (List.mem_cons_of_mem _ h)
  have hown : s₀.vm.findClass RX12 = some m₀.cls := findClass_of_methodNamed B.named
  have hlocks := B.notSynchronized
  subst hsz
  have hD := hD0.self (sz := s₀.heap.size)
  generalize hAe : va_A [(kX12 hm vFo vSi vIt vMo la vBy vTy mi vMi pn vPs gn vGs fn vFt le vTo kn fe en ca an co vPr vSt vFn sn vSg vAl dr), (kAI vMi cI 24 qMi), (kAI vPs cI 32 qPs), (kAI vGs cI 16 qGs), (kAI vTo cI 96 qTo), (kAI vPr cI 2 qPr), (kAI vSt cI 2 qSt), (kAI vFn cI 2 qFn), (kAI vFt cI 32 qFt)] s₀.heap.size = A at hD ⊢
  have hA : ∀ q : Nat, s₀.heap.size ≤ q → A q := fun q h => by rw [← hAe]; exact Or.inr h
  have hS : va_S A s₀.heap s₀.heap [] := va_S.rf
  have hP : va_P (dC, dI) vwCl [(kX12 hm vFo vSi vIt vMo la vBy vTy mi vMi pn vPs gn vGs fn vFt le vTo kn fe en ca an co vPr vSt vFn sn vSg vAl dr), (kAI vMi cI 24 qMi), (kAI vPs cI 32 qPs), (kAI vGs cI 16 qGs), (kAI vTo cI 96 qTo), (kAI vPr cI 2 qPr), (kAI vSt cI 2 qSt), (kAI vFn cI 2 qFn), (kAI vFt cI 32 qFt)] s₀.heap := hP
  have hl := lv_entry ([.ref hm, .int f1, .int w1]) (n := 8) (Nat.le_of_ble_eq_true rfl)
  rw [lg_entry_eq]
  generalize (lg_sl ([.ref hm, .int f1, .int w1]) ++ List.replicate (8 - (lg_sl ([.ref hm, .int f1, .int w1])).length) Slot.unset).toArray = ls at hl ⊢
  have hl : lv_has ls 8 [(0, .ref hm), (1, .int f1), (2, .int w1)] := hl
  obtain ⟨H, hH⟩ : ∃ z : Heap, z = s₀.heap := ⟨_, rfl⟩
  rw [← hH] at hP
  have hS : va_S A s₀.heap H [] := by rw [hH]; exact hS
  refine k_heap hH ?_
  have hD : va_D A [(kX12 hm vFo vSi vIt vMo la vBy vTy mi vMi pn vPs gn vGs fn vFt le vTo kn fe en ca an co vPr vSt vFn sn vSg vAl dr), (kAI vMi cI 24 qMi), (kAI vPs cI 32 qPs), (kAI vGs cI 16 qGs), (kAI vTo cI 96 qTo), (kAI vPr cI 2 qPr), (kAI vSt cI 2 qSt), (kAI vFn cI 2 qFn), (kAI vFt cI 32 qFt)] := hD
  obtain ⟨locs, hlo⟩ : ∃ z : List Loc, z = [] := ⟨_, rfl⟩
  rw [← hlo] at hS ⊢
  clear hlo hH hAe hD0
  refine lv_iconst (v := (-1)) hx₀ hb dX12_pairOf_0 (by decide +kernel) ?_
  refine lv_istore_n (lv' := [(3, .int (-1)), (0, .ref hm), (1, .int f1), (2, .int w1)]) hx₀ hb dX12_pairOf_1 rfl hl (by decide) rfl (fun ls hl => ?_)
  refine lv_iconst (v := (-1)) hx₀ hb dX12_pairOf_2 (by decide +kernel) ?_
  refine lv_istore (lv' := [(4, .int (-1)), (3, .int (-1)), (0, .ref hm), (1, .int f1), (2, .int w1)]) hx₀ hb dX12_pairOf_3 hl (by decide) rfl (fun ls hl => ?_)
  refine lv_iconst (v := 0) hx₀ hb dX12_pairOf_5 (by decide +kernel) ?_
  refine lv_istore (lv' := [(5, .int 0), (4, .int (-1)), (3, .int (-1)), (0, .ref hm), (1, .int f1), (2, .int w1)]) hx₀ hb dX12_pairOf_6 hl (by decide) rfl (fun ls hl => ?_)
  refine (?keyz1 : ∀ (jz1 : Nat) (bez1 : Int32) (faz1 : Int32) (cdz1 : Int32) (knz1 : Int32) (fez1 : Int32) (enz1 : Int32) (anz1 : Int32) (coz1 : Int32) (qtz1 : Nat → Int32) (qpz1 : Nat → Int32) (qsz1 : Nat → Int32) (qfz1 : Nat → Int32) (H : Heap) (locs : List Loc) (ls : Array Slot), (0 ≤ cdz1 ∧ cdz1 ≤ 64) → (k_bd 2 0 7 qpz1) → (0 ≤ fez1 ∧ fez1 ≤ 24) → (enz1 = 0 ∨ knz1 = 0 ∨ fez1 ≤ 23) → (0 ≤ knz1 ∧ knz1 ≤ 24) → ((64 - cdz1.toInt).toNat = jz1) → va_P (dC, dI) vwCl [(kX12 hm vFo vSi vIt vMo la vBy vTy mi vMi pn vPs gn vGs fn vFt le vTo knz1 fez1 enz1 ca anz1 coz1 vPr vSt vFn sn vSg vAl dr), (kAI vMi cI 24 qMi), (kAI vPs cI 32 qPs), (kAI vGs cI 16 qGs), (kAI vTo cI 96 qtz1), (kAI vPr cI 2 qpz1), (kAI vSt cI 2 qsz1), (kAI vFn cI 2 qfz1), (kAI vFt cI 32 qFt)] H → va_D A [(kX12 hm vFo vSi vIt vMo la vBy vTy mi vMi pn vPs gn vGs fn vFt le vTo knz1 fez1 enz1 ca anz1 coz1 vPr vSt vFn sn vSg vAl dr), (kAI vMi cI 24 qMi), (kAI vPs cI 32 qPs), (kAI vGs cI 16 qGs), (kAI vTo cI 96 qtz1), (kAI vPr cI 2 qpz1), (kAI vSt cI 2 qsz1), (kAI vFn cI 2 qfz1), (kAI vFt cI 32 qFt)] → va_S A s₀.heap H locs → lv_has ls 8 [(5, .int cdz1), (4, .int faz1), (3, .int bez1), (0, .ref hm), (1, .int f1), (2, .int w1)] → W p₀ l e₀ _ s₀ m₀ _ below meth c₀ H locs _ _ _ (F0 m₀ 8 ls [])) _ (-1 : Int32) (-1 : Int32) (0 : Int32) kn fe en an co _ _ _ _ H locs ls (show 0 ≤ (0 : Int32) ∧ (0 : Int32) ≤ 64 from ⟨(by decide), (by decide)⟩) (hh3) (hh4) (hh5) (hh6) rfl hP hD hS hl
  clear hP hD hS hl
  intro jz1
  induction jz1 using Nat.strongRecOn with
  | ind jz1 ihz1 =>
    intro bez1 faz1 cdz1 knz1 fez1 enz1 anz1 coz1 qtz1 qpz1 qsz1 qfz1 H locs ls hiz1_0 hiz1_1 hiz1_2 hiz1_3 hiz1_4 hjz1 hP hD hS hl
    refine lv_iload hx₀ hb dX12_pairOf_8 (lv_at hl 0 rfl) ?_
    refine lv_bipush (v := 64) hx₀ hb dX12_pairOf_10 (by decide +kernel) ?_
    refine lv_icmp_ge (tgt := 125) hx₀ hb dX12_pairOf_12 (by decide) (fun c_2 => ?_) (fun c_2 => ?_)
    · refine lv_iload_n hx₀ hb dX12_pairOf_125 rfl (lv_at hl 5 rfl) ?_
      refine lv_if_ne (tgt := 133) hx₀ hb dX12_pairOf_126 (by decide) (fun c_3 => ?_) (fun c_3 => ?_)
      · refine lv_iload hx₀ hb dX12_pairOf_133 (lv_at hl 1 rfl) ?_
        obtain ⟨hP9, hD9⟩ := k_c2 (wc := [(kX12 hm vFo vSi vIt vMo la vBy vTy mi vMi pn vPs gn vGs fn vFt le vTo knz1 fez1 enz1 ca anz1 coz1 vPr vSt vFn sn vSg vAl dr), (kAI vMi cI 24 qMi), (kAI vPs cI 32 qPs), (kAI vGs cI 16 qGs), (kAI vTo cI 96 qtz1), (kAI vPr cI 2 qpz1), (kAI vSt cI 2 qsz1), (kAI vFn cI 2 qfz1), (kAI vFt cI 32 qFt)]) hP hD [0, 1, 2, 3, 4, 5, 6, 7, 8] (by decide +kernel) rfl
        exact W.iret (v := faz1) hx₀ hb hr (fun t₀ ht hW => ⟨⟨faz1, (k_fn [knz1, fez1, enz1, anz1, coz1], k_fa [qtz1, qpz1, qsz1, qfz1], k_fl [], k_fL [], k_fp []), rfl, ⟨hiz1_1, hiz1_2, hiz1_3, hiz1_4⟩, by rw [ht]; exact hP9, va_K.moved hW.alike hK, hD9⟩, hS.F ht⟩) hS.2.2 dX12_pairOf_135
      · refine lv_iload_n hx₀ hb dX12_pairOf_129 rfl (lv_at hl 2 rfl) ?_
        refine lv_goto (tgt := 135) hx₀ hb dX12_pairOf_130 (by decide) ?_
        obtain ⟨hP9, hD9⟩ := k_c2 (wc := [(kX12 hm vFo vSi vIt vMo la vBy vTy mi vMi pn vPs gn vGs fn vFt le vTo knz1 fez1 enz1 ca anz1 coz1 vPr vSt vFn sn vSg vAl dr), (kAI vMi cI 24 qMi), (kAI vPs cI 32 qPs), (kAI vGs cI 16 qGs), (kAI vTo cI 96 qtz1), (kAI vPr cI 2 qpz1), (kAI vSt cI 2 qsz1), (kAI vFn cI 2 qfz1), (kAI vFt cI 32 qFt)]) hP hD [0, 1, 2, 3, 4, 5, 6, 7, 8] (by decide +kernel) rfl
        exact W.iret (v := bez1) hx₀ hb hr (fun t₀ ht hW => ⟨⟨bez1, (k_fn [knz1, fez1, enz1, anz1, coz1], k_fa [qtz1, qpz1, qsz1, qfz1], k_fl [], k_fL [], k_fp []), rfl, ⟨hiz1_1, hiz1_2, hiz1_3, hiz1_4⟩, by rw [ht]; exact hP9, va_K.moved hW.alike hK, hD9⟩, hS.F ht⟩) hS.2.2 dX12_pairOf_135
    · refine lv_iload hx₀ hb dX12_pairOf_15 (lv_at hl 0 rfl) ?_
      refine lv_bipush (v := 8) hx₀ hb dX12_pairOf_17 (by decide +kernel) ?_
      refine lv_idiv hx₀ hb dX12_pairOf_19 (by decide +kernel) ?_
      refine lv_istore (lv' := [(6, .int (cdz1 / 8)), (5, .int cdz1), (4, .int faz1), (3, .int bez1), (0, .ref hm), (1, .int f1), (2, .int w1)]) hx₀ hb dX12_pairOf_20 hl (by decide) rfl (fun ls hl => ?_)
      refine lv_iload hx₀ hb dX12_pairOf_22 (lv_at hl 1 rfl) ?_
      refine lv_bipush (v := 8) hx₀ hb dX12_pairOf_24 (by decide +kernel) ?_
      refine lv_irem hx₀ hb dX12_pairOf_26 (by decide +kernel) ?_
      refine lv_istore (lv' := [(7, .int (cdz1 - cdz1 / 8 * 8)), (6, .int (cdz1 / 8)), (5, .int cdz1), (4, .int faz1), (3, .int bez1), (0, .ref hm), (1, .int f1), (2, .int w1)]) hx₀ hb dX12_pairOf_27 hl (by decide) rfl (fun ls hl => ?_)
      refine lv_iload hx₀ hb dX12_pairOf_29 (lv_at hl 1 rfl) ?_
      refine lv_iload hx₀ hb dX12_pairOf_31 (lv_at hl 0 rfl) ?_
      refine lv_icmp_eq (tgt := 119) hx₀ hb dX12_pairOf_33 (by decide) (fun c_4 => ?_) (fun c_4 => ?_)
      · refine lv_iinc (v := cdz1 + 1) (lv' := [(5, .int (cdz1 + 1)), (7, .int (cdz1 - cdz1 / 8 * 8)), (6, .int (cdz1 / 8)), (4, .int faz1), (3, .int bez1), (0, .ref hm), (1, .int f1), (2, .int w1)]) hx₀ hb dX12_pairOf_119 hl (k := 2) rfl rfl (by decide) rfl (fun ls hl => ?_)
        refine lv_goto (tgt := 8) hx₀ hb dX12_pairOf_122 (by decide) ?_
        exact ihz1 _ (lf_g_pairOf_2 cdz1 jz1 hiz1_0 hjz1 c_2 c_4) bez1 faz1 (cdz1 + 1) knz1 fez1 enz1 anz1 coz1 qtz1 qpz1 qsz1 qfz1 _ _ _ (lf_g_pairOf_1 cdz1 jz1 hiz1_0 hjz1 c_2 c_4) (hiz1_1) (hiz1_2) (hiz1_3) (hiz1_4) rfl (hP.sub [0, 1, 2, 3, 4, 5, 6, 7, 8] rfl) (hD.sub [0, 1, 2, 3, 4, 5, 6, 7, 8] (by decide +kernel) rfl) hS (lv_sub hl [0, 3, 4, 5, 6, 7] rfl)
      · refine lv_iload hx₀ hb dX12_pairOf_36 (lv_at hl 1 rfl) ?_
        refine lv_aload_n hx₀ hb dX12_pairOf_38 rfl (lv_at hl 5 rfl) ?_
        refine va_get (D := (dC, dI)) (ci := 11) (v := .int gn) (C := RX12) (T := TX12) (N := 30) hx₀ hb hts inlX12 hown hK hP 0 rfl rfl 11 (by decide) (hts (.fieldLink RX12 122 "BittenStickModel" "geese" "I") wd_277) (fun _ h9 => h9) rfl dX12_pairOf_39 ?_
        refine lv_icmp_ge (tgt := 119) hx₀ hb dX12_pairOf_42 (by decide) (fun c_5 => ?_) (fun c_5 => ?_)
        · refine lv_iinc (v := cdz1 + 1) (lv' := [(5, .int (cdz1 + 1)), (7, .int (cdz1 - cdz1 / 8 * 8)), (6, .int (cdz1 / 8)), (4, .int faz1), (3, .int bez1), (0, .ref hm), (1, .int f1), (2, .int w1)]) hx₀ hb dX12_pairOf_119 hl (k := 2) rfl rfl (by decide) rfl (fun ls hl => ?_)
          refine lv_goto (tgt := 8) hx₀ hb dX12_pairOf_122 (by decide) ?_
          exact ihz1 _ (lf_g_pairOf_4 gn cdz1 jz1 hh2 hiz1_0 hjz1 c_2 c_4 c_5) bez1 faz1 (cdz1 + 1) knz1 fez1 enz1 anz1 coz1 qtz1 qpz1 qsz1 qfz1 _ _ _ (lf_g_pairOf_3 gn cdz1 jz1 hh2 hiz1_0 hjz1 c_2 c_4 c_5) (hiz1_1) (hiz1_2) (hiz1_3) (hiz1_4) rfl (hP.sub [0, 1, 2, 3, 4, 5, 6, 7, 8] rfl) (hD.sub [0, 1, 2, 3, 4, 5, 6, 7, 8] (by decide +kernel) rfl) hS (lv_sub hl [0, 3, 4, 5, 6, 7] rfl)
        · refine lv_iload hx₀ hb dX12_pairOf_45 (lv_at hl 0 rfl) ?_
          refine lv_aload_n hx₀ hb dX12_pairOf_47 rfl (lv_at hl 5 rfl) ?_
          refine va_get (D := (dC, dI)) (ci := 11) (v := .int gn) (C := RX12) (T := TX12) (N := 30) hx₀ hb hts inlX12 hown hK hP 0 rfl rfl 11 (by decide) (hts (.fieldLink RX12 122 "BittenStickModel" "geese" "I") wd_277) (fun _ h9 => h9) rfl dX12_pairOf_48 ?_
          refine lv_icmp_ge (tgt := 119) hx₀ hb dX12_pairOf_51 (by decide) (fun c_6 => ?_) (fun c_6 => ?_)
          · refine lv_iinc (v := cdz1 + 1) (lv' := [(5, .int (cdz1 + 1)), (7, .int (cdz1 - cdz1 / 8 * 8)), (6, .int (cdz1 / 8)), (4, .int faz1), (3, .int bez1), (0, .ref hm), (1, .int f1), (2, .int w1)]) hx₀ hb dX12_pairOf_119 hl (k := 2) rfl rfl (by decide) rfl (fun ls hl => ?_)
            refine lv_goto (tgt := 8) hx₀ hb dX12_pairOf_122 (by decide) ?_
            exact ihz1 _ (lf_g_pairOf_6 gn cdz1 jz1 hh2 hiz1_0 hjz1 c_2 c_4 c_5 c_6) bez1 faz1 (cdz1 + 1) knz1 fez1 enz1 anz1 coz1 qtz1 qpz1 qsz1 qfz1 _ _ _ (lf_g_pairOf_5 gn cdz1 jz1 hh2 hiz1_0 hjz1 c_2 c_4 c_5 c_6) (hiz1_1) (hiz1_2) (hiz1_3) (hiz1_4) rfl (hP.sub [0, 1, 2, 3, 4, 5, 6, 7, 8] rfl) (hD.sub [0, 1, 2, 3, 4, 5, 6, 7, 8] (by decide +kernel) rfl) hS (lv_sub hl [0, 3, 4, 5, 6, 7] rfl)
          · refine lv_aload_n hx₀ hb dX12_pairOf_54 rfl (lv_at hl 5 rfl) ?_
            refine lv_aload_n hx₀ hb dX12_pairOf_55 rfl (lv_at hl 5 rfl) ?_
            refine va_get (D := (dC, dI)) (ci := 11) (v := .ref vFt) (C := RX12) (T := TX12) (N := 30) hx₀ hb hts inlX12 hown hK hP 0 rfl rfl 14 (by decide) (hts (.fieldLink RX12 37 "BittenStickModel" "flight" "[I") wd_124) (fun _ h9 => h9) rfl dX12_pairOf_56 ?_
            refine lv_iconst (v := 4) hx₀ hb dX12_pairOf_59 (by decide +kernel) ?_
            refine lv_iload_n hx₀ hb dX12_pairOf_60 rfl (lv_at hl 6 rfl) ?_
            refine lv_imul hx₀ hb dX12_pairOf_61 ?_
            refine va_iald hx₀ hb hK hP 8 0 rfl rfl (vp_in_iff.mpr (lf_g_fliesTold_1 f1 hh7)) dX12_pairOf_62 ?_
            refine lv_topi (fun y_7 ey_7 => ?_)
            refine lv_iload hx₀ hb dX12_pairOf_63 (lv_at hl 1 rfl) ?_
            refine lv_iload hx₀ hb dX12_pairOf_65 (lv_at hl 0 rfl) ?_
            refine lv_aload_n hx₀ hb dX12_pairOf_67 rfl (lv_at hl 5 rfl) ?_
            refine va_get (D := (dC, dI)) (ci := 11) (v := .ref vFt) (C := RX12) (T := TX12) (N := 30) hx₀ hb hts inlX12 hown hK hP 0 rfl rfl 14 (by decide) (hts (.fieldLink RX12 37 "BittenStickModel" "flight" "[I") wd_124) (fun _ h9 => h9) rfl dX12_pairOf_68 ?_
            refine lv_iconst (v := 4) hx₀ hb dX12_pairOf_71 (by decide +kernel) ?_
            refine lv_iload_n hx₀ hb dX12_pairOf_72 rfl (lv_at hl 6 rfl) ?_
            refine lv_imul hx₀ hb dX12_pairOf_73 ?_
            refine lv_iconst (v := 3) hx₀ hb dX12_pairOf_74 (by decide +kernel) ?_
            refine lv_iadd hx₀ hb dX12_pairOf_75 ?_
            refine va_iald hx₀ hb hK hP 8 0 rfl rfl (vp_in_iff.mpr (lf_g_goes_2 f1 hh7)) dX12_pairOf_76 ?_
            refine lv_topi (fun y_8 ey_8 => ?_)
            refine lv_bipush (v := 24) hx₀ hb dX12_pairOf_77 (by decide +kernel) ?_
            refine lv_iconst (v := 0) hx₀ hb dX12_pairOf_79 (by decide +kernel) ?_
            obtain ⟨hPc, hDc, hFc, hC⟩ := k_cw (wc := [(kX12 hm vFo vSi vIt vMo la vBy vTy mi vMi pn vPs gn vGs fn vFt le vTo knz1 fez1 enz1 ca anz1 coz1 vPr vSt vFn sn vSg vAl dr), (kAI vMi cI 24 qMi), (kAI vPs cI 32 qPs), (kAI vGs cI 16 qGs), (kAI vTo cI 96 qtz1), (kAI vPr cI 2 qpz1), (kAI vSt cI 2 qsz1), (kAI vFn cI 2 qfz1)]) hP hD hS hA [0, 1, 2, 3, 4, 5, 6, 7] (by decide +kernel) rfl
            refine va_callv (va_runV (As := [.int y_7, .int (cdz1 / 8), .int (cdz1 - cdz1 / 8 * 8), .int y_8, .int 24, .int 0]) (rest := []) ⟨hx₀, hb, hml, hown, hts⟩ (g_flies l dC dI cI cJ cQ H.size hm y_7 (cdz1 / 8) (cdz1 - cdz1 / 8 * 8) y_8 24 0 vFo vSi vIt vMo la vBy vTy mi vMi pn vPs gn vGs fn vFt le vTo knz1 fez1 enz1 ca anz1 coz1 vPr vSt vFn sn vSg vAl dr qMi qPs qGs qtz1 qpz1 qsz1 qfz1 (hh0) (hh1) (hh2) (hiz1_1)) (cwV 6 hts (kGV wd_540 wd_537 wd_538 wd_539 wd_5) rfl rfl rfl (by decide +kernel) ⟨Nat.le_of_ble_eq_true rfl, Nat.le_of_ble_eq_true rfl⟩) (k_preV11 (q0 := 0) hK hPc hDc hN rfl) rfl rfl hl.1 rfl (lv_room (Nat.le_of_ble_eq_true rfl)) dX12_pairOf_80 ⟨by decide +kernel, by decide +kernel⟩) hS (fun q _ h => hFc q h) hFc (fun u₀ t₀ H1 locs ht hvm hw hB hz1 hk1 hS => ?_)
            obtain ⟨g_10, ga_11, gl_12, gb_13, gp_14⟩ := u₀
            obtain ⟨hP1, hK1, hD1⟩ := hB
            rw [ht] at hP1
            have hJ := k_jn (wr := [(kAI vFt cI 32 qFt)]) (wt := [(kAI vFt cI 32 qFt), (kX12 hm vFo vSi vIt vMo la vBy vTy mi vMi pn vPs gn vGs fn vFt le vTo (g_10 0) (g_10 1) (g_10 2) ca (g_10 3) (g_10 4) vPr vSt vFn sn vSg vAl dr), (kAI vMi cI 24 qMi), (kAI vPs cI 32 qPs), (kAI vGs cI 16 qGs), (kAI vTo cI 96 (ga_11 0)), (kAI vPr cI 2 (ga_11 1)), (kAI vSt cI 2 (ga_11 2)), (kAI vFn cI 2 (ga_11 3))]) hP hD hC [8] rfl (by decide +kernel) (by decide +kernel) hk1 hFc hP1 hD1 rfl
            clear hP hD hPc hDc hFc hC hP1 hD1 hK1 hz1 hk1 hvm ht
            obtain ⟨hP, hD⟩ := hJ
            generalize H1 = H at hP hS ⊢
            try dsimp only at hw
            obtain ⟨c_15, c_16, c_17, c_18⟩ := hw
            refine lv_aload_n hx₀ hb dX12_pairOf_83 rfl (lv_at hl 5 rfl) ?_
            refine va_get (D := (dC, dI)) (ci := 11) (v := .int (g_10 1)) (C := RX12) (T := TX12) (N := 30) hx₀ hb hts inlX12 hown hK hP 1 rfl rfl 18 (by decide) (hts (.fieldLink RX12 193 "BittenStickModel" "fell" "I") wd_542) (fun _ h9 => h9) rfl dX12_pairOf_84 ?_
            refine lv_iload hx₀ hb dX12_pairOf_87 (lv_at hl 3 rfl) ?_
            refine lv_icmp_le (tgt := 97) hx₀ hb dX12_pairOf_89 (by decide) (fun c_19 => ?_) (fun c_19 => ?_)
            · refine lv_iload_n hx₀ hb dX12_pairOf_97 rfl (lv_at hl 4 rfl) ?_
              refine lv_istore_n (lv' := [(3, .int bez1), (7, .int (cdz1 - cdz1 / 8 * 8)), (6, .int (cdz1 / 8)), (5, .int cdz1), (4, .int faz1), (0, .ref hm), (1, .int f1), (2, .int w1)]) hx₀ hb dX12_pairOf_98 rfl hl (by decide) rfl (fun ls hl => ?_)
              refine lv_aload_n hx₀ hb dX12_pairOf_99 rfl (lv_at hl 5 rfl) ?_
              refine va_get (D := (dC, dI)) (ci := 11) (v := .int (g_10 1)) (C := RX12) (T := TX12) (N := 30) hx₀ hb hts inlX12 hown hK hP 1 rfl rfl 18 (by decide) (hts (.fieldLink RX12 193 "BittenStickModel" "fell" "I") wd_542) (fun _ h9 => h9) rfl dX12_pairOf_100 ?_
              refine lv_iload hx₀ hb dX12_pairOf_103 (lv_at hl 4 rfl) ?_
              refine lv_icmp_le (tgt := 115) hx₀ hb dX12_pairOf_105 (by decide) (fun _ => ?_) (fun c9 => absurd c_19 c9)
              refine lv_iload hx₀ hb dX12_pairOf_115 (lv_at hl 4 rfl) ?_
              refine lv_istore (lv' := [(4, .int faz1), (3, .int bez1), (7, .int (cdz1 - cdz1 / 8 * 8)), (6, .int (cdz1 / 8)), (5, .int cdz1), (0, .ref hm), (1, .int f1), (2, .int w1)]) hx₀ hb dX12_pairOf_117 hl (by decide) rfl (fun ls hl => ?_)
              refine lv_iinc (v := cdz1 + 1) (lv' := [(5, .int (cdz1 + 1)), (4, .int faz1), (3, .int bez1), (7, .int (cdz1 - cdz1 / 8 * 8)), (6, .int (cdz1 / 8)), (0, .ref hm), (1, .int f1), (2, .int w1)]) hx₀ hb dX12_pairOf_119 hl (k := 4) rfl rfl (by decide) rfl (fun ls hl => ?_)
              refine lv_goto (tgt := 8) hx₀ hb dX12_pairOf_122 (by decide) ?_
              exact ihz1 _ (lf_g_pairOf_8 gn cdz1 jz1 hh2 hiz1_0 hjz1 c_2 c_4 c_5 c_6) bez1 faz1 (cdz1 + 1) (g_10 0) (g_10 1) (g_10 2) (g_10 3) (g_10 4) (ga_11 0) (ga_11 1) (ga_11 2) (ga_11 3) _ _ _ (lf_g_pairOf_7 gn cdz1 jz1 hh2 hiz1_0 hjz1 c_2 c_4 c_5 c_6) (c_15) (c_16) (c_17) (c_18) rfl (hP.sub [1, 2, 3, 4, 5, 6, 7, 8, 0] rfl) (hD.sub [1, 2, 3, 4, 5, 6, 7, 8, 0] (by decide +kernel) rfl) hS (lv_sub hl [0, 1, 2, 5, 6, 7] rfl)
            · refine lv_iload hx₀ hb dX12_pairOf_92 (lv_at hl 2 rfl) ?_
              refine lv_goto (tgt := 98) hx₀ hb dX12_pairOf_94 (by decide) ?_
              refine lv_istore_n (lv' := [(3, .int cdz1), (7, .int (cdz1 - cdz1 / 8 * 8)), (6, .int (cdz1 / 8)), (5, .int cdz1), (4, .int faz1), (0, .ref hm), (1, .int f1), (2, .int w1)]) hx₀ hb dX12_pairOf_98 rfl hl (by decide) rfl (fun ls hl => ?_)
              refine lv_aload_n hx₀ hb dX12_pairOf_99 rfl (lv_at hl 5 rfl) ?_
              refine va_get (D := (dC, dI)) (ci := 11) (v := .int (g_10 1)) (C := RX12) (T := TX12) (N := 30) hx₀ hb hts inlX12 hown hK hP 1 rfl rfl 18 (by decide) (hts (.fieldLink RX12 193 "BittenStickModel" "fell" "I") wd_542) (fun _ h9 => h9) rfl dX12_pairOf_100 ?_
              refine lv_iload hx₀ hb dX12_pairOf_103 (lv_at hl 4 rfl) ?_
              refine lv_icmp_le (tgt := 115) hx₀ hb dX12_pairOf_105 (by decide) (fun c9 => absurd c9 c_19) (fun _ => ?_)
              refine lv_aload_n hx₀ hb dX12_pairOf_108 rfl (lv_at hl 5 rfl) ?_
              refine va_get (D := (dC, dI)) (ci := 11) (v := .int (g_10 1)) (C := RX12) (T := TX12) (N := 30) hx₀ hb hts inlX12 hown hK hP 1 rfl rfl 18 (by decide) (hts (.fieldLink RX12 193 "BittenStickModel" "fell" "I") wd_542) (fun _ h9 => h9) rfl dX12_pairOf_109 ?_
              refine lv_goto (tgt := 117) hx₀ hb dX12_pairOf_112 (by decide) ?_
              refine lv_istore (lv' := [(4, .int (g_10 1)), (3, .int cdz1), (7, .int (cdz1 - cdz1 / 8 * 8)), (6, .int (cdz1 / 8)), (5, .int cdz1), (0, .ref hm), (1, .int f1), (2, .int w1)]) hx₀ hb dX12_pairOf_117 hl (by decide) rfl (fun ls hl => ?_)
              refine lv_iinc (v := cdz1 + 1) (lv' := [(5, .int (cdz1 + 1)), (4, .int (g_10 1)), (3, .int cdz1), (7, .int (cdz1 - cdz1 / 8 * 8)), (6, .int (cdz1 / 8)), (0, .ref hm), (1, .int f1), (2, .int w1)]) hx₀ hb dX12_pairOf_119 hl (k := 4) rfl rfl (by decide) rfl (fun ls hl => ?_)
              refine lv_goto (tgt := 8) hx₀ hb dX12_pairOf_122 (by decide) ?_
              exact ihz1 _ (lf_g_pairOf_8 gn cdz1 jz1 hh2 hiz1_0 hjz1 c_2 c_4 c_5 c_6) cdz1 (g_10 1) (cdz1 + 1) (g_10 0) (g_10 1) (g_10 2) (g_10 3) (g_10 4) (ga_11 0) (ga_11 1) (ga_11 2) (ga_11 3) _ _ _ (lf_g_pairOf_7 gn cdz1 jz1 hh2 hiz1_0 hjz1 c_2 c_4 c_5 c_6) (c_15) (c_16) (c_17) (c_18) rfl (hP.sub [1, 2, 3, 4, 5, 6, 7, 8, 0] rfl) (hD.sub [1, 2, 3, 4, 5, 6, 7, 8, 0] (by decide +kernel) rfl) hS (lv_sub hl [0, 1, 2, 5, 6, 7] rfl)
theorem lf_g_isSeen_1 (a0 : Int32) (a1 : Int32) (a2 : Nat) (h0 : 0 ≤ a0 ∧ a0 ≤ 8) (h1 : 0 ≤ a1 ∧ a1 ≤ a0) (h2 : (a0.toInt - a1.toInt).toNat = a2) (h3 : ¬ a0 ≤ a1) : 0 ≤ (2 * a1).toInt ∧ (2 * a1).toInt < 16 := by
  first | rfl | assumption | decide | exact Or.inl rfl | (first | omega | (have hr0 := Int32.toInt_lt a0; have hs0 := Int32.le_toInt a0; have hr1 := Int32.toInt_lt a1; have hs1 := Int32.le_toInt a1; simp only [Int64.toInt_add, Int64.toInt_sub, Int32.toInt_add, Int32.toInt_sub, Int32.toInt_mul, Int64.le_iff_toInt_le, Int64.lt_iff_toInt_lt, Int32.le_iff_toInt_le, Int32.lt_iff_toInt_lt, ← Int32.toInt_inj, ← Int64.toInt_inj, Int32.toInt_toInt64, kc_0, kc_2, kc_8, kc_16] at *; (first | omega | ((try simp (disch := omega) only [k_bm64] at *); (try simp (disch := omega) only [k_bm] at *); (try simp (disch := omega) only [k_bm] at *); omega) | (simp only [Int.bmod] at *; omega))))
theorem lf_g_isSeen_2 (a0 : Int32) (a1 : Int32) (a2 : Nat) (h0 : 0 ≤ a0 ∧ a0 ≤ 8) (h1 : 0 ≤ a1 ∧ a1 ≤ a0) (h2 : (a0.toInt - a1.toInt).toNat = a2) (h3 : ¬ a0 ≤ a1) : 0 ≤ ((2 * a1) + 1).toInt ∧ ((2 * a1) + 1).toInt < 16 := by
  first | rfl | assumption | decide | exact Or.inl rfl | (first | omega | (have hr0 := Int32.toInt_lt a0; have hs0 := Int32.le_toInt a0; have hr1 := Int32.toInt_lt a1; have hs1 := Int32.le_toInt a1; simp only [Int64.toInt_add, Int64.toInt_sub, Int32.toInt_add, Int32.toInt_sub, Int32.toInt_mul, Int64.le_iff_toInt_le, Int64.lt_iff_toInt_lt, Int32.le_iff_toInt_le, Int32.lt_iff_toInt_lt, ← Int32.toInt_inj, ← Int64.toInt_inj, Int32.toInt_toInt64, kc_0, kc_1, kc_2, kc_8, kc_16] at *; (first | omega | ((try simp (disch := omega) only [k_bm64] at *); (try simp (disch := omega) only [k_bm] at *); (try simp (disch := omega) only [k_bm] at *); omega) | (simp only [Int.bmod] at *; omega))))
set_option maxHeartbeats 4000000 in
set_option maxRecDepth 100000 in
theorem g_isSeen (l : Launch) (dC : Nat → ClassId) (dI : Nat → Nat → Nat) (cI cJ cQ : ClassId) (sz : Nat) (hm : Nat) (vFo : Nat) (vSi : Nat) (vIt : Nat) (vMo : Nat) (la : Int32) (vBy : Nat) (vTy : Nat) (mi : Int32) (vMi : Nat) (pn : Int32) (vPs : Nat) (gn : Int32) (vGs : Nat) (fn : Int32) (vFt : Nat) (le : Int32) (vTo : Nat) (kn : Int32) (fe : Int32) (en : Int32) (ca : Int32) (an : Int32) (co : Int32) (vPr : Nat) (vSt : Nat) (vFn : Nat) (sn : Int32) (vSg : Nat) (vAl : Nat) (dr : Int32) (qMi : Nat → Int32) (qPs : Nat → Int32) (qGs : Nat → Int32) (qTo : Nat → Int32) (qPr : Nat → Int32) (qSt : Nat → Int32) (qFn : Nat → Int32) (qFt : Nat → Int32) (qSg : Nat → Int32) (hh0 : 0 ≤ mi ∧ mi ≤ 24) (hh1 : 0 ≤ pn ∧ pn ≤ 8) (hh2 : 0 ≤ gn ∧ gn ≤ 8) (hh3 : k_bd 2 0 7 qPr) (hh4 : 0 ≤ fe ∧ fe ≤ 24) (hh5 : en = 0 ∨ kn = 0 ∨ fe ≤ 23) (hh6 : 0 ≤ kn ∧ kn ≤ 24) (hh7 : 0 ≤ fn ∧ fn ≤ 8) (hh8 : 0 ≤ sn ∧ sn ≤ 8) : Met l yX12_isSeen (kW yX12_isSeen cX12_isSeen 3 (some .boolean)) { frames := 5, cells := 0, slots := 0, locals := 121 } (kPre dC dI cI cJ cQ sz [.ref hm] [(kX12 hm vFo vSi vIt vMo la vBy vTy mi vMi pn vPs gn vGs fn vFt le vTo kn fe en ca an co vPr vSt vFn sn vSg vAl dr), (kAI vMi cI 24 qMi), (kAI vPs cI 32 qPs), (kAI vGs cI 16 qGs), (kAI vTo cI 96 qTo), (kAI vPr cI 2 qPr), (kAI vSt cI 2 qSt), (kAI vFn cI 2 qFn), (kAI vFt cI 32 qFt), (kAI vSg cI 16 qSg)]) (va_Qi (fun (r : Int32) (u : kS) => (k_bd 2 0 7 (u.2.1 1)) ∧ (0 ≤ (u.1 1) ∧ (u.1 1) ≤ 24) ∧ ((u.1 2) = 0 ∨ (u.1 0) = 0 ∨ (u.1 1) ≤ 23) ∧ (0 ≤ (u.1 0) ∧ (u.1 0) ≤ 24) ∧ (r = 0 ∨ r = 1)) (fun (u : kS) t₀ => kB dC dI cI cJ cQ (va_A [(kX12 hm vFo vSi vIt vMo la vBy vTy mi vMi pn vPs gn vGs fn vFt le vTo kn fe en ca an co vPr vSt vFn sn vSg vAl dr), (kAI vMi cI 24 qMi), (kAI vPs cI 32 qPs), (kAI vGs cI 16 qGs), (kAI vTo cI 96 qTo), (kAI vPr cI 2 qPr), (kAI vSt cI 2 qSt), (kAI vFn cI 2 qFn), (kAI vFt cI 32 qFt), (kAI vSg cI 16 qSg)] sz) [(kX12 hm vFo vSi vIt vMo la vBy vTy mi vMi pn vPs gn vGs fn vFt le vTo (u.1 0) (u.1 1) (u.1 2) ca (u.1 3) (u.1 4) vPr vSt vFn sn vSg vAl dr), (kAI vMi cI 24 qMi), (kAI vPs cI 32 qPs), (kAI vGs cI 16 qGs), (kAI vTo cI 96 (u.2.1 0)), (kAI vPr cI 2 (u.2.1 1)), (kAI vSt cI 2 (u.2.1 2)), (kAI vFn cI 2 (u.2.1 3)), (kAI vFt cI 32 qFt), (kAI vSg cI 16 qSg)] t₀) (va_A [(kX12 hm vFo vSi vIt vMo la vBy vTy mi vMi pn vPs gn vGs fn vFt le vTo kn fe en ca an co vPr vSt vFn sn vSg vAl dr), (kAI vMi cI 24 qMi), (kAI vPs cI 32 qPs), (kAI vGs cI 16 qGs), (kAI vTo cI 96 qTo), (kAI vPr cI 2 qPr), (kAI vSt cI 2 qSt), (kAI vFn cI 2 qFn), (kAI vFt cI 32 qFt), (kAI vSg cI 16 qSg)] sz)) 0 0 (va_A [(kX12 hm vFo vSi vIt vMo la vBy vTy mi vMi pn vPs gn vGs fn vFt le vTo kn fe en ca an co vPr vSt vFn sn vSg vAl dr), (kAI vMi cI 24 qMi), (kAI vPs cI 32 qPs), (kAI vGs cI 16 qGs), (kAI vTo cI 96 qTo), (kAI vPr cI 2 qPr), (kAI vSt cI 2 qSt), (kAI vFn cI 2 qFn), (kAI vFt cI 32 qFt), (kAI vSg cI 16 qSg)] sz) := by
  refine Met.ofW (cc := cX12_isSeen) (maxL := 3) (ret := (some .boolean)) (by decide) rfl ?_
  intro p₀ e₀ s₀ m₀ args below meth c₀ s₁ B hml hv₀
  obtain ⟨rfl, hsz, hP, hK, hD0, hN⟩ := hv₀
  have hx₀ := B.exec
  have hb := B.bytes
  have hr := B.returns
  have hts := atoms_spec (ws := (kW yX12_isSeen cX12_isSeen 3 (some .boolean))) B.pre
  have hts := fun w h => hts w (List.mem_cons_of_mem _ h)
  have hown : s₀.vm.findClass RX12 = some m₀.cls := findClass_of_methodNamed B.named
  have hlocks := B.notSynchronized
  subst hsz
  have hD := hD0.self (sz := s₀.heap.size)
  generalize hAe : va_A [(kX12 hm vFo vSi vIt vMo la vBy vTy mi vMi pn vPs gn vGs fn vFt le vTo kn fe en ca an co vPr vSt vFn sn vSg vAl dr), (kAI vMi cI 24 qMi), (kAI vPs cI 32 qPs), (kAI vGs cI 16 qGs), (kAI vTo cI 96 qTo), (kAI vPr cI 2 qPr), (kAI vSt cI 2 qSt), (kAI vFn cI 2 qFn), (kAI vFt cI 32 qFt), (kAI vSg cI 16 qSg)] s₀.heap.size = A at hD ⊢
  have hA : ∀ q : Nat, s₀.heap.size ≤ q → A q := fun q h => by rw [← hAe]; exact Or.inr h
  have hS : va_S A s₀.heap s₀.heap [] := va_S.rf
  have hP : va_P (dC, dI) vwCl [(kX12 hm vFo vSi vIt vMo la vBy vTy mi vMi pn vPs gn vGs fn vFt le vTo kn fe en ca an co vPr vSt vFn sn vSg vAl dr), (kAI vMi cI 24 qMi), (kAI vPs cI 32 qPs), (kAI vGs cI 16 qGs), (kAI vTo cI 96 qTo), (kAI vPr cI 2 qPr), (kAI vSt cI 2 qSt), (kAI vFn cI 2 qFn), (kAI vFt cI 32 qFt), (kAI vSg cI 16 qSg)] s₀.heap := hP
  have hl := lv_entry ([.ref hm]) (n := 3) (Nat.le_of_ble_eq_true rfl)
  rw [lg_entry_eq]
  generalize (lg_sl ([.ref hm]) ++ List.replicate (3 - (lg_sl ([.ref hm])).length) Slot.unset).toArray = ls at hl ⊢
  have hl : lv_has ls 3 [(0, .ref hm)] := hl
  obtain ⟨H, hH⟩ : ∃ z : Heap, z = s₀.heap := ⟨_, rfl⟩
  rw [← hH] at hP
  have hS : va_S A s₀.heap H [] := by rw [hH]; exact hS
  refine k_heap hH ?_
  have hD : va_D A [(kX12 hm vFo vSi vIt vMo la vBy vTy mi vMi pn vPs gn vGs fn vFt le vTo kn fe en ca an co vPr vSt vFn sn vSg vAl dr), (kAI vMi cI 24 qMi), (kAI vPs cI 32 qPs), (kAI vGs cI 16 qGs), (kAI vTo cI 96 qTo), (kAI vPr cI 2 qPr), (kAI vSt cI 2 qSt), (kAI vFn cI 2 qFn), (kAI vFt cI 32 qFt), (kAI vSg cI 16 qSg)] := hD
  obtain ⟨locs, hlo⟩ : ∃ z : List Loc, z = [] := ⟨_, rfl⟩
  rw [← hlo] at hS ⊢
  clear hlo hH hAe hD0
  refine lv_iconst (v := 1) hx₀ hb dX12_isSeen_0 (by decide +kernel) ?_
  refine lv_istore_n (lv' := [(1, .int 1), (0, .ref hm)]) hx₀ hb dX12_isSeen_1 rfl hl (by decide) rfl (fun ls hl => ?_)
  refine lv_iconst (v := 0) hx₀ hb dX12_isSeen_2 (by decide +kernel) ?_
  refine lv_istore_n (lv' := [(2, .int 0), (1, .int 1), (0, .ref hm)]) hx₀ hb dX12_isSeen_3 rfl hl (by decide) rfl (fun ls hl => ?_)
  refine (?keyz1 : ∀ (jz1 : Nat) (isz1 : Int32) (kz1 : Int32) (knz1 : Int32) (fez1 : Int32) (enz1 : Int32) (anz1 : Int32) (coz1 : Int32) (qtz1 : Nat → Int32) (qpz1 : Nat → Int32) (qsz1 : Nat → Int32) (qfz1 : Nat → Int32) (H : Heap) (locs : List Loc) (ls : Array Slot), (0 ≤ kz1 ∧ kz1 ≤ sn) → (isz1 = 0 ∨ isz1 = 1) → (k_bd 2 0 7 qpz1) → (0 ≤ fez1 ∧ fez1 ≤ 24) → (enz1 = 0 ∨ knz1 = 0 ∨ fez1 ≤ 23) → (0 ≤ knz1 ∧ knz1 ≤ 24) → ((sn.toInt - kz1.toInt).toNat = jz1) → va_P (dC, dI) vwCl [(kX12 hm vFo vSi vIt vMo la vBy vTy mi vMi pn vPs gn vGs fn vFt le vTo knz1 fez1 enz1 ca anz1 coz1 vPr vSt vFn sn vSg vAl dr), (kAI vMi cI 24 qMi), (kAI vPs cI 32 qPs), (kAI vGs cI 16 qGs), (kAI vTo cI 96 qtz1), (kAI vPr cI 2 qpz1), (kAI vSt cI 2 qsz1), (kAI vFn cI 2 qfz1), (kAI vFt cI 32 qFt), (kAI vSg cI 16 qSg)] H → va_D A [(kX12 hm vFo vSi vIt vMo la vBy vTy mi vMi pn vPs gn vGs fn vFt le vTo knz1 fez1 enz1 ca anz1 coz1 vPr vSt vFn sn vSg vAl dr), (kAI vMi cI 24 qMi), (kAI vPs cI 32 qPs), (kAI vGs cI 16 qGs), (kAI vTo cI 96 qtz1), (kAI vPr cI 2 qpz1), (kAI vSt cI 2 qsz1), (kAI vFn cI 2 qfz1), (kAI vFt cI 32 qFt), (kAI vSg cI 16 qSg)] → va_S A s₀.heap H locs → lv_has ls 3 [(2, .int kz1), (1, .int isz1), (0, .ref hm)] → W p₀ l e₀ _ s₀ m₀ _ below meth c₀ H locs _ _ _ (F0 m₀ 4 ls [])) _ (1 : Int32) (0 : Int32) kn fe en an co _ _ _ _ H locs ls (show 0 ≤ (0 : Int32) ∧ (0 : Int32) ≤ sn from ⟨(by decide), hh8.1⟩) (show (1 : Int32) = 0 ∨ (1 : Int32) = 1 from (Or.inr (rfl))) (hh3) (hh4) (hh5) (hh6) rfl hP hD hS hl
  clear hP hD hS hl
  intro jz1
  induction jz1 using Nat.strongRecOn with
  | ind jz1 ihz1 =>
    intro isz1 kz1 knz1 fez1 enz1 anz1 coz1 qtz1 qpz1 qsz1 qfz1 H locs ls hiz1_0 hiz1_1 hiz1_2 hiz1_3 hiz1_4 hiz1_5 hjz1 hP hD hS hl
    refine lv_iload_n hx₀ hb dX12_isSeen_4 rfl (lv_at hl 0 rfl) ?_
    refine lv_aload_n hx₀ hb dX12_isSeen_5 rfl (lv_at hl 2 rfl) ?_
    refine va_get (D := (dC, dI)) (ci := 11) (v := .int sn) (C := RX12) (T := TX12) (N := 30) hx₀ hb hts inlX12 hown hK hP 0 rfl rfl 26 (by decide) (hts (.fieldLink RX12 240 "BittenStickModel" "sights" "I") wd_696) (fun _ h9 => h9) rfl dX12_isSeen_6 ?_
    refine lv_icmp_ge (tgt := 69) hx₀ hb dX12_isSeen_9 (by decide) (fun c_2 => ?_) (fun c_2 => ?_)
    · refine lv_iload_n hx₀ hb dX12_isSeen_69 rfl (lv_at hl 1 rfl) ?_
      obtain ⟨hP9, hD9⟩ := k_c2 (wc := [(kX12 hm vFo vSi vIt vMo la vBy vTy mi vMi pn vPs gn vGs fn vFt le vTo knz1 fez1 enz1 ca anz1 coz1 vPr vSt vFn sn vSg vAl dr), (kAI vMi cI 24 qMi), (kAI vPs cI 32 qPs), (kAI vGs cI 16 qGs), (kAI vTo cI 96 qtz1), (kAI vPr cI 2 qpz1), (kAI vSt cI 2 qsz1), (kAI vFn cI 2 qfz1), (kAI vFt cI 32 qFt), (kAI vSg cI 16 qSg)]) hP hD [0, 1, 2, 3, 4, 5, 6, 7, 8, 9] (by decide +kernel) rfl
      exact W.zret (v := isz1) hx₀ hb hr (k_nar01 (hiz1_1)) (fun t₀ ht hW => ⟨⟨isz1, (k_fn [knz1, fez1, enz1, anz1, coz1], k_fa [qtz1, qpz1, qsz1, qfz1], k_fl [], k_fL [], k_fp []), rfl, ⟨hiz1_2, hiz1_3, hiz1_4, hiz1_5, hiz1_1⟩, by rw [ht]; exact hP9, va_K.moved hW.alike hK, hD9⟩, hS.F ht⟩) hS.2.2 dX12_isSeen_70
    · refine lv_iload_n hx₀ hb dX12_isSeen_12 rfl (lv_at hl 1 rfl) ?_
      refine lv_if_eq (tgt := 69) hx₀ hb dX12_isSeen_13 (by decide) (fun c_3 => ?_) (fun c_3 => ?_)
      · refine lv_iload_n hx₀ hb dX12_isSeen_69 rfl (lv_at hl 1 rfl) ?_
        obtain ⟨hP9, hD9⟩ := k_c2 (wc := [(kX12 hm vFo vSi vIt vMo la vBy vTy mi vMi pn vPs gn vGs fn vFt le vTo knz1 fez1 enz1 ca anz1 coz1 vPr vSt vFn sn vSg vAl dr), (kAI vMi cI 24 qMi), (kAI vPs cI 32 qPs), (kAI vGs cI 16 qGs), (kAI vTo cI 96 qtz1), (kAI vPr cI 2 qpz1), (kAI vSt cI 2 qsz1), (kAI vFn cI 2 qfz1), (kAI vFt cI 32 qFt), (kAI vSg cI 16 qSg)]) hP hD [0, 1, 2, 3, 4, 5, 6, 7, 8, 9] (by decide +kernel) rfl
        exact W.zret (v := isz1) hx₀ hb hr (k_nar01 (hiz1_1)) (fun t₀ ht hW => ⟨⟨isz1, (k_fn [knz1, fez1, enz1, anz1, coz1], k_fa [qtz1, qpz1, qsz1, qfz1], k_fl [], k_fL [], k_fp []), rfl, ⟨hiz1_2, hiz1_3, hiz1_4, hiz1_5, hiz1_1⟩, by rw [ht]; exact hP9, va_K.moved hW.alike hK, hD9⟩, hS.F ht⟩) hS.2.2 dX12_isSeen_70
      · refine lv_aload_n hx₀ hb dX12_isSeen_16 rfl (lv_at hl 2 rfl) ?_
        refine lv_aload_n hx₀ hb dX12_isSeen_17 rfl (lv_at hl 2 rfl) ?_
        refine va_get (D := (dC, dI)) (ci := 11) (v := .ref vSg) (C := RX12) (T := TX12) (N := 30) hx₀ hb hts inlX12 hown hK hP 0 rfl rfl 27 (by decide) (hts (.fieldLink RX12 52 "BittenStickModel" "sight" "[I") wd_129) (fun _ h9 => h9) rfl dX12_isSeen_18 ?_
        refine lv_iconst (v := 2) hx₀ hb dX12_isSeen_21 (by decide +kernel) ?_
        refine lv_iload_n hx₀ hb dX12_isSeen_22 rfl (lv_at hl 0 rfl) ?_
        refine lv_imul hx₀ hb dX12_isSeen_23 ?_
        refine va_iald hx₀ hb hK hP 9 0 rfl rfl (vp_in_iff.mpr (lf_g_isSeen_1 sn kz1 jz1 hh8 hiz1_0 hjz1 c_2)) dX12_isSeen_24 ?_
        refine lv_topi (fun y_4 ey_4 => ?_)
        obtain ⟨hPc, hDc, hFc, hC⟩ := k_cw (wc := [(kX12 hm vFo vSi vIt vMo la vBy vTy mi vMi pn vPs gn vGs fn vFt le vTo knz1 fez1 enz1 ca anz1 coz1 vPr vSt vFn sn vSg vAl dr)]) hP hD hS hA [0] (by decide +kernel) rfl
        refine va_calli (va_runV (As := [.int y_4]) (rest := []) ⟨hx₀, hb, hml, hown, hts⟩ (g_isFlight l dC dI cI cJ cQ H.size hm y_4 vFo vSi vIt vMo la vBy vTy mi vMi pn vPs gn vGs fn vFt le vTo knz1 fez1 enz1 ca anz1 coz1 vPr vSt vFn sn vSg vAl dr (hh7)) (cwV 1 hts (kGV wd_528 wd_525 wd_526 wd_527 wd_5) rfl rfl rfl (by decide +kernel) ⟨Nat.le_of_ble_eq_true rfl, Nat.le_of_ble_eq_true rfl⟩) (k_preV11 (q0 := 0) hK hPc hDc hN rfl) rfl rfl hl.1 rfl (lv_room (Nat.le_of_ble_eq_true rfl)) dX12_isSeen_25 ⟨by decide +kernel, by decide +kernel⟩) hS (fun q _ h => hFc q h) hFc (fun r_5 u₀ t₀ H1 locs ht hvm hw hB hz1 hk1 hS => ?_)
        obtain ⟨hP1, hK1, hD1⟩ := hB
        rw [ht] at hP1
        have hJ := k_jn (wr := [(kAI vMi cI 24 qMi), (kAI vPs cI 32 qPs), (kAI vGs cI 16 qGs), (kAI vTo cI 96 qtz1), (kAI vPr cI 2 qpz1), (kAI vSt cI 2 qsz1), (kAI vFn cI 2 qfz1), (kAI vFt cI 32 qFt), (kAI vSg cI 16 qSg)]) (wt := [(kAI vMi cI 24 qMi), (kAI vPs cI 32 qPs), (kAI vGs cI 16 qGs), (kAI vTo cI 96 qtz1), (kAI vPr cI 2 qpz1), (kAI vSt cI 2 qsz1), (kAI vFn cI 2 qfz1), (kAI vFt cI 32 qFt), (kAI vSg cI 16 qSg), (kX12 hm vFo vSi vIt vMo la vBy vTy mi vMi pn vPs gn vGs fn vFt le vTo knz1 fez1 enz1 ca anz1 coz1 vPr vSt vFn sn vSg vAl dr)]) hP hD hC [1, 2, 3, 4, 5, 6, 7, 8, 9] rfl (by decide +kernel) (by decide +kernel) hk1 hFc hP1 hD1 rfl
        clear hP hD hPc hDc hFc hC hP1 hD1 hK1 hz1 hk1 hvm ht
        obtain ⟨hP, hD⟩ := hJ
        generalize H1 = H at hP hS ⊢
        try dsimp only at hw
        by_cases c_6 : 0 ≤ y_4 ∧ y_4 < fn
        · rw [if_pos c_6] at hw
          refine k_topi (v := 1) hw ?_
          refine lv_if_eq (tgt := 61) hx₀ hb dX12_isSeen_28 (by decide) (fun c9 => absurd c9 (by decide +kernel)) (fun _ => ?_)
          refine lv_aload_n hx₀ hb dX12_isSeen_31 rfl (lv_at hl 2 rfl) ?_
          refine lv_aload_n hx₀ hb dX12_isSeen_32 rfl (lv_at hl 2 rfl) ?_
          refine va_get (D := (dC, dI)) (ci := 11) (v := .ref vSg) (C := RX12) (T := TX12) (N := 30) hx₀ hb hts inlX12 hown hK hP 9 rfl rfl 27 (by decide) (hts (.fieldLink RX12 52 "BittenStickModel" "sight" "[I") wd_129) (fun _ h9 => h9) rfl dX12_isSeen_33 ?_
          refine lv_iconst (v := 2) hx₀ hb dX12_isSeen_36 (by decide +kernel) ?_
          refine lv_iload_n hx₀ hb dX12_isSeen_37 rfl (lv_at hl 0 rfl) ?_
          refine lv_imul hx₀ hb dX12_isSeen_38 ?_
          refine va_iald hx₀ hb hK hP 8 0 rfl rfl (vp_in_iff.mpr (lf_g_isSeen_1 sn kz1 jz1 hh8 hiz1_0 hjz1 c_2)) dX12_isSeen_39 ?_
          refine k_topi (v := y_4) ey_4.symm ?_
          refine lv_iconst (v := 0) hx₀ hb dX12_isSeen_40 (by decide +kernel) ?_
          obtain ⟨hPc, hDc, hFc, hC⟩ := k_cw (wc := [(kX12 hm vFo vSi vIt vMo la vBy vTy mi vMi pn vPs gn vGs fn vFt le vTo knz1 fez1 enz1 ca anz1 coz1 vPr vSt vFn sn vSg vAl dr), (kAI vMi cI 24 qMi), (kAI vPs cI 32 qPs), (kAI vGs cI 16 qGs), (kAI vTo cI 96 qtz1), (kAI vPr cI 2 qpz1), (kAI vSt cI 2 qsz1), (kAI vFn cI 2 qfz1), (kAI vFt cI 32 qFt)]) hP hD hS hA [9, 0, 1, 2, 3, 4, 5, 6, 7] (by decide +kernel) rfl
          refine va_calli (va_runV (As := [.int y_4, .int 0]) (rest := []) ⟨hx₀, hb, hml, hown, hts⟩ (g_comesOf l dC dI cI cJ cQ H.size hm y_4 0 vFo vSi vIt vMo la vBy vTy mi vMi pn vPs gn vGs fn vFt le vTo knz1 fez1 enz1 ca anz1 coz1 vPr vSt vFn sn vSg vAl dr qMi qPs qGs qtz1 qpz1 qsz1 qfz1 qFt (hh0) (hh1) (hh2) (hiz1_2) (lf_g_flies_3 fn y_4 hh7 c_6)) (cwV 2 hts (kGV wd_532 wd_529 wd_530 wd_531 wd_5) rfl rfl rfl (by decide +kernel) ⟨Nat.le_of_ble_eq_true rfl, Nat.le_of_ble_eq_true rfl⟩) (k_preV11 (q0 := 0) hK hPc hDc hN rfl) rfl rfl hl.1 rfl (lv_room (Nat.le_of_ble_eq_true rfl)) dX12_isSeen_41 ⟨by decide +kernel, by decide +kernel⟩) hS (fun q _ h => hFc q h) hFc (fun r_7 u₀ t₀ H1 locs ht hvm hw hB hz1 hk1 hS => ?_)
          obtain ⟨g_8, ga_9, gl_10, gb_11, gp_12⟩ := u₀
          obtain ⟨hP1, hK1, hD1⟩ := hB
          rw [ht] at hP1
          have hJ := k_jn (wr := [(kAI vSg cI 16 qSg)]) (wt := [(kAI vSg cI 16 qSg), (kX12 hm vFo vSi vIt vMo la vBy vTy mi vMi pn vPs gn vGs fn vFt le vTo (g_8 0) (g_8 1) (g_8 2) ca (g_8 3) (g_8 4) vPr vSt vFn sn vSg vAl dr), (kAI vMi cI 24 qMi), (kAI vPs cI 32 qPs), (kAI vGs cI 16 qGs), (kAI vTo cI 96 (ga_9 0)), (kAI vPr cI 2 (ga_9 1)), (kAI vSt cI 2 (ga_9 2)), (kAI vFn cI 2 (ga_9 3)), (kAI vFt cI 32 qFt)]) hP hD hC [8] rfl (by decide +kernel) (by decide +kernel) hk1 hFc hP1 hD1 rfl
          clear hP hD hPc hDc hFc hC hP1 hD1 hK1 hz1 hk1 hvm ht
          obtain ⟨hP, hD⟩ := hJ
          generalize H1 = H at hP hS ⊢
          try dsimp only at hw
          obtain ⟨c_13, c_14, c_15, c_16⟩ := hw
          refine lv_aload_n hx₀ hb dX12_isSeen_44 rfl (lv_at hl 2 rfl) ?_
          refine va_get (D := (dC, dI)) (ci := 11) (v := .ref vSg) (C := RX12) (T := TX12) (N := 30) hx₀ hb hts inlX12 hown hK hP 1 rfl rfl 27 (by decide) (hts (.fieldLink RX12 52 "BittenStickModel" "sight" "[I") wd_129) (fun _ h9 => h9) rfl dX12_isSeen_45 ?_
          refine lv_iconst (v := 2) hx₀ hb dX12_isSeen_48 (by decide +kernel) ?_
          refine lv_iload_n hx₀ hb dX12_isSeen_49 rfl (lv_at hl 0 rfl) ?_
          refine lv_imul hx₀ hb dX12_isSeen_50 ?_
          refine lv_iconst (v := 1) hx₀ hb dX12_isSeen_51 (by decide +kernel) ?_
          refine lv_iadd hx₀ hb dX12_isSeen_52 ?_
          refine va_iald hx₀ hb hK hP 0 0 rfl rfl (vp_in_iff.mpr (lf_g_isSeen_2 sn kz1 jz1 hh8 hiz1_0 hjz1 c_2)) dX12_isSeen_53 ?_
          refine lv_topi (fun y_17 ey_17 => ?_)
          refine lv_icmp_ne (tgt := 61) hx₀ hb dX12_isSeen_54 (by decide) (fun c_18 => ?_) (fun c_18 => ?_)
          · refine lv_iconst (v := 0) hx₀ hb dX12_isSeen_61 (by decide +kernel) ?_
            refine lv_istore_n (lv' := [(1, .int 0), (2, .int kz1), (0, .ref hm)]) hx₀ hb dX12_isSeen_62 rfl hl (by decide) rfl (fun ls hl => ?_)
            refine lv_iinc (v := kz1 + 1) (lv' := [(2, .int (kz1 + 1)), (1, .int 0), (0, .ref hm)]) hx₀ hb dX12_isSeen_63 hl (k := 1) rfl rfl (by decide) rfl (fun ls hl => ?_)
            refine lv_goto (tgt := 4) hx₀ hb dX12_isSeen_66 (by decide) ?_
            exact ihz1 _ (lf_g_farthestNow_3 sn kz1 jz1 hh8 hiz1_0 hjz1 c_2) (0 : Int32) (kz1 + 1) (g_8 0) (g_8 1) (g_8 2) (g_8 3) (g_8 4) (ga_9 0) (ga_9 1) (ga_9 2) (ga_9 3) _ _ _ (lf_g_farthestNow_2 sn kz1 jz1 hh8 hiz1_0 hjz1 c_2) (show (0 : Int32) = 0 ∨ (0 : Int32) = 1 from (Or.inl (rfl))) (c_13) (c_14) (c_15) (c_16) rfl (hP.sub [1, 2, 3, 4, 5, 6, 7, 8, 9, 0] rfl) (hD.sub [1, 2, 3, 4, 5, 6, 7, 8, 9, 0] (by decide +kernel) rfl) hS (lv_sub hl [0, 1, 2] rfl)
          · refine lv_iconst (v := 1) hx₀ hb dX12_isSeen_57 (by decide +kernel) ?_
            refine lv_goto (tgt := 62) hx₀ hb dX12_isSeen_58 (by decide) ?_
            refine lv_istore_n (lv' := [(1, .int 1), (2, .int kz1), (0, .ref hm)]) hx₀ hb dX12_isSeen_62 rfl hl (by decide) rfl (fun ls hl => ?_)
            refine lv_iinc (v := kz1 + 1) (lv' := [(2, .int (kz1 + 1)), (1, .int 1), (0, .ref hm)]) hx₀ hb dX12_isSeen_63 hl (k := 1) rfl rfl (by decide) rfl (fun ls hl => ?_)
            refine lv_goto (tgt := 4) hx₀ hb dX12_isSeen_66 (by decide) ?_
            exact ihz1 _ (lf_g_farthestNow_3 sn kz1 jz1 hh8 hiz1_0 hjz1 c_2) (1 : Int32) (kz1 + 1) (g_8 0) (g_8 1) (g_8 2) (g_8 3) (g_8 4) (ga_9 0) (ga_9 1) (ga_9 2) (ga_9 3) _ _ _ (lf_g_farthestNow_2 sn kz1 jz1 hh8 hiz1_0 hjz1 c_2) (show (1 : Int32) = 0 ∨ (1 : Int32) = 1 from (Or.inr (rfl))) (c_13) (c_14) (c_15) (c_16) rfl (hP.sub [1, 2, 3, 4, 5, 6, 7, 8, 9, 0] rfl) (hD.sub [1, 2, 3, 4, 5, 6, 7, 8, 9, 0] (by decide +kernel) rfl) hS (lv_sub hl [0, 1, 2] rfl)
        rw [if_neg c_6] at hw
        refine k_topi (v := 0) hw ?_
        refine lv_if_eq (tgt := 61) hx₀ hb dX12_isSeen_28 (by decide) (fun _ => ?_) (fun c9 => absurd (by decide +kernel) c9)
        refine lv_iconst (v := 0) hx₀ hb dX12_isSeen_61 (by decide +kernel) ?_
        refine lv_istore_n (lv' := [(1, .int 0), (2, .int kz1), (0, .ref hm)]) hx₀ hb dX12_isSeen_62 rfl hl (by decide) rfl (fun ls hl => ?_)
        refine lv_iinc (v := kz1 + 1) (lv' := [(2, .int (kz1 + 1)), (1, .int 0), (0, .ref hm)]) hx₀ hb dX12_isSeen_63 hl (k := 1) rfl rfl (by decide) rfl (fun ls hl => ?_)
        refine lv_goto (tgt := 4) hx₀ hb dX12_isSeen_66 (by decide) ?_
        exact ihz1 _ (lf_g_farthestNow_3 sn kz1 jz1 hh8 hiz1_0 hjz1 c_2) (0 : Int32) (kz1 + 1) knz1 fez1 enz1 anz1 coz1 qtz1 qpz1 qsz1 qfz1 _ _ _ (lf_g_farthestNow_2 sn kz1 jz1 hh8 hiz1_0 hjz1 c_2) (show (0 : Int32) = 0 ∨ (0 : Int32) = 1 from (Or.inl (rfl))) (hiz1_2) (hiz1_3) (hiz1_4) (hiz1_5) rfl (hP.sub [9, 0, 1, 2, 3, 4, 5, 6, 7, 8] rfl) (hD.sub [9, 0, 1, 2, 3, 4, 5, 6, 7, 8] (by decide +kernel) rfl) hS (lv_sub hl [0, 1, 2] rfl)
theorem lf_g_soresOf_1 (a0 : Int32) (a1 : Nat) (h0 : 0 ≤ a0 ∧ a0 ≤ 6) (h1 : (6 - a0.toInt).toNat = a1) (h2 : ¬ 6 ≤ a0) : 0 ≤ (a0 + 1) ∧ (a0 + 1) ≤ 6 := by
  first | rfl | assumption | decide | exact Or.inl rfl | (first | omega | (have hr0 := Int32.toInt_lt a0; have hs0 := Int32.le_toInt a0; simp only [Int64.toInt_add, Int64.toInt_sub, Int32.toInt_add, Int32.toInt_sub, Int32.toInt_mul, Int64.le_iff_toInt_le, Int64.lt_iff_toInt_lt, Int32.le_iff_toInt_le, Int32.lt_iff_toInt_lt, ← Int32.toInt_inj, ← Int64.toInt_inj, Int32.toInt_toInt64, kc_0, kc_1, kc_6] at *; (first | omega | ((try simp (disch := omega) only [k_bm64] at *); (try simp (disch := omega) only [k_bm] at *); (try simp (disch := omega) only [k_bm] at *); omega) | (simp only [Int.bmod] at *; omega))))
theorem lf_g_soresOf_2 (a0 : Int32) (a1 : Nat) (h0 : 0 ≤ a0 ∧ a0 ≤ 6) (h1 : (6 - a0.toInt).toNat = a1) (h2 : ¬ 6 ≤ a0) : (6 - (a0 + 1).toInt).toNat < a1 := by
  first | rfl | assumption | decide | exact Or.inl rfl | (first | omega | (have hr0 := Int32.toInt_lt a0; have hs0 := Int32.le_toInt a0; simp only [Int64.toInt_add, Int64.toInt_sub, Int32.toInt_add, Int32.toInt_sub, Int32.toInt_mul, Int64.le_iff_toInt_le, Int64.lt_iff_toInt_lt, Int32.le_iff_toInt_le, Int32.lt_iff_toInt_lt, ← Int32.toInt_inj, ← Int64.toInt_inj, Int32.toInt_toInt64, kc_0, kc_1, kc_6] at *; (first | omega | ((try simp (disch := omega) only [k_bm64] at *); (try simp (disch := omega) only [k_bm] at *); (try simp (disch := omega) only [k_bm] at *); omega) | (simp only [Int.bmod] at *; omega))))
set_option maxHeartbeats 4000000 in
set_option maxRecDepth 100000 in
theorem g_soresOf (l : Launch) (dC : Nat → ClassId) (dI : Nat → Nat → Nat) (cI cJ cQ : ClassId) (sz : Nat) (hm : Nat) (p1 : Int32) (vFo : Nat) (vSi : Nat) (vIt : Nat) (vMo : Nat) (la : Int32) (vBy : Nat) (vTy : Nat) (mi : Int32) (vMi : Nat) (pn : Int32) (vPs : Nat) (gn : Int32) (vGs : Nat) (fn : Int32) (vFt : Nat) (le : Int32) (vTo : Nat) (kn : Int32) (fe : Int32) (en : Int32) (ca : Int32) (an : Int32) (co : Int32) (vPr : Nat) (vSt : Nat) (vFn : Nat) (sn : Int32) (vSg : Nat) (vAl : Nat) (dr : Int32) (qMi : Nat → Int32) (qPs : Nat → Int32) (qGs : Nat → Int32) (qTo : Nat → Int32) (qPr : Nat → Int32) (qSt : Nat → Int32) (qFn : Nat → Int32) (qFt : Nat → Int32) (qSg : Nat → Int32) (hh0 : 0 ≤ mi ∧ mi ≤ 24) (hh1 : 0 ≤ pn ∧ pn ≤ 8) (hh2 : 0 ≤ gn ∧ gn ≤ 8) (hh3 : k_bd 2 0 7 qPr) (hh4 : 0 ≤ fe ∧ fe ≤ 24) (hh5 : en = 0 ∨ kn = 0 ∨ fe ≤ 23) (hh6 : 0 ≤ kn ∧ kn ≤ 24) (hh7 : 0 ≤ fn ∧ fn ≤ 8) (hh8 : 0 ≤ sn ∧ sn ≤ 8) (hh9 : 0 ≤ p1 ∧ p1 ≤ 7) : Met l yX12_soresOf (kW yX12_soresOf cX12_soresOf 5 (some .int)) { frames := 6, cells := 0, slots := 0, locals := 143 } (kPre dC dI cI cJ cQ sz [.ref hm, .int p1] [(kX12 hm vFo vSi vIt vMo la vBy vTy mi vMi pn vPs gn vGs fn vFt le vTo kn fe en ca an co vPr vSt vFn sn vSg vAl dr), (kAI vMi cI 24 qMi), (kAI vPs cI 32 qPs), (kAI vGs cI 16 qGs), (kAI vTo cI 96 qTo), (kAI vPr cI 2 qPr), (kAI vSt cI 2 qSt), (kAI vFn cI 2 qFn), (kAI vFt cI 32 qFt), (kAI vSg cI 16 qSg)]) (va_Qi (fun (r : Int32) (u : kS) => (k_bd 2 0 7 (u.2.1 1)) ∧ (0 ≤ (u.1 1) ∧ (u.1 1) ≤ 24) ∧ ((u.1 2) = 0 ∨ (u.1 0) = 0 ∨ (u.1 1) ≤ 23) ∧ (0 ≤ (u.1 0) ∧ (u.1 0) ≤ 24)) (fun (u : kS) t₀ => kB dC dI cI cJ cQ (va_A [(kX12 hm vFo vSi vIt vMo la vBy vTy mi vMi pn vPs gn vGs fn vFt le vTo kn fe en ca an co vPr vSt vFn sn vSg vAl dr), (kAI vMi cI 24 qMi), (kAI vPs cI 32 qPs), (kAI vGs cI 16 qGs), (kAI vTo cI 96 qTo), (kAI vPr cI 2 qPr), (kAI vSt cI 2 qSt), (kAI vFn cI 2 qFn), (kAI vFt cI 32 qFt), (kAI vSg cI 16 qSg)] sz) [(kX12 hm vFo vSi vIt vMo la vBy vTy mi vMi pn vPs gn vGs fn vFt le vTo (u.1 0) (u.1 1) (u.1 2) ca (u.1 3) (u.1 4) vPr vSt vFn sn vSg vAl dr), (kAI vMi cI 24 qMi), (kAI vPs cI 32 (u.2.1 4)), (kAI vGs cI 16 qGs), (kAI vTo cI 96 (u.2.1 0)), (kAI vPr cI 2 (u.2.1 1)), (kAI vSt cI 2 (u.2.1 2)), (kAI vFn cI 2 (u.2.1 3)), (kAI vFt cI 32 qFt), (kAI vSg cI 16 qSg)] t₀) (va_A [(kX12 hm vFo vSi vIt vMo la vBy vTy mi vMi pn vPs gn vGs fn vFt le vTo kn fe en ca an co vPr vSt vFn sn vSg vAl dr), (kAI vMi cI 24 qMi), (kAI vPs cI 32 qPs), (kAI vGs cI 16 qGs), (kAI vTo cI 96 qTo), (kAI vPr cI 2 qPr), (kAI vSt cI 2 qSt), (kAI vFn cI 2 qFn), (kAI vFt cI 32 qFt), (kAI vSg cI 16 qSg)] sz)) 0 0 (va_A [(kX12 hm vFo vSi vIt vMo la vBy vTy mi vMi pn vPs gn vGs fn vFt le vTo kn fe en ca an co vPr vSt vFn sn vSg vAl dr), (kAI vMi cI 24 qMi), (kAI vPs cI 32 qPs), (kAI vGs cI 16 qGs), (kAI vTo cI 96 qTo), (kAI vPr cI 2 qPr), (kAI vSt cI 2 qSt), (kAI vFn cI 2 qFn), (kAI vFt cI 32 qFt), (kAI vSg cI 16 qSg)] sz) := by
  refine Met.ofW (cc := cX12_soresOf) (maxL := 5) (ret := (some .int)) (by decide) rfl ?_
  intro p₀ e₀ s₀ m₀ args below meth c₀ s₁ B hml hv₀
  obtain ⟨rfl, hsz, hP, hK, hD0, hN⟩ := hv₀
  have hx₀ := B.exec
  have hb := B.bytes
  have hr := B.returns
  have hts := atoms_spec (ws := (kW yX12_soresOf cX12_soresOf 5 (some .int))) B.pre
  have hts := fun w h => hts w (List.mem_cons_of_mem _ h)
  have hown : s₀.vm.findClass RX12 = some m₀.cls := findClass_of_methodNamed B.named
  have hlocks := B.notSynchronized
  subst hsz
  have hD := hD0.self (sz := s₀.heap.size)
  generalize hAe : va_A [(kX12 hm vFo vSi vIt vMo la vBy vTy mi vMi pn vPs gn vGs fn vFt le vTo kn fe en ca an co vPr vSt vFn sn vSg vAl dr), (kAI vMi cI 24 qMi), (kAI vPs cI 32 qPs), (kAI vGs cI 16 qGs), (kAI vTo cI 96 qTo), (kAI vPr cI 2 qPr), (kAI vSt cI 2 qSt), (kAI vFn cI 2 qFn), (kAI vFt cI 32 qFt), (kAI vSg cI 16 qSg)] s₀.heap.size = A at hD ⊢
  have hA : ∀ q : Nat, s₀.heap.size ≤ q → A q := fun q h => by rw [← hAe]; exact Or.inr h
  have hS : va_S A s₀.heap s₀.heap [] := va_S.rf
  have hP : va_P (dC, dI) vwCl [(kX12 hm vFo vSi vIt vMo la vBy vTy mi vMi pn vPs gn vGs fn vFt le vTo kn fe en ca an co vPr vSt vFn sn vSg vAl dr), (kAI vMi cI 24 qMi), (kAI vPs cI 32 qPs), (kAI vGs cI 16 qGs), (kAI vTo cI 96 qTo), (kAI vPr cI 2 qPr), (kAI vSt cI 2 qSt), (kAI vFn cI 2 qFn), (kAI vFt cI 32 qFt), (kAI vSg cI 16 qSg)] s₀.heap := hP
  have hl := lv_entry ([.ref hm, .int p1]) (n := 5) (Nat.le_of_ble_eq_true rfl)
  rw [lg_entry_eq]
  generalize (lg_sl ([.ref hm, .int p1]) ++ List.replicate (5 - (lg_sl ([.ref hm, .int p1])).length) Slot.unset).toArray = ls at hl ⊢
  have hl : lv_has ls 5 [(0, .ref hm), (1, .int p1)] := hl
  obtain ⟨H, hH⟩ : ∃ z : Heap, z = s₀.heap := ⟨_, rfl⟩
  rw [← hH] at hP
  have hS : va_S A s₀.heap H [] := by rw [hH]; exact hS
  refine k_heap hH ?_
  have hD : va_D A [(kX12 hm vFo vSi vIt vMo la vBy vTy mi vMi pn vPs gn vGs fn vFt le vTo kn fe en ca an co vPr vSt vFn sn vSg vAl dr), (kAI vMi cI 24 qMi), (kAI vPs cI 32 qPs), (kAI vGs cI 16 qGs), (kAI vTo cI 96 qTo), (kAI vPr cI 2 qPr), (kAI vSt cI 2 qSt), (kAI vFn cI 2 qFn), (kAI vFt cI 32 qFt), (kAI vSg cI 16 qSg)] := hD
  obtain ⟨locs, hlo⟩ : ∃ z : List Loc, z = [] := ⟨_, rfl⟩
  rw [← hlo] at hS ⊢
  clear hlo hH hAe hD0
  refine lv_aload_n hx₀ hb dX12_soresOf_0 rfl (lv_at hl 0 rfl) ?_
  refine va_get (D := (dC, dI)) (ci := 11) (v := .ref vPs) (C := RX12) (T := TX12) (N := 30) hx₀ hb hts inlX12 hown hK hP 0 rfl rfl 10 (by decide) (hts (.fieldLink RX12 31 "BittenStickModel" "passenger" "[I") wd_122) (fun _ h9 => h9) rfl dX12_soresOf_1 ?_
  refine lv_iconst (v := 4) hx₀ hb dX12_soresOf_4 (by decide +kernel) ?_
  refine lv_iload_n hx₀ hb dX12_soresOf_5 rfl (lv_at hl 1 rfl) ?_
  refine lv_imul hx₀ hb dX12_soresOf_6 ?_
  refine lv_iconst (v := 1) hx₀ hb dX12_soresOf_7 (by decide +kernel) ?_
  refine lv_iadd hx₀ hb dX12_soresOf_8 ?_
  refine va_iald hx₀ hb hK hP 2 0 rfl rfl (vp_in_iff.mpr (lf_g_fliesTold_2 p1 hh9)) dX12_soresOf_9 ?_
  refine lv_topi (fun y_1 ey_1 => ?_)
  refine lv_istore_n (lv' := [(2, .int y_1), (0, .ref hm), (1, .int p1)]) hx₀ hb dX12_soresOf_10 rfl hl (by decide) rfl (fun ls hl => ?_)
  refine lv_iconst (v := 0) hx₀ hb dX12_soresOf_11 (by decide +kernel) ?_
  refine lv_istore_n (lv' := [(3, .int 0), (2, .int y_1), (0, .ref hm), (1, .int p1)]) hx₀ hb dX12_soresOf_12 rfl hl (by decide) rfl (fun ls hl => ?_)
  refine lv_iconst (v := 0) hx₀ hb dX12_soresOf_13 (by decide +kernel) ?_
  refine lv_istore (lv' := [(4, .int 0), (3, .int 0), (2, .int y_1), (0, .ref hm), (1, .int p1)]) hx₀ hb dX12_soresOf_14 hl (by decide) rfl (fun ls hl => ?_)
  refine (?keyz2 : ∀ (jz2 : Nat) (biz2 : Int32) (clz2 : Int32) (knz2 : Int32) (fez2 : Int32) (enz2 : Int32) (anz2 : Int32) (coz2 : Int32) (qtz2 : Nat → Int32) (qpz2 : Nat → Int32) (qsz2 : Nat → Int32) (qfz2 : Nat → Int32) (qwz2 : Nat → Int32) (H : Heap) (locs : List Loc) (ls : Array Slot), (0 ≤ clz2 ∧ clz2 ≤ 6) → (k_bd 2 0 7 qpz2) → (0 ≤ fez2 ∧ fez2 ≤ 24) → (enz2 = 0 ∨ knz2 = 0 ∨ fez2 ≤ 23) → (0 ≤ knz2 ∧ knz2 ≤ 24) → ((6 - clz2.toInt).toNat = jz2) → va_P (dC, dI) vwCl [(kX12 hm vFo vSi vIt vMo la vBy vTy mi vMi pn vPs gn vGs fn vFt le vTo knz2 fez2 enz2 ca anz2 coz2 vPr vSt vFn sn vSg vAl dr), (kAI vMi cI 24 qMi), (kAI vPs cI 32 qwz2), (kAI vGs cI 16 qGs), (kAI vTo cI 96 qtz2), (kAI vPr cI 2 qpz2), (kAI vSt cI 2 qsz2), (kAI vFn cI 2 qfz2), (kAI vFt cI 32 qFt), (kAI vSg cI 16 qSg)] H → va_D A [(kX12 hm vFo vSi vIt vMo la vBy vTy mi vMi pn vPs gn vGs fn vFt le vTo knz2 fez2 enz2 ca anz2 coz2 vPr vSt vFn sn vSg vAl dr), (kAI vMi cI 24 qMi), (kAI vPs cI 32 qwz2), (kAI vGs cI 16 qGs), (kAI vTo cI 96 qtz2), (kAI vPr cI 2 qpz2), (kAI vSt cI 2 qsz2), (kAI vFn cI 2 qfz2), (kAI vFt cI 32 qFt), (kAI vSg cI 16 qSg)] → va_S A s₀.heap H locs → lv_has ls 5 [(4, .int clz2), (3, .int biz2), (2, .int y_1), (0, .ref hm), (1, .int p1)] → W p₀ l e₀ _ s₀ m₀ _ below meth c₀ H locs _ _ _ (F0 m₀ 16 ls [])) _ (0 : Int32) (0 : Int32) kn fe en an co _ _ _ _ _ H locs ls (show 0 ≤ (0 : Int32) ∧ (0 : Int32) ≤ 6 from ⟨(by decide), (by decide)⟩) (hh3) (hh4) (hh5) (hh6) rfl hP hD hS hl
  clear hP hD hS hl
  intro jz2
  induction jz2 using Nat.strongRecOn with
  | ind jz2 ihz2 =>
    intro biz2 clz2 knz2 fez2 enz2 anz2 coz2 qtz2 qpz2 qsz2 qfz2 qwz2 H locs ls hiz2_0 hiz2_1 hiz2_2 hiz2_3 hiz2_4 hjz2 hP hD hS hl
    refine lv_iload hx₀ hb dX12_soresOf_16 (lv_at hl 0 rfl) ?_
    refine lv_bipush (v := 6) hx₀ hb dX12_soresOf_18 (by decide +kernel) ?_
    refine lv_icmp_ge (tgt := 59) hx₀ hb dX12_soresOf_20 (by decide) (fun c_3 => ?_) (fun c_3 => ?_)
    · refine lv_aload_n hx₀ hb dX12_soresOf_59 rfl (lv_at hl 3 rfl) ?_
      refine va_get (D := (dC, dI)) (ci := 11) (v := .ref vPs) (C := RX12) (T := TX12) (N := 30) hx₀ hb hts inlX12 hown hK hP 0 rfl rfl 10 (by decide) (hts (.fieldLink RX12 31 "BittenStickModel" "passenger" "[I") wd_122) (fun _ h9 => h9) rfl dX12_soresOf_60 ?_
      refine lv_iconst (v := 4) hx₀ hb dX12_soresOf_63 (by decide +kernel) ?_
      refine lv_iload_n hx₀ hb dX12_soresOf_64 rfl (lv_at hl 4 rfl) ?_
      refine lv_imul hx₀ hb dX12_soresOf_65 ?_
      refine lv_iconst (v := 1) hx₀ hb dX12_soresOf_66 (by decide +kernel) ?_
      refine lv_iadd hx₀ hb dX12_soresOf_67 ?_
      refine lv_iload_n hx₀ hb dX12_soresOf_68 rfl (lv_at hl 2 rfl) ?_
      refine va_iast hx₀ hb hK hP hD hS 2 0 rfl rfl (vp_in_iff.mpr (lf_g_fliesTold_2 p1 hh9)) dX12_soresOf_69 ?_
      clear hP hD hS
      intro H locs hP hD hS
      obtain ⟨f_4, hf_4⟩ : ∃ z : Nat → Int32, z = upd qwz2 ((4 * p1) + 1).toNatClampNeg y_1 := ⟨_, rfl⟩
      replace hP : va_P (dC, dI) vwCl [(kX12 hm vFo vSi vIt vMo la vBy vTy mi vMi pn vPs gn vGs fn vFt le vTo knz2 fez2 enz2 ca anz2 coz2 vPr vSt vFn sn vSg vAl dr), (kAI vMi cI 24 qMi), (kAI vPs cI 32 f_4), (kAI vGs cI 16 qGs), (kAI vTo cI 96 qtz2), (kAI vPr cI 2 qpz2), (kAI vSt cI 2 qsz2), (kAI vFn cI 2 qfz2), (kAI vFt cI 32 qFt), (kAI vSg cI 16 qSg)] H := by rw [hf_4]; exact hP
      replace hD : va_D A [(kX12 hm vFo vSi vIt vMo la vBy vTy mi vMi pn vPs gn vGs fn vFt le vTo knz2 fez2 enz2 ca anz2 coz2 vPr vSt vFn sn vSg vAl dr), (kAI vMi cI 24 qMi), (kAI vPs cI 32 f_4), (kAI vGs cI 16 qGs), (kAI vTo cI 96 qtz2), (kAI vPr cI 2 qpz2), (kAI vSt cI 2 qsz2), (kAI vFn cI 2 qfz2), (kAI vFt cI 32 qFt), (kAI vSg cI 16 qSg)] := by rw [hf_4]; exact hD
      clear hf_4
      refine lv_iload_n hx₀ hb dX12_soresOf_70 rfl (lv_at hl 1 rfl) ?_
      obtain ⟨hP9, hD9⟩ := k_c2 (wc := [(kX12 hm vFo vSi vIt vMo la vBy vTy mi vMi pn vPs gn vGs fn vFt le vTo knz2 fez2 enz2 ca anz2 coz2 vPr vSt vFn sn vSg vAl dr), (kAI vMi cI 24 qMi), (kAI vPs cI 32 f_4), (kAI vGs cI 16 qGs), (kAI vTo cI 96 qtz2), (kAI vPr cI 2 qpz2), (kAI vSt cI 2 qsz2), (kAI vFn cI 2 qfz2), (kAI vFt cI 32 qFt), (kAI vSg cI 16 qSg)]) hP hD [0, 1, 2, 3, 4, 5, 6, 7, 8, 9] (by decide +kernel) rfl
      exact W.iret (v := biz2) hx₀ hb hr (fun t₀ ht hW => ⟨⟨biz2, (k_fn [knz2, fez2, enz2, anz2, coz2], k_fa [qtz2, qpz2, qsz2, qfz2, f_4], k_fl [], k_fL [], k_fp []), rfl, ⟨hiz2_1, hiz2_2, hiz2_3, hiz2_4⟩, by rw [ht]; exact hP9, va_K.moved hW.alike hK, hD9⟩, hS.F ht⟩) hS.2.2 dX12_soresOf_71
    · refine lv_aload_n hx₀ hb dX12_soresOf_23 rfl (lv_at hl 3 rfl) ?_
      refine va_get (D := (dC, dI)) (ci := 11) (v := .ref vPs) (C := RX12) (T := TX12) (N := 30) hx₀ hb hts inlX12 hown hK hP 0 rfl rfl 10 (by decide) (hts (.fieldLink RX12 31 "BittenStickModel" "passenger" "[I") wd_122) (fun _ h9 => h9) rfl dX12_soresOf_24 ?_
      refine lv_iconst (v := 4) hx₀ hb dX12_soresOf_27 (by decide +kernel) ?_
      refine lv_iload_n hx₀ hb dX12_soresOf_28 rfl (lv_at hl 4 rfl) ?_
      refine lv_imul hx₀ hb dX12_soresOf_29 ?_
      refine lv_iconst (v := 1) hx₀ hb dX12_soresOf_30 (by decide +kernel) ?_
      refine lv_iadd hx₀ hb dX12_soresOf_31 ?_
      refine lv_iload hx₀ hb dX12_soresOf_32 (lv_at hl 0 rfl) ?_
      refine va_iast hx₀ hb hK hP hD hS 2 0 rfl rfl (vp_in_iff.mpr (lf_g_fliesTold_2 p1 hh9)) dX12_soresOf_34 ?_
      clear hP hD hS
      intro H locs hP hD hS
      obtain ⟨f_5, hf_5⟩ : ∃ z : Nat → Int32, z = upd qwz2 ((4 * p1) + 1).toNatClampNeg clz2 := ⟨_, rfl⟩
      replace hP : va_P (dC, dI) vwCl [(kX12 hm vFo vSi vIt vMo la vBy vTy mi vMi pn vPs gn vGs fn vFt le vTo knz2 fez2 enz2 ca anz2 coz2 vPr vSt vFn sn vSg vAl dr), (kAI vMi cI 24 qMi), (kAI vPs cI 32 f_5), (kAI vGs cI 16 qGs), (kAI vTo cI 96 qtz2), (kAI vPr cI 2 qpz2), (kAI vSt cI 2 qsz2), (kAI vFn cI 2 qfz2), (kAI vFt cI 32 qFt), (kAI vSg cI 16 qSg)] H := by rw [hf_5]; exact hP
      replace hD : va_D A [(kX12 hm vFo vSi vIt vMo la vBy vTy mi vMi pn vPs gn vGs fn vFt le vTo knz2 fez2 enz2 ca anz2 coz2 vPr vSt vFn sn vSg vAl dr), (kAI vMi cI 24 qMi), (kAI vPs cI 32 f_5), (kAI vGs cI 16 qGs), (kAI vTo cI 96 qtz2), (kAI vPr cI 2 qpz2), (kAI vSt cI 2 qsz2), (kAI vFn cI 2 qfz2), (kAI vFt cI 32 qFt), (kAI vSg cI 16 qSg)] := by rw [hf_5]; exact hD
      clear hf_5
      refine lv_iload_n hx₀ hb dX12_soresOf_35 rfl (lv_at hl 1 rfl) ?_
      refine lv_aload_n hx₀ hb dX12_soresOf_36 rfl (lv_at hl 3 rfl) ?_
      obtain ⟨hPc, hDc, hFc, hC⟩ := k_cw (wc := [(kX12 hm vFo vSi vIt vMo la vBy vTy mi vMi pn vPs gn vGs fn vFt le vTo knz2 fez2 enz2 ca anz2 coz2 vPr vSt vFn sn vSg vAl dr), (kAI vMi cI 24 qMi), (kAI vPs cI 32 f_5), (kAI vGs cI 16 qGs), (kAI vTo cI 96 qtz2), (kAI vPr cI 2 qpz2), (kAI vSt cI 2 qsz2), (kAI vFn cI 2 qfz2), (kAI vFt cI 32 qFt), (kAI vSg cI 16 qSg)]) hP hD hS hA [0, 1, 2, 3, 4, 5, 6, 7, 8, 9] (by decide +kernel) rfl
      refine va_calli (va_runV (As := []) (rest := [.int biz2]) ⟨hx₀, hb, hml, hown, hts⟩ (g_isSeen l dC dI cI cJ cQ H.size hm vFo vSi vIt vMo la vBy vTy mi vMi pn vPs gn vGs fn vFt le vTo knz2 fez2 enz2 ca anz2 coz2 vPr vSt vFn sn vSg vAl dr qMi f_5 qGs qtz2 qpz2 qsz2 qfz2 qFt qSg (hh0) (hh1) (hh2) (hiz2_1) (hiz2_2) (hiz2_3) (hiz2_4) (hh7) (hh8)) (cwV 0 hts (kGV wd_725 wd_722 wd_723 wd_724 wd_5) rfl rfl rfl (by decide +kernel) ⟨Nat.le_of_ble_eq_true rfl, Nat.le_of_ble_eq_true rfl⟩) (k_preV11 (q0 := 0) hK hPc hDc hN rfl) rfl rfl hl.1 rfl (lv_room (Nat.le_of_ble_eq_true rfl)) dX12_soresOf_37 ⟨by decide +kernel, by decide +kernel⟩) hS (fun q _ h => hFc q h) hFc (fun r_6 u₀ t₀ H1 locs ht hvm hw hB hz1 hk1 hS => ?_)
      obtain ⟨g_7, ga_8, gl_9, gb_10, gp_11⟩ := u₀
      obtain ⟨hP1, hK1, hD1⟩ := hB
      rw [ht] at hP1
      have hJ := k_jn (wr := []) (wt := [(kX12 hm vFo vSi vIt vMo la vBy vTy mi vMi pn vPs gn vGs fn vFt le vTo (g_7 0) (g_7 1) (g_7 2) ca (g_7 3) (g_7 4) vPr vSt vFn sn vSg vAl dr), (kAI vMi cI 24 qMi), (kAI vPs cI 32 f_5), (kAI vGs cI 16 qGs), (kAI vTo cI 96 (ga_8 0)), (kAI vPr cI 2 (ga_8 1)), (kAI vSt cI 2 (ga_8 2)), (kAI vFn cI 2 (ga_8 3)), (kAI vFt cI 32 qFt), (kAI vSg cI 16 qSg)]) hP hD hC [] rfl (by decide +kernel) (by decide +kernel) hk1 hFc hP1 hD1 rfl
      clear hP hD hPc hDc hFc hC hP1 hD1 hK1 hz1 hk1 hvm ht
      obtain ⟨hP, hD⟩ := hJ
      generalize H1 = H at hP hS ⊢
      try dsimp only at hw
      obtain ⟨c_12, c_13, c_14, c_15, c_16⟩ := hw
      refine lv_if_eq (tgt := 50) hx₀ hb dX12_soresOf_40 (by decide) (fun c_17 => ?_) (fun c_17 => ?_)
      · refine lv_iconst (v := 0) hx₀ hb dX12_soresOf_50 (by decide +kernel) ?_
        refine lv_ior hx₀ hb dX12_soresOf_51 ?_
        refine lv_istore_n (lv' := [(3, .int (biz2 ||| 0)), (4, .int clz2), (2, .int y_1), (0, .ref hm), (1, .int p1)]) hx₀ hb dX12_soresOf_52 rfl hl (by decide) rfl (fun ls hl => ?_)
        refine lv_iinc (v := clz2 + 1) (lv' := [(4, .int (clz2 + 1)), (3, .int (biz2 ||| 0)), (2, .int y_1), (0, .ref hm), (1, .int p1)]) hx₀ hb dX12_soresOf_53 hl (k := 1) rfl rfl (by decide) rfl (fun ls hl => ?_)
        refine lv_goto (tgt := 16) hx₀ hb dX12_soresOf_56 (by decide) ?_
        exact ihz2 _ (lf_g_soresOf_2 clz2 jz2 hiz2_0 hjz2 c_3) (biz2 ||| 0) (clz2 + 1) (g_7 0) (g_7 1) (g_7 2) (g_7 3) (g_7 4) (ga_8 0) (ga_8 1) (ga_8 2) (ga_8 3) f_5 _ _ _ (lf_g_soresOf_1 clz2 jz2 hiz2_0 hjz2 c_3) (c_12) (c_13) (c_14) (c_15) rfl (hP.sub [0, 1, 2, 3, 4, 5, 6, 7, 8, 9] rfl) (hD.sub [0, 1, 2, 3, 4, 5, 6, 7, 8, 9] (by decide +kernel) rfl) hS (lv_sub hl [0, 1, 2, 3, 4] rfl)
      · refine lv_iconst (v := 1) hx₀ hb dX12_soresOf_43 (by decide +kernel) ?_
        refine lv_iload hx₀ hb dX12_soresOf_44 (lv_at hl 0 rfl) ?_
        refine lv_ishl hx₀ hb dX12_soresOf_46 ?_
        refine k_topi (v := kshl clz2) rfl ?_
        refine lv_goto (tgt := 51) hx₀ hb dX12_soresOf_47 (by decide) ?_
        refine lv_ior hx₀ hb dX12_soresOf_51 ?_
        refine lv_istore_n (lv' := [(3, .int (biz2 ||| (kshl clz2))), (4, .int clz2), (2, .int y_1), (0, .ref hm), (1, .int p1)]) hx₀ hb dX12_soresOf_52 rfl hl (by decide) rfl (fun ls hl => ?_)
        refine lv_iinc (v := clz2 + 1) (lv' := [(4, .int (clz2 + 1)), (3, .int (biz2 ||| (kshl clz2))), (2, .int y_1), (0, .ref hm), (1, .int p1)]) hx₀ hb dX12_soresOf_53 hl (k := 1) rfl rfl (by decide) rfl (fun ls hl => ?_)
        refine lv_goto (tgt := 16) hx₀ hb dX12_soresOf_56 (by decide) ?_
        exact ihz2 _ (lf_g_soresOf_2 clz2 jz2 hiz2_0 hjz2 c_3) (biz2 ||| (kshl clz2)) (clz2 + 1) (g_7 0) (g_7 1) (g_7 2) (g_7 3) (g_7 4) (ga_8 0) (ga_8 1) (ga_8 2) (ga_8 3) f_5 _ _ _ (lf_g_soresOf_1 clz2 jz2 hiz2_0 hjz2 c_3) (c_12) (c_13) (c_14) (c_15) rfl (hP.sub [0, 1, 2, 3, 4, 5, 6, 7, 8, 9] rfl) (hD.sub [0, 1, 2, 3, 4, 5, 6, 7, 8, 9] (by decide +kernel) rfl) hS (lv_sub hl [0, 1, 2, 3, 4] rfl)
theorem lf_g_highOf_1 (a0 : Int32) (a1 : Nat) (h0 : 1 ≤ a0 ∧ a0 ≤ 10) (h1 : (10 - a0.toInt).toNat = a1) (h2 : ¬ 10 ≤ a0) : 1 ≤ (a0 + 1) ∧ (a0 + 1) ≤ 10 := by
  first | rfl | assumption | decide | exact Or.inl rfl | (first | omega | (have hr0 := Int32.toInt_lt a0; have hs0 := Int32.le_toInt a0; simp only [Int64.toInt_add, Int64.toInt_sub, Int32.toInt_add, Int32.toInt_sub, Int32.toInt_mul, Int64.le_iff_toInt_le, Int64.lt_iff_toInt_lt, Int32.le_iff_toInt_le, Int32.lt_iff_toInt_lt, ← Int32.toInt_inj, ← Int64.toInt_inj, Int32.toInt_toInt64, kc_1, kc_10] at *; (first | omega | ((try simp (disch := omega) only [k_bm64] at *); (try simp (disch := omega) only [k_bm] at *); (try simp (disch := omega) only [k_bm] at *); omega) | (simp only [Int.bmod] at *; omega))))
theorem lf_g_highOf_2 (a0 : Int32) (a1 : Nat) (h0 : 1 ≤ a0 ∧ a0 ≤ 10) (h1 : (10 - a0.toInt).toNat = a1) (h2 : ¬ 10 ≤ a0) : (10 - (a0 + 1).toInt).toNat < a1 := by
  first | rfl | assumption | decide | exact Or.inl rfl | (first | omega | (have hr0 := Int32.toInt_lt a0; have hs0 := Int32.le_toInt a0; simp only [Int64.toInt_add, Int64.toInt_sub, Int32.toInt_add, Int32.toInt_sub, Int32.toInt_mul, Int64.le_iff_toInt_le, Int64.lt_iff_toInt_lt, Int32.le_iff_toInt_le, Int32.lt_iff_toInt_lt, ← Int32.toInt_inj, ← Int64.toInt_inj, Int32.toInt_toInt64, kc_1, kc_10] at *; (first | omega | ((try simp (disch := omega) only [k_bm64] at *); (try simp (disch := omega) only [k_bm] at *); (try simp (disch := omega) only [k_bm] at *); omega) | (simp only [Int.bmod] at *; omega))))
set_option maxHeartbeats 4000000 in
set_option maxRecDepth 100000 in
theorem g_highOf (l : Launch) (dC : Nat → ClassId) (dI : Nat → Nat → Nat) (cI cJ cQ : ClassId) (sz : Nat) (hm : Nat) (f1 : Int32) (vFo : Nat) (vSi : Nat) (vIt : Nat) (vMo : Nat) (la : Int32) (vBy : Nat) (vTy : Nat) (mi : Int32) (vMi : Nat) (pn : Int32) (vPs : Nat) (gn : Int32) (vGs : Nat) (fn : Int32) (vFt : Nat) (le : Int32) (vTo : Nat) (kn : Int32) (fe : Int32) (en : Int32) (ca : Int32) (an : Int32) (co : Int32) (vPr : Nat) (vSt : Nat) (vFn : Nat) (sn : Int32) (vSg : Nat) (vAl : Nat) (dr : Int32) (qMi : Nat → Int32) (qPs : Nat → Int32) (qGs : Nat → Int32) (qTo : Nat → Int32) (qPr : Nat → Int32) (qSt : Nat → Int32) (qFn : Nat → Int32) (qFt : Nat → Int32) (qSg : Nat → Int32) (hh0 : 0 ≤ mi ∧ mi ≤ 24) (hh1 : 0 ≤ pn ∧ pn ≤ 8) (hh2 : 0 ≤ gn ∧ gn ≤ 8) (hh3 : k_bd 2 0 7 qPr) (hh4 : 0 ≤ fe ∧ fe ≤ 24) (hh5 : en = 0 ∨ kn = 0 ∨ fe ≤ 23) (hh6 : 0 ≤ kn ∧ kn ≤ 24) (hh7 : 0 ≤ fn ∧ fn ≤ 8) (hh8 : 0 ≤ sn ∧ sn ≤ 8) (hh9 : 0 ≤ f1 ∧ f1 ≤ 7) : Met l yX12_highOf (kW yX12_highOf cX12_highOf 5 (some .int)) { frames := 6, cells := 0, slots := 0, locals := 143 } (kPre dC dI cI cJ cQ sz [.ref hm, .int f1] [(kX12 hm vFo vSi vIt vMo la vBy vTy mi vMi pn vPs gn vGs fn vFt le vTo kn fe en ca an co vPr vSt vFn sn vSg vAl dr), (kAI vMi cI 24 qMi), (kAI vPs cI 32 qPs), (kAI vGs cI 16 qGs), (kAI vTo cI 96 qTo), (kAI vPr cI 2 qPr), (kAI vSt cI 2 qSt), (kAI vFn cI 2 qFn), (kAI vFt cI 32 qFt), (kAI vSg cI 16 qSg)]) (va_Qi (fun (r : Int32) (u : kS) => (k_bd 2 0 7 (u.2.1 1)) ∧ (0 ≤ (u.1 1) ∧ (u.1 1) ≤ 24) ∧ ((u.1 2) = 0 ∨ (u.1 0) = 0 ∨ (u.1 1) ≤ 23) ∧ (0 ≤ (u.1 0) ∧ (u.1 0) ≤ 24) ∧ ((u.2.1 4) = qFt)) (fun (u : kS) t₀ => kB dC dI cI cJ cQ (va_A [(kX12 hm vFo vSi vIt vMo la vBy vTy mi vMi pn vPs gn vGs fn vFt le vTo kn fe en ca an co vPr vSt vFn sn vSg vAl dr), (kAI vMi cI 24 qMi), (kAI vPs cI 32 qPs), (kAI vGs cI 16 qGs), (kAI vTo cI 96 qTo), (kAI vPr cI 2 qPr), (kAI vSt cI 2 qSt), (kAI vFn cI 2 qFn), (kAI vFt cI 32 qFt), (kAI vSg cI 16 qSg)] sz) [(kX12 hm vFo vSi vIt vMo la vBy vTy mi vMi pn vPs gn vGs fn vFt le vTo (u.1 0) (u.1 1) (u.1 2) ca (u.1 3) (u.1 4) vPr vSt vFn sn vSg vAl dr), (kAI vMi cI 24 qMi), (kAI vPs cI 32 qPs), (kAI vGs cI 16 qGs), (kAI vTo cI 96 (u.2.1 0)), (kAI vPr cI 2 (u.2.1 1)), (kAI vSt cI 2 (u.2.1 2)), (kAI vFn cI 2 (u.2.1 3)), (kAI vFt cI 32 (u.2.1 4)), (kAI vSg cI 16 qSg)] t₀) (va_A [(kX12 hm vFo vSi vIt vMo la vBy vTy mi vMi pn vPs gn vGs fn vFt le vTo kn fe en ca an co vPr vSt vFn sn vSg vAl dr), (kAI vMi cI 24 qMi), (kAI vPs cI 32 qPs), (kAI vGs cI 16 qGs), (kAI vTo cI 96 qTo), (kAI vPr cI 2 qPr), (kAI vSt cI 2 qSt), (kAI vFn cI 2 qFn), (kAI vFt cI 32 qFt), (kAI vSg cI 16 qSg)] sz)) 0 0 (va_A [(kX12 hm vFo vSi vIt vMo la vBy vTy mi vMi pn vPs gn vGs fn vFt le vTo kn fe en ca an co vPr vSt vFn sn vSg vAl dr), (kAI vMi cI 24 qMi), (kAI vPs cI 32 qPs), (kAI vGs cI 16 qGs), (kAI vTo cI 96 qTo), (kAI vPr cI 2 qPr), (kAI vSt cI 2 qSt), (kAI vFn cI 2 qFn), (kAI vFt cI 32 qFt), (kAI vSg cI 16 qSg)] sz) := by
  refine Met.ofW (cc := cX12_highOf) (maxL := 5) (ret := (some .int)) (by decide) rfl ?_
  intro p₀ e₀ s₀ m₀ args below meth c₀ s₁ B hml hv₀
  obtain ⟨rfl, hsz, hP, hK, hD0, hN⟩ := hv₀
  have hx₀ := B.exec
  have hb := B.bytes
  have hr := B.returns
  have hts := atoms_spec (ws := (kW yX12_highOf cX12_highOf 5 (some .int))) B.pre
  have hts := fun w h => hts w (List.mem_cons_of_mem _ h)
  have hown : s₀.vm.findClass RX12 = some m₀.cls := findClass_of_methodNamed B.named
  have hlocks := B.notSynchronized
  subst hsz
  have hD := hD0.self (sz := s₀.heap.size)
  generalize hAe : va_A [(kX12 hm vFo vSi vIt vMo la vBy vTy mi vMi pn vPs gn vGs fn vFt le vTo kn fe en ca an co vPr vSt vFn sn vSg vAl dr), (kAI vMi cI 24 qMi), (kAI vPs cI 32 qPs), (kAI vGs cI 16 qGs), (kAI vTo cI 96 qTo), (kAI vPr cI 2 qPr), (kAI vSt cI 2 qSt), (kAI vFn cI 2 qFn), (kAI vFt cI 32 qFt), (kAI vSg cI 16 qSg)] s₀.heap.size = A at hD ⊢
  have hA : ∀ q : Nat, s₀.heap.size ≤ q → A q := fun q h => by rw [← hAe]; exact Or.inr h
  have hS : va_S A s₀.heap s₀.heap [] := va_S.rf
  have hP : va_P (dC, dI) vwCl [(kX12 hm vFo vSi vIt vMo la vBy vTy mi vMi pn vPs gn vGs fn vFt le vTo kn fe en ca an co vPr vSt vFn sn vSg vAl dr), (kAI vMi cI 24 qMi), (kAI vPs cI 32 qPs), (kAI vGs cI 16 qGs), (kAI vTo cI 96 qTo), (kAI vPr cI 2 qPr), (kAI vSt cI 2 qSt), (kAI vFn cI 2 qFn), (kAI vFt cI 32 qFt), (kAI vSg cI 16 qSg)] s₀.heap := hP
  have hl := lv_entry ([.ref hm, .int f1]) (n := 5) (Nat.le_of_ble_eq_true rfl)
  rw [lg_entry_eq]
  generalize (lg_sl ([.ref hm, .int f1]) ++ List.replicate (5 - (lg_sl ([.ref hm, .int f1])).length) Slot.unset).toArray = ls at hl ⊢
  have hl : lv_has ls 5 [(0, .ref hm), (1, .int f1)] := hl
  obtain ⟨H, hH⟩ : ∃ z : Heap, z = s₀.heap := ⟨_, rfl⟩
  rw [← hH] at hP
  have hS : va_S A s₀.heap H [] := by rw [hH]; exact hS
  refine k_heap hH ?_
  have hD : va_D A [(kX12 hm vFo vSi vIt vMo la vBy vTy mi vMi pn vPs gn vGs fn vFt le vTo kn fe en ca an co vPr vSt vFn sn vSg vAl dr), (kAI vMi cI 24 qMi), (kAI vPs cI 32 qPs), (kAI vGs cI 16 qGs), (kAI vTo cI 96 qTo), (kAI vPr cI 2 qPr), (kAI vSt cI 2 qSt), (kAI vFn cI 2 qFn), (kAI vFt cI 32 qFt), (kAI vSg cI 16 qSg)] := hD
  obtain ⟨locs, hlo⟩ : ∃ z : List Loc, z = [] := ⟨_, rfl⟩
  rw [← hlo] at hS ⊢
  clear hlo hH hAe hD0
  refine lv_aload_n hx₀ hb dX12_highOf_0 rfl (lv_at hl 0 rfl) ?_
  refine va_get (D := (dC, dI)) (ci := 11) (v := .ref vFt) (C := RX12) (T := TX12) (N := 30) hx₀ hb hts inlX12 hown hK hP 0 rfl rfl 14 (by decide) (hts (.fieldLink RX12 37 "BittenStickModel" "flight" "[I") wd_124) (fun _ h9 => h9) rfl dX12_highOf_1 ?_
  refine lv_iconst (v := 4) hx₀ hb dX12_highOf_4 (by decide +kernel) ?_
  refine lv_iload_n hx₀ hb dX12_highOf_5 rfl (lv_at hl 1 rfl) ?_
  refine lv_imul hx₀ hb dX12_highOf_6 ?_
  refine lv_iconst (v := 3) hx₀ hb dX12_highOf_7 (by decide +kernel) ?_
  refine lv_iadd hx₀ hb dX12_highOf_8 ?_
  refine va_iald hx₀ hb hK hP 8 0 rfl rfl (vp_in_iff.mpr (lf_g_goes_2 f1 hh9)) dX12_highOf_9 ?_
  refine lv_istore_n (lv' := [(2, .int (qFt ((4 * f1) + 3).toNatClampNeg)), (0, .ref hm), (1, .int f1)]) hx₀ hb dX12_highOf_10 rfl hl (by decide) rfl (fun ls hl => ?_)
  refine lv_iconst (v := 0) hx₀ hb dX12_highOf_11 (by decide +kernel) ?_
  refine lv_istore_n (lv' := [(3, .int 0), (2, .int (qFt ((4 * f1) + 3).toNatClampNeg)), (0, .ref hm), (1, .int f1)]) hx₀ hb dX12_highOf_12 rfl hl (by decide) rfl (fun ls hl => ?_)
  refine lv_iconst (v := 1) hx₀ hb dX12_highOf_13 (by decide +kernel) ?_
  refine lv_istore (lv' := [(4, .int 1), (3, .int 0), (2, .int (qFt ((4 * f1) + 3).toNatClampNeg)), (0, .ref hm), (1, .int f1)]) hx₀ hb dX12_highOf_14 hl (by decide) rfl (fun ls hl => ?_)
  refine (?keyz1 : ∀ (jz1 : Nat) (biz1 : Int32) (vz1 : Int32) (knz1 : Int32) (fez1 : Int32) (enz1 : Int32) (anz1 : Int32) (coz1 : Int32) (qtz1 : Nat → Int32) (qpz1 : Nat → Int32) (qsz1 : Nat → Int32) (qfz1 : Nat → Int32) (qwz1 : Nat → Int32) (H : Heap) (locs : List Loc) (ls : Array Slot), (1 ≤ vz1 ∧ vz1 ≤ 10) → (k_of qFt qwz1 ((4 * f1) + 3)) → (k_bd 2 0 7 qpz1) → (0 ≤ fez1 ∧ fez1 ≤ 24) → (enz1 = 0 ∨ knz1 = 0 ∨ fez1 ≤ 23) → (0 ≤ knz1 ∧ knz1 ≤ 24) → ((10 - vz1.toInt).toNat = jz1) → va_P (dC, dI) vwCl [(kX12 hm vFo vSi vIt vMo la vBy vTy mi vMi pn vPs gn vGs fn vFt le vTo knz1 fez1 enz1 ca anz1 coz1 vPr vSt vFn sn vSg vAl dr), (kAI vMi cI 24 qMi), (kAI vPs cI 32 qPs), (kAI vGs cI 16 qGs), (kAI vTo cI 96 qtz1), (kAI vPr cI 2 qpz1), (kAI vSt cI 2 qsz1), (kAI vFn cI 2 qfz1), (kAI vFt cI 32 qwz1), (kAI vSg cI 16 qSg)] H → va_D A [(kX12 hm vFo vSi vIt vMo la vBy vTy mi vMi pn vPs gn vGs fn vFt le vTo knz1 fez1 enz1 ca anz1 coz1 vPr vSt vFn sn vSg vAl dr), (kAI vMi cI 24 qMi), (kAI vPs cI 32 qPs), (kAI vGs cI 16 qGs), (kAI vTo cI 96 qtz1), (kAI vPr cI 2 qpz1), (kAI vSt cI 2 qsz1), (kAI vFn cI 2 qfz1), (kAI vFt cI 32 qwz1), (kAI vSg cI 16 qSg)] → va_S A s₀.heap H locs → lv_has ls 5 [(4, .int vz1), (3, .int biz1), (2, .int (qFt ((4 * f1) + 3).toNatClampNeg)), (0, .ref hm), (1, .int f1)] → W p₀ l e₀ _ s₀ m₀ _ below meth c₀ H locs _ _ _ (F0 m₀ 16 ls [])) _ (0 : Int32) (1 : Int32) kn fe en an co _ _ _ _ _ H locs ls (show 1 ≤ (1 : Int32) ∧ (1 : Int32) ≤ 10 from ⟨(by decide), (by decide)⟩) (k_of_0) (hh3) (hh4) (hh5) (hh6) rfl hP hD hS hl
  clear hP hD hS hl
  intro jz1
  induction jz1 using Nat.strongRecOn with
  | ind jz1 ihz1 =>
    intro biz1 vz1 knz1 fez1 enz1 anz1 coz1 qtz1 qpz1 qsz1 qfz1 qwz1 H locs ls hiz1_0 hiz1_1 hiz1_2 hiz1_3 hiz1_4 hiz1_5 hjz1 hP hD hS hl
    refine lv_iload hx₀ hb dX12_highOf_16 (lv_at hl 0 rfl) ?_
    refine lv_bipush (v := 10) hx₀ hb dX12_highOf_18 (by decide +kernel) ?_
    refine lv_icmp_ge (tgt := 59) hx₀ hb dX12_highOf_20 (by decide) (fun c_2 => ?_) (fun c_2 => ?_)
    · refine lv_aload_n hx₀ hb dX12_highOf_59 rfl (lv_at hl 3 rfl) ?_
      refine va_get (D := (dC, dI)) (ci := 11) (v := .ref vFt) (C := RX12) (T := TX12) (N := 30) hx₀ hb hts inlX12 hown hK hP 0 rfl rfl 14 (by decide) (hts (.fieldLink RX12 37 "BittenStickModel" "flight" "[I") wd_124) (fun _ h9 => h9) rfl dX12_highOf_60 ?_
      refine lv_iconst (v := 4) hx₀ hb dX12_highOf_63 (by decide +kernel) ?_
      refine lv_iload_n hx₀ hb dX12_highOf_64 rfl (lv_at hl 4 rfl) ?_
      refine lv_imul hx₀ hb dX12_highOf_65 ?_
      refine lv_iconst (v := 3) hx₀ hb dX12_highOf_66 (by decide +kernel) ?_
      refine lv_iadd hx₀ hb dX12_highOf_67 ?_
      refine lv_iload_n hx₀ hb dX12_highOf_68 rfl (lv_at hl 2 rfl) ?_
      refine va_iast hx₀ hb hK hP hD hS 8 0 rfl rfl (vp_in_iff.mpr (lf_g_goes_2 f1 hh9)) dX12_highOf_69 ?_
      clear hP hD hS
      intro H locs hP hD hS
      replace hP := k_w2 (wt := [(kX12 hm vFo vSi vIt vMo la vBy vTy mi vMi pn vPs gn vGs fn vFt le vTo knz1 fez1 enz1 ca anz1 coz1 vPr vSt vFn sn vSg vAl dr), (kAI vMi cI 24 qMi), (kAI vPs cI 32 qPs), (kAI vGs cI 16 qGs), (kAI vTo cI 96 qtz1), (kAI vPr cI 2 qpz1), (kAI vSt cI 2 qsz1), (kAI vFn cI 2 qfz1), (kAI vFt cI 32 (upd qwz1 ((4 * f1) + 3).toNatClampNeg (qFt ((4 * f1) + 3).toNatClampNeg))), (kAI vSg cI 16 qSg)]) hP hD rfl
      replace hD := hP.2
      replace hP := hP.1
      refine lv_iload_n hx₀ hb dX12_highOf_70 rfl (lv_at hl 1 rfl) ?_
      obtain ⟨hP9, hD9⟩ := k_c2 (wc := [(kX12 hm vFo vSi vIt vMo la vBy vTy mi vMi pn vPs gn vGs fn vFt le vTo knz1 fez1 enz1 ca anz1 coz1 vPr vSt vFn sn vSg vAl dr), (kAI vMi cI 24 qMi), (kAI vPs cI 32 qPs), (kAI vGs cI 16 qGs), (kAI vTo cI 96 qtz1), (kAI vPr cI 2 qpz1), (kAI vSt cI 2 qsz1), (kAI vFn cI 2 qfz1), (kAI vFt cI 32 (upd qwz1 ((4 * f1) + 3).toNatClampNeg (qFt ((4 * f1) + 3).toNatClampNeg))), (kAI vSg cI 16 qSg)]) hP hD [0, 1, 2, 3, 4, 5, 6, 7, 8, 9] (by decide +kernel) rfl
      exact W.iret (v := biz1) hx₀ hb hr (fun t₀ ht hW => ⟨⟨biz1, (k_fn [knz1, fez1, enz1, anz1, coz1], k_fa [qtz1, qpz1, qsz1, qfz1, upd qwz1 ((4 * f1) + 3).toNatClampNeg (qFt ((4 * f1) + 3).toNatClampNeg)], k_fl [], k_fL [], k_fp []), rfl, ⟨hiz1_2, hiz1_3, hiz1_4, hiz1_5, (k_of_e hiz1_1)⟩, by rw [ht]; exact hP9, va_K.moved hW.alike hK, hD9⟩, hS.F ht⟩) hS.2.2 dX12_highOf_71
    · refine lv_aload_n hx₀ hb dX12_highOf_23 rfl (lv_at hl 3 rfl) ?_
      refine va_get (D := (dC, dI)) (ci := 11) (v := .ref vFt) (C := RX12) (T := TX12) (N := 30) hx₀ hb hts inlX12 hown hK hP 0 rfl rfl 14 (by decide) (hts (.fieldLink RX12 37 "BittenStickModel" "flight" "[I") wd_124) (fun _ h9 => h9) rfl dX12_highOf_24 ?_
      refine lv_iconst (v := 4) hx₀ hb dX12_highOf_27 (by decide +kernel) ?_
      refine lv_iload_n hx₀ hb dX12_highOf_28 rfl (lv_at hl 4 rfl) ?_
      refine lv_imul hx₀ hb dX12_highOf_29 ?_
      refine lv_iconst (v := 3) hx₀ hb dX12_highOf_30 (by decide +kernel) ?_
      refine lv_iadd hx₀ hb dX12_highOf_31 ?_
      refine lv_iload hx₀ hb dX12_highOf_32 (lv_at hl 0 rfl) ?_
      refine va_iast hx₀ hb hK hP hD hS 8 0 rfl rfl (vp_in_iff.mpr (lf_g_goes_2 f1 hh9)) dX12_highOf_34 ?_
      clear hP hD hS
      intro H locs hP hD hS
      replace hP := k_w2 (wt := [(kX12 hm vFo vSi vIt vMo la vBy vTy mi vMi pn vPs gn vGs fn vFt le vTo knz1 fez1 enz1 ca anz1 coz1 vPr vSt vFn sn vSg vAl dr), (kAI vMi cI 24 qMi), (kAI vPs cI 32 qPs), (kAI vGs cI 16 qGs), (kAI vTo cI 96 qtz1), (kAI vPr cI 2 qpz1), (kAI vSt cI 2 qsz1), (kAI vFn cI 2 qfz1), (kAI vFt cI 32 (upd qwz1 ((4 * f1) + 3).toNatClampNeg vz1)), (kAI vSg cI 16 qSg)]) hP hD rfl
      replace hD := hP.2
      replace hP := hP.1
      refine lv_iload_n hx₀ hb dX12_highOf_35 rfl (lv_at hl 1 rfl) ?_
      refine lv_aload_n hx₀ hb dX12_highOf_36 rfl (lv_at hl 3 rfl) ?_
      obtain ⟨hPc, hDc, hFc, hC⟩ := k_cw (wc := [(kX12 hm vFo vSi vIt vMo la vBy vTy mi vMi pn vPs gn vGs fn vFt le vTo knz1 fez1 enz1 ca anz1 coz1 vPr vSt vFn sn vSg vAl dr), (kAI vMi cI 24 qMi), (kAI vPs cI 32 qPs), (kAI vGs cI 16 qGs), (kAI vTo cI 96 qtz1), (kAI vPr cI 2 qpz1), (kAI vSt cI 2 qsz1), (kAI vFn cI 2 qfz1), (kAI vFt cI 32 (upd qwz1 ((4 * f1) + 3).toNatClampNeg vz1)), (kAI vSg cI 16 qSg)]) hP hD hS hA [0, 1, 2, 3, 4, 5, 6, 7, 8, 9] (by decide +kernel) rfl
      refine va_calli (va_runV (As := []) (rest := [.int biz1]) ⟨hx₀, hb, hml, hown, hts⟩ (g_isSeen l dC dI cI cJ cQ H.size hm vFo vSi vIt vMo la vBy vTy mi vMi pn vPs gn vGs fn vFt le vTo knz1 fez1 enz1 ca anz1 coz1 vPr vSt vFn sn vSg vAl dr qMi qPs qGs qtz1 qpz1 qsz1 qfz1 (upd qwz1 ((4 * f1) + 3).toNatClampNeg vz1) qSg (hh0) (hh1) (hh2) (hiz1_2) (hiz1_3) (hiz1_4) (hiz1_5) (hh7) (hh8)) (cwV 0 hts (kGV wd_725 wd_722 wd_723 wd_724 wd_5) rfl rfl rfl (by decide +kernel) ⟨Nat.le_of_ble_eq_true rfl, Nat.le_of_ble_eq_true rfl⟩) (k_preV11 (q0 := 0) hK hPc hDc hN rfl) rfl rfl hl.1 rfl (lv_room (Nat.le_of_ble_eq_true rfl)) dX12_highOf_37 ⟨by decide +kernel, by decide +kernel⟩) hS (fun q _ h => hFc q h) hFc (fun r_3 u₀ t₀ H1 locs ht hvm hw hB hz1 hk1 hS => ?_)
      obtain ⟨g_4, ga_5, gl_6, gb_7, gp_8⟩ := u₀
      obtain ⟨hP1, hK1, hD1⟩ := hB
      rw [ht] at hP1
      have hJ := k_jn (wr := []) (wt := [(kX12 hm vFo vSi vIt vMo la vBy vTy mi vMi pn vPs gn vGs fn vFt le vTo (g_4 0) (g_4 1) (g_4 2) ca (g_4 3) (g_4 4) vPr vSt vFn sn vSg vAl dr), (kAI vMi cI 24 qMi), (kAI vPs cI 32 qPs), (kAI vGs cI 16 qGs), (kAI vTo cI 96 (ga_5 0)), (kAI vPr cI 2 (ga_5 1)), (kAI vSt cI 2 (ga_5 2)), (kAI vFn cI 2 (ga_5 3)), (kAI vFt cI 32 (upd qwz1 ((4 * f1) + 3).toNatClampNeg vz1)), (kAI vSg cI 16 qSg)]) hP hD hC [] rfl (by decide +kernel) (by decide +kernel) hk1 hFc hP1 hD1 rfl
      clear hP hD hPc hDc hFc hC hP1 hD1 hK1 hz1 hk1 hvm ht
      obtain ⟨hP, hD⟩ := hJ
      generalize H1 = H at hP hS ⊢
      try dsimp only at hw
      obtain ⟨c_9, c_10, c_11, c_12, c_13⟩ := hw
      refine lv_if_eq (tgt := 50) hx₀ hb dX12_highOf_40 (by decide) (fun c_14 => ?_) (fun c_14 => ?_)
      · refine lv_iconst (v := 0) hx₀ hb dX12_highOf_50 (by decide +kernel) ?_
        refine lv_ior hx₀ hb dX12_highOf_51 ?_
        refine lv_istore_n (lv' := [(3, .int (biz1 ||| 0)), (4, .int vz1), (2, .int (qFt ((4 * f1) + 3).toNatClampNeg)), (0, .ref hm), (1, .int f1)]) hx₀ hb dX12_highOf_52 rfl hl (by decide) rfl (fun ls hl => ?_)
        refine lv_iinc (v := vz1 + 1) (lv' := [(4, .int (vz1 + 1)), (3, .int (biz1 ||| 0)), (2, .int (qFt ((4 * f1) + 3).toNatClampNeg)), (0, .ref hm), (1, .int f1)]) hx₀ hb dX12_highOf_53 hl (k := 1) rfl rfl (by decide) rfl (fun ls hl => ?_)
        refine lv_goto (tgt := 16) hx₀ hb dX12_highOf_56 (by decide) ?_
        exact ihz1 _ (lf_g_highOf_2 vz1 jz1 hiz1_0 hjz1 c_2) (biz1 ||| 0) (vz1 + 1) (g_4 0) (g_4 1) (g_4 2) (g_4 3) (g_4 4) (ga_5 0) (ga_5 1) (ga_5 2) (ga_5 3) (upd qwz1 ((4 * f1) + 3).toNatClampNeg vz1) _ _ _ (lf_g_highOf_1 vz1 jz1 hiz1_0 hjz1 c_2) (k_of_s hiz1_1) (c_9) (c_10) (c_11) (c_12) rfl (hP.sub [0, 1, 2, 3, 4, 5, 6, 7, 8, 9] rfl) (hD.sub [0, 1, 2, 3, 4, 5, 6, 7, 8, 9] (by decide +kernel) rfl) hS (lv_sub hl [0, 1, 2, 3, 4] rfl)
      · refine lv_iconst (v := 1) hx₀ hb dX12_highOf_43 (by decide +kernel) ?_
        refine lv_iload hx₀ hb dX12_highOf_44 (lv_at hl 0 rfl) ?_
        refine lv_ishl hx₀ hb dX12_highOf_46 ?_
        refine k_topi (v := kshl vz1) rfl ?_
        refine lv_goto (tgt := 51) hx₀ hb dX12_highOf_47 (by decide) ?_
        refine lv_ior hx₀ hb dX12_highOf_51 ?_
        refine lv_istore_n (lv' := [(3, .int (biz1 ||| (kshl vz1))), (4, .int vz1), (2, .int (qFt ((4 * f1) + 3).toNatClampNeg)), (0, .ref hm), (1, .int f1)]) hx₀ hb dX12_highOf_52 rfl hl (by decide) rfl (fun ls hl => ?_)
        refine lv_iinc (v := vz1 + 1) (lv' := [(4, .int (vz1 + 1)), (3, .int (biz1 ||| (kshl vz1))), (2, .int (qFt ((4 * f1) + 3).toNatClampNeg)), (0, .ref hm), (1, .int f1)]) hx₀ hb dX12_highOf_53 hl (k := 1) rfl rfl (by decide) rfl (fun ls hl => ?_)
        refine lv_goto (tgt := 16) hx₀ hb dX12_highOf_56 (by decide) ?_
        exact ihz1 _ (lf_g_highOf_2 vz1 jz1 hiz1_0 hjz1 c_2) (biz1 ||| (kshl vz1)) (vz1 + 1) (g_4 0) (g_4 1) (g_4 2) (g_4 3) (g_4 4) (ga_5 0) (ga_5 1) (ga_5 2) (ga_5 3) (upd qwz1 ((4 * f1) + 3).toNatClampNeg vz1) _ _ _ (lf_g_highOf_1 vz1 jz1 hiz1_0 hjz1 c_2) (k_of_s hiz1_1) (c_9) (c_10) (c_11) (c_12) rfl (hP.sub [0, 1, 2, 3, 4, 5, 6, 7, 8, 9] rfl) (hD.sub [0, 1, 2, 3, 4, 5, 6, 7, 8, 9] (by decide +kernel) rfl) hS (lv_sub hl [0, 1, 2, 3, 4] rfl)
