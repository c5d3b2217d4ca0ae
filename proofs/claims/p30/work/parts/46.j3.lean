set_option maxHeartbeats 4000000 in
set_option maxRecDepth 100000 in
theorem j_isTown (l : Launch) (dC : Nat → ClassId) (dI : Nat → Nat → Nat) (cI cJ cQ : ClassId) (sz : Nat) (aLa : Nat) (k1 : Int32) (vLa : Nat) (l4 : Int32) (a4 : Int32) (n4 : Int32) (f4 : Nat → Int32) : Met l yX4_isTown (kW yX4_isTown cX4_isTown 2 (some .boolean)) { frames := 1, cells := 0, slots := 0, locals := 21 } (kPre dC dI cI cJ cQ sz [.ref aLa, .int k1] [(kX4 aLa vLa l4 a4 n4), (kAI vLa cI 24 f4)]) (va_Qi (fun (r : Int32) (u : Unit) => True) (fun (u : Unit) t₀ => kB dC dI cI cJ cQ (va_A [(kX4 aLa vLa l4 a4 n4), (kAI vLa cI 24 f4)] sz) [(kX4 aLa vLa l4 a4 n4), (kAI vLa cI 24 f4)] t₀) (va_A [(kX4 aLa vLa l4 a4 n4), (kAI vLa cI 24 f4)] sz)) 0 0 (va_A [(kX4 aLa vLa l4 a4 n4), (kAI vLa cI 24 f4)] sz) := by
  refine Met.ofW (cc := cX4_isTown) (maxL := 2) (ret := (some .boolean)) (by decide) rfl ?_
  intro p₀ e₀ s₀ m₀ args below meth c₀ s₁ B hml hv₀
  obtain ⟨rfl, hsz, hP, hK, hD0, hN⟩ := hv₀
  have hx₀ := B.exec
  have hb := B.bytes
  have hr := B.returns
  have hts := atoms_spec (ws := (kW yX4_isTown cX4_isTown 2 (some .boolean))) B.pre
  have hts := fun w h => hts w (List.mem_cons_of_mem _ h)
  have hown : s₀.vm.findClass RX4 = some m₀.cls := findClass_of_methodNamed B.named
  have hlocks := B.notSynchronized
  subst hsz
  have hD := hD0.self (sz := s₀.heap.size)
  generalize hAe : va_A [(kX4 aLa vLa l4 a4 n4), (kAI vLa cI 24 f4)] s₀.heap.size = A at hD ⊢
  have hA : ∀ q : Nat, s₀.heap.size ≤ q → A q := fun q h => by rw [← hAe]; exact Or.inr h
  have hS : va_S A s₀.heap s₀.heap [] := va_S.rf
  have hP : va_P (dC, dI) vwCl [(kX4 aLa vLa l4 a4 n4), (kAI vLa cI 24 f4)] s₀.heap := hP
  have hl := lv_entry ([.ref aLa, .int k1]) (n := 2) (Nat.le_of_ble_eq_true rfl)
  rw [lg_entry_eq]
  generalize (lg_sl ([.ref aLa, .int k1]) ++ List.replicate (2 - (lg_sl ([.ref aLa, .int k1])).length) Slot.unset).toArray = ls at hl ⊢
  have hl : lv_has ls 2 [(0, .ref aLa), (1, .int k1)] := hl
  obtain ⟨H, hH⟩ : ∃ z : Heap, z = s₀.heap := ⟨_, rfl⟩
  rw [← hH] at hP
  have hS : va_S A s₀.heap H [] := by rw [hH]; exact hS
  refine k_heap hH ?_
  have hD : va_D A [(kX4 aLa vLa l4 a4 n4), (kAI vLa cI 24 f4)] := hD
  obtain ⟨locs, hlo⟩ : ∃ z : List Loc, z = [] := ⟨_, rfl⟩
  rw [← hlo] at hS ⊢
  clear hlo hH hAe hD0
  refine lv_aload_n hx₀ hb dX4_isTown_0 rfl (lv_at hl 0 rfl) ?_
  refine lv_iload_n hx₀ hb dX4_isTown_1 rfl (lv_at hl 1 rfl) ?_
  obtain ⟨hPc, hDc, hFc, hC⟩ := k_cw (wc := [(kX4 aLa vLa l4 a4 n4)]) hP hD hS hA [0] (by decide +kernel) rfl
  refine va_calli (va_runU (As := [.int k1]) (rest := []) ⟨hx₀, hb, hml, hown, hts⟩ (j_has_X4 l dC dI cI cJ cQ H.size aLa k1 vLa l4 a4 n4) (va_cwU 1 hts (kGU wd_307 wd_517 wd_518 wd_519 wd_306 wd_57) rfl rfl rfl rfl (by decide +kernel) ⟨Nat.le_of_ble_eq_true rfl, Nat.le_of_ble_eq_true rfl⟩) (k_preV4 (q0 := 0) hK hPc hDc hN rfl) rfl rfl hl.1 rfl (lv_room (Nat.le_of_ble_eq_true rfl)) dX4_isTown_2 ⟨by decide +kernel, by decide +kernel⟩) hS (fun q _ h => hFc q h) hFc (fun r_1 u₀ t₀ H1 locs ht hvm hw hB hz1 hk1 hS => ?_)
  obtain ⟨hP1, hK1, hD1⟩ := hB
  rw [ht] at hP1
  have hJ := k_jn (wr := [(kAI vLa cI 24 f4)]) (wt := [(kAI vLa cI 24 f4), (kX4 aLa vLa l4 a4 n4)]) hP hD hC [1] rfl (by decide +kernel) (by decide +kernel) hk1 hFc hP1 hD1 rfl
  clear hP hD hPc hDc hFc hC hP1 hD1 hK1 hz1 hk1 hvm ht
  obtain ⟨hP, hD⟩ := hJ
  generalize H1 = H at hP hS ⊢
  try dsimp only at hw
  by_cases c_2 : 0 ≤ k1 ∧ k1 < n4
  · rw [if_pos c_2] at hw
    refine k_topi (v := 1) hw ?_
    refine lv_if_eq (tgt := 22) hx₀ hb dX4_isTown_5 (by decide) (fun c9 => absurd c9 (by decide +kernel)) (fun _ => ?_)
    refine lv_aload_n hx₀ hb dX4_isTown_8 rfl (lv_at hl 0 rfl) ?_
    refine lv_iload_n hx₀ hb dX4_isTown_9 rfl (lv_at hl 1 rfl) ?_
    obtain ⟨hPc, hDc, hFc, hC⟩ := k_cw (wc := [(kX4 aLa vLa l4 a4 n4), (kAI vLa cI 24 f4)]) hP hD hS hA [1, 0] (by decide +kernel) rfl
    refine va_calli (va_runU (As := [.int k1]) (rest := []) ⟨hx₀, hb, hml, hown, hts⟩ (j_valueAt_X4 l dC dI cI cJ cQ H.size aLa k1 vLa l4 a4 n4 f4) (va_cwU 1 hts (kGU wd_179 wd_520 wd_288 wd_289 wd_178 wd_57) rfl rfl rfl rfl (by decide +kernel) ⟨Nat.le_of_ble_eq_true rfl, Nat.le_of_ble_eq_true rfl⟩) (k_preV4 (q0 := 0) hK hPc hDc hN rfl) rfl rfl hl.1 rfl (lv_room (Nat.le_of_ble_eq_true rfl)) dX4_isTown_10 ⟨by decide +kernel, by decide +kernel⟩) hS (fun q _ h => hFc q h) hFc (fun r_3 u₀ t₀ H1 locs ht hvm hw hB hz1 hk1 hS => ?_)
    obtain ⟨hP1, hK1, hD1⟩ := hB
    rw [ht] at hP1
    have hJ := k_jn (wr := []) (wt := [(kX4 aLa vLa l4 a4 n4), (kAI vLa cI 24 f4)]) hP hD hC [] rfl (by decide +kernel) (by decide +kernel) hk1 hFc hP1 hD1 rfl
    clear hP hD hPc hDc hFc hC hP1 hD1 hK1 hz1 hk1 hvm ht
    obtain ⟨hP, hD⟩ := hJ
    generalize H1 = H at hP hS ⊢
    try dsimp only at hw
    refine k_topi (v := kAt 24 f4 k1) hw ?_
    refine lv_bipush (v := 6) hx₀ hb dX4_isTown_13 (by decide +kernel) ?_
    refine lv_icmp_ge (tgt := 22) hx₀ hb dX4_isTown_15 (by decide) (fun c_4 => ?_) (fun c_4 => ?_)
    · refine lv_iconst (v := 0) hx₀ hb dX4_isTown_22 (by decide +kernel) ?_
      obtain ⟨hP9, hD9⟩ := k_c2 (wc := [(kX4 aLa vLa l4 a4 n4), (kAI vLa cI 24 f4)]) hP hD [0, 1] (by decide +kernel) rfl
      exact W.zret (v := 0) hx₀ hb hr (by decide +kernel) (fun t₀ ht hW => ⟨⟨0, (), rfl, trivial, by rw [ht]; exact hP9, va_K.moved hW.alike hK, hD9⟩, hS.F ht⟩) hS.2.2 dX4_isTown_23
    · refine lv_iconst (v := 1) hx₀ hb dX4_isTown_18 (by decide +kernel) ?_
      refine lv_goto (tgt := 23) hx₀ hb dX4_isTown_19 (by decide) ?_
      obtain ⟨hP9, hD9⟩ := k_c2 (wc := [(kX4 aLa vLa l4 a4 n4), (kAI vLa cI 24 f4)]) hP hD [0, 1] (by decide +kernel) rfl
      exact W.zret (v := 1) hx₀ hb hr (by decide +kernel) (fun t₀ ht hW => ⟨⟨1, (), rfl, trivial, by rw [ht]; exact hP9, va_K.moved hW.alike hK, hD9⟩, hS.F ht⟩) hS.2.2 dX4_isTown_23
  rw [if_neg c_2] at hw
  refine k_topi (v := 0) hw ?_
  refine lv_if_eq (tgt := 22) hx₀ hb dX4_isTown_5 (by decide) (fun _ => ?_) (fun c9 => absurd (by decide +kernel) c9)
  refine lv_iconst (v := 0) hx₀ hb dX4_isTown_22 (by decide +kernel) ?_
  obtain ⟨hP9, hD9⟩ := k_c2 (wc := [(kX4 aLa vLa l4 a4 n4), (kAI vLa cI 24 f4)]) hP hD [1, 0] (by decide +kernel) rfl
  exact W.zret (v := 0) hx₀ hb hr (by decide +kernel) (fun t₀ ht hW => ⟨⟨0, (), rfl, trivial, by rw [ht]; exact hP9, va_K.moved hW.alike hK, hD9⟩, hS.F ht⟩) hS.2.2 dX4_isTown_23
theorem lf_j_towns_1 (a0 : Int32) (a1 : Int32) (a2 : Nat) (h0 : 0 ≤ a0) (h1 : (a1.toInt - a0.toInt).toNat = a2) (h2 : ¬ a1 ≤ a0) : 0 ≤ (a0 + 1) := by
  first | rfl | assumption | decide | exact Or.inl rfl | (first | rfl | assumption | decide | omega | (have hr0 := Int32.toInt_lt a0; have hs0 := Int32.le_toInt a0; have hr1 := Int32.toInt_lt a1; have hs1 := Int32.le_toInt a1; simp only [Int64.toInt_add, Int64.toInt_sub, Int32.toInt_add, Int32.toInt_sub, Int32.toInt_mul, Int64.le_iff_toInt_le, Int64.lt_iff_toInt_lt, Int32.le_iff_toInt_le, Int32.lt_iff_toInt_lt, ← Int32.toInt_inj, ← Int64.toInt_inj, Int32.toInt_toInt64, kc_0, kc_1, true_and, and_true, not_true_eq_false, not_false_eq_true] at * <;> ((first | omega | ((try simp (disch := omega) only [k_bm64] at *); (try simp (disch := omega) only [k_bm] at *); (try simp (disch := omega) only [k_bm] at *); omega) | (simp only [Int.bmod] at *; omega)))))
theorem lf_j_towns_2 (a0 : Int32) (a1 : Int32) (a2 : Nat) (h0 : 0 ≤ a0) (h1 : (a1.toInt - a0.toInt).toNat = a2) (h2 : ¬ a1 ≤ a0) : (a1.toInt - (a0 + 1).toInt).toNat < a2 := by
  first | rfl | assumption | decide | exact Or.inl rfl | (first | rfl | assumption | decide | omega | (have hr0 := Int32.toInt_lt a0; have hs0 := Int32.le_toInt a0; have hr1 := Int32.toInt_lt a1; have hs1 := Int32.le_toInt a1; simp only [Int64.toInt_add, Int64.toInt_sub, Int32.toInt_add, Int32.toInt_sub, Int32.toInt_mul, Int64.le_iff_toInt_le, Int64.lt_iff_toInt_lt, Int32.le_iff_toInt_le, Int32.lt_iff_toInt_lt, ← Int32.toInt_inj, ← Int64.toInt_inj, Int32.toInt_toInt64, kc_0, kc_1, true_and, and_true, not_true_eq_false, not_false_eq_true] at * <;> ((first | omega | ((try simp (disch := omega) only [k_bm64] at *); (try simp (disch := omega) only [k_bm] at *); (try simp (disch := omega) only [k_bm] at *); omega) | (simp only [Int.bmod] at *; omega)))))
set_option maxHeartbeats 4000000 in
set_option maxRecDepth 100000 in
theorem j_towns (l : Launch) (dC : Nat → ClassId) (dI : Nat → Nat → Nat) (cI cJ cQ : ClassId) (sz : Nat) (aLa : Nat) (vLa : Nat) (l4 : Int32) (a4 : Int32) (n4 : Int32) (f4 : Nat → Int32) : Met l yX4_towns (kW yX4_towns cX4_towns 3 (some .int)) { frames := 2, cells := 0, slots := 0, locals := 42 } (kPre dC dI cI cJ cQ sz [.ref aLa] [(kX4 aLa vLa l4 a4 n4), (kAI vLa cI 24 f4)]) (va_Qi (fun (r : Int32) (u : Unit) => True) (fun (u : Unit) t₀ => kB dC dI cI cJ cQ (va_A [(kX4 aLa vLa l4 a4 n4), (kAI vLa cI 24 f4)] sz) [(kX4 aLa vLa l4 a4 n4), (kAI vLa cI 24 f4)] t₀) (va_A [(kX4 aLa vLa l4 a4 n4), (kAI vLa cI 24 f4)] sz)) 0 0 (va_A [(kX4 aLa vLa l4 a4 n4), (kAI vLa cI 24 f4)] sz) := by
  refine Met.ofW (cc := cX4_towns) (maxL := 3) (ret := (some .int)) (by decide) rfl ?_
  intro p₀ e₀ s₀ m₀ args below meth c₀ s₁ B hml hv₀
  obtain ⟨rfl, hsz, hP, hK, hD0, hN⟩ := hv₀
  have hx₀ := B.exec
  have hb := B.bytes
  have hr := B.returns
  have hts := atoms_spec (ws := (kW yX4_towns cX4_towns 3 (some .int))) B.pre
  have hts := fun w h => hts w (List.mem_cons_of_mem _ h)
  have hown : s₀.vm.findClass RX4 = some m₀.cls := findClass_of_methodNamed B.named
  have hlocks := B.notSynchronized
  subst hsz
  have hD := hD0.self (sz := s₀.heap.size)
  generalize hAe : va_A [(kX4 aLa vLa l4 a4 n4), (kAI vLa cI 24 f4)] s₀.heap.size = A at hD ⊢
  have hA : ∀ q : Nat, s₀.heap.size ≤ q → A q := fun q h => by rw [← hAe]; exact Or.inr h
  have hS : va_S A s₀.heap s₀.heap [] := va_S.rf
  have hP : va_P (dC, dI) vwCl [(kX4 aLa vLa l4 a4 n4), (kAI vLa cI 24 f4)] s₀.heap := hP
  have hl := lv_entry ([.ref aLa]) (n := 3) (Nat.le_of_ble_eq_true rfl)
  rw [lg_entry_eq]
  generalize (lg_sl ([.ref aLa]) ++ List.replicate (3 - (lg_sl ([.ref aLa])).length) Slot.unset).toArray = ls at hl ⊢
  have hl : lv_has ls 3 [(0, .ref aLa)] := hl
  obtain ⟨H, hH⟩ : ∃ z : Heap, z = s₀.heap := ⟨_, rfl⟩
  rw [← hH] at hP
  have hS : va_S A s₀.heap H [] := by rw [hH]; exact hS
  refine k_heap hH ?_
  have hD : va_D A [(kX4 aLa vLa l4 a4 n4), (kAI vLa cI 24 f4)] := hD
  obtain ⟨locs, hlo⟩ : ∃ z : List Loc, z = [] := ⟨_, rfl⟩
  rw [← hlo] at hS ⊢
  clear hlo hH hAe hD0
  refine lv_iconst (v := 0) hx₀ hb dX4_towns_0 (by decide +kernel) ?_
  refine lv_istore_n (lv' := [(1, .int 0), (0, .ref aLa)]) hx₀ hb dX4_towns_1 rfl hl (by decide) rfl (fun ls hl => ?_)
  refine lv_iconst (v := 0) hx₀ hb dX4_towns_2 (by decide +kernel) ?_
  refine lv_istore_n (lv' := [(2, .int 0), (1, .int 0), (0, .ref aLa)]) hx₀ hb dX4_towns_3 rfl hl (by decide) rfl (fun ls hl => ?_)
  refine (?keyz1 : ∀ (jz1 : Nat) (twz1 : Int32) (iz1 : Int32) (H : Heap) (locs : List Loc) (ls : Array Slot), (0 ≤ iz1) → ((n4.toInt - iz1.toInt).toNat = jz1) → va_P (dC, dI) vwCl [(kX4 aLa vLa l4 a4 n4), (kAI vLa cI 24 f4)] H → va_D A [(kX4 aLa vLa l4 a4 n4), (kAI vLa cI 24 f4)] → va_S A s₀.heap H locs → lv_has ls 3 [(2, .int iz1), (1, .int twz1), (0, .ref aLa)] → W p₀ l e₀ _ s₀ m₀ _ below meth c₀ H locs _ _ _ (F0 m₀ 4 ls [])) _ (0 : Int32) (0 : Int32) H locs ls (show 0 ≤ (0 : Int32) from (by decide)) rfl hP hD hS hl
  clear hP hD hS hl
  intro jz1
  induction jz1 using Nat.strongRecOn with
  | ind jz1 ihz1 =>
    intro twz1 iz1 H locs ls hiz1_0 hjz1 hP hD hS hl
    refine lv_iload_n hx₀ hb dX4_towns_4 rfl (lv_at hl 0 rfl) ?_
    refine lv_aload_n hx₀ hb dX4_towns_5 rfl (lv_at hl 2 rfl) ?_
    refine va_get (D := (dC, dI)) (ci := 4) (v := .int n4) (C := RX4) (T := TX4) (N := 4) hx₀ hb hts inlX4 hown hK hP 0 rfl rfl 3 (by decide) (hts (.fieldLink RX4 19 "BittenStick$Land" "number" "I") wd_771) (fun x9 h9 => u_same (hts (.sameField "BittenStick$Land" "BittenStick$Text" "number" "I") wd_286) x9 h9) rfl dX4_towns_6 ?_
    refine lv_icmp_ge (tgt := 29) hx₀ hb dX4_towns_9 (by decide) (fun c_2 => ?_) (fun c_2 => ?_)
    · refine lv_iload_n hx₀ hb dX4_towns_29 rfl (lv_at hl 1 rfl) ?_
      obtain ⟨hP9, hD9⟩ := k_c2 (wc := [(kX4 aLa vLa l4 a4 n4), (kAI vLa cI 24 f4)]) hP hD [0, 1] (by decide +kernel) rfl
      exact W.iret (v := twz1) hx₀ hb hr (fun t₀ ht hW => ⟨⟨twz1, (), rfl, trivial, by rw [ht]; exact hP9, va_K.moved hW.alike hK, hD9⟩, hS.F ht⟩) hS.2.2 dX4_towns_30
    · refine lv_aload_n hx₀ hb dX4_towns_12 rfl (lv_at hl 2 rfl) ?_
      refine lv_iload_n hx₀ hb dX4_towns_13 rfl (lv_at hl 0 rfl) ?_
      obtain ⟨hPc, hDc, hFc, hC⟩ := k_cw (wc := [(kX4 aLa vLa l4 a4 n4), (kAI vLa cI 24 f4)]) hP hD hS hA [0, 1] (by decide +kernel) rfl
      refine va_calli (va_runV (As := [.int iz1]) (rest := []) ⟨hx₀, hb, hml, hown, hts⟩ (j_isTown l dC dI cI cJ cQ H.size aLa iz1 vLa l4 a4 n4 f4) (cwV 1 hts (kGV wd_516 wd_772 wd_514 wd_515 wd_14) rfl rfl rfl (by decide +kernel) ⟨Nat.le_of_ble_eq_true rfl, Nat.le_of_ble_eq_true rfl⟩) (k_preV4 (q0 := 0) hK hPc hDc hN rfl) rfl rfl hl.1 rfl (lv_room (Nat.le_of_ble_eq_true rfl)) dX4_towns_14 ⟨by decide +kernel, by decide +kernel⟩) hS (fun q _ h => hFc q h) hFc (fun r_3 u₀ t₀ H1 locs ht hvm hw hB hz1 hk1 hS => ?_)
      obtain ⟨hP1, hK1, hD1⟩ := hB
      rw [ht] at hP1
      have hJ := k_jn (wr := []) (wt := [(kX4 aLa vLa l4 a4 n4), (kAI vLa cI 24 f4)]) hP hD hC [] rfl (by decide +kernel) (by decide +kernel) hk1 hFc hP1 hD1 rfl
      clear hP hD hPc hDc hFc hC hP1 hD1 hK1 hz1 hk1 hvm ht
      obtain ⟨hP, hD⟩ := hJ
      generalize H1 = H at hP hS ⊢
      try dsimp only at hw
      refine lv_if_eq (tgt := 23) hx₀ hb dX4_towns_17 (by decide) (fun c_4 => ?_) (fun c_4 => ?_)
      · refine lv_iinc (v := iz1 + 1) (lv' := [(2, .int (iz1 + 1)), (1, .int twz1), (0, .ref aLa)]) hx₀ hb dX4_towns_23 hl (k := 0) rfl rfl (by decide) rfl (fun ls hl => ?_)
        refine lv_goto (tgt := 4) hx₀ hb dX4_towns_26 (by decide) ?_
        exact ihz1 _ (lf_j_towns_2 iz1 n4 jz1 hiz1_0 hjz1 c_2) twz1 (iz1 + 1) _ _ _ (lf_j_towns_1 iz1 n4 jz1 hiz1_0 hjz1 c_2) rfl (hP.sub [0, 1] rfl) (hD.sub [0, 1] (by decide +kernel) rfl) hS (lv_sub hl [0, 1, 2] rfl)
      · refine lv_iinc (v := twz1 + 1) (lv' := [(1, .int (twz1 + 1)), (2, .int iz1), (0, .ref aLa)]) hx₀ hb dX4_towns_20 hl (k := 1) rfl rfl (by decide) rfl (fun ls hl => ?_)
        refine lv_iinc (v := iz1 + 1) (lv' := [(2, .int (iz1 + 1)), (1, .int (twz1 + 1)), (0, .ref aLa)]) hx₀ hb dX4_towns_23 hl (k := 1) rfl rfl (by decide) rfl (fun ls hl => ?_)
        refine lv_goto (tgt := 4) hx₀ hb dX4_towns_26 (by decide) ?_
        exact ihz1 _ (lf_j_towns_2 iz1 n4 jz1 hiz1_0 hjz1 c_2) (twz1 + 1) (iz1 + 1) _ _ _ (lf_j_towns_1 iz1 n4 jz1 hiz1_0 hjz1 c_2) rfl (hP.sub [0, 1] rfl) (hD.sub [0, 1] (by decide +kernel) rfl) hS (lv_sub hl [0, 1, 2] rfl)
set_option maxHeartbeats 4000000 in
set_option maxRecDepth 100000 in
theorem j_toldP (l : Launch) (dC : Nat → ClassId) (dI : Nat → Nat → Nat) (cI cJ cQ : ClassId) (sz : Nat) (aPa : Nat) (k1 : Int32) (w1 : Int32) (vPa : Nat) (l7 : Int32) (a7 : Int32) (n7 : Int32) (f7 : Nat → Int32) : Met l yX7_told (kW yX7_told cX7_told 3 (some .int)) { frames := 1, cells := 0, slots := 0, locals := 21 } (kPre dC dI cI cJ cQ sz [.ref aPa, .int k1, .int w1] [(kX7 aPa vPa l7 a7 n7), (kAI vPa cI 39 f7)]) (va_Qi (fun (r : Int32) (u : Unit) => (r = kAt 39 f7 ((5 * k1) + w1))) (fun (u : Unit) t₀ => kB dC dI cI cJ cQ (va_A [(kX7 aPa vPa l7 a7 n7), (kAI vPa cI 39 f7)] sz) [(kX7 aPa vPa l7 a7 n7), (kAI vPa cI 39 f7)] t₀) (va_A [(kX7 aPa vPa l7 a7 n7), (kAI vPa cI 39 f7)] sz)) 0 0 (va_A [(kX7 aPa vPa l7 a7 n7), (kAI vPa cI 39 f7)] sz) := by
  refine Met.ofW (cc := cX7_told) (maxL := 3) (ret := (some .int)) (by decide) rfl ?_
  intro p₀ e₀ s₀ m₀ args below meth c₀ s₁ B hml hv₀
  obtain ⟨rfl, hsz, hP, hK, hD0, hN⟩ := hv₀
  have hx₀ := B.exec
  have hb := B.bytes
  have hr := B.returns
  have hts := atoms_spec (ws := (kW yX7_told cX7_told 3 (some .int))) B.pre
  have hts := fun w h => hts w (List.mem_cons_of_mem _ h)
  have hown : s₀.vm.findClass RX7 = some m₀.cls := findClass_of_methodNamed B.named
  have hlocks := B.notSynchronized
  subst hsz
  have hD := hD0.self (sz := s₀.heap.size)
  generalize hAe : va_A [(kX7 aPa vPa l7 a7 n7), (kAI vPa cI 39 f7)] s₀.heap.size = A at hD ⊢
  have hA : ∀ q : Nat, s₀.heap.size ≤ q → A q := fun q h => by rw [← hAe]; exact Or.inr h
  have hS : va_S A s₀.heap s₀.heap [] := va_S.rf
  have hP : va_P (dC, dI) vwCl [(kX7 aPa vPa l7 a7 n7), (kAI vPa cI 39 f7)] s₀.heap := hP
  have hl := lv_entry ([.ref aPa, .int k1, .int w1]) (n := 3) (Nat.le_of_ble_eq_true rfl)
  rw [lg_entry_eq]
  generalize (lg_sl ([.ref aPa, .int k1, .int w1]) ++ List.replicate (3 - (lg_sl ([.ref aPa, .int k1, .int w1])).length) Slot.unset).toArray = ls at hl ⊢
  have hl : lv_has ls 3 [(0, .ref aPa), (1, .int k1), (2, .int w1)] := hl
  obtain ⟨H, hH⟩ : ∃ z : Heap, z = s₀.heap := ⟨_, rfl⟩
  rw [← hH] at hP
  have hS : va_S A s₀.heap H [] := by rw [hH]; exact hS
  refine k_heap hH ?_
  have hD : va_D A [(kX7 aPa vPa l7 a7 n7), (kAI vPa cI 39 f7)] := hD
  obtain ⟨locs, hlo⟩ : ∃ z : List Loc, z = [] := ⟨_, rfl⟩
  rw [← hlo] at hS ⊢
  clear hlo hH hAe hD0
  refine lv_aload_n hx₀ hb dX7_told_0 rfl (lv_at hl 0 rfl) ?_
  refine lv_iconst (v := 5) hx₀ hb dX7_told_1 (by decide +kernel) ?_
  refine lv_iload_n hx₀ hb dX7_told_2 rfl (lv_at hl 1 rfl) ?_
  refine lv_imul hx₀ hb dX7_told_3 ?_
  refine lv_iload_n hx₀ hb dX7_told_4 rfl (lv_at hl 2 rfl) ?_
  refine lv_iadd hx₀ hb dX7_told_5 ?_
  obtain ⟨hPc, hDc, hFc, hC⟩ := k_cw (wc := [(kX7 aPa vPa l7 a7 n7), (kAI vPa cI 39 f7)]) hP hD hS hA [0, 1] (by decide +kernel) rfl
  refine va_calli (va_runU (As := [.int ((5 * k1) + w1)]) (rest := []) ⟨hx₀, hb, hml, hown, hts⟩ (j_valueAt_X7 l dC dI cI cJ cQ H.size aPa ((5 * k1) + w1) vPa l7 a7 n7 f7) (va_cwU 1 hts (kGU wd_179 wd_312 wd_313 wd_314 wd_178 wd_57) rfl rfl rfl rfl (by decide +kernel) ⟨Nat.le_of_ble_eq_true rfl, Nat.le_of_ble_eq_true rfl⟩) (k_preV7 (q0 := 0) hK hPc hDc hN rfl) rfl rfl hl.1 rfl (lv_room (Nat.le_of_ble_eq_true rfl)) dX7_told_6 ⟨by decide +kernel, by decide +kernel⟩) hS (fun q _ h => hFc q h) hFc (fun r_1 u₀ t₀ H1 locs ht hvm hw hB hz1 hk1 hS => ?_)
  obtain ⟨hP1, hK1, hD1⟩ := hB
  rw [ht] at hP1
  have hJ := k_jn (wr := []) (wt := [(kX7 aPa vPa l7 a7 n7), (kAI vPa cI 39 f7)]) hP hD hC [] rfl (by decide +kernel) (by decide +kernel) hk1 hFc hP1 hD1 rfl
  clear hP hD hPc hDc hFc hC hP1 hD1 hK1 hz1 hk1 hvm ht
  obtain ⟨hP, hD⟩ := hJ
  generalize H1 = H at hP hS ⊢
  try dsimp only at hw
  refine k_topi (v := kAt 39 f7 ((5 * k1) + w1)) hw ?_
  obtain ⟨hP9, hD9⟩ := k_c2 (wc := [(kX7 aPa vPa l7 a7 n7), (kAI vPa cI 39 f7)]) hP hD [0, 1] (by decide +kernel) rfl
  exact W.iret (v := kAt 39 f7 ((5 * k1) + w1)) hx₀ hb hr (fun t₀ ht hW => ⟨⟨kAt 39 f7 ((5 * k1) + w1), (), rfl, rfl, by rw [ht]; exact hP9, va_K.moved hW.alike hK, hD9⟩, hS.F ht⟩) hS.2.2 dX7_told_9
set_option maxHeartbeats 4000000 in
set_option maxRecDepth 100000 in
theorem j_toldG (l : Launch) (dC : Nat → ClassId) (dI : Nat → Nat → Nat) (cI cJ cQ : ClassId) (sz : Nat) (aGe : Nat) (k1 : Int32) (w1 : Int32) (vGe : Nat) (l2 : Int32) (a2 : Int32) (n2 : Int32) (f2 : Nat → Int32) : Met l yX2_told (kW yX2_told cX2_told 3 (some .int)) { frames := 1, cells := 0, slots := 0, locals := 21 } (kPre dC dI cI cJ cQ sz [.ref aGe, .int k1, .int w1] [(kX2 aGe vGe l2 a2 n2), (kAI vGe cI 23 f2)]) (va_Qi (fun (r : Int32) (u : Unit) => (r = kAt 23 f2 ((3 * k1) + w1))) (fun (u : Unit) t₀ => kB dC dI cI cJ cQ (va_A [(kX2 aGe vGe l2 a2 n2), (kAI vGe cI 23 f2)] sz) [(kX2 aGe vGe l2 a2 n2), (kAI vGe cI 23 f2)] t₀) (va_A [(kX2 aGe vGe l2 a2 n2), (kAI vGe cI 23 f2)] sz)) 0 0 (va_A [(kX2 aGe vGe l2 a2 n2), (kAI vGe cI 23 f2)] sz) := by
  refine Met.ofW (cc := cX2_told) (maxL := 3) (ret := (some .int)) (by decide) rfl ?_
  intro p₀ e₀ s₀ m₀ args below meth c₀ s₁ B hml hv₀
  obtain ⟨rfl, hsz, hP, hK, hD0, hN⟩ := hv₀
  have hx₀ := B.exec
  have hb := B.bytes
  have hr := B.returns
  have hts := atoms_spec (ws := (kW yX2_told cX2_told 3 (some .int))) B.pre
  have hts := fun w h => hts w (List.mem_cons_of_mem _ h)
  have hown : s₀.vm.findClass RX2 = some m₀.cls := findClass_of_methodNamed B.named
  have hlocks := B.notSynchronized
  subst hsz
  have hD := hD0.self (sz := s₀.heap.size)
  generalize hAe : va_A [(kX2 aGe vGe l2 a2 n2), (kAI vGe cI 23 f2)] s₀.heap.size = A at hD ⊢
  have hA : ∀ q : Nat, s₀.heap.size ≤ q → A q := fun q h => by rw [← hAe]; exact Or.inr h
  have hS : va_S A s₀.heap s₀.heap [] := va_S.rf
  have hP : va_P (dC, dI) vwCl [(kX2 aGe vGe l2 a2 n2), (kAI vGe cI 23 f2)] s₀.heap := hP
  have hl := lv_entry ([.ref aGe, .int k1, .int w1]) (n := 3) (Nat.le_of_ble_eq_true rfl)
  rw [lg_entry_eq]
  generalize (lg_sl ([.ref aGe, .int k1, .int w1]) ++ List.replicate (3 - (lg_sl ([.ref aGe, .int k1, .int w1])).length) Slot.unset).toArray = ls at hl ⊢
  have hl : lv_has ls 3 [(0, .ref aGe), (1, .int k1), (2, .int w1)] := hl
  obtain ⟨H, hH⟩ : ∃ z : Heap, z = s₀.heap := ⟨_, rfl⟩
  rw [← hH] at hP
  have hS : va_S A s₀.heap H [] := by rw [hH]; exact hS
  refine k_heap hH ?_
  have hD : va_D A [(kX2 aGe vGe l2 a2 n2), (kAI vGe cI 23 f2)] := hD
  obtain ⟨locs, hlo⟩ : ∃ z : List Loc, z = [] := ⟨_, rfl⟩
  rw [← hlo] at hS ⊢
  clear hlo hH hAe hD0
  refine lv_aload_n hx₀ hb dX2_told_0 rfl (lv_at hl 0 rfl) ?_
  refine lv_iconst (v := 3) hx₀ hb dX2_told_1 (by decide +kernel) ?_
  refine lv_iload_n hx₀ hb dX2_told_2 rfl (lv_at hl 1 rfl) ?_
  refine lv_imul hx₀ hb dX2_told_3 ?_
  refine lv_iload_n hx₀ hb dX2_told_4 rfl (lv_at hl 2 rfl) ?_
  refine lv_iadd hx₀ hb dX2_told_5 ?_
  obtain ⟨hPc, hDc, hFc, hC⟩ := k_cw (wc := [(kX2 aGe vGe l2 a2 n2), (kAI vGe cI 23 f2)]) hP hD hS hA [0, 1] (by decide +kernel) rfl
  refine va_calli (va_runU (As := [.int ((3 * k1) + w1)]) (rest := []) ⟨hx₀, hb, hml, hown, hts⟩ (j_valueAt_X2 l dC dI cI cJ cQ H.size aGe ((3 * k1) + w1) vGe l2 a2 n2 f2) (va_cwU 1 hts (kGU wd_179 wd_335 wd_336 wd_337 wd_178 wd_57) rfl rfl rfl rfl (by decide +kernel) ⟨Nat.le_of_ble_eq_true rfl, Nat.le_of_ble_eq_true rfl⟩) (k_preV2 (q0 := 0) hK hPc hDc hN rfl) rfl rfl hl.1 rfl (lv_room (Nat.le_of_ble_eq_true rfl)) dX2_told_6 ⟨by decide +kernel, by decide +kernel⟩) hS (fun q _ h => hFc q h) hFc (fun r_1 u₀ t₀ H1 locs ht hvm hw hB hz1 hk1 hS => ?_)
  obtain ⟨hP1, hK1, hD1⟩ := hB
  rw [ht] at hP1
  have hJ := k_jn (wr := []) (wt := [(kX2 aGe vGe l2 a2 n2), (kAI vGe cI 23 f2)]) hP hD hC [] rfl (by decide +kernel) (by decide +kernel) hk1 hFc hP1 hD1 rfl
  clear hP hD hPc hDc hFc hC hP1 hD1 hK1 hz1 hk1 hvm ht
  obtain ⟨hP, hD⟩ := hJ
  generalize H1 = H at hP hS ⊢
  try dsimp only at hw
  refine k_topi (v := kAt 23 f2 ((3 * k1) + w1)) hw ?_
  obtain ⟨hP9, hD9⟩ := k_c2 (wc := [(kX2 aGe vGe l2 a2 n2), (kAI vGe cI 23 f2)]) hP hD [0, 1] (by decide +kernel) rfl
  exact W.iret (v := kAt 23 f2 ((3 * k1) + w1)) hx₀ hb hr (fun t₀ ht hW => ⟨⟨kAt 23 f2 ((3 * k1) + w1), (), rfl, rfl, by rw [ht]; exact hP9, va_K.moved hW.alike hK, hD9⟩, hS.F ht⟩) hS.2.2 dX2_told_9
theorem lf_j_fAppend_1 (a0 : Int32) (h0 : 0 ≤ a0 ∧ a0 ≤ 8) (h1 : ¬ a0 < 0) (h2 : a0 < 8) : 0 ≤ (4 * a0).toInt ∧ (4 * a0).toInt < 32 := by
  first | rfl | assumption | decide | exact Or.inl rfl | (first | rfl | assumption | decide | omega | (have hr0 := Int32.toInt_lt a0; have hs0 := Int32.le_toInt a0; simp only [Int64.toInt_add, Int64.toInt_sub, Int32.toInt_add, Int32.toInt_sub, Int32.toInt_mul, Int64.le_iff_toInt_le, Int64.lt_iff_toInt_lt, Int32.le_iff_toInt_le, Int32.lt_iff_toInt_lt, ← Int32.toInt_inj, ← Int64.toInt_inj, Int32.toInt_toInt64, kc_0, kc_4, kc_8, kc_32, true_and, and_true, not_true_eq_false, not_false_eq_true] at * <;> ((first | omega | ((try simp (disch := omega) only [k_bm64] at *); (try simp (disch := omega) only [k_bm] at *); (try simp (disch := omega) only [k_bm] at *); omega) | (simp only [Int.bmod] at *; omega)))))
theorem lf_j_fAppend_2 (a0 : Int32) (h0 : 0 ≤ a0 ∧ a0 ≤ 8) (h1 : ¬ a0 < 0) (h2 : a0 < 8) : 0 ≤ ((4 * a0) + 1).toInt ∧ ((4 * a0) + 1).toInt < 32 := by
  first | rfl | assumption | decide | exact Or.inl rfl | (first | rfl | assumption | decide | omega | (have hr0 := Int32.toInt_lt a0; have hs0 := Int32.le_toInt a0; simp only [Int64.toInt_add, Int64.toInt_sub, Int32.toInt_add, Int32.toInt_sub, Int32.toInt_mul, Int64.le_iff_toInt_le, Int64.lt_iff_toInt_lt, Int32.le_iff_toInt_le, Int32.lt_iff_toInt_lt, ← Int32.toInt_inj, ← Int64.toInt_inj, Int32.toInt_toInt64, kc_0, kc_1, kc_4, kc_8, kc_32, true_and, and_true, not_true_eq_false, not_false_eq_true] at * <;> ((first | omega | ((try simp (disch := omega) only [k_bm64] at *); (try simp (disch := omega) only [k_bm] at *); (try simp (disch := omega) only [k_bm] at *); omega) | (simp only [Int.bmod] at *; omega)))))
theorem lf_j_fAppend_3 (a0 : Int32) (h0 : 0 ≤ a0 ∧ a0 ≤ 8) (h1 : ¬ a0 < 0) (h2 : a0 < 8) : 0 ≤ ((4 * a0) + 2).toInt ∧ ((4 * a0) + 2).toInt < 32 := by
  first | rfl | assumption | decide | exact Or.inl rfl | (first | rfl | assumption | decide | omega | (have hr0 := Int32.toInt_lt a0; have hs0 := Int32.le_toInt a0; simp only [Int64.toInt_add, Int64.toInt_sub, Int32.toInt_add, Int32.toInt_sub, Int32.toInt_mul, Int64.le_iff_toInt_le, Int64.lt_iff_toInt_lt, Int32.le_iff_toInt_le, Int32.lt_iff_toInt_lt, ← Int32.toInt_inj, ← Int64.toInt_inj, Int32.toInt_toInt64, kc_0, kc_2, kc_4, kc_8, kc_32, true_and, and_true, not_true_eq_false, not_false_eq_true] at * <;> ((first | omega | ((try simp (disch := omega) only [k_bm64] at *); (try simp (disch := omega) only [k_bm] at *); (try simp (disch := omega) only [k_bm] at *); omega) | (simp only [Int.bmod] at *; omega)))))
theorem lf_j_fAppend_4 (a0 : Int32) (h0 : 0 ≤ a0 ∧ a0 ≤ 8) (h1 : ¬ a0 < 0) (h2 : a0 < 8) : 0 ≤ ((4 * a0) + 3).toInt ∧ ((4 * a0) + 3).toInt < 32 := by
  first | rfl | assumption | decide | exact Or.inl rfl | (first | rfl | assumption | decide | omega | (have hr0 := Int32.toInt_lt a0; have hs0 := Int32.le_toInt a0; simp only [Int64.toInt_add, Int64.toInt_sub, Int32.toInt_add, Int32.toInt_sub, Int32.toInt_mul, Int64.le_iff_toInt_le, Int64.lt_iff_toInt_lt, Int32.le_iff_toInt_le, Int32.lt_iff_toInt_lt, ← Int32.toInt_inj, ← Int64.toInt_inj, Int32.toInt_toInt64, kc_0, kc_3, kc_4, kc_8, kc_32, true_and, and_true, not_true_eq_false, not_false_eq_true] at * <;> ((first | omega | ((try simp (disch := omega) only [k_bm64] at *); (try simp (disch := omega) only [k_bm] at *); (try simp (disch := omega) only [k_bm] at *); omega) | (simp only [Int.bmod] at *; omega)))))
theorem lf_j_fAppend_5 (a0 : Int32) (h0 : 0 ≤ a0 ∧ a0 ≤ 8) (h1 : ¬ a0 < 0) (h2 : a0 < 8) : 0 ≤ (a0 + 1) ∧ (a0 + 1) ≤ 8 := by
  first | rfl | assumption | decide | exact Or.inl rfl | (first | rfl | assumption | decide | omega | (have hr0 := Int32.toInt_lt a0; have hs0 := Int32.le_toInt a0; simp only [Int64.toInt_add, Int64.toInt_sub, Int32.toInt_add, Int32.toInt_sub, Int32.toInt_mul, Int64.le_iff_toInt_le, Int64.lt_iff_toInt_lt, Int32.le_iff_toInt_le, Int32.lt_iff_toInt_lt, ← Int32.toInt_inj, ← Int64.toInt_inj, Int32.toInt_toInt64, kc_0, kc_1, kc_8, true_and, and_true, not_true_eq_false, not_false_eq_true] at * <;> ((first | omega | ((try simp (disch := omega) only [k_bm64] at *); (try simp (disch := omega) only [k_bm] at *); (try simp (disch := omega) only [k_bm] at *); omega) | (simp only [Int.bmod] at *; omega)))))
set_option maxHeartbeats 4000000 in
set_option maxRecDepth 100000 in
theorem j_fAppend (l : Launch) (dC : Nat → ClassId) (dI : Nat → Nat → Nat) (cI cJ cQ : ClassId) (sz : Nat) (aFl : Nat) (p1 : Int32) (q1 : Int32) (r1 : Int32) (h1 : Int32) (vFl : Nat) (xn : Int32) (ff : Nat → Int32) (hh0 : 0 ≤ xn ∧ xn ≤ 8) : Met l yX1_append (kW yX1_append cX1_append 5 (some .int)) { frames := 0, cells := 0, slots := 0, locals := 0 } (kPre dC dI cI cJ cQ sz [.ref aFl, .int p1, .int q1, .int r1, .int h1] [(kX1 aFl vFl xn), (kAI vFl cI 32 ff)]) (va_Qi (fun (r : Int32) (u : kS) => (r = if 0 ≤ p1 ∧ p1 ≤ 7 ∧ 0 ≤ q1 ∧ q1 ≤ 7 ∧ 0 ≤ r1 ∧ r1 ≤ 7 ∧ ¬ q1 = r1 ∧ 1 ≤ h1 ∧ h1 ≤ 9 then (if xn = 8 then -4 else xn + 1) else -2) ∧ (0 ≤ (u.1 0) ∧ (u.1 0) ≤ 8) ∧ ((u.1 0) = if (0 ≤ p1 ∧ p1 ≤ 7 ∧ 0 ≤ q1 ∧ q1 ≤ 7 ∧ 0 ≤ r1 ∧ r1 ≤ 7 ∧ ¬ q1 = r1 ∧ 1 ≤ h1 ∧ h1 ≤ 9) ∧ ¬ xn = 8 then xn + 1 else xn) ∧ ((u.2.1 0) = if (0 ≤ p1 ∧ p1 ≤ 7 ∧ 0 ≤ q1 ∧ q1 ≤ 7 ∧ 0 ≤ r1 ∧ r1 ≤ 7 ∧ ¬ q1 = r1 ∧ 1 ≤ h1 ∧ h1 ≤ 9) ∧ ¬ xn = 8 then upd (upd (upd (upd ff (4 * xn).toNatClampNeg p1) ((4 * xn) + 1).toNatClampNeg q1) ((4 * xn) + 2).toNatClampNeg r1) ((4 * xn) + 3).toNatClampNeg h1 else ff)) (fun (u : kS) t₀ => kB dC dI cI cJ cQ (va_A [(kX1 aFl vFl xn), (kAI vFl cI 32 ff)] sz) [(kX1 aFl vFl (u.1 0)), (kAI vFl cI 32 (u.2.1 0))] t₀) (va_A [(kX1 aFl vFl xn), (kAI vFl cI 32 ff)] sz)) 0 0 (va_A [(kX1 aFl vFl xn), (kAI vFl cI 32 ff)] sz) := by
  refine Met.ofW (cc := cX1_append) (maxL := 5) (ret := (some .int)) (by decide) rfl ?_
  intro p₀ e₀ s₀ m₀ args below meth c₀ s₁ B hml hv₀
  obtain ⟨rfl, hsz, hP, hK, hD0, hN⟩ := hv₀
  have hx₀ := B.exec
  have hb := B.bytes
  have hr := B.returns
  have hts := atoms_spec (ws := (kW yX1_append cX1_append 5 (some .int))) B.pre
  have hts := fun w h => hts w (List.mem_cons_of_mem _ h)
  have hown : s₀.vm.findClass RX1 = some m₀.cls := findClass_of_methodNamed B.named
  have hlocks := B.notSynchronized
  subst hsz
  have hD := hD0.self (sz := s₀.heap.size)
  generalize hAe : va_A [(kX1 aFl vFl xn), (kAI vFl cI 32 ff)] s₀.heap.size = A at hD ⊢
  have hA : ∀ q : Nat, s₀.heap.size ≤ q → A q := fun q h => by rw [← hAe]; exact Or.inr h
  have hS : va_S A s₀.heap s₀.heap [] := va_S.rf
  have hP : va_P (dC, dI) vwCl [(kX1 aFl vFl xn), (kAI vFl cI 32 ff)] s₀.heap := hP
  have hl := lv_entry ([.ref aFl, .int p1, .int q1, .int r1, .int h1]) (n := 5) (Nat.le_of_ble_eq_true rfl)
  rw [lg_entry_eq]
  generalize (lg_sl ([.ref aFl, .int p1, .int q1, .int r1, .int h1]) ++ List.replicate (5 - (lg_sl ([.ref aFl, .int p1, .int q1, .int r1, .int h1])).length) Slot.unset).toArray = ls at hl ⊢
  have hl : lv_has ls 5 [(0, .ref aFl), (1, .int p1), (2, .int q1), (3, .int r1), (4, .int h1)] := hl
  obtain ⟨H, hH⟩ : ∃ z : Heap, z = s₀.heap := ⟨_, rfl⟩
  rw [← hH] at hP
  have hS : va_S A s₀.heap H [] := by rw [hH]; exact hS
  refine k_heap hH ?_
  have hD : va_D A [(kX1 aFl vFl xn), (kAI vFl cI 32 ff)] := hD
  obtain ⟨locs, hlo⟩ : ∃ z : List Loc, z = [] := ⟨_, rfl⟩
  rw [← hlo] at hS ⊢
  clear hlo hH hAe hD0
  refine lv_iload_n hx₀ hb dX1_append_0 rfl (lv_at hl 1 rfl) ?_
  refine lv_if_lt (tgt := 48) hx₀ hb dX1_append_1 (by decide) (fun c_1 => ?_) (fun c_1 => ?_)
  · refine lv_bipush (v := (-2)) hx₀ hb dX1_append_48 (by decide +kernel) ?_
    obtain ⟨hP9, hD9⟩ := k_c2 (wc := [(kX1 aFl vFl xn), (kAI vFl cI 32 ff)]) hP hD [0, 1] (by decide +kernel) rfl
    exact W.iret (v := (-2)) hx₀ hb hr (fun t₀ ht hW => ⟨⟨(-2), (k_fn [xn], k_fa [ff], k_fl [], k_fL [], k_fp []), rfl, ⟨(show ((-2) : Int32) = if 0 ≤ p1 ∧ p1 ≤ 7 ∧ 0 ≤ q1 ∧ q1 ≤ 7 ∧ 0 ≤ r1 ∧ r1 ≤ 7 ∧ ¬ q1 = r1 ∧ 1 ≤ h1 ∧ h1 ≤ 9 then (if xn = 8 then -4 else xn + 1) else -2 from (if_neg (show ¬ (0 ≤ p1 ∧ p1 ≤ 7 ∧ 0 ≤ q1 ∧ q1 ≤ 7 ∧ 0 ≤ r1 ∧ r1 ≤ 7 ∧ ¬ q1 = r1 ∧ 1 ≤ h1 ∧ h1 ≤ 9) from (fun z => (Int32.not_le.mpr c_1) z.1))).symm), hh0, (if_neg (show ¬ ((0 ≤ p1 ∧ p1 ≤ 7 ∧ 0 ≤ q1 ∧ q1 ≤ 7 ∧ 0 ≤ r1 ∧ r1 ≤ 7 ∧ ¬ q1 = r1 ∧ 1 ≤ h1 ∧ h1 ≤ 9) ∧ ¬ xn = 8) from (fun z => (fun z => (Int32.not_le.mpr c_1) z.1) z.1))).symm, (if_neg (show ¬ ((0 ≤ p1 ∧ p1 ≤ 7 ∧ 0 ≤ q1 ∧ q1 ≤ 7 ∧ 0 ≤ r1 ∧ r1 ≤ 7 ∧ ¬ q1 = r1 ∧ 1 ≤ h1 ∧ h1 ≤ 9) ∧ ¬ xn = 8) from (fun z => (fun z => (Int32.not_le.mpr c_1) z.1) z.1))).symm⟩, by rw [ht]; exact hP9, va_K.moved hW.alike hK, hD9⟩, hS.F ht⟩) hS.2.2 dX1_append_50
  · refine lv_iload_n hx₀ hb dX1_append_4 rfl (lv_at hl 1 rfl) ?_
    refine lv_bipush (v := 7) hx₀ hb dX1_append_5 (by decide +kernel) ?_
    refine lv_icmp_gt (tgt := 48) hx₀ hb dX1_append_7 (by decide) (fun c_2 => ?_) (fun c_2 => ?_)
    · refine lv_bipush (v := (-2)) hx₀ hb dX1_append_48 (by decide +kernel) ?_
      obtain ⟨hP9, hD9⟩ := k_c2 (wc := [(kX1 aFl vFl xn), (kAI vFl cI 32 ff)]) hP hD [0, 1] (by decide +kernel) rfl
      exact W.iret (v := (-2)) hx₀ hb hr (fun t₀ ht hW => ⟨⟨(-2), (k_fn [xn], k_fa [ff], k_fl [], k_fL [], k_fp []), rfl, ⟨(show ((-2) : Int32) = if 0 ≤ p1 ∧ p1 ≤ 7 ∧ 0 ≤ q1 ∧ q1 ≤ 7 ∧ 0 ≤ r1 ∧ r1 ≤ 7 ∧ ¬ q1 = r1 ∧ 1 ≤ h1 ∧ h1 ≤ 9 then (if xn = 8 then -4 else xn + 1) else -2 from (if_neg (show ¬ (0 ≤ p1 ∧ p1 ≤ 7 ∧ 0 ≤ q1 ∧ q1 ≤ 7 ∧ 0 ≤ r1 ∧ r1 ≤ 7 ∧ ¬ q1 = r1 ∧ 1 ≤ h1 ∧ h1 ≤ 9) from (fun z => (Int32.not_le.mpr c_2) z.2.1))).symm), hh0, (if_neg (show ¬ ((0 ≤ p1 ∧ p1 ≤ 7 ∧ 0 ≤ q1 ∧ q1 ≤ 7 ∧ 0 ≤ r1 ∧ r1 ≤ 7 ∧ ¬ q1 = r1 ∧ 1 ≤ h1 ∧ h1 ≤ 9) ∧ ¬ xn = 8) from (fun z => (fun z => (Int32.not_le.mpr c_2) z.2.1) z.1))).symm, (if_neg (show ¬ ((0 ≤ p1 ∧ p1 ≤ 7 ∧ 0 ≤ q1 ∧ q1 ≤ 7 ∧ 0 ≤ r1 ∧ r1 ≤ 7 ∧ ¬ q1 = r1 ∧ 1 ≤ h1 ∧ h1 ≤ 9) ∧ ¬ xn = 8) from (fun z => (fun z => (Int32.not_le.mpr c_2) z.2.1) z.1))).symm⟩, by rw [ht]; exact hP9, va_K.moved hW.alike hK, hD9⟩, hS.F ht⟩) hS.2.2 dX1_append_50
    · refine lv_iload_n hx₀ hb dX1_append_10 rfl (lv_at hl 2 rfl) ?_
      refine lv_if_lt (tgt := 48) hx₀ hb dX1_append_11 (by decide) (fun c_3 => ?_) (fun c_3 => ?_)
      · refine lv_bipush (v := (-2)) hx₀ hb dX1_append_48 (by decide +kernel) ?_
        obtain ⟨hP9, hD9⟩ := k_c2 (wc := [(kX1 aFl vFl xn), (kAI vFl cI 32 ff)]) hP hD [0, 1] (by decide +kernel) rfl
        exact W.iret (v := (-2)) hx₀ hb hr (fun t₀ ht hW => ⟨⟨(-2), (k_fn [xn], k_fa [ff], k_fl [], k_fL [], k_fp []), rfl, ⟨(show ((-2) : Int32) = if 0 ≤ p1 ∧ p1 ≤ 7 ∧ 0 ≤ q1 ∧ q1 ≤ 7 ∧ 0 ≤ r1 ∧ r1 ≤ 7 ∧ ¬ q1 = r1 ∧ 1 ≤ h1 ∧ h1 ≤ 9 then (if xn = 8 then -4 else xn + 1) else -2 from (if_neg (show ¬ (0 ≤ p1 ∧ p1 ≤ 7 ∧ 0 ≤ q1 ∧ q1 ≤ 7 ∧ 0 ≤ r1 ∧ r1 ≤ 7 ∧ ¬ q1 = r1 ∧ 1 ≤ h1 ∧ h1 ≤ 9) from (fun z => (Int32.not_le.mpr c_3) z.2.2.1))).symm), hh0, (if_neg (show ¬ ((0 ≤ p1 ∧ p1 ≤ 7 ∧ 0 ≤ q1 ∧ q1 ≤ 7 ∧ 0 ≤ r1 ∧ r1 ≤ 7 ∧ ¬ q1 = r1 ∧ 1 ≤ h1 ∧ h1 ≤ 9) ∧ ¬ xn = 8) from (fun z => (fun z => (Int32.not_le.mpr c_3) z.2.2.1) z.1))).symm, (if_neg (show ¬ ((0 ≤ p1 ∧ p1 ≤ 7 ∧ 0 ≤ q1 ∧ q1 ≤ 7 ∧ 0 ≤ r1 ∧ r1 ≤ 7 ∧ ¬ q1 = r1 ∧ 1 ≤ h1 ∧ h1 ≤ 9) ∧ ¬ xn = 8) from (fun z => (fun z => (Int32.not_le.mpr c_3) z.2.2.1) z.1))).symm⟩, by rw [ht]; exact hP9, va_K.moved hW.alike hK, hD9⟩, hS.F ht⟩) hS.2.2 dX1_append_50
      · refine lv_iload_n hx₀ hb dX1_append_14 rfl (lv_at hl 2 rfl) ?_
        refine lv_bipush (v := 7) hx₀ hb dX1_append_15 (by decide +kernel) ?_
        refine lv_icmp_gt (tgt := 48) hx₀ hb dX1_append_17 (by decide) (fun c_4 => ?_) (fun c_4 => ?_)
        · refine lv_bipush (v := (-2)) hx₀ hb dX1_append_48 (by decide +kernel) ?_
          obtain ⟨hP9, hD9⟩ := k_c2 (wc := [(kX1 aFl vFl xn), (kAI vFl cI 32 ff)]) hP hD [0, 1] (by decide +kernel) rfl
          exact W.iret (v := (-2)) hx₀ hb hr (fun t₀ ht hW => ⟨⟨(-2), (k_fn [xn], k_fa [ff], k_fl [], k_fL [], k_fp []), rfl, ⟨(show ((-2) : Int32) = if 0 ≤ p1 ∧ p1 ≤ 7 ∧ 0 ≤ q1 ∧ q1 ≤ 7 ∧ 0 ≤ r1 ∧ r1 ≤ 7 ∧ ¬ q1 = r1 ∧ 1 ≤ h1 ∧ h1 ≤ 9 then (if xn = 8 then -4 else xn + 1) else -2 from (if_neg (show ¬ (0 ≤ p1 ∧ p1 ≤ 7 ∧ 0 ≤ q1 ∧ q1 ≤ 7 ∧ 0 ≤ r1 ∧ r1 ≤ 7 ∧ ¬ q1 = r1 ∧ 1 ≤ h1 ∧ h1 ≤ 9) from (fun z => (Int32.not_le.mpr c_4) z.2.2.2.1))).symm), hh0, (if_neg (show ¬ ((0 ≤ p1 ∧ p1 ≤ 7 ∧ 0 ≤ q1 ∧ q1 ≤ 7 ∧ 0 ≤ r1 ∧ r1 ≤ 7 ∧ ¬ q1 = r1 ∧ 1 ≤ h1 ∧ h1 ≤ 9) ∧ ¬ xn = 8) from (fun z => (fun z => (Int32.not_le.mpr c_4) z.2.2.2.1) z.1))).symm, (if_neg (show ¬ ((0 ≤ p1 ∧ p1 ≤ 7 ∧ 0 ≤ q1 ∧ q1 ≤ 7 ∧ 0 ≤ r1 ∧ r1 ≤ 7 ∧ ¬ q1 = r1 ∧ 1 ≤ h1 ∧ h1 ≤ 9) ∧ ¬ xn = 8) from (fun z => (fun z => (Int32.not_le.mpr c_4) z.2.2.2.1) z.1))).symm⟩, by rw [ht]; exact hP9, va_K.moved hW.alike hK, hD9⟩, hS.F ht⟩) hS.2.2 dX1_append_50
        · refine lv_iload_n hx₀ hb dX1_append_20 rfl (lv_at hl 3 rfl) ?_
          refine lv_if_lt (tgt := 48) hx₀ hb dX1_append_21 (by decide) (fun c_5 => ?_) (fun c_5 => ?_)
          · refine lv_bipush (v := (-2)) hx₀ hb dX1_append_48 (by decide +kernel) ?_
            obtain ⟨hP9, hD9⟩ := k_c2 (wc := [(kX1 aFl vFl xn), (kAI vFl cI 32 ff)]) hP hD [0, 1] (by decide +kernel) rfl
            exact W.iret (v := (-2)) hx₀ hb hr (fun t₀ ht hW => ⟨⟨(-2), (k_fn [xn], k_fa [ff], k_fl [], k_fL [], k_fp []), rfl, ⟨(show ((-2) : Int32) = if 0 ≤ p1 ∧ p1 ≤ 7 ∧ 0 ≤ q1 ∧ q1 ≤ 7 ∧ 0 ≤ r1 ∧ r1 ≤ 7 ∧ ¬ q1 = r1 ∧ 1 ≤ h1 ∧ h1 ≤ 9 then (if xn = 8 then -4 else xn + 1) else -2 from (if_neg (show ¬ (0 ≤ p1 ∧ p1 ≤ 7 ∧ 0 ≤ q1 ∧ q1 ≤ 7 ∧ 0 ≤ r1 ∧ r1 ≤ 7 ∧ ¬ q1 = r1 ∧ 1 ≤ h1 ∧ h1 ≤ 9) from (fun z => (Int32.not_le.mpr c_5) z.2.2.2.2.1))).symm), hh0, (if_neg (show ¬ ((0 ≤ p1 ∧ p1 ≤ 7 ∧ 0 ≤ q1 ∧ q1 ≤ 7 ∧ 0 ≤ r1 ∧ r1 ≤ 7 ∧ ¬ q1 = r1 ∧ 1 ≤ h1 ∧ h1 ≤ 9) ∧ ¬ xn = 8) from (fun z => (fun z => (Int32.not_le.mpr c_5) z.2.2.2.2.1) z.1))).symm, (if_neg (show ¬ ((0 ≤ p1 ∧ p1 ≤ 7 ∧ 0 ≤ q1 ∧ q1 ≤ 7 ∧ 0 ≤ r1 ∧ r1 ≤ 7 ∧ ¬ q1 = r1 ∧ 1 ≤ h1 ∧ h1 ≤ 9) ∧ ¬ xn = 8) from (fun z => (fun z => (Int32.not_le.mpr c_5) z.2.2.2.2.1) z.1))).symm⟩, by rw [ht]; exact hP9, va_K.moved hW.alike hK, hD9⟩, hS.F ht⟩) hS.2.2 dX1_append_50
          · refine lv_iload_n hx₀ hb dX1_append_24 rfl (lv_at hl 3 rfl) ?_
            refine lv_bipush (v := 7) hx₀ hb dX1_append_25 (by decide +kernel) ?_
            refine lv_icmp_gt (tgt := 48) hx₀ hb dX1_append_27 (by decide) (fun c_6 => ?_) (fun c_6 => ?_)
            · refine lv_bipush (v := (-2)) hx₀ hb dX1_append_48 (by decide +kernel) ?_
              obtain ⟨hP9, hD9⟩ := k_c2 (wc := [(kX1 aFl vFl xn), (kAI vFl cI 32 ff)]) hP hD [0, 1] (by decide +kernel) rfl
              exact W.iret (v := (-2)) hx₀ hb hr (fun t₀ ht hW => ⟨⟨(-2), (k_fn [xn], k_fa [ff], k_fl [], k_fL [], k_fp []), rfl, ⟨(show ((-2) : Int32) = if 0 ≤ p1 ∧ p1 ≤ 7 ∧ 0 ≤ q1 ∧ q1 ≤ 7 ∧ 0 ≤ r1 ∧ r1 ≤ 7 ∧ ¬ q1 = r1 ∧ 1 ≤ h1 ∧ h1 ≤ 9 then (if xn = 8 then -4 else xn + 1) else -2 from (if_neg (show ¬ (0 ≤ p1 ∧ p1 ≤ 7 ∧ 0 ≤ q1 ∧ q1 ≤ 7 ∧ 0 ≤ r1 ∧ r1 ≤ 7 ∧ ¬ q1 = r1 ∧ 1 ≤ h1 ∧ h1 ≤ 9) from (fun z => (Int32.not_le.mpr c_6) z.2.2.2.2.2.1))).symm), hh0, (if_neg (show ¬ ((0 ≤ p1 ∧ p1 ≤ 7 ∧ 0 ≤ q1 ∧ q1 ≤ 7 ∧ 0 ≤ r1 ∧ r1 ≤ 7 ∧ ¬ q1 = r1 ∧ 1 ≤ h1 ∧ h1 ≤ 9) ∧ ¬ xn = 8) from (fun z => (fun z => (Int32.not_le.mpr c_6) z.2.2.2.2.2.1) z.1))).symm, (if_neg (show ¬ ((0 ≤ p1 ∧ p1 ≤ 7 ∧ 0 ≤ q1 ∧ q1 ≤ 7 ∧ 0 ≤ r1 ∧ r1 ≤ 7 ∧ ¬ q1 = r1 ∧ 1 ≤ h1 ∧ h1 ≤ 9) ∧ ¬ xn = 8) from (fun z => (fun z => (Int32.not_le.mpr c_6) z.2.2.2.2.2.1) z.1))).symm⟩, by rw [ht]; exact hP9, va_K.moved hW.alike hK, hD9⟩, hS.F ht⟩) hS.2.2 dX1_append_50
            · refine lv_iload_n hx₀ hb dX1_append_30 rfl (lv_at hl 2 rfl) ?_
              refine lv_iload_n hx₀ hb dX1_append_31 rfl (lv_at hl 3 rfl) ?_
              refine lv_icmp_eq (tgt := 48) hx₀ hb dX1_append_32 (by decide) (fun c_7 => ?_) (fun c_7 => ?_)
              · refine lv_bipush (v := (-2)) hx₀ hb dX1_append_48 (by decide +kernel) ?_
                obtain ⟨hP9, hD9⟩ := k_c2 (wc := [(kX1 aFl vFl xn), (kAI vFl cI 32 ff)]) hP hD [0, 1] (by decide +kernel) rfl
                exact W.iret (v := (-2)) hx₀ hb hr (fun t₀ ht hW => ⟨⟨(-2), (k_fn [xn], k_fa [ff], k_fl [], k_fL [], k_fp []), rfl, ⟨(show ((-2) : Int32) = if 0 ≤ p1 ∧ p1 ≤ 7 ∧ 0 ≤ q1 ∧ q1 ≤ 7 ∧ 0 ≤ r1 ∧ r1 ≤ 7 ∧ ¬ q1 = r1 ∧ 1 ≤ h1 ∧ h1 ≤ 9 then (if xn = 8 then -4 else xn + 1) else -2 from (if_neg (show ¬ (0 ≤ p1 ∧ p1 ≤ 7 ∧ 0 ≤ q1 ∧ q1 ≤ 7 ∧ 0 ≤ r1 ∧ r1 ≤ 7 ∧ ¬ q1 = r1 ∧ 1 ≤ h1 ∧ h1 ≤ 9) from (fun z => (fun z => z c_7) z.2.2.2.2.2.2.1))).symm), hh0, (if_neg (show ¬ ((0 ≤ p1 ∧ p1 ≤ 7 ∧ 0 ≤ q1 ∧ q1 ≤ 7 ∧ 0 ≤ r1 ∧ r1 ≤ 7 ∧ ¬ q1 = r1 ∧ 1 ≤ h1 ∧ h1 ≤ 9) ∧ ¬ xn = 8) from (fun z => (fun z => (fun z => z c_7) z.2.2.2.2.2.2.1) z.1))).symm, (if_neg (show ¬ ((0 ≤ p1 ∧ p1 ≤ 7 ∧ 0 ≤ q1 ∧ q1 ≤ 7 ∧ 0 ≤ r1 ∧ r1 ≤ 7 ∧ ¬ q1 = r1 ∧ 1 ≤ h1 ∧ h1 ≤ 9) ∧ ¬ xn = 8) from (fun z => (fun z => (fun z => z c_7) z.2.2.2.2.2.2.1) z.1))).symm⟩, by rw [ht]; exact hP9, va_K.moved hW.alike hK, hD9⟩, hS.F ht⟩) hS.2.2 dX1_append_50
              · refine lv_iload hx₀ hb dX1_append_35 (lv_at hl 4 rfl) ?_
                refine lv_iconst (v := 1) hx₀ hb dX1_append_37 (by decide +kernel) ?_
                refine lv_icmp_lt (tgt := 48) hx₀ hb dX1_append_38 (by decide) (fun c_8 => ?_) (fun c_8 => ?_)
                · refine lv_bipush (v := (-2)) hx₀ hb dX1_append_48 (by decide +kernel) ?_
                  obtain ⟨hP9, hD9⟩ := k_c2 (wc := [(kX1 aFl vFl xn), (kAI vFl cI 32 ff)]) hP hD [0, 1] (by decide +kernel) rfl
                  exact W.iret (v := (-2)) hx₀ hb hr (fun t₀ ht hW => ⟨⟨(-2), (k_fn [xn], k_fa [ff], k_fl [], k_fL [], k_fp []), rfl, ⟨(show ((-2) : Int32) = if 0 ≤ p1 ∧ p1 ≤ 7 ∧ 0 ≤ q1 ∧ q1 ≤ 7 ∧ 0 ≤ r1 ∧ r1 ≤ 7 ∧ ¬ q1 = r1 ∧ 1 ≤ h1 ∧ h1 ≤ 9 then (if xn = 8 then -4 else xn + 1) else -2 from (if_neg (show ¬ (0 ≤ p1 ∧ p1 ≤ 7 ∧ 0 ≤ q1 ∧ q1 ≤ 7 ∧ 0 ≤ r1 ∧ r1 ≤ 7 ∧ ¬ q1 = r1 ∧ 1 ≤ h1 ∧ h1 ≤ 9) from (fun z => (Int32.not_le.mpr c_8) z.2.2.2.2.2.2.2.1))).symm), hh0, (if_neg (show ¬ ((0 ≤ p1 ∧ p1 ≤ 7 ∧ 0 ≤ q1 ∧ q1 ≤ 7 ∧ 0 ≤ r1 ∧ r1 ≤ 7 ∧ ¬ q1 = r1 ∧ 1 ≤ h1 ∧ h1 ≤ 9) ∧ ¬ xn = 8) from (fun z => (fun z => (Int32.not_le.mpr c_8) z.2.2.2.2.2.2.2.1) z.1))).symm, (if_neg (show ¬ ((0 ≤ p1 ∧ p1 ≤ 7 ∧ 0 ≤ q1 ∧ q1 ≤ 7 ∧ 0 ≤ r1 ∧ r1 ≤ 7 ∧ ¬ q1 = r1 ∧ 1 ≤ h1 ∧ h1 ≤ 9) ∧ ¬ xn = 8) from (fun z => (fun z => (Int32.not_le.mpr c_8) z.2.2.2.2.2.2.2.1) z.1))).symm⟩, by rw [ht]; exact hP9, va_K.moved hW.alike hK, hD9⟩, hS.F ht⟩) hS.2.2 dX1_append_50
                · refine lv_iload hx₀ hb dX1_append_41 (lv_at hl 4 rfl) ?_
                  refine lv_bipush (v := 9) hx₀ hb dX1_append_43 (by decide +kernel) ?_
                  refine lv_icmp_le (tgt := 51) hx₀ hb dX1_append_45 (by decide) (fun c_9 => ?_) (fun c_9 => ?_)
                  · refine lv_aload_n hx₀ hb dX1_append_51 rfl (lv_at hl 0 rfl) ?_
                    refine va_get (D := (dC, dI)) (ci := 1) (v := .int xn) (C := RX1) (T := TX1) (N := 2) hx₀ hb hts inlX1 hown hK hP 0 rfl rfl 1 (by decide) (hts (.fieldLink RX1 15 "BittenStick$Flights" "number" "I") wd_357) (fun _ h9 => h9) rfl dX1_append_52 ?_
                    refine lv_if_lt (tgt := 67) hx₀ hb dX1_append_55 (by decide) (fun c9 => ((show ¬ (xn < 0) from (Int32.not_lt.mpr hh0.1)) c9).elim) (fun c_10 => ?_)
                    refine lv_aload_n hx₀ hb dX1_append_58 rfl (lv_at hl 0 rfl) ?_
                    refine va_get (D := (dC, dI)) (ci := 1) (v := .int xn) (C := RX1) (T := TX1) (N := 2) hx₀ hb hts inlX1 hown hK hP 0 rfl rfl 1 (by decide) (hts (.fieldLink RX1 15 "BittenStick$Flights" "number" "I") wd_357) (fun _ h9 => h9) rfl dX1_append_59 ?_
                    refine lv_bipush (v := 8) hx₀ hb dX1_append_62 (by decide +kernel) ?_
                    refine lv_icmp_lt (tgt := 70) hx₀ hb dX1_append_64 (by decide) (fun c_11 => ?_) (fun c_11 => ?_)
                    · refine lv_aload_n hx₀ hb dX1_append_70 rfl (lv_at hl 0 rfl) ?_
                      refine va_get (D := (dC, dI)) (ci := 1) (v := .ref vFl) (C := RX1) (T := TX1) (N := 2) hx₀ hb hts inlX1 hown hK hP 0 rfl rfl 0 (by decide) (hts (.fieldLink RX1 9 "BittenStick$Flights" "items" "[I") wd_77) (fun _ h9 => h9) rfl dX1_append_71 ?_
                      refine lv_iconst (v := 4) hx₀ hb dX1_append_74 (by decide +kernel) ?_
                      refine lv_aload_n hx₀ hb dX1_append_75 rfl (lv_at hl 0 rfl) ?_
                      refine va_get (D := (dC, dI)) (ci := 1) (v := .int xn) (C := RX1) (T := TX1) (N := 2) hx₀ hb hts inlX1 hown hK hP 0 rfl rfl 1 (by decide) (hts (.fieldLink RX1 15 "BittenStick$Flights" "number" "I") wd_357) (fun _ h9 => h9) rfl dX1_append_76 ?_
                      refine lv_imul hx₀ hb dX1_append_79 ?_
                      refine lv_iload_n hx₀ hb dX1_append_80 rfl (lv_at hl 1 rfl) ?_
                      refine va_iast hx₀ hb hK hP hD hS 1 0 rfl rfl (vp_in_iff.mpr (lf_j_fAppend_1 xn hh0 c_10 c_11)) dX1_append_81 ?_
                      clear hP hD hS
                      intro H locs hP hD hS
                      replace hP := k_w2 (wt := [(kX1 aFl vFl xn), (kAI vFl cI 32 (upd ff (4 * xn).toNatClampNeg p1))]) hP hD rfl
                      replace hD := hP.2
                      replace hP := hP.1
                      refine lv_aload_n hx₀ hb dX1_append_82 rfl (lv_at hl 0 rfl) ?_
                      refine va_get (D := (dC, dI)) (ci := 1) (v := .ref vFl) (C := RX1) (T := TX1) (N := 2) hx₀ hb hts inlX1 hown hK hP 0 rfl rfl 0 (by decide) (hts (.fieldLink RX1 9 "BittenStick$Flights" "items" "[I") wd_77) (fun _ h9 => h9) rfl dX1_append_83 ?_
                      refine lv_iconst (v := 4) hx₀ hb dX1_append_86 (by decide +kernel) ?_
                      refine lv_aload_n hx₀ hb dX1_append_87 rfl (lv_at hl 0 rfl) ?_
                      refine va_get (D := (dC, dI)) (ci := 1) (v := .int xn) (C := RX1) (T := TX1) (N := 2) hx₀ hb hts inlX1 hown hK hP 0 rfl rfl 1 (by decide) (hts (.fieldLink RX1 15 "BittenStick$Flights" "number" "I") wd_357) (fun _ h9 => h9) rfl dX1_append_88 ?_
                      refine lv_imul hx₀ hb dX1_append_91 ?_
                      refine lv_iconst (v := 1) hx₀ hb dX1_append_92 (by decide +kernel) ?_
                      refine lv_iadd hx₀ hb dX1_append_93 ?_
                      refine lv_iload_n hx₀ hb dX1_append_94 rfl (lv_at hl 2 rfl) ?_
                      refine va_iast hx₀ hb hK hP hD hS 1 0 rfl rfl (vp_in_iff.mpr (lf_j_fAppend_2 xn hh0 c_10 c_11)) dX1_append_95 ?_
                      clear hP hD hS
                      intro H locs hP hD hS
                      replace hP := k_w2 (wt := [(kX1 aFl vFl xn), (kAI vFl cI 32 (upd (upd ff (4 * xn).toNatClampNeg p1) ((4 * xn) + 1).toNatClampNeg q1))]) hP hD rfl
                      replace hD := hP.2
                      replace hP := hP.1
                      refine lv_aload_n hx₀ hb dX1_append_96 rfl (lv_at hl 0 rfl) ?_
                      refine va_get (D := (dC, dI)) (ci := 1) (v := .ref vFl) (C := RX1) (T := TX1) (N := 2) hx₀ hb hts inlX1 hown hK hP 0 rfl rfl 0 (by decide) (hts (.fieldLink RX1 9 "BittenStick$Flights" "items" "[I") wd_77) (fun _ h9 => h9) rfl dX1_append_97 ?_
                      refine lv_iconst (v := 4) hx₀ hb dX1_append_100 (by decide +kernel) ?_
                      refine lv_aload_n hx₀ hb dX1_append_101 rfl (lv_at hl 0 rfl) ?_
                      refine va_get (D := (dC, dI)) (ci := 1) (v := .int xn) (C := RX1) (T := TX1) (N := 2) hx₀ hb hts inlX1 hown hK hP 0 rfl rfl 1 (by decide) (hts (.fieldLink RX1 15 "BittenStick$Flights" "number" "I") wd_357) (fun _ h9 => h9) rfl dX1_append_102 ?_
                      refine lv_imul hx₀ hb dX1_append_105 ?_
                      refine lv_iconst (v := 2) hx₀ hb dX1_append_106 (by decide +kernel) ?_
                      refine lv_iadd hx₀ hb dX1_append_107 ?_
                      refine lv_iload_n hx₀ hb dX1_append_108 rfl (lv_at hl 3 rfl) ?_
                      refine va_iast hx₀ hb hK hP hD hS 1 0 rfl rfl (vp_in_iff.mpr (lf_j_fAppend_3 xn hh0 c_10 c_11)) dX1_append_109 ?_
                      clear hP hD hS
                      intro H locs hP hD hS
                      replace hP := k_w2 (wt := [(kX1 aFl vFl xn), (kAI vFl cI 32 (upd (upd (upd ff (4 * xn).toNatClampNeg p1) ((4 * xn) + 1).toNatClampNeg q1) ((4 * xn) + 2).toNatClampNeg r1))]) hP hD rfl
                      replace hD := hP.2
                      replace hP := hP.1
                      refine lv_aload_n hx₀ hb dX1_append_110 rfl (lv_at hl 0 rfl) ?_
                      refine va_get (D := (dC, dI)) (ci := 1) (v := .ref vFl) (C := RX1) (T := TX1) (N := 2) hx₀ hb hts inlX1 hown hK hP 0 rfl rfl 0 (by decide) (hts (.fieldLink RX1 9 "BittenStick$Flights" "items" "[I") wd_77) (fun _ h9 => h9) rfl dX1_append_111 ?_
                      refine lv_iconst (v := 4) hx₀ hb dX1_append_114 (by decide +kernel) ?_
                      refine lv_aload_n hx₀ hb dX1_append_115 rfl (lv_at hl 0 rfl) ?_
                      refine va_get (D := (dC, dI)) (ci := 1) (v := .int xn) (C := RX1) (T := TX1) (N := 2) hx₀ hb hts inlX1 hown hK hP 0 rfl rfl 1 (by decide) (hts (.fieldLink RX1 15 "BittenStick$Flights" "number" "I") wd_357) (fun _ h9 => h9) rfl dX1_append_116 ?_
                      refine lv_imul hx₀ hb dX1_append_119 ?_
                      refine lv_iconst (v := 3) hx₀ hb dX1_append_120 (by decide +kernel) ?_
                      refine lv_iadd hx₀ hb dX1_append_121 ?_
                      refine lv_iload hx₀ hb dX1_append_122 (lv_at hl 4 rfl) ?_
                      refine va_iast hx₀ hb hK hP hD hS 1 0 rfl rfl (vp_in_iff.mpr (lf_j_fAppend_4 xn hh0 c_10 c_11)) dX1_append_124 ?_
                      clear hP hD hS
                      intro H locs hP hD hS
                      replace hP := k_w2 (wt := [(kX1 aFl vFl xn), (kAI vFl cI 32 (upd (upd (upd (upd ff (4 * xn).toNatClampNeg p1) ((4 * xn) + 1).toNatClampNeg q1) ((4 * xn) + 2).toNatClampNeg r1) ((4 * xn) + 3).toNatClampNeg h1))]) hP hD rfl
                      replace hD := hP.2
                      replace hP := hP.1
                      refine lv_aload_n hx₀ hb dX1_append_125 rfl (lv_at hl 0 rfl) ?_
                      refine lv_dup hx₀ hb dX1_append_126 rfl ?_
                      refine va_get (D := (dC, dI)) (ci := 1) (v := .int xn) (C := RX1) (T := TX1) (N := 2) hx₀ hb hts inlX1 hown hK hP 0 rfl rfl 1 (by decide) (hts (.fieldLink RX1 15 "BittenStick$Flights" "number" "I") wd_357) (fun _ h9 => h9) rfl dX1_append_127 ?_
                      refine lv_iconst (v := 1) hx₀ hb dX1_append_130 (by decide +kernel) ?_
                      refine lv_iadd hx₀ hb dX1_append_131 ?_
                      refine va_put (D := (dC, dI)) (ci := 1) (v := .int (xn + 1)) (ty := .int) (C := RX1) (T := TX1) (N := 2) hx₀ hb hts inlX1 tyX1 tyX1_ok nmX1 hown hK hP hD hS 0 rfl rfl 1 (by decide) (hts (.fieldLink RX1 15 "BittenStick$Flights" "number" "I") wd_357) (fun _ h9 => h9) rfl (by decide +kernel) rfl rfl (Nat.le_of_ble_eq_true rfl) dX1_append_132 ?_
                      clear hP hD hS
                      intro H locs hP hD hS
                      replace hP := k_w2 (wt := [(kX1 aFl vFl (xn + 1)), (kAI vFl cI 32 (upd (upd (upd (upd ff (4 * xn).toNatClampNeg p1) ((4 * xn) + 1).toNatClampNeg q1) ((4 * xn) + 2).toNatClampNeg r1) ((4 * xn) + 3).toNatClampNeg h1))]) hP hD rfl
                      replace hD := hP.2
                      replace hP := hP.1
                      refine lv_aload_n hx₀ hb dX1_append_135 rfl (lv_at hl 0 rfl) ?_
                      refine va_get (D := (dC, dI)) (ci := 1) (v := .int (xn + 1)) (C := RX1) (T := TX1) (N := 2) hx₀ hb hts inlX1 hown hK hP 0 rfl rfl 1 (by decide) (hts (.fieldLink RX1 15 "BittenStick$Flights" "number" "I") wd_357) (fun _ h9 => h9) rfl dX1_append_136 ?_
                      obtain ⟨hP9, hD9⟩ := k_c2 (wc := [(kX1 aFl vFl (xn + 1)), (kAI vFl cI 32 (upd (upd (upd (upd ff (4 * xn).toNatClampNeg p1) ((4 * xn) + 1).toNatClampNeg q1) ((4 * xn) + 2).toNatClampNeg r1) ((4 * xn) + 3).toNatClampNeg h1))]) hP hD [0, 1] (by decide +kernel) rfl
                      exact W.iret (v := xn + 1) hx₀ hb hr (fun t₀ ht hW => ⟨⟨xn + 1, (k_fn [(xn + 1)], k_fa [upd (upd (upd (upd ff (4 * xn).toNatClampNeg p1) ((4 * xn) + 1).toNatClampNeg q1) ((4 * xn) + 2).toNatClampNeg r1) ((4 * xn) + 3).toNatClampNeg h1], k_fl [], k_fL [], k_fp []), rfl, ⟨(show (xn + 1 : Int32) = if 0 ≤ p1 ∧ p1 ≤ 7 ∧ 0 ≤ q1 ∧ q1 ≤ 7 ∧ 0 ≤ r1 ∧ r1 ≤ 7 ∧ ¬ q1 = r1 ∧ 1 ≤ h1 ∧ h1 ≤ 9 then (if xn = 8 then -4 else xn + 1) else -2 from (((if_neg (show ¬ (xn = 8) from (fun z => (Int32.not_le.mpr c_11) (k_leq z.symm)))).symm).trans (if_pos (show 0 ≤ p1 ∧ p1 ≤ 7 ∧ 0 ≤ q1 ∧ q1 ≤ 7 ∧ 0 ≤ r1 ∧ r1 ≤ 7 ∧ ¬ q1 = r1 ∧ 1 ≤ h1 ∧ h1 ≤ 9 from ⟨(Int32.not_lt.mp c_1), (Int32.not_lt.mp c_2), (Int32.not_lt.mp c_3), (Int32.not_lt.mp c_4), (Int32.not_lt.mp c_5), (Int32.not_lt.mp c_6), c_7, (Int32.not_lt.mp c_8), c_9⟩)).symm)), (lf_j_fAppend_5 xn hh0 c_10 c_11), (if_pos (show (0 ≤ p1 ∧ p1 ≤ 7 ∧ 0 ≤ q1 ∧ q1 ≤ 7 ∧ 0 ≤ r1 ∧ r1 ≤ 7 ∧ ¬ q1 = r1 ∧ 1 ≤ h1 ∧ h1 ≤ 9) ∧ ¬ xn = 8 from ⟨⟨(Int32.not_lt.mp c_1), (Int32.not_lt.mp c_2), (Int32.not_lt.mp c_3), (Int32.not_lt.mp c_4), (Int32.not_lt.mp c_5), (Int32.not_lt.mp c_6), c_7, (Int32.not_lt.mp c_8), c_9⟩, (fun z => (Int32.not_le.mpr c_11) (k_leq z.symm))⟩)).symm, (if_pos (show (0 ≤ p1 ∧ p1 ≤ 7 ∧ 0 ≤ q1 ∧ q1 ≤ 7 ∧ 0 ≤ r1 ∧ r1 ≤ 7 ∧ ¬ q1 = r1 ∧ 1 ≤ h1 ∧ h1 ≤ 9) ∧ ¬ xn = 8 from ⟨⟨(Int32.not_lt.mp c_1), (Int32.not_lt.mp c_2), (Int32.not_lt.mp c_3), (Int32.not_lt.mp c_4), (Int32.not_lt.mp c_5), (Int32.not_lt.mp c_6), c_7, (Int32.not_lt.mp c_8), c_9⟩, (fun z => (Int32.not_le.mpr c_11) (k_leq z.symm))⟩)).symm⟩, by rw [ht]; exact hP9, va_K.moved hW.alike hK, hD9⟩, hS.F ht⟩) hS.2.2 dX1_append_139
                    · refine lv_bipush (v := (-4)) hx₀ hb dX1_append_67 (by decide +kernel) ?_
                      obtain ⟨hP9, hD9⟩ := k_c2 (wc := [(kX1 aFl vFl xn), (kAI vFl cI 32 ff)]) hP hD [0, 1] (by decide +kernel) rfl
                      exact W.iret (v := (-4)) hx₀ hb hr (fun t₀ ht hW => ⟨⟨(-4), (k_fn [xn], k_fa [ff], k_fl [], k_fL [], k_fp []), rfl, ⟨(show ((-4) : Int32) = if 0 ≤ p1 ∧ p1 ≤ 7 ∧ 0 ≤ q1 ∧ q1 ≤ 7 ∧ 0 ≤ r1 ∧ r1 ≤ 7 ∧ ¬ q1 = r1 ∧ 1 ≤ h1 ∧ h1 ≤ 9 then (if xn = 8 then -4 else xn + 1) else -2 from (((if_pos (show xn = 8 from (Int32.le_antisymm hh0.2 (Int32.not_lt.mp c_11)))).symm).trans (if_pos (show 0 ≤ p1 ∧ p1 ≤ 7 ∧ 0 ≤ q1 ∧ q1 ≤ 7 ∧ 0 ≤ r1 ∧ r1 ≤ 7 ∧ ¬ q1 = r1 ∧ 1 ≤ h1 ∧ h1 ≤ 9 from ⟨(Int32.not_lt.mp c_1), (Int32.not_lt.mp c_2), (Int32.not_lt.mp c_3), (Int32.not_lt.mp c_4), (Int32.not_lt.mp c_5), (Int32.not_lt.mp c_6), c_7, (Int32.not_lt.mp c_8), c_9⟩)).symm)), hh0, (if_neg (show ¬ ((0 ≤ p1 ∧ p1 ≤ 7 ∧ 0 ≤ q1 ∧ q1 ≤ 7 ∧ 0 ≤ r1 ∧ r1 ≤ 7 ∧ ¬ q1 = r1 ∧ 1 ≤ h1 ∧ h1 ≤ 9) ∧ ¬ xn = 8) from (fun z => (fun z => z (Int32.le_antisymm hh0.2 (Int32.not_lt.mp c_11))) z.2))).symm, (if_neg (show ¬ ((0 ≤ p1 ∧ p1 ≤ 7 ∧ 0 ≤ q1 ∧ q1 ≤ 7 ∧ 0 ≤ r1 ∧ r1 ≤ 7 ∧ ¬ q1 = r1 ∧ 1 ≤ h1 ∧ h1 ≤ 9) ∧ ¬ xn = 8) from (fun z => (fun z => z (Int32.le_antisymm hh0.2 (Int32.not_lt.mp c_11))) z.2))).symm⟩, by rw [ht]; exact hP9, va_K.moved hW.alike hK, hD9⟩, hS.F ht⟩) hS.2.2 dX1_append_69
                  · refine lv_bipush (v := (-2)) hx₀ hb dX1_append_48 (by decide +kernel) ?_
                    obtain ⟨hP9, hD9⟩ := k_c2 (wc := [(kX1 aFl vFl xn), (kAI vFl cI 32 ff)]) hP hD [0, 1] (by decide +kernel) rfl
                    exact W.iret (v := (-2)) hx₀ hb hr (fun t₀ ht hW => ⟨⟨(-2), (k_fn [xn], k_fa [ff], k_fl [], k_fL [], k_fp []), rfl, ⟨(show ((-2) : Int32) = if 0 ≤ p1 ∧ p1 ≤ 7 ∧ 0 ≤ q1 ∧ q1 ≤ 7 ∧ 0 ≤ r1 ∧ r1 ≤ 7 ∧ ¬ q1 = r1 ∧ 1 ≤ h1 ∧ h1 ≤ 9 then (if xn = 8 then -4 else xn + 1) else -2 from (if_neg (show ¬ (0 ≤ p1 ∧ p1 ≤ 7 ∧ 0 ≤ q1 ∧ q1 ≤ 7 ∧ 0 ≤ r1 ∧ r1 ≤ 7 ∧ ¬ q1 = r1 ∧ 1 ≤ h1 ∧ h1 ≤ 9) from (fun z => c_9 z.2.2.2.2.2.2.2.2))).symm), hh0, (if_neg (show ¬ ((0 ≤ p1 ∧ p1 ≤ 7 ∧ 0 ≤ q1 ∧ q1 ≤ 7 ∧ 0 ≤ r1 ∧ r1 ≤ 7 ∧ ¬ q1 = r1 ∧ 1 ≤ h1 ∧ h1 ≤ 9) ∧ ¬ xn = 8) from (fun z => (fun z => c_9 z.2.2.2.2.2.2.2.2) z.1))).symm, (if_neg (show ¬ ((0 ≤ p1 ∧ p1 ≤ 7 ∧ 0 ≤ q1 ∧ q1 ≤ 7 ∧ 0 ≤ r1 ∧ r1 ≤ 7 ∧ ¬ q1 = r1 ∧ 1 ≤ h1 ∧ h1 ≤ 9) ∧ ¬ xn = 8) from (fun z => (fun z => c_9 z.2.2.2.2.2.2.2.2) z.1))).symm⟩, by rw [ht]; exact hP9, va_K.moved hW.alike hK, hD9⟩, hS.F ht⟩) hS.2.2 dX1_append_50
set_option maxHeartbeats 4000000 in
set_option maxRecDepth 100000 in
theorem j_fHas (l : Launch) (dC : Nat → ClassId) (dI : Nat → Nat → Nat) (cI cJ cQ : ClassId) (sz : Nat) (aFl : Nat) (k1 : Int32) (vFl : Nat) (xn : Int32) : Met l yX1_has (kW yX1_has cX1_has 2 (some .boolean)) { frames := 0, cells := 0, slots := 0, locals := 0 } (kPre dC dI cI cJ cQ sz [.ref aFl, .int k1] [(kX1 aFl vFl xn)]) (va_Qi (fun (r : Int32) (u : Unit) => (r = if 0 ≤ k1 ∧ k1 < xn then 1 else 0)) (fun (u : Unit) t₀ => kB dC dI cI cJ cQ (va_A [(kX1 aFl vFl xn)] sz) [(kX1 aFl vFl xn)] t₀) (va_A [(kX1 aFl vFl xn)] sz)) 0 0 (va_A [(kX1 aFl vFl xn)] sz) := by
  refine Met.ofW (cc := cX1_has) (maxL := 2) (ret := (some .boolean)) (by decide) rfl ?_
  intro p₀ e₀ s₀ m₀ args below meth c₀ s₁ B hml hv₀
  obtain ⟨rfl, hsz, hP, hK, hD0, hN⟩ := hv₀
  have hx₀ := B.exec
  have hb := B.bytes
  have hr := B.returns
  have hts := atoms_spec (ws := (kW yX1_has cX1_has 2 (some .boolean))) B.pre
  have hts := fun w h => hts w (List.mem_cons_of_mem _ h)
  have hown : s₀.vm.findClass RX1 = some m₀.cls := findClass_of_methodNamed B.named
  have hlocks := B.notSynchronized
  subst hsz
  have hD := hD0.self (sz := s₀.heap.size)
  generalize hAe : va_A [(kX1 aFl vFl xn)] s₀.heap.size = A at hD ⊢
  have hA : ∀ q : Nat, s₀.heap.size ≤ q → A q := fun q h => by rw [← hAe]; exact Or.inr h
  have hS : va_S A s₀.heap s₀.heap [] := va_S.rf
  have hP : va_P (dC, dI) vwCl [(kX1 aFl vFl xn)] s₀.heap := hP
  have hl := lv_entry ([.ref aFl, .int k1]) (n := 2) (Nat.le_of_ble_eq_true rfl)
  rw [lg_entry_eq]
  generalize (lg_sl ([.ref aFl, .int k1]) ++ List.replicate (2 - (lg_sl ([.ref aFl, .int k1])).length) Slot.unset).toArray = ls at hl ⊢
  have hl : lv_has ls 2 [(0, .ref aFl), (1, .int k1)] := hl
  obtain ⟨H, hH⟩ : ∃ z : Heap, z = s₀.heap := ⟨_, rfl⟩
  rw [← hH] at hP
  have hS : va_S A s₀.heap H [] := by rw [hH]; exact hS
  refine k_heap hH ?_
  have hD : va_D A [(kX1 aFl vFl xn)] := hD
  obtain ⟨locs, hlo⟩ : ∃ z : List Loc, z = [] := ⟨_, rfl⟩
  rw [← hlo] at hS ⊢
  clear hlo hH hAe hD0
  refine lv_iload_n hx₀ hb dX1_has_0 rfl (lv_at hl 1 rfl) ?_
  refine lv_if_lt (tgt := 16) hx₀ hb dX1_has_1 (by decide) (fun c_1 => ?_) (fun c_1 => ?_)
  · refine lv_iconst (v := 0) hx₀ hb dX1_has_16 (by decide +kernel) ?_
    obtain ⟨hP9, hD9⟩ := k_c2 (wc := [(kX1 aFl vFl xn)]) hP hD [0] (by decide +kernel) rfl
    exact W.zret (v := 0) hx₀ hb hr (by decide +kernel) (fun t₀ ht hW => ⟨⟨0, (), rfl, (show (0 : Int32) = if 0 ≤ k1 ∧ k1 < xn then 1 else 0 from (if_neg (show ¬ (0 ≤ k1 ∧ k1 < xn) from (fun z => (Int32.not_le.mpr c_1) z.1))).symm), by rw [ht]; exact hP9, va_K.moved hW.alike hK, hD9⟩, hS.F ht⟩) hS.2.2 dX1_has_17
  · refine lv_iload_n hx₀ hb dX1_has_4 rfl (lv_at hl 1 rfl) ?_
    refine lv_aload_n hx₀ hb dX1_has_5 rfl (lv_at hl 0 rfl) ?_
    refine va_get (D := (dC, dI)) (ci := 1) (v := .int xn) (C := RX1) (T := TX1) (N := 2) hx₀ hb hts inlX1 hown hK hP 0 rfl rfl 1 (by decide) (hts (.fieldLink RX1 15 "BittenStick$Flights" "number" "I") wd_357) (fun _ h9 => h9) rfl dX1_has_6 ?_
    refine lv_icmp_ge (tgt := 16) hx₀ hb dX1_has_9 (by decide) (fun c_2 => ?_) (fun c_2 => ?_)
    · refine lv_iconst (v := 0) hx₀ hb dX1_has_16 (by decide +kernel) ?_
      obtain ⟨hP9, hD9⟩ := k_c2 (wc := [(kX1 aFl vFl xn)]) hP hD [0] (by decide +kernel) rfl
      exact W.zret (v := 0) hx₀ hb hr (by decide +kernel) (fun t₀ ht hW => ⟨⟨0, (), rfl, (show (0 : Int32) = if 0 ≤ k1 ∧ k1 < xn then 1 else 0 from (if_neg (show ¬ (0 ≤ k1 ∧ k1 < xn) from (fun z => (Int32.not_lt.mpr c_2) z.2))).symm), by rw [ht]; exact hP9, va_K.moved hW.alike hK, hD9⟩, hS.F ht⟩) hS.2.2 dX1_has_17
    · refine lv_iconst (v := 1) hx₀ hb dX1_has_12 (by decide +kernel) ?_
      refine lv_goto (tgt := 17) hx₀ hb dX1_has_13 (by decide) ?_
      obtain ⟨hP9, hD9⟩ := k_c2 (wc := [(kX1 aFl vFl xn)]) hP hD [0] (by decide +kernel) rfl
      exact W.zret (v := 1) hx₀ hb hr (by decide +kernel) (fun t₀ ht hW => ⟨⟨1, (), rfl, (show (1 : Int32) = if 0 ≤ k1 ∧ k1 < xn then 1 else 0 from (if_pos (show 0 ≤ k1 ∧ k1 < xn from ⟨(Int32.not_lt.mp c_1), (Int32.not_le.mp c_2)⟩)).symm), by rw [ht]; exact hP9, va_K.moved hW.alike hK, hD9⟩, hS.F ht⟩) hS.2.2 dX1_has_17
theorem lf_j_fItem_1 (a0 : Int32) (a1 : Int32) (a2 : Int32) (h0 : 0 ≤ a0 ∧ a0 ≤ 8) (h1 : 0 ≤ a1 ∧ a1 ≤ 3) (h2 : 0 ≤ a2 ∧ a2 < a0) (h3 : 32 ≤ ((4 * a2) + a1)) : False := by
  first | rfl | assumption | decide | exact Or.inl rfl | (first | rfl | assumption | decide | omega | (have hr0 := Int32.toInt_lt a0; have hs0 := Int32.le_toInt a0; have hr1 := Int32.toInt_lt a1; have hs1 := Int32.le_toInt a1; have hr2 := Int32.toInt_lt a2; have hs2 := Int32.le_toInt a2; simp only [Int64.toInt_add, Int64.toInt_sub, Int32.toInt_add, Int32.toInt_sub, Int32.toInt_mul, Int64.le_iff_toInt_le, Int64.lt_iff_toInt_lt, Int32.le_iff_toInt_le, Int32.lt_iff_toInt_lt, ← Int32.toInt_inj, ← Int64.toInt_inj, Int32.toInt_toInt64, kc_0, kc_3, kc_4, kc_8, kc_32, true_and, and_true, not_true_eq_false, not_false_eq_true] at * <;> ((first | omega | ((try simp (disch := omega) only [k_bm64] at *); (try simp (disch := omega) only [k_bm] at *); (try simp (disch := omega) only [k_bm] at *); omega) | (simp only [Int.bmod] at *; omega)))))
theorem lf_j_fItem_2 (a0 : Int32) (a1 : Int32) (a2 : Int32) (h0 : 0 ≤ a0 ∧ a0 ≤ 8) (h1 : 0 ≤ a1 ∧ a1 ≤ 3) (h2 : 0 ≤ a2 ∧ a2 < a0) (h3 : ¬ 32 ≤ ((4 * a2) + a1)) : 0 ≤ ((4 * a2) + a1).toInt ∧ ((4 * a2) + a1).toInt < 32 := by
  first | rfl | assumption | decide | exact Or.inl rfl | (first | rfl | assumption | decide | omega | (have hr0 := Int32.toInt_lt a0; have hs0 := Int32.le_toInt a0; have hr1 := Int32.toInt_lt a1; have hs1 := Int32.le_toInt a1; have hr2 := Int32.toInt_lt a2; have hs2 := Int32.le_toInt a2; simp only [Int64.toInt_add, Int64.toInt_sub, Int32.toInt_add, Int32.toInt_sub, Int32.toInt_mul, Int64.le_iff_toInt_le, Int64.lt_iff_toInt_lt, Int32.le_iff_toInt_le, Int32.lt_iff_toInt_lt, ← Int32.toInt_inj, ← Int64.toInt_inj, Int32.toInt_toInt64, kc_0, kc_3, kc_4, kc_8, kc_32, true_and, and_true, not_true_eq_false, not_false_eq_true] at * <;> ((first | omega | ((try simp (disch := omega) only [k_bm64] at *); (try simp (disch := omega) only [k_bm] at *); (try simp (disch := omega) only [k_bm] at *); omega) | (simp only [Int.bmod] at *; omega)))))
set_option maxHeartbeats 4000000 in
set_option maxRecDepth 100000 in
theorem j_fItem (l : Launch) (dC : Nat → ClassId) (dI : Nat → Nat → Nat) (cI cJ cQ : ClassId) (sz : Nat) (aFl : Nat) (k1 : Int32) (i1 : Int32) (vFl : Nat) (xn : Int32) (ff : Nat → Int32) (hh0 : 0 ≤ xn ∧ xn ≤ 8) (hh1 : 0 ≤ i1 ∧ i1 ≤ 3) : Met l yX1_item (kW yX1_item cX1_item 3 (some .int)) { frames := 1, cells := 0, slots := 0, locals := 21 } (kPre dC dI cI cJ cQ sz [.ref aFl, .int k1, .int i1] [(kX1 aFl vFl xn), (kAI vFl cI 32 ff)]) (va_Qi (fun (r : Int32) (u : Unit) => (r = kIt xn ff k1 i1)) (fun (u : Unit) t₀ => kB dC dI cI cJ cQ (va_A [(kX1 aFl vFl xn), (kAI vFl cI 32 ff)] sz) [(kX1 aFl vFl xn), (kAI vFl cI 32 ff)] t₀) (va_A [(kX1 aFl vFl xn), (kAI vFl cI 32 ff)] sz)) 0 0 (va_A [(kX1 aFl vFl xn), (kAI vFl cI 32 ff)] sz) := by
  refine Met.ofW (cc := cX1_item) (maxL := 3) (ret := (some .int)) (by decide) rfl ?_
  intro p₀ e₀ s₀ m₀ args below meth c₀ s₁ B hml hv₀
  obtain ⟨rfl, hsz, hP, hK, hD0, hN⟩ := hv₀
  have hx₀ := B.exec
  have hb := B.bytes
  have hr := B.returns
  have hts := atoms_spec (ws := (kW yX1_item cX1_item 3 (some .int))) B.pre
  have hts := fun w h => hts w (List.mem_cons_of_mem _ h)
  have hown : s₀.vm.findClass RX1 = some m₀.cls := findClass_of_methodNamed B.named
  have hlocks := B.notSynchronized
  subst hsz
  have hD := hD0.self (sz := s₀.heap.size)
  generalize hAe : va_A [(kX1 aFl vFl xn), (kAI vFl cI 32 ff)] s₀.heap.size = A at hD ⊢
  have hA : ∀ q : Nat, s₀.heap.size ≤ q → A q := fun q h => by rw [← hAe]; exact Or.inr h
  have hS : va_S A s₀.heap s₀.heap [] := va_S.rf
  have hP : va_P (dC, dI) vwCl [(kX1 aFl vFl xn), (kAI vFl cI 32 ff)] s₀.heap := hP
  have hl := lv_entry ([.ref aFl, .int k1, .int i1]) (n := 3) (Nat.le_of_ble_eq_true rfl)
  rw [lg_entry_eq]
  generalize (lg_sl ([.ref aFl, .int k1, .int i1]) ++ List.replicate (3 - (lg_sl ([.ref aFl, .int k1, .int i1])).length) Slot.unset).toArray = ls at hl ⊢
  have hl : lv_has ls 3 [(0, .ref aFl), (1, .int k1), (2, .int i1)] := hl
  obtain ⟨H, hH⟩ : ∃ z : Heap, z = s₀.heap := ⟨_, rfl⟩
  rw [← hH] at hP
  have hS : va_S A s₀.heap H [] := by rw [hH]; exact hS
  refine k_heap hH ?_
  have hD : va_D A [(kX1 aFl vFl xn), (kAI vFl cI 32 ff)] := hD
  obtain ⟨locs, hlo⟩ : ∃ z : List Loc, z = [] := ⟨_, rfl⟩
  rw [← hlo] at hS ⊢
  clear hlo hH hAe hD0
  refine lv_aload_n hx₀ hb dX1_item_0 rfl (lv_at hl 0 rfl) ?_
  refine lv_iload_n hx₀ hb dX1_item_1 rfl (lv_at hl 1 rfl) ?_
  obtain ⟨hPc, hDc, hFc, hC⟩ := k_cw (wc := [(kX1 aFl vFl xn)]) hP hD hS hA [0] (by decide +kernel) rfl
  refine va_calli (va_runV (As := [.int k1]) (rest := []) ⟨hx₀, hb, hml, hown, hts⟩ (j_fHas l dC dI cI cJ cQ H.size aFl k1 vFl xn) (cwV 1 hts (kGV wd_426 wd_440 wd_424 wd_425 wd_26) rfl rfl rfl (by decide +kernel) ⟨Nat.le_of_ble_eq_true rfl, Nat.le_of_ble_eq_true rfl⟩) (k_preV1 (q0 := 0) hK hPc hDc hN rfl) rfl rfl hl.1 rfl (lv_room (Nat.le_of_ble_eq_true rfl)) dX1_item_2 ⟨by decide +kernel, by decide +kernel⟩) hS (fun q _ h => hFc q h) hFc (fun r_1 u₀ t₀ H1 locs ht hvm hw hB hz1 hk1 hS => ?_)
  obtain ⟨hP1, hK1, hD1⟩ := hB
  rw [ht] at hP1
  have hJ := k_jn (wr := [(kAI vFl cI 32 ff)]) (wt := [(kAI vFl cI 32 ff), (kX1 aFl vFl xn)]) hP hD hC [1] rfl (by decide +kernel) (by decide +kernel) hk1 hFc hP1 hD1 rfl
  clear hP hD hPc hDc hFc hC hP1 hD1 hK1 hz1 hk1 hvm ht
  obtain ⟨hP, hD⟩ := hJ
  generalize H1 = H at hP hS ⊢
  try dsimp only at hw
  by_cases c_2 : 0 ≤ k1 ∧ k1 < xn
  · rw [if_pos c_2] at hw
    refine k_topi (v := 1) hw ?_
    refine lv_if_eq (tgt := 34) hx₀ hb dX1_item_5 (by decide) (fun c9 => absurd c9 (by decide +kernel)) (fun _ => ?_)
    refine lv_iconst (v := 4) hx₀ hb dX1_item_8 (by decide +kernel) ?_
    refine lv_iload_n hx₀ hb dX1_item_9 rfl (lv_at hl 1 rfl) ?_
    refine lv_imul hx₀ hb dX1_item_10 ?_
    refine lv_iload_n hx₀ hb dX1_item_11 rfl (lv_at hl 2 rfl) ?_
    refine lv_iadd hx₀ hb dX1_item_12 ?_
    refine lv_aload_n hx₀ hb dX1_item_13 rfl (lv_at hl 0 rfl) ?_
    refine va_get (D := (dC, dI)) (ci := 1) (v := .ref vFl) (C := RX1) (T := TX1) (N := 2) hx₀ hb hts inlX1 hown hK hP 1 rfl rfl 0 (by decide) (hts (.fieldLink RX1 9 "BittenStick$Flights" "items" "[I") wd_77) (fun _ h9 => h9) rfl dX1_item_14 ?_
    refine va_alen (v := 32) hx₀ hb hK hP 0 0 rfl rfl rfl dX1_item_17 ?_
    refine lv_icmp_ge (tgt := 34) hx₀ hb dX1_item_18 (by decide) (fun c9 => (lf_j_fItem_1 xn i1 k1 hh0 hh1 c_2 c9).elim) (fun c_3 => ?_)
    refine lv_aload_n hx₀ hb dX1_item_21 rfl (lv_at hl 0 rfl) ?_
    refine va_get (D := (dC, dI)) (ci := 1) (v := .ref vFl) (C := RX1) (T := TX1) (N := 2) hx₀ hb hts inlX1 hown hK hP 1 rfl rfl 0 (by decide) (hts (.fieldLink RX1 9 "BittenStick$Flights" "items" "[I") wd_77) (fun _ h9 => h9) rfl dX1_item_22 ?_
    refine lv_iconst (v := 4) hx₀ hb dX1_item_25 (by decide +kernel) ?_
    refine lv_iload_n hx₀ hb dX1_item_26 rfl (lv_at hl 1 rfl) ?_
    refine lv_imul hx₀ hb dX1_item_27 ?_
    refine lv_iload_n hx₀ hb dX1_item_28 rfl (lv_at hl 2 rfl) ?_
    refine lv_iadd hx₀ hb dX1_item_29 ?_
    refine va_iald hx₀ hb hK hP 0 0 rfl rfl (vp_in_iff.mpr (lf_j_fItem_2 xn i1 k1 hh0 hh1 c_2 c_3)) dX1_item_30 ?_
    refine lv_goto (tgt := 35) hx₀ hb dX1_item_31 (by decide) ?_
    obtain ⟨hP9, hD9⟩ := k_c2 (wc := [(kX1 aFl vFl xn), (kAI vFl cI 32 ff)]) hP hD [1, 0] (by decide +kernel) rfl
    exact W.iret (v := ff ((4 * k1) + i1).toNatClampNeg) hx₀ hb hr (fun t₀ ht hW => ⟨⟨ff ((4 * k1) + i1).toNatClampNeg, (), rfl, ((if_pos (c_2)).symm), by rw [ht]; exact hP9, va_K.moved hW.alike hK, hD9⟩, hS.F ht⟩) hS.2.2 dX1_item_35
  rw [if_neg c_2] at hw
  refine k_topi (v := 0) hw ?_
  refine lv_if_eq (tgt := 34) hx₀ hb dX1_item_5 (by decide) (fun _ => ?_) (fun c9 => absurd (by decide +kernel) c9)
  refine lv_iconst (v := (-1)) hx₀ hb dX1_item_34 (by decide +kernel) ?_
  obtain ⟨hP9, hD9⟩ := k_c2 (wc := [(kX1 aFl vFl xn), (kAI vFl cI 32 ff)]) hP hD [1, 0] (by decide +kernel) rfl
  exact W.iret (v := (-1)) hx₀ hb hr (fun t₀ ht hW => ⟨⟨(-1), (), rfl, ((if_neg (c_2)).symm), by rw [ht]; exact hP9, va_K.moved hW.alike hK, hD9⟩, hS.F ht⟩) hS.2.2 dX1_item_35
set_option maxHeartbeats 4000000 in
set_option maxRecDepth 100000 in
theorem j_passengerOf (l : Launch) (dC : Nat → ClassId) (dI : Nat → Nat → Nat) (cI cJ cQ : ClassId) (sz : Nat) (aFl : Nat) (k1 : Int32) (vFl : Nat) (xn : Int32) (ff : Nat → Int32) (hh0 : 0 ≤ xn ∧ xn ≤ 8) : Met l yX1_passengerOf (kW yX1_passengerOf cX1_passengerOf 2 (some .int)) { frames := 2, cells := 0, slots := 0, locals := 43 } (kPre dC dI cI cJ cQ sz [.ref aFl, .int k1] [(kX1 aFl vFl xn), (kAI vFl cI 32 ff)]) (va_Qi (fun (r : Int32) (u : Unit) => (r = kIt xn ff k1 0)) (fun (u : Unit) t₀ => kB dC dI cI cJ cQ (va_A [(kX1 aFl vFl xn), (kAI vFl cI 32 ff)] sz) [(kX1 aFl vFl xn), (kAI vFl cI 32 ff)] t₀) (va_A [(kX1 aFl vFl xn), (kAI vFl cI 32 ff)] sz)) 0 0 (va_A [(kX1 aFl vFl xn), (kAI vFl cI 32 ff)] sz) := by
  refine Met.ofW (cc := cX1_passengerOf) (maxL := 2) (ret := (some .int)) (by decide) rfl ?_
  intro p₀ e₀ s₀ m₀ args below meth c₀ s₁ B hml hv₀
  obtain ⟨rfl, hsz, hP, hK, hD0, hN⟩ := hv₀
  have hx₀ := B.exec
  have hb := B.bytes
  have hr := B.returns
  have hts := atoms_spec (ws := (kW yX1_passengerOf cX1_passengerOf 2 (some .int))) B.pre
  have hts := fun w h => hts w (List.mem_cons_of_mem _ h)
  have hown : s₀.vm.findClass RX1 = some m₀.cls := findClass_of_methodNamed B.named
  have hlocks := B.notSynchronized
  subst hsz
  have hD := hD0.self (sz := s₀.heap.size)
  generalize hAe : va_A [(kX1 aFl vFl xn), (kAI vFl cI 32 ff)] s₀.heap.size = A at hD ⊢
  have hA : ∀ q : Nat, s₀.heap.size ≤ q → A q := fun q h => by rw [← hAe]; exact Or.inr h
  have hS : va_S A s₀.heap s₀.heap [] := va_S.rf
  have hP : va_P (dC, dI) vwCl [(kX1 aFl vFl xn), (kAI vFl cI 32 ff)] s₀.heap := hP
  have hl := lv_entry ([.ref aFl, .int k1]) (n := 2) (Nat.le_of_ble_eq_true rfl)
  rw [lg_entry_eq]
  generalize (lg_sl ([.ref aFl, .int k1]) ++ List.replicate (2 - (lg_sl ([.ref aFl, .int k1])).length) Slot.unset).toArray = ls at hl ⊢
  have hl : lv_has ls 2 [(0, .ref aFl), (1, .int k1)] := hl
  obtain ⟨H, hH⟩ : ∃ z : Heap, z = s₀.heap := ⟨_, rfl⟩
  rw [← hH] at hP
  have hS : va_S A s₀.heap H [] := by rw [hH]; exact hS
  refine k_heap hH ?_
  have hD : va_D A [(kX1 aFl vFl xn), (kAI vFl cI 32 ff)] := hD
  obtain ⟨locs, hlo⟩ : ∃ z : List Loc, z = [] := ⟨_, rfl⟩
  rw [← hlo] at hS ⊢
  clear hlo hH hAe hD0
  refine lv_aload_n hx₀ hb dX1_passengerOf_0 rfl (lv_at hl 0 rfl) ?_
  refine lv_iload_n hx₀ hb dX1_passengerOf_1 rfl (lv_at hl 1 rfl) ?_
  refine lv_iconst (v := 0) hx₀ hb dX1_passengerOf_2 (by decide +kernel) ?_
  obtain ⟨hPc, hDc, hFc, hC⟩ := k_cw (wc := [(kX1 aFl vFl xn), (kAI vFl cI 32 ff)]) hP hD hS hA [0, 1] (by decide +kernel) rfl
  refine va_calli (va_runV (As := [.int k1, .int 0]) (rest := []) ⟨hx₀, hb, hml, hown, hts⟩ (j_fItem l dC dI cI cJ cQ H.size aFl k1 0 vFl xn ff (hh0) (show 0 ≤ (0 : Int32) ∧ (0 : Int32) ≤ 3 from ⟨(by decide), (by decide)⟩)) (cwV 2 hts (kGV wd_439 wd_436 wd_437 wd_438 wd_26) rfl rfl rfl (by decide +kernel) ⟨Nat.le_of_ble_eq_true rfl, Nat.le_of_ble_eq_true rfl⟩) (k_preV1 (q0 := 0) hK hPc hDc hN rfl) rfl rfl hl.1 rfl (lv_room (Nat.le_of_ble_eq_true rfl)) dX1_passengerOf_3 ⟨by decide +kernel, by decide +kernel⟩) hS (fun q _ h => hFc q h) hFc (fun r_1 u₀ t₀ H1 locs ht hvm hw hB hz1 hk1 hS => ?_)
  obtain ⟨hP1, hK1, hD1⟩ := hB
  rw [ht] at hP1
  have hJ := k_jn (wr := []) (wt := [(kX1 aFl vFl xn), (kAI vFl cI 32 ff)]) hP hD hC [] rfl (by decide +kernel) (by decide +kernel) hk1 hFc hP1 hD1 rfl
  clear hP hD hPc hDc hFc hC hP1 hD1 hK1 hz1 hk1 hvm ht
  obtain ⟨hP, hD⟩ := hJ
  generalize H1 = H at hP hS ⊢
  try dsimp only at hw
  refine k_topi (v := kIt xn ff k1 (0 : Int32)) hw ?_
  obtain ⟨hP9, hD9⟩ := k_c2 (wc := [(kX1 aFl vFl xn), (kAI vFl cI 32 ff)]) hP hD [0, 1] (by decide +kernel) rfl
  exact W.iret (v := kIt xn ff k1 (0 : Int32)) hx₀ hb hr (fun t₀ ht hW => ⟨⟨kIt xn ff k1 (0 : Int32), (), rfl, (rfl), by rw [ht]; exact hP9, va_K.moved hW.alike hK, hD9⟩, hS.F ht⟩) hS.2.2 dX1_passengerOf_6
set_option maxHeartbeats 4000000 in
set_option maxRecDepth 100000 in
theorem j_leftOf (l : Launch) (dC : Nat → ClassId) (dI : Nat → Nat → Nat) (cI cJ cQ : ClassId) (sz : Nat) (aFl : Nat) (k1 : Int32) (vFl : Nat) (xn : Int32) (ff : Nat → Int32) (hh0 : 0 ≤ xn ∧ xn ≤ 8) : Met l yX1_leftOf (kW yX1_leftOf cX1_leftOf 2 (some .int)) { frames := 2, cells := 0, slots := 0, locals := 43 } (kPre dC dI cI cJ cQ sz [.ref aFl, .int k1] [(kX1 aFl vFl xn), (kAI vFl cI 32 ff)]) (va_Qi (fun (r : Int32) (u : Unit) => (r = kIt xn ff k1 1)) (fun (u : Unit) t₀ => kB dC dI cI cJ cQ (va_A [(kX1 aFl vFl xn), (kAI vFl cI 32 ff)] sz) [(kX1 aFl vFl xn), (kAI vFl cI 32 ff)] t₀) (va_A [(kX1 aFl vFl xn), (kAI vFl cI 32 ff)] sz)) 0 0 (va_A [(kX1 aFl vFl xn), (kAI vFl cI 32 ff)] sz) := by
  refine Met.ofW (cc := cX1_leftOf) (maxL := 2) (ret := (some .int)) (by decide) rfl ?_
  intro p₀ e₀ s₀ m₀ args below meth c₀ s₁ B hml hv₀
  obtain ⟨rfl, hsz, hP, hK, hD0, hN⟩ := hv₀
  have hx₀ := B.exec
  have hb := B.bytes
  have hr := B.returns
  have hts := atoms_spec (ws := (kW yX1_leftOf cX1_leftOf 2 (some .int))) B.pre
  have hts := fun w h => hts w (List.mem_cons_of_mem _ h)
  have hown : s₀.vm.findClass RX1 = some m₀.cls := findClass_of_methodNamed B.named
  have hlocks := B.notSynchronized
  subst hsz
  have hD := hD0.self (sz := s₀.heap.size)
  generalize hAe : va_A [(kX1 aFl vFl xn), (kAI vFl cI 32 ff)] s₀.heap.size = A at hD ⊢
  have hA : ∀ q : Nat, s₀.heap.size ≤ q → A q := fun q h => by rw [← hAe]; exact Or.inr h
  have hS : va_S A s₀.heap s₀.heap [] := va_S.rf
  have hP : va_P (dC, dI) vwCl [(kX1 aFl vFl xn), (kAI vFl cI 32 ff)] s₀.heap := hP
  have hl := lv_entry ([.ref aFl, .int k1]) (n := 2) (Nat.le_of_ble_eq_true rfl)
  rw [lg_entry_eq]
  generalize (lg_sl ([.ref aFl, .int k1]) ++ List.replicate (2 - (lg_sl ([.ref aFl, .int k1])).length) Slot.unset).toArray = ls at hl ⊢
  have hl : lv_has ls 2 [(0, .ref aFl), (1, .int k1)] := hl
  obtain ⟨H, hH⟩ : ∃ z : Heap, z = s₀.heap := ⟨_, rfl⟩
  rw [← hH] at hP
  have hS : va_S A s₀.heap H [] := by rw [hH]; exact hS
  refine k_heap hH ?_
  have hD : va_D A [(kX1 aFl vFl xn), (kAI vFl cI 32 ff)] := hD
  obtain ⟨locs, hlo⟩ : ∃ z : List Loc, z = [] := ⟨_, rfl⟩
  rw [← hlo] at hS ⊢
  clear hlo hH hAe hD0
  refine lv_aload_n hx₀ hb dX1_leftOf_0 rfl (lv_at hl 0 rfl) ?_
  refine lv_iload_n hx₀ hb dX1_leftOf_1 rfl (lv_at hl 1 rfl) ?_
  refine lv_iconst (v := 1) hx₀ hb dX1_leftOf_2 (by decide +kernel) ?_
  obtain ⟨hPc, hDc, hFc, hC⟩ := k_cw (wc := [(kX1 aFl vFl xn), (kAI vFl cI 32 ff)]) hP hD hS hA [0, 1] (by decide +kernel) rfl
  refine va_calli (va_runV (As := [.int k1, .int 1]) (rest := []) ⟨hx₀, hb, hml, hown, hts⟩ (j_fItem l dC dI cI cJ cQ H.size aFl k1 1 vFl xn ff (hh0) (show 0 ≤ (1 : Int32) ∧ (1 : Int32) ≤ 3 from ⟨(by decide), (by decide)⟩)) (cwV 2 hts (kGV wd_439 wd_436 wd_437 wd_438 wd_26) rfl rfl rfl (by decide +kernel) ⟨Nat.le_of_ble_eq_true rfl, Nat.le_of_ble_eq_true rfl⟩) (k_preV1 (q0 := 0) hK hPc hDc hN rfl) rfl rfl hl.1 rfl (lv_room (Nat.le_of_ble_eq_true rfl)) dX1_leftOf_3 ⟨by decide +kernel, by decide +kernel⟩) hS (fun q _ h => hFc q h) hFc (fun r_1 u₀ t₀ H1 locs ht hvm hw hB hz1 hk1 hS => ?_)
  obtain ⟨hP1, hK1, hD1⟩ := hB
  rw [ht] at hP1
  have hJ := k_jn (wr := []) (wt := [(kX1 aFl vFl xn), (kAI vFl cI 32 ff)]) hP hD hC [] rfl (by decide +kernel) (by decide +kernel) hk1 hFc hP1 hD1 rfl
  clear hP hD hPc hDc hFc hC hP1 hD1 hK1 hz1 hk1 hvm ht
  obtain ⟨hP, hD⟩ := hJ
  generalize H1 = H at hP hS ⊢
  try dsimp only at hw
  refine k_topi (v := kIt xn ff k1 (1 : Int32)) hw ?_
  obtain ⟨hP9, hD9⟩ := k_c2 (wc := [(kX1 aFl vFl xn), (kAI vFl cI 32 ff)]) hP hD [0, 1] (by decide +kernel) rfl
  exact W.iret (v := kIt xn ff k1 (1 : Int32)) hx₀ hb hr (fun t₀ ht hW => ⟨⟨kIt xn ff k1 (1 : Int32), (), rfl, (rfl), by rw [ht]; exact hP9, va_K.moved hW.alike hK, hD9⟩, hS.F ht⟩) hS.2.2 dX1_leftOf_6
set_option maxHeartbeats 4000000 in
set_option maxRecDepth 100000 in
theorem j_rightOf (l : Launch) (dC : Nat → ClassId) (dI : Nat → Nat → Nat) (cI cJ cQ : ClassId) (sz : Nat) (aFl : Nat) (k1 : Int32) (vFl : Nat) (xn : Int32) (ff : Nat → Int32) (hh0 : 0 ≤ xn ∧ xn ≤ 8) : Met l yX1_rightOf (kW yX1_rightOf cX1_rightOf 2 (some .int)) { frames := 2, cells := 0, slots := 0, locals := 43 } (kPre dC dI cI cJ cQ sz [.ref aFl, .int k1] [(kX1 aFl vFl xn), (kAI vFl cI 32 ff)]) (va_Qi (fun (r : Int32) (u : Unit) => (r = kIt xn ff k1 2)) (fun (u : Unit) t₀ => kB dC dI cI cJ cQ (va_A [(kX1 aFl vFl xn), (kAI vFl cI 32 ff)] sz) [(kX1 aFl vFl xn), (kAI vFl cI 32 ff)] t₀) (va_A [(kX1 aFl vFl xn), (kAI vFl cI 32 ff)] sz)) 0 0 (va_A [(kX1 aFl vFl xn), (kAI vFl cI 32 ff)] sz) := by
  refine Met.ofW (cc := cX1_rightOf) (maxL := 2) (ret := (some .int)) (by decide) rfl ?_
  intro p₀ e₀ s₀ m₀ args below meth c₀ s₁ B hml hv₀
  obtain ⟨rfl, hsz, hP, hK, hD0, hN⟩ := hv₀
  have hx₀ := B.exec
  have hb := B.bytes
  have hr := B.returns
  have hts := atoms_spec (ws := (kW yX1_rightOf cX1_rightOf 2 (some .int))) B.pre
  have hts := fun w h => hts w (List.mem_cons_of_mem _ h)
  have hown : s₀.vm.findClass RX1 = some m₀.cls := findClass_of_methodNamed B.named
  have hlocks := B.notSynchronized
  subst hsz
  have hD := hD0.self (sz := s₀.heap.size)
  generalize hAe : va_A [(kX1 aFl vFl xn), (kAI vFl cI 32 ff)] s₀.heap.size = A at hD ⊢
  have hA : ∀ q : Nat, s₀.heap.size ≤ q → A q := fun q h => by rw [← hAe]; exact Or.inr h
  have hS : va_S A s₀.heap s₀.heap [] := va_S.rf
  have hP : va_P (dC, dI) vwCl [(kX1 aFl vFl xn), (kAI vFl cI 32 ff)] s₀.heap := hP
  have hl := lv_entry ([.ref aFl, .int k1]) (n := 2) (Nat.le_of_ble_eq_true rfl)
  rw [lg_entry_eq]
  generalize (lg_sl ([.ref aFl, .int k1]) ++ List.replicate (2 - (lg_sl ([.ref aFl, .int k1])).length) Slot.unset).toArray = ls at hl ⊢
  have hl : lv_has ls 2 [(0, .ref aFl), (1, .int k1)] := hl
  obtain ⟨H, hH⟩ : ∃ z : Heap, z = s₀.heap := ⟨_, rfl⟩
  rw [← hH] at hP
  have hS : va_S A s₀.heap H [] := by rw [hH]; exact hS
  refine k_heap hH ?_
  have hD : va_D A [(kX1 aFl vFl xn), (kAI vFl cI 32 ff)] := hD
  obtain ⟨locs, hlo⟩ : ∃ z : List Loc, z = [] := ⟨_, rfl⟩
  rw [← hlo] at hS ⊢
  clear hlo hH hAe hD0
  refine lv_aload_n hx₀ hb dX1_rightOf_0 rfl (lv_at hl 0 rfl) ?_
  refine lv_iload_n hx₀ hb dX1_rightOf_1 rfl (lv_at hl 1 rfl) ?_
  refine lv_iconst (v := 2) hx₀ hb dX1_rightOf_2 (by decide +kernel) ?_
  obtain ⟨hPc, hDc, hFc, hC⟩ := k_cw (wc := [(kX1 aFl vFl xn), (kAI vFl cI 32 ff)]) hP hD hS hA [0, 1] (by decide +kernel) rfl
  refine va_calli (va_runV (As := [.int k1, .int 2]) (rest := []) ⟨hx₀, hb, hml, hown, hts⟩ (j_fItem l dC dI cI cJ cQ H.size aFl k1 2 vFl xn ff (hh0) (show 0 ≤ (2 : Int32) ∧ (2 : Int32) ≤ 3 from ⟨(by decide), (by decide)⟩)) (cwV 2 hts (kGV wd_439 wd_436 wd_437 wd_438 wd_26) rfl rfl rfl (by decide +kernel) ⟨Nat.le_of_ble_eq_true rfl, Nat.le_of_ble_eq_true rfl⟩) (k_preV1 (q0 := 0) hK hPc hDc hN rfl) rfl rfl hl.1 rfl (lv_room (Nat.le_of_ble_eq_true rfl)) dX1_rightOf_3 ⟨by decide +kernel, by decide +kernel⟩) hS (fun q _ h => hFc q h) hFc (fun r_1 u₀ t₀ H1 locs ht hvm hw hB hz1 hk1 hS => ?_)
  obtain ⟨hP1, hK1, hD1⟩ := hB
  rw [ht] at hP1
  have hJ := k_jn (wr := []) (wt := [(kX1 aFl vFl xn), (kAI vFl cI 32 ff)]) hP hD hC [] rfl (by decide +kernel) (by decide +kernel) hk1 hFc hP1 hD1 rfl
  clear hP hD hPc hDc hFc hC hP1 hD1 hK1 hz1 hk1 hvm ht
  obtain ⟨hP, hD⟩ := hJ
  generalize H1 = H at hP hS ⊢
  try dsimp only at hw
  refine k_topi (v := kIt xn ff k1 (2 : Int32)) hw ?_
  obtain ⟨hP9, hD9⟩ := k_c2 (wc := [(kX1 aFl vFl xn), (kAI vFl cI 32 ff)]) hP hD [0, 1] (by decide +kernel) rfl
  exact W.iret (v := kIt xn ff k1 (2 : Int32)) hx₀ hb hr (fun t₀ ht hW => ⟨⟨kIt xn ff k1 (2 : Int32), (), rfl, (rfl), by rw [ht]; exact hP9, va_K.moved hW.alike hK, hD9⟩, hS.F ht⟩) hS.2.2 dX1_rightOf_6
set_option maxHeartbeats 4000000 in
set_option maxRecDepth 100000 in
theorem j_heightOf (l : Launch) (dC : Nat → ClassId) (dI : Nat → Nat → Nat) (cI cJ cQ : ClassId) (sz : Nat) (aFl : Nat) (k1 : Int32) (vFl : Nat) (xn : Int32) (ff : Nat → Int32) (hh0 : 0 ≤ xn ∧ xn ≤ 8) : Met l yX1_heightOf (kW yX1_heightOf cX1_heightOf 2 (some .int)) { frames := 2, cells := 0, slots := 0, locals := 43 } (kPre dC dI cI cJ cQ sz [.ref aFl, .int k1] [(kX1 aFl vFl xn), (kAI vFl cI 32 ff)]) (va_Qi (fun (r : Int32) (u : Unit) => (r = kIt xn ff k1 3)) (fun (u : Unit) t₀ => kB dC dI cI cJ cQ (va_A [(kX1 aFl vFl xn), (kAI vFl cI 32 ff)] sz) [(kX1 aFl vFl xn), (kAI vFl cI 32 ff)] t₀) (va_A [(kX1 aFl vFl xn), (kAI vFl cI 32 ff)] sz)) 0 0 (va_A [(kX1 aFl vFl xn), (kAI vFl cI 32 ff)] sz) := by
  refine Met.ofW (cc := cX1_heightOf) (maxL := 2) (ret := (some .int)) (by decide) rfl ?_
  intro p₀ e₀ s₀ m₀ args below meth c₀ s₁ B hml hv₀
  obtain ⟨rfl, hsz, hP, hK, hD0, hN⟩ := hv₀
  have hx₀ := B.exec
  have hb := B.bytes
  have hr := B.returns
  have hts := atoms_spec (ws := (kW yX1_heightOf cX1_heightOf 2 (some .int))) B.pre
  have hts := fun w h => hts w (List.mem_cons_of_mem _ h)
  have hown : s₀.vm.findClass RX1 = some m₀.cls := findClass_of_methodNamed B.named
  have hlocks := B.notSynchronized
  subst hsz
  have hD := hD0.self (sz := s₀.heap.size)
  generalize hAe : va_A [(kX1 aFl vFl xn), (kAI vFl cI 32 ff)] s₀.heap.size = A at hD ⊢
  have hA : ∀ q : Nat, s₀.heap.size ≤ q → A q := fun q h => by rw [← hAe]; exact Or.inr h
  have hS : va_S A s₀.heap s₀.heap [] := va_S.rf
  have hP : va_P (dC, dI) vwCl [(kX1 aFl vFl xn), (kAI vFl cI 32 ff)] s₀.heap := hP
  have hl := lv_entry ([.ref aFl, .int k1]) (n := 2) (Nat.le_of_ble_eq_true rfl)
  rw [lg_entry_eq]
  generalize (lg_sl ([.ref aFl, .int k1]) ++ List.replicate (2 - (lg_sl ([.ref aFl, .int k1])).length) Slot.unset).toArray = ls at hl ⊢
  have hl : lv_has ls 2 [(0, .ref aFl), (1, .int k1)] := hl
  obtain ⟨H, hH⟩ : ∃ z : Heap, z = s₀.heap := ⟨_, rfl⟩
  rw [← hH] at hP
  have hS : va_S A s₀.heap H [] := by rw [hH]; exact hS
  refine k_heap hH ?_
  have hD : va_D A [(kX1 aFl vFl xn), (kAI vFl cI 32 ff)] := hD
  obtain ⟨locs, hlo⟩ : ∃ z : List Loc, z = [] := ⟨_, rfl⟩
  rw [← hlo] at hS ⊢
  clear hlo hH hAe hD0
  refine lv_aload_n hx₀ hb dX1_heightOf_0 rfl (lv_at hl 0 rfl) ?_
  refine lv_iload_n hx₀ hb dX1_heightOf_1 rfl (lv_at hl 1 rfl) ?_
  refine lv_iconst (v := 3) hx₀ hb dX1_heightOf_2 (by decide +kernel) ?_
  obtain ⟨hPc, hDc, hFc, hC⟩ := k_cw (wc := [(kX1 aFl vFl xn), (kAI vFl cI 32 ff)]) hP hD hS hA [0, 1] (by decide +kernel) rfl
  refine va_calli (va_runV (As := [.int k1, .int 3]) (rest := []) ⟨hx₀, hb, hml, hown, hts⟩ (j_fItem l dC dI cI cJ cQ H.size aFl k1 3 vFl xn ff (hh0) (show 0 ≤ (3 : Int32) ∧ (3 : Int32) ≤ 3 from ⟨(by decide), (by decide)⟩)) (cwV 2 hts (kGV wd_439 wd_436 wd_437 wd_438 wd_26) rfl rfl rfl (by decide +kernel) ⟨Nat.le_of_ble_eq_true rfl, Nat.le_of_ble_eq_true rfl⟩) (k_preV1 (q0 := 0) hK hPc hDc hN rfl) rfl rfl hl.1 rfl (lv_room (Nat.le_of_ble_eq_true rfl)) dX1_heightOf_3 ⟨by decide +kernel, by decide +kernel⟩) hS (fun q _ h => hFc q h) hFc (fun r_1 u₀ t₀ H1 locs ht hvm hw hB hz1 hk1 hS => ?_)
  obtain ⟨hP1, hK1, hD1⟩ := hB
  rw [ht] at hP1
  have hJ := k_jn (wr := []) (wt := [(kX1 aFl vFl xn), (kAI vFl cI 32 ff)]) hP hD hC [] rfl (by decide +kernel) (by decide +kernel) hk1 hFc hP1 hD1 rfl
  clear hP hD hPc hDc hFc hC hP1 hD1 hK1 hz1 hk1 hvm ht
  obtain ⟨hP, hD⟩ := hJ
  generalize H1 = H at hP hS ⊢
  try dsimp only at hw
  refine k_topi (v := kIt xn ff k1 (3 : Int32)) hw ?_
  obtain ⟨hP9, hD9⟩ := k_c2 (wc := [(kX1 aFl vFl xn), (kAI vFl cI 32 ff)]) hP hD [0, 1] (by decide +kernel) rfl
  exact W.iret (v := kIt xn ff k1 (3 : Int32)) hx₀ hb hr (fun t₀ ht hW => ⟨⟨kIt xn ff k1 (3 : Int32), (), rfl, (rfl), by rw [ht]; exact hP9, va_K.moved hW.alike hK, hD9⟩, hS.F ht⟩) hS.2.2 dX1_heightOf_6
set_option maxHeartbeats 4000000 in
set_option maxRecDepth 100000 in
theorem j_gSet (l : Launch) (dC : Nat → ClassId) (dI : Nat → Nat → Nat) (cI cJ cQ : ClassId) (sz : Nat) (ag : Nat) (u0 : Int32) (u1 : Int32) (u2 : Int32) (u3 : Int32) : Met l yX3_setOut (kW yX3_setOut cX3_setOut 1 none) { frames := 0, cells := 0, slots := 0, locals := 0 } (kPre dC dI cI cJ cQ sz [.ref ag] [(kX3 ag u0 u1 u2 u3)]) (va_Qv (fun (u : Unit) => True) (fun (u : Unit) t₀ => kB dC dI cI cJ cQ (va_A [(kX3 ag u0 u1 u2 u3)] sz) [(kX3 ag u0 u1 u0 0)] t₀) (va_A [(kX3 ag u0 u1 u2 u3)] sz)) 0 0 (va_A [(kX3 ag u0 u1 u2 u3)] sz) := by
  refine Met.ofW (cc := cX3_setOut) (maxL := 1) (ret := none) (by decide) rfl ?_
  intro p₀ e₀ s₀ m₀ args below meth c₀ s₁ B hml hv₀
  obtain ⟨rfl, hsz, hP, hK, hD0, hN⟩ := hv₀
  have hx₀ := B.exec
  have hb := B.bytes
  have hr := B.returns
  have hts := atoms_spec (ws := (kW yX3_setOut cX3_setOut 1 none)) B.pre
  have hts := fun w h => hts w (List.mem_cons_of_mem _ h)
  have hown : s₀.vm.findClass RX3 = some m₀.cls := findClass_of_methodNamed B.named
  have hlocks := B.notSynchronized
  subst hsz
  have hD := hD0.self (sz := s₀.heap.size)
  generalize hAe : va_A [(kX3 ag u0 u1 u2 u3)] s₀.heap.size = A at hD ⊢
  have hA : ∀ q : Nat, s₀.heap.size ≤ q → A q := fun q h => by rw [← hAe]; exact Or.inr h
  have hS : va_S A s₀.heap s₀.heap [] := va_S.rf
  have hP : va_P (dC, dI) vwCl [(kX3 ag u0 u1 u2 u3)] s₀.heap := hP
  have hl := lv_entry ([.ref ag]) (n := 1) (Nat.le_of_ble_eq_true rfl)
  rw [lg_entry_eq]
  generalize (lg_sl ([.ref ag]) ++ List.replicate (1 - (lg_sl ([.ref ag])).length) Slot.unset).toArray = ls at hl ⊢
  have hl : lv_has ls 1 [(0, .ref ag)] := hl
  obtain ⟨H, hH⟩ : ∃ z : Heap, z = s₀.heap := ⟨_, rfl⟩
  rw [← hH] at hP
  have hS : va_S A s₀.heap H [] := by rw [hH]; exact hS
  refine k_heap hH ?_
  have hD : va_D A [(kX3 ag u0 u1 u2 u3)] := hD
  obtain ⟨locs, hlo⟩ : ∃ z : List Loc, z = [] := ⟨_, rfl⟩
  rw [← hlo] at hS ⊢
  clear hlo hH hAe hD0
  refine lv_aload_n hx₀ hb dX3_setOut_0 rfl (lv_at hl 0 rfl) ?_
  refine lv_aload_n hx₀ hb dX3_setOut_1 rfl (lv_at hl 0 rfl) ?_
  refine va_get (D := (dC, dI)) (ci := 3) (v := .int u0) (C := RX3) (T := TX3) (N := 4) hx₀ hb hts inlX3 hown hK hP 0 rfl rfl 0 (by decide) (hts (.fieldLink RX3 7 "BittenStick$Goose" "told" "I") wd_475) (fun _ h9 => h9) rfl dX3_setOut_2 ?_
  refine va_put (D := (dC, dI)) (ci := 3) (v := .int u0) (ty := .int) (C := RX3) (T := TX3) (N := 4) hx₀ hb hts inlX3 tyX3 tyX3_ok nmX3 hown hK hP hD hS 0 rfl rfl 2 (by decide) (hts (.fieldLink RX3 13 "BittenStick$Goose" "strong" "I") wd_476) (fun _ h9 => h9) rfl (by decide +kernel) rfl rfl (Nat.le_of_ble_eq_true rfl) dX3_setOut_5 ?_
  clear hP hD hS
  intro H locs hP hD hS
  replace hP := k_w2 (wt := [(kX3 ag u0 u1 u0 u3)]) hP hD rfl
  replace hD := hP.2
  replace hP := hP.1
  refine lv_aload_n hx₀ hb dX3_setOut_8 rfl (lv_at hl 0 rfl) ?_
  refine lv_iconst (v := 0) hx₀ hb dX3_setOut_9 (by decide +kernel) ?_
  refine va_put (D := (dC, dI)) (ci := 3) (v := .int 0) (ty := .int) (C := RX3) (T := TX3) (N := 4) hx₀ hb hts inlX3 tyX3 tyX3_ok nmX3 hown hK hP hD hS 0 rfl rfl 3 (by decide) (hts (.fieldLink RX3 16 "BittenStick$Goose" "flown" "I") wd_477) (fun _ h9 => h9) rfl (by decide +kernel) rfl rfl (Nat.le_of_ble_eq_true rfl) dX3_setOut_10 ?_
  clear hP hD hS
  intro H locs hP hD hS
  replace hP := k_w2 (wt := [(kX3 ag u0 u1 u0 0)]) hP hD rfl
  replace hD := hP.2
  replace hP := hP.1
  obtain ⟨hP9, hD9⟩ := k_c2 (wc := [(kX3 ag u0 u1 u0 0)]) hP hD [0] (by decide +kernel) rfl
  exact W.vret hx₀ hb hr (fun t₀ ht hW => ⟨⟨(), rfl, trivial, by rw [ht]; exact hP9, va_K.moved hW.alike hK, hD9⟩, hS.F ht⟩) hS.2.2 dX3_setOut_13
set_option maxHeartbeats 4000000 in
set_option maxRecDepth 100000 in
theorem j_gFly (l : Launch) (dC : Nat → ClassId) (dI : Nat → Nat → Nat) (cI cJ cQ : ClassId) (sz : Nat) (ag : Nat) (u0 : Int32) (u1 : Int32) (u2 : Int32) (u3 : Int32) : Met l yX3_flyMile (kW yX3_flyMile cX3_flyMile 1 none) { frames := 0, cells := 0, slots := 0, locals := 0 } (kPre dC dI cI cJ cQ sz [.ref ag] [(kX3 ag u0 u1 u2 u3)]) (va_Qv (fun (u : kS) => ((u.1 0) = if u3 + 1 = u1 then u2 - 1 else u2) ∧ ((u.1 1) = if u3 + 1 = u1 then 0 else u3 + 1)) (fun (u : kS) t₀ => kB dC dI cI cJ cQ (va_A [(kX3 ag u0 u1 u2 u3)] sz) [(kX3 ag u0 u1 (u.1 0) (u.1 1))] t₀) (va_A [(kX3 ag u0 u1 u2 u3)] sz)) 0 0 (va_A [(kX3 ag u0 u1 u2 u3)] sz) := by
  refine Met.ofW (cc := cX3_flyMile) (maxL := 1) (ret := none) (by decide) rfl ?_
  intro p₀ e₀ s₀ m₀ args below meth c₀ s₁ B hml hv₀
  obtain ⟨rfl, hsz, hP, hK, hD0, hN⟩ := hv₀
  have hx₀ := B.exec
  have hb := B.bytes
  have hr := B.returns
  have hts := atoms_spec (ws := (kW yX3_flyMile cX3_flyMile 1 none)) B.pre
  have hts := fun w h => hts w (List.mem_cons_of_mem _ h)
  have hown : s₀.vm.findClass RX3 = some m₀.cls := findClass_of_methodNamed B.named
  have hlocks := B.notSynchronized
  subst hsz
  have hD := hD0.self (sz := s₀.heap.size)
  generalize hAe : va_A [(kX3 ag u0 u1 u2 u3)] s₀.heap.size = A at hD ⊢
  have hA : ∀ q : Nat, s₀.heap.size ≤ q → A q := fun q h => by rw [← hAe]; exact Or.inr h
  have hS : va_S A s₀.heap s₀.heap [] := va_S.rf
  have hP : va_P (dC, dI) vwCl [(kX3 ag u0 u1 u2 u3)] s₀.heap := hP
  have hl := lv_entry ([.ref ag]) (n := 1) (Nat.le_of_ble_eq_true rfl)
  rw [lg_entry_eq]
  generalize (lg_sl ([.ref ag]) ++ List.replicate (1 - (lg_sl ([.ref ag])).length) Slot.unset).toArray = ls at hl ⊢
  have hl : lv_has ls 1 [(0, .ref ag)] := hl
  obtain ⟨H, hH⟩ : ∃ z : Heap, z = s₀.heap := ⟨_, rfl⟩
  rw [← hH] at hP
  have hS : va_S A s₀.heap H [] := by rw [hH]; exact hS
  refine k_heap hH ?_
  have hD : va_D A [(kX3 ag u0 u1 u2 u3)] := hD
  obtain ⟨locs, hlo⟩ : ∃ z : List Loc, z = [] := ⟨_, rfl⟩
  rw [← hlo] at hS ⊢
  clear hlo hH hAe hD0
  refine lv_aload_n hx₀ hb dX3_flyMile_0 rfl (lv_at hl 0 rfl) ?_
  refine lv_dup hx₀ hb dX3_flyMile_1 rfl ?_
  refine va_get (D := (dC, dI)) (ci := 3) (v := .int u3) (C := RX3) (T := TX3) (N := 4) hx₀ hb hts inlX3 hown hK hP 0 rfl rfl 3 (by decide) (hts (.fieldLink RX3 16 "BittenStick$Goose" "flown" "I") wd_477) (fun _ h9 => h9) rfl dX3_flyMile_2 ?_
  refine lv_iconst (v := 1) hx₀ hb dX3_flyMile_5 (by decide +kernel) ?_
  refine lv_iadd hx₀ hb dX3_flyMile_6 ?_
  refine va_put (D := (dC, dI)) (ci := 3) (v := .int (u3 + 1)) (ty := .int) (C := RX3) (T := TX3) (N := 4) hx₀ hb hts inlX3 tyX3 tyX3_ok nmX3 hown hK hP hD hS 0 rfl rfl 3 (by decide) (hts (.fieldLink RX3 16 "BittenStick$Goose" "flown" "I") wd_477) (fun _ h9 => h9) rfl (by decide +kernel) rfl rfl (Nat.le_of_ble_eq_true rfl) dX3_flyMile_7 ?_
  clear hP hD hS
  intro H locs hP hD hS
  replace hP := k_w2 (wt := [(kX3 ag u0 u1 u2 (u3 + 1))]) hP hD rfl
  replace hD := hP.2
  replace hP := hP.1
  refine lv_aload_n hx₀ hb dX3_flyMile_10 rfl (lv_at hl 0 rfl) ?_
  refine va_get (D := (dC, dI)) (ci := 3) (v := .int (u3 + 1)) (C := RX3) (T := TX3) (N := 4) hx₀ hb hts inlX3 hown hK hP 0 rfl rfl 3 (by decide) (hts (.fieldLink RX3 16 "BittenStick$Goose" "flown" "I") wd_477) (fun _ h9 => h9) rfl dX3_flyMile_11 ?_
  refine lv_aload_n hx₀ hb dX3_flyMile_14 rfl (lv_at hl 0 rfl) ?_
  refine va_get (D := (dC, dI)) (ci := 3) (v := .int u1) (C := RX3) (T := TX3) (N := 4) hx₀ hb hts inlX3 hown hK hP 0 rfl rfl 1 (by decide) (hts (.fieldLink RX3 19 "BittenStick$Goose" "tires" "I") wd_483) (fun _ h9 => h9) rfl dX3_flyMile_15 ?_
  refine lv_icmp_ne (tgt := 36) hx₀ hb dX3_flyMile_18 (by decide) (fun c_1 => ?_) (fun c_1 => ?_)
  · obtain ⟨hP9, hD9⟩ := k_c2 (wc := [(kX3 ag u0 u1 u2 (u3 + 1))]) hP hD [0] (by decide +kernel) rfl
    exact W.vret hx₀ hb hr (fun t₀ ht hW => ⟨⟨(k_fn [u2, (u3 + 1)], k_fa [], k_fl [], k_fL [], k_fp []), rfl, ⟨(show u2 = if u3 + 1 = u1 then u2 - 1 else u2 from (if_neg (c_1)).symm), (show (u3 + 1) = if u3 + 1 = u1 then 0 else u3 + 1 from (if_neg (c_1)).symm)⟩, by rw [ht]; exact hP9, va_K.moved hW.alike hK, hD9⟩, hS.F ht⟩) hS.2.2 dX3_flyMile_36
  · refine lv_aload_n hx₀ hb dX3_flyMile_21 rfl (lv_at hl 0 rfl) ?_
    refine lv_dup hx₀ hb dX3_flyMile_22 rfl ?_
    refine va_get (D := (dC, dI)) (ci := 3) (v := .int u2) (C := RX3) (T := TX3) (N := 4) hx₀ hb hts inlX3 hown hK hP 0 rfl rfl 2 (by decide) (hts (.fieldLink RX3 13 "BittenStick$Goose" "strong" "I") wd_476) (fun _ h9 => h9) rfl dX3_flyMile_23 ?_
    refine lv_iconst (v := 1) hx₀ hb dX3_flyMile_26 (by decide +kernel) ?_
    refine lv_isub hx₀ hb dX3_flyMile_27 ?_
    refine va_put (D := (dC, dI)) (ci := 3) (v := .int (u2 - 1)) (ty := .int) (C := RX3) (T := TX3) (N := 4) hx₀ hb hts inlX3 tyX3 tyX3_ok nmX3 hown hK hP hD hS 0 rfl rfl 2 (by decide) (hts (.fieldLink RX3 13 "BittenStick$Goose" "strong" "I") wd_476) (fun _ h9 => h9) rfl (by decide +kernel) rfl rfl (Nat.le_of_ble_eq_true rfl) dX3_flyMile_28 ?_
    clear hP hD hS
    intro H locs hP hD hS
    replace hP := k_w2 (wt := [(kX3 ag u0 u1 (u2 - 1) (u3 + 1))]) hP hD rfl
    replace hD := hP.2
    replace hP := hP.1
    refine lv_aload_n hx₀ hb dX3_flyMile_31 rfl (lv_at hl 0 rfl) ?_
    refine lv_iconst (v := 0) hx₀ hb dX3_flyMile_32 (by decide +kernel) ?_
    refine va_put (D := (dC, dI)) (ci := 3) (v := .int 0) (ty := .int) (C := RX3) (T := TX3) (N := 4) hx₀ hb hts inlX3 tyX3 tyX3_ok nmX3 hown hK hP hD hS 0 rfl rfl 3 (by decide) (hts (.fieldLink RX3 16 "BittenStick$Goose" "flown" "I") wd_477) (fun _ h9 => h9) rfl (by decide +kernel) rfl rfl (Nat.le_of_ble_eq_true rfl) dX3_flyMile_33 ?_
    clear hP hD hS
    intro H locs hP hD hS
    replace hP := k_w2 (wt := [(kX3 ag u0 u1 (u2 - 1) 0)]) hP hD rfl
    replace hD := hP.2
    replace hP := hP.1
    obtain ⟨hP9, hD9⟩ := k_c2 (wc := [(kX3 ag u0 u1 (u2 - 1) 0)]) hP hD [0] (by decide +kernel) rfl
    exact W.vret hx₀ hb hr (fun t₀ ht hW => ⟨⟨(k_fn [(u2 - 1), (0 : Int32)], k_fa [], k_fl [], k_fL [], k_fp []), rfl, ⟨(show (u2 - 1) = if u3 + 1 = u1 then u2 - 1 else u2 from (if_pos (c_1)).symm), (show (0 : Int32) = if u3 + 1 = u1 then 0 else u3 + 1 from (if_pos (c_1)).symm)⟩, by rw [ht]; exact hP9, va_K.moved hW.alike hK, hD9⟩, hS.F ht⟩) hS.2.2 dX3_flyMile_36
set_option maxHeartbeats 4000000 in
set_option maxRecDepth 100000 in
theorem j_gRest (l : Launch) (dC : Nat → ClassId) (dI : Nat → Nat → Nat) (cI cJ cQ : ClassId) (sz : Nat) (ag : Nat) (u0 : Int32) (u1 : Int32) (u2 : Int32) (u3 : Int32) : Met l yX3_rest (kW yX3_rest cX3_rest 1 none) { frames := 0, cells := 0, slots := 0, locals := 0 } (kPre dC dI cI cJ cQ sz [.ref ag] [(kX3 ag u0 u1 u2 u3)]) (va_Qv (fun (u : kS) => ((u.1 0) = if u2 < u0 then u2 + 1 else u2)) (fun (u : kS) t₀ => kB dC dI cI cJ cQ (va_A [(kX3 ag u0 u1 u2 u3)] sz) [(kX3 ag u0 u1 (u.1 0) u3)] t₀) (va_A [(kX3 ag u0 u1 u2 u3)] sz)) 0 0 (va_A [(kX3 ag u0 u1 u2 u3)] sz) := by
  refine Met.ofW (cc := cX3_rest) (maxL := 1) (ret := none) (by decide) rfl ?_
  intro p₀ e₀ s₀ m₀ args below meth c₀ s₁ B hml hv₀
  obtain ⟨rfl, hsz, hP, hK, hD0, hN⟩ := hv₀
  have hx₀ := B.exec
  have hb := B.bytes
  have hr := B.returns
  have hts := atoms_spec (ws := (kW yX3_rest cX3_rest 1 none)) B.pre
  have hts := fun w h => hts w (List.mem_cons_of_mem _ h)
  have hown : s₀.vm.findClass RX3 = some m₀.cls := findClass_of_methodNamed B.named
  have hlocks := B.notSynchronized
  subst hsz
  have hD := hD0.self (sz := s₀.heap.size)
  generalize hAe : va_A [(kX3 ag u0 u1 u2 u3)] s₀.heap.size = A at hD ⊢
  have hA : ∀ q : Nat, s₀.heap.size ≤ q → A q := fun q h => by rw [← hAe]; exact Or.inr h
  have hS : va_S A s₀.heap s₀.heap [] := va_S.rf
  have hP : va_P (dC, dI) vwCl [(kX3 ag u0 u1 u2 u3)] s₀.heap := hP
  have hl := lv_entry ([.ref ag]) (n := 1) (Nat.le_of_ble_eq_true rfl)
  rw [lg_entry_eq]
  generalize (lg_sl ([.ref ag]) ++ List.replicate (1 - (lg_sl ([.ref ag])).length) Slot.unset).toArray = ls at hl ⊢
  have hl : lv_has ls 1 [(0, .ref ag)] := hl
  obtain ⟨H, hH⟩ : ∃ z : Heap, z = s₀.heap := ⟨_, rfl⟩
  rw [← hH] at hP
  have hS : va_S A s₀.heap H [] := by rw [hH]; exact hS
  refine k_heap hH ?_
  have hD : va_D A [(kX3 ag u0 u1 u2 u3)] := hD
  obtain ⟨locs, hlo⟩ : ∃ z : List Loc, z = [] := ⟨_, rfl⟩
  rw [← hlo] at hS ⊢
  clear hlo hH hAe hD0
  refine lv_aload_n hx₀ hb dX3_rest_0 rfl (lv_at hl 0 rfl) ?_
  refine va_get (D := (dC, dI)) (ci := 3) (v := .int u2) (C := RX3) (T := TX3) (N := 4) hx₀ hb hts inlX3 hown hK hP 0 rfl rfl 2 (by decide) (hts (.fieldLink RX3 13 "BittenStick$Goose" "strong" "I") wd_476) (fun _ h9 => h9) rfl dX3_rest_1 ?_
  refine lv_aload_n hx₀ hb dX3_rest_4 rfl (lv_at hl 0 rfl) ?_
  refine va_get (D := (dC, dI)) (ci := 3) (v := .int u0) (C := RX3) (T := TX3) (N := 4) hx₀ hb hts inlX3 hown hK hP 0 rfl rfl 0 (by decide) (hts (.fieldLink RX3 7 "BittenStick$Goose" "told" "I") wd_475) (fun _ h9 => h9) rfl dX3_rest_5 ?_
  refine lv_icmp_ge (tgt := 21) hx₀ hb dX3_rest_8 (by decide) (fun c_1 => ?_) (fun c_1 => ?_)
  · obtain ⟨hP9, hD9⟩ := k_c2 (wc := [(kX3 ag u0 u1 u2 u3)]) hP hD [0] (by decide +kernel) rfl
    exact W.vret hx₀ hb hr (fun t₀ ht hW => ⟨⟨(k_fn [u2], k_fa [], k_fl [], k_fL [], k_fp []), rfl, (show u2 = if u2 < u0 then u2 + 1 else u2 from (if_neg (show ¬ (u2 < u0) from (Int32.not_lt.mpr c_1))).symm), by rw [ht]; exact hP9, va_K.moved hW.alike hK, hD9⟩, hS.F ht⟩) hS.2.2 dX3_rest_21
  · refine lv_aload_n hx₀ hb dX3_rest_11 rfl (lv_at hl 0 rfl) ?_
    refine lv_dup hx₀ hb dX3_rest_12 rfl ?_
    refine va_get (D := (dC, dI)) (ci := 3) (v := .int u2) (C := RX3) (T := TX3) (N := 4) hx₀ hb hts inlX3 hown hK hP 0 rfl rfl 2 (by decide) (hts (.fieldLink RX3 13 "BittenStick$Goose" "strong" "I") wd_476) (fun _ h9 => h9) rfl dX3_rest_13 ?_
    refine lv_iconst (v := 1) hx₀ hb dX3_rest_16 (by decide +kernel) ?_
    refine lv_iadd hx₀ hb dX3_rest_17 ?_
    refine va_put (D := (dC, dI)) (ci := 3) (v := .int (u2 + 1)) (ty := .int) (C := RX3) (T := TX3) (N := 4) hx₀ hb hts inlX3 tyX3 tyX3_ok nmX3 hown hK hP hD hS 0 rfl rfl 2 (by decide) (hts (.fieldLink RX3 13 "BittenStick$Goose" "strong" "I") wd_476) (fun _ h9 => h9) rfl (by decide +kernel) rfl rfl (Nat.le_of_ble_eq_true rfl) dX3_rest_18 ?_
    clear hP hD hS
    intro H locs hP hD hS
    replace hP := k_w2 (wt := [(kX3 ag u0 u1 (u2 + 1) u3)]) hP hD rfl
    replace hD := hP.2
    replace hP := hP.1
    obtain ⟨hP9, hD9⟩ := k_c2 (wc := [(kX3 ag u0 u1 (u2 + 1) u3)]) hP hD [0] (by decide +kernel) rfl
    exact W.vret hx₀ hb hr (fun t₀ ht hW => ⟨⟨(k_fn [(u2 + 1)], k_fa [], k_fl [], k_fL [], k_fp []), rfl, (show (u2 + 1) = if u2 < u0 then u2 + 1 else u2 from (if_pos (show u2 < u0 from (Int32.not_le.mp c_1))).symm), by rw [ht]; exact hP9, va_K.moved hW.alike hK, hD9⟩, hS.F ht⟩) hS.2.2 dX3_rest_21
set_option maxHeartbeats 4000000 in
set_option maxRecDepth 100000 in
theorem j_tSet (l : Launch) (dC : Nat → ClassId) (dI : Nat → Nat → Nat) (cI cJ cQ : ClassId) (sz : Nat) (aTr : Nat) (aLa : Nat) (aPa : Nat) (aGe : Nat) (gL : Nat) (gR : Nat) (lf : Nat) (rt : Nat) (tgo : Int32) (tca : Int32) (tki : Int32) (tso : Int32) (tbe : Int32) (twe : Int32) (tle : Int32) (tan : Int32) (tco : Int32) (ten : Int32) : Met l yX10_setOut (kW yX10_setOut cX10_setOut 1 none) { frames := 0, cells := 0, slots := 0, locals := 0 } (kPre dC dI cI cJ cQ sz [.ref aTr] [(kX10 aTr aLa aPa aGe gL gR lf rt tgo tca tki tso tbe twe tle tan tco ten)]) (va_Qv (fun (u : kS) => ((u.1 0) = if tgo = 0 then 1 else 0)) (fun (u : kS) t₀ => kB dC dI cI cJ cQ (va_A [(kX10 aTr aLa aPa aGe gL gR lf rt tgo tca tki tso tbe twe tle tan tco ten)] sz) [(kX10 aTr aLa aPa aGe gL gR lf rt tgo tca tki tso tbe twe tle 0 0 (u.1 0))] t₀) (va_A [(kX10 aTr aLa aPa aGe gL gR lf rt tgo tca tki tso tbe twe tle tan tco ten)] sz)) 0 0 (va_A [(kX10 aTr aLa aPa aGe gL gR lf rt tgo tca tki tso tbe twe tle tan tco ten)] sz) := by
  refine Met.ofW (cc := cX10_setOut) (maxL := 1) (ret := none) (by decide) rfl ?_
  intro p₀ e₀ s₀ m₀ args below meth c₀ s₁ B hml hv₀
  obtain ⟨rfl, hsz, hP, hK, hD0, hN⟩ := hv₀
  have hx₀ := B.exec
  have hb := B.bytes
  have hr := B.returns
  have hts := atoms_spec (ws := (kW yX10_setOut cX10_setOut 1 none)) B.pre
  have hts := fun w h => hts w (List.mem_cons_of_mem _ h)
  have hown : s₀.vm.findClass RX10 = some m₀.cls := findClass_of_methodNamed B.named
  have hlocks := B.notSynchronized
  subst hsz
  have hD := hD0.self (sz := s₀.heap.size)
  generalize hAe : va_A [(kX10 aTr aLa aPa aGe gL gR lf rt tgo tca tki tso tbe twe tle tan tco ten)] s₀.heap.size = A at hD ⊢
  have hA : ∀ q : Nat, s₀.heap.size ≤ q → A q := fun q h => by rw [← hAe]; exact Or.inr h
  have hS : va_S A s₀.heap s₀.heap [] := va_S.rf
  have hP : va_P (dC, dI) vwCl [(kX10 aTr aLa aPa aGe gL gR lf rt tgo tca tki tso tbe twe tle tan tco ten)] s₀.heap := hP
  have hl := lv_entry ([.ref aTr]) (n := 1) (Nat.le_of_ble_eq_true rfl)
  rw [lg_entry_eq]
  generalize (lg_sl ([.ref aTr]) ++ List.replicate (1 - (lg_sl ([.ref aTr])).length) Slot.unset).toArray = ls at hl ⊢
  have hl : lv_has ls 1 [(0, .ref aTr)] := hl
  obtain ⟨H, hH⟩ : ∃ z : Heap, z = s₀.heap := ⟨_, rfl⟩
  rw [← hH] at hP
  have hS : va_S A s₀.heap H [] := by rw [hH]; exact hS
  refine k_heap hH ?_
  have hD : va_D A [(kX10 aTr aLa aPa aGe gL gR lf rt tgo tca tki tso tbe twe tle tan tco ten)] := hD
  obtain ⟨locs, hlo⟩ : ∃ z : List Loc, z = [] := ⟨_, rfl⟩
  rw [← hlo] at hS ⊢
  clear hlo hH hAe hD0
  refine lv_aload_n hx₀ hb dX10_setOut_0 rfl (lv_at hl 0 rfl) ?_
  refine lv_iconst (v := 0) hx₀ hb dX10_setOut_1 (by decide +kernel) ?_
  refine va_put (D := (dC, dI)) (ci := 9) (v := .int 0) (ty := .int) (C := RX10) (T := TX10) (N := 17) hx₀ hb hts inlX10 tyX10 tyX10_ok nmX10 hown hK hP hD hS 0 rfl rfl 14 (by decide) (hts (.fieldLink RX10 103 "BittenStick$Trip" "anger" "I") wd_500) (fun _ h9 => h9) rfl (by decide +kernel) rfl rfl (Nat.le_of_ble_eq_true rfl) dX10_setOut_2 ?_
  clear hP hD hS
  intro H locs hP hD hS
  replace hP := k_w2 (wt := [(kX10 aTr aLa aPa aGe gL gR lf rt tgo tca tki tso tbe twe tle 0 tco ten)]) hP hD rfl
  replace hD := hP.2
  replace hP := hP.1
  refine lv_aload_n hx₀ hb dX10_setOut_5 rfl (lv_at hl 0 rfl) ?_
  refine lv_iconst (v := 0) hx₀ hb dX10_setOut_6 (by decide +kernel) ?_
  refine va_put (D := (dC, dI)) (ci := 9) (v := .int 0) (ty := .int) (C := RX10) (T := TX10) (N := 17) hx₀ hb hts inlX10 tyX10 tyX10_ok nmX10 hown hK hP hD hS 0 rfl rfl 15 (by decide) (hts (.fieldLink RX10 106 "BittenStick$Trip" "cold" "I") wd_501) (fun _ h9 => h9) rfl (by decide +kernel) rfl rfl (Nat.le_of_ble_eq_true rfl) dX10_setOut_7 ?_
  clear hP hD hS
  intro H locs hP hD hS
  replace hP := k_w2 (wt := [(kX10 aTr aLa aPa aGe gL gR lf rt tgo tca tki tso tbe twe tle 0 0 ten)]) hP hD rfl
  replace hD := hP.2
  replace hP := hP.1
  refine lv_aload_n hx₀ hb dX10_setOut_10 rfl (lv_at hl 0 rfl) ?_
  refine lv_aload_n hx₀ hb dX10_setOut_11 rfl (lv_at hl 0 rfl) ?_
  refine va_get (D := (dC, dI)) (ci := 9) (v := .int tgo) (C := RX10) (T := TX10) (N := 17) hx₀ hb hts inlX10 hown hK hP 0 rfl rfl 7 (by decide) (hts (.fieldLink RX10 48 "BittenStick$Trip" "goes" "Z") wd_453) (fun _ h9 => h9) rfl dX10_setOut_12 ?_
  refine lv_if_eq (tgt := 22) hx₀ hb dX10_setOut_15 (by decide) (fun c_1 => ?_) (fun c_1 => ?_)
  · refine lv_iconst (v := 1) hx₀ hb dX10_setOut_22 (by decide +kernel) ?_
    refine va_put (D := (dC, dI)) (ci := 9) (v := .int 1) (ty := .int) (C := RX10) (T := TX10) (N := 17) hx₀ hb hts inlX10 tyX10 tyX10_ok nmX10 hown hK hP hD hS 0 rfl rfl 16 (by decide) (hts (.fieldLink RX10 109 "BittenStick$Trip" "end" "I") wd_502) (fun _ h9 => h9) rfl (by decide +kernel) rfl rfl (Nat.le_of_ble_eq_true rfl) dX10_setOut_23 ?_
    clear hP hD hS
    intro H locs hP hD hS
    replace hP := k_w2 (wt := [(kX10 aTr aLa aPa aGe gL gR lf rt tgo tca tki tso tbe twe tle 0 0 1)]) hP hD rfl
    replace hD := hP.2
    replace hP := hP.1
    obtain ⟨hP9, hD9⟩ := k_c2 (wc := [(kX10 aTr aLa aPa aGe gL gR lf rt tgo tca tki tso tbe twe tle 0 0 1)]) hP hD [0] (by decide +kernel) rfl
    exact W.vret hx₀ hb hr (fun t₀ ht hW => ⟨⟨(k_fn [(1 : Int32)], k_fa [], k_fl [], k_fL [], k_fp []), rfl, (show (1 : Int32) = if tgo = 0 then 1 else 0 from (if_pos (c_1)).symm), by rw [ht]; exact hP9, va_K.moved hW.alike hK, hD9⟩, hS.F ht⟩) hS.2.2 dX10_setOut_26
  · refine lv_iconst (v := 0) hx₀ hb dX10_setOut_18 (by decide +kernel) ?_
    refine lv_goto (tgt := 23) hx₀ hb dX10_setOut_19 (by decide) ?_
    refine va_put (D := (dC, dI)) (ci := 9) (v := .int 0) (ty := .int) (C := RX10) (T := TX10) (N := 17) hx₀ hb hts inlX10 tyX10 tyX10_ok nmX10 hown hK hP hD hS 0 rfl rfl 16 (by decide) (hts (.fieldLink RX10 109 "BittenStick$Trip" "end" "I") wd_502) (fun _ h9 => h9) rfl (by decide +kernel) rfl rfl (Nat.le_of_ble_eq_true rfl) dX10_setOut_23 ?_
    clear hP hD hS
    intro H locs hP hD hS
    replace hP := k_w2 (wt := [(kX10 aTr aLa aPa aGe gL gR lf rt tgo tca tki tso tbe twe tle 0 0 0)]) hP hD rfl
    replace hD := hP.2
    replace hP := hP.1
    obtain ⟨hP9, hD9⟩ := k_c2 (wc := [(kX10 aTr aLa aPa aGe gL gR lf rt tgo tca tki tso tbe twe tle 0 0 0)]) hP hD [0] (by decide +kernel) rfl
    exact W.vret hx₀ hb hr (fun t₀ ht hW => ⟨⟨(k_fn [(0 : Int32)], k_fa [], k_fl [], k_fL [], k_fp []), rfl, (show (0 : Int32) = if tgo = 0 then 1 else 0 from (if_neg (c_1)).symm), by rw [ht]; exact hP9, va_K.moved hW.alike hK, hD9⟩, hS.F ht⟩) hS.2.2 dX10_setOut_26
theorem lf_j_insult_1 (a0 : Int32) (a1 : Int32) (a2 : Int32) (a3 : Int32) (a4 : Int32) (h0 : a0 = 1) : (0 : Int32) = kIns a0 a1 a2 a3 a4 := by
  ((try unfold kIns)) <;> ((repeat' split) <;> first | rfl | contradiction | assumption | (exfalso; (first | rfl | assumption | decide | omega | (have hr0 := Int32.toInt_lt a0; have hs0 := Int32.le_toInt a0; have hr1 := Int32.toInt_lt a1; have hs1 := Int32.le_toInt a1; have hr2 := Int32.toInt_lt a2; have hs2 := Int32.le_toInt a2; have hr3 := Int32.toInt_lt a3; have hs3 := Int32.le_toInt a3; have hr4 := Int32.toInt_lt a4; have hs4 := Int32.le_toInt a4; simp only [Int64.toInt_add, Int64.toInt_sub, Int32.toInt_add, Int32.toInt_sub, Int32.toInt_mul, Int64.le_iff_toInt_le, Int64.lt_iff_toInt_lt, Int32.le_iff_toInt_le, Int32.lt_iff_toInt_lt, ← Int32.toInt_inj, ← Int64.toInt_inj, Int32.toInt_toInt64, kc_m1, kc_0, kc_1, kc_2, kc_3, kc_4, kc_5, kc_6, kc_7, kc_8, kc_10, kc_48, kc_49, kc_57, kc_59, kc_97, kc_100, kc_102, kc_105, kc_111, kc_112, kc_115, kc_116, kc_119, true_and, and_true, not_true_eq_false, not_false_eq_true] at * <;> ((first | omega | ((try simp (disch := omega) only [k_bm64] at *); (try simp (disch := omega) only [k_bm] at *); (try simp (disch := omega) only [k_bm] at *); omega) | (simp only [Int.bmod] at *; omega)))))) | (first | rfl | assumption | decide | omega | (have hr0 := Int32.toInt_lt a0; have hs0 := Int32.le_toInt a0; have hr1 := Int32.toInt_lt a1; have hs1 := Int32.le_toInt a1; have hr2 := Int32.toInt_lt a2; have hs2 := Int32.le_toInt a2; have hr3 := Int32.toInt_lt a3; have hs3 := Int32.le_toInt a3; have hr4 := Int32.toInt_lt a4; have hs4 := Int32.le_toInt a4; simp only [Int64.toInt_add, Int64.toInt_sub, Int32.toInt_add, Int32.toInt_sub, Int32.toInt_mul, Int64.le_iff_toInt_le, Int64.lt_iff_toInt_lt, Int32.le_iff_toInt_le, Int32.lt_iff_toInt_lt, ← Int32.toInt_inj, ← Int64.toInt_inj, Int32.toInt_toInt64, kc_m1, kc_0, kc_1, kc_2, kc_3, kc_4, kc_5, kc_6, kc_7, kc_8, kc_10, kc_48, kc_49, kc_57, kc_59, kc_97, kc_100, kc_102, kc_105, kc_111, kc_112, kc_115, kc_116, kc_119, true_and, and_true, not_true_eq_false, not_false_eq_true] at * <;> ((first | omega | ((try simp (disch := omega) only [k_bm64] at *); (try simp (disch := omega) only [k_bm] at *); (try simp (disch := omega) only [k_bm] at *); omega) | (simp only [Int.bmod] at *; omega))))))
theorem lf_j_insult_2 (a0 : Int32) (a1 : Int32) (a2 : Int32) (a3 : Int32) (a4 : Int32) (h0 : ¬ a0 = 1) (h1 : a1 = 1) : (0 : Int32) = kIns a0 a1 a2 a3 a4 := by
  ((try unfold kIns)) <;> ((repeat' split) <;> first | rfl | contradiction | assumption | (exfalso; (first | rfl | assumption | decide | omega | (have hr0 := Int32.toInt_lt a0; have hs0 := Int32.le_toInt a0; have hr1 := Int32.toInt_lt a1; have hs1 := Int32.le_toInt a1; have hr2 := Int32.toInt_lt a2; have hs2 := Int32.le_toInt a2; have hr3 := Int32.toInt_lt a3; have hs3 := Int32.le_toInt a3; have hr4 := Int32.toInt_lt a4; have hs4 := Int32.le_toInt a4; simp only [Int64.toInt_add, Int64.toInt_sub, Int32.toInt_add, Int32.toInt_sub, Int32.toInt_mul, Int64.le_iff_toInt_le, Int64.lt_iff_toInt_lt, Int32.le_iff_toInt_le, Int32.lt_iff_toInt_lt, ← Int32.toInt_inj, ← Int64.toInt_inj, Int32.toInt_toInt64, kc_m1, kc_0, kc_1, kc_2, kc_3, kc_4, kc_5, kc_6, kc_7, kc_8, kc_10, kc_48, kc_49, kc_57, kc_59, kc_97, kc_100, kc_102, kc_105, kc_111, kc_112, kc_115, kc_116, kc_119, true_and, and_true, not_true_eq_false, not_false_eq_true] at * <;> ((first | omega | ((try simp (disch := omega) only [k_bm64] at *); (try simp (disch := omega) only [k_bm] at *); (try simp (disch := omega) only [k_bm] at *); omega) | (simp only [Int.bmod] at *; omega)))))) | (first | rfl | assumption | decide | omega | (have hr0 := Int32.toInt_lt a0; have hs0 := Int32.le_toInt a0; have hr1 := Int32.toInt_lt a1; have hs1 := Int32.le_toInt a1; have hr2 := Int32.toInt_lt a2; have hs2 := Int32.le_toInt a2; have hr3 := Int32.toInt_lt a3; have hs3 := Int32.le_toInt a3; have hr4 := Int32.toInt_lt a4; have hs4 := Int32.le_toInt a4; simp only [Int64.toInt_add, Int64.toInt_sub, Int32.toInt_add, Int32.toInt_sub, Int32.toInt_mul, Int64.le_iff_toInt_le, Int64.lt_iff_toInt_lt, Int32.le_iff_toInt_le, Int32.lt_iff_toInt_lt, ← Int32.toInt_inj, ← Int64.toInt_inj, Int32.toInt_toInt64, kc_m1, kc_0, kc_1, kc_2, kc_3, kc_4, kc_5, kc_6, kc_7, kc_8, kc_10, kc_48, kc_49, kc_57, kc_59, kc_97, kc_100, kc_102, kc_105, kc_111, kc_112, kc_115, kc_116, kc_119, true_and, and_true, not_true_eq_false, not_false_eq_true] at * <;> ((first | omega | ((try simp (disch := omega) only [k_bm64] at *); (try simp (disch := omega) only [k_bm] at *); (try simp (disch := omega) only [k_bm] at *); omega) | (simp only [Int.bmod] at *; omega))))))
theorem lf_j_insult_3 (a0 : Int32) (a1 : Int32) (a2 : Int32) (a3 : Int32) (a4 : Int32) (h0 : ¬ a0 = 1) (h1 : ¬ a1 = 1) (h2 : ¬ a1 = 3) (h3 : ¬ a2 = a3) (h4 : ¬ a1 = 2) : (10 - a4 : Int32) = kIns a0 a1 a3 a2 a4 := by
  ((try unfold kIns)) <;> ((repeat' split) <;> first | rfl | contradiction | assumption | (exfalso; (first | rfl | assumption | decide | omega | (have hr0 := Int32.toInt_lt a0; have hs0 := Int32.le_toInt a0; have hr1 := Int32.toInt_lt a1; have hs1 := Int32.le_toInt a1; have hr2 := Int32.toInt_lt a2; have hs2 := Int32.le_toInt a2; have hr3 := Int32.toInt_lt a3; have hs3 := Int32.le_toInt a3; have hr4 := Int32.toInt_lt a4; have hs4 := Int32.le_toInt a4; simp only [Int64.toInt_add, Int64.toInt_sub, Int32.toInt_add, Int32.toInt_sub, Int32.toInt_mul, Int64.le_iff_toInt_le, Int64.lt_iff_toInt_lt, Int32.le_iff_toInt_le, Int32.lt_iff_toInt_lt, ← Int32.toInt_inj, ← Int64.toInt_inj, Int32.toInt_toInt64, kc_m1, kc_0, kc_1, kc_2, kc_3, kc_4, kc_5, kc_6, kc_7, kc_8, kc_10, kc_48, kc_49, kc_57, kc_59, kc_97, kc_100, kc_102, kc_105, kc_111, kc_112, kc_115, kc_116, kc_119, true_and, and_true, not_true_eq_false, not_false_eq_true] at * <;> ((first | omega | ((try simp (disch := omega) only [k_bm64] at *); (try simp (disch := omega) only [k_bm] at *); (try simp (disch := omega) only [k_bm] at *); omega) | (simp only [Int.bmod] at *; omega)))))) | (first | rfl | assumption | decide | omega | (have hr0 := Int32.toInt_lt a0; have hs0 := Int32.le_toInt a0; have hr1 := Int32.toInt_lt a1; have hs1 := Int32.le_toInt a1; have hr2 := Int32.toInt_lt a2; have hs2 := Int32.le_toInt a2; have hr3 := Int32.toInt_lt a3; have hs3 := Int32.le_toInt a3; have hr4 := Int32.toInt_lt a4; have hs4 := Int32.le_toInt a4; simp only [Int64.toInt_add, Int64.toInt_sub, Int32.toInt_add, Int32.toInt_sub, Int32.toInt_mul, Int64.le_iff_toInt_le, Int64.lt_iff_toInt_lt, Int32.le_iff_toInt_le, Int32.lt_iff_toInt_lt, ← Int32.toInt_inj, ← Int64.toInt_inj, Int32.toInt_toInt64, kc_m1, kc_0, kc_1, kc_2, kc_3, kc_4, kc_5, kc_6, kc_7, kc_8, kc_10, kc_48, kc_49, kc_57, kc_59, kc_97, kc_100, kc_102, kc_105, kc_111, kc_112, kc_115, kc_116, kc_119, true_and, and_true, not_true_eq_false, not_false_eq_true] at * <;> ((first | omega | ((try simp (disch := omega) only [k_bm64] at *); (try simp (disch := omega) only [k_bm] at *); (try simp (disch := omega) only [k_bm] at *); omega) | (simp only [Int.bmod] at *; omega))))))
theorem lf_j_insult_4 (a0 : Int32) (a1 : Int32) (a2 : Int32) (a3 : Int32) (a4 : Int32) (h0 : ¬ a0 = 1) (h1 : ¬ a1 = 1) (h2 : ¬ a1 = 3) (h3 : ¬ a2 = a3) (h4 : a1 = 2) : ((10 - a4) + 1 : Int32) = kIns a0 a1 a3 a2 a4 := by
  ((try unfold kIns)) <;> ((repeat' split) <;> first | rfl | contradiction | assumption | (exfalso; (first | rfl | assumption | decide | omega | (have hr0 := Int32.toInt_lt a0; have hs0 := Int32.le_toInt a0; have hr1 := Int32.toInt_lt a1; have hs1 := Int32.le_toInt a1; have hr2 := Int32.toInt_lt a2; have hs2 := Int32.le_toInt a2; have hr3 := Int32.toInt_lt a3; have hs3 := Int32.le_toInt a3; have hr4 := Int32.toInt_lt a4; have hs4 := Int32.le_toInt a4; simp only [Int64.toInt_add, Int64.toInt_sub, Int32.toInt_add, Int32.toInt_sub, Int32.toInt_mul, Int64.le_iff_toInt_le, Int64.lt_iff_toInt_lt, Int32.le_iff_toInt_le, Int32.lt_iff_toInt_lt, ← Int32.toInt_inj, ← Int64.toInt_inj, Int32.toInt_toInt64, kc_m1, kc_0, kc_1, kc_2, kc_3, kc_4, kc_5, kc_6, kc_7, kc_8, kc_10, kc_48, kc_49, kc_57, kc_59, kc_97, kc_100, kc_102, kc_105, kc_111, kc_112, kc_115, kc_116, kc_119, true_and, and_true, not_true_eq_false, not_false_eq_true] at * <;> ((first | omega | ((try simp (disch := omega) only [k_bm64] at *); (try simp (disch := omega) only [k_bm] at *); (try simp (disch := omega) only [k_bm] at *); omega) | (simp only [Int.bmod] at *; omega)))))) | (first | rfl | assumption | decide | omega | (have hr0 := Int32.toInt_lt a0; have hs0 := Int32.le_toInt a0; have hr1 := Int32.toInt_lt a1; have hs1 := Int32.le_toInt a1; have hr2 := Int32.toInt_lt a2; have hs2 := Int32.le_toInt a2; have hr3 := Int32.toInt_lt a3; have hs3 := Int32.le_toInt a3; have hr4 := Int32.toInt_lt a4; have hs4 := Int32.le_toInt a4; simp only [Int64.toInt_add, Int64.toInt_sub, Int32.toInt_add, Int32.toInt_sub, Int32.toInt_mul, Int64.le_iff_toInt_le, Int64.lt_iff_toInt_lt, Int32.le_iff_toInt_le, Int32.lt_iff_toInt_lt, ← Int32.toInt_inj, ← Int64.toInt_inj, Int32.toInt_toInt64, kc_m1, kc_0, kc_1, kc_2, kc_3, kc_4, kc_5, kc_6, kc_7, kc_8, kc_10, kc_48, kc_49, kc_57, kc_59, kc_97, kc_100, kc_102, kc_105, kc_111, kc_112, kc_115, kc_116, kc_119, true_and, and_true, not_true_eq_false, not_false_eq_true] at * <;> ((first | omega | ((try simp (disch := omega) only [k_bm64] at *); (try simp (disch := omega) only [k_bm] at *); (try simp (disch := omega) only [k_bm] at *); omega) | (simp only [Int.bmod] at *; omega))))))
theorem lf_j_insult_5 (a0 : Int32) (a1 : Int32) (a2 : Int32) (a3 : Int32) (a4 : Int32) (h0 : ¬ a0 = 1) (h1 : ¬ a1 = 1) (h2 : ¬ a1 = 3) (h3 : a2 = a3) (h4 : ¬ a1 = 2) : (2 * (10 - a4) : Int32) = kIns a0 a1 a3 a2 a4 := by
  ((try unfold kIns)) <;> ((repeat' split) <;> first | rfl | contradiction | assumption | (exfalso; (first | rfl | assumption | decide | omega | (have hr0 := Int32.toInt_lt a0; have hs0 := Int32.le_toInt a0; have hr1 := Int32.toInt_lt a1; have hs1 := Int32.le_toInt a1; have hr2 := Int32.toInt_lt a2; have hs2 := Int32.le_toInt a2; have hr3 := Int32.toInt_lt a3; have hs3 := Int32.le_toInt a3; have hr4 := Int32.toInt_lt a4; have hs4 := Int32.le_toInt a4; simp only [Int64.toInt_add, Int64.toInt_sub, Int32.toInt_add, Int32.toInt_sub, Int32.toInt_mul, Int64.le_iff_toInt_le, Int64.lt_iff_toInt_lt, Int32.le_iff_toInt_le, Int32.lt_iff_toInt_lt, ← Int32.toInt_inj, ← Int64.toInt_inj, Int32.toInt_toInt64, kc_m1, kc_0, kc_1, kc_2, kc_3, kc_4, kc_5, kc_6, kc_7, kc_8, kc_10, kc_48, kc_49, kc_57, kc_59, kc_97, kc_100, kc_102, kc_105, kc_111, kc_112, kc_115, kc_116, kc_119, true_and, and_true, not_true_eq_false, not_false_eq_true] at * <;> ((first | omega | ((try simp (disch := omega) only [k_bm64] at *); (try simp (disch := omega) only [k_bm] at *); (try simp (disch := omega) only [k_bm] at *); omega) | (simp only [Int.bmod] at *; omega)))))) | (first | rfl | assumption | decide | omega | (have hr0 := Int32.toInt_lt a0; have hs0 := Int32.le_toInt a0; have hr1 := Int32.toInt_lt a1; have hs1 := Int32.le_toInt a1; have hr2 := Int32.toInt_lt a2; have hs2 := Int32.le_toInt a2; have hr3 := Int32.toInt_lt a3; have hs3 := Int32.le_toInt a3; have hr4 := Int32.toInt_lt a4; have hs4 := Int32.le_toInt a4; simp only [Int64.toInt_add, Int64.toInt_sub, Int32.toInt_add, Int32.toInt_sub, Int32.toInt_mul, Int64.le_iff_toInt_le, Int64.lt_iff_toInt_lt, Int32.le_iff_toInt_le, Int32.lt_iff_toInt_lt, ← Int32.toInt_inj, ← Int64.toInt_inj, Int32.toInt_toInt64, kc_m1, kc_0, kc_1, kc_2, kc_3, kc_4, kc_5, kc_6, kc_7, kc_8, kc_10, kc_48, kc_49, kc_57, kc_59, kc_97, kc_100, kc_102, kc_105, kc_111, kc_112, kc_115, kc_116, kc_119, true_and, and_true, not_true_eq_false, not_false_eq_true] at * <;> ((first | omega | ((try simp (disch := omega) only [k_bm64] at *); (try simp (disch := omega) only [k_bm] at *); (try simp (disch := omega) only [k_bm] at *); omega) | (simp only [Int.bmod] at *; omega))))))
theorem lf_j_insult_6 (a0 : Int32) (a1 : Int32) (a2 : Int32) (a3 : Int32) (a4 : Int32) (h0 : ¬ a0 = 1) (h1 : ¬ a1 = 1) (h2 : ¬ a1 = 3) (h3 : a2 = a3) (h4 : a1 = 2) : ((2 * (10 - a4)) + 1 : Int32) = kIns a0 a1 a3 a2 a4 := by
  ((try unfold kIns)) <;> ((repeat' split) <;> first | rfl | contradiction | assumption | (exfalso; (first | rfl | assumption | decide | omega | (have hr0 := Int32.toInt_lt a0; have hs0 := Int32.le_toInt a0; have hr1 := Int32.toInt_lt a1; have hs1 := Int32.le_toInt a1; have hr2 := Int32.toInt_lt a2; have hs2 := Int32.le_toInt a2; have hr3 := Int32.toInt_lt a3; have hs3 := Int32.le_toInt a3; have hr4 := Int32.toInt_lt a4; have hs4 := Int32.le_toInt a4; simp only [Int64.toInt_add, Int64.toInt_sub, Int32.toInt_add, Int32.toInt_sub, Int32.toInt_mul, Int64.le_iff_toInt_le, Int64.lt_iff_toInt_lt, Int32.le_iff_toInt_le, Int32.lt_iff_toInt_lt, ← Int32.toInt_inj, ← Int64.toInt_inj, Int32.toInt_toInt64, kc_m1, kc_0, kc_1, kc_2, kc_3, kc_4, kc_5, kc_6, kc_7, kc_8, kc_10, kc_48, kc_49, kc_57, kc_59, kc_97, kc_100, kc_102, kc_105, kc_111, kc_112, kc_115, kc_116, kc_119, true_and, and_true, not_true_eq_false, not_false_eq_true] at * <;> ((first | omega | ((try simp (disch := omega) only [k_bm64] at *); (try simp (disch := omega) only [k_bm] at *); (try simp (disch := omega) only [k_bm] at *); omega) | (simp only [Int.bmod] at *; omega)))))) | (first | rfl | assumption | decide | omega | (have hr0 := Int32.toInt_lt a0; have hs0 := Int32.le_toInt a0; have hr1 := Int32.toInt_lt a1; have hs1 := Int32.le_toInt a1; have hr2 := Int32.toInt_lt a2; have hs2 := Int32.le_toInt a2; have hr3 := Int32.toInt_lt a3; have hs3 := Int32.le_toInt a3; have hr4 := Int32.toInt_lt a4; have hs4 := Int32.le_toInt a4; simp only [Int64.toInt_add, Int64.toInt_sub, Int32.toInt_add, Int32.toInt_sub, Int32.toInt_mul, Int64.le_iff_toInt_le, Int64.lt_iff_toInt_lt, Int32.le_iff_toInt_le, Int32.lt_iff_toInt_lt, ← Int32.toInt_inj, ← Int64.toInt_inj, Int32.toInt_toInt64, kc_m1, kc_0, kc_1, kc_2, kc_3, kc_4, kc_5, kc_6, kc_7, kc_8, kc_10, kc_48, kc_49, kc_57, kc_59, kc_97, kc_100, kc_102, kc_105, kc_111, kc_112, kc_115, kc_116, kc_119, true_and, and_true, not_true_eq_false, not_false_eq_true] at * <;> ((first | omega | ((try simp (disch := omega) only [k_bm64] at *); (try simp (disch := omega) only [k_bm] at *); (try simp (disch := omega) only [k_bm] at *); omega) | (simp only [Int.bmod] at *; omega))))))
theorem lf_j_insult_7 (a0 : Int32) (a1 : Int32) (a2 : Int32) (a3 : Int32) (a4 : Int32) (h0 : ¬ a0 = 1) (h1 : ¬ a1 = 1) (h2 : a1 = 3) (h3 : a2 < 7) (h4 : ¬ a3 = a4) (h5 : ¬ a1 = 2) : (10 - a2 : Int32) = kIns a0 a1 a4 a3 a2 := by
  ((try unfold kIns)) <;> ((repeat' split) <;> first | rfl | contradiction | assumption | (exfalso; (first | rfl | assumption | decide | omega | (have hr0 := Int32.toInt_lt a0; have hs0 := Int32.le_toInt a0; have hr1 := Int32.toInt_lt a1; have hs1 := Int32.le_toInt a1; have hr2 := Int32.toInt_lt a2; have hs2 := Int32.le_toInt a2; have hr3 := Int32.toInt_lt a3; have hs3 := Int32.le_toInt a3; have hr4 := Int32.toInt_lt a4; have hs4 := Int32.le_toInt a4; simp only [Int64.toInt_add, Int64.toInt_sub, Int32.toInt_add, Int32.toInt_sub, Int32.toInt_mul, Int64.le_iff_toInt_le, Int64.lt_iff_toInt_lt, Int32.le_iff_toInt_le, Int32.lt_iff_toInt_lt, ← Int32.toInt_inj, ← Int64.toInt_inj, Int32.toInt_toInt64, kc_m1, kc_0, kc_1, kc_2, kc_3, kc_4, kc_5, kc_6, kc_7, kc_8, kc_10, kc_48, kc_49, kc_57, kc_59, kc_97, kc_100, kc_102, kc_105, kc_111, kc_112, kc_115, kc_116, kc_119, true_and, and_true, not_true_eq_false, not_false_eq_true] at * <;> ((first | omega | ((try simp (disch := omega) only [k_bm64] at *); (try simp (disch := omega) only [k_bm] at *); (try simp (disch := omega) only [k_bm] at *); omega) | (simp only [Int.bmod] at *; omega)))))) | (first | rfl | assumption | decide | omega | (have hr0 := Int32.toInt_lt a0; have hs0 := Int32.le_toInt a0; have hr1 := Int32.toInt_lt a1; have hs1 := Int32.le_toInt a1; have hr2 := Int32.toInt_lt a2; have hs2 := Int32.le_toInt a2; have hr3 := Int32.toInt_lt a3; have hs3 := Int32.le_toInt a3; have hr4 := Int32.toInt_lt a4; have hs4 := Int32.le_toInt a4; simp only [Int64.toInt_add, Int64.toInt_sub, Int32.toInt_add, Int32.toInt_sub, Int32.toInt_mul, Int64.le_iff_toInt_le, Int64.lt_iff_toInt_lt, Int32.le_iff_toInt_le, Int32.lt_iff_toInt_lt, ← Int32.toInt_inj, ← Int64.toInt_inj, Int32.toInt_toInt64, kc_m1, kc_0, kc_1, kc_2, kc_3, kc_4, kc_5, kc_6, kc_7, kc_8, kc_10, kc_48, kc_49, kc_57, kc_59, kc_97, kc_100, kc_102, kc_105, kc_111, kc_112, kc_115, kc_116, kc_119, true_and, and_true, not_true_eq_false, not_false_eq_true] at * <;> ((first | omega | ((try simp (disch := omega) only [k_bm64] at *); (try simp (disch := omega) only [k_bm] at *); (try simp (disch := omega) only [k_bm] at *); omega) | (simp only [Int.bmod] at *; omega))))))
theorem lf_j_insult_8 (a0 : Int32) (a1 : Int32) (a2 : Int32) (a3 : Int32) (a4 : Int32) (h0 : ¬ a0 = 1) (h1 : ¬ a1 = 1) (h2 : a1 = 3) (h3 : a2 < 7) (h4 : a3 = a4) (h5 : ¬ a1 = 2) : (2 * (10 - a2) : Int32) = kIns a0 a1 a4 a3 a2 := by
  ((try unfold kIns)) <;> ((repeat' split) <;> first | rfl | contradiction | assumption | (exfalso; (first | rfl | assumption | decide | omega | (have hr0 := Int32.toInt_lt a0; have hs0 := Int32.le_toInt a0; have hr1 := Int32.toInt_lt a1; have hs1 := Int32.le_toInt a1; have hr2 := Int32.toInt_lt a2; have hs2 := Int32.le_toInt a2; have hr3 := Int32.toInt_lt a3; have hs3 := Int32.le_toInt a3; have hr4 := Int32.toInt_lt a4; have hs4 := Int32.le_toInt a4; simp only [Int64.toInt_add, Int64.toInt_sub, Int32.toInt_add, Int32.toInt_sub, Int32.toInt_mul, Int64.le_iff_toInt_le, Int64.lt_iff_toInt_lt, Int32.le_iff_toInt_le, Int32.lt_iff_toInt_lt, ← Int32.toInt_inj, ← Int64.toInt_inj, Int32.toInt_toInt64, kc_m1, kc_0, kc_1, kc_2, kc_3, kc_4, kc_5, kc_6, kc_7, kc_8, kc_10, kc_48, kc_49, kc_57, kc_59, kc_97, kc_100, kc_102, kc_105, kc_111, kc_112, kc_115, kc_116, kc_119, true_and, and_true, not_true_eq_false, not_false_eq_true] at * <;> ((first | omega | ((try simp (disch := omega) only [k_bm64] at *); (try simp (disch := omega) only [k_bm] at *); (try simp (disch := omega) only [k_bm] at *); omega) | (simp only [Int.bmod] at *; omega)))))) | (first | rfl | assumption | decide | omega | (have hr0 := Int32.toInt_lt a0; have hs0 := Int32.le_toInt a0; have hr1 := Int32.toInt_lt a1; have hs1 := Int32.le_toInt a1; have hr2 := Int32.toInt_lt a2; have hs2 := Int32.le_toInt a2; have hr3 := Int32.toInt_lt a3; have hs3 := Int32.le_toInt a3; have hr4 := Int32.toInt_lt a4; have hs4 := Int32.le_toInt a4; simp only [Int64.toInt_add, Int64.toInt_sub, Int32.toInt_add, Int32.toInt_sub, Int32.toInt_mul, Int64.le_iff_toInt_le, Int64.lt_iff_toInt_lt, Int32.le_iff_toInt_le, Int32.lt_iff_toInt_lt, ← Int32.toInt_inj, ← Int64.toInt_inj, Int32.toInt_toInt64, kc_m1, kc_0, kc_1, kc_2, kc_3, kc_4, kc_5, kc_6, kc_7, kc_8, kc_10, kc_48, kc_49, kc_57, kc_59, kc_97, kc_100, kc_102, kc_105, kc_111, kc_112, kc_115, kc_116, kc_119, true_and, and_true, not_true_eq_false, not_false_eq_true] at * <;> ((first | omega | ((try simp (disch := omega) only [k_bm64] at *); (try simp (disch := omega) only [k_bm] at *); (try simp (disch := omega) only [k_bm] at *); omega) | (simp only [Int.bmod] at *; omega))))))
theorem lf_j_insult_9 (a0 : Int32) (a1 : Int32) (a2 : Int32) (a3 : Int32) (a4 : Int32) (h0 : ¬ a0 = 1) (h1 : ¬ a1 = 1) (h2 : a1 = 3) (h3 : ¬ a2 < 7) : (0 : Int32) = kIns a0 a1 a3 a4 a2 := by
  ((try unfold kIns)) <;> ((repeat' split) <;> first | rfl | contradiction | assumption | (exfalso; (first | rfl | assumption | decide | omega | (have hr0 := Int32.toInt_lt a0; have hs0 := Int32.le_toInt a0; have hr1 := Int32.toInt_lt a1; have hs1 := Int32.le_toInt a1; have hr2 := Int32.toInt_lt a2; have hs2 := Int32.le_toInt a2; have hr3 := Int32.toInt_lt a3; have hs3 := Int32.le_toInt a3; have hr4 := Int32.toInt_lt a4; have hs4 := Int32.le_toInt a4; simp only [Int64.toInt_add, Int64.toInt_sub, Int32.toInt_add, Int32.toInt_sub, Int32.toInt_mul, Int64.le_iff_toInt_le, Int64.lt_iff_toInt_lt, Int32.le_iff_toInt_le, Int32.lt_iff_toInt_lt, ← Int32.toInt_inj, ← Int64.toInt_inj, Int32.toInt_toInt64, kc_m1, kc_0, kc_1, kc_2, kc_3, kc_4, kc_5, kc_6, kc_7, kc_8, kc_10, kc_48, kc_49, kc_57, kc_59, kc_97, kc_100, kc_102, kc_105, kc_111, kc_112, kc_115, kc_116, kc_119, true_and, and_true, not_true_eq_false, not_false_eq_true] at * <;> ((first | omega | ((try simp (disch := omega) only [k_bm64] at *); (try simp (disch := omega) only [k_bm] at *); (try simp (disch := omega) only [k_bm] at *); omega) | (simp only [Int.bmod] at *; omega)))))) | (first | rfl | assumption | decide | omega | (have hr0 := Int32.toInt_lt a0; have hs0 := Int32.le_toInt a0; have hr1 := Int32.toInt_lt a1; have hs1 := Int32.le_toInt a1; have hr2 := Int32.toInt_lt a2; have hs2 := Int32.le_toInt a2; have hr3 := Int32.toInt_lt a3; have hs3 := Int32.le_toInt a3; have hr4 := Int32.toInt_lt a4; have hs4 := Int32.le_toInt a4; simp only [Int64.toInt_add, Int64.toInt_sub, Int32.toInt_add, Int32.toInt_sub, Int32.toInt_mul, Int64.le_iff_toInt_le, Int64.lt_iff_toInt_lt, Int32.le_iff_toInt_le, Int32.lt_iff_toInt_lt, ← Int32.toInt_inj, ← Int64.toInt_inj, Int32.toInt_toInt64, kc_m1, kc_0, kc_1, kc_2, kc_3, kc_4, kc_5, kc_6, kc_7, kc_8, kc_10, kc_48, kc_49, kc_57, kc_59, kc_97, kc_100, kc_102, kc_105, kc_111, kc_112, kc_115, kc_116, kc_119, true_and, and_true, not_true_eq_false, not_false_eq_true] at * <;> ((first | omega | ((try simp (disch := omega) only [k_bm64] at *); (try simp (disch := omega) only [k_bm] at *); (try simp (disch := omega) only [k_bm] at *); omega) | (simp only [Int.bmod] at *; omega))))))
set_option maxHeartbeats 4000000 in
set_option maxRecDepth 100000 in
theorem j_insult (l : Launch) (dC : Nat → ClassId) (dI : Nat → Nat → Nat) (cI cJ cQ : ClassId) (sz : Nat) (aTr : Nat) (c1 : Int32) (h1 : Int32) (aLa : Nat) (aPa : Nat) (aGe : Nat) (gL : Nat) (gR : Nat) (lf : Nat) (rt : Nat) (tgo : Int32) (tca : Int32) (tki : Int32) (tso : Int32) (tbe : Int32) (twe : Int32) (tle : Int32) (tan : Int32) (tco : Int32) (ten : Int32) : Met l yX10_insult (kW yX10_insult cX10_insult 4 (some .int)) { frames := 0, cells := 0, slots := 0, locals := 0 } (kPre dC dI cI cJ cQ sz [.ref aTr, .int c1, .int h1] [(kX10 aTr aLa aPa aGe gL gR lf rt tgo tca tki tso tbe twe tle tan tco ten)]) (va_Qi (fun (r : Int32) (u : Unit) => (r = kIns ((tle >>> (c1 &&& 31)) &&& 1) tki tso c1 h1)) (fun (u : Unit) t₀ => kB dC dI cI cJ cQ (va_A [(kX10 aTr aLa aPa aGe gL gR lf rt tgo tca tki tso tbe twe tle tan tco ten)] sz) [(kX10 aTr aLa aPa aGe gL gR lf rt tgo tca tki tso tbe twe tle tan tco ten)] t₀) (va_A [(kX10 aTr aLa aPa aGe gL gR lf rt tgo tca tki tso tbe twe tle tan tco ten)] sz)) 0 0 (va_A [(kX10 aTr aLa aPa aGe gL gR lf rt tgo tca tki tso tbe twe tle tan tco ten)] sz) := by
  refine Met.ofW (cc := cX10_insult) (maxL := 4) (ret := (some .int)) (by decide) rfl ?_
  intro p₀ e₀ s₀ m₀ args below meth c₀ s₁ B hml hv₀
  obtain ⟨rfl, hsz, hP, hK, hD0, hN⟩ := hv₀
  have hx₀ := B.exec
  have hb := B.bytes
  have hr := B.returns
  have hts := atoms_spec (ws := (kW yX10_insult cX10_insult 4 (some .int))) B.pre
  have hts := fun w h => hts w (List.mem_cons_of_mem _ h)
  have hown : s₀.vm.findClass RX10 = some m₀.cls := findClass_of_methodNamed B.named
  have hlocks := B.notSynchronized
  subst hsz
  have hD := hD0.self (sz := s₀.heap.size)
  generalize hAe : va_A [(kX10 aTr aLa aPa aGe gL gR lf rt tgo tca tki tso tbe twe tle tan tco ten)] s₀.heap.size = A at hD ⊢
  have hA : ∀ q : Nat, s₀.heap.size ≤ q → A q := fun q h => by rw [← hAe]; exact Or.inr h
  have hS : va_S A s₀.heap s₀.heap [] := va_S.rf
  have hP : va_P (dC, dI) vwCl [(kX10 aTr aLa aPa aGe gL gR lf rt tgo tca tki tso tbe twe tle tan tco ten)] s₀.heap := hP
  have hl := lv_entry ([.ref aTr, .int c1, .int h1]) (n := 4) (Nat.le_of_ble_eq_true rfl)
  rw [lg_entry_eq]
  generalize (lg_sl ([.ref aTr, .int c1, .int h1]) ++ List.replicate (4 - (lg_sl ([.ref aTr, .int c1, .int h1])).length) Slot.unset).toArray = ls at hl ⊢
  have hl : lv_has ls 4 [(0, .ref aTr), (1, .int c1), (2, .int h1)] := hl
  obtain ⟨H, hH⟩ : ∃ z : Heap, z = s₀.heap := ⟨_, rfl⟩
  rw [← hH] at hP
  have hS : va_S A s₀.heap H [] := by rw [hH]; exact hS
  refine k_heap hH ?_
  have hD : va_D A [(kX10 aTr aLa aPa aGe gL gR lf rt tgo tca tki tso tbe twe tle tan tco ten)] := hD
  obtain ⟨locs, hlo⟩ : ∃ z : List Loc, z = [] := ⟨_, rfl⟩
  rw [← hlo] at hS ⊢
  clear hlo hH hAe hD0
  refine lv_aload_n hx₀ hb dX10_insult_0 rfl (lv_at hl 0 rfl) ?_
  refine va_get (D := (dC, dI)) (ci := 9) (v := .int tle) (C := RX10) (T := TX10) (N := 17) hx₀ hb hts inlX10 hown hK hP 0 rfl rfl 13 (by decide) (hts (.fieldLink RX10 125 "BittenStick$Trip" "learned" "I") wd_512) (fun _ h9 => h9) rfl dX10_insult_1 ?_
  refine lv_iload_n hx₀ hb dX10_insult_4 rfl (lv_at hl 1 rfl) ?_
  refine lv_ishr hx₀ hb dX10_insult_5 ?_
  refine lv_iconst (v := 1) hx₀ hb dX10_insult_6 (by decide +kernel) ?_
  refine lv_iand hx₀ hb dX10_insult_7 ?_
  refine lv_iconst (v := 1) hx₀ hb dX10_insult_8 (by decide +kernel) ?_
  refine lv_icmp_eq (tgt := 34) hx₀ hb dX10_insult_9 (by decide) (fun c_1 => ?_) (fun c_1 => ?_)
  · refine lv_iconst (v := 0) hx₀ hb dX10_insult_34 (by decide +kernel) ?_
    obtain ⟨hP9, hD9⟩ := k_c2 (wc := [(kX10 aTr aLa aPa aGe gL gR lf rt tgo tca tki tso tbe twe tle tan tco ten)]) hP hD [0] (by decide +kernel) rfl
    exact W.iret (v := 0) hx₀ hb hr (fun t₀ ht hW => ⟨⟨0, (), rfl, (lf_j_insult_1 ((tle >>> (c1 &&& 31)) &&& 1) tki tso c1 h1 c_1), by rw [ht]; exact hP9, va_K.moved hW.alike hK, hD9⟩, hS.F ht⟩) hS.2.2 dX10_insult_35
  · refine lv_aload_n hx₀ hb dX10_insult_12 rfl (lv_at hl 0 rfl) ?_
    refine va_get (D := (dC, dI)) (ci := 9) (v := .int tki) (C := RX10) (T := TX10) (N := 17) hx₀ hb hts inlX10 hown hK hP 0 rfl rfl 9 (by decide) (hts (.fieldLink RX10 60 "BittenStick$Trip" "kind" "I") wd_455) (fun _ h9 => h9) rfl dX10_insult_13 ?_
    refine lv_iconst (v := 1) hx₀ hb dX10_insult_16 (by decide +kernel) ?_
    refine lv_icmp_eq (tgt := 34) hx₀ hb dX10_insult_17 (by decide) (fun c_2 => ?_) (fun c_2 => ?_)
    · refine lv_iconst (v := 0) hx₀ hb dX10_insult_34 (by decide +kernel) ?_
      obtain ⟨hP9, hD9⟩ := k_c2 (wc := [(kX10 aTr aLa aPa aGe gL gR lf rt tgo tca tki tso tbe twe tle tan tco ten)]) hP hD [0] (by decide +kernel) rfl
      exact W.iret (v := 0) hx₀ hb hr (fun t₀ ht hW => ⟨⟨0, (), rfl, (lf_j_insult_2 ((tle >>> (c1 &&& 31)) &&& 1) tki tso c1 h1 c_1 c_2), by rw [ht]; exact hP9, va_K.moved hW.alike hK, hD9⟩, hS.F ht⟩) hS.2.2 dX10_insult_35
    · refine lv_aload_n hx₀ hb dX10_insult_20 rfl (lv_at hl 0 rfl) ?_
      refine va_get (D := (dC, dI)) (ci := 9) (v := .int tki) (C := RX10) (T := TX10) (N := 17) hx₀ hb hts inlX10 hown hK hP 0 rfl rfl 9 (by decide) (hts (.fieldLink RX10 60 "BittenStick$Trip" "kind" "I") wd_455) (fun _ h9 => h9) rfl dX10_insult_21 ?_
      refine lv_iconst (v := 3) hx₀ hb dX10_insult_24 (by decide +kernel) ?_
      refine lv_icmp_ne (tgt := 36) hx₀ hb dX10_insult_25 (by decide) (fun c_3 => ?_) (fun c_3 => ?_)
      · refine lv_iload_n hx₀ hb dX10_insult_36 rfl (lv_at hl 1 rfl) ?_
        refine lv_aload_n hx₀ hb dX10_insult_37 rfl (lv_at hl 0 rfl) ?_
        refine va_get (D := (dC, dI)) (ci := 9) (v := .int tso) (C := RX10) (T := TX10) (N := 17) hx₀ hb hts inlX10 hown hK hP 0 rfl rfl 10 (by decide) (hts (.fieldLink RX10 63 "BittenStick$Trip" "sore" "I") wd_456) (fun _ h9 => h9) rfl dX10_insult_38 ?_
        refine lv_icmp_ne (tgt := 53) hx₀ hb dX10_insult_41 (by decide) (fun c_4 => ?_) (fun c_4 => ?_)
        · refine lv_bipush (v := 10) hx₀ hb dX10_insult_53 (by decide +kernel) ?_
          refine lv_iload_n hx₀ hb dX10_insult_55 rfl (lv_at hl 2 rfl) ?_
          refine lv_isub hx₀ hb dX10_insult_56 ?_
          refine lv_istore_n (lv' := [(3, .int (10 - h1)), (0, .ref aTr), (1, .int c1), (2, .int h1)]) hx₀ hb dX10_insult_57 rfl hl (by decide) rfl (fun ls hl => ?_)
          refine lv_aload_n hx₀ hb dX10_insult_58 rfl (lv_at hl 1 rfl) ?_
          refine va_get (D := (dC, dI)) (ci := 9) (v := .int tki) (C := RX10) (T := TX10) (N := 17) hx₀ hb hts inlX10 hown hK hP 0 rfl rfl 9 (by decide) (hts (.fieldLink RX10 60 "BittenStick$Trip" "kind" "I") wd_455) (fun _ h9 => h9) rfl dX10_insult_59 ?_
          refine lv_iconst (v := 2) hx₀ hb dX10_insult_62 (by decide +kernel) ?_
          refine lv_icmp_ne (tgt := 72) hx₀ hb dX10_insult_63 (by decide) (fun c_5 => ?_) (fun c_5 => ?_)
          · refine lv_iload_n hx₀ hb dX10_insult_72 rfl (lv_at hl 0 rfl) ?_
            obtain ⟨hP9, hD9⟩ := k_c2 (wc := [(kX10 aTr aLa aPa aGe gL gR lf rt tgo tca tki tso tbe twe tle tan tco ten)]) hP hD [0] (by decide +kernel) rfl
            exact W.iret (v := 10 - h1) hx₀ hb hr (fun t₀ ht hW => ⟨⟨10 - h1, (), rfl, (lf_j_insult_3 ((tle >>> (c1 &&& 31)) &&& 1) tki c1 tso h1 c_1 c_2 c_3 c_4 c_5), by rw [ht]; exact hP9, va_K.moved hW.alike hK, hD9⟩, hS.F ht⟩) hS.2.2 dX10_insult_73
          · refine lv_iload_n hx₀ hb dX10_insult_66 rfl (lv_at hl 0 rfl) ?_
            refine lv_iconst (v := 1) hx₀ hb dX10_insult_67 (by decide +kernel) ?_
            refine lv_iadd hx₀ hb dX10_insult_68 ?_
            refine lv_goto (tgt := 73) hx₀ hb dX10_insult_69 (by decide) ?_
            obtain ⟨hP9, hD9⟩ := k_c2 (wc := [(kX10 aTr aLa aPa aGe gL gR lf rt tgo tca tki tso tbe twe tle tan tco ten)]) hP hD [0] (by decide +kernel) rfl
            exact W.iret (v := (10 - h1) + 1) hx₀ hb hr (fun t₀ ht hW => ⟨⟨(10 - h1) + 1, (), rfl, (lf_j_insult_4 ((tle >>> (c1 &&& 31)) &&& 1) tki c1 tso h1 c_1 c_2 c_3 c_4 c_5), by rw [ht]; exact hP9, va_K.moved hW.alike hK, hD9⟩, hS.F ht⟩) hS.2.2 dX10_insult_73
        · refine lv_iconst (v := 2) hx₀ hb dX10_insult_44 (by decide +kernel) ?_
          refine lv_bipush (v := 10) hx₀ hb dX10_insult_45 (by decide +kernel) ?_
          refine lv_iload_n hx₀ hb dX10_insult_47 rfl (lv_at hl 2 rfl) ?_
          refine lv_isub hx₀ hb dX10_insult_48 ?_
          refine lv_imul hx₀ hb dX10_insult_49 ?_
          refine lv_goto (tgt := 57) hx₀ hb dX10_insult_50 (by decide) ?_
          refine lv_istore_n (lv' := [(3, .int (2 * (10 - h1))), (0, .ref aTr), (1, .int c1), (2, .int h1)]) hx₀ hb dX10_insult_57 rfl hl (by decide) rfl (fun ls hl => ?_)
          refine lv_aload_n hx₀ hb dX10_insult_58 rfl (lv_at hl 1 rfl) ?_
          refine va_get (D := (dC, dI)) (ci := 9) (v := .int tki) (C := RX10) (T := TX10) (N := 17) hx₀ hb hts inlX10 hown hK hP 0 rfl rfl 9 (by decide) (hts (.fieldLink RX10 60 "BittenStick$Trip" "kind" "I") wd_455) (fun _ h9 => h9) rfl dX10_insult_59 ?_
          refine lv_iconst (v := 2) hx₀ hb dX10_insult_62 (by decide +kernel) ?_
          refine lv_icmp_ne (tgt := 72) hx₀ hb dX10_insult_63 (by decide) (fun c_6 => ?_) (fun c_6 => ?_)
          · refine lv_iload_n hx₀ hb dX10_insult_72 rfl (lv_at hl 0 rfl) ?_
            obtain ⟨hP9, hD9⟩ := k_c2 (wc := [(kX10 aTr aLa aPa aGe gL gR lf rt tgo tca tki tso tbe twe tle tan tco ten)]) hP hD [0] (by decide +kernel) rfl
            exact W.iret (v := 2 * (10 - h1)) hx₀ hb hr (fun t₀ ht hW => ⟨⟨2 * (10 - h1), (), rfl, (lf_j_insult_5 ((tle >>> (c1 &&& 31)) &&& 1) tki c1 tso h1 c_1 c_2 c_3 c_4 c_6), by rw [ht]; exact hP9, va_K.moved hW.alike hK, hD9⟩, hS.F ht⟩) hS.2.2 dX10_insult_73
          · refine lv_iload_n hx₀ hb dX10_insult_66 rfl (lv_at hl 0 rfl) ?_
            refine lv_iconst (v := 1) hx₀ hb dX10_insult_67 (by decide +kernel) ?_
            refine lv_iadd hx₀ hb dX10_insult_68 ?_
            refine lv_goto (tgt := 73) hx₀ hb dX10_insult_69 (by decide) ?_
            obtain ⟨hP9, hD9⟩ := k_c2 (wc := [(kX10 aTr aLa aPa aGe gL gR lf rt tgo tca tki tso tbe twe tle tan tco ten)]) hP hD [0] (by decide +kernel) rfl
            exact W.iret (v := (2 * (10 - h1)) + 1) hx₀ hb hr (fun t₀ ht hW => ⟨⟨(2 * (10 - h1)) + 1, (), rfl, (lf_j_insult_6 ((tle >>> (c1 &&& 31)) &&& 1) tki c1 tso h1 c_1 c_2 c_3 c_4 c_6), by rw [ht]; exact hP9, va_K.moved hW.alike hK, hD9⟩, hS.F ht⟩) hS.2.2 dX10_insult_73
      · refine lv_iload_n hx₀ hb dX10_insult_28 rfl (lv_at hl 2 rfl) ?_
        refine lv_bipush (v := 7) hx₀ hb dX10_insult_29 (by decide +kernel) ?_
        refine lv_icmp_lt (tgt := 36) hx₀ hb dX10_insult_31 (by decide) (fun c_7 => ?_) (fun c_7 => ?_)
        · refine lv_iload_n hx₀ hb dX10_insult_36 rfl (lv_at hl 1 rfl) ?_
          refine lv_aload_n hx₀ hb dX10_insult_37 rfl (lv_at hl 0 rfl) ?_
          refine va_get (D := (dC, dI)) (ci := 9) (v := .int tso) (C := RX10) (T := TX10) (N := 17) hx₀ hb hts inlX10 hown hK hP 0 rfl rfl 10 (by decide) (hts (.fieldLink RX10 63 "BittenStick$Trip" "sore" "I") wd_456) (fun _ h9 => h9) rfl dX10_insult_38 ?_
          refine lv_icmp_ne (tgt := 53) hx₀ hb dX10_insult_41 (by decide) (fun c_8 => ?_) (fun c_8 => ?_)
          · refine lv_bipush (v := 10) hx₀ hb dX10_insult_53 (by decide +kernel) ?_
            refine lv_iload_n hx₀ hb dX10_insult_55 rfl (lv_at hl 2 rfl) ?_
            refine lv_isub hx₀ hb dX10_insult_56 ?_
            refine lv_istore_n (lv' := [(3, .int (10 - h1)), (0, .ref aTr), (1, .int c1), (2, .int h1)]) hx₀ hb dX10_insult_57 rfl hl (by decide) rfl (fun ls hl => ?_)
            refine lv_aload_n hx₀ hb dX10_insult_58 rfl (lv_at hl 1 rfl) ?_
            refine va_get (D := (dC, dI)) (ci := 9) (v := .int tki) (C := RX10) (T := TX10) (N := 17) hx₀ hb hts inlX10 hown hK hP 0 rfl rfl 9 (by decide) (hts (.fieldLink RX10 60 "BittenStick$Trip" "kind" "I") wd_455) (fun _ h9 => h9) rfl dX10_insult_59 ?_
            refine lv_iconst (v := 2) hx₀ hb dX10_insult_62 (by decide +kernel) ?_
            refine lv_icmp_ne (tgt := 72) hx₀ hb dX10_insult_63 (by decide) (fun c_9 => ?_) (fun c9 => ((show ¬ (tki = 2) from (fun z => absurd (c_3.symm.trans z) (by decide))) c9).elim)
            refine lv_iload_n hx₀ hb dX10_insult_72 rfl (lv_at hl 0 rfl) ?_
            obtain ⟨hP9, hD9⟩ := k_c2 (wc := [(kX10 aTr aLa aPa aGe gL gR lf rt tgo tca tki tso tbe twe tle tan tco ten)]) hP hD [0] (by decide +kernel) rfl
            exact W.iret (v := 10 - h1) hx₀ hb hr (fun t₀ ht hW => ⟨⟨10 - h1, (), rfl, (lf_j_insult_7 ((tle >>> (c1 &&& 31)) &&& 1) tki h1 c1 tso c_1 c_2 c_3 c_7 c_8 c_9), by rw [ht]; exact hP9, va_K.moved hW.alike hK, hD9⟩, hS.F ht⟩) hS.2.2 dX10_insult_73
          · refine lv_iconst (v := 2) hx₀ hb dX10_insult_44 (by decide +kernel) ?_
            refine lv_bipush (v := 10) hx₀ hb dX10_insult_45 (by decide +kernel) ?_
            refine lv_iload_n hx₀ hb dX10_insult_47 rfl (lv_at hl 2 rfl) ?_
            refine lv_isub hx₀ hb dX10_insult_48 ?_
            refine lv_imul hx₀ hb dX10_insult_49 ?_
            refine lv_goto (tgt := 57) hx₀ hb dX10_insult_50 (by decide) ?_
            refine lv_istore_n (lv' := [(3, .int (2 * (10 - h1))), (0, .ref aTr), (1, .int c1), (2, .int h1)]) hx₀ hb dX10_insult_57 rfl hl (by decide) rfl (fun ls hl => ?_)
            refine lv_aload_n hx₀ hb dX10_insult_58 rfl (lv_at hl 1 rfl) ?_
            refine va_get (D := (dC, dI)) (ci := 9) (v := .int tki) (C := RX10) (T := TX10) (N := 17) hx₀ hb hts inlX10 hown hK hP 0 rfl rfl 9 (by decide) (hts (.fieldLink RX10 60 "BittenStick$Trip" "kind" "I") wd_455) (fun _ h9 => h9) rfl dX10_insult_59 ?_
            refine lv_iconst (v := 2) hx₀ hb dX10_insult_62 (by decide +kernel) ?_
            refine lv_icmp_ne (tgt := 72) hx₀ hb dX10_insult_63 (by decide) (fun c_10 => ?_) (fun c9 => ((show ¬ (tki = 2) from (fun z => absurd (c_3.symm.trans z) (by decide))) c9).elim)
            refine lv_iload_n hx₀ hb dX10_insult_72 rfl (lv_at hl 0 rfl) ?_
            obtain ⟨hP9, hD9⟩ := k_c2 (wc := [(kX10 aTr aLa aPa aGe gL gR lf rt tgo tca tki tso tbe twe tle tan tco ten)]) hP hD [0] (by decide +kernel) rfl
            exact W.iret (v := 2 * (10 - h1)) hx₀ hb hr (fun t₀ ht hW => ⟨⟨2 * (10 - h1), (), rfl, (lf_j_insult_8 ((tle >>> (c1 &&& 31)) &&& 1) tki h1 c1 tso c_1 c_2 c_3 c_7 c_8 c_10), by rw [ht]; exact hP9, va_K.moved hW.alike hK, hD9⟩, hS.F ht⟩) hS.2.2 dX10_insult_73
        · refine lv_iconst (v := 0) hx₀ hb dX10_insult_34 (by decide +kernel) ?_
          obtain ⟨hP9, hD9⟩ := k_c2 (wc := [(kX10 aTr aLa aPa aGe gL gR lf rt tgo tca tki tso tbe twe tle tan tco ten)]) hP hD [0] (by decide +kernel) rfl
          exact W.iret (v := 0) hx₀ hb hr (fun t₀ ht hW => ⟨⟨0, (), rfl, (lf_j_insult_9 ((tle >>> (c1 &&& 31)) &&& 1) tki h1 tso c1 c_1 c_2 c_3 c_7), by rw [ht]; exact hP9, va_K.moved hW.alike hK, hD9⟩, hS.F ht⟩) hS.2.2 dX10_insult_35
theorem lf_j_goOn_1 (a0 : Int32) (a1 : Int32) (a2 : Nat) (a3 : Int32) (h0 : (a0.toInt - a1.toInt).toNat = a2) (h1 : ¬ a0 ≤ a1) (h2 : a1 < a3) : (a0.toInt - (a1 + 1).toInt).toNat < a2 := by
  first | rfl | assumption | decide | exact Or.inl rfl | (first | rfl | assumption | decide | omega | (have hr0 := Int32.toInt_lt a0; have hs0 := Int32.le_toInt a0; have hr1 := Int32.toInt_lt a1; have hs1 := Int32.le_toInt a1; have hr2 := Int32.toInt_lt a3; have hs2 := Int32.le_toInt a3; simp only [Int64.toInt_add, Int64.toInt_sub, Int32.toInt_add, Int32.toInt_sub, Int32.toInt_mul, Int64.le_iff_toInt_le, Int64.lt_iff_toInt_lt, Int32.le_iff_toInt_le, Int32.lt_iff_toInt_lt, ← Int32.toInt_inj, ← Int64.toInt_inj, Int32.toInt_toInt64, kc_1, true_and, and_true, not_true_eq_false, not_false_eq_true] at * <;> ((first | omega | ((try simp (disch := omega) only [k_bm64] at *); (try simp (disch := omega) only [k_bm] at *); (try simp (disch := omega) only [k_bm] at *); omega) | (simp only [Int.bmod] at *; omega)))))
set_option maxHeartbeats 4000000 in
set_option maxRecDepth 100000 in
theorem j_goOn (l : Launch) (dC : Nat → ClassId) (dI : Nat → Nat → Nat) (cI cJ cQ : ClassId) (sz : Nat) (aTr : Nat) (fr : Int32) (to : Int32) (h1 : Int32) (aLa : Nat) (aPa : Nat) (aGe : Nat) (gL : Nat) (gR : Nat) (lf : Nat) (rt : Nat) (tgo : Int32) (tca : Int32) (tki : Int32) (tso : Int32) (tbe : Int32) (twe : Int32) (tle : Int32) (tan : Int32) (tco : Int32) (ten : Int32) (vLa : Nat) (l4 : Int32) (a4 : Int32) (n4 : Int32) (f4 : Nat → Int32) : Met l yX10_goOn (kW yX10_goOn cX10_goOn 7 (some .int)) { frames := 1, cells := 0, slots := 0, locals := 23 } (kPre dC dI cI cJ cQ sz [.ref aTr, .int fr, .int to, .int h1] [(kX10 aTr aLa aPa aGe gL gR lf rt tgo tca tki tso tbe twe tle tan tco ten), (kX4 aLa vLa l4 a4 n4), (kAI vLa cI 24 f4)]) (va_Qi (fun (r : Int32) (u : kS) => True) (fun (u : kS) t₀ => kB dC dI cI cJ cQ (va_A [(kX10 aTr aLa aPa aGe gL gR lf rt tgo tca tki tso tbe twe tle tan tco ten), (kX4 aLa vLa l4 a4 n4), (kAI vLa cI 24 f4)] sz) [(kX10 aTr aLa aPa aGe gL gR lf rt tgo tca tki tso tbe twe tle (u.1 0) (u.1 1) (u.1 2)), (kX4 aLa vLa l4 a4 n4), (kAI vLa cI 24 f4)] t₀) (va_A [(kX10 aTr aLa aPa aGe gL gR lf rt tgo tca tki tso tbe twe tle tan tco ten), (kX4 aLa vLa l4 a4 n4), (kAI vLa cI 24 f4)] sz)) 0 0 (va_A [(kX10 aTr aLa aPa aGe gL gR lf rt tgo tca tki tso tbe twe tle tan tco ten), (kX4 aLa vLa l4 a4 n4), (kAI vLa cI 24 f4)] sz) := by
  refine Met.ofW (cc := cX10_goOn) (maxL := 7) (ret := (some .int)) (by decide) rfl ?_
  intro p₀ e₀ s₀ m₀ args below meth c₀ s₁ B hml hv₀
  obtain ⟨rfl, hsz, hP, hK, hD0, hN⟩ := hv₀
  have hx₀ := B.exec
  have hb := B.bytes
  have hr := B.returns
  have hts := atoms_spec (ws := (kW yX10_goOn cX10_goOn 7 (some .int))) B.pre
  have hts := fun w h => hts w (List.mem_cons_of_mem _ h)
  have hown : s₀.vm.findClass RX10 = some m₀.cls := findClass_of_methodNamed B.named
  have hlocks := B.notSynchronized
  subst hsz
  have hD := hD0.self (sz := s₀.heap.size)
  generalize hAe : va_A [(kX10 aTr aLa aPa aGe gL gR lf rt tgo tca tki tso tbe twe tle tan tco ten), (kX4 aLa vLa l4 a4 n4), (kAI vLa cI 24 f4)] s₀.heap.size = A at hD ⊢
  have hA : ∀ q : Nat, s₀.heap.size ≤ q → A q := fun q h => by rw [← hAe]; exact Or.inr h
  have hS : va_S A s₀.heap s₀.heap [] := va_S.rf
  have hP : va_P (dC, dI) vwCl [(kX10 aTr aLa aPa aGe gL gR lf rt tgo tca tki tso tbe twe tle tan tco ten), (kX4 aLa vLa l4 a4 n4), (kAI vLa cI 24 f4)] s₀.heap := hP
  have hl := lv_entry ([.ref aTr, .int fr, .int to, .int h1]) (n := 7) (Nat.le_of_ble_eq_true rfl)
  rw [lg_entry_eq]
  generalize (lg_sl ([.ref aTr, .int fr, .int to, .int h1]) ++ List.replicate (7 - (lg_sl ([.ref aTr, .int fr, .int to, .int h1])).length) Slot.unset).toArray = ls at hl ⊢
  have hl : lv_has ls 7 [(0, .ref aTr), (1, .int fr), (2, .int to), (3, .int h1)] := hl
  obtain ⟨H, hH⟩ : ∃ z : Heap, z = s₀.heap := ⟨_, rfl⟩
  rw [← hH] at hP
  have hS : va_S A s₀.heap H [] := by rw [hH]; exact hS
  refine k_heap hH ?_
  have hD : va_D A [(kX10 aTr aLa aPa aGe gL gR lf rt tgo tca tki tso tbe twe tle tan tco ten), (kX4 aLa vLa l4 a4 n4), (kAI vLa cI 24 f4)] := hD
  obtain ⟨locs, hlo⟩ : ∃ z : List Loc, z = [] := ⟨_, rfl⟩
  rw [← hlo] at hS ⊢
  clear hlo hH hAe hD0
  refine lv_iconst (v := 0) hx₀ hb dX10_goOn_0 (by decide +kernel) ?_
  refine lv_iload_n hx₀ hb dX10_goOn_1 rfl (lv_at hl 3 rfl) ?_
  refine lv_iconst (v := 5) hx₀ hb dX10_goOn_2 (by decide +kernel) ?_
  refine lv_isub hx₀ hb dX10_goOn_3 ?_
  refine va_mmax hx₀ hb (by rw [hml]; exact hl.1.symm) hown (hts (.methodLink RX10 117 Lib.Math.max.name) wd_507) (hts (.static Lib.Math.max.name) wd_62) (hts (.initialized "java/lang/Math") wd_63) (hts (.code Lib.Math.max.name Lib.Math.max.code 2 (some .int)) wd_64) (by decide) (Nat.le_of_ble_eq_true rfl) (by decide) (by decide) dX10_goOn_4 ?_
  by_cases c_1 : (0 : Int32) < (h1 - 5)
  · refine k_topi (v := h1 - 5) (if_pos c_1) ?_
    refine lv_istore (lv' := [(4, .int (h1 - 5)), (0, .ref aTr), (1, .int fr), (2, .int to), (3, .int h1)]) hx₀ hb dX10_goOn_7 hl (by decide) rfl (fun ls hl => ?_)
    refine lv_iload_n hx₀ hb dX10_goOn_9 rfl (lv_at hl 2 rfl) ?_
    refine lv_istore (lv' := [(5, .int fr), (4, .int (h1 - 5)), (0, .ref aTr), (1, .int fr), (2, .int to), (3, .int h1)]) hx₀ hb dX10_goOn_10 hl (by decide) rfl (fun ls hl => ?_)
    refine (?keyz2 : ∀ (jz2 : Nat) (iz2 : Int32) (x1z2 : Int32) (x2z2 : Int32) (x3z2 : Int32) (H : Heap) (locs : List Loc) (ls : Array Slot),  ((to.toInt - iz2.toInt).toNat = jz2) → va_P (dC, dI) vwCl [(kX10 aTr aLa aPa aGe gL gR lf rt tgo tca tki tso tbe twe tle x1z2 x2z2 x3z2), (kX4 aLa vLa l4 a4 n4), (kAI vLa cI 24 f4)] H → va_D A [(kX10 aTr aLa aPa aGe gL gR lf rt tgo tca tki tso tbe twe tle x1z2 x2z2 x3z2), (kX4 aLa vLa l4 a4 n4), (kAI vLa cI 24 f4)] → va_S A s₀.heap H locs → lv_has ls 7 [(5, .int iz2), (4, .int (h1 - 5)), (0, .ref aTr), (1, .int fr), (2, .int to), (3, .int h1)] → W p₀ l e₀ _ s₀ m₀ _ below meth c₀ H locs _ _ _ (F0 m₀ 12 ls [])) _ fr tan tco ten H locs ls  rfl hP hD hS hl
    clear hP hD hS hl
    intro jz2
    induction jz2 using Nat.strongRecOn with
    | ind jz2 ihz2 =>
      intro iz2 x1z2 x2z2 x3z2 H locs ls  hjz2 hP hD hS hl
      refine lv_iload hx₀ hb dX10_goOn_12 (lv_at hl 0 rfl) ?_
      refine lv_iload_n hx₀ hb dX10_goOn_14 rfl (lv_at hl 4 rfl) ?_
      refine lv_icmp_ge (tgt := 139) hx₀ hb dX10_goOn_15 (by decide) (fun c_3 => ?_) (fun c_3 => ?_)
      · refine lv_iload_n hx₀ hb dX10_goOn_139 rfl (lv_at hl 4 rfl) ?_
        obtain ⟨hP9, hD9⟩ := k_c2 (wc := [(kX10 aTr aLa aPa aGe gL gR lf rt tgo tca tki tso tbe twe tle x1z2 x2z2 x3z2), (kX4 aLa vLa l4 a4 n4), (kAI vLa cI 24 f4)]) hP hD [0, 1, 2] (by decide +kernel) rfl
        exact W.iret (v := to) hx₀ hb hr (fun t₀ ht hW => ⟨⟨to, (k_fn [x1z2, x2z2, x3z2], k_fa [], k_fl [], k_fL [], k_fp []), rfl, trivial, by rw [ht]; exact hP9, va_K.moved hW.alike hK, hD9⟩, hS.F ht⟩) hS.2.2 dX10_goOn_140
      · refine lv_iload hx₀ hb dX10_goOn_18 (lv_at hl 0 rfl) ?_
        refine lv_aload_n hx₀ hb dX10_goOn_20 rfl (lv_at hl 2 rfl) ?_
        refine va_get (D := (dC, dI)) (ci := 9) (v := .int tca) (C := RX10) (T := TX10) (N := 17) hx₀ hb hts inlX10 hown hK hP 0 rfl rfl 8 (by decide) (hts (.fieldLink RX10 52 "BittenStick$Trip" "carriedTo" "I") wd_454) (fun _ h9 => h9) rfl dX10_goOn_21 ?_
        refine lv_icmp_lt (tgt := 35) hx₀ hb dX10_goOn_24 (by decide) (fun c_4 => ?_) (fun c_4 => ?_)
        · refine lv_aload_n hx₀ hb dX10_goOn_35 rfl (lv_at hl 2 rfl) ?_
          refine lv_dup hx₀ hb dX10_goOn_36 rfl ?_
          refine va_get (D := (dC, dI)) (ci := 9) (v := .int x2z2) (C := RX10) (T := TX10) (N := 17) hx₀ hb hts inlX10 hown hK hP 0 rfl rfl 15 (by decide) (hts (.fieldLink RX10 106 "BittenStick$Trip" "cold" "I") wd_501) (fun _ h9 => h9) rfl dX10_goOn_37 ?_
          refine lv_iload hx₀ hb dX10_goOn_40 (lv_at hl 1 rfl) ?_
          refine lv_iadd hx₀ hb dX10_goOn_42 ?_
          refine va_put (D := (dC, dI)) (ci := 9) (v := .int (x2z2 + (h1 - 5))) (ty := .int) (C := RX10) (T := TX10) (N := 17) hx₀ hb hts inlX10 tyX10 tyX10_ok nmX10 hown hK hP hD hS 0 rfl rfl 15 (by decide) (hts (.fieldLink RX10 106 "BittenStick$Trip" "cold" "I") wd_501) (fun _ h9 => h9) rfl (by decide +kernel) rfl rfl (Nat.le_of_ble_eq_true rfl) dX10_goOn_43 ?_
          clear hP hD hS
          intro H locs hP hD hS
          replace hP := k_w2 (wt := [(kX10 aTr aLa aPa aGe gL gR lf rt tgo tca tki tso tbe twe tle x1z2 (x2z2 + (h1 - 5)) x3z2), (kX4 aLa vLa l4 a4 n4), (kAI vLa cI 24 f4)]) hP hD rfl
          replace hD := hP.2
          replace hP := hP.1
          refine lv_aload_n hx₀ hb dX10_goOn_46 rfl (lv_at hl 2 rfl) ?_
          refine va_get (D := (dC, dI)) (ci := 9) (v := .int (x2z2 + (h1 - 5))) (C := RX10) (T := TX10) (N := 17) hx₀ hb hts inlX10 hown hK hP 0 rfl rfl 15 (by decide) (hts (.fieldLink RX10 106 "BittenStick$Trip" "cold" "I") wd_501) (fun _ h9 => h9) rfl dX10_goOn_47 ?_
          refine lv_bipush (v := 20) hx₀ hb dX10_goOn_50 (by decide +kernel) ?_
          refine lv_icmp_le (tgt := 63) hx₀ hb dX10_goOn_52 (by decide) (fun c_5 => ?_) (fun c_5 => ?_)
          · refine lv_aload_n hx₀ hb dX10_goOn_63 rfl (lv_at hl 2 rfl) ?_
            refine va_get (D := (dC, dI)) (ci := 9) (v := .ref aLa) (C := RX10) (T := TX10) (N := 17) hx₀ hb hts inlX10 hown hK hP 0 rfl rfl 0 (by decide) (hts (.fieldLink RX10 27 "BittenStick$Trip" "land" "LBittenStick$Land;") wd_89) (fun _ h9 => h9) rfl dX10_goOn_64 ?_
            refine lv_iload hx₀ hb dX10_goOn_67 (lv_at hl 0 rfl) ?_
            obtain ⟨hPc, hDc, hFc, hC⟩ := k_cw (wc := [(kX4 aLa vLa l4 a4 n4), (kAI vLa cI 24 f4)]) hP hD hS hA [1, 2] (by decide +kernel) rfl
            refine va_calli (va_runU (As := [.int iz2]) (rest := []) ⟨hx₀, hb, hml, hown, hts⟩ (j_valueAt_X4 l dC dI cI cJ cQ H.size aLa iz2 vLa l4 a4 n4 f4) (va_cwU 1 hts (kGU wd_179 wd_478 wd_288 wd_289 wd_178 wd_57) rfl rfl rfl rfl (by decide +kernel) ⟨Nat.le_of_ble_eq_true rfl, Nat.le_of_ble_eq_true rfl⟩) (k_preV4 (q0 := 0) hK hPc hDc hN rfl) rfl rfl hl.1 rfl (lv_room (Nat.le_of_ble_eq_true rfl)) dX10_goOn_69 ⟨by decide +kernel, by decide +kernel⟩) hS (fun q _ h => hFc q h) hFc (fun r_6 u₀ t₀ H1 locs ht hvm hw hB hz1 hk1 hS => ?_)
            obtain ⟨hP1, hK1, hD1⟩ := hB
            rw [ht] at hP1
            have hJ := k_jn (wr := [(kX10 aTr aLa aPa aGe gL gR lf rt tgo tca tki tso tbe twe tle x1z2 (x2z2 + (h1 - 5)) x3z2)]) (wt := [(kX10 aTr aLa aPa aGe gL gR lf rt tgo tca tki tso tbe twe tle x1z2 (x2z2 + (h1 - 5)) x3z2), (kX4 aLa vLa l4 a4 n4), (kAI vLa cI 24 f4)]) hP hD hC [0] rfl (by decide +kernel) (by decide +kernel) hk1 hFc hP1 hD1 rfl
            clear hP hD hPc hDc hFc hC hP1 hD1 hK1 hz1 hk1 hvm ht
            obtain ⟨hP, hD⟩ := hJ
            generalize H1 = H at hP hS ⊢
            try dsimp only at hw
            refine k_topi (v := kAt 24 f4 iz2) hw ?_
            refine lv_istore (lv' := [(6, .int (kAt 24 f4 iz2)), (5, .int iz2), (4, .int (h1 - 5)), (0, .ref aTr), (1, .int fr), (2, .int to), (3, .int h1)]) hx₀ hb dX10_goOn_72 hl (by decide) rfl (fun ls hl => ?_)
            refine lv_iload hx₀ hb dX10_goOn_74 (lv_at hl 0 rfl) ?_
            refine lv_bipush (v := 6) hx₀ hb dX10_goOn_76 (by decide +kernel) ?_
            refine lv_icmp_ge (tgt := 116) hx₀ hb dX10_goOn_78 (by decide) (fun c_7 => ?_) (fun c_7 => ?_)
            · refine lv_iload hx₀ hb dX10_goOn_116 (lv_at hl 0 rfl) ?_
              refine lv_bipush (v := 7) hx₀ hb dX10_goOn_118 (by decide +kernel) ?_
              refine lv_icmp_ne (tgt := 133) hx₀ hb dX10_goOn_120 (by decide) (fun c_8 => ?_) (fun c_8 => ?_)
              · refine lv_iinc (v := iz2 + 1) (lv' := [(5, .int (iz2 + 1)), (6, .int (kAt 24 f4 iz2)), (4, .int (h1 - 5)), (0, .ref aTr), (1, .int fr), (2, .int to), (3, .int h1)]) hx₀ hb dX10_goOn_133 hl (k := 1) rfl rfl (by decide) rfl (fun ls hl => ?_)
                refine lv_goto (tgt := 12) hx₀ hb dX10_goOn_136 (by decide) ?_
                exact ihz2 _ (lf_j_goOn_1 to iz2 jz2 tca hjz2 c_3 c_4) (iz2 + 1) x1z2 (x2z2 + (h1 - 5)) x3z2 _ _ _  rfl (hP.sub [0, 1, 2] rfl) (hD.sub [0, 1, 2] (by decide +kernel) rfl) hS (lv_sub hl [0, 2, 3, 4, 5, 6] rfl)
              · refine lv_aload_n hx₀ hb dX10_goOn_123 rfl (lv_at hl 3 rfl) ?_
                refine lv_iconst (v := 0) hx₀ hb dX10_goOn_124 (by decide +kernel) ?_
                refine va_put (D := (dC, dI)) (ci := 9) (v := .int 0) (ty := .int) (C := RX10) (T := TX10) (N := 17) hx₀ hb hts inlX10 tyX10 tyX10_ok nmX10 hown hK hP hD hS 0 rfl rfl 14 (by decide) (hts (.fieldLink RX10 103 "BittenStick$Trip" "anger" "I") wd_500) (fun _ h9 => h9) rfl (by decide +kernel) rfl rfl (Nat.le_of_ble_eq_true rfl) dX10_goOn_125 ?_
                clear hP hD hS
                intro H locs hP hD hS
                replace hP := k_w2 (wt := [(kX10 aTr aLa aPa aGe gL gR lf rt tgo tca tki tso tbe twe tle 0 (x2z2 + (h1 - 5)) x3z2), (kX4 aLa vLa l4 a4 n4), (kAI vLa cI 24 f4)]) hP hD rfl
                replace hD := hP.2
                replace hP := hP.1
                refine lv_aload_n hx₀ hb dX10_goOn_128 rfl (lv_at hl 3 rfl) ?_
                refine lv_iconst (v := 0) hx₀ hb dX10_goOn_129 (by decide +kernel) ?_
                refine va_put (D := (dC, dI)) (ci := 9) (v := .int 0) (ty := .int) (C := RX10) (T := TX10) (N := 17) hx₀ hb hts inlX10 tyX10 tyX10_ok nmX10 hown hK hP hD hS 0 rfl rfl 15 (by decide) (hts (.fieldLink RX10 106 "BittenStick$Trip" "cold" "I") wd_501) (fun _ h9 => h9) rfl (by decide +kernel) rfl rfl (Nat.le_of_ble_eq_true rfl) dX10_goOn_130 ?_
                clear hP hD hS
                intro H locs hP hD hS
                replace hP := k_w2 (wt := [(kX10 aTr aLa aPa aGe gL gR lf rt tgo tca tki tso tbe twe tle 0 0 x3z2), (kX4 aLa vLa l4 a4 n4), (kAI vLa cI 24 f4)]) hP hD rfl
                replace hD := hP.2
                replace hP := hP.1
                refine lv_iinc (v := iz2 + 1) (lv' := [(5, .int (iz2 + 1)), (6, .int (kAt 24 f4 iz2)), (4, .int (h1 - 5)), (0, .ref aTr), (1, .int fr), (2, .int to), (3, .int h1)]) hx₀ hb dX10_goOn_133 hl (k := 1) rfl rfl (by decide) rfl (fun ls hl => ?_)
                refine lv_goto (tgt := 12) hx₀ hb dX10_goOn_136 (by decide) ?_
                exact ihz2 _ (lf_j_goOn_1 to iz2 jz2 tca hjz2 c_3 c_4) (iz2 + 1) (0 : Int32) (0 : Int32) x3z2 _ _ _  rfl (hP.sub [0, 1, 2] rfl) (hD.sub [0, 1, 2] (by decide +kernel) rfl) hS (lv_sub hl [0, 2, 3, 4, 5, 6] rfl)
            · refine lv_aload_n hx₀ hb dX10_goOn_81 rfl (lv_at hl 3 rfl) ?_
              refine lv_dup hx₀ hb dX10_goOn_82 rfl ?_
              refine va_get (D := (dC, dI)) (ci := 9) (v := .int x1z2) (C := RX10) (T := TX10) (N := 17) hx₀ hb hts inlX10 hown hK hP 0 rfl rfl 14 (by decide) (hts (.fieldLink RX10 103 "BittenStick$Trip" "anger" "I") wd_500) (fun _ h9 => h9) rfl dX10_goOn_83 ?_
              refine lv_aload_n hx₀ hb dX10_goOn_86 rfl (lv_at hl 3 rfl) ?_
              refine lv_iload hx₀ hb dX10_goOn_87 (lv_at hl 0 rfl) ?_
              refine lv_iload_n hx₀ hb dX10_goOn_89 rfl (lv_at hl 6 rfl) ?_
              obtain ⟨hPc, hDc, hFc, hC⟩ := k_cw (wc := [(kX10 aTr aLa aPa aGe gL gR lf rt tgo tca tki tso tbe twe tle x1z2 (x2z2 + (h1 - 5)) x3z2)]) hP hD hS hA [0] (by decide +kernel) rfl
              refine va_calli (va_runV (As := [.int (kAt 24 f4 iz2), .int h1]) (rest := [.int x1z2, .ref aTr]) ⟨hx₀, hb, hml, hown, hts⟩ (j_insult l dC dI cI cJ cQ H.size aTr (kAt 24 f4 iz2) h1 aLa aPa aGe gL gR lf rt tgo tca tki tso tbe twe tle x1z2 (x2z2 + (h1 - 5)) x3z2) (cwV 2 hts (kGV wd_511 wd_508 wd_509 wd_510 wd_30) rfl rfl rfl (by decide +kernel) ⟨Nat.le_of_ble_eq_true rfl, Nat.le_of_ble_eq_true rfl⟩) (k_preV9 (q0 := 0) hK hPc hDc hN rfl) rfl rfl hl.1 rfl (lv_room (Nat.le_of_ble_eq_true rfl)) dX10_goOn_90 ⟨by decide +kernel, by decide +kernel⟩) hS (fun q _ h => hFc q h) hFc (fun r_9 u₀ t₀ H1 locs ht hvm hw hB hz1 hk1 hS => ?_)
              obtain ⟨hP1, hK1, hD1⟩ := hB
              rw [ht] at hP1
              have hJ := k_jn (wr := [(kX4 aLa vLa l4 a4 n4), (kAI vLa cI 24 f4)]) (wt := [(kX4 aLa vLa l4 a4 n4), (kAI vLa cI 24 f4), (kX10 aTr aLa aPa aGe gL gR lf rt tgo tca tki tso tbe twe tle x1z2 (x2z2 + (h1 - 5)) x3z2)]) hP hD hC [1, 2] rfl (by decide +kernel) (by decide +kernel) hk1 hFc hP1 hD1 rfl
              clear hP hD hPc hDc hFc hC hP1 hD1 hK1 hz1 hk1 hvm ht
              obtain ⟨hP, hD⟩ := hJ
              generalize H1 = H at hP hS ⊢
              try dsimp only at hw
              refine k_topi (v := kIns ((tle >>> ((kAt 24 f4 iz2) &&& 31)) &&& 1) tki tso (kAt 24 f4 iz2) h1) hw ?_
              refine lv_iadd hx₀ hb dX10_goOn_93 ?_
              refine va_put (D := (dC, dI)) (ci := 9) (v := .int (x1z2 + (kIns ((tle >>> ((kAt 24 f4 iz2) &&& 31)) &&& 1) tki tso (kAt 24 f4 iz2) h1))) (ty := .int) (C := RX10) (T := TX10) (N := 17) hx₀ hb hts inlX10 tyX10 tyX10_ok nmX10 hown hK hP hD hS 2 rfl rfl 14 (by decide) (hts (.fieldLink RX10 103 "BittenStick$Trip" "anger" "I") wd_500) (fun _ h9 => h9) rfl (by decide +kernel) rfl rfl (Nat.le_of_ble_eq_true rfl) dX10_goOn_94 ?_
              clear hP hD hS
              intro H locs hP hD hS
              replace hP := k_w2 (wt := [(kX4 aLa vLa l4 a4 n4), (kAI vLa cI 24 f4), (kX10 aTr aLa aPa aGe gL gR lf rt tgo tca tki tso tbe twe tle (x1z2 + (kIns ((tle >>> ((kAt 24 f4 iz2) &&& 31)) &&& 1) tki tso (kAt 24 f4 iz2) h1)) (x2z2 + (h1 - 5)) x3z2)]) hP hD rfl
              replace hD := hP.2
              replace hP := hP.1
              refine lv_aload_n hx₀ hb dX10_goOn_97 rfl (lv_at hl 3 rfl) ?_
              refine va_get (D := (dC, dI)) (ci := 9) (v := .int (x1z2 + (kIns ((tle >>> ((kAt 24 f4 iz2) &&& 31)) &&& 1) tki tso (kAt 24 f4 iz2) h1))) (C := RX10) (T := TX10) (N := 17) hx₀ hb hts inlX10 hown hK hP 2 rfl rfl 14 (by decide) (hts (.fieldLink RX10 103 "BittenStick$Trip" "anger" "I") wd_500) (fun _ h9 => h9) rfl dX10_goOn_98 ?_
              refine lv_aload_n hx₀ hb dX10_goOn_101 rfl (lv_at hl 3 rfl) ?_
              refine va_get (D := (dC, dI)) (ci := 9) (v := .int tbe) (C := RX10) (T := TX10) (N := 17) hx₀ hb hts inlX10 hown hK hP 2 rfl rfl 11 (by decide) (hts (.fieldLink RX10 66 "BittenStick$Trip" "bears" "I") wd_457) (fun _ h9 => h9) rfl dX10_goOn_102 ?_
              refine lv_icmp_le (tgt := 133) hx₀ hb dX10_goOn_105 (by decide) (fun c_10 => ?_) (fun c_10 => ?_)
              · refine lv_iinc (v := iz2 + 1) (lv' := [(5, .int (iz2 + 1)), (6, .int (kAt 24 f4 iz2)), (4, .int (h1 - 5)), (0, .ref aTr), (1, .int fr), (2, .int to), (3, .int h1)]) hx₀ hb dX10_goOn_133 hl (k := 1) rfl rfl (by decide) rfl (fun ls hl => ?_)
                refine lv_goto (tgt := 12) hx₀ hb dX10_goOn_136 (by decide) ?_
                exact ihz2 _ (lf_j_goOn_1 to iz2 jz2 tca hjz2 c_3 c_4) (iz2 + 1) (x1z2 + (kIns ((tle >>> ((kAt 24 f4 iz2) &&& 31)) &&& 1) tki tso (kAt 24 f4 iz2) h1)) (x2z2 + (h1 - 5)) x3z2 _ _ _  rfl (hP.sub [2, 0, 1] rfl) (hD.sub [2, 0, 1] (by decide +kernel) rfl) hS (lv_sub hl [0, 2, 3, 4, 5, 6] rfl)
              · refine lv_aload_n hx₀ hb dX10_goOn_108 rfl (lv_at hl 3 rfl) ?_
                refine lv_iconst (v := 3) hx₀ hb dX10_goOn_109 (by decide +kernel) ?_
                refine va_put (D := (dC, dI)) (ci := 9) (v := .int 3) (ty := .int) (C := RX10) (T := TX10) (N := 17) hx₀ hb hts inlX10 tyX10 tyX10_ok nmX10 hown hK hP hD hS 2 rfl rfl 16 (by decide) (hts (.fieldLink RX10 109 "BittenStick$Trip" "end" "I") wd_502) (fun _ h9 => h9) rfl (by decide +kernel) rfl rfl (Nat.le_of_ble_eq_true rfl) dX10_goOn_110 ?_
                clear hP hD hS
                intro H locs hP hD hS
                replace hP := k_w2 (wt := [(kX4 aLa vLa l4 a4 n4), (kAI vLa cI 24 f4), (kX10 aTr aLa aPa aGe gL gR lf rt tgo tca tki tso tbe twe tle (x1z2 + (kIns ((tle >>> ((kAt 24 f4 iz2) &&& 31)) &&& 1) tki tso (kAt 24 f4 iz2) h1)) (x2z2 + (h1 - 5)) 3)]) hP hD rfl
                replace hD := hP.2
                replace hP := hP.1
                refine lv_iload hx₀ hb dX10_goOn_113 (lv_at hl 1 rfl) ?_
                obtain ⟨hP9, hD9⟩ := k_c2 (wc := [(kX10 aTr aLa aPa aGe gL gR lf rt tgo tca tki tso tbe twe tle (x1z2 + (kIns ((tle >>> ((kAt 24 f4 iz2) &&& 31)) &&& 1) tki tso (kAt 24 f4 iz2) h1)) (x2z2 + (h1 - 5)) 3), (kX4 aLa vLa l4 a4 n4), (kAI vLa cI 24 f4)]) hP hD [2, 0, 1] (by decide +kernel) rfl
                exact W.iret (v := iz2) hx₀ hb hr (fun t₀ ht hW => ⟨⟨iz2, (k_fn [(x1z2 + (kIns ((tle >>> ((kAt 24 f4 iz2) &&& 31)) &&& 1) tki tso (kAt 24 f4 iz2) h1)), (x2z2 + (h1 - 5)), (3 : Int32)], k_fa [], k_fl [], k_fL [], k_fp []), rfl, trivial, by rw [ht]; exact hP9, va_K.moved hW.alike hK, hD9⟩, hS.F ht⟩) hS.2.2 dX10_goOn_115
          · refine lv_aload_n hx₀ hb dX10_goOn_55 rfl (lv_at hl 2 rfl) ?_
            refine lv_iconst (v := 2) hx₀ hb dX10_goOn_56 (by decide +kernel) ?_
            refine va_put (D := (dC, dI)) (ci := 9) (v := .int 2) (ty := .int) (C := RX10) (T := TX10) (N := 17) hx₀ hb hts inlX10 tyX10 tyX10_ok nmX10 hown hK hP hD hS 0 rfl rfl 16 (by decide) (hts (.fieldLink RX10 109 "BittenStick$Trip" "end" "I") wd_502) (fun _ h9 => h9) rfl (by decide +kernel) rfl rfl (Nat.le_of_ble_eq_true rfl) dX10_goOn_57 ?_
            clear hP hD hS
            intro H locs hP hD hS
            replace hP := k_w2 (wt := [(kX10 aTr aLa aPa aGe gL gR lf rt tgo tca tki tso tbe twe tle x1z2 (x2z2 + (h1 - 5)) 2), (kX4 aLa vLa l4 a4 n4), (kAI vLa cI 24 f4)]) hP hD rfl
            replace hD := hP.2
            replace hP := hP.1
            refine lv_iload hx₀ hb dX10_goOn_60 (lv_at hl 0 rfl) ?_
            obtain ⟨hP9, hD9⟩ := k_c2 (wc := [(kX10 aTr aLa aPa aGe gL gR lf rt tgo tca tki tso tbe twe tle x1z2 (x2z2 + (h1 - 5)) 2), (kX4 aLa vLa l4 a4 n4), (kAI vLa cI 24 f4)]) hP hD [0, 1, 2] (by decide +kernel) rfl
            exact W.iret (v := iz2) hx₀ hb hr (fun t₀ ht hW => ⟨⟨iz2, (k_fn [x1z2, (x2z2 + (h1 - 5)), (2 : Int32)], k_fa [], k_fl [], k_fL [], k_fp []), rfl, trivial, by rw [ht]; exact hP9, va_K.moved hW.alike hK, hD9⟩, hS.F ht⟩) hS.2.2 dX10_goOn_62
        · refine lv_aload_n hx₀ hb dX10_goOn_27 rfl (lv_at hl 2 rfl) ?_
          refine lv_iconst (v := 1) hx₀ hb dX10_goOn_28 (by decide +kernel) ?_
          refine va_put (D := (dC, dI)) (ci := 9) (v := .int 1) (ty := .int) (C := RX10) (T := TX10) (N := 17) hx₀ hb hts inlX10 tyX10 tyX10_ok nmX10 hown hK hP hD hS 0 rfl rfl 16 (by decide) (hts (.fieldLink RX10 109 "BittenStick$Trip" "end" "I") wd_502) (fun _ h9 => h9) rfl (by decide +kernel) rfl rfl (Nat.le_of_ble_eq_true rfl) dX10_goOn_29 ?_
          clear hP hD hS
          intro H locs hP hD hS
          replace hP := k_w2 (wt := [(kX10 aTr aLa aPa aGe gL gR lf rt tgo tca tki tso tbe twe tle x1z2 x2z2 1), (kX4 aLa vLa l4 a4 n4), (kAI vLa cI 24 f4)]) hP hD rfl
          replace hD := hP.2
          replace hP := hP.1
          refine lv_iload hx₀ hb dX10_goOn_32 (lv_at hl 0 rfl) ?_
          obtain ⟨hP9, hD9⟩ := k_c2 (wc := [(kX10 aTr aLa aPa aGe gL gR lf rt tgo tca tki tso tbe twe tle x1z2 x2z2 1), (kX4 aLa vLa l4 a4 n4), (kAI vLa cI 24 f4)]) hP hD [0, 1, 2] (by decide +kernel) rfl
          exact W.iret (v := iz2) hx₀ hb hr (fun t₀ ht hW => ⟨⟨iz2, (k_fn [x1z2, x2z2, (1 : Int32)], k_fa [], k_fl [], k_fL [], k_fp []), rfl, trivial, by rw [ht]; exact hP9, va_K.moved hW.alike hK, hD9⟩, hS.F ht⟩) hS.2.2 dX10_goOn_34
  refine k_topi (v := 0) (if_neg c_1) ?_
  refine lv_istore (lv' := [(4, .int 0), (0, .ref aTr), (1, .int fr), (2, .int to), (3, .int h1)]) hx₀ hb dX10_goOn_7 hl (by decide) rfl (fun ls hl => ?_)
  refine lv_iload_n hx₀ hb dX10_goOn_9 rfl (lv_at hl 2 rfl) ?_
  refine lv_istore (lv' := [(5, .int fr), (4, .int 0), (0, .ref aTr), (1, .int fr), (2, .int to), (3, .int h1)]) hx₀ hb dX10_goOn_10 hl (by decide) rfl (fun ls hl => ?_)
  refine (?keyz11 : ∀ (jz11 : Nat) (iz11 : Int32) (x1z11 : Int32) (x2z11 : Int32) (x3z11 : Int32) (H : Heap) (locs : List Loc) (ls : Array Slot),  ((to.toInt - iz11.toInt).toNat = jz11) → va_P (dC, dI) vwCl [(kX10 aTr aLa aPa aGe gL gR lf rt tgo tca tki tso tbe twe tle x1z11 x2z11 x3z11), (kX4 aLa vLa l4 a4 n4), (kAI vLa cI 24 f4)] H → va_D A [(kX10 aTr aLa aPa aGe gL gR lf rt tgo tca tki tso tbe twe tle x1z11 x2z11 x3z11), (kX4 aLa vLa l4 a4 n4), (kAI vLa cI 24 f4)] → va_S A s₀.heap H locs → lv_has ls 7 [(5, .int iz11), (4, .int 0), (0, .ref aTr), (1, .int fr), (2, .int to), (3, .int h1)] → W p₀ l e₀ _ s₀ m₀ _ below meth c₀ H locs _ _ _ (F0 m₀ 12 ls [])) _ fr tan tco ten H locs ls  rfl hP hD hS hl
  clear hP hD hS hl
  intro jz11
  induction jz11 using Nat.strongRecOn with
  | ind jz11 ihz11 =>
    intro iz11 x1z11 x2z11 x3z11 H locs ls  hjz11 hP hD hS hl
    refine lv_iload hx₀ hb dX10_goOn_12 (lv_at hl 0 rfl) ?_
    refine lv_iload_n hx₀ hb dX10_goOn_14 rfl (lv_at hl 4 rfl) ?_
    refine lv_icmp_ge (tgt := 139) hx₀ hb dX10_goOn_15 (by decide) (fun c_12 => ?_) (fun c_12 => ?_)
    · refine lv_iload_n hx₀ hb dX10_goOn_139 rfl (lv_at hl 4 rfl) ?_
      obtain ⟨hP9, hD9⟩ := k_c2 (wc := [(kX10 aTr aLa aPa aGe gL gR lf rt tgo tca tki tso tbe twe tle x1z11 x2z11 x3z11), (kX4 aLa vLa l4 a4 n4), (kAI vLa cI 24 f4)]) hP hD [0, 1, 2] (by decide +kernel) rfl
      exact W.iret (v := to) hx₀ hb hr (fun t₀ ht hW => ⟨⟨to, (k_fn [x1z11, x2z11, x3z11], k_fa [], k_fl [], k_fL [], k_fp []), rfl, trivial, by rw [ht]; exact hP9, va_K.moved hW.alike hK, hD9⟩, hS.F ht⟩) hS.2.2 dX10_goOn_140
    · refine lv_iload hx₀ hb dX10_goOn_18 (lv_at hl 0 rfl) ?_
      refine lv_aload_n hx₀ hb dX10_goOn_20 rfl (lv_at hl 2 rfl) ?_
      refine va_get (D := (dC, dI)) (ci := 9) (v := .int tca) (C := RX10) (T := TX10) (N := 17) hx₀ hb hts inlX10 hown hK hP 0 rfl rfl 8 (by decide) (hts (.fieldLink RX10 52 "BittenStick$Trip" "carriedTo" "I") wd_454) (fun _ h9 => h9) rfl dX10_goOn_21 ?_
      refine lv_icmp_lt (tgt := 35) hx₀ hb dX10_goOn_24 (by decide) (fun c_13 => ?_) (fun c_13 => ?_)
      · refine lv_aload_n hx₀ hb dX10_goOn_35 rfl (lv_at hl 2 rfl) ?_
        refine lv_dup hx₀ hb dX10_goOn_36 rfl ?_
        refine va_get (D := (dC, dI)) (ci := 9) (v := .int x2z11) (C := RX10) (T := TX10) (N := 17) hx₀ hb hts inlX10 hown hK hP 0 rfl rfl 15 (by decide) (hts (.fieldLink RX10 106 "BittenStick$Trip" "cold" "I") wd_501) (fun _ h9 => h9) rfl dX10_goOn_37 ?_
        refine lv_iload hx₀ hb dX10_goOn_40 (lv_at hl 1 rfl) ?_
        refine lv_iadd hx₀ hb dX10_goOn_42 ?_
        refine va_put (D := (dC, dI)) (ci := 9) (v := .int (x2z11 + 0)) (ty := .int) (C := RX10) (T := TX10) (N := 17) hx₀ hb hts inlX10 tyX10 tyX10_ok nmX10 hown hK hP hD hS 0 rfl rfl 15 (by decide) (hts (.fieldLink RX10 106 "BittenStick$Trip" "cold" "I") wd_501) (fun _ h9 => h9) rfl (by decide +kernel) rfl rfl (Nat.le_of_ble_eq_true rfl) dX10_goOn_43 ?_
        clear hP hD hS
        intro H locs hP hD hS
        replace hP := k_w2 (wt := [(kX10 aTr aLa aPa aGe gL gR lf rt tgo tca tki tso tbe twe tle x1z11 (x2z11 + 0) x3z11), (kX4 aLa vLa l4 a4 n4), (kAI vLa cI 24 f4)]) hP hD rfl
        replace hD := hP.2
        replace hP := hP.1
        refine lv_aload_n hx₀ hb dX10_goOn_46 rfl (lv_at hl 2 rfl) ?_
        refine va_get (D := (dC, dI)) (ci := 9) (v := .int (x2z11 + 0)) (C := RX10) (T := TX10) (N := 17) hx₀ hb hts inlX10 hown hK hP 0 rfl rfl 15 (by decide) (hts (.fieldLink RX10 106 "BittenStick$Trip" "cold" "I") wd_501) (fun _ h9 => h9) rfl dX10_goOn_47 ?_
        refine lv_bipush (v := 20) hx₀ hb dX10_goOn_50 (by decide +kernel) ?_
        refine lv_icmp_le (tgt := 63) hx₀ hb dX10_goOn_52 (by decide) (fun c_14 => ?_) (fun c_14 => ?_)
        · refine lv_aload_n hx₀ hb dX10_goOn_63 rfl (lv_at hl 2 rfl) ?_
          refine va_get (D := (dC, dI)) (ci := 9) (v := .ref aLa) (C := RX10) (T := TX10) (N := 17) hx₀ hb hts inlX10 hown hK hP 0 rfl rfl 0 (by decide) (hts (.fieldLink RX10 27 "BittenStick$Trip" "land" "LBittenStick$Land;") wd_89) (fun _ h9 => h9) rfl dX10_goOn_64 ?_
          refine lv_iload hx₀ hb dX10_goOn_67 (lv_at hl 0 rfl) ?_
          obtain ⟨hPc, hDc, hFc, hC⟩ := k_cw (wc := [(kX4 aLa vLa l4 a4 n4), (kAI vLa cI 24 f4)]) hP hD hS hA [1, 2] (by decide +kernel) rfl
          refine va_calli (va_runU (As := [.int iz11]) (rest := []) ⟨hx₀, hb, hml, hown, hts⟩ (j_valueAt_X4 l dC dI cI cJ cQ H.size aLa iz11 vLa l4 a4 n4 f4) (va_cwU 1 hts (kGU wd_179 wd_478 wd_288 wd_289 wd_178 wd_57) rfl rfl rfl rfl (by decide +kernel) ⟨Nat.le_of_ble_eq_true rfl, Nat.le_of_ble_eq_true rfl⟩) (k_preV4 (q0 := 0) hK hPc hDc hN rfl) rfl rfl hl.1 rfl (lv_room (Nat.le_of_ble_eq_true rfl)) dX10_goOn_69 ⟨by decide +kernel, by decide +kernel⟩) hS (fun q _ h => hFc q h) hFc (fun r_15 u₀ t₀ H1 locs ht hvm hw hB hz1 hk1 hS => ?_)
          obtain ⟨hP1, hK1, hD1⟩ := hB
          rw [ht] at hP1
          have hJ := k_jn (wr := [(kX10 aTr aLa aPa aGe gL gR lf rt tgo tca tki tso tbe twe tle x1z11 (x2z11 + 0) x3z11)]) (wt := [(kX10 aTr aLa aPa aGe gL gR lf rt tgo tca tki tso tbe twe tle x1z11 (x2z11 + 0) x3z11), (kX4 aLa vLa l4 a4 n4), (kAI vLa cI 24 f4)]) hP hD hC [0] rfl (by decide +kernel) (by decide +kernel) hk1 hFc hP1 hD1 rfl
          clear hP hD hPc hDc hFc hC hP1 hD1 hK1 hz1 hk1 hvm ht
          obtain ⟨hP, hD⟩ := hJ
          generalize H1 = H at hP hS ⊢
          try dsimp only at hw
          refine k_topi (v := kAt 24 f4 iz11) hw ?_
          refine lv_istore (lv' := [(6, .int (kAt 24 f4 iz11)), (5, .int iz11), (4, .int 0), (0, .ref aTr), (1, .int fr), (2, .int to), (3, .int h1)]) hx₀ hb dX10_goOn_72 hl (by decide) rfl (fun ls hl => ?_)
          refine lv_iload hx₀ hb dX10_goOn_74 (lv_at hl 0 rfl) ?_
          refine lv_bipush (v := 6) hx₀ hb dX10_goOn_76 (by decide +kernel) ?_
          refine lv_icmp_ge (tgt := 116) hx₀ hb dX10_goOn_78 (by decide) (fun c_16 => ?_) (fun c_16 => ?_)
          · refine lv_iload hx₀ hb dX10_goOn_116 (lv_at hl 0 rfl) ?_
            refine lv_bipush (v := 7) hx₀ hb dX10_goOn_118 (by decide +kernel) ?_
            refine lv_icmp_ne (tgt := 133) hx₀ hb dX10_goOn_120 (by decide) (fun c_17 => ?_) (fun c_17 => ?_)
            · refine lv_iinc (v := iz11 + 1) (lv' := [(5, .int (iz11 + 1)), (6, .int (kAt 24 f4 iz11)), (4, .int 0), (0, .ref aTr), (1, .int fr), (2, .int to), (3, .int h1)]) hx₀ hb dX10_goOn_133 hl (k := 1) rfl rfl (by decide) rfl (fun ls hl => ?_)
              refine lv_goto (tgt := 12) hx₀ hb dX10_goOn_136 (by decide) ?_
              exact ihz11 _ (lf_j_goOn_1 to iz11 jz11 tca hjz11 c_12 c_13) (iz11 + 1) x1z11 (x2z11 + 0) x3z11 _ _ _  rfl (hP.sub [0, 1, 2] rfl) (hD.sub [0, 1, 2] (by decide +kernel) rfl) hS (lv_sub hl [0, 2, 3, 4, 5, 6] rfl)
            · refine lv_aload_n hx₀ hb dX10_goOn_123 rfl (lv_at hl 3 rfl) ?_
              refine lv_iconst (v := 0) hx₀ hb dX10_goOn_124 (by decide +kernel) ?_
              refine va_put (D := (dC, dI)) (ci := 9) (v := .int 0) (ty := .int) (C := RX10) (T := TX10) (N := 17) hx₀ hb hts inlX10 tyX10 tyX10_ok nmX10 hown hK hP hD hS 0 rfl rfl 14 (by decide) (hts (.fieldLink RX10 103 "BittenStick$Trip" "anger" "I") wd_500) (fun _ h9 => h9) rfl (by decide +kernel) rfl rfl (Nat.le_of_ble_eq_true rfl) dX10_goOn_125 ?_
              clear hP hD hS
              intro H locs hP hD hS
              replace hP := k_w2 (wt := [(kX10 aTr aLa aPa aGe gL gR lf rt tgo tca tki tso tbe twe tle 0 (x2z11 + 0) x3z11), (kX4 aLa vLa l4 a4 n4), (kAI vLa cI 24 f4)]) hP hD rfl
              replace hD := hP.2
              replace hP := hP.1
              refine lv_aload_n hx₀ hb dX10_goOn_128 rfl (lv_at hl 3 rfl) ?_
              refine lv_iconst (v := 0) hx₀ hb dX10_goOn_129 (by decide +kernel) ?_
              refine va_put (D := (dC, dI)) (ci := 9) (v := .int 0) (ty := .int) (C := RX10) (T := TX10) (N := 17) hx₀ hb hts inlX10 tyX10 tyX10_ok nmX10 hown hK hP hD hS 0 rfl rfl 15 (by decide) (hts (.fieldLink RX10 106 "BittenStick$Trip" "cold" "I") wd_501) (fun _ h9 => h9) rfl (by decide +kernel) rfl rfl (Nat.le_of_ble_eq_true rfl) dX10_goOn_130 ?_
              clear hP hD hS
              intro H locs hP hD hS
              replace hP := k_w2 (wt := [(kX10 aTr aLa aPa aGe gL gR lf rt tgo tca tki tso tbe twe tle 0 0 x3z11), (kX4 aLa vLa l4 a4 n4), (kAI vLa cI 24 f4)]) hP hD rfl
              replace hD := hP.2
              replace hP := hP.1
              refine lv_iinc (v := iz11 + 1) (lv' := [(5, .int (iz11 + 1)), (6, .int (kAt 24 f4 iz11)), (4, .int 0), (0, .ref aTr), (1, .int fr), (2, .int to), (3, .int h1)]) hx₀ hb dX10_goOn_133 hl (k := 1) rfl rfl (by decide) rfl (fun ls hl => ?_)
              refine lv_goto (tgt := 12) hx₀ hb dX10_goOn_136 (by decide) ?_
              exact ihz11 _ (lf_j_goOn_1 to iz11 jz11 tca hjz11 c_12 c_13) (iz11 + 1) (0 : Int32) (0 : Int32) x3z11 _ _ _  rfl (hP.sub [0, 1, 2] rfl) (hD.sub [0, 1, 2] (by decide +kernel) rfl) hS (lv_sub hl [0, 2, 3, 4, 5, 6] rfl)
          · refine lv_aload_n hx₀ hb dX10_goOn_81 rfl (lv_at hl 3 rfl) ?_
            refine lv_dup hx₀ hb dX10_goOn_82 rfl ?_
            refine va_get (D := (dC, dI)) (ci := 9) (v := .int x1z11) (C := RX10) (T := TX10) (N := 17) hx₀ hb hts inlX10 hown hK hP 0 rfl rfl 14 (by decide) (hts (.fieldLink RX10 103 "BittenStick$Trip" "anger" "I") wd_500) (fun _ h9 => h9) rfl dX10_goOn_83 ?_
            refine lv_aload_n hx₀ hb dX10_goOn_86 rfl (lv_at hl 3 rfl) ?_
            refine lv_iload hx₀ hb dX10_goOn_87 (lv_at hl 0 rfl) ?_
            refine lv_iload_n hx₀ hb dX10_goOn_89 rfl (lv_at hl 6 rfl) ?_
            obtain ⟨hPc, hDc, hFc, hC⟩ := k_cw (wc := [(kX10 aTr aLa aPa aGe gL gR lf rt tgo tca tki tso tbe twe tle x1z11 (x2z11 + 0) x3z11)]) hP hD hS hA [0] (by decide +kernel) rfl
            refine va_calli (va_runV (As := [.int (kAt 24 f4 iz11), .int h1]) (rest := [.int x1z11, .ref aTr]) ⟨hx₀, hb, hml, hown, hts⟩ (j_insult l dC dI cI cJ cQ H.size aTr (kAt 24 f4 iz11) h1 aLa aPa aGe gL gR lf rt tgo tca tki tso tbe twe tle x1z11 (x2z11 + 0) x3z11) (cwV 2 hts (kGV wd_511 wd_508 wd_509 wd_510 wd_30) rfl rfl rfl (by decide +kernel) ⟨Nat.le_of_ble_eq_true rfl, Nat.le_of_ble_eq_true rfl⟩) (k_preV9 (q0 := 0) hK hPc hDc hN rfl) rfl rfl hl.1 rfl (lv_room (Nat.le_of_ble_eq_true rfl)) dX10_goOn_90 ⟨by decide +kernel, by decide +kernel⟩) hS (fun q _ h => hFc q h) hFc (fun r_18 u₀ t₀ H1 locs ht hvm hw hB hz1 hk1 hS => ?_)
            obtain ⟨hP1, hK1, hD1⟩ := hB
            rw [ht] at hP1
            have hJ := k_jn (wr := [(kX4 aLa vLa l4 a4 n4), (kAI vLa cI 24 f4)]) (wt := [(kX4 aLa vLa l4 a4 n4), (kAI vLa cI 24 f4), (kX10 aTr aLa aPa aGe gL gR lf rt tgo tca tki tso tbe twe tle x1z11 (x2z11 + 0) x3z11)]) hP hD hC [1, 2] rfl (by decide +kernel) (by decide +kernel) hk1 hFc hP1 hD1 rfl
            clear hP hD hPc hDc hFc hC hP1 hD1 hK1 hz1 hk1 hvm ht
            obtain ⟨hP, hD⟩ := hJ
            generalize H1 = H at hP hS ⊢
            try dsimp only at hw
            refine k_topi (v := kIns ((tle >>> ((kAt 24 f4 iz11) &&& 31)) &&& 1) tki tso (kAt 24 f4 iz11) h1) hw ?_
            refine lv_iadd hx₀ hb dX10_goOn_93 ?_
            refine va_put (D := (dC, dI)) (ci := 9) (v := .int (x1z11 + (kIns ((tle >>> ((kAt 24 f4 iz11) &&& 31)) &&& 1) tki tso (kAt 24 f4 iz11) h1))) (ty := .int) (C := RX10) (T := TX10) (N := 17) hx₀ hb hts inlX10 tyX10 tyX10_ok nmX10 hown hK hP hD hS 2 rfl rfl 14 (by decide) (hts (.fieldLink RX10 103 "BittenStick$Trip" "anger" "I") wd_500) (fun _ h9 => h9) rfl (by decide +kernel) rfl rfl (Nat.le_of_ble_eq_true rfl) dX10_goOn_94 ?_
            clear hP hD hS
            intro H locs hP hD hS
            replace hP := k_w2 (wt := [(kX4 aLa vLa l4 a4 n4), (kAI vLa cI 24 f4), (kX10 aTr aLa aPa aGe gL gR lf rt tgo tca tki tso tbe twe tle (x1z11 + (kIns ((tle >>> ((kAt 24 f4 iz11) &&& 31)) &&& 1) tki tso (kAt 24 f4 iz11) h1)) (x2z11 + 0) x3z11)]) hP hD rfl
            replace hD := hP.2
            replace hP := hP.1
            refine lv_aload_n hx₀ hb dX10_goOn_97 rfl (lv_at hl 3 rfl) ?_
            refine va_get (D := (dC, dI)) (ci := 9) (v := .int (x1z11 + (kIns ((tle >>> ((kAt 24 f4 iz11) &&& 31)) &&& 1) tki tso (kAt 24 f4 iz11) h1))) (C := RX10) (T := TX10) (N := 17) hx₀ hb hts inlX10 hown hK hP 2 rfl rfl 14 (by decide) (hts (.fieldLink RX10 103 "BittenStick$Trip" "anger" "I") wd_500) (fun _ h9 => h9) rfl dX10_goOn_98 ?_
            refine lv_aload_n hx₀ hb dX10_goOn_101 rfl (lv_at hl 3 rfl) ?_
            refine va_get (D := (dC, dI)) (ci := 9) (v := .int tbe) (C := RX10) (T := TX10) (N := 17) hx₀ hb hts inlX10 hown hK hP 2 rfl rfl 11 (by decide) (hts (.fieldLink RX10 66 "BittenStick$Trip" "bears" "I") wd_457) (fun _ h9 => h9) rfl dX10_goOn_102 ?_
            refine lv_icmp_le (tgt := 133) hx₀ hb dX10_goOn_105 (by decide) (fun c_19 => ?_) (fun c_19 => ?_)
            · refine lv_iinc (v := iz11 + 1) (lv' := [(5, .int (iz11 + 1)), (6, .int (kAt 24 f4 iz11)), (4, .int 0), (0, .ref aTr), (1, .int fr), (2, .int to), (3, .int h1)]) hx₀ hb dX10_goOn_133 hl (k := 1) rfl rfl (by decide) rfl (fun ls hl => ?_)
              refine lv_goto (tgt := 12) hx₀ hb dX10_goOn_136 (by decide) ?_
              exact ihz11 _ (lf_j_goOn_1 to iz11 jz11 tca hjz11 c_12 c_13) (iz11 + 1) (x1z11 + (kIns ((tle >>> ((kAt 24 f4 iz11) &&& 31)) &&& 1) tki tso (kAt 24 f4 iz11) h1)) (x2z11 + 0) x3z11 _ _ _  rfl (hP.sub [2, 0, 1] rfl) (hD.sub [2, 0, 1] (by decide +kernel) rfl) hS (lv_sub hl [0, 2, 3, 4, 5, 6] rfl)
            · refine lv_aload_n hx₀ hb dX10_goOn_108 rfl (lv_at hl 3 rfl) ?_
              refine lv_iconst (v := 3) hx₀ hb dX10_goOn_109 (by decide +kernel) ?_
              refine va_put (D := (dC, dI)) (ci := 9) (v := .int 3) (ty := .int) (C := RX10) (T := TX10) (N := 17) hx₀ hb hts inlX10 tyX10 tyX10_ok nmX10 hown hK hP hD hS 2 rfl rfl 16 (by decide) (hts (.fieldLink RX10 109 "BittenStick$Trip" "end" "I") wd_502) (fun _ h9 => h9) rfl (by decide +kernel) rfl rfl (Nat.le_of_ble_eq_true rfl) dX10_goOn_110 ?_
              clear hP hD hS
              intro H locs hP hD hS
              replace hP := k_w2 (wt := [(kX4 aLa vLa l4 a4 n4), (kAI vLa cI 24 f4), (kX10 aTr aLa aPa aGe gL gR lf rt tgo tca tki tso tbe twe tle (x1z11 + (kIns ((tle >>> ((kAt 24 f4 iz11) &&& 31)) &&& 1) tki tso (kAt 24 f4 iz11) h1)) (x2z11 + 0) 3)]) hP hD rfl
              replace hD := hP.2
              replace hP := hP.1
              refine lv_iload hx₀ hb dX10_goOn_113 (lv_at hl 1 rfl) ?_
              obtain ⟨hP9, hD9⟩ := k_c2 (wc := [(kX10 aTr aLa aPa aGe gL gR lf rt tgo tca tki tso tbe twe tle (x1z11 + (kIns ((tle >>> ((kAt 24 f4 iz11) &&& 31)) &&& 1) tki tso (kAt 24 f4 iz11) h1)) (x2z11 + 0) 3), (kX4 aLa vLa l4 a4 n4), (kAI vLa cI 24 f4)]) hP hD [2, 0, 1] (by decide +kernel) rfl
              exact W.iret (v := iz11) hx₀ hb hr (fun t₀ ht hW => ⟨⟨iz11, (k_fn [(x1z11 + (kIns ((tle >>> ((kAt 24 f4 iz11) &&& 31)) &&& 1) tki tso (kAt 24 f4 iz11) h1)), (x2z11 + 0), (3 : Int32)], k_fa [], k_fl [], k_fL [], k_fp []), rfl, trivial, by rw [ht]; exact hP9, va_K.moved hW.alike hK, hD9⟩, hS.F ht⟩) hS.2.2 dX10_goOn_115
        · refine lv_aload_n hx₀ hb dX10_goOn_55 rfl (lv_at hl 2 rfl) ?_
          refine lv_iconst (v := 2) hx₀ hb dX10_goOn_56 (by decide +kernel) ?_
          refine va_put (D := (dC, dI)) (ci := 9) (v := .int 2) (ty := .int) (C := RX10) (T := TX10) (N := 17) hx₀ hb hts inlX10 tyX10 tyX10_ok nmX10 hown hK hP hD hS 0 rfl rfl 16 (by decide) (hts (.fieldLink RX10 109 "BittenStick$Trip" "end" "I") wd_502) (fun _ h9 => h9) rfl (by decide +kernel) rfl rfl (Nat.le_of_ble_eq_true rfl) dX10_goOn_57 ?_
          clear hP hD hS
          intro H locs hP hD hS
          replace hP := k_w2 (wt := [(kX10 aTr aLa aPa aGe gL gR lf rt tgo tca tki tso tbe twe tle x1z11 (x2z11 + 0) 2), (kX4 aLa vLa l4 a4 n4), (kAI vLa cI 24 f4)]) hP hD rfl
          replace hD := hP.2
          replace hP := hP.1
          refine lv_iload hx₀ hb dX10_goOn_60 (lv_at hl 0 rfl) ?_
          obtain ⟨hP9, hD9⟩ := k_c2 (wc := [(kX10 aTr aLa aPa aGe gL gR lf rt tgo tca tki tso tbe twe tle x1z11 (x2z11 + 0) 2), (kX4 aLa vLa l4 a4 n4), (kAI vLa cI 24 f4)]) hP hD [0, 1, 2] (by decide +kernel) rfl
          exact W.iret (v := iz11) hx₀ hb hr (fun t₀ ht hW => ⟨⟨iz11, (k_fn [x1z11, (x2z11 + 0), (2 : Int32)], k_fa [], k_fl [], k_fL [], k_fp []), rfl, trivial, by rw [ht]; exact hP9, va_K.moved hW.alike hK, hD9⟩, hS.F ht⟩) hS.2.2 dX10_goOn_62
      · refine lv_aload_n hx₀ hb dX10_goOn_27 rfl (lv_at hl 2 rfl) ?_
        refine lv_iconst (v := 1) hx₀ hb dX10_goOn_28 (by decide +kernel) ?_
        refine va_put (D := (dC, dI)) (ci := 9) (v := .int 1) (ty := .int) (C := RX10) (T := TX10) (N := 17) hx₀ hb hts inlX10 tyX10 tyX10_ok nmX10 hown hK hP hD hS 0 rfl rfl 16 (by decide) (hts (.fieldLink RX10 109 "BittenStick$Trip" "end" "I") wd_502) (fun _ h9 => h9) rfl (by decide +kernel) rfl rfl (Nat.le_of_ble_eq_true rfl) dX10_goOn_29 ?_
        clear hP hD hS
        intro H locs hP hD hS
        replace hP := k_w2 (wt := [(kX10 aTr aLa aPa aGe gL gR lf rt tgo tca tki tso tbe twe tle x1z11 x2z11 1), (kX4 aLa vLa l4 a4 n4), (kAI vLa cI 24 f4)]) hP hD rfl
        replace hD := hP.2
        replace hP := hP.1
        refine lv_iload hx₀ hb dX10_goOn_32 (lv_at hl 0 rfl) ?_
        obtain ⟨hP9, hD9⟩ := k_c2 (wc := [(kX10 aTr aLa aPa aGe gL gR lf rt tgo tca tki tso tbe twe tle x1z11 x2z11 1), (kX4 aLa vLa l4 a4 n4), (kAI vLa cI 24 f4)]) hP hD [0, 1, 2] (by decide +kernel) rfl
        exact W.iret (v := iz11) hx₀ hb hr (fun t₀ ht hW => ⟨⟨iz11, (k_fn [x1z11, x2z11, (1 : Int32)], k_fa [], k_fl [], k_fL [], k_fp []), rfl, trivial, by rw [ht]; exact hP9, va_K.moved hW.alike hK, hD9⟩, hS.F ht⟩) hS.2.2 dX10_goOn_34
theorem lf_e_goOn_1 (a0 : Int32) (a1 : Int32) (h0 : a0 ≤ a1) : a0 ≤ a0 ∧ a0 ≤ a1 := by
  first | rfl | assumption | decide | exact Or.inl rfl | (first | rfl | assumption | decide | omega | (have hr0 := Int32.toInt_lt a0; have hs0 := Int32.le_toInt a0; have hr1 := Int32.toInt_lt a1; have hs1 := Int32.le_toInt a1; simp only [Int64.toInt_add, Int64.toInt_sub, Int32.toInt_add, Int32.toInt_sub, Int32.toInt_mul, Int64.le_iff_toInt_le, Int64.lt_iff_toInt_lt, Int32.le_iff_toInt_le, Int32.lt_iff_toInt_lt, ← Int32.toInt_inj, ← Int64.toInt_inj, Int32.toInt_toInt64, true_and, and_true, not_true_eq_false, not_false_eq_true] at * <;> ((first | omega | ((try simp (disch := omega) only [k_bm64] at *); (try simp (disch := omega) only [k_bm] at *); (try simp (disch := omega) only [k_bm] at *); omega) | (simp only [Int.bmod] at *; omega)))))
theorem lf_e_goOn_2 (a0 : Int32) (a1 : Int32) (a2 : Int32) (a3 : Nat) (a4 : Int32) (h0 : a0 ≤ a1) (h1 : a0 ≤ a2 ∧ a2 ≤ a1) (h2 : (a1.toInt - a2.toInt).toNat = a3) (h3 : ¬ a1 ≤ a2) (h4 : a2 < a4) : a0 ≤ (a2 + 1) ∧ (a2 + 1) ≤ a1 := by
  first | rfl | assumption | decide | exact Or.inl rfl | (first | rfl | assumption | decide | omega | (have hr0 := Int32.toInt_lt a0; have hs0 := Int32.le_toInt a0; have hr1 := Int32.toInt_lt a1; have hs1 := Int32.le_toInt a1; have hr2 := Int32.toInt_lt a2; have hs2 := Int32.le_toInt a2; have hr3 := Int32.toInt_lt a4; have hs3 := Int32.le_toInt a4; simp only [Int64.toInt_add, Int64.toInt_sub, Int32.toInt_add, Int32.toInt_sub, Int32.toInt_mul, Int64.le_iff_toInt_le, Int64.lt_iff_toInt_lt, Int32.le_iff_toInt_le, Int32.lt_iff_toInt_lt, ← Int32.toInt_inj, ← Int64.toInt_inj, Int32.toInt_toInt64, kc_1, true_and, and_true, not_true_eq_false, not_false_eq_true] at * <;> ((first | omega | ((try simp (disch := omega) only [k_bm64] at *); (try simp (disch := omega) only [k_bm] at *); (try simp (disch := omega) only [k_bm] at *); omega) | (simp only [Int.bmod] at *; omega)))))
theorem lf_e_goOn_3 (a0 : Int32) (a1 : Int32) (a2 : Int32) (a3 : Nat) (a4 : Int32) (h0 : a0 ≤ a1) (h1 : a0 ≤ a2 ∧ a2 ≤ a1) (h2 : (a1.toInt - a2.toInt).toNat = a3) (h3 : ¬ a1 ≤ a2) (h4 : a2 < a4) : (a1.toInt - (a2 + 1).toInt).toNat < a3 := by
  first | rfl | assumption | decide | exact Or.inl rfl | (first | rfl | assumption | decide | omega | (have hr0 := Int32.toInt_lt a0; have hs0 := Int32.le_toInt a0; have hr1 := Int32.toInt_lt a1; have hs1 := Int32.le_toInt a1; have hr2 := Int32.toInt_lt a2; have hs2 := Int32.le_toInt a2; have hr3 := Int32.toInt_lt a4; have hs3 := Int32.le_toInt a4; simp only [Int64.toInt_add, Int64.toInt_sub, Int32.toInt_add, Int32.toInt_sub, Int32.toInt_mul, Int64.le_iff_toInt_le, Int64.lt_iff_toInt_lt, Int32.le_iff_toInt_le, Int32.lt_iff_toInt_lt, ← Int32.toInt_inj, ← Int64.toInt_inj, Int32.toInt_toInt64, kc_1, true_and, and_true, not_true_eq_false, not_false_eq_true] at * <;> ((first | omega | ((try simp (disch := omega) only [k_bm64] at *); (try simp (disch := omega) only [k_bm] at *); (try simp (disch := omega) only [k_bm] at *); omega) | (simp only [Int.bmod] at *; omega)))))
set_option maxHeartbeats 4000000 in
set_option maxRecDepth 100000 in
theorem e_goOn (l : Launch) (dC : Nat → ClassId) (dI : Nat → Nat → Nat) (cI cJ cQ : ClassId) (sz : Nat) (aTr : Nat) (fr : Int32) (to : Int32) (h1 : Int32) (aLa : Nat) (aPa : Nat) (aGe : Nat) (gL : Nat) (gR : Nat) (lf : Nat) (rt : Nat) (tgo : Int32) (tca : Int32) (tki : Int32) (tso : Int32) (tbe : Int32) (twe : Int32) (tle : Int32) (tan : Int32) (tco : Int32) (ten : Int32) (vLa : Nat) (l4 : Int32) (a4 : Int32) (n4 : Int32) (f4 : Nat → Int32) (hh0 : fr ≤ to) : Met l yX10_goOn (kW yX10_goOn cX10_goOn 7 (some .int)) { frames := 1, cells := 0, slots := 0, locals := 23 } (kPre dC dI cI cJ cQ sz [.ref aTr, .int fr, .int to, .int h1] [(kX10 aTr aLa aPa aGe gL gR lf rt tgo tca tki tso tbe twe tle tan tco ten), (kX4 aLa vLa l4 a4 n4), (kAI vLa cI 24 f4)]) (va_Qi (fun (r : Int32) (u : kS) => (r = ((kGo (kAt 24 f4) tca tle tki tso tbe (fun _ => h1)) (kfu to fr) fr tan tco ten).1) ∧ ((u.1 0) = ((kGo (kAt 24 f4) tca tle tki tso tbe (fun _ => h1)) (kfu to fr) fr tan tco ten).2.1) ∧ ((u.1 1) = ((kGo (kAt 24 f4) tca tle tki tso tbe (fun _ => h1)) (kfu to fr) fr tan tco ten).2.2.1) ∧ ((u.1 2) = ((kGo (kAt 24 f4) tca tle tki tso tbe (fun _ => h1)) (kfu to fr) fr tan tco ten).2.2.2)) (fun (u : kS) t₀ => kB dC dI cI cJ cQ (va_A [(kX10 aTr aLa aPa aGe gL gR lf rt tgo tca tki tso tbe twe tle tan tco ten), (kX4 aLa vLa l4 a4 n4), (kAI vLa cI 24 f4)] sz) [(kX10 aTr aLa aPa aGe gL gR lf rt tgo tca tki tso tbe twe tle (u.1 0) (u.1 1) (u.1 2)), (kX4 aLa vLa l4 a4 n4), (kAI vLa cI 24 f4)] t₀) (va_A [(kX10 aTr aLa aPa aGe gL gR lf rt tgo tca tki tso tbe twe tle tan tco ten), (kX4 aLa vLa l4 a4 n4), (kAI vLa cI 24 f4)] sz)) 0 0 (va_A [(kX10 aTr aLa aPa aGe gL gR lf rt tgo tca tki tso tbe twe tle tan tco ten), (kX4 aLa vLa l4 a4 n4), (kAI vLa cI 24 f4)] sz) := by
  refine Met.ofW (cc := cX10_goOn) (maxL := 7) (ret := (some .int)) (by decide) rfl ?_
  intro p₀ e₀ s₀ m₀ args below meth c₀ s₁ B hml hv₀
  obtain ⟨rfl, hsz, hP, hK, hD0, hN⟩ := hv₀
  have hx₀ := B.exec
  have hb := B.bytes
  have hr := B.returns
  have hts := atoms_spec (ws := (kW yX10_goOn cX10_goOn 7 (some .int))) B.pre
  have hts := fun w h => hts w (List.mem_cons_of_mem _ h)
  have hown : s₀.vm.findClass RX10 = some m₀.cls := findClass_of_methodNamed B.named
  have hlocks := B.notSynchronized
  subst hsz
  have hD := hD0.self (sz := s₀.heap.size)
  generalize hAe : va_A [(kX10 aTr aLa aPa aGe gL gR lf rt tgo tca tki tso tbe twe tle tan tco ten), (kX4 aLa vLa l4 a4 n4), (kAI vLa cI 24 f4)] s₀.heap.size = A at hD ⊢
  have hA : ∀ q : Nat, s₀.heap.size ≤ q → A q := fun q h => by rw [← hAe]; exact Or.inr h
  have hS : va_S A s₀.heap s₀.heap [] := va_S.rf
  have hP : va_P (dC, dI) vwCl [(kX10 aTr aLa aPa aGe gL gR lf rt tgo tca tki tso tbe twe tle tan tco ten), (kX4 aLa vLa l4 a4 n4), (kAI vLa cI 24 f4)] s₀.heap := hP
  have hl := lv_entry ([.ref aTr, .int fr, .int to, .int h1]) (n := 7) (Nat.le_of_ble_eq_true rfl)
  rw [lg_entry_eq]
  generalize (lg_sl ([.ref aTr, .int fr, .int to, .int h1]) ++ List.replicate (7 - (lg_sl ([.ref aTr, .int fr, .int to, .int h1])).length) Slot.unset).toArray = ls at hl ⊢
  have hl : lv_has ls 7 [(0, .ref aTr), (1, .int fr), (2, .int to), (3, .int h1)] := hl
  obtain ⟨H, hH⟩ : ∃ z : Heap, z = s₀.heap := ⟨_, rfl⟩
  rw [← hH] at hP
  have hS : va_S A s₀.heap H [] := by rw [hH]; exact hS
  refine k_heap hH ?_
  have hD : va_D A [(kX10 aTr aLa aPa aGe gL gR lf rt tgo tca tki tso tbe twe tle tan tco ten), (kX4 aLa vLa l4 a4 n4), (kAI vLa cI 24 f4)] := hD
  obtain ⟨locs, hlo⟩ : ∃ z : List Loc, z = [] := ⟨_, rfl⟩
  rw [← hlo] at hS ⊢
  clear hlo hH hAe hD0
  refine lv_iconst (v := 0) hx₀ hb dX10_goOn_0 (by decide +kernel) ?_
  refine lv_iload_n hx₀ hb dX10_goOn_1 rfl (lv_at hl 3 rfl) ?_
  refine lv_iconst (v := 5) hx₀ hb dX10_goOn_2 (by decide +kernel) ?_
  refine lv_isub hx₀ hb dX10_goOn_3 ?_
  refine va_mmax hx₀ hb (by rw [hml]; exact hl.1.symm) hown (hts (.methodLink RX10 117 Lib.Math.max.name) wd_507) (hts (.static Lib.Math.max.name) wd_62) (hts (.initialized "java/lang/Math") wd_63) (hts (.code Lib.Math.max.name Lib.Math.max.code 2 (some .int)) wd_64) (by decide) (Nat.le_of_ble_eq_true rfl) (by decide) (by decide) dX10_goOn_4 ?_
  by_cases c_1 : (0 : Int32) < (h1 - 5)
  · refine k_topi (v := h1 - 5) (if_pos c_1) ?_
    refine lv_istore (lv' := [(4, .int (h1 - 5)), (0, .ref aTr), (1, .int fr), (2, .int to), (3, .int h1)]) hx₀ hb dX10_goOn_7 hl (by decide) rfl (fun ls hl => ?_)
    refine lv_iload_n hx₀ hb dX10_goOn_9 rfl (lv_at hl 2 rfl) ?_
    refine lv_istore (lv' := [(5, .int fr), (4, .int (h1 - 5)), (0, .ref aTr), (1, .int fr), (2, .int to), (3, .int h1)]) hx₀ hb dX10_goOn_10 hl (by decide) rfl (fun ls hl => ?_)
    refine (?keyz2 : ∀ (jz2 : Nat) (iz2 : Int32) (x1z2 : Int32) (x2z2 : Int32) (x3z2 : Int32) (H : Heap) (locs : List Loc) (ls : Array Slot), (fr ≤ iz2 ∧ iz2 ≤ to) → (k_go (kGo (kAt 24 f4) tca tle tki tso tbe (fun _ => h1)) to iz2 x1z2 x2z2 x3z2 ((kGo (kAt 24 f4) tca tle tki tso tbe (fun _ => h1)) (kfu to fr) fr tan tco ten)) → ((to.toInt - iz2.toInt).toNat = jz2) → va_P (dC, dI) vwCl [(kX10 aTr aLa aPa aGe gL gR lf rt tgo tca tki tso tbe twe tle x1z2 x2z2 x3z2), (kX4 aLa vLa l4 a4 n4), (kAI vLa cI 24 f4)] H → va_D A [(kX10 aTr aLa aPa aGe gL gR lf rt tgo tca tki tso tbe twe tle x1z2 x2z2 x3z2), (kX4 aLa vLa l4 a4 n4), (kAI vLa cI 24 f4)] → va_S A s₀.heap H locs → lv_has ls 7 [(5, .int iz2), (4, .int (h1 - 5)), (0, .ref aTr), (1, .int fr), (2, .int to), (3, .int h1)] → W p₀ l e₀ _ s₀ m₀ _ below meth c₀ H locs _ _ _ (F0 m₀ 12 ls [])) _ fr tan tco ten H locs ls (lf_e_goOn_1 fr to hh0) (rfl) rfl hP hD hS hl
    clear hP hD hS hl
    intro jz2
    induction jz2 using Nat.strongRecOn with
    | ind jz2 ihz2 =>
      intro iz2 x1z2 x2z2 x3z2 H locs ls hiz2_0 hiz2_1 hjz2 hP hD hS hl
      refine lv_iload hx₀ hb dX10_goOn_12 (lv_at hl 0 rfl) ?_
      refine lv_iload_n hx₀ hb dX10_goOn_14 rfl (lv_at hl 4 rfl) ?_
      refine lv_icmp_ge (tgt := 139) hx₀ hb dX10_goOn_15 (by decide) (fun c_3 => ?_) (fun c_3 => ?_)
      · refine lv_iload_n hx₀ hb dX10_goOn_139 rfl (lv_at hl 4 rfl) ?_
        obtain ⟨hP9, hD9⟩ := k_c2 (wc := [(kX10 aTr aLa aPa aGe gL gR lf rt tgo tca tki tso tbe twe tle x1z2 x2z2 x3z2), (kX4 aLa vLa l4 a4 n4), (kAI vLa cI 24 f4)]) hP hD [0, 1, 2] (by decide +kernel) rfl
        exact W.iret (v := to) hx₀ hb hr (fun t₀ ht hW => ⟨⟨to, (k_fn [x1z2, x2z2, x3z2], k_fa [], k_fl [], k_fL [], k_fp []), rfl, ⟨((kGo_end hiz2_1 c_3 (hiz2_0.2)).1), ((kGo_end hiz2_1 c_3 (hiz2_0.2)).2.1), ((kGo_end hiz2_1 c_3 (hiz2_0.2)).2.2.1), ((kGo_end hiz2_1 c_3 (hiz2_0.2)).2.2.2)⟩, by rw [ht]; exact hP9, va_K.moved hW.alike hK, hD9⟩, hS.F ht⟩) hS.2.2 dX10_goOn_140
      · refine lv_iload hx₀ hb dX10_goOn_18 (lv_at hl 0 rfl) ?_
        refine lv_aload_n hx₀ hb dX10_goOn_20 rfl (lv_at hl 2 rfl) ?_
        refine va_get (D := (dC, dI)) (ci := 9) (v := .int tca) (C := RX10) (T := TX10) (N := 17) hx₀ hb hts inlX10 hown hK hP 0 rfl rfl 8 (by decide) (hts (.fieldLink RX10 52 "BittenStick$Trip" "carriedTo" "I") wd_454) (fun _ h9 => h9) rfl dX10_goOn_21 ?_
        refine lv_icmp_lt (tgt := 35) hx₀ hb dX10_goOn_24 (by decide) (fun c_4 => ?_) (fun c_4 => ?_)
        · refine lv_aload_n hx₀ hb dX10_goOn_35 rfl (lv_at hl 2 rfl) ?_
          refine lv_dup hx₀ hb dX10_goOn_36 rfl ?_
          refine va_get (D := (dC, dI)) (ci := 9) (v := .int x2z2) (C := RX10) (T := TX10) (N := 17) hx₀ hb hts inlX10 hown hK hP 0 rfl rfl 15 (by decide) (hts (.fieldLink RX10 106 "BittenStick$Trip" "cold" "I") wd_501) (fun _ h9 => h9) rfl dX10_goOn_37 ?_
          refine lv_iload hx₀ hb dX10_goOn_40 (lv_at hl 1 rfl) ?_
          refine lv_iadd hx₀ hb dX10_goOn_42 ?_
          refine va_put (D := (dC, dI)) (ci := 9) (v := .int (x2z2 + (h1 - 5))) (ty := .int) (C := RX10) (T := TX10) (N := 17) hx₀ hb hts inlX10 tyX10 tyX10_ok nmX10 hown hK hP hD hS 0 rfl rfl 15 (by decide) (hts (.fieldLink RX10 106 "BittenStick$Trip" "cold" "I") wd_501) (fun _ h9 => h9) rfl (by decide +kernel) rfl rfl (Nat.le_of_ble_eq_true rfl) dX10_goOn_43 ?_
          clear hP hD hS
          intro H locs hP hD hS
          replace hP := k_w2 (wt := [(kX10 aTr aLa aPa aGe gL gR lf rt tgo tca tki tso tbe twe tle x1z2 (x2z2 + (h1 - 5)) x3z2), (kX4 aLa vLa l4 a4 n4), (kAI vLa cI 24 f4)]) hP hD rfl
          replace hD := hP.2
          replace hP := hP.1
          refine lv_aload_n hx₀ hb dX10_goOn_46 rfl (lv_at hl 2 rfl) ?_
          refine va_get (D := (dC, dI)) (ci := 9) (v := .int (x2z2 + (h1 - 5))) (C := RX10) (T := TX10) (N := 17) hx₀ hb hts inlX10 hown hK hP 0 rfl rfl 15 (by decide) (hts (.fieldLink RX10 106 "BittenStick$Trip" "cold" "I") wd_501) (fun _ h9 => h9) rfl dX10_goOn_47 ?_
          refine lv_bipush (v := 20) hx₀ hb dX10_goOn_50 (by decide +kernel) ?_
          refine lv_icmp_le (tgt := 63) hx₀ hb dX10_goOn_52 (by decide) (fun c_5 => ?_) (fun c_5 => ?_)
          · refine lv_aload_n hx₀ hb dX10_goOn_63 rfl (lv_at hl 2 rfl) ?_
            refine va_get (D := (dC, dI)) (ci := 9) (v := .ref aLa) (C := RX10) (T := TX10) (N := 17) hx₀ hb hts inlX10 hown hK hP 0 rfl rfl 0 (by decide) (hts (.fieldLink RX10 27 "BittenStick$Trip" "land" "LBittenStick$Land;") wd_89) (fun _ h9 => h9) rfl dX10_goOn_64 ?_
            refine lv_iload hx₀ hb dX10_goOn_67 (lv_at hl 0 rfl) ?_
            obtain ⟨hPc, hDc, hFc, hC⟩ := k_cw (wc := [(kX4 aLa vLa l4 a4 n4), (kAI vLa cI 24 f4)]) hP hD hS hA [1, 2] (by decide +kernel) rfl
            refine va_calli (va_runU (As := [.int iz2]) (rest := []) ⟨hx₀, hb, hml, hown, hts⟩ (j_valueAt_X4 l dC dI cI cJ cQ H.size aLa iz2 vLa l4 a4 n4 f4) (va_cwU 1 hts (kGU wd_179 wd_478 wd_288 wd_289 wd_178 wd_57) rfl rfl rfl rfl (by decide +kernel) ⟨Nat.le_of_ble_eq_true rfl, Nat.le_of_ble_eq_true rfl⟩) (k_preV4 (q0 := 0) hK hPc hDc hN rfl) rfl rfl hl.1 rfl (lv_room (Nat.le_of_ble_eq_true rfl)) dX10_goOn_69 ⟨by decide +kernel, by decide +kernel⟩) hS (fun q _ h => hFc q h) hFc (fun r_6 u₀ t₀ H1 locs ht hvm hw hB hz1 hk1 hS => ?_)
            obtain ⟨hP1, hK1, hD1⟩ := hB
            rw [ht] at hP1
            have hJ := k_jn (wr := [(kX10 aTr aLa aPa aGe gL gR lf rt tgo tca tki tso tbe twe tle x1z2 (x2z2 + (h1 - 5)) x3z2)]) (wt := [(kX10 aTr aLa aPa aGe gL gR lf rt tgo tca tki tso tbe twe tle x1z2 (x2z2 + (h1 - 5)) x3z2), (kX4 aLa vLa l4 a4 n4), (kAI vLa cI 24 f4)]) hP hD hC [0] rfl (by decide +kernel) (by decide +kernel) hk1 hFc hP1 hD1 rfl
            clear hP hD hPc hDc hFc hC hP1 hD1 hK1 hz1 hk1 hvm ht
            obtain ⟨hP, hD⟩ := hJ
            generalize H1 = H at hP hS ⊢
            try dsimp only at hw
            refine k_topi (v := kAt 24 f4 iz2) hw ?_
            refine lv_istore (lv' := [(6, .int (kAt 24 f4 iz2)), (5, .int iz2), (4, .int (h1 - 5)), (0, .ref aTr), (1, .int fr), (2, .int to), (3, .int h1)]) hx₀ hb dX10_goOn_72 hl (by decide) rfl (fun ls hl => ?_)
            refine lv_iload hx₀ hb dX10_goOn_74 (lv_at hl 0 rfl) ?_
            refine lv_bipush (v := 6) hx₀ hb dX10_goOn_76 (by decide +kernel) ?_
            refine lv_icmp_ge (tgt := 116) hx₀ hb dX10_goOn_78 (by decide) (fun c_7 => ?_) (fun c_7 => ?_)
            · refine lv_iload hx₀ hb dX10_goOn_116 (lv_at hl 0 rfl) ?_
              refine lv_bipush (v := 7) hx₀ hb dX10_goOn_118 (by decide +kernel) ?_
              refine lv_icmp_ne (tgt := 133) hx₀ hb dX10_goOn_120 (by decide) (fun c_8 => ?_) (fun c_8 => ?_)
              · refine lv_iinc (v := iz2 + 1) (lv' := [(5, .int (iz2 + 1)), (6, .int (kAt 24 f4 iz2)), (4, .int (h1 - 5)), (0, .ref aTr), (1, .int fr), (2, .int to), (3, .int h1)]) hx₀ hb dX10_goOn_133 hl (k := 1) rfl rfl (by decide) rfl (fun ls hl => ?_)
                refine lv_goto (tgt := 12) hx₀ hb dX10_goOn_136 (by decide) ?_
                exact ihz2 _ (lf_e_goOn_3 fr to iz2 jz2 tca hh0 hiz2_0 hjz2 c_3 c_4) (iz2 + 1) x1z2 (x2z2 + (h1 - 5)) x3z2 _ _ _ (lf_e_goOn_2 fr to iz2 jz2 tca hh0 hiz2_0 hjz2 c_3 c_4) (kGo_o hiz2_1 c_3 (Int32.not_le.mpr c_4) (kCh_p c_1) (Int32.not_lt.mpr c_5) (Int32.not_lt.mpr c_7) c_8) rfl (hP.sub [0, 1, 2] rfl) (hD.sub [0, 1, 2] (by decide +kernel) rfl) hS (lv_sub hl [0, 2, 3, 4, 5, 6] rfl)
              · refine lv_aload_n hx₀ hb dX10_goOn_123 rfl (lv_at hl 3 rfl) ?_
                refine lv_iconst (v := 0) hx₀ hb dX10_goOn_124 (by decide +kernel) ?_
                refine va_put (D := (dC, dI)) (ci := 9) (v := .int 0) (ty := .int) (C := RX10) (T := TX10) (N := 17) hx₀ hb hts inlX10 tyX10 tyX10_ok nmX10 hown hK hP hD hS 0 rfl rfl 14 (by decide) (hts (.fieldLink RX10 103 "BittenStick$Trip" "anger" "I") wd_500) (fun _ h9 => h9) rfl (by decide +kernel) rfl rfl (Nat.le_of_ble_eq_true rfl) dX10_goOn_125 ?_
                clear hP hD hS
                intro H locs hP hD hS
                replace hP := k_w2 (wt := [(kX10 aTr aLa aPa aGe gL gR lf rt tgo tca tki tso tbe twe tle 0 (x2z2 + (h1 - 5)) x3z2), (kX4 aLa vLa l4 a4 n4), (kAI vLa cI 24 f4)]) hP hD rfl
                replace hD := hP.2
                replace hP := hP.1
                refine lv_aload_n hx₀ hb dX10_goOn_128 rfl (lv_at hl 3 rfl) ?_
                refine lv_iconst (v := 0) hx₀ hb dX10_goOn_129 (by decide +kernel) ?_
                refine va_put (D := (dC, dI)) (ci := 9) (v := .int 0) (ty := .int) (C := RX10) (T := TX10) (N := 17) hx₀ hb hts inlX10 tyX10 tyX10_ok nmX10 hown hK hP hD hS 0 rfl rfl 15 (by decide) (hts (.fieldLink RX10 106 "BittenStick$Trip" "cold" "I") wd_501) (fun _ h9 => h9) rfl (by decide +kernel) rfl rfl (Nat.le_of_ble_eq_true rfl) dX10_goOn_130 ?_
                clear hP hD hS
                intro H locs hP hD hS
                replace hP := k_w2 (wt := [(kX10 aTr aLa aPa aGe gL gR lf rt tgo tca tki tso tbe twe tle 0 0 x3z2), (kX4 aLa vLa l4 a4 n4), (kAI vLa cI 24 f4)]) hP hD rfl
                replace hD := hP.2
                replace hP := hP.1
                refine lv_iinc (v := iz2 + 1) (lv' := [(5, .int (iz2 + 1)), (6, .int (kAt 24 f4 iz2)), (4, .int (h1 - 5)), (0, .ref aTr), (1, .int fr), (2, .int to), (3, .int h1)]) hx₀ hb dX10_goOn_133 hl (k := 1) rfl rfl (by decide) rfl (fun ls hl => ?_)
                refine lv_goto (tgt := 12) hx₀ hb dX10_goOn_136 (by decide) ?_
                exact ihz2 _ (lf_e_goOn_3 fr to iz2 jz2 tca hh0 hiz2_0 hjz2 c_3 c_4) (iz2 + 1) (0 : Int32) (0 : Int32) x3z2 _ _ _ (lf_e_goOn_2 fr to iz2 jz2 tca hh0 hiz2_0 hjz2 c_3 c_4) (kGo_i hiz2_1 c_3 (Int32.not_le.mpr c_4) (kCh_p c_1) (Int32.not_lt.mpr c_5) (Int32.not_lt.mpr c_7) c_8) rfl (hP.sub [0, 1, 2] rfl) (hD.sub [0, 1, 2] (by decide +kernel) rfl) hS (lv_sub hl [0, 2, 3, 4, 5, 6] rfl)
            · refine lv_aload_n hx₀ hb dX10_goOn_81 rfl (lv_at hl 3 rfl) ?_
              refine lv_dup hx₀ hb dX10_goOn_82 rfl ?_
              refine va_get (D := (dC, dI)) (ci := 9) (v := .int x1z2) (C := RX10) (T := TX10) (N := 17) hx₀ hb hts inlX10 hown hK hP 0 rfl rfl 14 (by decide) (hts (.fieldLink RX10 103 "BittenStick$Trip" "anger" "I") wd_500) (fun _ h9 => h9) rfl dX10_goOn_83 ?_
              refine lv_aload_n hx₀ hb dX10_goOn_86 rfl (lv_at hl 3 rfl) ?_
              refine lv_iload hx₀ hb dX10_goOn_87 (lv_at hl 0 rfl) ?_
              refine lv_iload_n hx₀ hb dX10_goOn_89 rfl (lv_at hl 6 rfl) ?_
              obtain ⟨hPc, hDc, hFc, hC⟩ := k_cw (wc := [(kX10 aTr aLa aPa aGe gL gR lf rt tgo tca tki tso tbe twe tle x1z2 (x2z2 + (h1 - 5)) x3z2)]) hP hD hS hA [0] (by decide +kernel) rfl
              refine va_calli (va_runV (As := [.int (kAt 24 f4 iz2), .int h1]) (rest := [.int x1z2, .ref aTr]) ⟨hx₀, hb, hml, hown, hts⟩ (j_insult l dC dI cI cJ cQ H.size aTr (kAt 24 f4 iz2) h1 aLa aPa aGe gL gR lf rt tgo tca tki tso tbe twe tle x1z2 (x2z2 + (h1 - 5)) x3z2) (cwV 2 hts (kGV wd_511 wd_508 wd_509 wd_510 wd_30) rfl rfl rfl (by decide +kernel) ⟨Nat.le_of_ble_eq_true rfl, Nat.le_of_ble_eq_true rfl⟩) (k_preV9 (q0 := 0) hK hPc hDc hN rfl) rfl rfl hl.1 rfl (lv_room (Nat.le_of_ble_eq_true rfl)) dX10_goOn_90 ⟨by decide +kernel, by decide +kernel⟩) hS (fun q _ h => hFc q h) hFc (fun r_9 u₀ t₀ H1 locs ht hvm hw hB hz1 hk1 hS => ?_)
              obtain ⟨hP1, hK1, hD1⟩ := hB
              rw [ht] at hP1
              have hJ := k_jn (wr := [(kX4 aLa vLa l4 a4 n4), (kAI vLa cI 24 f4)]) (wt := [(kX4 aLa vLa l4 a4 n4), (kAI vLa cI 24 f4), (kX10 aTr aLa aPa aGe gL gR lf rt tgo tca tki tso tbe twe tle x1z2 (x2z2 + (h1 - 5)) x3z2)]) hP hD hC [1, 2] rfl (by decide +kernel) (by decide +kernel) hk1 hFc hP1 hD1 rfl
              clear hP hD hPc hDc hFc hC hP1 hD1 hK1 hz1 hk1 hvm ht
              obtain ⟨hP, hD⟩ := hJ
              generalize H1 = H at hP hS ⊢
              try dsimp only at hw
              refine k_topi (v := kIns ((tle >>> ((kAt 24 f4 iz2) &&& 31)) &&& 1) tki tso (kAt 24 f4 iz2) h1) hw ?_
              refine lv_iadd hx₀ hb dX10_goOn_93 ?_
              refine va_put (D := (dC, dI)) (ci := 9) (v := .int (x1z2 + (kIns ((tle >>> ((kAt 24 f4 iz2) &&& 31)) &&& 1) tki tso (kAt 24 f4 iz2) h1))) (ty := .int) (C := RX10) (T := TX10) (N := 17) hx₀ hb hts inlX10 tyX10 tyX10_ok nmX10 hown hK hP hD hS 2 rfl rfl 14 (by decide) (hts (.fieldLink RX10 103 "BittenStick$Trip" "anger" "I") wd_500) (fun _ h9 => h9) rfl (by decide +kernel) rfl rfl (Nat.le_of_ble_eq_true rfl) dX10_goOn_94 ?_
              clear hP hD hS
              intro H locs hP hD hS
              replace hP := k_w2 (wt := [(kX4 aLa vLa l4 a4 n4), (kAI vLa cI 24 f4), (kX10 aTr aLa aPa aGe gL gR lf rt tgo tca tki tso tbe twe tle (x1z2 + (kIns ((tle >>> ((kAt 24 f4 iz2) &&& 31)) &&& 1) tki tso (kAt 24 f4 iz2) h1)) (x2z2 + (h1 - 5)) x3z2)]) hP hD rfl
              replace hD := hP.2
              replace hP := hP.1
              refine lv_aload_n hx₀ hb dX10_goOn_97 rfl (lv_at hl 3 rfl) ?_
              refine va_get (D := (dC, dI)) (ci := 9) (v := .int (x1z2 + (kIns ((tle >>> ((kAt 24 f4 iz2) &&& 31)) &&& 1) tki tso (kAt 24 f4 iz2) h1))) (C := RX10) (T := TX10) (N := 17) hx₀ hb hts inlX10 hown hK hP 2 rfl rfl 14 (by decide) (hts (.fieldLink RX10 103 "BittenStick$Trip" "anger" "I") wd_500) (fun _ h9 => h9) rfl dX10_goOn_98 ?_
              refine lv_aload_n hx₀ hb dX10_goOn_101 rfl (lv_at hl 3 rfl) ?_
              refine va_get (D := (dC, dI)) (ci := 9) (v := .int tbe) (C := RX10) (T := TX10) (N := 17) hx₀ hb hts inlX10 hown hK hP 2 rfl rfl 11 (by decide) (hts (.fieldLink RX10 66 "BittenStick$Trip" "bears" "I") wd_457) (fun _ h9 => h9) rfl dX10_goOn_102 ?_
              refine lv_icmp_le (tgt := 133) hx₀ hb dX10_goOn_105 (by decide) (fun c_10 => ?_) (fun c_10 => ?_)
              · refine lv_iinc (v := iz2 + 1) (lv' := [(5, .int (iz2 + 1)), (6, .int (kAt 24 f4 iz2)), (4, .int (h1 - 5)), (0, .ref aTr), (1, .int fr), (2, .int to), (3, .int h1)]) hx₀ hb dX10_goOn_133 hl (k := 1) rfl rfl (by decide) rfl (fun ls hl => ?_)
                refine lv_goto (tgt := 12) hx₀ hb dX10_goOn_136 (by decide) ?_
                exact ihz2 _ (lf_e_goOn_3 fr to iz2 jz2 tca hh0 hiz2_0 hjz2 c_3 c_4) (iz2 + 1) (x1z2 + (kIns ((tle >>> ((kAt 24 f4 iz2) &&& 31)) &&& 1) tki tso (kAt 24 f4 iz2) h1)) (x2z2 + (h1 - 5)) x3z2 _ _ _ (lf_e_goOn_2 fr to iz2 jz2 tca hh0 hiz2_0 hjz2 c_3 c_4) (kGo_t hiz2_1 c_3 (Int32.not_le.mpr c_4) (kCh_p c_1) (Int32.not_lt.mpr c_5) (Int32.not_le.mp c_7) rfl (Int32.not_lt.mpr c_10)) rfl (hP.sub [2, 0, 1] rfl) (hD.sub [2, 0, 1] (by decide +kernel) rfl) hS (lv_sub hl [0, 2, 3, 4, 5, 6] rfl)
              · refine lv_aload_n hx₀ hb dX10_goOn_108 rfl (lv_at hl 3 rfl) ?_
                refine lv_iconst (v := 3) hx₀ hb dX10_goOn_109 (by decide +kernel) ?_
                refine va_put (D := (dC, dI)) (ci := 9) (v := .int 3) (ty := .int) (C := RX10) (T := TX10) (N := 17) hx₀ hb hts inlX10 tyX10 tyX10_ok nmX10 hown hK hP hD hS 2 rfl rfl 16 (by decide) (hts (.fieldLink RX10 109 "BittenStick$Trip" "end" "I") wd_502) (fun _ h9 => h9) rfl (by decide +kernel) rfl rfl (Nat.le_of_ble_eq_true rfl) dX10_goOn_110 ?_
                clear hP hD hS
                intro H locs hP hD hS
                replace hP := k_w2 (wt := [(kX4 aLa vLa l4 a4 n4), (kAI vLa cI 24 f4), (kX10 aTr aLa aPa aGe gL gR lf rt tgo tca tki tso tbe twe tle (x1z2 + (kIns ((tle >>> ((kAt 24 f4 iz2) &&& 31)) &&& 1) tki tso (kAt 24 f4 iz2) h1)) (x2z2 + (h1 - 5)) 3)]) hP hD rfl
                replace hD := hP.2
                replace hP := hP.1
                refine lv_iload hx₀ hb dX10_goOn_113 (lv_at hl 1 rfl) ?_
                obtain ⟨hP9, hD9⟩ := k_c2 (wc := [(kX10 aTr aLa aPa aGe gL gR lf rt tgo tca tki tso tbe twe tle (x1z2 + (kIns ((tle >>> ((kAt 24 f4 iz2) &&& 31)) &&& 1) tki tso (kAt 24 f4 iz2) h1)) (x2z2 + (h1 - 5)) 3), (kX4 aLa vLa l4 a4 n4), (kAI vLa cI 24 f4)]) hP hD [2, 0, 1] (by decide +kernel) rfl
                exact W.iret (v := iz2) hx₀ hb hr (fun t₀ ht hW => ⟨⟨iz2, (k_fn [(x1z2 + (kIns ((tle >>> ((kAt 24 f4 iz2) &&& 31)) &&& 1) tki tso (kAt 24 f4 iz2) h1)), (x2z2 + (h1 - 5)), (3 : Int32)], k_fa [], k_fl [], k_fL [], k_fp []), rfl, ⟨((kGo_f3 hiz2_1 c_3 (Int32.not_le.mpr c_4) (kCh_p c_1) (Int32.not_lt.mpr c_5) (Int32.not_le.mp c_7) rfl (Int32.not_le.mp c_10)).1), ((kGo_f3 hiz2_1 c_3 (Int32.not_le.mpr c_4) (kCh_p c_1) (Int32.not_lt.mpr c_5) (Int32.not_le.mp c_7) rfl (Int32.not_le.mp c_10)).2.1), ((kGo_f3 hiz2_1 c_3 (Int32.not_le.mpr c_4) (kCh_p c_1) (Int32.not_lt.mpr c_5) (Int32.not_le.mp c_7) rfl (Int32.not_le.mp c_10)).2.2.1), ((kGo_f3 hiz2_1 c_3 (Int32.not_le.mpr c_4) (kCh_p c_1) (Int32.not_lt.mpr c_5) (Int32.not_le.mp c_7) rfl (Int32.not_le.mp c_10)).2.2.2)⟩, by rw [ht]; exact hP9, va_K.moved hW.alike hK, hD9⟩, hS.F ht⟩) hS.2.2 dX10_goOn_115
          · refine lv_aload_n hx₀ hb dX10_goOn_55 rfl (lv_at hl 2 rfl) ?_
            refine lv_iconst (v := 2) hx₀ hb dX10_goOn_56 (by decide +kernel) ?_
            refine va_put (D := (dC, dI)) (ci := 9) (v := .int 2) (ty := .int) (C := RX10) (T := TX10) (N := 17) hx₀ hb hts inlX10 tyX10 tyX10_ok nmX10 hown hK hP hD hS 0 rfl rfl 16 (by decide) (hts (.fieldLink RX10 109 "BittenStick$Trip" "end" "I") wd_502) (fun _ h9 => h9) rfl (by decide +kernel) rfl rfl (Nat.le_of_ble_eq_true rfl) dX10_goOn_57 ?_
            clear hP hD hS
            intro H locs hP hD hS
            replace hP := k_w2 (wt := [(kX10 aTr aLa aPa aGe gL gR lf rt tgo tca tki tso tbe twe tle x1z2 (x2z2 + (h1 - 5)) 2), (kX4 aLa vLa l4 a4 n4), (kAI vLa cI 24 f4)]) hP hD rfl
            replace hD := hP.2
            replace hP := hP.1
            refine lv_iload hx₀ hb dX10_goOn_60 (lv_at hl 0 rfl) ?_
            obtain ⟨hP9, hD9⟩ := k_c2 (wc := [(kX10 aTr aLa aPa aGe gL gR lf rt tgo tca tki tso tbe twe tle x1z2 (x2z2 + (h1 - 5)) 2), (kX4 aLa vLa l4 a4 n4), (kAI vLa cI 24 f4)]) hP hD [0, 1, 2] (by decide +kernel) rfl
            exact W.iret (v := iz2) hx₀ hb hr (fun t₀ ht hW => ⟨⟨iz2, (k_fn [x1z2, (x2z2 + (h1 - 5)), (2 : Int32)], k_fa [], k_fl [], k_fL [], k_fp []), rfl, ⟨((kGo_f2 hiz2_1 c_3 (Int32.not_le.mpr c_4) (kCh_p c_1) (Int32.not_le.mp c_5)).1), ((kGo_f2 hiz2_1 c_3 (Int32.not_le.mpr c_4) (kCh_p c_1) (Int32.not_le.mp c_5)).2.1), ((kGo_f2 hiz2_1 c_3 (Int32.not_le.mpr c_4) (kCh_p c_1) (Int32.not_le.mp c_5)).2.2.1), ((kGo_f2 hiz2_1 c_3 (Int32.not_le.mpr c_4) (kCh_p c_1) (Int32.not_le.mp c_5)).2.2.2)⟩, by rw [ht]; exact hP9, va_K.moved hW.alike hK, hD9⟩, hS.F ht⟩) hS.2.2 dX10_goOn_62
        · refine lv_aload_n hx₀ hb dX10_goOn_27 rfl (lv_at hl 2 rfl) ?_
          refine lv_iconst (v := 1) hx₀ hb dX10_goOn_28 (by decide +kernel) ?_
          refine va_put (D := (dC, dI)) (ci := 9) (v := .int 1) (ty := .int) (C := RX10) (T := TX10) (N := 17) hx₀ hb hts inlX10 tyX10 tyX10_ok nmX10 hown hK hP hD hS 0 rfl rfl 16 (by decide) (hts (.fieldLink RX10 109 "BittenStick$Trip" "end" "I") wd_502) (fun _ h9 => h9) rfl (by decide +kernel) rfl rfl (Nat.le_of_ble_eq_true rfl) dX10_goOn_29 ?_
          clear hP hD hS
          intro H locs hP hD hS
          replace hP := k_w2 (wt := [(kX10 aTr aLa aPa aGe gL gR lf rt tgo tca tki tso tbe twe tle x1z2 x2z2 1), (kX4 aLa vLa l4 a4 n4), (kAI vLa cI 24 f4)]) hP hD rfl
          replace hD := hP.2
          replace hP := hP.1
          refine lv_iload hx₀ hb dX10_goOn_32 (lv_at hl 0 rfl) ?_
          obtain ⟨hP9, hD9⟩ := k_c2 (wc := [(kX10 aTr aLa aPa aGe gL gR lf rt tgo tca tki tso tbe twe tle x1z2 x2z2 1), (kX4 aLa vLa l4 a4 n4), (kAI vLa cI 24 f4)]) hP hD [0, 1, 2] (by decide +kernel) rfl
          exact W.iret (v := iz2) hx₀ hb hr (fun t₀ ht hW => ⟨⟨iz2, (k_fn [x1z2, x2z2, (1 : Int32)], k_fa [], k_fl [], k_fL [], k_fp []), rfl, ⟨((kGo_f1 hiz2_1 c_3 (Int32.not_lt.mp c_4)).1), ((kGo_f1 hiz2_1 c_3 (Int32.not_lt.mp c_4)).2.1), ((kGo_f1 hiz2_1 c_3 (Int32.not_lt.mp c_4)).2.2.1), ((kGo_f1 hiz2_1 c_3 (Int32.not_lt.mp c_4)).2.2.2)⟩, by rw [ht]; exact hP9, va_K.moved hW.alike hK, hD9⟩, hS.F ht⟩) hS.2.2 dX10_goOn_34
  refine k_topi (v := 0) (if_neg c_1) ?_
  refine lv_istore (lv' := [(4, .int 0), (0, .ref aTr), (1, .int fr), (2, .int to), (3, .int h1)]) hx₀ hb dX10_goOn_7 hl (by decide) rfl (fun ls hl => ?_)
  refine lv_iload_n hx₀ hb dX10_goOn_9 rfl (lv_at hl 2 rfl) ?_
  refine lv_istore (lv' := [(5, .int fr), (4, .int 0), (0, .ref aTr), (1, .int fr), (2, .int to), (3, .int h1)]) hx₀ hb dX10_goOn_10 hl (by decide) rfl (fun ls hl => ?_)
  refine (?keyz11 : ∀ (jz11 : Nat) (iz11 : Int32) (x1z11 : Int32) (x2z11 : Int32) (x3z11 : Int32) (H : Heap) (locs : List Loc) (ls : Array Slot), (fr ≤ iz11 ∧ iz11 ≤ to) → (k_go (kGo (kAt 24 f4) tca tle tki tso tbe (fun _ => h1)) to iz11 x1z11 x2z11 x3z11 ((kGo (kAt 24 f4) tca tle tki tso tbe (fun _ => h1)) (kfu to fr) fr tan tco ten)) → ((to.toInt - iz11.toInt).toNat = jz11) → va_P (dC, dI) vwCl [(kX10 aTr aLa aPa aGe gL gR lf rt tgo tca tki tso tbe twe tle x1z11 x2z11 x3z11), (kX4 aLa vLa l4 a4 n4), (kAI vLa cI 24 f4)] H → va_D A [(kX10 aTr aLa aPa aGe gL gR lf rt tgo tca tki tso tbe twe tle x1z11 x2z11 x3z11), (kX4 aLa vLa l4 a4 n4), (kAI vLa cI 24 f4)] → va_S A s₀.heap H locs → lv_has ls 7 [(5, .int iz11), (4, .int 0), (0, .ref aTr), (1, .int fr), (2, .int to), (3, .int h1)] → W p₀ l e₀ _ s₀ m₀ _ below meth c₀ H locs _ _ _ (F0 m₀ 12 ls [])) _ fr tan tco ten H locs ls (lf_e_goOn_1 fr to hh0) (rfl) rfl hP hD hS hl
  clear hP hD hS hl
  intro jz11
  induction jz11 using Nat.strongRecOn with
  | ind jz11 ihz11 =>
    intro iz11 x1z11 x2z11 x3z11 H locs ls hiz11_0 hiz11_1 hjz11 hP hD hS hl
    refine lv_iload hx₀ hb dX10_goOn_12 (lv_at hl 0 rfl) ?_
    refine lv_iload_n hx₀ hb dX10_goOn_14 rfl (lv_at hl 4 rfl) ?_
    refine lv_icmp_ge (tgt := 139) hx₀ hb dX10_goOn_15 (by decide) (fun c_12 => ?_) (fun c_12 => ?_)
    · refine lv_iload_n hx₀ hb dX10_goOn_139 rfl (lv_at hl 4 rfl) ?_
      obtain ⟨hP9, hD9⟩ := k_c2 (wc := [(kX10 aTr aLa aPa aGe gL gR lf rt tgo tca tki tso tbe twe tle x1z11 x2z11 x3z11), (kX4 aLa vLa l4 a4 n4), (kAI vLa cI 24 f4)]) hP hD [0, 1, 2] (by decide +kernel) rfl
      exact W.iret (v := to) hx₀ hb hr (fun t₀ ht hW => ⟨⟨to, (k_fn [x1z11, x2z11, x3z11], k_fa [], k_fl [], k_fL [], k_fp []), rfl, ⟨((kGo_end hiz11_1 c_12 (hiz11_0.2)).1), ((kGo_end hiz11_1 c_12 (hiz11_0.2)).2.1), ((kGo_end hiz11_1 c_12 (hiz11_0.2)).2.2.1), ((kGo_end hiz11_1 c_12 (hiz11_0.2)).2.2.2)⟩, by rw [ht]; exact hP9, va_K.moved hW.alike hK, hD9⟩, hS.F ht⟩) hS.2.2 dX10_goOn_140
    · refine lv_iload hx₀ hb dX10_goOn_18 (lv_at hl 0 rfl) ?_
      refine lv_aload_n hx₀ hb dX10_goOn_20 rfl (lv_at hl 2 rfl) ?_
      refine va_get (D := (dC, dI)) (ci := 9) (v := .int tca) (C := RX10) (T := TX10) (N := 17) hx₀ hb hts inlX10 hown hK hP 0 rfl rfl 8 (by decide) (hts (.fieldLink RX10 52 "BittenStick$Trip" "carriedTo" "I") wd_454) (fun _ h9 => h9) rfl dX10_goOn_21 ?_
      refine lv_icmp_lt (tgt := 35) hx₀ hb dX10_goOn_24 (by decide) (fun c_13 => ?_) (fun c_13 => ?_)
      · refine lv_aload_n hx₀ hb dX10_goOn_35 rfl (lv_at hl 2 rfl) ?_
        refine lv_dup hx₀ hb dX10_goOn_36 rfl ?_
        refine va_get (D := (dC, dI)) (ci := 9) (v := .int x2z11) (C := RX10) (T := TX10) (N := 17) hx₀ hb hts inlX10 hown hK hP 0 rfl rfl 15 (by decide) (hts (.fieldLink RX10 106 "BittenStick$Trip" "cold" "I") wd_501) (fun _ h9 => h9) rfl dX10_goOn_37 ?_
        refine lv_iload hx₀ hb dX10_goOn_40 (lv_at hl 1 rfl) ?_
        refine lv_iadd hx₀ hb dX10_goOn_42 ?_
        refine va_put (D := (dC, dI)) (ci := 9) (v := .int (x2z11 + 0)) (ty := .int) (C := RX10) (T := TX10) (N := 17) hx₀ hb hts inlX10 tyX10 tyX10_ok nmX10 hown hK hP hD hS 0 rfl rfl 15 (by decide) (hts (.fieldLink RX10 106 "BittenStick$Trip" "cold" "I") wd_501) (fun _ h9 => h9) rfl (by decide +kernel) rfl rfl (Nat.le_of_ble_eq_true rfl) dX10_goOn_43 ?_
        clear hP hD hS
        intro H locs hP hD hS
        replace hP := k_w2 (wt := [(kX10 aTr aLa aPa aGe gL gR lf rt tgo tca tki tso tbe twe tle x1z11 (x2z11 + 0) x3z11), (kX4 aLa vLa l4 a4 n4), (kAI vLa cI 24 f4)]) hP hD rfl
        replace hD := hP.2
        replace hP := hP.1
        refine lv_aload_n hx₀ hb dX10_goOn_46 rfl (lv_at hl 2 rfl) ?_
        refine va_get (D := (dC, dI)) (ci := 9) (v := .int (x2z11 + 0)) (C := RX10) (T := TX10) (N := 17) hx₀ hb hts inlX10 hown hK hP 0 rfl rfl 15 (by decide) (hts (.fieldLink RX10 106 "BittenStick$Trip" "cold" "I") wd_501) (fun _ h9 => h9) rfl dX10_goOn_47 ?_
        refine lv_bipush (v := 20) hx₀ hb dX10_goOn_50 (by decide +kernel) ?_
        refine lv_icmp_le (tgt := 63) hx₀ hb dX10_goOn_52 (by decide) (fun c_14 => ?_) (fun c_14 => ?_)
        · refine lv_aload_n hx₀ hb dX10_goOn_63 rfl (lv_at hl 2 rfl) ?_
          refine va_get (D := (dC, dI)) (ci := 9) (v := .ref aLa) (C := RX10) (T := TX10) (N := 17) hx₀ hb hts inlX10 hown hK hP 0 rfl rfl 0 (by decide) (hts (.fieldLink RX10 27 "BittenStick$Trip" "land" "LBittenStick$Land;") wd_89) (fun _ h9 => h9) rfl dX10_goOn_64 ?_
          refine lv_iload hx₀ hb dX10_goOn_67 (lv_at hl 0 rfl) ?_
          obtain ⟨hPc, hDc, hFc, hC⟩ := k_cw (wc := [(kX4 aLa vLa l4 a4 n4), (kAI vLa cI 24 f4)]) hP hD hS hA [1, 2] (by decide +kernel) rfl
          refine va_calli (va_runU (As := [.int iz11]) (rest := []) ⟨hx₀, hb, hml, hown, hts⟩ (j_valueAt_X4 l dC dI cI cJ cQ H.size aLa iz11 vLa l4 a4 n4 f4) (va_cwU 1 hts (kGU wd_179 wd_478 wd_288 wd_289 wd_178 wd_57) rfl rfl rfl rfl (by decide +kernel) ⟨Nat.le_of_ble_eq_true rfl, Nat.le_of_ble_eq_true rfl⟩) (k_preV4 (q0 := 0) hK hPc hDc hN rfl) rfl rfl hl.1 rfl (lv_room (Nat.le_of_ble_eq_true rfl)) dX10_goOn_69 ⟨by decide +kernel, by decide +kernel⟩) hS (fun q _ h => hFc q h) hFc (fun r_15 u₀ t₀ H1 locs ht hvm hw hB hz1 hk1 hS => ?_)
          obtain ⟨hP1, hK1, hD1⟩ := hB
          rw [ht] at hP1
          have hJ := k_jn (wr := [(kX10 aTr aLa aPa aGe gL gR lf rt tgo tca tki tso tbe twe tle x1z11 (x2z11 + 0) x3z11)]) (wt := [(kX10 aTr aLa aPa aGe gL gR lf rt tgo tca tki tso tbe twe tle x1z11 (x2z11 + 0) x3z11), (kX4 aLa vLa l4 a4 n4), (kAI vLa cI 24 f4)]) hP hD hC [0] rfl (by decide +kernel) (by decide +kernel) hk1 hFc hP1 hD1 rfl
          clear hP hD hPc hDc hFc hC hP1 hD1 hK1 hz1 hk1 hvm ht
          obtain ⟨hP, hD⟩ := hJ
          generalize H1 = H at hP hS ⊢
          try dsimp only at hw
          refine k_topi (v := kAt 24 f4 iz11) hw ?_
          refine lv_istore (lv' := [(6, .int (kAt 24 f4 iz11)), (5, .int iz11), (4, .int 0), (0, .ref aTr), (1, .int fr), (2, .int to), (3, .int h1)]) hx₀ hb dX10_goOn_72 hl (by decide) rfl (fun ls hl => ?_)
          refine lv_iload hx₀ hb dX10_goOn_74 (lv_at hl 0 rfl) ?_
          refine lv_bipush (v := 6) hx₀ hb dX10_goOn_76 (by decide +kernel) ?_
          refine lv_icmp_ge (tgt := 116) hx₀ hb dX10_goOn_78 (by decide) (fun c_16 => ?_) (fun c_16 => ?_)
          · refine lv_iload hx₀ hb dX10_goOn_116 (lv_at hl 0 rfl) ?_
            refine lv_bipush (v := 7) hx₀ hb dX10_goOn_118 (by decide +kernel) ?_
            refine lv_icmp_ne (tgt := 133) hx₀ hb dX10_goOn_120 (by decide) (fun c_17 => ?_) (fun c_17 => ?_)
            · refine lv_iinc (v := iz11 + 1) (lv' := [(5, .int (iz11 + 1)), (6, .int (kAt 24 f4 iz11)), (4, .int 0), (0, .ref aTr), (1, .int fr), (2, .int to), (3, .int h1)]) hx₀ hb dX10_goOn_133 hl (k := 1) rfl rfl (by decide) rfl (fun ls hl => ?_)
              refine lv_goto (tgt := 12) hx₀ hb dX10_goOn_136 (by decide) ?_
              exact ihz11 _ (lf_e_goOn_3 fr to iz11 jz11 tca hh0 hiz11_0 hjz11 c_12 c_13) (iz11 + 1) x1z11 (x2z11 + 0) x3z11 _ _ _ (lf_e_goOn_2 fr to iz11 jz11 tca hh0 hiz11_0 hjz11 c_12 c_13) (kGo_o hiz11_1 c_12 (Int32.not_le.mpr c_13) (kCh_n c_1) (Int32.not_lt.mpr c_14) (Int32.not_lt.mpr c_16) c_17) rfl (hP.sub [0, 1, 2] rfl) (hD.sub [0, 1, 2] (by decide +kernel) rfl) hS (lv_sub hl [0, 2, 3, 4, 5, 6] rfl)
            · refine lv_aload_n hx₀ hb dX10_goOn_123 rfl (lv_at hl 3 rfl) ?_
              refine lv_iconst (v := 0) hx₀ hb dX10_goOn_124 (by decide +kernel) ?_
              refine va_put (D := (dC, dI)) (ci := 9) (v := .int 0) (ty := .int) (C := RX10) (T := TX10) (N := 17) hx₀ hb hts inlX10 tyX10 tyX10_ok nmX10 hown hK hP hD hS 0 rfl rfl 14 (by decide) (hts (.fieldLink RX10 103 "BittenStick$Trip" "anger" "I") wd_500) (fun _ h9 => h9) rfl (by decide +kernel) rfl rfl (Nat.le_of_ble_eq_true rfl) dX10_goOn_125 ?_
              clear hP hD hS
              intro H locs hP hD hS
              replace hP := k_w2 (wt := [(kX10 aTr aLa aPa aGe gL gR lf rt tgo tca tki tso tbe twe tle 0 (x2z11 + 0) x3z11), (kX4 aLa vLa l4 a4 n4), (kAI vLa cI 24 f4)]) hP hD rfl
              replace hD := hP.2
              replace hP := hP.1
              refine lv_aload_n hx₀ hb dX10_goOn_128 rfl (lv_at hl 3 rfl) ?_
              refine lv_iconst (v := 0) hx₀ hb dX10_goOn_129 (by decide +kernel) ?_
              refine va_put (D := (dC, dI)) (ci := 9) (v := .int 0) (ty := .int) (C := RX10) (T := TX10) (N := 17) hx₀ hb hts inlX10 tyX10 tyX10_ok nmX10 hown hK hP hD hS 0 rfl rfl 15 (by decide) (hts (.fieldLink RX10 106 "BittenStick$Trip" "cold" "I") wd_501) (fun _ h9 => h9) rfl (by decide +kernel) rfl rfl (Nat.le_of_ble_eq_true rfl) dX10_goOn_130 ?_
              clear hP hD hS
              intro H locs hP hD hS
              replace hP := k_w2 (wt := [(kX10 aTr aLa aPa aGe gL gR lf rt tgo tca tki tso tbe twe tle 0 0 x3z11), (kX4 aLa vLa l4 a4 n4), (kAI vLa cI 24 f4)]) hP hD rfl
              replace hD := hP.2
              replace hP := hP.1
              refine lv_iinc (v := iz11 + 1) (lv' := [(5, .int (iz11 + 1)), (6, .int (kAt 24 f4 iz11)), (4, .int 0), (0, .ref aTr), (1, .int fr), (2, .int to), (3, .int h1)]) hx₀ hb dX10_goOn_133 hl (k := 1) rfl rfl (by decide) rfl (fun ls hl => ?_)
              refine lv_goto (tgt := 12) hx₀ hb dX10_goOn_136 (by decide) ?_
              exact ihz11 _ (lf_e_goOn_3 fr to iz11 jz11 tca hh0 hiz11_0 hjz11 c_12 c_13) (iz11 + 1) (0 : Int32) (0 : Int32) x3z11 _ _ _ (lf_e_goOn_2 fr to iz11 jz11 tca hh0 hiz11_0 hjz11 c_12 c_13) (kGo_i hiz11_1 c_12 (Int32.not_le.mpr c_13) (kCh_n c_1) (Int32.not_lt.mpr c_14) (Int32.not_lt.mpr c_16) c_17) rfl (hP.sub [0, 1, 2] rfl) (hD.sub [0, 1, 2] (by decide +kernel) rfl) hS (lv_sub hl [0, 2, 3, 4, 5, 6] rfl)
          · refine lv_aload_n hx₀ hb dX10_goOn_81 rfl (lv_at hl 3 rfl) ?_
            refine lv_dup hx₀ hb dX10_goOn_82 rfl ?_
            refine va_get (D := (dC, dI)) (ci := 9) (v := .int x1z11) (C := RX10) (T := TX10) (N := 17) hx₀ hb hts inlX10 hown hK hP 0 rfl rfl 14 (by decide) (hts (.fieldLink RX10 103 "BittenStick$Trip" "anger" "I") wd_500) (fun _ h9 => h9) rfl dX10_goOn_83 ?_
            refine lv_aload_n hx₀ hb dX10_goOn_86 rfl (lv_at hl 3 rfl) ?_
            refine lv_iload hx₀ hb dX10_goOn_87 (lv_at hl 0 rfl) ?_
            refine lv_iload_n hx₀ hb dX10_goOn_89 rfl (lv_at hl 6 rfl) ?_
            obtain ⟨hPc, hDc, hFc, hC⟩ := k_cw (wc := [(kX10 aTr aLa aPa aGe gL gR lf rt tgo tca tki tso tbe twe tle x1z11 (x2z11 + 0) x3z11)]) hP hD hS hA [0] (by decide +kernel) rfl
            refine va_calli (va_runV (As := [.int (kAt 24 f4 iz11), .int h1]) (rest := [.int x1z11, .ref aTr]) ⟨hx₀, hb, hml, hown, hts⟩ (j_insult l dC dI cI cJ cQ H.size aTr (kAt 24 f4 iz11) h1 aLa aPa aGe gL gR lf rt tgo tca tki tso tbe twe tle x1z11 (x2z11 + 0) x3z11) (cwV 2 hts (kGV wd_511 wd_508 wd_509 wd_510 wd_30) rfl rfl rfl (by decide +kernel) ⟨Nat.le_of_ble_eq_true rfl, Nat.le_of_ble_eq_true rfl⟩) (k_preV9 (q0 := 0) hK hPc hDc hN rfl) rfl rfl hl.1 rfl (lv_room (Nat.le_of_ble_eq_true rfl)) dX10_goOn_90 ⟨by decide +kernel, by decide +kernel⟩) hS (fun q _ h => hFc q h) hFc (fun r_18 u₀ t₀ H1 locs ht hvm hw hB hz1 hk1 hS => ?_)
            obtain ⟨hP1, hK1, hD1⟩ := hB
            rw [ht] at hP1
            have hJ := k_jn (wr := [(kX4 aLa vLa l4 a4 n4), (kAI vLa cI 24 f4)]) (wt := [(kX4 aLa vLa l4 a4 n4), (kAI vLa cI 24 f4), (kX10 aTr aLa aPa aGe gL gR lf rt tgo tca tki tso tbe twe tle x1z11 (x2z11 + 0) x3z11)]) hP hD hC [1, 2] rfl (by decide +kernel) (by decide +kernel) hk1 hFc hP1 hD1 rfl
            clear hP hD hPc hDc hFc hC hP1 hD1 hK1 hz1 hk1 hvm ht
            obtain ⟨hP, hD⟩ := hJ
            generalize H1 = H at hP hS ⊢
            try dsimp only at hw
            refine k_topi (v := kIns ((tle >>> ((kAt 24 f4 iz11) &&& 31)) &&& 1) tki tso (kAt 24 f4 iz11) h1) hw ?_
            refine lv_iadd hx₀ hb dX10_goOn_93 ?_
            refine va_put (D := (dC, dI)) (ci := 9) (v := .int (x1z11 + (kIns ((tle >>> ((kAt 24 f4 iz11) &&& 31)) &&& 1) tki tso (kAt 24 f4 iz11) h1))) (ty := .int) (C := RX10) (T := TX10) (N := 17) hx₀ hb hts inlX10 tyX10 tyX10_ok nmX10 hown hK hP hD hS 2 rfl rfl 14 (by decide) (hts (.fieldLink RX10 103 "BittenStick$Trip" "anger" "I") wd_500) (fun _ h9 => h9) rfl (by decide +kernel) rfl rfl (Nat.le_of_ble_eq_true rfl) dX10_goOn_94 ?_
            clear hP hD hS
            intro H locs hP hD hS
            replace hP := k_w2 (wt := [(kX4 aLa vLa l4 a4 n4), (kAI vLa cI 24 f4), (kX10 aTr aLa aPa aGe gL gR lf rt tgo tca tki tso tbe twe tle (x1z11 + (kIns ((tle >>> ((kAt 24 f4 iz11) &&& 31)) &&& 1) tki tso (kAt 24 f4 iz11) h1)) (x2z11 + 0) x3z11)]) hP hD rfl
            replace hD := hP.2
            replace hP := hP.1
            refine lv_aload_n hx₀ hb dX10_goOn_97 rfl (lv_at hl 3 rfl) ?_
            refine va_get (D := (dC, dI)) (ci := 9) (v := .int (x1z11 + (kIns ((tle >>> ((kAt 24 f4 iz11) &&& 31)) &&& 1) tki tso (kAt 24 f4 iz11) h1))) (C := RX10) (T := TX10) (N := 17) hx₀ hb hts inlX10 hown hK hP 2 rfl rfl 14 (by decide) (hts (.fieldLink RX10 103 "BittenStick$Trip" "anger" "I") wd_500) (fun _ h9 => h9) rfl dX10_goOn_98 ?_
            refine lv_aload_n hx₀ hb dX10_goOn_101 rfl (lv_at hl 3 rfl) ?_
            refine va_get (D := (dC, dI)) (ci := 9) (v := .int tbe) (C := RX10) (T := TX10) (N := 17) hx₀ hb hts inlX10 hown hK hP 2 rfl rfl 11 (by decide) (hts (.fieldLink RX10 66 "BittenStick$Trip" "bears" "I") wd_457) (fun _ h9 => h9) rfl dX10_goOn_102 ?_
            refine lv_icmp_le (tgt := 133) hx₀ hb dX10_goOn_105 (by decide) (fun c_19 => ?_) (fun c_19 => ?_)
            · refine lv_iinc (v := iz11 + 1) (lv' := [(5, .int (iz11 + 1)), (6, .int (kAt 24 f4 iz11)), (4, .int 0), (0, .ref aTr), (1, .int fr), (2, .int to), (3, .int h1)]) hx₀ hb dX10_goOn_133 hl (k := 1) rfl rfl (by decide) rfl (fun ls hl => ?_)
              refine lv_goto (tgt := 12) hx₀ hb dX10_goOn_136 (by decide) ?_
              exact ihz11 _ (lf_e_goOn_3 fr to iz11 jz11 tca hh0 hiz11_0 hjz11 c_12 c_13) (iz11 + 1) (x1z11 + (kIns ((tle >>> ((kAt 24 f4 iz11) &&& 31)) &&& 1) tki tso (kAt 24 f4 iz11) h1)) (x2z11 + 0) x3z11 _ _ _ (lf_e_goOn_2 fr to iz11 jz11 tca hh0 hiz11_0 hjz11 c_12 c_13) (kGo_t hiz11_1 c_12 (Int32.not_le.mpr c_13) (kCh_n c_1) (Int32.not_lt.mpr c_14) (Int32.not_le.mp c_16) rfl (Int32.not_lt.mpr c_19)) rfl (hP.sub [2, 0, 1] rfl) (hD.sub [2, 0, 1] (by decide +kernel) rfl) hS (lv_sub hl [0, 2, 3, 4, 5, 6] rfl)
            · refine lv_aload_n hx₀ hb dX10_goOn_108 rfl (lv_at hl 3 rfl) ?_
              refine lv_iconst (v := 3) hx₀ hb dX10_goOn_109 (by decide +kernel) ?_
              refine va_put (D := (dC, dI)) (ci := 9) (v := .int 3) (ty := .int) (C := RX10) (T := TX10) (N := 17) hx₀ hb hts inlX10 tyX10 tyX10_ok nmX10 hown hK hP hD hS 2 rfl rfl 16 (by decide) (hts (.fieldLink RX10 109 "BittenStick$Trip" "end" "I") wd_502) (fun _ h9 => h9) rfl (by decide +kernel) rfl rfl (Nat.le_of_ble_eq_true rfl) dX10_goOn_110 ?_
              clear hP hD hS
              intro H locs hP hD hS
              replace hP := k_w2 (wt := [(kX4 aLa vLa l4 a4 n4), (kAI vLa cI 24 f4), (kX10 aTr aLa aPa aGe gL gR lf rt tgo tca tki tso tbe twe tle (x1z11 + (kIns ((tle >>> ((kAt 24 f4 iz11) &&& 31)) &&& 1) tki tso (kAt 24 f4 iz11) h1)) (x2z11 + 0) 3)]) hP hD rfl
              replace hD := hP.2
              replace hP := hP.1
              refine lv_iload hx₀ hb dX10_goOn_113 (lv_at hl 1 rfl) ?_
              obtain ⟨hP9, hD9⟩ := k_c2 (wc := [(kX10 aTr aLa aPa aGe gL gR lf rt tgo tca tki tso tbe twe tle (x1z11 + (kIns ((tle >>> ((kAt 24 f4 iz11) &&& 31)) &&& 1) tki tso (kAt 24 f4 iz11) h1)) (x2z11 + 0) 3), (kX4 aLa vLa l4 a4 n4), (kAI vLa cI 24 f4)]) hP hD [2, 0, 1] (by decide +kernel) rfl
              exact W.iret (v := iz11) hx₀ hb hr (fun t₀ ht hW => ⟨⟨iz11, (k_fn [(x1z11 + (kIns ((tle >>> ((kAt 24 f4 iz11) &&& 31)) &&& 1) tki tso (kAt 24 f4 iz11) h1)), (x2z11 + 0), (3 : Int32)], k_fa [], k_fl [], k_fL [], k_fp []), rfl, ⟨((kGo_f3 hiz11_1 c_12 (Int32.not_le.mpr c_13) (kCh_n c_1) (Int32.not_lt.mpr c_14) (Int32.not_le.mp c_16) rfl (Int32.not_le.mp c_19)).1), ((kGo_f3 hiz11_1 c_12 (Int32.not_le.mpr c_13) (kCh_n c_1) (Int32.not_lt.mpr c_14) (Int32.not_le.mp c_16) rfl (Int32.not_le.mp c_19)).2.1), ((kGo_f3 hiz11_1 c_12 (Int32.not_le.mpr c_13) (kCh_n c_1) (Int32.not_lt.mpr c_14) (Int32.not_le.mp c_16) rfl (Int32.not_le.mp c_19)).2.2.1), ((kGo_f3 hiz11_1 c_12 (Int32.not_le.mpr c_13) (kCh_n c_1) (Int32.not_lt.mpr c_14) (Int32.not_le.mp c_16) rfl (Int32.not_le.mp c_19)).2.2.2)⟩, by rw [ht]; exact hP9, va_K.moved hW.alike hK, hD9⟩, hS.F ht⟩) hS.2.2 dX10_goOn_115
        · refine lv_aload_n hx₀ hb dX10_goOn_55 rfl (lv_at hl 2 rfl) ?_
          refine lv_iconst (v := 2) hx₀ hb dX10_goOn_56 (by decide +kernel) ?_
          refine va_put (D := (dC, dI)) (ci := 9) (v := .int 2) (ty := .int) (C := RX10) (T := TX10) (N := 17) hx₀ hb hts inlX10 tyX10 tyX10_ok nmX10 hown hK hP hD hS 0 rfl rfl 16 (by decide) (hts (.fieldLink RX10 109 "BittenStick$Trip" "end" "I") wd_502) (fun _ h9 => h9) rfl (by decide +kernel) rfl rfl (Nat.le_of_ble_eq_true rfl) dX10_goOn_57 ?_
          clear hP hD hS
          intro H locs hP hD hS
          replace hP := k_w2 (wt := [(kX10 aTr aLa aPa aGe gL gR lf rt tgo tca tki tso tbe twe tle x1z11 (x2z11 + 0) 2), (kX4 aLa vLa l4 a4 n4), (kAI vLa cI 24 f4)]) hP hD rfl
          replace hD := hP.2
          replace hP := hP.1
          refine lv_iload hx₀ hb dX10_goOn_60 (lv_at hl 0 rfl) ?_
          obtain ⟨hP9, hD9⟩ := k_c2 (wc := [(kX10 aTr aLa aPa aGe gL gR lf rt tgo tca tki tso tbe twe tle x1z11 (x2z11 + 0) 2), (kX4 aLa vLa l4 a4 n4), (kAI vLa cI 24 f4)]) hP hD [0, 1, 2] (by decide +kernel) rfl
          exact W.iret (v := iz11) hx₀ hb hr (fun t₀ ht hW => ⟨⟨iz11, (k_fn [x1z11, (x2z11 + 0), (2 : Int32)], k_fa [], k_fl [], k_fL [], k_fp []), rfl, ⟨((kGo_f2 hiz11_1 c_12 (Int32.not_le.mpr c_13) (kCh_n c_1) (Int32.not_le.mp c_14)).1), ((kGo_f2 hiz11_1 c_12 (Int32.not_le.mpr c_13) (kCh_n c_1) (Int32.not_le.mp c_14)).2.1), ((kGo_f2 hiz11_1 c_12 (Int32.not_le.mpr c_13) (kCh_n c_1) (Int32.not_le.mp c_14)).2.2.1), ((kGo_f2 hiz11_1 c_12 (Int32.not_le.mpr c_13) (kCh_n c_1) (Int32.not_le.mp c_14)).2.2.2)⟩, by rw [ht]; exact hP9, va_K.moved hW.alike hK, hD9⟩, hS.F ht⟩) hS.2.2 dX10_goOn_62
      · refine lv_aload_n hx₀ hb dX10_goOn_27 rfl (lv_at hl 2 rfl) ?_
        refine lv_iconst (v := 1) hx₀ hb dX10_goOn_28 (by decide +kernel) ?_
        refine va_put (D := (dC, dI)) (ci := 9) (v := .int 1) (ty := .int) (C := RX10) (T := TX10) (N := 17) hx₀ hb hts inlX10 tyX10 tyX10_ok nmX10 hown hK hP hD hS 0 rfl rfl 16 (by decide) (hts (.fieldLink RX10 109 "BittenStick$Trip" "end" "I") wd_502) (fun _ h9 => h9) rfl (by decide +kernel) rfl rfl (Nat.le_of_ble_eq_true rfl) dX10_goOn_29 ?_
        clear hP hD hS
        intro H locs hP hD hS
        replace hP := k_w2 (wt := [(kX10 aTr aLa aPa aGe gL gR lf rt tgo tca tki tso tbe twe tle x1z11 x2z11 1), (kX4 aLa vLa l4 a4 n4), (kAI vLa cI 24 f4)]) hP hD rfl
        replace hD := hP.2
        replace hP := hP.1
        refine lv_iload hx₀ hb dX10_goOn_32 (lv_at hl 0 rfl) ?_
        obtain ⟨hP9, hD9⟩ := k_c2 (wc := [(kX10 aTr aLa aPa aGe gL gR lf rt tgo tca tki tso tbe twe tle x1z11 x2z11 1), (kX4 aLa vLa l4 a4 n4), (kAI vLa cI 24 f4)]) hP hD [0, 1, 2] (by decide +kernel) rfl
        exact W.iret (v := iz11) hx₀ hb hr (fun t₀ ht hW => ⟨⟨iz11, (k_fn [x1z11, x2z11, (1 : Int32)], k_fa [], k_fl [], k_fL [], k_fp []), rfl, ⟨((kGo_f1 hiz11_1 c_12 (Int32.not_lt.mp c_13)).1), ((kGo_f1 hiz11_1 c_12 (Int32.not_lt.mp c_13)).2.1), ((kGo_f1 hiz11_1 c_12 (Int32.not_lt.mp c_13)).2.2.1), ((kGo_f1 hiz11_1 c_12 (Int32.not_lt.mp c_13)).2.2.2)⟩, by rw [ht]; exact hP9, va_K.moved hW.alike hK, hD9⟩, hS.F ht⟩) hS.2.2 dX10_goOn_34
set_option maxHeartbeats 4000000 in
set_option maxRecDepth 100000 in
theorem j_comesTo (l : Launch) (dC : Nat → ClassId) (dI : Nat → Nat → Nat) (cI cJ cQ : ClassId) (sz : Nat) (aTr : Nat) (h1 : Int32) (aLa : Nat) (aPa : Nat) (aGe : Nat) (gL : Nat) (gR : Nat) (lf : Nat) (rt : Nat) (tgo : Int32) (tca : Int32) (tki : Int32) (tso : Int32) (tbe : Int32) (twe : Int32) (tle : Int32) (tan : Int32) (tco : Int32) (ten : Int32) (vLa : Nat) (l4 : Int32) (a4 : Int32) (n4 : Int32) (f4 : Nat → Int32) (hh0 : 0 ≤ n4 ∧ n4 ≤ 24) : Met l yX10_comesTo (kW yX10_comesTo cX10_comesTo 2 (some .int)) { frames := 2, cells := 0, slots := 0, locals := 49 } (kPre dC dI cI cJ cQ sz [.ref aTr, .int h1] [(kX10 aTr aLa aPa aGe gL gR lf rt tgo tca tki tso tbe twe tle tan tco ten), (kX4 aLa vLa l4 a4 n4), (kAI vLa cI 24 f4)]) (va_Qi (fun (r : Int32) (u : kS) => (r = ((kGo (kAt 24 f4) tca tle tki tso tbe (fun _ => h1)) (kfu n4 (0 : Int32)) (0 : Int32) (0 : Int32) (0 : Int32) (if tgo = 0 then 1 else 0)).1) ∧ ((u.1 0) = ((kGo (kAt 24 f4) tca tle tki tso tbe (fun _ => h1)) (kfu n4 (0 : Int32)) (0 : Int32) (0 : Int32) (0 : Int32) (if tgo = 0 then 1 else 0)).2.1) ∧ ((u.1 1) = ((kGo (kAt 24 f4) tca tle tki tso tbe (fun _ => h1)) (kfu n4 (0 : Int32)) (0 : Int32) (0 : Int32) (0 : Int32) (if tgo = 0 then 1 else 0)).2.2.1) ∧ ((u.1 2) = ((kGo (kAt 24 f4) tca tle tki tso tbe (fun _ => h1)) (kfu n4 (0 : Int32)) (0 : Int32) (0 : Int32) (0 : Int32) (if tgo = 0 then 1 else 0)).2.2.2)) (fun (u : kS) t₀ => kB dC dI cI cJ cQ (va_A [(kX10 aTr aLa aPa aGe gL gR lf rt tgo tca tki tso tbe twe tle tan tco ten), (kX4 aLa vLa l4 a4 n4), (kAI vLa cI 24 f4)] sz) [(kX10 aTr aLa aPa aGe gL gR lf rt tgo tca tki tso tbe twe tle (u.1 0) (u.1 1) (u.1 2)), (kX4 aLa vLa l4 a4 n4), (kAI vLa cI 24 f4)] t₀) (va_A [(kX10 aTr aLa aPa aGe gL gR lf rt tgo tca tki tso tbe twe tle tan tco ten), (kX4 aLa vLa l4 a4 n4), (kAI vLa cI 24 f4)] sz)) 0 0 (va_A [(kX10 aTr aLa aPa aGe gL gR lf rt tgo tca tki tso tbe twe tle tan tco ten), (kX4 aLa vLa l4 a4 n4), (kAI vLa cI 24 f4)] sz) := by
  refine Met.ofW (cc := cX10_comesTo) (maxL := 2) (ret := (some .int)) (by decide) rfl ?_
  intro p₀ e₀ s₀ m₀ args below meth c₀ s₁ B hml hv₀
  obtain ⟨rfl, hsz, hP, hK, hD0, hN⟩ := hv₀
  have hx₀ := B.exec
  have hb := B.bytes
  have hr := B.returns
  have hts := atoms_spec (ws := (kW yX10_comesTo cX10_comesTo 2 (some .int))) B.pre
  have hts := fun w h => hts w (List.mem_cons_of_mem _ h)
  have hown : s₀.vm.findClass RX10 = some m₀.cls := findClass_of_methodNamed B.named
  have hlocks := B.notSynchronized
  subst hsz
  have hD := hD0.self (sz := s₀.heap.size)
  generalize hAe : va_A [(kX10 aTr aLa aPa aGe gL gR lf rt tgo tca tki tso tbe twe tle tan tco ten), (kX4 aLa vLa l4 a4 n4), (kAI vLa cI 24 f4)] s₀.heap.size = A at hD ⊢
  have hA : ∀ q : Nat, s₀.heap.size ≤ q → A q := fun q h => by rw [← hAe]; exact Or.inr h
  have hS : va_S A s₀.heap s₀.heap [] := va_S.rf
  have hP : va_P (dC, dI) vwCl [(kX10 aTr aLa aPa aGe gL gR lf rt tgo tca tki tso tbe twe tle tan tco ten), (kX4 aLa vLa l4 a4 n4), (kAI vLa cI 24 f4)] s₀.heap := hP
  have hl := lv_entry ([.ref aTr, .int h1]) (n := 2) (Nat.le_of_ble_eq_true rfl)
  rw [lg_entry_eq]
  generalize (lg_sl ([.ref aTr, .int h1]) ++ List.replicate (2 - (lg_sl ([.ref aTr, .int h1])).length) Slot.unset).toArray = ls at hl ⊢
  have hl : lv_has ls 2 [(0, .ref aTr), (1, .int h1)] := hl
  obtain ⟨H, hH⟩ : ∃ z : Heap, z = s₀.heap := ⟨_, rfl⟩
  rw [← hH] at hP
  have hS : va_S A s₀.heap H [] := by rw [hH]; exact hS
  refine k_heap hH ?_
  have hD : va_D A [(kX10 aTr aLa aPa aGe gL gR lf rt tgo tca tki tso tbe twe tle tan tco ten), (kX4 aLa vLa l4 a4 n4), (kAI vLa cI 24 f4)] := hD
  obtain ⟨locs, hlo⟩ : ∃ z : List Loc, z = [] := ⟨_, rfl⟩
  rw [← hlo] at hS ⊢
  clear hlo hH hAe hD0
  refine lv_aload_n hx₀ hb dX10_comesTo_0 rfl (lv_at hl 0 rfl) ?_
  obtain ⟨hPc, hDc, hFc, hC⟩ := k_cw (wc := [(kX10 aTr aLa aPa aGe gL gR lf rt tgo tca tki tso tbe twe tle tan tco ten)]) hP hD hS hA [0] (by decide +kernel) rfl
  refine va_callv (va_runV (As := []) (rest := []) ⟨hx₀, hb, hml, hown, hts⟩ (j_tSet l dC dI cI cJ cQ H.size aTr aLa aPa aGe gL gR lf rt tgo tca tki tso tbe twe tle tan tco ten) (cwV 0 hts (kGV wd_499 wd_496 wd_497 wd_498 wd_30) rfl rfl rfl (by decide +kernel) ⟨Nat.le_of_ble_eq_true rfl, Nat.le_of_ble_eq_true rfl⟩) (k_preV9 (q0 := 0) hK hPc hDc hN rfl) rfl rfl hl.1 rfl (lv_room (Nat.le_of_ble_eq_true rfl)) dX10_comesTo_1 ⟨by decide +kernel, by decide +kernel⟩) hS (fun q _ h => hFc q h) hFc (fun u₀ t₀ H1 locs ht hvm hw hB hz1 hk1 hS => ?_)
  obtain ⟨g_2, ga_3, gl_4, gb_5, gp_6⟩ := u₀
  obtain ⟨hP1, hK1, hD1⟩ := hB
  rw [ht] at hP1
  have hJ := k_jn (wr := [(kX4 aLa vLa l4 a4 n4), (kAI vLa cI 24 f4)]) (wt := [(kX4 aLa vLa l4 a4 n4), (kAI vLa cI 24 f4), (kX10 aTr aLa aPa aGe gL gR lf rt tgo tca tki tso tbe twe tle 0 0 (g_2 0))]) hP hD hC [1, 2] rfl (by decide +kernel) (by decide +kernel) hk1 hFc hP1 hD1 rfl
  clear hP hD hPc hDc hFc hC hP1 hD1 hK1 hz1 hk1 hvm ht
  obtain ⟨hP, hD⟩ := hJ
  generalize H1 = H at hP hS ⊢
  try dsimp only at hw
  have c_7 := hw
  rw [c_7] at hP hD
  replace hP := k_w2 (wt := [(kX4 aLa vLa l4 a4 n4), (kAI vLa cI 24 f4), (kX10 aTr aLa aPa aGe gL gR lf rt tgo tca tki tso tbe twe tle 0 0 (if tgo = 0 then 1 else 0))]) hP hD rfl
  replace hD := hP.2
  replace hP := hP.1
  refine lv_aload_n hx₀ hb dX10_comesTo_4 rfl (lv_at hl 0 rfl) ?_
  refine lv_iconst (v := 0) hx₀ hb dX10_comesTo_5 (by decide +kernel) ?_
  refine lv_aload_n hx₀ hb dX10_comesTo_6 rfl (lv_at hl 0 rfl) ?_
  refine va_get (D := (dC, dI)) (ci := 9) (v := .ref aLa) (C := RX10) (T := TX10) (N := 17) hx₀ hb hts inlX10 hown hK hP 2 rfl rfl 0 (by decide) (hts (.fieldLink RX10 27 "BittenStick$Trip" "land" "LBittenStick$Land;") wd_89) (fun _ h9 => h9) rfl dX10_comesTo_7 ?_
  refine va_get (D := (dC, dI)) (ci := 4) (v := .int n4) (C := RX4) (T := TX4) (N := 4) hx₀ hb hts inlX4 hown hK hP 0 rfl rfl 3 (by decide) (hts (.fieldLink RX10 78 "BittenStick$Land" "number" "I") wd_461) (fun x9 h9 => u_same (hts (.sameField "BittenStick$Land" "BittenStick$Text" "number" "I") wd_286) x9 h9) rfl dX10_comesTo_10 ?_
  refine lv_iload_n hx₀ hb dX10_comesTo_13 rfl (lv_at hl 1 rfl) ?_
  obtain ⟨hPc, hDc, hFc, hC⟩ := k_cw (wc := [(kX10 aTr aLa aPa aGe gL gR lf rt tgo tca tki tso tbe twe tle 0 0 (if tgo = 0 then 1 else 0)), (kX4 aLa vLa l4 a4 n4), (kAI vLa cI 24 f4)]) hP hD hS hA [2, 0, 1] (by decide +kernel) rfl
  refine va_calli (va_runV (As := [.int 0, .int n4, .int h1]) (rest := []) ⟨hx₀, hb, hml, hown, hts⟩ (e_goOn l dC dI cI cJ cQ H.size aTr 0 n4 h1 aLa aPa aGe gL gR lf rt tgo tca tki tso tbe twe tle 0 0 (if tgo = 0 then 1 else 0) vLa l4 a4 n4 f4 (hh0.1)) (cwV 3 hts (kGV wd_506 wd_503 wd_504 wd_505 wd_30) rfl rfl rfl (by decide +kernel) ⟨Nat.le_of_ble_eq_true rfl, Nat.le_of_ble_eq_true rfl⟩) (k_preV9 (q0 := 0) hK hPc hDc hN rfl) rfl rfl hl.1 rfl (lv_room (Nat.le_of_ble_eq_true rfl)) dX10_comesTo_14 ⟨by decide +kernel, by decide +kernel⟩) hS (fun q _ h => hFc q h) hFc (fun r_8 u₀ t₀ H1 locs ht hvm hw hB hz1 hk1 hS => ?_)
  obtain ⟨g_9, ga_10, gl_11, gb_12, gp_13⟩ := u₀
  obtain ⟨hP1, hK1, hD1⟩ := hB
  rw [ht] at hP1
  have hJ := k_jn (wr := []) (wt := [(kX10 aTr aLa aPa aGe gL gR lf rt tgo tca tki tso tbe twe tle (g_9 0) (g_9 1) (g_9 2)), (kX4 aLa vLa l4 a4 n4), (kAI vLa cI 24 f4)]) hP hD hC [] rfl (by decide +kernel) (by decide +kernel) hk1 hFc hP1 hD1 rfl
  clear hP hD hPc hDc hFc hC hP1 hD1 hK1 hz1 hk1 hvm ht
  obtain ⟨hP, hD⟩ := hJ
  generalize H1 = H at hP hS ⊢
  try dsimp only at hw
  obtain ⟨c_14, c_15, c_16, c_17⟩ := hw
  obtain ⟨hP9, hD9⟩ := k_c2 (wc := [(kX10 aTr aLa aPa aGe gL gR lf rt tgo tca tki tso tbe twe tle (g_9 0) (g_9 1) (g_9 2)), (kX4 aLa vLa l4 a4 n4), (kAI vLa cI 24 f4)]) hP hD [0, 1, 2] (by decide +kernel) rfl
  exact W.iret (v := r_8) hx₀ hb hr (fun t₀ ht hW => ⟨⟨r_8, (k_fn [(g_9 0), (g_9 1), (g_9 2)], k_fa [], k_fl [], k_fL [], k_fp []), rfl, ⟨c_14, c_15, c_16, c_17⟩, by rw [ht]; exact hP9, va_K.moved hW.alike hK, hD9⟩, hS.F ht⟩) hS.2.2 dX10_comesTo_17
set_option maxHeartbeats 4000000 in
set_option maxRecDepth 100000 in
theorem j_draw (l : Launch) (dC : Nat → ClassId) (dI : Nat → Nat → Nat) (cI cJ cQ : ClassId) (sz : Nat) (aLo : Nat) (m1 : Int32) (sd : Int32) : Met l yX6_draw (kW yX6_draw cX6_draw 2 (some .int)) { frames := 0, cells := 0, slots := 0, locals := 0 } (kPre dC dI cI cJ cQ sz [.ref aLo, .int m1] [(kX6 aLo sd)]) (va_Qi (fun (r : Int32) (u : kS) => True) (fun (u : kS) t₀ => kB dC dI cI cJ cQ (va_A [(kX6 aLo sd)] sz) [(kX6 aLo (u.1 0))] t₀) (va_A [(kX6 aLo sd)] sz)) 0 0 (va_A [(kX6 aLo sd)] sz) := by
  refine Met.ofW (cc := cX6_draw) (maxL := 2) (ret := (some .int)) (by decide) rfl ?_
  intro p₀ e₀ s₀ m₀ args below meth c₀ s₁ B hml hv₀
  obtain ⟨rfl, hsz, hP, hK, hD0, hN⟩ := hv₀
  have hx₀ := B.exec
  have hb := B.bytes
  have hr := B.returns
  have hts := atoms_spec (ws := (kW yX6_draw cX6_draw 2 (some .int))) B.pre
  have hts := fun w h => hts w (List.mem_cons_of_mem _ h)
  have hown : s₀.vm.findClass RX6 = some m₀.cls := findClass_of_methodNamed B.named
  have hlocks := B.notSynchronized
  subst hsz
  have hD := hD0.self (sz := s₀.heap.size)
  generalize hAe : va_A [(kX6 aLo sd)] s₀.heap.size = A at hD ⊢
  have hA : ∀ q : Nat, s₀.heap.size ≤ q → A q := fun q h => by rw [← hAe]; exact Or.inr h
  have hS : va_S A s₀.heap s₀.heap [] := va_S.rf
  have hP : va_P (dC, dI) vwCl [(kX6 aLo sd)] s₀.heap := hP
  have hl := lv_entry ([.ref aLo, .int m1]) (n := 2) (Nat.le_of_ble_eq_true rfl)
  rw [lg_entry_eq]
  generalize (lg_sl ([.ref aLo, .int m1]) ++ List.replicate (2 - (lg_sl ([.ref aLo, .int m1])).length) Slot.unset).toArray = ls at hl ⊢
  have hl : lv_has ls 2 [(0, .ref aLo), (1, .int m1)] := hl
  obtain ⟨H, hH⟩ : ∃ z : Heap, z = s₀.heap := ⟨_, rfl⟩
  rw [← hH] at hP
  have hS : va_S A s₀.heap H [] := by rw [hH]; exact hS
  refine k_heap hH ?_
  have hD : va_D A [(kX6 aLo sd)] := hD
  obtain ⟨locs, hlo⟩ : ∃ z : List Loc, z = [] := ⟨_, rfl⟩
  rw [← hlo] at hS ⊢
  clear hlo hH hAe hD0
  refine lv_aload_n hx₀ hb dX6_draw_0 rfl (lv_at hl 0 rfl) ?_
  refine lv_ldc (v := 1103515245) hx₀ hb hown (hts (.constant RX6 7 (1103515245)) wd_841) dX6_draw_1 ?_
  refine lv_aload_n hx₀ hb dX6_draw_3 rfl (lv_at hl 0 rfl) ?_
  refine va_get (D := (dC, dI)) (ci := 6) (v := .int sd) (C := RX6) (T := TX6) (N := 1) hx₀ hb hts inlX6 hown hK hP 0 rfl rfl 0 (by decide) (hts (.fieldLink RX6 8 "BittenStick$Lots" "seed" "I") wd_842) (fun _ h9 => h9) rfl dX6_draw_4 ?_
  refine lv_imul hx₀ hb dX6_draw_7 ?_
  refine lv_sipush (v := 12345) hx₀ hb dX6_draw_8 (by decide +kernel) ?_
  refine lv_iadd hx₀ hb dX6_draw_11 ?_
  refine va_put (D := (dC, dI)) (ci := 6) (v := .int ((1103515245 * sd) + 12345)) (ty := .int) (C := RX6) (T := TX6) (N := 1) hx₀ hb hts inlX6 tyX6 tyX6_ok nmX6 hown hK hP hD hS 0 rfl rfl 0 (by decide) (hts (.fieldLink RX6 8 "BittenStick$Lots" "seed" "I") wd_842) (fun _ h9 => h9) rfl (by decide +kernel) rfl rfl (Nat.le_of_ble_eq_true rfl) dX6_draw_12 ?_
  clear hP hD hS
  intro H locs hP hD hS
  replace hP := k_w2 (wt := [(kX6 aLo ((1103515245 * sd) + 12345))]) hP hD rfl
  replace hD := hP.2
  replace hP := hP.1
  refine lv_iload_n hx₀ hb dX6_draw_15 rfl (lv_at hl 1 rfl) ?_
  refine lv_if_le (tgt := 31) hx₀ hb dX6_draw_16 (by decide) (fun c_1 => ?_) (fun c_1 => ?_)
  · refine lv_iconst (v := 0) hx₀ hb dX6_draw_31 (by decide +kernel) ?_
    obtain ⟨hP9, hD9⟩ := k_c2 (wc := [(kX6 aLo ((1103515245 * sd) + 12345))]) hP hD [0] (by decide +kernel) rfl
    exact W.iret (v := 0) hx₀ hb hr (fun t₀ ht hW => ⟨⟨0, (k_fn [((1103515245 * sd) + 12345)], k_fa [], k_fl [], k_fL [], k_fp []), rfl, trivial, by rw [ht]; exact hP9, va_K.moved hW.alike hK, hD9⟩, hS.F ht⟩) hS.2.2 dX6_draw_32
  · refine lv_aload_n hx₀ hb dX6_draw_19 rfl (lv_at hl 0 rfl) ?_
    refine va_get (D := (dC, dI)) (ci := 6) (v := .int ((1103515245 * sd) + 12345)) (C := RX6) (T := TX6) (N := 1) hx₀ hb hts inlX6 hown hK hP 0 rfl rfl 0 (by decide) (hts (.fieldLink RX6 8 "BittenStick$Lots" "seed" "I") wd_842) (fun _ h9 => h9) rfl dX6_draw_20 ?_
    refine lv_bipush (v := 16) hx₀ hb dX6_draw_23 (by decide +kernel) ?_
    refine lv_iushr hx₀ hb dX6_draw_25 rfl ?_
    refine lv_iload_n hx₀ hb dX6_draw_26 rfl (lv_at hl 1 rfl) ?_
    refine lv_irem hx₀ hb dX6_draw_27 (show ¬ m1 = 0 from (fun z => c_1 (k_leq z))) ?_
    refine lv_goto (tgt := 32) hx₀ hb dX6_draw_28 (by decide) ?_
    obtain ⟨hP9, hD9⟩ := k_c2 (wc := [(kX6 aLo ((1103515245 * sd) + 12345))]) hP hD [0] (by decide +kernel) rfl
    exact W.iret (v := ((((1103515245 * sd) + 12345).toUInt32 >>> ((16 : Int32).toUInt32 &&& Int32.toUInt32 31)).toInt32) - ((((1103515245 * sd) + 12345).toUInt32 >>> ((16 : Int32).toUInt32 &&& Int32.toUInt32 31)).toInt32) / m1 * m1) hx₀ hb hr (fun t₀ ht hW => ⟨⟨((((1103515245 * sd) + 12345).toUInt32 >>> ((16 : Int32).toUInt32 &&& Int32.toUInt32 31)).toInt32) - ((((1103515245 * sd) + 12345).toUInt32 >>> ((16 : Int32).toUInt32 &&& Int32.toUInt32 31)).toInt32) / m1 * m1, (k_fn [((1103515245 * sd) + 12345)], k_fa [], k_fl [], k_fL [], k_fp []), rfl, trivial, by rw [ht]; exact hP9, va_K.moved hW.alike hK, hD9⟩, hS.F ht⟩) hS.2.2 dX6_draw_32
