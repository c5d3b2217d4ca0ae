theorem lf_j_calm_1 (a0 : Int32) (a1 : Nat) (h0 : 1 ≤ a0 ∧ a0 ≤ 46) (h1 : (46 - a0.toInt).toNat = a1) (h2 : ¬ 46 ≤ a0) : 0 ≤ a0.toInt ∧ a0.toInt < 46 := by
  first | (first | omega | (have hr0 := Int32.toInt_lt a0; have hs0 := Int32.le_toInt a0; simp only [Int64.toInt_add, Int64.toInt_sub, Int32.toInt_add, Int32.toInt_sub, Int32.toInt_mul, Int64.le_iff_toInt_le, Int64.lt_iff_toInt_lt, Int32.le_iff_toInt_le, Int32.lt_iff_toInt_lt, ← Int32.toInt_inj, ← Int64.toInt_inj, Int32.toInt_toInt64, kc_0, kc_1, kc_46, true_and, and_true, not_true_eq_false, not_false_eq_true] at * <;> ((first | omega | ((try simp (disch := omega) only [k_bm64] at *); (try simp (disch := omega) only [k_bm] at *); (try simp (disch := omega) only [k_bm] at *); omega) | (simp only [Int.bmod] at *; omega))))) | with_reducible assumption | rfl
theorem lf_j_calm_2 (a0 : Int32) (a1 : Nat) (h0 : 1 ≤ a0 ∧ a0 ≤ 46) (h1 : (46 - a0.toInt).toNat = a1) (h2 : ¬ 46 ≤ a0) : 1 ≤ (a0 + 1) ∧ (a0 + 1) ≤ 46 := by
  first | (first | omega | (have hr0 := Int32.toInt_lt a0; have hs0 := Int32.le_toInt a0; simp only [Int64.toInt_add, Int64.toInt_sub, Int32.toInt_add, Int32.toInt_sub, Int32.toInt_mul, Int64.le_iff_toInt_le, Int64.lt_iff_toInt_lt, Int32.le_iff_toInt_le, Int32.lt_iff_toInt_lt, ← Int32.toInt_inj, ← Int64.toInt_inj, Int32.toInt_toInt64, kc_1, kc_46, true_and, and_true, not_true_eq_false, not_false_eq_true] at * <;> ((first | omega | ((try simp (disch := omega) only [k_bm64] at *); (try simp (disch := omega) only [k_bm] at *); (try simp (disch := omega) only [k_bm] at *); omega) | (simp only [Int.bmod] at *; omega))))) | with_reducible assumption | rfl
theorem lf_j_calm_3 (a0 : Int32) (a1 : Nat) (h0 : 1 ≤ a0 ∧ a0 ≤ 46) (h1 : (46 - a0.toInt).toNat = a1) (h2 : ¬ 46 ≤ a0) : (46 - (a0 + 1).toInt).toNat < a1 := by
  first | (first | omega | (have hr0 := Int32.toInt_lt a0; have hs0 := Int32.le_toInt a0; simp only [Int64.toInt_add, Int64.toInt_sub, Int32.toInt_add, Int32.toInt_sub, Int32.toInt_mul, Int64.le_iff_toInt_le, Int64.lt_iff_toInt_lt, Int32.le_iff_toInt_le, Int32.lt_iff_toInt_lt, ← Int32.toInt_inj, ← Int64.toInt_inj, Int32.toInt_toInt64, kc_1, kc_46, true_and, and_true, not_true_eq_false, not_false_eq_true] at * <;> ((first | omega | ((try simp (disch := omega) only [k_bm64] at *); (try simp (disch := omega) only [k_bm] at *); (try simp (disch := omega) only [k_bm] at *); omega) | (simp only [Int.bmod] at *; omega))))) | with_reducible assumption | rfl
set_option maxHeartbeats 4000000 in
set_option maxRecDepth 100000 in
theorem j_calm (l : Launch) (dC : Nat → ClassId) (dI : Nat → Nat → Nat) (cI cJ cQ : ClassId) (sz : Nat) (aLu : Nat) (w1 : Int64) (vLu : Nat) (ab : Int64) (be : Int64) (fl : Nat → Int64) : Met l yX5_startCalm (kW yX5_startCalm cX5_startCalm 4 none) { frames := 0, cells := 0, slots := 0, locals := 0 } (kPre dC dI cI cJ cQ sz [.ref aLu, .long w1] [(kX5 aLu vLu ab be), (kAJ vLu cJ 46 fl)]) (va_Qv (fun (u : kS) => True) (fun (u : kS) t₀ => kB dC dI cI cJ cQ (va_A [(kX5 aLu vLu ab be), (kAJ vLu cJ 46 fl)] sz) [(kX5 aLu vLu ab be), (kAJ vLu cJ 46 (u.2.2.2.1 0))] t₀) (va_A [(kX5 aLu vLu ab be), (kAJ vLu cJ 46 fl)] sz)) 0 0 (va_A [(kX5 aLu vLu ab be), (kAJ vLu cJ 46 fl)] sz) := by
  refine Met.ofW (cc := cX5_startCalm) (maxL := 4) (ret := none) (by decide) rfl ?_
  intro p₀ e₀ s₀ m₀ args below meth c₀ s₁ B hml hv₀
  obtain ⟨rfl, hsz, hP, hK, hD0, hN⟩ := hv₀
  have hx₀ := B.exec
  have hb := B.bytes
  have hr := B.returns
  have hts := atoms_spec (ws := (kW yX5_startCalm cX5_startCalm 4 none)) B.pre
  have hts := fun w h => hts w (List.mem_cons_of_mem _ h)
  have hown : s₀.vm.findClass RX5 = some m₀.cls := findClass_of_methodNamed B.named
  have hlocks := B.notSynchronized
  subst hsz
  have hD := hD0.self (sz := s₀.heap.size)
  generalize hAe : va_A [(kX5 aLu vLu ab be), (kAJ vLu cJ 46 fl)] s₀.heap.size = A at hD ⊢
  have hA : ∀ q : Nat, s₀.heap.size ≤ q → A q := fun q h => by rw [← hAe]; exact Or.inr h
  have hS : va_S A s₀.heap s₀.heap [] := va_S.rf
  have hP : va_P (dC, dI) vwCl [(kX5 aLu vLu ab be), (kAJ vLu cJ 46 fl)] s₀.heap := hP
  have hl := lv_entry ([.ref aLu, .long w1]) (n := 4) (Nat.le_of_ble_eq_true rfl)
  rw [lg_entry_eq]
  generalize (lg_sl ([.ref aLu, .long w1]) ++ List.replicate (4 - (lg_sl ([.ref aLu, .long w1])).length) Slot.unset).toArray = ls at hl ⊢
  have hl : lv_has ls 4 [(0, .ref aLu), (1, .long w1)] := hl
  obtain ⟨H, hH⟩ : ∃ z : Heap, z = s₀.heap := ⟨_, rfl⟩
  rw [← hH] at hP
  have hS : va_S A s₀.heap H [] := by rw [hH]; exact hS
  refine k_heap hH ?_
  have hD : va_D A [(kX5 aLu vLu ab be), (kAJ vLu cJ 46 fl)] := hD
  obtain ⟨locs, hlo⟩ : ∃ z : List Loc, z = [] := ⟨_, rfl⟩
  rw [← hlo] at hS ⊢
  clear hlo hH hAe hD0
  refine lv_iconst (v := 1) hx₀ hb dX5_startCalm_0 (by decide +kernel) ?_
  refine lv_istore_n (lv' := [(3, .int 1), (0, .ref aLu), (1, .long w1)]) hx₀ hb dX5_startCalm_1 rfl hl (by decide) rfl (fun ls hl => ?_)
  refine (?keyz1 : ∀ (jz1 : Nat) (iz1 : Int32) (qfz1 : Nat → Int64) (H : Heap) (locs : List Loc) (ls : Array Slot), (1 ≤ iz1 ∧ iz1 ≤ 46) → ((46 - iz1.toInt).toNat = jz1) → va_P (dC, dI) vwCl [(kX5 aLu vLu ab be), (kAJ vLu cJ 46 qfz1)] H → va_D A [(kX5 aLu vLu ab be), (kAJ vLu cJ 46 qfz1)] → va_S A s₀.heap H locs → lv_has ls 4 [(3, .int iz1), (0, .ref aLu), (1, .long w1)] → W p₀ l e₀ _ s₀ m₀ _ below meth c₀ H locs _ _ _ (F0 m₀ 2 ls [])) _ (1 : Int32) _ H locs ls (show 1 ≤ (1 : Int32) ∧ (1 : Int32) ≤ 46 from ⟨(by decide), (by decide)⟩) rfl hP hD hS hl
  clear hP hD hS hl
  intro jz1
  induction jz1 using Nat.strongRecOn with
  | ind jz1 ihz1 =>
    intro iz1 qfz1 H locs ls hiz1_0 hjz1 hP hD hS hl
    refine lv_iload_n hx₀ hb dX5_startCalm_2 rfl (lv_at hl 0 rfl) ?_
    refine lv_aload_n hx₀ hb dX5_startCalm_3 rfl (lv_at hl 1 rfl) ?_
    refine va_get (D := (dC, dI)) (ci := 5) (v := .ref vLu) (C := RX5) (T := TX5) (N := 3) hx₀ hb hts inlX5 hown hK hP 0 rfl rfl 0 (by decide) (hts (.fieldLink RX5 9 "BittenStick$Laughter" "chances" "[J") wd_102) (fun _ h9 => h9) rfl dX5_startCalm_4 ?_
    refine va_alen (v := 46) hx₀ hb hK hP 1 1 rfl rfl rfl dX5_startCalm_7 ?_
    refine lv_icmp_ge (tgt := 24) hx₀ hb dX5_startCalm_8 (by decide) (fun c_2 => ?_) (fun c_2 => ?_)
    · refine lv_aload_n hx₀ hb dX5_startCalm_24 rfl (lv_at hl 1 rfl) ?_
      refine va_get (D := (dC, dI)) (ci := 5) (v := .ref vLu) (C := RX5) (T := TX5) (N := 3) hx₀ hb hts inlX5 hown hK hP 0 rfl rfl 0 (by decide) (hts (.fieldLink RX5 9 "BittenStick$Laughter" "chances" "[J") wd_102) (fun _ h9 => h9) rfl dX5_startCalm_25 ?_
      refine lv_iconst (v := 0) hx₀ hb dX5_startCalm_28 (by decide +kernel) ?_
      refine lv_lload_n hx₀ hb dX5_startCalm_29 rfl (lv_at hl 2 rfl) ?_
      refine va_last hx₀ hb hK hP hD hS 1 1 rfl rfl (by unfold vp_in; decide +kernel) dX5_startCalm_30 ?_
      clear hP hD hS
      intro H locs hP hD hS
      obtain ⟨f_3, hf_3⟩ : ∃ z : Nat → Int64, z = vp_updL qfz1 (0 : Int32).toNatClampNeg w1 := ⟨_, rfl⟩
      replace hP : va_P (dC, dI) vwCl [(kX5 aLu vLu ab be), (kAJ vLu cJ 46 f_3)] H := by rw [hf_3]; exact hP
      replace hD : va_D A [(kX5 aLu vLu ab be), (kAJ vLu cJ 46 f_3)] := by rw [hf_3]; exact hD
      clear hf_3
      obtain ⟨hP9, hD9⟩ := k_c2 (wc := [(kX5 aLu vLu ab be), (kAJ vLu cJ 46 f_3)]) hP hD [0, 1] (by decide +kernel) rfl
      exact W.vret hx₀ hb hr (fun t₀ ht hW => ⟨⟨(k_fn [], k_fa [], k_fl [], k_fL [f_3], k_fp []), rfl, trivial, by rw [ht]; exact hP9, va_K.moved hW.alike hK, hD9⟩, hS.F ht⟩) hS.2.2 dX5_startCalm_31
    · refine lv_aload_n hx₀ hb dX5_startCalm_11 rfl (lv_at hl 1 rfl) ?_
      refine va_get (D := (dC, dI)) (ci := 5) (v := .ref vLu) (C := RX5) (T := TX5) (N := 3) hx₀ hb hts inlX5 hown hK hP 0 rfl rfl 0 (by decide) (hts (.fieldLink RX5 9 "BittenStick$Laughter" "chances" "[J") wd_102) (fun _ h9 => h9) rfl dX5_startCalm_12 ?_
      refine lv_iload_n hx₀ hb dX5_startCalm_15 rfl (lv_at hl 0 rfl) ?_
      refine lv_lconst (v := 0) hx₀ hb dX5_startCalm_16 (by decide +kernel) ?_
      refine va_last hx₀ hb hK hP hD hS 1 1 rfl rfl (vp_in_iff.mpr (lf_j_calm_1 iz1 jz1 hiz1_0 hjz1 c_2)) dX5_startCalm_17 ?_
      clear hP hD hS
      intro H locs hP hD hS
      obtain ⟨f_4, hf_4⟩ : ∃ z : Nat → Int64, z = vp_updL qfz1 iz1.toNatClampNeg 0 := ⟨_, rfl⟩
      replace hP : va_P (dC, dI) vwCl [(kX5 aLu vLu ab be), (kAJ vLu cJ 46 f_4)] H := by rw [hf_4]; exact hP
      replace hD : va_D A [(kX5 aLu vLu ab be), (kAJ vLu cJ 46 f_4)] := by rw [hf_4]; exact hD
      clear hf_4
      refine lv_iinc (v := iz1 + 1) (lv' := [(3, .int (iz1 + 1)), (0, .ref aLu), (1, .long w1)]) hx₀ hb dX5_startCalm_18 hl (k := 0) rfl rfl (by decide) rfl (fun ls hl => ?_)
      refine lv_goto (tgt := 2) hx₀ hb dX5_startCalm_21 (by decide) ?_
      exact ihz1 _ (lf_j_calm_3 iz1 jz1 hiz1_0 hjz1 c_2) (iz1 + 1) f_4 _ _ _ (lf_j_calm_2 iz1 jz1 hiz1_0 hjz1 c_2) rfl (hP.sub [0, 1] rfl) (hD.sub [0, 1] (by decide +kernel) rfl) hS (lv_sub hl [0, 1, 2] rfl)
theorem lf_j_hear_1 (a0 : Int32) (a1 : Int32) (a2 : Nat) (h0 : 0 < a0) (h1 : a1 ≤ 45) (h2 : (a1.toInt + 1).toNat = a2) (h3 : ¬ a1 < 0) (h4 : a1 < a0) : 0 ≤ a1.toInt ∧ a1.toInt < 46 := by
  first | (first | omega | (have hr0 := Int32.toInt_lt a0; have hs0 := Int32.le_toInt a0; have hr1 := Int32.toInt_lt a1; have hs1 := Int32.le_toInt a1; simp only [Int64.toInt_add, Int64.toInt_sub, Int32.toInt_add, Int32.toInt_sub, Int32.toInt_mul, Int64.le_iff_toInt_le, Int64.lt_iff_toInt_lt, Int32.le_iff_toInt_le, Int32.lt_iff_toInt_lt, ← Int32.toInt_inj, ← Int64.toInt_inj, Int32.toInt_toInt64, kc_0, kc_1, kc_45, kc_46, true_and, and_true, not_true_eq_false, not_false_eq_true] at * <;> ((first | omega | ((try simp (disch := omega) only [k_bm64] at *); (try simp (disch := omega) only [k_bm] at *); (try simp (disch := omega) only [k_bm] at *); omega) | (simp only [Int.bmod] at *; omega))))) | with_reducible assumption | rfl
theorem lf_j_hear_2 (a0 : Int32) (a1 : Int32) (a2 : Nat) (h0 : 0 < a0) (h1 : a1 ≤ 45) (h2 : (a1.toInt + 1).toNat = a2) (h3 : ¬ a1 < 0) (h4 : a1 < a0) : (a1 + (-1)) ≤ 45 := by
  first | (first | omega | (have hr0 := Int32.toInt_lt a0; have hs0 := Int32.le_toInt a0; have hr1 := Int32.toInt_lt a1; have hs1 := Int32.le_toInt a1; simp only [Int64.toInt_add, Int64.toInt_sub, Int32.toInt_add, Int32.toInt_sub, Int32.toInt_mul, Int64.le_iff_toInt_le, Int64.lt_iff_toInt_lt, Int32.le_iff_toInt_le, Int32.lt_iff_toInt_lt, ← Int32.toInt_inj, ← Int64.toInt_inj, Int32.toInt_toInt64, kc_m1, kc_0, kc_1, kc_45, true_and, and_true, not_true_eq_false, not_false_eq_true] at * <;> ((first | omega | ((try simp (disch := omega) only [k_bm64] at *); (try simp (disch := omega) only [k_bm] at *); (try simp (disch := omega) only [k_bm] at *); omega) | (simp only [Int.bmod] at *; omega))))) | with_reducible assumption | rfl
theorem lf_j_hear_3 (a0 : Int32) (a1 : Int32) (a2 : Nat) (h0 : 0 < a0) (h1 : a1 ≤ 45) (h2 : (a1.toInt + 1).toNat = a2) (h3 : ¬ a1 < 0) (h4 : a1 < a0) : ((a1 + (-1)).toInt + 1).toNat < a2 := by
  first | (first | omega | (have hr0 := Int32.toInt_lt a0; have hs0 := Int32.le_toInt a0; have hr1 := Int32.toInt_lt a1; have hs1 := Int32.le_toInt a1; simp only [Int64.toInt_add, Int64.toInt_sub, Int32.toInt_add, Int32.toInt_sub, Int32.toInt_mul, Int64.le_iff_toInt_le, Int64.lt_iff_toInt_lt, Int32.le_iff_toInt_le, Int32.lt_iff_toInt_lt, ← Int32.toInt_inj, ← Int64.toInt_inj, Int32.toInt_toInt64, kc_m1, kc_0, kc_1, kc_45, true_and, and_true, not_true_eq_false, not_false_eq_true] at * <;> ((first | omega | ((try simp (disch := omega) only [k_bm64] at *); (try simp (disch := omega) only [k_bm] at *); (try simp (disch := omega) only [k_bm] at *); omega) | (simp only [Int.bmod] at *; omega))))) | with_reducible assumption | rfl
theorem lf_j_hear_4 (a0 : Int32) (a1 : Int32) (a2 : Nat) (h0 : 0 < a0) (h1 : a1 ≤ 45) (h2 : (a1.toInt + 1).toNat = a2) (h3 : ¬ a1 < 0) (h4 : ¬ a1 < a0) : 0 ≤ (a1 - a0).toInt ∧ (a1 - a0).toInt < 46 := by
  first | (first | omega | (have hr0 := Int32.toInt_lt a0; have hs0 := Int32.le_toInt a0; have hr1 := Int32.toInt_lt a1; have hs1 := Int32.le_toInt a1; simp only [Int64.toInt_add, Int64.toInt_sub, Int32.toInt_add, Int32.toInt_sub, Int32.toInt_mul, Int64.le_iff_toInt_le, Int64.lt_iff_toInt_lt, Int32.le_iff_toInt_le, Int32.lt_iff_toInt_lt, ← Int32.toInt_inj, ← Int64.toInt_inj, Int32.toInt_toInt64, kc_0, kc_1, kc_45, kc_46, true_and, and_true, not_true_eq_false, not_false_eq_true] at * <;> ((first | omega | ((try simp (disch := omega) only [k_bm64] at *); (try simp (disch := omega) only [k_bm] at *); (try simp (disch := omega) only [k_bm] at *); omega) | (simp only [Int.bmod] at *; omega))))) | with_reducible assumption | rfl
theorem lf_j_hear_5 (a0 : Int32) (a1 : Int32) (a2 : Nat) (h0 : 0 < a0) (h1 : a1 ≤ 45) (h2 : (a1.toInt + 1).toNat = a2) (h3 : ¬ a1 < 0) (h4 : ¬ a1 < a0) : 0 ≤ a1.toInt ∧ a1.toInt < 46 := by
  first | (first | omega | (have hr0 := Int32.toInt_lt a0; have hs0 := Int32.le_toInt a0; have hr1 := Int32.toInt_lt a1; have hs1 := Int32.le_toInt a1; simp only [Int64.toInt_add, Int64.toInt_sub, Int32.toInt_add, Int32.toInt_sub, Int32.toInt_mul, Int64.le_iff_toInt_le, Int64.lt_iff_toInt_lt, Int32.le_iff_toInt_le, Int32.lt_iff_toInt_lt, ← Int32.toInt_inj, ← Int64.toInt_inj, Int32.toInt_toInt64, kc_0, kc_1, kc_45, kc_46, true_and, and_true, not_true_eq_false, not_false_eq_true] at * <;> ((first | omega | ((try simp (disch := omega) only [k_bm64] at *); (try simp (disch := omega) only [k_bm] at *); (try simp (disch := omega) only [k_bm] at *); omega) | (simp only [Int.bmod] at *; omega))))) | with_reducible assumption | rfl
theorem lf_j_hear_6 (a0 : Int32) (a1 : Int32) (a2 : Nat) (h0 : 0 < a0) (h1 : a1 ≤ 45) (h2 : (a1.toInt + 1).toNat = a2) (h3 : ¬ a1 < 0) (h4 : ¬ a1 < a0) : (a1 + (-1)) ≤ 45 := by
  first | (first | omega | (have hr0 := Int32.toInt_lt a0; have hs0 := Int32.le_toInt a0; have hr1 := Int32.toInt_lt a1; have hs1 := Int32.le_toInt a1; simp only [Int64.toInt_add, Int64.toInt_sub, Int32.toInt_add, Int32.toInt_sub, Int32.toInt_mul, Int64.le_iff_toInt_le, Int64.lt_iff_toInt_lt, Int32.le_iff_toInt_le, Int32.lt_iff_toInt_lt, ← Int32.toInt_inj, ← Int64.toInt_inj, Int32.toInt_toInt64, kc_m1, kc_0, kc_1, kc_45, true_and, and_true, not_true_eq_false, not_false_eq_true] at * <;> ((first | omega | ((try simp (disch := omega) only [k_bm64] at *); (try simp (disch := omega) only [k_bm] at *); (try simp (disch := omega) only [k_bm] at *); omega) | (simp only [Int.bmod] at *; omega))))) | with_reducible assumption | rfl
theorem lf_j_hear_7 (a0 : Int32) (a1 : Int32) (a2 : Nat) (h0 : 0 < a0) (h1 : a1 ≤ 45) (h2 : (a1.toInt + 1).toNat = a2) (h3 : ¬ a1 < 0) (h4 : ¬ a1 < a0) : ((a1 + (-1)).toInt + 1).toNat < a2 := by
  first | (first | omega | (have hr0 := Int32.toInt_lt a0; have hs0 := Int32.le_toInt a0; have hr1 := Int32.toInt_lt a1; have hs1 := Int32.le_toInt a1; simp only [Int64.toInt_add, Int64.toInt_sub, Int32.toInt_add, Int32.toInt_sub, Int32.toInt_mul, Int64.le_iff_toInt_le, Int64.lt_iff_toInt_lt, Int32.le_iff_toInt_le, Int32.lt_iff_toInt_lt, ← Int32.toInt_inj, ← Int64.toInt_inj, Int32.toInt_toInt64, kc_m1, kc_0, kc_1, kc_45, true_and, and_true, not_true_eq_false, not_false_eq_true] at * <;> ((first | omega | ((try simp (disch := omega) only [k_bm64] at *); (try simp (disch := omega) only [k_bm] at *); (try simp (disch := omega) only [k_bm] at *); omega) | (simp only [Int.bmod] at *; omega))))) | with_reducible assumption | rfl
set_option maxHeartbeats 4000000 in
set_option maxRecDepth 100000 in
theorem j_hear (l : Launch) (dC : Nat → ClassId) (dI : Nat → Nat → Nat) (cI cJ cQ : ClassId) (sz : Nat) (aLu : Nat) (c1 : Int32) (in1 : Int32) (br : Int32) (vLu : Nat) (ab : Int64) (be : Int64) (fl : Nat → Int64) : Met l yX5_hear (kW yX5_hear cX5_hear 7 none) { frames := 1, cells := 0, slots := 0, locals := 21 } (kPre dC dI cI cJ cQ sz [.ref aLu, .int c1, .int in1, .int br] [(kX5 aLu vLu ab be), (kAJ vLu cJ 46 fl)]) (va_Qv (fun (u : kS) => True) (fun (u : kS) t₀ => kB dC dI cI cJ cQ (va_A [(kX5 aLu vLu ab be), (kAJ vLu cJ 46 fl)] sz) [(kX5 aLu vLu ab (u.2.2.1 0)), (kAJ vLu cJ 46 (u.2.2.2.1 0))] t₀) (va_A [(kX5 aLu vLu ab be), (kAJ vLu cJ 46 fl)] sz)) 0 0 (va_A [(kX5 aLu vLu ab be), (kAJ vLu cJ 46 fl)] sz) := by
  refine Met.ofW (cc := cX5_hear) (maxL := 7) (ret := none) (by decide) rfl ?_
  intro p₀ e₀ s₀ m₀ args below meth c₀ s₁ B hml hv₀
  obtain ⟨rfl, hsz, hP, hK, hD0, hN⟩ := hv₀
  have hx₀ := B.exec
  have hb := B.bytes
  have hr := B.returns
  have hts := atoms_spec (ws := (kW yX5_hear cX5_hear 7 none)) B.pre
  have hts := fun w h => hts w (List.mem_cons_of_mem _ h)
  have hown : s₀.vm.findClass RX5 = some m₀.cls := findClass_of_methodNamed B.named
  have hlocks := B.notSynchronized
  subst hsz
  have hD := hD0.self (sz := s₀.heap.size)
  generalize hAe : va_A [(kX5 aLu vLu ab be), (kAJ vLu cJ 46 fl)] s₀.heap.size = A at hD ⊢
  have hA : ∀ q : Nat, s₀.heap.size ≤ q → A q := fun q h => by rw [← hAe]; exact Or.inr h
  have hS : va_S A s₀.heap s₀.heap [] := va_S.rf
  have hP : va_P (dC, dI) vwCl [(kX5 aLu vLu ab be), (kAJ vLu cJ 46 fl)] s₀.heap := hP
  have hl := lv_entry ([.ref aLu, .int c1, .int in1, .int br]) (n := 7) (Nat.le_of_ble_eq_true rfl)
  rw [lg_entry_eq]
  generalize (lg_sl ([.ref aLu, .int c1, .int in1, .int br]) ++ List.replicate (7 - (lg_sl ([.ref aLu, .int c1, .int in1, .int br])).length) Slot.unset).toArray = ls at hl ⊢
  have hl : lv_has ls 7 [(0, .ref aLu), (1, .int c1), (2, .int in1), (3, .int br)] := hl
  obtain ⟨H, hH⟩ : ∃ z : Heap, z = s₀.heap := ⟨_, rfl⟩
  rw [← hH] at hP
  have hS : va_S A s₀.heap H [] := by rw [hH]; exact hS
  refine k_heap hH ?_
  have hD : va_D A [(kX5 aLu vLu ab be), (kAJ vLu cJ 46 fl)] := hD
  obtain ⟨locs, hlo⟩ : ∃ z : List Loc, z = [] := ⟨_, rfl⟩
  rw [← hlo] at hS ⊢
  clear hlo hH hAe hD0
  refine lv_iload_n hx₀ hb dX5_hear_0 rfl (lv_at hl 2 rfl) ?_
  refine lv_if_gt (tgt := 5) hx₀ hb dX5_hear_1 (by decide) (fun c_1 => ?_) (fun c_1 => ?_)
  · refine lv_aload_n hx₀ hb dX5_hear_5 rfl (lv_at hl 0 rfl) ?_
    refine lv_dup hx₀ hb dX5_hear_6 rfl ?_
    refine va_get (D := (dC, dI)) (ci := 5) (v := .long be) (C := RX5) (T := TX5) (N := 3) hx₀ hb hts inlX5 hown hK hP 0 rfl rfl 2 (by decide) (hts (.fieldLink RX5 19 "BittenStick$Laughter" "below" "J") wd_778) (fun _ h9 => h9) rfl dX5_hear_7 ?_
    refine lv_ldc2 (v := 16) hx₀ hb hown (hts (.constantLong RX5 72 (16)) wd_799) dX5_hear_10 ?_
    refine lv_lmul hx₀ hb dX5_hear_13 ?_
    refine va_put (D := (dC, dI)) (ci := 5) (v := .long (be * 16)) (ty := .long) (C := RX5) (T := TX5) (N := 3) hx₀ hb hts inlX5 tyX5 tyX5_ok nmX5 hown hK hP hD hS 0 rfl rfl 2 (by decide) (hts (.fieldLink RX5 19 "BittenStick$Laughter" "below" "J") wd_778) (fun _ h9 => h9) rfl (by decide +kernel) rfl rfl (Nat.le_of_ble_eq_true rfl) dX5_hear_14 ?_
    clear hP hD hS
    intro H locs hP hD hS
    replace hP := k_w2 (wt := [(kX5 aLu vLu ab (be * 16)), (kAJ vLu cJ 46 fl)]) hP hD rfl
    replace hD := hP.2
    replace hP := hP.1
    refine lv_iload_n hx₀ hb dX5_hear_17 rfl (lv_at hl 3 rfl) ?_
    refine lv_bipush (v := 45) hx₀ hb dX5_hear_18 (by decide +kernel) ?_
    refine va_mmin hx₀ hb (by rw [hml]; exact hl.1.symm) hown (hts (.methodLink RX5 74 Lib.Math.min.name) wd_800) (hts (.static Lib.Math.min.name) wd_219) (hts (.initialized "java/lang/Math") wd_63) (hts (.code Lib.Math.min.name Lib.Math.min.code 2 (some .int)) wd_220) (by decide) (Nat.le_of_ble_eq_true rfl) (by decide) (by decide) dX5_hear_20 ?_
    by_cases c_2 : (45 : Int32) < br
    · refine k_topi (v := 45) (if_pos c_2) ?_
      refine lv_istore (lv' := [(4, .int 45), (0, .ref aLu), (1, .int c1), (2, .int in1), (3, .int br)]) hx₀ hb dX5_hear_23 hl (by decide) rfl (fun ls hl => ?_)
      refine (?keyz3 : ∀ (jz3 : Nat) (gz3 : Int32) (qfz3 : Nat → Int64) (H : Heap) (locs : List Loc) (ls : Array Slot), (gz3 ≤ 45) → ((gz3.toInt + 1).toNat = jz3) → va_P (dC, dI) vwCl [(kX5 aLu vLu ab (be * 16)), (kAJ vLu cJ 46 qfz3)] H → va_D A [(kX5 aLu vLu ab (be * 16)), (kAJ vLu cJ 46 qfz3)] → va_S A s₀.heap H locs → lv_has ls 7 [(4, .int gz3), (0, .ref aLu), (1, .int c1), (2, .int in1), (3, .int br)] → W p₀ l e₀ _ s₀ m₀ _ below meth c₀ H locs _ _ _ (F0 m₀ 25 ls [])) _ (45 : Int32) _ H locs ls (show (45 : Int32) ≤ 45 from (by decide)) rfl hP hD hS hl
      clear hP hD hS hl
      intro jz3
      induction jz3 using Nat.strongRecOn with
      | ind jz3 ihz3 =>
        intro gz3 qfz3 H locs ls hiz3_0 hjz3 hP hD hS hl
        refine lv_iload hx₀ hb dX5_hear_25 (lv_at hl 0 rfl) ?_
        refine lv_if_lt (tgt := 83) hx₀ hb dX5_hear_27 (by decide) (fun c_4 => ?_) (fun c_4 => ?_)
        · obtain ⟨hP9, hD9⟩ := k_c2 (wc := [(kX5 aLu vLu ab (be * 16)), (kAJ vLu cJ 46 qfz3)]) hP hD [0, 1] (by decide +kernel) rfl
          exact W.vret hx₀ hb hr (fun t₀ ht hW => ⟨⟨(k_fn [], k_fa [], k_fl [(be * 16)], k_fL [qfz3], k_fp []), rfl, trivial, by rw [ht]; exact hP9, va_K.moved hW.alike hK, hD9⟩, hS.F ht⟩) hS.2.2 dX5_hear_83
        · refine lv_iload hx₀ hb dX5_hear_30 (lv_at hl 0 rfl) ?_
          refine lv_iload_n hx₀ hb dX5_hear_32 rfl (lv_at hl 3 rfl) ?_
          refine lv_icmp_lt (tgt := 51) hx₀ hb dX5_hear_33 (by decide) (fun c_5 => ?_) (fun c_5 => ?_)
          · refine lv_lconst (v := 0) hx₀ hb dX5_hear_51 (by decide +kernel) ?_
            refine lv_lstore (lv' := [(5, .long 0), (4, .int gz3), (0, .ref aLu), (1, .int c1), (2, .int in1), (3, .int br)]) hx₀ hb dX5_hear_52 hl (by decide) rfl (fun ls hl => ?_)
            refine lv_aload_n hx₀ hb dX5_hear_54 rfl (lv_at hl 2 rfl) ?_
            refine va_get (D := (dC, dI)) (ci := 5) (v := .ref vLu) (C := RX5) (T := TX5) (N := 3) hx₀ hb hts inlX5 hown hK hP 0 rfl rfl 0 (by decide) (hts (.fieldLink RX5 9 "BittenStick$Laughter" "chances" "[J") wd_102) (fun _ h9 => h9) rfl dX5_hear_55 ?_
            refine lv_iload hx₀ hb dX5_hear_58 (lv_at hl 1 rfl) ?_
            refine lv_aload_n hx₀ hb dX5_hear_60 rfl (lv_at hl 2 rfl) ?_
            refine va_get (D := (dC, dI)) (ci := 5) (v := .ref vLu) (C := RX5) (T := TX5) (N := 3) hx₀ hb hts inlX5 hown hK hP 0 rfl rfl 0 (by decide) (hts (.fieldLink RX5 9 "BittenStick$Laughter" "chances" "[J") wd_102) (fun _ h9 => h9) rfl dX5_hear_61 ?_
            refine lv_iload hx₀ hb dX5_hear_64 (lv_at hl 1 rfl) ?_
            refine va_lald hx₀ hb hK hP 1 1 rfl rfl (vp_in_iff.mpr (lf_j_hear_1 in1 gz3 jz3 c_1 hiz3_0 hjz3 c_4 c_5)) dX5_hear_66 ?_
            refine lv_topl (fun y_6 ey_6 => ?_)
            refine lv_bipush (v := 16) hx₀ hb dX5_hear_67 (by decide +kernel) ?_
            refine lv_iload_n hx₀ hb dX5_hear_69 rfl (lv_at hl 3 rfl) ?_
            refine lv_isub hx₀ hb dX5_hear_70 ?_
            refine lv_i2l hx₀ hb dX5_hear_71 rfl ?_
            refine lv_lmul hx₀ hb dX5_hear_72 ?_
            refine lv_lload hx₀ hb dX5_hear_73 (lv_at hl 0 rfl) ?_
            refine lv_ladd hx₀ hb dX5_hear_75 ?_
            refine va_last hx₀ hb hK hP hD hS 1 1 rfl rfl (vp_in_iff.mpr (lf_j_hear_1 in1 gz3 jz3 c_1 hiz3_0 hjz3 c_4 c_5)) dX5_hear_76 ?_
            clear hP hD hS
            intro H locs hP hD hS
            obtain ⟨f_7, hf_7⟩ : ∃ z : Nat → Int64, z = vp_updL qfz3 gz3.toNatClampNeg ((y_6 * ((16 - c1).toInt64)) + 0) := ⟨_, rfl⟩
            replace hP : va_P (dC, dI) vwCl [(kX5 aLu vLu ab (be * 16)), (kAJ vLu cJ 46 f_7)] H := by rw [hf_7]; exact hP
            replace hD : va_D A [(kX5 aLu vLu ab (be * 16)), (kAJ vLu cJ 46 f_7)] := by rw [hf_7]; exact hD
            clear hf_7
            refine lv_iinc (v := gz3 + (-1)) (lv' := [(4, .int (gz3 + (-1))), (5, .long 0), (0, .ref aLu), (1, .int c1), (2, .int in1), (3, .int br)]) hx₀ hb dX5_hear_77 hl (k := 1) rfl rfl (by decide) rfl (fun ls hl => ?_)
            refine lv_goto (tgt := 25) hx₀ hb dX5_hear_80 (by decide) ?_
            exact ihz3 _ (lf_j_hear_3 in1 gz3 jz3 c_1 hiz3_0 hjz3 c_4 c_5) (gz3 + (-1)) f_7 _ _ _ (lf_j_hear_2 in1 gz3 jz3 c_1 hiz3_0 hjz3 c_4 c_5) rfl (hP.sub [0, 1] rfl) (hD.sub [0, 1] (by decide +kernel) rfl) hS (lv_sub hl [0, 2, 3, 4, 5] rfl)
          · refine lv_aload_n hx₀ hb dX5_hear_36 rfl (lv_at hl 1 rfl) ?_
            refine va_get (D := (dC, dI)) (ci := 5) (v := .ref vLu) (C := RX5) (T := TX5) (N := 3) hx₀ hb hts inlX5 hown hK hP 0 rfl rfl 0 (by decide) (hts (.fieldLink RX5 9 "BittenStick$Laughter" "chances" "[J") wd_102) (fun _ h9 => h9) rfl dX5_hear_37 ?_
            refine lv_iload hx₀ hb dX5_hear_40 (lv_at hl 0 rfl) ?_
            refine lv_iload_n hx₀ hb dX5_hear_42 rfl (lv_at hl 3 rfl) ?_
            refine lv_isub hx₀ hb dX5_hear_43 ?_
            refine va_lald hx₀ hb hK hP 1 1 rfl rfl (vp_in_iff.mpr (lf_j_hear_4 in1 gz3 jz3 c_1 hiz3_0 hjz3 c_4 c_5)) dX5_hear_44 ?_
            refine lv_topl (fun y_8 ey_8 => ?_)
            refine lv_iload_n hx₀ hb dX5_hear_45 rfl (lv_at hl 2 rfl) ?_
            refine lv_i2l hx₀ hb dX5_hear_46 rfl ?_
            refine lv_lmul hx₀ hb dX5_hear_47 ?_
            refine lv_goto (tgt := 52) hx₀ hb dX5_hear_48 (by decide) ?_
            refine lv_lstore (lv' := [(5, .long (y_8 * c1.toInt64)), (4, .int gz3), (0, .ref aLu), (1, .int c1), (2, .int in1), (3, .int br)]) hx₀ hb dX5_hear_52 hl (by decide) rfl (fun ls hl => ?_)
            refine lv_aload_n hx₀ hb dX5_hear_54 rfl (lv_at hl 2 rfl) ?_
            refine va_get (D := (dC, dI)) (ci := 5) (v := .ref vLu) (C := RX5) (T := TX5) (N := 3) hx₀ hb hts inlX5 hown hK hP 0 rfl rfl 0 (by decide) (hts (.fieldLink RX5 9 "BittenStick$Laughter" "chances" "[J") wd_102) (fun _ h9 => h9) rfl dX5_hear_55 ?_
            refine lv_iload hx₀ hb dX5_hear_58 (lv_at hl 1 rfl) ?_
            refine lv_aload_n hx₀ hb dX5_hear_60 rfl (lv_at hl 2 rfl) ?_
            refine va_get (D := (dC, dI)) (ci := 5) (v := .ref vLu) (C := RX5) (T := TX5) (N := 3) hx₀ hb hts inlX5 hown hK hP 0 rfl rfl 0 (by decide) (hts (.fieldLink RX5 9 "BittenStick$Laughter" "chances" "[J") wd_102) (fun _ h9 => h9) rfl dX5_hear_61 ?_
            refine lv_iload hx₀ hb dX5_hear_64 (lv_at hl 1 rfl) ?_
            refine va_lald hx₀ hb hK hP 1 1 rfl rfl (vp_in_iff.mpr (lf_j_hear_5 in1 gz3 jz3 c_1 hiz3_0 hjz3 c_4 c_5)) dX5_hear_66 ?_
            refine lv_topl (fun y_9 ey_9 => ?_)
            refine lv_bipush (v := 16) hx₀ hb dX5_hear_67 (by decide +kernel) ?_
            refine lv_iload_n hx₀ hb dX5_hear_69 rfl (lv_at hl 3 rfl) ?_
            refine lv_isub hx₀ hb dX5_hear_70 ?_
            refine lv_i2l hx₀ hb dX5_hear_71 rfl ?_
            refine lv_lmul hx₀ hb dX5_hear_72 ?_
            refine lv_lload hx₀ hb dX5_hear_73 (lv_at hl 0 rfl) ?_
            refine lv_ladd hx₀ hb dX5_hear_75 ?_
            refine va_last hx₀ hb hK hP hD hS 1 1 rfl rfl (vp_in_iff.mpr (lf_j_hear_5 in1 gz3 jz3 c_1 hiz3_0 hjz3 c_4 c_5)) dX5_hear_76 ?_
            clear hP hD hS
            intro H locs hP hD hS
            obtain ⟨f_10, hf_10⟩ : ∃ z : Nat → Int64, z = vp_updL qfz3 gz3.toNatClampNeg ((y_9 * ((16 - c1).toInt64)) + (y_8 * c1.toInt64)) := ⟨_, rfl⟩
            replace hP : va_P (dC, dI) vwCl [(kX5 aLu vLu ab (be * 16)), (kAJ vLu cJ 46 f_10)] H := by rw [hf_10]; exact hP
            replace hD : va_D A [(kX5 aLu vLu ab (be * 16)), (kAJ vLu cJ 46 f_10)] := by rw [hf_10]; exact hD
            clear hf_10
            refine lv_iinc (v := gz3 + (-1)) (lv' := [(4, .int (gz3 + (-1))), (5, .long (y_8 * c1.toInt64)), (0, .ref aLu), (1, .int c1), (2, .int in1), (3, .int br)]) hx₀ hb dX5_hear_77 hl (k := 1) rfl rfl (by decide) rfl (fun ls hl => ?_)
            refine lv_goto (tgt := 25) hx₀ hb dX5_hear_80 (by decide) ?_
            exact ihz3 _ (lf_j_hear_7 in1 gz3 jz3 c_1 hiz3_0 hjz3 c_4 c_5) (gz3 + (-1)) f_10 _ _ _ (lf_j_hear_6 in1 gz3 jz3 c_1 hiz3_0 hjz3 c_4 c_5) rfl (hP.sub [0, 1] rfl) (hD.sub [0, 1] (by decide +kernel) rfl) hS (lv_sub hl [0, 2, 3, 4, 5] rfl)
    refine k_topi (v := br) (if_neg c_2) ?_
    refine lv_istore (lv' := [(4, .int br), (0, .ref aLu), (1, .int c1), (2, .int in1), (3, .int br)]) hx₀ hb dX5_hear_23 hl (by decide) rfl (fun ls hl => ?_)
    refine (?keyz11 : ∀ (jz11 : Nat) (gz11 : Int32) (qfz11 : Nat → Int64) (H : Heap) (locs : List Loc) (ls : Array Slot), (gz11 ≤ 45) → ((gz11.toInt + 1).toNat = jz11) → va_P (dC, dI) vwCl [(kX5 aLu vLu ab (be * 16)), (kAJ vLu cJ 46 qfz11)] H → va_D A [(kX5 aLu vLu ab (be * 16)), (kAJ vLu cJ 46 qfz11)] → va_S A s₀.heap H locs → lv_has ls 7 [(4, .int gz11), (0, .ref aLu), (1, .int c1), (2, .int in1), (3, .int br)] → W p₀ l e₀ _ s₀ m₀ _ below meth c₀ H locs _ _ _ (F0 m₀ 25 ls [])) _ br _ H locs ls (show br ≤ 45 from (Int32.not_lt.mp c_2)) rfl hP hD hS hl
    clear hP hD hS hl
    intro jz11
    induction jz11 using Nat.strongRecOn with
    | ind jz11 ihz11 =>
      intro gz11 qfz11 H locs ls hiz11_0 hjz11 hP hD hS hl
      refine lv_iload hx₀ hb dX5_hear_25 (lv_at hl 0 rfl) ?_
      refine lv_if_lt (tgt := 83) hx₀ hb dX5_hear_27 (by decide) (fun c_12 => ?_) (fun c_12 => ?_)
      · obtain ⟨hP9, hD9⟩ := k_c2 (wc := [(kX5 aLu vLu ab (be * 16)), (kAJ vLu cJ 46 qfz11)]) hP hD [0, 1] (by decide +kernel) rfl
        exact W.vret hx₀ hb hr (fun t₀ ht hW => ⟨⟨(k_fn [], k_fa [], k_fl [(be * 16)], k_fL [qfz11], k_fp []), rfl, trivial, by rw [ht]; exact hP9, va_K.moved hW.alike hK, hD9⟩, hS.F ht⟩) hS.2.2 dX5_hear_83
      · refine lv_iload hx₀ hb dX5_hear_30 (lv_at hl 0 rfl) ?_
        refine lv_iload_n hx₀ hb dX5_hear_32 rfl (lv_at hl 3 rfl) ?_
        refine lv_icmp_lt (tgt := 51) hx₀ hb dX5_hear_33 (by decide) (fun c_13 => ?_) (fun c_13 => ?_)
        · refine lv_lconst (v := 0) hx₀ hb dX5_hear_51 (by decide +kernel) ?_
          refine lv_lstore (lv' := [(5, .long 0), (4, .int gz11), (0, .ref aLu), (1, .int c1), (2, .int in1), (3, .int br)]) hx₀ hb dX5_hear_52 hl (by decide) rfl (fun ls hl => ?_)
          refine lv_aload_n hx₀ hb dX5_hear_54 rfl (lv_at hl 2 rfl) ?_
          refine va_get (D := (dC, dI)) (ci := 5) (v := .ref vLu) (C := RX5) (T := TX5) (N := 3) hx₀ hb hts inlX5 hown hK hP 0 rfl rfl 0 (by decide) (hts (.fieldLink RX5 9 "BittenStick$Laughter" "chances" "[J") wd_102) (fun _ h9 => h9) rfl dX5_hear_55 ?_
          refine lv_iload hx₀ hb dX5_hear_58 (lv_at hl 1 rfl) ?_
          refine lv_aload_n hx₀ hb dX5_hear_60 rfl (lv_at hl 2 rfl) ?_
          refine va_get (D := (dC, dI)) (ci := 5) (v := .ref vLu) (C := RX5) (T := TX5) (N := 3) hx₀ hb hts inlX5 hown hK hP 0 rfl rfl 0 (by decide) (hts (.fieldLink RX5 9 "BittenStick$Laughter" "chances" "[J") wd_102) (fun _ h9 => h9) rfl dX5_hear_61 ?_
          refine lv_iload hx₀ hb dX5_hear_64 (lv_at hl 1 rfl) ?_
          refine va_lald hx₀ hb hK hP 1 1 rfl rfl (vp_in_iff.mpr (lf_j_hear_1 in1 gz11 jz11 c_1 hiz11_0 hjz11 c_12 c_13)) dX5_hear_66 ?_
          refine lv_topl (fun y_14 ey_14 => ?_)
          refine lv_bipush (v := 16) hx₀ hb dX5_hear_67 (by decide +kernel) ?_
          refine lv_iload_n hx₀ hb dX5_hear_69 rfl (lv_at hl 3 rfl) ?_
          refine lv_isub hx₀ hb dX5_hear_70 ?_
          refine lv_i2l hx₀ hb dX5_hear_71 rfl ?_
          refine lv_lmul hx₀ hb dX5_hear_72 ?_
          refine lv_lload hx₀ hb dX5_hear_73 (lv_at hl 0 rfl) ?_
          refine lv_ladd hx₀ hb dX5_hear_75 ?_
          refine va_last hx₀ hb hK hP hD hS 1 1 rfl rfl (vp_in_iff.mpr (lf_j_hear_1 in1 gz11 jz11 c_1 hiz11_0 hjz11 c_12 c_13)) dX5_hear_76 ?_
          clear hP hD hS
          intro H locs hP hD hS
          obtain ⟨f_15, hf_15⟩ : ∃ z : Nat → Int64, z = vp_updL qfz11 gz11.toNatClampNeg ((y_14 * ((16 - c1).toInt64)) + 0) := ⟨_, rfl⟩
          replace hP : va_P (dC, dI) vwCl [(kX5 aLu vLu ab (be * 16)), (kAJ vLu cJ 46 f_15)] H := by rw [hf_15]; exact hP
          replace hD : va_D A [(kX5 aLu vLu ab (be * 16)), (kAJ vLu cJ 46 f_15)] := by rw [hf_15]; exact hD
          clear hf_15
          refine lv_iinc (v := gz11 + (-1)) (lv' := [(4, .int (gz11 + (-1))), (5, .long 0), (0, .ref aLu), (1, .int c1), (2, .int in1), (3, .int br)]) hx₀ hb dX5_hear_77 hl (k := 1) rfl rfl (by decide) rfl (fun ls hl => ?_)
          refine lv_goto (tgt := 25) hx₀ hb dX5_hear_80 (by decide) ?_
          exact ihz11 _ (lf_j_hear_3 in1 gz11 jz11 c_1 hiz11_0 hjz11 c_12 c_13) (gz11 + (-1)) f_15 _ _ _ (lf_j_hear_2 in1 gz11 jz11 c_1 hiz11_0 hjz11 c_12 c_13) rfl (hP.sub [0, 1] rfl) (hD.sub [0, 1] (by decide +kernel) rfl) hS (lv_sub hl [0, 2, 3, 4, 5] rfl)
        · refine lv_aload_n hx₀ hb dX5_hear_36 rfl (lv_at hl 1 rfl) ?_
          refine va_get (D := (dC, dI)) (ci := 5) (v := .ref vLu) (C := RX5) (T := TX5) (N := 3) hx₀ hb hts inlX5 hown hK hP 0 rfl rfl 0 (by decide) (hts (.fieldLink RX5 9 "BittenStick$Laughter" "chances" "[J") wd_102) (fun _ h9 => h9) rfl dX5_hear_37 ?_
          refine lv_iload hx₀ hb dX5_hear_40 (lv_at hl 0 rfl) ?_
          refine lv_iload_n hx₀ hb dX5_hear_42 rfl (lv_at hl 3 rfl) ?_
          refine lv_isub hx₀ hb dX5_hear_43 ?_
          refine va_lald hx₀ hb hK hP 1 1 rfl rfl (vp_in_iff.mpr (lf_j_hear_4 in1 gz11 jz11 c_1 hiz11_0 hjz11 c_12 c_13)) dX5_hear_44 ?_
          refine lv_topl (fun y_16 ey_16 => ?_)
          refine lv_iload_n hx₀ hb dX5_hear_45 rfl (lv_at hl 2 rfl) ?_
          refine lv_i2l hx₀ hb dX5_hear_46 rfl ?_
          refine lv_lmul hx₀ hb dX5_hear_47 ?_
          refine lv_goto (tgt := 52) hx₀ hb dX5_hear_48 (by decide) ?_
          refine lv_lstore (lv' := [(5, .long (y_16 * c1.toInt64)), (4, .int gz11), (0, .ref aLu), (1, .int c1), (2, .int in1), (3, .int br)]) hx₀ hb dX5_hear_52 hl (by decide) rfl (fun ls hl => ?_)
          refine lv_aload_n hx₀ hb dX5_hear_54 rfl (lv_at hl 2 rfl) ?_
          refine va_get (D := (dC, dI)) (ci := 5) (v := .ref vLu) (C := RX5) (T := TX5) (N := 3) hx₀ hb hts inlX5 hown hK hP 0 rfl rfl 0 (by decide) (hts (.fieldLink RX5 9 "BittenStick$Laughter" "chances" "[J") wd_102) (fun _ h9 => h9) rfl dX5_hear_55 ?_
          refine lv_iload hx₀ hb dX5_hear_58 (lv_at hl 1 rfl) ?_
          refine lv_aload_n hx₀ hb dX5_hear_60 rfl (lv_at hl 2 rfl) ?_
          refine va_get (D := (dC, dI)) (ci := 5) (v := .ref vLu) (C := RX5) (T := TX5) (N := 3) hx₀ hb hts inlX5 hown hK hP 0 rfl rfl 0 (by decide) (hts (.fieldLink RX5 9 "BittenStick$Laughter" "chances" "[J") wd_102) (fun _ h9 => h9) rfl dX5_hear_61 ?_
          refine lv_iload hx₀ hb dX5_hear_64 (lv_at hl 1 rfl) ?_
          refine va_lald hx₀ hb hK hP 1 1 rfl rfl (vp_in_iff.mpr (lf_j_hear_5 in1 gz11 jz11 c_1 hiz11_0 hjz11 c_12 c_13)) dX5_hear_66 ?_
          refine lv_topl (fun y_17 ey_17 => ?_)
          refine lv_bipush (v := 16) hx₀ hb dX5_hear_67 (by decide +kernel) ?_
          refine lv_iload_n hx₀ hb dX5_hear_69 rfl (lv_at hl 3 rfl) ?_
          refine lv_isub hx₀ hb dX5_hear_70 ?_
          refine lv_i2l hx₀ hb dX5_hear_71 rfl ?_
          refine lv_lmul hx₀ hb dX5_hear_72 ?_
          refine lv_lload hx₀ hb dX5_hear_73 (lv_at hl 0 rfl) ?_
          refine lv_ladd hx₀ hb dX5_hear_75 ?_
          refine va_last hx₀ hb hK hP hD hS 1 1 rfl rfl (vp_in_iff.mpr (lf_j_hear_5 in1 gz11 jz11 c_1 hiz11_0 hjz11 c_12 c_13)) dX5_hear_76 ?_
          clear hP hD hS
          intro H locs hP hD hS
          obtain ⟨f_18, hf_18⟩ : ∃ z : Nat → Int64, z = vp_updL qfz11 gz11.toNatClampNeg ((y_17 * ((16 - c1).toInt64)) + (y_16 * c1.toInt64)) := ⟨_, rfl⟩
          replace hP : va_P (dC, dI) vwCl [(kX5 aLu vLu ab (be * 16)), (kAJ vLu cJ 46 f_18)] H := by rw [hf_18]; exact hP
          replace hD : va_D A [(kX5 aLu vLu ab (be * 16)), (kAJ vLu cJ 46 f_18)] := by rw [hf_18]; exact hD
          clear hf_18
          refine lv_iinc (v := gz11 + (-1)) (lv' := [(4, .int (gz11 + (-1))), (5, .long (y_16 * c1.toInt64)), (0, .ref aLu), (1, .int c1), (2, .int in1), (3, .int br)]) hx₀ hb dX5_hear_77 hl (k := 1) rfl rfl (by decide) rfl (fun ls hl => ?_)
          refine lv_goto (tgt := 25) hx₀ hb dX5_hear_80 (by decide) ?_
          exact ihz11 _ (lf_j_hear_7 in1 gz11 jz11 c_1 hiz11_0 hjz11 c_12 c_13) (gz11 + (-1)) f_18 _ _ _ (lf_j_hear_6 in1 gz11 jz11 c_1 hiz11_0 hjz11 c_12 c_13) rfl (hP.sub [0, 1] rfl) (hD.sub [0, 1] (by decide +kernel) rfl) hS (lv_sub hl [0, 2, 3, 4, 5] rfl)
  · obtain ⟨hP9, hD9⟩ := k_c2 (wc := [(kX5 aLu vLu ab be), (kAJ vLu cJ 46 fl)]) hP hD [0, 1] (by decide +kernel) rfl
    exact W.vret hx₀ hb hr (fun t₀ ht hW => ⟨⟨(k_fn [], k_fa [], k_fl [be], k_fL [fl], k_fp []), rfl, trivial, by rw [ht]; exact hP9, va_K.moved hW.alike hK, hD9⟩, hS.F ht⟩) hS.2.2 dX5_hear_4
theorem lf_j_sum_1 (a0 : Int32) (a1 : Nat) (h0 : 0 ≤ a0 ∧ a0 ≤ 46) (h1 : (46 - a0.toInt).toNat = a1) (h2 : ¬ 46 ≤ a0) : 0 ≤ a0.toInt ∧ a0.toInt < 46 := by
  first | (first | omega | (have hr0 := Int32.toInt_lt a0; have hs0 := Int32.le_toInt a0; simp only [Int64.toInt_add, Int64.toInt_sub, Int32.toInt_add, Int32.toInt_sub, Int32.toInt_mul, Int64.le_iff_toInt_le, Int64.lt_iff_toInt_lt, Int32.le_iff_toInt_le, Int32.lt_iff_toInt_lt, ← Int32.toInt_inj, ← Int64.toInt_inj, Int32.toInt_toInt64, kc_0, kc_46, true_and, and_true, not_true_eq_false, not_false_eq_true] at * <;> ((first | omega | ((try simp (disch := omega) only [k_bm64] at *); (try simp (disch := omega) only [k_bm] at *); (try simp (disch := omega) only [k_bm] at *); omega) | (simp only [Int.bmod] at *; omega))))) | with_reducible assumption | rfl
theorem lf_j_sum_2 (a0 : Int32) (a1 : Nat) (h0 : 0 ≤ a0 ∧ a0 ≤ 46) (h1 : (46 - a0.toInt).toNat = a1) (h2 : ¬ 46 ≤ a0) : 0 ≤ (a0 + 1) ∧ (a0 + 1) ≤ 46 := by
  first | (first | omega | (have hr0 := Int32.toInt_lt a0; have hs0 := Int32.le_toInt a0; simp only [Int64.toInt_add, Int64.toInt_sub, Int32.toInt_add, Int32.toInt_sub, Int32.toInt_mul, Int64.le_iff_toInt_le, Int64.lt_iff_toInt_lt, Int32.le_iff_toInt_le, Int32.lt_iff_toInt_lt, ← Int32.toInt_inj, ← Int64.toInt_inj, Int32.toInt_toInt64, kc_0, kc_1, kc_46, true_and, and_true, not_true_eq_false, not_false_eq_true] at * <;> ((first | omega | ((try simp (disch := omega) only [k_bm64] at *); (try simp (disch := omega) only [k_bm] at *); (try simp (disch := omega) only [k_bm] at *); omega) | (simp only [Int.bmod] at *; omega))))) | with_reducible assumption | rfl
theorem lf_j_sum_3 (a0 : Int32) (a1 : Nat) (h0 : 0 ≤ a0 ∧ a0 ≤ 46) (h1 : (46 - a0.toInt).toNat = a1) (h2 : ¬ 46 ≤ a0) : (46 - (a0 + 1).toInt).toNat < a1 := by
  first | (first | omega | (have hr0 := Int32.toInt_lt a0; have hs0 := Int32.le_toInt a0; simp only [Int64.toInt_add, Int64.toInt_sub, Int32.toInt_add, Int32.toInt_sub, Int32.toInt_mul, Int64.le_iff_toInt_le, Int64.lt_iff_toInt_lt, Int32.le_iff_toInt_le, Int32.lt_iff_toInt_lt, ← Int32.toInt_inj, ← Int64.toInt_inj, Int32.toInt_toInt64, kc_0, kc_1, kc_46, true_and, and_true, not_true_eq_false, not_false_eq_true] at * <;> ((first | omega | ((try simp (disch := omega) only [k_bm64] at *); (try simp (disch := omega) only [k_bm] at *); (try simp (disch := omega) only [k_bm] at *); omega) | (simp only [Int.bmod] at *; omega))))) | with_reducible assumption | rfl
set_option maxHeartbeats 4000000 in
set_option maxRecDepth 100000 in
theorem j_sum (l : Launch) (dC : Nat → ClassId) (dI : Nat → Nat → Nat) (cI cJ cQ : ClassId) (sz : Nat) (aLu : Nat) (vLu : Nat) (ab : Int64) (be : Int64) (fl : Nat → Int64) : Met l yX5_sum (kW yX5_sum cX5_sum 4 (some .long)) { frames := 0, cells := 0, slots := 0, locals := 0 } (kPre dC dI cI cJ cQ sz [.ref aLu] [(kX5 aLu vLu ab be), (kAJ vLu cJ 46 fl)]) (va_Ql (fun (r : Int64) (u : Unit) => True) (fun (u : Unit) t₀ => kB dC dI cI cJ cQ (va_A [(kX5 aLu vLu ab be), (kAJ vLu cJ 46 fl)] sz) [(kX5 aLu vLu ab be), (kAJ vLu cJ 46 fl)] t₀) (va_A [(kX5 aLu vLu ab be), (kAJ vLu cJ 46 fl)] sz)) 0 0 (va_A [(kX5 aLu vLu ab be), (kAJ vLu cJ 46 fl)] sz) := by
  refine Met.ofW (cc := cX5_sum) (maxL := 4) (ret := (some .long)) (by decide) rfl ?_
  intro p₀ e₀ s₀ m₀ args below meth c₀ s₁ B hml hv₀
  obtain ⟨rfl, hsz, hP, hK, hD0, hN⟩ := hv₀
  have hx₀ := B.exec
  have hb := B.bytes
  have hr := B.returns
  have hts := atoms_spec (ws := (kW yX5_sum cX5_sum 4 (some .long))) B.pre
  have hts := fun w h => hts w (List.mem_cons_of_mem _ h)
  have hown : s₀.vm.findClass RX5 = some m₀.cls := findClass_of_methodNamed B.named
  have hlocks := B.notSynchronized
  subst hsz
  have hD := hD0.self (sz := s₀.heap.size)
  generalize hAe : va_A [(kX5 aLu vLu ab be), (kAJ vLu cJ 46 fl)] s₀.heap.size = A at hD ⊢
  have hA : ∀ q : Nat, s₀.heap.size ≤ q → A q := fun q h => by rw [← hAe]; exact Or.inr h
  have hS : va_S A s₀.heap s₀.heap [] := va_S.rf
  have hP : va_P (dC, dI) vwCl [(kX5 aLu vLu ab be), (kAJ vLu cJ 46 fl)] s₀.heap := hP
  have hl := lv_entry ([.ref aLu]) (n := 4) (Nat.le_of_ble_eq_true rfl)
  rw [lg_entry_eq]
  generalize (lg_sl ([.ref aLu]) ++ List.replicate (4 - (lg_sl ([.ref aLu])).length) Slot.unset).toArray = ls at hl ⊢
  have hl : lv_has ls 4 [(0, .ref aLu)] := hl
  obtain ⟨H, hH⟩ : ∃ z : Heap, z = s₀.heap := ⟨_, rfl⟩
  rw [← hH] at hP
  have hS : va_S A s₀.heap H [] := by rw [hH]; exact hS
  refine k_heap hH ?_
  have hD : va_D A [(kX5 aLu vLu ab be), (kAJ vLu cJ 46 fl)] := hD
  obtain ⟨locs, hlo⟩ : ∃ z : List Loc, z = [] := ⟨_, rfl⟩
  rw [← hlo] at hS ⊢
  clear hlo hH hAe hD0
  refine lv_lconst (v := 0) hx₀ hb dX5_sum_0 (by decide +kernel) ?_
  refine lv_lstore_n (lv' := [(1, .long 0), (0, .ref aLu)]) hx₀ hb dX5_sum_1 rfl hl (by decide) rfl (fun ls hl => ?_)
  refine lv_iconst (v := 0) hx₀ hb dX5_sum_2 (by decide +kernel) ?_
  refine lv_istore_n (lv' := [(3, .int 0), (1, .long 0), (0, .ref aLu)]) hx₀ hb dX5_sum_3 rfl hl (by decide) rfl (fun ls hl => ?_)
  refine (?keyz1 : ∀ (jz1 : Nat) (suz1 : Int64) (iz1 : Int32) (H : Heap) (locs : List Loc) (ls : Array Slot), (0 ≤ iz1 ∧ iz1 ≤ 46) → ((46 - iz1.toInt).toNat = jz1) → va_P (dC, dI) vwCl [(kX5 aLu vLu ab be), (kAJ vLu cJ 46 fl)] H → va_D A [(kX5 aLu vLu ab be), (kAJ vLu cJ 46 fl)] → va_S A s₀.heap H locs → lv_has ls 4 [(3, .int iz1), (1, .long suz1), (0, .ref aLu)] → W p₀ l e₀ _ s₀ m₀ _ below meth c₀ H locs _ _ _ (F0 m₀ 4 ls [])) _ (0 : Int64) (0 : Int32) H locs ls (show 0 ≤ (0 : Int32) ∧ (0 : Int32) ≤ 46 from ⟨(by decide), (by decide)⟩) rfl hP hD hS hl
  clear hP hD hS hl
  intro jz1
  induction jz1 using Nat.strongRecOn with
  | ind jz1 ihz1 =>
    intro suz1 iz1 H locs ls hiz1_0 hjz1 hP hD hS hl
    refine lv_iload_n hx₀ hb dX5_sum_4 rfl (lv_at hl 0 rfl) ?_
    refine lv_aload_n hx₀ hb dX5_sum_5 rfl (lv_at hl 2 rfl) ?_
    refine va_get (D := (dC, dI)) (ci := 5) (v := .ref vLu) (C := RX5) (T := TX5) (N := 3) hx₀ hb hts inlX5 hown hK hP 0 rfl rfl 0 (by decide) (hts (.fieldLink RX5 9 "BittenStick$Laughter" "chances" "[J") wd_102) (fun _ h9 => h9) rfl dX5_sum_6 ?_
    refine va_alen (v := 46) hx₀ hb hK hP 1 1 rfl rfl rfl dX5_sum_9 ?_
    refine lv_icmp_ge (tgt := 28) hx₀ hb dX5_sum_10 (by decide) (fun c_2 => ?_) (fun c_2 => ?_)
    · refine lv_lload_n hx₀ hb dX5_sum_28 rfl (lv_at hl 1 rfl) ?_
      obtain ⟨hP9, hD9⟩ := k_c2 (wc := [(kX5 aLu vLu ab be), (kAJ vLu cJ 46 fl)]) hP hD [0, 1] (by decide +kernel) rfl
      exact W.lret (v := suz1) hx₀ hb hr (fun t₀ ht hW => ⟨⟨suz1, (), rfl, trivial, by rw [ht]; exact hP9, va_K.moved hW.alike hK, hD9⟩, hS.F ht⟩) hS.2.2 dX5_sum_29
    · refine lv_lload_n hx₀ hb dX5_sum_13 rfl (lv_at hl 1 rfl) ?_
      refine lv_aload_n hx₀ hb dX5_sum_14 rfl (lv_at hl 2 rfl) ?_
      refine va_get (D := (dC, dI)) (ci := 5) (v := .ref vLu) (C := RX5) (T := TX5) (N := 3) hx₀ hb hts inlX5 hown hK hP 0 rfl rfl 0 (by decide) (hts (.fieldLink RX5 9 "BittenStick$Laughter" "chances" "[J") wd_102) (fun _ h9 => h9) rfl dX5_sum_15 ?_
      refine lv_iload_n hx₀ hb dX5_sum_18 rfl (lv_at hl 0 rfl) ?_
      refine va_lald hx₀ hb hK hP 1 1 rfl rfl (vp_in_iff.mpr (lf_j_sum_1 iz1 jz1 hiz1_0 hjz1 c_2)) dX5_sum_19 ?_
      refine lv_topl (fun y_3 ey_3 => ?_)
      refine lv_ladd hx₀ hb dX5_sum_20 ?_
      refine lv_lstore_n (lv' := [(1, .long (suz1 + y_3)), (3, .int iz1), (0, .ref aLu)]) hx₀ hb dX5_sum_21 rfl hl (by decide) rfl (fun ls hl => ?_)
      refine lv_iinc (v := iz1 + 1) (lv' := [(3, .int (iz1 + 1)), (1, .long (suz1 + y_3)), (0, .ref aLu)]) hx₀ hb dX5_sum_22 hl (k := 1) rfl rfl (by decide) rfl (fun ls hl => ?_)
      refine lv_goto (tgt := 4) hx₀ hb dX5_sum_25 (by decide) ?_
      exact ihz1 _ (lf_j_sum_3 iz1 jz1 hiz1_0 hjz1 c_2) (suz1 + y_3) (iz1 + 1) _ _ _ (lf_j_sum_2 iz1 jz1 hiz1_0 hjz1 c_2) rfl (hP.sub [0, 1] rfl) (hD.sub [0, 1] (by decide +kernel) rfl) hS (lv_sub hl [0, 1, 2] rfl)
theorem lf_j_reduce_1 (a0 : Int32) (a1 : Nat) (h0 : 0 ≤ a0 ∧ a0 ≤ 63) (h1 : (63 - a0.toInt).toNat = a1) (h2 : ¬ 63 ≤ a0) : 0 ≤ (a0 + 1) ∧ (a0 + 1) ≤ 63 := by
  first | (first | omega | (have hr0 := Int32.toInt_lt a0; have hs0 := Int32.le_toInt a0; simp only [Int64.toInt_add, Int64.toInt_sub, Int32.toInt_add, Int32.toInt_sub, Int32.toInt_mul, Int64.le_iff_toInt_le, Int64.lt_iff_toInt_lt, Int32.le_iff_toInt_le, Int32.lt_iff_toInt_lt, ← Int32.toInt_inj, ← Int64.toInt_inj, Int32.toInt_toInt64, kc_0, kc_1, kc_63, true_and, and_true, not_true_eq_false, not_false_eq_true] at * <;> ((first | omega | ((try simp (disch := omega) only [k_bm64] at *); (try simp (disch := omega) only [k_bm] at *); (try simp (disch := omega) only [k_bm] at *); omega) | (simp only [Int.bmod] at *; omega))))) | with_reducible assumption | rfl
theorem lf_j_reduce_2 (a0 : Int32) (a1 : Nat) (h0 : 0 ≤ a0 ∧ a0 ≤ 63) (h1 : (63 - a0.toInt).toNat = a1) (h2 : ¬ 63 ≤ a0) : (63 - (a0 + 1).toInt).toNat < a1 := by
  first | (first | omega | (have hr0 := Int32.toInt_lt a0; have hs0 := Int32.le_toInt a0; simp only [Int64.toInt_add, Int64.toInt_sub, Int32.toInt_add, Int32.toInt_sub, Int32.toInt_mul, Int64.le_iff_toInt_le, Int64.lt_iff_toInt_lt, Int32.le_iff_toInt_le, Int32.lt_iff_toInt_lt, ← Int32.toInt_inj, ← Int64.toInt_inj, Int32.toInt_toInt64, kc_0, kc_1, kc_63, true_and, and_true, not_true_eq_false, not_false_eq_true] at * <;> ((first | omega | ((try simp (disch := omega) only [k_bm64] at *); (try simp (disch := omega) only [k_bm] at *); (try simp (disch := omega) only [k_bm] at *); omega) | (simp only [Int.bmod] at *; omega))))) | with_reducible assumption | rfl
set_option maxHeartbeats 4000000 in
set_option maxRecDepth 100000 in
theorem j_reduce (l : Launch) (dC : Nat → ClassId) (dI : Nat → Nat → Nat) (cI cJ cQ : ClassId) (sz : Nat) (aLu : Nat) (vLu : Nat) (ab : Int64) (be : Int64) (fl : Nat → Int64) : Met l yX5_reduce (kW yX5_reduce cX5_reduce 2 none) { frames := 0, cells := 0, slots := 0, locals := 0 } (kPre dC dI cI cJ cQ sz [.ref aLu] [(kX5 aLu vLu ab be), (kAJ vLu cJ 46 fl)]) (va_Qv (fun (u : kS) => True) (fun (u : kS) t₀ => kB dC dI cI cJ cQ (va_A [(kX5 aLu vLu ab be), (kAJ vLu cJ 46 fl)] sz) [(kX5 aLu vLu (u.2.2.1 0) (u.2.2.1 1)), (kAJ vLu cJ 46 fl)] t₀) (va_A [(kX5 aLu vLu ab be), (kAJ vLu cJ 46 fl)] sz)) 0 0 (va_A [(kX5 aLu vLu ab be), (kAJ vLu cJ 46 fl)] sz) := by
  refine Met.ofW (cc := cX5_reduce) (maxL := 2) (ret := none) (by decide) rfl ?_
  intro p₀ e₀ s₀ m₀ args below meth c₀ s₁ B hml hv₀
  obtain ⟨rfl, hsz, hP, hK, hD0, hN⟩ := hv₀
  have hx₀ := B.exec
  have hb := B.bytes
  have hr := B.returns
  have hts := atoms_spec (ws := (kW yX5_reduce cX5_reduce 2 none)) B.pre
  have hts := fun w h => hts w (List.mem_cons_of_mem _ h)
  have hown : s₀.vm.findClass RX5 = some m₀.cls := findClass_of_methodNamed B.named
  have hlocks := B.notSynchronized
  subst hsz
  have hD := hD0.self (sz := s₀.heap.size)
  generalize hAe : va_A [(kX5 aLu vLu ab be), (kAJ vLu cJ 46 fl)] s₀.heap.size = A at hD ⊢
  have hA : ∀ q : Nat, s₀.heap.size ≤ q → A q := fun q h => by rw [← hAe]; exact Or.inr h
  have hS : va_S A s₀.heap s₀.heap [] := va_S.rf
  have hP : va_P (dC, dI) vwCl [(kX5 aLu vLu ab be), (kAJ vLu cJ 46 fl)] s₀.heap := hP
  have hl := lv_entry ([.ref aLu]) (n := 2) (Nat.le_of_ble_eq_true rfl)
  rw [lg_entry_eq]
  generalize (lg_sl ([.ref aLu]) ++ List.replicate (2 - (lg_sl ([.ref aLu])).length) Slot.unset).toArray = ls at hl ⊢
  have hl : lv_has ls 2 [(0, .ref aLu)] := hl
  obtain ⟨H, hH⟩ : ∃ z : Heap, z = s₀.heap := ⟨_, rfl⟩
  rw [← hH] at hP
  have hS : va_S A s₀.heap H [] := by rw [hH]; exact hS
  refine k_heap hH ?_
  have hD : va_D A [(kX5 aLu vLu ab be), (kAJ vLu cJ 46 fl)] := hD
  obtain ⟨locs, hlo⟩ : ∃ z : List Loc, z = [] := ⟨_, rfl⟩
  rw [← hlo] at hS ⊢
  clear hlo hH hAe hD0
  refine lv_iconst (v := 0) hx₀ hb dX5_reduce_0 (by decide +kernel) ?_
  refine lv_istore_n (lv' := [(1, .int 0), (0, .ref aLu)]) hx₀ hb dX5_reduce_1 rfl hl (by decide) rfl (fun ls hl => ?_)
  refine (?keyz1 : ∀ (jz1 : Nat) (iz1 : Int32) (y1z1 : Int64) (y2z1 : Int64) (H : Heap) (locs : List Loc) (ls : Array Slot), (0 ≤ iz1 ∧ iz1 ≤ 63) → ((63 - iz1.toInt).toNat = jz1) → va_P (dC, dI) vwCl [(kX5 aLu vLu y1z1 y2z1), (kAJ vLu cJ 46 fl)] H → va_D A [(kX5 aLu vLu y1z1 y2z1), (kAJ vLu cJ 46 fl)] → va_S A s₀.heap H locs → lv_has ls 2 [(1, .int iz1), (0, .ref aLu)] → W p₀ l e₀ _ s₀ m₀ _ below meth c₀ H locs _ _ _ (F0 m₀ 2 ls [])) _ (0 : Int32) ab be H locs ls (show 0 ≤ (0 : Int32) ∧ (0 : Int32) ≤ 63 from ⟨(by decide), (by decide)⟩) rfl hP hD hS hl
  clear hP hD hS hl
  intro jz1
  induction jz1 using Nat.strongRecOn with
  | ind jz1 ihz1 =>
    intro iz1 y1z1 y2z1 H locs ls hiz1_0 hjz1 hP hD hS hl
    refine lv_iload_n hx₀ hb dX5_reduce_2 rfl (lv_at hl 0 rfl) ?_
    refine lv_bipush (v := 63) hx₀ hb dX5_reduce_3 (by decide +kernel) ?_
    refine lv_icmp_ge (tgt := 60) hx₀ hb dX5_reduce_5 (by decide) (fun c_2 => ?_) (fun c_2 => ?_)
    · obtain ⟨hP9, hD9⟩ := k_c2 (wc := [(kX5 aLu vLu y1z1 y2z1), (kAJ vLu cJ 46 fl)]) hP hD [0, 1] (by decide +kernel) rfl
      exact W.vret hx₀ hb hr (fun t₀ ht hW => ⟨⟨(k_fn [], k_fa [], k_fl [y1z1, y2z1], k_fL [], k_fp []), rfl, trivial, by rw [ht]; exact hP9, va_K.moved hW.alike hK, hD9⟩, hS.F ht⟩) hS.2.2 dX5_reduce_60
    · refine lv_aload_n hx₀ hb dX5_reduce_8 rfl (lv_at hl 1 rfl) ?_
      refine va_get (D := (dC, dI)) (ci := 5) (v := .long y2z1) (C := RX5) (T := TX5) (N := 3) hx₀ hb hts inlX5 hown hK hP 0 rfl rfl 2 (by decide) (hts (.fieldLink RX5 19 "BittenStick$Laughter" "below" "J") wd_778) (fun _ h9 => h9) rfl dX5_reduce_9 ?_
      refine lv_lconst (v := 1) hx₀ hb dX5_reduce_12 (by decide +kernel) ?_
      refine W.lcmp hx₀ hb dX5_reduce_13 ?_
      refine lv_if_le (tgt := 60) hx₀ hb dX5_reduce_14 (by decide) (fun c_3 => ?_) (fun c_3 => ?_)
      · obtain ⟨hP9, hD9⟩ := k_c2 (wc := [(kX5 aLu vLu y1z1 y2z1), (kAJ vLu cJ 46 fl)]) hP hD [0, 1] (by decide +kernel) rfl
        exact W.vret hx₀ hb hr (fun t₀ ht hW => ⟨⟨(k_fn [], k_fa [], k_fl [y1z1, y2z1], k_fL [], k_fp []), rfl, trivial, by rw [ht]; exact hP9, va_K.moved hW.alike hK, hD9⟩, hS.F ht⟩) hS.2.2 dX5_reduce_60
      · refine lv_aload_n hx₀ hb dX5_reduce_17 rfl (lv_at hl 1 rfl) ?_
        refine va_get (D := (dC, dI)) (ci := 5) (v := .long y1z1) (C := RX5) (T := TX5) (N := 3) hx₀ hb hts inlX5 hown hK hP 0 rfl rfl 1 (by decide) (hts (.fieldLink RX5 15 "BittenStick$Laughter" "above" "J") wd_777) (fun _ h9 => h9) rfl dX5_reduce_18 ?_
        refine lv_ldc2 (v := 2) hx₀ hb hown (hts (.constantLong RX5 77 (2)) wd_805) dX5_reduce_21 ?_
        refine lv_lrem hx₀ hb dX5_reduce_24 (by decide +kernel) ?_
        refine lv_lconst (v := 0) hx₀ hb dX5_reduce_25 (by decide +kernel) ?_
        refine W.lcmp hx₀ hb dX5_reduce_26 ?_
        refine lv_if_ne (tgt := 60) hx₀ hb dX5_reduce_27 (by decide) (fun c_4 => ?_) (fun c_4 => ?_)
        · obtain ⟨hP9, hD9⟩ := k_c2 (wc := [(kX5 aLu vLu y1z1 y2z1), (kAJ vLu cJ 46 fl)]) hP hD [0, 1] (by decide +kernel) rfl
          exact W.vret hx₀ hb hr (fun t₀ ht hW => ⟨⟨(k_fn [], k_fa [], k_fl [y1z1, y2z1], k_fL [], k_fp []), rfl, trivial, by rw [ht]; exact hP9, va_K.moved hW.alike hK, hD9⟩, hS.F ht⟩) hS.2.2 dX5_reduce_60
        · refine lv_aload_n hx₀ hb dX5_reduce_30 rfl (lv_at hl 1 rfl) ?_
          refine lv_dup hx₀ hb dX5_reduce_31 rfl ?_
          refine va_get (D := (dC, dI)) (ci := 5) (v := .long y1z1) (C := RX5) (T := TX5) (N := 3) hx₀ hb hts inlX5 hown hK hP 0 rfl rfl 1 (by decide) (hts (.fieldLink RX5 15 "BittenStick$Laughter" "above" "J") wd_777) (fun _ h9 => h9) rfl dX5_reduce_32 ?_
          refine lv_ldc2 (v := 2) hx₀ hb hown (hts (.constantLong RX5 77 (2)) wd_805) dX5_reduce_35 ?_
          refine lv_ldiv hx₀ hb dX5_reduce_38 (by decide +kernel) ?_
          refine va_put (D := (dC, dI)) (ci := 5) (v := .long (y1z1 / 2)) (ty := .long) (C := RX5) (T := TX5) (N := 3) hx₀ hb hts inlX5 tyX5 tyX5_ok nmX5 hown hK hP hD hS 0 rfl rfl 1 (by decide) (hts (.fieldLink RX5 15 "BittenStick$Laughter" "above" "J") wd_777) (fun _ h9 => h9) rfl (by decide +kernel) rfl rfl (Nat.le_of_ble_eq_true rfl) dX5_reduce_39 ?_
          clear hP hD hS
          intro H locs hP hD hS
          replace hP := k_w2 (wt := [(kX5 aLu vLu (y1z1 / 2) y2z1), (kAJ vLu cJ 46 fl)]) hP hD rfl
          replace hD := hP.2
          replace hP := hP.1
          refine lv_aload_n hx₀ hb dX5_reduce_42 rfl (lv_at hl 1 rfl) ?_
          refine lv_dup hx₀ hb dX5_reduce_43 rfl ?_
          refine va_get (D := (dC, dI)) (ci := 5) (v := .long y2z1) (C := RX5) (T := TX5) (N := 3) hx₀ hb hts inlX5 hown hK hP 0 rfl rfl 2 (by decide) (hts (.fieldLink RX5 19 "BittenStick$Laughter" "below" "J") wd_778) (fun _ h9 => h9) rfl dX5_reduce_44 ?_
          refine lv_ldc2 (v := 2) hx₀ hb hown (hts (.constantLong RX5 77 (2)) wd_805) dX5_reduce_47 ?_
          refine lv_ldiv hx₀ hb dX5_reduce_50 (by decide +kernel) ?_
          refine va_put (D := (dC, dI)) (ci := 5) (v := .long (y2z1 / 2)) (ty := .long) (C := RX5) (T := TX5) (N := 3) hx₀ hb hts inlX5 tyX5 tyX5_ok nmX5 hown hK hP hD hS 0 rfl rfl 2 (by decide) (hts (.fieldLink RX5 19 "BittenStick$Laughter" "below" "J") wd_778) (fun _ h9 => h9) rfl (by decide +kernel) rfl rfl (Nat.le_of_ble_eq_true rfl) dX5_reduce_51 ?_
          clear hP hD hS
          intro H locs hP hD hS
          replace hP := k_w2 (wt := [(kX5 aLu vLu (y1z1 / 2) (y2z1 / 2)), (kAJ vLu cJ 46 fl)]) hP hD rfl
          replace hD := hP.2
          replace hP := hP.1
          refine lv_iinc (v := iz1 + 1) (lv' := [(1, .int (iz1 + 1)), (0, .ref aLu)]) hx₀ hb dX5_reduce_54 hl (k := 0) rfl rfl (by decide) rfl (fun ls hl => ?_)
          refine lv_goto (tgt := 2) hx₀ hb dX5_reduce_57 (by decide) ?_
          exact ihz1 _ (lf_j_reduce_2 iz1 jz1 hiz1_0 hjz1 c_2) (iz1 + 1) (y1z1 / 2) (y2z1 / 2) _ _ _ (lf_j_reduce_1 iz1 jz1 hiz1_0 hjz1 c_2) rfl (hP.sub [0, 1] rfl) (hD.sub [0, 1] (by decide +kernel) rfl) hS (lv_sub hl [0, 1] rfl)
theorem lf_j_weigh_1 (a0 : Int32) (a1 : Int32) (a2 : Int32) (a3 : Nat) (h0 : a0 ≤ a1) (h1 : 0 ≤ a2) (h2 : (a0.toInt - a2.toInt).toNat = a3) (h3 : ¬ a0 ≤ a2) : 0 ≤ (a2 + 1) := by
  first | (first | omega | (have hr0 := Int32.toInt_lt a0; have hs0 := Int32.le_toInt a0; have hr1 := Int32.toInt_lt a1; have hs1 := Int32.le_toInt a1; have hr2 := Int32.toInt_lt a2; have hs2 := Int32.le_toInt a2; simp only [Int64.toInt_add, Int64.toInt_sub, Int32.toInt_add, Int32.toInt_sub, Int32.toInt_mul, Int64.le_iff_toInt_le, Int64.lt_iff_toInt_lt, Int32.le_iff_toInt_le, Int32.lt_iff_toInt_lt, ← Int32.toInt_inj, ← Int64.toInt_inj, Int32.toInt_toInt64, kc_0, kc_1, true_and, and_true, not_true_eq_false, not_false_eq_true] at * <;> ((first | omega | ((try simp (disch := omega) only [k_bm64] at *); (try simp (disch := omega) only [k_bm] at *); (try simp (disch := omega) only [k_bm] at *); omega) | (simp only [Int.bmod] at *; omega))))) | with_reducible assumption | rfl
theorem lf_j_weigh_2 (a0 : Int32) (a1 : Int32) (a2 : Int32) (a3 : Nat) (h0 : a0 ≤ a1) (h1 : 0 ≤ a2) (h2 : (a0.toInt - a2.toInt).toNat = a3) (h3 : ¬ a0 ≤ a2) : (a0.toInt - (a2 + 1).toInt).toNat < a3 := by
  first | (first | omega | (have hr0 := Int32.toInt_lt a0; have hs0 := Int32.le_toInt a0; have hr1 := Int32.toInt_lt a1; have hs1 := Int32.le_toInt a1; have hr2 := Int32.toInt_lt a2; have hs2 := Int32.le_toInt a2; simp only [Int64.toInt_add, Int64.toInt_sub, Int32.toInt_add, Int32.toInt_sub, Int32.toInt_mul, Int64.le_iff_toInt_le, Int64.lt_iff_toInt_lt, Int32.le_iff_toInt_le, Int32.lt_iff_toInt_lt, ← Int32.toInt_inj, ← Int64.toInt_inj, Int32.toInt_toInt64, kc_0, kc_1, true_and, and_true, not_true_eq_false, not_false_eq_true] at * <;> ((first | omega | ((try simp (disch := omega) only [k_bm64] at *); (try simp (disch := omega) only [k_bm] at *); (try simp (disch := omega) only [k_bm] at *); omega) | (simp only [Int.bmod] at *; omega))))) | with_reducible assumption | rfl
set_option maxHeartbeats 4000000 in
set_option maxRecDepth 100000 in
theorem j_weigh (l : Launch) (dC : Nat → ClassId) (dI : Nat → Nat → Nat) (cI cJ cQ : ClassId) (sz : Nat) (aLu : Nat) (c1 : Int32) (aTr : Nat) (h1 : Int32) (vLu : Nat) (ab : Int64) (be : Int64) (fl : Nat → Int64) (aLa : Nat) (aPa : Nat) (aGe : Nat) (gL : Nat) (gR : Nat) (lf : Nat) (rt : Nat) (tgo : Int32) (tca : Int32) (tki : Int32) (tso : Int32) (tbe : Int32) (twe : Int32) (tle : Int32) (tan : Int32) (tco : Int32) (ten : Int32) (vLa : Nat) (l4 : Int32) (a4 : Int32) (n4 : Int32) (f4 : Nat → Int32) : Met l yX5_weigh (kW yX5_weigh cX5_weigh 7 none) { frames := 2, cells := 0, slots := 0, locals := 47 } (kPre dC dI cI cJ cQ sz [.ref aLu, .int c1, .ref aTr, .int h1] [(kX5 aLu vLu ab be), (kAJ vLu cJ 46 fl), (kX10 aTr aLa aPa aGe gL gR lf rt tgo tca tki tso tbe twe tle tan tco ten), (kX4 aLa vLa l4 a4 n4), (kAI vLa cI 24 f4)]) (va_Qv (fun (u : kS) => True) (fun (u : kS) t₀ => kB dC dI cI cJ cQ (va_A [(kX5 aLu vLu ab be), (kAJ vLu cJ 46 fl), (kX10 aTr aLa aPa aGe gL gR lf rt tgo tca tki tso tbe twe tle tan tco ten), (kX4 aLa vLa l4 a4 n4), (kAI vLa cI 24 f4)] sz) [(kX5 aLu vLu (u.2.2.1 0) (u.2.2.1 1)), (kAJ vLu cJ 46 (u.2.2.2.1 0)), (kX10 aTr aLa aPa aGe gL gR lf rt tgo tca tki tso tbe twe tle tan tco ten), (kX4 aLa vLa l4 a4 n4), (kAI vLa cI 24 f4)] t₀) (va_A [(kX5 aLu vLu ab be), (kAJ vLu cJ 46 fl), (kX10 aTr aLa aPa aGe gL gR lf rt tgo tca tki tso tbe twe tle tan tco ten), (kX4 aLa vLa l4 a4 n4), (kAI vLa cI 24 f4)] sz)) 0 0 (va_A [(kX5 aLu vLu ab be), (kAJ vLu cJ 46 fl), (kX10 aTr aLa aPa aGe gL gR lf rt tgo tca tki tso tbe twe tle tan tco ten), (kX4 aLa vLa l4 a4 n4), (kAI vLa cI 24 f4)] sz) := by
  refine Met.ofW (cc := cX5_weigh) (maxL := 7) (ret := none) (by decide) rfl ?_
  intro p₀ e₀ s₀ m₀ args below meth c₀ s₁ B hml hv₀
  obtain ⟨rfl, hsz, hP, hK, hD0, hN⟩ := hv₀
  have hx₀ := B.exec
  have hb := B.bytes
  have hr := B.returns
  have hts := atoms_spec (ws := (kW yX5_weigh cX5_weigh 7 none)) B.pre
  have hts := fun w h => hts w (List.mem_cons_of_mem _ h)
  have hown : s₀.vm.findClass RX5 = some m₀.cls := findClass_of_methodNamed B.named
  have hlocks := B.notSynchronized
  subst hsz
  have hD := hD0.self (sz := s₀.heap.size)
  generalize hAe : va_A [(kX5 aLu vLu ab be), (kAJ vLu cJ 46 fl), (kX10 aTr aLa aPa aGe gL gR lf rt tgo tca tki tso tbe twe tle tan tco ten), (kX4 aLa vLa l4 a4 n4), (kAI vLa cI 24 f4)] s₀.heap.size = A at hD ⊢
  have hA : ∀ q : Nat, s₀.heap.size ≤ q → A q := fun q h => by rw [← hAe]; exact Or.inr h
  have hS : va_S A s₀.heap s₀.heap [] := va_S.rf
  have hP : va_P (dC, dI) vwCl [(kX5 aLu vLu ab be), (kAJ vLu cJ 46 fl), (kX10 aTr aLa aPa aGe gL gR lf rt tgo tca tki tso tbe twe tle tan tco ten), (kX4 aLa vLa l4 a4 n4), (kAI vLa cI 24 f4)] s₀.heap := hP
  have hl := lv_entry ([.ref aLu, .int c1, .ref aTr, .int h1]) (n := 7) (Nat.le_of_ble_eq_true rfl)
  rw [lg_entry_eq]
  generalize (lg_sl ([.ref aLu, .int c1, .ref aTr, .int h1]) ++ List.replicate (7 - (lg_sl ([.ref aLu, .int c1, .ref aTr, .int h1])).length) Slot.unset).toArray = ls at hl ⊢
  have hl : lv_has ls 7 [(0, .ref aLu), (1, .int c1), (2, .ref aTr), (3, .int h1)] := hl
  obtain ⟨H, hH⟩ : ∃ z : Heap, z = s₀.heap := ⟨_, rfl⟩
  rw [← hH] at hP
  have hS : va_S A s₀.heap H [] := by rw [hH]; exact hS
  refine k_heap hH ?_
  have hD : va_D A [(kX5 aLu vLu ab be), (kAJ vLu cJ 46 fl), (kX10 aTr aLa aPa aGe gL gR lf rt tgo tca tki tso tbe twe tle tan tco ten), (kX4 aLa vLa l4 a4 n4), (kAI vLa cI 24 f4)] := hD
  obtain ⟨locs, hlo⟩ : ∃ z : List Loc, z = [] := ⟨_, rfl⟩
  rw [← hlo] at hS ⊢
  clear hlo hH hAe hD0
  refine lv_aload_n hx₀ hb dX5_weigh_0 rfl (lv_at hl 0 rfl) ?_
  refine lv_lconst (v := 0) hx₀ hb dX5_weigh_1 (by decide +kernel) ?_
  refine va_put (D := (dC, dI)) (ci := 5) (v := .long 0) (ty := .long) (C := RX5) (T := TX5) (N := 3) hx₀ hb hts inlX5 tyX5 tyX5_ok nmX5 hown hK hP hD hS 0 rfl rfl 1 (by decide) (hts (.fieldLink RX5 15 "BittenStick$Laughter" "above" "J") wd_777) (fun _ h9 => h9) rfl (by decide +kernel) rfl rfl (Nat.le_of_ble_eq_true rfl) dX5_weigh_2 ?_
  clear hP hD hS
  intro H locs hP hD hS
  replace hP := k_w2 (wt := [(kX5 aLu vLu 0 be), (kAJ vLu cJ 46 fl), (kX10 aTr aLa aPa aGe gL gR lf rt tgo tca tki tso tbe twe tle tan tco ten), (kX4 aLa vLa l4 a4 n4), (kAI vLa cI 24 f4)]) hP hD rfl
  replace hD := hP.2
  replace hP := hP.1
  refine lv_aload_n hx₀ hb dX5_weigh_5 rfl (lv_at hl 0 rfl) ?_
  refine lv_lconst (v := 1) hx₀ hb dX5_weigh_6 (by decide +kernel) ?_
  refine va_put (D := (dC, dI)) (ci := 5) (v := .long 1) (ty := .long) (C := RX5) (T := TX5) (N := 3) hx₀ hb hts inlX5 tyX5 tyX5_ok nmX5 hown hK hP hD hS 0 rfl rfl 2 (by decide) (hts (.fieldLink RX5 19 "BittenStick$Laughter" "below" "J") wd_778) (fun _ h9 => h9) rfl (by decide +kernel) rfl rfl (Nat.le_of_ble_eq_true rfl) dX5_weigh_7 ?_
  clear hP hD hS
  intro H locs hP hD hS
  replace hP := k_w2 (wt := [(kX5 aLu vLu 0 1), (kAJ vLu cJ 46 fl), (kX10 aTr aLa aPa aGe gL gR lf rt tgo tca tki tso tbe twe tle tan tco ten), (kX4 aLa vLa l4 a4 n4), (kAI vLa cI 24 f4)]) hP hD rfl
  replace hD := hP.2
  replace hP := hP.1
  refine lv_aload_n hx₀ hb dX5_weigh_10 rfl (lv_at hl 2 rfl) ?_
  refine va_get (D := (dC, dI)) (ci := 9) (v := .int tgo) (C := RX10) (T := TX10) (N := 17) hx₀ hb hts inlX10 hown hK hP 2 rfl rfl 7 (by decide) (hts (.fieldLink RX5 22 "BittenStick$Trip" "goes" "Z") wd_779) (fun _ h9 => h9) rfl dX5_weigh_11 ?_
  refine lv_if_eq (tgt := 31) hx₀ hb dX5_weigh_14 (by decide) (fun c_1 => ?_) (fun c_1 => ?_)
  · obtain ⟨hP9, hD9⟩ := k_c2 (wc := [(kX5 aLu vLu 0 1), (kAJ vLu cJ 46 fl), (kX10 aTr aLa aPa aGe gL gR lf rt tgo tca tki tso tbe twe tle tan tco ten), (kX4 aLa vLa l4 a4 n4), (kAI vLa cI 24 f4)]) hP hD [0, 1, 2, 3, 4] (by decide +kernel) rfl
    exact W.vret hx₀ hb hr (fun t₀ ht hW => ⟨⟨(k_fn [], k_fa [], k_fl [(0 : Int64), (1 : Int64)], k_fL [fl], k_fp []), rfl, trivial, by rw [ht]; exact hP9, va_K.moved hW.alike hK, hD9⟩, hS.F ht⟩) hS.2.2 dX5_weigh_31
  · refine lv_aload_n hx₀ hb dX5_weigh_17 rfl (lv_at hl 2 rfl) ?_
    refine va_get (D := (dC, dI)) (ci := 9) (v := .int tca) (C := RX10) (T := TX10) (N := 17) hx₀ hb hts inlX10 hown hK hP 2 rfl rfl 8 (by decide) (hts (.fieldLink RX5 28 "BittenStick$Trip" "carriedTo" "I") wd_780) (fun _ h9 => h9) rfl dX5_weigh_18 ?_
    refine lv_aload_n hx₀ hb dX5_weigh_21 rfl (lv_at hl 2 rfl) ?_
    refine va_get (D := (dC, dI)) (ci := 9) (v := .ref aLa) (C := RX10) (T := TX10) (N := 17) hx₀ hb hts inlX10 hown hK hP 2 rfl rfl 0 (by decide) (hts (.fieldLink RX5 32 "BittenStick$Trip" "land" "LBittenStick$Land;") wd_781) (fun _ h9 => h9) rfl dX5_weigh_22 ?_
    refine va_get (D := (dC, dI)) (ci := 4) (v := .int n4) (C := RX4) (T := TX4) (N := 4) hx₀ hb hts inlX4 hown hK hP 3 rfl rfl 3 (by decide) (hts (.fieldLink RX5 36 "BittenStick$Land" "number" "I") wd_782) (fun x9 h9 => u_same (hts (.sameField "BittenStick$Land" "BittenStick$Text" "number" "I") wd_286) x9 h9) rfl dX5_weigh_25 ?_
    refine lv_icmp_ge (tgt := 32) hx₀ hb dX5_weigh_28 (by decide) (fun c_2 => ?_) (fun c_2 => ?_)
    · refine lv_aload_n hx₀ hb dX5_weigh_32 rfl (lv_at hl 0 rfl) ?_
      refine lv_lconst (v := 1) hx₀ hb dX5_weigh_33 (by decide +kernel) ?_
      obtain ⟨hPc, hDc, hFc, hC⟩ := k_cw (wc := [(kX5 aLu vLu 0 1), (kAJ vLu cJ 46 fl)]) hP hD hS hA [0, 1] (by decide +kernel) rfl
      refine va_callv (va_runV (As := [.long 1]) (rest := []) ⟨hx₀, hb, hml, hown, hts⟩ (j_calm l dC dI cI cJ cQ H.size aLu 1 vLu 0 1 fl) (cwV 1 hts (kGV wd_788 wd_785 wd_786 wd_787 wd_38) rfl rfl rfl (by decide +kernel) ⟨Nat.le_of_ble_eq_true rfl, Nat.le_of_ble_eq_true rfl⟩) (k_preV5 (q0 := 0) hK hPc hDc hN rfl) rfl rfl hl.1 rfl (lv_room (Nat.le_of_ble_eq_true rfl)) dX5_weigh_34 ⟨by decide +kernel, by decide +kernel⟩) hS (fun q _ h => hFc q h) hFc (fun u₀ t₀ H1 locs ht hvm hw hB hz1 hk1 hS => ?_)
      obtain ⟨g_4, ga_5, gl_6, gb_7, gp_8⟩ := u₀
      obtain ⟨hP1, hK1, hD1⟩ := hB
      rw [ht] at hP1
      have hJ := k_jn (wr := [(kX10 aTr aLa aPa aGe gL gR lf rt tgo tca tki tso tbe twe tle tan tco ten), (kX4 aLa vLa l4 a4 n4), (kAI vLa cI 24 f4)]) (wt := [(kX10 aTr aLa aPa aGe gL gR lf rt tgo tca tki tso tbe twe tle tan tco ten), (kX4 aLa vLa l4 a4 n4), (kAI vLa cI 24 f4), (kX5 aLu vLu 0 1), (kAJ vLu cJ 46 (gb_7 0))]) hP hD hC [2, 3, 4] rfl (by decide +kernel) (by decide +kernel) hk1 hFc hP1 hD1 rfl
      clear hP hD hPc hDc hFc hC hP1 hD1 hK1 hz1 hk1 hvm ht
      obtain ⟨hP, hD⟩ := hJ
      generalize H1 = H at hP hS ⊢
      refine lv_iconst (v := 0) hx₀ hb dX5_weigh_37 (by decide +kernel) ?_
      refine lv_istore (lv' := [(4, .int 0), (0, .ref aLu), (1, .int c1), (2, .ref aTr), (3, .int h1)]) hx₀ hb dX5_weigh_38 hl (by decide) rfl (fun ls hl => ?_)
      refine lv_iconst (v := 0) hx₀ hb dX5_weigh_40 (by decide +kernel) ?_
      refine lv_istore (lv' := [(5, .int 0), (4, .int 0), (0, .ref aLu), (1, .int c1), (2, .ref aTr), (3, .int h1)]) hx₀ hb dX5_weigh_41 hl (by decide) rfl (fun ls hl => ?_)
      refine (?keyz9 : ∀ (jz9 : Nat) (cdz9 : Int32) (iz9 : Int32) (y1z9 : Int64) (y2z9 : Int64) (qfz9 : Nat → Int64) (H : Heap) (locs : List Loc) (ls : Array Slot), (0 ≤ iz9) → ((n4.toInt - iz9.toInt).toNat = jz9) → va_P (dC, dI) vwCl [(kX10 aTr aLa aPa aGe gL gR lf rt tgo tca tki tso tbe twe tle tan tco ten), (kX4 aLa vLa l4 a4 n4), (kAI vLa cI 24 f4), (kX5 aLu vLu y1z9 y2z9), (kAJ vLu cJ 46 qfz9)] H → va_D A [(kX10 aTr aLa aPa aGe gL gR lf rt tgo tca tki tso tbe twe tle tan tco ten), (kX4 aLa vLa l4 a4 n4), (kAI vLa cI 24 f4), (kX5 aLu vLu y1z9 y2z9), (kAJ vLu cJ 46 qfz9)] → va_S A s₀.heap H locs → lv_has ls 7 [(5, .int iz9), (4, .int cdz9), (0, .ref aLu), (1, .int c1), (2, .ref aTr), (3, .int h1)] → W p₀ l e₀ _ s₀ m₀ _ below meth c₀ H locs _ _ _ (F0 m₀ 43 ls [])) _ (0 : Int32) (0 : Int32) (0 : Int64) (1 : Int64) _ H locs ls (show 0 ≤ (0 : Int32) from (by decide)) rfl hP hD hS hl
      clear hP hD hS hl
      intro jz9
      induction jz9 using Nat.strongRecOn with
      | ind jz9 ihz9 =>
        intro cdz9 iz9 y1z9 y2z9 qfz9 H locs ls hiz9_0 hjz9 hP hD hS hl
        refine lv_iload hx₀ hb dX5_weigh_43 (lv_at hl 0 rfl) ?_
        refine lv_aload_n hx₀ hb dX5_weigh_45 rfl (lv_at hl 4 rfl) ?_
        refine va_get (D := (dC, dI)) (ci := 9) (v := .ref aLa) (C := RX10) (T := TX10) (N := 17) hx₀ hb hts inlX10 hown hK hP 0 rfl rfl 0 (by decide) (hts (.fieldLink RX5 32 "BittenStick$Trip" "land" "LBittenStick$Land;") wd_781) (fun _ h9 => h9) rfl dX5_weigh_46 ?_
        refine va_get (D := (dC, dI)) (ci := 4) (v := .int n4) (C := RX4) (T := TX4) (N := 4) hx₀ hb hts inlX4 hown hK hP 1 rfl rfl 3 (by decide) (hts (.fieldLink RX5 36 "BittenStick$Land" "number" "I") wd_782) (fun x9 h9 => u_same (hts (.sameField "BittenStick$Land" "BittenStick$Text" "number" "I") wd_286) x9 h9) rfl dX5_weigh_49 ?_
        refine lv_icmp_ge (tgt := 141) hx₀ hb dX5_weigh_52 (by decide) (fun c_10 => ?_) (fun c_10 => ?_)
        · refine lv_aload_n hx₀ hb dX5_weigh_141 rfl (lv_at hl 2 rfl) ?_
          refine lv_aload_n hx₀ hb dX5_weigh_142 rfl (lv_at hl 2 rfl) ?_
          obtain ⟨hPc, hDc, hFc, hC⟩ := k_cw (wc := [(kX5 aLu vLu y1z9 y2z9), (kAJ vLu cJ 46 qfz9)]) hP hD hS hA [3, 4] (by decide +kernel) rfl
          refine va_calll (va_runV (As := []) (rest := [.ref aLu]) ⟨hx₀, hb, hml, hown, hts⟩ (j_sum l dC dI cI cJ cQ H.size aLu vLu y1z9 y2z9 qfz9) (cwV 0 hts (kGV wd_793 wd_790 wd_791 wd_792 wd_38) rfl rfl rfl (by decide +kernel) ⟨Nat.le_of_ble_eq_true rfl, Nat.le_of_ble_eq_true rfl⟩) (k_preV5 (q0 := 0) hK hPc hDc hN rfl) rfl rfl hl.1 rfl (lv_room (Nat.le_of_ble_eq_true rfl)) dX5_weigh_143 ⟨by decide +kernel, by decide +kernel⟩) hS (fun q _ h => hFc q h) hFc (fun r_11 u₀ t₀ H1 locs ht hvm hw hB hz1 hk1 hS => ?_)
          obtain ⟨hP1, hK1, hD1⟩ := hB
          rw [ht] at hP1
          have hJ := k_jn (wr := [(kX10 aTr aLa aPa aGe gL gR lf rt tgo tca tki tso tbe twe tle tan tco ten), (kX4 aLa vLa l4 a4 n4), (kAI vLa cI 24 f4)]) (wt := [(kX10 aTr aLa aPa aGe gL gR lf rt tgo tca tki tso tbe twe tle tan tco ten), (kX4 aLa vLa l4 a4 n4), (kAI vLa cI 24 f4), (kX5 aLu vLu y1z9 y2z9), (kAJ vLu cJ 46 qfz9)]) hP hD hC [0, 1, 2] rfl (by decide +kernel) (by decide +kernel) hk1 hFc hP1 hD1 rfl
          clear hP hD hPc hDc hFc hC hP1 hD1 hK1 hz1 hk1 hvm ht
          obtain ⟨hP, hD⟩ := hJ
          generalize H1 = H at hP hS ⊢
          try dsimp only at hw
          refine va_put (D := (dC, dI)) (ci := 5) (v := .long r_11) (ty := .long) (C := RX5) (T := TX5) (N := 3) hx₀ hb hts inlX5 tyX5 tyX5_ok nmX5 hown hK hP hD hS 3 rfl rfl 1 (by decide) (hts (.fieldLink RX5 15 "BittenStick$Laughter" "above" "J") wd_777) (fun _ h9 => h9) rfl (by decide +kernel) rfl rfl (Nat.le_of_ble_eq_true rfl) dX5_weigh_146 ?_
          clear hP hD hS
          intro H locs hP hD hS
          replace hP := k_w2 (wt := [(kX10 aTr aLa aPa aGe gL gR lf rt tgo tca tki tso tbe twe tle tan tco ten), (kX4 aLa vLa l4 a4 n4), (kAI vLa cI 24 f4), (kX5 aLu vLu r_11 y2z9), (kAJ vLu cJ 46 qfz9)]) hP hD rfl
          replace hD := hP.2
          replace hP := hP.1
          refine lv_aload_n hx₀ hb dX5_weigh_149 rfl (lv_at hl 2 rfl) ?_
          obtain ⟨hPc, hDc, hFc, hC⟩ := k_cw (wc := [(kX5 aLu vLu r_11 y2z9), (kAJ vLu cJ 46 qfz9)]) hP hD hS hA [3, 4] (by decide +kernel) rfl
          refine va_callv (va_runV (As := []) (rest := []) ⟨hx₀, hb, hml, hown, hts⟩ (j_reduce l dC dI cI cJ cQ H.size aLu vLu r_11 y2z9 qfz9) (cwV 0 hts (kGV wd_804 wd_801 wd_802 wd_803 wd_38) rfl rfl rfl (by decide +kernel) ⟨Nat.le_of_ble_eq_true rfl, Nat.le_of_ble_eq_true rfl⟩) (k_preV5 (q0 := 0) hK hPc hDc hN rfl) rfl rfl hl.1 rfl (lv_room (Nat.le_of_ble_eq_true rfl)) dX5_weigh_150 ⟨by decide +kernel, by decide +kernel⟩) hS (fun q _ h => hFc q h) hFc (fun u₀ t₀ H1 locs ht hvm hw hB hz1 hk1 hS => ?_)
          obtain ⟨g_13, ga_14, gl_15, gb_16, gp_17⟩ := u₀
          obtain ⟨hP1, hK1, hD1⟩ := hB
          rw [ht] at hP1
          have hJ := k_jn (wr := [(kX10 aTr aLa aPa aGe gL gR lf rt tgo tca tki tso tbe twe tle tan tco ten), (kX4 aLa vLa l4 a4 n4), (kAI vLa cI 24 f4)]) (wt := [(kX10 aTr aLa aPa aGe gL gR lf rt tgo tca tki tso tbe twe tle tan tco ten), (kX4 aLa vLa l4 a4 n4), (kAI vLa cI 24 f4), (kX5 aLu vLu (gl_15 0) (gl_15 1)), (kAJ vLu cJ 46 qfz9)]) hP hD hC [0, 1, 2] rfl (by decide +kernel) (by decide +kernel) hk1 hFc hP1 hD1 rfl
          clear hP hD hPc hDc hFc hC hP1 hD1 hK1 hz1 hk1 hvm ht
          obtain ⟨hP, hD⟩ := hJ
          generalize H1 = H at hP hS ⊢
          obtain ⟨hP9, hD9⟩ := k_c2 (wc := [(kX5 aLu vLu (gl_15 0) (gl_15 1)), (kAJ vLu cJ 46 qfz9), (kX10 aTr aLa aPa aGe gL gR lf rt tgo tca tki tso tbe twe tle tan tco ten), (kX4 aLa vLa l4 a4 n4), (kAI vLa cI 24 f4)]) hP hD [3, 4, 0, 1, 2] (by decide +kernel) rfl
          exact W.vret hx₀ hb hr (fun t₀ ht hW => ⟨⟨(k_fn [], k_fa [], k_fl [(gl_15 0), (gl_15 1)], k_fL [qfz9], k_fp []), rfl, trivial, by rw [ht]; exact hP9, va_K.moved hW.alike hK, hD9⟩, hS.F ht⟩) hS.2.2 dX5_weigh_153
        · refine lv_iload hx₀ hb dX5_weigh_55 (lv_at hl 1 rfl) ?_
          refine lv_iconst (v := 0) hx₀ hb dX5_weigh_57 (by decide +kernel) ?_
          refine lv_iload_n hx₀ hb dX5_weigh_58 rfl (lv_at hl 5 rfl) ?_
          refine lv_iconst (v := 5) hx₀ hb dX5_weigh_59 (by decide +kernel) ?_
          refine lv_isub hx₀ hb dX5_weigh_60 ?_
          refine va_mmax hx₀ hb (by rw [hml]; exact hl.1.symm) hown (hts (.methodLink RX5 45 Lib.Math.max.name) wd_783) (hts (.static Lib.Math.max.name) wd_62) (hts (.initialized "java/lang/Math") wd_63) (hts (.code Lib.Math.max.name Lib.Math.max.code 2 (some .int)) wd_64) (by decide) (Nat.le_of_ble_eq_true rfl) (by decide) (by decide) dX5_weigh_61 ?_
          by_cases c_18 : (0 : Int32) < (h1 - 5)
          · refine k_topi (v := h1 - 5) (if_pos c_18) ?_
            refine lv_iadd hx₀ hb dX5_weigh_64 ?_
            refine lv_istore (lv' := [(4, .int (cdz9 + (h1 - 5))), (5, .int iz9), (0, .ref aLu), (1, .int c1), (2, .ref aTr), (3, .int h1)]) hx₀ hb dX5_weigh_65 hl (by decide) rfl (fun ls hl => ?_)
            refine lv_iload hx₀ hb dX5_weigh_67 (lv_at hl 0 rfl) ?_
            refine lv_bipush (v := 20) hx₀ hb dX5_weigh_69 (by decide +kernel) ?_
            refine lv_icmp_le (tgt := 80) hx₀ hb dX5_weigh_71 (by decide) (fun c_19 => ?_) (fun c_19 => ?_)
            · refine lv_aload_n hx₀ hb dX5_weigh_80 rfl (lv_at hl 4 rfl) ?_
              refine va_get (D := (dC, dI)) (ci := 9) (v := .ref aLa) (C := RX10) (T := TX10) (N := 17) hx₀ hb hts inlX10 hown hK hP 0 rfl rfl 0 (by decide) (hts (.fieldLink RX5 32 "BittenStick$Trip" "land" "LBittenStick$Land;") wd_781) (fun _ h9 => h9) rfl dX5_weigh_81 ?_
              refine lv_iload hx₀ hb dX5_weigh_84 (lv_at hl 1 rfl) ?_
              obtain ⟨hPc, hDc, hFc, hC⟩ := k_cw (wc := [(kX4 aLa vLa l4 a4 n4), (kAI vLa cI 24 f4)]) hP hD hS hA [1, 2] (by decide +kernel) rfl
              refine va_calli (va_runU (As := [.int iz9]) (rest := []) ⟨hx₀, hb, hml, hown, hts⟩ (j_valueAt_X4 l dC dI cI cJ cQ H.size aLa iz9 vLa l4 a4 n4 f4) (va_cwU 1 hts (kGU wd_179 wd_789 wd_288 wd_289 wd_178 wd_57) rfl rfl rfl rfl (by decide +kernel) ⟨Nat.le_of_ble_eq_true rfl, Nat.le_of_ble_eq_true rfl⟩) (k_preV4 (q0 := 0) hK hPc hDc hN rfl) rfl rfl hl.1 rfl (lv_room (Nat.le_of_ble_eq_true rfl)) dX5_weigh_86 ⟨by decide +kernel, by decide +kernel⟩) hS (fun q _ h => hFc q h) hFc (fun r_20 u₀ t₀ H1 locs ht hvm hw hB hz1 hk1 hS => ?_)
              obtain ⟨hP1, hK1, hD1⟩ := hB
              rw [ht] at hP1
              have hJ := k_jn (wr := [(kX10 aTr aLa aPa aGe gL gR lf rt tgo tca tki tso tbe twe tle tan tco ten), (kX5 aLu vLu y1z9 y2z9), (kAJ vLu cJ 46 qfz9)]) (wt := [(kX10 aTr aLa aPa aGe gL gR lf rt tgo tca tki tso tbe twe tle tan tco ten), (kX5 aLu vLu y1z9 y2z9), (kAJ vLu cJ 46 qfz9), (kX4 aLa vLa l4 a4 n4), (kAI vLa cI 24 f4)]) hP hD hC [0, 3, 4] rfl (by decide +kernel) (by decide +kernel) hk1 hFc hP1 hD1 rfl
              clear hP hD hPc hDc hFc hC hP1 hD1 hK1 hz1 hk1 hvm ht
              obtain ⟨hP, hD⟩ := hJ
              generalize H1 = H at hP hS ⊢
              try dsimp only at hw
              refine k_topi (v := kAt 24 f4 iz9) hw ?_
              refine lv_istore (lv' := [(6, .int (kAt 24 f4 iz9)), (4, .int (cdz9 + (h1 - 5))), (5, .int iz9), (0, .ref aLu), (1, .int c1), (2, .ref aTr), (3, .int h1)]) hx₀ hb dX5_weigh_89 hl (by decide) rfl (fun ls hl => ?_)
              refine lv_iload hx₀ hb dX5_weigh_91 (lv_at hl 0 rfl) ?_
              refine lv_bipush (v := 7) hx₀ hb dX5_weigh_93 (by decide +kernel) ?_
              refine lv_icmp_ne (tgt := 112) hx₀ hb dX5_weigh_95 (by decide) (fun c_21 => ?_) (fun c_21 => ?_)
              · refine lv_iload hx₀ hb dX5_weigh_112 (lv_at hl 0 rfl) ?_
                refine lv_bipush (v := 6) hx₀ hb dX5_weigh_114 (by decide +kernel) ?_
                refine lv_icmp_ge (tgt := 135) hx₀ hb dX5_weigh_116 (by decide) (fun c_22 => ?_) (fun c_22 => ?_)
                · refine lv_iinc (v := iz9 + 1) (lv' := [(5, .int (iz9 + 1)), (6, .int (kAt 24 f4 iz9)), (4, .int (cdz9 + (h1 - 5))), (0, .ref aLu), (1, .int c1), (2, .ref aTr), (3, .int h1)]) hx₀ hb dX5_weigh_135 hl (k := 2) rfl rfl (by decide) rfl (fun ls hl => ?_)
                  refine lv_goto (tgt := 43) hx₀ hb dX5_weigh_138 (by decide) ?_
                  exact ihz9 _ (lf_j_weigh_2 n4 tca iz9 jz9 c_2 hiz9_0 hjz9 c_10) (cdz9 + (h1 - 5)) (iz9 + 1) y1z9 y2z9 qfz9 _ _ _ (lf_j_weigh_1 n4 tca iz9 jz9 c_2 hiz9_0 hjz9 c_10) rfl (hP.sub [0, 3, 4, 1, 2] rfl) (hD.sub [0, 3, 4, 1, 2] (by decide +kernel) rfl) hS (lv_sub hl [0, 2, 3, 4, 5, 6] rfl)
                · refine lv_aload_n hx₀ hb dX5_weigh_119 rfl (lv_at hl 3 rfl) ?_
                  refine lv_iload_n hx₀ hb dX5_weigh_120 rfl (lv_at hl 4 rfl) ?_
                  refine lv_aload_n hx₀ hb dX5_weigh_121 rfl (lv_at hl 5 rfl) ?_
                  refine lv_iload hx₀ hb dX5_weigh_122 (lv_at hl 0 rfl) ?_
                  refine lv_iload_n hx₀ hb dX5_weigh_124 rfl (lv_at hl 6 rfl) ?_
                  obtain ⟨hPc, hDc, hFc, hC⟩ := k_cw (wc := [(kX10 aTr aLa aPa aGe gL gR lf rt tgo tca tki tso tbe twe tle tan tco ten)]) hP hD hS hA [0] (by decide +kernel) rfl
                  refine va_calli (va_runV (As := [.int (kAt 24 f4 iz9), .int h1]) (rest := [.int c1, .ref aLu]) ⟨hx₀, hb, hml, hown, hts⟩ (j_insult l dC dI cI cJ cQ H.size aTr (kAt 24 f4 iz9) h1 aLa aPa aGe gL gR lf rt tgo tca tki tso tbe twe tle tan tco ten) (cwV 2 hts (kGV wd_511 wd_794 wd_509 wd_510 wd_30) rfl rfl rfl (by decide +kernel) ⟨Nat.le_of_ble_eq_true rfl, Nat.le_of_ble_eq_true rfl⟩) (k_preV9 (q0 := 0) hK hPc hDc hN rfl) rfl rfl hl.1 rfl (lv_room (Nat.le_of_ble_eq_true rfl)) dX5_weigh_125 ⟨by decide +kernel, by decide +kernel⟩) hS (fun q _ h => hFc q h) hFc (fun r_23 u₀ t₀ H1 locs ht hvm hw hB hz1 hk1 hS => ?_)
                  obtain ⟨hP1, hK1, hD1⟩ := hB
                  rw [ht] at hP1
                  have hJ := k_jn (wr := [(kX5 aLu vLu y1z9 y2z9), (kAJ vLu cJ 46 qfz9), (kX4 aLa vLa l4 a4 n4), (kAI vLa cI 24 f4)]) (wt := [(kX5 aLu vLu y1z9 y2z9), (kAJ vLu cJ 46 qfz9), (kX4 aLa vLa l4 a4 n4), (kAI vLa cI 24 f4), (kX10 aTr aLa aPa aGe gL gR lf rt tgo tca tki tso tbe twe tle tan tco ten)]) hP hD hC [1, 2, 3, 4] rfl (by decide +kernel) (by decide +kernel) hk1 hFc hP1 hD1 rfl
                  clear hP hD hPc hDc hFc hC hP1 hD1 hK1 hz1 hk1 hvm ht
                  obtain ⟨hP, hD⟩ := hJ
                  generalize H1 = H at hP hS ⊢
                  try dsimp only at hw
                  refine k_topi (v := kIns ((tle >>> ((kAt 24 f4 iz9) &&& 31)) &&& 1) tki tso (kAt 24 f4 iz9) h1) hw ?_
                  refine lv_aload_n hx₀ hb dX5_weigh_128 rfl (lv_at hl 5 rfl) ?_
                  refine va_get (D := (dC, dI)) (ci := 9) (v := .int tbe) (C := RX10) (T := TX10) (N := 17) hx₀ hb hts inlX10 hown hK hP 4 rfl rfl 11 (by decide) (hts (.fieldLink RX5 62 "BittenStick$Trip" "bears" "I") wd_784) (fun _ h9 => h9) rfl dX5_weigh_129 ?_
                  obtain ⟨hPc, hDc, hFc, hC⟩ := k_cw (wc := [(kX5 aLu vLu y1z9 y2z9), (kAJ vLu cJ 46 qfz9)]) hP hD hS hA [0, 1] (by decide +kernel) rfl
                  refine va_callv (va_runV (As := [.int c1, .int (kIns ((tle >>> ((kAt 24 f4 iz9) &&& 31)) &&& 1) tki tso (kAt 24 f4 iz9) h1), .int tbe]) (rest := []) ⟨hx₀, hb, hml, hown, hts⟩ (j_hear l dC dI cI cJ cQ H.size aLu c1 (kIns ((tle >>> ((kAt 24 f4 iz9) &&& 31)) &&& 1) tki tso (kAt 24 f4 iz9) h1) tbe vLu y1z9 y2z9 qfz9) (cwV 3 hts (kGV wd_798 wd_795 wd_796 wd_797 wd_38) rfl rfl rfl (by decide +kernel) ⟨Nat.le_of_ble_eq_true rfl, Nat.le_of_ble_eq_true rfl⟩) (k_preV5 (q0 := 0) hK hPc hDc hN rfl) rfl rfl hl.1 rfl (lv_room (Nat.le_of_ble_eq_true rfl)) dX5_weigh_132 ⟨by decide +kernel, by decide +kernel⟩) hS (fun q _ h => hFc q h) hFc (fun u₀ t₀ H1 locs ht hvm hw hB hz1 hk1 hS => ?_)
                  obtain ⟨g_25, ga_26, gl_27, gb_28, gp_29⟩ := u₀
                  obtain ⟨hP1, hK1, hD1⟩ := hB
                  rw [ht] at hP1
                  have hJ := k_jn (wr := [(kX4 aLa vLa l4 a4 n4), (kAI vLa cI 24 f4), (kX10 aTr aLa aPa aGe gL gR lf rt tgo tca tki tso tbe twe tle tan tco ten)]) (wt := [(kX4 aLa vLa l4 a4 n4), (kAI vLa cI 24 f4), (kX10 aTr aLa aPa aGe gL gR lf rt tgo tca tki tso tbe twe tle tan tco ten), (kX5 aLu vLu y1z9 (gl_27 0)), (kAJ vLu cJ 46 (gb_28 0))]) hP hD hC [2, 3, 4] rfl (by decide +kernel) (by decide +kernel) hk1 hFc hP1 hD1 rfl
                  clear hP hD hPc hDc hFc hC hP1 hD1 hK1 hz1 hk1 hvm ht
                  obtain ⟨hP, hD⟩ := hJ
                  generalize H1 = H at hP hS ⊢
                  refine lv_iinc (v := iz9 + 1) (lv' := [(5, .int (iz9 + 1)), (6, .int (kAt 24 f4 iz9)), (4, .int (cdz9 + (h1 - 5))), (0, .ref aLu), (1, .int c1), (2, .ref aTr), (3, .int h1)]) hx₀ hb dX5_weigh_135 hl (k := 2) rfl rfl (by decide) rfl (fun ls hl => ?_)
                  refine lv_goto (tgt := 43) hx₀ hb dX5_weigh_138 (by decide) ?_
                  exact ihz9 _ (lf_j_weigh_2 n4 tca iz9 jz9 c_2 hiz9_0 hjz9 c_10) (cdz9 + (h1 - 5)) (iz9 + 1) y1z9 (gl_27 0) (gb_28 0) _ _ _ (lf_j_weigh_1 n4 tca iz9 jz9 c_2 hiz9_0 hjz9 c_10) rfl (hP.sub [2, 0, 1, 3, 4] rfl) (hD.sub [2, 0, 1, 3, 4] (by decide +kernel) rfl) hS (lv_sub hl [0, 2, 3, 4, 5, 6] rfl)
              · refine lv_aload_n hx₀ hb dX5_weigh_98 rfl (lv_at hl 3 rfl) ?_
                refine lv_aload_n hx₀ hb dX5_weigh_99 rfl (lv_at hl 3 rfl) ?_
                obtain ⟨hPc, hDc, hFc, hC⟩ := k_cw (wc := [(kX5 aLu vLu y1z9 y2z9), (kAJ vLu cJ 46 qfz9)]) hP hD hS hA [1, 2] (by decide +kernel) rfl
                refine va_calll (va_runV (As := []) (rest := [.ref aLu]) ⟨hx₀, hb, hml, hown, hts⟩ (j_sum l dC dI cI cJ cQ H.size aLu vLu y1z9 y2z9 qfz9) (cwV 0 hts (kGV wd_793 wd_790 wd_791 wd_792 wd_38) rfl rfl rfl (by decide +kernel) ⟨Nat.le_of_ble_eq_true rfl, Nat.le_of_ble_eq_true rfl⟩) (k_preV5 (q0 := 0) hK hPc hDc hN rfl) rfl rfl hl.1 rfl (lv_room (Nat.le_of_ble_eq_true rfl)) dX5_weigh_100 ⟨by decide +kernel, by decide +kernel⟩) hS (fun q _ h => hFc q h) hFc (fun r_30 u₀ t₀ H1 locs ht hvm hw hB hz1 hk1 hS => ?_)
                obtain ⟨hP1, hK1, hD1⟩ := hB
                rw [ht] at hP1
                have hJ := k_jn (wr := [(kX10 aTr aLa aPa aGe gL gR lf rt tgo tca tki tso tbe twe tle tan tco ten), (kX4 aLa vLa l4 a4 n4), (kAI vLa cI 24 f4)]) (wt := [(kX10 aTr aLa aPa aGe gL gR lf rt tgo tca tki tso tbe twe tle tan tco ten), (kX4 aLa vLa l4 a4 n4), (kAI vLa cI 24 f4), (kX5 aLu vLu y1z9 y2z9), (kAJ vLu cJ 46 qfz9)]) hP hD hC [0, 3, 4] rfl (by decide +kernel) (by decide +kernel) hk1 hFc hP1 hD1 rfl
                clear hP hD hPc hDc hFc hC hP1 hD1 hK1 hz1 hk1 hvm ht
                obtain ⟨hP, hD⟩ := hJ
                generalize H1 = H at hP hS ⊢
                try dsimp only at hw
                obtain ⟨hPc, hDc, hFc, hC⟩ := k_cw (wc := [(kX5 aLu vLu y1z9 y2z9), (kAJ vLu cJ 46 qfz9)]) hP hD hS hA [3, 4] (by decide +kernel) rfl
                refine va_callv (va_runV (As := [.long r_30]) (rest := []) ⟨hx₀, hb, hml, hown, hts⟩ (j_calm l dC dI cI cJ cQ H.size aLu r_30 vLu y1z9 y2z9 qfz9) (cwV 1 hts (kGV wd_788 wd_785 wd_786 wd_787 wd_38) rfl rfl rfl (by decide +kernel) ⟨Nat.le_of_ble_eq_true rfl, Nat.le_of_ble_eq_true rfl⟩) (k_preV5 (q0 := 0) hK hPc hDc hN rfl) rfl rfl hl.1 rfl (lv_room (Nat.le_of_ble_eq_true rfl)) dX5_weigh_103 ⟨by decide +kernel, by decide +kernel⟩) hS (fun q _ h => hFc q h) hFc (fun u₀ t₀ H1 locs ht hvm hw hB hz1 hk1 hS => ?_)
                obtain ⟨g_32, ga_33, gl_34, gb_35, gp_36⟩ := u₀
                obtain ⟨hP1, hK1, hD1⟩ := hB
                rw [ht] at hP1
                have hJ := k_jn (wr := [(kX10 aTr aLa aPa aGe gL gR lf rt tgo tca tki tso tbe twe tle tan tco ten), (kX4 aLa vLa l4 a4 n4), (kAI vLa cI 24 f4)]) (wt := [(kX10 aTr aLa aPa aGe gL gR lf rt tgo tca tki tso tbe twe tle tan tco ten), (kX4 aLa vLa l4 a4 n4), (kAI vLa cI 24 f4), (kX5 aLu vLu y1z9 y2z9), (kAJ vLu cJ 46 (gb_35 0))]) hP hD hC [0, 1, 2] rfl (by decide +kernel) (by decide +kernel) hk1 hFc hP1 hD1 rfl
                clear hP hD hPc hDc hFc hC hP1 hD1 hK1 hz1 hk1 hvm ht
                obtain ⟨hP, hD⟩ := hJ
                generalize H1 = H at hP hS ⊢
                refine lv_iconst (v := 0) hx₀ hb dX5_weigh_106 (by decide +kernel) ?_
                refine lv_istore (lv' := [(4, .int 0), (6, .int (kAt 24 f4 iz9)), (5, .int iz9), (0, .ref aLu), (1, .int c1), (2, .ref aTr), (3, .int h1)]) hx₀ hb dX5_weigh_107 hl (by decide) rfl (fun ls hl => ?_)
                refine lv_goto (tgt := 135) hx₀ hb dX5_weigh_109 (by decide) ?_
                refine lv_iinc (v := iz9 + 1) (lv' := [(5, .int (iz9 + 1)), (4, .int 0), (6, .int (kAt 24 f4 iz9)), (0, .ref aLu), (1, .int c1), (2, .ref aTr), (3, .int h1)]) hx₀ hb dX5_weigh_135 hl (k := 2) rfl rfl (by decide) rfl (fun ls hl => ?_)
                refine lv_goto (tgt := 43) hx₀ hb dX5_weigh_138 (by decide) ?_
                exact ihz9 _ (lf_j_weigh_2 n4 tca iz9 jz9 c_2 hiz9_0 hjz9 c_10) (0 : Int32) (iz9 + 1) y1z9 y2z9 (gb_35 0) _ _ _ (lf_j_weigh_1 n4 tca iz9 jz9 c_2 hiz9_0 hjz9 c_10) rfl (hP.sub [0, 1, 2, 3, 4] rfl) (hD.sub [0, 1, 2, 3, 4] (by decide +kernel) rfl) hS (lv_sub hl [0, 1, 3, 4, 5, 6] rfl)
            · refine lv_aload_n hx₀ hb dX5_weigh_74 rfl (lv_at hl 2 rfl) ?_
              refine lv_lconst (v := 1) hx₀ hb dX5_weigh_75 (by decide +kernel) ?_
              refine va_put (D := (dC, dI)) (ci := 5) (v := .long 1) (ty := .long) (C := RX5) (T := TX5) (N := 3) hx₀ hb hts inlX5 tyX5 tyX5_ok nmX5 hown hK hP hD hS 3 rfl rfl 2 (by decide) (hts (.fieldLink RX5 19 "BittenStick$Laughter" "below" "J") wd_778) (fun _ h9 => h9) rfl (by decide +kernel) rfl rfl (Nat.le_of_ble_eq_true rfl) dX5_weigh_76 ?_
              clear hP hD hS
              intro H locs hP hD hS
              replace hP := k_w2 (wt := [(kX10 aTr aLa aPa aGe gL gR lf rt tgo tca tki tso tbe twe tle tan tco ten), (kX4 aLa vLa l4 a4 n4), (kAI vLa cI 24 f4), (kX5 aLu vLu y1z9 1), (kAJ vLu cJ 46 qfz9)]) hP hD rfl
              replace hD := hP.2
              replace hP := hP.1
              obtain ⟨hP9, hD9⟩ := k_c2 (wc := [(kX5 aLu vLu y1z9 1), (kAJ vLu cJ 46 qfz9), (kX10 aTr aLa aPa aGe gL gR lf rt tgo tca tki tso tbe twe tle tan tco ten), (kX4 aLa vLa l4 a4 n4), (kAI vLa cI 24 f4)]) hP hD [3, 4, 0, 1, 2] (by decide +kernel) rfl
              exact W.vret hx₀ hb hr (fun t₀ ht hW => ⟨⟨(k_fn [], k_fa [], k_fl [y1z9, (1 : Int64)], k_fL [qfz9], k_fp []), rfl, trivial, by rw [ht]; exact hP9, va_K.moved hW.alike hK, hD9⟩, hS.F ht⟩) hS.2.2 dX5_weigh_79
          refine k_topi (v := 0) (if_neg c_18) ?_
          refine lv_iadd hx₀ hb dX5_weigh_64 ?_
          refine lv_istore (lv' := [(4, .int (cdz9 + 0)), (5, .int iz9), (0, .ref aLu), (1, .int c1), (2, .ref aTr), (3, .int h1)]) hx₀ hb dX5_weigh_65 hl (by decide) rfl (fun ls hl => ?_)
          refine lv_iload hx₀ hb dX5_weigh_67 (lv_at hl 0 rfl) ?_
          refine lv_bipush (v := 20) hx₀ hb dX5_weigh_69 (by decide +kernel) ?_
          refine lv_icmp_le (tgt := 80) hx₀ hb dX5_weigh_71 (by decide) (fun c_37 => ?_) (fun c_37 => ?_)
          · refine lv_aload_n hx₀ hb dX5_weigh_80 rfl (lv_at hl 4 rfl) ?_
            refine va_get (D := (dC, dI)) (ci := 9) (v := .ref aLa) (C := RX10) (T := TX10) (N := 17) hx₀ hb hts inlX10 hown hK hP 0 rfl rfl 0 (by decide) (hts (.fieldLink RX5 32 "BittenStick$Trip" "land" "LBittenStick$Land;") wd_781) (fun _ h9 => h9) rfl dX5_weigh_81 ?_
            refine lv_iload hx₀ hb dX5_weigh_84 (lv_at hl 1 rfl) ?_
            obtain ⟨hPc, hDc, hFc, hC⟩ := k_cw (wc := [(kX4 aLa vLa l4 a4 n4), (kAI vLa cI 24 f4)]) hP hD hS hA [1, 2] (by decide +kernel) rfl
            refine va_calli (va_runU (As := [.int iz9]) (rest := []) ⟨hx₀, hb, hml, hown, hts⟩ (j_valueAt_X4 l dC dI cI cJ cQ H.size aLa iz9 vLa l4 a4 n4 f4) (va_cwU 1 hts (kGU wd_179 wd_789 wd_288 wd_289 wd_178 wd_57) rfl rfl rfl rfl (by decide +kernel) ⟨Nat.le_of_ble_eq_true rfl, Nat.le_of_ble_eq_true rfl⟩) (k_preV4 (q0 := 0) hK hPc hDc hN rfl) rfl rfl hl.1 rfl (lv_room (Nat.le_of_ble_eq_true rfl)) dX5_weigh_86 ⟨by decide +kernel, by decide +kernel⟩) hS (fun q _ h => hFc q h) hFc (fun r_38 u₀ t₀ H1 locs ht hvm hw hB hz1 hk1 hS => ?_)
            obtain ⟨hP1, hK1, hD1⟩ := hB
            rw [ht] at hP1
            have hJ := k_jn (wr := [(kX10 aTr aLa aPa aGe gL gR lf rt tgo tca tki tso tbe twe tle tan tco ten), (kX5 aLu vLu y1z9 y2z9), (kAJ vLu cJ 46 qfz9)]) (wt := [(kX10 aTr aLa aPa aGe gL gR lf rt tgo tca tki tso tbe twe tle tan tco ten), (kX5 aLu vLu y1z9 y2z9), (kAJ vLu cJ 46 qfz9), (kX4 aLa vLa l4 a4 n4), (kAI vLa cI 24 f4)]) hP hD hC [0, 3, 4] rfl (by decide +kernel) (by decide +kernel) hk1 hFc hP1 hD1 rfl
            clear hP hD hPc hDc hFc hC hP1 hD1 hK1 hz1 hk1 hvm ht
            obtain ⟨hP, hD⟩ := hJ
            generalize H1 = H at hP hS ⊢
            try dsimp only at hw
            refine k_topi (v := kAt 24 f4 iz9) hw ?_
            refine lv_istore (lv' := [(6, .int (kAt 24 f4 iz9)), (4, .int (cdz9 + 0)), (5, .int iz9), (0, .ref aLu), (1, .int c1), (2, .ref aTr), (3, .int h1)]) hx₀ hb dX5_weigh_89 hl (by decide) rfl (fun ls hl => ?_)
            refine lv_iload hx₀ hb dX5_weigh_91 (lv_at hl 0 rfl) ?_
            refine lv_bipush (v := 7) hx₀ hb dX5_weigh_93 (by decide +kernel) ?_
            refine lv_icmp_ne (tgt := 112) hx₀ hb dX5_weigh_95 (by decide) (fun c_39 => ?_) (fun c_39 => ?_)
            · refine lv_iload hx₀ hb dX5_weigh_112 (lv_at hl 0 rfl) ?_
              refine lv_bipush (v := 6) hx₀ hb dX5_weigh_114 (by decide +kernel) ?_
              refine lv_icmp_ge (tgt := 135) hx₀ hb dX5_weigh_116 (by decide) (fun c_40 => ?_) (fun c_40 => ?_)
              · refine lv_iinc (v := iz9 + 1) (lv' := [(5, .int (iz9 + 1)), (6, .int (kAt 24 f4 iz9)), (4, .int (cdz9 + 0)), (0, .ref aLu), (1, .int c1), (2, .ref aTr), (3, .int h1)]) hx₀ hb dX5_weigh_135 hl (k := 2) rfl rfl (by decide) rfl (fun ls hl => ?_)
                refine lv_goto (tgt := 43) hx₀ hb dX5_weigh_138 (by decide) ?_
                exact ihz9 _ (lf_j_weigh_2 n4 tca iz9 jz9 c_2 hiz9_0 hjz9 c_10) (cdz9 + 0) (iz9 + 1) y1z9 y2z9 qfz9 _ _ _ (lf_j_weigh_1 n4 tca iz9 jz9 c_2 hiz9_0 hjz9 c_10) rfl (hP.sub [0, 3, 4, 1, 2] rfl) (hD.sub [0, 3, 4, 1, 2] (by decide +kernel) rfl) hS (lv_sub hl [0, 2, 3, 4, 5, 6] rfl)
              · refine lv_aload_n hx₀ hb dX5_weigh_119 rfl (lv_at hl 3 rfl) ?_
                refine lv_iload_n hx₀ hb dX5_weigh_120 rfl (lv_at hl 4 rfl) ?_
                refine lv_aload_n hx₀ hb dX5_weigh_121 rfl (lv_at hl 5 rfl) ?_
                refine lv_iload hx₀ hb dX5_weigh_122 (lv_at hl 0 rfl) ?_
                refine lv_iload_n hx₀ hb dX5_weigh_124 rfl (lv_at hl 6 rfl) ?_
                obtain ⟨hPc, hDc, hFc, hC⟩ := k_cw (wc := [(kX10 aTr aLa aPa aGe gL gR lf rt tgo tca tki tso tbe twe tle tan tco ten)]) hP hD hS hA [0] (by decide +kernel) rfl
                refine va_calli (va_runV (As := [.int (kAt 24 f4 iz9), .int h1]) (rest := [.int c1, .ref aLu]) ⟨hx₀, hb, hml, hown, hts⟩ (j_insult l dC dI cI cJ cQ H.size aTr (kAt 24 f4 iz9) h1 aLa aPa aGe gL gR lf rt tgo tca tki tso tbe twe tle tan tco ten) (cwV 2 hts (kGV wd_511 wd_794 wd_509 wd_510 wd_30) rfl rfl rfl (by decide +kernel) ⟨Nat.le_of_ble_eq_true rfl, Nat.le_of_ble_eq_true rfl⟩) (k_preV9 (q0 := 0) hK hPc hDc hN rfl) rfl rfl hl.1 rfl (lv_room (Nat.le_of_ble_eq_true rfl)) dX5_weigh_125 ⟨by decide +kernel, by decide +kernel⟩) hS (fun q _ h => hFc q h) hFc (fun r_41 u₀ t₀ H1 locs ht hvm hw hB hz1 hk1 hS => ?_)
                obtain ⟨hP1, hK1, hD1⟩ := hB
                rw [ht] at hP1
                have hJ := k_jn (wr := [(kX5 aLu vLu y1z9 y2z9), (kAJ vLu cJ 46 qfz9), (kX4 aLa vLa l4 a4 n4), (kAI vLa cI 24 f4)]) (wt := [(kX5 aLu vLu y1z9 y2z9), (kAJ vLu cJ 46 qfz9), (kX4 aLa vLa l4 a4 n4), (kAI vLa cI 24 f4), (kX10 aTr aLa aPa aGe gL gR lf rt tgo tca tki tso tbe twe tle tan tco ten)]) hP hD hC [1, 2, 3, 4] rfl (by decide +kernel) (by decide +kernel) hk1 hFc hP1 hD1 rfl
                clear hP hD hPc hDc hFc hC hP1 hD1 hK1 hz1 hk1 hvm ht
                obtain ⟨hP, hD⟩ := hJ
                generalize H1 = H at hP hS ⊢
                try dsimp only at hw
                refine k_topi (v := kIns ((tle >>> ((kAt 24 f4 iz9) &&& 31)) &&& 1) tki tso (kAt 24 f4 iz9) h1) hw ?_
                refine lv_aload_n hx₀ hb dX5_weigh_128 rfl (lv_at hl 5 rfl) ?_
                refine va_get (D := (dC, dI)) (ci := 9) (v := .int tbe) (C := RX10) (T := TX10) (N := 17) hx₀ hb hts inlX10 hown hK hP 4 rfl rfl 11 (by decide) (hts (.fieldLink RX5 62 "BittenStick$Trip" "bears" "I") wd_784) (fun _ h9 => h9) rfl dX5_weigh_129 ?_
                obtain ⟨hPc, hDc, hFc, hC⟩ := k_cw (wc := [(kX5 aLu vLu y1z9 y2z9), (kAJ vLu cJ 46 qfz9)]) hP hD hS hA [0, 1] (by decide +kernel) rfl
                refine va_callv (va_runV (As := [.int c1, .int (kIns ((tle >>> ((kAt 24 f4 iz9) &&& 31)) &&& 1) tki tso (kAt 24 f4 iz9) h1), .int tbe]) (rest := []) ⟨hx₀, hb, hml, hown, hts⟩ (j_hear l dC dI cI cJ cQ H.size aLu c1 (kIns ((tle >>> ((kAt 24 f4 iz9) &&& 31)) &&& 1) tki tso (kAt 24 f4 iz9) h1) tbe vLu y1z9 y2z9 qfz9) (cwV 3 hts (kGV wd_798 wd_795 wd_796 wd_797 wd_38) rfl rfl rfl (by decide +kernel) ⟨Nat.le_of_ble_eq_true rfl, Nat.le_of_ble_eq_true rfl⟩) (k_preV5 (q0 := 0) hK hPc hDc hN rfl) rfl rfl hl.1 rfl (lv_room (Nat.le_of_ble_eq_true rfl)) dX5_weigh_132 ⟨by decide +kernel, by decide +kernel⟩) hS (fun q _ h => hFc q h) hFc (fun u₀ t₀ H1 locs ht hvm hw hB hz1 hk1 hS => ?_)
                obtain ⟨g_43, ga_44, gl_45, gb_46, gp_47⟩ := u₀
                obtain ⟨hP1, hK1, hD1⟩ := hB
                rw [ht] at hP1
                have hJ := k_jn (wr := [(kX4 aLa vLa l4 a4 n4), (kAI vLa cI 24 f4), (kX10 aTr aLa aPa aGe gL gR lf rt tgo tca tki tso tbe twe tle tan tco ten)]) (wt := [(kX4 aLa vLa l4 a4 n4), (kAI vLa cI 24 f4), (kX10 aTr aLa aPa aGe gL gR lf rt tgo tca tki tso tbe twe tle tan tco ten), (kX5 aLu vLu y1z9 (gl_45 0)), (kAJ vLu cJ 46 (gb_46 0))]) hP hD hC [2, 3, 4] rfl (by decide +kernel) (by decide +kernel) hk1 hFc hP1 hD1 rfl
                clear hP hD hPc hDc hFc hC hP1 hD1 hK1 hz1 hk1 hvm ht
                obtain ⟨hP, hD⟩ := hJ
                generalize H1 = H at hP hS ⊢
                refine lv_iinc (v := iz9 + 1) (lv' := [(5, .int (iz9 + 1)), (6, .int (kAt 24 f4 iz9)), (4, .int (cdz9 + 0)), (0, .ref aLu), (1, .int c1), (2, .ref aTr), (3, .int h1)]) hx₀ hb dX5_weigh_135 hl (k := 2) rfl rfl (by decide) rfl (fun ls hl => ?_)
                refine lv_goto (tgt := 43) hx₀ hb dX5_weigh_138 (by decide) ?_
                exact ihz9 _ (lf_j_weigh_2 n4 tca iz9 jz9 c_2 hiz9_0 hjz9 c_10) (cdz9 + 0) (iz9 + 1) y1z9 (gl_45 0) (gb_46 0) _ _ _ (lf_j_weigh_1 n4 tca iz9 jz9 c_2 hiz9_0 hjz9 c_10) rfl (hP.sub [2, 0, 1, 3, 4] rfl) (hD.sub [2, 0, 1, 3, 4] (by decide +kernel) rfl) hS (lv_sub hl [0, 2, 3, 4, 5, 6] rfl)
            · refine lv_aload_n hx₀ hb dX5_weigh_98 rfl (lv_at hl 3 rfl) ?_
              refine lv_aload_n hx₀ hb dX5_weigh_99 rfl (lv_at hl 3 rfl) ?_
              obtain ⟨hPc, hDc, hFc, hC⟩ := k_cw (wc := [(kX5 aLu vLu y1z9 y2z9), (kAJ vLu cJ 46 qfz9)]) hP hD hS hA [1, 2] (by decide +kernel) rfl
              refine va_calll (va_runV (As := []) (rest := [.ref aLu]) ⟨hx₀, hb, hml, hown, hts⟩ (j_sum l dC dI cI cJ cQ H.size aLu vLu y1z9 y2z9 qfz9) (cwV 0 hts (kGV wd_793 wd_790 wd_791 wd_792 wd_38) rfl rfl rfl (by decide +kernel) ⟨Nat.le_of_ble_eq_true rfl, Nat.le_of_ble_eq_true rfl⟩) (k_preV5 (q0 := 0) hK hPc hDc hN rfl) rfl rfl hl.1 rfl (lv_room (Nat.le_of_ble_eq_true rfl)) dX5_weigh_100 ⟨by decide +kernel, by decide +kernel⟩) hS (fun q _ h => hFc q h) hFc (fun r_48 u₀ t₀ H1 locs ht hvm hw hB hz1 hk1 hS => ?_)
              obtain ⟨hP1, hK1, hD1⟩ := hB
              rw [ht] at hP1
              have hJ := k_jn (wr := [(kX10 aTr aLa aPa aGe gL gR lf rt tgo tca tki tso tbe twe tle tan tco ten), (kX4 aLa vLa l4 a4 n4), (kAI vLa cI 24 f4)]) (wt := [(kX10 aTr aLa aPa aGe gL gR lf rt tgo tca tki tso tbe twe tle tan tco ten), (kX4 aLa vLa l4 a4 n4), (kAI vLa cI 24 f4), (kX5 aLu vLu y1z9 y2z9), (kAJ vLu cJ 46 qfz9)]) hP hD hC [0, 3, 4] rfl (by decide +kernel) (by decide +kernel) hk1 hFc hP1 hD1 rfl
              clear hP hD hPc hDc hFc hC hP1 hD1 hK1 hz1 hk1 hvm ht
              obtain ⟨hP, hD⟩ := hJ
              generalize H1 = H at hP hS ⊢
              try dsimp only at hw
              obtain ⟨hPc, hDc, hFc, hC⟩ := k_cw (wc := [(kX5 aLu vLu y1z9 y2z9), (kAJ vLu cJ 46 qfz9)]) hP hD hS hA [3, 4] (by decide +kernel) rfl
              refine va_callv (va_runV (As := [.long r_48]) (rest := []) ⟨hx₀, hb, hml, hown, hts⟩ (j_calm l dC dI cI cJ cQ H.size aLu r_48 vLu y1z9 y2z9 qfz9) (cwV 1 hts (kGV wd_788 wd_785 wd_786 wd_787 wd_38) rfl rfl rfl (by decide +kernel) ⟨Nat.le_of_ble_eq_true rfl, Nat.le_of_ble_eq_true rfl⟩) (k_preV5 (q0 := 0) hK hPc hDc hN rfl) rfl rfl hl.1 rfl (lv_room (Nat.le_of_ble_eq_true rfl)) dX5_weigh_103 ⟨by decide +kernel, by decide +kernel⟩) hS (fun q _ h => hFc q h) hFc (fun u₀ t₀ H1 locs ht hvm hw hB hz1 hk1 hS => ?_)
              obtain ⟨g_50, ga_51, gl_52, gb_53, gp_54⟩ := u₀
              obtain ⟨hP1, hK1, hD1⟩ := hB
              rw [ht] at hP1
              have hJ := k_jn (wr := [(kX10 aTr aLa aPa aGe gL gR lf rt tgo tca tki tso tbe twe tle tan tco ten), (kX4 aLa vLa l4 a4 n4), (kAI vLa cI 24 f4)]) (wt := [(kX10 aTr aLa aPa aGe gL gR lf rt tgo tca tki tso tbe twe tle tan tco ten), (kX4 aLa vLa l4 a4 n4), (kAI vLa cI 24 f4), (kX5 aLu vLu y1z9 y2z9), (kAJ vLu cJ 46 (gb_53 0))]) hP hD hC [0, 1, 2] rfl (by decide +kernel) (by decide +kernel) hk1 hFc hP1 hD1 rfl
              clear hP hD hPc hDc hFc hC hP1 hD1 hK1 hz1 hk1 hvm ht
              obtain ⟨hP, hD⟩ := hJ
              generalize H1 = H at hP hS ⊢
              refine lv_iconst (v := 0) hx₀ hb dX5_weigh_106 (by decide +kernel) ?_
              refine lv_istore (lv' := [(4, .int 0), (6, .int (kAt 24 f4 iz9)), (5, .int iz9), (0, .ref aLu), (1, .int c1), (2, .ref aTr), (3, .int h1)]) hx₀ hb dX5_weigh_107 hl (by decide) rfl (fun ls hl => ?_)
              refine lv_goto (tgt := 135) hx₀ hb dX5_weigh_109 (by decide) ?_
              refine lv_iinc (v := iz9 + 1) (lv' := [(5, .int (iz9 + 1)), (4, .int 0), (6, .int (kAt 24 f4 iz9)), (0, .ref aLu), (1, .int c1), (2, .ref aTr), (3, .int h1)]) hx₀ hb dX5_weigh_135 hl (k := 2) rfl rfl (by decide) rfl (fun ls hl => ?_)
              refine lv_goto (tgt := 43) hx₀ hb dX5_weigh_138 (by decide) ?_
              exact ihz9 _ (lf_j_weigh_2 n4 tca iz9 jz9 c_2 hiz9_0 hjz9 c_10) (0 : Int32) (iz9 + 1) y1z9 y2z9 (gb_53 0) _ _ _ (lf_j_weigh_1 n4 tca iz9 jz9 c_2 hiz9_0 hjz9 c_10) rfl (hP.sub [0, 1, 2, 3, 4] rfl) (hD.sub [0, 1, 2, 3, 4] (by decide +kernel) rfl) hS (lv_sub hl [0, 1, 3, 4, 5, 6] rfl)
          · refine lv_aload_n hx₀ hb dX5_weigh_74 rfl (lv_at hl 2 rfl) ?_
            refine lv_lconst (v := 1) hx₀ hb dX5_weigh_75 (by decide +kernel) ?_
            refine va_put (D := (dC, dI)) (ci := 5) (v := .long 1) (ty := .long) (C := RX5) (T := TX5) (N := 3) hx₀ hb hts inlX5 tyX5 tyX5_ok nmX5 hown hK hP hD hS 3 rfl rfl 2 (by decide) (hts (.fieldLink RX5 19 "BittenStick$Laughter" "below" "J") wd_778) (fun _ h9 => h9) rfl (by decide +kernel) rfl rfl (Nat.le_of_ble_eq_true rfl) dX5_weigh_76 ?_
            clear hP hD hS
            intro H locs hP hD hS
            replace hP := k_w2 (wt := [(kX10 aTr aLa aPa aGe gL gR lf rt tgo tca tki tso tbe twe tle tan tco ten), (kX4 aLa vLa l4 a4 n4), (kAI vLa cI 24 f4), (kX5 aLu vLu y1z9 1), (kAJ vLu cJ 46 qfz9)]) hP hD rfl
            replace hD := hP.2
            replace hP := hP.1
            obtain ⟨hP9, hD9⟩ := k_c2 (wc := [(kX5 aLu vLu y1z9 1), (kAJ vLu cJ 46 qfz9), (kX10 aTr aLa aPa aGe gL gR lf rt tgo tca tki tso tbe twe tle tan tco ten), (kX4 aLa vLa l4 a4 n4), (kAI vLa cI 24 f4)]) hP hD [3, 4, 0, 1, 2] (by decide +kernel) rfl
            exact W.vret hx₀ hb hr (fun t₀ ht hW => ⟨⟨(k_fn [], k_fa [], k_fl [y1z9, (1 : Int64)], k_fL [qfz9], k_fp []), rfl, trivial, by rw [ht]; exact hP9, va_K.moved hW.alike hK, hD9⟩, hS.F ht⟩) hS.2.2 dX5_weigh_79
    · obtain ⟨hP9, hD9⟩ := k_c2 (wc := [(kX5 aLu vLu 0 1), (kAJ vLu cJ 46 fl), (kX10 aTr aLa aPa aGe gL gR lf rt tgo tca tki tso tbe twe tle tan tco ten), (kX4 aLa vLa l4 a4 n4), (kAI vLa cI 24 f4)]) hP hD [0, 1, 2, 3, 4] (by decide +kernel) rfl
      exact W.vret hx₀ hb hr (fun t₀ ht hW => ⟨⟨(k_fn [], k_fa [], k_fl [(0 : Int64), (1 : Int64)], k_fL [fl], k_fp []), rfl, trivial, by rw [ht]; exact hP9, va_K.moved hW.alike hK, hD9⟩, hS.F ht⟩) hS.2.2 dX5_weigh_31
