theorem lf_j_again_X4_1 (a0 : Int32) (a1 : Int32) (a2 : Nat) (a3 : Int32) (h0 : 0 ≤ a0 ∧ a0 ≤ 24) (h1 : 0 ≤ a1) (h2 : (a0.toInt - a1.toInt).toNat = a2) (h3 : a0 ≤ a1) (h4 : a3 = (-1)) (h5 : a0 = (-1)) : False := by
  first | rfl | assumption | decide | exact Or.inl rfl | (first | rfl | assumption | decide | omega | (have hr0 := Int32.toInt_lt a0; have hs0 := Int32.le_toInt a0; have hr1 := Int32.toInt_lt a1; have hs1 := Int32.le_toInt a1; have hr2 := Int32.toInt_lt a3; have hs2 := Int32.le_toInt a3; simp only [Int64.toInt_add, Int64.toInt_sub, Int32.toInt_add, Int32.toInt_sub, Int32.toInt_mul, Int64.le_iff_toInt_le, Int64.lt_iff_toInt_lt, Int32.le_iff_toInt_le, Int32.lt_iff_toInt_lt, ← Int32.toInt_inj, ← Int64.toInt_inj, Int32.toInt_toInt64, kc_m1, kc_0, kc_1, kc_24, true_and, and_true, not_true_eq_false, not_false_eq_true] at * <;> ((first | omega | ((try simp (disch := omega) only [k_bm64] at *); (try simp (disch := omega) only [k_bm] at *); (try simp (disch := omega) only [k_bm] at *); omega) | (simp only [Int.bmod] at *; omega)))))
theorem lf_j_again_X4_2 (a0 : Int32) (a1 : Int32) (a2 : Nat) (h0 : 0 ≤ a0 ∧ a0 ≤ 24) (h1 : 0 ≤ a1) (h2 : (a0.toInt - a1.toInt).toNat = a2) (h3 : ¬ a0 ≤ a1) : 0 ≤ (a1 + 1) := by
  first | rfl | assumption | decide | exact Or.inl rfl | (first | rfl | assumption | decide | omega | (have hr0 := Int32.toInt_lt a0; have hs0 := Int32.le_toInt a0; have hr1 := Int32.toInt_lt a1; have hs1 := Int32.le_toInt a1; simp only [Int64.toInt_add, Int64.toInt_sub, Int32.toInt_add, Int32.toInt_sub, Int32.toInt_mul, Int64.le_iff_toInt_le, Int64.lt_iff_toInt_lt, Int32.le_iff_toInt_le, Int32.lt_iff_toInt_lt, ← Int32.toInt_inj, ← Int64.toInt_inj, Int32.toInt_toInt64, kc_0, kc_1, kc_24, true_and, and_true, not_true_eq_false, not_false_eq_true] at * <;> ((first | omega | ((try simp (disch := omega) only [k_bm64] at *); (try simp (disch := omega) only [k_bm] at *); (try simp (disch := omega) only [k_bm] at *); omega) | (simp only [Int.bmod] at *; omega)))))
theorem lf_j_again_X4_3 (a0 : Int32) (a1 : Int32) (a2 : Nat) (h0 : 0 ≤ a0 ∧ a0 ≤ 24) (h1 : 0 ≤ a1) (h2 : (a0.toInt - a1.toInt).toNat = a2) (h3 : ¬ a0 ≤ a1) : 0 ≤ a1 ∧ a1 < 24 := by
  first | rfl | assumption | decide | exact Or.inl rfl | (first | rfl | assumption | decide | omega | (have hr0 := Int32.toInt_lt a0; have hs0 := Int32.le_toInt a0; have hr1 := Int32.toInt_lt a1; have hs1 := Int32.le_toInt a1; simp only [Int64.toInt_add, Int64.toInt_sub, Int32.toInt_add, Int32.toInt_sub, Int32.toInt_mul, Int64.le_iff_toInt_le, Int64.lt_iff_toInt_lt, Int32.le_iff_toInt_le, Int32.lt_iff_toInt_lt, ← Int32.toInt_inj, ← Int64.toInt_inj, Int32.toInt_toInt64, kc_0, kc_24, true_and, and_true, not_true_eq_false, not_false_eq_true] at * <;> ((first | omega | ((try simp (disch := omega) only [k_bm64] at *); (try simp (disch := omega) only [k_bm] at *); (try simp (disch := omega) only [k_bm] at *); omega) | (simp only [Int.bmod] at *; omega)))))
theorem lf_j_again_X4_4 (a0 : Int32) (a1 : Int32) (a2 : Nat) (h0 : 0 ≤ a0 ∧ a0 ≤ 24) (h1 : 0 ≤ a1) (h2 : (a0.toInt - a1.toInt).toNat = a2) (h3 : ¬ a0 ≤ a1) : (a0.toInt - (a1 + 1).toInt).toNat < a2 := by
  first | rfl | assumption | decide | exact Or.inl rfl | (first | rfl | assumption | decide | omega | (have hr0 := Int32.toInt_lt a0; have hs0 := Int32.le_toInt a0; have hr1 := Int32.toInt_lt a1; have hs1 := Int32.le_toInt a1; simp only [Int64.toInt_add, Int64.toInt_sub, Int32.toInt_add, Int32.toInt_sub, Int32.toInt_mul, Int64.le_iff_toInt_le, Int64.lt_iff_toInt_lt, Int32.le_iff_toInt_le, Int32.lt_iff_toInt_lt, ← Int32.toInt_inj, ← Int64.toInt_inj, Int32.toInt_toInt64, kc_0, kc_1, kc_24, true_and, and_true, not_true_eq_false, not_false_eq_true] at * <;> ((first | omega | ((try simp (disch := omega) only [k_bm64] at *); (try simp (disch := omega) only [k_bm] at *); (try simp (disch := omega) only [k_bm] at *); omega) | (simp only [Int.bmod] at *; omega)))))
set_option maxHeartbeats 4000000 in
set_option maxRecDepth 100000 in
theorem j_again_X4 (l : Launch) (dC : Nat → ClassId) (dI : Nat → Nat → Nat) (cI cJ cQ : ClassId) (sz : Nat) (ah : Nat) (av : Nat) (ln : Int32) (fa : Int32) (nu : Int32) (tf : Nat → Int32) (hh0 : 0 ≤ ln ∧ ln ≤ 24) : Met l yX9_readAgain (kW yX9_readAgain cX9_readAgain 2 none) { frames := 1, cells := 0, slots := 0, locals := 21 } (kPre dC dI cI cJ cQ sz [.ref ah] [(kX4 ah av ln fa nu), (kAI av cI 24 tf)]) (va_Qv (fun (u : kS) => ((u.1 0) = kFt ln ln tf) ∧ ((u.1 1) = kNm ln ln tf) ∧ (0 ≤ (u.1 1) ∧ (u.1 1) ≤ 24)) (fun (u : kS) t₀ => kB dC dI cI cJ cQ (va_A [(kX4 ah av ln fa nu), (kAI av cI 24 tf)] sz) [(kX4 ah av ln (u.1 0) (u.1 1)), (kAI av cI 24 tf)] t₀) (va_A [(kX4 ah av ln fa nu), (kAI av cI 24 tf)] sz)) 0 0 (va_A [(kX4 ah av ln fa nu), (kAI av cI 24 tf)] sz) := by
  refine Met.ofW (cc := cX9_readAgain) (maxL := 2) (ret := none) (by decide) rfl ?_
  intro p₀ e₀ s₀ m₀ args below meth c₀ s₁ B hml hv₀
  obtain ⟨rfl, hsz, hP, hK, hD0, hN⟩ := hv₀
  have hx₀ := B.exec
  have hb := B.bytes
  have hr := B.returns
  have hts := atoms_spec (ws := (kW yX9_readAgain cX9_readAgain 2 none)) B.pre
  have hts := fun w h => hts w (List.mem_cons_of_mem _ h)
  have hown : s₀.vm.findClass RX9 = some m₀.cls := findClass_of_methodNamed B.named
  have hlocks := B.notSynchronized
  subst hsz
  have hD := hD0.self (sz := s₀.heap.size)
  generalize hAe : va_A [(kX4 ah av ln fa nu), (kAI av cI 24 tf)] s₀.heap.size = A at hD ⊢
  have hA : ∀ q : Nat, s₀.heap.size ≤ q → A q := fun q h => by rw [← hAe]; exact Or.inr h
  have hS : va_S A s₀.heap s₀.heap [] := va_S.rf
  have hP : va_P (dC, dI) vwCl [(kX4 ah av ln fa nu), (kAI av cI 24 tf)] s₀.heap := hP
  have hl := lv_entry ([.ref ah]) (n := 2) (Nat.le_of_ble_eq_true rfl)
  rw [lg_entry_eq]
  generalize (lg_sl ([.ref ah]) ++ List.replicate (2 - (lg_sl ([.ref ah])).length) Slot.unset).toArray = ls at hl ⊢
  have hl : lv_has ls 2 [(0, .ref ah)] := hl
  obtain ⟨H, hH⟩ : ∃ z : Heap, z = s₀.heap := ⟨_, rfl⟩
  rw [← hH] at hP
  have hS : va_S A s₀.heap H [] := by rw [hH]; exact hS
  refine k_heap hH ?_
  have hD : va_D A [(kX4 ah av ln fa nu), (kAI av cI 24 tf)] := hD
  obtain ⟨locs, hlo⟩ : ∃ z : List Loc, z = [] := ⟨_, rfl⟩
  rw [← hlo] at hS ⊢
  clear hlo hH hAe hD0
  refine lv_aload_n hx₀ hb dX9_readAgain_0 rfl (lv_at hl 0 rfl) ?_
  refine lv_iconst (v := (-1)) hx₀ hb dX9_readAgain_1 (by decide +kernel) ?_
  refine va_put (D := (dC, dI)) (ci := 4) (v := .int (-1)) (ty := .int) (C := RX4) (T := TX4) (N := 4) hx₀ hb hts inlX4 tyX4 tyX4_ok nmX4 hown hK hP hD hS 0 rfl rfl 2 (by decide) (hts (.fieldLink RX9 9 "BittenStick$Text" "faultAt" "I") wd_60) (fun _ h9 => h9) rfl (by decide +kernel) rfl rfl (Nat.le_of_ble_eq_true rfl) dX9_readAgain_2 ?_
  clear hP hD hS
  intro H locs hP hD hS
  replace hP := k_w2 (wt := [(kX4 ah av ln (-1) nu), (kAI av cI 24 tf)]) hP hD rfl
  replace hD := hP.2
  replace hP := hP.1
  refine lv_iconst (v := 0) hx₀ hb dX9_readAgain_5 (by decide +kernel) ?_
  refine lv_istore_n (lv' := [(1, .int 0), (0, .ref ah)]) hx₀ hb dX9_readAgain_6 rfl hl (by decide) rfl (fun ls hl => ?_)
  refine (?keyz1 : ∀ (jz1 : Nat) (iz1 : Int32) (faz1 : Int32) (H : Heap) (locs : List Loc) (ls : Array Slot), (0 ≤ iz1) → (k_ra tf ln iz1 faz1) → ((ln.toInt - iz1.toInt).toNat = jz1) → va_P (dC, dI) vwCl [(kX4 ah av ln faz1 nu), (kAI av cI 24 tf)] H → va_D A [(kX4 ah av ln faz1 nu), (kAI av cI 24 tf)] → va_S A s₀.heap H locs → lv_has ls 2 [(1, .int iz1), (0, .ref ah)] → W p₀ l e₀ _ s₀ m₀ _ below meth c₀ H locs _ _ _ (F0 m₀ 7 ls [])) _ (0 : Int32) (-1 : Int32) H locs ls (show 0 ≤ (0 : Int32) from (by decide)) (k_ra_0) rfl hP hD hS hl
  clear hP hD hS hl
  intro jz1
  induction jz1 using Nat.strongRecOn with
  | ind jz1 ihz1 =>
    intro iz1 faz1 H locs ls hiz1_0 hiz1_1 hjz1 hP hD hS hl
    refine lv_iload_n hx₀ hb dX9_readAgain_7 rfl (lv_at hl 0 rfl) ?_
    refine lv_aload_n hx₀ hb dX9_readAgain_8 rfl (lv_at hl 1 rfl) ?_
    refine va_get (D := (dC, dI)) (ci := 4) (v := .int ln) (C := RX4) (T := TX4) (N := 4) hx₀ hb hts inlX4 hown hK hP 0 rfl rfl 1 (by decide) (hts (.fieldLink RX9 25 "BittenStick$Text" "length" "I") wd_147) (fun _ h9 => h9) rfl dX9_readAgain_9 ?_
    refine lv_icmp_ge (tgt := 43) hx₀ hb dX9_readAgain_12 (by decide) (fun c_2 => ?_) (fun c_2 => ?_)
    · refine lv_aload_n hx₀ hb dX9_readAgain_43 rfl (lv_at hl 1 rfl) ?_
      refine lv_aload_n hx₀ hb dX9_readAgain_44 rfl (lv_at hl 1 rfl) ?_
      refine va_get (D := (dC, dI)) (ci := 4) (v := .int ln) (C := RX4) (T := TX4) (N := 4) hx₀ hb hts inlX4 hown hK hP 0 rfl rfl 1 (by decide) (hts (.fieldLink RX9 25 "BittenStick$Text" "length" "I") wd_147) (fun _ h9 => h9) rfl dX9_readAgain_45 ?_
      obtain ⟨hPc, hDc, hFc, hC⟩ := k_cw (wc := [(kX4 ah av ln faz1 nu)]) hP hD hS hA [0] (by decide +kernel) rfl
      refine va_calli (va_runU (As := [.int ln]) (rest := []) ⟨hx₀, hb, hml, hown, hts⟩ (j_things_X4 l dC dI cI cJ cQ H.size ah ln av ln faz1 nu) (va_cwA 1 hts (kGU wd_189 wd_182 wd_183 wd_187 wd_188 wd_14) rfl rfl rfl hN.2.1 (by decide +kernel) ⟨Nat.le_of_ble_eq_true rfl, Nat.le_of_ble_eq_true rfl⟩) (k_preV4 (q0 := 0) hK hPc hDc hN rfl) rfl rfl hl.1 rfl (lv_room (Nat.le_of_ble_eq_true rfl)) dX9_readAgain_48 ⟨by decide +kernel, by decide +kernel⟩) hS (fun q _ h => hFc q h) hFc (fun r_3 u₀ t₀ H1 locs ht hvm hw hB hz1 hk1 hS => ?_)
      obtain ⟨hP1, hK1, hD1⟩ := hB
      rw [ht] at hP1
      have hJ := k_jn (wr := [(kAI av cI 24 tf)]) (wt := [(kAI av cI 24 tf), (kX4 ah av ln faz1 nu)]) hP hD hC [1] rfl (by decide +kernel) (by decide +kernel) hk1 hFc hP1 hD1 rfl
      clear hP hD hPc hDc hFc hC hP1 hD1 hK1 hz1 hk1 hvm ht
      obtain ⟨hP, hD⟩ := hJ
      generalize H1 = H at hP hS ⊢
      try dsimp only at hw
      refine k_topi (v := ln) hw ?_
      refine lv_istore_n (lv' := [(1, .int ln), (0, .ref ah)]) hx₀ hb dX9_readAgain_51 rfl hl (by decide) rfl (fun ls hl => ?_)
      refine lv_aload_n hx₀ hb dX9_readAgain_52 rfl (lv_at hl 1 rfl) ?_
      refine va_get (D := (dC, dI)) (ci := 4) (v := .int faz1) (C := RX4) (T := TX4) (N := 4) hx₀ hb hts inlX4 hown hK hP 1 rfl rfl 2 (by decide) (hts (.fieldLink RX9 9 "BittenStick$Text" "faultAt" "I") wd_60) (fun _ h9 => h9) rfl dX9_readAgain_53 ?_
      refine lv_iconst (v := (-1)) hx₀ hb dX9_readAgain_56 (by decide +kernel) ?_
      refine lv_icmp_ne (tgt := 73) hx₀ hb dX9_readAgain_57 (by decide) (fun c_4 => ?_) (fun c_4 => ?_)
      · refine lv_aload_n hx₀ hb dX9_readAgain_73 rfl (lv_at hl 1 rfl) ?_
        refine lv_aload_n hx₀ hb dX9_readAgain_74 rfl (lv_at hl 1 rfl) ?_
        refine va_get (D := (dC, dI)) (ci := 4) (v := .int faz1) (C := RX4) (T := TX4) (N := 4) hx₀ hb hts inlX4 hown hK hP 1 rfl rfl 2 (by decide) (hts (.fieldLink RX9 9 "BittenStick$Text" "faultAt" "I") wd_60) (fun _ h9 => h9) rfl dX9_readAgain_75 ?_
        refine lv_iconst (v := (-1)) hx₀ hb dX9_readAgain_78 (by decide +kernel) ?_
        refine lv_icmp_ne (tgt := 86) hx₀ hb dX9_readAgain_79 (by decide) (fun _ => ?_) (fun c9 => absurd c9 c_4)
        refine lv_iconst (v := 0) hx₀ hb dX9_readAgain_86 (by decide +kernel) ?_
        refine va_put (D := (dC, dI)) (ci := 4) (v := .int 0) (ty := .int) (C := RX4) (T := TX4) (N := 4) hx₀ hb hts inlX4 tyX4 tyX4_ok nmX4 hown hK hP hD hS 1 rfl rfl 3 (by decide) (hts (.fieldLink RX9 37 "BittenStick$Text" "number" "I") wd_174) (fun _ h9 => h9) rfl (by decide +kernel) rfl rfl (Nat.le_of_ble_eq_true rfl) dX9_readAgain_87 ?_
        clear hP hD hS
        intro H locs hP hD hS
        replace hP := k_w2 (wt := [(kAI av cI 24 tf), (kX4 ah av ln faz1 0)]) hP hD rfl
        replace hD := hP.2
        replace hP := hP.1
        obtain ⟨hP9, hD9⟩ := k_c2 (wc := [(kX4 ah av ln faz1 0), (kAI av cI 24 tf)]) hP hD [1, 0] (by decide +kernel) rfl
        exact W.vret hx₀ hb hr (fun t₀ ht hW => ⟨⟨(k_fn [faz1, (0 : Int32)], k_fa [], k_fl [], k_fL [], k_fp []), rfl, ⟨((k_ra_C (th := ln) hiz1_1 c_4 (hh0.1)).1), ((k_ra_C (th := ln) hiz1_1 c_4 (hh0.1)).2), (show 0 ≤ (0 : Int32) ∧ (0 : Int32) ≤ 24 from ⟨(by decide), (by decide)⟩)⟩, by rw [ht]; exact hP9, va_K.moved hW.alike hK, hD9⟩, hS.F ht⟩) hS.2.2 dX9_readAgain_90
      · refine lv_iload_n hx₀ hb dX9_readAgain_60 rfl (lv_at hl 0 rfl) ?_
        refine lv_iconst (v := (-1)) hx₀ hb dX9_readAgain_61 (by decide +kernel) ?_
        refine lv_icmp_ne (tgt := 73) hx₀ hb dX9_readAgain_62 (by decide) (fun c_6 => ?_) (fun c9 => (lf_j_again_X4_1 ln iz1 jz1 faz1 hh0 hiz1_0 hjz1 c_2 c_4 c9).elim)
        refine lv_aload_n hx₀ hb dX9_readAgain_73 rfl (lv_at hl 1 rfl) ?_
        refine lv_aload_n hx₀ hb dX9_readAgain_74 rfl (lv_at hl 1 rfl) ?_
        refine va_get (D := (dC, dI)) (ci := 4) (v := .int faz1) (C := RX4) (T := TX4) (N := 4) hx₀ hb hts inlX4 hown hK hP 1 rfl rfl 2 (by decide) (hts (.fieldLink RX9 9 "BittenStick$Text" "faultAt" "I") wd_60) (fun _ h9 => h9) rfl dX9_readAgain_75 ?_
        refine lv_iconst (v := (-1)) hx₀ hb dX9_readAgain_78 (by decide +kernel) ?_
        refine lv_icmp_ne (tgt := 86) hx₀ hb dX9_readAgain_79 (by decide) (fun c9 => absurd c_4 c9) (fun _ => ?_)
        refine lv_iload_n hx₀ hb dX9_readAgain_82 rfl (lv_at hl 0 rfl) ?_
        refine lv_goto (tgt := 87) hx₀ hb dX9_readAgain_83 (by decide) ?_
        refine va_put (D := (dC, dI)) (ci := 4) (v := .int ln) (ty := .int) (C := RX4) (T := TX4) (N := 4) hx₀ hb hts inlX4 tyX4 tyX4_ok nmX4 hown hK hP hD hS 1 rfl rfl 3 (by decide) (hts (.fieldLink RX9 37 "BittenStick$Text" "number" "I") wd_174) (fun _ h9 => h9) rfl (by decide +kernel) rfl rfl (Nat.le_of_ble_eq_true rfl) dX9_readAgain_87 ?_
        clear hP hD hS
        intro H locs hP hD hS
        replace hP := k_w2 (wt := [(kAI av cI 24 tf), (kX4 ah av ln faz1 ln)]) hP hD rfl
        replace hD := hP.2
        replace hP := hP.1
        obtain ⟨hP9, hD9⟩ := k_c2 (wc := [(kX4 ah av ln faz1 ln), (kAI av cI 24 tf)]) hP hD [1, 0] (by decide +kernel) rfl
        exact W.vret hx₀ hb hr (fun t₀ ht hW => ⟨⟨(k_fn [faz1, ln], k_fa [], k_fl [], k_fL [], k_fp []), rfl, ⟨((k_ra_B (th := ln) hiz1_1 c_4 (hh0.1) c_2 c_6).1), ((k_ra_B (th := ln) hiz1_1 c_4 (hh0.1) c_2 c_6).2), hh0⟩, by rw [ht]; exact hP9, va_K.moved hW.alike hK, hD9⟩, hS.F ht⟩) hS.2.2 dX9_readAgain_90
    · refine lv_aload_n hx₀ hb dX9_readAgain_15 rfl (lv_at hl 1 rfl) ?_
      refine va_get (D := (dC, dI)) (ci := 4) (v := .int faz1) (C := RX4) (T := TX4) (N := 4) hx₀ hb hts inlX4 hown hK hP 0 rfl rfl 2 (by decide) (hts (.fieldLink RX9 9 "BittenStick$Text" "faultAt" "I") wd_60) (fun _ h9 => h9) rfl dX9_readAgain_16 ?_
      refine lv_iconst (v := (-1)) hx₀ hb dX9_readAgain_19 (by decide +kernel) ?_
      refine lv_icmp_ne (tgt := 43) hx₀ hb dX9_readAgain_20 (by decide) (fun c_8 => ?_) (fun c_8 => ?_)
      · refine lv_aload_n hx₀ hb dX9_readAgain_43 rfl (lv_at hl 1 rfl) ?_
        refine lv_aload_n hx₀ hb dX9_readAgain_44 rfl (lv_at hl 1 rfl) ?_
        refine va_get (D := (dC, dI)) (ci := 4) (v := .int ln) (C := RX4) (T := TX4) (N := 4) hx₀ hb hts inlX4 hown hK hP 0 rfl rfl 1 (by decide) (hts (.fieldLink RX9 25 "BittenStick$Text" "length" "I") wd_147) (fun _ h9 => h9) rfl dX9_readAgain_45 ?_
        obtain ⟨hPc, hDc, hFc, hC⟩ := k_cw (wc := [(kX4 ah av ln faz1 nu)]) hP hD hS hA [0] (by decide +kernel) rfl
        refine va_calli (va_runU (As := [.int ln]) (rest := []) ⟨hx₀, hb, hml, hown, hts⟩ (j_things_X4 l dC dI cI cJ cQ H.size ah ln av ln faz1 nu) (va_cwA 1 hts (kGU wd_189 wd_182 wd_183 wd_187 wd_188 wd_14) rfl rfl rfl hN.2.1 (by decide +kernel) ⟨Nat.le_of_ble_eq_true rfl, Nat.le_of_ble_eq_true rfl⟩) (k_preV4 (q0 := 0) hK hPc hDc hN rfl) rfl rfl hl.1 rfl (lv_room (Nat.le_of_ble_eq_true rfl)) dX9_readAgain_48 ⟨by decide +kernel, by decide +kernel⟩) hS (fun q _ h => hFc q h) hFc (fun r_9 u₀ t₀ H1 locs ht hvm hw hB hz1 hk1 hS => ?_)
        obtain ⟨hP1, hK1, hD1⟩ := hB
        rw [ht] at hP1
        have hJ := k_jn (wr := [(kAI av cI 24 tf)]) (wt := [(kAI av cI 24 tf), (kX4 ah av ln faz1 nu)]) hP hD hC [1] rfl (by decide +kernel) (by decide +kernel) hk1 hFc hP1 hD1 rfl
        clear hP hD hPc hDc hFc hC hP1 hD1 hK1 hz1 hk1 hvm ht
        obtain ⟨hP, hD⟩ := hJ
        generalize H1 = H at hP hS ⊢
        try dsimp only at hw
        refine k_topi (v := ln) hw ?_
        refine lv_istore_n (lv' := [(1, .int ln), (0, .ref ah)]) hx₀ hb dX9_readAgain_51 rfl hl (by decide) rfl (fun ls hl => ?_)
        refine lv_aload_n hx₀ hb dX9_readAgain_52 rfl (lv_at hl 1 rfl) ?_
        refine va_get (D := (dC, dI)) (ci := 4) (v := .int faz1) (C := RX4) (T := TX4) (N := 4) hx₀ hb hts inlX4 hown hK hP 1 rfl rfl 2 (by decide) (hts (.fieldLink RX9 9 "BittenStick$Text" "faultAt" "I") wd_60) (fun _ h9 => h9) rfl dX9_readAgain_53 ?_
        refine lv_iconst (v := (-1)) hx₀ hb dX9_readAgain_56 (by decide +kernel) ?_
        refine lv_icmp_ne (tgt := 73) hx₀ hb dX9_readAgain_57 (by decide) (fun _ => ?_) (fun c9 => absurd c9 c_8)
        refine lv_aload_n hx₀ hb dX9_readAgain_73 rfl (lv_at hl 1 rfl) ?_
        refine lv_aload_n hx₀ hb dX9_readAgain_74 rfl (lv_at hl 1 rfl) ?_
        refine va_get (D := (dC, dI)) (ci := 4) (v := .int faz1) (C := RX4) (T := TX4) (N := 4) hx₀ hb hts inlX4 hown hK hP 1 rfl rfl 2 (by decide) (hts (.fieldLink RX9 9 "BittenStick$Text" "faultAt" "I") wd_60) (fun _ h9 => h9) rfl dX9_readAgain_75 ?_
        refine lv_iconst (v := (-1)) hx₀ hb dX9_readAgain_78 (by decide +kernel) ?_
        refine lv_icmp_ne (tgt := 86) hx₀ hb dX9_readAgain_79 (by decide) (fun _ => ?_) (fun c9 => absurd c9 c_8)
        refine lv_iconst (v := 0) hx₀ hb dX9_readAgain_86 (by decide +kernel) ?_
        refine va_put (D := (dC, dI)) (ci := 4) (v := .int 0) (ty := .int) (C := RX4) (T := TX4) (N := 4) hx₀ hb hts inlX4 tyX4 tyX4_ok nmX4 hown hK hP hD hS 1 rfl rfl 3 (by decide) (hts (.fieldLink RX9 37 "BittenStick$Text" "number" "I") wd_174) (fun _ h9 => h9) rfl (by decide +kernel) rfl rfl (Nat.le_of_ble_eq_true rfl) dX9_readAgain_87 ?_
        clear hP hD hS
        intro H locs hP hD hS
        replace hP := k_w2 (wt := [(kAI av cI 24 tf), (kX4 ah av ln faz1 0)]) hP hD rfl
        replace hD := hP.2
        replace hP := hP.1
        obtain ⟨hP9, hD9⟩ := k_c2 (wc := [(kX4 ah av ln faz1 0), (kAI av cI 24 tf)]) hP hD [1, 0] (by decide +kernel) rfl
        exact W.vret hx₀ hb hr (fun t₀ ht hW => ⟨⟨(k_fn [faz1, (0 : Int32)], k_fa [], k_fl [], k_fL [], k_fp []), rfl, ⟨((k_ra_C (th := ln) hiz1_1 c_8 (hh0.1)).1), ((k_ra_C (th := ln) hiz1_1 c_8 (hh0.1)).2), (show 0 ≤ (0 : Int32) ∧ (0 : Int32) ≤ 24 from ⟨(by decide), (by decide)⟩)⟩, by rw [ht]; exact hP9, va_K.moved hW.alike hK, hD9⟩, hS.F ht⟩) hS.2.2 dX9_readAgain_90
      · refine lv_aload_n hx₀ hb dX9_readAgain_23 rfl (lv_at hl 1 rfl) ?_
        refine lv_iload_n hx₀ hb dX9_readAgain_24 rfl (lv_at hl 0 rfl) ?_
        obtain ⟨hPc, hDc, hFc, hC⟩ := k_cw (wc := [(kX4 ah av ln faz1 nu), (kAI av cI 24 tf)]) hP hD hS hA [0, 1] (by decide +kernel) rfl
        refine va_calli (va_runU (As := [.int iz1]) (rest := []) ⟨hx₀, hb, hml, hown, hts⟩ (j_valueAt_X4 l dC dI cI cJ cQ H.size ah iz1 av ln faz1 nu tf) (va_cwU 1 hts (kGU wd_179 wd_175 wd_176 wd_180 wd_178 wd_57) rfl rfl rfl rfl (by decide +kernel) ⟨Nat.le_of_ble_eq_true rfl, Nat.le_of_ble_eq_true rfl⟩) (k_preV4 (q0 := 0) hK hPc hDc hN rfl) rfl rfl hl.1 rfl (lv_room (Nat.le_of_ble_eq_true rfl)) dX9_readAgain_25 ⟨by decide +kernel, by decide +kernel⟩) hS (fun q _ h => hFc q h) hFc (fun r_12 u₀ t₀ H1 locs ht hvm hw hB hz1 hk1 hS => ?_)
        obtain ⟨hP1, hK1, hD1⟩ := hB
        rw [ht] at hP1
        have hJ := k_jn (wr := []) (wt := [(kX4 ah av ln faz1 nu), (kAI av cI 24 tf)]) hP hD hC [] rfl (by decide +kernel) (by decide +kernel) hk1 hFc hP1 hD1 rfl
        clear hP hD hPc hDc hFc hC hP1 hD1 hK1 hz1 hk1 hvm ht
        obtain ⟨hP, hD⟩ := hJ
        generalize H1 = H at hP hS ⊢
        try dsimp only at hw
        refine k_topi (v := kAt 24 tf iz1) hw ?_
        refine lv_iconst (v := (-1)) hx₀ hb dX9_readAgain_28 (by decide +kernel) ?_
        refine lv_icmp_ne (tgt := 37) hx₀ hb dX9_readAgain_29 (by decide) (fun c_13 => ?_) (fun c_13 => ?_)
        · refine lv_iinc (v := iz1 + 1) (lv' := [(1, .int (iz1 + 1)), (0, .ref ah)]) hx₀ hb dX9_readAgain_37 hl (k := 0) rfl rfl (by decide) rfl (fun ls hl => ?_)
          refine lv_goto (tgt := 7) hx₀ hb dX9_readAgain_40 (by decide) ?_
          exact ihz1 _ (lf_j_again_X4_4 ln iz1 jz1 hh0 hiz1_0 hjz1 c_2) (iz1 + 1) faz1 _ _ _ (lf_j_again_X4_2 ln iz1 jz1 hh0 hiz1_0 hjz1 c_2) (k_ra_s hiz1_1 c_8 (hiz1_0) c_2 (fun q => c_13 ((kAt_eq (lf_j_again_X4_3 ln iz1 jz1 hh0 hiz1_0 hjz1 c_2)).trans q))) rfl (hP.sub [0, 1] rfl) (hD.sub [0, 1] (by decide +kernel) rfl) hS (lv_sub hl [0, 1] rfl)
        · refine lv_aload_n hx₀ hb dX9_readAgain_32 rfl (lv_at hl 1 rfl) ?_
          refine lv_iload_n hx₀ hb dX9_readAgain_33 rfl (lv_at hl 0 rfl) ?_
          refine va_put (D := (dC, dI)) (ci := 4) (v := .int iz1) (ty := .int) (C := RX4) (T := TX4) (N := 4) hx₀ hb hts inlX4 tyX4 tyX4_ok nmX4 hown hK hP hD hS 0 rfl rfl 2 (by decide) (hts (.fieldLink RX9 9 "BittenStick$Text" "faultAt" "I") wd_60) (fun _ h9 => h9) rfl (by decide +kernel) rfl rfl (Nat.le_of_ble_eq_true rfl) dX9_readAgain_34 ?_
          clear hP hD hS
          intro H locs hP hD hS
          replace hP := k_w2 (wt := [(kX4 ah av ln iz1 nu), (kAI av cI 24 tf)]) hP hD rfl
          replace hD := hP.2
          replace hP := hP.1
          refine lv_iinc (v := iz1 + 1) (lv' := [(1, .int (iz1 + 1)), (0, .ref ah)]) hx₀ hb dX9_readAgain_37 hl (k := 0) rfl rfl (by decide) rfl (fun ls hl => ?_)
          refine lv_goto (tgt := 7) hx₀ hb dX9_readAgain_40 (by decide) ?_
          exact ihz1 _ (lf_j_again_X4_4 ln iz1 jz1 hh0 hiz1_0 hjz1 c_2) (iz1 + 1) iz1 _ _ _ (lf_j_again_X4_2 ln iz1 jz1 hh0 hiz1_0 hjz1 c_2) (k_ra_b hiz1_1 c_8 (hiz1_0) c_2 ((kAt_eq (lf_j_again_X4_3 ln iz1 jz1 hh0 hiz1_0 hjz1 c_2)).symm.trans c_13)) rfl (hP.sub [0, 1] rfl) (hD.sub [0, 1] (by decide +kernel) rfl) hS (lv_sub hl [0, 1] rfl)
theorem lf_j_append_X4_1 (a0 : Int32) (h0 : 0 ≤ a0 ∧ a0 < 24) (h1 : ¬ a0 < 0) (h2 : ¬ 24 ≤ a0) : 0 ≤ a0.toInt ∧ a0.toInt < 24 := by
  first | rfl | assumption | decide | exact Or.inl rfl | (first | rfl | assumption | decide | omega | (have hr0 := Int32.toInt_lt a0; have hs0 := Int32.le_toInt a0; simp only [Int64.toInt_add, Int64.toInt_sub, Int32.toInt_add, Int32.toInt_sub, Int32.toInt_mul, Int64.le_iff_toInt_le, Int64.lt_iff_toInt_lt, Int32.le_iff_toInt_le, Int32.lt_iff_toInt_lt, ← Int32.toInt_inj, ← Int64.toInt_inj, Int32.toInt_toInt64, kc_0, kc_24, true_and, and_true, not_true_eq_false, not_false_eq_true] at * <;> ((first | omega | ((try simp (disch := omega) only [k_bm64] at *); (try simp (disch := omega) only [k_bm] at *); (try simp (disch := omega) only [k_bm] at *); omega) | (simp only [Int.bmod] at *; omega)))))
theorem lf_j_append_X4_2 (a0 : Int32) (h0 : 0 ≤ a0 ∧ a0 < 24) (h1 : ¬ a0 < 0) (h2 : ¬ 24 ≤ a0) : 0 ≤ (a0 + 1) ∧ (a0 + 1) ≤ 24 := by
  first | rfl | assumption | decide | exact Or.inl rfl | (first | rfl | assumption | decide | omega | (have hr0 := Int32.toInt_lt a0; have hs0 := Int32.le_toInt a0; simp only [Int64.toInt_add, Int64.toInt_sub, Int32.toInt_add, Int32.toInt_sub, Int32.toInt_mul, Int64.le_iff_toInt_le, Int64.lt_iff_toInt_lt, Int32.le_iff_toInt_le, Int32.lt_iff_toInt_lt, ← Int32.toInt_inj, ← Int64.toInt_inj, Int32.toInt_toInt64, kc_0, kc_1, kc_24, true_and, and_true, not_true_eq_false, not_false_eq_true] at * <;> ((first | omega | ((try simp (disch := omega) only [k_bm64] at *); (try simp (disch := omega) only [k_bm] at *); (try simp (disch := omega) only [k_bm] at *); omega) | (simp only [Int.bmod] at *; omega)))))
set_option maxHeartbeats 4000000 in
set_option maxRecDepth 100000 in
theorem j_append_X4 (l : Launch) (dC : Nat → ClassId) (dI : Nat → Nat → Nat) (cI cJ cQ : ClassId) (sz : Nat) (ah : Nat) (b1 : Int32) (av : Nat) (ln : Int32) (fa : Int32) (nu : Int32) (tf : Nat → Int32) (hh0 : 0 ≤ ln ∧ ln < 24) : Met l yX9_append (kW yX9_append cX9_append 2 none) { frames := 2, cells := 0, slots := 0, locals := 42 } (kPre dC dI cI cJ cQ sz [.ref ah, .int b1] [(kX4 ah av ln fa nu), (kAI av cI 24 tf)]) (va_Qv (fun (u : kS) => ((u.1 0) = kFt (ln + 1) (ln + 1) (upd tf ln.toNatClampNeg (wL b1))) ∧ ((u.1 1) = kNm (ln + 1) (ln + 1) (upd tf ln.toNatClampNeg (wL b1))) ∧ (0 ≤ (u.1 1) ∧ (u.1 1) ≤ 24)) (fun (u : kS) t₀ => kB dC dI cI cJ cQ (va_A [(kX4 ah av ln fa nu), (kAI av cI 24 tf)] sz) [(kX4 ah av (ln + 1) (u.1 0) (u.1 1)), (kAI av cI 24 (upd tf ln.toNatClampNeg (wL b1)))] t₀) (va_A [(kX4 ah av ln fa nu), (kAI av cI 24 tf)] sz)) 0 0 (va_A [(kX4 ah av ln fa nu), (kAI av cI 24 tf)] sz) := by
  refine Met.ofW (cc := cX9_append) (maxL := 2) (ret := none) (by decide) rfl ?_
  intro p₀ e₀ s₀ m₀ args below meth c₀ s₁ B hml hv₀
  obtain ⟨rfl, hsz, hP, hK, hD0, hN⟩ := hv₀
  have hx₀ := B.exec
  have hb := B.bytes
  have hr := B.returns
  have hts := atoms_spec (ws := (kW yX9_append cX9_append 2 none)) B.pre
  have hts := fun w h => hts w (List.mem_cons_of_mem _ h)
  have hown : s₀.vm.findClass RX9 = some m₀.cls := findClass_of_methodNamed B.named
  have hlocks := B.notSynchronized
  subst hsz
  have hD := hD0.self (sz := s₀.heap.size)
  generalize hAe : va_A [(kX4 ah av ln fa nu), (kAI av cI 24 tf)] s₀.heap.size = A at hD ⊢
  have hA : ∀ q : Nat, s₀.heap.size ≤ q → A q := fun q h => by rw [← hAe]; exact Or.inr h
  have hS : va_S A s₀.heap s₀.heap [] := va_S.rf
  have hP : va_P (dC, dI) vwCl [(kX4 ah av ln fa nu), (kAI av cI 24 tf)] s₀.heap := hP
  have hl := lv_entry ([.ref ah, .int b1]) (n := 2) (Nat.le_of_ble_eq_true rfl)
  rw [lg_entry_eq]
  generalize (lg_sl ([.ref ah, .int b1]) ++ List.replicate (2 - (lg_sl ([.ref ah, .int b1])).length) Slot.unset).toArray = ls at hl ⊢
  have hl : lv_has ls 2 [(0, .ref ah), (1, .int b1)] := hl
  obtain ⟨H, hH⟩ : ∃ z : Heap, z = s₀.heap := ⟨_, rfl⟩
  rw [← hH] at hP
  have hS : va_S A s₀.heap H [] := by rw [hH]; exact hS
  refine k_heap hH ?_
  have hD : va_D A [(kX4 ah av ln fa nu), (kAI av cI 24 tf)] := hD
  obtain ⟨locs, hlo⟩ : ∃ z : List Loc, z = [] := ⟨_, rfl⟩
  rw [← hlo] at hS ⊢
  clear hlo hH hAe hD0
  refine lv_aload_n hx₀ hb dX9_append_0 rfl (lv_at hl 0 rfl) ?_
  refine va_get (D := (dC, dI)) (ci := 4) (v := .int ln) (C := RX4) (T := TX4) (N := 4) hx₀ hb hts inlX4 hown hK hP 0 rfl rfl 1 (by decide) (hts (.fieldLink RX9 25 "BittenStick$Text" "length" "I") wd_147) (fun _ h9 => h9) rfl dX9_append_1 ?_
  refine lv_if_lt (tgt := 51) hx₀ hb dX9_append_4 (by decide) (fun c9 => ((show ¬ (ln < 0) from (Int32.not_lt.mpr hh0.1)) c9).elim) (fun c_1 => ?_)
  refine lv_aload_n hx₀ hb dX9_append_7 rfl (lv_at hl 0 rfl) ?_
  refine va_get (D := (dC, dI)) (ci := 4) (v := .int ln) (C := RX4) (T := TX4) (N := 4) hx₀ hb hts inlX4 hown hK hP 0 rfl rfl 1 (by decide) (hts (.fieldLink RX9 25 "BittenStick$Text" "length" "I") wd_147) (fun _ h9 => h9) rfl dX9_append_8 ?_
  refine lv_aload_n hx₀ hb dX9_append_11 rfl (lv_at hl 0 rfl) ?_
  refine va_get (D := (dC, dI)) (ci := 4) (v := .ref av) (C := RX4) (T := TX4) (N := 4) hx₀ hb hts inlX4 hown hK hP 0 rfl rfl 0 (by decide) (hts (.fieldLink RX9 21 "BittenStick$Text" "values" "[I") wd_65) (fun _ h9 => h9) rfl dX9_append_12 ?_
  refine va_alen (v := 24) hx₀ hb hK hP 1 0 rfl rfl rfl dX9_append_15 ?_
  refine lv_icmp_ge (tgt := 51) hx₀ hb dX9_append_16 (by decide) (fun c9 => ((show ¬ (24 ≤ ln) from (Int32.not_le.mpr hh0.2)) c9).elim) (fun c_2 => ?_)
  refine lv_aload_n hx₀ hb dX9_append_19 rfl (lv_at hl 0 rfl) ?_
  refine va_get (D := (dC, dI)) (ci := 4) (v := .ref av) (C := RX4) (T := TX4) (N := 4) hx₀ hb hts inlX4 hown hK hP 0 rfl rfl 0 (by decide) (hts (.fieldLink RX9 21 "BittenStick$Text" "values" "[I") wd_65) (fun _ h9 => h9) rfl dX9_append_20 ?_
  refine lv_aload_n hx₀ hb dX9_append_23 rfl (lv_at hl 0 rfl) ?_
  refine va_get (D := (dC, dI)) (ci := 4) (v := .int ln) (C := RX4) (T := TX4) (N := 4) hx₀ hb hts inlX4 hown hK hP 0 rfl rfl 1 (by decide) (hts (.fieldLink RX9 25 "BittenStick$Text" "length" "I") wd_147) (fun _ h9 => h9) rfl dX9_append_24 ?_
  refine lv_aload_n hx₀ hb dX9_append_27 rfl (lv_at hl 0 rfl) ?_
  refine lv_aload_n hx₀ hb dX9_append_28 rfl (lv_at hl 0 rfl) ?_
  refine va_get (D := (dC, dI)) (ci := 4) (v := .int ln) (C := RX4) (T := TX4) (N := 4) hx₀ hb hts inlX4 hown hK hP 0 rfl rfl 1 (by decide) (hts (.fieldLink RX9 25 "BittenStick$Text" "length" "I") wd_147) (fun _ h9 => h9) rfl dX9_append_29 ?_
  refine lv_iload_n hx₀ hb dX9_append_32 rfl (lv_at hl 1 rfl) ?_
  obtain ⟨hPc, hDc, hFc, hC⟩ := k_cw (wc := [(kX4 ah av ln fa nu)]) hP hD hS hA [0] (by decide +kernel) rfl
  refine va_calli (va_runU (As := [.int ln, .int b1]) (rest := [.int ln, .ref av]) ⟨hx₀, hb, hml, hown, hts⟩ (j_worth_X4 l dC dI cI cJ cQ H.size ah ln b1 av ln fa nu (hh0.1)) (va_cwA 2 hts (kGU wd_162 wd_155 wd_156 wd_160 wd_161 wd_14) rfl rfl rfl hN.1 (by decide +kernel) ⟨Nat.le_of_ble_eq_true rfl, Nat.le_of_ble_eq_true rfl⟩) (k_preV4 (q0 := 0) hK hPc hDc hN rfl) rfl rfl hl.1 rfl (lv_room (Nat.le_of_ble_eq_true rfl)) dX9_append_33 ⟨by decide +kernel, by decide +kernel⟩) hS (fun q _ h => hFc q h) hFc (fun r_3 u₀ t₀ H1 locs ht hvm hw hB hz1 hk1 hS => ?_)
  obtain ⟨hP1, hK1, hD1⟩ := hB
  rw [ht] at hP1
  have hJ := k_jn (wr := [(kAI av cI 24 tf)]) (wt := [(kAI av cI 24 tf), (kX4 ah av ln fa nu)]) hP hD hC [1] rfl (by decide +kernel) (by decide +kernel) hk1 hFc hP1 hD1 rfl
  clear hP hD hPc hDc hFc hC hP1 hD1 hK1 hz1 hk1 hvm ht
  obtain ⟨hP, hD⟩ := hJ
  generalize H1 = H at hP hS ⊢
  try dsimp only at hw
  refine k_topi (v := wL b1) hw ?_
  refine va_iast hx₀ hb hK hP hD hS 0 0 rfl rfl (vp_in_iff.mpr (lf_j_append_X4_1 ln hh0 c_1 c_2)) dX9_append_36 ?_
  clear hP hD hS
  intro H locs hP hD hS
  replace hP := k_w2 (wt := [(kAI av cI 24 (upd tf ln.toNatClampNeg (wL b1))), (kX4 ah av ln fa nu)]) hP hD rfl
  replace hD := hP.2
  replace hP := hP.1
  refine lv_aload_n hx₀ hb dX9_append_37 rfl (lv_at hl 0 rfl) ?_
  refine lv_dup hx₀ hb dX9_append_38 rfl ?_
  refine va_get (D := (dC, dI)) (ci := 4) (v := .int ln) (C := RX4) (T := TX4) (N := 4) hx₀ hb hts inlX4 hown hK hP 1 rfl rfl 1 (by decide) (hts (.fieldLink RX9 25 "BittenStick$Text" "length" "I") wd_147) (fun _ h9 => h9) rfl dX9_append_39 ?_
  refine lv_iconst (v := 1) hx₀ hb dX9_append_42 (by decide +kernel) ?_
  refine lv_iadd hx₀ hb dX9_append_43 ?_
  refine va_put (D := (dC, dI)) (ci := 4) (v := .int (ln + 1)) (ty := .int) (C := RX4) (T := TX4) (N := 4) hx₀ hb hts inlX4 tyX4 tyX4_ok nmX4 hown hK hP hD hS 1 rfl rfl 1 (by decide) (hts (.fieldLink RX9 25 "BittenStick$Text" "length" "I") wd_147) (fun _ h9 => h9) rfl (by decide +kernel) rfl rfl (Nat.le_of_ble_eq_true rfl) dX9_append_44 ?_
  clear hP hD hS
  intro H locs hP hD hS
  replace hP := k_w2 (wt := [(kAI av cI 24 (upd tf ln.toNatClampNeg (wL b1))), (kX4 ah av (ln + 1) fa nu)]) hP hD rfl
  replace hD := hP.2
  replace hP := hP.1
  refine lv_aload_n hx₀ hb dX9_append_47 rfl (lv_at hl 0 rfl) ?_
  obtain ⟨hPc, hDc, hFc, hC⟩ := k_cw (wc := [(kX4 ah av (ln + 1) fa nu), (kAI av cI 24 (upd tf ln.toNatClampNeg (wL b1)))]) hP hD hS hA [1, 0] (by decide +kernel) rfl
  refine va_callv (va_runU (As := []) (rest := []) ⟨hx₀, hb, hml, hown, hts⟩ (j_again_X4 l dC dI cI cJ cQ H.size ah av (ln + 1) fa nu (upd tf ln.toNatClampNeg (wL b1)) (lf_j_append_X4_2 ln hh0 c_1 c_2)) (va_cwU 0 hts (kGU wd_173 wd_169 wd_170 wd_193 wd_172 wd_57) rfl rfl rfl rfl (by decide +kernel) ⟨Nat.le_of_ble_eq_true rfl, Nat.le_of_ble_eq_true rfl⟩) (k_preV4 (q0 := 0) hK hPc hDc hN rfl) rfl rfl hl.1 rfl (lv_room (Nat.le_of_ble_eq_true rfl)) dX9_append_48 ⟨by decide +kernel, by decide +kernel⟩) hS (fun q _ h => hFc q h) hFc (fun u₀ t₀ H1 locs ht hvm hw hB hz1 hk1 hS => ?_)
  obtain ⟨g_5, ga_6, gl_7, gb_8, gp_9⟩ := u₀
  obtain ⟨hP1, hK1, hD1⟩ := hB
  rw [ht] at hP1
  have hJ := k_jn (wr := []) (wt := [(kX4 ah av (ln + 1) (g_5 0) (g_5 1)), (kAI av cI 24 (upd tf ln.toNatClampNeg (wL b1)))]) hP hD hC [] rfl (by decide +kernel) (by decide +kernel) hk1 hFc hP1 hD1 rfl
  clear hP hD hPc hDc hFc hC hP1 hD1 hK1 hz1 hk1 hvm ht
  obtain ⟨hP, hD⟩ := hJ
  generalize H1 = H at hP hS ⊢
  try dsimp only at hw
  obtain ⟨c_10, c_11, c_12⟩ := hw
  obtain ⟨hP9, hD9⟩ := k_c2 (wc := [(kX4 ah av (ln + 1) (g_5 0) (g_5 1)), (kAI av cI 24 (upd tf ln.toNatClampNeg (wL b1)))]) hP hD [0, 1] (by decide +kernel) rfl
  exact W.vret hx₀ hb hr (fun t₀ ht hW => ⟨⟨(k_fn [(g_5 0), (g_5 1)], k_fa [], k_fl [], k_fL [], k_fp []), rfl, ⟨c_10, c_11, c_12⟩, by rw [ht]; exact hP9, va_K.moved hW.alike hK, hD9⟩, hS.F ht⟩) hS.2.2 dX9_append_51
theorem lf_j_shorten_X4_1 (a0 : Int32) (a1 : Int32) (h0 : 0 ≤ a0 ∧ a0 ≤ 24) (h1 : a0 < a1) (h2 : (0 : Int32) < a0) : 0 ≤ a0 ∧ a0 ≤ a0 := by
  first | rfl | assumption | decide | exact Or.inl rfl | (first | rfl | assumption | decide | omega | (have hr0 := Int32.toInt_lt a0; have hs0 := Int32.le_toInt a0; have hr1 := Int32.toInt_lt a1; have hs1 := Int32.le_toInt a1; simp only [Int64.toInt_add, Int64.toInt_sub, Int32.toInt_add, Int32.toInt_sub, Int32.toInt_mul, Int64.le_iff_toInt_le, Int64.lt_iff_toInt_lt, Int32.le_iff_toInt_le, Int32.lt_iff_toInt_lt, ← Int32.toInt_inj, ← Int64.toInt_inj, Int32.toInt_toInt64, kc_0, kc_24, true_and, and_true, not_true_eq_false, not_false_eq_true] at * <;> ((first | omega | ((try simp (disch := omega) only [k_bm64] at *); (try simp (disch := omega) only [k_bm] at *); (try simp (disch := omega) only [k_bm] at *); omega) | (simp only [Int.bmod] at *; omega)))))
theorem lf_j_shorten_X4_2 (a0 : Int32) (a1 : Int32) (h0 : 0 ≤ a0 ∧ a0 ≤ 24) (h1 : ¬ a0 < a1) (h2 : (0 : Int32) < a1) : 0 ≤ a1 ∧ a1 ≤ 24 := by
  first | rfl | assumption | decide | exact Or.inl rfl | (first | rfl | assumption | decide | omega | (have hr0 := Int32.toInt_lt a0; have hs0 := Int32.le_toInt a0; have hr1 := Int32.toInt_lt a1; have hs1 := Int32.le_toInt a1; simp only [Int64.toInt_add, Int64.toInt_sub, Int32.toInt_add, Int32.toInt_sub, Int32.toInt_mul, Int64.le_iff_toInt_le, Int64.lt_iff_toInt_lt, Int32.le_iff_toInt_le, Int32.lt_iff_toInt_lt, ← Int32.toInt_inj, ← Int64.toInt_inj, Int32.toInt_toInt64, kc_0, kc_24, true_and, and_true, not_true_eq_false, not_false_eq_true] at * <;> ((first | omega | ((try simp (disch := omega) only [k_bm64] at *); (try simp (disch := omega) only [k_bm] at *); (try simp (disch := omega) only [k_bm] at *); omega) | (simp only [Int.bmod] at *; omega)))))
theorem lf_j_shorten_X4_3 (a0 : Int32) (a1 : Int32) (h0 : 0 ≤ a0 ∧ a0 ≤ 24) (h1 : ¬ a0 < a1) (h2 : ¬ (0 : Int32) < a1) : (0 : Int32) = a1 ∨ a1 < 0 ∨ a0 ≤ a1 := by
  first | rfl | assumption | decide | exact Or.inl rfl | (first | rfl | assumption | decide | omega | (have hr0 := Int32.toInt_lt a0; have hs0 := Int32.le_toInt a0; have hr1 := Int32.toInt_lt a1; have hs1 := Int32.le_toInt a1; simp only [Int64.toInt_add, Int64.toInt_sub, Int32.toInt_add, Int32.toInt_sub, Int32.toInt_mul, Int64.le_iff_toInt_le, Int64.lt_iff_toInt_lt, Int32.le_iff_toInt_le, Int32.lt_iff_toInt_lt, ← Int32.toInt_inj, ← Int64.toInt_inj, Int32.toInt_toInt64, kc_0, kc_24, true_and, and_true, not_true_eq_false, not_false_eq_true] at * <;> ((first | omega | ((try simp (disch := omega) only [k_bm64] at *); (try simp (disch := omega) only [k_bm] at *); (try simp (disch := omega) only [k_bm] at *); omega) | (simp only [Int.bmod] at *; omega)))))
set_option maxHeartbeats 4000000 in
set_option maxRecDepth 100000 in
theorem j_shorten_X4 (l : Launch) (dC : Nat → ClassId) (dI : Nat → Nat → Nat) (cI cJ cQ : ClassId) (sz : Nat) (ah : Nat) (lf : Int32) (av : Nat) (ln : Int32) (fa : Int32) (nu : Int32) (tf : Nat → Int32) (hh0 : 0 ≤ ln ∧ ln ≤ 24) : Met l yX9_shorten (kW yX9_shorten cX9_shorten 2 none) { frames := 2, cells := 0, slots := 0, locals := 42 } (kPre dC dI cI cJ cQ sz [.ref ah, .int lf] [(kX4 ah av ln fa nu), (kAI av cI 24 tf)]) (va_Qv (fun (u : kS) => (0 ≤ (u.1 0) ∧ (u.1 0) ≤ ln) ∧ ((u.1 0) = lf ∨ lf < 0 ∨ ln ≤ lf) ∧ ((u.1 1) = kFt (u.1 0) (u.1 0) tf) ∧ ((u.1 2) = kNm (u.1 0) (u.1 0) tf) ∧ (0 ≤ (u.1 2) ∧ (u.1 2) ≤ 24)) (fun (u : kS) t₀ => kB dC dI cI cJ cQ (va_A [(kX4 ah av ln fa nu), (kAI av cI 24 tf)] sz) [(kX4 ah av (u.1 0) (u.1 1) (u.1 2)), (kAI av cI 24 tf)] t₀) (va_A [(kX4 ah av ln fa nu), (kAI av cI 24 tf)] sz)) 0 0 (va_A [(kX4 ah av ln fa nu), (kAI av cI 24 tf)] sz) := by
  refine Met.ofW (cc := cX9_shorten) (maxL := 2) (ret := none) (by decide) rfl ?_
  intro p₀ e₀ s₀ m₀ args below meth c₀ s₁ B hml hv₀
  obtain ⟨rfl, hsz, hP, hK, hD0, hN⟩ := hv₀
  have hx₀ := B.exec
  have hb := B.bytes
  have hr := B.returns
  have hts := atoms_spec (ws := (kW yX9_shorten cX9_shorten 2 none)) B.pre
  have hts := fun w h => hts w (List.mem_cons_of_mem _ h)
  have hown : s₀.vm.findClass RX9 = some m₀.cls := findClass_of_methodNamed B.named
  have hlocks := B.notSynchronized
  subst hsz
  have hD := hD0.self (sz := s₀.heap.size)
  generalize hAe : va_A [(kX4 ah av ln fa nu), (kAI av cI 24 tf)] s₀.heap.size = A at hD ⊢
  have hA : ∀ q : Nat, s₀.heap.size ≤ q → A q := fun q h => by rw [← hAe]; exact Or.inr h
  have hS : va_S A s₀.heap s₀.heap [] := va_S.rf
  have hP : va_P (dC, dI) vwCl [(kX4 ah av ln fa nu), (kAI av cI 24 tf)] s₀.heap := hP
  have hl := lv_entry ([.ref ah, .int lf]) (n := 2) (Nat.le_of_ble_eq_true rfl)
  rw [lg_entry_eq]
  generalize (lg_sl ([.ref ah, .int lf]) ++ List.replicate (2 - (lg_sl ([.ref ah, .int lf])).length) Slot.unset).toArray = ls at hl ⊢
  have hl : lv_has ls 2 [(0, .ref ah), (1, .int lf)] := hl
  obtain ⟨H, hH⟩ : ∃ z : Heap, z = s₀.heap := ⟨_, rfl⟩
  rw [← hH] at hP
  have hS : va_S A s₀.heap H [] := by rw [hH]; exact hS
  refine k_heap hH ?_
  have hD : va_D A [(kX4 ah av ln fa nu), (kAI av cI 24 tf)] := hD
  obtain ⟨locs, hlo⟩ : ∃ z : List Loc, z = [] := ⟨_, rfl⟩
  rw [← hlo] at hS ⊢
  clear hlo hH hAe hD0
  refine lv_aload_n hx₀ hb dX9_shorten_0 rfl (lv_at hl 0 rfl) ?_
  refine lv_iconst (v := 0) hx₀ hb dX9_shorten_1 (by decide +kernel) ?_
  refine lv_iload_n hx₀ hb dX9_shorten_2 rfl (lv_at hl 1 rfl) ?_
  refine lv_aload_n hx₀ hb dX9_shorten_3 rfl (lv_at hl 0 rfl) ?_
  refine va_get (D := (dC, dI)) (ci := 4) (v := .int ln) (C := RX4) (T := TX4) (N := 4) hx₀ hb hts inlX4 hown hK hP 0 rfl rfl 1 (by decide) (hts (.fieldLink RX9 25 "BittenStick$Text" "length" "I") wd_147) (fun _ h9 => h9) rfl dX9_shorten_4 ?_
  refine va_mmin hx₀ hb (by rw [hml]; exact hl.1.symm) hown (hts (.methodLink RX9 34 Lib.Math.min.name) wd_218) (hts (.static Lib.Math.min.name) wd_219) (hts (.initialized "java/lang/Math") wd_63) (hts (.code Lib.Math.min.name Lib.Math.min.code 2 (some .int)) wd_220) (by decide) (Nat.le_of_ble_eq_true rfl) (by decide) (by decide) dX9_shorten_7 ?_
  by_cases c_1 : ln < lf
  · refine k_topi (v := ln) (if_pos c_1) ?_
    refine va_mmax hx₀ hb (by rw [hml]; exact hl.1.symm) hown (hts (.methodLink RX9 15 Lib.Math.max.name) wd_61) (hts (.static Lib.Math.max.name) wd_62) (hts (.initialized "java/lang/Math") wd_63) (hts (.code Lib.Math.max.name Lib.Math.max.code 2 (some .int)) wd_64) (by decide) (Nat.le_of_ble_eq_true rfl) (by decide) (by decide) dX9_shorten_10 ?_
    by_cases c_2 : (0 : Int32) < ln
    · refine k_topi (v := ln) (if_pos c_2) ?_
      refine va_put (D := (dC, dI)) (ci := 4) (v := .int ln) (ty := .int) (C := RX4) (T := TX4) (N := 4) hx₀ hb hts inlX4 tyX4 tyX4_ok nmX4 hown hK hP hD hS 0 rfl rfl 1 (by decide) (hts (.fieldLink RX9 25 "BittenStick$Text" "length" "I") wd_147) (fun _ h9 => h9) rfl (by decide +kernel) rfl rfl (Nat.le_of_ble_eq_true rfl) dX9_shorten_13 ?_
      clear hP hD hS
      intro H locs hP hD hS
      replace hP := k_w2 (wt := [(kX4 ah av ln fa nu), (kAI av cI 24 tf)]) hP hD rfl
      replace hD := hP.2
      replace hP := hP.1
      refine lv_aload_n hx₀ hb dX9_shorten_16 rfl (lv_at hl 0 rfl) ?_
      obtain ⟨hPc, hDc, hFc, hC⟩ := k_cw (wc := [(kX4 ah av ln fa nu), (kAI av cI 24 tf)]) hP hD hS hA [0, 1] (by decide +kernel) rfl
      refine va_callv (va_runU (As := []) (rest := []) ⟨hx₀, hb, hml, hown, hts⟩ (j_again_X4 l dC dI cI cJ cQ H.size ah av ln fa nu tf (hh0)) (va_cwU 0 hts (kGU wd_173 wd_169 wd_170 wd_193 wd_172 wd_57) rfl rfl rfl rfl (by decide +kernel) ⟨Nat.le_of_ble_eq_true rfl, Nat.le_of_ble_eq_true rfl⟩) (k_preV4 (q0 := 0) hK hPc hDc hN rfl) rfl rfl hl.1 rfl (lv_room (Nat.le_of_ble_eq_true rfl)) dX9_shorten_17 ⟨by decide +kernel, by decide +kernel⟩) hS (fun q _ h => hFc q h) hFc (fun u₀ t₀ H1 locs ht hvm hw hB hz1 hk1 hS => ?_)
      obtain ⟨g_4, ga_5, gl_6, gb_7, gp_8⟩ := u₀
      obtain ⟨hP1, hK1, hD1⟩ := hB
      rw [ht] at hP1
      have hJ := k_jn (wr := []) (wt := [(kX4 ah av ln (g_4 0) (g_4 1)), (kAI av cI 24 tf)]) hP hD hC [] rfl (by decide +kernel) (by decide +kernel) hk1 hFc hP1 hD1 rfl
      clear hP hD hPc hDc hFc hC hP1 hD1 hK1 hz1 hk1 hvm ht
      obtain ⟨hP, hD⟩ := hJ
      generalize H1 = H at hP hS ⊢
      try dsimp only at hw
      obtain ⟨c_9, c_10, c_11⟩ := hw
      obtain ⟨hP9, hD9⟩ := k_c2 (wc := [(kX4 ah av ln (g_4 0) (g_4 1)), (kAI av cI 24 tf)]) hP hD [0, 1] (by decide +kernel) rfl
      exact W.vret hx₀ hb hr (fun t₀ ht hW => ⟨⟨(k_fn [ln, (g_4 0), (g_4 1)], k_fa [], k_fl [], k_fL [], k_fp []), rfl, ⟨(lf_j_shorten_X4_1 ln lf hh0 c_1 c_2), (show ln = lf ∨ lf < 0 ∨ ln ≤ lf from (Or.inr (Or.inr ((Int32.le_of_lt c_1))))), c_9, c_10, c_11⟩, by rw [ht]; exact hP9, va_K.moved hW.alike hK, hD9⟩, hS.F ht⟩) hS.2.2 dX9_shorten_20
    refine k_topi (v := 0) (if_neg c_2) ?_
    refine va_put (D := (dC, dI)) (ci := 4) (v := .int 0) (ty := .int) (C := RX4) (T := TX4) (N := 4) hx₀ hb hts inlX4 tyX4 tyX4_ok nmX4 hown hK hP hD hS 0 rfl rfl 1 (by decide) (hts (.fieldLink RX9 25 "BittenStick$Text" "length" "I") wd_147) (fun _ h9 => h9) rfl (by decide +kernel) rfl rfl (Nat.le_of_ble_eq_true rfl) dX9_shorten_13 ?_
    clear hP hD hS
    intro H locs hP hD hS
    replace hP := k_w2 (wt := [(kX4 ah av 0 fa nu), (kAI av cI 24 tf)]) hP hD rfl
    replace hD := hP.2
    replace hP := hP.1
    refine lv_aload_n hx₀ hb dX9_shorten_16 rfl (lv_at hl 0 rfl) ?_
    obtain ⟨hPc, hDc, hFc, hC⟩ := k_cw (wc := [(kX4 ah av 0 fa nu), (kAI av cI 24 tf)]) hP hD hS hA [0, 1] (by decide +kernel) rfl
    refine va_callv (va_runU (As := []) (rest := []) ⟨hx₀, hb, hml, hown, hts⟩ (j_again_X4 l dC dI cI cJ cQ H.size ah av 0 fa nu tf (show 0 ≤ (0 : Int32) ∧ (0 : Int32) ≤ 24 from ⟨(by decide), (by decide)⟩)) (va_cwU 0 hts (kGU wd_173 wd_169 wd_170 wd_193 wd_172 wd_57) rfl rfl rfl rfl (by decide +kernel) ⟨Nat.le_of_ble_eq_true rfl, Nat.le_of_ble_eq_true rfl⟩) (k_preV4 (q0 := 0) hK hPc hDc hN rfl) rfl rfl hl.1 rfl (lv_room (Nat.le_of_ble_eq_true rfl)) dX9_shorten_17 ⟨by decide +kernel, by decide +kernel⟩) hS (fun q _ h => hFc q h) hFc (fun u₀ t₀ H1 locs ht hvm hw hB hz1 hk1 hS => ?_)
    obtain ⟨g_13, ga_14, gl_15, gb_16, gp_17⟩ := u₀
    obtain ⟨hP1, hK1, hD1⟩ := hB
    rw [ht] at hP1
    have hJ := k_jn (wr := []) (wt := [(kX4 ah av 0 (g_13 0) (g_13 1)), (kAI av cI 24 tf)]) hP hD hC [] rfl (by decide +kernel) (by decide +kernel) hk1 hFc hP1 hD1 rfl
    clear hP hD hPc hDc hFc hC hP1 hD1 hK1 hz1 hk1 hvm ht
    obtain ⟨hP, hD⟩ := hJ
    generalize H1 = H at hP hS ⊢
    try dsimp only at hw
    obtain ⟨c_18, c_19, c_20⟩ := hw
    obtain ⟨hP9, hD9⟩ := k_c2 (wc := [(kX4 ah av 0 (g_13 0) (g_13 1)), (kAI av cI 24 tf)]) hP hD [0, 1] (by decide +kernel) rfl
    exact W.vret hx₀ hb hr (fun t₀ ht hW => ⟨⟨(k_fn [(0 : Int32), (g_13 0), (g_13 1)], k_fa [], k_fl [], k_fL [], k_fp []), rfl, ⟨(show 0 ≤ (0 : Int32) ∧ (0 : Int32) ≤ ln from ⟨(by decide), hh0.1⟩), (show (0 : Int32) = lf ∨ lf < 0 ∨ ln ≤ lf from (Or.inr (Or.inr ((Int32.le_of_lt c_1))))), c_18, c_19, c_20⟩, by rw [ht]; exact hP9, va_K.moved hW.alike hK, hD9⟩, hS.F ht⟩) hS.2.2 dX9_shorten_20
  refine k_topi (v := lf) (if_neg c_1) ?_
  refine va_mmax hx₀ hb (by rw [hml]; exact hl.1.symm) hown (hts (.methodLink RX9 15 Lib.Math.max.name) wd_61) (hts (.static Lib.Math.max.name) wd_62) (hts (.initialized "java/lang/Math") wd_63) (hts (.code Lib.Math.max.name Lib.Math.max.code 2 (some .int)) wd_64) (by decide) (Nat.le_of_ble_eq_true rfl) (by decide) (by decide) dX9_shorten_10 ?_
  by_cases c_21 : (0 : Int32) < lf
  · refine k_topi (v := lf) (if_pos c_21) ?_
    refine va_put (D := (dC, dI)) (ci := 4) (v := .int lf) (ty := .int) (C := RX4) (T := TX4) (N := 4) hx₀ hb hts inlX4 tyX4 tyX4_ok nmX4 hown hK hP hD hS 0 rfl rfl 1 (by decide) (hts (.fieldLink RX9 25 "BittenStick$Text" "length" "I") wd_147) (fun _ h9 => h9) rfl (by decide +kernel) rfl rfl (Nat.le_of_ble_eq_true rfl) dX9_shorten_13 ?_
    clear hP hD hS
    intro H locs hP hD hS
    replace hP := k_w2 (wt := [(kX4 ah av lf fa nu), (kAI av cI 24 tf)]) hP hD rfl
    replace hD := hP.2
    replace hP := hP.1
    refine lv_aload_n hx₀ hb dX9_shorten_16 rfl (lv_at hl 0 rfl) ?_
    obtain ⟨hPc, hDc, hFc, hC⟩ := k_cw (wc := [(kX4 ah av lf fa nu), (kAI av cI 24 tf)]) hP hD hS hA [0, 1] (by decide +kernel) rfl
    refine va_callv (va_runU (As := []) (rest := []) ⟨hx₀, hb, hml, hown, hts⟩ (j_again_X4 l dC dI cI cJ cQ H.size ah av lf fa nu tf (lf_j_shorten_X4_2 ln lf hh0 c_1 c_21)) (va_cwU 0 hts (kGU wd_173 wd_169 wd_170 wd_193 wd_172 wd_57) rfl rfl rfl rfl (by decide +kernel) ⟨Nat.le_of_ble_eq_true rfl, Nat.le_of_ble_eq_true rfl⟩) (k_preV4 (q0 := 0) hK hPc hDc hN rfl) rfl rfl hl.1 rfl (lv_room (Nat.le_of_ble_eq_true rfl)) dX9_shorten_17 ⟨by decide +kernel, by decide +kernel⟩) hS (fun q _ h => hFc q h) hFc (fun u₀ t₀ H1 locs ht hvm hw hB hz1 hk1 hS => ?_)
    obtain ⟨g_23, ga_24, gl_25, gb_26, gp_27⟩ := u₀
    obtain ⟨hP1, hK1, hD1⟩ := hB
    rw [ht] at hP1
    have hJ := k_jn (wr := []) (wt := [(kX4 ah av lf (g_23 0) (g_23 1)), (kAI av cI 24 tf)]) hP hD hC [] rfl (by decide +kernel) (by decide +kernel) hk1 hFc hP1 hD1 rfl
    clear hP hD hPc hDc hFc hC hP1 hD1 hK1 hz1 hk1 hvm ht
    obtain ⟨hP, hD⟩ := hJ
    generalize H1 = H at hP hS ⊢
    try dsimp only at hw
    obtain ⟨c_28, c_29, c_30⟩ := hw
    obtain ⟨hP9, hD9⟩ := k_c2 (wc := [(kX4 ah av lf (g_23 0) (g_23 1)), (kAI av cI 24 tf)]) hP hD [0, 1] (by decide +kernel) rfl
    exact W.vret hx₀ hb hr (fun t₀ ht hW => ⟨⟨(k_fn [lf, (g_23 0), (g_23 1)], k_fa [], k_fl [], k_fL [], k_fp []), rfl, ⟨(show 0 ≤ lf ∧ lf ≤ ln from ⟨(Int32.le_of_lt c_21), (Int32.not_lt.mp c_1)⟩), (show lf = lf ∨ lf < 0 ∨ ln ≤ lf from (Or.inl (rfl))), c_28, c_29, c_30⟩, by rw [ht]; exact hP9, va_K.moved hW.alike hK, hD9⟩, hS.F ht⟩) hS.2.2 dX9_shorten_20
  refine k_topi (v := 0) (if_neg c_21) ?_
  refine va_put (D := (dC, dI)) (ci := 4) (v := .int 0) (ty := .int) (C := RX4) (T := TX4) (N := 4) hx₀ hb hts inlX4 tyX4 tyX4_ok nmX4 hown hK hP hD hS 0 rfl rfl 1 (by decide) (hts (.fieldLink RX9 25 "BittenStick$Text" "length" "I") wd_147) (fun _ h9 => h9) rfl (by decide +kernel) rfl rfl (Nat.le_of_ble_eq_true rfl) dX9_shorten_13 ?_
  clear hP hD hS
  intro H locs hP hD hS
  replace hP := k_w2 (wt := [(kX4 ah av 0 fa nu), (kAI av cI 24 tf)]) hP hD rfl
  replace hD := hP.2
  replace hP := hP.1
  refine lv_aload_n hx₀ hb dX9_shorten_16 rfl (lv_at hl 0 rfl) ?_
  obtain ⟨hPc, hDc, hFc, hC⟩ := k_cw (wc := [(kX4 ah av 0 fa nu), (kAI av cI 24 tf)]) hP hD hS hA [0, 1] (by decide +kernel) rfl
  refine va_callv (va_runU (As := []) (rest := []) ⟨hx₀, hb, hml, hown, hts⟩ (j_again_X4 l dC dI cI cJ cQ H.size ah av 0 fa nu tf (show 0 ≤ (0 : Int32) ∧ (0 : Int32) ≤ 24 from ⟨(by decide), (by decide)⟩)) (va_cwU 0 hts (kGU wd_173 wd_169 wd_170 wd_193 wd_172 wd_57) rfl rfl rfl rfl (by decide +kernel) ⟨Nat.le_of_ble_eq_true rfl, Nat.le_of_ble_eq_true rfl⟩) (k_preV4 (q0 := 0) hK hPc hDc hN rfl) rfl rfl hl.1 rfl (lv_room (Nat.le_of_ble_eq_true rfl)) dX9_shorten_17 ⟨by decide +kernel, by decide +kernel⟩) hS (fun q _ h => hFc q h) hFc (fun u₀ t₀ H1 locs ht hvm hw hB hz1 hk1 hS => ?_)
  obtain ⟨g_32, ga_33, gl_34, gb_35, gp_36⟩ := u₀
  obtain ⟨hP1, hK1, hD1⟩ := hB
  rw [ht] at hP1
  have hJ := k_jn (wr := []) (wt := [(kX4 ah av 0 (g_32 0) (g_32 1)), (kAI av cI 24 tf)]) hP hD hC [] rfl (by decide +kernel) (by decide +kernel) hk1 hFc hP1 hD1 rfl
  clear hP hD hPc hDc hFc hC hP1 hD1 hK1 hz1 hk1 hvm ht
  obtain ⟨hP, hD⟩ := hJ
  generalize H1 = H at hP hS ⊢
  try dsimp only at hw
  obtain ⟨c_37, c_38, c_39⟩ := hw
  obtain ⟨hP9, hD9⟩ := k_c2 (wc := [(kX4 ah av 0 (g_32 0) (g_32 1)), (kAI av cI 24 tf)]) hP hD [0, 1] (by decide +kernel) rfl
  exact W.vret hx₀ hb hr (fun t₀ ht hW => ⟨⟨(k_fn [(0 : Int32), (g_32 0), (g_32 1)], k_fa [], k_fl [], k_fL [], k_fp []), rfl, ⟨(show 0 ≤ (0 : Int32) ∧ (0 : Int32) ≤ ln from ⟨(by decide), hh0.1⟩), (lf_j_shorten_X4_3 ln lf hh0 c_1 c_21), c_37, c_38, c_39⟩, by rw [ht]; exact hP9, va_K.moved hW.alike hK, hD9⟩, hS.F ht⟩) hS.2.2 dX9_shorten_20
theorem lf_j_again_X7_1 (a0 : Int32) (a1 : Int32) (a2 : Nat) (a3 : Int32) (h0 : 0 ≤ a0 ∧ a0 ≤ 39) (h1 : 0 ≤ a1) (h2 : (a0.toInt - a1.toInt).toNat = a2) (h3 : a0 ≤ a1) (h4 : a3 = (-1)) (h5 : a0 = (-1)) : False := by
  first | rfl | assumption | decide | exact Or.inl rfl | (first | rfl | assumption | decide | omega | (have hr0 := Int32.toInt_lt a0; have hs0 := Int32.le_toInt a0; have hr1 := Int32.toInt_lt a1; have hs1 := Int32.le_toInt a1; have hr2 := Int32.toInt_lt a3; have hs2 := Int32.le_toInt a3; simp only [Int64.toInt_add, Int64.toInt_sub, Int32.toInt_add, Int32.toInt_sub, Int32.toInt_mul, Int64.le_iff_toInt_le, Int64.lt_iff_toInt_lt, Int32.le_iff_toInt_le, Int32.lt_iff_toInt_lt, ← Int32.toInt_inj, ← Int64.toInt_inj, Int32.toInt_toInt64, kc_m1, kc_0, kc_1, kc_39, true_and, and_true, not_true_eq_false, not_false_eq_true] at * <;> ((first | omega | ((try simp (disch := omega) only [k_bm64] at *); (try simp (disch := omega) only [k_bm] at *); (try simp (disch := omega) only [k_bm] at *); omega) | (simp only [Int.bmod] at *; omega)))))
theorem lf_j_again_X7_2 (a0 : Int32) (a1 : Int32) (a2 : Nat) (h0 : 0 ≤ a0 ∧ a0 ≤ 39) (h1 : 0 ≤ a1) (h2 : (a0.toInt - a1.toInt).toNat = a2) (h3 : ¬ a0 ≤ a1) : 0 ≤ (a1 + 1) := by
  first | rfl | assumption | decide | exact Or.inl rfl | (first | rfl | assumption | decide | omega | (have hr0 := Int32.toInt_lt a0; have hs0 := Int32.le_toInt a0; have hr1 := Int32.toInt_lt a1; have hs1 := Int32.le_toInt a1; simp only [Int64.toInt_add, Int64.toInt_sub, Int32.toInt_add, Int32.toInt_sub, Int32.toInt_mul, Int64.le_iff_toInt_le, Int64.lt_iff_toInt_lt, Int32.le_iff_toInt_le, Int32.lt_iff_toInt_lt, ← Int32.toInt_inj, ← Int64.toInt_inj, Int32.toInt_toInt64, kc_0, kc_1, kc_39, true_and, and_true, not_true_eq_false, not_false_eq_true] at * <;> ((first | omega | ((try simp (disch := omega) only [k_bm64] at *); (try simp (disch := omega) only [k_bm] at *); (try simp (disch := omega) only [k_bm] at *); omega) | (simp only [Int.bmod] at *; omega)))))
theorem lf_j_again_X7_3 (a0 : Int32) (a1 : Int32) (a2 : Nat) (h0 : 0 ≤ a0 ∧ a0 ≤ 39) (h1 : 0 ≤ a1) (h2 : (a0.toInt - a1.toInt).toNat = a2) (h3 : ¬ a0 ≤ a1) : 0 ≤ a1 ∧ a1 < 39 := by
  first | rfl | assumption | decide | exact Or.inl rfl | (first | rfl | assumption | decide | omega | (have hr0 := Int32.toInt_lt a0; have hs0 := Int32.le_toInt a0; have hr1 := Int32.toInt_lt a1; have hs1 := Int32.le_toInt a1; simp only [Int64.toInt_add, Int64.toInt_sub, Int32.toInt_add, Int32.toInt_sub, Int32.toInt_mul, Int64.le_iff_toInt_le, Int64.lt_iff_toInt_lt, Int32.le_iff_toInt_le, Int32.lt_iff_toInt_lt, ← Int32.toInt_inj, ← Int64.toInt_inj, Int32.toInt_toInt64, kc_0, kc_39, true_and, and_true, not_true_eq_false, not_false_eq_true] at * <;> ((first | omega | ((try simp (disch := omega) only [k_bm64] at *); (try simp (disch := omega) only [k_bm] at *); (try simp (disch := omega) only [k_bm] at *); omega) | (simp only [Int.bmod] at *; omega)))))
theorem lf_j_again_X7_4 (a0 : Int32) (a1 : Int32) (a2 : Nat) (h0 : 0 ≤ a0 ∧ a0 ≤ 39) (h1 : 0 ≤ a1) (h2 : (a0.toInt - a1.toInt).toNat = a2) (h3 : ¬ a0 ≤ a1) : (a0.toInt - (a1 + 1).toInt).toNat < a2 := by
  first | rfl | assumption | decide | exact Or.inl rfl | (first | rfl | assumption | decide | omega | (have hr0 := Int32.toInt_lt a0; have hs0 := Int32.le_toInt a0; have hr1 := Int32.toInt_lt a1; have hs1 := Int32.le_toInt a1; simp only [Int64.toInt_add, Int64.toInt_sub, Int32.toInt_add, Int32.toInt_sub, Int32.toInt_mul, Int64.le_iff_toInt_le, Int64.lt_iff_toInt_lt, Int32.le_iff_toInt_le, Int32.lt_iff_toInt_lt, ← Int32.toInt_inj, ← Int64.toInt_inj, Int32.toInt_toInt64, kc_0, kc_1, kc_39, true_and, and_true, not_true_eq_false, not_false_eq_true] at * <;> ((first | omega | ((try simp (disch := omega) only [k_bm64] at *); (try simp (disch := omega) only [k_bm] at *); (try simp (disch := omega) only [k_bm] at *); omega) | (simp only [Int.bmod] at *; omega)))))
set_option maxHeartbeats 4000000 in
set_option maxRecDepth 100000 in
theorem j_again_X7 (l : Launch) (dC : Nat → ClassId) (dI : Nat → Nat → Nat) (cI cJ cQ : ClassId) (sz : Nat) (ah : Nat) (av : Nat) (ln : Int32) (fa : Int32) (nu : Int32) (tf : Nat → Int32) (hh0 : 0 ≤ ln ∧ ln ≤ 39) : Met l yX9_readAgain (kW yX9_readAgain cX9_readAgain 2 none) { frames := 1, cells := 0, slots := 0, locals := 21 } (kPre dC dI cI cJ cQ sz [.ref ah] [(kX7 ah av ln fa nu), (kAI av cI 39 tf)]) (va_Qv (fun (u : kS) => ((u.1 0) = kFt (kTh7 ln) ln tf) ∧ ((u.1 1) = kNm (kTh7 ln) ln tf)) (fun (u : kS) t₀ => kB dC dI cI cJ cQ (va_A [(kX7 ah av ln fa nu), (kAI av cI 39 tf)] sz) [(kX7 ah av ln (u.1 0) (u.1 1)), (kAI av cI 39 tf)] t₀) (va_A [(kX7 ah av ln fa nu), (kAI av cI 39 tf)] sz)) 0 0 (va_A [(kX7 ah av ln fa nu), (kAI av cI 39 tf)] sz) := by
  refine Met.ofW (cc := cX9_readAgain) (maxL := 2) (ret := none) (by decide) rfl ?_
  intro p₀ e₀ s₀ m₀ args below meth c₀ s₁ B hml hv₀
  obtain ⟨rfl, hsz, hP, hK, hD0, hN⟩ := hv₀
  have hx₀ := B.exec
  have hb := B.bytes
  have hr := B.returns
  have hts := atoms_spec (ws := (kW yX9_readAgain cX9_readAgain 2 none)) B.pre
  have hts := fun w h => hts w (List.mem_cons_of_mem _ h)
  have hown : s₀.vm.findClass RX9 = some m₀.cls := findClass_of_methodNamed B.named
  have hlocks := B.notSynchronized
  subst hsz
  have hD := hD0.self (sz := s₀.heap.size)
  generalize hAe : va_A [(kX7 ah av ln fa nu), (kAI av cI 39 tf)] s₀.heap.size = A at hD ⊢
  have hA : ∀ q : Nat, s₀.heap.size ≤ q → A q := fun q h => by rw [← hAe]; exact Or.inr h
  have hS : va_S A s₀.heap s₀.heap [] := va_S.rf
  have hP : va_P (dC, dI) vwCl [(kX7 ah av ln fa nu), (kAI av cI 39 tf)] s₀.heap := hP
  have hl := lv_entry ([.ref ah]) (n := 2) (Nat.le_of_ble_eq_true rfl)
  rw [lg_entry_eq]
  generalize (lg_sl ([.ref ah]) ++ List.replicate (2 - (lg_sl ([.ref ah])).length) Slot.unset).toArray = ls at hl ⊢
  have hl : lv_has ls 2 [(0, .ref ah)] := hl
  obtain ⟨H, hH⟩ : ∃ z : Heap, z = s₀.heap := ⟨_, rfl⟩
  rw [← hH] at hP
  have hS : va_S A s₀.heap H [] := by rw [hH]; exact hS
  refine k_heap hH ?_
  have hD : va_D A [(kX7 ah av ln fa nu), (kAI av cI 39 tf)] := hD
  obtain ⟨locs, hlo⟩ : ∃ z : List Loc, z = [] := ⟨_, rfl⟩
  rw [← hlo] at hS ⊢
  clear hlo hH hAe hD0
  refine lv_aload_n hx₀ hb dX9_readAgain_0 rfl (lv_at hl 0 rfl) ?_
  refine lv_iconst (v := (-1)) hx₀ hb dX9_readAgain_1 (by decide +kernel) ?_
  refine va_put (D := (dC, dI)) (ci := 7) (v := .int (-1)) (ty := .int) (C := RX7) (T := TX7) (N := 4) hx₀ hb hts inlX7 tyX7 tyX7_ok nmX7 hown hK hP hD hS 0 rfl rfl 2 (by decide) (hts (.fieldLink RX9 9 "BittenStick$Text" "faultAt" "I") wd_60) (fun _ h9 => h9) rfl (by decide +kernel) rfl rfl (Nat.le_of_ble_eq_true rfl) dX9_readAgain_2 ?_
  clear hP hD hS
  intro H locs hP hD hS
  replace hP := k_w2 (wt := [(kX7 ah av ln (-1) nu), (kAI av cI 39 tf)]) hP hD rfl
  replace hD := hP.2
  replace hP := hP.1
  refine lv_iconst (v := 0) hx₀ hb dX9_readAgain_5 (by decide +kernel) ?_
  refine lv_istore_n (lv' := [(1, .int 0), (0, .ref ah)]) hx₀ hb dX9_readAgain_6 rfl hl (by decide) rfl (fun ls hl => ?_)
  refine (?keyz1 : ∀ (jz1 : Nat) (iz1 : Int32) (faz1 : Int32) (H : Heap) (locs : List Loc) (ls : Array Slot), (0 ≤ iz1) → (k_ra tf ln iz1 faz1) → ((ln.toInt - iz1.toInt).toNat = jz1) → va_P (dC, dI) vwCl [(kX7 ah av ln faz1 nu), (kAI av cI 39 tf)] H → va_D A [(kX7 ah av ln faz1 nu), (kAI av cI 39 tf)] → va_S A s₀.heap H locs → lv_has ls 2 [(1, .int iz1), (0, .ref ah)] → W p₀ l e₀ _ s₀ m₀ _ below meth c₀ H locs _ _ _ (F0 m₀ 7 ls [])) _ (0 : Int32) (-1 : Int32) H locs ls (show 0 ≤ (0 : Int32) from (by decide)) (k_ra_0) rfl hP hD hS hl
  clear hP hD hS hl
  intro jz1
  induction jz1 using Nat.strongRecOn with
  | ind jz1 ihz1 =>
    intro iz1 faz1 H locs ls hiz1_0 hiz1_1 hjz1 hP hD hS hl
    refine lv_iload_n hx₀ hb dX9_readAgain_7 rfl (lv_at hl 0 rfl) ?_
    refine lv_aload_n hx₀ hb dX9_readAgain_8 rfl (lv_at hl 1 rfl) ?_
    refine va_get (D := (dC, dI)) (ci := 7) (v := .int ln) (C := RX7) (T := TX7) (N := 4) hx₀ hb hts inlX7 hown hK hP 0 rfl rfl 1 (by decide) (hts (.fieldLink RX9 25 "BittenStick$Text" "length" "I") wd_147) (fun _ h9 => h9) rfl dX9_readAgain_9 ?_
    refine lv_icmp_ge (tgt := 43) hx₀ hb dX9_readAgain_12 (by decide) (fun c_2 => ?_) (fun c_2 => ?_)
    · refine lv_aload_n hx₀ hb dX9_readAgain_43 rfl (lv_at hl 1 rfl) ?_
      refine lv_aload_n hx₀ hb dX9_readAgain_44 rfl (lv_at hl 1 rfl) ?_
      refine va_get (D := (dC, dI)) (ci := 7) (v := .int ln) (C := RX7) (T := TX7) (N := 4) hx₀ hb hts inlX7 hown hK hP 0 rfl rfl 1 (by decide) (hts (.fieldLink RX9 25 "BittenStick$Text" "length" "I") wd_147) (fun _ h9 => h9) rfl dX9_readAgain_45 ?_
      obtain ⟨hPc, hDc, hFc, hC⟩ := k_cw (wc := [(kX7 ah av ln faz1 nu)]) hP hD hS hA [0] (by decide +kernel) rfl
      refine va_calli (va_runU (As := [.int ln]) (rest := []) ⟨hx₀, hb, hml, hown, hts⟩ (j_things_X7 l dC dI cI cJ cQ H.size ah ln av ln faz1 nu (hh0.1)) (va_cwA 1 hts (kGU wd_192 wd_182 wd_183 wd_190 wd_191 wd_18) rfl rfl rfl hN.2.1 (by decide +kernel) ⟨Nat.le_of_ble_eq_true rfl, Nat.le_of_ble_eq_true rfl⟩) (k_preV7 (q0 := 0) hK hPc hDc hN rfl) rfl rfl hl.1 rfl (lv_room (Nat.le_of_ble_eq_true rfl)) dX9_readAgain_48 ⟨by decide +kernel, by decide +kernel⟩) hS (fun q _ h => hFc q h) hFc (fun r_3 u₀ t₀ H1 locs ht hvm hw hB hz1 hk1 hS => ?_)
      obtain ⟨hP1, hK1, hD1⟩ := hB
      rw [ht] at hP1
      have hJ := k_jn (wr := [(kAI av cI 39 tf)]) (wt := [(kAI av cI 39 tf), (kX7 ah av ln faz1 nu)]) hP hD hC [1] rfl (by decide +kernel) (by decide +kernel) hk1 hFc hP1 hD1 rfl
      clear hP hD hPc hDc hFc hC hP1 hD1 hK1 hz1 hk1 hvm ht
      obtain ⟨hP, hD⟩ := hJ
      generalize H1 = H at hP hS ⊢
      try dsimp only at hw
      refine k_topi (v := kTh7 ln) hw ?_
      refine lv_istore_n (lv' := [(1, .int (kTh7 ln)), (0, .ref ah)]) hx₀ hb dX9_readAgain_51 rfl hl (by decide) rfl (fun ls hl => ?_)
      refine lv_aload_n hx₀ hb dX9_readAgain_52 rfl (lv_at hl 1 rfl) ?_
      refine va_get (D := (dC, dI)) (ci := 7) (v := .int faz1) (C := RX7) (T := TX7) (N := 4) hx₀ hb hts inlX7 hown hK hP 1 rfl rfl 2 (by decide) (hts (.fieldLink RX9 9 "BittenStick$Text" "faultAt" "I") wd_60) (fun _ h9 => h9) rfl dX9_readAgain_53 ?_
      refine lv_iconst (v := (-1)) hx₀ hb dX9_readAgain_56 (by decide +kernel) ?_
      refine lv_icmp_ne (tgt := 73) hx₀ hb dX9_readAgain_57 (by decide) (fun c_4 => ?_) (fun c_4 => ?_)
      · refine lv_aload_n hx₀ hb dX9_readAgain_73 rfl (lv_at hl 1 rfl) ?_
        refine lv_aload_n hx₀ hb dX9_readAgain_74 rfl (lv_at hl 1 rfl) ?_
        refine va_get (D := (dC, dI)) (ci := 7) (v := .int faz1) (C := RX7) (T := TX7) (N := 4) hx₀ hb hts inlX7 hown hK hP 1 rfl rfl 2 (by decide) (hts (.fieldLink RX9 9 "BittenStick$Text" "faultAt" "I") wd_60) (fun _ h9 => h9) rfl dX9_readAgain_75 ?_
        refine lv_iconst (v := (-1)) hx₀ hb dX9_readAgain_78 (by decide +kernel) ?_
        refine lv_icmp_ne (tgt := 86) hx₀ hb dX9_readAgain_79 (by decide) (fun _ => ?_) (fun c9 => absurd c9 c_4)
        refine lv_iconst (v := 0) hx₀ hb dX9_readAgain_86 (by decide +kernel) ?_
        refine va_put (D := (dC, dI)) (ci := 7) (v := .int 0) (ty := .int) (C := RX7) (T := TX7) (N := 4) hx₀ hb hts inlX7 tyX7 tyX7_ok nmX7 hown hK hP hD hS 1 rfl rfl 3 (by decide) (hts (.fieldLink RX9 37 "BittenStick$Text" "number" "I") wd_174) (fun _ h9 => h9) rfl (by decide +kernel) rfl rfl (Nat.le_of_ble_eq_true rfl) dX9_readAgain_87 ?_
        clear hP hD hS
        intro H locs hP hD hS
        replace hP := k_w2 (wt := [(kAI av cI 39 tf), (kX7 ah av ln faz1 0)]) hP hD rfl
        replace hD := hP.2
        replace hP := hP.1
        obtain ⟨hP9, hD9⟩ := k_c2 (wc := [(kX7 ah av ln faz1 0), (kAI av cI 39 tf)]) hP hD [1, 0] (by decide +kernel) rfl
        exact W.vret hx₀ hb hr (fun t₀ ht hW => ⟨⟨(k_fn [faz1, (0 : Int32)], k_fa [], k_fl [], k_fL [], k_fp []), rfl, ⟨((k_ra_C (th := (kTh7 ln)) hiz1_1 c_4 (hh0.1)).1), ((k_ra_C (th := (kTh7 ln)) hiz1_1 c_4 (hh0.1)).2)⟩, by rw [ht]; exact hP9, va_K.moved hW.alike hK, hD9⟩, hS.F ht⟩) hS.2.2 dX9_readAgain_90
      · refine lv_iload_n hx₀ hb dX9_readAgain_60 rfl (lv_at hl 0 rfl) ?_
        refine lv_iconst (v := (-1)) hx₀ hb dX9_readAgain_61 (by decide +kernel) ?_
        refine lv_icmp_ne (tgt := 73) hx₀ hb dX9_readAgain_62 (by decide) (fun c_6 => ?_) (fun c_6 => ?_)
        · refine lv_aload_n hx₀ hb dX9_readAgain_73 rfl (lv_at hl 1 rfl) ?_
          refine lv_aload_n hx₀ hb dX9_readAgain_74 rfl (lv_at hl 1 rfl) ?_
          refine va_get (D := (dC, dI)) (ci := 7) (v := .int faz1) (C := RX7) (T := TX7) (N := 4) hx₀ hb hts inlX7 hown hK hP 1 rfl rfl 2 (by decide) (hts (.fieldLink RX9 9 "BittenStick$Text" "faultAt" "I") wd_60) (fun _ h9 => h9) rfl dX9_readAgain_75 ?_
          refine lv_iconst (v := (-1)) hx₀ hb dX9_readAgain_78 (by decide +kernel) ?_
          refine lv_icmp_ne (tgt := 86) hx₀ hb dX9_readAgain_79 (by decide) (fun c9 => absurd c_4 c9) (fun _ => ?_)
          refine lv_iload_n hx₀ hb dX9_readAgain_82 rfl (lv_at hl 0 rfl) ?_
          refine lv_goto (tgt := 87) hx₀ hb dX9_readAgain_83 (by decide) ?_
          refine va_put (D := (dC, dI)) (ci := 7) (v := .int (kTh7 ln)) (ty := .int) (C := RX7) (T := TX7) (N := 4) hx₀ hb hts inlX7 tyX7 tyX7_ok nmX7 hown hK hP hD hS 1 rfl rfl 3 (by decide) (hts (.fieldLink RX9 37 "BittenStick$Text" "number" "I") wd_174) (fun _ h9 => h9) rfl (by decide +kernel) rfl rfl (Nat.le_of_ble_eq_true rfl) dX9_readAgain_87 ?_
          clear hP hD hS
          intro H locs hP hD hS
          replace hP := k_w2 (wt := [(kAI av cI 39 tf), (kX7 ah av ln faz1 (kTh7 ln))]) hP hD rfl
          replace hD := hP.2
          replace hP := hP.1
          obtain ⟨hP9, hD9⟩ := k_c2 (wc := [(kX7 ah av ln faz1 (kTh7 ln)), (kAI av cI 39 tf)]) hP hD [1, 0] (by decide +kernel) rfl
          exact W.vret hx₀ hb hr (fun t₀ ht hW => ⟨⟨(k_fn [faz1, (kTh7 ln)], k_fa [], k_fl [], k_fL [], k_fp []), rfl, ⟨((k_ra_B (th := (kTh7 ln)) hiz1_1 c_4 (hh0.1) c_2 c_6).1), ((k_ra_B (th := (kTh7 ln)) hiz1_1 c_4 (hh0.1) c_2 c_6).2)⟩, by rw [ht]; exact hP9, va_K.moved hW.alike hK, hD9⟩, hS.F ht⟩) hS.2.2 dX9_readAgain_90
        · refine lv_aload_n hx₀ hb dX9_readAgain_65 rfl (lv_at hl 1 rfl) ?_
          refine lv_aload_n hx₀ hb dX9_readAgain_66 rfl (lv_at hl 1 rfl) ?_
          refine va_get (D := (dC, dI)) (ci := 7) (v := .int ln) (C := RX7) (T := TX7) (N := 4) hx₀ hb hts inlX7 hown hK hP 1 rfl rfl 1 (by decide) (hts (.fieldLink RX9 25 "BittenStick$Text" "length" "I") wd_147) (fun _ h9 => h9) rfl dX9_readAgain_67 ?_
          refine va_put (D := (dC, dI)) (ci := 7) (v := .int ln) (ty := .int) (C := RX7) (T := TX7) (N := 4) hx₀ hb hts inlX7 tyX7 tyX7_ok nmX7 hown hK hP hD hS 1 rfl rfl 2 (by decide) (hts (.fieldLink RX9 9 "BittenStick$Text" "faultAt" "I") wd_60) (fun _ h9 => h9) rfl (by decide +kernel) rfl rfl (Nat.le_of_ble_eq_true rfl) dX9_readAgain_70 ?_
          clear hP hD hS
          intro H locs hP hD hS
          replace hP := k_w2 (wt := [(kAI av cI 39 tf), (kX7 ah av ln ln nu)]) hP hD rfl
          replace hD := hP.2
          replace hP := hP.1
          refine lv_aload_n hx₀ hb dX9_readAgain_73 rfl (lv_at hl 1 rfl) ?_
          refine lv_aload_n hx₀ hb dX9_readAgain_74 rfl (lv_at hl 1 rfl) ?_
          refine va_get (D := (dC, dI)) (ci := 7) (v := .int ln) (C := RX7) (T := TX7) (N := 4) hx₀ hb hts inlX7 hown hK hP 1 rfl rfl 2 (by decide) (hts (.fieldLink RX9 9 "BittenStick$Text" "faultAt" "I") wd_60) (fun _ h9 => h9) rfl dX9_readAgain_75 ?_
          refine lv_iconst (v := (-1)) hx₀ hb dX9_readAgain_78 (by decide +kernel) ?_
          refine lv_icmp_ne (tgt := 86) hx₀ hb dX9_readAgain_79 (by decide) (fun c_8 => ?_) (fun c9 => (lf_j_again_X7_1 ln iz1 jz1 faz1 hh0 hiz1_0 hjz1 c_2 c_4 c9).elim)
          refine lv_iconst (v := 0) hx₀ hb dX9_readAgain_86 (by decide +kernel) ?_
          refine va_put (D := (dC, dI)) (ci := 7) (v := .int 0) (ty := .int) (C := RX7) (T := TX7) (N := 4) hx₀ hb hts inlX7 tyX7 tyX7_ok nmX7 hown hK hP hD hS 1 rfl rfl 3 (by decide) (hts (.fieldLink RX9 37 "BittenStick$Text" "number" "I") wd_174) (fun _ h9 => h9) rfl (by decide +kernel) rfl rfl (Nat.le_of_ble_eq_true rfl) dX9_readAgain_87 ?_
          clear hP hD hS
          intro H locs hP hD hS
          replace hP := k_w2 (wt := [(kAI av cI 39 tf), (kX7 ah av ln ln 0)]) hP hD rfl
          replace hD := hP.2
          replace hP := hP.1
          obtain ⟨hP9, hD9⟩ := k_c2 (wc := [(kX7 ah av ln ln 0), (kAI av cI 39 tf)]) hP hD [1, 0] (by decide +kernel) rfl
          exact W.vret hx₀ hb hr (fun t₀ ht hW => ⟨⟨(k_fn [ln, (0 : Int32)], k_fa [], k_fl [], k_fL [], k_fp []), rfl, ⟨((k_ra_A (th := (kTh7 ln)) hiz1_1 c_4 (hh0.1) c_2 c_6).1), ((k_ra_A (th := (kTh7 ln)) hiz1_1 c_4 (hh0.1) c_2 c_6).2)⟩, by rw [ht]; exact hP9, va_K.moved hW.alike hK, hD9⟩, hS.F ht⟩) hS.2.2 dX9_readAgain_90
    · refine lv_aload_n hx₀ hb dX9_readAgain_15 rfl (lv_at hl 1 rfl) ?_
      refine va_get (D := (dC, dI)) (ci := 7) (v := .int faz1) (C := RX7) (T := TX7) (N := 4) hx₀ hb hts inlX7 hown hK hP 0 rfl rfl 2 (by decide) (hts (.fieldLink RX9 9 "BittenStick$Text" "faultAt" "I") wd_60) (fun _ h9 => h9) rfl dX9_readAgain_16 ?_
      refine lv_iconst (v := (-1)) hx₀ hb dX9_readAgain_19 (by decide +kernel) ?_
      refine lv_icmp_ne (tgt := 43) hx₀ hb dX9_readAgain_20 (by decide) (fun c_9 => ?_) (fun c_9 => ?_)
      · refine lv_aload_n hx₀ hb dX9_readAgain_43 rfl (lv_at hl 1 rfl) ?_
        refine lv_aload_n hx₀ hb dX9_readAgain_44 rfl (lv_at hl 1 rfl) ?_
        refine va_get (D := (dC, dI)) (ci := 7) (v := .int ln) (C := RX7) (T := TX7) (N := 4) hx₀ hb hts inlX7 hown hK hP 0 rfl rfl 1 (by decide) (hts (.fieldLink RX9 25 "BittenStick$Text" "length" "I") wd_147) (fun _ h9 => h9) rfl dX9_readAgain_45 ?_
        obtain ⟨hPc, hDc, hFc, hC⟩ := k_cw (wc := [(kX7 ah av ln faz1 nu)]) hP hD hS hA [0] (by decide +kernel) rfl
        refine va_calli (va_runU (As := [.int ln]) (rest := []) ⟨hx₀, hb, hml, hown, hts⟩ (j_things_X7 l dC dI cI cJ cQ H.size ah ln av ln faz1 nu (hh0.1)) (va_cwA 1 hts (kGU wd_192 wd_182 wd_183 wd_190 wd_191 wd_18) rfl rfl rfl hN.2.1 (by decide +kernel) ⟨Nat.le_of_ble_eq_true rfl, Nat.le_of_ble_eq_true rfl⟩) (k_preV7 (q0 := 0) hK hPc hDc hN rfl) rfl rfl hl.1 rfl (lv_room (Nat.le_of_ble_eq_true rfl)) dX9_readAgain_48 ⟨by decide +kernel, by decide +kernel⟩) hS (fun q _ h => hFc q h) hFc (fun r_10 u₀ t₀ H1 locs ht hvm hw hB hz1 hk1 hS => ?_)
        obtain ⟨hP1, hK1, hD1⟩ := hB
        rw [ht] at hP1
        have hJ := k_jn (wr := [(kAI av cI 39 tf)]) (wt := [(kAI av cI 39 tf), (kX7 ah av ln faz1 nu)]) hP hD hC [1] rfl (by decide +kernel) (by decide +kernel) hk1 hFc hP1 hD1 rfl
        clear hP hD hPc hDc hFc hC hP1 hD1 hK1 hz1 hk1 hvm ht
        obtain ⟨hP, hD⟩ := hJ
        generalize H1 = H at hP hS ⊢
        try dsimp only at hw
        refine k_topi (v := kTh7 ln) hw ?_
        refine lv_istore_n (lv' := [(1, .int (kTh7 ln)), (0, .ref ah)]) hx₀ hb dX9_readAgain_51 rfl hl (by decide) rfl (fun ls hl => ?_)
        refine lv_aload_n hx₀ hb dX9_readAgain_52 rfl (lv_at hl 1 rfl) ?_
        refine va_get (D := (dC, dI)) (ci := 7) (v := .int faz1) (C := RX7) (T := TX7) (N := 4) hx₀ hb hts inlX7 hown hK hP 1 rfl rfl 2 (by decide) (hts (.fieldLink RX9 9 "BittenStick$Text" "faultAt" "I") wd_60) (fun _ h9 => h9) rfl dX9_readAgain_53 ?_
        refine lv_iconst (v := (-1)) hx₀ hb dX9_readAgain_56 (by decide +kernel) ?_
        refine lv_icmp_ne (tgt := 73) hx₀ hb dX9_readAgain_57 (by decide) (fun _ => ?_) (fun c9 => absurd c9 c_9)
        refine lv_aload_n hx₀ hb dX9_readAgain_73 rfl (lv_at hl 1 rfl) ?_
        refine lv_aload_n hx₀ hb dX9_readAgain_74 rfl (lv_at hl 1 rfl) ?_
        refine va_get (D := (dC, dI)) (ci := 7) (v := .int faz1) (C := RX7) (T := TX7) (N := 4) hx₀ hb hts inlX7 hown hK hP 1 rfl rfl 2 (by decide) (hts (.fieldLink RX9 9 "BittenStick$Text" "faultAt" "I") wd_60) (fun _ h9 => h9) rfl dX9_readAgain_75 ?_
        refine lv_iconst (v := (-1)) hx₀ hb dX9_readAgain_78 (by decide +kernel) ?_
        refine lv_icmp_ne (tgt := 86) hx₀ hb dX9_readAgain_79 (by decide) (fun _ => ?_) (fun c9 => absurd c9 c_9)
        refine lv_iconst (v := 0) hx₀ hb dX9_readAgain_86 (by decide +kernel) ?_
        refine va_put (D := (dC, dI)) (ci := 7) (v := .int 0) (ty := .int) (C := RX7) (T := TX7) (N := 4) hx₀ hb hts inlX7 tyX7 tyX7_ok nmX7 hown hK hP hD hS 1 rfl rfl 3 (by decide) (hts (.fieldLink RX9 37 "BittenStick$Text" "number" "I") wd_174) (fun _ h9 => h9) rfl (by decide +kernel) rfl rfl (Nat.le_of_ble_eq_true rfl) dX9_readAgain_87 ?_
        clear hP hD hS
        intro H locs hP hD hS
        replace hP := k_w2 (wt := [(kAI av cI 39 tf), (kX7 ah av ln faz1 0)]) hP hD rfl
        replace hD := hP.2
        replace hP := hP.1
        obtain ⟨hP9, hD9⟩ := k_c2 (wc := [(kX7 ah av ln faz1 0), (kAI av cI 39 tf)]) hP hD [1, 0] (by decide +kernel) rfl
        exact W.vret hx₀ hb hr (fun t₀ ht hW => ⟨⟨(k_fn [faz1, (0 : Int32)], k_fa [], k_fl [], k_fL [], k_fp []), rfl, ⟨((k_ra_C (th := (kTh7 ln)) hiz1_1 c_9 (hh0.1)).1), ((k_ra_C (th := (kTh7 ln)) hiz1_1 c_9 (hh0.1)).2)⟩, by rw [ht]; exact hP9, va_K.moved hW.alike hK, hD9⟩, hS.F ht⟩) hS.2.2 dX9_readAgain_90
      · refine lv_aload_n hx₀ hb dX9_readAgain_23 rfl (lv_at hl 1 rfl) ?_
        refine lv_iload_n hx₀ hb dX9_readAgain_24 rfl (lv_at hl 0 rfl) ?_
        obtain ⟨hPc, hDc, hFc, hC⟩ := k_cw (wc := [(kX7 ah av ln faz1 nu), (kAI av cI 39 tf)]) hP hD hS hA [0, 1] (by decide +kernel) rfl
        refine va_calli (va_runU (As := [.int iz1]) (rest := []) ⟨hx₀, hb, hml, hown, hts⟩ (j_valueAt_X7 l dC dI cI cJ cQ H.size ah iz1 av ln faz1 nu tf) (va_cwU 1 hts (kGU wd_179 wd_175 wd_176 wd_181 wd_178 wd_57) rfl rfl rfl rfl (by decide +kernel) ⟨Nat.le_of_ble_eq_true rfl, Nat.le_of_ble_eq_true rfl⟩) (k_preV7 (q0 := 0) hK hPc hDc hN rfl) rfl rfl hl.1 rfl (lv_room (Nat.le_of_ble_eq_true rfl)) dX9_readAgain_25 ⟨by decide +kernel, by decide +kernel⟩) hS (fun q _ h => hFc q h) hFc (fun r_13 u₀ t₀ H1 locs ht hvm hw hB hz1 hk1 hS => ?_)
        obtain ⟨hP1, hK1, hD1⟩ := hB
        rw [ht] at hP1
        have hJ := k_jn (wr := []) (wt := [(kX7 ah av ln faz1 nu), (kAI av cI 39 tf)]) hP hD hC [] rfl (by decide +kernel) (by decide +kernel) hk1 hFc hP1 hD1 rfl
        clear hP hD hPc hDc hFc hC hP1 hD1 hK1 hz1 hk1 hvm ht
        obtain ⟨hP, hD⟩ := hJ
        generalize H1 = H at hP hS ⊢
        try dsimp only at hw
        refine k_topi (v := kAt 39 tf iz1) hw ?_
        refine lv_iconst (v := (-1)) hx₀ hb dX9_readAgain_28 (by decide +kernel) ?_
        refine lv_icmp_ne (tgt := 37) hx₀ hb dX9_readAgain_29 (by decide) (fun c_14 => ?_) (fun c_14 => ?_)
        · refine lv_iinc (v := iz1 + 1) (lv' := [(1, .int (iz1 + 1)), (0, .ref ah)]) hx₀ hb dX9_readAgain_37 hl (k := 0) rfl rfl (by decide) rfl (fun ls hl => ?_)
          refine lv_goto (tgt := 7) hx₀ hb dX9_readAgain_40 (by decide) ?_
          exact ihz1 _ (lf_j_again_X7_4 ln iz1 jz1 hh0 hiz1_0 hjz1 c_2) (iz1 + 1) faz1 _ _ _ (lf_j_again_X7_2 ln iz1 jz1 hh0 hiz1_0 hjz1 c_2) (k_ra_s hiz1_1 c_9 (hiz1_0) c_2 (fun q => c_14 ((kAt_eq (lf_j_again_X7_3 ln iz1 jz1 hh0 hiz1_0 hjz1 c_2)).trans q))) rfl (hP.sub [0, 1] rfl) (hD.sub [0, 1] (by decide +kernel) rfl) hS (lv_sub hl [0, 1] rfl)
        · refine lv_aload_n hx₀ hb dX9_readAgain_32 rfl (lv_at hl 1 rfl) ?_
          refine lv_iload_n hx₀ hb dX9_readAgain_33 rfl (lv_at hl 0 rfl) ?_
          refine va_put (D := (dC, dI)) (ci := 7) (v := .int iz1) (ty := .int) (C := RX7) (T := TX7) (N := 4) hx₀ hb hts inlX7 tyX7 tyX7_ok nmX7 hown hK hP hD hS 0 rfl rfl 2 (by decide) (hts (.fieldLink RX9 9 "BittenStick$Text" "faultAt" "I") wd_60) (fun _ h9 => h9) rfl (by decide +kernel) rfl rfl (Nat.le_of_ble_eq_true rfl) dX9_readAgain_34 ?_
          clear hP hD hS
          intro H locs hP hD hS
          replace hP := k_w2 (wt := [(kX7 ah av ln iz1 nu), (kAI av cI 39 tf)]) hP hD rfl
          replace hD := hP.2
          replace hP := hP.1
          refine lv_iinc (v := iz1 + 1) (lv' := [(1, .int (iz1 + 1)), (0, .ref ah)]) hx₀ hb dX9_readAgain_37 hl (k := 0) rfl rfl (by decide) rfl (fun ls hl => ?_)
          refine lv_goto (tgt := 7) hx₀ hb dX9_readAgain_40 (by decide) ?_
          exact ihz1 _ (lf_j_again_X7_4 ln iz1 jz1 hh0 hiz1_0 hjz1 c_2) (iz1 + 1) iz1 _ _ _ (lf_j_again_X7_2 ln iz1 jz1 hh0 hiz1_0 hjz1 c_2) (k_ra_b hiz1_1 c_9 (hiz1_0) c_2 ((kAt_eq (lf_j_again_X7_3 ln iz1 jz1 hh0 hiz1_0 hjz1 c_2)).symm.trans c_14)) rfl (hP.sub [0, 1] rfl) (hD.sub [0, 1] (by decide +kernel) rfl) hS (lv_sub hl [0, 1] rfl)
theorem lf_j_append_X7_1 (a0 : Int32) (h0 : 0 ≤ a0 ∧ a0 < 39) (h1 : ¬ a0 < 0) (h2 : ¬ 39 ≤ a0) : 0 ≤ a0.toInt ∧ a0.toInt < 39 := by
  first | rfl | assumption | decide | exact Or.inl rfl | (first | rfl | assumption | decide | omega | (have hr0 := Int32.toInt_lt a0; have hs0 := Int32.le_toInt a0; simp only [Int64.toInt_add, Int64.toInt_sub, Int32.toInt_add, Int32.toInt_sub, Int32.toInt_mul, Int64.le_iff_toInt_le, Int64.lt_iff_toInt_lt, Int32.le_iff_toInt_le, Int32.lt_iff_toInt_lt, ← Int32.toInt_inj, ← Int64.toInt_inj, Int32.toInt_toInt64, kc_0, kc_39, true_and, and_true, not_true_eq_false, not_false_eq_true] at * <;> ((first | omega | ((try simp (disch := omega) only [k_bm64] at *); (try simp (disch := omega) only [k_bm] at *); (try simp (disch := omega) only [k_bm] at *); omega) | (simp only [Int.bmod] at *; omega)))))
theorem lf_j_append_X7_2 (a0 : Int32) (h0 : 0 ≤ a0 ∧ a0 < 39) (h1 : ¬ a0 < 0) (h2 : ¬ 39 ≤ a0) : 0 ≤ (a0 + 1) ∧ (a0 + 1) ≤ 39 := by
  first | rfl | assumption | decide | exact Or.inl rfl | (first | rfl | assumption | decide | omega | (have hr0 := Int32.toInt_lt a0; have hs0 := Int32.le_toInt a0; simp only [Int64.toInt_add, Int64.toInt_sub, Int32.toInt_add, Int32.toInt_sub, Int32.toInt_mul, Int64.le_iff_toInt_le, Int64.lt_iff_toInt_lt, Int32.le_iff_toInt_le, Int32.lt_iff_toInt_lt, ← Int32.toInt_inj, ← Int64.toInt_inj, Int32.toInt_toInt64, kc_0, kc_1, kc_39, true_and, and_true, not_true_eq_false, not_false_eq_true] at * <;> ((first | omega | ((try simp (disch := omega) only [k_bm64] at *); (try simp (disch := omega) only [k_bm] at *); (try simp (disch := omega) only [k_bm] at *); omega) | (simp only [Int.bmod] at *; omega)))))
set_option maxHeartbeats 4000000 in
set_option maxRecDepth 100000 in
theorem j_append_X7 (l : Launch) (dC : Nat → ClassId) (dI : Nat → Nat → Nat) (cI cJ cQ : ClassId) (sz : Nat) (ah : Nat) (b1 : Int32) (av : Nat) (ln : Int32) (fa : Int32) (nu : Int32) (tf : Nat → Int32) (hh0 : 0 ≤ ln ∧ ln < 39) : Met l yX9_append (kW yX9_append cX9_append 2 none) { frames := 2, cells := 0, slots := 0, locals := 42 } (kPre dC dI cI cJ cQ sz [.ref ah, .int b1] [(kX7 ah av ln fa nu), (kAI av cI 39 tf)]) (va_Qv (fun (u : kS) => ((u.1 0) = kFt (kTh7 (ln + 1)) (ln + 1) (upd tf ln.toNatClampNeg (wP (ln - ln / 5 * 5) b1))) ∧ ((u.1 1) = kNm (kTh7 (ln + 1)) (ln + 1) (upd tf ln.toNatClampNeg (wP (ln - ln / 5 * 5) b1)))) (fun (u : kS) t₀ => kB dC dI cI cJ cQ (va_A [(kX7 ah av ln fa nu), (kAI av cI 39 tf)] sz) [(kX7 ah av (ln + 1) (u.1 0) (u.1 1)), (kAI av cI 39 (upd tf ln.toNatClampNeg (wP (ln - ln / 5 * 5) b1)))] t₀) (va_A [(kX7 ah av ln fa nu), (kAI av cI 39 tf)] sz)) 0 0 (va_A [(kX7 ah av ln fa nu), (kAI av cI 39 tf)] sz) := by
  refine Met.ofW (cc := cX9_append) (maxL := 2) (ret := none) (by decide) rfl ?_
  intro p₀ e₀ s₀ m₀ args below meth c₀ s₁ B hml hv₀
  obtain ⟨rfl, hsz, hP, hK, hD0, hN⟩ := hv₀
  have hx₀ := B.exec
  have hb := B.bytes
  have hr := B.returns
  have hts := atoms_spec (ws := (kW yX9_append cX9_append 2 none)) B.pre
  have hts := fun w h => hts w (List.mem_cons_of_mem _ h)
  have hown : s₀.vm.findClass RX9 = some m₀.cls := findClass_of_methodNamed B.named
  have hlocks := B.notSynchronized
  subst hsz
  have hD := hD0.self (sz := s₀.heap.size)
  generalize hAe : va_A [(kX7 ah av ln fa nu), (kAI av cI 39 tf)] s₀.heap.size = A at hD ⊢
  have hA : ∀ q : Nat, s₀.heap.size ≤ q → A q := fun q h => by rw [← hAe]; exact Or.inr h
  have hS : va_S A s₀.heap s₀.heap [] := va_S.rf
  have hP : va_P (dC, dI) vwCl [(kX7 ah av ln fa nu), (kAI av cI 39 tf)] s₀.heap := hP
  have hl := lv_entry ([.ref ah, .int b1]) (n := 2) (Nat.le_of_ble_eq_true rfl)
  rw [lg_entry_eq]
  generalize (lg_sl ([.ref ah, .int b1]) ++ List.replicate (2 - (lg_sl ([.ref ah, .int b1])).length) Slot.unset).toArray = ls at hl ⊢
  have hl : lv_has ls 2 [(0, .ref ah), (1, .int b1)] := hl
  obtain ⟨H, hH⟩ : ∃ z : Heap, z = s₀.heap := ⟨_, rfl⟩
  rw [← hH] at hP
  have hS : va_S A s₀.heap H [] := by rw [hH]; exact hS
  refine k_heap hH ?_
  have hD : va_D A [(kX7 ah av ln fa nu), (kAI av cI 39 tf)] := hD
  obtain ⟨locs, hlo⟩ : ∃ z : List Loc, z = [] := ⟨_, rfl⟩
  rw [← hlo] at hS ⊢
  clear hlo hH hAe hD0
  refine lv_aload_n hx₀ hb dX9_append_0 rfl (lv_at hl 0 rfl) ?_
  refine va_get (D := (dC, dI)) (ci := 7) (v := .int ln) (C := RX7) (T := TX7) (N := 4) hx₀ hb hts inlX7 hown hK hP 0 rfl rfl 1 (by decide) (hts (.fieldLink RX9 25 "BittenStick$Text" "length" "I") wd_147) (fun _ h9 => h9) rfl dX9_append_1 ?_
  refine lv_if_lt (tgt := 51) hx₀ hb dX9_append_4 (by decide) (fun c9 => ((show ¬ (ln < 0) from (Int32.not_lt.mpr hh0.1)) c9).elim) (fun c_1 => ?_)
  refine lv_aload_n hx₀ hb dX9_append_7 rfl (lv_at hl 0 rfl) ?_
  refine va_get (D := (dC, dI)) (ci := 7) (v := .int ln) (C := RX7) (T := TX7) (N := 4) hx₀ hb hts inlX7 hown hK hP 0 rfl rfl 1 (by decide) (hts (.fieldLink RX9 25 "BittenStick$Text" "length" "I") wd_147) (fun _ h9 => h9) rfl dX9_append_8 ?_
  refine lv_aload_n hx₀ hb dX9_append_11 rfl (lv_at hl 0 rfl) ?_
  refine va_get (D := (dC, dI)) (ci := 7) (v := .ref av) (C := RX7) (T := TX7) (N := 4) hx₀ hb hts inlX7 hown hK hP 0 rfl rfl 0 (by decide) (hts (.fieldLink RX9 21 "BittenStick$Text" "values" "[I") wd_65) (fun _ h9 => h9) rfl dX9_append_12 ?_
  refine va_alen (v := 39) hx₀ hb hK hP 1 0 rfl rfl rfl dX9_append_15 ?_
  refine lv_icmp_ge (tgt := 51) hx₀ hb dX9_append_16 (by decide) (fun c9 => ((show ¬ (39 ≤ ln) from (Int32.not_le.mpr hh0.2)) c9).elim) (fun c_2 => ?_)
  refine lv_aload_n hx₀ hb dX9_append_19 rfl (lv_at hl 0 rfl) ?_
  refine va_get (D := (dC, dI)) (ci := 7) (v := .ref av) (C := RX7) (T := TX7) (N := 4) hx₀ hb hts inlX7 hown hK hP 0 rfl rfl 0 (by decide) (hts (.fieldLink RX9 21 "BittenStick$Text" "values" "[I") wd_65) (fun _ h9 => h9) rfl dX9_append_20 ?_
  refine lv_aload_n hx₀ hb dX9_append_23 rfl (lv_at hl 0 rfl) ?_
  refine va_get (D := (dC, dI)) (ci := 7) (v := .int ln) (C := RX7) (T := TX7) (N := 4) hx₀ hb hts inlX7 hown hK hP 0 rfl rfl 1 (by decide) (hts (.fieldLink RX9 25 "BittenStick$Text" "length" "I") wd_147) (fun _ h9 => h9) rfl dX9_append_24 ?_
  refine lv_aload_n hx₀ hb dX9_append_27 rfl (lv_at hl 0 rfl) ?_
  refine lv_aload_n hx₀ hb dX9_append_28 rfl (lv_at hl 0 rfl) ?_
  refine va_get (D := (dC, dI)) (ci := 7) (v := .int ln) (C := RX7) (T := TX7) (N := 4) hx₀ hb hts inlX7 hown hK hP 0 rfl rfl 1 (by decide) (hts (.fieldLink RX9 25 "BittenStick$Text" "length" "I") wd_147) (fun _ h9 => h9) rfl dX9_append_29 ?_
  refine lv_iload_n hx₀ hb dX9_append_32 rfl (lv_at hl 1 rfl) ?_
  obtain ⟨hPc, hDc, hFc, hC⟩ := k_cw (wc := [(kX7 ah av ln fa nu)]) hP hD hS hA [0] (by decide +kernel) rfl
  refine va_calli (va_runU (As := [.int ln, .int b1]) (rest := [.int ln, .ref av]) ⟨hx₀, hb, hml, hown, hts⟩ (j_worth_X7 l dC dI cI cJ cQ H.size ah ln b1 av ln fa nu (hh0.1)) (va_cwA 2 hts (kGU wd_165 wd_155 wd_156 wd_163 wd_164 wd_18) rfl rfl rfl hN.1 (by decide +kernel) ⟨Nat.le_of_ble_eq_true rfl, Nat.le_of_ble_eq_true rfl⟩) (k_preV7 (q0 := 0) hK hPc hDc hN rfl) rfl rfl hl.1 rfl (lv_room (Nat.le_of_ble_eq_true rfl)) dX9_append_33 ⟨by decide +kernel, by decide +kernel⟩) hS (fun q _ h => hFc q h) hFc (fun r_3 u₀ t₀ H1 locs ht hvm hw hB hz1 hk1 hS => ?_)
  obtain ⟨hP1, hK1, hD1⟩ := hB
  rw [ht] at hP1
  have hJ := k_jn (wr := [(kAI av cI 39 tf)]) (wt := [(kAI av cI 39 tf), (kX7 ah av ln fa nu)]) hP hD hC [1] rfl (by decide +kernel) (by decide +kernel) hk1 hFc hP1 hD1 rfl
  clear hP hD hPc hDc hFc hC hP1 hD1 hK1 hz1 hk1 hvm ht
  obtain ⟨hP, hD⟩ := hJ
  generalize H1 = H at hP hS ⊢
  try dsimp only at hw
  refine k_topi (v := wP (ln - ln / 5 * 5) b1) hw ?_
  refine va_iast hx₀ hb hK hP hD hS 0 0 rfl rfl (vp_in_iff.mpr (lf_j_append_X7_1 ln hh0 c_1 c_2)) dX9_append_36 ?_
  clear hP hD hS
  intro H locs hP hD hS
  replace hP := k_w2 (wt := [(kAI av cI 39 (upd tf ln.toNatClampNeg (wP (ln - ln / 5 * 5) b1))), (kX7 ah av ln fa nu)]) hP hD rfl
  replace hD := hP.2
  replace hP := hP.1
  refine lv_aload_n hx₀ hb dX9_append_37 rfl (lv_at hl 0 rfl) ?_
  refine lv_dup hx₀ hb dX9_append_38 rfl ?_
  refine va_get (D := (dC, dI)) (ci := 7) (v := .int ln) (C := RX7) (T := TX7) (N := 4) hx₀ hb hts inlX7 hown hK hP 1 rfl rfl 1 (by decide) (hts (.fieldLink RX9 25 "BittenStick$Text" "length" "I") wd_147) (fun _ h9 => h9) rfl dX9_append_39 ?_
  refine lv_iconst (v := 1) hx₀ hb dX9_append_42 (by decide +kernel) ?_
  refine lv_iadd hx₀ hb dX9_append_43 ?_
  refine va_put (D := (dC, dI)) (ci := 7) (v := .int (ln + 1)) (ty := .int) (C := RX7) (T := TX7) (N := 4) hx₀ hb hts inlX7 tyX7 tyX7_ok nmX7 hown hK hP hD hS 1 rfl rfl 1 (by decide) (hts (.fieldLink RX9 25 "BittenStick$Text" "length" "I") wd_147) (fun _ h9 => h9) rfl (by decide +kernel) rfl rfl (Nat.le_of_ble_eq_true rfl) dX9_append_44 ?_
  clear hP hD hS
  intro H locs hP hD hS
  replace hP := k_w2 (wt := [(kAI av cI 39 (upd tf ln.toNatClampNeg (wP (ln - ln / 5 * 5) b1))), (kX7 ah av (ln + 1) fa nu)]) hP hD rfl
  replace hD := hP.2
  replace hP := hP.1
  refine lv_aload_n hx₀ hb dX9_append_47 rfl (lv_at hl 0 rfl) ?_
  obtain ⟨hPc, hDc, hFc, hC⟩ := k_cw (wc := [(kX7 ah av (ln + 1) fa nu), (kAI av cI 39 (upd tf ln.toNatClampNeg (wP (ln - ln / 5 * 5) b1)))]) hP hD hS hA [1, 0] (by decide +kernel) rfl
  refine va_callv (va_runU (As := []) (rest := []) ⟨hx₀, hb, hml, hown, hts⟩ (j_again_X7 l dC dI cI cJ cQ H.size ah av (ln + 1) fa nu (upd tf ln.toNatClampNeg (wP (ln - ln / 5 * 5) b1)) (lf_j_append_X7_2 ln hh0 c_1 c_2)) (va_cwU 0 hts (kGU wd_173 wd_169 wd_170 wd_194 wd_172 wd_57) rfl rfl rfl rfl (by decide +kernel) ⟨Nat.le_of_ble_eq_true rfl, Nat.le_of_ble_eq_true rfl⟩) (k_preV7 (q0 := 0) hK hPc hDc hN rfl) rfl rfl hl.1 rfl (lv_room (Nat.le_of_ble_eq_true rfl)) dX9_append_48 ⟨by decide +kernel, by decide +kernel⟩) hS (fun q _ h => hFc q h) hFc (fun u₀ t₀ H1 locs ht hvm hw hB hz1 hk1 hS => ?_)
  obtain ⟨g_5, ga_6, gl_7, gb_8, gp_9⟩ := u₀
  obtain ⟨hP1, hK1, hD1⟩ := hB
  rw [ht] at hP1
  have hJ := k_jn (wr := []) (wt := [(kX7 ah av (ln + 1) (g_5 0) (g_5 1)), (kAI av cI 39 (upd tf ln.toNatClampNeg (wP (ln - ln / 5 * 5) b1)))]) hP hD hC [] rfl (by decide +kernel) (by decide +kernel) hk1 hFc hP1 hD1 rfl
  clear hP hD hPc hDc hFc hC hP1 hD1 hK1 hz1 hk1 hvm ht
  obtain ⟨hP, hD⟩ := hJ
  generalize H1 = H at hP hS ⊢
  try dsimp only at hw
  obtain ⟨c_10, c_11⟩ := hw
  obtain ⟨hP9, hD9⟩ := k_c2 (wc := [(kX7 ah av (ln + 1) (g_5 0) (g_5 1)), (kAI av cI 39 (upd tf ln.toNatClampNeg (wP (ln - ln / 5 * 5) b1)))]) hP hD [0, 1] (by decide +kernel) rfl
  exact W.vret hx₀ hb hr (fun t₀ ht hW => ⟨⟨(k_fn [(g_5 0), (g_5 1)], k_fa [], k_fl [], k_fL [], k_fp []), rfl, ⟨c_10, c_11⟩, by rw [ht]; exact hP9, va_K.moved hW.alike hK, hD9⟩, hS.F ht⟩) hS.2.2 dX9_append_51
theorem lf_j_shorten_X7_1 (a0 : Int32) (a1 : Int32) (h0 : 0 ≤ a0 ∧ a0 ≤ 39) (h1 : a0 < a1) (h2 : (0 : Int32) < a0) : 0 ≤ a0 ∧ a0 ≤ a0 := by
  first | rfl | assumption | decide | exact Or.inl rfl | (first | rfl | assumption | decide | omega | (have hr0 := Int32.toInt_lt a0; have hs0 := Int32.le_toInt a0; have hr1 := Int32.toInt_lt a1; have hs1 := Int32.le_toInt a1; simp only [Int64.toInt_add, Int64.toInt_sub, Int32.toInt_add, Int32.toInt_sub, Int32.toInt_mul, Int64.le_iff_toInt_le, Int64.lt_iff_toInt_lt, Int32.le_iff_toInt_le, Int32.lt_iff_toInt_lt, ← Int32.toInt_inj, ← Int64.toInt_inj, Int32.toInt_toInt64, kc_0, kc_39, true_and, and_true, not_true_eq_false, not_false_eq_true] at * <;> ((first | omega | ((try simp (disch := omega) only [k_bm64] at *); (try simp (disch := omega) only [k_bm] at *); (try simp (disch := omega) only [k_bm] at *); omega) | (simp only [Int.bmod] at *; omega)))))
theorem lf_j_shorten_X7_2 (a0 : Int32) (a1 : Int32) (h0 : 0 ≤ a0 ∧ a0 ≤ 39) (h1 : ¬ a0 < a1) (h2 : (0 : Int32) < a1) : 0 ≤ a1 ∧ a1 ≤ 39 := by
  first | rfl | assumption | decide | exact Or.inl rfl | (first | rfl | assumption | decide | omega | (have hr0 := Int32.toInt_lt a0; have hs0 := Int32.le_toInt a0; have hr1 := Int32.toInt_lt a1; have hs1 := Int32.le_toInt a1; simp only [Int64.toInt_add, Int64.toInt_sub, Int32.toInt_add, Int32.toInt_sub, Int32.toInt_mul, Int64.le_iff_toInt_le, Int64.lt_iff_toInt_lt, Int32.le_iff_toInt_le, Int32.lt_iff_toInt_lt, ← Int32.toInt_inj, ← Int64.toInt_inj, Int32.toInt_toInt64, kc_0, kc_39, true_and, and_true, not_true_eq_false, not_false_eq_true] at * <;> ((first | omega | ((try simp (disch := omega) only [k_bm64] at *); (try simp (disch := omega) only [k_bm] at *); (try simp (disch := omega) only [k_bm] at *); omega) | (simp only [Int.bmod] at *; omega)))))
theorem lf_j_shorten_X7_3 (a0 : Int32) (a1 : Int32) (h0 : 0 ≤ a0 ∧ a0 ≤ 39) (h1 : ¬ a0 < a1) (h2 : ¬ (0 : Int32) < a1) : (0 : Int32) = a1 ∨ a1 < 0 ∨ a0 ≤ a1 := by
  first | rfl | assumption | decide | exact Or.inl rfl | (first | rfl | assumption | decide | omega | (have hr0 := Int32.toInt_lt a0; have hs0 := Int32.le_toInt a0; have hr1 := Int32.toInt_lt a1; have hs1 := Int32.le_toInt a1; simp only [Int64.toInt_add, Int64.toInt_sub, Int32.toInt_add, Int32.toInt_sub, Int32.toInt_mul, Int64.le_iff_toInt_le, Int64.lt_iff_toInt_lt, Int32.le_iff_toInt_le, Int32.lt_iff_toInt_lt, ← Int32.toInt_inj, ← Int64.toInt_inj, Int32.toInt_toInt64, kc_0, kc_39, true_and, and_true, not_true_eq_false, not_false_eq_true] at * <;> ((first | omega | ((try simp (disch := omega) only [k_bm64] at *); (try simp (disch := omega) only [k_bm] at *); (try simp (disch := omega) only [k_bm] at *); omega) | (simp only [Int.bmod] at *; omega)))))
set_option maxHeartbeats 4000000 in
set_option maxRecDepth 100000 in
theorem j_shorten_X7 (l : Launch) (dC : Nat → ClassId) (dI : Nat → Nat → Nat) (cI cJ cQ : ClassId) (sz : Nat) (ah : Nat) (lf : Int32) (av : Nat) (ln : Int32) (fa : Int32) (nu : Int32) (tf : Nat → Int32) (hh0 : 0 ≤ ln ∧ ln ≤ 39) : Met l yX9_shorten (kW yX9_shorten cX9_shorten 2 none) { frames := 2, cells := 0, slots := 0, locals := 42 } (kPre dC dI cI cJ cQ sz [.ref ah, .int lf] [(kX7 ah av ln fa nu), (kAI av cI 39 tf)]) (va_Qv (fun (u : kS) => (0 ≤ (u.1 0) ∧ (u.1 0) ≤ ln) ∧ ((u.1 0) = lf ∨ lf < 0 ∨ ln ≤ lf) ∧ ((u.1 1) = kFt (kTh7 (u.1 0)) (u.1 0) tf) ∧ ((u.1 2) = kNm (kTh7 (u.1 0)) (u.1 0) tf)) (fun (u : kS) t₀ => kB dC dI cI cJ cQ (va_A [(kX7 ah av ln fa nu), (kAI av cI 39 tf)] sz) [(kX7 ah av (u.1 0) (u.1 1) (u.1 2)), (kAI av cI 39 tf)] t₀) (va_A [(kX7 ah av ln fa nu), (kAI av cI 39 tf)] sz)) 0 0 (va_A [(kX7 ah av ln fa nu), (kAI av cI 39 tf)] sz) := by
  refine Met.ofW (cc := cX9_shorten) (maxL := 2) (ret := none) (by decide) rfl ?_
  intro p₀ e₀ s₀ m₀ args below meth c₀ s₁ B hml hv₀
  obtain ⟨rfl, hsz, hP, hK, hD0, hN⟩ := hv₀
  have hx₀ := B.exec
  have hb := B.bytes
  have hr := B.returns
  have hts := atoms_spec (ws := (kW yX9_shorten cX9_shorten 2 none)) B.pre
  have hts := fun w h => hts w (List.mem_cons_of_mem _ h)
  have hown : s₀.vm.findClass RX9 = some m₀.cls := findClass_of_methodNamed B.named
  have hlocks := B.notSynchronized
  subst hsz
  have hD := hD0.self (sz := s₀.heap.size)
  generalize hAe : va_A [(kX7 ah av ln fa nu), (kAI av cI 39 tf)] s₀.heap.size = A at hD ⊢
  have hA : ∀ q : Nat, s₀.heap.size ≤ q → A q := fun q h => by rw [← hAe]; exact Or.inr h
  have hS : va_S A s₀.heap s₀.heap [] := va_S.rf
  have hP : va_P (dC, dI) vwCl [(kX7 ah av ln fa nu), (kAI av cI 39 tf)] s₀.heap := hP
  have hl := lv_entry ([.ref ah, .int lf]) (n := 2) (Nat.le_of_ble_eq_true rfl)
  rw [lg_entry_eq]
  generalize (lg_sl ([.ref ah, .int lf]) ++ List.replicate (2 - (lg_sl ([.ref ah, .int lf])).length) Slot.unset).toArray = ls at hl ⊢
  have hl : lv_has ls 2 [(0, .ref ah), (1, .int lf)] := hl
  obtain ⟨H, hH⟩ : ∃ z : Heap, z = s₀.heap := ⟨_, rfl⟩
  rw [← hH] at hP
  have hS : va_S A s₀.heap H [] := by rw [hH]; exact hS
  refine k_heap hH ?_
  have hD : va_D A [(kX7 ah av ln fa nu), (kAI av cI 39 tf)] := hD
  obtain ⟨locs, hlo⟩ : ∃ z : List Loc, z = [] := ⟨_, rfl⟩
  rw [← hlo] at hS ⊢
  clear hlo hH hAe hD0
  refine lv_aload_n hx₀ hb dX9_shorten_0 rfl (lv_at hl 0 rfl) ?_
  refine lv_iconst (v := 0) hx₀ hb dX9_shorten_1 (by decide +kernel) ?_
  refine lv_iload_n hx₀ hb dX9_shorten_2 rfl (lv_at hl 1 rfl) ?_
  refine lv_aload_n hx₀ hb dX9_shorten_3 rfl (lv_at hl 0 rfl) ?_
  refine va_get (D := (dC, dI)) (ci := 7) (v := .int ln) (C := RX7) (T := TX7) (N := 4) hx₀ hb hts inlX7 hown hK hP 0 rfl rfl 1 (by decide) (hts (.fieldLink RX9 25 "BittenStick$Text" "length" "I") wd_147) (fun _ h9 => h9) rfl dX9_shorten_4 ?_
  refine va_mmin hx₀ hb (by rw [hml]; exact hl.1.symm) hown (hts (.methodLink RX9 34 Lib.Math.min.name) wd_218) (hts (.static Lib.Math.min.name) wd_219) (hts (.initialized "java/lang/Math") wd_63) (hts (.code Lib.Math.min.name Lib.Math.min.code 2 (some .int)) wd_220) (by decide) (Nat.le_of_ble_eq_true rfl) (by decide) (by decide) dX9_shorten_7 ?_
  by_cases c_1 : ln < lf
  · refine k_topi (v := ln) (if_pos c_1) ?_
    refine va_mmax hx₀ hb (by rw [hml]; exact hl.1.symm) hown (hts (.methodLink RX9 15 Lib.Math.max.name) wd_61) (hts (.static Lib.Math.max.name) wd_62) (hts (.initialized "java/lang/Math") wd_63) (hts (.code Lib.Math.max.name Lib.Math.max.code 2 (some .int)) wd_64) (by decide) (Nat.le_of_ble_eq_true rfl) (by decide) (by decide) dX9_shorten_10 ?_
    by_cases c_2 : (0 : Int32) < ln
    · refine k_topi (v := ln) (if_pos c_2) ?_
      refine va_put (D := (dC, dI)) (ci := 7) (v := .int ln) (ty := .int) (C := RX7) (T := TX7) (N := 4) hx₀ hb hts inlX7 tyX7 tyX7_ok nmX7 hown hK hP hD hS 0 rfl rfl 1 (by decide) (hts (.fieldLink RX9 25 "BittenStick$Text" "length" "I") wd_147) (fun _ h9 => h9) rfl (by decide +kernel) rfl rfl (Nat.le_of_ble_eq_true rfl) dX9_shorten_13 ?_
      clear hP hD hS
      intro H locs hP hD hS
      replace hP := k_w2 (wt := [(kX7 ah av ln fa nu), (kAI av cI 39 tf)]) hP hD rfl
      replace hD := hP.2
      replace hP := hP.1
      refine lv_aload_n hx₀ hb dX9_shorten_16 rfl (lv_at hl 0 rfl) ?_
      obtain ⟨hPc, hDc, hFc, hC⟩ := k_cw (wc := [(kX7 ah av ln fa nu), (kAI av cI 39 tf)]) hP hD hS hA [0, 1] (by decide +kernel) rfl
      refine va_callv (va_runU (As := []) (rest := []) ⟨hx₀, hb, hml, hown, hts⟩ (j_again_X7 l dC dI cI cJ cQ H.size ah av ln fa nu tf (hh0)) (va_cwU 0 hts (kGU wd_173 wd_169 wd_170 wd_194 wd_172 wd_57) rfl rfl rfl rfl (by decide +kernel) ⟨Nat.le_of_ble_eq_true rfl, Nat.le_of_ble_eq_true rfl⟩) (k_preV7 (q0 := 0) hK hPc hDc hN rfl) rfl rfl hl.1 rfl (lv_room (Nat.le_of_ble_eq_true rfl)) dX9_shorten_17 ⟨by decide +kernel, by decide +kernel⟩) hS (fun q _ h => hFc q h) hFc (fun u₀ t₀ H1 locs ht hvm hw hB hz1 hk1 hS => ?_)
      obtain ⟨g_4, ga_5, gl_6, gb_7, gp_8⟩ := u₀
      obtain ⟨hP1, hK1, hD1⟩ := hB
      rw [ht] at hP1
      have hJ := k_jn (wr := []) (wt := [(kX7 ah av ln (g_4 0) (g_4 1)), (kAI av cI 39 tf)]) hP hD hC [] rfl (by decide +kernel) (by decide +kernel) hk1 hFc hP1 hD1 rfl
      clear hP hD hPc hDc hFc hC hP1 hD1 hK1 hz1 hk1 hvm ht
      obtain ⟨hP, hD⟩ := hJ
      generalize H1 = H at hP hS ⊢
      try dsimp only at hw
      obtain ⟨c_9, c_10⟩ := hw
      obtain ⟨hP9, hD9⟩ := k_c2 (wc := [(kX7 ah av ln (g_4 0) (g_4 1)), (kAI av cI 39 tf)]) hP hD [0, 1] (by decide +kernel) rfl
      exact W.vret hx₀ hb hr (fun t₀ ht hW => ⟨⟨(k_fn [ln, (g_4 0), (g_4 1)], k_fa [], k_fl [], k_fL [], k_fp []), rfl, ⟨(lf_j_shorten_X7_1 ln lf hh0 c_1 c_2), (show ln = lf ∨ lf < 0 ∨ ln ≤ lf from (Or.inr (Or.inr ((Int32.le_of_lt c_1))))), c_9, c_10⟩, by rw [ht]; exact hP9, va_K.moved hW.alike hK, hD9⟩, hS.F ht⟩) hS.2.2 dX9_shorten_20
    refine k_topi (v := 0) (if_neg c_2) ?_
    refine va_put (D := (dC, dI)) (ci := 7) (v := .int 0) (ty := .int) (C := RX7) (T := TX7) (N := 4) hx₀ hb hts inlX7 tyX7 tyX7_ok nmX7 hown hK hP hD hS 0 rfl rfl 1 (by decide) (hts (.fieldLink RX9 25 "BittenStick$Text" "length" "I") wd_147) (fun _ h9 => h9) rfl (by decide +kernel) rfl rfl (Nat.le_of_ble_eq_true rfl) dX9_shorten_13 ?_
    clear hP hD hS
    intro H locs hP hD hS
    replace hP := k_w2 (wt := [(kX7 ah av 0 fa nu), (kAI av cI 39 tf)]) hP hD rfl
    replace hD := hP.2
    replace hP := hP.1
    refine lv_aload_n hx₀ hb dX9_shorten_16 rfl (lv_at hl 0 rfl) ?_
    obtain ⟨hPc, hDc, hFc, hC⟩ := k_cw (wc := [(kX7 ah av 0 fa nu), (kAI av cI 39 tf)]) hP hD hS hA [0, 1] (by decide +kernel) rfl
    refine va_callv (va_runU (As := []) (rest := []) ⟨hx₀, hb, hml, hown, hts⟩ (j_again_X7 l dC dI cI cJ cQ H.size ah av 0 fa nu tf (show 0 ≤ (0 : Int32) ∧ (0 : Int32) ≤ 39 from ⟨(by decide), (by decide)⟩)) (va_cwU 0 hts (kGU wd_173 wd_169 wd_170 wd_194 wd_172 wd_57) rfl rfl rfl rfl (by decide +kernel) ⟨Nat.le_of_ble_eq_true rfl, Nat.le_of_ble_eq_true rfl⟩) (k_preV7 (q0 := 0) hK hPc hDc hN rfl) rfl rfl hl.1 rfl (lv_room (Nat.le_of_ble_eq_true rfl)) dX9_shorten_17 ⟨by decide +kernel, by decide +kernel⟩) hS (fun q _ h => hFc q h) hFc (fun u₀ t₀ H1 locs ht hvm hw hB hz1 hk1 hS => ?_)
    obtain ⟨g_12, ga_13, gl_14, gb_15, gp_16⟩ := u₀
    obtain ⟨hP1, hK1, hD1⟩ := hB
    rw [ht] at hP1
    have hJ := k_jn (wr := []) (wt := [(kX7 ah av 0 (g_12 0) (g_12 1)), (kAI av cI 39 tf)]) hP hD hC [] rfl (by decide +kernel) (by decide +kernel) hk1 hFc hP1 hD1 rfl
    clear hP hD hPc hDc hFc hC hP1 hD1 hK1 hz1 hk1 hvm ht
    obtain ⟨hP, hD⟩ := hJ
    generalize H1 = H at hP hS ⊢
    try dsimp only at hw
    obtain ⟨c_17, c_18⟩ := hw
    obtain ⟨hP9, hD9⟩ := k_c2 (wc := [(kX7 ah av 0 (g_12 0) (g_12 1)), (kAI av cI 39 tf)]) hP hD [0, 1] (by decide +kernel) rfl
    exact W.vret hx₀ hb hr (fun t₀ ht hW => ⟨⟨(k_fn [(0 : Int32), (g_12 0), (g_12 1)], k_fa [], k_fl [], k_fL [], k_fp []), rfl, ⟨(show 0 ≤ (0 : Int32) ∧ (0 : Int32) ≤ ln from ⟨(by decide), hh0.1⟩), (show (0 : Int32) = lf ∨ lf < 0 ∨ ln ≤ lf from (Or.inr (Or.inr ((Int32.le_of_lt c_1))))), c_17, c_18⟩, by rw [ht]; exact hP9, va_K.moved hW.alike hK, hD9⟩, hS.F ht⟩) hS.2.2 dX9_shorten_20
  refine k_topi (v := lf) (if_neg c_1) ?_
  refine va_mmax hx₀ hb (by rw [hml]; exact hl.1.symm) hown (hts (.methodLink RX9 15 Lib.Math.max.name) wd_61) (hts (.static Lib.Math.max.name) wd_62) (hts (.initialized "java/lang/Math") wd_63) (hts (.code Lib.Math.max.name Lib.Math.max.code 2 (some .int)) wd_64) (by decide) (Nat.le_of_ble_eq_true rfl) (by decide) (by decide) dX9_shorten_10 ?_
  by_cases c_19 : (0 : Int32) < lf
  · refine k_topi (v := lf) (if_pos c_19) ?_
    refine va_put (D := (dC, dI)) (ci := 7) (v := .int lf) (ty := .int) (C := RX7) (T := TX7) (N := 4) hx₀ hb hts inlX7 tyX7 tyX7_ok nmX7 hown hK hP hD hS 0 rfl rfl 1 (by decide) (hts (.fieldLink RX9 25 "BittenStick$Text" "length" "I") wd_147) (fun _ h9 => h9) rfl (by decide +kernel) rfl rfl (Nat.le_of_ble_eq_true rfl) dX9_shorten_13 ?_
    clear hP hD hS
    intro H locs hP hD hS
    replace hP := k_w2 (wt := [(kX7 ah av lf fa nu), (kAI av cI 39 tf)]) hP hD rfl
    replace hD := hP.2
    replace hP := hP.1
    refine lv_aload_n hx₀ hb dX9_shorten_16 rfl (lv_at hl 0 rfl) ?_
    obtain ⟨hPc, hDc, hFc, hC⟩ := k_cw (wc := [(kX7 ah av lf fa nu), (kAI av cI 39 tf)]) hP hD hS hA [0, 1] (by decide +kernel) rfl
    refine va_callv (va_runU (As := []) (rest := []) ⟨hx₀, hb, hml, hown, hts⟩ (j_again_X7 l dC dI cI cJ cQ H.size ah av lf fa nu tf (lf_j_shorten_X7_2 ln lf hh0 c_1 c_19)) (va_cwU 0 hts (kGU wd_173 wd_169 wd_170 wd_194 wd_172 wd_57) rfl rfl rfl rfl (by decide +kernel) ⟨Nat.le_of_ble_eq_true rfl, Nat.le_of_ble_eq_true rfl⟩) (k_preV7 (q0 := 0) hK hPc hDc hN rfl) rfl rfl hl.1 rfl (lv_room (Nat.le_of_ble_eq_true rfl)) dX9_shorten_17 ⟨by decide +kernel, by decide +kernel⟩) hS (fun q _ h => hFc q h) hFc (fun u₀ t₀ H1 locs ht hvm hw hB hz1 hk1 hS => ?_)
    obtain ⟨g_21, ga_22, gl_23, gb_24, gp_25⟩ := u₀
    obtain ⟨hP1, hK1, hD1⟩ := hB
    rw [ht] at hP1
    have hJ := k_jn (wr := []) (wt := [(kX7 ah av lf (g_21 0) (g_21 1)), (kAI av cI 39 tf)]) hP hD hC [] rfl (by decide +kernel) (by decide +kernel) hk1 hFc hP1 hD1 rfl
    clear hP hD hPc hDc hFc hC hP1 hD1 hK1 hz1 hk1 hvm ht
    obtain ⟨hP, hD⟩ := hJ
    generalize H1 = H at hP hS ⊢
    try dsimp only at hw
    obtain ⟨c_26, c_27⟩ := hw
    obtain ⟨hP9, hD9⟩ := k_c2 (wc := [(kX7 ah av lf (g_21 0) (g_21 1)), (kAI av cI 39 tf)]) hP hD [0, 1] (by decide +kernel) rfl
    exact W.vret hx₀ hb hr (fun t₀ ht hW => ⟨⟨(k_fn [lf, (g_21 0), (g_21 1)], k_fa [], k_fl [], k_fL [], k_fp []), rfl, ⟨(show 0 ≤ lf ∧ lf ≤ ln from ⟨(Int32.le_of_lt c_19), (Int32.not_lt.mp c_1)⟩), (show lf = lf ∨ lf < 0 ∨ ln ≤ lf from (Or.inl (rfl))), c_26, c_27⟩, by rw [ht]; exact hP9, va_K.moved hW.alike hK, hD9⟩, hS.F ht⟩) hS.2.2 dX9_shorten_20
  refine k_topi (v := 0) (if_neg c_19) ?_
  refine va_put (D := (dC, dI)) (ci := 7) (v := .int 0) (ty := .int) (C := RX7) (T := TX7) (N := 4) hx₀ hb hts inlX7 tyX7 tyX7_ok nmX7 hown hK hP hD hS 0 rfl rfl 1 (by decide) (hts (.fieldLink RX9 25 "BittenStick$Text" "length" "I") wd_147) (fun _ h9 => h9) rfl (by decide +kernel) rfl rfl (Nat.le_of_ble_eq_true rfl) dX9_shorten_13 ?_
  clear hP hD hS
  intro H locs hP hD hS
  replace hP := k_w2 (wt := [(kX7 ah av 0 fa nu), (kAI av cI 39 tf)]) hP hD rfl
  replace hD := hP.2
  replace hP := hP.1
  refine lv_aload_n hx₀ hb dX9_shorten_16 rfl (lv_at hl 0 rfl) ?_
  obtain ⟨hPc, hDc, hFc, hC⟩ := k_cw (wc := [(kX7 ah av 0 fa nu), (kAI av cI 39 tf)]) hP hD hS hA [0, 1] (by decide +kernel) rfl
  refine va_callv (va_runU (As := []) (rest := []) ⟨hx₀, hb, hml, hown, hts⟩ (j_again_X7 l dC dI cI cJ cQ H.size ah av 0 fa nu tf (show 0 ≤ (0 : Int32) ∧ (0 : Int32) ≤ 39 from ⟨(by decide), (by decide)⟩)) (va_cwU 0 hts (kGU wd_173 wd_169 wd_170 wd_194 wd_172 wd_57) rfl rfl rfl rfl (by decide +kernel) ⟨Nat.le_of_ble_eq_true rfl, Nat.le_of_ble_eq_true rfl⟩) (k_preV7 (q0 := 0) hK hPc hDc hN rfl) rfl rfl hl.1 rfl (lv_room (Nat.le_of_ble_eq_true rfl)) dX9_shorten_17 ⟨by decide +kernel, by decide +kernel⟩) hS (fun q _ h => hFc q h) hFc (fun u₀ t₀ H1 locs ht hvm hw hB hz1 hk1 hS => ?_)
  obtain ⟨g_29, ga_30, gl_31, gb_32, gp_33⟩ := u₀
  obtain ⟨hP1, hK1, hD1⟩ := hB
  rw [ht] at hP1
  have hJ := k_jn (wr := []) (wt := [(kX7 ah av 0 (g_29 0) (g_29 1)), (kAI av cI 39 tf)]) hP hD hC [] rfl (by decide +kernel) (by decide +kernel) hk1 hFc hP1 hD1 rfl
  clear hP hD hPc hDc hFc hC hP1 hD1 hK1 hz1 hk1 hvm ht
  obtain ⟨hP, hD⟩ := hJ
  generalize H1 = H at hP hS ⊢
  try dsimp only at hw
  obtain ⟨c_34, c_35⟩ := hw
  obtain ⟨hP9, hD9⟩ := k_c2 (wc := [(kX7 ah av 0 (g_29 0) (g_29 1)), (kAI av cI 39 tf)]) hP hD [0, 1] (by decide +kernel) rfl
  exact W.vret hx₀ hb hr (fun t₀ ht hW => ⟨⟨(k_fn [(0 : Int32), (g_29 0), (g_29 1)], k_fa [], k_fl [], k_fL [], k_fp []), rfl, ⟨(show 0 ≤ (0 : Int32) ∧ (0 : Int32) ≤ ln from ⟨(by decide), hh0.1⟩), (lf_j_shorten_X7_3 ln lf hh0 c_1 c_19), c_34, c_35⟩, by rw [ht]; exact hP9, va_K.moved hW.alike hK, hD9⟩, hS.F ht⟩) hS.2.2 dX9_shorten_20
theorem lf_j_again_X2_1 (a0 : Int32) (a1 : Int32) (a2 : Nat) (a3 : Int32) (h0 : 0 ≤ a0 ∧ a0 ≤ 23) (h1 : 0 ≤ a1) (h2 : (a0.toInt - a1.toInt).toNat = a2) (h3 : a0 ≤ a1) (h4 : a3 = (-1)) (h5 : a0 = (-1)) : False := by
  first | rfl | assumption | decide | exact Or.inl rfl | (first | rfl | assumption | decide | omega | (have hr0 := Int32.toInt_lt a0; have hs0 := Int32.le_toInt a0; have hr1 := Int32.toInt_lt a1; have hs1 := Int32.le_toInt a1; have hr2 := Int32.toInt_lt a3; have hs2 := Int32.le_toInt a3; simp only [Int64.toInt_add, Int64.toInt_sub, Int32.toInt_add, Int32.toInt_sub, Int32.toInt_mul, Int64.le_iff_toInt_le, Int64.lt_iff_toInt_lt, Int32.le_iff_toInt_le, Int32.lt_iff_toInt_lt, ← Int32.toInt_inj, ← Int64.toInt_inj, Int32.toInt_toInt64, kc_m1, kc_0, kc_1, kc_23, true_and, and_true, not_true_eq_false, not_false_eq_true] at * <;> ((first | omega | ((try simp (disch := omega) only [k_bm64] at *); (try simp (disch := omega) only [k_bm] at *); (try simp (disch := omega) only [k_bm] at *); omega) | (simp only [Int.bmod] at *; omega)))))
theorem lf_j_again_X2_2 (a0 : Int32) (a1 : Int32) (a2 : Nat) (h0 : 0 ≤ a0 ∧ a0 ≤ 23) (h1 : 0 ≤ a1) (h2 : (a0.toInt - a1.toInt).toNat = a2) (h3 : ¬ a0 ≤ a1) : 0 ≤ (a1 + 1) := by
  first | rfl | assumption | decide | exact Or.inl rfl | (first | rfl | assumption | decide | omega | (have hr0 := Int32.toInt_lt a0; have hs0 := Int32.le_toInt a0; have hr1 := Int32.toInt_lt a1; have hs1 := Int32.le_toInt a1; simp only [Int64.toInt_add, Int64.toInt_sub, Int32.toInt_add, Int32.toInt_sub, Int32.toInt_mul, Int64.le_iff_toInt_le, Int64.lt_iff_toInt_lt, Int32.le_iff_toInt_le, Int32.lt_iff_toInt_lt, ← Int32.toInt_inj, ← Int64.toInt_inj, Int32.toInt_toInt64, kc_0, kc_1, kc_23, true_and, and_true, not_true_eq_false, not_false_eq_true] at * <;> ((first | omega | ((try simp (disch := omega) only [k_bm64] at *); (try simp (disch := omega) only [k_bm] at *); (try simp (disch := omega) only [k_bm] at *); omega) | (simp only [Int.bmod] at *; omega)))))
theorem lf_j_again_X2_3 (a0 : Int32) (a1 : Int32) (a2 : Nat) (h0 : 0 ≤ a0 ∧ a0 ≤ 23) (h1 : 0 ≤ a1) (h2 : (a0.toInt - a1.toInt).toNat = a2) (h3 : ¬ a0 ≤ a1) : 0 ≤ a1 ∧ a1 < 23 := by
  first | rfl | assumption | decide | exact Or.inl rfl | (first | rfl | assumption | decide | omega | (have hr0 := Int32.toInt_lt a0; have hs0 := Int32.le_toInt a0; have hr1 := Int32.toInt_lt a1; have hs1 := Int32.le_toInt a1; simp only [Int64.toInt_add, Int64.toInt_sub, Int32.toInt_add, Int32.toInt_sub, Int32.toInt_mul, Int64.le_iff_toInt_le, Int64.lt_iff_toInt_lt, Int32.le_iff_toInt_le, Int32.lt_iff_toInt_lt, ← Int32.toInt_inj, ← Int64.toInt_inj, Int32.toInt_toInt64, kc_0, kc_23, true_and, and_true, not_true_eq_false, not_false_eq_true] at * <;> ((first | omega | ((try simp (disch := omega) only [k_bm64] at *); (try simp (disch := omega) only [k_bm] at *); (try simp (disch := omega) only [k_bm] at *); omega) | (simp only [Int.bmod] at *; omega)))))
theorem lf_j_again_X2_4 (a0 : Int32) (a1 : Int32) (a2 : Nat) (h0 : 0 ≤ a0 ∧ a0 ≤ 23) (h1 : 0 ≤ a1) (h2 : (a0.toInt - a1.toInt).toNat = a2) (h3 : ¬ a0 ≤ a1) : (a0.toInt - (a1 + 1).toInt).toNat < a2 := by
  first | rfl | assumption | decide | exact Or.inl rfl | (first | rfl | assumption | decide | omega | (have hr0 := Int32.toInt_lt a0; have hs0 := Int32.le_toInt a0; have hr1 := Int32.toInt_lt a1; have hs1 := Int32.le_toInt a1; simp only [Int64.toInt_add, Int64.toInt_sub, Int32.toInt_add, Int32.toInt_sub, Int32.toInt_mul, Int64.le_iff_toInt_le, Int64.lt_iff_toInt_lt, Int32.le_iff_toInt_le, Int32.lt_iff_toInt_lt, ← Int32.toInt_inj, ← Int64.toInt_inj, Int32.toInt_toInt64, kc_0, kc_1, kc_23, true_and, and_true, not_true_eq_false, not_false_eq_true] at * <;> ((first | omega | ((try simp (disch := omega) only [k_bm64] at *); (try simp (disch := omega) only [k_bm] at *); (try simp (disch := omega) only [k_bm] at *); omega) | (simp only [Int.bmod] at *; omega)))))
set_option maxHeartbeats 4000000 in
set_option maxRecDepth 100000 in
theorem j_again_X2 (l : Launch) (dC : Nat → ClassId) (dI : Nat → Nat → Nat) (cI cJ cQ : ClassId) (sz : Nat) (ah : Nat) (av : Nat) (ln : Int32) (fa : Int32) (nu : Int32) (tf : Nat → Int32) (hh0 : 0 ≤ ln ∧ ln ≤ 23) : Met l yX9_readAgain (kW yX9_readAgain cX9_readAgain 2 none) { frames := 1, cells := 0, slots := 0, locals := 21 } (kPre dC dI cI cJ cQ sz [.ref ah] [(kX2 ah av ln fa nu), (kAI av cI 23 tf)]) (va_Qv (fun (u : kS) => ((u.1 0) = kFt (kTh2 ln) ln tf) ∧ ((u.1 1) = kNm (kTh2 ln) ln tf)) (fun (u : kS) t₀ => kB dC dI cI cJ cQ (va_A [(kX2 ah av ln fa nu), (kAI av cI 23 tf)] sz) [(kX2 ah av ln (u.1 0) (u.1 1)), (kAI av cI 23 tf)] t₀) (va_A [(kX2 ah av ln fa nu), (kAI av cI 23 tf)] sz)) 0 0 (va_A [(kX2 ah av ln fa nu), (kAI av cI 23 tf)] sz) := by
  refine Met.ofW (cc := cX9_readAgain) (maxL := 2) (ret := none) (by decide) rfl ?_
  intro p₀ e₀ s₀ m₀ args below meth c₀ s₁ B hml hv₀
  obtain ⟨rfl, hsz, hP, hK, hD0, hN⟩ := hv₀
  have hx₀ := B.exec
  have hb := B.bytes
  have hr := B.returns
  have hts := atoms_spec (ws := (kW yX9_readAgain cX9_readAgain 2 none)) B.pre
  have hts := fun w h => hts w (List.mem_cons_of_mem _ h)
  have hown : s₀.vm.findClass RX9 = some m₀.cls := findClass_of_methodNamed B.named
  have hlocks := B.notSynchronized
  subst hsz
  have hD := hD0.self (sz := s₀.heap.size)
  generalize hAe : va_A [(kX2 ah av ln fa nu), (kAI av cI 23 tf)] s₀.heap.size = A at hD ⊢
  have hA : ∀ q : Nat, s₀.heap.size ≤ q → A q := fun q h => by rw [← hAe]; exact Or.inr h
  have hS : va_S A s₀.heap s₀.heap [] := va_S.rf
  have hP : va_P (dC, dI) vwCl [(kX2 ah av ln fa nu), (kAI av cI 23 tf)] s₀.heap := hP
  have hl := lv_entry ([.ref ah]) (n := 2) (Nat.le_of_ble_eq_true rfl)
  rw [lg_entry_eq]
  generalize (lg_sl ([.ref ah]) ++ List.replicate (2 - (lg_sl ([.ref ah])).length) Slot.unset).toArray = ls at hl ⊢
  have hl : lv_has ls 2 [(0, .ref ah)] := hl
  obtain ⟨H, hH⟩ : ∃ z : Heap, z = s₀.heap := ⟨_, rfl⟩
  rw [← hH] at hP
  have hS : va_S A s₀.heap H [] := by rw [hH]; exact hS
  refine k_heap hH ?_
  have hD : va_D A [(kX2 ah av ln fa nu), (kAI av cI 23 tf)] := hD
  obtain ⟨locs, hlo⟩ : ∃ z : List Loc, z = [] := ⟨_, rfl⟩
  rw [← hlo] at hS ⊢
  clear hlo hH hAe hD0
  refine lv_aload_n hx₀ hb dX9_readAgain_0 rfl (lv_at hl 0 rfl) ?_
  refine lv_iconst (v := (-1)) hx₀ hb dX9_readAgain_1 (by decide +kernel) ?_
  refine va_put (D := (dC, dI)) (ci := 2) (v := .int (-1)) (ty := .int) (C := RX2) (T := TX2) (N := 4) hx₀ hb hts inlX2 tyX2 tyX2_ok nmX2 hown hK hP hD hS 0 rfl rfl 2 (by decide) (hts (.fieldLink RX9 9 "BittenStick$Text" "faultAt" "I") wd_60) (fun _ h9 => h9) rfl (by decide +kernel) rfl rfl (Nat.le_of_ble_eq_true rfl) dX9_readAgain_2 ?_
  clear hP hD hS
  intro H locs hP hD hS
  replace hP := k_w2 (wt := [(kX2 ah av ln (-1) nu), (kAI av cI 23 tf)]) hP hD rfl
  replace hD := hP.2
  replace hP := hP.1
  refine lv_iconst (v := 0) hx₀ hb dX9_readAgain_5 (by decide +kernel) ?_
  refine lv_istore_n (lv' := [(1, .int 0), (0, .ref ah)]) hx₀ hb dX9_readAgain_6 rfl hl (by decide) rfl (fun ls hl => ?_)
  refine (?keyz1 : ∀ (jz1 : Nat) (iz1 : Int32) (faz1 : Int32) (H : Heap) (locs : List Loc) (ls : Array Slot), (0 ≤ iz1) → (k_ra tf ln iz1 faz1) → ((ln.toInt - iz1.toInt).toNat = jz1) → va_P (dC, dI) vwCl [(kX2 ah av ln faz1 nu), (kAI av cI 23 tf)] H → va_D A [(kX2 ah av ln faz1 nu), (kAI av cI 23 tf)] → va_S A s₀.heap H locs → lv_has ls 2 [(1, .int iz1), (0, .ref ah)] → W p₀ l e₀ _ s₀ m₀ _ below meth c₀ H locs _ _ _ (F0 m₀ 7 ls [])) _ (0 : Int32) (-1 : Int32) H locs ls (show 0 ≤ (0 : Int32) from (by decide)) (k_ra_0) rfl hP hD hS hl
  clear hP hD hS hl
  intro jz1
  induction jz1 using Nat.strongRecOn with
  | ind jz1 ihz1 =>
    intro iz1 faz1 H locs ls hiz1_0 hiz1_1 hjz1 hP hD hS hl
    refine lv_iload_n hx₀ hb dX9_readAgain_7 rfl (lv_at hl 0 rfl) ?_
    refine lv_aload_n hx₀ hb dX9_readAgain_8 rfl (lv_at hl 1 rfl) ?_
    refine va_get (D := (dC, dI)) (ci := 2) (v := .int ln) (C := RX2) (T := TX2) (N := 4) hx₀ hb hts inlX2 hown hK hP 0 rfl rfl 1 (by decide) (hts (.fieldLink RX9 25 "BittenStick$Text" "length" "I") wd_147) (fun _ h9 => h9) rfl dX9_readAgain_9 ?_
    refine lv_icmp_ge (tgt := 43) hx₀ hb dX9_readAgain_12 (by decide) (fun c_2 => ?_) (fun c_2 => ?_)
    · refine lv_aload_n hx₀ hb dX9_readAgain_43 rfl (lv_at hl 1 rfl) ?_
      refine lv_aload_n hx₀ hb dX9_readAgain_44 rfl (lv_at hl 1 rfl) ?_
      refine va_get (D := (dC, dI)) (ci := 2) (v := .int ln) (C := RX2) (T := TX2) (N := 4) hx₀ hb hts inlX2 hown hK hP 0 rfl rfl 1 (by decide) (hts (.fieldLink RX9 25 "BittenStick$Text" "length" "I") wd_147) (fun _ h9 => h9) rfl dX9_readAgain_45 ?_
      obtain ⟨hPc, hDc, hFc, hC⟩ := k_cw (wc := [(kX2 ah av ln faz1 nu)]) hP hD hS hA [0] (by decide +kernel) rfl
      refine va_calli (va_runU (As := [.int ln]) (rest := []) ⟨hx₀, hb, hml, hown, hts⟩ (j_things_X2 l dC dI cI cJ cQ H.size ah ln av ln faz1 nu (hh0.1)) (va_cwA 1 hts (kGU wd_186 wd_182 wd_183 wd_184 wd_185 wd_22) rfl rfl rfl hN.2.1 (by decide +kernel) ⟨Nat.le_of_ble_eq_true rfl, Nat.le_of_ble_eq_true rfl⟩) (k_preV2 (q0 := 0) hK hPc hDc hN rfl) rfl rfl hl.1 rfl (lv_room (Nat.le_of_ble_eq_true rfl)) dX9_readAgain_48 ⟨by decide +kernel, by decide +kernel⟩) hS (fun q _ h => hFc q h) hFc (fun r_3 u₀ t₀ H1 locs ht hvm hw hB hz1 hk1 hS => ?_)
      obtain ⟨hP1, hK1, hD1⟩ := hB
      rw [ht] at hP1
      have hJ := k_jn (wr := [(kAI av cI 23 tf)]) (wt := [(kAI av cI 23 tf), (kX2 ah av ln faz1 nu)]) hP hD hC [1] rfl (by decide +kernel) (by decide +kernel) hk1 hFc hP1 hD1 rfl
      clear hP hD hPc hDc hFc hC hP1 hD1 hK1 hz1 hk1 hvm ht
      obtain ⟨hP, hD⟩ := hJ
      generalize H1 = H at hP hS ⊢
      try dsimp only at hw
      refine k_topi (v := kTh2 ln) hw ?_
      refine lv_istore_n (lv' := [(1, .int (kTh2 ln)), (0, .ref ah)]) hx₀ hb dX9_readAgain_51 rfl hl (by decide) rfl (fun ls hl => ?_)
      refine lv_aload_n hx₀ hb dX9_readAgain_52 rfl (lv_at hl 1 rfl) ?_
      refine va_get (D := (dC, dI)) (ci := 2) (v := .int faz1) (C := RX2) (T := TX2) (N := 4) hx₀ hb hts inlX2 hown hK hP 1 rfl rfl 2 (by decide) (hts (.fieldLink RX9 9 "BittenStick$Text" "faultAt" "I") wd_60) (fun _ h9 => h9) rfl dX9_readAgain_53 ?_
      refine lv_iconst (v := (-1)) hx₀ hb dX9_readAgain_56 (by decide +kernel) ?_
      refine lv_icmp_ne (tgt := 73) hx₀ hb dX9_readAgain_57 (by decide) (fun c_4 => ?_) (fun c_4 => ?_)
      · refine lv_aload_n hx₀ hb dX9_readAgain_73 rfl (lv_at hl 1 rfl) ?_
        refine lv_aload_n hx₀ hb dX9_readAgain_74 rfl (lv_at hl 1 rfl) ?_
        refine va_get (D := (dC, dI)) (ci := 2) (v := .int faz1) (C := RX2) (T := TX2) (N := 4) hx₀ hb hts inlX2 hown hK hP 1 rfl rfl 2 (by decide) (hts (.fieldLink RX9 9 "BittenStick$Text" "faultAt" "I") wd_60) (fun _ h9 => h9) rfl dX9_readAgain_75 ?_
        refine lv_iconst (v := (-1)) hx₀ hb dX9_readAgain_78 (by decide +kernel) ?_
        refine lv_icmp_ne (tgt := 86) hx₀ hb dX9_readAgain_79 (by decide) (fun _ => ?_) (fun c9 => absurd c9 c_4)
        refine lv_iconst (v := 0) hx₀ hb dX9_readAgain_86 (by decide +kernel) ?_
        refine va_put (D := (dC, dI)) (ci := 2) (v := .int 0) (ty := .int) (C := RX2) (T := TX2) (N := 4) hx₀ hb hts inlX2 tyX2 tyX2_ok nmX2 hown hK hP hD hS 1 rfl rfl 3 (by decide) (hts (.fieldLink RX9 37 "BittenStick$Text" "number" "I") wd_174) (fun _ h9 => h9) rfl (by decide +kernel) rfl rfl (Nat.le_of_ble_eq_true rfl) dX9_readAgain_87 ?_
        clear hP hD hS
        intro H locs hP hD hS
        replace hP := k_w2 (wt := [(kAI av cI 23 tf), (kX2 ah av ln faz1 0)]) hP hD rfl
        replace hD := hP.2
        replace hP := hP.1
        obtain ⟨hP9, hD9⟩ := k_c2 (wc := [(kX2 ah av ln faz1 0), (kAI av cI 23 tf)]) hP hD [1, 0] (by decide +kernel) rfl
        exact W.vret hx₀ hb hr (fun t₀ ht hW => ⟨⟨(k_fn [faz1, (0 : Int32)], k_fa [], k_fl [], k_fL [], k_fp []), rfl, ⟨((k_ra_C (th := (kTh2 ln)) hiz1_1 c_4 (hh0.1)).1), ((k_ra_C (th := (kTh2 ln)) hiz1_1 c_4 (hh0.1)).2)⟩, by rw [ht]; exact hP9, va_K.moved hW.alike hK, hD9⟩, hS.F ht⟩) hS.2.2 dX9_readAgain_90
      · refine lv_iload_n hx₀ hb dX9_readAgain_60 rfl (lv_at hl 0 rfl) ?_
        refine lv_iconst (v := (-1)) hx₀ hb dX9_readAgain_61 (by decide +kernel) ?_
        refine lv_icmp_ne (tgt := 73) hx₀ hb dX9_readAgain_62 (by decide) (fun c_6 => ?_) (fun c_6 => ?_)
        · refine lv_aload_n hx₀ hb dX9_readAgain_73 rfl (lv_at hl 1 rfl) ?_
          refine lv_aload_n hx₀ hb dX9_readAgain_74 rfl (lv_at hl 1 rfl) ?_
          refine va_get (D := (dC, dI)) (ci := 2) (v := .int faz1) (C := RX2) (T := TX2) (N := 4) hx₀ hb hts inlX2 hown hK hP 1 rfl rfl 2 (by decide) (hts (.fieldLink RX9 9 "BittenStick$Text" "faultAt" "I") wd_60) (fun _ h9 => h9) rfl dX9_readAgain_75 ?_
          refine lv_iconst (v := (-1)) hx₀ hb dX9_readAgain_78 (by decide +kernel) ?_
          refine lv_icmp_ne (tgt := 86) hx₀ hb dX9_readAgain_79 (by decide) (fun c9 => absurd c_4 c9) (fun _ => ?_)
          refine lv_iload_n hx₀ hb dX9_readAgain_82 rfl (lv_at hl 0 rfl) ?_
          refine lv_goto (tgt := 87) hx₀ hb dX9_readAgain_83 (by decide) ?_
          refine va_put (D := (dC, dI)) (ci := 2) (v := .int (kTh2 ln)) (ty := .int) (C := RX2) (T := TX2) (N := 4) hx₀ hb hts inlX2 tyX2 tyX2_ok nmX2 hown hK hP hD hS 1 rfl rfl 3 (by decide) (hts (.fieldLink RX9 37 "BittenStick$Text" "number" "I") wd_174) (fun _ h9 => h9) rfl (by decide +kernel) rfl rfl (Nat.le_of_ble_eq_true rfl) dX9_readAgain_87 ?_
          clear hP hD hS
          intro H locs hP hD hS
          replace hP := k_w2 (wt := [(kAI av cI 23 tf), (kX2 ah av ln faz1 (kTh2 ln))]) hP hD rfl
          replace hD := hP.2
          replace hP := hP.1
          obtain ⟨hP9, hD9⟩ := k_c2 (wc := [(kX2 ah av ln faz1 (kTh2 ln)), (kAI av cI 23 tf)]) hP hD [1, 0] (by decide +kernel) rfl
          exact W.vret hx₀ hb hr (fun t₀ ht hW => ⟨⟨(k_fn [faz1, (kTh2 ln)], k_fa [], k_fl [], k_fL [], k_fp []), rfl, ⟨((k_ra_B (th := (kTh2 ln)) hiz1_1 c_4 (hh0.1) c_2 c_6).1), ((k_ra_B (th := (kTh2 ln)) hiz1_1 c_4 (hh0.1) c_2 c_6).2)⟩, by rw [ht]; exact hP9, va_K.moved hW.alike hK, hD9⟩, hS.F ht⟩) hS.2.2 dX9_readAgain_90
        · refine lv_aload_n hx₀ hb dX9_readAgain_65 rfl (lv_at hl 1 rfl) ?_
          refine lv_aload_n hx₀ hb dX9_readAgain_66 rfl (lv_at hl 1 rfl) ?_
          refine va_get (D := (dC, dI)) (ci := 2) (v := .int ln) (C := RX2) (T := TX2) (N := 4) hx₀ hb hts inlX2 hown hK hP 1 rfl rfl 1 (by decide) (hts (.fieldLink RX9 25 "BittenStick$Text" "length" "I") wd_147) (fun _ h9 => h9) rfl dX9_readAgain_67 ?_
          refine va_put (D := (dC, dI)) (ci := 2) (v := .int ln) (ty := .int) (C := RX2) (T := TX2) (N := 4) hx₀ hb hts inlX2 tyX2 tyX2_ok nmX2 hown hK hP hD hS 1 rfl rfl 2 (by decide) (hts (.fieldLink RX9 9 "BittenStick$Text" "faultAt" "I") wd_60) (fun _ h9 => h9) rfl (by decide +kernel) rfl rfl (Nat.le_of_ble_eq_true rfl) dX9_readAgain_70 ?_
          clear hP hD hS
          intro H locs hP hD hS
          replace hP := k_w2 (wt := [(kAI av cI 23 tf), (kX2 ah av ln ln nu)]) hP hD rfl
          replace hD := hP.2
          replace hP := hP.1
          refine lv_aload_n hx₀ hb dX9_readAgain_73 rfl (lv_at hl 1 rfl) ?_
          refine lv_aload_n hx₀ hb dX9_readAgain_74 rfl (lv_at hl 1 rfl) ?_
          refine va_get (D := (dC, dI)) (ci := 2) (v := .int ln) (C := RX2) (T := TX2) (N := 4) hx₀ hb hts inlX2 hown hK hP 1 rfl rfl 2 (by decide) (hts (.fieldLink RX9 9 "BittenStick$Text" "faultAt" "I") wd_60) (fun _ h9 => h9) rfl dX9_readAgain_75 ?_
          refine lv_iconst (v := (-1)) hx₀ hb dX9_readAgain_78 (by decide +kernel) ?_
          refine lv_icmp_ne (tgt := 86) hx₀ hb dX9_readAgain_79 (by decide) (fun c_8 => ?_) (fun c9 => (lf_j_again_X2_1 ln iz1 jz1 faz1 hh0 hiz1_0 hjz1 c_2 c_4 c9).elim)
          refine lv_iconst (v := 0) hx₀ hb dX9_readAgain_86 (by decide +kernel) ?_
          refine va_put (D := (dC, dI)) (ci := 2) (v := .int 0) (ty := .int) (C := RX2) (T := TX2) (N := 4) hx₀ hb hts inlX2 tyX2 tyX2_ok nmX2 hown hK hP hD hS 1 rfl rfl 3 (by decide) (hts (.fieldLink RX9 37 "BittenStick$Text" "number" "I") wd_174) (fun _ h9 => h9) rfl (by decide +kernel) rfl rfl (Nat.le_of_ble_eq_true rfl) dX9_readAgain_87 ?_
          clear hP hD hS
          intro H locs hP hD hS
          replace hP := k_w2 (wt := [(kAI av cI 23 tf), (kX2 ah av ln ln 0)]) hP hD rfl
          replace hD := hP.2
          replace hP := hP.1
          obtain ⟨hP9, hD9⟩ := k_c2 (wc := [(kX2 ah av ln ln 0), (kAI av cI 23 tf)]) hP hD [1, 0] (by decide +kernel) rfl
          exact W.vret hx₀ hb hr (fun t₀ ht hW => ⟨⟨(k_fn [ln, (0 : Int32)], k_fa [], k_fl [], k_fL [], k_fp []), rfl, ⟨((k_ra_A (th := (kTh2 ln)) hiz1_1 c_4 (hh0.1) c_2 c_6).1), ((k_ra_A (th := (kTh2 ln)) hiz1_1 c_4 (hh0.1) c_2 c_6).2)⟩, by rw [ht]; exact hP9, va_K.moved hW.alike hK, hD9⟩, hS.F ht⟩) hS.2.2 dX9_readAgain_90
    · refine lv_aload_n hx₀ hb dX9_readAgain_15 rfl (lv_at hl 1 rfl) ?_
      refine va_get (D := (dC, dI)) (ci := 2) (v := .int faz1) (C := RX2) (T := TX2) (N := 4) hx₀ hb hts inlX2 hown hK hP 0 rfl rfl 2 (by decide) (hts (.fieldLink RX9 9 "BittenStick$Text" "faultAt" "I") wd_60) (fun _ h9 => h9) rfl dX9_readAgain_16 ?_
      refine lv_iconst (v := (-1)) hx₀ hb dX9_readAgain_19 (by decide +kernel) ?_
      refine lv_icmp_ne (tgt := 43) hx₀ hb dX9_readAgain_20 (by decide) (fun c_9 => ?_) (fun c_9 => ?_)
      · refine lv_aload_n hx₀ hb dX9_readAgain_43 rfl (lv_at hl 1 rfl) ?_
        refine lv_aload_n hx₀ hb dX9_readAgain_44 rfl (lv_at hl 1 rfl) ?_
        refine va_get (D := (dC, dI)) (ci := 2) (v := .int ln) (C := RX2) (T := TX2) (N := 4) hx₀ hb hts inlX2 hown hK hP 0 rfl rfl 1 (by decide) (hts (.fieldLink RX9 25 "BittenStick$Text" "length" "I") wd_147) (fun _ h9 => h9) rfl dX9_readAgain_45 ?_
        obtain ⟨hPc, hDc, hFc, hC⟩ := k_cw (wc := [(kX2 ah av ln faz1 nu)]) hP hD hS hA [0] (by decide +kernel) rfl
        refine va_calli (va_runU (As := [.int ln]) (rest := []) ⟨hx₀, hb, hml, hown, hts⟩ (j_things_X2 l dC dI cI cJ cQ H.size ah ln av ln faz1 nu (hh0.1)) (va_cwA 1 hts (kGU wd_186 wd_182 wd_183 wd_184 wd_185 wd_22) rfl rfl rfl hN.2.1 (by decide +kernel) ⟨Nat.le_of_ble_eq_true rfl, Nat.le_of_ble_eq_true rfl⟩) (k_preV2 (q0 := 0) hK hPc hDc hN rfl) rfl rfl hl.1 rfl (lv_room (Nat.le_of_ble_eq_true rfl)) dX9_readAgain_48 ⟨by decide +kernel, by decide +kernel⟩) hS (fun q _ h => hFc q h) hFc (fun r_10 u₀ t₀ H1 locs ht hvm hw hB hz1 hk1 hS => ?_)
        obtain ⟨hP1, hK1, hD1⟩ := hB
        rw [ht] at hP1
        have hJ := k_jn (wr := [(kAI av cI 23 tf)]) (wt := [(kAI av cI 23 tf), (kX2 ah av ln faz1 nu)]) hP hD hC [1] rfl (by decide +kernel) (by decide +kernel) hk1 hFc hP1 hD1 rfl
        clear hP hD hPc hDc hFc hC hP1 hD1 hK1 hz1 hk1 hvm ht
        obtain ⟨hP, hD⟩ := hJ
        generalize H1 = H at hP hS ⊢
        try dsimp only at hw
        refine k_topi (v := kTh2 ln) hw ?_
        refine lv_istore_n (lv' := [(1, .int (kTh2 ln)), (0, .ref ah)]) hx₀ hb dX9_readAgain_51 rfl hl (by decide) rfl (fun ls hl => ?_)
        refine lv_aload_n hx₀ hb dX9_readAgain_52 rfl (lv_at hl 1 rfl) ?_
        refine va_get (D := (dC, dI)) (ci := 2) (v := .int faz1) (C := RX2) (T := TX2) (N := 4) hx₀ hb hts inlX2 hown hK hP 1 rfl rfl 2 (by decide) (hts (.fieldLink RX9 9 "BittenStick$Text" "faultAt" "I") wd_60) (fun _ h9 => h9) rfl dX9_readAgain_53 ?_
        refine lv_iconst (v := (-1)) hx₀ hb dX9_readAgain_56 (by decide +kernel) ?_
        refine lv_icmp_ne (tgt := 73) hx₀ hb dX9_readAgain_57 (by decide) (fun _ => ?_) (fun c9 => absurd c9 c_9)
        refine lv_aload_n hx₀ hb dX9_readAgain_73 rfl (lv_at hl 1 rfl) ?_
        refine lv_aload_n hx₀ hb dX9_readAgain_74 rfl (lv_at hl 1 rfl) ?_
        refine va_get (D := (dC, dI)) (ci := 2) (v := .int faz1) (C := RX2) (T := TX2) (N := 4) hx₀ hb hts inlX2 hown hK hP 1 rfl rfl 2 (by decide) (hts (.fieldLink RX9 9 "BittenStick$Text" "faultAt" "I") wd_60) (fun _ h9 => h9) rfl dX9_readAgain_75 ?_
        refine lv_iconst (v := (-1)) hx₀ hb dX9_readAgain_78 (by decide +kernel) ?_
        refine lv_icmp_ne (tgt := 86) hx₀ hb dX9_readAgain_79 (by decide) (fun _ => ?_) (fun c9 => absurd c9 c_9)
        refine lv_iconst (v := 0) hx₀ hb dX9_readAgain_86 (by decide +kernel) ?_
        refine va_put (D := (dC, dI)) (ci := 2) (v := .int 0) (ty := .int) (C := RX2) (T := TX2) (N := 4) hx₀ hb hts inlX2 tyX2 tyX2_ok nmX2 hown hK hP hD hS 1 rfl rfl 3 (by decide) (hts (.fieldLink RX9 37 "BittenStick$Text" "number" "I") wd_174) (fun _ h9 => h9) rfl (by decide +kernel) rfl rfl (Nat.le_of_ble_eq_true rfl) dX9_readAgain_87 ?_
        clear hP hD hS
        intro H locs hP hD hS
        replace hP := k_w2 (wt := [(kAI av cI 23 tf), (kX2 ah av ln faz1 0)]) hP hD rfl
        replace hD := hP.2
        replace hP := hP.1
        obtain ⟨hP9, hD9⟩ := k_c2 (wc := [(kX2 ah av ln faz1 0), (kAI av cI 23 tf)]) hP hD [1, 0] (by decide +kernel) rfl
        exact W.vret hx₀ hb hr (fun t₀ ht hW => ⟨⟨(k_fn [faz1, (0 : Int32)], k_fa [], k_fl [], k_fL [], k_fp []), rfl, ⟨((k_ra_C (th := (kTh2 ln)) hiz1_1 c_9 (hh0.1)).1), ((k_ra_C (th := (kTh2 ln)) hiz1_1 c_9 (hh0.1)).2)⟩, by rw [ht]; exact hP9, va_K.moved hW.alike hK, hD9⟩, hS.F ht⟩) hS.2.2 dX9_readAgain_90
      · refine lv_aload_n hx₀ hb dX9_readAgain_23 rfl (lv_at hl 1 rfl) ?_
        refine lv_iload_n hx₀ hb dX9_readAgain_24 rfl (lv_at hl 0 rfl) ?_
        obtain ⟨hPc, hDc, hFc, hC⟩ := k_cw (wc := [(kX2 ah av ln faz1 nu), (kAI av cI 23 tf)]) hP hD hS hA [0, 1] (by decide +kernel) rfl
        refine va_calli (va_runU (As := [.int iz1]) (rest := []) ⟨hx₀, hb, hml, hown, hts⟩ (j_valueAt_X2 l dC dI cI cJ cQ H.size ah iz1 av ln faz1 nu tf) (va_cwU 1 hts (kGU wd_179 wd_175 wd_176 wd_177 wd_178 wd_57) rfl rfl rfl rfl (by decide +kernel) ⟨Nat.le_of_ble_eq_true rfl, Nat.le_of_ble_eq_true rfl⟩) (k_preV2 (q0 := 0) hK hPc hDc hN rfl) rfl rfl hl.1 rfl (lv_room (Nat.le_of_ble_eq_true rfl)) dX9_readAgain_25 ⟨by decide +kernel, by decide +kernel⟩) hS (fun q _ h => hFc q h) hFc (fun r_13 u₀ t₀ H1 locs ht hvm hw hB hz1 hk1 hS => ?_)
        obtain ⟨hP1, hK1, hD1⟩ := hB
        rw [ht] at hP1
        have hJ := k_jn (wr := []) (wt := [(kX2 ah av ln faz1 nu), (kAI av cI 23 tf)]) hP hD hC [] rfl (by decide +kernel) (by decide +kernel) hk1 hFc hP1 hD1 rfl
        clear hP hD hPc hDc hFc hC hP1 hD1 hK1 hz1 hk1 hvm ht
        obtain ⟨hP, hD⟩ := hJ
        generalize H1 = H at hP hS ⊢
        try dsimp only at hw
        refine k_topi (v := kAt 23 tf iz1) hw ?_
        refine lv_iconst (v := (-1)) hx₀ hb dX9_readAgain_28 (by decide +kernel) ?_
        refine lv_icmp_ne (tgt := 37) hx₀ hb dX9_readAgain_29 (by decide) (fun c_14 => ?_) (fun c_14 => ?_)
        · refine lv_iinc (v := iz1 + 1) (lv' := [(1, .int (iz1 + 1)), (0, .ref ah)]) hx₀ hb dX9_readAgain_37 hl (k := 0) rfl rfl (by decide) rfl (fun ls hl => ?_)
          refine lv_goto (tgt := 7) hx₀ hb dX9_readAgain_40 (by decide) ?_
          exact ihz1 _ (lf_j_again_X2_4 ln iz1 jz1 hh0 hiz1_0 hjz1 c_2) (iz1 + 1) faz1 _ _ _ (lf_j_again_X2_2 ln iz1 jz1 hh0 hiz1_0 hjz1 c_2) (k_ra_s hiz1_1 c_9 (hiz1_0) c_2 (fun q => c_14 ((kAt_eq (lf_j_again_X2_3 ln iz1 jz1 hh0 hiz1_0 hjz1 c_2)).trans q))) rfl (hP.sub [0, 1] rfl) (hD.sub [0, 1] (by decide +kernel) rfl) hS (lv_sub hl [0, 1] rfl)
        · refine lv_aload_n hx₀ hb dX9_readAgain_32 rfl (lv_at hl 1 rfl) ?_
          refine lv_iload_n hx₀ hb dX9_readAgain_33 rfl (lv_at hl 0 rfl) ?_
          refine va_put (D := (dC, dI)) (ci := 2) (v := .int iz1) (ty := .int) (C := RX2) (T := TX2) (N := 4) hx₀ hb hts inlX2 tyX2 tyX2_ok nmX2 hown hK hP hD hS 0 rfl rfl 2 (by decide) (hts (.fieldLink RX9 9 "BittenStick$Text" "faultAt" "I") wd_60) (fun _ h9 => h9) rfl (by decide +kernel) rfl rfl (Nat.le_of_ble_eq_true rfl) dX9_readAgain_34 ?_
          clear hP hD hS
          intro H locs hP hD hS
          replace hP := k_w2 (wt := [(kX2 ah av ln iz1 nu), (kAI av cI 23 tf)]) hP hD rfl
          replace hD := hP.2
          replace hP := hP.1
          refine lv_iinc (v := iz1 + 1) (lv' := [(1, .int (iz1 + 1)), (0, .ref ah)]) hx₀ hb dX9_readAgain_37 hl (k := 0) rfl rfl (by decide) rfl (fun ls hl => ?_)
          refine lv_goto (tgt := 7) hx₀ hb dX9_readAgain_40 (by decide) ?_
          exact ihz1 _ (lf_j_again_X2_4 ln iz1 jz1 hh0 hiz1_0 hjz1 c_2) (iz1 + 1) iz1 _ _ _ (lf_j_again_X2_2 ln iz1 jz1 hh0 hiz1_0 hjz1 c_2) (k_ra_b hiz1_1 c_9 (hiz1_0) c_2 ((kAt_eq (lf_j_again_X2_3 ln iz1 jz1 hh0 hiz1_0 hjz1 c_2)).symm.trans c_14)) rfl (hP.sub [0, 1] rfl) (hD.sub [0, 1] (by decide +kernel) rfl) hS (lv_sub hl [0, 1] rfl)
theorem lf_j_append_X2_1 (a0 : Int32) (h0 : 0 ≤ a0 ∧ a0 < 23) (h1 : ¬ a0 < 0) (h2 : ¬ 23 ≤ a0) : 0 ≤ a0.toInt ∧ a0.toInt < 23 := by
  first | rfl | assumption | decide | exact Or.inl rfl | (first | rfl | assumption | decide | omega | (have hr0 := Int32.toInt_lt a0; have hs0 := Int32.le_toInt a0; simp only [Int64.toInt_add, Int64.toInt_sub, Int32.toInt_add, Int32.toInt_sub, Int32.toInt_mul, Int64.le_iff_toInt_le, Int64.lt_iff_toInt_lt, Int32.le_iff_toInt_le, Int32.lt_iff_toInt_lt, ← Int32.toInt_inj, ← Int64.toInt_inj, Int32.toInt_toInt64, kc_0, kc_23, true_and, and_true, not_true_eq_false, not_false_eq_true] at * <;> ((first | omega | ((try simp (disch := omega) only [k_bm64] at *); (try simp (disch := omega) only [k_bm] at *); (try simp (disch := omega) only [k_bm] at *); omega) | (simp only [Int.bmod] at *; omega)))))
theorem lf_j_append_X2_2 (a0 : Int32) (h0 : 0 ≤ a0 ∧ a0 < 23) (h1 : ¬ a0 < 0) (h2 : ¬ 23 ≤ a0) : 0 ≤ (a0 + 1) ∧ (a0 + 1) ≤ 23 := by
  first | rfl | assumption | decide | exact Or.inl rfl | (first | rfl | assumption | decide | omega | (have hr0 := Int32.toInt_lt a0; have hs0 := Int32.le_toInt a0; simp only [Int64.toInt_add, Int64.toInt_sub, Int32.toInt_add, Int32.toInt_sub, Int32.toInt_mul, Int64.le_iff_toInt_le, Int64.lt_iff_toInt_lt, Int32.le_iff_toInt_le, Int32.lt_iff_toInt_lt, ← Int32.toInt_inj, ← Int64.toInt_inj, Int32.toInt_toInt64, kc_0, kc_1, kc_23, true_and, and_true, not_true_eq_false, not_false_eq_true] at * <;> ((first | omega | ((try simp (disch := omega) only [k_bm64] at *); (try simp (disch := omega) only [k_bm] at *); (try simp (disch := omega) only [k_bm] at *); omega) | (simp only [Int.bmod] at *; omega)))))
set_option maxHeartbeats 4000000 in
set_option maxRecDepth 100000 in
theorem j_append_X2 (l : Launch) (dC : Nat → ClassId) (dI : Nat → Nat → Nat) (cI cJ cQ : ClassId) (sz : Nat) (ah : Nat) (b1 : Int32) (av : Nat) (ln : Int32) (fa : Int32) (nu : Int32) (tf : Nat → Int32) (hh0 : 0 ≤ ln ∧ ln < 23) : Met l yX9_append (kW yX9_append cX9_append 2 none) { frames := 2, cells := 0, slots := 0, locals := 42 } (kPre dC dI cI cJ cQ sz [.ref ah, .int b1] [(kX2 ah av ln fa nu), (kAI av cI 23 tf)]) (va_Qv (fun (u : kS) => ((u.1 0) = kFt (kTh2 (ln + 1)) (ln + 1) (upd tf ln.toNatClampNeg (wG (ln - ln / 3 * 3) b1))) ∧ ((u.1 1) = kNm (kTh2 (ln + 1)) (ln + 1) (upd tf ln.toNatClampNeg (wG (ln - ln / 3 * 3) b1)))) (fun (u : kS) t₀ => kB dC dI cI cJ cQ (va_A [(kX2 ah av ln fa nu), (kAI av cI 23 tf)] sz) [(kX2 ah av (ln + 1) (u.1 0) (u.1 1)), (kAI av cI 23 (upd tf ln.toNatClampNeg (wG (ln - ln / 3 * 3) b1)))] t₀) (va_A [(kX2 ah av ln fa nu), (kAI av cI 23 tf)] sz)) 0 0 (va_A [(kX2 ah av ln fa nu), (kAI av cI 23 tf)] sz) := by
  refine Met.ofW (cc := cX9_append) (maxL := 2) (ret := none) (by decide) rfl ?_
  intro p₀ e₀ s₀ m₀ args below meth c₀ s₁ B hml hv₀
  obtain ⟨rfl, hsz, hP, hK, hD0, hN⟩ := hv₀
  have hx₀ := B.exec
  have hb := B.bytes
  have hr := B.returns
  have hts := atoms_spec (ws := (kW yX9_append cX9_append 2 none)) B.pre
  have hts := fun w h => hts w (List.mem_cons_of_mem _ h)
  have hown : s₀.vm.findClass RX9 = some m₀.cls := findClass_of_methodNamed B.named
  have hlocks := B.notSynchronized
  subst hsz
  have hD := hD0.self (sz := s₀.heap.size)
  generalize hAe : va_A [(kX2 ah av ln fa nu), (kAI av cI 23 tf)] s₀.heap.size = A at hD ⊢
  have hA : ∀ q : Nat, s₀.heap.size ≤ q → A q := fun q h => by rw [← hAe]; exact Or.inr h
  have hS : va_S A s₀.heap s₀.heap [] := va_S.rf
  have hP : va_P (dC, dI) vwCl [(kX2 ah av ln fa nu), (kAI av cI 23 tf)] s₀.heap := hP
  have hl := lv_entry ([.ref ah, .int b1]) (n := 2) (Nat.le_of_ble_eq_true rfl)
  rw [lg_entry_eq]
  generalize (lg_sl ([.ref ah, .int b1]) ++ List.replicate (2 - (lg_sl ([.ref ah, .int b1])).length) Slot.unset).toArray = ls at hl ⊢
  have hl : lv_has ls 2 [(0, .ref ah), (1, .int b1)] := hl
  obtain ⟨H, hH⟩ : ∃ z : Heap, z = s₀.heap := ⟨_, rfl⟩
  rw [← hH] at hP
  have hS : va_S A s₀.heap H [] := by rw [hH]; exact hS
  refine k_heap hH ?_
  have hD : va_D A [(kX2 ah av ln fa nu), (kAI av cI 23 tf)] := hD
  obtain ⟨locs, hlo⟩ : ∃ z : List Loc, z = [] := ⟨_, rfl⟩
  rw [← hlo] at hS ⊢
  clear hlo hH hAe hD0
  refine lv_aload_n hx₀ hb dX9_append_0 rfl (lv_at hl 0 rfl) ?_
  refine va_get (D := (dC, dI)) (ci := 2) (v := .int ln) (C := RX2) (T := TX2) (N := 4) hx₀ hb hts inlX2 hown hK hP 0 rfl rfl 1 (by decide) (hts (.fieldLink RX9 25 "BittenStick$Text" "length" "I") wd_147) (fun _ h9 => h9) rfl dX9_append_1 ?_
  refine lv_if_lt (tgt := 51) hx₀ hb dX9_append_4 (by decide) (fun c9 => ((show ¬ (ln < 0) from (Int32.not_lt.mpr hh0.1)) c9).elim) (fun c_1 => ?_)
  refine lv_aload_n hx₀ hb dX9_append_7 rfl (lv_at hl 0 rfl) ?_
  refine va_get (D := (dC, dI)) (ci := 2) (v := .int ln) (C := RX2) (T := TX2) (N := 4) hx₀ hb hts inlX2 hown hK hP 0 rfl rfl 1 (by decide) (hts (.fieldLink RX9 25 "BittenStick$Text" "length" "I") wd_147) (fun _ h9 => h9) rfl dX9_append_8 ?_
  refine lv_aload_n hx₀ hb dX9_append_11 rfl (lv_at hl 0 rfl) ?_
  refine va_get (D := (dC, dI)) (ci := 2) (v := .ref av) (C := RX2) (T := TX2) (N := 4) hx₀ hb hts inlX2 hown hK hP 0 rfl rfl 0 (by decide) (hts (.fieldLink RX9 21 "BittenStick$Text" "values" "[I") wd_65) (fun _ h9 => h9) rfl dX9_append_12 ?_
  refine va_alen (v := 23) hx₀ hb hK hP 1 0 rfl rfl rfl dX9_append_15 ?_
  refine lv_icmp_ge (tgt := 51) hx₀ hb dX9_append_16 (by decide) (fun c9 => ((show ¬ (23 ≤ ln) from (Int32.not_le.mpr hh0.2)) c9).elim) (fun c_2 => ?_)
  refine lv_aload_n hx₀ hb dX9_append_19 rfl (lv_at hl 0 rfl) ?_
  refine va_get (D := (dC, dI)) (ci := 2) (v := .ref av) (C := RX2) (T := TX2) (N := 4) hx₀ hb hts inlX2 hown hK hP 0 rfl rfl 0 (by decide) (hts (.fieldLink RX9 21 "BittenStick$Text" "values" "[I") wd_65) (fun _ h9 => h9) rfl dX9_append_20 ?_
  refine lv_aload_n hx₀ hb dX9_append_23 rfl (lv_at hl 0 rfl) ?_
  refine va_get (D := (dC, dI)) (ci := 2) (v := .int ln) (C := RX2) (T := TX2) (N := 4) hx₀ hb hts inlX2 hown hK hP 0 rfl rfl 1 (by decide) (hts (.fieldLink RX9 25 "BittenStick$Text" "length" "I") wd_147) (fun _ h9 => h9) rfl dX9_append_24 ?_
  refine lv_aload_n hx₀ hb dX9_append_27 rfl (lv_at hl 0 rfl) ?_
  refine lv_aload_n hx₀ hb dX9_append_28 rfl (lv_at hl 0 rfl) ?_
  refine va_get (D := (dC, dI)) (ci := 2) (v := .int ln) (C := RX2) (T := TX2) (N := 4) hx₀ hb hts inlX2 hown hK hP 0 rfl rfl 1 (by decide) (hts (.fieldLink RX9 25 "BittenStick$Text" "length" "I") wd_147) (fun _ h9 => h9) rfl dX9_append_29 ?_
  refine lv_iload_n hx₀ hb dX9_append_32 rfl (lv_at hl 1 rfl) ?_
  obtain ⟨hPc, hDc, hFc, hC⟩ := k_cw (wc := [(kX2 ah av ln fa nu)]) hP hD hS hA [0] (by decide +kernel) rfl
  refine va_calli (va_runU (As := [.int ln, .int b1]) (rest := [.int ln, .ref av]) ⟨hx₀, hb, hml, hown, hts⟩ (j_worth_X2 l dC dI cI cJ cQ H.size ah ln b1 av ln fa nu (hh0.1)) (va_cwA 2 hts (kGU wd_159 wd_155 wd_156 wd_157 wd_158 wd_22) rfl rfl rfl hN.1 (by decide +kernel) ⟨Nat.le_of_ble_eq_true rfl, Nat.le_of_ble_eq_true rfl⟩) (k_preV2 (q0 := 0) hK hPc hDc hN rfl) rfl rfl hl.1 rfl (lv_room (Nat.le_of_ble_eq_true rfl)) dX9_append_33 ⟨by decide +kernel, by decide +kernel⟩) hS (fun q _ h => hFc q h) hFc (fun r_3 u₀ t₀ H1 locs ht hvm hw hB hz1 hk1 hS => ?_)
  obtain ⟨hP1, hK1, hD1⟩ := hB
  rw [ht] at hP1
  have hJ := k_jn (wr := [(kAI av cI 23 tf)]) (wt := [(kAI av cI 23 tf), (kX2 ah av ln fa nu)]) hP hD hC [1] rfl (by decide +kernel) (by decide +kernel) hk1 hFc hP1 hD1 rfl
  clear hP hD hPc hDc hFc hC hP1 hD1 hK1 hz1 hk1 hvm ht
  obtain ⟨hP, hD⟩ := hJ
  generalize H1 = H at hP hS ⊢
  try dsimp only at hw
  refine k_topi (v := wG (ln - ln / 3 * 3) b1) hw ?_
  refine va_iast hx₀ hb hK hP hD hS 0 0 rfl rfl (vp_in_iff.mpr (lf_j_append_X2_1 ln hh0 c_1 c_2)) dX9_append_36 ?_
  clear hP hD hS
  intro H locs hP hD hS
  replace hP := k_w2 (wt := [(kAI av cI 23 (upd tf ln.toNatClampNeg (wG (ln - ln / 3 * 3) b1))), (kX2 ah av ln fa nu)]) hP hD rfl
  replace hD := hP.2
  replace hP := hP.1
  refine lv_aload_n hx₀ hb dX9_append_37 rfl (lv_at hl 0 rfl) ?_
  refine lv_dup hx₀ hb dX9_append_38 rfl ?_
  refine va_get (D := (dC, dI)) (ci := 2) (v := .int ln) (C := RX2) (T := TX2) (N := 4) hx₀ hb hts inlX2 hown hK hP 1 rfl rfl 1 (by decide) (hts (.fieldLink RX9 25 "BittenStick$Text" "length" "I") wd_147) (fun _ h9 => h9) rfl dX9_append_39 ?_
  refine lv_iconst (v := 1) hx₀ hb dX9_append_42 (by decide +kernel) ?_
  refine lv_iadd hx₀ hb dX9_append_43 ?_
  refine va_put (D := (dC, dI)) (ci := 2) (v := .int (ln + 1)) (ty := .int) (C := RX2) (T := TX2) (N := 4) hx₀ hb hts inlX2 tyX2 tyX2_ok nmX2 hown hK hP hD hS 1 rfl rfl 1 (by decide) (hts (.fieldLink RX9 25 "BittenStick$Text" "length" "I") wd_147) (fun _ h9 => h9) rfl (by decide +kernel) rfl rfl (Nat.le_of_ble_eq_true rfl) dX9_append_44 ?_
  clear hP hD hS
  intro H locs hP hD hS
  replace hP := k_w2 (wt := [(kAI av cI 23 (upd tf ln.toNatClampNeg (wG (ln - ln / 3 * 3) b1))), (kX2 ah av (ln + 1) fa nu)]) hP hD rfl
  replace hD := hP.2
  replace hP := hP.1
  refine lv_aload_n hx₀ hb dX9_append_47 rfl (lv_at hl 0 rfl) ?_
  obtain ⟨hPc, hDc, hFc, hC⟩ := k_cw (wc := [(kX2 ah av (ln + 1) fa nu), (kAI av cI 23 (upd tf ln.toNatClampNeg (wG (ln - ln / 3 * 3) b1)))]) hP hD hS hA [1, 0] (by decide +kernel) rfl
  refine va_callv (va_runU (As := []) (rest := []) ⟨hx₀, hb, hml, hown, hts⟩ (j_again_X2 l dC dI cI cJ cQ H.size ah av (ln + 1) fa nu (upd tf ln.toNatClampNeg (wG (ln - ln / 3 * 3) b1)) (lf_j_append_X2_2 ln hh0 c_1 c_2)) (va_cwU 0 hts (kGU wd_173 wd_169 wd_170 wd_171 wd_172 wd_57) rfl rfl rfl rfl (by decide +kernel) ⟨Nat.le_of_ble_eq_true rfl, Nat.le_of_ble_eq_true rfl⟩) (k_preV2 (q0 := 0) hK hPc hDc hN rfl) rfl rfl hl.1 rfl (lv_room (Nat.le_of_ble_eq_true rfl)) dX9_append_48 ⟨by decide +kernel, by decide +kernel⟩) hS (fun q _ h => hFc q h) hFc (fun u₀ t₀ H1 locs ht hvm hw hB hz1 hk1 hS => ?_)
  obtain ⟨g_5, ga_6, gl_7, gb_8, gp_9⟩ := u₀
  obtain ⟨hP1, hK1, hD1⟩ := hB
  rw [ht] at hP1
  have hJ := k_jn (wr := []) (wt := [(kX2 ah av (ln + 1) (g_5 0) (g_5 1)), (kAI av cI 23 (upd tf ln.toNatClampNeg (wG (ln - ln / 3 * 3) b1)))]) hP hD hC [] rfl (by decide +kernel) (by decide +kernel) hk1 hFc hP1 hD1 rfl
  clear hP hD hPc hDc hFc hC hP1 hD1 hK1 hz1 hk1 hvm ht
  obtain ⟨hP, hD⟩ := hJ
  generalize H1 = H at hP hS ⊢
  try dsimp only at hw
  obtain ⟨c_10, c_11⟩ := hw
  obtain ⟨hP9, hD9⟩ := k_c2 (wc := [(kX2 ah av (ln + 1) (g_5 0) (g_5 1)), (kAI av cI 23 (upd tf ln.toNatClampNeg (wG (ln - ln / 3 * 3) b1)))]) hP hD [0, 1] (by decide +kernel) rfl
  exact W.vret hx₀ hb hr (fun t₀ ht hW => ⟨⟨(k_fn [(g_5 0), (g_5 1)], k_fa [], k_fl [], k_fL [], k_fp []), rfl, ⟨c_10, c_11⟩, by rw [ht]; exact hP9, va_K.moved hW.alike hK, hD9⟩, hS.F ht⟩) hS.2.2 dX9_append_51
theorem lf_j_shorten_X2_1 (a0 : Int32) (a1 : Int32) (h0 : 0 ≤ a0 ∧ a0 ≤ 23) (h1 : a0 < a1) (h2 : (0 : Int32) < a0) : 0 ≤ a0 ∧ a0 ≤ a0 := by
  first | rfl | assumption | decide | exact Or.inl rfl | (first | rfl | assumption | decide | omega | (have hr0 := Int32.toInt_lt a0; have hs0 := Int32.le_toInt a0; have hr1 := Int32.toInt_lt a1; have hs1 := Int32.le_toInt a1; simp only [Int64.toInt_add, Int64.toInt_sub, Int32.toInt_add, Int32.toInt_sub, Int32.toInt_mul, Int64.le_iff_toInt_le, Int64.lt_iff_toInt_lt, Int32.le_iff_toInt_le, Int32.lt_iff_toInt_lt, ← Int32.toInt_inj, ← Int64.toInt_inj, Int32.toInt_toInt64, kc_0, kc_23, true_and, and_true, not_true_eq_false, not_false_eq_true] at * <;> ((first | omega | ((try simp (disch := omega) only [k_bm64] at *); (try simp (disch := omega) only [k_bm] at *); (try simp (disch := omega) only [k_bm] at *); omega) | (simp only [Int.bmod] at *; omega)))))
theorem lf_j_shorten_X2_2 (a0 : Int32) (a1 : Int32) (h0 : 0 ≤ a0 ∧ a0 ≤ 23) (h1 : ¬ a0 < a1) (h2 : (0 : Int32) < a1) : 0 ≤ a1 ∧ a1 ≤ 23 := by
  first | rfl | assumption | decide | exact Or.inl rfl | (first | rfl | assumption | decide | omega | (have hr0 := Int32.toInt_lt a0; have hs0 := Int32.le_toInt a0; have hr1 := Int32.toInt_lt a1; have hs1 := Int32.le_toInt a1; simp only [Int64.toInt_add, Int64.toInt_sub, Int32.toInt_add, Int32.toInt_sub, Int32.toInt_mul, Int64.le_iff_toInt_le, Int64.lt_iff_toInt_lt, Int32.le_iff_toInt_le, Int32.lt_iff_toInt_lt, ← Int32.toInt_inj, ← Int64.toInt_inj, Int32.toInt_toInt64, kc_0, kc_23, true_and, and_true, not_true_eq_false, not_false_eq_true] at * <;> ((first | omega | ((try simp (disch := omega) only [k_bm64] at *); (try simp (disch := omega) only [k_bm] at *); (try simp (disch := omega) only [k_bm] at *); omega) | (simp only [Int.bmod] at *; omega)))))
theorem lf_j_shorten_X2_3 (a0 : Int32) (a1 : Int32) (h0 : 0 ≤ a0 ∧ a0 ≤ 23) (h1 : ¬ a0 < a1) (h2 : ¬ (0 : Int32) < a1) : (0 : Int32) = a1 ∨ a1 < 0 ∨ a0 ≤ a1 := by
  first | rfl | assumption | decide | exact Or.inl rfl | (first | rfl | assumption | decide | omega | (have hr0 := Int32.toInt_lt a0; have hs0 := Int32.le_toInt a0; have hr1 := Int32.toInt_lt a1; have hs1 := Int32.le_toInt a1; simp only [Int64.toInt_add, Int64.toInt_sub, Int32.toInt_add, Int32.toInt_sub, Int32.toInt_mul, Int64.le_iff_toInt_le, Int64.lt_iff_toInt_lt, Int32.le_iff_toInt_le, Int32.lt_iff_toInt_lt, ← Int32.toInt_inj, ← Int64.toInt_inj, Int32.toInt_toInt64, kc_0, kc_23, true_and, and_true, not_true_eq_false, not_false_eq_true] at * <;> ((first | omega | ((try simp (disch := omega) only [k_bm64] at *); (try simp (disch := omega) only [k_bm] at *); (try simp (disch := omega) only [k_bm] at *); omega) | (simp only [Int.bmod] at *; omega)))))
set_option maxHeartbeats 4000000 in
set_option maxRecDepth 100000 in
theorem j_shorten_X2 (l : Launch) (dC : Nat → ClassId) (dI : Nat → Nat → Nat) (cI cJ cQ : ClassId) (sz : Nat) (ah : Nat) (lf : Int32) (av : Nat) (ln : Int32) (fa : Int32) (nu : Int32) (tf : Nat → Int32) (hh0 : 0 ≤ ln ∧ ln ≤ 23) : Met l yX9_shorten (kW yX9_shorten cX9_shorten 2 none) { frames := 2, cells := 0, slots := 0, locals := 42 } (kPre dC dI cI cJ cQ sz [.ref ah, .int lf] [(kX2 ah av ln fa nu), (kAI av cI 23 tf)]) (va_Qv (fun (u : kS) => (0 ≤ (u.1 0) ∧ (u.1 0) ≤ ln) ∧ ((u.1 0) = lf ∨ lf < 0 ∨ ln ≤ lf) ∧ ((u.1 1) = kFt (kTh2 (u.1 0)) (u.1 0) tf) ∧ ((u.1 2) = kNm (kTh2 (u.1 0)) (u.1 0) tf)) (fun (u : kS) t₀ => kB dC dI cI cJ cQ (va_A [(kX2 ah av ln fa nu), (kAI av cI 23 tf)] sz) [(kX2 ah av (u.1 0) (u.1 1) (u.1 2)), (kAI av cI 23 tf)] t₀) (va_A [(kX2 ah av ln fa nu), (kAI av cI 23 tf)] sz)) 0 0 (va_A [(kX2 ah av ln fa nu), (kAI av cI 23 tf)] sz) := by
  refine Met.ofW (cc := cX9_shorten) (maxL := 2) (ret := none) (by decide) rfl ?_
  intro p₀ e₀ s₀ m₀ args below meth c₀ s₁ B hml hv₀
  obtain ⟨rfl, hsz, hP, hK, hD0, hN⟩ := hv₀
  have hx₀ := B.exec
  have hb := B.bytes
  have hr := B.returns
  have hts := atoms_spec (ws := (kW yX9_shorten cX9_shorten 2 none)) B.pre
  have hts := fun w h => hts w (List.mem_cons_of_mem _ h)
  have hown : s₀.vm.findClass RX9 = some m₀.cls := findClass_of_methodNamed B.named
  have hlocks := B.notSynchronized
  subst hsz
  have hD := hD0.self (sz := s₀.heap.size)
  generalize hAe : va_A [(kX2 ah av ln fa nu), (kAI av cI 23 tf)] s₀.heap.size = A at hD ⊢
  have hA : ∀ q : Nat, s₀.heap.size ≤ q → A q := fun q h => by rw [← hAe]; exact Or.inr h
  have hS : va_S A s₀.heap s₀.heap [] := va_S.rf
  have hP : va_P (dC, dI) vwCl [(kX2 ah av ln fa nu), (kAI av cI 23 tf)] s₀.heap := hP
  have hl := lv_entry ([.ref ah, .int lf]) (n := 2) (Nat.le_of_ble_eq_true rfl)
  rw [lg_entry_eq]
  generalize (lg_sl ([.ref ah, .int lf]) ++ List.replicate (2 - (lg_sl ([.ref ah, .int lf])).length) Slot.unset).toArray = ls at hl ⊢
  have hl : lv_has ls 2 [(0, .ref ah), (1, .int lf)] := hl
  obtain ⟨H, hH⟩ : ∃ z : Heap, z = s₀.heap := ⟨_, rfl⟩
  rw [← hH] at hP
  have hS : va_S A s₀.heap H [] := by rw [hH]; exact hS
  refine k_heap hH ?_
  have hD : va_D A [(kX2 ah av ln fa nu), (kAI av cI 23 tf)] := hD
  obtain ⟨locs, hlo⟩ : ∃ z : List Loc, z = [] := ⟨_, rfl⟩
  rw [← hlo] at hS ⊢
  clear hlo hH hAe hD0
  refine lv_aload_n hx₀ hb dX9_shorten_0 rfl (lv_at hl 0 rfl) ?_
  refine lv_iconst (v := 0) hx₀ hb dX9_shorten_1 (by decide +kernel) ?_
  refine lv_iload_n hx₀ hb dX9_shorten_2 rfl (lv_at hl 1 rfl) ?_
  refine lv_aload_n hx₀ hb dX9_shorten_3 rfl (lv_at hl 0 rfl) ?_
  refine va_get (D := (dC, dI)) (ci := 2) (v := .int ln) (C := RX2) (T := TX2) (N := 4) hx₀ hb hts inlX2 hown hK hP 0 rfl rfl 1 (by decide) (hts (.fieldLink RX9 25 "BittenStick$Text" "length" "I") wd_147) (fun _ h9 => h9) rfl dX9_shorten_4 ?_
  refine va_mmin hx₀ hb (by rw [hml]; exact hl.1.symm) hown (hts (.methodLink RX9 34 Lib.Math.min.name) wd_218) (hts (.static Lib.Math.min.name) wd_219) (hts (.initialized "java/lang/Math") wd_63) (hts (.code Lib.Math.min.name Lib.Math.min.code 2 (some .int)) wd_220) (by decide) (Nat.le_of_ble_eq_true rfl) (by decide) (by decide) dX9_shorten_7 ?_
  by_cases c_1 : ln < lf
  · refine k_topi (v := ln) (if_pos c_1) ?_
    refine va_mmax hx₀ hb (by rw [hml]; exact hl.1.symm) hown (hts (.methodLink RX9 15 Lib.Math.max.name) wd_61) (hts (.static Lib.Math.max.name) wd_62) (hts (.initialized "java/lang/Math") wd_63) (hts (.code Lib.Math.max.name Lib.Math.max.code 2 (some .int)) wd_64) (by decide) (Nat.le_of_ble_eq_true rfl) (by decide) (by decide) dX9_shorten_10 ?_
    by_cases c_2 : (0 : Int32) < ln
    · refine k_topi (v := ln) (if_pos c_2) ?_
      refine va_put (D := (dC, dI)) (ci := 2) (v := .int ln) (ty := .int) (C := RX2) (T := TX2) (N := 4) hx₀ hb hts inlX2 tyX2 tyX2_ok nmX2 hown hK hP hD hS 0 rfl rfl 1 (by decide) (hts (.fieldLink RX9 25 "BittenStick$Text" "length" "I") wd_147) (fun _ h9 => h9) rfl (by decide +kernel) rfl rfl (Nat.le_of_ble_eq_true rfl) dX9_shorten_13 ?_
      clear hP hD hS
      intro H locs hP hD hS
      replace hP := k_w2 (wt := [(kX2 ah av ln fa nu), (kAI av cI 23 tf)]) hP hD rfl
      replace hD := hP.2
      replace hP := hP.1
      refine lv_aload_n hx₀ hb dX9_shorten_16 rfl (lv_at hl 0 rfl) ?_
      obtain ⟨hPc, hDc, hFc, hC⟩ := k_cw (wc := [(kX2 ah av ln fa nu), (kAI av cI 23 tf)]) hP hD hS hA [0, 1] (by decide +kernel) rfl
      refine va_callv (va_runU (As := []) (rest := []) ⟨hx₀, hb, hml, hown, hts⟩ (j_again_X2 l dC dI cI cJ cQ H.size ah av ln fa nu tf (hh0)) (va_cwU 0 hts (kGU wd_173 wd_169 wd_170 wd_171 wd_172 wd_57) rfl rfl rfl rfl (by decide +kernel) ⟨Nat.le_of_ble_eq_true rfl, Nat.le_of_ble_eq_true rfl⟩) (k_preV2 (q0 := 0) hK hPc hDc hN rfl) rfl rfl hl.1 rfl (lv_room (Nat.le_of_ble_eq_true rfl)) dX9_shorten_17 ⟨by decide +kernel, by decide +kernel⟩) hS (fun q _ h => hFc q h) hFc (fun u₀ t₀ H1 locs ht hvm hw hB hz1 hk1 hS => ?_)
      obtain ⟨g_4, ga_5, gl_6, gb_7, gp_8⟩ := u₀
      obtain ⟨hP1, hK1, hD1⟩ := hB
      rw [ht] at hP1
      have hJ := k_jn (wr := []) (wt := [(kX2 ah av ln (g_4 0) (g_4 1)), (kAI av cI 23 tf)]) hP hD hC [] rfl (by decide +kernel) (by decide +kernel) hk1 hFc hP1 hD1 rfl
      clear hP hD hPc hDc hFc hC hP1 hD1 hK1 hz1 hk1 hvm ht
      obtain ⟨hP, hD⟩ := hJ
      generalize H1 = H at hP hS ⊢
      try dsimp only at hw
      obtain ⟨c_9, c_10⟩ := hw
      obtain ⟨hP9, hD9⟩ := k_c2 (wc := [(kX2 ah av ln (g_4 0) (g_4 1)), (kAI av cI 23 tf)]) hP hD [0, 1] (by decide +kernel) rfl
      exact W.vret hx₀ hb hr (fun t₀ ht hW => ⟨⟨(k_fn [ln, (g_4 0), (g_4 1)], k_fa [], k_fl [], k_fL [], k_fp []), rfl, ⟨(lf_j_shorten_X2_1 ln lf hh0 c_1 c_2), (show ln = lf ∨ lf < 0 ∨ ln ≤ lf from (Or.inr (Or.inr ((Int32.le_of_lt c_1))))), c_9, c_10⟩, by rw [ht]; exact hP9, va_K.moved hW.alike hK, hD9⟩, hS.F ht⟩) hS.2.2 dX9_shorten_20
    refine k_topi (v := 0) (if_neg c_2) ?_
    refine va_put (D := (dC, dI)) (ci := 2) (v := .int 0) (ty := .int) (C := RX2) (T := TX2) (N := 4) hx₀ hb hts inlX2 tyX2 tyX2_ok nmX2 hown hK hP hD hS 0 rfl rfl 1 (by decide) (hts (.fieldLink RX9 25 "BittenStick$Text" "length" "I") wd_147) (fun _ h9 => h9) rfl (by decide +kernel) rfl rfl (Nat.le_of_ble_eq_true rfl) dX9_shorten_13 ?_
    clear hP hD hS
    intro H locs hP hD hS
    replace hP := k_w2 (wt := [(kX2 ah av 0 fa nu), (kAI av cI 23 tf)]) hP hD rfl
    replace hD := hP.2
    replace hP := hP.1
    refine lv_aload_n hx₀ hb dX9_shorten_16 rfl (lv_at hl 0 rfl) ?_
    obtain ⟨hPc, hDc, hFc, hC⟩ := k_cw (wc := [(kX2 ah av 0 fa nu), (kAI av cI 23 tf)]) hP hD hS hA [0, 1] (by decide +kernel) rfl
    refine va_callv (va_runU (As := []) (rest := []) ⟨hx₀, hb, hml, hown, hts⟩ (j_again_X2 l dC dI cI cJ cQ H.size ah av 0 fa nu tf (show 0 ≤ (0 : Int32) ∧ (0 : Int32) ≤ 23 from ⟨(by decide), (by decide)⟩)) (va_cwU 0 hts (kGU wd_173 wd_169 wd_170 wd_171 wd_172 wd_57) rfl rfl rfl rfl (by decide +kernel) ⟨Nat.le_of_ble_eq_true rfl, Nat.le_of_ble_eq_true rfl⟩) (k_preV2 (q0 := 0) hK hPc hDc hN rfl) rfl rfl hl.1 rfl (lv_room (Nat.le_of_ble_eq_true rfl)) dX9_shorten_17 ⟨by decide +kernel, by decide +kernel⟩) hS (fun q _ h => hFc q h) hFc (fun u₀ t₀ H1 locs ht hvm hw hB hz1 hk1 hS => ?_)
    obtain ⟨g_12, ga_13, gl_14, gb_15, gp_16⟩ := u₀
    obtain ⟨hP1, hK1, hD1⟩ := hB
    rw [ht] at hP1
    have hJ := k_jn (wr := []) (wt := [(kX2 ah av 0 (g_12 0) (g_12 1)), (kAI av cI 23 tf)]) hP hD hC [] rfl (by decide +kernel) (by decide +kernel) hk1 hFc hP1 hD1 rfl
    clear hP hD hPc hDc hFc hC hP1 hD1 hK1 hz1 hk1 hvm ht
    obtain ⟨hP, hD⟩ := hJ
    generalize H1 = H at hP hS ⊢
    try dsimp only at hw
    obtain ⟨c_17, c_18⟩ := hw
    obtain ⟨hP9, hD9⟩ := k_c2 (wc := [(kX2 ah av 0 (g_12 0) (g_12 1)), (kAI av cI 23 tf)]) hP hD [0, 1] (by decide +kernel) rfl
    exact W.vret hx₀ hb hr (fun t₀ ht hW => ⟨⟨(k_fn [(0 : Int32), (g_12 0), (g_12 1)], k_fa [], k_fl [], k_fL [], k_fp []), rfl, ⟨(show 0 ≤ (0 : Int32) ∧ (0 : Int32) ≤ ln from ⟨(by decide), hh0.1⟩), (show (0 : Int32) = lf ∨ lf < 0 ∨ ln ≤ lf from (Or.inr (Or.inr ((Int32.le_of_lt c_1))))), c_17, c_18⟩, by rw [ht]; exact hP9, va_K.moved hW.alike hK, hD9⟩, hS.F ht⟩) hS.2.2 dX9_shorten_20
  refine k_topi (v := lf) (if_neg c_1) ?_
  refine va_mmax hx₀ hb (by rw [hml]; exact hl.1.symm) hown (hts (.methodLink RX9 15 Lib.Math.max.name) wd_61) (hts (.static Lib.Math.max.name) wd_62) (hts (.initialized "java/lang/Math") wd_63) (hts (.code Lib.Math.max.name Lib.Math.max.code 2 (some .int)) wd_64) (by decide) (Nat.le_of_ble_eq_true rfl) (by decide) (by decide) dX9_shorten_10 ?_
  by_cases c_19 : (0 : Int32) < lf
  · refine k_topi (v := lf) (if_pos c_19) ?_
    refine va_put (D := (dC, dI)) (ci := 2) (v := .int lf) (ty := .int) (C := RX2) (T := TX2) (N := 4) hx₀ hb hts inlX2 tyX2 tyX2_ok nmX2 hown hK hP hD hS 0 rfl rfl 1 (by decide) (hts (.fieldLink RX9 25 "BittenStick$Text" "length" "I") wd_147) (fun _ h9 => h9) rfl (by decide +kernel) rfl rfl (Nat.le_of_ble_eq_true rfl) dX9_shorten_13 ?_
    clear hP hD hS
    intro H locs hP hD hS
    replace hP := k_w2 (wt := [(kX2 ah av lf fa nu), (kAI av cI 23 tf)]) hP hD rfl
    replace hD := hP.2
    replace hP := hP.1
    refine lv_aload_n hx₀ hb dX9_shorten_16 rfl (lv_at hl 0 rfl) ?_
    obtain ⟨hPc, hDc, hFc, hC⟩ := k_cw (wc := [(kX2 ah av lf fa nu), (kAI av cI 23 tf)]) hP hD hS hA [0, 1] (by decide +kernel) rfl
    refine va_callv (va_runU (As := []) (rest := []) ⟨hx₀, hb, hml, hown, hts⟩ (j_again_X2 l dC dI cI cJ cQ H.size ah av lf fa nu tf (lf_j_shorten_X2_2 ln lf hh0 c_1 c_19)) (va_cwU 0 hts (kGU wd_173 wd_169 wd_170 wd_171 wd_172 wd_57) rfl rfl rfl rfl (by decide +kernel) ⟨Nat.le_of_ble_eq_true rfl, Nat.le_of_ble_eq_true rfl⟩) (k_preV2 (q0 := 0) hK hPc hDc hN rfl) rfl rfl hl.1 rfl (lv_room (Nat.le_of_ble_eq_true rfl)) dX9_shorten_17 ⟨by decide +kernel, by decide +kernel⟩) hS (fun q _ h => hFc q h) hFc (fun u₀ t₀ H1 locs ht hvm hw hB hz1 hk1 hS => ?_)
    obtain ⟨g_21, ga_22, gl_23, gb_24, gp_25⟩ := u₀
    obtain ⟨hP1, hK1, hD1⟩ := hB
    rw [ht] at hP1
    have hJ := k_jn (wr := []) (wt := [(kX2 ah av lf (g_21 0) (g_21 1)), (kAI av cI 23 tf)]) hP hD hC [] rfl (by decide +kernel) (by decide +kernel) hk1 hFc hP1 hD1 rfl
    clear hP hD hPc hDc hFc hC hP1 hD1 hK1 hz1 hk1 hvm ht
    obtain ⟨hP, hD⟩ := hJ
    generalize H1 = H at hP hS ⊢
    try dsimp only at hw
    obtain ⟨c_26, c_27⟩ := hw
    obtain ⟨hP9, hD9⟩ := k_c2 (wc := [(kX2 ah av lf (g_21 0) (g_21 1)), (kAI av cI 23 tf)]) hP hD [0, 1] (by decide +kernel) rfl
    exact W.vret hx₀ hb hr (fun t₀ ht hW => ⟨⟨(k_fn [lf, (g_21 0), (g_21 1)], k_fa [], k_fl [], k_fL [], k_fp []), rfl, ⟨(show 0 ≤ lf ∧ lf ≤ ln from ⟨(Int32.le_of_lt c_19), (Int32.not_lt.mp c_1)⟩), (show lf = lf ∨ lf < 0 ∨ ln ≤ lf from (Or.inl (rfl))), c_26, c_27⟩, by rw [ht]; exact hP9, va_K.moved hW.alike hK, hD9⟩, hS.F ht⟩) hS.2.2 dX9_shorten_20
  refine k_topi (v := 0) (if_neg c_19) ?_
  refine va_put (D := (dC, dI)) (ci := 2) (v := .int 0) (ty := .int) (C := RX2) (T := TX2) (N := 4) hx₀ hb hts inlX2 tyX2 tyX2_ok nmX2 hown hK hP hD hS 0 rfl rfl 1 (by decide) (hts (.fieldLink RX9 25 "BittenStick$Text" "length" "I") wd_147) (fun _ h9 => h9) rfl (by decide +kernel) rfl rfl (Nat.le_of_ble_eq_true rfl) dX9_shorten_13 ?_
  clear hP hD hS
  intro H locs hP hD hS
  replace hP := k_w2 (wt := [(kX2 ah av 0 fa nu), (kAI av cI 23 tf)]) hP hD rfl
  replace hD := hP.2
  replace hP := hP.1
  refine lv_aload_n hx₀ hb dX9_shorten_16 rfl (lv_at hl 0 rfl) ?_
  obtain ⟨hPc, hDc, hFc, hC⟩ := k_cw (wc := [(kX2 ah av 0 fa nu), (kAI av cI 23 tf)]) hP hD hS hA [0, 1] (by decide +kernel) rfl
  refine va_callv (va_runU (As := []) (rest := []) ⟨hx₀, hb, hml, hown, hts⟩ (j_again_X2 l dC dI cI cJ cQ H.size ah av 0 fa nu tf (show 0 ≤ (0 : Int32) ∧ (0 : Int32) ≤ 23 from ⟨(by decide), (by decide)⟩)) (va_cwU 0 hts (kGU wd_173 wd_169 wd_170 wd_171 wd_172 wd_57) rfl rfl rfl rfl (by decide +kernel) ⟨Nat.le_of_ble_eq_true rfl, Nat.le_of_ble_eq_true rfl⟩) (k_preV2 (q0 := 0) hK hPc hDc hN rfl) rfl rfl hl.1 rfl (lv_room (Nat.le_of_ble_eq_true rfl)) dX9_shorten_17 ⟨by decide +kernel, by decide +kernel⟩) hS (fun q _ h => hFc q h) hFc (fun u₀ t₀ H1 locs ht hvm hw hB hz1 hk1 hS => ?_)
  obtain ⟨g_29, ga_30, gl_31, gb_32, gp_33⟩ := u₀
  obtain ⟨hP1, hK1, hD1⟩ := hB
  rw [ht] at hP1
  have hJ := k_jn (wr := []) (wt := [(kX2 ah av 0 (g_29 0) (g_29 1)), (kAI av cI 23 tf)]) hP hD hC [] rfl (by decide +kernel) (by decide +kernel) hk1 hFc hP1 hD1 rfl
  clear hP hD hPc hDc hFc hC hP1 hD1 hK1 hz1 hk1 hvm ht
  obtain ⟨hP, hD⟩ := hJ
  generalize H1 = H at hP hS ⊢
  try dsimp only at hw
  obtain ⟨c_34, c_35⟩ := hw
  obtain ⟨hP9, hD9⟩ := k_c2 (wc := [(kX2 ah av 0 (g_29 0) (g_29 1)), (kAI av cI 23 tf)]) hP hD [0, 1] (by decide +kernel) rfl
  exact W.vret hx₀ hb hr (fun t₀ ht hW => ⟨⟨(k_fn [(0 : Int32), (g_29 0), (g_29 1)], k_fa [], k_fl [], k_fL [], k_fp []), rfl, ⟨(show 0 ≤ (0 : Int32) ∧ (0 : Int32) ≤ ln from ⟨(by decide), hh0.1⟩), (lf_j_shorten_X2_3 ln lf hh0 c_1 c_19), c_34, c_35⟩, by rw [ht]; exact hP9, va_K.moved hW.alike hK, hD9⟩, hS.F ht⟩) hS.2.2 dX9_shorten_20
