theorem lf_e_seen_1 (a0 : Int32) (a1 : Int32) (a2 : Int32) (h0 : 0 ≤ a0 ∧ a0 ≤ 8) (h1 : ¬ a1 < 0) (h2 : ¬ 8 ≤ a1) (h3 : ¬ a2 < 0) (h4 : a2 ≤ 24) (h5 : ¬ a0 < 0) (h6 : a0 < 8) : 0 ≤ a1 ∧ a1 ≤ 7 ∧ 0 ≤ a2 ∧ a2 ≤ 24 ∧ ¬ a0 = 8 := by
  first | (first | omega | (have hr0 := Int32.toInt_lt a0; have hs0 := Int32.le_toInt a0; have hr1 := Int32.toInt_lt a1; have hs1 := Int32.le_toInt a1; have hr2 := Int32.toInt_lt a2; have hs2 := Int32.le_toInt a2; simp only [Int64.toInt_add, Int64.toInt_sub, Int32.toInt_add, Int32.toInt_sub, Int32.toInt_mul, Int64.le_iff_toInt_le, Int64.lt_iff_toInt_lt, Int32.le_iff_toInt_le, Int32.lt_iff_toInt_lt, ← Int32.toInt_inj, ← Int64.toInt_inj, Int32.toInt_toInt64, kc_0, kc_7, kc_8, kc_24, true_and, and_true, not_true_eq_false, not_false_eq_true] at * <;> ((first | omega | ((try simp (disch := omega) only [k_bm64] at *); (try simp (disch := omega) only [k_bm] at *); (try simp (disch := omega) only [k_bm] at *); omega) | (simp only [Int.bmod] at *; omega))))) | with_reducible assumption | exact Or.inl rfl | rfl
set_option maxHeartbeats 4000000 in
set_option maxRecDepth 100000 in
theorem e_seen (l : Launch) (dC : Nat → ClassId) (dI : Nat → Nat → Nat) (cI cJ cQ : ClassId) (sz : Nat) (hx : Nat) (f1 : Int32) (m1 : Int32) (aLa : Nat) (aPa : Nat) (aGe : Nat) (aFl : Nat) (aTr : Nat) (aBe : Nat) (aLu : Nat) (aLo : Nat) (vSf : Nat) (vSm : Nat) (vCo : Nat) (vSh : Nat) (xs : Int32) (xl : Int32) (xf : Int32) (sf : Nat → Int32) (sm : Nat → Int32) (hh0 : 0 ≤ xs ∧ xs ≤ 8) : Met l yX11_seen (kW yX11_seen cX11_seen 3 (some .int)) { frames := 0, cells := 0, slots := 0, locals := 0 } (kPre dC dI cI cJ cQ sz [.ref hx, .int f1, .int m1] [(kX11 hx aLa aPa aGe aFl aTr aBe aLu aLo vSf vSm vCo vSh xs xl xf), (kAI vSf cI 8 sf), (kAI vSm cI 8 sm)]) (va_Qi (fun (r : Int32) (u : kS) => (r = if 0 ≤ f1 ∧ f1 ≤ 7 ∧ 0 ≤ m1 ∧ m1 ≤ 24 then (if xs = 8 then -4 else xs + 1) else -2) ∧ ((u.1 0) = if 0 ≤ f1 ∧ f1 ≤ 7 ∧ 0 ≤ m1 ∧ m1 ≤ 24 ∧ ¬ xs = 8 then xs + 1 else xs) ∧ ((u.2.1 0) = if 0 ≤ f1 ∧ f1 ≤ 7 ∧ 0 ≤ m1 ∧ m1 ≤ 24 ∧ ¬ xs = 8 then upd sf xs.toNatClampNeg f1 else sf) ∧ ((u.2.1 1) = if 0 ≤ f1 ∧ f1 ≤ 7 ∧ 0 ≤ m1 ∧ m1 ≤ 24 ∧ ¬ xs = 8 then upd sm xs.toNatClampNeg m1 else sm)) (fun (u : kS) t₀ => kB dC dI cI cJ cQ (va_A [(kX11 hx aLa aPa aGe aFl aTr aBe aLu aLo vSf vSm vCo vSh xs xl xf), (kAI vSf cI 8 sf), (kAI vSm cI 8 sm)] sz) [(kX11 hx aLa aPa aGe aFl aTr aBe aLu aLo vSf vSm vCo vSh (u.1 0) xl xf), (kAI vSf cI 8 (u.2.1 0)), (kAI vSm cI 8 (u.2.1 1))] t₀) (va_A [(kX11 hx aLa aPa aGe aFl aTr aBe aLu aLo vSf vSm vCo vSh xs xl xf), (kAI vSf cI 8 sf), (kAI vSm cI 8 sm)] sz)) 0 0 (va_A [(kX11 hx aLa aPa aGe aFl aTr aBe aLu aLo vSf vSm vCo vSh xs xl xf), (kAI vSf cI 8 sf), (kAI vSm cI 8 sm)] sz) := by
  refine Met.ofW (cc := cX11_seen) (maxL := 3) (ret := (some .int)) (by decide) rfl ?_
  intro p₀ e₀ s₀ m₀ args below meth c₀ s₁ B hml hv₀
  obtain ⟨rfl, hsz, hP, hK, hD0, hN⟩ := hv₀
  have hx₀ := B.exec
  have hb := B.bytes
  have hr := B.returns
  have hts := atoms_spec (ws := (kW yX11_seen cX11_seen 3 (some .int))) B.pre
  have hts := fun w h => hts w (List.mem_cons_of_mem _ h)
  have hown : s₀.vm.findClass RX11 = some m₀.cls := findClass_of_methodNamed B.named
  have hlocks := B.notSynchronized
  subst hsz
  have hD := hD0.self (sz := s₀.heap.size)
  generalize hAe : va_A [(kX11 hx aLa aPa aGe aFl aTr aBe aLu aLo vSf vSm vCo vSh xs xl xf), (kAI vSf cI 8 sf), (kAI vSm cI 8 sm)] s₀.heap.size = A at hD ⊢
  have hA : ∀ q : Nat, s₀.heap.size ≤ q → A q := fun q h => by rw [← hAe]; exact Or.inr h
  have hS : va_S A s₀.heap s₀.heap [] := va_S.rf
  have hP : va_P (dC, dI) vwCl [(kX11 hx aLa aPa aGe aFl aTr aBe aLu aLo vSf vSm vCo vSh xs xl xf), (kAI vSf cI 8 sf), (kAI vSm cI 8 sm)] s₀.heap := hP
  have hl := lv_entry ([.ref hx, .int f1, .int m1]) (n := 3) (Nat.le_of_ble_eq_true rfl)
  rw [lg_entry_eq]
  generalize (lg_sl ([.ref hx, .int f1, .int m1]) ++ List.replicate (3 - (lg_sl ([.ref hx, .int f1, .int m1])).length) Slot.unset).toArray = ls at hl ⊢
  have hl : lv_has ls 3 [(0, .ref hx), (1, .int f1), (2, .int m1)] := hl
  obtain ⟨H, hH⟩ : ∃ z : Heap, z = s₀.heap := ⟨_, rfl⟩
  rw [← hH] at hP
  have hS : va_S A s₀.heap H [] := by rw [hH]; exact hS
  refine k_heap hH ?_
  have hD : va_D A [(kX11 hx aLa aPa aGe aFl aTr aBe aLu aLo vSf vSm vCo vSh xs xl xf), (kAI vSf cI 8 sf), (kAI vSm cI 8 sm)] := hD
  obtain ⟨locs, hlo⟩ : ∃ z : List Loc, z = [] := ⟨_, rfl⟩
  rw [← hlo] at hS ⊢
  clear hlo hH hAe hD0
  refine lv_iload_n hx₀ hb dX11_seen_0 rfl (lv_at hl 1 rfl) ?_
  refine lv_if_lt (tgt := 20) hx₀ hb dX11_seen_1 (by decide) (fun c_1 => ?_) (fun c_1 => ?_)
  · refine lv_bipush (v := (-2)) hx₀ hb dX11_seen_20 (by decide +kernel) ?_
    obtain ⟨hP9, hD9⟩ := k_c2 (wc := [(kX11 hx aLa aPa aGe aFl aTr aBe aLu aLo vSf vSm vCo vSh xs xl xf), (kAI vSf cI 8 sf), (kAI vSm cI 8 sm)]) hP hD [0, 1, 2] (by decide +kernel) rfl
    exact W.iret (v := (-2)) hx₀ hb hr (fun t₀ ht hW => ⟨⟨(-2), (k_fn [xs], k_fa [sf, sm], k_fl [], k_fL [], k_fp []), rfl, ⟨(show ((-2) : Int32) = if 0 ≤ f1 ∧ f1 ≤ 7 ∧ 0 ≤ m1 ∧ m1 ≤ 24 then (if xs = 8 then -4 else xs + 1) else -2 from (if_neg (show ¬ (0 ≤ f1 ∧ f1 ≤ 7 ∧ 0 ≤ m1 ∧ m1 ≤ 24) from (fun z => (Int32.not_le.mpr c_1) z.1))).symm), (show xs = if 0 ≤ f1 ∧ f1 ≤ 7 ∧ 0 ≤ m1 ∧ m1 ≤ 24 ∧ ¬ xs = 8 then xs + 1 else xs from (if_neg (show ¬ (0 ≤ f1 ∧ f1 ≤ 7 ∧ 0 ≤ m1 ∧ m1 ≤ 24 ∧ ¬ xs = 8) from (fun z => (Int32.not_le.mpr c_1) z.1))).symm), (if_neg (show ¬ (0 ≤ f1 ∧ f1 ≤ 7 ∧ 0 ≤ m1 ∧ m1 ≤ 24 ∧ ¬ xs = 8) from (fun z => (Int32.not_le.mpr c_1) z.1))).symm, (if_neg (show ¬ (0 ≤ f1 ∧ f1 ≤ 7 ∧ 0 ≤ m1 ∧ m1 ≤ 24 ∧ ¬ xs = 8) from (fun z => (Int32.not_le.mpr c_1) z.1))).symm⟩, by rw [ht]; exact hP9, va_K.moved hW.alike hK, hD9⟩, hS.F ht⟩) hS.2.2 dX11_seen_22
  · refine lv_iload_n hx₀ hb dX11_seen_4 rfl (lv_at hl 1 rfl) ?_
    refine lv_bipush (v := 8) hx₀ hb dX11_seen_5 (by decide +kernel) ?_
    refine lv_icmp_ge (tgt := 20) hx₀ hb dX11_seen_7 (by decide) (fun c_2 => ?_) (fun c_2 => ?_)
    · refine lv_bipush (v := (-2)) hx₀ hb dX11_seen_20 (by decide +kernel) ?_
      obtain ⟨hP9, hD9⟩ := k_c2 (wc := [(kX11 hx aLa aPa aGe aFl aTr aBe aLu aLo vSf vSm vCo vSh xs xl xf), (kAI vSf cI 8 sf), (kAI vSm cI 8 sm)]) hP hD [0, 1, 2] (by decide +kernel) rfl
      exact W.iret (v := (-2)) hx₀ hb hr (fun t₀ ht hW => ⟨⟨(-2), (k_fn [xs], k_fa [sf, sm], k_fl [], k_fL [], k_fp []), rfl, ⟨(show ((-2) : Int32) = if 0 ≤ f1 ∧ f1 ≤ 7 ∧ 0 ≤ m1 ∧ m1 ≤ 24 then (if xs = 8 then -4 else xs + 1) else -2 from (if_neg (lf_j_seen_1 f1 m1 c_1 c_2)).symm), (show xs = if 0 ≤ f1 ∧ f1 ≤ 7 ∧ 0 ≤ m1 ∧ m1 ≤ 24 ∧ ¬ xs = 8 then xs + 1 else xs from (if_neg (lf_j_seen_2 xs f1 m1 hh0 c_1 c_2)).symm), (if_neg (lf_j_seen_2 xs f1 m1 hh0 c_1 c_2)).symm, (if_neg (lf_j_seen_2 xs f1 m1 hh0 c_1 c_2)).symm⟩, by rw [ht]; exact hP9, va_K.moved hW.alike hK, hD9⟩, hS.F ht⟩) hS.2.2 dX11_seen_22
    · refine lv_iload_n hx₀ hb dX11_seen_10 rfl (lv_at hl 2 rfl) ?_
      refine lv_if_lt (tgt := 20) hx₀ hb dX11_seen_11 (by decide) (fun c_3 => ?_) (fun c_3 => ?_)
      · refine lv_bipush (v := (-2)) hx₀ hb dX11_seen_20 (by decide +kernel) ?_
        obtain ⟨hP9, hD9⟩ := k_c2 (wc := [(kX11 hx aLa aPa aGe aFl aTr aBe aLu aLo vSf vSm vCo vSh xs xl xf), (kAI vSf cI 8 sf), (kAI vSm cI 8 sm)]) hP hD [0, 1, 2] (by decide +kernel) rfl
        exact W.iret (v := (-2)) hx₀ hb hr (fun t₀ ht hW => ⟨⟨(-2), (k_fn [xs], k_fa [sf, sm], k_fl [], k_fL [], k_fp []), rfl, ⟨(show ((-2) : Int32) = if 0 ≤ f1 ∧ f1 ≤ 7 ∧ 0 ≤ m1 ∧ m1 ≤ 24 then (if xs = 8 then -4 else xs + 1) else -2 from (if_neg (show ¬ (0 ≤ f1 ∧ f1 ≤ 7 ∧ 0 ≤ m1 ∧ m1 ≤ 24) from (fun z => (Int32.not_le.mpr c_3) z.2.2.1))).symm), (show xs = if 0 ≤ f1 ∧ f1 ≤ 7 ∧ 0 ≤ m1 ∧ m1 ≤ 24 ∧ ¬ xs = 8 then xs + 1 else xs from (if_neg (show ¬ (0 ≤ f1 ∧ f1 ≤ 7 ∧ 0 ≤ m1 ∧ m1 ≤ 24 ∧ ¬ xs = 8) from (fun z => (Int32.not_le.mpr c_3) z.2.2.1))).symm), (if_neg (show ¬ (0 ≤ f1 ∧ f1 ≤ 7 ∧ 0 ≤ m1 ∧ m1 ≤ 24 ∧ ¬ xs = 8) from (fun z => (Int32.not_le.mpr c_3) z.2.2.1))).symm, (if_neg (show ¬ (0 ≤ f1 ∧ f1 ≤ 7 ∧ 0 ≤ m1 ∧ m1 ≤ 24 ∧ ¬ xs = 8) from (fun z => (Int32.not_le.mpr c_3) z.2.2.1))).symm⟩, by rw [ht]; exact hP9, va_K.moved hW.alike hK, hD9⟩, hS.F ht⟩) hS.2.2 dX11_seen_22
      · refine lv_iload_n hx₀ hb dX11_seen_14 rfl (lv_at hl 2 rfl) ?_
        refine lv_bipush (v := 24) hx₀ hb dX11_seen_15 (by decide +kernel) ?_
        refine lv_icmp_le (tgt := 23) hx₀ hb dX11_seen_17 (by decide) (fun c_4 => ?_) (fun c_4 => ?_)
        · refine lv_aload_n hx₀ hb dX11_seen_23 rfl (lv_at hl 0 rfl) ?_
          refine va_get (D := (dC, dI)) (ci := 10) (v := .int xs) (C := RX11) (T := TX11) (N := 15) hx₀ hb hts inlX11 hown hK hP 0 rfl rfl 12 (by decide) (hts (.fieldLink RX11 193 "BittenStick" "seenNumber" "I") wd_690) (fun _ h9 => h9) rfl dX11_seen_24 ?_
          refine lv_if_lt (tgt := 39) hx₀ hb dX11_seen_27 (by decide) (fun c9 => ((show ¬ (xs < 0) from (Int32.not_lt.mpr hh0.1)) c9).elim) (fun c_5 => ?_)
          refine lv_aload_n hx₀ hb dX11_seen_30 rfl (lv_at hl 0 rfl) ?_
          refine va_get (D := (dC, dI)) (ci := 10) (v := .int xs) (C := RX11) (T := TX11) (N := 15) hx₀ hb hts inlX11 hown hK hP 0 rfl rfl 12 (by decide) (hts (.fieldLink RX11 193 "BittenStick" "seenNumber" "I") wd_690) (fun _ h9 => h9) rfl dX11_seen_31 ?_
          refine lv_bipush (v := 8) hx₀ hb dX11_seen_34 (by decide +kernel) ?_
          refine lv_icmp_lt (tgt := 42) hx₀ hb dX11_seen_36 (by decide) (fun c_6 => ?_) (fun c_6 => ?_)
          · refine lv_aload_n hx₀ hb dX11_seen_42 rfl (lv_at hl 0 rfl) ?_
            refine va_get (D := (dC, dI)) (ci := 10) (v := .ref vSf) (C := RX11) (T := TX11) (N := 15) hx₀ hb hts inlX11 hown hK hP 0 rfl rfl 8 (by decide) (hts (.fieldLink RX11 67 "BittenStick" "seenFlights" "[I") wd_45) (fun _ h9 => h9) rfl dX11_seen_43 ?_
            refine lv_aload_n hx₀ hb dX11_seen_46 rfl (lv_at hl 0 rfl) ?_
            refine va_get (D := (dC, dI)) (ci := 10) (v := .int xs) (C := RX11) (T := TX11) (N := 15) hx₀ hb hts inlX11 hown hK hP 0 rfl rfl 12 (by decide) (hts (.fieldLink RX11 193 "BittenStick" "seenNumber" "I") wd_690) (fun _ h9 => h9) rfl dX11_seen_47 ?_
            refine lv_iload_n hx₀ hb dX11_seen_50 rfl (lv_at hl 1 rfl) ?_
            refine va_iast hx₀ hb hK hP hD hS 1 0 rfl rfl (vp_in_iff.mpr (lf_j_seen_3 xs hh0 c_5 c_6)) dX11_seen_51 ?_
            clear hP hD hS
            intro H locs hP hD hS
            replace hP := k_w2 (wt := [(kX11 hx aLa aPa aGe aFl aTr aBe aLu aLo vSf vSm vCo vSh xs xl xf), (kAI vSf cI 8 (upd sf xs.toNatClampNeg f1)), (kAI vSm cI 8 sm)]) hP hD rfl
            replace hD := hP.2
            replace hP := hP.1
            refine lv_aload_n hx₀ hb dX11_seen_52 rfl (lv_at hl 0 rfl) ?_
            refine va_get (D := (dC, dI)) (ci := 10) (v := .ref vSm) (C := RX11) (T := TX11) (N := 15) hx₀ hb hts inlX11 hown hK hP 0 rfl rfl 9 (by decide) (hts (.fieldLink RX11 71 "BittenStick" "seenMiles" "[I") wd_46) (fun _ h9 => h9) rfl dX11_seen_53 ?_
            refine lv_aload_n hx₀ hb dX11_seen_56 rfl (lv_at hl 0 rfl) ?_
            refine va_get (D := (dC, dI)) (ci := 10) (v := .int xs) (C := RX11) (T := TX11) (N := 15) hx₀ hb hts inlX11 hown hK hP 0 rfl rfl 12 (by decide) (hts (.fieldLink RX11 193 "BittenStick" "seenNumber" "I") wd_690) (fun _ h9 => h9) rfl dX11_seen_57 ?_
            refine lv_iload_n hx₀ hb dX11_seen_60 rfl (lv_at hl 2 rfl) ?_
            refine va_iast hx₀ hb hK hP hD hS 2 0 rfl rfl (vp_in_iff.mpr (lf_j_seen_3 xs hh0 c_5 c_6)) dX11_seen_61 ?_
            clear hP hD hS
            intro H locs hP hD hS
            replace hP := k_w2 (wt := [(kX11 hx aLa aPa aGe aFl aTr aBe aLu aLo vSf vSm vCo vSh xs xl xf), (kAI vSf cI 8 (upd sf xs.toNatClampNeg f1)), (kAI vSm cI 8 (upd sm xs.toNatClampNeg m1))]) hP hD rfl
            replace hD := hP.2
            replace hP := hP.1
            refine lv_aload_n hx₀ hb dX11_seen_62 rfl (lv_at hl 0 rfl) ?_
            refine lv_dup hx₀ hb dX11_seen_63 rfl ?_
            refine va_get (D := (dC, dI)) (ci := 10) (v := .int xs) (C := RX11) (T := TX11) (N := 15) hx₀ hb hts inlX11 hown hK hP 0 rfl rfl 12 (by decide) (hts (.fieldLink RX11 193 "BittenStick" "seenNumber" "I") wd_690) (fun _ h9 => h9) rfl dX11_seen_64 ?_
            refine lv_iconst (v := 1) hx₀ hb dX11_seen_67 (by decide +kernel) ?_
            refine lv_iadd hx₀ hb dX11_seen_68 ?_
            refine va_put (D := (dC, dI)) (ci := 10) (v := .int (xs + 1)) (ty := .int) (C := RX11) (T := TX11) (N := 15) hx₀ hb hts inlX11 tyX11 tyX11_ok nmX11 hown hK hP hD hS 0 rfl rfl 12 (by decide) (hts (.fieldLink RX11 193 "BittenStick" "seenNumber" "I") wd_690) (fun _ h9 => h9) rfl (by decide +kernel) rfl rfl (Nat.le_of_ble_eq_true rfl) dX11_seen_69 ?_
            clear hP hD hS
            intro H locs hP hD hS
            replace hP := k_w2 (wt := [(kX11 hx aLa aPa aGe aFl aTr aBe aLu aLo vSf vSm vCo vSh (xs + 1) xl xf), (kAI vSf cI 8 (upd sf xs.toNatClampNeg f1)), (kAI vSm cI 8 (upd sm xs.toNatClampNeg m1))]) hP hD rfl
            replace hD := hP.2
            replace hP := hP.1
            refine lv_aload_n hx₀ hb dX11_seen_72 rfl (lv_at hl 0 rfl) ?_
            refine va_get (D := (dC, dI)) (ci := 10) (v := .int (xs + 1)) (C := RX11) (T := TX11) (N := 15) hx₀ hb hts inlX11 hown hK hP 0 rfl rfl 12 (by decide) (hts (.fieldLink RX11 193 "BittenStick" "seenNumber" "I") wd_690) (fun _ h9 => h9) rfl dX11_seen_73 ?_
            obtain ⟨hP9, hD9⟩ := k_c2 (wc := [(kX11 hx aLa aPa aGe aFl aTr aBe aLu aLo vSf vSm vCo vSh (xs + 1) xl xf), (kAI vSf cI 8 (upd sf xs.toNatClampNeg f1)), (kAI vSm cI 8 (upd sm xs.toNatClampNeg m1))]) hP hD [0, 1, 2] (by decide +kernel) rfl
            exact W.iret (v := xs + 1) hx₀ hb hr (fun t₀ ht hW => ⟨⟨xs + 1, (k_fn [(xs + 1)], k_fa [upd sf xs.toNatClampNeg f1, upd sm xs.toNatClampNeg m1], k_fl [], k_fL [], k_fp []), rfl, ⟨(show (xs + 1 : Int32) = if 0 ≤ f1 ∧ f1 ≤ 7 ∧ 0 ≤ m1 ∧ m1 ≤ 24 then (if xs = 8 then -4 else xs + 1) else -2 from (((if_neg (show ¬ (xs = 8) from (fun z => (Int32.not_le.mpr c_6) (k_leq z.symm)))).symm).trans (if_pos (show 0 ≤ f1 ∧ f1 ≤ 7 ∧ 0 ≤ m1 ∧ m1 ≤ 24 from ⟨(Int32.not_lt.mp c_1), (lf_j_seen_4 f1 c_1 c_2), (Int32.not_lt.mp c_3), c_4⟩)).symm)), (show (xs + 1) = if 0 ≤ f1 ∧ f1 ≤ 7 ∧ 0 ≤ m1 ∧ m1 ≤ 24 ∧ ¬ xs = 8 then xs + 1 else xs from (if_pos (show 0 ≤ f1 ∧ f1 ≤ 7 ∧ 0 ≤ m1 ∧ m1 ≤ 24 ∧ ¬ xs = 8 from ⟨(Int32.not_lt.mp c_1), (lf_j_seen_4 f1 c_1 c_2), (Int32.not_lt.mp c_3), c_4, (fun z => (Int32.not_le.mpr c_6) (k_leq z.symm))⟩)).symm), (if_pos (lf_e_seen_1 xs f1 m1 hh0 c_1 c_2 c_3 c_4 c_5 c_6)).symm, (if_pos (lf_e_seen_1 xs f1 m1 hh0 c_1 c_2 c_3 c_4 c_5 c_6)).symm⟩, by rw [ht]; exact hP9, va_K.moved hW.alike hK, hD9⟩, hS.F ht⟩) hS.2.2 dX11_seen_76
          · refine lv_bipush (v := (-4)) hx₀ hb dX11_seen_39 (by decide +kernel) ?_
            obtain ⟨hP9, hD9⟩ := k_c2 (wc := [(kX11 hx aLa aPa aGe aFl aTr aBe aLu aLo vSf vSm vCo vSh xs xl xf), (kAI vSf cI 8 sf), (kAI vSm cI 8 sm)]) hP hD [0, 1, 2] (by decide +kernel) rfl
            exact W.iret (v := (-4)) hx₀ hb hr (fun t₀ ht hW => ⟨⟨(-4), (k_fn [xs], k_fa [sf, sm], k_fl [], k_fL [], k_fp []), rfl, ⟨(show ((-4) : Int32) = if 0 ≤ f1 ∧ f1 ≤ 7 ∧ 0 ≤ m1 ∧ m1 ≤ 24 then (if xs = 8 then -4 else xs + 1) else -2 from (((if_pos (show xs = 8 from (Int32.le_antisymm hh0.2 (Int32.not_lt.mp c_6)))).symm).trans (if_pos (show 0 ≤ f1 ∧ f1 ≤ 7 ∧ 0 ≤ m1 ∧ m1 ≤ 24 from ⟨(Int32.not_lt.mp c_1), (lf_j_seen_4 f1 c_1 c_2), (Int32.not_lt.mp c_3), c_4⟩)).symm)), (show xs = if 0 ≤ f1 ∧ f1 ≤ 7 ∧ 0 ≤ m1 ∧ m1 ≤ 24 ∧ ¬ xs = 8 then xs + 1 else xs from (if_neg (show ¬ (0 ≤ f1 ∧ f1 ≤ 7 ∧ 0 ≤ m1 ∧ m1 ≤ 24 ∧ ¬ xs = 8) from (fun z => (fun z => z (Int32.le_antisymm hh0.2 (Int32.not_lt.mp c_6))) z.2.2.2.2))).symm), (if_neg (show ¬ (0 ≤ f1 ∧ f1 ≤ 7 ∧ 0 ≤ m1 ∧ m1 ≤ 24 ∧ ¬ xs = 8) from (fun z => (fun z => z (Int32.le_antisymm hh0.2 (Int32.not_lt.mp c_6))) z.2.2.2.2))).symm, (if_neg (show ¬ (0 ≤ f1 ∧ f1 ≤ 7 ∧ 0 ≤ m1 ∧ m1 ≤ 24 ∧ ¬ xs = 8) from (fun z => (fun z => z (Int32.le_antisymm hh0.2 (Int32.not_lt.mp c_6))) z.2.2.2.2))).symm⟩, by rw [ht]; exact hP9, va_K.moved hW.alike hK, hD9⟩, hS.F ht⟩) hS.2.2 dX11_seen_41
        · refine lv_bipush (v := (-2)) hx₀ hb dX11_seen_20 (by decide +kernel) ?_
          obtain ⟨hP9, hD9⟩ := k_c2 (wc := [(kX11 hx aLa aPa aGe aFl aTr aBe aLu aLo vSf vSm vCo vSh xs xl xf), (kAI vSf cI 8 sf), (kAI vSm cI 8 sm)]) hP hD [0, 1, 2] (by decide +kernel) rfl
          exact W.iret (v := (-2)) hx₀ hb hr (fun t₀ ht hW => ⟨⟨(-2), (k_fn [xs], k_fa [sf, sm], k_fl [], k_fL [], k_fp []), rfl, ⟨(show ((-2) : Int32) = if 0 ≤ f1 ∧ f1 ≤ 7 ∧ 0 ≤ m1 ∧ m1 ≤ 24 then (if xs = 8 then -4 else xs + 1) else -2 from (if_neg (show ¬ (0 ≤ f1 ∧ f1 ≤ 7 ∧ 0 ≤ m1 ∧ m1 ≤ 24) from (fun z => c_4 z.2.2.2))).symm), (show xs = if 0 ≤ f1 ∧ f1 ≤ 7 ∧ 0 ≤ m1 ∧ m1 ≤ 24 ∧ ¬ xs = 8 then xs + 1 else xs from (if_neg (show ¬ (0 ≤ f1 ∧ f1 ≤ 7 ∧ 0 ≤ m1 ∧ m1 ≤ 24 ∧ ¬ xs = 8) from (fun z => c_4 z.2.2.2.1))).symm), (if_neg (show ¬ (0 ≤ f1 ∧ f1 ≤ 7 ∧ 0 ≤ m1 ∧ m1 ≤ 24 ∧ ¬ xs = 8) from (fun z => c_4 z.2.2.2.1))).symm, (if_neg (show ¬ (0 ≤ f1 ∧ f1 ≤ 7 ∧ 0 ≤ m1 ∧ m1 ≤ 24 ∧ ¬ xs = 8) from (fun z => c_4 z.2.2.2.1))).symm⟩, by rw [ht]; exact hP9, va_K.moved hW.alike hK, hD9⟩, hS.F ht⟩) hS.2.2 dX11_seen_22
theorem lf_m_seen_1 (a0 : Int32) (h0 : 0 ≤ a0 ∧ a0 ≤ 8) (h1 : ¬ a0 = 8) : 0 ≤ (2 * a0).toInt ∧ (2 * a0).toInt < 16 := by
  first | rfl | assumption | decide | exact Or.inl rfl | (first | rfl | assumption | decide | omega | (have hr0 := Int32.toInt_lt a0; have hs0 := Int32.le_toInt a0; simp only [Int64.toInt_add, Int64.toInt_sub, Int32.toInt_add, Int32.toInt_sub, Int32.toInt_mul, Int64.le_iff_toInt_le, Int64.lt_iff_toInt_lt, Int32.le_iff_toInt_le, Int32.lt_iff_toInt_lt, ← Int32.toInt_inj, ← Int64.toInt_inj, Int32.toInt_toInt64, kc_0, kc_2, kc_8, kc_16, true_and, and_true, not_true_eq_false, not_false_eq_true] at * <;> ((first | omega | ((try simp (disch := omega) only [k_bm64] at *); (try simp (disch := omega) only [k_bm] at *); (try simp (disch := omega) only [k_bm] at *); omega) | (simp only [Int.bmod] at *; omega)))))
theorem lf_m_seen_2 (a0 : Int32) (h0 : 0 ≤ a0 ∧ a0 ≤ 8) (h1 : ¬ a0 = 8) : 0 ≤ ((2 * a0) + 1).toInt ∧ ((2 * a0) + 1).toInt < 16 := by
  first | rfl | assumption | decide | exact Or.inl rfl | (first | rfl | assumption | decide | omega | (have hr0 := Int32.toInt_lt a0; have hs0 := Int32.le_toInt a0; simp only [Int64.toInt_add, Int64.toInt_sub, Int32.toInt_add, Int32.toInt_sub, Int32.toInt_mul, Int64.le_iff_toInt_le, Int64.lt_iff_toInt_lt, Int32.le_iff_toInt_le, Int32.lt_iff_toInt_lt, ← Int32.toInt_inj, ← Int64.toInt_inj, Int32.toInt_toInt64, kc_0, kc_1, kc_2, kc_8, kc_16, true_and, and_true, not_true_eq_false, not_false_eq_true] at * <;> ((first | omega | ((try simp (disch := omega) only [k_bm64] at *); (try simp (disch := omega) only [k_bm] at *); (try simp (disch := omega) only [k_bm] at *); omega) | (simp only [Int.bmod] at *; omega)))))
set_option maxHeartbeats 4000000 in
set_option maxRecDepth 100000 in
theorem m_seen (l : Launch) (dC : Nat → ClassId) (dI : Nat → Nat → Nat) (cI cJ cQ : ClassId) (sz : Nat) (hm : Nat) (f1 : Int32) (m1 : Int32) (vFo : Nat) (vSi : Nat) (vIt : Nat) (vMo : Nat) (la : Int32) (vBy : Nat) (vTy : Nat) (mi : Int32) (vMi : Nat) (pn : Int32) (vPs : Nat) (gn : Int32) (vGs : Nat) (fn : Int32) (vFt : Nat) (le : Int32) (vTo : Nat) (kn : Int32) (fe : Int32) (en : Int32) (ca : Int32) (an : Int32) (co : Int32) (vPr : Nat) (vSt : Nat) (vFn : Nat) (sn : Int32) (vSg : Nat) (vAl : Nat) (dr : Int32) (qSg : Nat → Int32) (hh0 : 0 ≤ sn ∧ sn ≤ 8) : Met l yX12_seen (kW yX12_seen cX12_seen 3 (some .int)) { frames := 1, cells := 0, slots := 0, locals := 25 } (kPre dC dI cI cJ cQ sz [.ref hm, .int f1, .int m1] [(kX12 hm vFo vSi vIt vMo la vBy vTy mi vMi pn vPs gn vGs fn vFt le vTo kn fe en ca an co vPr vSt vFn sn vSg vAl dr), (kAI vSg cI 16 qSg)]) (va_Qi (fun (r : Int32) (u : kS) => (r = if 0 ≤ f1 ∧ f1 ≤ 7 ∧ 0 ≤ m1 ∧ m1 ≤ 24 then (if sn = 8 then -4 else sn + 1) else -2) ∧ ((u.1 0) = if 0 ≤ f1 ∧ f1 ≤ 7 ∧ 0 ≤ m1 ∧ m1 ≤ 24 ∧ ¬ sn = 8 then sn + 1 else sn) ∧ ((u.2.1 0) = if 0 ≤ f1 ∧ f1 ≤ 7 ∧ 0 ≤ m1 ∧ m1 ≤ 24 ∧ ¬ sn = 8 then upd (upd qSg (2 * sn).toNatClampNeg f1) ((2 * sn) + 1).toNatClampNeg m1 else qSg)) (fun (u : kS) t₀ => kB dC dI cI cJ cQ (va_A [(kX12 hm vFo vSi vIt vMo la vBy vTy mi vMi pn vPs gn vGs fn vFt le vTo kn fe en ca an co vPr vSt vFn sn vSg vAl dr), (kAI vSg cI 16 qSg)] sz) [(kX12 hm vFo vSi vIt vMo la vBy vTy mi vMi pn vPs gn vGs fn vFt le vTo kn fe en ca an co vPr vSt vFn (u.1 0) vSg vAl dr), (kAI vSg cI 16 (u.2.1 0))] t₀) (va_A [(kX12 hm vFo vSi vIt vMo la vBy vTy mi vMi pn vPs gn vGs fn vFt le vTo kn fe en ca an co vPr vSt vFn sn vSg vAl dr), (kAI vSg cI 16 qSg)] sz)) 0 0 (va_A [(kX12 hm vFo vSi vIt vMo la vBy vTy mi vMi pn vPs gn vGs fn vFt le vTo kn fe en ca an co vPr vSt vFn sn vSg vAl dr), (kAI vSg cI 16 qSg)] sz) := by
  refine Met.ofW (cc := cX12_seen) (maxL := 3) (ret := (some .int)) (by decide) rfl ?_
  intro p₀ e₀ s₀ m₀ args below meth c₀ s₁ B hml hv₀
  obtain ⟨rfl, hsz, hP, hK, hD0, hN⟩ := hv₀
  have hx₀ := B.exec
  have hb := B.bytes
  have hr := B.returns
  have hts := atoms_spec (ws := (kW yX12_seen cX12_seen 3 (some .int))) B.pre
  have hts := fun w h => hts w (List.mem_cons_of_mem _ h)
  have hown : s₀.vm.findClass RX12 = some m₀.cls := findClass_of_methodNamed B.named
  have hlocks := B.notSynchronized
  subst hsz
  have hD := hD0.self (sz := s₀.heap.size)
  generalize hAe : va_A [(kX12 hm vFo vSi vIt vMo la vBy vTy mi vMi pn vPs gn vGs fn vFt le vTo kn fe en ca an co vPr vSt vFn sn vSg vAl dr), (kAI vSg cI 16 qSg)] s₀.heap.size = A at hD ⊢
  have hA : ∀ q : Nat, s₀.heap.size ≤ q → A q := fun q h => by rw [← hAe]; exact Or.inr h
  have hS : va_S A s₀.heap s₀.heap [] := va_S.rf
  have hP : va_P (dC, dI) vwCl [(kX12 hm vFo vSi vIt vMo la vBy vTy mi vMi pn vPs gn vGs fn vFt le vTo kn fe en ca an co vPr vSt vFn sn vSg vAl dr), (kAI vSg cI 16 qSg)] s₀.heap := hP
  have hl := lv_entry ([.ref hm, .int f1, .int m1]) (n := 3) (Nat.le_of_ble_eq_true rfl)
  rw [lg_entry_eq]
  generalize (lg_sl ([.ref hm, .int f1, .int m1]) ++ List.replicate (3 - (lg_sl ([.ref hm, .int f1, .int m1])).length) Slot.unset).toArray = ls at hl ⊢
  have hl : lv_has ls 3 [(0, .ref hm), (1, .int f1), (2, .int m1)] := hl
  obtain ⟨H, hH⟩ : ∃ z : Heap, z = s₀.heap := ⟨_, rfl⟩
  rw [← hH] at hP
  have hS : va_S A s₀.heap H [] := by rw [hH]; exact hS
  refine k_heap hH ?_
  have hD : va_D A [(kX12 hm vFo vSi vIt vMo la vBy vTy mi vMi pn vPs gn vGs fn vFt le vTo kn fe en ca an co vPr vSt vFn sn vSg vAl dr), (kAI vSg cI 16 qSg)] := hD
  obtain ⟨locs, hlo⟩ : ∃ z : List Loc, z = [] := ⟨_, rfl⟩
  rw [← hlo] at hS ⊢
  clear hlo hH hAe hD0
  refine lv_iload_n hx₀ hb dX12_seen_0 rfl (lv_at hl 1 rfl) ?_
  refine lv_i2l hx₀ hb dX12_seen_1 rfl ?_
  refine lv_lconst (v := 0) hx₀ hb dX12_seen_2 (by decide +kernel) ?_
  refine lv_ldc2 (v := 7) hx₀ hb hown (hts (.constantLong RX12 155 (7)) wd_362) dX12_seen_3 ?_
  obtain ⟨hPc, hDc, hFc, hC⟩ := k_cw (wc := []) hP hD hS hA [] (by decide +kernel) rfl
  refine va_calli (va_runS (As := [.long f1.toInt64, .long 0, .long 7]) (rest := []) ⟨hx₀, hb, hml, hown, hts⟩ (c_in l dC dI cI cJ cQ H.size f1.toInt64 0 7) (va_cwS 3 hts (kGS wd_208 wd_206 wd_207 wd_5) rfl rfl rfl (by decide +kernel) ⟨Nat.le_of_ble_eq_true rfl, Nat.le_of_ble_eq_true rfl⟩) (k_preS hK hPc hDc hN) rfl rfl hl.1 rfl (lv_room (Nat.le_of_ble_eq_true rfl)) dX12_seen_6 ⟨by decide +kernel, by decide +kernel⟩) hS (fun q _ h => hFc q h) hFc (fun r_1 u₀ t₀ H1 locs ht hvm hw hB hz1 hk1 hS => ?_)
  obtain ⟨hP1, hK1, hD1⟩ := hB
  rw [ht] at hP1
  have hJ := k_jn (wr := [(kX12 hm vFo vSi vIt vMo la vBy vTy mi vMi pn vPs gn vGs fn vFt le vTo kn fe en ca an co vPr vSt vFn sn vSg vAl dr), (kAI vSg cI 16 qSg)]) (wt := [(kX12 hm vFo vSi vIt vMo la vBy vTy mi vMi pn vPs gn vGs fn vFt le vTo kn fe en ca an co vPr vSt vFn sn vSg vAl dr), (kAI vSg cI 16 qSg)]) hP hD hC [0, 1] rfl (by decide +kernel) (by decide +kernel) hk1 hFc hP1 hD1 rfl
  clear hP hD hPc hDc hFc hC hP1 hD1 hK1 hz1 hk1 hvm ht
  obtain ⟨hP, hD⟩ := hJ
  generalize H1 = H at hP hS ⊢
  try dsimp only at hw
  by_cases c_2 : (0 : Int64) ≤ f1.toInt64 ∧ f1.toInt64 ≤ (7 : Int64)
  · rw [if_pos c_2] at hw
    refine k_topi (v := 1) hw ?_
    refine lv_if_eq (tgt := 24) hx₀ hb dX12_seen_9 (by decide) (fun c9 => absurd c9 (by decide +kernel)) (fun _ => ?_)
    refine lv_iload_n hx₀ hb dX12_seen_12 rfl (lv_at hl 2 rfl) ?_
    refine lv_i2l hx₀ hb dX12_seen_13 rfl ?_
    refine lv_lconst (v := 0) hx₀ hb dX12_seen_14 (by decide +kernel) ?_
    refine lv_ldc2 (v := 24) hx₀ hb hown (hts (.constantLong RX12 238 (24)) wd_695) dX12_seen_15 ?_
    obtain ⟨hPc, hDc, hFc, hC⟩ := k_cw (wc := []) hP hD hS hA [] (by decide +kernel) rfl
    refine va_calli (va_runS (As := [.long m1.toInt64, .long 0, .long 24]) (rest := []) ⟨hx₀, hb, hml, hown, hts⟩ (c_in l dC dI cI cJ cQ H.size m1.toInt64 0 24) (va_cwS 3 hts (kGS wd_208 wd_206 wd_207 wd_5) rfl rfl rfl (by decide +kernel) ⟨Nat.le_of_ble_eq_true rfl, Nat.le_of_ble_eq_true rfl⟩) (k_preS hK hPc hDc hN) rfl rfl hl.1 rfl (lv_room (Nat.le_of_ble_eq_true rfl)) dX12_seen_18 ⟨by decide +kernel, by decide +kernel⟩) hS (fun q _ h => hFc q h) hFc (fun r_3 u₀ t₀ H1 locs ht hvm hw hB hz1 hk1 hS => ?_)
    obtain ⟨hP1, hK1, hD1⟩ := hB
    rw [ht] at hP1
    have hJ := k_jn (wr := [(kX12 hm vFo vSi vIt vMo la vBy vTy mi vMi pn vPs gn vGs fn vFt le vTo kn fe en ca an co vPr vSt vFn sn vSg vAl dr), (kAI vSg cI 16 qSg)]) (wt := [(kX12 hm vFo vSi vIt vMo la vBy vTy mi vMi pn vPs gn vGs fn vFt le vTo kn fe en ca an co vPr vSt vFn sn vSg vAl dr), (kAI vSg cI 16 qSg)]) hP hD hC [0, 1] rfl (by decide +kernel) (by decide +kernel) hk1 hFc hP1 hD1 rfl
    clear hP hD hPc hDc hFc hC hP1 hD1 hK1 hz1 hk1 hvm ht
    obtain ⟨hP, hD⟩ := hJ
    generalize H1 = H at hP hS ⊢
    try dsimp only at hw
    by_cases c_4 : (0 : Int64) ≤ m1.toInt64 ∧ m1.toInt64 ≤ (24 : Int64)
    · rw [if_pos c_4] at hw
      refine k_topi (v := 1) hw ?_
      refine lv_if_ne (tgt := 27) hx₀ hb dX12_seen_21 (by decide) (fun _ => ?_) (fun c9 => absurd c9 (by decide +kernel))
      refine lv_aload_n hx₀ hb dX12_seen_27 rfl (lv_at hl 0 rfl) ?_
      refine va_get (D := (dC, dI)) (ci := 11) (v := .int sn) (C := RX12) (T := TX12) (N := 30) hx₀ hb hts inlX12 hown hK hP 0 rfl rfl 26 (by decide) (hts (.fieldLink RX12 240 "BittenStickModel" "sights" "I") wd_696) (fun _ h9 => h9) rfl dX12_seen_28 ?_
      refine lv_bipush (v := 8) hx₀ hb dX12_seen_31 (by decide +kernel) ?_
      refine lv_icmp_ne (tgt := 39) hx₀ hb dX12_seen_33 (by decide) (fun c_5 => ?_) (fun c_5 => ?_)
      · refine lv_aload_n hx₀ hb dX12_seen_39 rfl (lv_at hl 0 rfl) ?_
        refine va_get (D := (dC, dI)) (ci := 11) (v := .ref vSg) (C := RX12) (T := TX12) (N := 30) hx₀ hb hts inlX12 hown hK hP 0 rfl rfl 27 (by decide) (hts (.fieldLink RX12 52 "BittenStickModel" "sight" "[I") wd_129) (fun _ h9 => h9) rfl dX12_seen_40 ?_
        refine lv_iconst (v := 2) hx₀ hb dX12_seen_43 (by decide +kernel) ?_
        refine lv_aload_n hx₀ hb dX12_seen_44 rfl (lv_at hl 0 rfl) ?_
        refine va_get (D := (dC, dI)) (ci := 11) (v := .int sn) (C := RX12) (T := TX12) (N := 30) hx₀ hb hts inlX12 hown hK hP 0 rfl rfl 26 (by decide) (hts (.fieldLink RX12 240 "BittenStickModel" "sights" "I") wd_696) (fun _ h9 => h9) rfl dX12_seen_45 ?_
        refine lv_imul hx₀ hb dX12_seen_48 ?_
        refine lv_iload_n hx₀ hb dX12_seen_49 rfl (lv_at hl 1 rfl) ?_
        refine va_iast hx₀ hb hK hP hD hS 1 0 rfl rfl (vp_in_iff.mpr (lf_m_seen_1 sn hh0 c_5)) dX12_seen_50 ?_
        clear hP hD hS
        intro H locs hP hD hS
        replace hP := k_w2 (wt := [(kX12 hm vFo vSi vIt vMo la vBy vTy mi vMi pn vPs gn vGs fn vFt le vTo kn fe en ca an co vPr vSt vFn sn vSg vAl dr), (kAI vSg cI 16 (upd qSg (2 * sn).toNatClampNeg f1))]) hP hD rfl
        replace hD := hP.2
        replace hP := hP.1
        refine lv_aload_n hx₀ hb dX12_seen_51 rfl (lv_at hl 0 rfl) ?_
        refine va_get (D := (dC, dI)) (ci := 11) (v := .ref vSg) (C := RX12) (T := TX12) (N := 30) hx₀ hb hts inlX12 hown hK hP 0 rfl rfl 27 (by decide) (hts (.fieldLink RX12 52 "BittenStickModel" "sight" "[I") wd_129) (fun _ h9 => h9) rfl dX12_seen_52 ?_
        refine lv_iconst (v := 2) hx₀ hb dX12_seen_55 (by decide +kernel) ?_
        refine lv_aload_n hx₀ hb dX12_seen_56 rfl (lv_at hl 0 rfl) ?_
        refine va_get (D := (dC, dI)) (ci := 11) (v := .int sn) (C := RX12) (T := TX12) (N := 30) hx₀ hb hts inlX12 hown hK hP 0 rfl rfl 26 (by decide) (hts (.fieldLink RX12 240 "BittenStickModel" "sights" "I") wd_696) (fun _ h9 => h9) rfl dX12_seen_57 ?_
        refine lv_imul hx₀ hb dX12_seen_60 ?_
        refine lv_iconst (v := 1) hx₀ hb dX12_seen_61 (by decide +kernel) ?_
        refine lv_iadd hx₀ hb dX12_seen_62 ?_
        refine lv_iload_n hx₀ hb dX12_seen_63 rfl (lv_at hl 2 rfl) ?_
        refine va_iast hx₀ hb hK hP hD hS 1 0 rfl rfl (vp_in_iff.mpr (lf_m_seen_2 sn hh0 c_5)) dX12_seen_64 ?_
        clear hP hD hS
        intro H locs hP hD hS
        replace hP := k_w2 (wt := [(kX12 hm vFo vSi vIt vMo la vBy vTy mi vMi pn vPs gn vGs fn vFt le vTo kn fe en ca an co vPr vSt vFn sn vSg vAl dr), (kAI vSg cI 16 (upd (upd qSg (2 * sn).toNatClampNeg f1) ((2 * sn) + 1).toNatClampNeg m1))]) hP hD rfl
        replace hD := hP.2
        replace hP := hP.1
        refine lv_aload_n hx₀ hb dX12_seen_65 rfl (lv_at hl 0 rfl) ?_
        refine lv_dup hx₀ hb dX12_seen_66 rfl ?_
        refine va_get (D := (dC, dI)) (ci := 11) (v := .int sn) (C := RX12) (T := TX12) (N := 30) hx₀ hb hts inlX12 hown hK hP 0 rfl rfl 26 (by decide) (hts (.fieldLink RX12 240 "BittenStickModel" "sights" "I") wd_696) (fun _ h9 => h9) rfl dX12_seen_67 ?_
        refine lv_iconst (v := 1) hx₀ hb dX12_seen_70 (by decide +kernel) ?_
        refine lv_iadd hx₀ hb dX12_seen_71 ?_
        refine va_put (D := (dC, dI)) (ci := 11) (v := .int (sn + 1)) (ty := .int) (C := RX12) (T := TX12) (N := 30) hx₀ hb hts inlX12 tyX12 tyX12_ok nmX12 hown hK hP hD hS 0 rfl rfl 26 (by decide) (hts (.fieldLink RX12 240 "BittenStickModel" "sights" "I") wd_696) (fun _ h9 => h9) rfl (by decide +kernel) rfl rfl (Nat.le_of_ble_eq_true rfl) dX12_seen_72 ?_
        clear hP hD hS
        intro H locs hP hD hS
        replace hP := k_w2 (wt := [(kX12 hm vFo vSi vIt vMo la vBy vTy mi vMi pn vPs gn vGs fn vFt le vTo kn fe en ca an co vPr vSt vFn (sn + 1) vSg vAl dr), (kAI vSg cI 16 (upd (upd qSg (2 * sn).toNatClampNeg f1) ((2 * sn) + 1).toNatClampNeg m1))]) hP hD rfl
        replace hD := hP.2
        replace hP := hP.1
        refine lv_aload_n hx₀ hb dX12_seen_75 rfl (lv_at hl 0 rfl) ?_
        refine va_get (D := (dC, dI)) (ci := 11) (v := .int (sn + 1)) (C := RX12) (T := TX12) (N := 30) hx₀ hb hts inlX12 hown hK hP 0 rfl rfl 26 (by decide) (hts (.fieldLink RX12 240 "BittenStickModel" "sights" "I") wd_696) (fun _ h9 => h9) rfl dX12_seen_76 ?_
        obtain ⟨hP9, hD9⟩ := k_c2 (wc := [(kX12 hm vFo vSi vIt vMo la vBy vTy mi vMi pn vPs gn vGs fn vFt le vTo kn fe en ca an co vPr vSt vFn (sn + 1) vSg vAl dr), (kAI vSg cI 16 (upd (upd qSg (2 * sn).toNatClampNeg f1) ((2 * sn) + 1).toNatClampNeg m1))]) hP hD [0, 1] (by decide +kernel) rfl
        exact W.iret (v := sn + 1) hx₀ hb hr (fun t₀ ht hW => ⟨⟨sn + 1, (k_fn [(sn + 1)], k_fa [upd (upd qSg (2 * sn).toNatClampNeg f1) ((2 * sn) + 1).toNatClampNeg m1], k_fl [], k_fL [], k_fp []), rfl, ⟨(show (sn + 1 : Int32) = if 0 ≤ f1 ∧ f1 ≤ 7 ∧ 0 ≤ m1 ∧ m1 ≤ 24 then (if sn = 8 then -4 else sn + 1) else -2 from (((if_neg (c_5)).symm).trans (if_pos (show 0 ≤ f1 ∧ f1 ≤ 7 ∧ 0 ≤ m1 ∧ m1 ≤ 24 from ⟨((k_64 (a := f1) (l := 0) (h := 7) (by decide) (by decide)).mp c_2).1, ((k_64 (a := f1) (l := 0) (h := 7) (by decide) (by decide)).mp c_2).2, ((k_64 (a := m1) (l := 0) (h := 24) (by decide) (by decide)).mp c_4).1, ((k_64 (a := m1) (l := 0) (h := 24) (by decide) (by decide)).mp c_4).2⟩)).symm)), (show (sn + 1) = if 0 ≤ f1 ∧ f1 ≤ 7 ∧ 0 ≤ m1 ∧ m1 ≤ 24 ∧ ¬ sn = 8 then sn + 1 else sn from (if_pos (show 0 ≤ f1 ∧ f1 ≤ 7 ∧ 0 ≤ m1 ∧ m1 ≤ 24 ∧ ¬ sn = 8 from ⟨((k_64 (a := f1) (l := 0) (h := 7) (by decide) (by decide)).mp c_2).1, ((k_64 (a := f1) (l := 0) (h := 7) (by decide) (by decide)).mp c_2).2, ((k_64 (a := m1) (l := 0) (h := 24) (by decide) (by decide)).mp c_4).1, ((k_64 (a := m1) (l := 0) (h := 24) (by decide) (by decide)).mp c_4).2, c_5⟩)).symm), (if_pos (show 0 ≤ f1 ∧ f1 ≤ 7 ∧ 0 ≤ m1 ∧ m1 ≤ 24 ∧ ¬ sn = 8 from ⟨((k_64 (a := f1) (l := 0) (h := 7) (by decide) (by decide)).mp c_2).1, ((k_64 (a := f1) (l := 0) (h := 7) (by decide) (by decide)).mp c_2).2, ((k_64 (a := m1) (l := 0) (h := 24) (by decide) (by decide)).mp c_4).1, ((k_64 (a := m1) (l := 0) (h := 24) (by decide) (by decide)).mp c_4).2, c_5⟩)).symm⟩, by rw [ht]; exact hP9, va_K.moved hW.alike hK, hD9⟩, hS.F ht⟩) hS.2.2 dX12_seen_79
      · refine lv_bipush (v := (-4)) hx₀ hb dX12_seen_36 (by decide +kernel) ?_
        obtain ⟨hP9, hD9⟩ := k_c2 (wc := [(kX12 hm vFo vSi vIt vMo la vBy vTy mi vMi pn vPs gn vGs fn vFt le vTo kn fe en ca an co vPr vSt vFn sn vSg vAl dr), (kAI vSg cI 16 qSg)]) hP hD [0, 1] (by decide +kernel) rfl
        exact W.iret (v := (-4)) hx₀ hb hr (fun t₀ ht hW => ⟨⟨(-4), (k_fn [sn], k_fa [qSg], k_fl [], k_fL [], k_fp []), rfl, ⟨(show ((-4) : Int32) = if 0 ≤ f1 ∧ f1 ≤ 7 ∧ 0 ≤ m1 ∧ m1 ≤ 24 then (if sn = 8 then -4 else sn + 1) else -2 from (((if_pos (c_5)).symm).trans (if_pos (show 0 ≤ f1 ∧ f1 ≤ 7 ∧ 0 ≤ m1 ∧ m1 ≤ 24 from ⟨((k_64 (a := f1) (l := 0) (h := 7) (by decide) (by decide)).mp c_2).1, ((k_64 (a := f1) (l := 0) (h := 7) (by decide) (by decide)).mp c_2).2, ((k_64 (a := m1) (l := 0) (h := 24) (by decide) (by decide)).mp c_4).1, ((k_64 (a := m1) (l := 0) (h := 24) (by decide) (by decide)).mp c_4).2⟩)).symm)), (show sn = if 0 ≤ f1 ∧ f1 ≤ 7 ∧ 0 ≤ m1 ∧ m1 ≤ 24 ∧ ¬ sn = 8 then sn + 1 else sn from (if_neg (show ¬ (0 ≤ f1 ∧ f1 ≤ 7 ∧ 0 ≤ m1 ∧ m1 ≤ 24 ∧ ¬ sn = 8) from (fun z => (fun z => z c_5) z.2.2.2.2))).symm), (if_neg (show ¬ (0 ≤ f1 ∧ f1 ≤ 7 ∧ 0 ≤ m1 ∧ m1 ≤ 24 ∧ ¬ sn = 8) from (fun z => (fun z => z c_5) z.2.2.2.2))).symm⟩, by rw [ht]; exact hP9, va_K.moved hW.alike hK, hD9⟩, hS.F ht⟩) hS.2.2 dX12_seen_38
    rw [if_neg c_4] at hw
    refine k_topi (v := 0) hw ?_
    refine lv_if_ne (tgt := 27) hx₀ hb dX12_seen_21 (by decide) (fun c9 => absurd (by decide +kernel) c9) (fun _ => ?_)
    refine lv_bipush (v := (-2)) hx₀ hb dX12_seen_24 (by decide +kernel) ?_
    obtain ⟨hP9, hD9⟩ := k_c2 (wc := [(kX12 hm vFo vSi vIt vMo la vBy vTy mi vMi pn vPs gn vGs fn vFt le vTo kn fe en ca an co vPr vSt vFn sn vSg vAl dr), (kAI vSg cI 16 qSg)]) hP hD [0, 1] (by decide +kernel) rfl
    exact W.iret (v := (-2)) hx₀ hb hr (fun t₀ ht hW => ⟨⟨(-2), (k_fn [sn], k_fa [qSg], k_fl [], k_fL [], k_fp []), rfl, ⟨(show ((-2) : Int32) = if 0 ≤ f1 ∧ f1 ≤ 7 ∧ 0 ≤ m1 ∧ m1 ≤ 24 then (if sn = 8 then -4 else sn + 1) else -2 from (if_neg (show ¬ (0 ≤ f1 ∧ f1 ≤ 7 ∧ 0 ≤ m1 ∧ m1 ≤ 24) from (fun z => (fun z => c_4 ((k_64 (a := m1) (l := 0) (h := 24) (by decide) (by decide)).mpr z)) (And.intro z.2.2.1 z.2.2.2)))).symm), (show sn = if 0 ≤ f1 ∧ f1 ≤ 7 ∧ 0 ≤ m1 ∧ m1 ≤ 24 ∧ ¬ sn = 8 then sn + 1 else sn from (if_neg (show ¬ (0 ≤ f1 ∧ f1 ≤ 7 ∧ 0 ≤ m1 ∧ m1 ≤ 24 ∧ ¬ sn = 8) from (fun z => (fun z => c_4 ((k_64 (a := m1) (l := 0) (h := 24) (by decide) (by decide)).mpr z)) (And.intro z.2.2.1 z.2.2.2.1)))).symm), (if_neg (show ¬ (0 ≤ f1 ∧ f1 ≤ 7 ∧ 0 ≤ m1 ∧ m1 ≤ 24 ∧ ¬ sn = 8) from (fun z => (fun z => c_4 ((k_64 (a := m1) (l := 0) (h := 24) (by decide) (by decide)).mpr z)) (And.intro z.2.2.1 z.2.2.2.1)))).symm⟩, by rw [ht]; exact hP9, va_K.moved hW.alike hK, hD9⟩, hS.F ht⟩) hS.2.2 dX12_seen_26
  rw [if_neg c_2] at hw
  refine k_topi (v := 0) hw ?_
  refine lv_if_eq (tgt := 24) hx₀ hb dX12_seen_9 (by decide) (fun _ => ?_) (fun c9 => absurd (by decide +kernel) c9)
  refine lv_bipush (v := (-2)) hx₀ hb dX12_seen_24 (by decide +kernel) ?_
  obtain ⟨hP9, hD9⟩ := k_c2 (wc := [(kX12 hm vFo vSi vIt vMo la vBy vTy mi vMi pn vPs gn vGs fn vFt le vTo kn fe en ca an co vPr vSt vFn sn vSg vAl dr), (kAI vSg cI 16 qSg)]) hP hD [0, 1] (by decide +kernel) rfl
  exact W.iret (v := (-2)) hx₀ hb hr (fun t₀ ht hW => ⟨⟨(-2), (k_fn [sn], k_fa [qSg], k_fl [], k_fL [], k_fp []), rfl, ⟨(show ((-2) : Int32) = if 0 ≤ f1 ∧ f1 ≤ 7 ∧ 0 ≤ m1 ∧ m1 ≤ 24 then (if sn = 8 then -4 else sn + 1) else -2 from (if_neg (show ¬ (0 ≤ f1 ∧ f1 ≤ 7 ∧ 0 ≤ m1 ∧ m1 ≤ 24) from (fun z => (fun z => c_2 ((k_64 (a := f1) (l := 0) (h := 7) (by decide) (by decide)).mpr z)) (And.intro z.1 z.2.1)))).symm), (show sn = if 0 ≤ f1 ∧ f1 ≤ 7 ∧ 0 ≤ m1 ∧ m1 ≤ 24 ∧ ¬ sn = 8 then sn + 1 else sn from (if_neg (show ¬ (0 ≤ f1 ∧ f1 ≤ 7 ∧ 0 ≤ m1 ∧ m1 ≤ 24 ∧ ¬ sn = 8) from (fun z => (fun z => c_2 ((k_64 (a := f1) (l := 0) (h := 7) (by decide) (by decide)).mpr z)) (And.intro z.1 z.2.1)))).symm), (if_neg (show ¬ (0 ≤ f1 ∧ f1 ≤ 7 ∧ 0 ≤ m1 ∧ m1 ≤ 24 ∧ ¬ sn = 8) from (fun z => (fun z => c_2 ((k_64 (a := f1) (l := 0) (h := 7) (by decide) (by decide)).mpr z)) (And.intro z.1 z.2.1)))).symm⟩, by rw [ht]; exact hP9, va_K.moved hW.alike hK, hD9⟩, hS.F ht⟩) hS.2.2 dX12_seen_26
