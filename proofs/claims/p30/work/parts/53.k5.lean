theorem lf_j_sheet_1 (a0 : Int32) (a1 : Int32) (h0 : a0 ≤ 60) (h1 : 0 ≤ a0) (h2 : (a1) = a0) : ¬ a0 < -10 := by
  first | (first | omega | (have hr0 := Int32.toInt_lt a0; have hs0 := Int32.le_toInt a0; have hr1 := Int32.toInt_lt a1; have hs1 := Int32.le_toInt a1; simp only [Int64.toInt_add, Int64.toInt_sub, Int32.toInt_add, Int32.toInt_sub, Int32.toInt_mul, Int64.le_iff_toInt_le, Int64.lt_iff_toInt_lt, Int32.le_iff_toInt_le, Int32.lt_iff_toInt_lt, ← Int32.toInt_inj, ← Int64.toInt_inj, Int32.toInt_toInt64, kc_m10, kc_0, kc_10, kc_60, true_and, and_true, not_true_eq_false, not_false_eq_true] at * <;> ((first | omega | ((try simp (disch := omega) only [k_bm64] at *); (try simp (disch := omega) only [k_bm] at *); (try simp (disch := omega) only [k_bm] at *); omega) | (simp only [Int.bmod] at *; omega))))) | with_reducible assumption | exact Or.inl rfl | rfl
theorem lf_j_sheet_2 (a0 : Int32) (a1 : Int32) (a2 : Int32) (h0 : ¬ (a0 = 0)) (h1 : ¬ (a0 = 1)) (h2 : ¬ (a0 = 2)) (h3 : ¬ (a0 = 3)) : ¬ (0 ≤ a0 ∧ a0 ≤ 3 ∧ 0 ≤ a1 ∧ a1 ≤ 2 ∧ a2 ≤ 60) := by
  first | (first | omega | (have hr0 := Int32.toInt_lt a0; have hs0 := Int32.le_toInt a0; have hr1 := Int32.toInt_lt a1; have hs1 := Int32.le_toInt a1; have hr2 := Int32.toInt_lt a2; have hs2 := Int32.le_toInt a2; simp only [Int64.toInt_add, Int64.toInt_sub, Int32.toInt_add, Int32.toInt_sub, Int32.toInt_mul, Int64.le_iff_toInt_le, Int64.lt_iff_toInt_lt, Int32.le_iff_toInt_le, Int32.lt_iff_toInt_lt, ← Int32.toInt_inj, ← Int64.toInt_inj, Int32.toInt_toInt64, kc_0, kc_1, kc_2, kc_3, kc_60, true_and, and_true, not_true_eq_false, not_false_eq_true] at * <;> ((first | omega | ((try simp (disch := omega) only [k_bm64] at *); (try simp (disch := omega) only [k_bm] at *); (try simp (disch := omega) only [k_bm] at *); omega) | (simp only [Int.bmod] at *; omega))))) | with_reducible assumption | exact Or.inl rfl | rfl
theorem lf_j_sheet_3 (a0 : Int32) (a1 : Int32) (a2 : Int32) (h0 : ¬ (a0 = 0)) (h1 : ¬ (a0 = 1)) (h2 : ¬ (a0 = 2)) (h3 : ¬ (a0 = 3)) : ¬ (0 ≤ a0 ∧ a0 ≤ 3 ∧ 0 ≤ a1 ∧ a1 ≤ 2 ∧ a2 ≤ 60 ∧ ¬ a2 < 0) := by
  first | (first | omega | (have hr0 := Int32.toInt_lt a0; have hs0 := Int32.le_toInt a0; have hr1 := Int32.toInt_lt a1; have hs1 := Int32.le_toInt a1; have hr2 := Int32.toInt_lt a2; have hs2 := Int32.le_toInt a2; simp only [Int64.toInt_add, Int64.toInt_sub, Int32.toInt_add, Int32.toInt_sub, Int32.toInt_mul, Int64.le_iff_toInt_le, Int64.lt_iff_toInt_lt, Int32.le_iff_toInt_le, Int32.lt_iff_toInt_lt, ← Int32.toInt_inj, ← Int64.toInt_inj, Int32.toInt_toInt64, kc_0, kc_1, kc_2, kc_3, kc_60, true_and, and_true, not_true_eq_false, not_false_eq_true] at * <;> ((first | omega | ((try simp (disch := omega) only [k_bm64] at *); (try simp (disch := omega) only [k_bm] at *); (try simp (disch := omega) only [k_bm] at *); omega) | (simp only [Int.bmod] at *; omega))))) | with_reducible assumption | exact Or.inl rfl | rfl
set_option maxHeartbeats 4000000 in
set_option maxRecDepth 100000 in
theorem j_sheet (l : Launch) (dC : Nat → ClassId) (dI : Nat → Nat → Nat) (cI cJ cQ : ClassId) (sz : Nat) (hx : Nat) (ss : Int32) (fm : Int32) (nn : Int32) (aLa : Nat) (aPa : Nat) (aGe : Nat) (aFl : Nat) (aTr : Nat) (aBe : Nat) (aLu : Nat) (aLo : Nat) (vSf : Nat) (vSm : Nat) (vCo : Nat) (vSh : Nat) (xs : Int32) (xl : Int32) (xf : Int32) (s0 : Nat) (i0 : Nat) (sLo : Nat → Int32) (sFo : Nat → Int32) (sSi : Nat → Int32) (gq0 : Nat → Int32) (s1 : Nat) (i1 : Nat) (gq1 : Nat → Int32) (s2 : Nat) (i2 : Nat) (gq2 : Nat → Int32) (s3 : Nat) (i3 : Nat) (gq3 : Nat → Int32) (hh0 : k_bd 4 0 60 sSi) : Met l yX11_sheet (kW yX11_sheet cX11_sheet 5 (some .int)) { frames := 2, cells := 0, slots := 0, locals := 44 } (kPre dC dI cI cJ cQ sz [.ref hx, .int ss, .int fm, .int nn] [(kX11 hx aLa aPa aGe aFl aTr aBe aLu aLo vSf vSm vCo vSh xs xl xf), (kAQ vSh cQ 4 (fSh s0 s1 s2 s3)), (kX8 s0 i0 (sLo 0) (sFo 0) (sSi 0)), (kAI i0 cI 60 gq0), (kX8 s1 i1 (sLo 1) (sFo 1) (sSi 1)), (kAI i1 cI 60 gq1), (kX8 s2 i2 (sLo 2) (sFo 2) (sSi 2)), (kAI i2 cI 60 gq2), (kX8 s3 i3 (sLo 3) (sFo 3) (sSi 3)), (kAI i3 cI 60 gq3)]) (va_Qi (fun (r : Int32) (u : kS) => (r = if 0 ≤ ss ∧ ss ≤ 3 ∧ 0 ≤ fm ∧ fm ≤ 2 ∧ nn ≤ 60 then (if nn < 0 then -15 else nn) else -2) ∧ ((u.2.1 4) = if 0 ≤ ss ∧ ss ≤ 3 ∧ 0 ≤ fm ∧ fm ≤ 2 ∧ nn ≤ 60 ∧ ¬ nn < 0 then upd sLo ss.toNatClampNeg 0 else sLo) ∧ ((u.2.1 5) = if 0 ≤ ss ∧ ss ≤ 3 ∧ 0 ≤ fm ∧ fm ≤ 2 ∧ nn ≤ 60 ∧ ¬ nn < 0 then upd sFo ss.toNatClampNeg fm else sFo) ∧ ((u.2.1 6) = if 0 ≤ ss ∧ ss ≤ 3 ∧ 0 ≤ fm ∧ fm ≤ 2 ∧ nn ≤ 60 ∧ ¬ nn < 0 then upd sSi ss.toNatClampNeg nn else sSi) ∧ ((u.1 0) = kFd r xf) ∧ (k_sh ((0 ≤ ss ∧ ss ≤ 3 ∧ 0 ≤ fm ∧ fm ≤ 2 ∧ nn ≤ 60 ∧ ¬ nn < 0) ∧ ss = 0) (u.2.1 0) gq0) ∧ (k_sh ((0 ≤ ss ∧ ss ≤ 3 ∧ 0 ≤ fm ∧ fm ≤ 2 ∧ nn ≤ 60 ∧ ¬ nn < 0) ∧ ss = 1) (u.2.1 1) gq1) ∧ (k_sh ((0 ≤ ss ∧ ss ≤ 3 ∧ 0 ≤ fm ∧ fm ≤ 2 ∧ nn ≤ 60 ∧ ¬ nn < 0) ∧ ss = 2) (u.2.1 2) gq2) ∧ (k_sh ((0 ≤ ss ∧ ss ≤ 3 ∧ 0 ≤ fm ∧ fm ≤ 2 ∧ nn ≤ 60 ∧ ¬ nn < 0) ∧ ss = 3) (u.2.1 3) gq3)) (fun (u : kS) t₀ => kB dC dI cI cJ cQ (va_A [(kX11 hx aLa aPa aGe aFl aTr aBe aLu aLo vSf vSm vCo vSh xs xl xf), (kAQ vSh cQ 4 (fSh s0 s1 s2 s3)), (kX8 s0 i0 (sLo 0) (sFo 0) (sSi 0)), (kAI i0 cI 60 gq0), (kX8 s1 i1 (sLo 1) (sFo 1) (sSi 1)), (kAI i1 cI 60 gq1), (kX8 s2 i2 (sLo 2) (sFo 2) (sSi 2)), (kAI i2 cI 60 gq2), (kX8 s3 i3 (sLo 3) (sFo 3) (sSi 3)), (kAI i3 cI 60 gq3)] sz) [(kX11 hx aLa aPa aGe aFl aTr aBe aLu aLo vSf vSm vCo vSh xs xl (u.1 0)), (kAQ vSh cQ 4 (fSh s0 s1 s2 s3)), (kX8 s0 i0 ((u.2.1 4) 0) ((u.2.1 5) 0) ((u.2.1 6) 0)), (kAI i0 cI 60 (u.2.1 0)), (kX8 s1 i1 ((u.2.1 4) 1) ((u.2.1 5) 1) ((u.2.1 6) 1)), (kAI i1 cI 60 (u.2.1 1)), (kX8 s2 i2 ((u.2.1 4) 2) ((u.2.1 5) 2) ((u.2.1 6) 2)), (kAI i2 cI 60 (u.2.1 2)), (kX8 s3 i3 ((u.2.1 4) 3) ((u.2.1 5) 3) ((u.2.1 6) 3)), (kAI i3 cI 60 (u.2.1 3))] t₀) (va_A [(kX11 hx aLa aPa aGe aFl aTr aBe aLu aLo vSf vSm vCo vSh xs xl xf), (kAQ vSh cQ 4 (fSh s0 s1 s2 s3)), (kX8 s0 i0 (sLo 0) (sFo 0) (sSi 0)), (kAI i0 cI 60 gq0), (kX8 s1 i1 (sLo 1) (sFo 1) (sSi 1)), (kAI i1 cI 60 gq1), (kX8 s2 i2 (sLo 2) (sFo 2) (sSi 2)), (kAI i2 cI 60 gq2), (kX8 s3 i3 (sLo 3) (sFo 3) (sSi 3)), (kAI i3 cI 60 gq3)] sz)) 0 0 (va_A [(kX11 hx aLa aPa aGe aFl aTr aBe aLu aLo vSf vSm vCo vSh xs xl xf), (kAQ vSh cQ 4 (fSh s0 s1 s2 s3)), (kX8 s0 i0 (sLo 0) (sFo 0) (sSi 0)), (kAI i0 cI 60 gq0), (kX8 s1 i1 (sLo 1) (sFo 1) (sSi 1)), (kAI i1 cI 60 gq1), (kX8 s2 i2 (sLo 2) (sFo 2) (sSi 2)), (kAI i2 cI 60 gq2), (kX8 s3 i3 (sLo 3) (sFo 3) (sSi 3)), (kAI i3 cI 60 gq3)] sz) := by
  refine Met.ofW (cc := cX11_sheet) (maxL := 5) (ret := (some .int)) (by decide) rfl ?_
  intro p₀ e₀ s₀ m₀ args below meth c₀ s₁ B hml hv₀
  obtain ⟨rfl, hsz, hP, hK, hD0, hN⟩ := hv₀
  have hx₀ := B.exec
  have hb := B.bytes
  have hr := B.returns
  have hts := atoms_spec (ws := (kW yX11_sheet cX11_sheet 5 (some .int))) B.pre
  have hts := fun w h => hts w (List.mem_cons_of_mem _ h)
  have hown : s₀.vm.findClass RX11 = some m₀.cls := findClass_of_methodNamed B.named
  have hlocks := B.notSynchronized
  subst hsz
  have hD := hD0.self (sz := s₀.heap.size)
  generalize hAe : va_A [(kX11 hx aLa aPa aGe aFl aTr aBe aLu aLo vSf vSm vCo vSh xs xl xf), (kAQ vSh cQ 4 (fSh s0 s1 s2 s3)), (kX8 s0 i0 (sLo 0) (sFo 0) (sSi 0)), (kAI i0 cI 60 gq0), (kX8 s1 i1 (sLo 1) (sFo 1) (sSi 1)), (kAI i1 cI 60 gq1), (kX8 s2 i2 (sLo 2) (sFo 2) (sSi 2)), (kAI i2 cI 60 gq2), (kX8 s3 i3 (sLo 3) (sFo 3) (sSi 3)), (kAI i3 cI 60 gq3)] s₀.heap.size = A at hD ⊢
  have hA : ∀ q : Nat, s₀.heap.size ≤ q → A q := fun q h => by rw [← hAe]; exact Or.inr h
  have hS : va_S A s₀.heap s₀.heap [] := va_S.rf
  have hP : va_P (dC, dI) vwCl [(kX11 hx aLa aPa aGe aFl aTr aBe aLu aLo vSf vSm vCo vSh xs xl xf), (kAQ vSh cQ 4 (fSh s0 s1 s2 s3)), (kX8 s0 i0 (sLo 0) (sFo 0) (sSi 0)), (kAI i0 cI 60 gq0), (kX8 s1 i1 (sLo 1) (sFo 1) (sSi 1)), (kAI i1 cI 60 gq1), (kX8 s2 i2 (sLo 2) (sFo 2) (sSi 2)), (kAI i2 cI 60 gq2), (kX8 s3 i3 (sLo 3) (sFo 3) (sSi 3)), (kAI i3 cI 60 gq3)] s₀.heap := hP
  have hl := lv_entry ([.ref hx, .int ss, .int fm, .int nn]) (n := 5) (Nat.le_of_ble_eq_true rfl)
  rw [lg_entry_eq]
  generalize (lg_sl ([.ref hx, .int ss, .int fm, .int nn]) ++ List.replicate (5 - (lg_sl ([.ref hx, .int ss, .int fm, .int nn])).length) Slot.unset).toArray = ls at hl ⊢
  have hl : lv_has ls 5 [(0, .ref hx), (1, .int ss), (2, .int fm), (3, .int nn)] := hl
  obtain ⟨H, hH⟩ : ∃ z : Heap, z = s₀.heap := ⟨_, rfl⟩
  rw [← hH] at hP
  have hS : va_S A s₀.heap H [] := by rw [hH]; exact hS
  refine k_heap hH ?_
  have hD : va_D A [(kX11 hx aLa aPa aGe aFl aTr aBe aLu aLo vSf vSm vCo vSh xs xl xf), (kAQ vSh cQ 4 (fSh s0 s1 s2 s3)), (kX8 s0 i0 (sLo 0) (sFo 0) (sSi 0)), (kAI i0 cI 60 gq0), (kX8 s1 i1 (sLo 1) (sFo 1) (sSi 1)), (kAI i1 cI 60 gq1), (kX8 s2 i2 (sLo 2) (sFo 2) (sSi 2)), (kAI i2 cI 60 gq2), (kX8 s3 i3 (sLo 3) (sFo 3) (sSi 3)), (kAI i3 cI 60 gq3)] := hD
  obtain ⟨locs, hlo⟩ : ∃ z : List Loc, z = [] := ⟨_, rfl⟩
  rw [← hlo] at hS ⊢
  clear hlo hH hAe hD0
  have hq0 : 0 ≤ (sSi 0).toInt ∧ (sSi 0).toInt ≤ 60 := hh0 0 (by decide)
  have hq1 : 0 ≤ (sSi 1).toInt ∧ (sSi 1).toInt ≤ 60 := hh0 1 (by decide)
  have hq2 : 0 ≤ (sSi 2).toInt ∧ (sSi 2).toInt ≤ 60 := hh0 2 (by decide)
  have hq3 : 0 ≤ (sSi 3).toInt ∧ (sSi 3).toInt ≤ 60 := hh0 3 (by decide)
  refine lv_aload_n hx₀ hb dX11_sheet_0 rfl (lv_at hl 0 rfl) ?_
  refine lv_iload_n hx₀ hb dX11_sheet_1 rfl (lv_at hl 1 rfl) ?_
  obtain ⟨hPc, hDc, hFc, hC⟩ := k_cw (wc := [(kX11 hx aLa aPa aGe aFl aTr aBe aLu aLo vSf vSm vCo vSh xs xl xf), (kAQ vSh cQ 4 (fSh s0 s1 s2 s3))]) hP hD hS hA [0, 1] (by decide +kernel) rfl
  refine va_callq (va_runV (As := [.int ss]) (rest := []) ⟨hx₀, hb, hml, hown, hts⟩ (j_sheetOf l dC dI cI cJ cQ H.size hx ss aLa aPa aGe aFl aTr aBe aLu aLo vSf vSm vCo vSh xs xl xf s0 s1 s2 s3) (cwV 1 hts (kGV wd_383 wd_380 wd_381 wd_382 wd_2) rfl rfl rfl (by decide +kernel) ⟨Nat.le_of_ble_eq_true rfl, Nat.le_of_ble_eq_true rfl⟩) (k_preV10 (q0 := 0) hK hPc hDc hN rfl) rfl rfl hl.1 rfl (lv_room (Nat.le_of_ble_eq_true rfl)) dX11_sheet_2 ⟨by decide +kernel, by decide +kernel⟩) hS (fun q _ h => hFc q h) hFc (fun r_1 u₀ t₀ H1 locs ht hvm hw hB hz1 hk1 hS => ?_)
  obtain ⟨hP1, hK1, hD1⟩ := hB
  rw [ht] at hP1
  have hJ := k_jn (wr := [(kX8 s0 i0 (sLo 0) (sFo 0) (sSi 0)), (kAI i0 cI 60 gq0), (kX8 s1 i1 (sLo 1) (sFo 1) (sSi 1)), (kAI i1 cI 60 gq1), (kX8 s2 i2 (sLo 2) (sFo 2) (sSi 2)), (kAI i2 cI 60 gq2), (kX8 s3 i3 (sLo 3) (sFo 3) (sSi 3)), (kAI i3 cI 60 gq3)]) (wt := [(kX8 s0 i0 (sLo 0) (sFo 0) (sSi 0)), (kAI i0 cI 60 gq0), (kX8 s1 i1 (sLo 1) (sFo 1) (sSi 1)), (kAI i1 cI 60 gq1), (kX8 s2 i2 (sLo 2) (sFo 2) (sSi 2)), (kAI i2 cI 60 gq2), (kX8 s3 i3 (sLo 3) (sFo 3) (sSi 3)), (kAI i3 cI 60 gq3), (kX11 hx aLa aPa aGe aFl aTr aBe aLu aLo vSf vSm vCo vSh xs xl xf), (kAQ vSh cQ 4 (fSh s0 s1 s2 s3))]) hP hD hC [2, 3, 4, 5, 6, 7, 8, 9] rfl (by decide +kernel) (by decide +kernel) hk1 hFc hP1 hD1 rfl
  clear hP hD hPc hDc hFc hC hP1 hD1 hK1 hz1 hk1 hvm ht
  obtain ⟨hP, hD⟩ := hJ
  generalize H1 = H at hP hS ⊢
  try dsimp only at hw
  by_cases c_2 : ss = 0
  · rw [if_pos c_2] at hw
    subst hw
    refine W.eq (g2 := F0 m₀ 5 ls [.ref s0]) rfl ?_
    subst c_2
    refine lv_astore (lv' := [(4, .ref s0), (0, .ref hx), (1, .int 0), (2, .int fm), (3, .int nn)]) hx₀ hb dX11_sheet_5 hl (by decide) rfl (fun ls hl => ?_)
    refine lv_aload hx₀ hb dX11_sheet_7 (lv_at hl 0 rfl) ?_
    refine lv_ifnull hx₀ hb dX11_sheet_9 ?_
    refine lv_iload_n hx₀ hb dX11_sheet_12 rfl (lv_at hl 3 rfl) ?_
    obtain ⟨hPc, hDc, hFc, hC⟩ := k_cw (wc := []) hP hD hS hA [] (by decide +kernel) rfl
    refine va_calli (va_runS (As := [.int fm]) (rest := []) ⟨hx₀, hb, hml, hown, hts⟩ (j_isForm l dC dI cI cJ cQ H.size fm) (va_cwS 1 hts (kGS wd_864 wd_862 wd_863 wd_2) rfl rfl rfl (by decide +kernel) ⟨Nat.le_of_ble_eq_true rfl, Nat.le_of_ble_eq_true rfl⟩) (k_preS hK hPc hDc hN) rfl rfl hl.1 rfl (lv_room (Nat.le_of_ble_eq_true rfl)) dX11_sheet_13 ⟨by decide +kernel, by decide +kernel⟩) hS (fun q _ h => hFc q h) hFc (fun r_3 u₀ t₀ H1 locs ht hvm hw hB hz1 hk1 hS => ?_)
    obtain ⟨hP1, hK1, hD1⟩ := hB
    rw [ht] at hP1
    have hJ := k_jn (wr := [(kX8 s0 i0 (sLo 0) (sFo 0) (sSi 0)), (kAI i0 cI 60 gq0), (kX8 s1 i1 (sLo 1) (sFo 1) (sSi 1)), (kAI i1 cI 60 gq1), (kX8 s2 i2 (sLo 2) (sFo 2) (sSi 2)), (kAI i2 cI 60 gq2), (kX8 s3 i3 (sLo 3) (sFo 3) (sSi 3)), (kAI i3 cI 60 gq3), (kX11 hx aLa aPa aGe aFl aTr aBe aLu aLo vSf vSm vCo vSh xs xl xf), (kAQ vSh cQ 4 (fSh s0 s1 s2 s3))]) (wt := [(kX8 s0 i0 (sLo 0) (sFo 0) (sSi 0)), (kAI i0 cI 60 gq0), (kX8 s1 i1 (sLo 1) (sFo 1) (sSi 1)), (kAI i1 cI 60 gq1), (kX8 s2 i2 (sLo 2) (sFo 2) (sSi 2)), (kAI i2 cI 60 gq2), (kX8 s3 i3 (sLo 3) (sFo 3) (sSi 3)), (kAI i3 cI 60 gq3), (kX11 hx aLa aPa aGe aFl aTr aBe aLu aLo vSf vSm vCo vSh xs xl xf), (kAQ vSh cQ 4 (fSh s0 s1 s2 s3))]) hP hD hC [0, 1, 2, 3, 4, 5, 6, 7, 8, 9] rfl (by decide +kernel) (by decide +kernel) hk1 hFc hP1 hD1 rfl
    clear hP hD hPc hDc hFc hC hP1 hD1 hK1 hz1 hk1 hvm ht
    obtain ⟨hP, hD⟩ := hJ
    generalize H1 = H at hP hS ⊢
    try dsimp only at hw
    by_cases c_4 : 0 ≤ fm ∧ fm ≤ 2
    · rw [if_pos c_4] at hw
      refine k_topi (v := 1) hw ?_
      refine lv_if_eq (tgt := 25) hx₀ hb dX11_sheet_16 (by decide) (fun c9 => absurd c9 (by decide +kernel)) (fun _ => ?_)
      refine lv_iload_n hx₀ hb dX11_sheet_19 rfl (lv_at hl 4 rfl) ?_
      refine lv_bipush (v := 60) hx₀ hb dX11_sheet_20 (by decide +kernel) ?_
      refine lv_icmp_le (tgt := 28) hx₀ hb dX11_sheet_22 (by decide) (fun c_5 => ?_) (fun c_5 => ?_)
      · refine lv_iload_n hx₀ hb dX11_sheet_28 rfl (lv_at hl 4 rfl) ?_
        refine lv_if_ge (tgt := 38) hx₀ hb dX11_sheet_29 (by decide) (fun c_6 => ?_) (fun c_6 => ?_)
        · refine lv_aload hx₀ hb dX11_sheet_38 (lv_at hl 0 rfl) ?_
          refine lv_iload_n hx₀ hb dX11_sheet_40 rfl (lv_at hl 3 rfl) ?_
          refine lv_iload_n hx₀ hb dX11_sheet_41 rfl (lv_at hl 4 rfl) ?_
          obtain ⟨hPc, hDc, hFc, hC⟩ := k_cw (wc := [(kX8 s0 i0 (sLo 0) (sFo 0) (sSi 0)), (kAI i0 cI 60 gq0)]) hP hD hS hA [0, 1] (by decide +kernel) rfl
          refine va_callv (va_runV (As := [.int fm, .int nn]) (rest := []) ⟨hx₀, hb, hml, hown, hts⟩ (j_renew l dC dI cI cJ cQ H.size s0 fm nn i0 (sLo 0) (sFo 0) (sSi 0) gq0 (show 0 ≤ nn ∧ nn ≤ 60 from ⟨c_6, c_5⟩)) (cwV 2 hts (kGV wd_868 wd_865 wd_866 wd_867 wd_51) rfl rfl rfl (by decide +kernel) ⟨Nat.le_of_ble_eq_true rfl, Nat.le_of_ble_eq_true rfl⟩) (k_preV8 (q0 := 0) hK hPc hDc hN rfl) rfl rfl hl.1 rfl (lv_room (Nat.le_of_ble_eq_true rfl)) dX11_sheet_42 ⟨by decide +kernel, by decide +kernel⟩) hS (fun q _ h => hFc q h) hFc (fun u₀ t₀ H1 locs ht hvm hw hB hz1 hk1 hS => ?_)
          obtain ⟨g_8, ga_9, gl_10, gb_11, gp_12⟩ := u₀
          obtain ⟨hP1, hK1, hD1⟩ := hB
          rw [ht] at hP1
          have hJ := k_jn (wr := [(kX8 s1 i1 (sLo 1) (sFo 1) (sSi 1)), (kAI i1 cI 60 gq1), (kX8 s2 i2 (sLo 2) (sFo 2) (sSi 2)), (kAI i2 cI 60 gq2), (kX8 s3 i3 (sLo 3) (sFo 3) (sSi 3)), (kAI i3 cI 60 gq3), (kX11 hx aLa aPa aGe aFl aTr aBe aLu aLo vSf vSm vCo vSh xs xl xf), (kAQ vSh cQ 4 (fSh s0 s1 s2 s3))]) (wt := [(kX8 s1 i1 (sLo 1) (sFo 1) (sSi 1)), (kAI i1 cI 60 gq1), (kX8 s2 i2 (sLo 2) (sFo 2) (sSi 2)), (kAI i2 cI 60 gq2), (kX8 s3 i3 (sLo 3) (sFo 3) (sSi 3)), (kAI i3 cI 60 gq3), (kX11 hx aLa aPa aGe aFl aTr aBe aLu aLo vSf vSm vCo vSh xs xl xf), (kAQ vSh cQ 4 (fSh s0 s1 s2 s3)), (kX8 s0 i0 0 fm (g_8 0)), (kAI i0 cI 60 (ga_9 0))]) hP hD hC [2, 3, 4, 5, 6, 7, 8, 9] rfl (by decide +kernel) (by decide +kernel) hk1 hFc hP1 hD1 rfl
          clear hP hD hPc hDc hFc hC hP1 hD1 hK1 hz1 hk1 hvm ht
          obtain ⟨hP, hD⟩ := hJ
          generalize H1 = H at hP hS ⊢
          try dsimp only at hw
          obtain ⟨c_13, c_14⟩ := hw
          refine lv_iload_n hx₀ hb dX11_sheet_45 rfl (lv_at hl 4 rfl) ?_
          obtain ⟨hP9, hD9⟩ := k_c2 (wc := [(kX11 hx aLa aPa aGe aFl aTr aBe aLu aLo vSf vSm vCo vSh xs xl xf), (kAQ vSh cQ 4 (fSh s0 s1 s2 s3)), (kX8 s0 i0 0 fm (g_8 0)), (kAI i0 cI 60 (ga_9 0)), (kX8 s1 i1 (sLo 1) (sFo 1) (sSi 1)), (kAI i1 cI 60 gq1), (kX8 s2 i2 (sLo 2) (sFo 2) (sSi 2)), (kAI i2 cI 60 gq2), (kX8 s3 i3 (sLo 3) (sFo 3) (sSi 3)), (kAI i3 cI 60 gq3)]) hP hD [6, 7, 8, 9, 0, 1, 2, 3, 4, 5] (by decide +kernel) rfl
          exact W.iret (v := nn) hx₀ hb hr (fun t₀ ht hW => ⟨⟨nn, (k_fn [xf], k_fa [ga_9 0, gq1, gq2, gq3, upd sLo (0 : Int32).toNatClampNeg (0 : Int32), upd sFo (0 : Int32).toNatClampNeg fm, upd sSi (0 : Int32).toNatClampNeg (g_8 0)], k_fl [], k_fL [], k_fp []), rfl, ⟨(show (nn : Int32) = if 0 ≤ (0 : Int32) ∧ (0 : Int32) ≤ 3 ∧ 0 ≤ fm ∧ fm ≤ 2 ∧ nn ≤ 60 then (if nn < 0 then -15 else nn) else -2 from (((if_neg (show ¬ (nn < 0) from (Int32.not_lt.mpr c_6))).symm).trans (if_pos (show 0 ≤ (0 : Int32) ∧ (0 : Int32) ≤ 3 ∧ 0 ≤ fm ∧ fm ≤ 2 ∧ nn ≤ 60 from ⟨(by decide), (by decide), c_4.1, c_4.2, c_5⟩)).symm)), (if_pos (show 0 ≤ (0 : Int32) ∧ (0 : Int32) ≤ 3 ∧ 0 ≤ fm ∧ fm ≤ 2 ∧ nn ≤ 60 ∧ ¬ nn < 0 from ⟨(by decide), (by decide), c_4.1, c_4.2, c_5, (Int32.not_lt.mpr c_6)⟩)).symm, (if_pos (show 0 ≤ (0 : Int32) ∧ (0 : Int32) ≤ 3 ∧ 0 ≤ fm ∧ fm ≤ 2 ∧ nn ≤ 60 ∧ ¬ nn < 0 from ⟨(by decide), (by decide), c_4.1, c_4.2, c_5, (Int32.not_lt.mpr c_6)⟩)).symm, (by rewrite [c_13]; exact (if_pos (show 0 ≤ (0 : Int32) ∧ (0 : Int32) ≤ 3 ∧ 0 ≤ fm ∧ fm ≤ 2 ∧ nn ≤ 60 ∧ ¬ nn < 0 from ⟨(by decide), (by decide), c_4.1, c_4.2, c_5, (Int32.not_lt.mpr c_6)⟩)).symm), (kFd_ge (lf_j_sheet_1 nn (g_8 0) c_5 c_6 c_13)).symm, (k_sh_y (show (0 ≤ (0 : Int32) ∧ (0 : Int32) ≤ 3 ∧ 0 ≤ fm ∧ fm ≤ 2 ∧ nn ≤ 60 ∧ ¬ nn < 0) ∧ (0 : Int32) = 0 from ⟨⟨(by decide), (by decide), c_4.1, c_4.2, c_5, (Int32.not_lt.mpr c_6)⟩, rfl⟩) c_14), (k_sh_n (show ¬ ((0 ≤ (0 : Int32) ∧ (0 : Int32) ≤ 3 ∧ 0 ≤ fm ∧ fm ≤ 2 ∧ nn ≤ 60 ∧ ¬ nn < 0) ∧ (0 : Int32) = 1) from (fun z => (fun z => absurd z (by decide)) z.2))), (k_sh_n (show ¬ ((0 ≤ (0 : Int32) ∧ (0 : Int32) ≤ 3 ∧ 0 ≤ fm ∧ fm ≤ 2 ∧ nn ≤ 60 ∧ ¬ nn < 0) ∧ (0 : Int32) = 2) from (fun z => (fun z => absurd z (by decide)) z.2))), (k_sh_n (show ¬ ((0 ≤ (0 : Int32) ∧ (0 : Int32) ≤ 3 ∧ 0 ≤ fm ∧ fm ≤ 2 ∧ nn ≤ 60 ∧ ¬ nn < 0) ∧ (0 : Int32) = 3) from (fun z => (fun z => absurd z (by decide)) z.2)))⟩, by rw [ht]; exact hP9, va_K.moved hW.alike hK, hD9⟩, hS.F ht⟩) hS.2.2 dX11_sheet_46
        · refine lv_aload_n hx₀ hb dX11_sheet_32 rfl (lv_at hl 1 rfl) ?_
          refine lv_iconst (v := 5) hx₀ hb dX11_sheet_33 (by decide +kernel) ?_
          obtain ⟨hPc, hDc, hFc, hC⟩ := k_cw (wc := [(kX11 hx aLa aPa aGe aFl aTr aBe aLu aLo vSf vSm vCo vSh xs xl xf)]) hP hD hS hA [8] (by decide +kernel) rfl
          refine va_calli (va_runV (As := [.int 5]) (rest := []) ⟨hx₀, hb, hml, hown, hts⟩ (j_found5 l dC dI cI cJ cQ H.size hx aLa aPa aGe aFl aTr aBe aLu aLo vSf vSm vCo vSh xs xl xf) (cwV 1 hts (kGV wd_387 wd_384 wd_385 wd_386 wd_2) rfl rfl rfl (by decide +kernel) ⟨Nat.le_of_ble_eq_true rfl, Nat.le_of_ble_eq_true rfl⟩) (k_preV10 (q0 := 0) hK hPc hDc hN rfl) rfl rfl hl.1 rfl (lv_room (Nat.le_of_ble_eq_true rfl)) dX11_sheet_34 ⟨by decide +kernel, by decide +kernel⟩) hS (fun q _ h => hFc q h) hFc (fun r_15 u₀ t₀ H1 locs ht hvm hw hB hz1 hk1 hS => ?_)
          obtain ⟨hP1, hK1, hD1⟩ := hB
          rw [ht] at hP1
          have hJ := k_jn (wr := [(kX8 s0 i0 (sLo 0) (sFo 0) (sSi 0)), (kAI i0 cI 60 gq0), (kX8 s1 i1 (sLo 1) (sFo 1) (sSi 1)), (kAI i1 cI 60 gq1), (kX8 s2 i2 (sLo 2) (sFo 2) (sSi 2)), (kAI i2 cI 60 gq2), (kX8 s3 i3 (sLo 3) (sFo 3) (sSi 3)), (kAI i3 cI 60 gq3), (kAQ vSh cQ 4 (fSh s0 s1 s2 s3))]) (wt := [(kX8 s0 i0 (sLo 0) (sFo 0) (sSi 0)), (kAI i0 cI 60 gq0), (kX8 s1 i1 (sLo 1) (sFo 1) (sSi 1)), (kAI i1 cI 60 gq1), (kX8 s2 i2 (sLo 2) (sFo 2) (sSi 2)), (kAI i2 cI 60 gq2), (kX8 s3 i3 (sLo 3) (sFo 3) (sSi 3)), (kAI i3 cI 60 gq3), (kAQ vSh cQ 4 (fSh s0 s1 s2 s3)), (kX11 hx aLa aPa aGe aFl aTr aBe aLu aLo vSf vSm vCo vSh xs xl 5)]) hP hD hC [0, 1, 2, 3, 4, 5, 6, 7, 9] rfl (by decide +kernel) (by decide +kernel) hk1 hFc hP1 hD1 rfl
          clear hP hD hPc hDc hFc hC hP1 hD1 hK1 hz1 hk1 hvm ht
          obtain ⟨hP, hD⟩ := hJ
          generalize H1 = H at hP hS ⊢
          try dsimp only at hw
          refine k_topi (v := (-15)) hw ?_
          obtain ⟨hP9, hD9⟩ := k_c2 (wc := [(kX11 hx aLa aPa aGe aFl aTr aBe aLu aLo vSf vSm vCo vSh xs xl 5), (kAQ vSh cQ 4 (fSh s0 s1 s2 s3)), (kX8 s0 i0 (sLo 0) (sFo 0) (sSi 0)), (kAI i0 cI 60 gq0), (kX8 s1 i1 (sLo 1) (sFo 1) (sSi 1)), (kAI i1 cI 60 gq1), (kX8 s2 i2 (sLo 2) (sFo 2) (sSi 2)), (kAI i2 cI 60 gq2), (kX8 s3 i3 (sLo 3) (sFo 3) (sSi 3)), (kAI i3 cI 60 gq3)]) hP hD [9, 8, 0, 1, 2, 3, 4, 5, 6, 7] (by decide +kernel) rfl
          exact W.iret (v := (-15)) hx₀ hb hr (fun t₀ ht hW => ⟨⟨(-15), (k_fn [(5 : Int32)], k_fa [gq0, gq1, gq2, gq3, sLo, sFo, sSi], k_fl [], k_fL [], k_fp []), rfl, ⟨(show ((-15) : Int32) = if 0 ≤ (0 : Int32) ∧ (0 : Int32) ≤ 3 ∧ 0 ≤ fm ∧ fm ≤ 2 ∧ nn ≤ 60 then (if nn < 0 then -15 else nn) else -2 from (((if_pos (show nn < 0 from (Int32.not_le.mp c_6))).symm).trans (if_pos (show 0 ≤ (0 : Int32) ∧ (0 : Int32) ≤ 3 ∧ 0 ≤ fm ∧ fm ≤ 2 ∧ nn ≤ 60 from ⟨(by decide), (by decide), c_4.1, c_4.2, c_5⟩)).symm)), (if_neg (show ¬ (0 ≤ (0 : Int32) ∧ (0 : Int32) ≤ 3 ∧ 0 ≤ fm ∧ fm ≤ 2 ∧ nn ≤ 60 ∧ ¬ nn < 0) from (fun z => (fun z => z (Int32.not_le.mp c_6)) z.2.2.2.2.2))).symm, (if_neg (show ¬ (0 ≤ (0 : Int32) ∧ (0 : Int32) ≤ 3 ∧ 0 ≤ fm ∧ fm ≤ 2 ∧ nn ≤ 60 ∧ ¬ nn < 0) from (fun z => (fun z => z (Int32.not_le.mp c_6)) z.2.2.2.2.2))).symm, (if_neg (show ¬ (0 ≤ (0 : Int32) ∧ (0 : Int32) ≤ 3 ∧ 0 ≤ fm ∧ fm ≤ 2 ∧ nn ≤ 60 ∧ ¬ nn < 0) from (fun z => (fun z => z (Int32.not_le.mp c_6)) z.2.2.2.2.2))).symm, kFd_15.symm, (k_sh_n (show ¬ ((0 ≤ (0 : Int32) ∧ (0 : Int32) ≤ 3 ∧ 0 ≤ fm ∧ fm ≤ 2 ∧ nn ≤ 60 ∧ ¬ nn < 0) ∧ (0 : Int32) = 0) from (fun z => (fun z => (fun z => z (Int32.not_le.mp c_6)) z.2.2.2.2.2) z.1))), (k_sh_n (show ¬ ((0 ≤ (0 : Int32) ∧ (0 : Int32) ≤ 3 ∧ 0 ≤ fm ∧ fm ≤ 2 ∧ nn ≤ 60 ∧ ¬ nn < 0) ∧ (0 : Int32) = 1) from (fun z => (fun z => (fun z => z (Int32.not_le.mp c_6)) z.2.2.2.2.2) z.1))), (k_sh_n (show ¬ ((0 ≤ (0 : Int32) ∧ (0 : Int32) ≤ 3 ∧ 0 ≤ fm ∧ fm ≤ 2 ∧ nn ≤ 60 ∧ ¬ nn < 0) ∧ (0 : Int32) = 2) from (fun z => (fun z => (fun z => z (Int32.not_le.mp c_6)) z.2.2.2.2.2) z.1))), (k_sh_n (show ¬ ((0 ≤ (0 : Int32) ∧ (0 : Int32) ≤ 3 ∧ 0 ≤ fm ∧ fm ≤ 2 ∧ nn ≤ 60 ∧ ¬ nn < 0) ∧ (0 : Int32) = 3) from (fun z => (fun z => (fun z => z (Int32.not_le.mp c_6)) z.2.2.2.2.2) z.1)))⟩, by rw [ht]; exact hP9, va_K.moved hW.alike hK, hD9⟩, hS.F ht⟩) hS.2.2 dX11_sheet_37
      · refine lv_bipush (v := (-2)) hx₀ hb dX11_sheet_25 (by decide +kernel) ?_
        obtain ⟨hP9, hD9⟩ := k_c2 (wc := [(kX11 hx aLa aPa aGe aFl aTr aBe aLu aLo vSf vSm vCo vSh xs xl xf), (kAQ vSh cQ 4 (fSh s0 s1 s2 s3)), (kX8 s0 i0 (sLo 0) (sFo 0) (sSi 0)), (kAI i0 cI 60 gq0), (kX8 s1 i1 (sLo 1) (sFo 1) (sSi 1)), (kAI i1 cI 60 gq1), (kX8 s2 i2 (sLo 2) (sFo 2) (sSi 2)), (kAI i2 cI 60 gq2), (kX8 s3 i3 (sLo 3) (sFo 3) (sSi 3)), (kAI i3 cI 60 gq3)]) hP hD [8, 9, 0, 1, 2, 3, 4, 5, 6, 7] (by decide +kernel) rfl
        exact W.iret (v := (-2)) hx₀ hb hr (fun t₀ ht hW => ⟨⟨(-2), (k_fn [xf], k_fa [gq0, gq1, gq2, gq3, sLo, sFo, sSi], k_fl [], k_fL [], k_fp []), rfl, ⟨(show ((-2) : Int32) = if 0 ≤ (0 : Int32) ∧ (0 : Int32) ≤ 3 ∧ 0 ≤ fm ∧ fm ≤ 2 ∧ nn ≤ 60 then (if nn < 0 then -15 else nn) else -2 from (if_neg (show ¬ (0 ≤ (0 : Int32) ∧ (0 : Int32) ≤ 3 ∧ 0 ≤ fm ∧ fm ≤ 2 ∧ nn ≤ 60) from (fun z => c_5 z.2.2.2.2))).symm), (if_neg (show ¬ (0 ≤ (0 : Int32) ∧ (0 : Int32) ≤ 3 ∧ 0 ≤ fm ∧ fm ≤ 2 ∧ nn ≤ 60 ∧ ¬ nn < 0) from (fun z => c_5 z.2.2.2.2.1))).symm, (if_neg (show ¬ (0 ≤ (0 : Int32) ∧ (0 : Int32) ≤ 3 ∧ 0 ≤ fm ∧ fm ≤ 2 ∧ nn ≤ 60 ∧ ¬ nn < 0) from (fun z => c_5 z.2.2.2.2.1))).symm, (if_neg (show ¬ (0 ≤ (0 : Int32) ∧ (0 : Int32) ≤ 3 ∧ 0 ≤ fm ∧ fm ≤ 2 ∧ nn ≤ 60 ∧ ¬ nn < 0) from (fun z => c_5 z.2.2.2.2.1))).symm, (kFd_ge (by decide)).symm, (k_sh_n (show ¬ ((0 ≤ (0 : Int32) ∧ (0 : Int32) ≤ 3 ∧ 0 ≤ fm ∧ fm ≤ 2 ∧ nn ≤ 60 ∧ ¬ nn < 0) ∧ (0 : Int32) = 0) from (fun z => (fun z => c_5 z.2.2.2.2.1) z.1))), (k_sh_n (show ¬ ((0 ≤ (0 : Int32) ∧ (0 : Int32) ≤ 3 ∧ 0 ≤ fm ∧ fm ≤ 2 ∧ nn ≤ 60 ∧ ¬ nn < 0) ∧ (0 : Int32) = 1) from (fun z => (fun z => c_5 z.2.2.2.2.1) z.1))), (k_sh_n (show ¬ ((0 ≤ (0 : Int32) ∧ (0 : Int32) ≤ 3 ∧ 0 ≤ fm ∧ fm ≤ 2 ∧ nn ≤ 60 ∧ ¬ nn < 0) ∧ (0 : Int32) = 2) from (fun z => (fun z => c_5 z.2.2.2.2.1) z.1))), (k_sh_n (show ¬ ((0 ≤ (0 : Int32) ∧ (0 : Int32) ≤ 3 ∧ 0 ≤ fm ∧ fm ≤ 2 ∧ nn ≤ 60 ∧ ¬ nn < 0) ∧ (0 : Int32) = 3) from (fun z => (fun z => c_5 z.2.2.2.2.1) z.1)))⟩, by rw [ht]; exact hP9, va_K.moved hW.alike hK, hD9⟩, hS.F ht⟩) hS.2.2 dX11_sheet_27
    rw [if_neg c_4] at hw
    refine k_topi (v := 0) hw ?_
    refine lv_if_eq (tgt := 25) hx₀ hb dX11_sheet_16 (by decide) (fun _ => ?_) (fun c9 => absurd (by decide +kernel) c9)
    refine lv_bipush (v := (-2)) hx₀ hb dX11_sheet_25 (by decide +kernel) ?_
    obtain ⟨hP9, hD9⟩ := k_c2 (wc := [(kX11 hx aLa aPa aGe aFl aTr aBe aLu aLo vSf vSm vCo vSh xs xl xf), (kAQ vSh cQ 4 (fSh s0 s1 s2 s3)), (kX8 s0 i0 (sLo 0) (sFo 0) (sSi 0)), (kAI i0 cI 60 gq0), (kX8 s1 i1 (sLo 1) (sFo 1) (sSi 1)), (kAI i1 cI 60 gq1), (kX8 s2 i2 (sLo 2) (sFo 2) (sSi 2)), (kAI i2 cI 60 gq2), (kX8 s3 i3 (sLo 3) (sFo 3) (sSi 3)), (kAI i3 cI 60 gq3)]) hP hD [8, 9, 0, 1, 2, 3, 4, 5, 6, 7] (by decide +kernel) rfl
    exact W.iret (v := (-2)) hx₀ hb hr (fun t₀ ht hW => ⟨⟨(-2), (k_fn [xf], k_fa [gq0, gq1, gq2, gq3, sLo, sFo, sSi], k_fl [], k_fL [], k_fp []), rfl, ⟨(show ((-2) : Int32) = if 0 ≤ (0 : Int32) ∧ (0 : Int32) ≤ 3 ∧ 0 ≤ fm ∧ fm ≤ 2 ∧ nn ≤ 60 then (if nn < 0 then -15 else nn) else -2 from (if_neg (show ¬ (0 ≤ (0 : Int32) ∧ (0 : Int32) ≤ 3 ∧ 0 ≤ fm ∧ fm ≤ 2 ∧ nn ≤ 60) from (fun z => c_4 (And.intro z.2.2.1 z.2.2.2.1)))).symm), (if_neg (show ¬ (0 ≤ (0 : Int32) ∧ (0 : Int32) ≤ 3 ∧ 0 ≤ fm ∧ fm ≤ 2 ∧ nn ≤ 60 ∧ ¬ nn < 0) from (fun z => c_4 (And.intro z.2.2.1 z.2.2.2.1)))).symm, (if_neg (show ¬ (0 ≤ (0 : Int32) ∧ (0 : Int32) ≤ 3 ∧ 0 ≤ fm ∧ fm ≤ 2 ∧ nn ≤ 60 ∧ ¬ nn < 0) from (fun z => c_4 (And.intro z.2.2.1 z.2.2.2.1)))).symm, (if_neg (show ¬ (0 ≤ (0 : Int32) ∧ (0 : Int32) ≤ 3 ∧ 0 ≤ fm ∧ fm ≤ 2 ∧ nn ≤ 60 ∧ ¬ nn < 0) from (fun z => c_4 (And.intro z.2.2.1 z.2.2.2.1)))).symm, (kFd_ge (by decide)).symm, (k_sh_n (show ¬ ((0 ≤ (0 : Int32) ∧ (0 : Int32) ≤ 3 ∧ 0 ≤ fm ∧ fm ≤ 2 ∧ nn ≤ 60 ∧ ¬ nn < 0) ∧ (0 : Int32) = 0) from (fun z => (fun z => c_4 (And.intro z.2.2.1 z.2.2.2.1)) z.1))), (k_sh_n (show ¬ ((0 ≤ (0 : Int32) ∧ (0 : Int32) ≤ 3 ∧ 0 ≤ fm ∧ fm ≤ 2 ∧ nn ≤ 60 ∧ ¬ nn < 0) ∧ (0 : Int32) = 1) from (fun z => (fun z => c_4 (And.intro z.2.2.1 z.2.2.2.1)) z.1))), (k_sh_n (show ¬ ((0 ≤ (0 : Int32) ∧ (0 : Int32) ≤ 3 ∧ 0 ≤ fm ∧ fm ≤ 2 ∧ nn ≤ 60 ∧ ¬ nn < 0) ∧ (0 : Int32) = 2) from (fun z => (fun z => c_4 (And.intro z.2.2.1 z.2.2.2.1)) z.1))), (k_sh_n (show ¬ ((0 ≤ (0 : Int32) ∧ (0 : Int32) ≤ 3 ∧ 0 ≤ fm ∧ fm ≤ 2 ∧ nn ≤ 60 ∧ ¬ nn < 0) ∧ (0 : Int32) = 3) from (fun z => (fun z => c_4 (And.intro z.2.2.1 z.2.2.2.1)) z.1)))⟩, by rw [ht]; exact hP9, va_K.moved hW.alike hK, hD9⟩, hS.F ht⟩) hS.2.2 dX11_sheet_27
  rw [if_neg c_2] at hw
  by_cases c_16 : ss = 1
  · rw [if_pos c_16] at hw
    subst hw
    refine W.eq (g2 := F0 m₀ 5 ls [.ref s1]) rfl ?_
    subst c_16
    refine lv_astore (lv' := [(4, .ref s1), (0, .ref hx), (1, .int 1), (2, .int fm), (3, .int nn)]) hx₀ hb dX11_sheet_5 hl (by decide) rfl (fun ls hl => ?_)
    refine lv_aload hx₀ hb dX11_sheet_7 (lv_at hl 0 rfl) ?_
    refine lv_ifnull hx₀ hb dX11_sheet_9 ?_
    refine lv_iload_n hx₀ hb dX11_sheet_12 rfl (lv_at hl 3 rfl) ?_
    obtain ⟨hPc, hDc, hFc, hC⟩ := k_cw (wc := []) hP hD hS hA [] (by decide +kernel) rfl
    refine va_calli (va_runS (As := [.int fm]) (rest := []) ⟨hx₀, hb, hml, hown, hts⟩ (j_isForm l dC dI cI cJ cQ H.size fm) (va_cwS 1 hts (kGS wd_864 wd_862 wd_863 wd_2) rfl rfl rfl (by decide +kernel) ⟨Nat.le_of_ble_eq_true rfl, Nat.le_of_ble_eq_true rfl⟩) (k_preS hK hPc hDc hN) rfl rfl hl.1 rfl (lv_room (Nat.le_of_ble_eq_true rfl)) dX11_sheet_13 ⟨by decide +kernel, by decide +kernel⟩) hS (fun q _ h => hFc q h) hFc (fun r_17 u₀ t₀ H1 locs ht hvm hw hB hz1 hk1 hS => ?_)
    obtain ⟨hP1, hK1, hD1⟩ := hB
    rw [ht] at hP1
    have hJ := k_jn (wr := [(kX8 s0 i0 (sLo 0) (sFo 0) (sSi 0)), (kAI i0 cI 60 gq0), (kX8 s1 i1 (sLo 1) (sFo 1) (sSi 1)), (kAI i1 cI 60 gq1), (kX8 s2 i2 (sLo 2) (sFo 2) (sSi 2)), (kAI i2 cI 60 gq2), (kX8 s3 i3 (sLo 3) (sFo 3) (sSi 3)), (kAI i3 cI 60 gq3), (kX11 hx aLa aPa aGe aFl aTr aBe aLu aLo vSf vSm vCo vSh xs xl xf), (kAQ vSh cQ 4 (fSh s0 s1 s2 s3))]) (wt := [(kX8 s0 i0 (sLo 0) (sFo 0) (sSi 0)), (kAI i0 cI 60 gq0), (kX8 s1 i1 (sLo 1) (sFo 1) (sSi 1)), (kAI i1 cI 60 gq1), (kX8 s2 i2 (sLo 2) (sFo 2) (sSi 2)), (kAI i2 cI 60 gq2), (kX8 s3 i3 (sLo 3) (sFo 3) (sSi 3)), (kAI i3 cI 60 gq3), (kX11 hx aLa aPa aGe aFl aTr aBe aLu aLo vSf vSm vCo vSh xs xl xf), (kAQ vSh cQ 4 (fSh s0 s1 s2 s3))]) hP hD hC [0, 1, 2, 3, 4, 5, 6, 7, 8, 9] rfl (by decide +kernel) (by decide +kernel) hk1 hFc hP1 hD1 rfl
    clear hP hD hPc hDc hFc hC hP1 hD1 hK1 hz1 hk1 hvm ht
    obtain ⟨hP, hD⟩ := hJ
    generalize H1 = H at hP hS ⊢
    try dsimp only at hw
    by_cases c_18 : 0 ≤ fm ∧ fm ≤ 2
    · rw [if_pos c_18] at hw
      refine k_topi (v := 1) hw ?_
      refine lv_if_eq (tgt := 25) hx₀ hb dX11_sheet_16 (by decide) (fun c9 => absurd c9 (by decide +kernel)) (fun _ => ?_)
      refine lv_iload_n hx₀ hb dX11_sheet_19 rfl (lv_at hl 4 rfl) ?_
      refine lv_bipush (v := 60) hx₀ hb dX11_sheet_20 (by decide +kernel) ?_
      refine lv_icmp_le (tgt := 28) hx₀ hb dX11_sheet_22 (by decide) (fun c_19 => ?_) (fun c_19 => ?_)
      · refine lv_iload_n hx₀ hb dX11_sheet_28 rfl (lv_at hl 4 rfl) ?_
        refine lv_if_ge (tgt := 38) hx₀ hb dX11_sheet_29 (by decide) (fun c_20 => ?_) (fun c_20 => ?_)
        · refine lv_aload hx₀ hb dX11_sheet_38 (lv_at hl 0 rfl) ?_
          refine lv_iload_n hx₀ hb dX11_sheet_40 rfl (lv_at hl 3 rfl) ?_
          refine lv_iload_n hx₀ hb dX11_sheet_41 rfl (lv_at hl 4 rfl) ?_
          obtain ⟨hPc, hDc, hFc, hC⟩ := k_cw (wc := [(kX8 s1 i1 (sLo 1) (sFo 1) (sSi 1)), (kAI i1 cI 60 gq1)]) hP hD hS hA [2, 3] (by decide +kernel) rfl
          refine va_callv (va_runV (As := [.int fm, .int nn]) (rest := []) ⟨hx₀, hb, hml, hown, hts⟩ (j_renew l dC dI cI cJ cQ H.size s1 fm nn i1 (sLo 1) (sFo 1) (sSi 1) gq1 (show 0 ≤ nn ∧ nn ≤ 60 from ⟨c_20, c_19⟩)) (cwV 2 hts (kGV wd_868 wd_865 wd_866 wd_867 wd_51) rfl rfl rfl (by decide +kernel) ⟨Nat.le_of_ble_eq_true rfl, Nat.le_of_ble_eq_true rfl⟩) (k_preV8 (q0 := 0) hK hPc hDc hN rfl) rfl rfl hl.1 rfl (lv_room (Nat.le_of_ble_eq_true rfl)) dX11_sheet_42 ⟨by decide +kernel, by decide +kernel⟩) hS (fun q _ h => hFc q h) hFc (fun u₀ t₀ H1 locs ht hvm hw hB hz1 hk1 hS => ?_)
          obtain ⟨g_22, ga_23, gl_24, gb_25, gp_26⟩ := u₀
          obtain ⟨hP1, hK1, hD1⟩ := hB
          rw [ht] at hP1
          have hJ := k_jn (wr := [(kX8 s0 i0 (sLo 0) (sFo 0) (sSi 0)), (kAI i0 cI 60 gq0), (kX8 s2 i2 (sLo 2) (sFo 2) (sSi 2)), (kAI i2 cI 60 gq2), (kX8 s3 i3 (sLo 3) (sFo 3) (sSi 3)), (kAI i3 cI 60 gq3), (kX11 hx aLa aPa aGe aFl aTr aBe aLu aLo vSf vSm vCo vSh xs xl xf), (kAQ vSh cQ 4 (fSh s0 s1 s2 s3))]) (wt := [(kX8 s0 i0 (sLo 0) (sFo 0) (sSi 0)), (kAI i0 cI 60 gq0), (kX8 s2 i2 (sLo 2) (sFo 2) (sSi 2)), (kAI i2 cI 60 gq2), (kX8 s3 i3 (sLo 3) (sFo 3) (sSi 3)), (kAI i3 cI 60 gq3), (kX11 hx aLa aPa aGe aFl aTr aBe aLu aLo vSf vSm vCo vSh xs xl xf), (kAQ vSh cQ 4 (fSh s0 s1 s2 s3)), (kX8 s1 i1 0 fm (g_22 0)), (kAI i1 cI 60 (ga_23 0))]) hP hD hC [0, 1, 4, 5, 6, 7, 8, 9] rfl (by decide +kernel) (by decide +kernel) hk1 hFc hP1 hD1 rfl
          clear hP hD hPc hDc hFc hC hP1 hD1 hK1 hz1 hk1 hvm ht
          obtain ⟨hP, hD⟩ := hJ
          generalize H1 = H at hP hS ⊢
          try dsimp only at hw
          obtain ⟨c_27, c_28⟩ := hw
          refine lv_iload_n hx₀ hb dX11_sheet_45 rfl (lv_at hl 4 rfl) ?_
          obtain ⟨hP9, hD9⟩ := k_c2 (wc := [(kX11 hx aLa aPa aGe aFl aTr aBe aLu aLo vSf vSm vCo vSh xs xl xf), (kAQ vSh cQ 4 (fSh s0 s1 s2 s3)), (kX8 s0 i0 (sLo 0) (sFo 0) (sSi 0)), (kAI i0 cI 60 gq0), (kX8 s1 i1 0 fm (g_22 0)), (kAI i1 cI 60 (ga_23 0)), (kX8 s2 i2 (sLo 2) (sFo 2) (sSi 2)), (kAI i2 cI 60 gq2), (kX8 s3 i3 (sLo 3) (sFo 3) (sSi 3)), (kAI i3 cI 60 gq3)]) hP hD [6, 7, 0, 1, 8, 9, 2, 3, 4, 5] (by decide +kernel) rfl
          exact W.iret (v := nn) hx₀ hb hr (fun t₀ ht hW => ⟨⟨nn, (k_fn [xf], k_fa [gq0, ga_23 0, gq2, gq3, upd sLo (1 : Int32).toNatClampNeg (0 : Int32), upd sFo (1 : Int32).toNatClampNeg fm, upd sSi (1 : Int32).toNatClampNeg (g_22 0)], k_fl [], k_fL [], k_fp []), rfl, ⟨(show (nn : Int32) = if 0 ≤ (1 : Int32) ∧ (1 : Int32) ≤ 3 ∧ 0 ≤ fm ∧ fm ≤ 2 ∧ nn ≤ 60 then (if nn < 0 then -15 else nn) else -2 from (((if_neg (show ¬ (nn < 0) from (Int32.not_lt.mpr c_20))).symm).trans (if_pos (show 0 ≤ (1 : Int32) ∧ (1 : Int32) ≤ 3 ∧ 0 ≤ fm ∧ fm ≤ 2 ∧ nn ≤ 60 from ⟨(by decide), (by decide), c_18.1, c_18.2, c_19⟩)).symm)), (if_pos (show 0 ≤ (1 : Int32) ∧ (1 : Int32) ≤ 3 ∧ 0 ≤ fm ∧ fm ≤ 2 ∧ nn ≤ 60 ∧ ¬ nn < 0 from ⟨(by decide), (by decide), c_18.1, c_18.2, c_19, (Int32.not_lt.mpr c_20)⟩)).symm, (if_pos (show 0 ≤ (1 : Int32) ∧ (1 : Int32) ≤ 3 ∧ 0 ≤ fm ∧ fm ≤ 2 ∧ nn ≤ 60 ∧ ¬ nn < 0 from ⟨(by decide), (by decide), c_18.1, c_18.2, c_19, (Int32.not_lt.mpr c_20)⟩)).symm, (by rewrite [c_27]; exact (if_pos (show 0 ≤ (1 : Int32) ∧ (1 : Int32) ≤ 3 ∧ 0 ≤ fm ∧ fm ≤ 2 ∧ nn ≤ 60 ∧ ¬ nn < 0 from ⟨(by decide), (by decide), c_18.1, c_18.2, c_19, (Int32.not_lt.mpr c_20)⟩)).symm), (kFd_ge (lf_j_sheet_1 nn (g_22 0) c_19 c_20 c_27)).symm, (k_sh_n (show ¬ ((0 ≤ (1 : Int32) ∧ (1 : Int32) ≤ 3 ∧ 0 ≤ fm ∧ fm ≤ 2 ∧ nn ≤ 60 ∧ ¬ nn < 0) ∧ (1 : Int32) = 0) from (fun z => (fun z => absurd z (by decide)) z.2))), (k_sh_y (show (0 ≤ (1 : Int32) ∧ (1 : Int32) ≤ 3 ∧ 0 ≤ fm ∧ fm ≤ 2 ∧ nn ≤ 60 ∧ ¬ nn < 0) ∧ (1 : Int32) = 1 from ⟨⟨(by decide), (by decide), c_18.1, c_18.2, c_19, (Int32.not_lt.mpr c_20)⟩, rfl⟩) c_28), (k_sh_n (show ¬ ((0 ≤ (1 : Int32) ∧ (1 : Int32) ≤ 3 ∧ 0 ≤ fm ∧ fm ≤ 2 ∧ nn ≤ 60 ∧ ¬ nn < 0) ∧ (1 : Int32) = 2) from (fun z => (fun z => absurd z (by decide)) z.2))), (k_sh_n (show ¬ ((0 ≤ (1 : Int32) ∧ (1 : Int32) ≤ 3 ∧ 0 ≤ fm ∧ fm ≤ 2 ∧ nn ≤ 60 ∧ ¬ nn < 0) ∧ (1 : Int32) = 3) from (fun z => (fun z => absurd z (by decide)) z.2)))⟩, by rw [ht]; exact hP9, va_K.moved hW.alike hK, hD9⟩, hS.F ht⟩) hS.2.2 dX11_sheet_46
        · refine lv_aload_n hx₀ hb dX11_sheet_32 rfl (lv_at hl 1 rfl) ?_
          refine lv_iconst (v := 5) hx₀ hb dX11_sheet_33 (by decide +kernel) ?_
          obtain ⟨hPc, hDc, hFc, hC⟩ := k_cw (wc := [(kX11 hx aLa aPa aGe aFl aTr aBe aLu aLo vSf vSm vCo vSh xs xl xf)]) hP hD hS hA [8] (by decide +kernel) rfl
          refine va_calli (va_runV (As := [.int 5]) (rest := []) ⟨hx₀, hb, hml, hown, hts⟩ (j_found5 l dC dI cI cJ cQ H.size hx aLa aPa aGe aFl aTr aBe aLu aLo vSf vSm vCo vSh xs xl xf) (cwV 1 hts (kGV wd_387 wd_384 wd_385 wd_386 wd_2) rfl rfl rfl (by decide +kernel) ⟨Nat.le_of_ble_eq_true rfl, Nat.le_of_ble_eq_true rfl⟩) (k_preV10 (q0 := 0) hK hPc hDc hN rfl) rfl rfl hl.1 rfl (lv_room (Nat.le_of_ble_eq_true rfl)) dX11_sheet_34 ⟨by decide +kernel, by decide +kernel⟩) hS (fun q _ h => hFc q h) hFc (fun r_29 u₀ t₀ H1 locs ht hvm hw hB hz1 hk1 hS => ?_)
          obtain ⟨hP1, hK1, hD1⟩ := hB
          rw [ht] at hP1
          have hJ := k_jn (wr := [(kX8 s0 i0 (sLo 0) (sFo 0) (sSi 0)), (kAI i0 cI 60 gq0), (kX8 s1 i1 (sLo 1) (sFo 1) (sSi 1)), (kAI i1 cI 60 gq1), (kX8 s2 i2 (sLo 2) (sFo 2) (sSi 2)), (kAI i2 cI 60 gq2), (kX8 s3 i3 (sLo 3) (sFo 3) (sSi 3)), (kAI i3 cI 60 gq3), (kAQ vSh cQ 4 (fSh s0 s1 s2 s3))]) (wt := [(kX8 s0 i0 (sLo 0) (sFo 0) (sSi 0)), (kAI i0 cI 60 gq0), (kX8 s1 i1 (sLo 1) (sFo 1) (sSi 1)), (kAI i1 cI 60 gq1), (kX8 s2 i2 (sLo 2) (sFo 2) (sSi 2)), (kAI i2 cI 60 gq2), (kX8 s3 i3 (sLo 3) (sFo 3) (sSi 3)), (kAI i3 cI 60 gq3), (kAQ vSh cQ 4 (fSh s0 s1 s2 s3)), (kX11 hx aLa aPa aGe aFl aTr aBe aLu aLo vSf vSm vCo vSh xs xl 5)]) hP hD hC [0, 1, 2, 3, 4, 5, 6, 7, 9] rfl (by decide +kernel) (by decide +kernel) hk1 hFc hP1 hD1 rfl
          clear hP hD hPc hDc hFc hC hP1 hD1 hK1 hz1 hk1 hvm ht
          obtain ⟨hP, hD⟩ := hJ
          generalize H1 = H at hP hS ⊢
          try dsimp only at hw
          refine k_topi (v := (-15)) hw ?_
          obtain ⟨hP9, hD9⟩ := k_c2 (wc := [(kX11 hx aLa aPa aGe aFl aTr aBe aLu aLo vSf vSm vCo vSh xs xl 5), (kAQ vSh cQ 4 (fSh s0 s1 s2 s3)), (kX8 s0 i0 (sLo 0) (sFo 0) (sSi 0)), (kAI i0 cI 60 gq0), (kX8 s1 i1 (sLo 1) (sFo 1) (sSi 1)), (kAI i1 cI 60 gq1), (kX8 s2 i2 (sLo 2) (sFo 2) (sSi 2)), (kAI i2 cI 60 gq2), (kX8 s3 i3 (sLo 3) (sFo 3) (sSi 3)), (kAI i3 cI 60 gq3)]) hP hD [9, 8, 0, 1, 2, 3, 4, 5, 6, 7] (by decide +kernel) rfl
          exact W.iret (v := (-15)) hx₀ hb hr (fun t₀ ht hW => ⟨⟨(-15), (k_fn [(5 : Int32)], k_fa [gq0, gq1, gq2, gq3, sLo, sFo, sSi], k_fl [], k_fL [], k_fp []), rfl, ⟨(show ((-15) : Int32) = if 0 ≤ (1 : Int32) ∧ (1 : Int32) ≤ 3 ∧ 0 ≤ fm ∧ fm ≤ 2 ∧ nn ≤ 60 then (if nn < 0 then -15 else nn) else -2 from (((if_pos (show nn < 0 from (Int32.not_le.mp c_20))).symm).trans (if_pos (show 0 ≤ (1 : Int32) ∧ (1 : Int32) ≤ 3 ∧ 0 ≤ fm ∧ fm ≤ 2 ∧ nn ≤ 60 from ⟨(by decide), (by decide), c_18.1, c_18.2, c_19⟩)).symm)), (if_neg (show ¬ (0 ≤ (1 : Int32) ∧ (1 : Int32) ≤ 3 ∧ 0 ≤ fm ∧ fm ≤ 2 ∧ nn ≤ 60 ∧ ¬ nn < 0) from (fun z => (fun z => z (Int32.not_le.mp c_20)) z.2.2.2.2.2))).symm, (if_neg (show ¬ (0 ≤ (1 : Int32) ∧ (1 : Int32) ≤ 3 ∧ 0 ≤ fm ∧ fm ≤ 2 ∧ nn ≤ 60 ∧ ¬ nn < 0) from (fun z => (fun z => z (Int32.not_le.mp c_20)) z.2.2.2.2.2))).symm, (if_neg (show ¬ (0 ≤ (1 : Int32) ∧ (1 : Int32) ≤ 3 ∧ 0 ≤ fm ∧ fm ≤ 2 ∧ nn ≤ 60 ∧ ¬ nn < 0) from (fun z => (fun z => z (Int32.not_le.mp c_20)) z.2.2.2.2.2))).symm, kFd_15.symm, (k_sh_n (show ¬ ((0 ≤ (1 : Int32) ∧ (1 : Int32) ≤ 3 ∧ 0 ≤ fm ∧ fm ≤ 2 ∧ nn ≤ 60 ∧ ¬ nn < 0) ∧ (1 : Int32) = 0) from (fun z => (fun z => (fun z => z (Int32.not_le.mp c_20)) z.2.2.2.2.2) z.1))), (k_sh_n (show ¬ ((0 ≤ (1 : Int32) ∧ (1 : Int32) ≤ 3 ∧ 0 ≤ fm ∧ fm ≤ 2 ∧ nn ≤ 60 ∧ ¬ nn < 0) ∧ (1 : Int32) = 1) from (fun z => (fun z => (fun z => z (Int32.not_le.mp c_20)) z.2.2.2.2.2) z.1))), (k_sh_n (show ¬ ((0 ≤ (1 : Int32) ∧ (1 : Int32) ≤ 3 ∧ 0 ≤ fm ∧ fm ≤ 2 ∧ nn ≤ 60 ∧ ¬ nn < 0) ∧ (1 : Int32) = 2) from (fun z => (fun z => (fun z => z (Int32.not_le.mp c_20)) z.2.2.2.2.2) z.1))), (k_sh_n (show ¬ ((0 ≤ (1 : Int32) ∧ (1 : Int32) ≤ 3 ∧ 0 ≤ fm ∧ fm ≤ 2 ∧ nn ≤ 60 ∧ ¬ nn < 0) ∧ (1 : Int32) = 3) from (fun z => (fun z => (fun z => z (Int32.not_le.mp c_20)) z.2.2.2.2.2) z.1)))⟩, by rw [ht]; exact hP9, va_K.moved hW.alike hK, hD9⟩, hS.F ht⟩) hS.2.2 dX11_sheet_37
      · refine lv_bipush (v := (-2)) hx₀ hb dX11_sheet_25 (by decide +kernel) ?_
        obtain ⟨hP9, hD9⟩ := k_c2 (wc := [(kX11 hx aLa aPa aGe aFl aTr aBe aLu aLo vSf vSm vCo vSh xs xl xf), (kAQ vSh cQ 4 (fSh s0 s1 s2 s3)), (kX8 s0 i0 (sLo 0) (sFo 0) (sSi 0)), (kAI i0 cI 60 gq0), (kX8 s1 i1 (sLo 1) (sFo 1) (sSi 1)), (kAI i1 cI 60 gq1), (kX8 s2 i2 (sLo 2) (sFo 2) (sSi 2)), (kAI i2 cI 60 gq2), (kX8 s3 i3 (sLo 3) (sFo 3) (sSi 3)), (kAI i3 cI 60 gq3)]) hP hD [8, 9, 0, 1, 2, 3, 4, 5, 6, 7] (by decide +kernel) rfl
        exact W.iret (v := (-2)) hx₀ hb hr (fun t₀ ht hW => ⟨⟨(-2), (k_fn [xf], k_fa [gq0, gq1, gq2, gq3, sLo, sFo, sSi], k_fl [], k_fL [], k_fp []), rfl, ⟨(show ((-2) : Int32) = if 0 ≤ (1 : Int32) ∧ (1 : Int32) ≤ 3 ∧ 0 ≤ fm ∧ fm ≤ 2 ∧ nn ≤ 60 then (if nn < 0 then -15 else nn) else -2 from (if_neg (show ¬ (0 ≤ (1 : Int32) ∧ (1 : Int32) ≤ 3 ∧ 0 ≤ fm ∧ fm ≤ 2 ∧ nn ≤ 60) from (fun z => c_19 z.2.2.2.2))).symm), (if_neg (show ¬ (0 ≤ (1 : Int32) ∧ (1 : Int32) ≤ 3 ∧ 0 ≤ fm ∧ fm ≤ 2 ∧ nn ≤ 60 ∧ ¬ nn < 0) from (fun z => c_19 z.2.2.2.2.1))).symm, (if_neg (show ¬ (0 ≤ (1 : Int32) ∧ (1 : Int32) ≤ 3 ∧ 0 ≤ fm ∧ fm ≤ 2 ∧ nn ≤ 60 ∧ ¬ nn < 0) from (fun z => c_19 z.2.2.2.2.1))).symm, (if_neg (show ¬ (0 ≤ (1 : Int32) ∧ (1 : Int32) ≤ 3 ∧ 0 ≤ fm ∧ fm ≤ 2 ∧ nn ≤ 60 ∧ ¬ nn < 0) from (fun z => c_19 z.2.2.2.2.1))).symm, (kFd_ge (by decide)).symm, (k_sh_n (show ¬ ((0 ≤ (1 : Int32) ∧ (1 : Int32) ≤ 3 ∧ 0 ≤ fm ∧ fm ≤ 2 ∧ nn ≤ 60 ∧ ¬ nn < 0) ∧ (1 : Int32) = 0) from (fun z => (fun z => c_19 z.2.2.2.2.1) z.1))), (k_sh_n (show ¬ ((0 ≤ (1 : Int32) ∧ (1 : Int32) ≤ 3 ∧ 0 ≤ fm ∧ fm ≤ 2 ∧ nn ≤ 60 ∧ ¬ nn < 0) ∧ (1 : Int32) = 1) from (fun z => (fun z => c_19 z.2.2.2.2.1) z.1))), (k_sh_n (show ¬ ((0 ≤ (1 : Int32) ∧ (1 : Int32) ≤ 3 ∧ 0 ≤ fm ∧ fm ≤ 2 ∧ nn ≤ 60 ∧ ¬ nn < 0) ∧ (1 : Int32) = 2) from (fun z => (fun z => c_19 z.2.2.2.2.1) z.1))), (k_sh_n (show ¬ ((0 ≤ (1 : Int32) ∧ (1 : Int32) ≤ 3 ∧ 0 ≤ fm ∧ fm ≤ 2 ∧ nn ≤ 60 ∧ ¬ nn < 0) ∧ (1 : Int32) = 3) from (fun z => (fun z => c_19 z.2.2.2.2.1) z.1)))⟩, by rw [ht]; exact hP9, va_K.moved hW.alike hK, hD9⟩, hS.F ht⟩) hS.2.2 dX11_sheet_27
    rw [if_neg c_18] at hw
    refine k_topi (v := 0) hw ?_
    refine lv_if_eq (tgt := 25) hx₀ hb dX11_sheet_16 (by decide) (fun _ => ?_) (fun c9 => absurd (by decide +kernel) c9)
    refine lv_bipush (v := (-2)) hx₀ hb dX11_sheet_25 (by decide +kernel) ?_
    obtain ⟨hP9, hD9⟩ := k_c2 (wc := [(kX11 hx aLa aPa aGe aFl aTr aBe aLu aLo vSf vSm vCo vSh xs xl xf), (kAQ vSh cQ 4 (fSh s0 s1 s2 s3)), (kX8 s0 i0 (sLo 0) (sFo 0) (sSi 0)), (kAI i0 cI 60 gq0), (kX8 s1 i1 (sLo 1) (sFo 1) (sSi 1)), (kAI i1 cI 60 gq1), (kX8 s2 i2 (sLo 2) (sFo 2) (sSi 2)), (kAI i2 cI 60 gq2), (kX8 s3 i3 (sLo 3) (sFo 3) (sSi 3)), (kAI i3 cI 60 gq3)]) hP hD [8, 9, 0, 1, 2, 3, 4, 5, 6, 7] (by decide +kernel) rfl
    exact W.iret (v := (-2)) hx₀ hb hr (fun t₀ ht hW => ⟨⟨(-2), (k_fn [xf], k_fa [gq0, gq1, gq2, gq3, sLo, sFo, sSi], k_fl [], k_fL [], k_fp []), rfl, ⟨(show ((-2) : Int32) = if 0 ≤ (1 : Int32) ∧ (1 : Int32) ≤ 3 ∧ 0 ≤ fm ∧ fm ≤ 2 ∧ nn ≤ 60 then (if nn < 0 then -15 else nn) else -2 from (if_neg (show ¬ (0 ≤ (1 : Int32) ∧ (1 : Int32) ≤ 3 ∧ 0 ≤ fm ∧ fm ≤ 2 ∧ nn ≤ 60) from (fun z => c_18 (And.intro z.2.2.1 z.2.2.2.1)))).symm), (if_neg (show ¬ (0 ≤ (1 : Int32) ∧ (1 : Int32) ≤ 3 ∧ 0 ≤ fm ∧ fm ≤ 2 ∧ nn ≤ 60 ∧ ¬ nn < 0) from (fun z => c_18 (And.intro z.2.2.1 z.2.2.2.1)))).symm, (if_neg (show ¬ (0 ≤ (1 : Int32) ∧ (1 : Int32) ≤ 3 ∧ 0 ≤ fm ∧ fm ≤ 2 ∧ nn ≤ 60 ∧ ¬ nn < 0) from (fun z => c_18 (And.intro z.2.2.1 z.2.2.2.1)))).symm, (if_neg (show ¬ (0 ≤ (1 : Int32) ∧ (1 : Int32) ≤ 3 ∧ 0 ≤ fm ∧ fm ≤ 2 ∧ nn ≤ 60 ∧ ¬ nn < 0) from (fun z => c_18 (And.intro z.2.2.1 z.2.2.2.1)))).symm, (kFd_ge (by decide)).symm, (k_sh_n (show ¬ ((0 ≤ (1 : Int32) ∧ (1 : Int32) ≤ 3 ∧ 0 ≤ fm ∧ fm ≤ 2 ∧ nn ≤ 60 ∧ ¬ nn < 0) ∧ (1 : Int32) = 0) from (fun z => (fun z => c_18 (And.intro z.2.2.1 z.2.2.2.1)) z.1))), (k_sh_n (show ¬ ((0 ≤ (1 : Int32) ∧ (1 : Int32) ≤ 3 ∧ 0 ≤ fm ∧ fm ≤ 2 ∧ nn ≤ 60 ∧ ¬ nn < 0) ∧ (1 : Int32) = 1) from (fun z => (fun z => c_18 (And.intro z.2.2.1 z.2.2.2.1)) z.1))), (k_sh_n (show ¬ ((0 ≤ (1 : Int32) ∧ (1 : Int32) ≤ 3 ∧ 0 ≤ fm ∧ fm ≤ 2 ∧ nn ≤ 60 ∧ ¬ nn < 0) ∧ (1 : Int32) = 2) from (fun z => (fun z => c_18 (And.intro z.2.2.1 z.2.2.2.1)) z.1))), (k_sh_n (show ¬ ((0 ≤ (1 : Int32) ∧ (1 : Int32) ≤ 3 ∧ 0 ≤ fm ∧ fm ≤ 2 ∧ nn ≤ 60 ∧ ¬ nn < 0) ∧ (1 : Int32) = 3) from (fun z => (fun z => c_18 (And.intro z.2.2.1 z.2.2.2.1)) z.1)))⟩, by rw [ht]; exact hP9, va_K.moved hW.alike hK, hD9⟩, hS.F ht⟩) hS.2.2 dX11_sheet_27
  rw [if_neg c_16] at hw
  by_cases c_30 : ss = 2
  · rw [if_pos c_30] at hw
    subst hw
    refine W.eq (g2 := F0 m₀ 5 ls [.ref s2]) rfl ?_
    subst c_30
    refine lv_astore (lv' := [(4, .ref s2), (0, .ref hx), (1, .int 2), (2, .int fm), (3, .int nn)]) hx₀ hb dX11_sheet_5 hl (by decide) rfl (fun ls hl => ?_)
    refine lv_aload hx₀ hb dX11_sheet_7 (lv_at hl 0 rfl) ?_
    refine lv_ifnull hx₀ hb dX11_sheet_9 ?_
    refine lv_iload_n hx₀ hb dX11_sheet_12 rfl (lv_at hl 3 rfl) ?_
    obtain ⟨hPc, hDc, hFc, hC⟩ := k_cw (wc := []) hP hD hS hA [] (by decide +kernel) rfl
    refine va_calli (va_runS (As := [.int fm]) (rest := []) ⟨hx₀, hb, hml, hown, hts⟩ (j_isForm l dC dI cI cJ cQ H.size fm) (va_cwS 1 hts (kGS wd_864 wd_862 wd_863 wd_2) rfl rfl rfl (by decide +kernel) ⟨Nat.le_of_ble_eq_true rfl, Nat.le_of_ble_eq_true rfl⟩) (k_preS hK hPc hDc hN) rfl rfl hl.1 rfl (lv_room (Nat.le_of_ble_eq_true rfl)) dX11_sheet_13 ⟨by decide +kernel, by decide +kernel⟩) hS (fun q _ h => hFc q h) hFc (fun r_31 u₀ t₀ H1 locs ht hvm hw hB hz1 hk1 hS => ?_)
    obtain ⟨hP1, hK1, hD1⟩ := hB
    rw [ht] at hP1
    have hJ := k_jn (wr := [(kX8 s0 i0 (sLo 0) (sFo 0) (sSi 0)), (kAI i0 cI 60 gq0), (kX8 s1 i1 (sLo 1) (sFo 1) (sSi 1)), (kAI i1 cI 60 gq1), (kX8 s2 i2 (sLo 2) (sFo 2) (sSi 2)), (kAI i2 cI 60 gq2), (kX8 s3 i3 (sLo 3) (sFo 3) (sSi 3)), (kAI i3 cI 60 gq3), (kX11 hx aLa aPa aGe aFl aTr aBe aLu aLo vSf vSm vCo vSh xs xl xf), (kAQ vSh cQ 4 (fSh s0 s1 s2 s3))]) (wt := [(kX8 s0 i0 (sLo 0) (sFo 0) (sSi 0)), (kAI i0 cI 60 gq0), (kX8 s1 i1 (sLo 1) (sFo 1) (sSi 1)), (kAI i1 cI 60 gq1), (kX8 s2 i2 (sLo 2) (sFo 2) (sSi 2)), (kAI i2 cI 60 gq2), (kX8 s3 i3 (sLo 3) (sFo 3) (sSi 3)), (kAI i3 cI 60 gq3), (kX11 hx aLa aPa aGe aFl aTr aBe aLu aLo vSf vSm vCo vSh xs xl xf), (kAQ vSh cQ 4 (fSh s0 s1 s2 s3))]) hP hD hC [0, 1, 2, 3, 4, 5, 6, 7, 8, 9] rfl (by decide +kernel) (by decide +kernel) hk1 hFc hP1 hD1 rfl
    clear hP hD hPc hDc hFc hC hP1 hD1 hK1 hz1 hk1 hvm ht
    obtain ⟨hP, hD⟩ := hJ
    generalize H1 = H at hP hS ⊢
    try dsimp only at hw
    by_cases c_32 : 0 ≤ fm ∧ fm ≤ 2
    · rw [if_pos c_32] at hw
      refine k_topi (v := 1) hw ?_
      refine lv_if_eq (tgt := 25) hx₀ hb dX11_sheet_16 (by decide) (fun c9 => absurd c9 (by decide +kernel)) (fun _ => ?_)
      refine lv_iload_n hx₀ hb dX11_sheet_19 rfl (lv_at hl 4 rfl) ?_
      refine lv_bipush (v := 60) hx₀ hb dX11_sheet_20 (by decide +kernel) ?_
      refine lv_icmp_le (tgt := 28) hx₀ hb dX11_sheet_22 (by decide) (fun c_33 => ?_) (fun c_33 => ?_)
      · refine lv_iload_n hx₀ hb dX11_sheet_28 rfl (lv_at hl 4 rfl) ?_
        refine lv_if_ge (tgt := 38) hx₀ hb dX11_sheet_29 (by decide) (fun c_34 => ?_) (fun c_34 => ?_)
        · refine lv_aload hx₀ hb dX11_sheet_38 (lv_at hl 0 rfl) ?_
          refine lv_iload_n hx₀ hb dX11_sheet_40 rfl (lv_at hl 3 rfl) ?_
          refine lv_iload_n hx₀ hb dX11_sheet_41 rfl (lv_at hl 4 rfl) ?_
          obtain ⟨hPc, hDc, hFc, hC⟩ := k_cw (wc := [(kX8 s2 i2 (sLo 2) (sFo 2) (sSi 2)), (kAI i2 cI 60 gq2)]) hP hD hS hA [4, 5] (by decide +kernel) rfl
          refine va_callv (va_runV (As := [.int fm, .int nn]) (rest := []) ⟨hx₀, hb, hml, hown, hts⟩ (j_renew l dC dI cI cJ cQ H.size s2 fm nn i2 (sLo 2) (sFo 2) (sSi 2) gq2 (show 0 ≤ nn ∧ nn ≤ 60 from ⟨c_34, c_33⟩)) (cwV 2 hts (kGV wd_868 wd_865 wd_866 wd_867 wd_51) rfl rfl rfl (by decide +kernel) ⟨Nat.le_of_ble_eq_true rfl, Nat.le_of_ble_eq_true rfl⟩) (k_preV8 (q0 := 0) hK hPc hDc hN rfl) rfl rfl hl.1 rfl (lv_room (Nat.le_of_ble_eq_true rfl)) dX11_sheet_42 ⟨by decide +kernel, by decide +kernel⟩) hS (fun q _ h => hFc q h) hFc (fun u₀ t₀ H1 locs ht hvm hw hB hz1 hk1 hS => ?_)
          obtain ⟨g_36, ga_37, gl_38, gb_39, gp_40⟩ := u₀
          obtain ⟨hP1, hK1, hD1⟩ := hB
          rw [ht] at hP1
          have hJ := k_jn (wr := [(kX8 s0 i0 (sLo 0) (sFo 0) (sSi 0)), (kAI i0 cI 60 gq0), (kX8 s1 i1 (sLo 1) (sFo 1) (sSi 1)), (kAI i1 cI 60 gq1), (kX8 s3 i3 (sLo 3) (sFo 3) (sSi 3)), (kAI i3 cI 60 gq3), (kX11 hx aLa aPa aGe aFl aTr aBe aLu aLo vSf vSm vCo vSh xs xl xf), (kAQ vSh cQ 4 (fSh s0 s1 s2 s3))]) (wt := [(kX8 s0 i0 (sLo 0) (sFo 0) (sSi 0)), (kAI i0 cI 60 gq0), (kX8 s1 i1 (sLo 1) (sFo 1) (sSi 1)), (kAI i1 cI 60 gq1), (kX8 s3 i3 (sLo 3) (sFo 3) (sSi 3)), (kAI i3 cI 60 gq3), (kX11 hx aLa aPa aGe aFl aTr aBe aLu aLo vSf vSm vCo vSh xs xl xf), (kAQ vSh cQ 4 (fSh s0 s1 s2 s3)), (kX8 s2 i2 0 fm (g_36 0)), (kAI i2 cI 60 (ga_37 0))]) hP hD hC [0, 1, 2, 3, 6, 7, 8, 9] rfl (by decide +kernel) (by decide +kernel) hk1 hFc hP1 hD1 rfl
          clear hP hD hPc hDc hFc hC hP1 hD1 hK1 hz1 hk1 hvm ht
          obtain ⟨hP, hD⟩ := hJ
          generalize H1 = H at hP hS ⊢
          try dsimp only at hw
          obtain ⟨c_41, c_42⟩ := hw
          refine lv_iload_n hx₀ hb dX11_sheet_45 rfl (lv_at hl 4 rfl) ?_
          obtain ⟨hP9, hD9⟩ := k_c2 (wc := [(kX11 hx aLa aPa aGe aFl aTr aBe aLu aLo vSf vSm vCo vSh xs xl xf), (kAQ vSh cQ 4 (fSh s0 s1 s2 s3)), (kX8 s0 i0 (sLo 0) (sFo 0) (sSi 0)), (kAI i0 cI 60 gq0), (kX8 s1 i1 (sLo 1) (sFo 1) (sSi 1)), (kAI i1 cI 60 gq1), (kX8 s2 i2 0 fm (g_36 0)), (kAI i2 cI 60 (ga_37 0)), (kX8 s3 i3 (sLo 3) (sFo 3) (sSi 3)), (kAI i3 cI 60 gq3)]) hP hD [6, 7, 0, 1, 2, 3, 8, 9, 4, 5] (by decide +kernel) rfl
          exact W.iret (v := nn) hx₀ hb hr (fun t₀ ht hW => ⟨⟨nn, (k_fn [xf], k_fa [gq0, gq1, ga_37 0, gq3, upd sLo (2 : Int32).toNatClampNeg (0 : Int32), upd sFo (2 : Int32).toNatClampNeg fm, upd sSi (2 : Int32).toNatClampNeg (g_36 0)], k_fl [], k_fL [], k_fp []), rfl, ⟨(show (nn : Int32) = if 0 ≤ (2 : Int32) ∧ (2 : Int32) ≤ 3 ∧ 0 ≤ fm ∧ fm ≤ 2 ∧ nn ≤ 60 then (if nn < 0 then -15 else nn) else -2 from (((if_neg (show ¬ (nn < 0) from (Int32.not_lt.mpr c_34))).symm).trans (if_pos (show 0 ≤ (2 : Int32) ∧ (2 : Int32) ≤ 3 ∧ 0 ≤ fm ∧ fm ≤ 2 ∧ nn ≤ 60 from ⟨(by decide), (by decide), c_32.1, c_32.2, c_33⟩)).symm)), (if_pos (show 0 ≤ (2 : Int32) ∧ (2 : Int32) ≤ 3 ∧ 0 ≤ fm ∧ fm ≤ 2 ∧ nn ≤ 60 ∧ ¬ nn < 0 from ⟨(by decide), (by decide), c_32.1, c_32.2, c_33, (Int32.not_lt.mpr c_34)⟩)).symm, (if_pos (show 0 ≤ (2 : Int32) ∧ (2 : Int32) ≤ 3 ∧ 0 ≤ fm ∧ fm ≤ 2 ∧ nn ≤ 60 ∧ ¬ nn < 0 from ⟨(by decide), (by decide), c_32.1, c_32.2, c_33, (Int32.not_lt.mpr c_34)⟩)).symm, (by rewrite [c_41]; exact (if_pos (show 0 ≤ (2 : Int32) ∧ (2 : Int32) ≤ 3 ∧ 0 ≤ fm ∧ fm ≤ 2 ∧ nn ≤ 60 ∧ ¬ nn < 0 from ⟨(by decide), (by decide), c_32.1, c_32.2, c_33, (Int32.not_lt.mpr c_34)⟩)).symm), (kFd_ge (lf_j_sheet_1 nn (g_36 0) c_33 c_34 c_41)).symm, (k_sh_n (show ¬ ((0 ≤ (2 : Int32) ∧ (2 : Int32) ≤ 3 ∧ 0 ≤ fm ∧ fm ≤ 2 ∧ nn ≤ 60 ∧ ¬ nn < 0) ∧ (2 : Int32) = 0) from (fun z => (fun z => absurd z (by decide)) z.2))), (k_sh_n (show ¬ ((0 ≤ (2 : Int32) ∧ (2 : Int32) ≤ 3 ∧ 0 ≤ fm ∧ fm ≤ 2 ∧ nn ≤ 60 ∧ ¬ nn < 0) ∧ (2 : Int32) = 1) from (fun z => (fun z => absurd z (by decide)) z.2))), (k_sh_y (show (0 ≤ (2 : Int32) ∧ (2 : Int32) ≤ 3 ∧ 0 ≤ fm ∧ fm ≤ 2 ∧ nn ≤ 60 ∧ ¬ nn < 0) ∧ (2 : Int32) = 2 from ⟨⟨(by decide), (by decide), c_32.1, c_32.2, c_33, (Int32.not_lt.mpr c_34)⟩, rfl⟩) c_42), (k_sh_n (show ¬ ((0 ≤ (2 : Int32) ∧ (2 : Int32) ≤ 3 ∧ 0 ≤ fm ∧ fm ≤ 2 ∧ nn ≤ 60 ∧ ¬ nn < 0) ∧ (2 : Int32) = 3) from (fun z => (fun z => absurd z (by decide)) z.2)))⟩, by rw [ht]; exact hP9, va_K.moved hW.alike hK, hD9⟩, hS.F ht⟩) hS.2.2 dX11_sheet_46
        · refine lv_aload_n hx₀ hb dX11_sheet_32 rfl (lv_at hl 1 rfl) ?_
          refine lv_iconst (v := 5) hx₀ hb dX11_sheet_33 (by decide +kernel) ?_
          obtain ⟨hPc, hDc, hFc, hC⟩ := k_cw (wc := [(kX11 hx aLa aPa aGe aFl aTr aBe aLu aLo vSf vSm vCo vSh xs xl xf)]) hP hD hS hA [8] (by decide +kernel) rfl
          refine va_calli (va_runV (As := [.int 5]) (rest := []) ⟨hx₀, hb, hml, hown, hts⟩ (j_found5 l dC dI cI cJ cQ H.size hx aLa aPa aGe aFl aTr aBe aLu aLo vSf vSm vCo vSh xs xl xf) (cwV 1 hts (kGV wd_387 wd_384 wd_385 wd_386 wd_2) rfl rfl rfl (by decide +kernel) ⟨Nat.le_of_ble_eq_true rfl, Nat.le_of_ble_eq_true rfl⟩) (k_preV10 (q0 := 0) hK hPc hDc hN rfl) rfl rfl hl.1 rfl (lv_room (Nat.le_of_ble_eq_true rfl)) dX11_sheet_34 ⟨by decide +kernel, by decide +kernel⟩) hS (fun q _ h => hFc q h) hFc (fun r_43 u₀ t₀ H1 locs ht hvm hw hB hz1 hk1 hS => ?_)
          obtain ⟨hP1, hK1, hD1⟩ := hB
          rw [ht] at hP1
          have hJ := k_jn (wr := [(kX8 s0 i0 (sLo 0) (sFo 0) (sSi 0)), (kAI i0 cI 60 gq0), (kX8 s1 i1 (sLo 1) (sFo 1) (sSi 1)), (kAI i1 cI 60 gq1), (kX8 s2 i2 (sLo 2) (sFo 2) (sSi 2)), (kAI i2 cI 60 gq2), (kX8 s3 i3 (sLo 3) (sFo 3) (sSi 3)), (kAI i3 cI 60 gq3), (kAQ vSh cQ 4 (fSh s0 s1 s2 s3))]) (wt := [(kX8 s0 i0 (sLo 0) (sFo 0) (sSi 0)), (kAI i0 cI 60 gq0), (kX8 s1 i1 (sLo 1) (sFo 1) (sSi 1)), (kAI i1 cI 60 gq1), (kX8 s2 i2 (sLo 2) (sFo 2) (sSi 2)), (kAI i2 cI 60 gq2), (kX8 s3 i3 (sLo 3) (sFo 3) (sSi 3)), (kAI i3 cI 60 gq3), (kAQ vSh cQ 4 (fSh s0 s1 s2 s3)), (kX11 hx aLa aPa aGe aFl aTr aBe aLu aLo vSf vSm vCo vSh xs xl 5)]) hP hD hC [0, 1, 2, 3, 4, 5, 6, 7, 9] rfl (by decide +kernel) (by decide +kernel) hk1 hFc hP1 hD1 rfl
          clear hP hD hPc hDc hFc hC hP1 hD1 hK1 hz1 hk1 hvm ht
          obtain ⟨hP, hD⟩ := hJ
          generalize H1 = H at hP hS ⊢
          try dsimp only at hw
          refine k_topi (v := (-15)) hw ?_
          obtain ⟨hP9, hD9⟩ := k_c2 (wc := [(kX11 hx aLa aPa aGe aFl aTr aBe aLu aLo vSf vSm vCo vSh xs xl 5), (kAQ vSh cQ 4 (fSh s0 s1 s2 s3)), (kX8 s0 i0 (sLo 0) (sFo 0) (sSi 0)), (kAI i0 cI 60 gq0), (kX8 s1 i1 (sLo 1) (sFo 1) (sSi 1)), (kAI i1 cI 60 gq1), (kX8 s2 i2 (sLo 2) (sFo 2) (sSi 2)), (kAI i2 cI 60 gq2), (kX8 s3 i3 (sLo 3) (sFo 3) (sSi 3)), (kAI i3 cI 60 gq3)]) hP hD [9, 8, 0, 1, 2, 3, 4, 5, 6, 7] (by decide +kernel) rfl
          exact W.iret (v := (-15)) hx₀ hb hr (fun t₀ ht hW => ⟨⟨(-15), (k_fn [(5 : Int32)], k_fa [gq0, gq1, gq2, gq3, sLo, sFo, sSi], k_fl [], k_fL [], k_fp []), rfl, ⟨(show ((-15) : Int32) = if 0 ≤ (2 : Int32) ∧ (2 : Int32) ≤ 3 ∧ 0 ≤ fm ∧ fm ≤ 2 ∧ nn ≤ 60 then (if nn < 0 then -15 else nn) else -2 from (((if_pos (show nn < 0 from (Int32.not_le.mp c_34))).symm).trans (if_pos (show 0 ≤ (2 : Int32) ∧ (2 : Int32) ≤ 3 ∧ 0 ≤ fm ∧ fm ≤ 2 ∧ nn ≤ 60 from ⟨(by decide), (by decide), c_32.1, c_32.2, c_33⟩)).symm)), (if_neg (show ¬ (0 ≤ (2 : Int32) ∧ (2 : Int32) ≤ 3 ∧ 0 ≤ fm ∧ fm ≤ 2 ∧ nn ≤ 60 ∧ ¬ nn < 0) from (fun z => (fun z => z (Int32.not_le.mp c_34)) z.2.2.2.2.2))).symm, (if_neg (show ¬ (0 ≤ (2 : Int32) ∧ (2 : Int32) ≤ 3 ∧ 0 ≤ fm ∧ fm ≤ 2 ∧ nn ≤ 60 ∧ ¬ nn < 0) from (fun z => (fun z => z (Int32.not_le.mp c_34)) z.2.2.2.2.2))).symm, (if_neg (show ¬ (0 ≤ (2 : Int32) ∧ (2 : Int32) ≤ 3 ∧ 0 ≤ fm ∧ fm ≤ 2 ∧ nn ≤ 60 ∧ ¬ nn < 0) from (fun z => (fun z => z (Int32.not_le.mp c_34)) z.2.2.2.2.2))).symm, kFd_15.symm, (k_sh_n (show ¬ ((0 ≤ (2 : Int32) ∧ (2 : Int32) ≤ 3 ∧ 0 ≤ fm ∧ fm ≤ 2 ∧ nn ≤ 60 ∧ ¬ nn < 0) ∧ (2 : Int32) = 0) from (fun z => (fun z => (fun z => z (Int32.not_le.mp c_34)) z.2.2.2.2.2) z.1))), (k_sh_n (show ¬ ((0 ≤ (2 : Int32) ∧ (2 : Int32) ≤ 3 ∧ 0 ≤ fm ∧ fm ≤ 2 ∧ nn ≤ 60 ∧ ¬ nn < 0) ∧ (2 : Int32) = 1) from (fun z => (fun z => (fun z => z (Int32.not_le.mp c_34)) z.2.2.2.2.2) z.1))), (k_sh_n (show ¬ ((0 ≤ (2 : Int32) ∧ (2 : Int32) ≤ 3 ∧ 0 ≤ fm ∧ fm ≤ 2 ∧ nn ≤ 60 ∧ ¬ nn < 0) ∧ (2 : Int32) = 2) from (fun z => (fun z => (fun z => z (Int32.not_le.mp c_34)) z.2.2.2.2.2) z.1))), (k_sh_n (show ¬ ((0 ≤ (2 : Int32) ∧ (2 : Int32) ≤ 3 ∧ 0 ≤ fm ∧ fm ≤ 2 ∧ nn ≤ 60 ∧ ¬ nn < 0) ∧ (2 : Int32) = 3) from (fun z => (fun z => (fun z => z (Int32.not_le.mp c_34)) z.2.2.2.2.2) z.1)))⟩, by rw [ht]; exact hP9, va_K.moved hW.alike hK, hD9⟩, hS.F ht⟩) hS.2.2 dX11_sheet_37
      · refine lv_bipush (v := (-2)) hx₀ hb dX11_sheet_25 (by decide +kernel) ?_
        obtain ⟨hP9, hD9⟩ := k_c2 (wc := [(kX11 hx aLa aPa aGe aFl aTr aBe aLu aLo vSf vSm vCo vSh xs xl xf), (kAQ vSh cQ 4 (fSh s0 s1 s2 s3)), (kX8 s0 i0 (sLo 0) (sFo 0) (sSi 0)), (kAI i0 cI 60 gq0), (kX8 s1 i1 (sLo 1) (sFo 1) (sSi 1)), (kAI i1 cI 60 gq1), (kX8 s2 i2 (sLo 2) (sFo 2) (sSi 2)), (kAI i2 cI 60 gq2), (kX8 s3 i3 (sLo 3) (sFo 3) (sSi 3)), (kAI i3 cI 60 gq3)]) hP hD [8, 9, 0, 1, 2, 3, 4, 5, 6, 7] (by decide +kernel) rfl
        exact W.iret (v := (-2)) hx₀ hb hr (fun t₀ ht hW => ⟨⟨(-2), (k_fn [xf], k_fa [gq0, gq1, gq2, gq3, sLo, sFo, sSi], k_fl [], k_fL [], k_fp []), rfl, ⟨(show ((-2) : Int32) = if 0 ≤ (2 : Int32) ∧ (2 : Int32) ≤ 3 ∧ 0 ≤ fm ∧ fm ≤ 2 ∧ nn ≤ 60 then (if nn < 0 then -15 else nn) else -2 from (if_neg (show ¬ (0 ≤ (2 : Int32) ∧ (2 : Int32) ≤ 3 ∧ 0 ≤ fm ∧ fm ≤ 2 ∧ nn ≤ 60) from (fun z => c_33 z.2.2.2.2))).symm), (if_neg (show ¬ (0 ≤ (2 : Int32) ∧ (2 : Int32) ≤ 3 ∧ 0 ≤ fm ∧ fm ≤ 2 ∧ nn ≤ 60 ∧ ¬ nn < 0) from (fun z => c_33 z.2.2.2.2.1))).symm, (if_neg (show ¬ (0 ≤ (2 : Int32) ∧ (2 : Int32) ≤ 3 ∧ 0 ≤ fm ∧ fm ≤ 2 ∧ nn ≤ 60 ∧ ¬ nn < 0) from (fun z => c_33 z.2.2.2.2.1))).symm, (if_neg (show ¬ (0 ≤ (2 : Int32) ∧ (2 : Int32) ≤ 3 ∧ 0 ≤ fm ∧ fm ≤ 2 ∧ nn ≤ 60 ∧ ¬ nn < 0) from (fun z => c_33 z.2.2.2.2.1))).symm, (kFd_ge (by decide)).symm, (k_sh_n (show ¬ ((0 ≤ (2 : Int32) ∧ (2 : Int32) ≤ 3 ∧ 0 ≤ fm ∧ fm ≤ 2 ∧ nn ≤ 60 ∧ ¬ nn < 0) ∧ (2 : Int32) = 0) from (fun z => (fun z => c_33 z.2.2.2.2.1) z.1))), (k_sh_n (show ¬ ((0 ≤ (2 : Int32) ∧ (2 : Int32) ≤ 3 ∧ 0 ≤ fm ∧ fm ≤ 2 ∧ nn ≤ 60 ∧ ¬ nn < 0) ∧ (2 : Int32) = 1) from (fun z => (fun z => c_33 z.2.2.2.2.1) z.1))), (k_sh_n (show ¬ ((0 ≤ (2 : Int32) ∧ (2 : Int32) ≤ 3 ∧ 0 ≤ fm ∧ fm ≤ 2 ∧ nn ≤ 60 ∧ ¬ nn < 0) ∧ (2 : Int32) = 2) from (fun z => (fun z => c_33 z.2.2.2.2.1) z.1))), (k_sh_n (show ¬ ((0 ≤ (2 : Int32) ∧ (2 : Int32) ≤ 3 ∧ 0 ≤ fm ∧ fm ≤ 2 ∧ nn ≤ 60 ∧ ¬ nn < 0) ∧ (2 : Int32) = 3) from (fun z => (fun z => c_33 z.2.2.2.2.1) z.1)))⟩, by rw [ht]; exact hP9, va_K.moved hW.alike hK, hD9⟩, hS.F ht⟩) hS.2.2 dX11_sheet_27
    rw [if_neg c_32] at hw
    refine k_topi (v := 0) hw ?_
    refine lv_if_eq (tgt := 25) hx₀ hb dX11_sheet_16 (by decide) (fun _ => ?_) (fun c9 => absurd (by decide +kernel) c9)
    refine lv_bipush (v := (-2)) hx₀ hb dX11_sheet_25 (by decide +kernel) ?_
    obtain ⟨hP9, hD9⟩ := k_c2 (wc := [(kX11 hx aLa aPa aGe aFl aTr aBe aLu aLo vSf vSm vCo vSh xs xl xf), (kAQ vSh cQ 4 (fSh s0 s1 s2 s3)), (kX8 s0 i0 (sLo 0) (sFo 0) (sSi 0)), (kAI i0 cI 60 gq0), (kX8 s1 i1 (sLo 1) (sFo 1) (sSi 1)), (kAI i1 cI 60 gq1), (kX8 s2 i2 (sLo 2) (sFo 2) (sSi 2)), (kAI i2 cI 60 gq2), (kX8 s3 i3 (sLo 3) (sFo 3) (sSi 3)), (kAI i3 cI 60 gq3)]) hP hD [8, 9, 0, 1, 2, 3, 4, 5, 6, 7] (by decide +kernel) rfl
    exact W.iret (v := (-2)) hx₀ hb hr (fun t₀ ht hW => ⟨⟨(-2), (k_fn [xf], k_fa [gq0, gq1, gq2, gq3, sLo, sFo, sSi], k_fl [], k_fL [], k_fp []), rfl, ⟨(show ((-2) : Int32) = if 0 ≤ (2 : Int32) ∧ (2 : Int32) ≤ 3 ∧ 0 ≤ fm ∧ fm ≤ 2 ∧ nn ≤ 60 then (if nn < 0 then -15 else nn) else -2 from (if_neg (show ¬ (0 ≤ (2 : Int32) ∧ (2 : Int32) ≤ 3 ∧ 0 ≤ fm ∧ fm ≤ 2 ∧ nn ≤ 60) from (fun z => c_32 (And.intro z.2.2.1 z.2.2.2.1)))).symm), (if_neg (show ¬ (0 ≤ (2 : Int32) ∧ (2 : Int32) ≤ 3 ∧ 0 ≤ fm ∧ fm ≤ 2 ∧ nn ≤ 60 ∧ ¬ nn < 0) from (fun z => c_32 (And.intro z.2.2.1 z.2.2.2.1)))).symm, (if_neg (show ¬ (0 ≤ (2 : Int32) ∧ (2 : Int32) ≤ 3 ∧ 0 ≤ fm ∧ fm ≤ 2 ∧ nn ≤ 60 ∧ ¬ nn < 0) from (fun z => c_32 (And.intro z.2.2.1 z.2.2.2.1)))).symm, (if_neg (show ¬ (0 ≤ (2 : Int32) ∧ (2 : Int32) ≤ 3 ∧ 0 ≤ fm ∧ fm ≤ 2 ∧ nn ≤ 60 ∧ ¬ nn < 0) from (fun z => c_32 (And.intro z.2.2.1 z.2.2.2.1)))).symm, (kFd_ge (by decide)).symm, (k_sh_n (show ¬ ((0 ≤ (2 : Int32) ∧ (2 : Int32) ≤ 3 ∧ 0 ≤ fm ∧ fm ≤ 2 ∧ nn ≤ 60 ∧ ¬ nn < 0) ∧ (2 : Int32) = 0) from (fun z => (fun z => c_32 (And.intro z.2.2.1 z.2.2.2.1)) z.1))), (k_sh_n (show ¬ ((0 ≤ (2 : Int32) ∧ (2 : Int32) ≤ 3 ∧ 0 ≤ fm ∧ fm ≤ 2 ∧ nn ≤ 60 ∧ ¬ nn < 0) ∧ (2 : Int32) = 1) from (fun z => (fun z => c_32 (And.intro z.2.2.1 z.2.2.2.1)) z.1))), (k_sh_n (show ¬ ((0 ≤ (2 : Int32) ∧ (2 : Int32) ≤ 3 ∧ 0 ≤ fm ∧ fm ≤ 2 ∧ nn ≤ 60 ∧ ¬ nn < 0) ∧ (2 : Int32) = 2) from (fun z => (fun z => c_32 (And.intro z.2.2.1 z.2.2.2.1)) z.1))), (k_sh_n (show ¬ ((0 ≤ (2 : Int32) ∧ (2 : Int32) ≤ 3 ∧ 0 ≤ fm ∧ fm ≤ 2 ∧ nn ≤ 60 ∧ ¬ nn < 0) ∧ (2 : Int32) = 3) from (fun z => (fun z => c_32 (And.intro z.2.2.1 z.2.2.2.1)) z.1)))⟩, by rw [ht]; exact hP9, va_K.moved hW.alike hK, hD9⟩, hS.F ht⟩) hS.2.2 dX11_sheet_27
  rw [if_neg c_30] at hw
  by_cases c_44 : ss = 3
  · rw [if_pos c_44] at hw
    subst hw
    refine W.eq (g2 := F0 m₀ 5 ls [.ref s3]) rfl ?_
    subst c_44
    refine lv_astore (lv' := [(4, .ref s3), (0, .ref hx), (1, .int 3), (2, .int fm), (3, .int nn)]) hx₀ hb dX11_sheet_5 hl (by decide) rfl (fun ls hl => ?_)
    refine lv_aload hx₀ hb dX11_sheet_7 (lv_at hl 0 rfl) ?_
    refine lv_ifnull hx₀ hb dX11_sheet_9 ?_
    refine lv_iload_n hx₀ hb dX11_sheet_12 rfl (lv_at hl 3 rfl) ?_
    obtain ⟨hPc, hDc, hFc, hC⟩ := k_cw (wc := []) hP hD hS hA [] (by decide +kernel) rfl
    refine va_calli (va_runS (As := [.int fm]) (rest := []) ⟨hx₀, hb, hml, hown, hts⟩ (j_isForm l dC dI cI cJ cQ H.size fm) (va_cwS 1 hts (kGS wd_864 wd_862 wd_863 wd_2) rfl rfl rfl (by decide +kernel) ⟨Nat.le_of_ble_eq_true rfl, Nat.le_of_ble_eq_true rfl⟩) (k_preS hK hPc hDc hN) rfl rfl hl.1 rfl (lv_room (Nat.le_of_ble_eq_true rfl)) dX11_sheet_13 ⟨by decide +kernel, by decide +kernel⟩) hS (fun q _ h => hFc q h) hFc (fun r_45 u₀ t₀ H1 locs ht hvm hw hB hz1 hk1 hS => ?_)
    obtain ⟨hP1, hK1, hD1⟩ := hB
    rw [ht] at hP1
    have hJ := k_jn (wr := [(kX8 s0 i0 (sLo 0) (sFo 0) (sSi 0)), (kAI i0 cI 60 gq0), (kX8 s1 i1 (sLo 1) (sFo 1) (sSi 1)), (kAI i1 cI 60 gq1), (kX8 s2 i2 (sLo 2) (sFo 2) (sSi 2)), (kAI i2 cI 60 gq2), (kX8 s3 i3 (sLo 3) (sFo 3) (sSi 3)), (kAI i3 cI 60 gq3), (kX11 hx aLa aPa aGe aFl aTr aBe aLu aLo vSf vSm vCo vSh xs xl xf), (kAQ vSh cQ 4 (fSh s0 s1 s2 s3))]) (wt := [(kX8 s0 i0 (sLo 0) (sFo 0) (sSi 0)), (kAI i0 cI 60 gq0), (kX8 s1 i1 (sLo 1) (sFo 1) (sSi 1)), (kAI i1 cI 60 gq1), (kX8 s2 i2 (sLo 2) (sFo 2) (sSi 2)), (kAI i2 cI 60 gq2), (kX8 s3 i3 (sLo 3) (sFo 3) (sSi 3)), (kAI i3 cI 60 gq3), (kX11 hx aLa aPa aGe aFl aTr aBe aLu aLo vSf vSm vCo vSh xs xl xf), (kAQ vSh cQ 4 (fSh s0 s1 s2 s3))]) hP hD hC [0, 1, 2, 3, 4, 5, 6, 7, 8, 9] rfl (by decide +kernel) (by decide +kernel) hk1 hFc hP1 hD1 rfl
    clear hP hD hPc hDc hFc hC hP1 hD1 hK1 hz1 hk1 hvm ht
    obtain ⟨hP, hD⟩ := hJ
    generalize H1 = H at hP hS ⊢
    try dsimp only at hw
    by_cases c_46 : 0 ≤ fm ∧ fm ≤ 2
    · rw [if_pos c_46] at hw
      refine k_topi (v := 1) hw ?_
      refine lv_if_eq (tgt := 25) hx₀ hb dX11_sheet_16 (by decide) (fun c9 => absurd c9 (by decide +kernel)) (fun _ => ?_)
      refine lv_iload_n hx₀ hb dX11_sheet_19 rfl (lv_at hl 4 rfl) ?_
      refine lv_bipush (v := 60) hx₀ hb dX11_sheet_20 (by decide +kernel) ?_
      refine lv_icmp_le (tgt := 28) hx₀ hb dX11_sheet_22 (by decide) (fun c_47 => ?_) (fun c_47 => ?_)
      · refine lv_iload_n hx₀ hb dX11_sheet_28 rfl (lv_at hl 4 rfl) ?_
        refine lv_if_ge (tgt := 38) hx₀ hb dX11_sheet_29 (by decide) (fun c_48 => ?_) (fun c_48 => ?_)
        · refine lv_aload hx₀ hb dX11_sheet_38 (lv_at hl 0 rfl) ?_
          refine lv_iload_n hx₀ hb dX11_sheet_40 rfl (lv_at hl 3 rfl) ?_
          refine lv_iload_n hx₀ hb dX11_sheet_41 rfl (lv_at hl 4 rfl) ?_
          obtain ⟨hPc, hDc, hFc, hC⟩ := k_cw (wc := [(kX8 s3 i3 (sLo 3) (sFo 3) (sSi 3)), (kAI i3 cI 60 gq3)]) hP hD hS hA [6, 7] (by decide +kernel) rfl
          refine va_callv (va_runV (As := [.int fm, .int nn]) (rest := []) ⟨hx₀, hb, hml, hown, hts⟩ (j_renew l dC dI cI cJ cQ H.size s3 fm nn i3 (sLo 3) (sFo 3) (sSi 3) gq3 (show 0 ≤ nn ∧ nn ≤ 60 from ⟨c_48, c_47⟩)) (cwV 2 hts (kGV wd_868 wd_865 wd_866 wd_867 wd_51) rfl rfl rfl (by decide +kernel) ⟨Nat.le_of_ble_eq_true rfl, Nat.le_of_ble_eq_true rfl⟩) (k_preV8 (q0 := 0) hK hPc hDc hN rfl) rfl rfl hl.1 rfl (lv_room (Nat.le_of_ble_eq_true rfl)) dX11_sheet_42 ⟨by decide +kernel, by decide +kernel⟩) hS (fun q _ h => hFc q h) hFc (fun u₀ t₀ H1 locs ht hvm hw hB hz1 hk1 hS => ?_)
          obtain ⟨g_50, ga_51, gl_52, gb_53, gp_54⟩ := u₀
          obtain ⟨hP1, hK1, hD1⟩ := hB
          rw [ht] at hP1
          have hJ := k_jn (wr := [(kX8 s0 i0 (sLo 0) (sFo 0) (sSi 0)), (kAI i0 cI 60 gq0), (kX8 s1 i1 (sLo 1) (sFo 1) (sSi 1)), (kAI i1 cI 60 gq1), (kX8 s2 i2 (sLo 2) (sFo 2) (sSi 2)), (kAI i2 cI 60 gq2), (kX11 hx aLa aPa aGe aFl aTr aBe aLu aLo vSf vSm vCo vSh xs xl xf), (kAQ vSh cQ 4 (fSh s0 s1 s2 s3))]) (wt := [(kX8 s0 i0 (sLo 0) (sFo 0) (sSi 0)), (kAI i0 cI 60 gq0), (kX8 s1 i1 (sLo 1) (sFo 1) (sSi 1)), (kAI i1 cI 60 gq1), (kX8 s2 i2 (sLo 2) (sFo 2) (sSi 2)), (kAI i2 cI 60 gq2), (kX11 hx aLa aPa aGe aFl aTr aBe aLu aLo vSf vSm vCo vSh xs xl xf), (kAQ vSh cQ 4 (fSh s0 s1 s2 s3)), (kX8 s3 i3 0 fm (g_50 0)), (kAI i3 cI 60 (ga_51 0))]) hP hD hC [0, 1, 2, 3, 4, 5, 8, 9] rfl (by decide +kernel) (by decide +kernel) hk1 hFc hP1 hD1 rfl
          clear hP hD hPc hDc hFc hC hP1 hD1 hK1 hz1 hk1 hvm ht
          obtain ⟨hP, hD⟩ := hJ
          generalize H1 = H at hP hS ⊢
          try dsimp only at hw
          obtain ⟨c_55, c_56⟩ := hw
          refine lv_iload_n hx₀ hb dX11_sheet_45 rfl (lv_at hl 4 rfl) ?_
          obtain ⟨hP9, hD9⟩ := k_c2 (wc := [(kX11 hx aLa aPa aGe aFl aTr aBe aLu aLo vSf vSm vCo vSh xs xl xf), (kAQ vSh cQ 4 (fSh s0 s1 s2 s3)), (kX8 s0 i0 (sLo 0) (sFo 0) (sSi 0)), (kAI i0 cI 60 gq0), (kX8 s1 i1 (sLo 1) (sFo 1) (sSi 1)), (kAI i1 cI 60 gq1), (kX8 s2 i2 (sLo 2) (sFo 2) (sSi 2)), (kAI i2 cI 60 gq2), (kX8 s3 i3 0 fm (g_50 0)), (kAI i3 cI 60 (ga_51 0))]) hP hD [6, 7, 0, 1, 2, 3, 4, 5, 8, 9] (by decide +kernel) rfl
          exact W.iret (v := nn) hx₀ hb hr (fun t₀ ht hW => ⟨⟨nn, (k_fn [xf], k_fa [gq0, gq1, gq2, ga_51 0, upd sLo (3 : Int32).toNatClampNeg (0 : Int32), upd sFo (3 : Int32).toNatClampNeg fm, upd sSi (3 : Int32).toNatClampNeg (g_50 0)], k_fl [], k_fL [], k_fp []), rfl, ⟨(show (nn : Int32) = if 0 ≤ (3 : Int32) ∧ (3 : Int32) ≤ 3 ∧ 0 ≤ fm ∧ fm ≤ 2 ∧ nn ≤ 60 then (if nn < 0 then -15 else nn) else -2 from (((if_neg (show ¬ (nn < 0) from (Int32.not_lt.mpr c_48))).symm).trans (if_pos (show 0 ≤ (3 : Int32) ∧ (3 : Int32) ≤ 3 ∧ 0 ≤ fm ∧ fm ≤ 2 ∧ nn ≤ 60 from ⟨(by decide), (by decide), c_46.1, c_46.2, c_47⟩)).symm)), (if_pos (show 0 ≤ (3 : Int32) ∧ (3 : Int32) ≤ 3 ∧ 0 ≤ fm ∧ fm ≤ 2 ∧ nn ≤ 60 ∧ ¬ nn < 0 from ⟨(by decide), (by decide), c_46.1, c_46.2, c_47, (Int32.not_lt.mpr c_48)⟩)).symm, (if_pos (show 0 ≤ (3 : Int32) ∧ (3 : Int32) ≤ 3 ∧ 0 ≤ fm ∧ fm ≤ 2 ∧ nn ≤ 60 ∧ ¬ nn < 0 from ⟨(by decide), (by decide), c_46.1, c_46.2, c_47, (Int32.not_lt.mpr c_48)⟩)).symm, (by rewrite [c_55]; exact (if_pos (show 0 ≤ (3 : Int32) ∧ (3 : Int32) ≤ 3 ∧ 0 ≤ fm ∧ fm ≤ 2 ∧ nn ≤ 60 ∧ ¬ nn < 0 from ⟨(by decide), (by decide), c_46.1, c_46.2, c_47, (Int32.not_lt.mpr c_48)⟩)).symm), (kFd_ge (lf_j_sheet_1 nn (g_50 0) c_47 c_48 c_55)).symm, (k_sh_n (show ¬ ((0 ≤ (3 : Int32) ∧ (3 : Int32) ≤ 3 ∧ 0 ≤ fm ∧ fm ≤ 2 ∧ nn ≤ 60 ∧ ¬ nn < 0) ∧ (3 : Int32) = 0) from (fun z => (fun z => absurd z (by decide)) z.2))), (k_sh_n (show ¬ ((0 ≤ (3 : Int32) ∧ (3 : Int32) ≤ 3 ∧ 0 ≤ fm ∧ fm ≤ 2 ∧ nn ≤ 60 ∧ ¬ nn < 0) ∧ (3 : Int32) = 1) from (fun z => (fun z => absurd z (by decide)) z.2))), (k_sh_n (show ¬ ((0 ≤ (3 : Int32) ∧ (3 : Int32) ≤ 3 ∧ 0 ≤ fm ∧ fm ≤ 2 ∧ nn ≤ 60 ∧ ¬ nn < 0) ∧ (3 : Int32) = 2) from (fun z => (fun z => absurd z (by decide)) z.2))), (k_sh_y (show (0 ≤ (3 : Int32) ∧ (3 : Int32) ≤ 3 ∧ 0 ≤ fm ∧ fm ≤ 2 ∧ nn ≤ 60 ∧ ¬ nn < 0) ∧ (3 : Int32) = 3 from ⟨⟨(by decide), (by decide), c_46.1, c_46.2, c_47, (Int32.not_lt.mpr c_48)⟩, rfl⟩) c_56)⟩, by rw [ht]; exact hP9, va_K.moved hW.alike hK, hD9⟩, hS.F ht⟩) hS.2.2 dX11_sheet_46
        · refine lv_aload_n hx₀ hb dX11_sheet_32 rfl (lv_at hl 1 rfl) ?_
          refine lv_iconst (v := 5) hx₀ hb dX11_sheet_33 (by decide +kernel) ?_
          obtain ⟨hPc, hDc, hFc, hC⟩ := k_cw (wc := [(kX11 hx aLa aPa aGe aFl aTr aBe aLu aLo vSf vSm vCo vSh xs xl xf)]) hP hD hS hA [8] (by decide +kernel) rfl
          refine va_calli (va_runV (As := [.int 5]) (rest := []) ⟨hx₀, hb, hml, hown, hts⟩ (j_found5 l dC dI cI cJ cQ H.size hx aLa aPa aGe aFl aTr aBe aLu aLo vSf vSm vCo vSh xs xl xf) (cwV 1 hts (kGV wd_387 wd_384 wd_385 wd_386 wd_2) rfl rfl rfl (by decide +kernel) ⟨Nat.le_of_ble_eq_true rfl, Nat.le_of_ble_eq_true rfl⟩) (k_preV10 (q0 := 0) hK hPc hDc hN rfl) rfl rfl hl.1 rfl (lv_room (Nat.le_of_ble_eq_true rfl)) dX11_sheet_34 ⟨by decide +kernel, by decide +kernel⟩) hS (fun q _ h => hFc q h) hFc (fun r_57 u₀ t₀ H1 locs ht hvm hw hB hz1 hk1 hS => ?_)
          obtain ⟨hP1, hK1, hD1⟩ := hB
          rw [ht] at hP1
          have hJ := k_jn (wr := [(kX8 s0 i0 (sLo 0) (sFo 0) (sSi 0)), (kAI i0 cI 60 gq0), (kX8 s1 i1 (sLo 1) (sFo 1) (sSi 1)), (kAI i1 cI 60 gq1), (kX8 s2 i2 (sLo 2) (sFo 2) (sSi 2)), (kAI i2 cI 60 gq2), (kX8 s3 i3 (sLo 3) (sFo 3) (sSi 3)), (kAI i3 cI 60 gq3), (kAQ vSh cQ 4 (fSh s0 s1 s2 s3))]) (wt := [(kX8 s0 i0 (sLo 0) (sFo 0) (sSi 0)), (kAI i0 cI 60 gq0), (kX8 s1 i1 (sLo 1) (sFo 1) (sSi 1)), (kAI i1 cI 60 gq1), (kX8 s2 i2 (sLo 2) (sFo 2) (sSi 2)), (kAI i2 cI 60 gq2), (kX8 s3 i3 (sLo 3) (sFo 3) (sSi 3)), (kAI i3 cI 60 gq3), (kAQ vSh cQ 4 (fSh s0 s1 s2 s3)), (kX11 hx aLa aPa aGe aFl aTr aBe aLu aLo vSf vSm vCo vSh xs xl 5)]) hP hD hC [0, 1, 2, 3, 4, 5, 6, 7, 9] rfl (by decide +kernel) (by decide +kernel) hk1 hFc hP1 hD1 rfl
          clear hP hD hPc hDc hFc hC hP1 hD1 hK1 hz1 hk1 hvm ht
          obtain ⟨hP, hD⟩ := hJ
          generalize H1 = H at hP hS ⊢
          try dsimp only at hw
          refine k_topi (v := (-15)) hw ?_
          obtain ⟨hP9, hD9⟩ := k_c2 (wc := [(kX11 hx aLa aPa aGe aFl aTr aBe aLu aLo vSf vSm vCo vSh xs xl 5), (kAQ vSh cQ 4 (fSh s0 s1 s2 s3)), (kX8 s0 i0 (sLo 0) (sFo 0) (sSi 0)), (kAI i0 cI 60 gq0), (kX8 s1 i1 (sLo 1) (sFo 1) (sSi 1)), (kAI i1 cI 60 gq1), (kX8 s2 i2 (sLo 2) (sFo 2) (sSi 2)), (kAI i2 cI 60 gq2), (kX8 s3 i3 (sLo 3) (sFo 3) (sSi 3)), (kAI i3 cI 60 gq3)]) hP hD [9, 8, 0, 1, 2, 3, 4, 5, 6, 7] (by decide +kernel) rfl
          exact W.iret (v := (-15)) hx₀ hb hr (fun t₀ ht hW => ⟨⟨(-15), (k_fn [(5 : Int32)], k_fa [gq0, gq1, gq2, gq3, sLo, sFo, sSi], k_fl [], k_fL [], k_fp []), rfl, ⟨(show ((-15) : Int32) = if 0 ≤ (3 : Int32) ∧ (3 : Int32) ≤ 3 ∧ 0 ≤ fm ∧ fm ≤ 2 ∧ nn ≤ 60 then (if nn < 0 then -15 else nn) else -2 from (((if_pos (show nn < 0 from (Int32.not_le.mp c_48))).symm).trans (if_pos (show 0 ≤ (3 : Int32) ∧ (3 : Int32) ≤ 3 ∧ 0 ≤ fm ∧ fm ≤ 2 ∧ nn ≤ 60 from ⟨(by decide), (by decide), c_46.1, c_46.2, c_47⟩)).symm)), (if_neg (show ¬ (0 ≤ (3 : Int32) ∧ (3 : Int32) ≤ 3 ∧ 0 ≤ fm ∧ fm ≤ 2 ∧ nn ≤ 60 ∧ ¬ nn < 0) from (fun z => (fun z => z (Int32.not_le.mp c_48)) z.2.2.2.2.2))).symm, (if_neg (show ¬ (0 ≤ (3 : Int32) ∧ (3 : Int32) ≤ 3 ∧ 0 ≤ fm ∧ fm ≤ 2 ∧ nn ≤ 60 ∧ ¬ nn < 0) from (fun z => (fun z => z (Int32.not_le.mp c_48)) z.2.2.2.2.2))).symm, (if_neg (show ¬ (0 ≤ (3 : Int32) ∧ (3 : Int32) ≤ 3 ∧ 0 ≤ fm ∧ fm ≤ 2 ∧ nn ≤ 60 ∧ ¬ nn < 0) from (fun z => (fun z => z (Int32.not_le.mp c_48)) z.2.2.2.2.2))).symm, kFd_15.symm, (k_sh_n (show ¬ ((0 ≤ (3 : Int32) ∧ (3 : Int32) ≤ 3 ∧ 0 ≤ fm ∧ fm ≤ 2 ∧ nn ≤ 60 ∧ ¬ nn < 0) ∧ (3 : Int32) = 0) from (fun z => (fun z => (fun z => z (Int32.not_le.mp c_48)) z.2.2.2.2.2) z.1))), (k_sh_n (show ¬ ((0 ≤ (3 : Int32) ∧ (3 : Int32) ≤ 3 ∧ 0 ≤ fm ∧ fm ≤ 2 ∧ nn ≤ 60 ∧ ¬ nn < 0) ∧ (3 : Int32) = 1) from (fun z => (fun z => (fun z => z (Int32.not_le.mp c_48)) z.2.2.2.2.2) z.1))), (k_sh_n (show ¬ ((0 ≤ (3 : Int32) ∧ (3 : Int32) ≤ 3 ∧ 0 ≤ fm ∧ fm ≤ 2 ∧ nn ≤ 60 ∧ ¬ nn < 0) ∧ (3 : Int32) = 2) from (fun z => (fun z => (fun z => z (Int32.not_le.mp c_48)) z.2.2.2.2.2) z.1))), (k_sh_n (show ¬ ((0 ≤ (3 : Int32) ∧ (3 : Int32) ≤ 3 ∧ 0 ≤ fm ∧ fm ≤ 2 ∧ nn ≤ 60 ∧ ¬ nn < 0) ∧ (3 : Int32) = 3) from (fun z => (fun z => (fun z => z (Int32.not_le.mp c_48)) z.2.2.2.2.2) z.1)))⟩, by rw [ht]; exact hP9, va_K.moved hW.alike hK, hD9⟩, hS.F ht⟩) hS.2.2 dX11_sheet_37
      · refine lv_bipush (v := (-2)) hx₀ hb dX11_sheet_25 (by decide +kernel) ?_
        obtain ⟨hP9, hD9⟩ := k_c2 (wc := [(kX11 hx aLa aPa aGe aFl aTr aBe aLu aLo vSf vSm vCo vSh xs xl xf), (kAQ vSh cQ 4 (fSh s0 s1 s2 s3)), (kX8 s0 i0 (sLo 0) (sFo 0) (sSi 0)), (kAI i0 cI 60 gq0), (kX8 s1 i1 (sLo 1) (sFo 1) (sSi 1)), (kAI i1 cI 60 gq1), (kX8 s2 i2 (sLo 2) (sFo 2) (sSi 2)), (kAI i2 cI 60 gq2), (kX8 s3 i3 (sLo 3) (sFo 3) (sSi 3)), (kAI i3 cI 60 gq3)]) hP hD [8, 9, 0, 1, 2, 3, 4, 5, 6, 7] (by decide +kernel) rfl
        exact W.iret (v := (-2)) hx₀ hb hr (fun t₀ ht hW => ⟨⟨(-2), (k_fn [xf], k_fa [gq0, gq1, gq2, gq3, sLo, sFo, sSi], k_fl [], k_fL [], k_fp []), rfl, ⟨(show ((-2) : Int32) = if 0 ≤ (3 : Int32) ∧ (3 : Int32) ≤ 3 ∧ 0 ≤ fm ∧ fm ≤ 2 ∧ nn ≤ 60 then (if nn < 0 then -15 else nn) else -2 from (if_neg (show ¬ (0 ≤ (3 : Int32) ∧ (3 : Int32) ≤ 3 ∧ 0 ≤ fm ∧ fm ≤ 2 ∧ nn ≤ 60) from (fun z => c_47 z.2.2.2.2))).symm), (if_neg (show ¬ (0 ≤ (3 : Int32) ∧ (3 : Int32) ≤ 3 ∧ 0 ≤ fm ∧ fm ≤ 2 ∧ nn ≤ 60 ∧ ¬ nn < 0) from (fun z => c_47 z.2.2.2.2.1))).symm, (if_neg (show ¬ (0 ≤ (3 : Int32) ∧ (3 : Int32) ≤ 3 ∧ 0 ≤ fm ∧ fm ≤ 2 ∧ nn ≤ 60 ∧ ¬ nn < 0) from (fun z => c_47 z.2.2.2.2.1))).symm, (if_neg (show ¬ (0 ≤ (3 : Int32) ∧ (3 : Int32) ≤ 3 ∧ 0 ≤ fm ∧ fm ≤ 2 ∧ nn ≤ 60 ∧ ¬ nn < 0) from (fun z => c_47 z.2.2.2.2.1))).symm, (kFd_ge (by decide)).symm, (k_sh_n (show ¬ ((0 ≤ (3 : Int32) ∧ (3 : Int32) ≤ 3 ∧ 0 ≤ fm ∧ fm ≤ 2 ∧ nn ≤ 60 ∧ ¬ nn < 0) ∧ (3 : Int32) = 0) from (fun z => (fun z => c_47 z.2.2.2.2.1) z.1))), (k_sh_n (show ¬ ((0 ≤ (3 : Int32) ∧ (3 : Int32) ≤ 3 ∧ 0 ≤ fm ∧ fm ≤ 2 ∧ nn ≤ 60 ∧ ¬ nn < 0) ∧ (3 : Int32) = 1) from (fun z => (fun z => c_47 z.2.2.2.2.1) z.1))), (k_sh_n (show ¬ ((0 ≤ (3 : Int32) ∧ (3 : Int32) ≤ 3 ∧ 0 ≤ fm ∧ fm ≤ 2 ∧ nn ≤ 60 ∧ ¬ nn < 0) ∧ (3 : Int32) = 2) from (fun z => (fun z => c_47 z.2.2.2.2.1) z.1))), (k_sh_n (show ¬ ((0 ≤ (3 : Int32) ∧ (3 : Int32) ≤ 3 ∧ 0 ≤ fm ∧ fm ≤ 2 ∧ nn ≤ 60 ∧ ¬ nn < 0) ∧ (3 : Int32) = 3) from (fun z => (fun z => c_47 z.2.2.2.2.1) z.1)))⟩, by rw [ht]; exact hP9, va_K.moved hW.alike hK, hD9⟩, hS.F ht⟩) hS.2.2 dX11_sheet_27
    rw [if_neg c_46] at hw
    refine k_topi (v := 0) hw ?_
    refine lv_if_eq (tgt := 25) hx₀ hb dX11_sheet_16 (by decide) (fun _ => ?_) (fun c9 => absurd (by decide +kernel) c9)
    refine lv_bipush (v := (-2)) hx₀ hb dX11_sheet_25 (by decide +kernel) ?_
    obtain ⟨hP9, hD9⟩ := k_c2 (wc := [(kX11 hx aLa aPa aGe aFl aTr aBe aLu aLo vSf vSm vCo vSh xs xl xf), (kAQ vSh cQ 4 (fSh s0 s1 s2 s3)), (kX8 s0 i0 (sLo 0) (sFo 0) (sSi 0)), (kAI i0 cI 60 gq0), (kX8 s1 i1 (sLo 1) (sFo 1) (sSi 1)), (kAI i1 cI 60 gq1), (kX8 s2 i2 (sLo 2) (sFo 2) (sSi 2)), (kAI i2 cI 60 gq2), (kX8 s3 i3 (sLo 3) (sFo 3) (sSi 3)), (kAI i3 cI 60 gq3)]) hP hD [8, 9, 0, 1, 2, 3, 4, 5, 6, 7] (by decide +kernel) rfl
    exact W.iret (v := (-2)) hx₀ hb hr (fun t₀ ht hW => ⟨⟨(-2), (k_fn [xf], k_fa [gq0, gq1, gq2, gq3, sLo, sFo, sSi], k_fl [], k_fL [], k_fp []), rfl, ⟨(show ((-2) : Int32) = if 0 ≤ (3 : Int32) ∧ (3 : Int32) ≤ 3 ∧ 0 ≤ fm ∧ fm ≤ 2 ∧ nn ≤ 60 then (if nn < 0 then -15 else nn) else -2 from (if_neg (show ¬ (0 ≤ (3 : Int32) ∧ (3 : Int32) ≤ 3 ∧ 0 ≤ fm ∧ fm ≤ 2 ∧ nn ≤ 60) from (fun z => c_46 (And.intro z.2.2.1 z.2.2.2.1)))).symm), (if_neg (show ¬ (0 ≤ (3 : Int32) ∧ (3 : Int32) ≤ 3 ∧ 0 ≤ fm ∧ fm ≤ 2 ∧ nn ≤ 60 ∧ ¬ nn < 0) from (fun z => c_46 (And.intro z.2.2.1 z.2.2.2.1)))).symm, (if_neg (show ¬ (0 ≤ (3 : Int32) ∧ (3 : Int32) ≤ 3 ∧ 0 ≤ fm ∧ fm ≤ 2 ∧ nn ≤ 60 ∧ ¬ nn < 0) from (fun z => c_46 (And.intro z.2.2.1 z.2.2.2.1)))).symm, (if_neg (show ¬ (0 ≤ (3 : Int32) ∧ (3 : Int32) ≤ 3 ∧ 0 ≤ fm ∧ fm ≤ 2 ∧ nn ≤ 60 ∧ ¬ nn < 0) from (fun z => c_46 (And.intro z.2.2.1 z.2.2.2.1)))).symm, (kFd_ge (by decide)).symm, (k_sh_n (show ¬ ((0 ≤ (3 : Int32) ∧ (3 : Int32) ≤ 3 ∧ 0 ≤ fm ∧ fm ≤ 2 ∧ nn ≤ 60 ∧ ¬ nn < 0) ∧ (3 : Int32) = 0) from (fun z => (fun z => c_46 (And.intro z.2.2.1 z.2.2.2.1)) z.1))), (k_sh_n (show ¬ ((0 ≤ (3 : Int32) ∧ (3 : Int32) ≤ 3 ∧ 0 ≤ fm ∧ fm ≤ 2 ∧ nn ≤ 60 ∧ ¬ nn < 0) ∧ (3 : Int32) = 1) from (fun z => (fun z => c_46 (And.intro z.2.2.1 z.2.2.2.1)) z.1))), (k_sh_n (show ¬ ((0 ≤ (3 : Int32) ∧ (3 : Int32) ≤ 3 ∧ 0 ≤ fm ∧ fm ≤ 2 ∧ nn ≤ 60 ∧ ¬ nn < 0) ∧ (3 : Int32) = 2) from (fun z => (fun z => c_46 (And.intro z.2.2.1 z.2.2.2.1)) z.1))), (k_sh_n (show ¬ ((0 ≤ (3 : Int32) ∧ (3 : Int32) ≤ 3 ∧ 0 ≤ fm ∧ fm ≤ 2 ∧ nn ≤ 60 ∧ ¬ nn < 0) ∧ (3 : Int32) = 3) from (fun z => (fun z => c_46 (And.intro z.2.2.1 z.2.2.2.1)) z.1)))⟩, by rw [ht]; exact hP9, va_K.moved hW.alike hK, hD9⟩, hS.F ht⟩) hS.2.2 dX11_sheet_27
  rw [if_neg c_44] at hw
  subst hw
  refine W.eq (g2 := F0 m₀ 5 ls [.null]) rfl ?_
  refine lv_astoreN (lv' := [(4, .null), (0, .ref hx), (1, .int ss), (2, .int fm), (3, .int nn)]) hx₀ hb dX11_sheet_5 hl (by decide) rfl (fun ls hl => ?_)
  refine lv_aloadN hx₀ hb dX11_sheet_7 (lv_at hl 0 rfl) ?_
  refine lv_ifnullN (tgt := 25) hx₀ hb dX11_sheet_9 (by decide) ?_
  refine lv_bipush (v := (-2)) hx₀ hb dX11_sheet_25 (by decide +kernel) ?_
  obtain ⟨hP9, hD9⟩ := k_c2 (wc := [(kX11 hx aLa aPa aGe aFl aTr aBe aLu aLo vSf vSm vCo vSh xs xl xf), (kAQ vSh cQ 4 (fSh s0 s1 s2 s3)), (kX8 s0 i0 (sLo 0) (sFo 0) (sSi 0)), (kAI i0 cI 60 gq0), (kX8 s1 i1 (sLo 1) (sFo 1) (sSi 1)), (kAI i1 cI 60 gq1), (kX8 s2 i2 (sLo 2) (sFo 2) (sSi 2)), (kAI i2 cI 60 gq2), (kX8 s3 i3 (sLo 3) (sFo 3) (sSi 3)), (kAI i3 cI 60 gq3)]) hP hD [8, 9, 0, 1, 2, 3, 4, 5, 6, 7] (by decide +kernel) rfl
  exact W.iret (v := (-2)) hx₀ hb hr (fun t₀ ht hW => ⟨⟨(-2), (k_fn [xf], k_fa [gq0, gq1, gq2, gq3, sLo, sFo, sSi], k_fl [], k_fL [], k_fp []), rfl, ⟨(show ((-2) : Int32) = if 0 ≤ ss ∧ ss ≤ 3 ∧ 0 ≤ fm ∧ fm ≤ 2 ∧ nn ≤ 60 then (if nn < 0 then -15 else nn) else -2 from (if_neg (lf_j_sheet_2 ss fm nn c_2 c_16 c_30 c_44)).symm), (if_neg (lf_j_sheet_3 ss fm nn c_2 c_16 c_30 c_44)).symm, (if_neg (lf_j_sheet_3 ss fm nn c_2 c_16 c_30 c_44)).symm, (if_neg (lf_j_sheet_3 ss fm nn c_2 c_16 c_30 c_44)).symm, (kFd_ge (by decide)).symm, (k_sh_n (show ¬ ((0 ≤ ss ∧ ss ≤ 3 ∧ 0 ≤ fm ∧ fm ≤ 2 ∧ nn ≤ 60 ∧ ¬ nn < 0) ∧ ss = 0) from (fun z => c_2 z.2))), (k_sh_n (show ¬ ((0 ≤ ss ∧ ss ≤ 3 ∧ 0 ≤ fm ∧ fm ≤ 2 ∧ nn ≤ 60 ∧ ¬ nn < 0) ∧ ss = 1) from (fun z => c_16 z.2))), (k_sh_n (show ¬ ((0 ≤ ss ∧ ss ≤ 3 ∧ 0 ≤ fm ∧ fm ≤ 2 ∧ nn ≤ 60 ∧ ¬ nn < 0) ∧ ss = 2) from (fun z => c_30 z.2))), (k_sh_n (show ¬ ((0 ≤ ss ∧ ss ≤ 3 ∧ 0 ≤ fm ∧ fm ≤ 2 ∧ nn ≤ 60 ∧ ¬ nn < 0) ∧ ss = 3) from (fun z => c_44 z.2)))⟩, by rw [ht]; exact hP9, va_K.moved hW.alike hK, hD9⟩, hS.F ht⟩) hS.2.2 dX11_sheet_27
theorem lf_j_lose_1 (a0 : Int32) (h0 : 0 ≤ (a0).toInt ∧ (a0).toInt ≤ 60) : ¬ (a0 : Int32) < -10 := by
  first | (first | omega | (have hr0 := Int32.toInt_lt a0; have hs0 := Int32.le_toInt a0; simp only [Int64.toInt_add, Int64.toInt_sub, Int32.toInt_add, Int32.toInt_sub, Int32.toInt_mul, Int64.le_iff_toInt_le, Int64.lt_iff_toInt_lt, Int32.le_iff_toInt_le, Int32.lt_iff_toInt_lt, ← Int32.toInt_inj, ← Int64.toInt_inj, Int32.toInt_toInt64, kc_m10, kc_0, kc_10, kc_60, true_and, and_true, not_true_eq_false, not_false_eq_true] at * <;> ((first | omega | ((try simp (disch := omega) only [k_bm64] at *); (try simp (disch := omega) only [k_bm] at *); (try simp (disch := omega) only [k_bm] at *); omega) | (simp only [Int.bmod] at *; omega))))) | with_reducible assumption | exact Or.inl rfl | rfl
theorem lf_j_lose_2 (a0 : Int32) (h0 : ¬ (a0 = 0)) (h1 : ¬ (a0 = 1)) (h2 : ¬ (a0 = 2)) (h3 : ¬ (a0 = 3)) : ¬ (0 ≤ a0 ∧ a0 ≤ 3) := by
  first | (first | omega | (have hr0 := Int32.toInt_lt a0; have hs0 := Int32.le_toInt a0; simp only [Int64.toInt_add, Int64.toInt_sub, Int32.toInt_add, Int32.toInt_sub, Int32.toInt_mul, Int64.le_iff_toInt_le, Int64.lt_iff_toInt_lt, Int32.le_iff_toInt_le, Int32.lt_iff_toInt_lt, ← Int32.toInt_inj, ← Int64.toInt_inj, Int32.toInt_toInt64, kc_0, kc_1, kc_2, kc_3, true_and, and_true, not_true_eq_false, not_false_eq_true] at * <;> ((first | omega | ((try simp (disch := omega) only [k_bm64] at *); (try simp (disch := omega) only [k_bm] at *); (try simp (disch := omega) only [k_bm] at *); omega) | (simp only [Int.bmod] at *; omega))))) | with_reducible assumption | exact Or.inl rfl | rfl
theorem lf_j_lose_3 (a0 : Int32) (a1 : Int32) (h0 : ¬ (a0 = 0)) (h1 : ¬ (a0 = 1)) (h2 : ¬ (a0 = 2)) (h3 : ¬ (a0 = 3)) : ¬ (0 ≤ a0 ∧ a0 ≤ 3 ∧ a1 = 0) := by
  first | (first | omega | (have hr0 := Int32.toInt_lt a0; have hs0 := Int32.le_toInt a0; have hr1 := Int32.toInt_lt a1; have hs1 := Int32.le_toInt a1; simp only [Int64.toInt_add, Int64.toInt_sub, Int32.toInt_add, Int32.toInt_sub, Int32.toInt_mul, Int64.le_iff_toInt_le, Int64.lt_iff_toInt_lt, Int32.le_iff_toInt_le, Int32.lt_iff_toInt_lt, ← Int32.toInt_inj, ← Int64.toInt_inj, Int32.toInt_toInt64, kc_0, kc_1, kc_2, kc_3, true_and, and_true, not_true_eq_false, not_false_eq_true] at * <;> ((first | omega | ((try simp (disch := omega) only [k_bm64] at *); (try simp (disch := omega) only [k_bm] at *); (try simp (disch := omega) only [k_bm] at *); omega) | (simp only [Int.bmod] at *; omega))))) | with_reducible assumption | exact Or.inl rfl | rfl
set_option maxHeartbeats 4000000 in
set_option maxRecDepth 100000 in
theorem j_lose (l : Launch) (dC : Nat → ClassId) (dI : Nat → Nat → Nat) (cI cJ cQ : ClassId) (sz : Nat) (hx : Nat) (ss : Int32) (aLa : Nat) (aPa : Nat) (aGe : Nat) (aFl : Nat) (aTr : Nat) (aBe : Nat) (aLu : Nat) (aLo : Nat) (vSf : Nat) (vSm : Nat) (vCo : Nat) (vSh : Nat) (xs : Int32) (xl : Int32) (xf : Int32) (s0 : Nat) (i0 : Nat) (sLo : Nat → Int32) (sFo : Nat → Int32) (sSi : Nat → Int32) (s1 : Nat) (i1 : Nat) (s2 : Nat) (i2 : Nat) (s3 : Nat) (i3 : Nat) (hh0 : k_bd 4 0 60 sSi) : Met l yX11_lose (kW yX11_lose cX11_lose 3 (some .int)) { frames := 1, cells := 0, slots := 0, locals := 21 } (kPre dC dI cI cJ cQ sz [.ref hx, .int ss] [(kX11 hx aLa aPa aGe aFl aTr aBe aLu aLo vSf vSm vCo vSh xs xl xf), (kAQ vSh cQ 4 (fSh s0 s1 s2 s3)), (kX8 s0 i0 (sLo 0) (sFo 0) (sSi 0)), (kX8 s1 i1 (sLo 1) (sFo 1) (sSi 1)), (kX8 s2 i2 (sLo 2) (sFo 2) (sSi 2)), (kX8 s3 i3 (sLo 3) (sFo 3) (sSi 3))]) (va_Qi (fun (r : Int32) (u : kS) => (r = if 0 ≤ ss ∧ ss ≤ 3 then (if sLo ss.toNatClampNeg = 0 then sSi ss.toNatClampNeg else -11) else -2) ∧ ((u.2.1 0) = if 0 ≤ ss ∧ ss ≤ 3 ∧ sLo ss.toNatClampNeg = 0 then upd sLo ss.toNatClampNeg 1 else sLo) ∧ ((u.1 0) = kFd r xf)) (fun (u : kS) t₀ => kB dC dI cI cJ cQ (va_A [(kX11 hx aLa aPa aGe aFl aTr aBe aLu aLo vSf vSm vCo vSh xs xl xf), (kAQ vSh cQ 4 (fSh s0 s1 s2 s3)), (kX8 s0 i0 (sLo 0) (sFo 0) (sSi 0)), (kX8 s1 i1 (sLo 1) (sFo 1) (sSi 1)), (kX8 s2 i2 (sLo 2) (sFo 2) (sSi 2)), (kX8 s3 i3 (sLo 3) (sFo 3) (sSi 3))] sz) [(kX11 hx aLa aPa aGe aFl aTr aBe aLu aLo vSf vSm vCo vSh xs xl (u.1 0)), (kAQ vSh cQ 4 (fSh s0 s1 s2 s3)), (kX8 s0 i0 ((u.2.1 0) 0) (sFo 0) (sSi 0)), (kX8 s1 i1 ((u.2.1 0) 1) (sFo 1) (sSi 1)), (kX8 s2 i2 ((u.2.1 0) 2) (sFo 2) (sSi 2)), (kX8 s3 i3 ((u.2.1 0) 3) (sFo 3) (sSi 3))] t₀) (va_A [(kX11 hx aLa aPa aGe aFl aTr aBe aLu aLo vSf vSm vCo vSh xs xl xf), (kAQ vSh cQ 4 (fSh s0 s1 s2 s3)), (kX8 s0 i0 (sLo 0) (sFo 0) (sSi 0)), (kX8 s1 i1 (sLo 1) (sFo 1) (sSi 1)), (kX8 s2 i2 (sLo 2) (sFo 2) (sSi 2)), (kX8 s3 i3 (sLo 3) (sFo 3) (sSi 3))] sz)) 0 0 (va_A [(kX11 hx aLa aPa aGe aFl aTr aBe aLu aLo vSf vSm vCo vSh xs xl xf), (kAQ vSh cQ 4 (fSh s0 s1 s2 s3)), (kX8 s0 i0 (sLo 0) (sFo 0) (sSi 0)), (kX8 s1 i1 (sLo 1) (sFo 1) (sSi 1)), (kX8 s2 i2 (sLo 2) (sFo 2) (sSi 2)), (kX8 s3 i3 (sLo 3) (sFo 3) (sSi 3))] sz) := by
  refine Met.ofW (cc := cX11_lose) (maxL := 3) (ret := (some .int)) (by decide) rfl ?_
  intro p₀ e₀ s₀ m₀ args below meth c₀ s₁ B hml hv₀
  obtain ⟨rfl, hsz, hP, hK, hD0, hN⟩ := hv₀
  have hx₀ := B.exec
  have hb := B.bytes
  have hr := B.returns
  have hts := atoms_spec (ws := (kW yX11_lose cX11_lose 3 (some .int))) B.pre
  have hts := fun w h => hts w (List.mem_cons_of_mem _ h)
  have hown : s₀.vm.findClass RX11 = some m₀.cls := findClass_of_methodNamed B.named
  have hlocks := B.notSynchronized
  subst hsz
  have hD := hD0.self (sz := s₀.heap.size)
  generalize hAe : va_A [(kX11 hx aLa aPa aGe aFl aTr aBe aLu aLo vSf vSm vCo vSh xs xl xf), (kAQ vSh cQ 4 (fSh s0 s1 s2 s3)), (kX8 s0 i0 (sLo 0) (sFo 0) (sSi 0)), (kX8 s1 i1 (sLo 1) (sFo 1) (sSi 1)), (kX8 s2 i2 (sLo 2) (sFo 2) (sSi 2)), (kX8 s3 i3 (sLo 3) (sFo 3) (sSi 3))] s₀.heap.size = A at hD ⊢
  have hA : ∀ q : Nat, s₀.heap.size ≤ q → A q := fun q h => by rw [← hAe]; exact Or.inr h
  have hS : va_S A s₀.heap s₀.heap [] := va_S.rf
  have hP : va_P (dC, dI) vwCl [(kX11 hx aLa aPa aGe aFl aTr aBe aLu aLo vSf vSm vCo vSh xs xl xf), (kAQ vSh cQ 4 (fSh s0 s1 s2 s3)), (kX8 s0 i0 (sLo 0) (sFo 0) (sSi 0)), (kX8 s1 i1 (sLo 1) (sFo 1) (sSi 1)), (kX8 s2 i2 (sLo 2) (sFo 2) (sSi 2)), (kX8 s3 i3 (sLo 3) (sFo 3) (sSi 3))] s₀.heap := hP
  have hl := lv_entry ([.ref hx, .int ss]) (n := 3) (Nat.le_of_ble_eq_true rfl)
  rw [lg_entry_eq]
  generalize (lg_sl ([.ref hx, .int ss]) ++ List.replicate (3 - (lg_sl ([.ref hx, .int ss])).length) Slot.unset).toArray = ls at hl ⊢
  have hl : lv_has ls 3 [(0, .ref hx), (1, .int ss)] := hl
  obtain ⟨H, hH⟩ : ∃ z : Heap, z = s₀.heap := ⟨_, rfl⟩
  rw [← hH] at hP
  have hS : va_S A s₀.heap H [] := by rw [hH]; exact hS
  refine k_heap hH ?_
  have hD : va_D A [(kX11 hx aLa aPa aGe aFl aTr aBe aLu aLo vSf vSm vCo vSh xs xl xf), (kAQ vSh cQ 4 (fSh s0 s1 s2 s3)), (kX8 s0 i0 (sLo 0) (sFo 0) (sSi 0)), (kX8 s1 i1 (sLo 1) (sFo 1) (sSi 1)), (kX8 s2 i2 (sLo 2) (sFo 2) (sSi 2)), (kX8 s3 i3 (sLo 3) (sFo 3) (sSi 3))] := hD
  obtain ⟨locs, hlo⟩ : ∃ z : List Loc, z = [] := ⟨_, rfl⟩
  rw [← hlo] at hS ⊢
  clear hlo hH hAe hD0
  have hq0 : 0 ≤ (sSi 0).toInt ∧ (sSi 0).toInt ≤ 60 := hh0 0 (by decide)
  have hq1 : 0 ≤ (sSi 1).toInt ∧ (sSi 1).toInt ≤ 60 := hh0 1 (by decide)
  have hq2 : 0 ≤ (sSi 2).toInt ∧ (sSi 2).toInt ≤ 60 := hh0 2 (by decide)
  have hq3 : 0 ≤ (sSi 3).toInt ∧ (sSi 3).toInt ≤ 60 := hh0 3 (by decide)
  refine lv_aload_n hx₀ hb dX11_lose_0 rfl (lv_at hl 0 rfl) ?_
  refine lv_iload_n hx₀ hb dX11_lose_1 rfl (lv_at hl 1 rfl) ?_
  obtain ⟨hPc, hDc, hFc, hC⟩ := k_cw (wc := [(kX11 hx aLa aPa aGe aFl aTr aBe aLu aLo vSf vSm vCo vSh xs xl xf), (kAQ vSh cQ 4 (fSh s0 s1 s2 s3))]) hP hD hS hA [0, 1] (by decide +kernel) rfl
  refine va_callq (va_runV (As := [.int ss]) (rest := []) ⟨hx₀, hb, hml, hown, hts⟩ (j_sheetOf l dC dI cI cJ cQ H.size hx ss aLa aPa aGe aFl aTr aBe aLu aLo vSf vSm vCo vSh xs xl xf s0 s1 s2 s3) (cwV 1 hts (kGV wd_383 wd_380 wd_381 wd_382 wd_2) rfl rfl rfl (by decide +kernel) ⟨Nat.le_of_ble_eq_true rfl, Nat.le_of_ble_eq_true rfl⟩) (k_preV10 (q0 := 0) hK hPc hDc hN rfl) rfl rfl hl.1 rfl (lv_room (Nat.le_of_ble_eq_true rfl)) dX11_lose_2 ⟨by decide +kernel, by decide +kernel⟩) hS (fun q _ h => hFc q h) hFc (fun r_1 u₀ t₀ H1 locs ht hvm hw hB hz1 hk1 hS => ?_)
  obtain ⟨hP1, hK1, hD1⟩ := hB
  rw [ht] at hP1
  have hJ := k_jn (wr := [(kX8 s0 i0 (sLo 0) (sFo 0) (sSi 0)), (kX8 s1 i1 (sLo 1) (sFo 1) (sSi 1)), (kX8 s2 i2 (sLo 2) (sFo 2) (sSi 2)), (kX8 s3 i3 (sLo 3) (sFo 3) (sSi 3))]) (wt := [(kX8 s0 i0 (sLo 0) (sFo 0) (sSi 0)), (kX8 s1 i1 (sLo 1) (sFo 1) (sSi 1)), (kX8 s2 i2 (sLo 2) (sFo 2) (sSi 2)), (kX8 s3 i3 (sLo 3) (sFo 3) (sSi 3)), (kX11 hx aLa aPa aGe aFl aTr aBe aLu aLo vSf vSm vCo vSh xs xl xf), (kAQ vSh cQ 4 (fSh s0 s1 s2 s3))]) hP hD hC [2, 3, 4, 5] rfl (by decide +kernel) (by decide +kernel) hk1 hFc hP1 hD1 rfl
  clear hP hD hPc hDc hFc hC hP1 hD1 hK1 hz1 hk1 hvm ht
  obtain ⟨hP, hD⟩ := hJ
  generalize H1 = H at hP hS ⊢
  try dsimp only at hw
  by_cases c_2 : ss = 0
  · rw [if_pos c_2] at hw
    subst hw
    refine W.eq (g2 := F0 m₀ 5 ls [.ref s0]) rfl ?_
    subst c_2
    refine lv_astore_n (lv' := [(2, .ref s0), (0, .ref hx), (1, .int 0)]) hx₀ hb dX11_lose_5 rfl hl (by decide) rfl (fun ls hl => ?_)
    refine lv_aload_n hx₀ hb dX11_lose_6 rfl (lv_at hl 0 rfl) ?_
    refine lv_ifnonnull (tgt := 13) hx₀ hb dX11_lose_7 (by decide) ?_
    refine lv_aload_n hx₀ hb dX11_lose_13 rfl (lv_at hl 0 rfl) ?_
    refine va_get (D := (dC, dI)) (ci := 8) (v := .int (sLo 0)) (C := RX8) (T := TX8) (N := 4) hx₀ hb hts inlX8 hown hK hP 0 rfl rfl 1 (by decide) (hts (.fieldLink RX11 133 "BittenStick$Sheet" "isLost" "Z") wd_378) (fun _ h9 => h9) rfl dX11_lose_14 ?_
    refine lv_if_eq (tgt := 26) hx₀ hb dX11_lose_17 (by decide) (fun c_3 => ?_) (fun c_3 => ?_)
    · refine lv_aload_n hx₀ hb dX11_lose_26 rfl (lv_at hl 0 rfl) ?_
      refine lv_iconst (v := 1) hx₀ hb dX11_lose_27 (by decide +kernel) ?_
      refine va_put (D := (dC, dI)) (ci := 8) (v := .int 1) (ty := .boolean) (C := RX8) (T := TX8) (N := 4) hx₀ hb hts inlX8 tyX8 tyX8_ok nmX8 hown hK hP hD hS 0 rfl rfl 1 (by decide) (hts (.fieldLink RX11 133 "BittenStick$Sheet" "isLost" "Z") wd_378) (fun _ h9 => h9) rfl (by decide +kernel) (by decide +kernel) (by decide +kernel) (Nat.le_of_ble_eq_true rfl) dX11_lose_28 ?_
      clear hP hD hS
      intro H locs hP hD hS
      replace hP := k_w2 (wt := [(kX8 s0 i0 1 (sFo 0) (sSi 0)), (kX8 s1 i1 (sLo 1) (sFo 1) (sSi 1)), (kX8 s2 i2 (sLo 2) (sFo 2) (sSi 2)), (kX8 s3 i3 (sLo 3) (sFo 3) (sSi 3)), (kX11 hx aLa aPa aGe aFl aTr aBe aLu aLo vSf vSm vCo vSh xs xl xf), (kAQ vSh cQ 4 (fSh s0 s1 s2 s3))]) hP hD rfl
      replace hD := hP.2
      replace hP := hP.1
      refine lv_aload_n hx₀ hb dX11_lose_31 rfl (lv_at hl 0 rfl) ?_
      refine va_get (D := (dC, dI)) (ci := 8) (v := .int (sSi 0)) (C := RX8) (T := TX8) (N := 4) hx₀ hb hts inlX8 hown hK hP 0 rfl rfl 3 (by decide) (hts (.fieldLink RX11 140 "BittenStick$Sheet" "size" "I") wd_379) (fun _ h9 => h9) rfl dX11_lose_32 ?_
      obtain ⟨hP9, hD9⟩ := k_c2 (wc := [(kX11 hx aLa aPa aGe aFl aTr aBe aLu aLo vSf vSm vCo vSh xs xl xf), (kAQ vSh cQ 4 (fSh s0 s1 s2 s3)), (kX8 s0 i0 1 (sFo 0) (sSi 0)), (kX8 s1 i1 (sLo 1) (sFo 1) (sSi 1)), (kX8 s2 i2 (sLo 2) (sFo 2) (sSi 2)), (kX8 s3 i3 (sLo 3) (sFo 3) (sSi 3))]) hP hD [4, 5, 0, 1, 2, 3] (by decide +kernel) rfl
      exact W.iret (v := sSi 0) hx₀ hb hr (fun t₀ ht hW => ⟨⟨sSi 0, (k_fn [xf], k_fa [upd sLo (0 : Int32).toNatClampNeg (1 : Int32)], k_fl [], k_fL [], k_fp []), rfl, ⟨(show (sSi 0 : Int32) = if 0 ≤ (0 : Int32) ∧ (0 : Int32) ≤ 3 then (if sLo (0 : Int32).toNatClampNeg = 0 then sSi (0 : Int32).toNatClampNeg else -11) else -2 from (((if_pos (c_3)).symm).trans (if_pos (show 0 ≤ (0 : Int32) ∧ (0 : Int32) ≤ 3 from ⟨(by decide), (by decide)⟩)).symm)), (if_pos (show 0 ≤ (0 : Int32) ∧ (0 : Int32) ≤ 3 ∧ sLo (0 : Int32).toNatClampNeg = 0 from ⟨(by decide), (by decide), c_3⟩)).symm, (kFd_ge (lf_j_lose_1 (sSi 0) hq0)).symm⟩, by rw [ht]; exact hP9, va_K.moved hW.alike hK, hD9⟩, hS.F ht⟩) hS.2.2 dX11_lose_35
    · refine lv_aload_n hx₀ hb dX11_lose_20 rfl (lv_at hl 1 rfl) ?_
      refine lv_iconst (v := 1) hx₀ hb dX11_lose_21 (by decide +kernel) ?_
      obtain ⟨hPc, hDc, hFc, hC⟩ := k_cw (wc := [(kX11 hx aLa aPa aGe aFl aTr aBe aLu aLo vSf vSm vCo vSh xs xl xf)]) hP hD hS hA [4] (by decide +kernel) rfl
      refine va_calli (va_runV (As := [.int 1]) (rest := []) ⟨hx₀, hb, hml, hown, hts⟩ (j_found1 l dC dI cI cJ cQ H.size hx aLa aPa aGe aFl aTr aBe aLu aLo vSf vSm vCo vSh xs xl xf) (cwV 1 hts (kGV wd_387 wd_384 wd_385 wd_386 wd_2) rfl rfl rfl (by decide +kernel) ⟨Nat.le_of_ble_eq_true rfl, Nat.le_of_ble_eq_true rfl⟩) (k_preV10 (q0 := 0) hK hPc hDc hN rfl) rfl rfl hl.1 rfl (lv_room (Nat.le_of_ble_eq_true rfl)) dX11_lose_22 ⟨by decide +kernel, by decide +kernel⟩) hS (fun q _ h => hFc q h) hFc (fun r_4 u₀ t₀ H1 locs ht hvm hw hB hz1 hk1 hS => ?_)
      obtain ⟨hP1, hK1, hD1⟩ := hB
      rw [ht] at hP1
      have hJ := k_jn (wr := [(kX8 s0 i0 (sLo 0) (sFo 0) (sSi 0)), (kX8 s1 i1 (sLo 1) (sFo 1) (sSi 1)), (kX8 s2 i2 (sLo 2) (sFo 2) (sSi 2)), (kX8 s3 i3 (sLo 3) (sFo 3) (sSi 3)), (kAQ vSh cQ 4 (fSh s0 s1 s2 s3))]) (wt := [(kX8 s0 i0 (sLo 0) (sFo 0) (sSi 0)), (kX8 s1 i1 (sLo 1) (sFo 1) (sSi 1)), (kX8 s2 i2 (sLo 2) (sFo 2) (sSi 2)), (kX8 s3 i3 (sLo 3) (sFo 3) (sSi 3)), (kAQ vSh cQ 4 (fSh s0 s1 s2 s3)), (kX11 hx aLa aPa aGe aFl aTr aBe aLu aLo vSf vSm vCo vSh xs xl 1)]) hP hD hC [0, 1, 2, 3, 5] rfl (by decide +kernel) (by decide +kernel) hk1 hFc hP1 hD1 rfl
      clear hP hD hPc hDc hFc hC hP1 hD1 hK1 hz1 hk1 hvm ht
      obtain ⟨hP, hD⟩ := hJ
      generalize H1 = H at hP hS ⊢
      try dsimp only at hw
      refine k_topi (v := (-11)) hw ?_
      obtain ⟨hP9, hD9⟩ := k_c2 (wc := [(kX11 hx aLa aPa aGe aFl aTr aBe aLu aLo vSf vSm vCo vSh xs xl 1), (kAQ vSh cQ 4 (fSh s0 s1 s2 s3)), (kX8 s0 i0 (sLo 0) (sFo 0) (sSi 0)), (kX8 s1 i1 (sLo 1) (sFo 1) (sSi 1)), (kX8 s2 i2 (sLo 2) (sFo 2) (sSi 2)), (kX8 s3 i3 (sLo 3) (sFo 3) (sSi 3))]) hP hD [5, 4, 0, 1, 2, 3] (by decide +kernel) rfl
      exact W.iret (v := (-11)) hx₀ hb hr (fun t₀ ht hW => ⟨⟨(-11), (k_fn [(1 : Int32)], k_fa [sLo], k_fl [], k_fL [], k_fp []), rfl, ⟨(show ((-11) : Int32) = if 0 ≤ (0 : Int32) ∧ (0 : Int32) ≤ 3 then (if sLo (0 : Int32).toNatClampNeg = 0 then sSi (0 : Int32).toNatClampNeg else -11) else -2 from (((if_neg (c_3)).symm).trans (if_pos (show 0 ≤ (0 : Int32) ∧ (0 : Int32) ≤ 3 from ⟨(by decide), (by decide)⟩)).symm)), (if_neg (show ¬ (0 ≤ (0 : Int32) ∧ (0 : Int32) ≤ 3 ∧ sLo (0 : Int32).toNatClampNeg = 0) from (fun z => c_3 z.2.2))).symm, kFd_11.symm⟩, by rw [ht]; exact hP9, va_K.moved hW.alike hK, hD9⟩, hS.F ht⟩) hS.2.2 dX11_lose_25
  rw [if_neg c_2] at hw
  by_cases c_5 : ss = 1
  · rw [if_pos c_5] at hw
    subst hw
    refine W.eq (g2 := F0 m₀ 5 ls [.ref s1]) rfl ?_
    subst c_5
    refine lv_astore_n (lv' := [(2, .ref s1), (0, .ref hx), (1, .int 1)]) hx₀ hb dX11_lose_5 rfl hl (by decide) rfl (fun ls hl => ?_)
    refine lv_aload_n hx₀ hb dX11_lose_6 rfl (lv_at hl 0 rfl) ?_
    refine lv_ifnonnull (tgt := 13) hx₀ hb dX11_lose_7 (by decide) ?_
    refine lv_aload_n hx₀ hb dX11_lose_13 rfl (lv_at hl 0 rfl) ?_
    refine va_get (D := (dC, dI)) (ci := 8) (v := .int (sLo 1)) (C := RX8) (T := TX8) (N := 4) hx₀ hb hts inlX8 hown hK hP 1 rfl rfl 1 (by decide) (hts (.fieldLink RX11 133 "BittenStick$Sheet" "isLost" "Z") wd_378) (fun _ h9 => h9) rfl dX11_lose_14 ?_
    refine lv_if_eq (tgt := 26) hx₀ hb dX11_lose_17 (by decide) (fun c_6 => ?_) (fun c_6 => ?_)
    · refine lv_aload_n hx₀ hb dX11_lose_26 rfl (lv_at hl 0 rfl) ?_
      refine lv_iconst (v := 1) hx₀ hb dX11_lose_27 (by decide +kernel) ?_
      refine va_put (D := (dC, dI)) (ci := 8) (v := .int 1) (ty := .boolean) (C := RX8) (T := TX8) (N := 4) hx₀ hb hts inlX8 tyX8 tyX8_ok nmX8 hown hK hP hD hS 1 rfl rfl 1 (by decide) (hts (.fieldLink RX11 133 "BittenStick$Sheet" "isLost" "Z") wd_378) (fun _ h9 => h9) rfl (by decide +kernel) (by decide +kernel) (by decide +kernel) (Nat.le_of_ble_eq_true rfl) dX11_lose_28 ?_
      clear hP hD hS
      intro H locs hP hD hS
      replace hP := k_w2 (wt := [(kX8 s0 i0 (sLo 0) (sFo 0) (sSi 0)), (kX8 s1 i1 1 (sFo 1) (sSi 1)), (kX8 s2 i2 (sLo 2) (sFo 2) (sSi 2)), (kX8 s3 i3 (sLo 3) (sFo 3) (sSi 3)), (kX11 hx aLa aPa aGe aFl aTr aBe aLu aLo vSf vSm vCo vSh xs xl xf), (kAQ vSh cQ 4 (fSh s0 s1 s2 s3))]) hP hD rfl
      replace hD := hP.2
      replace hP := hP.1
      refine lv_aload_n hx₀ hb dX11_lose_31 rfl (lv_at hl 0 rfl) ?_
      refine va_get (D := (dC, dI)) (ci := 8) (v := .int (sSi 1)) (C := RX8) (T := TX8) (N := 4) hx₀ hb hts inlX8 hown hK hP 1 rfl rfl 3 (by decide) (hts (.fieldLink RX11 140 "BittenStick$Sheet" "size" "I") wd_379) (fun _ h9 => h9) rfl dX11_lose_32 ?_
      obtain ⟨hP9, hD9⟩ := k_c2 (wc := [(kX11 hx aLa aPa aGe aFl aTr aBe aLu aLo vSf vSm vCo vSh xs xl xf), (kAQ vSh cQ 4 (fSh s0 s1 s2 s3)), (kX8 s0 i0 (sLo 0) (sFo 0) (sSi 0)), (kX8 s1 i1 1 (sFo 1) (sSi 1)), (kX8 s2 i2 (sLo 2) (sFo 2) (sSi 2)), (kX8 s3 i3 (sLo 3) (sFo 3) (sSi 3))]) hP hD [4, 5, 0, 1, 2, 3] (by decide +kernel) rfl
      exact W.iret (v := sSi 1) hx₀ hb hr (fun t₀ ht hW => ⟨⟨sSi 1, (k_fn [xf], k_fa [upd sLo (1 : Int32).toNatClampNeg (1 : Int32)], k_fl [], k_fL [], k_fp []), rfl, ⟨(show (sSi 1 : Int32) = if 0 ≤ (1 : Int32) ∧ (1 : Int32) ≤ 3 then (if sLo (1 : Int32).toNatClampNeg = 0 then sSi (1 : Int32).toNatClampNeg else -11) else -2 from (((if_pos (c_6)).symm).trans (if_pos (show 0 ≤ (1 : Int32) ∧ (1 : Int32) ≤ 3 from ⟨(by decide), (by decide)⟩)).symm)), (if_pos (show 0 ≤ (1 : Int32) ∧ (1 : Int32) ≤ 3 ∧ sLo (1 : Int32).toNatClampNeg = 0 from ⟨(by decide), (by decide), c_6⟩)).symm, (kFd_ge (lf_j_lose_1 (sSi 1) hq1)).symm⟩, by rw [ht]; exact hP9, va_K.moved hW.alike hK, hD9⟩, hS.F ht⟩) hS.2.2 dX11_lose_35
    · refine lv_aload_n hx₀ hb dX11_lose_20 rfl (lv_at hl 1 rfl) ?_
      refine lv_iconst (v := 1) hx₀ hb dX11_lose_21 (by decide +kernel) ?_
      obtain ⟨hPc, hDc, hFc, hC⟩ := k_cw (wc := [(kX11 hx aLa aPa aGe aFl aTr aBe aLu aLo vSf vSm vCo vSh xs xl xf)]) hP hD hS hA [4] (by decide +kernel) rfl
      refine va_calli (va_runV (As := [.int 1]) (rest := []) ⟨hx₀, hb, hml, hown, hts⟩ (j_found1 l dC dI cI cJ cQ H.size hx aLa aPa aGe aFl aTr aBe aLu aLo vSf vSm vCo vSh xs xl xf) (cwV 1 hts (kGV wd_387 wd_384 wd_385 wd_386 wd_2) rfl rfl rfl (by decide +kernel) ⟨Nat.le_of_ble_eq_true rfl, Nat.le_of_ble_eq_true rfl⟩) (k_preV10 (q0 := 0) hK hPc hDc hN rfl) rfl rfl hl.1 rfl (lv_room (Nat.le_of_ble_eq_true rfl)) dX11_lose_22 ⟨by decide +kernel, by decide +kernel⟩) hS (fun q _ h => hFc q h) hFc (fun r_7 u₀ t₀ H1 locs ht hvm hw hB hz1 hk1 hS => ?_)
      obtain ⟨hP1, hK1, hD1⟩ := hB
      rw [ht] at hP1
      have hJ := k_jn (wr := [(kX8 s0 i0 (sLo 0) (sFo 0) (sSi 0)), (kX8 s1 i1 (sLo 1) (sFo 1) (sSi 1)), (kX8 s2 i2 (sLo 2) (sFo 2) (sSi 2)), (kX8 s3 i3 (sLo 3) (sFo 3) (sSi 3)), (kAQ vSh cQ 4 (fSh s0 s1 s2 s3))]) (wt := [(kX8 s0 i0 (sLo 0) (sFo 0) (sSi 0)), (kX8 s1 i1 (sLo 1) (sFo 1) (sSi 1)), (kX8 s2 i2 (sLo 2) (sFo 2) (sSi 2)), (kX8 s3 i3 (sLo 3) (sFo 3) (sSi 3)), (kAQ vSh cQ 4 (fSh s0 s1 s2 s3)), (kX11 hx aLa aPa aGe aFl aTr aBe aLu aLo vSf vSm vCo vSh xs xl 1)]) hP hD hC [0, 1, 2, 3, 5] rfl (by decide +kernel) (by decide +kernel) hk1 hFc hP1 hD1 rfl
      clear hP hD hPc hDc hFc hC hP1 hD1 hK1 hz1 hk1 hvm ht
      obtain ⟨hP, hD⟩ := hJ
      generalize H1 = H at hP hS ⊢
      try dsimp only at hw
      refine k_topi (v := (-11)) hw ?_
      obtain ⟨hP9, hD9⟩ := k_c2 (wc := [(kX11 hx aLa aPa aGe aFl aTr aBe aLu aLo vSf vSm vCo vSh xs xl 1), (kAQ vSh cQ 4 (fSh s0 s1 s2 s3)), (kX8 s0 i0 (sLo 0) (sFo 0) (sSi 0)), (kX8 s1 i1 (sLo 1) (sFo 1) (sSi 1)), (kX8 s2 i2 (sLo 2) (sFo 2) (sSi 2)), (kX8 s3 i3 (sLo 3) (sFo 3) (sSi 3))]) hP hD [5, 4, 0, 1, 2, 3] (by decide +kernel) rfl
      exact W.iret (v := (-11)) hx₀ hb hr (fun t₀ ht hW => ⟨⟨(-11), (k_fn [(1 : Int32)], k_fa [sLo], k_fl [], k_fL [], k_fp []), rfl, ⟨(show ((-11) : Int32) = if 0 ≤ (1 : Int32) ∧ (1 : Int32) ≤ 3 then (if sLo (1 : Int32).toNatClampNeg = 0 then sSi (1 : Int32).toNatClampNeg else -11) else -2 from (((if_neg (c_6)).symm).trans (if_pos (show 0 ≤ (1 : Int32) ∧ (1 : Int32) ≤ 3 from ⟨(by decide), (by decide)⟩)).symm)), (if_neg (show ¬ (0 ≤ (1 : Int32) ∧ (1 : Int32) ≤ 3 ∧ sLo (1 : Int32).toNatClampNeg = 0) from (fun z => c_6 z.2.2))).symm, kFd_11.symm⟩, by rw [ht]; exact hP9, va_K.moved hW.alike hK, hD9⟩, hS.F ht⟩) hS.2.2 dX11_lose_25
  rw [if_neg c_5] at hw
  by_cases c_8 : ss = 2
  · rw [if_pos c_8] at hw
    subst hw
    refine W.eq (g2 := F0 m₀ 5 ls [.ref s2]) rfl ?_
    subst c_8
    refine lv_astore_n (lv' := [(2, .ref s2), (0, .ref hx), (1, .int 2)]) hx₀ hb dX11_lose_5 rfl hl (by decide) rfl (fun ls hl => ?_)
    refine lv_aload_n hx₀ hb dX11_lose_6 rfl (lv_at hl 0 rfl) ?_
    refine lv_ifnonnull (tgt := 13) hx₀ hb dX11_lose_7 (by decide) ?_
    refine lv_aload_n hx₀ hb dX11_lose_13 rfl (lv_at hl 0 rfl) ?_
    refine va_get (D := (dC, dI)) (ci := 8) (v := .int (sLo 2)) (C := RX8) (T := TX8) (N := 4) hx₀ hb hts inlX8 hown hK hP 2 rfl rfl 1 (by decide) (hts (.fieldLink RX11 133 "BittenStick$Sheet" "isLost" "Z") wd_378) (fun _ h9 => h9) rfl dX11_lose_14 ?_
    refine lv_if_eq (tgt := 26) hx₀ hb dX11_lose_17 (by decide) (fun c_9 => ?_) (fun c_9 => ?_)
    · refine lv_aload_n hx₀ hb dX11_lose_26 rfl (lv_at hl 0 rfl) ?_
      refine lv_iconst (v := 1) hx₀ hb dX11_lose_27 (by decide +kernel) ?_
      refine va_put (D := (dC, dI)) (ci := 8) (v := .int 1) (ty := .boolean) (C := RX8) (T := TX8) (N := 4) hx₀ hb hts inlX8 tyX8 tyX8_ok nmX8 hown hK hP hD hS 2 rfl rfl 1 (by decide) (hts (.fieldLink RX11 133 "BittenStick$Sheet" "isLost" "Z") wd_378) (fun _ h9 => h9) rfl (by decide +kernel) (by decide +kernel) (by decide +kernel) (Nat.le_of_ble_eq_true rfl) dX11_lose_28 ?_
      clear hP hD hS
      intro H locs hP hD hS
      replace hP := k_w2 (wt := [(kX8 s0 i0 (sLo 0) (sFo 0) (sSi 0)), (kX8 s1 i1 (sLo 1) (sFo 1) (sSi 1)), (kX8 s2 i2 1 (sFo 2) (sSi 2)), (kX8 s3 i3 (sLo 3) (sFo 3) (sSi 3)), (kX11 hx aLa aPa aGe aFl aTr aBe aLu aLo vSf vSm vCo vSh xs xl xf), (kAQ vSh cQ 4 (fSh s0 s1 s2 s3))]) hP hD rfl
      replace hD := hP.2
      replace hP := hP.1
      refine lv_aload_n hx₀ hb dX11_lose_31 rfl (lv_at hl 0 rfl) ?_
      refine va_get (D := (dC, dI)) (ci := 8) (v := .int (sSi 2)) (C := RX8) (T := TX8) (N := 4) hx₀ hb hts inlX8 hown hK hP 2 rfl rfl 3 (by decide) (hts (.fieldLink RX11 140 "BittenStick$Sheet" "size" "I") wd_379) (fun _ h9 => h9) rfl dX11_lose_32 ?_
      obtain ⟨hP9, hD9⟩ := k_c2 (wc := [(kX11 hx aLa aPa aGe aFl aTr aBe aLu aLo vSf vSm vCo vSh xs xl xf), (kAQ vSh cQ 4 (fSh s0 s1 s2 s3)), (kX8 s0 i0 (sLo 0) (sFo 0) (sSi 0)), (kX8 s1 i1 (sLo 1) (sFo 1) (sSi 1)), (kX8 s2 i2 1 (sFo 2) (sSi 2)), (kX8 s3 i3 (sLo 3) (sFo 3) (sSi 3))]) hP hD [4, 5, 0, 1, 2, 3] (by decide +kernel) rfl
      exact W.iret (v := sSi 2) hx₀ hb hr (fun t₀ ht hW => ⟨⟨sSi 2, (k_fn [xf], k_fa [upd sLo (2 : Int32).toNatClampNeg (1 : Int32)], k_fl [], k_fL [], k_fp []), rfl, ⟨(show (sSi 2 : Int32) = if 0 ≤ (2 : Int32) ∧ (2 : Int32) ≤ 3 then (if sLo (2 : Int32).toNatClampNeg = 0 then sSi (2 : Int32).toNatClampNeg else -11) else -2 from (((if_pos (c_9)).symm).trans (if_pos (show 0 ≤ (2 : Int32) ∧ (2 : Int32) ≤ 3 from ⟨(by decide), (by decide)⟩)).symm)), (if_pos (show 0 ≤ (2 : Int32) ∧ (2 : Int32) ≤ 3 ∧ sLo (2 : Int32).toNatClampNeg = 0 from ⟨(by decide), (by decide), c_9⟩)).symm, (kFd_ge (lf_j_lose_1 (sSi 2) hq2)).symm⟩, by rw [ht]; exact hP9, va_K.moved hW.alike hK, hD9⟩, hS.F ht⟩) hS.2.2 dX11_lose_35
    · refine lv_aload_n hx₀ hb dX11_lose_20 rfl (lv_at hl 1 rfl) ?_
      refine lv_iconst (v := 1) hx₀ hb dX11_lose_21 (by decide +kernel) ?_
      obtain ⟨hPc, hDc, hFc, hC⟩ := k_cw (wc := [(kX11 hx aLa aPa aGe aFl aTr aBe aLu aLo vSf vSm vCo vSh xs xl xf)]) hP hD hS hA [4] (by decide +kernel) rfl
      refine va_calli (va_runV (As := [.int 1]) (rest := []) ⟨hx₀, hb, hml, hown, hts⟩ (j_found1 l dC dI cI cJ cQ H.size hx aLa aPa aGe aFl aTr aBe aLu aLo vSf vSm vCo vSh xs xl xf) (cwV 1 hts (kGV wd_387 wd_384 wd_385 wd_386 wd_2) rfl rfl rfl (by decide +kernel) ⟨Nat.le_of_ble_eq_true rfl, Nat.le_of_ble_eq_true rfl⟩) (k_preV10 (q0 := 0) hK hPc hDc hN rfl) rfl rfl hl.1 rfl (lv_room (Nat.le_of_ble_eq_true rfl)) dX11_lose_22 ⟨by decide +kernel, by decide +kernel⟩) hS (fun q _ h => hFc q h) hFc (fun r_10 u₀ t₀ H1 locs ht hvm hw hB hz1 hk1 hS => ?_)
      obtain ⟨hP1, hK1, hD1⟩ := hB
      rw [ht] at hP1
      have hJ := k_jn (wr := [(kX8 s0 i0 (sLo 0) (sFo 0) (sSi 0)), (kX8 s1 i1 (sLo 1) (sFo 1) (sSi 1)), (kX8 s2 i2 (sLo 2) (sFo 2) (sSi 2)), (kX8 s3 i3 (sLo 3) (sFo 3) (sSi 3)), (kAQ vSh cQ 4 (fSh s0 s1 s2 s3))]) (wt := [(kX8 s0 i0 (sLo 0) (sFo 0) (sSi 0)), (kX8 s1 i1 (sLo 1) (sFo 1) (sSi 1)), (kX8 s2 i2 (sLo 2) (sFo 2) (sSi 2)), (kX8 s3 i3 (sLo 3) (sFo 3) (sSi 3)), (kAQ vSh cQ 4 (fSh s0 s1 s2 s3)), (kX11 hx aLa aPa aGe aFl aTr aBe aLu aLo vSf vSm vCo vSh xs xl 1)]) hP hD hC [0, 1, 2, 3, 5] rfl (by decide +kernel) (by decide +kernel) hk1 hFc hP1 hD1 rfl
      clear hP hD hPc hDc hFc hC hP1 hD1 hK1 hz1 hk1 hvm ht
      obtain ⟨hP, hD⟩ := hJ
      generalize H1 = H at hP hS ⊢
      try dsimp only at hw
      refine k_topi (v := (-11)) hw ?_
      obtain ⟨hP9, hD9⟩ := k_c2 (wc := [(kX11 hx aLa aPa aGe aFl aTr aBe aLu aLo vSf vSm vCo vSh xs xl 1), (kAQ vSh cQ 4 (fSh s0 s1 s2 s3)), (kX8 s0 i0 (sLo 0) (sFo 0) (sSi 0)), (kX8 s1 i1 (sLo 1) (sFo 1) (sSi 1)), (kX8 s2 i2 (sLo 2) (sFo 2) (sSi 2)), (kX8 s3 i3 (sLo 3) (sFo 3) (sSi 3))]) hP hD [5, 4, 0, 1, 2, 3] (by decide +kernel) rfl
      exact W.iret (v := (-11)) hx₀ hb hr (fun t₀ ht hW => ⟨⟨(-11), (k_fn [(1 : Int32)], k_fa [sLo], k_fl [], k_fL [], k_fp []), rfl, ⟨(show ((-11) : Int32) = if 0 ≤ (2 : Int32) ∧ (2 : Int32) ≤ 3 then (if sLo (2 : Int32).toNatClampNeg = 0 then sSi (2 : Int32).toNatClampNeg else -11) else -2 from (((if_neg (c_9)).symm).trans (if_pos (show 0 ≤ (2 : Int32) ∧ (2 : Int32) ≤ 3 from ⟨(by decide), (by decide)⟩)).symm)), (if_neg (show ¬ (0 ≤ (2 : Int32) ∧ (2 : Int32) ≤ 3 ∧ sLo (2 : Int32).toNatClampNeg = 0) from (fun z => c_9 z.2.2))).symm, kFd_11.symm⟩, by rw [ht]; exact hP9, va_K.moved hW.alike hK, hD9⟩, hS.F ht⟩) hS.2.2 dX11_lose_25
  rw [if_neg c_8] at hw
  by_cases c_11 : ss = 3
  · rw [if_pos c_11] at hw
    subst hw
    refine W.eq (g2 := F0 m₀ 5 ls [.ref s3]) rfl ?_
    subst c_11
    refine lv_astore_n (lv' := [(2, .ref s3), (0, .ref hx), (1, .int 3)]) hx₀ hb dX11_lose_5 rfl hl (by decide) rfl (fun ls hl => ?_)
    refine lv_aload_n hx₀ hb dX11_lose_6 rfl (lv_at hl 0 rfl) ?_
    refine lv_ifnonnull (tgt := 13) hx₀ hb dX11_lose_7 (by decide) ?_
    refine lv_aload_n hx₀ hb dX11_lose_13 rfl (lv_at hl 0 rfl) ?_
    refine va_get (D := (dC, dI)) (ci := 8) (v := .int (sLo 3)) (C := RX8) (T := TX8) (N := 4) hx₀ hb hts inlX8 hown hK hP 3 rfl rfl 1 (by decide) (hts (.fieldLink RX11 133 "BittenStick$Sheet" "isLost" "Z") wd_378) (fun _ h9 => h9) rfl dX11_lose_14 ?_
    refine lv_if_eq (tgt := 26) hx₀ hb dX11_lose_17 (by decide) (fun c_12 => ?_) (fun c_12 => ?_)
    · refine lv_aload_n hx₀ hb dX11_lose_26 rfl (lv_at hl 0 rfl) ?_
      refine lv_iconst (v := 1) hx₀ hb dX11_lose_27 (by decide +kernel) ?_
      refine va_put (D := (dC, dI)) (ci := 8) (v := .int 1) (ty := .boolean) (C := RX8) (T := TX8) (N := 4) hx₀ hb hts inlX8 tyX8 tyX8_ok nmX8 hown hK hP hD hS 3 rfl rfl 1 (by decide) (hts (.fieldLink RX11 133 "BittenStick$Sheet" "isLost" "Z") wd_378) (fun _ h9 => h9) rfl (by decide +kernel) (by decide +kernel) (by decide +kernel) (Nat.le_of_ble_eq_true rfl) dX11_lose_28 ?_
      clear hP hD hS
      intro H locs hP hD hS
      replace hP := k_w2 (wt := [(kX8 s0 i0 (sLo 0) (sFo 0) (sSi 0)), (kX8 s1 i1 (sLo 1) (sFo 1) (sSi 1)), (kX8 s2 i2 (sLo 2) (sFo 2) (sSi 2)), (kX8 s3 i3 1 (sFo 3) (sSi 3)), (kX11 hx aLa aPa aGe aFl aTr aBe aLu aLo vSf vSm vCo vSh xs xl xf), (kAQ vSh cQ 4 (fSh s0 s1 s2 s3))]) hP hD rfl
      replace hD := hP.2
      replace hP := hP.1
      refine lv_aload_n hx₀ hb dX11_lose_31 rfl (lv_at hl 0 rfl) ?_
      refine va_get (D := (dC, dI)) (ci := 8) (v := .int (sSi 3)) (C := RX8) (T := TX8) (N := 4) hx₀ hb hts inlX8 hown hK hP 3 rfl rfl 3 (by decide) (hts (.fieldLink RX11 140 "BittenStick$Sheet" "size" "I") wd_379) (fun _ h9 => h9) rfl dX11_lose_32 ?_
      obtain ⟨hP9, hD9⟩ := k_c2 (wc := [(kX11 hx aLa aPa aGe aFl aTr aBe aLu aLo vSf vSm vCo vSh xs xl xf), (kAQ vSh cQ 4 (fSh s0 s1 s2 s3)), (kX8 s0 i0 (sLo 0) (sFo 0) (sSi 0)), (kX8 s1 i1 (sLo 1) (sFo 1) (sSi 1)), (kX8 s2 i2 (sLo 2) (sFo 2) (sSi 2)), (kX8 s3 i3 1 (sFo 3) (sSi 3))]) hP hD [4, 5, 0, 1, 2, 3] (by decide +kernel) rfl
      exact W.iret (v := sSi 3) hx₀ hb hr (fun t₀ ht hW => ⟨⟨sSi 3, (k_fn [xf], k_fa [upd sLo (3 : Int32).toNatClampNeg (1 : Int32)], k_fl [], k_fL [], k_fp []), rfl, ⟨(show (sSi 3 : Int32) = if 0 ≤ (3 : Int32) ∧ (3 : Int32) ≤ 3 then (if sLo (3 : Int32).toNatClampNeg = 0 then sSi (3 : Int32).toNatClampNeg else -11) else -2 from (((if_pos (c_12)).symm).trans (if_pos (show 0 ≤ (3 : Int32) ∧ (3 : Int32) ≤ 3 from ⟨(by decide), (by decide)⟩)).symm)), (if_pos (show 0 ≤ (3 : Int32) ∧ (3 : Int32) ≤ 3 ∧ sLo (3 : Int32).toNatClampNeg = 0 from ⟨(by decide), (by decide), c_12⟩)).symm, (kFd_ge (lf_j_lose_1 (sSi 3) hq3)).symm⟩, by rw [ht]; exact hP9, va_K.moved hW.alike hK, hD9⟩, hS.F ht⟩) hS.2.2 dX11_lose_35
    · refine lv_aload_n hx₀ hb dX11_lose_20 rfl (lv_at hl 1 rfl) ?_
      refine lv_iconst (v := 1) hx₀ hb dX11_lose_21 (by decide +kernel) ?_
      obtain ⟨hPc, hDc, hFc, hC⟩ := k_cw (wc := [(kX11 hx aLa aPa aGe aFl aTr aBe aLu aLo vSf vSm vCo vSh xs xl xf)]) hP hD hS hA [4] (by decide +kernel) rfl
      refine va_calli (va_runV (As := [.int 1]) (rest := []) ⟨hx₀, hb, hml, hown, hts⟩ (j_found1 l dC dI cI cJ cQ H.size hx aLa aPa aGe aFl aTr aBe aLu aLo vSf vSm vCo vSh xs xl xf) (cwV 1 hts (kGV wd_387 wd_384 wd_385 wd_386 wd_2) rfl rfl rfl (by decide +kernel) ⟨Nat.le_of_ble_eq_true rfl, Nat.le_of_ble_eq_true rfl⟩) (k_preV10 (q0 := 0) hK hPc hDc hN rfl) rfl rfl hl.1 rfl (lv_room (Nat.le_of_ble_eq_true rfl)) dX11_lose_22 ⟨by decide +kernel, by decide +kernel⟩) hS (fun q _ h => hFc q h) hFc (fun r_13 u₀ t₀ H1 locs ht hvm hw hB hz1 hk1 hS => ?_)
      obtain ⟨hP1, hK1, hD1⟩ := hB
      rw [ht] at hP1
      have hJ := k_jn (wr := [(kX8 s0 i0 (sLo 0) (sFo 0) (sSi 0)), (kX8 s1 i1 (sLo 1) (sFo 1) (sSi 1)), (kX8 s2 i2 (sLo 2) (sFo 2) (sSi 2)), (kX8 s3 i3 (sLo 3) (sFo 3) (sSi 3)), (kAQ vSh cQ 4 (fSh s0 s1 s2 s3))]) (wt := [(kX8 s0 i0 (sLo 0) (sFo 0) (sSi 0)), (kX8 s1 i1 (sLo 1) (sFo 1) (sSi 1)), (kX8 s2 i2 (sLo 2) (sFo 2) (sSi 2)), (kX8 s3 i3 (sLo 3) (sFo 3) (sSi 3)), (kAQ vSh cQ 4 (fSh s0 s1 s2 s3)), (kX11 hx aLa aPa aGe aFl aTr aBe aLu aLo vSf vSm vCo vSh xs xl 1)]) hP hD hC [0, 1, 2, 3, 5] rfl (by decide +kernel) (by decide +kernel) hk1 hFc hP1 hD1 rfl
      clear hP hD hPc hDc hFc hC hP1 hD1 hK1 hz1 hk1 hvm ht
      obtain ⟨hP, hD⟩ := hJ
      generalize H1 = H at hP hS ⊢
      try dsimp only at hw
      refine k_topi (v := (-11)) hw ?_
      obtain ⟨hP9, hD9⟩ := k_c2 (wc := [(kX11 hx aLa aPa aGe aFl aTr aBe aLu aLo vSf vSm vCo vSh xs xl 1), (kAQ vSh cQ 4 (fSh s0 s1 s2 s3)), (kX8 s0 i0 (sLo 0) (sFo 0) (sSi 0)), (kX8 s1 i1 (sLo 1) (sFo 1) (sSi 1)), (kX8 s2 i2 (sLo 2) (sFo 2) (sSi 2)), (kX8 s3 i3 (sLo 3) (sFo 3) (sSi 3))]) hP hD [5, 4, 0, 1, 2, 3] (by decide +kernel) rfl
      exact W.iret (v := (-11)) hx₀ hb hr (fun t₀ ht hW => ⟨⟨(-11), (k_fn [(1 : Int32)], k_fa [sLo], k_fl [], k_fL [], k_fp []), rfl, ⟨(show ((-11) : Int32) = if 0 ≤ (3 : Int32) ∧ (3 : Int32) ≤ 3 then (if sLo (3 : Int32).toNatClampNeg = 0 then sSi (3 : Int32).toNatClampNeg else -11) else -2 from (((if_neg (c_12)).symm).trans (if_pos (show 0 ≤ (3 : Int32) ∧ (3 : Int32) ≤ 3 from ⟨(by decide), (by decide)⟩)).symm)), (if_neg (show ¬ (0 ≤ (3 : Int32) ∧ (3 : Int32) ≤ 3 ∧ sLo (3 : Int32).toNatClampNeg = 0) from (fun z => c_12 z.2.2))).symm, kFd_11.symm⟩, by rw [ht]; exact hP9, va_K.moved hW.alike hK, hD9⟩, hS.F ht⟩) hS.2.2 dX11_lose_25
  rw [if_neg c_11] at hw
  subst hw
  refine W.eq (g2 := F0 m₀ 5 ls [.null]) rfl ?_
  refine lv_astore_nN (lv' := [(2, .null), (0, .ref hx), (1, .int ss)]) hx₀ hb dX11_lose_5 rfl hl (by decide) rfl (fun ls hl => ?_)
  refine lv_aload_nN hx₀ hb dX11_lose_6 rfl (lv_at hl 0 rfl) ?_
  refine lv_ifnonnullN hx₀ hb dX11_lose_7 ?_
  refine lv_bipush (v := (-2)) hx₀ hb dX11_lose_10 (by decide +kernel) ?_
  obtain ⟨hP9, hD9⟩ := k_c2 (wc := [(kX11 hx aLa aPa aGe aFl aTr aBe aLu aLo vSf vSm vCo vSh xs xl xf), (kAQ vSh cQ 4 (fSh s0 s1 s2 s3)), (kX8 s0 i0 (sLo 0) (sFo 0) (sSi 0)), (kX8 s1 i1 (sLo 1) (sFo 1) (sSi 1)), (kX8 s2 i2 (sLo 2) (sFo 2) (sSi 2)), (kX8 s3 i3 (sLo 3) (sFo 3) (sSi 3))]) hP hD [4, 5, 0, 1, 2, 3] (by decide +kernel) rfl
  exact W.iret (v := (-2)) hx₀ hb hr (fun t₀ ht hW => ⟨⟨(-2), (k_fn [xf], k_fa [sLo], k_fl [], k_fL [], k_fp []), rfl, ⟨(show ((-2) : Int32) = if 0 ≤ ss ∧ ss ≤ 3 then (if sLo ss.toNatClampNeg = 0 then sSi ss.toNatClampNeg else -11) else -2 from (if_neg (lf_j_lose_2 ss c_2 c_5 c_8 c_11)).symm), (if_neg (lf_j_lose_3 ss (sLo ss.toNatClampNeg) c_2 c_5 c_8 c_11)).symm, (kFd_ge (by decide)).symm⟩, by rw [ht]; exact hP9, va_K.moved hW.alike hK, hD9⟩, hS.F ht⟩) hS.2.2 dX11_lose_12
theorem lf_j_lay_1 (a0 : Int32) (h0 : 0 ≤ (a0).toInt ∧ (a0).toInt ≤ 60) : 0 ≤ (a0) ∧ (a0) ≤ 60 := by
  first | (first | omega | (have hr0 := Int32.toInt_lt a0; have hs0 := Int32.le_toInt a0; simp only [Int64.toInt_add, Int64.toInt_sub, Int32.toInt_add, Int32.toInt_sub, Int32.toInt_mul, Int64.le_iff_toInt_le, Int64.lt_iff_toInt_lt, Int32.le_iff_toInt_le, Int32.lt_iff_toInt_lt, ← Int32.toInt_inj, ← Int64.toInt_inj, Int32.toInt_toInt64, kc_0, kc_60, true_and, and_true, not_true_eq_false, not_false_eq_true] at * <;> ((first | omega | ((try simp (disch := omega) only [k_bm64] at *); (try simp (disch := omega) only [k_bm] at *); (try simp (disch := omega) only [k_bm] at *); omega) | (simp only [Int.bmod] at *; omega))))) | with_reducible assumption | exact Or.inl rfl | rfl
theorem lf_j_lay_2 (a0 : Int32) (a1 : Int32) (a2 : Int32) (a3 : Int32) (a4 : Int32) (h0 : 0 ≤ (a0).toInt ∧ (a0).toInt ≤ 60) (h1 : 0 ≤ a1 ∧ a1 ≤ 2) (h2 : (a2) = 0 ∧ (a3) = a1 ∧ 0 ≤ a4 ∧ a4 < (a0)) : 0 ≤ (a0) ∧ (a0) ≤ 60 := by
  first | (first | omega | (have hr0 := Int32.toInt_lt a0; have hs0 := Int32.le_toInt a0; have hr1 := Int32.toInt_lt a1; have hs1 := Int32.le_toInt a1; have hr2 := Int32.toInt_lt a2; have hs2 := Int32.le_toInt a2; have hr3 := Int32.toInt_lt a3; have hs3 := Int32.le_toInt a3; have hr4 := Int32.toInt_lt a4; have hs4 := Int32.le_toInt a4; simp only [Int64.toInt_add, Int64.toInt_sub, Int32.toInt_add, Int32.toInt_sub, Int32.toInt_mul, Int64.le_iff_toInt_le, Int64.lt_iff_toInt_lt, Int32.le_iff_toInt_le, Int32.lt_iff_toInt_lt, ← Int32.toInt_inj, ← Int64.toInt_inj, Int32.toInt_toInt64, kc_0, kc_2, kc_60, true_and, and_true, not_true_eq_false, not_false_eq_true] at * <;> ((first | omega | ((try simp (disch := omega) only [k_bm64] at *); (try simp (disch := omega) only [k_bm] at *); (try simp (disch := omega) only [k_bm] at *); omega) | (simp only [Int.bmod] at *; omega))))) | with_reducible assumption | exact Or.inl rfl | rfl
theorem lf_j_lay_3 (a0 : Int32) (a1 : Int32) (h0 : ¬ (a0 = 0)) (h1 : ¬ (a0 = 1)) (h2 : ¬ (a0 = 2)) (h3 : ¬ (a0 = 3)) : ¬ (0 ≤ a0 ∧ a0 ≤ 3 ∧ 0 ≤ a1 ∧ a1 ≤ 2) := by
  first | (first | omega | (have hr0 := Int32.toInt_lt a0; have hs0 := Int32.le_toInt a0; have hr1 := Int32.toInt_lt a1; have hs1 := Int32.le_toInt a1; simp only [Int64.toInt_add, Int64.toInt_sub, Int32.toInt_add, Int32.toInt_sub, Int32.toInt_mul, Int64.le_iff_toInt_le, Int64.lt_iff_toInt_lt, Int32.le_iff_toInt_le, Int32.lt_iff_toInt_lt, ← Int32.toInt_inj, ← Int64.toInt_inj, Int32.toInt_toInt64, kc_0, kc_1, kc_2, kc_3, true_and, and_true, not_true_eq_false, not_false_eq_true] at * <;> ((first | omega | ((try simp (disch := omega) only [k_bm64] at *); (try simp (disch := omega) only [k_bm] at *); (try simp (disch := omega) only [k_bm] at *); omega) | (simp only [Int.bmod] at *; omega))))) | with_reducible assumption | exact Or.inl rfl | rfl
set_option maxHeartbeats 4000000 in
set_option maxRecDepth 100000 in
theorem j_lay (l : Launch) (dC : Nat → ClassId) (dI : Nat → Nat → Nat) (cI cJ cQ : ClassId) (sz : Nat) (hx : Nat) (ss : Int32) (fm : Int32) (ix : Int32) (v1 : Int32) (aLa : Nat) (aPa : Nat) (aGe : Nat) (aFl : Nat) (aTr : Nat) (aBe : Nat) (aLu : Nat) (aLo : Nat) (vSf : Nat) (vSm : Nat) (vCo : Nat) (vSh : Nat) (xs : Int32) (xl : Int32) (xf : Int32) (s0 : Nat) (i0 : Nat) (sLo : Nat → Int32) (sFo : Nat → Int32) (sSi : Nat → Int32) (gq0 : Nat → Int32) (s1 : Nat) (i1 : Nat) (gq1 : Nat → Int32) (s2 : Nat) (i2 : Nat) (gq2 : Nat → Int32) (s3 : Nat) (i3 : Nat) (gq3 : Nat → Int32) (hh0 : k_bd 4 0 60 sSi) : Met l yX11_lay (kW yX11_lay cX11_lay 7 (some .int)) { frames := 2, cells := 0, slots := 0, locals := 45 } (kPre dC dI cI cJ cQ sz [.ref hx, .int ss, .int fm, .int ix, .int v1] [(kX11 hx aLa aPa aGe aFl aTr aBe aLu aLo vSf vSm vCo vSh xs xl xf), (kAQ vSh cQ 4 (fSh s0 s1 s2 s3)), (kX8 s0 i0 (sLo 0) (sFo 0) (sSi 0)), (kAI i0 cI 60 gq0), (kX8 s1 i1 (sLo 1) (sFo 1) (sSi 1)), (kAI i1 cI 60 gq1), (kX8 s2 i2 (sLo 2) (sFo 2) (sSi 2)), (kAI i2 cI 60 gq2), (kX8 s3 i3 (sLo 3) (sFo 3) (sSi 3)), (kAI i3 cI 60 gq3)]) (va_Qi (fun (r : Int32) (u : kS) => (r = if 0 ≤ ss ∧ ss ≤ 3 ∧ 0 ≤ fm ∧ fm ≤ 2 then (if sLo ss.toNatClampNeg = 0 ∧ sFo ss.toNatClampNeg = fm ∧ 0 ≤ ix ∧ ix < sSi ss.toNatClampNeg then 1 else if sLo ss.toNatClampNeg = 0 ∧ sFo ss.toNatClampNeg = fm then -12 else if sLo ss.toNatClampNeg = 0 then -13 else -11) else -2) ∧ ((u.1 0) = kFd r xf) ∧ ((u.2.1 0) = if (0 ≤ ss ∧ ss ≤ 3 ∧ 0 ≤ fm ∧ fm ≤ 2 ∧ sLo ss.toNatClampNeg = 0 ∧ sFo ss.toNatClampNeg = fm ∧ 0 ≤ ix ∧ ix < sSi ss.toNatClampNeg) ∧ ss = 0 then upd gq0 ix.toNatClampNeg (kCut (sFo 0) v1) else gq0) ∧ ((u.2.1 1) = if (0 ≤ ss ∧ ss ≤ 3 ∧ 0 ≤ fm ∧ fm ≤ 2 ∧ sLo ss.toNatClampNeg = 0 ∧ sFo ss.toNatClampNeg = fm ∧ 0 ≤ ix ∧ ix < sSi ss.toNatClampNeg) ∧ ss = 1 then upd gq1 ix.toNatClampNeg (kCut (sFo 1) v1) else gq1) ∧ ((u.2.1 2) = if (0 ≤ ss ∧ ss ≤ 3 ∧ 0 ≤ fm ∧ fm ≤ 2 ∧ sLo ss.toNatClampNeg = 0 ∧ sFo ss.toNatClampNeg = fm ∧ 0 ≤ ix ∧ ix < sSi ss.toNatClampNeg) ∧ ss = 2 then upd gq2 ix.toNatClampNeg (kCut (sFo 2) v1) else gq2) ∧ ((u.2.1 3) = if (0 ≤ ss ∧ ss ≤ 3 ∧ 0 ≤ fm ∧ fm ≤ 2 ∧ sLo ss.toNatClampNeg = 0 ∧ sFo ss.toNatClampNeg = fm ∧ 0 ≤ ix ∧ ix < sSi ss.toNatClampNeg) ∧ ss = 3 then upd gq3 ix.toNatClampNeg (kCut (sFo 3) v1) else gq3)) (fun (u : kS) t₀ => kB dC dI cI cJ cQ (va_A [(kX11 hx aLa aPa aGe aFl aTr aBe aLu aLo vSf vSm vCo vSh xs xl xf), (kAQ vSh cQ 4 (fSh s0 s1 s2 s3)), (kX8 s0 i0 (sLo 0) (sFo 0) (sSi 0)), (kAI i0 cI 60 gq0), (kX8 s1 i1 (sLo 1) (sFo 1) (sSi 1)), (kAI i1 cI 60 gq1), (kX8 s2 i2 (sLo 2) (sFo 2) (sSi 2)), (kAI i2 cI 60 gq2), (kX8 s3 i3 (sLo 3) (sFo 3) (sSi 3)), (kAI i3 cI 60 gq3)] sz) [(kX11 hx aLa aPa aGe aFl aTr aBe aLu aLo vSf vSm vCo vSh xs xl (u.1 0)), (kAQ vSh cQ 4 (fSh s0 s1 s2 s3)), (kX8 s0 i0 (sLo 0) (sFo 0) (sSi 0)), (kAI i0 cI 60 (u.2.1 0)), (kX8 s1 i1 (sLo 1) (sFo 1) (sSi 1)), (kAI i1 cI 60 (u.2.1 1)), (kX8 s2 i2 (sLo 2) (sFo 2) (sSi 2)), (kAI i2 cI 60 (u.2.1 2)), (kX8 s3 i3 (sLo 3) (sFo 3) (sSi 3)), (kAI i3 cI 60 (u.2.1 3))] t₀) (va_A [(kX11 hx aLa aPa aGe aFl aTr aBe aLu aLo vSf vSm vCo vSh xs xl xf), (kAQ vSh cQ 4 (fSh s0 s1 s2 s3)), (kX8 s0 i0 (sLo 0) (sFo 0) (sSi 0)), (kAI i0 cI 60 gq0), (kX8 s1 i1 (sLo 1) (sFo 1) (sSi 1)), (kAI i1 cI 60 gq1), (kX8 s2 i2 (sLo 2) (sFo 2) (sSi 2)), (kAI i2 cI 60 gq2), (kX8 s3 i3 (sLo 3) (sFo 3) (sSi 3)), (kAI i3 cI 60 gq3)] sz)) 0 0 (va_A [(kX11 hx aLa aPa aGe aFl aTr aBe aLu aLo vSf vSm vCo vSh xs xl xf), (kAQ vSh cQ 4 (fSh s0 s1 s2 s3)), (kX8 s0 i0 (sLo 0) (sFo 0) (sSi 0)), (kAI i0 cI 60 gq0), (kX8 s1 i1 (sLo 1) (sFo 1) (sSi 1)), (kAI i1 cI 60 gq1), (kX8 s2 i2 (sLo 2) (sFo 2) (sSi 2)), (kAI i2 cI 60 gq2), (kX8 s3 i3 (sLo 3) (sFo 3) (sSi 3)), (kAI i3 cI 60 gq3)] sz) := by
  refine Met.ofW (cc := cX11_lay) (maxL := 7) (ret := (some .int)) (by decide) rfl ?_
  intro p₀ e₀ s₀ m₀ args below meth c₀ s₁ B hml hv₀
  obtain ⟨rfl, hsz, hP, hK, hD0, hN⟩ := hv₀
  have hx₀ := B.exec
  have hb := B.bytes
  have hr := B.returns
  have hts := atoms_spec (ws := (kW yX11_lay cX11_lay 7 (some .int))) B.pre
  have hts := fun w h => hts w (List.mem_cons_of_mem _ h)
  have hown : s₀.vm.findClass RX11 = some m₀.cls := findClass_of_methodNamed B.named
  have hlocks := B.notSynchronized
  subst hsz
  have hD := hD0.self (sz := s₀.heap.size)
  generalize hAe : va_A [(kX11 hx aLa aPa aGe aFl aTr aBe aLu aLo vSf vSm vCo vSh xs xl xf), (kAQ vSh cQ 4 (fSh s0 s1 s2 s3)), (kX8 s0 i0 (sLo 0) (sFo 0) (sSi 0)), (kAI i0 cI 60 gq0), (kX8 s1 i1 (sLo 1) (sFo 1) (sSi 1)), (kAI i1 cI 60 gq1), (kX8 s2 i2 (sLo 2) (sFo 2) (sSi 2)), (kAI i2 cI 60 gq2), (kX8 s3 i3 (sLo 3) (sFo 3) (sSi 3)), (kAI i3 cI 60 gq3)] s₀.heap.size = A at hD ⊢
  have hA : ∀ q : Nat, s₀.heap.size ≤ q → A q := fun q h => by rw [← hAe]; exact Or.inr h
  have hS : va_S A s₀.heap s₀.heap [] := va_S.rf
  have hP : va_P (dC, dI) vwCl [(kX11 hx aLa aPa aGe aFl aTr aBe aLu aLo vSf vSm vCo vSh xs xl xf), (kAQ vSh cQ 4 (fSh s0 s1 s2 s3)), (kX8 s0 i0 (sLo 0) (sFo 0) (sSi 0)), (kAI i0 cI 60 gq0), (kX8 s1 i1 (sLo 1) (sFo 1) (sSi 1)), (kAI i1 cI 60 gq1), (kX8 s2 i2 (sLo 2) (sFo 2) (sSi 2)), (kAI i2 cI 60 gq2), (kX8 s3 i3 (sLo 3) (sFo 3) (sSi 3)), (kAI i3 cI 60 gq3)] s₀.heap := hP
  have hl := lv_entry ([.ref hx, .int ss, .int fm, .int ix, .int v1]) (n := 7) (Nat.le_of_ble_eq_true rfl)
  rw [lg_entry_eq]
  generalize (lg_sl ([.ref hx, .int ss, .int fm, .int ix, .int v1]) ++ List.replicate (7 - (lg_sl ([.ref hx, .int ss, .int fm, .int ix, .int v1])).length) Slot.unset).toArray = ls at hl ⊢
  have hl : lv_has ls 7 [(0, .ref hx), (1, .int ss), (2, .int fm), (3, .int ix), (4, .int v1)] := hl
  obtain ⟨H, hH⟩ : ∃ z : Heap, z = s₀.heap := ⟨_, rfl⟩
  rw [← hH] at hP
  have hS : va_S A s₀.heap H [] := by rw [hH]; exact hS
  refine k_heap hH ?_
  have hD : va_D A [(kX11 hx aLa aPa aGe aFl aTr aBe aLu aLo vSf vSm vCo vSh xs xl xf), (kAQ vSh cQ 4 (fSh s0 s1 s2 s3)), (kX8 s0 i0 (sLo 0) (sFo 0) (sSi 0)), (kAI i0 cI 60 gq0), (kX8 s1 i1 (sLo 1) (sFo 1) (sSi 1)), (kAI i1 cI 60 gq1), (kX8 s2 i2 (sLo 2) (sFo 2) (sSi 2)), (kAI i2 cI 60 gq2), (kX8 s3 i3 (sLo 3) (sFo 3) (sSi 3)), (kAI i3 cI 60 gq3)] := hD
  obtain ⟨locs, hlo⟩ : ∃ z : List Loc, z = [] := ⟨_, rfl⟩
  rw [← hlo] at hS ⊢
  clear hlo hH hAe hD0
  have hq0 : 0 ≤ (sSi 0).toInt ∧ (sSi 0).toInt ≤ 60 := hh0 0 (by decide)
  have hq1 : 0 ≤ (sSi 1).toInt ∧ (sSi 1).toInt ≤ 60 := hh0 1 (by decide)
  have hq2 : 0 ≤ (sSi 2).toInt ∧ (sSi 2).toInt ≤ 60 := hh0 2 (by decide)
  have hq3 : 0 ≤ (sSi 3).toInt ∧ (sSi 3).toInt ≤ 60 := hh0 3 (by decide)
  refine lv_aload_n hx₀ hb dX11_lay_0 rfl (lv_at hl 0 rfl) ?_
  refine lv_iload_n hx₀ hb dX11_lay_1 rfl (lv_at hl 1 rfl) ?_
  obtain ⟨hPc, hDc, hFc, hC⟩ := k_cw (wc := [(kX11 hx aLa aPa aGe aFl aTr aBe aLu aLo vSf vSm vCo vSh xs xl xf), (kAQ vSh cQ 4 (fSh s0 s1 s2 s3))]) hP hD hS hA [0, 1] (by decide +kernel) rfl
  refine va_callq (va_runV (As := [.int ss]) (rest := []) ⟨hx₀, hb, hml, hown, hts⟩ (j_sheetOf l dC dI cI cJ cQ H.size hx ss aLa aPa aGe aFl aTr aBe aLu aLo vSf vSm vCo vSh xs xl xf s0 s1 s2 s3) (cwV 1 hts (kGV wd_383 wd_380 wd_381 wd_382 wd_2) rfl rfl rfl (by decide +kernel) ⟨Nat.le_of_ble_eq_true rfl, Nat.le_of_ble_eq_true rfl⟩) (k_preV10 (q0 := 0) hK hPc hDc hN rfl) rfl rfl hl.1 rfl (lv_room (Nat.le_of_ble_eq_true rfl)) dX11_lay_2 ⟨by decide +kernel, by decide +kernel⟩) hS (fun q _ h => hFc q h) hFc (fun r_1 u₀ t₀ H1 locs ht hvm hw hB hz1 hk1 hS => ?_)
  obtain ⟨hP1, hK1, hD1⟩ := hB
  rw [ht] at hP1
  have hJ := k_jn (wr := [(kX8 s0 i0 (sLo 0) (sFo 0) (sSi 0)), (kAI i0 cI 60 gq0), (kX8 s1 i1 (sLo 1) (sFo 1) (sSi 1)), (kAI i1 cI 60 gq1), (kX8 s2 i2 (sLo 2) (sFo 2) (sSi 2)), (kAI i2 cI 60 gq2), (kX8 s3 i3 (sLo 3) (sFo 3) (sSi 3)), (kAI i3 cI 60 gq3)]) (wt := [(kX8 s0 i0 (sLo 0) (sFo 0) (sSi 0)), (kAI i0 cI 60 gq0), (kX8 s1 i1 (sLo 1) (sFo 1) (sSi 1)), (kAI i1 cI 60 gq1), (kX8 s2 i2 (sLo 2) (sFo 2) (sSi 2)), (kAI i2 cI 60 gq2), (kX8 s3 i3 (sLo 3) (sFo 3) (sSi 3)), (kAI i3 cI 60 gq3), (kX11 hx aLa aPa aGe aFl aTr aBe aLu aLo vSf vSm vCo vSh xs xl xf), (kAQ vSh cQ 4 (fSh s0 s1 s2 s3))]) hP hD hC [2, 3, 4, 5, 6, 7, 8, 9] rfl (by decide +kernel) (by decide +kernel) hk1 hFc hP1 hD1 rfl
  clear hP hD hPc hDc hFc hC hP1 hD1 hK1 hz1 hk1 hvm ht
  obtain ⟨hP, hD⟩ := hJ
  generalize H1 = H at hP hS ⊢
  try dsimp only at hw
  by_cases c_2 : ss = 0
  · rw [if_pos c_2] at hw
    subst hw
    refine W.eq (g2 := F0 m₀ 5 ls [.ref s0]) rfl ?_
    subst c_2
    refine lv_astore (lv' := [(5, .ref s0), (0, .ref hx), (1, .int 0), (2, .int fm), (3, .int ix), (4, .int v1)]) hx₀ hb dX11_lay_5 hl (by decide) rfl (fun ls hl => ?_)
    refine lv_aload hx₀ hb dX11_lay_7 (lv_at hl 0 rfl) ?_
    refine lv_ifnull hx₀ hb dX11_lay_9 ?_
    refine lv_iload_n hx₀ hb dX11_lay_12 rfl (lv_at hl 3 rfl) ?_
    obtain ⟨hPc, hDc, hFc, hC⟩ := k_cw (wc := []) hP hD hS hA [] (by decide +kernel) rfl
    refine va_calli (va_runS (As := [.int fm]) (rest := []) ⟨hx₀, hb, hml, hown, hts⟩ (j_isForm l dC dI cI cJ cQ H.size fm) (va_cwS 1 hts (kGS wd_864 wd_862 wd_863 wd_2) rfl rfl rfl (by decide +kernel) ⟨Nat.le_of_ble_eq_true rfl, Nat.le_of_ble_eq_true rfl⟩) (k_preS hK hPc hDc hN) rfl rfl hl.1 rfl (lv_room (Nat.le_of_ble_eq_true rfl)) dX11_lay_13 ⟨by decide +kernel, by decide +kernel⟩) hS (fun q _ h => hFc q h) hFc (fun r_3 u₀ t₀ H1 locs ht hvm hw hB hz1 hk1 hS => ?_)
    obtain ⟨hP1, hK1, hD1⟩ := hB
    rw [ht] at hP1
    have hJ := k_jn (wr := [(kX8 s0 i0 (sLo 0) (sFo 0) (sSi 0)), (kAI i0 cI 60 gq0), (kX8 s1 i1 (sLo 1) (sFo 1) (sSi 1)), (kAI i1 cI 60 gq1), (kX8 s2 i2 (sLo 2) (sFo 2) (sSi 2)), (kAI i2 cI 60 gq2), (kX8 s3 i3 (sLo 3) (sFo 3) (sSi 3)), (kAI i3 cI 60 gq3), (kX11 hx aLa aPa aGe aFl aTr aBe aLu aLo vSf vSm vCo vSh xs xl xf), (kAQ vSh cQ 4 (fSh s0 s1 s2 s3))]) (wt := [(kX8 s0 i0 (sLo 0) (sFo 0) (sSi 0)), (kAI i0 cI 60 gq0), (kX8 s1 i1 (sLo 1) (sFo 1) (sSi 1)), (kAI i1 cI 60 gq1), (kX8 s2 i2 (sLo 2) (sFo 2) (sSi 2)), (kAI i2 cI 60 gq2), (kX8 s3 i3 (sLo 3) (sFo 3) (sSi 3)), (kAI i3 cI 60 gq3), (kX11 hx aLa aPa aGe aFl aTr aBe aLu aLo vSf vSm vCo vSh xs xl xf), (kAQ vSh cQ 4 (fSh s0 s1 s2 s3))]) hP hD hC [0, 1, 2, 3, 4, 5, 6, 7, 8, 9] rfl (by decide +kernel) (by decide +kernel) hk1 hFc hP1 hD1 rfl
    clear hP hD hPc hDc hFc hC hP1 hD1 hK1 hz1 hk1 hvm ht
    obtain ⟨hP, hD⟩ := hJ
    generalize H1 = H at hP hS ⊢
    try dsimp only at hw
    by_cases c_4 : 0 ≤ fm ∧ fm ≤ 2
    · rw [if_pos c_4] at hw
      refine k_topi (v := 1) hw ?_
      refine lv_if_ne (tgt := 22) hx₀ hb dX11_lay_16 (by decide) (fun _ => ?_) (fun c9 => absurd c9 (by decide +kernel))
      refine lv_aload_n hx₀ hb dX11_lay_22 rfl (lv_at hl 1 rfl) ?_
      refine lv_aload hx₀ hb dX11_lay_23 (lv_at hl 0 rfl) ?_
      refine lv_iload_n hx₀ hb dX11_lay_25 rfl (lv_at hl 3 rfl) ?_
      refine lv_iload_n hx₀ hb dX11_lay_26 rfl (lv_at hl 4 rfl) ?_
      obtain ⟨hPc, hDc, hFc, hC⟩ := k_cw (wc := [(kX11 hx aLa aPa aGe aFl aTr aBe aLu aLo vSf vSm vCo vSh xs xl xf), (kX8 s0 i0 (sLo 0) (sFo 0) (sSi 0))]) hP hD hS hA [8, 0] (by decide +kernel) rfl
      refine va_calli (va_runV (As := [.ref s0, .int fm, .int ix]) (rest := []) ⟨hx₀, hb, hml, hown, hts⟩ (j_refuse l dC dI cI cJ cQ H.size hx s0 fm ix aLa aPa aGe aFl aTr aBe aLu aLo vSf vSm vCo vSh xs xl xf i0 (sLo 0) (sFo 0) (sSi 0) (lf_j_lay_1 (sSi 0) hq0)) (cwV 3 hts (kGV wd_891 wd_888 wd_889 wd_890 wd_2) rfl rfl rfl (by decide +kernel) ⟨Nat.le_of_ble_eq_true rfl, Nat.le_of_ble_eq_true rfl⟩) (k_preV10 (q0 := 0) hK hPc hDc hN rfl) rfl rfl hl.1 rfl (lv_room (Nat.le_of_ble_eq_true rfl)) dX11_lay_27 ⟨by decide +kernel, by decide +kernel⟩) hS (fun q _ h => hFc q h) hFc (fun r_5 u₀ t₀ H1 locs ht hvm hw hB hz1 hk1 hS => ?_)
      obtain ⟨g_6, ga_7, gl_8, gb_9, gp_10⟩ := u₀
      obtain ⟨hP1, hK1, hD1⟩ := hB
      rw [ht] at hP1
      have hJ := k_jn (wr := [(kAI i0 cI 60 gq0), (kX8 s1 i1 (sLo 1) (sFo 1) (sSi 1)), (kAI i1 cI 60 gq1), (kX8 s2 i2 (sLo 2) (sFo 2) (sSi 2)), (kAI i2 cI 60 gq2), (kX8 s3 i3 (sLo 3) (sFo 3) (sSi 3)), (kAI i3 cI 60 gq3), (kAQ vSh cQ 4 (fSh s0 s1 s2 s3))]) (wt := [(kAI i0 cI 60 gq0), (kX8 s1 i1 (sLo 1) (sFo 1) (sSi 1)), (kAI i1 cI 60 gq1), (kX8 s2 i2 (sLo 2) (sFo 2) (sSi 2)), (kAI i2 cI 60 gq2), (kX8 s3 i3 (sLo 3) (sFo 3) (sSi 3)), (kAI i3 cI 60 gq3), (kAQ vSh cQ 4 (fSh s0 s1 s2 s3)), (kX11 hx aLa aPa aGe aFl aTr aBe aLu aLo vSf vSm vCo vSh xs xl (g_6 0)), (kX8 s0 i0 (sLo 0) (sFo 0) (sSi 0))]) hP hD hC [1, 2, 3, 4, 5, 6, 7, 9] rfl (by decide +kernel) (by decide +kernel) hk1 hFc hP1 hD1 rfl
      clear hP hD hPc hDc hFc hC hP1 hD1 hK1 hz1 hk1 hvm ht
      obtain ⟨hP, hD⟩ := hJ
      generalize H1 = H at hP hS ⊢
      try dsimp only at hw
      obtain ⟨c_11, c_12⟩ := hw
      have hw := c_11
      by_cases c_13 : (sLo 0) = 0 ∧ (sFo 0) = fm ∧ 0 ≤ ix ∧ ix < (sSi 0)
      · rw [if_pos c_13] at hw
        have c_14 := hw
        refine k_topi (v := 0) hw ?_
        refine lv_istore (lv' := [(6, .int 0), (5, .ref s0), (0, .ref hx), (1, .int 0), (2, .int fm), (3, .int ix), (4, .int v1)]) hx₀ hb dX11_lay_30 hl (by decide) rfl (fun ls hl => ?_)
        refine lv_iload hx₀ hb dX11_lay_32 (lv_at hl 0 rfl) ?_
        refine lv_if_eq (tgt := 40) hx₀ hb dX11_lay_34 (by decide) (fun _ => ?_) (fun c9 => absurd (by decide +kernel) c9)
        refine lv_aload hx₀ hb dX11_lay_40 (lv_at hl 1 rfl) ?_
        refine lv_iload_n hx₀ hb dX11_lay_42 rfl (lv_at hl 5 rfl) ?_
        refine lv_iload hx₀ hb dX11_lay_43 (lv_at hl 6 rfl) ?_
        obtain ⟨hPc, hDc, hFc, hC⟩ := k_cw (wc := [(kX8 s0 i0 (sLo 0) (sFo 0) (sSi 0)), (kAI i0 cI 60 gq0)]) hP hD hS hA [9, 0] (by decide +kernel) rfl
        refine va_callv (va_runV (As := [.int ix, .int v1]) (rest := []) ⟨hx₀, hb, hml, hown, hts⟩ (j_put l dC dI cI cJ cQ H.size s0 ix v1 i0 (sLo 0) (sFo 0) (sSi 0) gq0 (lf_j_lay_2 (sSi 0) fm (sLo 0) (sFo 0) ix hq0 c_4 c_13)) (cwV 2 hts (kGV wd_900 wd_897 wd_898 wd_899 wd_51) rfl rfl rfl (by decide +kernel) ⟨Nat.le_of_ble_eq_true rfl, Nat.le_of_ble_eq_true rfl⟩) (k_preV8 (q0 := 0) hK hPc hDc hN rfl) rfl rfl hl.1 rfl (lv_room (Nat.le_of_ble_eq_true rfl)) dX11_lay_45 ⟨by decide +kernel, by decide +kernel⟩) hS (fun q _ h => hFc q h) hFc (fun u₀ t₀ H1 locs ht hvm hw hB hz1 hk1 hS => ?_)
        obtain ⟨g_16, ga_17, gl_18, gb_19, gp_20⟩ := u₀
        obtain ⟨hP1, hK1, hD1⟩ := hB
        rw [ht] at hP1
        have hJ := k_jn (wr := [(kX8 s1 i1 (sLo 1) (sFo 1) (sSi 1)), (kAI i1 cI 60 gq1), (kX8 s2 i2 (sLo 2) (sFo 2) (sSi 2)), (kAI i2 cI 60 gq2), (kX8 s3 i3 (sLo 3) (sFo 3) (sSi 3)), (kAI i3 cI 60 gq3), (kAQ vSh cQ 4 (fSh s0 s1 s2 s3)), (kX11 hx aLa aPa aGe aFl aTr aBe aLu aLo vSf vSm vCo vSh xs xl (g_6 0))]) (wt := [(kX8 s1 i1 (sLo 1) (sFo 1) (sSi 1)), (kAI i1 cI 60 gq1), (kX8 s2 i2 (sLo 2) (sFo 2) (sSi 2)), (kAI i2 cI 60 gq2), (kX8 s3 i3 (sLo 3) (sFo 3) (sSi 3)), (kAI i3 cI 60 gq3), (kAQ vSh cQ 4 (fSh s0 s1 s2 s3)), (kX11 hx aLa aPa aGe aFl aTr aBe aLu aLo vSf vSm vCo vSh xs xl (g_6 0)), (kX8 s0 i0 (sLo 0) (sFo 0) (sSi 0)), (kAI i0 cI 60 (ga_17 0))]) hP hD hC [1, 2, 3, 4, 5, 6, 7, 8] rfl (by decide +kernel) (by decide +kernel) hk1 hFc hP1 hD1 rfl
        clear hP hD hPc hDc hFc hC hP1 hD1 hK1 hz1 hk1 hvm ht
        obtain ⟨hP, hD⟩ := hJ
        generalize H1 = H at hP hS ⊢
        try dsimp only at hw
        have c_21 := hw
        refine lv_iconst (v := 1) hx₀ hb dX11_lay_48 (by decide +kernel) ?_
        obtain ⟨hP9, hD9⟩ := k_c2 (wc := [(kX11 hx aLa aPa aGe aFl aTr aBe aLu aLo vSf vSm vCo vSh xs xl (g_6 0)), (kAQ vSh cQ 4 (fSh s0 s1 s2 s3)), (kX8 s0 i0 (sLo 0) (sFo 0) (sSi 0)), (kAI i0 cI 60 (ga_17 0)), (kX8 s1 i1 (sLo 1) (sFo 1) (sSi 1)), (kAI i1 cI 60 gq1), (kX8 s2 i2 (sLo 2) (sFo 2) (sSi 2)), (kAI i2 cI 60 gq2), (kX8 s3 i3 (sLo 3) (sFo 3) (sSi 3)), (kAI i3 cI 60 gq3)]) hP hD [7, 6, 8, 9, 0, 1, 2, 3, 4, 5] (by decide +kernel) rfl
        exact W.iret (v := 1) hx₀ hb hr (fun t₀ ht hW => ⟨⟨1, (k_fn [(g_6 0)], k_fa [ga_17 0, gq1, gq2, gq3], k_fl [], k_fL [], k_fp []), rfl, ⟨(show (1 : Int32) = if 0 ≤ (0 : Int32) ∧ (0 : Int32) ≤ 3 ∧ 0 ≤ fm ∧ fm ≤ 2 then (if sLo (0 : Int32).toNatClampNeg = 0 ∧ sFo (0 : Int32).toNatClampNeg = fm ∧ 0 ≤ ix ∧ ix < sSi (0 : Int32).toNatClampNeg then 1 else if sLo (0 : Int32).toNatClampNeg = 0 ∧ sFo (0 : Int32).toNatClampNeg = fm then -12 else if sLo (0 : Int32).toNatClampNeg = 0 then -13 else -11) else -2 from (((if_pos (show (sLo 0) = 0 ∧ (sFo 0) = fm ∧ 0 ≤ ix ∧ ix < (sSi 0) from ⟨c_13.1, c_13.2.1, c_13.2.2.1, c_13.2.2.2⟩)).symm).trans (if_pos (show 0 ≤ (0 : Int32) ∧ (0 : Int32) ≤ 3 ∧ 0 ≤ fm ∧ fm ≤ 2 from ⟨(by decide), (by decide), c_4.1, c_4.2⟩)).symm)), ((c_12.trans (congrArg (fun z => kFd z xf) c_14)).trans ((kFd_ge (by decide)).trans (kFd_ge (by decide)).symm)), ((c_21.trans (if_pos (show 0 ≤ ix ∧ ix < (sSi 0) from ⟨c_13.2.2.1, c_13.2.2.2⟩))).trans (if_pos (show (0 ≤ (0 : Int32) ∧ (0 : Int32) ≤ 3 ∧ 0 ≤ fm ∧ fm ≤ 2 ∧ sLo (0 : Int32).toNatClampNeg = 0 ∧ sFo (0 : Int32).toNatClampNeg = fm ∧ 0 ≤ ix ∧ ix < sSi (0 : Int32).toNatClampNeg) ∧ (0 : Int32) = 0 from ⟨⟨(by decide), (by decide), c_4.1, c_4.2, c_13.1, c_13.2.1, c_13.2.2.1, c_13.2.2.2⟩, rfl⟩)).symm), (if_neg (show ¬ ((0 ≤ (0 : Int32) ∧ (0 : Int32) ≤ 3 ∧ 0 ≤ fm ∧ fm ≤ 2 ∧ sLo (0 : Int32).toNatClampNeg = 0 ∧ sFo (0 : Int32).toNatClampNeg = fm ∧ 0 ≤ ix ∧ ix < sSi (0 : Int32).toNatClampNeg) ∧ (0 : Int32) = 1) from (fun z => (fun z => absurd z (by decide)) z.2))).symm, (if_neg (show ¬ ((0 ≤ (0 : Int32) ∧ (0 : Int32) ≤ 3 ∧ 0 ≤ fm ∧ fm ≤ 2 ∧ sLo (0 : Int32).toNatClampNeg = 0 ∧ sFo (0 : Int32).toNatClampNeg = fm ∧ 0 ≤ ix ∧ ix < sSi (0 : Int32).toNatClampNeg) ∧ (0 : Int32) = 2) from (fun z => (fun z => absurd z (by decide)) z.2))).symm, (if_neg (show ¬ ((0 ≤ (0 : Int32) ∧ (0 : Int32) ≤ 3 ∧ 0 ≤ fm ∧ fm ≤ 2 ∧ sLo (0 : Int32).toNatClampNeg = 0 ∧ sFo (0 : Int32).toNatClampNeg = fm ∧ 0 ≤ ix ∧ ix < sSi (0 : Int32).toNatClampNeg) ∧ (0 : Int32) = 3) from (fun z => (fun z => absurd z (by decide)) z.2))).symm⟩, by rw [ht]; exact hP9, va_K.moved hW.alike hK, hD9⟩, hS.F ht⟩) hS.2.2 dX11_lay_49
      rw [if_neg c_13] at hw
      by_cases c_22 : (sLo 0) = 0 ∧ (sFo 0) = fm
      · rw [if_pos c_22] at hw
        have c_23 := hw
        refine k_topi (v := (-12)) hw ?_
        refine lv_istore (lv' := [(6, .int (-12)), (5, .ref s0), (0, .ref hx), (1, .int 0), (2, .int fm), (3, .int ix), (4, .int v1)]) hx₀ hb dX11_lay_30 hl (by decide) rfl (fun ls hl => ?_)
        refine lv_iload hx₀ hb dX11_lay_32 (lv_at hl 0 rfl) ?_
        refine lv_if_eq (tgt := 40) hx₀ hb dX11_lay_34 (by decide) (fun c9 => absurd c9 (by decide +kernel)) (fun _ => ?_)
        refine lv_iload hx₀ hb dX11_lay_37 (lv_at hl 0 rfl) ?_
        obtain ⟨hP9, hD9⟩ := k_c2 (wc := [(kX11 hx aLa aPa aGe aFl aTr aBe aLu aLo vSf vSm vCo vSh xs xl (g_6 0)), (kAQ vSh cQ 4 (fSh s0 s1 s2 s3)), (kX8 s0 i0 (sLo 0) (sFo 0) (sSi 0)), (kAI i0 cI 60 gq0), (kX8 s1 i1 (sLo 1) (sFo 1) (sSi 1)), (kAI i1 cI 60 gq1), (kX8 s2 i2 (sLo 2) (sFo 2) (sSi 2)), (kAI i2 cI 60 gq2), (kX8 s3 i3 (sLo 3) (sFo 3) (sSi 3)), (kAI i3 cI 60 gq3)]) hP hD [8, 7, 9, 0, 1, 2, 3, 4, 5, 6] (by decide +kernel) rfl
        exact W.iret (v := (-12)) hx₀ hb hr (fun t₀ ht hW => ⟨⟨(-12), (k_fn [(g_6 0)], k_fa [gq0, gq1, gq2, gq3], k_fl [], k_fL [], k_fp []), rfl, ⟨(show ((-12) : Int32) = if 0 ≤ (0 : Int32) ∧ (0 : Int32) ≤ 3 ∧ 0 ≤ fm ∧ fm ≤ 2 then (if sLo (0 : Int32).toNatClampNeg = 0 ∧ sFo (0 : Int32).toNatClampNeg = fm ∧ 0 ≤ ix ∧ ix < sSi (0 : Int32).toNatClampNeg then 1 else if sLo (0 : Int32).toNatClampNeg = 0 ∧ sFo (0 : Int32).toNatClampNeg = fm then -12 else if sLo (0 : Int32).toNatClampNeg = 0 then -13 else -11) else -2 from (((((if_pos (show (sLo 0) = 0 ∧ (sFo 0) = fm from ⟨c_22.1, c_22.2⟩)).symm).trans (if_neg (c_13)).symm)).trans (if_pos (show 0 ≤ (0 : Int32) ∧ (0 : Int32) ≤ 3 ∧ 0 ≤ fm ∧ fm ≤ 2 from ⟨(by decide), (by decide), c_4.1, c_4.2⟩)).symm)), (c_12.trans (congrArg (fun z => kFd z xf) c_23)), (if_neg (show ¬ ((0 ≤ (0 : Int32) ∧ (0 : Int32) ≤ 3 ∧ 0 ≤ fm ∧ fm ≤ 2 ∧ sLo (0 : Int32).toNatClampNeg = 0 ∧ sFo (0 : Int32).toNatClampNeg = fm ∧ 0 ≤ ix ∧ ix < sSi (0 : Int32).toNatClampNeg) ∧ (0 : Int32) = 0) from (fun z => (fun z => c_13 (And.intro z.2.2.2.2.1 (And.intro z.2.2.2.2.2.1 (And.intro z.2.2.2.2.2.2.1 z.2.2.2.2.2.2.2)))) z.1))).symm, (if_neg (show ¬ ((0 ≤ (0 : Int32) ∧ (0 : Int32) ≤ 3 ∧ 0 ≤ fm ∧ fm ≤ 2 ∧ sLo (0 : Int32).toNatClampNeg = 0 ∧ sFo (0 : Int32).toNatClampNeg = fm ∧ 0 ≤ ix ∧ ix < sSi (0 : Int32).toNatClampNeg) ∧ (0 : Int32) = 1) from (fun z => (fun z => c_13 (And.intro z.2.2.2.2.1 (And.intro z.2.2.2.2.2.1 (And.intro z.2.2.2.2.2.2.1 z.2.2.2.2.2.2.2)))) z.1))).symm, (if_neg (show ¬ ((0 ≤ (0 : Int32) ∧ (0 : Int32) ≤ 3 ∧ 0 ≤ fm ∧ fm ≤ 2 ∧ sLo (0 : Int32).toNatClampNeg = 0 ∧ sFo (0 : Int32).toNatClampNeg = fm ∧ 0 ≤ ix ∧ ix < sSi (0 : Int32).toNatClampNeg) ∧ (0 : Int32) = 2) from (fun z => (fun z => c_13 (And.intro z.2.2.2.2.1 (And.intro z.2.2.2.2.2.1 (And.intro z.2.2.2.2.2.2.1 z.2.2.2.2.2.2.2)))) z.1))).symm, (if_neg (show ¬ ((0 ≤ (0 : Int32) ∧ (0 : Int32) ≤ 3 ∧ 0 ≤ fm ∧ fm ≤ 2 ∧ sLo (0 : Int32).toNatClampNeg = 0 ∧ sFo (0 : Int32).toNatClampNeg = fm ∧ 0 ≤ ix ∧ ix < sSi (0 : Int32).toNatClampNeg) ∧ (0 : Int32) = 3) from (fun z => (fun z => c_13 (And.intro z.2.2.2.2.1 (And.intro z.2.2.2.2.2.1 (And.intro z.2.2.2.2.2.2.1 z.2.2.2.2.2.2.2)))) z.1))).symm⟩, by rw [ht]; exact hP9, va_K.moved hW.alike hK, hD9⟩, hS.F ht⟩) hS.2.2 dX11_lay_39
      rw [if_neg c_22] at hw
      by_cases c_24 : (sLo 0) = 0
      · rw [if_pos c_24] at hw
        have c_25 := hw
        refine k_topi (v := (-13)) hw ?_
        refine lv_istore (lv' := [(6, .int (-13)), (5, .ref s0), (0, .ref hx), (1, .int 0), (2, .int fm), (3, .int ix), (4, .int v1)]) hx₀ hb dX11_lay_30 hl (by decide) rfl (fun ls hl => ?_)
        refine lv_iload hx₀ hb dX11_lay_32 (lv_at hl 0 rfl) ?_
        refine lv_if_eq (tgt := 40) hx₀ hb dX11_lay_34 (by decide) (fun c9 => absurd c9 (by decide +kernel)) (fun _ => ?_)
        refine lv_iload hx₀ hb dX11_lay_37 (lv_at hl 0 rfl) ?_
        obtain ⟨hP9, hD9⟩ := k_c2 (wc := [(kX11 hx aLa aPa aGe aFl aTr aBe aLu aLo vSf vSm vCo vSh xs xl (g_6 0)), (kAQ vSh cQ 4 (fSh s0 s1 s2 s3)), (kX8 s0 i0 (sLo 0) (sFo 0) (sSi 0)), (kAI i0 cI 60 gq0), (kX8 s1 i1 (sLo 1) (sFo 1) (sSi 1)), (kAI i1 cI 60 gq1), (kX8 s2 i2 (sLo 2) (sFo 2) (sSi 2)), (kAI i2 cI 60 gq2), (kX8 s3 i3 (sLo 3) (sFo 3) (sSi 3)), (kAI i3 cI 60 gq3)]) hP hD [8, 7, 9, 0, 1, 2, 3, 4, 5, 6] (by decide +kernel) rfl
        exact W.iret (v := (-13)) hx₀ hb hr (fun t₀ ht hW => ⟨⟨(-13), (k_fn [(g_6 0)], k_fa [gq0, gq1, gq2, gq3], k_fl [], k_fL [], k_fp []), rfl, ⟨(show ((-13) : Int32) = if 0 ≤ (0 : Int32) ∧ (0 : Int32) ≤ 3 ∧ 0 ≤ fm ∧ fm ≤ 2 then (if sLo (0 : Int32).toNatClampNeg = 0 ∧ sFo (0 : Int32).toNatClampNeg = fm ∧ 0 ≤ ix ∧ ix < sSi (0 : Int32).toNatClampNeg then 1 else if sLo (0 : Int32).toNatClampNeg = 0 ∧ sFo (0 : Int32).toNatClampNeg = fm then -12 else if sLo (0 : Int32).toNatClampNeg = 0 then -13 else -11) else -2 from (((((((if_pos (c_24)).symm).trans (if_neg (c_22)).symm)).trans (if_neg (c_13)).symm)).trans (if_pos (show 0 ≤ (0 : Int32) ∧ (0 : Int32) ≤ 3 ∧ 0 ≤ fm ∧ fm ≤ 2 from ⟨(by decide), (by decide), c_4.1, c_4.2⟩)).symm)), (c_12.trans (congrArg (fun z => kFd z xf) c_25)), (if_neg (show ¬ ((0 ≤ (0 : Int32) ∧ (0 : Int32) ≤ 3 ∧ 0 ≤ fm ∧ fm ≤ 2 ∧ sLo (0 : Int32).toNatClampNeg = 0 ∧ sFo (0 : Int32).toNatClampNeg = fm ∧ 0 ≤ ix ∧ ix < sSi (0 : Int32).toNatClampNeg) ∧ (0 : Int32) = 0) from (fun z => (fun z => c_13 (And.intro z.2.2.2.2.1 (And.intro z.2.2.2.2.2.1 (And.intro z.2.2.2.2.2.2.1 z.2.2.2.2.2.2.2)))) z.1))).symm, (if_neg (show ¬ ((0 ≤ (0 : Int32) ∧ (0 : Int32) ≤ 3 ∧ 0 ≤ fm ∧ fm ≤ 2 ∧ sLo (0 : Int32).toNatClampNeg = 0 ∧ sFo (0 : Int32).toNatClampNeg = fm ∧ 0 ≤ ix ∧ ix < sSi (0 : Int32).toNatClampNeg) ∧ (0 : Int32) = 1) from (fun z => (fun z => c_13 (And.intro z.2.2.2.2.1 (And.intro z.2.2.2.2.2.1 (And.intro z.2.2.2.2.2.2.1 z.2.2.2.2.2.2.2)))) z.1))).symm, (if_neg (show ¬ ((0 ≤ (0 : Int32) ∧ (0 : Int32) ≤ 3 ∧ 0 ≤ fm ∧ fm ≤ 2 ∧ sLo (0 : Int32).toNatClampNeg = 0 ∧ sFo (0 : Int32).toNatClampNeg = fm ∧ 0 ≤ ix ∧ ix < sSi (0 : Int32).toNatClampNeg) ∧ (0 : Int32) = 2) from (fun z => (fun z => c_13 (And.intro z.2.2.2.2.1 (And.intro z.2.2.2.2.2.1 (And.intro z.2.2.2.2.2.2.1 z.2.2.2.2.2.2.2)))) z.1))).symm, (if_neg (show ¬ ((0 ≤ (0 : Int32) ∧ (0 : Int32) ≤ 3 ∧ 0 ≤ fm ∧ fm ≤ 2 ∧ sLo (0 : Int32).toNatClampNeg = 0 ∧ sFo (0 : Int32).toNatClampNeg = fm ∧ 0 ≤ ix ∧ ix < sSi (0 : Int32).toNatClampNeg) ∧ (0 : Int32) = 3) from (fun z => (fun z => c_13 (And.intro z.2.2.2.2.1 (And.intro z.2.2.2.2.2.1 (And.intro z.2.2.2.2.2.2.1 z.2.2.2.2.2.2.2)))) z.1))).symm⟩, by rw [ht]; exact hP9, va_K.moved hW.alike hK, hD9⟩, hS.F ht⟩) hS.2.2 dX11_lay_39
      rw [if_neg c_24] at hw
      have c_26 := hw
      refine k_topi (v := (-11)) hw ?_
      refine lv_istore (lv' := [(6, .int (-11)), (5, .ref s0), (0, .ref hx), (1, .int 0), (2, .int fm), (3, .int ix), (4, .int v1)]) hx₀ hb dX11_lay_30 hl (by decide) rfl (fun ls hl => ?_)
      refine lv_iload hx₀ hb dX11_lay_32 (lv_at hl 0 rfl) ?_
      refine lv_if_eq (tgt := 40) hx₀ hb dX11_lay_34 (by decide) (fun c9 => absurd c9 (by decide +kernel)) (fun _ => ?_)
      refine lv_iload hx₀ hb dX11_lay_37 (lv_at hl 0 rfl) ?_
      obtain ⟨hP9, hD9⟩ := k_c2 (wc := [(kX11 hx aLa aPa aGe aFl aTr aBe aLu aLo vSf vSm vCo vSh xs xl (g_6 0)), (kAQ vSh cQ 4 (fSh s0 s1 s2 s3)), (kX8 s0 i0 (sLo 0) (sFo 0) (sSi 0)), (kAI i0 cI 60 gq0), (kX8 s1 i1 (sLo 1) (sFo 1) (sSi 1)), (kAI i1 cI 60 gq1), (kX8 s2 i2 (sLo 2) (sFo 2) (sSi 2)), (kAI i2 cI 60 gq2), (kX8 s3 i3 (sLo 3) (sFo 3) (sSi 3)), (kAI i3 cI 60 gq3)]) hP hD [8, 7, 9, 0, 1, 2, 3, 4, 5, 6] (by decide +kernel) rfl
      exact W.iret (v := (-11)) hx₀ hb hr (fun t₀ ht hW => ⟨⟨(-11), (k_fn [(g_6 0)], k_fa [gq0, gq1, gq2, gq3], k_fl [], k_fL [], k_fp []), rfl, ⟨(show ((-11) : Int32) = if 0 ≤ (0 : Int32) ∧ (0 : Int32) ≤ 3 ∧ 0 ≤ fm ∧ fm ≤ 2 then (if sLo (0 : Int32).toNatClampNeg = 0 ∧ sFo (0 : Int32).toNatClampNeg = fm ∧ 0 ≤ ix ∧ ix < sSi (0 : Int32).toNatClampNeg then 1 else if sLo (0 : Int32).toNatClampNeg = 0 ∧ sFo (0 : Int32).toNatClampNeg = fm then -12 else if sLo (0 : Int32).toNatClampNeg = 0 then -13 else -11) else -2 from (((((((if_neg (c_24)).symm).trans (if_neg (c_22)).symm)).trans (if_neg (c_13)).symm)).trans (if_pos (show 0 ≤ (0 : Int32) ∧ (0 : Int32) ≤ 3 ∧ 0 ≤ fm ∧ fm ≤ 2 from ⟨(by decide), (by decide), c_4.1, c_4.2⟩)).symm)), (c_12.trans (congrArg (fun z => kFd z xf) c_26)), (if_neg (show ¬ ((0 ≤ (0 : Int32) ∧ (0 : Int32) ≤ 3 ∧ 0 ≤ fm ∧ fm ≤ 2 ∧ sLo (0 : Int32).toNatClampNeg = 0 ∧ sFo (0 : Int32).toNatClampNeg = fm ∧ 0 ≤ ix ∧ ix < sSi (0 : Int32).toNatClampNeg) ∧ (0 : Int32) = 0) from (fun z => (fun z => c_24 z.2.2.2.2.1) z.1))).symm, (if_neg (show ¬ ((0 ≤ (0 : Int32) ∧ (0 : Int32) ≤ 3 ∧ 0 ≤ fm ∧ fm ≤ 2 ∧ sLo (0 : Int32).toNatClampNeg = 0 ∧ sFo (0 : Int32).toNatClampNeg = fm ∧ 0 ≤ ix ∧ ix < sSi (0 : Int32).toNatClampNeg) ∧ (0 : Int32) = 1) from (fun z => (fun z => c_24 z.2.2.2.2.1) z.1))).symm, (if_neg (show ¬ ((0 ≤ (0 : Int32) ∧ (0 : Int32) ≤ 3 ∧ 0 ≤ fm ∧ fm ≤ 2 ∧ sLo (0 : Int32).toNatClampNeg = 0 ∧ sFo (0 : Int32).toNatClampNeg = fm ∧ 0 ≤ ix ∧ ix < sSi (0 : Int32).toNatClampNeg) ∧ (0 : Int32) = 2) from (fun z => (fun z => c_24 z.2.2.2.2.1) z.1))).symm, (if_neg (show ¬ ((0 ≤ (0 : Int32) ∧ (0 : Int32) ≤ 3 ∧ 0 ≤ fm ∧ fm ≤ 2 ∧ sLo (0 : Int32).toNatClampNeg = 0 ∧ sFo (0 : Int32).toNatClampNeg = fm ∧ 0 ≤ ix ∧ ix < sSi (0 : Int32).toNatClampNeg) ∧ (0 : Int32) = 3) from (fun z => (fun z => c_24 z.2.2.2.2.1) z.1))).symm⟩, by rw [ht]; exact hP9, va_K.moved hW.alike hK, hD9⟩, hS.F ht⟩) hS.2.2 dX11_lay_39
    rw [if_neg c_4] at hw
    refine k_topi (v := 0) hw ?_
    refine lv_if_ne (tgt := 22) hx₀ hb dX11_lay_16 (by decide) (fun c9 => absurd (by decide +kernel) c9) (fun _ => ?_)
    refine lv_bipush (v := (-2)) hx₀ hb dX11_lay_19 (by decide +kernel) ?_
    obtain ⟨hP9, hD9⟩ := k_c2 (wc := [(kX11 hx aLa aPa aGe aFl aTr aBe aLu aLo vSf vSm vCo vSh xs xl xf), (kAQ vSh cQ 4 (fSh s0 s1 s2 s3)), (kX8 s0 i0 (sLo 0) (sFo 0) (sSi 0)), (kAI i0 cI 60 gq0), (kX8 s1 i1 (sLo 1) (sFo 1) (sSi 1)), (kAI i1 cI 60 gq1), (kX8 s2 i2 (sLo 2) (sFo 2) (sSi 2)), (kAI i2 cI 60 gq2), (kX8 s3 i3 (sLo 3) (sFo 3) (sSi 3)), (kAI i3 cI 60 gq3)]) hP hD [8, 9, 0, 1, 2, 3, 4, 5, 6, 7] (by decide +kernel) rfl
    exact W.iret (v := (-2)) hx₀ hb hr (fun t₀ ht hW => ⟨⟨(-2), (k_fn [xf], k_fa [gq0, gq1, gq2, gq3], k_fl [], k_fL [], k_fp []), rfl, ⟨(show ((-2) : Int32) = if 0 ≤ (0 : Int32) ∧ (0 : Int32) ≤ 3 ∧ 0 ≤ fm ∧ fm ≤ 2 then (if sLo (0 : Int32).toNatClampNeg = 0 ∧ sFo (0 : Int32).toNatClampNeg = fm ∧ 0 ≤ ix ∧ ix < sSi (0 : Int32).toNatClampNeg then 1 else if sLo (0 : Int32).toNatClampNeg = 0 ∧ sFo (0 : Int32).toNatClampNeg = fm then -12 else if sLo (0 : Int32).toNatClampNeg = 0 then -13 else -11) else -2 from (if_neg (show ¬ (0 ≤ (0 : Int32) ∧ (0 : Int32) ≤ 3 ∧ 0 ≤ fm ∧ fm ≤ 2) from (fun z => c_4 (And.intro z.2.2.1 z.2.2.2)))).symm), (kFd_ge (by decide)).symm, (if_neg (show ¬ ((0 ≤ (0 : Int32) ∧ (0 : Int32) ≤ 3 ∧ 0 ≤ fm ∧ fm ≤ 2 ∧ sLo (0 : Int32).toNatClampNeg = 0 ∧ sFo (0 : Int32).toNatClampNeg = fm ∧ 0 ≤ ix ∧ ix < sSi (0 : Int32).toNatClampNeg) ∧ (0 : Int32) = 0) from (fun z => (fun z => c_4 (And.intro z.2.2.1 z.2.2.2.1)) z.1))).symm, (if_neg (show ¬ ((0 ≤ (0 : Int32) ∧ (0 : Int32) ≤ 3 ∧ 0 ≤ fm ∧ fm ≤ 2 ∧ sLo (0 : Int32).toNatClampNeg = 0 ∧ sFo (0 : Int32).toNatClampNeg = fm ∧ 0 ≤ ix ∧ ix < sSi (0 : Int32).toNatClampNeg) ∧ (0 : Int32) = 1) from (fun z => (fun z => c_4 (And.intro z.2.2.1 z.2.2.2.1)) z.1))).symm, (if_neg (show ¬ ((0 ≤ (0 : Int32) ∧ (0 : Int32) ≤ 3 ∧ 0 ≤ fm ∧ fm ≤ 2 ∧ sLo (0 : Int32).toNatClampNeg = 0 ∧ sFo (0 : Int32).toNatClampNeg = fm ∧ 0 ≤ ix ∧ ix < sSi (0 : Int32).toNatClampNeg) ∧ (0 : Int32) = 2) from (fun z => (fun z => c_4 (And.intro z.2.2.1 z.2.2.2.1)) z.1))).symm, (if_neg (show ¬ ((0 ≤ (0 : Int32) ∧ (0 : Int32) ≤ 3 ∧ 0 ≤ fm ∧ fm ≤ 2 ∧ sLo (0 : Int32).toNatClampNeg = 0 ∧ sFo (0 : Int32).toNatClampNeg = fm ∧ 0 ≤ ix ∧ ix < sSi (0 : Int32).toNatClampNeg) ∧ (0 : Int32) = 3) from (fun z => (fun z => c_4 (And.intro z.2.2.1 z.2.2.2.1)) z.1))).symm⟩, by rw [ht]; exact hP9, va_K.moved hW.alike hK, hD9⟩, hS.F ht⟩) hS.2.2 dX11_lay_21
  rw [if_neg c_2] at hw
  by_cases c_27 : ss = 1
  · rw [if_pos c_27] at hw
    subst hw
    refine W.eq (g2 := F0 m₀ 5 ls [.ref s1]) rfl ?_
    subst c_27
    refine lv_astore (lv' := [(5, .ref s1), (0, .ref hx), (1, .int 1), (2, .int fm), (3, .int ix), (4, .int v1)]) hx₀ hb dX11_lay_5 hl (by decide) rfl (fun ls hl => ?_)
    refine lv_aload hx₀ hb dX11_lay_7 (lv_at hl 0 rfl) ?_
    refine lv_ifnull hx₀ hb dX11_lay_9 ?_
    refine lv_iload_n hx₀ hb dX11_lay_12 rfl (lv_at hl 3 rfl) ?_
    obtain ⟨hPc, hDc, hFc, hC⟩ := k_cw (wc := []) hP hD hS hA [] (by decide +kernel) rfl
    refine va_calli (va_runS (As := [.int fm]) (rest := []) ⟨hx₀, hb, hml, hown, hts⟩ (j_isForm l dC dI cI cJ cQ H.size fm) (va_cwS 1 hts (kGS wd_864 wd_862 wd_863 wd_2) rfl rfl rfl (by decide +kernel) ⟨Nat.le_of_ble_eq_true rfl, Nat.le_of_ble_eq_true rfl⟩) (k_preS hK hPc hDc hN) rfl rfl hl.1 rfl (lv_room (Nat.le_of_ble_eq_true rfl)) dX11_lay_13 ⟨by decide +kernel, by decide +kernel⟩) hS (fun q _ h => hFc q h) hFc (fun r_28 u₀ t₀ H1 locs ht hvm hw hB hz1 hk1 hS => ?_)
    obtain ⟨hP1, hK1, hD1⟩ := hB
    rw [ht] at hP1
    have hJ := k_jn (wr := [(kX8 s0 i0 (sLo 0) (sFo 0) (sSi 0)), (kAI i0 cI 60 gq0), (kX8 s1 i1 (sLo 1) (sFo 1) (sSi 1)), (kAI i1 cI 60 gq1), (kX8 s2 i2 (sLo 2) (sFo 2) (sSi 2)), (kAI i2 cI 60 gq2), (kX8 s3 i3 (sLo 3) (sFo 3) (sSi 3)), (kAI i3 cI 60 gq3), (kX11 hx aLa aPa aGe aFl aTr aBe aLu aLo vSf vSm vCo vSh xs xl xf), (kAQ vSh cQ 4 (fSh s0 s1 s2 s3))]) (wt := [(kX8 s0 i0 (sLo 0) (sFo 0) (sSi 0)), (kAI i0 cI 60 gq0), (kX8 s1 i1 (sLo 1) (sFo 1) (sSi 1)), (kAI i1 cI 60 gq1), (kX8 s2 i2 (sLo 2) (sFo 2) (sSi 2)), (kAI i2 cI 60 gq2), (kX8 s3 i3 (sLo 3) (sFo 3) (sSi 3)), (kAI i3 cI 60 gq3), (kX11 hx aLa aPa aGe aFl aTr aBe aLu aLo vSf vSm vCo vSh xs xl xf), (kAQ vSh cQ 4 (fSh s0 s1 s2 s3))]) hP hD hC [0, 1, 2, 3, 4, 5, 6, 7, 8, 9] rfl (by decide +kernel) (by decide +kernel) hk1 hFc hP1 hD1 rfl
    clear hP hD hPc hDc hFc hC hP1 hD1 hK1 hz1 hk1 hvm ht
    obtain ⟨hP, hD⟩ := hJ
    generalize H1 = H at hP hS ⊢
    try dsimp only at hw
    by_cases c_29 : 0 ≤ fm ∧ fm ≤ 2
    · rw [if_pos c_29] at hw
      refine k_topi (v := 1) hw ?_
      refine lv_if_ne (tgt := 22) hx₀ hb dX11_lay_16 (by decide) (fun _ => ?_) (fun c9 => absurd c9 (by decide +kernel))
      refine lv_aload_n hx₀ hb dX11_lay_22 rfl (lv_at hl 1 rfl) ?_
      refine lv_aload hx₀ hb dX11_lay_23 (lv_at hl 0 rfl) ?_
      refine lv_iload_n hx₀ hb dX11_lay_25 rfl (lv_at hl 3 rfl) ?_
      refine lv_iload_n hx₀ hb dX11_lay_26 rfl (lv_at hl 4 rfl) ?_
      obtain ⟨hPc, hDc, hFc, hC⟩ := k_cw (wc := [(kX11 hx aLa aPa aGe aFl aTr aBe aLu aLo vSf vSm vCo vSh xs xl xf), (kX8 s1 i1 (sLo 1) (sFo 1) (sSi 1))]) hP hD hS hA [8, 2] (by decide +kernel) rfl
      refine va_calli (va_runV (As := [.ref s1, .int fm, .int ix]) (rest := []) ⟨hx₀, hb, hml, hown, hts⟩ (j_refuse l dC dI cI cJ cQ H.size hx s1 fm ix aLa aPa aGe aFl aTr aBe aLu aLo vSf vSm vCo vSh xs xl xf i1 (sLo 1) (sFo 1) (sSi 1) (lf_j_lay_1 (sSi 1) hq1)) (cwV 3 hts (kGV wd_891 wd_888 wd_889 wd_890 wd_2) rfl rfl rfl (by decide +kernel) ⟨Nat.le_of_ble_eq_true rfl, Nat.le_of_ble_eq_true rfl⟩) (k_preV10 (q0 := 0) hK hPc hDc hN rfl) rfl rfl hl.1 rfl (lv_room (Nat.le_of_ble_eq_true rfl)) dX11_lay_27 ⟨by decide +kernel, by decide +kernel⟩) hS (fun q _ h => hFc q h) hFc (fun r_30 u₀ t₀ H1 locs ht hvm hw hB hz1 hk1 hS => ?_)
      obtain ⟨g_31, ga_32, gl_33, gb_34, gp_35⟩ := u₀
      obtain ⟨hP1, hK1, hD1⟩ := hB
      rw [ht] at hP1
      have hJ := k_jn (wr := [(kX8 s0 i0 (sLo 0) (sFo 0) (sSi 0)), (kAI i0 cI 60 gq0), (kAI i1 cI 60 gq1), (kX8 s2 i2 (sLo 2) (sFo 2) (sSi 2)), (kAI i2 cI 60 gq2), (kX8 s3 i3 (sLo 3) (sFo 3) (sSi 3)), (kAI i3 cI 60 gq3), (kAQ vSh cQ 4 (fSh s0 s1 s2 s3))]) (wt := [(kX8 s0 i0 (sLo 0) (sFo 0) (sSi 0)), (kAI i0 cI 60 gq0), (kAI i1 cI 60 gq1), (kX8 s2 i2 (sLo 2) (sFo 2) (sSi 2)), (kAI i2 cI 60 gq2), (kX8 s3 i3 (sLo 3) (sFo 3) (sSi 3)), (kAI i3 cI 60 gq3), (kAQ vSh cQ 4 (fSh s0 s1 s2 s3)), (kX11 hx aLa aPa aGe aFl aTr aBe aLu aLo vSf vSm vCo vSh xs xl (g_31 0)), (kX8 s1 i1 (sLo 1) (sFo 1) (sSi 1))]) hP hD hC [0, 1, 3, 4, 5, 6, 7, 9] rfl (by decide +kernel) (by decide +kernel) hk1 hFc hP1 hD1 rfl
      clear hP hD hPc hDc hFc hC hP1 hD1 hK1 hz1 hk1 hvm ht
      obtain ⟨hP, hD⟩ := hJ
      generalize H1 = H at hP hS ⊢
      try dsimp only at hw
      obtain ⟨c_36, c_37⟩ := hw
      have hw := c_36
      by_cases c_38 : (sLo 1) = 0 ∧ (sFo 1) = fm ∧ 0 ≤ ix ∧ ix < (sSi 1)
      · rw [if_pos c_38] at hw
        have c_39 := hw
        refine k_topi (v := 0) hw ?_
        refine lv_istore (lv' := [(6, .int 0), (5, .ref s1), (0, .ref hx), (1, .int 1), (2, .int fm), (3, .int ix), (4, .int v1)]) hx₀ hb dX11_lay_30 hl (by decide) rfl (fun ls hl => ?_)
        refine lv_iload hx₀ hb dX11_lay_32 (lv_at hl 0 rfl) ?_
        refine lv_if_eq (tgt := 40) hx₀ hb dX11_lay_34 (by decide) (fun _ => ?_) (fun c9 => absurd (by decide +kernel) c9)
        refine lv_aload hx₀ hb dX11_lay_40 (lv_at hl 1 rfl) ?_
        refine lv_iload_n hx₀ hb dX11_lay_42 rfl (lv_at hl 5 rfl) ?_
        refine lv_iload hx₀ hb dX11_lay_43 (lv_at hl 6 rfl) ?_
        obtain ⟨hPc, hDc, hFc, hC⟩ := k_cw (wc := [(kX8 s1 i1 (sLo 1) (sFo 1) (sSi 1)), (kAI i1 cI 60 gq1)]) hP hD hS hA [9, 2] (by decide +kernel) rfl
        refine va_callv (va_runV (As := [.int ix, .int v1]) (rest := []) ⟨hx₀, hb, hml, hown, hts⟩ (j_put l dC dI cI cJ cQ H.size s1 ix v1 i1 (sLo 1) (sFo 1) (sSi 1) gq1 (lf_j_lay_2 (sSi 1) fm (sLo 1) (sFo 1) ix hq1 c_29 c_38)) (cwV 2 hts (kGV wd_900 wd_897 wd_898 wd_899 wd_51) rfl rfl rfl (by decide +kernel) ⟨Nat.le_of_ble_eq_true rfl, Nat.le_of_ble_eq_true rfl⟩) (k_preV8 (q0 := 0) hK hPc hDc hN rfl) rfl rfl hl.1 rfl (lv_room (Nat.le_of_ble_eq_true rfl)) dX11_lay_45 ⟨by decide +kernel, by decide +kernel⟩) hS (fun q _ h => hFc q h) hFc (fun u₀ t₀ H1 locs ht hvm hw hB hz1 hk1 hS => ?_)
        obtain ⟨g_41, ga_42, gl_43, gb_44, gp_45⟩ := u₀
        obtain ⟨hP1, hK1, hD1⟩ := hB
        rw [ht] at hP1
        have hJ := k_jn (wr := [(kX8 s0 i0 (sLo 0) (sFo 0) (sSi 0)), (kAI i0 cI 60 gq0), (kX8 s2 i2 (sLo 2) (sFo 2) (sSi 2)), (kAI i2 cI 60 gq2), (kX8 s3 i3 (sLo 3) (sFo 3) (sSi 3)), (kAI i3 cI 60 gq3), (kAQ vSh cQ 4 (fSh s0 s1 s2 s3)), (kX11 hx aLa aPa aGe aFl aTr aBe aLu aLo vSf vSm vCo vSh xs xl (g_31 0))]) (wt := [(kX8 s0 i0 (sLo 0) (sFo 0) (sSi 0)), (kAI i0 cI 60 gq0), (kX8 s2 i2 (sLo 2) (sFo 2) (sSi 2)), (kAI i2 cI 60 gq2), (kX8 s3 i3 (sLo 3) (sFo 3) (sSi 3)), (kAI i3 cI 60 gq3), (kAQ vSh cQ 4 (fSh s0 s1 s2 s3)), (kX11 hx aLa aPa aGe aFl aTr aBe aLu aLo vSf vSm vCo vSh xs xl (g_31 0)), (kX8 s1 i1 (sLo 1) (sFo 1) (sSi 1)), (kAI i1 cI 60 (ga_42 0))]) hP hD hC [0, 1, 3, 4, 5, 6, 7, 8] rfl (by decide +kernel) (by decide +kernel) hk1 hFc hP1 hD1 rfl
        clear hP hD hPc hDc hFc hC hP1 hD1 hK1 hz1 hk1 hvm ht
        obtain ⟨hP, hD⟩ := hJ
        generalize H1 = H at hP hS ⊢
        try dsimp only at hw
        have c_46 := hw
        refine lv_iconst (v := 1) hx₀ hb dX11_lay_48 (by decide +kernel) ?_
        obtain ⟨hP9, hD9⟩ := k_c2 (wc := [(kX11 hx aLa aPa aGe aFl aTr aBe aLu aLo vSf vSm vCo vSh xs xl (g_31 0)), (kAQ vSh cQ 4 (fSh s0 s1 s2 s3)), (kX8 s0 i0 (sLo 0) (sFo 0) (sSi 0)), (kAI i0 cI 60 gq0), (kX8 s1 i1 (sLo 1) (sFo 1) (sSi 1)), (kAI i1 cI 60 (ga_42 0)), (kX8 s2 i2 (sLo 2) (sFo 2) (sSi 2)), (kAI i2 cI 60 gq2), (kX8 s3 i3 (sLo 3) (sFo 3) (sSi 3)), (kAI i3 cI 60 gq3)]) hP hD [7, 6, 0, 1, 8, 9, 2, 3, 4, 5] (by decide +kernel) rfl
        exact W.iret (v := 1) hx₀ hb hr (fun t₀ ht hW => ⟨⟨1, (k_fn [(g_31 0)], k_fa [gq0, ga_42 0, gq2, gq3], k_fl [], k_fL [], k_fp []), rfl, ⟨(show (1 : Int32) = if 0 ≤ (1 : Int32) ∧ (1 : Int32) ≤ 3 ∧ 0 ≤ fm ∧ fm ≤ 2 then (if sLo (1 : Int32).toNatClampNeg = 0 ∧ sFo (1 : Int32).toNatClampNeg = fm ∧ 0 ≤ ix ∧ ix < sSi (1 : Int32).toNatClampNeg then 1 else if sLo (1 : Int32).toNatClampNeg = 0 ∧ sFo (1 : Int32).toNatClampNeg = fm then -12 else if sLo (1 : Int32).toNatClampNeg = 0 then -13 else -11) else -2 from (((if_pos (show (sLo 1) = 0 ∧ (sFo 1) = fm ∧ 0 ≤ ix ∧ ix < (sSi 1) from ⟨c_38.1, c_38.2.1, c_38.2.2.1, c_38.2.2.2⟩)).symm).trans (if_pos (show 0 ≤ (1 : Int32) ∧ (1 : Int32) ≤ 3 ∧ 0 ≤ fm ∧ fm ≤ 2 from ⟨(by decide), (by decide), c_29.1, c_29.2⟩)).symm)), ((c_37.trans (congrArg (fun z => kFd z xf) c_39)).trans ((kFd_ge (by decide)).trans (kFd_ge (by decide)).symm)), (if_neg (show ¬ ((0 ≤ (1 : Int32) ∧ (1 : Int32) ≤ 3 ∧ 0 ≤ fm ∧ fm ≤ 2 ∧ sLo (1 : Int32).toNatClampNeg = 0 ∧ sFo (1 : Int32).toNatClampNeg = fm ∧ 0 ≤ ix ∧ ix < sSi (1 : Int32).toNatClampNeg) ∧ (1 : Int32) = 0) from (fun z => (fun z => absurd z (by decide)) z.2))).symm, ((c_46.trans (if_pos (show 0 ≤ ix ∧ ix < (sSi 1) from ⟨c_38.2.2.1, c_38.2.2.2⟩))).trans (if_pos (show (0 ≤ (1 : Int32) ∧ (1 : Int32) ≤ 3 ∧ 0 ≤ fm ∧ fm ≤ 2 ∧ sLo (1 : Int32).toNatClampNeg = 0 ∧ sFo (1 : Int32).toNatClampNeg = fm ∧ 0 ≤ ix ∧ ix < sSi (1 : Int32).toNatClampNeg) ∧ (1 : Int32) = 1 from ⟨⟨(by decide), (by decide), c_29.1, c_29.2, c_38.1, c_38.2.1, c_38.2.2.1, c_38.2.2.2⟩, rfl⟩)).symm), (if_neg (show ¬ ((0 ≤ (1 : Int32) ∧ (1 : Int32) ≤ 3 ∧ 0 ≤ fm ∧ fm ≤ 2 ∧ sLo (1 : Int32).toNatClampNeg = 0 ∧ sFo (1 : Int32).toNatClampNeg = fm ∧ 0 ≤ ix ∧ ix < sSi (1 : Int32).toNatClampNeg) ∧ (1 : Int32) = 2) from (fun z => (fun z => absurd z (by decide)) z.2))).symm, (if_neg (show ¬ ((0 ≤ (1 : Int32) ∧ (1 : Int32) ≤ 3 ∧ 0 ≤ fm ∧ fm ≤ 2 ∧ sLo (1 : Int32).toNatClampNeg = 0 ∧ sFo (1 : Int32).toNatClampNeg = fm ∧ 0 ≤ ix ∧ ix < sSi (1 : Int32).toNatClampNeg) ∧ (1 : Int32) = 3) from (fun z => (fun z => absurd z (by decide)) z.2))).symm⟩, by rw [ht]; exact hP9, va_K.moved hW.alike hK, hD9⟩, hS.F ht⟩) hS.2.2 dX11_lay_49
      rw [if_neg c_38] at hw
      by_cases c_47 : (sLo 1) = 0 ∧ (sFo 1) = fm
      · rw [if_pos c_47] at hw
        have c_48 := hw
        refine k_topi (v := (-12)) hw ?_
        refine lv_istore (lv' := [(6, .int (-12)), (5, .ref s1), (0, .ref hx), (1, .int 1), (2, .int fm), (3, .int ix), (4, .int v1)]) hx₀ hb dX11_lay_30 hl (by decide) rfl (fun ls hl => ?_)
        refine lv_iload hx₀ hb dX11_lay_32 (lv_at hl 0 rfl) ?_
        refine lv_if_eq (tgt := 40) hx₀ hb dX11_lay_34 (by decide) (fun c9 => absurd c9 (by decide +kernel)) (fun _ => ?_)
        refine lv_iload hx₀ hb dX11_lay_37 (lv_at hl 0 rfl) ?_
        obtain ⟨hP9, hD9⟩ := k_c2 (wc := [(kX11 hx aLa aPa aGe aFl aTr aBe aLu aLo vSf vSm vCo vSh xs xl (g_31 0)), (kAQ vSh cQ 4 (fSh s0 s1 s2 s3)), (kX8 s0 i0 (sLo 0) (sFo 0) (sSi 0)), (kAI i0 cI 60 gq0), (kX8 s1 i1 (sLo 1) (sFo 1) (sSi 1)), (kAI i1 cI 60 gq1), (kX8 s2 i2 (sLo 2) (sFo 2) (sSi 2)), (kAI i2 cI 60 gq2), (kX8 s3 i3 (sLo 3) (sFo 3) (sSi 3)), (kAI i3 cI 60 gq3)]) hP hD [8, 7, 0, 1, 9, 2, 3, 4, 5, 6] (by decide +kernel) rfl
        exact W.iret (v := (-12)) hx₀ hb hr (fun t₀ ht hW => ⟨⟨(-12), (k_fn [(g_31 0)], k_fa [gq0, gq1, gq2, gq3], k_fl [], k_fL [], k_fp []), rfl, ⟨(show ((-12) : Int32) = if 0 ≤ (1 : Int32) ∧ (1 : Int32) ≤ 3 ∧ 0 ≤ fm ∧ fm ≤ 2 then (if sLo (1 : Int32).toNatClampNeg = 0 ∧ sFo (1 : Int32).toNatClampNeg = fm ∧ 0 ≤ ix ∧ ix < sSi (1 : Int32).toNatClampNeg then 1 else if sLo (1 : Int32).toNatClampNeg = 0 ∧ sFo (1 : Int32).toNatClampNeg = fm then -12 else if sLo (1 : Int32).toNatClampNeg = 0 then -13 else -11) else -2 from (((((if_pos (show (sLo 1) = 0 ∧ (sFo 1) = fm from ⟨c_47.1, c_47.2⟩)).symm).trans (if_neg (c_38)).symm)).trans (if_pos (show 0 ≤ (1 : Int32) ∧ (1 : Int32) ≤ 3 ∧ 0 ≤ fm ∧ fm ≤ 2 from ⟨(by decide), (by decide), c_29.1, c_29.2⟩)).symm)), (c_37.trans (congrArg (fun z => kFd z xf) c_48)), (if_neg (show ¬ ((0 ≤ (1 : Int32) ∧ (1 : Int32) ≤ 3 ∧ 0 ≤ fm ∧ fm ≤ 2 ∧ sLo (1 : Int32).toNatClampNeg = 0 ∧ sFo (1 : Int32).toNatClampNeg = fm ∧ 0 ≤ ix ∧ ix < sSi (1 : Int32).toNatClampNeg) ∧ (1 : Int32) = 0) from (fun z => (fun z => c_38 (And.intro z.2.2.2.2.1 (And.intro z.2.2.2.2.2.1 (And.intro z.2.2.2.2.2.2.1 z.2.2.2.2.2.2.2)))) z.1))).symm, (if_neg (show ¬ ((0 ≤ (1 : Int32) ∧ (1 : Int32) ≤ 3 ∧ 0 ≤ fm ∧ fm ≤ 2 ∧ sLo (1 : Int32).toNatClampNeg = 0 ∧ sFo (1 : Int32).toNatClampNeg = fm ∧ 0 ≤ ix ∧ ix < sSi (1 : Int32).toNatClampNeg) ∧ (1 : Int32) = 1) from (fun z => (fun z => c_38 (And.intro z.2.2.2.2.1 (And.intro z.2.2.2.2.2.1 (And.intro z.2.2.2.2.2.2.1 z.2.2.2.2.2.2.2)))) z.1))).symm, (if_neg (show ¬ ((0 ≤ (1 : Int32) ∧ (1 : Int32) ≤ 3 ∧ 0 ≤ fm ∧ fm ≤ 2 ∧ sLo (1 : Int32).toNatClampNeg = 0 ∧ sFo (1 : Int32).toNatClampNeg = fm ∧ 0 ≤ ix ∧ ix < sSi (1 : Int32).toNatClampNeg) ∧ (1 : Int32) = 2) from (fun z => (fun z => c_38 (And.intro z.2.2.2.2.1 (And.intro z.2.2.2.2.2.1 (And.intro z.2.2.2.2.2.2.1 z.2.2.2.2.2.2.2)))) z.1))).symm, (if_neg (show ¬ ((0 ≤ (1 : Int32) ∧ (1 : Int32) ≤ 3 ∧ 0 ≤ fm ∧ fm ≤ 2 ∧ sLo (1 : Int32).toNatClampNeg = 0 ∧ sFo (1 : Int32).toNatClampNeg = fm ∧ 0 ≤ ix ∧ ix < sSi (1 : Int32).toNatClampNeg) ∧ (1 : Int32) = 3) from (fun z => (fun z => c_38 (And.intro z.2.2.2.2.1 (And.intro z.2.2.2.2.2.1 (And.intro z.2.2.2.2.2.2.1 z.2.2.2.2.2.2.2)))) z.1))).symm⟩, by rw [ht]; exact hP9, va_K.moved hW.alike hK, hD9⟩, hS.F ht⟩) hS.2.2 dX11_lay_39
      rw [if_neg c_47] at hw
      by_cases c_49 : (sLo 1) = 0
      · rw [if_pos c_49] at hw
        have c_50 := hw
        refine k_topi (v := (-13)) hw ?_
        refine lv_istore (lv' := [(6, .int (-13)), (5, .ref s1), (0, .ref hx), (1, .int 1), (2, .int fm), (3, .int ix), (4, .int v1)]) hx₀ hb dX11_lay_30 hl (by decide) rfl (fun ls hl => ?_)
        refine lv_iload hx₀ hb dX11_lay_32 (lv_at hl 0 rfl) ?_
        refine lv_if_eq (tgt := 40) hx₀ hb dX11_lay_34 (by decide) (fun c9 => absurd c9 (by decide +kernel)) (fun _ => ?_)
        refine lv_iload hx₀ hb dX11_lay_37 (lv_at hl 0 rfl) ?_
        obtain ⟨hP9, hD9⟩ := k_c2 (wc := [(kX11 hx aLa aPa aGe aFl aTr aBe aLu aLo vSf vSm vCo vSh xs xl (g_31 0)), (kAQ vSh cQ 4 (fSh s0 s1 s2 s3)), (kX8 s0 i0 (sLo 0) (sFo 0) (sSi 0)), (kAI i0 cI 60 gq0), (kX8 s1 i1 (sLo 1) (sFo 1) (sSi 1)), (kAI i1 cI 60 gq1), (kX8 s2 i2 (sLo 2) (sFo 2) (sSi 2)), (kAI i2 cI 60 gq2), (kX8 s3 i3 (sLo 3) (sFo 3) (sSi 3)), (kAI i3 cI 60 gq3)]) hP hD [8, 7, 0, 1, 9, 2, 3, 4, 5, 6] (by decide +kernel) rfl
        exact W.iret (v := (-13)) hx₀ hb hr (fun t₀ ht hW => ⟨⟨(-13), (k_fn [(g_31 0)], k_fa [gq0, gq1, gq2, gq3], k_fl [], k_fL [], k_fp []), rfl, ⟨(show ((-13) : Int32) = if 0 ≤ (1 : Int32) ∧ (1 : Int32) ≤ 3 ∧ 0 ≤ fm ∧ fm ≤ 2 then (if sLo (1 : Int32).toNatClampNeg = 0 ∧ sFo (1 : Int32).toNatClampNeg = fm ∧ 0 ≤ ix ∧ ix < sSi (1 : Int32).toNatClampNeg then 1 else if sLo (1 : Int32).toNatClampNeg = 0 ∧ sFo (1 : Int32).toNatClampNeg = fm then -12 else if sLo (1 : Int32).toNatClampNeg = 0 then -13 else -11) else -2 from (((((((if_pos (c_49)).symm).trans (if_neg (c_47)).symm)).trans (if_neg (c_38)).symm)).trans (if_pos (show 0 ≤ (1 : Int32) ∧ (1 : Int32) ≤ 3 ∧ 0 ≤ fm ∧ fm ≤ 2 from ⟨(by decide), (by decide), c_29.1, c_29.2⟩)).symm)), (c_37.trans (congrArg (fun z => kFd z xf) c_50)), (if_neg (show ¬ ((0 ≤ (1 : Int32) ∧ (1 : Int32) ≤ 3 ∧ 0 ≤ fm ∧ fm ≤ 2 ∧ sLo (1 : Int32).toNatClampNeg = 0 ∧ sFo (1 : Int32).toNatClampNeg = fm ∧ 0 ≤ ix ∧ ix < sSi (1 : Int32).toNatClampNeg) ∧ (1 : Int32) = 0) from (fun z => (fun z => c_38 (And.intro z.2.2.2.2.1 (And.intro z.2.2.2.2.2.1 (And.intro z.2.2.2.2.2.2.1 z.2.2.2.2.2.2.2)))) z.1))).symm, (if_neg (show ¬ ((0 ≤ (1 : Int32) ∧ (1 : Int32) ≤ 3 ∧ 0 ≤ fm ∧ fm ≤ 2 ∧ sLo (1 : Int32).toNatClampNeg = 0 ∧ sFo (1 : Int32).toNatClampNeg = fm ∧ 0 ≤ ix ∧ ix < sSi (1 : Int32).toNatClampNeg) ∧ (1 : Int32) = 1) from (fun z => (fun z => c_38 (And.intro z.2.2.2.2.1 (And.intro z.2.2.2.2.2.1 (And.intro z.2.2.2.2.2.2.1 z.2.2.2.2.2.2.2)))) z.1))).symm, (if_neg (show ¬ ((0 ≤ (1 : Int32) ∧ (1 : Int32) ≤ 3 ∧ 0 ≤ fm ∧ fm ≤ 2 ∧ sLo (1 : Int32).toNatClampNeg = 0 ∧ sFo (1 : Int32).toNatClampNeg = fm ∧ 0 ≤ ix ∧ ix < sSi (1 : Int32).toNatClampNeg) ∧ (1 : Int32) = 2) from (fun z => (fun z => c_38 (And.intro z.2.2.2.2.1 (And.intro z.2.2.2.2.2.1 (And.intro z.2.2.2.2.2.2.1 z.2.2.2.2.2.2.2)))) z.1))).symm, (if_neg (show ¬ ((0 ≤ (1 : Int32) ∧ (1 : Int32) ≤ 3 ∧ 0 ≤ fm ∧ fm ≤ 2 ∧ sLo (1 : Int32).toNatClampNeg = 0 ∧ sFo (1 : Int32).toNatClampNeg = fm ∧ 0 ≤ ix ∧ ix < sSi (1 : Int32).toNatClampNeg) ∧ (1 : Int32) = 3) from (fun z => (fun z => c_38 (And.intro z.2.2.2.2.1 (And.intro z.2.2.2.2.2.1 (And.intro z.2.2.2.2.2.2.1 z.2.2.2.2.2.2.2)))) z.1))).symm⟩, by rw [ht]; exact hP9, va_K.moved hW.alike hK, hD9⟩, hS.F ht⟩) hS.2.2 dX11_lay_39
      rw [if_neg c_49] at hw
      have c_51 := hw
      refine k_topi (v := (-11)) hw ?_
      refine lv_istore (lv' := [(6, .int (-11)), (5, .ref s1), (0, .ref hx), (1, .int 1), (2, .int fm), (3, .int ix), (4, .int v1)]) hx₀ hb dX11_lay_30 hl (by decide) rfl (fun ls hl => ?_)
      refine lv_iload hx₀ hb dX11_lay_32 (lv_at hl 0 rfl) ?_
      refine lv_if_eq (tgt := 40) hx₀ hb dX11_lay_34 (by decide) (fun c9 => absurd c9 (by decide +kernel)) (fun _ => ?_)
      refine lv_iload hx₀ hb dX11_lay_37 (lv_at hl 0 rfl) ?_
      obtain ⟨hP9, hD9⟩ := k_c2 (wc := [(kX11 hx aLa aPa aGe aFl aTr aBe aLu aLo vSf vSm vCo vSh xs xl (g_31 0)), (kAQ vSh cQ 4 (fSh s0 s1 s2 s3)), (kX8 s0 i0 (sLo 0) (sFo 0) (sSi 0)), (kAI i0 cI 60 gq0), (kX8 s1 i1 (sLo 1) (sFo 1) (sSi 1)), (kAI i1 cI 60 gq1), (kX8 s2 i2 (sLo 2) (sFo 2) (sSi 2)), (kAI i2 cI 60 gq2), (kX8 s3 i3 (sLo 3) (sFo 3) (sSi 3)), (kAI i3 cI 60 gq3)]) hP hD [8, 7, 0, 1, 9, 2, 3, 4, 5, 6] (by decide +kernel) rfl
      exact W.iret (v := (-11)) hx₀ hb hr (fun t₀ ht hW => ⟨⟨(-11), (k_fn [(g_31 0)], k_fa [gq0, gq1, gq2, gq3], k_fl [], k_fL [], k_fp []), rfl, ⟨(show ((-11) : Int32) = if 0 ≤ (1 : Int32) ∧ (1 : Int32) ≤ 3 ∧ 0 ≤ fm ∧ fm ≤ 2 then (if sLo (1 : Int32).toNatClampNeg = 0 ∧ sFo (1 : Int32).toNatClampNeg = fm ∧ 0 ≤ ix ∧ ix < sSi (1 : Int32).toNatClampNeg then 1 else if sLo (1 : Int32).toNatClampNeg = 0 ∧ sFo (1 : Int32).toNatClampNeg = fm then -12 else if sLo (1 : Int32).toNatClampNeg = 0 then -13 else -11) else -2 from (((((((if_neg (c_49)).symm).trans (if_neg (c_47)).symm)).trans (if_neg (c_38)).symm)).trans (if_pos (show 0 ≤ (1 : Int32) ∧ (1 : Int32) ≤ 3 ∧ 0 ≤ fm ∧ fm ≤ 2 from ⟨(by decide), (by decide), c_29.1, c_29.2⟩)).symm)), (c_37.trans (congrArg (fun z => kFd z xf) c_51)), (if_neg (show ¬ ((0 ≤ (1 : Int32) ∧ (1 : Int32) ≤ 3 ∧ 0 ≤ fm ∧ fm ≤ 2 ∧ sLo (1 : Int32).toNatClampNeg = 0 ∧ sFo (1 : Int32).toNatClampNeg = fm ∧ 0 ≤ ix ∧ ix < sSi (1 : Int32).toNatClampNeg) ∧ (1 : Int32) = 0) from (fun z => (fun z => c_49 z.2.2.2.2.1) z.1))).symm, (if_neg (show ¬ ((0 ≤ (1 : Int32) ∧ (1 : Int32) ≤ 3 ∧ 0 ≤ fm ∧ fm ≤ 2 ∧ sLo (1 : Int32).toNatClampNeg = 0 ∧ sFo (1 : Int32).toNatClampNeg = fm ∧ 0 ≤ ix ∧ ix < sSi (1 : Int32).toNatClampNeg) ∧ (1 : Int32) = 1) from (fun z => (fun z => c_49 z.2.2.2.2.1) z.1))).symm, (if_neg (show ¬ ((0 ≤ (1 : Int32) ∧ (1 : Int32) ≤ 3 ∧ 0 ≤ fm ∧ fm ≤ 2 ∧ sLo (1 : Int32).toNatClampNeg = 0 ∧ sFo (1 : Int32).toNatClampNeg = fm ∧ 0 ≤ ix ∧ ix < sSi (1 : Int32).toNatClampNeg) ∧ (1 : Int32) = 2) from (fun z => (fun z => c_49 z.2.2.2.2.1) z.1))).symm, (if_neg (show ¬ ((0 ≤ (1 : Int32) ∧ (1 : Int32) ≤ 3 ∧ 0 ≤ fm ∧ fm ≤ 2 ∧ sLo (1 : Int32).toNatClampNeg = 0 ∧ sFo (1 : Int32).toNatClampNeg = fm ∧ 0 ≤ ix ∧ ix < sSi (1 : Int32).toNatClampNeg) ∧ (1 : Int32) = 3) from (fun z => (fun z => c_49 z.2.2.2.2.1) z.1))).symm⟩, by rw [ht]; exact hP9, va_K.moved hW.alike hK, hD9⟩, hS.F ht⟩) hS.2.2 dX11_lay_39
    rw [if_neg c_29] at hw
    refine k_topi (v := 0) hw ?_
    refine lv_if_ne (tgt := 22) hx₀ hb dX11_lay_16 (by decide) (fun c9 => absurd (by decide +kernel) c9) (fun _ => ?_)
    refine lv_bipush (v := (-2)) hx₀ hb dX11_lay_19 (by decide +kernel) ?_
    obtain ⟨hP9, hD9⟩ := k_c2 (wc := [(kX11 hx aLa aPa aGe aFl aTr aBe aLu aLo vSf vSm vCo vSh xs xl xf), (kAQ vSh cQ 4 (fSh s0 s1 s2 s3)), (kX8 s0 i0 (sLo 0) (sFo 0) (sSi 0)), (kAI i0 cI 60 gq0), (kX8 s1 i1 (sLo 1) (sFo 1) (sSi 1)), (kAI i1 cI 60 gq1), (kX8 s2 i2 (sLo 2) (sFo 2) (sSi 2)), (kAI i2 cI 60 gq2), (kX8 s3 i3 (sLo 3) (sFo 3) (sSi 3)), (kAI i3 cI 60 gq3)]) hP hD [8, 9, 0, 1, 2, 3, 4, 5, 6, 7] (by decide +kernel) rfl
    exact W.iret (v := (-2)) hx₀ hb hr (fun t₀ ht hW => ⟨⟨(-2), (k_fn [xf], k_fa [gq0, gq1, gq2, gq3], k_fl [], k_fL [], k_fp []), rfl, ⟨(show ((-2) : Int32) = if 0 ≤ (1 : Int32) ∧ (1 : Int32) ≤ 3 ∧ 0 ≤ fm ∧ fm ≤ 2 then (if sLo (1 : Int32).toNatClampNeg = 0 ∧ sFo (1 : Int32).toNatClampNeg = fm ∧ 0 ≤ ix ∧ ix < sSi (1 : Int32).toNatClampNeg then 1 else if sLo (1 : Int32).toNatClampNeg = 0 ∧ sFo (1 : Int32).toNatClampNeg = fm then -12 else if sLo (1 : Int32).toNatClampNeg = 0 then -13 else -11) else -2 from (if_neg (show ¬ (0 ≤ (1 : Int32) ∧ (1 : Int32) ≤ 3 ∧ 0 ≤ fm ∧ fm ≤ 2) from (fun z => c_29 (And.intro z.2.2.1 z.2.2.2)))).symm), (kFd_ge (by decide)).symm, (if_neg (show ¬ ((0 ≤ (1 : Int32) ∧ (1 : Int32) ≤ 3 ∧ 0 ≤ fm ∧ fm ≤ 2 ∧ sLo (1 : Int32).toNatClampNeg = 0 ∧ sFo (1 : Int32).toNatClampNeg = fm ∧ 0 ≤ ix ∧ ix < sSi (1 : Int32).toNatClampNeg) ∧ (1 : Int32) = 0) from (fun z => (fun z => c_29 (And.intro z.2.2.1 z.2.2.2.1)) z.1))).symm, (if_neg (show ¬ ((0 ≤ (1 : Int32) ∧ (1 : Int32) ≤ 3 ∧ 0 ≤ fm ∧ fm ≤ 2 ∧ sLo (1 : Int32).toNatClampNeg = 0 ∧ sFo (1 : Int32).toNatClampNeg = fm ∧ 0 ≤ ix ∧ ix < sSi (1 : Int32).toNatClampNeg) ∧ (1 : Int32) = 1) from (fun z => (fun z => c_29 (And.intro z.2.2.1 z.2.2.2.1)) z.1))).symm, (if_neg (show ¬ ((0 ≤ (1 : Int32) ∧ (1 : Int32) ≤ 3 ∧ 0 ≤ fm ∧ fm ≤ 2 ∧ sLo (1 : Int32).toNatClampNeg = 0 ∧ sFo (1 : Int32).toNatClampNeg = fm ∧ 0 ≤ ix ∧ ix < sSi (1 : Int32).toNatClampNeg) ∧ (1 : Int32) = 2) from (fun z => (fun z => c_29 (And.intro z.2.2.1 z.2.2.2.1)) z.1))).symm, (if_neg (show ¬ ((0 ≤ (1 : Int32) ∧ (1 : Int32) ≤ 3 ∧ 0 ≤ fm ∧ fm ≤ 2 ∧ sLo (1 : Int32).toNatClampNeg = 0 ∧ sFo (1 : Int32).toNatClampNeg = fm ∧ 0 ≤ ix ∧ ix < sSi (1 : Int32).toNatClampNeg) ∧ (1 : Int32) = 3) from (fun z => (fun z => c_29 (And.intro z.2.2.1 z.2.2.2.1)) z.1))).symm⟩, by rw [ht]; exact hP9, va_K.moved hW.alike hK, hD9⟩, hS.F ht⟩) hS.2.2 dX11_lay_21
  rw [if_neg c_27] at hw
  by_cases c_52 : ss = 2
  · rw [if_pos c_52] at hw
    subst hw
    refine W.eq (g2 := F0 m₀ 5 ls [.ref s2]) rfl ?_
    subst c_52
    refine lv_astore (lv' := [(5, .ref s2), (0, .ref hx), (1, .int 2), (2, .int fm), (3, .int ix), (4, .int v1)]) hx₀ hb dX11_lay_5 hl (by decide) rfl (fun ls hl => ?_)
    refine lv_aload hx₀ hb dX11_lay_7 (lv_at hl 0 rfl) ?_
    refine lv_ifnull hx₀ hb dX11_lay_9 ?_
    refine lv_iload_n hx₀ hb dX11_lay_12 rfl (lv_at hl 3 rfl) ?_
    obtain ⟨hPc, hDc, hFc, hC⟩ := k_cw (wc := []) hP hD hS hA [] (by decide +kernel) rfl
    refine va_calli (va_runS (As := [.int fm]) (rest := []) ⟨hx₀, hb, hml, hown, hts⟩ (j_isForm l dC dI cI cJ cQ H.size fm) (va_cwS 1 hts (kGS wd_864 wd_862 wd_863 wd_2) rfl rfl rfl (by decide +kernel) ⟨Nat.le_of_ble_eq_true rfl, Nat.le_of_ble_eq_true rfl⟩) (k_preS hK hPc hDc hN) rfl rfl hl.1 rfl (lv_room (Nat.le_of_ble_eq_true rfl)) dX11_lay_13 ⟨by decide +kernel, by decide +kernel⟩) hS (fun q _ h => hFc q h) hFc (fun r_53 u₀ t₀ H1 locs ht hvm hw hB hz1 hk1 hS => ?_)
    obtain ⟨hP1, hK1, hD1⟩ := hB
    rw [ht] at hP1
    have hJ := k_jn (wr := [(kX8 s0 i0 (sLo 0) (sFo 0) (sSi 0)), (kAI i0 cI 60 gq0), (kX8 s1 i1 (sLo 1) (sFo 1) (sSi 1)), (kAI i1 cI 60 gq1), (kX8 s2 i2 (sLo 2) (sFo 2) (sSi 2)), (kAI i2 cI 60 gq2), (kX8 s3 i3 (sLo 3) (sFo 3) (sSi 3)), (kAI i3 cI 60 gq3), (kX11 hx aLa aPa aGe aFl aTr aBe aLu aLo vSf vSm vCo vSh xs xl xf), (kAQ vSh cQ 4 (fSh s0 s1 s2 s3))]) (wt := [(kX8 s0 i0 (sLo 0) (sFo 0) (sSi 0)), (kAI i0 cI 60 gq0), (kX8 s1 i1 (sLo 1) (sFo 1) (sSi 1)), (kAI i1 cI 60 gq1), (kX8 s2 i2 (sLo 2) (sFo 2) (sSi 2)), (kAI i2 cI 60 gq2), (kX8 s3 i3 (sLo 3) (sFo 3) (sSi 3)), (kAI i3 cI 60 gq3), (kX11 hx aLa aPa aGe aFl aTr aBe aLu aLo vSf vSm vCo vSh xs xl xf), (kAQ vSh cQ 4 (fSh s0 s1 s2 s3))]) hP hD hC [0, 1, 2, 3, 4, 5, 6, 7, 8, 9] rfl (by decide +kernel) (by decide +kernel) hk1 hFc hP1 hD1 rfl
    clear hP hD hPc hDc hFc hC hP1 hD1 hK1 hz1 hk1 hvm ht
    obtain ⟨hP, hD⟩ := hJ
    generalize H1 = H at hP hS ⊢
    try dsimp only at hw
    by_cases c_54 : 0 ≤ fm ∧ fm ≤ 2
    · rw [if_pos c_54] at hw
      refine k_topi (v := 1) hw ?_
      refine lv_if_ne (tgt := 22) hx₀ hb dX11_lay_16 (by decide) (fun _ => ?_) (fun c9 => absurd c9 (by decide +kernel))
      refine lv_aload_n hx₀ hb dX11_lay_22 rfl (lv_at hl 1 rfl) ?_
      refine lv_aload hx₀ hb dX11_lay_23 (lv_at hl 0 rfl) ?_
      refine lv_iload_n hx₀ hb dX11_lay_25 rfl (lv_at hl 3 rfl) ?_
      refine lv_iload_n hx₀ hb dX11_lay_26 rfl (lv_at hl 4 rfl) ?_
      obtain ⟨hPc, hDc, hFc, hC⟩ := k_cw (wc := [(kX11 hx aLa aPa aGe aFl aTr aBe aLu aLo vSf vSm vCo vSh xs xl xf), (kX8 s2 i2 (sLo 2) (sFo 2) (sSi 2))]) hP hD hS hA [8, 4] (by decide +kernel) rfl
      refine va_calli (va_runV (As := [.ref s2, .int fm, .int ix]) (rest := []) ⟨hx₀, hb, hml, hown, hts⟩ (j_refuse l dC dI cI cJ cQ H.size hx s2 fm ix aLa aPa aGe aFl aTr aBe aLu aLo vSf vSm vCo vSh xs xl xf i2 (sLo 2) (sFo 2) (sSi 2) (lf_j_lay_1 (sSi 2) hq2)) (cwV 3 hts (kGV wd_891 wd_888 wd_889 wd_890 wd_2) rfl rfl rfl (by decide +kernel) ⟨Nat.le_of_ble_eq_true rfl, Nat.le_of_ble_eq_true rfl⟩) (k_preV10 (q0 := 0) hK hPc hDc hN rfl) rfl rfl hl.1 rfl (lv_room (Nat.le_of_ble_eq_true rfl)) dX11_lay_27 ⟨by decide +kernel, by decide +kernel⟩) hS (fun q _ h => hFc q h) hFc (fun r_55 u₀ t₀ H1 locs ht hvm hw hB hz1 hk1 hS => ?_)
      obtain ⟨g_56, ga_57, gl_58, gb_59, gp_60⟩ := u₀
      obtain ⟨hP1, hK1, hD1⟩ := hB
      rw [ht] at hP1
      have hJ := k_jn (wr := [(kX8 s0 i0 (sLo 0) (sFo 0) (sSi 0)), (kAI i0 cI 60 gq0), (kX8 s1 i1 (sLo 1) (sFo 1) (sSi 1)), (kAI i1 cI 60 gq1), (kAI i2 cI 60 gq2), (kX8 s3 i3 (sLo 3) (sFo 3) (sSi 3)), (kAI i3 cI 60 gq3), (kAQ vSh cQ 4 (fSh s0 s1 s2 s3))]) (wt := [(kX8 s0 i0 (sLo 0) (sFo 0) (sSi 0)), (kAI i0 cI 60 gq0), (kX8 s1 i1 (sLo 1) (sFo 1) (sSi 1)), (kAI i1 cI 60 gq1), (kAI i2 cI 60 gq2), (kX8 s3 i3 (sLo 3) (sFo 3) (sSi 3)), (kAI i3 cI 60 gq3), (kAQ vSh cQ 4 (fSh s0 s1 s2 s3)), (kX11 hx aLa aPa aGe aFl aTr aBe aLu aLo vSf vSm vCo vSh xs xl (g_56 0)), (kX8 s2 i2 (sLo 2) (sFo 2) (sSi 2))]) hP hD hC [0, 1, 2, 3, 5, 6, 7, 9] rfl (by decide +kernel) (by decide +kernel) hk1 hFc hP1 hD1 rfl
      clear hP hD hPc hDc hFc hC hP1 hD1 hK1 hz1 hk1 hvm ht
      obtain ⟨hP, hD⟩ := hJ
      generalize H1 = H at hP hS ⊢
      try dsimp only at hw
      obtain ⟨c_61, c_62⟩ := hw
      have hw := c_61
      by_cases c_63 : (sLo 2) = 0 ∧ (sFo 2) = fm ∧ 0 ≤ ix ∧ ix < (sSi 2)
      · rw [if_pos c_63] at hw
        have c_64 := hw
        refine k_topi (v := 0) hw ?_
        refine lv_istore (lv' := [(6, .int 0), (5, .ref s2), (0, .ref hx), (1, .int 2), (2, .int fm), (3, .int ix), (4, .int v1)]) hx₀ hb dX11_lay_30 hl (by decide) rfl (fun ls hl => ?_)
        refine lv_iload hx₀ hb dX11_lay_32 (lv_at hl 0 rfl) ?_
        refine lv_if_eq (tgt := 40) hx₀ hb dX11_lay_34 (by decide) (fun _ => ?_) (fun c9 => absurd (by decide +kernel) c9)
        refine lv_aload hx₀ hb dX11_lay_40 (lv_at hl 1 rfl) ?_
        refine lv_iload_n hx₀ hb dX11_lay_42 rfl (lv_at hl 5 rfl) ?_
        refine lv_iload hx₀ hb dX11_lay_43 (lv_at hl 6 rfl) ?_
        obtain ⟨hPc, hDc, hFc, hC⟩ := k_cw (wc := [(kX8 s2 i2 (sLo 2) (sFo 2) (sSi 2)), (kAI i2 cI 60 gq2)]) hP hD hS hA [9, 4] (by decide +kernel) rfl
        refine va_callv (va_runV (As := [.int ix, .int v1]) (rest := []) ⟨hx₀, hb, hml, hown, hts⟩ (j_put l dC dI cI cJ cQ H.size s2 ix v1 i2 (sLo 2) (sFo 2) (sSi 2) gq2 (lf_j_lay_2 (sSi 2) fm (sLo 2) (sFo 2) ix hq2 c_54 c_63)) (cwV 2 hts (kGV wd_900 wd_897 wd_898 wd_899 wd_51) rfl rfl rfl (by decide +kernel) ⟨Nat.le_of_ble_eq_true rfl, Nat.le_of_ble_eq_true rfl⟩) (k_preV8 (q0 := 0) hK hPc hDc hN rfl) rfl rfl hl.1 rfl (lv_room (Nat.le_of_ble_eq_true rfl)) dX11_lay_45 ⟨by decide +kernel, by decide +kernel⟩) hS (fun q _ h => hFc q h) hFc (fun u₀ t₀ H1 locs ht hvm hw hB hz1 hk1 hS => ?_)
        obtain ⟨g_66, ga_67, gl_68, gb_69, gp_70⟩ := u₀
        obtain ⟨hP1, hK1, hD1⟩ := hB
        rw [ht] at hP1
        have hJ := k_jn (wr := [(kX8 s0 i0 (sLo 0) (sFo 0) (sSi 0)), (kAI i0 cI 60 gq0), (kX8 s1 i1 (sLo 1) (sFo 1) (sSi 1)), (kAI i1 cI 60 gq1), (kX8 s3 i3 (sLo 3) (sFo 3) (sSi 3)), (kAI i3 cI 60 gq3), (kAQ vSh cQ 4 (fSh s0 s1 s2 s3)), (kX11 hx aLa aPa aGe aFl aTr aBe aLu aLo vSf vSm vCo vSh xs xl (g_56 0))]) (wt := [(kX8 s0 i0 (sLo 0) (sFo 0) (sSi 0)), (kAI i0 cI 60 gq0), (kX8 s1 i1 (sLo 1) (sFo 1) (sSi 1)), (kAI i1 cI 60 gq1), (kX8 s3 i3 (sLo 3) (sFo 3) (sSi 3)), (kAI i3 cI 60 gq3), (kAQ vSh cQ 4 (fSh s0 s1 s2 s3)), (kX11 hx aLa aPa aGe aFl aTr aBe aLu aLo vSf vSm vCo vSh xs xl (g_56 0)), (kX8 s2 i2 (sLo 2) (sFo 2) (sSi 2)), (kAI i2 cI 60 (ga_67 0))]) hP hD hC [0, 1, 2, 3, 5, 6, 7, 8] rfl (by decide +kernel) (by decide +kernel) hk1 hFc hP1 hD1 rfl
        clear hP hD hPc hDc hFc hC hP1 hD1 hK1 hz1 hk1 hvm ht
        obtain ⟨hP, hD⟩ := hJ
        generalize H1 = H at hP hS ⊢
        try dsimp only at hw
        have c_71 := hw
        refine lv_iconst (v := 1) hx₀ hb dX11_lay_48 (by decide +kernel) ?_
        obtain ⟨hP9, hD9⟩ := k_c2 (wc := [(kX11 hx aLa aPa aGe aFl aTr aBe aLu aLo vSf vSm vCo vSh xs xl (g_56 0)), (kAQ vSh cQ 4 (fSh s0 s1 s2 s3)), (kX8 s0 i0 (sLo 0) (sFo 0) (sSi 0)), (kAI i0 cI 60 gq0), (kX8 s1 i1 (sLo 1) (sFo 1) (sSi 1)), (kAI i1 cI 60 gq1), (kX8 s2 i2 (sLo 2) (sFo 2) (sSi 2)), (kAI i2 cI 60 (ga_67 0)), (kX8 s3 i3 (sLo 3) (sFo 3) (sSi 3)), (kAI i3 cI 60 gq3)]) hP hD [7, 6, 0, 1, 2, 3, 8, 9, 4, 5] (by decide +kernel) rfl
        exact W.iret (v := 1) hx₀ hb hr (fun t₀ ht hW => ⟨⟨1, (k_fn [(g_56 0)], k_fa [gq0, gq1, ga_67 0, gq3], k_fl [], k_fL [], k_fp []), rfl, ⟨(show (1 : Int32) = if 0 ≤ (2 : Int32) ∧ (2 : Int32) ≤ 3 ∧ 0 ≤ fm ∧ fm ≤ 2 then (if sLo (2 : Int32).toNatClampNeg = 0 ∧ sFo (2 : Int32).toNatClampNeg = fm ∧ 0 ≤ ix ∧ ix < sSi (2 : Int32).toNatClampNeg then 1 else if sLo (2 : Int32).toNatClampNeg = 0 ∧ sFo (2 : Int32).toNatClampNeg = fm then -12 else if sLo (2 : Int32).toNatClampNeg = 0 then -13 else -11) else -2 from (((if_pos (show (sLo 2) = 0 ∧ (sFo 2) = fm ∧ 0 ≤ ix ∧ ix < (sSi 2) from ⟨c_63.1, c_63.2.1, c_63.2.2.1, c_63.2.2.2⟩)).symm).trans (if_pos (show 0 ≤ (2 : Int32) ∧ (2 : Int32) ≤ 3 ∧ 0 ≤ fm ∧ fm ≤ 2 from ⟨(by decide), (by decide), c_54.1, c_54.2⟩)).symm)), ((c_62.trans (congrArg (fun z => kFd z xf) c_64)).trans ((kFd_ge (by decide)).trans (kFd_ge (by decide)).symm)), (if_neg (show ¬ ((0 ≤ (2 : Int32) ∧ (2 : Int32) ≤ 3 ∧ 0 ≤ fm ∧ fm ≤ 2 ∧ sLo (2 : Int32).toNatClampNeg = 0 ∧ sFo (2 : Int32).toNatClampNeg = fm ∧ 0 ≤ ix ∧ ix < sSi (2 : Int32).toNatClampNeg) ∧ (2 : Int32) = 0) from (fun z => (fun z => absurd z (by decide)) z.2))).symm, (if_neg (show ¬ ((0 ≤ (2 : Int32) ∧ (2 : Int32) ≤ 3 ∧ 0 ≤ fm ∧ fm ≤ 2 ∧ sLo (2 : Int32).toNatClampNeg = 0 ∧ sFo (2 : Int32).toNatClampNeg = fm ∧ 0 ≤ ix ∧ ix < sSi (2 : Int32).toNatClampNeg) ∧ (2 : Int32) = 1) from (fun z => (fun z => absurd z (by decide)) z.2))).symm, ((c_71.trans (if_pos (show 0 ≤ ix ∧ ix < (sSi 2) from ⟨c_63.2.2.1, c_63.2.2.2⟩))).trans (if_pos (show (0 ≤ (2 : Int32) ∧ (2 : Int32) ≤ 3 ∧ 0 ≤ fm ∧ fm ≤ 2 ∧ sLo (2 : Int32).toNatClampNeg = 0 ∧ sFo (2 : Int32).toNatClampNeg = fm ∧ 0 ≤ ix ∧ ix < sSi (2 : Int32).toNatClampNeg) ∧ (2 : Int32) = 2 from ⟨⟨(by decide), (by decide), c_54.1, c_54.2, c_63.1, c_63.2.1, c_63.2.2.1, c_63.2.2.2⟩, rfl⟩)).symm), (if_neg (show ¬ ((0 ≤ (2 : Int32) ∧ (2 : Int32) ≤ 3 ∧ 0 ≤ fm ∧ fm ≤ 2 ∧ sLo (2 : Int32).toNatClampNeg = 0 ∧ sFo (2 : Int32).toNatClampNeg = fm ∧ 0 ≤ ix ∧ ix < sSi (2 : Int32).toNatClampNeg) ∧ (2 : Int32) = 3) from (fun z => (fun z => absurd z (by decide)) z.2))).symm⟩, by rw [ht]; exact hP9, va_K.moved hW.alike hK, hD9⟩, hS.F ht⟩) hS.2.2 dX11_lay_49
      rw [if_neg c_63] at hw
      by_cases c_72 : (sLo 2) = 0 ∧ (sFo 2) = fm
      · rw [if_pos c_72] at hw
        have c_73 := hw
        refine k_topi (v := (-12)) hw ?_
        refine lv_istore (lv' := [(6, .int (-12)), (5, .ref s2), (0, .ref hx), (1, .int 2), (2, .int fm), (3, .int ix), (4, .int v1)]) hx₀ hb dX11_lay_30 hl (by decide) rfl (fun ls hl => ?_)
        refine lv_iload hx₀ hb dX11_lay_32 (lv_at hl 0 rfl) ?_
        refine lv_if_eq (tgt := 40) hx₀ hb dX11_lay_34 (by decide) (fun c9 => absurd c9 (by decide +kernel)) (fun _ => ?_)
        refine lv_iload hx₀ hb dX11_lay_37 (lv_at hl 0 rfl) ?_
        obtain ⟨hP9, hD9⟩ := k_c2 (wc := [(kX11 hx aLa aPa aGe aFl aTr aBe aLu aLo vSf vSm vCo vSh xs xl (g_56 0)), (kAQ vSh cQ 4 (fSh s0 s1 s2 s3)), (kX8 s0 i0 (sLo 0) (sFo 0) (sSi 0)), (kAI i0 cI 60 gq0), (kX8 s1 i1 (sLo 1) (sFo 1) (sSi 1)), (kAI i1 cI 60 gq1), (kX8 s2 i2 (sLo 2) (sFo 2) (sSi 2)), (kAI i2 cI 60 gq2), (kX8 s3 i3 (sLo 3) (sFo 3) (sSi 3)), (kAI i3 cI 60 gq3)]) hP hD [8, 7, 0, 1, 2, 3, 9, 4, 5, 6] (by decide +kernel) rfl
        exact W.iret (v := (-12)) hx₀ hb hr (fun t₀ ht hW => ⟨⟨(-12), (k_fn [(g_56 0)], k_fa [gq0, gq1, gq2, gq3], k_fl [], k_fL [], k_fp []), rfl, ⟨(show ((-12) : Int32) = if 0 ≤ (2 : Int32) ∧ (2 : Int32) ≤ 3 ∧ 0 ≤ fm ∧ fm ≤ 2 then (if sLo (2 : Int32).toNatClampNeg = 0 ∧ sFo (2 : Int32).toNatClampNeg = fm ∧ 0 ≤ ix ∧ ix < sSi (2 : Int32).toNatClampNeg then 1 else if sLo (2 : Int32).toNatClampNeg = 0 ∧ sFo (2 : Int32).toNatClampNeg = fm then -12 else if sLo (2 : Int32).toNatClampNeg = 0 then -13 else -11) else -2 from (((((if_pos (show (sLo 2) = 0 ∧ (sFo 2) = fm from ⟨c_72.1, c_72.2⟩)).symm).trans (if_neg (c_63)).symm)).trans (if_pos (show 0 ≤ (2 : Int32) ∧ (2 : Int32) ≤ 3 ∧ 0 ≤ fm ∧ fm ≤ 2 from ⟨(by decide), (by decide), c_54.1, c_54.2⟩)).symm)), (c_62.trans (congrArg (fun z => kFd z xf) c_73)), (if_neg (show ¬ ((0 ≤ (2 : Int32) ∧ (2 : Int32) ≤ 3 ∧ 0 ≤ fm ∧ fm ≤ 2 ∧ sLo (2 : Int32).toNatClampNeg = 0 ∧ sFo (2 : Int32).toNatClampNeg = fm ∧ 0 ≤ ix ∧ ix < sSi (2 : Int32).toNatClampNeg) ∧ (2 : Int32) = 0) from (fun z => (fun z => c_63 (And.intro z.2.2.2.2.1 (And.intro z.2.2.2.2.2.1 (And.intro z.2.2.2.2.2.2.1 z.2.2.2.2.2.2.2)))) z.1))).symm, (if_neg (show ¬ ((0 ≤ (2 : Int32) ∧ (2 : Int32) ≤ 3 ∧ 0 ≤ fm ∧ fm ≤ 2 ∧ sLo (2 : Int32).toNatClampNeg = 0 ∧ sFo (2 : Int32).toNatClampNeg = fm ∧ 0 ≤ ix ∧ ix < sSi (2 : Int32).toNatClampNeg) ∧ (2 : Int32) = 1) from (fun z => (fun z => c_63 (And.intro z.2.2.2.2.1 (And.intro z.2.2.2.2.2.1 (And.intro z.2.2.2.2.2.2.1 z.2.2.2.2.2.2.2)))) z.1))).symm, (if_neg (show ¬ ((0 ≤ (2 : Int32) ∧ (2 : Int32) ≤ 3 ∧ 0 ≤ fm ∧ fm ≤ 2 ∧ sLo (2 : Int32).toNatClampNeg = 0 ∧ sFo (2 : Int32).toNatClampNeg = fm ∧ 0 ≤ ix ∧ ix < sSi (2 : Int32).toNatClampNeg) ∧ (2 : Int32) = 2) from (fun z => (fun z => c_63 (And.intro z.2.2.2.2.1 (And.intro z.2.2.2.2.2.1 (And.intro z.2.2.2.2.2.2.1 z.2.2.2.2.2.2.2)))) z.1))).symm, (if_neg (show ¬ ((0 ≤ (2 : Int32) ∧ (2 : Int32) ≤ 3 ∧ 0 ≤ fm ∧ fm ≤ 2 ∧ sLo (2 : Int32).toNatClampNeg = 0 ∧ sFo (2 : Int32).toNatClampNeg = fm ∧ 0 ≤ ix ∧ ix < sSi (2 : Int32).toNatClampNeg) ∧ (2 : Int32) = 3) from (fun z => (fun z => c_63 (And.intro z.2.2.2.2.1 (And.intro z.2.2.2.2.2.1 (And.intro z.2.2.2.2.2.2.1 z.2.2.2.2.2.2.2)))) z.1))).symm⟩, by rw [ht]; exact hP9, va_K.moved hW.alike hK, hD9⟩, hS.F ht⟩) hS.2.2 dX11_lay_39
      rw [if_neg c_72] at hw
      by_cases c_74 : (sLo 2) = 0
      · rw [if_pos c_74] at hw
        have c_75 := hw
        refine k_topi (v := (-13)) hw ?_
        refine lv_istore (lv' := [(6, .int (-13)), (5, .ref s2), (0, .ref hx), (1, .int 2), (2, .int fm), (3, .int ix), (4, .int v1)]) hx₀ hb dX11_lay_30 hl (by decide) rfl (fun ls hl => ?_)
        refine lv_iload hx₀ hb dX11_lay_32 (lv_at hl 0 rfl) ?_
        refine lv_if_eq (tgt := 40) hx₀ hb dX11_lay_34 (by decide) (fun c9 => absurd c9 (by decide +kernel)) (fun _ => ?_)
        refine lv_iload hx₀ hb dX11_lay_37 (lv_at hl 0 rfl) ?_
        obtain ⟨hP9, hD9⟩ := k_c2 (wc := [(kX11 hx aLa aPa aGe aFl aTr aBe aLu aLo vSf vSm vCo vSh xs xl (g_56 0)), (kAQ vSh cQ 4 (fSh s0 s1 s2 s3)), (kX8 s0 i0 (sLo 0) (sFo 0) (sSi 0)), (kAI i0 cI 60 gq0), (kX8 s1 i1 (sLo 1) (sFo 1) (sSi 1)), (kAI i1 cI 60 gq1), (kX8 s2 i2 (sLo 2) (sFo 2) (sSi 2)), (kAI i2 cI 60 gq2), (kX8 s3 i3 (sLo 3) (sFo 3) (sSi 3)), (kAI i3 cI 60 gq3)]) hP hD [8, 7, 0, 1, 2, 3, 9, 4, 5, 6] (by decide +kernel) rfl
        exact W.iret (v := (-13)) hx₀ hb hr (fun t₀ ht hW => ⟨⟨(-13), (k_fn [(g_56 0)], k_fa [gq0, gq1, gq2, gq3], k_fl [], k_fL [], k_fp []), rfl, ⟨(show ((-13) : Int32) = if 0 ≤ (2 : Int32) ∧ (2 : Int32) ≤ 3 ∧ 0 ≤ fm ∧ fm ≤ 2 then (if sLo (2 : Int32).toNatClampNeg = 0 ∧ sFo (2 : Int32).toNatClampNeg = fm ∧ 0 ≤ ix ∧ ix < sSi (2 : Int32).toNatClampNeg then 1 else if sLo (2 : Int32).toNatClampNeg = 0 ∧ sFo (2 : Int32).toNatClampNeg = fm then -12 else if sLo (2 : Int32).toNatClampNeg = 0 then -13 else -11) else -2 from (((((((if_pos (c_74)).symm).trans (if_neg (c_72)).symm)).trans (if_neg (c_63)).symm)).trans (if_pos (show 0 ≤ (2 : Int32) ∧ (2 : Int32) ≤ 3 ∧ 0 ≤ fm ∧ fm ≤ 2 from ⟨(by decide), (by decide), c_54.1, c_54.2⟩)).symm)), (c_62.trans (congrArg (fun z => kFd z xf) c_75)), (if_neg (show ¬ ((0 ≤ (2 : Int32) ∧ (2 : Int32) ≤ 3 ∧ 0 ≤ fm ∧ fm ≤ 2 ∧ sLo (2 : Int32).toNatClampNeg = 0 ∧ sFo (2 : Int32).toNatClampNeg = fm ∧ 0 ≤ ix ∧ ix < sSi (2 : Int32).toNatClampNeg) ∧ (2 : Int32) = 0) from (fun z => (fun z => c_63 (And.intro z.2.2.2.2.1 (And.intro z.2.2.2.2.2.1 (And.intro z.2.2.2.2.2.2.1 z.2.2.2.2.2.2.2)))) z.1))).symm, (if_neg (show ¬ ((0 ≤ (2 : Int32) ∧ (2 : Int32) ≤ 3 ∧ 0 ≤ fm ∧ fm ≤ 2 ∧ sLo (2 : Int32).toNatClampNeg = 0 ∧ sFo (2 : Int32).toNatClampNeg = fm ∧ 0 ≤ ix ∧ ix < sSi (2 : Int32).toNatClampNeg) ∧ (2 : Int32) = 1) from (fun z => (fun z => c_63 (And.intro z.2.2.2.2.1 (And.intro z.2.2.2.2.2.1 (And.intro z.2.2.2.2.2.2.1 z.2.2.2.2.2.2.2)))) z.1))).symm, (if_neg (show ¬ ((0 ≤ (2 : Int32) ∧ (2 : Int32) ≤ 3 ∧ 0 ≤ fm ∧ fm ≤ 2 ∧ sLo (2 : Int32).toNatClampNeg = 0 ∧ sFo (2 : Int32).toNatClampNeg = fm ∧ 0 ≤ ix ∧ ix < sSi (2 : Int32).toNatClampNeg) ∧ (2 : Int32) = 2) from (fun z => (fun z => c_63 (And.intro z.2.2.2.2.1 (And.intro z.2.2.2.2.2.1 (And.intro z.2.2.2.2.2.2.1 z.2.2.2.2.2.2.2)))) z.1))).symm, (if_neg (show ¬ ((0 ≤ (2 : Int32) ∧ (2 : Int32) ≤ 3 ∧ 0 ≤ fm ∧ fm ≤ 2 ∧ sLo (2 : Int32).toNatClampNeg = 0 ∧ sFo (2 : Int32).toNatClampNeg = fm ∧ 0 ≤ ix ∧ ix < sSi (2 : Int32).toNatClampNeg) ∧ (2 : Int32) = 3) from (fun z => (fun z => c_63 (And.intro z.2.2.2.2.1 (And.intro z.2.2.2.2.2.1 (And.intro z.2.2.2.2.2.2.1 z.2.2.2.2.2.2.2)))) z.1))).symm⟩, by rw [ht]; exact hP9, va_K.moved hW.alike hK, hD9⟩, hS.F ht⟩) hS.2.2 dX11_lay_39
      rw [if_neg c_74] at hw
      have c_76 := hw
      refine k_topi (v := (-11)) hw ?_
      refine lv_istore (lv' := [(6, .int (-11)), (5, .ref s2), (0, .ref hx), (1, .int 2), (2, .int fm), (3, .int ix), (4, .int v1)]) hx₀ hb dX11_lay_30 hl (by decide) rfl (fun ls hl => ?_)
      refine lv_iload hx₀ hb dX11_lay_32 (lv_at hl 0 rfl) ?_
      refine lv_if_eq (tgt := 40) hx₀ hb dX11_lay_34 (by decide) (fun c9 => absurd c9 (by decide +kernel)) (fun _ => ?_)
      refine lv_iload hx₀ hb dX11_lay_37 (lv_at hl 0 rfl) ?_
      obtain ⟨hP9, hD9⟩ := k_c2 (wc := [(kX11 hx aLa aPa aGe aFl aTr aBe aLu aLo vSf vSm vCo vSh xs xl (g_56 0)), (kAQ vSh cQ 4 (fSh s0 s1 s2 s3)), (kX8 s0 i0 (sLo 0) (sFo 0) (sSi 0)), (kAI i0 cI 60 gq0), (kX8 s1 i1 (sLo 1) (sFo 1) (sSi 1)), (kAI i1 cI 60 gq1), (kX8 s2 i2 (sLo 2) (sFo 2) (sSi 2)), (kAI i2 cI 60 gq2), (kX8 s3 i3 (sLo 3) (sFo 3) (sSi 3)), (kAI i3 cI 60 gq3)]) hP hD [8, 7, 0, 1, 2, 3, 9, 4, 5, 6] (by decide +kernel) rfl
      exact W.iret (v := (-11)) hx₀ hb hr (fun t₀ ht hW => ⟨⟨(-11), (k_fn [(g_56 0)], k_fa [gq0, gq1, gq2, gq3], k_fl [], k_fL [], k_fp []), rfl, ⟨(show ((-11) : Int32) = if 0 ≤ (2 : Int32) ∧ (2 : Int32) ≤ 3 ∧ 0 ≤ fm ∧ fm ≤ 2 then (if sLo (2 : Int32).toNatClampNeg = 0 ∧ sFo (2 : Int32).toNatClampNeg = fm ∧ 0 ≤ ix ∧ ix < sSi (2 : Int32).toNatClampNeg then 1 else if sLo (2 : Int32).toNatClampNeg = 0 ∧ sFo (2 : Int32).toNatClampNeg = fm then -12 else if sLo (2 : Int32).toNatClampNeg = 0 then -13 else -11) else -2 from (((((((if_neg (c_74)).symm).trans (if_neg (c_72)).symm)).trans (if_neg (c_63)).symm)).trans (if_pos (show 0 ≤ (2 : Int32) ∧ (2 : Int32) ≤ 3 ∧ 0 ≤ fm ∧ fm ≤ 2 from ⟨(by decide), (by decide), c_54.1, c_54.2⟩)).symm)), (c_62.trans (congrArg (fun z => kFd z xf) c_76)), (if_neg (show ¬ ((0 ≤ (2 : Int32) ∧ (2 : Int32) ≤ 3 ∧ 0 ≤ fm ∧ fm ≤ 2 ∧ sLo (2 : Int32).toNatClampNeg = 0 ∧ sFo (2 : Int32).toNatClampNeg = fm ∧ 0 ≤ ix ∧ ix < sSi (2 : Int32).toNatClampNeg) ∧ (2 : Int32) = 0) from (fun z => (fun z => c_74 z.2.2.2.2.1) z.1))).symm, (if_neg (show ¬ ((0 ≤ (2 : Int32) ∧ (2 : Int32) ≤ 3 ∧ 0 ≤ fm ∧ fm ≤ 2 ∧ sLo (2 : Int32).toNatClampNeg = 0 ∧ sFo (2 : Int32).toNatClampNeg = fm ∧ 0 ≤ ix ∧ ix < sSi (2 : Int32).toNatClampNeg) ∧ (2 : Int32) = 1) from (fun z => (fun z => c_74 z.2.2.2.2.1) z.1))).symm, (if_neg (show ¬ ((0 ≤ (2 : Int32) ∧ (2 : Int32) ≤ 3 ∧ 0 ≤ fm ∧ fm ≤ 2 ∧ sLo (2 : Int32).toNatClampNeg = 0 ∧ sFo (2 : Int32).toNatClampNeg = fm ∧ 0 ≤ ix ∧ ix < sSi (2 : Int32).toNatClampNeg) ∧ (2 : Int32) = 2) from (fun z => (fun z => c_74 z.2.2.2.2.1) z.1))).symm, (if_neg (show ¬ ((0 ≤ (2 : Int32) ∧ (2 : Int32) ≤ 3 ∧ 0 ≤ fm ∧ fm ≤ 2 ∧ sLo (2 : Int32).toNatClampNeg = 0 ∧ sFo (2 : Int32).toNatClampNeg = fm ∧ 0 ≤ ix ∧ ix < sSi (2 : Int32).toNatClampNeg) ∧ (2 : Int32) = 3) from (fun z => (fun z => c_74 z.2.2.2.2.1) z.1))).symm⟩, by rw [ht]; exact hP9, va_K.moved hW.alike hK, hD9⟩, hS.F ht⟩) hS.2.2 dX11_lay_39
    rw [if_neg c_54] at hw
    refine k_topi (v := 0) hw ?_
    refine lv_if_ne (tgt := 22) hx₀ hb dX11_lay_16 (by decide) (fun c9 => absurd (by decide +kernel) c9) (fun _ => ?_)
    refine lv_bipush (v := (-2)) hx₀ hb dX11_lay_19 (by decide +kernel) ?_
    obtain ⟨hP9, hD9⟩ := k_c2 (wc := [(kX11 hx aLa aPa aGe aFl aTr aBe aLu aLo vSf vSm vCo vSh xs xl xf), (kAQ vSh cQ 4 (fSh s0 s1 s2 s3)), (kX8 s0 i0 (sLo 0) (sFo 0) (sSi 0)), (kAI i0 cI 60 gq0), (kX8 s1 i1 (sLo 1) (sFo 1) (sSi 1)), (kAI i1 cI 60 gq1), (kX8 s2 i2 (sLo 2) (sFo 2) (sSi 2)), (kAI i2 cI 60 gq2), (kX8 s3 i3 (sLo 3) (sFo 3) (sSi 3)), (kAI i3 cI 60 gq3)]) hP hD [8, 9, 0, 1, 2, 3, 4, 5, 6, 7] (by decide +kernel) rfl
    exact W.iret (v := (-2)) hx₀ hb hr (fun t₀ ht hW => ⟨⟨(-2), (k_fn [xf], k_fa [gq0, gq1, gq2, gq3], k_fl [], k_fL [], k_fp []), rfl, ⟨(show ((-2) : Int32) = if 0 ≤ (2 : Int32) ∧ (2 : Int32) ≤ 3 ∧ 0 ≤ fm ∧ fm ≤ 2 then (if sLo (2 : Int32).toNatClampNeg = 0 ∧ sFo (2 : Int32).toNatClampNeg = fm ∧ 0 ≤ ix ∧ ix < sSi (2 : Int32).toNatClampNeg then 1 else if sLo (2 : Int32).toNatClampNeg = 0 ∧ sFo (2 : Int32).toNatClampNeg = fm then -12 else if sLo (2 : Int32).toNatClampNeg = 0 then -13 else -11) else -2 from (if_neg (show ¬ (0 ≤ (2 : Int32) ∧ (2 : Int32) ≤ 3 ∧ 0 ≤ fm ∧ fm ≤ 2) from (fun z => c_54 (And.intro z.2.2.1 z.2.2.2)))).symm), (kFd_ge (by decide)).symm, (if_neg (show ¬ ((0 ≤ (2 : Int32) ∧ (2 : Int32) ≤ 3 ∧ 0 ≤ fm ∧ fm ≤ 2 ∧ sLo (2 : Int32).toNatClampNeg = 0 ∧ sFo (2 : Int32).toNatClampNeg = fm ∧ 0 ≤ ix ∧ ix < sSi (2 : Int32).toNatClampNeg) ∧ (2 : Int32) = 0) from (fun z => (fun z => c_54 (And.intro z.2.2.1 z.2.2.2.1)) z.1))).symm, (if_neg (show ¬ ((0 ≤ (2 : Int32) ∧ (2 : Int32) ≤ 3 ∧ 0 ≤ fm ∧ fm ≤ 2 ∧ sLo (2 : Int32).toNatClampNeg = 0 ∧ sFo (2 : Int32).toNatClampNeg = fm ∧ 0 ≤ ix ∧ ix < sSi (2 : Int32).toNatClampNeg) ∧ (2 : Int32) = 1) from (fun z => (fun z => c_54 (And.intro z.2.2.1 z.2.2.2.1)) z.1))).symm, (if_neg (show ¬ ((0 ≤ (2 : Int32) ∧ (2 : Int32) ≤ 3 ∧ 0 ≤ fm ∧ fm ≤ 2 ∧ sLo (2 : Int32).toNatClampNeg = 0 ∧ sFo (2 : Int32).toNatClampNeg = fm ∧ 0 ≤ ix ∧ ix < sSi (2 : Int32).toNatClampNeg) ∧ (2 : Int32) = 2) from (fun z => (fun z => c_54 (And.intro z.2.2.1 z.2.2.2.1)) z.1))).symm, (if_neg (show ¬ ((0 ≤ (2 : Int32) ∧ (2 : Int32) ≤ 3 ∧ 0 ≤ fm ∧ fm ≤ 2 ∧ sLo (2 : Int32).toNatClampNeg = 0 ∧ sFo (2 : Int32).toNatClampNeg = fm ∧ 0 ≤ ix ∧ ix < sSi (2 : Int32).toNatClampNeg) ∧ (2 : Int32) = 3) from (fun z => (fun z => c_54 (And.intro z.2.2.1 z.2.2.2.1)) z.1))).symm⟩, by rw [ht]; exact hP9, va_K.moved hW.alike hK, hD9⟩, hS.F ht⟩) hS.2.2 dX11_lay_21
  rw [if_neg c_52] at hw
  by_cases c_77 : ss = 3
  · rw [if_pos c_77] at hw
    subst hw
    refine W.eq (g2 := F0 m₀ 5 ls [.ref s3]) rfl ?_
    subst c_77
    refine lv_astore (lv' := [(5, .ref s3), (0, .ref hx), (1, .int 3), (2, .int fm), (3, .int ix), (4, .int v1)]) hx₀ hb dX11_lay_5 hl (by decide) rfl (fun ls hl => ?_)
    refine lv_aload hx₀ hb dX11_lay_7 (lv_at hl 0 rfl) ?_
    refine lv_ifnull hx₀ hb dX11_lay_9 ?_
    refine lv_iload_n hx₀ hb dX11_lay_12 rfl (lv_at hl 3 rfl) ?_
    obtain ⟨hPc, hDc, hFc, hC⟩ := k_cw (wc := []) hP hD hS hA [] (by decide +kernel) rfl
    refine va_calli (va_runS (As := [.int fm]) (rest := []) ⟨hx₀, hb, hml, hown, hts⟩ (j_isForm l dC dI cI cJ cQ H.size fm) (va_cwS 1 hts (kGS wd_864 wd_862 wd_863 wd_2) rfl rfl rfl (by decide +kernel) ⟨Nat.le_of_ble_eq_true rfl, Nat.le_of_ble_eq_true rfl⟩) (k_preS hK hPc hDc hN) rfl rfl hl.1 rfl (lv_room (Nat.le_of_ble_eq_true rfl)) dX11_lay_13 ⟨by decide +kernel, by decide +kernel⟩) hS (fun q _ h => hFc q h) hFc (fun r_78 u₀ t₀ H1 locs ht hvm hw hB hz1 hk1 hS => ?_)
    obtain ⟨hP1, hK1, hD1⟩ := hB
    rw [ht] at hP1
    have hJ := k_jn (wr := [(kX8 s0 i0 (sLo 0) (sFo 0) (sSi 0)), (kAI i0 cI 60 gq0), (kX8 s1 i1 (sLo 1) (sFo 1) (sSi 1)), (kAI i1 cI 60 gq1), (kX8 s2 i2 (sLo 2) (sFo 2) (sSi 2)), (kAI i2 cI 60 gq2), (kX8 s3 i3 (sLo 3) (sFo 3) (sSi 3)), (kAI i3 cI 60 gq3), (kX11 hx aLa aPa aGe aFl aTr aBe aLu aLo vSf vSm vCo vSh xs xl xf), (kAQ vSh cQ 4 (fSh s0 s1 s2 s3))]) (wt := [(kX8 s0 i0 (sLo 0) (sFo 0) (sSi 0)), (kAI i0 cI 60 gq0), (kX8 s1 i1 (sLo 1) (sFo 1) (sSi 1)), (kAI i1 cI 60 gq1), (kX8 s2 i2 (sLo 2) (sFo 2) (sSi 2)), (kAI i2 cI 60 gq2), (kX8 s3 i3 (sLo 3) (sFo 3) (sSi 3)), (kAI i3 cI 60 gq3), (kX11 hx aLa aPa aGe aFl aTr aBe aLu aLo vSf vSm vCo vSh xs xl xf), (kAQ vSh cQ 4 (fSh s0 s1 s2 s3))]) hP hD hC [0, 1, 2, 3, 4, 5, 6, 7, 8, 9] rfl (by decide +kernel) (by decide +kernel) hk1 hFc hP1 hD1 rfl
    clear hP hD hPc hDc hFc hC hP1 hD1 hK1 hz1 hk1 hvm ht
    obtain ⟨hP, hD⟩ := hJ
    generalize H1 = H at hP hS ⊢
    try dsimp only at hw
    by_cases c_79 : 0 ≤ fm ∧ fm ≤ 2
    · rw [if_pos c_79] at hw
      refine k_topi (v := 1) hw ?_
      refine lv_if_ne (tgt := 22) hx₀ hb dX11_lay_16 (by decide) (fun _ => ?_) (fun c9 => absurd c9 (by decide +kernel))
      refine lv_aload_n hx₀ hb dX11_lay_22 rfl (lv_at hl 1 rfl) ?_
      refine lv_aload hx₀ hb dX11_lay_23 (lv_at hl 0 rfl) ?_
      refine lv_iload_n hx₀ hb dX11_lay_25 rfl (lv_at hl 3 rfl) ?_
      refine lv_iload_n hx₀ hb dX11_lay_26 rfl (lv_at hl 4 rfl) ?_
      obtain ⟨hPc, hDc, hFc, hC⟩ := k_cw (wc := [(kX11 hx aLa aPa aGe aFl aTr aBe aLu aLo vSf vSm vCo vSh xs xl xf), (kX8 s3 i3 (sLo 3) (sFo 3) (sSi 3))]) hP hD hS hA [8, 6] (by decide +kernel) rfl
      refine va_calli (va_runV (As := [.ref s3, .int fm, .int ix]) (rest := []) ⟨hx₀, hb, hml, hown, hts⟩ (j_refuse l dC dI cI cJ cQ H.size hx s3 fm ix aLa aPa aGe aFl aTr aBe aLu aLo vSf vSm vCo vSh xs xl xf i3 (sLo 3) (sFo 3) (sSi 3) (lf_j_lay_1 (sSi 3) hq3)) (cwV 3 hts (kGV wd_891 wd_888 wd_889 wd_890 wd_2) rfl rfl rfl (by decide +kernel) ⟨Nat.le_of_ble_eq_true rfl, Nat.le_of_ble_eq_true rfl⟩) (k_preV10 (q0 := 0) hK hPc hDc hN rfl) rfl rfl hl.1 rfl (lv_room (Nat.le_of_ble_eq_true rfl)) dX11_lay_27 ⟨by decide +kernel, by decide +kernel⟩) hS (fun q _ h => hFc q h) hFc (fun r_80 u₀ t₀ H1 locs ht hvm hw hB hz1 hk1 hS => ?_)
      obtain ⟨g_81, ga_82, gl_83, gb_84, gp_85⟩ := u₀
      obtain ⟨hP1, hK1, hD1⟩ := hB
      rw [ht] at hP1
      have hJ := k_jn (wr := [(kX8 s0 i0 (sLo 0) (sFo 0) (sSi 0)), (kAI i0 cI 60 gq0), (kX8 s1 i1 (sLo 1) (sFo 1) (sSi 1)), (kAI i1 cI 60 gq1), (kX8 s2 i2 (sLo 2) (sFo 2) (sSi 2)), (kAI i2 cI 60 gq2), (kAI i3 cI 60 gq3), (kAQ vSh cQ 4 (fSh s0 s1 s2 s3))]) (wt := [(kX8 s0 i0 (sLo 0) (sFo 0) (sSi 0)), (kAI i0 cI 60 gq0), (kX8 s1 i1 (sLo 1) (sFo 1) (sSi 1)), (kAI i1 cI 60 gq1), (kX8 s2 i2 (sLo 2) (sFo 2) (sSi 2)), (kAI i2 cI 60 gq2), (kAI i3 cI 60 gq3), (kAQ vSh cQ 4 (fSh s0 s1 s2 s3)), (kX11 hx aLa aPa aGe aFl aTr aBe aLu aLo vSf vSm vCo vSh xs xl (g_81 0)), (kX8 s3 i3 (sLo 3) (sFo 3) (sSi 3))]) hP hD hC [0, 1, 2, 3, 4, 5, 7, 9] rfl (by decide +kernel) (by decide +kernel) hk1 hFc hP1 hD1 rfl
      clear hP hD hPc hDc hFc hC hP1 hD1 hK1 hz1 hk1 hvm ht
      obtain ⟨hP, hD⟩ := hJ
      generalize H1 = H at hP hS ⊢
      try dsimp only at hw
      obtain ⟨c_86, c_87⟩ := hw
      have hw := c_86
      by_cases c_88 : (sLo 3) = 0 ∧ (sFo 3) = fm ∧ 0 ≤ ix ∧ ix < (sSi 3)
      · rw [if_pos c_88] at hw
        have c_89 := hw
        refine k_topi (v := 0) hw ?_
        refine lv_istore (lv' := [(6, .int 0), (5, .ref s3), (0, .ref hx), (1, .int 3), (2, .int fm), (3, .int ix), (4, .int v1)]) hx₀ hb dX11_lay_30 hl (by decide) rfl (fun ls hl => ?_)
        refine lv_iload hx₀ hb dX11_lay_32 (lv_at hl 0 rfl) ?_
        refine lv_if_eq (tgt := 40) hx₀ hb dX11_lay_34 (by decide) (fun _ => ?_) (fun c9 => absurd (by decide +kernel) c9)
        refine lv_aload hx₀ hb dX11_lay_40 (lv_at hl 1 rfl) ?_
        refine lv_iload_n hx₀ hb dX11_lay_42 rfl (lv_at hl 5 rfl) ?_
        refine lv_iload hx₀ hb dX11_lay_43 (lv_at hl 6 rfl) ?_
        obtain ⟨hPc, hDc, hFc, hC⟩ := k_cw (wc := [(kX8 s3 i3 (sLo 3) (sFo 3) (sSi 3)), (kAI i3 cI 60 gq3)]) hP hD hS hA [9, 6] (by decide +kernel) rfl
        refine va_callv (va_runV (As := [.int ix, .int v1]) (rest := []) ⟨hx₀, hb, hml, hown, hts⟩ (j_put l dC dI cI cJ cQ H.size s3 ix v1 i3 (sLo 3) (sFo 3) (sSi 3) gq3 (lf_j_lay_2 (sSi 3) fm (sLo 3) (sFo 3) ix hq3 c_79 c_88)) (cwV 2 hts (kGV wd_900 wd_897 wd_898 wd_899 wd_51) rfl rfl rfl (by decide +kernel) ⟨Nat.le_of_ble_eq_true rfl, Nat.le_of_ble_eq_true rfl⟩) (k_preV8 (q0 := 0) hK hPc hDc hN rfl) rfl rfl hl.1 rfl (lv_room (Nat.le_of_ble_eq_true rfl)) dX11_lay_45 ⟨by decide +kernel, by decide +kernel⟩) hS (fun q _ h => hFc q h) hFc (fun u₀ t₀ H1 locs ht hvm hw hB hz1 hk1 hS => ?_)
        obtain ⟨g_91, ga_92, gl_93, gb_94, gp_95⟩ := u₀
        obtain ⟨hP1, hK1, hD1⟩ := hB
        rw [ht] at hP1
        have hJ := k_jn (wr := [(kX8 s0 i0 (sLo 0) (sFo 0) (sSi 0)), (kAI i0 cI 60 gq0), (kX8 s1 i1 (sLo 1) (sFo 1) (sSi 1)), (kAI i1 cI 60 gq1), (kX8 s2 i2 (sLo 2) (sFo 2) (sSi 2)), (kAI i2 cI 60 gq2), (kAQ vSh cQ 4 (fSh s0 s1 s2 s3)), (kX11 hx aLa aPa aGe aFl aTr aBe aLu aLo vSf vSm vCo vSh xs xl (g_81 0))]) (wt := [(kX8 s0 i0 (sLo 0) (sFo 0) (sSi 0)), (kAI i0 cI 60 gq0), (kX8 s1 i1 (sLo 1) (sFo 1) (sSi 1)), (kAI i1 cI 60 gq1), (kX8 s2 i2 (sLo 2) (sFo 2) (sSi 2)), (kAI i2 cI 60 gq2), (kAQ vSh cQ 4 (fSh s0 s1 s2 s3)), (kX11 hx aLa aPa aGe aFl aTr aBe aLu aLo vSf vSm vCo vSh xs xl (g_81 0)), (kX8 s3 i3 (sLo 3) (sFo 3) (sSi 3)), (kAI i3 cI 60 (ga_92 0))]) hP hD hC [0, 1, 2, 3, 4, 5, 7, 8] rfl (by decide +kernel) (by decide +kernel) hk1 hFc hP1 hD1 rfl
        clear hP hD hPc hDc hFc hC hP1 hD1 hK1 hz1 hk1 hvm ht
        obtain ⟨hP, hD⟩ := hJ
        generalize H1 = H at hP hS ⊢
        try dsimp only at hw
        have c_96 := hw
        refine lv_iconst (v := 1) hx₀ hb dX11_lay_48 (by decide +kernel) ?_
        obtain ⟨hP9, hD9⟩ := k_c2 (wc := [(kX11 hx aLa aPa aGe aFl aTr aBe aLu aLo vSf vSm vCo vSh xs xl (g_81 0)), (kAQ vSh cQ 4 (fSh s0 s1 s2 s3)), (kX8 s0 i0 (sLo 0) (sFo 0) (sSi 0)), (kAI i0 cI 60 gq0), (kX8 s1 i1 (sLo 1) (sFo 1) (sSi 1)), (kAI i1 cI 60 gq1), (kX8 s2 i2 (sLo 2) (sFo 2) (sSi 2)), (kAI i2 cI 60 gq2), (kX8 s3 i3 (sLo 3) (sFo 3) (sSi 3)), (kAI i3 cI 60 (ga_92 0))]) hP hD [7, 6, 0, 1, 2, 3, 4, 5, 8, 9] (by decide +kernel) rfl
        exact W.iret (v := 1) hx₀ hb hr (fun t₀ ht hW => ⟨⟨1, (k_fn [(g_81 0)], k_fa [gq0, gq1, gq2, ga_92 0], k_fl [], k_fL [], k_fp []), rfl, ⟨(show (1 : Int32) = if 0 ≤ (3 : Int32) ∧ (3 : Int32) ≤ 3 ∧ 0 ≤ fm ∧ fm ≤ 2 then (if sLo (3 : Int32).toNatClampNeg = 0 ∧ sFo (3 : Int32).toNatClampNeg = fm ∧ 0 ≤ ix ∧ ix < sSi (3 : Int32).toNatClampNeg then 1 else if sLo (3 : Int32).toNatClampNeg = 0 ∧ sFo (3 : Int32).toNatClampNeg = fm then -12 else if sLo (3 : Int32).toNatClampNeg = 0 then -13 else -11) else -2 from (((if_pos (show (sLo 3) = 0 ∧ (sFo 3) = fm ∧ 0 ≤ ix ∧ ix < (sSi 3) from ⟨c_88.1, c_88.2.1, c_88.2.2.1, c_88.2.2.2⟩)).symm).trans (if_pos (show 0 ≤ (3 : Int32) ∧ (3 : Int32) ≤ 3 ∧ 0 ≤ fm ∧ fm ≤ 2 from ⟨(by decide), (by decide), c_79.1, c_79.2⟩)).symm)), ((c_87.trans (congrArg (fun z => kFd z xf) c_89)).trans ((kFd_ge (by decide)).trans (kFd_ge (by decide)).symm)), (if_neg (show ¬ ((0 ≤ (3 : Int32) ∧ (3 : Int32) ≤ 3 ∧ 0 ≤ fm ∧ fm ≤ 2 ∧ sLo (3 : Int32).toNatClampNeg = 0 ∧ sFo (3 : Int32).toNatClampNeg = fm ∧ 0 ≤ ix ∧ ix < sSi (3 : Int32).toNatClampNeg) ∧ (3 : Int32) = 0) from (fun z => (fun z => absurd z (by decide)) z.2))).symm, (if_neg (show ¬ ((0 ≤ (3 : Int32) ∧ (3 : Int32) ≤ 3 ∧ 0 ≤ fm ∧ fm ≤ 2 ∧ sLo (3 : Int32).toNatClampNeg = 0 ∧ sFo (3 : Int32).toNatClampNeg = fm ∧ 0 ≤ ix ∧ ix < sSi (3 : Int32).toNatClampNeg) ∧ (3 : Int32) = 1) from (fun z => (fun z => absurd z (by decide)) z.2))).symm, (if_neg (show ¬ ((0 ≤ (3 : Int32) ∧ (3 : Int32) ≤ 3 ∧ 0 ≤ fm ∧ fm ≤ 2 ∧ sLo (3 : Int32).toNatClampNeg = 0 ∧ sFo (3 : Int32).toNatClampNeg = fm ∧ 0 ≤ ix ∧ ix < sSi (3 : Int32).toNatClampNeg) ∧ (3 : Int32) = 2) from (fun z => (fun z => absurd z (by decide)) z.2))).symm, ((c_96.trans (if_pos (show 0 ≤ ix ∧ ix < (sSi 3) from ⟨c_88.2.2.1, c_88.2.2.2⟩))).trans (if_pos (show (0 ≤ (3 : Int32) ∧ (3 : Int32) ≤ 3 ∧ 0 ≤ fm ∧ fm ≤ 2 ∧ sLo (3 : Int32).toNatClampNeg = 0 ∧ sFo (3 : Int32).toNatClampNeg = fm ∧ 0 ≤ ix ∧ ix < sSi (3 : Int32).toNatClampNeg) ∧ (3 : Int32) = 3 from ⟨⟨(by decide), (by decide), c_79.1, c_79.2, c_88.1, c_88.2.1, c_88.2.2.1, c_88.2.2.2⟩, rfl⟩)).symm)⟩, by rw [ht]; exact hP9, va_K.moved hW.alike hK, hD9⟩, hS.F ht⟩) hS.2.2 dX11_lay_49
      rw [if_neg c_88] at hw
      by_cases c_97 : (sLo 3) = 0 ∧ (sFo 3) = fm
      · rw [if_pos c_97] at hw
        have c_98 := hw
        refine k_topi (v := (-12)) hw ?_
        refine lv_istore (lv' := [(6, .int (-12)), (5, .ref s3), (0, .ref hx), (1, .int 3), (2, .int fm), (3, .int ix), (4, .int v1)]) hx₀ hb dX11_lay_30 hl (by decide) rfl (fun ls hl => ?_)
        refine lv_iload hx₀ hb dX11_lay_32 (lv_at hl 0 rfl) ?_
        refine lv_if_eq (tgt := 40) hx₀ hb dX11_lay_34 (by decide) (fun c9 => absurd c9 (by decide +kernel)) (fun _ => ?_)
        refine lv_iload hx₀ hb dX11_lay_37 (lv_at hl 0 rfl) ?_
        obtain ⟨hP9, hD9⟩ := k_c2 (wc := [(kX11 hx aLa aPa aGe aFl aTr aBe aLu aLo vSf vSm vCo vSh xs xl (g_81 0)), (kAQ vSh cQ 4 (fSh s0 s1 s2 s3)), (kX8 s0 i0 (sLo 0) (sFo 0) (sSi 0)), (kAI i0 cI 60 gq0), (kX8 s1 i1 (sLo 1) (sFo 1) (sSi 1)), (kAI i1 cI 60 gq1), (kX8 s2 i2 (sLo 2) (sFo 2) (sSi 2)), (kAI i2 cI 60 gq2), (kX8 s3 i3 (sLo 3) (sFo 3) (sSi 3)), (kAI i3 cI 60 gq3)]) hP hD [8, 7, 0, 1, 2, 3, 4, 5, 9, 6] (by decide +kernel) rfl
        exact W.iret (v := (-12)) hx₀ hb hr (fun t₀ ht hW => ⟨⟨(-12), (k_fn [(g_81 0)], k_fa [gq0, gq1, gq2, gq3], k_fl [], k_fL [], k_fp []), rfl, ⟨(show ((-12) : Int32) = if 0 ≤ (3 : Int32) ∧ (3 : Int32) ≤ 3 ∧ 0 ≤ fm ∧ fm ≤ 2 then (if sLo (3 : Int32).toNatClampNeg = 0 ∧ sFo (3 : Int32).toNatClampNeg = fm ∧ 0 ≤ ix ∧ ix < sSi (3 : Int32).toNatClampNeg then 1 else if sLo (3 : Int32).toNatClampNeg = 0 ∧ sFo (3 : Int32).toNatClampNeg = fm then -12 else if sLo (3 : Int32).toNatClampNeg = 0 then -13 else -11) else -2 from (((((if_pos (show (sLo 3) = 0 ∧ (sFo 3) = fm from ⟨c_97.1, c_97.2⟩)).symm).trans (if_neg (c_88)).symm)).trans (if_pos (show 0 ≤ (3 : Int32) ∧ (3 : Int32) ≤ 3 ∧ 0 ≤ fm ∧ fm ≤ 2 from ⟨(by decide), (by decide), c_79.1, c_79.2⟩)).symm)), (c_87.trans (congrArg (fun z => kFd z xf) c_98)), (if_neg (show ¬ ((0 ≤ (3 : Int32) ∧ (3 : Int32) ≤ 3 ∧ 0 ≤ fm ∧ fm ≤ 2 ∧ sLo (3 : Int32).toNatClampNeg = 0 ∧ sFo (3 : Int32).toNatClampNeg = fm ∧ 0 ≤ ix ∧ ix < sSi (3 : Int32).toNatClampNeg) ∧ (3 : Int32) = 0) from (fun z => (fun z => c_88 (And.intro z.2.2.2.2.1 (And.intro z.2.2.2.2.2.1 (And.intro z.2.2.2.2.2.2.1 z.2.2.2.2.2.2.2)))) z.1))).symm, (if_neg (show ¬ ((0 ≤ (3 : Int32) ∧ (3 : Int32) ≤ 3 ∧ 0 ≤ fm ∧ fm ≤ 2 ∧ sLo (3 : Int32).toNatClampNeg = 0 ∧ sFo (3 : Int32).toNatClampNeg = fm ∧ 0 ≤ ix ∧ ix < sSi (3 : Int32).toNatClampNeg) ∧ (3 : Int32) = 1) from (fun z => (fun z => c_88 (And.intro z.2.2.2.2.1 (And.intro z.2.2.2.2.2.1 (And.intro z.2.2.2.2.2.2.1 z.2.2.2.2.2.2.2)))) z.1))).symm, (if_neg (show ¬ ((0 ≤ (3 : Int32) ∧ (3 : Int32) ≤ 3 ∧ 0 ≤ fm ∧ fm ≤ 2 ∧ sLo (3 : Int32).toNatClampNeg = 0 ∧ sFo (3 : Int32).toNatClampNeg = fm ∧ 0 ≤ ix ∧ ix < sSi (3 : Int32).toNatClampNeg) ∧ (3 : Int32) = 2) from (fun z => (fun z => c_88 (And.intro z.2.2.2.2.1 (And.intro z.2.2.2.2.2.1 (And.intro z.2.2.2.2.2.2.1 z.2.2.2.2.2.2.2)))) z.1))).symm, (if_neg (show ¬ ((0 ≤ (3 : Int32) ∧ (3 : Int32) ≤ 3 ∧ 0 ≤ fm ∧ fm ≤ 2 ∧ sLo (3 : Int32).toNatClampNeg = 0 ∧ sFo (3 : Int32).toNatClampNeg = fm ∧ 0 ≤ ix ∧ ix < sSi (3 : Int32).toNatClampNeg) ∧ (3 : Int32) = 3) from (fun z => (fun z => c_88 (And.intro z.2.2.2.2.1 (And.intro z.2.2.2.2.2.1 (And.intro z.2.2.2.2.2.2.1 z.2.2.2.2.2.2.2)))) z.1))).symm⟩, by rw [ht]; exact hP9, va_K.moved hW.alike hK, hD9⟩, hS.F ht⟩) hS.2.2 dX11_lay_39
      rw [if_neg c_97] at hw
      by_cases c_99 : (sLo 3) = 0
      · rw [if_pos c_99] at hw
        have c_100 := hw
        refine k_topi (v := (-13)) hw ?_
        refine lv_istore (lv' := [(6, .int (-13)), (5, .ref s3), (0, .ref hx), (1, .int 3), (2, .int fm), (3, .int ix), (4, .int v1)]) hx₀ hb dX11_lay_30 hl (by decide) rfl (fun ls hl => ?_)
        refine lv_iload hx₀ hb dX11_lay_32 (lv_at hl 0 rfl) ?_
        refine lv_if_eq (tgt := 40) hx₀ hb dX11_lay_34 (by decide) (fun c9 => absurd c9 (by decide +kernel)) (fun _ => ?_)
        refine lv_iload hx₀ hb dX11_lay_37 (lv_at hl 0 rfl) ?_
        obtain ⟨hP9, hD9⟩ := k_c2 (wc := [(kX11 hx aLa aPa aGe aFl aTr aBe aLu aLo vSf vSm vCo vSh xs xl (g_81 0)), (kAQ vSh cQ 4 (fSh s0 s1 s2 s3)), (kX8 s0 i0 (sLo 0) (sFo 0) (sSi 0)), (kAI i0 cI 60 gq0), (kX8 s1 i1 (sLo 1) (sFo 1) (sSi 1)), (kAI i1 cI 60 gq1), (kX8 s2 i2 (sLo 2) (sFo 2) (sSi 2)), (kAI i2 cI 60 gq2), (kX8 s3 i3 (sLo 3) (sFo 3) (sSi 3)), (kAI i3 cI 60 gq3)]) hP hD [8, 7, 0, 1, 2, 3, 4, 5, 9, 6] (by decide +kernel) rfl
        exact W.iret (v := (-13)) hx₀ hb hr (fun t₀ ht hW => ⟨⟨(-13), (k_fn [(g_81 0)], k_fa [gq0, gq1, gq2, gq3], k_fl [], k_fL [], k_fp []), rfl, ⟨(show ((-13) : Int32) = if 0 ≤ (3 : Int32) ∧ (3 : Int32) ≤ 3 ∧ 0 ≤ fm ∧ fm ≤ 2 then (if sLo (3 : Int32).toNatClampNeg = 0 ∧ sFo (3 : Int32).toNatClampNeg = fm ∧ 0 ≤ ix ∧ ix < sSi (3 : Int32).toNatClampNeg then 1 else if sLo (3 : Int32).toNatClampNeg = 0 ∧ sFo (3 : Int32).toNatClampNeg = fm then -12 else if sLo (3 : Int32).toNatClampNeg = 0 then -13 else -11) else -2 from (((((((if_pos (c_99)).symm).trans (if_neg (c_97)).symm)).trans (if_neg (c_88)).symm)).trans (if_pos (show 0 ≤ (3 : Int32) ∧ (3 : Int32) ≤ 3 ∧ 0 ≤ fm ∧ fm ≤ 2 from ⟨(by decide), (by decide), c_79.1, c_79.2⟩)).symm)), (c_87.trans (congrArg (fun z => kFd z xf) c_100)), (if_neg (show ¬ ((0 ≤ (3 : Int32) ∧ (3 : Int32) ≤ 3 ∧ 0 ≤ fm ∧ fm ≤ 2 ∧ sLo (3 : Int32).toNatClampNeg = 0 ∧ sFo (3 : Int32).toNatClampNeg = fm ∧ 0 ≤ ix ∧ ix < sSi (3 : Int32).toNatClampNeg) ∧ (3 : Int32) = 0) from (fun z => (fun z => c_88 (And.intro z.2.2.2.2.1 (And.intro z.2.2.2.2.2.1 (And.intro z.2.2.2.2.2.2.1 z.2.2.2.2.2.2.2)))) z.1))).symm, (if_neg (show ¬ ((0 ≤ (3 : Int32) ∧ (3 : Int32) ≤ 3 ∧ 0 ≤ fm ∧ fm ≤ 2 ∧ sLo (3 : Int32).toNatClampNeg = 0 ∧ sFo (3 : Int32).toNatClampNeg = fm ∧ 0 ≤ ix ∧ ix < sSi (3 : Int32).toNatClampNeg) ∧ (3 : Int32) = 1) from (fun z => (fun z => c_88 (And.intro z.2.2.2.2.1 (And.intro z.2.2.2.2.2.1 (And.intro z.2.2.2.2.2.2.1 z.2.2.2.2.2.2.2)))) z.1))).symm, (if_neg (show ¬ ((0 ≤ (3 : Int32) ∧ (3 : Int32) ≤ 3 ∧ 0 ≤ fm ∧ fm ≤ 2 ∧ sLo (3 : Int32).toNatClampNeg = 0 ∧ sFo (3 : Int32).toNatClampNeg = fm ∧ 0 ≤ ix ∧ ix < sSi (3 : Int32).toNatClampNeg) ∧ (3 : Int32) = 2) from (fun z => (fun z => c_88 (And.intro z.2.2.2.2.1 (And.intro z.2.2.2.2.2.1 (And.intro z.2.2.2.2.2.2.1 z.2.2.2.2.2.2.2)))) z.1))).symm, (if_neg (show ¬ ((0 ≤ (3 : Int32) ∧ (3 : Int32) ≤ 3 ∧ 0 ≤ fm ∧ fm ≤ 2 ∧ sLo (3 : Int32).toNatClampNeg = 0 ∧ sFo (3 : Int32).toNatClampNeg = fm ∧ 0 ≤ ix ∧ ix < sSi (3 : Int32).toNatClampNeg) ∧ (3 : Int32) = 3) from (fun z => (fun z => c_88 (And.intro z.2.2.2.2.1 (And.intro z.2.2.2.2.2.1 (And.intro z.2.2.2.2.2.2.1 z.2.2.2.2.2.2.2)))) z.1))).symm⟩, by rw [ht]; exact hP9, va_K.moved hW.alike hK, hD9⟩, hS.F ht⟩) hS.2.2 dX11_lay_39
      rw [if_neg c_99] at hw
      have c_101 := hw
      refine k_topi (v := (-11)) hw ?_
      refine lv_istore (lv' := [(6, .int (-11)), (5, .ref s3), (0, .ref hx), (1, .int 3), (2, .int fm), (3, .int ix), (4, .int v1)]) hx₀ hb dX11_lay_30 hl (by decide) rfl (fun ls hl => ?_)
      refine lv_iload hx₀ hb dX11_lay_32 (lv_at hl 0 rfl) ?_
      refine lv_if_eq (tgt := 40) hx₀ hb dX11_lay_34 (by decide) (fun c9 => absurd c9 (by decide +kernel)) (fun _ => ?_)
      refine lv_iload hx₀ hb dX11_lay_37 (lv_at hl 0 rfl) ?_
      obtain ⟨hP9, hD9⟩ := k_c2 (wc := [(kX11 hx aLa aPa aGe aFl aTr aBe aLu aLo vSf vSm vCo vSh xs xl (g_81 0)), (kAQ vSh cQ 4 (fSh s0 s1 s2 s3)), (kX8 s0 i0 (sLo 0) (sFo 0) (sSi 0)), (kAI i0 cI 60 gq0), (kX8 s1 i1 (sLo 1) (sFo 1) (sSi 1)), (kAI i1 cI 60 gq1), (kX8 s2 i2 (sLo 2) (sFo 2) (sSi 2)), (kAI i2 cI 60 gq2), (kX8 s3 i3 (sLo 3) (sFo 3) (sSi 3)), (kAI i3 cI 60 gq3)]) hP hD [8, 7, 0, 1, 2, 3, 4, 5, 9, 6] (by decide +kernel) rfl
      exact W.iret (v := (-11)) hx₀ hb hr (fun t₀ ht hW => ⟨⟨(-11), (k_fn [(g_81 0)], k_fa [gq0, gq1, gq2, gq3], k_fl [], k_fL [], k_fp []), rfl, ⟨(show ((-11) : Int32) = if 0 ≤ (3 : Int32) ∧ (3 : Int32) ≤ 3 ∧ 0 ≤ fm ∧ fm ≤ 2 then (if sLo (3 : Int32).toNatClampNeg = 0 ∧ sFo (3 : Int32).toNatClampNeg = fm ∧ 0 ≤ ix ∧ ix < sSi (3 : Int32).toNatClampNeg then 1 else if sLo (3 : Int32).toNatClampNeg = 0 ∧ sFo (3 : Int32).toNatClampNeg = fm then -12 else if sLo (3 : Int32).toNatClampNeg = 0 then -13 else -11) else -2 from (((((((if_neg (c_99)).symm).trans (if_neg (c_97)).symm)).trans (if_neg (c_88)).symm)).trans (if_pos (show 0 ≤ (3 : Int32) ∧ (3 : Int32) ≤ 3 ∧ 0 ≤ fm ∧ fm ≤ 2 from ⟨(by decide), (by decide), c_79.1, c_79.2⟩)).symm)), (c_87.trans (congrArg (fun z => kFd z xf) c_101)), (if_neg (show ¬ ((0 ≤ (3 : Int32) ∧ (3 : Int32) ≤ 3 ∧ 0 ≤ fm ∧ fm ≤ 2 ∧ sLo (3 : Int32).toNatClampNeg = 0 ∧ sFo (3 : Int32).toNatClampNeg = fm ∧ 0 ≤ ix ∧ ix < sSi (3 : Int32).toNatClampNeg) ∧ (3 : Int32) = 0) from (fun z => (fun z => c_99 z.2.2.2.2.1) z.1))).symm, (if_neg (show ¬ ((0 ≤ (3 : Int32) ∧ (3 : Int32) ≤ 3 ∧ 0 ≤ fm ∧ fm ≤ 2 ∧ sLo (3 : Int32).toNatClampNeg = 0 ∧ sFo (3 : Int32).toNatClampNeg = fm ∧ 0 ≤ ix ∧ ix < sSi (3 : Int32).toNatClampNeg) ∧ (3 : Int32) = 1) from (fun z => (fun z => c_99 z.2.2.2.2.1) z.1))).symm, (if_neg (show ¬ ((0 ≤ (3 : Int32) ∧ (3 : Int32) ≤ 3 ∧ 0 ≤ fm ∧ fm ≤ 2 ∧ sLo (3 : Int32).toNatClampNeg = 0 ∧ sFo (3 : Int32).toNatClampNeg = fm ∧ 0 ≤ ix ∧ ix < sSi (3 : Int32).toNatClampNeg) ∧ (3 : Int32) = 2) from (fun z => (fun z => c_99 z.2.2.2.2.1) z.1))).symm, (if_neg (show ¬ ((0 ≤ (3 : Int32) ∧ (3 : Int32) ≤ 3 ∧ 0 ≤ fm ∧ fm ≤ 2 ∧ sLo (3 : Int32).toNatClampNeg = 0 ∧ sFo (3 : Int32).toNatClampNeg = fm ∧ 0 ≤ ix ∧ ix < sSi (3 : Int32).toNatClampNeg) ∧ (3 : Int32) = 3) from (fun z => (fun z => c_99 z.2.2.2.2.1) z.1))).symm⟩, by rw [ht]; exact hP9, va_K.moved hW.alike hK, hD9⟩, hS.F ht⟩) hS.2.2 dX11_lay_39
    rw [if_neg c_79] at hw
    refine k_topi (v := 0) hw ?_
    refine lv_if_ne (tgt := 22) hx₀ hb dX11_lay_16 (by decide) (fun c9 => absurd (by decide +kernel) c9) (fun _ => ?_)
    refine lv_bipush (v := (-2)) hx₀ hb dX11_lay_19 (by decide +kernel) ?_
    obtain ⟨hP9, hD9⟩ := k_c2 (wc := [(kX11 hx aLa aPa aGe aFl aTr aBe aLu aLo vSf vSm vCo vSh xs xl xf), (kAQ vSh cQ 4 (fSh s0 s1 s2 s3)), (kX8 s0 i0 (sLo 0) (sFo 0) (sSi 0)), (kAI i0 cI 60 gq0), (kX8 s1 i1 (sLo 1) (sFo 1) (sSi 1)), (kAI i1 cI 60 gq1), (kX8 s2 i2 (sLo 2) (sFo 2) (sSi 2)), (kAI i2 cI 60 gq2), (kX8 s3 i3 (sLo 3) (sFo 3) (sSi 3)), (kAI i3 cI 60 gq3)]) hP hD [8, 9, 0, 1, 2, 3, 4, 5, 6, 7] (by decide +kernel) rfl
    exact W.iret (v := (-2)) hx₀ hb hr (fun t₀ ht hW => ⟨⟨(-2), (k_fn [xf], k_fa [gq0, gq1, gq2, gq3], k_fl [], k_fL [], k_fp []), rfl, ⟨(show ((-2) : Int32) = if 0 ≤ (3 : Int32) ∧ (3 : Int32) ≤ 3 ∧ 0 ≤ fm ∧ fm ≤ 2 then (if sLo (3 : Int32).toNatClampNeg = 0 ∧ sFo (3 : Int32).toNatClampNeg = fm ∧ 0 ≤ ix ∧ ix < sSi (3 : Int32).toNatClampNeg then 1 else if sLo (3 : Int32).toNatClampNeg = 0 ∧ sFo (3 : Int32).toNatClampNeg = fm then -12 else if sLo (3 : Int32).toNatClampNeg = 0 then -13 else -11) else -2 from (if_neg (show ¬ (0 ≤ (3 : Int32) ∧ (3 : Int32) ≤ 3 ∧ 0 ≤ fm ∧ fm ≤ 2) from (fun z => c_79 (And.intro z.2.2.1 z.2.2.2)))).symm), (kFd_ge (by decide)).symm, (if_neg (show ¬ ((0 ≤ (3 : Int32) ∧ (3 : Int32) ≤ 3 ∧ 0 ≤ fm ∧ fm ≤ 2 ∧ sLo (3 : Int32).toNatClampNeg = 0 ∧ sFo (3 : Int32).toNatClampNeg = fm ∧ 0 ≤ ix ∧ ix < sSi (3 : Int32).toNatClampNeg) ∧ (3 : Int32) = 0) from (fun z => (fun z => c_79 (And.intro z.2.2.1 z.2.2.2.1)) z.1))).symm, (if_neg (show ¬ ((0 ≤ (3 : Int32) ∧ (3 : Int32) ≤ 3 ∧ 0 ≤ fm ∧ fm ≤ 2 ∧ sLo (3 : Int32).toNatClampNeg = 0 ∧ sFo (3 : Int32).toNatClampNeg = fm ∧ 0 ≤ ix ∧ ix < sSi (3 : Int32).toNatClampNeg) ∧ (3 : Int32) = 1) from (fun z => (fun z => c_79 (And.intro z.2.2.1 z.2.2.2.1)) z.1))).symm, (if_neg (show ¬ ((0 ≤ (3 : Int32) ∧ (3 : Int32) ≤ 3 ∧ 0 ≤ fm ∧ fm ≤ 2 ∧ sLo (3 : Int32).toNatClampNeg = 0 ∧ sFo (3 : Int32).toNatClampNeg = fm ∧ 0 ≤ ix ∧ ix < sSi (3 : Int32).toNatClampNeg) ∧ (3 : Int32) = 2) from (fun z => (fun z => c_79 (And.intro z.2.2.1 z.2.2.2.1)) z.1))).symm, (if_neg (show ¬ ((0 ≤ (3 : Int32) ∧ (3 : Int32) ≤ 3 ∧ 0 ≤ fm ∧ fm ≤ 2 ∧ sLo (3 : Int32).toNatClampNeg = 0 ∧ sFo (3 : Int32).toNatClampNeg = fm ∧ 0 ≤ ix ∧ ix < sSi (3 : Int32).toNatClampNeg) ∧ (3 : Int32) = 3) from (fun z => (fun z => c_79 (And.intro z.2.2.1 z.2.2.2.1)) z.1))).symm⟩, by rw [ht]; exact hP9, va_K.moved hW.alike hK, hD9⟩, hS.F ht⟩) hS.2.2 dX11_lay_21
  rw [if_neg c_77] at hw
  subst hw
  refine W.eq (g2 := F0 m₀ 5 ls [.null]) rfl ?_
  refine lv_astoreN (lv' := [(5, .null), (0, .ref hx), (1, .int ss), (2, .int fm), (3, .int ix), (4, .int v1)]) hx₀ hb dX11_lay_5 hl (by decide) rfl (fun ls hl => ?_)
  refine lv_aloadN hx₀ hb dX11_lay_7 (lv_at hl 0 rfl) ?_
  refine lv_ifnullN (tgt := 19) hx₀ hb dX11_lay_9 (by decide) ?_
  refine lv_bipush (v := (-2)) hx₀ hb dX11_lay_19 (by decide +kernel) ?_
  obtain ⟨hP9, hD9⟩ := k_c2 (wc := [(kX11 hx aLa aPa aGe aFl aTr aBe aLu aLo vSf vSm vCo vSh xs xl xf), (kAQ vSh cQ 4 (fSh s0 s1 s2 s3)), (kX8 s0 i0 (sLo 0) (sFo 0) (sSi 0)), (kAI i0 cI 60 gq0), (kX8 s1 i1 (sLo 1) (sFo 1) (sSi 1)), (kAI i1 cI 60 gq1), (kX8 s2 i2 (sLo 2) (sFo 2) (sSi 2)), (kAI i2 cI 60 gq2), (kX8 s3 i3 (sLo 3) (sFo 3) (sSi 3)), (kAI i3 cI 60 gq3)]) hP hD [8, 9, 0, 1, 2, 3, 4, 5, 6, 7] (by decide +kernel) rfl
  exact W.iret (v := (-2)) hx₀ hb hr (fun t₀ ht hW => ⟨⟨(-2), (k_fn [xf], k_fa [gq0, gq1, gq2, gq3], k_fl [], k_fL [], k_fp []), rfl, ⟨(show ((-2) : Int32) = if 0 ≤ ss ∧ ss ≤ 3 ∧ 0 ≤ fm ∧ fm ≤ 2 then (if sLo ss.toNatClampNeg = 0 ∧ sFo ss.toNatClampNeg = fm ∧ 0 ≤ ix ∧ ix < sSi ss.toNatClampNeg then 1 else if sLo ss.toNatClampNeg = 0 ∧ sFo ss.toNatClampNeg = fm then -12 else if sLo ss.toNatClampNeg = 0 then -13 else -11) else -2 from (if_neg (lf_j_lay_3 ss fm c_2 c_27 c_52 c_77)).symm), (kFd_ge (by decide)).symm, (if_neg (show ¬ ((0 ≤ ss ∧ ss ≤ 3 ∧ 0 ≤ fm ∧ fm ≤ 2 ∧ sLo ss.toNatClampNeg = 0 ∧ sFo ss.toNatClampNeg = fm ∧ 0 ≤ ix ∧ ix < sSi ss.toNatClampNeg) ∧ ss = 0) from (fun z => c_2 z.2))).symm, (if_neg (show ¬ ((0 ≤ ss ∧ ss ≤ 3 ∧ 0 ≤ fm ∧ fm ≤ 2 ∧ sLo ss.toNatClampNeg = 0 ∧ sFo ss.toNatClampNeg = fm ∧ 0 ≤ ix ∧ ix < sSi ss.toNatClampNeg) ∧ ss = 1) from (fun z => c_27 z.2))).symm, (if_neg (show ¬ ((0 ≤ ss ∧ ss ≤ 3 ∧ 0 ≤ fm ∧ fm ≤ 2 ∧ sLo ss.toNatClampNeg = 0 ∧ sFo ss.toNatClampNeg = fm ∧ 0 ≤ ix ∧ ix < sSi ss.toNatClampNeg) ∧ ss = 2) from (fun z => c_52 z.2))).symm, (if_neg (show ¬ ((0 ≤ ss ∧ ss ≤ 3 ∧ 0 ≤ fm ∧ fm ≤ 2 ∧ sLo ss.toNatClampNeg = 0 ∧ sFo ss.toNatClampNeg = fm ∧ 0 ≤ ix ∧ ix < sSi ss.toNatClampNeg) ∧ ss = 3) from (fun z => c_77 z.2))).symm⟩, by rw [ht]; exact hP9, va_K.moved hW.alike hK, hD9⟩, hS.F ht⟩) hS.2.2 dX11_lay_21
theorem lf_j_get_1 (a0 : Int32) (a1 : Int32) (a2 : Int32) (a3 : Int32) (a4 : Int32) (a5 : Int32) (h0 : ¬ (a0 = 0)) (h1 : ¬ (a0 = 1)) (h2 : ¬ (a0 = 2)) (h3 : ¬ (a0 = 3)) : ¬ (0 ≤ a0 ∧ a0 ≤ 3 ∧ 0 ≤ a1 ∧ a1 ≤ 2 ∧ a2 = 0 ∧ a3 = a1 ∧ 0 ≤ a4 ∧ a4 < a5) := by
  first | (first | omega | (have hr0 := Int32.toInt_lt a0; have hs0 := Int32.le_toInt a0; have hr1 := Int32.toInt_lt a1; have hs1 := Int32.le_toInt a1; have hr2 := Int32.toInt_lt a2; have hs2 := Int32.le_toInt a2; have hr3 := Int32.toInt_lt a3; have hs3 := Int32.le_toInt a3; have hr4 := Int32.toInt_lt a4; have hs4 := Int32.le_toInt a4; have hr5 := Int32.toInt_lt a5; have hs5 := Int32.le_toInt a5; simp only [Int64.toInt_add, Int64.toInt_sub, Int32.toInt_add, Int32.toInt_sub, Int32.toInt_mul, Int64.le_iff_toInt_le, Int64.lt_iff_toInt_lt, Int32.le_iff_toInt_le, Int32.lt_iff_toInt_lt, ← Int32.toInt_inj, ← Int64.toInt_inj, Int32.toInt_toInt64, kc_0, kc_1, kc_2, kc_3, true_and, and_true, not_true_eq_false, not_false_eq_true] at * <;> ((first | omega | ((try simp (disch := omega) only [k_bm64] at *); (try simp (disch := omega) only [k_bm] at *); (try simp (disch := omega) only [k_bm] at *); omega) | (simp only [Int.bmod] at *; omega))))) | with_reducible assumption | exact Or.inl rfl | rfl
set_option maxHeartbeats 4000000 in
set_option maxRecDepth 100000 in
theorem j_get (l : Launch) (dC : Nat → ClassId) (dI : Nat → Nat → Nat) (cI cJ cQ : ClassId) (sz : Nat) (hx : Nat) (ss : Int32) (fm : Int32) (ix : Int32) (aLa : Nat) (aPa : Nat) (aGe : Nat) (aFl : Nat) (aTr : Nat) (aBe : Nat) (aLu : Nat) (aLo : Nat) (vSf : Nat) (vSm : Nat) (vCo : Nat) (vSh : Nat) (xs : Int32) (xl : Int32) (xf : Int32) (s0 : Nat) (i0 : Nat) (sLo : Nat → Int32) (sFo : Nat → Int32) (sSi : Nat → Int32) (gq0 : Nat → Int32) (s1 : Nat) (i1 : Nat) (gq1 : Nat → Int32) (s2 : Nat) (i2 : Nat) (gq2 : Nat → Int32) (s3 : Nat) (i3 : Nat) (gq3 : Nat → Int32) (hh0 : k_bd 4 0 60 sSi) : Met l yX11_get (kW yX11_get cX11_get 5 (some .int)) { frames := 2, cells := 0, slots := 0, locals := 45 } (kPre dC dI cI cJ cQ sz [.ref hx, .int ss, .int fm, .int ix] [(kX11 hx aLa aPa aGe aFl aTr aBe aLu aLo vSf vSm vCo vSh xs xl xf), (kAQ vSh cQ 4 (fSh s0 s1 s2 s3)), (kX8 s0 i0 (sLo 0) (sFo 0) (sSi 0)), (kAI i0 cI 60 gq0), (kX8 s1 i1 (sLo 1) (sFo 1) (sSi 1)), (kAI i1 cI 60 gq1), (kX8 s2 i2 (sLo 2) (sFo 2) (sSi 2)), (kAI i2 cI 60 gq2), (kX8 s3 i3 (sLo 3) (sFo 3) (sSi 3)), (kAI i3 cI 60 gq3)]) (va_Qi (fun (r : Int32) (u : kS) => (r = if 0 ≤ ss ∧ ss ≤ 3 ∧ 0 ≤ fm ∧ fm ≤ 2 ∧ sLo ss.toNatClampNeg = 0 ∧ sFo ss.toNatClampNeg = fm ∧ 0 ≤ ix ∧ ix < sSi ss.toNatClampNeg then kG4 gq0 gq1 gq2 gq3 ss.toNatClampNeg ix.toNatClampNeg else -2147483648) ∧ ((u.1 0) = if 0 ≤ ss ∧ ss ≤ 3 ∧ 0 ≤ fm ∧ fm ≤ 2 then kFd (if sLo ss.toNatClampNeg = 0 ∧ sFo ss.toNatClampNeg = fm ∧ 0 ≤ ix ∧ ix < sSi ss.toNatClampNeg then 0 else if sLo ss.toNatClampNeg = 0 ∧ sFo ss.toNatClampNeg = fm then -12 else if sLo ss.toNatClampNeg = 0 then -13 else -11) xf else xf)) (fun (u : kS) t₀ => kB dC dI cI cJ cQ (va_A [(kX11 hx aLa aPa aGe aFl aTr aBe aLu aLo vSf vSm vCo vSh xs xl xf), (kAQ vSh cQ 4 (fSh s0 s1 s2 s3)), (kX8 s0 i0 (sLo 0) (sFo 0) (sSi 0)), (kAI i0 cI 60 gq0), (kX8 s1 i1 (sLo 1) (sFo 1) (sSi 1)), (kAI i1 cI 60 gq1), (kX8 s2 i2 (sLo 2) (sFo 2) (sSi 2)), (kAI i2 cI 60 gq2), (kX8 s3 i3 (sLo 3) (sFo 3) (sSi 3)), (kAI i3 cI 60 gq3)] sz) [(kX11 hx aLa aPa aGe aFl aTr aBe aLu aLo vSf vSm vCo vSh xs xl (u.1 0)), (kAQ vSh cQ 4 (fSh s0 s1 s2 s3)), (kX8 s0 i0 (sLo 0) (sFo 0) (sSi 0)), (kAI i0 cI 60 gq0), (kX8 s1 i1 (sLo 1) (sFo 1) (sSi 1)), (kAI i1 cI 60 gq1), (kX8 s2 i2 (sLo 2) (sFo 2) (sSi 2)), (kAI i2 cI 60 gq2), (kX8 s3 i3 (sLo 3) (sFo 3) (sSi 3)), (kAI i3 cI 60 gq3)] t₀) (va_A [(kX11 hx aLa aPa aGe aFl aTr aBe aLu aLo vSf vSm vCo vSh xs xl xf), (kAQ vSh cQ 4 (fSh s0 s1 s2 s3)), (kX8 s0 i0 (sLo 0) (sFo 0) (sSi 0)), (kAI i0 cI 60 gq0), (kX8 s1 i1 (sLo 1) (sFo 1) (sSi 1)), (kAI i1 cI 60 gq1), (kX8 s2 i2 (sLo 2) (sFo 2) (sSi 2)), (kAI i2 cI 60 gq2), (kX8 s3 i3 (sLo 3) (sFo 3) (sSi 3)), (kAI i3 cI 60 gq3)] sz)) 0 0 (va_A [(kX11 hx aLa aPa aGe aFl aTr aBe aLu aLo vSf vSm vCo vSh xs xl xf), (kAQ vSh cQ 4 (fSh s0 s1 s2 s3)), (kX8 s0 i0 (sLo 0) (sFo 0) (sSi 0)), (kAI i0 cI 60 gq0), (kX8 s1 i1 (sLo 1) (sFo 1) (sSi 1)), (kAI i1 cI 60 gq1), (kX8 s2 i2 (sLo 2) (sFo 2) (sSi 2)), (kAI i2 cI 60 gq2), (kX8 s3 i3 (sLo 3) (sFo 3) (sSi 3)), (kAI i3 cI 60 gq3)] sz) := by
  refine Met.ofW (cc := cX11_get) (maxL := 5) (ret := (some .int)) (by decide) rfl ?_
  intro p₀ e₀ s₀ m₀ args below meth c₀ s₁ B hml hv₀
  obtain ⟨rfl, hsz, hP, hK, hD0, hN⟩ := hv₀
  have hx₀ := B.exec
  have hb := B.bytes
  have hr := B.returns
  have hts := atoms_spec (ws := (kW yX11_get cX11_get 5 (some .int))) B.pre
  have hts := fun w h => hts w (List.mem_cons_of_mem _ h)
  have hown : s₀.vm.findClass RX11 = some m₀.cls := findClass_of_methodNamed B.named
  have hlocks := B.notSynchronized
  subst hsz
  have hD := hD0.self (sz := s₀.heap.size)
  generalize hAe : va_A [(kX11 hx aLa aPa aGe aFl aTr aBe aLu aLo vSf vSm vCo vSh xs xl xf), (kAQ vSh cQ 4 (fSh s0 s1 s2 s3)), (kX8 s0 i0 (sLo 0) (sFo 0) (sSi 0)), (kAI i0 cI 60 gq0), (kX8 s1 i1 (sLo 1) (sFo 1) (sSi 1)), (kAI i1 cI 60 gq1), (kX8 s2 i2 (sLo 2) (sFo 2) (sSi 2)), (kAI i2 cI 60 gq2), (kX8 s3 i3 (sLo 3) (sFo 3) (sSi 3)), (kAI i3 cI 60 gq3)] s₀.heap.size = A at hD ⊢
  have hA : ∀ q : Nat, s₀.heap.size ≤ q → A q := fun q h => by rw [← hAe]; exact Or.inr h
  have hS : va_S A s₀.heap s₀.heap [] := va_S.rf
  have hP : va_P (dC, dI) vwCl [(kX11 hx aLa aPa aGe aFl aTr aBe aLu aLo vSf vSm vCo vSh xs xl xf), (kAQ vSh cQ 4 (fSh s0 s1 s2 s3)), (kX8 s0 i0 (sLo 0) (sFo 0) (sSi 0)), (kAI i0 cI 60 gq0), (kX8 s1 i1 (sLo 1) (sFo 1) (sSi 1)), (kAI i1 cI 60 gq1), (kX8 s2 i2 (sLo 2) (sFo 2) (sSi 2)), (kAI i2 cI 60 gq2), (kX8 s3 i3 (sLo 3) (sFo 3) (sSi 3)), (kAI i3 cI 60 gq3)] s₀.heap := hP
  have hl := lv_entry ([.ref hx, .int ss, .int fm, .int ix]) (n := 5) (Nat.le_of_ble_eq_true rfl)
  rw [lg_entry_eq]
  generalize (lg_sl ([.ref hx, .int ss, .int fm, .int ix]) ++ List.replicate (5 - (lg_sl ([.ref hx, .int ss, .int fm, .int ix])).length) Slot.unset).toArray = ls at hl ⊢
  have hl : lv_has ls 5 [(0, .ref hx), (1, .int ss), (2, .int fm), (3, .int ix)] := hl
  obtain ⟨H, hH⟩ : ∃ z : Heap, z = s₀.heap := ⟨_, rfl⟩
  rw [← hH] at hP
  have hS : va_S A s₀.heap H [] := by rw [hH]; exact hS
  refine k_heap hH ?_
  have hD : va_D A [(kX11 hx aLa aPa aGe aFl aTr aBe aLu aLo vSf vSm vCo vSh xs xl xf), (kAQ vSh cQ 4 (fSh s0 s1 s2 s3)), (kX8 s0 i0 (sLo 0) (sFo 0) (sSi 0)), (kAI i0 cI 60 gq0), (kX8 s1 i1 (sLo 1) (sFo 1) (sSi 1)), (kAI i1 cI 60 gq1), (kX8 s2 i2 (sLo 2) (sFo 2) (sSi 2)), (kAI i2 cI 60 gq2), (kX8 s3 i3 (sLo 3) (sFo 3) (sSi 3)), (kAI i3 cI 60 gq3)] := hD
  obtain ⟨locs, hlo⟩ : ∃ z : List Loc, z = [] := ⟨_, rfl⟩
  rw [← hlo] at hS ⊢
  clear hlo hH hAe hD0
  have hq0 : 0 ≤ (sSi 0).toInt ∧ (sSi 0).toInt ≤ 60 := hh0 0 (by decide)
  have hq1 : 0 ≤ (sSi 1).toInt ∧ (sSi 1).toInt ≤ 60 := hh0 1 (by decide)
  have hq2 : 0 ≤ (sSi 2).toInt ∧ (sSi 2).toInt ≤ 60 := hh0 2 (by decide)
  have hq3 : 0 ≤ (sSi 3).toInt ∧ (sSi 3).toInt ≤ 60 := hh0 3 (by decide)
  refine lv_aload_n hx₀ hb dX11_get_0 rfl (lv_at hl 0 rfl) ?_
  refine lv_iload_n hx₀ hb dX11_get_1 rfl (lv_at hl 1 rfl) ?_
  obtain ⟨hPc, hDc, hFc, hC⟩ := k_cw (wc := [(kX11 hx aLa aPa aGe aFl aTr aBe aLu aLo vSf vSm vCo vSh xs xl xf), (kAQ vSh cQ 4 (fSh s0 s1 s2 s3))]) hP hD hS hA [0, 1] (by decide +kernel) rfl
  refine va_callq (va_runV (As := [.int ss]) (rest := []) ⟨hx₀, hb, hml, hown, hts⟩ (j_sheetOf l dC dI cI cJ cQ H.size hx ss aLa aPa aGe aFl aTr aBe aLu aLo vSf vSm vCo vSh xs xl xf s0 s1 s2 s3) (cwV 1 hts (kGV wd_383 wd_380 wd_381 wd_382 wd_2) rfl rfl rfl (by decide +kernel) ⟨Nat.le_of_ble_eq_true rfl, Nat.le_of_ble_eq_true rfl⟩) (k_preV10 (q0 := 0) hK hPc hDc hN rfl) rfl rfl hl.1 rfl (lv_room (Nat.le_of_ble_eq_true rfl)) dX11_get_2 ⟨by decide +kernel, by decide +kernel⟩) hS (fun q _ h => hFc q h) hFc (fun r_1 u₀ t₀ H1 locs ht hvm hw hB hz1 hk1 hS => ?_)
  obtain ⟨hP1, hK1, hD1⟩ := hB
  rw [ht] at hP1
  have hJ := k_jn (wr := [(kX8 s0 i0 (sLo 0) (sFo 0) (sSi 0)), (kAI i0 cI 60 gq0), (kX8 s1 i1 (sLo 1) (sFo 1) (sSi 1)), (kAI i1 cI 60 gq1), (kX8 s2 i2 (sLo 2) (sFo 2) (sSi 2)), (kAI i2 cI 60 gq2), (kX8 s3 i3 (sLo 3) (sFo 3) (sSi 3)), (kAI i3 cI 60 gq3)]) (wt := [(kX8 s0 i0 (sLo 0) (sFo 0) (sSi 0)), (kAI i0 cI 60 gq0), (kX8 s1 i1 (sLo 1) (sFo 1) (sSi 1)), (kAI i1 cI 60 gq1), (kX8 s2 i2 (sLo 2) (sFo 2) (sSi 2)), (kAI i2 cI 60 gq2), (kX8 s3 i3 (sLo 3) (sFo 3) (sSi 3)), (kAI i3 cI 60 gq3), (kX11 hx aLa aPa aGe aFl aTr aBe aLu aLo vSf vSm vCo vSh xs xl xf), (kAQ vSh cQ 4 (fSh s0 s1 s2 s3))]) hP hD hC [2, 3, 4, 5, 6, 7, 8, 9] rfl (by decide +kernel) (by decide +kernel) hk1 hFc hP1 hD1 rfl
  clear hP hD hPc hDc hFc hC hP1 hD1 hK1 hz1 hk1 hvm ht
  obtain ⟨hP, hD⟩ := hJ
  generalize H1 = H at hP hS ⊢
  try dsimp only at hw
  by_cases c_2 : ss = 0
  · rw [if_pos c_2] at hw
    subst hw
    refine W.eq (g2 := F0 m₀ 5 ls [.ref s0]) rfl ?_
    subst c_2
    refine lv_astore (lv' := [(4, .ref s0), (0, .ref hx), (1, .int 0), (2, .int fm), (3, .int ix)]) hx₀ hb dX11_get_5 hl (by decide) rfl (fun ls hl => ?_)
    refine lv_aload hx₀ hb dX11_get_7 (lv_at hl 0 rfl) ?_
    refine lv_ifnull hx₀ hb dX11_get_9 ?_
    refine lv_iload_n hx₀ hb dX11_get_12 rfl (lv_at hl 3 rfl) ?_
    obtain ⟨hPc, hDc, hFc, hC⟩ := k_cw (wc := []) hP hD hS hA [] (by decide +kernel) rfl
    refine va_calli (va_runS (As := [.int fm]) (rest := []) ⟨hx₀, hb, hml, hown, hts⟩ (j_isForm l dC dI cI cJ cQ H.size fm) (va_cwS 1 hts (kGS wd_864 wd_862 wd_863 wd_2) rfl rfl rfl (by decide +kernel) ⟨Nat.le_of_ble_eq_true rfl, Nat.le_of_ble_eq_true rfl⟩) (k_preS hK hPc hDc hN) rfl rfl hl.1 rfl (lv_room (Nat.le_of_ble_eq_true rfl)) dX11_get_13 ⟨by decide +kernel, by decide +kernel⟩) hS (fun q _ h => hFc q h) hFc (fun r_3 u₀ t₀ H1 locs ht hvm hw hB hz1 hk1 hS => ?_)
    obtain ⟨hP1, hK1, hD1⟩ := hB
    rw [ht] at hP1
    have hJ := k_jn (wr := [(kX8 s0 i0 (sLo 0) (sFo 0) (sSi 0)), (kAI i0 cI 60 gq0), (kX8 s1 i1 (sLo 1) (sFo 1) (sSi 1)), (kAI i1 cI 60 gq1), (kX8 s2 i2 (sLo 2) (sFo 2) (sSi 2)), (kAI i2 cI 60 gq2), (kX8 s3 i3 (sLo 3) (sFo 3) (sSi 3)), (kAI i3 cI 60 gq3), (kX11 hx aLa aPa aGe aFl aTr aBe aLu aLo vSf vSm vCo vSh xs xl xf), (kAQ vSh cQ 4 (fSh s0 s1 s2 s3))]) (wt := [(kX8 s0 i0 (sLo 0) (sFo 0) (sSi 0)), (kAI i0 cI 60 gq0), (kX8 s1 i1 (sLo 1) (sFo 1) (sSi 1)), (kAI i1 cI 60 gq1), (kX8 s2 i2 (sLo 2) (sFo 2) (sSi 2)), (kAI i2 cI 60 gq2), (kX8 s3 i3 (sLo 3) (sFo 3) (sSi 3)), (kAI i3 cI 60 gq3), (kX11 hx aLa aPa aGe aFl aTr aBe aLu aLo vSf vSm vCo vSh xs xl xf), (kAQ vSh cQ 4 (fSh s0 s1 s2 s3))]) hP hD hC [0, 1, 2, 3, 4, 5, 6, 7, 8, 9] rfl (by decide +kernel) (by decide +kernel) hk1 hFc hP1 hD1 rfl
    clear hP hD hPc hDc hFc hC hP1 hD1 hK1 hz1 hk1 hvm ht
    obtain ⟨hP, hD⟩ := hJ
    generalize H1 = H at hP hS ⊢
    try dsimp only at hw
    by_cases c_4 : 0 ≤ fm ∧ fm ≤ 2
    · rw [if_pos c_4] at hw
      refine k_topi (v := 1) hw ?_
      refine lv_if_eq (tgt := 30) hx₀ hb dX11_get_16 (by decide) (fun c9 => absurd c9 (by decide +kernel)) (fun _ => ?_)
      refine lv_aload_n hx₀ hb dX11_get_19 rfl (lv_at hl 1 rfl) ?_
      refine lv_aload hx₀ hb dX11_get_20 (lv_at hl 0 rfl) ?_
      refine lv_iload_n hx₀ hb dX11_get_22 rfl (lv_at hl 3 rfl) ?_
      refine lv_iload_n hx₀ hb dX11_get_23 rfl (lv_at hl 4 rfl) ?_
      obtain ⟨hPc, hDc, hFc, hC⟩ := k_cw (wc := [(kX11 hx aLa aPa aGe aFl aTr aBe aLu aLo vSf vSm vCo vSh xs xl xf), (kX8 s0 i0 (sLo 0) (sFo 0) (sSi 0))]) hP hD hS hA [8, 0] (by decide +kernel) rfl
      refine va_calli (va_runV (As := [.ref s0, .int fm, .int ix]) (rest := []) ⟨hx₀, hb, hml, hown, hts⟩ (j_refuse l dC dI cI cJ cQ H.size hx s0 fm ix aLa aPa aGe aFl aTr aBe aLu aLo vSf vSm vCo vSh xs xl xf i0 (sLo 0) (sFo 0) (sSi 0) (lf_j_lay_1 (sSi 0) hq0)) (cwV 3 hts (kGV wd_891 wd_888 wd_889 wd_890 wd_2) rfl rfl rfl (by decide +kernel) ⟨Nat.le_of_ble_eq_true rfl, Nat.le_of_ble_eq_true rfl⟩) (k_preV10 (q0 := 0) hK hPc hDc hN rfl) rfl rfl hl.1 rfl (lv_room (Nat.le_of_ble_eq_true rfl)) dX11_get_24 ⟨by decide +kernel, by decide +kernel⟩) hS (fun q _ h => hFc q h) hFc (fun r_5 u₀ t₀ H1 locs ht hvm hw hB hz1 hk1 hS => ?_)
      obtain ⟨g_6, ga_7, gl_8, gb_9, gp_10⟩ := u₀
      obtain ⟨hP1, hK1, hD1⟩ := hB
      rw [ht] at hP1
      have hJ := k_jn (wr := [(kAI i0 cI 60 gq0), (kX8 s1 i1 (sLo 1) (sFo 1) (sSi 1)), (kAI i1 cI 60 gq1), (kX8 s2 i2 (sLo 2) (sFo 2) (sSi 2)), (kAI i2 cI 60 gq2), (kX8 s3 i3 (sLo 3) (sFo 3) (sSi 3)), (kAI i3 cI 60 gq3), (kAQ vSh cQ 4 (fSh s0 s1 s2 s3))]) (wt := [(kAI i0 cI 60 gq0), (kX8 s1 i1 (sLo 1) (sFo 1) (sSi 1)), (kAI i1 cI 60 gq1), (kX8 s2 i2 (sLo 2) (sFo 2) (sSi 2)), (kAI i2 cI 60 gq2), (kX8 s3 i3 (sLo 3) (sFo 3) (sSi 3)), (kAI i3 cI 60 gq3), (kAQ vSh cQ 4 (fSh s0 s1 s2 s3)), (kX11 hx aLa aPa aGe aFl aTr aBe aLu aLo vSf vSm vCo vSh xs xl (g_6 0)), (kX8 s0 i0 (sLo 0) (sFo 0) (sSi 0))]) hP hD hC [1, 2, 3, 4, 5, 6, 7, 9] rfl (by decide +kernel) (by decide +kernel) hk1 hFc hP1 hD1 rfl
      clear hP hD hPc hDc hFc hC hP1 hD1 hK1 hz1 hk1 hvm ht
      obtain ⟨hP, hD⟩ := hJ
      generalize H1 = H at hP hS ⊢
      try dsimp only at hw
      obtain ⟨c_11, c_12⟩ := hw
      have hw := c_11
      by_cases c_13 : (sLo 0) = 0 ∧ (sFo 0) = fm ∧ 0 ≤ ix ∧ ix < (sSi 0)
      · rw [if_pos c_13] at hw
        have c_14 := hw
        refine k_topi (v := 0) hw ?_
        refine lv_if_eq (tgt := 33) hx₀ hb dX11_get_27 (by decide) (fun _ => ?_) (fun c9 => absurd (by decide +kernel) c9)
        refine lv_aload hx₀ hb dX11_get_33 (lv_at hl 0 rfl) ?_
        refine lv_iload_n hx₀ hb dX11_get_35 rfl (lv_at hl 4 rfl) ?_
        obtain ⟨hPc, hDc, hFc, hC⟩ := k_cw (wc := [(kX8 s0 i0 (sLo 0) (sFo 0) (sSi 0)), (kAI i0 cI 60 gq0)]) hP hD hS hA [9, 0] (by decide +kernel) rfl
        refine va_calli (va_runV (As := [.int ix]) (rest := []) ⟨hx₀, hb, hml, hown, hts⟩ (j_item l dC dI cI cJ cQ H.size s0 ix i0 (sLo 0) (sFo 0) (sSi 0) gq0 (lf_j_lay_2 (sSi 0) fm (sLo 0) (sFo 0) ix hq0 c_4 c_13)) (cwV 1 hts (kGV wd_392 wd_389 wd_390 wd_391 wd_51) rfl rfl rfl (by decide +kernel) ⟨Nat.le_of_ble_eq_true rfl, Nat.le_of_ble_eq_true rfl⟩) (k_preV8 (q0 := 0) hK hPc hDc hN rfl) rfl rfl hl.1 rfl (lv_room (Nat.le_of_ble_eq_true rfl)) dX11_get_36 ⟨by decide +kernel, by decide +kernel⟩) hS (fun q _ h => hFc q h) hFc (fun r_15 u₀ t₀ H1 locs ht hvm hw hB hz1 hk1 hS => ?_)
        obtain ⟨hP1, hK1, hD1⟩ := hB
        rw [ht] at hP1
        have hJ := k_jn (wr := [(kX8 s1 i1 (sLo 1) (sFo 1) (sSi 1)), (kAI i1 cI 60 gq1), (kX8 s2 i2 (sLo 2) (sFo 2) (sSi 2)), (kAI i2 cI 60 gq2), (kX8 s3 i3 (sLo 3) (sFo 3) (sSi 3)), (kAI i3 cI 60 gq3), (kAQ vSh cQ 4 (fSh s0 s1 s2 s3)), (kX11 hx aLa aPa aGe aFl aTr aBe aLu aLo vSf vSm vCo vSh xs xl (g_6 0))]) (wt := [(kX8 s1 i1 (sLo 1) (sFo 1) (sSi 1)), (kAI i1 cI 60 gq1), (kX8 s2 i2 (sLo 2) (sFo 2) (sSi 2)), (kAI i2 cI 60 gq2), (kX8 s3 i3 (sLo 3) (sFo 3) (sSi 3)), (kAI i3 cI 60 gq3), (kAQ vSh cQ 4 (fSh s0 s1 s2 s3)), (kX11 hx aLa aPa aGe aFl aTr aBe aLu aLo vSf vSm vCo vSh xs xl (g_6 0)), (kX8 s0 i0 (sLo 0) (sFo 0) (sSi 0)), (kAI i0 cI 60 gq0)]) hP hD hC [1, 2, 3, 4, 5, 6, 7, 8] rfl (by decide +kernel) (by decide +kernel) hk1 hFc hP1 hD1 rfl
        clear hP hD hPc hDc hFc hC hP1 hD1 hK1 hz1 hk1 hvm ht
        obtain ⟨hP, hD⟩ := hJ
        generalize H1 = H at hP hS ⊢
        try dsimp only at hw
        have c_16 := hw
        obtain ⟨hP9, hD9⟩ := k_c2 (wc := [(kX11 hx aLa aPa aGe aFl aTr aBe aLu aLo vSf vSm vCo vSh xs xl (g_6 0)), (kAQ vSh cQ 4 (fSh s0 s1 s2 s3)), (kX8 s0 i0 (sLo 0) (sFo 0) (sSi 0)), (kAI i0 cI 60 gq0), (kX8 s1 i1 (sLo 1) (sFo 1) (sSi 1)), (kAI i1 cI 60 gq1), (kX8 s2 i2 (sLo 2) (sFo 2) (sSi 2)), (kAI i2 cI 60 gq2), (kX8 s3 i3 (sLo 3) (sFo 3) (sSi 3)), (kAI i3 cI 60 gq3)]) hP hD [7, 6, 8, 9, 0, 1, 2, 3, 4, 5] (by decide +kernel) rfl
        exact W.iret (v := r_15) hx₀ hb hr (fun t₀ ht hW => ⟨⟨r_15, (k_fn [(g_6 0)], k_fa [], k_fl [], k_fL [], k_fp []), rfl, ⟨(c_16.trans ((show kIm (sSi 0) gq0 ix = gq0 ix.toNatClampNeg from if_pos (show 0 ≤ ix ∧ ix < (sSi 0) from ⟨c_13.2.2.1, c_13.2.2.2⟩)).trans (if_pos (show 0 ≤ (0 : Int32) ∧ (0 : Int32) ≤ 3 ∧ 0 ≤ fm ∧ fm ≤ 2 ∧ sLo (0 : Int32).toNatClampNeg = 0 ∧ sFo (0 : Int32).toNatClampNeg = fm ∧ 0 ≤ ix ∧ ix < sSi (0 : Int32).toNatClampNeg from ⟨(by decide), (by decide), c_4.1, c_4.2, c_13.1, c_13.2.1, c_13.2.2.1, c_13.2.2.2⟩)).symm)), ((c_12.trans (congrArg (fun z => kFd z xf) c_11)).trans (if_pos (show 0 ≤ (0 : Int32) ∧ (0 : Int32) ≤ 3 ∧ 0 ≤ fm ∧ fm ≤ 2 from ⟨(by decide), (by decide), c_4.1, c_4.2⟩)).symm)⟩, by rw [ht]; exact hP9, va_K.moved hW.alike hK, hD9⟩, hS.F ht⟩) hS.2.2 dX11_get_39
      rw [if_neg c_13] at hw
      by_cases c_17 : (sLo 0) = 0 ∧ (sFo 0) = fm
      · rw [if_pos c_17] at hw
        have c_18 := hw
        refine k_topi (v := (-12)) hw ?_
        refine lv_if_eq (tgt := 33) hx₀ hb dX11_get_27 (by decide) (fun c9 => absurd c9 (by decide +kernel)) (fun _ => ?_)
        refine lv_ldc (v := (-2147483648)) hx₀ hb hown (hts (.constant RX11 244 (-2147483648)) wd_916) dX11_get_30 ?_
        obtain ⟨hP9, hD9⟩ := k_c2 (wc := [(kX11 hx aLa aPa aGe aFl aTr aBe aLu aLo vSf vSm vCo vSh xs xl (g_6 0)), (kAQ vSh cQ 4 (fSh s0 s1 s2 s3)), (kX8 s0 i0 (sLo 0) (sFo 0) (sSi 0)), (kAI i0 cI 60 gq0), (kX8 s1 i1 (sLo 1) (sFo 1) (sSi 1)), (kAI i1 cI 60 gq1), (kX8 s2 i2 (sLo 2) (sFo 2) (sSi 2)), (kAI i2 cI 60 gq2), (kX8 s3 i3 (sLo 3) (sFo 3) (sSi 3)), (kAI i3 cI 60 gq3)]) hP hD [8, 7, 9, 0, 1, 2, 3, 4, 5, 6] (by decide +kernel) rfl
        exact W.iret (v := (-2147483648)) hx₀ hb hr (fun t₀ ht hW => ⟨⟨(-2147483648), (k_fn [(g_6 0)], k_fa [], k_fl [], k_fL [], k_fp []), rfl, ⟨(if_neg (show ¬ (0 ≤ (0 : Int32) ∧ (0 : Int32) ≤ 3 ∧ 0 ≤ fm ∧ fm ≤ 2 ∧ sLo (0 : Int32).toNatClampNeg = 0 ∧ sFo (0 : Int32).toNatClampNeg = fm ∧ 0 ≤ ix ∧ ix < sSi (0 : Int32).toNatClampNeg) from (fun z => c_13 (And.intro z.2.2.2.2.1 (And.intro z.2.2.2.2.2.1 (And.intro z.2.2.2.2.2.2.1 z.2.2.2.2.2.2.2)))))).symm, ((c_12.trans (congrArg (fun z => kFd z xf) c_11)).trans (if_pos (show 0 ≤ (0 : Int32) ∧ (0 : Int32) ≤ 3 ∧ 0 ≤ fm ∧ fm ≤ 2 from ⟨(by decide), (by decide), c_4.1, c_4.2⟩)).symm)⟩, by rw [ht]; exact hP9, va_K.moved hW.alike hK, hD9⟩, hS.F ht⟩) hS.2.2 dX11_get_32
      rw [if_neg c_17] at hw
      by_cases c_19 : (sLo 0) = 0
      · rw [if_pos c_19] at hw
        have c_20 := hw
        refine k_topi (v := (-13)) hw ?_
        refine lv_if_eq (tgt := 33) hx₀ hb dX11_get_27 (by decide) (fun c9 => absurd c9 (by decide +kernel)) (fun _ => ?_)
        refine lv_ldc (v := (-2147483648)) hx₀ hb hown (hts (.constant RX11 244 (-2147483648)) wd_916) dX11_get_30 ?_
        obtain ⟨hP9, hD9⟩ := k_c2 (wc := [(kX11 hx aLa aPa aGe aFl aTr aBe aLu aLo vSf vSm vCo vSh xs xl (g_6 0)), (kAQ vSh cQ 4 (fSh s0 s1 s2 s3)), (kX8 s0 i0 (sLo 0) (sFo 0) (sSi 0)), (kAI i0 cI 60 gq0), (kX8 s1 i1 (sLo 1) (sFo 1) (sSi 1)), (kAI i1 cI 60 gq1), (kX8 s2 i2 (sLo 2) (sFo 2) (sSi 2)), (kAI i2 cI 60 gq2), (kX8 s3 i3 (sLo 3) (sFo 3) (sSi 3)), (kAI i3 cI 60 gq3)]) hP hD [8, 7, 9, 0, 1, 2, 3, 4, 5, 6] (by decide +kernel) rfl
        exact W.iret (v := (-2147483648)) hx₀ hb hr (fun t₀ ht hW => ⟨⟨(-2147483648), (k_fn [(g_6 0)], k_fa [], k_fl [], k_fL [], k_fp []), rfl, ⟨(if_neg (show ¬ (0 ≤ (0 : Int32) ∧ (0 : Int32) ≤ 3 ∧ 0 ≤ fm ∧ fm ≤ 2 ∧ sLo (0 : Int32).toNatClampNeg = 0 ∧ sFo (0 : Int32).toNatClampNeg = fm ∧ 0 ≤ ix ∧ ix < sSi (0 : Int32).toNatClampNeg) from (fun z => c_13 (And.intro z.2.2.2.2.1 (And.intro z.2.2.2.2.2.1 (And.intro z.2.2.2.2.2.2.1 z.2.2.2.2.2.2.2)))))).symm, ((c_12.trans (congrArg (fun z => kFd z xf) c_11)).trans (if_pos (show 0 ≤ (0 : Int32) ∧ (0 : Int32) ≤ 3 ∧ 0 ≤ fm ∧ fm ≤ 2 from ⟨(by decide), (by decide), c_4.1, c_4.2⟩)).symm)⟩, by rw [ht]; exact hP9, va_K.moved hW.alike hK, hD9⟩, hS.F ht⟩) hS.2.2 dX11_get_32
      rw [if_neg c_19] at hw
      have c_21 := hw
      refine k_topi (v := (-11)) hw ?_
      refine lv_if_eq (tgt := 33) hx₀ hb dX11_get_27 (by decide) (fun c9 => absurd c9 (by decide +kernel)) (fun _ => ?_)
      refine lv_ldc (v := (-2147483648)) hx₀ hb hown (hts (.constant RX11 244 (-2147483648)) wd_916) dX11_get_30 ?_
      obtain ⟨hP9, hD9⟩ := k_c2 (wc := [(kX11 hx aLa aPa aGe aFl aTr aBe aLu aLo vSf vSm vCo vSh xs xl (g_6 0)), (kAQ vSh cQ 4 (fSh s0 s1 s2 s3)), (kX8 s0 i0 (sLo 0) (sFo 0) (sSi 0)), (kAI i0 cI 60 gq0), (kX8 s1 i1 (sLo 1) (sFo 1) (sSi 1)), (kAI i1 cI 60 gq1), (kX8 s2 i2 (sLo 2) (sFo 2) (sSi 2)), (kAI i2 cI 60 gq2), (kX8 s3 i3 (sLo 3) (sFo 3) (sSi 3)), (kAI i3 cI 60 gq3)]) hP hD [8, 7, 9, 0, 1, 2, 3, 4, 5, 6] (by decide +kernel) rfl
      exact W.iret (v := (-2147483648)) hx₀ hb hr (fun t₀ ht hW => ⟨⟨(-2147483648), (k_fn [(g_6 0)], k_fa [], k_fl [], k_fL [], k_fp []), rfl, ⟨(if_neg (show ¬ (0 ≤ (0 : Int32) ∧ (0 : Int32) ≤ 3 ∧ 0 ≤ fm ∧ fm ≤ 2 ∧ sLo (0 : Int32).toNatClampNeg = 0 ∧ sFo (0 : Int32).toNatClampNeg = fm ∧ 0 ≤ ix ∧ ix < sSi (0 : Int32).toNatClampNeg) from (fun z => c_19 z.2.2.2.2.1))).symm, ((c_12.trans (congrArg (fun z => kFd z xf) c_11)).trans (if_pos (show 0 ≤ (0 : Int32) ∧ (0 : Int32) ≤ 3 ∧ 0 ≤ fm ∧ fm ≤ 2 from ⟨(by decide), (by decide), c_4.1, c_4.2⟩)).symm)⟩, by rw [ht]; exact hP9, va_K.moved hW.alike hK, hD9⟩, hS.F ht⟩) hS.2.2 dX11_get_32
    rw [if_neg c_4] at hw
    refine k_topi (v := 0) hw ?_
    refine lv_if_eq (tgt := 30) hx₀ hb dX11_get_16 (by decide) (fun _ => ?_) (fun c9 => absurd (by decide +kernel) c9)
    refine lv_ldc (v := (-2147483648)) hx₀ hb hown (hts (.constant RX11 244 (-2147483648)) wd_916) dX11_get_30 ?_
    obtain ⟨hP9, hD9⟩ := k_c2 (wc := [(kX11 hx aLa aPa aGe aFl aTr aBe aLu aLo vSf vSm vCo vSh xs xl xf), (kAQ vSh cQ 4 (fSh s0 s1 s2 s3)), (kX8 s0 i0 (sLo 0) (sFo 0) (sSi 0)), (kAI i0 cI 60 gq0), (kX8 s1 i1 (sLo 1) (sFo 1) (sSi 1)), (kAI i1 cI 60 gq1), (kX8 s2 i2 (sLo 2) (sFo 2) (sSi 2)), (kAI i2 cI 60 gq2), (kX8 s3 i3 (sLo 3) (sFo 3) (sSi 3)), (kAI i3 cI 60 gq3)]) hP hD [8, 9, 0, 1, 2, 3, 4, 5, 6, 7] (by decide +kernel) rfl
    exact W.iret (v := (-2147483648)) hx₀ hb hr (fun t₀ ht hW => ⟨⟨(-2147483648), (k_fn [xf], k_fa [], k_fl [], k_fL [], k_fp []), rfl, ⟨(if_neg (show ¬ (0 ≤ (0 : Int32) ∧ (0 : Int32) ≤ 3 ∧ 0 ≤ fm ∧ fm ≤ 2 ∧ sLo (0 : Int32).toNatClampNeg = 0 ∧ sFo (0 : Int32).toNatClampNeg = fm ∧ 0 ≤ ix ∧ ix < sSi (0 : Int32).toNatClampNeg) from (fun z => c_4 (And.intro z.2.2.1 z.2.2.2.1)))).symm, (if_neg (show ¬ (0 ≤ (0 : Int32) ∧ (0 : Int32) ≤ 3 ∧ 0 ≤ fm ∧ fm ≤ 2) from (fun z => c_4 (And.intro z.2.2.1 z.2.2.2)))).symm⟩, by rw [ht]; exact hP9, va_K.moved hW.alike hK, hD9⟩, hS.F ht⟩) hS.2.2 dX11_get_32
  rw [if_neg c_2] at hw
  by_cases c_22 : ss = 1
  · rw [if_pos c_22] at hw
    subst hw
    refine W.eq (g2 := F0 m₀ 5 ls [.ref s1]) rfl ?_
    subst c_22
    refine lv_astore (lv' := [(4, .ref s1), (0, .ref hx), (1, .int 1), (2, .int fm), (3, .int ix)]) hx₀ hb dX11_get_5 hl (by decide) rfl (fun ls hl => ?_)
    refine lv_aload hx₀ hb dX11_get_7 (lv_at hl 0 rfl) ?_
    refine lv_ifnull hx₀ hb dX11_get_9 ?_
    refine lv_iload_n hx₀ hb dX11_get_12 rfl (lv_at hl 3 rfl) ?_
    obtain ⟨hPc, hDc, hFc, hC⟩ := k_cw (wc := []) hP hD hS hA [] (by decide +kernel) rfl
    refine va_calli (va_runS (As := [.int fm]) (rest := []) ⟨hx₀, hb, hml, hown, hts⟩ (j_isForm l dC dI cI cJ cQ H.size fm) (va_cwS 1 hts (kGS wd_864 wd_862 wd_863 wd_2) rfl rfl rfl (by decide +kernel) ⟨Nat.le_of_ble_eq_true rfl, Nat.le_of_ble_eq_true rfl⟩) (k_preS hK hPc hDc hN) rfl rfl hl.1 rfl (lv_room (Nat.le_of_ble_eq_true rfl)) dX11_get_13 ⟨by decide +kernel, by decide +kernel⟩) hS (fun q _ h => hFc q h) hFc (fun r_23 u₀ t₀ H1 locs ht hvm hw hB hz1 hk1 hS => ?_)
    obtain ⟨hP1, hK1, hD1⟩ := hB
    rw [ht] at hP1
    have hJ := k_jn (wr := [(kX8 s0 i0 (sLo 0) (sFo 0) (sSi 0)), (kAI i0 cI 60 gq0), (kX8 s1 i1 (sLo 1) (sFo 1) (sSi 1)), (kAI i1 cI 60 gq1), (kX8 s2 i2 (sLo 2) (sFo 2) (sSi 2)), (kAI i2 cI 60 gq2), (kX8 s3 i3 (sLo 3) (sFo 3) (sSi 3)), (kAI i3 cI 60 gq3), (kX11 hx aLa aPa aGe aFl aTr aBe aLu aLo vSf vSm vCo vSh xs xl xf), (kAQ vSh cQ 4 (fSh s0 s1 s2 s3))]) (wt := [(kX8 s0 i0 (sLo 0) (sFo 0) (sSi 0)), (kAI i0 cI 60 gq0), (kX8 s1 i1 (sLo 1) (sFo 1) (sSi 1)), (kAI i1 cI 60 gq1), (kX8 s2 i2 (sLo 2) (sFo 2) (sSi 2)), (kAI i2 cI 60 gq2), (kX8 s3 i3 (sLo 3) (sFo 3) (sSi 3)), (kAI i3 cI 60 gq3), (kX11 hx aLa aPa aGe aFl aTr aBe aLu aLo vSf vSm vCo vSh xs xl xf), (kAQ vSh cQ 4 (fSh s0 s1 s2 s3))]) hP hD hC [0, 1, 2, 3, 4, 5, 6, 7, 8, 9] rfl (by decide +kernel) (by decide +kernel) hk1 hFc hP1 hD1 rfl
    clear hP hD hPc hDc hFc hC hP1 hD1 hK1 hz1 hk1 hvm ht
    obtain ⟨hP, hD⟩ := hJ
    generalize H1 = H at hP hS ⊢
    try dsimp only at hw
    by_cases c_24 : 0 ≤ fm ∧ fm ≤ 2
    · rw [if_pos c_24] at hw
      refine k_topi (v := 1) hw ?_
      refine lv_if_eq (tgt := 30) hx₀ hb dX11_get_16 (by decide) (fun c9 => absurd c9 (by decide +kernel)) (fun _ => ?_)
      refine lv_aload_n hx₀ hb dX11_get_19 rfl (lv_at hl 1 rfl) ?_
      refine lv_aload hx₀ hb dX11_get_20 (lv_at hl 0 rfl) ?_
      refine lv_iload_n hx₀ hb dX11_get_22 rfl (lv_at hl 3 rfl) ?_
      refine lv_iload_n hx₀ hb dX11_get_23 rfl (lv_at hl 4 rfl) ?_
      obtain ⟨hPc, hDc, hFc, hC⟩ := k_cw (wc := [(kX11 hx aLa aPa aGe aFl aTr aBe aLu aLo vSf vSm vCo vSh xs xl xf), (kX8 s1 i1 (sLo 1) (sFo 1) (sSi 1))]) hP hD hS hA [8, 2] (by decide +kernel) rfl
      refine va_calli (va_runV (As := [.ref s1, .int fm, .int ix]) (rest := []) ⟨hx₀, hb, hml, hown, hts⟩ (j_refuse l dC dI cI cJ cQ H.size hx s1 fm ix aLa aPa aGe aFl aTr aBe aLu aLo vSf vSm vCo vSh xs xl xf i1 (sLo 1) (sFo 1) (sSi 1) (lf_j_lay_1 (sSi 1) hq1)) (cwV 3 hts (kGV wd_891 wd_888 wd_889 wd_890 wd_2) rfl rfl rfl (by decide +kernel) ⟨Nat.le_of_ble_eq_true rfl, Nat.le_of_ble_eq_true rfl⟩) (k_preV10 (q0 := 0) hK hPc hDc hN rfl) rfl rfl hl.1 rfl (lv_room (Nat.le_of_ble_eq_true rfl)) dX11_get_24 ⟨by decide +kernel, by decide +kernel⟩) hS (fun q _ h => hFc q h) hFc (fun r_25 u₀ t₀ H1 locs ht hvm hw hB hz1 hk1 hS => ?_)
      obtain ⟨g_26, ga_27, gl_28, gb_29, gp_30⟩ := u₀
      obtain ⟨hP1, hK1, hD1⟩ := hB
      rw [ht] at hP1
      have hJ := k_jn (wr := [(kX8 s0 i0 (sLo 0) (sFo 0) (sSi 0)), (kAI i0 cI 60 gq0), (kAI i1 cI 60 gq1), (kX8 s2 i2 (sLo 2) (sFo 2) (sSi 2)), (kAI i2 cI 60 gq2), (kX8 s3 i3 (sLo 3) (sFo 3) (sSi 3)), (kAI i3 cI 60 gq3), (kAQ vSh cQ 4 (fSh s0 s1 s2 s3))]) (wt := [(kX8 s0 i0 (sLo 0) (sFo 0) (sSi 0)), (kAI i0 cI 60 gq0), (kAI i1 cI 60 gq1), (kX8 s2 i2 (sLo 2) (sFo 2) (sSi 2)), (kAI i2 cI 60 gq2), (kX8 s3 i3 (sLo 3) (sFo 3) (sSi 3)), (kAI i3 cI 60 gq3), (kAQ vSh cQ 4 (fSh s0 s1 s2 s3)), (kX11 hx aLa aPa aGe aFl aTr aBe aLu aLo vSf vSm vCo vSh xs xl (g_26 0)), (kX8 s1 i1 (sLo 1) (sFo 1) (sSi 1))]) hP hD hC [0, 1, 3, 4, 5, 6, 7, 9] rfl (by decide +kernel) (by decide +kernel) hk1 hFc hP1 hD1 rfl
      clear hP hD hPc hDc hFc hC hP1 hD1 hK1 hz1 hk1 hvm ht
      obtain ⟨hP, hD⟩ := hJ
      generalize H1 = H at hP hS ⊢
      try dsimp only at hw
      obtain ⟨c_31, c_32⟩ := hw
      have hw := c_31
      by_cases c_33 : (sLo 1) = 0 ∧ (sFo 1) = fm ∧ 0 ≤ ix ∧ ix < (sSi 1)
      · rw [if_pos c_33] at hw
        have c_34 := hw
        refine k_topi (v := 0) hw ?_
        refine lv_if_eq (tgt := 33) hx₀ hb dX11_get_27 (by decide) (fun _ => ?_) (fun c9 => absurd (by decide +kernel) c9)
        refine lv_aload hx₀ hb dX11_get_33 (lv_at hl 0 rfl) ?_
        refine lv_iload_n hx₀ hb dX11_get_35 rfl (lv_at hl 4 rfl) ?_
        obtain ⟨hPc, hDc, hFc, hC⟩ := k_cw (wc := [(kX8 s1 i1 (sLo 1) (sFo 1) (sSi 1)), (kAI i1 cI 60 gq1)]) hP hD hS hA [9, 2] (by decide +kernel) rfl
        refine va_calli (va_runV (As := [.int ix]) (rest := []) ⟨hx₀, hb, hml, hown, hts⟩ (j_item l dC dI cI cJ cQ H.size s1 ix i1 (sLo 1) (sFo 1) (sSi 1) gq1 (lf_j_lay_2 (sSi 1) fm (sLo 1) (sFo 1) ix hq1 c_24 c_33)) (cwV 1 hts (kGV wd_392 wd_389 wd_390 wd_391 wd_51) rfl rfl rfl (by decide +kernel) ⟨Nat.le_of_ble_eq_true rfl, Nat.le_of_ble_eq_true rfl⟩) (k_preV8 (q0 := 0) hK hPc hDc hN rfl) rfl rfl hl.1 rfl (lv_room (Nat.le_of_ble_eq_true rfl)) dX11_get_36 ⟨by decide +kernel, by decide +kernel⟩) hS (fun q _ h => hFc q h) hFc (fun r_35 u₀ t₀ H1 locs ht hvm hw hB hz1 hk1 hS => ?_)
        obtain ⟨hP1, hK1, hD1⟩ := hB
        rw [ht] at hP1
        have hJ := k_jn (wr := [(kX8 s0 i0 (sLo 0) (sFo 0) (sSi 0)), (kAI i0 cI 60 gq0), (kX8 s2 i2 (sLo 2) (sFo 2) (sSi 2)), (kAI i2 cI 60 gq2), (kX8 s3 i3 (sLo 3) (sFo 3) (sSi 3)), (kAI i3 cI 60 gq3), (kAQ vSh cQ 4 (fSh s0 s1 s2 s3)), (kX11 hx aLa aPa aGe aFl aTr aBe aLu aLo vSf vSm vCo vSh xs xl (g_26 0))]) (wt := [(kX8 s0 i0 (sLo 0) (sFo 0) (sSi 0)), (kAI i0 cI 60 gq0), (kX8 s2 i2 (sLo 2) (sFo 2) (sSi 2)), (kAI i2 cI 60 gq2), (kX8 s3 i3 (sLo 3) (sFo 3) (sSi 3)), (kAI i3 cI 60 gq3), (kAQ vSh cQ 4 (fSh s0 s1 s2 s3)), (kX11 hx aLa aPa aGe aFl aTr aBe aLu aLo vSf vSm vCo vSh xs xl (g_26 0)), (kX8 s1 i1 (sLo 1) (sFo 1) (sSi 1)), (kAI i1 cI 60 gq1)]) hP hD hC [0, 1, 3, 4, 5, 6, 7, 8] rfl (by decide +kernel) (by decide +kernel) hk1 hFc hP1 hD1 rfl
        clear hP hD hPc hDc hFc hC hP1 hD1 hK1 hz1 hk1 hvm ht
        obtain ⟨hP, hD⟩ := hJ
        generalize H1 = H at hP hS ⊢
        try dsimp only at hw
        have c_36 := hw
        obtain ⟨hP9, hD9⟩ := k_c2 (wc := [(kX11 hx aLa aPa aGe aFl aTr aBe aLu aLo vSf vSm vCo vSh xs xl (g_26 0)), (kAQ vSh cQ 4 (fSh s0 s1 s2 s3)), (kX8 s0 i0 (sLo 0) (sFo 0) (sSi 0)), (kAI i0 cI 60 gq0), (kX8 s1 i1 (sLo 1) (sFo 1) (sSi 1)), (kAI i1 cI 60 gq1), (kX8 s2 i2 (sLo 2) (sFo 2) (sSi 2)), (kAI i2 cI 60 gq2), (kX8 s3 i3 (sLo 3) (sFo 3) (sSi 3)), (kAI i3 cI 60 gq3)]) hP hD [7, 6, 0, 1, 8, 9, 2, 3, 4, 5] (by decide +kernel) rfl
        exact W.iret (v := r_35) hx₀ hb hr (fun t₀ ht hW => ⟨⟨r_35, (k_fn [(g_26 0)], k_fa [], k_fl [], k_fL [], k_fp []), rfl, ⟨(c_36.trans ((show kIm (sSi 1) gq1 ix = gq1 ix.toNatClampNeg from if_pos (show 0 ≤ ix ∧ ix < (sSi 1) from ⟨c_33.2.2.1, c_33.2.2.2⟩)).trans (if_pos (show 0 ≤ (1 : Int32) ∧ (1 : Int32) ≤ 3 ∧ 0 ≤ fm ∧ fm ≤ 2 ∧ sLo (1 : Int32).toNatClampNeg = 0 ∧ sFo (1 : Int32).toNatClampNeg = fm ∧ 0 ≤ ix ∧ ix < sSi (1 : Int32).toNatClampNeg from ⟨(by decide), (by decide), c_24.1, c_24.2, c_33.1, c_33.2.1, c_33.2.2.1, c_33.2.2.2⟩)).symm)), ((c_32.trans (congrArg (fun z => kFd z xf) c_31)).trans (if_pos (show 0 ≤ (1 : Int32) ∧ (1 : Int32) ≤ 3 ∧ 0 ≤ fm ∧ fm ≤ 2 from ⟨(by decide), (by decide), c_24.1, c_24.2⟩)).symm)⟩, by rw [ht]; exact hP9, va_K.moved hW.alike hK, hD9⟩, hS.F ht⟩) hS.2.2 dX11_get_39
      rw [if_neg c_33] at hw
      by_cases c_37 : (sLo 1) = 0 ∧ (sFo 1) = fm
      · rw [if_pos c_37] at hw
        have c_38 := hw
        refine k_topi (v := (-12)) hw ?_
        refine lv_if_eq (tgt := 33) hx₀ hb dX11_get_27 (by decide) (fun c9 => absurd c9 (by decide +kernel)) (fun _ => ?_)
        refine lv_ldc (v := (-2147483648)) hx₀ hb hown (hts (.constant RX11 244 (-2147483648)) wd_916) dX11_get_30 ?_
        obtain ⟨hP9, hD9⟩ := k_c2 (wc := [(kX11 hx aLa aPa aGe aFl aTr aBe aLu aLo vSf vSm vCo vSh xs xl (g_26 0)), (kAQ vSh cQ 4 (fSh s0 s1 s2 s3)), (kX8 s0 i0 (sLo 0) (sFo 0) (sSi 0)), (kAI i0 cI 60 gq0), (kX8 s1 i1 (sLo 1) (sFo 1) (sSi 1)), (kAI i1 cI 60 gq1), (kX8 s2 i2 (sLo 2) (sFo 2) (sSi 2)), (kAI i2 cI 60 gq2), (kX8 s3 i3 (sLo 3) (sFo 3) (sSi 3)), (kAI i3 cI 60 gq3)]) hP hD [8, 7, 0, 1, 9, 2, 3, 4, 5, 6] (by decide +kernel) rfl
        exact W.iret (v := (-2147483648)) hx₀ hb hr (fun t₀ ht hW => ⟨⟨(-2147483648), (k_fn [(g_26 0)], k_fa [], k_fl [], k_fL [], k_fp []), rfl, ⟨(if_neg (show ¬ (0 ≤ (1 : Int32) ∧ (1 : Int32) ≤ 3 ∧ 0 ≤ fm ∧ fm ≤ 2 ∧ sLo (1 : Int32).toNatClampNeg = 0 ∧ sFo (1 : Int32).toNatClampNeg = fm ∧ 0 ≤ ix ∧ ix < sSi (1 : Int32).toNatClampNeg) from (fun z => c_33 (And.intro z.2.2.2.2.1 (And.intro z.2.2.2.2.2.1 (And.intro z.2.2.2.2.2.2.1 z.2.2.2.2.2.2.2)))))).symm, ((c_32.trans (congrArg (fun z => kFd z xf) c_31)).trans (if_pos (show 0 ≤ (1 : Int32) ∧ (1 : Int32) ≤ 3 ∧ 0 ≤ fm ∧ fm ≤ 2 from ⟨(by decide), (by decide), c_24.1, c_24.2⟩)).symm)⟩, by rw [ht]; exact hP9, va_K.moved hW.alike hK, hD9⟩, hS.F ht⟩) hS.2.2 dX11_get_32
      rw [if_neg c_37] at hw
      by_cases c_39 : (sLo 1) = 0
      · rw [if_pos c_39] at hw
        have c_40 := hw
        refine k_topi (v := (-13)) hw ?_
        refine lv_if_eq (tgt := 33) hx₀ hb dX11_get_27 (by decide) (fun c9 => absurd c9 (by decide +kernel)) (fun _ => ?_)
        refine lv_ldc (v := (-2147483648)) hx₀ hb hown (hts (.constant RX11 244 (-2147483648)) wd_916) dX11_get_30 ?_
        obtain ⟨hP9, hD9⟩ := k_c2 (wc := [(kX11 hx aLa aPa aGe aFl aTr aBe aLu aLo vSf vSm vCo vSh xs xl (g_26 0)), (kAQ vSh cQ 4 (fSh s0 s1 s2 s3)), (kX8 s0 i0 (sLo 0) (sFo 0) (sSi 0)), (kAI i0 cI 60 gq0), (kX8 s1 i1 (sLo 1) (sFo 1) (sSi 1)), (kAI i1 cI 60 gq1), (kX8 s2 i2 (sLo 2) (sFo 2) (sSi 2)), (kAI i2 cI 60 gq2), (kX8 s3 i3 (sLo 3) (sFo 3) (sSi 3)), (kAI i3 cI 60 gq3)]) hP hD [8, 7, 0, 1, 9, 2, 3, 4, 5, 6] (by decide +kernel) rfl
        exact W.iret (v := (-2147483648)) hx₀ hb hr (fun t₀ ht hW => ⟨⟨(-2147483648), (k_fn [(g_26 0)], k_fa [], k_fl [], k_fL [], k_fp []), rfl, ⟨(if_neg (show ¬ (0 ≤ (1 : Int32) ∧ (1 : Int32) ≤ 3 ∧ 0 ≤ fm ∧ fm ≤ 2 ∧ sLo (1 : Int32).toNatClampNeg = 0 ∧ sFo (1 : Int32).toNatClampNeg = fm ∧ 0 ≤ ix ∧ ix < sSi (1 : Int32).toNatClampNeg) from (fun z => c_33 (And.intro z.2.2.2.2.1 (And.intro z.2.2.2.2.2.1 (And.intro z.2.2.2.2.2.2.1 z.2.2.2.2.2.2.2)))))).symm, ((c_32.trans (congrArg (fun z => kFd z xf) c_31)).trans (if_pos (show 0 ≤ (1 : Int32) ∧ (1 : Int32) ≤ 3 ∧ 0 ≤ fm ∧ fm ≤ 2 from ⟨(by decide), (by decide), c_24.1, c_24.2⟩)).symm)⟩, by rw [ht]; exact hP9, va_K.moved hW.alike hK, hD9⟩, hS.F ht⟩) hS.2.2 dX11_get_32
      rw [if_neg c_39] at hw
      have c_41 := hw
      refine k_topi (v := (-11)) hw ?_
      refine lv_if_eq (tgt := 33) hx₀ hb dX11_get_27 (by decide) (fun c9 => absurd c9 (by decide +kernel)) (fun _ => ?_)
      refine lv_ldc (v := (-2147483648)) hx₀ hb hown (hts (.constant RX11 244 (-2147483648)) wd_916) dX11_get_30 ?_
      obtain ⟨hP9, hD9⟩ := k_c2 (wc := [(kX11 hx aLa aPa aGe aFl aTr aBe aLu aLo vSf vSm vCo vSh xs xl (g_26 0)), (kAQ vSh cQ 4 (fSh s0 s1 s2 s3)), (kX8 s0 i0 (sLo 0) (sFo 0) (sSi 0)), (kAI i0 cI 60 gq0), (kX8 s1 i1 (sLo 1) (sFo 1) (sSi 1)), (kAI i1 cI 60 gq1), (kX8 s2 i2 (sLo 2) (sFo 2) (sSi 2)), (kAI i2 cI 60 gq2), (kX8 s3 i3 (sLo 3) (sFo 3) (sSi 3)), (kAI i3 cI 60 gq3)]) hP hD [8, 7, 0, 1, 9, 2, 3, 4, 5, 6] (by decide +kernel) rfl
      exact W.iret (v := (-2147483648)) hx₀ hb hr (fun t₀ ht hW => ⟨⟨(-2147483648), (k_fn [(g_26 0)], k_fa [], k_fl [], k_fL [], k_fp []), rfl, ⟨(if_neg (show ¬ (0 ≤ (1 : Int32) ∧ (1 : Int32) ≤ 3 ∧ 0 ≤ fm ∧ fm ≤ 2 ∧ sLo (1 : Int32).toNatClampNeg = 0 ∧ sFo (1 : Int32).toNatClampNeg = fm ∧ 0 ≤ ix ∧ ix < sSi (1 : Int32).toNatClampNeg) from (fun z => c_39 z.2.2.2.2.1))).symm, ((c_32.trans (congrArg (fun z => kFd z xf) c_31)).trans (if_pos (show 0 ≤ (1 : Int32) ∧ (1 : Int32) ≤ 3 ∧ 0 ≤ fm ∧ fm ≤ 2 from ⟨(by decide), (by decide), c_24.1, c_24.2⟩)).symm)⟩, by rw [ht]; exact hP9, va_K.moved hW.alike hK, hD9⟩, hS.F ht⟩) hS.2.2 dX11_get_32
    rw [if_neg c_24] at hw
    refine k_topi (v := 0) hw ?_
    refine lv_if_eq (tgt := 30) hx₀ hb dX11_get_16 (by decide) (fun _ => ?_) (fun c9 => absurd (by decide +kernel) c9)
    refine lv_ldc (v := (-2147483648)) hx₀ hb hown (hts (.constant RX11 244 (-2147483648)) wd_916) dX11_get_30 ?_
    obtain ⟨hP9, hD9⟩ := k_c2 (wc := [(kX11 hx aLa aPa aGe aFl aTr aBe aLu aLo vSf vSm vCo vSh xs xl xf), (kAQ vSh cQ 4 (fSh s0 s1 s2 s3)), (kX8 s0 i0 (sLo 0) (sFo 0) (sSi 0)), (kAI i0 cI 60 gq0), (kX8 s1 i1 (sLo 1) (sFo 1) (sSi 1)), (kAI i1 cI 60 gq1), (kX8 s2 i2 (sLo 2) (sFo 2) (sSi 2)), (kAI i2 cI 60 gq2), (kX8 s3 i3 (sLo 3) (sFo 3) (sSi 3)), (kAI i3 cI 60 gq3)]) hP hD [8, 9, 0, 1, 2, 3, 4, 5, 6, 7] (by decide +kernel) rfl
    exact W.iret (v := (-2147483648)) hx₀ hb hr (fun t₀ ht hW => ⟨⟨(-2147483648), (k_fn [xf], k_fa [], k_fl [], k_fL [], k_fp []), rfl, ⟨(if_neg (show ¬ (0 ≤ (1 : Int32) ∧ (1 : Int32) ≤ 3 ∧ 0 ≤ fm ∧ fm ≤ 2 ∧ sLo (1 : Int32).toNatClampNeg = 0 ∧ sFo (1 : Int32).toNatClampNeg = fm ∧ 0 ≤ ix ∧ ix < sSi (1 : Int32).toNatClampNeg) from (fun z => c_24 (And.intro z.2.2.1 z.2.2.2.1)))).symm, (if_neg (show ¬ (0 ≤ (1 : Int32) ∧ (1 : Int32) ≤ 3 ∧ 0 ≤ fm ∧ fm ≤ 2) from (fun z => c_24 (And.intro z.2.2.1 z.2.2.2)))).symm⟩, by rw [ht]; exact hP9, va_K.moved hW.alike hK, hD9⟩, hS.F ht⟩) hS.2.2 dX11_get_32
  rw [if_neg c_22] at hw
  by_cases c_42 : ss = 2
  · rw [if_pos c_42] at hw
    subst hw
    refine W.eq (g2 := F0 m₀ 5 ls [.ref s2]) rfl ?_
    subst c_42
    refine lv_astore (lv' := [(4, .ref s2), (0, .ref hx), (1, .int 2), (2, .int fm), (3, .int ix)]) hx₀ hb dX11_get_5 hl (by decide) rfl (fun ls hl => ?_)
    refine lv_aload hx₀ hb dX11_get_7 (lv_at hl 0 rfl) ?_
    refine lv_ifnull hx₀ hb dX11_get_9 ?_
    refine lv_iload_n hx₀ hb dX11_get_12 rfl (lv_at hl 3 rfl) ?_
    obtain ⟨hPc, hDc, hFc, hC⟩ := k_cw (wc := []) hP hD hS hA [] (by decide +kernel) rfl
    refine va_calli (va_runS (As := [.int fm]) (rest := []) ⟨hx₀, hb, hml, hown, hts⟩ (j_isForm l dC dI cI cJ cQ H.size fm) (va_cwS 1 hts (kGS wd_864 wd_862 wd_863 wd_2) rfl rfl rfl (by decide +kernel) ⟨Nat.le_of_ble_eq_true rfl, Nat.le_of_ble_eq_true rfl⟩) (k_preS hK hPc hDc hN) rfl rfl hl.1 rfl (lv_room (Nat.le_of_ble_eq_true rfl)) dX11_get_13 ⟨by decide +kernel, by decide +kernel⟩) hS (fun q _ h => hFc q h) hFc (fun r_43 u₀ t₀ H1 locs ht hvm hw hB hz1 hk1 hS => ?_)
    obtain ⟨hP1, hK1, hD1⟩ := hB
    rw [ht] at hP1
    have hJ := k_jn (wr := [(kX8 s0 i0 (sLo 0) (sFo 0) (sSi 0)), (kAI i0 cI 60 gq0), (kX8 s1 i1 (sLo 1) (sFo 1) (sSi 1)), (kAI i1 cI 60 gq1), (kX8 s2 i2 (sLo 2) (sFo 2) (sSi 2)), (kAI i2 cI 60 gq2), (kX8 s3 i3 (sLo 3) (sFo 3) (sSi 3)), (kAI i3 cI 60 gq3), (kX11 hx aLa aPa aGe aFl aTr aBe aLu aLo vSf vSm vCo vSh xs xl xf), (kAQ vSh cQ 4 (fSh s0 s1 s2 s3))]) (wt := [(kX8 s0 i0 (sLo 0) (sFo 0) (sSi 0)), (kAI i0 cI 60 gq0), (kX8 s1 i1 (sLo 1) (sFo 1) (sSi 1)), (kAI i1 cI 60 gq1), (kX8 s2 i2 (sLo 2) (sFo 2) (sSi 2)), (kAI i2 cI 60 gq2), (kX8 s3 i3 (sLo 3) (sFo 3) (sSi 3)), (kAI i3 cI 60 gq3), (kX11 hx aLa aPa aGe aFl aTr aBe aLu aLo vSf vSm vCo vSh xs xl xf), (kAQ vSh cQ 4 (fSh s0 s1 s2 s3))]) hP hD hC [0, 1, 2, 3, 4, 5, 6, 7, 8, 9] rfl (by decide +kernel) (by decide +kernel) hk1 hFc hP1 hD1 rfl
    clear hP hD hPc hDc hFc hC hP1 hD1 hK1 hz1 hk1 hvm ht
    obtain ⟨hP, hD⟩ := hJ
    generalize H1 = H at hP hS ⊢
    try dsimp only at hw
    by_cases c_44 : 0 ≤ fm ∧ fm ≤ 2
    · rw [if_pos c_44] at hw
      refine k_topi (v := 1) hw ?_
      refine lv_if_eq (tgt := 30) hx₀ hb dX11_get_16 (by decide) (fun c9 => absurd c9 (by decide +kernel)) (fun _ => ?_)
      refine lv_aload_n hx₀ hb dX11_get_19 rfl (lv_at hl 1 rfl) ?_
      refine lv_aload hx₀ hb dX11_get_20 (lv_at hl 0 rfl) ?_
      refine lv_iload_n hx₀ hb dX11_get_22 rfl (lv_at hl 3 rfl) ?_
      refine lv_iload_n hx₀ hb dX11_get_23 rfl (lv_at hl 4 rfl) ?_
      obtain ⟨hPc, hDc, hFc, hC⟩ := k_cw (wc := [(kX11 hx aLa aPa aGe aFl aTr aBe aLu aLo vSf vSm vCo vSh xs xl xf), (kX8 s2 i2 (sLo 2) (sFo 2) (sSi 2))]) hP hD hS hA [8, 4] (by decide +kernel) rfl
      refine va_calli (va_runV (As := [.ref s2, .int fm, .int ix]) (rest := []) ⟨hx₀, hb, hml, hown, hts⟩ (j_refuse l dC dI cI cJ cQ H.size hx s2 fm ix aLa aPa aGe aFl aTr aBe aLu aLo vSf vSm vCo vSh xs xl xf i2 (sLo 2) (sFo 2) (sSi 2) (lf_j_lay_1 (sSi 2) hq2)) (cwV 3 hts (kGV wd_891 wd_888 wd_889 wd_890 wd_2) rfl rfl rfl (by decide +kernel) ⟨Nat.le_of_ble_eq_true rfl, Nat.le_of_ble_eq_true rfl⟩) (k_preV10 (q0 := 0) hK hPc hDc hN rfl) rfl rfl hl.1 rfl (lv_room (Nat.le_of_ble_eq_true rfl)) dX11_get_24 ⟨by decide +kernel, by decide +kernel⟩) hS (fun q _ h => hFc q h) hFc (fun r_45 u₀ t₀ H1 locs ht hvm hw hB hz1 hk1 hS => ?_)
      obtain ⟨g_46, ga_47, gl_48, gb_49, gp_50⟩ := u₀
      obtain ⟨hP1, hK1, hD1⟩ := hB
      rw [ht] at hP1
      have hJ := k_jn (wr := [(kX8 s0 i0 (sLo 0) (sFo 0) (sSi 0)), (kAI i0 cI 60 gq0), (kX8 s1 i1 (sLo 1) (sFo 1) (sSi 1)), (kAI i1 cI 60 gq1), (kAI i2 cI 60 gq2), (kX8 s3 i3 (sLo 3) (sFo 3) (sSi 3)), (kAI i3 cI 60 gq3), (kAQ vSh cQ 4 (fSh s0 s1 s2 s3))]) (wt := [(kX8 s0 i0 (sLo 0) (sFo 0) (sSi 0)), (kAI i0 cI 60 gq0), (kX8 s1 i1 (sLo 1) (sFo 1) (sSi 1)), (kAI i1 cI 60 gq1), (kAI i2 cI 60 gq2), (kX8 s3 i3 (sLo 3) (sFo 3) (sSi 3)), (kAI i3 cI 60 gq3), (kAQ vSh cQ 4 (fSh s0 s1 s2 s3)), (kX11 hx aLa aPa aGe aFl aTr aBe aLu aLo vSf vSm vCo vSh xs xl (g_46 0)), (kX8 s2 i2 (sLo 2) (sFo 2) (sSi 2))]) hP hD hC [0, 1, 2, 3, 5, 6, 7, 9] rfl (by decide +kernel) (by decide +kernel) hk1 hFc hP1 hD1 rfl
      clear hP hD hPc hDc hFc hC hP1 hD1 hK1 hz1 hk1 hvm ht
      obtain ⟨hP, hD⟩ := hJ
      generalize H1 = H at hP hS ⊢
      try dsimp only at hw
      obtain ⟨c_51, c_52⟩ := hw
      have hw := c_51
      by_cases c_53 : (sLo 2) = 0 ∧ (sFo 2) = fm ∧ 0 ≤ ix ∧ ix < (sSi 2)
      · rw [if_pos c_53] at hw
        have c_54 := hw
        refine k_topi (v := 0) hw ?_
        refine lv_if_eq (tgt := 33) hx₀ hb dX11_get_27 (by decide) (fun _ => ?_) (fun c9 => absurd (by decide +kernel) c9)
        refine lv_aload hx₀ hb dX11_get_33 (lv_at hl 0 rfl) ?_
        refine lv_iload_n hx₀ hb dX11_get_35 rfl (lv_at hl 4 rfl) ?_
        obtain ⟨hPc, hDc, hFc, hC⟩ := k_cw (wc := [(kX8 s2 i2 (sLo 2) (sFo 2) (sSi 2)), (kAI i2 cI 60 gq2)]) hP hD hS hA [9, 4] (by decide +kernel) rfl
        refine va_calli (va_runV (As := [.int ix]) (rest := []) ⟨hx₀, hb, hml, hown, hts⟩ (j_item l dC dI cI cJ cQ H.size s2 ix i2 (sLo 2) (sFo 2) (sSi 2) gq2 (lf_j_lay_2 (sSi 2) fm (sLo 2) (sFo 2) ix hq2 c_44 c_53)) (cwV 1 hts (kGV wd_392 wd_389 wd_390 wd_391 wd_51) rfl rfl rfl (by decide +kernel) ⟨Nat.le_of_ble_eq_true rfl, Nat.le_of_ble_eq_true rfl⟩) (k_preV8 (q0 := 0) hK hPc hDc hN rfl) rfl rfl hl.1 rfl (lv_room (Nat.le_of_ble_eq_true rfl)) dX11_get_36 ⟨by decide +kernel, by decide +kernel⟩) hS (fun q _ h => hFc q h) hFc (fun r_55 u₀ t₀ H1 locs ht hvm hw hB hz1 hk1 hS => ?_)
        obtain ⟨hP1, hK1, hD1⟩ := hB
        rw [ht] at hP1
        have hJ := k_jn (wr := [(kX8 s0 i0 (sLo 0) (sFo 0) (sSi 0)), (kAI i0 cI 60 gq0), (kX8 s1 i1 (sLo 1) (sFo 1) (sSi 1)), (kAI i1 cI 60 gq1), (kX8 s3 i3 (sLo 3) (sFo 3) (sSi 3)), (kAI i3 cI 60 gq3), (kAQ vSh cQ 4 (fSh s0 s1 s2 s3)), (kX11 hx aLa aPa aGe aFl aTr aBe aLu aLo vSf vSm vCo vSh xs xl (g_46 0))]) (wt := [(kX8 s0 i0 (sLo 0) (sFo 0) (sSi 0)), (kAI i0 cI 60 gq0), (kX8 s1 i1 (sLo 1) (sFo 1) (sSi 1)), (kAI i1 cI 60 gq1), (kX8 s3 i3 (sLo 3) (sFo 3) (sSi 3)), (kAI i3 cI 60 gq3), (kAQ vSh cQ 4 (fSh s0 s1 s2 s3)), (kX11 hx aLa aPa aGe aFl aTr aBe aLu aLo vSf vSm vCo vSh xs xl (g_46 0)), (kX8 s2 i2 (sLo 2) (sFo 2) (sSi 2)), (kAI i2 cI 60 gq2)]) hP hD hC [0, 1, 2, 3, 5, 6, 7, 8] rfl (by decide +kernel) (by decide +kernel) hk1 hFc hP1 hD1 rfl
        clear hP hD hPc hDc hFc hC hP1 hD1 hK1 hz1 hk1 hvm ht
        obtain ⟨hP, hD⟩ := hJ
        generalize H1 = H at hP hS ⊢
        try dsimp only at hw
        have c_56 := hw
        obtain ⟨hP9, hD9⟩ := k_c2 (wc := [(kX11 hx aLa aPa aGe aFl aTr aBe aLu aLo vSf vSm vCo vSh xs xl (g_46 0)), (kAQ vSh cQ 4 (fSh s0 s1 s2 s3)), (kX8 s0 i0 (sLo 0) (sFo 0) (sSi 0)), (kAI i0 cI 60 gq0), (kX8 s1 i1 (sLo 1) (sFo 1) (sSi 1)), (kAI i1 cI 60 gq1), (kX8 s2 i2 (sLo 2) (sFo 2) (sSi 2)), (kAI i2 cI 60 gq2), (kX8 s3 i3 (sLo 3) (sFo 3) (sSi 3)), (kAI i3 cI 60 gq3)]) hP hD [7, 6, 0, 1, 2, 3, 8, 9, 4, 5] (by decide +kernel) rfl
        exact W.iret (v := r_55) hx₀ hb hr (fun t₀ ht hW => ⟨⟨r_55, (k_fn [(g_46 0)], k_fa [], k_fl [], k_fL [], k_fp []), rfl, ⟨(c_56.trans ((show kIm (sSi 2) gq2 ix = gq2 ix.toNatClampNeg from if_pos (show 0 ≤ ix ∧ ix < (sSi 2) from ⟨c_53.2.2.1, c_53.2.2.2⟩)).trans (if_pos (show 0 ≤ (2 : Int32) ∧ (2 : Int32) ≤ 3 ∧ 0 ≤ fm ∧ fm ≤ 2 ∧ sLo (2 : Int32).toNatClampNeg = 0 ∧ sFo (2 : Int32).toNatClampNeg = fm ∧ 0 ≤ ix ∧ ix < sSi (2 : Int32).toNatClampNeg from ⟨(by decide), (by decide), c_44.1, c_44.2, c_53.1, c_53.2.1, c_53.2.2.1, c_53.2.2.2⟩)).symm)), ((c_52.trans (congrArg (fun z => kFd z xf) c_51)).trans (if_pos (show 0 ≤ (2 : Int32) ∧ (2 : Int32) ≤ 3 ∧ 0 ≤ fm ∧ fm ≤ 2 from ⟨(by decide), (by decide), c_44.1, c_44.2⟩)).symm)⟩, by rw [ht]; exact hP9, va_K.moved hW.alike hK, hD9⟩, hS.F ht⟩) hS.2.2 dX11_get_39
      rw [if_neg c_53] at hw
      by_cases c_57 : (sLo 2) = 0 ∧ (sFo 2) = fm
      · rw [if_pos c_57] at hw
        have c_58 := hw
        refine k_topi (v := (-12)) hw ?_
        refine lv_if_eq (tgt := 33) hx₀ hb dX11_get_27 (by decide) (fun c9 => absurd c9 (by decide +kernel)) (fun _ => ?_)
        refine lv_ldc (v := (-2147483648)) hx₀ hb hown (hts (.constant RX11 244 (-2147483648)) wd_916) dX11_get_30 ?_
        obtain ⟨hP9, hD9⟩ := k_c2 (wc := [(kX11 hx aLa aPa aGe aFl aTr aBe aLu aLo vSf vSm vCo vSh xs xl (g_46 0)), (kAQ vSh cQ 4 (fSh s0 s1 s2 s3)), (kX8 s0 i0 (sLo 0) (sFo 0) (sSi 0)), (kAI i0 cI 60 gq0), (kX8 s1 i1 (sLo 1) (sFo 1) (sSi 1)), (kAI i1 cI 60 gq1), (kX8 s2 i2 (sLo 2) (sFo 2) (sSi 2)), (kAI i2 cI 60 gq2), (kX8 s3 i3 (sLo 3) (sFo 3) (sSi 3)), (kAI i3 cI 60 gq3)]) hP hD [8, 7, 0, 1, 2, 3, 9, 4, 5, 6] (by decide +kernel) rfl
        exact W.iret (v := (-2147483648)) hx₀ hb hr (fun t₀ ht hW => ⟨⟨(-2147483648), (k_fn [(g_46 0)], k_fa [], k_fl [], k_fL [], k_fp []), rfl, ⟨(if_neg (show ¬ (0 ≤ (2 : Int32) ∧ (2 : Int32) ≤ 3 ∧ 0 ≤ fm ∧ fm ≤ 2 ∧ sLo (2 : Int32).toNatClampNeg = 0 ∧ sFo (2 : Int32).toNatClampNeg = fm ∧ 0 ≤ ix ∧ ix < sSi (2 : Int32).toNatClampNeg) from (fun z => c_53 (And.intro z.2.2.2.2.1 (And.intro z.2.2.2.2.2.1 (And.intro z.2.2.2.2.2.2.1 z.2.2.2.2.2.2.2)))))).symm, ((c_52.trans (congrArg (fun z => kFd z xf) c_51)).trans (if_pos (show 0 ≤ (2 : Int32) ∧ (2 : Int32) ≤ 3 ∧ 0 ≤ fm ∧ fm ≤ 2 from ⟨(by decide), (by decide), c_44.1, c_44.2⟩)).symm)⟩, by rw [ht]; exact hP9, va_K.moved hW.alike hK, hD9⟩, hS.F ht⟩) hS.2.2 dX11_get_32
      rw [if_neg c_57] at hw
      by_cases c_59 : (sLo 2) = 0
      · rw [if_pos c_59] at hw
        have c_60 := hw
        refine k_topi (v := (-13)) hw ?_
        refine lv_if_eq (tgt := 33) hx₀ hb dX11_get_27 (by decide) (fun c9 => absurd c9 (by decide +kernel)) (fun _ => ?_)
        refine lv_ldc (v := (-2147483648)) hx₀ hb hown (hts (.constant RX11 244 (-2147483648)) wd_916) dX11_get_30 ?_
        obtain ⟨hP9, hD9⟩ := k_c2 (wc := [(kX11 hx aLa aPa aGe aFl aTr aBe aLu aLo vSf vSm vCo vSh xs xl (g_46 0)), (kAQ vSh cQ 4 (fSh s0 s1 s2 s3)), (kX8 s0 i0 (sLo 0) (sFo 0) (sSi 0)), (kAI i0 cI 60 gq0), (kX8 s1 i1 (sLo 1) (sFo 1) (sSi 1)), (kAI i1 cI 60 gq1), (kX8 s2 i2 (sLo 2) (sFo 2) (sSi 2)), (kAI i2 cI 60 gq2), (kX8 s3 i3 (sLo 3) (sFo 3) (sSi 3)), (kAI i3 cI 60 gq3)]) hP hD [8, 7, 0, 1, 2, 3, 9, 4, 5, 6] (by decide +kernel) rfl
        exact W.iret (v := (-2147483648)) hx₀ hb hr (fun t₀ ht hW => ⟨⟨(-2147483648), (k_fn [(g_46 0)], k_fa [], k_fl [], k_fL [], k_fp []), rfl, ⟨(if_neg (show ¬ (0 ≤ (2 : Int32) ∧ (2 : Int32) ≤ 3 ∧ 0 ≤ fm ∧ fm ≤ 2 ∧ sLo (2 : Int32).toNatClampNeg = 0 ∧ sFo (2 : Int32).toNatClampNeg = fm ∧ 0 ≤ ix ∧ ix < sSi (2 : Int32).toNatClampNeg) from (fun z => c_53 (And.intro z.2.2.2.2.1 (And.intro z.2.2.2.2.2.1 (And.intro z.2.2.2.2.2.2.1 z.2.2.2.2.2.2.2)))))).symm, ((c_52.trans (congrArg (fun z => kFd z xf) c_51)).trans (if_pos (show 0 ≤ (2 : Int32) ∧ (2 : Int32) ≤ 3 ∧ 0 ≤ fm ∧ fm ≤ 2 from ⟨(by decide), (by decide), c_44.1, c_44.2⟩)).symm)⟩, by rw [ht]; exact hP9, va_K.moved hW.alike hK, hD9⟩, hS.F ht⟩) hS.2.2 dX11_get_32
      rw [if_neg c_59] at hw
      have c_61 := hw
      refine k_topi (v := (-11)) hw ?_
      refine lv_if_eq (tgt := 33) hx₀ hb dX11_get_27 (by decide) (fun c9 => absurd c9 (by decide +kernel)) (fun _ => ?_)
      refine lv_ldc (v := (-2147483648)) hx₀ hb hown (hts (.constant RX11 244 (-2147483648)) wd_916) dX11_get_30 ?_
      obtain ⟨hP9, hD9⟩ := k_c2 (wc := [(kX11 hx aLa aPa aGe aFl aTr aBe aLu aLo vSf vSm vCo vSh xs xl (g_46 0)), (kAQ vSh cQ 4 (fSh s0 s1 s2 s3)), (kX8 s0 i0 (sLo 0) (sFo 0) (sSi 0)), (kAI i0 cI 60 gq0), (kX8 s1 i1 (sLo 1) (sFo 1) (sSi 1)), (kAI i1 cI 60 gq1), (kX8 s2 i2 (sLo 2) (sFo 2) (sSi 2)), (kAI i2 cI 60 gq2), (kX8 s3 i3 (sLo 3) (sFo 3) (sSi 3)), (kAI i3 cI 60 gq3)]) hP hD [8, 7, 0, 1, 2, 3, 9, 4, 5, 6] (by decide +kernel) rfl
      exact W.iret (v := (-2147483648)) hx₀ hb hr (fun t₀ ht hW => ⟨⟨(-2147483648), (k_fn [(g_46 0)], k_fa [], k_fl [], k_fL [], k_fp []), rfl, ⟨(if_neg (show ¬ (0 ≤ (2 : Int32) ∧ (2 : Int32) ≤ 3 ∧ 0 ≤ fm ∧ fm ≤ 2 ∧ sLo (2 : Int32).toNatClampNeg = 0 ∧ sFo (2 : Int32).toNatClampNeg = fm ∧ 0 ≤ ix ∧ ix < sSi (2 : Int32).toNatClampNeg) from (fun z => c_59 z.2.2.2.2.1))).symm, ((c_52.trans (congrArg (fun z => kFd z xf) c_51)).trans (if_pos (show 0 ≤ (2 : Int32) ∧ (2 : Int32) ≤ 3 ∧ 0 ≤ fm ∧ fm ≤ 2 from ⟨(by decide), (by decide), c_44.1, c_44.2⟩)).symm)⟩, by rw [ht]; exact hP9, va_K.moved hW.alike hK, hD9⟩, hS.F ht⟩) hS.2.2 dX11_get_32
    rw [if_neg c_44] at hw
    refine k_topi (v := 0) hw ?_
    refine lv_if_eq (tgt := 30) hx₀ hb dX11_get_16 (by decide) (fun _ => ?_) (fun c9 => absurd (by decide +kernel) c9)
    refine lv_ldc (v := (-2147483648)) hx₀ hb hown (hts (.constant RX11 244 (-2147483648)) wd_916) dX11_get_30 ?_
    obtain ⟨hP9, hD9⟩ := k_c2 (wc := [(kX11 hx aLa aPa aGe aFl aTr aBe aLu aLo vSf vSm vCo vSh xs xl xf), (kAQ vSh cQ 4 (fSh s0 s1 s2 s3)), (kX8 s0 i0 (sLo 0) (sFo 0) (sSi 0)), (kAI i0 cI 60 gq0), (kX8 s1 i1 (sLo 1) (sFo 1) (sSi 1)), (kAI i1 cI 60 gq1), (kX8 s2 i2 (sLo 2) (sFo 2) (sSi 2)), (kAI i2 cI 60 gq2), (kX8 s3 i3 (sLo 3) (sFo 3) (sSi 3)), (kAI i3 cI 60 gq3)]) hP hD [8, 9, 0, 1, 2, 3, 4, 5, 6, 7] (by decide +kernel) rfl
    exact W.iret (v := (-2147483648)) hx₀ hb hr (fun t₀ ht hW => ⟨⟨(-2147483648), (k_fn [xf], k_fa [], k_fl [], k_fL [], k_fp []), rfl, ⟨(if_neg (show ¬ (0 ≤ (2 : Int32) ∧ (2 : Int32) ≤ 3 ∧ 0 ≤ fm ∧ fm ≤ 2 ∧ sLo (2 : Int32).toNatClampNeg = 0 ∧ sFo (2 : Int32).toNatClampNeg = fm ∧ 0 ≤ ix ∧ ix < sSi (2 : Int32).toNatClampNeg) from (fun z => c_44 (And.intro z.2.2.1 z.2.2.2.1)))).symm, (if_neg (show ¬ (0 ≤ (2 : Int32) ∧ (2 : Int32) ≤ 3 ∧ 0 ≤ fm ∧ fm ≤ 2) from (fun z => c_44 (And.intro z.2.2.1 z.2.2.2)))).symm⟩, by rw [ht]; exact hP9, va_K.moved hW.alike hK, hD9⟩, hS.F ht⟩) hS.2.2 dX11_get_32
  rw [if_neg c_42] at hw
  by_cases c_62 : ss = 3
  · rw [if_pos c_62] at hw
    subst hw
    refine W.eq (g2 := F0 m₀ 5 ls [.ref s3]) rfl ?_
    subst c_62
    refine lv_astore (lv' := [(4, .ref s3), (0, .ref hx), (1, .int 3), (2, .int fm), (3, .int ix)]) hx₀ hb dX11_get_5 hl (by decide) rfl (fun ls hl => ?_)
    refine lv_aload hx₀ hb dX11_get_7 (lv_at hl 0 rfl) ?_
    refine lv_ifnull hx₀ hb dX11_get_9 ?_
    refine lv_iload_n hx₀ hb dX11_get_12 rfl (lv_at hl 3 rfl) ?_
    obtain ⟨hPc, hDc, hFc, hC⟩ := k_cw (wc := []) hP hD hS hA [] (by decide +kernel) rfl
    refine va_calli (va_runS (As := [.int fm]) (rest := []) ⟨hx₀, hb, hml, hown, hts⟩ (j_isForm l dC dI cI cJ cQ H.size fm) (va_cwS 1 hts (kGS wd_864 wd_862 wd_863 wd_2) rfl rfl rfl (by decide +kernel) ⟨Nat.le_of_ble_eq_true rfl, Nat.le_of_ble_eq_true rfl⟩) (k_preS hK hPc hDc hN) rfl rfl hl.1 rfl (lv_room (Nat.le_of_ble_eq_true rfl)) dX11_get_13 ⟨by decide +kernel, by decide +kernel⟩) hS (fun q _ h => hFc q h) hFc (fun r_63 u₀ t₀ H1 locs ht hvm hw hB hz1 hk1 hS => ?_)
    obtain ⟨hP1, hK1, hD1⟩ := hB
    rw [ht] at hP1
    have hJ := k_jn (wr := [(kX8 s0 i0 (sLo 0) (sFo 0) (sSi 0)), (kAI i0 cI 60 gq0), (kX8 s1 i1 (sLo 1) (sFo 1) (sSi 1)), (kAI i1 cI 60 gq1), (kX8 s2 i2 (sLo 2) (sFo 2) (sSi 2)), (kAI i2 cI 60 gq2), (kX8 s3 i3 (sLo 3) (sFo 3) (sSi 3)), (kAI i3 cI 60 gq3), (kX11 hx aLa aPa aGe aFl aTr aBe aLu aLo vSf vSm vCo vSh xs xl xf), (kAQ vSh cQ 4 (fSh s0 s1 s2 s3))]) (wt := [(kX8 s0 i0 (sLo 0) (sFo 0) (sSi 0)), (kAI i0 cI 60 gq0), (kX8 s1 i1 (sLo 1) (sFo 1) (sSi 1)), (kAI i1 cI 60 gq1), (kX8 s2 i2 (sLo 2) (sFo 2) (sSi 2)), (kAI i2 cI 60 gq2), (kX8 s3 i3 (sLo 3) (sFo 3) (sSi 3)), (kAI i3 cI 60 gq3), (kX11 hx aLa aPa aGe aFl aTr aBe aLu aLo vSf vSm vCo vSh xs xl xf), (kAQ vSh cQ 4 (fSh s0 s1 s2 s3))]) hP hD hC [0, 1, 2, 3, 4, 5, 6, 7, 8, 9] rfl (by decide +kernel) (by decide +kernel) hk1 hFc hP1 hD1 rfl
    clear hP hD hPc hDc hFc hC hP1 hD1 hK1 hz1 hk1 hvm ht
    obtain ⟨hP, hD⟩ := hJ
    generalize H1 = H at hP hS ⊢
    try dsimp only at hw
    by_cases c_64 : 0 ≤ fm ∧ fm ≤ 2
    · rw [if_pos c_64] at hw
      refine k_topi (v := 1) hw ?_
      refine lv_if_eq (tgt := 30) hx₀ hb dX11_get_16 (by decide) (fun c9 => absurd c9 (by decide +kernel)) (fun _ => ?_)
      refine lv_aload_n hx₀ hb dX11_get_19 rfl (lv_at hl 1 rfl) ?_
      refine lv_aload hx₀ hb dX11_get_20 (lv_at hl 0 rfl) ?_
      refine lv_iload_n hx₀ hb dX11_get_22 rfl (lv_at hl 3 rfl) ?_
      refine lv_iload_n hx₀ hb dX11_get_23 rfl (lv_at hl 4 rfl) ?_
      obtain ⟨hPc, hDc, hFc, hC⟩ := k_cw (wc := [(kX11 hx aLa aPa aGe aFl aTr aBe aLu aLo vSf vSm vCo vSh xs xl xf), (kX8 s3 i3 (sLo 3) (sFo 3) (sSi 3))]) hP hD hS hA [8, 6] (by decide +kernel) rfl
      refine va_calli (va_runV (As := [.ref s3, .int fm, .int ix]) (rest := []) ⟨hx₀, hb, hml, hown, hts⟩ (j_refuse l dC dI cI cJ cQ H.size hx s3 fm ix aLa aPa aGe aFl aTr aBe aLu aLo vSf vSm vCo vSh xs xl xf i3 (sLo 3) (sFo 3) (sSi 3) (lf_j_lay_1 (sSi 3) hq3)) (cwV 3 hts (kGV wd_891 wd_888 wd_889 wd_890 wd_2) rfl rfl rfl (by decide +kernel) ⟨Nat.le_of_ble_eq_true rfl, Nat.le_of_ble_eq_true rfl⟩) (k_preV10 (q0 := 0) hK hPc hDc hN rfl) rfl rfl hl.1 rfl (lv_room (Nat.le_of_ble_eq_true rfl)) dX11_get_24 ⟨by decide +kernel, by decide +kernel⟩) hS (fun q _ h => hFc q h) hFc (fun r_65 u₀ t₀ H1 locs ht hvm hw hB hz1 hk1 hS => ?_)
      obtain ⟨g_66, ga_67, gl_68, gb_69, gp_70⟩ := u₀
      obtain ⟨hP1, hK1, hD1⟩ := hB
      rw [ht] at hP1
      have hJ := k_jn (wr := [(kX8 s0 i0 (sLo 0) (sFo 0) (sSi 0)), (kAI i0 cI 60 gq0), (kX8 s1 i1 (sLo 1) (sFo 1) (sSi 1)), (kAI i1 cI 60 gq1), (kX8 s2 i2 (sLo 2) (sFo 2) (sSi 2)), (kAI i2 cI 60 gq2), (kAI i3 cI 60 gq3), (kAQ vSh cQ 4 (fSh s0 s1 s2 s3))]) (wt := [(kX8 s0 i0 (sLo 0) (sFo 0) (sSi 0)), (kAI i0 cI 60 gq0), (kX8 s1 i1 (sLo 1) (sFo 1) (sSi 1)), (kAI i1 cI 60 gq1), (kX8 s2 i2 (sLo 2) (sFo 2) (sSi 2)), (kAI i2 cI 60 gq2), (kAI i3 cI 60 gq3), (kAQ vSh cQ 4 (fSh s0 s1 s2 s3)), (kX11 hx aLa aPa aGe aFl aTr aBe aLu aLo vSf vSm vCo vSh xs xl (g_66 0)), (kX8 s3 i3 (sLo 3) (sFo 3) (sSi 3))]) hP hD hC [0, 1, 2, 3, 4, 5, 7, 9] rfl (by decide +kernel) (by decide +kernel) hk1 hFc hP1 hD1 rfl
      clear hP hD hPc hDc hFc hC hP1 hD1 hK1 hz1 hk1 hvm ht
      obtain ⟨hP, hD⟩ := hJ
      generalize H1 = H at hP hS ⊢
      try dsimp only at hw
      obtain ⟨c_71, c_72⟩ := hw
      have hw := c_71
      by_cases c_73 : (sLo 3) = 0 ∧ (sFo 3) = fm ∧ 0 ≤ ix ∧ ix < (sSi 3)
      · rw [if_pos c_73] at hw
        have c_74 := hw
        refine k_topi (v := 0) hw ?_
        refine lv_if_eq (tgt := 33) hx₀ hb dX11_get_27 (by decide) (fun _ => ?_) (fun c9 => absurd (by decide +kernel) c9)
        refine lv_aload hx₀ hb dX11_get_33 (lv_at hl 0 rfl) ?_
        refine lv_iload_n hx₀ hb dX11_get_35 rfl (lv_at hl 4 rfl) ?_
        obtain ⟨hPc, hDc, hFc, hC⟩ := k_cw (wc := [(kX8 s3 i3 (sLo 3) (sFo 3) (sSi 3)), (kAI i3 cI 60 gq3)]) hP hD hS hA [9, 6] (by decide +kernel) rfl
        refine va_calli (va_runV (As := [.int ix]) (rest := []) ⟨hx₀, hb, hml, hown, hts⟩ (j_item l dC dI cI cJ cQ H.size s3 ix i3 (sLo 3) (sFo 3) (sSi 3) gq3 (lf_j_lay_2 (sSi 3) fm (sLo 3) (sFo 3) ix hq3 c_64 c_73)) (cwV 1 hts (kGV wd_392 wd_389 wd_390 wd_391 wd_51) rfl rfl rfl (by decide +kernel) ⟨Nat.le_of_ble_eq_true rfl, Nat.le_of_ble_eq_true rfl⟩) (k_preV8 (q0 := 0) hK hPc hDc hN rfl) rfl rfl hl.1 rfl (lv_room (Nat.le_of_ble_eq_true rfl)) dX11_get_36 ⟨by decide +kernel, by decide +kernel⟩) hS (fun q _ h => hFc q h) hFc (fun r_75 u₀ t₀ H1 locs ht hvm hw hB hz1 hk1 hS => ?_)
        obtain ⟨hP1, hK1, hD1⟩ := hB
        rw [ht] at hP1
        have hJ := k_jn (wr := [(kX8 s0 i0 (sLo 0) (sFo 0) (sSi 0)), (kAI i0 cI 60 gq0), (kX8 s1 i1 (sLo 1) (sFo 1) (sSi 1)), (kAI i1 cI 60 gq1), (kX8 s2 i2 (sLo 2) (sFo 2) (sSi 2)), (kAI i2 cI 60 gq2), (kAQ vSh cQ 4 (fSh s0 s1 s2 s3)), (kX11 hx aLa aPa aGe aFl aTr aBe aLu aLo vSf vSm vCo vSh xs xl (g_66 0))]) (wt := [(kX8 s0 i0 (sLo 0) (sFo 0) (sSi 0)), (kAI i0 cI 60 gq0), (kX8 s1 i1 (sLo 1) (sFo 1) (sSi 1)), (kAI i1 cI 60 gq1), (kX8 s2 i2 (sLo 2) (sFo 2) (sSi 2)), (kAI i2 cI 60 gq2), (kAQ vSh cQ 4 (fSh s0 s1 s2 s3)), (kX11 hx aLa aPa aGe aFl aTr aBe aLu aLo vSf vSm vCo vSh xs xl (g_66 0)), (kX8 s3 i3 (sLo 3) (sFo 3) (sSi 3)), (kAI i3 cI 60 gq3)]) hP hD hC [0, 1, 2, 3, 4, 5, 7, 8] rfl (by decide +kernel) (by decide +kernel) hk1 hFc hP1 hD1 rfl
        clear hP hD hPc hDc hFc hC hP1 hD1 hK1 hz1 hk1 hvm ht
        obtain ⟨hP, hD⟩ := hJ
        generalize H1 = H at hP hS ⊢
        try dsimp only at hw
        have c_76 := hw
        obtain ⟨hP9, hD9⟩ := k_c2 (wc := [(kX11 hx aLa aPa aGe aFl aTr aBe aLu aLo vSf vSm vCo vSh xs xl (g_66 0)), (kAQ vSh cQ 4 (fSh s0 s1 s2 s3)), (kX8 s0 i0 (sLo 0) (sFo 0) (sSi 0)), (kAI i0 cI 60 gq0), (kX8 s1 i1 (sLo 1) (sFo 1) (sSi 1)), (kAI i1 cI 60 gq1), (kX8 s2 i2 (sLo 2) (sFo 2) (sSi 2)), (kAI i2 cI 60 gq2), (kX8 s3 i3 (sLo 3) (sFo 3) (sSi 3)), (kAI i3 cI 60 gq3)]) hP hD [7, 6, 0, 1, 2, 3, 4, 5, 8, 9] (by decide +kernel) rfl
        exact W.iret (v := r_75) hx₀ hb hr (fun t₀ ht hW => ⟨⟨r_75, (k_fn [(g_66 0)], k_fa [], k_fl [], k_fL [], k_fp []), rfl, ⟨(c_76.trans ((show kIm (sSi 3) gq3 ix = gq3 ix.toNatClampNeg from if_pos (show 0 ≤ ix ∧ ix < (sSi 3) from ⟨c_73.2.2.1, c_73.2.2.2⟩)).trans (if_pos (show 0 ≤ (3 : Int32) ∧ (3 : Int32) ≤ 3 ∧ 0 ≤ fm ∧ fm ≤ 2 ∧ sLo (3 : Int32).toNatClampNeg = 0 ∧ sFo (3 : Int32).toNatClampNeg = fm ∧ 0 ≤ ix ∧ ix < sSi (3 : Int32).toNatClampNeg from ⟨(by decide), (by decide), c_64.1, c_64.2, c_73.1, c_73.2.1, c_73.2.2.1, c_73.2.2.2⟩)).symm)), ((c_72.trans (congrArg (fun z => kFd z xf) c_71)).trans (if_pos (show 0 ≤ (3 : Int32) ∧ (3 : Int32) ≤ 3 ∧ 0 ≤ fm ∧ fm ≤ 2 from ⟨(by decide), (by decide), c_64.1, c_64.2⟩)).symm)⟩, by rw [ht]; exact hP9, va_K.moved hW.alike hK, hD9⟩, hS.F ht⟩) hS.2.2 dX11_get_39
      rw [if_neg c_73] at hw
      by_cases c_77 : (sLo 3) = 0 ∧ (sFo 3) = fm
      · rw [if_pos c_77] at hw
        have c_78 := hw
        refine k_topi (v := (-12)) hw ?_
        refine lv_if_eq (tgt := 33) hx₀ hb dX11_get_27 (by decide) (fun c9 => absurd c9 (by decide +kernel)) (fun _ => ?_)
        refine lv_ldc (v := (-2147483648)) hx₀ hb hown (hts (.constant RX11 244 (-2147483648)) wd_916) dX11_get_30 ?_
        obtain ⟨hP9, hD9⟩ := k_c2 (wc := [(kX11 hx aLa aPa aGe aFl aTr aBe aLu aLo vSf vSm vCo vSh xs xl (g_66 0)), (kAQ vSh cQ 4 (fSh s0 s1 s2 s3)), (kX8 s0 i0 (sLo 0) (sFo 0) (sSi 0)), (kAI i0 cI 60 gq0), (kX8 s1 i1 (sLo 1) (sFo 1) (sSi 1)), (kAI i1 cI 60 gq1), (kX8 s2 i2 (sLo 2) (sFo 2) (sSi 2)), (kAI i2 cI 60 gq2), (kX8 s3 i3 (sLo 3) (sFo 3) (sSi 3)), (kAI i3 cI 60 gq3)]) hP hD [8, 7, 0, 1, 2, 3, 4, 5, 9, 6] (by decide +kernel) rfl
        exact W.iret (v := (-2147483648)) hx₀ hb hr (fun t₀ ht hW => ⟨⟨(-2147483648), (k_fn [(g_66 0)], k_fa [], k_fl [], k_fL [], k_fp []), rfl, ⟨(if_neg (show ¬ (0 ≤ (3 : Int32) ∧ (3 : Int32) ≤ 3 ∧ 0 ≤ fm ∧ fm ≤ 2 ∧ sLo (3 : Int32).toNatClampNeg = 0 ∧ sFo (3 : Int32).toNatClampNeg = fm ∧ 0 ≤ ix ∧ ix < sSi (3 : Int32).toNatClampNeg) from (fun z => c_73 (And.intro z.2.2.2.2.1 (And.intro z.2.2.2.2.2.1 (And.intro z.2.2.2.2.2.2.1 z.2.2.2.2.2.2.2)))))).symm, ((c_72.trans (congrArg (fun z => kFd z xf) c_71)).trans (if_pos (show 0 ≤ (3 : Int32) ∧ (3 : Int32) ≤ 3 ∧ 0 ≤ fm ∧ fm ≤ 2 from ⟨(by decide), (by decide), c_64.1, c_64.2⟩)).symm)⟩, by rw [ht]; exact hP9, va_K.moved hW.alike hK, hD9⟩, hS.F ht⟩) hS.2.2 dX11_get_32
      rw [if_neg c_77] at hw
      by_cases c_79 : (sLo 3) = 0
      · rw [if_pos c_79] at hw
        have c_80 := hw
        refine k_topi (v := (-13)) hw ?_
        refine lv_if_eq (tgt := 33) hx₀ hb dX11_get_27 (by decide) (fun c9 => absurd c9 (by decide +kernel)) (fun _ => ?_)
        refine lv_ldc (v := (-2147483648)) hx₀ hb hown (hts (.constant RX11 244 (-2147483648)) wd_916) dX11_get_30 ?_
        obtain ⟨hP9, hD9⟩ := k_c2 (wc := [(kX11 hx aLa aPa aGe aFl aTr aBe aLu aLo vSf vSm vCo vSh xs xl (g_66 0)), (kAQ vSh cQ 4 (fSh s0 s1 s2 s3)), (kX8 s0 i0 (sLo 0) (sFo 0) (sSi 0)), (kAI i0 cI 60 gq0), (kX8 s1 i1 (sLo 1) (sFo 1) (sSi 1)), (kAI i1 cI 60 gq1), (kX8 s2 i2 (sLo 2) (sFo 2) (sSi 2)), (kAI i2 cI 60 gq2), (kX8 s3 i3 (sLo 3) (sFo 3) (sSi 3)), (kAI i3 cI 60 gq3)]) hP hD [8, 7, 0, 1, 2, 3, 4, 5, 9, 6] (by decide +kernel) rfl
        exact W.iret (v := (-2147483648)) hx₀ hb hr (fun t₀ ht hW => ⟨⟨(-2147483648), (k_fn [(g_66 0)], k_fa [], k_fl [], k_fL [], k_fp []), rfl, ⟨(if_neg (show ¬ (0 ≤ (3 : Int32) ∧ (3 : Int32) ≤ 3 ∧ 0 ≤ fm ∧ fm ≤ 2 ∧ sLo (3 : Int32).toNatClampNeg = 0 ∧ sFo (3 : Int32).toNatClampNeg = fm ∧ 0 ≤ ix ∧ ix < sSi (3 : Int32).toNatClampNeg) from (fun z => c_73 (And.intro z.2.2.2.2.1 (And.intro z.2.2.2.2.2.1 (And.intro z.2.2.2.2.2.2.1 z.2.2.2.2.2.2.2)))))).symm, ((c_72.trans (congrArg (fun z => kFd z xf) c_71)).trans (if_pos (show 0 ≤ (3 : Int32) ∧ (3 : Int32) ≤ 3 ∧ 0 ≤ fm ∧ fm ≤ 2 from ⟨(by decide), (by decide), c_64.1, c_64.2⟩)).symm)⟩, by rw [ht]; exact hP9, va_K.moved hW.alike hK, hD9⟩, hS.F ht⟩) hS.2.2 dX11_get_32
      rw [if_neg c_79] at hw
      have c_81 := hw
      refine k_topi (v := (-11)) hw ?_
      refine lv_if_eq (tgt := 33) hx₀ hb dX11_get_27 (by decide) (fun c9 => absurd c9 (by decide +kernel)) (fun _ => ?_)
      refine lv_ldc (v := (-2147483648)) hx₀ hb hown (hts (.constant RX11 244 (-2147483648)) wd_916) dX11_get_30 ?_
      obtain ⟨hP9, hD9⟩ := k_c2 (wc := [(kX11 hx aLa aPa aGe aFl aTr aBe aLu aLo vSf vSm vCo vSh xs xl (g_66 0)), (kAQ vSh cQ 4 (fSh s0 s1 s2 s3)), (kX8 s0 i0 (sLo 0) (sFo 0) (sSi 0)), (kAI i0 cI 60 gq0), (kX8 s1 i1 (sLo 1) (sFo 1) (sSi 1)), (kAI i1 cI 60 gq1), (kX8 s2 i2 (sLo 2) (sFo 2) (sSi 2)), (kAI i2 cI 60 gq2), (kX8 s3 i3 (sLo 3) (sFo 3) (sSi 3)), (kAI i3 cI 60 gq3)]) hP hD [8, 7, 0, 1, 2, 3, 4, 5, 9, 6] (by decide +kernel) rfl
      exact W.iret (v := (-2147483648)) hx₀ hb hr (fun t₀ ht hW => ⟨⟨(-2147483648), (k_fn [(g_66 0)], k_fa [], k_fl [], k_fL [], k_fp []), rfl, ⟨(if_neg (show ¬ (0 ≤ (3 : Int32) ∧ (3 : Int32) ≤ 3 ∧ 0 ≤ fm ∧ fm ≤ 2 ∧ sLo (3 : Int32).toNatClampNeg = 0 ∧ sFo (3 : Int32).toNatClampNeg = fm ∧ 0 ≤ ix ∧ ix < sSi (3 : Int32).toNatClampNeg) from (fun z => c_79 z.2.2.2.2.1))).symm, ((c_72.trans (congrArg (fun z => kFd z xf) c_71)).trans (if_pos (show 0 ≤ (3 : Int32) ∧ (3 : Int32) ≤ 3 ∧ 0 ≤ fm ∧ fm ≤ 2 from ⟨(by decide), (by decide), c_64.1, c_64.2⟩)).symm)⟩, by rw [ht]; exact hP9, va_K.moved hW.alike hK, hD9⟩, hS.F ht⟩) hS.2.2 dX11_get_32
    rw [if_neg c_64] at hw
    refine k_topi (v := 0) hw ?_
    refine lv_if_eq (tgt := 30) hx₀ hb dX11_get_16 (by decide) (fun _ => ?_) (fun c9 => absurd (by decide +kernel) c9)
    refine lv_ldc (v := (-2147483648)) hx₀ hb hown (hts (.constant RX11 244 (-2147483648)) wd_916) dX11_get_30 ?_
    obtain ⟨hP9, hD9⟩ := k_c2 (wc := [(kX11 hx aLa aPa aGe aFl aTr aBe aLu aLo vSf vSm vCo vSh xs xl xf), (kAQ vSh cQ 4 (fSh s0 s1 s2 s3)), (kX8 s0 i0 (sLo 0) (sFo 0) (sSi 0)), (kAI i0 cI 60 gq0), (kX8 s1 i1 (sLo 1) (sFo 1) (sSi 1)), (kAI i1 cI 60 gq1), (kX8 s2 i2 (sLo 2) (sFo 2) (sSi 2)), (kAI i2 cI 60 gq2), (kX8 s3 i3 (sLo 3) (sFo 3) (sSi 3)), (kAI i3 cI 60 gq3)]) hP hD [8, 9, 0, 1, 2, 3, 4, 5, 6, 7] (by decide +kernel) rfl
    exact W.iret (v := (-2147483648)) hx₀ hb hr (fun t₀ ht hW => ⟨⟨(-2147483648), (k_fn [xf], k_fa [], k_fl [], k_fL [], k_fp []), rfl, ⟨(if_neg (show ¬ (0 ≤ (3 : Int32) ∧ (3 : Int32) ≤ 3 ∧ 0 ≤ fm ∧ fm ≤ 2 ∧ sLo (3 : Int32).toNatClampNeg = 0 ∧ sFo (3 : Int32).toNatClampNeg = fm ∧ 0 ≤ ix ∧ ix < sSi (3 : Int32).toNatClampNeg) from (fun z => c_64 (And.intro z.2.2.1 z.2.2.2.1)))).symm, (if_neg (show ¬ (0 ≤ (3 : Int32) ∧ (3 : Int32) ≤ 3 ∧ 0 ≤ fm ∧ fm ≤ 2) from (fun z => c_64 (And.intro z.2.2.1 z.2.2.2)))).symm⟩, by rw [ht]; exact hP9, va_K.moved hW.alike hK, hD9⟩, hS.F ht⟩) hS.2.2 dX11_get_32
  rw [if_neg c_62] at hw
  subst hw
  refine W.eq (g2 := F0 m₀ 5 ls [.null]) rfl ?_
  refine lv_astoreN (lv' := [(4, .null), (0, .ref hx), (1, .int ss), (2, .int fm), (3, .int ix)]) hx₀ hb dX11_get_5 hl (by decide) rfl (fun ls hl => ?_)
  refine lv_aloadN hx₀ hb dX11_get_7 (lv_at hl 0 rfl) ?_
  refine lv_ifnullN (tgt := 30) hx₀ hb dX11_get_9 (by decide) ?_
  refine lv_ldc (v := (-2147483648)) hx₀ hb hown (hts (.constant RX11 244 (-2147483648)) wd_916) dX11_get_30 ?_
  obtain ⟨hP9, hD9⟩ := k_c2 (wc := [(kX11 hx aLa aPa aGe aFl aTr aBe aLu aLo vSf vSm vCo vSh xs xl xf), (kAQ vSh cQ 4 (fSh s0 s1 s2 s3)), (kX8 s0 i0 (sLo 0) (sFo 0) (sSi 0)), (kAI i0 cI 60 gq0), (kX8 s1 i1 (sLo 1) (sFo 1) (sSi 1)), (kAI i1 cI 60 gq1), (kX8 s2 i2 (sLo 2) (sFo 2) (sSi 2)), (kAI i2 cI 60 gq2), (kX8 s3 i3 (sLo 3) (sFo 3) (sSi 3)), (kAI i3 cI 60 gq3)]) hP hD [8, 9, 0, 1, 2, 3, 4, 5, 6, 7] (by decide +kernel) rfl
  exact W.iret (v := (-2147483648)) hx₀ hb hr (fun t₀ ht hW => ⟨⟨(-2147483648), (k_fn [xf], k_fa [], k_fl [], k_fL [], k_fp []), rfl, ⟨(if_neg (lf_j_get_1 ss fm (sLo ss.toNatClampNeg) (sFo ss.toNatClampNeg) ix (sSi ss.toNatClampNeg) c_2 c_22 c_42 c_62)).symm, (if_neg (lf_j_lay_3 ss fm c_2 c_22 c_42 c_62)).symm⟩, by rw [ht]; exact hP9, va_K.moved hW.alike hK, hD9⟩, hS.F ht⟩) hS.2.2 dX11_get_32
