set_option maxHeartbeats 4000000 in
set_option maxRecDepth 100000 in
theorem j_textOf (l : Launch) (dC : Nat → ClassId) (dI : Nat → Nat → Nat) (cI cJ cQ : ClassId) (sz : Nat) (hx : Nat) (tt : Int32) (aLa : Nat) (aPa : Nat) (aGe : Nat) (aFl : Nat) (aTr : Nat) (aBe : Nat) (aLu : Nat) (aLo : Nat) (vSf : Nat) (vSm : Nat) (vCo : Nat) (vSh : Nat) (xs : Int32) (xl : Int32) (xf : Int32) : Met l yX11_textOf (kW yX11_textOf cX11_textOf 2 (some (.object "BittenStick$Text"))) { frames := 0, cells := 0, slots := 0, locals := 0 } (kPre dC dI cI cJ cQ sz [.ref hx, .int tt] [(kX11 hx aLa aPa aGe aFl aTr aBe aLu aLo vSf vSm vCo vSh xs xl xf)]) (va_Qq (fun (r : Option Nat) (u : Unit) => (r = if tt = 0 then some aLa else if tt = 1 then some aPa else if tt = 2 then some aGe else none)) (fun (u : Unit) t₀ => kB dC dI cI cJ cQ (va_A [(kX11 hx aLa aPa aGe aFl aTr aBe aLu aLo vSf vSm vCo vSh xs xl xf)] sz) [(kX11 hx aLa aPa aGe aFl aTr aBe aLu aLo vSf vSm vCo vSh xs xl xf)] t₀) (va_A [(kX11 hx aLa aPa aGe aFl aTr aBe aLu aLo vSf vSm vCo vSh xs xl xf)] sz)) 0 0 (va_A [(kX11 hx aLa aPa aGe aFl aTr aBe aLu aLo vSf vSm vCo vSh xs xl xf)] sz) := by
  refine Met.ofW (cc := cX11_textOf) (maxL := 2) (ret := (some (.object "BittenStick$Text"))) (by decide) rfl ?_
  intro p₀ e₀ s₀ m₀ args below meth c₀ s₁ B hml hv₀
  obtain ⟨rfl, hsz, hP, hK, hD0, hN⟩ := hv₀
  have hx₀ := B.exec
  have hb := B.bytes
  have hr := B.returns
  have hts := atoms_spec (ws := (kW yX11_textOf cX11_textOf 2 (some (.object "BittenStick$Text")))) B.pre
  have hts := fun w h => hts w (List.mem_cons_of_mem _ h)
  have hown : s₀.vm.findClass RX11 = some m₀.cls := findClass_of_methodNamed B.named
  have hlocks := B.notSynchronized
  subst hsz
  have hD := hD0.self (sz := s₀.heap.size)
  generalize hAe : va_A [(kX11 hx aLa aPa aGe aFl aTr aBe aLu aLo vSf vSm vCo vSh xs xl xf)] s₀.heap.size = A at hD ⊢
  have hA : ∀ q : Nat, s₀.heap.size ≤ q → A q := fun q h => by rw [← hAe]; exact Or.inr h
  have hS : va_S A s₀.heap s₀.heap [] := va_S.rf
  have hP : va_P (dC, dI) vwCl [(kX11 hx aLa aPa aGe aFl aTr aBe aLu aLo vSf vSm vCo vSh xs xl xf)] s₀.heap := hP
  have hl := lv_entry ([.ref hx, .int tt]) (n := 2) (Nat.le_of_ble_eq_true rfl)
  rw [lg_entry_eq]
  generalize (lg_sl ([.ref hx, .int tt]) ++ List.replicate (2 - (lg_sl ([.ref hx, .int tt])).length) Slot.unset).toArray = ls at hl ⊢
  have hl : lv_has ls 2 [(0, .ref hx), (1, .int tt)] := hl
  obtain ⟨H, hH⟩ : ∃ z : Heap, z = s₀.heap := ⟨_, rfl⟩
  rw [← hH] at hP
  have hS : va_S A s₀.heap H [] := by rw [hH]; exact hS
  refine k_heap hH ?_
  have hD : va_D A [(kX11 hx aLa aPa aGe aFl aTr aBe aLu aLo vSf vSm vCo vSh xs xl xf)] := hD
  obtain ⟨locs, hlo⟩ : ∃ z : List Loc, z = [] := ⟨_, rfl⟩
  rw [← hlo] at hS ⊢
  clear hlo hH hAe hD0
  refine lv_iload_n hx₀ hb dX11_textOf_0 rfl (lv_at hl 1 rfl) ?_
  by_cases c_1 : tt = 0
  · subst c_1
    refine lv_tableIn (off := 27) (tgt := 28) hx₀ hb dX11_textOf_1 (by decide +kernel) (by decide +kernel) (by decide +kernel) (by decide) ?_
    refine lv_aload_n hx₀ hb dX11_textOf_28 rfl (lv_at hl 0 rfl) ?_
    refine va_get (D := (dC, dI)) (ci := 10) (v := .ref aLa) (C := RX11) (T := TX11) (N := 15) hx₀ hb hts inlX11 hown hK hP 0 rfl rfl 0 (by decide) (hts (.fieldLink RX11 10 "BittenStick" "land" "LBittenStick$Land;") wd_15) (fun _ h9 => h9) rfl dX11_textOf_29 ?_
    obtain ⟨hP9, hD9⟩ := k_c2 (wc := [(kX11 hx aLa aPa aGe aFl aTr aBe aLu aLo vSf vSm vCo vSh xs xl xf)]) hP hD [0] (by decide +kernel) rfl
    exact W.aret (v := .ref aLa) hx₀ hb hr (Or.inl ⟨_, rfl⟩) (Or.inr ⟨_, rfl⟩) (fun t₀ ht hW => ⟨⟨(some aLa), (), rfl, (show (some aLa) = if (0 : Int32) = 0 then some aLa else if (0 : Int32) = 1 then some aPa else if (0 : Int32) = 2 then some aGe else none from (if_pos (rfl)).symm), by rw [ht]; exact hP9, va_K.moved hW.alike hK, hD9⟩, hS.F ht⟩) hS.2.2 dX11_textOf_32
  by_cases c_2 : tt = 1
  · subst c_2
    refine lv_tableIn (off := 32) (tgt := 33) hx₀ hb dX11_textOf_1 (by decide +kernel) (by decide +kernel) (by decide +kernel) (by decide) ?_
    refine lv_aload_n hx₀ hb dX11_textOf_33 rfl (lv_at hl 0 rfl) ?_
    refine va_get (D := (dC, dI)) (ci := 10) (v := .ref aPa) (C := RX11) (T := TX11) (N := 15) hx₀ hb hts inlX11 hown hK hP 0 rfl rfl 1 (by decide) (hts (.fieldLink RX11 19 "BittenStick" "passengers" "LBittenStick$Passengers;") wd_19) (fun _ h9 => h9) rfl dX11_textOf_34 ?_
    obtain ⟨hP9, hD9⟩ := k_c2 (wc := [(kX11 hx aLa aPa aGe aFl aTr aBe aLu aLo vSf vSm vCo vSh xs xl xf)]) hP hD [0] (by decide +kernel) rfl
    exact W.aret (v := .ref aPa) hx₀ hb hr (Or.inl ⟨_, rfl⟩) (Or.inr ⟨_, rfl⟩) (fun t₀ ht hW => ⟨⟨(some aPa), (), rfl, (show (some aPa) = if (1 : Int32) = 0 then some aLa else if (1 : Int32) = 1 then some aPa else if (1 : Int32) = 2 then some aGe else none from (((if_pos (rfl)).symm).trans (if_neg (show ¬ ((1 : Int32) = 0) from (fun z => absurd z (by decide)))).symm)), by rw [ht]; exact hP9, va_K.moved hW.alike hK, hD9⟩, hS.F ht⟩) hS.2.2 dX11_textOf_37
  by_cases c_3 : tt = 2
  · subst c_3
    refine lv_tableIn (off := 37) (tgt := 38) hx₀ hb dX11_textOf_1 (by decide +kernel) (by decide +kernel) (by decide +kernel) (by decide) ?_
    refine lv_aload_n hx₀ hb dX11_textOf_38 rfl (lv_at hl 0 rfl) ?_
    refine va_get (D := (dC, dI)) (ci := 10) (v := .ref aGe) (C := RX11) (T := TX11) (N := 15) hx₀ hb hts inlX11 hown hK hP 0 rfl rfl 2 (by decide) (hts (.fieldLink RX11 26 "BittenStick" "geese" "LBittenStick$Geese;") wd_23) (fun _ h9 => h9) rfl dX11_textOf_39 ?_
    obtain ⟨hP9, hD9⟩ := k_c2 (wc := [(kX11 hx aLa aPa aGe aFl aTr aBe aLu aLo vSf vSm vCo vSh xs xl xf)]) hP hD [0] (by decide +kernel) rfl
    exact W.aret (v := .ref aGe) hx₀ hb hr (Or.inl ⟨_, rfl⟩) (Or.inr ⟨_, rfl⟩) (fun t₀ ht hW => ⟨⟨(some aGe), (), rfl, (show (some aGe) = if (2 : Int32) = 0 then some aLa else if (2 : Int32) = 1 then some aPa else if (2 : Int32) = 2 then some aGe else none from (((((if_pos (rfl)).symm).trans (if_neg (show ¬ ((2 : Int32) = 1) from (fun z => absurd z (by decide)))).symm)).trans (if_neg (show ¬ ((2 : Int32) = 0) from (fun z => absurd z (by decide)))).symm)), by rw [ht]; exact hP9, va_K.moved hW.alike hK, hD9⟩, hS.F ht⟩) hS.2.2 dX11_textOf_42
  refine lv_tableOut (tgt := 43) hx₀ hb dX11_textOf_1 (k_out3 c_1 c_2 c_3) (by decide) ?_
  refine lv_null hx₀ hb dX11_textOf_43 ?_
  obtain ⟨hP9, hD9⟩ := k_c2 (wc := [(kX11 hx aLa aPa aGe aFl aTr aBe aLu aLo vSf vSm vCo vSh xs xl xf)]) hP hD [0] (by decide +kernel) rfl
  exact W.aret (v := .null) hx₀ hb hr (Or.inl ⟨_, rfl⟩) (Or.inl rfl) (fun t₀ ht hW => ⟨⟨none, (), rfl, (show none = if tt = 0 then some aLa else if tt = 1 then some aPa else if tt = 2 then some aGe else none from (((((if_neg (c_3)).symm).trans (if_neg (c_2)).symm)).trans (if_neg (c_1)).symm)), by rw [ht]; exact hP9, va_K.moved hW.alike hK, hD9⟩, hS.F ht⟩) hS.2.2 dX11_textOf_44
theorem lf_j_type_1 (a0 : Int32) (a1 : Int32) (h0 : ¬ (a0 = 0)) (h1 : ¬ (a0 = 1)) (h2 : ¬ (a0 = 2)) : ¬ (0 ≤ a0 ∧ a0 ≤ 2 ∧ 0 ≤ a1 ∧ a1 ≤ 255) := by
  first | (first | omega | (have hr0 := Int32.toInt_lt a0; have hs0 := Int32.le_toInt a0; have hr1 := Int32.toInt_lt a1; have hs1 := Int32.le_toInt a1; simp only [Int64.toInt_add, Int64.toInt_sub, Int32.toInt_add, Int32.toInt_sub, Int32.toInt_mul, Int64.le_iff_toInt_le, Int64.lt_iff_toInt_lt, Int32.le_iff_toInt_le, Int32.lt_iff_toInt_lt, ← Int32.toInt_inj, ← Int64.toInt_inj, Int32.toInt_toInt64, kc_0, kc_1, kc_2, kc_255, true_and, and_true, not_true_eq_false, not_false_eq_true] at * <;> ((first | omega | ((try simp (disch := omega) only [k_bm64] at *); (try simp (disch := omega) only [k_bm] at *); (try simp (disch := omega) only [k_bm] at *); omega) | (simp only [Int.bmod] at *; omega))))) | with_reducible assumption | exact Or.inl rfl | rfl
set_option maxHeartbeats 4000000 in
set_option maxRecDepth 100000 in
theorem j_type (l : Launch) (dC : Nat → ClassId) (dI : Nat → Nat → Nat) (cI cJ cQ : ClassId) (sz : Nat) (hx : Nat) (tt : Int32) (b1 : Int32) (aLa : Nat) (aPa : Nat) (aGe : Nat) (aFl : Nat) (aTr : Nat) (aBe : Nat) (aLu : Nat) (aLo : Nat) (vSf : Nat) (vSm : Nat) (vCo : Nat) (vSh : Nat) (xs : Int32) (xl : Int32) (xf : Int32) (vLa : Nat) (l4 : Int32) (a4 : Int32) (n4 : Int32) (f4 : Nat → Int32) (vPa : Nat) (l7 : Int32) (a7 : Int32) (n7 : Int32) (f7 : Nat → Int32) (vGe : Nat) (l2 : Int32) (a2 : Int32) (n2 : Int32) (f2 : Nat → Int32) (hh0 : 0 ≤ l4 ∧ l4 ≤ 24) (hh1 : 0 ≤ l7 ∧ l7 ≤ 39) (hh2 : 0 ≤ l2 ∧ l2 ≤ 23) (hh3 : 0 ≤ n4 ∧ n4 ≤ 24) (hh4 : a4 = kFt l4 l4 f4) (hh5 : n4 = kNm l4 l4 f4) (hh6 : a7 = kFt (kTh7 l7) l7 f7) (hh7 : n7 = kNm (kTh7 l7) l7 f7) (hh8 : a2 = kFt (kTh2 l2) l2 f2) (hh9 : n2 = kNm (kTh2 l2) l2 f2) : Met l yX11_type (kW yX11_type cX11_type 4 (some .int)) { frames := 3, cells := 0, slots := 0, locals := 63 } (kPre dC dI cI cJ cQ sz [.ref hx, .int tt, .int b1] [(kX11 hx aLa aPa aGe aFl aTr aBe aLu aLo vSf vSm vCo vSh xs xl xf), (kX4 aLa vLa l4 a4 n4), (kAI vLa cI 24 f4), (kX7 aPa vPa l7 a7 n7), (kAI vPa cI 39 f7), (kX2 aGe vGe l2 a2 n2), (kAI vGe cI 23 f2)]) (va_Qi (fun (r : Int32) (u : kS) => (r = if 0 ≤ tt ∧ tt ≤ 2 ∧ 0 ≤ b1 ∧ b1 ≤ 255 then (if tt = 0 then (if l4 = 24 then -4 else l4 + 1) else if tt = 1 then (if l7 = 39 then -4 else l7 + 1) else if l2 = 23 then -4 else l2 + 1) else -2) ∧ ((u.1 0) = if tt = 0 ∧ 0 ≤ b1 ∧ b1 ≤ 255 ∧ ¬ l4 = 24 then l4 + 1 else l4) ∧ ((u.1 3) = if tt = 1 ∧ 0 ≤ b1 ∧ b1 ≤ 255 ∧ ¬ l7 = 39 then l7 + 1 else l7) ∧ ((u.1 6) = if tt = 2 ∧ 0 ≤ b1 ∧ b1 ≤ 255 ∧ ¬ l2 = 23 then l2 + 1 else l2) ∧ (0 ≤ (u.1 2) ∧ (u.1 2) ≤ 24) ∧ ((u.2.1 0) = if tt = 0 ∧ 0 ≤ b1 ∧ b1 ≤ 255 ∧ ¬ l4 = 24 then upd f4 l4.toNatClampNeg (wL b1) else f4) ∧ ((u.2.1 1) = if tt = 1 ∧ 0 ≤ b1 ∧ b1 ≤ 255 ∧ ¬ l7 = 39 then upd f7 l7.toNatClampNeg (wP (l7 - l7 / 5 * 5) b1) else f7) ∧ ((u.2.1 2) = if tt = 2 ∧ 0 ≤ b1 ∧ b1 ≤ 255 ∧ ¬ l2 = 23 then upd f2 l2.toNatClampNeg (wG (l2 - l2 / 3 * 3) b1) else f2) ∧ ((u.1 1) = kFt (u.1 0) (u.1 0) (u.2.1 0)) ∧ ((u.1 2) = kNm (u.1 0) (u.1 0) (u.2.1 0)) ∧ ((u.1 4) = kFt (kTh7 (u.1 3)) (u.1 3) (u.2.1 1)) ∧ ((u.1 5) = kNm (kTh7 (u.1 3)) (u.1 3) (u.2.1 1)) ∧ ((u.1 7) = kFt (kTh2 (u.1 6)) (u.1 6) (u.2.1 2)) ∧ ((u.1 8) = kNm (kTh2 (u.1 6)) (u.1 6) (u.2.1 2))) (fun (u : kS) t₀ => kB dC dI cI cJ cQ (va_A [(kX11 hx aLa aPa aGe aFl aTr aBe aLu aLo vSf vSm vCo vSh xs xl xf), (kX4 aLa vLa l4 a4 n4), (kAI vLa cI 24 f4), (kX7 aPa vPa l7 a7 n7), (kAI vPa cI 39 f7), (kX2 aGe vGe l2 a2 n2), (kAI vGe cI 23 f2)] sz) [(kX11 hx aLa aPa aGe aFl aTr aBe aLu aLo vSf vSm vCo vSh xs xl xf), (kX4 aLa vLa (u.1 0) (u.1 1) (u.1 2)), (kAI vLa cI 24 (u.2.1 0)), (kX7 aPa vPa (u.1 3) (u.1 4) (u.1 5)), (kAI vPa cI 39 (u.2.1 1)), (kX2 aGe vGe (u.1 6) (u.1 7) (u.1 8)), (kAI vGe cI 23 (u.2.1 2))] t₀) (va_A [(kX11 hx aLa aPa aGe aFl aTr aBe aLu aLo vSf vSm vCo vSh xs xl xf), (kX4 aLa vLa l4 a4 n4), (kAI vLa cI 24 f4), (kX7 aPa vPa l7 a7 n7), (kAI vPa cI 39 f7), (kX2 aGe vGe l2 a2 n2), (kAI vGe cI 23 f2)] sz)) 0 0 (va_A [(kX11 hx aLa aPa aGe aFl aTr aBe aLu aLo vSf vSm vCo vSh xs xl xf), (kX4 aLa vLa l4 a4 n4), (kAI vLa cI 24 f4), (kX7 aPa vPa l7 a7 n7), (kAI vPa cI 39 f7), (kX2 aGe vGe l2 a2 n2), (kAI vGe cI 23 f2)] sz) := by
  refine Met.ofW (cc := cX11_type) (maxL := 4) (ret := (some .int)) (by decide) rfl ?_
  intro p₀ e₀ s₀ m₀ args below meth c₀ s₁ B hml hv₀
  obtain ⟨rfl, hsz, hP, hK, hD0, hN⟩ := hv₀
  have hx₀ := B.exec
  have hb := B.bytes
  have hr := B.returns
  have hts := atoms_spec (ws := (kW yX11_type cX11_type 4 (some .int))) B.pre
  have hts := fun w h => hts w (List.mem_cons_of_mem _ h)
  have hown : s₀.vm.findClass RX11 = some m₀.cls := findClass_of_methodNamed B.named
  have hlocks := B.notSynchronized
  subst hsz
  have hD := hD0.self (sz := s₀.heap.size)
  generalize hAe : va_A [(kX11 hx aLa aPa aGe aFl aTr aBe aLu aLo vSf vSm vCo vSh xs xl xf), (kX4 aLa vLa l4 a4 n4), (kAI vLa cI 24 f4), (kX7 aPa vPa l7 a7 n7), (kAI vPa cI 39 f7), (kX2 aGe vGe l2 a2 n2), (kAI vGe cI 23 f2)] s₀.heap.size = A at hD ⊢
  have hA : ∀ q : Nat, s₀.heap.size ≤ q → A q := fun q h => by rw [← hAe]; exact Or.inr h
  have hS : va_S A s₀.heap s₀.heap [] := va_S.rf
  have hP : va_P (dC, dI) vwCl [(kX11 hx aLa aPa aGe aFl aTr aBe aLu aLo vSf vSm vCo vSh xs xl xf), (kX4 aLa vLa l4 a4 n4), (kAI vLa cI 24 f4), (kX7 aPa vPa l7 a7 n7), (kAI vPa cI 39 f7), (kX2 aGe vGe l2 a2 n2), (kAI vGe cI 23 f2)] s₀.heap := hP
  have hl := lv_entry ([.ref hx, .int tt, .int b1]) (n := 4) (Nat.le_of_ble_eq_true rfl)
  rw [lg_entry_eq]
  generalize (lg_sl ([.ref hx, .int tt, .int b1]) ++ List.replicate (4 - (lg_sl ([.ref hx, .int tt, .int b1])).length) Slot.unset).toArray = ls at hl ⊢
  have hl : lv_has ls 4 [(0, .ref hx), (1, .int tt), (2, .int b1)] := hl
  obtain ⟨H, hH⟩ : ∃ z : Heap, z = s₀.heap := ⟨_, rfl⟩
  rw [← hH] at hP
  have hS : va_S A s₀.heap H [] := by rw [hH]; exact hS
  refine k_heap hH ?_
  have hD : va_D A [(kX11 hx aLa aPa aGe aFl aTr aBe aLu aLo vSf vSm vCo vSh xs xl xf), (kX4 aLa vLa l4 a4 n4), (kAI vLa cI 24 f4), (kX7 aPa vPa l7 a7 n7), (kAI vPa cI 39 f7), (kX2 aGe vGe l2 a2 n2), (kAI vGe cI 23 f2)] := hD
  obtain ⟨locs, hlo⟩ : ∃ z : List Loc, z = [] := ⟨_, rfl⟩
  rw [← hlo] at hS ⊢
  clear hlo hH hAe hD0
  refine lv_aload_n hx₀ hb dX11_type_0 rfl (lv_at hl 0 rfl) ?_
  refine lv_iload_n hx₀ hb dX11_type_1 rfl (lv_at hl 1 rfl) ?_
  obtain ⟨hPc, hDc, hFc, hC⟩ := k_cw (wc := [(kX11 hx aLa aPa aGe aFl aTr aBe aLu aLo vSf vSm vCo vSh xs xl xf)]) hP hD hS hA [0] (by decide +kernel) rfl
  refine va_callq (va_runV (As := [.int tt]) (rest := []) ⟨hx₀, hb, hml, hown, hts⟩ (j_textOf l dC dI cI cJ cQ H.size hx tt aLa aPa aGe aFl aTr aBe aLu aLo vSf vSm vCo vSh xs xl xf) (cwV 1 hts (kGV wd_141 wd_138 wd_139 wd_140 wd_2) rfl rfl rfl (by decide +kernel) ⟨Nat.le_of_ble_eq_true rfl, Nat.le_of_ble_eq_true rfl⟩) (k_preV10 (q0 := 0) hK hPc hDc hN rfl) rfl rfl hl.1 rfl (lv_room (Nat.le_of_ble_eq_true rfl)) dX11_type_2 ⟨by decide +kernel, by decide +kernel⟩) hS (fun q _ h => hFc q h) hFc (fun r_1 u₀ t₀ H1 locs ht hvm hw hB hz1 hk1 hS => ?_)
  obtain ⟨hP1, hK1, hD1⟩ := hB
  rw [ht] at hP1
  have hJ := k_jn (wr := [(kX4 aLa vLa l4 a4 n4), (kAI vLa cI 24 f4), (kX7 aPa vPa l7 a7 n7), (kAI vPa cI 39 f7), (kX2 aGe vGe l2 a2 n2), (kAI vGe cI 23 f2)]) (wt := [(kX4 aLa vLa l4 a4 n4), (kAI vLa cI 24 f4), (kX7 aPa vPa l7 a7 n7), (kAI vPa cI 39 f7), (kX2 aGe vGe l2 a2 n2), (kAI vGe cI 23 f2), (kX11 hx aLa aPa aGe aFl aTr aBe aLu aLo vSf vSm vCo vSh xs xl xf)]) hP hD hC [1, 2, 3, 4, 5, 6] rfl (by decide +kernel) (by decide +kernel) hk1 hFc hP1 hD1 rfl
  clear hP hD hPc hDc hFc hC hP1 hD1 hK1 hz1 hk1 hvm ht
  obtain ⟨hP, hD⟩ := hJ
  generalize H1 = H at hP hS ⊢
  try dsimp only at hw
  by_cases c_2 : tt = 0
  · rw [if_pos c_2] at hw
    subst hw
    refine W.eq (g2 := F0 m₀ 5 ls [.ref aLa]) rfl ?_
    refine lv_astore_n (lv' := [(3, .ref aLa), (0, .ref hx), (1, .int tt), (2, .int b1)]) hx₀ hb dX11_type_5 rfl hl (by decide) rfl (fun ls hl => ?_)
    refine lv_aload_n hx₀ hb dX11_type_6 rfl (lv_at hl 0 rfl) ?_
    refine lv_ifnull hx₀ hb dX11_type_7 ?_
    refine lv_iload_n hx₀ hb dX11_type_10 rfl (lv_at hl 3 rfl) ?_
    refine lv_if_lt (tgt := 21) hx₀ hb dX11_type_11 (by decide) (fun c_3 => ?_) (fun c_3 => ?_)
    · refine lv_bipush (v := (-2)) hx₀ hb dX11_type_21 (by decide +kernel) ?_
      obtain ⟨hP9, hD9⟩ := k_c2 (wc := [(kX11 hx aLa aPa aGe aFl aTr aBe aLu aLo vSf vSm vCo vSh xs xl xf), (kX4 aLa vLa l4 a4 n4), (kAI vLa cI 24 f4), (kX7 aPa vPa l7 a7 n7), (kAI vPa cI 39 f7), (kX2 aGe vGe l2 a2 n2), (kAI vGe cI 23 f2)]) hP hD [6, 0, 1, 2, 3, 4, 5] (by decide +kernel) rfl
      exact W.iret (v := (-2)) hx₀ hb hr (fun t₀ ht hW => ⟨⟨(-2), (k_fn [l4, a4, n4, l7, a7, n7, l2, a2, n2], k_fa [f4, f7, f2], k_fl [], k_fL [], k_fp []), rfl, ⟨(show ((-2) : Int32) = if 0 ≤ tt ∧ tt ≤ 2 ∧ 0 ≤ b1 ∧ b1 ≤ 255 then (if tt = 0 then (if l4 = 24 then -4 else l4 + 1) else if tt = 1 then (if l7 = 39 then -4 else l7 + 1) else if l2 = 23 then -4 else l2 + 1) else -2 from (if_neg (show ¬ (0 ≤ tt ∧ tt ≤ 2 ∧ 0 ≤ b1 ∧ b1 ≤ 255) from (fun z => (Int32.not_le.mpr c_3) z.2.2.1))).symm), (show l4 = if tt = 0 ∧ 0 ≤ b1 ∧ b1 ≤ 255 ∧ ¬ l4 = 24 then l4 + 1 else l4 from (if_neg (show ¬ (tt = 0 ∧ 0 ≤ b1 ∧ b1 ≤ 255 ∧ ¬ l4 = 24) from (fun z => (Int32.not_le.mpr c_3) z.2.1))).symm), (show l7 = if tt = 1 ∧ 0 ≤ b1 ∧ b1 ≤ 255 ∧ ¬ l7 = 39 then l7 + 1 else l7 from (if_neg (show ¬ (tt = 1 ∧ 0 ≤ b1 ∧ b1 ≤ 255 ∧ ¬ l7 = 39) from (fun z => (fun z => absurd (c_2.symm.trans z) (by decide)) z.1))).symm), (show l2 = if tt = 2 ∧ 0 ≤ b1 ∧ b1 ≤ 255 ∧ ¬ l2 = 23 then l2 + 1 else l2 from (if_neg (show ¬ (tt = 2 ∧ 0 ≤ b1 ∧ b1 ≤ 255 ∧ ¬ l2 = 23) from (fun z => (fun z => absurd (c_2.symm.trans z) (by decide)) z.1))).symm), hh3, (if_neg (show ¬ (tt = 0 ∧ 0 ≤ b1 ∧ b1 ≤ 255 ∧ ¬ l4 = 24) from (fun z => (Int32.not_le.mpr c_3) z.2.1))).symm, (if_neg (show ¬ (tt = 1 ∧ 0 ≤ b1 ∧ b1 ≤ 255 ∧ ¬ l7 = 39) from (fun z => (fun z => absurd (c_2.symm.trans z) (by decide)) z.1))).symm, (if_neg (show ¬ (tt = 2 ∧ 0 ≤ b1 ∧ b1 ≤ 255 ∧ ¬ l2 = 23) from (fun z => (fun z => absurd (c_2.symm.trans z) (by decide)) z.1))).symm, hh4, hh5, hh6, hh7, hh8, hh9⟩, by rw [ht]; exact hP9, va_K.moved hW.alike hK, hD9⟩, hS.F ht⟩) hS.2.2 dX11_type_23
    · refine lv_iload_n hx₀ hb dX11_type_14 rfl (lv_at hl 3 rfl) ?_
      refine lv_sipush (v := 255) hx₀ hb dX11_type_15 (by decide +kernel) ?_
      refine lv_icmp_le (tgt := 24) hx₀ hb dX11_type_18 (by decide) (fun c_4 => ?_) (fun c_4 => ?_)
      · refine lv_aload_n hx₀ hb dX11_type_24 rfl (lv_at hl 0 rfl) ?_
        obtain ⟨hPc, hDc, hFc, hC⟩ := k_cw (wc := [(kX4 aLa vLa l4 a4 n4), (kAI vLa cI 24 f4)]) hP hD hS hA [0, 1] (by decide +kernel) rfl
        refine va_calli (va_runU (As := []) (rest := []) ⟨hx₀, hb, hml, hown, hts⟩ (j_isFull_X4 l dC dI cI cJ cQ H.size aLa vLa l4 a4 n4 f4) (va_cwU 0 hts (kGU wd_146 wd_142 wd_143 wd_148 wd_145 wd_57) rfl rfl rfl rfl (by decide +kernel) ⟨Nat.le_of_ble_eq_true rfl, Nat.le_of_ble_eq_true rfl⟩) (k_preV4 (q0 := 0) hK hPc hDc hN rfl) rfl rfl hl.1 rfl (lv_room (Nat.le_of_ble_eq_true rfl)) dX11_type_25 ⟨by decide +kernel, by decide +kernel⟩) hS (fun q _ h => hFc q h) hFc (fun r_5 u₀ t₀ H1 locs ht hvm hw hB hz1 hk1 hS => ?_)
        obtain ⟨hP1, hK1, hD1⟩ := hB
        rw [ht] at hP1
        have hJ := k_jn (wr := [(kX7 aPa vPa l7 a7 n7), (kAI vPa cI 39 f7), (kX2 aGe vGe l2 a2 n2), (kAI vGe cI 23 f2), (kX11 hx aLa aPa aGe aFl aTr aBe aLu aLo vSf vSm vCo vSh xs xl xf)]) (wt := [(kX7 aPa vPa l7 a7 n7), (kAI vPa cI 39 f7), (kX2 aGe vGe l2 a2 n2), (kAI vGe cI 23 f2), (kX11 hx aLa aPa aGe aFl aTr aBe aLu aLo vSf vSm vCo vSh xs xl xf), (kX4 aLa vLa l4 a4 n4), (kAI vLa cI 24 f4)]) hP hD hC [2, 3, 4, 5, 6] rfl (by decide +kernel) (by decide +kernel) hk1 hFc hP1 hD1 rfl
        clear hP hD hPc hDc hFc hC hP1 hD1 hK1 hz1 hk1 hvm ht
        obtain ⟨hP, hD⟩ := hJ
        generalize H1 = H at hP hS ⊢
        try dsimp only at hw
        by_cases c_6 : 24 ≤ l4
        · rw [if_pos c_6] at hw
          refine k_topi (v := 1) hw ?_
          refine lv_if_eq (tgt := 34) hx₀ hb dX11_type_28 (by decide) (fun c9 => absurd c9 (by decide +kernel)) (fun _ => ?_)
          refine lv_bipush (v := (-4)) hx₀ hb dX11_type_31 (by decide +kernel) ?_
          obtain ⟨hP9, hD9⟩ := k_c2 (wc := [(kX11 hx aLa aPa aGe aFl aTr aBe aLu aLo vSf vSm vCo vSh xs xl xf), (kX4 aLa vLa l4 a4 n4), (kAI vLa cI 24 f4), (kX7 aPa vPa l7 a7 n7), (kAI vPa cI 39 f7), (kX2 aGe vGe l2 a2 n2), (kAI vGe cI 23 f2)]) hP hD [4, 5, 6, 0, 1, 2, 3] (by decide +kernel) rfl
          exact W.iret (v := (-4)) hx₀ hb hr (fun t₀ ht hW => ⟨⟨(-4), (k_fn [l4, a4, n4, l7, a7, n7, l2, a2, n2], k_fa [f4, f7, f2], k_fl [], k_fL [], k_fp []), rfl, ⟨(show ((-4) : Int32) = if 0 ≤ tt ∧ tt ≤ 2 ∧ 0 ≤ b1 ∧ b1 ≤ 255 then (if tt = 0 then (if l4 = 24 then -4 else l4 + 1) else if tt = 1 then (if l7 = 39 then -4 else l7 + 1) else if l2 = 23 then -4 else l2 + 1) else -2 from (((((if_pos (show l4 = 24 from (Int32.le_antisymm hh0.2 c_6))).symm).trans (if_pos (c_2)).symm)).trans (if_pos (show 0 ≤ tt ∧ tt ≤ 2 ∧ 0 ≤ b1 ∧ b1 ≤ 255 from ⟨(by rw [show tt = 0 from c_2]; decide), (by rw [show tt = 0 from c_2]; decide), (Int32.not_lt.mp c_3), c_4⟩)).symm)), (show l4 = if tt = 0 ∧ 0 ≤ b1 ∧ b1 ≤ 255 ∧ ¬ l4 = 24 then l4 + 1 else l4 from (if_neg (show ¬ (tt = 0 ∧ 0 ≤ b1 ∧ b1 ≤ 255 ∧ ¬ l4 = 24) from (fun z => (fun z => z (Int32.le_antisymm hh0.2 c_6)) z.2.2.2))).symm), (show l7 = if tt = 1 ∧ 0 ≤ b1 ∧ b1 ≤ 255 ∧ ¬ l7 = 39 then l7 + 1 else l7 from (if_neg (show ¬ (tt = 1 ∧ 0 ≤ b1 ∧ b1 ≤ 255 ∧ ¬ l7 = 39) from (fun z => (fun z => absurd (c_2.symm.trans z) (by decide)) z.1))).symm), (show l2 = if tt = 2 ∧ 0 ≤ b1 ∧ b1 ≤ 255 ∧ ¬ l2 = 23 then l2 + 1 else l2 from (if_neg (show ¬ (tt = 2 ∧ 0 ≤ b1 ∧ b1 ≤ 255 ∧ ¬ l2 = 23) from (fun z => (fun z => absurd (c_2.symm.trans z) (by decide)) z.1))).symm), hh3, (if_neg (show ¬ (tt = 0 ∧ 0 ≤ b1 ∧ b1 ≤ 255 ∧ ¬ l4 = 24) from (fun z => (fun z => z (Int32.le_antisymm hh0.2 c_6)) z.2.2.2))).symm, (if_neg (show ¬ (tt = 1 ∧ 0 ≤ b1 ∧ b1 ≤ 255 ∧ ¬ l7 = 39) from (fun z => (fun z => absurd (c_2.symm.trans z) (by decide)) z.1))).symm, (if_neg (show ¬ (tt = 2 ∧ 0 ≤ b1 ∧ b1 ≤ 255 ∧ ¬ l2 = 23) from (fun z => (fun z => absurd (c_2.symm.trans z) (by decide)) z.1))).symm, hh4, hh5, hh6, hh7, hh8, hh9⟩, by rw [ht]; exact hP9, va_K.moved hW.alike hK, hD9⟩, hS.F ht⟩) hS.2.2 dX11_type_33
        rw [if_neg c_6] at hw
        refine k_topi (v := 0) hw ?_
        refine lv_if_eq (tgt := 34) hx₀ hb dX11_type_28 (by decide) (fun _ => ?_) (fun c9 => absurd (by decide +kernel) c9)
        refine lv_aload_n hx₀ hb dX11_type_34 rfl (lv_at hl 0 rfl) ?_
        refine lv_iload_n hx₀ hb dX11_type_35 rfl (lv_at hl 3 rfl) ?_
        obtain ⟨hPc, hDc, hFc, hC⟩ := k_cw (wc := [(kX4 aLa vLa l4 a4 n4), (kAI vLa cI 24 f4)]) hP hD hS hA [5, 6] (by decide +kernel) rfl
        refine va_callv (va_runU (As := [.int b1]) (rest := []) ⟨hx₀, hb, hml, hown, hts⟩ (j_append_X4 l dC dI cI cJ cQ H.size aLa b1 vLa l4 a4 n4 f4 (show 0 ≤ l4 ∧ l4 < 24 from ⟨hh0.1, (Int32.not_le.mp c_6)⟩)) (va_cwU 1 hts (kGU wd_154 wd_150 wd_151 wd_195 wd_153 wd_57) rfl rfl rfl rfl (by decide +kernel) ⟨Nat.le_of_ble_eq_true rfl, Nat.le_of_ble_eq_true rfl⟩) (k_preV4 (q0 := 0) hK hPc hDc hN rfl) rfl rfl hl.1 rfl (lv_room (Nat.le_of_ble_eq_true rfl)) dX11_type_36 ⟨by decide +kernel, by decide +kernel⟩) hS (fun q _ h => hFc q h) hFc (fun u₀ t₀ H1 locs ht hvm hw hB hz1 hk1 hS => ?_)
        obtain ⟨g_8, ga_9, gl_10, gb_11, gp_12⟩ := u₀
        obtain ⟨hP1, hK1, hD1⟩ := hB
        rw [ht] at hP1
        have hJ := k_jn (wr := [(kX7 aPa vPa l7 a7 n7), (kAI vPa cI 39 f7), (kX2 aGe vGe l2 a2 n2), (kAI vGe cI 23 f2), (kX11 hx aLa aPa aGe aFl aTr aBe aLu aLo vSf vSm vCo vSh xs xl xf)]) (wt := [(kX7 aPa vPa l7 a7 n7), (kAI vPa cI 39 f7), (kX2 aGe vGe l2 a2 n2), (kAI vGe cI 23 f2), (kX11 hx aLa aPa aGe aFl aTr aBe aLu aLo vSf vSm vCo vSh xs xl xf), (kX4 aLa vLa (l4 + 1) (g_8 0) (g_8 1)), (kAI vLa cI 24 (upd f4 l4.toNatClampNeg (wL b1)))]) hP hD hC [0, 1, 2, 3, 4] rfl (by decide +kernel) (by decide +kernel) hk1 hFc hP1 hD1 rfl
        clear hP hD hPc hDc hFc hC hP1 hD1 hK1 hz1 hk1 hvm ht
        obtain ⟨hP, hD⟩ := hJ
        generalize H1 = H at hP hS ⊢
        try dsimp only at hw
        obtain ⟨c_13, c_14, c_15⟩ := hw
        refine lv_aload_n hx₀ hb dX11_type_39 rfl (lv_at hl 0 rfl) ?_
        refine va_get (D := (dC, dI)) (ci := 4) (v := .int (l4 + 1)) (C := RX4) (T := TX4) (N := 4) hx₀ hb hts inlX4 hown hK hP 5 rfl rfl 1 (by decide) (hts (.fieldLink RX11 98 "BittenStick$Text" "length" "I") wd_137) (fun _ h9 => h9) rfl dX11_type_40 ?_
        obtain ⟨hP9, hD9⟩ := k_c2 (wc := [(kX11 hx aLa aPa aGe aFl aTr aBe aLu aLo vSf vSm vCo vSh xs xl xf), (kX4 aLa vLa (l4 + 1) (g_8 0) (g_8 1)), (kAI vLa cI 24 (upd f4 l4.toNatClampNeg (wL b1))), (kX7 aPa vPa l7 a7 n7), (kAI vPa cI 39 f7), (kX2 aGe vGe l2 a2 n2), (kAI vGe cI 23 f2)]) hP hD [4, 5, 6, 0, 1, 2, 3] (by decide +kernel) rfl
        exact W.iret (v := l4 + 1) hx₀ hb hr (fun t₀ ht hW => ⟨⟨l4 + 1, (k_fn [(l4 + 1), (g_8 0), (g_8 1), l7, a7, n7, l2, a2, n2], k_fa [upd f4 l4.toNatClampNeg (wL b1), f7, f2], k_fl [], k_fL [], k_fp []), rfl, ⟨(show (l4 + 1 : Int32) = if 0 ≤ tt ∧ tt ≤ 2 ∧ 0 ≤ b1 ∧ b1 ≤ 255 then (if tt = 0 then (if l4 = 24 then -4 else l4 + 1) else if tt = 1 then (if l7 = 39 then -4 else l7 + 1) else if l2 = 23 then -4 else l2 + 1) else -2 from (((((if_neg (show ¬ (l4 = 24) from (fun z => c_6 (k_leq z.symm)))).symm).trans (if_pos (c_2)).symm)).trans (if_pos (show 0 ≤ tt ∧ tt ≤ 2 ∧ 0 ≤ b1 ∧ b1 ≤ 255 from ⟨(by rw [show tt = 0 from c_2]; decide), (by rw [show tt = 0 from c_2]; decide), (Int32.not_lt.mp c_3), c_4⟩)).symm)), (show (l4 + 1) = if tt = 0 ∧ 0 ≤ b1 ∧ b1 ≤ 255 ∧ ¬ l4 = 24 then l4 + 1 else l4 from (if_pos (show tt = 0 ∧ 0 ≤ b1 ∧ b1 ≤ 255 ∧ ¬ l4 = 24 from ⟨c_2, (Int32.not_lt.mp c_3), c_4, (fun z => c_6 (k_leq z.symm))⟩)).symm), (show l7 = if tt = 1 ∧ 0 ≤ b1 ∧ b1 ≤ 255 ∧ ¬ l7 = 39 then l7 + 1 else l7 from (if_neg (show ¬ (tt = 1 ∧ 0 ≤ b1 ∧ b1 ≤ 255 ∧ ¬ l7 = 39) from (fun z => (fun z => absurd (c_2.symm.trans z) (by decide)) z.1))).symm), (show l2 = if tt = 2 ∧ 0 ≤ b1 ∧ b1 ≤ 255 ∧ ¬ l2 = 23 then l2 + 1 else l2 from (if_neg (show ¬ (tt = 2 ∧ 0 ≤ b1 ∧ b1 ≤ 255 ∧ ¬ l2 = 23) from (fun z => (fun z => absurd (c_2.symm.trans z) (by decide)) z.1))).symm), c_15, (if_pos (show tt = 0 ∧ 0 ≤ b1 ∧ b1 ≤ 255 ∧ ¬ l4 = 24 from ⟨c_2, (Int32.not_lt.mp c_3), c_4, (fun z => c_6 (k_leq z.symm))⟩)).symm, (if_neg (show ¬ (tt = 1 ∧ 0 ≤ b1 ∧ b1 ≤ 255 ∧ ¬ l7 = 39) from (fun z => (fun z => absurd (c_2.symm.trans z) (by decide)) z.1))).symm, (if_neg (show ¬ (tt = 2 ∧ 0 ≤ b1 ∧ b1 ≤ 255 ∧ ¬ l2 = 23) from (fun z => (fun z => absurd (c_2.symm.trans z) (by decide)) z.1))).symm, c_13, c_14, hh6, hh7, hh8, hh9⟩, by rw [ht]; exact hP9, va_K.moved hW.alike hK, hD9⟩, hS.F ht⟩) hS.2.2 dX11_type_43
      · refine lv_bipush (v := (-2)) hx₀ hb dX11_type_21 (by decide +kernel) ?_
        obtain ⟨hP9, hD9⟩ := k_c2 (wc := [(kX11 hx aLa aPa aGe aFl aTr aBe aLu aLo vSf vSm vCo vSh xs xl xf), (kX4 aLa vLa l4 a4 n4), (kAI vLa cI 24 f4), (kX7 aPa vPa l7 a7 n7), (kAI vPa cI 39 f7), (kX2 aGe vGe l2 a2 n2), (kAI vGe cI 23 f2)]) hP hD [6, 0, 1, 2, 3, 4, 5] (by decide +kernel) rfl
        exact W.iret (v := (-2)) hx₀ hb hr (fun t₀ ht hW => ⟨⟨(-2), (k_fn [l4, a4, n4, l7, a7, n7, l2, a2, n2], k_fa [f4, f7, f2], k_fl [], k_fL [], k_fp []), rfl, ⟨(show ((-2) : Int32) = if 0 ≤ tt ∧ tt ≤ 2 ∧ 0 ≤ b1 ∧ b1 ≤ 255 then (if tt = 0 then (if l4 = 24 then -4 else l4 + 1) else if tt = 1 then (if l7 = 39 then -4 else l7 + 1) else if l2 = 23 then -4 else l2 + 1) else -2 from (if_neg (show ¬ (0 ≤ tt ∧ tt ≤ 2 ∧ 0 ≤ b1 ∧ b1 ≤ 255) from (fun z => c_4 z.2.2.2))).symm), (show l4 = if tt = 0 ∧ 0 ≤ b1 ∧ b1 ≤ 255 ∧ ¬ l4 = 24 then l4 + 1 else l4 from (if_neg (show ¬ (tt = 0 ∧ 0 ≤ b1 ∧ b1 ≤ 255 ∧ ¬ l4 = 24) from (fun z => c_4 z.2.2.1))).symm), (show l7 = if tt = 1 ∧ 0 ≤ b1 ∧ b1 ≤ 255 ∧ ¬ l7 = 39 then l7 + 1 else l7 from (if_neg (show ¬ (tt = 1 ∧ 0 ≤ b1 ∧ b1 ≤ 255 ∧ ¬ l7 = 39) from (fun z => (fun z => absurd (c_2.symm.trans z) (by decide)) z.1))).symm), (show l2 = if tt = 2 ∧ 0 ≤ b1 ∧ b1 ≤ 255 ∧ ¬ l2 = 23 then l2 + 1 else l2 from (if_neg (show ¬ (tt = 2 ∧ 0 ≤ b1 ∧ b1 ≤ 255 ∧ ¬ l2 = 23) from (fun z => (fun z => absurd (c_2.symm.trans z) (by decide)) z.1))).symm), hh3, (if_neg (show ¬ (tt = 0 ∧ 0 ≤ b1 ∧ b1 ≤ 255 ∧ ¬ l4 = 24) from (fun z => c_4 z.2.2.1))).symm, (if_neg (show ¬ (tt = 1 ∧ 0 ≤ b1 ∧ b1 ≤ 255 ∧ ¬ l7 = 39) from (fun z => (fun z => absurd (c_2.symm.trans z) (by decide)) z.1))).symm, (if_neg (show ¬ (tt = 2 ∧ 0 ≤ b1 ∧ b1 ≤ 255 ∧ ¬ l2 = 23) from (fun z => (fun z => absurd (c_2.symm.trans z) (by decide)) z.1))).symm, hh4, hh5, hh6, hh7, hh8, hh9⟩, by rw [ht]; exact hP9, va_K.moved hW.alike hK, hD9⟩, hS.F ht⟩) hS.2.2 dX11_type_23
  rw [if_neg c_2] at hw
  by_cases c_16 : tt = 1
  · rw [if_pos c_16] at hw
    subst hw
    refine W.eq (g2 := F0 m₀ 5 ls [.ref aPa]) rfl ?_
    refine lv_astore_n (lv' := [(3, .ref aPa), (0, .ref hx), (1, .int tt), (2, .int b1)]) hx₀ hb dX11_type_5 rfl hl (by decide) rfl (fun ls hl => ?_)
    refine lv_aload_n hx₀ hb dX11_type_6 rfl (lv_at hl 0 rfl) ?_
    refine lv_ifnull hx₀ hb dX11_type_7 ?_
    refine lv_iload_n hx₀ hb dX11_type_10 rfl (lv_at hl 3 rfl) ?_
    refine lv_if_lt (tgt := 21) hx₀ hb dX11_type_11 (by decide) (fun c_17 => ?_) (fun c_17 => ?_)
    · refine lv_bipush (v := (-2)) hx₀ hb dX11_type_21 (by decide +kernel) ?_
      obtain ⟨hP9, hD9⟩ := k_c2 (wc := [(kX11 hx aLa aPa aGe aFl aTr aBe aLu aLo vSf vSm vCo vSh xs xl xf), (kX4 aLa vLa l4 a4 n4), (kAI vLa cI 24 f4), (kX7 aPa vPa l7 a7 n7), (kAI vPa cI 39 f7), (kX2 aGe vGe l2 a2 n2), (kAI vGe cI 23 f2)]) hP hD [6, 0, 1, 2, 3, 4, 5] (by decide +kernel) rfl
      exact W.iret (v := (-2)) hx₀ hb hr (fun t₀ ht hW => ⟨⟨(-2), (k_fn [l4, a4, n4, l7, a7, n7, l2, a2, n2], k_fa [f4, f7, f2], k_fl [], k_fL [], k_fp []), rfl, ⟨(show ((-2) : Int32) = if 0 ≤ tt ∧ tt ≤ 2 ∧ 0 ≤ b1 ∧ b1 ≤ 255 then (if tt = 0 then (if l4 = 24 then -4 else l4 + 1) else if tt = 1 then (if l7 = 39 then -4 else l7 + 1) else if l2 = 23 then -4 else l2 + 1) else -2 from (if_neg (show ¬ (0 ≤ tt ∧ tt ≤ 2 ∧ 0 ≤ b1 ∧ b1 ≤ 255) from (fun z => (Int32.not_le.mpr c_17) z.2.2.1))).symm), (show l4 = if tt = 0 ∧ 0 ≤ b1 ∧ b1 ≤ 255 ∧ ¬ l4 = 24 then l4 + 1 else l4 from (if_neg (show ¬ (tt = 0 ∧ 0 ≤ b1 ∧ b1 ≤ 255 ∧ ¬ l4 = 24) from (fun z => c_2 z.1))).symm), (show l7 = if tt = 1 ∧ 0 ≤ b1 ∧ b1 ≤ 255 ∧ ¬ l7 = 39 then l7 + 1 else l7 from (if_neg (show ¬ (tt = 1 ∧ 0 ≤ b1 ∧ b1 ≤ 255 ∧ ¬ l7 = 39) from (fun z => (Int32.not_le.mpr c_17) z.2.1))).symm), (show l2 = if tt = 2 ∧ 0 ≤ b1 ∧ b1 ≤ 255 ∧ ¬ l2 = 23 then l2 + 1 else l2 from (if_neg (show ¬ (tt = 2 ∧ 0 ≤ b1 ∧ b1 ≤ 255 ∧ ¬ l2 = 23) from (fun z => (fun z => absurd (c_16.symm.trans z) (by decide)) z.1))).symm), hh3, (if_neg (show ¬ (tt = 0 ∧ 0 ≤ b1 ∧ b1 ≤ 255 ∧ ¬ l4 = 24) from (fun z => c_2 z.1))).symm, (if_neg (show ¬ (tt = 1 ∧ 0 ≤ b1 ∧ b1 ≤ 255 ∧ ¬ l7 = 39) from (fun z => (Int32.not_le.mpr c_17) z.2.1))).symm, (if_neg (show ¬ (tt = 2 ∧ 0 ≤ b1 ∧ b1 ≤ 255 ∧ ¬ l2 = 23) from (fun z => (fun z => absurd (c_16.symm.trans z) (by decide)) z.1))).symm, hh4, hh5, hh6, hh7, hh8, hh9⟩, by rw [ht]; exact hP9, va_K.moved hW.alike hK, hD9⟩, hS.F ht⟩) hS.2.2 dX11_type_23
    · refine lv_iload_n hx₀ hb dX11_type_14 rfl (lv_at hl 3 rfl) ?_
      refine lv_sipush (v := 255) hx₀ hb dX11_type_15 (by decide +kernel) ?_
      refine lv_icmp_le (tgt := 24) hx₀ hb dX11_type_18 (by decide) (fun c_18 => ?_) (fun c_18 => ?_)
      · refine lv_aload_n hx₀ hb dX11_type_24 rfl (lv_at hl 0 rfl) ?_
        obtain ⟨hPc, hDc, hFc, hC⟩ := k_cw (wc := [(kX7 aPa vPa l7 a7 n7), (kAI vPa cI 39 f7)]) hP hD hS hA [2, 3] (by decide +kernel) rfl
        refine va_calli (va_runU (As := []) (rest := []) ⟨hx₀, hb, hml, hown, hts⟩ (j_isFull_X7 l dC dI cI cJ cQ H.size aPa vPa l7 a7 n7 f7) (va_cwU 0 hts (kGU wd_146 wd_142 wd_143 wd_149 wd_145 wd_57) rfl rfl rfl rfl (by decide +kernel) ⟨Nat.le_of_ble_eq_true rfl, Nat.le_of_ble_eq_true rfl⟩) (k_preV7 (q0 := 0) hK hPc hDc hN rfl) rfl rfl hl.1 rfl (lv_room (Nat.le_of_ble_eq_true rfl)) dX11_type_25 ⟨by decide +kernel, by decide +kernel⟩) hS (fun q _ h => hFc q h) hFc (fun r_19 u₀ t₀ H1 locs ht hvm hw hB hz1 hk1 hS => ?_)
        obtain ⟨hP1, hK1, hD1⟩ := hB
        rw [ht] at hP1
        have hJ := k_jn (wr := [(kX4 aLa vLa l4 a4 n4), (kAI vLa cI 24 f4), (kX2 aGe vGe l2 a2 n2), (kAI vGe cI 23 f2), (kX11 hx aLa aPa aGe aFl aTr aBe aLu aLo vSf vSm vCo vSh xs xl xf)]) (wt := [(kX4 aLa vLa l4 a4 n4), (kAI vLa cI 24 f4), (kX2 aGe vGe l2 a2 n2), (kAI vGe cI 23 f2), (kX11 hx aLa aPa aGe aFl aTr aBe aLu aLo vSf vSm vCo vSh xs xl xf), (kX7 aPa vPa l7 a7 n7), (kAI vPa cI 39 f7)]) hP hD hC [0, 1, 4, 5, 6] rfl (by decide +kernel) (by decide +kernel) hk1 hFc hP1 hD1 rfl
        clear hP hD hPc hDc hFc hC hP1 hD1 hK1 hz1 hk1 hvm ht
        obtain ⟨hP, hD⟩ := hJ
        generalize H1 = H at hP hS ⊢
        try dsimp only at hw
        by_cases c_20 : 39 ≤ l7
        · rw [if_pos c_20] at hw
          refine k_topi (v := 1) hw ?_
          refine lv_if_eq (tgt := 34) hx₀ hb dX11_type_28 (by decide) (fun c9 => absurd c9 (by decide +kernel)) (fun _ => ?_)
          refine lv_bipush (v := (-4)) hx₀ hb dX11_type_31 (by decide +kernel) ?_
          obtain ⟨hP9, hD9⟩ := k_c2 (wc := [(kX11 hx aLa aPa aGe aFl aTr aBe aLu aLo vSf vSm vCo vSh xs xl xf), (kX4 aLa vLa l4 a4 n4), (kAI vLa cI 24 f4), (kX7 aPa vPa l7 a7 n7), (kAI vPa cI 39 f7), (kX2 aGe vGe l2 a2 n2), (kAI vGe cI 23 f2)]) hP hD [4, 0, 1, 5, 6, 2, 3] (by decide +kernel) rfl
          exact W.iret (v := (-4)) hx₀ hb hr (fun t₀ ht hW => ⟨⟨(-4), (k_fn [l4, a4, n4, l7, a7, n7, l2, a2, n2], k_fa [f4, f7, f2], k_fl [], k_fL [], k_fp []), rfl, ⟨(show ((-4) : Int32) = if 0 ≤ tt ∧ tt ≤ 2 ∧ 0 ≤ b1 ∧ b1 ≤ 255 then (if tt = 0 then (if l4 = 24 then -4 else l4 + 1) else if tt = 1 then (if l7 = 39 then -4 else l7 + 1) else if l2 = 23 then -4 else l2 + 1) else -2 from (((((((if_pos (show l7 = 39 from (Int32.le_antisymm hh1.2 c_20))).symm).trans (if_pos (c_16)).symm)).trans (if_neg (c_2)).symm)).trans (if_pos (show 0 ≤ tt ∧ tt ≤ 2 ∧ 0 ≤ b1 ∧ b1 ≤ 255 from ⟨(by rw [show tt = 1 from c_16]; decide), (by rw [show tt = 1 from c_16]; decide), (Int32.not_lt.mp c_17), c_18⟩)).symm)), (show l4 = if tt = 0 ∧ 0 ≤ b1 ∧ b1 ≤ 255 ∧ ¬ l4 = 24 then l4 + 1 else l4 from (if_neg (show ¬ (tt = 0 ∧ 0 ≤ b1 ∧ b1 ≤ 255 ∧ ¬ l4 = 24) from (fun z => c_2 z.1))).symm), (show l7 = if tt = 1 ∧ 0 ≤ b1 ∧ b1 ≤ 255 ∧ ¬ l7 = 39 then l7 + 1 else l7 from (if_neg (show ¬ (tt = 1 ∧ 0 ≤ b1 ∧ b1 ≤ 255 ∧ ¬ l7 = 39) from (fun z => (fun z => z (Int32.le_antisymm hh1.2 c_20)) z.2.2.2))).symm), (show l2 = if tt = 2 ∧ 0 ≤ b1 ∧ b1 ≤ 255 ∧ ¬ l2 = 23 then l2 + 1 else l2 from (if_neg (show ¬ (tt = 2 ∧ 0 ≤ b1 ∧ b1 ≤ 255 ∧ ¬ l2 = 23) from (fun z => (fun z => absurd (c_16.symm.trans z) (by decide)) z.1))).symm), hh3, (if_neg (show ¬ (tt = 0 ∧ 0 ≤ b1 ∧ b1 ≤ 255 ∧ ¬ l4 = 24) from (fun z => c_2 z.1))).symm, (if_neg (show ¬ (tt = 1 ∧ 0 ≤ b1 ∧ b1 ≤ 255 ∧ ¬ l7 = 39) from (fun z => (fun z => z (Int32.le_antisymm hh1.2 c_20)) z.2.2.2))).symm, (if_neg (show ¬ (tt = 2 ∧ 0 ≤ b1 ∧ b1 ≤ 255 ∧ ¬ l2 = 23) from (fun z => (fun z => absurd (c_16.symm.trans z) (by decide)) z.1))).symm, hh4, hh5, hh6, hh7, hh8, hh9⟩, by rw [ht]; exact hP9, va_K.moved hW.alike hK, hD9⟩, hS.F ht⟩) hS.2.2 dX11_type_33
        rw [if_neg c_20] at hw
        refine k_topi (v := 0) hw ?_
        refine lv_if_eq (tgt := 34) hx₀ hb dX11_type_28 (by decide) (fun _ => ?_) (fun c9 => absurd (by decide +kernel) c9)
        refine lv_aload_n hx₀ hb dX11_type_34 rfl (lv_at hl 0 rfl) ?_
        refine lv_iload_n hx₀ hb dX11_type_35 rfl (lv_at hl 3 rfl) ?_
        obtain ⟨hPc, hDc, hFc, hC⟩ := k_cw (wc := [(kX7 aPa vPa l7 a7 n7), (kAI vPa cI 39 f7)]) hP hD hS hA [5, 6] (by decide +kernel) rfl
        refine va_callv (va_runU (As := [.int b1]) (rest := []) ⟨hx₀, hb, hml, hown, hts⟩ (j_append_X7 l dC dI cI cJ cQ H.size aPa b1 vPa l7 a7 n7 f7 (show 0 ≤ l7 ∧ l7 < 39 from ⟨hh1.1, (Int32.not_le.mp c_20)⟩)) (va_cwU 1 hts (kGU wd_154 wd_150 wd_151 wd_196 wd_153 wd_57) rfl rfl rfl rfl (by decide +kernel) ⟨Nat.le_of_ble_eq_true rfl, Nat.le_of_ble_eq_true rfl⟩) (k_preV7 (q0 := 0) hK hPc hDc hN rfl) rfl rfl hl.1 rfl (lv_room (Nat.le_of_ble_eq_true rfl)) dX11_type_36 ⟨by decide +kernel, by decide +kernel⟩) hS (fun q _ h => hFc q h) hFc (fun u₀ t₀ H1 locs ht hvm hw hB hz1 hk1 hS => ?_)
        obtain ⟨g_22, ga_23, gl_24, gb_25, gp_26⟩ := u₀
        obtain ⟨hP1, hK1, hD1⟩ := hB
        rw [ht] at hP1
        have hJ := k_jn (wr := [(kX4 aLa vLa l4 a4 n4), (kAI vLa cI 24 f4), (kX2 aGe vGe l2 a2 n2), (kAI vGe cI 23 f2), (kX11 hx aLa aPa aGe aFl aTr aBe aLu aLo vSf vSm vCo vSh xs xl xf)]) (wt := [(kX4 aLa vLa l4 a4 n4), (kAI vLa cI 24 f4), (kX2 aGe vGe l2 a2 n2), (kAI vGe cI 23 f2), (kX11 hx aLa aPa aGe aFl aTr aBe aLu aLo vSf vSm vCo vSh xs xl xf), (kX7 aPa vPa (l7 + 1) (g_22 0) (g_22 1)), (kAI vPa cI 39 (upd f7 l7.toNatClampNeg (wP (l7 - l7 / 5 * 5) b1)))]) hP hD hC [0, 1, 2, 3, 4] rfl (by decide +kernel) (by decide +kernel) hk1 hFc hP1 hD1 rfl
        clear hP hD hPc hDc hFc hC hP1 hD1 hK1 hz1 hk1 hvm ht
        obtain ⟨hP, hD⟩ := hJ
        generalize H1 = H at hP hS ⊢
        try dsimp only at hw
        obtain ⟨c_27, c_28⟩ := hw
        refine lv_aload_n hx₀ hb dX11_type_39 rfl (lv_at hl 0 rfl) ?_
        refine va_get (D := (dC, dI)) (ci := 7) (v := .int (l7 + 1)) (C := RX7) (T := TX7) (N := 4) hx₀ hb hts inlX7 hown hK hP 5 rfl rfl 1 (by decide) (hts (.fieldLink RX11 98 "BittenStick$Text" "length" "I") wd_137) (fun _ h9 => h9) rfl dX11_type_40 ?_
        obtain ⟨hP9, hD9⟩ := k_c2 (wc := [(kX11 hx aLa aPa aGe aFl aTr aBe aLu aLo vSf vSm vCo vSh xs xl xf), (kX4 aLa vLa l4 a4 n4), (kAI vLa cI 24 f4), (kX7 aPa vPa (l7 + 1) (g_22 0) (g_22 1)), (kAI vPa cI 39 (upd f7 l7.toNatClampNeg (wP (l7 - l7 / 5 * 5) b1))), (kX2 aGe vGe l2 a2 n2), (kAI vGe cI 23 f2)]) hP hD [4, 0, 1, 5, 6, 2, 3] (by decide +kernel) rfl
        exact W.iret (v := l7 + 1) hx₀ hb hr (fun t₀ ht hW => ⟨⟨l7 + 1, (k_fn [l4, a4, n4, (l7 + 1), (g_22 0), (g_22 1), l2, a2, n2], k_fa [f4, upd f7 l7.toNatClampNeg (wP (l7 - l7 / 5 * 5) b1), f2], k_fl [], k_fL [], k_fp []), rfl, ⟨(show (l7 + 1 : Int32) = if 0 ≤ tt ∧ tt ≤ 2 ∧ 0 ≤ b1 ∧ b1 ≤ 255 then (if tt = 0 then (if l4 = 24 then -4 else l4 + 1) else if tt = 1 then (if l7 = 39 then -4 else l7 + 1) else if l2 = 23 then -4 else l2 + 1) else -2 from (((((((if_neg (show ¬ (l7 = 39) from (fun z => c_20 (k_leq z.symm)))).symm).trans (if_pos (c_16)).symm)).trans (if_neg (c_2)).symm)).trans (if_pos (show 0 ≤ tt ∧ tt ≤ 2 ∧ 0 ≤ b1 ∧ b1 ≤ 255 from ⟨(by rw [show tt = 1 from c_16]; decide), (by rw [show tt = 1 from c_16]; decide), (Int32.not_lt.mp c_17), c_18⟩)).symm)), (show l4 = if tt = 0 ∧ 0 ≤ b1 ∧ b1 ≤ 255 ∧ ¬ l4 = 24 then l4 + 1 else l4 from (if_neg (show ¬ (tt = 0 ∧ 0 ≤ b1 ∧ b1 ≤ 255 ∧ ¬ l4 = 24) from (fun z => c_2 z.1))).symm), (show (l7 + 1) = if tt = 1 ∧ 0 ≤ b1 ∧ b1 ≤ 255 ∧ ¬ l7 = 39 then l7 + 1 else l7 from (if_pos (show tt = 1 ∧ 0 ≤ b1 ∧ b1 ≤ 255 ∧ ¬ l7 = 39 from ⟨c_16, (Int32.not_lt.mp c_17), c_18, (fun z => c_20 (k_leq z.symm))⟩)).symm), (show l2 = if tt = 2 ∧ 0 ≤ b1 ∧ b1 ≤ 255 ∧ ¬ l2 = 23 then l2 + 1 else l2 from (if_neg (show ¬ (tt = 2 ∧ 0 ≤ b1 ∧ b1 ≤ 255 ∧ ¬ l2 = 23) from (fun z => (fun z => absurd (c_16.symm.trans z) (by decide)) z.1))).symm), hh3, (if_neg (show ¬ (tt = 0 ∧ 0 ≤ b1 ∧ b1 ≤ 255 ∧ ¬ l4 = 24) from (fun z => c_2 z.1))).symm, (if_pos (show tt = 1 ∧ 0 ≤ b1 ∧ b1 ≤ 255 ∧ ¬ l7 = 39 from ⟨c_16, (Int32.not_lt.mp c_17), c_18, (fun z => c_20 (k_leq z.symm))⟩)).symm, (if_neg (show ¬ (tt = 2 ∧ 0 ≤ b1 ∧ b1 ≤ 255 ∧ ¬ l2 = 23) from (fun z => (fun z => absurd (c_16.symm.trans z) (by decide)) z.1))).symm, hh4, hh5, c_27, c_28, hh8, hh9⟩, by rw [ht]; exact hP9, va_K.moved hW.alike hK, hD9⟩, hS.F ht⟩) hS.2.2 dX11_type_43
      · refine lv_bipush (v := (-2)) hx₀ hb dX11_type_21 (by decide +kernel) ?_
        obtain ⟨hP9, hD9⟩ := k_c2 (wc := [(kX11 hx aLa aPa aGe aFl aTr aBe aLu aLo vSf vSm vCo vSh xs xl xf), (kX4 aLa vLa l4 a4 n4), (kAI vLa cI 24 f4), (kX7 aPa vPa l7 a7 n7), (kAI vPa cI 39 f7), (kX2 aGe vGe l2 a2 n2), (kAI vGe cI 23 f2)]) hP hD [6, 0, 1, 2, 3, 4, 5] (by decide +kernel) rfl
        exact W.iret (v := (-2)) hx₀ hb hr (fun t₀ ht hW => ⟨⟨(-2), (k_fn [l4, a4, n4, l7, a7, n7, l2, a2, n2], k_fa [f4, f7, f2], k_fl [], k_fL [], k_fp []), rfl, ⟨(show ((-2) : Int32) = if 0 ≤ tt ∧ tt ≤ 2 ∧ 0 ≤ b1 ∧ b1 ≤ 255 then (if tt = 0 then (if l4 = 24 then -4 else l4 + 1) else if tt = 1 then (if l7 = 39 then -4 else l7 + 1) else if l2 = 23 then -4 else l2 + 1) else -2 from (if_neg (show ¬ (0 ≤ tt ∧ tt ≤ 2 ∧ 0 ≤ b1 ∧ b1 ≤ 255) from (fun z => c_18 z.2.2.2))).symm), (show l4 = if tt = 0 ∧ 0 ≤ b1 ∧ b1 ≤ 255 ∧ ¬ l4 = 24 then l4 + 1 else l4 from (if_neg (show ¬ (tt = 0 ∧ 0 ≤ b1 ∧ b1 ≤ 255 ∧ ¬ l4 = 24) from (fun z => c_2 z.1))).symm), (show l7 = if tt = 1 ∧ 0 ≤ b1 ∧ b1 ≤ 255 ∧ ¬ l7 = 39 then l7 + 1 else l7 from (if_neg (show ¬ (tt = 1 ∧ 0 ≤ b1 ∧ b1 ≤ 255 ∧ ¬ l7 = 39) from (fun z => c_18 z.2.2.1))).symm), (show l2 = if tt = 2 ∧ 0 ≤ b1 ∧ b1 ≤ 255 ∧ ¬ l2 = 23 then l2 + 1 else l2 from (if_neg (show ¬ (tt = 2 ∧ 0 ≤ b1 ∧ b1 ≤ 255 ∧ ¬ l2 = 23) from (fun z => (fun z => absurd (c_16.symm.trans z) (by decide)) z.1))).symm), hh3, (if_neg (show ¬ (tt = 0 ∧ 0 ≤ b1 ∧ b1 ≤ 255 ∧ ¬ l4 = 24) from (fun z => c_2 z.1))).symm, (if_neg (show ¬ (tt = 1 ∧ 0 ≤ b1 ∧ b1 ≤ 255 ∧ ¬ l7 = 39) from (fun z => c_18 z.2.2.1))).symm, (if_neg (show ¬ (tt = 2 ∧ 0 ≤ b1 ∧ b1 ≤ 255 ∧ ¬ l2 = 23) from (fun z => (fun z => absurd (c_16.symm.trans z) (by decide)) z.1))).symm, hh4, hh5, hh6, hh7, hh8, hh9⟩, by rw [ht]; exact hP9, va_K.moved hW.alike hK, hD9⟩, hS.F ht⟩) hS.2.2 dX11_type_23
  rw [if_neg c_16] at hw
  by_cases c_29 : tt = 2
  · rw [if_pos c_29] at hw
    subst hw
    refine W.eq (g2 := F0 m₀ 5 ls [.ref aGe]) rfl ?_
    refine lv_astore_n (lv' := [(3, .ref aGe), (0, .ref hx), (1, .int tt), (2, .int b1)]) hx₀ hb dX11_type_5 rfl hl (by decide) rfl (fun ls hl => ?_)
    refine lv_aload_n hx₀ hb dX11_type_6 rfl (lv_at hl 0 rfl) ?_
    refine lv_ifnull hx₀ hb dX11_type_7 ?_
    refine lv_iload_n hx₀ hb dX11_type_10 rfl (lv_at hl 3 rfl) ?_
    refine lv_if_lt (tgt := 21) hx₀ hb dX11_type_11 (by decide) (fun c_30 => ?_) (fun c_30 => ?_)
    · refine lv_bipush (v := (-2)) hx₀ hb dX11_type_21 (by decide +kernel) ?_
      obtain ⟨hP9, hD9⟩ := k_c2 (wc := [(kX11 hx aLa aPa aGe aFl aTr aBe aLu aLo vSf vSm vCo vSh xs xl xf), (kX4 aLa vLa l4 a4 n4), (kAI vLa cI 24 f4), (kX7 aPa vPa l7 a7 n7), (kAI vPa cI 39 f7), (kX2 aGe vGe l2 a2 n2), (kAI vGe cI 23 f2)]) hP hD [6, 0, 1, 2, 3, 4, 5] (by decide +kernel) rfl
      exact W.iret (v := (-2)) hx₀ hb hr (fun t₀ ht hW => ⟨⟨(-2), (k_fn [l4, a4, n4, l7, a7, n7, l2, a2, n2], k_fa [f4, f7, f2], k_fl [], k_fL [], k_fp []), rfl, ⟨(show ((-2) : Int32) = if 0 ≤ tt ∧ tt ≤ 2 ∧ 0 ≤ b1 ∧ b1 ≤ 255 then (if tt = 0 then (if l4 = 24 then -4 else l4 + 1) else if tt = 1 then (if l7 = 39 then -4 else l7 + 1) else if l2 = 23 then -4 else l2 + 1) else -2 from (if_neg (show ¬ (0 ≤ tt ∧ tt ≤ 2 ∧ 0 ≤ b1 ∧ b1 ≤ 255) from (fun z => (Int32.not_le.mpr c_30) z.2.2.1))).symm), (show l4 = if tt = 0 ∧ 0 ≤ b1 ∧ b1 ≤ 255 ∧ ¬ l4 = 24 then l4 + 1 else l4 from (if_neg (show ¬ (tt = 0 ∧ 0 ≤ b1 ∧ b1 ≤ 255 ∧ ¬ l4 = 24) from (fun z => c_2 z.1))).symm), (show l7 = if tt = 1 ∧ 0 ≤ b1 ∧ b1 ≤ 255 ∧ ¬ l7 = 39 then l7 + 1 else l7 from (if_neg (show ¬ (tt = 1 ∧ 0 ≤ b1 ∧ b1 ≤ 255 ∧ ¬ l7 = 39) from (fun z => c_16 z.1))).symm), (show l2 = if tt = 2 ∧ 0 ≤ b1 ∧ b1 ≤ 255 ∧ ¬ l2 = 23 then l2 + 1 else l2 from (if_neg (show ¬ (tt = 2 ∧ 0 ≤ b1 ∧ b1 ≤ 255 ∧ ¬ l2 = 23) from (fun z => (Int32.not_le.mpr c_30) z.2.1))).symm), hh3, (if_neg (show ¬ (tt = 0 ∧ 0 ≤ b1 ∧ b1 ≤ 255 ∧ ¬ l4 = 24) from (fun z => c_2 z.1))).symm, (if_neg (show ¬ (tt = 1 ∧ 0 ≤ b1 ∧ b1 ≤ 255 ∧ ¬ l7 = 39) from (fun z => c_16 z.1))).symm, (if_neg (show ¬ (tt = 2 ∧ 0 ≤ b1 ∧ b1 ≤ 255 ∧ ¬ l2 = 23) from (fun z => (Int32.not_le.mpr c_30) z.2.1))).symm, hh4, hh5, hh6, hh7, hh8, hh9⟩, by rw [ht]; exact hP9, va_K.moved hW.alike hK, hD9⟩, hS.F ht⟩) hS.2.2 dX11_type_23
    · refine lv_iload_n hx₀ hb dX11_type_14 rfl (lv_at hl 3 rfl) ?_
      refine lv_sipush (v := 255) hx₀ hb dX11_type_15 (by decide +kernel) ?_
      refine lv_icmp_le (tgt := 24) hx₀ hb dX11_type_18 (by decide) (fun c_31 => ?_) (fun c_31 => ?_)
      · refine lv_aload_n hx₀ hb dX11_type_24 rfl (lv_at hl 0 rfl) ?_
        obtain ⟨hPc, hDc, hFc, hC⟩ := k_cw (wc := [(kX2 aGe vGe l2 a2 n2), (kAI vGe cI 23 f2)]) hP hD hS hA [4, 5] (by decide +kernel) rfl
        refine va_calli (va_runU (As := []) (rest := []) ⟨hx₀, hb, hml, hown, hts⟩ (j_isFull_X2 l dC dI cI cJ cQ H.size aGe vGe l2 a2 n2 f2) (va_cwU 0 hts (kGU wd_146 wd_142 wd_143 wd_144 wd_145 wd_57) rfl rfl rfl rfl (by decide +kernel) ⟨Nat.le_of_ble_eq_true rfl, Nat.le_of_ble_eq_true rfl⟩) (k_preV2 (q0 := 0) hK hPc hDc hN rfl) rfl rfl hl.1 rfl (lv_room (Nat.le_of_ble_eq_true rfl)) dX11_type_25 ⟨by decide +kernel, by decide +kernel⟩) hS (fun q _ h => hFc q h) hFc (fun r_32 u₀ t₀ H1 locs ht hvm hw hB hz1 hk1 hS => ?_)
        obtain ⟨hP1, hK1, hD1⟩ := hB
        rw [ht] at hP1
        have hJ := k_jn (wr := [(kX4 aLa vLa l4 a4 n4), (kAI vLa cI 24 f4), (kX7 aPa vPa l7 a7 n7), (kAI vPa cI 39 f7), (kX11 hx aLa aPa aGe aFl aTr aBe aLu aLo vSf vSm vCo vSh xs xl xf)]) (wt := [(kX4 aLa vLa l4 a4 n4), (kAI vLa cI 24 f4), (kX7 aPa vPa l7 a7 n7), (kAI vPa cI 39 f7), (kX11 hx aLa aPa aGe aFl aTr aBe aLu aLo vSf vSm vCo vSh xs xl xf), (kX2 aGe vGe l2 a2 n2), (kAI vGe cI 23 f2)]) hP hD hC [0, 1, 2, 3, 6] rfl (by decide +kernel) (by decide +kernel) hk1 hFc hP1 hD1 rfl
        clear hP hD hPc hDc hFc hC hP1 hD1 hK1 hz1 hk1 hvm ht
        obtain ⟨hP, hD⟩ := hJ
        generalize H1 = H at hP hS ⊢
        try dsimp only at hw
        by_cases c_33 : 23 ≤ l2
        · rw [if_pos c_33] at hw
          refine k_topi (v := 1) hw ?_
          refine lv_if_eq (tgt := 34) hx₀ hb dX11_type_28 (by decide) (fun c9 => absurd c9 (by decide +kernel)) (fun _ => ?_)
          refine lv_bipush (v := (-4)) hx₀ hb dX11_type_31 (by decide +kernel) ?_
          obtain ⟨hP9, hD9⟩ := k_c2 (wc := [(kX11 hx aLa aPa aGe aFl aTr aBe aLu aLo vSf vSm vCo vSh xs xl xf), (kX4 aLa vLa l4 a4 n4), (kAI vLa cI 24 f4), (kX7 aPa vPa l7 a7 n7), (kAI vPa cI 39 f7), (kX2 aGe vGe l2 a2 n2), (kAI vGe cI 23 f2)]) hP hD [4, 0, 1, 2, 3, 5, 6] (by decide +kernel) rfl
          exact W.iret (v := (-4)) hx₀ hb hr (fun t₀ ht hW => ⟨⟨(-4), (k_fn [l4, a4, n4, l7, a7, n7, l2, a2, n2], k_fa [f4, f7, f2], k_fl [], k_fL [], k_fp []), rfl, ⟨(show ((-4) : Int32) = if 0 ≤ tt ∧ tt ≤ 2 ∧ 0 ≤ b1 ∧ b1 ≤ 255 then (if tt = 0 then (if l4 = 24 then -4 else l4 + 1) else if tt = 1 then (if l7 = 39 then -4 else l7 + 1) else if l2 = 23 then -4 else l2 + 1) else -2 from (((((((if_pos (show l2 = 23 from (Int32.le_antisymm hh2.2 c_33))).symm).trans (if_neg (c_16)).symm)).trans (if_neg (c_2)).symm)).trans (if_pos (show 0 ≤ tt ∧ tt ≤ 2 ∧ 0 ≤ b1 ∧ b1 ≤ 255 from ⟨(by rw [show tt = 2 from c_29]; decide), (by rw [show tt = 2 from c_29]; decide), (Int32.not_lt.mp c_30), c_31⟩)).symm)), (show l4 = if tt = 0 ∧ 0 ≤ b1 ∧ b1 ≤ 255 ∧ ¬ l4 = 24 then l4 + 1 else l4 from (if_neg (show ¬ (tt = 0 ∧ 0 ≤ b1 ∧ b1 ≤ 255 ∧ ¬ l4 = 24) from (fun z => c_2 z.1))).symm), (show l7 = if tt = 1 ∧ 0 ≤ b1 ∧ b1 ≤ 255 ∧ ¬ l7 = 39 then l7 + 1 else l7 from (if_neg (show ¬ (tt = 1 ∧ 0 ≤ b1 ∧ b1 ≤ 255 ∧ ¬ l7 = 39) from (fun z => c_16 z.1))).symm), (show l2 = if tt = 2 ∧ 0 ≤ b1 ∧ b1 ≤ 255 ∧ ¬ l2 = 23 then l2 + 1 else l2 from (if_neg (show ¬ (tt = 2 ∧ 0 ≤ b1 ∧ b1 ≤ 255 ∧ ¬ l2 = 23) from (fun z => (fun z => z (Int32.le_antisymm hh2.2 c_33)) z.2.2.2))).symm), hh3, (if_neg (show ¬ (tt = 0 ∧ 0 ≤ b1 ∧ b1 ≤ 255 ∧ ¬ l4 = 24) from (fun z => c_2 z.1))).symm, (if_neg (show ¬ (tt = 1 ∧ 0 ≤ b1 ∧ b1 ≤ 255 ∧ ¬ l7 = 39) from (fun z => c_16 z.1))).symm, (if_neg (show ¬ (tt = 2 ∧ 0 ≤ b1 ∧ b1 ≤ 255 ∧ ¬ l2 = 23) from (fun z => (fun z => z (Int32.le_antisymm hh2.2 c_33)) z.2.2.2))).symm, hh4, hh5, hh6, hh7, hh8, hh9⟩, by rw [ht]; exact hP9, va_K.moved hW.alike hK, hD9⟩, hS.F ht⟩) hS.2.2 dX11_type_33
        rw [if_neg c_33] at hw
        refine k_topi (v := 0) hw ?_
        refine lv_if_eq (tgt := 34) hx₀ hb dX11_type_28 (by decide) (fun _ => ?_) (fun c9 => absurd (by decide +kernel) c9)
        refine lv_aload_n hx₀ hb dX11_type_34 rfl (lv_at hl 0 rfl) ?_
        refine lv_iload_n hx₀ hb dX11_type_35 rfl (lv_at hl 3 rfl) ?_
        obtain ⟨hPc, hDc, hFc, hC⟩ := k_cw (wc := [(kX2 aGe vGe l2 a2 n2), (kAI vGe cI 23 f2)]) hP hD hS hA [5, 6] (by decide +kernel) rfl
        refine va_callv (va_runU (As := [.int b1]) (rest := []) ⟨hx₀, hb, hml, hown, hts⟩ (j_append_X2 l dC dI cI cJ cQ H.size aGe b1 vGe l2 a2 n2 f2 (show 0 ≤ l2 ∧ l2 < 23 from ⟨hh2.1, (Int32.not_le.mp c_33)⟩)) (va_cwU 1 hts (kGU wd_154 wd_150 wd_151 wd_152 wd_153 wd_57) rfl rfl rfl rfl (by decide +kernel) ⟨Nat.le_of_ble_eq_true rfl, Nat.le_of_ble_eq_true rfl⟩) (k_preV2 (q0 := 0) hK hPc hDc hN rfl) rfl rfl hl.1 rfl (lv_room (Nat.le_of_ble_eq_true rfl)) dX11_type_36 ⟨by decide +kernel, by decide +kernel⟩) hS (fun q _ h => hFc q h) hFc (fun u₀ t₀ H1 locs ht hvm hw hB hz1 hk1 hS => ?_)
        obtain ⟨g_35, ga_36, gl_37, gb_38, gp_39⟩ := u₀
        obtain ⟨hP1, hK1, hD1⟩ := hB
        rw [ht] at hP1
        have hJ := k_jn (wr := [(kX4 aLa vLa l4 a4 n4), (kAI vLa cI 24 f4), (kX7 aPa vPa l7 a7 n7), (kAI vPa cI 39 f7), (kX11 hx aLa aPa aGe aFl aTr aBe aLu aLo vSf vSm vCo vSh xs xl xf)]) (wt := [(kX4 aLa vLa l4 a4 n4), (kAI vLa cI 24 f4), (kX7 aPa vPa l7 a7 n7), (kAI vPa cI 39 f7), (kX11 hx aLa aPa aGe aFl aTr aBe aLu aLo vSf vSm vCo vSh xs xl xf), (kX2 aGe vGe (l2 + 1) (g_35 0) (g_35 1)), (kAI vGe cI 23 (upd f2 l2.toNatClampNeg (wG (l2 - l2 / 3 * 3) b1)))]) hP hD hC [0, 1, 2, 3, 4] rfl (by decide +kernel) (by decide +kernel) hk1 hFc hP1 hD1 rfl
        clear hP hD hPc hDc hFc hC hP1 hD1 hK1 hz1 hk1 hvm ht
        obtain ⟨hP, hD⟩ := hJ
        generalize H1 = H at hP hS ⊢
        try dsimp only at hw
        obtain ⟨c_40, c_41⟩ := hw
        refine lv_aload_n hx₀ hb dX11_type_39 rfl (lv_at hl 0 rfl) ?_
        refine va_get (D := (dC, dI)) (ci := 2) (v := .int (l2 + 1)) (C := RX2) (T := TX2) (N := 4) hx₀ hb hts inlX2 hown hK hP 5 rfl rfl 1 (by decide) (hts (.fieldLink RX11 98 "BittenStick$Text" "length" "I") wd_137) (fun _ h9 => h9) rfl dX11_type_40 ?_
        obtain ⟨hP9, hD9⟩ := k_c2 (wc := [(kX11 hx aLa aPa aGe aFl aTr aBe aLu aLo vSf vSm vCo vSh xs xl xf), (kX4 aLa vLa l4 a4 n4), (kAI vLa cI 24 f4), (kX7 aPa vPa l7 a7 n7), (kAI vPa cI 39 f7), (kX2 aGe vGe (l2 + 1) (g_35 0) (g_35 1)), (kAI vGe cI 23 (upd f2 l2.toNatClampNeg (wG (l2 - l2 / 3 * 3) b1)))]) hP hD [4, 0, 1, 2, 3, 5, 6] (by decide +kernel) rfl
        exact W.iret (v := l2 + 1) hx₀ hb hr (fun t₀ ht hW => ⟨⟨l2 + 1, (k_fn [l4, a4, n4, l7, a7, n7, (l2 + 1), (g_35 0), (g_35 1)], k_fa [f4, f7, upd f2 l2.toNatClampNeg (wG (l2 - l2 / 3 * 3) b1)], k_fl [], k_fL [], k_fp []), rfl, ⟨(show (l2 + 1 : Int32) = if 0 ≤ tt ∧ tt ≤ 2 ∧ 0 ≤ b1 ∧ b1 ≤ 255 then (if tt = 0 then (if l4 = 24 then -4 else l4 + 1) else if tt = 1 then (if l7 = 39 then -4 else l7 + 1) else if l2 = 23 then -4 else l2 + 1) else -2 from (((((((if_neg (show ¬ (l2 = 23) from (fun z => c_33 (k_leq z.symm)))).symm).trans (if_neg (c_16)).symm)).trans (if_neg (c_2)).symm)).trans (if_pos (show 0 ≤ tt ∧ tt ≤ 2 ∧ 0 ≤ b1 ∧ b1 ≤ 255 from ⟨(by rw [show tt = 2 from c_29]; decide), (by rw [show tt = 2 from c_29]; decide), (Int32.not_lt.mp c_30), c_31⟩)).symm)), (show l4 = if tt = 0 ∧ 0 ≤ b1 ∧ b1 ≤ 255 ∧ ¬ l4 = 24 then l4 + 1 else l4 from (if_neg (show ¬ (tt = 0 ∧ 0 ≤ b1 ∧ b1 ≤ 255 ∧ ¬ l4 = 24) from (fun z => c_2 z.1))).symm), (show l7 = if tt = 1 ∧ 0 ≤ b1 ∧ b1 ≤ 255 ∧ ¬ l7 = 39 then l7 + 1 else l7 from (if_neg (show ¬ (tt = 1 ∧ 0 ≤ b1 ∧ b1 ≤ 255 ∧ ¬ l7 = 39) from (fun z => c_16 z.1))).symm), (show (l2 + 1) = if tt = 2 ∧ 0 ≤ b1 ∧ b1 ≤ 255 ∧ ¬ l2 = 23 then l2 + 1 else l2 from (if_pos (show tt = 2 ∧ 0 ≤ b1 ∧ b1 ≤ 255 ∧ ¬ l2 = 23 from ⟨c_29, (Int32.not_lt.mp c_30), c_31, (fun z => c_33 (k_leq z.symm))⟩)).symm), hh3, (if_neg (show ¬ (tt = 0 ∧ 0 ≤ b1 ∧ b1 ≤ 255 ∧ ¬ l4 = 24) from (fun z => c_2 z.1))).symm, (if_neg (show ¬ (tt = 1 ∧ 0 ≤ b1 ∧ b1 ≤ 255 ∧ ¬ l7 = 39) from (fun z => c_16 z.1))).symm, (if_pos (show tt = 2 ∧ 0 ≤ b1 ∧ b1 ≤ 255 ∧ ¬ l2 = 23 from ⟨c_29, (Int32.not_lt.mp c_30), c_31, (fun z => c_33 (k_leq z.symm))⟩)).symm, hh4, hh5, hh6, hh7, c_40, c_41⟩, by rw [ht]; exact hP9, va_K.moved hW.alike hK, hD9⟩, hS.F ht⟩) hS.2.2 dX11_type_43
      · refine lv_bipush (v := (-2)) hx₀ hb dX11_type_21 (by decide +kernel) ?_
        obtain ⟨hP9, hD9⟩ := k_c2 (wc := [(kX11 hx aLa aPa aGe aFl aTr aBe aLu aLo vSf vSm vCo vSh xs xl xf), (kX4 aLa vLa l4 a4 n4), (kAI vLa cI 24 f4), (kX7 aPa vPa l7 a7 n7), (kAI vPa cI 39 f7), (kX2 aGe vGe l2 a2 n2), (kAI vGe cI 23 f2)]) hP hD [6, 0, 1, 2, 3, 4, 5] (by decide +kernel) rfl
        exact W.iret (v := (-2)) hx₀ hb hr (fun t₀ ht hW => ⟨⟨(-2), (k_fn [l4, a4, n4, l7, a7, n7, l2, a2, n2], k_fa [f4, f7, f2], k_fl [], k_fL [], k_fp []), rfl, ⟨(show ((-2) : Int32) = if 0 ≤ tt ∧ tt ≤ 2 ∧ 0 ≤ b1 ∧ b1 ≤ 255 then (if tt = 0 then (if l4 = 24 then -4 else l4 + 1) else if tt = 1 then (if l7 = 39 then -4 else l7 + 1) else if l2 = 23 then -4 else l2 + 1) else -2 from (if_neg (show ¬ (0 ≤ tt ∧ tt ≤ 2 ∧ 0 ≤ b1 ∧ b1 ≤ 255) from (fun z => c_31 z.2.2.2))).symm), (show l4 = if tt = 0 ∧ 0 ≤ b1 ∧ b1 ≤ 255 ∧ ¬ l4 = 24 then l4 + 1 else l4 from (if_neg (show ¬ (tt = 0 ∧ 0 ≤ b1 ∧ b1 ≤ 255 ∧ ¬ l4 = 24) from (fun z => c_2 z.1))).symm), (show l7 = if tt = 1 ∧ 0 ≤ b1 ∧ b1 ≤ 255 ∧ ¬ l7 = 39 then l7 + 1 else l7 from (if_neg (show ¬ (tt = 1 ∧ 0 ≤ b1 ∧ b1 ≤ 255 ∧ ¬ l7 = 39) from (fun z => c_16 z.1))).symm), (show l2 = if tt = 2 ∧ 0 ≤ b1 ∧ b1 ≤ 255 ∧ ¬ l2 = 23 then l2 + 1 else l2 from (if_neg (show ¬ (tt = 2 ∧ 0 ≤ b1 ∧ b1 ≤ 255 ∧ ¬ l2 = 23) from (fun z => c_31 z.2.2.1))).symm), hh3, (if_neg (show ¬ (tt = 0 ∧ 0 ≤ b1 ∧ b1 ≤ 255 ∧ ¬ l4 = 24) from (fun z => c_2 z.1))).symm, (if_neg (show ¬ (tt = 1 ∧ 0 ≤ b1 ∧ b1 ≤ 255 ∧ ¬ l7 = 39) from (fun z => c_16 z.1))).symm, (if_neg (show ¬ (tt = 2 ∧ 0 ≤ b1 ∧ b1 ≤ 255 ∧ ¬ l2 = 23) from (fun z => c_31 z.2.2.1))).symm, hh4, hh5, hh6, hh7, hh8, hh9⟩, by rw [ht]; exact hP9, va_K.moved hW.alike hK, hD9⟩, hS.F ht⟩) hS.2.2 dX11_type_23
  rw [if_neg c_29] at hw
  subst hw
  refine W.eq (g2 := F0 m₀ 5 ls [.null]) rfl ?_
  refine lv_astore_nN (lv' := [(3, .null), (0, .ref hx), (1, .int tt), (2, .int b1)]) hx₀ hb dX11_type_5 rfl hl (by decide) rfl (fun ls hl => ?_)
  refine lv_aload_nN hx₀ hb dX11_type_6 rfl (lv_at hl 0 rfl) ?_
  refine lv_ifnullN (tgt := 21) hx₀ hb dX11_type_7 (by decide) ?_
  refine lv_bipush (v := (-2)) hx₀ hb dX11_type_21 (by decide +kernel) ?_
  obtain ⟨hP9, hD9⟩ := k_c2 (wc := [(kX11 hx aLa aPa aGe aFl aTr aBe aLu aLo vSf vSm vCo vSh xs xl xf), (kX4 aLa vLa l4 a4 n4), (kAI vLa cI 24 f4), (kX7 aPa vPa l7 a7 n7), (kAI vPa cI 39 f7), (kX2 aGe vGe l2 a2 n2), (kAI vGe cI 23 f2)]) hP hD [6, 0, 1, 2, 3, 4, 5] (by decide +kernel) rfl
  exact W.iret (v := (-2)) hx₀ hb hr (fun t₀ ht hW => ⟨⟨(-2), (k_fn [l4, a4, n4, l7, a7, n7, l2, a2, n2], k_fa [f4, f7, f2], k_fl [], k_fL [], k_fp []), rfl, ⟨(show ((-2) : Int32) = if 0 ≤ tt ∧ tt ≤ 2 ∧ 0 ≤ b1 ∧ b1 ≤ 255 then (if tt = 0 then (if l4 = 24 then -4 else l4 + 1) else if tt = 1 then (if l7 = 39 then -4 else l7 + 1) else if l2 = 23 then -4 else l2 + 1) else -2 from (if_neg (lf_j_type_1 tt b1 c_2 c_16 c_29)).symm), (show l4 = if tt = 0 ∧ 0 ≤ b1 ∧ b1 ≤ 255 ∧ ¬ l4 = 24 then l4 + 1 else l4 from (if_neg (show ¬ (tt = 0 ∧ 0 ≤ b1 ∧ b1 ≤ 255 ∧ ¬ l4 = 24) from (fun z => c_2 z.1))).symm), (show l7 = if tt = 1 ∧ 0 ≤ b1 ∧ b1 ≤ 255 ∧ ¬ l7 = 39 then l7 + 1 else l7 from (if_neg (show ¬ (tt = 1 ∧ 0 ≤ b1 ∧ b1 ≤ 255 ∧ ¬ l7 = 39) from (fun z => c_16 z.1))).symm), (show l2 = if tt = 2 ∧ 0 ≤ b1 ∧ b1 ≤ 255 ∧ ¬ l2 = 23 then l2 + 1 else l2 from (if_neg (show ¬ (tt = 2 ∧ 0 ≤ b1 ∧ b1 ≤ 255 ∧ ¬ l2 = 23) from (fun z => c_29 z.1))).symm), hh3, (if_neg (show ¬ (tt = 0 ∧ 0 ≤ b1 ∧ b1 ≤ 255 ∧ ¬ l4 = 24) from (fun z => c_2 z.1))).symm, (if_neg (show ¬ (tt = 1 ∧ 0 ≤ b1 ∧ b1 ≤ 255 ∧ ¬ l7 = 39) from (fun z => c_16 z.1))).symm, (if_neg (show ¬ (tt = 2 ∧ 0 ≤ b1 ∧ b1 ≤ 255 ∧ ¬ l2 = 23) from (fun z => c_29 z.1))).symm, hh4, hh5, hh6, hh7, hh8, hh9⟩, by rw [ht]; exact hP9, va_K.moved hW.alike hK, hD9⟩, hS.F ht⟩) hS.2.2 dX11_type_23
theorem lf_j_wipe_1 (a0 : Int32) (a1 : Int32) (a2 : Int32) (h0 : 0 ≤ a0 ∧ a0 ≤ 24) (h1 : a1 = 0) (h2 : 0 ≤ (a2) ∧ (a2) ≤ a0) (h3 : (a2) = (0 : Int32) ∨ (0 : Int32) < 0 ∨ a0 ≤ (0 : Int32)) : (a2) = if a1 = 0 then 0 else a0 := by
  (repeat' split) <;> first | rfl | contradiction | assumption | (exfalso; (first | rfl | assumption | decide | omega | (have hr0 := Int32.toInt_lt a0; have hs0 := Int32.le_toInt a0; have hr1 := Int32.toInt_lt a1; have hs1 := Int32.le_toInt a1; have hr2 := Int32.toInt_lt a2; have hs2 := Int32.le_toInt a2; simp only [Int64.toInt_add, Int64.toInt_sub, Int32.toInt_add, Int32.toInt_sub, Int32.toInt_mul, Int64.le_iff_toInt_le, Int64.lt_iff_toInt_lt, Int32.le_iff_toInt_le, Int32.lt_iff_toInt_lt, ← Int32.toInt_inj, ← Int64.toInt_inj, Int32.toInt_toInt64, kc_0, kc_24, true_and, and_true, not_true_eq_false, not_false_eq_true] at * <;> ((first | omega | ((try simp (disch := omega) only [k_bm64] at *); (try simp (disch := omega) only [k_bm] at *); (try simp (disch := omega) only [k_bm] at *); omega) | (simp only [Int.bmod] at *; omega)))))) | (first | rfl | assumption | decide | omega | (have hr0 := Int32.toInt_lt a0; have hs0 := Int32.le_toInt a0; have hr1 := Int32.toInt_lt a1; have hs1 := Int32.le_toInt a1; have hr2 := Int32.toInt_lt a2; have hs2 := Int32.le_toInt a2; simp only [Int64.toInt_add, Int64.toInt_sub, Int32.toInt_add, Int32.toInt_sub, Int32.toInt_mul, Int64.le_iff_toInt_le, Int64.lt_iff_toInt_lt, Int32.le_iff_toInt_le, Int32.lt_iff_toInt_lt, ← Int32.toInt_inj, ← Int64.toInt_inj, Int32.toInt_toInt64, kc_0, kc_24, true_and, and_true, not_true_eq_false, not_false_eq_true] at * <;> ((first | omega | ((try simp (disch := omega) only [k_bm64] at *); (try simp (disch := omega) only [k_bm] at *); (try simp (disch := omega) only [k_bm] at *); omega) | (simp only [Int.bmod] at *; omega)))))
theorem lf_j_wipe_2 (a0 : Int32) (a1 : Int32) (a2 : Int32) (h0 : 0 ≤ a0 ∧ a0 ≤ 39) (h1 : ¬ (a1 = 0)) (h2 : a1 = 1) (h3 : 0 ≤ (a2) ∧ (a2) ≤ a0) (h4 : (a2) = (0 : Int32) ∨ (0 : Int32) < 0 ∨ a0 ≤ (0 : Int32)) : (a2) = if a1 = 1 then 0 else a0 := by
  (repeat' split) <;> first | rfl | contradiction | assumption | (exfalso; (first | rfl | assumption | decide | omega | (have hr0 := Int32.toInt_lt a0; have hs0 := Int32.le_toInt a0; have hr1 := Int32.toInt_lt a1; have hs1 := Int32.le_toInt a1; have hr2 := Int32.toInt_lt a2; have hs2 := Int32.le_toInt a2; simp only [Int64.toInt_add, Int64.toInt_sub, Int32.toInt_add, Int32.toInt_sub, Int32.toInt_mul, Int64.le_iff_toInt_le, Int64.lt_iff_toInt_lt, Int32.le_iff_toInt_le, Int32.lt_iff_toInt_lt, ← Int32.toInt_inj, ← Int64.toInt_inj, Int32.toInt_toInt64, kc_0, kc_1, kc_39, true_and, and_true, not_true_eq_false, not_false_eq_true] at * <;> ((first | omega | ((try simp (disch := omega) only [k_bm64] at *); (try simp (disch := omega) only [k_bm] at *); (try simp (disch := omega) only [k_bm] at *); omega) | (simp only [Int.bmod] at *; omega)))))) | (first | rfl | assumption | decide | omega | (have hr0 := Int32.toInt_lt a0; have hs0 := Int32.le_toInt a0; have hr1 := Int32.toInt_lt a1; have hs1 := Int32.le_toInt a1; have hr2 := Int32.toInt_lt a2; have hs2 := Int32.le_toInt a2; simp only [Int64.toInt_add, Int64.toInt_sub, Int32.toInt_add, Int32.toInt_sub, Int32.toInt_mul, Int64.le_iff_toInt_le, Int64.lt_iff_toInt_lt, Int32.le_iff_toInt_le, Int32.lt_iff_toInt_lt, ← Int32.toInt_inj, ← Int64.toInt_inj, Int32.toInt_toInt64, kc_0, kc_1, kc_39, true_and, and_true, not_true_eq_false, not_false_eq_true] at * <;> ((first | omega | ((try simp (disch := omega) only [k_bm64] at *); (try simp (disch := omega) only [k_bm] at *); (try simp (disch := omega) only [k_bm] at *); omega) | (simp only [Int.bmod] at *; omega)))))
theorem lf_j_wipe_3 (a0 : Int32) (a1 : Int32) (a2 : Int32) (h0 : 0 ≤ a0 ∧ a0 ≤ 23) (h1 : ¬ (a1 = 0)) (h2 : ¬ (a1 = 1)) (h3 : a1 = 2) (h4 : 0 ≤ (a2) ∧ (a2) ≤ a0) (h5 : (a2) = (0 : Int32) ∨ (0 : Int32) < 0 ∨ a0 ≤ (0 : Int32)) : (a2) = if a1 = 2 then 0 else a0 := by
  (repeat' split) <;> first | rfl | contradiction | assumption | (exfalso; (first | rfl | assumption | decide | omega | (have hr0 := Int32.toInt_lt a0; have hs0 := Int32.le_toInt a0; have hr1 := Int32.toInt_lt a1; have hs1 := Int32.le_toInt a1; have hr2 := Int32.toInt_lt a2; have hs2 := Int32.le_toInt a2; simp only [Int64.toInt_add, Int64.toInt_sub, Int32.toInt_add, Int32.toInt_sub, Int32.toInt_mul, Int64.le_iff_toInt_le, Int64.lt_iff_toInt_lt, Int32.le_iff_toInt_le, Int32.lt_iff_toInt_lt, ← Int32.toInt_inj, ← Int64.toInt_inj, Int32.toInt_toInt64, kc_0, kc_1, kc_2, kc_23, true_and, and_true, not_true_eq_false, not_false_eq_true] at * <;> ((first | omega | ((try simp (disch := omega) only [k_bm64] at *); (try simp (disch := omega) only [k_bm] at *); (try simp (disch := omega) only [k_bm] at *); omega) | (simp only [Int.bmod] at *; omega)))))) | (first | rfl | assumption | decide | omega | (have hr0 := Int32.toInt_lt a0; have hs0 := Int32.le_toInt a0; have hr1 := Int32.toInt_lt a1; have hs1 := Int32.le_toInt a1; have hr2 := Int32.toInt_lt a2; have hs2 := Int32.le_toInt a2; simp only [Int64.toInt_add, Int64.toInt_sub, Int32.toInt_add, Int32.toInt_sub, Int32.toInt_mul, Int64.le_iff_toInt_le, Int64.lt_iff_toInt_lt, Int32.le_iff_toInt_le, Int32.lt_iff_toInt_lt, ← Int32.toInt_inj, ← Int64.toInt_inj, Int32.toInt_toInt64, kc_0, kc_1, kc_2, kc_23, true_and, and_true, not_true_eq_false, not_false_eq_true] at * <;> ((first | omega | ((try simp (disch := omega) only [k_bm64] at *); (try simp (disch := omega) only [k_bm] at *); (try simp (disch := omega) only [k_bm] at *); omega) | (simp only [Int.bmod] at *; omega)))))
set_option maxHeartbeats 4000000 in
set_option maxRecDepth 100000 in
theorem j_wipe (l : Launch) (dC : Nat → ClassId) (dI : Nat → Nat → Nat) (cI cJ cQ : ClassId) (sz : Nat) (hx : Nat) (tt : Int32) (aLa : Nat) (aPa : Nat) (aGe : Nat) (aFl : Nat) (aTr : Nat) (aBe : Nat) (aLu : Nat) (aLo : Nat) (vSf : Nat) (vSm : Nat) (vCo : Nat) (vSh : Nat) (xs : Int32) (xl : Int32) (xf : Int32) (vLa : Nat) (l4 : Int32) (a4 : Int32) (n4 : Int32) (f4 : Nat → Int32) (vPa : Nat) (l7 : Int32) (a7 : Int32) (n7 : Int32) (f7 : Nat → Int32) (vGe : Nat) (l2 : Int32) (a2 : Int32) (n2 : Int32) (f2 : Nat → Int32) (hh0 : 0 ≤ l4 ∧ l4 ≤ 24) (hh1 : 0 ≤ l7 ∧ l7 ≤ 39) (hh2 : 0 ≤ l2 ∧ l2 ≤ 23) (hh3 : 0 ≤ n4 ∧ n4 ≤ 24) (hh4 : a4 = kFt l4 l4 f4) (hh5 : n4 = kNm l4 l4 f4) (hh6 : a7 = kFt (kTh7 l7) l7 f7) (hh7 : n7 = kNm (kTh7 l7) l7 f7) (hh8 : a2 = kFt (kTh2 l2) l2 f2) (hh9 : n2 = kNm (kTh2 l2) l2 f2) : Met l yX11_wipe (kW yX11_wipe cX11_wipe 4 (some .int)) { frames := 3, cells := 0, slots := 0, locals := 63 } (kPre dC dI cI cJ cQ sz [.ref hx, .int tt] [(kX11 hx aLa aPa aGe aFl aTr aBe aLu aLo vSf vSm vCo vSh xs xl xf), (kX4 aLa vLa l4 a4 n4), (kAI vLa cI 24 f4), (kX7 aPa vPa l7 a7 n7), (kAI vPa cI 39 f7), (kX2 aGe vGe l2 a2 n2), (kAI vGe cI 23 f2)]) (va_Qi (fun (r : Int32) (u : kS) => (r = if tt = 0 then l4 else if tt = 1 then l7 else if tt = 2 then l2 else -2) ∧ ((u.1 0) = if tt = 0 then 0 else l4) ∧ ((u.1 3) = if tt = 1 then 0 else l7) ∧ ((u.1 6) = if tt = 2 then 0 else l2) ∧ (0 ≤ (u.1 2) ∧ (u.1 2) ≤ 24) ∧ ((u.1 1) = kFt (u.1 0) (u.1 0) f4) ∧ ((u.1 2) = kNm (u.1 0) (u.1 0) f4) ∧ ((u.1 4) = kFt (kTh7 (u.1 3)) (u.1 3) f7) ∧ ((u.1 5) = kNm (kTh7 (u.1 3)) (u.1 3) f7) ∧ ((u.1 7) = kFt (kTh2 (u.1 6)) (u.1 6) f2) ∧ ((u.1 8) = kNm (kTh2 (u.1 6)) (u.1 6) f2)) (fun (u : kS) t₀ => kB dC dI cI cJ cQ (va_A [(kX11 hx aLa aPa aGe aFl aTr aBe aLu aLo vSf vSm vCo vSh xs xl xf), (kX4 aLa vLa l4 a4 n4), (kAI vLa cI 24 f4), (kX7 aPa vPa l7 a7 n7), (kAI vPa cI 39 f7), (kX2 aGe vGe l2 a2 n2), (kAI vGe cI 23 f2)] sz) [(kX11 hx aLa aPa aGe aFl aTr aBe aLu aLo vSf vSm vCo vSh xs xl xf), (kX4 aLa vLa (u.1 0) (u.1 1) (u.1 2)), (kAI vLa cI 24 f4), (kX7 aPa vPa (u.1 3) (u.1 4) (u.1 5)), (kAI vPa cI 39 f7), (kX2 aGe vGe (u.1 6) (u.1 7) (u.1 8)), (kAI vGe cI 23 f2)] t₀) (va_A [(kX11 hx aLa aPa aGe aFl aTr aBe aLu aLo vSf vSm vCo vSh xs xl xf), (kX4 aLa vLa l4 a4 n4), (kAI vLa cI 24 f4), (kX7 aPa vPa l7 a7 n7), (kAI vPa cI 39 f7), (kX2 aGe vGe l2 a2 n2), (kAI vGe cI 23 f2)] sz)) 0 0 (va_A [(kX11 hx aLa aPa aGe aFl aTr aBe aLu aLo vSf vSm vCo vSh xs xl xf), (kX4 aLa vLa l4 a4 n4), (kAI vLa cI 24 f4), (kX7 aPa vPa l7 a7 n7), (kAI vPa cI 39 f7), (kX2 aGe vGe l2 a2 n2), (kAI vGe cI 23 f2)] sz) := by
  refine Met.ofW (cc := cX11_wipe) (maxL := 4) (ret := (some .int)) (by decide) rfl ?_
  intro p₀ e₀ s₀ m₀ args below meth c₀ s₁ B hml hv₀
  obtain ⟨rfl, hsz, hP, hK, hD0, hN⟩ := hv₀
  have hx₀ := B.exec
  have hb := B.bytes
  have hr := B.returns
  have hts := atoms_spec (ws := (kW yX11_wipe cX11_wipe 4 (some .int))) B.pre
  have hts := fun w h => hts w (List.mem_cons_of_mem _ h)
  have hown : s₀.vm.findClass RX11 = some m₀.cls := findClass_of_methodNamed B.named
  have hlocks := B.notSynchronized
  subst hsz
  have hD := hD0.self (sz := s₀.heap.size)
  generalize hAe : va_A [(kX11 hx aLa aPa aGe aFl aTr aBe aLu aLo vSf vSm vCo vSh xs xl xf), (kX4 aLa vLa l4 a4 n4), (kAI vLa cI 24 f4), (kX7 aPa vPa l7 a7 n7), (kAI vPa cI 39 f7), (kX2 aGe vGe l2 a2 n2), (kAI vGe cI 23 f2)] s₀.heap.size = A at hD ⊢
  have hA : ∀ q : Nat, s₀.heap.size ≤ q → A q := fun q h => by rw [← hAe]; exact Or.inr h
  have hS : va_S A s₀.heap s₀.heap [] := va_S.rf
  have hP : va_P (dC, dI) vwCl [(kX11 hx aLa aPa aGe aFl aTr aBe aLu aLo vSf vSm vCo vSh xs xl xf), (kX4 aLa vLa l4 a4 n4), (kAI vLa cI 24 f4), (kX7 aPa vPa l7 a7 n7), (kAI vPa cI 39 f7), (kX2 aGe vGe l2 a2 n2), (kAI vGe cI 23 f2)] s₀.heap := hP
  have hl := lv_entry ([.ref hx, .int tt]) (n := 4) (Nat.le_of_ble_eq_true rfl)
  rw [lg_entry_eq]
  generalize (lg_sl ([.ref hx, .int tt]) ++ List.replicate (4 - (lg_sl ([.ref hx, .int tt])).length) Slot.unset).toArray = ls at hl ⊢
  have hl : lv_has ls 4 [(0, .ref hx), (1, .int tt)] := hl
  obtain ⟨H, hH⟩ : ∃ z : Heap, z = s₀.heap := ⟨_, rfl⟩
  rw [← hH] at hP
  have hS : va_S A s₀.heap H [] := by rw [hH]; exact hS
  refine k_heap hH ?_
  have hD : va_D A [(kX11 hx aLa aPa aGe aFl aTr aBe aLu aLo vSf vSm vCo vSh xs xl xf), (kX4 aLa vLa l4 a4 n4), (kAI vLa cI 24 f4), (kX7 aPa vPa l7 a7 n7), (kAI vPa cI 39 f7), (kX2 aGe vGe l2 a2 n2), (kAI vGe cI 23 f2)] := hD
  obtain ⟨locs, hlo⟩ : ∃ z : List Loc, z = [] := ⟨_, rfl⟩
  rw [← hlo] at hS ⊢
  clear hlo hH hAe hD0
  refine lv_aload_n hx₀ hb dX11_wipe_0 rfl (lv_at hl 0 rfl) ?_
  refine lv_iload_n hx₀ hb dX11_wipe_1 rfl (lv_at hl 1 rfl) ?_
  obtain ⟨hPc, hDc, hFc, hC⟩ := k_cw (wc := [(kX11 hx aLa aPa aGe aFl aTr aBe aLu aLo vSf vSm vCo vSh xs xl xf)]) hP hD hS hA [0] (by decide +kernel) rfl
  refine va_callq (va_runV (As := [.int tt]) (rest := []) ⟨hx₀, hb, hml, hown, hts⟩ (j_textOf l dC dI cI cJ cQ H.size hx tt aLa aPa aGe aFl aTr aBe aLu aLo vSf vSm vCo vSh xs xl xf) (cwV 1 hts (kGV wd_141 wd_138 wd_139 wd_140 wd_2) rfl rfl rfl (by decide +kernel) ⟨Nat.le_of_ble_eq_true rfl, Nat.le_of_ble_eq_true rfl⟩) (k_preV10 (q0 := 0) hK hPc hDc hN rfl) rfl rfl hl.1 rfl (lv_room (Nat.le_of_ble_eq_true rfl)) dX11_wipe_2 ⟨by decide +kernel, by decide +kernel⟩) hS (fun q _ h => hFc q h) hFc (fun r_1 u₀ t₀ H1 locs ht hvm hw hB hz1 hk1 hS => ?_)
  obtain ⟨hP1, hK1, hD1⟩ := hB
  rw [ht] at hP1
  have hJ := k_jn (wr := [(kX4 aLa vLa l4 a4 n4), (kAI vLa cI 24 f4), (kX7 aPa vPa l7 a7 n7), (kAI vPa cI 39 f7), (kX2 aGe vGe l2 a2 n2), (kAI vGe cI 23 f2)]) (wt := [(kX4 aLa vLa l4 a4 n4), (kAI vLa cI 24 f4), (kX7 aPa vPa l7 a7 n7), (kAI vPa cI 39 f7), (kX2 aGe vGe l2 a2 n2), (kAI vGe cI 23 f2), (kX11 hx aLa aPa aGe aFl aTr aBe aLu aLo vSf vSm vCo vSh xs xl xf)]) hP hD hC [1, 2, 3, 4, 5, 6] rfl (by decide +kernel) (by decide +kernel) hk1 hFc hP1 hD1 rfl
  clear hP hD hPc hDc hFc hC hP1 hD1 hK1 hz1 hk1 hvm ht
  obtain ⟨hP, hD⟩ := hJ
  generalize H1 = H at hP hS ⊢
  try dsimp only at hw
  by_cases c_2 : tt = 0
  · rw [if_pos c_2] at hw
    subst hw
    refine W.eq (g2 := F0 m₀ 5 ls [.ref aLa]) rfl ?_
    refine lv_astore_n (lv' := [(2, .ref aLa), (0, .ref hx), (1, .int tt)]) hx₀ hb dX11_wipe_5 rfl hl (by decide) rfl (fun ls hl => ?_)
    refine lv_aload_n hx₀ hb dX11_wipe_6 rfl (lv_at hl 0 rfl) ?_
    refine lv_ifnonnull (tgt := 13) hx₀ hb dX11_wipe_7 (by decide) ?_
    refine lv_aload_n hx₀ hb dX11_wipe_13 rfl (lv_at hl 0 rfl) ?_
    refine va_get (D := (dC, dI)) (ci := 4) (v := .int l4) (C := RX4) (T := TX4) (N := 4) hx₀ hb hts inlX4 hown hK hP 0 rfl rfl 1 (by decide) (hts (.fieldLink RX11 98 "BittenStick$Text" "length" "I") wd_137) (fun _ h9 => h9) rfl dX11_wipe_14 ?_
    refine lv_istore_n (lv' := [(3, .int l4), (2, .ref aLa), (0, .ref hx), (1, .int tt)]) hx₀ hb dX11_wipe_17 rfl hl (by decide) rfl (fun ls hl => ?_)
    refine lv_aload_n hx₀ hb dX11_wipe_18 rfl (lv_at hl 1 rfl) ?_
    refine lv_iconst (v := 0) hx₀ hb dX11_wipe_19 (by decide +kernel) ?_
    obtain ⟨hPc, hDc, hFc, hC⟩ := k_cw (wc := [(kX4 aLa vLa l4 a4 n4), (kAI vLa cI 24 f4)]) hP hD hS hA [0, 1] (by decide +kernel) rfl
    refine va_callv (va_runU (As := [.int 0]) (rest := []) ⟨hx₀, hb, hml, hown, hts⟩ (j_shorten_X4 l dC dI cI cJ cQ H.size aLa 0 vLa l4 a4 n4 f4 (hh0)) (va_cwU 1 hts (kGU wd_217 wd_213 wd_214 wd_221 wd_216 wd_57) rfl rfl rfl rfl (by decide +kernel) ⟨Nat.le_of_ble_eq_true rfl, Nat.le_of_ble_eq_true rfl⟩) (k_preV4 (q0 := 0) hK hPc hDc hN rfl) rfl rfl hl.1 rfl (lv_room (Nat.le_of_ble_eq_true rfl)) dX11_wipe_20 ⟨by decide +kernel, by decide +kernel⟩) hS (fun q _ h => hFc q h) hFc (fun u₀ t₀ H1 locs ht hvm hw hB hz1 hk1 hS => ?_)
    obtain ⟨g_4, ga_5, gl_6, gb_7, gp_8⟩ := u₀
    obtain ⟨hP1, hK1, hD1⟩ := hB
    rw [ht] at hP1
    have hJ := k_jn (wr := [(kX7 aPa vPa l7 a7 n7), (kAI vPa cI 39 f7), (kX2 aGe vGe l2 a2 n2), (kAI vGe cI 23 f2), (kX11 hx aLa aPa aGe aFl aTr aBe aLu aLo vSf vSm vCo vSh xs xl xf)]) (wt := [(kX7 aPa vPa l7 a7 n7), (kAI vPa cI 39 f7), (kX2 aGe vGe l2 a2 n2), (kAI vGe cI 23 f2), (kX11 hx aLa aPa aGe aFl aTr aBe aLu aLo vSf vSm vCo vSh xs xl xf), (kX4 aLa vLa (g_4 0) (g_4 1) (g_4 2)), (kAI vLa cI 24 f4)]) hP hD hC [2, 3, 4, 5, 6] rfl (by decide +kernel) (by decide +kernel) hk1 hFc hP1 hD1 rfl
    clear hP hD hPc hDc hFc hC hP1 hD1 hK1 hz1 hk1 hvm ht
    obtain ⟨hP, hD⟩ := hJ
    generalize H1 = H at hP hS ⊢
    try dsimp only at hw
    obtain ⟨c_9, c_10, c_11, c_12, c_13⟩ := hw
    refine lv_iload_n hx₀ hb dX11_wipe_23 rfl (lv_at hl 0 rfl) ?_
    obtain ⟨hP9, hD9⟩ := k_c2 (wc := [(kX11 hx aLa aPa aGe aFl aTr aBe aLu aLo vSf vSm vCo vSh xs xl xf), (kX4 aLa vLa (g_4 0) (g_4 1) (g_4 2)), (kAI vLa cI 24 f4), (kX7 aPa vPa l7 a7 n7), (kAI vPa cI 39 f7), (kX2 aGe vGe l2 a2 n2), (kAI vGe cI 23 f2)]) hP hD [4, 5, 6, 0, 1, 2, 3] (by decide +kernel) rfl
    exact W.iret (v := l4) hx₀ hb hr (fun t₀ ht hW => ⟨⟨l4, (k_fn [(g_4 0), (g_4 1), (g_4 2), l7, a7, n7, l2, a2, n2], k_fa [], k_fl [], k_fL [], k_fp []), rfl, ⟨(show (l4 : Int32) = if tt = 0 then l4 else if tt = 1 then l7 else if tt = 2 then l2 else -2 from (if_pos (c_2)).symm), (lf_j_wipe_1 l4 tt (g_4 0) hh0 c_2 c_9 c_10), (show l7 = if tt = 1 then 0 else l7 from (if_neg (show ¬ (tt = 1) from (fun z => absurd (c_2.symm.trans z) (by decide)))).symm), (show l2 = if tt = 2 then 0 else l2 from (if_neg (show ¬ (tt = 2) from (fun z => absurd (c_2.symm.trans z) (by decide)))).symm), c_13, c_11, c_12, hh6, hh7, hh8, hh9⟩, by rw [ht]; exact hP9, va_K.moved hW.alike hK, hD9⟩, hS.F ht⟩) hS.2.2 dX11_wipe_24
  rw [if_neg c_2] at hw
  by_cases c_14 : tt = 1
  · rw [if_pos c_14] at hw
    subst hw
    refine W.eq (g2 := F0 m₀ 5 ls [.ref aPa]) rfl ?_
    refine lv_astore_n (lv' := [(2, .ref aPa), (0, .ref hx), (1, .int tt)]) hx₀ hb dX11_wipe_5 rfl hl (by decide) rfl (fun ls hl => ?_)
    refine lv_aload_n hx₀ hb dX11_wipe_6 rfl (lv_at hl 0 rfl) ?_
    refine lv_ifnonnull (tgt := 13) hx₀ hb dX11_wipe_7 (by decide) ?_
    refine lv_aload_n hx₀ hb dX11_wipe_13 rfl (lv_at hl 0 rfl) ?_
    refine va_get (D := (dC, dI)) (ci := 7) (v := .int l7) (C := RX7) (T := TX7) (N := 4) hx₀ hb hts inlX7 hown hK hP 2 rfl rfl 1 (by decide) (hts (.fieldLink RX11 98 "BittenStick$Text" "length" "I") wd_137) (fun _ h9 => h9) rfl dX11_wipe_14 ?_
    refine lv_istore_n (lv' := [(3, .int l7), (2, .ref aPa), (0, .ref hx), (1, .int tt)]) hx₀ hb dX11_wipe_17 rfl hl (by decide) rfl (fun ls hl => ?_)
    refine lv_aload_n hx₀ hb dX11_wipe_18 rfl (lv_at hl 1 rfl) ?_
    refine lv_iconst (v := 0) hx₀ hb dX11_wipe_19 (by decide +kernel) ?_
    obtain ⟨hPc, hDc, hFc, hC⟩ := k_cw (wc := [(kX7 aPa vPa l7 a7 n7), (kAI vPa cI 39 f7)]) hP hD hS hA [2, 3] (by decide +kernel) rfl
    refine va_callv (va_runU (As := [.int 0]) (rest := []) ⟨hx₀, hb, hml, hown, hts⟩ (j_shorten_X7 l dC dI cI cJ cQ H.size aPa 0 vPa l7 a7 n7 f7 (hh1)) (va_cwU 1 hts (kGU wd_217 wd_213 wd_214 wd_222 wd_216 wd_57) rfl rfl rfl rfl (by decide +kernel) ⟨Nat.le_of_ble_eq_true rfl, Nat.le_of_ble_eq_true rfl⟩) (k_preV7 (q0 := 0) hK hPc hDc hN rfl) rfl rfl hl.1 rfl (lv_room (Nat.le_of_ble_eq_true rfl)) dX11_wipe_20 ⟨by decide +kernel, by decide +kernel⟩) hS (fun q _ h => hFc q h) hFc (fun u₀ t₀ H1 locs ht hvm hw hB hz1 hk1 hS => ?_)
    obtain ⟨g_16, ga_17, gl_18, gb_19, gp_20⟩ := u₀
    obtain ⟨hP1, hK1, hD1⟩ := hB
    rw [ht] at hP1
    have hJ := k_jn (wr := [(kX4 aLa vLa l4 a4 n4), (kAI vLa cI 24 f4), (kX2 aGe vGe l2 a2 n2), (kAI vGe cI 23 f2), (kX11 hx aLa aPa aGe aFl aTr aBe aLu aLo vSf vSm vCo vSh xs xl xf)]) (wt := [(kX4 aLa vLa l4 a4 n4), (kAI vLa cI 24 f4), (kX2 aGe vGe l2 a2 n2), (kAI vGe cI 23 f2), (kX11 hx aLa aPa aGe aFl aTr aBe aLu aLo vSf vSm vCo vSh xs xl xf), (kX7 aPa vPa (g_16 0) (g_16 1) (g_16 2)), (kAI vPa cI 39 f7)]) hP hD hC [0, 1, 4, 5, 6] rfl (by decide +kernel) (by decide +kernel) hk1 hFc hP1 hD1 rfl
    clear hP hD hPc hDc hFc hC hP1 hD1 hK1 hz1 hk1 hvm ht
    obtain ⟨hP, hD⟩ := hJ
    generalize H1 = H at hP hS ⊢
    try dsimp only at hw
    obtain ⟨c_21, c_22, c_23, c_24⟩ := hw
    refine lv_iload_n hx₀ hb dX11_wipe_23 rfl (lv_at hl 0 rfl) ?_
    obtain ⟨hP9, hD9⟩ := k_c2 (wc := [(kX11 hx aLa aPa aGe aFl aTr aBe aLu aLo vSf vSm vCo vSh xs xl xf), (kX4 aLa vLa l4 a4 n4), (kAI vLa cI 24 f4), (kX7 aPa vPa (g_16 0) (g_16 1) (g_16 2)), (kAI vPa cI 39 f7), (kX2 aGe vGe l2 a2 n2), (kAI vGe cI 23 f2)]) hP hD [4, 0, 1, 5, 6, 2, 3] (by decide +kernel) rfl
    exact W.iret (v := l7) hx₀ hb hr (fun t₀ ht hW => ⟨⟨l7, (k_fn [l4, a4, n4, (g_16 0), (g_16 1), (g_16 2), l2, a2, n2], k_fa [], k_fl [], k_fL [], k_fp []), rfl, ⟨(show (l7 : Int32) = if tt = 0 then l4 else if tt = 1 then l7 else if tt = 2 then l2 else -2 from (((if_pos (c_14)).symm).trans (if_neg (c_2)).symm)), (show l4 = if tt = 0 then 0 else l4 from (if_neg (c_2)).symm), (lf_j_wipe_2 l7 tt (g_16 0) hh1 c_2 c_14 c_21 c_22), (show l2 = if tt = 2 then 0 else l2 from (if_neg (show ¬ (tt = 2) from (fun z => absurd (c_14.symm.trans z) (by decide)))).symm), hh3, hh4, hh5, c_23, c_24, hh8, hh9⟩, by rw [ht]; exact hP9, va_K.moved hW.alike hK, hD9⟩, hS.F ht⟩) hS.2.2 dX11_wipe_24
  rw [if_neg c_14] at hw
  by_cases c_25 : tt = 2
  · rw [if_pos c_25] at hw
    subst hw
    refine W.eq (g2 := F0 m₀ 5 ls [.ref aGe]) rfl ?_
    refine lv_astore_n (lv' := [(2, .ref aGe), (0, .ref hx), (1, .int tt)]) hx₀ hb dX11_wipe_5 rfl hl (by decide) rfl (fun ls hl => ?_)
    refine lv_aload_n hx₀ hb dX11_wipe_6 rfl (lv_at hl 0 rfl) ?_
    refine lv_ifnonnull (tgt := 13) hx₀ hb dX11_wipe_7 (by decide) ?_
    refine lv_aload_n hx₀ hb dX11_wipe_13 rfl (lv_at hl 0 rfl) ?_
    refine va_get (D := (dC, dI)) (ci := 2) (v := .int l2) (C := RX2) (T := TX2) (N := 4) hx₀ hb hts inlX2 hown hK hP 4 rfl rfl 1 (by decide) (hts (.fieldLink RX11 98 "BittenStick$Text" "length" "I") wd_137) (fun _ h9 => h9) rfl dX11_wipe_14 ?_
    refine lv_istore_n (lv' := [(3, .int l2), (2, .ref aGe), (0, .ref hx), (1, .int tt)]) hx₀ hb dX11_wipe_17 rfl hl (by decide) rfl (fun ls hl => ?_)
    refine lv_aload_n hx₀ hb dX11_wipe_18 rfl (lv_at hl 1 rfl) ?_
    refine lv_iconst (v := 0) hx₀ hb dX11_wipe_19 (by decide +kernel) ?_
    obtain ⟨hPc, hDc, hFc, hC⟩ := k_cw (wc := [(kX2 aGe vGe l2 a2 n2), (kAI vGe cI 23 f2)]) hP hD hS hA [4, 5] (by decide +kernel) rfl
    refine va_callv (va_runU (As := [.int 0]) (rest := []) ⟨hx₀, hb, hml, hown, hts⟩ (j_shorten_X2 l dC dI cI cJ cQ H.size aGe 0 vGe l2 a2 n2 f2 (hh2)) (va_cwU 1 hts (kGU wd_217 wd_213 wd_214 wd_215 wd_216 wd_57) rfl rfl rfl rfl (by decide +kernel) ⟨Nat.le_of_ble_eq_true rfl, Nat.le_of_ble_eq_true rfl⟩) (k_preV2 (q0 := 0) hK hPc hDc hN rfl) rfl rfl hl.1 rfl (lv_room (Nat.le_of_ble_eq_true rfl)) dX11_wipe_20 ⟨by decide +kernel, by decide +kernel⟩) hS (fun q _ h => hFc q h) hFc (fun u₀ t₀ H1 locs ht hvm hw hB hz1 hk1 hS => ?_)
    obtain ⟨g_27, ga_28, gl_29, gb_30, gp_31⟩ := u₀
    obtain ⟨hP1, hK1, hD1⟩ := hB
    rw [ht] at hP1
    have hJ := k_jn (wr := [(kX4 aLa vLa l4 a4 n4), (kAI vLa cI 24 f4), (kX7 aPa vPa l7 a7 n7), (kAI vPa cI 39 f7), (kX11 hx aLa aPa aGe aFl aTr aBe aLu aLo vSf vSm vCo vSh xs xl xf)]) (wt := [(kX4 aLa vLa l4 a4 n4), (kAI vLa cI 24 f4), (kX7 aPa vPa l7 a7 n7), (kAI vPa cI 39 f7), (kX11 hx aLa aPa aGe aFl aTr aBe aLu aLo vSf vSm vCo vSh xs xl xf), (kX2 aGe vGe (g_27 0) (g_27 1) (g_27 2)), (kAI vGe cI 23 f2)]) hP hD hC [0, 1, 2, 3, 6] rfl (by decide +kernel) (by decide +kernel) hk1 hFc hP1 hD1 rfl
    clear hP hD hPc hDc hFc hC hP1 hD1 hK1 hz1 hk1 hvm ht
    obtain ⟨hP, hD⟩ := hJ
    generalize H1 = H at hP hS ⊢
    try dsimp only at hw
    obtain ⟨c_32, c_33, c_34, c_35⟩ := hw
    refine lv_iload_n hx₀ hb dX11_wipe_23 rfl (lv_at hl 0 rfl) ?_
    obtain ⟨hP9, hD9⟩ := k_c2 (wc := [(kX11 hx aLa aPa aGe aFl aTr aBe aLu aLo vSf vSm vCo vSh xs xl xf), (kX4 aLa vLa l4 a4 n4), (kAI vLa cI 24 f4), (kX7 aPa vPa l7 a7 n7), (kAI vPa cI 39 f7), (kX2 aGe vGe (g_27 0) (g_27 1) (g_27 2)), (kAI vGe cI 23 f2)]) hP hD [4, 0, 1, 2, 3, 5, 6] (by decide +kernel) rfl
    exact W.iret (v := l2) hx₀ hb hr (fun t₀ ht hW => ⟨⟨l2, (k_fn [l4, a4, n4, l7, a7, n7, (g_27 0), (g_27 1), (g_27 2)], k_fa [], k_fl [], k_fL [], k_fp []), rfl, ⟨(show (l2 : Int32) = if tt = 0 then l4 else if tt = 1 then l7 else if tt = 2 then l2 else -2 from (((((if_pos (c_25)).symm).trans (if_neg (c_14)).symm)).trans (if_neg (c_2)).symm)), (show l4 = if tt = 0 then 0 else l4 from (if_neg (c_2)).symm), (show l7 = if tt = 1 then 0 else l7 from (if_neg (c_14)).symm), (lf_j_wipe_3 l2 tt (g_27 0) hh2 c_2 c_14 c_25 c_32 c_33), hh3, hh4, hh5, hh6, hh7, c_34, c_35⟩, by rw [ht]; exact hP9, va_K.moved hW.alike hK, hD9⟩, hS.F ht⟩) hS.2.2 dX11_wipe_24
  rw [if_neg c_25] at hw
  subst hw
  refine W.eq (g2 := F0 m₀ 5 ls [.null]) rfl ?_
  refine lv_astore_nN (lv' := [(2, .null), (0, .ref hx), (1, .int tt)]) hx₀ hb dX11_wipe_5 rfl hl (by decide) rfl (fun ls hl => ?_)
  refine lv_aload_nN hx₀ hb dX11_wipe_6 rfl (lv_at hl 0 rfl) ?_
  refine lv_ifnonnullN hx₀ hb dX11_wipe_7 ?_
  refine lv_bipush (v := (-2)) hx₀ hb dX11_wipe_10 (by decide +kernel) ?_
  obtain ⟨hP9, hD9⟩ := k_c2 (wc := [(kX11 hx aLa aPa aGe aFl aTr aBe aLu aLo vSf vSm vCo vSh xs xl xf), (kX4 aLa vLa l4 a4 n4), (kAI vLa cI 24 f4), (kX7 aPa vPa l7 a7 n7), (kAI vPa cI 39 f7), (kX2 aGe vGe l2 a2 n2), (kAI vGe cI 23 f2)]) hP hD [6, 0, 1, 2, 3, 4, 5] (by decide +kernel) rfl
  exact W.iret (v := (-2)) hx₀ hb hr (fun t₀ ht hW => ⟨⟨(-2), (k_fn [l4, a4, n4, l7, a7, n7, l2, a2, n2], k_fa [], k_fl [], k_fL [], k_fp []), rfl, ⟨(show ((-2) : Int32) = if tt = 0 then l4 else if tt = 1 then l7 else if tt = 2 then l2 else -2 from (((((if_neg (c_25)).symm).trans (if_neg (c_14)).symm)).trans (if_neg (c_2)).symm)), (show l4 = if tt = 0 then 0 else l4 from (if_neg (c_2)).symm), (show l7 = if tt = 1 then 0 else l7 from (if_neg (c_14)).symm), (show l2 = if tt = 2 then 0 else l2 from (if_neg (c_25)).symm), hh3, hh4, hh5, hh6, hh7, hh8, hh9⟩, by rw [ht]; exact hP9, va_K.moved hW.alike hK, hD9⟩, hS.F ht⟩) hS.2.2 dX11_wipe_12
theorem lf_j_undo_1 (a0 : Int32) (a1 : Int32) (a2 : Int32) (a3 : Int32) (a4 : Int32) (h0 : 0 ≤ a0 ∧ a0 ≤ 24) (h1 : 0 ≤ a1 ∧ a1 ≤ 39) (h2 : 0 ≤ a2 ∧ a2 ≤ 23) (h3 : a3 = 0) (h4 : ¬ a0 = 0) (h5 : 0 ≤ (a4) ∧ (a4) ≤ a0) (h6 : (a4) = (a0 - 1) ∨ (a0 - 1) < 0 ∨ a0 ≤ (a0 - 1)) : (a4 : Int32) = if a3 = 0 then (if a0 = 0 then -3 else a0 - 1) else if a3 = 1 then (if a1 = 0 then -3 else a1 - 1) else if a3 = 2 then (if a2 = 0 then -3 else a2 - 1) else -2 := by
  (repeat' split) <;> first | rfl | contradiction | assumption | (exfalso; (first | rfl | assumption | decide | omega | (have hr0 := Int32.toInt_lt a0; have hs0 := Int32.le_toInt a0; have hr1 := Int32.toInt_lt a1; have hs1 := Int32.le_toInt a1; have hr2 := Int32.toInt_lt a2; have hs2 := Int32.le_toInt a2; have hr3 := Int32.toInt_lt a3; have hs3 := Int32.le_toInt a3; have hr4 := Int32.toInt_lt a4; have hs4 := Int32.le_toInt a4; simp only [Int64.toInt_add, Int64.toInt_sub, Int32.toInt_add, Int32.toInt_sub, Int32.toInt_mul, Int64.le_iff_toInt_le, Int64.lt_iff_toInt_lt, Int32.le_iff_toInt_le, Int32.lt_iff_toInt_lt, ← Int32.toInt_inj, ← Int64.toInt_inj, Int32.toInt_toInt64, kc_m3, kc_m2, kc_0, kc_1, kc_2, kc_3, kc_23, kc_24, kc_39, true_and, and_true, not_true_eq_false, not_false_eq_true] at * <;> ((first | omega | ((try simp (disch := omega) only [k_bm64] at *); (try simp (disch := omega) only [k_bm] at *); (try simp (disch := omega) only [k_bm] at *); omega) | (simp only [Int.bmod] at *; omega)))))) | (first | rfl | assumption | decide | omega | (have hr0 := Int32.toInt_lt a0; have hs0 := Int32.le_toInt a0; have hr1 := Int32.toInt_lt a1; have hs1 := Int32.le_toInt a1; have hr2 := Int32.toInt_lt a2; have hs2 := Int32.le_toInt a2; have hr3 := Int32.toInt_lt a3; have hs3 := Int32.le_toInt a3; have hr4 := Int32.toInt_lt a4; have hs4 := Int32.le_toInt a4; simp only [Int64.toInt_add, Int64.toInt_sub, Int32.toInt_add, Int32.toInt_sub, Int32.toInt_mul, Int64.le_iff_toInt_le, Int64.lt_iff_toInt_lt, Int32.le_iff_toInt_le, Int32.lt_iff_toInt_lt, ← Int32.toInt_inj, ← Int64.toInt_inj, Int32.toInt_toInt64, kc_m3, kc_m2, kc_0, kc_1, kc_2, kc_3, kc_23, kc_24, kc_39, true_and, and_true, not_true_eq_false, not_false_eq_true] at * <;> ((first | omega | ((try simp (disch := omega) only [k_bm64] at *); (try simp (disch := omega) only [k_bm] at *); (try simp (disch := omega) only [k_bm] at *); omega) | (simp only [Int.bmod] at *; omega)))))
theorem lf_j_undo_2 (a0 : Int32) (a1 : Int32) (a2 : Int32) (h0 : 0 ≤ a0 ∧ a0 ≤ 24) (h1 : a1 = 0) (h2 : ¬ a0 = 0) (h3 : 0 ≤ (a2) ∧ (a2) ≤ a0) (h4 : (a2) = (a0 - 1) ∨ (a0 - 1) < 0 ∨ a0 ≤ (a0 - 1)) : (a2) = if a1 = 0 ∧ ¬ a0 = 0 then a0 - 1 else a0 := by
  (repeat' split) <;> first | rfl | contradiction | assumption | (exfalso; (first | rfl | assumption | decide | omega | (have hr0 := Int32.toInt_lt a0; have hs0 := Int32.le_toInt a0; have hr1 := Int32.toInt_lt a1; have hs1 := Int32.le_toInt a1; have hr2 := Int32.toInt_lt a2; have hs2 := Int32.le_toInt a2; simp only [Int64.toInt_add, Int64.toInt_sub, Int32.toInt_add, Int32.toInt_sub, Int32.toInt_mul, Int64.le_iff_toInt_le, Int64.lt_iff_toInt_lt, Int32.le_iff_toInt_le, Int32.lt_iff_toInt_lt, ← Int32.toInt_inj, ← Int64.toInt_inj, Int32.toInt_toInt64, kc_0, kc_1, kc_24, true_and, and_true, not_true_eq_false, not_false_eq_true] at * <;> ((first | omega | ((try simp (disch := omega) only [k_bm64] at *); (try simp (disch := omega) only [k_bm] at *); (try simp (disch := omega) only [k_bm] at *); omega) | (simp only [Int.bmod] at *; omega)))))) | (first | rfl | assumption | decide | omega | (have hr0 := Int32.toInt_lt a0; have hs0 := Int32.le_toInt a0; have hr1 := Int32.toInt_lt a1; have hs1 := Int32.le_toInt a1; have hr2 := Int32.toInt_lt a2; have hs2 := Int32.le_toInt a2; simp only [Int64.toInt_add, Int64.toInt_sub, Int32.toInt_add, Int32.toInt_sub, Int32.toInt_mul, Int64.le_iff_toInt_le, Int64.lt_iff_toInt_lt, Int32.le_iff_toInt_le, Int32.lt_iff_toInt_lt, ← Int32.toInt_inj, ← Int64.toInt_inj, Int32.toInt_toInt64, kc_0, kc_1, kc_24, true_and, and_true, not_true_eq_false, not_false_eq_true] at * <;> ((first | omega | ((try simp (disch := omega) only [k_bm64] at *); (try simp (disch := omega) only [k_bm] at *); (try simp (disch := omega) only [k_bm] at *); omega) | (simp only [Int.bmod] at *; omega)))))
theorem lf_j_undo_3 (a0 : Int32) (a1 : Int32) (a2 : Int32) (a3 : Int32) (a4 : Int32) (h0 : 0 ≤ a0 ∧ a0 ≤ 24) (h1 : 0 ≤ a1 ∧ a1 ≤ 39) (h2 : 0 ≤ a2 ∧ a2 ≤ 23) (h3 : ¬ (a3 = 0)) (h4 : a3 = 1) (h5 : ¬ a1 = 0) (h6 : 0 ≤ (a4) ∧ (a4) ≤ a1) (h7 : (a4) = (a1 - 1) ∨ (a1 - 1) < 0 ∨ a1 ≤ (a1 - 1)) : (a4 : Int32) = if a3 = 0 then (if a0 = 0 then -3 else a0 - 1) else if a3 = 1 then (if a1 = 0 then -3 else a1 - 1) else if a3 = 2 then (if a2 = 0 then -3 else a2 - 1) else -2 := by
  (repeat' split) <;> first | rfl | contradiction | assumption | (exfalso; (first | rfl | assumption | decide | omega | (have hr0 := Int32.toInt_lt a0; have hs0 := Int32.le_toInt a0; have hr1 := Int32.toInt_lt a1; have hs1 := Int32.le_toInt a1; have hr2 := Int32.toInt_lt a2; have hs2 := Int32.le_toInt a2; have hr3 := Int32.toInt_lt a3; have hs3 := Int32.le_toInt a3; have hr4 := Int32.toInt_lt a4; have hs4 := Int32.le_toInt a4; simp only [Int64.toInt_add, Int64.toInt_sub, Int32.toInt_add, Int32.toInt_sub, Int32.toInt_mul, Int64.le_iff_toInt_le, Int64.lt_iff_toInt_lt, Int32.le_iff_toInt_le, Int32.lt_iff_toInt_lt, ← Int32.toInt_inj, ← Int64.toInt_inj, Int32.toInt_toInt64, kc_m3, kc_m2, kc_0, kc_1, kc_2, kc_3, kc_23, kc_24, kc_39, true_and, and_true, not_true_eq_false, not_false_eq_true] at * <;> ((first | omega | ((try simp (disch := omega) only [k_bm64] at *); (try simp (disch := omega) only [k_bm] at *); (try simp (disch := omega) only [k_bm] at *); omega) | (simp only [Int.bmod] at *; omega)))))) | (first | rfl | assumption | decide | omega | (have hr0 := Int32.toInt_lt a0; have hs0 := Int32.le_toInt a0; have hr1 := Int32.toInt_lt a1; have hs1 := Int32.le_toInt a1; have hr2 := Int32.toInt_lt a2; have hs2 := Int32.le_toInt a2; have hr3 := Int32.toInt_lt a3; have hs3 := Int32.le_toInt a3; have hr4 := Int32.toInt_lt a4; have hs4 := Int32.le_toInt a4; simp only [Int64.toInt_add, Int64.toInt_sub, Int32.toInt_add, Int32.toInt_sub, Int32.toInt_mul, Int64.le_iff_toInt_le, Int64.lt_iff_toInt_lt, Int32.le_iff_toInt_le, Int32.lt_iff_toInt_lt, ← Int32.toInt_inj, ← Int64.toInt_inj, Int32.toInt_toInt64, kc_m3, kc_m2, kc_0, kc_1, kc_2, kc_3, kc_23, kc_24, kc_39, true_and, and_true, not_true_eq_false, not_false_eq_true] at * <;> ((first | omega | ((try simp (disch := omega) only [k_bm64] at *); (try simp (disch := omega) only [k_bm] at *); (try simp (disch := omega) only [k_bm] at *); omega) | (simp only [Int.bmod] at *; omega)))))
theorem lf_j_undo_4 (a0 : Int32) (a1 : Int32) (a2 : Int32) (h0 : 0 ≤ a0 ∧ a0 ≤ 39) (h1 : ¬ (a1 = 0)) (h2 : a1 = 1) (h3 : ¬ a0 = 0) (h4 : 0 ≤ (a2) ∧ (a2) ≤ a0) (h5 : (a2) = (a0 - 1) ∨ (a0 - 1) < 0 ∨ a0 ≤ (a0 - 1)) : (a2) = if a1 = 1 ∧ ¬ a0 = 0 then a0 - 1 else a0 := by
  (repeat' split) <;> first | rfl | contradiction | assumption | (exfalso; (first | rfl | assumption | decide | omega | (have hr0 := Int32.toInt_lt a0; have hs0 := Int32.le_toInt a0; have hr1 := Int32.toInt_lt a1; have hs1 := Int32.le_toInt a1; have hr2 := Int32.toInt_lt a2; have hs2 := Int32.le_toInt a2; simp only [Int64.toInt_add, Int64.toInt_sub, Int32.toInt_add, Int32.toInt_sub, Int32.toInt_mul, Int64.le_iff_toInt_le, Int64.lt_iff_toInt_lt, Int32.le_iff_toInt_le, Int32.lt_iff_toInt_lt, ← Int32.toInt_inj, ← Int64.toInt_inj, Int32.toInt_toInt64, kc_0, kc_1, kc_39, true_and, and_true, not_true_eq_false, not_false_eq_true] at * <;> ((first | omega | ((try simp (disch := omega) only [k_bm64] at *); (try simp (disch := omega) only [k_bm] at *); (try simp (disch := omega) only [k_bm] at *); omega) | (simp only [Int.bmod] at *; omega)))))) | (first | rfl | assumption | decide | omega | (have hr0 := Int32.toInt_lt a0; have hs0 := Int32.le_toInt a0; have hr1 := Int32.toInt_lt a1; have hs1 := Int32.le_toInt a1; have hr2 := Int32.toInt_lt a2; have hs2 := Int32.le_toInt a2; simp only [Int64.toInt_add, Int64.toInt_sub, Int32.toInt_add, Int32.toInt_sub, Int32.toInt_mul, Int64.le_iff_toInt_le, Int64.lt_iff_toInt_lt, Int32.le_iff_toInt_le, Int32.lt_iff_toInt_lt, ← Int32.toInt_inj, ← Int64.toInt_inj, Int32.toInt_toInt64, kc_0, kc_1, kc_39, true_and, and_true, not_true_eq_false, not_false_eq_true] at * <;> ((first | omega | ((try simp (disch := omega) only [k_bm64] at *); (try simp (disch := omega) only [k_bm] at *); (try simp (disch := omega) only [k_bm] at *); omega) | (simp only [Int.bmod] at *; omega)))))
theorem lf_j_undo_5 (a0 : Int32) (a1 : Int32) (a2 : Int32) (a3 : Int32) (a4 : Int32) (h0 : 0 ≤ a0 ∧ a0 ≤ 24) (h1 : 0 ≤ a1 ∧ a1 ≤ 39) (h2 : 0 ≤ a2 ∧ a2 ≤ 23) (h3 : ¬ (a3 = 0)) (h4 : ¬ (a3 = 1)) (h5 : a3 = 2) (h6 : ¬ a2 = 0) (h7 : 0 ≤ (a4) ∧ (a4) ≤ a2) (h8 : (a4) = (a2 - 1) ∨ (a2 - 1) < 0 ∨ a2 ≤ (a2 - 1)) : (a4 : Int32) = if a3 = 0 then (if a0 = 0 then -3 else a0 - 1) else if a3 = 1 then (if a1 = 0 then -3 else a1 - 1) else if a3 = 2 then (if a2 = 0 then -3 else a2 - 1) else -2 := by
  (repeat' split) <;> first | rfl | contradiction | assumption | (exfalso; (first | rfl | assumption | decide | omega | (have hr0 := Int32.toInt_lt a0; have hs0 := Int32.le_toInt a0; have hr1 := Int32.toInt_lt a1; have hs1 := Int32.le_toInt a1; have hr2 := Int32.toInt_lt a2; have hs2 := Int32.le_toInt a2; have hr3 := Int32.toInt_lt a3; have hs3 := Int32.le_toInt a3; have hr4 := Int32.toInt_lt a4; have hs4 := Int32.le_toInt a4; simp only [Int64.toInt_add, Int64.toInt_sub, Int32.toInt_add, Int32.toInt_sub, Int32.toInt_mul, Int64.le_iff_toInt_le, Int64.lt_iff_toInt_lt, Int32.le_iff_toInt_le, Int32.lt_iff_toInt_lt, ← Int32.toInt_inj, ← Int64.toInt_inj, Int32.toInt_toInt64, kc_m3, kc_m2, kc_0, kc_1, kc_2, kc_3, kc_23, kc_24, kc_39, true_and, and_true, not_true_eq_false, not_false_eq_true] at * <;> ((first | omega | ((try simp (disch := omega) only [k_bm64] at *); (try simp (disch := omega) only [k_bm] at *); (try simp (disch := omega) only [k_bm] at *); omega) | (simp only [Int.bmod] at *; omega)))))) | (first | rfl | assumption | decide | omega | (have hr0 := Int32.toInt_lt a0; have hs0 := Int32.le_toInt a0; have hr1 := Int32.toInt_lt a1; have hs1 := Int32.le_toInt a1; have hr2 := Int32.toInt_lt a2; have hs2 := Int32.le_toInt a2; have hr3 := Int32.toInt_lt a3; have hs3 := Int32.le_toInt a3; have hr4 := Int32.toInt_lt a4; have hs4 := Int32.le_toInt a4; simp only [Int64.toInt_add, Int64.toInt_sub, Int32.toInt_add, Int32.toInt_sub, Int32.toInt_mul, Int64.le_iff_toInt_le, Int64.lt_iff_toInt_lt, Int32.le_iff_toInt_le, Int32.lt_iff_toInt_lt, ← Int32.toInt_inj, ← Int64.toInt_inj, Int32.toInt_toInt64, kc_m3, kc_m2, kc_0, kc_1, kc_2, kc_3, kc_23, kc_24, kc_39, true_and, and_true, not_true_eq_false, not_false_eq_true] at * <;> ((first | omega | ((try simp (disch := omega) only [k_bm64] at *); (try simp (disch := omega) only [k_bm] at *); (try simp (disch := omega) only [k_bm] at *); omega) | (simp only [Int.bmod] at *; omega)))))
theorem lf_j_undo_6 (a0 : Int32) (a1 : Int32) (a2 : Int32) (h0 : 0 ≤ a0 ∧ a0 ≤ 23) (h1 : ¬ (a1 = 0)) (h2 : ¬ (a1 = 1)) (h3 : a1 = 2) (h4 : ¬ a0 = 0) (h5 : 0 ≤ (a2) ∧ (a2) ≤ a0) (h6 : (a2) = (a0 - 1) ∨ (a0 - 1) < 0 ∨ a0 ≤ (a0 - 1)) : (a2) = if a1 = 2 ∧ ¬ a0 = 0 then a0 - 1 else a0 := by
  (repeat' split) <;> first | rfl | contradiction | assumption | (exfalso; (first | rfl | assumption | decide | omega | (have hr0 := Int32.toInt_lt a0; have hs0 := Int32.le_toInt a0; have hr1 := Int32.toInt_lt a1; have hs1 := Int32.le_toInt a1; have hr2 := Int32.toInt_lt a2; have hs2 := Int32.le_toInt a2; simp only [Int64.toInt_add, Int64.toInt_sub, Int32.toInt_add, Int32.toInt_sub, Int32.toInt_mul, Int64.le_iff_toInt_le, Int64.lt_iff_toInt_lt, Int32.le_iff_toInt_le, Int32.lt_iff_toInt_lt, ← Int32.toInt_inj, ← Int64.toInt_inj, Int32.toInt_toInt64, kc_0, kc_1, kc_2, kc_23, true_and, and_true, not_true_eq_false, not_false_eq_true] at * <;> ((first | omega | ((try simp (disch := omega) only [k_bm64] at *); (try simp (disch := omega) only [k_bm] at *); (try simp (disch := omega) only [k_bm] at *); omega) | (simp only [Int.bmod] at *; omega)))))) | (first | rfl | assumption | decide | omega | (have hr0 := Int32.toInt_lt a0; have hs0 := Int32.le_toInt a0; have hr1 := Int32.toInt_lt a1; have hs1 := Int32.le_toInt a1; have hr2 := Int32.toInt_lt a2; have hs2 := Int32.le_toInt a2; simp only [Int64.toInt_add, Int64.toInt_sub, Int32.toInt_add, Int32.toInt_sub, Int32.toInt_mul, Int64.le_iff_toInt_le, Int64.lt_iff_toInt_lt, Int32.le_iff_toInt_le, Int32.lt_iff_toInt_lt, ← Int32.toInt_inj, ← Int64.toInt_inj, Int32.toInt_toInt64, kc_0, kc_1, kc_2, kc_23, true_and, and_true, not_true_eq_false, not_false_eq_true] at * <;> ((first | omega | ((try simp (disch := omega) only [k_bm64] at *); (try simp (disch := omega) only [k_bm] at *); (try simp (disch := omega) only [k_bm] at *); omega) | (simp only [Int.bmod] at *; omega)))))
set_option maxHeartbeats 4000000 in
set_option maxRecDepth 100000 in
theorem j_undo (l : Launch) (dC : Nat → ClassId) (dI : Nat → Nat → Nat) (cI cJ cQ : ClassId) (sz : Nat) (hx : Nat) (tt : Int32) (aLa : Nat) (aPa : Nat) (aGe : Nat) (aFl : Nat) (aTr : Nat) (aBe : Nat) (aLu : Nat) (aLo : Nat) (vSf : Nat) (vSm : Nat) (vCo : Nat) (vSh : Nat) (xs : Int32) (xl : Int32) (xf : Int32) (vLa : Nat) (l4 : Int32) (a4 : Int32) (n4 : Int32) (f4 : Nat → Int32) (vPa : Nat) (l7 : Int32) (a7 : Int32) (n7 : Int32) (f7 : Nat → Int32) (vGe : Nat) (l2 : Int32) (a2 : Int32) (n2 : Int32) (f2 : Nat → Int32) (hh0 : 0 ≤ l4 ∧ l4 ≤ 24) (hh1 : 0 ≤ l7 ∧ l7 ≤ 39) (hh2 : 0 ≤ l2 ∧ l2 ≤ 23) (hh3 : 0 ≤ n4 ∧ n4 ≤ 24) (hh4 : a4 = kFt l4 l4 f4) (hh5 : n4 = kNm l4 l4 f4) (hh6 : a7 = kFt (kTh7 l7) l7 f7) (hh7 : n7 = kNm (kTh7 l7) l7 f7) (hh8 : a2 = kFt (kTh2 l2) l2 f2) (hh9 : n2 = kNm (kTh2 l2) l2 f2) : Met l yX11_undo (kW yX11_undo cX11_undo 3 (some .int)) { frames := 3, cells := 0, slots := 0, locals := 63 } (kPre dC dI cI cJ cQ sz [.ref hx, .int tt] [(kX11 hx aLa aPa aGe aFl aTr aBe aLu aLo vSf vSm vCo vSh xs xl xf), (kX4 aLa vLa l4 a4 n4), (kAI vLa cI 24 f4), (kX7 aPa vPa l7 a7 n7), (kAI vPa cI 39 f7), (kX2 aGe vGe l2 a2 n2), (kAI vGe cI 23 f2)]) (va_Qi (fun (r : Int32) (u : kS) => (r = if tt = 0 then (if l4 = 0 then -3 else l4 - 1) else if tt = 1 then (if l7 = 0 then -3 else l7 - 1) else if tt = 2 then (if l2 = 0 then -3 else l2 - 1) else -2) ∧ ((u.1 0) = if tt = 0 ∧ ¬ l4 = 0 then l4 - 1 else l4) ∧ ((u.1 3) = if tt = 1 ∧ ¬ l7 = 0 then l7 - 1 else l7) ∧ ((u.1 6) = if tt = 2 ∧ ¬ l2 = 0 then l2 - 1 else l2) ∧ (0 ≤ (u.1 2) ∧ (u.1 2) ≤ 24) ∧ ((u.1 1) = kFt (u.1 0) (u.1 0) f4) ∧ ((u.1 2) = kNm (u.1 0) (u.1 0) f4) ∧ ((u.1 4) = kFt (kTh7 (u.1 3)) (u.1 3) f7) ∧ ((u.1 5) = kNm (kTh7 (u.1 3)) (u.1 3) f7) ∧ ((u.1 7) = kFt (kTh2 (u.1 6)) (u.1 6) f2) ∧ ((u.1 8) = kNm (kTh2 (u.1 6)) (u.1 6) f2)) (fun (u : kS) t₀ => kB dC dI cI cJ cQ (va_A [(kX11 hx aLa aPa aGe aFl aTr aBe aLu aLo vSf vSm vCo vSh xs xl xf), (kX4 aLa vLa l4 a4 n4), (kAI vLa cI 24 f4), (kX7 aPa vPa l7 a7 n7), (kAI vPa cI 39 f7), (kX2 aGe vGe l2 a2 n2), (kAI vGe cI 23 f2)] sz) [(kX11 hx aLa aPa aGe aFl aTr aBe aLu aLo vSf vSm vCo vSh xs xl xf), (kX4 aLa vLa (u.1 0) (u.1 1) (u.1 2)), (kAI vLa cI 24 f4), (kX7 aPa vPa (u.1 3) (u.1 4) (u.1 5)), (kAI vPa cI 39 f7), (kX2 aGe vGe (u.1 6) (u.1 7) (u.1 8)), (kAI vGe cI 23 f2)] t₀) (va_A [(kX11 hx aLa aPa aGe aFl aTr aBe aLu aLo vSf vSm vCo vSh xs xl xf), (kX4 aLa vLa l4 a4 n4), (kAI vLa cI 24 f4), (kX7 aPa vPa l7 a7 n7), (kAI vPa cI 39 f7), (kX2 aGe vGe l2 a2 n2), (kAI vGe cI 23 f2)] sz)) 0 0 (va_A [(kX11 hx aLa aPa aGe aFl aTr aBe aLu aLo vSf vSm vCo vSh xs xl xf), (kX4 aLa vLa l4 a4 n4), (kAI vLa cI 24 f4), (kX7 aPa vPa l7 a7 n7), (kAI vPa cI 39 f7), (kX2 aGe vGe l2 a2 n2), (kAI vGe cI 23 f2)] sz) := by
  refine Met.ofW (cc := cX11_undo) (maxL := 3) (ret := (some .int)) (by decide) rfl ?_
  intro p₀ e₀ s₀ m₀ args below meth c₀ s₁ B hml hv₀
  obtain ⟨rfl, hsz, hP, hK, hD0, hN⟩ := hv₀
  have hx₀ := B.exec
  have hb := B.bytes
  have hr := B.returns
  have hts := atoms_spec (ws := (kW yX11_undo cX11_undo 3 (some .int))) B.pre
  have hts := fun w h => hts w (List.mem_cons_of_mem _ h)
  have hown : s₀.vm.findClass RX11 = some m₀.cls := findClass_of_methodNamed B.named
  have hlocks := B.notSynchronized
  subst hsz
  have hD := hD0.self (sz := s₀.heap.size)
  generalize hAe : va_A [(kX11 hx aLa aPa aGe aFl aTr aBe aLu aLo vSf vSm vCo vSh xs xl xf), (kX4 aLa vLa l4 a4 n4), (kAI vLa cI 24 f4), (kX7 aPa vPa l7 a7 n7), (kAI vPa cI 39 f7), (kX2 aGe vGe l2 a2 n2), (kAI vGe cI 23 f2)] s₀.heap.size = A at hD ⊢
  have hA : ∀ q : Nat, s₀.heap.size ≤ q → A q := fun q h => by rw [← hAe]; exact Or.inr h
  have hS : va_S A s₀.heap s₀.heap [] := va_S.rf
  have hP : va_P (dC, dI) vwCl [(kX11 hx aLa aPa aGe aFl aTr aBe aLu aLo vSf vSm vCo vSh xs xl xf), (kX4 aLa vLa l4 a4 n4), (kAI vLa cI 24 f4), (kX7 aPa vPa l7 a7 n7), (kAI vPa cI 39 f7), (kX2 aGe vGe l2 a2 n2), (kAI vGe cI 23 f2)] s₀.heap := hP
  have hl := lv_entry ([.ref hx, .int tt]) (n := 3) (Nat.le_of_ble_eq_true rfl)
  rw [lg_entry_eq]
  generalize (lg_sl ([.ref hx, .int tt]) ++ List.replicate (3 - (lg_sl ([.ref hx, .int tt])).length) Slot.unset).toArray = ls at hl ⊢
  have hl : lv_has ls 3 [(0, .ref hx), (1, .int tt)] := hl
  obtain ⟨H, hH⟩ : ∃ z : Heap, z = s₀.heap := ⟨_, rfl⟩
  rw [← hH] at hP
  have hS : va_S A s₀.heap H [] := by rw [hH]; exact hS
  refine k_heap hH ?_
  have hD : va_D A [(kX11 hx aLa aPa aGe aFl aTr aBe aLu aLo vSf vSm vCo vSh xs xl xf), (kX4 aLa vLa l4 a4 n4), (kAI vLa cI 24 f4), (kX7 aPa vPa l7 a7 n7), (kAI vPa cI 39 f7), (kX2 aGe vGe l2 a2 n2), (kAI vGe cI 23 f2)] := hD
  obtain ⟨locs, hlo⟩ : ∃ z : List Loc, z = [] := ⟨_, rfl⟩
  rw [← hlo] at hS ⊢
  clear hlo hH hAe hD0
  refine lv_aload_n hx₀ hb dX11_undo_0 rfl (lv_at hl 0 rfl) ?_
  refine lv_iload_n hx₀ hb dX11_undo_1 rfl (lv_at hl 1 rfl) ?_
  obtain ⟨hPc, hDc, hFc, hC⟩ := k_cw (wc := [(kX11 hx aLa aPa aGe aFl aTr aBe aLu aLo vSf vSm vCo vSh xs xl xf)]) hP hD hS hA [0] (by decide +kernel) rfl
  refine va_callq (va_runV (As := [.int tt]) (rest := []) ⟨hx₀, hb, hml, hown, hts⟩ (j_textOf l dC dI cI cJ cQ H.size hx tt aLa aPa aGe aFl aTr aBe aLu aLo vSf vSm vCo vSh xs xl xf) (cwV 1 hts (kGV wd_141 wd_138 wd_139 wd_140 wd_2) rfl rfl rfl (by decide +kernel) ⟨Nat.le_of_ble_eq_true rfl, Nat.le_of_ble_eq_true rfl⟩) (k_preV10 (q0 := 0) hK hPc hDc hN rfl) rfl rfl hl.1 rfl (lv_room (Nat.le_of_ble_eq_true rfl)) dX11_undo_2 ⟨by decide +kernel, by decide +kernel⟩) hS (fun q _ h => hFc q h) hFc (fun r_1 u₀ t₀ H1 locs ht hvm hw hB hz1 hk1 hS => ?_)
  obtain ⟨hP1, hK1, hD1⟩ := hB
  rw [ht] at hP1
  have hJ := k_jn (wr := [(kX4 aLa vLa l4 a4 n4), (kAI vLa cI 24 f4), (kX7 aPa vPa l7 a7 n7), (kAI vPa cI 39 f7), (kX2 aGe vGe l2 a2 n2), (kAI vGe cI 23 f2)]) (wt := [(kX4 aLa vLa l4 a4 n4), (kAI vLa cI 24 f4), (kX7 aPa vPa l7 a7 n7), (kAI vPa cI 39 f7), (kX2 aGe vGe l2 a2 n2), (kAI vGe cI 23 f2), (kX11 hx aLa aPa aGe aFl aTr aBe aLu aLo vSf vSm vCo vSh xs xl xf)]) hP hD hC [1, 2, 3, 4, 5, 6] rfl (by decide +kernel) (by decide +kernel) hk1 hFc hP1 hD1 rfl
  clear hP hD hPc hDc hFc hC hP1 hD1 hK1 hz1 hk1 hvm ht
  obtain ⟨hP, hD⟩ := hJ
  generalize H1 = H at hP hS ⊢
  try dsimp only at hw
  by_cases c_2 : tt = 0
  · rw [if_pos c_2] at hw
    subst hw
    refine W.eq (g2 := F0 m₀ 5 ls [.ref aLa]) rfl ?_
    refine lv_astore_n (lv' := [(2, .ref aLa), (0, .ref hx), (1, .int tt)]) hx₀ hb dX11_undo_5 rfl hl (by decide) rfl (fun ls hl => ?_)
    refine lv_aload_n hx₀ hb dX11_undo_6 rfl (lv_at hl 0 rfl) ?_
    refine lv_ifnonnull (tgt := 13) hx₀ hb dX11_undo_7 (by decide) ?_
    refine lv_aload_n hx₀ hb dX11_undo_13 rfl (lv_at hl 0 rfl) ?_
    refine va_get (D := (dC, dI)) (ci := 4) (v := .int l4) (C := RX4) (T := TX4) (N := 4) hx₀ hb hts inlX4 hown hK hP 0 rfl rfl 1 (by decide) (hts (.fieldLink RX11 98 "BittenStick$Text" "length" "I") wd_137) (fun _ h9 => h9) rfl dX11_undo_14 ?_
    refine lv_if_ne (tgt := 23) hx₀ hb dX11_undo_17 (by decide) (fun c_3 => ?_) (fun c_3 => ?_)
    · refine lv_aload_n hx₀ hb dX11_undo_23 rfl (lv_at hl 0 rfl) ?_
      refine lv_aload_n hx₀ hb dX11_undo_24 rfl (lv_at hl 0 rfl) ?_
      refine va_get (D := (dC, dI)) (ci := 4) (v := .int l4) (C := RX4) (T := TX4) (N := 4) hx₀ hb hts inlX4 hown hK hP 0 rfl rfl 1 (by decide) (hts (.fieldLink RX11 98 "BittenStick$Text" "length" "I") wd_137) (fun _ h9 => h9) rfl dX11_undo_25 ?_
      refine lv_iconst (v := 1) hx₀ hb dX11_undo_28 (by decide +kernel) ?_
      refine lv_isub hx₀ hb dX11_undo_29 ?_
      obtain ⟨hPc, hDc, hFc, hC⟩ := k_cw (wc := [(kX4 aLa vLa l4 a4 n4), (kAI vLa cI 24 f4)]) hP hD hS hA [0, 1] (by decide +kernel) rfl
      refine va_callv (va_runU (As := [.int (l4 - 1)]) (rest := []) ⟨hx₀, hb, hml, hown, hts⟩ (j_shorten_X4 l dC dI cI cJ cQ H.size aLa (l4 - 1) vLa l4 a4 n4 f4 (hh0)) (va_cwU 1 hts (kGU wd_217 wd_213 wd_214 wd_221 wd_216 wd_57) rfl rfl rfl rfl (by decide +kernel) ⟨Nat.le_of_ble_eq_true rfl, Nat.le_of_ble_eq_true rfl⟩) (k_preV4 (q0 := 0) hK hPc hDc hN rfl) rfl rfl hl.1 rfl (lv_room (Nat.le_of_ble_eq_true rfl)) dX11_undo_30 ⟨by decide +kernel, by decide +kernel⟩) hS (fun q _ h => hFc q h) hFc (fun u₀ t₀ H1 locs ht hvm hw hB hz1 hk1 hS => ?_)
      obtain ⟨g_5, ga_6, gl_7, gb_8, gp_9⟩ := u₀
      obtain ⟨hP1, hK1, hD1⟩ := hB
      rw [ht] at hP1
      have hJ := k_jn (wr := [(kX7 aPa vPa l7 a7 n7), (kAI vPa cI 39 f7), (kX2 aGe vGe l2 a2 n2), (kAI vGe cI 23 f2), (kX11 hx aLa aPa aGe aFl aTr aBe aLu aLo vSf vSm vCo vSh xs xl xf)]) (wt := [(kX7 aPa vPa l7 a7 n7), (kAI vPa cI 39 f7), (kX2 aGe vGe l2 a2 n2), (kAI vGe cI 23 f2), (kX11 hx aLa aPa aGe aFl aTr aBe aLu aLo vSf vSm vCo vSh xs xl xf), (kX4 aLa vLa (g_5 0) (g_5 1) (g_5 2)), (kAI vLa cI 24 f4)]) hP hD hC [2, 3, 4, 5, 6] rfl (by decide +kernel) (by decide +kernel) hk1 hFc hP1 hD1 rfl
      clear hP hD hPc hDc hFc hC hP1 hD1 hK1 hz1 hk1 hvm ht
      obtain ⟨hP, hD⟩ := hJ
      generalize H1 = H at hP hS ⊢
      try dsimp only at hw
      obtain ⟨c_10, c_11, c_12, c_13, c_14⟩ := hw
      refine lv_aload_n hx₀ hb dX11_undo_33 rfl (lv_at hl 0 rfl) ?_
      refine va_get (D := (dC, dI)) (ci := 4) (v := .int (g_5 0)) (C := RX4) (T := TX4) (N := 4) hx₀ hb hts inlX4 hown hK hP 5 rfl rfl 1 (by decide) (hts (.fieldLink RX11 98 "BittenStick$Text" "length" "I") wd_137) (fun _ h9 => h9) rfl dX11_undo_34 ?_
      obtain ⟨hP9, hD9⟩ := k_c2 (wc := [(kX11 hx aLa aPa aGe aFl aTr aBe aLu aLo vSf vSm vCo vSh xs xl xf), (kX4 aLa vLa (g_5 0) (g_5 1) (g_5 2)), (kAI vLa cI 24 f4), (kX7 aPa vPa l7 a7 n7), (kAI vPa cI 39 f7), (kX2 aGe vGe l2 a2 n2), (kAI vGe cI 23 f2)]) hP hD [4, 5, 6, 0, 1, 2, 3] (by decide +kernel) rfl
      exact W.iret (v := g_5 0) hx₀ hb hr (fun t₀ ht hW => ⟨⟨g_5 0, (k_fn [(g_5 0), (g_5 1), (g_5 2), l7, a7, n7, l2, a2, n2], k_fa [], k_fl [], k_fL [], k_fp []), rfl, ⟨(lf_j_undo_1 l4 l7 l2 tt (g_5 0) hh0 hh1 hh2 c_2 c_3 c_10 c_11), (lf_j_undo_2 l4 tt (g_5 0) hh0 c_2 c_3 c_10 c_11), (show l7 = if tt = 1 ∧ ¬ l7 = 0 then l7 - 1 else l7 from (if_neg (show ¬ (tt = 1 ∧ ¬ l7 = 0) from (fun z => (fun z => absurd (c_2.symm.trans z) (by decide)) z.1))).symm), (show l2 = if tt = 2 ∧ ¬ l2 = 0 then l2 - 1 else l2 from (if_neg (show ¬ (tt = 2 ∧ ¬ l2 = 0) from (fun z => (fun z => absurd (c_2.symm.trans z) (by decide)) z.1))).symm), c_14, c_12, c_13, hh6, hh7, hh8, hh9⟩, by rw [ht]; exact hP9, va_K.moved hW.alike hK, hD9⟩, hS.F ht⟩) hS.2.2 dX11_undo_37
    · refine lv_bipush (v := (-3)) hx₀ hb dX11_undo_20 (by decide +kernel) ?_
      obtain ⟨hP9, hD9⟩ := k_c2 (wc := [(kX11 hx aLa aPa aGe aFl aTr aBe aLu aLo vSf vSm vCo vSh xs xl xf), (kX4 aLa vLa l4 a4 n4), (kAI vLa cI 24 f4), (kX7 aPa vPa l7 a7 n7), (kAI vPa cI 39 f7), (kX2 aGe vGe l2 a2 n2), (kAI vGe cI 23 f2)]) hP hD [6, 0, 1, 2, 3, 4, 5] (by decide +kernel) rfl
      exact W.iret (v := (-3)) hx₀ hb hr (fun t₀ ht hW => ⟨⟨(-3), (k_fn [l4, a4, n4, l7, a7, n7, l2, a2, n2], k_fa [], k_fl [], k_fL [], k_fp []), rfl, ⟨(show ((-3) : Int32) = if tt = 0 then (if l4 = 0 then -3 else l4 - 1) else if tt = 1 then (if l7 = 0 then -3 else l7 - 1) else if tt = 2 then (if l2 = 0 then -3 else l2 - 1) else -2 from (((if_pos (c_3)).symm).trans (if_pos (c_2)).symm)), (show l4 = if tt = 0 ∧ ¬ l4 = 0 then l4 - 1 else l4 from (if_neg (show ¬ (tt = 0 ∧ ¬ l4 = 0) from (fun z => (fun z => z c_3) z.2))).symm), (show l7 = if tt = 1 ∧ ¬ l7 = 0 then l7 - 1 else l7 from (if_neg (show ¬ (tt = 1 ∧ ¬ l7 = 0) from (fun z => (fun z => absurd (c_2.symm.trans z) (by decide)) z.1))).symm), (show l2 = if tt = 2 ∧ ¬ l2 = 0 then l2 - 1 else l2 from (if_neg (show ¬ (tt = 2 ∧ ¬ l2 = 0) from (fun z => (fun z => absurd (c_2.symm.trans z) (by decide)) z.1))).symm), hh3, hh4, hh5, hh6, hh7, hh8, hh9⟩, by rw [ht]; exact hP9, va_K.moved hW.alike hK, hD9⟩, hS.F ht⟩) hS.2.2 dX11_undo_22
  rw [if_neg c_2] at hw
  by_cases c_15 : tt = 1
  · rw [if_pos c_15] at hw
    subst hw
    refine W.eq (g2 := F0 m₀ 5 ls [.ref aPa]) rfl ?_
    refine lv_astore_n (lv' := [(2, .ref aPa), (0, .ref hx), (1, .int tt)]) hx₀ hb dX11_undo_5 rfl hl (by decide) rfl (fun ls hl => ?_)
    refine lv_aload_n hx₀ hb dX11_undo_6 rfl (lv_at hl 0 rfl) ?_
    refine lv_ifnonnull (tgt := 13) hx₀ hb dX11_undo_7 (by decide) ?_
    refine lv_aload_n hx₀ hb dX11_undo_13 rfl (lv_at hl 0 rfl) ?_
    refine va_get (D := (dC, dI)) (ci := 7) (v := .int l7) (C := RX7) (T := TX7) (N := 4) hx₀ hb hts inlX7 hown hK hP 2 rfl rfl 1 (by decide) (hts (.fieldLink RX11 98 "BittenStick$Text" "length" "I") wd_137) (fun _ h9 => h9) rfl dX11_undo_14 ?_
    refine lv_if_ne (tgt := 23) hx₀ hb dX11_undo_17 (by decide) (fun c_16 => ?_) (fun c_16 => ?_)
    · refine lv_aload_n hx₀ hb dX11_undo_23 rfl (lv_at hl 0 rfl) ?_
      refine lv_aload_n hx₀ hb dX11_undo_24 rfl (lv_at hl 0 rfl) ?_
      refine va_get (D := (dC, dI)) (ci := 7) (v := .int l7) (C := RX7) (T := TX7) (N := 4) hx₀ hb hts inlX7 hown hK hP 2 rfl rfl 1 (by decide) (hts (.fieldLink RX11 98 "BittenStick$Text" "length" "I") wd_137) (fun _ h9 => h9) rfl dX11_undo_25 ?_
      refine lv_iconst (v := 1) hx₀ hb dX11_undo_28 (by decide +kernel) ?_
      refine lv_isub hx₀ hb dX11_undo_29 ?_
      obtain ⟨hPc, hDc, hFc, hC⟩ := k_cw (wc := [(kX7 aPa vPa l7 a7 n7), (kAI vPa cI 39 f7)]) hP hD hS hA [2, 3] (by decide +kernel) rfl
      refine va_callv (va_runU (As := [.int (l7 - 1)]) (rest := []) ⟨hx₀, hb, hml, hown, hts⟩ (j_shorten_X7 l dC dI cI cJ cQ H.size aPa (l7 - 1) vPa l7 a7 n7 f7 (hh1)) (va_cwU 1 hts (kGU wd_217 wd_213 wd_214 wd_222 wd_216 wd_57) rfl rfl rfl rfl (by decide +kernel) ⟨Nat.le_of_ble_eq_true rfl, Nat.le_of_ble_eq_true rfl⟩) (k_preV7 (q0 := 0) hK hPc hDc hN rfl) rfl rfl hl.1 rfl (lv_room (Nat.le_of_ble_eq_true rfl)) dX11_undo_30 ⟨by decide +kernel, by decide +kernel⟩) hS (fun q _ h => hFc q h) hFc (fun u₀ t₀ H1 locs ht hvm hw hB hz1 hk1 hS => ?_)
      obtain ⟨g_18, ga_19, gl_20, gb_21, gp_22⟩ := u₀
      obtain ⟨hP1, hK1, hD1⟩ := hB
      rw [ht] at hP1
      have hJ := k_jn (wr := [(kX4 aLa vLa l4 a4 n4), (kAI vLa cI 24 f4), (kX2 aGe vGe l2 a2 n2), (kAI vGe cI 23 f2), (kX11 hx aLa aPa aGe aFl aTr aBe aLu aLo vSf vSm vCo vSh xs xl xf)]) (wt := [(kX4 aLa vLa l4 a4 n4), (kAI vLa cI 24 f4), (kX2 aGe vGe l2 a2 n2), (kAI vGe cI 23 f2), (kX11 hx aLa aPa aGe aFl aTr aBe aLu aLo vSf vSm vCo vSh xs xl xf), (kX7 aPa vPa (g_18 0) (g_18 1) (g_18 2)), (kAI vPa cI 39 f7)]) hP hD hC [0, 1, 4, 5, 6] rfl (by decide +kernel) (by decide +kernel) hk1 hFc hP1 hD1 rfl
      clear hP hD hPc hDc hFc hC hP1 hD1 hK1 hz1 hk1 hvm ht
      obtain ⟨hP, hD⟩ := hJ
      generalize H1 = H at hP hS ⊢
      try dsimp only at hw
      obtain ⟨c_23, c_24, c_25, c_26⟩ := hw
      refine lv_aload_n hx₀ hb dX11_undo_33 rfl (lv_at hl 0 rfl) ?_
      refine va_get (D := (dC, dI)) (ci := 7) (v := .int (g_18 0)) (C := RX7) (T := TX7) (N := 4) hx₀ hb hts inlX7 hown hK hP 5 rfl rfl 1 (by decide) (hts (.fieldLink RX11 98 "BittenStick$Text" "length" "I") wd_137) (fun _ h9 => h9) rfl dX11_undo_34 ?_
      obtain ⟨hP9, hD9⟩ := k_c2 (wc := [(kX11 hx aLa aPa aGe aFl aTr aBe aLu aLo vSf vSm vCo vSh xs xl xf), (kX4 aLa vLa l4 a4 n4), (kAI vLa cI 24 f4), (kX7 aPa vPa (g_18 0) (g_18 1) (g_18 2)), (kAI vPa cI 39 f7), (kX2 aGe vGe l2 a2 n2), (kAI vGe cI 23 f2)]) hP hD [4, 0, 1, 5, 6, 2, 3] (by decide +kernel) rfl
      exact W.iret (v := g_18 0) hx₀ hb hr (fun t₀ ht hW => ⟨⟨g_18 0, (k_fn [l4, a4, n4, (g_18 0), (g_18 1), (g_18 2), l2, a2, n2], k_fa [], k_fl [], k_fL [], k_fp []), rfl, ⟨(lf_j_undo_3 l4 l7 l2 tt (g_18 0) hh0 hh1 hh2 c_2 c_15 c_16 c_23 c_24), (show l4 = if tt = 0 ∧ ¬ l4 = 0 then l4 - 1 else l4 from (if_neg (show ¬ (tt = 0 ∧ ¬ l4 = 0) from (fun z => c_2 z.1))).symm), (lf_j_undo_4 l7 tt (g_18 0) hh1 c_2 c_15 c_16 c_23 c_24), (show l2 = if tt = 2 ∧ ¬ l2 = 0 then l2 - 1 else l2 from (if_neg (show ¬ (tt = 2 ∧ ¬ l2 = 0) from (fun z => (fun z => absurd (c_15.symm.trans z) (by decide)) z.1))).symm), hh3, hh4, hh5, c_25, c_26, hh8, hh9⟩, by rw [ht]; exact hP9, va_K.moved hW.alike hK, hD9⟩, hS.F ht⟩) hS.2.2 dX11_undo_37
    · refine lv_bipush (v := (-3)) hx₀ hb dX11_undo_20 (by decide +kernel) ?_
      obtain ⟨hP9, hD9⟩ := k_c2 (wc := [(kX11 hx aLa aPa aGe aFl aTr aBe aLu aLo vSf vSm vCo vSh xs xl xf), (kX4 aLa vLa l4 a4 n4), (kAI vLa cI 24 f4), (kX7 aPa vPa l7 a7 n7), (kAI vPa cI 39 f7), (kX2 aGe vGe l2 a2 n2), (kAI vGe cI 23 f2)]) hP hD [6, 0, 1, 2, 3, 4, 5] (by decide +kernel) rfl
      exact W.iret (v := (-3)) hx₀ hb hr (fun t₀ ht hW => ⟨⟨(-3), (k_fn [l4, a4, n4, l7, a7, n7, l2, a2, n2], k_fa [], k_fl [], k_fL [], k_fp []), rfl, ⟨(show ((-3) : Int32) = if tt = 0 then (if l4 = 0 then -3 else l4 - 1) else if tt = 1 then (if l7 = 0 then -3 else l7 - 1) else if tt = 2 then (if l2 = 0 then -3 else l2 - 1) else -2 from (((((if_pos (c_16)).symm).trans (if_pos (c_15)).symm)).trans (if_neg (c_2)).symm)), (show l4 = if tt = 0 ∧ ¬ l4 = 0 then l4 - 1 else l4 from (if_neg (show ¬ (tt = 0 ∧ ¬ l4 = 0) from (fun z => c_2 z.1))).symm), (show l7 = if tt = 1 ∧ ¬ l7 = 0 then l7 - 1 else l7 from (if_neg (show ¬ (tt = 1 ∧ ¬ l7 = 0) from (fun z => (fun z => z c_16) z.2))).symm), (show l2 = if tt = 2 ∧ ¬ l2 = 0 then l2 - 1 else l2 from (if_neg (show ¬ (tt = 2 ∧ ¬ l2 = 0) from (fun z => (fun z => absurd (c_15.symm.trans z) (by decide)) z.1))).symm), hh3, hh4, hh5, hh6, hh7, hh8, hh9⟩, by rw [ht]; exact hP9, va_K.moved hW.alike hK, hD9⟩, hS.F ht⟩) hS.2.2 dX11_undo_22
  rw [if_neg c_15] at hw
  by_cases c_27 : tt = 2
  · rw [if_pos c_27] at hw
    subst hw
    refine W.eq (g2 := F0 m₀ 5 ls [.ref aGe]) rfl ?_
    refine lv_astore_n (lv' := [(2, .ref aGe), (0, .ref hx), (1, .int tt)]) hx₀ hb dX11_undo_5 rfl hl (by decide) rfl (fun ls hl => ?_)
    refine lv_aload_n hx₀ hb dX11_undo_6 rfl (lv_at hl 0 rfl) ?_
    refine lv_ifnonnull (tgt := 13) hx₀ hb dX11_undo_7 (by decide) ?_
    refine lv_aload_n hx₀ hb dX11_undo_13 rfl (lv_at hl 0 rfl) ?_
    refine va_get (D := (dC, dI)) (ci := 2) (v := .int l2) (C := RX2) (T := TX2) (N := 4) hx₀ hb hts inlX2 hown hK hP 4 rfl rfl 1 (by decide) (hts (.fieldLink RX11 98 "BittenStick$Text" "length" "I") wd_137) (fun _ h9 => h9) rfl dX11_undo_14 ?_
    refine lv_if_ne (tgt := 23) hx₀ hb dX11_undo_17 (by decide) (fun c_28 => ?_) (fun c_28 => ?_)
    · refine lv_aload_n hx₀ hb dX11_undo_23 rfl (lv_at hl 0 rfl) ?_
      refine lv_aload_n hx₀ hb dX11_undo_24 rfl (lv_at hl 0 rfl) ?_
      refine va_get (D := (dC, dI)) (ci := 2) (v := .int l2) (C := RX2) (T := TX2) (N := 4) hx₀ hb hts inlX2 hown hK hP 4 rfl rfl 1 (by decide) (hts (.fieldLink RX11 98 "BittenStick$Text" "length" "I") wd_137) (fun _ h9 => h9) rfl dX11_undo_25 ?_
      refine lv_iconst (v := 1) hx₀ hb dX11_undo_28 (by decide +kernel) ?_
      refine lv_isub hx₀ hb dX11_undo_29 ?_
      obtain ⟨hPc, hDc, hFc, hC⟩ := k_cw (wc := [(kX2 aGe vGe l2 a2 n2), (kAI vGe cI 23 f2)]) hP hD hS hA [4, 5] (by decide +kernel) rfl
      refine va_callv (va_runU (As := [.int (l2 - 1)]) (rest := []) ⟨hx₀, hb, hml, hown, hts⟩ (j_shorten_X2 l dC dI cI cJ cQ H.size aGe (l2 - 1) vGe l2 a2 n2 f2 (hh2)) (va_cwU 1 hts (kGU wd_217 wd_213 wd_214 wd_215 wd_216 wd_57) rfl rfl rfl rfl (by decide +kernel) ⟨Nat.le_of_ble_eq_true rfl, Nat.le_of_ble_eq_true rfl⟩) (k_preV2 (q0 := 0) hK hPc hDc hN rfl) rfl rfl hl.1 rfl (lv_room (Nat.le_of_ble_eq_true rfl)) dX11_undo_30 ⟨by decide +kernel, by decide +kernel⟩) hS (fun q _ h => hFc q h) hFc (fun u₀ t₀ H1 locs ht hvm hw hB hz1 hk1 hS => ?_)
      obtain ⟨g_30, ga_31, gl_32, gb_33, gp_34⟩ := u₀
      obtain ⟨hP1, hK1, hD1⟩ := hB
      rw [ht] at hP1
      have hJ := k_jn (wr := [(kX4 aLa vLa l4 a4 n4), (kAI vLa cI 24 f4), (kX7 aPa vPa l7 a7 n7), (kAI vPa cI 39 f7), (kX11 hx aLa aPa aGe aFl aTr aBe aLu aLo vSf vSm vCo vSh xs xl xf)]) (wt := [(kX4 aLa vLa l4 a4 n4), (kAI vLa cI 24 f4), (kX7 aPa vPa l7 a7 n7), (kAI vPa cI 39 f7), (kX11 hx aLa aPa aGe aFl aTr aBe aLu aLo vSf vSm vCo vSh xs xl xf), (kX2 aGe vGe (g_30 0) (g_30 1) (g_30 2)), (kAI vGe cI 23 f2)]) hP hD hC [0, 1, 2, 3, 6] rfl (by decide +kernel) (by decide +kernel) hk1 hFc hP1 hD1 rfl
      clear hP hD hPc hDc hFc hC hP1 hD1 hK1 hz1 hk1 hvm ht
      obtain ⟨hP, hD⟩ := hJ
      generalize H1 = H at hP hS ⊢
      try dsimp only at hw
      obtain ⟨c_35, c_36, c_37, c_38⟩ := hw
      refine lv_aload_n hx₀ hb dX11_undo_33 rfl (lv_at hl 0 rfl) ?_
      refine va_get (D := (dC, dI)) (ci := 2) (v := .int (g_30 0)) (C := RX2) (T := TX2) (N := 4) hx₀ hb hts inlX2 hown hK hP 5 rfl rfl 1 (by decide) (hts (.fieldLink RX11 98 "BittenStick$Text" "length" "I") wd_137) (fun _ h9 => h9) rfl dX11_undo_34 ?_
      obtain ⟨hP9, hD9⟩ := k_c2 (wc := [(kX11 hx aLa aPa aGe aFl aTr aBe aLu aLo vSf vSm vCo vSh xs xl xf), (kX4 aLa vLa l4 a4 n4), (kAI vLa cI 24 f4), (kX7 aPa vPa l7 a7 n7), (kAI vPa cI 39 f7), (kX2 aGe vGe (g_30 0) (g_30 1) (g_30 2)), (kAI vGe cI 23 f2)]) hP hD [4, 0, 1, 2, 3, 5, 6] (by decide +kernel) rfl
      exact W.iret (v := g_30 0) hx₀ hb hr (fun t₀ ht hW => ⟨⟨g_30 0, (k_fn [l4, a4, n4, l7, a7, n7, (g_30 0), (g_30 1), (g_30 2)], k_fa [], k_fl [], k_fL [], k_fp []), rfl, ⟨(lf_j_undo_5 l4 l7 l2 tt (g_30 0) hh0 hh1 hh2 c_2 c_15 c_27 c_28 c_35 c_36), (show l4 = if tt = 0 ∧ ¬ l4 = 0 then l4 - 1 else l4 from (if_neg (show ¬ (tt = 0 ∧ ¬ l4 = 0) from (fun z => c_2 z.1))).symm), (show l7 = if tt = 1 ∧ ¬ l7 = 0 then l7 - 1 else l7 from (if_neg (show ¬ (tt = 1 ∧ ¬ l7 = 0) from (fun z => c_15 z.1))).symm), (lf_j_undo_6 l2 tt (g_30 0) hh2 c_2 c_15 c_27 c_28 c_35 c_36), hh3, hh4, hh5, hh6, hh7, c_37, c_38⟩, by rw [ht]; exact hP9, va_K.moved hW.alike hK, hD9⟩, hS.F ht⟩) hS.2.2 dX11_undo_37
    · refine lv_bipush (v := (-3)) hx₀ hb dX11_undo_20 (by decide +kernel) ?_
      obtain ⟨hP9, hD9⟩ := k_c2 (wc := [(kX11 hx aLa aPa aGe aFl aTr aBe aLu aLo vSf vSm vCo vSh xs xl xf), (kX4 aLa vLa l4 a4 n4), (kAI vLa cI 24 f4), (kX7 aPa vPa l7 a7 n7), (kAI vPa cI 39 f7), (kX2 aGe vGe l2 a2 n2), (kAI vGe cI 23 f2)]) hP hD [6, 0, 1, 2, 3, 4, 5] (by decide +kernel) rfl
      exact W.iret (v := (-3)) hx₀ hb hr (fun t₀ ht hW => ⟨⟨(-3), (k_fn [l4, a4, n4, l7, a7, n7, l2, a2, n2], k_fa [], k_fl [], k_fL [], k_fp []), rfl, ⟨(show ((-3) : Int32) = if tt = 0 then (if l4 = 0 then -3 else l4 - 1) else if tt = 1 then (if l7 = 0 then -3 else l7 - 1) else if tt = 2 then (if l2 = 0 then -3 else l2 - 1) else -2 from (((((((if_pos (c_28)).symm).trans (if_pos (c_27)).symm)).trans (if_neg (c_15)).symm)).trans (if_neg (c_2)).symm)), (show l4 = if tt = 0 ∧ ¬ l4 = 0 then l4 - 1 else l4 from (if_neg (show ¬ (tt = 0 ∧ ¬ l4 = 0) from (fun z => c_2 z.1))).symm), (show l7 = if tt = 1 ∧ ¬ l7 = 0 then l7 - 1 else l7 from (if_neg (show ¬ (tt = 1 ∧ ¬ l7 = 0) from (fun z => c_15 z.1))).symm), (show l2 = if tt = 2 ∧ ¬ l2 = 0 then l2 - 1 else l2 from (if_neg (show ¬ (tt = 2 ∧ ¬ l2 = 0) from (fun z => (fun z => z c_28) z.2))).symm), hh3, hh4, hh5, hh6, hh7, hh8, hh9⟩, by rw [ht]; exact hP9, va_K.moved hW.alike hK, hD9⟩, hS.F ht⟩) hS.2.2 dX11_undo_22
  rw [if_neg c_27] at hw
  subst hw
  refine W.eq (g2 := F0 m₀ 5 ls [.null]) rfl ?_
  refine lv_astore_nN (lv' := [(2, .null), (0, .ref hx), (1, .int tt)]) hx₀ hb dX11_undo_5 rfl hl (by decide) rfl (fun ls hl => ?_)
  refine lv_aload_nN hx₀ hb dX11_undo_6 rfl (lv_at hl 0 rfl) ?_
  refine lv_ifnonnullN hx₀ hb dX11_undo_7 ?_
  refine lv_bipush (v := (-2)) hx₀ hb dX11_undo_10 (by decide +kernel) ?_
  obtain ⟨hP9, hD9⟩ := k_c2 (wc := [(kX11 hx aLa aPa aGe aFl aTr aBe aLu aLo vSf vSm vCo vSh xs xl xf), (kX4 aLa vLa l4 a4 n4), (kAI vLa cI 24 f4), (kX7 aPa vPa l7 a7 n7), (kAI vPa cI 39 f7), (kX2 aGe vGe l2 a2 n2), (kAI vGe cI 23 f2)]) hP hD [6, 0, 1, 2, 3, 4, 5] (by decide +kernel) rfl
  exact W.iret (v := (-2)) hx₀ hb hr (fun t₀ ht hW => ⟨⟨(-2), (k_fn [l4, a4, n4, l7, a7, n7, l2, a2, n2], k_fa [], k_fl [], k_fL [], k_fp []), rfl, ⟨(show ((-2) : Int32) = if tt = 0 then (if l4 = 0 then -3 else l4 - 1) else if tt = 1 then (if l7 = 0 then -3 else l7 - 1) else if tt = 2 then (if l2 = 0 then -3 else l2 - 1) else -2 from (((((if_neg (c_27)).symm).trans (if_neg (c_15)).symm)).trans (if_neg (c_2)).symm)), (show l4 = if tt = 0 ∧ ¬ l4 = 0 then l4 - 1 else l4 from (if_neg (show ¬ (tt = 0 ∧ ¬ l4 = 0) from (fun z => c_2 z.1))).symm), (show l7 = if tt = 1 ∧ ¬ l7 = 0 then l7 - 1 else l7 from (if_neg (show ¬ (tt = 1 ∧ ¬ l7 = 0) from (fun z => c_15 z.1))).symm), (show l2 = if tt = 2 ∧ ¬ l2 = 0 then l2 - 1 else l2 from (if_neg (show ¬ (tt = 2 ∧ ¬ l2 = 0) from (fun z => c_27 z.1))).symm), hh3, hh4, hh5, hh6, hh7, hh8, hh9⟩, by rw [ht]; exact hP9, va_K.moved hW.alike hK, hD9⟩, hS.F ht⟩) hS.2.2 dX11_undo_12
set_option maxHeartbeats 4000000 in
set_option maxRecDepth 100000 in
theorem j_fault (l : Launch) (dC : Nat → ClassId) (dI : Nat → Nat → Nat) (cI cJ cQ : ClassId) (sz : Nat) (hx : Nat) (tt : Int32) (aLa : Nat) (aPa : Nat) (aGe : Nat) (aFl : Nat) (aTr : Nat) (aBe : Nat) (aLu : Nat) (aLo : Nat) (vSf : Nat) (vSm : Nat) (vCo : Nat) (vSh : Nat) (xs : Int32) (xl : Int32) (xf : Int32) (vLa : Nat) (l4 : Int32) (a4 : Int32) (n4 : Int32) (vPa : Nat) (l7 : Int32) (a7 : Int32) (n7 : Int32) (vGe : Nat) (l2 : Int32) (a2 : Int32) (n2 : Int32) : Met l yX11_fault (kW yX11_fault cX11_fault 3 (some .int)) { frames := 1, cells := 0, slots := 0, locals := 21 } (kPre dC dI cI cJ cQ sz [.ref hx, .int tt] [(kX11 hx aLa aPa aGe aFl aTr aBe aLu aLo vSf vSm vCo vSh xs xl xf), (kX4 aLa vLa l4 a4 n4), (kX7 aPa vPa l7 a7 n7), (kX2 aGe vGe l2 a2 n2)]) (va_Qi (fun (r : Int32) (u : Unit) => (r = if tt = 0 then a4 else if tt = 1 then a7 else if tt = 2 then a2 else -2)) (fun (u : Unit) t₀ => kB dC dI cI cJ cQ (va_A [(kX11 hx aLa aPa aGe aFl aTr aBe aLu aLo vSf vSm vCo vSh xs xl xf), (kX4 aLa vLa l4 a4 n4), (kX7 aPa vPa l7 a7 n7), (kX2 aGe vGe l2 a2 n2)] sz) [(kX11 hx aLa aPa aGe aFl aTr aBe aLu aLo vSf vSm vCo vSh xs xl xf), (kX4 aLa vLa l4 a4 n4), (kX7 aPa vPa l7 a7 n7), (kX2 aGe vGe l2 a2 n2)] t₀) (va_A [(kX11 hx aLa aPa aGe aFl aTr aBe aLu aLo vSf vSm vCo vSh xs xl xf), (kX4 aLa vLa l4 a4 n4), (kX7 aPa vPa l7 a7 n7), (kX2 aGe vGe l2 a2 n2)] sz)) 0 0 (va_A [(kX11 hx aLa aPa aGe aFl aTr aBe aLu aLo vSf vSm vCo vSh xs xl xf), (kX4 aLa vLa l4 a4 n4), (kX7 aPa vPa l7 a7 n7), (kX2 aGe vGe l2 a2 n2)] sz) := by
  refine Met.ofW (cc := cX11_fault) (maxL := 3) (ret := (some .int)) (by decide) rfl ?_
  intro p₀ e₀ s₀ m₀ args below meth c₀ s₁ B hml hv₀
  obtain ⟨rfl, hsz, hP, hK, hD0, hN⟩ := hv₀
  have hx₀ := B.exec
  have hb := B.bytes
  have hr := B.returns
  have hts := atoms_spec (ws := (kW yX11_fault cX11_fault 3 (some .int))) B.pre
  have hts := fun w h => hts w (List.mem_cons_of_mem _ h)
  have hown : s₀.vm.findClass RX11 = some m₀.cls := findClass_of_methodNamed B.named
  have hlocks := B.notSynchronized
  subst hsz
  have hD := hD0.self (sz := s₀.heap.size)
  generalize hAe : va_A [(kX11 hx aLa aPa aGe aFl aTr aBe aLu aLo vSf vSm vCo vSh xs xl xf), (kX4 aLa vLa l4 a4 n4), (kX7 aPa vPa l7 a7 n7), (kX2 aGe vGe l2 a2 n2)] s₀.heap.size = A at hD ⊢
  have hA : ∀ q : Nat, s₀.heap.size ≤ q → A q := fun q h => by rw [← hAe]; exact Or.inr h
  have hS : va_S A s₀.heap s₀.heap [] := va_S.rf
  have hP : va_P (dC, dI) vwCl [(kX11 hx aLa aPa aGe aFl aTr aBe aLu aLo vSf vSm vCo vSh xs xl xf), (kX4 aLa vLa l4 a4 n4), (kX7 aPa vPa l7 a7 n7), (kX2 aGe vGe l2 a2 n2)] s₀.heap := hP
  have hl := lv_entry ([.ref hx, .int tt]) (n := 3) (Nat.le_of_ble_eq_true rfl)
  rw [lg_entry_eq]
  generalize (lg_sl ([.ref hx, .int tt]) ++ List.replicate (3 - (lg_sl ([.ref hx, .int tt])).length) Slot.unset).toArray = ls at hl ⊢
  have hl : lv_has ls 3 [(0, .ref hx), (1, .int tt)] := hl
  obtain ⟨H, hH⟩ : ∃ z : Heap, z = s₀.heap := ⟨_, rfl⟩
  rw [← hH] at hP
  have hS : va_S A s₀.heap H [] := by rw [hH]; exact hS
  refine k_heap hH ?_
  have hD : va_D A [(kX11 hx aLa aPa aGe aFl aTr aBe aLu aLo vSf vSm vCo vSh xs xl xf), (kX4 aLa vLa l4 a4 n4), (kX7 aPa vPa l7 a7 n7), (kX2 aGe vGe l2 a2 n2)] := hD
  obtain ⟨locs, hlo⟩ : ∃ z : List Loc, z = [] := ⟨_, rfl⟩
  rw [← hlo] at hS ⊢
  clear hlo hH hAe hD0
  refine lv_aload_n hx₀ hb dX11_fault_0 rfl (lv_at hl 0 rfl) ?_
  refine lv_iload_n hx₀ hb dX11_fault_1 rfl (lv_at hl 1 rfl) ?_
  obtain ⟨hPc, hDc, hFc, hC⟩ := k_cw (wc := [(kX11 hx aLa aPa aGe aFl aTr aBe aLu aLo vSf vSm vCo vSh xs xl xf)]) hP hD hS hA [0] (by decide +kernel) rfl
  refine va_callq (va_runV (As := [.int tt]) (rest := []) ⟨hx₀, hb, hml, hown, hts⟩ (j_textOf l dC dI cI cJ cQ H.size hx tt aLa aPa aGe aFl aTr aBe aLu aLo vSf vSm vCo vSh xs xl xf) (cwV 1 hts (kGV wd_141 wd_138 wd_139 wd_140 wd_2) rfl rfl rfl (by decide +kernel) ⟨Nat.le_of_ble_eq_true rfl, Nat.le_of_ble_eq_true rfl⟩) (k_preV10 (q0 := 0) hK hPc hDc hN rfl) rfl rfl hl.1 rfl (lv_room (Nat.le_of_ble_eq_true rfl)) dX11_fault_2 ⟨by decide +kernel, by decide +kernel⟩) hS (fun q _ h => hFc q h) hFc (fun r_1 u₀ t₀ H1 locs ht hvm hw hB hz1 hk1 hS => ?_)
  obtain ⟨hP1, hK1, hD1⟩ := hB
  rw [ht] at hP1
  have hJ := k_jn (wr := [(kX4 aLa vLa l4 a4 n4), (kX7 aPa vPa l7 a7 n7), (kX2 aGe vGe l2 a2 n2)]) (wt := [(kX4 aLa vLa l4 a4 n4), (kX7 aPa vPa l7 a7 n7), (kX2 aGe vGe l2 a2 n2), (kX11 hx aLa aPa aGe aFl aTr aBe aLu aLo vSf vSm vCo vSh xs xl xf)]) hP hD hC [1, 2, 3] rfl (by decide +kernel) (by decide +kernel) hk1 hFc hP1 hD1 rfl
  clear hP hD hPc hDc hFc hC hP1 hD1 hK1 hz1 hk1 hvm ht
  obtain ⟨hP, hD⟩ := hJ
  generalize H1 = H at hP hS ⊢
  try dsimp only at hw
  by_cases c_2 : tt = 0
  · rw [if_pos c_2] at hw
    subst hw
    refine W.eq (g2 := F0 m₀ 5 ls [.ref aLa]) rfl ?_
    refine lv_astore_n (lv' := [(2, .ref aLa), (0, .ref hx), (1, .int tt)]) hx₀ hb dX11_fault_5 rfl hl (by decide) rfl (fun ls hl => ?_)
    refine lv_aload_n hx₀ hb dX11_fault_6 rfl (lv_at hl 0 rfl) ?_
    refine lv_ifnonnull (tgt := 15) hx₀ hb dX11_fault_7 (by decide) ?_
    refine lv_aload_n hx₀ hb dX11_fault_15 rfl (lv_at hl 0 rfl) ?_
    refine va_get (D := (dC, dI)) (ci := 4) (v := .int a4) (C := RX4) (T := TX4) (N := 4) hx₀ hb hts inlX4 hown hK hP 0 rfl rfl 2 (by decide) (hts (.fieldLink RX11 105 "BittenStick$Text" "faultAt" "I") wd_239) (fun _ h9 => h9) rfl dX11_fault_16 ?_
    obtain ⟨hP9, hD9⟩ := k_c2 (wc := [(kX11 hx aLa aPa aGe aFl aTr aBe aLu aLo vSf vSm vCo vSh xs xl xf), (kX4 aLa vLa l4 a4 n4), (kX7 aPa vPa l7 a7 n7), (kX2 aGe vGe l2 a2 n2)]) hP hD [3, 0, 1, 2] (by decide +kernel) rfl
    exact W.iret (v := a4) hx₀ hb hr (fun t₀ ht hW => ⟨⟨a4, (), rfl, (show (a4 : Int32) = if tt = 0 then a4 else if tt = 1 then a7 else if tt = 2 then a2 else -2 from (if_pos (c_2)).symm), by rw [ht]; exact hP9, va_K.moved hW.alike hK, hD9⟩, hS.F ht⟩) hS.2.2 dX11_fault_19
  rw [if_neg c_2] at hw
  by_cases c_3 : tt = 1
  · rw [if_pos c_3] at hw
    subst hw
    refine W.eq (g2 := F0 m₀ 5 ls [.ref aPa]) rfl ?_
    refine lv_astore_n (lv' := [(2, .ref aPa), (0, .ref hx), (1, .int tt)]) hx₀ hb dX11_fault_5 rfl hl (by decide) rfl (fun ls hl => ?_)
    refine lv_aload_n hx₀ hb dX11_fault_6 rfl (lv_at hl 0 rfl) ?_
    refine lv_ifnonnull (tgt := 15) hx₀ hb dX11_fault_7 (by decide) ?_
    refine lv_aload_n hx₀ hb dX11_fault_15 rfl (lv_at hl 0 rfl) ?_
    refine va_get (D := (dC, dI)) (ci := 7) (v := .int a7) (C := RX7) (T := TX7) (N := 4) hx₀ hb hts inlX7 hown hK hP 1 rfl rfl 2 (by decide) (hts (.fieldLink RX11 105 "BittenStick$Text" "faultAt" "I") wd_239) (fun _ h9 => h9) rfl dX11_fault_16 ?_
    obtain ⟨hP9, hD9⟩ := k_c2 (wc := [(kX11 hx aLa aPa aGe aFl aTr aBe aLu aLo vSf vSm vCo vSh xs xl xf), (kX4 aLa vLa l4 a4 n4), (kX7 aPa vPa l7 a7 n7), (kX2 aGe vGe l2 a2 n2)]) hP hD [3, 0, 1, 2] (by decide +kernel) rfl
    exact W.iret (v := a7) hx₀ hb hr (fun t₀ ht hW => ⟨⟨a7, (), rfl, (show (a7 : Int32) = if tt = 0 then a4 else if tt = 1 then a7 else if tt = 2 then a2 else -2 from (((if_pos (c_3)).symm).trans (if_neg (c_2)).symm)), by rw [ht]; exact hP9, va_K.moved hW.alike hK, hD9⟩, hS.F ht⟩) hS.2.2 dX11_fault_19
  rw [if_neg c_3] at hw
  by_cases c_4 : tt = 2
  · rw [if_pos c_4] at hw
    subst hw
    refine W.eq (g2 := F0 m₀ 5 ls [.ref aGe]) rfl ?_
    refine lv_astore_n (lv' := [(2, .ref aGe), (0, .ref hx), (1, .int tt)]) hx₀ hb dX11_fault_5 rfl hl (by decide) rfl (fun ls hl => ?_)
    refine lv_aload_n hx₀ hb dX11_fault_6 rfl (lv_at hl 0 rfl) ?_
    refine lv_ifnonnull (tgt := 15) hx₀ hb dX11_fault_7 (by decide) ?_
    refine lv_aload_n hx₀ hb dX11_fault_15 rfl (lv_at hl 0 rfl) ?_
    refine va_get (D := (dC, dI)) (ci := 2) (v := .int a2) (C := RX2) (T := TX2) (N := 4) hx₀ hb hts inlX2 hown hK hP 2 rfl rfl 2 (by decide) (hts (.fieldLink RX11 105 "BittenStick$Text" "faultAt" "I") wd_239) (fun _ h9 => h9) rfl dX11_fault_16 ?_
    obtain ⟨hP9, hD9⟩ := k_c2 (wc := [(kX11 hx aLa aPa aGe aFl aTr aBe aLu aLo vSf vSm vCo vSh xs xl xf), (kX4 aLa vLa l4 a4 n4), (kX7 aPa vPa l7 a7 n7), (kX2 aGe vGe l2 a2 n2)]) hP hD [3, 0, 1, 2] (by decide +kernel) rfl
    exact W.iret (v := a2) hx₀ hb hr (fun t₀ ht hW => ⟨⟨a2, (), rfl, (show (a2 : Int32) = if tt = 0 then a4 else if tt = 1 then a7 else if tt = 2 then a2 else -2 from (((((if_pos (c_4)).symm).trans (if_neg (c_3)).symm)).trans (if_neg (c_2)).symm)), by rw [ht]; exact hP9, va_K.moved hW.alike hK, hD9⟩, hS.F ht⟩) hS.2.2 dX11_fault_19
  rw [if_neg c_4] at hw
  subst hw
  refine W.eq (g2 := F0 m₀ 5 ls [.null]) rfl ?_
  refine lv_astore_nN (lv' := [(2, .null), (0, .ref hx), (1, .int tt)]) hx₀ hb dX11_fault_5 rfl hl (by decide) rfl (fun ls hl => ?_)
  refine lv_aload_nN hx₀ hb dX11_fault_6 rfl (lv_at hl 0 rfl) ?_
  refine lv_ifnonnullN hx₀ hb dX11_fault_7 ?_
  refine lv_bipush (v := (-2)) hx₀ hb dX11_fault_10 (by decide +kernel) ?_
  refine lv_goto (tgt := 19) hx₀ hb dX11_fault_12 (by decide) ?_
  obtain ⟨hP9, hD9⟩ := k_c2 (wc := [(kX11 hx aLa aPa aGe aFl aTr aBe aLu aLo vSf vSm vCo vSh xs xl xf), (kX4 aLa vLa l4 a4 n4), (kX7 aPa vPa l7 a7 n7), (kX2 aGe vGe l2 a2 n2)]) hP hD [3, 0, 1, 2] (by decide +kernel) rfl
  exact W.iret (v := (-2)) hx₀ hb hr (fun t₀ ht hW => ⟨⟨(-2), (), rfl, (show ((-2) : Int32) = if tt = 0 then a4 else if tt = 1 then a7 else if tt = 2 then a2 else -2 from (((((if_neg (c_4)).symm).trans (if_neg (c_3)).symm)).trans (if_neg (c_2)).symm)), by rw [ht]; exact hP9, va_K.moved hW.alike hK, hD9⟩, hS.F ht⟩) hS.2.2 dX11_fault_19
set_option maxHeartbeats 4000000 in
set_option maxRecDepth 100000 in
theorem j_mile (l : Launch) (dC : Nat → ClassId) (dI : Nat → Nat → Nat) (cI cJ cQ : ClassId) (sz : Nat) (hx : Nat) (m1 : Int32) (aLa : Nat) (aPa : Nat) (aGe : Nat) (aFl : Nat) (aTr : Nat) (aBe : Nat) (aLu : Nat) (aLo : Nat) (vSf : Nat) (vSm : Nat) (vCo : Nat) (vSh : Nat) (xs : Int32) (xl : Int32) (xf : Int32) (vLa : Nat) (l4 : Int32) (a4 : Int32) (n4 : Int32) (f4 : Nat → Int32) : Met l yX11_mile (kW yX11_mile cX11_mile 2 (some .int)) { frames := 1, cells := 0, slots := 0, locals := 21 } (kPre dC dI cI cJ cQ sz [.ref hx, .int m1] [(kX11 hx aLa aPa aGe aFl aTr aBe aLu aLo vSf vSm vCo vSh xs xl xf), (kX4 aLa vLa l4 a4 n4), (kAI vLa cI 24 f4)]) (va_Qi (fun (r : Int32) (u : Unit) => (r = if 0 ≤ m1 ∧ m1 < 24 then (if m1 < n4 then kAt 24 f4 m1 else -1) else -2)) (fun (u : Unit) t₀ => kB dC dI cI cJ cQ (va_A [(kX11 hx aLa aPa aGe aFl aTr aBe aLu aLo vSf vSm vCo vSh xs xl xf), (kX4 aLa vLa l4 a4 n4), (kAI vLa cI 24 f4)] sz) [(kX11 hx aLa aPa aGe aFl aTr aBe aLu aLo vSf vSm vCo vSh xs xl xf), (kX4 aLa vLa l4 a4 n4), (kAI vLa cI 24 f4)] t₀) (va_A [(kX11 hx aLa aPa aGe aFl aTr aBe aLu aLo vSf vSm vCo vSh xs xl xf), (kX4 aLa vLa l4 a4 n4), (kAI vLa cI 24 f4)] sz)) 0 0 (va_A [(kX11 hx aLa aPa aGe aFl aTr aBe aLu aLo vSf vSm vCo vSh xs xl xf), (kX4 aLa vLa l4 a4 n4), (kAI vLa cI 24 f4)] sz) := by
  refine Met.ofW (cc := cX11_mile) (maxL := 2) (ret := (some .int)) (by decide) rfl ?_
  intro p₀ e₀ s₀ m₀ args below meth c₀ s₁ B hml hv₀
  obtain ⟨rfl, hsz, hP, hK, hD0, hN⟩ := hv₀
  have hx₀ := B.exec
  have hb := B.bytes
  have hr := B.returns
  have hts := atoms_spec (ws := (kW yX11_mile cX11_mile 2 (some .int))) B.pre
  have hts := fun w h => hts w (List.mem_cons_of_mem _ h)
  have hown : s₀.vm.findClass RX11 = some m₀.cls := findClass_of_methodNamed B.named
  have hlocks := B.notSynchronized
  subst hsz
  have hD := hD0.self (sz := s₀.heap.size)
  generalize hAe : va_A [(kX11 hx aLa aPa aGe aFl aTr aBe aLu aLo vSf vSm vCo vSh xs xl xf), (kX4 aLa vLa l4 a4 n4), (kAI vLa cI 24 f4)] s₀.heap.size = A at hD ⊢
  have hA : ∀ q : Nat, s₀.heap.size ≤ q → A q := fun q h => by rw [← hAe]; exact Or.inr h
  have hS : va_S A s₀.heap s₀.heap [] := va_S.rf
  have hP : va_P (dC, dI) vwCl [(kX11 hx aLa aPa aGe aFl aTr aBe aLu aLo vSf vSm vCo vSh xs xl xf), (kX4 aLa vLa l4 a4 n4), (kAI vLa cI 24 f4)] s₀.heap := hP
  have hl := lv_entry ([.ref hx, .int m1]) (n := 2) (Nat.le_of_ble_eq_true rfl)
  rw [lg_entry_eq]
  generalize (lg_sl ([.ref hx, .int m1]) ++ List.replicate (2 - (lg_sl ([.ref hx, .int m1])).length) Slot.unset).toArray = ls at hl ⊢
  have hl : lv_has ls 2 [(0, .ref hx), (1, .int m1)] := hl
  obtain ⟨H, hH⟩ : ∃ z : Heap, z = s₀.heap := ⟨_, rfl⟩
  rw [← hH] at hP
  have hS : va_S A s₀.heap H [] := by rw [hH]; exact hS
  refine k_heap hH ?_
  have hD : va_D A [(kX11 hx aLa aPa aGe aFl aTr aBe aLu aLo vSf vSm vCo vSh xs xl xf), (kX4 aLa vLa l4 a4 n4), (kAI vLa cI 24 f4)] := hD
  obtain ⟨locs, hlo⟩ : ∃ z : List Loc, z = [] := ⟨_, rfl⟩
  rw [← hlo] at hS ⊢
  clear hlo hH hAe hD0
  refine lv_iload_n hx₀ hb dX11_mile_0 rfl (lv_at hl 1 rfl) ?_
  refine lv_if_lt (tgt := 10) hx₀ hb dX11_mile_1 (by decide) (fun c_1 => ?_) (fun c_1 => ?_)
  · refine lv_bipush (v := (-2)) hx₀ hb dX11_mile_10 (by decide +kernel) ?_
    obtain ⟨hP9, hD9⟩ := k_c2 (wc := [(kX11 hx aLa aPa aGe aFl aTr aBe aLu aLo vSf vSm vCo vSh xs xl xf), (kX4 aLa vLa l4 a4 n4), (kAI vLa cI 24 f4)]) hP hD [0, 1, 2] (by decide +kernel) rfl
    exact W.iret (v := (-2)) hx₀ hb hr (fun t₀ ht hW => ⟨⟨(-2), (), rfl, (show ((-2) : Int32) = if 0 ≤ m1 ∧ m1 < 24 then (if m1 < n4 then kAt 24 f4 m1 else -1) else -2 from (if_neg (show ¬ (0 ≤ m1 ∧ m1 < 24) from (fun z => (Int32.not_le.mpr c_1) z.1))).symm), by rw [ht]; exact hP9, va_K.moved hW.alike hK, hD9⟩, hS.F ht⟩) hS.2.2 dX11_mile_12
  · refine lv_iload_n hx₀ hb dX11_mile_4 rfl (lv_at hl 1 rfl) ?_
    refine lv_bipush (v := 24) hx₀ hb dX11_mile_5 (by decide +kernel) ?_
    refine lv_icmp_lt (tgt := 13) hx₀ hb dX11_mile_7 (by decide) (fun c_2 => ?_) (fun c_2 => ?_)
    · refine lv_iload_n hx₀ hb dX11_mile_13 rfl (lv_at hl 1 rfl) ?_
      refine lv_aload_n hx₀ hb dX11_mile_14 rfl (lv_at hl 0 rfl) ?_
      refine va_get (D := (dC, dI)) (ci := 10) (v := .ref aLa) (C := RX11) (T := TX11) (N := 15) hx₀ hb hts inlX11 hown hK hP 0 rfl rfl 0 (by decide) (hts (.fieldLink RX11 10 "BittenStick" "land" "LBittenStick$Land;") wd_15) (fun _ h9 => h9) rfl dX11_mile_15 ?_
      refine va_get (D := (dC, dI)) (ci := 4) (v := .int n4) (C := RX4) (T := TX4) (N := 4) hx₀ hb hts inlX4 hown hK hP 1 rfl rfl 3 (by decide) (hts (.fieldLink RX11 108 "BittenStick$Land" "number" "I") wd_285) (fun x9 h9 => u_same (hts (.sameField "BittenStick$Land" "BittenStick$Text" "number" "I") wd_286) x9 h9) rfl dX11_mile_18 ?_
      refine lv_icmp_ge (tgt := 35) hx₀ hb dX11_mile_21 (by decide) (fun c_3 => ?_) (fun c_3 => ?_)
      · refine lv_iconst (v := (-1)) hx₀ hb dX11_mile_35 (by decide +kernel) ?_
        obtain ⟨hP9, hD9⟩ := k_c2 (wc := [(kX11 hx aLa aPa aGe aFl aTr aBe aLu aLo vSf vSm vCo vSh xs xl xf), (kX4 aLa vLa l4 a4 n4), (kAI vLa cI 24 f4)]) hP hD [0, 1, 2] (by decide +kernel) rfl
        exact W.iret (v := (-1)) hx₀ hb hr (fun t₀ ht hW => ⟨⟨(-1), (), rfl, (show ((-1) : Int32) = if 0 ≤ m1 ∧ m1 < 24 then (if m1 < n4 then kAt 24 f4 m1 else -1) else -2 from (((if_neg (show ¬ (m1 < n4) from (Int32.not_lt.mpr c_3))).symm).trans (if_pos (show 0 ≤ m1 ∧ m1 < 24 from ⟨(Int32.not_lt.mp c_1), c_2⟩)).symm)), by rw [ht]; exact hP9, va_K.moved hW.alike hK, hD9⟩, hS.F ht⟩) hS.2.2 dX11_mile_36
      · refine lv_aload_n hx₀ hb dX11_mile_24 rfl (lv_at hl 0 rfl) ?_
        refine va_get (D := (dC, dI)) (ci := 10) (v := .ref aLa) (C := RX11) (T := TX11) (N := 15) hx₀ hb hts inlX11 hown hK hP 0 rfl rfl 0 (by decide) (hts (.fieldLink RX11 10 "BittenStick" "land" "LBittenStick$Land;") wd_15) (fun _ h9 => h9) rfl dX11_mile_25 ?_
        refine lv_iload_n hx₀ hb dX11_mile_28 rfl (lv_at hl 1 rfl) ?_
        obtain ⟨hPc, hDc, hFc, hC⟩ := k_cw (wc := [(kX4 aLa vLa l4 a4 n4), (kAI vLa cI 24 f4)]) hP hD hS hA [1, 2] (by decide +kernel) rfl
        refine va_calli (va_runU (As := [.int m1]) (rest := []) ⟨hx₀, hb, hml, hown, hts⟩ (j_valueAt_X4 l dC dI cI cJ cQ H.size aLa m1 vLa l4 a4 n4 f4) (va_cwU 1 hts (kGU wd_179 wd_287 wd_288 wd_289 wd_178 wd_57) rfl rfl rfl rfl (by decide +kernel) ⟨Nat.le_of_ble_eq_true rfl, Nat.le_of_ble_eq_true rfl⟩) (k_preV4 (q0 := 0) hK hPc hDc hN rfl) rfl rfl hl.1 rfl (lv_room (Nat.le_of_ble_eq_true rfl)) dX11_mile_29 ⟨by decide +kernel, by decide +kernel⟩) hS (fun q _ h => hFc q h) hFc (fun r_4 u₀ t₀ H1 locs ht hvm hw hB hz1 hk1 hS => ?_)
        obtain ⟨hP1, hK1, hD1⟩ := hB
        rw [ht] at hP1
        have hJ := k_jn (wr := [(kX11 hx aLa aPa aGe aFl aTr aBe aLu aLo vSf vSm vCo vSh xs xl xf)]) (wt := [(kX11 hx aLa aPa aGe aFl aTr aBe aLu aLo vSf vSm vCo vSh xs xl xf), (kX4 aLa vLa l4 a4 n4), (kAI vLa cI 24 f4)]) hP hD hC [0] rfl (by decide +kernel) (by decide +kernel) hk1 hFc hP1 hD1 rfl
        clear hP hD hPc hDc hFc hC hP1 hD1 hK1 hz1 hk1 hvm ht
        obtain ⟨hP, hD⟩ := hJ
        generalize H1 = H at hP hS ⊢
        try dsimp only at hw
        refine k_topi (v := kAt 24 f4 m1) hw ?_
        refine lv_goto (tgt := 36) hx₀ hb dX11_mile_32 (by decide) ?_
        obtain ⟨hP9, hD9⟩ := k_c2 (wc := [(kX11 hx aLa aPa aGe aFl aTr aBe aLu aLo vSf vSm vCo vSh xs xl xf), (kX4 aLa vLa l4 a4 n4), (kAI vLa cI 24 f4)]) hP hD [0, 1, 2] (by decide +kernel) rfl
        exact W.iret (v := kAt 24 f4 m1) hx₀ hb hr (fun t₀ ht hW => ⟨⟨kAt 24 f4 m1, (), rfl, (show (kAt 24 f4 m1 : Int32) = if 0 ≤ m1 ∧ m1 < 24 then (if m1 < n4 then kAt 24 f4 m1 else -1) else -2 from (((if_pos (show m1 < n4 from (Int32.not_le.mp c_3))).symm).trans (if_pos (show 0 ≤ m1 ∧ m1 < 24 from ⟨(Int32.not_lt.mp c_1), c_2⟩)).symm)), by rw [ht]; exact hP9, va_K.moved hW.alike hK, hD9⟩, hS.F ht⟩) hS.2.2 dX11_mile_36
    · refine lv_bipush (v := (-2)) hx₀ hb dX11_mile_10 (by decide +kernel) ?_
      obtain ⟨hP9, hD9⟩ := k_c2 (wc := [(kX11 hx aLa aPa aGe aFl aTr aBe aLu aLo vSf vSm vCo vSh xs xl xf), (kX4 aLa vLa l4 a4 n4), (kAI vLa cI 24 f4)]) hP hD [0, 1, 2] (by decide +kernel) rfl
      exact W.iret (v := (-2)) hx₀ hb hr (fun t₀ ht hW => ⟨⟨(-2), (), rfl, (show ((-2) : Int32) = if 0 ≤ m1 ∧ m1 < 24 then (if m1 < n4 then kAt 24 f4 m1 else -1) else -2 from (if_neg (show ¬ (0 ≤ m1 ∧ m1 < 24) from (fun z => c_2 z.2))).symm), by rw [ht]; exact hP9, va_K.moved hW.alike hK, hD9⟩, hS.F ht⟩) hS.2.2 dX11_mile_12
set_option maxHeartbeats 4000000 in
set_option maxRecDepth 100000 in
theorem j_passenger (l : Launch) (dC : Nat → ClassId) (dI : Nat → Nat → Nat) (cI cJ cQ : ClassId) (sz : Nat) (hx : Nat) (p1 : Int32) (w1 : Int32) (aLa : Nat) (aPa : Nat) (aGe : Nat) (aFl : Nat) (aTr : Nat) (aBe : Nat) (aLu : Nat) (aLo : Nat) (vSf : Nat) (vSm : Nat) (vCo : Nat) (vSh : Nat) (xs : Int32) (xl : Int32) (xf : Int32) (vPa : Nat) (l7 : Int32) (a7 : Int32) (n7 : Int32) (f7 : Nat → Int32) : Met l yX11_passenger (kW yX11_passenger cX11_passenger 3 (some .int)) { frames := 2, cells := 0, slots := 0, locals := 43 } (kPre dC dI cI cJ cQ sz [.ref hx, .int p1, .int w1] [(kX11 hx aLa aPa aGe aFl aTr aBe aLu aLo vSf vSm vCo vSh xs xl xf), (kX7 aPa vPa l7 a7 n7), (kAI vPa cI 39 f7)]) (va_Qi (fun (r : Int32) (u : Unit) => (r = if (0 ≤ p1 ∧ p1 < n7) ∧ 0 ≤ w1 ∧ w1 ≤ 3 then kAt 39 f7 ((5 * p1) + w1) else -2)) (fun (u : Unit) t₀ => kB dC dI cI cJ cQ (va_A [(kX11 hx aLa aPa aGe aFl aTr aBe aLu aLo vSf vSm vCo vSh xs xl xf), (kX7 aPa vPa l7 a7 n7), (kAI vPa cI 39 f7)] sz) [(kX11 hx aLa aPa aGe aFl aTr aBe aLu aLo vSf vSm vCo vSh xs xl xf), (kX7 aPa vPa l7 a7 n7), (kAI vPa cI 39 f7)] t₀) (va_A [(kX11 hx aLa aPa aGe aFl aTr aBe aLu aLo vSf vSm vCo vSh xs xl xf), (kX7 aPa vPa l7 a7 n7), (kAI vPa cI 39 f7)] sz)) 0 0 (va_A [(kX11 hx aLa aPa aGe aFl aTr aBe aLu aLo vSf vSm vCo vSh xs xl xf), (kX7 aPa vPa l7 a7 n7), (kAI vPa cI 39 f7)] sz) := by
  refine Met.ofW (cc := cX11_passenger) (maxL := 3) (ret := (some .int)) (by decide) rfl ?_
  intro p₀ e₀ s₀ m₀ args below meth c₀ s₁ B hml hv₀
  obtain ⟨rfl, hsz, hP, hK, hD0, hN⟩ := hv₀
  have hx₀ := B.exec
  have hb := B.bytes
  have hr := B.returns
  have hts := atoms_spec (ws := (kW yX11_passenger cX11_passenger 3 (some .int))) B.pre
  have hts := fun w h => hts w (List.mem_cons_of_mem _ h)
  have hown : s₀.vm.findClass RX11 = some m₀.cls := findClass_of_methodNamed B.named
  have hlocks := B.notSynchronized
  subst hsz
  have hD := hD0.self (sz := s₀.heap.size)
  generalize hAe : va_A [(kX11 hx aLa aPa aGe aFl aTr aBe aLu aLo vSf vSm vCo vSh xs xl xf), (kX7 aPa vPa l7 a7 n7), (kAI vPa cI 39 f7)] s₀.heap.size = A at hD ⊢
  have hA : ∀ q : Nat, s₀.heap.size ≤ q → A q := fun q h => by rw [← hAe]; exact Or.inr h
  have hS : va_S A s₀.heap s₀.heap [] := va_S.rf
  have hP : va_P (dC, dI) vwCl [(kX11 hx aLa aPa aGe aFl aTr aBe aLu aLo vSf vSm vCo vSh xs xl xf), (kX7 aPa vPa l7 a7 n7), (kAI vPa cI 39 f7)] s₀.heap := hP
  have hl := lv_entry ([.ref hx, .int p1, .int w1]) (n := 3) (Nat.le_of_ble_eq_true rfl)
  rw [lg_entry_eq]
  generalize (lg_sl ([.ref hx, .int p1, .int w1]) ++ List.replicate (3 - (lg_sl ([.ref hx, .int p1, .int w1])).length) Slot.unset).toArray = ls at hl ⊢
  have hl : lv_has ls 3 [(0, .ref hx), (1, .int p1), (2, .int w1)] := hl
  obtain ⟨H, hH⟩ : ∃ z : Heap, z = s₀.heap := ⟨_, rfl⟩
  rw [← hH] at hP
  have hS : va_S A s₀.heap H [] := by rw [hH]; exact hS
  refine k_heap hH ?_
  have hD : va_D A [(kX11 hx aLa aPa aGe aFl aTr aBe aLu aLo vSf vSm vCo vSh xs xl xf), (kX7 aPa vPa l7 a7 n7), (kAI vPa cI 39 f7)] := hD
  obtain ⟨locs, hlo⟩ : ∃ z : List Loc, z = [] := ⟨_, rfl⟩
  rw [← hlo] at hS ⊢
  clear hlo hH hAe hD0
  refine lv_aload_n hx₀ hb dX11_passenger_0 rfl (lv_at hl 0 rfl) ?_
  refine va_get (D := (dC, dI)) (ci := 10) (v := .ref aPa) (C := RX11) (T := TX11) (N := 15) hx₀ hb hts inlX11 hown hK hP 0 rfl rfl 1 (by decide) (hts (.fieldLink RX11 19 "BittenStick" "passengers" "LBittenStick$Passengers;") wd_19) (fun _ h9 => h9) rfl dX11_passenger_1 ?_
  refine lv_iload_n hx₀ hb dX11_passenger_4 rfl (lv_at hl 1 rfl) ?_
  obtain ⟨hPc, hDc, hFc, hC⟩ := k_cw (wc := [(kX7 aPa vPa l7 a7 n7)]) hP hD hS hA [1] (by decide +kernel) rfl
  refine va_calli (va_runU (As := [.int p1]) (rest := []) ⟨hx₀, hb, hml, hown, hts⟩ (j_has_X7 l dC dI cI cJ cQ H.size aPa p1 vPa l7 a7 n7) (va_cwU 1 hts (kGU wd_307 wd_303 wd_304 wd_305 wd_306 wd_57) rfl rfl rfl rfl (by decide +kernel) ⟨Nat.le_of_ble_eq_true rfl, Nat.le_of_ble_eq_true rfl⟩) (k_preV7 (q0 := 0) hK hPc hDc hN rfl) rfl rfl hl.1 rfl (lv_room (Nat.le_of_ble_eq_true rfl)) dX11_passenger_5 ⟨by decide +kernel, by decide +kernel⟩) hS (fun q _ h => hFc q h) hFc (fun r_1 u₀ t₀ H1 locs ht hvm hw hB hz1 hk1 hS => ?_)
  obtain ⟨hP1, hK1, hD1⟩ := hB
  rw [ht] at hP1
  have hJ := k_jn (wr := [(kX11 hx aLa aPa aGe aFl aTr aBe aLu aLo vSf vSm vCo vSh xs xl xf), (kAI vPa cI 39 f7)]) (wt := [(kX11 hx aLa aPa aGe aFl aTr aBe aLu aLo vSf vSm vCo vSh xs xl xf), (kAI vPa cI 39 f7), (kX7 aPa vPa l7 a7 n7)]) hP hD hC [0, 2] rfl (by decide +kernel) (by decide +kernel) hk1 hFc hP1 hD1 rfl
  clear hP hD hPc hDc hFc hC hP1 hD1 hK1 hz1 hk1 hvm ht
  obtain ⟨hP, hD⟩ := hJ
  generalize H1 = H at hP hS ⊢
  try dsimp only at hw
  by_cases c_2 : 0 ≤ p1 ∧ p1 < n7
  · rw [if_pos c_2] at hw
    refine k_topi (v := 1) hw ?_
    refine lv_if_eq (tgt := 20) hx₀ hb dX11_passenger_8 (by decide) (fun c9 => absurd c9 (by decide +kernel)) (fun _ => ?_)
    refine lv_iload_n hx₀ hb dX11_passenger_11 rfl (lv_at hl 2 rfl) ?_
    refine lv_if_lt (tgt := 20) hx₀ hb dX11_passenger_12 (by decide) (fun c_3 => ?_) (fun c_3 => ?_)
    · refine lv_bipush (v := (-2)) hx₀ hb dX11_passenger_20 (by decide +kernel) ?_
      obtain ⟨hP9, hD9⟩ := k_c2 (wc := [(kX11 hx aLa aPa aGe aFl aTr aBe aLu aLo vSf vSm vCo vSh xs xl xf), (kX7 aPa vPa l7 a7 n7), (kAI vPa cI 39 f7)]) hP hD [0, 2, 1] (by decide +kernel) rfl
      exact W.iret (v := (-2)) hx₀ hb hr (fun t₀ ht hW => ⟨⟨(-2), (), rfl, (show ((-2) : Int32) = if (0 ≤ p1 ∧ p1 < n7) ∧ 0 ≤ w1 ∧ w1 ≤ 3 then kAt 39 f7 ((5 * p1) + w1) else -2 from (if_neg (show ¬ ((0 ≤ p1 ∧ p1 < n7) ∧ 0 ≤ w1 ∧ w1 ≤ 3) from (fun z => (Int32.not_le.mpr c_3) z.2.1))).symm), by rw [ht]; exact hP9, va_K.moved hW.alike hK, hD9⟩, hS.F ht⟩) hS.2.2 dX11_passenger_22
    · refine lv_iload_n hx₀ hb dX11_passenger_15 rfl (lv_at hl 2 rfl) ?_
      refine lv_iconst (v := 3) hx₀ hb dX11_passenger_16 (by decide +kernel) ?_
      refine lv_icmp_le (tgt := 23) hx₀ hb dX11_passenger_17 (by decide) (fun c_4 => ?_) (fun c_4 => ?_)
      · refine lv_aload_n hx₀ hb dX11_passenger_23 rfl (lv_at hl 0 rfl) ?_
        refine va_get (D := (dC, dI)) (ci := 10) (v := .ref aPa) (C := RX11) (T := TX11) (N := 15) hx₀ hb hts inlX11 hown hK hP 0 rfl rfl 1 (by decide) (hts (.fieldLink RX11 19 "BittenStick" "passengers" "LBittenStick$Passengers;") wd_19) (fun _ h9 => h9) rfl dX11_passenger_24 ?_
        refine lv_iload_n hx₀ hb dX11_passenger_27 rfl (lv_at hl 1 rfl) ?_
        refine lv_iload_n hx₀ hb dX11_passenger_28 rfl (lv_at hl 2 rfl) ?_
        obtain ⟨hPc, hDc, hFc, hC⟩ := k_cw (wc := [(kX7 aPa vPa l7 a7 n7), (kAI vPa cI 39 f7)]) hP hD hS hA [2, 1] (by decide +kernel) rfl
        refine va_calli (va_runV (As := [.int p1, .int w1]) (rest := []) ⟨hx₀, hb, hml, hown, hts⟩ (j_toldP l dC dI cI cJ cQ H.size aPa p1 w1 vPa l7 a7 n7 f7) (cwV 2 hts (kGV wd_311 wd_308 wd_309 wd_310 wd_18) rfl rfl rfl (by decide +kernel) ⟨Nat.le_of_ble_eq_true rfl, Nat.le_of_ble_eq_true rfl⟩) (k_preV7 (q0 := 0) hK hPc hDc hN rfl) rfl rfl hl.1 rfl (lv_room (Nat.le_of_ble_eq_true rfl)) dX11_passenger_29 ⟨by decide +kernel, by decide +kernel⟩) hS (fun q _ h => hFc q h) hFc (fun r_5 u₀ t₀ H1 locs ht hvm hw hB hz1 hk1 hS => ?_)
        obtain ⟨hP1, hK1, hD1⟩ := hB
        rw [ht] at hP1
        have hJ := k_jn (wr := [(kX11 hx aLa aPa aGe aFl aTr aBe aLu aLo vSf vSm vCo vSh xs xl xf)]) (wt := [(kX11 hx aLa aPa aGe aFl aTr aBe aLu aLo vSf vSm vCo vSh xs xl xf), (kX7 aPa vPa l7 a7 n7), (kAI vPa cI 39 f7)]) hP hD hC [0] rfl (by decide +kernel) (by decide +kernel) hk1 hFc hP1 hD1 rfl
        clear hP hD hPc hDc hFc hC hP1 hD1 hK1 hz1 hk1 hvm ht
        obtain ⟨hP, hD⟩ := hJ
        generalize H1 = H at hP hS ⊢
        try dsimp only at hw
        refine k_topi (v := kAt 39 f7 ((5 * p1) + w1)) hw ?_
        obtain ⟨hP9, hD9⟩ := k_c2 (wc := [(kX11 hx aLa aPa aGe aFl aTr aBe aLu aLo vSf vSm vCo vSh xs xl xf), (kX7 aPa vPa l7 a7 n7), (kAI vPa cI 39 f7)]) hP hD [0, 1, 2] (by decide +kernel) rfl
        exact W.iret (v := kAt 39 f7 ((5 * p1) + w1)) hx₀ hb hr (fun t₀ ht hW => ⟨⟨kAt 39 f7 ((5 * p1) + w1), (), rfl, (show (kAt 39 f7 ((5 * p1) + w1) : Int32) = if (0 ≤ p1 ∧ p1 < n7) ∧ 0 ≤ w1 ∧ w1 ≤ 3 then kAt 39 f7 ((5 * p1) + w1) else -2 from (if_pos (show (0 ≤ p1 ∧ p1 < n7) ∧ 0 ≤ w1 ∧ w1 ≤ 3 from ⟨⟨c_2.1, c_2.2⟩, (Int32.not_lt.mp c_3), c_4⟩)).symm), by rw [ht]; exact hP9, va_K.moved hW.alike hK, hD9⟩, hS.F ht⟩) hS.2.2 dX11_passenger_32
      · refine lv_bipush (v := (-2)) hx₀ hb dX11_passenger_20 (by decide +kernel) ?_
        obtain ⟨hP9, hD9⟩ := k_c2 (wc := [(kX11 hx aLa aPa aGe aFl aTr aBe aLu aLo vSf vSm vCo vSh xs xl xf), (kX7 aPa vPa l7 a7 n7), (kAI vPa cI 39 f7)]) hP hD [0, 2, 1] (by decide +kernel) rfl
        exact W.iret (v := (-2)) hx₀ hb hr (fun t₀ ht hW => ⟨⟨(-2), (), rfl, (show ((-2) : Int32) = if (0 ≤ p1 ∧ p1 < n7) ∧ 0 ≤ w1 ∧ w1 ≤ 3 then kAt 39 f7 ((5 * p1) + w1) else -2 from (if_neg (show ¬ ((0 ≤ p1 ∧ p1 < n7) ∧ 0 ≤ w1 ∧ w1 ≤ 3) from (fun z => c_4 z.2.2))).symm), by rw [ht]; exact hP9, va_K.moved hW.alike hK, hD9⟩, hS.F ht⟩) hS.2.2 dX11_passenger_22
  rw [if_neg c_2] at hw
  refine k_topi (v := 0) hw ?_
  refine lv_if_eq (tgt := 20) hx₀ hb dX11_passenger_8 (by decide) (fun _ => ?_) (fun c9 => absurd (by decide +kernel) c9)
  refine lv_bipush (v := (-2)) hx₀ hb dX11_passenger_20 (by decide +kernel) ?_
  obtain ⟨hP9, hD9⟩ := k_c2 (wc := [(kX11 hx aLa aPa aGe aFl aTr aBe aLu aLo vSf vSm vCo vSh xs xl xf), (kX7 aPa vPa l7 a7 n7), (kAI vPa cI 39 f7)]) hP hD [0, 2, 1] (by decide +kernel) rfl
  exact W.iret (v := (-2)) hx₀ hb hr (fun t₀ ht hW => ⟨⟨(-2), (), rfl, (show ((-2) : Int32) = if (0 ≤ p1 ∧ p1 < n7) ∧ 0 ≤ w1 ∧ w1 ≤ 3 then kAt 39 f7 ((5 * p1) + w1) else -2 from (if_neg (show ¬ ((0 ≤ p1 ∧ p1 < n7) ∧ 0 ≤ w1 ∧ w1 ≤ 3) from (fun z => c_2 z.1))).symm), by rw [ht]; exact hP9, va_K.moved hW.alike hK, hD9⟩, hS.F ht⟩) hS.2.2 dX11_passenger_22
set_option maxHeartbeats 4000000 in
set_option maxRecDepth 100000 in
theorem j_goose (l : Launch) (dC : Nat → ClassId) (dI : Nat → Nat → Nat) (cI cJ cQ : ClassId) (sz : Nat) (hx : Nat) (p1 : Int32) (w1 : Int32) (aLa : Nat) (aPa : Nat) (aGe : Nat) (aFl : Nat) (aTr : Nat) (aBe : Nat) (aLu : Nat) (aLo : Nat) (vSf : Nat) (vSm : Nat) (vCo : Nat) (vSh : Nat) (xs : Int32) (xl : Int32) (xf : Int32) (vGe : Nat) (l2 : Int32) (a2 : Int32) (n2 : Int32) (f2 : Nat → Int32) : Met l yX11_goose (kW yX11_goose cX11_goose 3 (some .int)) { frames := 2, cells := 0, slots := 0, locals := 43 } (kPre dC dI cI cJ cQ sz [.ref hx, .int p1, .int w1] [(kX11 hx aLa aPa aGe aFl aTr aBe aLu aLo vSf vSm vCo vSh xs xl xf), (kX2 aGe vGe l2 a2 n2), (kAI vGe cI 23 f2)]) (va_Qi (fun (r : Int32) (u : Unit) => (r = if (0 ≤ p1 ∧ p1 < n2) ∧ 0 ≤ w1 ∧ w1 ≤ 1 then kAt 23 f2 ((3 * p1) + w1) else -2)) (fun (u : Unit) t₀ => kB dC dI cI cJ cQ (va_A [(kX11 hx aLa aPa aGe aFl aTr aBe aLu aLo vSf vSm vCo vSh xs xl xf), (kX2 aGe vGe l2 a2 n2), (kAI vGe cI 23 f2)] sz) [(kX11 hx aLa aPa aGe aFl aTr aBe aLu aLo vSf vSm vCo vSh xs xl xf), (kX2 aGe vGe l2 a2 n2), (kAI vGe cI 23 f2)] t₀) (va_A [(kX11 hx aLa aPa aGe aFl aTr aBe aLu aLo vSf vSm vCo vSh xs xl xf), (kX2 aGe vGe l2 a2 n2), (kAI vGe cI 23 f2)] sz)) 0 0 (va_A [(kX11 hx aLa aPa aGe aFl aTr aBe aLu aLo vSf vSm vCo vSh xs xl xf), (kX2 aGe vGe l2 a2 n2), (kAI vGe cI 23 f2)] sz) := by
  refine Met.ofW (cc := cX11_goose) (maxL := 3) (ret := (some .int)) (by decide) rfl ?_
  intro p₀ e₀ s₀ m₀ args below meth c₀ s₁ B hml hv₀
  obtain ⟨rfl, hsz, hP, hK, hD0, hN⟩ := hv₀
  have hx₀ := B.exec
  have hb := B.bytes
  have hr := B.returns
  have hts := atoms_spec (ws := (kW yX11_goose cX11_goose 3 (some .int))) B.pre
  have hts := fun w h => hts w (List.mem_cons_of_mem _ h)
  have hown : s₀.vm.findClass RX11 = some m₀.cls := findClass_of_methodNamed B.named
  have hlocks := B.notSynchronized
  subst hsz
  have hD := hD0.self (sz := s₀.heap.size)
  generalize hAe : va_A [(kX11 hx aLa aPa aGe aFl aTr aBe aLu aLo vSf vSm vCo vSh xs xl xf), (kX2 aGe vGe l2 a2 n2), (kAI vGe cI 23 f2)] s₀.heap.size = A at hD ⊢
  have hA : ∀ q : Nat, s₀.heap.size ≤ q → A q := fun q h => by rw [← hAe]; exact Or.inr h
  have hS : va_S A s₀.heap s₀.heap [] := va_S.rf
  have hP : va_P (dC, dI) vwCl [(kX11 hx aLa aPa aGe aFl aTr aBe aLu aLo vSf vSm vCo vSh xs xl xf), (kX2 aGe vGe l2 a2 n2), (kAI vGe cI 23 f2)] s₀.heap := hP
  have hl := lv_entry ([.ref hx, .int p1, .int w1]) (n := 3) (Nat.le_of_ble_eq_true rfl)
  rw [lg_entry_eq]
  generalize (lg_sl ([.ref hx, .int p1, .int w1]) ++ List.replicate (3 - (lg_sl ([.ref hx, .int p1, .int w1])).length) Slot.unset).toArray = ls at hl ⊢
  have hl : lv_has ls 3 [(0, .ref hx), (1, .int p1), (2, .int w1)] := hl
  obtain ⟨H, hH⟩ : ∃ z : Heap, z = s₀.heap := ⟨_, rfl⟩
  rw [← hH] at hP
  have hS : va_S A s₀.heap H [] := by rw [hH]; exact hS
  refine k_heap hH ?_
  have hD : va_D A [(kX11 hx aLa aPa aGe aFl aTr aBe aLu aLo vSf vSm vCo vSh xs xl xf), (kX2 aGe vGe l2 a2 n2), (kAI vGe cI 23 f2)] := hD
  obtain ⟨locs, hlo⟩ : ∃ z : List Loc, z = [] := ⟨_, rfl⟩
  rw [← hlo] at hS ⊢
  clear hlo hH hAe hD0
  refine lv_aload_n hx₀ hb dX11_goose_0 rfl (lv_at hl 0 rfl) ?_
  refine va_get (D := (dC, dI)) (ci := 10) (v := .ref aGe) (C := RX11) (T := TX11) (N := 15) hx₀ hb hts inlX11 hown hK hP 0 rfl rfl 2 (by decide) (hts (.fieldLink RX11 26 "BittenStick" "geese" "LBittenStick$Geese;") wd_23) (fun _ h9 => h9) rfl dX11_goose_1 ?_
  refine lv_iload_n hx₀ hb dX11_goose_4 rfl (lv_at hl 1 rfl) ?_
  obtain ⟨hPc, hDc, hFc, hC⟩ := k_cw (wc := [(kX2 aGe vGe l2 a2 n2)]) hP hD hS hA [1] (by decide +kernel) rfl
  refine va_calli (va_runU (As := [.int p1]) (rest := []) ⟨hx₀, hb, hml, hown, hts⟩ (j_has_X2 l dC dI cI cJ cQ H.size aGe p1 vGe l2 a2 n2) (va_cwU 1 hts (kGU wd_307 wd_328 wd_329 wd_330 wd_306 wd_57) rfl rfl rfl rfl (by decide +kernel) ⟨Nat.le_of_ble_eq_true rfl, Nat.le_of_ble_eq_true rfl⟩) (k_preV2 (q0 := 0) hK hPc hDc hN rfl) rfl rfl hl.1 rfl (lv_room (Nat.le_of_ble_eq_true rfl)) dX11_goose_5 ⟨by decide +kernel, by decide +kernel⟩) hS (fun q _ h => hFc q h) hFc (fun r_1 u₀ t₀ H1 locs ht hvm hw hB hz1 hk1 hS => ?_)
  obtain ⟨hP1, hK1, hD1⟩ := hB
  rw [ht] at hP1
  have hJ := k_jn (wr := [(kX11 hx aLa aPa aGe aFl aTr aBe aLu aLo vSf vSm vCo vSh xs xl xf), (kAI vGe cI 23 f2)]) (wt := [(kX11 hx aLa aPa aGe aFl aTr aBe aLu aLo vSf vSm vCo vSh xs xl xf), (kAI vGe cI 23 f2), (kX2 aGe vGe l2 a2 n2)]) hP hD hC [0, 2] rfl (by decide +kernel) (by decide +kernel) hk1 hFc hP1 hD1 rfl
  clear hP hD hPc hDc hFc hC hP1 hD1 hK1 hz1 hk1 hvm ht
  obtain ⟨hP, hD⟩ := hJ
  generalize H1 = H at hP hS ⊢
  try dsimp only at hw
  by_cases c_2 : 0 ≤ p1 ∧ p1 < n2
  · rw [if_pos c_2] at hw
    refine k_topi (v := 1) hw ?_
    refine lv_if_eq (tgt := 20) hx₀ hb dX11_goose_8 (by decide) (fun c9 => absurd c9 (by decide +kernel)) (fun _ => ?_)
    refine lv_iload_n hx₀ hb dX11_goose_11 rfl (lv_at hl 2 rfl) ?_
    refine lv_if_lt (tgt := 20) hx₀ hb dX11_goose_12 (by decide) (fun c_3 => ?_) (fun c_3 => ?_)
    · refine lv_bipush (v := (-2)) hx₀ hb dX11_goose_20 (by decide +kernel) ?_
      obtain ⟨hP9, hD9⟩ := k_c2 (wc := [(kX11 hx aLa aPa aGe aFl aTr aBe aLu aLo vSf vSm vCo vSh xs xl xf), (kX2 aGe vGe l2 a2 n2), (kAI vGe cI 23 f2)]) hP hD [0, 2, 1] (by decide +kernel) rfl
      exact W.iret (v := (-2)) hx₀ hb hr (fun t₀ ht hW => ⟨⟨(-2), (), rfl, (show ((-2) : Int32) = if (0 ≤ p1 ∧ p1 < n2) ∧ 0 ≤ w1 ∧ w1 ≤ 1 then kAt 23 f2 ((3 * p1) + w1) else -2 from (if_neg (show ¬ ((0 ≤ p1 ∧ p1 < n2) ∧ 0 ≤ w1 ∧ w1 ≤ 1) from (fun z => (Int32.not_le.mpr c_3) z.2.1))).symm), by rw [ht]; exact hP9, va_K.moved hW.alike hK, hD9⟩, hS.F ht⟩) hS.2.2 dX11_goose_22
    · refine lv_iload_n hx₀ hb dX11_goose_15 rfl (lv_at hl 2 rfl) ?_
      refine lv_iconst (v := 1) hx₀ hb dX11_goose_16 (by decide +kernel) ?_
      refine lv_icmp_le (tgt := 23) hx₀ hb dX11_goose_17 (by decide) (fun c_4 => ?_) (fun c_4 => ?_)
      · refine lv_aload_n hx₀ hb dX11_goose_23 rfl (lv_at hl 0 rfl) ?_
        refine va_get (D := (dC, dI)) (ci := 10) (v := .ref aGe) (C := RX11) (T := TX11) (N := 15) hx₀ hb hts inlX11 hown hK hP 0 rfl rfl 2 (by decide) (hts (.fieldLink RX11 26 "BittenStick" "geese" "LBittenStick$Geese;") wd_23) (fun _ h9 => h9) rfl dX11_goose_24 ?_
        refine lv_iload_n hx₀ hb dX11_goose_27 rfl (lv_at hl 1 rfl) ?_
        refine lv_iload_n hx₀ hb dX11_goose_28 rfl (lv_at hl 2 rfl) ?_
        obtain ⟨hPc, hDc, hFc, hC⟩ := k_cw (wc := [(kX2 aGe vGe l2 a2 n2), (kAI vGe cI 23 f2)]) hP hD hS hA [2, 1] (by decide +kernel) rfl
        refine va_calli (va_runV (As := [.int p1, .int w1]) (rest := []) ⟨hx₀, hb, hml, hown, hts⟩ (j_toldG l dC dI cI cJ cQ H.size aGe p1 w1 vGe l2 a2 n2 f2) (cwV 2 hts (kGV wd_334 wd_331 wd_332 wd_333 wd_22) rfl rfl rfl (by decide +kernel) ⟨Nat.le_of_ble_eq_true rfl, Nat.le_of_ble_eq_true rfl⟩) (k_preV2 (q0 := 0) hK hPc hDc hN rfl) rfl rfl hl.1 rfl (lv_room (Nat.le_of_ble_eq_true rfl)) dX11_goose_29 ⟨by decide +kernel, by decide +kernel⟩) hS (fun q _ h => hFc q h) hFc (fun r_5 u₀ t₀ H1 locs ht hvm hw hB hz1 hk1 hS => ?_)
        obtain ⟨hP1, hK1, hD1⟩ := hB
        rw [ht] at hP1
        have hJ := k_jn (wr := [(kX11 hx aLa aPa aGe aFl aTr aBe aLu aLo vSf vSm vCo vSh xs xl xf)]) (wt := [(kX11 hx aLa aPa aGe aFl aTr aBe aLu aLo vSf vSm vCo vSh xs xl xf), (kX2 aGe vGe l2 a2 n2), (kAI vGe cI 23 f2)]) hP hD hC [0] rfl (by decide +kernel) (by decide +kernel) hk1 hFc hP1 hD1 rfl
        clear hP hD hPc hDc hFc hC hP1 hD1 hK1 hz1 hk1 hvm ht
        obtain ⟨hP, hD⟩ := hJ
        generalize H1 = H at hP hS ⊢
        try dsimp only at hw
        refine k_topi (v := kAt 23 f2 ((3 * p1) + w1)) hw ?_
        obtain ⟨hP9, hD9⟩ := k_c2 (wc := [(kX11 hx aLa aPa aGe aFl aTr aBe aLu aLo vSf vSm vCo vSh xs xl xf), (kX2 aGe vGe l2 a2 n2), (kAI vGe cI 23 f2)]) hP hD [0, 1, 2] (by decide +kernel) rfl
        exact W.iret (v := kAt 23 f2 ((3 * p1) + w1)) hx₀ hb hr (fun t₀ ht hW => ⟨⟨kAt 23 f2 ((3 * p1) + w1), (), rfl, (show (kAt 23 f2 ((3 * p1) + w1) : Int32) = if (0 ≤ p1 ∧ p1 < n2) ∧ 0 ≤ w1 ∧ w1 ≤ 1 then kAt 23 f2 ((3 * p1) + w1) else -2 from (if_pos (show (0 ≤ p1 ∧ p1 < n2) ∧ 0 ≤ w1 ∧ w1 ≤ 1 from ⟨⟨c_2.1, c_2.2⟩, (Int32.not_lt.mp c_3), c_4⟩)).symm), by rw [ht]; exact hP9, va_K.moved hW.alike hK, hD9⟩, hS.F ht⟩) hS.2.2 dX11_goose_32
      · refine lv_bipush (v := (-2)) hx₀ hb dX11_goose_20 (by decide +kernel) ?_
        obtain ⟨hP9, hD9⟩ := k_c2 (wc := [(kX11 hx aLa aPa aGe aFl aTr aBe aLu aLo vSf vSm vCo vSh xs xl xf), (kX2 aGe vGe l2 a2 n2), (kAI vGe cI 23 f2)]) hP hD [0, 2, 1] (by decide +kernel) rfl
        exact W.iret (v := (-2)) hx₀ hb hr (fun t₀ ht hW => ⟨⟨(-2), (), rfl, (show ((-2) : Int32) = if (0 ≤ p1 ∧ p1 < n2) ∧ 0 ≤ w1 ∧ w1 ≤ 1 then kAt 23 f2 ((3 * p1) + w1) else -2 from (if_neg (show ¬ ((0 ≤ p1 ∧ p1 < n2) ∧ 0 ≤ w1 ∧ w1 ≤ 1) from (fun z => c_4 z.2.2))).symm), by rw [ht]; exact hP9, va_K.moved hW.alike hK, hD9⟩, hS.F ht⟩) hS.2.2 dX11_goose_22
  rw [if_neg c_2] at hw
  refine k_topi (v := 0) hw ?_
  refine lv_if_eq (tgt := 20) hx₀ hb dX11_goose_8 (by decide) (fun _ => ?_) (fun c9 => absurd (by decide +kernel) c9)
  refine lv_bipush (v := (-2)) hx₀ hb dX11_goose_20 (by decide +kernel) ?_
  obtain ⟨hP9, hD9⟩ := k_c2 (wc := [(kX11 hx aLa aPa aGe aFl aTr aBe aLu aLo vSf vSm vCo vSh xs xl xf), (kX2 aGe vGe l2 a2 n2), (kAI vGe cI 23 f2)]) hP hD [0, 2, 1] (by decide +kernel) rfl
  exact W.iret (v := (-2)) hx₀ hb hr (fun t₀ ht hW => ⟨⟨(-2), (), rfl, (show ((-2) : Int32) = if (0 ≤ p1 ∧ p1 < n2) ∧ 0 ≤ w1 ∧ w1 ≤ 1 then kAt 23 f2 ((3 * p1) + w1) else -2 from (if_neg (show ¬ ((0 ≤ p1 ∧ p1 < n2) ∧ 0 ≤ w1 ∧ w1 ≤ 1) from (fun z => c_2 z.1))).symm), by rw [ht]; exact hP9, va_K.moved hW.alike hK, hD9⟩, hS.F ht⟩) hS.2.2 dX11_goose_22
set_option maxHeartbeats 4000000 in
set_option maxRecDepth 100000 in
theorem j_flight (l : Launch) (dC : Nat → ClassId) (dI : Nat → Nat → Nat) (cI cJ cQ : ClassId) (sz : Nat) (hx : Nat) (p1 : Int32) (q1 : Int32) (r1 : Int32) (h1 : Int32) (aLa : Nat) (aPa : Nat) (aGe : Nat) (aFl : Nat) (aTr : Nat) (aBe : Nat) (aLu : Nat) (aLo : Nat) (vSf : Nat) (vSm : Nat) (vCo : Nat) (vSh : Nat) (xs : Int32) (xl : Int32) (xf : Int32) (vFl : Nat) (xn : Int32) (ff : Nat → Int32) (hh0 : 0 ≤ xn ∧ xn ≤ 8) : Met l yX11_flight (kW yX11_flight cX11_flight 5 (some .int)) { frames := 1, cells := 0, slots := 0, locals := 24 } (kPre dC dI cI cJ cQ sz [.ref hx, .int p1, .int q1, .int r1, .int h1] [(kX11 hx aLa aPa aGe aFl aTr aBe aLu aLo vSf vSm vCo vSh xs xl xf), (kX1 aFl vFl xn), (kAI vFl cI 32 ff)]) (va_Qi (fun (r : Int32) (u : kS) => (r = if 0 ≤ p1 ∧ p1 ≤ 7 ∧ 0 ≤ q1 ∧ q1 ≤ 7 ∧ 0 ≤ r1 ∧ r1 ≤ 7 ∧ ¬ q1 = r1 ∧ 1 ≤ h1 ∧ h1 ≤ 9 then (if xn = 8 then -4 else xn + 1) else -2) ∧ (0 ≤ (u.1 0) ∧ (u.1 0) ≤ 8) ∧ ((u.1 0) = if (0 ≤ p1 ∧ p1 ≤ 7 ∧ 0 ≤ q1 ∧ q1 ≤ 7 ∧ 0 ≤ r1 ∧ r1 ≤ 7 ∧ ¬ q1 = r1 ∧ 1 ≤ h1 ∧ h1 ≤ 9) ∧ ¬ xn = 8 then xn + 1 else xn) ∧ ((u.2.1 0) = if (0 ≤ p1 ∧ p1 ≤ 7 ∧ 0 ≤ q1 ∧ q1 ≤ 7 ∧ 0 ≤ r1 ∧ r1 ≤ 7 ∧ ¬ q1 = r1 ∧ 1 ≤ h1 ∧ h1 ≤ 9) ∧ ¬ xn = 8 then upd (upd (upd (upd ff (4 * xn).toNatClampNeg p1) ((4 * xn) + 1).toNatClampNeg q1) ((4 * xn) + 2).toNatClampNeg r1) ((4 * xn) + 3).toNatClampNeg h1 else ff)) (fun (u : kS) t₀ => kB dC dI cI cJ cQ (va_A [(kX11 hx aLa aPa aGe aFl aTr aBe aLu aLo vSf vSm vCo vSh xs xl xf), (kX1 aFl vFl xn), (kAI vFl cI 32 ff)] sz) [(kX11 hx aLa aPa aGe aFl aTr aBe aLu aLo vSf vSm vCo vSh xs xl xf), (kX1 aFl vFl (u.1 0)), (kAI vFl cI 32 (u.2.1 0))] t₀) (va_A [(kX11 hx aLa aPa aGe aFl aTr aBe aLu aLo vSf vSm vCo vSh xs xl xf), (kX1 aFl vFl xn), (kAI vFl cI 32 ff)] sz)) 0 0 (va_A [(kX11 hx aLa aPa aGe aFl aTr aBe aLu aLo vSf vSm vCo vSh xs xl xf), (kX1 aFl vFl xn), (kAI vFl cI 32 ff)] sz) := by
  refine Met.ofW (cc := cX11_flight) (maxL := 5) (ret := (some .int)) (by decide) rfl ?_
  intro p₀ e₀ s₀ m₀ args below meth c₀ s₁ B hml hv₀
  obtain ⟨rfl, hsz, hP, hK, hD0, hN⟩ := hv₀
  have hx₀ := B.exec
  have hb := B.bytes
  have hr := B.returns
  have hts := atoms_spec (ws := (kW yX11_flight cX11_flight 5 (some .int))) B.pre
  have hts := fun w h => hts w (List.mem_cons_of_mem _ h)
  have hown : s₀.vm.findClass RX11 = some m₀.cls := findClass_of_methodNamed B.named
  have hlocks := B.notSynchronized
  subst hsz
  have hD := hD0.self (sz := s₀.heap.size)
  generalize hAe : va_A [(kX11 hx aLa aPa aGe aFl aTr aBe aLu aLo vSf vSm vCo vSh xs xl xf), (kX1 aFl vFl xn), (kAI vFl cI 32 ff)] s₀.heap.size = A at hD ⊢
  have hA : ∀ q : Nat, s₀.heap.size ≤ q → A q := fun q h => by rw [← hAe]; exact Or.inr h
  have hS : va_S A s₀.heap s₀.heap [] := va_S.rf
  have hP : va_P (dC, dI) vwCl [(kX11 hx aLa aPa aGe aFl aTr aBe aLu aLo vSf vSm vCo vSh xs xl xf), (kX1 aFl vFl xn), (kAI vFl cI 32 ff)] s₀.heap := hP
  have hl := lv_entry ([.ref hx, .int p1, .int q1, .int r1, .int h1]) (n := 5) (Nat.le_of_ble_eq_true rfl)
  rw [lg_entry_eq]
  generalize (lg_sl ([.ref hx, .int p1, .int q1, .int r1, .int h1]) ++ List.replicate (5 - (lg_sl ([.ref hx, .int p1, .int q1, .int r1, .int h1])).length) Slot.unset).toArray = ls at hl ⊢
  have hl : lv_has ls 5 [(0, .ref hx), (1, .int p1), (2, .int q1), (3, .int r1), (4, .int h1)] := hl
  obtain ⟨H, hH⟩ : ∃ z : Heap, z = s₀.heap := ⟨_, rfl⟩
  rw [← hH] at hP
  have hS : va_S A s₀.heap H [] := by rw [hH]; exact hS
  refine k_heap hH ?_
  have hD : va_D A [(kX11 hx aLa aPa aGe aFl aTr aBe aLu aLo vSf vSm vCo vSh xs xl xf), (kX1 aFl vFl xn), (kAI vFl cI 32 ff)] := hD
  obtain ⟨locs, hlo⟩ : ∃ z : List Loc, z = [] := ⟨_, rfl⟩
  rw [← hlo] at hS ⊢
  clear hlo hH hAe hD0
  refine lv_aload_n hx₀ hb dX11_flight_0 rfl (lv_at hl 0 rfl) ?_
  refine va_get (D := (dC, dI)) (ci := 10) (v := .ref aFl) (C := RX11) (T := TX11) (N := 15) hx₀ hb hts inlX11 hown hK hP 0 rfl rfl 3 (by decide) (hts (.fieldLink RX11 33 "BittenStick" "flights" "LBittenStick$Flights;") wd_27) (fun _ h9 => h9) rfl dX11_flight_1 ?_
  refine lv_iload_n hx₀ hb dX11_flight_4 rfl (lv_at hl 1 rfl) ?_
  refine lv_iload_n hx₀ hb dX11_flight_5 rfl (lv_at hl 2 rfl) ?_
  refine lv_iload_n hx₀ hb dX11_flight_6 rfl (lv_at hl 3 rfl) ?_
  refine lv_iload hx₀ hb dX11_flight_7 (lv_at hl 4 rfl) ?_
  obtain ⟨hPc, hDc, hFc, hC⟩ := k_cw (wc := [(kX1 aFl vFl xn), (kAI vFl cI 32 ff)]) hP hD hS hA [1, 2] (by decide +kernel) rfl
  refine va_calli (va_runV (As := [.int p1, .int q1, .int r1, .int h1]) (rest := []) ⟨hx₀, hb, hml, hown, hts⟩ (j_fAppend l dC dI cI cJ cQ H.size aFl p1 q1 r1 h1 vFl xn ff (hh0)) (cwV 4 hts (kGV wd_356 wd_353 wd_354 wd_355 wd_26) rfl rfl rfl (by decide +kernel) ⟨Nat.le_of_ble_eq_true rfl, Nat.le_of_ble_eq_true rfl⟩) (k_preV1 (q0 := 0) hK hPc hDc hN rfl) rfl rfl hl.1 rfl (lv_room (Nat.le_of_ble_eq_true rfl)) dX11_flight_9 ⟨by decide +kernel, by decide +kernel⟩) hS (fun q _ h => hFc q h) hFc (fun r_1 u₀ t₀ H1 locs ht hvm hw hB hz1 hk1 hS => ?_)
  obtain ⟨g_2, ga_3, gl_4, gb_5, gp_6⟩ := u₀
  obtain ⟨hP1, hK1, hD1⟩ := hB
  rw [ht] at hP1
  have hJ := k_jn (wr := [(kX11 hx aLa aPa aGe aFl aTr aBe aLu aLo vSf vSm vCo vSh xs xl xf)]) (wt := [(kX11 hx aLa aPa aGe aFl aTr aBe aLu aLo vSf vSm vCo vSh xs xl xf), (kX1 aFl vFl (g_2 0)), (kAI vFl cI 32 (ga_3 0))]) hP hD hC [0] rfl (by decide +kernel) (by decide +kernel) hk1 hFc hP1 hD1 rfl
  clear hP hD hPc hDc hFc hC hP1 hD1 hK1 hz1 hk1 hvm ht
  obtain ⟨hP, hD⟩ := hJ
  generalize H1 = H at hP hS ⊢
  try dsimp only at hw
  obtain ⟨c_7, c_8, c_9, c_10⟩ := hw
  obtain ⟨hP9, hD9⟩ := k_c2 (wc := [(kX11 hx aLa aPa aGe aFl aTr aBe aLu aLo vSf vSm vCo vSh xs xl xf), (kX1 aFl vFl (g_2 0)), (kAI vFl cI 32 (ga_3 0))]) hP hD [0, 1, 2] (by decide +kernel) rfl
  exact W.iret (v := r_1) hx₀ hb hr (fun t₀ ht hW => ⟨⟨r_1, (k_fn [(g_2 0)], k_fa [ga_3 0], k_fl [], k_fL [], k_fp []), rfl, ⟨c_7, c_8, c_9, c_10⟩, by rw [ht]; exact hP9, va_K.moved hW.alike hK, hD9⟩, hS.F ht⟩) hS.2.2 dX11_flight_12
theorem lf_j_back_1 (a0 : Int32) (h0 : 0 ≤ a0 ∧ a0 ≤ 8) (h1 : ¬ a0 = 0) : 0 ≤ (a0 - 1) ∧ (a0 - 1) ≤ 8 := by
  first | (first | omega | (have hr0 := Int32.toInt_lt a0; have hs0 := Int32.le_toInt a0; simp only [Int64.toInt_add, Int64.toInt_sub, Int32.toInt_add, Int32.toInt_sub, Int32.toInt_mul, Int64.le_iff_toInt_le, Int64.lt_iff_toInt_lt, Int32.le_iff_toInt_le, Int32.lt_iff_toInt_lt, ← Int32.toInt_inj, ← Int64.toInt_inj, Int32.toInt_toInt64, kc_0, kc_1, kc_8, true_and, and_true, not_true_eq_false, not_false_eq_true] at * <;> ((first | omega | ((try simp (disch := omega) only [k_bm64] at *); (try simp (disch := omega) only [k_bm] at *); (try simp (disch := omega) only [k_bm] at *); omega) | (simp only [Int.bmod] at *; omega))))) | with_reducible assumption | exact Or.inl rfl | rfl
set_option maxHeartbeats 4000000 in
set_option maxRecDepth 100000 in
theorem j_back (l : Launch) (dC : Nat → ClassId) (dI : Nat → Nat → Nat) (cI cJ cQ : ClassId) (sz : Nat) (hx : Nat) (aLa : Nat) (aPa : Nat) (aGe : Nat) (aFl : Nat) (aTr : Nat) (aBe : Nat) (aLu : Nat) (aLo : Nat) (vSf : Nat) (vSm : Nat) (vCo : Nat) (vSh : Nat) (xs : Int32) (xl : Int32) (xf : Int32) (vFl : Nat) (xn : Int32) (hh0 : 0 ≤ xn ∧ xn ≤ 8) : Met l yX11_back (kW yX11_back cX11_back 1 (some .int)) { frames := 0, cells := 0, slots := 0, locals := 0 } (kPre dC dI cI cJ cQ sz [.ref hx] [(kX11 hx aLa aPa aGe aFl aTr aBe aLu aLo vSf vSm vCo vSh xs xl xf), (kX1 aFl vFl xn)]) (va_Qi (fun (r : Int32) (u : kS) => (r = if xn = 0 then -3 else xn - 1) ∧ (0 ≤ (u.1 0) ∧ (u.1 0) ≤ 8) ∧ ((u.1 0) = if xn = 0 then xn else xn - 1)) (fun (u : kS) t₀ => kB dC dI cI cJ cQ (va_A [(kX11 hx aLa aPa aGe aFl aTr aBe aLu aLo vSf vSm vCo vSh xs xl xf), (kX1 aFl vFl xn)] sz) [(kX11 hx aLa aPa aGe aFl aTr aBe aLu aLo vSf vSm vCo vSh xs xl xf), (kX1 aFl vFl (u.1 0))] t₀) (va_A [(kX11 hx aLa aPa aGe aFl aTr aBe aLu aLo vSf vSm vCo vSh xs xl xf), (kX1 aFl vFl xn)] sz)) 0 0 (va_A [(kX11 hx aLa aPa aGe aFl aTr aBe aLu aLo vSf vSm vCo vSh xs xl xf), (kX1 aFl vFl xn)] sz) := by
  refine Met.ofW (cc := cX11_back) (maxL := 1) (ret := (some .int)) (by decide) rfl ?_
  intro p₀ e₀ s₀ m₀ args below meth c₀ s₁ B hml hv₀
  obtain ⟨rfl, hsz, hP, hK, hD0, hN⟩ := hv₀
  have hx₀ := B.exec
  have hb := B.bytes
  have hr := B.returns
  have hts := atoms_spec (ws := (kW yX11_back cX11_back 1 (some .int))) B.pre
  have hts := fun w h => hts w (List.mem_cons_of_mem _ h)
  have hown : s₀.vm.findClass RX11 = some m₀.cls := findClass_of_methodNamed B.named
  have hlocks := B.notSynchronized
  subst hsz
  have hD := hD0.self (sz := s₀.heap.size)
  generalize hAe : va_A [(kX11 hx aLa aPa aGe aFl aTr aBe aLu aLo vSf vSm vCo vSh xs xl xf), (kX1 aFl vFl xn)] s₀.heap.size = A at hD ⊢
  have hA : ∀ q : Nat, s₀.heap.size ≤ q → A q := fun q h => by rw [← hAe]; exact Or.inr h
  have hS : va_S A s₀.heap s₀.heap [] := va_S.rf
  have hP : va_P (dC, dI) vwCl [(kX11 hx aLa aPa aGe aFl aTr aBe aLu aLo vSf vSm vCo vSh xs xl xf), (kX1 aFl vFl xn)] s₀.heap := hP
  have hl := lv_entry ([.ref hx]) (n := 1) (Nat.le_of_ble_eq_true rfl)
  rw [lg_entry_eq]
  generalize (lg_sl ([.ref hx]) ++ List.replicate (1 - (lg_sl ([.ref hx])).length) Slot.unset).toArray = ls at hl ⊢
  have hl : lv_has ls 1 [(0, .ref hx)] := hl
  obtain ⟨H, hH⟩ : ∃ z : Heap, z = s₀.heap := ⟨_, rfl⟩
  rw [← hH] at hP
  have hS : va_S A s₀.heap H [] := by rw [hH]; exact hS
  refine k_heap hH ?_
  have hD : va_D A [(kX11 hx aLa aPa aGe aFl aTr aBe aLu aLo vSf vSm vCo vSh xs xl xf), (kX1 aFl vFl xn)] := hD
  obtain ⟨locs, hlo⟩ : ∃ z : List Loc, z = [] := ⟨_, rfl⟩
  rw [← hlo] at hS ⊢
  clear hlo hH hAe hD0
  refine lv_aload_n hx₀ hb dX11_back_0 rfl (lv_at hl 0 rfl) ?_
  refine va_get (D := (dC, dI)) (ci := 10) (v := .ref aFl) (C := RX11) (T := TX11) (N := 15) hx₀ hb hts inlX11 hown hK hP 0 rfl rfl 3 (by decide) (hts (.fieldLink RX11 33 "BittenStick" "flights" "LBittenStick$Flights;") wd_27) (fun _ h9 => h9) rfl dX11_back_1 ?_
  refine va_get (D := (dC, dI)) (ci := 1) (v := .int xn) (C := RX1) (T := TX1) (N := 2) hx₀ hb hts inlX1 hown hK hP 1 rfl rfl 1 (by decide) (hts (.fieldLink RX11 128 "BittenStick$Flights" "number" "I") wd_369) (fun _ h9 => h9) rfl dX11_back_4 ?_
  refine lv_if_ne (tgt := 13) hx₀ hb dX11_back_7 (by decide) (fun c_1 => ?_) (fun c_1 => ?_)
  · refine lv_aload_n hx₀ hb dX11_back_13 rfl (lv_at hl 0 rfl) ?_
    refine va_get (D := (dC, dI)) (ci := 10) (v := .ref aFl) (C := RX11) (T := TX11) (N := 15) hx₀ hb hts inlX11 hown hK hP 0 rfl rfl 3 (by decide) (hts (.fieldLink RX11 33 "BittenStick" "flights" "LBittenStick$Flights;") wd_27) (fun _ h9 => h9) rfl dX11_back_14 ?_
    refine lv_dup hx₀ hb dX11_back_17 rfl ?_
    refine va_get (D := (dC, dI)) (ci := 1) (v := .int xn) (C := RX1) (T := TX1) (N := 2) hx₀ hb hts inlX1 hown hK hP 1 rfl rfl 1 (by decide) (hts (.fieldLink RX11 128 "BittenStick$Flights" "number" "I") wd_369) (fun _ h9 => h9) rfl dX11_back_18 ?_
    refine lv_iconst (v := 1) hx₀ hb dX11_back_21 (by decide +kernel) ?_
    refine lv_isub hx₀ hb dX11_back_22 ?_
    refine va_put (D := (dC, dI)) (ci := 1) (v := .int (xn - 1)) (ty := .int) (C := RX1) (T := TX1) (N := 2) hx₀ hb hts inlX1 tyX1 tyX1_ok nmX1 hown hK hP hD hS 1 rfl rfl 1 (by decide) (hts (.fieldLink RX11 128 "BittenStick$Flights" "number" "I") wd_369) (fun _ h9 => h9) rfl (by decide +kernel) rfl rfl (Nat.le_of_ble_eq_true rfl) dX11_back_23 ?_
    clear hP hD hS
    intro H locs hP hD hS
    replace hP := k_w2 (wt := [(kX11 hx aLa aPa aGe aFl aTr aBe aLu aLo vSf vSm vCo vSh xs xl xf), (kX1 aFl vFl (xn - 1))]) hP hD rfl
    replace hD := hP.2
    replace hP := hP.1
    refine lv_aload_n hx₀ hb dX11_back_26 rfl (lv_at hl 0 rfl) ?_
    refine va_get (D := (dC, dI)) (ci := 10) (v := .ref aFl) (C := RX11) (T := TX11) (N := 15) hx₀ hb hts inlX11 hown hK hP 0 rfl rfl 3 (by decide) (hts (.fieldLink RX11 33 "BittenStick" "flights" "LBittenStick$Flights;") wd_27) (fun _ h9 => h9) rfl dX11_back_27 ?_
    refine va_get (D := (dC, dI)) (ci := 1) (v := .int (xn - 1)) (C := RX1) (T := TX1) (N := 2) hx₀ hb hts inlX1 hown hK hP 1 rfl rfl 1 (by decide) (hts (.fieldLink RX11 128 "BittenStick$Flights" "number" "I") wd_369) (fun _ h9 => h9) rfl dX11_back_30 ?_
    obtain ⟨hP9, hD9⟩ := k_c2 (wc := [(kX11 hx aLa aPa aGe aFl aTr aBe aLu aLo vSf vSm vCo vSh xs xl xf), (kX1 aFl vFl (xn - 1))]) hP hD [0, 1] (by decide +kernel) rfl
    exact W.iret (v := xn - 1) hx₀ hb hr (fun t₀ ht hW => ⟨⟨xn - 1, (k_fn [(xn - 1)], k_fa [], k_fl [], k_fL [], k_fp []), rfl, ⟨(show (xn - 1 : Int32) = if xn = 0 then -3 else xn - 1 from (if_neg (c_1)).symm), (lf_j_back_1 xn hh0 c_1), (show (xn - 1) = if xn = 0 then xn else xn - 1 from (if_neg (c_1)).symm)⟩, by rw [ht]; exact hP9, va_K.moved hW.alike hK, hD9⟩, hS.F ht⟩) hS.2.2 dX11_back_33
  · refine lv_bipush (v := (-3)) hx₀ hb dX11_back_10 (by decide +kernel) ?_
    obtain ⟨hP9, hD9⟩ := k_c2 (wc := [(kX11 hx aLa aPa aGe aFl aTr aBe aLu aLo vSf vSm vCo vSh xs xl xf), (kX1 aFl vFl xn)]) hP hD [0, 1] (by decide +kernel) rfl
    exact W.iret (v := (-3)) hx₀ hb hr (fun t₀ ht hW => ⟨⟨(-3), (k_fn [xn], k_fa [], k_fl [], k_fL [], k_fp []), rfl, ⟨(show ((-3) : Int32) = if xn = 0 then -3 else xn - 1 from (if_pos (c_1)).symm), hh0, (show xn = if xn = 0 then xn else xn - 1 from (if_pos (c_1)).symm)⟩, by rw [ht]; exact hP9, va_K.moved hW.alike hK, hD9⟩, hS.F ht⟩) hS.2.2 dX11_back_12
theorem lf_j_learn_1 (a0 : Int32) (h0 : ¬ a0 < 0) (h1 : a0 < 64) : a0 ≤ 63 := by
  first | (first | omega | (have hr0 := Int32.toInt_lt a0; have hs0 := Int32.le_toInt a0; simp only [Int64.toInt_add, Int64.toInt_sub, Int32.toInt_add, Int32.toInt_sub, Int32.toInt_mul, Int64.le_iff_toInt_le, Int64.lt_iff_toInt_lt, Int32.le_iff_toInt_le, Int32.lt_iff_toInt_lt, ← Int32.toInt_inj, ← Int64.toInt_inj, Int32.toInt_toInt64, kc_0, kc_63, kc_64, true_and, and_true, not_true_eq_false, not_false_eq_true] at * <;> ((first | omega | ((try simp (disch := omega) only [k_bm64] at *); (try simp (disch := omega) only [k_bm] at *); (try simp (disch := omega) only [k_bm] at *); omega) | (simp only [Int.bmod] at *; omega))))) | with_reducible assumption | exact Or.inl rfl | rfl
theorem lf_j_learn_2 (a0 : Int32) (h0 : ¬ a0 < 0) (h1 : ¬ a0 < 64) : ¬ (0 ≤ a0 ∧ a0 ≤ 63) := by
  first | (first | omega | (have hr0 := Int32.toInt_lt a0; have hs0 := Int32.le_toInt a0; simp only [Int64.toInt_add, Int64.toInt_sub, Int32.toInt_add, Int32.toInt_sub, Int32.toInt_mul, Int64.le_iff_toInt_le, Int64.lt_iff_toInt_lt, Int32.le_iff_toInt_le, Int32.lt_iff_toInt_lt, ← Int32.toInt_inj, ← Int64.toInt_inj, Int32.toInt_toInt64, kc_0, kc_63, kc_64, true_and, and_true, not_true_eq_false, not_false_eq_true] at * <;> ((first | omega | ((try simp (disch := omega) only [k_bm64] at *); (try simp (disch := omega) only [k_bm] at *); (try simp (disch := omega) only [k_bm] at *); omega) | (simp only [Int.bmod] at *; omega))))) | with_reducible assumption | exact Or.inl rfl | rfl
set_option maxHeartbeats 4000000 in
set_option maxRecDepth 100000 in
theorem j_learn (l : Launch) (dC : Nat → ClassId) (dI : Nat → Nat → Nat) (cI cJ cQ : ClassId) (sz : Nat) (hx : Nat) (kk : Int32) (aLa : Nat) (aPa : Nat) (aGe : Nat) (aFl : Nat) (aTr : Nat) (aBe : Nat) (aLu : Nat) (aLo : Nat) (vSf : Nat) (vSm : Nat) (vCo : Nat) (vSh : Nat) (xs : Int32) (xl : Int32) (xf : Int32) : Met l yX11_learn (kW yX11_learn cX11_learn 3 (some .int)) { frames := 0, cells := 0, slots := 0, locals := 0 } (kPre dC dI cI cJ cQ sz [.ref hx, .int kk] [(kX11 hx aLa aPa aGe aFl aTr aBe aLu aLo vSf vSm vCo vSh xs xl xf)]) (va_Qi (fun (r : Int32) (u : kS) => (r = if 0 ≤ kk ∧ kk ≤ 63 then xl else -2) ∧ ((u.1 0) = if 0 ≤ kk ∧ kk ≤ 63 then kk else xl)) (fun (u : kS) t₀ => kB dC dI cI cJ cQ (va_A [(kX11 hx aLa aPa aGe aFl aTr aBe aLu aLo vSf vSm vCo vSh xs xl xf)] sz) [(kX11 hx aLa aPa aGe aFl aTr aBe aLu aLo vSf vSm vCo vSh xs (u.1 0) xf)] t₀) (va_A [(kX11 hx aLa aPa aGe aFl aTr aBe aLu aLo vSf vSm vCo vSh xs xl xf)] sz)) 0 0 (va_A [(kX11 hx aLa aPa aGe aFl aTr aBe aLu aLo vSf vSm vCo vSh xs xl xf)] sz) := by
  refine Met.ofW (cc := cX11_learn) (maxL := 3) (ret := (some .int)) (by decide) rfl ?_
  intro p₀ e₀ s₀ m₀ args below meth c₀ s₁ B hml hv₀
  obtain ⟨rfl, hsz, hP, hK, hD0, hN⟩ := hv₀
  have hx₀ := B.exec
  have hb := B.bytes
  have hr := B.returns
  have hts := atoms_spec (ws := (kW yX11_learn cX11_learn 3 (some .int))) B.pre
  have hts := fun w h => hts w (List.mem_cons_of_mem _ h)
  have hown : s₀.vm.findClass RX11 = some m₀.cls := findClass_of_methodNamed B.named
  have hlocks := B.notSynchronized
  subst hsz
  have hD := hD0.self (sz := s₀.heap.size)
  generalize hAe : va_A [(kX11 hx aLa aPa aGe aFl aTr aBe aLu aLo vSf vSm vCo vSh xs xl xf)] s₀.heap.size = A at hD ⊢
  have hA : ∀ q : Nat, s₀.heap.size ≤ q → A q := fun q h => by rw [← hAe]; exact Or.inr h
  have hS : va_S A s₀.heap s₀.heap [] := va_S.rf
  have hP : va_P (dC, dI) vwCl [(kX11 hx aLa aPa aGe aFl aTr aBe aLu aLo vSf vSm vCo vSh xs xl xf)] s₀.heap := hP
  have hl := lv_entry ([.ref hx, .int kk]) (n := 3) (Nat.le_of_ble_eq_true rfl)
  rw [lg_entry_eq]
  generalize (lg_sl ([.ref hx, .int kk]) ++ List.replicate (3 - (lg_sl ([.ref hx, .int kk])).length) Slot.unset).toArray = ls at hl ⊢
  have hl : lv_has ls 3 [(0, .ref hx), (1, .int kk)] := hl
  obtain ⟨H, hH⟩ : ∃ z : Heap, z = s₀.heap := ⟨_, rfl⟩
  rw [← hH] at hP
  have hS : va_S A s₀.heap H [] := by rw [hH]; exact hS
  refine k_heap hH ?_
  have hD : va_D A [(kX11 hx aLa aPa aGe aFl aTr aBe aLu aLo vSf vSm vCo vSh xs xl xf)] := hD
  obtain ⟨locs, hlo⟩ : ∃ z : List Loc, z = [] := ⟨_, rfl⟩
  rw [← hlo] at hS ⊢
  clear hlo hH hAe hD0
  refine lv_iload_n hx₀ hb dX11_learn_0 rfl (lv_at hl 1 rfl) ?_
  refine lv_if_lt (tgt := 10) hx₀ hb dX11_learn_1 (by decide) (fun c_1 => ?_) (fun c_1 => ?_)
  · refine lv_bipush (v := (-2)) hx₀ hb dX11_learn_10 (by decide +kernel) ?_
    obtain ⟨hP9, hD9⟩ := k_c2 (wc := [(kX11 hx aLa aPa aGe aFl aTr aBe aLu aLo vSf vSm vCo vSh xs xl xf)]) hP hD [0] (by decide +kernel) rfl
    exact W.iret (v := (-2)) hx₀ hb hr (fun t₀ ht hW => ⟨⟨(-2), (k_fn [xl], k_fa [], k_fl [], k_fL [], k_fp []), rfl, ⟨(show ((-2) : Int32) = if 0 ≤ kk ∧ kk ≤ 63 then xl else -2 from (if_neg (show ¬ (0 ≤ kk ∧ kk ≤ 63) from (fun z => (Int32.not_le.mpr c_1) z.1))).symm), (show xl = if 0 ≤ kk ∧ kk ≤ 63 then kk else xl from (if_neg (show ¬ (0 ≤ kk ∧ kk ≤ 63) from (fun z => (Int32.not_le.mpr c_1) z.1))).symm)⟩, by rw [ht]; exact hP9, va_K.moved hW.alike hK, hD9⟩, hS.F ht⟩) hS.2.2 dX11_learn_12
  · refine lv_iload_n hx₀ hb dX11_learn_4 rfl (lv_at hl 1 rfl) ?_
    refine lv_bipush (v := 64) hx₀ hb dX11_learn_5 (by decide +kernel) ?_
    refine lv_icmp_lt (tgt := 13) hx₀ hb dX11_learn_7 (by decide) (fun c_2 => ?_) (fun c_2 => ?_)
    · refine lv_aload_n hx₀ hb dX11_learn_13 rfl (lv_at hl 0 rfl) ?_
      refine va_get (D := (dC, dI)) (ci := 10) (v := .int xl) (C := RX11) (T := TX11) (N := 15) hx₀ hb hts inlX11 hown hK hP 0 rfl rfl 13 (by decide) (hts (.fieldLink RX11 146 "BittenStick" "learned" "I") wd_411) (fun _ h9 => h9) rfl dX11_learn_14 ?_
      refine lv_istore_n (lv' := [(2, .int xl), (0, .ref hx), (1, .int kk)]) hx₀ hb dX11_learn_17 rfl hl (by decide) rfl (fun ls hl => ?_)
      refine lv_aload_n hx₀ hb dX11_learn_18 rfl (lv_at hl 1 rfl) ?_
      refine lv_iload_n hx₀ hb dX11_learn_19 rfl (lv_at hl 2 rfl) ?_
      refine va_put (D := (dC, dI)) (ci := 10) (v := .int kk) (ty := .int) (C := RX11) (T := TX11) (N := 15) hx₀ hb hts inlX11 tyX11 tyX11_ok nmX11 hown hK hP hD hS 0 rfl rfl 13 (by decide) (hts (.fieldLink RX11 146 "BittenStick" "learned" "I") wd_411) (fun _ h9 => h9) rfl (by decide +kernel) rfl rfl (Nat.le_of_ble_eq_true rfl) dX11_learn_20 ?_
      clear hP hD hS
      intro H locs hP hD hS
      replace hP := k_w2 (wt := [(kX11 hx aLa aPa aGe aFl aTr aBe aLu aLo vSf vSm vCo vSh xs kk xf)]) hP hD rfl
      replace hD := hP.2
      replace hP := hP.1
      refine lv_iload_n hx₀ hb dX11_learn_23 rfl (lv_at hl 0 rfl) ?_
      obtain ⟨hP9, hD9⟩ := k_c2 (wc := [(kX11 hx aLa aPa aGe aFl aTr aBe aLu aLo vSf vSm vCo vSh xs kk xf)]) hP hD [0] (by decide +kernel) rfl
      exact W.iret (v := xl) hx₀ hb hr (fun t₀ ht hW => ⟨⟨xl, (k_fn [kk], k_fa [], k_fl [], k_fL [], k_fp []), rfl, ⟨(show (xl : Int32) = if 0 ≤ kk ∧ kk ≤ 63 then xl else -2 from (if_pos (show 0 ≤ kk ∧ kk ≤ 63 from ⟨(Int32.not_lt.mp c_1), (lf_j_learn_1 kk c_1 c_2)⟩)).symm), (show kk = if 0 ≤ kk ∧ kk ≤ 63 then kk else xl from (if_pos (show 0 ≤ kk ∧ kk ≤ 63 from ⟨(Int32.not_lt.mp c_1), (lf_j_learn_1 kk c_1 c_2)⟩)).symm)⟩, by rw [ht]; exact hP9, va_K.moved hW.alike hK, hD9⟩, hS.F ht⟩) hS.2.2 dX11_learn_24
    · refine lv_bipush (v := (-2)) hx₀ hb dX11_learn_10 (by decide +kernel) ?_
      obtain ⟨hP9, hD9⟩ := k_c2 (wc := [(kX11 hx aLa aPa aGe aFl aTr aBe aLu aLo vSf vSm vCo vSh xs xl xf)]) hP hD [0] (by decide +kernel) rfl
      exact W.iret (v := (-2)) hx₀ hb hr (fun t₀ ht hW => ⟨⟨(-2), (k_fn [xl], k_fa [], k_fl [], k_fL [], k_fp []), rfl, ⟨(show ((-2) : Int32) = if 0 ≤ kk ∧ kk ≤ 63 then xl else -2 from (if_neg (lf_j_learn_2 kk c_1 c_2)).symm), (show xl = if 0 ≤ kk ∧ kk ≤ 63 then kk else xl from (if_neg (lf_j_learn_2 kk c_1 c_2)).symm)⟩, by rw [ht]; exact hP9, va_K.moved hW.alike hK, hD9⟩, hS.F ht⟩) hS.2.2 dX11_learn_12
theorem lf_j_seen_1 (a0 : Int32) (a1 : Int32) (h0 : ¬ a0 < 0) (h1 : 8 ≤ a0) : ¬ (0 ≤ a0 ∧ a0 ≤ 7 ∧ 0 ≤ a1 ∧ a1 ≤ 24) := by
  first | (first | omega | (have hr0 := Int32.toInt_lt a0; have hs0 := Int32.le_toInt a0; have hr1 := Int32.toInt_lt a1; have hs1 := Int32.le_toInt a1; simp only [Int64.toInt_add, Int64.toInt_sub, Int32.toInt_add, Int32.toInt_sub, Int32.toInt_mul, Int64.le_iff_toInt_le, Int64.lt_iff_toInt_lt, Int32.le_iff_toInt_le, Int32.lt_iff_toInt_lt, ← Int32.toInt_inj, ← Int64.toInt_inj, Int32.toInt_toInt64, kc_0, kc_7, kc_8, kc_24, true_and, and_true, not_true_eq_false, not_false_eq_true] at * <;> ((first | omega | ((try simp (disch := omega) only [k_bm64] at *); (try simp (disch := omega) only [k_bm] at *); (try simp (disch := omega) only [k_bm] at *); omega) | (simp only [Int.bmod] at *; omega))))) | with_reducible assumption | exact Or.inl rfl | rfl
theorem lf_j_seen_2 (a0 : Int32) (a1 : Int32) (a2 : Int32) (h0 : 0 ≤ a0 ∧ a0 ≤ 8) (h1 : ¬ a1 < 0) (h2 : 8 ≤ a1) : ¬ (0 ≤ a1 ∧ a1 ≤ 7 ∧ 0 ≤ a2 ∧ a2 ≤ 24 ∧ ¬ a0 = 8) := by
  first | (first | omega | (have hr0 := Int32.toInt_lt a0; have hs0 := Int32.le_toInt a0; have hr1 := Int32.toInt_lt a1; have hs1 := Int32.le_toInt a1; have hr2 := Int32.toInt_lt a2; have hs2 := Int32.le_toInt a2; simp only [Int64.toInt_add, Int64.toInt_sub, Int32.toInt_add, Int32.toInt_sub, Int32.toInt_mul, Int64.le_iff_toInt_le, Int64.lt_iff_toInt_lt, Int32.le_iff_toInt_le, Int32.lt_iff_toInt_lt, ← Int32.toInt_inj, ← Int64.toInt_inj, Int32.toInt_toInt64, kc_0, kc_7, kc_8, kc_24, true_and, and_true, not_true_eq_false, not_false_eq_true] at * <;> ((first | omega | ((try simp (disch := omega) only [k_bm64] at *); (try simp (disch := omega) only [k_bm] at *); (try simp (disch := omega) only [k_bm] at *); omega) | (simp only [Int.bmod] at *; omega))))) | with_reducible assumption | exact Or.inl rfl | rfl
theorem lf_j_seen_3 (a0 : Int32) (h0 : 0 ≤ a0 ∧ a0 ≤ 8) (h1 : ¬ a0 < 0) (h2 : a0 < 8) : 0 ≤ a0.toInt ∧ a0.toInt < 8 := by
  first | (first | omega | (have hr0 := Int32.toInt_lt a0; have hs0 := Int32.le_toInt a0; simp only [Int64.toInt_add, Int64.toInt_sub, Int32.toInt_add, Int32.toInt_sub, Int32.toInt_mul, Int64.le_iff_toInt_le, Int64.lt_iff_toInt_lt, Int32.le_iff_toInt_le, Int32.lt_iff_toInt_lt, ← Int32.toInt_inj, ← Int64.toInt_inj, Int32.toInt_toInt64, kc_0, kc_8, true_and, and_true, not_true_eq_false, not_false_eq_true] at * <;> ((first | omega | ((try simp (disch := omega) only [k_bm64] at *); (try simp (disch := omega) only [k_bm] at *); (try simp (disch := omega) only [k_bm] at *); omega) | (simp only [Int.bmod] at *; omega))))) | with_reducible assumption | exact Or.inl rfl | rfl
theorem lf_j_seen_4 (a0 : Int32) (h0 : ¬ a0 < 0) (h1 : ¬ 8 ≤ a0) : a0 ≤ 7 := by
  first | (first | omega | (have hr0 := Int32.toInt_lt a0; have hs0 := Int32.le_toInt a0; simp only [Int64.toInt_add, Int64.toInt_sub, Int32.toInt_add, Int32.toInt_sub, Int32.toInt_mul, Int64.le_iff_toInt_le, Int64.lt_iff_toInt_lt, Int32.le_iff_toInt_le, Int32.lt_iff_toInt_lt, ← Int32.toInt_inj, ← Int64.toInt_inj, Int32.toInt_toInt64, kc_0, kc_7, kc_8, true_and, and_true, not_true_eq_false, not_false_eq_true] at * <;> ((first | omega | ((try simp (disch := omega) only [k_bm64] at *); (try simp (disch := omega) only [k_bm] at *); (try simp (disch := omega) only [k_bm] at *); omega) | (simp only [Int.bmod] at *; omega))))) | with_reducible assumption | exact Or.inl rfl | rfl
set_option maxHeartbeats 4000000 in
set_option maxRecDepth 100000 in
theorem j_seen (l : Launch) (dC : Nat → ClassId) (dI : Nat → Nat → Nat) (cI cJ cQ : ClassId) (sz : Nat) (hx : Nat) (f1 : Int32) (m1 : Int32) (aLa : Nat) (aPa : Nat) (aGe : Nat) (aFl : Nat) (aTr : Nat) (aBe : Nat) (aLu : Nat) (aLo : Nat) (vSf : Nat) (vSm : Nat) (vCo : Nat) (vSh : Nat) (xs : Int32) (xl : Int32) (xf : Int32) (sf : Nat → Int32) (sm : Nat → Int32) (hh0 : 0 ≤ xs ∧ xs ≤ 8) : Met l yX11_seen (kW yX11_seen cX11_seen 3 (some .int)) { frames := 0, cells := 0, slots := 0, locals := 0 } (kPre dC dI cI cJ cQ sz [.ref hx, .int f1, .int m1] [(kX11 hx aLa aPa aGe aFl aTr aBe aLu aLo vSf vSm vCo vSh xs xl xf), (kAI vSf cI 8 sf), (kAI vSm cI 8 sm)]) (va_Qi (fun (r : Int32) (u : kS) => (r = if 0 ≤ f1 ∧ f1 ≤ 7 ∧ 0 ≤ m1 ∧ m1 ≤ 24 then (if xs = 8 then -4 else xs + 1) else -2) ∧ ((u.1 0) = if 0 ≤ f1 ∧ f1 ≤ 7 ∧ 0 ≤ m1 ∧ m1 ≤ 24 ∧ ¬ xs = 8 then xs + 1 else xs)) (fun (u : kS) t₀ => kB dC dI cI cJ cQ (va_A [(kX11 hx aLa aPa aGe aFl aTr aBe aLu aLo vSf vSm vCo vSh xs xl xf), (kAI vSf cI 8 sf), (kAI vSm cI 8 sm)] sz) [(kX11 hx aLa aPa aGe aFl aTr aBe aLu aLo vSf vSm vCo vSh (u.1 0) xl xf), (kAI vSf cI 8 (u.2.1 0)), (kAI vSm cI 8 (u.2.1 1))] t₀) (va_A [(kX11 hx aLa aPa aGe aFl aTr aBe aLu aLo vSf vSm vCo vSh xs xl xf), (kAI vSf cI 8 sf), (kAI vSm cI 8 sm)] sz)) 0 0 (va_A [(kX11 hx aLa aPa aGe aFl aTr aBe aLu aLo vSf vSm vCo vSh xs xl xf), (kAI vSf cI 8 sf), (kAI vSm cI 8 sm)] sz) := by
  refine Met.ofW (cc := cX11_seen) (maxL := 3) (ret := (some .int)) (by decide) rfl ?_
  intro p₀ e₀ s₀ m₀ args below meth c₀ s₁ B hml hv₀
  obtain ⟨rfl, hsz, hP, hK, hD0, hN⟩ := hv₀
  have hx₀ := B.exec
  have hb := B.bytes
  have hr := B.returns
  have hts := atoms_spec (ws := (kW yX11_seen cX11_seen 3 (some .int))) B.pre
  have hts := fun w h => hts w (List.mem_cons_of_mem _ h)
  have hown : s₀.vm.findClass RX11 = some m₀.cls := findClass_of_methodNamed B.named
  have hlocks := B.notSynchronized
  subst hsz
  have hD := hD0.self (sz := s₀.heap.size)
  generalize hAe : va_A [(kX11 hx aLa aPa aGe aFl aTr aBe aLu aLo vSf vSm vCo vSh xs xl xf), (kAI vSf cI 8 sf), (kAI vSm cI 8 sm)] s₀.heap.size = A at hD ⊢
  have hA : ∀ q : Nat, s₀.heap.size ≤ q → A q := fun q h => by rw [← hAe]; exact Or.inr h
  have hS : va_S A s₀.heap s₀.heap [] := va_S.rf
  have hP : va_P (dC, dI) vwCl [(kX11 hx aLa aPa aGe aFl aTr aBe aLu aLo vSf vSm vCo vSh xs xl xf), (kAI vSf cI 8 sf), (kAI vSm cI 8 sm)] s₀.heap := hP
  have hl := lv_entry ([.ref hx, .int f1, .int m1]) (n := 3) (Nat.le_of_ble_eq_true rfl)
  rw [lg_entry_eq]
  generalize (lg_sl ([.ref hx, .int f1, .int m1]) ++ List.replicate (3 - (lg_sl ([.ref hx, .int f1, .int m1])).length) Slot.unset).toArray = ls at hl ⊢
  have hl : lv_has ls 3 [(0, .ref hx), (1, .int f1), (2, .int m1)] := hl
  obtain ⟨H, hH⟩ : ∃ z : Heap, z = s₀.heap := ⟨_, rfl⟩
  rw [← hH] at hP
  have hS : va_S A s₀.heap H [] := by rw [hH]; exact hS
  refine k_heap hH ?_
  have hD : va_D A [(kX11 hx aLa aPa aGe aFl aTr aBe aLu aLo vSf vSm vCo vSh xs xl xf), (kAI vSf cI 8 sf), (kAI vSm cI 8 sm)] := hD
  obtain ⟨locs, hlo⟩ : ∃ z : List Loc, z = [] := ⟨_, rfl⟩
  rw [← hlo] at hS ⊢
  clear hlo hH hAe hD0
  refine lv_iload_n hx₀ hb dX11_seen_0 rfl (lv_at hl 1 rfl) ?_
  refine lv_if_lt (tgt := 20) hx₀ hb dX11_seen_1 (by decide) (fun c_1 => ?_) (fun c_1 => ?_)
  · refine lv_bipush (v := (-2)) hx₀ hb dX11_seen_20 (by decide +kernel) ?_
    obtain ⟨hP9, hD9⟩ := k_c2 (wc := [(kX11 hx aLa aPa aGe aFl aTr aBe aLu aLo vSf vSm vCo vSh xs xl xf), (kAI vSf cI 8 sf), (kAI vSm cI 8 sm)]) hP hD [0, 1, 2] (by decide +kernel) rfl
    exact W.iret (v := (-2)) hx₀ hb hr (fun t₀ ht hW => ⟨⟨(-2), (k_fn [xs], k_fa [sf, sm], k_fl [], k_fL [], k_fp []), rfl, ⟨(show ((-2) : Int32) = if 0 ≤ f1 ∧ f1 ≤ 7 ∧ 0 ≤ m1 ∧ m1 ≤ 24 then (if xs = 8 then -4 else xs + 1) else -2 from (if_neg (show ¬ (0 ≤ f1 ∧ f1 ≤ 7 ∧ 0 ≤ m1 ∧ m1 ≤ 24) from (fun z => (Int32.not_le.mpr c_1) z.1))).symm), (show xs = if 0 ≤ f1 ∧ f1 ≤ 7 ∧ 0 ≤ m1 ∧ m1 ≤ 24 ∧ ¬ xs = 8 then xs + 1 else xs from (if_neg (show ¬ (0 ≤ f1 ∧ f1 ≤ 7 ∧ 0 ≤ m1 ∧ m1 ≤ 24 ∧ ¬ xs = 8) from (fun z => (Int32.not_le.mpr c_1) z.1))).symm)⟩, by rw [ht]; exact hP9, va_K.moved hW.alike hK, hD9⟩, hS.F ht⟩) hS.2.2 dX11_seen_22
  · refine lv_iload_n hx₀ hb dX11_seen_4 rfl (lv_at hl 1 rfl) ?_
    refine lv_bipush (v := 8) hx₀ hb dX11_seen_5 (by decide +kernel) ?_
    refine lv_icmp_ge (tgt := 20) hx₀ hb dX11_seen_7 (by decide) (fun c_2 => ?_) (fun c_2 => ?_)
    · refine lv_bipush (v := (-2)) hx₀ hb dX11_seen_20 (by decide +kernel) ?_
      obtain ⟨hP9, hD9⟩ := k_c2 (wc := [(kX11 hx aLa aPa aGe aFl aTr aBe aLu aLo vSf vSm vCo vSh xs xl xf), (kAI vSf cI 8 sf), (kAI vSm cI 8 sm)]) hP hD [0, 1, 2] (by decide +kernel) rfl
      exact W.iret (v := (-2)) hx₀ hb hr (fun t₀ ht hW => ⟨⟨(-2), (k_fn [xs], k_fa [sf, sm], k_fl [], k_fL [], k_fp []), rfl, ⟨(show ((-2) : Int32) = if 0 ≤ f1 ∧ f1 ≤ 7 ∧ 0 ≤ m1 ∧ m1 ≤ 24 then (if xs = 8 then -4 else xs + 1) else -2 from (if_neg (lf_j_seen_1 f1 m1 c_1 c_2)).symm), (show xs = if 0 ≤ f1 ∧ f1 ≤ 7 ∧ 0 ≤ m1 ∧ m1 ≤ 24 ∧ ¬ xs = 8 then xs + 1 else xs from (if_neg (lf_j_seen_2 xs f1 m1 hh0 c_1 c_2)).symm)⟩, by rw [ht]; exact hP9, va_K.moved hW.alike hK, hD9⟩, hS.F ht⟩) hS.2.2 dX11_seen_22
    · refine lv_iload_n hx₀ hb dX11_seen_10 rfl (lv_at hl 2 rfl) ?_
      refine lv_if_lt (tgt := 20) hx₀ hb dX11_seen_11 (by decide) (fun c_3 => ?_) (fun c_3 => ?_)
      · refine lv_bipush (v := (-2)) hx₀ hb dX11_seen_20 (by decide +kernel) ?_
        obtain ⟨hP9, hD9⟩ := k_c2 (wc := [(kX11 hx aLa aPa aGe aFl aTr aBe aLu aLo vSf vSm vCo vSh xs xl xf), (kAI vSf cI 8 sf), (kAI vSm cI 8 sm)]) hP hD [0, 1, 2] (by decide +kernel) rfl
        exact W.iret (v := (-2)) hx₀ hb hr (fun t₀ ht hW => ⟨⟨(-2), (k_fn [xs], k_fa [sf, sm], k_fl [], k_fL [], k_fp []), rfl, ⟨(show ((-2) : Int32) = if 0 ≤ f1 ∧ f1 ≤ 7 ∧ 0 ≤ m1 ∧ m1 ≤ 24 then (if xs = 8 then -4 else xs + 1) else -2 from (if_neg (show ¬ (0 ≤ f1 ∧ f1 ≤ 7 ∧ 0 ≤ m1 ∧ m1 ≤ 24) from (fun z => (Int32.not_le.mpr c_3) z.2.2.1))).symm), (show xs = if 0 ≤ f1 ∧ f1 ≤ 7 ∧ 0 ≤ m1 ∧ m1 ≤ 24 ∧ ¬ xs = 8 then xs + 1 else xs from (if_neg (show ¬ (0 ≤ f1 ∧ f1 ≤ 7 ∧ 0 ≤ m1 ∧ m1 ≤ 24 ∧ ¬ xs = 8) from (fun z => (Int32.not_le.mpr c_3) z.2.2.1))).symm)⟩, by rw [ht]; exact hP9, va_K.moved hW.alike hK, hD9⟩, hS.F ht⟩) hS.2.2 dX11_seen_22
      · refine lv_iload_n hx₀ hb dX11_seen_14 rfl (lv_at hl 2 rfl) ?_
        refine lv_bipush (v := 24) hx₀ hb dX11_seen_15 (by decide +kernel) ?_
        refine lv_icmp_le (tgt := 23) hx₀ hb dX11_seen_17 (by decide) (fun c_4 => ?_) (fun c_4 => ?_)
        · refine lv_aload_n hx₀ hb dX11_seen_23 rfl (lv_at hl 0 rfl) ?_
          refine va_get (D := (dC, dI)) (ci := 10) (v := .int xs) (C := RX11) (T := TX11) (N := 15) hx₀ hb hts inlX11 hown hK hP 0 rfl rfl 12 (by decide) (hts (.fieldLink RX11 193 "BittenStick" "seenNumber" "I") wd_690) (fun _ h9 => h9) rfl dX11_seen_24 ?_
          refine lv_if_lt (tgt := 39) hx₀ hb dX11_seen_27 (by decide) (fun c9 => ((show ¬ (xs < 0) from (Int32.not_lt.mpr hh0.1)) c9).elim) (fun c_5 => ?_)
          refine lv_aload_n hx₀ hb dX11_seen_30 rfl (lv_at hl 0 rfl) ?_
          refine va_get (D := (dC, dI)) (ci := 10) (v := .int xs) (C := RX11) (T := TX11) (N := 15) hx₀ hb hts inlX11 hown hK hP 0 rfl rfl 12 (by decide) (hts (.fieldLink RX11 193 "BittenStick" "seenNumber" "I") wd_690) (fun _ h9 => h9) rfl dX11_seen_31 ?_
          refine lv_bipush (v := 8) hx₀ hb dX11_seen_34 (by decide +kernel) ?_
          refine lv_icmp_lt (tgt := 42) hx₀ hb dX11_seen_36 (by decide) (fun c_6 => ?_) (fun c_6 => ?_)
          · refine lv_aload_n hx₀ hb dX11_seen_42 rfl (lv_at hl 0 rfl) ?_
            refine va_get (D := (dC, dI)) (ci := 10) (v := .ref vSf) (C := RX11) (T := TX11) (N := 15) hx₀ hb hts inlX11 hown hK hP 0 rfl rfl 8 (by decide) (hts (.fieldLink RX11 67 "BittenStick" "seenFlights" "[I") wd_45) (fun _ h9 => h9) rfl dX11_seen_43 ?_
            refine lv_aload_n hx₀ hb dX11_seen_46 rfl (lv_at hl 0 rfl) ?_
            refine va_get (D := (dC, dI)) (ci := 10) (v := .int xs) (C := RX11) (T := TX11) (N := 15) hx₀ hb hts inlX11 hown hK hP 0 rfl rfl 12 (by decide) (hts (.fieldLink RX11 193 "BittenStick" "seenNumber" "I") wd_690) (fun _ h9 => h9) rfl dX11_seen_47 ?_
            refine lv_iload_n hx₀ hb dX11_seen_50 rfl (lv_at hl 1 rfl) ?_
            refine va_iast hx₀ hb hK hP hD hS 1 0 rfl rfl (vp_in_iff.mpr (lf_j_seen_3 xs hh0 c_5 c_6)) dX11_seen_51 ?_
            clear hP hD hS
            intro H locs hP hD hS
            obtain ⟨f_7, hf_7⟩ : ∃ z : Nat → Int32, z = upd sf xs.toNatClampNeg f1 := ⟨_, rfl⟩
            replace hP : va_P (dC, dI) vwCl [(kX11 hx aLa aPa aGe aFl aTr aBe aLu aLo vSf vSm vCo vSh xs xl xf), (kAI vSf cI 8 f_7), (kAI vSm cI 8 sm)] H := by rw [hf_7]; exact hP
            replace hD : va_D A [(kX11 hx aLa aPa aGe aFl aTr aBe aLu aLo vSf vSm vCo vSh xs xl xf), (kAI vSf cI 8 f_7), (kAI vSm cI 8 sm)] := by rw [hf_7]; exact hD
            clear hf_7
            refine lv_aload_n hx₀ hb dX11_seen_52 rfl (lv_at hl 0 rfl) ?_
            refine va_get (D := (dC, dI)) (ci := 10) (v := .ref vSm) (C := RX11) (T := TX11) (N := 15) hx₀ hb hts inlX11 hown hK hP 0 rfl rfl 9 (by decide) (hts (.fieldLink RX11 71 "BittenStick" "seenMiles" "[I") wd_46) (fun _ h9 => h9) rfl dX11_seen_53 ?_
            refine lv_aload_n hx₀ hb dX11_seen_56 rfl (lv_at hl 0 rfl) ?_
            refine va_get (D := (dC, dI)) (ci := 10) (v := .int xs) (C := RX11) (T := TX11) (N := 15) hx₀ hb hts inlX11 hown hK hP 0 rfl rfl 12 (by decide) (hts (.fieldLink RX11 193 "BittenStick" "seenNumber" "I") wd_690) (fun _ h9 => h9) rfl dX11_seen_57 ?_
            refine lv_iload_n hx₀ hb dX11_seen_60 rfl (lv_at hl 2 rfl) ?_
            refine va_iast hx₀ hb hK hP hD hS 2 0 rfl rfl (vp_in_iff.mpr (lf_j_seen_3 xs hh0 c_5 c_6)) dX11_seen_61 ?_
            clear hP hD hS
            intro H locs hP hD hS
            obtain ⟨f_8, hf_8⟩ : ∃ z : Nat → Int32, z = upd sm xs.toNatClampNeg m1 := ⟨_, rfl⟩
            replace hP : va_P (dC, dI) vwCl [(kX11 hx aLa aPa aGe aFl aTr aBe aLu aLo vSf vSm vCo vSh xs xl xf), (kAI vSf cI 8 f_7), (kAI vSm cI 8 f_8)] H := by rw [hf_8]; exact hP
            replace hD : va_D A [(kX11 hx aLa aPa aGe aFl aTr aBe aLu aLo vSf vSm vCo vSh xs xl xf), (kAI vSf cI 8 f_7), (kAI vSm cI 8 f_8)] := by rw [hf_8]; exact hD
            clear hf_8
            refine lv_aload_n hx₀ hb dX11_seen_62 rfl (lv_at hl 0 rfl) ?_
            refine lv_dup hx₀ hb dX11_seen_63 rfl ?_
            refine va_get (D := (dC, dI)) (ci := 10) (v := .int xs) (C := RX11) (T := TX11) (N := 15) hx₀ hb hts inlX11 hown hK hP 0 rfl rfl 12 (by decide) (hts (.fieldLink RX11 193 "BittenStick" "seenNumber" "I") wd_690) (fun _ h9 => h9) rfl dX11_seen_64 ?_
            refine lv_iconst (v := 1) hx₀ hb dX11_seen_67 (by decide +kernel) ?_
            refine lv_iadd hx₀ hb dX11_seen_68 ?_
            refine va_put (D := (dC, dI)) (ci := 10) (v := .int (xs + 1)) (ty := .int) (C := RX11) (T := TX11) (N := 15) hx₀ hb hts inlX11 tyX11 tyX11_ok nmX11 hown hK hP hD hS 0 rfl rfl 12 (by decide) (hts (.fieldLink RX11 193 "BittenStick" "seenNumber" "I") wd_690) (fun _ h9 => h9) rfl (by decide +kernel) rfl rfl (Nat.le_of_ble_eq_true rfl) dX11_seen_69 ?_
            clear hP hD hS
            intro H locs hP hD hS
            replace hP := k_w2 (wt := [(kX11 hx aLa aPa aGe aFl aTr aBe aLu aLo vSf vSm vCo vSh (xs + 1) xl xf), (kAI vSf cI 8 f_7), (kAI vSm cI 8 f_8)]) hP hD rfl
            replace hD := hP.2
            replace hP := hP.1
            refine lv_aload_n hx₀ hb dX11_seen_72 rfl (lv_at hl 0 rfl) ?_
            refine va_get (D := (dC, dI)) (ci := 10) (v := .int (xs + 1)) (C := RX11) (T := TX11) (N := 15) hx₀ hb hts inlX11 hown hK hP 0 rfl rfl 12 (by decide) (hts (.fieldLink RX11 193 "BittenStick" "seenNumber" "I") wd_690) (fun _ h9 => h9) rfl dX11_seen_73 ?_
            obtain ⟨hP9, hD9⟩ := k_c2 (wc := [(kX11 hx aLa aPa aGe aFl aTr aBe aLu aLo vSf vSm vCo vSh (xs + 1) xl xf), (kAI vSf cI 8 f_7), (kAI vSm cI 8 f_8)]) hP hD [0, 1, 2] (by decide +kernel) rfl
            exact W.iret (v := xs + 1) hx₀ hb hr (fun t₀ ht hW => ⟨⟨xs + 1, (k_fn [(xs + 1)], k_fa [f_7, f_8], k_fl [], k_fL [], k_fp []), rfl, ⟨(show (xs + 1 : Int32) = if 0 ≤ f1 ∧ f1 ≤ 7 ∧ 0 ≤ m1 ∧ m1 ≤ 24 then (if xs = 8 then -4 else xs + 1) else -2 from (((if_neg (show ¬ (xs = 8) from (fun z => (Int32.not_le.mpr c_6) (k_leq z.symm)))).symm).trans (if_pos (show 0 ≤ f1 ∧ f1 ≤ 7 ∧ 0 ≤ m1 ∧ m1 ≤ 24 from ⟨(Int32.not_lt.mp c_1), (lf_j_seen_4 f1 c_1 c_2), (Int32.not_lt.mp c_3), c_4⟩)).symm)), (show (xs + 1) = if 0 ≤ f1 ∧ f1 ≤ 7 ∧ 0 ≤ m1 ∧ m1 ≤ 24 ∧ ¬ xs = 8 then xs + 1 else xs from (if_pos (show 0 ≤ f1 ∧ f1 ≤ 7 ∧ 0 ≤ m1 ∧ m1 ≤ 24 ∧ ¬ xs = 8 from ⟨(Int32.not_lt.mp c_1), (lf_j_seen_4 f1 c_1 c_2), (Int32.not_lt.mp c_3), c_4, (fun z => (Int32.not_le.mpr c_6) (k_leq z.symm))⟩)).symm)⟩, by rw [ht]; exact hP9, va_K.moved hW.alike hK, hD9⟩, hS.F ht⟩) hS.2.2 dX11_seen_76
          · refine lv_bipush (v := (-4)) hx₀ hb dX11_seen_39 (by decide +kernel) ?_
            obtain ⟨hP9, hD9⟩ := k_c2 (wc := [(kX11 hx aLa aPa aGe aFl aTr aBe aLu aLo vSf vSm vCo vSh xs xl xf), (kAI vSf cI 8 sf), (kAI vSm cI 8 sm)]) hP hD [0, 1, 2] (by decide +kernel) rfl
            exact W.iret (v := (-4)) hx₀ hb hr (fun t₀ ht hW => ⟨⟨(-4), (k_fn [xs], k_fa [sf, sm], k_fl [], k_fL [], k_fp []), rfl, ⟨(show ((-4) : Int32) = if 0 ≤ f1 ∧ f1 ≤ 7 ∧ 0 ≤ m1 ∧ m1 ≤ 24 then (if xs = 8 then -4 else xs + 1) else -2 from (((if_pos (show xs = 8 from (Int32.le_antisymm hh0.2 (Int32.not_lt.mp c_6)))).symm).trans (if_pos (show 0 ≤ f1 ∧ f1 ≤ 7 ∧ 0 ≤ m1 ∧ m1 ≤ 24 from ⟨(Int32.not_lt.mp c_1), (lf_j_seen_4 f1 c_1 c_2), (Int32.not_lt.mp c_3), c_4⟩)).symm)), (show xs = if 0 ≤ f1 ∧ f1 ≤ 7 ∧ 0 ≤ m1 ∧ m1 ≤ 24 ∧ ¬ xs = 8 then xs + 1 else xs from (if_neg (show ¬ (0 ≤ f1 ∧ f1 ≤ 7 ∧ 0 ≤ m1 ∧ m1 ≤ 24 ∧ ¬ xs = 8) from (fun z => (fun z => z (Int32.le_antisymm hh0.2 (Int32.not_lt.mp c_6))) z.2.2.2.2))).symm)⟩, by rw [ht]; exact hP9, va_K.moved hW.alike hK, hD9⟩, hS.F ht⟩) hS.2.2 dX11_seen_41
        · refine lv_bipush (v := (-2)) hx₀ hb dX11_seen_20 (by decide +kernel) ?_
          obtain ⟨hP9, hD9⟩ := k_c2 (wc := [(kX11 hx aLa aPa aGe aFl aTr aBe aLu aLo vSf vSm vCo vSh xs xl xf), (kAI vSf cI 8 sf), (kAI vSm cI 8 sm)]) hP hD [0, 1, 2] (by decide +kernel) rfl
          exact W.iret (v := (-2)) hx₀ hb hr (fun t₀ ht hW => ⟨⟨(-2), (k_fn [xs], k_fa [sf, sm], k_fl [], k_fL [], k_fp []), rfl, ⟨(show ((-2) : Int32) = if 0 ≤ f1 ∧ f1 ≤ 7 ∧ 0 ≤ m1 ∧ m1 ≤ 24 then (if xs = 8 then -4 else xs + 1) else -2 from (if_neg (show ¬ (0 ≤ f1 ∧ f1 ≤ 7 ∧ 0 ≤ m1 ∧ m1 ≤ 24) from (fun z => c_4 z.2.2.2))).symm), (show xs = if 0 ≤ f1 ∧ f1 ≤ 7 ∧ 0 ≤ m1 ∧ m1 ≤ 24 ∧ ¬ xs = 8 then xs + 1 else xs from (if_neg (show ¬ (0 ≤ f1 ∧ f1 ≤ 7 ∧ 0 ≤ m1 ∧ m1 ≤ 24 ∧ ¬ xs = 8) from (fun z => c_4 z.2.2.2.1))).symm)⟩, by rw [ht]; exact hP9, va_K.moved hW.alike hK, hD9⟩, hS.F ht⟩) hS.2.2 dX11_seen_22
set_option maxHeartbeats 4000000 in
set_option maxRecDepth 100000 in
theorem j_forget (l : Launch) (dC : Nat → ClassId) (dI : Nat → Nat → Nat) (cI cJ cQ : ClassId) (sz : Nat) (hx : Nat) (aLa : Nat) (aPa : Nat) (aGe : Nat) (aFl : Nat) (aTr : Nat) (aBe : Nat) (aLu : Nat) (aLo : Nat) (vSf : Nat) (vSm : Nat) (vCo : Nat) (vSh : Nat) (xs : Int32) (xl : Int32) (xf : Int32) : Met l yX11_forget (kW yX11_forget cX11_forget 2 (some .int)) { frames := 0, cells := 0, slots := 0, locals := 0 } (kPre dC dI cI cJ cQ sz [.ref hx] [(kX11 hx aLa aPa aGe aFl aTr aBe aLu aLo vSf vSm vCo vSh xs xl xf)]) (va_Qi (fun (r : Int32) (u : Unit) => (r = xs)) (fun (u : Unit) t₀ => kB dC dI cI cJ cQ (va_A [(kX11 hx aLa aPa aGe aFl aTr aBe aLu aLo vSf vSm vCo vSh xs xl xf)] sz) [(kX11 hx aLa aPa aGe aFl aTr aBe aLu aLo vSf vSm vCo vSh 0 xl xf)] t₀) (va_A [(kX11 hx aLa aPa aGe aFl aTr aBe aLu aLo vSf vSm vCo vSh xs xl xf)] sz)) 0 0 (va_A [(kX11 hx aLa aPa aGe aFl aTr aBe aLu aLo vSf vSm vCo vSh xs xl xf)] sz) := by
  refine Met.ofW (cc := cX11_forget) (maxL := 2) (ret := (some .int)) (by decide) rfl ?_
  intro p₀ e₀ s₀ m₀ args below meth c₀ s₁ B hml hv₀
  obtain ⟨rfl, hsz, hP, hK, hD0, hN⟩ := hv₀
  have hx₀ := B.exec
  have hb := B.bytes
  have hr := B.returns
  have hts := atoms_spec (ws := (kW yX11_forget cX11_forget 2 (some .int))) B.pre
  have hts := fun w h => hts w (List.mem_cons_of_mem _ h)
  have hown : s₀.vm.findClass RX11 = some m₀.cls := findClass_of_methodNamed B.named
  have hlocks := B.notSynchronized
  subst hsz
  have hD := hD0.self (sz := s₀.heap.size)
  generalize hAe : va_A [(kX11 hx aLa aPa aGe aFl aTr aBe aLu aLo vSf vSm vCo vSh xs xl xf)] s₀.heap.size = A at hD ⊢
  have hA : ∀ q : Nat, s₀.heap.size ≤ q → A q := fun q h => by rw [← hAe]; exact Or.inr h
  have hS : va_S A s₀.heap s₀.heap [] := va_S.rf
  have hP : va_P (dC, dI) vwCl [(kX11 hx aLa aPa aGe aFl aTr aBe aLu aLo vSf vSm vCo vSh xs xl xf)] s₀.heap := hP
  have hl := lv_entry ([.ref hx]) (n := 2) (Nat.le_of_ble_eq_true rfl)
  rw [lg_entry_eq]
  generalize (lg_sl ([.ref hx]) ++ List.replicate (2 - (lg_sl ([.ref hx])).length) Slot.unset).toArray = ls at hl ⊢
  have hl : lv_has ls 2 [(0, .ref hx)] := hl
  obtain ⟨H, hH⟩ : ∃ z : Heap, z = s₀.heap := ⟨_, rfl⟩
  rw [← hH] at hP
  have hS : va_S A s₀.heap H [] := by rw [hH]; exact hS
  refine k_heap hH ?_
  have hD : va_D A [(kX11 hx aLa aPa aGe aFl aTr aBe aLu aLo vSf vSm vCo vSh xs xl xf)] := hD
  obtain ⟨locs, hlo⟩ : ∃ z : List Loc, z = [] := ⟨_, rfl⟩
  rw [← hlo] at hS ⊢
  clear hlo hH hAe hD0
  refine lv_aload_n hx₀ hb dX11_forget_0 rfl (lv_at hl 0 rfl) ?_
  refine va_get (D := (dC, dI)) (ci := 10) (v := .int xs) (C := RX11) (T := TX11) (N := 15) hx₀ hb hts inlX11 hown hK hP 0 rfl rfl 12 (by decide) (hts (.fieldLink RX11 193 "BittenStick" "seenNumber" "I") wd_690) (fun _ h9 => h9) rfl dX11_forget_1 ?_
  refine lv_istore_n (lv' := [(1, .int xs), (0, .ref hx)]) hx₀ hb dX11_forget_4 rfl hl (by decide) rfl (fun ls hl => ?_)
  refine lv_aload_n hx₀ hb dX11_forget_5 rfl (lv_at hl 1 rfl) ?_
  refine lv_iconst (v := 0) hx₀ hb dX11_forget_6 (by decide +kernel) ?_
  refine va_put (D := (dC, dI)) (ci := 10) (v := .int 0) (ty := .int) (C := RX11) (T := TX11) (N := 15) hx₀ hb hts inlX11 tyX11 tyX11_ok nmX11 hown hK hP hD hS 0 rfl rfl 12 (by decide) (hts (.fieldLink RX11 193 "BittenStick" "seenNumber" "I") wd_690) (fun _ h9 => h9) rfl (by decide +kernel) rfl rfl (Nat.le_of_ble_eq_true rfl) dX11_forget_7 ?_
  clear hP hD hS
  intro H locs hP hD hS
  replace hP := k_w2 (wt := [(kX11 hx aLa aPa aGe aFl aTr aBe aLu aLo vSf vSm vCo vSh 0 xl xf)]) hP hD rfl
  replace hD := hP.2
  replace hP := hP.1
  refine lv_iload_n hx₀ hb dX11_forget_10 rfl (lv_at hl 0 rfl) ?_
  obtain ⟨hP9, hD9⟩ := k_c2 (wc := [(kX11 hx aLa aPa aGe aFl aTr aBe aLu aLo vSf vSm vCo vSh 0 xl xf)]) hP hD [0] (by decide +kernel) rfl
  exact W.iret (v := xs) hx₀ hb hr (fun t₀ ht hW => ⟨⟨xs, (), rfl, rfl, by rw [ht]; exact hP9, va_K.moved hW.alike hK, hD9⟩, hS.F ht⟩) hS.2.2 dX11_forget_11
set_option maxHeartbeats 4000000 in
set_option maxRecDepth 100000 in
theorem j_count (l : Launch) (dC : Nat → ClassId) (dI : Nat → Nat → Nat) (cI cJ cQ : ClassId) (sz : Nat) (hx : Nat) (w1 : Int32) (aLa : Nat) (aPa : Nat) (aGe : Nat) (aFl : Nat) (aTr : Nat) (aBe : Nat) (aLu : Nat) (aLo : Nat) (vSf : Nat) (vSm : Nat) (vCo : Nat) (vSh : Nat) (xs : Int32) (xl : Int32) (xf : Int32) (vLa : Nat) (l4 : Int32) (a4 : Int32) (n4 : Int32) (vPa : Nat) (l7 : Int32) (a7 : Int32) (n7 : Int32) (vGe : Nat) (l2 : Int32) (a2 : Int32) (n2 : Int32) (vFl : Nat) (xn : Int32) : Met l yX11_count (kW yX11_count cX11_count 2 (some .int)) { frames := 0, cells := 0, slots := 0, locals := 0 } (kPre dC dI cI cJ cQ sz [.ref hx, .int w1] [(kX11 hx aLa aPa aGe aFl aTr aBe aLu aLo vSf vSm vCo vSh xs xl xf), (kX4 aLa vLa l4 a4 n4), (kX7 aPa vPa l7 a7 n7), (kX2 aGe vGe l2 a2 n2), (kX1 aFl vFl xn)]) (va_Qi (fun (r : Int32) (u : Unit) => (r = if w1 = 0 then n4 else if w1 = 1 then n7 else if w1 = 2 then n2 else if w1 = 3 then l4 else if w1 = 4 then l7 else if w1 = 5 then l2 else if w1 = 6 then xn else if w1 = 7 then xs else if w1 = 8 then xf else -2)) (fun (u : Unit) t₀ => kB dC dI cI cJ cQ (va_A [(kX11 hx aLa aPa aGe aFl aTr aBe aLu aLo vSf vSm vCo vSh xs xl xf), (kX4 aLa vLa l4 a4 n4), (kX7 aPa vPa l7 a7 n7), (kX2 aGe vGe l2 a2 n2), (kX1 aFl vFl xn)] sz) [(kX11 hx aLa aPa aGe aFl aTr aBe aLu aLo vSf vSm vCo vSh xs xl xf), (kX4 aLa vLa l4 a4 n4), (kX7 aPa vPa l7 a7 n7), (kX2 aGe vGe l2 a2 n2), (kX1 aFl vFl xn)] t₀) (va_A [(kX11 hx aLa aPa aGe aFl aTr aBe aLu aLo vSf vSm vCo vSh xs xl xf), (kX4 aLa vLa l4 a4 n4), (kX7 aPa vPa l7 a7 n7), (kX2 aGe vGe l2 a2 n2), (kX1 aFl vFl xn)] sz)) 0 0 (va_A [(kX11 hx aLa aPa aGe aFl aTr aBe aLu aLo vSf vSm vCo vSh xs xl xf), (kX4 aLa vLa l4 a4 n4), (kX7 aPa vPa l7 a7 n7), (kX2 aGe vGe l2 a2 n2), (kX1 aFl vFl xn)] sz) := by
  refine Met.ofW (cc := cX11_count) (maxL := 2) (ret := (some .int)) (by decide) rfl ?_
  intro p₀ e₀ s₀ m₀ args below meth c₀ s₁ B hml hv₀
  obtain ⟨rfl, hsz, hP, hK, hD0, hN⟩ := hv₀
  have hx₀ := B.exec
  have hb := B.bytes
  have hr := B.returns
  have hts := atoms_spec (ws := (kW yX11_count cX11_count 2 (some .int))) B.pre
  have hts := fun w h => hts w (List.mem_cons_of_mem _ h)
  have hown : s₀.vm.findClass RX11 = some m₀.cls := findClass_of_methodNamed B.named
  have hlocks := B.notSynchronized
  subst hsz
  have hD := hD0.self (sz := s₀.heap.size)
  generalize hAe : va_A [(kX11 hx aLa aPa aGe aFl aTr aBe aLu aLo vSf vSm vCo vSh xs xl xf), (kX4 aLa vLa l4 a4 n4), (kX7 aPa vPa l7 a7 n7), (kX2 aGe vGe l2 a2 n2), (kX1 aFl vFl xn)] s₀.heap.size = A at hD ⊢
  have hA : ∀ q : Nat, s₀.heap.size ≤ q → A q := fun q h => by rw [← hAe]; exact Or.inr h
  have hS : va_S A s₀.heap s₀.heap [] := va_S.rf
  have hP : va_P (dC, dI) vwCl [(kX11 hx aLa aPa aGe aFl aTr aBe aLu aLo vSf vSm vCo vSh xs xl xf), (kX4 aLa vLa l4 a4 n4), (kX7 aPa vPa l7 a7 n7), (kX2 aGe vGe l2 a2 n2), (kX1 aFl vFl xn)] s₀.heap := hP
  have hl := lv_entry ([.ref hx, .int w1]) (n := 2) (Nat.le_of_ble_eq_true rfl)
  rw [lg_entry_eq]
  generalize (lg_sl ([.ref hx, .int w1]) ++ List.replicate (2 - (lg_sl ([.ref hx, .int w1])).length) Slot.unset).toArray = ls at hl ⊢
  have hl : lv_has ls 2 [(0, .ref hx), (1, .int w1)] := hl
  obtain ⟨H, hH⟩ : ∃ z : Heap, z = s₀.heap := ⟨_, rfl⟩
  rw [← hH] at hP
  have hS : va_S A s₀.heap H [] := by rw [hH]; exact hS
  refine k_heap hH ?_
  have hD : va_D A [(kX11 hx aLa aPa aGe aFl aTr aBe aLu aLo vSf vSm vCo vSh xs xl xf), (kX4 aLa vLa l4 a4 n4), (kX7 aPa vPa l7 a7 n7), (kX2 aGe vGe l2 a2 n2), (kX1 aFl vFl xn)] := hD
  obtain ⟨locs, hlo⟩ : ∃ z : List Loc, z = [] := ⟨_, rfl⟩
  rw [← hlo] at hS ⊢
  clear hlo hH hAe hD0
  refine lv_iload_n hx₀ hb dX11_count_0 rfl (lv_at hl 1 rfl) ?_
  by_cases c_1 : w1 = 0
  · subst c_1
    refine lv_tableIn (off := 51) (tgt := 52) hx₀ hb dX11_count_1 (by decide +kernel) (by decide +kernel) (by decide +kernel) (by decide) ?_
    refine lv_aload_n hx₀ hb dX11_count_52 rfl (lv_at hl 0 rfl) ?_
    refine va_get (D := (dC, dI)) (ci := 10) (v := .ref aLa) (C := RX11) (T := TX11) (N := 15) hx₀ hb hts inlX11 hown hK hP 0 rfl rfl 0 (by decide) (hts (.fieldLink RX11 10 "BittenStick" "land" "LBittenStick$Land;") wd_15) (fun _ h9 => h9) rfl dX11_count_53 ?_
    refine va_get (D := (dC, dI)) (ci := 4) (v := .int n4) (C := RX4) (T := TX4) (N := 4) hx₀ hb hts inlX4 hown hK hP 1 rfl rfl 3 (by decide) (hts (.fieldLink RX11 108 "BittenStick$Land" "number" "I") wd_285) (fun x9 h9 => u_same (hts (.sameField "BittenStick$Land" "BittenStick$Text" "number" "I") wd_286) x9 h9) rfl dX11_count_56 ?_
    obtain ⟨hP9, hD9⟩ := k_c2 (wc := [(kX11 hx aLa aPa aGe aFl aTr aBe aLu aLo vSf vSm vCo vSh xs xl xf), (kX4 aLa vLa l4 a4 n4), (kX7 aPa vPa l7 a7 n7), (kX2 aGe vGe l2 a2 n2), (kX1 aFl vFl xn)]) hP hD [0, 1, 2, 3, 4] (by decide +kernel) rfl
    exact W.iret (v := n4) hx₀ hb hr (fun t₀ ht hW => ⟨⟨n4, (), rfl, (show (n4 : Int32) = if (0 : Int32) = 0 then n4 else if (0 : Int32) = 1 then n7 else if (0 : Int32) = 2 then n2 else if (0 : Int32) = 3 then l4 else if (0 : Int32) = 4 then l7 else if (0 : Int32) = 5 then l2 else if (0 : Int32) = 6 then xn else if (0 : Int32) = 7 then xs else if (0 : Int32) = 8 then xf else -2 from (if_pos (rfl)).symm), by rw [ht]; exact hP9, va_K.moved hW.alike hK, hD9⟩, hS.F ht⟩) hS.2.2 dX11_count_59
  by_cases c_2 : w1 = 1
  · subst c_2
    refine lv_tableIn (off := 59) (tgt := 60) hx₀ hb dX11_count_1 (by decide +kernel) (by decide +kernel) (by decide +kernel) (by decide) ?_
    refine lv_aload_n hx₀ hb dX11_count_60 rfl (lv_at hl 0 rfl) ?_
    refine va_get (D := (dC, dI)) (ci := 10) (v := .ref aPa) (C := RX11) (T := TX11) (N := 15) hx₀ hb hts inlX11 hown hK hP 0 rfl rfl 1 (by decide) (hts (.fieldLink RX11 19 "BittenStick" "passengers" "LBittenStick$Passengers;") wd_19) (fun _ h9 => h9) rfl dX11_count_61 ?_
    refine va_get (D := (dC, dI)) (ci := 7) (v := .int n7) (C := RX7) (T := TX7) (N := 4) hx₀ hb hts inlX7 hown hK hP 2 rfl rfl 3 (by decide) (hts (.fieldLink RX11 223 "BittenStick$Passengers" "number" "I") wd_834) (fun x9 h9 => u_same (hts (.sameField "BittenStick$Passengers" "BittenStick$Text" "number" "I") wd_835) x9 h9) rfl dX11_count_64 ?_
    obtain ⟨hP9, hD9⟩ := k_c2 (wc := [(kX11 hx aLa aPa aGe aFl aTr aBe aLu aLo vSf vSm vCo vSh xs xl xf), (kX4 aLa vLa l4 a4 n4), (kX7 aPa vPa l7 a7 n7), (kX2 aGe vGe l2 a2 n2), (kX1 aFl vFl xn)]) hP hD [0, 1, 2, 3, 4] (by decide +kernel) rfl
    exact W.iret (v := n7) hx₀ hb hr (fun t₀ ht hW => ⟨⟨n7, (), rfl, (show (n7 : Int32) = if (1 : Int32) = 0 then n4 else if (1 : Int32) = 1 then n7 else if (1 : Int32) = 2 then n2 else if (1 : Int32) = 3 then l4 else if (1 : Int32) = 4 then l7 else if (1 : Int32) = 5 then l2 else if (1 : Int32) = 6 then xn else if (1 : Int32) = 7 then xs else if (1 : Int32) = 8 then xf else -2 from (((if_pos (rfl)).symm).trans (if_neg (show ¬ ((1 : Int32) = 0) from (fun z => absurd z (by decide)))).symm)), by rw [ht]; exact hP9, va_K.moved hW.alike hK, hD9⟩, hS.F ht⟩) hS.2.2 dX11_count_67
  by_cases c_3 : w1 = 2
  · subst c_3
    refine lv_tableIn (off := 67) (tgt := 68) hx₀ hb dX11_count_1 (by decide +kernel) (by decide +kernel) (by decide +kernel) (by decide) ?_
    refine lv_aload_n hx₀ hb dX11_count_68 rfl (lv_at hl 0 rfl) ?_
    refine va_get (D := (dC, dI)) (ci := 10) (v := .ref aGe) (C := RX11) (T := TX11) (N := 15) hx₀ hb hts inlX11 hown hK hP 0 rfl rfl 2 (by decide) (hts (.fieldLink RX11 26 "BittenStick" "geese" "LBittenStick$Geese;") wd_23) (fun _ h9 => h9) rfl dX11_count_69 ?_
    refine va_get (D := (dC, dI)) (ci := 2) (v := .int n2) (C := RX2) (T := TX2) (N := 4) hx₀ hb hts inlX2 hown hK hP 3 rfl rfl 3 (by decide) (hts (.fieldLink RX11 185 "BittenStick$Geese" "number" "I") wd_676) (fun x9 h9 => u_same (hts (.sameField "BittenStick$Geese" "BittenStick$Text" "number" "I") wd_677) x9 h9) rfl dX11_count_72 ?_
    obtain ⟨hP9, hD9⟩ := k_c2 (wc := [(kX11 hx aLa aPa aGe aFl aTr aBe aLu aLo vSf vSm vCo vSh xs xl xf), (kX4 aLa vLa l4 a4 n4), (kX7 aPa vPa l7 a7 n7), (kX2 aGe vGe l2 a2 n2), (kX1 aFl vFl xn)]) hP hD [0, 1, 2, 3, 4] (by decide +kernel) rfl
    exact W.iret (v := n2) hx₀ hb hr (fun t₀ ht hW => ⟨⟨n2, (), rfl, (show (n2 : Int32) = if (2 : Int32) = 0 then n4 else if (2 : Int32) = 1 then n7 else if (2 : Int32) = 2 then n2 else if (2 : Int32) = 3 then l4 else if (2 : Int32) = 4 then l7 else if (2 : Int32) = 5 then l2 else if (2 : Int32) = 6 then xn else if (2 : Int32) = 7 then xs else if (2 : Int32) = 8 then xf else -2 from (((((if_pos (rfl)).symm).trans (if_neg (show ¬ ((2 : Int32) = 1) from (fun z => absurd z (by decide)))).symm)).trans (if_neg (show ¬ ((2 : Int32) = 0) from (fun z => absurd z (by decide)))).symm)), by rw [ht]; exact hP9, va_K.moved hW.alike hK, hD9⟩, hS.F ht⟩) hS.2.2 dX11_count_75
  by_cases c_4 : w1 = 3
  · subst c_4
    refine lv_tableIn (off := 75) (tgt := 76) hx₀ hb dX11_count_1 (by decide +kernel) (by decide +kernel) (by decide +kernel) (by decide) ?_
    refine lv_aload_n hx₀ hb dX11_count_76 rfl (lv_at hl 0 rfl) ?_
    refine va_get (D := (dC, dI)) (ci := 10) (v := .ref aLa) (C := RX11) (T := TX11) (N := 15) hx₀ hb hts inlX11 hown hK hP 0 rfl rfl 0 (by decide) (hts (.fieldLink RX11 10 "BittenStick" "land" "LBittenStick$Land;") wd_15) (fun _ h9 => h9) rfl dX11_count_77 ?_
    refine va_get (D := (dC, dI)) (ci := 4) (v := .int l4) (C := RX4) (T := TX4) (N := 4) hx₀ hb hts inlX4 hown hK hP 1 rfl rfl 1 (by decide) (hts (.fieldLink RX11 266 "BittenStick$Land" "length" "I") wd_951) (fun x9 h9 => u_same (hts (.sameField "BittenStick$Land" "BittenStick$Text" "length" "I") wd_952) x9 h9) rfl dX11_count_80 ?_
    obtain ⟨hP9, hD9⟩ := k_c2 (wc := [(kX11 hx aLa aPa aGe aFl aTr aBe aLu aLo vSf vSm vCo vSh xs xl xf), (kX4 aLa vLa l4 a4 n4), (kX7 aPa vPa l7 a7 n7), (kX2 aGe vGe l2 a2 n2), (kX1 aFl vFl xn)]) hP hD [0, 1, 2, 3, 4] (by decide +kernel) rfl
    exact W.iret (v := l4) hx₀ hb hr (fun t₀ ht hW => ⟨⟨l4, (), rfl, (show (l4 : Int32) = if (3 : Int32) = 0 then n4 else if (3 : Int32) = 1 then n7 else if (3 : Int32) = 2 then n2 else if (3 : Int32) = 3 then l4 else if (3 : Int32) = 4 then l7 else if (3 : Int32) = 5 then l2 else if (3 : Int32) = 6 then xn else if (3 : Int32) = 7 then xs else if (3 : Int32) = 8 then xf else -2 from (((((((if_pos (rfl)).symm).trans (if_neg (show ¬ ((3 : Int32) = 2) from (fun z => absurd z (by decide)))).symm)).trans (if_neg (show ¬ ((3 : Int32) = 1) from (fun z => absurd z (by decide)))).symm)).trans (if_neg (show ¬ ((3 : Int32) = 0) from (fun z => absurd z (by decide)))).symm)), by rw [ht]; exact hP9, va_K.moved hW.alike hK, hD9⟩, hS.F ht⟩) hS.2.2 dX11_count_83
  by_cases c_5 : w1 = 4
  · subst c_5
    refine lv_tableIn (off := 83) (tgt := 84) hx₀ hb dX11_count_1 (by decide +kernel) (by decide +kernel) (by decide +kernel) (by decide) ?_
    refine lv_aload_n hx₀ hb dX11_count_84 rfl (lv_at hl 0 rfl) ?_
    refine va_get (D := (dC, dI)) (ci := 10) (v := .ref aPa) (C := RX11) (T := TX11) (N := 15) hx₀ hb hts inlX11 hown hK hP 0 rfl rfl 1 (by decide) (hts (.fieldLink RX11 19 "BittenStick" "passengers" "LBittenStick$Passengers;") wd_19) (fun _ h9 => h9) rfl dX11_count_85 ?_
    refine va_get (D := (dC, dI)) (ci := 7) (v := .int l7) (C := RX7) (T := TX7) (N := 4) hx₀ hb hts inlX7 hown hK hP 2 rfl rfl 1 (by decide) (hts (.fieldLink RX11 267 "BittenStick$Passengers" "length" "I") wd_953) (fun x9 h9 => u_same (hts (.sameField "BittenStick$Passengers" "BittenStick$Text" "length" "I") wd_954) x9 h9) rfl dX11_count_88 ?_
    obtain ⟨hP9, hD9⟩ := k_c2 (wc := [(kX11 hx aLa aPa aGe aFl aTr aBe aLu aLo vSf vSm vCo vSh xs xl xf), (kX4 aLa vLa l4 a4 n4), (kX7 aPa vPa l7 a7 n7), (kX2 aGe vGe l2 a2 n2), (kX1 aFl vFl xn)]) hP hD [0, 1, 2, 3, 4] (by decide +kernel) rfl
    exact W.iret (v := l7) hx₀ hb hr (fun t₀ ht hW => ⟨⟨l7, (), rfl, (show (l7 : Int32) = if (4 : Int32) = 0 then n4 else if (4 : Int32) = 1 then n7 else if (4 : Int32) = 2 then n2 else if (4 : Int32) = 3 then l4 else if (4 : Int32) = 4 then l7 else if (4 : Int32) = 5 then l2 else if (4 : Int32) = 6 then xn else if (4 : Int32) = 7 then xs else if (4 : Int32) = 8 then xf else -2 from (((((((((if_pos (rfl)).symm).trans (if_neg (show ¬ ((4 : Int32) = 3) from (fun z => absurd z (by decide)))).symm)).trans (if_neg (show ¬ ((4 : Int32) = 2) from (fun z => absurd z (by decide)))).symm)).trans (if_neg (show ¬ ((4 : Int32) = 1) from (fun z => absurd z (by decide)))).symm)).trans (if_neg (show ¬ ((4 : Int32) = 0) from (fun z => absurd z (by decide)))).symm)), by rw [ht]; exact hP9, va_K.moved hW.alike hK, hD9⟩, hS.F ht⟩) hS.2.2 dX11_count_91
  by_cases c_6 : w1 = 5
  · subst c_6
    refine lv_tableIn (off := 91) (tgt := 92) hx₀ hb dX11_count_1 (by decide +kernel) (by decide +kernel) (by decide +kernel) (by decide) ?_
    refine lv_aload_n hx₀ hb dX11_count_92 rfl (lv_at hl 0 rfl) ?_
    refine va_get (D := (dC, dI)) (ci := 10) (v := .ref aGe) (C := RX11) (T := TX11) (N := 15) hx₀ hb hts inlX11 hown hK hP 0 rfl rfl 2 (by decide) (hts (.fieldLink RX11 26 "BittenStick" "geese" "LBittenStick$Geese;") wd_23) (fun _ h9 => h9) rfl dX11_count_93 ?_
    refine va_get (D := (dC, dI)) (ci := 2) (v := .int l2) (C := RX2) (T := TX2) (N := 4) hx₀ hb hts inlX2 hown hK hP 3 rfl rfl 1 (by decide) (hts (.fieldLink RX11 268 "BittenStick$Geese" "length" "I") wd_955) (fun x9 h9 => u_same (hts (.sameField "BittenStick$Geese" "BittenStick$Text" "length" "I") wd_956) x9 h9) rfl dX11_count_96 ?_
    obtain ⟨hP9, hD9⟩ := k_c2 (wc := [(kX11 hx aLa aPa aGe aFl aTr aBe aLu aLo vSf vSm vCo vSh xs xl xf), (kX4 aLa vLa l4 a4 n4), (kX7 aPa vPa l7 a7 n7), (kX2 aGe vGe l2 a2 n2), (kX1 aFl vFl xn)]) hP hD [0, 1, 2, 3, 4] (by decide +kernel) rfl
    exact W.iret (v := l2) hx₀ hb hr (fun t₀ ht hW => ⟨⟨l2, (), rfl, (show (l2 : Int32) = if (5 : Int32) = 0 then n4 else if (5 : Int32) = 1 then n7 else if (5 : Int32) = 2 then n2 else if (5 : Int32) = 3 then l4 else if (5 : Int32) = 4 then l7 else if (5 : Int32) = 5 then l2 else if (5 : Int32) = 6 then xn else if (5 : Int32) = 7 then xs else if (5 : Int32) = 8 then xf else -2 from (((((((((((if_pos (rfl)).symm).trans (if_neg (show ¬ ((5 : Int32) = 4) from (fun z => absurd z (by decide)))).symm)).trans (if_neg (show ¬ ((5 : Int32) = 3) from (fun z => absurd z (by decide)))).symm)).trans (if_neg (show ¬ ((5 : Int32) = 2) from (fun z => absurd z (by decide)))).symm)).trans (if_neg (show ¬ ((5 : Int32) = 1) from (fun z => absurd z (by decide)))).symm)).trans (if_neg (show ¬ ((5 : Int32) = 0) from (fun z => absurd z (by decide)))).symm)), by rw [ht]; exact hP9, va_K.moved hW.alike hK, hD9⟩, hS.F ht⟩) hS.2.2 dX11_count_99
  by_cases c_7 : w1 = 6
  · subst c_7
    refine lv_tableIn (off := 99) (tgt := 100) hx₀ hb dX11_count_1 (by decide +kernel) (by decide +kernel) (by decide +kernel) (by decide) ?_
    refine lv_aload_n hx₀ hb dX11_count_100 rfl (lv_at hl 0 rfl) ?_
    refine va_get (D := (dC, dI)) (ci := 10) (v := .ref aFl) (C := RX11) (T := TX11) (N := 15) hx₀ hb hts inlX11 hown hK hP 0 rfl rfl 3 (by decide) (hts (.fieldLink RX11 33 "BittenStick" "flights" "LBittenStick$Flights;") wd_27) (fun _ h9 => h9) rfl dX11_count_101 ?_
    refine va_get (D := (dC, dI)) (ci := 1) (v := .int xn) (C := RX1) (T := TX1) (N := 2) hx₀ hb hts inlX1 hown hK hP 4 rfl rfl 1 (by decide) (hts (.fieldLink RX11 128 "BittenStick$Flights" "number" "I") wd_369) (fun _ h9 => h9) rfl dX11_count_104 ?_
    obtain ⟨hP9, hD9⟩ := k_c2 (wc := [(kX11 hx aLa aPa aGe aFl aTr aBe aLu aLo vSf vSm vCo vSh xs xl xf), (kX4 aLa vLa l4 a4 n4), (kX7 aPa vPa l7 a7 n7), (kX2 aGe vGe l2 a2 n2), (kX1 aFl vFl xn)]) hP hD [0, 1, 2, 3, 4] (by decide +kernel) rfl
    exact W.iret (v := xn) hx₀ hb hr (fun t₀ ht hW => ⟨⟨xn, (), rfl, (show (xn : Int32) = if (6 : Int32) = 0 then n4 else if (6 : Int32) = 1 then n7 else if (6 : Int32) = 2 then n2 else if (6 : Int32) = 3 then l4 else if (6 : Int32) = 4 then l7 else if (6 : Int32) = 5 then l2 else if (6 : Int32) = 6 then xn else if (6 : Int32) = 7 then xs else if (6 : Int32) = 8 then xf else -2 from (((((((((((((if_pos (rfl)).symm).trans (if_neg (show ¬ ((6 : Int32) = 5) from (fun z => absurd z (by decide)))).symm)).trans (if_neg (show ¬ ((6 : Int32) = 4) from (fun z => absurd z (by decide)))).symm)).trans (if_neg (show ¬ ((6 : Int32) = 3) from (fun z => absurd z (by decide)))).symm)).trans (if_neg (show ¬ ((6 : Int32) = 2) from (fun z => absurd z (by decide)))).symm)).trans (if_neg (show ¬ ((6 : Int32) = 1) from (fun z => absurd z (by decide)))).symm)).trans (if_neg (show ¬ ((6 : Int32) = 0) from (fun z => absurd z (by decide)))).symm)), by rw [ht]; exact hP9, va_K.moved hW.alike hK, hD9⟩, hS.F ht⟩) hS.2.2 dX11_count_107
  by_cases c_8 : w1 = 7
  · subst c_8
    refine lv_tableIn (off := 107) (tgt := 108) hx₀ hb dX11_count_1 (by decide +kernel) (by decide +kernel) (by decide +kernel) (by decide) ?_
    refine lv_aload_n hx₀ hb dX11_count_108 rfl (lv_at hl 0 rfl) ?_
    refine va_get (D := (dC, dI)) (ci := 10) (v := .int xs) (C := RX11) (T := TX11) (N := 15) hx₀ hb hts inlX11 hown hK hP 0 rfl rfl 12 (by decide) (hts (.fieldLink RX11 193 "BittenStick" "seenNumber" "I") wd_690) (fun _ h9 => h9) rfl dX11_count_109 ?_
    obtain ⟨hP9, hD9⟩ := k_c2 (wc := [(kX11 hx aLa aPa aGe aFl aTr aBe aLu aLo vSf vSm vCo vSh xs xl xf), (kX4 aLa vLa l4 a4 n4), (kX7 aPa vPa l7 a7 n7), (kX2 aGe vGe l2 a2 n2), (kX1 aFl vFl xn)]) hP hD [0, 1, 2, 3, 4] (by decide +kernel) rfl
    exact W.iret (v := xs) hx₀ hb hr (fun t₀ ht hW => ⟨⟨xs, (), rfl, (show (xs : Int32) = if (7 : Int32) = 0 then n4 else if (7 : Int32) = 1 then n7 else if (7 : Int32) = 2 then n2 else if (7 : Int32) = 3 then l4 else if (7 : Int32) = 4 then l7 else if (7 : Int32) = 5 then l2 else if (7 : Int32) = 6 then xn else if (7 : Int32) = 7 then xs else if (7 : Int32) = 8 then xf else -2 from (((((((((((((((if_pos (rfl)).symm).trans (if_neg (show ¬ ((7 : Int32) = 6) from (fun z => absurd z (by decide)))).symm)).trans (if_neg (show ¬ ((7 : Int32) = 5) from (fun z => absurd z (by decide)))).symm)).trans (if_neg (show ¬ ((7 : Int32) = 4) from (fun z => absurd z (by decide)))).symm)).trans (if_neg (show ¬ ((7 : Int32) = 3) from (fun z => absurd z (by decide)))).symm)).trans (if_neg (show ¬ ((7 : Int32) = 2) from (fun z => absurd z (by decide)))).symm)).trans (if_neg (show ¬ ((7 : Int32) = 1) from (fun z => absurd z (by decide)))).symm)).trans (if_neg (show ¬ ((7 : Int32) = 0) from (fun z => absurd z (by decide)))).symm)), by rw [ht]; exact hP9, va_K.moved hW.alike hK, hD9⟩, hS.F ht⟩) hS.2.2 dX11_count_112
  by_cases c_9 : w1 = 8
  · subst c_9
    refine lv_tableIn (off := 112) (tgt := 113) hx₀ hb dX11_count_1 (by decide +kernel) (by decide +kernel) (by decide +kernel) (by decide) ?_
    refine lv_aload_n hx₀ hb dX11_count_113 rfl (lv_at hl 0 rfl) ?_
    refine va_get (D := (dC, dI)) (ci := 10) (v := .int xf) (C := RX11) (T := TX11) (N := 15) hx₀ hb hts inlX11 hown hK hP 0 rfl rfl 14 (by decide) (hts (.fieldLink RX11 269 "BittenStick" "finding" "I") wd_388) (fun _ h9 => h9) rfl dX11_count_114 ?_
    obtain ⟨hP9, hD9⟩ := k_c2 (wc := [(kX11 hx aLa aPa aGe aFl aTr aBe aLu aLo vSf vSm vCo vSh xs xl xf), (kX4 aLa vLa l4 a4 n4), (kX7 aPa vPa l7 a7 n7), (kX2 aGe vGe l2 a2 n2), (kX1 aFl vFl xn)]) hP hD [0, 1, 2, 3, 4] (by decide +kernel) rfl
    exact W.iret (v := xf) hx₀ hb hr (fun t₀ ht hW => ⟨⟨xf, (), rfl, (show (xf : Int32) = if (8 : Int32) = 0 then n4 else if (8 : Int32) = 1 then n7 else if (8 : Int32) = 2 then n2 else if (8 : Int32) = 3 then l4 else if (8 : Int32) = 4 then l7 else if (8 : Int32) = 5 then l2 else if (8 : Int32) = 6 then xn else if (8 : Int32) = 7 then xs else if (8 : Int32) = 8 then xf else -2 from (((((((((((((((((if_pos (rfl)).symm).trans (if_neg (show ¬ ((8 : Int32) = 7) from (fun z => absurd z (by decide)))).symm)).trans (if_neg (show ¬ ((8 : Int32) = 6) from (fun z => absurd z (by decide)))).symm)).trans (if_neg (show ¬ ((8 : Int32) = 5) from (fun z => absurd z (by decide)))).symm)).trans (if_neg (show ¬ ((8 : Int32) = 4) from (fun z => absurd z (by decide)))).symm)).trans (if_neg (show ¬ ((8 : Int32) = 3) from (fun z => absurd z (by decide)))).symm)).trans (if_neg (show ¬ ((8 : Int32) = 2) from (fun z => absurd z (by decide)))).symm)).trans (if_neg (show ¬ ((8 : Int32) = 1) from (fun z => absurd z (by decide)))).symm)).trans (if_neg (show ¬ ((8 : Int32) = 0) from (fun z => absurd z (by decide)))).symm)), by rw [ht]; exact hP9, va_K.moved hW.alike hK, hD9⟩, hS.F ht⟩) hS.2.2 dX11_count_117
  refine lv_tableOut (tgt := 118) hx₀ hb dX11_count_1 (k_out9 c_1 c_2 c_3 c_4 c_5 c_6 c_7 c_8 c_9) (by decide) ?_
  refine lv_bipush (v := (-2)) hx₀ hb dX11_count_118 (by decide +kernel) ?_
  obtain ⟨hP9, hD9⟩ := k_c2 (wc := [(kX11 hx aLa aPa aGe aFl aTr aBe aLu aLo vSf vSm vCo vSh xs xl xf), (kX4 aLa vLa l4 a4 n4), (kX7 aPa vPa l7 a7 n7), (kX2 aGe vGe l2 a2 n2), (kX1 aFl vFl xn)]) hP hD [0, 1, 2, 3, 4] (by decide +kernel) rfl
  exact W.iret (v := (-2)) hx₀ hb hr (fun t₀ ht hW => ⟨⟨(-2), (), rfl, (show ((-2) : Int32) = if w1 = 0 then n4 else if w1 = 1 then n7 else if w1 = 2 then n2 else if w1 = 3 then l4 else if w1 = 4 then l7 else if w1 = 5 then l2 else if w1 = 6 then xn else if w1 = 7 then xs else if w1 = 8 then xf else -2 from (((((((((((((((((if_neg (c_9)).symm).trans (if_neg (c_8)).symm)).trans (if_neg (c_7)).symm)).trans (if_neg (c_6)).symm)).trans (if_neg (c_5)).symm)).trans (if_neg (c_4)).symm)).trans (if_neg (c_3)).symm)).trans (if_neg (c_2)).symm)).trans (if_neg (c_1)).symm)), by rw [ht]; exact hP9, va_K.moved hW.alike hK, hD9⟩, hS.F ht⟩) hS.2.2 dX11_count_120
