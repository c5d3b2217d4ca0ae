theorem lf_c_textOf_1 (aLa : Nat) (aPa : Nat) (aGe : Nat)  : (some aLa : Option Nat) = if (0 : Int32) = 0 then some aLa else if (0 : Int32) = 1 then some aPa else if (0 : Int32) = 2 then some aGe else none := by
  repeat first | rfl | rw [if_pos (by (first | omega | (simp only [Int64.le_iff_toInt_le, Int64.lt_iff_toInt_lt, Int32.le_iff_toInt_le, Int32.lt_iff_toInt_lt, ← Int32.toInt_inj, ← Int64.toInt_inj, Int32.toInt_toInt64, (show (0 : Int32).toInt = 0 from by decide), (show (0 : Int64).toInt = 0 from by decide), (show (1 : Int32).toInt = 1 from by decide), (show (1 : Int64).toInt = 1 from by decide), (show (2 : Int32).toInt = 2 from by decide), (show (2 : Int64).toInt = 2 from by decide)] at *; omega)))] | rw [if_neg (by (first | omega | (simp only [Int64.le_iff_toInt_le, Int64.lt_iff_toInt_lt, Int32.le_iff_toInt_le, Int32.lt_iff_toInt_lt, ← Int32.toInt_inj, ← Int64.toInt_inj, Int32.toInt_toInt64, (show (0 : Int32).toInt = 0 from by decide), (show (0 : Int64).toInt = 0 from by decide), (show (1 : Int32).toInt = 1 from by decide), (show (1 : Int64).toInt = 1 from by decide), (show (2 : Int32).toInt = 2 from by decide), (show (2 : Int64).toInt = 2 from by decide)] at *; omega)))]
theorem lf_c_textOf_2 (aPa : Nat) (aLa : Nat) (aGe : Nat)  : (some aPa : Option Nat) = if (1 : Int32) = 0 then some aLa else if (1 : Int32) = 1 then some aPa else if (1 : Int32) = 2 then some aGe else none := by
  repeat first | rfl | rw [if_pos (by (first | omega | (simp only [Int64.le_iff_toInt_le, Int64.lt_iff_toInt_lt, Int32.le_iff_toInt_le, Int32.lt_iff_toInt_lt, ← Int32.toInt_inj, ← Int64.toInt_inj, Int32.toInt_toInt64, (show (0 : Int32).toInt = 0 from by decide), (show (0 : Int64).toInt = 0 from by decide), (show (1 : Int32).toInt = 1 from by decide), (show (1 : Int64).toInt = 1 from by decide), (show (2 : Int32).toInt = 2 from by decide), (show (2 : Int64).toInt = 2 from by decide)] at *; omega)))] | rw [if_neg (by (first | omega | (simp only [Int64.le_iff_toInt_le, Int64.lt_iff_toInt_lt, Int32.le_iff_toInt_le, Int32.lt_iff_toInt_lt, ← Int32.toInt_inj, ← Int64.toInt_inj, Int32.toInt_toInt64, (show (0 : Int32).toInt = 0 from by decide), (show (0 : Int64).toInt = 0 from by decide), (show (1 : Int32).toInt = 1 from by decide), (show (1 : Int64).toInt = 1 from by decide), (show (2 : Int32).toInt = 2 from by decide), (show (2 : Int64).toInt = 2 from by decide)] at *; omega)))]
theorem lf_c_textOf_3 (aGe : Nat) (aLa : Nat) (aPa : Nat)  : (some aGe : Option Nat) = if (2 : Int32) = 0 then some aLa else if (2 : Int32) = 1 then some aPa else if (2 : Int32) = 2 then some aGe else none := by
  repeat first | rfl | rw [if_pos (by (first | omega | (simp only [Int64.le_iff_toInt_le, Int64.lt_iff_toInt_lt, Int32.le_iff_toInt_le, Int32.lt_iff_toInt_lt, ← Int32.toInt_inj, ← Int64.toInt_inj, Int32.toInt_toInt64, (show (0 : Int32).toInt = 0 from by decide), (show (0 : Int64).toInt = 0 from by decide), (show (1 : Int32).toInt = 1 from by decide), (show (1 : Int64).toInt = 1 from by decide), (show (2 : Int32).toInt = 2 from by decide), (show (2 : Int64).toInt = 2 from by decide)] at *; omega)))] | rw [if_neg (by (first | omega | (simp only [Int64.le_iff_toInt_le, Int64.lt_iff_toInt_lt, Int32.le_iff_toInt_le, Int32.lt_iff_toInt_lt, ← Int32.toInt_inj, ← Int64.toInt_inj, Int32.toInt_toInt64, (show (0 : Int32).toInt = 0 from by decide), (show (0 : Int64).toInt = 0 from by decide), (show (1 : Int32).toInt = 1 from by decide), (show (1 : Int64).toInt = 1 from by decide), (show (2 : Int32).toInt = 2 from by decide), (show (2 : Int64).toInt = 2 from by decide)] at *; omega)))]
theorem lf_c_textOf_4 (t : Int32) (aLa : Nat) (aPa : Nat) (aGe : Nat) (c_1 : ¬ t = 0) (c_2 : ¬ t = 1) (c_3 : ¬ t = 2) : (none : Option Nat) = if t = 0 then some aLa else if t = 1 then some aPa else if t = 2 then some aGe else none := by
  repeat first | rfl | rw [if_pos (by (first | omega | (simp only [Int64.le_iff_toInt_le, Int64.lt_iff_toInt_lt, Int32.le_iff_toInt_le, Int32.lt_iff_toInt_lt, ← Int32.toInt_inj, ← Int64.toInt_inj, Int32.toInt_toInt64, (show (0 : Int32).toInt = 0 from by decide), (show (0 : Int64).toInt = 0 from by decide), (show (1 : Int32).toInt = 1 from by decide), (show (1 : Int64).toInt = 1 from by decide), (show (2 : Int32).toInt = 2 from by decide), (show (2 : Int64).toInt = 2 from by decide)] at *; omega)))] | rw [if_neg (by (first | omega | (simp only [Int64.le_iff_toInt_le, Int64.lt_iff_toInt_lt, Int32.le_iff_toInt_le, Int32.lt_iff_toInt_lt, ← Int32.toInt_inj, ← Int64.toInt_inj, Int32.toInt_toInt64, (show (0 : Int32).toInt = 0 from by decide), (show (0 : Int64).toInt = 0 from by decide), (show (1 : Int32).toInt = 1 from by decide), (show (1 : Int64).toInt = 1 from by decide), (show (2 : Int32).toInt = 2 from by decide), (show (2 : Int64).toInt = 2 from by decide)] at *; omega)))]
set_option maxHeartbeats 4000000 in
set_option maxRecDepth 100000 in
theorem c_textOf (l : Launch) (dC : Nat → ClassId) (dI : Nat → Nat → Nat) (cI cJ cQ : ClassId) (sz : Nat) (hx : Nat) (t : Int32) (aLa : Nat) (aPa : Nat) (aGe : Nat) (aFl : Nat) (aTr : Nat) (aBe : Nat) (aLu : Nat) (aLo : Nat) (vSf : Nat) (vSm : Nat) (vCo : Nat) (vSh : Nat) : Met l yX11_textOf (kW yX11_textOf cX11_textOf 2 (some (.object "BittenStick$Text"))) { frames := 0, cells := 0, slots := 0, locals := 0 } (kPre dC dI cI cJ cQ sz [.ref hx, .int t] [(hx, .inr (10, [.ref aLa, .ref aPa, .ref aGe, .ref aFl, .ref aTr, .ref aBe, .ref aLu, .ref aLo, .ref vSf, .ref vSm, .ref vCo, .ref vSh, .int 0, .int 0, .int 0]))]) (va_Qq (fun (r : Option Nat) (_ : Unit) => r = if t = 0 then some aLa else if t = 1 then some aPa else if t = 2 then some aGe else none) (fun _ t₀ => kB dC dI cI cJ cQ (va_A [(hx, .inr (10, [.ref aLa, .ref aPa, .ref aGe, .ref aFl, .ref aTr, .ref aBe, .ref aLu, .ref aLo, .ref vSf, .ref vSm, .ref vCo, .ref vSh, .int 0, .int 0, .int 0]))] sz) [(hx, .inr (10, [.ref aLa, .ref aPa, .ref aGe, .ref aFl, .ref aTr, .ref aBe, .ref aLu, .ref aLo, .ref vSf, .ref vSm, .ref vCo, .ref vSh, .int 0, .int 0, .int 0]))] t₀) (va_A [(hx, .inr (10, [.ref aLa, .ref aPa, .ref aGe, .ref aFl, .ref aTr, .ref aBe, .ref aLu, .ref aLo, .ref vSf, .ref vSm, .ref vCo, .ref vSh, .int 0, .int 0, .int 0]))] sz)) 0 0 (va_A [(hx, .inr (10, [.ref aLa, .ref aPa, .ref aGe, .ref aFl, .ref aTr, .ref aBe, .ref aLu, .ref aLo, .ref vSf, .ref vSm, .ref vCo, .ref vSh, .int 0, .int 0, .int 0]))] sz) := by
  refine Met.ofW (cc := cX11_textOf) (maxL := 2) (ret := (some (.object "BittenStick$Text"))) (by decide) rfl ?_
  intro p₀ e₀ s₀ m₀ args below meth c₀ s₁ B hml hv₀
  obtain ⟨rfl, hsz, hP, hK, hD0, hN⟩ := hv₀
  have hx₀ := B.exec
  have hb := B.bytes
  have hr := B.returns
  have hts := atoms_spec (ws := (kW yX11_textOf cX11_textOf 2 (some (.object "BittenStick$Text")))) B.pre
  have hts := fun w h => hts w (List.mem_cons_of_mem _ h)
  have hown : s₀.vm.findClass RX11 = some m₀.cls := findClass_of_methodNamed B.named
  have hlocks := B.notSynchronized
  subst hsz
  have hD := hD0.self (sz := s₀.heap.size)
  generalize hAe : va_A [(hx, .inr (10, [.ref aLa, .ref aPa, .ref aGe, .ref aFl, .ref aTr, .ref aBe, .ref aLu, .ref aLo, .ref vSf, .ref vSm, .ref vCo, .ref vSh, .int 0, .int 0, .int 0]))] s₀.heap.size = A at hD ⊢
  have hA : ∀ q : Nat, s₀.heap.size ≤ q → A q := fun q h => by rw [← hAe]; exact Or.inr h
  have hS : va_S A s₀.heap s₀.heap [] := va_S.rf
  have hP : va_P (dC, dI) vwCl [(hx, .inr (10, [.ref aLa, .ref aPa, .ref aGe, .ref aFl, .ref aTr, .ref aBe, .ref aLu, .ref aLo, .ref vSf, .ref vSm, .ref vCo, .ref vSh, .int 0, .int 0, .int 0]))] s₀.heap := hP
  have hl := lv_entry ([.ref hx, .int t]) (n := 2) (Nat.le_of_ble_eq_true rfl)
  rw [lg_entry_eq]
  generalize (lg_sl ([.ref hx, .int t]) ++ List.replicate (2 - (lg_sl ([.ref hx, .int t])).length) Slot.unset).toArray = ls at hl ⊢
  have hl : lv_has ls 2 [(0, .ref hx), (1, .int t)] := hl
  obtain ⟨H, hH⟩ : ∃ z : Heap, z = s₀.heap := ⟨_, rfl⟩
  rw [← hH] at hP
  have hS : va_S A s₀.heap H [] := by rw [hH]; exact hS
  refine k_heap hH ?_
  have hD : va_D A [(hx, .inr (10, [.ref aLa, .ref aPa, .ref aGe, .ref aFl, .ref aTr, .ref aBe, .ref aLu, .ref aLo, .ref vSf, .ref vSm, .ref vCo, .ref vSh, .int 0, .int 0, .int 0]))] := hD
  obtain ⟨locs, hlo⟩ : ∃ z : List Loc, z = [] := ⟨_, rfl⟩
  rw [← hlo] at hS ⊢
  clear hlo hH hAe hD0
  refine lv_iload_n hx₀ hb dX11_textOf_0 rfl (lv_at hl 1 rfl) ?_
  by_cases c_1 : t = 0
  · subst c_1
    refine lv_tableIn (off := 27) (tgt := 28) hx₀ hb dX11_textOf_1 (by decide +kernel) (by decide +kernel) (by decide +kernel) (by decide) ?_
    refine lv_aload_n hx₀ hb dX11_textOf_28 rfl (lv_at hl 0 rfl) ?_
    refine va_get (D := (dC, dI)) (ci := 10) (v := .ref aLa) (C := RX11) (T := TX11) (N := 15) hx₀ hb hts inlX11 hown hK hP 0 rfl rfl 0 (by decide) (hts (.fieldLink RX11 10 "BittenStick" "land" "LBittenStick$Land;") wd_15) (fun _ h9 => h9) rfl dX11_textOf_29 ?_
    have hP9 := hP.sub (ws' := [(hx, .inr (10, [.ref aLa, .ref aPa, .ref aGe, .ref aFl, .ref aTr, .ref aBe, .ref aLu, .ref aLo, .ref vSf, .ref vSm, .ref vCo, .ref vSh, .int 0, .int 0, .int 0]))]) [0] rfl
    have hD9 := hD.sub (ws' := [(hx, .inr (10, [.ref aLa, .ref aPa, .ref aGe, .ref aFl, .ref aTr, .ref aBe, .ref aLu, .ref aLo, .ref vSf, .ref vSm, .ref vCo, .ref vSh, .int 0, .int 0, .int 0]))]) [0] (by decide) rfl
    exact W.aret (v := .ref aLa) hx₀ hb hr (Or.inl ⟨_, rfl⟩) (Or.inr ⟨_, rfl⟩) (fun t₀ ht hW => ⟨⟨(some aLa), (), rfl, (lf_c_textOf_1 aLa aPa aGe ), by rw [ht]; exact hP9, va_K.moved hW.alike hK, hD9⟩, hS.F ht⟩) hS.2.2 dX11_textOf_32
  by_cases c_2 : t = 1
  · subst c_2
    refine lv_tableIn (off := 32) (tgt := 33) hx₀ hb dX11_textOf_1 (by decide +kernel) (by decide +kernel) (by decide +kernel) (by decide) ?_
    refine lv_aload_n hx₀ hb dX11_textOf_33 rfl (lv_at hl 0 rfl) ?_
    refine va_get (D := (dC, dI)) (ci := 10) (v := .ref aPa) (C := RX11) (T := TX11) (N := 15) hx₀ hb hts inlX11 hown hK hP 0 rfl rfl 1 (by decide) (hts (.fieldLink RX11 19 "BittenStick" "passengers" "LBittenStick$Passengers;") wd_19) (fun _ h9 => h9) rfl dX11_textOf_34 ?_
    have hP9 := hP.sub (ws' := [(hx, .inr (10, [.ref aLa, .ref aPa, .ref aGe, .ref aFl, .ref aTr, .ref aBe, .ref aLu, .ref aLo, .ref vSf, .ref vSm, .ref vCo, .ref vSh, .int 0, .int 0, .int 0]))]) [0] rfl
    have hD9 := hD.sub (ws' := [(hx, .inr (10, [.ref aLa, .ref aPa, .ref aGe, .ref aFl, .ref aTr, .ref aBe, .ref aLu, .ref aLo, .ref vSf, .ref vSm, .ref vCo, .ref vSh, .int 0, .int 0, .int 0]))]) [0] (by decide) rfl
    exact W.aret (v := .ref aPa) hx₀ hb hr (Or.inl ⟨_, rfl⟩) (Or.inr ⟨_, rfl⟩) (fun t₀ ht hW => ⟨⟨(some aPa), (), rfl, (lf_c_textOf_2 aPa aLa aGe ), by rw [ht]; exact hP9, va_K.moved hW.alike hK, hD9⟩, hS.F ht⟩) hS.2.2 dX11_textOf_37
  by_cases c_3 : t = 2
  · subst c_3
    refine lv_tableIn (off := 37) (tgt := 38) hx₀ hb dX11_textOf_1 (by decide +kernel) (by decide +kernel) (by decide +kernel) (by decide) ?_
    refine lv_aload_n hx₀ hb dX11_textOf_38 rfl (lv_at hl 0 rfl) ?_
    refine va_get (D := (dC, dI)) (ci := 10) (v := .ref aGe) (C := RX11) (T := TX11) (N := 15) hx₀ hb hts inlX11 hown hK hP 0 rfl rfl 2 (by decide) (hts (.fieldLink RX11 26 "BittenStick" "geese" "LBittenStick$Geese;") wd_23) (fun _ h9 => h9) rfl dX11_textOf_39 ?_
    have hP9 := hP.sub (ws' := [(hx, .inr (10, [.ref aLa, .ref aPa, .ref aGe, .ref aFl, .ref aTr, .ref aBe, .ref aLu, .ref aLo, .ref vSf, .ref vSm, .ref vCo, .ref vSh, .int 0, .int 0, .int 0]))]) [0] rfl
    have hD9 := hD.sub (ws' := [(hx, .inr (10, [.ref aLa, .ref aPa, .ref aGe, .ref aFl, .ref aTr, .ref aBe, .ref aLu, .ref aLo, .ref vSf, .ref vSm, .ref vCo, .ref vSh, .int 0, .int 0, .int 0]))]) [0] (by decide) rfl
    exact W.aret (v := .ref aGe) hx₀ hb hr (Or.inl ⟨_, rfl⟩) (Or.inr ⟨_, rfl⟩) (fun t₀ ht hW => ⟨⟨(some aGe), (), rfl, (lf_c_textOf_3 aGe aLa aPa ), by rw [ht]; exact hP9, va_K.moved hW.alike hK, hD9⟩, hS.F ht⟩) hS.2.2 dX11_textOf_42
  refine lv_tableOut (tgt := 43) hx₀ hb dX11_textOf_1 (k_out3 c_1 c_2 c_3) (by decide) ?_
  refine lv_null hx₀ hb dX11_textOf_43 ?_
  have hP9 := hP.sub (ws' := [(hx, .inr (10, [.ref aLa, .ref aPa, .ref aGe, .ref aFl, .ref aTr, .ref aBe, .ref aLu, .ref aLo, .ref vSf, .ref vSm, .ref vCo, .ref vSh, .int 0, .int 0, .int 0]))]) [0] rfl
  have hD9 := hD.sub (ws' := [(hx, .inr (10, [.ref aLa, .ref aPa, .ref aGe, .ref aFl, .ref aTr, .ref aBe, .ref aLu, .ref aLo, .ref vSf, .ref vSm, .ref vCo, .ref vSh, .int 0, .int 0, .int 0]))]) [0] (by decide) rfl
  exact W.aret (v := .null) hx₀ hb hr (Or.inl ⟨_, rfl⟩) (Or.inl rfl) (fun t₀ ht hW => ⟨⟨none, (), rfl, (lf_c_textOf_4 t aLa aPa aGe c_1 c_2 c_3), by rw [ht]; exact hP9, va_K.moved hW.alike hK, hD9⟩, hS.F ht⟩) hS.2.2 dX11_textOf_44
theorem lf_c_isForm_1 (v : Int32) (c_1 : v < 0) : (0 : Int32) = if 0 ≤ v ∧ v ≤ 2 then 1 else 0 := by
  repeat first | rfl | rw [if_pos (by (first | omega | (simp only [Int64.le_iff_toInt_le, Int64.lt_iff_toInt_lt, Int32.le_iff_toInt_le, Int32.lt_iff_toInt_lt, ← Int32.toInt_inj, ← Int64.toInt_inj, Int32.toInt_toInt64, (show (0 : Int32).toInt = 0 from by decide), (show (0 : Int64).toInt = 0 from by decide), (show (1 : Int32).toInt = 1 from by decide), (show (1 : Int64).toInt = 1 from by decide), (show (2 : Int32).toInt = 2 from by decide), (show (2 : Int64).toInt = 2 from by decide)] at *; omega)))] | rw [if_neg (by (first | omega | (simp only [Int64.le_iff_toInt_le, Int64.lt_iff_toInt_lt, Int32.le_iff_toInt_le, Int32.lt_iff_toInt_lt, ← Int32.toInt_inj, ← Int64.toInt_inj, Int32.toInt_toInt64, (show (0 : Int32).toInt = 0 from by decide), (show (0 : Int64).toInt = 0 from by decide), (show (1 : Int32).toInt = 1 from by decide), (show (1 : Int64).toInt = 1 from by decide), (show (2 : Int32).toInt = 2 from by decide), (show (2 : Int64).toInt = 2 from by decide)] at *; omega)))]
theorem lf_c_isForm_2 (v : Int32) (c_1 : ¬ v < 0) (c_2 : 2 < v) : (0 : Int32) = if 0 ≤ v ∧ v ≤ 2 then 1 else 0 := by
  repeat first | rfl | rw [if_pos (by (first | omega | (simp only [Int64.le_iff_toInt_le, Int64.lt_iff_toInt_lt, Int32.le_iff_toInt_le, Int32.lt_iff_toInt_lt, ← Int32.toInt_inj, ← Int64.toInt_inj, Int32.toInt_toInt64, (show (0 : Int32).toInt = 0 from by decide), (show (0 : Int64).toInt = 0 from by decide), (show (1 : Int32).toInt = 1 from by decide), (show (1 : Int64).toInt = 1 from by decide), (show (2 : Int32).toInt = 2 from by decide), (show (2 : Int64).toInt = 2 from by decide)] at *; omega)))] | rw [if_neg (by (first | omega | (simp only [Int64.le_iff_toInt_le, Int64.lt_iff_toInt_lt, Int32.le_iff_toInt_le, Int32.lt_iff_toInt_lt, ← Int32.toInt_inj, ← Int64.toInt_inj, Int32.toInt_toInt64, (show (0 : Int32).toInt = 0 from by decide), (show (0 : Int64).toInt = 0 from by decide), (show (1 : Int32).toInt = 1 from by decide), (show (1 : Int64).toInt = 1 from by decide), (show (2 : Int32).toInt = 2 from by decide), (show (2 : Int64).toInt = 2 from by decide)] at *; omega)))]
theorem lf_c_isForm_3 (v : Int32) (c_1 : ¬ v < 0) (c_2 : ¬ 2 < v) : (1 : Int32) = if 0 ≤ v ∧ v ≤ 2 then 1 else 0 := by
  repeat first | rfl | rw [if_pos (by (first | omega | (simp only [Int64.le_iff_toInt_le, Int64.lt_iff_toInt_lt, Int32.le_iff_toInt_le, Int32.lt_iff_toInt_lt, ← Int32.toInt_inj, ← Int64.toInt_inj, Int32.toInt_toInt64, (show (0 : Int32).toInt = 0 from by decide), (show (0 : Int64).toInt = 0 from by decide), (show (1 : Int32).toInt = 1 from by decide), (show (1 : Int64).toInt = 1 from by decide), (show (2 : Int32).toInt = 2 from by decide), (show (2 : Int64).toInt = 2 from by decide)] at *; omega)))] | rw [if_neg (by (first | omega | (simp only [Int64.le_iff_toInt_le, Int64.lt_iff_toInt_lt, Int32.le_iff_toInt_le, Int32.lt_iff_toInt_lt, ← Int32.toInt_inj, ← Int64.toInt_inj, Int32.toInt_toInt64, (show (0 : Int32).toInt = 0 from by decide), (show (0 : Int64).toInt = 0 from by decide), (show (1 : Int32).toInt = 1 from by decide), (show (1 : Int64).toInt = 1 from by decide), (show (2 : Int32).toInt = 2 from by decide), (show (2 : Int64).toInt = 2 from by decide)] at *; omega)))]
set_option maxHeartbeats 4000000 in
set_option maxRecDepth 100000 in
theorem c_isForm (l : Launch) (dC : Nat → ClassId) (dI : Nat → Nat → Nat) (cI cJ cQ : ClassId) (sz : Nat) (v : Int32) : Met l yX11_isForm (kW yX11_isForm cX11_isForm 1 (some .boolean)) { frames := 0, cells := 0, slots := 0, locals := 0 } (kPre dC dI cI cJ cQ sz [.int v] []) (va_Qi (fun (r : Int32) (_ : Unit) => r = if 0 ≤ v ∧ v ≤ 2 then 1 else 0) (fun _ t₀ => kB dC dI cI cJ cQ (va_A [] sz) [] t₀) (va_A [] sz)) 0 0 (va_A [] sz) := by
  refine Met.ofW (cc := cX11_isForm) (maxL := 1) (ret := (some .boolean)) (by decide) rfl ?_
  intro p₀ e₀ s₀ m₀ args below meth c₀ s₁ B hml hv₀
  obtain ⟨rfl, hsz, hP, hK, hD0, hN⟩ := hv₀
  have hx₀ := B.exec
  have hb := B.bytes
  have hr := B.returns
  have hts := atoms_spec (ws := (kW yX11_isForm cX11_isForm 1 (some .boolean))) B.pre
  have hts := fun w h => hts w (List.mem_cons_of_mem _ h)
  have hown : s₀.vm.findClass RX11 = some m₀.cls := findClass_of_methodNamed B.named
  have hlocks := B.notSynchronized
  subst hsz
  have hD := hD0.self (sz := s₀.heap.size)
  generalize hAe : va_A [] s₀.heap.size = A at hD ⊢
  have hA : ∀ q : Nat, s₀.heap.size ≤ q → A q := fun q h => by rw [← hAe]; exact Or.inr h
  have hS : va_S A s₀.heap s₀.heap [] := va_S.rf
  have hP : va_P (dC, dI) vwCl [] s₀.heap := hP
  have hl := lv_entry ([.int v]) (n := 1) (Nat.le_of_ble_eq_true rfl)
  rw [lg_entry_eq]
  generalize (lg_sl ([.int v]) ++ List.replicate (1 - (lg_sl ([.int v])).length) Slot.unset).toArray = ls at hl ⊢
  have hl : lv_has ls 1 [(0, .int v)] := hl
  obtain ⟨H, hH⟩ : ∃ z : Heap, z = s₀.heap := ⟨_, rfl⟩
  rw [← hH] at hP
  have hS : va_S A s₀.heap H [] := by rw [hH]; exact hS
  refine k_heap hH ?_
  have hD : va_D A [] := hD
  obtain ⟨locs, hlo⟩ : ∃ z : List Loc, z = [] := ⟨_, rfl⟩
  rw [← hlo] at hS ⊢
  clear hlo hH hAe hD0
  refine lv_iload_n hx₀ hb dX11_isForm_0 rfl (lv_at hl 0 rfl) ?_
  refine lv_if_lt (tgt := 13) hx₀ hb dX11_isForm_1 (by decide) (fun c_1 => ?_) (fun c_1 => ?_)
  · refine lv_iconst (v := 0) hx₀ hb dX11_isForm_13 (by decide +kernel) ?_
    have hP9 := hP.sub (ws' := []) [] rfl
    have hD9 := hD.sub (ws' := []) [] (by decide) rfl
    exact W.zret (v := 0) hx₀ hb hr (by decide +kernel) (fun t₀ ht hW => ⟨⟨0, (), rfl, (lf_c_isForm_1 v c_1), by rw [ht]; exact hP9, va_K.moved hW.alike hK, hD9⟩, hS.F ht⟩) hS.2.2 dX11_isForm_14
  · refine lv_iload_n hx₀ hb dX11_isForm_4 rfl (lv_at hl 0 rfl) ?_
    refine lv_iconst (v := 2) hx₀ hb dX11_isForm_5 (by decide +kernel) ?_
    refine lv_icmp_gt (tgt := 13) hx₀ hb dX11_isForm_6 (by decide) (fun c_2 => ?_) (fun c_2 => ?_)
    · refine lv_iconst (v := 0) hx₀ hb dX11_isForm_13 (by decide +kernel) ?_
      have hP9 := hP.sub (ws' := []) [] rfl
      have hD9 := hD.sub (ws' := []) [] (by decide) rfl
      exact W.zret (v := 0) hx₀ hb hr (by decide +kernel) (fun t₀ ht hW => ⟨⟨0, (), rfl, (lf_c_isForm_2 v c_1 c_2), by rw [ht]; exact hP9, va_K.moved hW.alike hK, hD9⟩, hS.F ht⟩) hS.2.2 dX11_isForm_14
    · refine lv_iconst (v := 1) hx₀ hb dX11_isForm_9 (by decide +kernel) ?_
      refine lv_goto (tgt := 14) hx₀ hb dX11_isForm_10 (by decide) ?_
      have hP9 := hP.sub (ws' := []) [] rfl
      have hD9 := hD.sub (ws' := []) [] (by decide) rfl
      exact W.zret (v := 1) hx₀ hb hr (by decide +kernel) (fun t₀ ht hW => ⟨⟨1, (), rfl, (lf_c_isForm_3 v c_1 c_2), by rw [ht]; exact hP9, va_K.moved hW.alike hK, hD9⟩, hS.F ht⟩) hS.2.2 dX11_isForm_14
set_option maxHeartbeats 4000000 in
set_option maxRecDepth 100000 in
theorem c_found1 (l : Launch) (dC : Nat → ClassId) (dI : Nat → Nat → Nat) (cI cJ cQ : ClassId) (sz : Nat) (hx : Nat) (aLa : Nat) (aPa : Nat) (aGe : Nat) (aFl : Nat) (aTr : Nat) (aBe : Nat) (aLu : Nat) (aLo : Nat) (vSf : Nat) (vSm : Nat) (vCo : Nat) (vSh : Nat) : Met l yX11_found (kW yX11_found cX11_found 2 (some .int)) { frames := 0, cells := 0, slots := 0, locals := 0 } (kPre dC dI cI cJ cQ sz [.ref hx, .int 1] [(hx, .inr (10, [.ref aLa, .ref aPa, .ref aGe, .ref aFl, .ref aTr, .ref aBe, .ref aLu, .ref aLo, .ref vSf, .ref vSm, .ref vCo, .ref vSh, .int 0, .int 0, .int 0]))]) (va_Qi (fun (r : Int32) (_ : Unit) => r = (-11)) (fun _ t₀ => kB dC dI cI cJ cQ (va_A [(hx, .inr (10, [.ref aLa, .ref aPa, .ref aGe, .ref aFl, .ref aTr, .ref aBe, .ref aLu, .ref aLo, .ref vSf, .ref vSm, .ref vCo, .ref vSh, .int 0, .int 0, .int 0]))] sz) [(hx, .inr (10, [.ref aLa, .ref aPa, .ref aGe, .ref aFl, .ref aTr, .ref aBe, .ref aLu, .ref aLo, .ref vSf, .ref vSm, .ref vCo, .ref vSh, .int 0, .int 0, .int 1]))] t₀) (va_A [(hx, .inr (10, [.ref aLa, .ref aPa, .ref aGe, .ref aFl, .ref aTr, .ref aBe, .ref aLu, .ref aLo, .ref vSf, .ref vSm, .ref vCo, .ref vSh, .int 0, .int 0, .int 0]))] sz)) 0 0 (va_A [(hx, .inr (10, [.ref aLa, .ref aPa, .ref aGe, .ref aFl, .ref aTr, .ref aBe, .ref aLu, .ref aLo, .ref vSf, .ref vSm, .ref vCo, .ref vSh, .int 0, .int 0, .int 0]))] sz) := by
  refine Met.ofW (cc := cX11_found) (maxL := 2) (ret := (some .int)) (by decide) rfl ?_
  intro p₀ e₀ s₀ m₀ args below meth c₀ s₁ B hml hv₀
  obtain ⟨rfl, hsz, hP, hK, hD0, hN⟩ := hv₀
  have hx₀ := B.exec
  have hb := B.bytes
  have hr := B.returns
  have hts := atoms_spec (ws := (kW yX11_found cX11_found 2 (some .int))) B.pre
  have hts := fun w h => hts w (List.mem_cons_of_mem _ h)
  have hown : s₀.vm.findClass RX11 = some m₀.cls := findClass_of_methodNamed B.named
  have hlocks := B.notSynchronized
  subst hsz
  have hD := hD0.self (sz := s₀.heap.size)
  generalize hAe : va_A [(hx, .inr (10, [.ref aLa, .ref aPa, .ref aGe, .ref aFl, .ref aTr, .ref aBe, .ref aLu, .ref aLo, .ref vSf, .ref vSm, .ref vCo, .ref vSh, .int 0, .int 0, .int 0]))] s₀.heap.size = A at hD ⊢
  have hA : ∀ q : Nat, s₀.heap.size ≤ q → A q := fun q h => by rw [← hAe]; exact Or.inr h
  have hS : va_S A s₀.heap s₀.heap [] := va_S.rf
  have hP : va_P (dC, dI) vwCl [(hx, .inr (10, [.ref aLa, .ref aPa, .ref aGe, .ref aFl, .ref aTr, .ref aBe, .ref aLu, .ref aLo, .ref vSf, .ref vSm, .ref vCo, .ref vSh, .int 0, .int 0, .int 0]))] s₀.heap := hP
  have hl := lv_entry ([.ref hx, .int 1]) (n := 2) (Nat.le_of_ble_eq_true rfl)
  rw [lg_entry_eq]
  generalize (lg_sl ([.ref hx, .int 1]) ++ List.replicate (2 - (lg_sl ([.ref hx, .int 1])).length) Slot.unset).toArray = ls at hl ⊢
  have hl : lv_has ls 2 [(0, .ref hx), (1, .int 1)] := hl
  obtain ⟨H, hH⟩ : ∃ z : Heap, z = s₀.heap := ⟨_, rfl⟩
  rw [← hH] at hP
  have hS : va_S A s₀.heap H [] := by rw [hH]; exact hS
  refine k_heap hH ?_
  have hD : va_D A [(hx, .inr (10, [.ref aLa, .ref aPa, .ref aGe, .ref aFl, .ref aTr, .ref aBe, .ref aLu, .ref aLo, .ref vSf, .ref vSm, .ref vCo, .ref vSh, .int 0, .int 0, .int 0]))] := hD
  obtain ⟨locs, hlo⟩ : ∃ z : List Loc, z = [] := ⟨_, rfl⟩
  rw [← hlo] at hS ⊢
  clear hlo hH hAe hD0
  refine lv_aload_n hx₀ hb dX11_found_0 rfl (lv_at hl 0 rfl) ?_
  refine lv_iload_n hx₀ hb dX11_found_1 rfl (lv_at hl 1 rfl) ?_
  refine va_put (D := (dC, dI)) (ci := 10) (v := .int 1) (ty := .int) (C := RX11) (T := TX11) (N := 15) hx₀ hb hts inlX11 tyX11 tyX11_ok nmX11 hown hK hP hD hS 0 rfl rfl 14 (by decide) (hts (.fieldLink RX11 269 "BittenStick" "finding" "I") wd_388) (fun _ h9 => h9) rfl (by decide +kernel) rfl rfl (Nat.le_of_ble_eq_true rfl) dX11_found_2 (fun H locs hP hD hS => ?_)
  have hP : va_P (dC, dI) vwCl [(hx, .inr (10, [.ref aLa, .ref aPa, .ref aGe, .ref aFl, .ref aTr, .ref aBe, .ref aLu, .ref aLo, .ref vSf, .ref vSm, .ref vCo, .ref vSh, .int 0, .int 0, .int 1]))] H := hP
  have hD : va_D A [(hx, .inr (10, [.ref aLa, .ref aPa, .ref aGe, .ref aFl, .ref aTr, .ref aBe, .ref aLu, .ref aLo, .ref vSf, .ref vSm, .ref vCo, .ref vSh, .int 0, .int 0, .int 1]))] := hD
  refine lv_bipush (v := (-10)) hx₀ hb dX11_found_5 (by decide +kernel) ?_
  refine lv_iload_n hx₀ hb dX11_found_7 rfl (lv_at hl 1 rfl) ?_
  refine lv_isub hx₀ hb dX11_found_8 ?_
  refine k_topi (v := (-11)) (by decide +kernel) ?_
  have hP9 := hP.sub (ws' := [(hx, .inr (10, [.ref aLa, .ref aPa, .ref aGe, .ref aFl, .ref aTr, .ref aBe, .ref aLu, .ref aLo, .ref vSf, .ref vSm, .ref vCo, .ref vSh, .int 0, .int 0, .int 1]))]) [0] rfl
  have hD9 := hD.sub (ws' := [(hx, .inr (10, [.ref aLa, .ref aPa, .ref aGe, .ref aFl, .ref aTr, .ref aBe, .ref aLu, .ref aLo, .ref vSf, .ref vSm, .ref vCo, .ref vSh, .int 0, .int 0, .int 1]))]) [0] (by decide) rfl
  exact W.iret (v := (-11)) hx₀ hb hr (fun t₀ ht hW => ⟨⟨(-11), (), rfl, rfl, by rw [ht]; exact hP9, va_K.moved hW.alike hK, hD9⟩, hS.F ht⟩) hS.2.2 dX11_found_9
set_option maxHeartbeats 4000000 in
set_option maxRecDepth 100000 in
theorem c_found5 (l : Launch) (dC : Nat → ClassId) (dI : Nat → Nat → Nat) (cI cJ cQ : ClassId) (sz : Nat) (hx : Nat) (aLa : Nat) (aPa : Nat) (aGe : Nat) (aFl : Nat) (aTr : Nat) (aBe : Nat) (aLu : Nat) (aLo : Nat) (vSf : Nat) (vSm : Nat) (vCo : Nat) (vSh : Nat) : Met l yX11_found (kW yX11_found cX11_found 2 (some .int)) { frames := 0, cells := 0, slots := 0, locals := 0 } (kPre dC dI cI cJ cQ sz [.ref hx, .int 5] [(hx, .inr (10, [.ref aLa, .ref aPa, .ref aGe, .ref aFl, .ref aTr, .ref aBe, .ref aLu, .ref aLo, .ref vSf, .ref vSm, .ref vCo, .ref vSh, .int 0, .int 0, .int 0]))]) (va_Qi (fun (r : Int32) (_ : Unit) => r = (-15)) (fun _ t₀ => kB dC dI cI cJ cQ (va_A [(hx, .inr (10, [.ref aLa, .ref aPa, .ref aGe, .ref aFl, .ref aTr, .ref aBe, .ref aLu, .ref aLo, .ref vSf, .ref vSm, .ref vCo, .ref vSh, .int 0, .int 0, .int 0]))] sz) [(hx, .inr (10, [.ref aLa, .ref aPa, .ref aGe, .ref aFl, .ref aTr, .ref aBe, .ref aLu, .ref aLo, .ref vSf, .ref vSm, .ref vCo, .ref vSh, .int 0, .int 0, .int 5]))] t₀) (va_A [(hx, .inr (10, [.ref aLa, .ref aPa, .ref aGe, .ref aFl, .ref aTr, .ref aBe, .ref aLu, .ref aLo, .ref vSf, .ref vSm, .ref vCo, .ref vSh, .int 0, .int 0, .int 0]))] sz)) 0 0 (va_A [(hx, .inr (10, [.ref aLa, .ref aPa, .ref aGe, .ref aFl, .ref aTr, .ref aBe, .ref aLu, .ref aLo, .ref vSf, .ref vSm, .ref vCo, .ref vSh, .int 0, .int 0, .int 0]))] sz) := by
  refine Met.ofW (cc := cX11_found) (maxL := 2) (ret := (some .int)) (by decide) rfl ?_
  intro p₀ e₀ s₀ m₀ args below meth c₀ s₁ B hml hv₀
  obtain ⟨rfl, hsz, hP, hK, hD0, hN⟩ := hv₀
  have hx₀ := B.exec
  have hb := B.bytes
  have hr := B.returns
  have hts := atoms_spec (ws := (kW yX11_found cX11_found 2 (some .int))) B.pre
  have hts := fun w h => hts w (List.mem_cons_of_mem _ h)
  have hown : s₀.vm.findClass RX11 = some m₀.cls := findClass_of_methodNamed B.named
  have hlocks := B.notSynchronized
  subst hsz
  have hD := hD0.self (sz := s₀.heap.size)
  generalize hAe : va_A [(hx, .inr (10, [.ref aLa, .ref aPa, .ref aGe, .ref aFl, .ref aTr, .ref aBe, .ref aLu, .ref aLo, .ref vSf, .ref vSm, .ref vCo, .ref vSh, .int 0, .int 0, .int 0]))] s₀.heap.size = A at hD ⊢
  have hA : ∀ q : Nat, s₀.heap.size ≤ q → A q := fun q h => by rw [← hAe]; exact Or.inr h
  have hS : va_S A s₀.heap s₀.heap [] := va_S.rf
  have hP : va_P (dC, dI) vwCl [(hx, .inr (10, [.ref aLa, .ref aPa, .ref aGe, .ref aFl, .ref aTr, .ref aBe, .ref aLu, .ref aLo, .ref vSf, .ref vSm, .ref vCo, .ref vSh, .int 0, .int 0, .int 0]))] s₀.heap := hP
  have hl := lv_entry ([.ref hx, .int 5]) (n := 2) (Nat.le_of_ble_eq_true rfl)
  rw [lg_entry_eq]
  generalize (lg_sl ([.ref hx, .int 5]) ++ List.replicate (2 - (lg_sl ([.ref hx, .int 5])).length) Slot.unset).toArray = ls at hl ⊢
  have hl : lv_has ls 2 [(0, .ref hx), (1, .int 5)] := hl
  obtain ⟨H, hH⟩ : ∃ z : Heap, z = s₀.heap := ⟨_, rfl⟩
  rw [← hH] at hP
  have hS : va_S A s₀.heap H [] := by rw [hH]; exact hS
  refine k_heap hH ?_
  have hD : va_D A [(hx, .inr (10, [.ref aLa, .ref aPa, .ref aGe, .ref aFl, .ref aTr, .ref aBe, .ref aLu, .ref aLo, .ref vSf, .ref vSm, .ref vCo, .ref vSh, .int 0, .int 0, .int 0]))] := hD
  obtain ⟨locs, hlo⟩ : ∃ z : List Loc, z = [] := ⟨_, rfl⟩
  rw [← hlo] at hS ⊢
  clear hlo hH hAe hD0
  refine lv_aload_n hx₀ hb dX11_found_0 rfl (lv_at hl 0 rfl) ?_
  refine lv_iload_n hx₀ hb dX11_found_1 rfl (lv_at hl 1 rfl) ?_
  refine va_put (D := (dC, dI)) (ci := 10) (v := .int 5) (ty := .int) (C := RX11) (T := TX11) (N := 15) hx₀ hb hts inlX11 tyX11 tyX11_ok nmX11 hown hK hP hD hS 0 rfl rfl 14 (by decide) (hts (.fieldLink RX11 269 "BittenStick" "finding" "I") wd_388) (fun _ h9 => h9) rfl (by decide +kernel) rfl rfl (Nat.le_of_ble_eq_true rfl) dX11_found_2 (fun H locs hP hD hS => ?_)
  have hP : va_P (dC, dI) vwCl [(hx, .inr (10, [.ref aLa, .ref aPa, .ref aGe, .ref aFl, .ref aTr, .ref aBe, .ref aLu, .ref aLo, .ref vSf, .ref vSm, .ref vCo, .ref vSh, .int 0, .int 0, .int 5]))] H := hP
  have hD : va_D A [(hx, .inr (10, [.ref aLa, .ref aPa, .ref aGe, .ref aFl, .ref aTr, .ref aBe, .ref aLu, .ref aLo, .ref vSf, .ref vSm, .ref vCo, .ref vSh, .int 0, .int 0, .int 5]))] := hD
  refine lv_bipush (v := (-10)) hx₀ hb dX11_found_5 (by decide +kernel) ?_
  refine lv_iload_n hx₀ hb dX11_found_7 rfl (lv_at hl 1 rfl) ?_
  refine lv_isub hx₀ hb dX11_found_8 ?_
  refine k_topi (v := (-15)) (by decide +kernel) ?_
  have hP9 := hP.sub (ws' := [(hx, .inr (10, [.ref aLa, .ref aPa, .ref aGe, .ref aFl, .ref aTr, .ref aBe, .ref aLu, .ref aLo, .ref vSf, .ref vSm, .ref vCo, .ref vSh, .int 0, .int 0, .int 5]))]) [0] rfl
  have hD9 := hD.sub (ws' := [(hx, .inr (10, [.ref aLa, .ref aPa, .ref aGe, .ref aFl, .ref aTr, .ref aBe, .ref aLu, .ref aLo, .ref vSf, .ref vSm, .ref vCo, .ref vSh, .int 0, .int 0, .int 5]))]) [0] (by decide) rfl
  exact W.iret (v := (-15)) hx₀ hb hr (fun t₀ ht hW => ⟨⟨(-15), (), rfl, rfl, by rw [ht]; exact hP9, va_K.moved hW.alike hK, hD9⟩, hS.F ht⟩) hS.2.2 dX11_found_9
theorem lf_c_sheetOf_1 (s : Int32) (s0 : Nat) (s1 : Nat) (s2 : Nat) (s3 : Nat) (c_1 : s < 0) : (none : Option Nat) = if s = 0 then some s0 else if s = 1 then some s1 else if s = 2 then some s2 else if s = 3 then some s3 else none := by
  repeat first | rfl | rw [if_pos (by (first | omega | (simp only [Int64.le_iff_toInt_le, Int64.lt_iff_toInt_lt, Int32.le_iff_toInt_le, Int32.lt_iff_toInt_lt, ← Int32.toInt_inj, ← Int64.toInt_inj, Int32.toInt_toInt64, (show (0 : Int32).toInt = 0 from by decide), (show (0 : Int64).toInt = 0 from by decide), (show (1 : Int32).toInt = 1 from by decide), (show (1 : Int64).toInt = 1 from by decide), (show (2 : Int32).toInt = 2 from by decide), (show (2 : Int64).toInt = 2 from by decide), (show (3 : Int32).toInt = 3 from by decide), (show (3 : Int64).toInt = 3 from by decide)] at *; omega)))] | rw [if_neg (by (first | omega | (simp only [Int64.le_iff_toInt_le, Int64.lt_iff_toInt_lt, Int32.le_iff_toInt_le, Int32.lt_iff_toInt_lt, ← Int32.toInt_inj, ← Int64.toInt_inj, Int32.toInt_toInt64, (show (0 : Int32).toInt = 0 from by decide), (show (0 : Int64).toInt = 0 from by decide), (show (1 : Int32).toInt = 1 from by decide), (show (1 : Int64).toInt = 1 from by decide), (show (2 : Int32).toInt = 2 from by decide), (show (2 : Int64).toInt = 2 from by decide), (show (3 : Int32).toInt = 3 from by decide), (show (3 : Int64).toInt = 3 from by decide)] at *; omega)))]
theorem lf_c_sheetOf_2 (s : Int32) (s0 : Nat) (s1 : Nat) (s2 : Nat) (s3 : Nat) (c_1 : ¬ s < 0) (c_2 : 4 ≤ s) : (none : Option Nat) = if s = 0 then some s0 else if s = 1 then some s1 else if s = 2 then some s2 else if s = 3 then some s3 else none := by
  repeat first | rfl | rw [if_pos (by (first | omega | (simp only [Int64.le_iff_toInt_le, Int64.lt_iff_toInt_lt, Int32.le_iff_toInt_le, Int32.lt_iff_toInt_lt, ← Int32.toInt_inj, ← Int64.toInt_inj, Int32.toInt_toInt64, (show (0 : Int32).toInt = 0 from by decide), (show (0 : Int64).toInt = 0 from by decide), (show (1 : Int32).toInt = 1 from by decide), (show (1 : Int64).toInt = 1 from by decide), (show (2 : Int32).toInt = 2 from by decide), (show (2 : Int64).toInt = 2 from by decide), (show (3 : Int32).toInt = 3 from by decide), (show (3 : Int64).toInt = 3 from by decide), (show (4 : Int32).toInt = 4 from by decide), (show (4 : Int64).toInt = 4 from by decide)] at *; omega)))] | rw [if_neg (by (first | omega | (simp only [Int64.le_iff_toInt_le, Int64.lt_iff_toInt_lt, Int32.le_iff_toInt_le, Int32.lt_iff_toInt_lt, ← Int32.toInt_inj, ← Int64.toInt_inj, Int32.toInt_toInt64, (show (0 : Int32).toInt = 0 from by decide), (show (0 : Int64).toInt = 0 from by decide), (show (1 : Int32).toInt = 1 from by decide), (show (1 : Int64).toInt = 1 from by decide), (show (2 : Int32).toInt = 2 from by decide), (show (2 : Int64).toInt = 2 from by decide), (show (3 : Int32).toInt = 3 from by decide), (show (3 : Int64).toInt = 3 from by decide), (show (4 : Int32).toInt = 4 from by decide), (show (4 : Int64).toInt = 4 from by decide)] at *; omega)))]
theorem lf_c_sheetOf_3 (s : Int32) (c_1 : ¬ s < 0) (c_2 : ¬ 4 ≤ s) : 0 ≤ s.toInt ∧ s.toInt < 4 := by
  first | rfl | decide | (first | omega | (simp only [Int64.le_iff_toInt_le, Int64.lt_iff_toInt_lt, Int32.le_iff_toInt_le, Int32.lt_iff_toInt_lt, ← Int32.toInt_inj, ← Int64.toInt_inj, Int32.toInt_toInt64, (show (0 : Int32).toInt = 0 from by decide), (show (0 : Int64).toInt = 0 from by decide), (show (4 : Int32).toInt = 4 from by decide), (show (4 : Int64).toInt = 4 from by decide)] at *; omega))
theorem lf_c_sheetOf_4 (s0 : Nat) (s1 : Nat) (s2 : Nat) (s3 : Nat)  : (some s0 : Option Nat) = if (0 : Int32) = 0 then some s0 else if (0 : Int32) = 1 then some s1 else if (0 : Int32) = 2 then some s2 else if (0 : Int32) = 3 then some s3 else none := by
  repeat first | rfl | rw [if_pos (by (first | omega | (simp only [Int64.le_iff_toInt_le, Int64.lt_iff_toInt_lt, Int32.le_iff_toInt_le, Int32.lt_iff_toInt_lt, ← Int32.toInt_inj, ← Int64.toInt_inj, Int32.toInt_toInt64, (show (0 : Int32).toInt = 0 from by decide), (show (0 : Int64).toInt = 0 from by decide), (show (1 : Int32).toInt = 1 from by decide), (show (1 : Int64).toInt = 1 from by decide), (show (2 : Int32).toInt = 2 from by decide), (show (2 : Int64).toInt = 2 from by decide), (show (3 : Int32).toInt = 3 from by decide), (show (3 : Int64).toInt = 3 from by decide)] at *; omega)))] | rw [if_neg (by (first | omega | (simp only [Int64.le_iff_toInt_le, Int64.lt_iff_toInt_lt, Int32.le_iff_toInt_le, Int32.lt_iff_toInt_lt, ← Int32.toInt_inj, ← Int64.toInt_inj, Int32.toInt_toInt64, (show (0 : Int32).toInt = 0 from by decide), (show (0 : Int64).toInt = 0 from by decide), (show (1 : Int32).toInt = 1 from by decide), (show (1 : Int64).toInt = 1 from by decide), (show (2 : Int32).toInt = 2 from by decide), (show (2 : Int64).toInt = 2 from by decide), (show (3 : Int32).toInt = 3 from by decide), (show (3 : Int64).toInt = 3 from by decide)] at *; omega)))]
theorem lf_c_sheetOf_5 (s1 : Nat) (s0 : Nat) (s2 : Nat) (s3 : Nat)  : (some s1 : Option Nat) = if (1 : Int32) = 0 then some s0 else if (1 : Int32) = 1 then some s1 else if (1 : Int32) = 2 then some s2 else if (1 : Int32) = 3 then some s3 else none := by
  repeat first | rfl | rw [if_pos (by (first | omega | (simp only [Int64.le_iff_toInt_le, Int64.lt_iff_toInt_lt, Int32.le_iff_toInt_le, Int32.lt_iff_toInt_lt, ← Int32.toInt_inj, ← Int64.toInt_inj, Int32.toInt_toInt64, (show (0 : Int32).toInt = 0 from by decide), (show (0 : Int64).toInt = 0 from by decide), (show (1 : Int32).toInt = 1 from by decide), (show (1 : Int64).toInt = 1 from by decide), (show (2 : Int32).toInt = 2 from by decide), (show (2 : Int64).toInt = 2 from by decide), (show (3 : Int32).toInt = 3 from by decide), (show (3 : Int64).toInt = 3 from by decide)] at *; omega)))] | rw [if_neg (by (first | omega | (simp only [Int64.le_iff_toInt_le, Int64.lt_iff_toInt_lt, Int32.le_iff_toInt_le, Int32.lt_iff_toInt_lt, ← Int32.toInt_inj, ← Int64.toInt_inj, Int32.toInt_toInt64, (show (0 : Int32).toInt = 0 from by decide), (show (0 : Int64).toInt = 0 from by decide), (show (1 : Int32).toInt = 1 from by decide), (show (1 : Int64).toInt = 1 from by decide), (show (2 : Int32).toInt = 2 from by decide), (show (2 : Int64).toInt = 2 from by decide), (show (3 : Int32).toInt = 3 from by decide), (show (3 : Int64).toInt = 3 from by decide)] at *; omega)))]
theorem lf_c_sheetOf_6 (s2 : Nat) (s0 : Nat) (s1 : Nat) (s3 : Nat)  : (some s2 : Option Nat) = if (2 : Int32) = 0 then some s0 else if (2 : Int32) = 1 then some s1 else if (2 : Int32) = 2 then some s2 else if (2 : Int32) = 3 then some s3 else none := by
  repeat first | rfl | rw [if_pos (by (first | omega | (simp only [Int64.le_iff_toInt_le, Int64.lt_iff_toInt_lt, Int32.le_iff_toInt_le, Int32.lt_iff_toInt_lt, ← Int32.toInt_inj, ← Int64.toInt_inj, Int32.toInt_toInt64, (show (0 : Int32).toInt = 0 from by decide), (show (0 : Int64).toInt = 0 from by decide), (show (1 : Int32).toInt = 1 from by decide), (show (1 : Int64).toInt = 1 from by decide), (show (2 : Int32).toInt = 2 from by decide), (show (2 : Int64).toInt = 2 from by decide), (show (3 : Int32).toInt = 3 from by decide), (show (3 : Int64).toInt = 3 from by decide)] at *; omega)))] | rw [if_neg (by (first | omega | (simp only [Int64.le_iff_toInt_le, Int64.lt_iff_toInt_lt, Int32.le_iff_toInt_le, Int32.lt_iff_toInt_lt, ← Int32.toInt_inj, ← Int64.toInt_inj, Int32.toInt_toInt64, (show (0 : Int32).toInt = 0 from by decide), (show (0 : Int64).toInt = 0 from by decide), (show (1 : Int32).toInt = 1 from by decide), (show (1 : Int64).toInt = 1 from by decide), (show (2 : Int32).toInt = 2 from by decide), (show (2 : Int64).toInt = 2 from by decide), (show (3 : Int32).toInt = 3 from by decide), (show (3 : Int64).toInt = 3 from by decide)] at *; omega)))]
theorem lf_c_sheetOf_7 (s3 : Nat) (s0 : Nat) (s1 : Nat) (s2 : Nat)  : (some s3 : Option Nat) = if (3 : Int32) = 0 then some s0 else if (3 : Int32) = 1 then some s1 else if (3 : Int32) = 2 then some s2 else if (3 : Int32) = 3 then some s3 else none := by
  repeat first | rfl | rw [if_pos (by (first | omega | (simp only [Int64.le_iff_toInt_le, Int64.lt_iff_toInt_lt, Int32.le_iff_toInt_le, Int32.lt_iff_toInt_lt, ← Int32.toInt_inj, ← Int64.toInt_inj, Int32.toInt_toInt64, (show (0 : Int32).toInt = 0 from by decide), (show (0 : Int64).toInt = 0 from by decide), (show (1 : Int32).toInt = 1 from by decide), (show (1 : Int64).toInt = 1 from by decide), (show (2 : Int32).toInt = 2 from by decide), (show (2 : Int64).toInt = 2 from by decide), (show (3 : Int32).toInt = 3 from by decide), (show (3 : Int64).toInt = 3 from by decide)] at *; omega)))] | rw [if_neg (by (first | omega | (simp only [Int64.le_iff_toInt_le, Int64.lt_iff_toInt_lt, Int32.le_iff_toInt_le, Int32.lt_iff_toInt_lt, ← Int32.toInt_inj, ← Int64.toInt_inj, Int32.toInt_toInt64, (show (0 : Int32).toInt = 0 from by decide), (show (0 : Int64).toInt = 0 from by decide), (show (1 : Int32).toInt = 1 from by decide), (show (1 : Int64).toInt = 1 from by decide), (show (2 : Int32).toInt = 2 from by decide), (show (2 : Int64).toInt = 2 from by decide), (show (3 : Int32).toInt = 3 from by decide), (show (3 : Int64).toInt = 3 from by decide)] at *; omega)))]
theorem lf_c_sheetOf_8 (s : Int32) (c_1 : ¬ s < 0) (c_2 : ¬ 4 ≤ s) (c_3 : ¬ s = 0) (c_4 : ¬ s = 1) (c_5 : ¬ s = 2) (c_6 : ¬ s = 3) : False := by
  (first | omega | (simp only [Int64.le_iff_toInt_le, Int64.lt_iff_toInt_lt, Int32.le_iff_toInt_le, Int32.lt_iff_toInt_lt, ← Int32.toInt_inj, ← Int64.toInt_inj, Int32.toInt_toInt64, (show (0 : Int32).toInt = 0 from by decide), (show (0 : Int64).toInt = 0 from by decide), (show (1 : Int32).toInt = 1 from by decide), (show (1 : Int64).toInt = 1 from by decide), (show (2 : Int32).toInt = 2 from by decide), (show (2 : Int64).toInt = 2 from by decide), (show (3 : Int32).toInt = 3 from by decide), (show (3 : Int64).toInt = 3 from by decide), (show (4 : Int32).toInt = 4 from by decide), (show (4 : Int64).toInt = 4 from by decide)] at *; omega))
set_option maxHeartbeats 4000000 in
set_option maxRecDepth 100000 in
theorem c_sheetOf (l : Launch) (dC : Nat → ClassId) (dI : Nat → Nat → Nat) (cI cJ cQ : ClassId) (sz : Nat) (hx : Nat) (s : Int32) (aLa : Nat) (aPa : Nat) (aGe : Nat) (aFl : Nat) (aTr : Nat) (aBe : Nat) (aLu : Nat) (aLo : Nat) (vSf : Nat) (vSm : Nat) (vCo : Nat) (vSh : Nat) (s0 : Nat) (s1 : Nat) (s2 : Nat) (s3 : Nat) : Met l yX11_sheetOf (kW yX11_sheetOf cX11_sheetOf 2 (some (.object "BittenStick$Sheet"))) { frames := 0, cells := 0, slots := 0, locals := 0 } (kPre dC dI cI cJ cQ sz [.ref hx, .int s] [(hx, .inr (10, [.ref aLa, .ref aPa, .ref aGe, .ref aFl, .ref aTr, .ref aBe, .ref aLu, .ref aLo, .ref vSf, .ref vSm, .ref vCo, .ref vSh, .int 0, .int 0, .int 0])), (vSh, .inl (cQ, 4, .inr (.inr (.inr (.inr (fSh s0 s1 s2 s3))))))]) (va_Qq (fun (r : Option Nat) (_ : Unit) => r = if s = 0 then some s0 else if s = 1 then some s1 else if s = 2 then some s2 else if s = 3 then some s3 else none) (fun _ t₀ => kB dC dI cI cJ cQ (va_A [(hx, .inr (10, [.ref aLa, .ref aPa, .ref aGe, .ref aFl, .ref aTr, .ref aBe, .ref aLu, .ref aLo, .ref vSf, .ref vSm, .ref vCo, .ref vSh, .int 0, .int 0, .int 0])), (vSh, .inl (cQ, 4, .inr (.inr (.inr (.inr (fSh s0 s1 s2 s3))))))] sz) [(hx, .inr (10, [.ref aLa, .ref aPa, .ref aGe, .ref aFl, .ref aTr, .ref aBe, .ref aLu, .ref aLo, .ref vSf, .ref vSm, .ref vCo, .ref vSh, .int 0, .int 0, .int 0])), (vSh, .inl (cQ, 4, .inr (.inr (.inr (.inr (fSh s0 s1 s2 s3))))))] t₀) (va_A [(hx, .inr (10, [.ref aLa, .ref aPa, .ref aGe, .ref aFl, .ref aTr, .ref aBe, .ref aLu, .ref aLo, .ref vSf, .ref vSm, .ref vCo, .ref vSh, .int 0, .int 0, .int 0])), (vSh, .inl (cQ, 4, .inr (.inr (.inr (.inr (fSh s0 s1 s2 s3))))))] sz)) 0 0 (va_A [(hx, .inr (10, [.ref aLa, .ref aPa, .ref aGe, .ref aFl, .ref aTr, .ref aBe, .ref aLu, .ref aLo, .ref vSf, .ref vSm, .ref vCo, .ref vSh, .int 0, .int 0, .int 0])), (vSh, .inl (cQ, 4, .inr (.inr (.inr (.inr (fSh s0 s1 s2 s3))))))] sz) := by
  refine Met.ofW (cc := cX11_sheetOf) (maxL := 2) (ret := (some (.object "BittenStick$Sheet"))) (by decide) rfl ?_
  intro p₀ e₀ s₀ m₀ args below meth c₀ s₁ B hml hv₀
  obtain ⟨rfl, hsz, hP, hK, hD0, hN⟩ := hv₀
  have hx₀ := B.exec
  have hb := B.bytes
  have hr := B.returns
  have hts := atoms_spec (ws := (kW yX11_sheetOf cX11_sheetOf 2 (some (.object "BittenStick$Sheet")))) B.pre
  have hts := fun w h => hts w (List.mem_cons_of_mem _ h)
  have hown : s₀.vm.findClass RX11 = some m₀.cls := findClass_of_methodNamed B.named
  have hlocks := B.notSynchronized
  subst hsz
  have hD := hD0.self (sz := s₀.heap.size)
  generalize hAe : va_A [(hx, .inr (10, [.ref aLa, .ref aPa, .ref aGe, .ref aFl, .ref aTr, .ref aBe, .ref aLu, .ref aLo, .ref vSf, .ref vSm, .ref vCo, .ref vSh, .int 0, .int 0, .int 0])), (vSh, .inl (cQ, 4, .inr (.inr (.inr (.inr (fSh s0 s1 s2 s3))))))] s₀.heap.size = A at hD ⊢
  have hA : ∀ q : Nat, s₀.heap.size ≤ q → A q := fun q h => by rw [← hAe]; exact Or.inr h
  have hS : va_S A s₀.heap s₀.heap [] := va_S.rf
  have hP : va_P (dC, dI) vwCl [(hx, .inr (10, [.ref aLa, .ref aPa, .ref aGe, .ref aFl, .ref aTr, .ref aBe, .ref aLu, .ref aLo, .ref vSf, .ref vSm, .ref vCo, .ref vSh, .int 0, .int 0, .int 0])), (vSh, .inl (cQ, 4, .inr (.inr (.inr (.inr (fSh s0 s1 s2 s3))))))] s₀.heap := hP
  have hl := lv_entry ([.ref hx, .int s]) (n := 2) (Nat.le_of_ble_eq_true rfl)
  rw [lg_entry_eq]
  generalize (lg_sl ([.ref hx, .int s]) ++ List.replicate (2 - (lg_sl ([.ref hx, .int s])).length) Slot.unset).toArray = ls at hl ⊢
  have hl : lv_has ls 2 [(0, .ref hx), (1, .int s)] := hl
  obtain ⟨H, hH⟩ : ∃ z : Heap, z = s₀.heap := ⟨_, rfl⟩
  rw [← hH] at hP
  have hS : va_S A s₀.heap H [] := by rw [hH]; exact hS
  refine k_heap hH ?_
  have hD : va_D A [(hx, .inr (10, [.ref aLa, .ref aPa, .ref aGe, .ref aFl, .ref aTr, .ref aBe, .ref aLu, .ref aLo, .ref vSf, .ref vSm, .ref vCo, .ref vSh, .int 0, .int 0, .int 0])), (vSh, .inl (cQ, 4, .inr (.inr (.inr (.inr (fSh s0 s1 s2 s3))))))] := hD
  obtain ⟨locs, hlo⟩ : ∃ z : List Loc, z = [] := ⟨_, rfl⟩
  rw [← hlo] at hS ⊢
  clear hlo hH hAe hD0
  refine lv_iload_n hx₀ hb dX11_sheetOf_0 rfl (lv_at hl 1 rfl) ?_
  refine lv_if_lt (tgt := 22) hx₀ hb dX11_sheetOf_1 (by decide) (fun c_1 => ?_) (fun c_1 => ?_)
  · refine lv_null hx₀ hb dX11_sheetOf_22 ?_
    have hP9 := hP.sub (ws' := [(hx, .inr (10, [.ref aLa, .ref aPa, .ref aGe, .ref aFl, .ref aTr, .ref aBe, .ref aLu, .ref aLo, .ref vSf, .ref vSm, .ref vCo, .ref vSh, .int 0, .int 0, .int 0])), (vSh, .inl (cQ, 4, .inr (.inr (.inr (.inr (fSh s0 s1 s2 s3))))))]) [0, 1] rfl
    have hD9 := hD.sub (ws' := [(hx, .inr (10, [.ref aLa, .ref aPa, .ref aGe, .ref aFl, .ref aTr, .ref aBe, .ref aLu, .ref aLo, .ref vSf, .ref vSm, .ref vCo, .ref vSh, .int 0, .int 0, .int 0])), (vSh, .inl (cQ, 4, .inr (.inr (.inr (.inr (fSh s0 s1 s2 s3))))))]) [0, 1] (by decide) rfl
    exact W.aret (v := .null) hx₀ hb hr (Or.inl ⟨_, rfl⟩) (Or.inl rfl) (fun t₀ ht hW => ⟨⟨none, (), rfl, (lf_c_sheetOf_1 s s0 s1 s2 s3 c_1), by rw [ht]; exact hP9, va_K.moved hW.alike hK, hD9⟩, hS.F ht⟩) hS.2.2 dX11_sheetOf_23
  · refine lv_iload_n hx₀ hb dX11_sheetOf_4 rfl (lv_at hl 1 rfl) ?_
    refine lv_aload_n hx₀ hb dX11_sheetOf_5 rfl (lv_at hl 0 rfl) ?_
    refine va_get (D := (dC, dI)) (ci := 10) (v := .ref vSh) (C := RX11) (T := TX11) (N := 15) hx₀ hb hts inlX11 hown hK hP 0 rfl rfl 11 (by decide) (hts (.fieldLink RX11 79 "BittenStick" "sheets" "[LBittenStick$Sheet;") wd_49) (fun _ h9 => h9) rfl dX11_sheetOf_6 ?_
    refine va_alen (v := 4) hx₀ hb hK hP 1 2 rfl rfl rfl dX11_sheetOf_9 ?_
    refine lv_icmp_ge (tgt := 22) hx₀ hb dX11_sheetOf_10 (by decide) (fun c_2 => ?_) (fun c_2 => ?_)
    · refine lv_null hx₀ hb dX11_sheetOf_22 ?_
      have hP9 := hP.sub (ws' := [(hx, .inr (10, [.ref aLa, .ref aPa, .ref aGe, .ref aFl, .ref aTr, .ref aBe, .ref aLu, .ref aLo, .ref vSf, .ref vSm, .ref vCo, .ref vSh, .int 0, .int 0, .int 0])), (vSh, .inl (cQ, 4, .inr (.inr (.inr (.inr (fSh s0 s1 s2 s3))))))]) [0, 1] rfl
      have hD9 := hD.sub (ws' := [(hx, .inr (10, [.ref aLa, .ref aPa, .ref aGe, .ref aFl, .ref aTr, .ref aBe, .ref aLu, .ref aLo, .ref vSf, .ref vSm, .ref vCo, .ref vSh, .int 0, .int 0, .int 0])), (vSh, .inl (cQ, 4, .inr (.inr (.inr (.inr (fSh s0 s1 s2 s3))))))]) [0, 1] (by decide) rfl
      exact W.aret (v := .null) hx₀ hb hr (Or.inl ⟨_, rfl⟩) (Or.inl rfl) (fun t₀ ht hW => ⟨⟨none, (), rfl, (lf_c_sheetOf_2 s s0 s1 s2 s3 c_1 c_2), by rw [ht]; exact hP9, va_K.moved hW.alike hK, hD9⟩, hS.F ht⟩) hS.2.2 dX11_sheetOf_23
    · refine lv_aload_n hx₀ hb dX11_sheetOf_13 rfl (lv_at hl 0 rfl) ?_
      refine va_get (D := (dC, dI)) (ci := 10) (v := .ref vSh) (C := RX11) (T := TX11) (N := 15) hx₀ hb hts inlX11 hown hK hP 0 rfl rfl 11 (by decide) (hts (.fieldLink RX11 79 "BittenStick" "sheets" "[LBittenStick$Sheet;") wd_49) (fun _ h9 => h9) rfl dX11_sheetOf_14 ?_
      refine lv_iload_n hx₀ hb dX11_sheetOf_17 rfl (lv_at hl 1 rfl) ?_
      refine va_aldq hx₀ hb hK hP 1 2 rfl rfl (vp_in_iff.mpr (lf_c_sheetOf_3 s c_1 c_2)) dX11_sheetOf_18 ?_
      by_cases c_3 : s = 0
      · subst c_3
        refine W.eq (g2 := F0 m₀ 19 ls [.ref s0]) (by rw [fSh_0]; rfl) ?_
        refine lv_goto (tgt := 23) hx₀ hb dX11_sheetOf_19 (by decide) ?_
        have hP9 := hP.sub (ws' := [(hx, .inr (10, [.ref aLa, .ref aPa, .ref aGe, .ref aFl, .ref aTr, .ref aBe, .ref aLu, .ref aLo, .ref vSf, .ref vSm, .ref vCo, .ref vSh, .int 0, .int 0, .int 0])), (vSh, .inl (cQ, 4, .inr (.inr (.inr (.inr (fSh s0 s1 s2 s3))))))]) [0, 1] rfl
        have hD9 := hD.sub (ws' := [(hx, .inr (10, [.ref aLa, .ref aPa, .ref aGe, .ref aFl, .ref aTr, .ref aBe, .ref aLu, .ref aLo, .ref vSf, .ref vSm, .ref vCo, .ref vSh, .int 0, .int 0, .int 0])), (vSh, .inl (cQ, 4, .inr (.inr (.inr (.inr (fSh s0 s1 s2 s3))))))]) [0, 1] (by decide) rfl
        exact W.aret (v := .ref s0) hx₀ hb hr (Or.inl ⟨_, rfl⟩) (Or.inr ⟨_, rfl⟩) (fun t₀ ht hW => ⟨⟨(some s0), (), rfl, (lf_c_sheetOf_4 s0 s1 s2 s3 ), by rw [ht]; exact hP9, va_K.moved hW.alike hK, hD9⟩, hS.F ht⟩) hS.2.2 dX11_sheetOf_23
      by_cases c_4 : s = 1
      · subst c_4
        refine W.eq (g2 := F0 m₀ 19 ls [.ref s1]) (by rw [fSh_1]; rfl) ?_
        refine lv_goto (tgt := 23) hx₀ hb dX11_sheetOf_19 (by decide) ?_
        have hP9 := hP.sub (ws' := [(hx, .inr (10, [.ref aLa, .ref aPa, .ref aGe, .ref aFl, .ref aTr, .ref aBe, .ref aLu, .ref aLo, .ref vSf, .ref vSm, .ref vCo, .ref vSh, .int 0, .int 0, .int 0])), (vSh, .inl (cQ, 4, .inr (.inr (.inr (.inr (fSh s0 s1 s2 s3))))))]) [0, 1] rfl
        have hD9 := hD.sub (ws' := [(hx, .inr (10, [.ref aLa, .ref aPa, .ref aGe, .ref aFl, .ref aTr, .ref aBe, .ref aLu, .ref aLo, .ref vSf, .ref vSm, .ref vCo, .ref vSh, .int 0, .int 0, .int 0])), (vSh, .inl (cQ, 4, .inr (.inr (.inr (.inr (fSh s0 s1 s2 s3))))))]) [0, 1] (by decide) rfl
        exact W.aret (v := .ref s1) hx₀ hb hr (Or.inl ⟨_, rfl⟩) (Or.inr ⟨_, rfl⟩) (fun t₀ ht hW => ⟨⟨(some s1), (), rfl, (lf_c_sheetOf_5 s1 s0 s2 s3 ), by rw [ht]; exact hP9, va_K.moved hW.alike hK, hD9⟩, hS.F ht⟩) hS.2.2 dX11_sheetOf_23
      by_cases c_5 : s = 2
      · subst c_5
        refine W.eq (g2 := F0 m₀ 19 ls [.ref s2]) (by rw [fSh_2]; rfl) ?_
        refine lv_goto (tgt := 23) hx₀ hb dX11_sheetOf_19 (by decide) ?_
        have hP9 := hP.sub (ws' := [(hx, .inr (10, [.ref aLa, .ref aPa, .ref aGe, .ref aFl, .ref aTr, .ref aBe, .ref aLu, .ref aLo, .ref vSf, .ref vSm, .ref vCo, .ref vSh, .int 0, .int 0, .int 0])), (vSh, .inl (cQ, 4, .inr (.inr (.inr (.inr (fSh s0 s1 s2 s3))))))]) [0, 1] rfl
        have hD9 := hD.sub (ws' := [(hx, .inr (10, [.ref aLa, .ref aPa, .ref aGe, .ref aFl, .ref aTr, .ref aBe, .ref aLu, .ref aLo, .ref vSf, .ref vSm, .ref vCo, .ref vSh, .int 0, .int 0, .int 0])), (vSh, .inl (cQ, 4, .inr (.inr (.inr (.inr (fSh s0 s1 s2 s3))))))]) [0, 1] (by decide) rfl
        exact W.aret (v := .ref s2) hx₀ hb hr (Or.inl ⟨_, rfl⟩) (Or.inr ⟨_, rfl⟩) (fun t₀ ht hW => ⟨⟨(some s2), (), rfl, (lf_c_sheetOf_6 s2 s0 s1 s3 ), by rw [ht]; exact hP9, va_K.moved hW.alike hK, hD9⟩, hS.F ht⟩) hS.2.2 dX11_sheetOf_23
      by_cases c_6 : s = 3
      · subst c_6
        refine W.eq (g2 := F0 m₀ 19 ls [.ref s3]) (by rw [fSh_3]; rfl) ?_
        refine lv_goto (tgt := 23) hx₀ hb dX11_sheetOf_19 (by decide) ?_
        have hP9 := hP.sub (ws' := [(hx, .inr (10, [.ref aLa, .ref aPa, .ref aGe, .ref aFl, .ref aTr, .ref aBe, .ref aLu, .ref aLo, .ref vSf, .ref vSm, .ref vCo, .ref vSh, .int 0, .int 0, .int 0])), (vSh, .inl (cQ, 4, .inr (.inr (.inr (.inr (fSh s0 s1 s2 s3))))))]) [0, 1] rfl
        have hD9 := hD.sub (ws' := [(hx, .inr (10, [.ref aLa, .ref aPa, .ref aGe, .ref aFl, .ref aTr, .ref aBe, .ref aLu, .ref aLo, .ref vSf, .ref vSm, .ref vCo, .ref vSh, .int 0, .int 0, .int 0])), (vSh, .inl (cQ, 4, .inr (.inr (.inr (.inr (fSh s0 s1 s2 s3))))))]) [0, 1] (by decide) rfl
        exact W.aret (v := .ref s3) hx₀ hb hr (Or.inl ⟨_, rfl⟩) (Or.inr ⟨_, rfl⟩) (fun t₀ ht hW => ⟨⟨(some s3), (), rfl, (lf_c_sheetOf_7 s3 s0 s1 s2 ), by rw [ht]; exact hP9, va_K.moved hW.alike hK, hD9⟩, hS.F ht⟩) hS.2.2 dX11_sheetOf_23
      exact (lf_c_sheetOf_8 s c_1 c_2 c_3 c_4 c_5 c_6).elim
theorem lf_c_has0_1 (f : Int32) (c_1 : ¬ f < 0) (c9 : ¬ 0 ≤ f) : False := by
  (first | omega | (simp only [Int64.le_iff_toInt_le, Int64.lt_iff_toInt_lt, Int32.le_iff_toInt_le, Int32.lt_iff_toInt_lt, ← Int32.toInt_inj, ← Int64.toInt_inj, Int32.toInt_toInt64, (show (0 : Int32).toInt = 0 from by decide), (show (0 : Int64).toInt = 0 from by decide)] at *; omega))
set_option maxHeartbeats 4000000 in
set_option maxRecDepth 100000 in
theorem c_has0 (l : Launch) (dC : Nat → ClassId) (dI : Nat → Nat → Nat) (cI cJ cQ : ClassId) (sz : Nat) (aFl : Nat) (f : Int32) (vFl : Nat) : Met l yX1_has (kW yX1_has cX1_has 2 (some .boolean)) { frames := 0, cells := 0, slots := 0, locals := 0 } (kPre dC dI cI cJ cQ sz [.ref aFl, .int f] [(aFl, .inr (1, [.ref vFl, .int 0]))]) (va_Qi (fun (r : Int32) (_ : Unit) => r = 0) (fun _ t₀ => kB dC dI cI cJ cQ (va_A [(aFl, .inr (1, [.ref vFl, .int 0]))] sz) [(aFl, .inr (1, [.ref vFl, .int 0]))] t₀) (va_A [(aFl, .inr (1, [.ref vFl, .int 0]))] sz)) 0 0 (va_A [(aFl, .inr (1, [.ref vFl, .int 0]))] sz) := by
  refine Met.ofW (cc := cX1_has) (maxL := 2) (ret := (some .boolean)) (by decide) rfl ?_
  intro p₀ e₀ s₀ m₀ args below meth c₀ s₁ B hml hv₀
  obtain ⟨rfl, hsz, hP, hK, hD0, hN⟩ := hv₀
  have hx₀ := B.exec
  have hb := B.bytes
  have hr := B.returns
  have hts := atoms_spec (ws := (kW yX1_has cX1_has 2 (some .boolean))) B.pre
  have hts := fun w h => hts w (List.mem_cons_of_mem _ h)
  have hown : s₀.vm.findClass RX1 = some m₀.cls := findClass_of_methodNamed B.named
  have hlocks := B.notSynchronized
  subst hsz
  have hD := hD0.self (sz := s₀.heap.size)
  generalize hAe : va_A [(aFl, .inr (1, [.ref vFl, .int 0]))] s₀.heap.size = A at hD ⊢
  have hA : ∀ q : Nat, s₀.heap.size ≤ q → A q := fun q h => by rw [← hAe]; exact Or.inr h
  have hS : va_S A s₀.heap s₀.heap [] := va_S.rf
  have hP : va_P (dC, dI) vwCl [(aFl, .inr (1, [.ref vFl, .int 0]))] s₀.heap := hP
  have hl := lv_entry ([.ref aFl, .int f]) (n := 2) (Nat.le_of_ble_eq_true rfl)
  rw [lg_entry_eq]
  generalize (lg_sl ([.ref aFl, .int f]) ++ List.replicate (2 - (lg_sl ([.ref aFl, .int f])).length) Slot.unset).toArray = ls at hl ⊢
  have hl : lv_has ls 2 [(0, .ref aFl), (1, .int f)] := hl
  obtain ⟨H, hH⟩ : ∃ z : Heap, z = s₀.heap := ⟨_, rfl⟩
  rw [← hH] at hP
  have hS : va_S A s₀.heap H [] := by rw [hH]; exact hS
  refine k_heap hH ?_
  have hD : va_D A [(aFl, .inr (1, [.ref vFl, .int 0]))] := hD
  obtain ⟨locs, hlo⟩ : ∃ z : List Loc, z = [] := ⟨_, rfl⟩
  rw [← hlo] at hS ⊢
  clear hlo hH hAe hD0
  refine lv_iload_n hx₀ hb dX1_has_0 rfl (lv_at hl 1 rfl) ?_
  refine lv_if_lt (tgt := 16) hx₀ hb dX1_has_1 (by decide) (fun c_1 => ?_) (fun c_1 => ?_)
  · refine lv_iconst (v := 0) hx₀ hb dX1_has_16 (by decide +kernel) ?_
    have hP9 := hP.sub (ws' := [(aFl, .inr (1, [.ref vFl, .int 0]))]) [0] rfl
    have hD9 := hD.sub (ws' := [(aFl, .inr (1, [.ref vFl, .int 0]))]) [0] (by decide) rfl
    exact W.zret (v := 0) hx₀ hb hr (by decide +kernel) (fun t₀ ht hW => ⟨⟨0, (), rfl, rfl, by rw [ht]; exact hP9, va_K.moved hW.alike hK, hD9⟩, hS.F ht⟩) hS.2.2 dX1_has_17
  · refine lv_iload_n hx₀ hb dX1_has_4 rfl (lv_at hl 1 rfl) ?_
    refine lv_aload_n hx₀ hb dX1_has_5 rfl (lv_at hl 0 rfl) ?_
    refine va_get (D := (dC, dI)) (ci := 1) (v := .int 0) (C := RX1) (T := TX1) (N := 2) hx₀ hb hts inlX1 hown hK hP 0 rfl rfl 1 (by decide) (hts (.fieldLink RX1 15 "BittenStick$Flights" "number" "I") wd_357) (fun _ h9 => h9) rfl dX1_has_6 ?_
    refine lv_icmp_ge (tgt := 16) hx₀ hb dX1_has_9 (by decide) (fun c_2 => ?_) (fun c9 => (lf_c_has0_1 f c_1 c9).elim)
    refine lv_iconst (v := 0) hx₀ hb dX1_has_16 (by decide +kernel) ?_
    have hP9 := hP.sub (ws' := [(aFl, .inr (1, [.ref vFl, .int 0]))]) [0] rfl
    have hD9 := hD.sub (ws' := [(aFl, .inr (1, [.ref vFl, .int 0]))]) [0] (by decide) rfl
    exact W.zret (v := 0) hx₀ hb hr (by decide +kernel) (fun t₀ ht hW => ⟨⟨0, (), rfl, rfl, by rw [ht]; exact hP9, va_K.moved hW.alike hK, hD9⟩, hS.F ht⟩) hS.2.2 dX1_has_17
theorem lf_c_append_1 (p : Int32) (le : Int32) (ri : Int32) (hh : Int32) (c_1 : p < 0) : ((-2) : Int32) = if 0 ≤ p ∧ p ≤ 7 ∧ 0 ≤ le ∧ le ≤ 7 ∧ 0 ≤ ri ∧ ri ≤ 7 ∧ ¬ le = ri ∧ 1 ≤ hh ∧ hh ≤ 9 then 1 else -2 := by
  repeat first | rfl | rw [if_pos (by (first | omega | (simp only [Int64.le_iff_toInt_le, Int64.lt_iff_toInt_lt, Int32.le_iff_toInt_le, Int32.lt_iff_toInt_lt, ← Int32.toInt_inj, ← Int64.toInt_inj, Int32.toInt_toInt64, (show (-2 : Int32).toInt = -2 from by decide), (show (-2 : Int64).toInt = -2 from by decide), (show (0 : Int32).toInt = 0 from by decide), (show (0 : Int64).toInt = 0 from by decide), (show (1 : Int32).toInt = 1 from by decide), (show (1 : Int64).toInt = 1 from by decide), (show (7 : Int32).toInt = 7 from by decide), (show (7 : Int64).toInt = 7 from by decide), (show (9 : Int32).toInt = 9 from by decide), (show (9 : Int64).toInt = 9 from by decide)] at *; omega)))] | rw [if_neg (by (first | omega | (simp only [Int64.le_iff_toInt_le, Int64.lt_iff_toInt_lt, Int32.le_iff_toInt_le, Int32.lt_iff_toInt_lt, ← Int32.toInt_inj, ← Int64.toInt_inj, Int32.toInt_toInt64, (show (-2 : Int32).toInt = -2 from by decide), (show (-2 : Int64).toInt = -2 from by decide), (show (0 : Int32).toInt = 0 from by decide), (show (0 : Int64).toInt = 0 from by decide), (show (1 : Int32).toInt = 1 from by decide), (show (1 : Int64).toInt = 1 from by decide), (show (7 : Int32).toInt = 7 from by decide), (show (7 : Int64).toInt = 7 from by decide), (show (9 : Int32).toInt = 9 from by decide), (show (9 : Int64).toInt = 9 from by decide)] at *; omega)))]
theorem lf_c_append_2 (p : Int32) (le : Int32) (ri : Int32) (hh : Int32) (c_1 : ¬ p < 0) (c_2 : 7 < p) : ((-2) : Int32) = if 0 ≤ p ∧ p ≤ 7 ∧ 0 ≤ le ∧ le ≤ 7 ∧ 0 ≤ ri ∧ ri ≤ 7 ∧ ¬ le = ri ∧ 1 ≤ hh ∧ hh ≤ 9 then 1 else -2 := by
  repeat first | rfl | rw [if_pos (by (first | omega | (simp only [Int64.le_iff_toInt_le, Int64.lt_iff_toInt_lt, Int32.le_iff_toInt_le, Int32.lt_iff_toInt_lt, ← Int32.toInt_inj, ← Int64.toInt_inj, Int32.toInt_toInt64, (show (-2 : Int32).toInt = -2 from by decide), (show (-2 : Int64).toInt = -2 from by decide), (show (0 : Int32).toInt = 0 from by decide), (show (0 : Int64).toInt = 0 from by decide), (show (1 : Int32).toInt = 1 from by decide), (show (1 : Int64).toInt = 1 from by decide), (show (7 : Int32).toInt = 7 from by decide), (show (7 : Int64).toInt = 7 from by decide), (show (9 : Int32).toInt = 9 from by decide), (show (9 : Int64).toInt = 9 from by decide)] at *; omega)))] | rw [if_neg (by (first | omega | (simp only [Int64.le_iff_toInt_le, Int64.lt_iff_toInt_lt, Int32.le_iff_toInt_le, Int32.lt_iff_toInt_lt, ← Int32.toInt_inj, ← Int64.toInt_inj, Int32.toInt_toInt64, (show (-2 : Int32).toInt = -2 from by decide), (show (-2 : Int64).toInt = -2 from by decide), (show (0 : Int32).toInt = 0 from by decide), (show (0 : Int64).toInt = 0 from by decide), (show (1 : Int32).toInt = 1 from by decide), (show (1 : Int64).toInt = 1 from by decide), (show (7 : Int32).toInt = 7 from by decide), (show (7 : Int64).toInt = 7 from by decide), (show (9 : Int32).toInt = 9 from by decide), (show (9 : Int64).toInt = 9 from by decide)] at *; omega)))]
theorem lf_c_append_3 (p : Int32) (le : Int32) (ri : Int32) (hh : Int32) (c_1 : ¬ p < 0) (c_2 : ¬ 7 < p) (c_3 : le < 0) : ((-2) : Int32) = if 0 ≤ p ∧ p ≤ 7 ∧ 0 ≤ le ∧ le ≤ 7 ∧ 0 ≤ ri ∧ ri ≤ 7 ∧ ¬ le = ri ∧ 1 ≤ hh ∧ hh ≤ 9 then 1 else -2 := by
  repeat first | rfl | rw [if_pos (by (first | omega | (simp only [Int64.le_iff_toInt_le, Int64.lt_iff_toInt_lt, Int32.le_iff_toInt_le, Int32.lt_iff_toInt_lt, ← Int32.toInt_inj, ← Int64.toInt_inj, Int32.toInt_toInt64, (show (-2 : Int32).toInt = -2 from by decide), (show (-2 : Int64).toInt = -2 from by decide), (show (0 : Int32).toInt = 0 from by decide), (show (0 : Int64).toInt = 0 from by decide), (show (1 : Int32).toInt = 1 from by decide), (show (1 : Int64).toInt = 1 from by decide), (show (7 : Int32).toInt = 7 from by decide), (show (7 : Int64).toInt = 7 from by decide), (show (9 : Int32).toInt = 9 from by decide), (show (9 : Int64).toInt = 9 from by decide)] at *; omega)))] | rw [if_neg (by (first | omega | (simp only [Int64.le_iff_toInt_le, Int64.lt_iff_toInt_lt, Int32.le_iff_toInt_le, Int32.lt_iff_toInt_lt, ← Int32.toInt_inj, ← Int64.toInt_inj, Int32.toInt_toInt64, (show (-2 : Int32).toInt = -2 from by decide), (show (-2 : Int64).toInt = -2 from by decide), (show (0 : Int32).toInt = 0 from by decide), (show (0 : Int64).toInt = 0 from by decide), (show (1 : Int32).toInt = 1 from by decide), (show (1 : Int64).toInt = 1 from by decide), (show (7 : Int32).toInt = 7 from by decide), (show (7 : Int64).toInt = 7 from by decide), (show (9 : Int32).toInt = 9 from by decide), (show (9 : Int64).toInt = 9 from by decide)] at *; omega)))]
theorem lf_c_append_4 (p : Int32) (le : Int32) (ri : Int32) (hh : Int32) (c_1 : ¬ p < 0) (c_2 : ¬ 7 < p) (c_3 : ¬ le < 0) (c_4 : 7 < le) : ((-2) : Int32) = if 0 ≤ p ∧ p ≤ 7 ∧ 0 ≤ le ∧ le ≤ 7 ∧ 0 ≤ ri ∧ ri ≤ 7 ∧ ¬ le = ri ∧ 1 ≤ hh ∧ hh ≤ 9 then 1 else -2 := by
  repeat first | rfl | rw [if_pos (by (first | omega | (simp only [Int64.le_iff_toInt_le, Int64.lt_iff_toInt_lt, Int32.le_iff_toInt_le, Int32.lt_iff_toInt_lt, ← Int32.toInt_inj, ← Int64.toInt_inj, Int32.toInt_toInt64, (show (-2 : Int32).toInt = -2 from by decide), (show (-2 : Int64).toInt = -2 from by decide), (show (0 : Int32).toInt = 0 from by decide), (show (0 : Int64).toInt = 0 from by decide), (show (1 : Int32).toInt = 1 from by decide), (show (1 : Int64).toInt = 1 from by decide), (show (7 : Int32).toInt = 7 from by decide), (show (7 : Int64).toInt = 7 from by decide), (show (9 : Int32).toInt = 9 from by decide), (show (9 : Int64).toInt = 9 from by decide)] at *; omega)))] | rw [if_neg (by (first | omega | (simp only [Int64.le_iff_toInt_le, Int64.lt_iff_toInt_lt, Int32.le_iff_toInt_le, Int32.lt_iff_toInt_lt, ← Int32.toInt_inj, ← Int64.toInt_inj, Int32.toInt_toInt64, (show (-2 : Int32).toInt = -2 from by decide), (show (-2 : Int64).toInt = -2 from by decide), (show (0 : Int32).toInt = 0 from by decide), (show (0 : Int64).toInt = 0 from by decide), (show (1 : Int32).toInt = 1 from by decide), (show (1 : Int64).toInt = 1 from by decide), (show (7 : Int32).toInt = 7 from by decide), (show (7 : Int64).toInt = 7 from by decide), (show (9 : Int32).toInt = 9 from by decide), (show (9 : Int64).toInt = 9 from by decide)] at *; omega)))]
theorem lf_c_append_5 (p : Int32) (le : Int32) (ri : Int32) (hh : Int32) (c_1 : ¬ p < 0) (c_2 : ¬ 7 < p) (c_3 : ¬ le < 0) (c_4 : ¬ 7 < le) (c_5 : ri < 0) : ((-2) : Int32) = if 0 ≤ p ∧ p ≤ 7 ∧ 0 ≤ le ∧ le ≤ 7 ∧ 0 ≤ ri ∧ ri ≤ 7 ∧ ¬ le = ri ∧ 1 ≤ hh ∧ hh ≤ 9 then 1 else -2 := by
  repeat first | rfl | rw [if_pos (by (first | omega | (simp only [Int64.le_iff_toInt_le, Int64.lt_iff_toInt_lt, Int32.le_iff_toInt_le, Int32.lt_iff_toInt_lt, ← Int32.toInt_inj, ← Int64.toInt_inj, Int32.toInt_toInt64, (show (-2 : Int32).toInt = -2 from by decide), (show (-2 : Int64).toInt = -2 from by decide), (show (0 : Int32).toInt = 0 from by decide), (show (0 : Int64).toInt = 0 from by decide), (show (1 : Int32).toInt = 1 from by decide), (show (1 : Int64).toInt = 1 from by decide), (show (7 : Int32).toInt = 7 from by decide), (show (7 : Int64).toInt = 7 from by decide), (show (9 : Int32).toInt = 9 from by decide), (show (9 : Int64).toInt = 9 from by decide)] at *; omega)))] | rw [if_neg (by (first | omega | (simp only [Int64.le_iff_toInt_le, Int64.lt_iff_toInt_lt, Int32.le_iff_toInt_le, Int32.lt_iff_toInt_lt, ← Int32.toInt_inj, ← Int64.toInt_inj, Int32.toInt_toInt64, (show (-2 : Int32).toInt = -2 from by decide), (show (-2 : Int64).toInt = -2 from by decide), (show (0 : Int32).toInt = 0 from by decide), (show (0 : Int64).toInt = 0 from by decide), (show (1 : Int32).toInt = 1 from by decide), (show (1 : Int64).toInt = 1 from by decide), (show (7 : Int32).toInt = 7 from by decide), (show (7 : Int64).toInt = 7 from by decide), (show (9 : Int32).toInt = 9 from by decide), (show (9 : Int64).toInt = 9 from by decide)] at *; omega)))]
theorem lf_c_append_6 (p : Int32) (le : Int32) (ri : Int32) (hh : Int32) (c_1 : ¬ p < 0) (c_2 : ¬ 7 < p) (c_3 : ¬ le < 0) (c_4 : ¬ 7 < le) (c_5 : ¬ ri < 0) (c_6 : 7 < ri) : ((-2) : Int32) = if 0 ≤ p ∧ p ≤ 7 ∧ 0 ≤ le ∧ le ≤ 7 ∧ 0 ≤ ri ∧ ri ≤ 7 ∧ ¬ le = ri ∧ 1 ≤ hh ∧ hh ≤ 9 then 1 else -2 := by
  repeat first | rfl | rw [if_pos (by (first | omega | (simp only [Int64.le_iff_toInt_le, Int64.lt_iff_toInt_lt, Int32.le_iff_toInt_le, Int32.lt_iff_toInt_lt, ← Int32.toInt_inj, ← Int64.toInt_inj, Int32.toInt_toInt64, (show (-2 : Int32).toInt = -2 from by decide), (show (-2 : Int64).toInt = -2 from by decide), (show (0 : Int32).toInt = 0 from by decide), (show (0 : Int64).toInt = 0 from by decide), (show (1 : Int32).toInt = 1 from by decide), (show (1 : Int64).toInt = 1 from by decide), (show (7 : Int32).toInt = 7 from by decide), (show (7 : Int64).toInt = 7 from by decide), (show (9 : Int32).toInt = 9 from by decide), (show (9 : Int64).toInt = 9 from by decide)] at *; omega)))] | rw [if_neg (by (first | omega | (simp only [Int64.le_iff_toInt_le, Int64.lt_iff_toInt_lt, Int32.le_iff_toInt_le, Int32.lt_iff_toInt_lt, ← Int32.toInt_inj, ← Int64.toInt_inj, Int32.toInt_toInt64, (show (-2 : Int32).toInt = -2 from by decide), (show (-2 : Int64).toInt = -2 from by decide), (show (0 : Int32).toInt = 0 from by decide), (show (0 : Int64).toInt = 0 from by decide), (show (1 : Int32).toInt = 1 from by decide), (show (1 : Int64).toInt = 1 from by decide), (show (7 : Int32).toInt = 7 from by decide), (show (7 : Int64).toInt = 7 from by decide), (show (9 : Int32).toInt = 9 from by decide), (show (9 : Int64).toInt = 9 from by decide)] at *; omega)))]
theorem lf_c_append_7 (p : Int32) (le : Int32) (ri : Int32) (hh : Int32) (c_1 : ¬ p < 0) (c_2 : ¬ 7 < p) (c_3 : ¬ le < 0) (c_4 : ¬ 7 < le) (c_5 : ¬ ri < 0) (c_6 : ¬ 7 < ri) (c_7 : le = ri) : ((-2) : Int32) = if 0 ≤ p ∧ p ≤ 7 ∧ 0 ≤ le ∧ le ≤ 7 ∧ 0 ≤ ri ∧ ri ≤ 7 ∧ ¬ le = ri ∧ 1 ≤ hh ∧ hh ≤ 9 then 1 else -2 := by
  repeat first | rfl | rw [if_pos (by (first | omega | (simp only [Int64.le_iff_toInt_le, Int64.lt_iff_toInt_lt, Int32.le_iff_toInt_le, Int32.lt_iff_toInt_lt, ← Int32.toInt_inj, ← Int64.toInt_inj, Int32.toInt_toInt64, (show (-2 : Int32).toInt = -2 from by decide), (show (-2 : Int64).toInt = -2 from by decide), (show (0 : Int32).toInt = 0 from by decide), (show (0 : Int64).toInt = 0 from by decide), (show (1 : Int32).toInt = 1 from by decide), (show (1 : Int64).toInt = 1 from by decide), (show (7 : Int32).toInt = 7 from by decide), (show (7 : Int64).toInt = 7 from by decide), (show (9 : Int32).toInt = 9 from by decide), (show (9 : Int64).toInt = 9 from by decide)] at *; omega)))] | rw [if_neg (by (first | omega | (simp only [Int64.le_iff_toInt_le, Int64.lt_iff_toInt_lt, Int32.le_iff_toInt_le, Int32.lt_iff_toInt_lt, ← Int32.toInt_inj, ← Int64.toInt_inj, Int32.toInt_toInt64, (show (-2 : Int32).toInt = -2 from by decide), (show (-2 : Int64).toInt = -2 from by decide), (show (0 : Int32).toInt = 0 from by decide), (show (0 : Int64).toInt = 0 from by decide), (show (1 : Int32).toInt = 1 from by decide), (show (1 : Int64).toInt = 1 from by decide), (show (7 : Int32).toInt = 7 from by decide), (show (7 : Int64).toInt = 7 from by decide), (show (9 : Int32).toInt = 9 from by decide), (show (9 : Int64).toInt = 9 from by decide)] at *; omega)))]
theorem lf_c_append_8 (p : Int32) (le : Int32) (ri : Int32) (hh : Int32) (c_1 : ¬ p < 0) (c_2 : ¬ 7 < p) (c_3 : ¬ le < 0) (c_4 : ¬ 7 < le) (c_5 : ¬ ri < 0) (c_6 : ¬ 7 < ri) (c_7 : ¬ le = ri) (c_8 : hh < 1) : ((-2) : Int32) = if 0 ≤ p ∧ p ≤ 7 ∧ 0 ≤ le ∧ le ≤ 7 ∧ 0 ≤ ri ∧ ri ≤ 7 ∧ ¬ le = ri ∧ 1 ≤ hh ∧ hh ≤ 9 then 1 else -2 := by
  repeat first | rfl | rw [if_pos (by (first | omega | (simp only [Int64.le_iff_toInt_le, Int64.lt_iff_toInt_lt, Int32.le_iff_toInt_le, Int32.lt_iff_toInt_lt, ← Int32.toInt_inj, ← Int64.toInt_inj, Int32.toInt_toInt64, (show (-2 : Int32).toInt = -2 from by decide), (show (-2 : Int64).toInt = -2 from by decide), (show (0 : Int32).toInt = 0 from by decide), (show (0 : Int64).toInt = 0 from by decide), (show (1 : Int32).toInt = 1 from by decide), (show (1 : Int64).toInt = 1 from by decide), (show (7 : Int32).toInt = 7 from by decide), (show (7 : Int64).toInt = 7 from by decide), (show (9 : Int32).toInt = 9 from by decide), (show (9 : Int64).toInt = 9 from by decide)] at *; omega)))] | rw [if_neg (by (first | omega | (simp only [Int64.le_iff_toInt_le, Int64.lt_iff_toInt_lt, Int32.le_iff_toInt_le, Int32.lt_iff_toInt_lt, ← Int32.toInt_inj, ← Int64.toInt_inj, Int32.toInt_toInt64, (show (-2 : Int32).toInt = -2 from by decide), (show (-2 : Int64).toInt = -2 from by decide), (show (0 : Int32).toInt = 0 from by decide), (show (0 : Int64).toInt = 0 from by decide), (show (1 : Int32).toInt = 1 from by decide), (show (1 : Int64).toInt = 1 from by decide), (show (7 : Int32).toInt = 7 from by decide), (show (7 : Int64).toInt = 7 from by decide), (show (9 : Int32).toInt = 9 from by decide), (show (9 : Int64).toInt = 9 from by decide)] at *; omega)))]
theorem lf_c_append_9 (p : Int32) (le : Int32) (ri : Int32) (hh : Int32) (c_1 : ¬ p < 0) (c_2 : ¬ 7 < p) (c_3 : ¬ le < 0) (c_4 : ¬ 7 < le) (c_5 : ¬ ri < 0) (c_6 : ¬ 7 < ri) (c_7 : ¬ le = ri) (c_8 : ¬ hh < 1) (c_9 : hh ≤ 9) : (1 : Int32) = if 0 ≤ p ∧ p ≤ 7 ∧ 0 ≤ le ∧ le ≤ 7 ∧ 0 ≤ ri ∧ ri ≤ 7 ∧ ¬ le = ri ∧ 1 ≤ hh ∧ hh ≤ 9 then 1 else -2 := by
  repeat first | rfl | rw [if_pos (by (first | omega | (simp only [Int64.le_iff_toInt_le, Int64.lt_iff_toInt_lt, Int32.le_iff_toInt_le, Int32.lt_iff_toInt_lt, ← Int32.toInt_inj, ← Int64.toInt_inj, Int32.toInt_toInt64, (show (-2 : Int32).toInt = -2 from by decide), (show (-2 : Int64).toInt = -2 from by decide), (show (0 : Int32).toInt = 0 from by decide), (show (0 : Int64).toInt = 0 from by decide), (show (1 : Int32).toInt = 1 from by decide), (show (1 : Int64).toInt = 1 from by decide), (show (7 : Int32).toInt = 7 from by decide), (show (7 : Int64).toInt = 7 from by decide), (show (9 : Int32).toInt = 9 from by decide), (show (9 : Int64).toInt = 9 from by decide)] at *; omega)))] | rw [if_neg (by (first | omega | (simp only [Int64.le_iff_toInt_le, Int64.lt_iff_toInt_lt, Int32.le_iff_toInt_le, Int32.lt_iff_toInt_lt, ← Int32.toInt_inj, ← Int64.toInt_inj, Int32.toInt_toInt64, (show (-2 : Int32).toInt = -2 from by decide), (show (-2 : Int64).toInt = -2 from by decide), (show (0 : Int32).toInt = 0 from by decide), (show (0 : Int64).toInt = 0 from by decide), (show (1 : Int32).toInt = 1 from by decide), (show (1 : Int64).toInt = 1 from by decide), (show (7 : Int32).toInt = 7 from by decide), (show (7 : Int64).toInt = 7 from by decide), (show (9 : Int32).toInt = 9 from by decide), (show (9 : Int64).toInt = 9 from by decide)] at *; omega)))]
theorem lf_c_append_10 (p : Int32) (le : Int32) (ri : Int32) (hh : Int32) (c_1 : ¬ p < 0) (c_2 : ¬ 7 < p) (c_3 : ¬ le < 0) (c_4 : ¬ 7 < le) (c_5 : ¬ ri < 0) (c_6 : ¬ 7 < ri) (c_7 : ¬ le = ri) (c_8 : ¬ hh < 1) (c_9 : ¬ hh ≤ 9) : ((-2) : Int32) = if 0 ≤ p ∧ p ≤ 7 ∧ 0 ≤ le ∧ le ≤ 7 ∧ 0 ≤ ri ∧ ri ≤ 7 ∧ ¬ le = ri ∧ 1 ≤ hh ∧ hh ≤ 9 then 1 else -2 := by
  repeat first | rfl | rw [if_pos (by (first | omega | (simp only [Int64.le_iff_toInt_le, Int64.lt_iff_toInt_lt, Int32.le_iff_toInt_le, Int32.lt_iff_toInt_lt, ← Int32.toInt_inj, ← Int64.toInt_inj, Int32.toInt_toInt64, (show (-2 : Int32).toInt = -2 from by decide), (show (-2 : Int64).toInt = -2 from by decide), (show (0 : Int32).toInt = 0 from by decide), (show (0 : Int64).toInt = 0 from by decide), (show (1 : Int32).toInt = 1 from by decide), (show (1 : Int64).toInt = 1 from by decide), (show (7 : Int32).toInt = 7 from by decide), (show (7 : Int64).toInt = 7 from by decide), (show (9 : Int32).toInt = 9 from by decide), (show (9 : Int64).toInt = 9 from by decide)] at *; omega)))] | rw [if_neg (by (first | omega | (simp only [Int64.le_iff_toInt_le, Int64.lt_iff_toInt_lt, Int32.le_iff_toInt_le, Int32.lt_iff_toInt_lt, ← Int32.toInt_inj, ← Int64.toInt_inj, Int32.toInt_toInt64, (show (-2 : Int32).toInt = -2 from by decide), (show (-2 : Int64).toInt = -2 from by decide), (show (0 : Int32).toInt = 0 from by decide), (show (0 : Int64).toInt = 0 from by decide), (show (1 : Int32).toInt = 1 from by decide), (show (1 : Int64).toInt = 1 from by decide), (show (7 : Int32).toInt = 7 from by decide), (show (7 : Int64).toInt = 7 from by decide), (show (9 : Int32).toInt = 9 from by decide), (show (9 : Int64).toInt = 9 from by decide)] at *; omega)))]
set_option maxHeartbeats 4000000 in
set_option maxRecDepth 100000 in
theorem c_append (l : Launch) (dC : Nat → ClassId) (dI : Nat → Nat → Nat) (cI cJ cQ : ClassId) (sz : Nat) (aFl : Nat) (p : Int32) (le : Int32) (ri : Int32) (hh : Int32) (vFl : Nat) : Met l yX1_append (kW yX1_append cX1_append 5 (some .int)) { frames := 0, cells := 0, slots := 0, locals := 0 } (kPre dC dI cI cJ cQ sz [.ref aFl, .int p, .int le, .int ri, .int hh] [(aFl, .inr (1, [.ref vFl, .int 0])), (vFl, .inl (cI, 32, .inl (fun _ => 0)))]) (va_Qi (fun (r : Int32) (_ : Unit) => r = if 0 ≤ p ∧ p ≤ 7 ∧ 0 ≤ le ∧ le ≤ 7 ∧ 0 ≤ ri ∧ ri ≤ 7 ∧ ¬ le = ri ∧ 1 ≤ hh ∧ hh ≤ 9 then 1 else -2) (fun _ _ => True) (va_A [(aFl, .inr (1, [.ref vFl, .int 0])), (vFl, .inl (cI, 32, .inl (fun _ => 0)))] sz)) 0 0 (va_A [(aFl, .inr (1, [.ref vFl, .int 0])), (vFl, .inl (cI, 32, .inl (fun _ => 0)))] sz) := by
  refine Met.ofW (cc := cX1_append) (maxL := 5) (ret := (some .int)) (by decide) rfl ?_
  intro p₀ e₀ s₀ m₀ args below meth c₀ s₁ B hml hv₀
  obtain ⟨rfl, hsz, hP, hK, hD0, hN⟩ := hv₀
  have hx₀ := B.exec
  have hb := B.bytes
  have hr := B.returns
  have hts := atoms_spec (ws := (kW yX1_append cX1_append 5 (some .int))) B.pre
  have hts := fun w h => hts w (List.mem_cons_of_mem _ h)
  have hown : s₀.vm.findClass RX1 = some m₀.cls := findClass_of_methodNamed B.named
  have hlocks := B.notSynchronized
  subst hsz
  have hD := hD0.self (sz := s₀.heap.size)
  generalize hAe : va_A [(aFl, .inr (1, [.ref vFl, .int 0])), (vFl, .inl (cI, 32, .inl (fun _ => 0)))] s₀.heap.size = A at hD ⊢
  have hA : ∀ q : Nat, s₀.heap.size ≤ q → A q := fun q h => by rw [← hAe]; exact Or.inr h
  have hS : va_S A s₀.heap s₀.heap [] := va_S.rf
  have hP : va_P (dC, dI) vwCl [(aFl, .inr (1, [.ref vFl, .int 0])), (vFl, .inl (cI, 32, .inl (fun _ => 0)))] s₀.heap := hP
  have hl := lv_entry ([.ref aFl, .int p, .int le, .int ri, .int hh]) (n := 5) (Nat.le_of_ble_eq_true rfl)
  rw [lg_entry_eq]
  generalize (lg_sl ([.ref aFl, .int p, .int le, .int ri, .int hh]) ++ List.replicate (5 - (lg_sl ([.ref aFl, .int p, .int le, .int ri, .int hh])).length) Slot.unset).toArray = ls at hl ⊢
  have hl : lv_has ls 5 [(0, .ref aFl), (1, .int p), (2, .int le), (3, .int ri), (4, .int hh)] := hl
  obtain ⟨H, hH⟩ : ∃ z : Heap, z = s₀.heap := ⟨_, rfl⟩
  rw [← hH] at hP
  have hS : va_S A s₀.heap H [] := by rw [hH]; exact hS
  refine k_heap hH ?_
  have hD : va_D A [(aFl, .inr (1, [.ref vFl, .int 0])), (vFl, .inl (cI, 32, .inl (fun _ => 0)))] := hD
  obtain ⟨locs, hlo⟩ : ∃ z : List Loc, z = [] := ⟨_, rfl⟩
  rw [← hlo] at hS ⊢
  clear hlo hH hAe hD0
  refine lv_iload_n hx₀ hb dX1_append_0 rfl (lv_at hl 1 rfl) ?_
  refine lv_if_lt (tgt := 48) hx₀ hb dX1_append_1 (by decide) (fun c_1 => ?_) (fun c_1 => ?_)
  · refine lv_bipush (v := (-2)) hx₀ hb dX1_append_48 (by decide +kernel) ?_
    exact W.iret (v := (-2)) hx₀ hb hr (fun t₀ ht hW => ⟨⟨(-2), (), rfl, (lf_c_append_1 p le ri hh c_1), trivial⟩, hS.F ht⟩) hS.2.2 dX1_append_50
  · refine lv_iload_n hx₀ hb dX1_append_4 rfl (lv_at hl 1 rfl) ?_
    refine lv_bipush (v := 7) hx₀ hb dX1_append_5 (by decide +kernel) ?_
    refine lv_icmp_gt (tgt := 48) hx₀ hb dX1_append_7 (by decide) (fun c_2 => ?_) (fun c_2 => ?_)
    · refine lv_bipush (v := (-2)) hx₀ hb dX1_append_48 (by decide +kernel) ?_
      exact W.iret (v := (-2)) hx₀ hb hr (fun t₀ ht hW => ⟨⟨(-2), (), rfl, (lf_c_append_2 p le ri hh c_1 c_2), trivial⟩, hS.F ht⟩) hS.2.2 dX1_append_50
    · refine lv_iload_n hx₀ hb dX1_append_10 rfl (lv_at hl 2 rfl) ?_
      refine lv_if_lt (tgt := 48) hx₀ hb dX1_append_11 (by decide) (fun c_3 => ?_) (fun c_3 => ?_)
      · refine lv_bipush (v := (-2)) hx₀ hb dX1_append_48 (by decide +kernel) ?_
        exact W.iret (v := (-2)) hx₀ hb hr (fun t₀ ht hW => ⟨⟨(-2), (), rfl, (lf_c_append_3 p le ri hh c_1 c_2 c_3), trivial⟩, hS.F ht⟩) hS.2.2 dX1_append_50
      · refine lv_iload_n hx₀ hb dX1_append_14 rfl (lv_at hl 2 rfl) ?_
        refine lv_bipush (v := 7) hx₀ hb dX1_append_15 (by decide +kernel) ?_
        refine lv_icmp_gt (tgt := 48) hx₀ hb dX1_append_17 (by decide) (fun c_4 => ?_) (fun c_4 => ?_)
        · refine lv_bipush (v := (-2)) hx₀ hb dX1_append_48 (by decide +kernel) ?_
          exact W.iret (v := (-2)) hx₀ hb hr (fun t₀ ht hW => ⟨⟨(-2), (), rfl, (lf_c_append_4 p le ri hh c_1 c_2 c_3 c_4), trivial⟩, hS.F ht⟩) hS.2.2 dX1_append_50
        · refine lv_iload_n hx₀ hb dX1_append_20 rfl (lv_at hl 3 rfl) ?_
          refine lv_if_lt (tgt := 48) hx₀ hb dX1_append_21 (by decide) (fun c_5 => ?_) (fun c_5 => ?_)
          · refine lv_bipush (v := (-2)) hx₀ hb dX1_append_48 (by decide +kernel) ?_
            exact W.iret (v := (-2)) hx₀ hb hr (fun t₀ ht hW => ⟨⟨(-2), (), rfl, (lf_c_append_5 p le ri hh c_1 c_2 c_3 c_4 c_5), trivial⟩, hS.F ht⟩) hS.2.2 dX1_append_50
          · refine lv_iload_n hx₀ hb dX1_append_24 rfl (lv_at hl 3 rfl) ?_
            refine lv_bipush (v := 7) hx₀ hb dX1_append_25 (by decide +kernel) ?_
            refine lv_icmp_gt (tgt := 48) hx₀ hb dX1_append_27 (by decide) (fun c_6 => ?_) (fun c_6 => ?_)
            · refine lv_bipush (v := (-2)) hx₀ hb dX1_append_48 (by decide +kernel) ?_
              exact W.iret (v := (-2)) hx₀ hb hr (fun t₀ ht hW => ⟨⟨(-2), (), rfl, (lf_c_append_6 p le ri hh c_1 c_2 c_3 c_4 c_5 c_6), trivial⟩, hS.F ht⟩) hS.2.2 dX1_append_50
            · refine lv_iload_n hx₀ hb dX1_append_30 rfl (lv_at hl 2 rfl) ?_
              refine lv_iload_n hx₀ hb dX1_append_31 rfl (lv_at hl 3 rfl) ?_
              refine lv_icmp_eq (tgt := 48) hx₀ hb dX1_append_32 (by decide) (fun c_7 => ?_) (fun c_7 => ?_)
              · refine lv_bipush (v := (-2)) hx₀ hb dX1_append_48 (by decide +kernel) ?_
                exact W.iret (v := (-2)) hx₀ hb hr (fun t₀ ht hW => ⟨⟨(-2), (), rfl, (lf_c_append_7 p le ri hh c_1 c_2 c_3 c_4 c_5 c_6 c_7), trivial⟩, hS.F ht⟩) hS.2.2 dX1_append_50
              · refine lv_iload hx₀ hb dX1_append_35 (lv_at hl 4 rfl) ?_
                refine lv_iconst (v := 1) hx₀ hb dX1_append_37 (by decide +kernel) ?_
                refine lv_icmp_lt (tgt := 48) hx₀ hb dX1_append_38 (by decide) (fun c_8 => ?_) (fun c_8 => ?_)
                · refine lv_bipush (v := (-2)) hx₀ hb dX1_append_48 (by decide +kernel) ?_
                  exact W.iret (v := (-2)) hx₀ hb hr (fun t₀ ht hW => ⟨⟨(-2), (), rfl, (lf_c_append_8 p le ri hh c_1 c_2 c_3 c_4 c_5 c_6 c_7 c_8), trivial⟩, hS.F ht⟩) hS.2.2 dX1_append_50
                · refine lv_iload hx₀ hb dX1_append_41 (lv_at hl 4 rfl) ?_
                  refine lv_bipush (v := 9) hx₀ hb dX1_append_43 (by decide +kernel) ?_
                  refine lv_icmp_le (tgt := 51) hx₀ hb dX1_append_45 (by decide) (fun c_9 => ?_) (fun c_9 => ?_)
                  · refine lv_aload_n hx₀ hb dX1_append_51 rfl (lv_at hl 0 rfl) ?_
                    refine va_get (D := (dC, dI)) (ci := 1) (v := .int 0) (C := RX1) (T := TX1) (N := 2) hx₀ hb hts inlX1 hown hK hP 0 rfl rfl 1 (by decide) (hts (.fieldLink RX1 15 "BittenStick$Flights" "number" "I") wd_357) (fun _ h9 => h9) rfl dX1_append_52 ?_
                    refine lv_if_lt (tgt := 67) hx₀ hb dX1_append_55 (by decide) (fun c9 => absurd c9 (by decide +kernel)) (fun _ => ?_)
                    refine lv_aload_n hx₀ hb dX1_append_58 rfl (lv_at hl 0 rfl) ?_
                    refine va_get (D := (dC, dI)) (ci := 1) (v := .int 0) (C := RX1) (T := TX1) (N := 2) hx₀ hb hts inlX1 hown hK hP 0 rfl rfl 1 (by decide) (hts (.fieldLink RX1 15 "BittenStick$Flights" "number" "I") wd_357) (fun _ h9 => h9) rfl dX1_append_59 ?_
                    refine lv_bipush (v := 8) hx₀ hb dX1_append_62 (by decide +kernel) ?_
                    refine lv_icmp_lt (tgt := 70) hx₀ hb dX1_append_64 (by decide) (fun _ => ?_) (fun c9 => absurd (by decide +kernel) c9)
                    refine lv_aload_n hx₀ hb dX1_append_70 rfl (lv_at hl 0 rfl) ?_
                    refine va_get (D := (dC, dI)) (ci := 1) (v := .ref vFl) (C := RX1) (T := TX1) (N := 2) hx₀ hb hts inlX1 hown hK hP 0 rfl rfl 0 (by decide) (hts (.fieldLink RX1 9 "BittenStick$Flights" "items" "[I") wd_77) (fun _ h9 => h9) rfl dX1_append_71 ?_
                    refine lv_iconst (v := 4) hx₀ hb dX1_append_74 (by decide +kernel) ?_
                    refine lv_aload_n hx₀ hb dX1_append_75 rfl (lv_at hl 0 rfl) ?_
                    refine va_get (D := (dC, dI)) (ci := 1) (v := .int 0) (C := RX1) (T := TX1) (N := 2) hx₀ hb hts inlX1 hown hK hP 0 rfl rfl 1 (by decide) (hts (.fieldLink RX1 15 "BittenStick$Flights" "number" "I") wd_357) (fun _ h9 => h9) rfl dX1_append_76 ?_
                    refine lv_imul hx₀ hb dX1_append_79 ?_
                    refine k_topi (v := 0) (by decide +kernel) ?_
                    refine lv_iload_n hx₀ hb dX1_append_80 rfl (lv_at hl 1 rfl) ?_
                    refine va_iast hx₀ hb hK hP hD hS 1 0 rfl rfl (by unfold vp_in; decide +kernel) dX1_append_81 (fun H locs hP hD hS => ?_)
                    have hP : va_P (dC, dI) vwCl [(aFl, .inr (1, [.ref vFl, .int 0])), (vFl, .inl (cI, 32, .inl (upd (fun _ => 0) (0 : Int32).toNatClampNeg p)))] H := hP
                    have hD : va_D A [(aFl, .inr (1, [.ref vFl, .int 0])), (vFl, .inl (cI, 32, .inl (upd (fun _ => 0) (0 : Int32).toNatClampNeg p)))] := hD
                    refine lv_aload_n hx₀ hb dX1_append_82 rfl (lv_at hl 0 rfl) ?_
                    refine va_get (D := (dC, dI)) (ci := 1) (v := .ref vFl) (C := RX1) (T := TX1) (N := 2) hx₀ hb hts inlX1 hown hK hP 0 rfl rfl 0 (by decide) (hts (.fieldLink RX1 9 "BittenStick$Flights" "items" "[I") wd_77) (fun _ h9 => h9) rfl dX1_append_83 ?_
                    refine lv_iconst (v := 4) hx₀ hb dX1_append_86 (by decide +kernel) ?_
                    refine lv_aload_n hx₀ hb dX1_append_87 rfl (lv_at hl 0 rfl) ?_
                    refine va_get (D := (dC, dI)) (ci := 1) (v := .int 0) (C := RX1) (T := TX1) (N := 2) hx₀ hb hts inlX1 hown hK hP 0 rfl rfl 1 (by decide) (hts (.fieldLink RX1 15 "BittenStick$Flights" "number" "I") wd_357) (fun _ h9 => h9) rfl dX1_append_88 ?_
                    refine lv_imul hx₀ hb dX1_append_91 ?_
                    refine k_topi (v := 0) (by decide +kernel) ?_
                    refine lv_iconst (v := 1) hx₀ hb dX1_append_92 (by decide +kernel) ?_
                    refine lv_iadd hx₀ hb dX1_append_93 ?_
                    refine k_topi (v := 1) (by decide +kernel) ?_
                    refine lv_iload_n hx₀ hb dX1_append_94 rfl (lv_at hl 2 rfl) ?_
                    refine va_iast hx₀ hb hK hP hD hS 1 0 rfl rfl (by unfold vp_in; decide +kernel) dX1_append_95 (fun H locs hP hD hS => ?_)
                    have hP : va_P (dC, dI) vwCl [(aFl, .inr (1, [.ref vFl, .int 0])), (vFl, .inl (cI, 32, .inl (upd (upd (fun _ => 0) (0 : Int32).toNatClampNeg p) (1 : Int32).toNatClampNeg le)))] H := hP
                    have hD : va_D A [(aFl, .inr (1, [.ref vFl, .int 0])), (vFl, .inl (cI, 32, .inl (upd (upd (fun _ => 0) (0 : Int32).toNatClampNeg p) (1 : Int32).toNatClampNeg le)))] := hD
                    refine lv_aload_n hx₀ hb dX1_append_96 rfl (lv_at hl 0 rfl) ?_
                    refine va_get (D := (dC, dI)) (ci := 1) (v := .ref vFl) (C := RX1) (T := TX1) (N := 2) hx₀ hb hts inlX1 hown hK hP 0 rfl rfl 0 (by decide) (hts (.fieldLink RX1 9 "BittenStick$Flights" "items" "[I") wd_77) (fun _ h9 => h9) rfl dX1_append_97 ?_
                    refine lv_iconst (v := 4) hx₀ hb dX1_append_100 (by decide +kernel) ?_
                    refine lv_aload_n hx₀ hb dX1_append_101 rfl (lv_at hl 0 rfl) ?_
                    refine va_get (D := (dC, dI)) (ci := 1) (v := .int 0) (C := RX1) (T := TX1) (N := 2) hx₀ hb hts inlX1 hown hK hP 0 rfl rfl 1 (by decide) (hts (.fieldLink RX1 15 "BittenStick$Flights" "number" "I") wd_357) (fun _ h9 => h9) rfl dX1_append_102 ?_
                    refine lv_imul hx₀ hb dX1_append_105 ?_
                    refine k_topi (v := 0) (by decide +kernel) ?_
                    refine lv_iconst (v := 2) hx₀ hb dX1_append_106 (by decide +kernel) ?_
                    refine lv_iadd hx₀ hb dX1_append_107 ?_
                    refine k_topi (v := 2) (by decide +kernel) ?_
                    refine lv_iload_n hx₀ hb dX1_append_108 rfl (lv_at hl 3 rfl) ?_
                    refine va_iast hx₀ hb hK hP hD hS 1 0 rfl rfl (by unfold vp_in; decide +kernel) dX1_append_109 (fun H locs hP hD hS => ?_)
                    have hP : va_P (dC, dI) vwCl [(aFl, .inr (1, [.ref vFl, .int 0])), (vFl, .inl (cI, 32, .inl (upd (upd (upd (fun _ => 0) (0 : Int32).toNatClampNeg p) (1 : Int32).toNatClampNeg le) (2 : Int32).toNatClampNeg ri)))] H := hP
                    have hD : va_D A [(aFl, .inr (1, [.ref vFl, .int 0])), (vFl, .inl (cI, 32, .inl (upd (upd (upd (fun _ => 0) (0 : Int32).toNatClampNeg p) (1 : Int32).toNatClampNeg le) (2 : Int32).toNatClampNeg ri)))] := hD
                    refine lv_aload_n hx₀ hb dX1_append_110 rfl (lv_at hl 0 rfl) ?_
                    refine va_get (D := (dC, dI)) (ci := 1) (v := .ref vFl) (C := RX1) (T := TX1) (N := 2) hx₀ hb hts inlX1 hown hK hP 0 rfl rfl 0 (by decide) (hts (.fieldLink RX1 9 "BittenStick$Flights" "items" "[I") wd_77) (fun _ h9 => h9) rfl dX1_append_111 ?_
                    refine lv_iconst (v := 4) hx₀ hb dX1_append_114 (by decide +kernel) ?_
                    refine lv_aload_n hx₀ hb dX1_append_115 rfl (lv_at hl 0 rfl) ?_
                    refine va_get (D := (dC, dI)) (ci := 1) (v := .int 0) (C := RX1) (T := TX1) (N := 2) hx₀ hb hts inlX1 hown hK hP 0 rfl rfl 1 (by decide) (hts (.fieldLink RX1 15 "BittenStick$Flights" "number" "I") wd_357) (fun _ h9 => h9) rfl dX1_append_116 ?_
                    refine lv_imul hx₀ hb dX1_append_119 ?_
                    refine k_topi (v := 0) (by decide +kernel) ?_
                    refine lv_iconst (v := 3) hx₀ hb dX1_append_120 (by decide +kernel) ?_
                    refine lv_iadd hx₀ hb dX1_append_121 ?_
                    refine k_topi (v := 3) (by decide +kernel) ?_
                    refine lv_iload hx₀ hb dX1_append_122 (lv_at hl 4 rfl) ?_
                    refine va_iast hx₀ hb hK hP hD hS 1 0 rfl rfl (by unfold vp_in; decide +kernel) dX1_append_124 (fun H locs hP hD hS => ?_)
                    have hP : va_P (dC, dI) vwCl [(aFl, .inr (1, [.ref vFl, .int 0])), (vFl, .inl (cI, 32, .inl (upd (upd (upd (upd (fun _ => 0) (0 : Int32).toNatClampNeg p) (1 : Int32).toNatClampNeg le) (2 : Int32).toNatClampNeg ri) (3 : Int32).toNatClampNeg hh)))] H := hP
                    have hD : va_D A [(aFl, .inr (1, [.ref vFl, .int 0])), (vFl, .inl (cI, 32, .inl (upd (upd (upd (upd (fun _ => 0) (0 : Int32).toNatClampNeg p) (1 : Int32).toNatClampNeg le) (2 : Int32).toNatClampNeg ri) (3 : Int32).toNatClampNeg hh)))] := hD
                    refine lv_aload_n hx₀ hb dX1_append_125 rfl (lv_at hl 0 rfl) ?_
                    refine lv_dup hx₀ hb dX1_append_126 rfl ?_
                    refine va_get (D := (dC, dI)) (ci := 1) (v := .int 0) (C := RX1) (T := TX1) (N := 2) hx₀ hb hts inlX1 hown hK hP 0 rfl rfl 1 (by decide) (hts (.fieldLink RX1 15 "BittenStick$Flights" "number" "I") wd_357) (fun _ h9 => h9) rfl dX1_append_127 ?_
                    refine lv_iconst (v := 1) hx₀ hb dX1_append_130 (by decide +kernel) ?_
                    refine lv_iadd hx₀ hb dX1_append_131 ?_
                    refine k_topi (v := 1) (by decide +kernel) ?_
                    refine va_put (D := (dC, dI)) (ci := 1) (v := .int 1) (ty := .int) (C := RX1) (T := TX1) (N := 2) hx₀ hb hts inlX1 tyX1 tyX1_ok nmX1 hown hK hP hD hS 0 rfl rfl 1 (by decide) (hts (.fieldLink RX1 15 "BittenStick$Flights" "number" "I") wd_357) (fun _ h9 => h9) rfl (by decide +kernel) rfl rfl (Nat.le_of_ble_eq_true rfl) dX1_append_132 (fun H locs hP hD hS => ?_)
                    have hP : va_P (dC, dI) vwCl [(aFl, .inr (1, [.ref vFl, .int 1])), (vFl, .inl (cI, 32, .inl (upd (upd (upd (upd (fun _ => 0) (0 : Int32).toNatClampNeg p) (1 : Int32).toNatClampNeg le) (2 : Int32).toNatClampNeg ri) (3 : Int32).toNatClampNeg hh)))] H := hP
                    have hD : va_D A [(aFl, .inr (1, [.ref vFl, .int 1])), (vFl, .inl (cI, 32, .inl (upd (upd (upd (upd (fun _ => 0) (0 : Int32).toNatClampNeg p) (1 : Int32).toNatClampNeg le) (2 : Int32).toNatClampNeg ri) (3 : Int32).toNatClampNeg hh)))] := hD
                    refine lv_aload_n hx₀ hb dX1_append_135 rfl (lv_at hl 0 rfl) ?_
                    refine va_get (D := (dC, dI)) (ci := 1) (v := .int 1) (C := RX1) (T := TX1) (N := 2) hx₀ hb hts inlX1 hown hK hP 0 rfl rfl 1 (by decide) (hts (.fieldLink RX1 15 "BittenStick$Flights" "number" "I") wd_357) (fun _ h9 => h9) rfl dX1_append_136 ?_
                    exact W.iret (v := 1) hx₀ hb hr (fun t₀ ht hW => ⟨⟨1, (), rfl, (lf_c_append_9 p le ri hh c_1 c_2 c_3 c_4 c_5 c_6 c_7 c_8 c_9), trivial⟩, hS.F ht⟩) hS.2.2 dX1_append_139
                  · refine lv_bipush (v := (-2)) hx₀ hb dX1_append_48 (by decide +kernel) ?_
                    exact W.iret (v := (-2)) hx₀ hb hr (fun t₀ ht hW => ⟨⟨(-2), (), rfl, (lf_c_append_10 p le ri hh c_1 c_2 c_3 c_4 c_5 c_6 c_7 c_8 c_9), trivial⟩, hS.F ht⟩) hS.2.2 dX1_append_50
set_option maxHeartbeats 4000000 in
set_option maxRecDepth 100000 in
theorem c_towns0 (l : Launch) (dC : Nat → ClassId) (dI : Nat → Nat → Nat) (cI cJ cQ : ClassId) (sz : Nat) (aLa : Nat) (vLa : Nat) : Met l yX4_towns (kW yX4_towns cX4_towns 3 (some .int)) { frames := 0, cells := 0, slots := 0, locals := 0 } (kPre dC dI cI cJ cQ sz [.ref aLa] [(aLa, .inr (4, [.ref vLa, .int 0, .int (-1), .int 0]))]) (va_Qi (fun (r : Int32) (_ : Unit) => r = 0) (fun _ t₀ => kB dC dI cI cJ cQ (va_A [(aLa, .inr (4, [.ref vLa, .int 0, .int (-1), .int 0]))] sz) [(aLa, .inr (4, [.ref vLa, .int 0, .int (-1), .int 0]))] t₀) (va_A [(aLa, .inr (4, [.ref vLa, .int 0, .int (-1), .int 0]))] sz)) 0 0 (va_A [(aLa, .inr (4, [.ref vLa, .int 0, .int (-1), .int 0]))] sz) := by
  refine Met.ofW (cc := cX4_towns) (maxL := 3) (ret := (some .int)) (by decide) rfl ?_
  intro p₀ e₀ s₀ m₀ args below meth c₀ s₁ B hml hv₀
  obtain ⟨rfl, hsz, hP, hK, hD0, hN⟩ := hv₀
  have hx₀ := B.exec
  have hb := B.bytes
  have hr := B.returns
  have hts := atoms_spec (ws := (kW yX4_towns cX4_towns 3 (some .int))) B.pre
  have hts := fun w h => hts w (List.mem_cons_of_mem _ h)
  have hown : s₀.vm.findClass RX4 = some m₀.cls := findClass_of_methodNamed B.named
  have hlocks := B.notSynchronized
  subst hsz
  have hD := hD0.self (sz := s₀.heap.size)
  generalize hAe : va_A [(aLa, .inr (4, [.ref vLa, .int 0, .int (-1), .int 0]))] s₀.heap.size = A at hD ⊢
  have hA : ∀ q : Nat, s₀.heap.size ≤ q → A q := fun q h => by rw [← hAe]; exact Or.inr h
  have hS : va_S A s₀.heap s₀.heap [] := va_S.rf
  have hP : va_P (dC, dI) vwCl [(aLa, .inr (4, [.ref vLa, .int 0, .int (-1), .int 0]))] s₀.heap := hP
  have hl := lv_entry ([.ref aLa]) (n := 3) (Nat.le_of_ble_eq_true rfl)
  rw [lg_entry_eq]
  generalize (lg_sl ([.ref aLa]) ++ List.replicate (3 - (lg_sl ([.ref aLa])).length) Slot.unset).toArray = ls at hl ⊢
  have hl : lv_has ls 3 [(0, .ref aLa)] := hl
  obtain ⟨H, hH⟩ : ∃ z : Heap, z = s₀.heap := ⟨_, rfl⟩
  rw [← hH] at hP
  have hS : va_S A s₀.heap H [] := by rw [hH]; exact hS
  refine k_heap hH ?_
  have hD : va_D A [(aLa, .inr (4, [.ref vLa, .int 0, .int (-1), .int 0]))] := hD
  obtain ⟨locs, hlo⟩ : ∃ z : List Loc, z = [] := ⟨_, rfl⟩
  rw [← hlo] at hS ⊢
  clear hlo hH hAe hD0
  refine lv_iconst (v := 0) hx₀ hb dX4_towns_0 (by decide +kernel) ?_
  refine lv_istore_n (lv' := [(1, .int 0), (0, .ref aLa)]) hx₀ hb dX4_towns_1 rfl hl (by decide) rfl (fun ls hl => ?_)
  refine lv_iconst (v := 0) hx₀ hb dX4_towns_2 (by decide +kernel) ?_
  refine lv_istore_n (lv' := [(2, .int 0), (1, .int 0), (0, .ref aLa)]) hx₀ hb dX4_towns_3 rfl hl (by decide) rfl (fun ls hl => ?_)
  refine lv_iload_n hx₀ hb dX4_towns_4 rfl (lv_at hl 0 rfl) ?_
  refine lv_aload_n hx₀ hb dX4_towns_5 rfl (lv_at hl 2 rfl) ?_
  refine va_get (D := (dC, dI)) (ci := 4) (v := .int 0) (C := RX4) (T := TX4) (N := 4) hx₀ hb hts inlX4 hown hK hP 0 rfl rfl 3 (by decide) (hts (.fieldLink RX4 19 "BittenStick$Land" "number" "I") wd_771) (fun x9 h9 => u_same (hts (.sameField "BittenStick$Land" "BittenStick$Text" "number" "I") wd_286) x9 h9) rfl dX4_towns_6 ?_
  refine lv_icmp_ge (tgt := 29) hx₀ hb dX4_towns_9 (by decide) (fun _ => ?_) (fun c9 => absurd (by decide +kernel) c9)
  refine lv_iload_n hx₀ hb dX4_towns_29 rfl (lv_at hl 1 rfl) ?_
  have hP9 := hP.sub (ws' := [(aLa, .inr (4, [.ref vLa, .int 0, .int (-1), .int 0]))]) [0] rfl
  have hD9 := hD.sub (ws' := [(aLa, .inr (4, [.ref vLa, .int 0, .int (-1), .int 0]))]) [0] (by decide) rfl
  exact W.iret (v := 0) hx₀ hb hr (fun t₀ ht hW => ⟨⟨0, (), rfl, rfl, by rw [ht]; exact hP9, va_K.moved hW.alike hK, hD9⟩, hS.F ht⟩) hS.2.2 dX4_towns_30
