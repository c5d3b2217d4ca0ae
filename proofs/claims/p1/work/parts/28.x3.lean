set_option maxHeartbeats 4000000 in
set_option maxRecDepth 100000 in
theorem c_renew (l : Launch) (dC : Nat → ClassId) (dI : Nat → Nat → Nat) (cI cJ cQ : ClassId) (sz : Nat) (q : Nat) (fo : Int32) (n : Int32) (qi : Nat) : Met l yX8_renew (kW yX8_renew cX8_renew 4 none) { frames := 1, cells := 0, slots := 0, locals := 21 } (kPre dC dI cI cJ cQ sz [.ref q, .int fo, .int n] [(q, .inr (8, [.ref qi, .int 1, .int 0, .int 0])), (qi, .inl (cI, 60, .inl (fun _ => 0)))]) (va_Qv (fun (_ : Unit) => True) (fun _ _ => True) (va_A [(q, .inr (8, [.ref qi, .int 1, .int 0, .int 0])), (qi, .inl (cI, 60, .inl (fun _ => 0)))] sz)) 0 0 (va_A [(q, .inr (8, [.ref qi, .int 1, .int 0, .int 0])), (qi, .inl (cI, 60, .inl (fun _ => 0)))] sz) := by
  refine Met.ofW (cc := cX8_renew) (maxL := 4) (ret := none) (by decide) rfl ?_
  intro p₀ e₀ s₀ m₀ args below meth c₀ s₁ B hml hv₀
  obtain ⟨rfl, hsz, hP, hK, hD0, hN⟩ := hv₀
  have hx₀ := B.exec
  have hb := B.bytes
  have hr := B.returns
  have hts := atoms_spec (ws := (kW yX8_renew cX8_renew 4 none)) B.pre
  have hts := fun w h => hts w (List.mem_cons_of_mem _ h)
  have hown : s₀.vm.findClass RX8 = some m₀.cls := findClass_of_methodNamed B.named
  have hlocks := B.notSynchronized
  subst hsz
  have hD := hD0.self (sz := s₀.heap.size)
  generalize hAe : va_A [(q, .inr (8, [.ref qi, .int 1, .int 0, .int 0])), (qi, .inl (cI, 60, .inl (fun _ => 0)))] s₀.heap.size = A at hD ⊢
  have hA : ∀ q : Nat, s₀.heap.size ≤ q → A q := fun q h => by rw [← hAe]; exact Or.inr h
  have hS : va_S A s₀.heap s₀.heap [] := va_S.rf
  have hP : va_P (dC, dI) vwCl [(q, .inr (8, [.ref qi, .int 1, .int 0, .int 0])), (qi, .inl (cI, 60, .inl (fun _ => 0)))] s₀.heap := hP
  have hl := lv_entry ([.ref q, .int fo, .int n]) (n := 4) (Nat.le_of_ble_eq_true rfl)
  rw [lg_entry_eq]
  generalize (lg_sl ([.ref q, .int fo, .int n]) ++ List.replicate (4 - (lg_sl ([.ref q, .int fo, .int n])).length) Slot.unset).toArray = ls at hl ⊢
  have hl : lv_has ls 4 [(0, .ref q), (1, .int fo), (2, .int n)] := hl
  obtain ⟨H, hH⟩ : ∃ z : Heap, z = s₀.heap := ⟨_, rfl⟩
  rw [← hH] at hP
  have hS : va_S A s₀.heap H [] := by rw [hH]; exact hS
  refine k_heap hH ?_
  have hD : va_D A [(q, .inr (8, [.ref qi, .int 1, .int 0, .int 0])), (qi, .inl (cI, 60, .inl (fun _ => 0)))] := hD
  obtain ⟨locs, hlo⟩ : ∃ z : List Loc, z = [] := ⟨_, rfl⟩
  rw [← hlo] at hS ⊢
  clear hlo hH hAe hD0
  refine lv_aload_n hx₀ hb dX8_renew_0 rfl (lv_at hl 0 rfl) ?_
  refine lv_iconst (v := 0) hx₀ hb dX8_renew_1 (by decide +kernel) ?_
  refine va_put (D := (dC, dI)) (ci := 8) (v := .int 0) (ty := .boolean) (C := RX8) (T := TX8) (N := 4) hx₀ hb hts inlX8 tyX8 tyX8_ok nmX8 hown hK hP hD hS 0 rfl rfl 1 (by decide) (hts (.fieldLink RX8 15 "BittenStick$Sheet" "isLost" "Z") wd_110) (fun _ h9 => h9) rfl (by decide +kernel) (by decide +kernel) (by decide +kernel) (Nat.le_of_ble_eq_true rfl) dX8_renew_2 (fun H locs hP hD hS => ?_)
  have hP : va_P (dC, dI) vwCl [(q, .inr (8, [.ref qi, .int 0, .int 0, .int 0])), (qi, .inl (cI, 60, .inl (fun _ => 0)))] H := hP
  have hD : va_D A [(q, .inr (8, [.ref qi, .int 0, .int 0, .int 0])), (qi, .inl (cI, 60, .inl (fun _ => 0)))] := hD
  refine lv_aload_n hx₀ hb dX8_renew_5 rfl (lv_at hl 0 rfl) ?_
  refine lv_iload_n hx₀ hb dX8_renew_6 rfl (lv_at hl 1 rfl) ?_
  refine va_put (D := (dC, dI)) (ci := 8) (v := .int fo) (ty := .int) (C := RX8) (T := TX8) (N := 4) hx₀ hb hts inlX8 tyX8 tyX8_ok nmX8 hown hK hP hD hS 0 rfl rfl 2 (by decide) (hts (.fieldLink RX8 19 "BittenStick$Sheet" "form" "I") wd_869) (fun _ h9 => h9) rfl (by decide +kernel) rfl rfl (Nat.le_of_ble_eq_true rfl) dX8_renew_7 (fun H locs hP hD hS => ?_)
  have hP : va_P (dC, dI) vwCl [(q, .inr (8, [.ref qi, .int 0, .int fo, .int 0])), (qi, .inl (cI, 60, .inl (fun _ => 0)))] H := hP
  have hD : va_D A [(q, .inr (8, [.ref qi, .int 0, .int fo, .int 0])), (qi, .inl (cI, 60, .inl (fun _ => 0)))] := hD
  refine lv_aload_n hx₀ hb dX8_renew_10 rfl (lv_at hl 0 rfl) ?_
  refine lv_iconst (v := 0) hx₀ hb dX8_renew_11 (by decide +kernel) ?_
  refine lv_iload_n hx₀ hb dX8_renew_12 rfl (lv_at hl 2 rfl) ?_
  refine lv_bipush (v := 60) hx₀ hb dX8_renew_13 (by decide +kernel) ?_
  refine va_mmin hx₀ hb (by rw [hml]; exact hl.1.symm) hown (hts (.methodLink RX8 23 Lib.Math.min.name) wd_870) (hts (.static Lib.Math.min.name) wd_219) (hts (.initialized "java/lang/Math") wd_63) (hts (.code Lib.Math.min.name Lib.Math.min.code 2 (some .int)) wd_220) (by decide) (Nat.le_of_ble_eq_true rfl) (by decide) (by decide) dX8_renew_15 ?_
  refine va_mmax hx₀ hb (by rw [hml]; exact hl.1.symm) hown (hts (.methodLink RX8 29 Lib.Math.max.name) wd_871) (hts (.static Lib.Math.max.name) wd_62) (hts (.initialized "java/lang/Math") wd_63) (hts (.code Lib.Math.max.name Lib.Math.max.code 2 (some .int)) wd_64) (by decide) (Nat.le_of_ble_eq_true rfl) (by decide) (by decide) dX8_renew_18 ?_
  refine va_put (D := (dC, dI)) (ci := 8) (v := .int (if 0 < (if 60 < n then 60 else n) then (if 60 < n then 60 else n) else 0)) (ty := .int) (C := RX8) (T := TX8) (N := 4) hx₀ hb hts inlX8 tyX8 tyX8_ok nmX8 hown hK hP hD hS 0 rfl rfl 3 (by decide) (hts (.fieldLink RX8 32 "BittenStick$Sheet" "size" "I") wd_393) (fun _ h9 => h9) rfl (by decide +kernel) rfl rfl (Nat.le_of_ble_eq_true rfl) dX8_renew_21 (fun H locs hP hD hS => ?_)
  have hP : va_P (dC, dI) vwCl [(q, .inr (8, [.ref qi, .int 0, .int fo, .int (if 0 < (if 60 < n then 60 else n) then (if 60 < n then 60 else n) else 0)])), (qi, .inl (cI, 60, .inl (fun _ => 0)))] H := hP
  have hD : va_D A [(q, .inr (8, [.ref qi, .int 0, .int fo, .int (if 0 < (if 60 < n then 60 else n) then (if 60 < n then 60 else n) else 0)])), (qi, .inl (cI, 60, .inl (fun _ => 0)))] := hD
  refine lv_iconst (v := 0) hx₀ hb dX8_renew_24 (by decide +kernel) ?_
  refine lv_istore_n (lv' := [(3, .int 0), (0, .ref q), (1, .int fo), (2, .int n)]) hx₀ hb dX8_renew_25 rfl hl (by decide) rfl (fun ls hl => ?_)
  refine (?key : ∀ (j k : Nat) (f9 : Nat → Int32) (H : Heap) (locs : List Loc) (ls : Array Slot), k + j = 60 → va_P (dC, dI) vwCl [(q, .inr (8, [.ref qi, .int 0, .int fo, .int (if 0 < (if 60 < n then 60 else n) then (if 60 < n then 60 else n) else 0)])), (qi, .inl (cI, 60, .inl f9))] H → va_D A [(q, .inr (8, [.ref qi, .int 0, .int fo, .int (if 0 < (if 60 < n then 60 else n) then (if 60 < n then 60 else n) else 0)])), (qi, .inl (cI, 60, .inl f9))] → va_S A s₀.heap H locs → lv_has ls 4 [(3, .int (nI k)), (0, .ref q), (1, .int fo), (2, .int n)] → W p₀ l e₀ _ s₀ m₀ _ below meth c₀ H locs _ _ _ (F0 m₀ 26 ls [])) 60 0 _ H locs ls (by omega) hP hD hS hl
  intro j
  induction j using Nat.strongRecOn with
  | ind j ih =>
    intro k f9 H locs ls hj hP hD hS hl
    refine lv_iload_n hx₀ hb dX8_renew_26 rfl (lv_at hl 0 rfl) ?_
    refine lv_bipush (v := 60) hx₀ hb dX8_renew_27 (by decide +kernel) ?_
    refine lv_icmp_ge (tgt := 45) hx₀ hb dX8_renew_29 (by decide) (fun c_1 => ?_) (fun c_1 => ?_)
    · exact W.vret hx₀ hb hr (fun t₀ ht hW => ⟨⟨(), rfl, trivial, trivial⟩, hS.F ht⟩) hS.2.2 dX8_renew_45
    · refine lv_aload_n hx₀ hb dX8_renew_32 rfl (lv_at hl 1 rfl) ?_
      refine va_get (D := (dC, dI)) (ci := 8) (v := .ref qi) (C := RX8) (T := TX8) (N := 4) hx₀ hb hts inlX8 hown hK hP 0 rfl rfl 0 (by decide) (hts (.fieldLink RX8 9 "BittenStick$Sheet" "items" "[I") wd_109) (fun _ h9 => h9) rfl dX8_renew_33 ?_
      refine lv_iload_n hx₀ hb dX8_renew_36 rfl (lv_at hl 0 rfl) ?_
      refine lv_iconst (v := 0) hx₀ hb dX8_renew_37 (by decide +kernel) ?_
      refine va_iast hx₀ hb hK hP hD hS 1 0 rfl rfl (vp_in_nI (show k < 60 by have := k_ltN (n := 60) rfl (by omega) (by omega) c_1; omega) (by omega)) dX8_renew_38 (fun H locs hP hD hS => ?_)
      have hP : va_P (dC, dI) vwCl [(q, .inr (8, [.ref qi, .int 0, .int fo, .int (if 0 < (if 60 < n then 60 else n) then (if 60 < n then 60 else n) else 0)])), (qi, .inl (cI, 60, .inl (upd f9 (nI k).toNatClampNeg 0)))] H := hP
      have hD : va_D A [(q, .inr (8, [.ref qi, .int 0, .int fo, .int (if 0 < (if 60 < n then 60 else n) then (if 60 < n then 60 else n) else 0)])), (qi, .inl (cI, 60, .inl (upd f9 (nI k).toNatClampNeg 0)))] := hD
      refine lv_iinc (v := (nI k) + 1) (lv' := [(3, .int ((nI k) + 1)), (0, .ref q), (1, .int fo), (2, .int n)]) hx₀ hb dX8_renew_39 hl (k := 0) rfl rfl (by decide) rfl (fun ls hl => ?_)
      refine lv_goto (tgt := 26) hx₀ hb dX8_renew_42 (by decide) ?_
      have hl : lv_has ls 4 [(3, .int (nI (k + 1))), (0, .ref q), (1, .int fo), (2, .int n)] := by rw [← nI_1 k]; exact lv_sub hl [0, 1, 2, 3] rfl
      have hkn : k < 60 := k_ltN (n := 60) rfl (by omega) (by omega) c_1
      exact ih (j - 1) (by omega) (k + 1) _ _ _ _ (by omega) hP hD hS hl
theorem lf_x_sheet_1 (s : Int32) (m : Int32) (n : Int32) (c_2 : s = 0) (c_4 : 0 ≤ m ∧ m ≤ 2) (c_5 : n ≤ 60) (c_6 : 0 ≤ n) : (n : Int32) = if 0 ≤ s ∧ s ≤ 3 ∧ 0 ≤ m ∧ m ≤ 2 ∧ n ≤ 60 then (if n < 0 then -15 else n) else -2 := by
  repeat first | rfl | rw [if_pos (by (first | omega | (simp only [Int64.le_iff_toInt_le, Int64.lt_iff_toInt_lt, Int32.le_iff_toInt_le, Int32.lt_iff_toInt_lt, ← Int32.toInt_inj, ← Int64.toInt_inj, Int32.toInt_toInt64, (show (-15 : Int32).toInt = -15 from by decide), (show (-15 : Int64).toInt = -15 from by decide), (show (-2 : Int32).toInt = -2 from by decide), (show (-2 : Int64).toInt = -2 from by decide), (show (0 : Int32).toInt = 0 from by decide), (show (0 : Int64).toInt = 0 from by decide), (show (2 : Int32).toInt = 2 from by decide), (show (2 : Int64).toInt = 2 from by decide), (show (3 : Int32).toInt = 3 from by decide), (show (3 : Int64).toInt = 3 from by decide), (show (60 : Int32).toInt = 60 from by decide), (show (60 : Int64).toInt = 60 from by decide)] at *; omega)))] | rw [if_neg (by (first | omega | (simp only [Int64.le_iff_toInt_le, Int64.lt_iff_toInt_lt, Int32.le_iff_toInt_le, Int32.lt_iff_toInt_lt, ← Int32.toInt_inj, ← Int64.toInt_inj, Int32.toInt_toInt64, (show (-15 : Int32).toInt = -15 from by decide), (show (-15 : Int64).toInt = -15 from by decide), (show (-2 : Int32).toInt = -2 from by decide), (show (-2 : Int64).toInt = -2 from by decide), (show (0 : Int32).toInt = 0 from by decide), (show (0 : Int64).toInt = 0 from by decide), (show (2 : Int32).toInt = 2 from by decide), (show (2 : Int64).toInt = 2 from by decide), (show (3 : Int32).toInt = 3 from by decide), (show (3 : Int64).toInt = 3 from by decide), (show (60 : Int32).toInt = 60 from by decide), (show (60 : Int64).toInt = 60 from by decide)] at *; omega)))]
theorem lf_x_sheet_2 (s : Int32) (m : Int32) (n : Int32) (c_2 : s = 0) (c_4 : 0 ≤ m ∧ m ≤ 2) (c_5 : n ≤ 60) (c_6 : ¬ 0 ≤ n) : ((-15) : Int32) = if 0 ≤ s ∧ s ≤ 3 ∧ 0 ≤ m ∧ m ≤ 2 ∧ n ≤ 60 then (if n < 0 then -15 else n) else -2 := by
  repeat first | rfl | rw [if_pos (by (first | omega | (simp only [Int64.le_iff_toInt_le, Int64.lt_iff_toInt_lt, Int32.le_iff_toInt_le, Int32.lt_iff_toInt_lt, ← Int32.toInt_inj, ← Int64.toInt_inj, Int32.toInt_toInt64, (show (-15 : Int32).toInt = -15 from by decide), (show (-15 : Int64).toInt = -15 from by decide), (show (-2 : Int32).toInt = -2 from by decide), (show (-2 : Int64).toInt = -2 from by decide), (show (0 : Int32).toInt = 0 from by decide), (show (0 : Int64).toInt = 0 from by decide), (show (2 : Int32).toInt = 2 from by decide), (show (2 : Int64).toInt = 2 from by decide), (show (3 : Int32).toInt = 3 from by decide), (show (3 : Int64).toInt = 3 from by decide), (show (60 : Int32).toInt = 60 from by decide), (show (60 : Int64).toInt = 60 from by decide)] at *; omega)))] | rw [if_neg (by (first | omega | (simp only [Int64.le_iff_toInt_le, Int64.lt_iff_toInt_lt, Int32.le_iff_toInt_le, Int32.lt_iff_toInt_lt, ← Int32.toInt_inj, ← Int64.toInt_inj, Int32.toInt_toInt64, (show (-15 : Int32).toInt = -15 from by decide), (show (-15 : Int64).toInt = -15 from by decide), (show (-2 : Int32).toInt = -2 from by decide), (show (-2 : Int64).toInt = -2 from by decide), (show (0 : Int32).toInt = 0 from by decide), (show (0 : Int64).toInt = 0 from by decide), (show (2 : Int32).toInt = 2 from by decide), (show (2 : Int64).toInt = 2 from by decide), (show (3 : Int32).toInt = 3 from by decide), (show (3 : Int64).toInt = 3 from by decide), (show (60 : Int32).toInt = 60 from by decide), (show (60 : Int64).toInt = 60 from by decide)] at *; omega)))]
theorem lf_x_sheet_3 (s : Int32) (m : Int32) (n : Int32) (c_2 : s = 0) (c_4 : 0 ≤ m ∧ m ≤ 2) (c_5 : ¬ n ≤ 60) : ((-2) : Int32) = if 0 ≤ s ∧ s ≤ 3 ∧ 0 ≤ m ∧ m ≤ 2 ∧ n ≤ 60 then (if n < 0 then -15 else n) else -2 := by
  repeat first | rfl | rw [if_pos (by (first | omega | (simp only [Int64.le_iff_toInt_le, Int64.lt_iff_toInt_lt, Int32.le_iff_toInt_le, Int32.lt_iff_toInt_lt, ← Int32.toInt_inj, ← Int64.toInt_inj, Int32.toInt_toInt64, (show (-15 : Int32).toInt = -15 from by decide), (show (-15 : Int64).toInt = -15 from by decide), (show (-2 : Int32).toInt = -2 from by decide), (show (-2 : Int64).toInt = -2 from by decide), (show (0 : Int32).toInt = 0 from by decide), (show (0 : Int64).toInt = 0 from by decide), (show (2 : Int32).toInt = 2 from by decide), (show (2 : Int64).toInt = 2 from by decide), (show (3 : Int32).toInt = 3 from by decide), (show (3 : Int64).toInt = 3 from by decide), (show (60 : Int32).toInt = 60 from by decide), (show (60 : Int64).toInt = 60 from by decide)] at *; omega)))] | rw [if_neg (by (first | omega | (simp only [Int64.le_iff_toInt_le, Int64.lt_iff_toInt_lt, Int32.le_iff_toInt_le, Int32.lt_iff_toInt_lt, ← Int32.toInt_inj, ← Int64.toInt_inj, Int32.toInt_toInt64, (show (-15 : Int32).toInt = -15 from by decide), (show (-15 : Int64).toInt = -15 from by decide), (show (-2 : Int32).toInt = -2 from by decide), (show (-2 : Int64).toInt = -2 from by decide), (show (0 : Int32).toInt = 0 from by decide), (show (0 : Int64).toInt = 0 from by decide), (show (2 : Int32).toInt = 2 from by decide), (show (2 : Int64).toInt = 2 from by decide), (show (3 : Int32).toInt = 3 from by decide), (show (3 : Int64).toInt = 3 from by decide), (show (60 : Int32).toInt = 60 from by decide), (show (60 : Int64).toInt = 60 from by decide)] at *; omega)))]
theorem lf_x_sheet_4 (s : Int32) (m : Int32) (n : Int32) (c_2 : s = 0) (c_4 : ¬ (0 ≤ m ∧ m ≤ 2)) : ((-2) : Int32) = if 0 ≤ s ∧ s ≤ 3 ∧ 0 ≤ m ∧ m ≤ 2 ∧ n ≤ 60 then (if n < 0 then -15 else n) else -2 := by
  repeat first | rfl | rw [if_pos (by (first | omega | (simp only [Int64.le_iff_toInt_le, Int64.lt_iff_toInt_lt, Int32.le_iff_toInt_le, Int32.lt_iff_toInt_lt, ← Int32.toInt_inj, ← Int64.toInt_inj, Int32.toInt_toInt64, (show (-15 : Int32).toInt = -15 from by decide), (show (-15 : Int64).toInt = -15 from by decide), (show (-2 : Int32).toInt = -2 from by decide), (show (-2 : Int64).toInt = -2 from by decide), (show (0 : Int32).toInt = 0 from by decide), (show (0 : Int64).toInt = 0 from by decide), (show (2 : Int32).toInt = 2 from by decide), (show (2 : Int64).toInt = 2 from by decide), (show (3 : Int32).toInt = 3 from by decide), (show (3 : Int64).toInt = 3 from by decide), (show (60 : Int32).toInt = 60 from by decide), (show (60 : Int64).toInt = 60 from by decide)] at *; omega)))] | rw [if_neg (by (first | omega | (simp only [Int64.le_iff_toInt_le, Int64.lt_iff_toInt_lt, Int32.le_iff_toInt_le, Int32.lt_iff_toInt_lt, ← Int32.toInt_inj, ← Int64.toInt_inj, Int32.toInt_toInt64, (show (-15 : Int32).toInt = -15 from by decide), (show (-15 : Int64).toInt = -15 from by decide), (show (-2 : Int32).toInt = -2 from by decide), (show (-2 : Int64).toInt = -2 from by decide), (show (0 : Int32).toInt = 0 from by decide), (show (0 : Int64).toInt = 0 from by decide), (show (2 : Int32).toInt = 2 from by decide), (show (2 : Int64).toInt = 2 from by decide), (show (3 : Int32).toInt = 3 from by decide), (show (3 : Int64).toInt = 3 from by decide), (show (60 : Int32).toInt = 60 from by decide), (show (60 : Int64).toInt = 60 from by decide)] at *; omega)))]
theorem lf_x_sheet_5 (s : Int32) (m : Int32) (n : Int32) (c_2 : ¬ (s = 0)) (c_9 : s = 1) (c_11 : 0 ≤ m ∧ m ≤ 2) (c_12 : n ≤ 60) (c_13 : 0 ≤ n) : (n : Int32) = if 0 ≤ s ∧ s ≤ 3 ∧ 0 ≤ m ∧ m ≤ 2 ∧ n ≤ 60 then (if n < 0 then -15 else n) else -2 := by
  repeat first | rfl | rw [if_pos (by (first | omega | (simp only [Int64.le_iff_toInt_le, Int64.lt_iff_toInt_lt, Int32.le_iff_toInt_le, Int32.lt_iff_toInt_lt, ← Int32.toInt_inj, ← Int64.toInt_inj, Int32.toInt_toInt64, (show (-15 : Int32).toInt = -15 from by decide), (show (-15 : Int64).toInt = -15 from by decide), (show (-2 : Int32).toInt = -2 from by decide), (show (-2 : Int64).toInt = -2 from by decide), (show (0 : Int32).toInt = 0 from by decide), (show (0 : Int64).toInt = 0 from by decide), (show (1 : Int32).toInt = 1 from by decide), (show (1 : Int64).toInt = 1 from by decide), (show (2 : Int32).toInt = 2 from by decide), (show (2 : Int64).toInt = 2 from by decide), (show (3 : Int32).toInt = 3 from by decide), (show (3 : Int64).toInt = 3 from by decide), (show (60 : Int32).toInt = 60 from by decide), (show (60 : Int64).toInt = 60 from by decide)] at *; omega)))] | rw [if_neg (by (first | omega | (simp only [Int64.le_iff_toInt_le, Int64.lt_iff_toInt_lt, Int32.le_iff_toInt_le, Int32.lt_iff_toInt_lt, ← Int32.toInt_inj, ← Int64.toInt_inj, Int32.toInt_toInt64, (show (-15 : Int32).toInt = -15 from by decide), (show (-15 : Int64).toInt = -15 from by decide), (show (-2 : Int32).toInt = -2 from by decide), (show (-2 : Int64).toInt = -2 from by decide), (show (0 : Int32).toInt = 0 from by decide), (show (0 : Int64).toInt = 0 from by decide), (show (1 : Int32).toInt = 1 from by decide), (show (1 : Int64).toInt = 1 from by decide), (show (2 : Int32).toInt = 2 from by decide), (show (2 : Int64).toInt = 2 from by decide), (show (3 : Int32).toInt = 3 from by decide), (show (3 : Int64).toInt = 3 from by decide), (show (60 : Int32).toInt = 60 from by decide), (show (60 : Int64).toInt = 60 from by decide)] at *; omega)))]
theorem lf_x_sheet_6 (s : Int32) (m : Int32) (n : Int32) (c_2 : ¬ (s = 0)) (c_9 : s = 1) (c_11 : 0 ≤ m ∧ m ≤ 2) (c_12 : n ≤ 60) (c_13 : ¬ 0 ≤ n) : ((-15) : Int32) = if 0 ≤ s ∧ s ≤ 3 ∧ 0 ≤ m ∧ m ≤ 2 ∧ n ≤ 60 then (if n < 0 then -15 else n) else -2 := by
  repeat first | rfl | rw [if_pos (by (first | omega | (simp only [Int64.le_iff_toInt_le, Int64.lt_iff_toInt_lt, Int32.le_iff_toInt_le, Int32.lt_iff_toInt_lt, ← Int32.toInt_inj, ← Int64.toInt_inj, Int32.toInt_toInt64, (show (-15 : Int32).toInt = -15 from by decide), (show (-15 : Int64).toInt = -15 from by decide), (show (-2 : Int32).toInt = -2 from by decide), (show (-2 : Int64).toInt = -2 from by decide), (show (0 : Int32).toInt = 0 from by decide), (show (0 : Int64).toInt = 0 from by decide), (show (1 : Int32).toInt = 1 from by decide), (show (1 : Int64).toInt = 1 from by decide), (show (2 : Int32).toInt = 2 from by decide), (show (2 : Int64).toInt = 2 from by decide), (show (3 : Int32).toInt = 3 from by decide), (show (3 : Int64).toInt = 3 from by decide), (show (60 : Int32).toInt = 60 from by decide), (show (60 : Int64).toInt = 60 from by decide)] at *; omega)))] | rw [if_neg (by (first | omega | (simp only [Int64.le_iff_toInt_le, Int64.lt_iff_toInt_lt, Int32.le_iff_toInt_le, Int32.lt_iff_toInt_lt, ← Int32.toInt_inj, ← Int64.toInt_inj, Int32.toInt_toInt64, (show (-15 : Int32).toInt = -15 from by decide), (show (-15 : Int64).toInt = -15 from by decide), (show (-2 : Int32).toInt = -2 from by decide), (show (-2 : Int64).toInt = -2 from by decide), (show (0 : Int32).toInt = 0 from by decide), (show (0 : Int64).toInt = 0 from by decide), (show (1 : Int32).toInt = 1 from by decide), (show (1 : Int64).toInt = 1 from by decide), (show (2 : Int32).toInt = 2 from by decide), (show (2 : Int64).toInt = 2 from by decide), (show (3 : Int32).toInt = 3 from by decide), (show (3 : Int64).toInt = 3 from by decide), (show (60 : Int32).toInt = 60 from by decide), (show (60 : Int64).toInt = 60 from by decide)] at *; omega)))]
theorem lf_x_sheet_7 (s : Int32) (m : Int32) (n : Int32) (c_2 : ¬ (s = 0)) (c_9 : s = 1) (c_11 : 0 ≤ m ∧ m ≤ 2) (c_12 : ¬ n ≤ 60) : ((-2) : Int32) = if 0 ≤ s ∧ s ≤ 3 ∧ 0 ≤ m ∧ m ≤ 2 ∧ n ≤ 60 then (if n < 0 then -15 else n) else -2 := by
  repeat first | rfl | rw [if_pos (by (first | omega | (simp only [Int64.le_iff_toInt_le, Int64.lt_iff_toInt_lt, Int32.le_iff_toInt_le, Int32.lt_iff_toInt_lt, ← Int32.toInt_inj, ← Int64.toInt_inj, Int32.toInt_toInt64, (show (-15 : Int32).toInt = -15 from by decide), (show (-15 : Int64).toInt = -15 from by decide), (show (-2 : Int32).toInt = -2 from by decide), (show (-2 : Int64).toInt = -2 from by decide), (show (0 : Int32).toInt = 0 from by decide), (show (0 : Int64).toInt = 0 from by decide), (show (1 : Int32).toInt = 1 from by decide), (show (1 : Int64).toInt = 1 from by decide), (show (2 : Int32).toInt = 2 from by decide), (show (2 : Int64).toInt = 2 from by decide), (show (3 : Int32).toInt = 3 from by decide), (show (3 : Int64).toInt = 3 from by decide), (show (60 : Int32).toInt = 60 from by decide), (show (60 : Int64).toInt = 60 from by decide)] at *; omega)))] | rw [if_neg (by (first | omega | (simp only [Int64.le_iff_toInt_le, Int64.lt_iff_toInt_lt, Int32.le_iff_toInt_le, Int32.lt_iff_toInt_lt, ← Int32.toInt_inj, ← Int64.toInt_inj, Int32.toInt_toInt64, (show (-15 : Int32).toInt = -15 from by decide), (show (-15 : Int64).toInt = -15 from by decide), (show (-2 : Int32).toInt = -2 from by decide), (show (-2 : Int64).toInt = -2 from by decide), (show (0 : Int32).toInt = 0 from by decide), (show (0 : Int64).toInt = 0 from by decide), (show (1 : Int32).toInt = 1 from by decide), (show (1 : Int64).toInt = 1 from by decide), (show (2 : Int32).toInt = 2 from by decide), (show (2 : Int64).toInt = 2 from by decide), (show (3 : Int32).toInt = 3 from by decide), (show (3 : Int64).toInt = 3 from by decide), (show (60 : Int32).toInt = 60 from by decide), (show (60 : Int64).toInt = 60 from by decide)] at *; omega)))]
theorem lf_x_sheet_8 (s : Int32) (m : Int32) (n : Int32) (c_2 : ¬ (s = 0)) (c_9 : s = 1) (c_11 : ¬ (0 ≤ m ∧ m ≤ 2)) : ((-2) : Int32) = if 0 ≤ s ∧ s ≤ 3 ∧ 0 ≤ m ∧ m ≤ 2 ∧ n ≤ 60 then (if n < 0 then -15 else n) else -2 := by
  repeat first | rfl | rw [if_pos (by (first | omega | (simp only [Int64.le_iff_toInt_le, Int64.lt_iff_toInt_lt, Int32.le_iff_toInt_le, Int32.lt_iff_toInt_lt, ← Int32.toInt_inj, ← Int64.toInt_inj, Int32.toInt_toInt64, (show (-15 : Int32).toInt = -15 from by decide), (show (-15 : Int64).toInt = -15 from by decide), (show (-2 : Int32).toInt = -2 from by decide), (show (-2 : Int64).toInt = -2 from by decide), (show (0 : Int32).toInt = 0 from by decide), (show (0 : Int64).toInt = 0 from by decide), (show (1 : Int32).toInt = 1 from by decide), (show (1 : Int64).toInt = 1 from by decide), (show (2 : Int32).toInt = 2 from by decide), (show (2 : Int64).toInt = 2 from by decide), (show (3 : Int32).toInt = 3 from by decide), (show (3 : Int64).toInt = 3 from by decide), (show (60 : Int32).toInt = 60 from by decide), (show (60 : Int64).toInt = 60 from by decide)] at *; omega)))] | rw [if_neg (by (first | omega | (simp only [Int64.le_iff_toInt_le, Int64.lt_iff_toInt_lt, Int32.le_iff_toInt_le, Int32.lt_iff_toInt_lt, ← Int32.toInt_inj, ← Int64.toInt_inj, Int32.toInt_toInt64, (show (-15 : Int32).toInt = -15 from by decide), (show (-15 : Int64).toInt = -15 from by decide), (show (-2 : Int32).toInt = -2 from by decide), (show (-2 : Int64).toInt = -2 from by decide), (show (0 : Int32).toInt = 0 from by decide), (show (0 : Int64).toInt = 0 from by decide), (show (1 : Int32).toInt = 1 from by decide), (show (1 : Int64).toInt = 1 from by decide), (show (2 : Int32).toInt = 2 from by decide), (show (2 : Int64).toInt = 2 from by decide), (show (3 : Int32).toInt = 3 from by decide), (show (3 : Int64).toInt = 3 from by decide), (show (60 : Int32).toInt = 60 from by decide), (show (60 : Int64).toInt = 60 from by decide)] at *; omega)))]
theorem lf_x_sheet_9 (s : Int32) (m : Int32) (n : Int32) (c_2 : ¬ (s = 0)) (c_9 : ¬ (s = 1)) (c_16 : s = 2) (c_18 : 0 ≤ m ∧ m ≤ 2) (c_19 : n ≤ 60) (c_20 : 0 ≤ n) : (n : Int32) = if 0 ≤ s ∧ s ≤ 3 ∧ 0 ≤ m ∧ m ≤ 2 ∧ n ≤ 60 then (if n < 0 then -15 else n) else -2 := by
  repeat first | rfl | rw [if_pos (by (first | omega | (simp only [Int64.le_iff_toInt_le, Int64.lt_iff_toInt_lt, Int32.le_iff_toInt_le, Int32.lt_iff_toInt_lt, ← Int32.toInt_inj, ← Int64.toInt_inj, Int32.toInt_toInt64, (show (-15 : Int32).toInt = -15 from by decide), (show (-15 : Int64).toInt = -15 from by decide), (show (-2 : Int32).toInt = -2 from by decide), (show (-2 : Int64).toInt = -2 from by decide), (show (0 : Int32).toInt = 0 from by decide), (show (0 : Int64).toInt = 0 from by decide), (show (1 : Int32).toInt = 1 from by decide), (show (1 : Int64).toInt = 1 from by decide), (show (2 : Int32).toInt = 2 from by decide), (show (2 : Int64).toInt = 2 from by decide), (show (3 : Int32).toInt = 3 from by decide), (show (3 : Int64).toInt = 3 from by decide), (show (60 : Int32).toInt = 60 from by decide), (show (60 : Int64).toInt = 60 from by decide)] at *; omega)))] | rw [if_neg (by (first | omega | (simp only [Int64.le_iff_toInt_le, Int64.lt_iff_toInt_lt, Int32.le_iff_toInt_le, Int32.lt_iff_toInt_lt, ← Int32.toInt_inj, ← Int64.toInt_inj, Int32.toInt_toInt64, (show (-15 : Int32).toInt = -15 from by decide), (show (-15 : Int64).toInt = -15 from by decide), (show (-2 : Int32).toInt = -2 from by decide), (show (-2 : Int64).toInt = -2 from by decide), (show (0 : Int32).toInt = 0 from by decide), (show (0 : Int64).toInt = 0 from by decide), (show (1 : Int32).toInt = 1 from by decide), (show (1 : Int64).toInt = 1 from by decide), (show (2 : Int32).toInt = 2 from by decide), (show (2 : Int64).toInt = 2 from by decide), (show (3 : Int32).toInt = 3 from by decide), (show (3 : Int64).toInt = 3 from by decide), (show (60 : Int32).toInt = 60 from by decide), (show (60 : Int64).toInt = 60 from by decide)] at *; omega)))]
theorem lf_x_sheet_10 (s : Int32) (m : Int32) (n : Int32) (c_2 : ¬ (s = 0)) (c_9 : ¬ (s = 1)) (c_16 : s = 2) (c_18 : 0 ≤ m ∧ m ≤ 2) (c_19 : n ≤ 60) (c_20 : ¬ 0 ≤ n) : ((-15) : Int32) = if 0 ≤ s ∧ s ≤ 3 ∧ 0 ≤ m ∧ m ≤ 2 ∧ n ≤ 60 then (if n < 0 then -15 else n) else -2 := by
  repeat first | rfl | rw [if_pos (by (first | omega | (simp only [Int64.le_iff_toInt_le, Int64.lt_iff_toInt_lt, Int32.le_iff_toInt_le, Int32.lt_iff_toInt_lt, ← Int32.toInt_inj, ← Int64.toInt_inj, Int32.toInt_toInt64, (show (-15 : Int32).toInt = -15 from by decide), (show (-15 : Int64).toInt = -15 from by decide), (show (-2 : Int32).toInt = -2 from by decide), (show (-2 : Int64).toInt = -2 from by decide), (show (0 : Int32).toInt = 0 from by decide), (show (0 : Int64).toInt = 0 from by decide), (show (1 : Int32).toInt = 1 from by decide), (show (1 : Int64).toInt = 1 from by decide), (show (2 : Int32).toInt = 2 from by decide), (show (2 : Int64).toInt = 2 from by decide), (show (3 : Int32).toInt = 3 from by decide), (show (3 : Int64).toInt = 3 from by decide), (show (60 : Int32).toInt = 60 from by decide), (show (60 : Int64).toInt = 60 from by decide)] at *; omega)))] | rw [if_neg (by (first | omega | (simp only [Int64.le_iff_toInt_le, Int64.lt_iff_toInt_lt, Int32.le_iff_toInt_le, Int32.lt_iff_toInt_lt, ← Int32.toInt_inj, ← Int64.toInt_inj, Int32.toInt_toInt64, (show (-15 : Int32).toInt = -15 from by decide), (show (-15 : Int64).toInt = -15 from by decide), (show (-2 : Int32).toInt = -2 from by decide), (show (-2 : Int64).toInt = -2 from by decide), (show (0 : Int32).toInt = 0 from by decide), (show (0 : Int64).toInt = 0 from by decide), (show (1 : Int32).toInt = 1 from by decide), (show (1 : Int64).toInt = 1 from by decide), (show (2 : Int32).toInt = 2 from by decide), (show (2 : Int64).toInt = 2 from by decide), (show (3 : Int32).toInt = 3 from by decide), (show (3 : Int64).toInt = 3 from by decide), (show (60 : Int32).toInt = 60 from by decide), (show (60 : Int64).toInt = 60 from by decide)] at *; omega)))]
theorem lf_x_sheet_11 (s : Int32) (m : Int32) (n : Int32) (c_2 : ¬ (s = 0)) (c_9 : ¬ (s = 1)) (c_16 : s = 2) (c_18 : 0 ≤ m ∧ m ≤ 2) (c_19 : ¬ n ≤ 60) : ((-2) : Int32) = if 0 ≤ s ∧ s ≤ 3 ∧ 0 ≤ m ∧ m ≤ 2 ∧ n ≤ 60 then (if n < 0 then -15 else n) else -2 := by
  repeat first | rfl | rw [if_pos (by (first | omega | (simp only [Int64.le_iff_toInt_le, Int64.lt_iff_toInt_lt, Int32.le_iff_toInt_le, Int32.lt_iff_toInt_lt, ← Int32.toInt_inj, ← Int64.toInt_inj, Int32.toInt_toInt64, (show (-15 : Int32).toInt = -15 from by decide), (show (-15 : Int64).toInt = -15 from by decide), (show (-2 : Int32).toInt = -2 from by decide), (show (-2 : Int64).toInt = -2 from by decide), (show (0 : Int32).toInt = 0 from by decide), (show (0 : Int64).toInt = 0 from by decide), (show (1 : Int32).toInt = 1 from by decide), (show (1 : Int64).toInt = 1 from by decide), (show (2 : Int32).toInt = 2 from by decide), (show (2 : Int64).toInt = 2 from by decide), (show (3 : Int32).toInt = 3 from by decide), (show (3 : Int64).toInt = 3 from by decide), (show (60 : Int32).toInt = 60 from by decide), (show (60 : Int64).toInt = 60 from by decide)] at *; omega)))] | rw [if_neg (by (first | omega | (simp only [Int64.le_iff_toInt_le, Int64.lt_iff_toInt_lt, Int32.le_iff_toInt_le, Int32.lt_iff_toInt_lt, ← Int32.toInt_inj, ← Int64.toInt_inj, Int32.toInt_toInt64, (show (-15 : Int32).toInt = -15 from by decide), (show (-15 : Int64).toInt = -15 from by decide), (show (-2 : Int32).toInt = -2 from by decide), (show (-2 : Int64).toInt = -2 from by decide), (show (0 : Int32).toInt = 0 from by decide), (show (0 : Int64).toInt = 0 from by decide), (show (1 : Int32).toInt = 1 from by decide), (show (1 : Int64).toInt = 1 from by decide), (show (2 : Int32).toInt = 2 from by decide), (show (2 : Int64).toInt = 2 from by decide), (show (3 : Int32).toInt = 3 from by decide), (show (3 : Int64).toInt = 3 from by decide), (show (60 : Int32).toInt = 60 from by decide), (show (60 : Int64).toInt = 60 from by decide)] at *; omega)))]
theorem lf_x_sheet_12 (s : Int32) (m : Int32) (n : Int32) (c_2 : ¬ (s = 0)) (c_9 : ¬ (s = 1)) (c_16 : s = 2) (c_18 : ¬ (0 ≤ m ∧ m ≤ 2)) : ((-2) : Int32) = if 0 ≤ s ∧ s ≤ 3 ∧ 0 ≤ m ∧ m ≤ 2 ∧ n ≤ 60 then (if n < 0 then -15 else n) else -2 := by
  repeat first | rfl | rw [if_pos (by (first | omega | (simp only [Int64.le_iff_toInt_le, Int64.lt_iff_toInt_lt, Int32.le_iff_toInt_le, Int32.lt_iff_toInt_lt, ← Int32.toInt_inj, ← Int64.toInt_inj, Int32.toInt_toInt64, (show (-15 : Int32).toInt = -15 from by decide), (show (-15 : Int64).toInt = -15 from by decide), (show (-2 : Int32).toInt = -2 from by decide), (show (-2 : Int64).toInt = -2 from by decide), (show (0 : Int32).toInt = 0 from by decide), (show (0 : Int64).toInt = 0 from by decide), (show (1 : Int32).toInt = 1 from by decide), (show (1 : Int64).toInt = 1 from by decide), (show (2 : Int32).toInt = 2 from by decide), (show (2 : Int64).toInt = 2 from by decide), (show (3 : Int32).toInt = 3 from by decide), (show (3 : Int64).toInt = 3 from by decide), (show (60 : Int32).toInt = 60 from by decide), (show (60 : Int64).toInt = 60 from by decide)] at *; omega)))] | rw [if_neg (by (first | omega | (simp only [Int64.le_iff_toInt_le, Int64.lt_iff_toInt_lt, Int32.le_iff_toInt_le, Int32.lt_iff_toInt_lt, ← Int32.toInt_inj, ← Int64.toInt_inj, Int32.toInt_toInt64, (show (-15 : Int32).toInt = -15 from by decide), (show (-15 : Int64).toInt = -15 from by decide), (show (-2 : Int32).toInt = -2 from by decide), (show (-2 : Int64).toInt = -2 from by decide), (show (0 : Int32).toInt = 0 from by decide), (show (0 : Int64).toInt = 0 from by decide), (show (1 : Int32).toInt = 1 from by decide), (show (1 : Int64).toInt = 1 from by decide), (show (2 : Int32).toInt = 2 from by decide), (show (2 : Int64).toInt = 2 from by decide), (show (3 : Int32).toInt = 3 from by decide), (show (3 : Int64).toInt = 3 from by decide), (show (60 : Int32).toInt = 60 from by decide), (show (60 : Int64).toInt = 60 from by decide)] at *; omega)))]
theorem lf_x_sheet_13 (s : Int32) (m : Int32) (n : Int32) (c_2 : ¬ (s = 0)) (c_9 : ¬ (s = 1)) (c_16 : ¬ (s = 2)) (c_23 : s = 3) (c_25 : 0 ≤ m ∧ m ≤ 2) (c_26 : n ≤ 60) (c_27 : 0 ≤ n) : (n : Int32) = if 0 ≤ s ∧ s ≤ 3 ∧ 0 ≤ m ∧ m ≤ 2 ∧ n ≤ 60 then (if n < 0 then -15 else n) else -2 := by
  repeat first | rfl | rw [if_pos (by (first | omega | (simp only [Int64.le_iff_toInt_le, Int64.lt_iff_toInt_lt, Int32.le_iff_toInt_le, Int32.lt_iff_toInt_lt, ← Int32.toInt_inj, ← Int64.toInt_inj, Int32.toInt_toInt64, (show (-15 : Int32).toInt = -15 from by decide), (show (-15 : Int64).toInt = -15 from by decide), (show (-2 : Int32).toInt = -2 from by decide), (show (-2 : Int64).toInt = -2 from by decide), (show (0 : Int32).toInt = 0 from by decide), (show (0 : Int64).toInt = 0 from by decide), (show (1 : Int32).toInt = 1 from by decide), (show (1 : Int64).toInt = 1 from by decide), (show (2 : Int32).toInt = 2 from by decide), (show (2 : Int64).toInt = 2 from by decide), (show (3 : Int32).toInt = 3 from by decide), (show (3 : Int64).toInt = 3 from by decide), (show (60 : Int32).toInt = 60 from by decide), (show (60 : Int64).toInt = 60 from by decide)] at *; omega)))] | rw [if_neg (by (first | omega | (simp only [Int64.le_iff_toInt_le, Int64.lt_iff_toInt_lt, Int32.le_iff_toInt_le, Int32.lt_iff_toInt_lt, ← Int32.toInt_inj, ← Int64.toInt_inj, Int32.toInt_toInt64, (show (-15 : Int32).toInt = -15 from by decide), (show (-15 : Int64).toInt = -15 from by decide), (show (-2 : Int32).toInt = -2 from by decide), (show (-2 : Int64).toInt = -2 from by decide), (show (0 : Int32).toInt = 0 from by decide), (show (0 : Int64).toInt = 0 from by decide), (show (1 : Int32).toInt = 1 from by decide), (show (1 : Int64).toInt = 1 from by decide), (show (2 : Int32).toInt = 2 from by decide), (show (2 : Int64).toInt = 2 from by decide), (show (3 : Int32).toInt = 3 from by decide), (show (3 : Int64).toInt = 3 from by decide), (show (60 : Int32).toInt = 60 from by decide), (show (60 : Int64).toInt = 60 from by decide)] at *; omega)))]
theorem lf_x_sheet_14 (s : Int32) (m : Int32) (n : Int32) (c_2 : ¬ (s = 0)) (c_9 : ¬ (s = 1)) (c_16 : ¬ (s = 2)) (c_23 : s = 3) (c_25 : 0 ≤ m ∧ m ≤ 2) (c_26 : n ≤ 60) (c_27 : ¬ 0 ≤ n) : ((-15) : Int32) = if 0 ≤ s ∧ s ≤ 3 ∧ 0 ≤ m ∧ m ≤ 2 ∧ n ≤ 60 then (if n < 0 then -15 else n) else -2 := by
  repeat first | rfl | rw [if_pos (by (first | omega | (simp only [Int64.le_iff_toInt_le, Int64.lt_iff_toInt_lt, Int32.le_iff_toInt_le, Int32.lt_iff_toInt_lt, ← Int32.toInt_inj, ← Int64.toInt_inj, Int32.toInt_toInt64, (show (-15 : Int32).toInt = -15 from by decide), (show (-15 : Int64).toInt = -15 from by decide), (show (-2 : Int32).toInt = -2 from by decide), (show (-2 : Int64).toInt = -2 from by decide), (show (0 : Int32).toInt = 0 from by decide), (show (0 : Int64).toInt = 0 from by decide), (show (1 : Int32).toInt = 1 from by decide), (show (1 : Int64).toInt = 1 from by decide), (show (2 : Int32).toInt = 2 from by decide), (show (2 : Int64).toInt = 2 from by decide), (show (3 : Int32).toInt = 3 from by decide), (show (3 : Int64).toInt = 3 from by decide), (show (60 : Int32).toInt = 60 from by decide), (show (60 : Int64).toInt = 60 from by decide)] at *; omega)))] | rw [if_neg (by (first | omega | (simp only [Int64.le_iff_toInt_le, Int64.lt_iff_toInt_lt, Int32.le_iff_toInt_le, Int32.lt_iff_toInt_lt, ← Int32.toInt_inj, ← Int64.toInt_inj, Int32.toInt_toInt64, (show (-15 : Int32).toInt = -15 from by decide), (show (-15 : Int64).toInt = -15 from by decide), (show (-2 : Int32).toInt = -2 from by decide), (show (-2 : Int64).toInt = -2 from by decide), (show (0 : Int32).toInt = 0 from by decide), (show (0 : Int64).toInt = 0 from by decide), (show (1 : Int32).toInt = 1 from by decide), (show (1 : Int64).toInt = 1 from by decide), (show (2 : Int32).toInt = 2 from by decide), (show (2 : Int64).toInt = 2 from by decide), (show (3 : Int32).toInt = 3 from by decide), (show (3 : Int64).toInt = 3 from by decide), (show (60 : Int32).toInt = 60 from by decide), (show (60 : Int64).toInt = 60 from by decide)] at *; omega)))]
theorem lf_x_sheet_15 (s : Int32) (m : Int32) (n : Int32) (c_2 : ¬ (s = 0)) (c_9 : ¬ (s = 1)) (c_16 : ¬ (s = 2)) (c_23 : s = 3) (c_25 : 0 ≤ m ∧ m ≤ 2) (c_26 : ¬ n ≤ 60) : ((-2) : Int32) = if 0 ≤ s ∧ s ≤ 3 ∧ 0 ≤ m ∧ m ≤ 2 ∧ n ≤ 60 then (if n < 0 then -15 else n) else -2 := by
  repeat first | rfl | rw [if_pos (by (first | omega | (simp only [Int64.le_iff_toInt_le, Int64.lt_iff_toInt_lt, Int32.le_iff_toInt_le, Int32.lt_iff_toInt_lt, ← Int32.toInt_inj, ← Int64.toInt_inj, Int32.toInt_toInt64, (show (-15 : Int32).toInt = -15 from by decide), (show (-15 : Int64).toInt = -15 from by decide), (show (-2 : Int32).toInt = -2 from by decide), (show (-2 : Int64).toInt = -2 from by decide), (show (0 : Int32).toInt = 0 from by decide), (show (0 : Int64).toInt = 0 from by decide), (show (1 : Int32).toInt = 1 from by decide), (show (1 : Int64).toInt = 1 from by decide), (show (2 : Int32).toInt = 2 from by decide), (show (2 : Int64).toInt = 2 from by decide), (show (3 : Int32).toInt = 3 from by decide), (show (3 : Int64).toInt = 3 from by decide), (show (60 : Int32).toInt = 60 from by decide), (show (60 : Int64).toInt = 60 from by decide)] at *; omega)))] | rw [if_neg (by (first | omega | (simp only [Int64.le_iff_toInt_le, Int64.lt_iff_toInt_lt, Int32.le_iff_toInt_le, Int32.lt_iff_toInt_lt, ← Int32.toInt_inj, ← Int64.toInt_inj, Int32.toInt_toInt64, (show (-15 : Int32).toInt = -15 from by decide), (show (-15 : Int64).toInt = -15 from by decide), (show (-2 : Int32).toInt = -2 from by decide), (show (-2 : Int64).toInt = -2 from by decide), (show (0 : Int32).toInt = 0 from by decide), (show (0 : Int64).toInt = 0 from by decide), (show (1 : Int32).toInt = 1 from by decide), (show (1 : Int64).toInt = 1 from by decide), (show (2 : Int32).toInt = 2 from by decide), (show (2 : Int64).toInt = 2 from by decide), (show (3 : Int32).toInt = 3 from by decide), (show (3 : Int64).toInt = 3 from by decide), (show (60 : Int32).toInt = 60 from by decide), (show (60 : Int64).toInt = 60 from by decide)] at *; omega)))]
theorem lf_x_sheet_16 (s : Int32) (m : Int32) (n : Int32) (c_2 : ¬ (s = 0)) (c_9 : ¬ (s = 1)) (c_16 : ¬ (s = 2)) (c_23 : s = 3) (c_25 : ¬ (0 ≤ m ∧ m ≤ 2)) : ((-2) : Int32) = if 0 ≤ s ∧ s ≤ 3 ∧ 0 ≤ m ∧ m ≤ 2 ∧ n ≤ 60 then (if n < 0 then -15 else n) else -2 := by
  repeat first | rfl | rw [if_pos (by (first | omega | (simp only [Int64.le_iff_toInt_le, Int64.lt_iff_toInt_lt, Int32.le_iff_toInt_le, Int32.lt_iff_toInt_lt, ← Int32.toInt_inj, ← Int64.toInt_inj, Int32.toInt_toInt64, (show (-15 : Int32).toInt = -15 from by decide), (show (-15 : Int64).toInt = -15 from by decide), (show (-2 : Int32).toInt = -2 from by decide), (show (-2 : Int64).toInt = -2 from by decide), (show (0 : Int32).toInt = 0 from by decide), (show (0 : Int64).toInt = 0 from by decide), (show (1 : Int32).toInt = 1 from by decide), (show (1 : Int64).toInt = 1 from by decide), (show (2 : Int32).toInt = 2 from by decide), (show (2 : Int64).toInt = 2 from by decide), (show (3 : Int32).toInt = 3 from by decide), (show (3 : Int64).toInt = 3 from by decide), (show (60 : Int32).toInt = 60 from by decide), (show (60 : Int64).toInt = 60 from by decide)] at *; omega)))] | rw [if_neg (by (first | omega | (simp only [Int64.le_iff_toInt_le, Int64.lt_iff_toInt_lt, Int32.le_iff_toInt_le, Int32.lt_iff_toInt_lt, ← Int32.toInt_inj, ← Int64.toInt_inj, Int32.toInt_toInt64, (show (-15 : Int32).toInt = -15 from by decide), (show (-15 : Int64).toInt = -15 from by decide), (show (-2 : Int32).toInt = -2 from by decide), (show (-2 : Int64).toInt = -2 from by decide), (show (0 : Int32).toInt = 0 from by decide), (show (0 : Int64).toInt = 0 from by decide), (show (1 : Int32).toInt = 1 from by decide), (show (1 : Int64).toInt = 1 from by decide), (show (2 : Int32).toInt = 2 from by decide), (show (2 : Int64).toInt = 2 from by decide), (show (3 : Int32).toInt = 3 from by decide), (show (3 : Int64).toInt = 3 from by decide), (show (60 : Int32).toInt = 60 from by decide), (show (60 : Int64).toInt = 60 from by decide)] at *; omega)))]
theorem lf_x_sheet_17 (s : Int32) (m : Int32) (n : Int32) (c_2 : ¬ (s = 0)) (c_9 : ¬ (s = 1)) (c_16 : ¬ (s = 2)) (c_23 : ¬ (s = 3)) : ((-2) : Int32) = if 0 ≤ s ∧ s ≤ 3 ∧ 0 ≤ m ∧ m ≤ 2 ∧ n ≤ 60 then (if n < 0 then -15 else n) else -2 := by
  repeat first | rfl | rw [if_pos (by (first | omega | (simp only [Int64.le_iff_toInt_le, Int64.lt_iff_toInt_lt, Int32.le_iff_toInt_le, Int32.lt_iff_toInt_lt, ← Int32.toInt_inj, ← Int64.toInt_inj, Int32.toInt_toInt64, (show (-15 : Int32).toInt = -15 from by decide), (show (-15 : Int64).toInt = -15 from by decide), (show (-2 : Int32).toInt = -2 from by decide), (show (-2 : Int64).toInt = -2 from by decide), (show (0 : Int32).toInt = 0 from by decide), (show (0 : Int64).toInt = 0 from by decide), (show (1 : Int32).toInt = 1 from by decide), (show (1 : Int64).toInt = 1 from by decide), (show (2 : Int32).toInt = 2 from by decide), (show (2 : Int64).toInt = 2 from by decide), (show (3 : Int32).toInt = 3 from by decide), (show (3 : Int64).toInt = 3 from by decide), (show (60 : Int32).toInt = 60 from by decide), (show (60 : Int64).toInt = 60 from by decide)] at *; omega)))] | rw [if_neg (by (first | omega | (simp only [Int64.le_iff_toInt_le, Int64.lt_iff_toInt_lt, Int32.le_iff_toInt_le, Int32.lt_iff_toInt_lt, ← Int32.toInt_inj, ← Int64.toInt_inj, Int32.toInt_toInt64, (show (-15 : Int32).toInt = -15 from by decide), (show (-15 : Int64).toInt = -15 from by decide), (show (-2 : Int32).toInt = -2 from by decide), (show (-2 : Int64).toInt = -2 from by decide), (show (0 : Int32).toInt = 0 from by decide), (show (0 : Int64).toInt = 0 from by decide), (show (1 : Int32).toInt = 1 from by decide), (show (1 : Int64).toInt = 1 from by decide), (show (2 : Int32).toInt = 2 from by decide), (show (2 : Int64).toInt = 2 from by decide), (show (3 : Int32).toInt = 3 from by decide), (show (3 : Int64).toInt = 3 from by decide), (show (60 : Int32).toInt = 60 from by decide), (show (60 : Int64).toInt = 60 from by decide)] at *; omega)))]
set_option maxHeartbeats 4000000 in
set_option maxRecDepth 100000 in
theorem x_sheet (l : Launch) (dC : Nat → ClassId) (dI : Nat → Nat → Nat) (cI cJ cQ : ClassId) (sz : Nat) (hx : Nat) (s : Int32) (m : Int32) (n : Int32) (aLa : Nat) (aPa : Nat) (aGe : Nat) (aFl : Nat) (aTr : Nat) (aBe : Nat) (aLu : Nat) (aLo : Nat) (vSf : Nat) (vSm : Nat) (vCo : Nat) (vSh : Nat) (s0 : Nat) (i0 : Nat) (s1 : Nat) (i1 : Nat) (s2 : Nat) (i2 : Nat) (s3 : Nat) (i3 : Nat) : Met l yX11_sheet (kW yX11_sheet cX11_sheet 5 (some .int)) { frames := 2, cells := 0, slots := 0, locals := 44 } (kPre dC dI cI cJ cQ sz [.ref hx, .int s, .int m, .int n] [(hx, .inr (10, [.ref aLa, .ref aPa, .ref aGe, .ref aFl, .ref aTr, .ref aBe, .ref aLu, .ref aLo, .ref vSf, .ref vSm, .ref vCo, .ref vSh, .int 0, .int 0, .int 0])), (vSh, .inl (cQ, 4, .inr (.inr (.inr (.inr (fSh s0 s1 s2 s3)))))), (s0, .inr (8, [.ref i0, .int 1, .int 0, .int 0])), (i0, .inl (cI, 60, .inl (fun _ => 0))), (s1, .inr (8, [.ref i1, .int 1, .int 0, .int 0])), (i1, .inl (cI, 60, .inl (fun _ => 0))), (s2, .inr (8, [.ref i2, .int 1, .int 0, .int 0])), (i2, .inl (cI, 60, .inl (fun _ => 0))), (s3, .inr (8, [.ref i3, .int 1, .int 0, .int 0])), (i3, .inl (cI, 60, .inl (fun _ => 0)))]) (va_Qi (fun (r : Int32) (_ : Unit) => r = if 0 ≤ s ∧ s ≤ 3 ∧ 0 ≤ m ∧ m ≤ 2 ∧ n ≤ 60 then (if n < 0 then -15 else n) else -2) (fun _ _ => True) (va_A [(hx, .inr (10, [.ref aLa, .ref aPa, .ref aGe, .ref aFl, .ref aTr, .ref aBe, .ref aLu, .ref aLo, .ref vSf, .ref vSm, .ref vCo, .ref vSh, .int 0, .int 0, .int 0])), (vSh, .inl (cQ, 4, .inr (.inr (.inr (.inr (fSh s0 s1 s2 s3)))))), (s0, .inr (8, [.ref i0, .int 1, .int 0, .int 0])), (i0, .inl (cI, 60, .inl (fun _ => 0))), (s1, .inr (8, [.ref i1, .int 1, .int 0, .int 0])), (i1, .inl (cI, 60, .inl (fun _ => 0))), (s2, .inr (8, [.ref i2, .int 1, .int 0, .int 0])), (i2, .inl (cI, 60, .inl (fun _ => 0))), (s3, .inr (8, [.ref i3, .int 1, .int 0, .int 0])), (i3, .inl (cI, 60, .inl (fun _ => 0)))] sz)) 0 0 (va_A [(hx, .inr (10, [.ref aLa, .ref aPa, .ref aGe, .ref aFl, .ref aTr, .ref aBe, .ref aLu, .ref aLo, .ref vSf, .ref vSm, .ref vCo, .ref vSh, .int 0, .int 0, .int 0])), (vSh, .inl (cQ, 4, .inr (.inr (.inr (.inr (fSh s0 s1 s2 s3)))))), (s0, .inr (8, [.ref i0, .int 1, .int 0, .int 0])), (i0, .inl (cI, 60, .inl (fun _ => 0))), (s1, .inr (8, [.ref i1, .int 1, .int 0, .int 0])), (i1, .inl (cI, 60, .inl (fun _ => 0))), (s2, .inr (8, [.ref i2, .int 1, .int 0, .int 0])), (i2, .inl (cI, 60, .inl (fun _ => 0))), (s3, .inr (8, [.ref i3, .int 1, .int 0, .int 0])), (i3, .inl (cI, 60, .inl (fun _ => 0)))] sz) := by
  refine Met.ofW (cc := cX11_sheet) (maxL := 5) (ret := (some .int)) (by decide) rfl ?_
  intro p₀ e₀ s₀ m₀ args below meth c₀ s₁ B hml hv₀
  obtain ⟨rfl, hsz, hP, hK, hD0, hN⟩ := hv₀
  have hx₀ := B.exec
  have hb := B.bytes
  have hr := B.returns
  have hts := atoms_spec (ws := (kW yX11_sheet cX11_sheet 5 (some .int))) B.pre
  have hts := fun w h => hts w (List.mem_cons_of_mem _ h)
  have hown : s₀.vm.findClass RX11 = some m₀.cls := findClass_of_methodNamed B.named
  have hlocks := B.notSynchronized
  subst hsz
  have hD := hD0.self (sz := s₀.heap.size)
  generalize hAe : va_A [(hx, .inr (10, [.ref aLa, .ref aPa, .ref aGe, .ref aFl, .ref aTr, .ref aBe, .ref aLu, .ref aLo, .ref vSf, .ref vSm, .ref vCo, .ref vSh, .int 0, .int 0, .int 0])), (vSh, .inl (cQ, 4, .inr (.inr (.inr (.inr (fSh s0 s1 s2 s3)))))), (s0, .inr (8, [.ref i0, .int 1, .int 0, .int 0])), (i0, .inl (cI, 60, .inl (fun _ => 0))), (s1, .inr (8, [.ref i1, .int 1, .int 0, .int 0])), (i1, .inl (cI, 60, .inl (fun _ => 0))), (s2, .inr (8, [.ref i2, .int 1, .int 0, .int 0])), (i2, .inl (cI, 60, .inl (fun _ => 0))), (s3, .inr (8, [.ref i3, .int 1, .int 0, .int 0])), (i3, .inl (cI, 60, .inl (fun _ => 0)))] s₀.heap.size = A at hD ⊢
  have hA : ∀ q : Nat, s₀.heap.size ≤ q → A q := fun q h => by rw [← hAe]; exact Or.inr h
  have hS : va_S A s₀.heap s₀.heap [] := va_S.rf
  have hP : va_P (dC, dI) vwCl [(hx, .inr (10, [.ref aLa, .ref aPa, .ref aGe, .ref aFl, .ref aTr, .ref aBe, .ref aLu, .ref aLo, .ref vSf, .ref vSm, .ref vCo, .ref vSh, .int 0, .int 0, .int 0])), (vSh, .inl (cQ, 4, .inr (.inr (.inr (.inr (fSh s0 s1 s2 s3)))))), (s0, .inr (8, [.ref i0, .int 1, .int 0, .int 0])), (i0, .inl (cI, 60, .inl (fun _ => 0))), (s1, .inr (8, [.ref i1, .int 1, .int 0, .int 0])), (i1, .inl (cI, 60, .inl (fun _ => 0))), (s2, .inr (8, [.ref i2, .int 1, .int 0, .int 0])), (i2, .inl (cI, 60, .inl (fun _ => 0))), (s3, .inr (8, [.ref i3, .int 1, .int 0, .int 0])), (i3, .inl (cI, 60, .inl (fun _ => 0)))] s₀.heap := hP
  have hl := lv_entry ([.ref hx, .int s, .int m, .int n]) (n := 5) (Nat.le_of_ble_eq_true rfl)
  rw [lg_entry_eq]
  generalize (lg_sl ([.ref hx, .int s, .int m, .int n]) ++ List.replicate (5 - (lg_sl ([.ref hx, .int s, .int m, .int n])).length) Slot.unset).toArray = ls at hl ⊢
  have hl : lv_has ls 5 [(0, .ref hx), (1, .int s), (2, .int m), (3, .int n)] := hl
  obtain ⟨H, hH⟩ : ∃ z : Heap, z = s₀.heap := ⟨_, rfl⟩
  rw [← hH] at hP
  have hS : va_S A s₀.heap H [] := by rw [hH]; exact hS
  refine k_heap hH ?_
  have hD : va_D A [(hx, .inr (10, [.ref aLa, .ref aPa, .ref aGe, .ref aFl, .ref aTr, .ref aBe, .ref aLu, .ref aLo, .ref vSf, .ref vSm, .ref vCo, .ref vSh, .int 0, .int 0, .int 0])), (vSh, .inl (cQ, 4, .inr (.inr (.inr (.inr (fSh s0 s1 s2 s3)))))), (s0, .inr (8, [.ref i0, .int 1, .int 0, .int 0])), (i0, .inl (cI, 60, .inl (fun _ => 0))), (s1, .inr (8, [.ref i1, .int 1, .int 0, .int 0])), (i1, .inl (cI, 60, .inl (fun _ => 0))), (s2, .inr (8, [.ref i2, .int 1, .int 0, .int 0])), (i2, .inl (cI, 60, .inl (fun _ => 0))), (s3, .inr (8, [.ref i3, .int 1, .int 0, .int 0])), (i3, .inl (cI, 60, .inl (fun _ => 0)))] := hD
  obtain ⟨locs, hlo⟩ : ∃ z : List Loc, z = [] := ⟨_, rfl⟩
  rw [← hlo] at hS ⊢
  clear hlo hH hAe hD0
  refine lv_aload_n hx₀ hb dX11_sheet_0 rfl (lv_at hl 0 rfl) ?_
  refine lv_iload_n hx₀ hb dX11_sheet_1 rfl (lv_at hl 1 rfl) ?_
  have hPc := hP.sub (ws' := [(hx, .inr (10, [.ref aLa, .ref aPa, .ref aGe, .ref aFl, .ref aTr, .ref aBe, .ref aLu, .ref aLo, .ref vSf, .ref vSm, .ref vCo, .ref vSh, .int 0, .int 0, .int 0])), (vSh, .inl (cQ, 4, .inr (.inr (.inr (.inr (fSh s0 s1 s2 s3))))))]) [0, 1] rfl
  have hDc := hD.sub (ws' := [(hx, .inr (10, [.ref aLa, .ref aPa, .ref aGe, .ref aFl, .ref aTr, .ref aBe, .ref aLu, .ref aLo, .ref vSf, .ref vSm, .ref vCo, .ref vSh, .int 0, .int 0, .int 0])), (vSh, .inl (cQ, 4, .inr (.inr (.inr (.inr (fSh s0 s1 s2 s3))))))]) [0, 1] (by decide) rfl
  have hFc := va_free (wc := [(hx, .inr (10, [.ref aLa, .ref aPa, .ref aGe, .ref aFl, .ref aTr, .ref aBe, .ref aLu, .ref aLo, .ref vSf, .ref vSm, .ref vCo, .ref vSh, .int 0, .int 0, .int 0])), (vSh, .inl (cQ, 4, .inr (.inr (.inr (.inr (fSh s0 s1 s2 s3))))))]) hD hS hA [0, 1] rfl
  refine va_callq (va_runV (As := [.int s]) (rest := []) ⟨hx₀, hb, hml, hown, hts⟩ (c_sheetOf l dC dI cI cJ cQ H.size hx s aLa aPa aGe aFl aTr aBe aLu aLo vSf vSm vCo vSh s0 s1 s2 s3) (cwV 1 hts (kGV wd_383 wd_380 wd_381 wd_382 wd_2) rfl rfl rfl (by decide +kernel) ⟨Nat.le_of_ble_eq_true rfl, Nat.le_of_ble_eq_true rfl⟩) (k_preV (ci := 10) (q0 := 0) hK hPc hDc hN rfl rfl) rfl rfl hl.1 rfl (lv_room (Nat.le_of_ble_eq_true rfl)) dX11_sheet_2 ⟨by decide +kernel, by decide +kernel⟩) hS (fun q _ h => hFc q h) hFc (fun r_1 u₀ t₀ H1 locs ht hvm hw hB hz1 hk1 hS => ?_)
  obtain ⟨hP1, hK1, hD1⟩ := hB
  rw [ht] at hP1
  obtain ⟨hP, hD⟩ := va_join (wr := [(s0, .inr (8, [.ref i0, .int 1, .int 0, .int 0])), (i0, .inl (cI, 60, .inl (fun _ => 0))), (s1, .inr (8, [.ref i1, .int 1, .int 0, .int 0])), (i1, .inl (cI, 60, .inl (fun _ => 0))), (s2, .inr (8, [.ref i2, .int 1, .int 0, .int 0])), (i2, .inl (cI, 60, .inl (fun _ => 0))), (s3, .inr (8, [.ref i3, .int 1, .int 0, .int 0])), (i3, .inl (cI, 60, .inl (fun _ => 0)))]) (w1 := [(hx, .inr (10, [.ref aLa, .ref aPa, .ref aGe, .ref aFl, .ref aTr, .ref aBe, .ref aLu, .ref aLo, .ref vSf, .ref vSm, .ref vCo, .ref vSh, .int 0, .int 0, .int 0])), (vSh, .inl (cQ, 4, .inr (.inr (.inr (.inr (fSh s0 s1 s2 s3))))))]) hP hD [0, 1] [2, 3, 4, 5, 6, 7, 8, 9] rfl rfl (by decide) (by decide) hk1 hFc hP1 hD1
  generalize H1 = H at hP hS ⊢
  have hP : va_P (dC, dI) vwCl [(s0, .inr (8, [.ref i0, .int 1, .int 0, .int 0])), (i0, .inl (cI, 60, .inl (fun _ => 0))), (s1, .inr (8, [.ref i1, .int 1, .int 0, .int 0])), (i1, .inl (cI, 60, .inl (fun _ => 0))), (s2, .inr (8, [.ref i2, .int 1, .int 0, .int 0])), (i2, .inl (cI, 60, .inl (fun _ => 0))), (s3, .inr (8, [.ref i3, .int 1, .int 0, .int 0])), (i3, .inl (cI, 60, .inl (fun _ => 0))), (hx, .inr (10, [.ref aLa, .ref aPa, .ref aGe, .ref aFl, .ref aTr, .ref aBe, .ref aLu, .ref aLo, .ref vSf, .ref vSm, .ref vCo, .ref vSh, .int 0, .int 0, .int 0])), (vSh, .inl (cQ, 4, .inr (.inr (.inr (.inr (fSh s0 s1 s2 s3))))))] H := hP
  have hD : va_D A [(s0, .inr (8, [.ref i0, .int 1, .int 0, .int 0])), (i0, .inl (cI, 60, .inl (fun _ => 0))), (s1, .inr (8, [.ref i1, .int 1, .int 0, .int 0])), (i1, .inl (cI, 60, .inl (fun _ => 0))), (s2, .inr (8, [.ref i2, .int 1, .int 0, .int 0])), (i2, .inl (cI, 60, .inl (fun _ => 0))), (s3, .inr (8, [.ref i3, .int 1, .int 0, .int 0])), (i3, .inl (cI, 60, .inl (fun _ => 0))), (hx, .inr (10, [.ref aLa, .ref aPa, .ref aGe, .ref aFl, .ref aTr, .ref aBe, .ref aLu, .ref aLo, .ref vSf, .ref vSm, .ref vCo, .ref vSh, .int 0, .int 0, .int 0])), (vSh, .inl (cQ, 4, .inr (.inr (.inr (.inr (fSh s0 s1 s2 s3))))))] := hD
  try dsimp only at hw
  by_cases c_2 : s = 0
  · rw [if_pos c_2] at hw
    subst hw
    refine W.eq (g2 := F0 m₀ 5 ls [.ref s0]) rfl ?_
    refine lv_astore (lv' := [(4, .ref s0), (0, .ref hx), (1, .int s), (2, .int m), (3, .int n)]) hx₀ hb dX11_sheet_5 hl (by decide) rfl (fun ls hl => ?_)
    refine lv_aload hx₀ hb dX11_sheet_7 (lv_at hl 0 rfl) ?_
    refine lv_ifnull hx₀ hb dX11_sheet_9 ?_
    refine lv_iload_n hx₀ hb dX11_sheet_12 rfl (lv_at hl 3 rfl) ?_
    have hPc := hP.sub (ws' := []) [] rfl
    have hDc := hD.sub (ws' := []) [] (by decide) rfl
    have hFc := va_free (wc := []) hD hS hA [] rfl
    refine va_calli (va_runS (As := [.int m]) (rest := []) ⟨hx₀, hb, hml, hown, hts⟩ (c_isForm l dC dI cI cJ cQ H.size m) (va_cwS 1 hts (kGS wd_864 wd_862 wd_863 wd_2) rfl rfl rfl (by decide +kernel) ⟨Nat.le_of_ble_eq_true rfl, Nat.le_of_ble_eq_true rfl⟩) (k_preS hK hPc hDc hN) rfl rfl hl.1 rfl (lv_room (Nat.le_of_ble_eq_true rfl)) dX11_sheet_13 ⟨by decide +kernel, by decide +kernel⟩) hS (fun q _ h => hFc q h) hFc (fun r_3 u₀ t₀ H1 locs ht hvm hw hB hz1 hk1 hS => ?_)
    obtain ⟨hP1, hK1, hD1⟩ := hB
    rw [ht] at hP1
    obtain ⟨hP, hD⟩ := va_join (wr := [(s0, .inr (8, [.ref i0, .int 1, .int 0, .int 0])), (i0, .inl (cI, 60, .inl (fun _ => 0))), (s1, .inr (8, [.ref i1, .int 1, .int 0, .int 0])), (i1, .inl (cI, 60, .inl (fun _ => 0))), (s2, .inr (8, [.ref i2, .int 1, .int 0, .int 0])), (i2, .inl (cI, 60, .inl (fun _ => 0))), (s3, .inr (8, [.ref i3, .int 1, .int 0, .int 0])), (i3, .inl (cI, 60, .inl (fun _ => 0))), (hx, .inr (10, [.ref aLa, .ref aPa, .ref aGe, .ref aFl, .ref aTr, .ref aBe, .ref aLu, .ref aLo, .ref vSf, .ref vSm, .ref vCo, .ref vSh, .int 0, .int 0, .int 0])), (vSh, .inl (cQ, 4, .inr (.inr (.inr (.inr (fSh s0 s1 s2 s3))))))]) (w1 := []) hP hD [] [0, 1, 2, 3, 4, 5, 6, 7, 8, 9] rfl rfl (by decide) (by decide) hk1 hFc hP1 hD1
    generalize H1 = H at hP hS ⊢
    have hP : va_P (dC, dI) vwCl [(s0, .inr (8, [.ref i0, .int 1, .int 0, .int 0])), (i0, .inl (cI, 60, .inl (fun _ => 0))), (s1, .inr (8, [.ref i1, .int 1, .int 0, .int 0])), (i1, .inl (cI, 60, .inl (fun _ => 0))), (s2, .inr (8, [.ref i2, .int 1, .int 0, .int 0])), (i2, .inl (cI, 60, .inl (fun _ => 0))), (s3, .inr (8, [.ref i3, .int 1, .int 0, .int 0])), (i3, .inl (cI, 60, .inl (fun _ => 0))), (hx, .inr (10, [.ref aLa, .ref aPa, .ref aGe, .ref aFl, .ref aTr, .ref aBe, .ref aLu, .ref aLo, .ref vSf, .ref vSm, .ref vCo, .ref vSh, .int 0, .int 0, .int 0])), (vSh, .inl (cQ, 4, .inr (.inr (.inr (.inr (fSh s0 s1 s2 s3))))))] H := hP
    have hD : va_D A [(s0, .inr (8, [.ref i0, .int 1, .int 0, .int 0])), (i0, .inl (cI, 60, .inl (fun _ => 0))), (s1, .inr (8, [.ref i1, .int 1, .int 0, .int 0])), (i1, .inl (cI, 60, .inl (fun _ => 0))), (s2, .inr (8, [.ref i2, .int 1, .int 0, .int 0])), (i2, .inl (cI, 60, .inl (fun _ => 0))), (s3, .inr (8, [.ref i3, .int 1, .int 0, .int 0])), (i3, .inl (cI, 60, .inl (fun _ => 0))), (hx, .inr (10, [.ref aLa, .ref aPa, .ref aGe, .ref aFl, .ref aTr, .ref aBe, .ref aLu, .ref aLo, .ref vSf, .ref vSm, .ref vCo, .ref vSh, .int 0, .int 0, .int 0])), (vSh, .inl (cQ, 4, .inr (.inr (.inr (.inr (fSh s0 s1 s2 s3))))))] := hD
    try dsimp only at hw
    by_cases c_4 : 0 ≤ m ∧ m ≤ 2
    · rw [if_pos c_4] at hw
      refine k_topi (v := 1) hw ?_
      refine lv_if_eq (tgt := 25) hx₀ hb dX11_sheet_16 (by decide) (fun c9 => absurd c9 (by decide +kernel)) (fun _ => ?_)
      refine lv_iload_n hx₀ hb dX11_sheet_19 rfl (lv_at hl 4 rfl) ?_
      refine lv_bipush (v := 60) hx₀ hb dX11_sheet_20 (by decide +kernel) ?_
      refine lv_icmp_le (tgt := 28) hx₀ hb dX11_sheet_22 (by decide) (fun c_5 => ?_) (fun c_5 => ?_)
      · refine lv_iload_n hx₀ hb dX11_sheet_28 rfl (lv_at hl 4 rfl) ?_
        refine lv_if_ge (tgt := 38) hx₀ hb dX11_sheet_29 (by decide) (fun c_6 => ?_) (fun c_6 => ?_)
        · refine lv_aload hx₀ hb dX11_sheet_38 (lv_at hl 0 rfl) ?_
          refine lv_iload_n hx₀ hb dX11_sheet_40 rfl (lv_at hl 3 rfl) ?_
          refine lv_iload_n hx₀ hb dX11_sheet_41 rfl (lv_at hl 4 rfl) ?_
          have hPc := hP.sub (ws' := [(s0, .inr (8, [.ref i0, .int 1, .int 0, .int 0])), (i0, .inl (cI, 60, .inl (fun _ => 0)))]) [0, 1] rfl
          have hDc := hD.sub (ws' := [(s0, .inr (8, [.ref i0, .int 1, .int 0, .int 0])), (i0, .inl (cI, 60, .inl (fun _ => 0)))]) [0, 1] (by decide) rfl
          have hFc := va_free (wc := [(s0, .inr (8, [.ref i0, .int 1, .int 0, .int 0])), (i0, .inl (cI, 60, .inl (fun _ => 0)))]) hD hS hA [0, 1] rfl
          refine va_callv (va_runV (As := [.int m, .int n]) (rest := []) ⟨hx₀, hb, hml, hown, hts⟩ (c_renew l dC dI cI cJ cQ H.size s0 m n i0) (cwV 2 hts (kGV wd_868 wd_865 wd_866 wd_867 wd_51) rfl rfl rfl (by decide +kernel) ⟨Nat.le_of_ble_eq_true rfl, Nat.le_of_ble_eq_true rfl⟩) (k_preV (ci := 8) (q0 := 0) hK hPc hDc hN rfl rfl) rfl rfl hl.1 rfl (lv_room (Nat.le_of_ble_eq_true rfl)) dX11_sheet_42 ⟨by decide +kernel, by decide +kernel⟩) hS (fun q _ h => hFc q h) hFc (fun u₀ t₀ H1 locs ht hvm hw hB hz1 hk1 hS => ?_)
          obtain ⟨hP, hD⟩ := va_join (wr := [(s1, .inr (8, [.ref i1, .int 1, .int 0, .int 0])), (i1, .inl (cI, 60, .inl (fun _ => 0))), (s2, .inr (8, [.ref i2, .int 1, .int 0, .int 0])), (i2, .inl (cI, 60, .inl (fun _ => 0))), (s3, .inr (8, [.ref i3, .int 1, .int 0, .int 0])), (i3, .inl (cI, 60, .inl (fun _ => 0))), (hx, .inr (10, [.ref aLa, .ref aPa, .ref aGe, .ref aFl, .ref aTr, .ref aBe, .ref aLu, .ref aLo, .ref vSf, .ref vSm, .ref vCo, .ref vSh, .int 0, .int 0, .int 0])), (vSh, .inl (cQ, 4, .inr (.inr (.inr (.inr (fSh s0 s1 s2 s3))))))]) (w1 := []) hP hD [0, 1] [2, 3, 4, 5, 6, 7, 8, 9] rfl rfl (by decide) (by decide) hk1 hFc (k_nilP _) (k_nilD _)
          generalize H1 = H at hP hS ⊢
          have hP : va_P (dC, dI) vwCl [(s1, .inr (8, [.ref i1, .int 1, .int 0, .int 0])), (i1, .inl (cI, 60, .inl (fun _ => 0))), (s2, .inr (8, [.ref i2, .int 1, .int 0, .int 0])), (i2, .inl (cI, 60, .inl (fun _ => 0))), (s3, .inr (8, [.ref i3, .int 1, .int 0, .int 0])), (i3, .inl (cI, 60, .inl (fun _ => 0))), (hx, .inr (10, [.ref aLa, .ref aPa, .ref aGe, .ref aFl, .ref aTr, .ref aBe, .ref aLu, .ref aLo, .ref vSf, .ref vSm, .ref vCo, .ref vSh, .int 0, .int 0, .int 0])), (vSh, .inl (cQ, 4, .inr (.inr (.inr (.inr (fSh s0 s1 s2 s3))))))] H := hP
          have hD : va_D A [(s1, .inr (8, [.ref i1, .int 1, .int 0, .int 0])), (i1, .inl (cI, 60, .inl (fun _ => 0))), (s2, .inr (8, [.ref i2, .int 1, .int 0, .int 0])), (i2, .inl (cI, 60, .inl (fun _ => 0))), (s3, .inr (8, [.ref i3, .int 1, .int 0, .int 0])), (i3, .inl (cI, 60, .inl (fun _ => 0))), (hx, .inr (10, [.ref aLa, .ref aPa, .ref aGe, .ref aFl, .ref aTr, .ref aBe, .ref aLu, .ref aLo, .ref vSf, .ref vSm, .ref vCo, .ref vSh, .int 0, .int 0, .int 0])), (vSh, .inl (cQ, 4, .inr (.inr (.inr (.inr (fSh s0 s1 s2 s3))))))] := hD
          refine lv_iload_n hx₀ hb dX11_sheet_45 rfl (lv_at hl 4 rfl) ?_
          exact W.iret (v := n) hx₀ hb hr (fun t₀ ht hW => ⟨⟨n, (), rfl, (lf_x_sheet_1 s m n c_2 c_4 c_5 c_6), trivial⟩, hS.F ht⟩) hS.2.2 dX11_sheet_46
        · refine lv_aload_n hx₀ hb dX11_sheet_32 rfl (lv_at hl 1 rfl) ?_
          refine lv_iconst (v := 5) hx₀ hb dX11_sheet_33 (by decide +kernel) ?_
          have hPc := hP.sub (ws' := [(hx, .inr (10, [.ref aLa, .ref aPa, .ref aGe, .ref aFl, .ref aTr, .ref aBe, .ref aLu, .ref aLo, .ref vSf, .ref vSm, .ref vCo, .ref vSh, .int 0, .int 0, .int 0]))]) [8] rfl
          have hDc := hD.sub (ws' := [(hx, .inr (10, [.ref aLa, .ref aPa, .ref aGe, .ref aFl, .ref aTr, .ref aBe, .ref aLu, .ref aLo, .ref vSf, .ref vSm, .ref vCo, .ref vSh, .int 0, .int 0, .int 0]))]) [8] (by decide) rfl
          have hFc := va_free (wc := [(hx, .inr (10, [.ref aLa, .ref aPa, .ref aGe, .ref aFl, .ref aTr, .ref aBe, .ref aLu, .ref aLo, .ref vSf, .ref vSm, .ref vCo, .ref vSh, .int 0, .int 0, .int 0]))]) hD hS hA [8] rfl
          refine va_calli (va_runV (As := [.int 5]) (rest := []) ⟨hx₀, hb, hml, hown, hts⟩ (c_found5 l dC dI cI cJ cQ H.size hx aLa aPa aGe aFl aTr aBe aLu aLo vSf vSm vCo vSh) (cwV 1 hts (kGV wd_387 wd_384 wd_385 wd_386 wd_2) rfl rfl rfl (by decide +kernel) ⟨Nat.le_of_ble_eq_true rfl, Nat.le_of_ble_eq_true rfl⟩) (k_preV (ci := 10) (q0 := 0) hK hPc hDc hN rfl rfl) rfl rfl hl.1 rfl (lv_room (Nat.le_of_ble_eq_true rfl)) dX11_sheet_34 ⟨by decide +kernel, by decide +kernel⟩) hS (fun q _ h => hFc q h) hFc (fun r_8 u₀ t₀ H1 locs ht hvm hw hB hz1 hk1 hS => ?_)
          obtain ⟨hP1, hK1, hD1⟩ := hB
          rw [ht] at hP1
          obtain ⟨hP, hD⟩ := va_join (wr := [(s0, .inr (8, [.ref i0, .int 1, .int 0, .int 0])), (i0, .inl (cI, 60, .inl (fun _ => 0))), (s1, .inr (8, [.ref i1, .int 1, .int 0, .int 0])), (i1, .inl (cI, 60, .inl (fun _ => 0))), (s2, .inr (8, [.ref i2, .int 1, .int 0, .int 0])), (i2, .inl (cI, 60, .inl (fun _ => 0))), (s3, .inr (8, [.ref i3, .int 1, .int 0, .int 0])), (i3, .inl (cI, 60, .inl (fun _ => 0))), (vSh, .inl (cQ, 4, .inr (.inr (.inr (.inr (fSh s0 s1 s2 s3))))))]) (w1 := [(hx, .inr (10, [.ref aLa, .ref aPa, .ref aGe, .ref aFl, .ref aTr, .ref aBe, .ref aLu, .ref aLo, .ref vSf, .ref vSm, .ref vCo, .ref vSh, .int 0, .int 0, .int 5]))]) hP hD [8] [0, 1, 2, 3, 4, 5, 6, 7, 9] rfl rfl (by decide) (by decide) hk1 hFc hP1 hD1
          generalize H1 = H at hP hS ⊢
          have hP : va_P (dC, dI) vwCl [(s0, .inr (8, [.ref i0, .int 1, .int 0, .int 0])), (i0, .inl (cI, 60, .inl (fun _ => 0))), (s1, .inr (8, [.ref i1, .int 1, .int 0, .int 0])), (i1, .inl (cI, 60, .inl (fun _ => 0))), (s2, .inr (8, [.ref i2, .int 1, .int 0, .int 0])), (i2, .inl (cI, 60, .inl (fun _ => 0))), (s3, .inr (8, [.ref i3, .int 1, .int 0, .int 0])), (i3, .inl (cI, 60, .inl (fun _ => 0))), (vSh, .inl (cQ, 4, .inr (.inr (.inr (.inr (fSh s0 s1 s2 s3)))))), (hx, .inr (10, [.ref aLa, .ref aPa, .ref aGe, .ref aFl, .ref aTr, .ref aBe, .ref aLu, .ref aLo, .ref vSf, .ref vSm, .ref vCo, .ref vSh, .int 0, .int 0, .int 5]))] H := hP
          have hD : va_D A [(s0, .inr (8, [.ref i0, .int 1, .int 0, .int 0])), (i0, .inl (cI, 60, .inl (fun _ => 0))), (s1, .inr (8, [.ref i1, .int 1, .int 0, .int 0])), (i1, .inl (cI, 60, .inl (fun _ => 0))), (s2, .inr (8, [.ref i2, .int 1, .int 0, .int 0])), (i2, .inl (cI, 60, .inl (fun _ => 0))), (s3, .inr (8, [.ref i3, .int 1, .int 0, .int 0])), (i3, .inl (cI, 60, .inl (fun _ => 0))), (vSh, .inl (cQ, 4, .inr (.inr (.inr (.inr (fSh s0 s1 s2 s3)))))), (hx, .inr (10, [.ref aLa, .ref aPa, .ref aGe, .ref aFl, .ref aTr, .ref aBe, .ref aLu, .ref aLo, .ref vSf, .ref vSm, .ref vCo, .ref vSh, .int 0, .int 0, .int 5]))] := hD
          try dsimp only at hw
          refine k_topi (v := (-15)) hw ?_
          exact W.iret (v := (-15)) hx₀ hb hr (fun t₀ ht hW => ⟨⟨(-15), (), rfl, (lf_x_sheet_2 s m n c_2 c_4 c_5 c_6), trivial⟩, hS.F ht⟩) hS.2.2 dX11_sheet_37
      · refine lv_bipush (v := (-2)) hx₀ hb dX11_sheet_25 (by decide +kernel) ?_
        exact W.iret (v := (-2)) hx₀ hb hr (fun t₀ ht hW => ⟨⟨(-2), (), rfl, (lf_x_sheet_3 s m n c_2 c_4 c_5), trivial⟩, hS.F ht⟩) hS.2.2 dX11_sheet_27
    rw [if_neg c_4] at hw
    refine k_topi (v := 0) hw ?_
    refine lv_if_eq (tgt := 25) hx₀ hb dX11_sheet_16 (by decide) (fun _ => ?_) (fun c9 => absurd (by decide +kernel) c9)
    refine lv_bipush (v := (-2)) hx₀ hb dX11_sheet_25 (by decide +kernel) ?_
    exact W.iret (v := (-2)) hx₀ hb hr (fun t₀ ht hW => ⟨⟨(-2), (), rfl, (lf_x_sheet_4 s m n c_2 c_4), trivial⟩, hS.F ht⟩) hS.2.2 dX11_sheet_27
  rw [if_neg c_2] at hw
  by_cases c_9 : s = 1
  · rw [if_pos c_9] at hw
    subst hw
    refine W.eq (g2 := F0 m₀ 5 ls [.ref s1]) rfl ?_
    refine lv_astore (lv' := [(4, .ref s1), (0, .ref hx), (1, .int s), (2, .int m), (3, .int n)]) hx₀ hb dX11_sheet_5 hl (by decide) rfl (fun ls hl => ?_)
    refine lv_aload hx₀ hb dX11_sheet_7 (lv_at hl 0 rfl) ?_
    refine lv_ifnull hx₀ hb dX11_sheet_9 ?_
    refine lv_iload_n hx₀ hb dX11_sheet_12 rfl (lv_at hl 3 rfl) ?_
    have hPc := hP.sub (ws' := []) [] rfl
    have hDc := hD.sub (ws' := []) [] (by decide) rfl
    have hFc := va_free (wc := []) hD hS hA [] rfl
    refine va_calli (va_runS (As := [.int m]) (rest := []) ⟨hx₀, hb, hml, hown, hts⟩ (c_isForm l dC dI cI cJ cQ H.size m) (va_cwS 1 hts (kGS wd_864 wd_862 wd_863 wd_2) rfl rfl rfl (by decide +kernel) ⟨Nat.le_of_ble_eq_true rfl, Nat.le_of_ble_eq_true rfl⟩) (k_preS hK hPc hDc hN) rfl rfl hl.1 rfl (lv_room (Nat.le_of_ble_eq_true rfl)) dX11_sheet_13 ⟨by decide +kernel, by decide +kernel⟩) hS (fun q _ h => hFc q h) hFc (fun r_10 u₀ t₀ H1 locs ht hvm hw hB hz1 hk1 hS => ?_)
    obtain ⟨hP1, hK1, hD1⟩ := hB
    rw [ht] at hP1
    obtain ⟨hP, hD⟩ := va_join (wr := [(s0, .inr (8, [.ref i0, .int 1, .int 0, .int 0])), (i0, .inl (cI, 60, .inl (fun _ => 0))), (s1, .inr (8, [.ref i1, .int 1, .int 0, .int 0])), (i1, .inl (cI, 60, .inl (fun _ => 0))), (s2, .inr (8, [.ref i2, .int 1, .int 0, .int 0])), (i2, .inl (cI, 60, .inl (fun _ => 0))), (s3, .inr (8, [.ref i3, .int 1, .int 0, .int 0])), (i3, .inl (cI, 60, .inl (fun _ => 0))), (hx, .inr (10, [.ref aLa, .ref aPa, .ref aGe, .ref aFl, .ref aTr, .ref aBe, .ref aLu, .ref aLo, .ref vSf, .ref vSm, .ref vCo, .ref vSh, .int 0, .int 0, .int 0])), (vSh, .inl (cQ, 4, .inr (.inr (.inr (.inr (fSh s0 s1 s2 s3))))))]) (w1 := []) hP hD [] [0, 1, 2, 3, 4, 5, 6, 7, 8, 9] rfl rfl (by decide) (by decide) hk1 hFc hP1 hD1
    generalize H1 = H at hP hS ⊢
    have hP : va_P (dC, dI) vwCl [(s0, .inr (8, [.ref i0, .int 1, .int 0, .int 0])), (i0, .inl (cI, 60, .inl (fun _ => 0))), (s1, .inr (8, [.ref i1, .int 1, .int 0, .int 0])), (i1, .inl (cI, 60, .inl (fun _ => 0))), (s2, .inr (8, [.ref i2, .int 1, .int 0, .int 0])), (i2, .inl (cI, 60, .inl (fun _ => 0))), (s3, .inr (8, [.ref i3, .int 1, .int 0, .int 0])), (i3, .inl (cI, 60, .inl (fun _ => 0))), (hx, .inr (10, [.ref aLa, .ref aPa, .ref aGe, .ref aFl, .ref aTr, .ref aBe, .ref aLu, .ref aLo, .ref vSf, .ref vSm, .ref vCo, .ref vSh, .int 0, .int 0, .int 0])), (vSh, .inl (cQ, 4, .inr (.inr (.inr (.inr (fSh s0 s1 s2 s3))))))] H := hP
    have hD : va_D A [(s0, .inr (8, [.ref i0, .int 1, .int 0, .int 0])), (i0, .inl (cI, 60, .inl (fun _ => 0))), (s1, .inr (8, [.ref i1, .int 1, .int 0, .int 0])), (i1, .inl (cI, 60, .inl (fun _ => 0))), (s2, .inr (8, [.ref i2, .int 1, .int 0, .int 0])), (i2, .inl (cI, 60, .inl (fun _ => 0))), (s3, .inr (8, [.ref i3, .int 1, .int 0, .int 0])), (i3, .inl (cI, 60, .inl (fun _ => 0))), (hx, .inr (10, [.ref aLa, .ref aPa, .ref aGe, .ref aFl, .ref aTr, .ref aBe, .ref aLu, .ref aLo, .ref vSf, .ref vSm, .ref vCo, .ref vSh, .int 0, .int 0, .int 0])), (vSh, .inl (cQ, 4, .inr (.inr (.inr (.inr (fSh s0 s1 s2 s3))))))] := hD
    try dsimp only at hw
    by_cases c_11 : 0 ≤ m ∧ m ≤ 2
    · rw [if_pos c_11] at hw
      refine k_topi (v := 1) hw ?_
      refine lv_if_eq (tgt := 25) hx₀ hb dX11_sheet_16 (by decide) (fun c9 => absurd c9 (by decide +kernel)) (fun _ => ?_)
      refine lv_iload_n hx₀ hb dX11_sheet_19 rfl (lv_at hl 4 rfl) ?_
      refine lv_bipush (v := 60) hx₀ hb dX11_sheet_20 (by decide +kernel) ?_
      refine lv_icmp_le (tgt := 28) hx₀ hb dX11_sheet_22 (by decide) (fun c_12 => ?_) (fun c_12 => ?_)
      · refine lv_iload_n hx₀ hb dX11_sheet_28 rfl (lv_at hl 4 rfl) ?_
        refine lv_if_ge (tgt := 38) hx₀ hb dX11_sheet_29 (by decide) (fun c_13 => ?_) (fun c_13 => ?_)
        · refine lv_aload hx₀ hb dX11_sheet_38 (lv_at hl 0 rfl) ?_
          refine lv_iload_n hx₀ hb dX11_sheet_40 rfl (lv_at hl 3 rfl) ?_
          refine lv_iload_n hx₀ hb dX11_sheet_41 rfl (lv_at hl 4 rfl) ?_
          have hPc := hP.sub (ws' := [(s1, .inr (8, [.ref i1, .int 1, .int 0, .int 0])), (i1, .inl (cI, 60, .inl (fun _ => 0)))]) [2, 3] rfl
          have hDc := hD.sub (ws' := [(s1, .inr (8, [.ref i1, .int 1, .int 0, .int 0])), (i1, .inl (cI, 60, .inl (fun _ => 0)))]) [2, 3] (by decide) rfl
          have hFc := va_free (wc := [(s1, .inr (8, [.ref i1, .int 1, .int 0, .int 0])), (i1, .inl (cI, 60, .inl (fun _ => 0)))]) hD hS hA [2, 3] rfl
          refine va_callv (va_runV (As := [.int m, .int n]) (rest := []) ⟨hx₀, hb, hml, hown, hts⟩ (c_renew l dC dI cI cJ cQ H.size s1 m n i1) (cwV 2 hts (kGV wd_868 wd_865 wd_866 wd_867 wd_51) rfl rfl rfl (by decide +kernel) ⟨Nat.le_of_ble_eq_true rfl, Nat.le_of_ble_eq_true rfl⟩) (k_preV (ci := 8) (q0 := 0) hK hPc hDc hN rfl rfl) rfl rfl hl.1 rfl (lv_room (Nat.le_of_ble_eq_true rfl)) dX11_sheet_42 ⟨by decide +kernel, by decide +kernel⟩) hS (fun q _ h => hFc q h) hFc (fun u₀ t₀ H1 locs ht hvm hw hB hz1 hk1 hS => ?_)
          obtain ⟨hP, hD⟩ := va_join (wr := [(s0, .inr (8, [.ref i0, .int 1, .int 0, .int 0])), (i0, .inl (cI, 60, .inl (fun _ => 0))), (s2, .inr (8, [.ref i2, .int 1, .int 0, .int 0])), (i2, .inl (cI, 60, .inl (fun _ => 0))), (s3, .inr (8, [.ref i3, .int 1, .int 0, .int 0])), (i3, .inl (cI, 60, .inl (fun _ => 0))), (hx, .inr (10, [.ref aLa, .ref aPa, .ref aGe, .ref aFl, .ref aTr, .ref aBe, .ref aLu, .ref aLo, .ref vSf, .ref vSm, .ref vCo, .ref vSh, .int 0, .int 0, .int 0])), (vSh, .inl (cQ, 4, .inr (.inr (.inr (.inr (fSh s0 s1 s2 s3))))))]) (w1 := []) hP hD [2, 3] [0, 1, 4, 5, 6, 7, 8, 9] rfl rfl (by decide) (by decide) hk1 hFc (k_nilP _) (k_nilD _)
          generalize H1 = H at hP hS ⊢
          have hP : va_P (dC, dI) vwCl [(s0, .inr (8, [.ref i0, .int 1, .int 0, .int 0])), (i0, .inl (cI, 60, .inl (fun _ => 0))), (s2, .inr (8, [.ref i2, .int 1, .int 0, .int 0])), (i2, .inl (cI, 60, .inl (fun _ => 0))), (s3, .inr (8, [.ref i3, .int 1, .int 0, .int 0])), (i3, .inl (cI, 60, .inl (fun _ => 0))), (hx, .inr (10, [.ref aLa, .ref aPa, .ref aGe, .ref aFl, .ref aTr, .ref aBe, .ref aLu, .ref aLo, .ref vSf, .ref vSm, .ref vCo, .ref vSh, .int 0, .int 0, .int 0])), (vSh, .inl (cQ, 4, .inr (.inr (.inr (.inr (fSh s0 s1 s2 s3))))))] H := hP
          have hD : va_D A [(s0, .inr (8, [.ref i0, .int 1, .int 0, .int 0])), (i0, .inl (cI, 60, .inl (fun _ => 0))), (s2, .inr (8, [.ref i2, .int 1, .int 0, .int 0])), (i2, .inl (cI, 60, .inl (fun _ => 0))), (s3, .inr (8, [.ref i3, .int 1, .int 0, .int 0])), (i3, .inl (cI, 60, .inl (fun _ => 0))), (hx, .inr (10, [.ref aLa, .ref aPa, .ref aGe, .ref aFl, .ref aTr, .ref aBe, .ref aLu, .ref aLo, .ref vSf, .ref vSm, .ref vCo, .ref vSh, .int 0, .int 0, .int 0])), (vSh, .inl (cQ, 4, .inr (.inr (.inr (.inr (fSh s0 s1 s2 s3))))))] := hD
          refine lv_iload_n hx₀ hb dX11_sheet_45 rfl (lv_at hl 4 rfl) ?_
          exact W.iret (v := n) hx₀ hb hr (fun t₀ ht hW => ⟨⟨n, (), rfl, (lf_x_sheet_5 s m n c_2 c_9 c_11 c_12 c_13), trivial⟩, hS.F ht⟩) hS.2.2 dX11_sheet_46
        · refine lv_aload_n hx₀ hb dX11_sheet_32 rfl (lv_at hl 1 rfl) ?_
          refine lv_iconst (v := 5) hx₀ hb dX11_sheet_33 (by decide +kernel) ?_
          have hPc := hP.sub (ws' := [(hx, .inr (10, [.ref aLa, .ref aPa, .ref aGe, .ref aFl, .ref aTr, .ref aBe, .ref aLu, .ref aLo, .ref vSf, .ref vSm, .ref vCo, .ref vSh, .int 0, .int 0, .int 0]))]) [8] rfl
          have hDc := hD.sub (ws' := [(hx, .inr (10, [.ref aLa, .ref aPa, .ref aGe, .ref aFl, .ref aTr, .ref aBe, .ref aLu, .ref aLo, .ref vSf, .ref vSm, .ref vCo, .ref vSh, .int 0, .int 0, .int 0]))]) [8] (by decide) rfl
          have hFc := va_free (wc := [(hx, .inr (10, [.ref aLa, .ref aPa, .ref aGe, .ref aFl, .ref aTr, .ref aBe, .ref aLu, .ref aLo, .ref vSf, .ref vSm, .ref vCo, .ref vSh, .int 0, .int 0, .int 0]))]) hD hS hA [8] rfl
          refine va_calli (va_runV (As := [.int 5]) (rest := []) ⟨hx₀, hb, hml, hown, hts⟩ (c_found5 l dC dI cI cJ cQ H.size hx aLa aPa aGe aFl aTr aBe aLu aLo vSf vSm vCo vSh) (cwV 1 hts (kGV wd_387 wd_384 wd_385 wd_386 wd_2) rfl rfl rfl (by decide +kernel) ⟨Nat.le_of_ble_eq_true rfl, Nat.le_of_ble_eq_true rfl⟩) (k_preV (ci := 10) (q0 := 0) hK hPc hDc hN rfl rfl) rfl rfl hl.1 rfl (lv_room (Nat.le_of_ble_eq_true rfl)) dX11_sheet_34 ⟨by decide +kernel, by decide +kernel⟩) hS (fun q _ h => hFc q h) hFc (fun r_15 u₀ t₀ H1 locs ht hvm hw hB hz1 hk1 hS => ?_)
          obtain ⟨hP1, hK1, hD1⟩ := hB
          rw [ht] at hP1
          obtain ⟨hP, hD⟩ := va_join (wr := [(s0, .inr (8, [.ref i0, .int 1, .int 0, .int 0])), (i0, .inl (cI, 60, .inl (fun _ => 0))), (s1, .inr (8, [.ref i1, .int 1, .int 0, .int 0])), (i1, .inl (cI, 60, .inl (fun _ => 0))), (s2, .inr (8, [.ref i2, .int 1, .int 0, .int 0])), (i2, .inl (cI, 60, .inl (fun _ => 0))), (s3, .inr (8, [.ref i3, .int 1, .int 0, .int 0])), (i3, .inl (cI, 60, .inl (fun _ => 0))), (vSh, .inl (cQ, 4, .inr (.inr (.inr (.inr (fSh s0 s1 s2 s3))))))]) (w1 := [(hx, .inr (10, [.ref aLa, .ref aPa, .ref aGe, .ref aFl, .ref aTr, .ref aBe, .ref aLu, .ref aLo, .ref vSf, .ref vSm, .ref vCo, .ref vSh, .int 0, .int 0, .int 5]))]) hP hD [8] [0, 1, 2, 3, 4, 5, 6, 7, 9] rfl rfl (by decide) (by decide) hk1 hFc hP1 hD1
          generalize H1 = H at hP hS ⊢
          have hP : va_P (dC, dI) vwCl [(s0, .inr (8, [.ref i0, .int 1, .int 0, .int 0])), (i0, .inl (cI, 60, .inl (fun _ => 0))), (s1, .inr (8, [.ref i1, .int 1, .int 0, .int 0])), (i1, .inl (cI, 60, .inl (fun _ => 0))), (s2, .inr (8, [.ref i2, .int 1, .int 0, .int 0])), (i2, .inl (cI, 60, .inl (fun _ => 0))), (s3, .inr (8, [.ref i3, .int 1, .int 0, .int 0])), (i3, .inl (cI, 60, .inl (fun _ => 0))), (vSh, .inl (cQ, 4, .inr (.inr (.inr (.inr (fSh s0 s1 s2 s3)))))), (hx, .inr (10, [.ref aLa, .ref aPa, .ref aGe, .ref aFl, .ref aTr, .ref aBe, .ref aLu, .ref aLo, .ref vSf, .ref vSm, .ref vCo, .ref vSh, .int 0, .int 0, .int 5]))] H := hP
          have hD : va_D A [(s0, .inr (8, [.ref i0, .int 1, .int 0, .int 0])), (i0, .inl (cI, 60, .inl (fun _ => 0))), (s1, .inr (8, [.ref i1, .int 1, .int 0, .int 0])), (i1, .inl (cI, 60, .inl (fun _ => 0))), (s2, .inr (8, [.ref i2, .int 1, .int 0, .int 0])), (i2, .inl (cI, 60, .inl (fun _ => 0))), (s3, .inr (8, [.ref i3, .int 1, .int 0, .int 0])), (i3, .inl (cI, 60, .inl (fun _ => 0))), (vSh, .inl (cQ, 4, .inr (.inr (.inr (.inr (fSh s0 s1 s2 s3)))))), (hx, .inr (10, [.ref aLa, .ref aPa, .ref aGe, .ref aFl, .ref aTr, .ref aBe, .ref aLu, .ref aLo, .ref vSf, .ref vSm, .ref vCo, .ref vSh, .int 0, .int 0, .int 5]))] := hD
          try dsimp only at hw
          refine k_topi (v := (-15)) hw ?_
          exact W.iret (v := (-15)) hx₀ hb hr (fun t₀ ht hW => ⟨⟨(-15), (), rfl, (lf_x_sheet_6 s m n c_2 c_9 c_11 c_12 c_13), trivial⟩, hS.F ht⟩) hS.2.2 dX11_sheet_37
      · refine lv_bipush (v := (-2)) hx₀ hb dX11_sheet_25 (by decide +kernel) ?_
        exact W.iret (v := (-2)) hx₀ hb hr (fun t₀ ht hW => ⟨⟨(-2), (), rfl, (lf_x_sheet_7 s m n c_2 c_9 c_11 c_12), trivial⟩, hS.F ht⟩) hS.2.2 dX11_sheet_27
    rw [if_neg c_11] at hw
    refine k_topi (v := 0) hw ?_
    refine lv_if_eq (tgt := 25) hx₀ hb dX11_sheet_16 (by decide) (fun _ => ?_) (fun c9 => absurd (by decide +kernel) c9)
    refine lv_bipush (v := (-2)) hx₀ hb dX11_sheet_25 (by decide +kernel) ?_
    exact W.iret (v := (-2)) hx₀ hb hr (fun t₀ ht hW => ⟨⟨(-2), (), rfl, (lf_x_sheet_8 s m n c_2 c_9 c_11), trivial⟩, hS.F ht⟩) hS.2.2 dX11_sheet_27
  rw [if_neg c_9] at hw
  by_cases c_16 : s = 2
  · rw [if_pos c_16] at hw
    subst hw
    refine W.eq (g2 := F0 m₀ 5 ls [.ref s2]) rfl ?_
    refine lv_astore (lv' := [(4, .ref s2), (0, .ref hx), (1, .int s), (2, .int m), (3, .int n)]) hx₀ hb dX11_sheet_5 hl (by decide) rfl (fun ls hl => ?_)
    refine lv_aload hx₀ hb dX11_sheet_7 (lv_at hl 0 rfl) ?_
    refine lv_ifnull hx₀ hb dX11_sheet_9 ?_
    refine lv_iload_n hx₀ hb dX11_sheet_12 rfl (lv_at hl 3 rfl) ?_
    have hPc := hP.sub (ws' := []) [] rfl
    have hDc := hD.sub (ws' := []) [] (by decide) rfl
    have hFc := va_free (wc := []) hD hS hA [] rfl
    refine va_calli (va_runS (As := [.int m]) (rest := []) ⟨hx₀, hb, hml, hown, hts⟩ (c_isForm l dC dI cI cJ cQ H.size m) (va_cwS 1 hts (kGS wd_864 wd_862 wd_863 wd_2) rfl rfl rfl (by decide +kernel) ⟨Nat.le_of_ble_eq_true rfl, Nat.le_of_ble_eq_true rfl⟩) (k_preS hK hPc hDc hN) rfl rfl hl.1 rfl (lv_room (Nat.le_of_ble_eq_true rfl)) dX11_sheet_13 ⟨by decide +kernel, by decide +kernel⟩) hS (fun q _ h => hFc q h) hFc (fun r_17 u₀ t₀ H1 locs ht hvm hw hB hz1 hk1 hS => ?_)
    obtain ⟨hP1, hK1, hD1⟩ := hB
    rw [ht] at hP1
    obtain ⟨hP, hD⟩ := va_join (wr := [(s0, .inr (8, [.ref i0, .int 1, .int 0, .int 0])), (i0, .inl (cI, 60, .inl (fun _ => 0))), (s1, .inr (8, [.ref i1, .int 1, .int 0, .int 0])), (i1, .inl (cI, 60, .inl (fun _ => 0))), (s2, .inr (8, [.ref i2, .int 1, .int 0, .int 0])), (i2, .inl (cI, 60, .inl (fun _ => 0))), (s3, .inr (8, [.ref i3, .int 1, .int 0, .int 0])), (i3, .inl (cI, 60, .inl (fun _ => 0))), (hx, .inr (10, [.ref aLa, .ref aPa, .ref aGe, .ref aFl, .ref aTr, .ref aBe, .ref aLu, .ref aLo, .ref vSf, .ref vSm, .ref vCo, .ref vSh, .int 0, .int 0, .int 0])), (vSh, .inl (cQ, 4, .inr (.inr (.inr (.inr (fSh s0 s1 s2 s3))))))]) (w1 := []) hP hD [] [0, 1, 2, 3, 4, 5, 6, 7, 8, 9] rfl rfl (by decide) (by decide) hk1 hFc hP1 hD1
    generalize H1 = H at hP hS ⊢
    have hP : va_P (dC, dI) vwCl [(s0, .inr (8, [.ref i0, .int 1, .int 0, .int 0])), (i0, .inl (cI, 60, .inl (fun _ => 0))), (s1, .inr (8, [.ref i1, .int 1, .int 0, .int 0])), (i1, .inl (cI, 60, .inl (fun _ => 0))), (s2, .inr (8, [.ref i2, .int 1, .int 0, .int 0])), (i2, .inl (cI, 60, .inl (fun _ => 0))), (s3, .inr (8, [.ref i3, .int 1, .int 0, .int 0])), (i3, .inl (cI, 60, .inl (fun _ => 0))), (hx, .inr (10, [.ref aLa, .ref aPa, .ref aGe, .ref aFl, .ref aTr, .ref aBe, .ref aLu, .ref aLo, .ref vSf, .ref vSm, .ref vCo, .ref vSh, .int 0, .int 0, .int 0])), (vSh, .inl (cQ, 4, .inr (.inr (.inr (.inr (fSh s0 s1 s2 s3))))))] H := hP
    have hD : va_D A [(s0, .inr (8, [.ref i0, .int 1, .int 0, .int 0])), (i0, .inl (cI, 60, .inl (fun _ => 0))), (s1, .inr (8, [.ref i1, .int 1, .int 0, .int 0])), (i1, .inl (cI, 60, .inl (fun _ => 0))), (s2, .inr (8, [.ref i2, .int 1, .int 0, .int 0])), (i2, .inl (cI, 60, .inl (fun _ => 0))), (s3, .inr (8, [.ref i3, .int 1, .int 0, .int 0])), (i3, .inl (cI, 60, .inl (fun _ => 0))), (hx, .inr (10, [.ref aLa, .ref aPa, .ref aGe, .ref aFl, .ref aTr, .ref aBe, .ref aLu, .ref aLo, .ref vSf, .ref vSm, .ref vCo, .ref vSh, .int 0, .int 0, .int 0])), (vSh, .inl (cQ, 4, .inr (.inr (.inr (.inr (fSh s0 s1 s2 s3))))))] := hD
    try dsimp only at hw
    by_cases c_18 : 0 ≤ m ∧ m ≤ 2
    · rw [if_pos c_18] at hw
      refine k_topi (v := 1) hw ?_
      refine lv_if_eq (tgt := 25) hx₀ hb dX11_sheet_16 (by decide) (fun c9 => absurd c9 (by decide +kernel)) (fun _ => ?_)
      refine lv_iload_n hx₀ hb dX11_sheet_19 rfl (lv_at hl 4 rfl) ?_
      refine lv_bipush (v := 60) hx₀ hb dX11_sheet_20 (by decide +kernel) ?_
      refine lv_icmp_le (tgt := 28) hx₀ hb dX11_sheet_22 (by decide) (fun c_19 => ?_) (fun c_19 => ?_)
      · refine lv_iload_n hx₀ hb dX11_sheet_28 rfl (lv_at hl 4 rfl) ?_
        refine lv_if_ge (tgt := 38) hx₀ hb dX11_sheet_29 (by decide) (fun c_20 => ?_) (fun c_20 => ?_)
        · refine lv_aload hx₀ hb dX11_sheet_38 (lv_at hl 0 rfl) ?_
          refine lv_iload_n hx₀ hb dX11_sheet_40 rfl (lv_at hl 3 rfl) ?_
          refine lv_iload_n hx₀ hb dX11_sheet_41 rfl (lv_at hl 4 rfl) ?_
          have hPc := hP.sub (ws' := [(s2, .inr (8, [.ref i2, .int 1, .int 0, .int 0])), (i2, .inl (cI, 60, .inl (fun _ => 0)))]) [4, 5] rfl
          have hDc := hD.sub (ws' := [(s2, .inr (8, [.ref i2, .int 1, .int 0, .int 0])), (i2, .inl (cI, 60, .inl (fun _ => 0)))]) [4, 5] (by decide) rfl
          have hFc := va_free (wc := [(s2, .inr (8, [.ref i2, .int 1, .int 0, .int 0])), (i2, .inl (cI, 60, .inl (fun _ => 0)))]) hD hS hA [4, 5] rfl
          refine va_callv (va_runV (As := [.int m, .int n]) (rest := []) ⟨hx₀, hb, hml, hown, hts⟩ (c_renew l dC dI cI cJ cQ H.size s2 m n i2) (cwV 2 hts (kGV wd_868 wd_865 wd_866 wd_867 wd_51) rfl rfl rfl (by decide +kernel) ⟨Nat.le_of_ble_eq_true rfl, Nat.le_of_ble_eq_true rfl⟩) (k_preV (ci := 8) (q0 := 0) hK hPc hDc hN rfl rfl) rfl rfl hl.1 rfl (lv_room (Nat.le_of_ble_eq_true rfl)) dX11_sheet_42 ⟨by decide +kernel, by decide +kernel⟩) hS (fun q _ h => hFc q h) hFc (fun u₀ t₀ H1 locs ht hvm hw hB hz1 hk1 hS => ?_)
          obtain ⟨hP, hD⟩ := va_join (wr := [(s0, .inr (8, [.ref i0, .int 1, .int 0, .int 0])), (i0, .inl (cI, 60, .inl (fun _ => 0))), (s1, .inr (8, [.ref i1, .int 1, .int 0, .int 0])), (i1, .inl (cI, 60, .inl (fun _ => 0))), (s3, .inr (8, [.ref i3, .int 1, .int 0, .int 0])), (i3, .inl (cI, 60, .inl (fun _ => 0))), (hx, .inr (10, [.ref aLa, .ref aPa, .ref aGe, .ref aFl, .ref aTr, .ref aBe, .ref aLu, .ref aLo, .ref vSf, .ref vSm, .ref vCo, .ref vSh, .int 0, .int 0, .int 0])), (vSh, .inl (cQ, 4, .inr (.inr (.inr (.inr (fSh s0 s1 s2 s3))))))]) (w1 := []) hP hD [4, 5] [0, 1, 2, 3, 6, 7, 8, 9] rfl rfl (by decide) (by decide) hk1 hFc (k_nilP _) (k_nilD _)
          generalize H1 = H at hP hS ⊢
          have hP : va_P (dC, dI) vwCl [(s0, .inr (8, [.ref i0, .int 1, .int 0, .int 0])), (i0, .inl (cI, 60, .inl (fun _ => 0))), (s1, .inr (8, [.ref i1, .int 1, .int 0, .int 0])), (i1, .inl (cI, 60, .inl (fun _ => 0))), (s3, .inr (8, [.ref i3, .int 1, .int 0, .int 0])), (i3, .inl (cI, 60, .inl (fun _ => 0))), (hx, .inr (10, [.ref aLa, .ref aPa, .ref aGe, .ref aFl, .ref aTr, .ref aBe, .ref aLu, .ref aLo, .ref vSf, .ref vSm, .ref vCo, .ref vSh, .int 0, .int 0, .int 0])), (vSh, .inl (cQ, 4, .inr (.inr (.inr (.inr (fSh s0 s1 s2 s3))))))] H := hP
          have hD : va_D A [(s0, .inr (8, [.ref i0, .int 1, .int 0, .int 0])), (i0, .inl (cI, 60, .inl (fun _ => 0))), (s1, .inr (8, [.ref i1, .int 1, .int 0, .int 0])), (i1, .inl (cI, 60, .inl (fun _ => 0))), (s3, .inr (8, [.ref i3, .int 1, .int 0, .int 0])), (i3, .inl (cI, 60, .inl (fun _ => 0))), (hx, .inr (10, [.ref aLa, .ref aPa, .ref aGe, .ref aFl, .ref aTr, .ref aBe, .ref aLu, .ref aLo, .ref vSf, .ref vSm, .ref vCo, .ref vSh, .int 0, .int 0, .int 0])), (vSh, .inl (cQ, 4, .inr (.inr (.inr (.inr (fSh s0 s1 s2 s3))))))] := hD
          refine lv_iload_n hx₀ hb dX11_sheet_45 rfl (lv_at hl 4 rfl) ?_
          exact W.iret (v := n) hx₀ hb hr (fun t₀ ht hW => ⟨⟨n, (), rfl, (lf_x_sheet_9 s m n c_2 c_9 c_16 c_18 c_19 c_20), trivial⟩, hS.F ht⟩) hS.2.2 dX11_sheet_46
        · refine lv_aload_n hx₀ hb dX11_sheet_32 rfl (lv_at hl 1 rfl) ?_
          refine lv_iconst (v := 5) hx₀ hb dX11_sheet_33 (by decide +kernel) ?_
          have hPc := hP.sub (ws' := [(hx, .inr (10, [.ref aLa, .ref aPa, .ref aGe, .ref aFl, .ref aTr, .ref aBe, .ref aLu, .ref aLo, .ref vSf, .ref vSm, .ref vCo, .ref vSh, .int 0, .int 0, .int 0]))]) [8] rfl
          have hDc := hD.sub (ws' := [(hx, .inr (10, [.ref aLa, .ref aPa, .ref aGe, .ref aFl, .ref aTr, .ref aBe, .ref aLu, .ref aLo, .ref vSf, .ref vSm, .ref vCo, .ref vSh, .int 0, .int 0, .int 0]))]) [8] (by decide) rfl
          have hFc := va_free (wc := [(hx, .inr (10, [.ref aLa, .ref aPa, .ref aGe, .ref aFl, .ref aTr, .ref aBe, .ref aLu, .ref aLo, .ref vSf, .ref vSm, .ref vCo, .ref vSh, .int 0, .int 0, .int 0]))]) hD hS hA [8] rfl
          refine va_calli (va_runV (As := [.int 5]) (rest := []) ⟨hx₀, hb, hml, hown, hts⟩ (c_found5 l dC dI cI cJ cQ H.size hx aLa aPa aGe aFl aTr aBe aLu aLo vSf vSm vCo vSh) (cwV 1 hts (kGV wd_387 wd_384 wd_385 wd_386 wd_2) rfl rfl rfl (by decide +kernel) ⟨Nat.le_of_ble_eq_true rfl, Nat.le_of_ble_eq_true rfl⟩) (k_preV (ci := 10) (q0 := 0) hK hPc hDc hN rfl rfl) rfl rfl hl.1 rfl (lv_room (Nat.le_of_ble_eq_true rfl)) dX11_sheet_34 ⟨by decide +kernel, by decide +kernel⟩) hS (fun q _ h => hFc q h) hFc (fun r_22 u₀ t₀ H1 locs ht hvm hw hB hz1 hk1 hS => ?_)
          obtain ⟨hP1, hK1, hD1⟩ := hB
          rw [ht] at hP1
          obtain ⟨hP, hD⟩ := va_join (wr := [(s0, .inr (8, [.ref i0, .int 1, .int 0, .int 0])), (i0, .inl (cI, 60, .inl (fun _ => 0))), (s1, .inr (8, [.ref i1, .int 1, .int 0, .int 0])), (i1, .inl (cI, 60, .inl (fun _ => 0))), (s2, .inr (8, [.ref i2, .int 1, .int 0, .int 0])), (i2, .inl (cI, 60, .inl (fun _ => 0))), (s3, .inr (8, [.ref i3, .int 1, .int 0, .int 0])), (i3, .inl (cI, 60, .inl (fun _ => 0))), (vSh, .inl (cQ, 4, .inr (.inr (.inr (.inr (fSh s0 s1 s2 s3))))))]) (w1 := [(hx, .inr (10, [.ref aLa, .ref aPa, .ref aGe, .ref aFl, .ref aTr, .ref aBe, .ref aLu, .ref aLo, .ref vSf, .ref vSm, .ref vCo, .ref vSh, .int 0, .int 0, .int 5]))]) hP hD [8] [0, 1, 2, 3, 4, 5, 6, 7, 9] rfl rfl (by decide) (by decide) hk1 hFc hP1 hD1
          generalize H1 = H at hP hS ⊢
          have hP : va_P (dC, dI) vwCl [(s0, .inr (8, [.ref i0, .int 1, .int 0, .int 0])), (i0, .inl (cI, 60, .inl (fun _ => 0))), (s1, .inr (8, [.ref i1, .int 1, .int 0, .int 0])), (i1, .inl (cI, 60, .inl (fun _ => 0))), (s2, .inr (8, [.ref i2, .int 1, .int 0, .int 0])), (i2, .inl (cI, 60, .inl (fun _ => 0))), (s3, .inr (8, [.ref i3, .int 1, .int 0, .int 0])), (i3, .inl (cI, 60, .inl (fun _ => 0))), (vSh, .inl (cQ, 4, .inr (.inr (.inr (.inr (fSh s0 s1 s2 s3)))))), (hx, .inr (10, [.ref aLa, .ref aPa, .ref aGe, .ref aFl, .ref aTr, .ref aBe, .ref aLu, .ref aLo, .ref vSf, .ref vSm, .ref vCo, .ref vSh, .int 0, .int 0, .int 5]))] H := hP
          have hD : va_D A [(s0, .inr (8, [.ref i0, .int 1, .int 0, .int 0])), (i0, .inl (cI, 60, .inl (fun _ => 0))), (s1, .inr (8, [.ref i1, .int 1, .int 0, .int 0])), (i1, .inl (cI, 60, .inl (fun _ => 0))), (s2, .inr (8, [.ref i2, .int 1, .int 0, .int 0])), (i2, .inl (cI, 60, .inl (fun _ => 0))), (s3, .inr (8, [.ref i3, .int 1, .int 0, .int 0])), (i3, .inl (cI, 60, .inl (fun _ => 0))), (vSh, .inl (cQ, 4, .inr (.inr (.inr (.inr (fSh s0 s1 s2 s3)))))), (hx, .inr (10, [.ref aLa, .ref aPa, .ref aGe, .ref aFl, .ref aTr, .ref aBe, .ref aLu, .ref aLo, .ref vSf, .ref vSm, .ref vCo, .ref vSh, .int 0, .int 0, .int 5]))] := hD
          try dsimp only at hw
          refine k_topi (v := (-15)) hw ?_
          exact W.iret (v := (-15)) hx₀ hb hr (fun t₀ ht hW => ⟨⟨(-15), (), rfl, (lf_x_sheet_10 s m n c_2 c_9 c_16 c_18 c_19 c_20), trivial⟩, hS.F ht⟩) hS.2.2 dX11_sheet_37
      · refine lv_bipush (v := (-2)) hx₀ hb dX11_sheet_25 (by decide +kernel) ?_
        exact W.iret (v := (-2)) hx₀ hb hr (fun t₀ ht hW => ⟨⟨(-2), (), rfl, (lf_x_sheet_11 s m n c_2 c_9 c_16 c_18 c_19), trivial⟩, hS.F ht⟩) hS.2.2 dX11_sheet_27
    rw [if_neg c_18] at hw
    refine k_topi (v := 0) hw ?_
    refine lv_if_eq (tgt := 25) hx₀ hb dX11_sheet_16 (by decide) (fun _ => ?_) (fun c9 => absurd (by decide +kernel) c9)
    refine lv_bipush (v := (-2)) hx₀ hb dX11_sheet_25 (by decide +kernel) ?_
    exact W.iret (v := (-2)) hx₀ hb hr (fun t₀ ht hW => ⟨⟨(-2), (), rfl, (lf_x_sheet_12 s m n c_2 c_9 c_16 c_18), trivial⟩, hS.F ht⟩) hS.2.2 dX11_sheet_27
  rw [if_neg c_16] at hw
  by_cases c_23 : s = 3
  · rw [if_pos c_23] at hw
    subst hw
    refine W.eq (g2 := F0 m₀ 5 ls [.ref s3]) rfl ?_
    refine lv_astore (lv' := [(4, .ref s3), (0, .ref hx), (1, .int s), (2, .int m), (3, .int n)]) hx₀ hb dX11_sheet_5 hl (by decide) rfl (fun ls hl => ?_)
    refine lv_aload hx₀ hb dX11_sheet_7 (lv_at hl 0 rfl) ?_
    refine lv_ifnull hx₀ hb dX11_sheet_9 ?_
    refine lv_iload_n hx₀ hb dX11_sheet_12 rfl (lv_at hl 3 rfl) ?_
    have hPc := hP.sub (ws' := []) [] rfl
    have hDc := hD.sub (ws' := []) [] (by decide) rfl
    have hFc := va_free (wc := []) hD hS hA [] rfl
    refine va_calli (va_runS (As := [.int m]) (rest := []) ⟨hx₀, hb, hml, hown, hts⟩ (c_isForm l dC dI cI cJ cQ H.size m) (va_cwS 1 hts (kGS wd_864 wd_862 wd_863 wd_2) rfl rfl rfl (by decide +kernel) ⟨Nat.le_of_ble_eq_true rfl, Nat.le_of_ble_eq_true rfl⟩) (k_preS hK hPc hDc hN) rfl rfl hl.1 rfl (lv_room (Nat.le_of_ble_eq_true rfl)) dX11_sheet_13 ⟨by decide +kernel, by decide +kernel⟩) hS (fun q _ h => hFc q h) hFc (fun r_24 u₀ t₀ H1 locs ht hvm hw hB hz1 hk1 hS => ?_)
    obtain ⟨hP1, hK1, hD1⟩ := hB
    rw [ht] at hP1
    obtain ⟨hP, hD⟩ := va_join (wr := [(s0, .inr (8, [.ref i0, .int 1, .int 0, .int 0])), (i0, .inl (cI, 60, .inl (fun _ => 0))), (s1, .inr (8, [.ref i1, .int 1, .int 0, .int 0])), (i1, .inl (cI, 60, .inl (fun _ => 0))), (s2, .inr (8, [.ref i2, .int 1, .int 0, .int 0])), (i2, .inl (cI, 60, .inl (fun _ => 0))), (s3, .inr (8, [.ref i3, .int 1, .int 0, .int 0])), (i3, .inl (cI, 60, .inl (fun _ => 0))), (hx, .inr (10, [.ref aLa, .ref aPa, .ref aGe, .ref aFl, .ref aTr, .ref aBe, .ref aLu, .ref aLo, .ref vSf, .ref vSm, .ref vCo, .ref vSh, .int 0, .int 0, .int 0])), (vSh, .inl (cQ, 4, .inr (.inr (.inr (.inr (fSh s0 s1 s2 s3))))))]) (w1 := []) hP hD [] [0, 1, 2, 3, 4, 5, 6, 7, 8, 9] rfl rfl (by decide) (by decide) hk1 hFc hP1 hD1
    generalize H1 = H at hP hS ⊢
    have hP : va_P (dC, dI) vwCl [(s0, .inr (8, [.ref i0, .int 1, .int 0, .int 0])), (i0, .inl (cI, 60, .inl (fun _ => 0))), (s1, .inr (8, [.ref i1, .int 1, .int 0, .int 0])), (i1, .inl (cI, 60, .inl (fun _ => 0))), (s2, .inr (8, [.ref i2, .int 1, .int 0, .int 0])), (i2, .inl (cI, 60, .inl (fun _ => 0))), (s3, .inr (8, [.ref i3, .int 1, .int 0, .int 0])), (i3, .inl (cI, 60, .inl (fun _ => 0))), (hx, .inr (10, [.ref aLa, .ref aPa, .ref aGe, .ref aFl, .ref aTr, .ref aBe, .ref aLu, .ref aLo, .ref vSf, .ref vSm, .ref vCo, .ref vSh, .int 0, .int 0, .int 0])), (vSh, .inl (cQ, 4, .inr (.inr (.inr (.inr (fSh s0 s1 s2 s3))))))] H := hP
    have hD : va_D A [(s0, .inr (8, [.ref i0, .int 1, .int 0, .int 0])), (i0, .inl (cI, 60, .inl (fun _ => 0))), (s1, .inr (8, [.ref i1, .int 1, .int 0, .int 0])), (i1, .inl (cI, 60, .inl (fun _ => 0))), (s2, .inr (8, [.ref i2, .int 1, .int 0, .int 0])), (i2, .inl (cI, 60, .inl (fun _ => 0))), (s3, .inr (8, [.ref i3, .int 1, .int 0, .int 0])), (i3, .inl (cI, 60, .inl (fun _ => 0))), (hx, .inr (10, [.ref aLa, .ref aPa, .ref aGe, .ref aFl, .ref aTr, .ref aBe, .ref aLu, .ref aLo, .ref vSf, .ref vSm, .ref vCo, .ref vSh, .int 0, .int 0, .int 0])), (vSh, .inl (cQ, 4, .inr (.inr (.inr (.inr (fSh s0 s1 s2 s3))))))] := hD
    try dsimp only at hw
    by_cases c_25 : 0 ≤ m ∧ m ≤ 2
    · rw [if_pos c_25] at hw
      refine k_topi (v := 1) hw ?_
      refine lv_if_eq (tgt := 25) hx₀ hb dX11_sheet_16 (by decide) (fun c9 => absurd c9 (by decide +kernel)) (fun _ => ?_)
      refine lv_iload_n hx₀ hb dX11_sheet_19 rfl (lv_at hl 4 rfl) ?_
      refine lv_bipush (v := 60) hx₀ hb dX11_sheet_20 (by decide +kernel) ?_
      refine lv_icmp_le (tgt := 28) hx₀ hb dX11_sheet_22 (by decide) (fun c_26 => ?_) (fun c_26 => ?_)
      · refine lv_iload_n hx₀ hb dX11_sheet_28 rfl (lv_at hl 4 rfl) ?_
        refine lv_if_ge (tgt := 38) hx₀ hb dX11_sheet_29 (by decide) (fun c_27 => ?_) (fun c_27 => ?_)
        · refine lv_aload hx₀ hb dX11_sheet_38 (lv_at hl 0 rfl) ?_
          refine lv_iload_n hx₀ hb dX11_sheet_40 rfl (lv_at hl 3 rfl) ?_
          refine lv_iload_n hx₀ hb dX11_sheet_41 rfl (lv_at hl 4 rfl) ?_
          have hPc := hP.sub (ws' := [(s3, .inr (8, [.ref i3, .int 1, .int 0, .int 0])), (i3, .inl (cI, 60, .inl (fun _ => 0)))]) [6, 7] rfl
          have hDc := hD.sub (ws' := [(s3, .inr (8, [.ref i3, .int 1, .int 0, .int 0])), (i3, .inl (cI, 60, .inl (fun _ => 0)))]) [6, 7] (by decide) rfl
          have hFc := va_free (wc := [(s3, .inr (8, [.ref i3, .int 1, .int 0, .int 0])), (i3, .inl (cI, 60, .inl (fun _ => 0)))]) hD hS hA [6, 7] rfl
          refine va_callv (va_runV (As := [.int m, .int n]) (rest := []) ⟨hx₀, hb, hml, hown, hts⟩ (c_renew l dC dI cI cJ cQ H.size s3 m n i3) (cwV 2 hts (kGV wd_868 wd_865 wd_866 wd_867 wd_51) rfl rfl rfl (by decide +kernel) ⟨Nat.le_of_ble_eq_true rfl, Nat.le_of_ble_eq_true rfl⟩) (k_preV (ci := 8) (q0 := 0) hK hPc hDc hN rfl rfl) rfl rfl hl.1 rfl (lv_room (Nat.le_of_ble_eq_true rfl)) dX11_sheet_42 ⟨by decide +kernel, by decide +kernel⟩) hS (fun q _ h => hFc q h) hFc (fun u₀ t₀ H1 locs ht hvm hw hB hz1 hk1 hS => ?_)
          obtain ⟨hP, hD⟩ := va_join (wr := [(s0, .inr (8, [.ref i0, .int 1, .int 0, .int 0])), (i0, .inl (cI, 60, .inl (fun _ => 0))), (s1, .inr (8, [.ref i1, .int 1, .int 0, .int 0])), (i1, .inl (cI, 60, .inl (fun _ => 0))), (s2, .inr (8, [.ref i2, .int 1, .int 0, .int 0])), (i2, .inl (cI, 60, .inl (fun _ => 0))), (hx, .inr (10, [.ref aLa, .ref aPa, .ref aGe, .ref aFl, .ref aTr, .ref aBe, .ref aLu, .ref aLo, .ref vSf, .ref vSm, .ref vCo, .ref vSh, .int 0, .int 0, .int 0])), (vSh, .inl (cQ, 4, .inr (.inr (.inr (.inr (fSh s0 s1 s2 s3))))))]) (w1 := []) hP hD [6, 7] [0, 1, 2, 3, 4, 5, 8, 9] rfl rfl (by decide) (by decide) hk1 hFc (k_nilP _) (k_nilD _)
          generalize H1 = H at hP hS ⊢
          have hP : va_P (dC, dI) vwCl [(s0, .inr (8, [.ref i0, .int 1, .int 0, .int 0])), (i0, .inl (cI, 60, .inl (fun _ => 0))), (s1, .inr (8, [.ref i1, .int 1, .int 0, .int 0])), (i1, .inl (cI, 60, .inl (fun _ => 0))), (s2, .inr (8, [.ref i2, .int 1, .int 0, .int 0])), (i2, .inl (cI, 60, .inl (fun _ => 0))), (hx, .inr (10, [.ref aLa, .ref aPa, .ref aGe, .ref aFl, .ref aTr, .ref aBe, .ref aLu, .ref aLo, .ref vSf, .ref vSm, .ref vCo, .ref vSh, .int 0, .int 0, .int 0])), (vSh, .inl (cQ, 4, .inr (.inr (.inr (.inr (fSh s0 s1 s2 s3))))))] H := hP
          have hD : va_D A [(s0, .inr (8, [.ref i0, .int 1, .int 0, .int 0])), (i0, .inl (cI, 60, .inl (fun _ => 0))), (s1, .inr (8, [.ref i1, .int 1, .int 0, .int 0])), (i1, .inl (cI, 60, .inl (fun _ => 0))), (s2, .inr (8, [.ref i2, .int 1, .int 0, .int 0])), (i2, .inl (cI, 60, .inl (fun _ => 0))), (hx, .inr (10, [.ref aLa, .ref aPa, .ref aGe, .ref aFl, .ref aTr, .ref aBe, .ref aLu, .ref aLo, .ref vSf, .ref vSm, .ref vCo, .ref vSh, .int 0, .int 0, .int 0])), (vSh, .inl (cQ, 4, .inr (.inr (.inr (.inr (fSh s0 s1 s2 s3))))))] := hD
          refine lv_iload_n hx₀ hb dX11_sheet_45 rfl (lv_at hl 4 rfl) ?_
          exact W.iret (v := n) hx₀ hb hr (fun t₀ ht hW => ⟨⟨n, (), rfl, (lf_x_sheet_13 s m n c_2 c_9 c_16 c_23 c_25 c_26 c_27), trivial⟩, hS.F ht⟩) hS.2.2 dX11_sheet_46
        · refine lv_aload_n hx₀ hb dX11_sheet_32 rfl (lv_at hl 1 rfl) ?_
          refine lv_iconst (v := 5) hx₀ hb dX11_sheet_33 (by decide +kernel) ?_
          have hPc := hP.sub (ws' := [(hx, .inr (10, [.ref aLa, .ref aPa, .ref aGe, .ref aFl, .ref aTr, .ref aBe, .ref aLu, .ref aLo, .ref vSf, .ref vSm, .ref vCo, .ref vSh, .int 0, .int 0, .int 0]))]) [8] rfl
          have hDc := hD.sub (ws' := [(hx, .inr (10, [.ref aLa, .ref aPa, .ref aGe, .ref aFl, .ref aTr, .ref aBe, .ref aLu, .ref aLo, .ref vSf, .ref vSm, .ref vCo, .ref vSh, .int 0, .int 0, .int 0]))]) [8] (by decide) rfl
          have hFc := va_free (wc := [(hx, .inr (10, [.ref aLa, .ref aPa, .ref aGe, .ref aFl, .ref aTr, .ref aBe, .ref aLu, .ref aLo, .ref vSf, .ref vSm, .ref vCo, .ref vSh, .int 0, .int 0, .int 0]))]) hD hS hA [8] rfl
          refine va_calli (va_runV (As := [.int 5]) (rest := []) ⟨hx₀, hb, hml, hown, hts⟩ (c_found5 l dC dI cI cJ cQ H.size hx aLa aPa aGe aFl aTr aBe aLu aLo vSf vSm vCo vSh) (cwV 1 hts (kGV wd_387 wd_384 wd_385 wd_386 wd_2) rfl rfl rfl (by decide +kernel) ⟨Nat.le_of_ble_eq_true rfl, Nat.le_of_ble_eq_true rfl⟩) (k_preV (ci := 10) (q0 := 0) hK hPc hDc hN rfl rfl) rfl rfl hl.1 rfl (lv_room (Nat.le_of_ble_eq_true rfl)) dX11_sheet_34 ⟨by decide +kernel, by decide +kernel⟩) hS (fun q _ h => hFc q h) hFc (fun r_29 u₀ t₀ H1 locs ht hvm hw hB hz1 hk1 hS => ?_)
          obtain ⟨hP1, hK1, hD1⟩ := hB
          rw [ht] at hP1
          obtain ⟨hP, hD⟩ := va_join (wr := [(s0, .inr (8, [.ref i0, .int 1, .int 0, .int 0])), (i0, .inl (cI, 60, .inl (fun _ => 0))), (s1, .inr (8, [.ref i1, .int 1, .int 0, .int 0])), (i1, .inl (cI, 60, .inl (fun _ => 0))), (s2, .inr (8, [.ref i2, .int 1, .int 0, .int 0])), (i2, .inl (cI, 60, .inl (fun _ => 0))), (s3, .inr (8, [.ref i3, .int 1, .int 0, .int 0])), (i3, .inl (cI, 60, .inl (fun _ => 0))), (vSh, .inl (cQ, 4, .inr (.inr (.inr (.inr (fSh s0 s1 s2 s3))))))]) (w1 := [(hx, .inr (10, [.ref aLa, .ref aPa, .ref aGe, .ref aFl, .ref aTr, .ref aBe, .ref aLu, .ref aLo, .ref vSf, .ref vSm, .ref vCo, .ref vSh, .int 0, .int 0, .int 5]))]) hP hD [8] [0, 1, 2, 3, 4, 5, 6, 7, 9] rfl rfl (by decide) (by decide) hk1 hFc hP1 hD1
          generalize H1 = H at hP hS ⊢
          have hP : va_P (dC, dI) vwCl [(s0, .inr (8, [.ref i0, .int 1, .int 0, .int 0])), (i0, .inl (cI, 60, .inl (fun _ => 0))), (s1, .inr (8, [.ref i1, .int 1, .int 0, .int 0])), (i1, .inl (cI, 60, .inl (fun _ => 0))), (s2, .inr (8, [.ref i2, .int 1, .int 0, .int 0])), (i2, .inl (cI, 60, .inl (fun _ => 0))), (s3, .inr (8, [.ref i3, .int 1, .int 0, .int 0])), (i3, .inl (cI, 60, .inl (fun _ => 0))), (vSh, .inl (cQ, 4, .inr (.inr (.inr (.inr (fSh s0 s1 s2 s3)))))), (hx, .inr (10, [.ref aLa, .ref aPa, .ref aGe, .ref aFl, .ref aTr, .ref aBe, .ref aLu, .ref aLo, .ref vSf, .ref vSm, .ref vCo, .ref vSh, .int 0, .int 0, .int 5]))] H := hP
          have hD : va_D A [(s0, .inr (8, [.ref i0, .int 1, .int 0, .int 0])), (i0, .inl (cI, 60, .inl (fun _ => 0))), (s1, .inr (8, [.ref i1, .int 1, .int 0, .int 0])), (i1, .inl (cI, 60, .inl (fun _ => 0))), (s2, .inr (8, [.ref i2, .int 1, .int 0, .int 0])), (i2, .inl (cI, 60, .inl (fun _ => 0))), (s3, .inr (8, [.ref i3, .int 1, .int 0, .int 0])), (i3, .inl (cI, 60, .inl (fun _ => 0))), (vSh, .inl (cQ, 4, .inr (.inr (.inr (.inr (fSh s0 s1 s2 s3)))))), (hx, .inr (10, [.ref aLa, .ref aPa, .ref aGe, .ref aFl, .ref aTr, .ref aBe, .ref aLu, .ref aLo, .ref vSf, .ref vSm, .ref vCo, .ref vSh, .int 0, .int 0, .int 5]))] := hD
          try dsimp only at hw
          refine k_topi (v := (-15)) hw ?_
          exact W.iret (v := (-15)) hx₀ hb hr (fun t₀ ht hW => ⟨⟨(-15), (), rfl, (lf_x_sheet_14 s m n c_2 c_9 c_16 c_23 c_25 c_26 c_27), trivial⟩, hS.F ht⟩) hS.2.2 dX11_sheet_37
      · refine lv_bipush (v := (-2)) hx₀ hb dX11_sheet_25 (by decide +kernel) ?_
        exact W.iret (v := (-2)) hx₀ hb hr (fun t₀ ht hW => ⟨⟨(-2), (), rfl, (lf_x_sheet_15 s m n c_2 c_9 c_16 c_23 c_25 c_26), trivial⟩, hS.F ht⟩) hS.2.2 dX11_sheet_27
    rw [if_neg c_25] at hw
    refine k_topi (v := 0) hw ?_
    refine lv_if_eq (tgt := 25) hx₀ hb dX11_sheet_16 (by decide) (fun _ => ?_) (fun c9 => absurd (by decide +kernel) c9)
    refine lv_bipush (v := (-2)) hx₀ hb dX11_sheet_25 (by decide +kernel) ?_
    exact W.iret (v := (-2)) hx₀ hb hr (fun t₀ ht hW => ⟨⟨(-2), (), rfl, (lf_x_sheet_16 s m n c_2 c_9 c_16 c_23 c_25), trivial⟩, hS.F ht⟩) hS.2.2 dX11_sheet_27
  rw [if_neg c_23] at hw
  subst hw
  refine W.eq (g2 := F0 m₀ 5 ls [.null]) rfl ?_
  refine lv_astoreN (lv' := [(4, .null), (0, .ref hx), (1, .int s), (2, .int m), (3, .int n)]) hx₀ hb dX11_sheet_5 hl (by decide) rfl (fun ls hl => ?_)
  refine lv_aloadN hx₀ hb dX11_sheet_7 (lv_at hl 0 rfl) ?_
  refine lv_ifnullN (tgt := 25) hx₀ hb dX11_sheet_9 (by decide) ?_
  refine lv_bipush (v := (-2)) hx₀ hb dX11_sheet_25 (by decide +kernel) ?_
  exact W.iret (v := (-2)) hx₀ hb hr (fun t₀ ht hW => ⟨⟨(-2), (), rfl, (lf_x_sheet_17 s m n c_2 c_9 c_16 c_23), trivial⟩, hS.F ht⟩) hS.2.2 dX11_sheet_27
theorem lf_x_digest_1  (c9 : ¬ (0 ≤ (0 : Int32) ∧ (0 : Int32) ≤ 8)) : False := by
  (first | omega | (simp only [Int64.le_iff_toInt_le, Int64.lt_iff_toInt_lt, Int32.le_iff_toInt_le, Int32.lt_iff_toInt_lt, ← Int32.toInt_inj, ← Int64.toInt_inj, Int32.toInt_toInt64, (show (0 : Int32).toInt = 0 from by decide), (show (0 : Int64).toInt = 0 from by decide), (show (8 : Int32).toInt = 8 from by decide), (show (8 : Int64).toInt = 8 from by decide)] at *; omega))
theorem lf_x_digest_2  (c9 : ¬ (0 ≤ (1 : Int32) ∧ (1 : Int32) ≤ 8)) : False := by
  (first | omega | (simp only [Int64.le_iff_toInt_le, Int64.lt_iff_toInt_lt, Int32.le_iff_toInt_le, Int32.lt_iff_toInt_lt, ← Int32.toInt_inj, ← Int64.toInt_inj, Int32.toInt_toInt64, (show (0 : Int32).toInt = 0 from by decide), (show (0 : Int64).toInt = 0 from by decide), (show (1 : Int32).toInt = 1 from by decide), (show (1 : Int64).toInt = 1 from by decide), (show (8 : Int32).toInt = 8 from by decide), (show (8 : Int64).toInt = 8 from by decide)] at *; omega))
theorem lf_x_digest_3  (c9 : ¬ (0 ≤ (2 : Int32) ∧ (2 : Int32) ≤ 8)) : False := by
  (first | omega | (simp only [Int64.le_iff_toInt_le, Int64.lt_iff_toInt_lt, Int32.le_iff_toInt_le, Int32.lt_iff_toInt_lt, ← Int32.toInt_inj, ← Int64.toInt_inj, Int32.toInt_toInt64, (show (0 : Int32).toInt = 0 from by decide), (show (0 : Int64).toInt = 0 from by decide), (show (2 : Int32).toInt = 2 from by decide), (show (2 : Int64).toInt = 2 from by decide), (show (8 : Int32).toInt = 8 from by decide), (show (8 : Int64).toInt = 8 from by decide)] at *; omega))
theorem lf_x_digest_4  (c9 : ¬ (0 ≤ (3 : Int32) ∧ (3 : Int32) ≤ 8)) : False := by
  (first | omega | (simp only [Int64.le_iff_toInt_le, Int64.lt_iff_toInt_lt, Int32.le_iff_toInt_le, Int32.lt_iff_toInt_lt, ← Int32.toInt_inj, ← Int64.toInt_inj, Int32.toInt_toInt64, (show (0 : Int32).toInt = 0 from by decide), (show (0 : Int64).toInt = 0 from by decide), (show (3 : Int32).toInt = 3 from by decide), (show (3 : Int64).toInt = 3 from by decide), (show (8 : Int32).toInt = 8 from by decide), (show (8 : Int64).toInt = 8 from by decide)] at *; omega))
theorem lf_x_digest_5  (c9 : ¬ (0 ≤ (4 : Int32) ∧ (4 : Int32) ≤ 8)) : False := by
  (first | omega | (simp only [Int64.le_iff_toInt_le, Int64.lt_iff_toInt_lt, Int32.le_iff_toInt_le, Int32.lt_iff_toInt_lt, ← Int32.toInt_inj, ← Int64.toInt_inj, Int32.toInt_toInt64, (show (0 : Int32).toInt = 0 from by decide), (show (0 : Int64).toInt = 0 from by decide), (show (4 : Int32).toInt = 4 from by decide), (show (4 : Int64).toInt = 4 from by decide), (show (8 : Int32).toInt = 8 from by decide), (show (8 : Int64).toInt = 8 from by decide)] at *; omega))
theorem lf_x_digest_6  (c9 : ¬ (0 ≤ (5 : Int32) ∧ (5 : Int32) ≤ 8)) : False := by
  (first | omega | (simp only [Int64.le_iff_toInt_le, Int64.lt_iff_toInt_lt, Int32.le_iff_toInt_le, Int32.lt_iff_toInt_lt, ← Int32.toInt_inj, ← Int64.toInt_inj, Int32.toInt_toInt64, (show (0 : Int32).toInt = 0 from by decide), (show (0 : Int64).toInt = 0 from by decide), (show (5 : Int32).toInt = 5 from by decide), (show (5 : Int64).toInt = 5 from by decide), (show (8 : Int32).toInt = 8 from by decide), (show (8 : Int64).toInt = 8 from by decide)] at *; omega))
theorem lf_x_digest_7  (c9 : ¬ (0 ≤ (6 : Int32) ∧ (6 : Int32) ≤ 8)) : False := by
  (first | omega | (simp only [Int64.le_iff_toInt_le, Int64.lt_iff_toInt_lt, Int32.le_iff_toInt_le, Int32.lt_iff_toInt_lt, ← Int32.toInt_inj, ← Int64.toInt_inj, Int32.toInt_toInt64, (show (0 : Int32).toInt = 0 from by decide), (show (0 : Int64).toInt = 0 from by decide), (show (6 : Int32).toInt = 6 from by decide), (show (6 : Int64).toInt = 6 from by decide), (show (8 : Int32).toInt = 8 from by decide), (show (8 : Int64).toInt = 8 from by decide)] at *; omega))
theorem lf_x_digest_8  (c9 : ¬ (0 ≤ (7 : Int32) ∧ (7 : Int32) ≤ 8)) : False := by
  (first | omega | (simp only [Int64.le_iff_toInt_le, Int64.lt_iff_toInt_lt, Int32.le_iff_toInt_le, Int32.lt_iff_toInt_lt, ← Int32.toInt_inj, ← Int64.toInt_inj, Int32.toInt_toInt64, (show (0 : Int32).toInt = 0 from by decide), (show (0 : Int64).toInt = 0 from by decide), (show (7 : Int32).toInt = 7 from by decide), (show (7 : Int64).toInt = 7 from by decide), (show (8 : Int32).toInt = 8 from by decide), (show (8 : Int64).toInt = 8 from by decide)] at *; omega))
theorem lf_x_digest_9  (c9 : ¬ (0 ≤ (0 : Int32) ∧ (0 : Int32) ≤ 2)) : False := by
  (first | omega | (simp only [Int64.le_iff_toInt_le, Int64.lt_iff_toInt_lt, Int32.le_iff_toInt_le, Int32.lt_iff_toInt_lt, ← Int32.toInt_inj, ← Int64.toInt_inj, Int32.toInt_toInt64, (show (0 : Int32).toInt = 0 from by decide), (show (0 : Int64).toInt = 0 from by decide), (show (2 : Int32).toInt = 2 from by decide), (show (2 : Int64).toInt = 2 from by decide)] at *; omega))
theorem lf_x_digest_10  (c9 : ¬ (0 ≤ (1 : Int32) ∧ (1 : Int32) ≤ 2)) : False := by
  (first | omega | (simp only [Int64.le_iff_toInt_le, Int64.lt_iff_toInt_lt, Int32.le_iff_toInt_le, Int32.lt_iff_toInt_lt, ← Int32.toInt_inj, ← Int64.toInt_inj, Int32.toInt_toInt64, (show (0 : Int32).toInt = 0 from by decide), (show (0 : Int64).toInt = 0 from by decide), (show (1 : Int32).toInt = 1 from by decide), (show (1 : Int64).toInt = 1 from by decide), (show (2 : Int32).toInt = 2 from by decide), (show (2 : Int64).toInt = 2 from by decide)] at *; omega))
theorem lf_x_digest_11  (c9 : ¬ (0 ≤ (2 : Int32) ∧ (2 : Int32) ≤ 2)) : False := by
  (first | omega | (simp only [Int64.le_iff_toInt_le, Int64.lt_iff_toInt_lt, Int32.le_iff_toInt_le, Int32.lt_iff_toInt_lt, ← Int32.toInt_inj, ← Int64.toInt_inj, Int32.toInt_toInt64, (show (0 : Int32).toInt = 0 from by decide), (show (0 : Int64).toInt = 0 from by decide), (show (2 : Int32).toInt = 2 from by decide), (show (2 : Int64).toInt = 2 from by decide)] at *; omega))
theorem lf_x_digest_12  (c9 : ¬ (1 ≤ (30 : Int32) ∧ (30 : Int32) ≤ 99 ∧ 0 ≤ (0 : Int32) ∧ (0 : Int32) ≤ 1)) : False := by
  (first | omega | (simp only [Int64.le_iff_toInt_le, Int64.lt_iff_toInt_lt, Int32.le_iff_toInt_le, Int32.lt_iff_toInt_lt, ← Int32.toInt_inj, ← Int64.toInt_inj, Int32.toInt_toInt64, (show (0 : Int32).toInt = 0 from by decide), (show (0 : Int64).toInt = 0 from by decide), (show (1 : Int32).toInt = 1 from by decide), (show (1 : Int64).toInt = 1 from by decide), (show (30 : Int32).toInt = 30 from by decide), (show (30 : Int64).toInt = 30 from by decide), (show (99 : Int32).toInt = 99 from by decide), (show (99 : Int64).toInt = 99 from by decide)] at *; omega))
theorem lf_x_digest_13  (c9 : ¬ (1 ≤ (30 : Int32) ∧ (30 : Int32) ≤ 99 ∧ 0 ≤ (1 : Int32) ∧ (1 : Int32) ≤ 1)) : False := by
  (first | omega | (simp only [Int64.le_iff_toInt_le, Int64.lt_iff_toInt_lt, Int32.le_iff_toInt_le, Int32.lt_iff_toInt_lt, ← Int32.toInt_inj, ← Int64.toInt_inj, Int32.toInt_toInt64, (show (0 : Int32).toInt = 0 from by decide), (show (0 : Int64).toInt = 0 from by decide), (show (1 : Int32).toInt = 1 from by decide), (show (1 : Int64).toInt = 1 from by decide), (show (30 : Int32).toInt = 30 from by decide), (show (30 : Int64).toInt = 30 from by decide), (show (99 : Int32).toInt = 99 from by decide), (show (99 : Int64).toInt = 99 from by decide)] at *; omega))
set_option maxHeartbeats 4000000 in
set_option maxRecDepth 100000 in
theorem x_digest (l : Launch) (dC : Nat → ClassId) (dI : Nat → Nat → Nat) (cI cJ cQ : ClassId) (sz : Nat) (hx : Nat) (aLa : Nat) (aPa : Nat) (aGe : Nat) (aFl : Nat) (aTr : Nat) (aBe : Nat) (aLu : Nat) (aLo : Nat) (vSf : Nat) (vSm : Nat) (vCo : Nat) (vSh : Nat) (vLa : Nat) (vPa : Nat) (vGe : Nat) (vFl : Nat) : Met l yX11_digest (kW yX11_digest cX11_digest 5 (some .long)) { frames := 2, cells := 0, slots := 0, locals := 43 } (kPre dC dI cI cJ cQ sz [.ref hx] [(hx, .inr (10, [.ref aLa, .ref aPa, .ref aGe, .ref aFl, .ref aTr, .ref aBe, .ref aLu, .ref aLo, .ref vSf, .ref vSm, .ref vCo, .ref vSh, .int 0, .int 0, .int 0])), (aLa, .inr (4, [.ref vLa, .int 0, .int (-1), .int 0])), (aPa, .inr (7, [.ref vPa, .int 0, .int (-1), .int 0])), (aGe, .inr (2, [.ref vGe, .int 0, .int (-1), .int 0])), (aFl, .inr (1, [.ref vFl, .int 0]))]) (va_Ql (fun (r : Int64) (_ : Unit) => r = (-7780464695759165935)) (fun _ _ => True) (va_A [(hx, .inr (10, [.ref aLa, .ref aPa, .ref aGe, .ref aFl, .ref aTr, .ref aBe, .ref aLu, .ref aLo, .ref vSf, .ref vSm, .ref vCo, .ref vSh, .int 0, .int 0, .int 0])), (aLa, .inr (4, [.ref vLa, .int 0, .int (-1), .int 0])), (aPa, .inr (7, [.ref vPa, .int 0, .int (-1), .int 0])), (aGe, .inr (2, [.ref vGe, .int 0, .int (-1), .int 0])), (aFl, .inr (1, [.ref vFl, .int 0]))] sz)) 0 0 (va_A [(hx, .inr (10, [.ref aLa, .ref aPa, .ref aGe, .ref aFl, .ref aTr, .ref aBe, .ref aLu, .ref aLo, .ref vSf, .ref vSm, .ref vCo, .ref vSh, .int 0, .int 0, .int 0])), (aLa, .inr (4, [.ref vLa, .int 0, .int (-1), .int 0])), (aPa, .inr (7, [.ref vPa, .int 0, .int (-1), .int 0])), (aGe, .inr (2, [.ref vGe, .int 0, .int (-1), .int 0])), (aFl, .inr (1, [.ref vFl, .int 0]))] sz) := by
  refine Met.ofW (cc := cX11_digest) (maxL := 5) (ret := (some .long)) (by decide) rfl ?_
  intro p₀ e₀ s₀ m₀ args below meth c₀ s₁ B hml hv₀
  obtain ⟨rfl, hsz, hP, hK, hD0, hN⟩ := hv₀
  have hx₀ := B.exec
  have hb := B.bytes
  have hr := B.returns
  have hts := atoms_spec (ws := (kW yX11_digest cX11_digest 5 (some .long))) B.pre
  have hts := fun w h => hts w (List.mem_cons_of_mem _ h)
  have hown : s₀.vm.findClass RX11 = some m₀.cls := findClass_of_methodNamed B.named
  have hlocks := B.notSynchronized
  subst hsz
  have hD := hD0.self (sz := s₀.heap.size)
  generalize hAe : va_A [(hx, .inr (10, [.ref aLa, .ref aPa, .ref aGe, .ref aFl, .ref aTr, .ref aBe, .ref aLu, .ref aLo, .ref vSf, .ref vSm, .ref vCo, .ref vSh, .int 0, .int 0, .int 0])), (aLa, .inr (4, [.ref vLa, .int 0, .int (-1), .int 0])), (aPa, .inr (7, [.ref vPa, .int 0, .int (-1), .int 0])), (aGe, .inr (2, [.ref vGe, .int 0, .int (-1), .int 0])), (aFl, .inr (1, [.ref vFl, .int 0]))] s₀.heap.size = A at hD ⊢
  have hA : ∀ q : Nat, s₀.heap.size ≤ q → A q := fun q h => by rw [← hAe]; exact Or.inr h
  have hS : va_S A s₀.heap s₀.heap [] := va_S.rf
  have hP : va_P (dC, dI) vwCl [(hx, .inr (10, [.ref aLa, .ref aPa, .ref aGe, .ref aFl, .ref aTr, .ref aBe, .ref aLu, .ref aLo, .ref vSf, .ref vSm, .ref vCo, .ref vSh, .int 0, .int 0, .int 0])), (aLa, .inr (4, [.ref vLa, .int 0, .int (-1), .int 0])), (aPa, .inr (7, [.ref vPa, .int 0, .int (-1), .int 0])), (aGe, .inr (2, [.ref vGe, .int 0, .int (-1), .int 0])), (aFl, .inr (1, [.ref vFl, .int 0]))] s₀.heap := hP
  have hl := lv_entry ([.ref hx]) (n := 5) (Nat.le_of_ble_eq_true rfl)
  rw [lg_entry_eq]
  generalize (lg_sl ([.ref hx]) ++ List.replicate (5 - (lg_sl ([.ref hx])).length) Slot.unset).toArray = ls at hl ⊢
  have hl : lv_has ls 5 [(0, .ref hx)] := hl
  obtain ⟨H, hH⟩ : ∃ z : Heap, z = s₀.heap := ⟨_, rfl⟩
  rw [← hH] at hP
  have hS : va_S A s₀.heap H [] := by rw [hH]; exact hS
  refine k_heap hH ?_
  have hD : va_D A [(hx, .inr (10, [.ref aLa, .ref aPa, .ref aGe, .ref aFl, .ref aTr, .ref aBe, .ref aLu, .ref aLo, .ref vSf, .ref vSm, .ref vCo, .ref vSh, .int 0, .int 0, .int 0])), (aLa, .inr (4, [.ref vLa, .int 0, .int (-1), .int 0])), (aPa, .inr (7, [.ref vPa, .int 0, .int (-1), .int 0])), (aGe, .inr (2, [.ref vGe, .int 0, .int (-1), .int 0])), (aFl, .inr (1, [.ref vFl, .int 0]))] := hD
  obtain ⟨locs, hlo⟩ : ∃ z : List Loc, z = [] := ⟨_, rfl⟩
  rw [← hlo] at hS ⊢
  clear hlo hH hAe hD0
  refine lv_ldc2 (v := 17) hx₀ hb hown (hts (.constantLong RX11 272 (17)) wd_965) dX11_digest_0 ?_
  refine lv_lstore_n (lv' := [(1, .long 17), (0, .ref hx)]) hx₀ hb dX11_digest_3 rfl hl (by decide) rfl (fun ls hl => ?_)
  refine lv_iconst (v := 0) hx₀ hb dX11_digest_4 (by decide +kernel) ?_
  refine lv_istore_n (lv' := [(3, .int 0), (1, .long 17), (0, .ref hx)]) hx₀ hb dX11_digest_5 rfl hl (by decide) rfl (fun ls hl => ?_)
  refine lv_iload_n hx₀ hb dX11_digest_6 rfl (lv_at hl 0 rfl) ?_
  refine lv_bipush (v := 7) hx₀ hb dX11_digest_7 (by decide +kernel) ?_
  refine lv_icmp_gt (tgt := 31) hx₀ hb dX11_digest_9 (by decide) (fun c9 => absurd c9 (by decide +kernel)) (fun _ => ?_)
  refine lv_ldc2 (v := 31) hx₀ hb hown (hts (.constantLong RX11 274 (31)) wd_966) dX11_digest_12 ?_
  refine lv_lload_n hx₀ hb dX11_digest_15 rfl (lv_at hl 1 rfl) ?_
  refine lv_lmul hx₀ hb dX11_digest_16 ?_
  refine k_topl (v := 527) (by decide +kernel) ?_
  refine lv_aload_n hx₀ hb dX11_digest_17 rfl (lv_at hl 2 rfl) ?_
  refine lv_iload_n hx₀ hb dX11_digest_18 rfl (lv_at hl 0 rfl) ?_
  have hPc := hP.sub (ws' := [(hx, .inr (10, [.ref aLa, .ref aPa, .ref aGe, .ref aFl, .ref aTr, .ref aBe, .ref aLu, .ref aLo, .ref vSf, .ref vSm, .ref vCo, .ref vSh, .int 0, .int 0, .int 0])), (aLa, .inr (4, [.ref vLa, .int 0, .int (-1), .int 0])), (aPa, .inr (7, [.ref vPa, .int 0, .int (-1), .int 0])), (aGe, .inr (2, [.ref vGe, .int 0, .int (-1), .int 0])), (aFl, .inr (1, [.ref vFl, .int 0]))]) [0, 1, 2, 3, 4] rfl
  have hDc := hD.sub (ws' := [(hx, .inr (10, [.ref aLa, .ref aPa, .ref aGe, .ref aFl, .ref aTr, .ref aBe, .ref aLu, .ref aLo, .ref vSf, .ref vSm, .ref vCo, .ref vSh, .int 0, .int 0, .int 0])), (aLa, .inr (4, [.ref vLa, .int 0, .int (-1), .int 0])), (aPa, .inr (7, [.ref vPa, .int 0, .int (-1), .int 0])), (aGe, .inr (2, [.ref vGe, .int 0, .int (-1), .int 0])), (aFl, .inr (1, [.ref vFl, .int 0]))]) [0, 1, 2, 3, 4] (by decide) rfl
  have hFc := va_free (wc := [(hx, .inr (10, [.ref aLa, .ref aPa, .ref aGe, .ref aFl, .ref aTr, .ref aBe, .ref aLu, .ref aLo, .ref vSf, .ref vSm, .ref vCo, .ref vSh, .int 0, .int 0, .int 0])), (aLa, .inr (4, [.ref vLa, .int 0, .int (-1), .int 0])), (aPa, .inr (7, [.ref vPa, .int 0, .int (-1), .int 0])), (aGe, .inr (2, [.ref vGe, .int 0, .int (-1), .int 0])), (aFl, .inr (1, [.ref vFl, .int 0]))]) hD hS hA [0, 1, 2, 3, 4] rfl
  refine va_calli (va_runV (As := [.int 0]) (rest := [.long 527]) ⟨hx₀, hb, hml, hown, hts⟩ (x_count l dC dI cI cJ cQ H.size hx 0 aLa aPa aGe aFl aTr aBe aLu aLo vSf vSm vCo vSh vLa vPa vGe vFl) (cwV 1 hts (kGV wd_950 wd_967 wd_948 wd_949 wd_2) rfl rfl rfl (by decide +kernel) ⟨Nat.le_of_ble_eq_true rfl, Nat.le_of_ble_eq_true rfl⟩) (k_preV (ci := 10) (q0 := 0) hK hPc hDc hN rfl rfl) rfl rfl hl.1 rfl (lv_room (Nat.le_of_ble_eq_true rfl)) dX11_digest_19 ⟨by decide +kernel, by decide +kernel⟩) hS (fun q _ h => hFc q h) hFc (fun r_1 u₀ t₀ H1 locs ht hvm hw hB hz1 hk1 hS => ?_)
  obtain ⟨hP1, hK1, hD1⟩ := hB
  rw [ht] at hP1
  obtain ⟨hP, hD⟩ := va_join (wr := []) (w1 := [(hx, .inr (10, [.ref aLa, .ref aPa, .ref aGe, .ref aFl, .ref aTr, .ref aBe, .ref aLu, .ref aLo, .ref vSf, .ref vSm, .ref vCo, .ref vSh, .int 0, .int 0, .int 0])), (aLa, .inr (4, [.ref vLa, .int 0, .int (-1), .int 0])), (aPa, .inr (7, [.ref vPa, .int 0, .int (-1), .int 0])), (aGe, .inr (2, [.ref vGe, .int 0, .int (-1), .int 0])), (aFl, .inr (1, [.ref vFl, .int 0]))]) hP hD [0, 1, 2, 3, 4] [] rfl rfl (by decide) (by decide) hk1 hFc hP1 hD1
  generalize H1 = H at hP hS ⊢
  have hP : va_P (dC, dI) vwCl [(hx, .inr (10, [.ref aLa, .ref aPa, .ref aGe, .ref aFl, .ref aTr, .ref aBe, .ref aLu, .ref aLo, .ref vSf, .ref vSm, .ref vCo, .ref vSh, .int 0, .int 0, .int 0])), (aLa, .inr (4, [.ref vLa, .int 0, .int (-1), .int 0])), (aPa, .inr (7, [.ref vPa, .int 0, .int (-1), .int 0])), (aGe, .inr (2, [.ref vGe, .int 0, .int (-1), .int 0])), (aFl, .inr (1, [.ref vFl, .int 0]))] H := hP
  have hD : va_D A [(hx, .inr (10, [.ref aLa, .ref aPa, .ref aGe, .ref aFl, .ref aTr, .ref aBe, .ref aLu, .ref aLo, .ref vSf, .ref vSm, .ref vCo, .ref vSh, .int 0, .int 0, .int 0])), (aLa, .inr (4, [.ref vLa, .int 0, .int (-1), .int 0])), (aPa, .inr (7, [.ref vPa, .int 0, .int (-1), .int 0])), (aGe, .inr (2, [.ref vGe, .int 0, .int (-1), .int 0])), (aFl, .inr (1, [.ref vFl, .int 0]))] := hD
  try dsimp only at hw
  rw [if_pos (Classical.byContradiction (fun c9 => lf_x_digest_1  c9))] at hw
  refine k_topi (v := 0) hw ?_
  refine lv_i2l (v := 0) hx₀ hb dX11_digest_22 (by decide +kernel) ?_
  refine lv_ladd hx₀ hb dX11_digest_23 ?_
  refine k_topl (v := 527) (by decide +kernel) ?_
  refine lv_lstore_n (lv' := [(1, .long 527), (3, .int 0), (0, .ref hx)]) hx₀ hb dX11_digest_24 rfl hl (by decide) rfl (fun ls hl => ?_)
  refine lv_iinc (v := 1) (lv' := [(3, .int 1), (1, .long 527), (0, .ref hx)]) hx₀ hb dX11_digest_25 hl (k := 1) rfl (by decide +kernel) (by decide) rfl (fun ls hl => ?_)
  refine lv_goto (tgt := 6) hx₀ hb dX11_digest_28 (by decide) ?_
  refine lv_iload_n hx₀ hb dX11_digest_6 rfl (lv_at hl 0 rfl) ?_
  refine lv_bipush (v := 7) hx₀ hb dX11_digest_7 (by decide +kernel) ?_
  refine lv_icmp_gt (tgt := 31) hx₀ hb dX11_digest_9 (by decide) (fun c9 => absurd c9 (by decide +kernel)) (fun _ => ?_)
  refine lv_ldc2 (v := 31) hx₀ hb hown (hts (.constantLong RX11 274 (31)) wd_966) dX11_digest_12 ?_
  refine lv_lload_n hx₀ hb dX11_digest_15 rfl (lv_at hl 1 rfl) ?_
  refine lv_lmul hx₀ hb dX11_digest_16 ?_
  refine k_topl (v := 16337) (by decide +kernel) ?_
  refine lv_aload_n hx₀ hb dX11_digest_17 rfl (lv_at hl 2 rfl) ?_
  refine lv_iload_n hx₀ hb dX11_digest_18 rfl (lv_at hl 0 rfl) ?_
  have hPc := hP.sub (ws' := [(hx, .inr (10, [.ref aLa, .ref aPa, .ref aGe, .ref aFl, .ref aTr, .ref aBe, .ref aLu, .ref aLo, .ref vSf, .ref vSm, .ref vCo, .ref vSh, .int 0, .int 0, .int 0])), (aLa, .inr (4, [.ref vLa, .int 0, .int (-1), .int 0])), (aPa, .inr (7, [.ref vPa, .int 0, .int (-1), .int 0])), (aGe, .inr (2, [.ref vGe, .int 0, .int (-1), .int 0])), (aFl, .inr (1, [.ref vFl, .int 0]))]) [0, 1, 2, 3, 4] rfl
  have hDc := hD.sub (ws' := [(hx, .inr (10, [.ref aLa, .ref aPa, .ref aGe, .ref aFl, .ref aTr, .ref aBe, .ref aLu, .ref aLo, .ref vSf, .ref vSm, .ref vCo, .ref vSh, .int 0, .int 0, .int 0])), (aLa, .inr (4, [.ref vLa, .int 0, .int (-1), .int 0])), (aPa, .inr (7, [.ref vPa, .int 0, .int (-1), .int 0])), (aGe, .inr (2, [.ref vGe, .int 0, .int (-1), .int 0])), (aFl, .inr (1, [.ref vFl, .int 0]))]) [0, 1, 2, 3, 4] (by decide) rfl
  have hFc := va_free (wc := [(hx, .inr (10, [.ref aLa, .ref aPa, .ref aGe, .ref aFl, .ref aTr, .ref aBe, .ref aLu, .ref aLo, .ref vSf, .ref vSm, .ref vCo, .ref vSh, .int 0, .int 0, .int 0])), (aLa, .inr (4, [.ref vLa, .int 0, .int (-1), .int 0])), (aPa, .inr (7, [.ref vPa, .int 0, .int (-1), .int 0])), (aGe, .inr (2, [.ref vGe, .int 0, .int (-1), .int 0])), (aFl, .inr (1, [.ref vFl, .int 0]))]) hD hS hA [0, 1, 2, 3, 4] rfl
  refine va_calli (va_runV (As := [.int 1]) (rest := [.long 16337]) ⟨hx₀, hb, hml, hown, hts⟩ (x_count l dC dI cI cJ cQ H.size hx 1 aLa aPa aGe aFl aTr aBe aLu aLo vSf vSm vCo vSh vLa vPa vGe vFl) (cwV 1 hts (kGV wd_950 wd_967 wd_948 wd_949 wd_2) rfl rfl rfl (by decide +kernel) ⟨Nat.le_of_ble_eq_true rfl, Nat.le_of_ble_eq_true rfl⟩) (k_preV (ci := 10) (q0 := 0) hK hPc hDc hN rfl rfl) rfl rfl hl.1 rfl (lv_room (Nat.le_of_ble_eq_true rfl)) dX11_digest_19 ⟨by decide +kernel, by decide +kernel⟩) hS (fun q _ h => hFc q h) hFc (fun r_3 u₀ t₀ H1 locs ht hvm hw hB hz1 hk1 hS => ?_)
  obtain ⟨hP1, hK1, hD1⟩ := hB
  rw [ht] at hP1
  obtain ⟨hP, hD⟩ := va_join (wr := []) (w1 := [(hx, .inr (10, [.ref aLa, .ref aPa, .ref aGe, .ref aFl, .ref aTr, .ref aBe, .ref aLu, .ref aLo, .ref vSf, .ref vSm, .ref vCo, .ref vSh, .int 0, .int 0, .int 0])), (aLa, .inr (4, [.ref vLa, .int 0, .int (-1), .int 0])), (aPa, .inr (7, [.ref vPa, .int 0, .int (-1), .int 0])), (aGe, .inr (2, [.ref vGe, .int 0, .int (-1), .int 0])), (aFl, .inr (1, [.ref vFl, .int 0]))]) hP hD [0, 1, 2, 3, 4] [] rfl rfl (by decide) (by decide) hk1 hFc hP1 hD1
  generalize H1 = H at hP hS ⊢
  have hP : va_P (dC, dI) vwCl [(hx, .inr (10, [.ref aLa, .ref aPa, .ref aGe, .ref aFl, .ref aTr, .ref aBe, .ref aLu, .ref aLo, .ref vSf, .ref vSm, .ref vCo, .ref vSh, .int 0, .int 0, .int 0])), (aLa, .inr (4, [.ref vLa, .int 0, .int (-1), .int 0])), (aPa, .inr (7, [.ref vPa, .int 0, .int (-1), .int 0])), (aGe, .inr (2, [.ref vGe, .int 0, .int (-1), .int 0])), (aFl, .inr (1, [.ref vFl, .int 0]))] H := hP
  have hD : va_D A [(hx, .inr (10, [.ref aLa, .ref aPa, .ref aGe, .ref aFl, .ref aTr, .ref aBe, .ref aLu, .ref aLo, .ref vSf, .ref vSm, .ref vCo, .ref vSh, .int 0, .int 0, .int 0])), (aLa, .inr (4, [.ref vLa, .int 0, .int (-1), .int 0])), (aPa, .inr (7, [.ref vPa, .int 0, .int (-1), .int 0])), (aGe, .inr (2, [.ref vGe, .int 0, .int (-1), .int 0])), (aFl, .inr (1, [.ref vFl, .int 0]))] := hD
  try dsimp only at hw
  rw [if_pos (Classical.byContradiction (fun c9 => lf_x_digest_2  c9))] at hw
  refine k_topi (v := 0) hw ?_
  refine lv_i2l (v := 0) hx₀ hb dX11_digest_22 (by decide +kernel) ?_
  refine lv_ladd hx₀ hb dX11_digest_23 ?_
  refine k_topl (v := 16337) (by decide +kernel) ?_
  refine lv_lstore_n (lv' := [(1, .long 16337), (3, .int 1), (0, .ref hx)]) hx₀ hb dX11_digest_24 rfl hl (by decide) rfl (fun ls hl => ?_)
  refine lv_iinc (v := 2) (lv' := [(3, .int 2), (1, .long 16337), (0, .ref hx)]) hx₀ hb dX11_digest_25 hl (k := 1) rfl (by decide +kernel) (by decide) rfl (fun ls hl => ?_)
  refine lv_goto (tgt := 6) hx₀ hb dX11_digest_28 (by decide) ?_
  refine lv_iload_n hx₀ hb dX11_digest_6 rfl (lv_at hl 0 rfl) ?_
  refine lv_bipush (v := 7) hx₀ hb dX11_digest_7 (by decide +kernel) ?_
  refine lv_icmp_gt (tgt := 31) hx₀ hb dX11_digest_9 (by decide) (fun c9 => absurd c9 (by decide +kernel)) (fun _ => ?_)
  refine lv_ldc2 (v := 31) hx₀ hb hown (hts (.constantLong RX11 274 (31)) wd_966) dX11_digest_12 ?_
  refine lv_lload_n hx₀ hb dX11_digest_15 rfl (lv_at hl 1 rfl) ?_
  refine lv_lmul hx₀ hb dX11_digest_16 ?_
  refine k_topl (v := 506447) (by decide +kernel) ?_
  refine lv_aload_n hx₀ hb dX11_digest_17 rfl (lv_at hl 2 rfl) ?_
  refine lv_iload_n hx₀ hb dX11_digest_18 rfl (lv_at hl 0 rfl) ?_
  have hPc := hP.sub (ws' := [(hx, .inr (10, [.ref aLa, .ref aPa, .ref aGe, .ref aFl, .ref aTr, .ref aBe, .ref aLu, .ref aLo, .ref vSf, .ref vSm, .ref vCo, .ref vSh, .int 0, .int 0, .int 0])), (aLa, .inr (4, [.ref vLa, .int 0, .int (-1), .int 0])), (aPa, .inr (7, [.ref vPa, .int 0, .int (-1), .int 0])), (aGe, .inr (2, [.ref vGe, .int 0, .int (-1), .int 0])), (aFl, .inr (1, [.ref vFl, .int 0]))]) [0, 1, 2, 3, 4] rfl
  have hDc := hD.sub (ws' := [(hx, .inr (10, [.ref aLa, .ref aPa, .ref aGe, .ref aFl, .ref aTr, .ref aBe, .ref aLu, .ref aLo, .ref vSf, .ref vSm, .ref vCo, .ref vSh, .int 0, .int 0, .int 0])), (aLa, .inr (4, [.ref vLa, .int 0, .int (-1), .int 0])), (aPa, .inr (7, [.ref vPa, .int 0, .int (-1), .int 0])), (aGe, .inr (2, [.ref vGe, .int 0, .int (-1), .int 0])), (aFl, .inr (1, [.ref vFl, .int 0]))]) [0, 1, 2, 3, 4] (by decide) rfl
  have hFc := va_free (wc := [(hx, .inr (10, [.ref aLa, .ref aPa, .ref aGe, .ref aFl, .ref aTr, .ref aBe, .ref aLu, .ref aLo, .ref vSf, .ref vSm, .ref vCo, .ref vSh, .int 0, .int 0, .int 0])), (aLa, .inr (4, [.ref vLa, .int 0, .int (-1), .int 0])), (aPa, .inr (7, [.ref vPa, .int 0, .int (-1), .int 0])), (aGe, .inr (2, [.ref vGe, .int 0, .int (-1), .int 0])), (aFl, .inr (1, [.ref vFl, .int 0]))]) hD hS hA [0, 1, 2, 3, 4] rfl
  refine va_calli (va_runV (As := [.int 2]) (rest := [.long 506447]) ⟨hx₀, hb, hml, hown, hts⟩ (x_count l dC dI cI cJ cQ H.size hx 2 aLa aPa aGe aFl aTr aBe aLu aLo vSf vSm vCo vSh vLa vPa vGe vFl) (cwV 1 hts (kGV wd_950 wd_967 wd_948 wd_949 wd_2) rfl rfl rfl (by decide +kernel) ⟨Nat.le_of_ble_eq_true rfl, Nat.le_of_ble_eq_true rfl⟩) (k_preV (ci := 10) (q0 := 0) hK hPc hDc hN rfl rfl) rfl rfl hl.1 rfl (lv_room (Nat.le_of_ble_eq_true rfl)) dX11_digest_19 ⟨by decide +kernel, by decide +kernel⟩) hS (fun q _ h => hFc q h) hFc (fun r_5 u₀ t₀ H1 locs ht hvm hw hB hz1 hk1 hS => ?_)
  obtain ⟨hP1, hK1, hD1⟩ := hB
  rw [ht] at hP1
  obtain ⟨hP, hD⟩ := va_join (wr := []) (w1 := [(hx, .inr (10, [.ref aLa, .ref aPa, .ref aGe, .ref aFl, .ref aTr, .ref aBe, .ref aLu, .ref aLo, .ref vSf, .ref vSm, .ref vCo, .ref vSh, .int 0, .int 0, .int 0])), (aLa, .inr (4, [.ref vLa, .int 0, .int (-1), .int 0])), (aPa, .inr (7, [.ref vPa, .int 0, .int (-1), .int 0])), (aGe, .inr (2, [.ref vGe, .int 0, .int (-1), .int 0])), (aFl, .inr (1, [.ref vFl, .int 0]))]) hP hD [0, 1, 2, 3, 4] [] rfl rfl (by decide) (by decide) hk1 hFc hP1 hD1
  generalize H1 = H at hP hS ⊢
  have hP : va_P (dC, dI) vwCl [(hx, .inr (10, [.ref aLa, .ref aPa, .ref aGe, .ref aFl, .ref aTr, .ref aBe, .ref aLu, .ref aLo, .ref vSf, .ref vSm, .ref vCo, .ref vSh, .int 0, .int 0, .int 0])), (aLa, .inr (4, [.ref vLa, .int 0, .int (-1), .int 0])), (aPa, .inr (7, [.ref vPa, .int 0, .int (-1), .int 0])), (aGe, .inr (2, [.ref vGe, .int 0, .int (-1), .int 0])), (aFl, .inr (1, [.ref vFl, .int 0]))] H := hP
  have hD : va_D A [(hx, .inr (10, [.ref aLa, .ref aPa, .ref aGe, .ref aFl, .ref aTr, .ref aBe, .ref aLu, .ref aLo, .ref vSf, .ref vSm, .ref vCo, .ref vSh, .int 0, .int 0, .int 0])), (aLa, .inr (4, [.ref vLa, .int 0, .int (-1), .int 0])), (aPa, .inr (7, [.ref vPa, .int 0, .int (-1), .int 0])), (aGe, .inr (2, [.ref vGe, .int 0, .int (-1), .int 0])), (aFl, .inr (1, [.ref vFl, .int 0]))] := hD
  try dsimp only at hw
  rw [if_pos (Classical.byContradiction (fun c9 => lf_x_digest_3  c9))] at hw
  refine k_topi (v := 0) hw ?_
  refine lv_i2l (v := 0) hx₀ hb dX11_digest_22 (by decide +kernel) ?_
  refine lv_ladd hx₀ hb dX11_digest_23 ?_
  refine k_topl (v := 506447) (by decide +kernel) ?_
  refine lv_lstore_n (lv' := [(1, .long 506447), (3, .int 2), (0, .ref hx)]) hx₀ hb dX11_digest_24 rfl hl (by decide) rfl (fun ls hl => ?_)
  refine lv_iinc (v := 3) (lv' := [(3, .int 3), (1, .long 506447), (0, .ref hx)]) hx₀ hb dX11_digest_25 hl (k := 1) rfl (by decide +kernel) (by decide) rfl (fun ls hl => ?_)
  refine lv_goto (tgt := 6) hx₀ hb dX11_digest_28 (by decide) ?_
  refine lv_iload_n hx₀ hb dX11_digest_6 rfl (lv_at hl 0 rfl) ?_
  refine lv_bipush (v := 7) hx₀ hb dX11_digest_7 (by decide +kernel) ?_
  refine lv_icmp_gt (tgt := 31) hx₀ hb dX11_digest_9 (by decide) (fun c9 => absurd c9 (by decide +kernel)) (fun _ => ?_)
  refine lv_ldc2 (v := 31) hx₀ hb hown (hts (.constantLong RX11 274 (31)) wd_966) dX11_digest_12 ?_
  refine lv_lload_n hx₀ hb dX11_digest_15 rfl (lv_at hl 1 rfl) ?_
  refine lv_lmul hx₀ hb dX11_digest_16 ?_
  refine k_topl (v := 15699857) (by decide +kernel) ?_
  refine lv_aload_n hx₀ hb dX11_digest_17 rfl (lv_at hl 2 rfl) ?_
  refine lv_iload_n hx₀ hb dX11_digest_18 rfl (lv_at hl 0 rfl) ?_
  have hPc := hP.sub (ws' := [(hx, .inr (10, [.ref aLa, .ref aPa, .ref aGe, .ref aFl, .ref aTr, .ref aBe, .ref aLu, .ref aLo, .ref vSf, .ref vSm, .ref vCo, .ref vSh, .int 0, .int 0, .int 0])), (aLa, .inr (4, [.ref vLa, .int 0, .int (-1), .int 0])), (aPa, .inr (7, [.ref vPa, .int 0, .int (-1), .int 0])), (aGe, .inr (2, [.ref vGe, .int 0, .int (-1), .int 0])), (aFl, .inr (1, [.ref vFl, .int 0]))]) [0, 1, 2, 3, 4] rfl
  have hDc := hD.sub (ws' := [(hx, .inr (10, [.ref aLa, .ref aPa, .ref aGe, .ref aFl, .ref aTr, .ref aBe, .ref aLu, .ref aLo, .ref vSf, .ref vSm, .ref vCo, .ref vSh, .int 0, .int 0, .int 0])), (aLa, .inr (4, [.ref vLa, .int 0, .int (-1), .int 0])), (aPa, .inr (7, [.ref vPa, .int 0, .int (-1), .int 0])), (aGe, .inr (2, [.ref vGe, .int 0, .int (-1), .int 0])), (aFl, .inr (1, [.ref vFl, .int 0]))]) [0, 1, 2, 3, 4] (by decide) rfl
  have hFc := va_free (wc := [(hx, .inr (10, [.ref aLa, .ref aPa, .ref aGe, .ref aFl, .ref aTr, .ref aBe, .ref aLu, .ref aLo, .ref vSf, .ref vSm, .ref vCo, .ref vSh, .int 0, .int 0, .int 0])), (aLa, .inr (4, [.ref vLa, .int 0, .int (-1), .int 0])), (aPa, .inr (7, [.ref vPa, .int 0, .int (-1), .int 0])), (aGe, .inr (2, [.ref vGe, .int 0, .int (-1), .int 0])), (aFl, .inr (1, [.ref vFl, .int 0]))]) hD hS hA [0, 1, 2, 3, 4] rfl
  refine va_calli (va_runV (As := [.int 3]) (rest := [.long 15699857]) ⟨hx₀, hb, hml, hown, hts⟩ (x_count l dC dI cI cJ cQ H.size hx 3 aLa aPa aGe aFl aTr aBe aLu aLo vSf vSm vCo vSh vLa vPa vGe vFl) (cwV 1 hts (kGV wd_950 wd_967 wd_948 wd_949 wd_2) rfl rfl rfl (by decide +kernel) ⟨Nat.le_of_ble_eq_true rfl, Nat.le_of_ble_eq_true rfl⟩) (k_preV (ci := 10) (q0 := 0) hK hPc hDc hN rfl rfl) rfl rfl hl.1 rfl (lv_room (Nat.le_of_ble_eq_true rfl)) dX11_digest_19 ⟨by decide +kernel, by decide +kernel⟩) hS (fun q _ h => hFc q h) hFc (fun r_7 u₀ t₀ H1 locs ht hvm hw hB hz1 hk1 hS => ?_)
  obtain ⟨hP1, hK1, hD1⟩ := hB
  rw [ht] at hP1
  obtain ⟨hP, hD⟩ := va_join (wr := []) (w1 := [(hx, .inr (10, [.ref aLa, .ref aPa, .ref aGe, .ref aFl, .ref aTr, .ref aBe, .ref aLu, .ref aLo, .ref vSf, .ref vSm, .ref vCo, .ref vSh, .int 0, .int 0, .int 0])), (aLa, .inr (4, [.ref vLa, .int 0, .int (-1), .int 0])), (aPa, .inr (7, [.ref vPa, .int 0, .int (-1), .int 0])), (aGe, .inr (2, [.ref vGe, .int 0, .int (-1), .int 0])), (aFl, .inr (1, [.ref vFl, .int 0]))]) hP hD [0, 1, 2, 3, 4] [] rfl rfl (by decide) (by decide) hk1 hFc hP1 hD1
  generalize H1 = H at hP hS ⊢
  have hP : va_P (dC, dI) vwCl [(hx, .inr (10, [.ref aLa, .ref aPa, .ref aGe, .ref aFl, .ref aTr, .ref aBe, .ref aLu, .ref aLo, .ref vSf, .ref vSm, .ref vCo, .ref vSh, .int 0, .int 0, .int 0])), (aLa, .inr (4, [.ref vLa, .int 0, .int (-1), .int 0])), (aPa, .inr (7, [.ref vPa, .int 0, .int (-1), .int 0])), (aGe, .inr (2, [.ref vGe, .int 0, .int (-1), .int 0])), (aFl, .inr (1, [.ref vFl, .int 0]))] H := hP
  have hD : va_D A [(hx, .inr (10, [.ref aLa, .ref aPa, .ref aGe, .ref aFl, .ref aTr, .ref aBe, .ref aLu, .ref aLo, .ref vSf, .ref vSm, .ref vCo, .ref vSh, .int 0, .int 0, .int 0])), (aLa, .inr (4, [.ref vLa, .int 0, .int (-1), .int 0])), (aPa, .inr (7, [.ref vPa, .int 0, .int (-1), .int 0])), (aGe, .inr (2, [.ref vGe, .int 0, .int (-1), .int 0])), (aFl, .inr (1, [.ref vFl, .int 0]))] := hD
  try dsimp only at hw
  rw [if_pos (Classical.byContradiction (fun c9 => lf_x_digest_4  c9))] at hw
  refine k_topi (v := 0) hw ?_
  refine lv_i2l (v := 0) hx₀ hb dX11_digest_22 (by decide +kernel) ?_
  refine lv_ladd hx₀ hb dX11_digest_23 ?_
  refine k_topl (v := 15699857) (by decide +kernel) ?_
  refine lv_lstore_n (lv' := [(1, .long 15699857), (3, .int 3), (0, .ref hx)]) hx₀ hb dX11_digest_24 rfl hl (by decide) rfl (fun ls hl => ?_)
  refine lv_iinc (v := 4) (lv' := [(3, .int 4), (1, .long 15699857), (0, .ref hx)]) hx₀ hb dX11_digest_25 hl (k := 1) rfl (by decide +kernel) (by decide) rfl (fun ls hl => ?_)
  refine lv_goto (tgt := 6) hx₀ hb dX11_digest_28 (by decide) ?_
  refine lv_iload_n hx₀ hb dX11_digest_6 rfl (lv_at hl 0 rfl) ?_
  refine lv_bipush (v := 7) hx₀ hb dX11_digest_7 (by decide +kernel) ?_
  refine lv_icmp_gt (tgt := 31) hx₀ hb dX11_digest_9 (by decide) (fun c9 => absurd c9 (by decide +kernel)) (fun _ => ?_)
  refine lv_ldc2 (v := 31) hx₀ hb hown (hts (.constantLong RX11 274 (31)) wd_966) dX11_digest_12 ?_
  refine lv_lload_n hx₀ hb dX11_digest_15 rfl (lv_at hl 1 rfl) ?_
  refine lv_lmul hx₀ hb dX11_digest_16 ?_
  refine k_topl (v := 486695567) (by decide +kernel) ?_
  refine lv_aload_n hx₀ hb dX11_digest_17 rfl (lv_at hl 2 rfl) ?_
  refine lv_iload_n hx₀ hb dX11_digest_18 rfl (lv_at hl 0 rfl) ?_
  have hPc := hP.sub (ws' := [(hx, .inr (10, [.ref aLa, .ref aPa, .ref aGe, .ref aFl, .ref aTr, .ref aBe, .ref aLu, .ref aLo, .ref vSf, .ref vSm, .ref vCo, .ref vSh, .int 0, .int 0, .int 0])), (aLa, .inr (4, [.ref vLa, .int 0, .int (-1), .int 0])), (aPa, .inr (7, [.ref vPa, .int 0, .int (-1), .int 0])), (aGe, .inr (2, [.ref vGe, .int 0, .int (-1), .int 0])), (aFl, .inr (1, [.ref vFl, .int 0]))]) [0, 1, 2, 3, 4] rfl
  have hDc := hD.sub (ws' := [(hx, .inr (10, [.ref aLa, .ref aPa, .ref aGe, .ref aFl, .ref aTr, .ref aBe, .ref aLu, .ref aLo, .ref vSf, .ref vSm, .ref vCo, .ref vSh, .int 0, .int 0, .int 0])), (aLa, .inr (4, [.ref vLa, .int 0, .int (-1), .int 0])), (aPa, .inr (7, [.ref vPa, .int 0, .int (-1), .int 0])), (aGe, .inr (2, [.ref vGe, .int 0, .int (-1), .int 0])), (aFl, .inr (1, [.ref vFl, .int 0]))]) [0, 1, 2, 3, 4] (by decide) rfl
  have hFc := va_free (wc := [(hx, .inr (10, [.ref aLa, .ref aPa, .ref aGe, .ref aFl, .ref aTr, .ref aBe, .ref aLu, .ref aLo, .ref vSf, .ref vSm, .ref vCo, .ref vSh, .int 0, .int 0, .int 0])), (aLa, .inr (4, [.ref vLa, .int 0, .int (-1), .int 0])), (aPa, .inr (7, [.ref vPa, .int 0, .int (-1), .int 0])), (aGe, .inr (2, [.ref vGe, .int 0, .int (-1), .int 0])), (aFl, .inr (1, [.ref vFl, .int 0]))]) hD hS hA [0, 1, 2, 3, 4] rfl
  refine va_calli (va_runV (As := [.int 4]) (rest := [.long 486695567]) ⟨hx₀, hb, hml, hown, hts⟩ (x_count l dC dI cI cJ cQ H.size hx 4 aLa aPa aGe aFl aTr aBe aLu aLo vSf vSm vCo vSh vLa vPa vGe vFl) (cwV 1 hts (kGV wd_950 wd_967 wd_948 wd_949 wd_2) rfl rfl rfl (by decide +kernel) ⟨Nat.le_of_ble_eq_true rfl, Nat.le_of_ble_eq_true rfl⟩) (k_preV (ci := 10) (q0 := 0) hK hPc hDc hN rfl rfl) rfl rfl hl.1 rfl (lv_room (Nat.le_of_ble_eq_true rfl)) dX11_digest_19 ⟨by decide +kernel, by decide +kernel⟩) hS (fun q _ h => hFc q h) hFc (fun r_9 u₀ t₀ H1 locs ht hvm hw hB hz1 hk1 hS => ?_)
  obtain ⟨hP1, hK1, hD1⟩ := hB
  rw [ht] at hP1
  obtain ⟨hP, hD⟩ := va_join (wr := []) (w1 := [(hx, .inr (10, [.ref aLa, .ref aPa, .ref aGe, .ref aFl, .ref aTr, .ref aBe, .ref aLu, .ref aLo, .ref vSf, .ref vSm, .ref vCo, .ref vSh, .int 0, .int 0, .int 0])), (aLa, .inr (4, [.ref vLa, .int 0, .int (-1), .int 0])), (aPa, .inr (7, [.ref vPa, .int 0, .int (-1), .int 0])), (aGe, .inr (2, [.ref vGe, .int 0, .int (-1), .int 0])), (aFl, .inr (1, [.ref vFl, .int 0]))]) hP hD [0, 1, 2, 3, 4] [] rfl rfl (by decide) (by decide) hk1 hFc hP1 hD1
  generalize H1 = H at hP hS ⊢
  have hP : va_P (dC, dI) vwCl [(hx, .inr (10, [.ref aLa, .ref aPa, .ref aGe, .ref aFl, .ref aTr, .ref aBe, .ref aLu, .ref aLo, .ref vSf, .ref vSm, .ref vCo, .ref vSh, .int 0, .int 0, .int 0])), (aLa, .inr (4, [.ref vLa, .int 0, .int (-1), .int 0])), (aPa, .inr (7, [.ref vPa, .int 0, .int (-1), .int 0])), (aGe, .inr (2, [.ref vGe, .int 0, .int (-1), .int 0])), (aFl, .inr (1, [.ref vFl, .int 0]))] H := hP
  have hD : va_D A [(hx, .inr (10, [.ref aLa, .ref aPa, .ref aGe, .ref aFl, .ref aTr, .ref aBe, .ref aLu, .ref aLo, .ref vSf, .ref vSm, .ref vCo, .ref vSh, .int 0, .int 0, .int 0])), (aLa, .inr (4, [.ref vLa, .int 0, .int (-1), .int 0])), (aPa, .inr (7, [.ref vPa, .int 0, .int (-1), .int 0])), (aGe, .inr (2, [.ref vGe, .int 0, .int (-1), .int 0])), (aFl, .inr (1, [.ref vFl, .int 0]))] := hD
  try dsimp only at hw
  rw [if_pos (Classical.byContradiction (fun c9 => lf_x_digest_5  c9))] at hw
  refine k_topi (v := 0) hw ?_
  refine lv_i2l (v := 0) hx₀ hb dX11_digest_22 (by decide +kernel) ?_
  refine lv_ladd hx₀ hb dX11_digest_23 ?_
  refine k_topl (v := 486695567) (by decide +kernel) ?_
  refine lv_lstore_n (lv' := [(1, .long 486695567), (3, .int 4), (0, .ref hx)]) hx₀ hb dX11_digest_24 rfl hl (by decide) rfl (fun ls hl => ?_)
  refine lv_iinc (v := 5) (lv' := [(3, .int 5), (1, .long 486695567), (0, .ref hx)]) hx₀ hb dX11_digest_25 hl (k := 1) rfl (by decide +kernel) (by decide) rfl (fun ls hl => ?_)
  refine lv_goto (tgt := 6) hx₀ hb dX11_digest_28 (by decide) ?_
  refine lv_iload_n hx₀ hb dX11_digest_6 rfl (lv_at hl 0 rfl) ?_
  refine lv_bipush (v := 7) hx₀ hb dX11_digest_7 (by decide +kernel) ?_
  refine lv_icmp_gt (tgt := 31) hx₀ hb dX11_digest_9 (by decide) (fun c9 => absurd c9 (by decide +kernel)) (fun _ => ?_)
  refine lv_ldc2 (v := 31) hx₀ hb hown (hts (.constantLong RX11 274 (31)) wd_966) dX11_digest_12 ?_
  refine lv_lload_n hx₀ hb dX11_digest_15 rfl (lv_at hl 1 rfl) ?_
  refine lv_lmul hx₀ hb dX11_digest_16 ?_
  refine k_topl (v := 15087562577) (by decide +kernel) ?_
  refine lv_aload_n hx₀ hb dX11_digest_17 rfl (lv_at hl 2 rfl) ?_
  refine lv_iload_n hx₀ hb dX11_digest_18 rfl (lv_at hl 0 rfl) ?_
  have hPc := hP.sub (ws' := [(hx, .inr (10, [.ref aLa, .ref aPa, .ref aGe, .ref aFl, .ref aTr, .ref aBe, .ref aLu, .ref aLo, .ref vSf, .ref vSm, .ref vCo, .ref vSh, .int 0, .int 0, .int 0])), (aLa, .inr (4, [.ref vLa, .int 0, .int (-1), .int 0])), (aPa, .inr (7, [.ref vPa, .int 0, .int (-1), .int 0])), (aGe, .inr (2, [.ref vGe, .int 0, .int (-1), .int 0])), (aFl, .inr (1, [.ref vFl, .int 0]))]) [0, 1, 2, 3, 4] rfl
  have hDc := hD.sub (ws' := [(hx, .inr (10, [.ref aLa, .ref aPa, .ref aGe, .ref aFl, .ref aTr, .ref aBe, .ref aLu, .ref aLo, .ref vSf, .ref vSm, .ref vCo, .ref vSh, .int 0, .int 0, .int 0])), (aLa, .inr (4, [.ref vLa, .int 0, .int (-1), .int 0])), (aPa, .inr (7, [.ref vPa, .int 0, .int (-1), .int 0])), (aGe, .inr (2, [.ref vGe, .int 0, .int (-1), .int 0])), (aFl, .inr (1, [.ref vFl, .int 0]))]) [0, 1, 2, 3, 4] (by decide) rfl
  have hFc := va_free (wc := [(hx, .inr (10, [.ref aLa, .ref aPa, .ref aGe, .ref aFl, .ref aTr, .ref aBe, .ref aLu, .ref aLo, .ref vSf, .ref vSm, .ref vCo, .ref vSh, .int 0, .int 0, .int 0])), (aLa, .inr (4, [.ref vLa, .int 0, .int (-1), .int 0])), (aPa, .inr (7, [.ref vPa, .int 0, .int (-1), .int 0])), (aGe, .inr (2, [.ref vGe, .int 0, .int (-1), .int 0])), (aFl, .inr (1, [.ref vFl, .int 0]))]) hD hS hA [0, 1, 2, 3, 4] rfl
  refine va_calli (va_runV (As := [.int 5]) (rest := [.long 15087562577]) ⟨hx₀, hb, hml, hown, hts⟩ (x_count l dC dI cI cJ cQ H.size hx 5 aLa aPa aGe aFl aTr aBe aLu aLo vSf vSm vCo vSh vLa vPa vGe vFl) (cwV 1 hts (kGV wd_950 wd_967 wd_948 wd_949 wd_2) rfl rfl rfl (by decide +kernel) ⟨Nat.le_of_ble_eq_true rfl, Nat.le_of_ble_eq_true rfl⟩) (k_preV (ci := 10) (q0 := 0) hK hPc hDc hN rfl rfl) rfl rfl hl.1 rfl (lv_room (Nat.le_of_ble_eq_true rfl)) dX11_digest_19 ⟨by decide +kernel, by decide +kernel⟩) hS (fun q _ h => hFc q h) hFc (fun r_11 u₀ t₀ H1 locs ht hvm hw hB hz1 hk1 hS => ?_)
  obtain ⟨hP1, hK1, hD1⟩ := hB
  rw [ht] at hP1
  obtain ⟨hP, hD⟩ := va_join (wr := []) (w1 := [(hx, .inr (10, [.ref aLa, .ref aPa, .ref aGe, .ref aFl, .ref aTr, .ref aBe, .ref aLu, .ref aLo, .ref vSf, .ref vSm, .ref vCo, .ref vSh, .int 0, .int 0, .int 0])), (aLa, .inr (4, [.ref vLa, .int 0, .int (-1), .int 0])), (aPa, .inr (7, [.ref vPa, .int 0, .int (-1), .int 0])), (aGe, .inr (2, [.ref vGe, .int 0, .int (-1), .int 0])), (aFl, .inr (1, [.ref vFl, .int 0]))]) hP hD [0, 1, 2, 3, 4] [] rfl rfl (by decide) (by decide) hk1 hFc hP1 hD1
  generalize H1 = H at hP hS ⊢
  have hP : va_P (dC, dI) vwCl [(hx, .inr (10, [.ref aLa, .ref aPa, .ref aGe, .ref aFl, .ref aTr, .ref aBe, .ref aLu, .ref aLo, .ref vSf, .ref vSm, .ref vCo, .ref vSh, .int 0, .int 0, .int 0])), (aLa, .inr (4, [.ref vLa, .int 0, .int (-1), .int 0])), (aPa, .inr (7, [.ref vPa, .int 0, .int (-1), .int 0])), (aGe, .inr (2, [.ref vGe, .int 0, .int (-1), .int 0])), (aFl, .inr (1, [.ref vFl, .int 0]))] H := hP
  have hD : va_D A [(hx, .inr (10, [.ref aLa, .ref aPa, .ref aGe, .ref aFl, .ref aTr, .ref aBe, .ref aLu, .ref aLo, .ref vSf, .ref vSm, .ref vCo, .ref vSh, .int 0, .int 0, .int 0])), (aLa, .inr (4, [.ref vLa, .int 0, .int (-1), .int 0])), (aPa, .inr (7, [.ref vPa, .int 0, .int (-1), .int 0])), (aGe, .inr (2, [.ref vGe, .int 0, .int (-1), .int 0])), (aFl, .inr (1, [.ref vFl, .int 0]))] := hD
  try dsimp only at hw
  rw [if_pos (Classical.byContradiction (fun c9 => lf_x_digest_6  c9))] at hw
  refine k_topi (v := 0) hw ?_
  refine lv_i2l (v := 0) hx₀ hb dX11_digest_22 (by decide +kernel) ?_
  refine lv_ladd hx₀ hb dX11_digest_23 ?_
  refine k_topl (v := 15087562577) (by decide +kernel) ?_
  refine lv_lstore_n (lv' := [(1, .long 15087562577), (3, .int 5), (0, .ref hx)]) hx₀ hb dX11_digest_24 rfl hl (by decide) rfl (fun ls hl => ?_)
  refine lv_iinc (v := 6) (lv' := [(3, .int 6), (1, .long 15087562577), (0, .ref hx)]) hx₀ hb dX11_digest_25 hl (k := 1) rfl (by decide +kernel) (by decide) rfl (fun ls hl => ?_)
  refine lv_goto (tgt := 6) hx₀ hb dX11_digest_28 (by decide) ?_
  refine lv_iload_n hx₀ hb dX11_digest_6 rfl (lv_at hl 0 rfl) ?_
  refine lv_bipush (v := 7) hx₀ hb dX11_digest_7 (by decide +kernel) ?_
  refine lv_icmp_gt (tgt := 31) hx₀ hb dX11_digest_9 (by decide) (fun c9 => absurd c9 (by decide +kernel)) (fun _ => ?_)
  refine lv_ldc2 (v := 31) hx₀ hb hown (hts (.constantLong RX11 274 (31)) wd_966) dX11_digest_12 ?_
  refine lv_lload_n hx₀ hb dX11_digest_15 rfl (lv_at hl 1 rfl) ?_
  refine lv_lmul hx₀ hb dX11_digest_16 ?_
  refine k_topl (v := 467714439887) (by decide +kernel) ?_
  refine lv_aload_n hx₀ hb dX11_digest_17 rfl (lv_at hl 2 rfl) ?_
  refine lv_iload_n hx₀ hb dX11_digest_18 rfl (lv_at hl 0 rfl) ?_
  have hPc := hP.sub (ws' := [(hx, .inr (10, [.ref aLa, .ref aPa, .ref aGe, .ref aFl, .ref aTr, .ref aBe, .ref aLu, .ref aLo, .ref vSf, .ref vSm, .ref vCo, .ref vSh, .int 0, .int 0, .int 0])), (aLa, .inr (4, [.ref vLa, .int 0, .int (-1), .int 0])), (aPa, .inr (7, [.ref vPa, .int 0, .int (-1), .int 0])), (aGe, .inr (2, [.ref vGe, .int 0, .int (-1), .int 0])), (aFl, .inr (1, [.ref vFl, .int 0]))]) [0, 1, 2, 3, 4] rfl
  have hDc := hD.sub (ws' := [(hx, .inr (10, [.ref aLa, .ref aPa, .ref aGe, .ref aFl, .ref aTr, .ref aBe, .ref aLu, .ref aLo, .ref vSf, .ref vSm, .ref vCo, .ref vSh, .int 0, .int 0, .int 0])), (aLa, .inr (4, [.ref vLa, .int 0, .int (-1), .int 0])), (aPa, .inr (7, [.ref vPa, .int 0, .int (-1), .int 0])), (aGe, .inr (2, [.ref vGe, .int 0, .int (-1), .int 0])), (aFl, .inr (1, [.ref vFl, .int 0]))]) [0, 1, 2, 3, 4] (by decide) rfl
  have hFc := va_free (wc := [(hx, .inr (10, [.ref aLa, .ref aPa, .ref aGe, .ref aFl, .ref aTr, .ref aBe, .ref aLu, .ref aLo, .ref vSf, .ref vSm, .ref vCo, .ref vSh, .int 0, .int 0, .int 0])), (aLa, .inr (4, [.ref vLa, .int 0, .int (-1), .int 0])), (aPa, .inr (7, [.ref vPa, .int 0, .int (-1), .int 0])), (aGe, .inr (2, [.ref vGe, .int 0, .int (-1), .int 0])), (aFl, .inr (1, [.ref vFl, .int 0]))]) hD hS hA [0, 1, 2, 3, 4] rfl
  refine va_calli (va_runV (As := [.int 6]) (rest := [.long 467714439887]) ⟨hx₀, hb, hml, hown, hts⟩ (x_count l dC dI cI cJ cQ H.size hx 6 aLa aPa aGe aFl aTr aBe aLu aLo vSf vSm vCo vSh vLa vPa vGe vFl) (cwV 1 hts (kGV wd_950 wd_967 wd_948 wd_949 wd_2) rfl rfl rfl (by decide +kernel) ⟨Nat.le_of_ble_eq_true rfl, Nat.le_of_ble_eq_true rfl⟩) (k_preV (ci := 10) (q0 := 0) hK hPc hDc hN rfl rfl) rfl rfl hl.1 rfl (lv_room (Nat.le_of_ble_eq_true rfl)) dX11_digest_19 ⟨by decide +kernel, by decide +kernel⟩) hS (fun q _ h => hFc q h) hFc (fun r_13 u₀ t₀ H1 locs ht hvm hw hB hz1 hk1 hS => ?_)
  obtain ⟨hP1, hK1, hD1⟩ := hB
  rw [ht] at hP1
  obtain ⟨hP, hD⟩ := va_join (wr := []) (w1 := [(hx, .inr (10, [.ref aLa, .ref aPa, .ref aGe, .ref aFl, .ref aTr, .ref aBe, .ref aLu, .ref aLo, .ref vSf, .ref vSm, .ref vCo, .ref vSh, .int 0, .int 0, .int 0])), (aLa, .inr (4, [.ref vLa, .int 0, .int (-1), .int 0])), (aPa, .inr (7, [.ref vPa, .int 0, .int (-1), .int 0])), (aGe, .inr (2, [.ref vGe, .int 0, .int (-1), .int 0])), (aFl, .inr (1, [.ref vFl, .int 0]))]) hP hD [0, 1, 2, 3, 4] [] rfl rfl (by decide) (by decide) hk1 hFc hP1 hD1
  generalize H1 = H at hP hS ⊢
  have hP : va_P (dC, dI) vwCl [(hx, .inr (10, [.ref aLa, .ref aPa, .ref aGe, .ref aFl, .ref aTr, .ref aBe, .ref aLu, .ref aLo, .ref vSf, .ref vSm, .ref vCo, .ref vSh, .int 0, .int 0, .int 0])), (aLa, .inr (4, [.ref vLa, .int 0, .int (-1), .int 0])), (aPa, .inr (7, [.ref vPa, .int 0, .int (-1), .int 0])), (aGe, .inr (2, [.ref vGe, .int 0, .int (-1), .int 0])), (aFl, .inr (1, [.ref vFl, .int 0]))] H := hP
  have hD : va_D A [(hx, .inr (10, [.ref aLa, .ref aPa, .ref aGe, .ref aFl, .ref aTr, .ref aBe, .ref aLu, .ref aLo, .ref vSf, .ref vSm, .ref vCo, .ref vSh, .int 0, .int 0, .int 0])), (aLa, .inr (4, [.ref vLa, .int 0, .int (-1), .int 0])), (aPa, .inr (7, [.ref vPa, .int 0, .int (-1), .int 0])), (aGe, .inr (2, [.ref vGe, .int 0, .int (-1), .int 0])), (aFl, .inr (1, [.ref vFl, .int 0]))] := hD
  try dsimp only at hw
  rw [if_pos (Classical.byContradiction (fun c9 => lf_x_digest_7  c9))] at hw
  refine k_topi (v := 0) hw ?_
  refine lv_i2l (v := 0) hx₀ hb dX11_digest_22 (by decide +kernel) ?_
  refine lv_ladd hx₀ hb dX11_digest_23 ?_
  refine k_topl (v := 467714439887) (by decide +kernel) ?_
  refine lv_lstore_n (lv' := [(1, .long 467714439887), (3, .int 6), (0, .ref hx)]) hx₀ hb dX11_digest_24 rfl hl (by decide) rfl (fun ls hl => ?_)
  refine lv_iinc (v := 7) (lv' := [(3, .int 7), (1, .long 467714439887), (0, .ref hx)]) hx₀ hb dX11_digest_25 hl (k := 1) rfl (by decide +kernel) (by decide) rfl (fun ls hl => ?_)
  refine lv_goto (tgt := 6) hx₀ hb dX11_digest_28 (by decide) ?_
  refine lv_iload_n hx₀ hb dX11_digest_6 rfl (lv_at hl 0 rfl) ?_
  refine lv_bipush (v := 7) hx₀ hb dX11_digest_7 (by decide +kernel) ?_
  refine lv_icmp_gt (tgt := 31) hx₀ hb dX11_digest_9 (by decide) (fun c9 => absurd c9 (by decide +kernel)) (fun _ => ?_)
  refine lv_ldc2 (v := 31) hx₀ hb hown (hts (.constantLong RX11 274 (31)) wd_966) dX11_digest_12 ?_
  refine lv_lload_n hx₀ hb dX11_digest_15 rfl (lv_at hl 1 rfl) ?_
  refine lv_lmul hx₀ hb dX11_digest_16 ?_
  refine k_topl (v := 14499147636497) (by decide +kernel) ?_
  refine lv_aload_n hx₀ hb dX11_digest_17 rfl (lv_at hl 2 rfl) ?_
  refine lv_iload_n hx₀ hb dX11_digest_18 rfl (lv_at hl 0 rfl) ?_
  have hPc := hP.sub (ws' := [(hx, .inr (10, [.ref aLa, .ref aPa, .ref aGe, .ref aFl, .ref aTr, .ref aBe, .ref aLu, .ref aLo, .ref vSf, .ref vSm, .ref vCo, .ref vSh, .int 0, .int 0, .int 0])), (aLa, .inr (4, [.ref vLa, .int 0, .int (-1), .int 0])), (aPa, .inr (7, [.ref vPa, .int 0, .int (-1), .int 0])), (aGe, .inr (2, [.ref vGe, .int 0, .int (-1), .int 0])), (aFl, .inr (1, [.ref vFl, .int 0]))]) [0, 1, 2, 3, 4] rfl
  have hDc := hD.sub (ws' := [(hx, .inr (10, [.ref aLa, .ref aPa, .ref aGe, .ref aFl, .ref aTr, .ref aBe, .ref aLu, .ref aLo, .ref vSf, .ref vSm, .ref vCo, .ref vSh, .int 0, .int 0, .int 0])), (aLa, .inr (4, [.ref vLa, .int 0, .int (-1), .int 0])), (aPa, .inr (7, [.ref vPa, .int 0, .int (-1), .int 0])), (aGe, .inr (2, [.ref vGe, .int 0, .int (-1), .int 0])), (aFl, .inr (1, [.ref vFl, .int 0]))]) [0, 1, 2, 3, 4] (by decide) rfl
  have hFc := va_free (wc := [(hx, .inr (10, [.ref aLa, .ref aPa, .ref aGe, .ref aFl, .ref aTr, .ref aBe, .ref aLu, .ref aLo, .ref vSf, .ref vSm, .ref vCo, .ref vSh, .int 0, .int 0, .int 0])), (aLa, .inr (4, [.ref vLa, .int 0, .int (-1), .int 0])), (aPa, .inr (7, [.ref vPa, .int 0, .int (-1), .int 0])), (aGe, .inr (2, [.ref vGe, .int 0, .int (-1), .int 0])), (aFl, .inr (1, [.ref vFl, .int 0]))]) hD hS hA [0, 1, 2, 3, 4] rfl
  refine va_calli (va_runV (As := [.int 7]) (rest := [.long 14499147636497]) ⟨hx₀, hb, hml, hown, hts⟩ (x_count l dC dI cI cJ cQ H.size hx 7 aLa aPa aGe aFl aTr aBe aLu aLo vSf vSm vCo vSh vLa vPa vGe vFl) (cwV 1 hts (kGV wd_950 wd_967 wd_948 wd_949 wd_2) rfl rfl rfl (by decide +kernel) ⟨Nat.le_of_ble_eq_true rfl, Nat.le_of_ble_eq_true rfl⟩) (k_preV (ci := 10) (q0 := 0) hK hPc hDc hN rfl rfl) rfl rfl hl.1 rfl (lv_room (Nat.le_of_ble_eq_true rfl)) dX11_digest_19 ⟨by decide +kernel, by decide +kernel⟩) hS (fun q _ h => hFc q h) hFc (fun r_15 u₀ t₀ H1 locs ht hvm hw hB hz1 hk1 hS => ?_)
  obtain ⟨hP1, hK1, hD1⟩ := hB
  rw [ht] at hP1
  obtain ⟨hP, hD⟩ := va_join (wr := []) (w1 := [(hx, .inr (10, [.ref aLa, .ref aPa, .ref aGe, .ref aFl, .ref aTr, .ref aBe, .ref aLu, .ref aLo, .ref vSf, .ref vSm, .ref vCo, .ref vSh, .int 0, .int 0, .int 0])), (aLa, .inr (4, [.ref vLa, .int 0, .int (-1), .int 0])), (aPa, .inr (7, [.ref vPa, .int 0, .int (-1), .int 0])), (aGe, .inr (2, [.ref vGe, .int 0, .int (-1), .int 0])), (aFl, .inr (1, [.ref vFl, .int 0]))]) hP hD [0, 1, 2, 3, 4] [] rfl rfl (by decide) (by decide) hk1 hFc hP1 hD1
  generalize H1 = H at hP hS ⊢
  have hP : va_P (dC, dI) vwCl [(hx, .inr (10, [.ref aLa, .ref aPa, .ref aGe, .ref aFl, .ref aTr, .ref aBe, .ref aLu, .ref aLo, .ref vSf, .ref vSm, .ref vCo, .ref vSh, .int 0, .int 0, .int 0])), (aLa, .inr (4, [.ref vLa, .int 0, .int (-1), .int 0])), (aPa, .inr (7, [.ref vPa, .int 0, .int (-1), .int 0])), (aGe, .inr (2, [.ref vGe, .int 0, .int (-1), .int 0])), (aFl, .inr (1, [.ref vFl, .int 0]))] H := hP
  have hD : va_D A [(hx, .inr (10, [.ref aLa, .ref aPa, .ref aGe, .ref aFl, .ref aTr, .ref aBe, .ref aLu, .ref aLo, .ref vSf, .ref vSm, .ref vCo, .ref vSh, .int 0, .int 0, .int 0])), (aLa, .inr (4, [.ref vLa, .int 0, .int (-1), .int 0])), (aPa, .inr (7, [.ref vPa, .int 0, .int (-1), .int 0])), (aGe, .inr (2, [.ref vGe, .int 0, .int (-1), .int 0])), (aFl, .inr (1, [.ref vFl, .int 0]))] := hD
  try dsimp only at hw
  rw [if_pos (Classical.byContradiction (fun c9 => lf_x_digest_8  c9))] at hw
  refine k_topi (v := 0) hw ?_
  refine lv_i2l (v := 0) hx₀ hb dX11_digest_22 (by decide +kernel) ?_
  refine lv_ladd hx₀ hb dX11_digest_23 ?_
  refine k_topl (v := 14499147636497) (by decide +kernel) ?_
  refine lv_lstore_n (lv' := [(1, .long 14499147636497), (3, .int 7), (0, .ref hx)]) hx₀ hb dX11_digest_24 rfl hl (by decide) rfl (fun ls hl => ?_)
  refine lv_iinc (v := 8) (lv' := [(3, .int 8), (1, .long 14499147636497), (0, .ref hx)]) hx₀ hb dX11_digest_25 hl (k := 1) rfl (by decide +kernel) (by decide) rfl (fun ls hl => ?_)
  refine lv_goto (tgt := 6) hx₀ hb dX11_digest_28 (by decide) ?_
  refine lv_iload_n hx₀ hb dX11_digest_6 rfl (lv_at hl 0 rfl) ?_
  refine lv_bipush (v := 7) hx₀ hb dX11_digest_7 (by decide +kernel) ?_
  refine lv_icmp_gt (tgt := 31) hx₀ hb dX11_digest_9 (by decide) (fun _ => ?_) (fun c9 => absurd (by decide +kernel) c9)
  refine lv_iconst (v := 0) hx₀ hb dX11_digest_31 (by decide +kernel) ?_
  refine lv_istore_n (lv' := [(3, .int 0), (1, .long 14499147636497), (0, .ref hx)]) hx₀ hb dX11_digest_32 rfl hl (by decide) rfl (fun ls hl => ?_)
  refine lv_iload_n hx₀ hb dX11_digest_33 rfl (lv_at hl 0 rfl) ?_
  refine lv_iconst (v := 3) hx₀ hb dX11_digest_34 (by decide +kernel) ?_
  refine lv_icmp_ge (tgt := 57) hx₀ hb dX11_digest_35 (by decide) (fun c9 => absurd c9 (by decide +kernel)) (fun _ => ?_)
  refine lv_ldc2 (v := 31) hx₀ hb hown (hts (.constantLong RX11 274 (31)) wd_966) dX11_digest_38 ?_
  refine lv_lload_n hx₀ hb dX11_digest_41 rfl (lv_at hl 1 rfl) ?_
  refine lv_lmul hx₀ hb dX11_digest_42 ?_
  refine k_topl (v := 449473576731407) (by decide +kernel) ?_
  refine lv_aload_n hx₀ hb dX11_digest_43 rfl (lv_at hl 2 rfl) ?_
  refine lv_iload_n hx₀ hb dX11_digest_44 rfl (lv_at hl 0 rfl) ?_
  have hPc := hP.sub (ws' := [(hx, .inr (10, [.ref aLa, .ref aPa, .ref aGe, .ref aFl, .ref aTr, .ref aBe, .ref aLu, .ref aLo, .ref vSf, .ref vSm, .ref vCo, .ref vSh, .int 0, .int 0, .int 0])), (aLa, .inr (4, [.ref vLa, .int 0, .int (-1), .int 0])), (aPa, .inr (7, [.ref vPa, .int 0, .int (-1), .int 0])), (aGe, .inr (2, [.ref vGe, .int 0, .int (-1), .int 0]))]) [0, 1, 2, 3] rfl
  have hDc := hD.sub (ws' := [(hx, .inr (10, [.ref aLa, .ref aPa, .ref aGe, .ref aFl, .ref aTr, .ref aBe, .ref aLu, .ref aLo, .ref vSf, .ref vSm, .ref vCo, .ref vSh, .int 0, .int 0, .int 0])), (aLa, .inr (4, [.ref vLa, .int 0, .int (-1), .int 0])), (aPa, .inr (7, [.ref vPa, .int 0, .int (-1), .int 0])), (aGe, .inr (2, [.ref vGe, .int 0, .int (-1), .int 0]))]) [0, 1, 2, 3] (by decide) rfl
  have hFc := va_free (wc := [(hx, .inr (10, [.ref aLa, .ref aPa, .ref aGe, .ref aFl, .ref aTr, .ref aBe, .ref aLu, .ref aLo, .ref vSf, .ref vSm, .ref vCo, .ref vSh, .int 0, .int 0, .int 0])), (aLa, .inr (4, [.ref vLa, .int 0, .int (-1), .int 0])), (aPa, .inr (7, [.ref vPa, .int 0, .int (-1), .int 0])), (aGe, .inr (2, [.ref vGe, .int 0, .int (-1), .int 0]))]) hD hS hA [0, 1, 2, 3] rfl
  refine va_calli (va_runV (As := [.int 0]) (rest := [.long 449473576731407]) ⟨hx₀, hb, hml, hown, hts⟩ (x_fault l dC dI cI cJ cQ H.size hx 0 aLa aPa aGe aFl aTr aBe aLu aLo vSf vSm vCo vSh vLa vPa vGe) (cwV 1 hts (kGV wd_238 wd_968 wd_236 wd_237 wd_2) rfl rfl rfl (by decide +kernel) ⟨Nat.le_of_ble_eq_true rfl, Nat.le_of_ble_eq_true rfl⟩) (k_preV (ci := 10) (q0 := 0) hK hPc hDc hN rfl rfl) rfl rfl hl.1 rfl (lv_room (Nat.le_of_ble_eq_true rfl)) dX11_digest_45 ⟨by decide +kernel, by decide +kernel⟩) hS (fun q _ h => hFc q h) hFc (fun r_17 u₀ t₀ H1 locs ht hvm hw hB hz1 hk1 hS => ?_)
  obtain ⟨hP1, hK1, hD1⟩ := hB
  rw [ht] at hP1
  obtain ⟨hP, hD⟩ := va_join (wr := [(aFl, .inr (1, [.ref vFl, .int 0]))]) (w1 := [(hx, .inr (10, [.ref aLa, .ref aPa, .ref aGe, .ref aFl, .ref aTr, .ref aBe, .ref aLu, .ref aLo, .ref vSf, .ref vSm, .ref vCo, .ref vSh, .int 0, .int 0, .int 0])), (aLa, .inr (4, [.ref vLa, .int 0, .int (-1), .int 0])), (aPa, .inr (7, [.ref vPa, .int 0, .int (-1), .int 0])), (aGe, .inr (2, [.ref vGe, .int 0, .int (-1), .int 0]))]) hP hD [0, 1, 2, 3] [4] rfl rfl (by decide) (by decide) hk1 hFc hP1 hD1
  generalize H1 = H at hP hS ⊢
  have hP : va_P (dC, dI) vwCl [(aFl, .inr (1, [.ref vFl, .int 0])), (hx, .inr (10, [.ref aLa, .ref aPa, .ref aGe, .ref aFl, .ref aTr, .ref aBe, .ref aLu, .ref aLo, .ref vSf, .ref vSm, .ref vCo, .ref vSh, .int 0, .int 0, .int 0])), (aLa, .inr (4, [.ref vLa, .int 0, .int (-1), .int 0])), (aPa, .inr (7, [.ref vPa, .int 0, .int (-1), .int 0])), (aGe, .inr (2, [.ref vGe, .int 0, .int (-1), .int 0]))] H := hP
  have hD : va_D A [(aFl, .inr (1, [.ref vFl, .int 0])), (hx, .inr (10, [.ref aLa, .ref aPa, .ref aGe, .ref aFl, .ref aTr, .ref aBe, .ref aLu, .ref aLo, .ref vSf, .ref vSm, .ref vCo, .ref vSh, .int 0, .int 0, .int 0])), (aLa, .inr (4, [.ref vLa, .int 0, .int (-1), .int 0])), (aPa, .inr (7, [.ref vPa, .int 0, .int (-1), .int 0])), (aGe, .inr (2, [.ref vGe, .int 0, .int (-1), .int 0]))] := hD
  try dsimp only at hw
  rw [if_pos (Classical.byContradiction (fun c9 => lf_x_digest_9  c9))] at hw
  refine k_topi (v := (-1)) hw ?_
  refine lv_i2l (v := (-1)) hx₀ hb dX11_digest_48 (by decide +kernel) ?_
  refine lv_ladd hx₀ hb dX11_digest_49 ?_
  refine k_topl (v := 449473576731406) (by decide +kernel) ?_
  refine lv_lstore_n (lv' := [(1, .long 449473576731406), (3, .int 0), (0, .ref hx)]) hx₀ hb dX11_digest_50 rfl hl (by decide) rfl (fun ls hl => ?_)
  refine lv_iinc (v := 1) (lv' := [(3, .int 1), (1, .long 449473576731406), (0, .ref hx)]) hx₀ hb dX11_digest_51 hl (k := 1) rfl (by decide +kernel) (by decide) rfl (fun ls hl => ?_)
  refine lv_goto (tgt := 33) hx₀ hb dX11_digest_54 (by decide) ?_
  refine lv_iload_n hx₀ hb dX11_digest_33 rfl (lv_at hl 0 rfl) ?_
  refine lv_iconst (v := 3) hx₀ hb dX11_digest_34 (by decide +kernel) ?_
  refine lv_icmp_ge (tgt := 57) hx₀ hb dX11_digest_35 (by decide) (fun c9 => absurd c9 (by decide +kernel)) (fun _ => ?_)
  refine lv_ldc2 (v := 31) hx₀ hb hown (hts (.constantLong RX11 274 (31)) wd_966) dX11_digest_38 ?_
  refine lv_lload_n hx₀ hb dX11_digest_41 rfl (lv_at hl 1 rfl) ?_
  refine lv_lmul hx₀ hb dX11_digest_42 ?_
  refine k_topl (v := 13933680878673586) (by decide +kernel) ?_
  refine lv_aload_n hx₀ hb dX11_digest_43 rfl (lv_at hl 2 rfl) ?_
  refine lv_iload_n hx₀ hb dX11_digest_44 rfl (lv_at hl 0 rfl) ?_
  have hPc := hP.sub (ws' := [(hx, .inr (10, [.ref aLa, .ref aPa, .ref aGe, .ref aFl, .ref aTr, .ref aBe, .ref aLu, .ref aLo, .ref vSf, .ref vSm, .ref vCo, .ref vSh, .int 0, .int 0, .int 0])), (aLa, .inr (4, [.ref vLa, .int 0, .int (-1), .int 0])), (aPa, .inr (7, [.ref vPa, .int 0, .int (-1), .int 0])), (aGe, .inr (2, [.ref vGe, .int 0, .int (-1), .int 0]))]) [1, 2, 3, 4] rfl
  have hDc := hD.sub (ws' := [(hx, .inr (10, [.ref aLa, .ref aPa, .ref aGe, .ref aFl, .ref aTr, .ref aBe, .ref aLu, .ref aLo, .ref vSf, .ref vSm, .ref vCo, .ref vSh, .int 0, .int 0, .int 0])), (aLa, .inr (4, [.ref vLa, .int 0, .int (-1), .int 0])), (aPa, .inr (7, [.ref vPa, .int 0, .int (-1), .int 0])), (aGe, .inr (2, [.ref vGe, .int 0, .int (-1), .int 0]))]) [1, 2, 3, 4] (by decide) rfl
  have hFc := va_free (wc := [(hx, .inr (10, [.ref aLa, .ref aPa, .ref aGe, .ref aFl, .ref aTr, .ref aBe, .ref aLu, .ref aLo, .ref vSf, .ref vSm, .ref vCo, .ref vSh, .int 0, .int 0, .int 0])), (aLa, .inr (4, [.ref vLa, .int 0, .int (-1), .int 0])), (aPa, .inr (7, [.ref vPa, .int 0, .int (-1), .int 0])), (aGe, .inr (2, [.ref vGe, .int 0, .int (-1), .int 0]))]) hD hS hA [1, 2, 3, 4] rfl
  refine va_calli (va_runV (As := [.int 1]) (rest := [.long 13933680878673586]) ⟨hx₀, hb, hml, hown, hts⟩ (x_fault l dC dI cI cJ cQ H.size hx 1 aLa aPa aGe aFl aTr aBe aLu aLo vSf vSm vCo vSh vLa vPa vGe) (cwV 1 hts (kGV wd_238 wd_968 wd_236 wd_237 wd_2) rfl rfl rfl (by decide +kernel) ⟨Nat.le_of_ble_eq_true rfl, Nat.le_of_ble_eq_true rfl⟩) (k_preV (ci := 10) (q0 := 0) hK hPc hDc hN rfl rfl) rfl rfl hl.1 rfl (lv_room (Nat.le_of_ble_eq_true rfl)) dX11_digest_45 ⟨by decide +kernel, by decide +kernel⟩) hS (fun q _ h => hFc q h) hFc (fun r_19 u₀ t₀ H1 locs ht hvm hw hB hz1 hk1 hS => ?_)
  obtain ⟨hP1, hK1, hD1⟩ := hB
  rw [ht] at hP1
  obtain ⟨hP, hD⟩ := va_join (wr := [(aFl, .inr (1, [.ref vFl, .int 0]))]) (w1 := [(hx, .inr (10, [.ref aLa, .ref aPa, .ref aGe, .ref aFl, .ref aTr, .ref aBe, .ref aLu, .ref aLo, .ref vSf, .ref vSm, .ref vCo, .ref vSh, .int 0, .int 0, .int 0])), (aLa, .inr (4, [.ref vLa, .int 0, .int (-1), .int 0])), (aPa, .inr (7, [.ref vPa, .int 0, .int (-1), .int 0])), (aGe, .inr (2, [.ref vGe, .int 0, .int (-1), .int 0]))]) hP hD [1, 2, 3, 4] [0] rfl rfl (by decide) (by decide) hk1 hFc hP1 hD1
  generalize H1 = H at hP hS ⊢
  have hP : va_P (dC, dI) vwCl [(aFl, .inr (1, [.ref vFl, .int 0])), (hx, .inr (10, [.ref aLa, .ref aPa, .ref aGe, .ref aFl, .ref aTr, .ref aBe, .ref aLu, .ref aLo, .ref vSf, .ref vSm, .ref vCo, .ref vSh, .int 0, .int 0, .int 0])), (aLa, .inr (4, [.ref vLa, .int 0, .int (-1), .int 0])), (aPa, .inr (7, [.ref vPa, .int 0, .int (-1), .int 0])), (aGe, .inr (2, [.ref vGe, .int 0, .int (-1), .int 0]))] H := hP
  have hD : va_D A [(aFl, .inr (1, [.ref vFl, .int 0])), (hx, .inr (10, [.ref aLa, .ref aPa, .ref aGe, .ref aFl, .ref aTr, .ref aBe, .ref aLu, .ref aLo, .ref vSf, .ref vSm, .ref vCo, .ref vSh, .int 0, .int 0, .int 0])), (aLa, .inr (4, [.ref vLa, .int 0, .int (-1), .int 0])), (aPa, .inr (7, [.ref vPa, .int 0, .int (-1), .int 0])), (aGe, .inr (2, [.ref vGe, .int 0, .int (-1), .int 0]))] := hD
  try dsimp only at hw
  rw [if_pos (Classical.byContradiction (fun c9 => lf_x_digest_10  c9))] at hw
  refine k_topi (v := (-1)) hw ?_
  refine lv_i2l (v := (-1)) hx₀ hb dX11_digest_48 (by decide +kernel) ?_
  refine lv_ladd hx₀ hb dX11_digest_49 ?_
  refine k_topl (v := 13933680878673585) (by decide +kernel) ?_
  refine lv_lstore_n (lv' := [(1, .long 13933680878673585), (3, .int 1), (0, .ref hx)]) hx₀ hb dX11_digest_50 rfl hl (by decide) rfl (fun ls hl => ?_)
  refine lv_iinc (v := 2) (lv' := [(3, .int 2), (1, .long 13933680878673585), (0, .ref hx)]) hx₀ hb dX11_digest_51 hl (k := 1) rfl (by decide +kernel) (by decide) rfl (fun ls hl => ?_)
  refine lv_goto (tgt := 33) hx₀ hb dX11_digest_54 (by decide) ?_
  refine lv_iload_n hx₀ hb dX11_digest_33 rfl (lv_at hl 0 rfl) ?_
  refine lv_iconst (v := 3) hx₀ hb dX11_digest_34 (by decide +kernel) ?_
  refine lv_icmp_ge (tgt := 57) hx₀ hb dX11_digest_35 (by decide) (fun c9 => absurd c9 (by decide +kernel)) (fun _ => ?_)
  refine lv_ldc2 (v := 31) hx₀ hb hown (hts (.constantLong RX11 274 (31)) wd_966) dX11_digest_38 ?_
  refine lv_lload_n hx₀ hb dX11_digest_41 rfl (lv_at hl 1 rfl) ?_
  refine lv_lmul hx₀ hb dX11_digest_42 ?_
  refine k_topl (v := 431944107238881135) (by decide +kernel) ?_
  refine lv_aload_n hx₀ hb dX11_digest_43 rfl (lv_at hl 2 rfl) ?_
  refine lv_iload_n hx₀ hb dX11_digest_44 rfl (lv_at hl 0 rfl) ?_
  have hPc := hP.sub (ws' := [(hx, .inr (10, [.ref aLa, .ref aPa, .ref aGe, .ref aFl, .ref aTr, .ref aBe, .ref aLu, .ref aLo, .ref vSf, .ref vSm, .ref vCo, .ref vSh, .int 0, .int 0, .int 0])), (aLa, .inr (4, [.ref vLa, .int 0, .int (-1), .int 0])), (aPa, .inr (7, [.ref vPa, .int 0, .int (-1), .int 0])), (aGe, .inr (2, [.ref vGe, .int 0, .int (-1), .int 0]))]) [1, 2, 3, 4] rfl
  have hDc := hD.sub (ws' := [(hx, .inr (10, [.ref aLa, .ref aPa, .ref aGe, .ref aFl, .ref aTr, .ref aBe, .ref aLu, .ref aLo, .ref vSf, .ref vSm, .ref vCo, .ref vSh, .int 0, .int 0, .int 0])), (aLa, .inr (4, [.ref vLa, .int 0, .int (-1), .int 0])), (aPa, .inr (7, [.ref vPa, .int 0, .int (-1), .int 0])), (aGe, .inr (2, [.ref vGe, .int 0, .int (-1), .int 0]))]) [1, 2, 3, 4] (by decide) rfl
  have hFc := va_free (wc := [(hx, .inr (10, [.ref aLa, .ref aPa, .ref aGe, .ref aFl, .ref aTr, .ref aBe, .ref aLu, .ref aLo, .ref vSf, .ref vSm, .ref vCo, .ref vSh, .int 0, .int 0, .int 0])), (aLa, .inr (4, [.ref vLa, .int 0, .int (-1), .int 0])), (aPa, .inr (7, [.ref vPa, .int 0, .int (-1), .int 0])), (aGe, .inr (2, [.ref vGe, .int 0, .int (-1), .int 0]))]) hD hS hA [1, 2, 3, 4] rfl
  refine va_calli (va_runV (As := [.int 2]) (rest := [.long 431944107238881135]) ⟨hx₀, hb, hml, hown, hts⟩ (x_fault l dC dI cI cJ cQ H.size hx 2 aLa aPa aGe aFl aTr aBe aLu aLo vSf vSm vCo vSh vLa vPa vGe) (cwV 1 hts (kGV wd_238 wd_968 wd_236 wd_237 wd_2) rfl rfl rfl (by decide +kernel) ⟨Nat.le_of_ble_eq_true rfl, Nat.le_of_ble_eq_true rfl⟩) (k_preV (ci := 10) (q0 := 0) hK hPc hDc hN rfl rfl) rfl rfl hl.1 rfl (lv_room (Nat.le_of_ble_eq_true rfl)) dX11_digest_45 ⟨by decide +kernel, by decide +kernel⟩) hS (fun q _ h => hFc q h) hFc (fun r_21 u₀ t₀ H1 locs ht hvm hw hB hz1 hk1 hS => ?_)
  obtain ⟨hP1, hK1, hD1⟩ := hB
  rw [ht] at hP1
  obtain ⟨hP, hD⟩ := va_join (wr := [(aFl, .inr (1, [.ref vFl, .int 0]))]) (w1 := [(hx, .inr (10, [.ref aLa, .ref aPa, .ref aGe, .ref aFl, .ref aTr, .ref aBe, .ref aLu, .ref aLo, .ref vSf, .ref vSm, .ref vCo, .ref vSh, .int 0, .int 0, .int 0])), (aLa, .inr (4, [.ref vLa, .int 0, .int (-1), .int 0])), (aPa, .inr (7, [.ref vPa, .int 0, .int (-1), .int 0])), (aGe, .inr (2, [.ref vGe, .int 0, .int (-1), .int 0]))]) hP hD [1, 2, 3, 4] [0] rfl rfl (by decide) (by decide) hk1 hFc hP1 hD1
  generalize H1 = H at hP hS ⊢
  have hP : va_P (dC, dI) vwCl [(aFl, .inr (1, [.ref vFl, .int 0])), (hx, .inr (10, [.ref aLa, .ref aPa, .ref aGe, .ref aFl, .ref aTr, .ref aBe, .ref aLu, .ref aLo, .ref vSf, .ref vSm, .ref vCo, .ref vSh, .int 0, .int 0, .int 0])), (aLa, .inr (4, [.ref vLa, .int 0, .int (-1), .int 0])), (aPa, .inr (7, [.ref vPa, .int 0, .int (-1), .int 0])), (aGe, .inr (2, [.ref vGe, .int 0, .int (-1), .int 0]))] H := hP
  have hD : va_D A [(aFl, .inr (1, [.ref vFl, .int 0])), (hx, .inr (10, [.ref aLa, .ref aPa, .ref aGe, .ref aFl, .ref aTr, .ref aBe, .ref aLu, .ref aLo, .ref vSf, .ref vSm, .ref vCo, .ref vSh, .int 0, .int 0, .int 0])), (aLa, .inr (4, [.ref vLa, .int 0, .int (-1), .int 0])), (aPa, .inr (7, [.ref vPa, .int 0, .int (-1), .int 0])), (aGe, .inr (2, [.ref vGe, .int 0, .int (-1), .int 0]))] := hD
  try dsimp only at hw
  rw [if_pos (Classical.byContradiction (fun c9 => lf_x_digest_11  c9))] at hw
  refine k_topi (v := (-1)) hw ?_
  refine lv_i2l (v := (-1)) hx₀ hb dX11_digest_48 (by decide +kernel) ?_
  refine lv_ladd hx₀ hb dX11_digest_49 ?_
  refine k_topl (v := 431944107238881134) (by decide +kernel) ?_
  refine lv_lstore_n (lv' := [(1, .long 431944107238881134), (3, .int 2), (0, .ref hx)]) hx₀ hb dX11_digest_50 rfl hl (by decide) rfl (fun ls hl => ?_)
  refine lv_iinc (v := 3) (lv' := [(3, .int 3), (1, .long 431944107238881134), (0, .ref hx)]) hx₀ hb dX11_digest_51 hl (k := 1) rfl (by decide +kernel) (by decide) rfl (fun ls hl => ?_)
  refine lv_goto (tgt := 33) hx₀ hb dX11_digest_54 (by decide) ?_
  refine lv_iload_n hx₀ hb dX11_digest_33 rfl (lv_at hl 0 rfl) ?_
  refine lv_iconst (v := 3) hx₀ hb dX11_digest_34 (by decide +kernel) ?_
  refine lv_icmp_ge (tgt := 57) hx₀ hb dX11_digest_35 (by decide) (fun _ => ?_) (fun c9 => absurd (by decide +kernel) c9)
  refine lv_iconst (v := 0) hx₀ hb dX11_digest_57 (by decide +kernel) ?_
  refine lv_istore_n (lv' := [(3, .int 0), (1, .long 431944107238881134), (0, .ref hx)]) hx₀ hb dX11_digest_58 rfl hl (by decide) rfl (fun ls hl => ?_)
  refine lv_iload_n hx₀ hb dX11_digest_59 rfl (lv_at hl 0 rfl) ?_
  refine lv_aload_n hx₀ hb dX11_digest_60 rfl (lv_at hl 2 rfl) ?_
  refine va_get (D := (dC, dI)) (ci := 10) (v := .ref aLa) (C := RX11) (T := TX11) (N := 15) hx₀ hb hts inlX11 hown hK hP 1 rfl rfl 0 (by decide) (hts (.fieldLink RX11 10 "BittenStick" "land" "LBittenStick$Land;") wd_15) (fun _ h9 => h9) rfl dX11_digest_61 ?_
  refine va_get (D := (dC, dI)) (ci := 4) (v := .int 0) (C := RX4) (T := TX4) (N := 4) hx₀ hb hts inlX4 hown hK hP 2 rfl rfl 3 (by decide) (hts (.fieldLink RX11 108 "BittenStick$Land" "number" "I") wd_285) (fun x9 h9 => u_same (hts (.sameField "BittenStick$Land" "BittenStick$Text" "number" "I") wd_286) x9 h9) rfl dX11_digest_64 ?_
  refine lv_icmp_ge (tgt := 89) hx₀ hb dX11_digest_67 (by decide) (fun _ => ?_) (fun c9 => absurd (by decide +kernel) c9)
  refine lv_iconst (v := 0) hx₀ hb dX11_digest_89 (by decide +kernel) ?_
  refine lv_istore_n (lv' := [(3, .int 0), (1, .long 431944107238881134), (0, .ref hx)]) hx₀ hb dX11_digest_90 rfl hl (by decide) rfl (fun ls hl => ?_)
  refine lv_iload_n hx₀ hb dX11_digest_91 rfl (lv_at hl 0 rfl) ?_
  refine lv_aload_n hx₀ hb dX11_digest_92 rfl (lv_at hl 2 rfl) ?_
  refine va_get (D := (dC, dI)) (ci := 10) (v := .ref aPa) (C := RX11) (T := TX11) (N := 15) hx₀ hb hts inlX11 hown hK hP 1 rfl rfl 1 (by decide) (hts (.fieldLink RX11 19 "BittenStick" "passengers" "LBittenStick$Passengers;") wd_19) (fun _ h9 => h9) rfl dX11_digest_93 ?_
  refine va_get (D := (dC, dI)) (ci := 7) (v := .int 0) (C := RX7) (T := TX7) (N := 4) hx₀ hb hts inlX7 hown hK hP 3 rfl rfl 3 (by decide) (hts (.fieldLink RX11 223 "BittenStick$Passengers" "number" "I") wd_834) (fun x9 h9 => u_same (hts (.sameField "BittenStick$Passengers" "BittenStick$Text" "number" "I") wd_835) x9 h9) rfl dX11_digest_96 ?_
  refine lv_icmp_ge (tgt := 164) hx₀ hb dX11_digest_99 (by decide) (fun _ => ?_) (fun c9 => absurd (by decide +kernel) c9)
  refine lv_iconst (v := 0) hx₀ hb dX11_digest_164 (by decide +kernel) ?_
  refine lv_istore_n (lv' := [(3, .int 0), (1, .long 431944107238881134), (0, .ref hx)]) hx₀ hb dX11_digest_165 rfl hl (by decide) rfl (fun ls hl => ?_)
  refine lv_iload_n hx₀ hb dX11_digest_166 rfl (lv_at hl 0 rfl) ?_
  refine lv_aload_n hx₀ hb dX11_digest_167 rfl (lv_at hl 2 rfl) ?_
  refine va_get (D := (dC, dI)) (ci := 10) (v := .ref aGe) (C := RX11) (T := TX11) (N := 15) hx₀ hb hts inlX11 hown hK hP 1 rfl rfl 2 (by decide) (hts (.fieldLink RX11 26 "BittenStick" "geese" "LBittenStick$Geese;") wd_23) (fun _ h9 => h9) rfl dX11_digest_168 ?_
  refine va_get (D := (dC, dI)) (ci := 2) (v := .int 0) (C := RX2) (T := TX2) (N := 4) hx₀ hb hts inlX2 hown hK hP 4 rfl rfl 3 (by decide) (hts (.fieldLink RX11 185 "BittenStick$Geese" "number" "I") wd_676) (fun x9 h9 => u_same (hts (.sameField "BittenStick$Geese" "BittenStick$Text" "number" "I") wd_677) x9 h9) rfl dX11_digest_171 ?_
  refine lv_icmp_ge (tgt := 211) hx₀ hb dX11_digest_174 (by decide) (fun _ => ?_) (fun c9 => absurd (by decide +kernel) c9)
  refine lv_iconst (v := 0) hx₀ hb dX11_digest_211 (by decide +kernel) ?_
  refine lv_istore_n (lv' := [(3, .int 0), (1, .long 431944107238881134), (0, .ref hx)]) hx₀ hb dX11_digest_212 rfl hl (by decide) rfl (fun ls hl => ?_)
  refine lv_iload_n hx₀ hb dX11_digest_213 rfl (lv_at hl 0 rfl) ?_
  refine lv_aload_n hx₀ hb dX11_digest_214 rfl (lv_at hl 2 rfl) ?_
  refine va_get (D := (dC, dI)) (ci := 10) (v := .ref aFl) (C := RX11) (T := TX11) (N := 15) hx₀ hb hts inlX11 hown hK hP 1 rfl rfl 3 (by decide) (hts (.fieldLink RX11 33 "BittenStick" "flights" "LBittenStick$Flights;") wd_27) (fun _ h9 => h9) rfl dX11_digest_215 ?_
  refine va_get (D := (dC, dI)) (ci := 1) (v := .int 0) (C := RX1) (T := TX1) (N := 2) hx₀ hb hts inlX1 hown hK hP 0 rfl rfl 1 (by decide) (hts (.fieldLink RX11 128 "BittenStick$Flights" "number" "I") wd_369) (fun _ h9 => h9) rfl dX11_digest_218 ?_
  refine lv_icmp_ge (tgt := 237) hx₀ hb dX11_digest_221 (by decide) (fun _ => ?_) (fun c9 => absurd (by decide +kernel) c9)
  refine lv_ldc2 (v := 31) hx₀ hb hown (hts (.constantLong RX11 274 (31)) wd_966) dX11_digest_237 ?_
  refine lv_lload_n hx₀ hb dX11_digest_240 rfl (lv_at hl 1 rfl) ?_
  refine lv_lmul hx₀ hb dX11_digest_241 ?_
  refine k_topl (v := (-5056476749304236462)) (by decide +kernel) ?_
  refine lv_aload_n hx₀ hb dX11_digest_242 rfl (lv_at hl 2 rfl) ?_
  have hPc := hP.sub (ws' := [(hx, .inr (10, [.ref aLa, .ref aPa, .ref aGe, .ref aFl, .ref aTr, .ref aBe, .ref aLu, .ref aLo, .ref vSf, .ref vSm, .ref vCo, .ref vSh, .int 0, .int 0, .int 0])), (aFl, .inr (1, [.ref vFl, .int 0]))]) [1, 0] rfl
  have hDc := hD.sub (ws' := [(hx, .inr (10, [.ref aLa, .ref aPa, .ref aGe, .ref aFl, .ref aTr, .ref aBe, .ref aLu, .ref aLo, .ref vSf, .ref vSm, .ref vCo, .ref vSh, .int 0, .int 0, .int 0])), (aFl, .inr (1, [.ref vFl, .int 0]))]) [1, 0] (by decide) rfl
  have hFc := va_free (wc := [(hx, .inr (10, [.ref aLa, .ref aPa, .ref aGe, .ref aFl, .ref aTr, .ref aBe, .ref aLu, .ref aLo, .ref vSf, .ref vSm, .ref vCo, .ref vSh, .int 0, .int 0, .int 0])), (aFl, .inr (1, [.ref vFl, .int 0]))]) hD hS hA [1, 0] rfl
  refine va_calli (va_runV (As := []) (rest := [.long (-5056476749304236462)]) ⟨hx₀, hb, hml, hown, hts⟩ (x_farthest l dC dI cI cJ cQ H.size hx aLa aPa aGe aFl aTr aBe aLu aLo vSf vSm vCo vSh vFl) (cwV 0 hts (kGV wd_602 wd_984 wd_600 wd_601 wd_2) rfl rfl rfl (by decide +kernel) ⟨Nat.le_of_ble_eq_true rfl, Nat.le_of_ble_eq_true rfl⟩) (k_preV (ci := 10) (q0 := 0) hK hPc hDc hN rfl rfl) rfl rfl hl.1 rfl (lv_room (Nat.le_of_ble_eq_true rfl)) dX11_digest_243 ⟨by decide +kernel, by decide +kernel⟩) hS (fun q _ h => hFc q h) hFc (fun r_23 u₀ t₀ H1 locs ht hvm hw hB hz1 hk1 hS => ?_)
  obtain ⟨hP1, hK1, hD1⟩ := hB
  rw [ht] at hP1
  obtain ⟨hP, hD⟩ := va_join (wr := [(aLa, .inr (4, [.ref vLa, .int 0, .int (-1), .int 0])), (aPa, .inr (7, [.ref vPa, .int 0, .int (-1), .int 0])), (aGe, .inr (2, [.ref vGe, .int 0, .int (-1), .int 0]))]) (w1 := [(hx, .inr (10, [.ref aLa, .ref aPa, .ref aGe, .ref aFl, .ref aTr, .ref aBe, .ref aLu, .ref aLo, .ref vSf, .ref vSm, .ref vCo, .ref vSh, .int 0, .int 0, .int 0])), (aFl, .inr (1, [.ref vFl, .int 0]))]) hP hD [1, 0] [2, 3, 4] rfl rfl (by decide) (by decide) hk1 hFc hP1 hD1
  generalize H1 = H at hP hS ⊢
  have hP : va_P (dC, dI) vwCl [(aLa, .inr (4, [.ref vLa, .int 0, .int (-1), .int 0])), (aPa, .inr (7, [.ref vPa, .int 0, .int (-1), .int 0])), (aGe, .inr (2, [.ref vGe, .int 0, .int (-1), .int 0])), (hx, .inr (10, [.ref aLa, .ref aPa, .ref aGe, .ref aFl, .ref aTr, .ref aBe, .ref aLu, .ref aLo, .ref vSf, .ref vSm, .ref vCo, .ref vSh, .int 0, .int 0, .int 0])), (aFl, .inr (1, [.ref vFl, .int 0]))] H := hP
  have hD : va_D A [(aLa, .inr (4, [.ref vLa, .int 0, .int (-1), .int 0])), (aPa, .inr (7, [.ref vPa, .int 0, .int (-1), .int 0])), (aGe, .inr (2, [.ref vGe, .int 0, .int (-1), .int 0])), (hx, .inr (10, [.ref aLa, .ref aPa, .ref aGe, .ref aFl, .ref aTr, .ref aBe, .ref aLu, .ref aLo, .ref vSf, .ref vSm, .ref vCo, .ref vSh, .int 0, .int 0, .int 0])), (aFl, .inr (1, [.ref vFl, .int 0]))] := hD
  try dsimp only at hw
  refine k_topi (v := (-1)) hw ?_
  refine lv_i2l (v := (-1)) hx₀ hb dX11_digest_246 (by decide +kernel) ?_
  refine lv_ladd hx₀ hb dX11_digest_247 ?_
  refine k_topl (v := (-5056476749304236463)) (by decide +kernel) ?_
  refine lv_lstore_n (lv' := [(1, .long (-5056476749304236463)), (3, .int 0), (0, .ref hx)]) hx₀ hb dX11_digest_248 rfl hl (by decide) rfl (fun ls hl => ?_)
  refine lv_ldc2 (v := 31) hx₀ hb hown (hts (.constantLong RX11 274 (31)) wd_966) dX11_digest_249 ?_
  refine lv_lload_n hx₀ hb dX11_digest_252 rfl (lv_at hl 0 rfl) ?_
  refine lv_lmul hx₀ hb dX11_digest_253 ?_
  refine k_topl (v := (-9176826638754917425)) (by decide +kernel) ?_
  refine lv_aload_n hx₀ hb dX11_digest_254 rfl (lv_at hl 2 rfl) ?_
  refine lv_bipush (v := 7) hx₀ hb dX11_digest_255 (by decide +kernel) ?_
  refine lv_bipush (v := 30) hx₀ hb dX11_digest_257 (by decide +kernel) ?_
  refine lv_iconst (v := 0) hx₀ hb dX11_digest_259 (by decide +kernel) ?_
  have hPc := hP.sub (ws' := [(hx, .inr (10, [.ref aLa, .ref aPa, .ref aGe, .ref aFl, .ref aTr, .ref aBe, .ref aLu, .ref aLo, .ref vSf, .ref vSm, .ref vCo, .ref vSh, .int 0, .int 0, .int 0])), (aPa, .inr (7, [.ref vPa, .int 0, .int (-1), .int 0])), (aGe, .inr (2, [.ref vGe, .int 0, .int (-1), .int 0]))]) [3, 1, 2] rfl
  have hDc := hD.sub (ws' := [(hx, .inr (10, [.ref aLa, .ref aPa, .ref aGe, .ref aFl, .ref aTr, .ref aBe, .ref aLu, .ref aLo, .ref vSf, .ref vSm, .ref vCo, .ref vSh, .int 0, .int 0, .int 0])), (aPa, .inr (7, [.ref vPa, .int 0, .int (-1), .int 0])), (aGe, .inr (2, [.ref vGe, .int 0, .int (-1), .int 0]))]) [3, 1, 2] (by decide) rfl
  have hFc := va_free (wc := [(hx, .inr (10, [.ref aLa, .ref aPa, .ref aGe, .ref aFl, .ref aTr, .ref aBe, .ref aLu, .ref aLo, .ref vSf, .ref vSm, .ref vCo, .ref vSh, .int 0, .int 0, .int 0])), (aPa, .inr (7, [.ref vPa, .int 0, .int (-1), .int 0])), (aGe, .inr (2, [.ref vGe, .int 0, .int (-1), .int 0]))]) hD hS hA [3, 1, 2] rfl
  refine va_calli (va_runV (As := [.int 7, .int 30, .int 0]) (rest := [.long (-9176826638754917425)]) ⟨hx₀, hb, hml, hown, hts⟩ (x_lakes l dC dI cI cJ cQ H.size hx 7 30 0 aLa aPa aGe aFl aTr aBe aLu aLo vSf vSm vCo vSh vPa vGe) (cwV 3 hts (kGV wd_833 wd_985 wd_831 wd_832 wd_2) rfl rfl rfl (by decide +kernel) ⟨Nat.le_of_ble_eq_true rfl, Nat.le_of_ble_eq_true rfl⟩) (k_preV (ci := 10) (q0 := 0) hK hPc hDc hN rfl rfl) rfl rfl hl.1 rfl (lv_room (Nat.le_of_ble_eq_true rfl)) dX11_digest_260 ⟨by decide +kernel, by decide +kernel⟩) hS (fun q _ h => hFc q h) hFc (fun r_24 u₀ t₀ H1 locs ht hvm hw hB hz1 hk1 hS => ?_)
  obtain ⟨hP1, hK1, hD1⟩ := hB
  rw [ht] at hP1
  obtain ⟨hP, hD⟩ := va_join (wr := [(aLa, .inr (4, [.ref vLa, .int 0, .int (-1), .int 0])), (aFl, .inr (1, [.ref vFl, .int 0]))]) (w1 := [(hx, .inr (10, [.ref aLa, .ref aPa, .ref aGe, .ref aFl, .ref aTr, .ref aBe, .ref aLu, .ref aLo, .ref vSf, .ref vSm, .ref vCo, .ref vSh, .int 0, .int 0, .int 0])), (aPa, .inr (7, [.ref vPa, .int 0, .int (-1), .int 0])), (aGe, .inr (2, [.ref vGe, .int 0, .int (-1), .int 0]))]) hP hD [3, 1, 2] [0, 4] rfl rfl (by decide) (by decide) hk1 hFc hP1 hD1
  generalize H1 = H at hP hS ⊢
  have hP : va_P (dC, dI) vwCl [(aLa, .inr (4, [.ref vLa, .int 0, .int (-1), .int 0])), (aFl, .inr (1, [.ref vFl, .int 0])), (hx, .inr (10, [.ref aLa, .ref aPa, .ref aGe, .ref aFl, .ref aTr, .ref aBe, .ref aLu, .ref aLo, .ref vSf, .ref vSm, .ref vCo, .ref vSh, .int 0, .int 0, .int 0])), (aPa, .inr (7, [.ref vPa, .int 0, .int (-1), .int 0])), (aGe, .inr (2, [.ref vGe, .int 0, .int (-1), .int 0]))] H := hP
  have hD : va_D A [(aLa, .inr (4, [.ref vLa, .int 0, .int (-1), .int 0])), (aFl, .inr (1, [.ref vFl, .int 0])), (hx, .inr (10, [.ref aLa, .ref aPa, .ref aGe, .ref aFl, .ref aTr, .ref aBe, .ref aLu, .ref aLo, .ref vSf, .ref vSm, .ref vCo, .ref vSh, .int 0, .int 0, .int 0])), (aPa, .inr (7, [.ref vPa, .int 0, .int (-1), .int 0])), (aGe, .inr (2, [.ref vGe, .int 0, .int (-1), .int 0]))] := hD
  try dsimp only at hw
  rw [if_pos (Classical.byContradiction (fun c9 => lf_x_digest_12  c9))] at hw
  refine k_topi (v := 0) hw ?_
  refine lv_i2l (v := 0) hx₀ hb dX11_digest_263 (by decide +kernel) ?_
  refine lv_ladd hx₀ hb dX11_digest_264 ?_
  refine k_topl (v := (-9176826638754917425)) (by decide +kernel) ?_
  refine lv_lstore_n (lv' := [(1, .long (-9176826638754917425)), (3, .int 0), (0, .ref hx)]) hx₀ hb dX11_digest_265 rfl hl (by decide) rfl (fun ls hl => ?_)
  refine lv_ldc2 (v := 31) hx₀ hb hown (hts (.constantLong RX11 274 (31)) wd_966) dX11_digest_266 ?_
  refine lv_lload_n hx₀ hb dX11_digest_269 rfl (lv_at hl 0 rfl) ?_
  refine lv_lmul hx₀ hb dX11_digest_270 ?_
  refine k_topl (v := (-7780464695759165935)) (by decide +kernel) ?_
  refine lv_aload_n hx₀ hb dX11_digest_271 rfl (lv_at hl 2 rfl) ?_
  refine lv_bipush (v := 7) hx₀ hb dX11_digest_272 (by decide +kernel) ?_
  refine lv_bipush (v := 30) hx₀ hb dX11_digest_274 (by decide +kernel) ?_
  refine lv_iconst (v := 1) hx₀ hb dX11_digest_276 (by decide +kernel) ?_
  have hPc := hP.sub (ws' := [(hx, .inr (10, [.ref aLa, .ref aPa, .ref aGe, .ref aFl, .ref aTr, .ref aBe, .ref aLu, .ref aLo, .ref vSf, .ref vSm, .ref vCo, .ref vSh, .int 0, .int 0, .int 0])), (aPa, .inr (7, [.ref vPa, .int 0, .int (-1), .int 0])), (aGe, .inr (2, [.ref vGe, .int 0, .int (-1), .int 0]))]) [2, 3, 4] rfl
  have hDc := hD.sub (ws' := [(hx, .inr (10, [.ref aLa, .ref aPa, .ref aGe, .ref aFl, .ref aTr, .ref aBe, .ref aLu, .ref aLo, .ref vSf, .ref vSm, .ref vCo, .ref vSh, .int 0, .int 0, .int 0])), (aPa, .inr (7, [.ref vPa, .int 0, .int (-1), .int 0])), (aGe, .inr (2, [.ref vGe, .int 0, .int (-1), .int 0]))]) [2, 3, 4] (by decide) rfl
  have hFc := va_free (wc := [(hx, .inr (10, [.ref aLa, .ref aPa, .ref aGe, .ref aFl, .ref aTr, .ref aBe, .ref aLu, .ref aLo, .ref vSf, .ref vSm, .ref vCo, .ref vSh, .int 0, .int 0, .int 0])), (aPa, .inr (7, [.ref vPa, .int 0, .int (-1), .int 0])), (aGe, .inr (2, [.ref vGe, .int 0, .int (-1), .int 0]))]) hD hS hA [2, 3, 4] rfl
  refine va_calli (va_runV (As := [.int 7, .int 30, .int 1]) (rest := [.long (-7780464695759165935)]) ⟨hx₀, hb, hml, hown, hts⟩ (x_lakes l dC dI cI cJ cQ H.size hx 7 30 1 aLa aPa aGe aFl aTr aBe aLu aLo vSf vSm vCo vSh vPa vGe) (cwV 3 hts (kGV wd_833 wd_985 wd_831 wd_832 wd_2) rfl rfl rfl (by decide +kernel) ⟨Nat.le_of_ble_eq_true rfl, Nat.le_of_ble_eq_true rfl⟩) (k_preV (ci := 10) (q0 := 0) hK hPc hDc hN rfl rfl) rfl rfl hl.1 rfl (lv_room (Nat.le_of_ble_eq_true rfl)) dX11_digest_277 ⟨by decide +kernel, by decide +kernel⟩) hS (fun q _ h => hFc q h) hFc (fun r_26 u₀ t₀ H1 locs ht hvm hw hB hz1 hk1 hS => ?_)
  obtain ⟨hP1, hK1, hD1⟩ := hB
  rw [ht] at hP1
  obtain ⟨hP, hD⟩ := va_join (wr := [(aLa, .inr (4, [.ref vLa, .int 0, .int (-1), .int 0])), (aFl, .inr (1, [.ref vFl, .int 0]))]) (w1 := [(hx, .inr (10, [.ref aLa, .ref aPa, .ref aGe, .ref aFl, .ref aTr, .ref aBe, .ref aLu, .ref aLo, .ref vSf, .ref vSm, .ref vCo, .ref vSh, .int 0, .int 0, .int 0])), (aPa, .inr (7, [.ref vPa, .int 0, .int (-1), .int 0])), (aGe, .inr (2, [.ref vGe, .int 0, .int (-1), .int 0]))]) hP hD [2, 3, 4] [0, 1] rfl rfl (by decide) (by decide) hk1 hFc hP1 hD1
  generalize H1 = H at hP hS ⊢
  have hP : va_P (dC, dI) vwCl [(aLa, .inr (4, [.ref vLa, .int 0, .int (-1), .int 0])), (aFl, .inr (1, [.ref vFl, .int 0])), (hx, .inr (10, [.ref aLa, .ref aPa, .ref aGe, .ref aFl, .ref aTr, .ref aBe, .ref aLu, .ref aLo, .ref vSf, .ref vSm, .ref vCo, .ref vSh, .int 0, .int 0, .int 0])), (aPa, .inr (7, [.ref vPa, .int 0, .int (-1), .int 0])), (aGe, .inr (2, [.ref vGe, .int 0, .int (-1), .int 0]))] H := hP
  have hD : va_D A [(aLa, .inr (4, [.ref vLa, .int 0, .int (-1), .int 0])), (aFl, .inr (1, [.ref vFl, .int 0])), (hx, .inr (10, [.ref aLa, .ref aPa, .ref aGe, .ref aFl, .ref aTr, .ref aBe, .ref aLu, .ref aLo, .ref vSf, .ref vSm, .ref vCo, .ref vSh, .int 0, .int 0, .int 0])), (aPa, .inr (7, [.ref vPa, .int 0, .int (-1), .int 0])), (aGe, .inr (2, [.ref vGe, .int 0, .int (-1), .int 0]))] := hD
  try dsimp only at hw
  rw [if_pos (Classical.byContradiction (fun c9 => lf_x_digest_13  c9))] at hw
  refine k_topi (v := 0) hw ?_
  refine lv_i2l (v := 0) hx₀ hb dX11_digest_280 (by decide +kernel) ?_
  refine lv_ladd hx₀ hb dX11_digest_281 ?_
  refine k_topl (v := (-7780464695759165935)) (by decide +kernel) ?_
  exact W.lret (v := (-7780464695759165935)) hx₀ hb hr (fun t₀ ht hW => ⟨⟨(-7780464695759165935), (), rfl, rfl, trivial⟩, hS.F ht⟩) hS.2.2 dX11_digest_282
