theorem lf_m_sheet_1 (s : Int32) (m : Int32) (n : Int32) (c_2 : 0 ≤ s ∧ s ≤ 3) (c_4 : (0 : Int64) ≤ m.toInt64 ∧ m.toInt64 ≤ (2 : Int64)) (c_5 : n ≤ 60) (c_6 : 0 ≤ n) : (n : Int32) = if 0 ≤ s ∧ s ≤ 3 ∧ 0 ≤ m ∧ m ≤ 2 ∧ n ≤ 60 then (if n < 0 then -15 else n) else -2 := by
  repeat first | rfl | rw [if_pos (by (first | omega | (simp only [Int64.le_iff_toInt_le, Int64.lt_iff_toInt_lt, Int32.le_iff_toInt_le, Int32.lt_iff_toInt_lt, ← Int32.toInt_inj, ← Int64.toInt_inj, Int32.toInt_toInt64, (show (-15 : Int32).toInt = -15 from by decide), (show (-15 : Int64).toInt = -15 from by decide), (show (-2 : Int32).toInt = -2 from by decide), (show (-2 : Int64).toInt = -2 from by decide), (show (0 : Int32).toInt = 0 from by decide), (show (0 : Int64).toInt = 0 from by decide), (show (2 : Int32).toInt = 2 from by decide), (show (2 : Int64).toInt = 2 from by decide), (show (3 : Int32).toInt = 3 from by decide), (show (3 : Int64).toInt = 3 from by decide), (show (60 : Int32).toInt = 60 from by decide), (show (60 : Int64).toInt = 60 from by decide)] at *; omega)))] | rw [if_neg (by (first | omega | (simp only [Int64.le_iff_toInt_le, Int64.lt_iff_toInt_lt, Int32.le_iff_toInt_le, Int32.lt_iff_toInt_lt, ← Int32.toInt_inj, ← Int64.toInt_inj, Int32.toInt_toInt64, (show (-15 : Int32).toInt = -15 from by decide), (show (-15 : Int64).toInt = -15 from by decide), (show (-2 : Int32).toInt = -2 from by decide), (show (-2 : Int64).toInt = -2 from by decide), (show (0 : Int32).toInt = 0 from by decide), (show (0 : Int64).toInt = 0 from by decide), (show (2 : Int32).toInt = 2 from by decide), (show (2 : Int64).toInt = 2 from by decide), (show (3 : Int32).toInt = 3 from by decide), (show (3 : Int64).toInt = 3 from by decide), (show (60 : Int32).toInt = 60 from by decide), (show (60 : Int64).toInt = 60 from by decide)] at *; omega)))]
theorem lf_m_sheet_2 (s : Int32) (m : Int32) (n : Int32) (c_2 : 0 ≤ s ∧ s ≤ 3) (c_4 : (0 : Int64) ≤ m.toInt64 ∧ m.toInt64 ≤ (2 : Int64)) (c_5 : n ≤ 60) (c_6 : ¬ 0 ≤ n) : ((-15) : Int32) = if 0 ≤ s ∧ s ≤ 3 ∧ 0 ≤ m ∧ m ≤ 2 ∧ n ≤ 60 then (if n < 0 then -15 else n) else -2 := by
  repeat first | rfl | rw [if_pos (by (first | omega | (simp only [Int64.le_iff_toInt_le, Int64.lt_iff_toInt_lt, Int32.le_iff_toInt_le, Int32.lt_iff_toInt_lt, ← Int32.toInt_inj, ← Int64.toInt_inj, Int32.toInt_toInt64, (show (-15 : Int32).toInt = -15 from by decide), (show (-15 : Int64).toInt = -15 from by decide), (show (-2 : Int32).toInt = -2 from by decide), (show (-2 : Int64).toInt = -2 from by decide), (show (0 : Int32).toInt = 0 from by decide), (show (0 : Int64).toInt = 0 from by decide), (show (2 : Int32).toInt = 2 from by decide), (show (2 : Int64).toInt = 2 from by decide), (show (3 : Int32).toInt = 3 from by decide), (show (3 : Int64).toInt = 3 from by decide), (show (60 : Int32).toInt = 60 from by decide), (show (60 : Int64).toInt = 60 from by decide)] at *; omega)))] | rw [if_neg (by (first | omega | (simp only [Int64.le_iff_toInt_le, Int64.lt_iff_toInt_lt, Int32.le_iff_toInt_le, Int32.lt_iff_toInt_lt, ← Int32.toInt_inj, ← Int64.toInt_inj, Int32.toInt_toInt64, (show (-15 : Int32).toInt = -15 from by decide), (show (-15 : Int64).toInt = -15 from by decide), (show (-2 : Int32).toInt = -2 from by decide), (show (-2 : Int64).toInt = -2 from by decide), (show (0 : Int32).toInt = 0 from by decide), (show (0 : Int64).toInt = 0 from by decide), (show (2 : Int32).toInt = 2 from by decide), (show (2 : Int64).toInt = 2 from by decide), (show (3 : Int32).toInt = 3 from by decide), (show (3 : Int64).toInt = 3 from by decide), (show (60 : Int32).toInt = 60 from by decide), (show (60 : Int64).toInt = 60 from by decide)] at *; omega)))]
theorem lf_m_sheet_3 (s : Int32) (m : Int32) (n : Int32) (c_2 : 0 ≤ s ∧ s ≤ 3) (c_4 : (0 : Int64) ≤ m.toInt64 ∧ m.toInt64 ≤ (2 : Int64)) (c_5 : ¬ n ≤ 60) : ((-2) : Int32) = if 0 ≤ s ∧ s ≤ 3 ∧ 0 ≤ m ∧ m ≤ 2 ∧ n ≤ 60 then (if n < 0 then -15 else n) else -2 := by
  repeat first | rfl | rw [if_pos (by (first | omega | (simp only [Int64.le_iff_toInt_le, Int64.lt_iff_toInt_lt, Int32.le_iff_toInt_le, Int32.lt_iff_toInt_lt, ← Int32.toInt_inj, ← Int64.toInt_inj, Int32.toInt_toInt64, (show (-15 : Int32).toInt = -15 from by decide), (show (-15 : Int64).toInt = -15 from by decide), (show (-2 : Int32).toInt = -2 from by decide), (show (-2 : Int64).toInt = -2 from by decide), (show (0 : Int32).toInt = 0 from by decide), (show (0 : Int64).toInt = 0 from by decide), (show (2 : Int32).toInt = 2 from by decide), (show (2 : Int64).toInt = 2 from by decide), (show (3 : Int32).toInt = 3 from by decide), (show (3 : Int64).toInt = 3 from by decide), (show (60 : Int32).toInt = 60 from by decide), (show (60 : Int64).toInt = 60 from by decide)] at *; omega)))] | rw [if_neg (by (first | omega | (simp only [Int64.le_iff_toInt_le, Int64.lt_iff_toInt_lt, Int32.le_iff_toInt_le, Int32.lt_iff_toInt_lt, ← Int32.toInt_inj, ← Int64.toInt_inj, Int32.toInt_toInt64, (show (-15 : Int32).toInt = -15 from by decide), (show (-15 : Int64).toInt = -15 from by decide), (show (-2 : Int32).toInt = -2 from by decide), (show (-2 : Int64).toInt = -2 from by decide), (show (0 : Int32).toInt = 0 from by decide), (show (0 : Int64).toInt = 0 from by decide), (show (2 : Int32).toInt = 2 from by decide), (show (2 : Int64).toInt = 2 from by decide), (show (3 : Int32).toInt = 3 from by decide), (show (3 : Int64).toInt = 3 from by decide), (show (60 : Int32).toInt = 60 from by decide), (show (60 : Int64).toInt = 60 from by decide)] at *; omega)))]
theorem lf_m_sheet_4 (s : Int32) (m : Int32) (n : Int32) (c_2 : 0 ≤ s ∧ s ≤ 3) (c_4 : ¬ ((0 : Int64) ≤ m.toInt64 ∧ m.toInt64 ≤ (2 : Int64))) : ((-2) : Int32) = if 0 ≤ s ∧ s ≤ 3 ∧ 0 ≤ m ∧ m ≤ 2 ∧ n ≤ 60 then (if n < 0 then -15 else n) else -2 := by
  repeat first | rfl | rw [if_pos (by (first | omega | (simp only [Int64.le_iff_toInt_le, Int64.lt_iff_toInt_lt, Int32.le_iff_toInt_le, Int32.lt_iff_toInt_lt, ← Int32.toInt_inj, ← Int64.toInt_inj, Int32.toInt_toInt64, (show (-15 : Int32).toInt = -15 from by decide), (show (-15 : Int64).toInt = -15 from by decide), (show (-2 : Int32).toInt = -2 from by decide), (show (-2 : Int64).toInt = -2 from by decide), (show (0 : Int32).toInt = 0 from by decide), (show (0 : Int64).toInt = 0 from by decide), (show (2 : Int32).toInt = 2 from by decide), (show (2 : Int64).toInt = 2 from by decide), (show (3 : Int32).toInt = 3 from by decide), (show (3 : Int64).toInt = 3 from by decide), (show (60 : Int32).toInt = 60 from by decide), (show (60 : Int64).toInt = 60 from by decide)] at *; omega)))] | rw [if_neg (by (first | omega | (simp only [Int64.le_iff_toInt_le, Int64.lt_iff_toInt_lt, Int32.le_iff_toInt_le, Int32.lt_iff_toInt_lt, ← Int32.toInt_inj, ← Int64.toInt_inj, Int32.toInt_toInt64, (show (-15 : Int32).toInt = -15 from by decide), (show (-15 : Int64).toInt = -15 from by decide), (show (-2 : Int32).toInt = -2 from by decide), (show (-2 : Int64).toInt = -2 from by decide), (show (0 : Int32).toInt = 0 from by decide), (show (0 : Int64).toInt = 0 from by decide), (show (2 : Int32).toInt = 2 from by decide), (show (2 : Int64).toInt = 2 from by decide), (show (3 : Int32).toInt = 3 from by decide), (show (3 : Int64).toInt = 3 from by decide), (show (60 : Int32).toInt = 60 from by decide), (show (60 : Int64).toInt = 60 from by decide)] at *; omega)))]
theorem lf_m_sheet_5 (s : Int32) (m : Int32) (n : Int32) (c_2 : ¬ (0 ≤ s ∧ s ≤ 3)) : ((-2) : Int32) = if 0 ≤ s ∧ s ≤ 3 ∧ 0 ≤ m ∧ m ≤ 2 ∧ n ≤ 60 then (if n < 0 then -15 else n) else -2 := by
  repeat first | rfl | rw [if_pos (by (first | omega | (simp only [Int64.le_iff_toInt_le, Int64.lt_iff_toInt_lt, Int32.le_iff_toInt_le, Int32.lt_iff_toInt_lt, ← Int32.toInt_inj, ← Int64.toInt_inj, Int32.toInt_toInt64, (show (-15 : Int32).toInt = -15 from by decide), (show (-15 : Int64).toInt = -15 from by decide), (show (-2 : Int32).toInt = -2 from by decide), (show (-2 : Int64).toInt = -2 from by decide), (show (0 : Int32).toInt = 0 from by decide), (show (0 : Int64).toInt = 0 from by decide), (show (2 : Int32).toInt = 2 from by decide), (show (2 : Int64).toInt = 2 from by decide), (show (3 : Int32).toInt = 3 from by decide), (show (3 : Int64).toInt = 3 from by decide), (show (60 : Int32).toInt = 60 from by decide), (show (60 : Int64).toInt = 60 from by decide)] at *; omega)))] | rw [if_neg (by (first | omega | (simp only [Int64.le_iff_toInt_le, Int64.lt_iff_toInt_lt, Int32.le_iff_toInt_le, Int32.lt_iff_toInt_lt, ← Int32.toInt_inj, ← Int64.toInt_inj, Int32.toInt_toInt64, (show (-15 : Int32).toInt = -15 from by decide), (show (-15 : Int64).toInt = -15 from by decide), (show (-2 : Int32).toInt = -2 from by decide), (show (-2 : Int64).toInt = -2 from by decide), (show (0 : Int32).toInt = 0 from by decide), (show (0 : Int64).toInt = 0 from by decide), (show (2 : Int32).toInt = 2 from by decide), (show (2 : Int64).toInt = 2 from by decide), (show (3 : Int32).toInt = 3 from by decide), (show (3 : Int64).toInt = 3 from by decide), (show (60 : Int32).toInt = 60 from by decide), (show (60 : Int64).toInt = 60 from by decide)] at *; omega)))]
set_option maxHeartbeats 4000000 in
set_option maxRecDepth 100000 in
theorem m_sheet (l : Launch) (dC : Nat → ClassId) (dI : Nat → Nat → Nat) (cI cJ cQ : ClassId) (sz : Nat) (hm : Nat) (s : Int32) (m : Int32) (n : Int32) (vFo : Nat) (vSi : Nat) (vIt : Nat) (vMo : Nat) (vBy : Nat) (vTy : Nat) (vMi : Nat) (vPs : Nat) (vGs : Nat) (vFt : Nat) (vTo : Nat) (vPr : Nat) (vSt : Nat) (vFn : Nat) (vSg : Nat) (vAl : Nat) : Met l yX12_sheet (kW yX12_sheet cX12_sheet 5 (some .int)) { frames := 2, cells := 0, slots := 0, locals := 45 } (kPre dC dI cI cJ cQ sz [.ref hm, .int s, .int m, .int n] [(hm, .inr (11, [.ref vFo, .ref vSi, .ref vIt, .ref vMo, .int 0, .ref vBy, .ref vTy, .int 0, .ref vMi, .int 0, .ref vPs, .int 0, .ref vGs, .int 0, .ref vFt, .int 0, .ref vTo, .int 0, .int 0, .int 0, .int 16777215, .int 0, .int 0, .ref vPr, .ref vSt, .ref vFn, .int 0, .ref vSg, .ref vAl, .int 0])), (vFo, .inl (cI, 4, .inl fFo)), (vSi, .inl (cI, 4, .inl (fun _ => 0))), (vIt, .inl (cI, 240, .inl (fun _ => 0)))]) (va_Qi (fun (r : Int32) (_ : Unit) => r = if 0 ≤ s ∧ s ≤ 3 ∧ 0 ≤ m ∧ m ≤ 2 ∧ n ≤ 60 then (if n < 0 then -15 else n) else -2) (fun _ _ => True) (va_A [(hm, .inr (11, [.ref vFo, .ref vSi, .ref vIt, .ref vMo, .int 0, .ref vBy, .ref vTy, .int 0, .ref vMi, .int 0, .ref vPs, .int 0, .ref vGs, .int 0, .ref vFt, .int 0, .ref vTo, .int 0, .int 0, .int 0, .int 16777215, .int 0, .int 0, .ref vPr, .ref vSt, .ref vFn, .int 0, .ref vSg, .ref vAl, .int 0])), (vFo, .inl (cI, 4, .inl fFo)), (vSi, .inl (cI, 4, .inl (fun _ => 0))), (vIt, .inl (cI, 240, .inl (fun _ => 0)))] sz)) 0 0 (va_A [(hm, .inr (11, [.ref vFo, .ref vSi, .ref vIt, .ref vMo, .int 0, .ref vBy, .ref vTy, .int 0, .ref vMi, .int 0, .ref vPs, .int 0, .ref vGs, .int 0, .ref vFt, .int 0, .ref vTo, .int 0, .int 0, .int 0, .int 16777215, .int 0, .int 0, .ref vPr, .ref vSt, .ref vFn, .int 0, .ref vSg, .ref vAl, .int 0])), (vFo, .inl (cI, 4, .inl fFo)), (vSi, .inl (cI, 4, .inl (fun _ => 0))), (vIt, .inl (cI, 240, .inl (fun _ => 0)))] sz) := by
  refine Met.ofW (cc := cX12_sheet) (maxL := 5) (ret := (some .int)) (by decide) rfl ?_
  intro p₀ e₀ s₀ m₀ args below meth c₀ s₁ B hml hv₀
  obtain ⟨rfl, hsz, hP, hK, hD0, hN⟩ := hv₀
  have hx₀ := B.exec
  have hb := B.bytes
  have hr := B.returns
  have hts := atoms_spec (ws := (kW yX12_sheet cX12_sheet 5 (some .int))) B.pre
  have hts := fun w h => hts w (List.mem_cons_of_mem _ h)
  have hown : s₀.vm.findClass RX12 = some m₀.cls := findClass_of_methodNamed B.named
  have hlocks := B.notSynchronized
  subst hsz
  have hD := hD0.self (sz := s₀.heap.size)
  generalize hAe : va_A [(hm, .inr (11, [.ref vFo, .ref vSi, .ref vIt, .ref vMo, .int 0, .ref vBy, .ref vTy, .int 0, .ref vMi, .int 0, .ref vPs, .int 0, .ref vGs, .int 0, .ref vFt, .int 0, .ref vTo, .int 0, .int 0, .int 0, .int 16777215, .int 0, .int 0, .ref vPr, .ref vSt, .ref vFn, .int 0, .ref vSg, .ref vAl, .int 0])), (vFo, .inl (cI, 4, .inl fFo)), (vSi, .inl (cI, 4, .inl (fun _ => 0))), (vIt, .inl (cI, 240, .inl (fun _ => 0)))] s₀.heap.size = A at hD ⊢
  have hA : ∀ q : Nat, s₀.heap.size ≤ q → A q := fun q h => by rw [← hAe]; exact Or.inr h
  have hS : va_S A s₀.heap s₀.heap [] := va_S.rf
  have hP : va_P (dC, dI) vwCl [(hm, .inr (11, [.ref vFo, .ref vSi, .ref vIt, .ref vMo, .int 0, .ref vBy, .ref vTy, .int 0, .ref vMi, .int 0, .ref vPs, .int 0, .ref vGs, .int 0, .ref vFt, .int 0, .ref vTo, .int 0, .int 0, .int 0, .int 16777215, .int 0, .int 0, .ref vPr, .ref vSt, .ref vFn, .int 0, .ref vSg, .ref vAl, .int 0])), (vFo, .inl (cI, 4, .inl fFo)), (vSi, .inl (cI, 4, .inl (fun _ => 0))), (vIt, .inl (cI, 240, .inl (fun _ => 0)))] s₀.heap := hP
  have hl := lv_entry ([.ref hm, .int s, .int m, .int n]) (n := 5) (Nat.le_of_ble_eq_true rfl)
  rw [lg_entry_eq]
  generalize (lg_sl ([.ref hm, .int s, .int m, .int n]) ++ List.replicate (5 - (lg_sl ([.ref hm, .int s, .int m, .int n])).length) Slot.unset).toArray = ls at hl ⊢
  have hl : lv_has ls 5 [(0, .ref hm), (1, .int s), (2, .int m), (3, .int n)] := hl
  obtain ⟨H, hH⟩ : ∃ z : Heap, z = s₀.heap := ⟨_, rfl⟩
  rw [← hH] at hP
  have hS : va_S A s₀.heap H [] := by rw [hH]; exact hS
  refine k_heap hH ?_
  have hD : va_D A [(hm, .inr (11, [.ref vFo, .ref vSi, .ref vIt, .ref vMo, .int 0, .ref vBy, .ref vTy, .int 0, .ref vMi, .int 0, .ref vPs, .int 0, .ref vGs, .int 0, .ref vFt, .int 0, .ref vTo, .int 0, .int 0, .int 0, .int 16777215, .int 0, .int 0, .ref vPr, .ref vSt, .ref vFn, .int 0, .ref vSg, .ref vAl, .int 0])), (vFo, .inl (cI, 4, .inl fFo)), (vSi, .inl (cI, 4, .inl (fun _ => 0))), (vIt, .inl (cI, 240, .inl (fun _ => 0)))] := hD
  obtain ⟨locs, hlo⟩ : ∃ z : List Loc, z = [] := ⟨_, rfl⟩
  rw [← hlo] at hS ⊢
  clear hlo hH hAe hD0
  refine lv_iload_n hx₀ hb dX12_sheet_0 rfl (lv_at hl 1 rfl) ?_
  have hPc := hP.sub (ws' := []) [] rfl
  have hDc := hD.sub (ws' := []) [] (by decide) rfl
  have hFc := va_free (wc := []) hD hS hA [] rfl
  refine va_calli (va_runS (As := [.int s]) (rest := []) ⟨hx₀, hb, hml, hown, hts⟩ (c_isSheet l dC dI cI cJ cQ H.size s) (va_cwS 1 hts (kGS wd_400 wd_398 wd_399 wd_5) rfl rfl rfl (by decide +kernel) ⟨Nat.le_of_ble_eq_true rfl, Nat.le_of_ble_eq_true rfl⟩) (k_preS hK hPc hDc hN) rfl rfl hl.1 rfl (lv_room (Nat.le_of_ble_eq_true rfl)) dX12_sheet_1 ⟨by decide +kernel, by decide +kernel⟩) hS (fun q _ h => hFc q h) hFc (fun r_1 u₀ t₀ H1 locs ht hvm hw hB hz1 hk1 hS => ?_)
  obtain ⟨hP1, hK1, hD1⟩ := hB
  rw [ht] at hP1
  obtain ⟨hP, hD⟩ := va_join (wr := [(hm, .inr (11, [.ref vFo, .ref vSi, .ref vIt, .ref vMo, .int 0, .ref vBy, .ref vTy, .int 0, .ref vMi, .int 0, .ref vPs, .int 0, .ref vGs, .int 0, .ref vFt, .int 0, .ref vTo, .int 0, .int 0, .int 0, .int 16777215, .int 0, .int 0, .ref vPr, .ref vSt, .ref vFn, .int 0, .ref vSg, .ref vAl, .int 0])), (vFo, .inl (cI, 4, .inl fFo)), (vSi, .inl (cI, 4, .inl (fun _ => 0))), (vIt, .inl (cI, 240, .inl (fun _ => 0)))]) (w1 := []) hP hD [] [0, 1, 2, 3] rfl rfl (by decide) (by decide) hk1 hFc hP1 hD1
  generalize H1 = H at hP hS ⊢
  have hP : va_P (dC, dI) vwCl [(hm, .inr (11, [.ref vFo, .ref vSi, .ref vIt, .ref vMo, .int 0, .ref vBy, .ref vTy, .int 0, .ref vMi, .int 0, .ref vPs, .int 0, .ref vGs, .int 0, .ref vFt, .int 0, .ref vTo, .int 0, .int 0, .int 0, .int 16777215, .int 0, .int 0, .ref vPr, .ref vSt, .ref vFn, .int 0, .ref vSg, .ref vAl, .int 0])), (vFo, .inl (cI, 4, .inl fFo)), (vSi, .inl (cI, 4, .inl (fun _ => 0))), (vIt, .inl (cI, 240, .inl (fun _ => 0)))] H := hP
  have hD : va_D A [(hm, .inr (11, [.ref vFo, .ref vSi, .ref vIt, .ref vMo, .int 0, .ref vBy, .ref vTy, .int 0, .ref vMi, .int 0, .ref vPs, .int 0, .ref vGs, .int 0, .ref vFt, .int 0, .ref vTo, .int 0, .int 0, .int 0, .int 16777215, .int 0, .int 0, .ref vPr, .ref vSt, .ref vFn, .int 0, .ref vSg, .ref vAl, .int 0])), (vFo, .inl (cI, 4, .inl fFo)), (vSi, .inl (cI, 4, .inl (fun _ => 0))), (vIt, .inl (cI, 240, .inl (fun _ => 0)))] := hD
  try dsimp only at hw
  by_cases c_2 : 0 ≤ s ∧ s ≤ 3
  · rw [if_pos c_2] at hw
    refine k_topi (v := 1) hw ?_
    refine lv_if_eq (tgt := 25) hx₀ hb dX12_sheet_4 (by decide) (fun c9 => absurd c9 (by decide +kernel)) (fun _ => ?_)
    refine lv_iload_n hx₀ hb dX12_sheet_7 rfl (lv_at hl 2 rfl) ?_
    refine lv_i2l hx₀ hb dX12_sheet_8 rfl ?_
    refine lv_lconst (v := 0) hx₀ hb dX12_sheet_9 (by decide +kernel) ?_
    refine lv_ldc2 (v := 2) hx₀ hb hown (hts (.constantLong RX12 78 (2)) wd_205) dX12_sheet_10 ?_
    have hPc := hP.sub (ws' := []) [] rfl
    have hDc := hD.sub (ws' := []) [] (by decide) rfl
    have hFc := va_free (wc := []) hD hS hA [] rfl
    refine va_calli (va_runS (As := [.long m.toInt64, .long 0, .long 2]) (rest := []) ⟨hx₀, hb, hml, hown, hts⟩ (c_in l dC dI cI cJ cQ H.size m.toInt64 0 2) (va_cwS 3 hts (kGS wd_208 wd_206 wd_207 wd_5) rfl rfl rfl (by decide +kernel) ⟨Nat.le_of_ble_eq_true rfl, Nat.le_of_ble_eq_true rfl⟩) (k_preS hK hPc hDc hN) rfl rfl hl.1 rfl (lv_room (Nat.le_of_ble_eq_true rfl)) dX12_sheet_13 ⟨by decide +kernel, by decide +kernel⟩) hS (fun q _ h => hFc q h) hFc (fun r_3 u₀ t₀ H1 locs ht hvm hw hB hz1 hk1 hS => ?_)
    obtain ⟨hP1, hK1, hD1⟩ := hB
    rw [ht] at hP1
    obtain ⟨hP, hD⟩ := va_join (wr := [(hm, .inr (11, [.ref vFo, .ref vSi, .ref vIt, .ref vMo, .int 0, .ref vBy, .ref vTy, .int 0, .ref vMi, .int 0, .ref vPs, .int 0, .ref vGs, .int 0, .ref vFt, .int 0, .ref vTo, .int 0, .int 0, .int 0, .int 16777215, .int 0, .int 0, .ref vPr, .ref vSt, .ref vFn, .int 0, .ref vSg, .ref vAl, .int 0])), (vFo, .inl (cI, 4, .inl fFo)), (vSi, .inl (cI, 4, .inl (fun _ => 0))), (vIt, .inl (cI, 240, .inl (fun _ => 0)))]) (w1 := []) hP hD [] [0, 1, 2, 3] rfl rfl (by decide) (by decide) hk1 hFc hP1 hD1
    generalize H1 = H at hP hS ⊢
    have hP : va_P (dC, dI) vwCl [(hm, .inr (11, [.ref vFo, .ref vSi, .ref vIt, .ref vMo, .int 0, .ref vBy, .ref vTy, .int 0, .ref vMi, .int 0, .ref vPs, .int 0, .ref vGs, .int 0, .ref vFt, .int 0, .ref vTo, .int 0, .int 0, .int 0, .int 16777215, .int 0, .int 0, .ref vPr, .ref vSt, .ref vFn, .int 0, .ref vSg, .ref vAl, .int 0])), (vFo, .inl (cI, 4, .inl fFo)), (vSi, .inl (cI, 4, .inl (fun _ => 0))), (vIt, .inl (cI, 240, .inl (fun _ => 0)))] H := hP
    have hD : va_D A [(hm, .inr (11, [.ref vFo, .ref vSi, .ref vIt, .ref vMo, .int 0, .ref vBy, .ref vTy, .int 0, .ref vMi, .int 0, .ref vPs, .int 0, .ref vGs, .int 0, .ref vFt, .int 0, .ref vTo, .int 0, .int 0, .int 0, .int 16777215, .int 0, .int 0, .ref vPr, .ref vSt, .ref vFn, .int 0, .ref vSg, .ref vAl, .int 0])), (vFo, .inl (cI, 4, .inl fFo)), (vSi, .inl (cI, 4, .inl (fun _ => 0))), (vIt, .inl (cI, 240, .inl (fun _ => 0)))] := hD
    try dsimp only at hw
    by_cases c_4 : (0 : Int64) ≤ m.toInt64 ∧ m.toInt64 ≤ (2 : Int64)
    · rw [if_pos c_4] at hw
      refine k_topi (v := 1) hw ?_
      refine lv_if_eq (tgt := 25) hx₀ hb dX12_sheet_16 (by decide) (fun c9 => absurd c9 (by decide +kernel)) (fun _ => ?_)
      refine lv_iload_n hx₀ hb dX12_sheet_19 rfl (lv_at hl 3 rfl) ?_
      refine lv_bipush (v := 60) hx₀ hb dX12_sheet_20 (by decide +kernel) ?_
      refine lv_icmp_le (tgt := 28) hx₀ hb dX12_sheet_22 (by decide) (fun c_5 => ?_) (fun c_5 => ?_)
      · refine lv_iload_n hx₀ hb dX12_sheet_28 rfl (lv_at hl 3 rfl) ?_
        refine lv_if_ge (tgt := 38) hx₀ hb dX12_sheet_29 (by decide) (fun c_6 => ?_) (fun c_6 => ?_)
        · refine lv_aload_n hx₀ hb dX12_sheet_38 rfl (lv_at hl 0 rfl) ?_
          refine va_get (D := (dC, dI)) (ci := 11) (v := .ref vFo) (C := RX12) (T := TX12) (N := 30) hx₀ hb hts inlX12 hown hK hP 0 rfl rfl 0 (by decide) (hts (.fieldLink RX12 7 "BittenStickModel" "forms" "[I") wd_115) (fun _ h9 => h9) rfl dX12_sheet_39 ?_
          refine lv_iload_n hx₀ hb dX12_sheet_42 rfl (lv_at hl 1 rfl) ?_
          refine lv_iload_n hx₀ hb dX12_sheet_43 rfl (lv_at hl 2 rfl) ?_
          refine va_iast hx₀ hb hK hP hD hS 1 0 rfl rfl (k_in3 c_2) dX12_sheet_44 (fun H locs hP hD hS => ?_)
          have hP : va_P (dC, dI) vwCl [(hm, .inr (11, [.ref vFo, .ref vSi, .ref vIt, .ref vMo, .int 0, .ref vBy, .ref vTy, .int 0, .ref vMi, .int 0, .ref vPs, .int 0, .ref vGs, .int 0, .ref vFt, .int 0, .ref vTo, .int 0, .int 0, .int 0, .int 16777215, .int 0, .int 0, .ref vPr, .ref vSt, .ref vFn, .int 0, .ref vSg, .ref vAl, .int 0])), (vFo, .inl (cI, 4, .inl (upd fFo s.toNatClampNeg m))), (vSi, .inl (cI, 4, .inl (fun _ => 0))), (vIt, .inl (cI, 240, .inl (fun _ => 0)))] H := hP
          have hD : va_D A [(hm, .inr (11, [.ref vFo, .ref vSi, .ref vIt, .ref vMo, .int 0, .ref vBy, .ref vTy, .int 0, .ref vMi, .int 0, .ref vPs, .int 0, .ref vGs, .int 0, .ref vFt, .int 0, .ref vTo, .int 0, .int 0, .int 0, .int 16777215, .int 0, .int 0, .ref vPr, .ref vSt, .ref vFn, .int 0, .ref vSg, .ref vAl, .int 0])), (vFo, .inl (cI, 4, .inl (upd fFo s.toNatClampNeg m))), (vSi, .inl (cI, 4, .inl (fun _ => 0))), (vIt, .inl (cI, 240, .inl (fun _ => 0)))] := hD
          refine lv_aload_n hx₀ hb dX12_sheet_45 rfl (lv_at hl 0 rfl) ?_
          refine va_get (D := (dC, dI)) (ci := 11) (v := .ref vSi) (C := RX12) (T := TX12) (N := 30) hx₀ hb hts inlX12 hown hK hP 0 rfl rfl 1 (by decide) (hts (.fieldLink RX12 13 "BittenStickModel" "sizes" "[I") wd_116) (fun _ h9 => h9) rfl dX12_sheet_46 ?_
          refine lv_iload_n hx₀ hb dX12_sheet_49 rfl (lv_at hl 1 rfl) ?_
          refine lv_iload_n hx₀ hb dX12_sheet_50 rfl (lv_at hl 3 rfl) ?_
          refine va_iast hx₀ hb hK hP hD hS 2 0 rfl rfl (k_in3 c_2) dX12_sheet_51 (fun H locs hP hD hS => ?_)
          have hP : va_P (dC, dI) vwCl [(hm, .inr (11, [.ref vFo, .ref vSi, .ref vIt, .ref vMo, .int 0, .ref vBy, .ref vTy, .int 0, .ref vMi, .int 0, .ref vPs, .int 0, .ref vGs, .int 0, .ref vFt, .int 0, .ref vTo, .int 0, .int 0, .int 0, .int 16777215, .int 0, .int 0, .ref vPr, .ref vSt, .ref vFn, .int 0, .ref vSg, .ref vAl, .int 0])), (vFo, .inl (cI, 4, .inl (upd fFo s.toNatClampNeg m))), (vSi, .inl (cI, 4, .inl (upd (fun _ => 0) s.toNatClampNeg n))), (vIt, .inl (cI, 240, .inl (fun _ => 0)))] H := hP
          have hD : va_D A [(hm, .inr (11, [.ref vFo, .ref vSi, .ref vIt, .ref vMo, .int 0, .ref vBy, .ref vTy, .int 0, .ref vMi, .int 0, .ref vPs, .int 0, .ref vGs, .int 0, .ref vFt, .int 0, .ref vTo, .int 0, .int 0, .int 0, .int 16777215, .int 0, .int 0, .ref vPr, .ref vSt, .ref vFn, .int 0, .ref vSg, .ref vAl, .int 0])), (vFo, .inl (cI, 4, .inl (upd fFo s.toNatClampNeg m))), (vSi, .inl (cI, 4, .inl (upd (fun _ => 0) s.toNatClampNeg n))), (vIt, .inl (cI, 240, .inl (fun _ => 0)))] := hD
          refine lv_iconst (v := 0) hx₀ hb dX12_sheet_52 (by decide +kernel) ?_
          refine lv_istore (lv' := [(4, .int 0), (0, .ref hm), (1, .int s), (2, .int m), (3, .int n)]) hx₀ hb dX12_sheet_53 hl (by decide) rfl (fun ls hl => ?_)
          have hn60 : n.toInt ≤ 60 := k_le60 c_5
          refine (?key : ∀ (j k : Nat) (f9 : Nat → Int32) (H : Heap) (locs : List Loc) (ls : Array Slot), k + j = n.toInt.toNat → va_P (dC, dI) vwCl [(hm, .inr (11, [.ref vFo, .ref vSi, .ref vIt, .ref vMo, .int 0, .ref vBy, .ref vTy, .int 0, .ref vMi, .int 0, .ref vPs, .int 0, .ref vGs, .int 0, .ref vFt, .int 0, .ref vTo, .int 0, .int 0, .int 0, .int 16777215, .int 0, .int 0, .ref vPr, .ref vSt, .ref vFn, .int 0, .ref vSg, .ref vAl, .int 0])), (vFo, .inl (cI, 4, .inl (upd fFo s.toNatClampNeg m))), (vSi, .inl (cI, 4, .inl (upd (fun _ => 0) s.toNatClampNeg n))), (vIt, .inl (cI, 240, .inl f9))] H → va_D A [(hm, .inr (11, [.ref vFo, .ref vSi, .ref vIt, .ref vMo, .int 0, .ref vBy, .ref vTy, .int 0, .ref vMi, .int 0, .ref vPs, .int 0, .ref vGs, .int 0, .ref vFt, .int 0, .ref vTo, .int 0, .int 0, .int 0, .int 16777215, .int 0, .int 0, .ref vPr, .ref vSt, .ref vFn, .int 0, .ref vSg, .ref vAl, .int 0])), (vFo, .inl (cI, 4, .inl (upd fFo s.toNatClampNeg m))), (vSi, .inl (cI, 4, .inl (upd (fun _ => 0) s.toNatClampNeg n))), (vIt, .inl (cI, 240, .inl f9))] → va_S A s₀.heap H locs → lv_has ls 5 [(4, .int (nI k)), (0, .ref hm), (1, .int s), (2, .int m), (3, .int n)] → W p₀ l e₀ _ s₀ m₀ _ below meth c₀ H locs _ _ _ (F0 m₀ 55 ls [])) n.toInt.toNat 0 _ H locs ls (by omega) hP hD hS hl
          intro j
          induction j using Nat.strongRecOn with
          | ind j ih =>
            intro k f9 H locs ls hj hP hD hS hl
            refine lv_iload hx₀ hb dX12_sheet_55 (lv_at hl 0 rfl) ?_
            refine lv_iload_n hx₀ hb dX12_sheet_57 rfl (lv_at hl 4 rfl) ?_
            refine lv_icmp_ge (tgt := 80) hx₀ hb dX12_sheet_58 (by decide) (fun c_7 => ?_) (fun c_7 => ?_)
            · refine lv_iload_n hx₀ hb dX12_sheet_80 rfl (lv_at hl 4 rfl) ?_
              exact W.iret (v := n) hx₀ hb hr (fun t₀ ht hW => ⟨⟨n, (), rfl, (lf_m_sheet_1 s m n c_2 c_4 c_5 c_6), trivial⟩, hS.F ht⟩) hS.2.2 dX12_sheet_81
            · refine lv_aload_n hx₀ hb dX12_sheet_61 rfl (lv_at hl 1 rfl) ?_
              refine va_get (D := (dC, dI)) (ci := 11) (v := .ref vIt) (C := RX12) (T := TX12) (N := 30) hx₀ hb hts inlX12 hown hK hP 0 rfl rfl 2 (by decide) (hts (.fieldLink RX12 16 "BittenStickModel" "items" "[I") wd_117) (fun _ h9 => h9) rfl dX12_sheet_62 ?_
              refine lv_bipush (v := 60) hx₀ hb dX12_sheet_65 (by decide +kernel) ?_
              refine lv_iload_n hx₀ hb dX12_sheet_67 rfl (lv_at hl 2 rfl) ?_
              refine lv_imul hx₀ hb dX12_sheet_68 ?_
              refine lv_iload hx₀ hb dX12_sheet_69 (lv_at hl 0 rfl) ?_
              refine lv_iadd hx₀ hb dX12_sheet_71 ?_
              refine lv_iconst (v := 0) hx₀ hb dX12_sheet_72 (by decide +kernel) ?_
              refine va_iast hx₀ hb hK hP hD hS 3 0 rfl rfl (k_in60 c_2 c_5 (k_ltT (by omega) c_7)) dX12_sheet_73 (fun H locs hP hD hS => ?_)
              have hP : va_P (dC, dI) vwCl [(hm, .inr (11, [.ref vFo, .ref vSi, .ref vIt, .ref vMo, .int 0, .ref vBy, .ref vTy, .int 0, .ref vMi, .int 0, .ref vPs, .int 0, .ref vGs, .int 0, .ref vFt, .int 0, .ref vTo, .int 0, .int 0, .int 0, .int 16777215, .int 0, .int 0, .ref vPr, .ref vSt, .ref vFn, .int 0, .ref vSg, .ref vAl, .int 0])), (vFo, .inl (cI, 4, .inl (upd fFo s.toNatClampNeg m))), (vSi, .inl (cI, 4, .inl (upd (fun _ => 0) s.toNatClampNeg n))), (vIt, .inl (cI, 240, .inl (upd f9 ((60 * s) + (nI k)).toNatClampNeg 0)))] H := hP
              have hD : va_D A [(hm, .inr (11, [.ref vFo, .ref vSi, .ref vIt, .ref vMo, .int 0, .ref vBy, .ref vTy, .int 0, .ref vMi, .int 0, .ref vPs, .int 0, .ref vGs, .int 0, .ref vFt, .int 0, .ref vTo, .int 0, .int 0, .int 0, .int 16777215, .int 0, .int 0, .ref vPr, .ref vSt, .ref vFn, .int 0, .ref vSg, .ref vAl, .int 0])), (vFo, .inl (cI, 4, .inl (upd fFo s.toNatClampNeg m))), (vSi, .inl (cI, 4, .inl (upd (fun _ => 0) s.toNatClampNeg n))), (vIt, .inl (cI, 240, .inl (upd f9 ((60 * s) + (nI k)).toNatClampNeg 0)))] := hD
              refine lv_iinc (v := (nI k) + 1) (lv' := [(4, .int ((nI k) + 1)), (0, .ref hm), (1, .int s), (2, .int m), (3, .int n)]) hx₀ hb dX12_sheet_74 hl (k := 0) rfl rfl (by decide) rfl (fun ls hl => ?_)
              refine lv_goto (tgt := 55) hx₀ hb dX12_sheet_77 (by decide) ?_
              have hl : lv_has ls 5 [(4, .int (nI (k + 1))), (0, .ref hm), (1, .int s), (2, .int m), (3, .int n)] := by rw [← nI_1 k]; exact lv_sub hl [0, 1, 2, 3, 4] rfl
              have hkn : k < n.toInt.toNat := k_ltT (by omega) c_7
              exact ih (j - 1) (by omega) (k + 1) _ _ _ _ (by omega) hP hD hS hl
        · refine lv_aload_n hx₀ hb dX12_sheet_32 rfl (lv_at hl 0 rfl) ?_
          refine lv_iconst (v := 5) hx₀ hb dX12_sheet_33 (by decide +kernel) ?_
          have hPc := hP.sub (ws' := [(hm, .inr (11, [.ref vFo, .ref vSi, .ref vIt, .ref vMo, .int 0, .ref vBy, .ref vTy, .int 0, .ref vMi, .int 0, .ref vPs, .int 0, .ref vGs, .int 0, .ref vFt, .int 0, .ref vTo, .int 0, .int 0, .int 0, .int 16777215, .int 0, .int 0, .ref vPr, .ref vSt, .ref vFn, .int 0, .ref vSg, .ref vAl, .int 0]))]) [0] rfl
          have hDc := hD.sub (ws' := [(hm, .inr (11, [.ref vFo, .ref vSi, .ref vIt, .ref vMo, .int 0, .ref vBy, .ref vTy, .int 0, .ref vMi, .int 0, .ref vPs, .int 0, .ref vGs, .int 0, .ref vFt, .int 0, .ref vTo, .int 0, .int 0, .int 0, .int 16777215, .int 0, .int 0, .ref vPr, .ref vSt, .ref vFn, .int 0, .ref vSg, .ref vAl, .int 0]))]) [0] (by decide) rfl
          have hFc := va_free (wc := [(hm, .inr (11, [.ref vFo, .ref vSi, .ref vIt, .ref vMo, .int 0, .ref vBy, .ref vTy, .int 0, .ref vMi, .int 0, .ref vPs, .int 0, .ref vGs, .int 0, .ref vFt, .int 0, .ref vTo, .int 0, .int 0, .int 0, .int 16777215, .int 0, .int 0, .ref vPr, .ref vSt, .ref vFn, .int 0, .ref vSg, .ref vAl, .int 0]))]) hD hS hA [0] rfl
          refine va_calli (va_runV (As := [.int 5]) (rest := []) ⟨hx₀, hb, hml, hown, hts⟩ (m_finds5 l dC dI cI cJ cQ H.size hm vFo vSi vIt vMo vBy vTy vMi vPs vGs vFt vTo vPr vSt vFn vSg vAl) (cwV 1 hts (kGV wd_404 wd_401 wd_402 wd_403 wd_5) rfl rfl rfl (by decide +kernel) ⟨Nat.le_of_ble_eq_true rfl, Nat.le_of_ble_eq_true rfl⟩) (k_preV (ci := 11) (q0 := 0) hK hPc hDc hN rfl rfl) rfl rfl hl.1 rfl (lv_room (Nat.le_of_ble_eq_true rfl)) dX12_sheet_34 ⟨by decide +kernel, by decide +kernel⟩) hS (fun q _ h => hFc q h) hFc (fun r_8 u₀ t₀ H1 locs ht hvm hw hB hz1 hk1 hS => ?_)
          obtain ⟨hP1, hK1, hD1⟩ := hB
          rw [ht] at hP1
          obtain ⟨hP, hD⟩ := va_join (wr := [(vFo, .inl (cI, 4, .inl fFo)), (vSi, .inl (cI, 4, .inl (fun _ => 0))), (vIt, .inl (cI, 240, .inl (fun _ => 0)))]) (w1 := [(hm, .inr (11, [.ref vFo, .ref vSi, .ref vIt, .ref vMo, .int 5, .ref vBy, .ref vTy, .int 0, .ref vMi, .int 0, .ref vPs, .int 0, .ref vGs, .int 0, .ref vFt, .int 0, .ref vTo, .int 0, .int 0, .int 0, .int 16777215, .int 0, .int 0, .ref vPr, .ref vSt, .ref vFn, .int 0, .ref vSg, .ref vAl, .int 0]))]) hP hD [0] [1, 2, 3] rfl rfl (by decide) (by decide) hk1 hFc hP1 hD1
          generalize H1 = H at hP hS ⊢
          have hP : va_P (dC, dI) vwCl [(vFo, .inl (cI, 4, .inl fFo)), (vSi, .inl (cI, 4, .inl (fun _ => 0))), (vIt, .inl (cI, 240, .inl (fun _ => 0))), (hm, .inr (11, [.ref vFo, .ref vSi, .ref vIt, .ref vMo, .int 5, .ref vBy, .ref vTy, .int 0, .ref vMi, .int 0, .ref vPs, .int 0, .ref vGs, .int 0, .ref vFt, .int 0, .ref vTo, .int 0, .int 0, .int 0, .int 16777215, .int 0, .int 0, .ref vPr, .ref vSt, .ref vFn, .int 0, .ref vSg, .ref vAl, .int 0]))] H := hP
          have hD : va_D A [(vFo, .inl (cI, 4, .inl fFo)), (vSi, .inl (cI, 4, .inl (fun _ => 0))), (vIt, .inl (cI, 240, .inl (fun _ => 0))), (hm, .inr (11, [.ref vFo, .ref vSi, .ref vIt, .ref vMo, .int 5, .ref vBy, .ref vTy, .int 0, .ref vMi, .int 0, .ref vPs, .int 0, .ref vGs, .int 0, .ref vFt, .int 0, .ref vTo, .int 0, .int 0, .int 0, .int 16777215, .int 0, .int 0, .ref vPr, .ref vSt, .ref vFn, .int 0, .ref vSg, .ref vAl, .int 0]))] := hD
          try dsimp only at hw
          refine k_topi (v := (-15)) hw ?_
          exact W.iret (v := (-15)) hx₀ hb hr (fun t₀ ht hW => ⟨⟨(-15), (), rfl, (lf_m_sheet_2 s m n c_2 c_4 c_5 c_6), trivial⟩, hS.F ht⟩) hS.2.2 dX12_sheet_37
      · refine lv_bipush (v := (-2)) hx₀ hb dX12_sheet_25 (by decide +kernel) ?_
        exact W.iret (v := (-2)) hx₀ hb hr (fun t₀ ht hW => ⟨⟨(-2), (), rfl, (lf_m_sheet_3 s m n c_2 c_4 c_5), trivial⟩, hS.F ht⟩) hS.2.2 dX12_sheet_27
    rw [if_neg c_4] at hw
    refine k_topi (v := 0) hw ?_
    refine lv_if_eq (tgt := 25) hx₀ hb dX12_sheet_16 (by decide) (fun _ => ?_) (fun c9 => absurd (by decide +kernel) c9)
    refine lv_bipush (v := (-2)) hx₀ hb dX12_sheet_25 (by decide +kernel) ?_
    exact W.iret (v := (-2)) hx₀ hb hr (fun t₀ ht hW => ⟨⟨(-2), (), rfl, (lf_m_sheet_4 s m n c_2 c_4), trivial⟩, hS.F ht⟩) hS.2.2 dX12_sheet_27
  rw [if_neg c_2] at hw
  refine k_topi (v := 0) hw ?_
  refine lv_if_eq (tgt := 25) hx₀ hb dX12_sheet_4 (by decide) (fun _ => ?_) (fun c9 => absurd (by decide +kernel) c9)
  refine lv_bipush (v := (-2)) hx₀ hb dX12_sheet_25 (by decide +kernel) ?_
  exact W.iret (v := (-2)) hx₀ hb hr (fun t₀ ht hW => ⟨⟨(-2), (), rfl, (lf_m_sheet_5 s m n c_2), trivial⟩, hS.F ht⟩) hS.2.2 dX12_sheet_27
theorem lf_m_digest_1  (c9 : ¬ (0 ≤ (0 : Int32) ∧ (0 : Int32) ≤ 8)) : False := by
  (first | omega | (simp only [Int64.le_iff_toInt_le, Int64.lt_iff_toInt_lt, Int32.le_iff_toInt_le, Int32.lt_iff_toInt_lt, ← Int32.toInt_inj, ← Int64.toInt_inj, Int32.toInt_toInt64, (show (0 : Int32).toInt = 0 from by decide), (show (0 : Int64).toInt = 0 from by decide), (show (8 : Int32).toInt = 8 from by decide), (show (8 : Int64).toInt = 8 from by decide)] at *; omega))
theorem lf_m_digest_2  (c9 : ¬ (0 ≤ (1 : Int32) ∧ (1 : Int32) ≤ 8)) : False := by
  (first | omega | (simp only [Int64.le_iff_toInt_le, Int64.lt_iff_toInt_lt, Int32.le_iff_toInt_le, Int32.lt_iff_toInt_lt, ← Int32.toInt_inj, ← Int64.toInt_inj, Int32.toInt_toInt64, (show (0 : Int32).toInt = 0 from by decide), (show (0 : Int64).toInt = 0 from by decide), (show (1 : Int32).toInt = 1 from by decide), (show (1 : Int64).toInt = 1 from by decide), (show (8 : Int32).toInt = 8 from by decide), (show (8 : Int64).toInt = 8 from by decide)] at *; omega))
theorem lf_m_digest_3  (c9 : ¬ (0 ≤ (2 : Int32) ∧ (2 : Int32) ≤ 8)) : False := by
  (first | omega | (simp only [Int64.le_iff_toInt_le, Int64.lt_iff_toInt_lt, Int32.le_iff_toInt_le, Int32.lt_iff_toInt_lt, ← Int32.toInt_inj, ← Int64.toInt_inj, Int32.toInt_toInt64, (show (0 : Int32).toInt = 0 from by decide), (show (0 : Int64).toInt = 0 from by decide), (show (2 : Int32).toInt = 2 from by decide), (show (2 : Int64).toInt = 2 from by decide), (show (8 : Int32).toInt = 8 from by decide), (show (8 : Int64).toInt = 8 from by decide)] at *; omega))
theorem lf_m_digest_4  (c9 : ¬ (0 ≤ (3 : Int32) ∧ (3 : Int32) ≤ 8)) : False := by
  (first | omega | (simp only [Int64.le_iff_toInt_le, Int64.lt_iff_toInt_lt, Int32.le_iff_toInt_le, Int32.lt_iff_toInt_lt, ← Int32.toInt_inj, ← Int64.toInt_inj, Int32.toInt_toInt64, (show (0 : Int32).toInt = 0 from by decide), (show (0 : Int64).toInt = 0 from by decide), (show (3 : Int32).toInt = 3 from by decide), (show (3 : Int64).toInt = 3 from by decide), (show (8 : Int32).toInt = 8 from by decide), (show (8 : Int64).toInt = 8 from by decide)] at *; omega))
theorem lf_m_digest_5  (c9 : ¬ (0 ≤ (4 : Int32) ∧ (4 : Int32) ≤ 8)) : False := by
  (first | omega | (simp only [Int64.le_iff_toInt_le, Int64.lt_iff_toInt_lt, Int32.le_iff_toInt_le, Int32.lt_iff_toInt_lt, ← Int32.toInt_inj, ← Int64.toInt_inj, Int32.toInt_toInt64, (show (0 : Int32).toInt = 0 from by decide), (show (0 : Int64).toInt = 0 from by decide), (show (4 : Int32).toInt = 4 from by decide), (show (4 : Int64).toInt = 4 from by decide), (show (8 : Int32).toInt = 8 from by decide), (show (8 : Int64).toInt = 8 from by decide)] at *; omega))
theorem lf_m_digest_6  (c9 : ¬ (0 ≤ (5 : Int32) ∧ (5 : Int32) ≤ 8)) : False := by
  (first | omega | (simp only [Int64.le_iff_toInt_le, Int64.lt_iff_toInt_lt, Int32.le_iff_toInt_le, Int32.lt_iff_toInt_lt, ← Int32.toInt_inj, ← Int64.toInt_inj, Int32.toInt_toInt64, (show (0 : Int32).toInt = 0 from by decide), (show (0 : Int64).toInt = 0 from by decide), (show (5 : Int32).toInt = 5 from by decide), (show (5 : Int64).toInt = 5 from by decide), (show (8 : Int32).toInt = 8 from by decide), (show (8 : Int64).toInt = 8 from by decide)] at *; omega))
theorem lf_m_digest_7  (c9 : ¬ (0 ≤ (6 : Int32) ∧ (6 : Int32) ≤ 8)) : False := by
  (first | omega | (simp only [Int64.le_iff_toInt_le, Int64.lt_iff_toInt_lt, Int32.le_iff_toInt_le, Int32.lt_iff_toInt_lt, ← Int32.toInt_inj, ← Int64.toInt_inj, Int32.toInt_toInt64, (show (0 : Int32).toInt = 0 from by decide), (show (0 : Int64).toInt = 0 from by decide), (show (6 : Int32).toInt = 6 from by decide), (show (6 : Int64).toInt = 6 from by decide), (show (8 : Int32).toInt = 8 from by decide), (show (8 : Int64).toInt = 8 from by decide)] at *; omega))
theorem lf_m_digest_8  (c9 : ¬ (0 ≤ (7 : Int32) ∧ (7 : Int32) ≤ 8)) : False := by
  (first | omega | (simp only [Int64.le_iff_toInt_le, Int64.lt_iff_toInt_lt, Int32.le_iff_toInt_le, Int32.lt_iff_toInt_lt, ← Int32.toInt_inj, ← Int64.toInt_inj, Int32.toInt_toInt64, (show (0 : Int32).toInt = 0 from by decide), (show (0 : Int64).toInt = 0 from by decide), (show (7 : Int32).toInt = 7 from by decide), (show (7 : Int64).toInt = 7 from by decide), (show (8 : Int32).toInt = 8 from by decide), (show (8 : Int64).toInt = 8 from by decide)] at *; omega))
set_option maxHeartbeats 4000000 in
set_option maxRecDepth 100000 in
theorem m_digest (l : Launch) (dC : Nat → ClassId) (dI : Nat → Nat → Nat) (cI cJ cQ : ClassId) (sz : Nat) (hm : Nat) (vFo : Nat) (vSi : Nat) (vIt : Nat) (vMo : Nat) (vBy : Nat) (vTy : Nat) (vMi : Nat) (vPs : Nat) (vGs : Nat) (vFt : Nat) (vTo : Nat) (vPr : Nat) (vSt : Nat) (vFn : Nat) (vSg : Nat) (vAl : Nat) : Met l yX12_digest (kW yX12_digest cX12_digest 5 (some .long)) { frames := 3, cells := 0, slots := 0, locals := 65 } (kPre dC dI cI cJ cQ sz [.ref hm] [(hm, .inr (11, [.ref vFo, .ref vSi, .ref vIt, .ref vMo, .int 0, .ref vBy, .ref vTy, .int 0, .ref vMi, .int 0, .ref vPs, .int 0, .ref vGs, .int 0, .ref vFt, .int 0, .ref vTo, .int 0, .int 0, .int 0, .int 16777215, .int 0, .int 0, .ref vPr, .ref vSt, .ref vFn, .int 0, .ref vSg, .ref vAl, .int 0])), (vTy, .inl (cI, 3, .inl (fun _ => 0)))]) (va_Ql (fun (r : Int64) (_ : Unit) => r = (-7780464695759165935)) (fun _ _ => True) (va_A [(hm, .inr (11, [.ref vFo, .ref vSi, .ref vIt, .ref vMo, .int 0, .ref vBy, .ref vTy, .int 0, .ref vMi, .int 0, .ref vPs, .int 0, .ref vGs, .int 0, .ref vFt, .int 0, .ref vTo, .int 0, .int 0, .int 0, .int 16777215, .int 0, .int 0, .ref vPr, .ref vSt, .ref vFn, .int 0, .ref vSg, .ref vAl, .int 0])), (vTy, .inl (cI, 3, .inl (fun _ => 0)))] sz)) 0 0 (va_A [(hm, .inr (11, [.ref vFo, .ref vSi, .ref vIt, .ref vMo, .int 0, .ref vBy, .ref vTy, .int 0, .ref vMi, .int 0, .ref vPs, .int 0, .ref vGs, .int 0, .ref vFt, .int 0, .ref vTo, .int 0, .int 0, .int 0, .int 16777215, .int 0, .int 0, .ref vPr, .ref vSt, .ref vFn, .int 0, .ref vSg, .ref vAl, .int 0])), (vTy, .inl (cI, 3, .inl (fun _ => 0)))] sz) := by
  refine Met.ofW (cc := cX12_digest) (maxL := 5) (ret := (some .long)) (by decide) rfl ?_
  intro p₀ e₀ s₀ m₀ args below meth c₀ s₁ B hml hv₀
  obtain ⟨rfl, hsz, hP, hK, hD0, hN⟩ := hv₀
  have hx₀ := B.exec
  have hb := B.bytes
  have hr := B.returns
  have hts := atoms_spec (ws := (kW yX12_digest cX12_digest 5 (some .long))) B.pre
  have hts := fun w h => hts w (List.mem_cons_of_mem _ h)
  have hown : s₀.vm.findClass RX12 = some m₀.cls := findClass_of_methodNamed B.named
  have hlocks := B.notSynchronized
  subst hsz
  have hD := hD0.self (sz := s₀.heap.size)
  generalize hAe : va_A [(hm, .inr (11, [.ref vFo, .ref vSi, .ref vIt, .ref vMo, .int 0, .ref vBy, .ref vTy, .int 0, .ref vMi, .int 0, .ref vPs, .int 0, .ref vGs, .int 0, .ref vFt, .int 0, .ref vTo, .int 0, .int 0, .int 0, .int 16777215, .int 0, .int 0, .ref vPr, .ref vSt, .ref vFn, .int 0, .ref vSg, .ref vAl, .int 0])), (vTy, .inl (cI, 3, .inl (fun _ => 0)))] s₀.heap.size = A at hD ⊢
  have hA : ∀ q : Nat, s₀.heap.size ≤ q → A q := fun q h => by rw [← hAe]; exact Or.inr h
  have hS : va_S A s₀.heap s₀.heap [] := va_S.rf
  have hP : va_P (dC, dI) vwCl [(hm, .inr (11, [.ref vFo, .ref vSi, .ref vIt, .ref vMo, .int 0, .ref vBy, .ref vTy, .int 0, .ref vMi, .int 0, .ref vPs, .int 0, .ref vGs, .int 0, .ref vFt, .int 0, .ref vTo, .int 0, .int 0, .int 0, .int 16777215, .int 0, .int 0, .ref vPr, .ref vSt, .ref vFn, .int 0, .ref vSg, .ref vAl, .int 0])), (vTy, .inl (cI, 3, .inl (fun _ => 0)))] s₀.heap := hP
  have hl := lv_entry ([.ref hm]) (n := 5) (Nat.le_of_ble_eq_true rfl)
  rw [lg_entry_eq]
  generalize (lg_sl ([.ref hm]) ++ List.replicate (5 - (lg_sl ([.ref hm])).length) Slot.unset).toArray = ls at hl ⊢
  have hl : lv_has ls 5 [(0, .ref hm)] := hl
  obtain ⟨H, hH⟩ : ∃ z : Heap, z = s₀.heap := ⟨_, rfl⟩
  rw [← hH] at hP
  have hS : va_S A s₀.heap H [] := by rw [hH]; exact hS
  refine k_heap hH ?_
  have hD : va_D A [(hm, .inr (11, [.ref vFo, .ref vSi, .ref vIt, .ref vMo, .int 0, .ref vBy, .ref vTy, .int 0, .ref vMi, .int 0, .ref vPs, .int 0, .ref vGs, .int 0, .ref vFt, .int 0, .ref vTo, .int 0, .int 0, .int 0, .int 16777215, .int 0, .int 0, .ref vPr, .ref vSt, .ref vFn, .int 0, .ref vSg, .ref vAl, .int 0])), (vTy, .inl (cI, 3, .inl (fun _ => 0)))] := hD
  obtain ⟨locs, hlo⟩ : ∃ z : List Loc, z = [] := ⟨_, rfl⟩
  rw [← hlo] at hS ⊢
  clear hlo hH hAe hD0
  refine lv_ldc2 (v := 17) hx₀ hb hown (hts (.constantLong RX12 303 (17)) wd_990) dX12_digest_0 ?_
  refine lv_lstore_n (lv' := [(1, .long 17), (0, .ref hm)]) hx₀ hb dX12_digest_3 rfl hl (by decide) rfl (fun ls hl => ?_)
  refine lv_iconst (v := 0) hx₀ hb dX12_digest_4 (by decide +kernel) ?_
  refine lv_istore_n (lv' := [(3, .int 0), (1, .long 17), (0, .ref hm)]) hx₀ hb dX12_digest_5 rfl hl (by decide) rfl (fun ls hl => ?_)
  refine lv_iload_n hx₀ hb dX12_digest_6 rfl (lv_at hl 0 rfl) ?_
  refine lv_bipush (v := 8) hx₀ hb dX12_digest_7 (by decide +kernel) ?_
  refine lv_icmp_ge (tgt := 31) hx₀ hb dX12_digest_9 (by decide) (fun c9 => absurd c9 (by decide +kernel)) (fun _ => ?_)
  refine lv_ldc2 (v := 31) hx₀ hb hown (hts (.constantLong RX12 294 (31)) wd_991) dX12_digest_12 ?_
  refine lv_lload_n hx₀ hb dX12_digest_15 rfl (lv_at hl 1 rfl) ?_
  refine lv_lmul hx₀ hb dX12_digest_16 ?_
  refine k_topl (v := 527) (by decide +kernel) ?_
  refine lv_aload_n hx₀ hb dX12_digest_17 rfl (lv_at hl 2 rfl) ?_
  refine lv_iload_n hx₀ hb dX12_digest_18 rfl (lv_at hl 0 rfl) ?_
  have hPc := hP.sub (ws' := [(hm, .inr (11, [.ref vFo, .ref vSi, .ref vIt, .ref vMo, .int 0, .ref vBy, .ref vTy, .int 0, .ref vMi, .int 0, .ref vPs, .int 0, .ref vGs, .int 0, .ref vFt, .int 0, .ref vTo, .int 0, .int 0, .int 0, .int 16777215, .int 0, .int 0, .ref vPr, .ref vSt, .ref vFn, .int 0, .ref vSg, .ref vAl, .int 0])), (vTy, .inl (cI, 3, .inl (fun _ => 0)))]) [0, 1] rfl
  have hDc := hD.sub (ws' := [(hm, .inr (11, [.ref vFo, .ref vSi, .ref vIt, .ref vMo, .int 0, .ref vBy, .ref vTy, .int 0, .ref vMi, .int 0, .ref vPs, .int 0, .ref vGs, .int 0, .ref vFt, .int 0, .ref vTo, .int 0, .int 0, .int 0, .int 16777215, .int 0, .int 0, .ref vPr, .ref vSt, .ref vFn, .int 0, .ref vSg, .ref vAl, .int 0])), (vTy, .inl (cI, 3, .inl (fun _ => 0)))]) [0, 1] (by decide) rfl
  have hFc := va_free (wc := [(hm, .inr (11, [.ref vFo, .ref vSi, .ref vIt, .ref vMo, .int 0, .ref vBy, .ref vTy, .int 0, .ref vMi, .int 0, .ref vPs, .int 0, .ref vGs, .int 0, .ref vFt, .int 0, .ref vTo, .int 0, .int 0, .int 0, .int 16777215, .int 0, .int 0, .ref vPr, .ref vSt, .ref vFn, .int 0, .ref vSg, .ref vAl, .int 0])), (vTy, .inl (cI, 3, .inl (fun _ => 0)))]) hD hS hA [0, 1] rfl
  refine va_calli (va_runV (As := [.int 0]) (rest := [.long 527]) ⟨hx₀, hb, hml, hown, hts⟩ (m_count l dC dI cI cJ cQ H.size hm 0 vFo vSi vIt vMo vBy vTy vMi vPs vGs vFt vTo vPr vSt vFn vSg vAl) (cwV 1 hts (kGV wd_960 wd_992 wd_958 wd_959 wd_5) rfl rfl rfl (by decide +kernel) ⟨Nat.le_of_ble_eq_true rfl, Nat.le_of_ble_eq_true rfl⟩) (k_preV (ci := 11) (q0 := 0) hK hPc hDc hN rfl rfl) rfl rfl hl.1 rfl (lv_room (Nat.le_of_ble_eq_true rfl)) dX12_digest_19 ⟨by decide +kernel, by decide +kernel⟩) hS (fun q _ h => hFc q h) hFc (fun r_1 u₀ t₀ H1 locs ht hvm hw hB hz1 hk1 hS => ?_)
  obtain ⟨hP1, hK1, hD1⟩ := hB
  rw [ht] at hP1
  obtain ⟨hP, hD⟩ := va_join (wr := []) (w1 := [(hm, .inr (11, [.ref vFo, .ref vSi, .ref vIt, .ref vMo, .int 0, .ref vBy, .ref vTy, .int 0, .ref vMi, .int 0, .ref vPs, .int 0, .ref vGs, .int 0, .ref vFt, .int 0, .ref vTo, .int 0, .int 0, .int 0, .int 16777215, .int 0, .int 0, .ref vPr, .ref vSt, .ref vFn, .int 0, .ref vSg, .ref vAl, .int 0])), (vTy, .inl (cI, 3, .inl (fun _ => 0)))]) hP hD [0, 1] [] rfl rfl (by decide) (by decide) hk1 hFc hP1 hD1
  generalize H1 = H at hP hS ⊢
  have hP : va_P (dC, dI) vwCl [(hm, .inr (11, [.ref vFo, .ref vSi, .ref vIt, .ref vMo, .int 0, .ref vBy, .ref vTy, .int 0, .ref vMi, .int 0, .ref vPs, .int 0, .ref vGs, .int 0, .ref vFt, .int 0, .ref vTo, .int 0, .int 0, .int 0, .int 16777215, .int 0, .int 0, .ref vPr, .ref vSt, .ref vFn, .int 0, .ref vSg, .ref vAl, .int 0])), (vTy, .inl (cI, 3, .inl (fun _ => 0)))] H := hP
  have hD : va_D A [(hm, .inr (11, [.ref vFo, .ref vSi, .ref vIt, .ref vMo, .int 0, .ref vBy, .ref vTy, .int 0, .ref vMi, .int 0, .ref vPs, .int 0, .ref vGs, .int 0, .ref vFt, .int 0, .ref vTo, .int 0, .int 0, .int 0, .int 16777215, .int 0, .int 0, .ref vPr, .ref vSt, .ref vFn, .int 0, .ref vSg, .ref vAl, .int 0])), (vTy, .inl (cI, 3, .inl (fun _ => 0)))] := hD
  try dsimp only at hw
  rw [if_pos (Classical.byContradiction (fun c9 => lf_m_digest_1  c9))] at hw
  refine k_topi (v := 0) hw ?_
  refine lv_i2l (v := 0) hx₀ hb dX12_digest_22 (by decide +kernel) ?_
  refine lv_ladd hx₀ hb dX12_digest_23 ?_
  refine k_topl (v := 527) (by decide +kernel) ?_
  refine lv_lstore_n (lv' := [(1, .long 527), (3, .int 0), (0, .ref hm)]) hx₀ hb dX12_digest_24 rfl hl (by decide) rfl (fun ls hl => ?_)
  refine lv_iinc (v := 1) (lv' := [(3, .int 1), (1, .long 527), (0, .ref hm)]) hx₀ hb dX12_digest_25 hl (k := 1) rfl (by decide +kernel) (by decide) rfl (fun ls hl => ?_)
  refine lv_goto (tgt := 6) hx₀ hb dX12_digest_28 (by decide) ?_
  refine lv_iload_n hx₀ hb dX12_digest_6 rfl (lv_at hl 0 rfl) ?_
  refine lv_bipush (v := 8) hx₀ hb dX12_digest_7 (by decide +kernel) ?_
  refine lv_icmp_ge (tgt := 31) hx₀ hb dX12_digest_9 (by decide) (fun c9 => absurd c9 (by decide +kernel)) (fun _ => ?_)
  refine lv_ldc2 (v := 31) hx₀ hb hown (hts (.constantLong RX12 294 (31)) wd_991) dX12_digest_12 ?_
  refine lv_lload_n hx₀ hb dX12_digest_15 rfl (lv_at hl 1 rfl) ?_
  refine lv_lmul hx₀ hb dX12_digest_16 ?_
  refine k_topl (v := 16337) (by decide +kernel) ?_
  refine lv_aload_n hx₀ hb dX12_digest_17 rfl (lv_at hl 2 rfl) ?_
  refine lv_iload_n hx₀ hb dX12_digest_18 rfl (lv_at hl 0 rfl) ?_
  have hPc := hP.sub (ws' := [(hm, .inr (11, [.ref vFo, .ref vSi, .ref vIt, .ref vMo, .int 0, .ref vBy, .ref vTy, .int 0, .ref vMi, .int 0, .ref vPs, .int 0, .ref vGs, .int 0, .ref vFt, .int 0, .ref vTo, .int 0, .int 0, .int 0, .int 16777215, .int 0, .int 0, .ref vPr, .ref vSt, .ref vFn, .int 0, .ref vSg, .ref vAl, .int 0])), (vTy, .inl (cI, 3, .inl (fun _ => 0)))]) [0, 1] rfl
  have hDc := hD.sub (ws' := [(hm, .inr (11, [.ref vFo, .ref vSi, .ref vIt, .ref vMo, .int 0, .ref vBy, .ref vTy, .int 0, .ref vMi, .int 0, .ref vPs, .int 0, .ref vGs, .int 0, .ref vFt, .int 0, .ref vTo, .int 0, .int 0, .int 0, .int 16777215, .int 0, .int 0, .ref vPr, .ref vSt, .ref vFn, .int 0, .ref vSg, .ref vAl, .int 0])), (vTy, .inl (cI, 3, .inl (fun _ => 0)))]) [0, 1] (by decide) rfl
  have hFc := va_free (wc := [(hm, .inr (11, [.ref vFo, .ref vSi, .ref vIt, .ref vMo, .int 0, .ref vBy, .ref vTy, .int 0, .ref vMi, .int 0, .ref vPs, .int 0, .ref vGs, .int 0, .ref vFt, .int 0, .ref vTo, .int 0, .int 0, .int 0, .int 16777215, .int 0, .int 0, .ref vPr, .ref vSt, .ref vFn, .int 0, .ref vSg, .ref vAl, .int 0])), (vTy, .inl (cI, 3, .inl (fun _ => 0)))]) hD hS hA [0, 1] rfl
  refine va_calli (va_runV (As := [.int 1]) (rest := [.long 16337]) ⟨hx₀, hb, hml, hown, hts⟩ (m_count l dC dI cI cJ cQ H.size hm 1 vFo vSi vIt vMo vBy vTy vMi vPs vGs vFt vTo vPr vSt vFn vSg vAl) (cwV 1 hts (kGV wd_960 wd_992 wd_958 wd_959 wd_5) rfl rfl rfl (by decide +kernel) ⟨Nat.le_of_ble_eq_true rfl, Nat.le_of_ble_eq_true rfl⟩) (k_preV (ci := 11) (q0 := 0) hK hPc hDc hN rfl rfl) rfl rfl hl.1 rfl (lv_room (Nat.le_of_ble_eq_true rfl)) dX12_digest_19 ⟨by decide +kernel, by decide +kernel⟩) hS (fun q _ h => hFc q h) hFc (fun r_3 u₀ t₀ H1 locs ht hvm hw hB hz1 hk1 hS => ?_)
  obtain ⟨hP1, hK1, hD1⟩ := hB
  rw [ht] at hP1
  obtain ⟨hP, hD⟩ := va_join (wr := []) (w1 := [(hm, .inr (11, [.ref vFo, .ref vSi, .ref vIt, .ref vMo, .int 0, .ref vBy, .ref vTy, .int 0, .ref vMi, .int 0, .ref vPs, .int 0, .ref vGs, .int 0, .ref vFt, .int 0, .ref vTo, .int 0, .int 0, .int 0, .int 16777215, .int 0, .int 0, .ref vPr, .ref vSt, .ref vFn, .int 0, .ref vSg, .ref vAl, .int 0])), (vTy, .inl (cI, 3, .inl (fun _ => 0)))]) hP hD [0, 1] [] rfl rfl (by decide) (by decide) hk1 hFc hP1 hD1
  generalize H1 = H at hP hS ⊢
  have hP : va_P (dC, dI) vwCl [(hm, .inr (11, [.ref vFo, .ref vSi, .ref vIt, .ref vMo, .int 0, .ref vBy, .ref vTy, .int 0, .ref vMi, .int 0, .ref vPs, .int 0, .ref vGs, .int 0, .ref vFt, .int 0, .ref vTo, .int 0, .int 0, .int 0, .int 16777215, .int 0, .int 0, .ref vPr, .ref vSt, .ref vFn, .int 0, .ref vSg, .ref vAl, .int 0])), (vTy, .inl (cI, 3, .inl (fun _ => 0)))] H := hP
  have hD : va_D A [(hm, .inr (11, [.ref vFo, .ref vSi, .ref vIt, .ref vMo, .int 0, .ref vBy, .ref vTy, .int 0, .ref vMi, .int 0, .ref vPs, .int 0, .ref vGs, .int 0, .ref vFt, .int 0, .ref vTo, .int 0, .int 0, .int 0, .int 16777215, .int 0, .int 0, .ref vPr, .ref vSt, .ref vFn, .int 0, .ref vSg, .ref vAl, .int 0])), (vTy, .inl (cI, 3, .inl (fun _ => 0)))] := hD
  try dsimp only at hw
  rw [if_pos (Classical.byContradiction (fun c9 => lf_m_digest_2  c9))] at hw
  refine k_topi (v := 0) hw ?_
  refine lv_i2l (v := 0) hx₀ hb dX12_digest_22 (by decide +kernel) ?_
  refine lv_ladd hx₀ hb dX12_digest_23 ?_
  refine k_topl (v := 16337) (by decide +kernel) ?_
  refine lv_lstore_n (lv' := [(1, .long 16337), (3, .int 1), (0, .ref hm)]) hx₀ hb dX12_digest_24 rfl hl (by decide) rfl (fun ls hl => ?_)
  refine lv_iinc (v := 2) (lv' := [(3, .int 2), (1, .long 16337), (0, .ref hm)]) hx₀ hb dX12_digest_25 hl (k := 1) rfl (by decide +kernel) (by decide) rfl (fun ls hl => ?_)
  refine lv_goto (tgt := 6) hx₀ hb dX12_digest_28 (by decide) ?_
  refine lv_iload_n hx₀ hb dX12_digest_6 rfl (lv_at hl 0 rfl) ?_
  refine lv_bipush (v := 8) hx₀ hb dX12_digest_7 (by decide +kernel) ?_
  refine lv_icmp_ge (tgt := 31) hx₀ hb dX12_digest_9 (by decide) (fun c9 => absurd c9 (by decide +kernel)) (fun _ => ?_)
  refine lv_ldc2 (v := 31) hx₀ hb hown (hts (.constantLong RX12 294 (31)) wd_991) dX12_digest_12 ?_
  refine lv_lload_n hx₀ hb dX12_digest_15 rfl (lv_at hl 1 rfl) ?_
  refine lv_lmul hx₀ hb dX12_digest_16 ?_
  refine k_topl (v := 506447) (by decide +kernel) ?_
  refine lv_aload_n hx₀ hb dX12_digest_17 rfl (lv_at hl 2 rfl) ?_
  refine lv_iload_n hx₀ hb dX12_digest_18 rfl (lv_at hl 0 rfl) ?_
  have hPc := hP.sub (ws' := [(hm, .inr (11, [.ref vFo, .ref vSi, .ref vIt, .ref vMo, .int 0, .ref vBy, .ref vTy, .int 0, .ref vMi, .int 0, .ref vPs, .int 0, .ref vGs, .int 0, .ref vFt, .int 0, .ref vTo, .int 0, .int 0, .int 0, .int 16777215, .int 0, .int 0, .ref vPr, .ref vSt, .ref vFn, .int 0, .ref vSg, .ref vAl, .int 0])), (vTy, .inl (cI, 3, .inl (fun _ => 0)))]) [0, 1] rfl
  have hDc := hD.sub (ws' := [(hm, .inr (11, [.ref vFo, .ref vSi, .ref vIt, .ref vMo, .int 0, .ref vBy, .ref vTy, .int 0, .ref vMi, .int 0, .ref vPs, .int 0, .ref vGs, .int 0, .ref vFt, .int 0, .ref vTo, .int 0, .int 0, .int 0, .int 16777215, .int 0, .int 0, .ref vPr, .ref vSt, .ref vFn, .int 0, .ref vSg, .ref vAl, .int 0])), (vTy, .inl (cI, 3, .inl (fun _ => 0)))]) [0, 1] (by decide) rfl
  have hFc := va_free (wc := [(hm, .inr (11, [.ref vFo, .ref vSi, .ref vIt, .ref vMo, .int 0, .ref vBy, .ref vTy, .int 0, .ref vMi, .int 0, .ref vPs, .int 0, .ref vGs, .int 0, .ref vFt, .int 0, .ref vTo, .int 0, .int 0, .int 0, .int 16777215, .int 0, .int 0, .ref vPr, .ref vSt, .ref vFn, .int 0, .ref vSg, .ref vAl, .int 0])), (vTy, .inl (cI, 3, .inl (fun _ => 0)))]) hD hS hA [0, 1] rfl
  refine va_calli (va_runV (As := [.int 2]) (rest := [.long 506447]) ⟨hx₀, hb, hml, hown, hts⟩ (m_count l dC dI cI cJ cQ H.size hm 2 vFo vSi vIt vMo vBy vTy vMi vPs vGs vFt vTo vPr vSt vFn vSg vAl) (cwV 1 hts (kGV wd_960 wd_992 wd_958 wd_959 wd_5) rfl rfl rfl (by decide +kernel) ⟨Nat.le_of_ble_eq_true rfl, Nat.le_of_ble_eq_true rfl⟩) (k_preV (ci := 11) (q0 := 0) hK hPc hDc hN rfl rfl) rfl rfl hl.1 rfl (lv_room (Nat.le_of_ble_eq_true rfl)) dX12_digest_19 ⟨by decide +kernel, by decide +kernel⟩) hS (fun q _ h => hFc q h) hFc (fun r_5 u₀ t₀ H1 locs ht hvm hw hB hz1 hk1 hS => ?_)
  obtain ⟨hP1, hK1, hD1⟩ := hB
  rw [ht] at hP1
  obtain ⟨hP, hD⟩ := va_join (wr := []) (w1 := [(hm, .inr (11, [.ref vFo, .ref vSi, .ref vIt, .ref vMo, .int 0, .ref vBy, .ref vTy, .int 0, .ref vMi, .int 0, .ref vPs, .int 0, .ref vGs, .int 0, .ref vFt, .int 0, .ref vTo, .int 0, .int 0, .int 0, .int 16777215, .int 0, .int 0, .ref vPr, .ref vSt, .ref vFn, .int 0, .ref vSg, .ref vAl, .int 0])), (vTy, .inl (cI, 3, .inl (fun _ => 0)))]) hP hD [0, 1] [] rfl rfl (by decide) (by decide) hk1 hFc hP1 hD1
  generalize H1 = H at hP hS ⊢
  have hP : va_P (dC, dI) vwCl [(hm, .inr (11, [.ref vFo, .ref vSi, .ref vIt, .ref vMo, .int 0, .ref vBy, .ref vTy, .int 0, .ref vMi, .int 0, .ref vPs, .int 0, .ref vGs, .int 0, .ref vFt, .int 0, .ref vTo, .int 0, .int 0, .int 0, .int 16777215, .int 0, .int 0, .ref vPr, .ref vSt, .ref vFn, .int 0, .ref vSg, .ref vAl, .int 0])), (vTy, .inl (cI, 3, .inl (fun _ => 0)))] H := hP
  have hD : va_D A [(hm, .inr (11, [.ref vFo, .ref vSi, .ref vIt, .ref vMo, .int 0, .ref vBy, .ref vTy, .int 0, .ref vMi, .int 0, .ref vPs, .int 0, .ref vGs, .int 0, .ref vFt, .int 0, .ref vTo, .int 0, .int 0, .int 0, .int 16777215, .int 0, .int 0, .ref vPr, .ref vSt, .ref vFn, .int 0, .ref vSg, .ref vAl, .int 0])), (vTy, .inl (cI, 3, .inl (fun _ => 0)))] := hD
  try dsimp only at hw
  rw [if_pos (Classical.byContradiction (fun c9 => lf_m_digest_3  c9))] at hw
  refine k_topi (v := 0) hw ?_
  refine lv_i2l (v := 0) hx₀ hb dX12_digest_22 (by decide +kernel) ?_
  refine lv_ladd hx₀ hb dX12_digest_23 ?_
  refine k_topl (v := 506447) (by decide +kernel) ?_
  refine lv_lstore_n (lv' := [(1, .long 506447), (3, .int 2), (0, .ref hm)]) hx₀ hb dX12_digest_24 rfl hl (by decide) rfl (fun ls hl => ?_)
  refine lv_iinc (v := 3) (lv' := [(3, .int 3), (1, .long 506447), (0, .ref hm)]) hx₀ hb dX12_digest_25 hl (k := 1) rfl (by decide +kernel) (by decide) rfl (fun ls hl => ?_)
  refine lv_goto (tgt := 6) hx₀ hb dX12_digest_28 (by decide) ?_
  refine lv_iload_n hx₀ hb dX12_digest_6 rfl (lv_at hl 0 rfl) ?_
  refine lv_bipush (v := 8) hx₀ hb dX12_digest_7 (by decide +kernel) ?_
  refine lv_icmp_ge (tgt := 31) hx₀ hb dX12_digest_9 (by decide) (fun c9 => absurd c9 (by decide +kernel)) (fun _ => ?_)
  refine lv_ldc2 (v := 31) hx₀ hb hown (hts (.constantLong RX12 294 (31)) wd_991) dX12_digest_12 ?_
  refine lv_lload_n hx₀ hb dX12_digest_15 rfl (lv_at hl 1 rfl) ?_
  refine lv_lmul hx₀ hb dX12_digest_16 ?_
  refine k_topl (v := 15699857) (by decide +kernel) ?_
  refine lv_aload_n hx₀ hb dX12_digest_17 rfl (lv_at hl 2 rfl) ?_
  refine lv_iload_n hx₀ hb dX12_digest_18 rfl (lv_at hl 0 rfl) ?_
  have hPc := hP.sub (ws' := [(hm, .inr (11, [.ref vFo, .ref vSi, .ref vIt, .ref vMo, .int 0, .ref vBy, .ref vTy, .int 0, .ref vMi, .int 0, .ref vPs, .int 0, .ref vGs, .int 0, .ref vFt, .int 0, .ref vTo, .int 0, .int 0, .int 0, .int 16777215, .int 0, .int 0, .ref vPr, .ref vSt, .ref vFn, .int 0, .ref vSg, .ref vAl, .int 0])), (vTy, .inl (cI, 3, .inl (fun _ => 0)))]) [0, 1] rfl
  have hDc := hD.sub (ws' := [(hm, .inr (11, [.ref vFo, .ref vSi, .ref vIt, .ref vMo, .int 0, .ref vBy, .ref vTy, .int 0, .ref vMi, .int 0, .ref vPs, .int 0, .ref vGs, .int 0, .ref vFt, .int 0, .ref vTo, .int 0, .int 0, .int 0, .int 16777215, .int 0, .int 0, .ref vPr, .ref vSt, .ref vFn, .int 0, .ref vSg, .ref vAl, .int 0])), (vTy, .inl (cI, 3, .inl (fun _ => 0)))]) [0, 1] (by decide) rfl
  have hFc := va_free (wc := [(hm, .inr (11, [.ref vFo, .ref vSi, .ref vIt, .ref vMo, .int 0, .ref vBy, .ref vTy, .int 0, .ref vMi, .int 0, .ref vPs, .int 0, .ref vGs, .int 0, .ref vFt, .int 0, .ref vTo, .int 0, .int 0, .int 0, .int 16777215, .int 0, .int 0, .ref vPr, .ref vSt, .ref vFn, .int 0, .ref vSg, .ref vAl, .int 0])), (vTy, .inl (cI, 3, .inl (fun _ => 0)))]) hD hS hA [0, 1] rfl
  refine va_calli (va_runV (As := [.int 3]) (rest := [.long 15699857]) ⟨hx₀, hb, hml, hown, hts⟩ (m_count l dC dI cI cJ cQ H.size hm 3 vFo vSi vIt vMo vBy vTy vMi vPs vGs vFt vTo vPr vSt vFn vSg vAl) (cwV 1 hts (kGV wd_960 wd_992 wd_958 wd_959 wd_5) rfl rfl rfl (by decide +kernel) ⟨Nat.le_of_ble_eq_true rfl, Nat.le_of_ble_eq_true rfl⟩) (k_preV (ci := 11) (q0 := 0) hK hPc hDc hN rfl rfl) rfl rfl hl.1 rfl (lv_room (Nat.le_of_ble_eq_true rfl)) dX12_digest_19 ⟨by decide +kernel, by decide +kernel⟩) hS (fun q _ h => hFc q h) hFc (fun r_7 u₀ t₀ H1 locs ht hvm hw hB hz1 hk1 hS => ?_)
  obtain ⟨hP1, hK1, hD1⟩ := hB
  rw [ht] at hP1
  obtain ⟨hP, hD⟩ := va_join (wr := []) (w1 := [(hm, .inr (11, [.ref vFo, .ref vSi, .ref vIt, .ref vMo, .int 0, .ref vBy, .ref vTy, .int 0, .ref vMi, .int 0, .ref vPs, .int 0, .ref vGs, .int 0, .ref vFt, .int 0, .ref vTo, .int 0, .int 0, .int 0, .int 16777215, .int 0, .int 0, .ref vPr, .ref vSt, .ref vFn, .int 0, .ref vSg, .ref vAl, .int 0])), (vTy, .inl (cI, 3, .inl (fun _ => 0)))]) hP hD [0, 1] [] rfl rfl (by decide) (by decide) hk1 hFc hP1 hD1
  generalize H1 = H at hP hS ⊢
  have hP : va_P (dC, dI) vwCl [(hm, .inr (11, [.ref vFo, .ref vSi, .ref vIt, .ref vMo, .int 0, .ref vBy, .ref vTy, .int 0, .ref vMi, .int 0, .ref vPs, .int 0, .ref vGs, .int 0, .ref vFt, .int 0, .ref vTo, .int 0, .int 0, .int 0, .int 16777215, .int 0, .int 0, .ref vPr, .ref vSt, .ref vFn, .int 0, .ref vSg, .ref vAl, .int 0])), (vTy, .inl (cI, 3, .inl (fun _ => 0)))] H := hP
  have hD : va_D A [(hm, .inr (11, [.ref vFo, .ref vSi, .ref vIt, .ref vMo, .int 0, .ref vBy, .ref vTy, .int 0, .ref vMi, .int 0, .ref vPs, .int 0, .ref vGs, .int 0, .ref vFt, .int 0, .ref vTo, .int 0, .int 0, .int 0, .int 16777215, .int 0, .int 0, .ref vPr, .ref vSt, .ref vFn, .int 0, .ref vSg, .ref vAl, .int 0])), (vTy, .inl (cI, 3, .inl (fun _ => 0)))] := hD
  try dsimp only at hw
  rw [if_pos (Classical.byContradiction (fun c9 => lf_m_digest_4  c9))] at hw
  refine k_topi (v := 0) hw ?_
  refine lv_i2l (v := 0) hx₀ hb dX12_digest_22 (by decide +kernel) ?_
  refine lv_ladd hx₀ hb dX12_digest_23 ?_
  refine k_topl (v := 15699857) (by decide +kernel) ?_
  refine lv_lstore_n (lv' := [(1, .long 15699857), (3, .int 3), (0, .ref hm)]) hx₀ hb dX12_digest_24 rfl hl (by decide) rfl (fun ls hl => ?_)
  refine lv_iinc (v := 4) (lv' := [(3, .int 4), (1, .long 15699857), (0, .ref hm)]) hx₀ hb dX12_digest_25 hl (k := 1) rfl (by decide +kernel) (by decide) rfl (fun ls hl => ?_)
  refine lv_goto (tgt := 6) hx₀ hb dX12_digest_28 (by decide) ?_
  refine lv_iload_n hx₀ hb dX12_digest_6 rfl (lv_at hl 0 rfl) ?_
  refine lv_bipush (v := 8) hx₀ hb dX12_digest_7 (by decide +kernel) ?_
  refine lv_icmp_ge (tgt := 31) hx₀ hb dX12_digest_9 (by decide) (fun c9 => absurd c9 (by decide +kernel)) (fun _ => ?_)
  refine lv_ldc2 (v := 31) hx₀ hb hown (hts (.constantLong RX12 294 (31)) wd_991) dX12_digest_12 ?_
  refine lv_lload_n hx₀ hb dX12_digest_15 rfl (lv_at hl 1 rfl) ?_
  refine lv_lmul hx₀ hb dX12_digest_16 ?_
  refine k_topl (v := 486695567) (by decide +kernel) ?_
  refine lv_aload_n hx₀ hb dX12_digest_17 rfl (lv_at hl 2 rfl) ?_
  refine lv_iload_n hx₀ hb dX12_digest_18 rfl (lv_at hl 0 rfl) ?_
  have hPc := hP.sub (ws' := [(hm, .inr (11, [.ref vFo, .ref vSi, .ref vIt, .ref vMo, .int 0, .ref vBy, .ref vTy, .int 0, .ref vMi, .int 0, .ref vPs, .int 0, .ref vGs, .int 0, .ref vFt, .int 0, .ref vTo, .int 0, .int 0, .int 0, .int 16777215, .int 0, .int 0, .ref vPr, .ref vSt, .ref vFn, .int 0, .ref vSg, .ref vAl, .int 0])), (vTy, .inl (cI, 3, .inl (fun _ => 0)))]) [0, 1] rfl
  have hDc := hD.sub (ws' := [(hm, .inr (11, [.ref vFo, .ref vSi, .ref vIt, .ref vMo, .int 0, .ref vBy, .ref vTy, .int 0, .ref vMi, .int 0, .ref vPs, .int 0, .ref vGs, .int 0, .ref vFt, .int 0, .ref vTo, .int 0, .int 0, .int 0, .int 16777215, .int 0, .int 0, .ref vPr, .ref vSt, .ref vFn, .int 0, .ref vSg, .ref vAl, .int 0])), (vTy, .inl (cI, 3, .inl (fun _ => 0)))]) [0, 1] (by decide) rfl
  have hFc := va_free (wc := [(hm, .inr (11, [.ref vFo, .ref vSi, .ref vIt, .ref vMo, .int 0, .ref vBy, .ref vTy, .int 0, .ref vMi, .int 0, .ref vPs, .int 0, .ref vGs, .int 0, .ref vFt, .int 0, .ref vTo, .int 0, .int 0, .int 0, .int 16777215, .int 0, .int 0, .ref vPr, .ref vSt, .ref vFn, .int 0, .ref vSg, .ref vAl, .int 0])), (vTy, .inl (cI, 3, .inl (fun _ => 0)))]) hD hS hA [0, 1] rfl
  refine va_calli (va_runV (As := [.int 4]) (rest := [.long 486695567]) ⟨hx₀, hb, hml, hown, hts⟩ (m_count l dC dI cI cJ cQ H.size hm 4 vFo vSi vIt vMo vBy vTy vMi vPs vGs vFt vTo vPr vSt vFn vSg vAl) (cwV 1 hts (kGV wd_960 wd_992 wd_958 wd_959 wd_5) rfl rfl rfl (by decide +kernel) ⟨Nat.le_of_ble_eq_true rfl, Nat.le_of_ble_eq_true rfl⟩) (k_preV (ci := 11) (q0 := 0) hK hPc hDc hN rfl rfl) rfl rfl hl.1 rfl (lv_room (Nat.le_of_ble_eq_true rfl)) dX12_digest_19 ⟨by decide +kernel, by decide +kernel⟩) hS (fun q _ h => hFc q h) hFc (fun r_9 u₀ t₀ H1 locs ht hvm hw hB hz1 hk1 hS => ?_)
  obtain ⟨hP1, hK1, hD1⟩ := hB
  rw [ht] at hP1
  obtain ⟨hP, hD⟩ := va_join (wr := []) (w1 := [(hm, .inr (11, [.ref vFo, .ref vSi, .ref vIt, .ref vMo, .int 0, .ref vBy, .ref vTy, .int 0, .ref vMi, .int 0, .ref vPs, .int 0, .ref vGs, .int 0, .ref vFt, .int 0, .ref vTo, .int 0, .int 0, .int 0, .int 16777215, .int 0, .int 0, .ref vPr, .ref vSt, .ref vFn, .int 0, .ref vSg, .ref vAl, .int 0])), (vTy, .inl (cI, 3, .inl (fun _ => 0)))]) hP hD [0, 1] [] rfl rfl (by decide) (by decide) hk1 hFc hP1 hD1
  generalize H1 = H at hP hS ⊢
  have hP : va_P (dC, dI) vwCl [(hm, .inr (11, [.ref vFo, .ref vSi, .ref vIt, .ref vMo, .int 0, .ref vBy, .ref vTy, .int 0, .ref vMi, .int 0, .ref vPs, .int 0, .ref vGs, .int 0, .ref vFt, .int 0, .ref vTo, .int 0, .int 0, .int 0, .int 16777215, .int 0, .int 0, .ref vPr, .ref vSt, .ref vFn, .int 0, .ref vSg, .ref vAl, .int 0])), (vTy, .inl (cI, 3, .inl (fun _ => 0)))] H := hP
  have hD : va_D A [(hm, .inr (11, [.ref vFo, .ref vSi, .ref vIt, .ref vMo, .int 0, .ref vBy, .ref vTy, .int 0, .ref vMi, .int 0, .ref vPs, .int 0, .ref vGs, .int 0, .ref vFt, .int 0, .ref vTo, .int 0, .int 0, .int 0, .int 16777215, .int 0, .int 0, .ref vPr, .ref vSt, .ref vFn, .int 0, .ref vSg, .ref vAl, .int 0])), (vTy, .inl (cI, 3, .inl (fun _ => 0)))] := hD
  try dsimp only at hw
  rw [if_pos (Classical.byContradiction (fun c9 => lf_m_digest_5  c9))] at hw
  refine k_topi (v := 0) hw ?_
  refine lv_i2l (v := 0) hx₀ hb dX12_digest_22 (by decide +kernel) ?_
  refine lv_ladd hx₀ hb dX12_digest_23 ?_
  refine k_topl (v := 486695567) (by decide +kernel) ?_
  refine lv_lstore_n (lv' := [(1, .long 486695567), (3, .int 4), (0, .ref hm)]) hx₀ hb dX12_digest_24 rfl hl (by decide) rfl (fun ls hl => ?_)
  refine lv_iinc (v := 5) (lv' := [(3, .int 5), (1, .long 486695567), (0, .ref hm)]) hx₀ hb dX12_digest_25 hl (k := 1) rfl (by decide +kernel) (by decide) rfl (fun ls hl => ?_)
  refine lv_goto (tgt := 6) hx₀ hb dX12_digest_28 (by decide) ?_
  refine lv_iload_n hx₀ hb dX12_digest_6 rfl (lv_at hl 0 rfl) ?_
  refine lv_bipush (v := 8) hx₀ hb dX12_digest_7 (by decide +kernel) ?_
  refine lv_icmp_ge (tgt := 31) hx₀ hb dX12_digest_9 (by decide) (fun c9 => absurd c9 (by decide +kernel)) (fun _ => ?_)
  refine lv_ldc2 (v := 31) hx₀ hb hown (hts (.constantLong RX12 294 (31)) wd_991) dX12_digest_12 ?_
  refine lv_lload_n hx₀ hb dX12_digest_15 rfl (lv_at hl 1 rfl) ?_
  refine lv_lmul hx₀ hb dX12_digest_16 ?_
  refine k_topl (v := 15087562577) (by decide +kernel) ?_
  refine lv_aload_n hx₀ hb dX12_digest_17 rfl (lv_at hl 2 rfl) ?_
  refine lv_iload_n hx₀ hb dX12_digest_18 rfl (lv_at hl 0 rfl) ?_
  have hPc := hP.sub (ws' := [(hm, .inr (11, [.ref vFo, .ref vSi, .ref vIt, .ref vMo, .int 0, .ref vBy, .ref vTy, .int 0, .ref vMi, .int 0, .ref vPs, .int 0, .ref vGs, .int 0, .ref vFt, .int 0, .ref vTo, .int 0, .int 0, .int 0, .int 16777215, .int 0, .int 0, .ref vPr, .ref vSt, .ref vFn, .int 0, .ref vSg, .ref vAl, .int 0])), (vTy, .inl (cI, 3, .inl (fun _ => 0)))]) [0, 1] rfl
  have hDc := hD.sub (ws' := [(hm, .inr (11, [.ref vFo, .ref vSi, .ref vIt, .ref vMo, .int 0, .ref vBy, .ref vTy, .int 0, .ref vMi, .int 0, .ref vPs, .int 0, .ref vGs, .int 0, .ref vFt, .int 0, .ref vTo, .int 0, .int 0, .int 0, .int 16777215, .int 0, .int 0, .ref vPr, .ref vSt, .ref vFn, .int 0, .ref vSg, .ref vAl, .int 0])), (vTy, .inl (cI, 3, .inl (fun _ => 0)))]) [0, 1] (by decide) rfl
  have hFc := va_free (wc := [(hm, .inr (11, [.ref vFo, .ref vSi, .ref vIt, .ref vMo, .int 0, .ref vBy, .ref vTy, .int 0, .ref vMi, .int 0, .ref vPs, .int 0, .ref vGs, .int 0, .ref vFt, .int 0, .ref vTo, .int 0, .int 0, .int 0, .int 16777215, .int 0, .int 0, .ref vPr, .ref vSt, .ref vFn, .int 0, .ref vSg, .ref vAl, .int 0])), (vTy, .inl (cI, 3, .inl (fun _ => 0)))]) hD hS hA [0, 1] rfl
  refine va_calli (va_runV (As := [.int 5]) (rest := [.long 15087562577]) ⟨hx₀, hb, hml, hown, hts⟩ (m_count l dC dI cI cJ cQ H.size hm 5 vFo vSi vIt vMo vBy vTy vMi vPs vGs vFt vTo vPr vSt vFn vSg vAl) (cwV 1 hts (kGV wd_960 wd_992 wd_958 wd_959 wd_5) rfl rfl rfl (by decide +kernel) ⟨Nat.le_of_ble_eq_true rfl, Nat.le_of_ble_eq_true rfl⟩) (k_preV (ci := 11) (q0 := 0) hK hPc hDc hN rfl rfl) rfl rfl hl.1 rfl (lv_room (Nat.le_of_ble_eq_true rfl)) dX12_digest_19 ⟨by decide +kernel, by decide +kernel⟩) hS (fun q _ h => hFc q h) hFc (fun r_11 u₀ t₀ H1 locs ht hvm hw hB hz1 hk1 hS => ?_)
  obtain ⟨hP1, hK1, hD1⟩ := hB
  rw [ht] at hP1
  obtain ⟨hP, hD⟩ := va_join (wr := []) (w1 := [(hm, .inr (11, [.ref vFo, .ref vSi, .ref vIt, .ref vMo, .int 0, .ref vBy, .ref vTy, .int 0, .ref vMi, .int 0, .ref vPs, .int 0, .ref vGs, .int 0, .ref vFt, .int 0, .ref vTo, .int 0, .int 0, .int 0, .int 16777215, .int 0, .int 0, .ref vPr, .ref vSt, .ref vFn, .int 0, .ref vSg, .ref vAl, .int 0])), (vTy, .inl (cI, 3, .inl (fun _ => 0)))]) hP hD [0, 1] [] rfl rfl (by decide) (by decide) hk1 hFc hP1 hD1
  generalize H1 = H at hP hS ⊢
  have hP : va_P (dC, dI) vwCl [(hm, .inr (11, [.ref vFo, .ref vSi, .ref vIt, .ref vMo, .int 0, .ref vBy, .ref vTy, .int 0, .ref vMi, .int 0, .ref vPs, .int 0, .ref vGs, .int 0, .ref vFt, .int 0, .ref vTo, .int 0, .int 0, .int 0, .int 16777215, .int 0, .int 0, .ref vPr, .ref vSt, .ref vFn, .int 0, .ref vSg, .ref vAl, .int 0])), (vTy, .inl (cI, 3, .inl (fun _ => 0)))] H := hP
  have hD : va_D A [(hm, .inr (11, [.ref vFo, .ref vSi, .ref vIt, .ref vMo, .int 0, .ref vBy, .ref vTy, .int 0, .ref vMi, .int 0, .ref vPs, .int 0, .ref vGs, .int 0, .ref vFt, .int 0, .ref vTo, .int 0, .int 0, .int 0, .int 16777215, .int 0, .int 0, .ref vPr, .ref vSt, .ref vFn, .int 0, .ref vSg, .ref vAl, .int 0])), (vTy, .inl (cI, 3, .inl (fun _ => 0)))] := hD
  try dsimp only at hw
  rw [if_pos (Classical.byContradiction (fun c9 => lf_m_digest_6  c9))] at hw
  refine k_topi (v := 0) hw ?_
  refine lv_i2l (v := 0) hx₀ hb dX12_digest_22 (by decide +kernel) ?_
  refine lv_ladd hx₀ hb dX12_digest_23 ?_
  refine k_topl (v := 15087562577) (by decide +kernel) ?_
  refine lv_lstore_n (lv' := [(1, .long 15087562577), (3, .int 5), (0, .ref hm)]) hx₀ hb dX12_digest_24 rfl hl (by decide) rfl (fun ls hl => ?_)
  refine lv_iinc (v := 6) (lv' := [(3, .int 6), (1, .long 15087562577), (0, .ref hm)]) hx₀ hb dX12_digest_25 hl (k := 1) rfl (by decide +kernel) (by decide) rfl (fun ls hl => ?_)
  refine lv_goto (tgt := 6) hx₀ hb dX12_digest_28 (by decide) ?_
  refine lv_iload_n hx₀ hb dX12_digest_6 rfl (lv_at hl 0 rfl) ?_
  refine lv_bipush (v := 8) hx₀ hb dX12_digest_7 (by decide +kernel) ?_
  refine lv_icmp_ge (tgt := 31) hx₀ hb dX12_digest_9 (by decide) (fun c9 => absurd c9 (by decide +kernel)) (fun _ => ?_)
  refine lv_ldc2 (v := 31) hx₀ hb hown (hts (.constantLong RX12 294 (31)) wd_991) dX12_digest_12 ?_
  refine lv_lload_n hx₀ hb dX12_digest_15 rfl (lv_at hl 1 rfl) ?_
  refine lv_lmul hx₀ hb dX12_digest_16 ?_
  refine k_topl (v := 467714439887) (by decide +kernel) ?_
  refine lv_aload_n hx₀ hb dX12_digest_17 rfl (lv_at hl 2 rfl) ?_
  refine lv_iload_n hx₀ hb dX12_digest_18 rfl (lv_at hl 0 rfl) ?_
  have hPc := hP.sub (ws' := [(hm, .inr (11, [.ref vFo, .ref vSi, .ref vIt, .ref vMo, .int 0, .ref vBy, .ref vTy, .int 0, .ref vMi, .int 0, .ref vPs, .int 0, .ref vGs, .int 0, .ref vFt, .int 0, .ref vTo, .int 0, .int 0, .int 0, .int 16777215, .int 0, .int 0, .ref vPr, .ref vSt, .ref vFn, .int 0, .ref vSg, .ref vAl, .int 0])), (vTy, .inl (cI, 3, .inl (fun _ => 0)))]) [0, 1] rfl
  have hDc := hD.sub (ws' := [(hm, .inr (11, [.ref vFo, .ref vSi, .ref vIt, .ref vMo, .int 0, .ref vBy, .ref vTy, .int 0, .ref vMi, .int 0, .ref vPs, .int 0, .ref vGs, .int 0, .ref vFt, .int 0, .ref vTo, .int 0, .int 0, .int 0, .int 16777215, .int 0, .int 0, .ref vPr, .ref vSt, .ref vFn, .int 0, .ref vSg, .ref vAl, .int 0])), (vTy, .inl (cI, 3, .inl (fun _ => 0)))]) [0, 1] (by decide) rfl
  have hFc := va_free (wc := [(hm, .inr (11, [.ref vFo, .ref vSi, .ref vIt, .ref vMo, .int 0, .ref vBy, .ref vTy, .int 0, .ref vMi, .int 0, .ref vPs, .int 0, .ref vGs, .int 0, .ref vFt, .int 0, .ref vTo, .int 0, .int 0, .int 0, .int 16777215, .int 0, .int 0, .ref vPr, .ref vSt, .ref vFn, .int 0, .ref vSg, .ref vAl, .int 0])), (vTy, .inl (cI, 3, .inl (fun _ => 0)))]) hD hS hA [0, 1] rfl
  refine va_calli (va_runV (As := [.int 6]) (rest := [.long 467714439887]) ⟨hx₀, hb, hml, hown, hts⟩ (m_count l dC dI cI cJ cQ H.size hm 6 vFo vSi vIt vMo vBy vTy vMi vPs vGs vFt vTo vPr vSt vFn vSg vAl) (cwV 1 hts (kGV wd_960 wd_992 wd_958 wd_959 wd_5) rfl rfl rfl (by decide +kernel) ⟨Nat.le_of_ble_eq_true rfl, Nat.le_of_ble_eq_true rfl⟩) (k_preV (ci := 11) (q0 := 0) hK hPc hDc hN rfl rfl) rfl rfl hl.1 rfl (lv_room (Nat.le_of_ble_eq_true rfl)) dX12_digest_19 ⟨by decide +kernel, by decide +kernel⟩) hS (fun q _ h => hFc q h) hFc (fun r_13 u₀ t₀ H1 locs ht hvm hw hB hz1 hk1 hS => ?_)
  obtain ⟨hP1, hK1, hD1⟩ := hB
  rw [ht] at hP1
  obtain ⟨hP, hD⟩ := va_join (wr := []) (w1 := [(hm, .inr (11, [.ref vFo, .ref vSi, .ref vIt, .ref vMo, .int 0, .ref vBy, .ref vTy, .int 0, .ref vMi, .int 0, .ref vPs, .int 0, .ref vGs, .int 0, .ref vFt, .int 0, .ref vTo, .int 0, .int 0, .int 0, .int 16777215, .int 0, .int 0, .ref vPr, .ref vSt, .ref vFn, .int 0, .ref vSg, .ref vAl, .int 0])), (vTy, .inl (cI, 3, .inl (fun _ => 0)))]) hP hD [0, 1] [] rfl rfl (by decide) (by decide) hk1 hFc hP1 hD1
  generalize H1 = H at hP hS ⊢
  have hP : va_P (dC, dI) vwCl [(hm, .inr (11, [.ref vFo, .ref vSi, .ref vIt, .ref vMo, .int 0, .ref vBy, .ref vTy, .int 0, .ref vMi, .int 0, .ref vPs, .int 0, .ref vGs, .int 0, .ref vFt, .int 0, .ref vTo, .int 0, .int 0, .int 0, .int 16777215, .int 0, .int 0, .ref vPr, .ref vSt, .ref vFn, .int 0, .ref vSg, .ref vAl, .int 0])), (vTy, .inl (cI, 3, .inl (fun _ => 0)))] H := hP
  have hD : va_D A [(hm, .inr (11, [.ref vFo, .ref vSi, .ref vIt, .ref vMo, .int 0, .ref vBy, .ref vTy, .int 0, .ref vMi, .int 0, .ref vPs, .int 0, .ref vGs, .int 0, .ref vFt, .int 0, .ref vTo, .int 0, .int 0, .int 0, .int 16777215, .int 0, .int 0, .ref vPr, .ref vSt, .ref vFn, .int 0, .ref vSg, .ref vAl, .int 0])), (vTy, .inl (cI, 3, .inl (fun _ => 0)))] := hD
  try dsimp only at hw
  rw [if_pos (Classical.byContradiction (fun c9 => lf_m_digest_7  c9))] at hw
  refine k_topi (v := 0) hw ?_
  refine lv_i2l (v := 0) hx₀ hb dX12_digest_22 (by decide +kernel) ?_
  refine lv_ladd hx₀ hb dX12_digest_23 ?_
  refine k_topl (v := 467714439887) (by decide +kernel) ?_
  refine lv_lstore_n (lv' := [(1, .long 467714439887), (3, .int 6), (0, .ref hm)]) hx₀ hb dX12_digest_24 rfl hl (by decide) rfl (fun ls hl => ?_)
  refine lv_iinc (v := 7) (lv' := [(3, .int 7), (1, .long 467714439887), (0, .ref hm)]) hx₀ hb dX12_digest_25 hl (k := 1) rfl (by decide +kernel) (by decide) rfl (fun ls hl => ?_)
  refine lv_goto (tgt := 6) hx₀ hb dX12_digest_28 (by decide) ?_
  refine lv_iload_n hx₀ hb dX12_digest_6 rfl (lv_at hl 0 rfl) ?_
  refine lv_bipush (v := 8) hx₀ hb dX12_digest_7 (by decide +kernel) ?_
  refine lv_icmp_ge (tgt := 31) hx₀ hb dX12_digest_9 (by decide) (fun c9 => absurd c9 (by decide +kernel)) (fun _ => ?_)
  refine lv_ldc2 (v := 31) hx₀ hb hown (hts (.constantLong RX12 294 (31)) wd_991) dX12_digest_12 ?_
  refine lv_lload_n hx₀ hb dX12_digest_15 rfl (lv_at hl 1 rfl) ?_
  refine lv_lmul hx₀ hb dX12_digest_16 ?_
  refine k_topl (v := 14499147636497) (by decide +kernel) ?_
  refine lv_aload_n hx₀ hb dX12_digest_17 rfl (lv_at hl 2 rfl) ?_
  refine lv_iload_n hx₀ hb dX12_digest_18 rfl (lv_at hl 0 rfl) ?_
  have hPc := hP.sub (ws' := [(hm, .inr (11, [.ref vFo, .ref vSi, .ref vIt, .ref vMo, .int 0, .ref vBy, .ref vTy, .int 0, .ref vMi, .int 0, .ref vPs, .int 0, .ref vGs, .int 0, .ref vFt, .int 0, .ref vTo, .int 0, .int 0, .int 0, .int 16777215, .int 0, .int 0, .ref vPr, .ref vSt, .ref vFn, .int 0, .ref vSg, .ref vAl, .int 0])), (vTy, .inl (cI, 3, .inl (fun _ => 0)))]) [0, 1] rfl
  have hDc := hD.sub (ws' := [(hm, .inr (11, [.ref vFo, .ref vSi, .ref vIt, .ref vMo, .int 0, .ref vBy, .ref vTy, .int 0, .ref vMi, .int 0, .ref vPs, .int 0, .ref vGs, .int 0, .ref vFt, .int 0, .ref vTo, .int 0, .int 0, .int 0, .int 16777215, .int 0, .int 0, .ref vPr, .ref vSt, .ref vFn, .int 0, .ref vSg, .ref vAl, .int 0])), (vTy, .inl (cI, 3, .inl (fun _ => 0)))]) [0, 1] (by decide) rfl
  have hFc := va_free (wc := [(hm, .inr (11, [.ref vFo, .ref vSi, .ref vIt, .ref vMo, .int 0, .ref vBy, .ref vTy, .int 0, .ref vMi, .int 0, .ref vPs, .int 0, .ref vGs, .int 0, .ref vFt, .int 0, .ref vTo, .int 0, .int 0, .int 0, .int 16777215, .int 0, .int 0, .ref vPr, .ref vSt, .ref vFn, .int 0, .ref vSg, .ref vAl, .int 0])), (vTy, .inl (cI, 3, .inl (fun _ => 0)))]) hD hS hA [0, 1] rfl
  refine va_calli (va_runV (As := [.int 7]) (rest := [.long 14499147636497]) ⟨hx₀, hb, hml, hown, hts⟩ (m_count l dC dI cI cJ cQ H.size hm 7 vFo vSi vIt vMo vBy vTy vMi vPs vGs vFt vTo vPr vSt vFn vSg vAl) (cwV 1 hts (kGV wd_960 wd_992 wd_958 wd_959 wd_5) rfl rfl rfl (by decide +kernel) ⟨Nat.le_of_ble_eq_true rfl, Nat.le_of_ble_eq_true rfl⟩) (k_preV (ci := 11) (q0 := 0) hK hPc hDc hN rfl rfl) rfl rfl hl.1 rfl (lv_room (Nat.le_of_ble_eq_true rfl)) dX12_digest_19 ⟨by decide +kernel, by decide +kernel⟩) hS (fun q _ h => hFc q h) hFc (fun r_15 u₀ t₀ H1 locs ht hvm hw hB hz1 hk1 hS => ?_)
  obtain ⟨hP1, hK1, hD1⟩ := hB
  rw [ht] at hP1
  obtain ⟨hP, hD⟩ := va_join (wr := []) (w1 := [(hm, .inr (11, [.ref vFo, .ref vSi, .ref vIt, .ref vMo, .int 0, .ref vBy, .ref vTy, .int 0, .ref vMi, .int 0, .ref vPs, .int 0, .ref vGs, .int 0, .ref vFt, .int 0, .ref vTo, .int 0, .int 0, .int 0, .int 16777215, .int 0, .int 0, .ref vPr, .ref vSt, .ref vFn, .int 0, .ref vSg, .ref vAl, .int 0])), (vTy, .inl (cI, 3, .inl (fun _ => 0)))]) hP hD [0, 1] [] rfl rfl (by decide) (by decide) hk1 hFc hP1 hD1
  generalize H1 = H at hP hS ⊢
  have hP : va_P (dC, dI) vwCl [(hm, .inr (11, [.ref vFo, .ref vSi, .ref vIt, .ref vMo, .int 0, .ref vBy, .ref vTy, .int 0, .ref vMi, .int 0, .ref vPs, .int 0, .ref vGs, .int 0, .ref vFt, .int 0, .ref vTo, .int 0, .int 0, .int 0, .int 16777215, .int 0, .int 0, .ref vPr, .ref vSt, .ref vFn, .int 0, .ref vSg, .ref vAl, .int 0])), (vTy, .inl (cI, 3, .inl (fun _ => 0)))] H := hP
  have hD : va_D A [(hm, .inr (11, [.ref vFo, .ref vSi, .ref vIt, .ref vMo, .int 0, .ref vBy, .ref vTy, .int 0, .ref vMi, .int 0, .ref vPs, .int 0, .ref vGs, .int 0, .ref vFt, .int 0, .ref vTo, .int 0, .int 0, .int 0, .int 16777215, .int 0, .int 0, .ref vPr, .ref vSt, .ref vFn, .int 0, .ref vSg, .ref vAl, .int 0])), (vTy, .inl (cI, 3, .inl (fun _ => 0)))] := hD
  try dsimp only at hw
  rw [if_pos (Classical.byContradiction (fun c9 => lf_m_digest_8  c9))] at hw
  refine k_topi (v := 0) hw ?_
  refine lv_i2l (v := 0) hx₀ hb dX12_digest_22 (by decide +kernel) ?_
  refine lv_ladd hx₀ hb dX12_digest_23 ?_
  refine k_topl (v := 14499147636497) (by decide +kernel) ?_
  refine lv_lstore_n (lv' := [(1, .long 14499147636497), (3, .int 7), (0, .ref hm)]) hx₀ hb dX12_digest_24 rfl hl (by decide) rfl (fun ls hl => ?_)
  refine lv_iinc (v := 8) (lv' := [(3, .int 8), (1, .long 14499147636497), (0, .ref hm)]) hx₀ hb dX12_digest_25 hl (k := 1) rfl (by decide +kernel) (by decide) rfl (fun ls hl => ?_)
  refine lv_goto (tgt := 6) hx₀ hb dX12_digest_28 (by decide) ?_
  refine lv_iload_n hx₀ hb dX12_digest_6 rfl (lv_at hl 0 rfl) ?_
  refine lv_bipush (v := 8) hx₀ hb dX12_digest_7 (by decide +kernel) ?_
  refine lv_icmp_ge (tgt := 31) hx₀ hb dX12_digest_9 (by decide) (fun _ => ?_) (fun c9 => absurd (by decide +kernel) c9)
  refine lv_iconst (v := 0) hx₀ hb dX12_digest_31 (by decide +kernel) ?_
  refine lv_istore_n (lv' := [(3, .int 0), (1, .long 14499147636497), (0, .ref hm)]) hx₀ hb dX12_digest_32 rfl hl (by decide) rfl (fun ls hl => ?_)
  refine lv_iload_n hx₀ hb dX12_digest_33 rfl (lv_at hl 0 rfl) ?_
  refine lv_iconst (v := 3) hx₀ hb dX12_digest_34 (by decide +kernel) ?_
  refine lv_icmp_ge (tgt := 57) hx₀ hb dX12_digest_35 (by decide) (fun c9 => absurd c9 (by decide +kernel)) (fun _ => ?_)
  refine lv_ldc2 (v := 31) hx₀ hb hown (hts (.constantLong RX12 294 (31)) wd_991) dX12_digest_38 ?_
  refine lv_lload_n hx₀ hb dX12_digest_41 rfl (lv_at hl 1 rfl) ?_
  refine lv_lmul hx₀ hb dX12_digest_42 ?_
  refine k_topl (v := 449473576731407) (by decide +kernel) ?_
  refine lv_aload_n hx₀ hb dX12_digest_43 rfl (lv_at hl 2 rfl) ?_
  refine lv_iload_n hx₀ hb dX12_digest_44 rfl (lv_at hl 0 rfl) ?_
  have hPc := hP.sub (ws' := [(hm, .inr (11, [.ref vFo, .ref vSi, .ref vIt, .ref vMo, .int 0, .ref vBy, .ref vTy, .int 0, .ref vMi, .int 0, .ref vPs, .int 0, .ref vGs, .int 0, .ref vFt, .int 0, .ref vTo, .int 0, .int 0, .int 0, .int 16777215, .int 0, .int 0, .ref vPr, .ref vSt, .ref vFn, .int 0, .ref vSg, .ref vAl, .int 0])), (vTy, .inl (cI, 3, .inl (fun _ => 0)))]) [0, 1] rfl
  have hDc := hD.sub (ws' := [(hm, .inr (11, [.ref vFo, .ref vSi, .ref vIt, .ref vMo, .int 0, .ref vBy, .ref vTy, .int 0, .ref vMi, .int 0, .ref vPs, .int 0, .ref vGs, .int 0, .ref vFt, .int 0, .ref vTo, .int 0, .int 0, .int 0, .int 16777215, .int 0, .int 0, .ref vPr, .ref vSt, .ref vFn, .int 0, .ref vSg, .ref vAl, .int 0])), (vTy, .inl (cI, 3, .inl (fun _ => 0)))]) [0, 1] (by decide) rfl
  have hFc := va_free (wc := [(hm, .inr (11, [.ref vFo, .ref vSi, .ref vIt, .ref vMo, .int 0, .ref vBy, .ref vTy, .int 0, .ref vMi, .int 0, .ref vPs, .int 0, .ref vGs, .int 0, .ref vFt, .int 0, .ref vTo, .int 0, .int 0, .int 0, .int 16777215, .int 0, .int 0, .ref vPr, .ref vSt, .ref vFn, .int 0, .ref vSg, .ref vAl, .int 0])), (vTy, .inl (cI, 3, .inl (fun _ => 0)))]) hD hS hA [0, 1] rfl
  refine va_calli (va_runV (As := [.int 0]) (rest := [.long 449473576731407]) ⟨hx₀, hb, hml, hown, hts⟩ (m_readsText l dC dI cI cJ cQ H.size hm 0 vFo vSi vIt vMo vBy vTy vMi vPs vGs vFt vTo vPr vSt vFn vSg vAl) (cwV 1 hts (kGV wd_247 wd_244 wd_245 wd_246 wd_5) rfl rfl rfl (by decide +kernel) ⟨Nat.le_of_ble_eq_true rfl, Nat.le_of_ble_eq_true rfl⟩) (k_preV (ci := 11) (q0 := 0) hK hPc hDc hN rfl rfl) rfl rfl hl.1 rfl (lv_room (Nat.le_of_ble_eq_true rfl)) dX12_digest_45 ⟨by decide +kernel, by decide +kernel⟩) hS (fun q _ h => hFc q h) hFc (fun r_17 u₀ t₀ H1 locs ht hvm hw hB hz1 hk1 hS => ?_)
  obtain ⟨hP1, hK1, hD1⟩ := hB
  rw [ht] at hP1
  obtain ⟨hP, hD⟩ := va_join (wr := []) (w1 := [(hm, .inr (11, [.ref vFo, .ref vSi, .ref vIt, .ref vMo, .int 0, .ref vBy, .ref vTy, .int 0, .ref vMi, .int 0, .ref vPs, .int 0, .ref vGs, .int 0, .ref vFt, .int 0, .ref vTo, .int 0, .int 0, .int 0, .int 16777215, .int 0, .int 0, .ref vPr, .ref vSt, .ref vFn, .int 0, .ref vSg, .ref vAl, .int 0])), (vTy, .inl (cI, 3, .inl (fun _ => 0)))]) hP hD [0, 1] [] rfl rfl (by decide) (by decide) hk1 hFc hP1 hD1
  generalize H1 = H at hP hS ⊢
  have hP : va_P (dC, dI) vwCl [(hm, .inr (11, [.ref vFo, .ref vSi, .ref vIt, .ref vMo, .int 0, .ref vBy, .ref vTy, .int 0, .ref vMi, .int 0, .ref vPs, .int 0, .ref vGs, .int 0, .ref vFt, .int 0, .ref vTo, .int 0, .int 0, .int 0, .int 16777215, .int 0, .int 0, .ref vPr, .ref vSt, .ref vFn, .int 0, .ref vSg, .ref vAl, .int 0])), (vTy, .inl (cI, 3, .inl (fun _ => 0)))] H := hP
  have hD : va_D A [(hm, .inr (11, [.ref vFo, .ref vSi, .ref vIt, .ref vMo, .int 0, .ref vBy, .ref vTy, .int 0, .ref vMi, .int 0, .ref vPs, .int 0, .ref vGs, .int 0, .ref vFt, .int 0, .ref vTo, .int 0, .int 0, .int 0, .int 16777215, .int 0, .int 0, .ref vPr, .ref vSt, .ref vFn, .int 0, .ref vSg, .ref vAl, .int 0])), (vTy, .inl (cI, 3, .inl (fun _ => 0)))] := hD
  try dsimp only at hw
  refine k_topi (v := (-1)) hw ?_
  refine lv_i2l (v := (-1)) hx₀ hb dX12_digest_48 (by decide +kernel) ?_
  refine lv_ladd hx₀ hb dX12_digest_49 ?_
  refine k_topl (v := 449473576731406) (by decide +kernel) ?_
  refine lv_lstore_n (lv' := [(1, .long 449473576731406), (3, .int 0), (0, .ref hm)]) hx₀ hb dX12_digest_50 rfl hl (by decide) rfl (fun ls hl => ?_)
  refine lv_iinc (v := 1) (lv' := [(3, .int 1), (1, .long 449473576731406), (0, .ref hm)]) hx₀ hb dX12_digest_51 hl (k := 1) rfl (by decide +kernel) (by decide) rfl (fun ls hl => ?_)
  refine lv_goto (tgt := 33) hx₀ hb dX12_digest_54 (by decide) ?_
  refine lv_iload_n hx₀ hb dX12_digest_33 rfl (lv_at hl 0 rfl) ?_
  refine lv_iconst (v := 3) hx₀ hb dX12_digest_34 (by decide +kernel) ?_
  refine lv_icmp_ge (tgt := 57) hx₀ hb dX12_digest_35 (by decide) (fun c9 => absurd c9 (by decide +kernel)) (fun _ => ?_)
  refine lv_ldc2 (v := 31) hx₀ hb hown (hts (.constantLong RX12 294 (31)) wd_991) dX12_digest_38 ?_
  refine lv_lload_n hx₀ hb dX12_digest_41 rfl (lv_at hl 1 rfl) ?_
  refine lv_lmul hx₀ hb dX12_digest_42 ?_
  refine k_topl (v := 13933680878673586) (by decide +kernel) ?_
  refine lv_aload_n hx₀ hb dX12_digest_43 rfl (lv_at hl 2 rfl) ?_
  refine lv_iload_n hx₀ hb dX12_digest_44 rfl (lv_at hl 0 rfl) ?_
  have hPc := hP.sub (ws' := [(hm, .inr (11, [.ref vFo, .ref vSi, .ref vIt, .ref vMo, .int 0, .ref vBy, .ref vTy, .int 0, .ref vMi, .int 0, .ref vPs, .int 0, .ref vGs, .int 0, .ref vFt, .int 0, .ref vTo, .int 0, .int 0, .int 0, .int 16777215, .int 0, .int 0, .ref vPr, .ref vSt, .ref vFn, .int 0, .ref vSg, .ref vAl, .int 0])), (vTy, .inl (cI, 3, .inl (fun _ => 0)))]) [0, 1] rfl
  have hDc := hD.sub (ws' := [(hm, .inr (11, [.ref vFo, .ref vSi, .ref vIt, .ref vMo, .int 0, .ref vBy, .ref vTy, .int 0, .ref vMi, .int 0, .ref vPs, .int 0, .ref vGs, .int 0, .ref vFt, .int 0, .ref vTo, .int 0, .int 0, .int 0, .int 16777215, .int 0, .int 0, .ref vPr, .ref vSt, .ref vFn, .int 0, .ref vSg, .ref vAl, .int 0])), (vTy, .inl (cI, 3, .inl (fun _ => 0)))]) [0, 1] (by decide) rfl
  have hFc := va_free (wc := [(hm, .inr (11, [.ref vFo, .ref vSi, .ref vIt, .ref vMo, .int 0, .ref vBy, .ref vTy, .int 0, .ref vMi, .int 0, .ref vPs, .int 0, .ref vGs, .int 0, .ref vFt, .int 0, .ref vTo, .int 0, .int 0, .int 0, .int 16777215, .int 0, .int 0, .ref vPr, .ref vSt, .ref vFn, .int 0, .ref vSg, .ref vAl, .int 0])), (vTy, .inl (cI, 3, .inl (fun _ => 0)))]) hD hS hA [0, 1] rfl
  refine va_calli (va_runV (As := [.int 1]) (rest := [.long 13933680878673586]) ⟨hx₀, hb, hml, hown, hts⟩ (m_readsText l dC dI cI cJ cQ H.size hm 1 vFo vSi vIt vMo vBy vTy vMi vPs vGs vFt vTo vPr vSt vFn vSg vAl) (cwV 1 hts (kGV wd_247 wd_244 wd_245 wd_246 wd_5) rfl rfl rfl (by decide +kernel) ⟨Nat.le_of_ble_eq_true rfl, Nat.le_of_ble_eq_true rfl⟩) (k_preV (ci := 11) (q0 := 0) hK hPc hDc hN rfl rfl) rfl rfl hl.1 rfl (lv_room (Nat.le_of_ble_eq_true rfl)) dX12_digest_45 ⟨by decide +kernel, by decide +kernel⟩) hS (fun q _ h => hFc q h) hFc (fun r_18 u₀ t₀ H1 locs ht hvm hw hB hz1 hk1 hS => ?_)
  obtain ⟨hP1, hK1, hD1⟩ := hB
  rw [ht] at hP1
  obtain ⟨hP, hD⟩ := va_join (wr := []) (w1 := [(hm, .inr (11, [.ref vFo, .ref vSi, .ref vIt, .ref vMo, .int 0, .ref vBy, .ref vTy, .int 0, .ref vMi, .int 0, .ref vPs, .int 0, .ref vGs, .int 0, .ref vFt, .int 0, .ref vTo, .int 0, .int 0, .int 0, .int 16777215, .int 0, .int 0, .ref vPr, .ref vSt, .ref vFn, .int 0, .ref vSg, .ref vAl, .int 0])), (vTy, .inl (cI, 3, .inl (fun _ => 0)))]) hP hD [0, 1] [] rfl rfl (by decide) (by decide) hk1 hFc hP1 hD1
  generalize H1 = H at hP hS ⊢
  have hP : va_P (dC, dI) vwCl [(hm, .inr (11, [.ref vFo, .ref vSi, .ref vIt, .ref vMo, .int 0, .ref vBy, .ref vTy, .int 0, .ref vMi, .int 0, .ref vPs, .int 0, .ref vGs, .int 0, .ref vFt, .int 0, .ref vTo, .int 0, .int 0, .int 0, .int 16777215, .int 0, .int 0, .ref vPr, .ref vSt, .ref vFn, .int 0, .ref vSg, .ref vAl, .int 0])), (vTy, .inl (cI, 3, .inl (fun _ => 0)))] H := hP
  have hD : va_D A [(hm, .inr (11, [.ref vFo, .ref vSi, .ref vIt, .ref vMo, .int 0, .ref vBy, .ref vTy, .int 0, .ref vMi, .int 0, .ref vPs, .int 0, .ref vGs, .int 0, .ref vFt, .int 0, .ref vTo, .int 0, .int 0, .int 0, .int 16777215, .int 0, .int 0, .ref vPr, .ref vSt, .ref vFn, .int 0, .ref vSg, .ref vAl, .int 0])), (vTy, .inl (cI, 3, .inl (fun _ => 0)))] := hD
  try dsimp only at hw
  refine k_topi (v := (-1)) hw ?_
  refine lv_i2l (v := (-1)) hx₀ hb dX12_digest_48 (by decide +kernel) ?_
  refine lv_ladd hx₀ hb dX12_digest_49 ?_
  refine k_topl (v := 13933680878673585) (by decide +kernel) ?_
  refine lv_lstore_n (lv' := [(1, .long 13933680878673585), (3, .int 1), (0, .ref hm)]) hx₀ hb dX12_digest_50 rfl hl (by decide) rfl (fun ls hl => ?_)
  refine lv_iinc (v := 2) (lv' := [(3, .int 2), (1, .long 13933680878673585), (0, .ref hm)]) hx₀ hb dX12_digest_51 hl (k := 1) rfl (by decide +kernel) (by decide) rfl (fun ls hl => ?_)
  refine lv_goto (tgt := 33) hx₀ hb dX12_digest_54 (by decide) ?_
  refine lv_iload_n hx₀ hb dX12_digest_33 rfl (lv_at hl 0 rfl) ?_
  refine lv_iconst (v := 3) hx₀ hb dX12_digest_34 (by decide +kernel) ?_
  refine lv_icmp_ge (tgt := 57) hx₀ hb dX12_digest_35 (by decide) (fun c9 => absurd c9 (by decide +kernel)) (fun _ => ?_)
  refine lv_ldc2 (v := 31) hx₀ hb hown (hts (.constantLong RX12 294 (31)) wd_991) dX12_digest_38 ?_
  refine lv_lload_n hx₀ hb dX12_digest_41 rfl (lv_at hl 1 rfl) ?_
  refine lv_lmul hx₀ hb dX12_digest_42 ?_
  refine k_topl (v := 431944107238881135) (by decide +kernel) ?_
  refine lv_aload_n hx₀ hb dX12_digest_43 rfl (lv_at hl 2 rfl) ?_
  refine lv_iload_n hx₀ hb dX12_digest_44 rfl (lv_at hl 0 rfl) ?_
  have hPc := hP.sub (ws' := [(hm, .inr (11, [.ref vFo, .ref vSi, .ref vIt, .ref vMo, .int 0, .ref vBy, .ref vTy, .int 0, .ref vMi, .int 0, .ref vPs, .int 0, .ref vGs, .int 0, .ref vFt, .int 0, .ref vTo, .int 0, .int 0, .int 0, .int 16777215, .int 0, .int 0, .ref vPr, .ref vSt, .ref vFn, .int 0, .ref vSg, .ref vAl, .int 0])), (vTy, .inl (cI, 3, .inl (fun _ => 0)))]) [0, 1] rfl
  have hDc := hD.sub (ws' := [(hm, .inr (11, [.ref vFo, .ref vSi, .ref vIt, .ref vMo, .int 0, .ref vBy, .ref vTy, .int 0, .ref vMi, .int 0, .ref vPs, .int 0, .ref vGs, .int 0, .ref vFt, .int 0, .ref vTo, .int 0, .int 0, .int 0, .int 16777215, .int 0, .int 0, .ref vPr, .ref vSt, .ref vFn, .int 0, .ref vSg, .ref vAl, .int 0])), (vTy, .inl (cI, 3, .inl (fun _ => 0)))]) [0, 1] (by decide) rfl
  have hFc := va_free (wc := [(hm, .inr (11, [.ref vFo, .ref vSi, .ref vIt, .ref vMo, .int 0, .ref vBy, .ref vTy, .int 0, .ref vMi, .int 0, .ref vPs, .int 0, .ref vGs, .int 0, .ref vFt, .int 0, .ref vTo, .int 0, .int 0, .int 0, .int 16777215, .int 0, .int 0, .ref vPr, .ref vSt, .ref vFn, .int 0, .ref vSg, .ref vAl, .int 0])), (vTy, .inl (cI, 3, .inl (fun _ => 0)))]) hD hS hA [0, 1] rfl
  refine va_calli (va_runV (As := [.int 2]) (rest := [.long 431944107238881135]) ⟨hx₀, hb, hml, hown, hts⟩ (m_readsText l dC dI cI cJ cQ H.size hm 2 vFo vSi vIt vMo vBy vTy vMi vPs vGs vFt vTo vPr vSt vFn vSg vAl) (cwV 1 hts (kGV wd_247 wd_244 wd_245 wd_246 wd_5) rfl rfl rfl (by decide +kernel) ⟨Nat.le_of_ble_eq_true rfl, Nat.le_of_ble_eq_true rfl⟩) (k_preV (ci := 11) (q0 := 0) hK hPc hDc hN rfl rfl) rfl rfl hl.1 rfl (lv_room (Nat.le_of_ble_eq_true rfl)) dX12_digest_45 ⟨by decide +kernel, by decide +kernel⟩) hS (fun q _ h => hFc q h) hFc (fun r_19 u₀ t₀ H1 locs ht hvm hw hB hz1 hk1 hS => ?_)
  obtain ⟨hP1, hK1, hD1⟩ := hB
  rw [ht] at hP1
  obtain ⟨hP, hD⟩ := va_join (wr := []) (w1 := [(hm, .inr (11, [.ref vFo, .ref vSi, .ref vIt, .ref vMo, .int 0, .ref vBy, .ref vTy, .int 0, .ref vMi, .int 0, .ref vPs, .int 0, .ref vGs, .int 0, .ref vFt, .int 0, .ref vTo, .int 0, .int 0, .int 0, .int 16777215, .int 0, .int 0, .ref vPr, .ref vSt, .ref vFn, .int 0, .ref vSg, .ref vAl, .int 0])), (vTy, .inl (cI, 3, .inl (fun _ => 0)))]) hP hD [0, 1] [] rfl rfl (by decide) (by decide) hk1 hFc hP1 hD1
  generalize H1 = H at hP hS ⊢
  have hP : va_P (dC, dI) vwCl [(hm, .inr (11, [.ref vFo, .ref vSi, .ref vIt, .ref vMo, .int 0, .ref vBy, .ref vTy, .int 0, .ref vMi, .int 0, .ref vPs, .int 0, .ref vGs, .int 0, .ref vFt, .int 0, .ref vTo, .int 0, .int 0, .int 0, .int 16777215, .int 0, .int 0, .ref vPr, .ref vSt, .ref vFn, .int 0, .ref vSg, .ref vAl, .int 0])), (vTy, .inl (cI, 3, .inl (fun _ => 0)))] H := hP
  have hD : va_D A [(hm, .inr (11, [.ref vFo, .ref vSi, .ref vIt, .ref vMo, .int 0, .ref vBy, .ref vTy, .int 0, .ref vMi, .int 0, .ref vPs, .int 0, .ref vGs, .int 0, .ref vFt, .int 0, .ref vTo, .int 0, .int 0, .int 0, .int 16777215, .int 0, .int 0, .ref vPr, .ref vSt, .ref vFn, .int 0, .ref vSg, .ref vAl, .int 0])), (vTy, .inl (cI, 3, .inl (fun _ => 0)))] := hD
  try dsimp only at hw
  refine k_topi (v := (-1)) hw ?_
  refine lv_i2l (v := (-1)) hx₀ hb dX12_digest_48 (by decide +kernel) ?_
  refine lv_ladd hx₀ hb dX12_digest_49 ?_
  refine k_topl (v := 431944107238881134) (by decide +kernel) ?_
  refine lv_lstore_n (lv' := [(1, .long 431944107238881134), (3, .int 2), (0, .ref hm)]) hx₀ hb dX12_digest_50 rfl hl (by decide) rfl (fun ls hl => ?_)
  refine lv_iinc (v := 3) (lv' := [(3, .int 3), (1, .long 431944107238881134), (0, .ref hm)]) hx₀ hb dX12_digest_51 hl (k := 1) rfl (by decide +kernel) (by decide) rfl (fun ls hl => ?_)
  refine lv_goto (tgt := 33) hx₀ hb dX12_digest_54 (by decide) ?_
  refine lv_iload_n hx₀ hb dX12_digest_33 rfl (lv_at hl 0 rfl) ?_
  refine lv_iconst (v := 3) hx₀ hb dX12_digest_34 (by decide +kernel) ?_
  refine lv_icmp_ge (tgt := 57) hx₀ hb dX12_digest_35 (by decide) (fun _ => ?_) (fun c9 => absurd (by decide +kernel) c9)
  refine lv_iconst (v := 0) hx₀ hb dX12_digest_57 (by decide +kernel) ?_
  refine lv_istore_n (lv' := [(3, .int 0), (1, .long 431944107238881134), (0, .ref hm)]) hx₀ hb dX12_digest_58 rfl hl (by decide) rfl (fun ls hl => ?_)
  refine lv_iload_n hx₀ hb dX12_digest_59 rfl (lv_at hl 0 rfl) ?_
  refine lv_aload_n hx₀ hb dX12_digest_60 rfl (lv_at hl 2 rfl) ?_
  refine va_get (D := (dC, dI)) (ci := 11) (v := .int 0) (C := RX12) (T := TX12) (N := 30) hx₀ hb hts inlX12 hown hK hP 0 rfl rfl 7 (by decide) (hts (.fieldLink RX12 107 "BittenStickModel" "miles" "I") wd_252) (fun _ h9 => h9) rfl dX12_digest_61 ?_
  refine lv_icmp_ge (tgt := 87) hx₀ hb dX12_digest_64 (by decide) (fun _ => ?_) (fun c9 => absurd (by decide +kernel) c9)
  refine lv_iconst (v := 0) hx₀ hb dX12_digest_87 (by decide +kernel) ?_
  refine lv_istore_n (lv' := [(3, .int 0), (1, .long 431944107238881134), (0, .ref hm)]) hx₀ hb dX12_digest_88 rfl hl (by decide) rfl (fun ls hl => ?_)
  refine lv_iload_n hx₀ hb dX12_digest_89 rfl (lv_at hl 0 rfl) ?_
  refine lv_aload_n hx₀ hb dX12_digest_90 rfl (lv_at hl 2 rfl) ?_
  refine va_get (D := (dC, dI)) (ci := 11) (v := .int 0) (C := RX12) (T := TX12) (N := 30) hx₀ hb hts inlX12 hown hK hP 0 rfl rfl 9 (by decide) (hts (.fieldLink RX12 116 "BittenStickModel" "passengers" "I") wd_265) (fun _ h9 => h9) rfl dX12_digest_91 ?_
  refine lv_icmp_ge (tgt := 163) hx₀ hb dX12_digest_94 (by decide) (fun _ => ?_) (fun c9 => absurd (by decide +kernel) c9)
  refine lv_iconst (v := 0) hx₀ hb dX12_digest_163 (by decide +kernel) ?_
  refine lv_istore_n (lv' := [(3, .int 0), (1, .long 431944107238881134), (0, .ref hm)]) hx₀ hb dX12_digest_164 rfl hl (by decide) rfl (fun ls hl => ?_)
  refine lv_iload_n hx₀ hb dX12_digest_165 rfl (lv_at hl 0 rfl) ?_
  refine lv_aload_n hx₀ hb dX12_digest_166 rfl (lv_at hl 2 rfl) ?_
  refine va_get (D := (dC, dI)) (ci := 11) (v := .int 0) (C := RX12) (T := TX12) (N := 30) hx₀ hb hts inlX12 hown hK hP 0 rfl rfl 11 (by decide) (hts (.fieldLink RX12 122 "BittenStickModel" "geese" "I") wd_277) (fun _ h9 => h9) rfl dX12_digest_167 ?_
  refine lv_icmp_ge (tgt := 213) hx₀ hb dX12_digest_170 (by decide) (fun _ => ?_) (fun c9 => absurd (by decide +kernel) c9)
  refine lv_iconst (v := 0) hx₀ hb dX12_digest_213 (by decide +kernel) ?_
  refine lv_istore_n (lv' := [(3, .int 0), (1, .long 431944107238881134), (0, .ref hm)]) hx₀ hb dX12_digest_214 rfl hl (by decide) rfl (fun ls hl => ?_)
  refine lv_iload_n hx₀ hb dX12_digest_215 rfl (lv_at hl 0 rfl) ?_
  refine lv_aload_n hx₀ hb dX12_digest_216 rfl (lv_at hl 2 rfl) ?_
  refine va_get (D := (dC, dI)) (ci := 11) (v := .int 0) (C := RX12) (T := TX12) (N := 30) hx₀ hb hts inlX12 hown hK hP 0 rfl rfl 13 (by decide) (hts (.fieldLink RX12 159 "BittenStickModel" "flights" "I") wd_364) (fun _ h9 => h9) rfl dX12_digest_217 ?_
  refine lv_icmp_ge (tgt := 236) hx₀ hb dX12_digest_220 (by decide) (fun _ => ?_) (fun c9 => absurd (by decide +kernel) c9)
  refine lv_ldc2 (v := 31) hx₀ hb hown (hts (.constantLong RX12 294 (31)) wd_991) dX12_digest_236 ?_
  refine lv_lload_n hx₀ hb dX12_digest_239 rfl (lv_at hl 1 rfl) ?_
  refine lv_lmul hx₀ hb dX12_digest_240 ?_
  refine k_topl (v := (-5056476749304236462)) (by decide +kernel) ?_
  refine lv_aload_n hx₀ hb dX12_digest_241 rfl (lv_at hl 2 rfl) ?_
  have hPc := hP.sub (ws' := [(hm, .inr (11, [.ref vFo, .ref vSi, .ref vIt, .ref vMo, .int 0, .ref vBy, .ref vTy, .int 0, .ref vMi, .int 0, .ref vPs, .int 0, .ref vGs, .int 0, .ref vFt, .int 0, .ref vTo, .int 0, .int 0, .int 0, .int 16777215, .int 0, .int 0, .ref vPr, .ref vSt, .ref vFn, .int 0, .ref vSg, .ref vAl, .int 0]))]) [0] rfl
  have hDc := hD.sub (ws' := [(hm, .inr (11, [.ref vFo, .ref vSi, .ref vIt, .ref vMo, .int 0, .ref vBy, .ref vTy, .int 0, .ref vMi, .int 0, .ref vPs, .int 0, .ref vGs, .int 0, .ref vFt, .int 0, .ref vTo, .int 0, .int 0, .int 0, .int 16777215, .int 0, .int 0, .ref vPr, .ref vSt, .ref vFn, .int 0, .ref vSg, .ref vAl, .int 0]))]) [0] (by decide) rfl
  have hFc := va_free (wc := [(hm, .inr (11, [.ref vFo, .ref vSi, .ref vIt, .ref vMo, .int 0, .ref vBy, .ref vTy, .int 0, .ref vMi, .int 0, .ref vPs, .int 0, .ref vGs, .int 0, .ref vFt, .int 0, .ref vTo, .int 0, .int 0, .int 0, .int 16777215, .int 0, .int 0, .ref vPr, .ref vSt, .ref vFn, .int 0, .ref vSg, .ref vAl, .int 0]))]) hD hS hA [0] rfl
  refine va_calli (va_runV (As := []) (rest := [.long (-5056476749304236462)]) ⟨hx₀, hb, hml, hown, hts⟩ (m_farNow l dC dI cI cJ cQ H.size hm vFo vSi vIt vMo vBy vTy vMi vPs vGs vFt vTo vPr vSt vFn vSg vAl) (cwV 0 hts (kGV wd_610 wd_607 wd_608 wd_609 wd_5) rfl rfl rfl (by decide +kernel) ⟨Nat.le_of_ble_eq_true rfl, Nat.le_of_ble_eq_true rfl⟩) (k_preV (ci := 11) (q0 := 0) hK hPc hDc hN rfl rfl) rfl rfl hl.1 rfl (lv_room (Nat.le_of_ble_eq_true rfl)) dX12_digest_242 ⟨by decide +kernel, by decide +kernel⟩) hS (fun q _ h => hFc q h) hFc (fun r_20 u₀ t₀ H1 locs ht hvm hw hB hz1 hk1 hS => ?_)
  obtain ⟨hP1, hK1, hD1⟩ := hB
  rw [ht] at hP1
  obtain ⟨hP, hD⟩ := va_join (wr := [(vTy, .inl (cI, 3, .inl (fun _ => 0)))]) (w1 := [(hm, .inr (11, [.ref vFo, .ref vSi, .ref vIt, .ref vMo, .int 0, .ref vBy, .ref vTy, .int 0, .ref vMi, .int 0, .ref vPs, .int 0, .ref vGs, .int 0, .ref vFt, .int 0, .ref vTo, .int 0, .int 0, .int 0, .int 16777215, .int 0, .int 0, .ref vPr, .ref vSt, .ref vFn, .int 0, .ref vSg, .ref vAl, .int 0]))]) hP hD [0] [1] rfl rfl (by decide) (by decide) hk1 hFc hP1 hD1
  generalize H1 = H at hP hS ⊢
  have hP : va_P (dC, dI) vwCl [(vTy, .inl (cI, 3, .inl (fun _ => 0))), (hm, .inr (11, [.ref vFo, .ref vSi, .ref vIt, .ref vMo, .int 0, .ref vBy, .ref vTy, .int 0, .ref vMi, .int 0, .ref vPs, .int 0, .ref vGs, .int 0, .ref vFt, .int 0, .ref vTo, .int 0, .int 0, .int 0, .int 16777215, .int 0, .int 0, .ref vPr, .ref vSt, .ref vFn, .int 0, .ref vSg, .ref vAl, .int 0]))] H := hP
  have hD : va_D A [(vTy, .inl (cI, 3, .inl (fun _ => 0))), (hm, .inr (11, [.ref vFo, .ref vSi, .ref vIt, .ref vMo, .int 0, .ref vBy, .ref vTy, .int 0, .ref vMi, .int 0, .ref vPs, .int 0, .ref vGs, .int 0, .ref vFt, .int 0, .ref vTo, .int 0, .int 0, .int 0, .int 16777215, .int 0, .int 0, .ref vPr, .ref vSt, .ref vFn, .int 0, .ref vSg, .ref vAl, .int 0]))] := hD
  try dsimp only at hw
  refine k_topi (v := (-1)) hw ?_
  refine lv_i2l (v := (-1)) hx₀ hb dX12_digest_245 (by decide +kernel) ?_
  refine lv_ladd hx₀ hb dX12_digest_246 ?_
  refine k_topl (v := (-5056476749304236463)) (by decide +kernel) ?_
  refine lv_lstore_n (lv' := [(1, .long (-5056476749304236463)), (3, .int 0), (0, .ref hm)]) hx₀ hb dX12_digest_247 rfl hl (by decide) rfl (fun ls hl => ?_)
  refine lv_ldc2 (v := 31) hx₀ hb hown (hts (.constantLong RX12 294 (31)) wd_991) dX12_digest_248 ?_
  refine lv_lload_n hx₀ hb dX12_digest_251 rfl (lv_at hl 0 rfl) ?_
  refine lv_lmul hx₀ hb dX12_digest_252 ?_
  refine k_topl (v := (-9176826638754917425)) (by decide +kernel) ?_
  refine lv_aload_n hx₀ hb dX12_digest_253 rfl (lv_at hl 2 rfl) ?_
  refine lv_bipush (v := 7) hx₀ hb dX12_digest_254 (by decide +kernel) ?_
  refine lv_bipush (v := 30) hx₀ hb dX12_digest_256 (by decide +kernel) ?_
  refine lv_iconst (v := 0) hx₀ hb dX12_digest_258 (by decide +kernel) ?_
  have hPc := hP.sub (ws' := [(hm, .inr (11, [.ref vFo, .ref vSi, .ref vIt, .ref vMo, .int 0, .ref vBy, .ref vTy, .int 0, .ref vMi, .int 0, .ref vPs, .int 0, .ref vGs, .int 0, .ref vFt, .int 0, .ref vTo, .int 0, .int 0, .int 0, .int 16777215, .int 0, .int 0, .ref vPr, .ref vSt, .ref vFn, .int 0, .ref vSg, .ref vAl, .int 0]))]) [1] rfl
  have hDc := hD.sub (ws' := [(hm, .inr (11, [.ref vFo, .ref vSi, .ref vIt, .ref vMo, .int 0, .ref vBy, .ref vTy, .int 0, .ref vMi, .int 0, .ref vPs, .int 0, .ref vGs, .int 0, .ref vFt, .int 0, .ref vTo, .int 0, .int 0, .int 0, .int 16777215, .int 0, .int 0, .ref vPr, .ref vSt, .ref vFn, .int 0, .ref vSg, .ref vAl, .int 0]))]) [1] (by decide) rfl
  have hFc := va_free (wc := [(hm, .inr (11, [.ref vFo, .ref vSi, .ref vIt, .ref vMo, .int 0, .ref vBy, .ref vTy, .int 0, .ref vMi, .int 0, .ref vPs, .int 0, .ref vGs, .int 0, .ref vFt, .int 0, .ref vTo, .int 0, .int 0, .int 0, .int 16777215, .int 0, .int 0, .ref vPr, .ref vSt, .ref vFn, .int 0, .ref vSg, .ref vAl, .int 0]))]) hD hS hA [1] rfl
  refine va_calli (va_runV (As := [.int 7, .int 30, .int 0]) (rest := [.long (-9176826638754917425)]) ⟨hx₀, hb, hml, hown, hts⟩ (m_lakesOf l dC dI cI cJ cQ H.size hm 7 30 0 vFo vSi vIt vMo vBy vTy vMi vPs vGs vFt vTo vPr vSt vFn vSg vAl 0) (cwV 3 hts (kGV wd_851 wd_848 wd_849 wd_850 wd_5) rfl rfl rfl (by decide +kernel) ⟨Nat.le_of_ble_eq_true rfl, Nat.le_of_ble_eq_true rfl⟩) (k_preV (ci := 11) (q0 := 0) hK hPc hDc hN rfl rfl) rfl rfl hl.1 rfl (lv_room (Nat.le_of_ble_eq_true rfl)) dX12_digest_259 ⟨by decide +kernel, by decide +kernel⟩) hS (fun q _ h => hFc q h) hFc (fun r_21 u₀ t₀ H1 locs ht hvm hw hB hz1 hk1 hS => ?_)
  obtain ⟨hP1, hK1, hD1⟩ := hB
  rw [ht] at hP1
  obtain ⟨hP, hD⟩ := va_join (wr := [(vTy, .inl (cI, 3, .inl (fun _ => 0)))]) (w1 := [(hm, .inr (11, [.ref vFo, .ref vSi, .ref vIt, .ref vMo, .int 0, .ref vBy, .ref vTy, .int 0, .ref vMi, .int 0, .ref vPs, .int 0, .ref vGs, .int 0, .ref vFt, .int 0, .ref vTo, .int 0, .int 0, .int 0, .int 16777215, .int 0, .int 0, .ref vPr, .ref vSt, .ref vFn, .int 0, .ref vSg, .ref vAl, .int 7]))]) hP hD [1] [0] rfl rfl (by decide) (by decide) hk1 hFc hP1 hD1
  generalize H1 = H at hP hS ⊢
  have hP : va_P (dC, dI) vwCl [(vTy, .inl (cI, 3, .inl (fun _ => 0))), (hm, .inr (11, [.ref vFo, .ref vSi, .ref vIt, .ref vMo, .int 0, .ref vBy, .ref vTy, .int 0, .ref vMi, .int 0, .ref vPs, .int 0, .ref vGs, .int 0, .ref vFt, .int 0, .ref vTo, .int 0, .int 0, .int 0, .int 16777215, .int 0, .int 0, .ref vPr, .ref vSt, .ref vFn, .int 0, .ref vSg, .ref vAl, .int 7]))] H := hP
  have hD : va_D A [(vTy, .inl (cI, 3, .inl (fun _ => 0))), (hm, .inr (11, [.ref vFo, .ref vSi, .ref vIt, .ref vMo, .int 0, .ref vBy, .ref vTy, .int 0, .ref vMi, .int 0, .ref vPs, .int 0, .ref vGs, .int 0, .ref vFt, .int 0, .ref vTo, .int 0, .int 0, .int 0, .int 16777215, .int 0, .int 0, .ref vPr, .ref vSt, .ref vFn, .int 0, .ref vSg, .ref vAl, .int 7]))] := hD
  try dsimp only at hw
  refine k_topi (v := 0) hw ?_
  refine lv_i2l (v := 0) hx₀ hb dX12_digest_262 (by decide +kernel) ?_
  refine lv_ladd hx₀ hb dX12_digest_263 ?_
  refine k_topl (v := (-9176826638754917425)) (by decide +kernel) ?_
  refine lv_lstore_n (lv' := [(1, .long (-9176826638754917425)), (3, .int 0), (0, .ref hm)]) hx₀ hb dX12_digest_264 rfl hl (by decide) rfl (fun ls hl => ?_)
  refine lv_ldc2 (v := 31) hx₀ hb hown (hts (.constantLong RX12 294 (31)) wd_991) dX12_digest_265 ?_
  refine lv_lload_n hx₀ hb dX12_digest_268 rfl (lv_at hl 0 rfl) ?_
  refine lv_lmul hx₀ hb dX12_digest_269 ?_
  refine k_topl (v := (-7780464695759165935)) (by decide +kernel) ?_
  refine lv_aload_n hx₀ hb dX12_digest_270 rfl (lv_at hl 2 rfl) ?_
  refine lv_bipush (v := 7) hx₀ hb dX12_digest_271 (by decide +kernel) ?_
  refine lv_bipush (v := 30) hx₀ hb dX12_digest_273 (by decide +kernel) ?_
  refine lv_iconst (v := 1) hx₀ hb dX12_digest_275 (by decide +kernel) ?_
  have hPc := hP.sub (ws' := [(hm, .inr (11, [.ref vFo, .ref vSi, .ref vIt, .ref vMo, .int 0, .ref vBy, .ref vTy, .int 0, .ref vMi, .int 0, .ref vPs, .int 0, .ref vGs, .int 0, .ref vFt, .int 0, .ref vTo, .int 0, .int 0, .int 0, .int 16777215, .int 0, .int 0, .ref vPr, .ref vSt, .ref vFn, .int 0, .ref vSg, .ref vAl, .int 7]))]) [1] rfl
  have hDc := hD.sub (ws' := [(hm, .inr (11, [.ref vFo, .ref vSi, .ref vIt, .ref vMo, .int 0, .ref vBy, .ref vTy, .int 0, .ref vMi, .int 0, .ref vPs, .int 0, .ref vGs, .int 0, .ref vFt, .int 0, .ref vTo, .int 0, .int 0, .int 0, .int 16777215, .int 0, .int 0, .ref vPr, .ref vSt, .ref vFn, .int 0, .ref vSg, .ref vAl, .int 7]))]) [1] (by decide) rfl
  have hFc := va_free (wc := [(hm, .inr (11, [.ref vFo, .ref vSi, .ref vIt, .ref vMo, .int 0, .ref vBy, .ref vTy, .int 0, .ref vMi, .int 0, .ref vPs, .int 0, .ref vGs, .int 0, .ref vFt, .int 0, .ref vTo, .int 0, .int 0, .int 0, .int 16777215, .int 0, .int 0, .ref vPr, .ref vSt, .ref vFn, .int 0, .ref vSg, .ref vAl, .int 7]))]) hD hS hA [1] rfl
  refine va_calli (va_runV (As := [.int 7, .int 30, .int 1]) (rest := [.long (-7780464695759165935)]) ⟨hx₀, hb, hml, hown, hts⟩ (m_lakesOf l dC dI cI cJ cQ H.size hm 7 30 1 vFo vSi vIt vMo vBy vTy vMi vPs vGs vFt vTo vPr vSt vFn vSg vAl 7) (cwV 3 hts (kGV wd_851 wd_848 wd_849 wd_850 wd_5) rfl rfl rfl (by decide +kernel) ⟨Nat.le_of_ble_eq_true rfl, Nat.le_of_ble_eq_true rfl⟩) (k_preV (ci := 11) (q0 := 0) hK hPc hDc hN rfl rfl) rfl rfl hl.1 rfl (lv_room (Nat.le_of_ble_eq_true rfl)) dX12_digest_276 ⟨by decide +kernel, by decide +kernel⟩) hS (fun q _ h => hFc q h) hFc (fun r_22 u₀ t₀ H1 locs ht hvm hw hB hz1 hk1 hS => ?_)
  obtain ⟨hP1, hK1, hD1⟩ := hB
  rw [ht] at hP1
  obtain ⟨hP, hD⟩ := va_join (wr := [(vTy, .inl (cI, 3, .inl (fun _ => 0)))]) (w1 := [(hm, .inr (11, [.ref vFo, .ref vSi, .ref vIt, .ref vMo, .int 0, .ref vBy, .ref vTy, .int 0, .ref vMi, .int 0, .ref vPs, .int 0, .ref vGs, .int 0, .ref vFt, .int 0, .ref vTo, .int 0, .int 0, .int 0, .int 16777215, .int 0, .int 0, .ref vPr, .ref vSt, .ref vFn, .int 0, .ref vSg, .ref vAl, .int 7]))]) hP hD [1] [0] rfl rfl (by decide) (by decide) hk1 hFc hP1 hD1
  generalize H1 = H at hP hS ⊢
  have hP : va_P (dC, dI) vwCl [(vTy, .inl (cI, 3, .inl (fun _ => 0))), (hm, .inr (11, [.ref vFo, .ref vSi, .ref vIt, .ref vMo, .int 0, .ref vBy, .ref vTy, .int 0, .ref vMi, .int 0, .ref vPs, .int 0, .ref vGs, .int 0, .ref vFt, .int 0, .ref vTo, .int 0, .int 0, .int 0, .int 16777215, .int 0, .int 0, .ref vPr, .ref vSt, .ref vFn, .int 0, .ref vSg, .ref vAl, .int 7]))] H := hP
  have hD : va_D A [(vTy, .inl (cI, 3, .inl (fun _ => 0))), (hm, .inr (11, [.ref vFo, .ref vSi, .ref vIt, .ref vMo, .int 0, .ref vBy, .ref vTy, .int 0, .ref vMi, .int 0, .ref vPs, .int 0, .ref vGs, .int 0, .ref vFt, .int 0, .ref vTo, .int 0, .int 0, .int 0, .int 16777215, .int 0, .int 0, .ref vPr, .ref vSt, .ref vFn, .int 0, .ref vSg, .ref vAl, .int 7]))] := hD
  try dsimp only at hw
  refine k_topi (v := 0) hw ?_
  refine lv_i2l (v := 0) hx₀ hb dX12_digest_279 (by decide +kernel) ?_
  refine lv_ladd hx₀ hb dX12_digest_280 ?_
  refine k_topl (v := (-7780464695759165935)) (by decide +kernel) ?_
  exact W.lret (v := (-7780464695759165935)) hx₀ hb hr (fun t₀ ht hW => ⟨⟨(-7780464695759165935), (), rfl, rfl, trivial⟩, hS.F ht⟩) hS.2.2 dX12_digest_281
