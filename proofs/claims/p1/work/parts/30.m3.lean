theorem lf_m_type_1 (t : Int32) (b : Int32) (c_2 : 0 ≤ t ∧ t ≤ 2) (c_4 : (0 : Int64) ≤ b.toInt64 ∧ b.toInt64 ≤ (255 : Int64)) (c_5 : ¬ t = 0) (c_6 : ¬ t = 1) : (1 : Int32) = if 0 ≤ t ∧ t ≤ 2 ∧ 0 ≤ b ∧ b ≤ 255 then 1 else -2 := by
  repeat first | rfl | rw [if_pos (by (first | omega | (simp only [Int64.le_iff_toInt_le, Int64.lt_iff_toInt_lt, Int32.le_iff_toInt_le, Int32.lt_iff_toInt_lt, ← Int32.toInt_inj, ← Int64.toInt_inj, Int32.toInt_toInt64, (show (-2 : Int32).toInt = -2 from by decide), (show (-2 : Int64).toInt = -2 from by decide), (show (0 : Int32).toInt = 0 from by decide), (show (0 : Int64).toInt = 0 from by decide), (show (1 : Int32).toInt = 1 from by decide), (show (1 : Int64).toInt = 1 from by decide), (show (2 : Int32).toInt = 2 from by decide), (show (2 : Int64).toInt = 2 from by decide), (show (255 : Int32).toInt = 255 from by decide), (show (255 : Int64).toInt = 255 from by decide)] at *; omega)))] | rw [if_neg (by (first | omega | (simp only [Int64.le_iff_toInt_le, Int64.lt_iff_toInt_lt, Int32.le_iff_toInt_le, Int32.lt_iff_toInt_lt, ← Int32.toInt_inj, ← Int64.toInt_inj, Int32.toInt_toInt64, (show (-2 : Int32).toInt = -2 from by decide), (show (-2 : Int64).toInt = -2 from by decide), (show (0 : Int32).toInt = 0 from by decide), (show (0 : Int64).toInt = 0 from by decide), (show (1 : Int32).toInt = 1 from by decide), (show (1 : Int64).toInt = 1 from by decide), (show (2 : Int32).toInt = 2 from by decide), (show (2 : Int64).toInt = 2 from by decide), (show (255 : Int32).toInt = 255 from by decide), (show (255 : Int64).toInt = 255 from by decide)] at *; omega)))]
theorem lf_m_type_2 (t : Int32) (b : Int32) (c_2 : 0 ≤ t ∧ t ≤ 2) (c_4 : (0 : Int64) ≤ b.toInt64 ∧ b.toInt64 ≤ (255 : Int64)) (c_5 : ¬ t = 0) (c_6 : t = 1) : (1 : Int32) = if 0 ≤ t ∧ t ≤ 2 ∧ 0 ≤ b ∧ b ≤ 255 then 1 else -2 := by
  repeat first | rfl | rw [if_pos (by (first | omega | (simp only [Int64.le_iff_toInt_le, Int64.lt_iff_toInt_lt, Int32.le_iff_toInt_le, Int32.lt_iff_toInt_lt, ← Int32.toInt_inj, ← Int64.toInt_inj, Int32.toInt_toInt64, (show (-2 : Int32).toInt = -2 from by decide), (show (-2 : Int64).toInt = -2 from by decide), (show (0 : Int32).toInt = 0 from by decide), (show (0 : Int64).toInt = 0 from by decide), (show (1 : Int32).toInt = 1 from by decide), (show (1 : Int64).toInt = 1 from by decide), (show (2 : Int32).toInt = 2 from by decide), (show (2 : Int64).toInt = 2 from by decide), (show (255 : Int32).toInt = 255 from by decide), (show (255 : Int64).toInt = 255 from by decide)] at *; omega)))] | rw [if_neg (by (first | omega | (simp only [Int64.le_iff_toInt_le, Int64.lt_iff_toInt_lt, Int32.le_iff_toInt_le, Int32.lt_iff_toInt_lt, ← Int32.toInt_inj, ← Int64.toInt_inj, Int32.toInt_toInt64, (show (-2 : Int32).toInt = -2 from by decide), (show (-2 : Int64).toInt = -2 from by decide), (show (0 : Int32).toInt = 0 from by decide), (show (0 : Int64).toInt = 0 from by decide), (show (1 : Int32).toInt = 1 from by decide), (show (1 : Int64).toInt = 1 from by decide), (show (2 : Int32).toInt = 2 from by decide), (show (2 : Int64).toInt = 2 from by decide), (show (255 : Int32).toInt = 255 from by decide), (show (255 : Int64).toInt = 255 from by decide)] at *; omega)))]
theorem lf_m_type_3 (t : Int32) (b : Int32) (c_2 : 0 ≤ t ∧ t ≤ 2) (c_4 : (0 : Int64) ≤ b.toInt64 ∧ b.toInt64 ≤ (255 : Int64)) (c_5 : t = 0) : (1 : Int32) = if 0 ≤ t ∧ t ≤ 2 ∧ 0 ≤ b ∧ b ≤ 255 then 1 else -2 := by
  repeat first | rfl | rw [if_pos (by (first | omega | (simp only [Int64.le_iff_toInt_le, Int64.lt_iff_toInt_lt, Int32.le_iff_toInt_le, Int32.lt_iff_toInt_lt, ← Int32.toInt_inj, ← Int64.toInt_inj, Int32.toInt_toInt64, (show (-2 : Int32).toInt = -2 from by decide), (show (-2 : Int64).toInt = -2 from by decide), (show (0 : Int32).toInt = 0 from by decide), (show (0 : Int64).toInt = 0 from by decide), (show (1 : Int32).toInt = 1 from by decide), (show (1 : Int64).toInt = 1 from by decide), (show (2 : Int32).toInt = 2 from by decide), (show (2 : Int64).toInt = 2 from by decide), (show (255 : Int32).toInt = 255 from by decide), (show (255 : Int64).toInt = 255 from by decide)] at *; omega)))] | rw [if_neg (by (first | omega | (simp only [Int64.le_iff_toInt_le, Int64.lt_iff_toInt_lt, Int32.le_iff_toInt_le, Int32.lt_iff_toInt_lt, ← Int32.toInt_inj, ← Int64.toInt_inj, Int32.toInt_toInt64, (show (-2 : Int32).toInt = -2 from by decide), (show (-2 : Int64).toInt = -2 from by decide), (show (0 : Int32).toInt = 0 from by decide), (show (0 : Int64).toInt = 0 from by decide), (show (1 : Int32).toInt = 1 from by decide), (show (1 : Int64).toInt = 1 from by decide), (show (2 : Int32).toInt = 2 from by decide), (show (2 : Int64).toInt = 2 from by decide), (show (255 : Int32).toInt = 255 from by decide), (show (255 : Int64).toInt = 255 from by decide)] at *; omega)))]
theorem lf_m_type_4 (t : Int32) (b : Int32) (c_2 : 0 ≤ t ∧ t ≤ 2) (c_4 : ¬ ((0 : Int64) ≤ b.toInt64 ∧ b.toInt64 ≤ (255 : Int64))) : ((-2) : Int32) = if 0 ≤ t ∧ t ≤ 2 ∧ 0 ≤ b ∧ b ≤ 255 then 1 else -2 := by
  repeat first | rfl | rw [if_pos (by (first | omega | (simp only [Int64.le_iff_toInt_le, Int64.lt_iff_toInt_lt, Int32.le_iff_toInt_le, Int32.lt_iff_toInt_lt, ← Int32.toInt_inj, ← Int64.toInt_inj, Int32.toInt_toInt64, (show (-2 : Int32).toInt = -2 from by decide), (show (-2 : Int64).toInt = -2 from by decide), (show (0 : Int32).toInt = 0 from by decide), (show (0 : Int64).toInt = 0 from by decide), (show (1 : Int32).toInt = 1 from by decide), (show (1 : Int64).toInt = 1 from by decide), (show (2 : Int32).toInt = 2 from by decide), (show (2 : Int64).toInt = 2 from by decide), (show (255 : Int32).toInt = 255 from by decide), (show (255 : Int64).toInt = 255 from by decide)] at *; omega)))] | rw [if_neg (by (first | omega | (simp only [Int64.le_iff_toInt_le, Int64.lt_iff_toInt_lt, Int32.le_iff_toInt_le, Int32.lt_iff_toInt_lt, ← Int32.toInt_inj, ← Int64.toInt_inj, Int32.toInt_toInt64, (show (-2 : Int32).toInt = -2 from by decide), (show (-2 : Int64).toInt = -2 from by decide), (show (0 : Int32).toInt = 0 from by decide), (show (0 : Int64).toInt = 0 from by decide), (show (1 : Int32).toInt = 1 from by decide), (show (1 : Int64).toInt = 1 from by decide), (show (2 : Int32).toInt = 2 from by decide), (show (2 : Int64).toInt = 2 from by decide), (show (255 : Int32).toInt = 255 from by decide), (show (255 : Int64).toInt = 255 from by decide)] at *; omega)))]
theorem lf_m_type_5 (t : Int32) (b : Int32) (c_2 : ¬ (0 ≤ t ∧ t ≤ 2)) : ((-2) : Int32) = if 0 ≤ t ∧ t ≤ 2 ∧ 0 ≤ b ∧ b ≤ 255 then 1 else -2 := by
  repeat first | rfl | rw [if_pos (by (first | omega | (simp only [Int64.le_iff_toInt_le, Int64.lt_iff_toInt_lt, Int32.le_iff_toInt_le, Int32.lt_iff_toInt_lt, ← Int32.toInt_inj, ← Int64.toInt_inj, Int32.toInt_toInt64, (show (-2 : Int32).toInt = -2 from by decide), (show (-2 : Int64).toInt = -2 from by decide), (show (0 : Int32).toInt = 0 from by decide), (show (0 : Int64).toInt = 0 from by decide), (show (1 : Int32).toInt = 1 from by decide), (show (1 : Int64).toInt = 1 from by decide), (show (2 : Int32).toInt = 2 from by decide), (show (2 : Int64).toInt = 2 from by decide), (show (255 : Int32).toInt = 255 from by decide), (show (255 : Int64).toInt = 255 from by decide)] at *; omega)))] | rw [if_neg (by (first | omega | (simp only [Int64.le_iff_toInt_le, Int64.lt_iff_toInt_lt, Int32.le_iff_toInt_le, Int32.lt_iff_toInt_lt, ← Int32.toInt_inj, ← Int64.toInt_inj, Int32.toInt_toInt64, (show (-2 : Int32).toInt = -2 from by decide), (show (-2 : Int64).toInt = -2 from by decide), (show (0 : Int32).toInt = 0 from by decide), (show (0 : Int64).toInt = 0 from by decide), (show (1 : Int32).toInt = 1 from by decide), (show (1 : Int64).toInt = 1 from by decide), (show (2 : Int32).toInt = 2 from by decide), (show (2 : Int64).toInt = 2 from by decide), (show (255 : Int32).toInt = 255 from by decide), (show (255 : Int64).toInt = 255 from by decide)] at *; omega)))]
set_option maxHeartbeats 4000000 in
set_option maxRecDepth 100000 in
theorem m_type (l : Launch) (dC : Nat → ClassId) (dI : Nat → Nat → Nat) (cI cJ cQ : ClassId) (sz : Nat) (hm : Nat) (t : Int32) (b : Int32) (vFo : Nat) (vSi : Nat) (vIt : Nat) (vMo : Nat) (vBy : Nat) (vTy : Nat) (vMi : Nat) (vPs : Nat) (vGs : Nat) (vFt : Nat) (vTo : Nat) (vPr : Nat) (vSt : Nat) (vFn : Nat) (vSg : Nat) (vAl : Nat) : Met l yX12_type (kW yX12_type cX12_type 3 (some .int)) { frames := 2, cells := 0, slots := 0, locals := 45 } (kPre dC dI cI cJ cQ sz [.ref hm, .int t, .int b] [(hm, .inr (11, [.ref vFo, .ref vSi, .ref vIt, .ref vMo, .int 0, .ref vBy, .ref vTy, .int 0, .ref vMi, .int 0, .ref vPs, .int 0, .ref vGs, .int 0, .ref vFt, .int 0, .ref vTo, .int 0, .int 0, .int 0, .int 16777215, .int 0, .int 0, .ref vPr, .ref vSt, .ref vFn, .int 0, .ref vSg, .ref vAl, .int 0])), (vTy, .inl (cI, 3, .inl (fun _ => 0))), (vBy, .inl (cI, 120, .inl (fun _ => 0)))]) (va_Qi (fun (r : Int32) (_ : Unit) => r = if 0 ≤ t ∧ t ≤ 2 ∧ 0 ≤ b ∧ b ≤ 255 then 1 else -2) (fun _ _ => True) (va_A [(hm, .inr (11, [.ref vFo, .ref vSi, .ref vIt, .ref vMo, .int 0, .ref vBy, .ref vTy, .int 0, .ref vMi, .int 0, .ref vPs, .int 0, .ref vGs, .int 0, .ref vFt, .int 0, .ref vTo, .int 0, .int 0, .int 0, .int 16777215, .int 0, .int 0, .ref vPr, .ref vSt, .ref vFn, .int 0, .ref vSg, .ref vAl, .int 0])), (vTy, .inl (cI, 3, .inl (fun _ => 0))), (vBy, .inl (cI, 120, .inl (fun _ => 0)))] sz)) 0 0 (va_A [(hm, .inr (11, [.ref vFo, .ref vSi, .ref vIt, .ref vMo, .int 0, .ref vBy, .ref vTy, .int 0, .ref vMi, .int 0, .ref vPs, .int 0, .ref vGs, .int 0, .ref vFt, .int 0, .ref vTo, .int 0, .int 0, .int 0, .int 16777215, .int 0, .int 0, .ref vPr, .ref vSt, .ref vFn, .int 0, .ref vSg, .ref vAl, .int 0])), (vTy, .inl (cI, 3, .inl (fun _ => 0))), (vBy, .inl (cI, 120, .inl (fun _ => 0)))] sz) := by
  refine Met.ofW (cc := cX12_type) (maxL := 3) (ret := (some .int)) (by decide) rfl ?_
  intro p₀ e₀ s₀ m₀ args below meth c₀ s₁ B hml hv₀
  obtain ⟨rfl, hsz, hP, hK, hD0, hN⟩ := hv₀
  have hx₀ := B.exec
  have hb := B.bytes
  have hr := B.returns
  have hts := atoms_spec (ws := (kW yX12_type cX12_type 3 (some .int))) B.pre
  have hts := fun w h => hts w (List.mem_cons_of_mem _ h)
  have hown : s₀.vm.findClass RX12 = some m₀.cls := findClass_of_methodNamed B.named
  have hlocks := B.notSynchronized
  subst hsz
  have hD := hD0.self (sz := s₀.heap.size)
  generalize hAe : va_A [(hm, .inr (11, [.ref vFo, .ref vSi, .ref vIt, .ref vMo, .int 0, .ref vBy, .ref vTy, .int 0, .ref vMi, .int 0, .ref vPs, .int 0, .ref vGs, .int 0, .ref vFt, .int 0, .ref vTo, .int 0, .int 0, .int 0, .int 16777215, .int 0, .int 0, .ref vPr, .ref vSt, .ref vFn, .int 0, .ref vSg, .ref vAl, .int 0])), (vTy, .inl (cI, 3, .inl (fun _ => 0))), (vBy, .inl (cI, 120, .inl (fun _ => 0)))] s₀.heap.size = A at hD ⊢
  have hA : ∀ q : Nat, s₀.heap.size ≤ q → A q := fun q h => by rw [← hAe]; exact Or.inr h
  have hS : va_S A s₀.heap s₀.heap [] := va_S.rf
  have hP : va_P (dC, dI) vwCl [(hm, .inr (11, [.ref vFo, .ref vSi, .ref vIt, .ref vMo, .int 0, .ref vBy, .ref vTy, .int 0, .ref vMi, .int 0, .ref vPs, .int 0, .ref vGs, .int 0, .ref vFt, .int 0, .ref vTo, .int 0, .int 0, .int 0, .int 16777215, .int 0, .int 0, .ref vPr, .ref vSt, .ref vFn, .int 0, .ref vSg, .ref vAl, .int 0])), (vTy, .inl (cI, 3, .inl (fun _ => 0))), (vBy, .inl (cI, 120, .inl (fun _ => 0)))] s₀.heap := hP
  have hl := lv_entry ([.ref hm, .int t, .int b]) (n := 3) (Nat.le_of_ble_eq_true rfl)
  rw [lg_entry_eq]
  generalize (lg_sl ([.ref hm, .int t, .int b]) ++ List.replicate (3 - (lg_sl ([.ref hm, .int t, .int b])).length) Slot.unset).toArray = ls at hl ⊢
  have hl : lv_has ls 3 [(0, .ref hm), (1, .int t), (2, .int b)] := hl
  obtain ⟨H, hH⟩ : ∃ z : Heap, z = s₀.heap := ⟨_, rfl⟩
  rw [← hH] at hP
  have hS : va_S A s₀.heap H [] := by rw [hH]; exact hS
  refine k_heap hH ?_
  have hD : va_D A [(hm, .inr (11, [.ref vFo, .ref vSi, .ref vIt, .ref vMo, .int 0, .ref vBy, .ref vTy, .int 0, .ref vMi, .int 0, .ref vPs, .int 0, .ref vGs, .int 0, .ref vFt, .int 0, .ref vTo, .int 0, .int 0, .int 0, .int 16777215, .int 0, .int 0, .ref vPr, .ref vSt, .ref vFn, .int 0, .ref vSg, .ref vAl, .int 0])), (vTy, .inl (cI, 3, .inl (fun _ => 0))), (vBy, .inl (cI, 120, .inl (fun _ => 0)))] := hD
  obtain ⟨locs, hlo⟩ : ∃ z : List Loc, z = [] := ⟨_, rfl⟩
  rw [← hlo] at hS ⊢
  clear hlo hH hAe hD0
  refine lv_iload_n hx₀ hb dX12_type_0 rfl (lv_at hl 1 rfl) ?_
  have hPc := hP.sub (ws' := []) [] rfl
  have hDc := hD.sub (ws' := []) [] (by decide) rfl
  have hFc := va_free (wc := []) hD hS hA [] rfl
  refine va_calli (va_runS (As := [.int t]) (rest := []) ⟨hx₀, hb, hml, hown, hts⟩ (c_isText l dC dI cI cJ cQ H.size t) (va_cwS 1 hts (kGS wd_204 wd_202 wd_203 wd_5) rfl rfl rfl (by decide +kernel) ⟨Nat.le_of_ble_eq_true rfl, Nat.le_of_ble_eq_true rfl⟩) (k_preS hK hPc hDc hN) rfl rfl hl.1 rfl (lv_room (Nat.le_of_ble_eq_true rfl)) dX12_type_1 ⟨by decide +kernel, by decide +kernel⟩) hS (fun q _ h => hFc q h) hFc (fun r_1 u₀ t₀ H1 locs ht hvm hw hB hz1 hk1 hS => ?_)
  obtain ⟨hP1, hK1, hD1⟩ := hB
  rw [ht] at hP1
  obtain ⟨hP, hD⟩ := va_join (wr := [(hm, .inr (11, [.ref vFo, .ref vSi, .ref vIt, .ref vMo, .int 0, .ref vBy, .ref vTy, .int 0, .ref vMi, .int 0, .ref vPs, .int 0, .ref vGs, .int 0, .ref vFt, .int 0, .ref vTo, .int 0, .int 0, .int 0, .int 16777215, .int 0, .int 0, .ref vPr, .ref vSt, .ref vFn, .int 0, .ref vSg, .ref vAl, .int 0])), (vTy, .inl (cI, 3, .inl (fun _ => 0))), (vBy, .inl (cI, 120, .inl (fun _ => 0)))]) (w1 := []) hP hD [] [0, 1, 2] rfl rfl (by decide) (by decide) hk1 hFc hP1 hD1
  generalize H1 = H at hP hS ⊢
  have hP : va_P (dC, dI) vwCl [(hm, .inr (11, [.ref vFo, .ref vSi, .ref vIt, .ref vMo, .int 0, .ref vBy, .ref vTy, .int 0, .ref vMi, .int 0, .ref vPs, .int 0, .ref vGs, .int 0, .ref vFt, .int 0, .ref vTo, .int 0, .int 0, .int 0, .int 16777215, .int 0, .int 0, .ref vPr, .ref vSt, .ref vFn, .int 0, .ref vSg, .ref vAl, .int 0])), (vTy, .inl (cI, 3, .inl (fun _ => 0))), (vBy, .inl (cI, 120, .inl (fun _ => 0)))] H := hP
  have hD : va_D A [(hm, .inr (11, [.ref vFo, .ref vSi, .ref vIt, .ref vMo, .int 0, .ref vBy, .ref vTy, .int 0, .ref vMi, .int 0, .ref vPs, .int 0, .ref vGs, .int 0, .ref vFt, .int 0, .ref vTo, .int 0, .int 0, .int 0, .int 16777215, .int 0, .int 0, .ref vPr, .ref vSt, .ref vFn, .int 0, .ref vSg, .ref vAl, .int 0])), (vTy, .inl (cI, 3, .inl (fun _ => 0))), (vBy, .inl (cI, 120, .inl (fun _ => 0)))] := hD
  try dsimp only at hw
  by_cases c_2 : 0 ≤ t ∧ t ≤ 2
  · rw [if_pos c_2] at hw
    refine k_topi (v := 1) hw ?_
    refine lv_if_eq (tgt := 19) hx₀ hb dX12_type_4 (by decide) (fun c9 => absurd c9 (by decide +kernel)) (fun _ => ?_)
    refine lv_iload_n hx₀ hb dX12_type_7 rfl (lv_at hl 2 rfl) ?_
    refine lv_i2l hx₀ hb dX12_type_8 rfl ?_
    refine lv_lconst (v := 0) hx₀ hb dX12_type_9 (by decide +kernel) ?_
    refine lv_ldc2 (v := 255) hx₀ hb hown (hts (.constantLong RX12 96 (255)) wd_201) dX12_type_10 ?_
    have hPc := hP.sub (ws' := []) [] rfl
    have hDc := hD.sub (ws' := []) [] (by decide) rfl
    have hFc := va_free (wc := []) hD hS hA [] rfl
    refine va_calli (va_runS (As := [.long b.toInt64, .long 0, .long 255]) (rest := []) ⟨hx₀, hb, hml, hown, hts⟩ (c_in l dC dI cI cJ cQ H.size b.toInt64 0 255) (va_cwS 3 hts (kGS wd_208 wd_206 wd_207 wd_5) rfl rfl rfl (by decide +kernel) ⟨Nat.le_of_ble_eq_true rfl, Nat.le_of_ble_eq_true rfl⟩) (k_preS hK hPc hDc hN) rfl rfl hl.1 rfl (lv_room (Nat.le_of_ble_eq_true rfl)) dX12_type_13 ⟨by decide +kernel, by decide +kernel⟩) hS (fun q _ h => hFc q h) hFc (fun r_3 u₀ t₀ H1 locs ht hvm hw hB hz1 hk1 hS => ?_)
    obtain ⟨hP1, hK1, hD1⟩ := hB
    rw [ht] at hP1
    obtain ⟨hP, hD⟩ := va_join (wr := [(hm, .inr (11, [.ref vFo, .ref vSi, .ref vIt, .ref vMo, .int 0, .ref vBy, .ref vTy, .int 0, .ref vMi, .int 0, .ref vPs, .int 0, .ref vGs, .int 0, .ref vFt, .int 0, .ref vTo, .int 0, .int 0, .int 0, .int 16777215, .int 0, .int 0, .ref vPr, .ref vSt, .ref vFn, .int 0, .ref vSg, .ref vAl, .int 0])), (vTy, .inl (cI, 3, .inl (fun _ => 0))), (vBy, .inl (cI, 120, .inl (fun _ => 0)))]) (w1 := []) hP hD [] [0, 1, 2] rfl rfl (by decide) (by decide) hk1 hFc hP1 hD1
    generalize H1 = H at hP hS ⊢
    have hP : va_P (dC, dI) vwCl [(hm, .inr (11, [.ref vFo, .ref vSi, .ref vIt, .ref vMo, .int 0, .ref vBy, .ref vTy, .int 0, .ref vMi, .int 0, .ref vPs, .int 0, .ref vGs, .int 0, .ref vFt, .int 0, .ref vTo, .int 0, .int 0, .int 0, .int 16777215, .int 0, .int 0, .ref vPr, .ref vSt, .ref vFn, .int 0, .ref vSg, .ref vAl, .int 0])), (vTy, .inl (cI, 3, .inl (fun _ => 0))), (vBy, .inl (cI, 120, .inl (fun _ => 0)))] H := hP
    have hD : va_D A [(hm, .inr (11, [.ref vFo, .ref vSi, .ref vIt, .ref vMo, .int 0, .ref vBy, .ref vTy, .int 0, .ref vMi, .int 0, .ref vPs, .int 0, .ref vGs, .int 0, .ref vFt, .int 0, .ref vTo, .int 0, .int 0, .int 0, .int 16777215, .int 0, .int 0, .ref vPr, .ref vSt, .ref vFn, .int 0, .ref vSg, .ref vAl, .int 0])), (vTy, .inl (cI, 3, .inl (fun _ => 0))), (vBy, .inl (cI, 120, .inl (fun _ => 0)))] := hD
    try dsimp only at hw
    by_cases c_4 : (0 : Int64) ≤ b.toInt64 ∧ b.toInt64 ≤ (255 : Int64)
    · rw [if_pos c_4] at hw
      refine k_topi (v := 1) hw ?_
      refine lv_if_ne (tgt := 22) hx₀ hb dX12_type_16 (by decide) (fun _ => ?_) (fun c9 => absurd c9 (by decide +kernel))
      refine lv_aload_n hx₀ hb dX12_type_22 rfl (lv_at hl 0 rfl) ?_
      refine va_get (D := (dC, dI)) (ci := 11) (v := .ref vTy) (C := RX12) (T := TX12) (N := 30) hx₀ hb hts inlX12 hown hK hP 0 rfl rfl 6 (by decide) (hts (.fieldLink RX12 25 "BittenStickModel" "typed" "[I") wd_120) (fun _ h9 => h9) rfl dX12_type_23 ?_
      refine lv_iload_n hx₀ hb dX12_type_26 rfl (lv_at hl 1 rfl) ?_
      refine va_iald hx₀ hb hK hP 1 0 rfl rfl (k_in2 c_2) dX12_type_27 ?_
      refine k_topi (v := 0) rfl ?_
      refine lv_iload_n hx₀ hb dX12_type_28 rfl (lv_at hl 1 rfl) ?_
      refine lv_if_ne (tgt := 37) hx₀ hb dX12_type_29 (by decide) (fun c_5 => ?_) (fun c_5 => ?_)
      · refine lv_iload_n hx₀ hb dX12_type_37 rfl (lv_at hl 1 rfl) ?_
        refine lv_iconst (v := 1) hx₀ hb dX12_type_38 (by decide +kernel) ?_
        refine lv_icmp_ne (tgt := 47) hx₀ hb dX12_type_39 (by decide) (fun c_6 => ?_) (fun c_6 => ?_)
        · refine lv_bipush (v := 23) hx₀ hb dX12_type_47 (by decide +kernel) ?_
          refine lv_icmp_ne (tgt := 55) hx₀ hb dX12_type_49 (by decide) (fun _ => ?_) (fun c9 => absurd c9 (by decide +kernel))
          refine lv_aload_n hx₀ hb dX12_type_55 rfl (lv_at hl 0 rfl) ?_
          refine va_get (D := (dC, dI)) (ci := 11) (v := .ref vBy) (C := RX12) (T := TX12) (N := 30) hx₀ hb hts inlX12 hown hK hP 0 rfl rfl 5 (by decide) (hts (.fieldLink RX12 22 "BittenStickModel" "bytes" "[I") wd_119) (fun _ h9 => h9) rfl dX12_type_56 ?_
          refine lv_bipush (v := 40) hx₀ hb dX12_type_59 (by decide +kernel) ?_
          refine lv_iload_n hx₀ hb dX12_type_61 rfl (lv_at hl 1 rfl) ?_
          refine lv_imul hx₀ hb dX12_type_62 ?_
          refine lv_aload_n hx₀ hb dX12_type_63 rfl (lv_at hl 0 rfl) ?_
          refine va_get (D := (dC, dI)) (ci := 11) (v := .ref vTy) (C := RX12) (T := TX12) (N := 30) hx₀ hb hts inlX12 hown hK hP 0 rfl rfl 6 (by decide) (hts (.fieldLink RX12 25 "BittenStickModel" "typed" "[I") wd_120) (fun _ h9 => h9) rfl dX12_type_64 ?_
          refine lv_iload_n hx₀ hb dX12_type_67 rfl (lv_at hl 1 rfl) ?_
          refine va_iald hx₀ hb hK hP 1 0 rfl rfl (k_in2 c_2) dX12_type_68 ?_
          refine k_topi (v := 0) rfl ?_
          refine lv_iadd hx₀ hb dX12_type_69 ?_
          refine lv_iload_n hx₀ hb dX12_type_70 rfl (lv_at hl 2 rfl) ?_
          refine va_iast hx₀ hb hK hP hD hS 2 0 rfl rfl (k_in40 c_2) dX12_type_71 (fun H locs hP hD hS => ?_)
          have hP : va_P (dC, dI) vwCl [(hm, .inr (11, [.ref vFo, .ref vSi, .ref vIt, .ref vMo, .int 0, .ref vBy, .ref vTy, .int 0, .ref vMi, .int 0, .ref vPs, .int 0, .ref vGs, .int 0, .ref vFt, .int 0, .ref vTo, .int 0, .int 0, .int 0, .int 16777215, .int 0, .int 0, .ref vPr, .ref vSt, .ref vFn, .int 0, .ref vSg, .ref vAl, .int 0])), (vTy, .inl (cI, 3, .inl (fun _ => 0))), (vBy, .inl (cI, 120, .inl (upd (fun _ => 0) ((40 * t) + 0).toNatClampNeg b)))] H := hP
          have hD : va_D A [(hm, .inr (11, [.ref vFo, .ref vSi, .ref vIt, .ref vMo, .int 0, .ref vBy, .ref vTy, .int 0, .ref vMi, .int 0, .ref vPs, .int 0, .ref vGs, .int 0, .ref vFt, .int 0, .ref vTo, .int 0, .int 0, .int 0, .int 16777215, .int 0, .int 0, .ref vPr, .ref vSt, .ref vFn, .int 0, .ref vSg, .ref vAl, .int 0])), (vTy, .inl (cI, 3, .inl (fun _ => 0))), (vBy, .inl (cI, 120, .inl (upd (fun _ => 0) ((40 * t) + 0).toNatClampNeg b)))] := hD
          refine lv_aload_n hx₀ hb dX12_type_72 rfl (lv_at hl 0 rfl) ?_
          refine va_get (D := (dC, dI)) (ci := 11) (v := .ref vTy) (C := RX12) (T := TX12) (N := 30) hx₀ hb hts inlX12 hown hK hP 0 rfl rfl 6 (by decide) (hts (.fieldLink RX12 25 "BittenStickModel" "typed" "[I") wd_120) (fun _ h9 => h9) rfl dX12_type_73 ?_
          refine lv_iload_n hx₀ hb dX12_type_76 rfl (lv_at hl 1 rfl) ?_
          refine lv_dup2_11 hx₀ hb dX12_type_77 rfl rfl ?_
          refine va_iald hx₀ hb hK hP 1 0 rfl rfl (k_in2 c_2) dX12_type_78 ?_
          refine k_topi (v := 0) rfl ?_
          refine lv_iconst (v := 1) hx₀ hb dX12_type_79 (by decide +kernel) ?_
          refine lv_iadd hx₀ hb dX12_type_80 ?_
          refine k_topi (v := 1) (by decide +kernel) ?_
          refine va_iast hx₀ hb hK hP hD hS 1 0 rfl rfl (k_in2 c_2) dX12_type_81 (fun H locs hP hD hS => ?_)
          have hP : va_P (dC, dI) vwCl [(hm, .inr (11, [.ref vFo, .ref vSi, .ref vIt, .ref vMo, .int 0, .ref vBy, .ref vTy, .int 0, .ref vMi, .int 0, .ref vPs, .int 0, .ref vGs, .int 0, .ref vFt, .int 0, .ref vTo, .int 0, .int 0, .int 0, .int 16777215, .int 0, .int 0, .ref vPr, .ref vSt, .ref vFn, .int 0, .ref vSg, .ref vAl, .int 0])), (vTy, .inl (cI, 3, .inl (upd (fun _ => 0) t.toNatClampNeg 1))), (vBy, .inl (cI, 120, .inl (upd (fun _ => 0) ((40 * t) + 0).toNatClampNeg b)))] H := hP
          have hD : va_D A [(hm, .inr (11, [.ref vFo, .ref vSi, .ref vIt, .ref vMo, .int 0, .ref vBy, .ref vTy, .int 0, .ref vMi, .int 0, .ref vPs, .int 0, .ref vGs, .int 0, .ref vFt, .int 0, .ref vTo, .int 0, .int 0, .int 0, .int 16777215, .int 0, .int 0, .ref vPr, .ref vSt, .ref vFn, .int 0, .ref vSg, .ref vAl, .int 0])), (vTy, .inl (cI, 3, .inl (upd (fun _ => 0) t.toNatClampNeg 1))), (vBy, .inl (cI, 120, .inl (upd (fun _ => 0) ((40 * t) + 0).toNatClampNeg b)))] := hD
          refine lv_aload_n hx₀ hb dX12_type_82 rfl (lv_at hl 0 rfl) ?_
          refine va_get (D := (dC, dI)) (ci := 11) (v := .ref vTy) (C := RX12) (T := TX12) (N := 30) hx₀ hb hts inlX12 hown hK hP 0 rfl rfl 6 (by decide) (hts (.fieldLink RX12 25 "BittenStickModel" "typed" "[I") wd_120) (fun _ h9 => h9) rfl dX12_type_83 ?_
          refine lv_iload_n hx₀ hb dX12_type_86 rfl (lv_at hl 1 rfl) ?_
          refine va_iald hx₀ hb hK hP 1 0 rfl rfl (k_in2 c_2) dX12_type_87 ?_
          refine k_topi (v := 1) pk_us ?_
          exact W.iret (v := 1) hx₀ hb hr (fun t₀ ht hW => ⟨⟨1, (), rfl, (lf_m_type_1 t b c_2 c_4 c_5 c_6), trivial⟩, hS.F ht⟩) hS.2.2 dX12_type_88
        · refine lv_bipush (v := 39) hx₀ hb dX12_type_42 (by decide +kernel) ?_
          refine lv_goto (tgt := 49) hx₀ hb dX12_type_44 (by decide) ?_
          refine lv_icmp_ne (tgt := 55) hx₀ hb dX12_type_49 (by decide) (fun _ => ?_) (fun c9 => absurd c9 (by decide +kernel))
          refine lv_aload_n hx₀ hb dX12_type_55 rfl (lv_at hl 0 rfl) ?_
          refine va_get (D := (dC, dI)) (ci := 11) (v := .ref vBy) (C := RX12) (T := TX12) (N := 30) hx₀ hb hts inlX12 hown hK hP 0 rfl rfl 5 (by decide) (hts (.fieldLink RX12 22 "BittenStickModel" "bytes" "[I") wd_119) (fun _ h9 => h9) rfl dX12_type_56 ?_
          refine lv_bipush (v := 40) hx₀ hb dX12_type_59 (by decide +kernel) ?_
          refine lv_iload_n hx₀ hb dX12_type_61 rfl (lv_at hl 1 rfl) ?_
          refine lv_imul hx₀ hb dX12_type_62 ?_
          refine lv_aload_n hx₀ hb dX12_type_63 rfl (lv_at hl 0 rfl) ?_
          refine va_get (D := (dC, dI)) (ci := 11) (v := .ref vTy) (C := RX12) (T := TX12) (N := 30) hx₀ hb hts inlX12 hown hK hP 0 rfl rfl 6 (by decide) (hts (.fieldLink RX12 25 "BittenStickModel" "typed" "[I") wd_120) (fun _ h9 => h9) rfl dX12_type_64 ?_
          refine lv_iload_n hx₀ hb dX12_type_67 rfl (lv_at hl 1 rfl) ?_
          refine va_iald hx₀ hb hK hP 1 0 rfl rfl (k_in2 c_2) dX12_type_68 ?_
          refine k_topi (v := 0) rfl ?_
          refine lv_iadd hx₀ hb dX12_type_69 ?_
          refine lv_iload_n hx₀ hb dX12_type_70 rfl (lv_at hl 2 rfl) ?_
          refine va_iast hx₀ hb hK hP hD hS 2 0 rfl rfl (k_in40 c_2) dX12_type_71 (fun H locs hP hD hS => ?_)
          have hP : va_P (dC, dI) vwCl [(hm, .inr (11, [.ref vFo, .ref vSi, .ref vIt, .ref vMo, .int 0, .ref vBy, .ref vTy, .int 0, .ref vMi, .int 0, .ref vPs, .int 0, .ref vGs, .int 0, .ref vFt, .int 0, .ref vTo, .int 0, .int 0, .int 0, .int 16777215, .int 0, .int 0, .ref vPr, .ref vSt, .ref vFn, .int 0, .ref vSg, .ref vAl, .int 0])), (vTy, .inl (cI, 3, .inl (fun _ => 0))), (vBy, .inl (cI, 120, .inl (upd (fun _ => 0) ((40 * t) + 0).toNatClampNeg b)))] H := hP
          have hD : va_D A [(hm, .inr (11, [.ref vFo, .ref vSi, .ref vIt, .ref vMo, .int 0, .ref vBy, .ref vTy, .int 0, .ref vMi, .int 0, .ref vPs, .int 0, .ref vGs, .int 0, .ref vFt, .int 0, .ref vTo, .int 0, .int 0, .int 0, .int 16777215, .int 0, .int 0, .ref vPr, .ref vSt, .ref vFn, .int 0, .ref vSg, .ref vAl, .int 0])), (vTy, .inl (cI, 3, .inl (fun _ => 0))), (vBy, .inl (cI, 120, .inl (upd (fun _ => 0) ((40 * t) + 0).toNatClampNeg b)))] := hD
          refine lv_aload_n hx₀ hb dX12_type_72 rfl (lv_at hl 0 rfl) ?_
          refine va_get (D := (dC, dI)) (ci := 11) (v := .ref vTy) (C := RX12) (T := TX12) (N := 30) hx₀ hb hts inlX12 hown hK hP 0 rfl rfl 6 (by decide) (hts (.fieldLink RX12 25 "BittenStickModel" "typed" "[I") wd_120) (fun _ h9 => h9) rfl dX12_type_73 ?_
          refine lv_iload_n hx₀ hb dX12_type_76 rfl (lv_at hl 1 rfl) ?_
          refine lv_dup2_11 hx₀ hb dX12_type_77 rfl rfl ?_
          refine va_iald hx₀ hb hK hP 1 0 rfl rfl (k_in2 c_2) dX12_type_78 ?_
          refine k_topi (v := 0) rfl ?_
          refine lv_iconst (v := 1) hx₀ hb dX12_type_79 (by decide +kernel) ?_
          refine lv_iadd hx₀ hb dX12_type_80 ?_
          refine k_topi (v := 1) (by decide +kernel) ?_
          refine va_iast hx₀ hb hK hP hD hS 1 0 rfl rfl (k_in2 c_2) dX12_type_81 (fun H locs hP hD hS => ?_)
          have hP : va_P (dC, dI) vwCl [(hm, .inr (11, [.ref vFo, .ref vSi, .ref vIt, .ref vMo, .int 0, .ref vBy, .ref vTy, .int 0, .ref vMi, .int 0, .ref vPs, .int 0, .ref vGs, .int 0, .ref vFt, .int 0, .ref vTo, .int 0, .int 0, .int 0, .int 16777215, .int 0, .int 0, .ref vPr, .ref vSt, .ref vFn, .int 0, .ref vSg, .ref vAl, .int 0])), (vTy, .inl (cI, 3, .inl (upd (fun _ => 0) t.toNatClampNeg 1))), (vBy, .inl (cI, 120, .inl (upd (fun _ => 0) ((40 * t) + 0).toNatClampNeg b)))] H := hP
          have hD : va_D A [(hm, .inr (11, [.ref vFo, .ref vSi, .ref vIt, .ref vMo, .int 0, .ref vBy, .ref vTy, .int 0, .ref vMi, .int 0, .ref vPs, .int 0, .ref vGs, .int 0, .ref vFt, .int 0, .ref vTo, .int 0, .int 0, .int 0, .int 16777215, .int 0, .int 0, .ref vPr, .ref vSt, .ref vFn, .int 0, .ref vSg, .ref vAl, .int 0])), (vTy, .inl (cI, 3, .inl (upd (fun _ => 0) t.toNatClampNeg 1))), (vBy, .inl (cI, 120, .inl (upd (fun _ => 0) ((40 * t) + 0).toNatClampNeg b)))] := hD
          refine lv_aload_n hx₀ hb dX12_type_82 rfl (lv_at hl 0 rfl) ?_
          refine va_get (D := (dC, dI)) (ci := 11) (v := .ref vTy) (C := RX12) (T := TX12) (N := 30) hx₀ hb hts inlX12 hown hK hP 0 rfl rfl 6 (by decide) (hts (.fieldLink RX12 25 "BittenStickModel" "typed" "[I") wd_120) (fun _ h9 => h9) rfl dX12_type_83 ?_
          refine lv_iload_n hx₀ hb dX12_type_86 rfl (lv_at hl 1 rfl) ?_
          refine va_iald hx₀ hb hK hP 1 0 rfl rfl (k_in2 c_2) dX12_type_87 ?_
          refine k_topi (v := 1) pk_us ?_
          exact W.iret (v := 1) hx₀ hb hr (fun t₀ ht hW => ⟨⟨1, (), rfl, (lf_m_type_2 t b c_2 c_4 c_5 c_6), trivial⟩, hS.F ht⟩) hS.2.2 dX12_type_88
      · refine lv_bipush (v := 24) hx₀ hb dX12_type_32 (by decide +kernel) ?_
        refine lv_goto (tgt := 49) hx₀ hb dX12_type_34 (by decide) ?_
        refine lv_icmp_ne (tgt := 55) hx₀ hb dX12_type_49 (by decide) (fun _ => ?_) (fun c9 => absurd c9 (by decide +kernel))
        refine lv_aload_n hx₀ hb dX12_type_55 rfl (lv_at hl 0 rfl) ?_
        refine va_get (D := (dC, dI)) (ci := 11) (v := .ref vBy) (C := RX12) (T := TX12) (N := 30) hx₀ hb hts inlX12 hown hK hP 0 rfl rfl 5 (by decide) (hts (.fieldLink RX12 22 "BittenStickModel" "bytes" "[I") wd_119) (fun _ h9 => h9) rfl dX12_type_56 ?_
        refine lv_bipush (v := 40) hx₀ hb dX12_type_59 (by decide +kernel) ?_
        refine lv_iload_n hx₀ hb dX12_type_61 rfl (lv_at hl 1 rfl) ?_
        refine lv_imul hx₀ hb dX12_type_62 ?_
        refine lv_aload_n hx₀ hb dX12_type_63 rfl (lv_at hl 0 rfl) ?_
        refine va_get (D := (dC, dI)) (ci := 11) (v := .ref vTy) (C := RX12) (T := TX12) (N := 30) hx₀ hb hts inlX12 hown hK hP 0 rfl rfl 6 (by decide) (hts (.fieldLink RX12 25 "BittenStickModel" "typed" "[I") wd_120) (fun _ h9 => h9) rfl dX12_type_64 ?_
        refine lv_iload_n hx₀ hb dX12_type_67 rfl (lv_at hl 1 rfl) ?_
        refine va_iald hx₀ hb hK hP 1 0 rfl rfl (k_in2 c_2) dX12_type_68 ?_
        refine k_topi (v := 0) rfl ?_
        refine lv_iadd hx₀ hb dX12_type_69 ?_
        refine lv_iload_n hx₀ hb dX12_type_70 rfl (lv_at hl 2 rfl) ?_
        refine va_iast hx₀ hb hK hP hD hS 2 0 rfl rfl (k_in40 c_2) dX12_type_71 (fun H locs hP hD hS => ?_)
        have hP : va_P (dC, dI) vwCl [(hm, .inr (11, [.ref vFo, .ref vSi, .ref vIt, .ref vMo, .int 0, .ref vBy, .ref vTy, .int 0, .ref vMi, .int 0, .ref vPs, .int 0, .ref vGs, .int 0, .ref vFt, .int 0, .ref vTo, .int 0, .int 0, .int 0, .int 16777215, .int 0, .int 0, .ref vPr, .ref vSt, .ref vFn, .int 0, .ref vSg, .ref vAl, .int 0])), (vTy, .inl (cI, 3, .inl (fun _ => 0))), (vBy, .inl (cI, 120, .inl (upd (fun _ => 0) ((40 * t) + 0).toNatClampNeg b)))] H := hP
        have hD : va_D A [(hm, .inr (11, [.ref vFo, .ref vSi, .ref vIt, .ref vMo, .int 0, .ref vBy, .ref vTy, .int 0, .ref vMi, .int 0, .ref vPs, .int 0, .ref vGs, .int 0, .ref vFt, .int 0, .ref vTo, .int 0, .int 0, .int 0, .int 16777215, .int 0, .int 0, .ref vPr, .ref vSt, .ref vFn, .int 0, .ref vSg, .ref vAl, .int 0])), (vTy, .inl (cI, 3, .inl (fun _ => 0))), (vBy, .inl (cI, 120, .inl (upd (fun _ => 0) ((40 * t) + 0).toNatClampNeg b)))] := hD
        refine lv_aload_n hx₀ hb dX12_type_72 rfl (lv_at hl 0 rfl) ?_
        refine va_get (D := (dC, dI)) (ci := 11) (v := .ref vTy) (C := RX12) (T := TX12) (N := 30) hx₀ hb hts inlX12 hown hK hP 0 rfl rfl 6 (by decide) (hts (.fieldLink RX12 25 "BittenStickModel" "typed" "[I") wd_120) (fun _ h9 => h9) rfl dX12_type_73 ?_
        refine lv_iload_n hx₀ hb dX12_type_76 rfl (lv_at hl 1 rfl) ?_
        refine lv_dup2_11 hx₀ hb dX12_type_77 rfl rfl ?_
        refine va_iald hx₀ hb hK hP 1 0 rfl rfl (k_in2 c_2) dX12_type_78 ?_
        refine k_topi (v := 0) rfl ?_
        refine lv_iconst (v := 1) hx₀ hb dX12_type_79 (by decide +kernel) ?_
        refine lv_iadd hx₀ hb dX12_type_80 ?_
        refine k_topi (v := 1) (by decide +kernel) ?_
        refine va_iast hx₀ hb hK hP hD hS 1 0 rfl rfl (k_in2 c_2) dX12_type_81 (fun H locs hP hD hS => ?_)
        have hP : va_P (dC, dI) vwCl [(hm, .inr (11, [.ref vFo, .ref vSi, .ref vIt, .ref vMo, .int 0, .ref vBy, .ref vTy, .int 0, .ref vMi, .int 0, .ref vPs, .int 0, .ref vGs, .int 0, .ref vFt, .int 0, .ref vTo, .int 0, .int 0, .int 0, .int 16777215, .int 0, .int 0, .ref vPr, .ref vSt, .ref vFn, .int 0, .ref vSg, .ref vAl, .int 0])), (vTy, .inl (cI, 3, .inl (upd (fun _ => 0) t.toNatClampNeg 1))), (vBy, .inl (cI, 120, .inl (upd (fun _ => 0) ((40 * t) + 0).toNatClampNeg b)))] H := hP
        have hD : va_D A [(hm, .inr (11, [.ref vFo, .ref vSi, .ref vIt, .ref vMo, .int 0, .ref vBy, .ref vTy, .int 0, .ref vMi, .int 0, .ref vPs, .int 0, .ref vGs, .int 0, .ref vFt, .int 0, .ref vTo, .int 0, .int 0, .int 0, .int 16777215, .int 0, .int 0, .ref vPr, .ref vSt, .ref vFn, .int 0, .ref vSg, .ref vAl, .int 0])), (vTy, .inl (cI, 3, .inl (upd (fun _ => 0) t.toNatClampNeg 1))), (vBy, .inl (cI, 120, .inl (upd (fun _ => 0) ((40 * t) + 0).toNatClampNeg b)))] := hD
        refine lv_aload_n hx₀ hb dX12_type_82 rfl (lv_at hl 0 rfl) ?_
        refine va_get (D := (dC, dI)) (ci := 11) (v := .ref vTy) (C := RX12) (T := TX12) (N := 30) hx₀ hb hts inlX12 hown hK hP 0 rfl rfl 6 (by decide) (hts (.fieldLink RX12 25 "BittenStickModel" "typed" "[I") wd_120) (fun _ h9 => h9) rfl dX12_type_83 ?_
        refine lv_iload_n hx₀ hb dX12_type_86 rfl (lv_at hl 1 rfl) ?_
        refine va_iald hx₀ hb hK hP 1 0 rfl rfl (k_in2 c_2) dX12_type_87 ?_
        refine k_topi (v := 1) pk_us ?_
        exact W.iret (v := 1) hx₀ hb hr (fun t₀ ht hW => ⟨⟨1, (), rfl, (lf_m_type_3 t b c_2 c_4 c_5), trivial⟩, hS.F ht⟩) hS.2.2 dX12_type_88
    rw [if_neg c_4] at hw
    refine k_topi (v := 0) hw ?_
    refine lv_if_ne (tgt := 22) hx₀ hb dX12_type_16 (by decide) (fun c9 => absurd (by decide +kernel) c9) (fun _ => ?_)
    refine lv_bipush (v := (-2)) hx₀ hb dX12_type_19 (by decide +kernel) ?_
    exact W.iret (v := (-2)) hx₀ hb hr (fun t₀ ht hW => ⟨⟨(-2), (), rfl, (lf_m_type_4 t b c_2 c_4), trivial⟩, hS.F ht⟩) hS.2.2 dX12_type_21
  rw [if_neg c_2] at hw
  refine k_topi (v := 0) hw ?_
  refine lv_if_eq (tgt := 19) hx₀ hb dX12_type_4 (by decide) (fun _ => ?_) (fun c9 => absurd (by decide +kernel) c9)
  refine lv_bipush (v := (-2)) hx₀ hb dX12_type_19 (by decide +kernel) ?_
  exact W.iret (v := (-2)) hx₀ hb hr (fun t₀ ht hW => ⟨⟨(-2), (), rfl, (lf_m_type_5 t b c_2), trivial⟩, hS.F ht⟩) hS.2.2 dX12_type_21
theorem lf_m_wipe_1 (t : Int32) (c_2 : 0 ≤ t ∧ t ≤ 2) : (0 : Int32) = if 0 ≤ t ∧ t ≤ 2 then 0 else -2 := by
  repeat first | rfl | rw [if_pos (by (first | omega | (simp only [Int64.le_iff_toInt_le, Int64.lt_iff_toInt_lt, Int32.le_iff_toInt_le, Int32.lt_iff_toInt_lt, ← Int32.toInt_inj, ← Int64.toInt_inj, Int32.toInt_toInt64, (show (-2 : Int32).toInt = -2 from by decide), (show (-2 : Int64).toInt = -2 from by decide), (show (0 : Int32).toInt = 0 from by decide), (show (0 : Int64).toInt = 0 from by decide), (show (2 : Int32).toInt = 2 from by decide), (show (2 : Int64).toInt = 2 from by decide)] at *; omega)))] | rw [if_neg (by (first | omega | (simp only [Int64.le_iff_toInt_le, Int64.lt_iff_toInt_lt, Int32.le_iff_toInt_le, Int32.lt_iff_toInt_lt, ← Int32.toInt_inj, ← Int64.toInt_inj, Int32.toInt_toInt64, (show (-2 : Int32).toInt = -2 from by decide), (show (-2 : Int64).toInt = -2 from by decide), (show (0 : Int32).toInt = 0 from by decide), (show (0 : Int64).toInt = 0 from by decide), (show (2 : Int32).toInt = 2 from by decide), (show (2 : Int64).toInt = 2 from by decide)] at *; omega)))]
theorem lf_m_wipe_2 (t : Int32) (c_2 : ¬ (0 ≤ t ∧ t ≤ 2)) : ((-2) : Int32) = if 0 ≤ t ∧ t ≤ 2 then 0 else -2 := by
  repeat first | rfl | rw [if_pos (by (first | omega | (simp only [Int64.le_iff_toInt_le, Int64.lt_iff_toInt_lt, Int32.le_iff_toInt_le, Int32.lt_iff_toInt_lt, ← Int32.toInt_inj, ← Int64.toInt_inj, Int32.toInt_toInt64, (show (-2 : Int32).toInt = -2 from by decide), (show (-2 : Int64).toInt = -2 from by decide), (show (0 : Int32).toInt = 0 from by decide), (show (0 : Int64).toInt = 0 from by decide), (show (2 : Int32).toInt = 2 from by decide), (show (2 : Int64).toInt = 2 from by decide)] at *; omega)))] | rw [if_neg (by (first | omega | (simp only [Int64.le_iff_toInt_le, Int64.lt_iff_toInt_lt, Int32.le_iff_toInt_le, Int32.lt_iff_toInt_lt, ← Int32.toInt_inj, ← Int64.toInt_inj, Int32.toInt_toInt64, (show (-2 : Int32).toInt = -2 from by decide), (show (-2 : Int64).toInt = -2 from by decide), (show (0 : Int32).toInt = 0 from by decide), (show (0 : Int64).toInt = 0 from by decide), (show (2 : Int32).toInt = 2 from by decide), (show (2 : Int64).toInt = 2 from by decide)] at *; omega)))]
set_option maxHeartbeats 4000000 in
set_option maxRecDepth 100000 in
theorem m_wipe (l : Launch) (dC : Nat → ClassId) (dI : Nat → Nat → Nat) (cI cJ cQ : ClassId) (sz : Nat) (hm : Nat) (t : Int32) (vFo : Nat) (vSi : Nat) (vIt : Nat) (vMo : Nat) (vBy : Nat) (vTy : Nat) (vMi : Nat) (vPs : Nat) (vGs : Nat) (vFt : Nat) (vTo : Nat) (vPr : Nat) (vSt : Nat) (vFn : Nat) (vSg : Nat) (vAl : Nat) : Met l yX12_wipe (kW yX12_wipe cX12_wipe 3 (some .int)) { frames := 2, cells := 0, slots := 0, locals := 45 } (kPre dC dI cI cJ cQ sz [.ref hm, .int t] [(hm, .inr (11, [.ref vFo, .ref vSi, .ref vIt, .ref vMo, .int 0, .ref vBy, .ref vTy, .int 0, .ref vMi, .int 0, .ref vPs, .int 0, .ref vGs, .int 0, .ref vFt, .int 0, .ref vTo, .int 0, .int 0, .int 0, .int 16777215, .int 0, .int 0, .ref vPr, .ref vSt, .ref vFn, .int 0, .ref vSg, .ref vAl, .int 0])), (vTy, .inl (cI, 3, .inl (fun _ => 0)))]) (va_Qi (fun (r : Int32) (_ : Unit) => r = if 0 ≤ t ∧ t ≤ 2 then 0 else -2) (fun _ _ => True) (va_A [(hm, .inr (11, [.ref vFo, .ref vSi, .ref vIt, .ref vMo, .int 0, .ref vBy, .ref vTy, .int 0, .ref vMi, .int 0, .ref vPs, .int 0, .ref vGs, .int 0, .ref vFt, .int 0, .ref vTo, .int 0, .int 0, .int 0, .int 16777215, .int 0, .int 0, .ref vPr, .ref vSt, .ref vFn, .int 0, .ref vSg, .ref vAl, .int 0])), (vTy, .inl (cI, 3, .inl (fun _ => 0)))] sz)) 0 0 (va_A [(hm, .inr (11, [.ref vFo, .ref vSi, .ref vIt, .ref vMo, .int 0, .ref vBy, .ref vTy, .int 0, .ref vMi, .int 0, .ref vPs, .int 0, .ref vGs, .int 0, .ref vFt, .int 0, .ref vTo, .int 0, .int 0, .int 0, .int 16777215, .int 0, .int 0, .ref vPr, .ref vSt, .ref vFn, .int 0, .ref vSg, .ref vAl, .int 0])), (vTy, .inl (cI, 3, .inl (fun _ => 0)))] sz) := by
  refine Met.ofW (cc := cX12_wipe) (maxL := 3) (ret := (some .int)) (by decide) rfl ?_
  intro p₀ e₀ s₀ m₀ args below meth c₀ s₁ B hml hv₀
  obtain ⟨rfl, hsz, hP, hK, hD0, hN⟩ := hv₀
  have hx₀ := B.exec
  have hb := B.bytes
  have hr := B.returns
  have hts := atoms_spec (ws := (kW yX12_wipe cX12_wipe 3 (some .int))) B.pre
  have hts := fun w h => hts w (List.mem_cons_of_mem _ h)
  have hown : s₀.vm.findClass RX12 = some m₀.cls := findClass_of_methodNamed B.named
  have hlocks := B.notSynchronized
  subst hsz
  have hD := hD0.self (sz := s₀.heap.size)
  generalize hAe : va_A [(hm, .inr (11, [.ref vFo, .ref vSi, .ref vIt, .ref vMo, .int 0, .ref vBy, .ref vTy, .int 0, .ref vMi, .int 0, .ref vPs, .int 0, .ref vGs, .int 0, .ref vFt, .int 0, .ref vTo, .int 0, .int 0, .int 0, .int 16777215, .int 0, .int 0, .ref vPr, .ref vSt, .ref vFn, .int 0, .ref vSg, .ref vAl, .int 0])), (vTy, .inl (cI, 3, .inl (fun _ => 0)))] s₀.heap.size = A at hD ⊢
  have hA : ∀ q : Nat, s₀.heap.size ≤ q → A q := fun q h => by rw [← hAe]; exact Or.inr h
  have hS : va_S A s₀.heap s₀.heap [] := va_S.rf
  have hP : va_P (dC, dI) vwCl [(hm, .inr (11, [.ref vFo, .ref vSi, .ref vIt, .ref vMo, .int 0, .ref vBy, .ref vTy, .int 0, .ref vMi, .int 0, .ref vPs, .int 0, .ref vGs, .int 0, .ref vFt, .int 0, .ref vTo, .int 0, .int 0, .int 0, .int 16777215, .int 0, .int 0, .ref vPr, .ref vSt, .ref vFn, .int 0, .ref vSg, .ref vAl, .int 0])), (vTy, .inl (cI, 3, .inl (fun _ => 0)))] s₀.heap := hP
  have hl := lv_entry ([.ref hm, .int t]) (n := 3) (Nat.le_of_ble_eq_true rfl)
  rw [lg_entry_eq]
  generalize (lg_sl ([.ref hm, .int t]) ++ List.replicate (3 - (lg_sl ([.ref hm, .int t])).length) Slot.unset).toArray = ls at hl ⊢
  have hl : lv_has ls 3 [(0, .ref hm), (1, .int t)] := hl
  obtain ⟨H, hH⟩ : ∃ z : Heap, z = s₀.heap := ⟨_, rfl⟩
  rw [← hH] at hP
  have hS : va_S A s₀.heap H [] := by rw [hH]; exact hS
  refine k_heap hH ?_
  have hD : va_D A [(hm, .inr (11, [.ref vFo, .ref vSi, .ref vIt, .ref vMo, .int 0, .ref vBy, .ref vTy, .int 0, .ref vMi, .int 0, .ref vPs, .int 0, .ref vGs, .int 0, .ref vFt, .int 0, .ref vTo, .int 0, .int 0, .int 0, .int 16777215, .int 0, .int 0, .ref vPr, .ref vSt, .ref vFn, .int 0, .ref vSg, .ref vAl, .int 0])), (vTy, .inl (cI, 3, .inl (fun _ => 0)))] := hD
  obtain ⟨locs, hlo⟩ : ∃ z : List Loc, z = [] := ⟨_, rfl⟩
  rw [← hlo] at hS ⊢
  clear hlo hH hAe hD0
  refine lv_iload_n hx₀ hb dX12_wipe_0 rfl (lv_at hl 1 rfl) ?_
  have hPc := hP.sub (ws' := []) [] rfl
  have hDc := hD.sub (ws' := []) [] (by decide) rfl
  have hFc := va_free (wc := []) hD hS hA [] rfl
  refine va_calli (va_runS (As := [.int t]) (rest := []) ⟨hx₀, hb, hml, hown, hts⟩ (c_isText l dC dI cI cJ cQ H.size t) (va_cwS 1 hts (kGS wd_204 wd_202 wd_203 wd_5) rfl rfl rfl (by decide +kernel) ⟨Nat.le_of_ble_eq_true rfl, Nat.le_of_ble_eq_true rfl⟩) (k_preS hK hPc hDc hN) rfl rfl hl.1 rfl (lv_room (Nat.le_of_ble_eq_true rfl)) dX12_wipe_1 ⟨by decide +kernel, by decide +kernel⟩) hS (fun q _ h => hFc q h) hFc (fun r_1 u₀ t₀ H1 locs ht hvm hw hB hz1 hk1 hS => ?_)
  obtain ⟨hP1, hK1, hD1⟩ := hB
  rw [ht] at hP1
  obtain ⟨hP, hD⟩ := va_join (wr := [(hm, .inr (11, [.ref vFo, .ref vSi, .ref vIt, .ref vMo, .int 0, .ref vBy, .ref vTy, .int 0, .ref vMi, .int 0, .ref vPs, .int 0, .ref vGs, .int 0, .ref vFt, .int 0, .ref vTo, .int 0, .int 0, .int 0, .int 16777215, .int 0, .int 0, .ref vPr, .ref vSt, .ref vFn, .int 0, .ref vSg, .ref vAl, .int 0])), (vTy, .inl (cI, 3, .inl (fun _ => 0)))]) (w1 := []) hP hD [] [0, 1] rfl rfl (by decide) (by decide) hk1 hFc hP1 hD1
  generalize H1 = H at hP hS ⊢
  have hP : va_P (dC, dI) vwCl [(hm, .inr (11, [.ref vFo, .ref vSi, .ref vIt, .ref vMo, .int 0, .ref vBy, .ref vTy, .int 0, .ref vMi, .int 0, .ref vPs, .int 0, .ref vGs, .int 0, .ref vFt, .int 0, .ref vTo, .int 0, .int 0, .int 0, .int 16777215, .int 0, .int 0, .ref vPr, .ref vSt, .ref vFn, .int 0, .ref vSg, .ref vAl, .int 0])), (vTy, .inl (cI, 3, .inl (fun _ => 0)))] H := hP
  have hD : va_D A [(hm, .inr (11, [.ref vFo, .ref vSi, .ref vIt, .ref vMo, .int 0, .ref vBy, .ref vTy, .int 0, .ref vMi, .int 0, .ref vPs, .int 0, .ref vGs, .int 0, .ref vFt, .int 0, .ref vTo, .int 0, .int 0, .int 0, .int 16777215, .int 0, .int 0, .ref vPr, .ref vSt, .ref vFn, .int 0, .ref vSg, .ref vAl, .int 0])), (vTy, .inl (cI, 3, .inl (fun _ => 0)))] := hD
  try dsimp only at hw
  by_cases c_2 : 0 ≤ t ∧ t ≤ 2
  · rw [if_pos c_2] at hw
    refine k_topi (v := 1) hw ?_
    refine lv_if_ne (tgt := 10) hx₀ hb dX12_wipe_4 (by decide) (fun _ => ?_) (fun c9 => absurd c9 (by decide +kernel))
    refine lv_aload_n hx₀ hb dX12_wipe_10 rfl (lv_at hl 0 rfl) ?_
    refine va_get (D := (dC, dI)) (ci := 11) (v := .ref vTy) (C := RX12) (T := TX12) (N := 30) hx₀ hb hts inlX12 hown hK hP 0 rfl rfl 6 (by decide) (hts (.fieldLink RX12 25 "BittenStickModel" "typed" "[I") wd_120) (fun _ h9 => h9) rfl dX12_wipe_11 ?_
    refine lv_iload_n hx₀ hb dX12_wipe_14 rfl (lv_at hl 1 rfl) ?_
    refine va_iald hx₀ hb hK hP 1 0 rfl rfl (k_in2 c_2) dX12_wipe_15 ?_
    refine k_topi (v := 0) rfl ?_
    refine lv_istore_n (lv' := [(2, .int 0), (0, .ref hm), (1, .int t)]) hx₀ hb dX12_wipe_16 rfl hl (by decide) rfl (fun ls hl => ?_)
    refine lv_aload_n hx₀ hb dX12_wipe_17 rfl (lv_at hl 1 rfl) ?_
    refine va_get (D := (dC, dI)) (ci := 11) (v := .ref vTy) (C := RX12) (T := TX12) (N := 30) hx₀ hb hts inlX12 hown hK hP 0 rfl rfl 6 (by decide) (hts (.fieldLink RX12 25 "BittenStickModel" "typed" "[I") wd_120) (fun _ h9 => h9) rfl dX12_wipe_18 ?_
    refine lv_iload_n hx₀ hb dX12_wipe_21 rfl (lv_at hl 2 rfl) ?_
    refine lv_iconst (v := 0) hx₀ hb dX12_wipe_22 (by decide +kernel) ?_
    refine va_iast hx₀ hb hK hP hD hS 1 0 rfl rfl (k_in2 c_2) dX12_wipe_23 (fun H locs hP hD hS => ?_)
    have hP : va_P (dC, dI) vwCl [(hm, .inr (11, [.ref vFo, .ref vSi, .ref vIt, .ref vMo, .int 0, .ref vBy, .ref vTy, .int 0, .ref vMi, .int 0, .ref vPs, .int 0, .ref vGs, .int 0, .ref vFt, .int 0, .ref vTo, .int 0, .int 0, .int 0, .int 16777215, .int 0, .int 0, .ref vPr, .ref vSt, .ref vFn, .int 0, .ref vSg, .ref vAl, .int 0])), (vTy, .inl (cI, 3, .inl (upd (fun _ => 0) t.toNatClampNeg 0)))] H := hP
    have hD : va_D A [(hm, .inr (11, [.ref vFo, .ref vSi, .ref vIt, .ref vMo, .int 0, .ref vBy, .ref vTy, .int 0, .ref vMi, .int 0, .ref vPs, .int 0, .ref vGs, .int 0, .ref vFt, .int 0, .ref vTo, .int 0, .int 0, .int 0, .int 16777215, .int 0, .int 0, .ref vPr, .ref vSt, .ref vFn, .int 0, .ref vSg, .ref vAl, .int 0])), (vTy, .inl (cI, 3, .inl (upd (fun _ => 0) t.toNatClampNeg 0)))] := hD
    refine lv_iload_n hx₀ hb dX12_wipe_24 rfl (lv_at hl 0 rfl) ?_
    exact W.iret (v := 0) hx₀ hb hr (fun t₀ ht hW => ⟨⟨0, (), rfl, (lf_m_wipe_1 t c_2), trivial⟩, hS.F ht⟩) hS.2.2 dX12_wipe_25
  rw [if_neg c_2] at hw
  refine k_topi (v := 0) hw ?_
  refine lv_if_ne (tgt := 10) hx₀ hb dX12_wipe_4 (by decide) (fun c9 => absurd (by decide +kernel) c9) (fun _ => ?_)
  refine lv_bipush (v := (-2)) hx₀ hb dX12_wipe_7 (by decide +kernel) ?_
  exact W.iret (v := (-2)) hx₀ hb hr (fun t₀ ht hW => ⟨⟨(-2), (), rfl, (lf_m_wipe_2 t c_2), trivial⟩, hS.F ht⟩) hS.2.2 dX12_wipe_9
theorem lf_m_undo_1 (t : Int32) (c_2 : 0 ≤ t ∧ t ≤ 2) : ((-3) : Int32) = if 0 ≤ t ∧ t ≤ 2 then -3 else -2 := by
  repeat first | rfl | rw [if_pos (by (first | omega | (simp only [Int64.le_iff_toInt_le, Int64.lt_iff_toInt_lt, Int32.le_iff_toInt_le, Int32.lt_iff_toInt_lt, ← Int32.toInt_inj, ← Int64.toInt_inj, Int32.toInt_toInt64, (show (-3 : Int32).toInt = -3 from by decide), (show (-3 : Int64).toInt = -3 from by decide), (show (-2 : Int32).toInt = -2 from by decide), (show (-2 : Int64).toInt = -2 from by decide), (show (0 : Int32).toInt = 0 from by decide), (show (0 : Int64).toInt = 0 from by decide), (show (2 : Int32).toInt = 2 from by decide), (show (2 : Int64).toInt = 2 from by decide)] at *; omega)))] | rw [if_neg (by (first | omega | (simp only [Int64.le_iff_toInt_le, Int64.lt_iff_toInt_lt, Int32.le_iff_toInt_le, Int32.lt_iff_toInt_lt, ← Int32.toInt_inj, ← Int64.toInt_inj, Int32.toInt_toInt64, (show (-3 : Int32).toInt = -3 from by decide), (show (-3 : Int64).toInt = -3 from by decide), (show (-2 : Int32).toInt = -2 from by decide), (show (-2 : Int64).toInt = -2 from by decide), (show (0 : Int32).toInt = 0 from by decide), (show (0 : Int64).toInt = 0 from by decide), (show (2 : Int32).toInt = 2 from by decide), (show (2 : Int64).toInt = 2 from by decide)] at *; omega)))]
theorem lf_m_undo_2 (t : Int32) (c_2 : ¬ (0 ≤ t ∧ t ≤ 2)) : ((-2) : Int32) = if 0 ≤ t ∧ t ≤ 2 then -3 else -2 := by
  repeat first | rfl | rw [if_pos (by (first | omega | (simp only [Int64.le_iff_toInt_le, Int64.lt_iff_toInt_lt, Int32.le_iff_toInt_le, Int32.lt_iff_toInt_lt, ← Int32.toInt_inj, ← Int64.toInt_inj, Int32.toInt_toInt64, (show (-3 : Int32).toInt = -3 from by decide), (show (-3 : Int64).toInt = -3 from by decide), (show (-2 : Int32).toInt = -2 from by decide), (show (-2 : Int64).toInt = -2 from by decide), (show (0 : Int32).toInt = 0 from by decide), (show (0 : Int64).toInt = 0 from by decide), (show (2 : Int32).toInt = 2 from by decide), (show (2 : Int64).toInt = 2 from by decide)] at *; omega)))] | rw [if_neg (by (first | omega | (simp only [Int64.le_iff_toInt_le, Int64.lt_iff_toInt_lt, Int32.le_iff_toInt_le, Int32.lt_iff_toInt_lt, ← Int32.toInt_inj, ← Int64.toInt_inj, Int32.toInt_toInt64, (show (-3 : Int32).toInt = -3 from by decide), (show (-3 : Int64).toInt = -3 from by decide), (show (-2 : Int32).toInt = -2 from by decide), (show (-2 : Int64).toInt = -2 from by decide), (show (0 : Int32).toInt = 0 from by decide), (show (0 : Int64).toInt = 0 from by decide), (show (2 : Int32).toInt = 2 from by decide), (show (2 : Int64).toInt = 2 from by decide)] at *; omega)))]
set_option maxHeartbeats 4000000 in
set_option maxRecDepth 100000 in
theorem m_undo (l : Launch) (dC : Nat → ClassId) (dI : Nat → Nat → Nat) (cI cJ cQ : ClassId) (sz : Nat) (hm : Nat) (t : Int32) (vFo : Nat) (vSi : Nat) (vIt : Nat) (vMo : Nat) (vBy : Nat) (vTy : Nat) (vMi : Nat) (vPs : Nat) (vGs : Nat) (vFt : Nat) (vTo : Nat) (vPr : Nat) (vSt : Nat) (vFn : Nat) (vSg : Nat) (vAl : Nat) : Met l yX12_undo (kW yX12_undo cX12_undo 2 (some .int)) { frames := 2, cells := 0, slots := 0, locals := 45 } (kPre dC dI cI cJ cQ sz [.ref hm, .int t] [(hm, .inr (11, [.ref vFo, .ref vSi, .ref vIt, .ref vMo, .int 0, .ref vBy, .ref vTy, .int 0, .ref vMi, .int 0, .ref vPs, .int 0, .ref vGs, .int 0, .ref vFt, .int 0, .ref vTo, .int 0, .int 0, .int 0, .int 16777215, .int 0, .int 0, .ref vPr, .ref vSt, .ref vFn, .int 0, .ref vSg, .ref vAl, .int 0])), (vTy, .inl (cI, 3, .inl (fun _ => 0)))]) (va_Qi (fun (r : Int32) (_ : Unit) => r = if 0 ≤ t ∧ t ≤ 2 then -3 else -2) (fun _ _ => True) (va_A [(hm, .inr (11, [.ref vFo, .ref vSi, .ref vIt, .ref vMo, .int 0, .ref vBy, .ref vTy, .int 0, .ref vMi, .int 0, .ref vPs, .int 0, .ref vGs, .int 0, .ref vFt, .int 0, .ref vTo, .int 0, .int 0, .int 0, .int 16777215, .int 0, .int 0, .ref vPr, .ref vSt, .ref vFn, .int 0, .ref vSg, .ref vAl, .int 0])), (vTy, .inl (cI, 3, .inl (fun _ => 0)))] sz)) 0 0 (va_A [(hm, .inr (11, [.ref vFo, .ref vSi, .ref vIt, .ref vMo, .int 0, .ref vBy, .ref vTy, .int 0, .ref vMi, .int 0, .ref vPs, .int 0, .ref vGs, .int 0, .ref vFt, .int 0, .ref vTo, .int 0, .int 0, .int 0, .int 16777215, .int 0, .int 0, .ref vPr, .ref vSt, .ref vFn, .int 0, .ref vSg, .ref vAl, .int 0])), (vTy, .inl (cI, 3, .inl (fun _ => 0)))] sz) := by
  refine Met.ofW (cc := cX12_undo) (maxL := 2) (ret := (some .int)) (by decide) rfl ?_
  intro p₀ e₀ s₀ m₀ args below meth c₀ s₁ B hml hv₀
  obtain ⟨rfl, hsz, hP, hK, hD0, hN⟩ := hv₀
  have hx₀ := B.exec
  have hb := B.bytes
  have hr := B.returns
  have hts := atoms_spec (ws := (kW yX12_undo cX12_undo 2 (some .int))) B.pre
  have hts := fun w h => hts w (List.mem_cons_of_mem _ h)
  have hown : s₀.vm.findClass RX12 = some m₀.cls := findClass_of_methodNamed B.named
  have hlocks := B.notSynchronized
  subst hsz
  have hD := hD0.self (sz := s₀.heap.size)
  generalize hAe : va_A [(hm, .inr (11, [.ref vFo, .ref vSi, .ref vIt, .ref vMo, .int 0, .ref vBy, .ref vTy, .int 0, .ref vMi, .int 0, .ref vPs, .int 0, .ref vGs, .int 0, .ref vFt, .int 0, .ref vTo, .int 0, .int 0, .int 0, .int 16777215, .int 0, .int 0, .ref vPr, .ref vSt, .ref vFn, .int 0, .ref vSg, .ref vAl, .int 0])), (vTy, .inl (cI, 3, .inl (fun _ => 0)))] s₀.heap.size = A at hD ⊢
  have hA : ∀ q : Nat, s₀.heap.size ≤ q → A q := fun q h => by rw [← hAe]; exact Or.inr h
  have hS : va_S A s₀.heap s₀.heap [] := va_S.rf
  have hP : va_P (dC, dI) vwCl [(hm, .inr (11, [.ref vFo, .ref vSi, .ref vIt, .ref vMo, .int 0, .ref vBy, .ref vTy, .int 0, .ref vMi, .int 0, .ref vPs, .int 0, .ref vGs, .int 0, .ref vFt, .int 0, .ref vTo, .int 0, .int 0, .int 0, .int 16777215, .int 0, .int 0, .ref vPr, .ref vSt, .ref vFn, .int 0, .ref vSg, .ref vAl, .int 0])), (vTy, .inl (cI, 3, .inl (fun _ => 0)))] s₀.heap := hP
  have hl := lv_entry ([.ref hm, .int t]) (n := 2) (Nat.le_of_ble_eq_true rfl)
  rw [lg_entry_eq]
  generalize (lg_sl ([.ref hm, .int t]) ++ List.replicate (2 - (lg_sl ([.ref hm, .int t])).length) Slot.unset).toArray = ls at hl ⊢
  have hl : lv_has ls 2 [(0, .ref hm), (1, .int t)] := hl
  obtain ⟨H, hH⟩ : ∃ z : Heap, z = s₀.heap := ⟨_, rfl⟩
  rw [← hH] at hP
  have hS : va_S A s₀.heap H [] := by rw [hH]; exact hS
  refine k_heap hH ?_
  have hD : va_D A [(hm, .inr (11, [.ref vFo, .ref vSi, .ref vIt, .ref vMo, .int 0, .ref vBy, .ref vTy, .int 0, .ref vMi, .int 0, .ref vPs, .int 0, .ref vGs, .int 0, .ref vFt, .int 0, .ref vTo, .int 0, .int 0, .int 0, .int 16777215, .int 0, .int 0, .ref vPr, .ref vSt, .ref vFn, .int 0, .ref vSg, .ref vAl, .int 0])), (vTy, .inl (cI, 3, .inl (fun _ => 0)))] := hD
  obtain ⟨locs, hlo⟩ : ∃ z : List Loc, z = [] := ⟨_, rfl⟩
  rw [← hlo] at hS ⊢
  clear hlo hH hAe hD0
  refine lv_iload_n hx₀ hb dX12_undo_0 rfl (lv_at hl 1 rfl) ?_
  have hPc := hP.sub (ws' := []) [] rfl
  have hDc := hD.sub (ws' := []) [] (by decide) rfl
  have hFc := va_free (wc := []) hD hS hA [] rfl
  refine va_calli (va_runS (As := [.int t]) (rest := []) ⟨hx₀, hb, hml, hown, hts⟩ (c_isText l dC dI cI cJ cQ H.size t) (va_cwS 1 hts (kGS wd_204 wd_202 wd_203 wd_5) rfl rfl rfl (by decide +kernel) ⟨Nat.le_of_ble_eq_true rfl, Nat.le_of_ble_eq_true rfl⟩) (k_preS hK hPc hDc hN) rfl rfl hl.1 rfl (lv_room (Nat.le_of_ble_eq_true rfl)) dX12_undo_1 ⟨by decide +kernel, by decide +kernel⟩) hS (fun q _ h => hFc q h) hFc (fun r_1 u₀ t₀ H1 locs ht hvm hw hB hz1 hk1 hS => ?_)
  obtain ⟨hP1, hK1, hD1⟩ := hB
  rw [ht] at hP1
  obtain ⟨hP, hD⟩ := va_join (wr := [(hm, .inr (11, [.ref vFo, .ref vSi, .ref vIt, .ref vMo, .int 0, .ref vBy, .ref vTy, .int 0, .ref vMi, .int 0, .ref vPs, .int 0, .ref vGs, .int 0, .ref vFt, .int 0, .ref vTo, .int 0, .int 0, .int 0, .int 16777215, .int 0, .int 0, .ref vPr, .ref vSt, .ref vFn, .int 0, .ref vSg, .ref vAl, .int 0])), (vTy, .inl (cI, 3, .inl (fun _ => 0)))]) (w1 := []) hP hD [] [0, 1] rfl rfl (by decide) (by decide) hk1 hFc hP1 hD1
  generalize H1 = H at hP hS ⊢
  have hP : va_P (dC, dI) vwCl [(hm, .inr (11, [.ref vFo, .ref vSi, .ref vIt, .ref vMo, .int 0, .ref vBy, .ref vTy, .int 0, .ref vMi, .int 0, .ref vPs, .int 0, .ref vGs, .int 0, .ref vFt, .int 0, .ref vTo, .int 0, .int 0, .int 0, .int 16777215, .int 0, .int 0, .ref vPr, .ref vSt, .ref vFn, .int 0, .ref vSg, .ref vAl, .int 0])), (vTy, .inl (cI, 3, .inl (fun _ => 0)))] H := hP
  have hD : va_D A [(hm, .inr (11, [.ref vFo, .ref vSi, .ref vIt, .ref vMo, .int 0, .ref vBy, .ref vTy, .int 0, .ref vMi, .int 0, .ref vPs, .int 0, .ref vGs, .int 0, .ref vFt, .int 0, .ref vTo, .int 0, .int 0, .int 0, .int 16777215, .int 0, .int 0, .ref vPr, .ref vSt, .ref vFn, .int 0, .ref vSg, .ref vAl, .int 0])), (vTy, .inl (cI, 3, .inl (fun _ => 0)))] := hD
  try dsimp only at hw
  by_cases c_2 : 0 ≤ t ∧ t ≤ 2
  · rw [if_pos c_2] at hw
    refine k_topi (v := 1) hw ?_
    refine lv_if_ne (tgt := 10) hx₀ hb dX12_undo_4 (by decide) (fun _ => ?_) (fun c9 => absurd c9 (by decide +kernel))
    refine lv_aload_n hx₀ hb dX12_undo_10 rfl (lv_at hl 0 rfl) ?_
    refine va_get (D := (dC, dI)) (ci := 11) (v := .ref vTy) (C := RX12) (T := TX12) (N := 30) hx₀ hb hts inlX12 hown hK hP 0 rfl rfl 6 (by decide) (hts (.fieldLink RX12 25 "BittenStickModel" "typed" "[I") wd_120) (fun _ h9 => h9) rfl dX12_undo_11 ?_
    refine lv_iload_n hx₀ hb dX12_undo_14 rfl (lv_at hl 1 rfl) ?_
    refine va_iald hx₀ hb hK hP 1 0 rfl rfl (k_in2 c_2) dX12_undo_15 ?_
    refine k_topi (v := 0) rfl ?_
    refine lv_if_ne (tgt := 22) hx₀ hb dX12_undo_16 (by decide) (fun c9 => absurd (by decide +kernel) c9) (fun _ => ?_)
    refine lv_bipush (v := (-3)) hx₀ hb dX12_undo_19 (by decide +kernel) ?_
    exact W.iret (v := (-3)) hx₀ hb hr (fun t₀ ht hW => ⟨⟨(-3), (), rfl, (lf_m_undo_1 t c_2), trivial⟩, hS.F ht⟩) hS.2.2 dX12_undo_21
  rw [if_neg c_2] at hw
  refine k_topi (v := 0) hw ?_
  refine lv_if_ne (tgt := 10) hx₀ hb dX12_undo_4 (by decide) (fun c9 => absurd (by decide +kernel) c9) (fun _ => ?_)
  refine lv_bipush (v := (-2)) hx₀ hb dX12_undo_7 (by decide +kernel) ?_
  exact W.iret (v := (-2)) hx₀ hb hr (fun t₀ ht hW => ⟨⟨(-2), (), rfl, (lf_m_undo_2 t c_2), trivial⟩, hS.F ht⟩) hS.2.2 dX12_undo_9
theorem lf_m_fault_1 (t : Int32) (c_2 : 0 ≤ t ∧ t ≤ 2) : ((-1) : Int32) = if 0 ≤ t ∧ t ≤ 2 then -1 else -2 := by
  repeat first | rfl | rw [if_pos (by (first | omega | (simp only [Int64.le_iff_toInt_le, Int64.lt_iff_toInt_lt, Int32.le_iff_toInt_le, Int32.lt_iff_toInt_lt, ← Int32.toInt_inj, ← Int64.toInt_inj, Int32.toInt_toInt64, (show (-2 : Int32).toInt = -2 from by decide), (show (-2 : Int64).toInt = -2 from by decide), (show (-1 : Int32).toInt = -1 from by decide), (show (-1 : Int64).toInt = -1 from by decide), (show (0 : Int32).toInt = 0 from by decide), (show (0 : Int64).toInt = 0 from by decide), (show (2 : Int32).toInt = 2 from by decide), (show (2 : Int64).toInt = 2 from by decide)] at *; omega)))] | rw [if_neg (by (first | omega | (simp only [Int64.le_iff_toInt_le, Int64.lt_iff_toInt_lt, Int32.le_iff_toInt_le, Int32.lt_iff_toInt_lt, ← Int32.toInt_inj, ← Int64.toInt_inj, Int32.toInt_toInt64, (show (-2 : Int32).toInt = -2 from by decide), (show (-2 : Int64).toInt = -2 from by decide), (show (-1 : Int32).toInt = -1 from by decide), (show (-1 : Int64).toInt = -1 from by decide), (show (0 : Int32).toInt = 0 from by decide), (show (0 : Int64).toInt = 0 from by decide), (show (2 : Int32).toInt = 2 from by decide), (show (2 : Int64).toInt = 2 from by decide)] at *; omega)))]
theorem lf_m_fault_2 (t : Int32) (c_2 : ¬ (0 ≤ t ∧ t ≤ 2)) : ((-2) : Int32) = if 0 ≤ t ∧ t ≤ 2 then -1 else -2 := by
  repeat first | rfl | rw [if_pos (by (first | omega | (simp only [Int64.le_iff_toInt_le, Int64.lt_iff_toInt_lt, Int32.le_iff_toInt_le, Int32.lt_iff_toInt_lt, ← Int32.toInt_inj, ← Int64.toInt_inj, Int32.toInt_toInt64, (show (-2 : Int32).toInt = -2 from by decide), (show (-2 : Int64).toInt = -2 from by decide), (show (-1 : Int32).toInt = -1 from by decide), (show (-1 : Int64).toInt = -1 from by decide), (show (0 : Int32).toInt = 0 from by decide), (show (0 : Int64).toInt = 0 from by decide), (show (2 : Int32).toInt = 2 from by decide), (show (2 : Int64).toInt = 2 from by decide)] at *; omega)))] | rw [if_neg (by (first | omega | (simp only [Int64.le_iff_toInt_le, Int64.lt_iff_toInt_lt, Int32.le_iff_toInt_le, Int32.lt_iff_toInt_lt, ← Int32.toInt_inj, ← Int64.toInt_inj, Int32.toInt_toInt64, (show (-2 : Int32).toInt = -2 from by decide), (show (-2 : Int64).toInt = -2 from by decide), (show (-1 : Int32).toInt = -1 from by decide), (show (-1 : Int64).toInt = -1 from by decide), (show (0 : Int32).toInt = 0 from by decide), (show (0 : Int64).toInt = 0 from by decide), (show (2 : Int32).toInt = 2 from by decide), (show (2 : Int64).toInt = 2 from by decide)] at *; omega)))]
set_option maxHeartbeats 4000000 in
set_option maxRecDepth 100000 in
theorem m_fault (l : Launch) (dC : Nat → ClassId) (dI : Nat → Nat → Nat) (cI cJ cQ : ClassId) (sz : Nat) (hm : Nat) (t : Int32) (vFo : Nat) (vSi : Nat) (vIt : Nat) (vMo : Nat) (vBy : Nat) (vTy : Nat) (vMi : Nat) (vPs : Nat) (vGs : Nat) (vFt : Nat) (vTo : Nat) (vPr : Nat) (vSt : Nat) (vFn : Nat) (vSg : Nat) (vAl : Nat) : Met l yX12_fault (kW yX12_fault cX12_fault 2 (some .int)) { frames := 2, cells := 0, slots := 0, locals := 45 } (kPre dC dI cI cJ cQ sz [.ref hm, .int t] [(hm, .inr (11, [.ref vFo, .ref vSi, .ref vIt, .ref vMo, .int 0, .ref vBy, .ref vTy, .int 0, .ref vMi, .int 0, .ref vPs, .int 0, .ref vGs, .int 0, .ref vFt, .int 0, .ref vTo, .int 0, .int 0, .int 0, .int 16777215, .int 0, .int 0, .ref vPr, .ref vSt, .ref vFn, .int 0, .ref vSg, .ref vAl, .int 0])), (vTy, .inl (cI, 3, .inl (fun _ => 0)))]) (va_Qi (fun (r : Int32) (_ : Unit) => r = if 0 ≤ t ∧ t ≤ 2 then -1 else -2) (fun _ _ => True) (va_A [(hm, .inr (11, [.ref vFo, .ref vSi, .ref vIt, .ref vMo, .int 0, .ref vBy, .ref vTy, .int 0, .ref vMi, .int 0, .ref vPs, .int 0, .ref vGs, .int 0, .ref vFt, .int 0, .ref vTo, .int 0, .int 0, .int 0, .int 16777215, .int 0, .int 0, .ref vPr, .ref vSt, .ref vFn, .int 0, .ref vSg, .ref vAl, .int 0])), (vTy, .inl (cI, 3, .inl (fun _ => 0)))] sz)) 0 0 (va_A [(hm, .inr (11, [.ref vFo, .ref vSi, .ref vIt, .ref vMo, .int 0, .ref vBy, .ref vTy, .int 0, .ref vMi, .int 0, .ref vPs, .int 0, .ref vGs, .int 0, .ref vFt, .int 0, .ref vTo, .int 0, .int 0, .int 0, .int 16777215, .int 0, .int 0, .ref vPr, .ref vSt, .ref vFn, .int 0, .ref vSg, .ref vAl, .int 0])), (vTy, .inl (cI, 3, .inl (fun _ => 0)))] sz) := by
  refine Met.ofW (cc := cX12_fault) (maxL := 2) (ret := (some .int)) (by decide) rfl ?_
  intro p₀ e₀ s₀ m₀ args below meth c₀ s₁ B hml hv₀
  obtain ⟨rfl, hsz, hP, hK, hD0, hN⟩ := hv₀
  have hx₀ := B.exec
  have hb := B.bytes
  have hr := B.returns
  have hts := atoms_spec (ws := (kW yX12_fault cX12_fault 2 (some .int))) B.pre
  have hts := fun w h => hts w (List.mem_cons_of_mem _ h)
  have hown : s₀.vm.findClass RX12 = some m₀.cls := findClass_of_methodNamed B.named
  have hlocks := B.notSynchronized
  subst hsz
  have hD := hD0.self (sz := s₀.heap.size)
  generalize hAe : va_A [(hm, .inr (11, [.ref vFo, .ref vSi, .ref vIt, .ref vMo, .int 0, .ref vBy, .ref vTy, .int 0, .ref vMi, .int 0, .ref vPs, .int 0, .ref vGs, .int 0, .ref vFt, .int 0, .ref vTo, .int 0, .int 0, .int 0, .int 16777215, .int 0, .int 0, .ref vPr, .ref vSt, .ref vFn, .int 0, .ref vSg, .ref vAl, .int 0])), (vTy, .inl (cI, 3, .inl (fun _ => 0)))] s₀.heap.size = A at hD ⊢
  have hA : ∀ q : Nat, s₀.heap.size ≤ q → A q := fun q h => by rw [← hAe]; exact Or.inr h
  have hS : va_S A s₀.heap s₀.heap [] := va_S.rf
  have hP : va_P (dC, dI) vwCl [(hm, .inr (11, [.ref vFo, .ref vSi, .ref vIt, .ref vMo, .int 0, .ref vBy, .ref vTy, .int 0, .ref vMi, .int 0, .ref vPs, .int 0, .ref vGs, .int 0, .ref vFt, .int 0, .ref vTo, .int 0, .int 0, .int 0, .int 16777215, .int 0, .int 0, .ref vPr, .ref vSt, .ref vFn, .int 0, .ref vSg, .ref vAl, .int 0])), (vTy, .inl (cI, 3, .inl (fun _ => 0)))] s₀.heap := hP
  have hl := lv_entry ([.ref hm, .int t]) (n := 2) (Nat.le_of_ble_eq_true rfl)
  rw [lg_entry_eq]
  generalize (lg_sl ([.ref hm, .int t]) ++ List.replicate (2 - (lg_sl ([.ref hm, .int t])).length) Slot.unset).toArray = ls at hl ⊢
  have hl : lv_has ls 2 [(0, .ref hm), (1, .int t)] := hl
  obtain ⟨H, hH⟩ : ∃ z : Heap, z = s₀.heap := ⟨_, rfl⟩
  rw [← hH] at hP
  have hS : va_S A s₀.heap H [] := by rw [hH]; exact hS
  refine k_heap hH ?_
  have hD : va_D A [(hm, .inr (11, [.ref vFo, .ref vSi, .ref vIt, .ref vMo, .int 0, .ref vBy, .ref vTy, .int 0, .ref vMi, .int 0, .ref vPs, .int 0, .ref vGs, .int 0, .ref vFt, .int 0, .ref vTo, .int 0, .int 0, .int 0, .int 16777215, .int 0, .int 0, .ref vPr, .ref vSt, .ref vFn, .int 0, .ref vSg, .ref vAl, .int 0])), (vTy, .inl (cI, 3, .inl (fun _ => 0)))] := hD
  obtain ⟨locs, hlo⟩ : ∃ z : List Loc, z = [] := ⟨_, rfl⟩
  rw [← hlo] at hS ⊢
  clear hlo hH hAe hD0
  refine lv_iload_n hx₀ hb dX12_fault_0 rfl (lv_at hl 1 rfl) ?_
  have hPc := hP.sub (ws' := []) [] rfl
  have hDc := hD.sub (ws' := []) [] (by decide) rfl
  have hFc := va_free (wc := []) hD hS hA [] rfl
  refine va_calli (va_runS (As := [.int t]) (rest := []) ⟨hx₀, hb, hml, hown, hts⟩ (c_isText l dC dI cI cJ cQ H.size t) (va_cwS 1 hts (kGS wd_204 wd_202 wd_203 wd_5) rfl rfl rfl (by decide +kernel) ⟨Nat.le_of_ble_eq_true rfl, Nat.le_of_ble_eq_true rfl⟩) (k_preS hK hPc hDc hN) rfl rfl hl.1 rfl (lv_room (Nat.le_of_ble_eq_true rfl)) dX12_fault_1 ⟨by decide +kernel, by decide +kernel⟩) hS (fun q _ h => hFc q h) hFc (fun r_1 u₀ t₀ H1 locs ht hvm hw hB hz1 hk1 hS => ?_)
  obtain ⟨hP1, hK1, hD1⟩ := hB
  rw [ht] at hP1
  obtain ⟨hP, hD⟩ := va_join (wr := [(hm, .inr (11, [.ref vFo, .ref vSi, .ref vIt, .ref vMo, .int 0, .ref vBy, .ref vTy, .int 0, .ref vMi, .int 0, .ref vPs, .int 0, .ref vGs, .int 0, .ref vFt, .int 0, .ref vTo, .int 0, .int 0, .int 0, .int 16777215, .int 0, .int 0, .ref vPr, .ref vSt, .ref vFn, .int 0, .ref vSg, .ref vAl, .int 0])), (vTy, .inl (cI, 3, .inl (fun _ => 0)))]) (w1 := []) hP hD [] [0, 1] rfl rfl (by decide) (by decide) hk1 hFc hP1 hD1
  generalize H1 = H at hP hS ⊢
  have hP : va_P (dC, dI) vwCl [(hm, .inr (11, [.ref vFo, .ref vSi, .ref vIt, .ref vMo, .int 0, .ref vBy, .ref vTy, .int 0, .ref vMi, .int 0, .ref vPs, .int 0, .ref vGs, .int 0, .ref vFt, .int 0, .ref vTo, .int 0, .int 0, .int 0, .int 16777215, .int 0, .int 0, .ref vPr, .ref vSt, .ref vFn, .int 0, .ref vSg, .ref vAl, .int 0])), (vTy, .inl (cI, 3, .inl (fun _ => 0)))] H := hP
  have hD : va_D A [(hm, .inr (11, [.ref vFo, .ref vSi, .ref vIt, .ref vMo, .int 0, .ref vBy, .ref vTy, .int 0, .ref vMi, .int 0, .ref vPs, .int 0, .ref vGs, .int 0, .ref vFt, .int 0, .ref vTo, .int 0, .int 0, .int 0, .int 16777215, .int 0, .int 0, .ref vPr, .ref vSt, .ref vFn, .int 0, .ref vSg, .ref vAl, .int 0])), (vTy, .inl (cI, 3, .inl (fun _ => 0)))] := hD
  try dsimp only at hw
  by_cases c_2 : 0 ≤ t ∧ t ≤ 2
  · rw [if_pos c_2] at hw
    refine k_topi (v := 1) hw ?_
    refine lv_if_eq (tgt := 15) hx₀ hb dX12_fault_4 (by decide) (fun c9 => absurd c9 (by decide +kernel)) (fun _ => ?_)
    refine lv_aload_n hx₀ hb dX12_fault_7 rfl (lv_at hl 0 rfl) ?_
    refine lv_iload_n hx₀ hb dX12_fault_8 rfl (lv_at hl 1 rfl) ?_
    have hPc := hP.sub (ws' := [(hm, .inr (11, [.ref vFo, .ref vSi, .ref vIt, .ref vMo, .int 0, .ref vBy, .ref vTy, .int 0, .ref vMi, .int 0, .ref vPs, .int 0, .ref vGs, .int 0, .ref vFt, .int 0, .ref vTo, .int 0, .int 0, .int 0, .int 16777215, .int 0, .int 0, .ref vPr, .ref vSt, .ref vFn, .int 0, .ref vSg, .ref vAl, .int 0])), (vTy, .inl (cI, 3, .inl (fun _ => 0)))]) [0, 1] rfl
    have hDc := hD.sub (ws' := [(hm, .inr (11, [.ref vFo, .ref vSi, .ref vIt, .ref vMo, .int 0, .ref vBy, .ref vTy, .int 0, .ref vMi, .int 0, .ref vPs, .int 0, .ref vGs, .int 0, .ref vFt, .int 0, .ref vTo, .int 0, .int 0, .int 0, .int 16777215, .int 0, .int 0, .ref vPr, .ref vSt, .ref vFn, .int 0, .ref vSg, .ref vAl, .int 0])), (vTy, .inl (cI, 3, .inl (fun _ => 0)))]) [0, 1] (by decide) rfl
    have hFc := va_free (wc := [(hm, .inr (11, [.ref vFo, .ref vSi, .ref vIt, .ref vMo, .int 0, .ref vBy, .ref vTy, .int 0, .ref vMi, .int 0, .ref vPs, .int 0, .ref vGs, .int 0, .ref vFt, .int 0, .ref vTo, .int 0, .int 0, .int 0, .int 16777215, .int 0, .int 0, .ref vPr, .ref vSt, .ref vFn, .int 0, .ref vSg, .ref vAl, .int 0])), (vTy, .inl (cI, 3, .inl (fun _ => 0)))]) hD hS hA [0, 1] rfl
    refine va_calli (va_runV (As := [.int t]) (rest := []) ⟨hx₀, hb, hml, hown, hts⟩ (m_readsText l dC dI cI cJ cQ H.size hm t vFo vSi vIt vMo vBy vTy vMi vPs vGs vFt vTo vPr vSt vFn vSg vAl) (cwV 1 hts (kGV wd_247 wd_244 wd_245 wd_246 wd_5) rfl rfl rfl (by decide +kernel) ⟨Nat.le_of_ble_eq_true rfl, Nat.le_of_ble_eq_true rfl⟩) (k_preV (ci := 11) (q0 := 0) hK hPc hDc hN rfl rfl) rfl rfl hl.1 rfl (lv_room (Nat.le_of_ble_eq_true rfl)) dX12_fault_9 ⟨by decide +kernel, by decide +kernel⟩) hS (fun q _ h => hFc q h) hFc (fun r_3 u₀ t₀ H1 locs ht hvm hw hB hz1 hk1 hS => ?_)
    obtain ⟨hP1, hK1, hD1⟩ := hB
    rw [ht] at hP1
    obtain ⟨hP, hD⟩ := va_join (wr := []) (w1 := [(hm, .inr (11, [.ref vFo, .ref vSi, .ref vIt, .ref vMo, .int 0, .ref vBy, .ref vTy, .int 0, .ref vMi, .int 0, .ref vPs, .int 0, .ref vGs, .int 0, .ref vFt, .int 0, .ref vTo, .int 0, .int 0, .int 0, .int 16777215, .int 0, .int 0, .ref vPr, .ref vSt, .ref vFn, .int 0, .ref vSg, .ref vAl, .int 0])), (vTy, .inl (cI, 3, .inl (fun _ => 0)))]) hP hD [0, 1] [] rfl rfl (by decide) (by decide) hk1 hFc hP1 hD1
    generalize H1 = H at hP hS ⊢
    have hP : va_P (dC, dI) vwCl [(hm, .inr (11, [.ref vFo, .ref vSi, .ref vIt, .ref vMo, .int 0, .ref vBy, .ref vTy, .int 0, .ref vMi, .int 0, .ref vPs, .int 0, .ref vGs, .int 0, .ref vFt, .int 0, .ref vTo, .int 0, .int 0, .int 0, .int 16777215, .int 0, .int 0, .ref vPr, .ref vSt, .ref vFn, .int 0, .ref vSg, .ref vAl, .int 0])), (vTy, .inl (cI, 3, .inl (fun _ => 0)))] H := hP
    have hD : va_D A [(hm, .inr (11, [.ref vFo, .ref vSi, .ref vIt, .ref vMo, .int 0, .ref vBy, .ref vTy, .int 0, .ref vMi, .int 0, .ref vPs, .int 0, .ref vGs, .int 0, .ref vFt, .int 0, .ref vTo, .int 0, .int 0, .int 0, .int 16777215, .int 0, .int 0, .ref vPr, .ref vSt, .ref vFn, .int 0, .ref vSg, .ref vAl, .int 0])), (vTy, .inl (cI, 3, .inl (fun _ => 0)))] := hD
    try dsimp only at hw
    refine k_topi (v := (-1)) hw ?_
    refine lv_goto (tgt := 17) hx₀ hb dX12_fault_12 (by decide) ?_
    exact W.iret (v := (-1)) hx₀ hb hr (fun t₀ ht hW => ⟨⟨(-1), (), rfl, (lf_m_fault_1 t c_2), trivial⟩, hS.F ht⟩) hS.2.2 dX12_fault_17
  rw [if_neg c_2] at hw
  refine k_topi (v := 0) hw ?_
  refine lv_if_eq (tgt := 15) hx₀ hb dX12_fault_4 (by decide) (fun _ => ?_) (fun c9 => absurd (by decide +kernel) c9)
  refine lv_bipush (v := (-2)) hx₀ hb dX12_fault_15 (by decide +kernel) ?_
  exact W.iret (v := (-2)) hx₀ hb hr (fun t₀ ht hW => ⟨⟨(-2), (), rfl, (lf_m_fault_2 t c_2), trivial⟩, hS.F ht⟩) hS.2.2 dX12_fault_17
theorem lf_m_mile_1 (k : Int32) (c_3 : (0 : Int64) ≤ k.toInt64 ∧ k.toInt64 ≤ (23 : Int64)) (c9 : ¬ 0 ≤ k) : False := by
  (first | omega | (simp only [Int64.le_iff_toInt_le, Int64.lt_iff_toInt_lt, Int32.le_iff_toInt_le, Int32.lt_iff_toInt_lt, ← Int32.toInt_inj, ← Int64.toInt_inj, Int32.toInt_toInt64, (show (0 : Int32).toInt = 0 from by decide), (show (0 : Int64).toInt = 0 from by decide), (show (23 : Int32).toInt = 23 from by decide), (show (23 : Int64).toInt = 23 from by decide)] at *; omega))
theorem lf_m_mile_2 (k : Int32) (c_3 : (0 : Int64) ≤ k.toInt64 ∧ k.toInt64 ≤ (23 : Int64)) (c_4 : 0 ≤ k) : ((-1) : Int32) = if 0 ≤ k ∧ k ≤ 23 then -1 else -2 := by
  repeat first | rfl | rw [if_pos (by (first | omega | (simp only [Int64.le_iff_toInt_le, Int64.lt_iff_toInt_lt, Int32.le_iff_toInt_le, Int32.lt_iff_toInt_lt, ← Int32.toInt_inj, ← Int64.toInt_inj, Int32.toInt_toInt64, (show (-2 : Int32).toInt = -2 from by decide), (show (-2 : Int64).toInt = -2 from by decide), (show (-1 : Int32).toInt = -1 from by decide), (show (-1 : Int64).toInt = -1 from by decide), (show (0 : Int32).toInt = 0 from by decide), (show (0 : Int64).toInt = 0 from by decide), (show (23 : Int32).toInt = 23 from by decide), (show (23 : Int64).toInt = 23 from by decide)] at *; omega)))] | rw [if_neg (by (first | omega | (simp only [Int64.le_iff_toInt_le, Int64.lt_iff_toInt_lt, Int32.le_iff_toInt_le, Int32.lt_iff_toInt_lt, ← Int32.toInt_inj, ← Int64.toInt_inj, Int32.toInt_toInt64, (show (-2 : Int32).toInt = -2 from by decide), (show (-2 : Int64).toInt = -2 from by decide), (show (-1 : Int32).toInt = -1 from by decide), (show (-1 : Int64).toInt = -1 from by decide), (show (0 : Int32).toInt = 0 from by decide), (show (0 : Int64).toInt = 0 from by decide), (show (23 : Int32).toInt = 23 from by decide), (show (23 : Int64).toInt = 23 from by decide)] at *; omega)))]
theorem lf_m_mile_3 (k : Int32) (c_3 : ¬ ((0 : Int64) ≤ k.toInt64 ∧ k.toInt64 ≤ (23 : Int64))) : ((-2) : Int32) = if 0 ≤ k ∧ k ≤ 23 then -1 else -2 := by
  repeat first | rfl | rw [if_pos (by (first | omega | (simp only [Int64.le_iff_toInt_le, Int64.lt_iff_toInt_lt, Int32.le_iff_toInt_le, Int32.lt_iff_toInt_lt, ← Int32.toInt_inj, ← Int64.toInt_inj, Int32.toInt_toInt64, (show (-2 : Int32).toInt = -2 from by decide), (show (-2 : Int64).toInt = -2 from by decide), (show (-1 : Int32).toInt = -1 from by decide), (show (-1 : Int64).toInt = -1 from by decide), (show (0 : Int32).toInt = 0 from by decide), (show (0 : Int64).toInt = 0 from by decide), (show (23 : Int32).toInt = 23 from by decide), (show (23 : Int64).toInt = 23 from by decide)] at *; omega)))] | rw [if_neg (by (first | omega | (simp only [Int64.le_iff_toInt_le, Int64.lt_iff_toInt_lt, Int32.le_iff_toInt_le, Int32.lt_iff_toInt_lt, ← Int32.toInt_inj, ← Int64.toInt_inj, Int32.toInt_toInt64, (show (-2 : Int32).toInt = -2 from by decide), (show (-2 : Int64).toInt = -2 from by decide), (show (-1 : Int32).toInt = -1 from by decide), (show (-1 : Int64).toInt = -1 from by decide), (show (0 : Int32).toInt = 0 from by decide), (show (0 : Int64).toInt = 0 from by decide), (show (23 : Int32).toInt = 23 from by decide), (show (23 : Int64).toInt = 23 from by decide)] at *; omega)))]
set_option maxHeartbeats 4000000 in
set_option maxRecDepth 100000 in
theorem m_mile (l : Launch) (dC : Nat → ClassId) (dI : Nat → Nat → Nat) (cI cJ cQ : ClassId) (sz : Nat) (hm : Nat) (k : Int32) (vFo : Nat) (vSi : Nat) (vIt : Nat) (vMo : Nat) (vBy : Nat) (vTy : Nat) (vMi : Nat) (vPs : Nat) (vGs : Nat) (vFt : Nat) (vTo : Nat) (vPr : Nat) (vSt : Nat) (vFn : Nat) (vSg : Nat) (vAl : Nat) : Met l yX12_mile (kW yX12_mile cX12_mile 2 (some .int)) { frames := 2, cells := 0, slots := 0, locals := 44 } (kPre dC dI cI cJ cQ sz [.ref hm, .int k] [(hm, .inr (11, [.ref vFo, .ref vSi, .ref vIt, .ref vMo, .int 0, .ref vBy, .ref vTy, .int 0, .ref vMi, .int 0, .ref vPs, .int 0, .ref vGs, .int 0, .ref vFt, .int 0, .ref vTo, .int 0, .int 0, .int 0, .int 16777215, .int 0, .int 0, .ref vPr, .ref vSt, .ref vFn, .int 0, .ref vSg, .ref vAl, .int 0])), (vTy, .inl (cI, 3, .inl (fun _ => 0)))]) (va_Qi (fun (r : Int32) (_ : Unit) => r = if 0 ≤ k ∧ k ≤ 23 then -1 else -2) (fun _ _ => True) (va_A [(hm, .inr (11, [.ref vFo, .ref vSi, .ref vIt, .ref vMo, .int 0, .ref vBy, .ref vTy, .int 0, .ref vMi, .int 0, .ref vPs, .int 0, .ref vGs, .int 0, .ref vFt, .int 0, .ref vTo, .int 0, .int 0, .int 0, .int 16777215, .int 0, .int 0, .ref vPr, .ref vSt, .ref vFn, .int 0, .ref vSg, .ref vAl, .int 0])), (vTy, .inl (cI, 3, .inl (fun _ => 0)))] sz)) 0 0 (va_A [(hm, .inr (11, [.ref vFo, .ref vSi, .ref vIt, .ref vMo, .int 0, .ref vBy, .ref vTy, .int 0, .ref vMi, .int 0, .ref vPs, .int 0, .ref vGs, .int 0, .ref vFt, .int 0, .ref vTo, .int 0, .int 0, .int 0, .int 16777215, .int 0, .int 0, .ref vPr, .ref vSt, .ref vFn, .int 0, .ref vSg, .ref vAl, .int 0])), (vTy, .inl (cI, 3, .inl (fun _ => 0)))] sz) := by
  refine Met.ofW (cc := cX12_mile) (maxL := 2) (ret := (some .int)) (by decide) rfl ?_
  intro p₀ e₀ s₀ m₀ args below meth c₀ s₁ B hml hv₀
  obtain ⟨rfl, hsz, hP, hK, hD0, hN⟩ := hv₀
  have hx₀ := B.exec
  have hb := B.bytes
  have hr := B.returns
  have hts := atoms_spec (ws := (kW yX12_mile cX12_mile 2 (some .int))) B.pre
  have hts := fun w h => hts w (List.mem_cons_of_mem _ h)
  have hown : s₀.vm.findClass RX12 = some m₀.cls := findClass_of_methodNamed B.named
  have hlocks := B.notSynchronized
  subst hsz
  have hD := hD0.self (sz := s₀.heap.size)
  generalize hAe : va_A [(hm, .inr (11, [.ref vFo, .ref vSi, .ref vIt, .ref vMo, .int 0, .ref vBy, .ref vTy, .int 0, .ref vMi, .int 0, .ref vPs, .int 0, .ref vGs, .int 0, .ref vFt, .int 0, .ref vTo, .int 0, .int 0, .int 0, .int 16777215, .int 0, .int 0, .ref vPr, .ref vSt, .ref vFn, .int 0, .ref vSg, .ref vAl, .int 0])), (vTy, .inl (cI, 3, .inl (fun _ => 0)))] s₀.heap.size = A at hD ⊢
  have hA : ∀ q : Nat, s₀.heap.size ≤ q → A q := fun q h => by rw [← hAe]; exact Or.inr h
  have hS : va_S A s₀.heap s₀.heap [] := va_S.rf
  have hP : va_P (dC, dI) vwCl [(hm, .inr (11, [.ref vFo, .ref vSi, .ref vIt, .ref vMo, .int 0, .ref vBy, .ref vTy, .int 0, .ref vMi, .int 0, .ref vPs, .int 0, .ref vGs, .int 0, .ref vFt, .int 0, .ref vTo, .int 0, .int 0, .int 0, .int 16777215, .int 0, .int 0, .ref vPr, .ref vSt, .ref vFn, .int 0, .ref vSg, .ref vAl, .int 0])), (vTy, .inl (cI, 3, .inl (fun _ => 0)))] s₀.heap := hP
  have hl := lv_entry ([.ref hm, .int k]) (n := 2) (Nat.le_of_ble_eq_true rfl)
  rw [lg_entry_eq]
  generalize (lg_sl ([.ref hm, .int k]) ++ List.replicate (2 - (lg_sl ([.ref hm, .int k])).length) Slot.unset).toArray = ls at hl ⊢
  have hl : lv_has ls 2 [(0, .ref hm), (1, .int k)] := hl
  obtain ⟨H, hH⟩ : ∃ z : Heap, z = s₀.heap := ⟨_, rfl⟩
  rw [← hH] at hP
  have hS : va_S A s₀.heap H [] := by rw [hH]; exact hS
  refine k_heap hH ?_
  have hD : va_D A [(hm, .inr (11, [.ref vFo, .ref vSi, .ref vIt, .ref vMo, .int 0, .ref vBy, .ref vTy, .int 0, .ref vMi, .int 0, .ref vPs, .int 0, .ref vGs, .int 0, .ref vFt, .int 0, .ref vTo, .int 0, .int 0, .int 0, .int 16777215, .int 0, .int 0, .ref vPr, .ref vSt, .ref vFn, .int 0, .ref vSg, .ref vAl, .int 0])), (vTy, .inl (cI, 3, .inl (fun _ => 0)))] := hD
  obtain ⟨locs, hlo⟩ : ∃ z : List Loc, z = [] := ⟨_, rfl⟩
  rw [← hlo] at hS ⊢
  clear hlo hH hAe hD0
  refine lv_aload_n hx₀ hb dX12_mile_0 rfl (lv_at hl 0 rfl) ?_
  have hPc := hP.sub (ws' := [(hm, .inr (11, [.ref vFo, .ref vSi, .ref vIt, .ref vMo, .int 0, .ref vBy, .ref vTy, .int 0, .ref vMi, .int 0, .ref vPs, .int 0, .ref vGs, .int 0, .ref vFt, .int 0, .ref vTo, .int 0, .int 0, .int 0, .int 16777215, .int 0, .int 0, .ref vPr, .ref vSt, .ref vFn, .int 0, .ref vSg, .ref vAl, .int 0])), (vTy, .inl (cI, 3, .inl (fun _ => 0)))]) [0, 1] rfl
  have hDc := hD.sub (ws' := [(hm, .inr (11, [.ref vFo, .ref vSi, .ref vIt, .ref vMo, .int 0, .ref vBy, .ref vTy, .int 0, .ref vMi, .int 0, .ref vPs, .int 0, .ref vGs, .int 0, .ref vFt, .int 0, .ref vTo, .int 0, .int 0, .int 0, .int 16777215, .int 0, .int 0, .ref vPr, .ref vSt, .ref vFn, .int 0, .ref vSg, .ref vAl, .int 0])), (vTy, .inl (cI, 3, .inl (fun _ => 0)))]) [0, 1] (by decide) rfl
  have hFc := va_free (wc := [(hm, .inr (11, [.ref vFo, .ref vSi, .ref vIt, .ref vMo, .int 0, .ref vBy, .ref vTy, .int 0, .ref vMi, .int 0, .ref vPs, .int 0, .ref vGs, .int 0, .ref vFt, .int 0, .ref vTo, .int 0, .int 0, .int 0, .int 16777215, .int 0, .int 0, .ref vPr, .ref vSt, .ref vFn, .int 0, .ref vSg, .ref vAl, .int 0])), (vTy, .inl (cI, 3, .inl (fun _ => 0)))]) hD hS hA [0, 1] rfl
  refine va_callv (va_runV (As := []) (rest := []) ⟨hx₀, hb, hml, hown, hts⟩ (m_reads l dC dI cI cJ cQ H.size hm vFo vSi vIt vMo vBy vTy vMi vPs vGs vFt vTo vPr vSt vFn vSg vAl) (cwV 0 hts (kGV wd_298 wd_295 wd_296 wd_297 wd_5) rfl rfl rfl (by decide +kernel) ⟨Nat.le_of_ble_eq_true rfl, Nat.le_of_ble_eq_true rfl⟩) (k_preV (ci := 11) (q0 := 0) hK hPc hDc hN rfl rfl) rfl rfl hl.1 rfl (lv_room (Nat.le_of_ble_eq_true rfl)) dX12_mile_1 ⟨by decide +kernel, by decide +kernel⟩) hS (fun q _ h => hFc q h) hFc (fun u₀ t₀ H1 locs ht hvm hw hB hz1 hk1 hS => ?_)
  obtain ⟨hP1, hK1, hD1⟩ := hB
  rw [ht] at hP1
  obtain ⟨hP, hD⟩ := va_join (wr := []) (w1 := [(hm, .inr (11, [.ref vFo, .ref vSi, .ref vIt, .ref vMo, .int 0, .ref vBy, .ref vTy, .int 0, .ref vMi, .int 0, .ref vPs, .int 0, .ref vGs, .int 0, .ref vFt, .int 0, .ref vTo, .int 0, .int 0, .int 0, .int 16777215, .int 0, .int 0, .ref vPr, .ref vSt, .ref vFn, .int 0, .ref vSg, .ref vAl, .int 0])), (vTy, .inl (cI, 3, .inl (fun _ => 0)))]) hP hD [0, 1] [] rfl rfl (by decide) (by decide) hk1 hFc hP1 hD1
  generalize H1 = H at hP hS ⊢
  have hP : va_P (dC, dI) vwCl [(hm, .inr (11, [.ref vFo, .ref vSi, .ref vIt, .ref vMo, .int 0, .ref vBy, .ref vTy, .int 0, .ref vMi, .int 0, .ref vPs, .int 0, .ref vGs, .int 0, .ref vFt, .int 0, .ref vTo, .int 0, .int 0, .int 0, .int 16777215, .int 0, .int 0, .ref vPr, .ref vSt, .ref vFn, .int 0, .ref vSg, .ref vAl, .int 0])), (vTy, .inl (cI, 3, .inl (fun _ => 0)))] H := hP
  have hD : va_D A [(hm, .inr (11, [.ref vFo, .ref vSi, .ref vIt, .ref vMo, .int 0, .ref vBy, .ref vTy, .int 0, .ref vMi, .int 0, .ref vPs, .int 0, .ref vGs, .int 0, .ref vFt, .int 0, .ref vTo, .int 0, .int 0, .int 0, .int 16777215, .int 0, .int 0, .ref vPr, .ref vSt, .ref vFn, .int 0, .ref vSg, .ref vAl, .int 0])), (vTy, .inl (cI, 3, .inl (fun _ => 0)))] := hD
  refine lv_iload_n hx₀ hb dX12_mile_4 rfl (lv_at hl 1 rfl) ?_
  refine lv_i2l hx₀ hb dX12_mile_5 rfl ?_
  refine lv_lconst (v := 0) hx₀ hb dX12_mile_6 (by decide +kernel) ?_
  refine lv_ldc2 (v := 23) hx₀ hb hown (hts (.constantLong RX12 144 (23)) wd_294) dX12_mile_7 ?_
  have hPc := hP.sub (ws' := []) [] rfl
  have hDc := hD.sub (ws' := []) [] (by decide) rfl
  have hFc := va_free (wc := []) hD hS hA [] rfl
  refine va_calli (va_runS (As := [.long k.toInt64, .long 0, .long 23]) (rest := []) ⟨hx₀, hb, hml, hown, hts⟩ (c_in l dC dI cI cJ cQ H.size k.toInt64 0 23) (va_cwS 3 hts (kGS wd_208 wd_206 wd_207 wd_5) rfl rfl rfl (by decide +kernel) ⟨Nat.le_of_ble_eq_true rfl, Nat.le_of_ble_eq_true rfl⟩) (k_preS hK hPc hDc hN) rfl rfl hl.1 rfl (lv_room (Nat.le_of_ble_eq_true rfl)) dX12_mile_10 ⟨by decide +kernel, by decide +kernel⟩) hS (fun q _ h => hFc q h) hFc (fun r_2 u₀ t₀ H1 locs ht hvm hw hB hz1 hk1 hS => ?_)
  obtain ⟨hP1, hK1, hD1⟩ := hB
  rw [ht] at hP1
  obtain ⟨hP, hD⟩ := va_join (wr := [(hm, .inr (11, [.ref vFo, .ref vSi, .ref vIt, .ref vMo, .int 0, .ref vBy, .ref vTy, .int 0, .ref vMi, .int 0, .ref vPs, .int 0, .ref vGs, .int 0, .ref vFt, .int 0, .ref vTo, .int 0, .int 0, .int 0, .int 16777215, .int 0, .int 0, .ref vPr, .ref vSt, .ref vFn, .int 0, .ref vSg, .ref vAl, .int 0])), (vTy, .inl (cI, 3, .inl (fun _ => 0)))]) (w1 := []) hP hD [] [0, 1] rfl rfl (by decide) (by decide) hk1 hFc hP1 hD1
  generalize H1 = H at hP hS ⊢
  have hP : va_P (dC, dI) vwCl [(hm, .inr (11, [.ref vFo, .ref vSi, .ref vIt, .ref vMo, .int 0, .ref vBy, .ref vTy, .int 0, .ref vMi, .int 0, .ref vPs, .int 0, .ref vGs, .int 0, .ref vFt, .int 0, .ref vTo, .int 0, .int 0, .int 0, .int 16777215, .int 0, .int 0, .ref vPr, .ref vSt, .ref vFn, .int 0, .ref vSg, .ref vAl, .int 0])), (vTy, .inl (cI, 3, .inl (fun _ => 0)))] H := hP
  have hD : va_D A [(hm, .inr (11, [.ref vFo, .ref vSi, .ref vIt, .ref vMo, .int 0, .ref vBy, .ref vTy, .int 0, .ref vMi, .int 0, .ref vPs, .int 0, .ref vGs, .int 0, .ref vFt, .int 0, .ref vTo, .int 0, .int 0, .int 0, .int 16777215, .int 0, .int 0, .ref vPr, .ref vSt, .ref vFn, .int 0, .ref vSg, .ref vAl, .int 0])), (vTy, .inl (cI, 3, .inl (fun _ => 0)))] := hD
  try dsimp only at hw
  by_cases c_3 : (0 : Int64) ≤ k.toInt64 ∧ k.toInt64 ≤ (23 : Int64)
  · rw [if_pos c_3] at hw
    refine k_topi (v := 1) hw ?_
    refine lv_if_ne (tgt := 21) hx₀ hb dX12_mile_13 (by decide) (fun _ => ?_) (fun c9 => absurd c9 (by decide +kernel))
    refine lv_iload_n hx₀ hb dX12_mile_21 rfl (lv_at hl 1 rfl) ?_
    refine lv_aload_n hx₀ hb dX12_mile_22 rfl (lv_at hl 0 rfl) ?_
    refine va_get (D := (dC, dI)) (ci := 11) (v := .int 0) (C := RX12) (T := TX12) (N := 30) hx₀ hb hts inlX12 hown hK hP 0 rfl rfl 7 (by decide) (hts (.fieldLink RX12 107 "BittenStickModel" "miles" "I") wd_252) (fun _ h9 => h9) rfl dX12_mile_23 ?_
    refine lv_icmp_ge (tgt := 38) hx₀ hb dX12_mile_26 (by decide) (fun c_4 => ?_) (fun c9 => (lf_m_mile_1 k c_3 c9).elim)
    refine lv_iconst (v := (-1)) hx₀ hb dX12_mile_38 (by decide +kernel) ?_
    exact W.iret (v := (-1)) hx₀ hb hr (fun t₀ ht hW => ⟨⟨(-1), (), rfl, (lf_m_mile_2 k c_3 c_4), trivial⟩, hS.F ht⟩) hS.2.2 dX12_mile_39
  rw [if_neg c_3] at hw
  refine k_topi (v := 0) hw ?_
  refine lv_if_ne (tgt := 21) hx₀ hb dX12_mile_13 (by decide) (fun c9 => absurd (by decide +kernel) c9) (fun _ => ?_)
  refine lv_bipush (v := (-2)) hx₀ hb dX12_mile_16 (by decide +kernel) ?_
  refine lv_goto (tgt := 39) hx₀ hb dX12_mile_18 (by decide) ?_
  exact W.iret (v := (-2)) hx₀ hb hr (fun t₀ ht hW => ⟨⟨(-2), (), rfl, (lf_m_mile_3 k c_3), trivial⟩, hS.F ht⟩) hS.2.2 dX12_mile_39
set_option maxHeartbeats 4000000 in
set_option maxRecDepth 100000 in
theorem m_passenger (l : Launch) (dC : Nat → ClassId) (dI : Nat → Nat → Nat) (cI cJ cQ : ClassId) (sz : Nat) (hm : Nat) (k : Int32) (w : Int32) (vFo : Nat) (vSi : Nat) (vIt : Nat) (vMo : Nat) (vBy : Nat) (vTy : Nat) (vMi : Nat) (vPs : Nat) (vGs : Nat) (vFt : Nat) (vTo : Nat) (vPr : Nat) (vSt : Nat) (vFn : Nat) (vSg : Nat) (vAl : Nat) : Met l yX12_passenger (kW yX12_passenger cX12_passenger 3 (some .int)) { frames := 2, cells := 0, slots := 0, locals := 46 } (kPre dC dI cI cJ cQ sz [.ref hm, .int k, .int w] [(hm, .inr (11, [.ref vFo, .ref vSi, .ref vIt, .ref vMo, .int 0, .ref vBy, .ref vTy, .int 0, .ref vMi, .int 0, .ref vPs, .int 0, .ref vGs, .int 0, .ref vFt, .int 0, .ref vTo, .int 0, .int 0, .int 0, .int 16777215, .int 0, .int 0, .ref vPr, .ref vSt, .ref vFn, .int 0, .ref vSg, .ref vAl, .int 0])), (vTy, .inl (cI, 3, .inl (fun _ => 0)))]) (va_Qi (fun (r : Int32) (_ : Unit) => r = -2) (fun _ _ => True) (va_A [(hm, .inr (11, [.ref vFo, .ref vSi, .ref vIt, .ref vMo, .int 0, .ref vBy, .ref vTy, .int 0, .ref vMi, .int 0, .ref vPs, .int 0, .ref vGs, .int 0, .ref vFt, .int 0, .ref vTo, .int 0, .int 0, .int 0, .int 16777215, .int 0, .int 0, .ref vPr, .ref vSt, .ref vFn, .int 0, .ref vSg, .ref vAl, .int 0])), (vTy, .inl (cI, 3, .inl (fun _ => 0)))] sz)) 0 0 (va_A [(hm, .inr (11, [.ref vFo, .ref vSi, .ref vIt, .ref vMo, .int 0, .ref vBy, .ref vTy, .int 0, .ref vMi, .int 0, .ref vPs, .int 0, .ref vGs, .int 0, .ref vFt, .int 0, .ref vTo, .int 0, .int 0, .int 0, .int 16777215, .int 0, .int 0, .ref vPr, .ref vSt, .ref vFn, .int 0, .ref vSg, .ref vAl, .int 0])), (vTy, .inl (cI, 3, .inl (fun _ => 0)))] sz) := by
  refine Met.ofW (cc := cX12_passenger) (maxL := 3) (ret := (some .int)) (by decide) rfl ?_
  intro p₀ e₀ s₀ m₀ args below meth c₀ s₁ B hml hv₀
  obtain ⟨rfl, hsz, hP, hK, hD0, hN⟩ := hv₀
  have hx₀ := B.exec
  have hb := B.bytes
  have hr := B.returns
  have hts := atoms_spec (ws := (kW yX12_passenger cX12_passenger 3 (some .int))) B.pre
  have hts := fun w h => hts w (List.mem_cons_of_mem _ h)
  have hown : s₀.vm.findClass RX12 = some m₀.cls := findClass_of_methodNamed B.named
  have hlocks := B.notSynchronized
  subst hsz
  have hD := hD0.self (sz := s₀.heap.size)
  generalize hAe : va_A [(hm, .inr (11, [.ref vFo, .ref vSi, .ref vIt, .ref vMo, .int 0, .ref vBy, .ref vTy, .int 0, .ref vMi, .int 0, .ref vPs, .int 0, .ref vGs, .int 0, .ref vFt, .int 0, .ref vTo, .int 0, .int 0, .int 0, .int 16777215, .int 0, .int 0, .ref vPr, .ref vSt, .ref vFn, .int 0, .ref vSg, .ref vAl, .int 0])), (vTy, .inl (cI, 3, .inl (fun _ => 0)))] s₀.heap.size = A at hD ⊢
  have hA : ∀ q : Nat, s₀.heap.size ≤ q → A q := fun q h => by rw [← hAe]; exact Or.inr h
  have hS : va_S A s₀.heap s₀.heap [] := va_S.rf
  have hP : va_P (dC, dI) vwCl [(hm, .inr (11, [.ref vFo, .ref vSi, .ref vIt, .ref vMo, .int 0, .ref vBy, .ref vTy, .int 0, .ref vMi, .int 0, .ref vPs, .int 0, .ref vGs, .int 0, .ref vFt, .int 0, .ref vTo, .int 0, .int 0, .int 0, .int 16777215, .int 0, .int 0, .ref vPr, .ref vSt, .ref vFn, .int 0, .ref vSg, .ref vAl, .int 0])), (vTy, .inl (cI, 3, .inl (fun _ => 0)))] s₀.heap := hP
  have hl := lv_entry ([.ref hm, .int k, .int w]) (n := 3) (Nat.le_of_ble_eq_true rfl)
  rw [lg_entry_eq]
  generalize (lg_sl ([.ref hm, .int k, .int w]) ++ List.replicate (3 - (lg_sl ([.ref hm, .int k, .int w])).length) Slot.unset).toArray = ls at hl ⊢
  have hl : lv_has ls 3 [(0, .ref hm), (1, .int k), (2, .int w)] := hl
  obtain ⟨H, hH⟩ : ∃ z : Heap, z = s₀.heap := ⟨_, rfl⟩
  rw [← hH] at hP
  have hS : va_S A s₀.heap H [] := by rw [hH]; exact hS
  refine k_heap hH ?_
  have hD : va_D A [(hm, .inr (11, [.ref vFo, .ref vSi, .ref vIt, .ref vMo, .int 0, .ref vBy, .ref vTy, .int 0, .ref vMi, .int 0, .ref vPs, .int 0, .ref vGs, .int 0, .ref vFt, .int 0, .ref vTo, .int 0, .int 0, .int 0, .int 16777215, .int 0, .int 0, .ref vPr, .ref vSt, .ref vFn, .int 0, .ref vSg, .ref vAl, .int 0])), (vTy, .inl (cI, 3, .inl (fun _ => 0)))] := hD
  obtain ⟨locs, hlo⟩ : ∃ z : List Loc, z = [] := ⟨_, rfl⟩
  rw [← hlo] at hS ⊢
  clear hlo hH hAe hD0
  refine lv_aload_n hx₀ hb dX12_passenger_0 rfl (lv_at hl 0 rfl) ?_
  have hPc := hP.sub (ws' := [(hm, .inr (11, [.ref vFo, .ref vSi, .ref vIt, .ref vMo, .int 0, .ref vBy, .ref vTy, .int 0, .ref vMi, .int 0, .ref vPs, .int 0, .ref vGs, .int 0, .ref vFt, .int 0, .ref vTo, .int 0, .int 0, .int 0, .int 16777215, .int 0, .int 0, .ref vPr, .ref vSt, .ref vFn, .int 0, .ref vSg, .ref vAl, .int 0])), (vTy, .inl (cI, 3, .inl (fun _ => 0)))]) [0, 1] rfl
  have hDc := hD.sub (ws' := [(hm, .inr (11, [.ref vFo, .ref vSi, .ref vIt, .ref vMo, .int 0, .ref vBy, .ref vTy, .int 0, .ref vMi, .int 0, .ref vPs, .int 0, .ref vGs, .int 0, .ref vFt, .int 0, .ref vTo, .int 0, .int 0, .int 0, .int 16777215, .int 0, .int 0, .ref vPr, .ref vSt, .ref vFn, .int 0, .ref vSg, .ref vAl, .int 0])), (vTy, .inl (cI, 3, .inl (fun _ => 0)))]) [0, 1] (by decide) rfl
  have hFc := va_free (wc := [(hm, .inr (11, [.ref vFo, .ref vSi, .ref vIt, .ref vMo, .int 0, .ref vBy, .ref vTy, .int 0, .ref vMi, .int 0, .ref vPs, .int 0, .ref vGs, .int 0, .ref vFt, .int 0, .ref vTo, .int 0, .int 0, .int 0, .int 16777215, .int 0, .int 0, .ref vPr, .ref vSt, .ref vFn, .int 0, .ref vSg, .ref vAl, .int 0])), (vTy, .inl (cI, 3, .inl (fun _ => 0)))]) hD hS hA [0, 1] rfl
  refine va_callv (va_runV (As := []) (rest := []) ⟨hx₀, hb, hml, hown, hts⟩ (m_reads l dC dI cI cJ cQ H.size hm vFo vSi vIt vMo vBy vTy vMi vPs vGs vFt vTo vPr vSt vFn vSg vAl) (cwV 0 hts (kGV wd_298 wd_295 wd_296 wd_297 wd_5) rfl rfl rfl (by decide +kernel) ⟨Nat.le_of_ble_eq_true rfl, Nat.le_of_ble_eq_true rfl⟩) (k_preV (ci := 11) (q0 := 0) hK hPc hDc hN rfl rfl) rfl rfl hl.1 rfl (lv_room (Nat.le_of_ble_eq_true rfl)) dX12_passenger_1 ⟨by decide +kernel, by decide +kernel⟩) hS (fun q _ h => hFc q h) hFc (fun u₀ t₀ H1 locs ht hvm hw hB hz1 hk1 hS => ?_)
  obtain ⟨hP1, hK1, hD1⟩ := hB
  rw [ht] at hP1
  obtain ⟨hP, hD⟩ := va_join (wr := []) (w1 := [(hm, .inr (11, [.ref vFo, .ref vSi, .ref vIt, .ref vMo, .int 0, .ref vBy, .ref vTy, .int 0, .ref vMi, .int 0, .ref vPs, .int 0, .ref vGs, .int 0, .ref vFt, .int 0, .ref vTo, .int 0, .int 0, .int 0, .int 16777215, .int 0, .int 0, .ref vPr, .ref vSt, .ref vFn, .int 0, .ref vSg, .ref vAl, .int 0])), (vTy, .inl (cI, 3, .inl (fun _ => 0)))]) hP hD [0, 1] [] rfl rfl (by decide) (by decide) hk1 hFc hP1 hD1
  generalize H1 = H at hP hS ⊢
  have hP : va_P (dC, dI) vwCl [(hm, .inr (11, [.ref vFo, .ref vSi, .ref vIt, .ref vMo, .int 0, .ref vBy, .ref vTy, .int 0, .ref vMi, .int 0, .ref vPs, .int 0, .ref vGs, .int 0, .ref vFt, .int 0, .ref vTo, .int 0, .int 0, .int 0, .int 16777215, .int 0, .int 0, .ref vPr, .ref vSt, .ref vFn, .int 0, .ref vSg, .ref vAl, .int 0])), (vTy, .inl (cI, 3, .inl (fun _ => 0)))] H := hP
  have hD : va_D A [(hm, .inr (11, [.ref vFo, .ref vSi, .ref vIt, .ref vMo, .int 0, .ref vBy, .ref vTy, .int 0, .ref vMi, .int 0, .ref vPs, .int 0, .ref vGs, .int 0, .ref vFt, .int 0, .ref vTo, .int 0, .int 0, .int 0, .int 16777215, .int 0, .int 0, .ref vPr, .ref vSt, .ref vFn, .int 0, .ref vSg, .ref vAl, .int 0])), (vTy, .inl (cI, 3, .inl (fun _ => 0)))] := hD
  refine lv_aload_n hx₀ hb dX12_passenger_4 rfl (lv_at hl 0 rfl) ?_
  refine lv_iload_n hx₀ hb dX12_passenger_5 rfl (lv_at hl 1 rfl) ?_
  have hPc := hP.sub (ws' := [(hm, .inr (11, [.ref vFo, .ref vSi, .ref vIt, .ref vMo, .int 0, .ref vBy, .ref vTy, .int 0, .ref vMi, .int 0, .ref vPs, .int 0, .ref vGs, .int 0, .ref vFt, .int 0, .ref vTo, .int 0, .int 0, .int 0, .int 16777215, .int 0, .int 0, .ref vPr, .ref vSt, .ref vFn, .int 0, .ref vSg, .ref vAl, .int 0]))]) [0] rfl
  have hDc := hD.sub (ws' := [(hm, .inr (11, [.ref vFo, .ref vSi, .ref vIt, .ref vMo, .int 0, .ref vBy, .ref vTy, .int 0, .ref vMi, .int 0, .ref vPs, .int 0, .ref vGs, .int 0, .ref vFt, .int 0, .ref vTo, .int 0, .int 0, .int 0, .int 16777215, .int 0, .int 0, .ref vPr, .ref vSt, .ref vFn, .int 0, .ref vSg, .ref vAl, .int 0]))]) [0] (by decide) rfl
  have hFc := va_free (wc := [(hm, .inr (11, [.ref vFo, .ref vSi, .ref vIt, .ref vMo, .int 0, .ref vBy, .ref vTy, .int 0, .ref vMi, .int 0, .ref vPs, .int 0, .ref vGs, .int 0, .ref vFt, .int 0, .ref vTo, .int 0, .int 0, .int 0, .int 16777215, .int 0, .int 0, .ref vPr, .ref vSt, .ref vFn, .int 0, .ref vSg, .ref vAl, .int 0]))]) hD hS hA [0] rfl
  refine va_calli (va_runV (As := [.int k]) (rest := []) ⟨hx₀, hb, hml, hown, hts⟩ (m_isPassenger l dC dI cI cJ cQ H.size hm k vFo vSi vIt vMo vBy vTy vMi vPs vGs vFt vTo vPr vSt vFn vSg vAl) (cwV 1 hts (kGV wd_323 wd_320 wd_321 wd_322 wd_5) rfl rfl rfl (by decide +kernel) ⟨Nat.le_of_ble_eq_true rfl, Nat.le_of_ble_eq_true rfl⟩) (k_preV (ci := 11) (q0 := 0) hK hPc hDc hN rfl rfl) rfl rfl hl.1 rfl (lv_room (Nat.le_of_ble_eq_true rfl)) dX12_passenger_6 ⟨by decide +kernel, by decide +kernel⟩) hS (fun q _ h => hFc q h) hFc (fun r_2 u₀ t₀ H1 locs ht hvm hw hB hz1 hk1 hS => ?_)
  obtain ⟨hP1, hK1, hD1⟩ := hB
  rw [ht] at hP1
  obtain ⟨hP, hD⟩ := va_join (wr := [(vTy, .inl (cI, 3, .inl (fun _ => 0)))]) (w1 := [(hm, .inr (11, [.ref vFo, .ref vSi, .ref vIt, .ref vMo, .int 0, .ref vBy, .ref vTy, .int 0, .ref vMi, .int 0, .ref vPs, .int 0, .ref vGs, .int 0, .ref vFt, .int 0, .ref vTo, .int 0, .int 0, .int 0, .int 16777215, .int 0, .int 0, .ref vPr, .ref vSt, .ref vFn, .int 0, .ref vSg, .ref vAl, .int 0]))]) hP hD [0] [1] rfl rfl (by decide) (by decide) hk1 hFc hP1 hD1
  generalize H1 = H at hP hS ⊢
  have hP : va_P (dC, dI) vwCl [(vTy, .inl (cI, 3, .inl (fun _ => 0))), (hm, .inr (11, [.ref vFo, .ref vSi, .ref vIt, .ref vMo, .int 0, .ref vBy, .ref vTy, .int 0, .ref vMi, .int 0, .ref vPs, .int 0, .ref vGs, .int 0, .ref vFt, .int 0, .ref vTo, .int 0, .int 0, .int 0, .int 16777215, .int 0, .int 0, .ref vPr, .ref vSt, .ref vFn, .int 0, .ref vSg, .ref vAl, .int 0]))] H := hP
  have hD : va_D A [(vTy, .inl (cI, 3, .inl (fun _ => 0))), (hm, .inr (11, [.ref vFo, .ref vSi, .ref vIt, .ref vMo, .int 0, .ref vBy, .ref vTy, .int 0, .ref vMi, .int 0, .ref vPs, .int 0, .ref vGs, .int 0, .ref vFt, .int 0, .ref vTo, .int 0, .int 0, .int 0, .int 16777215, .int 0, .int 0, .ref vPr, .ref vSt, .ref vFn, .int 0, .ref vSg, .ref vAl, .int 0]))] := hD
  try dsimp only at hw
  refine k_topi (v := 0) hw ?_
  refine lv_if_eq (tgt := 37) hx₀ hb dX12_passenger_9 (by decide) (fun _ => ?_) (fun c9 => absurd (by decide +kernel) c9)
  refine lv_bipush (v := (-2)) hx₀ hb dX12_passenger_37 (by decide +kernel) ?_
  exact W.iret (v := (-2)) hx₀ hb hr (fun t₀ ht hW => ⟨⟨(-2), (), rfl, (by decide +kernel), trivial⟩, hS.F ht⟩) hS.2.2 dX12_passenger_39
set_option maxHeartbeats 4000000 in
set_option maxRecDepth 100000 in
theorem m_goose (l : Launch) (dC : Nat → ClassId) (dI : Nat → Nat → Nat) (cI cJ cQ : ClassId) (sz : Nat) (hm : Nat) (k : Int32) (w : Int32) (vFo : Nat) (vSi : Nat) (vIt : Nat) (vMo : Nat) (vBy : Nat) (vTy : Nat) (vMi : Nat) (vPs : Nat) (vGs : Nat) (vFt : Nat) (vTo : Nat) (vPr : Nat) (vSt : Nat) (vFn : Nat) (vSg : Nat) (vAl : Nat) : Met l yX12_goose (kW yX12_goose cX12_goose 3 (some .int)) { frames := 2, cells := 0, slots := 0, locals := 46 } (kPre dC dI cI cJ cQ sz [.ref hm, .int k, .int w] [(hm, .inr (11, [.ref vFo, .ref vSi, .ref vIt, .ref vMo, .int 0, .ref vBy, .ref vTy, .int 0, .ref vMi, .int 0, .ref vPs, .int 0, .ref vGs, .int 0, .ref vFt, .int 0, .ref vTo, .int 0, .int 0, .int 0, .int 16777215, .int 0, .int 0, .ref vPr, .ref vSt, .ref vFn, .int 0, .ref vSg, .ref vAl, .int 0])), (vTy, .inl (cI, 3, .inl (fun _ => 0)))]) (va_Qi (fun (r : Int32) (_ : Unit) => r = -2) (fun _ _ => True) (va_A [(hm, .inr (11, [.ref vFo, .ref vSi, .ref vIt, .ref vMo, .int 0, .ref vBy, .ref vTy, .int 0, .ref vMi, .int 0, .ref vPs, .int 0, .ref vGs, .int 0, .ref vFt, .int 0, .ref vTo, .int 0, .int 0, .int 0, .int 16777215, .int 0, .int 0, .ref vPr, .ref vSt, .ref vFn, .int 0, .ref vSg, .ref vAl, .int 0])), (vTy, .inl (cI, 3, .inl (fun _ => 0)))] sz)) 0 0 (va_A [(hm, .inr (11, [.ref vFo, .ref vSi, .ref vIt, .ref vMo, .int 0, .ref vBy, .ref vTy, .int 0, .ref vMi, .int 0, .ref vPs, .int 0, .ref vGs, .int 0, .ref vFt, .int 0, .ref vTo, .int 0, .int 0, .int 0, .int 16777215, .int 0, .int 0, .ref vPr, .ref vSt, .ref vFn, .int 0, .ref vSg, .ref vAl, .int 0])), (vTy, .inl (cI, 3, .inl (fun _ => 0)))] sz) := by
  refine Met.ofW (cc := cX12_goose) (maxL := 3) (ret := (some .int)) (by decide) rfl ?_
  intro p₀ e₀ s₀ m₀ args below meth c₀ s₁ B hml hv₀
  obtain ⟨rfl, hsz, hP, hK, hD0, hN⟩ := hv₀
  have hx₀ := B.exec
  have hb := B.bytes
  have hr := B.returns
  have hts := atoms_spec (ws := (kW yX12_goose cX12_goose 3 (some .int))) B.pre
  have hts := fun w h => hts w (List.mem_cons_of_mem _ h)
  have hown : s₀.vm.findClass RX12 = some m₀.cls := findClass_of_methodNamed B.named
  have hlocks := B.notSynchronized
  subst hsz
  have hD := hD0.self (sz := s₀.heap.size)
  generalize hAe : va_A [(hm, .inr (11, [.ref vFo, .ref vSi, .ref vIt, .ref vMo, .int 0, .ref vBy, .ref vTy, .int 0, .ref vMi, .int 0, .ref vPs, .int 0, .ref vGs, .int 0, .ref vFt, .int 0, .ref vTo, .int 0, .int 0, .int 0, .int 16777215, .int 0, .int 0, .ref vPr, .ref vSt, .ref vFn, .int 0, .ref vSg, .ref vAl, .int 0])), (vTy, .inl (cI, 3, .inl (fun _ => 0)))] s₀.heap.size = A at hD ⊢
  have hA : ∀ q : Nat, s₀.heap.size ≤ q → A q := fun q h => by rw [← hAe]; exact Or.inr h
  have hS : va_S A s₀.heap s₀.heap [] := va_S.rf
  have hP : va_P (dC, dI) vwCl [(hm, .inr (11, [.ref vFo, .ref vSi, .ref vIt, .ref vMo, .int 0, .ref vBy, .ref vTy, .int 0, .ref vMi, .int 0, .ref vPs, .int 0, .ref vGs, .int 0, .ref vFt, .int 0, .ref vTo, .int 0, .int 0, .int 0, .int 16777215, .int 0, .int 0, .ref vPr, .ref vSt, .ref vFn, .int 0, .ref vSg, .ref vAl, .int 0])), (vTy, .inl (cI, 3, .inl (fun _ => 0)))] s₀.heap := hP
  have hl := lv_entry ([.ref hm, .int k, .int w]) (n := 3) (Nat.le_of_ble_eq_true rfl)
  rw [lg_entry_eq]
  generalize (lg_sl ([.ref hm, .int k, .int w]) ++ List.replicate (3 - (lg_sl ([.ref hm, .int k, .int w])).length) Slot.unset).toArray = ls at hl ⊢
  have hl : lv_has ls 3 [(0, .ref hm), (1, .int k), (2, .int w)] := hl
  obtain ⟨H, hH⟩ : ∃ z : Heap, z = s₀.heap := ⟨_, rfl⟩
  rw [← hH] at hP
  have hS : va_S A s₀.heap H [] := by rw [hH]; exact hS
  refine k_heap hH ?_
  have hD : va_D A [(hm, .inr (11, [.ref vFo, .ref vSi, .ref vIt, .ref vMo, .int 0, .ref vBy, .ref vTy, .int 0, .ref vMi, .int 0, .ref vPs, .int 0, .ref vGs, .int 0, .ref vFt, .int 0, .ref vTo, .int 0, .int 0, .int 0, .int 16777215, .int 0, .int 0, .ref vPr, .ref vSt, .ref vFn, .int 0, .ref vSg, .ref vAl, .int 0])), (vTy, .inl (cI, 3, .inl (fun _ => 0)))] := hD
  obtain ⟨locs, hlo⟩ : ∃ z : List Loc, z = [] := ⟨_, rfl⟩
  rw [← hlo] at hS ⊢
  clear hlo hH hAe hD0
  refine lv_aload_n hx₀ hb dX12_goose_0 rfl (lv_at hl 0 rfl) ?_
  have hPc := hP.sub (ws' := [(hm, .inr (11, [.ref vFo, .ref vSi, .ref vIt, .ref vMo, .int 0, .ref vBy, .ref vTy, .int 0, .ref vMi, .int 0, .ref vPs, .int 0, .ref vGs, .int 0, .ref vFt, .int 0, .ref vTo, .int 0, .int 0, .int 0, .int 16777215, .int 0, .int 0, .ref vPr, .ref vSt, .ref vFn, .int 0, .ref vSg, .ref vAl, .int 0])), (vTy, .inl (cI, 3, .inl (fun _ => 0)))]) [0, 1] rfl
  have hDc := hD.sub (ws' := [(hm, .inr (11, [.ref vFo, .ref vSi, .ref vIt, .ref vMo, .int 0, .ref vBy, .ref vTy, .int 0, .ref vMi, .int 0, .ref vPs, .int 0, .ref vGs, .int 0, .ref vFt, .int 0, .ref vTo, .int 0, .int 0, .int 0, .int 16777215, .int 0, .int 0, .ref vPr, .ref vSt, .ref vFn, .int 0, .ref vSg, .ref vAl, .int 0])), (vTy, .inl (cI, 3, .inl (fun _ => 0)))]) [0, 1] (by decide) rfl
  have hFc := va_free (wc := [(hm, .inr (11, [.ref vFo, .ref vSi, .ref vIt, .ref vMo, .int 0, .ref vBy, .ref vTy, .int 0, .ref vMi, .int 0, .ref vPs, .int 0, .ref vGs, .int 0, .ref vFt, .int 0, .ref vTo, .int 0, .int 0, .int 0, .int 16777215, .int 0, .int 0, .ref vPr, .ref vSt, .ref vFn, .int 0, .ref vSg, .ref vAl, .int 0])), (vTy, .inl (cI, 3, .inl (fun _ => 0)))]) hD hS hA [0, 1] rfl
  refine va_callv (va_runV (As := []) (rest := []) ⟨hx₀, hb, hml, hown, hts⟩ (m_reads l dC dI cI cJ cQ H.size hm vFo vSi vIt vMo vBy vTy vMi vPs vGs vFt vTo vPr vSt vFn vSg vAl) (cwV 0 hts (kGV wd_298 wd_295 wd_296 wd_297 wd_5) rfl rfl rfl (by decide +kernel) ⟨Nat.le_of_ble_eq_true rfl, Nat.le_of_ble_eq_true rfl⟩) (k_preV (ci := 11) (q0 := 0) hK hPc hDc hN rfl rfl) rfl rfl hl.1 rfl (lv_room (Nat.le_of_ble_eq_true rfl)) dX12_goose_1 ⟨by decide +kernel, by decide +kernel⟩) hS (fun q _ h => hFc q h) hFc (fun u₀ t₀ H1 locs ht hvm hw hB hz1 hk1 hS => ?_)
  obtain ⟨hP1, hK1, hD1⟩ := hB
  rw [ht] at hP1
  obtain ⟨hP, hD⟩ := va_join (wr := []) (w1 := [(hm, .inr (11, [.ref vFo, .ref vSi, .ref vIt, .ref vMo, .int 0, .ref vBy, .ref vTy, .int 0, .ref vMi, .int 0, .ref vPs, .int 0, .ref vGs, .int 0, .ref vFt, .int 0, .ref vTo, .int 0, .int 0, .int 0, .int 16777215, .int 0, .int 0, .ref vPr, .ref vSt, .ref vFn, .int 0, .ref vSg, .ref vAl, .int 0])), (vTy, .inl (cI, 3, .inl (fun _ => 0)))]) hP hD [0, 1] [] rfl rfl (by decide) (by decide) hk1 hFc hP1 hD1
  generalize H1 = H at hP hS ⊢
  have hP : va_P (dC, dI) vwCl [(hm, .inr (11, [.ref vFo, .ref vSi, .ref vIt, .ref vMo, .int 0, .ref vBy, .ref vTy, .int 0, .ref vMi, .int 0, .ref vPs, .int 0, .ref vGs, .int 0, .ref vFt, .int 0, .ref vTo, .int 0, .int 0, .int 0, .int 16777215, .int 0, .int 0, .ref vPr, .ref vSt, .ref vFn, .int 0, .ref vSg, .ref vAl, .int 0])), (vTy, .inl (cI, 3, .inl (fun _ => 0)))] H := hP
  have hD : va_D A [(hm, .inr (11, [.ref vFo, .ref vSi, .ref vIt, .ref vMo, .int 0, .ref vBy, .ref vTy, .int 0, .ref vMi, .int 0, .ref vPs, .int 0, .ref vGs, .int 0, .ref vFt, .int 0, .ref vTo, .int 0, .int 0, .int 0, .int 16777215, .int 0, .int 0, .ref vPr, .ref vSt, .ref vFn, .int 0, .ref vSg, .ref vAl, .int 0])), (vTy, .inl (cI, 3, .inl (fun _ => 0)))] := hD
  refine lv_aload_n hx₀ hb dX12_goose_4 rfl (lv_at hl 0 rfl) ?_
  refine lv_iload_n hx₀ hb dX12_goose_5 rfl (lv_at hl 1 rfl) ?_
  have hPc := hP.sub (ws' := [(hm, .inr (11, [.ref vFo, .ref vSi, .ref vIt, .ref vMo, .int 0, .ref vBy, .ref vTy, .int 0, .ref vMi, .int 0, .ref vPs, .int 0, .ref vGs, .int 0, .ref vFt, .int 0, .ref vTo, .int 0, .int 0, .int 0, .int 16777215, .int 0, .int 0, .ref vPr, .ref vSt, .ref vFn, .int 0, .ref vSg, .ref vAl, .int 0]))]) [0] rfl
  have hDc := hD.sub (ws' := [(hm, .inr (11, [.ref vFo, .ref vSi, .ref vIt, .ref vMo, .int 0, .ref vBy, .ref vTy, .int 0, .ref vMi, .int 0, .ref vPs, .int 0, .ref vGs, .int 0, .ref vFt, .int 0, .ref vTo, .int 0, .int 0, .int 0, .int 16777215, .int 0, .int 0, .ref vPr, .ref vSt, .ref vFn, .int 0, .ref vSg, .ref vAl, .int 0]))]) [0] (by decide) rfl
  have hFc := va_free (wc := [(hm, .inr (11, [.ref vFo, .ref vSi, .ref vIt, .ref vMo, .int 0, .ref vBy, .ref vTy, .int 0, .ref vMi, .int 0, .ref vPs, .int 0, .ref vGs, .int 0, .ref vFt, .int 0, .ref vTo, .int 0, .int 0, .int 0, .int 16777215, .int 0, .int 0, .ref vPr, .ref vSt, .ref vFn, .int 0, .ref vSg, .ref vAl, .int 0]))]) hD hS hA [0] rfl
  refine va_calli (va_runV (As := [.int k]) (rest := []) ⟨hx₀, hb, hml, hown, hts⟩ (m_isGoose l dC dI cI cJ cQ H.size hm k vFo vSi vIt vMo vBy vTy vMi vPs vGs vFt vTo vPr vSt vFn vSg vAl) (cwV 1 hts (kGV wd_345 wd_342 wd_343 wd_344 wd_5) rfl rfl rfl (by decide +kernel) ⟨Nat.le_of_ble_eq_true rfl, Nat.le_of_ble_eq_true rfl⟩) (k_preV (ci := 11) (q0 := 0) hK hPc hDc hN rfl rfl) rfl rfl hl.1 rfl (lv_room (Nat.le_of_ble_eq_true rfl)) dX12_goose_6 ⟨by decide +kernel, by decide +kernel⟩) hS (fun q _ h => hFc q h) hFc (fun r_2 u₀ t₀ H1 locs ht hvm hw hB hz1 hk1 hS => ?_)
  obtain ⟨hP1, hK1, hD1⟩ := hB
  rw [ht] at hP1
  obtain ⟨hP, hD⟩ := va_join (wr := [(vTy, .inl (cI, 3, .inl (fun _ => 0)))]) (w1 := [(hm, .inr (11, [.ref vFo, .ref vSi, .ref vIt, .ref vMo, .int 0, .ref vBy, .ref vTy, .int 0, .ref vMi, .int 0, .ref vPs, .int 0, .ref vGs, .int 0, .ref vFt, .int 0, .ref vTo, .int 0, .int 0, .int 0, .int 16777215, .int 0, .int 0, .ref vPr, .ref vSt, .ref vFn, .int 0, .ref vSg, .ref vAl, .int 0]))]) hP hD [0] [1] rfl rfl (by decide) (by decide) hk1 hFc hP1 hD1
  generalize H1 = H at hP hS ⊢
  have hP : va_P (dC, dI) vwCl [(vTy, .inl (cI, 3, .inl (fun _ => 0))), (hm, .inr (11, [.ref vFo, .ref vSi, .ref vIt, .ref vMo, .int 0, .ref vBy, .ref vTy, .int 0, .ref vMi, .int 0, .ref vPs, .int 0, .ref vGs, .int 0, .ref vFt, .int 0, .ref vTo, .int 0, .int 0, .int 0, .int 16777215, .int 0, .int 0, .ref vPr, .ref vSt, .ref vFn, .int 0, .ref vSg, .ref vAl, .int 0]))] H := hP
  have hD : va_D A [(vTy, .inl (cI, 3, .inl (fun _ => 0))), (hm, .inr (11, [.ref vFo, .ref vSi, .ref vIt, .ref vMo, .int 0, .ref vBy, .ref vTy, .int 0, .ref vMi, .int 0, .ref vPs, .int 0, .ref vGs, .int 0, .ref vFt, .int 0, .ref vTo, .int 0, .int 0, .int 0, .int 16777215, .int 0, .int 0, .ref vPr, .ref vSt, .ref vFn, .int 0, .ref vSg, .ref vAl, .int 0]))] := hD
  try dsimp only at hw
  refine k_topi (v := 0) hw ?_
  refine lv_if_eq (tgt := 32) hx₀ hb dX12_goose_9 (by decide) (fun _ => ?_) (fun c9 => absurd (by decide +kernel) c9)
  refine lv_bipush (v := (-2)) hx₀ hb dX12_goose_32 (by decide +kernel) ?_
  exact W.iret (v := (-2)) hx₀ hb hr (fun t₀ ht hW => ⟨⟨(-2), (), rfl, (by decide +kernel), trivial⟩, hS.F ht⟩) hS.2.2 dX12_goose_34
theorem lf_m_flight_1 (p : Int32) (le : Int32) (ri : Int32) (hh : Int32) (c_2 : (0 : Int64) ≤ p.toInt64 ∧ p.toInt64 ≤ (7 : Int64)) (c_4 : (0 : Int64) ≤ le.toInt64 ∧ le.toInt64 ≤ (7 : Int64)) (c_6 : (0 : Int64) ≤ ri.toInt64 ∧ ri.toInt64 ≤ (7 : Int64)) (c_7 : le = ri) : ((-2) : Int32) = if 0 ≤ p ∧ p ≤ 7 ∧ 0 ≤ le ∧ le ≤ 7 ∧ 0 ≤ ri ∧ ri ≤ 7 ∧ ¬ le = ri ∧ 1 ≤ hh ∧ hh ≤ 9 then 1 else -2 := by
  repeat first | rfl | rw [if_pos (by (first | omega | (simp only [Int64.le_iff_toInt_le, Int64.lt_iff_toInt_lt, Int32.le_iff_toInt_le, Int32.lt_iff_toInt_lt, ← Int32.toInt_inj, ← Int64.toInt_inj, Int32.toInt_toInt64, (show (-2 : Int32).toInt = -2 from by decide), (show (-2 : Int64).toInt = -2 from by decide), (show (0 : Int32).toInt = 0 from by decide), (show (0 : Int64).toInt = 0 from by decide), (show (1 : Int32).toInt = 1 from by decide), (show (1 : Int64).toInt = 1 from by decide), (show (7 : Int32).toInt = 7 from by decide), (show (7 : Int64).toInt = 7 from by decide), (show (9 : Int32).toInt = 9 from by decide), (show (9 : Int64).toInt = 9 from by decide)] at *; omega)))] | rw [if_neg (by (first | omega | (simp only [Int64.le_iff_toInt_le, Int64.lt_iff_toInt_lt, Int32.le_iff_toInt_le, Int32.lt_iff_toInt_lt, ← Int32.toInt_inj, ← Int64.toInt_inj, Int32.toInt_toInt64, (show (-2 : Int32).toInt = -2 from by decide), (show (-2 : Int64).toInt = -2 from by decide), (show (0 : Int32).toInt = 0 from by decide), (show (0 : Int64).toInt = 0 from by decide), (show (1 : Int32).toInt = 1 from by decide), (show (1 : Int64).toInt = 1 from by decide), (show (7 : Int32).toInt = 7 from by decide), (show (7 : Int64).toInt = 7 from by decide), (show (9 : Int32).toInt = 9 from by decide), (show (9 : Int64).toInt = 9 from by decide)] at *; omega)))]
theorem lf_m_flight_2 (p : Int32) (le : Int32) (ri : Int32) (hh : Int32) (c_2 : (0 : Int64) ≤ p.toInt64 ∧ p.toInt64 ≤ (7 : Int64)) (c_4 : (0 : Int64) ≤ le.toInt64 ∧ le.toInt64 ≤ (7 : Int64)) (c_6 : (0 : Int64) ≤ ri.toInt64 ∧ ri.toInt64 ≤ (7 : Int64)) (c_7 : ¬ le = ri) (c_9 : (1 : Int64) ≤ hh.toInt64 ∧ hh.toInt64 ≤ (9 : Int64)) : (1 : Int32) = if 0 ≤ p ∧ p ≤ 7 ∧ 0 ≤ le ∧ le ≤ 7 ∧ 0 ≤ ri ∧ ri ≤ 7 ∧ ¬ le = ri ∧ 1 ≤ hh ∧ hh ≤ 9 then 1 else -2 := by
  repeat first | rfl | rw [if_pos (by (first | omega | (simp only [Int64.le_iff_toInt_le, Int64.lt_iff_toInt_lt, Int32.le_iff_toInt_le, Int32.lt_iff_toInt_lt, ← Int32.toInt_inj, ← Int64.toInt_inj, Int32.toInt_toInt64, (show (-2 : Int32).toInt = -2 from by decide), (show (-2 : Int64).toInt = -2 from by decide), (show (0 : Int32).toInt = 0 from by decide), (show (0 : Int64).toInt = 0 from by decide), (show (1 : Int32).toInt = 1 from by decide), (show (1 : Int64).toInt = 1 from by decide), (show (7 : Int32).toInt = 7 from by decide), (show (7 : Int64).toInt = 7 from by decide), (show (9 : Int32).toInt = 9 from by decide), (show (9 : Int64).toInt = 9 from by decide)] at *; omega)))] | rw [if_neg (by (first | omega | (simp only [Int64.le_iff_toInt_le, Int64.lt_iff_toInt_lt, Int32.le_iff_toInt_le, Int32.lt_iff_toInt_lt, ← Int32.toInt_inj, ← Int64.toInt_inj, Int32.toInt_toInt64, (show (-2 : Int32).toInt = -2 from by decide), (show (-2 : Int64).toInt = -2 from by decide), (show (0 : Int32).toInt = 0 from by decide), (show (0 : Int64).toInt = 0 from by decide), (show (1 : Int32).toInt = 1 from by decide), (show (1 : Int64).toInt = 1 from by decide), (show (7 : Int32).toInt = 7 from by decide), (show (7 : Int64).toInt = 7 from by decide), (show (9 : Int32).toInt = 9 from by decide), (show (9 : Int64).toInt = 9 from by decide)] at *; omega)))]
theorem lf_m_flight_3 (p : Int32) (le : Int32) (ri : Int32) (hh : Int32) (c_2 : (0 : Int64) ≤ p.toInt64 ∧ p.toInt64 ≤ (7 : Int64)) (c_4 : (0 : Int64) ≤ le.toInt64 ∧ le.toInt64 ≤ (7 : Int64)) (c_6 : (0 : Int64) ≤ ri.toInt64 ∧ ri.toInt64 ≤ (7 : Int64)) (c_7 : ¬ le = ri) (c_9 : ¬ ((1 : Int64) ≤ hh.toInt64 ∧ hh.toInt64 ≤ (9 : Int64))) : ((-2) : Int32) = if 0 ≤ p ∧ p ≤ 7 ∧ 0 ≤ le ∧ le ≤ 7 ∧ 0 ≤ ri ∧ ri ≤ 7 ∧ ¬ le = ri ∧ 1 ≤ hh ∧ hh ≤ 9 then 1 else -2 := by
  repeat first | rfl | rw [if_pos (by (first | omega | (simp only [Int64.le_iff_toInt_le, Int64.lt_iff_toInt_lt, Int32.le_iff_toInt_le, Int32.lt_iff_toInt_lt, ← Int32.toInt_inj, ← Int64.toInt_inj, Int32.toInt_toInt64, (show (-2 : Int32).toInt = -2 from by decide), (show (-2 : Int64).toInt = -2 from by decide), (show (0 : Int32).toInt = 0 from by decide), (show (0 : Int64).toInt = 0 from by decide), (show (1 : Int32).toInt = 1 from by decide), (show (1 : Int64).toInt = 1 from by decide), (show (7 : Int32).toInt = 7 from by decide), (show (7 : Int64).toInt = 7 from by decide), (show (9 : Int32).toInt = 9 from by decide), (show (9 : Int64).toInt = 9 from by decide)] at *; omega)))] | rw [if_neg (by (first | omega | (simp only [Int64.le_iff_toInt_le, Int64.lt_iff_toInt_lt, Int32.le_iff_toInt_le, Int32.lt_iff_toInt_lt, ← Int32.toInt_inj, ← Int64.toInt_inj, Int32.toInt_toInt64, (show (-2 : Int32).toInt = -2 from by decide), (show (-2 : Int64).toInt = -2 from by decide), (show (0 : Int32).toInt = 0 from by decide), (show (0 : Int64).toInt = 0 from by decide), (show (1 : Int32).toInt = 1 from by decide), (show (1 : Int64).toInt = 1 from by decide), (show (7 : Int32).toInt = 7 from by decide), (show (7 : Int64).toInt = 7 from by decide), (show (9 : Int32).toInt = 9 from by decide), (show (9 : Int64).toInt = 9 from by decide)] at *; omega)))]
theorem lf_m_flight_4 (p : Int32) (le : Int32) (ri : Int32) (hh : Int32) (c_2 : (0 : Int64) ≤ p.toInt64 ∧ p.toInt64 ≤ (7 : Int64)) (c_4 : (0 : Int64) ≤ le.toInt64 ∧ le.toInt64 ≤ (7 : Int64)) (c_6 : ¬ ((0 : Int64) ≤ ri.toInt64 ∧ ri.toInt64 ≤ (7 : Int64))) : ((-2) : Int32) = if 0 ≤ p ∧ p ≤ 7 ∧ 0 ≤ le ∧ le ≤ 7 ∧ 0 ≤ ri ∧ ri ≤ 7 ∧ ¬ le = ri ∧ 1 ≤ hh ∧ hh ≤ 9 then 1 else -2 := by
  repeat first | rfl | rw [if_pos (by (first | omega | (simp only [Int64.le_iff_toInt_le, Int64.lt_iff_toInt_lt, Int32.le_iff_toInt_le, Int32.lt_iff_toInt_lt, ← Int32.toInt_inj, ← Int64.toInt_inj, Int32.toInt_toInt64, (show (-2 : Int32).toInt = -2 from by decide), (show (-2 : Int64).toInt = -2 from by decide), (show (0 : Int32).toInt = 0 from by decide), (show (0 : Int64).toInt = 0 from by decide), (show (1 : Int32).toInt = 1 from by decide), (show (1 : Int64).toInt = 1 from by decide), (show (7 : Int32).toInt = 7 from by decide), (show (7 : Int64).toInt = 7 from by decide), (show (9 : Int32).toInt = 9 from by decide), (show (9 : Int64).toInt = 9 from by decide)] at *; omega)))] | rw [if_neg (by (first | omega | (simp only [Int64.le_iff_toInt_le, Int64.lt_iff_toInt_lt, Int32.le_iff_toInt_le, Int32.lt_iff_toInt_lt, ← Int32.toInt_inj, ← Int64.toInt_inj, Int32.toInt_toInt64, (show (-2 : Int32).toInt = -2 from by decide), (show (-2 : Int64).toInt = -2 from by decide), (show (0 : Int32).toInt = 0 from by decide), (show (0 : Int64).toInt = 0 from by decide), (show (1 : Int32).toInt = 1 from by decide), (show (1 : Int64).toInt = 1 from by decide), (show (7 : Int32).toInt = 7 from by decide), (show (7 : Int64).toInt = 7 from by decide), (show (9 : Int32).toInt = 9 from by decide), (show (9 : Int64).toInt = 9 from by decide)] at *; omega)))]
theorem lf_m_flight_5 (p : Int32) (le : Int32) (ri : Int32) (hh : Int32) (c_2 : (0 : Int64) ≤ p.toInt64 ∧ p.toInt64 ≤ (7 : Int64)) (c_4 : ¬ ((0 : Int64) ≤ le.toInt64 ∧ le.toInt64 ≤ (7 : Int64))) : ((-2) : Int32) = if 0 ≤ p ∧ p ≤ 7 ∧ 0 ≤ le ∧ le ≤ 7 ∧ 0 ≤ ri ∧ ri ≤ 7 ∧ ¬ le = ri ∧ 1 ≤ hh ∧ hh ≤ 9 then 1 else -2 := by
  repeat first | rfl | rw [if_pos (by (first | omega | (simp only [Int64.le_iff_toInt_le, Int64.lt_iff_toInt_lt, Int32.le_iff_toInt_le, Int32.lt_iff_toInt_lt, ← Int32.toInt_inj, ← Int64.toInt_inj, Int32.toInt_toInt64, (show (-2 : Int32).toInt = -2 from by decide), (show (-2 : Int64).toInt = -2 from by decide), (show (0 : Int32).toInt = 0 from by decide), (show (0 : Int64).toInt = 0 from by decide), (show (1 : Int32).toInt = 1 from by decide), (show (1 : Int64).toInt = 1 from by decide), (show (7 : Int32).toInt = 7 from by decide), (show (7 : Int64).toInt = 7 from by decide), (show (9 : Int32).toInt = 9 from by decide), (show (9 : Int64).toInt = 9 from by decide)] at *; omega)))] | rw [if_neg (by (first | omega | (simp only [Int64.le_iff_toInt_le, Int64.lt_iff_toInt_lt, Int32.le_iff_toInt_le, Int32.lt_iff_toInt_lt, ← Int32.toInt_inj, ← Int64.toInt_inj, Int32.toInt_toInt64, (show (-2 : Int32).toInt = -2 from by decide), (show (-2 : Int64).toInt = -2 from by decide), (show (0 : Int32).toInt = 0 from by decide), (show (0 : Int64).toInt = 0 from by decide), (show (1 : Int32).toInt = 1 from by decide), (show (1 : Int64).toInt = 1 from by decide), (show (7 : Int32).toInt = 7 from by decide), (show (7 : Int64).toInt = 7 from by decide), (show (9 : Int32).toInt = 9 from by decide), (show (9 : Int64).toInt = 9 from by decide)] at *; omega)))]
theorem lf_m_flight_6 (p : Int32) (le : Int32) (ri : Int32) (hh : Int32) (c_2 : ¬ ((0 : Int64) ≤ p.toInt64 ∧ p.toInt64 ≤ (7 : Int64))) : ((-2) : Int32) = if 0 ≤ p ∧ p ≤ 7 ∧ 0 ≤ le ∧ le ≤ 7 ∧ 0 ≤ ri ∧ ri ≤ 7 ∧ ¬ le = ri ∧ 1 ≤ hh ∧ hh ≤ 9 then 1 else -2 := by
  repeat first | rfl | rw [if_pos (by (first | omega | (simp only [Int64.le_iff_toInt_le, Int64.lt_iff_toInt_lt, Int32.le_iff_toInt_le, Int32.lt_iff_toInt_lt, ← Int32.toInt_inj, ← Int64.toInt_inj, Int32.toInt_toInt64, (show (-2 : Int32).toInt = -2 from by decide), (show (-2 : Int64).toInt = -2 from by decide), (show (0 : Int32).toInt = 0 from by decide), (show (0 : Int64).toInt = 0 from by decide), (show (1 : Int32).toInt = 1 from by decide), (show (1 : Int64).toInt = 1 from by decide), (show (7 : Int32).toInt = 7 from by decide), (show (7 : Int64).toInt = 7 from by decide), (show (9 : Int32).toInt = 9 from by decide), (show (9 : Int64).toInt = 9 from by decide)] at *; omega)))] | rw [if_neg (by (first | omega | (simp only [Int64.le_iff_toInt_le, Int64.lt_iff_toInt_lt, Int32.le_iff_toInt_le, Int32.lt_iff_toInt_lt, ← Int32.toInt_inj, ← Int64.toInt_inj, Int32.toInt_toInt64, (show (-2 : Int32).toInt = -2 from by decide), (show (-2 : Int64).toInt = -2 from by decide), (show (0 : Int32).toInt = 0 from by decide), (show (0 : Int64).toInt = 0 from by decide), (show (1 : Int32).toInt = 1 from by decide), (show (1 : Int64).toInt = 1 from by decide), (show (7 : Int32).toInt = 7 from by decide), (show (7 : Int64).toInt = 7 from by decide), (show (9 : Int32).toInt = 9 from by decide), (show (9 : Int64).toInt = 9 from by decide)] at *; omega)))]
set_option maxHeartbeats 4000000 in
set_option maxRecDepth 100000 in
theorem m_flight (l : Launch) (dC : Nat → ClassId) (dI : Nat → Nat → Nat) (cI cJ cQ : ClassId) (sz : Nat) (hm : Nat) (p : Int32) (le : Int32) (ri : Int32) (hh : Int32) (vFo : Nat) (vSi : Nat) (vIt : Nat) (vMo : Nat) (vBy : Nat) (vTy : Nat) (vMi : Nat) (vPs : Nat) (vGs : Nat) (vFt : Nat) (vTo : Nat) (vPr : Nat) (vSt : Nat) (vFn : Nat) (vSg : Nat) (vAl : Nat) : Met l yX12_flight (kW yX12_flight cX12_flight 5 (some .int)) { frames := 1, cells := 0, slots := 0, locals := 25 } (kPre dC dI cI cJ cQ sz [.ref hm, .int p, .int le, .int ri, .int hh] [(hm, .inr (11, [.ref vFo, .ref vSi, .ref vIt, .ref vMo, .int 0, .ref vBy, .ref vTy, .int 0, .ref vMi, .int 0, .ref vPs, .int 0, .ref vGs, .int 0, .ref vFt, .int 0, .ref vTo, .int 0, .int 0, .int 0, .int 16777215, .int 0, .int 0, .ref vPr, .ref vSt, .ref vFn, .int 0, .ref vSg, .ref vAl, .int 0])), (vFt, .inl (cI, 32, .inl (fun _ => 0)))]) (va_Qi (fun (r : Int32) (_ : Unit) => r = if 0 ≤ p ∧ p ≤ 7 ∧ 0 ≤ le ∧ le ≤ 7 ∧ 0 ≤ ri ∧ ri ≤ 7 ∧ ¬ le = ri ∧ 1 ≤ hh ∧ hh ≤ 9 then 1 else -2) (fun _ _ => True) (va_A [(hm, .inr (11, [.ref vFo, .ref vSi, .ref vIt, .ref vMo, .int 0, .ref vBy, .ref vTy, .int 0, .ref vMi, .int 0, .ref vPs, .int 0, .ref vGs, .int 0, .ref vFt, .int 0, .ref vTo, .int 0, .int 0, .int 0, .int 16777215, .int 0, .int 0, .ref vPr, .ref vSt, .ref vFn, .int 0, .ref vSg, .ref vAl, .int 0])), (vFt, .inl (cI, 32, .inl (fun _ => 0)))] sz)) 0 0 (va_A [(hm, .inr (11, [.ref vFo, .ref vSi, .ref vIt, .ref vMo, .int 0, .ref vBy, .ref vTy, .int 0, .ref vMi, .int 0, .ref vPs, .int 0, .ref vGs, .int 0, .ref vFt, .int 0, .ref vTo, .int 0, .int 0, .int 0, .int 16777215, .int 0, .int 0, .ref vPr, .ref vSt, .ref vFn, .int 0, .ref vSg, .ref vAl, .int 0])), (vFt, .inl (cI, 32, .inl (fun _ => 0)))] sz) := by
  refine Met.ofW (cc := cX12_flight) (maxL := 5) (ret := (some .int)) (by decide) rfl ?_
  intro p₀ e₀ s₀ m₀ args below meth c₀ s₁ B hml hv₀
  obtain ⟨rfl, hsz, hP, hK, hD0, hN⟩ := hv₀
  have hx₀ := B.exec
  have hb := B.bytes
  have hr := B.returns
  have hts := atoms_spec (ws := (kW yX12_flight cX12_flight 5 (some .int))) B.pre
  have hts := fun w h => hts w (List.mem_cons_of_mem _ h)
  have hown : s₀.vm.findClass RX12 = some m₀.cls := findClass_of_methodNamed B.named
  have hlocks := B.notSynchronized
  subst hsz
  have hD := hD0.self (sz := s₀.heap.size)
  generalize hAe : va_A [(hm, .inr (11, [.ref vFo, .ref vSi, .ref vIt, .ref vMo, .int 0, .ref vBy, .ref vTy, .int 0, .ref vMi, .int 0, .ref vPs, .int 0, .ref vGs, .int 0, .ref vFt, .int 0, .ref vTo, .int 0, .int 0, .int 0, .int 16777215, .int 0, .int 0, .ref vPr, .ref vSt, .ref vFn, .int 0, .ref vSg, .ref vAl, .int 0])), (vFt, .inl (cI, 32, .inl (fun _ => 0)))] s₀.heap.size = A at hD ⊢
  have hA : ∀ q : Nat, s₀.heap.size ≤ q → A q := fun q h => by rw [← hAe]; exact Or.inr h
  have hS : va_S A s₀.heap s₀.heap [] := va_S.rf
  have hP : va_P (dC, dI) vwCl [(hm, .inr (11, [.ref vFo, .ref vSi, .ref vIt, .ref vMo, .int 0, .ref vBy, .ref vTy, .int 0, .ref vMi, .int 0, .ref vPs, .int 0, .ref vGs, .int 0, .ref vFt, .int 0, .ref vTo, .int 0, .int 0, .int 0, .int 16777215, .int 0, .int 0, .ref vPr, .ref vSt, .ref vFn, .int 0, .ref vSg, .ref vAl, .int 0])), (vFt, .inl (cI, 32, .inl (fun _ => 0)))] s₀.heap := hP
  have hl := lv_entry ([.ref hm, .int p, .int le, .int ri, .int hh]) (n := 5) (Nat.le_of_ble_eq_true rfl)
  rw [lg_entry_eq]
  generalize (lg_sl ([.ref hm, .int p, .int le, .int ri, .int hh]) ++ List.replicate (5 - (lg_sl ([.ref hm, .int p, .int le, .int ri, .int hh])).length) Slot.unset).toArray = ls at hl ⊢
  have hl : lv_has ls 5 [(0, .ref hm), (1, .int p), (2, .int le), (3, .int ri), (4, .int hh)] := hl
  obtain ⟨H, hH⟩ : ∃ z : Heap, z = s₀.heap := ⟨_, rfl⟩
  rw [← hH] at hP
  have hS : va_S A s₀.heap H [] := by rw [hH]; exact hS
  refine k_heap hH ?_
  have hD : va_D A [(hm, .inr (11, [.ref vFo, .ref vSi, .ref vIt, .ref vMo, .int 0, .ref vBy, .ref vTy, .int 0, .ref vMi, .int 0, .ref vPs, .int 0, .ref vGs, .int 0, .ref vFt, .int 0, .ref vTo, .int 0, .int 0, .int 0, .int 16777215, .int 0, .int 0, .ref vPr, .ref vSt, .ref vFn, .int 0, .ref vSg, .ref vAl, .int 0])), (vFt, .inl (cI, 32, .inl (fun _ => 0)))] := hD
  obtain ⟨locs, hlo⟩ : ∃ z : List Loc, z = [] := ⟨_, rfl⟩
  rw [← hlo] at hS ⊢
  clear hlo hH hAe hD0
  refine lv_iload_n hx₀ hb dX12_flight_0 rfl (lv_at hl 1 rfl) ?_
  refine lv_i2l hx₀ hb dX12_flight_1 rfl ?_
  refine lv_lconst (v := 0) hx₀ hb dX12_flight_2 (by decide +kernel) ?_
  refine lv_ldc2 (v := 7) hx₀ hb hown (hts (.constantLong RX12 155 (7)) wd_362) dX12_flight_3 ?_
  have hPc := hP.sub (ws' := []) [] rfl
  have hDc := hD.sub (ws' := []) [] (by decide) rfl
  have hFc := va_free (wc := []) hD hS hA [] rfl
  refine va_calli (va_runS (As := [.long p.toInt64, .long 0, .long 7]) (rest := []) ⟨hx₀, hb, hml, hown, hts⟩ (c_in l dC dI cI cJ cQ H.size p.toInt64 0 7) (va_cwS 3 hts (kGS wd_208 wd_206 wd_207 wd_5) rfl rfl rfl (by decide +kernel) ⟨Nat.le_of_ble_eq_true rfl, Nat.le_of_ble_eq_true rfl⟩) (k_preS hK hPc hDc hN) rfl rfl hl.1 rfl (lv_room (Nat.le_of_ble_eq_true rfl)) dX12_flight_6 ⟨by decide +kernel, by decide +kernel⟩) hS (fun q _ h => hFc q h) hFc (fun r_1 u₀ t₀ H1 locs ht hvm hw hB hz1 hk1 hS => ?_)
  obtain ⟨hP1, hK1, hD1⟩ := hB
  rw [ht] at hP1
  obtain ⟨hP, hD⟩ := va_join (wr := [(hm, .inr (11, [.ref vFo, .ref vSi, .ref vIt, .ref vMo, .int 0, .ref vBy, .ref vTy, .int 0, .ref vMi, .int 0, .ref vPs, .int 0, .ref vGs, .int 0, .ref vFt, .int 0, .ref vTo, .int 0, .int 0, .int 0, .int 16777215, .int 0, .int 0, .ref vPr, .ref vSt, .ref vFn, .int 0, .ref vSg, .ref vAl, .int 0])), (vFt, .inl (cI, 32, .inl (fun _ => 0)))]) (w1 := []) hP hD [] [0, 1] rfl rfl (by decide) (by decide) hk1 hFc hP1 hD1
  generalize H1 = H at hP hS ⊢
  have hP : va_P (dC, dI) vwCl [(hm, .inr (11, [.ref vFo, .ref vSi, .ref vIt, .ref vMo, .int 0, .ref vBy, .ref vTy, .int 0, .ref vMi, .int 0, .ref vPs, .int 0, .ref vGs, .int 0, .ref vFt, .int 0, .ref vTo, .int 0, .int 0, .int 0, .int 16777215, .int 0, .int 0, .ref vPr, .ref vSt, .ref vFn, .int 0, .ref vSg, .ref vAl, .int 0])), (vFt, .inl (cI, 32, .inl (fun _ => 0)))] H := hP
  have hD : va_D A [(hm, .inr (11, [.ref vFo, .ref vSi, .ref vIt, .ref vMo, .int 0, .ref vBy, .ref vTy, .int 0, .ref vMi, .int 0, .ref vPs, .int 0, .ref vGs, .int 0, .ref vFt, .int 0, .ref vTo, .int 0, .int 0, .int 0, .int 16777215, .int 0, .int 0, .ref vPr, .ref vSt, .ref vFn, .int 0, .ref vSg, .ref vAl, .int 0])), (vFt, .inl (cI, 32, .inl (fun _ => 0)))] := hD
  try dsimp only at hw
  by_cases c_2 : (0 : Int64) ≤ p.toInt64 ∧ p.toInt64 ≤ (7 : Int64)
  · rw [if_pos c_2] at hw
    refine k_topi (v := 1) hw ?_
    refine lv_if_eq (tgt := 54) hx₀ hb dX12_flight_9 (by decide) (fun c9 => absurd c9 (by decide +kernel)) (fun _ => ?_)
    refine lv_iload_n hx₀ hb dX12_flight_12 rfl (lv_at hl 2 rfl) ?_
    refine lv_i2l hx₀ hb dX12_flight_13 rfl ?_
    refine lv_lconst (v := 0) hx₀ hb dX12_flight_14 (by decide +kernel) ?_
    refine lv_ldc2 (v := 7) hx₀ hb hown (hts (.constantLong RX12 155 (7)) wd_362) dX12_flight_15 ?_
    have hPc := hP.sub (ws' := []) [] rfl
    have hDc := hD.sub (ws' := []) [] (by decide) rfl
    have hFc := va_free (wc := []) hD hS hA [] rfl
    refine va_calli (va_runS (As := [.long le.toInt64, .long 0, .long 7]) (rest := []) ⟨hx₀, hb, hml, hown, hts⟩ (c_in l dC dI cI cJ cQ H.size le.toInt64 0 7) (va_cwS 3 hts (kGS wd_208 wd_206 wd_207 wd_5) rfl rfl rfl (by decide +kernel) ⟨Nat.le_of_ble_eq_true rfl, Nat.le_of_ble_eq_true rfl⟩) (k_preS hK hPc hDc hN) rfl rfl hl.1 rfl (lv_room (Nat.le_of_ble_eq_true rfl)) dX12_flight_18 ⟨by decide +kernel, by decide +kernel⟩) hS (fun q _ h => hFc q h) hFc (fun r_3 u₀ t₀ H1 locs ht hvm hw hB hz1 hk1 hS => ?_)
    obtain ⟨hP1, hK1, hD1⟩ := hB
    rw [ht] at hP1
    obtain ⟨hP, hD⟩ := va_join (wr := [(hm, .inr (11, [.ref vFo, .ref vSi, .ref vIt, .ref vMo, .int 0, .ref vBy, .ref vTy, .int 0, .ref vMi, .int 0, .ref vPs, .int 0, .ref vGs, .int 0, .ref vFt, .int 0, .ref vTo, .int 0, .int 0, .int 0, .int 16777215, .int 0, .int 0, .ref vPr, .ref vSt, .ref vFn, .int 0, .ref vSg, .ref vAl, .int 0])), (vFt, .inl (cI, 32, .inl (fun _ => 0)))]) (w1 := []) hP hD [] [0, 1] rfl rfl (by decide) (by decide) hk1 hFc hP1 hD1
    generalize H1 = H at hP hS ⊢
    have hP : va_P (dC, dI) vwCl [(hm, .inr (11, [.ref vFo, .ref vSi, .ref vIt, .ref vMo, .int 0, .ref vBy, .ref vTy, .int 0, .ref vMi, .int 0, .ref vPs, .int 0, .ref vGs, .int 0, .ref vFt, .int 0, .ref vTo, .int 0, .int 0, .int 0, .int 16777215, .int 0, .int 0, .ref vPr, .ref vSt, .ref vFn, .int 0, .ref vSg, .ref vAl, .int 0])), (vFt, .inl (cI, 32, .inl (fun _ => 0)))] H := hP
    have hD : va_D A [(hm, .inr (11, [.ref vFo, .ref vSi, .ref vIt, .ref vMo, .int 0, .ref vBy, .ref vTy, .int 0, .ref vMi, .int 0, .ref vPs, .int 0, .ref vGs, .int 0, .ref vFt, .int 0, .ref vTo, .int 0, .int 0, .int 0, .int 16777215, .int 0, .int 0, .ref vPr, .ref vSt, .ref vFn, .int 0, .ref vSg, .ref vAl, .int 0])), (vFt, .inl (cI, 32, .inl (fun _ => 0)))] := hD
    try dsimp only at hw
    by_cases c_4 : (0 : Int64) ≤ le.toInt64 ∧ le.toInt64 ≤ (7 : Int64)
    · rw [if_pos c_4] at hw
      refine k_topi (v := 1) hw ?_
      refine lv_if_eq (tgt := 54) hx₀ hb dX12_flight_21 (by decide) (fun c9 => absurd c9 (by decide +kernel)) (fun _ => ?_)
      refine lv_iload_n hx₀ hb dX12_flight_24 rfl (lv_at hl 3 rfl) ?_
      refine lv_i2l hx₀ hb dX12_flight_25 rfl ?_
      refine lv_lconst (v := 0) hx₀ hb dX12_flight_26 (by decide +kernel) ?_
      refine lv_ldc2 (v := 7) hx₀ hb hown (hts (.constantLong RX12 155 (7)) wd_362) dX12_flight_27 ?_
      have hPc := hP.sub (ws' := []) [] rfl
      have hDc := hD.sub (ws' := []) [] (by decide) rfl
      have hFc := va_free (wc := []) hD hS hA [] rfl
      refine va_calli (va_runS (As := [.long ri.toInt64, .long 0, .long 7]) (rest := []) ⟨hx₀, hb, hml, hown, hts⟩ (c_in l dC dI cI cJ cQ H.size ri.toInt64 0 7) (va_cwS 3 hts (kGS wd_208 wd_206 wd_207 wd_5) rfl rfl rfl (by decide +kernel) ⟨Nat.le_of_ble_eq_true rfl, Nat.le_of_ble_eq_true rfl⟩) (k_preS hK hPc hDc hN) rfl rfl hl.1 rfl (lv_room (Nat.le_of_ble_eq_true rfl)) dX12_flight_30 ⟨by decide +kernel, by decide +kernel⟩) hS (fun q _ h => hFc q h) hFc (fun r_5 u₀ t₀ H1 locs ht hvm hw hB hz1 hk1 hS => ?_)
      obtain ⟨hP1, hK1, hD1⟩ := hB
      rw [ht] at hP1
      obtain ⟨hP, hD⟩ := va_join (wr := [(hm, .inr (11, [.ref vFo, .ref vSi, .ref vIt, .ref vMo, .int 0, .ref vBy, .ref vTy, .int 0, .ref vMi, .int 0, .ref vPs, .int 0, .ref vGs, .int 0, .ref vFt, .int 0, .ref vTo, .int 0, .int 0, .int 0, .int 16777215, .int 0, .int 0, .ref vPr, .ref vSt, .ref vFn, .int 0, .ref vSg, .ref vAl, .int 0])), (vFt, .inl (cI, 32, .inl (fun _ => 0)))]) (w1 := []) hP hD [] [0, 1] rfl rfl (by decide) (by decide) hk1 hFc hP1 hD1
      generalize H1 = H at hP hS ⊢
      have hP : va_P (dC, dI) vwCl [(hm, .inr (11, [.ref vFo, .ref vSi, .ref vIt, .ref vMo, .int 0, .ref vBy, .ref vTy, .int 0, .ref vMi, .int 0, .ref vPs, .int 0, .ref vGs, .int 0, .ref vFt, .int 0, .ref vTo, .int 0, .int 0, .int 0, .int 16777215, .int 0, .int 0, .ref vPr, .ref vSt, .ref vFn, .int 0, .ref vSg, .ref vAl, .int 0])), (vFt, .inl (cI, 32, .inl (fun _ => 0)))] H := hP
      have hD : va_D A [(hm, .inr (11, [.ref vFo, .ref vSi, .ref vIt, .ref vMo, .int 0, .ref vBy, .ref vTy, .int 0, .ref vMi, .int 0, .ref vPs, .int 0, .ref vGs, .int 0, .ref vFt, .int 0, .ref vTo, .int 0, .int 0, .int 0, .int 16777215, .int 0, .int 0, .ref vPr, .ref vSt, .ref vFn, .int 0, .ref vSg, .ref vAl, .int 0])), (vFt, .inl (cI, 32, .inl (fun _ => 0)))] := hD
      try dsimp only at hw
      by_cases c_6 : (0 : Int64) ≤ ri.toInt64 ∧ ri.toInt64 ≤ (7 : Int64)
      · rw [if_pos c_6] at hw
        refine k_topi (v := 1) hw ?_
        refine lv_if_eq (tgt := 54) hx₀ hb dX12_flight_33 (by decide) (fun c9 => absurd c9 (by decide +kernel)) (fun _ => ?_)
        refine lv_iload_n hx₀ hb dX12_flight_36 rfl (lv_at hl 2 rfl) ?_
        refine lv_iload_n hx₀ hb dX12_flight_37 rfl (lv_at hl 3 rfl) ?_
        refine lv_icmp_eq (tgt := 54) hx₀ hb dX12_flight_38 (by decide) (fun c_7 => ?_) (fun c_7 => ?_)
        · refine lv_bipush (v := (-2)) hx₀ hb dX12_flight_54 (by decide +kernel) ?_
          exact W.iret (v := (-2)) hx₀ hb hr (fun t₀ ht hW => ⟨⟨(-2), (), rfl, (lf_m_flight_1 p le ri hh c_2 c_4 c_6 c_7), trivial⟩, hS.F ht⟩) hS.2.2 dX12_flight_56
        · refine lv_iload hx₀ hb dX12_flight_41 (lv_at hl 4 rfl) ?_
          refine lv_i2l hx₀ hb dX12_flight_43 rfl ?_
          refine lv_lconst (v := 1) hx₀ hb dX12_flight_44 (by decide +kernel) ?_
          refine lv_ldc2 (v := 9) hx₀ hb hown (hts (.constantLong RX12 157 (9)) wd_363) dX12_flight_45 ?_
          have hPc := hP.sub (ws' := []) [] rfl
          have hDc := hD.sub (ws' := []) [] (by decide) rfl
          have hFc := va_free (wc := []) hD hS hA [] rfl
          refine va_calli (va_runS (As := [.long hh.toInt64, .long 1, .long 9]) (rest := []) ⟨hx₀, hb, hml, hown, hts⟩ (c_in l dC dI cI cJ cQ H.size hh.toInt64 1 9) (va_cwS 3 hts (kGS wd_208 wd_206 wd_207 wd_5) rfl rfl rfl (by decide +kernel) ⟨Nat.le_of_ble_eq_true rfl, Nat.le_of_ble_eq_true rfl⟩) (k_preS hK hPc hDc hN) rfl rfl hl.1 rfl (lv_room (Nat.le_of_ble_eq_true rfl)) dX12_flight_48 ⟨by decide +kernel, by decide +kernel⟩) hS (fun q _ h => hFc q h) hFc (fun r_8 u₀ t₀ H1 locs ht hvm hw hB hz1 hk1 hS => ?_)
          obtain ⟨hP1, hK1, hD1⟩ := hB
          rw [ht] at hP1
          obtain ⟨hP, hD⟩ := va_join (wr := [(hm, .inr (11, [.ref vFo, .ref vSi, .ref vIt, .ref vMo, .int 0, .ref vBy, .ref vTy, .int 0, .ref vMi, .int 0, .ref vPs, .int 0, .ref vGs, .int 0, .ref vFt, .int 0, .ref vTo, .int 0, .int 0, .int 0, .int 16777215, .int 0, .int 0, .ref vPr, .ref vSt, .ref vFn, .int 0, .ref vSg, .ref vAl, .int 0])), (vFt, .inl (cI, 32, .inl (fun _ => 0)))]) (w1 := []) hP hD [] [0, 1] rfl rfl (by decide) (by decide) hk1 hFc hP1 hD1
          generalize H1 = H at hP hS ⊢
          have hP : va_P (dC, dI) vwCl [(hm, .inr (11, [.ref vFo, .ref vSi, .ref vIt, .ref vMo, .int 0, .ref vBy, .ref vTy, .int 0, .ref vMi, .int 0, .ref vPs, .int 0, .ref vGs, .int 0, .ref vFt, .int 0, .ref vTo, .int 0, .int 0, .int 0, .int 16777215, .int 0, .int 0, .ref vPr, .ref vSt, .ref vFn, .int 0, .ref vSg, .ref vAl, .int 0])), (vFt, .inl (cI, 32, .inl (fun _ => 0)))] H := hP
          have hD : va_D A [(hm, .inr (11, [.ref vFo, .ref vSi, .ref vIt, .ref vMo, .int 0, .ref vBy, .ref vTy, .int 0, .ref vMi, .int 0, .ref vPs, .int 0, .ref vGs, .int 0, .ref vFt, .int 0, .ref vTo, .int 0, .int 0, .int 0, .int 16777215, .int 0, .int 0, .ref vPr, .ref vSt, .ref vFn, .int 0, .ref vSg, .ref vAl, .int 0])), (vFt, .inl (cI, 32, .inl (fun _ => 0)))] := hD
          try dsimp only at hw
          by_cases c_9 : (1 : Int64) ≤ hh.toInt64 ∧ hh.toInt64 ≤ (9 : Int64)
          · rw [if_pos c_9] at hw
            refine k_topi (v := 1) hw ?_
            refine lv_if_ne (tgt := 57) hx₀ hb dX12_flight_51 (by decide) (fun _ => ?_) (fun c9 => absurd c9 (by decide +kernel))
            refine lv_aload_n hx₀ hb dX12_flight_57 rfl (lv_at hl 0 rfl) ?_
            refine va_get (D := (dC, dI)) (ci := 11) (v := .int 0) (C := RX12) (T := TX12) (N := 30) hx₀ hb hts inlX12 hown hK hP 0 rfl rfl 13 (by decide) (hts (.fieldLink RX12 159 "BittenStickModel" "flights" "I") wd_364) (fun _ h9 => h9) rfl dX12_flight_58 ?_
            refine lv_bipush (v := 8) hx₀ hb dX12_flight_61 (by decide +kernel) ?_
            refine lv_icmp_ne (tgt := 69) hx₀ hb dX12_flight_63 (by decide) (fun _ => ?_) (fun c9 => absurd c9 (by decide +kernel))
            refine lv_aload_n hx₀ hb dX12_flight_69 rfl (lv_at hl 0 rfl) ?_
            refine va_get (D := (dC, dI)) (ci := 11) (v := .ref vFt) (C := RX12) (T := TX12) (N := 30) hx₀ hb hts inlX12 hown hK hP 0 rfl rfl 14 (by decide) (hts (.fieldLink RX12 37 "BittenStickModel" "flight" "[I") wd_124) (fun _ h9 => h9) rfl dX12_flight_70 ?_
            refine lv_iconst (v := 4) hx₀ hb dX12_flight_73 (by decide +kernel) ?_
            refine lv_aload_n hx₀ hb dX12_flight_74 rfl (lv_at hl 0 rfl) ?_
            refine va_get (D := (dC, dI)) (ci := 11) (v := .int 0) (C := RX12) (T := TX12) (N := 30) hx₀ hb hts inlX12 hown hK hP 0 rfl rfl 13 (by decide) (hts (.fieldLink RX12 159 "BittenStickModel" "flights" "I") wd_364) (fun _ h9 => h9) rfl dX12_flight_75 ?_
            refine lv_imul hx₀ hb dX12_flight_78 ?_
            refine k_topi (v := 0) (by decide +kernel) ?_
            refine lv_iload_n hx₀ hb dX12_flight_79 rfl (lv_at hl 1 rfl) ?_
            refine va_iast hx₀ hb hK hP hD hS 1 0 rfl rfl (by unfold vp_in; decide +kernel) dX12_flight_80 (fun H locs hP hD hS => ?_)
            have hP : va_P (dC, dI) vwCl [(hm, .inr (11, [.ref vFo, .ref vSi, .ref vIt, .ref vMo, .int 0, .ref vBy, .ref vTy, .int 0, .ref vMi, .int 0, .ref vPs, .int 0, .ref vGs, .int 0, .ref vFt, .int 0, .ref vTo, .int 0, .int 0, .int 0, .int 16777215, .int 0, .int 0, .ref vPr, .ref vSt, .ref vFn, .int 0, .ref vSg, .ref vAl, .int 0])), (vFt, .inl (cI, 32, .inl (upd (fun _ => 0) (0 : Int32).toNatClampNeg p)))] H := hP
            have hD : va_D A [(hm, .inr (11, [.ref vFo, .ref vSi, .ref vIt, .ref vMo, .int 0, .ref vBy, .ref vTy, .int 0, .ref vMi, .int 0, .ref vPs, .int 0, .ref vGs, .int 0, .ref vFt, .int 0, .ref vTo, .int 0, .int 0, .int 0, .int 16777215, .int 0, .int 0, .ref vPr, .ref vSt, .ref vFn, .int 0, .ref vSg, .ref vAl, .int 0])), (vFt, .inl (cI, 32, .inl (upd (fun _ => 0) (0 : Int32).toNatClampNeg p)))] := hD
            refine lv_aload_n hx₀ hb dX12_flight_81 rfl (lv_at hl 0 rfl) ?_
            refine va_get (D := (dC, dI)) (ci := 11) (v := .ref vFt) (C := RX12) (T := TX12) (N := 30) hx₀ hb hts inlX12 hown hK hP 0 rfl rfl 14 (by decide) (hts (.fieldLink RX12 37 "BittenStickModel" "flight" "[I") wd_124) (fun _ h9 => h9) rfl dX12_flight_82 ?_
            refine lv_iconst (v := 4) hx₀ hb dX12_flight_85 (by decide +kernel) ?_
            refine lv_aload_n hx₀ hb dX12_flight_86 rfl (lv_at hl 0 rfl) ?_
            refine va_get (D := (dC, dI)) (ci := 11) (v := .int 0) (C := RX12) (T := TX12) (N := 30) hx₀ hb hts inlX12 hown hK hP 0 rfl rfl 13 (by decide) (hts (.fieldLink RX12 159 "BittenStickModel" "flights" "I") wd_364) (fun _ h9 => h9) rfl dX12_flight_87 ?_
            refine lv_imul hx₀ hb dX12_flight_90 ?_
            refine k_topi (v := 0) (by decide +kernel) ?_
            refine lv_iconst (v := 1) hx₀ hb dX12_flight_91 (by decide +kernel) ?_
            refine lv_iadd hx₀ hb dX12_flight_92 ?_
            refine k_topi (v := 1) (by decide +kernel) ?_
            refine lv_iload_n hx₀ hb dX12_flight_93 rfl (lv_at hl 2 rfl) ?_
            refine va_iast hx₀ hb hK hP hD hS 1 0 rfl rfl (by unfold vp_in; decide +kernel) dX12_flight_94 (fun H locs hP hD hS => ?_)
            have hP : va_P (dC, dI) vwCl [(hm, .inr (11, [.ref vFo, .ref vSi, .ref vIt, .ref vMo, .int 0, .ref vBy, .ref vTy, .int 0, .ref vMi, .int 0, .ref vPs, .int 0, .ref vGs, .int 0, .ref vFt, .int 0, .ref vTo, .int 0, .int 0, .int 0, .int 16777215, .int 0, .int 0, .ref vPr, .ref vSt, .ref vFn, .int 0, .ref vSg, .ref vAl, .int 0])), (vFt, .inl (cI, 32, .inl (upd (upd (fun _ => 0) (0 : Int32).toNatClampNeg p) (1 : Int32).toNatClampNeg le)))] H := hP
            have hD : va_D A [(hm, .inr (11, [.ref vFo, .ref vSi, .ref vIt, .ref vMo, .int 0, .ref vBy, .ref vTy, .int 0, .ref vMi, .int 0, .ref vPs, .int 0, .ref vGs, .int 0, .ref vFt, .int 0, .ref vTo, .int 0, .int 0, .int 0, .int 16777215, .int 0, .int 0, .ref vPr, .ref vSt, .ref vFn, .int 0, .ref vSg, .ref vAl, .int 0])), (vFt, .inl (cI, 32, .inl (upd (upd (fun _ => 0) (0 : Int32).toNatClampNeg p) (1 : Int32).toNatClampNeg le)))] := hD
            refine lv_aload_n hx₀ hb dX12_flight_95 rfl (lv_at hl 0 rfl) ?_
            refine va_get (D := (dC, dI)) (ci := 11) (v := .ref vFt) (C := RX12) (T := TX12) (N := 30) hx₀ hb hts inlX12 hown hK hP 0 rfl rfl 14 (by decide) (hts (.fieldLink RX12 37 "BittenStickModel" "flight" "[I") wd_124) (fun _ h9 => h9) rfl dX12_flight_96 ?_
            refine lv_iconst (v := 4) hx₀ hb dX12_flight_99 (by decide +kernel) ?_
            refine lv_aload_n hx₀ hb dX12_flight_100 rfl (lv_at hl 0 rfl) ?_
            refine va_get (D := (dC, dI)) (ci := 11) (v := .int 0) (C := RX12) (T := TX12) (N := 30) hx₀ hb hts inlX12 hown hK hP 0 rfl rfl 13 (by decide) (hts (.fieldLink RX12 159 "BittenStickModel" "flights" "I") wd_364) (fun _ h9 => h9) rfl dX12_flight_101 ?_
            refine lv_imul hx₀ hb dX12_flight_104 ?_
            refine k_topi (v := 0) (by decide +kernel) ?_
            refine lv_iconst (v := 2) hx₀ hb dX12_flight_105 (by decide +kernel) ?_
            refine lv_iadd hx₀ hb dX12_flight_106 ?_
            refine k_topi (v := 2) (by decide +kernel) ?_
            refine lv_iload_n hx₀ hb dX12_flight_107 rfl (lv_at hl 3 rfl) ?_
            refine va_iast hx₀ hb hK hP hD hS 1 0 rfl rfl (by unfold vp_in; decide +kernel) dX12_flight_108 (fun H locs hP hD hS => ?_)
            have hP : va_P (dC, dI) vwCl [(hm, .inr (11, [.ref vFo, .ref vSi, .ref vIt, .ref vMo, .int 0, .ref vBy, .ref vTy, .int 0, .ref vMi, .int 0, .ref vPs, .int 0, .ref vGs, .int 0, .ref vFt, .int 0, .ref vTo, .int 0, .int 0, .int 0, .int 16777215, .int 0, .int 0, .ref vPr, .ref vSt, .ref vFn, .int 0, .ref vSg, .ref vAl, .int 0])), (vFt, .inl (cI, 32, .inl (upd (upd (upd (fun _ => 0) (0 : Int32).toNatClampNeg p) (1 : Int32).toNatClampNeg le) (2 : Int32).toNatClampNeg ri)))] H := hP
            have hD : va_D A [(hm, .inr (11, [.ref vFo, .ref vSi, .ref vIt, .ref vMo, .int 0, .ref vBy, .ref vTy, .int 0, .ref vMi, .int 0, .ref vPs, .int 0, .ref vGs, .int 0, .ref vFt, .int 0, .ref vTo, .int 0, .int 0, .int 0, .int 16777215, .int 0, .int 0, .ref vPr, .ref vSt, .ref vFn, .int 0, .ref vSg, .ref vAl, .int 0])), (vFt, .inl (cI, 32, .inl (upd (upd (upd (fun _ => 0) (0 : Int32).toNatClampNeg p) (1 : Int32).toNatClampNeg le) (2 : Int32).toNatClampNeg ri)))] := hD
            refine lv_aload_n hx₀ hb dX12_flight_109 rfl (lv_at hl 0 rfl) ?_
            refine va_get (D := (dC, dI)) (ci := 11) (v := .ref vFt) (C := RX12) (T := TX12) (N := 30) hx₀ hb hts inlX12 hown hK hP 0 rfl rfl 14 (by decide) (hts (.fieldLink RX12 37 "BittenStickModel" "flight" "[I") wd_124) (fun _ h9 => h9) rfl dX12_flight_110 ?_
            refine lv_iconst (v := 4) hx₀ hb dX12_flight_113 (by decide +kernel) ?_
            refine lv_aload_n hx₀ hb dX12_flight_114 rfl (lv_at hl 0 rfl) ?_
            refine va_get (D := (dC, dI)) (ci := 11) (v := .int 0) (C := RX12) (T := TX12) (N := 30) hx₀ hb hts inlX12 hown hK hP 0 rfl rfl 13 (by decide) (hts (.fieldLink RX12 159 "BittenStickModel" "flights" "I") wd_364) (fun _ h9 => h9) rfl dX12_flight_115 ?_
            refine lv_imul hx₀ hb dX12_flight_118 ?_
            refine k_topi (v := 0) (by decide +kernel) ?_
            refine lv_iconst (v := 3) hx₀ hb dX12_flight_119 (by decide +kernel) ?_
            refine lv_iadd hx₀ hb dX12_flight_120 ?_
            refine k_topi (v := 3) (by decide +kernel) ?_
            refine lv_iload hx₀ hb dX12_flight_121 (lv_at hl 4 rfl) ?_
            refine va_iast hx₀ hb hK hP hD hS 1 0 rfl rfl (by unfold vp_in; decide +kernel) dX12_flight_123 (fun H locs hP hD hS => ?_)
            have hP : va_P (dC, dI) vwCl [(hm, .inr (11, [.ref vFo, .ref vSi, .ref vIt, .ref vMo, .int 0, .ref vBy, .ref vTy, .int 0, .ref vMi, .int 0, .ref vPs, .int 0, .ref vGs, .int 0, .ref vFt, .int 0, .ref vTo, .int 0, .int 0, .int 0, .int 16777215, .int 0, .int 0, .ref vPr, .ref vSt, .ref vFn, .int 0, .ref vSg, .ref vAl, .int 0])), (vFt, .inl (cI, 32, .inl (upd (upd (upd (upd (fun _ => 0) (0 : Int32).toNatClampNeg p) (1 : Int32).toNatClampNeg le) (2 : Int32).toNatClampNeg ri) (3 : Int32).toNatClampNeg hh)))] H := hP
            have hD : va_D A [(hm, .inr (11, [.ref vFo, .ref vSi, .ref vIt, .ref vMo, .int 0, .ref vBy, .ref vTy, .int 0, .ref vMi, .int 0, .ref vPs, .int 0, .ref vGs, .int 0, .ref vFt, .int 0, .ref vTo, .int 0, .int 0, .int 0, .int 16777215, .int 0, .int 0, .ref vPr, .ref vSt, .ref vFn, .int 0, .ref vSg, .ref vAl, .int 0])), (vFt, .inl (cI, 32, .inl (upd (upd (upd (upd (fun _ => 0) (0 : Int32).toNatClampNeg p) (1 : Int32).toNatClampNeg le) (2 : Int32).toNatClampNeg ri) (3 : Int32).toNatClampNeg hh)))] := hD
            refine lv_aload_n hx₀ hb dX12_flight_124 rfl (lv_at hl 0 rfl) ?_
            refine lv_dup hx₀ hb dX12_flight_125 rfl ?_
            refine va_get (D := (dC, dI)) (ci := 11) (v := .int 0) (C := RX12) (T := TX12) (N := 30) hx₀ hb hts inlX12 hown hK hP 0 rfl rfl 13 (by decide) (hts (.fieldLink RX12 159 "BittenStickModel" "flights" "I") wd_364) (fun _ h9 => h9) rfl dX12_flight_126 ?_
            refine lv_iconst (v := 1) hx₀ hb dX12_flight_129 (by decide +kernel) ?_
            refine lv_iadd hx₀ hb dX12_flight_130 ?_
            refine k_topi (v := 1) (by decide +kernel) ?_
            refine va_put (D := (dC, dI)) (ci := 11) (v := .int 1) (ty := .int) (C := RX12) (T := TX12) (N := 30) hx₀ hb hts inlX12 tyX12 tyX12_ok nmX12 hown hK hP hD hS 0 rfl rfl 13 (by decide) (hts (.fieldLink RX12 159 "BittenStickModel" "flights" "I") wd_364) (fun _ h9 => h9) rfl (by decide +kernel) rfl rfl (Nat.le_of_ble_eq_true rfl) dX12_flight_131 (fun H locs hP hD hS => ?_)
            have hP : va_P (dC, dI) vwCl [(hm, .inr (11, [.ref vFo, .ref vSi, .ref vIt, .ref vMo, .int 0, .ref vBy, .ref vTy, .int 0, .ref vMi, .int 0, .ref vPs, .int 0, .ref vGs, .int 1, .ref vFt, .int 0, .ref vTo, .int 0, .int 0, .int 0, .int 16777215, .int 0, .int 0, .ref vPr, .ref vSt, .ref vFn, .int 0, .ref vSg, .ref vAl, .int 0])), (vFt, .inl (cI, 32, .inl (upd (upd (upd (upd (fun _ => 0) (0 : Int32).toNatClampNeg p) (1 : Int32).toNatClampNeg le) (2 : Int32).toNatClampNeg ri) (3 : Int32).toNatClampNeg hh)))] H := hP
            have hD : va_D A [(hm, .inr (11, [.ref vFo, .ref vSi, .ref vIt, .ref vMo, .int 0, .ref vBy, .ref vTy, .int 0, .ref vMi, .int 0, .ref vPs, .int 0, .ref vGs, .int 1, .ref vFt, .int 0, .ref vTo, .int 0, .int 0, .int 0, .int 16777215, .int 0, .int 0, .ref vPr, .ref vSt, .ref vFn, .int 0, .ref vSg, .ref vAl, .int 0])), (vFt, .inl (cI, 32, .inl (upd (upd (upd (upd (fun _ => 0) (0 : Int32).toNatClampNeg p) (1 : Int32).toNatClampNeg le) (2 : Int32).toNatClampNeg ri) (3 : Int32).toNatClampNeg hh)))] := hD
            refine lv_aload_n hx₀ hb dX12_flight_134 rfl (lv_at hl 0 rfl) ?_
            refine va_get (D := (dC, dI)) (ci := 11) (v := .int 1) (C := RX12) (T := TX12) (N := 30) hx₀ hb hts inlX12 hown hK hP 0 rfl rfl 13 (by decide) (hts (.fieldLink RX12 159 "BittenStickModel" "flights" "I") wd_364) (fun _ h9 => h9) rfl dX12_flight_135 ?_
            exact W.iret (v := 1) hx₀ hb hr (fun t₀ ht hW => ⟨⟨1, (), rfl, (lf_m_flight_2 p le ri hh c_2 c_4 c_6 c_7 c_9), trivial⟩, hS.F ht⟩) hS.2.2 dX12_flight_138
          rw [if_neg c_9] at hw
          refine k_topi (v := 0) hw ?_
          refine lv_if_ne (tgt := 57) hx₀ hb dX12_flight_51 (by decide) (fun c9 => absurd (by decide +kernel) c9) (fun _ => ?_)
          refine lv_bipush (v := (-2)) hx₀ hb dX12_flight_54 (by decide +kernel) ?_
          exact W.iret (v := (-2)) hx₀ hb hr (fun t₀ ht hW => ⟨⟨(-2), (), rfl, (lf_m_flight_3 p le ri hh c_2 c_4 c_6 c_7 c_9), trivial⟩, hS.F ht⟩) hS.2.2 dX12_flight_56
      rw [if_neg c_6] at hw
      refine k_topi (v := 0) hw ?_
      refine lv_if_eq (tgt := 54) hx₀ hb dX12_flight_33 (by decide) (fun _ => ?_) (fun c9 => absurd (by decide +kernel) c9)
      refine lv_bipush (v := (-2)) hx₀ hb dX12_flight_54 (by decide +kernel) ?_
      exact W.iret (v := (-2)) hx₀ hb hr (fun t₀ ht hW => ⟨⟨(-2), (), rfl, (lf_m_flight_4 p le ri hh c_2 c_4 c_6), trivial⟩, hS.F ht⟩) hS.2.2 dX12_flight_56
    rw [if_neg c_4] at hw
    refine k_topi (v := 0) hw ?_
    refine lv_if_eq (tgt := 54) hx₀ hb dX12_flight_21 (by decide) (fun _ => ?_) (fun c9 => absurd (by decide +kernel) c9)
    refine lv_bipush (v := (-2)) hx₀ hb dX12_flight_54 (by decide +kernel) ?_
    exact W.iret (v := (-2)) hx₀ hb hr (fun t₀ ht hW => ⟨⟨(-2), (), rfl, (lf_m_flight_5 p le ri hh c_2 c_4), trivial⟩, hS.F ht⟩) hS.2.2 dX12_flight_56
  rw [if_neg c_2] at hw
  refine k_topi (v := 0) hw ?_
  refine lv_if_eq (tgt := 54) hx₀ hb dX12_flight_9 (by decide) (fun _ => ?_) (fun c9 => absurd (by decide +kernel) c9)
  refine lv_bipush (v := (-2)) hx₀ hb dX12_flight_54 (by decide +kernel) ?_
  exact W.iret (v := (-2)) hx₀ hb hr (fun t₀ ht hW => ⟨⟨(-2), (), rfl, (lf_m_flight_6 p le ri hh c_2), trivial⟩, hS.F ht⟩) hS.2.2 dX12_flight_56
set_option maxHeartbeats 4000000 in
set_option maxRecDepth 100000 in
theorem m_back (l : Launch) (dC : Nat → ClassId) (dI : Nat → Nat → Nat) (cI cJ cQ : ClassId) (sz : Nat) (hm : Nat) (vFo : Nat) (vSi : Nat) (vIt : Nat) (vMo : Nat) (vBy : Nat) (vTy : Nat) (vMi : Nat) (vPs : Nat) (vGs : Nat) (vFt : Nat) (vTo : Nat) (vPr : Nat) (vSt : Nat) (vFn : Nat) (vSg : Nat) (vAl : Nat) : Met l yX12_back (kW yX12_back cX12_back 1 (some .int)) { frames := 0, cells := 0, slots := 0, locals := 0 } (kPre dC dI cI cJ cQ sz [.ref hm] [(hm, .inr (11, [.ref vFo, .ref vSi, .ref vIt, .ref vMo, .int 0, .ref vBy, .ref vTy, .int 0, .ref vMi, .int 0, .ref vPs, .int 0, .ref vGs, .int 0, .ref vFt, .int 0, .ref vTo, .int 0, .int 0, .int 0, .int 16777215, .int 0, .int 0, .ref vPr, .ref vSt, .ref vFn, .int 0, .ref vSg, .ref vAl, .int 0]))]) (va_Qi (fun (r : Int32) (_ : Unit) => r = -3) (fun _ _ => True) (va_A [(hm, .inr (11, [.ref vFo, .ref vSi, .ref vIt, .ref vMo, .int 0, .ref vBy, .ref vTy, .int 0, .ref vMi, .int 0, .ref vPs, .int 0, .ref vGs, .int 0, .ref vFt, .int 0, .ref vTo, .int 0, .int 0, .int 0, .int 16777215, .int 0, .int 0, .ref vPr, .ref vSt, .ref vFn, .int 0, .ref vSg, .ref vAl, .int 0]))] sz)) 0 0 (va_A [(hm, .inr (11, [.ref vFo, .ref vSi, .ref vIt, .ref vMo, .int 0, .ref vBy, .ref vTy, .int 0, .ref vMi, .int 0, .ref vPs, .int 0, .ref vGs, .int 0, .ref vFt, .int 0, .ref vTo, .int 0, .int 0, .int 0, .int 16777215, .int 0, .int 0, .ref vPr, .ref vSt, .ref vFn, .int 0, .ref vSg, .ref vAl, .int 0]))] sz) := by
  refine Met.ofW (cc := cX12_back) (maxL := 1) (ret := (some .int)) (by decide) rfl ?_
  intro p₀ e₀ s₀ m₀ args below meth c₀ s₁ B hml hv₀
  obtain ⟨rfl, hsz, hP, hK, hD0, hN⟩ := hv₀
  have hx₀ := B.exec
  have hb := B.bytes
  have hr := B.returns
  have hts := atoms_spec (ws := (kW yX12_back cX12_back 1 (some .int))) B.pre
  have hts := fun w h => hts w (List.mem_cons_of_mem _ h)
  have hown : s₀.vm.findClass RX12 = some m₀.cls := findClass_of_methodNamed B.named
  have hlocks := B.notSynchronized
  subst hsz
  have hD := hD0.self (sz := s₀.heap.size)
  generalize hAe : va_A [(hm, .inr (11, [.ref vFo, .ref vSi, .ref vIt, .ref vMo, .int 0, .ref vBy, .ref vTy, .int 0, .ref vMi, .int 0, .ref vPs, .int 0, .ref vGs, .int 0, .ref vFt, .int 0, .ref vTo, .int 0, .int 0, .int 0, .int 16777215, .int 0, .int 0, .ref vPr, .ref vSt, .ref vFn, .int 0, .ref vSg, .ref vAl, .int 0]))] s₀.heap.size = A at hD ⊢
  have hA : ∀ q : Nat, s₀.heap.size ≤ q → A q := fun q h => by rw [← hAe]; exact Or.inr h
  have hS : va_S A s₀.heap s₀.heap [] := va_S.rf
  have hP : va_P (dC, dI) vwCl [(hm, .inr (11, [.ref vFo, .ref vSi, .ref vIt, .ref vMo, .int 0, .ref vBy, .ref vTy, .int 0, .ref vMi, .int 0, .ref vPs, .int 0, .ref vGs, .int 0, .ref vFt, .int 0, .ref vTo, .int 0, .int 0, .int 0, .int 16777215, .int 0, .int 0, .ref vPr, .ref vSt, .ref vFn, .int 0, .ref vSg, .ref vAl, .int 0]))] s₀.heap := hP
  have hl := lv_entry ([.ref hm]) (n := 1) (Nat.le_of_ble_eq_true rfl)
  rw [lg_entry_eq]
  generalize (lg_sl ([.ref hm]) ++ List.replicate (1 - (lg_sl ([.ref hm])).length) Slot.unset).toArray = ls at hl ⊢
  have hl : lv_has ls 1 [(0, .ref hm)] := hl
  obtain ⟨H, hH⟩ : ∃ z : Heap, z = s₀.heap := ⟨_, rfl⟩
  rw [← hH] at hP
  have hS : va_S A s₀.heap H [] := by rw [hH]; exact hS
  refine k_heap hH ?_
  have hD : va_D A [(hm, .inr (11, [.ref vFo, .ref vSi, .ref vIt, .ref vMo, .int 0, .ref vBy, .ref vTy, .int 0, .ref vMi, .int 0, .ref vPs, .int 0, .ref vGs, .int 0, .ref vFt, .int 0, .ref vTo, .int 0, .int 0, .int 0, .int 16777215, .int 0, .int 0, .ref vPr, .ref vSt, .ref vFn, .int 0, .ref vSg, .ref vAl, .int 0]))] := hD
  obtain ⟨locs, hlo⟩ : ∃ z : List Loc, z = [] := ⟨_, rfl⟩
  rw [← hlo] at hS ⊢
  clear hlo hH hAe hD0
  refine lv_aload_n hx₀ hb dX12_back_0 rfl (lv_at hl 0 rfl) ?_
  refine va_get (D := (dC, dI)) (ci := 11) (v := .int 0) (C := RX12) (T := TX12) (N := 30) hx₀ hb hts inlX12 hown hK hP 0 rfl rfl 13 (by decide) (hts (.fieldLink RX12 159 "BittenStickModel" "flights" "I") wd_364) (fun _ h9 => h9) rfl dX12_back_1 ?_
  refine lv_if_ne (tgt := 10) hx₀ hb dX12_back_4 (by decide) (fun c9 => absurd (by decide +kernel) c9) (fun _ => ?_)
  refine lv_bipush (v := (-3)) hx₀ hb dX12_back_7 (by decide +kernel) ?_
  exact W.iret (v := (-3)) hx₀ hb hr (fun t₀ ht hW => ⟨⟨(-3), (), rfl, (by decide +kernel), trivial⟩, hS.F ht⟩) hS.2.2 dX12_back_9
theorem lf_m_read_1 (s : Int32) (c_2 : 0 ≤ s ∧ s ≤ 3) : ((-11) : Int32) = if 0 ≤ s ∧ s ≤ 3 then -11 else -2 := by
  repeat first | rfl | rw [if_pos (by (first | omega | (simp only [Int64.le_iff_toInt_le, Int64.lt_iff_toInt_lt, Int32.le_iff_toInt_le, Int32.lt_iff_toInt_lt, ← Int32.toInt_inj, ← Int64.toInt_inj, Int32.toInt_toInt64, (show (-11 : Int32).toInt = -11 from by decide), (show (-11 : Int64).toInt = -11 from by decide), (show (-2 : Int32).toInt = -2 from by decide), (show (-2 : Int64).toInt = -2 from by decide), (show (0 : Int32).toInt = 0 from by decide), (show (0 : Int64).toInt = 0 from by decide), (show (3 : Int32).toInt = 3 from by decide), (show (3 : Int64).toInt = 3 from by decide)] at *; omega)))] | rw [if_neg (by (first | omega | (simp only [Int64.le_iff_toInt_le, Int64.lt_iff_toInt_lt, Int32.le_iff_toInt_le, Int32.lt_iff_toInt_lt, ← Int32.toInt_inj, ← Int64.toInt_inj, Int32.toInt_toInt64, (show (-11 : Int32).toInt = -11 from by decide), (show (-11 : Int64).toInt = -11 from by decide), (show (-2 : Int32).toInt = -2 from by decide), (show (-2 : Int64).toInt = -2 from by decide), (show (0 : Int32).toInt = 0 from by decide), (show (0 : Int64).toInt = 0 from by decide), (show (3 : Int32).toInt = 3 from by decide), (show (3 : Int64).toInt = 3 from by decide)] at *; omega)))]
theorem lf_m_read_2 (s : Int32) (c_2 : ¬ (0 ≤ s ∧ s ≤ 3)) : ((-2) : Int32) = if 0 ≤ s ∧ s ≤ 3 then -11 else -2 := by
  repeat first | rfl | rw [if_pos (by (first | omega | (simp only [Int64.le_iff_toInt_le, Int64.lt_iff_toInt_lt, Int32.le_iff_toInt_le, Int32.lt_iff_toInt_lt, ← Int32.toInt_inj, ← Int64.toInt_inj, Int32.toInt_toInt64, (show (-11 : Int32).toInt = -11 from by decide), (show (-11 : Int64).toInt = -11 from by decide), (show (-2 : Int32).toInt = -2 from by decide), (show (-2 : Int64).toInt = -2 from by decide), (show (0 : Int32).toInt = 0 from by decide), (show (0 : Int64).toInt = 0 from by decide), (show (3 : Int32).toInt = 3 from by decide), (show (3 : Int64).toInt = 3 from by decide)] at *; omega)))] | rw [if_neg (by (first | omega | (simp only [Int64.le_iff_toInt_le, Int64.lt_iff_toInt_lt, Int32.le_iff_toInt_le, Int32.lt_iff_toInt_lt, ← Int32.toInt_inj, ← Int64.toInt_inj, Int32.toInt_toInt64, (show (-11 : Int32).toInt = -11 from by decide), (show (-11 : Int64).toInt = -11 from by decide), (show (-2 : Int32).toInt = -2 from by decide), (show (-2 : Int64).toInt = -2 from by decide), (show (0 : Int32).toInt = 0 from by decide), (show (0 : Int64).toInt = 0 from by decide), (show (3 : Int32).toInt = 3 from by decide), (show (3 : Int64).toInt = 3 from by decide)] at *; omega)))]
set_option maxHeartbeats 4000000 in
set_option maxRecDepth 100000 in
theorem m_read (l : Launch) (dC : Nat → ClassId) (dI : Nat → Nat → Nat) (cI cJ cQ : ClassId) (sz : Nat) (hm : Nat) (s : Int32) (vFo : Nat) (vSi : Nat) (vIt : Nat) (vMo : Nat) (vBy : Nat) (vTy : Nat) (vMi : Nat) (vPs : Nat) (vGs : Nat) (vFt : Nat) (vTo : Nat) (vPr : Nat) (vSt : Nat) (vFn : Nat) (vSg : Nat) (vAl : Nat) : Met l yX12_read (kW yX12_read cX12_read 5 (some .int)) { frames := 2, cells := 0, slots := 0, locals := 45 } (kPre dC dI cI cJ cQ sz [.ref hm, .int s] [(hm, .inr (11, [.ref vFo, .ref vSi, .ref vIt, .ref vMo, .int 0, .ref vBy, .ref vTy, .int 0, .ref vMi, .int 0, .ref vPs, .int 0, .ref vGs, .int 0, .ref vFt, .int 0, .ref vTo, .int 0, .int 0, .int 0, .int 16777215, .int 0, .int 0, .ref vPr, .ref vSt, .ref vFn, .int 0, .ref vSg, .ref vAl, .int 0])), (vFo, .inl (cI, 4, .inl fFo))]) (va_Qi (fun (r : Int32) (_ : Unit) => r = if 0 ≤ s ∧ s ≤ 3 then -11 else -2) (fun _ _ => True) (va_A [(hm, .inr (11, [.ref vFo, .ref vSi, .ref vIt, .ref vMo, .int 0, .ref vBy, .ref vTy, .int 0, .ref vMi, .int 0, .ref vPs, .int 0, .ref vGs, .int 0, .ref vFt, .int 0, .ref vTo, .int 0, .int 0, .int 0, .int 16777215, .int 0, .int 0, .ref vPr, .ref vSt, .ref vFn, .int 0, .ref vSg, .ref vAl, .int 0])), (vFo, .inl (cI, 4, .inl fFo))] sz)) 0 0 (va_A [(hm, .inr (11, [.ref vFo, .ref vSi, .ref vIt, .ref vMo, .int 0, .ref vBy, .ref vTy, .int 0, .ref vMi, .int 0, .ref vPs, .int 0, .ref vGs, .int 0, .ref vFt, .int 0, .ref vTo, .int 0, .int 0, .int 0, .int 16777215, .int 0, .int 0, .ref vPr, .ref vSt, .ref vFn, .int 0, .ref vSg, .ref vAl, .int 0])), (vFo, .inl (cI, 4, .inl fFo))] sz) := by
  refine Met.ofW (cc := cX12_read) (maxL := 5) (ret := (some .int)) (by decide) rfl ?_
  intro p₀ e₀ s₀ m₀ args below meth c₀ s₁ B hml hv₀
  obtain ⟨rfl, hsz, hP, hK, hD0, hN⟩ := hv₀
  have hx₀ := B.exec
  have hb := B.bytes
  have hr := B.returns
  have hts := atoms_spec (ws := (kW yX12_read cX12_read 5 (some .int))) B.pre
  have hts := fun w h => hts w (List.mem_cons_of_mem _ h)
  have hown : s₀.vm.findClass RX12 = some m₀.cls := findClass_of_methodNamed B.named
  have hlocks := B.notSynchronized
  subst hsz
  have hD := hD0.self (sz := s₀.heap.size)
  generalize hAe : va_A [(hm, .inr (11, [.ref vFo, .ref vSi, .ref vIt, .ref vMo, .int 0, .ref vBy, .ref vTy, .int 0, .ref vMi, .int 0, .ref vPs, .int 0, .ref vGs, .int 0, .ref vFt, .int 0, .ref vTo, .int 0, .int 0, .int 0, .int 16777215, .int 0, .int 0, .ref vPr, .ref vSt, .ref vFn, .int 0, .ref vSg, .ref vAl, .int 0])), (vFo, .inl (cI, 4, .inl fFo))] s₀.heap.size = A at hD ⊢
  have hA : ∀ q : Nat, s₀.heap.size ≤ q → A q := fun q h => by rw [← hAe]; exact Or.inr h
  have hS : va_S A s₀.heap s₀.heap [] := va_S.rf
  have hP : va_P (dC, dI) vwCl [(hm, .inr (11, [.ref vFo, .ref vSi, .ref vIt, .ref vMo, .int 0, .ref vBy, .ref vTy, .int 0, .ref vMi, .int 0, .ref vPs, .int 0, .ref vGs, .int 0, .ref vFt, .int 0, .ref vTo, .int 0, .int 0, .int 0, .int 16777215, .int 0, .int 0, .ref vPr, .ref vSt, .ref vFn, .int 0, .ref vSg, .ref vAl, .int 0])), (vFo, .inl (cI, 4, .inl fFo))] s₀.heap := hP
  have hl := lv_entry ([.ref hm, .int s]) (n := 5) (Nat.le_of_ble_eq_true rfl)
  rw [lg_entry_eq]
  generalize (lg_sl ([.ref hm, .int s]) ++ List.replicate (5 - (lg_sl ([.ref hm, .int s])).length) Slot.unset).toArray = ls at hl ⊢
  have hl : lv_has ls 5 [(0, .ref hm), (1, .int s)] := hl
  obtain ⟨H, hH⟩ : ∃ z : Heap, z = s₀.heap := ⟨_, rfl⟩
  rw [← hH] at hP
  have hS : va_S A s₀.heap H [] := by rw [hH]; exact hS
  refine k_heap hH ?_
  have hD : va_D A [(hm, .inr (11, [.ref vFo, .ref vSi, .ref vIt, .ref vMo, .int 0, .ref vBy, .ref vTy, .int 0, .ref vMi, .int 0, .ref vPs, .int 0, .ref vGs, .int 0, .ref vFt, .int 0, .ref vTo, .int 0, .int 0, .int 0, .int 16777215, .int 0, .int 0, .ref vPr, .ref vSt, .ref vFn, .int 0, .ref vSg, .ref vAl, .int 0])), (vFo, .inl (cI, 4, .inl fFo))] := hD
  obtain ⟨locs, hlo⟩ : ∃ z : List Loc, z = [] := ⟨_, rfl⟩
  rw [← hlo] at hS ⊢
  clear hlo hH hAe hD0
  refine lv_iload_n hx₀ hb dX12_read_0 rfl (lv_at hl 1 rfl) ?_
  have hPc := hP.sub (ws' := []) [] rfl
  have hDc := hD.sub (ws' := []) [] (by decide) rfl
  have hFc := va_free (wc := []) hD hS hA [] rfl
  refine va_calli (va_runS (As := [.int s]) (rest := []) ⟨hx₀, hb, hml, hown, hts⟩ (c_isSheet l dC dI cI cJ cQ H.size s) (va_cwS 1 hts (kGS wd_400 wd_398 wd_399 wd_5) rfl rfl rfl (by decide +kernel) ⟨Nat.le_of_ble_eq_true rfl, Nat.le_of_ble_eq_true rfl⟩) (k_preS hK hPc hDc hN) rfl rfl hl.1 rfl (lv_room (Nat.le_of_ble_eq_true rfl)) dX12_read_1 ⟨by decide +kernel, by decide +kernel⟩) hS (fun q _ h => hFc q h) hFc (fun r_1 u₀ t₀ H1 locs ht hvm hw hB hz1 hk1 hS => ?_)
  obtain ⟨hP1, hK1, hD1⟩ := hB
  rw [ht] at hP1
  obtain ⟨hP, hD⟩ := va_join (wr := [(hm, .inr (11, [.ref vFo, .ref vSi, .ref vIt, .ref vMo, .int 0, .ref vBy, .ref vTy, .int 0, .ref vMi, .int 0, .ref vPs, .int 0, .ref vGs, .int 0, .ref vFt, .int 0, .ref vTo, .int 0, .int 0, .int 0, .int 16777215, .int 0, .int 0, .ref vPr, .ref vSt, .ref vFn, .int 0, .ref vSg, .ref vAl, .int 0])), (vFo, .inl (cI, 4, .inl fFo))]) (w1 := []) hP hD [] [0, 1] rfl rfl (by decide) (by decide) hk1 hFc hP1 hD1
  generalize H1 = H at hP hS ⊢
  have hP : va_P (dC, dI) vwCl [(hm, .inr (11, [.ref vFo, .ref vSi, .ref vIt, .ref vMo, .int 0, .ref vBy, .ref vTy, .int 0, .ref vMi, .int 0, .ref vPs, .int 0, .ref vGs, .int 0, .ref vFt, .int 0, .ref vTo, .int 0, .int 0, .int 0, .int 16777215, .int 0, .int 0, .ref vPr, .ref vSt, .ref vFn, .int 0, .ref vSg, .ref vAl, .int 0])), (vFo, .inl (cI, 4, .inl fFo))] H := hP
  have hD : va_D A [(hm, .inr (11, [.ref vFo, .ref vSi, .ref vIt, .ref vMo, .int 0, .ref vBy, .ref vTy, .int 0, .ref vMi, .int 0, .ref vPs, .int 0, .ref vGs, .int 0, .ref vFt, .int 0, .ref vTo, .int 0, .int 0, .int 0, .int 16777215, .int 0, .int 0, .ref vPr, .ref vSt, .ref vFn, .int 0, .ref vSg, .ref vAl, .int 0])), (vFo, .inl (cI, 4, .inl fFo))] := hD
  try dsimp only at hw
  by_cases c_2 : 0 ≤ s ∧ s ≤ 3
  · rw [if_pos c_2] at hw
    refine k_topi (v := 1) hw ?_
    refine lv_if_ne (tgt := 10) hx₀ hb dX12_read_4 (by decide) (fun _ => ?_) (fun c9 => absurd c9 (by decide +kernel))
    refine lv_aload_n hx₀ hb dX12_read_10 rfl (lv_at hl 0 rfl) ?_
    refine va_get (D := (dC, dI)) (ci := 11) (v := .ref vFo) (C := RX12) (T := TX12) (N := 30) hx₀ hb hts inlX12 hown hK hP 0 rfl rfl 0 (by decide) (hts (.fieldLink RX12 7 "BittenStickModel" "forms" "[I") wd_115) (fun _ h9 => h9) rfl dX12_read_11 ?_
    refine lv_iload_n hx₀ hb dX12_read_14 rfl (lv_at hl 1 rfl) ?_
    refine va_iald hx₀ hb hK hP 1 0 rfl rfl (k_in3 c_2) dX12_read_15 ?_
    refine k_topi (v := (-1)) (fFo_at c_2) ?_
    refine lv_if_ge (tgt := 25) hx₀ hb dX12_read_16 (by decide) (fun c9 => absurd c9 (by decide +kernel)) (fun _ => ?_)
    refine lv_aload_n hx₀ hb dX12_read_19 rfl (lv_at hl 0 rfl) ?_
    refine lv_iconst (v := 1) hx₀ hb dX12_read_20 (by decide +kernel) ?_
    have hPc := hP.sub (ws' := [(hm, .inr (11, [.ref vFo, .ref vSi, .ref vIt, .ref vMo, .int 0, .ref vBy, .ref vTy, .int 0, .ref vMi, .int 0, .ref vPs, .int 0, .ref vGs, .int 0, .ref vFt, .int 0, .ref vTo, .int 0, .int 0, .int 0, .int 16777215, .int 0, .int 0, .ref vPr, .ref vSt, .ref vFn, .int 0, .ref vSg, .ref vAl, .int 0]))]) [0] rfl
    have hDc := hD.sub (ws' := [(hm, .inr (11, [.ref vFo, .ref vSi, .ref vIt, .ref vMo, .int 0, .ref vBy, .ref vTy, .int 0, .ref vMi, .int 0, .ref vPs, .int 0, .ref vGs, .int 0, .ref vFt, .int 0, .ref vTo, .int 0, .int 0, .int 0, .int 16777215, .int 0, .int 0, .ref vPr, .ref vSt, .ref vFn, .int 0, .ref vSg, .ref vAl, .int 0]))]) [0] (by decide) rfl
    have hFc := va_free (wc := [(hm, .inr (11, [.ref vFo, .ref vSi, .ref vIt, .ref vMo, .int 0, .ref vBy, .ref vTy, .int 0, .ref vMi, .int 0, .ref vPs, .int 0, .ref vGs, .int 0, .ref vFt, .int 0, .ref vTo, .int 0, .int 0, .int 0, .int 16777215, .int 0, .int 0, .ref vPr, .ref vSt, .ref vFn, .int 0, .ref vSg, .ref vAl, .int 0]))]) hD hS hA [0] rfl
    refine va_calli (va_runV (As := [.int 1]) (rest := []) ⟨hx₀, hb, hml, hown, hts⟩ (m_finds1 l dC dI cI cJ cQ H.size hm vFo vSi vIt vMo vBy vTy vMi vPs vGs vFt vTo vPr vSt vFn vSg vAl) (cwV 1 hts (kGV wd_404 wd_401 wd_402 wd_403 wd_5) rfl rfl rfl (by decide +kernel) ⟨Nat.le_of_ble_eq_true rfl, Nat.le_of_ble_eq_true rfl⟩) (k_preV (ci := 11) (q0 := 0) hK hPc hDc hN rfl rfl) rfl rfl hl.1 rfl (lv_room (Nat.le_of_ble_eq_true rfl)) dX12_read_21 ⟨by decide +kernel, by decide +kernel⟩) hS (fun q _ h => hFc q h) hFc (fun r_3 u₀ t₀ H1 locs ht hvm hw hB hz1 hk1 hS => ?_)
    obtain ⟨hP1, hK1, hD1⟩ := hB
    rw [ht] at hP1
    obtain ⟨hP, hD⟩ := va_join (wr := [(vFo, .inl (cI, 4, .inl fFo))]) (w1 := [(hm, .inr (11, [.ref vFo, .ref vSi, .ref vIt, .ref vMo, .int 1, .ref vBy, .ref vTy, .int 0, .ref vMi, .int 0, .ref vPs, .int 0, .ref vGs, .int 0, .ref vFt, .int 0, .ref vTo, .int 0, .int 0, .int 0, .int 16777215, .int 0, .int 0, .ref vPr, .ref vSt, .ref vFn, .int 0, .ref vSg, .ref vAl, .int 0]))]) hP hD [0] [1] rfl rfl (by decide) (by decide) hk1 hFc hP1 hD1
    generalize H1 = H at hP hS ⊢
    have hP : va_P (dC, dI) vwCl [(vFo, .inl (cI, 4, .inl fFo)), (hm, .inr (11, [.ref vFo, .ref vSi, .ref vIt, .ref vMo, .int 1, .ref vBy, .ref vTy, .int 0, .ref vMi, .int 0, .ref vPs, .int 0, .ref vGs, .int 0, .ref vFt, .int 0, .ref vTo, .int 0, .int 0, .int 0, .int 16777215, .int 0, .int 0, .ref vPr, .ref vSt, .ref vFn, .int 0, .ref vSg, .ref vAl, .int 0]))] H := hP
    have hD : va_D A [(vFo, .inl (cI, 4, .inl fFo)), (hm, .inr (11, [.ref vFo, .ref vSi, .ref vIt, .ref vMo, .int 1, .ref vBy, .ref vTy, .int 0, .ref vMi, .int 0, .ref vPs, .int 0, .ref vGs, .int 0, .ref vFt, .int 0, .ref vTo, .int 0, .int 0, .int 0, .int 16777215, .int 0, .int 0, .ref vPr, .ref vSt, .ref vFn, .int 0, .ref vSg, .ref vAl, .int 0]))] := hD
    try dsimp only at hw
    refine k_topi (v := (-11)) hw ?_
    exact W.iret (v := (-11)) hx₀ hb hr (fun t₀ ht hW => ⟨⟨(-11), (), rfl, (lf_m_read_1 s c_2), trivial⟩, hS.F ht⟩) hS.2.2 dX12_read_24
  rw [if_neg c_2] at hw
  refine k_topi (v := 0) hw ?_
  refine lv_if_ne (tgt := 10) hx₀ hb dX12_read_4 (by decide) (fun c9 => absurd (by decide +kernel) c9) (fun _ => ?_)
  refine lv_bipush (v := (-2)) hx₀ hb dX12_read_7 (by decide +kernel) ?_
  exact W.iret (v := (-2)) hx₀ hb hr (fun t₀ ht hW => ⟨⟨(-2), (), rfl, (lf_m_read_2 s c_2), trivial⟩, hS.F ht⟩) hS.2.2 dX12_read_9
theorem lf_m_learn_1 (k : Int32) (c_2 : (0 : Int64) ≤ k.toInt64 ∧ k.toInt64 ≤ (63 : Int64)) : (0 : Int32) = if 0 ≤ k ∧ k ≤ 63 then 0 else -2 := by
  repeat first | rfl | rw [if_pos (by (first | omega | (simp only [Int64.le_iff_toInt_le, Int64.lt_iff_toInt_lt, Int32.le_iff_toInt_le, Int32.lt_iff_toInt_lt, ← Int32.toInt_inj, ← Int64.toInt_inj, Int32.toInt_toInt64, (show (-2 : Int32).toInt = -2 from by decide), (show (-2 : Int64).toInt = -2 from by decide), (show (0 : Int32).toInt = 0 from by decide), (show (0 : Int64).toInt = 0 from by decide), (show (63 : Int32).toInt = 63 from by decide), (show (63 : Int64).toInt = 63 from by decide)] at *; omega)))] | rw [if_neg (by (first | omega | (simp only [Int64.le_iff_toInt_le, Int64.lt_iff_toInt_lt, Int32.le_iff_toInt_le, Int32.lt_iff_toInt_lt, ← Int32.toInt_inj, ← Int64.toInt_inj, Int32.toInt_toInt64, (show (-2 : Int32).toInt = -2 from by decide), (show (-2 : Int64).toInt = -2 from by decide), (show (0 : Int32).toInt = 0 from by decide), (show (0 : Int64).toInt = 0 from by decide), (show (63 : Int32).toInt = 63 from by decide), (show (63 : Int64).toInt = 63 from by decide)] at *; omega)))]
theorem lf_m_learn_2 (k : Int32) (c_2 : ¬ ((0 : Int64) ≤ k.toInt64 ∧ k.toInt64 ≤ (63 : Int64))) : ((-2) : Int32) = if 0 ≤ k ∧ k ≤ 63 then 0 else -2 := by
  repeat first | rfl | rw [if_pos (by (first | omega | (simp only [Int64.le_iff_toInt_le, Int64.lt_iff_toInt_lt, Int32.le_iff_toInt_le, Int32.lt_iff_toInt_lt, ← Int32.toInt_inj, ← Int64.toInt_inj, Int32.toInt_toInt64, (show (-2 : Int32).toInt = -2 from by decide), (show (-2 : Int64).toInt = -2 from by decide), (show (0 : Int32).toInt = 0 from by decide), (show (0 : Int64).toInt = 0 from by decide), (show (63 : Int32).toInt = 63 from by decide), (show (63 : Int64).toInt = 63 from by decide)] at *; omega)))] | rw [if_neg (by (first | omega | (simp only [Int64.le_iff_toInt_le, Int64.lt_iff_toInt_lt, Int32.le_iff_toInt_le, Int32.lt_iff_toInt_lt, ← Int32.toInt_inj, ← Int64.toInt_inj, Int32.toInt_toInt64, (show (-2 : Int32).toInt = -2 from by decide), (show (-2 : Int64).toInt = -2 from by decide), (show (0 : Int32).toInt = 0 from by decide), (show (0 : Int64).toInt = 0 from by decide), (show (63 : Int32).toInt = 63 from by decide), (show (63 : Int64).toInt = 63 from by decide)] at *; omega)))]
set_option maxHeartbeats 4000000 in
set_option maxRecDepth 100000 in
theorem m_learn (l : Launch) (dC : Nat → ClassId) (dI : Nat → Nat → Nat) (cI cJ cQ : ClassId) (sz : Nat) (hm : Nat) (k : Int32) (vFo : Nat) (vSi : Nat) (vIt : Nat) (vMo : Nat) (vBy : Nat) (vTy : Nat) (vMi : Nat) (vPs : Nat) (vGs : Nat) (vFt : Nat) (vTo : Nat) (vPr : Nat) (vSt : Nat) (vFn : Nat) (vSg : Nat) (vAl : Nat) : Met l yX12_learn (kW yX12_learn cX12_learn 3 (some .int)) { frames := 1, cells := 0, slots := 0, locals := 25 } (kPre dC dI cI cJ cQ sz [.ref hm, .int k] [(hm, .inr (11, [.ref vFo, .ref vSi, .ref vIt, .ref vMo, .int 0, .ref vBy, .ref vTy, .int 0, .ref vMi, .int 0, .ref vPs, .int 0, .ref vGs, .int 0, .ref vFt, .int 0, .ref vTo, .int 0, .int 0, .int 0, .int 16777215, .int 0, .int 0, .ref vPr, .ref vSt, .ref vFn, .int 0, .ref vSg, .ref vAl, .int 0]))]) (va_Qi (fun (r : Int32) (_ : Unit) => r = if 0 ≤ k ∧ k ≤ 63 then 0 else -2) (fun _ _ => True) (va_A [(hm, .inr (11, [.ref vFo, .ref vSi, .ref vIt, .ref vMo, .int 0, .ref vBy, .ref vTy, .int 0, .ref vMi, .int 0, .ref vPs, .int 0, .ref vGs, .int 0, .ref vFt, .int 0, .ref vTo, .int 0, .int 0, .int 0, .int 16777215, .int 0, .int 0, .ref vPr, .ref vSt, .ref vFn, .int 0, .ref vSg, .ref vAl, .int 0]))] sz)) 0 0 (va_A [(hm, .inr (11, [.ref vFo, .ref vSi, .ref vIt, .ref vMo, .int 0, .ref vBy, .ref vTy, .int 0, .ref vMi, .int 0, .ref vPs, .int 0, .ref vGs, .int 0, .ref vFt, .int 0, .ref vTo, .int 0, .int 0, .int 0, .int 16777215, .int 0, .int 0, .ref vPr, .ref vSt, .ref vFn, .int 0, .ref vSg, .ref vAl, .int 0]))] sz) := by
  refine Met.ofW (cc := cX12_learn) (maxL := 3) (ret := (some .int)) (by decide) rfl ?_
  intro p₀ e₀ s₀ m₀ args below meth c₀ s₁ B hml hv₀
  obtain ⟨rfl, hsz, hP, hK, hD0, hN⟩ := hv₀
  have hx₀ := B.exec
  have hb := B.bytes
  have hr := B.returns
  have hts := atoms_spec (ws := (kW yX12_learn cX12_learn 3 (some .int))) B.pre
  have hts := fun w h => hts w (List.mem_cons_of_mem _ h)
  have hown : s₀.vm.findClass RX12 = some m₀.cls := findClass_of_methodNamed B.named
  have hlocks := B.notSynchronized
  subst hsz
  have hD := hD0.self (sz := s₀.heap.size)
  generalize hAe : va_A [(hm, .inr (11, [.ref vFo, .ref vSi, .ref vIt, .ref vMo, .int 0, .ref vBy, .ref vTy, .int 0, .ref vMi, .int 0, .ref vPs, .int 0, .ref vGs, .int 0, .ref vFt, .int 0, .ref vTo, .int 0, .int 0, .int 0, .int 16777215, .int 0, .int 0, .ref vPr, .ref vSt, .ref vFn, .int 0, .ref vSg, .ref vAl, .int 0]))] s₀.heap.size = A at hD ⊢
  have hA : ∀ q : Nat, s₀.heap.size ≤ q → A q := fun q h => by rw [← hAe]; exact Or.inr h
  have hS : va_S A s₀.heap s₀.heap [] := va_S.rf
  have hP : va_P (dC, dI) vwCl [(hm, .inr (11, [.ref vFo, .ref vSi, .ref vIt, .ref vMo, .int 0, .ref vBy, .ref vTy, .int 0, .ref vMi, .int 0, .ref vPs, .int 0, .ref vGs, .int 0, .ref vFt, .int 0, .ref vTo, .int 0, .int 0, .int 0, .int 16777215, .int 0, .int 0, .ref vPr, .ref vSt, .ref vFn, .int 0, .ref vSg, .ref vAl, .int 0]))] s₀.heap := hP
  have hl := lv_entry ([.ref hm, .int k]) (n := 3) (Nat.le_of_ble_eq_true rfl)
  rw [lg_entry_eq]
  generalize (lg_sl ([.ref hm, .int k]) ++ List.replicate (3 - (lg_sl ([.ref hm, .int k])).length) Slot.unset).toArray = ls at hl ⊢
  have hl : lv_has ls 3 [(0, .ref hm), (1, .int k)] := hl
  obtain ⟨H, hH⟩ : ∃ z : Heap, z = s₀.heap := ⟨_, rfl⟩
  rw [← hH] at hP
  have hS : va_S A s₀.heap H [] := by rw [hH]; exact hS
  refine k_heap hH ?_
  have hD : va_D A [(hm, .inr (11, [.ref vFo, .ref vSi, .ref vIt, .ref vMo, .int 0, .ref vBy, .ref vTy, .int 0, .ref vMi, .int 0, .ref vPs, .int 0, .ref vGs, .int 0, .ref vFt, .int 0, .ref vTo, .int 0, .int 0, .int 0, .int 16777215, .int 0, .int 0, .ref vPr, .ref vSt, .ref vFn, .int 0, .ref vSg, .ref vAl, .int 0]))] := hD
  obtain ⟨locs, hlo⟩ : ∃ z : List Loc, z = [] := ⟨_, rfl⟩
  rw [← hlo] at hS ⊢
  clear hlo hH hAe hD0
  refine lv_iload_n hx₀ hb dX12_learn_0 rfl (lv_at hl 1 rfl) ?_
  refine lv_i2l hx₀ hb dX12_learn_1 rfl ?_
  refine lv_lconst (v := 0) hx₀ hb dX12_learn_2 (by decide +kernel) ?_
  refine lv_ldc2 (v := 63) hx₀ hb hown (hts (.constantLong RX12 165 (63)) wd_416) dX12_learn_3 ?_
  have hPc := hP.sub (ws' := []) [] rfl
  have hDc := hD.sub (ws' := []) [] (by decide) rfl
  have hFc := va_free (wc := []) hD hS hA [] rfl
  refine va_calli (va_runS (As := [.long k.toInt64, .long 0, .long 63]) (rest := []) ⟨hx₀, hb, hml, hown, hts⟩ (c_in l dC dI cI cJ cQ H.size k.toInt64 0 63) (va_cwS 3 hts (kGS wd_208 wd_206 wd_207 wd_5) rfl rfl rfl (by decide +kernel) ⟨Nat.le_of_ble_eq_true rfl, Nat.le_of_ble_eq_true rfl⟩) (k_preS hK hPc hDc hN) rfl rfl hl.1 rfl (lv_room (Nat.le_of_ble_eq_true rfl)) dX12_learn_6 ⟨by decide +kernel, by decide +kernel⟩) hS (fun q _ h => hFc q h) hFc (fun r_1 u₀ t₀ H1 locs ht hvm hw hB hz1 hk1 hS => ?_)
  obtain ⟨hP1, hK1, hD1⟩ := hB
  rw [ht] at hP1
  obtain ⟨hP, hD⟩ := va_join (wr := [(hm, .inr (11, [.ref vFo, .ref vSi, .ref vIt, .ref vMo, .int 0, .ref vBy, .ref vTy, .int 0, .ref vMi, .int 0, .ref vPs, .int 0, .ref vGs, .int 0, .ref vFt, .int 0, .ref vTo, .int 0, .int 0, .int 0, .int 16777215, .int 0, .int 0, .ref vPr, .ref vSt, .ref vFn, .int 0, .ref vSg, .ref vAl, .int 0]))]) (w1 := []) hP hD [] [0] rfl rfl (by decide) (by decide) hk1 hFc hP1 hD1
  generalize H1 = H at hP hS ⊢
  have hP : va_P (dC, dI) vwCl [(hm, .inr (11, [.ref vFo, .ref vSi, .ref vIt, .ref vMo, .int 0, .ref vBy, .ref vTy, .int 0, .ref vMi, .int 0, .ref vPs, .int 0, .ref vGs, .int 0, .ref vFt, .int 0, .ref vTo, .int 0, .int 0, .int 0, .int 16777215, .int 0, .int 0, .ref vPr, .ref vSt, .ref vFn, .int 0, .ref vSg, .ref vAl, .int 0]))] H := hP
  have hD : va_D A [(hm, .inr (11, [.ref vFo, .ref vSi, .ref vIt, .ref vMo, .int 0, .ref vBy, .ref vTy, .int 0, .ref vMi, .int 0, .ref vPs, .int 0, .ref vGs, .int 0, .ref vFt, .int 0, .ref vTo, .int 0, .int 0, .int 0, .int 16777215, .int 0, .int 0, .ref vPr, .ref vSt, .ref vFn, .int 0, .ref vSg, .ref vAl, .int 0]))] := hD
  try dsimp only at hw
  by_cases c_2 : (0 : Int64) ≤ k.toInt64 ∧ k.toInt64 ≤ (63 : Int64)
  · rw [if_pos c_2] at hw
    refine k_topi (v := 1) hw ?_
    refine lv_if_ne (tgt := 15) hx₀ hb dX12_learn_9 (by decide) (fun _ => ?_) (fun c9 => absurd c9 (by decide +kernel))
    refine lv_aload_n hx₀ hb dX12_learn_15 rfl (lv_at hl 0 rfl) ?_
    refine va_get (D := (dC, dI)) (ci := 11) (v := .int 0) (C := RX12) (T := TX12) (N := 30) hx₀ hb hts inlX12 hown hK hP 0 rfl rfl 15 (by decide) (hts (.fieldLink RX12 167 "BittenStickModel" "learned" "I") wd_417) (fun _ h9 => h9) rfl dX12_learn_16 ?_
    refine lv_istore_n (lv' := [(2, .int 0), (0, .ref hm), (1, .int k)]) hx₀ hb dX12_learn_19 rfl hl (by decide) rfl (fun ls hl => ?_)
    refine lv_aload_n hx₀ hb dX12_learn_20 rfl (lv_at hl 1 rfl) ?_
    refine lv_iload_n hx₀ hb dX12_learn_21 rfl (lv_at hl 2 rfl) ?_
    refine va_put (D := (dC, dI)) (ci := 11) (v := .int k) (ty := .int) (C := RX12) (T := TX12) (N := 30) hx₀ hb hts inlX12 tyX12 tyX12_ok nmX12 hown hK hP hD hS 0 rfl rfl 15 (by decide) (hts (.fieldLink RX12 167 "BittenStickModel" "learned" "I") wd_417) (fun _ h9 => h9) rfl (by decide +kernel) rfl rfl (Nat.le_of_ble_eq_true rfl) dX12_learn_22 (fun H locs hP hD hS => ?_)
    have hP : va_P (dC, dI) vwCl [(hm, .inr (11, [.ref vFo, .ref vSi, .ref vIt, .ref vMo, .int 0, .ref vBy, .ref vTy, .int 0, .ref vMi, .int 0, .ref vPs, .int 0, .ref vGs, .int 0, .ref vFt, .int k, .ref vTo, .int 0, .int 0, .int 0, .int 16777215, .int 0, .int 0, .ref vPr, .ref vSt, .ref vFn, .int 0, .ref vSg, .ref vAl, .int 0]))] H := hP
    have hD : va_D A [(hm, .inr (11, [.ref vFo, .ref vSi, .ref vIt, .ref vMo, .int 0, .ref vBy, .ref vTy, .int 0, .ref vMi, .int 0, .ref vPs, .int 0, .ref vGs, .int 0, .ref vFt, .int k, .ref vTo, .int 0, .int 0, .int 0, .int 16777215, .int 0, .int 0, .ref vPr, .ref vSt, .ref vFn, .int 0, .ref vSg, .ref vAl, .int 0]))] := hD
    refine lv_iload_n hx₀ hb dX12_learn_25 rfl (lv_at hl 0 rfl) ?_
    exact W.iret (v := 0) hx₀ hb hr (fun t₀ ht hW => ⟨⟨0, (), rfl, (lf_m_learn_1 k c_2), trivial⟩, hS.F ht⟩) hS.2.2 dX12_learn_26
  rw [if_neg c_2] at hw
  refine k_topi (v := 0) hw ?_
  refine lv_if_ne (tgt := 15) hx₀ hb dX12_learn_9 (by decide) (fun c9 => absurd (by decide +kernel) c9) (fun _ => ?_)
  refine lv_bipush (v := (-2)) hx₀ hb dX12_learn_12 (by decide +kernel) ?_
  exact W.iret (v := (-2)) hx₀ hb hr (fun t₀ ht hW => ⟨⟨(-2), (), rfl, (lf_m_learn_2 k c_2), trivial⟩, hS.F ht⟩) hS.2.2 dX12_learn_14
set_option maxHeartbeats 4000000 in
set_option maxRecDepth 100000 in
theorem m_comes (l : Launch) (dC : Nat → ClassId) (dI : Nat → Nat → Nat) (cI cJ cQ : ClassId) (sz : Nat) (hm : Nat) (f : Int32) (w : Int32) (vFo : Nat) (vSi : Nat) (vIt : Nat) (vMo : Nat) (vBy : Nat) (vTy : Nat) (vMi : Nat) (vPs : Nat) (vGs : Nat) (vFt : Nat) (vTo : Nat) (vPr : Nat) (vSt : Nat) (vFn : Nat) (vSg : Nat) (vAl : Nat) : Met l yX12_comes (kW yX12_comes cX12_comes 3 (some .int)) { frames := 2, cells := 0, slots := 0, locals := 46 } (kPre dC dI cI cJ cQ sz [.ref hm, .int f, .int w] [(hm, .inr (11, [.ref vFo, .ref vSi, .ref vIt, .ref vMo, .int 0, .ref vBy, .ref vTy, .int 0, .ref vMi, .int 0, .ref vPs, .int 0, .ref vGs, .int 0, .ref vFt, .int 0, .ref vTo, .int 0, .int 0, .int 0, .int 16777215, .int 0, .int 0, .ref vPr, .ref vSt, .ref vFn, .int 0, .ref vSg, .ref vAl, .int 0])), (vTy, .inl (cI, 3, .inl (fun _ => 0)))]) (va_Qi (fun (r : Int32) (_ : Unit) => r = -2) (fun _ _ => True) (va_A [(hm, .inr (11, [.ref vFo, .ref vSi, .ref vIt, .ref vMo, .int 0, .ref vBy, .ref vTy, .int 0, .ref vMi, .int 0, .ref vPs, .int 0, .ref vGs, .int 0, .ref vFt, .int 0, .ref vTo, .int 0, .int 0, .int 0, .int 16777215, .int 0, .int 0, .ref vPr, .ref vSt, .ref vFn, .int 0, .ref vSg, .ref vAl, .int 0])), (vTy, .inl (cI, 3, .inl (fun _ => 0)))] sz)) 0 0 (va_A [(hm, .inr (11, [.ref vFo, .ref vSi, .ref vIt, .ref vMo, .int 0, .ref vBy, .ref vTy, .int 0, .ref vMi, .int 0, .ref vPs, .int 0, .ref vGs, .int 0, .ref vFt, .int 0, .ref vTo, .int 0, .int 0, .int 0, .int 16777215, .int 0, .int 0, .ref vPr, .ref vSt, .ref vFn, .int 0, .ref vSg, .ref vAl, .int 0])), (vTy, .inl (cI, 3, .inl (fun _ => 0)))] sz) := by
  refine Met.ofW (cc := cX12_comes) (maxL := 3) (ret := (some .int)) (by decide) rfl ?_
  intro p₀ e₀ s₀ m₀ args below meth c₀ s₁ B hml hv₀
  obtain ⟨rfl, hsz, hP, hK, hD0, hN⟩ := hv₀
  have hx₀ := B.exec
  have hb := B.bytes
  have hr := B.returns
  have hts := atoms_spec (ws := (kW yX12_comes cX12_comes 3 (some .int))) B.pre
  have hts := fun w h => hts w (List.mem_cons_of_mem _ h)
  have hown : s₀.vm.findClass RX12 = some m₀.cls := findClass_of_methodNamed B.named
  have hlocks := B.notSynchronized
  subst hsz
  have hD := hD0.self (sz := s₀.heap.size)
  generalize hAe : va_A [(hm, .inr (11, [.ref vFo, .ref vSi, .ref vIt, .ref vMo, .int 0, .ref vBy, .ref vTy, .int 0, .ref vMi, .int 0, .ref vPs, .int 0, .ref vGs, .int 0, .ref vFt, .int 0, .ref vTo, .int 0, .int 0, .int 0, .int 16777215, .int 0, .int 0, .ref vPr, .ref vSt, .ref vFn, .int 0, .ref vSg, .ref vAl, .int 0])), (vTy, .inl (cI, 3, .inl (fun _ => 0)))] s₀.heap.size = A at hD ⊢
  have hA : ∀ q : Nat, s₀.heap.size ≤ q → A q := fun q h => by rw [← hAe]; exact Or.inr h
  have hS : va_S A s₀.heap s₀.heap [] := va_S.rf
  have hP : va_P (dC, dI) vwCl [(hm, .inr (11, [.ref vFo, .ref vSi, .ref vIt, .ref vMo, .int 0, .ref vBy, .ref vTy, .int 0, .ref vMi, .int 0, .ref vPs, .int 0, .ref vGs, .int 0, .ref vFt, .int 0, .ref vTo, .int 0, .int 0, .int 0, .int 16777215, .int 0, .int 0, .ref vPr, .ref vSt, .ref vFn, .int 0, .ref vSg, .ref vAl, .int 0])), (vTy, .inl (cI, 3, .inl (fun _ => 0)))] s₀.heap := hP
  have hl := lv_entry ([.ref hm, .int f, .int w]) (n := 3) (Nat.le_of_ble_eq_true rfl)
  rw [lg_entry_eq]
  generalize (lg_sl ([.ref hm, .int f, .int w]) ++ List.replicate (3 - (lg_sl ([.ref hm, .int f, .int w])).length) Slot.unset).toArray = ls at hl ⊢
  have hl : lv_has ls 3 [(0, .ref hm), (1, .int f), (2, .int w)] := hl
  obtain ⟨H, hH⟩ : ∃ z : Heap, z = s₀.heap := ⟨_, rfl⟩
  rw [← hH] at hP
  have hS : va_S A s₀.heap H [] := by rw [hH]; exact hS
  refine k_heap hH ?_
  have hD : va_D A [(hm, .inr (11, [.ref vFo, .ref vSi, .ref vIt, .ref vMo, .int 0, .ref vBy, .ref vTy, .int 0, .ref vMi, .int 0, .ref vPs, .int 0, .ref vGs, .int 0, .ref vFt, .int 0, .ref vTo, .int 0, .int 0, .int 0, .int 16777215, .int 0, .int 0, .ref vPr, .ref vSt, .ref vFn, .int 0, .ref vSg, .ref vAl, .int 0])), (vTy, .inl (cI, 3, .inl (fun _ => 0)))] := hD
  obtain ⟨locs, hlo⟩ : ∃ z : List Loc, z = [] := ⟨_, rfl⟩
  rw [← hlo] at hS ⊢
  clear hlo hH hAe hD0
  refine lv_aload_n hx₀ hb dX12_comes_0 rfl (lv_at hl 0 rfl) ?_
  have hPc := hP.sub (ws' := [(hm, .inr (11, [.ref vFo, .ref vSi, .ref vIt, .ref vMo, .int 0, .ref vBy, .ref vTy, .int 0, .ref vMi, .int 0, .ref vPs, .int 0, .ref vGs, .int 0, .ref vFt, .int 0, .ref vTo, .int 0, .int 0, .int 0, .int 16777215, .int 0, .int 0, .ref vPr, .ref vSt, .ref vFn, .int 0, .ref vSg, .ref vAl, .int 0])), (vTy, .inl (cI, 3, .inl (fun _ => 0)))]) [0, 1] rfl
  have hDc := hD.sub (ws' := [(hm, .inr (11, [.ref vFo, .ref vSi, .ref vIt, .ref vMo, .int 0, .ref vBy, .ref vTy, .int 0, .ref vMi, .int 0, .ref vPs, .int 0, .ref vGs, .int 0, .ref vFt, .int 0, .ref vTo, .int 0, .int 0, .int 0, .int 16777215, .int 0, .int 0, .ref vPr, .ref vSt, .ref vFn, .int 0, .ref vSg, .ref vAl, .int 0])), (vTy, .inl (cI, 3, .inl (fun _ => 0)))]) [0, 1] (by decide) rfl
  have hFc := va_free (wc := [(hm, .inr (11, [.ref vFo, .ref vSi, .ref vIt, .ref vMo, .int 0, .ref vBy, .ref vTy, .int 0, .ref vMi, .int 0, .ref vPs, .int 0, .ref vGs, .int 0, .ref vFt, .int 0, .ref vTo, .int 0, .int 0, .int 0, .int 16777215, .int 0, .int 0, .ref vPr, .ref vSt, .ref vFn, .int 0, .ref vSg, .ref vAl, .int 0])), (vTy, .inl (cI, 3, .inl (fun _ => 0)))]) hD hS hA [0, 1] rfl
  refine va_callv (va_runV (As := []) (rest := []) ⟨hx₀, hb, hml, hown, hts⟩ (m_reads l dC dI cI cJ cQ H.size hm vFo vSi vIt vMo vBy vTy vMi vPs vGs vFt vTo vPr vSt vFn vSg vAl) (cwV 0 hts (kGV wd_298 wd_295 wd_296 wd_297 wd_5) rfl rfl rfl (by decide +kernel) ⟨Nat.le_of_ble_eq_true rfl, Nat.le_of_ble_eq_true rfl⟩) (k_preV (ci := 11) (q0 := 0) hK hPc hDc hN rfl rfl) rfl rfl hl.1 rfl (lv_room (Nat.le_of_ble_eq_true rfl)) dX12_comes_1 ⟨by decide +kernel, by decide +kernel⟩) hS (fun q _ h => hFc q h) hFc (fun u₀ t₀ H1 locs ht hvm hw hB hz1 hk1 hS => ?_)
  obtain ⟨hP1, hK1, hD1⟩ := hB
  rw [ht] at hP1
  obtain ⟨hP, hD⟩ := va_join (wr := []) (w1 := [(hm, .inr (11, [.ref vFo, .ref vSi, .ref vIt, .ref vMo, .int 0, .ref vBy, .ref vTy, .int 0, .ref vMi, .int 0, .ref vPs, .int 0, .ref vGs, .int 0, .ref vFt, .int 0, .ref vTo, .int 0, .int 0, .int 0, .int 16777215, .int 0, .int 0, .ref vPr, .ref vSt, .ref vFn, .int 0, .ref vSg, .ref vAl, .int 0])), (vTy, .inl (cI, 3, .inl (fun _ => 0)))]) hP hD [0, 1] [] rfl rfl (by decide) (by decide) hk1 hFc hP1 hD1
  generalize H1 = H at hP hS ⊢
  have hP : va_P (dC, dI) vwCl [(hm, .inr (11, [.ref vFo, .ref vSi, .ref vIt, .ref vMo, .int 0, .ref vBy, .ref vTy, .int 0, .ref vMi, .int 0, .ref vPs, .int 0, .ref vGs, .int 0, .ref vFt, .int 0, .ref vTo, .int 0, .int 0, .int 0, .int 16777215, .int 0, .int 0, .ref vPr, .ref vSt, .ref vFn, .int 0, .ref vSg, .ref vAl, .int 0])), (vTy, .inl (cI, 3, .inl (fun _ => 0)))] H := hP
  have hD : va_D A [(hm, .inr (11, [.ref vFo, .ref vSi, .ref vIt, .ref vMo, .int 0, .ref vBy, .ref vTy, .int 0, .ref vMi, .int 0, .ref vPs, .int 0, .ref vGs, .int 0, .ref vFt, .int 0, .ref vTo, .int 0, .int 0, .int 0, .int 16777215, .int 0, .int 0, .ref vPr, .ref vSt, .ref vFn, .int 0, .ref vSg, .ref vAl, .int 0])), (vTy, .inl (cI, 3, .inl (fun _ => 0)))] := hD
  refine lv_aload_n hx₀ hb dX12_comes_4 rfl (lv_at hl 0 rfl) ?_
  refine lv_iload_n hx₀ hb dX12_comes_5 rfl (lv_at hl 1 rfl) ?_
  have hPc := hP.sub (ws' := [(hm, .inr (11, [.ref vFo, .ref vSi, .ref vIt, .ref vMo, .int 0, .ref vBy, .ref vTy, .int 0, .ref vMi, .int 0, .ref vPs, .int 0, .ref vGs, .int 0, .ref vFt, .int 0, .ref vTo, .int 0, .int 0, .int 0, .int 16777215, .int 0, .int 0, .ref vPr, .ref vSt, .ref vFn, .int 0, .ref vSg, .ref vAl, .int 0]))]) [0] rfl
  have hDc := hD.sub (ws' := [(hm, .inr (11, [.ref vFo, .ref vSi, .ref vIt, .ref vMo, .int 0, .ref vBy, .ref vTy, .int 0, .ref vMi, .int 0, .ref vPs, .int 0, .ref vGs, .int 0, .ref vFt, .int 0, .ref vTo, .int 0, .int 0, .int 0, .int 16777215, .int 0, .int 0, .ref vPr, .ref vSt, .ref vFn, .int 0, .ref vSg, .ref vAl, .int 0]))]) [0] (by decide) rfl
  have hFc := va_free (wc := [(hm, .inr (11, [.ref vFo, .ref vSi, .ref vIt, .ref vMo, .int 0, .ref vBy, .ref vTy, .int 0, .ref vMi, .int 0, .ref vPs, .int 0, .ref vGs, .int 0, .ref vFt, .int 0, .ref vTo, .int 0, .int 0, .int 0, .int 16777215, .int 0, .int 0, .ref vPr, .ref vSt, .ref vFn, .int 0, .ref vSg, .ref vAl, .int 0]))]) hD hS hA [0] rfl
  refine va_calli (va_runV (As := [.int f]) (rest := []) ⟨hx₀, hb, hml, hown, hts⟩ (m_isFlight l dC dI cI cJ cQ H.size hm f vFo vSi vIt vMo vBy vTy vMi vPs vGs vFt vTo vPr vSt vFn vSg vAl) (cwV 1 hts (kGV wd_528 wd_525 wd_526 wd_527 wd_5) rfl rfl rfl (by decide +kernel) ⟨Nat.le_of_ble_eq_true rfl, Nat.le_of_ble_eq_true rfl⟩) (k_preV (ci := 11) (q0 := 0) hK hPc hDc hN rfl rfl) rfl rfl hl.1 rfl (lv_room (Nat.le_of_ble_eq_true rfl)) dX12_comes_6 ⟨by decide +kernel, by decide +kernel⟩) hS (fun q _ h => hFc q h) hFc (fun r_2 u₀ t₀ H1 locs ht hvm hw hB hz1 hk1 hS => ?_)
  obtain ⟨hP1, hK1, hD1⟩ := hB
  rw [ht] at hP1
  obtain ⟨hP, hD⟩ := va_join (wr := [(vTy, .inl (cI, 3, .inl (fun _ => 0)))]) (w1 := [(hm, .inr (11, [.ref vFo, .ref vSi, .ref vIt, .ref vMo, .int 0, .ref vBy, .ref vTy, .int 0, .ref vMi, .int 0, .ref vPs, .int 0, .ref vGs, .int 0, .ref vFt, .int 0, .ref vTo, .int 0, .int 0, .int 0, .int 16777215, .int 0, .int 0, .ref vPr, .ref vSt, .ref vFn, .int 0, .ref vSg, .ref vAl, .int 0]))]) hP hD [0] [1] rfl rfl (by decide) (by decide) hk1 hFc hP1 hD1
  generalize H1 = H at hP hS ⊢
  have hP : va_P (dC, dI) vwCl [(vTy, .inl (cI, 3, .inl (fun _ => 0))), (hm, .inr (11, [.ref vFo, .ref vSi, .ref vIt, .ref vMo, .int 0, .ref vBy, .ref vTy, .int 0, .ref vMi, .int 0, .ref vPs, .int 0, .ref vGs, .int 0, .ref vFt, .int 0, .ref vTo, .int 0, .int 0, .int 0, .int 16777215, .int 0, .int 0, .ref vPr, .ref vSt, .ref vFn, .int 0, .ref vSg, .ref vAl, .int 0]))] H := hP
  have hD : va_D A [(vTy, .inl (cI, 3, .inl (fun _ => 0))), (hm, .inr (11, [.ref vFo, .ref vSi, .ref vIt, .ref vMo, .int 0, .ref vBy, .ref vTy, .int 0, .ref vMi, .int 0, .ref vPs, .int 0, .ref vGs, .int 0, .ref vFt, .int 0, .ref vTo, .int 0, .int 0, .int 0, .int 16777215, .int 0, .int 0, .ref vPr, .ref vSt, .ref vFn, .int 0, .ref vSg, .ref vAl, .int 0]))] := hD
  try dsimp only at hw
  refine k_topi (v := 0) hw ?_
  refine lv_if_eq (tgt := 33) hx₀ hb dX12_comes_9 (by decide) (fun _ => ?_) (fun c9 => absurd (by decide +kernel) c9)
  refine lv_bipush (v := (-2)) hx₀ hb dX12_comes_33 (by decide +kernel) ?_
  exact W.iret (v := (-2)) hx₀ hb hr (fun t₀ ht hW => ⟨⟨(-2), (), rfl, (by decide +kernel), trivial⟩, hS.F ht⟩) hS.2.2 dX12_comes_35
set_option maxHeartbeats 4000000 in
set_option maxRecDepth 100000 in
theorem m_climb (l : Launch) (dC : Nat → ClassId) (dI : Nat → Nat → Nat) (cI cJ cQ : ClassId) (sz : Nat) (hm : Nat) (f : Int32) (w : Int32) (vFo : Nat) (vSi : Nat) (vIt : Nat) (vMo : Nat) (vBy : Nat) (vTy : Nat) (vMi : Nat) (vPs : Nat) (vGs : Nat) (vFt : Nat) (vTo : Nat) (vPr : Nat) (vSt : Nat) (vFn : Nat) (vSg : Nat) (vAl : Nat) : Met l yX12_climb (kW yX12_climb cX12_climb 3 (some .int)) { frames := 2, cells := 0, slots := 0, locals := 46 } (kPre dC dI cI cJ cQ sz [.ref hm, .int f, .int w] [(hm, .inr (11, [.ref vFo, .ref vSi, .ref vIt, .ref vMo, .int 0, .ref vBy, .ref vTy, .int 0, .ref vMi, .int 0, .ref vPs, .int 0, .ref vGs, .int 0, .ref vFt, .int 0, .ref vTo, .int 0, .int 0, .int 0, .int 16777215, .int 0, .int 0, .ref vPr, .ref vSt, .ref vFn, .int 0, .ref vSg, .ref vAl, .int 0])), (vTy, .inl (cI, 3, .inl (fun _ => 0)))]) (va_Qi (fun (r : Int32) (_ : Unit) => r = -2) (fun _ _ => True) (va_A [(hm, .inr (11, [.ref vFo, .ref vSi, .ref vIt, .ref vMo, .int 0, .ref vBy, .ref vTy, .int 0, .ref vMi, .int 0, .ref vPs, .int 0, .ref vGs, .int 0, .ref vFt, .int 0, .ref vTo, .int 0, .int 0, .int 0, .int 16777215, .int 0, .int 0, .ref vPr, .ref vSt, .ref vFn, .int 0, .ref vSg, .ref vAl, .int 0])), (vTy, .inl (cI, 3, .inl (fun _ => 0)))] sz)) 0 0 (va_A [(hm, .inr (11, [.ref vFo, .ref vSi, .ref vIt, .ref vMo, .int 0, .ref vBy, .ref vTy, .int 0, .ref vMi, .int 0, .ref vPs, .int 0, .ref vGs, .int 0, .ref vFt, .int 0, .ref vTo, .int 0, .int 0, .int 0, .int 16777215, .int 0, .int 0, .ref vPr, .ref vSt, .ref vFn, .int 0, .ref vSg, .ref vAl, .int 0])), (vTy, .inl (cI, 3, .inl (fun _ => 0)))] sz) := by
  refine Met.ofW (cc := cX12_climb) (maxL := 3) (ret := (some .int)) (by decide) rfl ?_
  intro p₀ e₀ s₀ m₀ args below meth c₀ s₁ B hml hv₀
  obtain ⟨rfl, hsz, hP, hK, hD0, hN⟩ := hv₀
  have hx₀ := B.exec
  have hb := B.bytes
  have hr := B.returns
  have hts := atoms_spec (ws := (kW yX12_climb cX12_climb 3 (some .int))) B.pre
  have hts := fun w h => hts w (List.mem_cons_of_mem _ h)
  have hown : s₀.vm.findClass RX12 = some m₀.cls := findClass_of_methodNamed B.named
  have hlocks := B.notSynchronized
  subst hsz
  have hD := hD0.self (sz := s₀.heap.size)
  generalize hAe : va_A [(hm, .inr (11, [.ref vFo, .ref vSi, .ref vIt, .ref vMo, .int 0, .ref vBy, .ref vTy, .int 0, .ref vMi, .int 0, .ref vPs, .int 0, .ref vGs, .int 0, .ref vFt, .int 0, .ref vTo, .int 0, .int 0, .int 0, .int 16777215, .int 0, .int 0, .ref vPr, .ref vSt, .ref vFn, .int 0, .ref vSg, .ref vAl, .int 0])), (vTy, .inl (cI, 3, .inl (fun _ => 0)))] s₀.heap.size = A at hD ⊢
  have hA : ∀ q : Nat, s₀.heap.size ≤ q → A q := fun q h => by rw [← hAe]; exact Or.inr h
  have hS : va_S A s₀.heap s₀.heap [] := va_S.rf
  have hP : va_P (dC, dI) vwCl [(hm, .inr (11, [.ref vFo, .ref vSi, .ref vIt, .ref vMo, .int 0, .ref vBy, .ref vTy, .int 0, .ref vMi, .int 0, .ref vPs, .int 0, .ref vGs, .int 0, .ref vFt, .int 0, .ref vTo, .int 0, .int 0, .int 0, .int 16777215, .int 0, .int 0, .ref vPr, .ref vSt, .ref vFn, .int 0, .ref vSg, .ref vAl, .int 0])), (vTy, .inl (cI, 3, .inl (fun _ => 0)))] s₀.heap := hP
  have hl := lv_entry ([.ref hm, .int f, .int w]) (n := 3) (Nat.le_of_ble_eq_true rfl)
  rw [lg_entry_eq]
  generalize (lg_sl ([.ref hm, .int f, .int w]) ++ List.replicate (3 - (lg_sl ([.ref hm, .int f, .int w])).length) Slot.unset).toArray = ls at hl ⊢
  have hl : lv_has ls 3 [(0, .ref hm), (1, .int f), (2, .int w)] := hl
  obtain ⟨H, hH⟩ : ∃ z : Heap, z = s₀.heap := ⟨_, rfl⟩
  rw [← hH] at hP
  have hS : va_S A s₀.heap H [] := by rw [hH]; exact hS
  refine k_heap hH ?_
  have hD : va_D A [(hm, .inr (11, [.ref vFo, .ref vSi, .ref vIt, .ref vMo, .int 0, .ref vBy, .ref vTy, .int 0, .ref vMi, .int 0, .ref vPs, .int 0, .ref vGs, .int 0, .ref vFt, .int 0, .ref vTo, .int 0, .int 0, .int 0, .int 16777215, .int 0, .int 0, .ref vPr, .ref vSt, .ref vFn, .int 0, .ref vSg, .ref vAl, .int 0])), (vTy, .inl (cI, 3, .inl (fun _ => 0)))] := hD
  obtain ⟨locs, hlo⟩ : ∃ z : List Loc, z = [] := ⟨_, rfl⟩
  rw [← hlo] at hS ⊢
  clear hlo hH hAe hD0
  refine lv_aload_n hx₀ hb dX12_climb_0 rfl (lv_at hl 0 rfl) ?_
  have hPc := hP.sub (ws' := [(hm, .inr (11, [.ref vFo, .ref vSi, .ref vIt, .ref vMo, .int 0, .ref vBy, .ref vTy, .int 0, .ref vMi, .int 0, .ref vPs, .int 0, .ref vGs, .int 0, .ref vFt, .int 0, .ref vTo, .int 0, .int 0, .int 0, .int 16777215, .int 0, .int 0, .ref vPr, .ref vSt, .ref vFn, .int 0, .ref vSg, .ref vAl, .int 0])), (vTy, .inl (cI, 3, .inl (fun _ => 0)))]) [0, 1] rfl
  have hDc := hD.sub (ws' := [(hm, .inr (11, [.ref vFo, .ref vSi, .ref vIt, .ref vMo, .int 0, .ref vBy, .ref vTy, .int 0, .ref vMi, .int 0, .ref vPs, .int 0, .ref vGs, .int 0, .ref vFt, .int 0, .ref vTo, .int 0, .int 0, .int 0, .int 16777215, .int 0, .int 0, .ref vPr, .ref vSt, .ref vFn, .int 0, .ref vSg, .ref vAl, .int 0])), (vTy, .inl (cI, 3, .inl (fun _ => 0)))]) [0, 1] (by decide) rfl
  have hFc := va_free (wc := [(hm, .inr (11, [.ref vFo, .ref vSi, .ref vIt, .ref vMo, .int 0, .ref vBy, .ref vTy, .int 0, .ref vMi, .int 0, .ref vPs, .int 0, .ref vGs, .int 0, .ref vFt, .int 0, .ref vTo, .int 0, .int 0, .int 0, .int 16777215, .int 0, .int 0, .ref vPr, .ref vSt, .ref vFn, .int 0, .ref vSg, .ref vAl, .int 0])), (vTy, .inl (cI, 3, .inl (fun _ => 0)))]) hD hS hA [0, 1] rfl
  refine va_callv (va_runV (As := []) (rest := []) ⟨hx₀, hb, hml, hown, hts⟩ (m_reads l dC dI cI cJ cQ H.size hm vFo vSi vIt vMo vBy vTy vMi vPs vGs vFt vTo vPr vSt vFn vSg vAl) (cwV 0 hts (kGV wd_298 wd_295 wd_296 wd_297 wd_5) rfl rfl rfl (by decide +kernel) ⟨Nat.le_of_ble_eq_true rfl, Nat.le_of_ble_eq_true rfl⟩) (k_preV (ci := 11) (q0 := 0) hK hPc hDc hN rfl rfl) rfl rfl hl.1 rfl (lv_room (Nat.le_of_ble_eq_true rfl)) dX12_climb_1 ⟨by decide +kernel, by decide +kernel⟩) hS (fun q _ h => hFc q h) hFc (fun u₀ t₀ H1 locs ht hvm hw hB hz1 hk1 hS => ?_)
  obtain ⟨hP1, hK1, hD1⟩ := hB
  rw [ht] at hP1
  obtain ⟨hP, hD⟩ := va_join (wr := []) (w1 := [(hm, .inr (11, [.ref vFo, .ref vSi, .ref vIt, .ref vMo, .int 0, .ref vBy, .ref vTy, .int 0, .ref vMi, .int 0, .ref vPs, .int 0, .ref vGs, .int 0, .ref vFt, .int 0, .ref vTo, .int 0, .int 0, .int 0, .int 16777215, .int 0, .int 0, .ref vPr, .ref vSt, .ref vFn, .int 0, .ref vSg, .ref vAl, .int 0])), (vTy, .inl (cI, 3, .inl (fun _ => 0)))]) hP hD [0, 1] [] rfl rfl (by decide) (by decide) hk1 hFc hP1 hD1
  generalize H1 = H at hP hS ⊢
  have hP : va_P (dC, dI) vwCl [(hm, .inr (11, [.ref vFo, .ref vSi, .ref vIt, .ref vMo, .int 0, .ref vBy, .ref vTy, .int 0, .ref vMi, .int 0, .ref vPs, .int 0, .ref vGs, .int 0, .ref vFt, .int 0, .ref vTo, .int 0, .int 0, .int 0, .int 16777215, .int 0, .int 0, .ref vPr, .ref vSt, .ref vFn, .int 0, .ref vSg, .ref vAl, .int 0])), (vTy, .inl (cI, 3, .inl (fun _ => 0)))] H := hP
  have hD : va_D A [(hm, .inr (11, [.ref vFo, .ref vSi, .ref vIt, .ref vMo, .int 0, .ref vBy, .ref vTy, .int 0, .ref vMi, .int 0, .ref vPs, .int 0, .ref vGs, .int 0, .ref vFt, .int 0, .ref vTo, .int 0, .int 0, .int 0, .int 16777215, .int 0, .int 0, .ref vPr, .ref vSt, .ref vFn, .int 0, .ref vSg, .ref vAl, .int 0])), (vTy, .inl (cI, 3, .inl (fun _ => 0)))] := hD
  refine lv_aload_n hx₀ hb dX12_climb_4 rfl (lv_at hl 0 rfl) ?_
  refine lv_iload_n hx₀ hb dX12_climb_5 rfl (lv_at hl 1 rfl) ?_
  have hPc := hP.sub (ws' := [(hm, .inr (11, [.ref vFo, .ref vSi, .ref vIt, .ref vMo, .int 0, .ref vBy, .ref vTy, .int 0, .ref vMi, .int 0, .ref vPs, .int 0, .ref vGs, .int 0, .ref vFt, .int 0, .ref vTo, .int 0, .int 0, .int 0, .int 16777215, .int 0, .int 0, .ref vPr, .ref vSt, .ref vFn, .int 0, .ref vSg, .ref vAl, .int 0]))]) [0] rfl
  have hDc := hD.sub (ws' := [(hm, .inr (11, [.ref vFo, .ref vSi, .ref vIt, .ref vMo, .int 0, .ref vBy, .ref vTy, .int 0, .ref vMi, .int 0, .ref vPs, .int 0, .ref vGs, .int 0, .ref vFt, .int 0, .ref vTo, .int 0, .int 0, .int 0, .int 16777215, .int 0, .int 0, .ref vPr, .ref vSt, .ref vFn, .int 0, .ref vSg, .ref vAl, .int 0]))]) [0] (by decide) rfl
  have hFc := va_free (wc := [(hm, .inr (11, [.ref vFo, .ref vSi, .ref vIt, .ref vMo, .int 0, .ref vBy, .ref vTy, .int 0, .ref vMi, .int 0, .ref vPs, .int 0, .ref vGs, .int 0, .ref vFt, .int 0, .ref vTo, .int 0, .int 0, .int 0, .int 16777215, .int 0, .int 0, .ref vPr, .ref vSt, .ref vFn, .int 0, .ref vSg, .ref vAl, .int 0]))]) hD hS hA [0] rfl
  refine va_calli (va_runV (As := [.int f]) (rest := []) ⟨hx₀, hb, hml, hown, hts⟩ (m_isFlight l dC dI cI cJ cQ H.size hm f vFo vSi vIt vMo vBy vTy vMi vPs vGs vFt vTo vPr vSt vFn vSg vAl) (cwV 1 hts (kGV wd_528 wd_525 wd_526 wd_527 wd_5) rfl rfl rfl (by decide +kernel) ⟨Nat.le_of_ble_eq_true rfl, Nat.le_of_ble_eq_true rfl⟩) (k_preV (ci := 11) (q0 := 0) hK hPc hDc hN rfl rfl) rfl rfl hl.1 rfl (lv_room (Nat.le_of_ble_eq_true rfl)) dX12_climb_6 ⟨by decide +kernel, by decide +kernel⟩) hS (fun q _ h => hFc q h) hFc (fun r_2 u₀ t₀ H1 locs ht hvm hw hB hz1 hk1 hS => ?_)
  obtain ⟨hP1, hK1, hD1⟩ := hB
  rw [ht] at hP1
  obtain ⟨hP, hD⟩ := va_join (wr := [(vTy, .inl (cI, 3, .inl (fun _ => 0)))]) (w1 := [(hm, .inr (11, [.ref vFo, .ref vSi, .ref vIt, .ref vMo, .int 0, .ref vBy, .ref vTy, .int 0, .ref vMi, .int 0, .ref vPs, .int 0, .ref vGs, .int 0, .ref vFt, .int 0, .ref vTo, .int 0, .int 0, .int 0, .int 16777215, .int 0, .int 0, .ref vPr, .ref vSt, .ref vFn, .int 0, .ref vSg, .ref vAl, .int 0]))]) hP hD [0] [1] rfl rfl (by decide) (by decide) hk1 hFc hP1 hD1
  generalize H1 = H at hP hS ⊢
  have hP : va_P (dC, dI) vwCl [(vTy, .inl (cI, 3, .inl (fun _ => 0))), (hm, .inr (11, [.ref vFo, .ref vSi, .ref vIt, .ref vMo, .int 0, .ref vBy, .ref vTy, .int 0, .ref vMi, .int 0, .ref vPs, .int 0, .ref vGs, .int 0, .ref vFt, .int 0, .ref vTo, .int 0, .int 0, .int 0, .int 16777215, .int 0, .int 0, .ref vPr, .ref vSt, .ref vFn, .int 0, .ref vSg, .ref vAl, .int 0]))] H := hP
  have hD : va_D A [(vTy, .inl (cI, 3, .inl (fun _ => 0))), (hm, .inr (11, [.ref vFo, .ref vSi, .ref vIt, .ref vMo, .int 0, .ref vBy, .ref vTy, .int 0, .ref vMi, .int 0, .ref vPs, .int 0, .ref vGs, .int 0, .ref vFt, .int 0, .ref vTo, .int 0, .int 0, .int 0, .int 16777215, .int 0, .int 0, .ref vPr, .ref vSt, .ref vFn, .int 0, .ref vSg, .ref vAl, .int 0]))] := hD
  try dsimp only at hw
  refine k_topi (v := 0) hw ?_
  refine lv_if_eq (tgt := 35) hx₀ hb dX12_climb_9 (by decide) (fun _ => ?_) (fun c9 => absurd (by decide +kernel) c9)
  refine lv_bipush (v := (-2)) hx₀ hb dX12_climb_35 (by decide +kernel) ?_
  exact W.iret (v := (-2)) hx₀ hb hr (fun t₀ ht hW => ⟨⟨(-2), (), rfl, (by decide +kernel), trivial⟩, hS.F ht⟩) hS.2.2 dX12_climb_37
set_option maxHeartbeats 4000000 in
set_option maxRecDepth 100000 in
theorem m_practice (l : Launch) (dC : Nat → ClassId) (dI : Nat → Nat → Nat) (cI cJ cQ : ClassId) (sz : Nat) (hm : Nat) (f : Int32) (w : Int32) (vFo : Nat) (vSi : Nat) (vIt : Nat) (vMo : Nat) (vBy : Nat) (vTy : Nat) (vMi : Nat) (vPs : Nat) (vGs : Nat) (vFt : Nat) (vTo : Nat) (vPr : Nat) (vSt : Nat) (vFn : Nat) (vSg : Nat) (vAl : Nat) : Met l yX12_practice (kW yX12_practice cX12_practice 3 (some .int)) { frames := 2, cells := 0, slots := 0, locals := 46 } (kPre dC dI cI cJ cQ sz [.ref hm, .int f, .int w] [(hm, .inr (11, [.ref vFo, .ref vSi, .ref vIt, .ref vMo, .int 0, .ref vBy, .ref vTy, .int 0, .ref vMi, .int 0, .ref vPs, .int 0, .ref vGs, .int 0, .ref vFt, .int 0, .ref vTo, .int 0, .int 0, .int 0, .int 16777215, .int 0, .int 0, .ref vPr, .ref vSt, .ref vFn, .int 0, .ref vSg, .ref vAl, .int 0])), (vTy, .inl (cI, 3, .inl (fun _ => 0)))]) (va_Qi (fun (r : Int32) (_ : Unit) => r = -2) (fun _ _ => True) (va_A [(hm, .inr (11, [.ref vFo, .ref vSi, .ref vIt, .ref vMo, .int 0, .ref vBy, .ref vTy, .int 0, .ref vMi, .int 0, .ref vPs, .int 0, .ref vGs, .int 0, .ref vFt, .int 0, .ref vTo, .int 0, .int 0, .int 0, .int 16777215, .int 0, .int 0, .ref vPr, .ref vSt, .ref vFn, .int 0, .ref vSg, .ref vAl, .int 0])), (vTy, .inl (cI, 3, .inl (fun _ => 0)))] sz)) 0 0 (va_A [(hm, .inr (11, [.ref vFo, .ref vSi, .ref vIt, .ref vMo, .int 0, .ref vBy, .ref vTy, .int 0, .ref vMi, .int 0, .ref vPs, .int 0, .ref vGs, .int 0, .ref vFt, .int 0, .ref vTo, .int 0, .int 0, .int 0, .int 16777215, .int 0, .int 0, .ref vPr, .ref vSt, .ref vFn, .int 0, .ref vSg, .ref vAl, .int 0])), (vTy, .inl (cI, 3, .inl (fun _ => 0)))] sz) := by
  refine Met.ofW (cc := cX12_practice) (maxL := 3) (ret := (some .int)) (by decide) rfl ?_
  intro p₀ e₀ s₀ m₀ args below meth c₀ s₁ B hml hv₀
  obtain ⟨rfl, hsz, hP, hK, hD0, hN⟩ := hv₀
  have hx₀ := B.exec
  have hb := B.bytes
  have hr := B.returns
  have hts := atoms_spec (ws := (kW yX12_practice cX12_practice 3 (some .int))) B.pre
  have hts := fun w h => hts w (List.mem_cons_of_mem _ h)
  have hown : s₀.vm.findClass RX12 = some m₀.cls := findClass_of_methodNamed B.named
  have hlocks := B.notSynchronized
  subst hsz
  have hD := hD0.self (sz := s₀.heap.size)
  generalize hAe : va_A [(hm, .inr (11, [.ref vFo, .ref vSi, .ref vIt, .ref vMo, .int 0, .ref vBy, .ref vTy, .int 0, .ref vMi, .int 0, .ref vPs, .int 0, .ref vGs, .int 0, .ref vFt, .int 0, .ref vTo, .int 0, .int 0, .int 0, .int 16777215, .int 0, .int 0, .ref vPr, .ref vSt, .ref vFn, .int 0, .ref vSg, .ref vAl, .int 0])), (vTy, .inl (cI, 3, .inl (fun _ => 0)))] s₀.heap.size = A at hD ⊢
  have hA : ∀ q : Nat, s₀.heap.size ≤ q → A q := fun q h => by rw [← hAe]; exact Or.inr h
  have hS : va_S A s₀.heap s₀.heap [] := va_S.rf
  have hP : va_P (dC, dI) vwCl [(hm, .inr (11, [.ref vFo, .ref vSi, .ref vIt, .ref vMo, .int 0, .ref vBy, .ref vTy, .int 0, .ref vMi, .int 0, .ref vPs, .int 0, .ref vGs, .int 0, .ref vFt, .int 0, .ref vTo, .int 0, .int 0, .int 0, .int 16777215, .int 0, .int 0, .ref vPr, .ref vSt, .ref vFn, .int 0, .ref vSg, .ref vAl, .int 0])), (vTy, .inl (cI, 3, .inl (fun _ => 0)))] s₀.heap := hP
  have hl := lv_entry ([.ref hm, .int f, .int w]) (n := 3) (Nat.le_of_ble_eq_true rfl)
  rw [lg_entry_eq]
  generalize (lg_sl ([.ref hm, .int f, .int w]) ++ List.replicate (3 - (lg_sl ([.ref hm, .int f, .int w])).length) Slot.unset).toArray = ls at hl ⊢
  have hl : lv_has ls 3 [(0, .ref hm), (1, .int f), (2, .int w)] := hl
  obtain ⟨H, hH⟩ : ∃ z : Heap, z = s₀.heap := ⟨_, rfl⟩
  rw [← hH] at hP
  have hS : va_S A s₀.heap H [] := by rw [hH]; exact hS
  refine k_heap hH ?_
  have hD : va_D A [(hm, .inr (11, [.ref vFo, .ref vSi, .ref vIt, .ref vMo, .int 0, .ref vBy, .ref vTy, .int 0, .ref vMi, .int 0, .ref vPs, .int 0, .ref vGs, .int 0, .ref vFt, .int 0, .ref vTo, .int 0, .int 0, .int 0, .int 16777215, .int 0, .int 0, .ref vPr, .ref vSt, .ref vFn, .int 0, .ref vSg, .ref vAl, .int 0])), (vTy, .inl (cI, 3, .inl (fun _ => 0)))] := hD
  obtain ⟨locs, hlo⟩ : ∃ z : List Loc, z = [] := ⟨_, rfl⟩
  rw [← hlo] at hS ⊢
  clear hlo hH hAe hD0
  refine lv_aload_n hx₀ hb dX12_practice_0 rfl (lv_at hl 0 rfl) ?_
  have hPc := hP.sub (ws' := [(hm, .inr (11, [.ref vFo, .ref vSi, .ref vIt, .ref vMo, .int 0, .ref vBy, .ref vTy, .int 0, .ref vMi, .int 0, .ref vPs, .int 0, .ref vGs, .int 0, .ref vFt, .int 0, .ref vTo, .int 0, .int 0, .int 0, .int 16777215, .int 0, .int 0, .ref vPr, .ref vSt, .ref vFn, .int 0, .ref vSg, .ref vAl, .int 0])), (vTy, .inl (cI, 3, .inl (fun _ => 0)))]) [0, 1] rfl
  have hDc := hD.sub (ws' := [(hm, .inr (11, [.ref vFo, .ref vSi, .ref vIt, .ref vMo, .int 0, .ref vBy, .ref vTy, .int 0, .ref vMi, .int 0, .ref vPs, .int 0, .ref vGs, .int 0, .ref vFt, .int 0, .ref vTo, .int 0, .int 0, .int 0, .int 16777215, .int 0, .int 0, .ref vPr, .ref vSt, .ref vFn, .int 0, .ref vSg, .ref vAl, .int 0])), (vTy, .inl (cI, 3, .inl (fun _ => 0)))]) [0, 1] (by decide) rfl
  have hFc := va_free (wc := [(hm, .inr (11, [.ref vFo, .ref vSi, .ref vIt, .ref vMo, .int 0, .ref vBy, .ref vTy, .int 0, .ref vMi, .int 0, .ref vPs, .int 0, .ref vGs, .int 0, .ref vFt, .int 0, .ref vTo, .int 0, .int 0, .int 0, .int 16777215, .int 0, .int 0, .ref vPr, .ref vSt, .ref vFn, .int 0, .ref vSg, .ref vAl, .int 0])), (vTy, .inl (cI, 3, .inl (fun _ => 0)))]) hD hS hA [0, 1] rfl
  refine va_callv (va_runV (As := []) (rest := []) ⟨hx₀, hb, hml, hown, hts⟩ (m_reads l dC dI cI cJ cQ H.size hm vFo vSi vIt vMo vBy vTy vMi vPs vGs vFt vTo vPr vSt vFn vSg vAl) (cwV 0 hts (kGV wd_298 wd_295 wd_296 wd_297 wd_5) rfl rfl rfl (by decide +kernel) ⟨Nat.le_of_ble_eq_true rfl, Nat.le_of_ble_eq_true rfl⟩) (k_preV (ci := 11) (q0 := 0) hK hPc hDc hN rfl rfl) rfl rfl hl.1 rfl (lv_room (Nat.le_of_ble_eq_true rfl)) dX12_practice_1 ⟨by decide +kernel, by decide +kernel⟩) hS (fun q _ h => hFc q h) hFc (fun u₀ t₀ H1 locs ht hvm hw hB hz1 hk1 hS => ?_)
  obtain ⟨hP1, hK1, hD1⟩ := hB
  rw [ht] at hP1
  obtain ⟨hP, hD⟩ := va_join (wr := []) (w1 := [(hm, .inr (11, [.ref vFo, .ref vSi, .ref vIt, .ref vMo, .int 0, .ref vBy, .ref vTy, .int 0, .ref vMi, .int 0, .ref vPs, .int 0, .ref vGs, .int 0, .ref vFt, .int 0, .ref vTo, .int 0, .int 0, .int 0, .int 16777215, .int 0, .int 0, .ref vPr, .ref vSt, .ref vFn, .int 0, .ref vSg, .ref vAl, .int 0])), (vTy, .inl (cI, 3, .inl (fun _ => 0)))]) hP hD [0, 1] [] rfl rfl (by decide) (by decide) hk1 hFc hP1 hD1
  generalize H1 = H at hP hS ⊢
  have hP : va_P (dC, dI) vwCl [(hm, .inr (11, [.ref vFo, .ref vSi, .ref vIt, .ref vMo, .int 0, .ref vBy, .ref vTy, .int 0, .ref vMi, .int 0, .ref vPs, .int 0, .ref vGs, .int 0, .ref vFt, .int 0, .ref vTo, .int 0, .int 0, .int 0, .int 16777215, .int 0, .int 0, .ref vPr, .ref vSt, .ref vFn, .int 0, .ref vSg, .ref vAl, .int 0])), (vTy, .inl (cI, 3, .inl (fun _ => 0)))] H := hP
  have hD : va_D A [(hm, .inr (11, [.ref vFo, .ref vSi, .ref vIt, .ref vMo, .int 0, .ref vBy, .ref vTy, .int 0, .ref vMi, .int 0, .ref vPs, .int 0, .ref vGs, .int 0, .ref vFt, .int 0, .ref vTo, .int 0, .int 0, .int 0, .int 16777215, .int 0, .int 0, .ref vPr, .ref vSt, .ref vFn, .int 0, .ref vSg, .ref vAl, .int 0])), (vTy, .inl (cI, 3, .inl (fun _ => 0)))] := hD
  refine lv_aload_n hx₀ hb dX12_practice_4 rfl (lv_at hl 0 rfl) ?_
  refine lv_iload_n hx₀ hb dX12_practice_5 rfl (lv_at hl 1 rfl) ?_
  have hPc := hP.sub (ws' := [(hm, .inr (11, [.ref vFo, .ref vSi, .ref vIt, .ref vMo, .int 0, .ref vBy, .ref vTy, .int 0, .ref vMi, .int 0, .ref vPs, .int 0, .ref vGs, .int 0, .ref vFt, .int 0, .ref vTo, .int 0, .int 0, .int 0, .int 16777215, .int 0, .int 0, .ref vPr, .ref vSt, .ref vFn, .int 0, .ref vSg, .ref vAl, .int 0]))]) [0] rfl
  have hDc := hD.sub (ws' := [(hm, .inr (11, [.ref vFo, .ref vSi, .ref vIt, .ref vMo, .int 0, .ref vBy, .ref vTy, .int 0, .ref vMi, .int 0, .ref vPs, .int 0, .ref vGs, .int 0, .ref vFt, .int 0, .ref vTo, .int 0, .int 0, .int 0, .int 16777215, .int 0, .int 0, .ref vPr, .ref vSt, .ref vFn, .int 0, .ref vSg, .ref vAl, .int 0]))]) [0] (by decide) rfl
  have hFc := va_free (wc := [(hm, .inr (11, [.ref vFo, .ref vSi, .ref vIt, .ref vMo, .int 0, .ref vBy, .ref vTy, .int 0, .ref vMi, .int 0, .ref vPs, .int 0, .ref vGs, .int 0, .ref vFt, .int 0, .ref vTo, .int 0, .int 0, .int 0, .int 16777215, .int 0, .int 0, .ref vPr, .ref vSt, .ref vFn, .int 0, .ref vSg, .ref vAl, .int 0]))]) hD hS hA [0] rfl
  refine va_calli (va_runV (As := [.int f]) (rest := []) ⟨hx₀, hb, hml, hown, hts⟩ (m_isFlight l dC dI cI cJ cQ H.size hm f vFo vSi vIt vMo vBy vTy vMi vPs vGs vFt vTo vPr vSt vFn vSg vAl) (cwV 1 hts (kGV wd_528 wd_525 wd_526 wd_527 wd_5) rfl rfl rfl (by decide +kernel) ⟨Nat.le_of_ble_eq_true rfl, Nat.le_of_ble_eq_true rfl⟩) (k_preV (ci := 11) (q0 := 0) hK hPc hDc hN rfl rfl) rfl rfl hl.1 rfl (lv_room (Nat.le_of_ble_eq_true rfl)) dX12_practice_6 ⟨by decide +kernel, by decide +kernel⟩) hS (fun q _ h => hFc q h) hFc (fun r_2 u₀ t₀ H1 locs ht hvm hw hB hz1 hk1 hS => ?_)
  obtain ⟨hP1, hK1, hD1⟩ := hB
  rw [ht] at hP1
  obtain ⟨hP, hD⟩ := va_join (wr := [(vTy, .inl (cI, 3, .inl (fun _ => 0)))]) (w1 := [(hm, .inr (11, [.ref vFo, .ref vSi, .ref vIt, .ref vMo, .int 0, .ref vBy, .ref vTy, .int 0, .ref vMi, .int 0, .ref vPs, .int 0, .ref vGs, .int 0, .ref vFt, .int 0, .ref vTo, .int 0, .int 0, .int 0, .int 16777215, .int 0, .int 0, .ref vPr, .ref vSt, .ref vFn, .int 0, .ref vSg, .ref vAl, .int 0]))]) hP hD [0] [1] rfl rfl (by decide) (by decide) hk1 hFc hP1 hD1
  generalize H1 = H at hP hS ⊢
  have hP : va_P (dC, dI) vwCl [(vTy, .inl (cI, 3, .inl (fun _ => 0))), (hm, .inr (11, [.ref vFo, .ref vSi, .ref vIt, .ref vMo, .int 0, .ref vBy, .ref vTy, .int 0, .ref vMi, .int 0, .ref vPs, .int 0, .ref vGs, .int 0, .ref vFt, .int 0, .ref vTo, .int 0, .int 0, .int 0, .int 16777215, .int 0, .int 0, .ref vPr, .ref vSt, .ref vFn, .int 0, .ref vSg, .ref vAl, .int 0]))] H := hP
  have hD : va_D A [(vTy, .inl (cI, 3, .inl (fun _ => 0))), (hm, .inr (11, [.ref vFo, .ref vSi, .ref vIt, .ref vMo, .int 0, .ref vBy, .ref vTy, .int 0, .ref vMi, .int 0, .ref vPs, .int 0, .ref vGs, .int 0, .ref vFt, .int 0, .ref vTo, .int 0, .int 0, .int 0, .int 16777215, .int 0, .int 0, .ref vPr, .ref vSt, .ref vFn, .int 0, .ref vSg, .ref vAl, .int 0]))] := hD
  try dsimp only at hw
  refine k_topi (v := 0) hw ?_
  refine lv_if_eq (tgt := 28) hx₀ hb dX12_practice_9 (by decide) (fun _ => ?_) (fun c9 => absurd (by decide +kernel) c9)
  refine lv_bipush (v := (-2)) hx₀ hb dX12_practice_28 (by decide +kernel) ?_
  exact W.iret (v := (-2)) hx₀ hb hr (fun t₀ ht hW => ⟨⟨(-2), (), rfl, (by decide +kernel), trivial⟩, hS.F ht⟩) hS.2.2 dX12_practice_30
set_option maxHeartbeats 4000000 in
set_option maxRecDepth 100000 in
theorem m_pair (l : Launch) (dC : Nat → ClassId) (dI : Nat → Nat → Nat) (cI cJ cQ : ClassId) (sz : Nat) (hm : Nat) (f : Int32) (w : Int32) (vFo : Nat) (vSi : Nat) (vIt : Nat) (vMo : Nat) (vBy : Nat) (vTy : Nat) (vMi : Nat) (vPs : Nat) (vGs : Nat) (vFt : Nat) (vTo : Nat) (vPr : Nat) (vSt : Nat) (vFn : Nat) (vSg : Nat) (vAl : Nat) : Met l yX12_pair (kW yX12_pair cX12_pair 3 (some .int)) { frames := 2, cells := 0, slots := 0, locals := 46 } (kPre dC dI cI cJ cQ sz [.ref hm, .int f, .int w] [(hm, .inr (11, [.ref vFo, .ref vSi, .ref vIt, .ref vMo, .int 0, .ref vBy, .ref vTy, .int 0, .ref vMi, .int 0, .ref vPs, .int 0, .ref vGs, .int 0, .ref vFt, .int 0, .ref vTo, .int 0, .int 0, .int 0, .int 16777215, .int 0, .int 0, .ref vPr, .ref vSt, .ref vFn, .int 0, .ref vSg, .ref vAl, .int 0])), (vTy, .inl (cI, 3, .inl (fun _ => 0)))]) (va_Qi (fun (r : Int32) (_ : Unit) => r = -2) (fun _ _ => True) (va_A [(hm, .inr (11, [.ref vFo, .ref vSi, .ref vIt, .ref vMo, .int 0, .ref vBy, .ref vTy, .int 0, .ref vMi, .int 0, .ref vPs, .int 0, .ref vGs, .int 0, .ref vFt, .int 0, .ref vTo, .int 0, .int 0, .int 0, .int 16777215, .int 0, .int 0, .ref vPr, .ref vSt, .ref vFn, .int 0, .ref vSg, .ref vAl, .int 0])), (vTy, .inl (cI, 3, .inl (fun _ => 0)))] sz)) 0 0 (va_A [(hm, .inr (11, [.ref vFo, .ref vSi, .ref vIt, .ref vMo, .int 0, .ref vBy, .ref vTy, .int 0, .ref vMi, .int 0, .ref vPs, .int 0, .ref vGs, .int 0, .ref vFt, .int 0, .ref vTo, .int 0, .int 0, .int 0, .int 16777215, .int 0, .int 0, .ref vPr, .ref vSt, .ref vFn, .int 0, .ref vSg, .ref vAl, .int 0])), (vTy, .inl (cI, 3, .inl (fun _ => 0)))] sz) := by
  refine Met.ofW (cc := cX12_pair) (maxL := 3) (ret := (some .int)) (by decide) rfl ?_
  intro p₀ e₀ s₀ m₀ args below meth c₀ s₁ B hml hv₀
  obtain ⟨rfl, hsz, hP, hK, hD0, hN⟩ := hv₀
  have hx₀ := B.exec
  have hb := B.bytes
  have hr := B.returns
  have hts := atoms_spec (ws := (kW yX12_pair cX12_pair 3 (some .int))) B.pre
  have hts := fun w h => hts w (List.mem_cons_of_mem _ h)
  have hown : s₀.vm.findClass RX12 = some m₀.cls := findClass_of_methodNamed B.named
  have hlocks := B.notSynchronized
  subst hsz
  have hD := hD0.self (sz := s₀.heap.size)
  generalize hAe : va_A [(hm, .inr (11, [.ref vFo, .ref vSi, .ref vIt, .ref vMo, .int 0, .ref vBy, .ref vTy, .int 0, .ref vMi, .int 0, .ref vPs, .int 0, .ref vGs, .int 0, .ref vFt, .int 0, .ref vTo, .int 0, .int 0, .int 0, .int 16777215, .int 0, .int 0, .ref vPr, .ref vSt, .ref vFn, .int 0, .ref vSg, .ref vAl, .int 0])), (vTy, .inl (cI, 3, .inl (fun _ => 0)))] s₀.heap.size = A at hD ⊢
  have hA : ∀ q : Nat, s₀.heap.size ≤ q → A q := fun q h => by rw [← hAe]; exact Or.inr h
  have hS : va_S A s₀.heap s₀.heap [] := va_S.rf
  have hP : va_P (dC, dI) vwCl [(hm, .inr (11, [.ref vFo, .ref vSi, .ref vIt, .ref vMo, .int 0, .ref vBy, .ref vTy, .int 0, .ref vMi, .int 0, .ref vPs, .int 0, .ref vGs, .int 0, .ref vFt, .int 0, .ref vTo, .int 0, .int 0, .int 0, .int 16777215, .int 0, .int 0, .ref vPr, .ref vSt, .ref vFn, .int 0, .ref vSg, .ref vAl, .int 0])), (vTy, .inl (cI, 3, .inl (fun _ => 0)))] s₀.heap := hP
  have hl := lv_entry ([.ref hm, .int f, .int w]) (n := 3) (Nat.le_of_ble_eq_true rfl)
  rw [lg_entry_eq]
  generalize (lg_sl ([.ref hm, .int f, .int w]) ++ List.replicate (3 - (lg_sl ([.ref hm, .int f, .int w])).length) Slot.unset).toArray = ls at hl ⊢
  have hl : lv_has ls 3 [(0, .ref hm), (1, .int f), (2, .int w)] := hl
  obtain ⟨H, hH⟩ : ∃ z : Heap, z = s₀.heap := ⟨_, rfl⟩
  rw [← hH] at hP
  have hS : va_S A s₀.heap H [] := by rw [hH]; exact hS
  refine k_heap hH ?_
  have hD : va_D A [(hm, .inr (11, [.ref vFo, .ref vSi, .ref vIt, .ref vMo, .int 0, .ref vBy, .ref vTy, .int 0, .ref vMi, .int 0, .ref vPs, .int 0, .ref vGs, .int 0, .ref vFt, .int 0, .ref vTo, .int 0, .int 0, .int 0, .int 16777215, .int 0, .int 0, .ref vPr, .ref vSt, .ref vFn, .int 0, .ref vSg, .ref vAl, .int 0])), (vTy, .inl (cI, 3, .inl (fun _ => 0)))] := hD
  obtain ⟨locs, hlo⟩ : ∃ z : List Loc, z = [] := ⟨_, rfl⟩
  rw [← hlo] at hS ⊢
  clear hlo hH hAe hD0
  refine lv_aload_n hx₀ hb dX12_pair_0 rfl (lv_at hl 0 rfl) ?_
  have hPc := hP.sub (ws' := [(hm, .inr (11, [.ref vFo, .ref vSi, .ref vIt, .ref vMo, .int 0, .ref vBy, .ref vTy, .int 0, .ref vMi, .int 0, .ref vPs, .int 0, .ref vGs, .int 0, .ref vFt, .int 0, .ref vTo, .int 0, .int 0, .int 0, .int 16777215, .int 0, .int 0, .ref vPr, .ref vSt, .ref vFn, .int 0, .ref vSg, .ref vAl, .int 0])), (vTy, .inl (cI, 3, .inl (fun _ => 0)))]) [0, 1] rfl
  have hDc := hD.sub (ws' := [(hm, .inr (11, [.ref vFo, .ref vSi, .ref vIt, .ref vMo, .int 0, .ref vBy, .ref vTy, .int 0, .ref vMi, .int 0, .ref vPs, .int 0, .ref vGs, .int 0, .ref vFt, .int 0, .ref vTo, .int 0, .int 0, .int 0, .int 16777215, .int 0, .int 0, .ref vPr, .ref vSt, .ref vFn, .int 0, .ref vSg, .ref vAl, .int 0])), (vTy, .inl (cI, 3, .inl (fun _ => 0)))]) [0, 1] (by decide) rfl
  have hFc := va_free (wc := [(hm, .inr (11, [.ref vFo, .ref vSi, .ref vIt, .ref vMo, .int 0, .ref vBy, .ref vTy, .int 0, .ref vMi, .int 0, .ref vPs, .int 0, .ref vGs, .int 0, .ref vFt, .int 0, .ref vTo, .int 0, .int 0, .int 0, .int 16777215, .int 0, .int 0, .ref vPr, .ref vSt, .ref vFn, .int 0, .ref vSg, .ref vAl, .int 0])), (vTy, .inl (cI, 3, .inl (fun _ => 0)))]) hD hS hA [0, 1] rfl
  refine va_callv (va_runV (As := []) (rest := []) ⟨hx₀, hb, hml, hown, hts⟩ (m_reads l dC dI cI cJ cQ H.size hm vFo vSi vIt vMo vBy vTy vMi vPs vGs vFt vTo vPr vSt vFn vSg vAl) (cwV 0 hts (kGV wd_298 wd_295 wd_296 wd_297 wd_5) rfl rfl rfl (by decide +kernel) ⟨Nat.le_of_ble_eq_true rfl, Nat.le_of_ble_eq_true rfl⟩) (k_preV (ci := 11) (q0 := 0) hK hPc hDc hN rfl rfl) rfl rfl hl.1 rfl (lv_room (Nat.le_of_ble_eq_true rfl)) dX12_pair_1 ⟨by decide +kernel, by decide +kernel⟩) hS (fun q _ h => hFc q h) hFc (fun u₀ t₀ H1 locs ht hvm hw hB hz1 hk1 hS => ?_)
  obtain ⟨hP1, hK1, hD1⟩ := hB
  rw [ht] at hP1
  obtain ⟨hP, hD⟩ := va_join (wr := []) (w1 := [(hm, .inr (11, [.ref vFo, .ref vSi, .ref vIt, .ref vMo, .int 0, .ref vBy, .ref vTy, .int 0, .ref vMi, .int 0, .ref vPs, .int 0, .ref vGs, .int 0, .ref vFt, .int 0, .ref vTo, .int 0, .int 0, .int 0, .int 16777215, .int 0, .int 0, .ref vPr, .ref vSt, .ref vFn, .int 0, .ref vSg, .ref vAl, .int 0])), (vTy, .inl (cI, 3, .inl (fun _ => 0)))]) hP hD [0, 1] [] rfl rfl (by decide) (by decide) hk1 hFc hP1 hD1
  generalize H1 = H at hP hS ⊢
  have hP : va_P (dC, dI) vwCl [(hm, .inr (11, [.ref vFo, .ref vSi, .ref vIt, .ref vMo, .int 0, .ref vBy, .ref vTy, .int 0, .ref vMi, .int 0, .ref vPs, .int 0, .ref vGs, .int 0, .ref vFt, .int 0, .ref vTo, .int 0, .int 0, .int 0, .int 16777215, .int 0, .int 0, .ref vPr, .ref vSt, .ref vFn, .int 0, .ref vSg, .ref vAl, .int 0])), (vTy, .inl (cI, 3, .inl (fun _ => 0)))] H := hP
  have hD : va_D A [(hm, .inr (11, [.ref vFo, .ref vSi, .ref vIt, .ref vMo, .int 0, .ref vBy, .ref vTy, .int 0, .ref vMi, .int 0, .ref vPs, .int 0, .ref vGs, .int 0, .ref vFt, .int 0, .ref vTo, .int 0, .int 0, .int 0, .int 16777215, .int 0, .int 0, .ref vPr, .ref vSt, .ref vFn, .int 0, .ref vSg, .ref vAl, .int 0])), (vTy, .inl (cI, 3, .inl (fun _ => 0)))] := hD
  refine lv_aload_n hx₀ hb dX12_pair_4 rfl (lv_at hl 0 rfl) ?_
  refine lv_iload_n hx₀ hb dX12_pair_5 rfl (lv_at hl 1 rfl) ?_
  have hPc := hP.sub (ws' := [(hm, .inr (11, [.ref vFo, .ref vSi, .ref vIt, .ref vMo, .int 0, .ref vBy, .ref vTy, .int 0, .ref vMi, .int 0, .ref vPs, .int 0, .ref vGs, .int 0, .ref vFt, .int 0, .ref vTo, .int 0, .int 0, .int 0, .int 16777215, .int 0, .int 0, .ref vPr, .ref vSt, .ref vFn, .int 0, .ref vSg, .ref vAl, .int 0]))]) [0] rfl
  have hDc := hD.sub (ws' := [(hm, .inr (11, [.ref vFo, .ref vSi, .ref vIt, .ref vMo, .int 0, .ref vBy, .ref vTy, .int 0, .ref vMi, .int 0, .ref vPs, .int 0, .ref vGs, .int 0, .ref vFt, .int 0, .ref vTo, .int 0, .int 0, .int 0, .int 16777215, .int 0, .int 0, .ref vPr, .ref vSt, .ref vFn, .int 0, .ref vSg, .ref vAl, .int 0]))]) [0] (by decide) rfl
  have hFc := va_free (wc := [(hm, .inr (11, [.ref vFo, .ref vSi, .ref vIt, .ref vMo, .int 0, .ref vBy, .ref vTy, .int 0, .ref vMi, .int 0, .ref vPs, .int 0, .ref vGs, .int 0, .ref vFt, .int 0, .ref vTo, .int 0, .int 0, .int 0, .int 16777215, .int 0, .int 0, .ref vPr, .ref vSt, .ref vFn, .int 0, .ref vSg, .ref vAl, .int 0]))]) hD hS hA [0] rfl
  refine va_calli (va_runV (As := [.int f]) (rest := []) ⟨hx₀, hb, hml, hown, hts⟩ (m_isFlight l dC dI cI cJ cQ H.size hm f vFo vSi vIt vMo vBy vTy vMi vPs vGs vFt vTo vPr vSt vFn vSg vAl) (cwV 1 hts (kGV wd_528 wd_525 wd_526 wd_527 wd_5) rfl rfl rfl (by decide +kernel) ⟨Nat.le_of_ble_eq_true rfl, Nat.le_of_ble_eq_true rfl⟩) (k_preV (ci := 11) (q0 := 0) hK hPc hDc hN rfl rfl) rfl rfl hl.1 rfl (lv_room (Nat.le_of_ble_eq_true rfl)) dX12_pair_6 ⟨by decide +kernel, by decide +kernel⟩) hS (fun q _ h => hFc q h) hFc (fun r_2 u₀ t₀ H1 locs ht hvm hw hB hz1 hk1 hS => ?_)
  obtain ⟨hP1, hK1, hD1⟩ := hB
  rw [ht] at hP1
  obtain ⟨hP, hD⟩ := va_join (wr := [(vTy, .inl (cI, 3, .inl (fun _ => 0)))]) (w1 := [(hm, .inr (11, [.ref vFo, .ref vSi, .ref vIt, .ref vMo, .int 0, .ref vBy, .ref vTy, .int 0, .ref vMi, .int 0, .ref vPs, .int 0, .ref vGs, .int 0, .ref vFt, .int 0, .ref vTo, .int 0, .int 0, .int 0, .int 16777215, .int 0, .int 0, .ref vPr, .ref vSt, .ref vFn, .int 0, .ref vSg, .ref vAl, .int 0]))]) hP hD [0] [1] rfl rfl (by decide) (by decide) hk1 hFc hP1 hD1
  generalize H1 = H at hP hS ⊢
  have hP : va_P (dC, dI) vwCl [(vTy, .inl (cI, 3, .inl (fun _ => 0))), (hm, .inr (11, [.ref vFo, .ref vSi, .ref vIt, .ref vMo, .int 0, .ref vBy, .ref vTy, .int 0, .ref vMi, .int 0, .ref vPs, .int 0, .ref vGs, .int 0, .ref vFt, .int 0, .ref vTo, .int 0, .int 0, .int 0, .int 16777215, .int 0, .int 0, .ref vPr, .ref vSt, .ref vFn, .int 0, .ref vSg, .ref vAl, .int 0]))] H := hP
  have hD : va_D A [(vTy, .inl (cI, 3, .inl (fun _ => 0))), (hm, .inr (11, [.ref vFo, .ref vSi, .ref vIt, .ref vMo, .int 0, .ref vBy, .ref vTy, .int 0, .ref vMi, .int 0, .ref vPs, .int 0, .ref vGs, .int 0, .ref vFt, .int 0, .ref vTo, .int 0, .int 0, .int 0, .int 16777215, .int 0, .int 0, .ref vPr, .ref vSt, .ref vFn, .int 0, .ref vSg, .ref vAl, .int 0]))] := hD
  try dsimp only at hw
  refine k_topi (v := 0) hw ?_
  refine lv_if_eq (tgt := 28) hx₀ hb dX12_pair_9 (by decide) (fun _ => ?_) (fun c9 => absurd (by decide +kernel) c9)
  refine lv_bipush (v := (-2)) hx₀ hb dX12_pair_28 (by decide +kernel) ?_
  exact W.iret (v := (-2)) hx₀ hb hr (fun t₀ ht hW => ⟨⟨(-2), (), rfl, (by decide +kernel), trivial⟩, hS.F ht⟩) hS.2.2 dX12_pair_30
set_option maxHeartbeats 4000000 in
set_option maxRecDepth 100000 in
theorem m_high (l : Launch) (dC : Nat → ClassId) (dI : Nat → Nat → Nat) (cI cJ cQ : ClassId) (sz : Nat) (hm : Nat) (f : Int32) (vFo : Nat) (vSi : Nat) (vIt : Nat) (vMo : Nat) (vBy : Nat) (vTy : Nat) (vMi : Nat) (vPs : Nat) (vGs : Nat) (vFt : Nat) (vTo : Nat) (vPr : Nat) (vSt : Nat) (vFn : Nat) (vSg : Nat) (vAl : Nat) : Met l yX12_high (kW yX12_high cX12_high 2 (some .int)) { frames := 2, cells := 0, slots := 0, locals := 46 } (kPre dC dI cI cJ cQ sz [.ref hm, .int f] [(hm, .inr (11, [.ref vFo, .ref vSi, .ref vIt, .ref vMo, .int 0, .ref vBy, .ref vTy, .int 0, .ref vMi, .int 0, .ref vPs, .int 0, .ref vGs, .int 0, .ref vFt, .int 0, .ref vTo, .int 0, .int 0, .int 0, .int 16777215, .int 0, .int 0, .ref vPr, .ref vSt, .ref vFn, .int 0, .ref vSg, .ref vAl, .int 0])), (vTy, .inl (cI, 3, .inl (fun _ => 0)))]) (va_Qi (fun (r : Int32) (_ : Unit) => r = -2) (fun _ _ => True) (va_A [(hm, .inr (11, [.ref vFo, .ref vSi, .ref vIt, .ref vMo, .int 0, .ref vBy, .ref vTy, .int 0, .ref vMi, .int 0, .ref vPs, .int 0, .ref vGs, .int 0, .ref vFt, .int 0, .ref vTo, .int 0, .int 0, .int 0, .int 16777215, .int 0, .int 0, .ref vPr, .ref vSt, .ref vFn, .int 0, .ref vSg, .ref vAl, .int 0])), (vTy, .inl (cI, 3, .inl (fun _ => 0)))] sz)) 0 0 (va_A [(hm, .inr (11, [.ref vFo, .ref vSi, .ref vIt, .ref vMo, .int 0, .ref vBy, .ref vTy, .int 0, .ref vMi, .int 0, .ref vPs, .int 0, .ref vGs, .int 0, .ref vFt, .int 0, .ref vTo, .int 0, .int 0, .int 0, .int 16777215, .int 0, .int 0, .ref vPr, .ref vSt, .ref vFn, .int 0, .ref vSg, .ref vAl, .int 0])), (vTy, .inl (cI, 3, .inl (fun _ => 0)))] sz) := by
  refine Met.ofW (cc := cX12_high) (maxL := 2) (ret := (some .int)) (by decide) rfl ?_
  intro p₀ e₀ s₀ m₀ args below meth c₀ s₁ B hml hv₀
  obtain ⟨rfl, hsz, hP, hK, hD0, hN⟩ := hv₀
  have hx₀ := B.exec
  have hb := B.bytes
  have hr := B.returns
  have hts := atoms_spec (ws := (kW yX12_high cX12_high 2 (some .int))) B.pre
  have hts := fun w h => hts w (List.mem_cons_of_mem _ h)
  have hown : s₀.vm.findClass RX12 = some m₀.cls := findClass_of_methodNamed B.named
  have hlocks := B.notSynchronized
  subst hsz
  have hD := hD0.self (sz := s₀.heap.size)
  generalize hAe : va_A [(hm, .inr (11, [.ref vFo, .ref vSi, .ref vIt, .ref vMo, .int 0, .ref vBy, .ref vTy, .int 0, .ref vMi, .int 0, .ref vPs, .int 0, .ref vGs, .int 0, .ref vFt, .int 0, .ref vTo, .int 0, .int 0, .int 0, .int 16777215, .int 0, .int 0, .ref vPr, .ref vSt, .ref vFn, .int 0, .ref vSg, .ref vAl, .int 0])), (vTy, .inl (cI, 3, .inl (fun _ => 0)))] s₀.heap.size = A at hD ⊢
  have hA : ∀ q : Nat, s₀.heap.size ≤ q → A q := fun q h => by rw [← hAe]; exact Or.inr h
  have hS : va_S A s₀.heap s₀.heap [] := va_S.rf
  have hP : va_P (dC, dI) vwCl [(hm, .inr (11, [.ref vFo, .ref vSi, .ref vIt, .ref vMo, .int 0, .ref vBy, .ref vTy, .int 0, .ref vMi, .int 0, .ref vPs, .int 0, .ref vGs, .int 0, .ref vFt, .int 0, .ref vTo, .int 0, .int 0, .int 0, .int 16777215, .int 0, .int 0, .ref vPr, .ref vSt, .ref vFn, .int 0, .ref vSg, .ref vAl, .int 0])), (vTy, .inl (cI, 3, .inl (fun _ => 0)))] s₀.heap := hP
  have hl := lv_entry ([.ref hm, .int f]) (n := 2) (Nat.le_of_ble_eq_true rfl)
  rw [lg_entry_eq]
  generalize (lg_sl ([.ref hm, .int f]) ++ List.replicate (2 - (lg_sl ([.ref hm, .int f])).length) Slot.unset).toArray = ls at hl ⊢
  have hl : lv_has ls 2 [(0, .ref hm), (1, .int f)] := hl
  obtain ⟨H, hH⟩ : ∃ z : Heap, z = s₀.heap := ⟨_, rfl⟩
  rw [← hH] at hP
  have hS : va_S A s₀.heap H [] := by rw [hH]; exact hS
  refine k_heap hH ?_
  have hD : va_D A [(hm, .inr (11, [.ref vFo, .ref vSi, .ref vIt, .ref vMo, .int 0, .ref vBy, .ref vTy, .int 0, .ref vMi, .int 0, .ref vPs, .int 0, .ref vGs, .int 0, .ref vFt, .int 0, .ref vTo, .int 0, .int 0, .int 0, .int 16777215, .int 0, .int 0, .ref vPr, .ref vSt, .ref vFn, .int 0, .ref vSg, .ref vAl, .int 0])), (vTy, .inl (cI, 3, .inl (fun _ => 0)))] := hD
  obtain ⟨locs, hlo⟩ : ∃ z : List Loc, z = [] := ⟨_, rfl⟩
  rw [← hlo] at hS ⊢
  clear hlo hH hAe hD0
  refine lv_aload_n hx₀ hb dX12_high_0 rfl (lv_at hl 0 rfl) ?_
  have hPc := hP.sub (ws' := [(hm, .inr (11, [.ref vFo, .ref vSi, .ref vIt, .ref vMo, .int 0, .ref vBy, .ref vTy, .int 0, .ref vMi, .int 0, .ref vPs, .int 0, .ref vGs, .int 0, .ref vFt, .int 0, .ref vTo, .int 0, .int 0, .int 0, .int 16777215, .int 0, .int 0, .ref vPr, .ref vSt, .ref vFn, .int 0, .ref vSg, .ref vAl, .int 0])), (vTy, .inl (cI, 3, .inl (fun _ => 0)))]) [0, 1] rfl
  have hDc := hD.sub (ws' := [(hm, .inr (11, [.ref vFo, .ref vSi, .ref vIt, .ref vMo, .int 0, .ref vBy, .ref vTy, .int 0, .ref vMi, .int 0, .ref vPs, .int 0, .ref vGs, .int 0, .ref vFt, .int 0, .ref vTo, .int 0, .int 0, .int 0, .int 16777215, .int 0, .int 0, .ref vPr, .ref vSt, .ref vFn, .int 0, .ref vSg, .ref vAl, .int 0])), (vTy, .inl (cI, 3, .inl (fun _ => 0)))]) [0, 1] (by decide) rfl
  have hFc := va_free (wc := [(hm, .inr (11, [.ref vFo, .ref vSi, .ref vIt, .ref vMo, .int 0, .ref vBy, .ref vTy, .int 0, .ref vMi, .int 0, .ref vPs, .int 0, .ref vGs, .int 0, .ref vFt, .int 0, .ref vTo, .int 0, .int 0, .int 0, .int 16777215, .int 0, .int 0, .ref vPr, .ref vSt, .ref vFn, .int 0, .ref vSg, .ref vAl, .int 0])), (vTy, .inl (cI, 3, .inl (fun _ => 0)))]) hD hS hA [0, 1] rfl
  refine va_callv (va_runV (As := []) (rest := []) ⟨hx₀, hb, hml, hown, hts⟩ (m_reads l dC dI cI cJ cQ H.size hm vFo vSi vIt vMo vBy vTy vMi vPs vGs vFt vTo vPr vSt vFn vSg vAl) (cwV 0 hts (kGV wd_298 wd_295 wd_296 wd_297 wd_5) rfl rfl rfl (by decide +kernel) ⟨Nat.le_of_ble_eq_true rfl, Nat.le_of_ble_eq_true rfl⟩) (k_preV (ci := 11) (q0 := 0) hK hPc hDc hN rfl rfl) rfl rfl hl.1 rfl (lv_room (Nat.le_of_ble_eq_true rfl)) dX12_high_1 ⟨by decide +kernel, by decide +kernel⟩) hS (fun q _ h => hFc q h) hFc (fun u₀ t₀ H1 locs ht hvm hw hB hz1 hk1 hS => ?_)
  obtain ⟨hP1, hK1, hD1⟩ := hB
  rw [ht] at hP1
  obtain ⟨hP, hD⟩ := va_join (wr := []) (w1 := [(hm, .inr (11, [.ref vFo, .ref vSi, .ref vIt, .ref vMo, .int 0, .ref vBy, .ref vTy, .int 0, .ref vMi, .int 0, .ref vPs, .int 0, .ref vGs, .int 0, .ref vFt, .int 0, .ref vTo, .int 0, .int 0, .int 0, .int 16777215, .int 0, .int 0, .ref vPr, .ref vSt, .ref vFn, .int 0, .ref vSg, .ref vAl, .int 0])), (vTy, .inl (cI, 3, .inl (fun _ => 0)))]) hP hD [0, 1] [] rfl rfl (by decide) (by decide) hk1 hFc hP1 hD1
  generalize H1 = H at hP hS ⊢
  have hP : va_P (dC, dI) vwCl [(hm, .inr (11, [.ref vFo, .ref vSi, .ref vIt, .ref vMo, .int 0, .ref vBy, .ref vTy, .int 0, .ref vMi, .int 0, .ref vPs, .int 0, .ref vGs, .int 0, .ref vFt, .int 0, .ref vTo, .int 0, .int 0, .int 0, .int 16777215, .int 0, .int 0, .ref vPr, .ref vSt, .ref vFn, .int 0, .ref vSg, .ref vAl, .int 0])), (vTy, .inl (cI, 3, .inl (fun _ => 0)))] H := hP
  have hD : va_D A [(hm, .inr (11, [.ref vFo, .ref vSi, .ref vIt, .ref vMo, .int 0, .ref vBy, .ref vTy, .int 0, .ref vMi, .int 0, .ref vPs, .int 0, .ref vGs, .int 0, .ref vFt, .int 0, .ref vTo, .int 0, .int 0, .int 0, .int 16777215, .int 0, .int 0, .ref vPr, .ref vSt, .ref vFn, .int 0, .ref vSg, .ref vAl, .int 0])), (vTy, .inl (cI, 3, .inl (fun _ => 0)))] := hD
  refine lv_aload_n hx₀ hb dX12_high_4 rfl (lv_at hl 0 rfl) ?_
  refine lv_iload_n hx₀ hb dX12_high_5 rfl (lv_at hl 1 rfl) ?_
  have hPc := hP.sub (ws' := [(hm, .inr (11, [.ref vFo, .ref vSi, .ref vIt, .ref vMo, .int 0, .ref vBy, .ref vTy, .int 0, .ref vMi, .int 0, .ref vPs, .int 0, .ref vGs, .int 0, .ref vFt, .int 0, .ref vTo, .int 0, .int 0, .int 0, .int 16777215, .int 0, .int 0, .ref vPr, .ref vSt, .ref vFn, .int 0, .ref vSg, .ref vAl, .int 0]))]) [0] rfl
  have hDc := hD.sub (ws' := [(hm, .inr (11, [.ref vFo, .ref vSi, .ref vIt, .ref vMo, .int 0, .ref vBy, .ref vTy, .int 0, .ref vMi, .int 0, .ref vPs, .int 0, .ref vGs, .int 0, .ref vFt, .int 0, .ref vTo, .int 0, .int 0, .int 0, .int 16777215, .int 0, .int 0, .ref vPr, .ref vSt, .ref vFn, .int 0, .ref vSg, .ref vAl, .int 0]))]) [0] (by decide) rfl
  have hFc := va_free (wc := [(hm, .inr (11, [.ref vFo, .ref vSi, .ref vIt, .ref vMo, .int 0, .ref vBy, .ref vTy, .int 0, .ref vMi, .int 0, .ref vPs, .int 0, .ref vGs, .int 0, .ref vFt, .int 0, .ref vTo, .int 0, .int 0, .int 0, .int 16777215, .int 0, .int 0, .ref vPr, .ref vSt, .ref vFn, .int 0, .ref vSg, .ref vAl, .int 0]))]) hD hS hA [0] rfl
  refine va_calli (va_runV (As := [.int f]) (rest := []) ⟨hx₀, hb, hml, hown, hts⟩ (m_isFlight l dC dI cI cJ cQ H.size hm f vFo vSi vIt vMo vBy vTy vMi vPs vGs vFt vTo vPr vSt vFn vSg vAl) (cwV 1 hts (kGV wd_528 wd_525 wd_526 wd_527 wd_5) rfl rfl rfl (by decide +kernel) ⟨Nat.le_of_ble_eq_true rfl, Nat.le_of_ble_eq_true rfl⟩) (k_preV (ci := 11) (q0 := 0) hK hPc hDc hN rfl rfl) rfl rfl hl.1 rfl (lv_room (Nat.le_of_ble_eq_true rfl)) dX12_high_6 ⟨by decide +kernel, by decide +kernel⟩) hS (fun q _ h => hFc q h) hFc (fun r_2 u₀ t₀ H1 locs ht hvm hw hB hz1 hk1 hS => ?_)
  obtain ⟨hP1, hK1, hD1⟩ := hB
  rw [ht] at hP1
  obtain ⟨hP, hD⟩ := va_join (wr := [(vTy, .inl (cI, 3, .inl (fun _ => 0)))]) (w1 := [(hm, .inr (11, [.ref vFo, .ref vSi, .ref vIt, .ref vMo, .int 0, .ref vBy, .ref vTy, .int 0, .ref vMi, .int 0, .ref vPs, .int 0, .ref vGs, .int 0, .ref vFt, .int 0, .ref vTo, .int 0, .int 0, .int 0, .int 16777215, .int 0, .int 0, .ref vPr, .ref vSt, .ref vFn, .int 0, .ref vSg, .ref vAl, .int 0]))]) hP hD [0] [1] rfl rfl (by decide) (by decide) hk1 hFc hP1 hD1
  generalize H1 = H at hP hS ⊢
  have hP : va_P (dC, dI) vwCl [(vTy, .inl (cI, 3, .inl (fun _ => 0))), (hm, .inr (11, [.ref vFo, .ref vSi, .ref vIt, .ref vMo, .int 0, .ref vBy, .ref vTy, .int 0, .ref vMi, .int 0, .ref vPs, .int 0, .ref vGs, .int 0, .ref vFt, .int 0, .ref vTo, .int 0, .int 0, .int 0, .int 16777215, .int 0, .int 0, .ref vPr, .ref vSt, .ref vFn, .int 0, .ref vSg, .ref vAl, .int 0]))] H := hP
  have hD : va_D A [(vTy, .inl (cI, 3, .inl (fun _ => 0))), (hm, .inr (11, [.ref vFo, .ref vSi, .ref vIt, .ref vMo, .int 0, .ref vBy, .ref vTy, .int 0, .ref vMi, .int 0, .ref vPs, .int 0, .ref vGs, .int 0, .ref vFt, .int 0, .ref vTo, .int 0, .int 0, .int 0, .int 16777215, .int 0, .int 0, .ref vPr, .ref vSt, .ref vFn, .int 0, .ref vSg, .ref vAl, .int 0]))] := hD
  try dsimp only at hw
  refine k_topi (v := 0) hw ?_
  refine lv_if_eq (tgt := 20) hx₀ hb dX12_high_9 (by decide) (fun _ => ?_) (fun c9 => absurd (by decide +kernel) c9)
  refine lv_bipush (v := (-2)) hx₀ hb dX12_high_20 (by decide +kernel) ?_
  exact W.iret (v := (-2)) hx₀ hb hr (fun t₀ ht hW => ⟨⟨(-2), (), rfl, (by decide +kernel), trivial⟩, hS.F ht⟩) hS.2.2 dX12_high_22
set_option maxHeartbeats 4000000 in
set_option maxRecDepth 100000 in
theorem m_behind (l : Launch) (dC : Nat → ClassId) (dI : Nat → Nat → Nat) (cI cJ cQ : ClassId) (sz : Nat) (hm : Nat) (f : Int32) (k : Int32) (w : Int32) (vFo : Nat) (vSi : Nat) (vIt : Nat) (vMo : Nat) (vBy : Nat) (vTy : Nat) (vMi : Nat) (vPs : Nat) (vGs : Nat) (vFt : Nat) (vTo : Nat) (vPr : Nat) (vSt : Nat) (vFn : Nat) (vSg : Nat) (vAl : Nat) : Met l yX12_behind (kW yX12_behind cX12_behind 4 (some .int)) { frames := 2, cells := 0, slots := 0, locals := 46 } (kPre dC dI cI cJ cQ sz [.ref hm, .int f, .int k, .int w] [(hm, .inr (11, [.ref vFo, .ref vSi, .ref vIt, .ref vMo, .int 0, .ref vBy, .ref vTy, .int 0, .ref vMi, .int 0, .ref vPs, .int 0, .ref vGs, .int 0, .ref vFt, .int 0, .ref vTo, .int 0, .int 0, .int 0, .int 16777215, .int 0, .int 0, .ref vPr, .ref vSt, .ref vFn, .int 0, .ref vSg, .ref vAl, .int 0])), (vTy, .inl (cI, 3, .inl (fun _ => 0)))]) (va_Qi (fun (r : Int32) (_ : Unit) => r = -2) (fun _ _ => True) (va_A [(hm, .inr (11, [.ref vFo, .ref vSi, .ref vIt, .ref vMo, .int 0, .ref vBy, .ref vTy, .int 0, .ref vMi, .int 0, .ref vPs, .int 0, .ref vGs, .int 0, .ref vFt, .int 0, .ref vTo, .int 0, .int 0, .int 0, .int 16777215, .int 0, .int 0, .ref vPr, .ref vSt, .ref vFn, .int 0, .ref vSg, .ref vAl, .int 0])), (vTy, .inl (cI, 3, .inl (fun _ => 0)))] sz)) 0 0 (va_A [(hm, .inr (11, [.ref vFo, .ref vSi, .ref vIt, .ref vMo, .int 0, .ref vBy, .ref vTy, .int 0, .ref vMi, .int 0, .ref vPs, .int 0, .ref vGs, .int 0, .ref vFt, .int 0, .ref vTo, .int 0, .int 0, .int 0, .int 16777215, .int 0, .int 0, .ref vPr, .ref vSt, .ref vFn, .int 0, .ref vSg, .ref vAl, .int 0])), (vTy, .inl (cI, 3, .inl (fun _ => 0)))] sz) := by
  refine Met.ofW (cc := cX12_behind) (maxL := 4) (ret := (some .int)) (by decide) rfl ?_
  intro p₀ e₀ s₀ m₀ args below meth c₀ s₁ B hml hv₀
  obtain ⟨rfl, hsz, hP, hK, hD0, hN⟩ := hv₀
  have hx₀ := B.exec
  have hb := B.bytes
  have hr := B.returns
  have hts := atoms_spec (ws := (kW yX12_behind cX12_behind 4 (some .int))) B.pre
  have hts := fun w h => hts w (List.mem_cons_of_mem _ h)
  have hown : s₀.vm.findClass RX12 = some m₀.cls := findClass_of_methodNamed B.named
  have hlocks := B.notSynchronized
  subst hsz
  have hD := hD0.self (sz := s₀.heap.size)
  generalize hAe : va_A [(hm, .inr (11, [.ref vFo, .ref vSi, .ref vIt, .ref vMo, .int 0, .ref vBy, .ref vTy, .int 0, .ref vMi, .int 0, .ref vPs, .int 0, .ref vGs, .int 0, .ref vFt, .int 0, .ref vTo, .int 0, .int 0, .int 0, .int 16777215, .int 0, .int 0, .ref vPr, .ref vSt, .ref vFn, .int 0, .ref vSg, .ref vAl, .int 0])), (vTy, .inl (cI, 3, .inl (fun _ => 0)))] s₀.heap.size = A at hD ⊢
  have hA : ∀ q : Nat, s₀.heap.size ≤ q → A q := fun q h => by rw [← hAe]; exact Or.inr h
  have hS : va_S A s₀.heap s₀.heap [] := va_S.rf
  have hP : va_P (dC, dI) vwCl [(hm, .inr (11, [.ref vFo, .ref vSi, .ref vIt, .ref vMo, .int 0, .ref vBy, .ref vTy, .int 0, .ref vMi, .int 0, .ref vPs, .int 0, .ref vGs, .int 0, .ref vFt, .int 0, .ref vTo, .int 0, .int 0, .int 0, .int 16777215, .int 0, .int 0, .ref vPr, .ref vSt, .ref vFn, .int 0, .ref vSg, .ref vAl, .int 0])), (vTy, .inl (cI, 3, .inl (fun _ => 0)))] s₀.heap := hP
  have hl := lv_entry ([.ref hm, .int f, .int k, .int w]) (n := 4) (Nat.le_of_ble_eq_true rfl)
  rw [lg_entry_eq]
  generalize (lg_sl ([.ref hm, .int f, .int k, .int w]) ++ List.replicate (4 - (lg_sl ([.ref hm, .int f, .int k, .int w])).length) Slot.unset).toArray = ls at hl ⊢
  have hl : lv_has ls 4 [(0, .ref hm), (1, .int f), (2, .int k), (3, .int w)] := hl
  obtain ⟨H, hH⟩ : ∃ z : Heap, z = s₀.heap := ⟨_, rfl⟩
  rw [← hH] at hP
  have hS : va_S A s₀.heap H [] := by rw [hH]; exact hS
  refine k_heap hH ?_
  have hD : va_D A [(hm, .inr (11, [.ref vFo, .ref vSi, .ref vIt, .ref vMo, .int 0, .ref vBy, .ref vTy, .int 0, .ref vMi, .int 0, .ref vPs, .int 0, .ref vGs, .int 0, .ref vFt, .int 0, .ref vTo, .int 0, .int 0, .int 0, .int 16777215, .int 0, .int 0, .ref vPr, .ref vSt, .ref vFn, .int 0, .ref vSg, .ref vAl, .int 0])), (vTy, .inl (cI, 3, .inl (fun _ => 0)))] := hD
  obtain ⟨locs, hlo⟩ : ∃ z : List Loc, z = [] := ⟨_, rfl⟩
  rw [← hlo] at hS ⊢
  clear hlo hH hAe hD0
  refine lv_aload_n hx₀ hb dX12_behind_0 rfl (lv_at hl 0 rfl) ?_
  have hPc := hP.sub (ws' := [(hm, .inr (11, [.ref vFo, .ref vSi, .ref vIt, .ref vMo, .int 0, .ref vBy, .ref vTy, .int 0, .ref vMi, .int 0, .ref vPs, .int 0, .ref vGs, .int 0, .ref vFt, .int 0, .ref vTo, .int 0, .int 0, .int 0, .int 16777215, .int 0, .int 0, .ref vPr, .ref vSt, .ref vFn, .int 0, .ref vSg, .ref vAl, .int 0])), (vTy, .inl (cI, 3, .inl (fun _ => 0)))]) [0, 1] rfl
  have hDc := hD.sub (ws' := [(hm, .inr (11, [.ref vFo, .ref vSi, .ref vIt, .ref vMo, .int 0, .ref vBy, .ref vTy, .int 0, .ref vMi, .int 0, .ref vPs, .int 0, .ref vGs, .int 0, .ref vFt, .int 0, .ref vTo, .int 0, .int 0, .int 0, .int 16777215, .int 0, .int 0, .ref vPr, .ref vSt, .ref vFn, .int 0, .ref vSg, .ref vAl, .int 0])), (vTy, .inl (cI, 3, .inl (fun _ => 0)))]) [0, 1] (by decide) rfl
  have hFc := va_free (wc := [(hm, .inr (11, [.ref vFo, .ref vSi, .ref vIt, .ref vMo, .int 0, .ref vBy, .ref vTy, .int 0, .ref vMi, .int 0, .ref vPs, .int 0, .ref vGs, .int 0, .ref vFt, .int 0, .ref vTo, .int 0, .int 0, .int 0, .int 16777215, .int 0, .int 0, .ref vPr, .ref vSt, .ref vFn, .int 0, .ref vSg, .ref vAl, .int 0])), (vTy, .inl (cI, 3, .inl (fun _ => 0)))]) hD hS hA [0, 1] rfl
  refine va_callv (va_runV (As := []) (rest := []) ⟨hx₀, hb, hml, hown, hts⟩ (m_reads l dC dI cI cJ cQ H.size hm vFo vSi vIt vMo vBy vTy vMi vPs vGs vFt vTo vPr vSt vFn vSg vAl) (cwV 0 hts (kGV wd_298 wd_295 wd_296 wd_297 wd_5) rfl rfl rfl (by decide +kernel) ⟨Nat.le_of_ble_eq_true rfl, Nat.le_of_ble_eq_true rfl⟩) (k_preV (ci := 11) (q0 := 0) hK hPc hDc hN rfl rfl) rfl rfl hl.1 rfl (lv_room (Nat.le_of_ble_eq_true rfl)) dX12_behind_1 ⟨by decide +kernel, by decide +kernel⟩) hS (fun q _ h => hFc q h) hFc (fun u₀ t₀ H1 locs ht hvm hw hB hz1 hk1 hS => ?_)
  obtain ⟨hP1, hK1, hD1⟩ := hB
  rw [ht] at hP1
  obtain ⟨hP, hD⟩ := va_join (wr := []) (w1 := [(hm, .inr (11, [.ref vFo, .ref vSi, .ref vIt, .ref vMo, .int 0, .ref vBy, .ref vTy, .int 0, .ref vMi, .int 0, .ref vPs, .int 0, .ref vGs, .int 0, .ref vFt, .int 0, .ref vTo, .int 0, .int 0, .int 0, .int 16777215, .int 0, .int 0, .ref vPr, .ref vSt, .ref vFn, .int 0, .ref vSg, .ref vAl, .int 0])), (vTy, .inl (cI, 3, .inl (fun _ => 0)))]) hP hD [0, 1] [] rfl rfl (by decide) (by decide) hk1 hFc hP1 hD1
  generalize H1 = H at hP hS ⊢
  have hP : va_P (dC, dI) vwCl [(hm, .inr (11, [.ref vFo, .ref vSi, .ref vIt, .ref vMo, .int 0, .ref vBy, .ref vTy, .int 0, .ref vMi, .int 0, .ref vPs, .int 0, .ref vGs, .int 0, .ref vFt, .int 0, .ref vTo, .int 0, .int 0, .int 0, .int 16777215, .int 0, .int 0, .ref vPr, .ref vSt, .ref vFn, .int 0, .ref vSg, .ref vAl, .int 0])), (vTy, .inl (cI, 3, .inl (fun _ => 0)))] H := hP
  have hD : va_D A [(hm, .inr (11, [.ref vFo, .ref vSi, .ref vIt, .ref vMo, .int 0, .ref vBy, .ref vTy, .int 0, .ref vMi, .int 0, .ref vPs, .int 0, .ref vGs, .int 0, .ref vFt, .int 0, .ref vTo, .int 0, .int 0, .int 0, .int 16777215, .int 0, .int 0, .ref vPr, .ref vSt, .ref vFn, .int 0, .ref vSg, .ref vAl, .int 0])), (vTy, .inl (cI, 3, .inl (fun _ => 0)))] := hD
  refine lv_aload_n hx₀ hb dX12_behind_4 rfl (lv_at hl 0 rfl) ?_
  refine lv_iload_n hx₀ hb dX12_behind_5 rfl (lv_at hl 1 rfl) ?_
  have hPc := hP.sub (ws' := [(hm, .inr (11, [.ref vFo, .ref vSi, .ref vIt, .ref vMo, .int 0, .ref vBy, .ref vTy, .int 0, .ref vMi, .int 0, .ref vPs, .int 0, .ref vGs, .int 0, .ref vFt, .int 0, .ref vTo, .int 0, .int 0, .int 0, .int 16777215, .int 0, .int 0, .ref vPr, .ref vSt, .ref vFn, .int 0, .ref vSg, .ref vAl, .int 0]))]) [0] rfl
  have hDc := hD.sub (ws' := [(hm, .inr (11, [.ref vFo, .ref vSi, .ref vIt, .ref vMo, .int 0, .ref vBy, .ref vTy, .int 0, .ref vMi, .int 0, .ref vPs, .int 0, .ref vGs, .int 0, .ref vFt, .int 0, .ref vTo, .int 0, .int 0, .int 0, .int 16777215, .int 0, .int 0, .ref vPr, .ref vSt, .ref vFn, .int 0, .ref vSg, .ref vAl, .int 0]))]) [0] (by decide) rfl
  have hFc := va_free (wc := [(hm, .inr (11, [.ref vFo, .ref vSi, .ref vIt, .ref vMo, .int 0, .ref vBy, .ref vTy, .int 0, .ref vMi, .int 0, .ref vPs, .int 0, .ref vGs, .int 0, .ref vFt, .int 0, .ref vTo, .int 0, .int 0, .int 0, .int 16777215, .int 0, .int 0, .ref vPr, .ref vSt, .ref vFn, .int 0, .ref vSg, .ref vAl, .int 0]))]) hD hS hA [0] rfl
  refine va_calli (va_runV (As := [.int f]) (rest := []) ⟨hx₀, hb, hml, hown, hts⟩ (m_isFlight l dC dI cI cJ cQ H.size hm f vFo vSi vIt vMo vBy vTy vMi vPs vGs vFt vTo vPr vSt vFn vSg vAl) (cwV 1 hts (kGV wd_528 wd_525 wd_526 wd_527 wd_5) rfl rfl rfl (by decide +kernel) ⟨Nat.le_of_ble_eq_true rfl, Nat.le_of_ble_eq_true rfl⟩) (k_preV (ci := 11) (q0 := 0) hK hPc hDc hN rfl rfl) rfl rfl hl.1 rfl (lv_room (Nat.le_of_ble_eq_true rfl)) dX12_behind_6 ⟨by decide +kernel, by decide +kernel⟩) hS (fun q _ h => hFc q h) hFc (fun r_2 u₀ t₀ H1 locs ht hvm hw hB hz1 hk1 hS => ?_)
  obtain ⟨hP1, hK1, hD1⟩ := hB
  rw [ht] at hP1
  obtain ⟨hP, hD⟩ := va_join (wr := [(vTy, .inl (cI, 3, .inl (fun _ => 0)))]) (w1 := [(hm, .inr (11, [.ref vFo, .ref vSi, .ref vIt, .ref vMo, .int 0, .ref vBy, .ref vTy, .int 0, .ref vMi, .int 0, .ref vPs, .int 0, .ref vGs, .int 0, .ref vFt, .int 0, .ref vTo, .int 0, .int 0, .int 0, .int 16777215, .int 0, .int 0, .ref vPr, .ref vSt, .ref vFn, .int 0, .ref vSg, .ref vAl, .int 0]))]) hP hD [0] [1] rfl rfl (by decide) (by decide) hk1 hFc hP1 hD1
  generalize H1 = H at hP hS ⊢
  have hP : va_P (dC, dI) vwCl [(vTy, .inl (cI, 3, .inl (fun _ => 0))), (hm, .inr (11, [.ref vFo, .ref vSi, .ref vIt, .ref vMo, .int 0, .ref vBy, .ref vTy, .int 0, .ref vMi, .int 0, .ref vPs, .int 0, .ref vGs, .int 0, .ref vFt, .int 0, .ref vTo, .int 0, .int 0, .int 0, .int 16777215, .int 0, .int 0, .ref vPr, .ref vSt, .ref vFn, .int 0, .ref vSg, .ref vAl, .int 0]))] H := hP
  have hD : va_D A [(vTy, .inl (cI, 3, .inl (fun _ => 0))), (hm, .inr (11, [.ref vFo, .ref vSi, .ref vIt, .ref vMo, .int 0, .ref vBy, .ref vTy, .int 0, .ref vMi, .int 0, .ref vPs, .int 0, .ref vGs, .int 0, .ref vFt, .int 0, .ref vTo, .int 0, .int 0, .int 0, .int 16777215, .int 0, .int 0, .ref vPr, .ref vSt, .ref vFn, .int 0, .ref vSg, .ref vAl, .int 0]))] := hD
  try dsimp only at hw
  refine k_topi (v := 0) hw ?_
  refine lv_if_eq (tgt := 50) hx₀ hb dX12_behind_9 (by decide) (fun _ => ?_) (fun c9 => absurd (by decide +kernel) c9)
  refine lv_bipush (v := (-2)) hx₀ hb dX12_behind_50 (by decide +kernel) ?_
  exact W.iret (v := (-2)) hx₀ hb hr (fun t₀ ht hW => ⟨⟨(-2), (), rfl, (by decide +kernel), trivial⟩, hS.F ht⟩) hS.2.2 dX12_behind_52
set_option maxHeartbeats 4000000 in
set_option maxRecDepth 100000 in
theorem m_farthest (l : Launch) (dC : Nat → ClassId) (dI : Nat → Nat → Nat) (cI cJ cQ : ClassId) (sz : Nat) (hm : Nat) (vFo : Nat) (vSi : Nat) (vIt : Nat) (vMo : Nat) (vBy : Nat) (vTy : Nat) (vMi : Nat) (vPs : Nat) (vGs : Nat) (vFt : Nat) (vTo : Nat) (vPr : Nat) (vSt : Nat) (vFn : Nat) (vSg : Nat) (vAl : Nat) : Met l yX12_farthest (kW yX12_farthest cX12_farthest 1 (some .int)) { frames := 2, cells := 0, slots := 0, locals := 44 } (kPre dC dI cI cJ cQ sz [.ref hm] [(hm, .inr (11, [.ref vFo, .ref vSi, .ref vIt, .ref vMo, .int 0, .ref vBy, .ref vTy, .int 0, .ref vMi, .int 0, .ref vPs, .int 0, .ref vGs, .int 0, .ref vFt, .int 0, .ref vTo, .int 0, .int 0, .int 0, .int 16777215, .int 0, .int 0, .ref vPr, .ref vSt, .ref vFn, .int 0, .ref vSg, .ref vAl, .int 0])), (vTy, .inl (cI, 3, .inl (fun _ => 0)))]) (va_Qi (fun (r : Int32) (_ : Unit) => r = (-1)) (fun _ _ => True) (va_A [(hm, .inr (11, [.ref vFo, .ref vSi, .ref vIt, .ref vMo, .int 0, .ref vBy, .ref vTy, .int 0, .ref vMi, .int 0, .ref vPs, .int 0, .ref vGs, .int 0, .ref vFt, .int 0, .ref vTo, .int 0, .int 0, .int 0, .int 16777215, .int 0, .int 0, .ref vPr, .ref vSt, .ref vFn, .int 0, .ref vSg, .ref vAl, .int 0])), (vTy, .inl (cI, 3, .inl (fun _ => 0)))] sz)) 0 0 (va_A [(hm, .inr (11, [.ref vFo, .ref vSi, .ref vIt, .ref vMo, .int 0, .ref vBy, .ref vTy, .int 0, .ref vMi, .int 0, .ref vPs, .int 0, .ref vGs, .int 0, .ref vFt, .int 0, .ref vTo, .int 0, .int 0, .int 0, .int 16777215, .int 0, .int 0, .ref vPr, .ref vSt, .ref vFn, .int 0, .ref vSg, .ref vAl, .int 0])), (vTy, .inl (cI, 3, .inl (fun _ => 0)))] sz) := by
  refine Met.ofW (cc := cX12_farthest) (maxL := 1) (ret := (some .int)) (by decide) rfl ?_
  intro p₀ e₀ s₀ m₀ args below meth c₀ s₁ B hml hv₀
  obtain ⟨rfl, hsz, hP, hK, hD0, hN⟩ := hv₀
  have hx₀ := B.exec
  have hb := B.bytes
  have hr := B.returns
  have hts := atoms_spec (ws := (kW yX12_farthest cX12_farthest 1 (some .int))) B.pre
  have hts := fun w h => hts w (List.mem_cons_of_mem _ h)
  have hown : s₀.vm.findClass RX12 = some m₀.cls := findClass_of_methodNamed B.named
  have hlocks := B.notSynchronized
  subst hsz
  have hD := hD0.self (sz := s₀.heap.size)
  generalize hAe : va_A [(hm, .inr (11, [.ref vFo, .ref vSi, .ref vIt, .ref vMo, .int 0, .ref vBy, .ref vTy, .int 0, .ref vMi, .int 0, .ref vPs, .int 0, .ref vGs, .int 0, .ref vFt, .int 0, .ref vTo, .int 0, .int 0, .int 0, .int 16777215, .int 0, .int 0, .ref vPr, .ref vSt, .ref vFn, .int 0, .ref vSg, .ref vAl, .int 0])), (vTy, .inl (cI, 3, .inl (fun _ => 0)))] s₀.heap.size = A at hD ⊢
  have hA : ∀ q : Nat, s₀.heap.size ≤ q → A q := fun q h => by rw [← hAe]; exact Or.inr h
  have hS : va_S A s₀.heap s₀.heap [] := va_S.rf
  have hP : va_P (dC, dI) vwCl [(hm, .inr (11, [.ref vFo, .ref vSi, .ref vIt, .ref vMo, .int 0, .ref vBy, .ref vTy, .int 0, .ref vMi, .int 0, .ref vPs, .int 0, .ref vGs, .int 0, .ref vFt, .int 0, .ref vTo, .int 0, .int 0, .int 0, .int 16777215, .int 0, .int 0, .ref vPr, .ref vSt, .ref vFn, .int 0, .ref vSg, .ref vAl, .int 0])), (vTy, .inl (cI, 3, .inl (fun _ => 0)))] s₀.heap := hP
  have hl := lv_entry ([.ref hm]) (n := 1) (Nat.le_of_ble_eq_true rfl)
  rw [lg_entry_eq]
  generalize (lg_sl ([.ref hm]) ++ List.replicate (1 - (lg_sl ([.ref hm])).length) Slot.unset).toArray = ls at hl ⊢
  have hl : lv_has ls 1 [(0, .ref hm)] := hl
  obtain ⟨H, hH⟩ : ∃ z : Heap, z = s₀.heap := ⟨_, rfl⟩
  rw [← hH] at hP
  have hS : va_S A s₀.heap H [] := by rw [hH]; exact hS
  refine k_heap hH ?_
  have hD : va_D A [(hm, .inr (11, [.ref vFo, .ref vSi, .ref vIt, .ref vMo, .int 0, .ref vBy, .ref vTy, .int 0, .ref vMi, .int 0, .ref vPs, .int 0, .ref vGs, .int 0, .ref vFt, .int 0, .ref vTo, .int 0, .int 0, .int 0, .int 16777215, .int 0, .int 0, .ref vPr, .ref vSt, .ref vFn, .int 0, .ref vSg, .ref vAl, .int 0])), (vTy, .inl (cI, 3, .inl (fun _ => 0)))] := hD
  obtain ⟨locs, hlo⟩ : ∃ z : List Loc, z = [] := ⟨_, rfl⟩
  rw [← hlo] at hS ⊢
  clear hlo hH hAe hD0
  refine lv_aload_n hx₀ hb dX12_farthest_0 rfl (lv_at hl 0 rfl) ?_
  have hPc := hP.sub (ws' := [(hm, .inr (11, [.ref vFo, .ref vSi, .ref vIt, .ref vMo, .int 0, .ref vBy, .ref vTy, .int 0, .ref vMi, .int 0, .ref vPs, .int 0, .ref vGs, .int 0, .ref vFt, .int 0, .ref vTo, .int 0, .int 0, .int 0, .int 16777215, .int 0, .int 0, .ref vPr, .ref vSt, .ref vFn, .int 0, .ref vSg, .ref vAl, .int 0])), (vTy, .inl (cI, 3, .inl (fun _ => 0)))]) [0, 1] rfl
  have hDc := hD.sub (ws' := [(hm, .inr (11, [.ref vFo, .ref vSi, .ref vIt, .ref vMo, .int 0, .ref vBy, .ref vTy, .int 0, .ref vMi, .int 0, .ref vPs, .int 0, .ref vGs, .int 0, .ref vFt, .int 0, .ref vTo, .int 0, .int 0, .int 0, .int 16777215, .int 0, .int 0, .ref vPr, .ref vSt, .ref vFn, .int 0, .ref vSg, .ref vAl, .int 0])), (vTy, .inl (cI, 3, .inl (fun _ => 0)))]) [0, 1] (by decide) rfl
  have hFc := va_free (wc := [(hm, .inr (11, [.ref vFo, .ref vSi, .ref vIt, .ref vMo, .int 0, .ref vBy, .ref vTy, .int 0, .ref vMi, .int 0, .ref vPs, .int 0, .ref vGs, .int 0, .ref vFt, .int 0, .ref vTo, .int 0, .int 0, .int 0, .int 16777215, .int 0, .int 0, .ref vPr, .ref vSt, .ref vFn, .int 0, .ref vSg, .ref vAl, .int 0])), (vTy, .inl (cI, 3, .inl (fun _ => 0)))]) hD hS hA [0, 1] rfl
  refine va_callv (va_runV (As := []) (rest := []) ⟨hx₀, hb, hml, hown, hts⟩ (m_reads l dC dI cI cJ cQ H.size hm vFo vSi vIt vMo vBy vTy vMi vPs vGs vFt vTo vPr vSt vFn vSg vAl) (cwV 0 hts (kGV wd_298 wd_295 wd_296 wd_297 wd_5) rfl rfl rfl (by decide +kernel) ⟨Nat.le_of_ble_eq_true rfl, Nat.le_of_ble_eq_true rfl⟩) (k_preV (ci := 11) (q0 := 0) hK hPc hDc hN rfl rfl) rfl rfl hl.1 rfl (lv_room (Nat.le_of_ble_eq_true rfl)) dX12_farthest_1 ⟨by decide +kernel, by decide +kernel⟩) hS (fun q _ h => hFc q h) hFc (fun u₀ t₀ H1 locs ht hvm hw hB hz1 hk1 hS => ?_)
  obtain ⟨hP1, hK1, hD1⟩ := hB
  rw [ht] at hP1
  obtain ⟨hP, hD⟩ := va_join (wr := []) (w1 := [(hm, .inr (11, [.ref vFo, .ref vSi, .ref vIt, .ref vMo, .int 0, .ref vBy, .ref vTy, .int 0, .ref vMi, .int 0, .ref vPs, .int 0, .ref vGs, .int 0, .ref vFt, .int 0, .ref vTo, .int 0, .int 0, .int 0, .int 16777215, .int 0, .int 0, .ref vPr, .ref vSt, .ref vFn, .int 0, .ref vSg, .ref vAl, .int 0])), (vTy, .inl (cI, 3, .inl (fun _ => 0)))]) hP hD [0, 1] [] rfl rfl (by decide) (by decide) hk1 hFc hP1 hD1
  generalize H1 = H at hP hS ⊢
  have hP : va_P (dC, dI) vwCl [(hm, .inr (11, [.ref vFo, .ref vSi, .ref vIt, .ref vMo, .int 0, .ref vBy, .ref vTy, .int 0, .ref vMi, .int 0, .ref vPs, .int 0, .ref vGs, .int 0, .ref vFt, .int 0, .ref vTo, .int 0, .int 0, .int 0, .int 16777215, .int 0, .int 0, .ref vPr, .ref vSt, .ref vFn, .int 0, .ref vSg, .ref vAl, .int 0])), (vTy, .inl (cI, 3, .inl (fun _ => 0)))] H := hP
  have hD : va_D A [(hm, .inr (11, [.ref vFo, .ref vSi, .ref vIt, .ref vMo, .int 0, .ref vBy, .ref vTy, .int 0, .ref vMi, .int 0, .ref vPs, .int 0, .ref vGs, .int 0, .ref vFt, .int 0, .ref vTo, .int 0, .int 0, .int 0, .int 16777215, .int 0, .int 0, .ref vPr, .ref vSt, .ref vFn, .int 0, .ref vSg, .ref vAl, .int 0])), (vTy, .inl (cI, 3, .inl (fun _ => 0)))] := hD
  refine lv_aload_n hx₀ hb dX12_farthest_4 rfl (lv_at hl 0 rfl) ?_
  have hPc := hP.sub (ws' := [(hm, .inr (11, [.ref vFo, .ref vSi, .ref vIt, .ref vMo, .int 0, .ref vBy, .ref vTy, .int 0, .ref vMi, .int 0, .ref vPs, .int 0, .ref vGs, .int 0, .ref vFt, .int 0, .ref vTo, .int 0, .int 0, .int 0, .int 16777215, .int 0, .int 0, .ref vPr, .ref vSt, .ref vFn, .int 0, .ref vSg, .ref vAl, .int 0]))]) [0] rfl
  have hDc := hD.sub (ws' := [(hm, .inr (11, [.ref vFo, .ref vSi, .ref vIt, .ref vMo, .int 0, .ref vBy, .ref vTy, .int 0, .ref vMi, .int 0, .ref vPs, .int 0, .ref vGs, .int 0, .ref vFt, .int 0, .ref vTo, .int 0, .int 0, .int 0, .int 16777215, .int 0, .int 0, .ref vPr, .ref vSt, .ref vFn, .int 0, .ref vSg, .ref vAl, .int 0]))]) [0] (by decide) rfl
  have hFc := va_free (wc := [(hm, .inr (11, [.ref vFo, .ref vSi, .ref vIt, .ref vMo, .int 0, .ref vBy, .ref vTy, .int 0, .ref vMi, .int 0, .ref vPs, .int 0, .ref vGs, .int 0, .ref vFt, .int 0, .ref vTo, .int 0, .int 0, .int 0, .int 16777215, .int 0, .int 0, .ref vPr, .ref vSt, .ref vFn, .int 0, .ref vSg, .ref vAl, .int 0]))]) hD hS hA [0] rfl
  refine va_calli (va_runV (As := []) (rest := []) ⟨hx₀, hb, hml, hown, hts⟩ (m_farNow l dC dI cI cJ cQ H.size hm vFo vSi vIt vMo vBy vTy vMi vPs vGs vFt vTo vPr vSt vFn vSg vAl) (cwV 0 hts (kGV wd_610 wd_607 wd_608 wd_609 wd_5) rfl rfl rfl (by decide +kernel) ⟨Nat.le_of_ble_eq_true rfl, Nat.le_of_ble_eq_true rfl⟩) (k_preV (ci := 11) (q0 := 0) hK hPc hDc hN rfl rfl) rfl rfl hl.1 rfl (lv_room (Nat.le_of_ble_eq_true rfl)) dX12_farthest_5 ⟨by decide +kernel, by decide +kernel⟩) hS (fun q _ h => hFc q h) hFc (fun r_2 u₀ t₀ H1 locs ht hvm hw hB hz1 hk1 hS => ?_)
  obtain ⟨hP1, hK1, hD1⟩ := hB
  rw [ht] at hP1
  obtain ⟨hP, hD⟩ := va_join (wr := [(vTy, .inl (cI, 3, .inl (fun _ => 0)))]) (w1 := [(hm, .inr (11, [.ref vFo, .ref vSi, .ref vIt, .ref vMo, .int 0, .ref vBy, .ref vTy, .int 0, .ref vMi, .int 0, .ref vPs, .int 0, .ref vGs, .int 0, .ref vFt, .int 0, .ref vTo, .int 0, .int 0, .int 0, .int 16777215, .int 0, .int 0, .ref vPr, .ref vSt, .ref vFn, .int 0, .ref vSg, .ref vAl, .int 0]))]) hP hD [0] [1] rfl rfl (by decide) (by decide) hk1 hFc hP1 hD1
  generalize H1 = H at hP hS ⊢
  have hP : va_P (dC, dI) vwCl [(vTy, .inl (cI, 3, .inl (fun _ => 0))), (hm, .inr (11, [.ref vFo, .ref vSi, .ref vIt, .ref vMo, .int 0, .ref vBy, .ref vTy, .int 0, .ref vMi, .int 0, .ref vPs, .int 0, .ref vGs, .int 0, .ref vFt, .int 0, .ref vTo, .int 0, .int 0, .int 0, .int 16777215, .int 0, .int 0, .ref vPr, .ref vSt, .ref vFn, .int 0, .ref vSg, .ref vAl, .int 0]))] H := hP
  have hD : va_D A [(vTy, .inl (cI, 3, .inl (fun _ => 0))), (hm, .inr (11, [.ref vFo, .ref vSi, .ref vIt, .ref vMo, .int 0, .ref vBy, .ref vTy, .int 0, .ref vMi, .int 0, .ref vPs, .int 0, .ref vGs, .int 0, .ref vFt, .int 0, .ref vTo, .int 0, .int 0, .int 0, .int 16777215, .int 0, .int 0, .ref vPr, .ref vSt, .ref vFn, .int 0, .ref vSg, .ref vAl, .int 0]))] := hD
  try dsimp only at hw
  refine k_topi (v := (-1)) hw ?_
  exact W.iret (v := (-1)) hx₀ hb hr (fun t₀ ht hW => ⟨⟨(-1), (), rfl, rfl, trivial⟩, hS.F ht⟩) hS.2.2 dX12_farthest_8
theorem lf_m_seen_1 (f : Int32) (k : Int32) (c_2 : (0 : Int64) ≤ f.toInt64 ∧ f.toInt64 ≤ (7 : Int64)) (c_4 : (0 : Int64) ≤ k.toInt64 ∧ k.toInt64 ≤ (24 : Int64)) : (1 : Int32) = if 0 ≤ f ∧ f ≤ 7 ∧ 0 ≤ k ∧ k ≤ 24 then 1 else -2 := by
  repeat first | rfl | rw [if_pos (by (first | omega | (simp only [Int64.le_iff_toInt_le, Int64.lt_iff_toInt_lt, Int32.le_iff_toInt_le, Int32.lt_iff_toInt_lt, ← Int32.toInt_inj, ← Int64.toInt_inj, Int32.toInt_toInt64, (show (-2 : Int32).toInt = -2 from by decide), (show (-2 : Int64).toInt = -2 from by decide), (show (0 : Int32).toInt = 0 from by decide), (show (0 : Int64).toInt = 0 from by decide), (show (1 : Int32).toInt = 1 from by decide), (show (1 : Int64).toInt = 1 from by decide), (show (7 : Int32).toInt = 7 from by decide), (show (7 : Int64).toInt = 7 from by decide), (show (24 : Int32).toInt = 24 from by decide), (show (24 : Int64).toInt = 24 from by decide)] at *; omega)))] | rw [if_neg (by (first | omega | (simp only [Int64.le_iff_toInt_le, Int64.lt_iff_toInt_lt, Int32.le_iff_toInt_le, Int32.lt_iff_toInt_lt, ← Int32.toInt_inj, ← Int64.toInt_inj, Int32.toInt_toInt64, (show (-2 : Int32).toInt = -2 from by decide), (show (-2 : Int64).toInt = -2 from by decide), (show (0 : Int32).toInt = 0 from by decide), (show (0 : Int64).toInt = 0 from by decide), (show (1 : Int32).toInt = 1 from by decide), (show (1 : Int64).toInt = 1 from by decide), (show (7 : Int32).toInt = 7 from by decide), (show (7 : Int64).toInt = 7 from by decide), (show (24 : Int32).toInt = 24 from by decide), (show (24 : Int64).toInt = 24 from by decide)] at *; omega)))]
theorem lf_m_seen_2 (f : Int32) (k : Int32) (c_2 : (0 : Int64) ≤ f.toInt64 ∧ f.toInt64 ≤ (7 : Int64)) (c_4 : ¬ ((0 : Int64) ≤ k.toInt64 ∧ k.toInt64 ≤ (24 : Int64))) : ((-2) : Int32) = if 0 ≤ f ∧ f ≤ 7 ∧ 0 ≤ k ∧ k ≤ 24 then 1 else -2 := by
  repeat first | rfl | rw [if_pos (by (first | omega | (simp only [Int64.le_iff_toInt_le, Int64.lt_iff_toInt_lt, Int32.le_iff_toInt_le, Int32.lt_iff_toInt_lt, ← Int32.toInt_inj, ← Int64.toInt_inj, Int32.toInt_toInt64, (show (-2 : Int32).toInt = -2 from by decide), (show (-2 : Int64).toInt = -2 from by decide), (show (0 : Int32).toInt = 0 from by decide), (show (0 : Int64).toInt = 0 from by decide), (show (1 : Int32).toInt = 1 from by decide), (show (1 : Int64).toInt = 1 from by decide), (show (7 : Int32).toInt = 7 from by decide), (show (7 : Int64).toInt = 7 from by decide), (show (24 : Int32).toInt = 24 from by decide), (show (24 : Int64).toInt = 24 from by decide)] at *; omega)))] | rw [if_neg (by (first | omega | (simp only [Int64.le_iff_toInt_le, Int64.lt_iff_toInt_lt, Int32.le_iff_toInt_le, Int32.lt_iff_toInt_lt, ← Int32.toInt_inj, ← Int64.toInt_inj, Int32.toInt_toInt64, (show (-2 : Int32).toInt = -2 from by decide), (show (-2 : Int64).toInt = -2 from by decide), (show (0 : Int32).toInt = 0 from by decide), (show (0 : Int64).toInt = 0 from by decide), (show (1 : Int32).toInt = 1 from by decide), (show (1 : Int64).toInt = 1 from by decide), (show (7 : Int32).toInt = 7 from by decide), (show (7 : Int64).toInt = 7 from by decide), (show (24 : Int32).toInt = 24 from by decide), (show (24 : Int64).toInt = 24 from by decide)] at *; omega)))]
theorem lf_m_seen_3 (f : Int32) (k : Int32) (c_2 : ¬ ((0 : Int64) ≤ f.toInt64 ∧ f.toInt64 ≤ (7 : Int64))) : ((-2) : Int32) = if 0 ≤ f ∧ f ≤ 7 ∧ 0 ≤ k ∧ k ≤ 24 then 1 else -2 := by
  repeat first | rfl | rw [if_pos (by (first | omega | (simp only [Int64.le_iff_toInt_le, Int64.lt_iff_toInt_lt, Int32.le_iff_toInt_le, Int32.lt_iff_toInt_lt, ← Int32.toInt_inj, ← Int64.toInt_inj, Int32.toInt_toInt64, (show (-2 : Int32).toInt = -2 from by decide), (show (-2 : Int64).toInt = -2 from by decide), (show (0 : Int32).toInt = 0 from by decide), (show (0 : Int64).toInt = 0 from by decide), (show (1 : Int32).toInt = 1 from by decide), (show (1 : Int64).toInt = 1 from by decide), (show (7 : Int32).toInt = 7 from by decide), (show (7 : Int64).toInt = 7 from by decide), (show (24 : Int32).toInt = 24 from by decide), (show (24 : Int64).toInt = 24 from by decide)] at *; omega)))] | rw [if_neg (by (first | omega | (simp only [Int64.le_iff_toInt_le, Int64.lt_iff_toInt_lt, Int32.le_iff_toInt_le, Int32.lt_iff_toInt_lt, ← Int32.toInt_inj, ← Int64.toInt_inj, Int32.toInt_toInt64, (show (-2 : Int32).toInt = -2 from by decide), (show (-2 : Int64).toInt = -2 from by decide), (show (0 : Int32).toInt = 0 from by decide), (show (0 : Int64).toInt = 0 from by decide), (show (1 : Int32).toInt = 1 from by decide), (show (1 : Int64).toInt = 1 from by decide), (show (7 : Int32).toInt = 7 from by decide), (show (7 : Int64).toInt = 7 from by decide), (show (24 : Int32).toInt = 24 from by decide), (show (24 : Int64).toInt = 24 from by decide)] at *; omega)))]
set_option maxHeartbeats 4000000 in
set_option maxRecDepth 100000 in
theorem m_seen (l : Launch) (dC : Nat → ClassId) (dI : Nat → Nat → Nat) (cI cJ cQ : ClassId) (sz : Nat) (hm : Nat) (f : Int32) (k : Int32) (vFo : Nat) (vSi : Nat) (vIt : Nat) (vMo : Nat) (vBy : Nat) (vTy : Nat) (vMi : Nat) (vPs : Nat) (vGs : Nat) (vFt : Nat) (vTo : Nat) (vPr : Nat) (vSt : Nat) (vFn : Nat) (vSg : Nat) (vAl : Nat) : Met l yX12_seen (kW yX12_seen cX12_seen 3 (some .int)) { frames := 1, cells := 0, slots := 0, locals := 25 } (kPre dC dI cI cJ cQ sz [.ref hm, .int f, .int k] [(hm, .inr (11, [.ref vFo, .ref vSi, .ref vIt, .ref vMo, .int 0, .ref vBy, .ref vTy, .int 0, .ref vMi, .int 0, .ref vPs, .int 0, .ref vGs, .int 0, .ref vFt, .int 0, .ref vTo, .int 0, .int 0, .int 0, .int 16777215, .int 0, .int 0, .ref vPr, .ref vSt, .ref vFn, .int 0, .ref vSg, .ref vAl, .int 0])), (vSg, .inl (cI, 16, .inl (fun _ => 0)))]) (va_Qi (fun (r : Int32) (_ : Unit) => r = if 0 ≤ f ∧ f ≤ 7 ∧ 0 ≤ k ∧ k ≤ 24 then 1 else -2) (fun _ _ => True) (va_A [(hm, .inr (11, [.ref vFo, .ref vSi, .ref vIt, .ref vMo, .int 0, .ref vBy, .ref vTy, .int 0, .ref vMi, .int 0, .ref vPs, .int 0, .ref vGs, .int 0, .ref vFt, .int 0, .ref vTo, .int 0, .int 0, .int 0, .int 16777215, .int 0, .int 0, .ref vPr, .ref vSt, .ref vFn, .int 0, .ref vSg, .ref vAl, .int 0])), (vSg, .inl (cI, 16, .inl (fun _ => 0)))] sz)) 0 0 (va_A [(hm, .inr (11, [.ref vFo, .ref vSi, .ref vIt, .ref vMo, .int 0, .ref vBy, .ref vTy, .int 0, .ref vMi, .int 0, .ref vPs, .int 0, .ref vGs, .int 0, .ref vFt, .int 0, .ref vTo, .int 0, .int 0, .int 0, .int 16777215, .int 0, .int 0, .ref vPr, .ref vSt, .ref vFn, .int 0, .ref vSg, .ref vAl, .int 0])), (vSg, .inl (cI, 16, .inl (fun _ => 0)))] sz) := by
  refine Met.ofW (cc := cX12_seen) (maxL := 3) (ret := (some .int)) (by decide) rfl ?_
  intro p₀ e₀ s₀ m₀ args below meth c₀ s₁ B hml hv₀
  obtain ⟨rfl, hsz, hP, hK, hD0, hN⟩ := hv₀
  have hx₀ := B.exec
  have hb := B.bytes
  have hr := B.returns
  have hts := atoms_spec (ws := (kW yX12_seen cX12_seen 3 (some .int))) B.pre
  have hts := fun w h => hts w (List.mem_cons_of_mem _ h)
  have hown : s₀.vm.findClass RX12 = some m₀.cls := findClass_of_methodNamed B.named
  have hlocks := B.notSynchronized
  subst hsz
  have hD := hD0.self (sz := s₀.heap.size)
  generalize hAe : va_A [(hm, .inr (11, [.ref vFo, .ref vSi, .ref vIt, .ref vMo, .int 0, .ref vBy, .ref vTy, .int 0, .ref vMi, .int 0, .ref vPs, .int 0, .ref vGs, .int 0, .ref vFt, .int 0, .ref vTo, .int 0, .int 0, .int 0, .int 16777215, .int 0, .int 0, .ref vPr, .ref vSt, .ref vFn, .int 0, .ref vSg, .ref vAl, .int 0])), (vSg, .inl (cI, 16, .inl (fun _ => 0)))] s₀.heap.size = A at hD ⊢
  have hA : ∀ q : Nat, s₀.heap.size ≤ q → A q := fun q h => by rw [← hAe]; exact Or.inr h
  have hS : va_S A s₀.heap s₀.heap [] := va_S.rf
  have hP : va_P (dC, dI) vwCl [(hm, .inr (11, [.ref vFo, .ref vSi, .ref vIt, .ref vMo, .int 0, .ref vBy, .ref vTy, .int 0, .ref vMi, .int 0, .ref vPs, .int 0, .ref vGs, .int 0, .ref vFt, .int 0, .ref vTo, .int 0, .int 0, .int 0, .int 16777215, .int 0, .int 0, .ref vPr, .ref vSt, .ref vFn, .int 0, .ref vSg, .ref vAl, .int 0])), (vSg, .inl (cI, 16, .inl (fun _ => 0)))] s₀.heap := hP
  have hl := lv_entry ([.ref hm, .int f, .int k]) (n := 3) (Nat.le_of_ble_eq_true rfl)
  rw [lg_entry_eq]
  generalize (lg_sl ([.ref hm, .int f, .int k]) ++ List.replicate (3 - (lg_sl ([.ref hm, .int f, .int k])).length) Slot.unset).toArray = ls at hl ⊢
  have hl : lv_has ls 3 [(0, .ref hm), (1, .int f), (2, .int k)] := hl
  obtain ⟨H, hH⟩ : ∃ z : Heap, z = s₀.heap := ⟨_, rfl⟩
  rw [← hH] at hP
  have hS : va_S A s₀.heap H [] := by rw [hH]; exact hS
  refine k_heap hH ?_
  have hD : va_D A [(hm, .inr (11, [.ref vFo, .ref vSi, .ref vIt, .ref vMo, .int 0, .ref vBy, .ref vTy, .int 0, .ref vMi, .int 0, .ref vPs, .int 0, .ref vGs, .int 0, .ref vFt, .int 0, .ref vTo, .int 0, .int 0, .int 0, .int 16777215, .int 0, .int 0, .ref vPr, .ref vSt, .ref vFn, .int 0, .ref vSg, .ref vAl, .int 0])), (vSg, .inl (cI, 16, .inl (fun _ => 0)))] := hD
  obtain ⟨locs, hlo⟩ : ∃ z : List Loc, z = [] := ⟨_, rfl⟩
  rw [← hlo] at hS ⊢
  clear hlo hH hAe hD0
  refine lv_iload_n hx₀ hb dX12_seen_0 rfl (lv_at hl 1 rfl) ?_
  refine lv_i2l hx₀ hb dX12_seen_1 rfl ?_
  refine lv_lconst (v := 0) hx₀ hb dX12_seen_2 (by decide +kernel) ?_
  refine lv_ldc2 (v := 7) hx₀ hb hown (hts (.constantLong RX12 155 (7)) wd_362) dX12_seen_3 ?_
  have hPc := hP.sub (ws' := []) [] rfl
  have hDc := hD.sub (ws' := []) [] (by decide) rfl
  have hFc := va_free (wc := []) hD hS hA [] rfl
  refine va_calli (va_runS (As := [.long f.toInt64, .long 0, .long 7]) (rest := []) ⟨hx₀, hb, hml, hown, hts⟩ (c_in l dC dI cI cJ cQ H.size f.toInt64 0 7) (va_cwS 3 hts (kGS wd_208 wd_206 wd_207 wd_5) rfl rfl rfl (by decide +kernel) ⟨Nat.le_of_ble_eq_true rfl, Nat.le_of_ble_eq_true rfl⟩) (k_preS hK hPc hDc hN) rfl rfl hl.1 rfl (lv_room (Nat.le_of_ble_eq_true rfl)) dX12_seen_6 ⟨by decide +kernel, by decide +kernel⟩) hS (fun q _ h => hFc q h) hFc (fun r_1 u₀ t₀ H1 locs ht hvm hw hB hz1 hk1 hS => ?_)
  obtain ⟨hP1, hK1, hD1⟩ := hB
  rw [ht] at hP1
  obtain ⟨hP, hD⟩ := va_join (wr := [(hm, .inr (11, [.ref vFo, .ref vSi, .ref vIt, .ref vMo, .int 0, .ref vBy, .ref vTy, .int 0, .ref vMi, .int 0, .ref vPs, .int 0, .ref vGs, .int 0, .ref vFt, .int 0, .ref vTo, .int 0, .int 0, .int 0, .int 16777215, .int 0, .int 0, .ref vPr, .ref vSt, .ref vFn, .int 0, .ref vSg, .ref vAl, .int 0])), (vSg, .inl (cI, 16, .inl (fun _ => 0)))]) (w1 := []) hP hD [] [0, 1] rfl rfl (by decide) (by decide) hk1 hFc hP1 hD1
  generalize H1 = H at hP hS ⊢
  have hP : va_P (dC, dI) vwCl [(hm, .inr (11, [.ref vFo, .ref vSi, .ref vIt, .ref vMo, .int 0, .ref vBy, .ref vTy, .int 0, .ref vMi, .int 0, .ref vPs, .int 0, .ref vGs, .int 0, .ref vFt, .int 0, .ref vTo, .int 0, .int 0, .int 0, .int 16777215, .int 0, .int 0, .ref vPr, .ref vSt, .ref vFn, .int 0, .ref vSg, .ref vAl, .int 0])), (vSg, .inl (cI, 16, .inl (fun _ => 0)))] H := hP
  have hD : va_D A [(hm, .inr (11, [.ref vFo, .ref vSi, .ref vIt, .ref vMo, .int 0, .ref vBy, .ref vTy, .int 0, .ref vMi, .int 0, .ref vPs, .int 0, .ref vGs, .int 0, .ref vFt, .int 0, .ref vTo, .int 0, .int 0, .int 0, .int 16777215, .int 0, .int 0, .ref vPr, .ref vSt, .ref vFn, .int 0, .ref vSg, .ref vAl, .int 0])), (vSg, .inl (cI, 16, .inl (fun _ => 0)))] := hD
  try dsimp only at hw
  by_cases c_2 : (0 : Int64) ≤ f.toInt64 ∧ f.toInt64 ≤ (7 : Int64)
  · rw [if_pos c_2] at hw
    refine k_topi (v := 1) hw ?_
    refine lv_if_eq (tgt := 24) hx₀ hb dX12_seen_9 (by decide) (fun c9 => absurd c9 (by decide +kernel)) (fun _ => ?_)
    refine lv_iload_n hx₀ hb dX12_seen_12 rfl (lv_at hl 2 rfl) ?_
    refine lv_i2l hx₀ hb dX12_seen_13 rfl ?_
    refine lv_lconst (v := 0) hx₀ hb dX12_seen_14 (by decide +kernel) ?_
    refine lv_ldc2 (v := 24) hx₀ hb hown (hts (.constantLong RX12 238 (24)) wd_695) dX12_seen_15 ?_
    have hPc := hP.sub (ws' := []) [] rfl
    have hDc := hD.sub (ws' := []) [] (by decide) rfl
    have hFc := va_free (wc := []) hD hS hA [] rfl
    refine va_calli (va_runS (As := [.long k.toInt64, .long 0, .long 24]) (rest := []) ⟨hx₀, hb, hml, hown, hts⟩ (c_in l dC dI cI cJ cQ H.size k.toInt64 0 24) (va_cwS 3 hts (kGS wd_208 wd_206 wd_207 wd_5) rfl rfl rfl (by decide +kernel) ⟨Nat.le_of_ble_eq_true rfl, Nat.le_of_ble_eq_true rfl⟩) (k_preS hK hPc hDc hN) rfl rfl hl.1 rfl (lv_room (Nat.le_of_ble_eq_true rfl)) dX12_seen_18 ⟨by decide +kernel, by decide +kernel⟩) hS (fun q _ h => hFc q h) hFc (fun r_3 u₀ t₀ H1 locs ht hvm hw hB hz1 hk1 hS => ?_)
    obtain ⟨hP1, hK1, hD1⟩ := hB
    rw [ht] at hP1
    obtain ⟨hP, hD⟩ := va_join (wr := [(hm, .inr (11, [.ref vFo, .ref vSi, .ref vIt, .ref vMo, .int 0, .ref vBy, .ref vTy, .int 0, .ref vMi, .int 0, .ref vPs, .int 0, .ref vGs, .int 0, .ref vFt, .int 0, .ref vTo, .int 0, .int 0, .int 0, .int 16777215, .int 0, .int 0, .ref vPr, .ref vSt, .ref vFn, .int 0, .ref vSg, .ref vAl, .int 0])), (vSg, .inl (cI, 16, .inl (fun _ => 0)))]) (w1 := []) hP hD [] [0, 1] rfl rfl (by decide) (by decide) hk1 hFc hP1 hD1
    generalize H1 = H at hP hS ⊢
    have hP : va_P (dC, dI) vwCl [(hm, .inr (11, [.ref vFo, .ref vSi, .ref vIt, .ref vMo, .int 0, .ref vBy, .ref vTy, .int 0, .ref vMi, .int 0, .ref vPs, .int 0, .ref vGs, .int 0, .ref vFt, .int 0, .ref vTo, .int 0, .int 0, .int 0, .int 16777215, .int 0, .int 0, .ref vPr, .ref vSt, .ref vFn, .int 0, .ref vSg, .ref vAl, .int 0])), (vSg, .inl (cI, 16, .inl (fun _ => 0)))] H := hP
    have hD : va_D A [(hm, .inr (11, [.ref vFo, .ref vSi, .ref vIt, .ref vMo, .int 0, .ref vBy, .ref vTy, .int 0, .ref vMi, .int 0, .ref vPs, .int 0, .ref vGs, .int 0, .ref vFt, .int 0, .ref vTo, .int 0, .int 0, .int 0, .int 16777215, .int 0, .int 0, .ref vPr, .ref vSt, .ref vFn, .int 0, .ref vSg, .ref vAl, .int 0])), (vSg, .inl (cI, 16, .inl (fun _ => 0)))] := hD
    try dsimp only at hw
    by_cases c_4 : (0 : Int64) ≤ k.toInt64 ∧ k.toInt64 ≤ (24 : Int64)
    · rw [if_pos c_4] at hw
      refine k_topi (v := 1) hw ?_
      refine lv_if_ne (tgt := 27) hx₀ hb dX12_seen_21 (by decide) (fun _ => ?_) (fun c9 => absurd c9 (by decide +kernel))
      refine lv_aload_n hx₀ hb dX12_seen_27 rfl (lv_at hl 0 rfl) ?_
      refine va_get (D := (dC, dI)) (ci := 11) (v := .int 0) (C := RX12) (T := TX12) (N := 30) hx₀ hb hts inlX12 hown hK hP 0 rfl rfl 26 (by decide) (hts (.fieldLink RX12 240 "BittenStickModel" "sights" "I") wd_696) (fun _ h9 => h9) rfl dX12_seen_28 ?_
      refine lv_bipush (v := 8) hx₀ hb dX12_seen_31 (by decide +kernel) ?_
      refine lv_icmp_ne (tgt := 39) hx₀ hb dX12_seen_33 (by decide) (fun _ => ?_) (fun c9 => absurd c9 (by decide +kernel))
      refine lv_aload_n hx₀ hb dX12_seen_39 rfl (lv_at hl 0 rfl) ?_
      refine va_get (D := (dC, dI)) (ci := 11) (v := .ref vSg) (C := RX12) (T := TX12) (N := 30) hx₀ hb hts inlX12 hown hK hP 0 rfl rfl 27 (by decide) (hts (.fieldLink RX12 52 "BittenStickModel" "sight" "[I") wd_129) (fun _ h9 => h9) rfl dX12_seen_40 ?_
      refine lv_iconst (v := 2) hx₀ hb dX12_seen_43 (by decide +kernel) ?_
      refine lv_aload_n hx₀ hb dX12_seen_44 rfl (lv_at hl 0 rfl) ?_
      refine va_get (D := (dC, dI)) (ci := 11) (v := .int 0) (C := RX12) (T := TX12) (N := 30) hx₀ hb hts inlX12 hown hK hP 0 rfl rfl 26 (by decide) (hts (.fieldLink RX12 240 "BittenStickModel" "sights" "I") wd_696) (fun _ h9 => h9) rfl dX12_seen_45 ?_
      refine lv_imul hx₀ hb dX12_seen_48 ?_
      refine k_topi (v := 0) (by decide +kernel) ?_
      refine lv_iload_n hx₀ hb dX12_seen_49 rfl (lv_at hl 1 rfl) ?_
      refine va_iast hx₀ hb hK hP hD hS 1 0 rfl rfl (by unfold vp_in; decide +kernel) dX12_seen_50 (fun H locs hP hD hS => ?_)
      have hP : va_P (dC, dI) vwCl [(hm, .inr (11, [.ref vFo, .ref vSi, .ref vIt, .ref vMo, .int 0, .ref vBy, .ref vTy, .int 0, .ref vMi, .int 0, .ref vPs, .int 0, .ref vGs, .int 0, .ref vFt, .int 0, .ref vTo, .int 0, .int 0, .int 0, .int 16777215, .int 0, .int 0, .ref vPr, .ref vSt, .ref vFn, .int 0, .ref vSg, .ref vAl, .int 0])), (vSg, .inl (cI, 16, .inl (upd (fun _ => 0) (0 : Int32).toNatClampNeg f)))] H := hP
      have hD : va_D A [(hm, .inr (11, [.ref vFo, .ref vSi, .ref vIt, .ref vMo, .int 0, .ref vBy, .ref vTy, .int 0, .ref vMi, .int 0, .ref vPs, .int 0, .ref vGs, .int 0, .ref vFt, .int 0, .ref vTo, .int 0, .int 0, .int 0, .int 16777215, .int 0, .int 0, .ref vPr, .ref vSt, .ref vFn, .int 0, .ref vSg, .ref vAl, .int 0])), (vSg, .inl (cI, 16, .inl (upd (fun _ => 0) (0 : Int32).toNatClampNeg f)))] := hD
      refine lv_aload_n hx₀ hb dX12_seen_51 rfl (lv_at hl 0 rfl) ?_
      refine va_get (D := (dC, dI)) (ci := 11) (v := .ref vSg) (C := RX12) (T := TX12) (N := 30) hx₀ hb hts inlX12 hown hK hP 0 rfl rfl 27 (by decide) (hts (.fieldLink RX12 52 "BittenStickModel" "sight" "[I") wd_129) (fun _ h9 => h9) rfl dX12_seen_52 ?_
      refine lv_iconst (v := 2) hx₀ hb dX12_seen_55 (by decide +kernel) ?_
      refine lv_aload_n hx₀ hb dX12_seen_56 rfl (lv_at hl 0 rfl) ?_
      refine va_get (D := (dC, dI)) (ci := 11) (v := .int 0) (C := RX12) (T := TX12) (N := 30) hx₀ hb hts inlX12 hown hK hP 0 rfl rfl 26 (by decide) (hts (.fieldLink RX12 240 "BittenStickModel" "sights" "I") wd_696) (fun _ h9 => h9) rfl dX12_seen_57 ?_
      refine lv_imul hx₀ hb dX12_seen_60 ?_
      refine k_topi (v := 0) (by decide +kernel) ?_
      refine lv_iconst (v := 1) hx₀ hb dX12_seen_61 (by decide +kernel) ?_
      refine lv_iadd hx₀ hb dX12_seen_62 ?_
      refine k_topi (v := 1) (by decide +kernel) ?_
      refine lv_iload_n hx₀ hb dX12_seen_63 rfl (lv_at hl 2 rfl) ?_
      refine va_iast hx₀ hb hK hP hD hS 1 0 rfl rfl (by unfold vp_in; decide +kernel) dX12_seen_64 (fun H locs hP hD hS => ?_)
      have hP : va_P (dC, dI) vwCl [(hm, .inr (11, [.ref vFo, .ref vSi, .ref vIt, .ref vMo, .int 0, .ref vBy, .ref vTy, .int 0, .ref vMi, .int 0, .ref vPs, .int 0, .ref vGs, .int 0, .ref vFt, .int 0, .ref vTo, .int 0, .int 0, .int 0, .int 16777215, .int 0, .int 0, .ref vPr, .ref vSt, .ref vFn, .int 0, .ref vSg, .ref vAl, .int 0])), (vSg, .inl (cI, 16, .inl (upd (upd (fun _ => 0) (0 : Int32).toNatClampNeg f) (1 : Int32).toNatClampNeg k)))] H := hP
      have hD : va_D A [(hm, .inr (11, [.ref vFo, .ref vSi, .ref vIt, .ref vMo, .int 0, .ref vBy, .ref vTy, .int 0, .ref vMi, .int 0, .ref vPs, .int 0, .ref vGs, .int 0, .ref vFt, .int 0, .ref vTo, .int 0, .int 0, .int 0, .int 16777215, .int 0, .int 0, .ref vPr, .ref vSt, .ref vFn, .int 0, .ref vSg, .ref vAl, .int 0])), (vSg, .inl (cI, 16, .inl (upd (upd (fun _ => 0) (0 : Int32).toNatClampNeg f) (1 : Int32).toNatClampNeg k)))] := hD
      refine lv_aload_n hx₀ hb dX12_seen_65 rfl (lv_at hl 0 rfl) ?_
      refine lv_dup hx₀ hb dX12_seen_66 rfl ?_
      refine va_get (D := (dC, dI)) (ci := 11) (v := .int 0) (C := RX12) (T := TX12) (N := 30) hx₀ hb hts inlX12 hown hK hP 0 rfl rfl 26 (by decide) (hts (.fieldLink RX12 240 "BittenStickModel" "sights" "I") wd_696) (fun _ h9 => h9) rfl dX12_seen_67 ?_
      refine lv_iconst (v := 1) hx₀ hb dX12_seen_70 (by decide +kernel) ?_
      refine lv_iadd hx₀ hb dX12_seen_71 ?_
      refine k_topi (v := 1) (by decide +kernel) ?_
      refine va_put (D := (dC, dI)) (ci := 11) (v := .int 1) (ty := .int) (C := RX12) (T := TX12) (N := 30) hx₀ hb hts inlX12 tyX12 tyX12_ok nmX12 hown hK hP hD hS 0 rfl rfl 26 (by decide) (hts (.fieldLink RX12 240 "BittenStickModel" "sights" "I") wd_696) (fun _ h9 => h9) rfl (by decide +kernel) rfl rfl (Nat.le_of_ble_eq_true rfl) dX12_seen_72 (fun H locs hP hD hS => ?_)
      have hP : va_P (dC, dI) vwCl [(hm, .inr (11, [.ref vFo, .ref vSi, .ref vIt, .ref vMo, .int 0, .ref vBy, .ref vTy, .int 0, .ref vMi, .int 0, .ref vPs, .int 0, .ref vGs, .int 0, .ref vFt, .int 0, .ref vTo, .int 0, .int 0, .int 0, .int 16777215, .int 0, .int 0, .ref vPr, .ref vSt, .ref vFn, .int 1, .ref vSg, .ref vAl, .int 0])), (vSg, .inl (cI, 16, .inl (upd (upd (fun _ => 0) (0 : Int32).toNatClampNeg f) (1 : Int32).toNatClampNeg k)))] H := hP
      have hD : va_D A [(hm, .inr (11, [.ref vFo, .ref vSi, .ref vIt, .ref vMo, .int 0, .ref vBy, .ref vTy, .int 0, .ref vMi, .int 0, .ref vPs, .int 0, .ref vGs, .int 0, .ref vFt, .int 0, .ref vTo, .int 0, .int 0, .int 0, .int 16777215, .int 0, .int 0, .ref vPr, .ref vSt, .ref vFn, .int 1, .ref vSg, .ref vAl, .int 0])), (vSg, .inl (cI, 16, .inl (upd (upd (fun _ => 0) (0 : Int32).toNatClampNeg f) (1 : Int32).toNatClampNeg k)))] := hD
      refine lv_aload_n hx₀ hb dX12_seen_75 rfl (lv_at hl 0 rfl) ?_
      refine va_get (D := (dC, dI)) (ci := 11) (v := .int 1) (C := RX12) (T := TX12) (N := 30) hx₀ hb hts inlX12 hown hK hP 0 rfl rfl 26 (by decide) (hts (.fieldLink RX12 240 "BittenStickModel" "sights" "I") wd_696) (fun _ h9 => h9) rfl dX12_seen_76 ?_
      exact W.iret (v := 1) hx₀ hb hr (fun t₀ ht hW => ⟨⟨1, (), rfl, (lf_m_seen_1 f k c_2 c_4), trivial⟩, hS.F ht⟩) hS.2.2 dX12_seen_79
    rw [if_neg c_4] at hw
    refine k_topi (v := 0) hw ?_
    refine lv_if_ne (tgt := 27) hx₀ hb dX12_seen_21 (by decide) (fun c9 => absurd (by decide +kernel) c9) (fun _ => ?_)
    refine lv_bipush (v := (-2)) hx₀ hb dX12_seen_24 (by decide +kernel) ?_
    exact W.iret (v := (-2)) hx₀ hb hr (fun t₀ ht hW => ⟨⟨(-2), (), rfl, (lf_m_seen_2 f k c_2 c_4), trivial⟩, hS.F ht⟩) hS.2.2 dX12_seen_26
  rw [if_neg c_2] at hw
  refine k_topi (v := 0) hw ?_
  refine lv_if_eq (tgt := 24) hx₀ hb dX12_seen_9 (by decide) (fun _ => ?_) (fun c9 => absurd (by decide +kernel) c9)
  refine lv_bipush (v := (-2)) hx₀ hb dX12_seen_24 (by decide +kernel) ?_
  exact W.iret (v := (-2)) hx₀ hb hr (fun t₀ ht hW => ⟨⟨(-2), (), rfl, (lf_m_seen_3 f k c_2), trivial⟩, hS.F ht⟩) hS.2.2 dX12_seen_26
set_option maxHeartbeats 4000000 in
set_option maxRecDepth 100000 in
theorem m_forget (l : Launch) (dC : Nat → ClassId) (dI : Nat → Nat → Nat) (cI cJ cQ : ClassId) (sz : Nat) (hm : Nat) (vFo : Nat) (vSi : Nat) (vIt : Nat) (vMo : Nat) (vBy : Nat) (vTy : Nat) (vMi : Nat) (vPs : Nat) (vGs : Nat) (vFt : Nat) (vTo : Nat) (vPr : Nat) (vSt : Nat) (vFn : Nat) (vSg : Nat) (vAl : Nat) : Met l yX12_forget (kW yX12_forget cX12_forget 2 (some .int)) { frames := 0, cells := 0, slots := 0, locals := 0 } (kPre dC dI cI cJ cQ sz [.ref hm] [(hm, .inr (11, [.ref vFo, .ref vSi, .ref vIt, .ref vMo, .int 0, .ref vBy, .ref vTy, .int 0, .ref vMi, .int 0, .ref vPs, .int 0, .ref vGs, .int 0, .ref vFt, .int 0, .ref vTo, .int 0, .int 0, .int 0, .int 16777215, .int 0, .int 0, .ref vPr, .ref vSt, .ref vFn, .int 0, .ref vSg, .ref vAl, .int 0]))]) (va_Qi (fun (r : Int32) (_ : Unit) => r = 0) (fun _ _ => True) (va_A [(hm, .inr (11, [.ref vFo, .ref vSi, .ref vIt, .ref vMo, .int 0, .ref vBy, .ref vTy, .int 0, .ref vMi, .int 0, .ref vPs, .int 0, .ref vGs, .int 0, .ref vFt, .int 0, .ref vTo, .int 0, .int 0, .int 0, .int 16777215, .int 0, .int 0, .ref vPr, .ref vSt, .ref vFn, .int 0, .ref vSg, .ref vAl, .int 0]))] sz)) 0 0 (va_A [(hm, .inr (11, [.ref vFo, .ref vSi, .ref vIt, .ref vMo, .int 0, .ref vBy, .ref vTy, .int 0, .ref vMi, .int 0, .ref vPs, .int 0, .ref vGs, .int 0, .ref vFt, .int 0, .ref vTo, .int 0, .int 0, .int 0, .int 16777215, .int 0, .int 0, .ref vPr, .ref vSt, .ref vFn, .int 0, .ref vSg, .ref vAl, .int 0]))] sz) := by
  refine Met.ofW (cc := cX12_forget) (maxL := 2) (ret := (some .int)) (by decide) rfl ?_
  intro p₀ e₀ s₀ m₀ args below meth c₀ s₁ B hml hv₀
  obtain ⟨rfl, hsz, hP, hK, hD0, hN⟩ := hv₀
  have hx₀ := B.exec
  have hb := B.bytes
  have hr := B.returns
  have hts := atoms_spec (ws := (kW yX12_forget cX12_forget 2 (some .int))) B.pre
  have hts := fun w h => hts w (List.mem_cons_of_mem _ h)
  have hown : s₀.vm.findClass RX12 = some m₀.cls := findClass_of_methodNamed B.named
  have hlocks := B.notSynchronized
  subst hsz
  have hD := hD0.self (sz := s₀.heap.size)
  generalize hAe : va_A [(hm, .inr (11, [.ref vFo, .ref vSi, .ref vIt, .ref vMo, .int 0, .ref vBy, .ref vTy, .int 0, .ref vMi, .int 0, .ref vPs, .int 0, .ref vGs, .int 0, .ref vFt, .int 0, .ref vTo, .int 0, .int 0, .int 0, .int 16777215, .int 0, .int 0, .ref vPr, .ref vSt, .ref vFn, .int 0, .ref vSg, .ref vAl, .int 0]))] s₀.heap.size = A at hD ⊢
  have hA : ∀ q : Nat, s₀.heap.size ≤ q → A q := fun q h => by rw [← hAe]; exact Or.inr h
  have hS : va_S A s₀.heap s₀.heap [] := va_S.rf
  have hP : va_P (dC, dI) vwCl [(hm, .inr (11, [.ref vFo, .ref vSi, .ref vIt, .ref vMo, .int 0, .ref vBy, .ref vTy, .int 0, .ref vMi, .int 0, .ref vPs, .int 0, .ref vGs, .int 0, .ref vFt, .int 0, .ref vTo, .int 0, .int 0, .int 0, .int 16777215, .int 0, .int 0, .ref vPr, .ref vSt, .ref vFn, .int 0, .ref vSg, .ref vAl, .int 0]))] s₀.heap := hP
  have hl := lv_entry ([.ref hm]) (n := 2) (Nat.le_of_ble_eq_true rfl)
  rw [lg_entry_eq]
  generalize (lg_sl ([.ref hm]) ++ List.replicate (2 - (lg_sl ([.ref hm])).length) Slot.unset).toArray = ls at hl ⊢
  have hl : lv_has ls 2 [(0, .ref hm)] := hl
  obtain ⟨H, hH⟩ : ∃ z : Heap, z = s₀.heap := ⟨_, rfl⟩
  rw [← hH] at hP
  have hS : va_S A s₀.heap H [] := by rw [hH]; exact hS
  refine k_heap hH ?_
  have hD : va_D A [(hm, .inr (11, [.ref vFo, .ref vSi, .ref vIt, .ref vMo, .int 0, .ref vBy, .ref vTy, .int 0, .ref vMi, .int 0, .ref vPs, .int 0, .ref vGs, .int 0, .ref vFt, .int 0, .ref vTo, .int 0, .int 0, .int 0, .int 16777215, .int 0, .int 0, .ref vPr, .ref vSt, .ref vFn, .int 0, .ref vSg, .ref vAl, .int 0]))] := hD
  obtain ⟨locs, hlo⟩ : ∃ z : List Loc, z = [] := ⟨_, rfl⟩
  rw [← hlo] at hS ⊢
  clear hlo hH hAe hD0
  refine lv_aload_n hx₀ hb dX12_forget_0 rfl (lv_at hl 0 rfl) ?_
  refine va_get (D := (dC, dI)) (ci := 11) (v := .int 0) (C := RX12) (T := TX12) (N := 30) hx₀ hb hts inlX12 hown hK hP 0 rfl rfl 26 (by decide) (hts (.fieldLink RX12 240 "BittenStickModel" "sights" "I") wd_696) (fun _ h9 => h9) rfl dX12_forget_1 ?_
  refine lv_istore_n (lv' := [(1, .int 0), (0, .ref hm)]) hx₀ hb dX12_forget_4 rfl hl (by decide) rfl (fun ls hl => ?_)
  refine lv_aload_n hx₀ hb dX12_forget_5 rfl (lv_at hl 1 rfl) ?_
  refine lv_iconst (v := 0) hx₀ hb dX12_forget_6 (by decide +kernel) ?_
  refine va_put (D := (dC, dI)) (ci := 11) (v := .int 0) (ty := .int) (C := RX12) (T := TX12) (N := 30) hx₀ hb hts inlX12 tyX12 tyX12_ok nmX12 hown hK hP hD hS 0 rfl rfl 26 (by decide) (hts (.fieldLink RX12 240 "BittenStickModel" "sights" "I") wd_696) (fun _ h9 => h9) rfl (by decide +kernel) rfl rfl (Nat.le_of_ble_eq_true rfl) dX12_forget_7 (fun H locs hP hD hS => ?_)
  have hP : va_P (dC, dI) vwCl [(hm, .inr (11, [.ref vFo, .ref vSi, .ref vIt, .ref vMo, .int 0, .ref vBy, .ref vTy, .int 0, .ref vMi, .int 0, .ref vPs, .int 0, .ref vGs, .int 0, .ref vFt, .int 0, .ref vTo, .int 0, .int 0, .int 0, .int 16777215, .int 0, .int 0, .ref vPr, .ref vSt, .ref vFn, .int 0, .ref vSg, .ref vAl, .int 0]))] H := hP
  have hD : va_D A [(hm, .inr (11, [.ref vFo, .ref vSi, .ref vIt, .ref vMo, .int 0, .ref vBy, .ref vTy, .int 0, .ref vMi, .int 0, .ref vPs, .int 0, .ref vGs, .int 0, .ref vFt, .int 0, .ref vTo, .int 0, .int 0, .int 0, .int 16777215, .int 0, .int 0, .ref vPr, .ref vSt, .ref vFn, .int 0, .ref vSg, .ref vAl, .int 0]))] := hD
  refine lv_iload_n hx₀ hb dX12_forget_10 rfl (lv_at hl 0 rfl) ?_
  exact W.iret (v := 0) hx₀ hb hr (fun t₀ ht hW => ⟨⟨0, (), rfl, rfl, trivial⟩, hS.F ht⟩) hS.2.2 dX12_forget_11
set_option maxHeartbeats 4000000 in
set_option maxRecDepth 100000 in
theorem m_sores (l : Launch) (dC : Nat → ClassId) (dI : Nat → Nat → Nat) (cI cJ cQ : ClassId) (sz : Nat) (hm : Nat) (k : Int32) (vFo : Nat) (vSi : Nat) (vIt : Nat) (vMo : Nat) (vBy : Nat) (vTy : Nat) (vMi : Nat) (vPs : Nat) (vGs : Nat) (vFt : Nat) (vTo : Nat) (vPr : Nat) (vSt : Nat) (vFn : Nat) (vSg : Nat) (vAl : Nat) : Met l yX12_sores (kW yX12_sores cX12_sores 2 (some .int)) { frames := 2, cells := 0, slots := 0, locals := 46 } (kPre dC dI cI cJ cQ sz [.ref hm, .int k] [(hm, .inr (11, [.ref vFo, .ref vSi, .ref vIt, .ref vMo, .int 0, .ref vBy, .ref vTy, .int 0, .ref vMi, .int 0, .ref vPs, .int 0, .ref vGs, .int 0, .ref vFt, .int 0, .ref vTo, .int 0, .int 0, .int 0, .int 16777215, .int 0, .int 0, .ref vPr, .ref vSt, .ref vFn, .int 0, .ref vSg, .ref vAl, .int 0])), (vTy, .inl (cI, 3, .inl (fun _ => 0)))]) (va_Qi (fun (r : Int32) (_ : Unit) => r = -2) (fun _ _ => True) (va_A [(hm, .inr (11, [.ref vFo, .ref vSi, .ref vIt, .ref vMo, .int 0, .ref vBy, .ref vTy, .int 0, .ref vMi, .int 0, .ref vPs, .int 0, .ref vGs, .int 0, .ref vFt, .int 0, .ref vTo, .int 0, .int 0, .int 0, .int 16777215, .int 0, .int 0, .ref vPr, .ref vSt, .ref vFn, .int 0, .ref vSg, .ref vAl, .int 0])), (vTy, .inl (cI, 3, .inl (fun _ => 0)))] sz)) 0 0 (va_A [(hm, .inr (11, [.ref vFo, .ref vSi, .ref vIt, .ref vMo, .int 0, .ref vBy, .ref vTy, .int 0, .ref vMi, .int 0, .ref vPs, .int 0, .ref vGs, .int 0, .ref vFt, .int 0, .ref vTo, .int 0, .int 0, .int 0, .int 16777215, .int 0, .int 0, .ref vPr, .ref vSt, .ref vFn, .int 0, .ref vSg, .ref vAl, .int 0])), (vTy, .inl (cI, 3, .inl (fun _ => 0)))] sz) := by
  refine Met.ofW (cc := cX12_sores) (maxL := 2) (ret := (some .int)) (by decide) rfl ?_
  intro p₀ e₀ s₀ m₀ args below meth c₀ s₁ B hml hv₀
  obtain ⟨rfl, hsz, hP, hK, hD0, hN⟩ := hv₀
  have hx₀ := B.exec
  have hb := B.bytes
  have hr := B.returns
  have hts := atoms_spec (ws := (kW yX12_sores cX12_sores 2 (some .int))) B.pre
  have hts := fun w h => hts w (List.mem_cons_of_mem _ h)
  have hown : s₀.vm.findClass RX12 = some m₀.cls := findClass_of_methodNamed B.named
  have hlocks := B.notSynchronized
  subst hsz
  have hD := hD0.self (sz := s₀.heap.size)
  generalize hAe : va_A [(hm, .inr (11, [.ref vFo, .ref vSi, .ref vIt, .ref vMo, .int 0, .ref vBy, .ref vTy, .int 0, .ref vMi, .int 0, .ref vPs, .int 0, .ref vGs, .int 0, .ref vFt, .int 0, .ref vTo, .int 0, .int 0, .int 0, .int 16777215, .int 0, .int 0, .ref vPr, .ref vSt, .ref vFn, .int 0, .ref vSg, .ref vAl, .int 0])), (vTy, .inl (cI, 3, .inl (fun _ => 0)))] s₀.heap.size = A at hD ⊢
  have hA : ∀ q : Nat, s₀.heap.size ≤ q → A q := fun q h => by rw [← hAe]; exact Or.inr h
  have hS : va_S A s₀.heap s₀.heap [] := va_S.rf
  have hP : va_P (dC, dI) vwCl [(hm, .inr (11, [.ref vFo, .ref vSi, .ref vIt, .ref vMo, .int 0, .ref vBy, .ref vTy, .int 0, .ref vMi, .int 0, .ref vPs, .int 0, .ref vGs, .int 0, .ref vFt, .int 0, .ref vTo, .int 0, .int 0, .int 0, .int 16777215, .int 0, .int 0, .ref vPr, .ref vSt, .ref vFn, .int 0, .ref vSg, .ref vAl, .int 0])), (vTy, .inl (cI, 3, .inl (fun _ => 0)))] s₀.heap := hP
  have hl := lv_entry ([.ref hm, .int k]) (n := 2) (Nat.le_of_ble_eq_true rfl)
  rw [lg_entry_eq]
  generalize (lg_sl ([.ref hm, .int k]) ++ List.replicate (2 - (lg_sl ([.ref hm, .int k])).length) Slot.unset).toArray = ls at hl ⊢
  have hl : lv_has ls 2 [(0, .ref hm), (1, .int k)] := hl
  obtain ⟨H, hH⟩ : ∃ z : Heap, z = s₀.heap := ⟨_, rfl⟩
  rw [← hH] at hP
  have hS : va_S A s₀.heap H [] := by rw [hH]; exact hS
  refine k_heap hH ?_
  have hD : va_D A [(hm, .inr (11, [.ref vFo, .ref vSi, .ref vIt, .ref vMo, .int 0, .ref vBy, .ref vTy, .int 0, .ref vMi, .int 0, .ref vPs, .int 0, .ref vGs, .int 0, .ref vFt, .int 0, .ref vTo, .int 0, .int 0, .int 0, .int 16777215, .int 0, .int 0, .ref vPr, .ref vSt, .ref vFn, .int 0, .ref vSg, .ref vAl, .int 0])), (vTy, .inl (cI, 3, .inl (fun _ => 0)))] := hD
  obtain ⟨locs, hlo⟩ : ∃ z : List Loc, z = [] := ⟨_, rfl⟩
  rw [← hlo] at hS ⊢
  clear hlo hH hAe hD0
  refine lv_aload_n hx₀ hb dX12_sores_0 rfl (lv_at hl 0 rfl) ?_
  have hPc := hP.sub (ws' := [(hm, .inr (11, [.ref vFo, .ref vSi, .ref vIt, .ref vMo, .int 0, .ref vBy, .ref vTy, .int 0, .ref vMi, .int 0, .ref vPs, .int 0, .ref vGs, .int 0, .ref vFt, .int 0, .ref vTo, .int 0, .int 0, .int 0, .int 16777215, .int 0, .int 0, .ref vPr, .ref vSt, .ref vFn, .int 0, .ref vSg, .ref vAl, .int 0])), (vTy, .inl (cI, 3, .inl (fun _ => 0)))]) [0, 1] rfl
  have hDc := hD.sub (ws' := [(hm, .inr (11, [.ref vFo, .ref vSi, .ref vIt, .ref vMo, .int 0, .ref vBy, .ref vTy, .int 0, .ref vMi, .int 0, .ref vPs, .int 0, .ref vGs, .int 0, .ref vFt, .int 0, .ref vTo, .int 0, .int 0, .int 0, .int 16777215, .int 0, .int 0, .ref vPr, .ref vSt, .ref vFn, .int 0, .ref vSg, .ref vAl, .int 0])), (vTy, .inl (cI, 3, .inl (fun _ => 0)))]) [0, 1] (by decide) rfl
  have hFc := va_free (wc := [(hm, .inr (11, [.ref vFo, .ref vSi, .ref vIt, .ref vMo, .int 0, .ref vBy, .ref vTy, .int 0, .ref vMi, .int 0, .ref vPs, .int 0, .ref vGs, .int 0, .ref vFt, .int 0, .ref vTo, .int 0, .int 0, .int 0, .int 16777215, .int 0, .int 0, .ref vPr, .ref vSt, .ref vFn, .int 0, .ref vSg, .ref vAl, .int 0])), (vTy, .inl (cI, 3, .inl (fun _ => 0)))]) hD hS hA [0, 1] rfl
  refine va_callv (va_runV (As := []) (rest := []) ⟨hx₀, hb, hml, hown, hts⟩ (m_reads l dC dI cI cJ cQ H.size hm vFo vSi vIt vMo vBy vTy vMi vPs vGs vFt vTo vPr vSt vFn vSg vAl) (cwV 0 hts (kGV wd_298 wd_295 wd_296 wd_297 wd_5) rfl rfl rfl (by decide +kernel) ⟨Nat.le_of_ble_eq_true rfl, Nat.le_of_ble_eq_true rfl⟩) (k_preV (ci := 11) (q0 := 0) hK hPc hDc hN rfl rfl) rfl rfl hl.1 rfl (lv_room (Nat.le_of_ble_eq_true rfl)) dX12_sores_1 ⟨by decide +kernel, by decide +kernel⟩) hS (fun q _ h => hFc q h) hFc (fun u₀ t₀ H1 locs ht hvm hw hB hz1 hk1 hS => ?_)
  obtain ⟨hP1, hK1, hD1⟩ := hB
  rw [ht] at hP1
  obtain ⟨hP, hD⟩ := va_join (wr := []) (w1 := [(hm, .inr (11, [.ref vFo, .ref vSi, .ref vIt, .ref vMo, .int 0, .ref vBy, .ref vTy, .int 0, .ref vMi, .int 0, .ref vPs, .int 0, .ref vGs, .int 0, .ref vFt, .int 0, .ref vTo, .int 0, .int 0, .int 0, .int 16777215, .int 0, .int 0, .ref vPr, .ref vSt, .ref vFn, .int 0, .ref vSg, .ref vAl, .int 0])), (vTy, .inl (cI, 3, .inl (fun _ => 0)))]) hP hD [0, 1] [] rfl rfl (by decide) (by decide) hk1 hFc hP1 hD1
  generalize H1 = H at hP hS ⊢
  have hP : va_P (dC, dI) vwCl [(hm, .inr (11, [.ref vFo, .ref vSi, .ref vIt, .ref vMo, .int 0, .ref vBy, .ref vTy, .int 0, .ref vMi, .int 0, .ref vPs, .int 0, .ref vGs, .int 0, .ref vFt, .int 0, .ref vTo, .int 0, .int 0, .int 0, .int 16777215, .int 0, .int 0, .ref vPr, .ref vSt, .ref vFn, .int 0, .ref vSg, .ref vAl, .int 0])), (vTy, .inl (cI, 3, .inl (fun _ => 0)))] H := hP
  have hD : va_D A [(hm, .inr (11, [.ref vFo, .ref vSi, .ref vIt, .ref vMo, .int 0, .ref vBy, .ref vTy, .int 0, .ref vMi, .int 0, .ref vPs, .int 0, .ref vGs, .int 0, .ref vFt, .int 0, .ref vTo, .int 0, .int 0, .int 0, .int 16777215, .int 0, .int 0, .ref vPr, .ref vSt, .ref vFn, .int 0, .ref vSg, .ref vAl, .int 0])), (vTy, .inl (cI, 3, .inl (fun _ => 0)))] := hD
  refine lv_aload_n hx₀ hb dX12_sores_4 rfl (lv_at hl 0 rfl) ?_
  refine lv_iload_n hx₀ hb dX12_sores_5 rfl (lv_at hl 1 rfl) ?_
  have hPc := hP.sub (ws' := [(hm, .inr (11, [.ref vFo, .ref vSi, .ref vIt, .ref vMo, .int 0, .ref vBy, .ref vTy, .int 0, .ref vMi, .int 0, .ref vPs, .int 0, .ref vGs, .int 0, .ref vFt, .int 0, .ref vTo, .int 0, .int 0, .int 0, .int 16777215, .int 0, .int 0, .ref vPr, .ref vSt, .ref vFn, .int 0, .ref vSg, .ref vAl, .int 0]))]) [0] rfl
  have hDc := hD.sub (ws' := [(hm, .inr (11, [.ref vFo, .ref vSi, .ref vIt, .ref vMo, .int 0, .ref vBy, .ref vTy, .int 0, .ref vMi, .int 0, .ref vPs, .int 0, .ref vGs, .int 0, .ref vFt, .int 0, .ref vTo, .int 0, .int 0, .int 0, .int 16777215, .int 0, .int 0, .ref vPr, .ref vSt, .ref vFn, .int 0, .ref vSg, .ref vAl, .int 0]))]) [0] (by decide) rfl
  have hFc := va_free (wc := [(hm, .inr (11, [.ref vFo, .ref vSi, .ref vIt, .ref vMo, .int 0, .ref vBy, .ref vTy, .int 0, .ref vMi, .int 0, .ref vPs, .int 0, .ref vGs, .int 0, .ref vFt, .int 0, .ref vTo, .int 0, .int 0, .int 0, .int 16777215, .int 0, .int 0, .ref vPr, .ref vSt, .ref vFn, .int 0, .ref vSg, .ref vAl, .int 0]))]) hD hS hA [0] rfl
  refine va_calli (va_runV (As := [.int k]) (rest := []) ⟨hx₀, hb, hml, hown, hts⟩ (m_isPassenger l dC dI cI cJ cQ H.size hm k vFo vSi vIt vMo vBy vTy vMi vPs vGs vFt vTo vPr vSt vFn vSg vAl) (cwV 1 hts (kGV wd_323 wd_320 wd_321 wd_322 wd_5) rfl rfl rfl (by decide +kernel) ⟨Nat.le_of_ble_eq_true rfl, Nat.le_of_ble_eq_true rfl⟩) (k_preV (ci := 11) (q0 := 0) hK hPc hDc hN rfl rfl) rfl rfl hl.1 rfl (lv_room (Nat.le_of_ble_eq_true rfl)) dX12_sores_6 ⟨by decide +kernel, by decide +kernel⟩) hS (fun q _ h => hFc q h) hFc (fun r_2 u₀ t₀ H1 locs ht hvm hw hB hz1 hk1 hS => ?_)
  obtain ⟨hP1, hK1, hD1⟩ := hB
  rw [ht] at hP1
  obtain ⟨hP, hD⟩ := va_join (wr := [(vTy, .inl (cI, 3, .inl (fun _ => 0)))]) (w1 := [(hm, .inr (11, [.ref vFo, .ref vSi, .ref vIt, .ref vMo, .int 0, .ref vBy, .ref vTy, .int 0, .ref vMi, .int 0, .ref vPs, .int 0, .ref vGs, .int 0, .ref vFt, .int 0, .ref vTo, .int 0, .int 0, .int 0, .int 16777215, .int 0, .int 0, .ref vPr, .ref vSt, .ref vFn, .int 0, .ref vSg, .ref vAl, .int 0]))]) hP hD [0] [1] rfl rfl (by decide) (by decide) hk1 hFc hP1 hD1
  generalize H1 = H at hP hS ⊢
  have hP : va_P (dC, dI) vwCl [(vTy, .inl (cI, 3, .inl (fun _ => 0))), (hm, .inr (11, [.ref vFo, .ref vSi, .ref vIt, .ref vMo, .int 0, .ref vBy, .ref vTy, .int 0, .ref vMi, .int 0, .ref vPs, .int 0, .ref vGs, .int 0, .ref vFt, .int 0, .ref vTo, .int 0, .int 0, .int 0, .int 16777215, .int 0, .int 0, .ref vPr, .ref vSt, .ref vFn, .int 0, .ref vSg, .ref vAl, .int 0]))] H := hP
  have hD : va_D A [(vTy, .inl (cI, 3, .inl (fun _ => 0))), (hm, .inr (11, [.ref vFo, .ref vSi, .ref vIt, .ref vMo, .int 0, .ref vBy, .ref vTy, .int 0, .ref vMi, .int 0, .ref vPs, .int 0, .ref vGs, .int 0, .ref vFt, .int 0, .ref vTo, .int 0, .int 0, .int 0, .int 16777215, .int 0, .int 0, .ref vPr, .ref vSt, .ref vFn, .int 0, .ref vSg, .ref vAl, .int 0]))] := hD
  try dsimp only at hw
  refine k_topi (v := 0) hw ?_
  refine lv_if_eq (tgt := 20) hx₀ hb dX12_sores_9 (by decide) (fun _ => ?_) (fun c9 => absurd (by decide +kernel) c9)
  refine lv_bipush (v := (-2)) hx₀ hb dX12_sores_20 (by decide +kernel) ?_
  exact W.iret (v := (-2)) hx₀ hb hr (fun t₀ ht hW => ⟨⟨(-2), (), rfl, (by decide +kernel), trivial⟩, hS.F ht⟩) hS.2.2 dX12_sores_22
set_option maxHeartbeats 4000000 in
set_option maxRecDepth 100000 in
theorem m_ask (l : Launch) (dC : Nat → ClassId) (dI : Nat → Nat → Nat) (cI cJ cQ : ClassId) (sz : Nat) (hm : Nat) (k : Int32) (vFo : Nat) (vSi : Nat) (vIt : Nat) (vMo : Nat) (vBy : Nat) (vTy : Nat) (vMi : Nat) (vPs : Nat) (vGs : Nat) (vFt : Nat) (vTo : Nat) (vPr : Nat) (vSt : Nat) (vFn : Nat) (vSg : Nat) (vAl : Nat) : Met l yX12_ask (kW yX12_ask cX12_ask 2 (some .int)) { frames := 2, cells := 0, slots := 0, locals := 46 } (kPre dC dI cI cJ cQ sz [.ref hm, .int k] [(hm, .inr (11, [.ref vFo, .ref vSi, .ref vIt, .ref vMo, .int 0, .ref vBy, .ref vTy, .int 0, .ref vMi, .int 0, .ref vPs, .int 0, .ref vGs, .int 0, .ref vFt, .int 0, .ref vTo, .int 0, .int 0, .int 0, .int 16777215, .int 0, .int 0, .ref vPr, .ref vSt, .ref vFn, .int 0, .ref vSg, .ref vAl, .int 0])), (vTy, .inl (cI, 3, .inl (fun _ => 0)))]) (va_Qi (fun (r : Int32) (_ : Unit) => r = -2) (fun _ _ => True) (va_A [(hm, .inr (11, [.ref vFo, .ref vSi, .ref vIt, .ref vMo, .int 0, .ref vBy, .ref vTy, .int 0, .ref vMi, .int 0, .ref vPs, .int 0, .ref vGs, .int 0, .ref vFt, .int 0, .ref vTo, .int 0, .int 0, .int 0, .int 16777215, .int 0, .int 0, .ref vPr, .ref vSt, .ref vFn, .int 0, .ref vSg, .ref vAl, .int 0])), (vTy, .inl (cI, 3, .inl (fun _ => 0)))] sz)) 0 0 (va_A [(hm, .inr (11, [.ref vFo, .ref vSi, .ref vIt, .ref vMo, .int 0, .ref vBy, .ref vTy, .int 0, .ref vMi, .int 0, .ref vPs, .int 0, .ref vGs, .int 0, .ref vFt, .int 0, .ref vTo, .int 0, .int 0, .int 0, .int 16777215, .int 0, .int 0, .ref vPr, .ref vSt, .ref vFn, .int 0, .ref vSg, .ref vAl, .int 0])), (vTy, .inl (cI, 3, .inl (fun _ => 0)))] sz) := by
  refine Met.ofW (cc := cX12_ask) (maxL := 2) (ret := (some .int)) (by decide) rfl ?_
  intro p₀ e₀ s₀ m₀ args below meth c₀ s₁ B hml hv₀
  obtain ⟨rfl, hsz, hP, hK, hD0, hN⟩ := hv₀
  have hx₀ := B.exec
  have hb := B.bytes
  have hr := B.returns
  have hts := atoms_spec (ws := (kW yX12_ask cX12_ask 2 (some .int))) B.pre
  have hts := fun w h => hts w (List.mem_cons_of_mem _ h)
  have hown : s₀.vm.findClass RX12 = some m₀.cls := findClass_of_methodNamed B.named
  have hlocks := B.notSynchronized
  subst hsz
  have hD := hD0.self (sz := s₀.heap.size)
  generalize hAe : va_A [(hm, .inr (11, [.ref vFo, .ref vSi, .ref vIt, .ref vMo, .int 0, .ref vBy, .ref vTy, .int 0, .ref vMi, .int 0, .ref vPs, .int 0, .ref vGs, .int 0, .ref vFt, .int 0, .ref vTo, .int 0, .int 0, .int 0, .int 16777215, .int 0, .int 0, .ref vPr, .ref vSt, .ref vFn, .int 0, .ref vSg, .ref vAl, .int 0])), (vTy, .inl (cI, 3, .inl (fun _ => 0)))] s₀.heap.size = A at hD ⊢
  have hA : ∀ q : Nat, s₀.heap.size ≤ q → A q := fun q h => by rw [← hAe]; exact Or.inr h
  have hS : va_S A s₀.heap s₀.heap [] := va_S.rf
  have hP : va_P (dC, dI) vwCl [(hm, .inr (11, [.ref vFo, .ref vSi, .ref vIt, .ref vMo, .int 0, .ref vBy, .ref vTy, .int 0, .ref vMi, .int 0, .ref vPs, .int 0, .ref vGs, .int 0, .ref vFt, .int 0, .ref vTo, .int 0, .int 0, .int 0, .int 16777215, .int 0, .int 0, .ref vPr, .ref vSt, .ref vFn, .int 0, .ref vSg, .ref vAl, .int 0])), (vTy, .inl (cI, 3, .inl (fun _ => 0)))] s₀.heap := hP
  have hl := lv_entry ([.ref hm, .int k]) (n := 2) (Nat.le_of_ble_eq_true rfl)
  rw [lg_entry_eq]
  generalize (lg_sl ([.ref hm, .int k]) ++ List.replicate (2 - (lg_sl ([.ref hm, .int k])).length) Slot.unset).toArray = ls at hl ⊢
  have hl : lv_has ls 2 [(0, .ref hm), (1, .int k)] := hl
  obtain ⟨H, hH⟩ : ∃ z : Heap, z = s₀.heap := ⟨_, rfl⟩
  rw [← hH] at hP
  have hS : va_S A s₀.heap H [] := by rw [hH]; exact hS
  refine k_heap hH ?_
  have hD : va_D A [(hm, .inr (11, [.ref vFo, .ref vSi, .ref vIt, .ref vMo, .int 0, .ref vBy, .ref vTy, .int 0, .ref vMi, .int 0, .ref vPs, .int 0, .ref vGs, .int 0, .ref vFt, .int 0, .ref vTo, .int 0, .int 0, .int 0, .int 16777215, .int 0, .int 0, .ref vPr, .ref vSt, .ref vFn, .int 0, .ref vSg, .ref vAl, .int 0])), (vTy, .inl (cI, 3, .inl (fun _ => 0)))] := hD
  obtain ⟨locs, hlo⟩ : ∃ z : List Loc, z = [] := ⟨_, rfl⟩
  rw [← hlo] at hS ⊢
  clear hlo hH hAe hD0
  refine lv_aload_n hx₀ hb dX12_ask_0 rfl (lv_at hl 0 rfl) ?_
  have hPc := hP.sub (ws' := [(hm, .inr (11, [.ref vFo, .ref vSi, .ref vIt, .ref vMo, .int 0, .ref vBy, .ref vTy, .int 0, .ref vMi, .int 0, .ref vPs, .int 0, .ref vGs, .int 0, .ref vFt, .int 0, .ref vTo, .int 0, .int 0, .int 0, .int 16777215, .int 0, .int 0, .ref vPr, .ref vSt, .ref vFn, .int 0, .ref vSg, .ref vAl, .int 0])), (vTy, .inl (cI, 3, .inl (fun _ => 0)))]) [0, 1] rfl
  have hDc := hD.sub (ws' := [(hm, .inr (11, [.ref vFo, .ref vSi, .ref vIt, .ref vMo, .int 0, .ref vBy, .ref vTy, .int 0, .ref vMi, .int 0, .ref vPs, .int 0, .ref vGs, .int 0, .ref vFt, .int 0, .ref vTo, .int 0, .int 0, .int 0, .int 16777215, .int 0, .int 0, .ref vPr, .ref vSt, .ref vFn, .int 0, .ref vSg, .ref vAl, .int 0])), (vTy, .inl (cI, 3, .inl (fun _ => 0)))]) [0, 1] (by decide) rfl
  have hFc := va_free (wc := [(hm, .inr (11, [.ref vFo, .ref vSi, .ref vIt, .ref vMo, .int 0, .ref vBy, .ref vTy, .int 0, .ref vMi, .int 0, .ref vPs, .int 0, .ref vGs, .int 0, .ref vFt, .int 0, .ref vTo, .int 0, .int 0, .int 0, .int 16777215, .int 0, .int 0, .ref vPr, .ref vSt, .ref vFn, .int 0, .ref vSg, .ref vAl, .int 0])), (vTy, .inl (cI, 3, .inl (fun _ => 0)))]) hD hS hA [0, 1] rfl
  refine va_callv (va_runV (As := []) (rest := []) ⟨hx₀, hb, hml, hown, hts⟩ (m_reads l dC dI cI cJ cQ H.size hm vFo vSi vIt vMo vBy vTy vMi vPs vGs vFt vTo vPr vSt vFn vSg vAl) (cwV 0 hts (kGV wd_298 wd_295 wd_296 wd_297 wd_5) rfl rfl rfl (by decide +kernel) ⟨Nat.le_of_ble_eq_true rfl, Nat.le_of_ble_eq_true rfl⟩) (k_preV (ci := 11) (q0 := 0) hK hPc hDc hN rfl rfl) rfl rfl hl.1 rfl (lv_room (Nat.le_of_ble_eq_true rfl)) dX12_ask_1 ⟨by decide +kernel, by decide +kernel⟩) hS (fun q _ h => hFc q h) hFc (fun u₀ t₀ H1 locs ht hvm hw hB hz1 hk1 hS => ?_)
  obtain ⟨hP1, hK1, hD1⟩ := hB
  rw [ht] at hP1
  obtain ⟨hP, hD⟩ := va_join (wr := []) (w1 := [(hm, .inr (11, [.ref vFo, .ref vSi, .ref vIt, .ref vMo, .int 0, .ref vBy, .ref vTy, .int 0, .ref vMi, .int 0, .ref vPs, .int 0, .ref vGs, .int 0, .ref vFt, .int 0, .ref vTo, .int 0, .int 0, .int 0, .int 16777215, .int 0, .int 0, .ref vPr, .ref vSt, .ref vFn, .int 0, .ref vSg, .ref vAl, .int 0])), (vTy, .inl (cI, 3, .inl (fun _ => 0)))]) hP hD [0, 1] [] rfl rfl (by decide) (by decide) hk1 hFc hP1 hD1
  generalize H1 = H at hP hS ⊢
  have hP : va_P (dC, dI) vwCl [(hm, .inr (11, [.ref vFo, .ref vSi, .ref vIt, .ref vMo, .int 0, .ref vBy, .ref vTy, .int 0, .ref vMi, .int 0, .ref vPs, .int 0, .ref vGs, .int 0, .ref vFt, .int 0, .ref vTo, .int 0, .int 0, .int 0, .int 16777215, .int 0, .int 0, .ref vPr, .ref vSt, .ref vFn, .int 0, .ref vSg, .ref vAl, .int 0])), (vTy, .inl (cI, 3, .inl (fun _ => 0)))] H := hP
  have hD : va_D A [(hm, .inr (11, [.ref vFo, .ref vSi, .ref vIt, .ref vMo, .int 0, .ref vBy, .ref vTy, .int 0, .ref vMi, .int 0, .ref vPs, .int 0, .ref vGs, .int 0, .ref vFt, .int 0, .ref vTo, .int 0, .int 0, .int 0, .int 16777215, .int 0, .int 0, .ref vPr, .ref vSt, .ref vFn, .int 0, .ref vSg, .ref vAl, .int 0])), (vTy, .inl (cI, 3, .inl (fun _ => 0)))] := hD
  refine lv_aload_n hx₀ hb dX12_ask_4 rfl (lv_at hl 0 rfl) ?_
  refine lv_iload_n hx₀ hb dX12_ask_5 rfl (lv_at hl 1 rfl) ?_
  have hPc := hP.sub (ws' := [(hm, .inr (11, [.ref vFo, .ref vSi, .ref vIt, .ref vMo, .int 0, .ref vBy, .ref vTy, .int 0, .ref vMi, .int 0, .ref vPs, .int 0, .ref vGs, .int 0, .ref vFt, .int 0, .ref vTo, .int 0, .int 0, .int 0, .int 16777215, .int 0, .int 0, .ref vPr, .ref vSt, .ref vFn, .int 0, .ref vSg, .ref vAl, .int 0]))]) [0] rfl
  have hDc := hD.sub (ws' := [(hm, .inr (11, [.ref vFo, .ref vSi, .ref vIt, .ref vMo, .int 0, .ref vBy, .ref vTy, .int 0, .ref vMi, .int 0, .ref vPs, .int 0, .ref vGs, .int 0, .ref vFt, .int 0, .ref vTo, .int 0, .int 0, .int 0, .int 16777215, .int 0, .int 0, .ref vPr, .ref vSt, .ref vFn, .int 0, .ref vSg, .ref vAl, .int 0]))]) [0] (by decide) rfl
  have hFc := va_free (wc := [(hm, .inr (11, [.ref vFo, .ref vSi, .ref vIt, .ref vMo, .int 0, .ref vBy, .ref vTy, .int 0, .ref vMi, .int 0, .ref vPs, .int 0, .ref vGs, .int 0, .ref vFt, .int 0, .ref vTo, .int 0, .int 0, .int 0, .int 16777215, .int 0, .int 0, .ref vPr, .ref vSt, .ref vFn, .int 0, .ref vSg, .ref vAl, .int 0]))]) hD hS hA [0] rfl
  refine va_calli (va_runV (As := [.int k]) (rest := []) ⟨hx₀, hb, hml, hown, hts⟩ (m_isPassenger l dC dI cI cJ cQ H.size hm k vFo vSi vIt vMo vBy vTy vMi vPs vGs vFt vTo vPr vSt vFn vSg vAl) (cwV 1 hts (kGV wd_323 wd_320 wd_321 wd_322 wd_5) rfl rfl rfl (by decide +kernel) ⟨Nat.le_of_ble_eq_true rfl, Nat.le_of_ble_eq_true rfl⟩) (k_preV (ci := 11) (q0 := 0) hK hPc hDc hN rfl rfl) rfl rfl hl.1 rfl (lv_room (Nat.le_of_ble_eq_true rfl)) dX12_ask_6 ⟨by decide +kernel, by decide +kernel⟩) hS (fun q _ h => hFc q h) hFc (fun r_2 u₀ t₀ H1 locs ht hvm hw hB hz1 hk1 hS => ?_)
  obtain ⟨hP1, hK1, hD1⟩ := hB
  rw [ht] at hP1
  obtain ⟨hP, hD⟩ := va_join (wr := [(vTy, .inl (cI, 3, .inl (fun _ => 0)))]) (w1 := [(hm, .inr (11, [.ref vFo, .ref vSi, .ref vIt, .ref vMo, .int 0, .ref vBy, .ref vTy, .int 0, .ref vMi, .int 0, .ref vPs, .int 0, .ref vGs, .int 0, .ref vFt, .int 0, .ref vTo, .int 0, .int 0, .int 0, .int 16777215, .int 0, .int 0, .ref vPr, .ref vSt, .ref vFn, .int 0, .ref vSg, .ref vAl, .int 0]))]) hP hD [0] [1] rfl rfl (by decide) (by decide) hk1 hFc hP1 hD1
  generalize H1 = H at hP hS ⊢
  have hP : va_P (dC, dI) vwCl [(vTy, .inl (cI, 3, .inl (fun _ => 0))), (hm, .inr (11, [.ref vFo, .ref vSi, .ref vIt, .ref vMo, .int 0, .ref vBy, .ref vTy, .int 0, .ref vMi, .int 0, .ref vPs, .int 0, .ref vGs, .int 0, .ref vFt, .int 0, .ref vTo, .int 0, .int 0, .int 0, .int 16777215, .int 0, .int 0, .ref vPr, .ref vSt, .ref vFn, .int 0, .ref vSg, .ref vAl, .int 0]))] H := hP
  have hD : va_D A [(vTy, .inl (cI, 3, .inl (fun _ => 0))), (hm, .inr (11, [.ref vFo, .ref vSi, .ref vIt, .ref vMo, .int 0, .ref vBy, .ref vTy, .int 0, .ref vMi, .int 0, .ref vPs, .int 0, .ref vGs, .int 0, .ref vFt, .int 0, .ref vTo, .int 0, .int 0, .int 0, .int 16777215, .int 0, .int 0, .ref vPr, .ref vSt, .ref vFn, .int 0, .ref vSg, .ref vAl, .int 0]))] := hD
  try dsimp only at hw
  refine k_topi (v := 0) hw ?_
  refine lv_if_eq (tgt := 20) hx₀ hb dX12_ask_9 (by decide) (fun _ => ?_) (fun c9 => absurd (by decide +kernel) c9)
  refine lv_bipush (v := (-2)) hx₀ hb dX12_ask_20 (by decide +kernel) ?_
  exact W.iret (v := (-2)) hx₀ hb hr (fun t₀ ht hW => ⟨⟨(-2), (), rfl, (by decide +kernel), trivial⟩, hS.F ht⟩) hS.2.2 dX12_ask_22
set_option maxHeartbeats 4000000 in
set_option maxRecDepth 100000 in
theorem m_laugh (l : Launch) (dC : Nat → ClassId) (dI : Nat → Nat → Nat) (cI cJ cQ : ClassId) (sz : Nat) (hm : Nat) (k : Int32) (f : Int32) (w : Int32) (vFo : Nat) (vSi : Nat) (vIt : Nat) (vMo : Nat) (vBy : Nat) (vTy : Nat) (vMi : Nat) (vPs : Nat) (vGs : Nat) (vFt : Nat) (vTo : Nat) (vPr : Nat) (vSt : Nat) (vFn : Nat) (vSg : Nat) (vAl : Nat) : Met l yX12_laugh (kW yX12_laugh cX12_laugh 5 (some .long)) { frames := 2, cells := 0, slots := 0, locals := 46 } (kPre dC dI cI cJ cQ sz [.ref hm, .int k, .int f, .int w] [(hm, .inr (11, [.ref vFo, .ref vSi, .ref vIt, .ref vMo, .int 0, .ref vBy, .ref vTy, .int 0, .ref vMi, .int 0, .ref vPs, .int 0, .ref vGs, .int 0, .ref vFt, .int 0, .ref vTo, .int 0, .int 0, .int 0, .int 16777215, .int 0, .int 0, .ref vPr, .ref vSt, .ref vFn, .int 0, .ref vSg, .ref vAl, .int 0])), (vTy, .inl (cI, 3, .inl (fun _ => 0)))]) (va_Ql (fun (r : Int64) (_ : Unit) => r = (-9223372036854775806)) (fun _ _ => True) (va_A [(hm, .inr (11, [.ref vFo, .ref vSi, .ref vIt, .ref vMo, .int 0, .ref vBy, .ref vTy, .int 0, .ref vMi, .int 0, .ref vPs, .int 0, .ref vGs, .int 0, .ref vFt, .int 0, .ref vTo, .int 0, .int 0, .int 0, .int 16777215, .int 0, .int 0, .ref vPr, .ref vSt, .ref vFn, .int 0, .ref vSg, .ref vAl, .int 0])), (vTy, .inl (cI, 3, .inl (fun _ => 0)))] sz)) 0 0 (va_A [(hm, .inr (11, [.ref vFo, .ref vSi, .ref vIt, .ref vMo, .int 0, .ref vBy, .ref vTy, .int 0, .ref vMi, .int 0, .ref vPs, .int 0, .ref vGs, .int 0, .ref vFt, .int 0, .ref vTo, .int 0, .int 0, .int 0, .int 16777215, .int 0, .int 0, .ref vPr, .ref vSt, .ref vFn, .int 0, .ref vSg, .ref vAl, .int 0])), (vTy, .inl (cI, 3, .inl (fun _ => 0)))] sz) := by
  refine Met.ofW (cc := cX12_laugh) (maxL := 5) (ret := (some .long)) (by decide) rfl ?_
  intro p₀ e₀ s₀ m₀ args below meth c₀ s₁ B hml hv₀
  obtain ⟨rfl, hsz, hP, hK, hD0, hN⟩ := hv₀
  have hx₀ := B.exec
  have hb := B.bytes
  have hr := B.returns
  have hts := atoms_spec (ws := (kW yX12_laugh cX12_laugh 5 (some .long))) B.pre
  have hts := fun w h => hts w (List.mem_cons_of_mem _ h)
  have hown : s₀.vm.findClass RX12 = some m₀.cls := findClass_of_methodNamed B.named
  have hlocks := B.notSynchronized
  subst hsz
  have hD := hD0.self (sz := s₀.heap.size)
  generalize hAe : va_A [(hm, .inr (11, [.ref vFo, .ref vSi, .ref vIt, .ref vMo, .int 0, .ref vBy, .ref vTy, .int 0, .ref vMi, .int 0, .ref vPs, .int 0, .ref vGs, .int 0, .ref vFt, .int 0, .ref vTo, .int 0, .int 0, .int 0, .int 16777215, .int 0, .int 0, .ref vPr, .ref vSt, .ref vFn, .int 0, .ref vSg, .ref vAl, .int 0])), (vTy, .inl (cI, 3, .inl (fun _ => 0)))] s₀.heap.size = A at hD ⊢
  have hA : ∀ q : Nat, s₀.heap.size ≤ q → A q := fun q h => by rw [← hAe]; exact Or.inr h
  have hS : va_S A s₀.heap s₀.heap [] := va_S.rf
  have hP : va_P (dC, dI) vwCl [(hm, .inr (11, [.ref vFo, .ref vSi, .ref vIt, .ref vMo, .int 0, .ref vBy, .ref vTy, .int 0, .ref vMi, .int 0, .ref vPs, .int 0, .ref vGs, .int 0, .ref vFt, .int 0, .ref vTo, .int 0, .int 0, .int 0, .int 16777215, .int 0, .int 0, .ref vPr, .ref vSt, .ref vFn, .int 0, .ref vSg, .ref vAl, .int 0])), (vTy, .inl (cI, 3, .inl (fun _ => 0)))] s₀.heap := hP
  have hl := lv_entry ([.ref hm, .int k, .int f, .int w]) (n := 5) (Nat.le_of_ble_eq_true rfl)
  rw [lg_entry_eq]
  generalize (lg_sl ([.ref hm, .int k, .int f, .int w]) ++ List.replicate (5 - (lg_sl ([.ref hm, .int k, .int f, .int w])).length) Slot.unset).toArray = ls at hl ⊢
  have hl : lv_has ls 5 [(0, .ref hm), (1, .int k), (2, .int f), (3, .int w)] := hl
  obtain ⟨H, hH⟩ : ∃ z : Heap, z = s₀.heap := ⟨_, rfl⟩
  rw [← hH] at hP
  have hS : va_S A s₀.heap H [] := by rw [hH]; exact hS
  refine k_heap hH ?_
  have hD : va_D A [(hm, .inr (11, [.ref vFo, .ref vSi, .ref vIt, .ref vMo, .int 0, .ref vBy, .ref vTy, .int 0, .ref vMi, .int 0, .ref vPs, .int 0, .ref vGs, .int 0, .ref vFt, .int 0, .ref vTo, .int 0, .int 0, .int 0, .int 16777215, .int 0, .int 0, .ref vPr, .ref vSt, .ref vFn, .int 0, .ref vSg, .ref vAl, .int 0])), (vTy, .inl (cI, 3, .inl (fun _ => 0)))] := hD
  obtain ⟨locs, hlo⟩ : ∃ z : List Loc, z = [] := ⟨_, rfl⟩
  rw [← hlo] at hS ⊢
  clear hlo hH hAe hD0
  refine lv_aload_n hx₀ hb dX12_laugh_0 rfl (lv_at hl 0 rfl) ?_
  have hPc := hP.sub (ws' := [(hm, .inr (11, [.ref vFo, .ref vSi, .ref vIt, .ref vMo, .int 0, .ref vBy, .ref vTy, .int 0, .ref vMi, .int 0, .ref vPs, .int 0, .ref vGs, .int 0, .ref vFt, .int 0, .ref vTo, .int 0, .int 0, .int 0, .int 16777215, .int 0, .int 0, .ref vPr, .ref vSt, .ref vFn, .int 0, .ref vSg, .ref vAl, .int 0])), (vTy, .inl (cI, 3, .inl (fun _ => 0)))]) [0, 1] rfl
  have hDc := hD.sub (ws' := [(hm, .inr (11, [.ref vFo, .ref vSi, .ref vIt, .ref vMo, .int 0, .ref vBy, .ref vTy, .int 0, .ref vMi, .int 0, .ref vPs, .int 0, .ref vGs, .int 0, .ref vFt, .int 0, .ref vTo, .int 0, .int 0, .int 0, .int 16777215, .int 0, .int 0, .ref vPr, .ref vSt, .ref vFn, .int 0, .ref vSg, .ref vAl, .int 0])), (vTy, .inl (cI, 3, .inl (fun _ => 0)))]) [0, 1] (by decide) rfl
  have hFc := va_free (wc := [(hm, .inr (11, [.ref vFo, .ref vSi, .ref vIt, .ref vMo, .int 0, .ref vBy, .ref vTy, .int 0, .ref vMi, .int 0, .ref vPs, .int 0, .ref vGs, .int 0, .ref vFt, .int 0, .ref vTo, .int 0, .int 0, .int 0, .int 16777215, .int 0, .int 0, .ref vPr, .ref vSt, .ref vFn, .int 0, .ref vSg, .ref vAl, .int 0])), (vTy, .inl (cI, 3, .inl (fun _ => 0)))]) hD hS hA [0, 1] rfl
  refine va_callv (va_runV (As := []) (rest := []) ⟨hx₀, hb, hml, hown, hts⟩ (m_reads l dC dI cI cJ cQ H.size hm vFo vSi vIt vMo vBy vTy vMi vPs vGs vFt vTo vPr vSt vFn vSg vAl) (cwV 0 hts (kGV wd_298 wd_295 wd_296 wd_297 wd_5) rfl rfl rfl (by decide +kernel) ⟨Nat.le_of_ble_eq_true rfl, Nat.le_of_ble_eq_true rfl⟩) (k_preV (ci := 11) (q0 := 0) hK hPc hDc hN rfl rfl) rfl rfl hl.1 rfl (lv_room (Nat.le_of_ble_eq_true rfl)) dX12_laugh_1 ⟨by decide +kernel, by decide +kernel⟩) hS (fun q _ h => hFc q h) hFc (fun u₀ t₀ H1 locs ht hvm hw hB hz1 hk1 hS => ?_)
  obtain ⟨hP1, hK1, hD1⟩ := hB
  rw [ht] at hP1
  obtain ⟨hP, hD⟩ := va_join (wr := []) (w1 := [(hm, .inr (11, [.ref vFo, .ref vSi, .ref vIt, .ref vMo, .int 0, .ref vBy, .ref vTy, .int 0, .ref vMi, .int 0, .ref vPs, .int 0, .ref vGs, .int 0, .ref vFt, .int 0, .ref vTo, .int 0, .int 0, .int 0, .int 16777215, .int 0, .int 0, .ref vPr, .ref vSt, .ref vFn, .int 0, .ref vSg, .ref vAl, .int 0])), (vTy, .inl (cI, 3, .inl (fun _ => 0)))]) hP hD [0, 1] [] rfl rfl (by decide) (by decide) hk1 hFc hP1 hD1
  generalize H1 = H at hP hS ⊢
  have hP : va_P (dC, dI) vwCl [(hm, .inr (11, [.ref vFo, .ref vSi, .ref vIt, .ref vMo, .int 0, .ref vBy, .ref vTy, .int 0, .ref vMi, .int 0, .ref vPs, .int 0, .ref vGs, .int 0, .ref vFt, .int 0, .ref vTo, .int 0, .int 0, .int 0, .int 16777215, .int 0, .int 0, .ref vPr, .ref vSt, .ref vFn, .int 0, .ref vSg, .ref vAl, .int 0])), (vTy, .inl (cI, 3, .inl (fun _ => 0)))] H := hP
  have hD : va_D A [(hm, .inr (11, [.ref vFo, .ref vSi, .ref vIt, .ref vMo, .int 0, .ref vBy, .ref vTy, .int 0, .ref vMi, .int 0, .ref vPs, .int 0, .ref vGs, .int 0, .ref vFt, .int 0, .ref vTo, .int 0, .int 0, .int 0, .int 16777215, .int 0, .int 0, .ref vPr, .ref vSt, .ref vFn, .int 0, .ref vSg, .ref vAl, .int 0])), (vTy, .inl (cI, 3, .inl (fun _ => 0)))] := hD
  refine lv_aload_n hx₀ hb dX12_laugh_4 rfl (lv_at hl 0 rfl) ?_
  have hPc := hP.sub (ws' := [(hm, .inr (11, [.ref vFo, .ref vSi, .ref vIt, .ref vMo, .int 0, .ref vBy, .ref vTy, .int 0, .ref vMi, .int 0, .ref vPs, .int 0, .ref vGs, .int 0, .ref vFt, .int 0, .ref vTo, .int 0, .int 0, .int 0, .int 16777215, .int 0, .int 0, .ref vPr, .ref vSt, .ref vFn, .int 0, .ref vSg, .ref vAl, .int 0]))]) [0] rfl
  have hDc := hD.sub (ws' := [(hm, .inr (11, [.ref vFo, .ref vSi, .ref vIt, .ref vMo, .int 0, .ref vBy, .ref vTy, .int 0, .ref vMi, .int 0, .ref vPs, .int 0, .ref vGs, .int 0, .ref vFt, .int 0, .ref vTo, .int 0, .int 0, .int 0, .int 16777215, .int 0, .int 0, .ref vPr, .ref vSt, .ref vFn, .int 0, .ref vSg, .ref vAl, .int 0]))]) [0] (by decide) rfl
  have hFc := va_free (wc := [(hm, .inr (11, [.ref vFo, .ref vSi, .ref vIt, .ref vMo, .int 0, .ref vBy, .ref vTy, .int 0, .ref vMi, .int 0, .ref vPs, .int 0, .ref vGs, .int 0, .ref vFt, .int 0, .ref vTo, .int 0, .int 0, .int 0, .int 16777215, .int 0, .int 0, .ref vPr, .ref vSt, .ref vFn, .int 0, .ref vSg, .ref vAl, .int 0]))]) hD hS hA [0] rfl
  refine va_calli (va_runV (As := []) (rest := []) ⟨hx₀, hb, hml, hown, hts⟩ (m_towns l dC dI cI cJ cQ H.size hm vFo vSi vIt vMo vBy vTy vMi vPs vGs vFt vTo vPr vSt vFn vSg vAl) (cwV 0 hts (kGV wd_814 wd_811 wd_812 wd_813 wd_5) rfl rfl rfl (by decide +kernel) ⟨Nat.le_of_ble_eq_true rfl, Nat.le_of_ble_eq_true rfl⟩) (k_preV (ci := 11) (q0 := 0) hK hPc hDc hN rfl rfl) rfl rfl hl.1 rfl (lv_room (Nat.le_of_ble_eq_true rfl)) dX12_laugh_5 ⟨by decide +kernel, by decide +kernel⟩) hS (fun q _ h => hFc q h) hFc (fun r_2 u₀ t₀ H1 locs ht hvm hw hB hz1 hk1 hS => ?_)
  obtain ⟨hP1, hK1, hD1⟩ := hB
  rw [ht] at hP1
  obtain ⟨hP, hD⟩ := va_join (wr := [(vTy, .inl (cI, 3, .inl (fun _ => 0)))]) (w1 := [(hm, .inr (11, [.ref vFo, .ref vSi, .ref vIt, .ref vMo, .int 0, .ref vBy, .ref vTy, .int 0, .ref vMi, .int 0, .ref vPs, .int 0, .ref vGs, .int 0, .ref vFt, .int 0, .ref vTo, .int 0, .int 0, .int 0, .int 16777215, .int 0, .int 0, .ref vPr, .ref vSt, .ref vFn, .int 0, .ref vSg, .ref vAl, .int 0]))]) hP hD [0] [1] rfl rfl (by decide) (by decide) hk1 hFc hP1 hD1
  generalize H1 = H at hP hS ⊢
  have hP : va_P (dC, dI) vwCl [(vTy, .inl (cI, 3, .inl (fun _ => 0))), (hm, .inr (11, [.ref vFo, .ref vSi, .ref vIt, .ref vMo, .int 0, .ref vBy, .ref vTy, .int 0, .ref vMi, .int 0, .ref vPs, .int 0, .ref vGs, .int 0, .ref vFt, .int 0, .ref vTo, .int 0, .int 0, .int 0, .int 16777215, .int 0, .int 0, .ref vPr, .ref vSt, .ref vFn, .int 0, .ref vSg, .ref vAl, .int 0]))] H := hP
  have hD : va_D A [(vTy, .inl (cI, 3, .inl (fun _ => 0))), (hm, .inr (11, [.ref vFo, .ref vSi, .ref vIt, .ref vMo, .int 0, .ref vBy, .ref vTy, .int 0, .ref vMi, .int 0, .ref vPs, .int 0, .ref vGs, .int 0, .ref vFt, .int 0, .ref vTo, .int 0, .int 0, .int 0, .int 16777215, .int 0, .int 0, .ref vPr, .ref vSt, .ref vFn, .int 0, .ref vSg, .ref vAl, .int 0]))] := hD
  try dsimp only at hw
  refine k_topi (v := 0) hw ?_
  refine lv_istore (lv' := [(4, .int 0), (0, .ref hm), (1, .int k), (2, .int f), (3, .int w)]) hx₀ hb dX12_laugh_8 hl (by decide) rfl (fun ls hl => ?_)
  refine lv_iload_n hx₀ hb dX12_laugh_10 rfl (lv_at hl 2 rfl) ?_
  refine lv_i2l hx₀ hb dX12_laugh_11 rfl ?_
  refine lv_lconst (v := 0) hx₀ hb dX12_laugh_12 (by decide +kernel) ?_
  refine lv_ldc2 (v := 16) hx₀ hb hown (hts (.constantLong RX12 269 (16)) wd_810) dX12_laugh_13 ?_
  have hPc := hP.sub (ws' := []) [] rfl
  have hDc := hD.sub (ws' := []) [] (by decide) rfl
  have hFc := va_free (wc := []) hD hS hA [] rfl
  refine va_calli (va_runS (As := [.long k.toInt64, .long 0, .long 16]) (rest := []) ⟨hx₀, hb, hml, hown, hts⟩ (c_in l dC dI cI cJ cQ H.size k.toInt64 0 16) (va_cwS 3 hts (kGS wd_208 wd_206 wd_207 wd_5) rfl rfl rfl (by decide +kernel) ⟨Nat.le_of_ble_eq_true rfl, Nat.le_of_ble_eq_true rfl⟩) (k_preS hK hPc hDc hN) rfl rfl hl.1 rfl (lv_room (Nat.le_of_ble_eq_true rfl)) dX12_laugh_16 ⟨by decide +kernel, by decide +kernel⟩) hS (fun q _ h => hFc q h) hFc (fun r_3 u₀ t₀ H1 locs ht hvm hw hB hz1 hk1 hS => ?_)
  obtain ⟨hP1, hK1, hD1⟩ := hB
  rw [ht] at hP1
  obtain ⟨hP, hD⟩ := va_join (wr := [(vTy, .inl (cI, 3, .inl (fun _ => 0))), (hm, .inr (11, [.ref vFo, .ref vSi, .ref vIt, .ref vMo, .int 0, .ref vBy, .ref vTy, .int 0, .ref vMi, .int 0, .ref vPs, .int 0, .ref vGs, .int 0, .ref vFt, .int 0, .ref vTo, .int 0, .int 0, .int 0, .int 16777215, .int 0, .int 0, .ref vPr, .ref vSt, .ref vFn, .int 0, .ref vSg, .ref vAl, .int 0]))]) (w1 := []) hP hD [] [0, 1] rfl rfl (by decide) (by decide) hk1 hFc hP1 hD1
  generalize H1 = H at hP hS ⊢
  have hP : va_P (dC, dI) vwCl [(vTy, .inl (cI, 3, .inl (fun _ => 0))), (hm, .inr (11, [.ref vFo, .ref vSi, .ref vIt, .ref vMo, .int 0, .ref vBy, .ref vTy, .int 0, .ref vMi, .int 0, .ref vPs, .int 0, .ref vGs, .int 0, .ref vFt, .int 0, .ref vTo, .int 0, .int 0, .int 0, .int 16777215, .int 0, .int 0, .ref vPr, .ref vSt, .ref vFn, .int 0, .ref vSg, .ref vAl, .int 0]))] H := hP
  have hD : va_D A [(vTy, .inl (cI, 3, .inl (fun _ => 0))), (hm, .inr (11, [.ref vFo, .ref vSi, .ref vIt, .ref vMo, .int 0, .ref vBy, .ref vTy, .int 0, .ref vMi, .int 0, .ref vPs, .int 0, .ref vGs, .int 0, .ref vFt, .int 0, .ref vTo, .int 0, .int 0, .int 0, .int 16777215, .int 0, .int 0, .ref vPr, .ref vSt, .ref vFn, .int 0, .ref vSg, .ref vAl, .int 0]))] := hD
  try dsimp only at hw
  by_cases c_4 : (0 : Int64) ≤ k.toInt64 ∧ k.toInt64 ≤ (16 : Int64)
  · rw [if_pos c_4] at hw
    refine k_topi (v := 1) hw ?_
    refine lv_if_eq (tgt := 56) hx₀ hb dX12_laugh_19 (by decide) (fun c9 => absurd c9 (by decide +kernel)) (fun _ => ?_)
    refine lv_aload_n hx₀ hb dX12_laugh_22 rfl (lv_at hl 1 rfl) ?_
    refine lv_iload_n hx₀ hb dX12_laugh_23 rfl (lv_at hl 3 rfl) ?_
    have hPc := hP.sub (ws' := [(hm, .inr (11, [.ref vFo, .ref vSi, .ref vIt, .ref vMo, .int 0, .ref vBy, .ref vTy, .int 0, .ref vMi, .int 0, .ref vPs, .int 0, .ref vGs, .int 0, .ref vFt, .int 0, .ref vTo, .int 0, .int 0, .int 0, .int 16777215, .int 0, .int 0, .ref vPr, .ref vSt, .ref vFn, .int 0, .ref vSg, .ref vAl, .int 0]))]) [1] rfl
    have hDc := hD.sub (ws' := [(hm, .inr (11, [.ref vFo, .ref vSi, .ref vIt, .ref vMo, .int 0, .ref vBy, .ref vTy, .int 0, .ref vMi, .int 0, .ref vPs, .int 0, .ref vGs, .int 0, .ref vFt, .int 0, .ref vTo, .int 0, .int 0, .int 0, .int 16777215, .int 0, .int 0, .ref vPr, .ref vSt, .ref vFn, .int 0, .ref vSg, .ref vAl, .int 0]))]) [1] (by decide) rfl
    have hFc := va_free (wc := [(hm, .inr (11, [.ref vFo, .ref vSi, .ref vIt, .ref vMo, .int 0, .ref vBy, .ref vTy, .int 0, .ref vMi, .int 0, .ref vPs, .int 0, .ref vGs, .int 0, .ref vFt, .int 0, .ref vTo, .int 0, .int 0, .int 0, .int 16777215, .int 0, .int 0, .ref vPr, .ref vSt, .ref vFn, .int 0, .ref vSg, .ref vAl, .int 0]))]) hD hS hA [1] rfl
    refine va_calli (va_runV (As := [.int f]) (rest := []) ⟨hx₀, hb, hml, hown, hts⟩ (m_isFlight l dC dI cI cJ cQ H.size hm f vFo vSi vIt vMo vBy vTy vMi vPs vGs vFt vTo vPr vSt vFn vSg vAl) (cwV 1 hts (kGV wd_528 wd_525 wd_526 wd_527 wd_5) rfl rfl rfl (by decide +kernel) ⟨Nat.le_of_ble_eq_true rfl, Nat.le_of_ble_eq_true rfl⟩) (k_preV (ci := 11) (q0 := 0) hK hPc hDc hN rfl rfl) rfl rfl hl.1 rfl (lv_room (Nat.le_of_ble_eq_true rfl)) dX12_laugh_24 ⟨by decide +kernel, by decide +kernel⟩) hS (fun q _ h => hFc q h) hFc (fun r_5 u₀ t₀ H1 locs ht hvm hw hB hz1 hk1 hS => ?_)
    obtain ⟨hP1, hK1, hD1⟩ := hB
    rw [ht] at hP1
    obtain ⟨hP, hD⟩ := va_join (wr := [(vTy, .inl (cI, 3, .inl (fun _ => 0)))]) (w1 := [(hm, .inr (11, [.ref vFo, .ref vSi, .ref vIt, .ref vMo, .int 0, .ref vBy, .ref vTy, .int 0, .ref vMi, .int 0, .ref vPs, .int 0, .ref vGs, .int 0, .ref vFt, .int 0, .ref vTo, .int 0, .int 0, .int 0, .int 16777215, .int 0, .int 0, .ref vPr, .ref vSt, .ref vFn, .int 0, .ref vSg, .ref vAl, .int 0]))]) hP hD [1] [0] rfl rfl (by decide) (by decide) hk1 hFc hP1 hD1
    generalize H1 = H at hP hS ⊢
    have hP : va_P (dC, dI) vwCl [(vTy, .inl (cI, 3, .inl (fun _ => 0))), (hm, .inr (11, [.ref vFo, .ref vSi, .ref vIt, .ref vMo, .int 0, .ref vBy, .ref vTy, .int 0, .ref vMi, .int 0, .ref vPs, .int 0, .ref vGs, .int 0, .ref vFt, .int 0, .ref vTo, .int 0, .int 0, .int 0, .int 16777215, .int 0, .int 0, .ref vPr, .ref vSt, .ref vFn, .int 0, .ref vSg, .ref vAl, .int 0]))] H := hP
    have hD : va_D A [(vTy, .inl (cI, 3, .inl (fun _ => 0))), (hm, .inr (11, [.ref vFo, .ref vSi, .ref vIt, .ref vMo, .int 0, .ref vBy, .ref vTy, .int 0, .ref vMi, .int 0, .ref vPs, .int 0, .ref vGs, .int 0, .ref vFt, .int 0, .ref vTo, .int 0, .int 0, .int 0, .int 16777215, .int 0, .int 0, .ref vPr, .ref vSt, .ref vFn, .int 0, .ref vSg, .ref vAl, .int 0]))] := hD
    try dsimp only at hw
    refine k_topi (v := 0) hw ?_
    refine lv_if_eq (tgt := 56) hx₀ hb dX12_laugh_27 (by decide) (fun _ => ?_) (fun c9 => absurd (by decide +kernel) c9)
    refine lv_bipush (v := (-2)) hx₀ hb dX12_laugh_56 (by decide +kernel) ?_
    have hPc := hP.sub (ws' := []) [] rfl
    have hDc := hD.sub (ws' := []) [] (by decide) rfl
    have hFc := va_free (wc := []) hD hS hA [] rfl
    refine va_calll (va_runS (As := [.int (-2)]) (rest := []) ⟨hx₀, hb, hml, hown, hts⟩ (c_no2 l dC dI cI cJ cQ H.size ) (va_cwS 1 hts (kGS wd_828 wd_826 wd_827 wd_5) rfl rfl rfl (by decide +kernel) ⟨Nat.le_of_ble_eq_true rfl, Nat.le_of_ble_eq_true rfl⟩) (k_preS hK hPc hDc hN) rfl rfl hl.1 rfl (lv_room (Nat.le_of_ble_eq_true rfl)) dX12_laugh_58 ⟨by decide +kernel, by decide +kernel⟩) hS (fun q _ h => hFc q h) hFc (fun r_6 u₀ t₀ H1 locs ht hvm hw hB hz1 hk1 hS => ?_)
    obtain ⟨hP1, hK1, hD1⟩ := hB
    rw [ht] at hP1
    obtain ⟨hP, hD⟩ := va_join (wr := [(vTy, .inl (cI, 3, .inl (fun _ => 0))), (hm, .inr (11, [.ref vFo, .ref vSi, .ref vIt, .ref vMo, .int 0, .ref vBy, .ref vTy, .int 0, .ref vMi, .int 0, .ref vPs, .int 0, .ref vGs, .int 0, .ref vFt, .int 0, .ref vTo, .int 0, .int 0, .int 0, .int 16777215, .int 0, .int 0, .ref vPr, .ref vSt, .ref vFn, .int 0, .ref vSg, .ref vAl, .int 0]))]) (w1 := []) hP hD [] [0, 1] rfl rfl (by decide) (by decide) hk1 hFc hP1 hD1
    generalize H1 = H at hP hS ⊢
    have hP : va_P (dC, dI) vwCl [(vTy, .inl (cI, 3, .inl (fun _ => 0))), (hm, .inr (11, [.ref vFo, .ref vSi, .ref vIt, .ref vMo, .int 0, .ref vBy, .ref vTy, .int 0, .ref vMi, .int 0, .ref vPs, .int 0, .ref vGs, .int 0, .ref vFt, .int 0, .ref vTo, .int 0, .int 0, .int 0, .int 16777215, .int 0, .int 0, .ref vPr, .ref vSt, .ref vFn, .int 0, .ref vSg, .ref vAl, .int 0]))] H := hP
    have hD : va_D A [(vTy, .inl (cI, 3, .inl (fun _ => 0))), (hm, .inr (11, [.ref vFo, .ref vSi, .ref vIt, .ref vMo, .int 0, .ref vBy, .ref vTy, .int 0, .ref vMi, .int 0, .ref vPs, .int 0, .ref vGs, .int 0, .ref vFt, .int 0, .ref vTo, .int 0, .int 0, .int 0, .int 16777215, .int 0, .int 0, .ref vPr, .ref vSt, .ref vFn, .int 0, .ref vSg, .ref vAl, .int 0]))] := hD
    try dsimp only at hw
    refine k_topl (v := (-9223372036854775806)) hw ?_
    exact W.lret (v := (-9223372036854775806)) hx₀ hb hr (fun t₀ ht hW => ⟨⟨(-9223372036854775806), (), rfl, rfl, trivial⟩, hS.F ht⟩) hS.2.2 dX12_laugh_61
  rw [if_neg c_4] at hw
  refine k_topi (v := 0) hw ?_
  refine lv_if_eq (tgt := 56) hx₀ hb dX12_laugh_19 (by decide) (fun _ => ?_) (fun c9 => absurd (by decide +kernel) c9)
  refine lv_bipush (v := (-2)) hx₀ hb dX12_laugh_56 (by decide +kernel) ?_
  have hPc := hP.sub (ws' := []) [] rfl
  have hDc := hD.sub (ws' := []) [] (by decide) rfl
  have hFc := va_free (wc := []) hD hS hA [] rfl
  refine va_calll (va_runS (As := [.int (-2)]) (rest := []) ⟨hx₀, hb, hml, hown, hts⟩ (c_no2 l dC dI cI cJ cQ H.size ) (va_cwS 1 hts (kGS wd_828 wd_826 wd_827 wd_5) rfl rfl rfl (by decide +kernel) ⟨Nat.le_of_ble_eq_true rfl, Nat.le_of_ble_eq_true rfl⟩) (k_preS hK hPc hDc hN) rfl rfl hl.1 rfl (lv_room (Nat.le_of_ble_eq_true rfl)) dX12_laugh_58 ⟨by decide +kernel, by decide +kernel⟩) hS (fun q _ h => hFc q h) hFc (fun r_7 u₀ t₀ H1 locs ht hvm hw hB hz1 hk1 hS => ?_)
  obtain ⟨hP1, hK1, hD1⟩ := hB
  rw [ht] at hP1
  obtain ⟨hP, hD⟩ := va_join (wr := [(vTy, .inl (cI, 3, .inl (fun _ => 0))), (hm, .inr (11, [.ref vFo, .ref vSi, .ref vIt, .ref vMo, .int 0, .ref vBy, .ref vTy, .int 0, .ref vMi, .int 0, .ref vPs, .int 0, .ref vGs, .int 0, .ref vFt, .int 0, .ref vTo, .int 0, .int 0, .int 0, .int 16777215, .int 0, .int 0, .ref vPr, .ref vSt, .ref vFn, .int 0, .ref vSg, .ref vAl, .int 0]))]) (w1 := []) hP hD [] [0, 1] rfl rfl (by decide) (by decide) hk1 hFc hP1 hD1
  generalize H1 = H at hP hS ⊢
  have hP : va_P (dC, dI) vwCl [(vTy, .inl (cI, 3, .inl (fun _ => 0))), (hm, .inr (11, [.ref vFo, .ref vSi, .ref vIt, .ref vMo, .int 0, .ref vBy, .ref vTy, .int 0, .ref vMi, .int 0, .ref vPs, .int 0, .ref vGs, .int 0, .ref vFt, .int 0, .ref vTo, .int 0, .int 0, .int 0, .int 16777215, .int 0, .int 0, .ref vPr, .ref vSt, .ref vFn, .int 0, .ref vSg, .ref vAl, .int 0]))] H := hP
  have hD : va_D A [(vTy, .inl (cI, 3, .inl (fun _ => 0))), (hm, .inr (11, [.ref vFo, .ref vSi, .ref vIt, .ref vMo, .int 0, .ref vBy, .ref vTy, .int 0, .ref vMi, .int 0, .ref vPs, .int 0, .ref vGs, .int 0, .ref vFt, .int 0, .ref vTo, .int 0, .int 0, .int 0, .int 16777215, .int 0, .int 0, .ref vPr, .ref vSt, .ref vFn, .int 0, .ref vSg, .ref vAl, .int 0]))] := hD
  try dsimp only at hw
  refine k_topl (v := (-9223372036854775806)) hw ?_
  exact W.lret (v := (-9223372036854775806)) hx₀ hb hr (fun t₀ ht hW => ⟨⟨(-9223372036854775806), (), rfl, rfl, trivial⟩, hS.F ht⟩) hS.2.2 dX12_laugh_61
theorem lf_m_lakes_1 (n : Int32) (w : Int32) (c_3 : (1 : Int64) ≤ n.toInt64 ∧ n.toInt64 ≤ (99 : Int64)) (c_5 : 0 ≤ w ∧ w ≤ 1) : (0 : Int32) = if 1 ≤ n ∧ n ≤ 99 ∧ 0 ≤ w ∧ w ≤ 1 then 0 else -2 := by
  repeat first | rfl | rw [if_pos (by (first | omega | (simp only [Int64.le_iff_toInt_le, Int64.lt_iff_toInt_lt, Int32.le_iff_toInt_le, Int32.lt_iff_toInt_lt, ← Int32.toInt_inj, ← Int64.toInt_inj, Int32.toInt_toInt64, (show (-2 : Int32).toInt = -2 from by decide), (show (-2 : Int64).toInt = -2 from by decide), (show (0 : Int32).toInt = 0 from by decide), (show (0 : Int64).toInt = 0 from by decide), (show (1 : Int32).toInt = 1 from by decide), (show (1 : Int64).toInt = 1 from by decide), (show (99 : Int32).toInt = 99 from by decide), (show (99 : Int64).toInt = 99 from by decide)] at *; omega)))] | rw [if_neg (by (first | omega | (simp only [Int64.le_iff_toInt_le, Int64.lt_iff_toInt_lt, Int32.le_iff_toInt_le, Int32.lt_iff_toInt_lt, ← Int32.toInt_inj, ← Int64.toInt_inj, Int32.toInt_toInt64, (show (-2 : Int32).toInt = -2 from by decide), (show (-2 : Int64).toInt = -2 from by decide), (show (0 : Int32).toInt = 0 from by decide), (show (0 : Int64).toInt = 0 from by decide), (show (1 : Int32).toInt = 1 from by decide), (show (1 : Int64).toInt = 1 from by decide), (show (99 : Int32).toInt = 99 from by decide), (show (99 : Int64).toInt = 99 from by decide)] at *; omega)))]
theorem lf_m_lakes_2 (n : Int32) (w : Int32) (c_3 : (1 : Int64) ≤ n.toInt64 ∧ n.toInt64 ≤ (99 : Int64)) (c_5 : ¬ (0 ≤ w ∧ w ≤ 1)) : ((-2) : Int32) = if 1 ≤ n ∧ n ≤ 99 ∧ 0 ≤ w ∧ w ≤ 1 then 0 else -2 := by
  repeat first | rfl | rw [if_pos (by (first | omega | (simp only [Int64.le_iff_toInt_le, Int64.lt_iff_toInt_lt, Int32.le_iff_toInt_le, Int32.lt_iff_toInt_lt, ← Int32.toInt_inj, ← Int64.toInt_inj, Int32.toInt_toInt64, (show (-2 : Int32).toInt = -2 from by decide), (show (-2 : Int64).toInt = -2 from by decide), (show (0 : Int32).toInt = 0 from by decide), (show (0 : Int64).toInt = 0 from by decide), (show (1 : Int32).toInt = 1 from by decide), (show (1 : Int64).toInt = 1 from by decide), (show (99 : Int32).toInt = 99 from by decide), (show (99 : Int64).toInt = 99 from by decide)] at *; omega)))] | rw [if_neg (by (first | omega | (simp only [Int64.le_iff_toInt_le, Int64.lt_iff_toInt_lt, Int32.le_iff_toInt_le, Int32.lt_iff_toInt_lt, ← Int32.toInt_inj, ← Int64.toInt_inj, Int32.toInt_toInt64, (show (-2 : Int32).toInt = -2 from by decide), (show (-2 : Int64).toInt = -2 from by decide), (show (0 : Int32).toInt = 0 from by decide), (show (0 : Int64).toInt = 0 from by decide), (show (1 : Int32).toInt = 1 from by decide), (show (1 : Int64).toInt = 1 from by decide), (show (99 : Int32).toInt = 99 from by decide), (show (99 : Int64).toInt = 99 from by decide)] at *; omega)))]
theorem lf_m_lakes_3 (n : Int32) (w : Int32) (c_3 : ¬ ((1 : Int64) ≤ n.toInt64 ∧ n.toInt64 ≤ (99 : Int64))) : ((-2) : Int32) = if 1 ≤ n ∧ n ≤ 99 ∧ 0 ≤ w ∧ w ≤ 1 then 0 else -2 := by
  repeat first | rfl | rw [if_pos (by (first | omega | (simp only [Int64.le_iff_toInt_le, Int64.lt_iff_toInt_lt, Int32.le_iff_toInt_le, Int32.lt_iff_toInt_lt, ← Int32.toInt_inj, ← Int64.toInt_inj, Int32.toInt_toInt64, (show (-2 : Int32).toInt = -2 from by decide), (show (-2 : Int64).toInt = -2 from by decide), (show (0 : Int32).toInt = 0 from by decide), (show (0 : Int64).toInt = 0 from by decide), (show (1 : Int32).toInt = 1 from by decide), (show (1 : Int64).toInt = 1 from by decide), (show (99 : Int32).toInt = 99 from by decide), (show (99 : Int64).toInt = 99 from by decide)] at *; omega)))] | rw [if_neg (by (first | omega | (simp only [Int64.le_iff_toInt_le, Int64.lt_iff_toInt_lt, Int32.le_iff_toInt_le, Int32.lt_iff_toInt_lt, ← Int32.toInt_inj, ← Int64.toInt_inj, Int32.toInt_toInt64, (show (-2 : Int32).toInt = -2 from by decide), (show (-2 : Int64).toInt = -2 from by decide), (show (0 : Int32).toInt = 0 from by decide), (show (0 : Int64).toInt = 0 from by decide), (show (1 : Int32).toInt = 1 from by decide), (show (1 : Int64).toInt = 1 from by decide), (show (99 : Int32).toInt = 99 from by decide), (show (99 : Int64).toInt = 99 from by decide)] at *; omega)))]
set_option maxHeartbeats 4000000 in
set_option maxRecDepth 100000 in
theorem m_lakes (l : Launch) (dC : Nat → ClassId) (dI : Nat → Nat → Nat) (cI cJ cQ : ClassId) (sz : Nat) (hm : Nat) (z : Int32) (n : Int32) (w : Int32) (vFo : Nat) (vSi : Nat) (vIt : Nat) (vMo : Nat) (vBy : Nat) (vTy : Nat) (vMi : Nat) (vPs : Nat) (vGs : Nat) (vFt : Nat) (vTo : Nat) (vPr : Nat) (vSt : Nat) (vFn : Nat) (vSg : Nat) (vAl : Nat) : Met l yX12_lakes (kW yX12_lakes cX12_lakes 4 (some .int)) { frames := 2, cells := 0, slots := 0, locals := 45 } (kPre dC dI cI cJ cQ sz [.ref hm, .int z, .int n, .int w] [(hm, .inr (11, [.ref vFo, .ref vSi, .ref vIt, .ref vMo, .int 0, .ref vBy, .ref vTy, .int 0, .ref vMi, .int 0, .ref vPs, .int 0, .ref vGs, .int 0, .ref vFt, .int 0, .ref vTo, .int 0, .int 0, .int 0, .int 16777215, .int 0, .int 0, .ref vPr, .ref vSt, .ref vFn, .int 0, .ref vSg, .ref vAl, .int 0])), (vTy, .inl (cI, 3, .inl (fun _ => 0)))]) (va_Qi (fun (r : Int32) (_ : Unit) => r = if 1 ≤ n ∧ n ≤ 99 ∧ 0 ≤ w ∧ w ≤ 1 then 0 else -2) (fun _ _ => True) (va_A [(hm, .inr (11, [.ref vFo, .ref vSi, .ref vIt, .ref vMo, .int 0, .ref vBy, .ref vTy, .int 0, .ref vMi, .int 0, .ref vPs, .int 0, .ref vGs, .int 0, .ref vFt, .int 0, .ref vTo, .int 0, .int 0, .int 0, .int 16777215, .int 0, .int 0, .ref vPr, .ref vSt, .ref vFn, .int 0, .ref vSg, .ref vAl, .int 0])), (vTy, .inl (cI, 3, .inl (fun _ => 0)))] sz)) 0 0 (va_A [(hm, .inr (11, [.ref vFo, .ref vSi, .ref vIt, .ref vMo, .int 0, .ref vBy, .ref vTy, .int 0, .ref vMi, .int 0, .ref vPs, .int 0, .ref vGs, .int 0, .ref vFt, .int 0, .ref vTo, .int 0, .int 0, .int 0, .int 16777215, .int 0, .int 0, .ref vPr, .ref vSt, .ref vFn, .int 0, .ref vSg, .ref vAl, .int 0])), (vTy, .inl (cI, 3, .inl (fun _ => 0)))] sz) := by
  refine Met.ofW (cc := cX12_lakes) (maxL := 4) (ret := (some .int)) (by decide) rfl ?_
  intro p₀ e₀ s₀ m₀ args below meth c₀ s₁ B hml hv₀
  obtain ⟨rfl, hsz, hP, hK, hD0, hN⟩ := hv₀
  have hx₀ := B.exec
  have hb := B.bytes
  have hr := B.returns
  have hts := atoms_spec (ws := (kW yX12_lakes cX12_lakes 4 (some .int))) B.pre
  have hts := fun w h => hts w (List.mem_cons_of_mem _ h)
  have hown : s₀.vm.findClass RX12 = some m₀.cls := findClass_of_methodNamed B.named
  have hlocks := B.notSynchronized
  subst hsz
  have hD := hD0.self (sz := s₀.heap.size)
  generalize hAe : va_A [(hm, .inr (11, [.ref vFo, .ref vSi, .ref vIt, .ref vMo, .int 0, .ref vBy, .ref vTy, .int 0, .ref vMi, .int 0, .ref vPs, .int 0, .ref vGs, .int 0, .ref vFt, .int 0, .ref vTo, .int 0, .int 0, .int 0, .int 16777215, .int 0, .int 0, .ref vPr, .ref vSt, .ref vFn, .int 0, .ref vSg, .ref vAl, .int 0])), (vTy, .inl (cI, 3, .inl (fun _ => 0)))] s₀.heap.size = A at hD ⊢
  have hA : ∀ q : Nat, s₀.heap.size ≤ q → A q := fun q h => by rw [← hAe]; exact Or.inr h
  have hS : va_S A s₀.heap s₀.heap [] := va_S.rf
  have hP : va_P (dC, dI) vwCl [(hm, .inr (11, [.ref vFo, .ref vSi, .ref vIt, .ref vMo, .int 0, .ref vBy, .ref vTy, .int 0, .ref vMi, .int 0, .ref vPs, .int 0, .ref vGs, .int 0, .ref vFt, .int 0, .ref vTo, .int 0, .int 0, .int 0, .int 16777215, .int 0, .int 0, .ref vPr, .ref vSt, .ref vFn, .int 0, .ref vSg, .ref vAl, .int 0])), (vTy, .inl (cI, 3, .inl (fun _ => 0)))] s₀.heap := hP
  have hl := lv_entry ([.ref hm, .int z, .int n, .int w]) (n := 4) (Nat.le_of_ble_eq_true rfl)
  rw [lg_entry_eq]
  generalize (lg_sl ([.ref hm, .int z, .int n, .int w]) ++ List.replicate (4 - (lg_sl ([.ref hm, .int z, .int n, .int w])).length) Slot.unset).toArray = ls at hl ⊢
  have hl : lv_has ls 4 [(0, .ref hm), (1, .int z), (2, .int n), (3, .int w)] := hl
  obtain ⟨H, hH⟩ : ∃ z : Heap, z = s₀.heap := ⟨_, rfl⟩
  rw [← hH] at hP
  have hS : va_S A s₀.heap H [] := by rw [hH]; exact hS
  refine k_heap hH ?_
  have hD : va_D A [(hm, .inr (11, [.ref vFo, .ref vSi, .ref vIt, .ref vMo, .int 0, .ref vBy, .ref vTy, .int 0, .ref vMi, .int 0, .ref vPs, .int 0, .ref vGs, .int 0, .ref vFt, .int 0, .ref vTo, .int 0, .int 0, .int 0, .int 16777215, .int 0, .int 0, .ref vPr, .ref vSt, .ref vFn, .int 0, .ref vSg, .ref vAl, .int 0])), (vTy, .inl (cI, 3, .inl (fun _ => 0)))] := hD
  obtain ⟨locs, hlo⟩ : ∃ z : List Loc, z = [] := ⟨_, rfl⟩
  rw [← hlo] at hS ⊢
  clear hlo hH hAe hD0
  refine lv_aload_n hx₀ hb dX12_lakes_0 rfl (lv_at hl 0 rfl) ?_
  have hPc := hP.sub (ws' := [(hm, .inr (11, [.ref vFo, .ref vSi, .ref vIt, .ref vMo, .int 0, .ref vBy, .ref vTy, .int 0, .ref vMi, .int 0, .ref vPs, .int 0, .ref vGs, .int 0, .ref vFt, .int 0, .ref vTo, .int 0, .int 0, .int 0, .int 16777215, .int 0, .int 0, .ref vPr, .ref vSt, .ref vFn, .int 0, .ref vSg, .ref vAl, .int 0])), (vTy, .inl (cI, 3, .inl (fun _ => 0)))]) [0, 1] rfl
  have hDc := hD.sub (ws' := [(hm, .inr (11, [.ref vFo, .ref vSi, .ref vIt, .ref vMo, .int 0, .ref vBy, .ref vTy, .int 0, .ref vMi, .int 0, .ref vPs, .int 0, .ref vGs, .int 0, .ref vFt, .int 0, .ref vTo, .int 0, .int 0, .int 0, .int 16777215, .int 0, .int 0, .ref vPr, .ref vSt, .ref vFn, .int 0, .ref vSg, .ref vAl, .int 0])), (vTy, .inl (cI, 3, .inl (fun _ => 0)))]) [0, 1] (by decide) rfl
  have hFc := va_free (wc := [(hm, .inr (11, [.ref vFo, .ref vSi, .ref vIt, .ref vMo, .int 0, .ref vBy, .ref vTy, .int 0, .ref vMi, .int 0, .ref vPs, .int 0, .ref vGs, .int 0, .ref vFt, .int 0, .ref vTo, .int 0, .int 0, .int 0, .int 16777215, .int 0, .int 0, .ref vPr, .ref vSt, .ref vFn, .int 0, .ref vSg, .ref vAl, .int 0])), (vTy, .inl (cI, 3, .inl (fun _ => 0)))]) hD hS hA [0, 1] rfl
  refine va_callv (va_runV (As := []) (rest := []) ⟨hx₀, hb, hml, hown, hts⟩ (m_reads l dC dI cI cJ cQ H.size hm vFo vSi vIt vMo vBy vTy vMi vPs vGs vFt vTo vPr vSt vFn vSg vAl) (cwV 0 hts (kGV wd_298 wd_295 wd_296 wd_297 wd_5) rfl rfl rfl (by decide +kernel) ⟨Nat.le_of_ble_eq_true rfl, Nat.le_of_ble_eq_true rfl⟩) (k_preV (ci := 11) (q0 := 0) hK hPc hDc hN rfl rfl) rfl rfl hl.1 rfl (lv_room (Nat.le_of_ble_eq_true rfl)) dX12_lakes_1 ⟨by decide +kernel, by decide +kernel⟩) hS (fun q _ h => hFc q h) hFc (fun u₀ t₀ H1 locs ht hvm hw hB hz1 hk1 hS => ?_)
  obtain ⟨hP1, hK1, hD1⟩ := hB
  rw [ht] at hP1
  obtain ⟨hP, hD⟩ := va_join (wr := []) (w1 := [(hm, .inr (11, [.ref vFo, .ref vSi, .ref vIt, .ref vMo, .int 0, .ref vBy, .ref vTy, .int 0, .ref vMi, .int 0, .ref vPs, .int 0, .ref vGs, .int 0, .ref vFt, .int 0, .ref vTo, .int 0, .int 0, .int 0, .int 16777215, .int 0, .int 0, .ref vPr, .ref vSt, .ref vFn, .int 0, .ref vSg, .ref vAl, .int 0])), (vTy, .inl (cI, 3, .inl (fun _ => 0)))]) hP hD [0, 1] [] rfl rfl (by decide) (by decide) hk1 hFc hP1 hD1
  generalize H1 = H at hP hS ⊢
  have hP : va_P (dC, dI) vwCl [(hm, .inr (11, [.ref vFo, .ref vSi, .ref vIt, .ref vMo, .int 0, .ref vBy, .ref vTy, .int 0, .ref vMi, .int 0, .ref vPs, .int 0, .ref vGs, .int 0, .ref vFt, .int 0, .ref vTo, .int 0, .int 0, .int 0, .int 16777215, .int 0, .int 0, .ref vPr, .ref vSt, .ref vFn, .int 0, .ref vSg, .ref vAl, .int 0])), (vTy, .inl (cI, 3, .inl (fun _ => 0)))] H := hP
  have hD : va_D A [(hm, .inr (11, [.ref vFo, .ref vSi, .ref vIt, .ref vMo, .int 0, .ref vBy, .ref vTy, .int 0, .ref vMi, .int 0, .ref vPs, .int 0, .ref vGs, .int 0, .ref vFt, .int 0, .ref vTo, .int 0, .int 0, .int 0, .int 16777215, .int 0, .int 0, .ref vPr, .ref vSt, .ref vFn, .int 0, .ref vSg, .ref vAl, .int 0])), (vTy, .inl (cI, 3, .inl (fun _ => 0)))] := hD
  refine lv_iload_n hx₀ hb dX12_lakes_4 rfl (lv_at hl 2 rfl) ?_
  refine lv_i2l hx₀ hb dX12_lakes_5 rfl ?_
  refine lv_lconst (v := 1) hx₀ hb dX12_lakes_6 (by decide +kernel) ?_
  refine lv_ldc2 (v := 99) hx₀ hb hown (hts (.constantLong RX12 286 (99)) wd_847) dX12_lakes_7 ?_
  have hPc := hP.sub (ws' := []) [] rfl
  have hDc := hD.sub (ws' := []) [] (by decide) rfl
  have hFc := va_free (wc := []) hD hS hA [] rfl
  refine va_calli (va_runS (As := [.long n.toInt64, .long 1, .long 99]) (rest := []) ⟨hx₀, hb, hml, hown, hts⟩ (c_in l dC dI cI cJ cQ H.size n.toInt64 1 99) (va_cwS 3 hts (kGS wd_208 wd_206 wd_207 wd_5) rfl rfl rfl (by decide +kernel) ⟨Nat.le_of_ble_eq_true rfl, Nat.le_of_ble_eq_true rfl⟩) (k_preS hK hPc hDc hN) rfl rfl hl.1 rfl (lv_room (Nat.le_of_ble_eq_true rfl)) dX12_lakes_10 ⟨by decide +kernel, by decide +kernel⟩) hS (fun q _ h => hFc q h) hFc (fun r_2 u₀ t₀ H1 locs ht hvm hw hB hz1 hk1 hS => ?_)
  obtain ⟨hP1, hK1, hD1⟩ := hB
  rw [ht] at hP1
  obtain ⟨hP, hD⟩ := va_join (wr := [(hm, .inr (11, [.ref vFo, .ref vSi, .ref vIt, .ref vMo, .int 0, .ref vBy, .ref vTy, .int 0, .ref vMi, .int 0, .ref vPs, .int 0, .ref vGs, .int 0, .ref vFt, .int 0, .ref vTo, .int 0, .int 0, .int 0, .int 16777215, .int 0, .int 0, .ref vPr, .ref vSt, .ref vFn, .int 0, .ref vSg, .ref vAl, .int 0])), (vTy, .inl (cI, 3, .inl (fun _ => 0)))]) (w1 := []) hP hD [] [0, 1] rfl rfl (by decide) (by decide) hk1 hFc hP1 hD1
  generalize H1 = H at hP hS ⊢
  have hP : va_P (dC, dI) vwCl [(hm, .inr (11, [.ref vFo, .ref vSi, .ref vIt, .ref vMo, .int 0, .ref vBy, .ref vTy, .int 0, .ref vMi, .int 0, .ref vPs, .int 0, .ref vGs, .int 0, .ref vFt, .int 0, .ref vTo, .int 0, .int 0, .int 0, .int 16777215, .int 0, .int 0, .ref vPr, .ref vSt, .ref vFn, .int 0, .ref vSg, .ref vAl, .int 0])), (vTy, .inl (cI, 3, .inl (fun _ => 0)))] H := hP
  have hD : va_D A [(hm, .inr (11, [.ref vFo, .ref vSi, .ref vIt, .ref vMo, .int 0, .ref vBy, .ref vTy, .int 0, .ref vMi, .int 0, .ref vPs, .int 0, .ref vGs, .int 0, .ref vFt, .int 0, .ref vTo, .int 0, .int 0, .int 0, .int 16777215, .int 0, .int 0, .ref vPr, .ref vSt, .ref vFn, .int 0, .ref vSg, .ref vAl, .int 0])), (vTy, .inl (cI, 3, .inl (fun _ => 0)))] := hD
  try dsimp only at hw
  by_cases c_3 : (1 : Int64) ≤ n.toInt64 ∧ n.toInt64 ≤ (99 : Int64)
  · rw [if_pos c_3] at hw
    refine k_topi (v := 1) hw ?_
    refine lv_if_eq (tgt := 33) hx₀ hb dX12_lakes_13 (by decide) (fun c9 => absurd c9 (by decide +kernel)) (fun _ => ?_)
    refine lv_iload_n hx₀ hb dX12_lakes_16 rfl (lv_at hl 3 rfl) ?_
    have hPc := hP.sub (ws' := []) [] rfl
    have hDc := hD.sub (ws' := []) [] (by decide) rfl
    have hFc := va_free (wc := []) hD hS hA [] rfl
    refine va_calli (va_runS (As := [.int w]) (rest := []) ⟨hx₀, hb, hml, hown, hts⟩ (c_isTwo l dC dI cI cJ cQ H.size w) (va_cwS 1 hts (kGS wd_348 wd_346 wd_347 wd_5) rfl rfl rfl (by decide +kernel) ⟨Nat.le_of_ble_eq_true rfl, Nat.le_of_ble_eq_true rfl⟩) (k_preS hK hPc hDc hN) rfl rfl hl.1 rfl (lv_room (Nat.le_of_ble_eq_true rfl)) dX12_lakes_17 ⟨by decide +kernel, by decide +kernel⟩) hS (fun q _ h => hFc q h) hFc (fun r_4 u₀ t₀ H1 locs ht hvm hw hB hz1 hk1 hS => ?_)
    obtain ⟨hP1, hK1, hD1⟩ := hB
    rw [ht] at hP1
    obtain ⟨hP, hD⟩ := va_join (wr := [(hm, .inr (11, [.ref vFo, .ref vSi, .ref vIt, .ref vMo, .int 0, .ref vBy, .ref vTy, .int 0, .ref vMi, .int 0, .ref vPs, .int 0, .ref vGs, .int 0, .ref vFt, .int 0, .ref vTo, .int 0, .int 0, .int 0, .int 16777215, .int 0, .int 0, .ref vPr, .ref vSt, .ref vFn, .int 0, .ref vSg, .ref vAl, .int 0])), (vTy, .inl (cI, 3, .inl (fun _ => 0)))]) (w1 := []) hP hD [] [0, 1] rfl rfl (by decide) (by decide) hk1 hFc hP1 hD1
    generalize H1 = H at hP hS ⊢
    have hP : va_P (dC, dI) vwCl [(hm, .inr (11, [.ref vFo, .ref vSi, .ref vIt, .ref vMo, .int 0, .ref vBy, .ref vTy, .int 0, .ref vMi, .int 0, .ref vPs, .int 0, .ref vGs, .int 0, .ref vFt, .int 0, .ref vTo, .int 0, .int 0, .int 0, .int 16777215, .int 0, .int 0, .ref vPr, .ref vSt, .ref vFn, .int 0, .ref vSg, .ref vAl, .int 0])), (vTy, .inl (cI, 3, .inl (fun _ => 0)))] H := hP
    have hD : va_D A [(hm, .inr (11, [.ref vFo, .ref vSi, .ref vIt, .ref vMo, .int 0, .ref vBy, .ref vTy, .int 0, .ref vMi, .int 0, .ref vPs, .int 0, .ref vGs, .int 0, .ref vFt, .int 0, .ref vTo, .int 0, .int 0, .int 0, .int 16777215, .int 0, .int 0, .ref vPr, .ref vSt, .ref vFn, .int 0, .ref vSg, .ref vAl, .int 0])), (vTy, .inl (cI, 3, .inl (fun _ => 0)))] := hD
    try dsimp only at hw
    by_cases c_5 : 0 ≤ w ∧ w ≤ 1
    · rw [if_pos c_5] at hw
      refine k_topi (v := 1) hw ?_
      refine lv_if_eq (tgt := 33) hx₀ hb dX12_lakes_20 (by decide) (fun c9 => absurd c9 (by decide +kernel)) (fun _ => ?_)
      refine lv_aload_n hx₀ hb dX12_lakes_23 rfl (lv_at hl 0 rfl) ?_
      refine lv_iload_n hx₀ hb dX12_lakes_24 rfl (lv_at hl 1 rfl) ?_
      refine lv_iload_n hx₀ hb dX12_lakes_25 rfl (lv_at hl 2 rfl) ?_
      refine lv_iload_n hx₀ hb dX12_lakes_26 rfl (lv_at hl 3 rfl) ?_
      have hPc := hP.sub (ws' := [(hm, .inr (11, [.ref vFo, .ref vSi, .ref vIt, .ref vMo, .int 0, .ref vBy, .ref vTy, .int 0, .ref vMi, .int 0, .ref vPs, .int 0, .ref vGs, .int 0, .ref vFt, .int 0, .ref vTo, .int 0, .int 0, .int 0, .int 16777215, .int 0, .int 0, .ref vPr, .ref vSt, .ref vFn, .int 0, .ref vSg, .ref vAl, .int 0]))]) [0] rfl
      have hDc := hD.sub (ws' := [(hm, .inr (11, [.ref vFo, .ref vSi, .ref vIt, .ref vMo, .int 0, .ref vBy, .ref vTy, .int 0, .ref vMi, .int 0, .ref vPs, .int 0, .ref vGs, .int 0, .ref vFt, .int 0, .ref vTo, .int 0, .int 0, .int 0, .int 16777215, .int 0, .int 0, .ref vPr, .ref vSt, .ref vFn, .int 0, .ref vSg, .ref vAl, .int 0]))]) [0] (by decide) rfl
      have hFc := va_free (wc := [(hm, .inr (11, [.ref vFo, .ref vSi, .ref vIt, .ref vMo, .int 0, .ref vBy, .ref vTy, .int 0, .ref vMi, .int 0, .ref vPs, .int 0, .ref vGs, .int 0, .ref vFt, .int 0, .ref vTo, .int 0, .int 0, .int 0, .int 16777215, .int 0, .int 0, .ref vPr, .ref vSt, .ref vFn, .int 0, .ref vSg, .ref vAl, .int 0]))]) hD hS hA [0] rfl
      refine va_calli (va_runV (As := [.int z, .int n, .int w]) (rest := []) ⟨hx₀, hb, hml, hown, hts⟩ (m_lakesOf l dC dI cI cJ cQ H.size hm z n w vFo vSi vIt vMo vBy vTy vMi vPs vGs vFt vTo vPr vSt vFn vSg vAl 0) (cwV 3 hts (kGV wd_851 wd_848 wd_849 wd_850 wd_5) rfl rfl rfl (by decide +kernel) ⟨Nat.le_of_ble_eq_true rfl, Nat.le_of_ble_eq_true rfl⟩) (k_preV (ci := 11) (q0 := 0) hK hPc hDc hN rfl rfl) rfl rfl hl.1 rfl (lv_room (Nat.le_of_ble_eq_true rfl)) dX12_lakes_27 ⟨by decide +kernel, by decide +kernel⟩) hS (fun q _ h => hFc q h) hFc (fun r_6 u₀ t₀ H1 locs ht hvm hw hB hz1 hk1 hS => ?_)
      obtain ⟨hP1, hK1, hD1⟩ := hB
      rw [ht] at hP1
      obtain ⟨hP, hD⟩ := va_join (wr := [(vTy, .inl (cI, 3, .inl (fun _ => 0)))]) (w1 := [(hm, .inr (11, [.ref vFo, .ref vSi, .ref vIt, .ref vMo, .int 0, .ref vBy, .ref vTy, .int 0, .ref vMi, .int 0, .ref vPs, .int 0, .ref vGs, .int 0, .ref vFt, .int 0, .ref vTo, .int 0, .int 0, .int 0, .int 16777215, .int 0, .int 0, .ref vPr, .ref vSt, .ref vFn, .int 0, .ref vSg, .ref vAl, .int z]))]) hP hD [0] [1] rfl rfl (by decide) (by decide) hk1 hFc hP1 hD1
      generalize H1 = H at hP hS ⊢
      have hP : va_P (dC, dI) vwCl [(vTy, .inl (cI, 3, .inl (fun _ => 0))), (hm, .inr (11, [.ref vFo, .ref vSi, .ref vIt, .ref vMo, .int 0, .ref vBy, .ref vTy, .int 0, .ref vMi, .int 0, .ref vPs, .int 0, .ref vGs, .int 0, .ref vFt, .int 0, .ref vTo, .int 0, .int 0, .int 0, .int 16777215, .int 0, .int 0, .ref vPr, .ref vSt, .ref vFn, .int 0, .ref vSg, .ref vAl, .int z]))] H := hP
      have hD : va_D A [(vTy, .inl (cI, 3, .inl (fun _ => 0))), (hm, .inr (11, [.ref vFo, .ref vSi, .ref vIt, .ref vMo, .int 0, .ref vBy, .ref vTy, .int 0, .ref vMi, .int 0, .ref vPs, .int 0, .ref vGs, .int 0, .ref vFt, .int 0, .ref vTo, .int 0, .int 0, .int 0, .int 16777215, .int 0, .int 0, .ref vPr, .ref vSt, .ref vFn, .int 0, .ref vSg, .ref vAl, .int z]))] := hD
      try dsimp only at hw
      refine k_topi (v := 0) hw ?_
      refine lv_goto (tgt := 35) hx₀ hb dX12_lakes_30 (by decide) ?_
      exact W.iret (v := 0) hx₀ hb hr (fun t₀ ht hW => ⟨⟨0, (), rfl, (lf_m_lakes_1 n w c_3 c_5), trivial⟩, hS.F ht⟩) hS.2.2 dX12_lakes_35
    rw [if_neg c_5] at hw
    refine k_topi (v := 0) hw ?_
    refine lv_if_eq (tgt := 33) hx₀ hb dX12_lakes_20 (by decide) (fun _ => ?_) (fun c9 => absurd (by decide +kernel) c9)
    refine lv_bipush (v := (-2)) hx₀ hb dX12_lakes_33 (by decide +kernel) ?_
    exact W.iret (v := (-2)) hx₀ hb hr (fun t₀ ht hW => ⟨⟨(-2), (), rfl, (lf_m_lakes_2 n w c_3 c_5), trivial⟩, hS.F ht⟩) hS.2.2 dX12_lakes_35
  rw [if_neg c_3] at hw
  refine k_topi (v := 0) hw ?_
  refine lv_if_eq (tgt := 33) hx₀ hb dX12_lakes_13 (by decide) (fun _ => ?_) (fun c9 => absurd (by decide +kernel) c9)
  refine lv_bipush (v := (-2)) hx₀ hb dX12_lakes_33 (by decide +kernel) ?_
  exact W.iret (v := (-2)) hx₀ hb hr (fun t₀ ht hW => ⟨⟨(-2), (), rfl, (lf_m_lakes_3 n w c_3), trivial⟩, hS.F ht⟩) hS.2.2 dX12_lakes_35
theorem lf_m_lose_1 (s : Int32) (c_2 : 0 ≤ s ∧ s ≤ 3) : ((-11) : Int32) = if 0 ≤ s ∧ s ≤ 3 then -11 else -2 := by
  repeat first | rfl | rw [if_pos (by (first | omega | (simp only [Int64.le_iff_toInt_le, Int64.lt_iff_toInt_lt, Int32.le_iff_toInt_le, Int32.lt_iff_toInt_lt, ← Int32.toInt_inj, ← Int64.toInt_inj, Int32.toInt_toInt64, (show (-11 : Int32).toInt = -11 from by decide), (show (-11 : Int64).toInt = -11 from by decide), (show (-2 : Int32).toInt = -2 from by decide), (show (-2 : Int64).toInt = -2 from by decide), (show (0 : Int32).toInt = 0 from by decide), (show (0 : Int64).toInt = 0 from by decide), (show (3 : Int32).toInt = 3 from by decide), (show (3 : Int64).toInt = 3 from by decide)] at *; omega)))] | rw [if_neg (by (first | omega | (simp only [Int64.le_iff_toInt_le, Int64.lt_iff_toInt_lt, Int32.le_iff_toInt_le, Int32.lt_iff_toInt_lt, ← Int32.toInt_inj, ← Int64.toInt_inj, Int32.toInt_toInt64, (show (-11 : Int32).toInt = -11 from by decide), (show (-11 : Int64).toInt = -11 from by decide), (show (-2 : Int32).toInt = -2 from by decide), (show (-2 : Int64).toInt = -2 from by decide), (show (0 : Int32).toInt = 0 from by decide), (show (0 : Int64).toInt = 0 from by decide), (show (3 : Int32).toInt = 3 from by decide), (show (3 : Int64).toInt = 3 from by decide)] at *; omega)))]
theorem lf_m_lose_2 (s : Int32) (c_2 : ¬ (0 ≤ s ∧ s ≤ 3)) : ((-2) : Int32) = if 0 ≤ s ∧ s ≤ 3 then -11 else -2 := by
  repeat first | rfl | rw [if_pos (by (first | omega | (simp only [Int64.le_iff_toInt_le, Int64.lt_iff_toInt_lt, Int32.le_iff_toInt_le, Int32.lt_iff_toInt_lt, ← Int32.toInt_inj, ← Int64.toInt_inj, Int32.toInt_toInt64, (show (-11 : Int32).toInt = -11 from by decide), (show (-11 : Int64).toInt = -11 from by decide), (show (-2 : Int32).toInt = -2 from by decide), (show (-2 : Int64).toInt = -2 from by decide), (show (0 : Int32).toInt = 0 from by decide), (show (0 : Int64).toInt = 0 from by decide), (show (3 : Int32).toInt = 3 from by decide), (show (3 : Int64).toInt = 3 from by decide)] at *; omega)))] | rw [if_neg (by (first | omega | (simp only [Int64.le_iff_toInt_le, Int64.lt_iff_toInt_lt, Int32.le_iff_toInt_le, Int32.lt_iff_toInt_lt, ← Int32.toInt_inj, ← Int64.toInt_inj, Int32.toInt_toInt64, (show (-11 : Int32).toInt = -11 from by decide), (show (-11 : Int64).toInt = -11 from by decide), (show (-2 : Int32).toInt = -2 from by decide), (show (-2 : Int64).toInt = -2 from by decide), (show (0 : Int32).toInt = 0 from by decide), (show (0 : Int64).toInt = 0 from by decide), (show (3 : Int32).toInt = 3 from by decide), (show (3 : Int64).toInt = 3 from by decide)] at *; omega)))]
set_option maxHeartbeats 4000000 in
set_option maxRecDepth 100000 in
theorem m_lose (l : Launch) (dC : Nat → ClassId) (dI : Nat → Nat → Nat) (cI cJ cQ : ClassId) (sz : Nat) (hm : Nat) (s : Int32) (vFo : Nat) (vSi : Nat) (vIt : Nat) (vMo : Nat) (vBy : Nat) (vTy : Nat) (vMi : Nat) (vPs : Nat) (vGs : Nat) (vFt : Nat) (vTo : Nat) (vPr : Nat) (vSt : Nat) (vFn : Nat) (vSg : Nat) (vAl : Nat) : Met l yX12_lose (kW yX12_lose cX12_lose 2 (some .int)) { frames := 2, cells := 0, slots := 0, locals := 45 } (kPre dC dI cI cJ cQ sz [.ref hm, .int s] [(hm, .inr (11, [.ref vFo, .ref vSi, .ref vIt, .ref vMo, .int 0, .ref vBy, .ref vTy, .int 0, .ref vMi, .int 0, .ref vPs, .int 0, .ref vGs, .int 0, .ref vFt, .int 0, .ref vTo, .int 0, .int 0, .int 0, .int 16777215, .int 0, .int 0, .ref vPr, .ref vSt, .ref vFn, .int 0, .ref vSg, .ref vAl, .int 0])), (vFo, .inl (cI, 4, .inl fFo))]) (va_Qi (fun (r : Int32) (_ : Unit) => r = if 0 ≤ s ∧ s ≤ 3 then -11 else -2) (fun _ _ => True) (va_A [(hm, .inr (11, [.ref vFo, .ref vSi, .ref vIt, .ref vMo, .int 0, .ref vBy, .ref vTy, .int 0, .ref vMi, .int 0, .ref vPs, .int 0, .ref vGs, .int 0, .ref vFt, .int 0, .ref vTo, .int 0, .int 0, .int 0, .int 16777215, .int 0, .int 0, .ref vPr, .ref vSt, .ref vFn, .int 0, .ref vSg, .ref vAl, .int 0])), (vFo, .inl (cI, 4, .inl fFo))] sz)) 0 0 (va_A [(hm, .inr (11, [.ref vFo, .ref vSi, .ref vIt, .ref vMo, .int 0, .ref vBy, .ref vTy, .int 0, .ref vMi, .int 0, .ref vPs, .int 0, .ref vGs, .int 0, .ref vFt, .int 0, .ref vTo, .int 0, .int 0, .int 0, .int 16777215, .int 0, .int 0, .ref vPr, .ref vSt, .ref vFn, .int 0, .ref vSg, .ref vAl, .int 0])), (vFo, .inl (cI, 4, .inl fFo))] sz) := by
  refine Met.ofW (cc := cX12_lose) (maxL := 2) (ret := (some .int)) (by decide) rfl ?_
  intro p₀ e₀ s₀ m₀ args below meth c₀ s₁ B hml hv₀
  obtain ⟨rfl, hsz, hP, hK, hD0, hN⟩ := hv₀
  have hx₀ := B.exec
  have hb := B.bytes
  have hr := B.returns
  have hts := atoms_spec (ws := (kW yX12_lose cX12_lose 2 (some .int))) B.pre
  have hts := fun w h => hts w (List.mem_cons_of_mem _ h)
  have hown : s₀.vm.findClass RX12 = some m₀.cls := findClass_of_methodNamed B.named
  have hlocks := B.notSynchronized
  subst hsz
  have hD := hD0.self (sz := s₀.heap.size)
  generalize hAe : va_A [(hm, .inr (11, [.ref vFo, .ref vSi, .ref vIt, .ref vMo, .int 0, .ref vBy, .ref vTy, .int 0, .ref vMi, .int 0, .ref vPs, .int 0, .ref vGs, .int 0, .ref vFt, .int 0, .ref vTo, .int 0, .int 0, .int 0, .int 16777215, .int 0, .int 0, .ref vPr, .ref vSt, .ref vFn, .int 0, .ref vSg, .ref vAl, .int 0])), (vFo, .inl (cI, 4, .inl fFo))] s₀.heap.size = A at hD ⊢
  have hA : ∀ q : Nat, s₀.heap.size ≤ q → A q := fun q h => by rw [← hAe]; exact Or.inr h
  have hS : va_S A s₀.heap s₀.heap [] := va_S.rf
  have hP : va_P (dC, dI) vwCl [(hm, .inr (11, [.ref vFo, .ref vSi, .ref vIt, .ref vMo, .int 0, .ref vBy, .ref vTy, .int 0, .ref vMi, .int 0, .ref vPs, .int 0, .ref vGs, .int 0, .ref vFt, .int 0, .ref vTo, .int 0, .int 0, .int 0, .int 16777215, .int 0, .int 0, .ref vPr, .ref vSt, .ref vFn, .int 0, .ref vSg, .ref vAl, .int 0])), (vFo, .inl (cI, 4, .inl fFo))] s₀.heap := hP
  have hl := lv_entry ([.ref hm, .int s]) (n := 2) (Nat.le_of_ble_eq_true rfl)
  rw [lg_entry_eq]
  generalize (lg_sl ([.ref hm, .int s]) ++ List.replicate (2 - (lg_sl ([.ref hm, .int s])).length) Slot.unset).toArray = ls at hl ⊢
  have hl : lv_has ls 2 [(0, .ref hm), (1, .int s)] := hl
  obtain ⟨H, hH⟩ : ∃ z : Heap, z = s₀.heap := ⟨_, rfl⟩
  rw [← hH] at hP
  have hS : va_S A s₀.heap H [] := by rw [hH]; exact hS
  refine k_heap hH ?_
  have hD : va_D A [(hm, .inr (11, [.ref vFo, .ref vSi, .ref vIt, .ref vMo, .int 0, .ref vBy, .ref vTy, .int 0, .ref vMi, .int 0, .ref vPs, .int 0, .ref vGs, .int 0, .ref vFt, .int 0, .ref vTo, .int 0, .int 0, .int 0, .int 16777215, .int 0, .int 0, .ref vPr, .ref vSt, .ref vFn, .int 0, .ref vSg, .ref vAl, .int 0])), (vFo, .inl (cI, 4, .inl fFo))] := hD
  obtain ⟨locs, hlo⟩ : ∃ z : List Loc, z = [] := ⟨_, rfl⟩
  rw [← hlo] at hS ⊢
  clear hlo hH hAe hD0
  refine lv_iload_n hx₀ hb dX12_lose_0 rfl (lv_at hl 1 rfl) ?_
  have hPc := hP.sub (ws' := []) [] rfl
  have hDc := hD.sub (ws' := []) [] (by decide) rfl
  have hFc := va_free (wc := []) hD hS hA [] rfl
  refine va_calli (va_runS (As := [.int s]) (rest := []) ⟨hx₀, hb, hml, hown, hts⟩ (c_isSheet l dC dI cI cJ cQ H.size s) (va_cwS 1 hts (kGS wd_400 wd_398 wd_399 wd_5) rfl rfl rfl (by decide +kernel) ⟨Nat.le_of_ble_eq_true rfl, Nat.le_of_ble_eq_true rfl⟩) (k_preS hK hPc hDc hN) rfl rfl hl.1 rfl (lv_room (Nat.le_of_ble_eq_true rfl)) dX12_lose_1 ⟨by decide +kernel, by decide +kernel⟩) hS (fun q _ h => hFc q h) hFc (fun r_1 u₀ t₀ H1 locs ht hvm hw hB hz1 hk1 hS => ?_)
  obtain ⟨hP1, hK1, hD1⟩ := hB
  rw [ht] at hP1
  obtain ⟨hP, hD⟩ := va_join (wr := [(hm, .inr (11, [.ref vFo, .ref vSi, .ref vIt, .ref vMo, .int 0, .ref vBy, .ref vTy, .int 0, .ref vMi, .int 0, .ref vPs, .int 0, .ref vGs, .int 0, .ref vFt, .int 0, .ref vTo, .int 0, .int 0, .int 0, .int 16777215, .int 0, .int 0, .ref vPr, .ref vSt, .ref vFn, .int 0, .ref vSg, .ref vAl, .int 0])), (vFo, .inl (cI, 4, .inl fFo))]) (w1 := []) hP hD [] [0, 1] rfl rfl (by decide) (by decide) hk1 hFc hP1 hD1
  generalize H1 = H at hP hS ⊢
  have hP : va_P (dC, dI) vwCl [(hm, .inr (11, [.ref vFo, .ref vSi, .ref vIt, .ref vMo, .int 0, .ref vBy, .ref vTy, .int 0, .ref vMi, .int 0, .ref vPs, .int 0, .ref vGs, .int 0, .ref vFt, .int 0, .ref vTo, .int 0, .int 0, .int 0, .int 16777215, .int 0, .int 0, .ref vPr, .ref vSt, .ref vFn, .int 0, .ref vSg, .ref vAl, .int 0])), (vFo, .inl (cI, 4, .inl fFo))] H := hP
  have hD : va_D A [(hm, .inr (11, [.ref vFo, .ref vSi, .ref vIt, .ref vMo, .int 0, .ref vBy, .ref vTy, .int 0, .ref vMi, .int 0, .ref vPs, .int 0, .ref vGs, .int 0, .ref vFt, .int 0, .ref vTo, .int 0, .int 0, .int 0, .int 16777215, .int 0, .int 0, .ref vPr, .ref vSt, .ref vFn, .int 0, .ref vSg, .ref vAl, .int 0])), (vFo, .inl (cI, 4, .inl fFo))] := hD
  try dsimp only at hw
  by_cases c_2 : 0 ≤ s ∧ s ≤ 3
  · rw [if_pos c_2] at hw
    refine k_topi (v := 1) hw ?_
    refine lv_if_ne (tgt := 10) hx₀ hb dX12_lose_4 (by decide) (fun _ => ?_) (fun c9 => absurd c9 (by decide +kernel))
    refine lv_aload_n hx₀ hb dX12_lose_10 rfl (lv_at hl 0 rfl) ?_
    refine va_get (D := (dC, dI)) (ci := 11) (v := .ref vFo) (C := RX12) (T := TX12) (N := 30) hx₀ hb hts inlX12 hown hK hP 0 rfl rfl 0 (by decide) (hts (.fieldLink RX12 7 "BittenStickModel" "forms" "[I") wd_115) (fun _ h9 => h9) rfl dX12_lose_11 ?_
    refine lv_iload_n hx₀ hb dX12_lose_14 rfl (lv_at hl 1 rfl) ?_
    refine va_iald hx₀ hb hK hP 1 0 rfl rfl (k_in3 c_2) dX12_lose_15 ?_
    refine k_topi (v := (-1)) (fFo_at c_2) ?_
    refine lv_if_ge (tgt := 25) hx₀ hb dX12_lose_16 (by decide) (fun c9 => absurd c9 (by decide +kernel)) (fun _ => ?_)
    refine lv_aload_n hx₀ hb dX12_lose_19 rfl (lv_at hl 0 rfl) ?_
    refine lv_iconst (v := 1) hx₀ hb dX12_lose_20 (by decide +kernel) ?_
    have hPc := hP.sub (ws' := [(hm, .inr (11, [.ref vFo, .ref vSi, .ref vIt, .ref vMo, .int 0, .ref vBy, .ref vTy, .int 0, .ref vMi, .int 0, .ref vPs, .int 0, .ref vGs, .int 0, .ref vFt, .int 0, .ref vTo, .int 0, .int 0, .int 0, .int 16777215, .int 0, .int 0, .ref vPr, .ref vSt, .ref vFn, .int 0, .ref vSg, .ref vAl, .int 0]))]) [0] rfl
    have hDc := hD.sub (ws' := [(hm, .inr (11, [.ref vFo, .ref vSi, .ref vIt, .ref vMo, .int 0, .ref vBy, .ref vTy, .int 0, .ref vMi, .int 0, .ref vPs, .int 0, .ref vGs, .int 0, .ref vFt, .int 0, .ref vTo, .int 0, .int 0, .int 0, .int 16777215, .int 0, .int 0, .ref vPr, .ref vSt, .ref vFn, .int 0, .ref vSg, .ref vAl, .int 0]))]) [0] (by decide) rfl
    have hFc := va_free (wc := [(hm, .inr (11, [.ref vFo, .ref vSi, .ref vIt, .ref vMo, .int 0, .ref vBy, .ref vTy, .int 0, .ref vMi, .int 0, .ref vPs, .int 0, .ref vGs, .int 0, .ref vFt, .int 0, .ref vTo, .int 0, .int 0, .int 0, .int 16777215, .int 0, .int 0, .ref vPr, .ref vSt, .ref vFn, .int 0, .ref vSg, .ref vAl, .int 0]))]) hD hS hA [0] rfl
    refine va_calli (va_runV (As := [.int 1]) (rest := []) ⟨hx₀, hb, hml, hown, hts⟩ (m_finds1 l dC dI cI cJ cQ H.size hm vFo vSi vIt vMo vBy vTy vMi vPs vGs vFt vTo vPr vSt vFn vSg vAl) (cwV 1 hts (kGV wd_404 wd_401 wd_402 wd_403 wd_5) rfl rfl rfl (by decide +kernel) ⟨Nat.le_of_ble_eq_true rfl, Nat.le_of_ble_eq_true rfl⟩) (k_preV (ci := 11) (q0 := 0) hK hPc hDc hN rfl rfl) rfl rfl hl.1 rfl (lv_room (Nat.le_of_ble_eq_true rfl)) dX12_lose_21 ⟨by decide +kernel, by decide +kernel⟩) hS (fun q _ h => hFc q h) hFc (fun r_3 u₀ t₀ H1 locs ht hvm hw hB hz1 hk1 hS => ?_)
    obtain ⟨hP1, hK1, hD1⟩ := hB
    rw [ht] at hP1
    obtain ⟨hP, hD⟩ := va_join (wr := [(vFo, .inl (cI, 4, .inl fFo))]) (w1 := [(hm, .inr (11, [.ref vFo, .ref vSi, .ref vIt, .ref vMo, .int 1, .ref vBy, .ref vTy, .int 0, .ref vMi, .int 0, .ref vPs, .int 0, .ref vGs, .int 0, .ref vFt, .int 0, .ref vTo, .int 0, .int 0, .int 0, .int 16777215, .int 0, .int 0, .ref vPr, .ref vSt, .ref vFn, .int 0, .ref vSg, .ref vAl, .int 0]))]) hP hD [0] [1] rfl rfl (by decide) (by decide) hk1 hFc hP1 hD1
    generalize H1 = H at hP hS ⊢
    have hP : va_P (dC, dI) vwCl [(vFo, .inl (cI, 4, .inl fFo)), (hm, .inr (11, [.ref vFo, .ref vSi, .ref vIt, .ref vMo, .int 1, .ref vBy, .ref vTy, .int 0, .ref vMi, .int 0, .ref vPs, .int 0, .ref vGs, .int 0, .ref vFt, .int 0, .ref vTo, .int 0, .int 0, .int 0, .int 16777215, .int 0, .int 0, .ref vPr, .ref vSt, .ref vFn, .int 0, .ref vSg, .ref vAl, .int 0]))] H := hP
    have hD : va_D A [(vFo, .inl (cI, 4, .inl fFo)), (hm, .inr (11, [.ref vFo, .ref vSi, .ref vIt, .ref vMo, .int 1, .ref vBy, .ref vTy, .int 0, .ref vMi, .int 0, .ref vPs, .int 0, .ref vGs, .int 0, .ref vFt, .int 0, .ref vTo, .int 0, .int 0, .int 0, .int 16777215, .int 0, .int 0, .ref vPr, .ref vSt, .ref vFn, .int 0, .ref vSg, .ref vAl, .int 0]))] := hD
    try dsimp only at hw
    refine k_topi (v := (-11)) hw ?_
    exact W.iret (v := (-11)) hx₀ hb hr (fun t₀ ht hW => ⟨⟨(-11), (), rfl, (lf_m_lose_1 s c_2), trivial⟩, hS.F ht⟩) hS.2.2 dX12_lose_24
  rw [if_neg c_2] at hw
  refine k_topi (v := 0) hw ?_
  refine lv_if_ne (tgt := 10) hx₀ hb dX12_lose_4 (by decide) (fun c9 => absurd (by decide +kernel) c9) (fun _ => ?_)
  refine lv_bipush (v := (-2)) hx₀ hb dX12_lose_7 (by decide +kernel) ?_
  exact W.iret (v := (-2)) hx₀ hb hr (fun t₀ ht hW => ⟨⟨(-2), (), rfl, (lf_m_lose_2 s c_2), trivial⟩, hS.F ht⟩) hS.2.2 dX12_lose_9
theorem lf_m_lay_1 (s : Int32) (m : Int32) (c_2 : 0 ≤ s ∧ s ≤ 3) (c_4 : (0 : Int64) ≤ m.toInt64 ∧ m.toInt64 ≤ (2 : Int64)) : ((-11) : Int32) = if 0 ≤ s ∧ s ≤ 3 ∧ 0 ≤ m ∧ m ≤ 2 then -11 else -2 := by
  repeat first | rfl | rw [if_pos (by (first | omega | (simp only [Int64.le_iff_toInt_le, Int64.lt_iff_toInt_lt, Int32.le_iff_toInt_le, Int32.lt_iff_toInt_lt, ← Int32.toInt_inj, ← Int64.toInt_inj, Int32.toInt_toInt64, (show (-11 : Int32).toInt = -11 from by decide), (show (-11 : Int64).toInt = -11 from by decide), (show (-2 : Int32).toInt = -2 from by decide), (show (-2 : Int64).toInt = -2 from by decide), (show (0 : Int32).toInt = 0 from by decide), (show (0 : Int64).toInt = 0 from by decide), (show (2 : Int32).toInt = 2 from by decide), (show (2 : Int64).toInt = 2 from by decide), (show (3 : Int32).toInt = 3 from by decide), (show (3 : Int64).toInt = 3 from by decide)] at *; omega)))] | rw [if_neg (by (first | omega | (simp only [Int64.le_iff_toInt_le, Int64.lt_iff_toInt_lt, Int32.le_iff_toInt_le, Int32.lt_iff_toInt_lt, ← Int32.toInt_inj, ← Int64.toInt_inj, Int32.toInt_toInt64, (show (-11 : Int32).toInt = -11 from by decide), (show (-11 : Int64).toInt = -11 from by decide), (show (-2 : Int32).toInt = -2 from by decide), (show (-2 : Int64).toInt = -2 from by decide), (show (0 : Int32).toInt = 0 from by decide), (show (0 : Int64).toInt = 0 from by decide), (show (2 : Int32).toInt = 2 from by decide), (show (2 : Int64).toInt = 2 from by decide), (show (3 : Int32).toInt = 3 from by decide), (show (3 : Int64).toInt = 3 from by decide)] at *; omega)))]
theorem lf_m_lay_2 (s : Int32) (m : Int32) (c_2 : 0 ≤ s ∧ s ≤ 3) (c_4 : ¬ ((0 : Int64) ≤ m.toInt64 ∧ m.toInt64 ≤ (2 : Int64))) : ((-2) : Int32) = if 0 ≤ s ∧ s ≤ 3 ∧ 0 ≤ m ∧ m ≤ 2 then -11 else -2 := by
  repeat first | rfl | rw [if_pos (by (first | omega | (simp only [Int64.le_iff_toInt_le, Int64.lt_iff_toInt_lt, Int32.le_iff_toInt_le, Int32.lt_iff_toInt_lt, ← Int32.toInt_inj, ← Int64.toInt_inj, Int32.toInt_toInt64, (show (-11 : Int32).toInt = -11 from by decide), (show (-11 : Int64).toInt = -11 from by decide), (show (-2 : Int32).toInt = -2 from by decide), (show (-2 : Int64).toInt = -2 from by decide), (show (0 : Int32).toInt = 0 from by decide), (show (0 : Int64).toInt = 0 from by decide), (show (2 : Int32).toInt = 2 from by decide), (show (2 : Int64).toInt = 2 from by decide), (show (3 : Int32).toInt = 3 from by decide), (show (3 : Int64).toInt = 3 from by decide)] at *; omega)))] | rw [if_neg (by (first | omega | (simp only [Int64.le_iff_toInt_le, Int64.lt_iff_toInt_lt, Int32.le_iff_toInt_le, Int32.lt_iff_toInt_lt, ← Int32.toInt_inj, ← Int64.toInt_inj, Int32.toInt_toInt64, (show (-11 : Int32).toInt = -11 from by decide), (show (-11 : Int64).toInt = -11 from by decide), (show (-2 : Int32).toInt = -2 from by decide), (show (-2 : Int64).toInt = -2 from by decide), (show (0 : Int32).toInt = 0 from by decide), (show (0 : Int64).toInt = 0 from by decide), (show (2 : Int32).toInt = 2 from by decide), (show (2 : Int64).toInt = 2 from by decide), (show (3 : Int32).toInt = 3 from by decide), (show (3 : Int64).toInt = 3 from by decide)] at *; omega)))]
theorem lf_m_lay_3 (s : Int32) (m : Int32) (c_2 : ¬ (0 ≤ s ∧ s ≤ 3)) : ((-2) : Int32) = if 0 ≤ s ∧ s ≤ 3 ∧ 0 ≤ m ∧ m ≤ 2 then -11 else -2 := by
  repeat first | rfl | rw [if_pos (by (first | omega | (simp only [Int64.le_iff_toInt_le, Int64.lt_iff_toInt_lt, Int32.le_iff_toInt_le, Int32.lt_iff_toInt_lt, ← Int32.toInt_inj, ← Int64.toInt_inj, Int32.toInt_toInt64, (show (-11 : Int32).toInt = -11 from by decide), (show (-11 : Int64).toInt = -11 from by decide), (show (-2 : Int32).toInt = -2 from by decide), (show (-2 : Int64).toInt = -2 from by decide), (show (0 : Int32).toInt = 0 from by decide), (show (0 : Int64).toInt = 0 from by decide), (show (2 : Int32).toInt = 2 from by decide), (show (2 : Int64).toInt = 2 from by decide), (show (3 : Int32).toInt = 3 from by decide), (show (3 : Int64).toInt = 3 from by decide)] at *; omega)))] | rw [if_neg (by (first | omega | (simp only [Int64.le_iff_toInt_le, Int64.lt_iff_toInt_lt, Int32.le_iff_toInt_le, Int32.lt_iff_toInt_lt, ← Int32.toInt_inj, ← Int64.toInt_inj, Int32.toInt_toInt64, (show (-11 : Int32).toInt = -11 from by decide), (show (-11 : Int64).toInt = -11 from by decide), (show (-2 : Int32).toInt = -2 from by decide), (show (-2 : Int64).toInt = -2 from by decide), (show (0 : Int32).toInt = 0 from by decide), (show (0 : Int64).toInt = 0 from by decide), (show (2 : Int32).toInt = 2 from by decide), (show (2 : Int64).toInt = 2 from by decide), (show (3 : Int32).toInt = 3 from by decide), (show (3 : Int64).toInt = 3 from by decide)] at *; omega)))]
set_option maxHeartbeats 4000000 in
set_option maxRecDepth 100000 in
theorem m_lay (l : Launch) (dC : Nat → ClassId) (dI : Nat → Nat → Nat) (cI cJ cQ : ClassId) (sz : Nat) (hm : Nat) (s : Int32) (m : Int32) (i : Int32) (v : Int32) (vFo : Nat) (vSi : Nat) (vIt : Nat) (vMo : Nat) (vBy : Nat) (vTy : Nat) (vMi : Nat) (vPs : Nat) (vGs : Nat) (vFt : Nat) (vTo : Nat) (vPr : Nat) (vSt : Nat) (vFn : Nat) (vSg : Nat) (vAl : Nat) : Met l yX12_lay (kW yX12_lay cX12_lay 6 (some .int)) { frames := 2, cells := 0, slots := 0, locals := 45 } (kPre dC dI cI cJ cQ sz [.ref hm, .int s, .int m, .int i, .int v] [(hm, .inr (11, [.ref vFo, .ref vSi, .ref vIt, .ref vMo, .int 0, .ref vBy, .ref vTy, .int 0, .ref vMi, .int 0, .ref vPs, .int 0, .ref vGs, .int 0, .ref vFt, .int 0, .ref vTo, .int 0, .int 0, .int 0, .int 16777215, .int 0, .int 0, .ref vPr, .ref vSt, .ref vFn, .int 0, .ref vSg, .ref vAl, .int 0])), (vFo, .inl (cI, 4, .inl fFo))]) (va_Qi (fun (r : Int32) (_ : Unit) => r = if 0 ≤ s ∧ s ≤ 3 ∧ 0 ≤ m ∧ m ≤ 2 then -11 else -2) (fun _ _ => True) (va_A [(hm, .inr (11, [.ref vFo, .ref vSi, .ref vIt, .ref vMo, .int 0, .ref vBy, .ref vTy, .int 0, .ref vMi, .int 0, .ref vPs, .int 0, .ref vGs, .int 0, .ref vFt, .int 0, .ref vTo, .int 0, .int 0, .int 0, .int 16777215, .int 0, .int 0, .ref vPr, .ref vSt, .ref vFn, .int 0, .ref vSg, .ref vAl, .int 0])), (vFo, .inl (cI, 4, .inl fFo))] sz)) 0 0 (va_A [(hm, .inr (11, [.ref vFo, .ref vSi, .ref vIt, .ref vMo, .int 0, .ref vBy, .ref vTy, .int 0, .ref vMi, .int 0, .ref vPs, .int 0, .ref vGs, .int 0, .ref vFt, .int 0, .ref vTo, .int 0, .int 0, .int 0, .int 16777215, .int 0, .int 0, .ref vPr, .ref vSt, .ref vFn, .int 0, .ref vSg, .ref vAl, .int 0])), (vFo, .inl (cI, 4, .inl fFo))] sz) := by
  refine Met.ofW (cc := cX12_lay) (maxL := 6) (ret := (some .int)) (by decide) rfl ?_
  intro p₀ e₀ s₀ m₀ args below meth c₀ s₁ B hml hv₀
  obtain ⟨rfl, hsz, hP, hK, hD0, hN⟩ := hv₀
  have hx₀ := B.exec
  have hb := B.bytes
  have hr := B.returns
  have hts := atoms_spec (ws := (kW yX12_lay cX12_lay 6 (some .int))) B.pre
  have hts := fun w h => hts w (List.mem_cons_of_mem _ h)
  have hown : s₀.vm.findClass RX12 = some m₀.cls := findClass_of_methodNamed B.named
  have hlocks := B.notSynchronized
  subst hsz
  have hD := hD0.self (sz := s₀.heap.size)
  generalize hAe : va_A [(hm, .inr (11, [.ref vFo, .ref vSi, .ref vIt, .ref vMo, .int 0, .ref vBy, .ref vTy, .int 0, .ref vMi, .int 0, .ref vPs, .int 0, .ref vGs, .int 0, .ref vFt, .int 0, .ref vTo, .int 0, .int 0, .int 0, .int 16777215, .int 0, .int 0, .ref vPr, .ref vSt, .ref vFn, .int 0, .ref vSg, .ref vAl, .int 0])), (vFo, .inl (cI, 4, .inl fFo))] s₀.heap.size = A at hD ⊢
  have hA : ∀ q : Nat, s₀.heap.size ≤ q → A q := fun q h => by rw [← hAe]; exact Or.inr h
  have hS : va_S A s₀.heap s₀.heap [] := va_S.rf
  have hP : va_P (dC, dI) vwCl [(hm, .inr (11, [.ref vFo, .ref vSi, .ref vIt, .ref vMo, .int 0, .ref vBy, .ref vTy, .int 0, .ref vMi, .int 0, .ref vPs, .int 0, .ref vGs, .int 0, .ref vFt, .int 0, .ref vTo, .int 0, .int 0, .int 0, .int 16777215, .int 0, .int 0, .ref vPr, .ref vSt, .ref vFn, .int 0, .ref vSg, .ref vAl, .int 0])), (vFo, .inl (cI, 4, .inl fFo))] s₀.heap := hP
  have hl := lv_entry ([.ref hm, .int s, .int m, .int i, .int v]) (n := 6) (Nat.le_of_ble_eq_true rfl)
  rw [lg_entry_eq]
  generalize (lg_sl ([.ref hm, .int s, .int m, .int i, .int v]) ++ List.replicate (6 - (lg_sl ([.ref hm, .int s, .int m, .int i, .int v])).length) Slot.unset).toArray = ls at hl ⊢
  have hl : lv_has ls 6 [(0, .ref hm), (1, .int s), (2, .int m), (3, .int i), (4, .int v)] := hl
  obtain ⟨H, hH⟩ : ∃ z : Heap, z = s₀.heap := ⟨_, rfl⟩
  rw [← hH] at hP
  have hS : va_S A s₀.heap H [] := by rw [hH]; exact hS
  refine k_heap hH ?_
  have hD : va_D A [(hm, .inr (11, [.ref vFo, .ref vSi, .ref vIt, .ref vMo, .int 0, .ref vBy, .ref vTy, .int 0, .ref vMi, .int 0, .ref vPs, .int 0, .ref vGs, .int 0, .ref vFt, .int 0, .ref vTo, .int 0, .int 0, .int 0, .int 16777215, .int 0, .int 0, .ref vPr, .ref vSt, .ref vFn, .int 0, .ref vSg, .ref vAl, .int 0])), (vFo, .inl (cI, 4, .inl fFo))] := hD
  obtain ⟨locs, hlo⟩ : ∃ z : List Loc, z = [] := ⟨_, rfl⟩
  rw [← hlo] at hS ⊢
  clear hlo hH hAe hD0
  refine lv_iload_n hx₀ hb dX12_lay_0 rfl (lv_at hl 1 rfl) ?_
  have hPc := hP.sub (ws' := []) [] rfl
  have hDc := hD.sub (ws' := []) [] (by decide) rfl
  have hFc := va_free (wc := []) hD hS hA [] rfl
  refine va_calli (va_runS (As := [.int s]) (rest := []) ⟨hx₀, hb, hml, hown, hts⟩ (c_isSheet l dC dI cI cJ cQ H.size s) (va_cwS 1 hts (kGS wd_400 wd_398 wd_399 wd_5) rfl rfl rfl (by decide +kernel) ⟨Nat.le_of_ble_eq_true rfl, Nat.le_of_ble_eq_true rfl⟩) (k_preS hK hPc hDc hN) rfl rfl hl.1 rfl (lv_room (Nat.le_of_ble_eq_true rfl)) dX12_lay_1 ⟨by decide +kernel, by decide +kernel⟩) hS (fun q _ h => hFc q h) hFc (fun r_1 u₀ t₀ H1 locs ht hvm hw hB hz1 hk1 hS => ?_)
  obtain ⟨hP1, hK1, hD1⟩ := hB
  rw [ht] at hP1
  obtain ⟨hP, hD⟩ := va_join (wr := [(hm, .inr (11, [.ref vFo, .ref vSi, .ref vIt, .ref vMo, .int 0, .ref vBy, .ref vTy, .int 0, .ref vMi, .int 0, .ref vPs, .int 0, .ref vGs, .int 0, .ref vFt, .int 0, .ref vTo, .int 0, .int 0, .int 0, .int 16777215, .int 0, .int 0, .ref vPr, .ref vSt, .ref vFn, .int 0, .ref vSg, .ref vAl, .int 0])), (vFo, .inl (cI, 4, .inl fFo))]) (w1 := []) hP hD [] [0, 1] rfl rfl (by decide) (by decide) hk1 hFc hP1 hD1
  generalize H1 = H at hP hS ⊢
  have hP : va_P (dC, dI) vwCl [(hm, .inr (11, [.ref vFo, .ref vSi, .ref vIt, .ref vMo, .int 0, .ref vBy, .ref vTy, .int 0, .ref vMi, .int 0, .ref vPs, .int 0, .ref vGs, .int 0, .ref vFt, .int 0, .ref vTo, .int 0, .int 0, .int 0, .int 16777215, .int 0, .int 0, .ref vPr, .ref vSt, .ref vFn, .int 0, .ref vSg, .ref vAl, .int 0])), (vFo, .inl (cI, 4, .inl fFo))] H := hP
  have hD : va_D A [(hm, .inr (11, [.ref vFo, .ref vSi, .ref vIt, .ref vMo, .int 0, .ref vBy, .ref vTy, .int 0, .ref vMi, .int 0, .ref vPs, .int 0, .ref vGs, .int 0, .ref vFt, .int 0, .ref vTo, .int 0, .int 0, .int 0, .int 16777215, .int 0, .int 0, .ref vPr, .ref vSt, .ref vFn, .int 0, .ref vSg, .ref vAl, .int 0])), (vFo, .inl (cI, 4, .inl fFo))] := hD
  try dsimp only at hw
  by_cases c_2 : 0 ≤ s ∧ s ≤ 3
  · rw [if_pos c_2] at hw
    refine k_topi (v := 1) hw ?_
    refine lv_if_eq (tgt := 19) hx₀ hb dX12_lay_4 (by decide) (fun c9 => absurd c9 (by decide +kernel)) (fun _ => ?_)
    refine lv_iload_n hx₀ hb dX12_lay_7 rfl (lv_at hl 2 rfl) ?_
    refine lv_i2l hx₀ hb dX12_lay_8 rfl ?_
    refine lv_lconst (v := 0) hx₀ hb dX12_lay_9 (by decide +kernel) ?_
    refine lv_ldc2 (v := 2) hx₀ hb hown (hts (.constantLong RX12 78 (2)) wd_205) dX12_lay_10 ?_
    have hPc := hP.sub (ws' := []) [] rfl
    have hDc := hD.sub (ws' := []) [] (by decide) rfl
    have hFc := va_free (wc := []) hD hS hA [] rfl
    refine va_calli (va_runS (As := [.long m.toInt64, .long 0, .long 2]) (rest := []) ⟨hx₀, hb, hml, hown, hts⟩ (c_in l dC dI cI cJ cQ H.size m.toInt64 0 2) (va_cwS 3 hts (kGS wd_208 wd_206 wd_207 wd_5) rfl rfl rfl (by decide +kernel) ⟨Nat.le_of_ble_eq_true rfl, Nat.le_of_ble_eq_true rfl⟩) (k_preS hK hPc hDc hN) rfl rfl hl.1 rfl (lv_room (Nat.le_of_ble_eq_true rfl)) dX12_lay_13 ⟨by decide +kernel, by decide +kernel⟩) hS (fun q _ h => hFc q h) hFc (fun r_3 u₀ t₀ H1 locs ht hvm hw hB hz1 hk1 hS => ?_)
    obtain ⟨hP1, hK1, hD1⟩ := hB
    rw [ht] at hP1
    obtain ⟨hP, hD⟩ := va_join (wr := [(hm, .inr (11, [.ref vFo, .ref vSi, .ref vIt, .ref vMo, .int 0, .ref vBy, .ref vTy, .int 0, .ref vMi, .int 0, .ref vPs, .int 0, .ref vGs, .int 0, .ref vFt, .int 0, .ref vTo, .int 0, .int 0, .int 0, .int 16777215, .int 0, .int 0, .ref vPr, .ref vSt, .ref vFn, .int 0, .ref vSg, .ref vAl, .int 0])), (vFo, .inl (cI, 4, .inl fFo))]) (w1 := []) hP hD [] [0, 1] rfl rfl (by decide) (by decide) hk1 hFc hP1 hD1
    generalize H1 = H at hP hS ⊢
    have hP : va_P (dC, dI) vwCl [(hm, .inr (11, [.ref vFo, .ref vSi, .ref vIt, .ref vMo, .int 0, .ref vBy, .ref vTy, .int 0, .ref vMi, .int 0, .ref vPs, .int 0, .ref vGs, .int 0, .ref vFt, .int 0, .ref vTo, .int 0, .int 0, .int 0, .int 16777215, .int 0, .int 0, .ref vPr, .ref vSt, .ref vFn, .int 0, .ref vSg, .ref vAl, .int 0])), (vFo, .inl (cI, 4, .inl fFo))] H := hP
    have hD : va_D A [(hm, .inr (11, [.ref vFo, .ref vSi, .ref vIt, .ref vMo, .int 0, .ref vBy, .ref vTy, .int 0, .ref vMi, .int 0, .ref vPs, .int 0, .ref vGs, .int 0, .ref vFt, .int 0, .ref vTo, .int 0, .int 0, .int 0, .int 16777215, .int 0, .int 0, .ref vPr, .ref vSt, .ref vFn, .int 0, .ref vSg, .ref vAl, .int 0])), (vFo, .inl (cI, 4, .inl fFo))] := hD
    try dsimp only at hw
    by_cases c_4 : (0 : Int64) ≤ m.toInt64 ∧ m.toInt64 ≤ (2 : Int64)
    · rw [if_pos c_4] at hw
      refine k_topi (v := 1) hw ?_
      refine lv_if_ne (tgt := 22) hx₀ hb dX12_lay_16 (by decide) (fun _ => ?_) (fun c9 => absurd c9 (by decide +kernel))
      refine lv_aload_n hx₀ hb dX12_lay_22 rfl (lv_at hl 0 rfl) ?_
      refine lv_iload_n hx₀ hb dX12_lay_23 rfl (lv_at hl 1 rfl) ?_
      refine lv_iload_n hx₀ hb dX12_lay_24 rfl (lv_at hl 2 rfl) ?_
      refine lv_iload_n hx₀ hb dX12_lay_25 rfl (lv_at hl 3 rfl) ?_
      have hPc := hP.sub (ws' := [(hm, .inr (11, [.ref vFo, .ref vSi, .ref vIt, .ref vMo, .int 0, .ref vBy, .ref vTy, .int 0, .ref vMi, .int 0, .ref vPs, .int 0, .ref vGs, .int 0, .ref vFt, .int 0, .ref vTo, .int 0, .int 0, .int 0, .int 16777215, .int 0, .int 0, .ref vPr, .ref vSt, .ref vFn, .int 0, .ref vSg, .ref vAl, .int 0])), (vFo, .inl (cI, 4, .inl fFo))]) [0, 1] rfl
      have hDc := hD.sub (ws' := [(hm, .inr (11, [.ref vFo, .ref vSi, .ref vIt, .ref vMo, .int 0, .ref vBy, .ref vTy, .int 0, .ref vMi, .int 0, .ref vPs, .int 0, .ref vGs, .int 0, .ref vFt, .int 0, .ref vTo, .int 0, .int 0, .int 0, .int 16777215, .int 0, .int 0, .ref vPr, .ref vSt, .ref vFn, .int 0, .ref vSg, .ref vAl, .int 0])), (vFo, .inl (cI, 4, .inl fFo))]) [0, 1] (by decide) rfl
      have hFc := va_free (wc := [(hm, .inr (11, [.ref vFo, .ref vSi, .ref vIt, .ref vMo, .int 0, .ref vBy, .ref vTy, .int 0, .ref vMi, .int 0, .ref vPs, .int 0, .ref vGs, .int 0, .ref vFt, .int 0, .ref vTo, .int 0, .int 0, .int 0, .int 16777215, .int 0, .int 0, .ref vPr, .ref vSt, .ref vFn, .int 0, .ref vSg, .ref vAl, .int 0])), (vFo, .inl (cI, 4, .inl fFo))]) hD hS hA [0, 1] rfl
      refine va_calli (va_runV (As := [.int s, .int m, .int i]) (rest := []) ⟨hx₀, hb, hml, hown, hts⟩ (m_lacks l dC dI cI cJ cQ H.size hm s m i vFo vSi vIt vMo vBy vTy vMi vPs vGs vFt vTo vPr vSt vFn vSg vAl c_2) (cwV 3 hts (kGV wd_908 wd_905 wd_906 wd_907 wd_5) rfl rfl rfl (by decide +kernel) ⟨Nat.le_of_ble_eq_true rfl, Nat.le_of_ble_eq_true rfl⟩) (k_preV (ci := 11) (q0 := 0) hK hPc hDc hN rfl rfl) rfl rfl hl.1 rfl (lv_room (Nat.le_of_ble_eq_true rfl)) dX12_lay_26 ⟨by decide +kernel, by decide +kernel⟩) hS (fun q _ h => hFc q h) hFc (fun r_5 u₀ t₀ H1 locs ht hvm hw hB hz1 hk1 hS => ?_)
      obtain ⟨hP, hD⟩ := va_join (wr := []) (w1 := []) hP hD [0, 1] [] rfl rfl (by decide) (by decide) hk1 hFc (k_nilP _) (k_nilD _)
      generalize H1 = H at hP hS ⊢
      have hP : va_P (dC, dI) vwCl [] H := hP
      have hD : va_D A [] := hD
      try dsimp only at hw
      refine k_topi (v := (-11)) hw ?_
      refine lv_istore (lv' := [(5, .int (-11)), (0, .ref hm), (1, .int s), (2, .int m), (3, .int i), (4, .int v)]) hx₀ hb dX12_lay_29 hl (by decide) rfl (fun ls hl => ?_)
      refine lv_iload hx₀ hb dX12_lay_31 (lv_at hl 0 rfl) ?_
      refine lv_if_eq (tgt := 39) hx₀ hb dX12_lay_33 (by decide) (fun c9 => absurd c9 (by decide +kernel)) (fun _ => ?_)
      refine lv_iload hx₀ hb dX12_lay_36 (lv_at hl 0 rfl) ?_
      exact W.iret (v := (-11)) hx₀ hb hr (fun t₀ ht hW => ⟨⟨(-11), (), rfl, (lf_m_lay_1 s m c_2 c_4), trivial⟩, hS.F ht⟩) hS.2.2 dX12_lay_38
    rw [if_neg c_4] at hw
    refine k_topi (v := 0) hw ?_
    refine lv_if_ne (tgt := 22) hx₀ hb dX12_lay_16 (by decide) (fun c9 => absurd (by decide +kernel) c9) (fun _ => ?_)
    refine lv_bipush (v := (-2)) hx₀ hb dX12_lay_19 (by decide +kernel) ?_
    exact W.iret (v := (-2)) hx₀ hb hr (fun t₀ ht hW => ⟨⟨(-2), (), rfl, (lf_m_lay_2 s m c_2 c_4), trivial⟩, hS.F ht⟩) hS.2.2 dX12_lay_21
  rw [if_neg c_2] at hw
  refine k_topi (v := 0) hw ?_
  refine lv_if_eq (tgt := 19) hx₀ hb dX12_lay_4 (by decide) (fun _ => ?_) (fun c9 => absurd (by decide +kernel) c9)
  refine lv_bipush (v := (-2)) hx₀ hb dX12_lay_19 (by decide +kernel) ?_
  exact W.iret (v := (-2)) hx₀ hb hr (fun t₀ ht hW => ⟨⟨(-2), (), rfl, (lf_m_lay_3 s m c_2), trivial⟩, hS.F ht⟩) hS.2.2 dX12_lay_21
set_option maxHeartbeats 4000000 in
set_option maxRecDepth 100000 in
theorem m_get (l : Launch) (dC : Nat → ClassId) (dI : Nat → Nat → Nat) (cI cJ cQ : ClassId) (sz : Nat) (hm : Nat) (s : Int32) (m : Int32) (i : Int32) (vFo : Nat) (vSi : Nat) (vIt : Nat) (vMo : Nat) (vBy : Nat) (vTy : Nat) (vMi : Nat) (vPs : Nat) (vGs : Nat) (vFt : Nat) (vTo : Nat) (vPr : Nat) (vSt : Nat) (vFn : Nat) (vSg : Nat) (vAl : Nat) : Met l yX12_get (kW yX12_get cX12_get 4 (some .int)) { frames := 2, cells := 0, slots := 0, locals := 45 } (kPre dC dI cI cJ cQ sz [.ref hm, .int s, .int m, .int i] [(hm, .inr (11, [.ref vFo, .ref vSi, .ref vIt, .ref vMo, .int 0, .ref vBy, .ref vTy, .int 0, .ref vMi, .int 0, .ref vPs, .int 0, .ref vGs, .int 0, .ref vFt, .int 0, .ref vTo, .int 0, .int 0, .int 0, .int 16777215, .int 0, .int 0, .ref vPr, .ref vSt, .ref vFn, .int 0, .ref vSg, .ref vAl, .int 0])), (vFo, .inl (cI, 4, .inl fFo))]) (va_Qi (fun (r : Int32) (_ : Unit) => r = (-2147483648)) (fun _ _ => True) (va_A [(hm, .inr (11, [.ref vFo, .ref vSi, .ref vIt, .ref vMo, .int 0, .ref vBy, .ref vTy, .int 0, .ref vMi, .int 0, .ref vPs, .int 0, .ref vGs, .int 0, .ref vFt, .int 0, .ref vTo, .int 0, .int 0, .int 0, .int 16777215, .int 0, .int 0, .ref vPr, .ref vSt, .ref vFn, .int 0, .ref vSg, .ref vAl, .int 0])), (vFo, .inl (cI, 4, .inl fFo))] sz)) 0 0 (va_A [(hm, .inr (11, [.ref vFo, .ref vSi, .ref vIt, .ref vMo, .int 0, .ref vBy, .ref vTy, .int 0, .ref vMi, .int 0, .ref vPs, .int 0, .ref vGs, .int 0, .ref vFt, .int 0, .ref vTo, .int 0, .int 0, .int 0, .int 16777215, .int 0, .int 0, .ref vPr, .ref vSt, .ref vFn, .int 0, .ref vSg, .ref vAl, .int 0])), (vFo, .inl (cI, 4, .inl fFo))] sz) := by
  refine Met.ofW (cc := cX12_get) (maxL := 4) (ret := (some .int)) (by decide) rfl ?_
  intro p₀ e₀ s₀ m₀ args below meth c₀ s₁ B hml hv₀
  obtain ⟨rfl, hsz, hP, hK, hD0, hN⟩ := hv₀
  have hx₀ := B.exec
  have hb := B.bytes
  have hr := B.returns
  have hts := atoms_spec (ws := (kW yX12_get cX12_get 4 (some .int))) B.pre
  have hts := fun w h => hts w (List.mem_cons_of_mem _ h)
  have hown : s₀.vm.findClass RX12 = some m₀.cls := findClass_of_methodNamed B.named
  have hlocks := B.notSynchronized
  subst hsz
  have hD := hD0.self (sz := s₀.heap.size)
  generalize hAe : va_A [(hm, .inr (11, [.ref vFo, .ref vSi, .ref vIt, .ref vMo, .int 0, .ref vBy, .ref vTy, .int 0, .ref vMi, .int 0, .ref vPs, .int 0, .ref vGs, .int 0, .ref vFt, .int 0, .ref vTo, .int 0, .int 0, .int 0, .int 16777215, .int 0, .int 0, .ref vPr, .ref vSt, .ref vFn, .int 0, .ref vSg, .ref vAl, .int 0])), (vFo, .inl (cI, 4, .inl fFo))] s₀.heap.size = A at hD ⊢
  have hA : ∀ q : Nat, s₀.heap.size ≤ q → A q := fun q h => by rw [← hAe]; exact Or.inr h
  have hS : va_S A s₀.heap s₀.heap [] := va_S.rf
  have hP : va_P (dC, dI) vwCl [(hm, .inr (11, [.ref vFo, .ref vSi, .ref vIt, .ref vMo, .int 0, .ref vBy, .ref vTy, .int 0, .ref vMi, .int 0, .ref vPs, .int 0, .ref vGs, .int 0, .ref vFt, .int 0, .ref vTo, .int 0, .int 0, .int 0, .int 16777215, .int 0, .int 0, .ref vPr, .ref vSt, .ref vFn, .int 0, .ref vSg, .ref vAl, .int 0])), (vFo, .inl (cI, 4, .inl fFo))] s₀.heap := hP
  have hl := lv_entry ([.ref hm, .int s, .int m, .int i]) (n := 4) (Nat.le_of_ble_eq_true rfl)
  rw [lg_entry_eq]
  generalize (lg_sl ([.ref hm, .int s, .int m, .int i]) ++ List.replicate (4 - (lg_sl ([.ref hm, .int s, .int m, .int i])).length) Slot.unset).toArray = ls at hl ⊢
  have hl : lv_has ls 4 [(0, .ref hm), (1, .int s), (2, .int m), (3, .int i)] := hl
  obtain ⟨H, hH⟩ : ∃ z : Heap, z = s₀.heap := ⟨_, rfl⟩
  rw [← hH] at hP
  have hS : va_S A s₀.heap H [] := by rw [hH]; exact hS
  refine k_heap hH ?_
  have hD : va_D A [(hm, .inr (11, [.ref vFo, .ref vSi, .ref vIt, .ref vMo, .int 0, .ref vBy, .ref vTy, .int 0, .ref vMi, .int 0, .ref vPs, .int 0, .ref vGs, .int 0, .ref vFt, .int 0, .ref vTo, .int 0, .int 0, .int 0, .int 16777215, .int 0, .int 0, .ref vPr, .ref vSt, .ref vFn, .int 0, .ref vSg, .ref vAl, .int 0])), (vFo, .inl (cI, 4, .inl fFo))] := hD
  obtain ⟨locs, hlo⟩ : ∃ z : List Loc, z = [] := ⟨_, rfl⟩
  rw [← hlo] at hS ⊢
  clear hlo hH hAe hD0
  refine lv_iload_n hx₀ hb dX12_get_0 rfl (lv_at hl 1 rfl) ?_
  have hPc := hP.sub (ws' := []) [] rfl
  have hDc := hD.sub (ws' := []) [] (by decide) rfl
  have hFc := va_free (wc := []) hD hS hA [] rfl
  refine va_calli (va_runS (As := [.int s]) (rest := []) ⟨hx₀, hb, hml, hown, hts⟩ (c_isSheet l dC dI cI cJ cQ H.size s) (va_cwS 1 hts (kGS wd_400 wd_398 wd_399 wd_5) rfl rfl rfl (by decide +kernel) ⟨Nat.le_of_ble_eq_true rfl, Nat.le_of_ble_eq_true rfl⟩) (k_preS hK hPc hDc hN) rfl rfl hl.1 rfl (lv_room (Nat.le_of_ble_eq_true rfl)) dX12_get_1 ⟨by decide +kernel, by decide +kernel⟩) hS (fun q _ h => hFc q h) hFc (fun r_1 u₀ t₀ H1 locs ht hvm hw hB hz1 hk1 hS => ?_)
  obtain ⟨hP1, hK1, hD1⟩ := hB
  rw [ht] at hP1
  obtain ⟨hP, hD⟩ := va_join (wr := [(hm, .inr (11, [.ref vFo, .ref vSi, .ref vIt, .ref vMo, .int 0, .ref vBy, .ref vTy, .int 0, .ref vMi, .int 0, .ref vPs, .int 0, .ref vGs, .int 0, .ref vFt, .int 0, .ref vTo, .int 0, .int 0, .int 0, .int 16777215, .int 0, .int 0, .ref vPr, .ref vSt, .ref vFn, .int 0, .ref vSg, .ref vAl, .int 0])), (vFo, .inl (cI, 4, .inl fFo))]) (w1 := []) hP hD [] [0, 1] rfl rfl (by decide) (by decide) hk1 hFc hP1 hD1
  generalize H1 = H at hP hS ⊢
  have hP : va_P (dC, dI) vwCl [(hm, .inr (11, [.ref vFo, .ref vSi, .ref vIt, .ref vMo, .int 0, .ref vBy, .ref vTy, .int 0, .ref vMi, .int 0, .ref vPs, .int 0, .ref vGs, .int 0, .ref vFt, .int 0, .ref vTo, .int 0, .int 0, .int 0, .int 16777215, .int 0, .int 0, .ref vPr, .ref vSt, .ref vFn, .int 0, .ref vSg, .ref vAl, .int 0])), (vFo, .inl (cI, 4, .inl fFo))] H := hP
  have hD : va_D A [(hm, .inr (11, [.ref vFo, .ref vSi, .ref vIt, .ref vMo, .int 0, .ref vBy, .ref vTy, .int 0, .ref vMi, .int 0, .ref vPs, .int 0, .ref vGs, .int 0, .ref vFt, .int 0, .ref vTo, .int 0, .int 0, .int 0, .int 16777215, .int 0, .int 0, .ref vPr, .ref vSt, .ref vFn, .int 0, .ref vSg, .ref vAl, .int 0])), (vFo, .inl (cI, 4, .inl fFo))] := hD
  try dsimp only at hw
  by_cases c_2 : 0 ≤ s ∧ s ≤ 3
  · rw [if_pos c_2] at hw
    refine k_topi (v := 1) hw ?_
    refine lv_if_eq (tgt := 29) hx₀ hb dX12_get_4 (by decide) (fun c9 => absurd c9 (by decide +kernel)) (fun _ => ?_)
    refine lv_iload_n hx₀ hb dX12_get_7 rfl (lv_at hl 2 rfl) ?_
    refine lv_i2l hx₀ hb dX12_get_8 rfl ?_
    refine lv_lconst (v := 0) hx₀ hb dX12_get_9 (by decide +kernel) ?_
    refine lv_ldc2 (v := 2) hx₀ hb hown (hts (.constantLong RX12 78 (2)) wd_205) dX12_get_10 ?_
    have hPc := hP.sub (ws' := []) [] rfl
    have hDc := hD.sub (ws' := []) [] (by decide) rfl
    have hFc := va_free (wc := []) hD hS hA [] rfl
    refine va_calli (va_runS (As := [.long m.toInt64, .long 0, .long 2]) (rest := []) ⟨hx₀, hb, hml, hown, hts⟩ (c_in l dC dI cI cJ cQ H.size m.toInt64 0 2) (va_cwS 3 hts (kGS wd_208 wd_206 wd_207 wd_5) rfl rfl rfl (by decide +kernel) ⟨Nat.le_of_ble_eq_true rfl, Nat.le_of_ble_eq_true rfl⟩) (k_preS hK hPc hDc hN) rfl rfl hl.1 rfl (lv_room (Nat.le_of_ble_eq_true rfl)) dX12_get_13 ⟨by decide +kernel, by decide +kernel⟩) hS (fun q _ h => hFc q h) hFc (fun r_3 u₀ t₀ H1 locs ht hvm hw hB hz1 hk1 hS => ?_)
    obtain ⟨hP1, hK1, hD1⟩ := hB
    rw [ht] at hP1
    obtain ⟨hP, hD⟩ := va_join (wr := [(hm, .inr (11, [.ref vFo, .ref vSi, .ref vIt, .ref vMo, .int 0, .ref vBy, .ref vTy, .int 0, .ref vMi, .int 0, .ref vPs, .int 0, .ref vGs, .int 0, .ref vFt, .int 0, .ref vTo, .int 0, .int 0, .int 0, .int 16777215, .int 0, .int 0, .ref vPr, .ref vSt, .ref vFn, .int 0, .ref vSg, .ref vAl, .int 0])), (vFo, .inl (cI, 4, .inl fFo))]) (w1 := []) hP hD [] [0, 1] rfl rfl (by decide) (by decide) hk1 hFc hP1 hD1
    generalize H1 = H at hP hS ⊢
    have hP : va_P (dC, dI) vwCl [(hm, .inr (11, [.ref vFo, .ref vSi, .ref vIt, .ref vMo, .int 0, .ref vBy, .ref vTy, .int 0, .ref vMi, .int 0, .ref vPs, .int 0, .ref vGs, .int 0, .ref vFt, .int 0, .ref vTo, .int 0, .int 0, .int 0, .int 16777215, .int 0, .int 0, .ref vPr, .ref vSt, .ref vFn, .int 0, .ref vSg, .ref vAl, .int 0])), (vFo, .inl (cI, 4, .inl fFo))] H := hP
    have hD : va_D A [(hm, .inr (11, [.ref vFo, .ref vSi, .ref vIt, .ref vMo, .int 0, .ref vBy, .ref vTy, .int 0, .ref vMi, .int 0, .ref vPs, .int 0, .ref vGs, .int 0, .ref vFt, .int 0, .ref vTo, .int 0, .int 0, .int 0, .int 16777215, .int 0, .int 0, .ref vPr, .ref vSt, .ref vFn, .int 0, .ref vSg, .ref vAl, .int 0])), (vFo, .inl (cI, 4, .inl fFo))] := hD
    try dsimp only at hw
    by_cases c_4 : (0 : Int64) ≤ m.toInt64 ∧ m.toInt64 ≤ (2 : Int64)
    · rw [if_pos c_4] at hw
      refine k_topi (v := 1) hw ?_
      refine lv_if_eq (tgt := 29) hx₀ hb dX12_get_16 (by decide) (fun c9 => absurd c9 (by decide +kernel)) (fun _ => ?_)
      refine lv_aload_n hx₀ hb dX12_get_19 rfl (lv_at hl 0 rfl) ?_
      refine lv_iload_n hx₀ hb dX12_get_20 rfl (lv_at hl 1 rfl) ?_
      refine lv_iload_n hx₀ hb dX12_get_21 rfl (lv_at hl 2 rfl) ?_
      refine lv_iload_n hx₀ hb dX12_get_22 rfl (lv_at hl 3 rfl) ?_
      have hPc := hP.sub (ws' := [(hm, .inr (11, [.ref vFo, .ref vSi, .ref vIt, .ref vMo, .int 0, .ref vBy, .ref vTy, .int 0, .ref vMi, .int 0, .ref vPs, .int 0, .ref vGs, .int 0, .ref vFt, .int 0, .ref vTo, .int 0, .int 0, .int 0, .int 16777215, .int 0, .int 0, .ref vPr, .ref vSt, .ref vFn, .int 0, .ref vSg, .ref vAl, .int 0])), (vFo, .inl (cI, 4, .inl fFo))]) [0, 1] rfl
      have hDc := hD.sub (ws' := [(hm, .inr (11, [.ref vFo, .ref vSi, .ref vIt, .ref vMo, .int 0, .ref vBy, .ref vTy, .int 0, .ref vMi, .int 0, .ref vPs, .int 0, .ref vGs, .int 0, .ref vFt, .int 0, .ref vTo, .int 0, .int 0, .int 0, .int 16777215, .int 0, .int 0, .ref vPr, .ref vSt, .ref vFn, .int 0, .ref vSg, .ref vAl, .int 0])), (vFo, .inl (cI, 4, .inl fFo))]) [0, 1] (by decide) rfl
      have hFc := va_free (wc := [(hm, .inr (11, [.ref vFo, .ref vSi, .ref vIt, .ref vMo, .int 0, .ref vBy, .ref vTy, .int 0, .ref vMi, .int 0, .ref vPs, .int 0, .ref vGs, .int 0, .ref vFt, .int 0, .ref vTo, .int 0, .int 0, .int 0, .int 16777215, .int 0, .int 0, .ref vPr, .ref vSt, .ref vFn, .int 0, .ref vSg, .ref vAl, .int 0])), (vFo, .inl (cI, 4, .inl fFo))]) hD hS hA [0, 1] rfl
      refine va_calli (va_runV (As := [.int s, .int m, .int i]) (rest := []) ⟨hx₀, hb, hml, hown, hts⟩ (m_lacks l dC dI cI cJ cQ H.size hm s m i vFo vSi vIt vMo vBy vTy vMi vPs vGs vFt vTo vPr vSt vFn vSg vAl c_2) (cwV 3 hts (kGV wd_908 wd_905 wd_906 wd_907 wd_5) rfl rfl rfl (by decide +kernel) ⟨Nat.le_of_ble_eq_true rfl, Nat.le_of_ble_eq_true rfl⟩) (k_preV (ci := 11) (q0 := 0) hK hPc hDc hN rfl rfl) rfl rfl hl.1 rfl (lv_room (Nat.le_of_ble_eq_true rfl)) dX12_get_23 ⟨by decide +kernel, by decide +kernel⟩) hS (fun q _ h => hFc q h) hFc (fun r_5 u₀ t₀ H1 locs ht hvm hw hB hz1 hk1 hS => ?_)
      obtain ⟨hP, hD⟩ := va_join (wr := []) (w1 := []) hP hD [0, 1] [] rfl rfl (by decide) (by decide) hk1 hFc (k_nilP _) (k_nilD _)
      generalize H1 = H at hP hS ⊢
      have hP : va_P (dC, dI) vwCl [] H := hP
      have hD : va_D A [] := hD
      try dsimp only at hw
      refine k_topi (v := (-11)) hw ?_
      refine lv_if_eq (tgt := 32) hx₀ hb dX12_get_26 (by decide) (fun c9 => absurd c9 (by decide +kernel)) (fun _ => ?_)
      refine lv_ldc (v := (-2147483648)) hx₀ hb hown (hts (.constant RX12 92 (-2147483648)) wd_921) dX12_get_29 ?_
      exact W.iret (v := (-2147483648)) hx₀ hb hr (fun t₀ ht hW => ⟨⟨(-2147483648), (), rfl, rfl, trivial⟩, hS.F ht⟩) hS.2.2 dX12_get_31
    rw [if_neg c_4] at hw
    refine k_topi (v := 0) hw ?_
    refine lv_if_eq (tgt := 29) hx₀ hb dX12_get_16 (by decide) (fun _ => ?_) (fun c9 => absurd (by decide +kernel) c9)
    refine lv_ldc (v := (-2147483648)) hx₀ hb hown (hts (.constant RX12 92 (-2147483648)) wd_921) dX12_get_29 ?_
    exact W.iret (v := (-2147483648)) hx₀ hb hr (fun t₀ ht hW => ⟨⟨(-2147483648), (), rfl, rfl, trivial⟩, hS.F ht⟩) hS.2.2 dX12_get_31
  rw [if_neg c_2] at hw
  refine k_topi (v := 0) hw ?_
  refine lv_if_eq (tgt := 29) hx₀ hb dX12_get_4 (by decide) (fun _ => ?_) (fun c9 => absurd (by decide +kernel) c9)
  refine lv_ldc (v := (-2147483648)) hx₀ hb hown (hts (.constant RX12 92 (-2147483648)) wd_921) dX12_get_29 ?_
  exact W.iret (v := (-2147483648)) hx₀ hb hr (fun t₀ ht hW => ⟨⟨(-2147483648), (), rfl, rfl, trivial⟩, hS.F ht⟩) hS.2.2 dX12_get_31
theorem lf_m_copy_1 (s : Int32) (t : Int32) (c_2 : 0 ≤ s ∧ s ≤ 3) (c_4 : 0 ≤ t ∧ t ≤ 3) : ((-11) : Int32) = if 0 ≤ s ∧ s ≤ 3 ∧ 0 ≤ t ∧ t ≤ 3 then -11 else -2 := by
  repeat first | rfl | rw [if_pos (by (first | omega | (simp only [Int64.le_iff_toInt_le, Int64.lt_iff_toInt_lt, Int32.le_iff_toInt_le, Int32.lt_iff_toInt_lt, ← Int32.toInt_inj, ← Int64.toInt_inj, Int32.toInt_toInt64, (show (-11 : Int32).toInt = -11 from by decide), (show (-11 : Int64).toInt = -11 from by decide), (show (-2 : Int32).toInt = -2 from by decide), (show (-2 : Int64).toInt = -2 from by decide), (show (0 : Int32).toInt = 0 from by decide), (show (0 : Int64).toInt = 0 from by decide), (show (3 : Int32).toInt = 3 from by decide), (show (3 : Int64).toInt = 3 from by decide)] at *; omega)))] | rw [if_neg (by (first | omega | (simp only [Int64.le_iff_toInt_le, Int64.lt_iff_toInt_lt, Int32.le_iff_toInt_le, Int32.lt_iff_toInt_lt, ← Int32.toInt_inj, ← Int64.toInt_inj, Int32.toInt_toInt64, (show (-11 : Int32).toInt = -11 from by decide), (show (-11 : Int64).toInt = -11 from by decide), (show (-2 : Int32).toInt = -2 from by decide), (show (-2 : Int64).toInt = -2 from by decide), (show (0 : Int32).toInt = 0 from by decide), (show (0 : Int64).toInt = 0 from by decide), (show (3 : Int32).toInt = 3 from by decide), (show (3 : Int64).toInt = 3 from by decide)] at *; omega)))]
theorem lf_m_copy_2 (s : Int32) (t : Int32) (c_2 : 0 ≤ s ∧ s ≤ 3) (c_4 : ¬ (0 ≤ t ∧ t ≤ 3)) : ((-2) : Int32) = if 0 ≤ s ∧ s ≤ 3 ∧ 0 ≤ t ∧ t ≤ 3 then -11 else -2 := by
  repeat first | rfl | rw [if_pos (by (first | omega | (simp only [Int64.le_iff_toInt_le, Int64.lt_iff_toInt_lt, Int32.le_iff_toInt_le, Int32.lt_iff_toInt_lt, ← Int32.toInt_inj, ← Int64.toInt_inj, Int32.toInt_toInt64, (show (-11 : Int32).toInt = -11 from by decide), (show (-11 : Int64).toInt = -11 from by decide), (show (-2 : Int32).toInt = -2 from by decide), (show (-2 : Int64).toInt = -2 from by decide), (show (0 : Int32).toInt = 0 from by decide), (show (0 : Int64).toInt = 0 from by decide), (show (3 : Int32).toInt = 3 from by decide), (show (3 : Int64).toInt = 3 from by decide)] at *; omega)))] | rw [if_neg (by (first | omega | (simp only [Int64.le_iff_toInt_le, Int64.lt_iff_toInt_lt, Int32.le_iff_toInt_le, Int32.lt_iff_toInt_lt, ← Int32.toInt_inj, ← Int64.toInt_inj, Int32.toInt_toInt64, (show (-11 : Int32).toInt = -11 from by decide), (show (-11 : Int64).toInt = -11 from by decide), (show (-2 : Int32).toInt = -2 from by decide), (show (-2 : Int64).toInt = -2 from by decide), (show (0 : Int32).toInt = 0 from by decide), (show (0 : Int64).toInt = 0 from by decide), (show (3 : Int32).toInt = 3 from by decide), (show (3 : Int64).toInt = 3 from by decide)] at *; omega)))]
theorem lf_m_copy_3 (s : Int32) (t : Int32) (c_2 : ¬ (0 ≤ s ∧ s ≤ 3)) : ((-2) : Int32) = if 0 ≤ s ∧ s ≤ 3 ∧ 0 ≤ t ∧ t ≤ 3 then -11 else -2 := by
  repeat first | rfl | rw [if_pos (by (first | omega | (simp only [Int64.le_iff_toInt_le, Int64.lt_iff_toInt_lt, Int32.le_iff_toInt_le, Int32.lt_iff_toInt_lt, ← Int32.toInt_inj, ← Int64.toInt_inj, Int32.toInt_toInt64, (show (-11 : Int32).toInt = -11 from by decide), (show (-11 : Int64).toInt = -11 from by decide), (show (-2 : Int32).toInt = -2 from by decide), (show (-2 : Int64).toInt = -2 from by decide), (show (0 : Int32).toInt = 0 from by decide), (show (0 : Int64).toInt = 0 from by decide), (show (3 : Int32).toInt = 3 from by decide), (show (3 : Int64).toInt = 3 from by decide)] at *; omega)))] | rw [if_neg (by (first | omega | (simp only [Int64.le_iff_toInt_le, Int64.lt_iff_toInt_lt, Int32.le_iff_toInt_le, Int32.lt_iff_toInt_lt, ← Int32.toInt_inj, ← Int64.toInt_inj, Int32.toInt_toInt64, (show (-11 : Int32).toInt = -11 from by decide), (show (-11 : Int64).toInt = -11 from by decide), (show (-2 : Int32).toInt = -2 from by decide), (show (-2 : Int64).toInt = -2 from by decide), (show (0 : Int32).toInt = 0 from by decide), (show (0 : Int64).toInt = 0 from by decide), (show (3 : Int32).toInt = 3 from by decide), (show (3 : Int64).toInt = 3 from by decide)] at *; omega)))]
set_option maxHeartbeats 4000000 in
set_option maxRecDepth 100000 in
theorem m_copy (l : Launch) (dC : Nat → ClassId) (dI : Nat → Nat → Nat) (cI cJ cQ : ClassId) (sz : Nat) (hm : Nat) (s : Int32) (i : Int32) (t : Int32) (j : Int32) (n : Int32) (vFo : Nat) (vSi : Nat) (vIt : Nat) (vMo : Nat) (vBy : Nat) (vTy : Nat) (vMi : Nat) (vPs : Nat) (vGs : Nat) (vFt : Nat) (vTo : Nat) (vPr : Nat) (vSt : Nat) (vFn : Nat) (vSg : Nat) (vAl : Nat) : Met l yX12_copy (kW yX12_copy cX12_copy 7 (some .int)) { frames := 2, cells := 0, slots := 0, locals := 45 } (kPre dC dI cI cJ cQ sz [.ref hm, .int s, .int i, .int t, .int j, .int n] [(hm, .inr (11, [.ref vFo, .ref vSi, .ref vIt, .ref vMo, .int 0, .ref vBy, .ref vTy, .int 0, .ref vMi, .int 0, .ref vPs, .int 0, .ref vGs, .int 0, .ref vFt, .int 0, .ref vTo, .int 0, .int 0, .int 0, .int 16777215, .int 0, .int 0, .ref vPr, .ref vSt, .ref vFn, .int 0, .ref vSg, .ref vAl, .int 0])), (vFo, .inl (cI, 4, .inl fFo))]) (va_Qi (fun (r : Int32) (_ : Unit) => r = if 0 ≤ s ∧ s ≤ 3 ∧ 0 ≤ t ∧ t ≤ 3 then -11 else -2) (fun _ _ => True) (va_A [(hm, .inr (11, [.ref vFo, .ref vSi, .ref vIt, .ref vMo, .int 0, .ref vBy, .ref vTy, .int 0, .ref vMi, .int 0, .ref vPs, .int 0, .ref vGs, .int 0, .ref vFt, .int 0, .ref vTo, .int 0, .int 0, .int 0, .int 16777215, .int 0, .int 0, .ref vPr, .ref vSt, .ref vFn, .int 0, .ref vSg, .ref vAl, .int 0])), (vFo, .inl (cI, 4, .inl fFo))] sz)) 0 0 (va_A [(hm, .inr (11, [.ref vFo, .ref vSi, .ref vIt, .ref vMo, .int 0, .ref vBy, .ref vTy, .int 0, .ref vMi, .int 0, .ref vPs, .int 0, .ref vGs, .int 0, .ref vFt, .int 0, .ref vTo, .int 0, .int 0, .int 0, .int 16777215, .int 0, .int 0, .ref vPr, .ref vSt, .ref vFn, .int 0, .ref vSg, .ref vAl, .int 0])), (vFo, .inl (cI, 4, .inl fFo))] sz) := by
  refine Met.ofW (cc := cX12_copy) (maxL := 7) (ret := (some .int)) (by decide) rfl ?_
  intro p₀ e₀ s₀ m₀ args below meth c₀ s₁ B hml hv₀
  obtain ⟨rfl, hsz, hP, hK, hD0, hN⟩ := hv₀
  have hx₀ := B.exec
  have hb := B.bytes
  have hr := B.returns
  have hts := atoms_spec (ws := (kW yX12_copy cX12_copy 7 (some .int))) B.pre
  have hts := fun w h => hts w (List.mem_cons_of_mem _ h)
  have hown : s₀.vm.findClass RX12 = some m₀.cls := findClass_of_methodNamed B.named
  have hlocks := B.notSynchronized
  subst hsz
  have hD := hD0.self (sz := s₀.heap.size)
  generalize hAe : va_A [(hm, .inr (11, [.ref vFo, .ref vSi, .ref vIt, .ref vMo, .int 0, .ref vBy, .ref vTy, .int 0, .ref vMi, .int 0, .ref vPs, .int 0, .ref vGs, .int 0, .ref vFt, .int 0, .ref vTo, .int 0, .int 0, .int 0, .int 16777215, .int 0, .int 0, .ref vPr, .ref vSt, .ref vFn, .int 0, .ref vSg, .ref vAl, .int 0])), (vFo, .inl (cI, 4, .inl fFo))] s₀.heap.size = A at hD ⊢
  have hA : ∀ q : Nat, s₀.heap.size ≤ q → A q := fun q h => by rw [← hAe]; exact Or.inr h
  have hS : va_S A s₀.heap s₀.heap [] := va_S.rf
  have hP : va_P (dC, dI) vwCl [(hm, .inr (11, [.ref vFo, .ref vSi, .ref vIt, .ref vMo, .int 0, .ref vBy, .ref vTy, .int 0, .ref vMi, .int 0, .ref vPs, .int 0, .ref vGs, .int 0, .ref vFt, .int 0, .ref vTo, .int 0, .int 0, .int 0, .int 16777215, .int 0, .int 0, .ref vPr, .ref vSt, .ref vFn, .int 0, .ref vSg, .ref vAl, .int 0])), (vFo, .inl (cI, 4, .inl fFo))] s₀.heap := hP
  have hl := lv_entry ([.ref hm, .int s, .int i, .int t, .int j, .int n]) (n := 7) (Nat.le_of_ble_eq_true rfl)
  rw [lg_entry_eq]
  generalize (lg_sl ([.ref hm, .int s, .int i, .int t, .int j, .int n]) ++ List.replicate (7 - (lg_sl ([.ref hm, .int s, .int i, .int t, .int j, .int n])).length) Slot.unset).toArray = ls at hl ⊢
  have hl : lv_has ls 7 [(0, .ref hm), (1, .int s), (2, .int i), (3, .int t), (4, .int j), (5, .int n)] := hl
  obtain ⟨H, hH⟩ : ∃ z : Heap, z = s₀.heap := ⟨_, rfl⟩
  rw [← hH] at hP
  have hS : va_S A s₀.heap H [] := by rw [hH]; exact hS
  refine k_heap hH ?_
  have hD : va_D A [(hm, .inr (11, [.ref vFo, .ref vSi, .ref vIt, .ref vMo, .int 0, .ref vBy, .ref vTy, .int 0, .ref vMi, .int 0, .ref vPs, .int 0, .ref vGs, .int 0, .ref vFt, .int 0, .ref vTo, .int 0, .int 0, .int 0, .int 16777215, .int 0, .int 0, .ref vPr, .ref vSt, .ref vFn, .int 0, .ref vSg, .ref vAl, .int 0])), (vFo, .inl (cI, 4, .inl fFo))] := hD
  obtain ⟨locs, hlo⟩ : ∃ z : List Loc, z = [] := ⟨_, rfl⟩
  rw [← hlo] at hS ⊢
  clear hlo hH hAe hD0
  refine lv_iload_n hx₀ hb dX12_copy_0 rfl (lv_at hl 1 rfl) ?_
  have hPc := hP.sub (ws' := []) [] rfl
  have hDc := hD.sub (ws' := []) [] (by decide) rfl
  have hFc := va_free (wc := []) hD hS hA [] rfl
  refine va_calli (va_runS (As := [.int s]) (rest := []) ⟨hx₀, hb, hml, hown, hts⟩ (c_isSheet l dC dI cI cJ cQ H.size s) (va_cwS 1 hts (kGS wd_400 wd_398 wd_399 wd_5) rfl rfl rfl (by decide +kernel) ⟨Nat.le_of_ble_eq_true rfl, Nat.le_of_ble_eq_true rfl⟩) (k_preS hK hPc hDc hN) rfl rfl hl.1 rfl (lv_room (Nat.le_of_ble_eq_true rfl)) dX12_copy_1 ⟨by decide +kernel, by decide +kernel⟩) hS (fun q _ h => hFc q h) hFc (fun r_1 u₀ t₀ H1 locs ht hvm hw hB hz1 hk1 hS => ?_)
  obtain ⟨hP1, hK1, hD1⟩ := hB
  rw [ht] at hP1
  obtain ⟨hP, hD⟩ := va_join (wr := [(hm, .inr (11, [.ref vFo, .ref vSi, .ref vIt, .ref vMo, .int 0, .ref vBy, .ref vTy, .int 0, .ref vMi, .int 0, .ref vPs, .int 0, .ref vGs, .int 0, .ref vFt, .int 0, .ref vTo, .int 0, .int 0, .int 0, .int 16777215, .int 0, .int 0, .ref vPr, .ref vSt, .ref vFn, .int 0, .ref vSg, .ref vAl, .int 0])), (vFo, .inl (cI, 4, .inl fFo))]) (w1 := []) hP hD [] [0, 1] rfl rfl (by decide) (by decide) hk1 hFc hP1 hD1
  generalize H1 = H at hP hS ⊢
  have hP : va_P (dC, dI) vwCl [(hm, .inr (11, [.ref vFo, .ref vSi, .ref vIt, .ref vMo, .int 0, .ref vBy, .ref vTy, .int 0, .ref vMi, .int 0, .ref vPs, .int 0, .ref vGs, .int 0, .ref vFt, .int 0, .ref vTo, .int 0, .int 0, .int 0, .int 16777215, .int 0, .int 0, .ref vPr, .ref vSt, .ref vFn, .int 0, .ref vSg, .ref vAl, .int 0])), (vFo, .inl (cI, 4, .inl fFo))] H := hP
  have hD : va_D A [(hm, .inr (11, [.ref vFo, .ref vSi, .ref vIt, .ref vMo, .int 0, .ref vBy, .ref vTy, .int 0, .ref vMi, .int 0, .ref vPs, .int 0, .ref vGs, .int 0, .ref vFt, .int 0, .ref vTo, .int 0, .int 0, .int 0, .int 16777215, .int 0, .int 0, .ref vPr, .ref vSt, .ref vFn, .int 0, .ref vSg, .ref vAl, .int 0])), (vFo, .inl (cI, 4, .inl fFo))] := hD
  try dsimp only at hw
  by_cases c_2 : 0 ≤ s ∧ s ≤ 3
  · rw [if_pos c_2] at hw
    refine k_topi (v := 1) hw ?_
    refine lv_if_eq (tgt := 14) hx₀ hb dX12_copy_4 (by decide) (fun c9 => absurd c9 (by decide +kernel)) (fun _ => ?_)
    refine lv_iload_n hx₀ hb dX12_copy_7 rfl (lv_at hl 3 rfl) ?_
    have hPc := hP.sub (ws' := []) [] rfl
    have hDc := hD.sub (ws' := []) [] (by decide) rfl
    have hFc := va_free (wc := []) hD hS hA [] rfl
    refine va_calli (va_runS (As := [.int t]) (rest := []) ⟨hx₀, hb, hml, hown, hts⟩ (c_isSheet l dC dI cI cJ cQ H.size t) (va_cwS 1 hts (kGS wd_400 wd_398 wd_399 wd_5) rfl rfl rfl (by decide +kernel) ⟨Nat.le_of_ble_eq_true rfl, Nat.le_of_ble_eq_true rfl⟩) (k_preS hK hPc hDc hN) rfl rfl hl.1 rfl (lv_room (Nat.le_of_ble_eq_true rfl)) dX12_copy_8 ⟨by decide +kernel, by decide +kernel⟩) hS (fun q _ h => hFc q h) hFc (fun r_3 u₀ t₀ H1 locs ht hvm hw hB hz1 hk1 hS => ?_)
    obtain ⟨hP1, hK1, hD1⟩ := hB
    rw [ht] at hP1
    obtain ⟨hP, hD⟩ := va_join (wr := [(hm, .inr (11, [.ref vFo, .ref vSi, .ref vIt, .ref vMo, .int 0, .ref vBy, .ref vTy, .int 0, .ref vMi, .int 0, .ref vPs, .int 0, .ref vGs, .int 0, .ref vFt, .int 0, .ref vTo, .int 0, .int 0, .int 0, .int 16777215, .int 0, .int 0, .ref vPr, .ref vSt, .ref vFn, .int 0, .ref vSg, .ref vAl, .int 0])), (vFo, .inl (cI, 4, .inl fFo))]) (w1 := []) hP hD [] [0, 1] rfl rfl (by decide) (by decide) hk1 hFc hP1 hD1
    generalize H1 = H at hP hS ⊢
    have hP : va_P (dC, dI) vwCl [(hm, .inr (11, [.ref vFo, .ref vSi, .ref vIt, .ref vMo, .int 0, .ref vBy, .ref vTy, .int 0, .ref vMi, .int 0, .ref vPs, .int 0, .ref vGs, .int 0, .ref vFt, .int 0, .ref vTo, .int 0, .int 0, .int 0, .int 16777215, .int 0, .int 0, .ref vPr, .ref vSt, .ref vFn, .int 0, .ref vSg, .ref vAl, .int 0])), (vFo, .inl (cI, 4, .inl fFo))] H := hP
    have hD : va_D A [(hm, .inr (11, [.ref vFo, .ref vSi, .ref vIt, .ref vMo, .int 0, .ref vBy, .ref vTy, .int 0, .ref vMi, .int 0, .ref vPs, .int 0, .ref vGs, .int 0, .ref vFt, .int 0, .ref vTo, .int 0, .int 0, .int 0, .int 16777215, .int 0, .int 0, .ref vPr, .ref vSt, .ref vFn, .int 0, .ref vSg, .ref vAl, .int 0])), (vFo, .inl (cI, 4, .inl fFo))] := hD
    try dsimp only at hw
    by_cases c_4 : 0 ≤ t ∧ t ≤ 3
    · rw [if_pos c_4] at hw
      refine k_topi (v := 1) hw ?_
      refine lv_if_ne (tgt := 17) hx₀ hb dX12_copy_11 (by decide) (fun _ => ?_) (fun c9 => absurd c9 (by decide +kernel))
      refine lv_aload_n hx₀ hb dX12_copy_17 rfl (lv_at hl 0 rfl) ?_
      refine va_get (D := (dC, dI)) (ci := 11) (v := .ref vFo) (C := RX12) (T := TX12) (N := 30) hx₀ hb hts inlX12 hown hK hP 0 rfl rfl 0 (by decide) (hts (.fieldLink RX12 7 "BittenStickModel" "forms" "[I") wd_115) (fun _ h9 => h9) rfl dX12_copy_18 ?_
      refine lv_iload_n hx₀ hb dX12_copy_21 rfl (lv_at hl 1 rfl) ?_
      refine va_iald hx₀ hb hK hP 1 0 rfl rfl (k_in3 c_2) dX12_copy_22 ?_
      refine k_topi (v := (-1)) (fFo_at c_2) ?_
      refine lv_if_lt (tgt := 35) hx₀ hb dX12_copy_23 (by decide) (fun _ => ?_) (fun c9 => absurd (by decide +kernel) c9)
      refine lv_aload_n hx₀ hb dX12_copy_35 rfl (lv_at hl 0 rfl) ?_
      refine lv_iconst (v := 1) hx₀ hb dX12_copy_36 (by decide +kernel) ?_
      have hPc := hP.sub (ws' := [(hm, .inr (11, [.ref vFo, .ref vSi, .ref vIt, .ref vMo, .int 0, .ref vBy, .ref vTy, .int 0, .ref vMi, .int 0, .ref vPs, .int 0, .ref vGs, .int 0, .ref vFt, .int 0, .ref vTo, .int 0, .int 0, .int 0, .int 16777215, .int 0, .int 0, .ref vPr, .ref vSt, .ref vFn, .int 0, .ref vSg, .ref vAl, .int 0]))]) [0] rfl
      have hDc := hD.sub (ws' := [(hm, .inr (11, [.ref vFo, .ref vSi, .ref vIt, .ref vMo, .int 0, .ref vBy, .ref vTy, .int 0, .ref vMi, .int 0, .ref vPs, .int 0, .ref vGs, .int 0, .ref vFt, .int 0, .ref vTo, .int 0, .int 0, .int 0, .int 16777215, .int 0, .int 0, .ref vPr, .ref vSt, .ref vFn, .int 0, .ref vSg, .ref vAl, .int 0]))]) [0] (by decide) rfl
      have hFc := va_free (wc := [(hm, .inr (11, [.ref vFo, .ref vSi, .ref vIt, .ref vMo, .int 0, .ref vBy, .ref vTy, .int 0, .ref vMi, .int 0, .ref vPs, .int 0, .ref vGs, .int 0, .ref vFt, .int 0, .ref vTo, .int 0, .int 0, .int 0, .int 16777215, .int 0, .int 0, .ref vPr, .ref vSt, .ref vFn, .int 0, .ref vSg, .ref vAl, .int 0]))]) hD hS hA [0] rfl
      refine va_calli (va_runV (As := [.int 1]) (rest := []) ⟨hx₀, hb, hml, hown, hts⟩ (m_finds1 l dC dI cI cJ cQ H.size hm vFo vSi vIt vMo vBy vTy vMi vPs vGs vFt vTo vPr vSt vFn vSg vAl) (cwV 1 hts (kGV wd_404 wd_401 wd_402 wd_403 wd_5) rfl rfl rfl (by decide +kernel) ⟨Nat.le_of_ble_eq_true rfl, Nat.le_of_ble_eq_true rfl⟩) (k_preV (ci := 11) (q0 := 0) hK hPc hDc hN rfl rfl) rfl rfl hl.1 rfl (lv_room (Nat.le_of_ble_eq_true rfl)) dX12_copy_37 ⟨by decide +kernel, by decide +kernel⟩) hS (fun q _ h => hFc q h) hFc (fun r_5 u₀ t₀ H1 locs ht hvm hw hB hz1 hk1 hS => ?_)
      obtain ⟨hP1, hK1, hD1⟩ := hB
      rw [ht] at hP1
      obtain ⟨hP, hD⟩ := va_join (wr := [(vFo, .inl (cI, 4, .inl fFo))]) (w1 := [(hm, .inr (11, [.ref vFo, .ref vSi, .ref vIt, .ref vMo, .int 1, .ref vBy, .ref vTy, .int 0, .ref vMi, .int 0, .ref vPs, .int 0, .ref vGs, .int 0, .ref vFt, .int 0, .ref vTo, .int 0, .int 0, .int 0, .int 16777215, .int 0, .int 0, .ref vPr, .ref vSt, .ref vFn, .int 0, .ref vSg, .ref vAl, .int 0]))]) hP hD [0] [1] rfl rfl (by decide) (by decide) hk1 hFc hP1 hD1
      generalize H1 = H at hP hS ⊢
      have hP : va_P (dC, dI) vwCl [(vFo, .inl (cI, 4, .inl fFo)), (hm, .inr (11, [.ref vFo, .ref vSi, .ref vIt, .ref vMo, .int 1, .ref vBy, .ref vTy, .int 0, .ref vMi, .int 0, .ref vPs, .int 0, .ref vGs, .int 0, .ref vFt, .int 0, .ref vTo, .int 0, .int 0, .int 0, .int 16777215, .int 0, .int 0, .ref vPr, .ref vSt, .ref vFn, .int 0, .ref vSg, .ref vAl, .int 0]))] H := hP
      have hD : va_D A [(vFo, .inl (cI, 4, .inl fFo)), (hm, .inr (11, [.ref vFo, .ref vSi, .ref vIt, .ref vMo, .int 1, .ref vBy, .ref vTy, .int 0, .ref vMi, .int 0, .ref vPs, .int 0, .ref vGs, .int 0, .ref vFt, .int 0, .ref vTo, .int 0, .int 0, .int 0, .int 16777215, .int 0, .int 0, .ref vPr, .ref vSt, .ref vFn, .int 0, .ref vSg, .ref vAl, .int 0]))] := hD
      try dsimp only at hw
      refine k_topi (v := (-11)) hw ?_
      exact W.iret (v := (-11)) hx₀ hb hr (fun t₀ ht hW => ⟨⟨(-11), (), rfl, (lf_m_copy_1 s t c_2 c_4), trivial⟩, hS.F ht⟩) hS.2.2 dX12_copy_40
    rw [if_neg c_4] at hw
    refine k_topi (v := 0) hw ?_
    refine lv_if_ne (tgt := 17) hx₀ hb dX12_copy_11 (by decide) (fun c9 => absurd (by decide +kernel) c9) (fun _ => ?_)
    refine lv_bipush (v := (-2)) hx₀ hb dX12_copy_14 (by decide +kernel) ?_
    exact W.iret (v := (-2)) hx₀ hb hr (fun t₀ ht hW => ⟨⟨(-2), (), rfl, (lf_m_copy_2 s t c_2 c_4), trivial⟩, hS.F ht⟩) hS.2.2 dX12_copy_16
  rw [if_neg c_2] at hw
  refine k_topi (v := 0) hw ?_
  refine lv_if_eq (tgt := 14) hx₀ hb dX12_copy_4 (by decide) (fun _ => ?_) (fun c9 => absurd (by decide +kernel) c9)
  refine lv_bipush (v := (-2)) hx₀ hb dX12_copy_14 (by decide +kernel) ?_
  exact W.iret (v := (-2)) hx₀ hb hr (fun t₀ ht hW => ⟨⟨(-2), (), rfl, (lf_m_copy_3 s t c_2), trivial⟩, hS.F ht⟩) hS.2.2 dX12_copy_16
set_option maxHeartbeats 4000000 in
set_option maxRecDepth 100000 in
theorem m_write (l : Launch) (dC : Nat → ClassId) (dI : Nat → Nat → Nat) (cI cJ cQ : ClassId) (sz : Nat) (hm : Nat) (f : Int32) (w : Int32) (s : Int32) (vFo : Nat) (vSi : Nat) (vIt : Nat) (vMo : Nat) (vBy : Nat) (vTy : Nat) (vMi : Nat) (vPs : Nat) (vGs : Nat) (vFt : Nat) (vTo : Nat) (vPr : Nat) (vSt : Nat) (vFn : Nat) (vSg : Nat) (vAl : Nat) : Met l yX12_write (kW yX12_write cX12_write 6 (some .int)) { frames := 2, cells := 0, slots := 0, locals := 46 } (kPre dC dI cI cJ cQ sz [.ref hm, .int f, .int w, .int s] [(hm, .inr (11, [.ref vFo, .ref vSi, .ref vIt, .ref vMo, .int 0, .ref vBy, .ref vTy, .int 0, .ref vMi, .int 0, .ref vPs, .int 0, .ref vGs, .int 0, .ref vFt, .int 0, .ref vTo, .int 0, .int 0, .int 0, .int 16777215, .int 0, .int 0, .ref vPr, .ref vSt, .ref vFn, .int 0, .ref vSg, .ref vAl, .int 0]))]) (va_Qi (fun (r : Int32) (_ : Unit) => r = -2) (fun _ _ => True) (va_A [(hm, .inr (11, [.ref vFo, .ref vSi, .ref vIt, .ref vMo, .int 0, .ref vBy, .ref vTy, .int 0, .ref vMi, .int 0, .ref vPs, .int 0, .ref vGs, .int 0, .ref vFt, .int 0, .ref vTo, .int 0, .int 0, .int 0, .int 16777215, .int 0, .int 0, .ref vPr, .ref vSt, .ref vFn, .int 0, .ref vSg, .ref vAl, .int 0]))] sz)) 0 0 (va_A [(hm, .inr (11, [.ref vFo, .ref vSi, .ref vIt, .ref vMo, .int 0, .ref vBy, .ref vTy, .int 0, .ref vMi, .int 0, .ref vPs, .int 0, .ref vGs, .int 0, .ref vFt, .int 0, .ref vTo, .int 0, .int 0, .int 0, .int 16777215, .int 0, .int 0, .ref vPr, .ref vSt, .ref vFn, .int 0, .ref vSg, .ref vAl, .int 0]))] sz) := by
  refine Met.ofW (cc := cX12_write) (maxL := 6) (ret := (some .int)) (by decide) rfl ?_
  intro p₀ e₀ s₀ m₀ args below meth c₀ s₁ B hml hv₀
  obtain ⟨rfl, hsz, hP, hK, hD0, hN⟩ := hv₀
  have hx₀ := B.exec
  have hb := B.bytes
  have hr := B.returns
  have hts := atoms_spec (ws := (kW yX12_write cX12_write 6 (some .int))) B.pre
  have hts := fun w h => hts w (List.mem_cons_of_mem _ h)
  have hown : s₀.vm.findClass RX12 = some m₀.cls := findClass_of_methodNamed B.named
  have hlocks := B.notSynchronized
  subst hsz
  have hD := hD0.self (sz := s₀.heap.size)
  generalize hAe : va_A [(hm, .inr (11, [.ref vFo, .ref vSi, .ref vIt, .ref vMo, .int 0, .ref vBy, .ref vTy, .int 0, .ref vMi, .int 0, .ref vPs, .int 0, .ref vGs, .int 0, .ref vFt, .int 0, .ref vTo, .int 0, .int 0, .int 0, .int 16777215, .int 0, .int 0, .ref vPr, .ref vSt, .ref vFn, .int 0, .ref vSg, .ref vAl, .int 0]))] s₀.heap.size = A at hD ⊢
  have hA : ∀ q : Nat, s₀.heap.size ≤ q → A q := fun q h => by rw [← hAe]; exact Or.inr h
  have hS : va_S A s₀.heap s₀.heap [] := va_S.rf
  have hP : va_P (dC, dI) vwCl [(hm, .inr (11, [.ref vFo, .ref vSi, .ref vIt, .ref vMo, .int 0, .ref vBy, .ref vTy, .int 0, .ref vMi, .int 0, .ref vPs, .int 0, .ref vGs, .int 0, .ref vFt, .int 0, .ref vTo, .int 0, .int 0, .int 0, .int 16777215, .int 0, .int 0, .ref vPr, .ref vSt, .ref vFn, .int 0, .ref vSg, .ref vAl, .int 0]))] s₀.heap := hP
  have hl := lv_entry ([.ref hm, .int f, .int w, .int s]) (n := 6) (Nat.le_of_ble_eq_true rfl)
  rw [lg_entry_eq]
  generalize (lg_sl ([.ref hm, .int f, .int w, .int s]) ++ List.replicate (6 - (lg_sl ([.ref hm, .int f, .int w, .int s])).length) Slot.unset).toArray = ls at hl ⊢
  have hl : lv_has ls 6 [(0, .ref hm), (1, .int f), (2, .int w), (3, .int s)] := hl
  obtain ⟨H, hH⟩ : ∃ z : Heap, z = s₀.heap := ⟨_, rfl⟩
  rw [← hH] at hP
  have hS : va_S A s₀.heap H [] := by rw [hH]; exact hS
  refine k_heap hH ?_
  have hD : va_D A [(hm, .inr (11, [.ref vFo, .ref vSi, .ref vIt, .ref vMo, .int 0, .ref vBy, .ref vTy, .int 0, .ref vMi, .int 0, .ref vPs, .int 0, .ref vGs, .int 0, .ref vFt, .int 0, .ref vTo, .int 0, .int 0, .int 0, .int 16777215, .int 0, .int 0, .ref vPr, .ref vSt, .ref vFn, .int 0, .ref vSg, .ref vAl, .int 0]))] := hD
  obtain ⟨locs, hlo⟩ : ∃ z : List Loc, z = [] := ⟨_, rfl⟩
  rw [← hlo] at hS ⊢
  clear hlo hH hAe hD0
  refine lv_aload_n hx₀ hb dX12_write_0 rfl (lv_at hl 0 rfl) ?_
  refine lv_iload_n hx₀ hb dX12_write_1 rfl (lv_at hl 1 rfl) ?_
  have hPc := hP.sub (ws' := [(hm, .inr (11, [.ref vFo, .ref vSi, .ref vIt, .ref vMo, .int 0, .ref vBy, .ref vTy, .int 0, .ref vMi, .int 0, .ref vPs, .int 0, .ref vGs, .int 0, .ref vFt, .int 0, .ref vTo, .int 0, .int 0, .int 0, .int 16777215, .int 0, .int 0, .ref vPr, .ref vSt, .ref vFn, .int 0, .ref vSg, .ref vAl, .int 0]))]) [0] rfl
  have hDc := hD.sub (ws' := [(hm, .inr (11, [.ref vFo, .ref vSi, .ref vIt, .ref vMo, .int 0, .ref vBy, .ref vTy, .int 0, .ref vMi, .int 0, .ref vPs, .int 0, .ref vGs, .int 0, .ref vFt, .int 0, .ref vTo, .int 0, .int 0, .int 0, .int 16777215, .int 0, .int 0, .ref vPr, .ref vSt, .ref vFn, .int 0, .ref vSg, .ref vAl, .int 0]))]) [0] (by decide) rfl
  have hFc := va_free (wc := [(hm, .inr (11, [.ref vFo, .ref vSi, .ref vIt, .ref vMo, .int 0, .ref vBy, .ref vTy, .int 0, .ref vMi, .int 0, .ref vPs, .int 0, .ref vGs, .int 0, .ref vFt, .int 0, .ref vTo, .int 0, .int 0, .int 0, .int 16777215, .int 0, .int 0, .ref vPr, .ref vSt, .ref vFn, .int 0, .ref vSg, .ref vAl, .int 0]))]) hD hS hA [0] rfl
  refine va_calli (va_runV (As := [.int f]) (rest := []) ⟨hx₀, hb, hml, hown, hts⟩ (m_isFlight l dC dI cI cJ cQ H.size hm f vFo vSi vIt vMo vBy vTy vMi vPs vGs vFt vTo vPr vSt vFn vSg vAl) (cwV 1 hts (kGV wd_528 wd_525 wd_526 wd_527 wd_5) rfl rfl rfl (by decide +kernel) ⟨Nat.le_of_ble_eq_true rfl, Nat.le_of_ble_eq_true rfl⟩) (k_preV (ci := 11) (q0 := 0) hK hPc hDc hN rfl rfl) rfl rfl hl.1 rfl (lv_room (Nat.le_of_ble_eq_true rfl)) dX12_write_2 ⟨by decide +kernel, by decide +kernel⟩) hS (fun q _ h => hFc q h) hFc (fun r_1 u₀ t₀ H1 locs ht hvm hw hB hz1 hk1 hS => ?_)
  obtain ⟨hP1, hK1, hD1⟩ := hB
  rw [ht] at hP1
  obtain ⟨hP, hD⟩ := va_join (wr := []) (w1 := [(hm, .inr (11, [.ref vFo, .ref vSi, .ref vIt, .ref vMo, .int 0, .ref vBy, .ref vTy, .int 0, .ref vMi, .int 0, .ref vPs, .int 0, .ref vGs, .int 0, .ref vFt, .int 0, .ref vTo, .int 0, .int 0, .int 0, .int 16777215, .int 0, .int 0, .ref vPr, .ref vSt, .ref vFn, .int 0, .ref vSg, .ref vAl, .int 0]))]) hP hD [0] [] rfl rfl (by decide) (by decide) hk1 hFc hP1 hD1
  generalize H1 = H at hP hS ⊢
  have hP : va_P (dC, dI) vwCl [(hm, .inr (11, [.ref vFo, .ref vSi, .ref vIt, .ref vMo, .int 0, .ref vBy, .ref vTy, .int 0, .ref vMi, .int 0, .ref vPs, .int 0, .ref vGs, .int 0, .ref vFt, .int 0, .ref vTo, .int 0, .int 0, .int 0, .int 16777215, .int 0, .int 0, .ref vPr, .ref vSt, .ref vFn, .int 0, .ref vSg, .ref vAl, .int 0]))] H := hP
  have hD : va_D A [(hm, .inr (11, [.ref vFo, .ref vSi, .ref vIt, .ref vMo, .int 0, .ref vBy, .ref vTy, .int 0, .ref vMi, .int 0, .ref vPs, .int 0, .ref vGs, .int 0, .ref vFt, .int 0, .ref vTo, .int 0, .int 0, .int 0, .int 16777215, .int 0, .int 0, .ref vPr, .ref vSt, .ref vFn, .int 0, .ref vSg, .ref vAl, .int 0]))] := hD
  try dsimp only at hw
  refine k_topi (v := 0) hw ?_
  refine lv_if_eq (tgt := 22) hx₀ hb dX12_write_5 (by decide) (fun _ => ?_) (fun c9 => absurd (by decide +kernel) c9)
  refine lv_bipush (v := (-2)) hx₀ hb dX12_write_22 (by decide +kernel) ?_
  exact W.iret (v := (-2)) hx₀ hb hr (fun t₀ ht hW => ⟨⟨(-2), (), rfl, (by decide +kernel), trivial⟩, hS.F ht⟩) hS.2.2 dX12_write_24
theorem lf_m_count_1 (w : Int32) (c_2 : ¬ w = 0) (c_3 : ¬ w = 1) (c_4 : ¬ w = 2) (c_5 : ¬ w = 3) (c_6 : ¬ w = 4) (c_7 : ¬ w = 5) (c_8 : ¬ w = 6) (c_9 : ¬ w = 7) (c_10 : ¬ w = 8) : ((-2) : Int32) = if 0 ≤ w ∧ w ≤ 8 then 0 else -2 := by
  repeat first | rfl | rw [if_pos (by (first | omega | (simp only [Int64.le_iff_toInt_le, Int64.lt_iff_toInt_lt, Int32.le_iff_toInt_le, Int32.lt_iff_toInt_lt, ← Int32.toInt_inj, ← Int64.toInt_inj, Int32.toInt_toInt64, (show (-2 : Int32).toInt = -2 from by decide), (show (-2 : Int64).toInt = -2 from by decide), (show (0 : Int32).toInt = 0 from by decide), (show (0 : Int64).toInt = 0 from by decide), (show (1 : Int32).toInt = 1 from by decide), (show (1 : Int64).toInt = 1 from by decide), (show (2 : Int32).toInt = 2 from by decide), (show (2 : Int64).toInt = 2 from by decide), (show (3 : Int32).toInt = 3 from by decide), (show (3 : Int64).toInt = 3 from by decide), (show (4 : Int32).toInt = 4 from by decide), (show (4 : Int64).toInt = 4 from by decide), (show (5 : Int32).toInt = 5 from by decide), (show (5 : Int64).toInt = 5 from by decide), (show (6 : Int32).toInt = 6 from by decide), (show (6 : Int64).toInt = 6 from by decide), (show (7 : Int32).toInt = 7 from by decide), (show (7 : Int64).toInt = 7 from by decide), (show (8 : Int32).toInt = 8 from by decide), (show (8 : Int64).toInt = 8 from by decide)] at *; omega)))] | rw [if_neg (by (first | omega | (simp only [Int64.le_iff_toInt_le, Int64.lt_iff_toInt_lt, Int32.le_iff_toInt_le, Int32.lt_iff_toInt_lt, ← Int32.toInt_inj, ← Int64.toInt_inj, Int32.toInt_toInt64, (show (-2 : Int32).toInt = -2 from by decide), (show (-2 : Int64).toInt = -2 from by decide), (show (0 : Int32).toInt = 0 from by decide), (show (0 : Int64).toInt = 0 from by decide), (show (1 : Int32).toInt = 1 from by decide), (show (1 : Int64).toInt = 1 from by decide), (show (2 : Int32).toInt = 2 from by decide), (show (2 : Int64).toInt = 2 from by decide), (show (3 : Int32).toInt = 3 from by decide), (show (3 : Int64).toInt = 3 from by decide), (show (4 : Int32).toInt = 4 from by decide), (show (4 : Int64).toInt = 4 from by decide), (show (5 : Int32).toInt = 5 from by decide), (show (5 : Int64).toInt = 5 from by decide), (show (6 : Int32).toInt = 6 from by decide), (show (6 : Int64).toInt = 6 from by decide), (show (7 : Int32).toInt = 7 from by decide), (show (7 : Int64).toInt = 7 from by decide), (show (8 : Int32).toInt = 8 from by decide), (show (8 : Int64).toInt = 8 from by decide)] at *; omega)))]
set_option maxHeartbeats 4000000 in
set_option maxRecDepth 100000 in
theorem m_count (l : Launch) (dC : Nat → ClassId) (dI : Nat → Nat → Nat) (cI cJ cQ : ClassId) (sz : Nat) (hm : Nat) (w : Int32) (vFo : Nat) (vSi : Nat) (vIt : Nat) (vMo : Nat) (vBy : Nat) (vTy : Nat) (vMi : Nat) (vPs : Nat) (vGs : Nat) (vFt : Nat) (vTo : Nat) (vPr : Nat) (vSt : Nat) (vFn : Nat) (vSg : Nat) (vAl : Nat) : Met l yX12_count (kW yX12_count cX12_count 2 (some .int)) { frames := 2, cells := 0, slots := 0, locals := 44 } (kPre dC dI cI cJ cQ sz [.ref hm, .int w] [(hm, .inr (11, [.ref vFo, .ref vSi, .ref vIt, .ref vMo, .int 0, .ref vBy, .ref vTy, .int 0, .ref vMi, .int 0, .ref vPs, .int 0, .ref vGs, .int 0, .ref vFt, .int 0, .ref vTo, .int 0, .int 0, .int 0, .int 16777215, .int 0, .int 0, .ref vPr, .ref vSt, .ref vFn, .int 0, .ref vSg, .ref vAl, .int 0])), (vTy, .inl (cI, 3, .inl (fun _ => 0)))]) (va_Qi (fun (r : Int32) (_ : Unit) => r = if 0 ≤ w ∧ w ≤ 8 then 0 else -2) (fun _ t₀ => kB dC dI cI cJ cQ (va_A [(hm, .inr (11, [.ref vFo, .ref vSi, .ref vIt, .ref vMo, .int 0, .ref vBy, .ref vTy, .int 0, .ref vMi, .int 0, .ref vPs, .int 0, .ref vGs, .int 0, .ref vFt, .int 0, .ref vTo, .int 0, .int 0, .int 0, .int 16777215, .int 0, .int 0, .ref vPr, .ref vSt, .ref vFn, .int 0, .ref vSg, .ref vAl, .int 0])), (vTy, .inl (cI, 3, .inl (fun _ => 0)))] sz) [(hm, .inr (11, [.ref vFo, .ref vSi, .ref vIt, .ref vMo, .int 0, .ref vBy, .ref vTy, .int 0, .ref vMi, .int 0, .ref vPs, .int 0, .ref vGs, .int 0, .ref vFt, .int 0, .ref vTo, .int 0, .int 0, .int 0, .int 16777215, .int 0, .int 0, .ref vPr, .ref vSt, .ref vFn, .int 0, .ref vSg, .ref vAl, .int 0])), (vTy, .inl (cI, 3, .inl (fun _ => 0)))] t₀) (va_A [(hm, .inr (11, [.ref vFo, .ref vSi, .ref vIt, .ref vMo, .int 0, .ref vBy, .ref vTy, .int 0, .ref vMi, .int 0, .ref vPs, .int 0, .ref vGs, .int 0, .ref vFt, .int 0, .ref vTo, .int 0, .int 0, .int 0, .int 16777215, .int 0, .int 0, .ref vPr, .ref vSt, .ref vFn, .int 0, .ref vSg, .ref vAl, .int 0])), (vTy, .inl (cI, 3, .inl (fun _ => 0)))] sz)) 0 0 (va_A [(hm, .inr (11, [.ref vFo, .ref vSi, .ref vIt, .ref vMo, .int 0, .ref vBy, .ref vTy, .int 0, .ref vMi, .int 0, .ref vPs, .int 0, .ref vGs, .int 0, .ref vFt, .int 0, .ref vTo, .int 0, .int 0, .int 0, .int 16777215, .int 0, .int 0, .ref vPr, .ref vSt, .ref vFn, .int 0, .ref vSg, .ref vAl, .int 0])), (vTy, .inl (cI, 3, .inl (fun _ => 0)))] sz) := by
  refine Met.ofW (cc := cX12_count) (maxL := 2) (ret := (some .int)) (by decide) rfl ?_
  intro p₀ e₀ s₀ m₀ args below meth c₀ s₁ B hml hv₀
  obtain ⟨rfl, hsz, hP, hK, hD0, hN⟩ := hv₀
  have hx₀ := B.exec
  have hb := B.bytes
  have hr := B.returns
  have hts := atoms_spec (ws := (kW yX12_count cX12_count 2 (some .int))) B.pre
  have hts := fun w h => hts w (List.mem_cons_of_mem _ h)
  have hown : s₀.vm.findClass RX12 = some m₀.cls := findClass_of_methodNamed B.named
  have hlocks := B.notSynchronized
  subst hsz
  have hD := hD0.self (sz := s₀.heap.size)
  generalize hAe : va_A [(hm, .inr (11, [.ref vFo, .ref vSi, .ref vIt, .ref vMo, .int 0, .ref vBy, .ref vTy, .int 0, .ref vMi, .int 0, .ref vPs, .int 0, .ref vGs, .int 0, .ref vFt, .int 0, .ref vTo, .int 0, .int 0, .int 0, .int 16777215, .int 0, .int 0, .ref vPr, .ref vSt, .ref vFn, .int 0, .ref vSg, .ref vAl, .int 0])), (vTy, .inl (cI, 3, .inl (fun _ => 0)))] s₀.heap.size = A at hD ⊢
  have hA : ∀ q : Nat, s₀.heap.size ≤ q → A q := fun q h => by rw [← hAe]; exact Or.inr h
  have hS : va_S A s₀.heap s₀.heap [] := va_S.rf
  have hP : va_P (dC, dI) vwCl [(hm, .inr (11, [.ref vFo, .ref vSi, .ref vIt, .ref vMo, .int 0, .ref vBy, .ref vTy, .int 0, .ref vMi, .int 0, .ref vPs, .int 0, .ref vGs, .int 0, .ref vFt, .int 0, .ref vTo, .int 0, .int 0, .int 0, .int 16777215, .int 0, .int 0, .ref vPr, .ref vSt, .ref vFn, .int 0, .ref vSg, .ref vAl, .int 0])), (vTy, .inl (cI, 3, .inl (fun _ => 0)))] s₀.heap := hP
  have hl := lv_entry ([.ref hm, .int w]) (n := 2) (Nat.le_of_ble_eq_true rfl)
  rw [lg_entry_eq]
  generalize (lg_sl ([.ref hm, .int w]) ++ List.replicate (2 - (lg_sl ([.ref hm, .int w])).length) Slot.unset).toArray = ls at hl ⊢
  have hl : lv_has ls 2 [(0, .ref hm), (1, .int w)] := hl
  obtain ⟨H, hH⟩ : ∃ z : Heap, z = s₀.heap := ⟨_, rfl⟩
  rw [← hH] at hP
  have hS : va_S A s₀.heap H [] := by rw [hH]; exact hS
  refine k_heap hH ?_
  have hD : va_D A [(hm, .inr (11, [.ref vFo, .ref vSi, .ref vIt, .ref vMo, .int 0, .ref vBy, .ref vTy, .int 0, .ref vMi, .int 0, .ref vPs, .int 0, .ref vGs, .int 0, .ref vFt, .int 0, .ref vTo, .int 0, .int 0, .int 0, .int 16777215, .int 0, .int 0, .ref vPr, .ref vSt, .ref vFn, .int 0, .ref vSg, .ref vAl, .int 0])), (vTy, .inl (cI, 3, .inl (fun _ => 0)))] := hD
  obtain ⟨locs, hlo⟩ : ∃ z : List Loc, z = [] := ⟨_, rfl⟩
  rw [← hlo] at hS ⊢
  clear hlo hH hAe hD0
  refine lv_aload_n hx₀ hb dX12_count_0 rfl (lv_at hl 0 rfl) ?_
  have hPc := hP.sub (ws' := [(hm, .inr (11, [.ref vFo, .ref vSi, .ref vIt, .ref vMo, .int 0, .ref vBy, .ref vTy, .int 0, .ref vMi, .int 0, .ref vPs, .int 0, .ref vGs, .int 0, .ref vFt, .int 0, .ref vTo, .int 0, .int 0, .int 0, .int 16777215, .int 0, .int 0, .ref vPr, .ref vSt, .ref vFn, .int 0, .ref vSg, .ref vAl, .int 0])), (vTy, .inl (cI, 3, .inl (fun _ => 0)))]) [0, 1] rfl
  have hDc := hD.sub (ws' := [(hm, .inr (11, [.ref vFo, .ref vSi, .ref vIt, .ref vMo, .int 0, .ref vBy, .ref vTy, .int 0, .ref vMi, .int 0, .ref vPs, .int 0, .ref vGs, .int 0, .ref vFt, .int 0, .ref vTo, .int 0, .int 0, .int 0, .int 16777215, .int 0, .int 0, .ref vPr, .ref vSt, .ref vFn, .int 0, .ref vSg, .ref vAl, .int 0])), (vTy, .inl (cI, 3, .inl (fun _ => 0)))]) [0, 1] (by decide) rfl
  have hFc := va_free (wc := [(hm, .inr (11, [.ref vFo, .ref vSi, .ref vIt, .ref vMo, .int 0, .ref vBy, .ref vTy, .int 0, .ref vMi, .int 0, .ref vPs, .int 0, .ref vGs, .int 0, .ref vFt, .int 0, .ref vTo, .int 0, .int 0, .int 0, .int 16777215, .int 0, .int 0, .ref vPr, .ref vSt, .ref vFn, .int 0, .ref vSg, .ref vAl, .int 0])), (vTy, .inl (cI, 3, .inl (fun _ => 0)))]) hD hS hA [0, 1] rfl
  refine va_callv (va_runV (As := []) (rest := []) ⟨hx₀, hb, hml, hown, hts⟩ (m_reads l dC dI cI cJ cQ H.size hm vFo vSi vIt vMo vBy vTy vMi vPs vGs vFt vTo vPr vSt vFn vSg vAl) (cwV 0 hts (kGV wd_298 wd_295 wd_296 wd_297 wd_5) rfl rfl rfl (by decide +kernel) ⟨Nat.le_of_ble_eq_true rfl, Nat.le_of_ble_eq_true rfl⟩) (k_preV (ci := 11) (q0 := 0) hK hPc hDc hN rfl rfl) rfl rfl hl.1 rfl (lv_room (Nat.le_of_ble_eq_true rfl)) dX12_count_1 ⟨by decide +kernel, by decide +kernel⟩) hS (fun q _ h => hFc q h) hFc (fun u₀ t₀ H1 locs ht hvm hw hB hz1 hk1 hS => ?_)
  obtain ⟨hP1, hK1, hD1⟩ := hB
  rw [ht] at hP1
  obtain ⟨hP, hD⟩ := va_join (wr := []) (w1 := [(hm, .inr (11, [.ref vFo, .ref vSi, .ref vIt, .ref vMo, .int 0, .ref vBy, .ref vTy, .int 0, .ref vMi, .int 0, .ref vPs, .int 0, .ref vGs, .int 0, .ref vFt, .int 0, .ref vTo, .int 0, .int 0, .int 0, .int 16777215, .int 0, .int 0, .ref vPr, .ref vSt, .ref vFn, .int 0, .ref vSg, .ref vAl, .int 0])), (vTy, .inl (cI, 3, .inl (fun _ => 0)))]) hP hD [0, 1] [] rfl rfl (by decide) (by decide) hk1 hFc hP1 hD1
  generalize H1 = H at hP hS ⊢
  have hP : va_P (dC, dI) vwCl [(hm, .inr (11, [.ref vFo, .ref vSi, .ref vIt, .ref vMo, .int 0, .ref vBy, .ref vTy, .int 0, .ref vMi, .int 0, .ref vPs, .int 0, .ref vGs, .int 0, .ref vFt, .int 0, .ref vTo, .int 0, .int 0, .int 0, .int 16777215, .int 0, .int 0, .ref vPr, .ref vSt, .ref vFn, .int 0, .ref vSg, .ref vAl, .int 0])), (vTy, .inl (cI, 3, .inl (fun _ => 0)))] H := hP
  have hD : va_D A [(hm, .inr (11, [.ref vFo, .ref vSi, .ref vIt, .ref vMo, .int 0, .ref vBy, .ref vTy, .int 0, .ref vMi, .int 0, .ref vPs, .int 0, .ref vGs, .int 0, .ref vFt, .int 0, .ref vTo, .int 0, .int 0, .int 0, .int 16777215, .int 0, .int 0, .ref vPr, .ref vSt, .ref vFn, .int 0, .ref vSg, .ref vAl, .int 0])), (vTy, .inl (cI, 3, .inl (fun _ => 0)))] := hD
  refine lv_iload_n hx₀ hb dX12_count_4 rfl (lv_at hl 1 rfl) ?_
  by_cases c_2 : w = 0
  · subst c_2
    refine lv_tableIn (off := 51) (tgt := 56) hx₀ hb dX12_count_5 (by decide +kernel) (by decide +kernel) (by decide +kernel) (by decide) ?_
    refine lv_aload_n hx₀ hb dX12_count_56 rfl (lv_at hl 0 rfl) ?_
    refine va_get (D := (dC, dI)) (ci := 11) (v := .int 0) (C := RX12) (T := TX12) (N := 30) hx₀ hb hts inlX12 hown hK hP 0 rfl rfl 7 (by decide) (hts (.fieldLink RX12 107 "BittenStickModel" "miles" "I") wd_252) (fun _ h9 => h9) rfl dX12_count_57 ?_
    have hP9 := hP.sub (ws' := [(hm, .inr (11, [.ref vFo, .ref vSi, .ref vIt, .ref vMo, .int 0, .ref vBy, .ref vTy, .int 0, .ref vMi, .int 0, .ref vPs, .int 0, .ref vGs, .int 0, .ref vFt, .int 0, .ref vTo, .int 0, .int 0, .int 0, .int 16777215, .int 0, .int 0, .ref vPr, .ref vSt, .ref vFn, .int 0, .ref vSg, .ref vAl, .int 0])), (vTy, .inl (cI, 3, .inl (fun _ => 0)))]) [0, 1] rfl
    have hD9 := hD.sub (ws' := [(hm, .inr (11, [.ref vFo, .ref vSi, .ref vIt, .ref vMo, .int 0, .ref vBy, .ref vTy, .int 0, .ref vMi, .int 0, .ref vPs, .int 0, .ref vGs, .int 0, .ref vFt, .int 0, .ref vTo, .int 0, .int 0, .int 0, .int 16777215, .int 0, .int 0, .ref vPr, .ref vSt, .ref vFn, .int 0, .ref vSg, .ref vAl, .int 0])), (vTy, .inl (cI, 3, .inl (fun _ => 0)))]) [0, 1] (by decide) rfl
    exact W.iret (v := 0) hx₀ hb hr (fun t₀ ht hW => ⟨⟨0, (), rfl, (by decide +kernel), by rw [ht]; exact hP9, va_K.moved hW.alike hK, hD9⟩, hS.F ht⟩) hS.2.2 dX12_count_60
  by_cases c_3 : w = 1
  · subst c_3
    refine lv_tableIn (off := 56) (tgt := 61) hx₀ hb dX12_count_5 (by decide +kernel) (by decide +kernel) (by decide +kernel) (by decide) ?_
    refine lv_aload_n hx₀ hb dX12_count_61 rfl (lv_at hl 0 rfl) ?_
    refine va_get (D := (dC, dI)) (ci := 11) (v := .int 0) (C := RX12) (T := TX12) (N := 30) hx₀ hb hts inlX12 hown hK hP 0 rfl rfl 9 (by decide) (hts (.fieldLink RX12 116 "BittenStickModel" "passengers" "I") wd_265) (fun _ h9 => h9) rfl dX12_count_62 ?_
    have hP9 := hP.sub (ws' := [(hm, .inr (11, [.ref vFo, .ref vSi, .ref vIt, .ref vMo, .int 0, .ref vBy, .ref vTy, .int 0, .ref vMi, .int 0, .ref vPs, .int 0, .ref vGs, .int 0, .ref vFt, .int 0, .ref vTo, .int 0, .int 0, .int 0, .int 16777215, .int 0, .int 0, .ref vPr, .ref vSt, .ref vFn, .int 0, .ref vSg, .ref vAl, .int 0])), (vTy, .inl (cI, 3, .inl (fun _ => 0)))]) [0, 1] rfl
    have hD9 := hD.sub (ws' := [(hm, .inr (11, [.ref vFo, .ref vSi, .ref vIt, .ref vMo, .int 0, .ref vBy, .ref vTy, .int 0, .ref vMi, .int 0, .ref vPs, .int 0, .ref vGs, .int 0, .ref vFt, .int 0, .ref vTo, .int 0, .int 0, .int 0, .int 16777215, .int 0, .int 0, .ref vPr, .ref vSt, .ref vFn, .int 0, .ref vSg, .ref vAl, .int 0])), (vTy, .inl (cI, 3, .inl (fun _ => 0)))]) [0, 1] (by decide) rfl
    exact W.iret (v := 0) hx₀ hb hr (fun t₀ ht hW => ⟨⟨0, (), rfl, (by decide +kernel), by rw [ht]; exact hP9, va_K.moved hW.alike hK, hD9⟩, hS.F ht⟩) hS.2.2 dX12_count_65
  by_cases c_4 : w = 2
  · subst c_4
    refine lv_tableIn (off := 61) (tgt := 66) hx₀ hb dX12_count_5 (by decide +kernel) (by decide +kernel) (by decide +kernel) (by decide) ?_
    refine lv_aload_n hx₀ hb dX12_count_66 rfl (lv_at hl 0 rfl) ?_
    refine va_get (D := (dC, dI)) (ci := 11) (v := .int 0) (C := RX12) (T := TX12) (N := 30) hx₀ hb hts inlX12 hown hK hP 0 rfl rfl 11 (by decide) (hts (.fieldLink RX12 122 "BittenStickModel" "geese" "I") wd_277) (fun _ h9 => h9) rfl dX12_count_67 ?_
    have hP9 := hP.sub (ws' := [(hm, .inr (11, [.ref vFo, .ref vSi, .ref vIt, .ref vMo, .int 0, .ref vBy, .ref vTy, .int 0, .ref vMi, .int 0, .ref vPs, .int 0, .ref vGs, .int 0, .ref vFt, .int 0, .ref vTo, .int 0, .int 0, .int 0, .int 16777215, .int 0, .int 0, .ref vPr, .ref vSt, .ref vFn, .int 0, .ref vSg, .ref vAl, .int 0])), (vTy, .inl (cI, 3, .inl (fun _ => 0)))]) [0, 1] rfl
    have hD9 := hD.sub (ws' := [(hm, .inr (11, [.ref vFo, .ref vSi, .ref vIt, .ref vMo, .int 0, .ref vBy, .ref vTy, .int 0, .ref vMi, .int 0, .ref vPs, .int 0, .ref vGs, .int 0, .ref vFt, .int 0, .ref vTo, .int 0, .int 0, .int 0, .int 16777215, .int 0, .int 0, .ref vPr, .ref vSt, .ref vFn, .int 0, .ref vSg, .ref vAl, .int 0])), (vTy, .inl (cI, 3, .inl (fun _ => 0)))]) [0, 1] (by decide) rfl
    exact W.iret (v := 0) hx₀ hb hr (fun t₀ ht hW => ⟨⟨0, (), rfl, (by decide +kernel), by rw [ht]; exact hP9, va_K.moved hW.alike hK, hD9⟩, hS.F ht⟩) hS.2.2 dX12_count_70
  by_cases c_5 : w = 3
  · subst c_5
    refine lv_tableIn (off := 66) (tgt := 71) hx₀ hb dX12_count_5 (by decide +kernel) (by decide +kernel) (by decide +kernel) (by decide) ?_
    refine lv_aload_n hx₀ hb dX12_count_71 rfl (lv_at hl 0 rfl) ?_
    refine va_get (D := (dC, dI)) (ci := 11) (v := .ref vTy) (C := RX12) (T := TX12) (N := 30) hx₀ hb hts inlX12 hown hK hP 0 rfl rfl 6 (by decide) (hts (.fieldLink RX12 25 "BittenStickModel" "typed" "[I") wd_120) (fun _ h9 => h9) rfl dX12_count_72 ?_
    refine lv_iload_n hx₀ hb dX12_count_75 rfl (lv_at hl 1 rfl) ?_
    refine lv_iconst (v := 3) hx₀ hb dX12_count_76 (by decide +kernel) ?_
    refine lv_isub hx₀ hb dX12_count_77 ?_
    refine k_topi (v := 0) (by decide +kernel) ?_
    refine va_iald hx₀ hb hK hP 1 0 rfl rfl (by unfold vp_in; decide +kernel) dX12_count_78 ?_
    refine k_topi (v := 0) rfl ?_
    have hP9 := hP.sub (ws' := [(hm, .inr (11, [.ref vFo, .ref vSi, .ref vIt, .ref vMo, .int 0, .ref vBy, .ref vTy, .int 0, .ref vMi, .int 0, .ref vPs, .int 0, .ref vGs, .int 0, .ref vFt, .int 0, .ref vTo, .int 0, .int 0, .int 0, .int 16777215, .int 0, .int 0, .ref vPr, .ref vSt, .ref vFn, .int 0, .ref vSg, .ref vAl, .int 0])), (vTy, .inl (cI, 3, .inl (fun _ => 0)))]) [0, 1] rfl
    have hD9 := hD.sub (ws' := [(hm, .inr (11, [.ref vFo, .ref vSi, .ref vIt, .ref vMo, .int 0, .ref vBy, .ref vTy, .int 0, .ref vMi, .int 0, .ref vPs, .int 0, .ref vGs, .int 0, .ref vFt, .int 0, .ref vTo, .int 0, .int 0, .int 0, .int 16777215, .int 0, .int 0, .ref vPr, .ref vSt, .ref vFn, .int 0, .ref vSg, .ref vAl, .int 0])), (vTy, .inl (cI, 3, .inl (fun _ => 0)))]) [0, 1] (by decide) rfl
    exact W.iret (v := 0) hx₀ hb hr (fun t₀ ht hW => ⟨⟨0, (), rfl, (by decide +kernel), by rw [ht]; exact hP9, va_K.moved hW.alike hK, hD9⟩, hS.F ht⟩) hS.2.2 dX12_count_79
  by_cases c_6 : w = 4
  · subst c_6
    refine lv_tableIn (off := 66) (tgt := 71) hx₀ hb dX12_count_5 (by decide +kernel) (by decide +kernel) (by decide +kernel) (by decide) ?_
    refine lv_aload_n hx₀ hb dX12_count_71 rfl (lv_at hl 0 rfl) ?_
    refine va_get (D := (dC, dI)) (ci := 11) (v := .ref vTy) (C := RX12) (T := TX12) (N := 30) hx₀ hb hts inlX12 hown hK hP 0 rfl rfl 6 (by decide) (hts (.fieldLink RX12 25 "BittenStickModel" "typed" "[I") wd_120) (fun _ h9 => h9) rfl dX12_count_72 ?_
    refine lv_iload_n hx₀ hb dX12_count_75 rfl (lv_at hl 1 rfl) ?_
    refine lv_iconst (v := 3) hx₀ hb dX12_count_76 (by decide +kernel) ?_
    refine lv_isub hx₀ hb dX12_count_77 ?_
    refine k_topi (v := 1) (by decide +kernel) ?_
    refine va_iald hx₀ hb hK hP 1 0 rfl rfl (by unfold vp_in; decide +kernel) dX12_count_78 ?_
    refine k_topi (v := 0) rfl ?_
    have hP9 := hP.sub (ws' := [(hm, .inr (11, [.ref vFo, .ref vSi, .ref vIt, .ref vMo, .int 0, .ref vBy, .ref vTy, .int 0, .ref vMi, .int 0, .ref vPs, .int 0, .ref vGs, .int 0, .ref vFt, .int 0, .ref vTo, .int 0, .int 0, .int 0, .int 16777215, .int 0, .int 0, .ref vPr, .ref vSt, .ref vFn, .int 0, .ref vSg, .ref vAl, .int 0])), (vTy, .inl (cI, 3, .inl (fun _ => 0)))]) [0, 1] rfl
    have hD9 := hD.sub (ws' := [(hm, .inr (11, [.ref vFo, .ref vSi, .ref vIt, .ref vMo, .int 0, .ref vBy, .ref vTy, .int 0, .ref vMi, .int 0, .ref vPs, .int 0, .ref vGs, .int 0, .ref vFt, .int 0, .ref vTo, .int 0, .int 0, .int 0, .int 16777215, .int 0, .int 0, .ref vPr, .ref vSt, .ref vFn, .int 0, .ref vSg, .ref vAl, .int 0])), (vTy, .inl (cI, 3, .inl (fun _ => 0)))]) [0, 1] (by decide) rfl
    exact W.iret (v := 0) hx₀ hb hr (fun t₀ ht hW => ⟨⟨0, (), rfl, (by decide +kernel), by rw [ht]; exact hP9, va_K.moved hW.alike hK, hD9⟩, hS.F ht⟩) hS.2.2 dX12_count_79
  by_cases c_7 : w = 5
  · subst c_7
    refine lv_tableIn (off := 66) (tgt := 71) hx₀ hb dX12_count_5 (by decide +kernel) (by decide +kernel) (by decide +kernel) (by decide) ?_
    refine lv_aload_n hx₀ hb dX12_count_71 rfl (lv_at hl 0 rfl) ?_
    refine va_get (D := (dC, dI)) (ci := 11) (v := .ref vTy) (C := RX12) (T := TX12) (N := 30) hx₀ hb hts inlX12 hown hK hP 0 rfl rfl 6 (by decide) (hts (.fieldLink RX12 25 "BittenStickModel" "typed" "[I") wd_120) (fun _ h9 => h9) rfl dX12_count_72 ?_
    refine lv_iload_n hx₀ hb dX12_count_75 rfl (lv_at hl 1 rfl) ?_
    refine lv_iconst (v := 3) hx₀ hb dX12_count_76 (by decide +kernel) ?_
    refine lv_isub hx₀ hb dX12_count_77 ?_
    refine k_topi (v := 2) (by decide +kernel) ?_
    refine va_iald hx₀ hb hK hP 1 0 rfl rfl (by unfold vp_in; decide +kernel) dX12_count_78 ?_
    refine k_topi (v := 0) rfl ?_
    have hP9 := hP.sub (ws' := [(hm, .inr (11, [.ref vFo, .ref vSi, .ref vIt, .ref vMo, .int 0, .ref vBy, .ref vTy, .int 0, .ref vMi, .int 0, .ref vPs, .int 0, .ref vGs, .int 0, .ref vFt, .int 0, .ref vTo, .int 0, .int 0, .int 0, .int 16777215, .int 0, .int 0, .ref vPr, .ref vSt, .ref vFn, .int 0, .ref vSg, .ref vAl, .int 0])), (vTy, .inl (cI, 3, .inl (fun _ => 0)))]) [0, 1] rfl
    have hD9 := hD.sub (ws' := [(hm, .inr (11, [.ref vFo, .ref vSi, .ref vIt, .ref vMo, .int 0, .ref vBy, .ref vTy, .int 0, .ref vMi, .int 0, .ref vPs, .int 0, .ref vGs, .int 0, .ref vFt, .int 0, .ref vTo, .int 0, .int 0, .int 0, .int 16777215, .int 0, .int 0, .ref vPr, .ref vSt, .ref vFn, .int 0, .ref vSg, .ref vAl, .int 0])), (vTy, .inl (cI, 3, .inl (fun _ => 0)))]) [0, 1] (by decide) rfl
    exact W.iret (v := 0) hx₀ hb hr (fun t₀ ht hW => ⟨⟨0, (), rfl, (by decide +kernel), by rw [ht]; exact hP9, va_K.moved hW.alike hK, hD9⟩, hS.F ht⟩) hS.2.2 dX12_count_79
  by_cases c_8 : w = 6
  · subst c_8
    refine lv_tableIn (off := 75) (tgt := 80) hx₀ hb dX12_count_5 (by decide +kernel) (by decide +kernel) (by decide +kernel) (by decide) ?_
    refine lv_aload_n hx₀ hb dX12_count_80 rfl (lv_at hl 0 rfl) ?_
    refine va_get (D := (dC, dI)) (ci := 11) (v := .int 0) (C := RX12) (T := TX12) (N := 30) hx₀ hb hts inlX12 hown hK hP 0 rfl rfl 13 (by decide) (hts (.fieldLink RX12 159 "BittenStickModel" "flights" "I") wd_364) (fun _ h9 => h9) rfl dX12_count_81 ?_
    have hP9 := hP.sub (ws' := [(hm, .inr (11, [.ref vFo, .ref vSi, .ref vIt, .ref vMo, .int 0, .ref vBy, .ref vTy, .int 0, .ref vMi, .int 0, .ref vPs, .int 0, .ref vGs, .int 0, .ref vFt, .int 0, .ref vTo, .int 0, .int 0, .int 0, .int 16777215, .int 0, .int 0, .ref vPr, .ref vSt, .ref vFn, .int 0, .ref vSg, .ref vAl, .int 0])), (vTy, .inl (cI, 3, .inl (fun _ => 0)))]) [0, 1] rfl
    have hD9 := hD.sub (ws' := [(hm, .inr (11, [.ref vFo, .ref vSi, .ref vIt, .ref vMo, .int 0, .ref vBy, .ref vTy, .int 0, .ref vMi, .int 0, .ref vPs, .int 0, .ref vGs, .int 0, .ref vFt, .int 0, .ref vTo, .int 0, .int 0, .int 0, .int 16777215, .int 0, .int 0, .ref vPr, .ref vSt, .ref vFn, .int 0, .ref vSg, .ref vAl, .int 0])), (vTy, .inl (cI, 3, .inl (fun _ => 0)))]) [0, 1] (by decide) rfl
    exact W.iret (v := 0) hx₀ hb hr (fun t₀ ht hW => ⟨⟨0, (), rfl, (by decide +kernel), by rw [ht]; exact hP9, va_K.moved hW.alike hK, hD9⟩, hS.F ht⟩) hS.2.2 dX12_count_84
  by_cases c_9 : w = 7
  · subst c_9
    refine lv_tableIn (off := 80) (tgt := 85) hx₀ hb dX12_count_5 (by decide +kernel) (by decide +kernel) (by decide +kernel) (by decide) ?_
    refine lv_aload_n hx₀ hb dX12_count_85 rfl (lv_at hl 0 rfl) ?_
    refine va_get (D := (dC, dI)) (ci := 11) (v := .int 0) (C := RX12) (T := TX12) (N := 30) hx₀ hb hts inlX12 hown hK hP 0 rfl rfl 26 (by decide) (hts (.fieldLink RX12 240 "BittenStickModel" "sights" "I") wd_696) (fun _ h9 => h9) rfl dX12_count_86 ?_
    have hP9 := hP.sub (ws' := [(hm, .inr (11, [.ref vFo, .ref vSi, .ref vIt, .ref vMo, .int 0, .ref vBy, .ref vTy, .int 0, .ref vMi, .int 0, .ref vPs, .int 0, .ref vGs, .int 0, .ref vFt, .int 0, .ref vTo, .int 0, .int 0, .int 0, .int 16777215, .int 0, .int 0, .ref vPr, .ref vSt, .ref vFn, .int 0, .ref vSg, .ref vAl, .int 0])), (vTy, .inl (cI, 3, .inl (fun _ => 0)))]) [0, 1] rfl
    have hD9 := hD.sub (ws' := [(hm, .inr (11, [.ref vFo, .ref vSi, .ref vIt, .ref vMo, .int 0, .ref vBy, .ref vTy, .int 0, .ref vMi, .int 0, .ref vPs, .int 0, .ref vGs, .int 0, .ref vFt, .int 0, .ref vTo, .int 0, .int 0, .int 0, .int 16777215, .int 0, .int 0, .ref vPr, .ref vSt, .ref vFn, .int 0, .ref vSg, .ref vAl, .int 0])), (vTy, .inl (cI, 3, .inl (fun _ => 0)))]) [0, 1] (by decide) rfl
    exact W.iret (v := 0) hx₀ hb hr (fun t₀ ht hW => ⟨⟨0, (), rfl, (by decide +kernel), by rw [ht]; exact hP9, va_K.moved hW.alike hK, hD9⟩, hS.F ht⟩) hS.2.2 dX12_count_89
  by_cases c_10 : w = 8
  · subst c_10
    refine lv_tableIn (off := 85) (tgt := 90) hx₀ hb dX12_count_5 (by decide +kernel) (by decide +kernel) (by decide +kernel) (by decide) ?_
    refine lv_aload_n hx₀ hb dX12_count_90 rfl (lv_at hl 0 rfl) ?_
    refine va_get (D := (dC, dI)) (ci := 11) (v := .int 0) (C := RX12) (T := TX12) (N := 30) hx₀ hb hts inlX12 hown hK hP 0 rfl rfl 4 (by decide) (hts (.fieldLink RX12 69 "BittenStickModel" "latest" "I") wd_405) (fun _ h9 => h9) rfl dX12_count_91 ?_
    have hP9 := hP.sub (ws' := [(hm, .inr (11, [.ref vFo, .ref vSi, .ref vIt, .ref vMo, .int 0, .ref vBy, .ref vTy, .int 0, .ref vMi, .int 0, .ref vPs, .int 0, .ref vGs, .int 0, .ref vFt, .int 0, .ref vTo, .int 0, .int 0, .int 0, .int 16777215, .int 0, .int 0, .ref vPr, .ref vSt, .ref vFn, .int 0, .ref vSg, .ref vAl, .int 0])), (vTy, .inl (cI, 3, .inl (fun _ => 0)))]) [0, 1] rfl
    have hD9 := hD.sub (ws' := [(hm, .inr (11, [.ref vFo, .ref vSi, .ref vIt, .ref vMo, .int 0, .ref vBy, .ref vTy, .int 0, .ref vMi, .int 0, .ref vPs, .int 0, .ref vGs, .int 0, .ref vFt, .int 0, .ref vTo, .int 0, .int 0, .int 0, .int 16777215, .int 0, .int 0, .ref vPr, .ref vSt, .ref vFn, .int 0, .ref vSg, .ref vAl, .int 0])), (vTy, .inl (cI, 3, .inl (fun _ => 0)))]) [0, 1] (by decide) rfl
    exact W.iret (v := 0) hx₀ hb hr (fun t₀ ht hW => ⟨⟨0, (), rfl, (by decide +kernel), by rw [ht]; exact hP9, va_K.moved hW.alike hK, hD9⟩, hS.F ht⟩) hS.2.2 dX12_count_94
  refine lv_tableOut (tgt := 95) hx₀ hb dX12_count_5 (k_out9 c_2 c_3 c_4 c_5 c_6 c_7 c_8 c_9 c_10) (by decide) ?_
  refine lv_bipush (v := (-2)) hx₀ hb dX12_count_95 (by decide +kernel) ?_
  have hP9 := hP.sub (ws' := [(hm, .inr (11, [.ref vFo, .ref vSi, .ref vIt, .ref vMo, .int 0, .ref vBy, .ref vTy, .int 0, .ref vMi, .int 0, .ref vPs, .int 0, .ref vGs, .int 0, .ref vFt, .int 0, .ref vTo, .int 0, .int 0, .int 0, .int 16777215, .int 0, .int 0, .ref vPr, .ref vSt, .ref vFn, .int 0, .ref vSg, .ref vAl, .int 0])), (vTy, .inl (cI, 3, .inl (fun _ => 0)))]) [0, 1] rfl
  have hD9 := hD.sub (ws' := [(hm, .inr (11, [.ref vFo, .ref vSi, .ref vIt, .ref vMo, .int 0, .ref vBy, .ref vTy, .int 0, .ref vMi, .int 0, .ref vPs, .int 0, .ref vGs, .int 0, .ref vFt, .int 0, .ref vTo, .int 0, .int 0, .int 0, .int 16777215, .int 0, .int 0, .ref vPr, .ref vSt, .ref vFn, .int 0, .ref vSg, .ref vAl, .int 0])), (vTy, .inl (cI, 3, .inl (fun _ => 0)))]) [0, 1] (by decide) rfl
  exact W.iret (v := (-2)) hx₀ hb hr (fun t₀ ht hW => ⟨⟨(-2), (), rfl, (lf_m_count_1 w c_2 c_3 c_4 c_5 c_6 c_7 c_8 c_9 c_10), by rw [ht]; exact hP9, va_K.moved hW.alike hK, hD9⟩, hS.F ht⟩) hS.2.2 dX12_count_97
