theorem lf_g_farthestNow_1 (a0 : Int32) (a1 : Int32) (a2 : Nat) (h0 : 0 ≤ a0 ∧ a0 ≤ 8) (h1 : 0 ≤ a1 ∧ a1 ≤ a0) (h2 : (a0.toInt - a1.toInt).toNat = a2) (h3 : ¬ a0 ≤ a1) : 0 ≤ a1 ∧ a1 ≤ 7 := by
  first | rfl | assumption | decide | exact Or.inl rfl | (first | omega | (have hr0 := Int32.toInt_lt a0; have hs0 := Int32.le_toInt a0; have hr1 := Int32.toInt_lt a1; have hs1 := Int32.le_toInt a1; simp only [Int64.toInt_add, Int64.toInt_sub, Int32.toInt_add, Int32.toInt_sub, Int32.toInt_mul, Int64.le_iff_toInt_le, Int64.lt_iff_toInt_lt, Int32.le_iff_toInt_le, Int32.lt_iff_toInt_lt, ← Int32.toInt_inj, ← Int64.toInt_inj, Int32.toInt_toInt64, kc_0, kc_7, kc_8] at *; (first | omega | ((try simp (disch := omega) only [k_bm64] at *); (try simp (disch := omega) only [k_bm] at *); (try simp (disch := omega) only [k_bm] at *); omega) | (simp only [Int.bmod] at *; omega))))
theorem lf_g_farthestNow_2 (a0 : Int32) (a1 : Int32) (a2 : Nat) (h0 : 0 ≤ a0 ∧ a0 ≤ 8) (h1 : 0 ≤ a1 ∧ a1 ≤ a0) (h2 : (a0.toInt - a1.toInt).toNat = a2) (h3 : ¬ a0 ≤ a1) : 0 ≤ (a1 + 1) ∧ (a1 + 1) ≤ a0 := by
  first | rfl | assumption | decide | exact Or.inl rfl | (first | omega | (have hr0 := Int32.toInt_lt a0; have hs0 := Int32.le_toInt a0; have hr1 := Int32.toInt_lt a1; have hs1 := Int32.le_toInt a1; simp only [Int64.toInt_add, Int64.toInt_sub, Int32.toInt_add, Int32.toInt_sub, Int32.toInt_mul, Int64.le_iff_toInt_le, Int64.lt_iff_toInt_lt, Int32.le_iff_toInt_le, Int32.lt_iff_toInt_lt, ← Int32.toInt_inj, ← Int64.toInt_inj, Int32.toInt_toInt64, kc_0, kc_1, kc_8] at *; (first | omega | ((try simp (disch := omega) only [k_bm64] at *); (try simp (disch := omega) only [k_bm] at *); (try simp (disch := omega) only [k_bm] at *); omega) | (simp only [Int.bmod] at *; omega))))
theorem lf_g_farthestNow_3 (a0 : Int32) (a1 : Int32) (a2 : Nat) (h0 : 0 ≤ a0 ∧ a0 ≤ 8) (h1 : 0 ≤ a1 ∧ a1 ≤ a0) (h2 : (a0.toInt - a1.toInt).toNat = a2) (h3 : ¬ a0 ≤ a1) : (a0.toInt - (a1 + 1).toInt).toNat < a2 := by
  first | rfl | assumption | decide | exact Or.inl rfl | (first | omega | (have hr0 := Int32.toInt_lt a0; have hs0 := Int32.le_toInt a0; have hr1 := Int32.toInt_lt a1; have hs1 := Int32.le_toInt a1; simp only [Int64.toInt_add, Int64.toInt_sub, Int32.toInt_add, Int32.toInt_sub, Int32.toInt_mul, Int64.le_iff_toInt_le, Int64.lt_iff_toInt_lt, Int32.le_iff_toInt_le, Int32.lt_iff_toInt_lt, ← Int32.toInt_inj, ← Int64.toInt_inj, Int32.toInt_toInt64, kc_0, kc_1, kc_8] at *; (first | omega | ((try simp (disch := omega) only [k_bm64] at *); (try simp (disch := omega) only [k_bm] at *); (try simp (disch := omega) only [k_bm] at *); omega) | (simp only [Int.bmod] at *; omega))))
set_option maxHeartbeats 4000000 in
set_option maxRecDepth 100000 in
theorem g_farthestNow (l : Launch) (dC : Nat → ClassId) (dI : Nat → Nat → Nat) (cI cJ cQ : ClassId) (sz : Nat) (hm : Nat) (vFo : Nat) (vSi : Nat) (vIt : Nat) (vMo : Nat) (la : Int32) (vBy : Nat) (vTy : Nat) (mi : Int32) (vMi : Nat) (pn : Int32) (vPs : Nat) (gn : Int32) (vGs : Nat) (fn : Int32) (vFt : Nat) (le : Int32) (vTo : Nat) (kn : Int32) (fe : Int32) (en : Int32) (ca : Int32) (an : Int32) (co : Int32) (vPr : Nat) (vSt : Nat) (vFn : Nat) (sn : Int32) (vSg : Nat) (vAl : Nat) (dr : Int32) (qMi : Nat → Int32) (qPs : Nat → Int32) (qGs : Nat → Int32) (qTo : Nat → Int32) (qPr : Nat → Int32) (qSt : Nat → Int32) (qFn : Nat → Int32) (qFt : Nat → Int32) (hh0 : 0 ≤ mi ∧ mi ≤ 24) (hh1 : 0 ≤ pn ∧ pn ≤ 8) (hh2 : 0 ≤ gn ∧ gn ≤ 8) (hh3 : k_bd 2 0 7 qPr) (hh4 : 0 ≤ fe ∧ fe ≤ 24) (hh5 : en = 0 ∨ kn = 0 ∨ fe ≤ 23) (hh6 : 0 ≤ kn ∧ kn ≤ 24) (hh7 : 0 ≤ fn ∧ fn ≤ 8) : Met l yX12_farthestNow (kW yX12_farthestNow cX12_farthestNow 6 (some .int)) { frames := 4, cells := 0, slots := 0, locals := 99 } (kPre dC dI cI cJ cQ sz [.ref hm] [(kX12 hm vFo vSi vIt vMo la vBy vTy mi vMi pn vPs gn vGs fn vFt le vTo kn fe en ca an co vPr vSt vFn sn vSg vAl dr), (kAI vMi cI 24 qMi), (kAI vPs cI 32 qPs), (kAI vGs cI 16 qGs), (kAI vTo cI 96 qTo), (kAI vPr cI 2 qPr), (kAI vSt cI 2 qSt), (kAI vFn cI 2 qFn), (kAI vFt cI 32 qFt)]) (va_Qi (fun (r : Int32) (u : kS) => (k_bd 2 0 7 (u.2.1 1)) ∧ (0 ≤ (u.1 1) ∧ (u.1 1) ≤ 24) ∧ ((u.1 2) = 0 ∨ (u.1 0) = 0 ∨ (u.1 1) ≤ 23) ∧ (0 ≤ (u.1 0) ∧ (u.1 0) ≤ 24)) (fun (u : kS) t₀ => kB dC dI cI cJ cQ (va_A [(kX12 hm vFo vSi vIt vMo la vBy vTy mi vMi pn vPs gn vGs fn vFt le vTo kn fe en ca an co vPr vSt vFn sn vSg vAl dr), (kAI vMi cI 24 qMi), (kAI vPs cI 32 qPs), (kAI vGs cI 16 qGs), (kAI vTo cI 96 qTo), (kAI vPr cI 2 qPr), (kAI vSt cI 2 qSt), (kAI vFn cI 2 qFn), (kAI vFt cI 32 qFt)] sz) [(kX12 hm vFo vSi vIt vMo la vBy vTy mi vMi pn vPs gn vGs fn vFt le vTo (u.1 0) (u.1 1) (u.1 2) ca (u.1 3) (u.1 4) vPr vSt vFn sn vSg vAl dr), (kAI vMi cI 24 qMi), (kAI vPs cI 32 qPs), (kAI vGs cI 16 qGs), (kAI vTo cI 96 (u.2.1 0)), (kAI vPr cI 2 (u.2.1 1)), (kAI vSt cI 2 (u.2.1 2)), (kAI vFn cI 2 (u.2.1 3)), (kAI vFt cI 32 qFt)] t₀) (va_A [(kX12 hm vFo vSi vIt vMo la vBy vTy mi vMi pn vPs gn vGs fn vFt le vTo kn fe en ca an co vPr vSt vFn sn vSg vAl dr), (kAI vMi cI 24 qMi), (kAI vPs cI 32 qPs), (kAI vGs cI 16 qGs), (kAI vTo cI 96 qTo), (kAI vPr cI 2 qPr), (kAI vSt cI 2 qSt), (kAI vFn cI 2 qFn), (kAI vFt cI 32 qFt)] sz)) 0 0 (va_A [(kX12 hm vFo vSi vIt vMo la vBy vTy mi vMi pn vPs gn vGs fn vFt le vTo kn fe en ca an co vPr vSt vFn sn vSg vAl dr), (kAI vMi cI 24 qMi), (kAI vPs cI 32 qPs), (kAI vGs cI 16 qGs), (kAI vTo cI 96 qTo), (kAI vPr cI 2 qPr), (kAI vSt cI 2 qSt), (kAI vFn cI 2 qFn), (kAI vFt cI 32 qFt)] sz) := by
  refine Met.ofW (cc := cX12_farthestNow) (maxL := 6) (ret := (some .int)) (by decide) rfl ?_
  intro p₀ e₀ s₀ m₀ args below meth c₀ s₁ B hml hv₀
  obtain ⟨rfl, hsz, hP, hK, hD0, hN⟩ := hv₀
  have hx₀ := B.exec
  have hb := B.bytes
  have hr := B.returns
  have hts := atoms_spec (ws := (kW yX12_farthestNow cX12_farthestNow 6 (some .int))) B.pre
  have hts := fun w h => hts w (List.mem_cons_of_mem _ h)
  have hown : s₀.vm.findClass RX12 = some m₀.cls := findClass_of_methodNamed B.named
  have hlocks := B.notSynchronized
  subst hsz
  have hD := hD0.self (sz := s₀.heap.size)
  generalize hAe : va_A [(kX12 hm vFo vSi vIt vMo la vBy vTy mi vMi pn vPs gn vGs fn vFt le vTo kn fe en ca an co vPr vSt vFn sn vSg vAl dr), (kAI vMi cI 24 qMi), (kAI vPs cI 32 qPs), (kAI vGs cI 16 qGs), (kAI vTo cI 96 qTo), (kAI vPr cI 2 qPr), (kAI vSt cI 2 qSt), (kAI vFn cI 2 qFn), (kAI vFt cI 32 qFt)] s₀.heap.size = A at hD ⊢
  have hA : ∀ q : Nat, s₀.heap.size ≤ q → A q := fun q h => by rw [← hAe]; exact Or.inr h
  have hS : va_S A s₀.heap s₀.heap [] := va_S.rf
  have hP : va_P (dC, dI) vwCl [(kX12 hm vFo vSi vIt vMo la vBy vTy mi vMi pn vPs gn vGs fn vFt le vTo kn fe en ca an co vPr vSt vFn sn vSg vAl dr), (kAI vMi cI 24 qMi), (kAI vPs cI 32 qPs), (kAI vGs cI 16 qGs), (kAI vTo cI 96 qTo), (kAI vPr cI 2 qPr), (kAI vSt cI 2 qSt), (kAI vFn cI 2 qFn), (kAI vFt cI 32 qFt)] s₀.heap := hP
  have hl := lv_entry ([.ref hm]) (n := 6) (Nat.le_of_ble_eq_true rfl)
  rw [lg_entry_eq]
  generalize (lg_sl ([.ref hm]) ++ List.replicate (6 - (lg_sl ([.ref hm])).length) Slot.unset).toArray = ls at hl ⊢
  have hl : lv_has ls 6 [(0, .ref hm)] := hl
  obtain ⟨H, hH⟩ : ∃ z : Heap, z = s₀.heap := ⟨_, rfl⟩
  rw [← hH] at hP
  have hS : va_S A s₀.heap H [] := by rw [hH]; exact hS
  refine k_heap hH ?_
  have hD : va_D A [(kX12 hm vFo vSi vIt vMo la vBy vTy mi vMi pn vPs gn vGs fn vFt le vTo kn fe en ca an co vPr vSt vFn sn vSg vAl dr), (kAI vMi cI 24 qMi), (kAI vPs cI 32 qPs), (kAI vGs cI 16 qGs), (kAI vTo cI 96 qTo), (kAI vPr cI 2 qPr), (kAI vSt cI 2 qSt), (kAI vFn cI 2 qFn), (kAI vFt cI 32 qFt)] := hD
  obtain ⟨locs, hlo⟩ : ∃ z : List Loc, z = [] := ⟨_, rfl⟩
  rw [← hlo] at hS ⊢
  clear hlo hH hAe hD0
  refine lv_iconst (v := (-1)) hx₀ hb dX12_farthestNow_0 (by decide +kernel) ?_
  refine lv_istore_n (lv' := [(1, .int (-1)), (0, .ref hm)]) hx₀ hb dX12_farthestNow_1 rfl hl (by decide) rfl (fun ls hl => ?_)
  refine lv_iconst (v := 0) hx₀ hb dX12_farthestNow_2 (by decide +kernel) ?_
  refine lv_istore_n (lv' := [(2, .int 0), (1, .int (-1)), (0, .ref hm)]) hx₀ hb dX12_farthestNow_3 rfl hl (by decide) rfl (fun ls hl => ?_)
  refine lv_iconst (v := 0) hx₀ hb dX12_farthestNow_4 (by decide +kernel) ?_
  refine lv_istore_n (lv' := [(3, .int 0), (2, .int 0), (1, .int (-1)), (0, .ref hm)]) hx₀ hb dX12_farthestNow_5 rfl hl (by decide) rfl (fun ls hl => ?_)
  refine (?keyz1 : ∀ (jz1 : Nat) (bez1 : Int32) (moz1 : Int32) (fz1 : Int32) (knz1 : Int32) (fez1 : Int32) (enz1 : Int32) (anz1 : Int32) (coz1 : Int32) (qtz1 : Nat → Int32) (qpz1 : Nat → Int32) (qsz1 : Nat → Int32) (qfz1 : Nat → Int32) (H : Heap) (locs : List Loc) (ls : Array Slot), (0 ≤ fz1 ∧ fz1 ≤ fn) → (k_bd 2 0 7 qpz1) → (0 ≤ fez1 ∧ fez1 ≤ 24) → (enz1 = 0 ∨ knz1 = 0 ∨ fez1 ≤ 23) → (0 ≤ knz1 ∧ knz1 ≤ 24) → ((fn.toInt - fz1.toInt).toNat = jz1) → va_P (dC, dI) vwCl [(kX12 hm vFo vSi vIt vMo la vBy vTy mi vMi pn vPs gn vGs fn vFt le vTo knz1 fez1 enz1 ca anz1 coz1 vPr vSt vFn sn vSg vAl dr), (kAI vMi cI 24 qMi), (kAI vPs cI 32 qPs), (kAI vGs cI 16 qGs), (kAI vTo cI 96 qtz1), (kAI vPr cI 2 qpz1), (kAI vSt cI 2 qsz1), (kAI vFn cI 2 qfz1), (kAI vFt cI 32 qFt)] H → va_D A [(kX12 hm vFo vSi vIt vMo la vBy vTy mi vMi pn vPs gn vGs fn vFt le vTo knz1 fez1 enz1 ca anz1 coz1 vPr vSt vFn sn vSg vAl dr), (kAI vMi cI 24 qMi), (kAI vPs cI 32 qPs), (kAI vGs cI 16 qGs), (kAI vTo cI 96 qtz1), (kAI vPr cI 2 qpz1), (kAI vSt cI 2 qsz1), (kAI vFn cI 2 qfz1), (kAI vFt cI 32 qFt)] → va_S A s₀.heap H locs → lv_has ls 6 [(3, .int fz1), (2, .int moz1), (1, .int bez1), (0, .ref hm)] → W p₀ l e₀ _ s₀ m₀ _ below meth c₀ H locs _ _ _ (F0 m₀ 6 ls [])) _ (-1 : Int32) (0 : Int32) (0 : Int32) kn fe en an co _ _ _ _ H locs ls (show 0 ≤ (0 : Int32) ∧ (0 : Int32) ≤ fn from ⟨(by decide), hh7.1⟩) (hh3) (hh4) (hh5) (hh6) rfl hP hD hS hl
  clear hP hD hS hl
  intro jz1
  induction jz1 using Nat.strongRecOn with
  | ind jz1 ihz1 =>
    intro bez1 moz1 fz1 knz1 fez1 enz1 anz1 coz1 qtz1 qpz1 qsz1 qfz1 H locs ls hiz1_0 hiz1_1 hiz1_2 hiz1_3 hiz1_4 hjz1 hP hD hS hl
    refine lv_iload_n hx₀ hb dX12_farthestNow_6 rfl (lv_at hl 0 rfl) ?_
    refine lv_aload_n hx₀ hb dX12_farthestNow_7 rfl (lv_at hl 3 rfl) ?_
    refine va_get (D := (dC, dI)) (ci := 11) (v := .int fn) (C := RX12) (T := TX12) (N := 30) hx₀ hb hts inlX12 hown hK hP 0 rfl rfl 13 (by decide) (hts (.fieldLink RX12 159 "BittenStickModel" "flights" "I") wd_364) (fun _ h9 => h9) rfl dX12_farthestNow_8 ?_
    refine lv_icmp_ge (tgt := 87) hx₀ hb dX12_farthestNow_11 (by decide) (fun c_2 => ?_) (fun c_2 => ?_)
    · refine lv_iload_n hx₀ hb dX12_farthestNow_87 rfl (lv_at hl 2 rfl) ?_
      obtain ⟨hP9, hD9⟩ := k_c2 (wc := [(kX12 hm vFo vSi vIt vMo la vBy vTy mi vMi pn vPs gn vGs fn vFt le vTo knz1 fez1 enz1 ca anz1 coz1 vPr vSt vFn sn vSg vAl dr), (kAI vMi cI 24 qMi), (kAI vPs cI 32 qPs), (kAI vGs cI 16 qGs), (kAI vTo cI 96 qtz1), (kAI vPr cI 2 qpz1), (kAI vSt cI 2 qsz1), (kAI vFn cI 2 qfz1), (kAI vFt cI 32 qFt)]) hP hD [0, 1, 2, 3, 4, 5, 6, 7, 8] (by decide +kernel) rfl
      exact W.iret (v := bez1) hx₀ hb hr (fun t₀ ht hW => ⟨⟨bez1, (k_fn [knz1, fez1, enz1, anz1, coz1], k_fa [qtz1, qpz1, qsz1, qfz1], k_fl [], k_fL [], k_fp []), rfl, ⟨hiz1_1, hiz1_2, hiz1_3, hiz1_4⟩, by rw [ht]; exact hP9, va_K.moved hW.alike hK, hD9⟩, hS.F ht⟩) hS.2.2 dX12_farthestNow_88
    · refine lv_aload_n hx₀ hb dX12_farthestNow_14 rfl (lv_at hl 3 rfl) ?_
      refine lv_iload_n hx₀ hb dX12_farthestNow_15 rfl (lv_at hl 0 rfl) ?_
      obtain ⟨hPc, hDc, hFc, hC⟩ := k_cw (wc := [(kX12 hm vFo vSi vIt vMo la vBy vTy mi vMi pn vPs gn vGs fn vFt le vTo knz1 fez1 enz1 ca anz1 coz1 vPr vSt vFn sn vSg vAl dr), (kAI vMi cI 24 qMi), (kAI vPs cI 32 qPs), (kAI vGs cI 16 qGs), (kAI vTo cI 96 qtz1), (kAI vPr cI 2 qpz1), (kAI vSt cI 2 qsz1), (kAI vFn cI 2 qfz1), (kAI vFt cI 32 qFt)]) hP hD hS hA [0, 1, 2, 3, 4, 5, 6, 7, 8] (by decide +kernel) rfl
      refine va_callv (va_runV (As := [.int fz1]) (rest := []) ⟨hx₀, hb, hml, hown, hts⟩ (g_fliesTold l dC dI cI cJ cQ H.size hm fz1 vFo vSi vIt vMo la vBy vTy mi vMi pn vPs gn vGs fn vFt le vTo knz1 fez1 enz1 ca anz1 coz1 vPr vSt vFn sn vSg vAl dr qMi qPs qGs qtz1 qpz1 qsz1 qfz1 qFt (hh0) (hh1) (hh2) (hiz1_1) (lf_g_farthestNow_1 fn fz1 jz1 hh7 hiz1_0 hjz1 c_2)) (cwV 1 hts (kGV wd_536 wd_533 wd_534 wd_535 wd_5) rfl rfl rfl (by decide +kernel) ⟨Nat.le_of_ble_eq_true rfl, Nat.le_of_ble_eq_true rfl⟩) (k_preV11 (q0 := 0) hK hPc hDc hN rfl) rfl rfl hl.1 rfl (lv_room (Nat.le_of_ble_eq_true rfl)) dX12_farthestNow_16 ⟨by decide +kernel, by decide +kernel⟩) hS (fun q _ h => hFc q h) hFc (fun u₀ t₀ H1 locs ht hvm hw hB hz1 hk1 hS => ?_)
      obtain ⟨g_4, ga_5, gl_6, gb_7, gp_8⟩ := u₀
      obtain ⟨hP1, hK1, hD1⟩ := hB
      rw [ht] at hP1
      have hJ := k_jn (wr := []) (wt := [(kX12 hm vFo vSi vIt vMo la vBy vTy mi vMi pn vPs gn vGs fn vFt le vTo (g_4 0) (g_4 1) (g_4 2) ca (g_4 3) (g_4 4) vPr vSt vFn sn vSg vAl dr), (kAI vMi cI 24 qMi), (kAI vPs cI 32 qPs), (kAI vGs cI 16 qGs), (kAI vTo cI 96 (ga_5 0)), (kAI vPr cI 2 (ga_5 1)), (kAI vSt cI 2 (ga_5 2)), (kAI vFn cI 2 (ga_5 3)), (kAI vFt cI 32 qFt)]) hP hD hC [] rfl (by decide +kernel) (by decide +kernel) hk1 hFc hP1 hD1 rfl
      clear hP hD hPc hDc hFc hC hP1 hD1 hK1 hz1 hk1 hvm ht
      obtain ⟨hP, hD⟩ := hJ
      generalize H1 = H at hP hS ⊢
      try dsimp only at hw
      obtain ⟨c_9, c_10, c_11, c_12⟩ := hw
      refine lv_iconst (v := 2) hx₀ hb dX12_farthestNow_19 (by decide +kernel) ?_
      refine lv_aload_n hx₀ hb dX12_farthestNow_20 rfl (lv_at hl 3 rfl) ?_
      refine va_get (D := (dC, dI)) (ci := 11) (v := .int (g_4 1)) (C := RX12) (T := TX12) (N := 30) hx₀ hb hts inlX12 hown hK hP 0 rfl rfl 18 (by decide) (hts (.fieldLink RX12 193 "BittenStickModel" "fell" "I") wd_542) (fun _ h9 => h9) rfl dX12_farthestNow_21 ?_
      refine lv_imul hx₀ hb dX12_farthestNow_24 ?_
      refine lv_aload_n hx₀ hb dX12_farthestNow_25 rfl (lv_at hl 3 rfl) ?_
      refine va_get (D := (dC, dI)) (ci := 11) (v := .int (g_4 2)) (C := RX12) (T := TX12) (N := 30) hx₀ hb hts inlX12 hown hK hP 0 rfl rfl 19 (by decide) (hts (.fieldLink RX12 196 "BittenStickModel" "end" "I") wd_543) (fun _ h9 => h9) rfl dX12_farthestNow_26 ?_
      refine lv_if_ne (tgt := 36) hx₀ hb dX12_farthestNow_29 (by decide) (fun c_13 => ?_) (fun c_13 => ?_)
      · refine lv_iconst (v := 0) hx₀ hb dX12_farthestNow_36 (by decide +kernel) ?_
        refine lv_iadd hx₀ hb dX12_farthestNow_37 ?_
        refine lv_istore (lv' := [(4, .int ((2 * (g_4 1)) + 0)), (3, .int fz1), (2, .int moz1), (1, .int bez1), (0, .ref hm)]) hx₀ hb dX12_farthestNow_38 hl (by decide) rfl (fun ls hl => ?_)
        refine lv_iload_n hx₀ hb dX12_farthestNow_40 rfl (lv_at hl 3 rfl) ?_
        refine lv_iconst (v := (-1)) hx₀ hb dX12_farthestNow_41 (by decide +kernel) ?_
        refine lv_icmp_eq (tgt := 51) hx₀ hb dX12_farthestNow_42 (by decide) (fun c_14 => ?_) (fun c_14 => ?_)
        · refine lv_iconst (v := 1) hx₀ hb dX12_farthestNow_51 (by decide +kernel) ?_
          refine lv_goto (tgt := 56) hx₀ hb dX12_farthestNow_52 (by decide) ?_
          refine lv_istore (lv' := [(5, .int 1), (4, .int ((2 * (g_4 1)) + 0)), (3, .int fz1), (2, .int moz1), (1, .int bez1), (0, .ref hm)]) hx₀ hb dX12_farthestNow_56 hl (by decide) rfl (fun ls hl => ?_)
          refine lv_iload hx₀ hb dX12_farthestNow_58 (lv_at hl 0 rfl) ?_
          refine lv_if_eq (tgt := 67) hx₀ hb dX12_farthestNow_60 (by decide) (fun c9 => absurd c9 (by decide +kernel)) (fun _ => ?_)
          refine lv_iload_n hx₀ hb dX12_farthestNow_63 rfl (lv_at hl 2 rfl) ?_
          refine lv_goto (tgt := 68) hx₀ hb dX12_farthestNow_64 (by decide) ?_
          refine lv_istore_n (lv' := [(1, .int fz1), (5, .int 1), (4, .int ((2 * (g_4 1)) + 0)), (3, .int fz1), (2, .int moz1), (0, .ref hm)]) hx₀ hb dX12_farthestNow_68 rfl hl (by decide) rfl (fun ls hl => ?_)
          refine lv_iload hx₀ hb dX12_farthestNow_69 (lv_at hl 1 rfl) ?_
          refine lv_if_eq (tgt := 79) hx₀ hb dX12_farthestNow_71 (by decide) (fun c9 => absurd c9 (by decide +kernel)) (fun _ => ?_)
          refine lv_iload hx₀ hb dX12_farthestNow_74 (lv_at hl 2 rfl) ?_
          refine lv_goto (tgt := 80) hx₀ hb dX12_farthestNow_76 (by decide) ?_
          refine lv_istore_n (lv' := [(2, .int ((2 * (g_4 1)) + 0)), (1, .int fz1), (5, .int 1), (4, .int ((2 * (g_4 1)) + 0)), (3, .int fz1), (0, .ref hm)]) hx₀ hb dX12_farthestNow_80 rfl hl (by decide) rfl (fun ls hl => ?_)
          refine lv_iinc (v := fz1 + 1) (lv' := [(3, .int (fz1 + 1)), (2, .int ((2 * (g_4 1)) + 0)), (1, .int fz1), (5, .int 1), (4, .int ((2 * (g_4 1)) + 0)), (0, .ref hm)]) hx₀ hb dX12_farthestNow_81 hl (k := 4) rfl rfl (by decide) rfl (fun ls hl => ?_)
          refine lv_goto (tgt := 6) hx₀ hb dX12_farthestNow_84 (by decide) ?_
          exact ihz1 _ (lf_g_farthestNow_3 fn fz1 jz1 hh7 hiz1_0 hjz1 c_2) fz1 ((2 * (g_4 1)) + 0) (fz1 + 1) (g_4 0) (g_4 1) (g_4 2) (g_4 3) (g_4 4) (ga_5 0) (ga_5 1) (ga_5 2) (ga_5 3) _ _ _ (lf_g_farthestNow_2 fn fz1 jz1 hh7 hiz1_0 hjz1 c_2) (c_9) (c_10) (c_11) (c_12) rfl (hP.sub [0, 1, 2, 3, 4, 5, 6, 7, 8] rfl) (hD.sub [0, 1, 2, 3, 4, 5, 6, 7, 8] (by decide +kernel) rfl) hS (lv_sub hl [0, 1, 2, 5] rfl)
        · refine lv_iload hx₀ hb dX12_farthestNow_45 (lv_at hl 0 rfl) ?_
          refine lv_iload_n hx₀ hb dX12_farthestNow_47 rfl (lv_at hl 2 rfl) ?_
          refine lv_icmp_le (tgt := 55) hx₀ hb dX12_farthestNow_48 (by decide) (fun c_15 => ?_) (fun c_15 => ?_)
          · refine lv_iconst (v := 0) hx₀ hb dX12_farthestNow_55 (by decide +kernel) ?_
            refine lv_istore (lv' := [(5, .int 0), (4, .int ((2 * (g_4 1)) + 0)), (3, .int fz1), (2, .int moz1), (1, .int bez1), (0, .ref hm)]) hx₀ hb dX12_farthestNow_56 hl (by decide) rfl (fun ls hl => ?_)
            refine lv_iload hx₀ hb dX12_farthestNow_58 (lv_at hl 0 rfl) ?_
            refine lv_if_eq (tgt := 67) hx₀ hb dX12_farthestNow_60 (by decide) (fun _ => ?_) (fun c9 => absurd (by decide +kernel) c9)
            refine lv_iload_n hx₀ hb dX12_farthestNow_67 rfl (lv_at hl 4 rfl) ?_
            refine lv_istore_n (lv' := [(1, .int bez1), (5, .int 0), (4, .int ((2 * (g_4 1)) + 0)), (3, .int fz1), (2, .int moz1), (0, .ref hm)]) hx₀ hb dX12_farthestNow_68 rfl hl (by decide) rfl (fun ls hl => ?_)
            refine lv_iload hx₀ hb dX12_farthestNow_69 (lv_at hl 1 rfl) ?_
            refine lv_if_eq (tgt := 79) hx₀ hb dX12_farthestNow_71 (by decide) (fun _ => ?_) (fun c9 => absurd (by decide +kernel) c9)
            refine lv_iload_n hx₀ hb dX12_farthestNow_79 rfl (lv_at hl 4 rfl) ?_
            refine lv_istore_n (lv' := [(2, .int moz1), (1, .int bez1), (5, .int 0), (4, .int ((2 * (g_4 1)) + 0)), (3, .int fz1), (0, .ref hm)]) hx₀ hb dX12_farthestNow_80 rfl hl (by decide) rfl (fun ls hl => ?_)
            refine lv_iinc (v := fz1 + 1) (lv' := [(3, .int (fz1 + 1)), (2, .int moz1), (1, .int bez1), (5, .int 0), (4, .int ((2 * (g_4 1)) + 0)), (0, .ref hm)]) hx₀ hb dX12_farthestNow_81 hl (k := 4) rfl rfl (by decide) rfl (fun ls hl => ?_)
            refine lv_goto (tgt := 6) hx₀ hb dX12_farthestNow_84 (by decide) ?_
            exact ihz1 _ (lf_g_farthestNow_3 fn fz1 jz1 hh7 hiz1_0 hjz1 c_2) bez1 moz1 (fz1 + 1) (g_4 0) (g_4 1) (g_4 2) (g_4 3) (g_4 4) (ga_5 0) (ga_5 1) (ga_5 2) (ga_5 3) _ _ _ (lf_g_farthestNow_2 fn fz1 jz1 hh7 hiz1_0 hjz1 c_2) (c_9) (c_10) (c_11) (c_12) rfl (hP.sub [0, 1, 2, 3, 4, 5, 6, 7, 8] rfl) (hD.sub [0, 1, 2, 3, 4, 5, 6, 7, 8] (by decide +kernel) rfl) hS (lv_sub hl [0, 1, 2, 5] rfl)
          · refine lv_iconst (v := 1) hx₀ hb dX12_farthestNow_51 (by decide +kernel) ?_
            refine lv_goto (tgt := 56) hx₀ hb dX12_farthestNow_52 (by decide) ?_
            refine lv_istore (lv' := [(5, .int 1), (4, .int ((2 * (g_4 1)) + 0)), (3, .int fz1), (2, .int moz1), (1, .int bez1), (0, .ref hm)]) hx₀ hb dX12_farthestNow_56 hl (by decide) rfl (fun ls hl => ?_)
            refine lv_iload hx₀ hb dX12_farthestNow_58 (lv_at hl 0 rfl) ?_
            refine lv_if_eq (tgt := 67) hx₀ hb dX12_farthestNow_60 (by decide) (fun c9 => absurd c9 (by decide +kernel)) (fun _ => ?_)
            refine lv_iload_n hx₀ hb dX12_farthestNow_63 rfl (lv_at hl 2 rfl) ?_
            refine lv_goto (tgt := 68) hx₀ hb dX12_farthestNow_64 (by decide) ?_
            refine lv_istore_n (lv' := [(1, .int fz1), (5, .int 1), (4, .int ((2 * (g_4 1)) + 0)), (3, .int fz1), (2, .int moz1), (0, .ref hm)]) hx₀ hb dX12_farthestNow_68 rfl hl (by decide) rfl (fun ls hl => ?_)
            refine lv_iload hx₀ hb dX12_farthestNow_69 (lv_at hl 1 rfl) ?_
            refine lv_if_eq (tgt := 79) hx₀ hb dX12_farthestNow_71 (by decide) (fun c9 => absurd c9 (by decide +kernel)) (fun _ => ?_)
            refine lv_iload hx₀ hb dX12_farthestNow_74 (lv_at hl 2 rfl) ?_
            refine lv_goto (tgt := 80) hx₀ hb dX12_farthestNow_76 (by decide) ?_
            refine lv_istore_n (lv' := [(2, .int ((2 * (g_4 1)) + 0)), (1, .int fz1), (5, .int 1), (4, .int ((2 * (g_4 1)) + 0)), (3, .int fz1), (0, .ref hm)]) hx₀ hb dX12_farthestNow_80 rfl hl (by decide) rfl (fun ls hl => ?_)
            refine lv_iinc (v := fz1 + 1) (lv' := [(3, .int (fz1 + 1)), (2, .int ((2 * (g_4 1)) + 0)), (1, .int fz1), (5, .int 1), (4, .int ((2 * (g_4 1)) + 0)), (0, .ref hm)]) hx₀ hb dX12_farthestNow_81 hl (k := 4) rfl rfl (by decide) rfl (fun ls hl => ?_)
            refine lv_goto (tgt := 6) hx₀ hb dX12_farthestNow_84 (by decide) ?_
            exact ihz1 _ (lf_g_farthestNow_3 fn fz1 jz1 hh7 hiz1_0 hjz1 c_2) fz1 ((2 * (g_4 1)) + 0) (fz1 + 1) (g_4 0) (g_4 1) (g_4 2) (g_4 3) (g_4 4) (ga_5 0) (ga_5 1) (ga_5 2) (ga_5 3) _ _ _ (lf_g_farthestNow_2 fn fz1 jz1 hh7 hiz1_0 hjz1 c_2) (c_9) (c_10) (c_11) (c_12) rfl (hP.sub [0, 1, 2, 3, 4, 5, 6, 7, 8] rfl) (hD.sub [0, 1, 2, 3, 4, 5, 6, 7, 8] (by decide +kernel) rfl) hS (lv_sub hl [0, 1, 2, 5] rfl)
      · refine lv_iconst (v := 1) hx₀ hb dX12_farthestNow_32 (by decide +kernel) ?_
        refine lv_goto (tgt := 37) hx₀ hb dX12_farthestNow_33 (by decide) ?_
        refine lv_iadd hx₀ hb dX12_farthestNow_37 ?_
        refine lv_istore (lv' := [(4, .int ((2 * (g_4 1)) + 1)), (3, .int fz1), (2, .int moz1), (1, .int bez1), (0, .ref hm)]) hx₀ hb dX12_farthestNow_38 hl (by decide) rfl (fun ls hl => ?_)
        refine lv_iload_n hx₀ hb dX12_farthestNow_40 rfl (lv_at hl 3 rfl) ?_
        refine lv_iconst (v := (-1)) hx₀ hb dX12_farthestNow_41 (by decide +kernel) ?_
        refine lv_icmp_eq (tgt := 51) hx₀ hb dX12_farthestNow_42 (by decide) (fun c_16 => ?_) (fun c_16 => ?_)
        · refine lv_iconst (v := 1) hx₀ hb dX12_farthestNow_51 (by decide +kernel) ?_
          refine lv_goto (tgt := 56) hx₀ hb dX12_farthestNow_52 (by decide) ?_
          refine lv_istore (lv' := [(5, .int 1), (4, .int ((2 * (g_4 1)) + 1)), (3, .int fz1), (2, .int moz1), (1, .int bez1), (0, .ref hm)]) hx₀ hb dX12_farthestNow_56 hl (by decide) rfl (fun ls hl => ?_)
          refine lv_iload hx₀ hb dX12_farthestNow_58 (lv_at hl 0 rfl) ?_
          refine lv_if_eq (tgt := 67) hx₀ hb dX12_farthestNow_60 (by decide) (fun c9 => absurd c9 (by decide +kernel)) (fun _ => ?_)
          refine lv_iload_n hx₀ hb dX12_farthestNow_63 rfl (lv_at hl 2 rfl) ?_
          refine lv_goto (tgt := 68) hx₀ hb dX12_farthestNow_64 (by decide) ?_
          refine lv_istore_n (lv' := [(1, .int fz1), (5, .int 1), (4, .int ((2 * (g_4 1)) + 1)), (3, .int fz1), (2, .int moz1), (0, .ref hm)]) hx₀ hb dX12_farthestNow_68 rfl hl (by decide) rfl (fun ls hl => ?_)
          refine lv_iload hx₀ hb dX12_farthestNow_69 (lv_at hl 1 rfl) ?_
          refine lv_if_eq (tgt := 79) hx₀ hb dX12_farthestNow_71 (by decide) (fun c9 => absurd c9 (by decide +kernel)) (fun _ => ?_)
          refine lv_iload hx₀ hb dX12_farthestNow_74 (lv_at hl 2 rfl) ?_
          refine lv_goto (tgt := 80) hx₀ hb dX12_farthestNow_76 (by decide) ?_
          refine lv_istore_n (lv' := [(2, .int ((2 * (g_4 1)) + 1)), (1, .int fz1), (5, .int 1), (4, .int ((2 * (g_4 1)) + 1)), (3, .int fz1), (0, .ref hm)]) hx₀ hb dX12_farthestNow_80 rfl hl (by decide) rfl (fun ls hl => ?_)
          refine lv_iinc (v := fz1 + 1) (lv' := [(3, .int (fz1 + 1)), (2, .int ((2 * (g_4 1)) + 1)), (1, .int fz1), (5, .int 1), (4, .int ((2 * (g_4 1)) + 1)), (0, .ref hm)]) hx₀ hb dX12_farthestNow_81 hl (k := 4) rfl rfl (by decide) rfl (fun ls hl => ?_)
          refine lv_goto (tgt := 6) hx₀ hb dX12_farthestNow_84 (by decide) ?_
          exact ihz1 _ (lf_g_farthestNow_3 fn fz1 jz1 hh7 hiz1_0 hjz1 c_2) fz1 ((2 * (g_4 1)) + 1) (fz1 + 1) (g_4 0) (g_4 1) (g_4 2) (g_4 3) (g_4 4) (ga_5 0) (ga_5 1) (ga_5 2) (ga_5 3) _ _ _ (lf_g_farthestNow_2 fn fz1 jz1 hh7 hiz1_0 hjz1 c_2) (c_9) (c_10) (c_11) (c_12) rfl (hP.sub [0, 1, 2, 3, 4, 5, 6, 7, 8] rfl) (hD.sub [0, 1, 2, 3, 4, 5, 6, 7, 8] (by decide +kernel) rfl) hS (lv_sub hl [0, 1, 2, 5] rfl)
        · refine lv_iload hx₀ hb dX12_farthestNow_45 (lv_at hl 0 rfl) ?_
          refine lv_iload_n hx₀ hb dX12_farthestNow_47 rfl (lv_at hl 2 rfl) ?_
          refine lv_icmp_le (tgt := 55) hx₀ hb dX12_farthestNow_48 (by decide) (fun c_17 => ?_) (fun c_17 => ?_)
          · refine lv_iconst (v := 0) hx₀ hb dX12_farthestNow_55 (by decide +kernel) ?_
            refine lv_istore (lv' := [(5, .int 0), (4, .int ((2 * (g_4 1)) + 1)), (3, .int fz1), (2, .int moz1), (1, .int bez1), (0, .ref hm)]) hx₀ hb dX12_farthestNow_56 hl (by decide) rfl (fun ls hl => ?_)
            refine lv_iload hx₀ hb dX12_farthestNow_58 (lv_at hl 0 rfl) ?_
            refine lv_if_eq (tgt := 67) hx₀ hb dX12_farthestNow_60 (by decide) (fun _ => ?_) (fun c9 => absurd (by decide +kernel) c9)
            refine lv_iload_n hx₀ hb dX12_farthestNow_67 rfl (lv_at hl 4 rfl) ?_
            refine lv_istore_n (lv' := [(1, .int bez1), (5, .int 0), (4, .int ((2 * (g_4 1)) + 1)), (3, .int fz1), (2, .int moz1), (0, .ref hm)]) hx₀ hb dX12_farthestNow_68 rfl hl (by decide) rfl (fun ls hl => ?_)
            refine lv_iload hx₀ hb dX12_farthestNow_69 (lv_at hl 1 rfl) ?_
            refine lv_if_eq (tgt := 79) hx₀ hb dX12_farthestNow_71 (by decide) (fun _ => ?_) (fun c9 => absurd (by decide +kernel) c9)
            refine lv_iload_n hx₀ hb dX12_farthestNow_79 rfl (lv_at hl 4 rfl) ?_
            refine lv_istore_n (lv' := [(2, .int moz1), (1, .int bez1), (5, .int 0), (4, .int ((2 * (g_4 1)) + 1)), (3, .int fz1), (0, .ref hm)]) hx₀ hb dX12_farthestNow_80 rfl hl (by decide) rfl (fun ls hl => ?_)
            refine lv_iinc (v := fz1 + 1) (lv' := [(3, .int (fz1 + 1)), (2, .int moz1), (1, .int bez1), (5, .int 0), (4, .int ((2 * (g_4 1)) + 1)), (0, .ref hm)]) hx₀ hb dX12_farthestNow_81 hl (k := 4) rfl rfl (by decide) rfl (fun ls hl => ?_)
            refine lv_goto (tgt := 6) hx₀ hb dX12_farthestNow_84 (by decide) ?_
            exact ihz1 _ (lf_g_farthestNow_3 fn fz1 jz1 hh7 hiz1_0 hjz1 c_2) bez1 moz1 (fz1 + 1) (g_4 0) (g_4 1) (g_4 2) (g_4 3) (g_4 4) (ga_5 0) (ga_5 1) (ga_5 2) (ga_5 3) _ _ _ (lf_g_farthestNow_2 fn fz1 jz1 hh7 hiz1_0 hjz1 c_2) (c_9) (c_10) (c_11) (c_12) rfl (hP.sub [0, 1, 2, 3, 4, 5, 6, 7, 8] rfl) (hD.sub [0, 1, 2, 3, 4, 5, 6, 7, 8] (by decide +kernel) rfl) hS (lv_sub hl [0, 1, 2, 5] rfl)
          · refine lv_iconst (v := 1) hx₀ hb dX12_farthestNow_51 (by decide +kernel) ?_
            refine lv_goto (tgt := 56) hx₀ hb dX12_farthestNow_52 (by decide) ?_
            refine lv_istore (lv' := [(5, .int 1), (4, .int ((2 * (g_4 1)) + 1)), (3, .int fz1), (2, .int moz1), (1, .int bez1), (0, .ref hm)]) hx₀ hb dX12_farthestNow_56 hl (by decide) rfl (fun ls hl => ?_)
            refine lv_iload hx₀ hb dX12_farthestNow_58 (lv_at hl 0 rfl) ?_
            refine lv_if_eq (tgt := 67) hx₀ hb dX12_farthestNow_60 (by decide) (fun c9 => absurd c9 (by decide +kernel)) (fun _ => ?_)
            refine lv_iload_n hx₀ hb dX12_farthestNow_63 rfl (lv_at hl 2 rfl) ?_
            refine lv_goto (tgt := 68) hx₀ hb dX12_farthestNow_64 (by decide) ?_
            refine lv_istore_n (lv' := [(1, .int fz1), (5, .int 1), (4, .int ((2 * (g_4 1)) + 1)), (3, .int fz1), (2, .int moz1), (0, .ref hm)]) hx₀ hb dX12_farthestNow_68 rfl hl (by decide) rfl (fun ls hl => ?_)
            refine lv_iload hx₀ hb dX12_farthestNow_69 (lv_at hl 1 rfl) ?_
            refine lv_if_eq (tgt := 79) hx₀ hb dX12_farthestNow_71 (by decide) (fun c9 => absurd c9 (by decide +kernel)) (fun _ => ?_)
            refine lv_iload hx₀ hb dX12_farthestNow_74 (lv_at hl 2 rfl) ?_
            refine lv_goto (tgt := 80) hx₀ hb dX12_farthestNow_76 (by decide) ?_
            refine lv_istore_n (lv' := [(2, .int ((2 * (g_4 1)) + 1)), (1, .int fz1), (5, .int 1), (4, .int ((2 * (g_4 1)) + 1)), (3, .int fz1), (0, .ref hm)]) hx₀ hb dX12_farthestNow_80 rfl hl (by decide) rfl (fun ls hl => ?_)
            refine lv_iinc (v := fz1 + 1) (lv' := [(3, .int (fz1 + 1)), (2, .int ((2 * (g_4 1)) + 1)), (1, .int fz1), (5, .int 1), (4, .int ((2 * (g_4 1)) + 1)), (0, .ref hm)]) hx₀ hb dX12_farthestNow_81 hl (k := 4) rfl rfl (by decide) rfl (fun ls hl => ?_)
            refine lv_goto (tgt := 6) hx₀ hb dX12_farthestNow_84 (by decide) ?_
            exact ihz1 _ (lf_g_farthestNow_3 fn fz1 jz1 hh7 hiz1_0 hjz1 c_2) fz1 ((2 * (g_4 1)) + 1) (fz1 + 1) (g_4 0) (g_4 1) (g_4 2) (g_4 3) (g_4 4) (ga_5 0) (ga_5 1) (ga_5 2) (ga_5 3) _ _ _ (lf_g_farthestNow_2 fn fz1 jz1 hh7 hiz1_0 hjz1 c_2) (c_9) (c_10) (c_11) (c_12) rfl (hP.sub [0, 1, 2, 3, 4, 5, 6, 7, 8] rfl) (hD.sub [0, 1, 2, 3, 4, 5, 6, 7, 8] (by decide +kernel) rfl) hS (lv_sub hl [0, 1, 2, 5] rfl)
theorem lf_g_climbOf_1 (a0 : Int32) (a1 : Nat) (h0 : 0 ≤ a0 ∧ a0 ≤ 1863) (h1 : (1863 - a0.toInt).toNat = a1) (h2 : ¬ 1863 ≤ a0) : 0 ≤ (a0 + 1) ∧ (a0 + 1) ≤ 1863 := by
  first | rfl | assumption | decide | exact Or.inl rfl | (first | omega | (have hr0 := Int32.toInt_lt a0; have hs0 := Int32.le_toInt a0; simp only [Int64.toInt_add, Int64.toInt_sub, Int32.toInt_add, Int32.toInt_sub, Int32.toInt_mul, Int64.le_iff_toInt_le, Int64.lt_iff_toInt_lt, Int32.le_iff_toInt_le, Int32.lt_iff_toInt_lt, ← Int32.toInt_inj, ← Int64.toInt_inj, Int32.toInt_toInt64, kc_0, kc_1, kc_1863] at *; (first | omega | ((try simp (disch := omega) only [k_bm64] at *); (try simp (disch := omega) only [k_bm] at *); (try simp (disch := omega) only [k_bm] at *); omega) | (simp only [Int.bmod] at *; omega))))
theorem lf_g_climbOf_2 (a0 : Int32) (a1 : Nat) (h0 : 0 ≤ a0 ∧ a0 ≤ 1863) (h1 : (1863 - a0.toInt).toNat = a1) (h2 : ¬ 1863 ≤ a0) : (1863 - (a0 + 1).toInt).toNat < a1 := by
  first | rfl | assumption | decide | exact Or.inl rfl | (first | omega | (have hr0 := Int32.toInt_lt a0; have hs0 := Int32.le_toInt a0; simp only [Int64.toInt_add, Int64.toInt_sub, Int32.toInt_add, Int32.toInt_sub, Int32.toInt_mul, Int64.le_iff_toInt_le, Int64.lt_iff_toInt_lt, Int32.le_iff_toInt_le, Int32.lt_iff_toInt_lt, ← Int32.toInt_inj, ← Int64.toInt_inj, Int32.toInt_toInt64, kc_0, kc_1, kc_1863] at *; (first | omega | ((try simp (disch := omega) only [k_bm64] at *); (try simp (disch := omega) only [k_bm] at *); (try simp (disch := omega) only [k_bm] at *); omega) | (simp only [Int.bmod] at *; omega))))
set_option maxHeartbeats 4000000 in
set_option maxRecDepth 100000 in
theorem g_climbOf (l : Launch) (dC : Nat → ClassId) (dI : Nat → Nat → Nat) (cI cJ cQ : ClassId) (sz : Nat) (hm : Nat) (f1 : Int32) (i1 : Int32) (vFo : Nat) (vSi : Nat) (vIt : Nat) (vMo : Nat) (la : Int32) (vBy : Nat) (vTy : Nat) (mi : Int32) (vMi : Nat) (pn : Int32) (vPs : Nat) (gn : Int32) (vGs : Nat) (fn : Int32) (vFt : Nat) (le : Int32) (vTo : Nat) (kn : Int32) (fe : Int32) (en : Int32) (ca : Int32) (an : Int32) (co : Int32) (vPr : Nat) (vSt : Nat) (vFn : Nat) (sn : Int32) (vSg : Nat) (vAl : Nat) (dr : Int32) (qMi : Nat → Int32) (qPs : Nat → Int32) (qGs : Nat → Int32) (qTo : Nat → Int32) (qPr : Nat → Int32) (qSt : Nat → Int32) (qFn : Nat → Int32) (qFt : Nat → Int32) (hh0 : 0 ≤ mi ∧ mi ≤ 24) (hh1 : 0 ≤ pn ∧ pn ≤ 8) (hh2 : 0 ≤ gn ∧ gn ≤ 8) (hh3 : k_bd 2 0 7 qPr) (hh4 : 0 ≤ fe ∧ fe ≤ 24) (hh5 : en = 0 ∨ kn = 0 ∨ fe ≤ 23) (hh6 : 0 ≤ kn ∧ kn ≤ 24) (hh7 : 0 ≤ f1 ∧ f1 ≤ 7) : Met l yX12_climbOf (kW yX12_climbOf cX12_climbOf 8 (some .int)) { frames := 3, cells := 0, slots := 0, locals := 78 } (kPre dC dI cI cJ cQ sz [.ref hm, .int f1, .int i1] [(kX12 hm vFo vSi vIt vMo la vBy vTy mi vMi pn vPs gn vGs fn vFt le vTo kn fe en ca an co vPr vSt vFn sn vSg vAl dr), (kAI vMi cI 24 qMi), (kAI vPs cI 32 qPs), (kAI vGs cI 16 qGs), (kAI vTo cI 96 qTo), (kAI vPr cI 2 qPr), (kAI vSt cI 2 qSt), (kAI vFn cI 2 qFn), (kAI vFt cI 32 qFt)]) (va_Qi (fun (r : Int32) (u : kS) => (k_bd 2 0 7 (u.2.1 1)) ∧ (0 ≤ (u.1 1) ∧ (u.1 1) ≤ 24) ∧ ((u.1 2) = 0 ∨ (u.1 0) = 0 ∨ (u.1 1) ≤ 23) ∧ (0 ≤ (u.1 0) ∧ (u.1 0) ≤ 24)) (fun (u : kS) t₀ => kB dC dI cI cJ cQ (va_A [(kX12 hm vFo vSi vIt vMo la vBy vTy mi vMi pn vPs gn vGs fn vFt le vTo kn fe en ca an co vPr vSt vFn sn vSg vAl dr), (kAI vMi cI 24 qMi), (kAI vPs cI 32 qPs), (kAI vGs cI 16 qGs), (kAI vTo cI 96 qTo), (kAI vPr cI 2 qPr), (kAI vSt cI 2 qSt), (kAI vFn cI 2 qFn), (kAI vFt cI 32 qFt)] sz) [(kX12 hm vFo vSi vIt vMo la vBy vTy mi vMi pn vPs gn vGs fn vFt le vTo (u.1 0) (u.1 1) (u.1 2) ca (u.1 3) (u.1 4) vPr vSt vFn sn vSg vAl dr), (kAI vMi cI 24 qMi), (kAI vPs cI 32 qPs), (kAI vGs cI 16 qGs), (kAI vTo cI 96 (u.2.1 0)), (kAI vPr cI 2 (u.2.1 1)), (kAI vSt cI 2 (u.2.1 2)), (kAI vFn cI 2 (u.2.1 3)), (kAI vFt cI 32 qFt)] t₀) (va_A [(kX12 hm vFo vSi vIt vMo la vBy vTy mi vMi pn vPs gn vGs fn vFt le vTo kn fe en ca an co vPr vSt vFn sn vSg vAl dr), (kAI vMi cI 24 qMi), (kAI vPs cI 32 qPs), (kAI vGs cI 16 qGs), (kAI vTo cI 96 qTo), (kAI vPr cI 2 qPr), (kAI vSt cI 2 qSt), (kAI vFn cI 2 qFn), (kAI vFt cI 32 qFt)] sz)) 0 0 (va_A [(kX12 hm vFo vSi vIt vMo la vBy vTy mi vMi pn vPs gn vGs fn vFt le vTo kn fe en ca an co vPr vSt vFn sn vSg vAl dr), (kAI vMi cI 24 qMi), (kAI vPs cI 32 qPs), (kAI vGs cI 16 qGs), (kAI vTo cI 96 qTo), (kAI vPr cI 2 qPr), (kAI vSt cI 2 qSt), (kAI vFn cI 2 qFn), (kAI vFt cI 32 qFt)] sz) := by
  refine Met.ofW (cc := cX12_climbOf) (maxL := 8) (ret := (some .int)) (by decide) rfl ?_
  intro p₀ e₀ s₀ m₀ args below meth c₀ s₁ B hml hv₀
  obtain ⟨rfl, hsz, hP, hK, hD0, hN⟩ := hv₀
  have hx₀ := B.exec
  have hb := B.bytes
  have hr := B.returns
  have hts := atoms_spec (ws := (kW yX12_climbOf cX12_climbOf 8 (some .int))) B.pre
  have hts := fun w h => hts w (List.mem_cons_of_mem _ h)
  have hown : s₀.vm.findClass RX12 = some m₀.cls := findClass_of_methodNamed B.named
  have hlocks := B.notSynchronized
  subst hsz
  have hD := hD0.self (sz := s₀.heap.size)
  generalize hAe : va_A [(kX12 hm vFo vSi vIt vMo la vBy vTy mi vMi pn vPs gn vGs fn vFt le vTo kn fe en ca an co vPr vSt vFn sn vSg vAl dr), (kAI vMi cI 24 qMi), (kAI vPs cI 32 qPs), (kAI vGs cI 16 qGs), (kAI vTo cI 96 qTo), (kAI vPr cI 2 qPr), (kAI vSt cI 2 qSt), (kAI vFn cI 2 qFn), (kAI vFt cI 32 qFt)] s₀.heap.size = A at hD ⊢
  have hA : ∀ q : Nat, s₀.heap.size ≤ q → A q := fun q h => by rw [← hAe]; exact Or.inr h
  have hS : va_S A s₀.heap s₀.heap [] := va_S.rf
  have hP : va_P (dC, dI) vwCl [(kX12 hm vFo vSi vIt vMo la vBy vTy mi vMi pn vPs gn vGs fn vFt le vTo kn fe en ca an co vPr vSt vFn sn vSg vAl dr), (kAI vMi cI 24 qMi), (kAI vPs cI 32 qPs), (kAI vGs cI 16 qGs), (kAI vTo cI 96 qTo), (kAI vPr cI 2 qPr), (kAI vSt cI 2 qSt), (kAI vFn cI 2 qFn), (kAI vFt cI 32 qFt)] s₀.heap := hP
  have hl := lv_entry ([.ref hm, .int f1, .int i1]) (n := 8) (Nat.le_of_ble_eq_true rfl)
  rw [lg_entry_eq]
  generalize (lg_sl ([.ref hm, .int f1, .int i1]) ++ List.replicate (8 - (lg_sl ([.ref hm, .int f1, .int i1])).length) Slot.unset).toArray = ls at hl ⊢
  have hl : lv_has ls 8 [(0, .ref hm), (1, .int f1), (2, .int i1)] := hl
  obtain ⟨H, hH⟩ : ∃ z : Heap, z = s₀.heap := ⟨_, rfl⟩
  rw [← hH] at hP
  have hS : va_S A s₀.heap H [] := by rw [hH]; exact hS
  refine k_heap hH ?_
  have hD : va_D A [(kX12 hm vFo vSi vIt vMo la vBy vTy mi vMi pn vPs gn vGs fn vFt le vTo kn fe en ca an co vPr vSt vFn sn vSg vAl dr), (kAI vMi cI 24 qMi), (kAI vPs cI 32 qPs), (kAI vGs cI 16 qGs), (kAI vTo cI 96 qTo), (kAI vPr cI 2 qPr), (kAI vSt cI 2 qSt), (kAI vFn cI 2 qFn), (kAI vFt cI 32 qFt)] := hD
  obtain ⟨locs, hlo⟩ : ∃ z : List Loc, z = [] := ⟨_, rfl⟩
  rw [← hlo] at hS ⊢
  clear hlo hH hAe hD0
  refine lv_iconst (v := (-1)) hx₀ hb dX12_climbOf_0 (by decide +kernel) ?_
  refine lv_istore_n (lv' := [(3, .int (-1)), (0, .ref hm), (1, .int f1), (2, .int i1)]) hx₀ hb dX12_climbOf_1 rfl hl (by decide) rfl (fun ls hl => ?_)
  refine lv_iconst (v := 0) hx₀ hb dX12_climbOf_2 (by decide +kernel) ?_
  refine lv_istore (lv' := [(4, .int 0), (3, .int (-1)), (0, .ref hm), (1, .int f1), (2, .int i1)]) hx₀ hb dX12_climbOf_3 hl (by decide) rfl (fun ls hl => ?_)
  refine lv_iconst (v := 0) hx₀ hb dX12_climbOf_5 (by decide +kernel) ?_
  refine lv_istore (lv' := [(5, .int 0), (4, .int 0), (3, .int (-1)), (0, .ref hm), (1, .int f1), (2, .int i1)]) hx₀ hb dX12_climbOf_6 hl (by decide) rfl (fun ls hl => ?_)
  refine (?keyz1 : ∀ (jz1 : Nat) (faz1 : Int32) (bez1 : Int32) (cdz1 : Int32) (knz1 : Int32) (fez1 : Int32) (enz1 : Int32) (anz1 : Int32) (coz1 : Int32) (qtz1 : Nat → Int32) (qpz1 : Nat → Int32) (qsz1 : Nat → Int32) (qfz1 : Nat → Int32) (H : Heap) (locs : List Loc) (ls : Array Slot), (0 ≤ cdz1 ∧ cdz1 ≤ 1863) → (k_bd 2 0 7 qpz1) → (0 ≤ fez1 ∧ fez1 ≤ 24) → (enz1 = 0 ∨ knz1 = 0 ∨ fez1 ≤ 23) → (0 ≤ knz1 ∧ knz1 ≤ 24) → ((1863 - cdz1.toInt).toNat = jz1) → va_P (dC, dI) vwCl [(kX12 hm vFo vSi vIt vMo la vBy vTy mi vMi pn vPs gn vGs fn vFt le vTo knz1 fez1 enz1 ca anz1 coz1 vPr vSt vFn sn vSg vAl dr), (kAI vMi cI 24 qMi), (kAI vPs cI 32 qPs), (kAI vGs cI 16 qGs), (kAI vTo cI 96 qtz1), (kAI vPr cI 2 qpz1), (kAI vSt cI 2 qsz1), (kAI vFn cI 2 qfz1), (kAI vFt cI 32 qFt)] H → va_D A [(kX12 hm vFo vSi vIt vMo la vBy vTy mi vMi pn vPs gn vGs fn vFt le vTo knz1 fez1 enz1 ca anz1 coz1 vPr vSt vFn sn vSg vAl dr), (kAI vMi cI 24 qMi), (kAI vPs cI 32 qPs), (kAI vGs cI 16 qGs), (kAI vTo cI 96 qtz1), (kAI vPr cI 2 qpz1), (kAI vSt cI 2 qsz1), (kAI vFn cI 2 qfz1), (kAI vFt cI 32 qFt)] → va_S A s₀.heap H locs → lv_has ls 8 [(5, .int cdz1), (4, .int bez1), (3, .int faz1), (0, .ref hm), (1, .int f1), (2, .int i1)] → W p₀ l e₀ _ s₀ m₀ _ below meth c₀ H locs _ _ _ (F0 m₀ 8 ls [])) _ (-1 : Int32) (0 : Int32) (0 : Int32) kn fe en an co _ _ _ _ H locs ls (show 0 ≤ (0 : Int32) ∧ (0 : Int32) ≤ 1863 from ⟨(by decide), (by decide)⟩) (hh3) (hh4) (hh5) (hh6) rfl hP hD hS hl
  clear hP hD hS hl
  intro jz1
  induction jz1 using Nat.strongRecOn with
  | ind jz1 ihz1 =>
    intro faz1 bez1 cdz1 knz1 fez1 enz1 anz1 coz1 qtz1 qpz1 qsz1 qfz1 H locs ls hiz1_0 hiz1_1 hiz1_2 hiz1_3 hiz1_4 hjz1 hP hD hS hl
    refine lv_iload hx₀ hb dX12_climbOf_8 (lv_at hl 0 rfl) ?_
    refine lv_sipush (v := 1863) hx₀ hb dX12_climbOf_10 (by decide +kernel) ?_
    refine lv_icmp_ge (tgt := 121) hx₀ hb dX12_climbOf_13 (by decide) (fun c_2 => ?_) (fun c_2 => ?_)
    · refine lv_iload_n hx₀ hb dX12_climbOf_121 rfl (lv_at hl 5 rfl) ?_
      refine lv_iconst (v := (-1)) hx₀ hb dX12_climbOf_122 (by decide +kernel) ?_
      refine lv_icmp_ne (tgt := 130) hx₀ hb dX12_climbOf_123 (by decide) (fun c_3 => ?_) (fun c_3 => ?_)
      · refine lv_iload_n hx₀ hb dX12_climbOf_130 rfl (lv_at hl 5 rfl) ?_
        refine lv_if_ne (tgt := 145) hx₀ hb dX12_climbOf_131 (by decide) (fun c_4 => ?_) (fun c_4 => ?_)
        · refine lv_iload_n hx₀ hb dX12_climbOf_145 rfl (lv_at hl 5 rfl) ?_
          refine lv_iconst (v := 1) hx₀ hb dX12_climbOf_146 (by decide +kernel) ?_
          refine lv_icmp_ne (tgt := 163) hx₀ hb dX12_climbOf_147 (by decide) (fun c_5 => ?_) (fun c_5 => ?_)
          · refine lv_iload hx₀ hb dX12_climbOf_163 (lv_at hl 1 rfl) ?_
            refine lv_bipush (v := 9) hx₀ hb dX12_climbOf_165 (by decide +kernel) ?_
            refine lv_irem hx₀ hb dX12_climbOf_167 (by decide +kernel) ?_
            refine lv_iconst (v := 1) hx₀ hb dX12_climbOf_168 (by decide +kernel) ?_
            refine lv_iadd hx₀ hb dX12_climbOf_169 ?_
            obtain ⟨hP9, hD9⟩ := k_c2 (wc := [(kX12 hm vFo vSi vIt vMo la vBy vTy mi vMi pn vPs gn vGs fn vFt le vTo knz1 fez1 enz1 ca anz1 coz1 vPr vSt vFn sn vSg vAl dr), (kAI vMi cI 24 qMi), (kAI vPs cI 32 qPs), (kAI vGs cI 16 qGs), (kAI vTo cI 96 qtz1), (kAI vPr cI 2 qpz1), (kAI vSt cI 2 qsz1), (kAI vFn cI 2 qfz1), (kAI vFt cI 32 qFt)]) hP hD [0, 1, 2, 3, 4, 5, 6, 7, 8] (by decide +kernel) rfl
            exact W.iret (v := (bez1 - bez1 / 9 * 9) + 1) hx₀ hb hr (fun t₀ ht hW => ⟨⟨(bez1 - bez1 / 9 * 9) + 1, (k_fn [knz1, fez1, enz1, anz1, coz1], k_fa [qtz1, qpz1, qsz1, qfz1], k_fl [], k_fL [], k_fp []), rfl, ⟨hiz1_1, hiz1_2, hiz1_3, hiz1_4⟩, by rw [ht]; exact hP9, va_K.moved hW.alike hK, hD9⟩, hS.F ht⟩) hS.2.2 dX12_climbOf_170
          · refine lv_iload hx₀ hb dX12_climbOf_150 (lv_at hl 1 rfl) ?_
            refine lv_bipush (v := 9) hx₀ hb dX12_climbOf_152 (by decide +kernel) ?_
            refine lv_idiv hx₀ hb dX12_climbOf_154 (by decide +kernel) ?_
            refine lv_bipush (v := 23) hx₀ hb dX12_climbOf_155 (by decide +kernel) ?_
            refine lv_irem hx₀ hb dX12_climbOf_157 (by decide +kernel) ?_
            refine lv_iconst (v := 1) hx₀ hb dX12_climbOf_158 (by decide +kernel) ?_
            refine lv_iadd hx₀ hb dX12_climbOf_159 ?_
            refine lv_goto (tgt := 170) hx₀ hb dX12_climbOf_160 (by decide) ?_
            obtain ⟨hP9, hD9⟩ := k_c2 (wc := [(kX12 hm vFo vSi vIt vMo la vBy vTy mi vMi pn vPs gn vGs fn vFt le vTo knz1 fez1 enz1 ca anz1 coz1 vPr vSt vFn sn vSg vAl dr), (kAI vMi cI 24 qMi), (kAI vPs cI 32 qPs), (kAI vGs cI 16 qGs), (kAI vTo cI 96 qtz1), (kAI vPr cI 2 qpz1), (kAI vSt cI 2 qsz1), (kAI vFn cI 2 qfz1), (kAI vFt cI 32 qFt)]) hP hD [0, 1, 2, 3, 4, 5, 6, 7, 8] (by decide +kernel) rfl
            exact W.iret (v := ((bez1 / 9) - (bez1 / 9) / 23 * 23) + 1) hx₀ hb hr (fun t₀ ht hW => ⟨⟨((bez1 / 9) - (bez1 / 9) / 23 * 23) + 1, (k_fn [knz1, fez1, enz1, anz1, coz1], k_fa [qtz1, qpz1, qsz1, qfz1], k_fl [], k_fL [], k_fp []), rfl, ⟨hiz1_1, hiz1_2, hiz1_3, hiz1_4⟩, by rw [ht]; exact hP9, va_K.moved hW.alike hK, hD9⟩, hS.F ht⟩) hS.2.2 dX12_climbOf_170
        · refine lv_iload hx₀ hb dX12_climbOf_134 (lv_at hl 1 rfl) ?_
          refine lv_sipush (v := 207) hx₀ hb dX12_climbOf_136 (by decide +kernel) ?_
          refine lv_idiv hx₀ hb dX12_climbOf_139 (by decide +kernel) ?_
          refine lv_iconst (v := 1) hx₀ hb dX12_climbOf_140 (by decide +kernel) ?_
          refine lv_iadd hx₀ hb dX12_climbOf_141 ?_
          refine lv_goto (tgt := 170) hx₀ hb dX12_climbOf_142 (by decide) ?_
          obtain ⟨hP9, hD9⟩ := k_c2 (wc := [(kX12 hm vFo vSi vIt vMo la vBy vTy mi vMi pn vPs gn vGs fn vFt le vTo knz1 fez1 enz1 ca anz1 coz1 vPr vSt vFn sn vSg vAl dr), (kAI vMi cI 24 qMi), (kAI vPs cI 32 qPs), (kAI vGs cI 16 qGs), (kAI vTo cI 96 qtz1), (kAI vPr cI 2 qpz1), (kAI vSt cI 2 qsz1), (kAI vFn cI 2 qfz1), (kAI vFt cI 32 qFt)]) hP hD [0, 1, 2, 3, 4, 5, 6, 7, 8] (by decide +kernel) rfl
          exact W.iret (v := (bez1 / 207) + 1) hx₀ hb hr (fun t₀ ht hW => ⟨⟨(bez1 / 207) + 1, (k_fn [knz1, fez1, enz1, anz1, coz1], k_fa [qtz1, qpz1, qsz1, qfz1], k_fl [], k_fL [], k_fp []), rfl, ⟨hiz1_1, hiz1_2, hiz1_3, hiz1_4⟩, by rw [ht]; exact hP9, va_K.moved hW.alike hK, hD9⟩, hS.F ht⟩) hS.2.2 dX12_climbOf_170
      · refine lv_iload_n hx₀ hb dX12_climbOf_126 rfl (lv_at hl 2 rfl) ?_
        refine lv_goto (tgt := 170) hx₀ hb dX12_climbOf_127 (by decide) ?_
        obtain ⟨hP9, hD9⟩ := k_c2 (wc := [(kX12 hm vFo vSi vIt vMo la vBy vTy mi vMi pn vPs gn vGs fn vFt le vTo knz1 fez1 enz1 ca anz1 coz1 vPr vSt vFn sn vSg vAl dr), (kAI vMi cI 24 qMi), (kAI vPs cI 32 qPs), (kAI vGs cI 16 qGs), (kAI vTo cI 96 qtz1), (kAI vPr cI 2 qpz1), (kAI vSt cI 2 qsz1), (kAI vFn cI 2 qfz1), (kAI vFt cI 32 qFt)]) hP hD [0, 1, 2, 3, 4, 5, 6, 7, 8] (by decide +kernel) rfl
        exact W.iret (v := faz1) hx₀ hb hr (fun t₀ ht hW => ⟨⟨faz1, (k_fn [knz1, fez1, enz1, anz1, coz1], k_fa [qtz1, qpz1, qsz1, qfz1], k_fl [], k_fL [], k_fp []), rfl, ⟨hiz1_1, hiz1_2, hiz1_3, hiz1_4⟩, by rw [ht]; exact hP9, va_K.moved hW.alike hK, hD9⟩, hS.F ht⟩) hS.2.2 dX12_climbOf_170
    · refine lv_iload hx₀ hb dX12_climbOf_16 (lv_at hl 0 rfl) ?_
      refine lv_sipush (v := 207) hx₀ hb dX12_climbOf_18 (by decide +kernel) ?_
      refine lv_idiv hx₀ hb dX12_climbOf_21 (by decide +kernel) ?_
      refine lv_iconst (v := 1) hx₀ hb dX12_climbOf_22 (by decide +kernel) ?_
      refine lv_iadd hx₀ hb dX12_climbOf_23 ?_
      refine lv_istore (lv' := [(6, .int ((cdz1 / 207) + 1)), (5, .int cdz1), (4, .int bez1), (3, .int faz1), (0, .ref hm), (1, .int f1), (2, .int i1)]) hx₀ hb dX12_climbOf_24 hl (by decide) rfl (fun ls hl => ?_)
      refine lv_iload hx₀ hb dX12_climbOf_26 (lv_at hl 1 rfl) ?_
      refine lv_bipush (v := 9) hx₀ hb dX12_climbOf_28 (by decide +kernel) ?_
      refine lv_idiv hx₀ hb dX12_climbOf_30 (by decide +kernel) ?_
      refine lv_bipush (v := 23) hx₀ hb dX12_climbOf_31 (by decide +kernel) ?_
      refine lv_irem hx₀ hb dX12_climbOf_33 (by decide +kernel) ?_
      refine lv_iconst (v := 1) hx₀ hb dX12_climbOf_34 (by decide +kernel) ?_
      refine lv_iadd hx₀ hb dX12_climbOf_35 ?_
      refine lv_istore (lv' := [(7, .int (((cdz1 / 9) - (cdz1 / 9) / 23 * 23) + 1)), (6, .int ((cdz1 / 207) + 1)), (5, .int cdz1), (4, .int bez1), (3, .int faz1), (0, .ref hm), (1, .int f1), (2, .int i1)]) hx₀ hb dX12_climbOf_36 hl (by decide) rfl (fun ls hl => ?_)
      refine lv_aload_n hx₀ hb dX12_climbOf_38 rfl (lv_at hl 5 rfl) ?_
      refine lv_aload_n hx₀ hb dX12_climbOf_39 rfl (lv_at hl 5 rfl) ?_
      refine va_get (D := (dC, dI)) (ci := 11) (v := .ref vFt) (C := RX12) (T := TX12) (N := 30) hx₀ hb hts inlX12 hown hK hP 0 rfl rfl 14 (by decide) (hts (.fieldLink RX12 37 "BittenStickModel" "flight" "[I") wd_124) (fun _ h9 => h9) rfl dX12_climbOf_40 ?_
      refine lv_iconst (v := 4) hx₀ hb dX12_climbOf_43 (by decide +kernel) ?_
      refine lv_iload_n hx₀ hb dX12_climbOf_44 rfl (lv_at hl 6 rfl) ?_
      refine lv_imul hx₀ hb dX12_climbOf_45 ?_
      refine va_iald hx₀ hb hK hP 8 0 rfl rfl (vp_in_iff.mpr (lf_g_fliesTold_1 f1 hh7)) dX12_climbOf_46 ?_
      refine lv_topi (fun y_6 ey_6 => ?_)
      refine lv_aload_n hx₀ hb dX12_climbOf_47 rfl (lv_at hl 5 rfl) ?_
      refine va_get (D := (dC, dI)) (ci := 11) (v := .ref vFt) (C := RX12) (T := TX12) (N := 30) hx₀ hb hts inlX12 hown hK hP 0 rfl rfl 14 (by decide) (hts (.fieldLink RX12 37 "BittenStickModel" "flight" "[I") wd_124) (fun _ h9 => h9) rfl dX12_climbOf_48 ?_
      refine lv_iconst (v := 4) hx₀ hb dX12_climbOf_51 (by decide +kernel) ?_
      refine lv_iload_n hx₀ hb dX12_climbOf_52 rfl (lv_at hl 6 rfl) ?_
      refine lv_imul hx₀ hb dX12_climbOf_53 ?_
      refine lv_iconst (v := 1) hx₀ hb dX12_climbOf_54 (by decide +kernel) ?_
      refine lv_iadd hx₀ hb dX12_climbOf_55 ?_
      refine va_iald hx₀ hb hK hP 8 0 rfl rfl (vp_in_iff.mpr (lf_g_fliesTold_2 f1 hh7)) dX12_climbOf_56 ?_
      refine lv_topi (fun y_7 ey_7 => ?_)
      refine lv_aload_n hx₀ hb dX12_climbOf_57 rfl (lv_at hl 5 rfl) ?_
      refine va_get (D := (dC, dI)) (ci := 11) (v := .ref vFt) (C := RX12) (T := TX12) (N := 30) hx₀ hb hts inlX12 hown hK hP 0 rfl rfl 14 (by decide) (hts (.fieldLink RX12 37 "BittenStickModel" "flight" "[I") wd_124) (fun _ h9 => h9) rfl dX12_climbOf_58 ?_
      refine lv_iconst (v := 4) hx₀ hb dX12_climbOf_61 (by decide +kernel) ?_
      refine lv_iload_n hx₀ hb dX12_climbOf_62 rfl (lv_at hl 6 rfl) ?_
      refine lv_imul hx₀ hb dX12_climbOf_63 ?_
      refine lv_iconst (v := 2) hx₀ hb dX12_climbOf_64 (by decide +kernel) ?_
      refine lv_iadd hx₀ hb dX12_climbOf_65 ?_
      refine va_iald hx₀ hb hK hP 8 0 rfl rfl (vp_in_iff.mpr (lf_g_goes_3 f1 hh7)) dX12_climbOf_66 ?_
      refine lv_topi (fun y_8 ey_8 => ?_)
      refine lv_iload hx₀ hb dX12_climbOf_67 (lv_at hl 1 rfl) ?_
      refine lv_iload hx₀ hb dX12_climbOf_69 (lv_at hl 0 rfl) ?_
      refine lv_iload hx₀ hb dX12_climbOf_71 (lv_at hl 2 rfl) ?_
      refine lv_bipush (v := 9) hx₀ hb dX12_climbOf_73 (by decide +kernel) ?_
      refine lv_irem hx₀ hb dX12_climbOf_75 (by decide +kernel) ?_
      refine lv_iconst (v := 1) hx₀ hb dX12_climbOf_76 (by decide +kernel) ?_
      refine lv_iadd hx₀ hb dX12_climbOf_77 ?_
      obtain ⟨hPc, hDc, hFc, hC⟩ := k_cw (wc := [(kX12 hm vFo vSi vIt vMo la vBy vTy mi vMi pn vPs gn vGs fn vFt le vTo knz1 fez1 enz1 ca anz1 coz1 vPr vSt vFn sn vSg vAl dr), (kAI vMi cI 24 qMi), (kAI vPs cI 32 qPs), (kAI vGs cI 16 qGs), (kAI vTo cI 96 qtz1), (kAI vPr cI 2 qpz1), (kAI vSt cI 2 qsz1), (kAI vFn cI 2 qfz1)]) hP hD hS hA [0, 1, 2, 3, 4, 5, 6, 7] (by decide +kernel) rfl
      refine va_callv (va_runV (As := [.int y_6, .int y_7, .int y_8, .int ((cdz1 / 207) + 1), .int (((cdz1 / 9) - (cdz1 / 9) / 23 * 23) + 1), .int ((cdz1 - cdz1 / 9 * 9) + 1)]) (rest := []) ⟨hx₀, hb, hml, hown, hts⟩ (g_flies l dC dI cI cJ cQ H.size hm y_6 y_7 y_8 ((cdz1 / 207) + 1) (((cdz1 / 9) - (cdz1 / 9) / 23 * 23) + 1) ((cdz1 - cdz1 / 9 * 9) + 1) vFo vSi vIt vMo la vBy vTy mi vMi pn vPs gn vGs fn vFt le vTo knz1 fez1 enz1 ca anz1 coz1 vPr vSt vFn sn vSg vAl dr qMi qPs qGs qtz1 qpz1 qsz1 qfz1 (hh0) (hh1) (hh2) (hiz1_1)) (cwV 6 hts (kGV wd_540 wd_537 wd_538 wd_539 wd_5) rfl rfl rfl (by decide +kernel) ⟨Nat.le_of_ble_eq_true rfl, Nat.le_of_ble_eq_true rfl⟩) (k_preV11 (q0 := 0) hK hPc hDc hN rfl) rfl rfl hl.1 rfl (lv_room (Nat.le_of_ble_eq_true rfl)) dX12_climbOf_78 ⟨by decide +kernel, by decide +kernel⟩) hS (fun q _ h => hFc q h) hFc (fun u₀ t₀ H1 locs ht hvm hw hB hz1 hk1 hS => ?_)
      obtain ⟨g_10, ga_11, gl_12, gb_13, gp_14⟩ := u₀
      obtain ⟨hP1, hK1, hD1⟩ := hB
      rw [ht] at hP1
      have hJ := k_jn (wr := [(kAI vFt cI 32 qFt)]) (wt := [(kAI vFt cI 32 qFt), (kX12 hm vFo vSi vIt vMo la vBy vTy mi vMi pn vPs gn vGs fn vFt le vTo (g_10 0) (g_10 1) (g_10 2) ca (g_10 3) (g_10 4) vPr vSt vFn sn vSg vAl dr), (kAI vMi cI 24 qMi), (kAI vPs cI 32 qPs), (kAI vGs cI 16 qGs), (kAI vTo cI 96 (ga_11 0)), (kAI vPr cI 2 (ga_11 1)), (kAI vSt cI 2 (ga_11 2)), (kAI vFn cI 2 (ga_11 3))]) hP hD hC [8] rfl (by decide +kernel) (by decide +kernel) hk1 hFc hP1 hD1 rfl
      clear hP hD hPc hDc hFc hC hP1 hD1 hK1 hz1 hk1 hvm ht
      obtain ⟨hP, hD⟩ := hJ
      generalize H1 = H at hP hS ⊢
      try dsimp only at hw
      obtain ⟨c_15, c_16, c_17, c_18⟩ := hw
      refine lv_aload_n hx₀ hb dX12_climbOf_81 rfl (lv_at hl 5 rfl) ?_
      refine va_get (D := (dC, dI)) (ci := 11) (v := .int (g_10 1)) (C := RX12) (T := TX12) (N := 30) hx₀ hb hts inlX12 hown hK hP 1 rfl rfl 18 (by decide) (hts (.fieldLink RX12 193 "BittenStickModel" "fell" "I") wd_542) (fun _ h9 => h9) rfl dX12_climbOf_82 ?_
      refine lv_iload_n hx₀ hb dX12_climbOf_85 rfl (lv_at hl 4 rfl) ?_
      refine lv_icmp_le (tgt := 94) hx₀ hb dX12_climbOf_86 (by decide) (fun c_19 => ?_) (fun c_19 => ?_)
      · refine lv_iload hx₀ hb dX12_climbOf_94 (lv_at hl 3 rfl) ?_
        refine lv_istore (lv' := [(4, .int bez1), (7, .int (((cdz1 / 9) - (cdz1 / 9) / 23 * 23) + 1)), (6, .int ((cdz1 / 207) + 1)), (5, .int cdz1), (3, .int faz1), (0, .ref hm), (1, .int f1), (2, .int i1)]) hx₀ hb dX12_climbOf_96 hl (by decide) rfl (fun ls hl => ?_)
        refine lv_aload_n hx₀ hb dX12_climbOf_98 rfl (lv_at hl 5 rfl) ?_
        refine va_get (D := (dC, dI)) (ci := 11) (v := .int (g_10 1)) (C := RX12) (T := TX12) (N := 30) hx₀ hb hts inlX12 hown hK hP 1 rfl rfl 18 (by decide) (hts (.fieldLink RX12 193 "BittenStickModel" "fell" "I") wd_542) (fun _ h9 => h9) rfl dX12_climbOf_99 ?_
        refine lv_iload_n hx₀ hb dX12_climbOf_102 rfl (lv_at hl 4 rfl) ?_
        refine lv_icmp_le (tgt := 113) hx₀ hb dX12_climbOf_103 (by decide) (fun _ => ?_) (fun c9 => absurd c_19 c9)
        refine lv_iload_n hx₀ hb dX12_climbOf_113 rfl (lv_at hl 4 rfl) ?_
        refine lv_istore_n (lv' := [(3, .int faz1), (4, .int bez1), (7, .int (((cdz1 / 9) - (cdz1 / 9) / 23 * 23) + 1)), (6, .int ((cdz1 / 207) + 1)), (5, .int cdz1), (0, .ref hm), (1, .int f1), (2, .int i1)]) hx₀ hb dX12_climbOf_114 rfl hl (by decide) rfl (fun ls hl => ?_)
        refine lv_iinc (v := cdz1 + 1) (lv' := [(5, .int (cdz1 + 1)), (3, .int faz1), (4, .int bez1), (7, .int (((cdz1 / 9) - (cdz1 / 9) / 23 * 23) + 1)), (6, .int ((cdz1 / 207) + 1)), (0, .ref hm), (1, .int f1), (2, .int i1)]) hx₀ hb dX12_climbOf_115 hl (k := 4) rfl rfl (by decide) rfl (fun ls hl => ?_)
        refine lv_goto (tgt := 8) hx₀ hb dX12_climbOf_118 (by decide) ?_
        exact ihz1 _ (lf_g_climbOf_2 cdz1 jz1 hiz1_0 hjz1 c_2) faz1 bez1 (cdz1 + 1) (g_10 0) (g_10 1) (g_10 2) (g_10 3) (g_10 4) (ga_11 0) (ga_11 1) (ga_11 2) (ga_11 3) _ _ _ (lf_g_climbOf_1 cdz1 jz1 hiz1_0 hjz1 c_2) (c_15) (c_16) (c_17) (c_18) rfl (hP.sub [1, 2, 3, 4, 5, 6, 7, 8, 0] rfl) (hD.sub [1, 2, 3, 4, 5, 6, 7, 8, 0] (by decide +kernel) rfl) hS (lv_sub hl [0, 2, 1, 5, 6, 7] rfl)
      · refine lv_iload hx₀ hb dX12_climbOf_89 (lv_at hl 2 rfl) ?_
        refine lv_goto (tgt := 96) hx₀ hb dX12_climbOf_91 (by decide) ?_
        refine lv_istore (lv' := [(4, .int cdz1), (7, .int (((cdz1 / 9) - (cdz1 / 9) / 23 * 23) + 1)), (6, .int ((cdz1 / 207) + 1)), (5, .int cdz1), (3, .int faz1), (0, .ref hm), (1, .int f1), (2, .int i1)]) hx₀ hb dX12_climbOf_96 hl (by decide) rfl (fun ls hl => ?_)
        refine lv_aload_n hx₀ hb dX12_climbOf_98 rfl (lv_at hl 5 rfl) ?_
        refine va_get (D := (dC, dI)) (ci := 11) (v := .int (g_10 1)) (C := RX12) (T := TX12) (N := 30) hx₀ hb hts inlX12 hown hK hP 1 rfl rfl 18 (by decide) (hts (.fieldLink RX12 193 "BittenStickModel" "fell" "I") wd_542) (fun _ h9 => h9) rfl dX12_climbOf_99 ?_
        refine lv_iload_n hx₀ hb dX12_climbOf_102 rfl (lv_at hl 4 rfl) ?_
        refine lv_icmp_le (tgt := 113) hx₀ hb dX12_climbOf_103 (by decide) (fun c9 => absurd c9 c_19) (fun _ => ?_)
        refine lv_aload_n hx₀ hb dX12_climbOf_106 rfl (lv_at hl 5 rfl) ?_
        refine va_get (D := (dC, dI)) (ci := 11) (v := .int (g_10 1)) (C := RX12) (T := TX12) (N := 30) hx₀ hb hts inlX12 hown hK hP 1 rfl rfl 18 (by decide) (hts (.fieldLink RX12 193 "BittenStickModel" "fell" "I") wd_542) (fun _ h9 => h9) rfl dX12_climbOf_107 ?_
        refine lv_goto (tgt := 114) hx₀ hb dX12_climbOf_110 (by decide) ?_
        refine lv_istore_n (lv' := [(3, .int (g_10 1)), (4, .int cdz1), (7, .int (((cdz1 / 9) - (cdz1 / 9) / 23 * 23) + 1)), (6, .int ((cdz1 / 207) + 1)), (5, .int cdz1), (0, .ref hm), (1, .int f1), (2, .int i1)]) hx₀ hb dX12_climbOf_114 rfl hl (by decide) rfl (fun ls hl => ?_)
        refine lv_iinc (v := cdz1 + 1) (lv' := [(5, .int (cdz1 + 1)), (3, .int (g_10 1)), (4, .int cdz1), (7, .int (((cdz1 / 9) - (cdz1 / 9) / 23 * 23) + 1)), (6, .int ((cdz1 / 207) + 1)), (0, .ref hm), (1, .int f1), (2, .int i1)]) hx₀ hb dX12_climbOf_115 hl (k := 4) rfl rfl (by decide) rfl (fun ls hl => ?_)
        refine lv_goto (tgt := 8) hx₀ hb dX12_climbOf_118 (by decide) ?_
        exact ihz1 _ (lf_g_climbOf_2 cdz1 jz1 hiz1_0 hjz1 c_2) (g_10 1) cdz1 (cdz1 + 1) (g_10 0) (g_10 1) (g_10 2) (g_10 3) (g_10 4) (ga_11 0) (ga_11 1) (ga_11 2) (ga_11 3) _ _ _ (lf_g_climbOf_1 cdz1 jz1 hiz1_0 hjz1 c_2) (c_15) (c_16) (c_17) (c_18) rfl (hP.sub [1, 2, 3, 4, 5, 6, 7, 8, 0] rfl) (hD.sub [1, 2, 3, 4, 5, 6, 7, 8, 0] (by decide +kernel) rfl) hS (lv_sub hl [0, 2, 1, 5, 6, 7] rfl)
