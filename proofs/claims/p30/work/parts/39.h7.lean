theorem lf_g_mostAlike_1 (a0 : Int32) (a1 : Int32) (a2 : Int32) (h0 : 0 ≤ (a0) ∧ (a0) ≤ 24) (h1 : (a1) = 0 ∨ (a2) = 0 ∨ (a0) ≤ 23) (h2 : 0 ≤ (a2) ∧ (a2) ≤ 24) : 0 ≤ (a0).toInt ∧ (a0).toInt < 25 := by
  first | rfl | assumption | decide | exact Or.inl rfl | (first | omega | (have hr0 := Int32.toInt_lt a0; have hs0 := Int32.le_toInt a0; have hr1 := Int32.toInt_lt a1; have hs1 := Int32.le_toInt a1; have hr2 := Int32.toInt_lt a2; have hs2 := Int32.le_toInt a2; simp only [Int64.toInt_add, Int64.toInt_sub, Int32.toInt_add, Int32.toInt_sub, Int32.toInt_mul, Int64.le_iff_toInt_le, Int64.lt_iff_toInt_lt, Int32.le_iff_toInt_le, Int32.lt_iff_toInt_lt, ← Int32.toInt_inj, ← Int64.toInt_inj, Int32.toInt_toInt64, kc_0, kc_23, kc_24, kc_25] at *; (first | omega | ((try simp (disch := omega) only [k_bm64] at *); (try simp (disch := omega) only [k_bm] at *); (try simp (disch := omega) only [k_bm] at *); omega) | (simp only [Int.bmod] at *; omega))))
theorem lf_g_mostAlike_2 (a0 : Int32) (a1 : Nat) (h0 : 0 ≤ a0 ∧ a0 ≤ 25) (h1 : (25 - a0.toInt).toNat = a1) (h2 : ¬ 25 ≤ a0) : 0 ≤ a0.toInt ∧ a0.toInt < 25 := by
  first | rfl | assumption | decide | exact Or.inl rfl | (first | omega | (have hr0 := Int32.toInt_lt a0; have hs0 := Int32.le_toInt a0; simp only [Int64.toInt_add, Int64.toInt_sub, Int32.toInt_add, Int32.toInt_sub, Int32.toInt_mul, Int64.le_iff_toInt_le, Int64.lt_iff_toInt_lt, Int32.le_iff_toInt_le, Int32.lt_iff_toInt_lt, ← Int32.toInt_inj, ← Int64.toInt_inj, Int32.toInt_toInt64, kc_0, kc_25] at *; (first | omega | ((try simp (disch := omega) only [k_bm64] at *); (try simp (disch := omega) only [k_bm] at *); (try simp (disch := omega) only [k_bm] at *); omega) | (simp only [Int.bmod] at *; omega))))
theorem lf_g_mostAlike_3 (a0 : Int32) (a1 : Nat) (h0 : 0 ≤ a0 ∧ a0 ≤ 25) (h1 : (25 - a0.toInt).toNat = a1) (h2 : ¬ 25 ≤ a0) : 0 ≤ (a0 + 1) ∧ (a0 + 1) ≤ 25 := by
  first | rfl | assumption | decide | exact Or.inl rfl | (first | omega | (have hr0 := Int32.toInt_lt a0; have hs0 := Int32.le_toInt a0; simp only [Int64.toInt_add, Int64.toInt_sub, Int32.toInt_add, Int32.toInt_sub, Int32.toInt_mul, Int64.le_iff_toInt_le, Int64.lt_iff_toInt_lt, Int32.le_iff_toInt_le, Int32.lt_iff_toInt_lt, ← Int32.toInt_inj, ← Int64.toInt_inj, Int32.toInt_toInt64, kc_0, kc_1, kc_25] at *; (first | omega | ((try simp (disch := omega) only [k_bm64] at *); (try simp (disch := omega) only [k_bm] at *); (try simp (disch := omega) only [k_bm] at *); omega) | (simp only [Int.bmod] at *; omega))))
theorem lf_g_mostAlike_4 (a0 : Int32) (a1 : Nat) (h0 : 0 ≤ a0 ∧ a0 ≤ 25) (h1 : (25 - a0.toInt).toNat = a1) (h2 : ¬ 25 ≤ a0) : (25 - (a0 + 1).toInt).toNat < a1 := by
  first | rfl | assumption | decide | exact Or.inl rfl | (first | omega | (have hr0 := Int32.toInt_lt a0; have hs0 := Int32.le_toInt a0; simp only [Int64.toInt_add, Int64.toInt_sub, Int32.toInt_add, Int32.toInt_sub, Int32.toInt_mul, Int64.le_iff_toInt_le, Int64.lt_iff_toInt_lt, Int32.le_iff_toInt_le, Int32.lt_iff_toInt_lt, ← Int32.toInt_inj, ← Int64.toInt_inj, Int32.toInt_toInt64, kc_0, kc_1, kc_25] at *; (first | omega | ((try simp (disch := omega) only [k_bm64] at *); (try simp (disch := omega) only [k_bm] at *); (try simp (disch := omega) only [k_bm] at *); omega) | (simp only [Int.bmod] at *; omega))))
set_option maxHeartbeats 4000000 in
set_option maxRecDepth 100000 in
theorem g_mostAlike (l : Launch) (dC : Nat → ClassId) (dI : Nat → Nat → Nat) (cI cJ cQ : ClassId) (sz : Nat) (hm : Nat) (p1 : Int32) (f1 : Int32) (so : Int32) (vFo : Nat) (vSi : Nat) (vIt : Nat) (vMo : Nat) (la : Int32) (vBy : Nat) (vTy : Nat) (mi : Int32) (vMi : Nat) (pn : Int32) (vPs : Nat) (gn : Int32) (vGs : Nat) (fn : Int32) (vFt : Nat) (le : Int32) (vTo : Nat) (kn : Int32) (fe : Int32) (en : Int32) (ca : Int32) (an : Int32) (co : Int32) (vPr : Nat) (vSt : Nat) (vFn : Nat) (sn : Int32) (vSg : Nat) (vAl : Nat) (dr : Int32) (qMi : Nat → Int32) (qPs : Nat → Int32) (qGs : Nat → Int32) (qTo : Nat → Int32) (qPr : Nat → Int32) (qSt : Nat → Int32) (qFn : Nat → Int32) (qFt : Nat → Int32) (qSg : Nat → Int32) (qAl : Nat → Int32) (hh0 : 0 ≤ mi ∧ mi ≤ 24) (hh1 : 0 ≤ pn ∧ pn ≤ 8) (hh2 : 0 ≤ gn ∧ gn ≤ 8) (hh3 : k_bd 2 0 7 qPr) (hh4 : 0 ≤ fe ∧ fe ≤ 24) (hh5 : en = 0 ∨ kn = 0 ∨ fe ≤ 23) (hh6 : 0 ≤ kn ∧ kn ≤ 24) (hh7 : 0 ≤ fn ∧ fn ≤ 8) (hh8 : 0 ≤ sn ∧ sn ≤ 8) (hh9 : 0 ≤ p1 ∧ p1 ≤ 7) (hh10 : 0 ≤ f1 ∧ f1 ≤ 7) : Met l yX12_mostAlike (kW yX12_mostAlike cX12_mostAlike 7 (some .int)) { frames := 4, cells := 0, slots := 0, locals := 99 } (kPre dC dI cI cJ cQ sz [.ref hm, .int p1, .int f1, .int so] [(kX12 hm vFo vSi vIt vMo la vBy vTy mi vMi pn vPs gn vGs fn vFt le vTo kn fe en ca an co vPr vSt vFn sn vSg vAl dr), (kAI vMi cI 24 qMi), (kAI vPs cI 32 qPs), (kAI vGs cI 16 qGs), (kAI vTo cI 96 qTo), (kAI vPr cI 2 qPr), (kAI vSt cI 2 qSt), (kAI vFn cI 2 qFn), (kAI vFt cI 32 qFt), (kAI vSg cI 16 qSg), (kAI vAl cI 25 qAl)]) (va_Qi (fun (r : Int32) (u : kS) => (k_bd 2 0 7 (u.2.1 1)) ∧ (0 ≤ (u.1 1) ∧ (u.1 1) ≤ 24) ∧ ((u.1 2) = 0 ∨ (u.1 0) = 0 ∨ (u.1 1) ≤ 23) ∧ (0 ≤ (u.1 0) ∧ (u.1 0) ≤ 24)) (fun (u : kS) t₀ => kB dC dI cI cJ cQ (va_A [(kX12 hm vFo vSi vIt vMo la vBy vTy mi vMi pn vPs gn vGs fn vFt le vTo kn fe en ca an co vPr vSt vFn sn vSg vAl dr), (kAI vMi cI 24 qMi), (kAI vPs cI 32 qPs), (kAI vGs cI 16 qGs), (kAI vTo cI 96 qTo), (kAI vPr cI 2 qPr), (kAI vSt cI 2 qSt), (kAI vFn cI 2 qFn), (kAI vFt cI 32 qFt), (kAI vSg cI 16 qSg), (kAI vAl cI 25 qAl)] sz) [(kX12 hm vFo vSi vIt vMo la vBy vTy mi vMi pn vPs gn vGs fn vFt le vTo (u.1 0) (u.1 1) (u.1 2) ca (u.1 3) (u.1 4) vPr vSt vFn sn vSg vAl dr), (kAI vMi cI 24 qMi), (kAI vPs cI 32 (u.2.1 4)), (kAI vGs cI 16 qGs), (kAI vTo cI 96 (u.2.1 0)), (kAI vPr cI 2 (u.2.1 1)), (kAI vSt cI 2 (u.2.1 2)), (kAI vFn cI 2 (u.2.1 3)), (kAI vFt cI 32 qFt), (kAI vSg cI 16 qSg), (kAI vAl cI 25 (u.2.1 5))] t₀) (va_A [(kX12 hm vFo vSi vIt vMo la vBy vTy mi vMi pn vPs gn vGs fn vFt le vTo kn fe en ca an co vPr vSt vFn sn vSg vAl dr), (kAI vMi cI 24 qMi), (kAI vPs cI 32 qPs), (kAI vGs cI 16 qGs), (kAI vTo cI 96 qTo), (kAI vPr cI 2 qPr), (kAI vSt cI 2 qSt), (kAI vFn cI 2 qFn), (kAI vFt cI 32 qFt), (kAI vSg cI 16 qSg), (kAI vAl cI 25 qAl)] sz)) 0 0 (va_A [(kX12 hm vFo vSi vIt vMo la vBy vTy mi vMi pn vPs gn vGs fn vFt le vTo kn fe en ca an co vPr vSt vFn sn vSg vAl dr), (kAI vMi cI 24 qMi), (kAI vPs cI 32 qPs), (kAI vGs cI 16 qGs), (kAI vTo cI 96 qTo), (kAI vPr cI 2 qPr), (kAI vSt cI 2 qSt), (kAI vFn cI 2 qFn), (kAI vFt cI 32 qFt), (kAI vSg cI 16 qSg), (kAI vAl cI 25 qAl)] sz) := by
  refine Met.ofW (cc := cX12_mostAlike) (maxL := 7) (ret := (some .int)) (by decide) rfl ?_
  intro p₀ e₀ s₀ m₀ args below meth c₀ s₁ B hml hv₀
  obtain ⟨rfl, hsz, hP, hK, hD0, hN⟩ := hv₀
  have hx₀ := B.exec
  have hb := B.bytes
  have hr := B.returns
  have hts := atoms_spec (ws := (kW yX12_mostAlike cX12_mostAlike 7 (some .int))) B.pre
  have hts := fun w h => hts w (List.mem_cons_of_mem _ h)
  have hown : s₀.vm.findClass RX12 = some m₀.cls := findClass_of_methodNamed B.named
  have hlocks := B.notSynchronized
  subst hsz
  have hD := hD0.self (sz := s₀.heap.size)
  generalize hAe : va_A [(kX12 hm vFo vSi vIt vMo la vBy vTy mi vMi pn vPs gn vGs fn vFt le vTo kn fe en ca an co vPr vSt vFn sn vSg vAl dr), (kAI vMi cI 24 qMi), (kAI vPs cI 32 qPs), (kAI vGs cI 16 qGs), (kAI vTo cI 96 qTo), (kAI vPr cI 2 qPr), (kAI vSt cI 2 qSt), (kAI vFn cI 2 qFn), (kAI vFt cI 32 qFt), (kAI vSg cI 16 qSg), (kAI vAl cI 25 qAl)] s₀.heap.size = A at hD ⊢
  have hA : ∀ q : Nat, s₀.heap.size ≤ q → A q := fun q h => by rw [← hAe]; exact Or.inr h
  have hS : va_S A s₀.heap s₀.heap [] := va_S.rf
  have hP : va_P (dC, dI) vwCl [(kX12 hm vFo vSi vIt vMo la vBy vTy mi vMi pn vPs gn vGs fn vFt le vTo kn fe en ca an co vPr vSt vFn sn vSg vAl dr), (kAI vMi cI 24 qMi), (kAI vPs cI 32 qPs), (kAI vGs cI 16 qGs), (kAI vTo cI 96 qTo), (kAI vPr cI 2 qPr), (kAI vSt cI 2 qSt), (kAI vFn cI 2 qFn), (kAI vFt cI 32 qFt), (kAI vSg cI 16 qSg), (kAI vAl cI 25 qAl)] s₀.heap := hP
  have hl := lv_entry ([.ref hm, .int p1, .int f1, .int so]) (n := 7) (Nat.le_of_ble_eq_true rfl)
  rw [lg_entry_eq]
  generalize (lg_sl ([.ref hm, .int p1, .int f1, .int so]) ++ List.replicate (7 - (lg_sl ([.ref hm, .int p1, .int f1, .int so])).length) Slot.unset).toArray = ls at hl ⊢
  have hl : lv_has ls 7 [(0, .ref hm), (1, .int p1), (2, .int f1), (3, .int so)] := hl
  obtain ⟨H, hH⟩ : ∃ z : Heap, z = s₀.heap := ⟨_, rfl⟩
  rw [← hH] at hP
  have hS : va_S A s₀.heap H [] := by rw [hH]; exact hS
  refine k_heap hH ?_
  have hD : va_D A [(kX12 hm vFo vSi vIt vMo la vBy vTy mi vMi pn vPs gn vGs fn vFt le vTo kn fe en ca an co vPr vSt vFn sn vSg vAl dr), (kAI vMi cI 24 qMi), (kAI vPs cI 32 qPs), (kAI vGs cI 16 qGs), (kAI vTo cI 96 qTo), (kAI vPr cI 2 qPr), (kAI vSt cI 2 qSt), (kAI vFn cI 2 qFn), (kAI vFt cI 32 qFt), (kAI vSg cI 16 qSg), (kAI vAl cI 25 qAl)] := hD
  obtain ⟨locs, hlo⟩ : ∃ z : List Loc, z = [] := ⟨_, rfl⟩
  rw [← hlo] at hS ⊢
  clear hlo hH hAe hD0
  refine lv_aload_n hx₀ hb dX12_mostAlike_0 rfl (lv_at hl 0 rfl) ?_
  refine va_get (D := (dC, dI)) (ci := 11) (v := .ref vPs) (C := RX12) (T := TX12) (N := 30) hx₀ hb hts inlX12 hown hK hP 0 rfl rfl 10 (by decide) (hts (.fieldLink RX12 31 "BittenStickModel" "passenger" "[I") wd_122) (fun _ h9 => h9) rfl dX12_mostAlike_1 ?_
  refine lv_iconst (v := 4) hx₀ hb dX12_mostAlike_4 (by decide +kernel) ?_
  refine lv_iload_n hx₀ hb dX12_mostAlike_5 rfl (lv_at hl 1 rfl) ?_
  refine lv_imul hx₀ hb dX12_mostAlike_6 ?_
  refine lv_iconst (v := 1) hx₀ hb dX12_mostAlike_7 (by decide +kernel) ?_
  refine lv_iadd hx₀ hb dX12_mostAlike_8 ?_
  refine va_iald hx₀ hb hK hP 2 0 rfl rfl (vp_in_iff.mpr (lf_g_fliesTold_2 p1 hh9)) dX12_mostAlike_9 ?_
  refine lv_topi (fun y_1 ey_1 => ?_)
  refine lv_istore (lv' := [(4, .int y_1), (0, .ref hm), (1, .int p1), (2, .int f1), (3, .int so)]) hx₀ hb dX12_mostAlike_10 hl (by decide) rfl (fun ls hl => ?_)
  refine lv_iconst (v := 0) hx₀ hb dX12_mostAlike_12 (by decide +kernel) ?_
  refine lv_istore (lv' := [(5, .int 0), (4, .int y_1), (0, .ref hm), (1, .int p1), (2, .int f1), (3, .int so)]) hx₀ hb dX12_mostAlike_13 hl (by decide) rfl (fun ls hl => ?_)
  refine lv_iconst (v := 0) hx₀ hb dX12_mostAlike_15 (by decide +kernel) ?_
  refine lv_istore (lv' := [(6, .int 0), (5, .int 0), (4, .int y_1), (0, .ref hm), (1, .int p1), (2, .int f1), (3, .int so)]) hx₀ hb dX12_mostAlike_16 hl (by decide) rfl (fun ls hl => ?_)
  refine (?keyz2 : ∀ (jz2 : Nat) (iz2 : Int32) (qaz2 : Nat → Int32) (H : Heap) (locs : List Loc) (ls : Array Slot), (0 ≤ iz2 ∧ iz2 ≤ 25) → ((25 - iz2.toInt).toNat = jz2) → va_P (dC, dI) vwCl [(kX12 hm vFo vSi vIt vMo la vBy vTy mi vMi pn vPs gn vGs fn vFt le vTo kn fe en ca an co vPr vSt vFn sn vSg vAl dr), (kAI vMi cI 24 qMi), (kAI vPs cI 32 qPs), (kAI vGs cI 16 qGs), (kAI vTo cI 96 qTo), (kAI vPr cI 2 qPr), (kAI vSt cI 2 qSt), (kAI vFn cI 2 qFn), (kAI vFt cI 32 qFt), (kAI vSg cI 16 qSg), (kAI vAl cI 25 qaz2)] H → va_D A [(kX12 hm vFo vSi vIt vMo la vBy vTy mi vMi pn vPs gn vGs fn vFt le vTo kn fe en ca an co vPr vSt vFn sn vSg vAl dr), (kAI vMi cI 24 qMi), (kAI vPs cI 32 qPs), (kAI vGs cI 16 qGs), (kAI vTo cI 96 qTo), (kAI vPr cI 2 qPr), (kAI vSt cI 2 qSt), (kAI vFn cI 2 qFn), (kAI vFt cI 32 qFt), (kAI vSg cI 16 qSg), (kAI vAl cI 25 qaz2)] → va_S A s₀.heap H locs → lv_has ls 7 [(6, .int iz2), (5, .int 0), (4, .int y_1), (0, .ref hm), (1, .int p1), (2, .int f1), (3, .int so)] → W p₀ l e₀ _ s₀ m₀ _ below meth c₀ H locs _ _ _ (F0 m₀ 18 ls [])) _ (0 : Int32) _ H locs ls (show 0 ≤ (0 : Int32) ∧ (0 : Int32) ≤ 25 from ⟨(by decide), (by decide)⟩) rfl hP hD hS hl
  clear hP hD hS hl
  intro jz2
  induction jz2 using Nat.strongRecOn with
  | ind jz2 ihz2 =>
    intro iz2 qaz2 H locs ls hiz2_0 hjz2 hP hD hS hl
    refine lv_iload hx₀ hb dX12_mostAlike_18 (lv_at hl 0 rfl) ?_
    refine lv_bipush (v := 25) hx₀ hb dX12_mostAlike_20 (by decide +kernel) ?_
    refine lv_icmp_ge (tgt := 39) hx₀ hb dX12_mostAlike_22 (by decide) (fun c_3 => ?_) (fun c_3 => ?_)
    · refine lv_iconst (v := 0) hx₀ hb dX12_mostAlike_39 (by decide +kernel) ?_
      refine lv_istore (lv' := [(6, .int 0), (5, .int 0), (4, .int y_1), (0, .ref hm), (1, .int p1), (2, .int f1), (3, .int so)]) hx₀ hb dX12_mostAlike_40 hl (by decide) rfl (fun ls hl => ?_)
      refine (?keyz4 : ∀ (jz4 : Nat) (moz4 : Int32) (clz4 : Int32) (knz4 : Int32) (fez4 : Int32) (enz4 : Int32) (anz4 : Int32) (coz4 : Int32) (qtz4 : Nat → Int32) (qpz4 : Nat → Int32) (qsz4 : Nat → Int32) (qfz4 : Nat → Int32) (qwz4 : Nat → Int32) (qaz4 : Nat → Int32) (H : Heap) (locs : List Loc) (ls : Array Slot), (0 ≤ clz4 ∧ clz4 ≤ 6) → (k_bd 2 0 7 qpz4) → (0 ≤ fez4 ∧ fez4 ≤ 24) → (enz4 = 0 ∨ knz4 = 0 ∨ fez4 ≤ 23) → (0 ≤ knz4 ∧ knz4 ≤ 24) → ((6 - clz4.toInt).toNat = jz4) → va_P (dC, dI) vwCl [(kX12 hm vFo vSi vIt vMo la vBy vTy mi vMi pn vPs gn vGs fn vFt le vTo knz4 fez4 enz4 ca anz4 coz4 vPr vSt vFn sn vSg vAl dr), (kAI vMi cI 24 qMi), (kAI vPs cI 32 qwz4), (kAI vGs cI 16 qGs), (kAI vTo cI 96 qtz4), (kAI vPr cI 2 qpz4), (kAI vSt cI 2 qsz4), (kAI vFn cI 2 qfz4), (kAI vFt cI 32 qFt), (kAI vSg cI 16 qSg), (kAI vAl cI 25 qaz4)] H → va_D A [(kX12 hm vFo vSi vIt vMo la vBy vTy mi vMi pn vPs gn vGs fn vFt le vTo knz4 fez4 enz4 ca anz4 coz4 vPr vSt vFn sn vSg vAl dr), (kAI vMi cI 24 qMi), (kAI vPs cI 32 qwz4), (kAI vGs cI 16 qGs), (kAI vTo cI 96 qtz4), (kAI vPr cI 2 qpz4), (kAI vSt cI 2 qsz4), (kAI vFn cI 2 qfz4), (kAI vFt cI 32 qFt), (kAI vSg cI 16 qSg), (kAI vAl cI 25 qaz4)] → va_S A s₀.heap H locs → lv_has ls 7 [(6, .int clz4), (5, .int moz4), (4, .int y_1), (0, .ref hm), (1, .int p1), (2, .int f1), (3, .int so)] → W p₀ l e₀ _ s₀ m₀ _ below meth c₀ H locs _ _ _ (F0 m₀ 42 ls [])) _ (0 : Int32) (0 : Int32) kn fe en an co _ _ _ _ _ _ H locs ls (show 0 ≤ (0 : Int32) ∧ (0 : Int32) ≤ 6 from ⟨(by decide), (by decide)⟩) (hh3) (hh4) (hh5) (hh6) rfl hP hD hS hl
      clear hP hD hS hl
      intro jz4
      induction jz4 using Nat.strongRecOn with
      | ind jz4 ihz4 =>
        intro moz4 clz4 knz4 fez4 enz4 anz4 coz4 qtz4 qpz4 qsz4 qfz4 qwz4 qaz4 H locs ls hiz4_0 hiz4_1 hiz4_2 hiz4_3 hiz4_4 hjz4 hP hD hS hl
        refine lv_iload hx₀ hb dX12_mostAlike_42 (lv_at hl 0 rfl) ?_
        refine lv_bipush (v := 6) hx₀ hb dX12_mostAlike_44 (by decide +kernel) ?_
        refine lv_icmp_ge (tgt := 124) hx₀ hb dX12_mostAlike_46 (by decide) (fun c_5 => ?_) (fun c_5 => ?_)
        · refine lv_aload_n hx₀ hb dX12_mostAlike_124 rfl (lv_at hl 3 rfl) ?_
          refine va_get (D := (dC, dI)) (ci := 11) (v := .ref vPs) (C := RX12) (T := TX12) (N := 30) hx₀ hb hts inlX12 hown hK hP 0 rfl rfl 10 (by decide) (hts (.fieldLink RX12 31 "BittenStickModel" "passenger" "[I") wd_122) (fun _ h9 => h9) rfl dX12_mostAlike_125 ?_
          refine lv_iconst (v := 4) hx₀ hb dX12_mostAlike_128 (by decide +kernel) ?_
          refine lv_iload_n hx₀ hb dX12_mostAlike_129 rfl (lv_at hl 4 rfl) ?_
          refine lv_imul hx₀ hb dX12_mostAlike_130 ?_
          refine lv_iconst (v := 1) hx₀ hb dX12_mostAlike_131 (by decide +kernel) ?_
          refine lv_iadd hx₀ hb dX12_mostAlike_132 ?_
          refine lv_iload hx₀ hb dX12_mostAlike_133 (lv_at hl 2 rfl) ?_
          refine va_iast hx₀ hb hK hP hD hS 2 0 rfl rfl (vp_in_iff.mpr (lf_g_fliesTold_2 p1 hh9)) dX12_mostAlike_135 ?_
          clear hP hD hS
          intro H locs hP hD hS
          obtain ⟨f_6, hf_6⟩ : ∃ z : Nat → Int32, z = upd qwz4 ((4 * p1) + 1).toNatClampNeg y_1 := ⟨_, rfl⟩
          replace hP : va_P (dC, dI) vwCl [(kX12 hm vFo vSi vIt vMo la vBy vTy mi vMi pn vPs gn vGs fn vFt le vTo knz4 fez4 enz4 ca anz4 coz4 vPr vSt vFn sn vSg vAl dr), (kAI vMi cI 24 qMi), (kAI vPs cI 32 f_6), (kAI vGs cI 16 qGs), (kAI vTo cI 96 qtz4), (kAI vPr cI 2 qpz4), (kAI vSt cI 2 qsz4), (kAI vFn cI 2 qfz4), (kAI vFt cI 32 qFt), (kAI vSg cI 16 qSg), (kAI vAl cI 25 qaz4)] H := by rw [hf_6]; exact hP
          replace hD : va_D A [(kX12 hm vFo vSi vIt vMo la vBy vTy mi vMi pn vPs gn vGs fn vFt le vTo knz4 fez4 enz4 ca anz4 coz4 vPr vSt vFn sn vSg vAl dr), (kAI vMi cI 24 qMi), (kAI vPs cI 32 f_6), (kAI vGs cI 16 qGs), (kAI vTo cI 96 qtz4), (kAI vPr cI 2 qpz4), (kAI vSt cI 2 qsz4), (kAI vFn cI 2 qfz4), (kAI vFt cI 32 qFt), (kAI vSg cI 16 qSg), (kAI vAl cI 25 qaz4)] := by rw [hf_6]; exact hD
          clear hf_6
          refine lv_iload hx₀ hb dX12_mostAlike_136 (lv_at hl 1 rfl) ?_
          obtain ⟨hP9, hD9⟩ := k_c2 (wc := [(kX12 hm vFo vSi vIt vMo la vBy vTy mi vMi pn vPs gn vGs fn vFt le vTo knz4 fez4 enz4 ca anz4 coz4 vPr vSt vFn sn vSg vAl dr), (kAI vMi cI 24 qMi), (kAI vPs cI 32 f_6), (kAI vGs cI 16 qGs), (kAI vTo cI 96 qtz4), (kAI vPr cI 2 qpz4), (kAI vSt cI 2 qsz4), (kAI vFn cI 2 qfz4), (kAI vFt cI 32 qFt), (kAI vSg cI 16 qSg), (kAI vAl cI 25 qaz4)]) hP hD [0, 1, 2, 3, 4, 5, 6, 7, 8, 9, 10] (by decide +kernel) rfl
          exact W.iret (v := moz4) hx₀ hb hr (fun t₀ ht hW => ⟨⟨moz4, (k_fn [knz4, fez4, enz4, anz4, coz4], k_fa [qtz4, qpz4, qsz4, qfz4, f_6, qaz4], k_fl [], k_fL [], k_fp []), rfl, ⟨hiz4_1, hiz4_2, hiz4_3, hiz4_4⟩, by rw [ht]; exact hP9, va_K.moved hW.alike hK, hD9⟩, hS.F ht⟩) hS.2.2 dX12_mostAlike_138
        · refine lv_iload_n hx₀ hb dX12_mostAlike_49 rfl (lv_at hl 6 rfl) ?_
          refine lv_iload hx₀ hb dX12_mostAlike_50 (lv_at hl 0 rfl) ?_
          obtain ⟨hPc, hDc, hFc, hC⟩ := k_cw (wc := []) hP hD hS hA [] (by decide +kernel) rfl
          refine va_calli (va_runS (As := [.int so, .int clz4]) (rest := []) ⟨hx₀, hb, hml, hown, hts⟩ (g_isIn l dC dI cI cJ cQ H.size so clz4) (va_cwS 2 hts (kGS wd_560 wd_558 wd_559 wd_5) rfl rfl rfl (by decide +kernel) ⟨Nat.le_of_ble_eq_true rfl, Nat.le_of_ble_eq_true rfl⟩) (k_preS hK hPc hDc hN) rfl rfl hl.1 rfl (lv_room (Nat.le_of_ble_eq_true rfl)) dX12_mostAlike_52 ⟨by decide +kernel, by decide +kernel⟩) hS (fun q _ h => hFc q h) hFc (fun r_7 u₀ t₀ H1 locs ht hvm hw hB hz1 hk1 hS => ?_)
          obtain ⟨hP1, hK1, hD1⟩ := hB
          rw [ht] at hP1
          have hJ := k_jn (wr := [(kX12 hm vFo vSi vIt vMo la vBy vTy mi vMi pn vPs gn vGs fn vFt le vTo knz4 fez4 enz4 ca anz4 coz4 vPr vSt vFn sn vSg vAl dr), (kAI vMi cI 24 qMi), (kAI vPs cI 32 qwz4), (kAI vGs cI 16 qGs), (kAI vTo cI 96 qtz4), (kAI vPr cI 2 qpz4), (kAI vSt cI 2 qsz4), (kAI vFn cI 2 qfz4), (kAI vFt cI 32 qFt), (kAI vSg cI 16 qSg), (kAI vAl cI 25 qaz4)]) (wt := [(kX12 hm vFo vSi vIt vMo la vBy vTy mi vMi pn vPs gn vGs fn vFt le vTo knz4 fez4 enz4 ca anz4 coz4 vPr vSt vFn sn vSg vAl dr), (kAI vMi cI 24 qMi), (kAI vPs cI 32 qwz4), (kAI vGs cI 16 qGs), (kAI vTo cI 96 qtz4), (kAI vPr cI 2 qpz4), (kAI vSt cI 2 qsz4), (kAI vFn cI 2 qfz4), (kAI vFt cI 32 qFt), (kAI vSg cI 16 qSg), (kAI vAl cI 25 qaz4)]) hP hD hC [0, 1, 2, 3, 4, 5, 6, 7, 8, 9, 10] rfl (by decide +kernel) (by decide +kernel) hk1 hFc hP1 hD1 rfl
          clear hP hD hPc hDc hFc hC hP1 hD1 hK1 hz1 hk1 hvm ht
          obtain ⟨hP, hD⟩ := hJ
          generalize H1 = H at hP hS ⊢
          try dsimp only at hw
          by_cases c_8 : ((so >>> (clz4 &&& 31)) &&& 1) = 1
          · rw [if_pos c_8] at hw
            refine k_topi (v := 1) hw ?_
            refine lv_if_eq (tgt := 118) hx₀ hb dX12_mostAlike_55 (by decide) (fun c9 => absurd c9 (by decide +kernel)) (fun _ => ?_)
            refine lv_aload_n hx₀ hb dX12_mostAlike_58 rfl (lv_at hl 3 rfl) ?_
            refine va_get (D := (dC, dI)) (ci := 11) (v := .ref vPs) (C := RX12) (T := TX12) (N := 30) hx₀ hb hts inlX12 hown hK hP 0 rfl rfl 10 (by decide) (hts (.fieldLink RX12 31 "BittenStickModel" "passenger" "[I") wd_122) (fun _ h9 => h9) rfl dX12_mostAlike_59 ?_
            refine lv_iconst (v := 4) hx₀ hb dX12_mostAlike_62 (by decide +kernel) ?_
            refine lv_iload_n hx₀ hb dX12_mostAlike_63 rfl (lv_at hl 4 rfl) ?_
            refine lv_imul hx₀ hb dX12_mostAlike_64 ?_
            refine lv_iconst (v := 1) hx₀ hb dX12_mostAlike_65 (by decide +kernel) ?_
            refine lv_iadd hx₀ hb dX12_mostAlike_66 ?_
            refine lv_iload hx₀ hb dX12_mostAlike_67 (lv_at hl 0 rfl) ?_
            refine va_iast hx₀ hb hK hP hD hS 2 0 rfl rfl (vp_in_iff.mpr (lf_g_fliesTold_2 p1 hh9)) dX12_mostAlike_69 ?_
            clear hP hD hS
            intro H locs hP hD hS
            obtain ⟨f_9, hf_9⟩ : ∃ z : Nat → Int32, z = upd qwz4 ((4 * p1) + 1).toNatClampNeg clz4 := ⟨_, rfl⟩
            replace hP : va_P (dC, dI) vwCl [(kX12 hm vFo vSi vIt vMo la vBy vTy mi vMi pn vPs gn vGs fn vFt le vTo knz4 fez4 enz4 ca anz4 coz4 vPr vSt vFn sn vSg vAl dr), (kAI vMi cI 24 qMi), (kAI vPs cI 32 f_9), (kAI vGs cI 16 qGs), (kAI vTo cI 96 qtz4), (kAI vPr cI 2 qpz4), (kAI vSt cI 2 qsz4), (kAI vFn cI 2 qfz4), (kAI vFt cI 32 qFt), (kAI vSg cI 16 qSg), (kAI vAl cI 25 qaz4)] H := by rw [hf_9]; exact hP
            replace hD : va_D A [(kX12 hm vFo vSi vIt vMo la vBy vTy mi vMi pn vPs gn vGs fn vFt le vTo knz4 fez4 enz4 ca anz4 coz4 vPr vSt vFn sn vSg vAl dr), (kAI vMi cI 24 qMi), (kAI vPs cI 32 f_9), (kAI vGs cI 16 qGs), (kAI vTo cI 96 qtz4), (kAI vPr cI 2 qpz4), (kAI vSt cI 2 qsz4), (kAI vFn cI 2 qfz4), (kAI vFt cI 32 qFt), (kAI vSg cI 16 qSg), (kAI vAl cI 25 qaz4)] := by rw [hf_9]; exact hD
            clear hf_9
            refine lv_aload_n hx₀ hb dX12_mostAlike_70 rfl (lv_at hl 3 rfl) ?_
            refine lv_iload_n hx₀ hb dX12_mostAlike_71 rfl (lv_at hl 5 rfl) ?_
            obtain ⟨hPc, hDc, hFc, hC⟩ := k_cw (wc := [(kX12 hm vFo vSi vIt vMo la vBy vTy mi vMi pn vPs gn vGs fn vFt le vTo knz4 fez4 enz4 ca anz4 coz4 vPr vSt vFn sn vSg vAl dr), (kAI vMi cI 24 qMi), (kAI vPs cI 32 f_9), (kAI vGs cI 16 qGs), (kAI vTo cI 96 qtz4), (kAI vPr cI 2 qpz4), (kAI vSt cI 2 qsz4), (kAI vFn cI 2 qfz4), (kAI vFt cI 32 qFt)]) hP hD hS hA [0, 1, 2, 3, 4, 5, 6, 7, 8] (by decide +kernel) rfl
            refine va_callv (va_runV (As := [.int f1]) (rest := []) ⟨hx₀, hb, hml, hown, hts⟩ (g_fliesTold l dC dI cI cJ cQ H.size hm f1 vFo vSi vIt vMo la vBy vTy mi vMi pn vPs gn vGs fn vFt le vTo knz4 fez4 enz4 ca anz4 coz4 vPr vSt vFn sn vSg vAl dr qMi f_9 qGs qtz4 qpz4 qsz4 qfz4 qFt (hh0) (hh1) (hh2) (hiz4_1) (hh10)) (cwV 1 hts (kGV wd_536 wd_533 wd_534 wd_535 wd_5) rfl rfl rfl (by decide +kernel) ⟨Nat.le_of_ble_eq_true rfl, Nat.le_of_ble_eq_true rfl⟩) (k_preV11 (q0 := 0) hK hPc hDc hN rfl) rfl rfl hl.1 rfl (lv_room (Nat.le_of_ble_eq_true rfl)) dX12_mostAlike_72 ⟨by decide +kernel, by decide +kernel⟩) hS (fun q _ h => hFc q h) hFc (fun u₀ t₀ H1 locs ht hvm hw hB hz1 hk1 hS => ?_)
            obtain ⟨g_11, ga_12, gl_13, gb_14, gp_15⟩ := u₀
            obtain ⟨hP1, hK1, hD1⟩ := hB
            rw [ht] at hP1
            have hJ := k_jn (wr := [(kAI vSg cI 16 qSg), (kAI vAl cI 25 qaz4)]) (wt := [(kAI vSg cI 16 qSg), (kAI vAl cI 25 qaz4), (kX12 hm vFo vSi vIt vMo la vBy vTy mi vMi pn vPs gn vGs fn vFt le vTo (g_11 0) (g_11 1) (g_11 2) ca (g_11 3) (g_11 4) vPr vSt vFn sn vSg vAl dr), (kAI vMi cI 24 qMi), (kAI vPs cI 32 f_9), (kAI vGs cI 16 qGs), (kAI vTo cI 96 (ga_12 0)), (kAI vPr cI 2 (ga_12 1)), (kAI vSt cI 2 (ga_12 2)), (kAI vFn cI 2 (ga_12 3)), (kAI vFt cI 32 qFt)]) hP hD hC [9, 10] rfl (by decide +kernel) (by decide +kernel) hk1 hFc hP1 hD1 rfl
            clear hP hD hPc hDc hFc hC hP1 hD1 hK1 hz1 hk1 hvm ht
            obtain ⟨hP, hD⟩ := hJ
            generalize H1 = H at hP hS ⊢
            try dsimp only at hw
            obtain ⟨c_16, c_17, c_18, c_19⟩ := hw
            refine lv_aload_n hx₀ hb dX12_mostAlike_75 rfl (lv_at hl 3 rfl) ?_
            refine va_get (D := (dC, dI)) (ci := 11) (v := .ref vAl) (C := RX12) (T := TX12) (N := 30) hx₀ hb hts inlX12 hown hK hP 2 rfl rfl 28 (by decide) (hts (.fieldLink RX12 55 "BittenStickModel" "alike" "[I") wd_130) (fun _ h9 => h9) rfl dX12_mostAlike_76 ?_
            refine lv_aload_n hx₀ hb dX12_mostAlike_79 rfl (lv_at hl 3 rfl) ?_
            refine va_get (D := (dC, dI)) (ci := 11) (v := .int (g_11 1)) (C := RX12) (T := TX12) (N := 30) hx₀ hb hts inlX12 hown hK hP 2 rfl rfl 18 (by decide) (hts (.fieldLink RX12 193 "BittenStickModel" "fell" "I") wd_542) (fun _ h9 => h9) rfl dX12_mostAlike_80 ?_
            refine lv_dup2_11 hx₀ hb dX12_mostAlike_83 rfl rfl ?_
            refine va_iald hx₀ hb hK hP 1 0 rfl rfl (vp_in_iff.mpr (lf_g_mostAlike_1 (g_11 1) (g_11 2) (g_11 0) c_17 c_18 c_19)) dX12_mostAlike_84 ?_
            refine lv_topi (fun y_20 ey_20 => ?_)
            refine lv_iconst (v := 1) hx₀ hb dX12_mostAlike_85 (by decide +kernel) ?_
            refine lv_iadd hx₀ hb dX12_mostAlike_86 ?_
            refine va_iast hx₀ hb hK hP hD hS 1 0 rfl rfl (vp_in_iff.mpr (lf_g_mostAlike_1 (g_11 1) (g_11 2) (g_11 0) c_17 c_18 c_19)) dX12_mostAlike_87 ?_
            clear hP hD hS
            intro H locs hP hD hS
            obtain ⟨f_21, hf_21⟩ : ∃ z : Nat → Int32, z = upd qaz4 (g_11 1).toNatClampNeg (y_20 + 1) := ⟨_, rfl⟩
            replace hP : va_P (dC, dI) vwCl [(kAI vSg cI 16 qSg), (kAI vAl cI 25 f_21), (kX12 hm vFo vSi vIt vMo la vBy vTy mi vMi pn vPs gn vGs fn vFt le vTo (g_11 0) (g_11 1) (g_11 2) ca (g_11 3) (g_11 4) vPr vSt vFn sn vSg vAl dr), (kAI vMi cI 24 qMi), (kAI vPs cI 32 f_9), (kAI vGs cI 16 qGs), (kAI vTo cI 96 (ga_12 0)), (kAI vPr cI 2 (ga_12 1)), (kAI vSt cI 2 (ga_12 2)), (kAI vFn cI 2 (ga_12 3)), (kAI vFt cI 32 qFt)] H := by rw [hf_21]; exact hP
            replace hD : va_D A [(kAI vSg cI 16 qSg), (kAI vAl cI 25 f_21), (kX12 hm vFo vSi vIt vMo la vBy vTy mi vMi pn vPs gn vGs fn vFt le vTo (g_11 0) (g_11 1) (g_11 2) ca (g_11 3) (g_11 4) vPr vSt vFn sn vSg vAl dr), (kAI vMi cI 24 qMi), (kAI vPs cI 32 f_9), (kAI vGs cI 16 qGs), (kAI vTo cI 96 (ga_12 0)), (kAI vPr cI 2 (ga_12 1)), (kAI vSt cI 2 (ga_12 2)), (kAI vFn cI 2 (ga_12 3)), (kAI vFt cI 32 qFt)] := by rw [hf_21]; exact hD
            clear hf_21
            refine lv_aload_n hx₀ hb dX12_mostAlike_88 rfl (lv_at hl 3 rfl) ?_
            refine va_get (D := (dC, dI)) (ci := 11) (v := .ref vAl) (C := RX12) (T := TX12) (N := 30) hx₀ hb hts inlX12 hown hK hP 2 rfl rfl 28 (by decide) (hts (.fieldLink RX12 55 "BittenStickModel" "alike" "[I") wd_130) (fun _ h9 => h9) rfl dX12_mostAlike_89 ?_
            refine lv_aload_n hx₀ hb dX12_mostAlike_92 rfl (lv_at hl 3 rfl) ?_
            refine va_get (D := (dC, dI)) (ci := 11) (v := .int (g_11 1)) (C := RX12) (T := TX12) (N := 30) hx₀ hb hts inlX12 hown hK hP 2 rfl rfl 18 (by decide) (hts (.fieldLink RX12 193 "BittenStickModel" "fell" "I") wd_542) (fun _ h9 => h9) rfl dX12_mostAlike_93 ?_
            refine va_iald hx₀ hb hK hP 1 0 rfl rfl (vp_in_iff.mpr (lf_g_mostAlike_1 (g_11 1) (g_11 2) (g_11 0) c_17 c_18 c_19)) dX12_mostAlike_96 ?_
            refine lv_topi (fun y_22 ey_22 => ?_)
            refine lv_iload hx₀ hb dX12_mostAlike_97 (lv_at hl 1 rfl) ?_
            refine lv_icmp_le (tgt := 114) hx₀ hb dX12_mostAlike_99 (by decide) (fun c_23 => ?_) (fun c_23 => ?_)
            · refine lv_iload hx₀ hb dX12_mostAlike_114 (lv_at hl 1 rfl) ?_
              refine lv_istore (lv' := [(5, .int moz4), (6, .int clz4), (4, .int y_1), (0, .ref hm), (1, .int p1), (2, .int f1), (3, .int so)]) hx₀ hb dX12_mostAlike_116 hl (by decide) rfl (fun ls hl => ?_)
              refine lv_iinc (v := clz4 + 1) (lv' := [(6, .int (clz4 + 1)), (5, .int moz4), (4, .int y_1), (0, .ref hm), (1, .int p1), (2, .int f1), (3, .int so)]) hx₀ hb dX12_mostAlike_118 hl (k := 1) rfl rfl (by decide) rfl (fun ls hl => ?_)
              refine lv_goto (tgt := 42) hx₀ hb dX12_mostAlike_121 (by decide) ?_
              exact ihz4 _ (lf_g_soresOf_2 clz4 jz4 hiz4_0 hjz4 c_5) moz4 (clz4 + 1) (g_11 0) (g_11 1) (g_11 2) (g_11 3) (g_11 4) (ga_12 0) (ga_12 1) (ga_12 2) (ga_12 3) f_9 f_21 _ _ _ (lf_g_soresOf_1 clz4 jz4 hiz4_0 hjz4 c_5) (c_16) (c_17) (c_18) (c_19) rfl (hP.sub [2, 3, 4, 5, 6, 7, 8, 9, 10, 0, 1] rfl) (hD.sub [2, 3, 4, 5, 6, 7, 8, 9, 10, 0, 1] (by decide +kernel) rfl) hS (lv_sub hl [0, 1, 2, 3, 4, 5, 6] rfl)
            · refine lv_aload_n hx₀ hb dX12_mostAlike_102 rfl (lv_at hl 3 rfl) ?_
              refine va_get (D := (dC, dI)) (ci := 11) (v := .ref vAl) (C := RX12) (T := TX12) (N := 30) hx₀ hb hts inlX12 hown hK hP 2 rfl rfl 28 (by decide) (hts (.fieldLink RX12 55 "BittenStickModel" "alike" "[I") wd_130) (fun _ h9 => h9) rfl dX12_mostAlike_103 ?_
              refine lv_aload_n hx₀ hb dX12_mostAlike_106 rfl (lv_at hl 3 rfl) ?_
              refine va_get (D := (dC, dI)) (ci := 11) (v := .int (g_11 1)) (C := RX12) (T := TX12) (N := 30) hx₀ hb hts inlX12 hown hK hP 2 rfl rfl 18 (by decide) (hts (.fieldLink RX12 193 "BittenStickModel" "fell" "I") wd_542) (fun _ h9 => h9) rfl dX12_mostAlike_107 ?_
              refine va_iald hx₀ hb hK hP 1 0 rfl rfl (vp_in_iff.mpr (lf_g_mostAlike_1 (g_11 1) (g_11 2) (g_11 0) c_17 c_18 c_19)) dX12_mostAlike_110 ?_
              refine k_topi (v := y_22) ey_22.symm ?_
              refine lv_goto (tgt := 116) hx₀ hb dX12_mostAlike_111 (by decide) ?_
              refine lv_istore (lv' := [(5, .int y_22), (6, .int clz4), (4, .int y_1), (0, .ref hm), (1, .int p1), (2, .int f1), (3, .int so)]) hx₀ hb dX12_mostAlike_116 hl (by decide) rfl (fun ls hl => ?_)
              refine lv_iinc (v := clz4 + 1) (lv' := [(6, .int (clz4 + 1)), (5, .int y_22), (4, .int y_1), (0, .ref hm), (1, .int p1), (2, .int f1), (3, .int so)]) hx₀ hb dX12_mostAlike_118 hl (k := 1) rfl rfl (by decide) rfl (fun ls hl => ?_)
              refine lv_goto (tgt := 42) hx₀ hb dX12_mostAlike_121 (by decide) ?_
              exact ihz4 _ (lf_g_soresOf_2 clz4 jz4 hiz4_0 hjz4 c_5) y_22 (clz4 + 1) (g_11 0) (g_11 1) (g_11 2) (g_11 3) (g_11 4) (ga_12 0) (ga_12 1) (ga_12 2) (ga_12 3) f_9 f_21 _ _ _ (lf_g_soresOf_1 clz4 jz4 hiz4_0 hjz4 c_5) (c_16) (c_17) (c_18) (c_19) rfl (hP.sub [2, 3, 4, 5, 6, 7, 8, 9, 10, 0, 1] rfl) (hD.sub [2, 3, 4, 5, 6, 7, 8, 9, 10, 0, 1] (by decide +kernel) rfl) hS (lv_sub hl [0, 1, 2, 3, 4, 5, 6] rfl)
          rw [if_neg c_8] at hw
          refine k_topi (v := 0) hw ?_
          refine lv_if_eq (tgt := 118) hx₀ hb dX12_mostAlike_55 (by decide) (fun _ => ?_) (fun c9 => absurd (by decide +kernel) c9)
          refine lv_iinc (v := clz4 + 1) (lv' := [(6, .int (clz4 + 1)), (5, .int moz4), (4, .int y_1), (0, .ref hm), (1, .int p1), (2, .int f1), (3, .int so)]) hx₀ hb dX12_mostAlike_118 hl (k := 0) rfl rfl (by decide) rfl (fun ls hl => ?_)
          refine lv_goto (tgt := 42) hx₀ hb dX12_mostAlike_121 (by decide) ?_
          exact ihz4 _ (lf_g_soresOf_2 clz4 jz4 hiz4_0 hjz4 c_5) moz4 (clz4 + 1) knz4 fez4 enz4 anz4 coz4 qtz4 qpz4 qsz4 qfz4 qwz4 qaz4 _ _ _ (lf_g_soresOf_1 clz4 jz4 hiz4_0 hjz4 c_5) (hiz4_1) (hiz4_2) (hiz4_3) (hiz4_4) rfl (hP.sub [0, 1, 2, 3, 4, 5, 6, 7, 8, 9, 10] rfl) (hD.sub [0, 1, 2, 3, 4, 5, 6, 7, 8, 9, 10] (by decide +kernel) rfl) hS (lv_sub hl [0, 1, 2, 3, 4, 5, 6] rfl)
    · refine lv_aload_n hx₀ hb dX12_mostAlike_25 rfl (lv_at hl 3 rfl) ?_
      refine va_get (D := (dC, dI)) (ci := 11) (v := .ref vAl) (C := RX12) (T := TX12) (N := 30) hx₀ hb hts inlX12 hown hK hP 0 rfl rfl 28 (by decide) (hts (.fieldLink RX12 55 "BittenStickModel" "alike" "[I") wd_130) (fun _ h9 => h9) rfl dX12_mostAlike_26 ?_
      refine lv_iload hx₀ hb dX12_mostAlike_29 (lv_at hl 0 rfl) ?_
      refine lv_iconst (v := 0) hx₀ hb dX12_mostAlike_31 (by decide +kernel) ?_
      refine va_iast hx₀ hb hK hP hD hS 10 0 rfl rfl (vp_in_iff.mpr (lf_g_mostAlike_2 iz2 jz2 hiz2_0 hjz2 c_3)) dX12_mostAlike_32 ?_
      clear hP hD hS
      intro H locs hP hD hS
      obtain ⟨f_24, hf_24⟩ : ∃ z : Nat → Int32, z = upd qaz2 iz2.toNatClampNeg 0 := ⟨_, rfl⟩
      replace hP : va_P (dC, dI) vwCl [(kX12 hm vFo vSi vIt vMo la vBy vTy mi vMi pn vPs gn vGs fn vFt le vTo kn fe en ca an co vPr vSt vFn sn vSg vAl dr), (kAI vMi cI 24 qMi), (kAI vPs cI 32 qPs), (kAI vGs cI 16 qGs), (kAI vTo cI 96 qTo), (kAI vPr cI 2 qPr), (kAI vSt cI 2 qSt), (kAI vFn cI 2 qFn), (kAI vFt cI 32 qFt), (kAI vSg cI 16 qSg), (kAI vAl cI 25 f_24)] H := by rw [hf_24]; exact hP
      replace hD : va_D A [(kX12 hm vFo vSi vIt vMo la vBy vTy mi vMi pn vPs gn vGs fn vFt le vTo kn fe en ca an co vPr vSt vFn sn vSg vAl dr), (kAI vMi cI 24 qMi), (kAI vPs cI 32 qPs), (kAI vGs cI 16 qGs), (kAI vTo cI 96 qTo), (kAI vPr cI 2 qPr), (kAI vSt cI 2 qSt), (kAI vFn cI 2 qFn), (kAI vFt cI 32 qFt), (kAI vSg cI 16 qSg), (kAI vAl cI 25 f_24)] := by rw [hf_24]; exact hD
      clear hf_24
      refine lv_iinc (v := iz2 + 1) (lv' := [(6, .int (iz2 + 1)), (5, .int 0), (4, .int y_1), (0, .ref hm), (1, .int p1), (2, .int f1), (3, .int so)]) hx₀ hb dX12_mostAlike_33 hl (k := 0) rfl rfl (by decide) rfl (fun ls hl => ?_)
      refine lv_goto (tgt := 18) hx₀ hb dX12_mostAlike_36 (by decide) ?_
      exact ihz2 _ (lf_g_mostAlike_4 iz2 jz2 hiz2_0 hjz2 c_3) (iz2 + 1) f_24 _ _ _ (lf_g_mostAlike_3 iz2 jz2 hiz2_0 hjz2 c_3) rfl (hP.sub [0, 1, 2, 3, 4, 5, 6, 7, 8, 9, 10] rfl) (hD.sub [0, 1, 2, 3, 4, 5, 6, 7, 8, 9, 10] (by decide +kernel) rfl) hS (lv_sub hl [0, 1, 2, 3, 4, 5, 6] rfl)
set_option maxHeartbeats 4000000 in
set_option maxRecDepth 100000 in
theorem g_askOf (l : Launch) (dC : Nat → ClassId) (dI : Nat → Nat → Nat) (cI cJ cQ : ClassId) (sz : Nat) (hm : Nat) (p1 : Int32) (vFo : Nat) (vSi : Nat) (vIt : Nat) (vMo : Nat) (la : Int32) (vBy : Nat) (vTy : Nat) (mi : Int32) (vMi : Nat) (pn : Int32) (vPs : Nat) (gn : Int32) (vGs : Nat) (fn : Int32) (vFt : Nat) (le : Int32) (vTo : Nat) (kn : Int32) (fe : Int32) (en : Int32) (ca : Int32) (an : Int32) (co : Int32) (vPr : Nat) (vSt : Nat) (vFn : Nat) (sn : Int32) (vSg : Nat) (vAl : Nat) (dr : Int32) (qMi : Nat → Int32) (qPs : Nat → Int32) (qGs : Nat → Int32) (qTo : Nat → Int32) (qPr : Nat → Int32) (qSt : Nat → Int32) (qFn : Nat → Int32) (qFt : Nat → Int32) (qSg : Nat → Int32) (qAl : Nat → Int32) (hh0 : 0 ≤ mi ∧ mi ≤ 24) (hh1 : 0 ≤ pn ∧ pn ≤ 8) (hh2 : 0 ≤ gn ∧ gn ≤ 8) (hh3 : k_bd 2 0 7 qPr) (hh4 : 0 ≤ fe ∧ fe ≤ 24) (hh5 : en = 0 ∨ kn = 0 ∨ fe ≤ 23) (hh6 : 0 ≤ kn ∧ kn ≤ 24) (hh7 : 0 ≤ fn ∧ fn ≤ 8) (hh8 : 0 ≤ sn ∧ sn ≤ 8) (hh9 : 0 ≤ p1 ∧ p1 ≤ 7) : Met l yX12_askOf (kW yX12_askOf cX12_askOf 8 (some .int)) { frames := 7, cells := 0, slots := 0, locals := 167 } (kPre dC dI cI cJ cQ sz [.ref hm, .int p1] [(kX12 hm vFo vSi vIt vMo la vBy vTy mi vMi pn vPs gn vGs fn vFt le vTo kn fe en ca an co vPr vSt vFn sn vSg vAl dr), (kAI vMi cI 24 qMi), (kAI vPs cI 32 qPs), (kAI vGs cI 16 qGs), (kAI vTo cI 96 qTo), (kAI vPr cI 2 qPr), (kAI vSt cI 2 qSt), (kAI vFn cI 2 qFn), (kAI vFt cI 32 qFt), (kAI vSg cI 16 qSg), (kAI vAl cI 25 qAl)]) (va_Qi (fun (r : Int32) (u : kS) => (k_bd 2 0 7 (u.2.1 1)) ∧ (0 ≤ (u.1 1) ∧ (u.1 1) ≤ 24) ∧ ((u.1 2) = 0 ∨ (u.1 0) = 0 ∨ (u.1 1) ≤ 23) ∧ (0 ≤ (u.1 0) ∧ (u.1 0) ≤ 24)) (fun (u : kS) t₀ => kB dC dI cI cJ cQ (va_A [(kX12 hm vFo vSi vIt vMo la vBy vTy mi vMi pn vPs gn vGs fn vFt le vTo kn fe en ca an co vPr vSt vFn sn vSg vAl dr), (kAI vMi cI 24 qMi), (kAI vPs cI 32 qPs), (kAI vGs cI 16 qGs), (kAI vTo cI 96 qTo), (kAI vPr cI 2 qPr), (kAI vSt cI 2 qSt), (kAI vFn cI 2 qFn), (kAI vFt cI 32 qFt), (kAI vSg cI 16 qSg), (kAI vAl cI 25 qAl)] sz) [(kX12 hm vFo vSi vIt vMo la vBy vTy mi vMi pn vPs gn vGs fn vFt le vTo (u.1 0) (u.1 1) (u.1 2) ca (u.1 3) (u.1 4) vPr vSt vFn sn vSg vAl dr), (kAI vMi cI 24 qMi), (kAI vPs cI 32 (u.2.1 4)), (kAI vGs cI 16 qGs), (kAI vTo cI 96 (u.2.1 0)), (kAI vPr cI 2 (u.2.1 1)), (kAI vSt cI 2 (u.2.1 2)), (kAI vFn cI 2 (u.2.1 3)), (kAI vFt cI 32 qFt), (kAI vSg cI 16 qSg), (kAI vAl cI 25 (u.2.1 5))] t₀) (va_A [(kX12 hm vFo vSi vIt vMo la vBy vTy mi vMi pn vPs gn vGs fn vFt le vTo kn fe en ca an co vPr vSt vFn sn vSg vAl dr), (kAI vMi cI 24 qMi), (kAI vPs cI 32 qPs), (kAI vGs cI 16 qGs), (kAI vTo cI 96 qTo), (kAI vPr cI 2 qPr), (kAI vSt cI 2 qSt), (kAI vFn cI 2 qFn), (kAI vFt cI 32 qFt), (kAI vSg cI 16 qSg), (kAI vAl cI 25 qAl)] sz)) 0 0 (va_A [(kX12 hm vFo vSi vIt vMo la vBy vTy mi vMi pn vPs gn vGs fn vFt le vTo kn fe en ca an co vPr vSt vFn sn vSg vAl dr), (kAI vMi cI 24 qMi), (kAI vPs cI 32 qPs), (kAI vGs cI 16 qGs), (kAI vTo cI 96 qTo), (kAI vPr cI 2 qPr), (kAI vSt cI 2 qSt), (kAI vFn cI 2 qFn), (kAI vFt cI 32 qFt), (kAI vSg cI 16 qSg), (kAI vAl cI 25 qAl)] sz) := by
  refine Met.ofW (cc := cX12_askOf) (maxL := 8) (ret := (some .int)) (by decide) rfl ?_
  intro p₀ e₀ s₀ m₀ args below meth c₀ s₁ B hml hv₀
  obtain ⟨rfl, hsz, hP, hK, hD0, hN⟩ := hv₀
  have hx₀ := B.exec
  have hb := B.bytes
  have hr := B.returns
  have hts := atoms_spec (ws := (kW yX12_askOf cX12_askOf 8 (some .int))) B.pre
  have hts := fun w h => hts w (List.mem_cons_of_mem _ h)
  have hown : s₀.vm.findClass RX12 = some m₀.cls := findClass_of_methodNamed B.named
  have hlocks := B.notSynchronized
  subst hsz
  have hD := hD0.self (sz := s₀.heap.size)
  generalize hAe : va_A [(kX12 hm vFo vSi vIt vMo la vBy vTy mi vMi pn vPs gn vGs fn vFt le vTo kn fe en ca an co vPr vSt vFn sn vSg vAl dr), (kAI vMi cI 24 qMi), (kAI vPs cI 32 qPs), (kAI vGs cI 16 qGs), (kAI vTo cI 96 qTo), (kAI vPr cI 2 qPr), (kAI vSt cI 2 qSt), (kAI vFn cI 2 qFn), (kAI vFt cI 32 qFt), (kAI vSg cI 16 qSg), (kAI vAl cI 25 qAl)] s₀.heap.size = A at hD ⊢
  have hA : ∀ q : Nat, s₀.heap.size ≤ q → A q := fun q h => by rw [← hAe]; exact Or.inr h
  have hS : va_S A s₀.heap s₀.heap [] := va_S.rf
  have hP : va_P (dC, dI) vwCl [(kX12 hm vFo vSi vIt vMo la vBy vTy mi vMi pn vPs gn vGs fn vFt le vTo kn fe en ca an co vPr vSt vFn sn vSg vAl dr), (kAI vMi cI 24 qMi), (kAI vPs cI 32 qPs), (kAI vGs cI 16 qGs), (kAI vTo cI 96 qTo), (kAI vPr cI 2 qPr), (kAI vSt cI 2 qSt), (kAI vFn cI 2 qFn), (kAI vFt cI 32 qFt), (kAI vSg cI 16 qSg), (kAI vAl cI 25 qAl)] s₀.heap := hP
  have hl := lv_entry ([.ref hm, .int p1]) (n := 8) (Nat.le_of_ble_eq_true rfl)
  rw [lg_entry_eq]
  generalize (lg_sl ([.ref hm, .int p1]) ++ List.replicate (8 - (lg_sl ([.ref hm, .int p1])).length) Slot.unset).toArray = ls at hl ⊢
  have hl : lv_has ls 8 [(0, .ref hm), (1, .int p1)] := hl
  obtain ⟨H, hH⟩ : ∃ z : Heap, z = s₀.heap := ⟨_, rfl⟩
  rw [← hH] at hP
  have hS : va_S A s₀.heap H [] := by rw [hH]; exact hS
  refine k_heap hH ?_
  have hD : va_D A [(kX12 hm vFo vSi vIt vMo la vBy vTy mi vMi pn vPs gn vGs fn vFt le vTo kn fe en ca an co vPr vSt vFn sn vSg vAl dr), (kAI vMi cI 24 qMi), (kAI vPs cI 32 qPs), (kAI vGs cI 16 qGs), (kAI vTo cI 96 qTo), (kAI vPr cI 2 qPr), (kAI vSt cI 2 qSt), (kAI vFn cI 2 qFn), (kAI vFt cI 32 qFt), (kAI vSg cI 16 qSg), (kAI vAl cI 25 qAl)] := hD
  obtain ⟨locs, hlo⟩ : ∃ z : List Loc, z = [] := ⟨_, rfl⟩
  rw [← hlo] at hS ⊢
  clear hlo hH hAe hD0
  refine lv_aload_n hx₀ hb dX12_askOf_0 rfl (lv_at hl 0 rfl) ?_
  refine lv_iload_n hx₀ hb dX12_askOf_1 rfl (lv_at hl 1 rfl) ?_
  obtain ⟨hPc, hDc, hFc, hC⟩ := k_cw (wc := [(kX12 hm vFo vSi vIt vMo la vBy vTy mi vMi pn vPs gn vGs fn vFt le vTo kn fe en ca an co vPr vSt vFn sn vSg vAl dr), (kAI vMi cI 24 qMi), (kAI vPs cI 32 qPs), (kAI vGs cI 16 qGs), (kAI vTo cI 96 qTo), (kAI vPr cI 2 qPr), (kAI vSt cI 2 qSt), (kAI vFn cI 2 qFn), (kAI vFt cI 32 qFt), (kAI vSg cI 16 qSg)]) hP hD hS hA [0, 1, 2, 3, 4, 5, 6, 7, 8, 9] (by decide +kernel) rfl
  refine va_calli (va_runV (As := [.int p1]) (rest := []) ⟨hx₀, hb, hml, hown, hts⟩ (g_soresOf l dC dI cI cJ cQ H.size hm p1 vFo vSi vIt vMo la vBy vTy mi vMi pn vPs gn vGs fn vFt le vTo kn fe en ca an co vPr vSt vFn sn vSg vAl dr qMi qPs qGs qTo qPr qSt qFn qFt qSg (hh0) (hh1) (hh2) (hh3) (hh4) (hh5) (hh6) (hh7) (hh8) (hh9)) (cwV 1 hts (kGV wd_721 wd_718 wd_719 wd_720 wd_5) rfl rfl rfl (by decide +kernel) ⟨Nat.le_of_ble_eq_true rfl, Nat.le_of_ble_eq_true rfl⟩) (k_preV11 (q0 := 0) hK hPc hDc hN rfl) rfl rfl hl.1 rfl (lv_room (Nat.le_of_ble_eq_true rfl)) dX12_askOf_2 ⟨by decide +kernel, by decide +kernel⟩) hS (fun q _ h => hFc q h) hFc (fun r_1 u₀ t₀ H1 locs ht hvm hw hB hz1 hk1 hS => ?_)
  obtain ⟨g_2, ga_3, gl_4, gb_5, gp_6⟩ := u₀
  obtain ⟨hP1, hK1, hD1⟩ := hB
  rw [ht] at hP1
  have hJ := k_jn (wr := [(kAI vAl cI 25 qAl)]) (wt := [(kAI vAl cI 25 qAl), (kX12 hm vFo vSi vIt vMo la vBy vTy mi vMi pn vPs gn vGs fn vFt le vTo (g_2 0) (g_2 1) (g_2 2) ca (g_2 3) (g_2 4) vPr vSt vFn sn vSg vAl dr), (kAI vMi cI 24 qMi), (kAI vPs cI 32 (ga_3 4)), (kAI vGs cI 16 qGs), (kAI vTo cI 96 (ga_3 0)), (kAI vPr cI 2 (ga_3 1)), (kAI vSt cI 2 (ga_3 2)), (kAI vFn cI 2 (ga_3 3)), (kAI vFt cI 32 qFt), (kAI vSg cI 16 qSg)]) hP hD hC [10] rfl (by decide +kernel) (by decide +kernel) hk1 hFc hP1 hD1 rfl
  clear hP hD hPc hDc hFc hC hP1 hD1 hK1 hz1 hk1 hvm ht
  obtain ⟨hP, hD⟩ := hJ
  generalize H1 = H at hP hS ⊢
  try dsimp only at hw
  obtain ⟨c_7, c_8, c_9, c_10⟩ := hw
  refine lv_istore_n (lv' := [(2, .int r_1), (0, .ref hm), (1, .int p1)]) hx₀ hb dX12_askOf_5 rfl hl (by decide) rfl (fun ls hl => ?_)
  refine lv_iconst (v := (-1)) hx₀ hb dX12_askOf_6 (by decide +kernel) ?_
  refine lv_istore_n (lv' := [(3, .int (-1)), (2, .int r_1), (0, .ref hm), (1, .int p1)]) hx₀ hb dX12_askOf_7 rfl hl (by decide) rfl (fun ls hl => ?_)
  refine lv_iconst (v := 0) hx₀ hb dX12_askOf_8 (by decide +kernel) ?_
  refine lv_istore (lv' := [(4, .int 0), (3, .int (-1)), (2, .int r_1), (0, .ref hm), (1, .int p1)]) hx₀ hb dX12_askOf_9 hl (by decide) rfl (fun ls hl => ?_)
  refine lv_iconst (v := 0) hx₀ hb dX12_askOf_11 (by decide +kernel) ?_
  refine lv_istore (lv' := [(5, .int 0), (4, .int 0), (3, .int (-1)), (2, .int r_1), (0, .ref hm), (1, .int p1)]) hx₀ hb dX12_askOf_12 hl (by decide) rfl (fun ls hl => ?_)
  refine (?keyz11 : ∀ (jz11 : Nat) (bez11 : Int32) (lsz11 : Int32) (fz11 : Int32) (knz11 : Int32) (fez11 : Int32) (enz11 : Int32) (anz11 : Int32) (coz11 : Int32) (qtz11 : Nat → Int32) (qpz11 : Nat → Int32) (qsz11 : Nat → Int32) (qfz11 : Nat → Int32) (qwz11 : Nat → Int32) (qaz11 : Nat → Int32) (H : Heap) (locs : List Loc) (ls : Array Slot), (0 ≤ fz11 ∧ fz11 ≤ fn) → (k_bd 2 0 7 qpz11) → (0 ≤ fez11 ∧ fez11 ≤ 24) → (enz11 = 0 ∨ knz11 = 0 ∨ fez11 ≤ 23) → (0 ≤ knz11 ∧ knz11 ≤ 24) → ((fn.toInt - fz11.toInt).toNat = jz11) → va_P (dC, dI) vwCl [(kAI vAl cI 25 qaz11), (kX12 hm vFo vSi vIt vMo la vBy vTy mi vMi pn vPs gn vGs fn vFt le vTo knz11 fez11 enz11 ca anz11 coz11 vPr vSt vFn sn vSg vAl dr), (kAI vMi cI 24 qMi), (kAI vPs cI 32 qwz11), (kAI vGs cI 16 qGs), (kAI vTo cI 96 qtz11), (kAI vPr cI 2 qpz11), (kAI vSt cI 2 qsz11), (kAI vFn cI 2 qfz11), (kAI vFt cI 32 qFt), (kAI vSg cI 16 qSg)] H → va_D A [(kAI vAl cI 25 qaz11), (kX12 hm vFo vSi vIt vMo la vBy vTy mi vMi pn vPs gn vGs fn vFt le vTo knz11 fez11 enz11 ca anz11 coz11 vPr vSt vFn sn vSg vAl dr), (kAI vMi cI 24 qMi), (kAI vPs cI 32 qwz11), (kAI vGs cI 16 qGs), (kAI vTo cI 96 qtz11), (kAI vPr cI 2 qpz11), (kAI vSt cI 2 qsz11), (kAI vFn cI 2 qfz11), (kAI vFt cI 32 qFt), (kAI vSg cI 16 qSg)] → va_S A s₀.heap H locs → lv_has ls 8 [(5, .int fz11), (4, .int lsz11), (3, .int bez11), (2, .int r_1), (0, .ref hm), (1, .int p1)] → W p₀ l e₀ _ s₀ m₀ _ below meth c₀ H locs _ _ _ (F0 m₀ 14 ls [])) _ (-1 : Int32) (0 : Int32) (0 : Int32) (g_2 0) (g_2 1) (g_2 2) (g_2 3) (g_2 4) _ _ _ _ _ _ H locs ls (show 0 ≤ (0 : Int32) ∧ (0 : Int32) ≤ fn from ⟨(by decide), hh7.1⟩) (c_7) (c_8) (c_9) (c_10) rfl hP hD hS hl
  clear hP hD hS hl
  intro jz11
  induction jz11 using Nat.strongRecOn with
  | ind jz11 ihz11 =>
    intro bez11 lsz11 fz11 knz11 fez11 enz11 anz11 coz11 qtz11 qpz11 qsz11 qfz11 qwz11 qaz11 H locs ls hiz11_0 hiz11_1 hiz11_2 hiz11_3 hiz11_4 hjz11 hP hD hS hl
    refine lv_iload hx₀ hb dX12_askOf_14 (lv_at hl 0 rfl) ?_
    refine lv_aload_n hx₀ hb dX12_askOf_16 rfl (lv_at hl 4 rfl) ?_
    refine va_get (D := (dC, dI)) (ci := 11) (v := .int fn) (C := RX12) (T := TX12) (N := 30) hx₀ hb hts inlX12 hown hK hP 1 rfl rfl 13 (by decide) (hts (.fieldLink RX12 159 "BittenStickModel" "flights" "I") wd_364) (fun _ h9 => h9) rfl dX12_askOf_17 ?_
    refine lv_icmp_ge (tgt := 84) hx₀ hb dX12_askOf_20 (by decide) (fun c_12 => ?_) (fun c_12 => ?_)
    · refine lv_iload_n hx₀ hb dX12_askOf_84 rfl (lv_at hl 2 rfl) ?_
      obtain ⟨hP9, hD9⟩ := k_c2 (wc := [(kX12 hm vFo vSi vIt vMo la vBy vTy mi vMi pn vPs gn vGs fn vFt le vTo knz11 fez11 enz11 ca anz11 coz11 vPr vSt vFn sn vSg vAl dr), (kAI vMi cI 24 qMi), (kAI vPs cI 32 qwz11), (kAI vGs cI 16 qGs), (kAI vTo cI 96 qtz11), (kAI vPr cI 2 qpz11), (kAI vSt cI 2 qsz11), (kAI vFn cI 2 qfz11), (kAI vFt cI 32 qFt), (kAI vSg cI 16 qSg), (kAI vAl cI 25 qaz11)]) hP hD [1, 2, 3, 4, 5, 6, 7, 8, 9, 10, 0] (by decide +kernel) rfl
      exact W.iret (v := bez11) hx₀ hb hr (fun t₀ ht hW => ⟨⟨bez11, (k_fn [knz11, fez11, enz11, anz11, coz11], k_fa [qtz11, qpz11, qsz11, qfz11, qwz11, qaz11], k_fl [], k_fL [], k_fp []), rfl, ⟨hiz11_1, hiz11_2, hiz11_3, hiz11_4⟩, by rw [ht]; exact hP9, va_K.moved hW.alike hK, hD9⟩, hS.F ht⟩) hS.2.2 dX12_askOf_85
    · refine lv_aload_n hx₀ hb dX12_askOf_23 rfl (lv_at hl 4 rfl) ?_
      refine lv_iload_n hx₀ hb dX12_askOf_24 rfl (lv_at hl 5 rfl) ?_
      refine lv_iload hx₀ hb dX12_askOf_25 (lv_at hl 0 rfl) ?_
      refine lv_iload_n hx₀ hb dX12_askOf_27 rfl (lv_at hl 3 rfl) ?_
      obtain ⟨hPc, hDc, hFc, hC⟩ := k_cw (wc := [(kX12 hm vFo vSi vIt vMo la vBy vTy mi vMi pn vPs gn vGs fn vFt le vTo knz11 fez11 enz11 ca anz11 coz11 vPr vSt vFn sn vSg vAl dr), (kAI vMi cI 24 qMi), (kAI vPs cI 32 qwz11), (kAI vGs cI 16 qGs), (kAI vTo cI 96 qtz11), (kAI vPr cI 2 qpz11), (kAI vSt cI 2 qsz11), (kAI vFn cI 2 qfz11), (kAI vFt cI 32 qFt), (kAI vSg cI 16 qSg), (kAI vAl cI 25 qaz11)]) hP hD hS hA [1, 2, 3, 4, 5, 6, 7, 8, 9, 10, 0] (by decide +kernel) rfl
      refine va_calli (va_runV (As := [.int p1, .int fz11, .int r_1]) (rest := []) ⟨hx₀, hb, hml, hown, hts⟩ (g_mostAlike l dC dI cI cJ cQ H.size hm p1 fz11 r_1 vFo vSi vIt vMo la vBy vTy mi vMi pn vPs gn vGs fn vFt le vTo knz11 fez11 enz11 ca anz11 coz11 vPr vSt vFn sn vSg vAl dr qMi qwz11 qGs qtz11 qpz11 qsz11 qfz11 qFt qSg qaz11 (hh0) (hh1) (hh2) (hiz11_1) (hiz11_2) (hiz11_3) (hiz11_4) (hh7) (hh8) (hh9) (lf_g_farthestNow_1 fn fz11 jz11 hh7 hiz11_0 hjz11 c_12)) (cwV 3 hts (kGV wd_759 wd_756 wd_757 wd_758 wd_5) rfl rfl rfl (by decide +kernel) ⟨Nat.le_of_ble_eq_true rfl, Nat.le_of_ble_eq_true rfl⟩) (k_preV11 (q0 := 0) hK hPc hDc hN rfl) rfl rfl hl.1 rfl (lv_room (Nat.le_of_ble_eq_true rfl)) dX12_askOf_28 ⟨by decide +kernel, by decide +kernel⟩) hS (fun q _ h => hFc q h) hFc (fun r_13 u₀ t₀ H1 locs ht hvm hw hB hz1 hk1 hS => ?_)
      obtain ⟨g_14, ga_15, gl_16, gb_17, gp_18⟩ := u₀
      obtain ⟨hP1, hK1, hD1⟩ := hB
      rw [ht] at hP1
      have hJ := k_jn (wr := []) (wt := [(kX12 hm vFo vSi vIt vMo la vBy vTy mi vMi pn vPs gn vGs fn vFt le vTo (g_14 0) (g_14 1) (g_14 2) ca (g_14 3) (g_14 4) vPr vSt vFn sn vSg vAl dr), (kAI vMi cI 24 qMi), (kAI vPs cI 32 (ga_15 4)), (kAI vGs cI 16 qGs), (kAI vTo cI 96 (ga_15 0)), (kAI vPr cI 2 (ga_15 1)), (kAI vSt cI 2 (ga_15 2)), (kAI vFn cI 2 (ga_15 3)), (kAI vFt cI 32 qFt), (kAI vSg cI 16 qSg), (kAI vAl cI 25 (ga_15 5))]) hP hD hC [] rfl (by decide +kernel) (by decide +kernel) hk1 hFc hP1 hD1 rfl
      clear hP hD hPc hDc hFc hC hP1 hD1 hK1 hz1 hk1 hvm ht
      obtain ⟨hP, hD⟩ := hJ
      generalize H1 = H at hP hS ⊢
      try dsimp only at hw
      obtain ⟨c_19, c_20, c_21, c_22⟩ := hw
      refine lv_istore (lv' := [(6, .int r_13), (5, .int fz11), (4, .int lsz11), (3, .int bez11), (2, .int r_1), (0, .ref hm), (1, .int p1)]) hx₀ hb dX12_askOf_31 hl (by decide) rfl (fun ls hl => ?_)
      refine lv_iload_n hx₀ hb dX12_askOf_33 rfl (lv_at hl 3 rfl) ?_
      refine lv_iconst (v := (-1)) hx₀ hb dX12_askOf_34 (by decide +kernel) ?_
      refine lv_icmp_eq (tgt := 45) hx₀ hb dX12_askOf_35 (by decide) (fun c_23 => ?_) (fun c_23 => ?_)
      · refine lv_iconst (v := 1) hx₀ hb dX12_askOf_45 (by decide +kernel) ?_
        refine lv_goto (tgt := 50) hx₀ hb dX12_askOf_46 (by decide) ?_
        refine lv_istore (lv' := [(7, .int 1), (6, .int r_13), (5, .int fz11), (4, .int lsz11), (3, .int bez11), (2, .int r_1), (0, .ref hm), (1, .int p1)]) hx₀ hb dX12_askOf_50 hl (by decide) rfl (fun ls hl => ?_)
        refine lv_iload hx₀ hb dX12_askOf_52 (lv_at hl 0 rfl) ?_
        refine lv_if_eq (tgt := 62) hx₀ hb dX12_askOf_54 (by decide) (fun c9 => absurd c9 (by decide +kernel)) (fun _ => ?_)
        refine lv_iload hx₀ hb dX12_askOf_57 (lv_at hl 2 rfl) ?_
        refine lv_goto (tgt := 63) hx₀ hb dX12_askOf_59 (by decide) ?_
        refine lv_istore_n (lv' := [(3, .int fz11), (7, .int 1), (6, .int r_13), (5, .int fz11), (4, .int lsz11), (2, .int r_1), (0, .ref hm), (1, .int p1)]) hx₀ hb dX12_askOf_63 rfl hl (by decide) rfl (fun ls hl => ?_)
        refine lv_iload hx₀ hb dX12_askOf_64 (lv_at hl 1 rfl) ?_
        refine lv_if_eq (tgt := 74) hx₀ hb dX12_askOf_66 (by decide) (fun c9 => absurd c9 (by decide +kernel)) (fun _ => ?_)
        refine lv_iload hx₀ hb dX12_askOf_69 (lv_at hl 2 rfl) ?_
        refine lv_goto (tgt := 76) hx₀ hb dX12_askOf_71 (by decide) ?_
        refine lv_istore (lv' := [(4, .int r_13), (3, .int fz11), (7, .int 1), (6, .int r_13), (5, .int fz11), (2, .int r_1), (0, .ref hm), (1, .int p1)]) hx₀ hb dX12_askOf_76 hl (by decide) rfl (fun ls hl => ?_)
        refine lv_iinc (v := fz11 + 1) (lv' := [(5, .int (fz11 + 1)), (4, .int r_13), (3, .int fz11), (7, .int 1), (6, .int r_13), (2, .int r_1), (0, .ref hm), (1, .int p1)]) hx₀ hb dX12_askOf_78 hl (k := 4) rfl rfl (by decide) rfl (fun ls hl => ?_)
        refine lv_goto (tgt := 14) hx₀ hb dX12_askOf_81 (by decide) ?_
        exact ihz11 _ (lf_g_farthestNow_3 fn fz11 jz11 hh7 hiz11_0 hjz11 c_12) fz11 r_13 (fz11 + 1) (g_14 0) (g_14 1) (g_14 2) (g_14 3) (g_14 4) (ga_15 0) (ga_15 1) (ga_15 2) (ga_15 3) (ga_15 4) (ga_15 5) _ _ _ (lf_g_farthestNow_2 fn fz11 jz11 hh7 hiz11_0 hjz11 c_12) (c_19) (c_20) (c_21) (c_22) rfl (hP.sub [10, 0, 1, 2, 3, 4, 5, 6, 7, 8, 9] rfl) (hD.sub [10, 0, 1, 2, 3, 4, 5, 6, 7, 8, 9] (by decide +kernel) rfl) hS (lv_sub hl [0, 1, 2, 5, 6, 7] rfl)
      · refine lv_iload hx₀ hb dX12_askOf_38 (lv_at hl 0 rfl) ?_
        refine lv_iload hx₀ hb dX12_askOf_40 (lv_at hl 2 rfl) ?_
        refine lv_icmp_ge (tgt := 49) hx₀ hb dX12_askOf_42 (by decide) (fun c_24 => ?_) (fun c_24 => ?_)
        · refine lv_iconst (v := 0) hx₀ hb dX12_askOf_49 (by decide +kernel) ?_
          refine lv_istore (lv' := [(7, .int 0), (6, .int r_13), (5, .int fz11), (4, .int lsz11), (3, .int bez11), (2, .int r_1), (0, .ref hm), (1, .int p1)]) hx₀ hb dX12_askOf_50 hl (by decide) rfl (fun ls hl => ?_)
          refine lv_iload hx₀ hb dX12_askOf_52 (lv_at hl 0 rfl) ?_
          refine lv_if_eq (tgt := 62) hx₀ hb dX12_askOf_54 (by decide) (fun _ => ?_) (fun c9 => absurd (by decide +kernel) c9)
          refine lv_iload_n hx₀ hb dX12_askOf_62 rfl (lv_at hl 4 rfl) ?_
          refine lv_istore_n (lv' := [(3, .int bez11), (7, .int 0), (6, .int r_13), (5, .int fz11), (4, .int lsz11), (2, .int r_1), (0, .ref hm), (1, .int p1)]) hx₀ hb dX12_askOf_63 rfl hl (by decide) rfl (fun ls hl => ?_)
          refine lv_iload hx₀ hb dX12_askOf_64 (lv_at hl 1 rfl) ?_
          refine lv_if_eq (tgt := 74) hx₀ hb dX12_askOf_66 (by decide) (fun _ => ?_) (fun c9 => absurd (by decide +kernel) c9)
          refine lv_iload hx₀ hb dX12_askOf_74 (lv_at hl 4 rfl) ?_
          refine lv_istore (lv' := [(4, .int lsz11), (3, .int bez11), (7, .int 0), (6, .int r_13), (5, .int fz11), (2, .int r_1), (0, .ref hm), (1, .int p1)]) hx₀ hb dX12_askOf_76 hl (by decide) rfl (fun ls hl => ?_)
          refine lv_iinc (v := fz11 + 1) (lv' := [(5, .int (fz11 + 1)), (4, .int lsz11), (3, .int bez11), (7, .int 0), (6, .int r_13), (2, .int r_1), (0, .ref hm), (1, .int p1)]) hx₀ hb dX12_askOf_78 hl (k := 4) rfl rfl (by decide) rfl (fun ls hl => ?_)
          refine lv_goto (tgt := 14) hx₀ hb dX12_askOf_81 (by decide) ?_
          exact ihz11 _ (lf_g_farthestNow_3 fn fz11 jz11 hh7 hiz11_0 hjz11 c_12) bez11 lsz11 (fz11 + 1) (g_14 0) (g_14 1) (g_14 2) (g_14 3) (g_14 4) (ga_15 0) (ga_15 1) (ga_15 2) (ga_15 3) (ga_15 4) (ga_15 5) _ _ _ (lf_g_farthestNow_2 fn fz11 jz11 hh7 hiz11_0 hjz11 c_12) (c_19) (c_20) (c_21) (c_22) rfl (hP.sub [10, 0, 1, 2, 3, 4, 5, 6, 7, 8, 9] rfl) (hD.sub [10, 0, 1, 2, 3, 4, 5, 6, 7, 8, 9] (by decide +kernel) rfl) hS (lv_sub hl [0, 1, 2, 5, 6, 7] rfl)
        · refine lv_iconst (v := 1) hx₀ hb dX12_askOf_45 (by decide +kernel) ?_
          refine lv_goto (tgt := 50) hx₀ hb dX12_askOf_46 (by decide) ?_
          refine lv_istore (lv' := [(7, .int 1), (6, .int r_13), (5, .int fz11), (4, .int lsz11), (3, .int bez11), (2, .int r_1), (0, .ref hm), (1, .int p1)]) hx₀ hb dX12_askOf_50 hl (by decide) rfl (fun ls hl => ?_)
          refine lv_iload hx₀ hb dX12_askOf_52 (lv_at hl 0 rfl) ?_
          refine lv_if_eq (tgt := 62) hx₀ hb dX12_askOf_54 (by decide) (fun c9 => absurd c9 (by decide +kernel)) (fun _ => ?_)
          refine lv_iload hx₀ hb dX12_askOf_57 (lv_at hl 2 rfl) ?_
          refine lv_goto (tgt := 63) hx₀ hb dX12_askOf_59 (by decide) ?_
          refine lv_istore_n (lv' := [(3, .int fz11), (7, .int 1), (6, .int r_13), (5, .int fz11), (4, .int lsz11), (2, .int r_1), (0, .ref hm), (1, .int p1)]) hx₀ hb dX12_askOf_63 rfl hl (by decide) rfl (fun ls hl => ?_)
          refine lv_iload hx₀ hb dX12_askOf_64 (lv_at hl 1 rfl) ?_
          refine lv_if_eq (tgt := 74) hx₀ hb dX12_askOf_66 (by decide) (fun c9 => absurd c9 (by decide +kernel)) (fun _ => ?_)
          refine lv_iload hx₀ hb dX12_askOf_69 (lv_at hl 2 rfl) ?_
          refine lv_goto (tgt := 76) hx₀ hb dX12_askOf_71 (by decide) ?_
          refine lv_istore (lv' := [(4, .int r_13), (3, .int fz11), (7, .int 1), (6, .int r_13), (5, .int fz11), (2, .int r_1), (0, .ref hm), (1, .int p1)]) hx₀ hb dX12_askOf_76 hl (by decide) rfl (fun ls hl => ?_)
          refine lv_iinc (v := fz11 + 1) (lv' := [(5, .int (fz11 + 1)), (4, .int r_13), (3, .int fz11), (7, .int 1), (6, .int r_13), (2, .int r_1), (0, .ref hm), (1, .int p1)]) hx₀ hb dX12_askOf_78 hl (k := 4) rfl rfl (by decide) rfl (fun ls hl => ?_)
          refine lv_goto (tgt := 14) hx₀ hb dX12_askOf_81 (by decide) ?_
          exact ihz11 _ (lf_g_farthestNow_3 fn fz11 jz11 hh7 hiz11_0 hjz11 c_12) fz11 r_13 (fz11 + 1) (g_14 0) (g_14 1) (g_14 2) (g_14 3) (g_14 4) (ga_15 0) (ga_15 1) (ga_15 2) (ga_15 3) (ga_15 4) (ga_15 5) _ _ _ (lf_g_farthestNow_2 fn fz11 jz11 hh7 hiz11_0 hjz11 c_12) (c_19) (c_20) (c_21) (c_22) rfl (hP.sub [10, 0, 1, 2, 3, 4, 5, 6, 7, 8, 9] rfl) (hD.sub [10, 0, 1, 2, 3, 4, 5, 6, 7, 8, 9] (by decide +kernel) rfl) hS (lv_sub hl [0, 1, 2, 5, 6, 7] rfl)
theorem lf_g_towns_1 (a0 : Int32) (a1 : Int32) (a2 : Int32) (a3 : Nat) (h0 : 0 ≤ a0 ∧ a0 ≤ 24) (h1 : 0 ≤ a1 ∧ a1 ≤ a0) (h2 : 0 ≤ a2 ∧ a2 ≤ a1) (h3 : (a0.toInt - a1.toInt).toNat = a3) (h4 : a0 ≤ a1) : 0 ≤ (a2 : Int32) ∧ (a2 : Int32) ≤ 24 := by
  first | rfl | assumption | decide | exact Or.inl rfl | (first | omega | (have hr0 := Int32.toInt_lt a0; have hs0 := Int32.le_toInt a0; have hr1 := Int32.toInt_lt a1; have hs1 := Int32.le_toInt a1; have hr2 := Int32.toInt_lt a2; have hs2 := Int32.le_toInt a2; simp only [Int64.toInt_add, Int64.toInt_sub, Int32.toInt_add, Int32.toInt_sub, Int32.toInt_mul, Int64.le_iff_toInt_le, Int64.lt_iff_toInt_lt, Int32.le_iff_toInt_le, Int32.lt_iff_toInt_lt, ← Int32.toInt_inj, ← Int64.toInt_inj, Int32.toInt_toInt64, kc_0, kc_24] at *; (first | omega | ((try simp (disch := omega) only [k_bm64] at *); (try simp (disch := omega) only [k_bm] at *); (try simp (disch := omega) only [k_bm] at *); omega) | (simp only [Int.bmod] at *; omega))))
theorem lf_g_towns_2 (a0 : Int32) (a1 : Int32) (a2 : Int32) (a3 : Nat) (h0 : 0 ≤ a0 ∧ a0 ≤ 24) (h1 : 0 ≤ a1 ∧ a1 ≤ a0) (h2 : 0 ≤ a2 ∧ a2 ≤ a1) (h3 : (a0.toInt - a1.toInt).toNat = a3) (h4 : ¬ a0 ≤ a1) : 0 ≤ a1.toInt ∧ a1.toInt < 24 := by
  first | rfl | assumption | decide | exact Or.inl rfl | (first | omega | (have hr0 := Int32.toInt_lt a0; have hs0 := Int32.le_toInt a0; have hr1 := Int32.toInt_lt a1; have hs1 := Int32.le_toInt a1; have hr2 := Int32.toInt_lt a2; have hs2 := Int32.le_toInt a2; simp only [Int64.toInt_add, Int64.toInt_sub, Int32.toInt_add, Int32.toInt_sub, Int32.toInt_mul, Int64.le_iff_toInt_le, Int64.lt_iff_toInt_lt, Int32.le_iff_toInt_le, Int32.lt_iff_toInt_lt, ← Int32.toInt_inj, ← Int64.toInt_inj, Int32.toInt_toInt64, kc_0, kc_24] at *; (first | omega | ((try simp (disch := omega) only [k_bm64] at *); (try simp (disch := omega) only [k_bm] at *); (try simp (disch := omega) only [k_bm] at *); omega) | (simp only [Int.bmod] at *; omega))))
theorem lf_g_towns_3 (a0 : Int32) (a1 : Int32) (a2 : Int32) (a3 : Nat) (h0 : 0 ≤ a0 ∧ a0 ≤ 24) (h1 : 0 ≤ a1 ∧ a1 ≤ a0) (h2 : 0 ≤ a2 ∧ a2 ≤ a1) (h3 : (a0.toInt - a1.toInt).toNat = a3) (h4 : ¬ a0 ≤ a1) : 0 ≤ (a1 + 1) ∧ (a1 + 1) ≤ a0 := by
  first | rfl | assumption | decide | exact Or.inl rfl | (first | omega | (have hr0 := Int32.toInt_lt a0; have hs0 := Int32.le_toInt a0; have hr1 := Int32.toInt_lt a1; have hs1 := Int32.le_toInt a1; have hr2 := Int32.toInt_lt a2; have hs2 := Int32.le_toInt a2; simp only [Int64.toInt_add, Int64.toInt_sub, Int32.toInt_add, Int32.toInt_sub, Int32.toInt_mul, Int64.le_iff_toInt_le, Int64.lt_iff_toInt_lt, Int32.le_iff_toInt_le, Int32.lt_iff_toInt_lt, ← Int32.toInt_inj, ← Int64.toInt_inj, Int32.toInt_toInt64, kc_0, kc_1, kc_24] at *; (first | omega | ((try simp (disch := omega) only [k_bm64] at *); (try simp (disch := omega) only [k_bm] at *); (try simp (disch := omega) only [k_bm] at *); omega) | (simp only [Int.bmod] at *; omega))))
theorem lf_g_towns_4 (a0 : Int32) (a1 : Int32) (a2 : Int32) (a3 : Nat) (h0 : 0 ≤ a0 ∧ a0 ≤ 24) (h1 : 0 ≤ a1 ∧ a1 ≤ a0) (h2 : 0 ≤ a2 ∧ a2 ≤ a1) (h3 : (a0.toInt - a1.toInt).toNat = a3) (h4 : ¬ a0 ≤ a1) : 0 ≤ (a2 + 0) ∧ (a2 + 0) ≤ (a1 + 1) := by
  first | rfl | assumption | decide | exact Or.inl rfl | (first | omega | (have hr0 := Int32.toInt_lt a0; have hs0 := Int32.le_toInt a0; have hr1 := Int32.toInt_lt a1; have hs1 := Int32.le_toInt a1; have hr2 := Int32.toInt_lt a2; have hs2 := Int32.le_toInt a2; simp only [Int64.toInt_add, Int64.toInt_sub, Int32.toInt_add, Int32.toInt_sub, Int32.toInt_mul, Int64.le_iff_toInt_le, Int64.lt_iff_toInt_lt, Int32.le_iff_toInt_le, Int32.lt_iff_toInt_lt, ← Int32.toInt_inj, ← Int64.toInt_inj, Int32.toInt_toInt64, kc_0, kc_1, kc_24] at *; (first | omega | ((try simp (disch := omega) only [k_bm64] at *); (try simp (disch := omega) only [k_bm] at *); (try simp (disch := omega) only [k_bm] at *); omega) | (simp only [Int.bmod] at *; omega))))
theorem lf_g_towns_5 (a0 : Int32) (a1 : Int32) (a2 : Int32) (a3 : Nat) (h0 : 0 ≤ a0 ∧ a0 ≤ 24) (h1 : 0 ≤ a1 ∧ a1 ≤ a0) (h2 : 0 ≤ a2 ∧ a2 ≤ a1) (h3 : (a0.toInt - a1.toInt).toNat = a3) (h4 : ¬ a0 ≤ a1) : (a0.toInt - (a1 + 1).toInt).toNat < a3 := by
  first | rfl | assumption | decide | exact Or.inl rfl | (first | omega | (have hr0 := Int32.toInt_lt a0; have hs0 := Int32.le_toInt a0; have hr1 := Int32.toInt_lt a1; have hs1 := Int32.le_toInt a1; have hr2 := Int32.toInt_lt a2; have hs2 := Int32.le_toInt a2; simp only [Int64.toInt_add, Int64.toInt_sub, Int32.toInt_add, Int32.toInt_sub, Int32.toInt_mul, Int64.le_iff_toInt_le, Int64.lt_iff_toInt_lt, Int32.le_iff_toInt_le, Int32.lt_iff_toInt_lt, ← Int32.toInt_inj, ← Int64.toInt_inj, Int32.toInt_toInt64, kc_0, kc_1, kc_24] at *; (first | omega | ((try simp (disch := omega) only [k_bm64] at *); (try simp (disch := omega) only [k_bm] at *); (try simp (disch := omega) only [k_bm] at *); omega) | (simp only [Int.bmod] at *; omega))))
theorem lf_g_towns_6 (a0 : Int32) (a1 : Int32) (a2 : Int32) (a3 : Nat) (h0 : 0 ≤ a0 ∧ a0 ≤ 24) (h1 : 0 ≤ a1 ∧ a1 ≤ a0) (h2 : 0 ≤ a2 ∧ a2 ≤ a1) (h3 : (a0.toInt - a1.toInt).toNat = a3) (h4 : ¬ a0 ≤ a1) : 0 ≤ (a2 + 1) ∧ (a2 + 1) ≤ (a1 + 1) := by
  first | rfl | assumption | decide | exact Or.inl rfl | (first | omega | (have hr0 := Int32.toInt_lt a0; have hs0 := Int32.le_toInt a0; have hr1 := Int32.toInt_lt a1; have hs1 := Int32.le_toInt a1; have hr2 := Int32.toInt_lt a2; have hs2 := Int32.le_toInt a2; simp only [Int64.toInt_add, Int64.toInt_sub, Int32.toInt_add, Int32.toInt_sub, Int32.toInt_mul, Int64.le_iff_toInt_le, Int64.lt_iff_toInt_lt, Int32.le_iff_toInt_le, Int32.lt_iff_toInt_lt, ← Int32.toInt_inj, ← Int64.toInt_inj, Int32.toInt_toInt64, kc_0, kc_1, kc_24] at *; (first | omega | ((try simp (disch := omega) only [k_bm64] at *); (try simp (disch := omega) only [k_bm] at *); (try simp (disch := omega) only [k_bm] at *); omega) | (simp only [Int.bmod] at *; omega))))
set_option maxHeartbeats 4000000 in
set_option maxRecDepth 100000 in
theorem g_towns (l : Launch) (dC : Nat → ClassId) (dI : Nat → Nat → Nat) (cI cJ cQ : ClassId) (sz : Nat) (hm : Nat) (vFo : Nat) (vSi : Nat) (vIt : Nat) (vMo : Nat) (la : Int32) (vBy : Nat) (vTy : Nat) (mi : Int32) (vMi : Nat) (pn : Int32) (vPs : Nat) (gn : Int32) (vGs : Nat) (fn : Int32) (vFt : Nat) (le : Int32) (vTo : Nat) (kn : Int32) (fe : Int32) (en : Int32) (ca : Int32) (an : Int32) (co : Int32) (vPr : Nat) (vSt : Nat) (vFn : Nat) (sn : Int32) (vSg : Nat) (vAl : Nat) (dr : Int32) (qMi : Nat → Int32) (hh0 : 0 ≤ mi ∧ mi ≤ 24) : Met l yX12_towns (kW yX12_towns cX12_towns 3 (some .int)) { frames := 0, cells := 0, slots := 0, locals := 0 } (kPre dC dI cI cJ cQ sz [.ref hm] [(kX12 hm vFo vSi vIt vMo la vBy vTy mi vMi pn vPs gn vGs fn vFt le vTo kn fe en ca an co vPr vSt vFn sn vSg vAl dr), (kAI vMi cI 24 qMi)]) (va_Qi (fun (r : Int32) (u : Unit) => (0 ≤ r ∧ r ≤ 24)) (fun (u : Unit) t₀ => kB dC dI cI cJ cQ (va_A [(kX12 hm vFo vSi vIt vMo la vBy vTy mi vMi pn vPs gn vGs fn vFt le vTo kn fe en ca an co vPr vSt vFn sn vSg vAl dr), (kAI vMi cI 24 qMi)] sz) [(kX12 hm vFo vSi vIt vMo la vBy vTy mi vMi pn vPs gn vGs fn vFt le vTo kn fe en ca an co vPr vSt vFn sn vSg vAl dr), (kAI vMi cI 24 qMi)] t₀) (va_A [(kX12 hm vFo vSi vIt vMo la vBy vTy mi vMi pn vPs gn vGs fn vFt le vTo kn fe en ca an co vPr vSt vFn sn vSg vAl dr), (kAI vMi cI 24 qMi)] sz)) 0 0 (va_A [(kX12 hm vFo vSi vIt vMo la vBy vTy mi vMi pn vPs gn vGs fn vFt le vTo kn fe en ca an co vPr vSt vFn sn vSg vAl dr), (kAI vMi cI 24 qMi)] sz) := by
  refine Met.ofW (cc := cX12_towns) (maxL := 3) (ret := (some .int)) (by decide) rfl ?_
  intro p₀ e₀ s₀ m₀ args below meth c₀ s₁ B hml hv₀
  obtain ⟨rfl, hsz, hP, hK, hD0, hN⟩ := hv₀
  have hx₀ := B.exec
  have hb := B.bytes
  have hr := B.returns
  have hts := atoms_spec (ws := (kW yX12_towns cX12_towns 3 (some .int))) B.pre
  have hts := fun w h => hts w (List.mem_cons_of_mem _ h)
  have hown : s₀.vm.findClass RX12 = some m₀.cls := findClass_of_methodNamed B.named
  have hlocks := B.notSynchronized
  subst hsz
  have hD := hD0.self (sz := s₀.heap.size)
  generalize hAe : va_A [(kX12 hm vFo vSi vIt vMo la vBy vTy mi vMi pn vPs gn vGs fn vFt le vTo kn fe en ca an co vPr vSt vFn sn vSg vAl dr), (kAI vMi cI 24 qMi)] s₀.heap.size = A at hD ⊢
  have hA : ∀ q : Nat, s₀.heap.size ≤ q → A q := fun q h => by rw [← hAe]; exact Or.inr h
  have hS : va_S A s₀.heap s₀.heap [] := va_S.rf
  have hP : va_P (dC, dI) vwCl [(kX12 hm vFo vSi vIt vMo la vBy vTy mi vMi pn vPs gn vGs fn vFt le vTo kn fe en ca an co vPr vSt vFn sn vSg vAl dr), (kAI vMi cI 24 qMi)] s₀.heap := hP
  have hl := lv_entry ([.ref hm]) (n := 3) (Nat.le_of_ble_eq_true rfl)
  rw [lg_entry_eq]
  generalize (lg_sl ([.ref hm]) ++ List.replicate (3 - (lg_sl ([.ref hm])).length) Slot.unset).toArray = ls at hl ⊢
  have hl : lv_has ls 3 [(0, .ref hm)] := hl
  obtain ⟨H, hH⟩ : ∃ z : Heap, z = s₀.heap := ⟨_, rfl⟩
  rw [← hH] at hP
  have hS : va_S A s₀.heap H [] := by rw [hH]; exact hS
  refine k_heap hH ?_
  have hD : va_D A [(kX12 hm vFo vSi vIt vMo la vBy vTy mi vMi pn vPs gn vGs fn vFt le vTo kn fe en ca an co vPr vSt vFn sn vSg vAl dr), (kAI vMi cI 24 qMi)] := hD
  obtain ⟨locs, hlo⟩ : ∃ z : List Loc, z = [] := ⟨_, rfl⟩
  rw [← hlo] at hS ⊢
  clear hlo hH hAe hD0
  refine lv_iconst (v := 0) hx₀ hb dX12_towns_0 (by decide +kernel) ?_
  refine lv_istore_n (lv' := [(1, .int 0), (0, .ref hm)]) hx₀ hb dX12_towns_1 rfl hl (by decide) rfl (fun ls hl => ?_)
  refine lv_iconst (v := 0) hx₀ hb dX12_towns_2 (by decide +kernel) ?_
  refine lv_istore_n (lv' := [(2, .int 0), (1, .int 0), (0, .ref hm)]) hx₀ hb dX12_towns_3 rfl hl (by decide) rfl (fun ls hl => ?_)
  refine (?keyz1 : ∀ (jz1 : Nat) (nz1 : Int32) (iz1 : Int32) (H : Heap) (locs : List Loc) (ls : Array Slot), (0 ≤ iz1 ∧ iz1 ≤ mi) → (0 ≤ nz1 ∧ nz1 ≤ iz1) → ((mi.toInt - iz1.toInt).toNat = jz1) → va_P (dC, dI) vwCl [(kX12 hm vFo vSi vIt vMo la vBy vTy mi vMi pn vPs gn vGs fn vFt le vTo kn fe en ca an co vPr vSt vFn sn vSg vAl dr), (kAI vMi cI 24 qMi)] H → va_D A [(kX12 hm vFo vSi vIt vMo la vBy vTy mi vMi pn vPs gn vGs fn vFt le vTo kn fe en ca an co vPr vSt vFn sn vSg vAl dr), (kAI vMi cI 24 qMi)] → va_S A s₀.heap H locs → lv_has ls 3 [(2, .int iz1), (1, .int nz1), (0, .ref hm)] → W p₀ l e₀ _ s₀ m₀ _ below meth c₀ H locs _ _ _ (F0 m₀ 4 ls [])) _ (0 : Int32) (0 : Int32) H locs ls (show 0 ≤ (0 : Int32) ∧ (0 : Int32) ≤ mi from ⟨(by decide), hh0.1⟩) (show 0 ≤ (0 : Int32) ∧ (0 : Int32) ≤ (0 : Int32) from ⟨(by decide), (by decide)⟩) rfl hP hD hS hl
  clear hP hD hS hl
  intro jz1
  induction jz1 using Nat.strongRecOn with
  | ind jz1 ihz1 =>
    intro nz1 iz1 H locs ls hiz1_0 hiz1_1 hjz1 hP hD hS hl
    refine lv_iload_n hx₀ hb dX12_towns_4 rfl (lv_at hl 0 rfl) ?_
    refine lv_aload_n hx₀ hb dX12_towns_5 rfl (lv_at hl 2 rfl) ?_
    refine va_get (D := (dC, dI)) (ci := 11) (v := .int mi) (C := RX12) (T := TX12) (N := 30) hx₀ hb hts inlX12 hown hK hP 0 rfl rfl 7 (by decide) (hts (.fieldLink RX12 107 "BittenStickModel" "miles" "I") wd_252) (fun _ h9 => h9) rfl dX12_towns_6 ?_
    refine lv_icmp_ge (tgt := 37) hx₀ hb dX12_towns_9 (by decide) (fun c_2 => ?_) (fun c_2 => ?_)
    · refine lv_iload_n hx₀ hb dX12_towns_37 rfl (lv_at hl 1 rfl) ?_
      obtain ⟨hP9, hD9⟩ := k_c2 (wc := [(kX12 hm vFo vSi vIt vMo la vBy vTy mi vMi pn vPs gn vGs fn vFt le vTo kn fe en ca an co vPr vSt vFn sn vSg vAl dr), (kAI vMi cI 24 qMi)]) hP hD [0, 1] (by decide +kernel) rfl
      exact W.iret (v := nz1) hx₀ hb hr (fun t₀ ht hW => ⟨⟨nz1, (), rfl, (lf_g_towns_1 mi iz1 nz1 jz1 hh0 hiz1_0 hiz1_1 hjz1 c_2), by rw [ht]; exact hP9, va_K.moved hW.alike hK, hD9⟩, hS.F ht⟩) hS.2.2 dX12_towns_38
    · refine lv_iload_n hx₀ hb dX12_towns_12 rfl (lv_at hl 1 rfl) ?_
      refine lv_aload_n hx₀ hb dX12_towns_13 rfl (lv_at hl 2 rfl) ?_
      refine va_get (D := (dC, dI)) (ci := 11) (v := .ref vMi) (C := RX12) (T := TX12) (N := 30) hx₀ hb hts inlX12 hown hK hP 0 rfl rfl 8 (by decide) (hts (.fieldLink RX12 28 "BittenStickModel" "mile" "[I") wd_121) (fun _ h9 => h9) rfl dX12_towns_14 ?_
      refine lv_iload_n hx₀ hb dX12_towns_17 rfl (lv_at hl 0 rfl) ?_
      refine va_iald hx₀ hb hK hP 1 0 rfl rfl (vp_in_iff.mpr (lf_g_towns_2 mi iz1 nz1 jz1 hh0 hiz1_0 hiz1_1 hjz1 c_2)) dX12_towns_18 ?_
      refine lv_topi (fun y_3 ey_3 => ?_)
      refine lv_bipush (v := 6) hx₀ hb dX12_towns_19 (by decide +kernel) ?_
      refine lv_icmp_ge (tgt := 28) hx₀ hb dX12_towns_21 (by decide) (fun c_4 => ?_) (fun c_4 => ?_)
      · refine lv_iconst (v := 0) hx₀ hb dX12_towns_28 (by decide +kernel) ?_
        refine lv_iadd hx₀ hb dX12_towns_29 ?_
        refine lv_istore_n (lv' := [(1, .int (nz1 + 0)), (2, .int iz1), (0, .ref hm)]) hx₀ hb dX12_towns_30 rfl hl (by decide) rfl (fun ls hl => ?_)
        refine lv_iinc (v := iz1 + 1) (lv' := [(2, .int (iz1 + 1)), (1, .int (nz1 + 0)), (0, .ref hm)]) hx₀ hb dX12_towns_31 hl (k := 1) rfl rfl (by decide) rfl (fun ls hl => ?_)
        refine lv_goto (tgt := 4) hx₀ hb dX12_towns_34 (by decide) ?_
        exact ihz1 _ (lf_g_towns_5 mi iz1 nz1 jz1 hh0 hiz1_0 hiz1_1 hjz1 c_2) (nz1 + 0) (iz1 + 1) _ _ _ (lf_g_towns_3 mi iz1 nz1 jz1 hh0 hiz1_0 hiz1_1 hjz1 c_2) (lf_g_towns_4 mi iz1 nz1 jz1 hh0 hiz1_0 hiz1_1 hjz1 c_2) rfl (hP.sub [0, 1] rfl) (hD.sub [0, 1] (by decide +kernel) rfl) hS (lv_sub hl [0, 1, 2] rfl)
      · refine lv_iconst (v := 1) hx₀ hb dX12_towns_24 (by decide +kernel) ?_
        refine lv_goto (tgt := 29) hx₀ hb dX12_towns_25 (by decide) ?_
        refine lv_iadd hx₀ hb dX12_towns_29 ?_
        refine lv_istore_n (lv' := [(1, .int (nz1 + 1)), (2, .int iz1), (0, .ref hm)]) hx₀ hb dX12_towns_30 rfl hl (by decide) rfl (fun ls hl => ?_)
        refine lv_iinc (v := iz1 + 1) (lv' := [(2, .int (iz1 + 1)), (1, .int (nz1 + 1)), (0, .ref hm)]) hx₀ hb dX12_towns_31 hl (k := 1) rfl rfl (by decide) rfl (fun ls hl => ?_)
        refine lv_goto (tgt := 4) hx₀ hb dX12_towns_34 (by decide) ?_
        exact ihz1 _ (lf_g_towns_5 mi iz1 nz1 jz1 hh0 hiz1_0 hiz1_1 hjz1 c_2) (nz1 + 1) (iz1 + 1) _ _ _ (lf_g_towns_3 mi iz1 nz1 jz1 hh0 hiz1_0 hiz1_1 hjz1 c_2) (lf_g_towns_6 mi iz1 nz1 jz1 hh0 hiz1_0 hiz1_1 hjz1 c_2) rfl (hP.sub [0, 1] rfl) (hD.sub [0, 1] (by decide +kernel) rfl) hS (lv_sub hl [0, 1, 2] rfl)
theorem lf_g_calls_1 (a0 : Int32) (a1 : Int32) (a2 : Nat) (h0 : 0 ≤ a0 ∧ a0 ≤ 24) (h1 : 0 ≤ a1 ∧ a1 ≤ a0) (h2 : (a0.toInt - a1.toInt).toNat = a2) (h3 : ¬ a0 ≤ a1) : 0 ≤ a1.toInt ∧ a1.toInt < 24 := by
  first | rfl | assumption | decide | exact Or.inl rfl | (first | omega | (have hr0 := Int32.toInt_lt a0; have hs0 := Int32.le_toInt a0; have hr1 := Int32.toInt_lt a1; have hs1 := Int32.le_toInt a1; simp only [Int64.toInt_add, Int64.toInt_sub, Int32.toInt_add, Int32.toInt_sub, Int32.toInt_mul, Int64.le_iff_toInt_le, Int64.lt_iff_toInt_lt, Int32.le_iff_toInt_le, Int32.lt_iff_toInt_lt, ← Int32.toInt_inj, ← Int64.toInt_inj, Int32.toInt_toInt64, kc_0, kc_24] at *; (first | omega | ((try simp (disch := omega) only [k_bm64] at *); (try simp (disch := omega) only [k_bm] at *); (try simp (disch := omega) only [k_bm] at *); omega) | (simp only [Int.bmod] at *; omega))))
theorem lf_g_calls_2 (a0 : Int32) (a1 : Int32) (a2 : Nat) (h0 : 0 ≤ a0 ∧ a0 ≤ 24) (h1 : 0 ≤ a1 ∧ a1 ≤ a0) (h2 : (a0.toInt - a1.toInt).toNat = a2) (h3 : ¬ a0 ≤ a1) : 0 ≤ (a1 + 1) ∧ (a1 + 1) ≤ a0 := by
  first | rfl | assumption | decide | exact Or.inl rfl | (first | omega | (have hr0 := Int32.toInt_lt a0; have hs0 := Int32.le_toInt a0; have hr1 := Int32.toInt_lt a1; have hs1 := Int32.le_toInt a1; simp only [Int64.toInt_add, Int64.toInt_sub, Int32.toInt_add, Int32.toInt_sub, Int32.toInt_mul, Int64.le_iff_toInt_le, Int64.lt_iff_toInt_lt, Int32.le_iff_toInt_le, Int32.lt_iff_toInt_lt, ← Int32.toInt_inj, ← Int64.toInt_inj, Int32.toInt_toInt64, kc_0, kc_1, kc_24] at *; (first | omega | ((try simp (disch := omega) only [k_bm64] at *); (try simp (disch := omega) only [k_bm] at *); (try simp (disch := omega) only [k_bm] at *); omega) | (simp only [Int.bmod] at *; omega))))
theorem lf_g_calls_3 (a0 : Int32) (a1 : Int32) (a2 : Nat) (h0 : 0 ≤ a0 ∧ a0 ≤ 24) (h1 : 0 ≤ a1 ∧ a1 ≤ a0) (h2 : (a0.toInt - a1.toInt).toNat = a2) (h3 : ¬ a0 ≤ a1) : (a0.toInt - (a1 + 1).toInt).toNat < a2 := by
  first | rfl | assumption | decide | exact Or.inl rfl | (first | omega | (have hr0 := Int32.toInt_lt a0; have hs0 := Int32.le_toInt a0; have hr1 := Int32.toInt_lt a1; have hs1 := Int32.le_toInt a1; simp only [Int64.toInt_add, Int64.toInt_sub, Int32.toInt_add, Int32.toInt_sub, Int32.toInt_mul, Int64.le_iff_toInt_le, Int64.lt_iff_toInt_lt, Int32.le_iff_toInt_le, Int32.lt_iff_toInt_lt, ← Int32.toInt_inj, ← Int64.toInt_inj, Int32.toInt_toInt64, kc_0, kc_1, kc_24] at *; (first | omega | ((try simp (disch := omega) only [k_bm64] at *); (try simp (disch := omega) only [k_bm] at *); (try simp (disch := omega) only [k_bm] at *); omega) | (simp only [Int.bmod] at *; omega))))
set_option maxHeartbeats 4000000 in
set_option maxRecDepth 100000 in
theorem g_calls (l : Launch) (dC : Nat → ClassId) (dI : Nat → Nat → Nat) (cI cJ cQ : ClassId) (sz : Nat) (hm : Nat) (so : Int32) (vFo : Nat) (vSi : Nat) (vIt : Nat) (vMo : Nat) (la : Int32) (vBy : Nat) (vTy : Nat) (mi : Int32) (vMi : Nat) (pn : Int32) (vPs : Nat) (gn : Int32) (vGs : Nat) (fn : Int32) (vFt : Nat) (le : Int32) (vTo : Nat) (kn : Int32) (fe : Int32) (en : Int32) (ca : Int32) (an : Int32) (co : Int32) (vPr : Nat) (vSt : Nat) (vFn : Nat) (sn : Int32) (vSg : Nat) (vAl : Nat) (dr : Int32) (qMi : Nat → Int32) (hh0 : 0 ≤ mi ∧ mi ≤ 24) : Met l yX12_calls (kW yX12_calls cX12_calls 5 (some .int)) { frames := 1, cells := 0, slots := 0, locals := 21 } (kPre dC dI cI cJ cQ sz [.ref hm, .int so] [(kX12 hm vFo vSi vIt vMo la vBy vTy mi vMi pn vPs gn vGs fn vFt le vTo kn fe en ca an co vPr vSt vFn sn vSg vAl dr), (kAI vMi cI 24 qMi)]) (va_Qi (fun (r : Int32) (u : Unit) => True) (fun (u : Unit) t₀ => kB dC dI cI cJ cQ (va_A [(kX12 hm vFo vSi vIt vMo la vBy vTy mi vMi pn vPs gn vGs fn vFt le vTo kn fe en ca an co vPr vSt vFn sn vSg vAl dr), (kAI vMi cI 24 qMi)] sz) [(kX12 hm vFo vSi vIt vMo la vBy vTy mi vMi pn vPs gn vGs fn vFt le vTo kn fe en ca an co vPr vSt vFn sn vSg vAl dr), (kAI vMi cI 24 qMi)] t₀) (va_A [(kX12 hm vFo vSi vIt vMo la vBy vTy mi vMi pn vPs gn vGs fn vFt le vTo kn fe en ca an co vPr vSt vFn sn vSg vAl dr), (kAI vMi cI 24 qMi)] sz)) 0 0 (va_A [(kX12 hm vFo vSi vIt vMo la vBy vTy mi vMi pn vPs gn vGs fn vFt le vTo kn fe en ca an co vPr vSt vFn sn vSg vAl dr), (kAI vMi cI 24 qMi)] sz) := by
  refine Met.ofW (cc := cX12_calls) (maxL := 5) (ret := (some .int)) (by decide) rfl ?_
  intro p₀ e₀ s₀ m₀ args below meth c₀ s₁ B hml hv₀
  obtain ⟨rfl, hsz, hP, hK, hD0, hN⟩ := hv₀
  have hx₀ := B.exec
  have hb := B.bytes
  have hr := B.returns
  have hts := atoms_spec (ws := (kW yX12_calls cX12_calls 5 (some .int))) B.pre
  have hts := fun w h => hts w (List.mem_cons_of_mem _ h)
  have hown : s₀.vm.findClass RX12 = some m₀.cls := findClass_of_methodNamed B.named
  have hlocks := B.notSynchronized
  subst hsz
  have hD := hD0.self (sz := s₀.heap.size)
  generalize hAe : va_A [(kX12 hm vFo vSi vIt vMo la vBy vTy mi vMi pn vPs gn vGs fn vFt le vTo kn fe en ca an co vPr vSt vFn sn vSg vAl dr), (kAI vMi cI 24 qMi)] s₀.heap.size = A at hD ⊢
  have hA : ∀ q : Nat, s₀.heap.size ≤ q → A q := fun q h => by rw [← hAe]; exact Or.inr h
  have hS : va_S A s₀.heap s₀.heap [] := va_S.rf
  have hP : va_P (dC, dI) vwCl [(kX12 hm vFo vSi vIt vMo la vBy vTy mi vMi pn vPs gn vGs fn vFt le vTo kn fe en ca an co vPr vSt vFn sn vSg vAl dr), (kAI vMi cI 24 qMi)] s₀.heap := hP
  have hl := lv_entry ([.ref hm, .int so]) (n := 5) (Nat.le_of_ble_eq_true rfl)
  rw [lg_entry_eq]
  generalize (lg_sl ([.ref hm, .int so]) ++ List.replicate (5 - (lg_sl ([.ref hm, .int so])).length) Slot.unset).toArray = ls at hl ⊢
  have hl : lv_has ls 5 [(0, .ref hm), (1, .int so)] := hl
  obtain ⟨H, hH⟩ : ∃ z : Heap, z = s₀.heap := ⟨_, rfl⟩
  rw [← hH] at hP
  have hS : va_S A s₀.heap H [] := by rw [hH]; exact hS
  refine k_heap hH ?_
  have hD : va_D A [(kX12 hm vFo vSi vIt vMo la vBy vTy mi vMi pn vPs gn vGs fn vFt le vTo kn fe en ca an co vPr vSt vFn sn vSg vAl dr), (kAI vMi cI 24 qMi)] := hD
  obtain ⟨locs, hlo⟩ : ∃ z : List Loc, z = [] := ⟨_, rfl⟩
  rw [← hlo] at hS ⊢
  clear hlo hH hAe hD0
  refine lv_iconst (v := 0) hx₀ hb dX12_calls_0 (by decide +kernel) ?_
  refine lv_istore_n (lv' := [(2, .int 0), (0, .ref hm), (1, .int so)]) hx₀ hb dX12_calls_1 rfl hl (by decide) rfl (fun ls hl => ?_)
  refine lv_iconst (v := 0) hx₀ hb dX12_calls_2 (by decide +kernel) ?_
  refine lv_istore_n (lv' := [(3, .int 0), (2, .int 0), (0, .ref hm), (1, .int so)]) hx₀ hb dX12_calls_3 rfl hl (by decide) rfl (fun ls hl => ?_)
  refine lv_iconst (v := 0) hx₀ hb dX12_calls_4 (by decide +kernel) ?_
  refine lv_istore (lv' := [(4, .int 0), (3, .int 0), (2, .int 0), (0, .ref hm), (1, .int so)]) hx₀ hb dX12_calls_5 hl (by decide) rfl (fun ls hl => ?_)
  refine (?keyz1 : ∀ (jz1 : Nat) (biz1 : Int32) (kz1 : Int32) (iz1 : Int32) (H : Heap) (locs : List Loc) (ls : Array Slot), (0 ≤ iz1 ∧ iz1 ≤ mi) → ((mi.toInt - iz1.toInt).toNat = jz1) → va_P (dC, dI) vwCl [(kX12 hm vFo vSi vIt vMo la vBy vTy mi vMi pn vPs gn vGs fn vFt le vTo kn fe en ca an co vPr vSt vFn sn vSg vAl dr), (kAI vMi cI 24 qMi)] H → va_D A [(kX12 hm vFo vSi vIt vMo la vBy vTy mi vMi pn vPs gn vGs fn vFt le vTo kn fe en ca an co vPr vSt vFn sn vSg vAl dr), (kAI vMi cI 24 qMi)] → va_S A s₀.heap H locs → lv_has ls 5 [(4, .int iz1), (3, .int kz1), (2, .int biz1), (0, .ref hm), (1, .int so)] → W p₀ l e₀ _ s₀ m₀ _ below meth c₀ H locs _ _ _ (F0 m₀ 7 ls [])) _ (0 : Int32) (0 : Int32) (0 : Int32) H locs ls (show 0 ≤ (0 : Int32) ∧ (0 : Int32) ≤ mi from ⟨(by decide), hh0.1⟩) rfl hP hD hS hl
  clear hP hD hS hl
  intro jz1
  induction jz1 using Nat.strongRecOn with
  | ind jz1 ihz1 =>
    intro biz1 kz1 iz1 H locs ls hiz1_0 hjz1 hP hD hS hl
    refine lv_iload hx₀ hb dX12_calls_7 (lv_at hl 0 rfl) ?_
    refine lv_aload_n hx₀ hb dX12_calls_9 rfl (lv_at hl 3 rfl) ?_
    refine va_get (D := (dC, dI)) (ci := 11) (v := .int mi) (C := RX12) (T := TX12) (N := 30) hx₀ hb hts inlX12 hown hK hP 0 rfl rfl 7 (by decide) (hts (.fieldLink RX12 107 "BittenStickModel" "miles" "I") wd_252) (fun _ h9 => h9) rfl dX12_calls_10 ?_
    refine lv_icmp_ge (tgt := 56) hx₀ hb dX12_calls_13 (by decide) (fun c_2 => ?_) (fun c_2 => ?_)
    · refine lv_iload_n hx₀ hb dX12_calls_56 rfl (lv_at hl 2 rfl) ?_
      obtain ⟨hP9, hD9⟩ := k_c2 (wc := [(kX12 hm vFo vSi vIt vMo la vBy vTy mi vMi pn vPs gn vGs fn vFt le vTo kn fe en ca an co vPr vSt vFn sn vSg vAl dr), (kAI vMi cI 24 qMi)]) hP hD [0, 1] (by decide +kernel) rfl
      exact W.iret (v := biz1) hx₀ hb hr (fun t₀ ht hW => ⟨⟨biz1, (), rfl, trivial, by rw [ht]; exact hP9, va_K.moved hW.alike hK, hD9⟩, hS.F ht⟩) hS.2.2 dX12_calls_57
    · refine lv_aload_n hx₀ hb dX12_calls_16 rfl (lv_at hl 3 rfl) ?_
      refine va_get (D := (dC, dI)) (ci := 11) (v := .ref vMi) (C := RX12) (T := TX12) (N := 30) hx₀ hb hts inlX12 hown hK hP 0 rfl rfl 8 (by decide) (hts (.fieldLink RX12 28 "BittenStickModel" "mile" "[I") wd_121) (fun _ h9 => h9) rfl dX12_calls_17 ?_
      refine lv_iload hx₀ hb dX12_calls_20 (lv_at hl 0 rfl) ?_
      refine va_iald hx₀ hb hK hP 1 0 rfl rfl (vp_in_iff.mpr (lf_g_calls_1 mi iz1 jz1 hh0 hiz1_0 hjz1 c_2)) dX12_calls_22 ?_
      refine lv_topi (fun y_3 ey_3 => ?_)
      refine lv_bipush (v := 6) hx₀ hb dX12_calls_23 (by decide +kernel) ?_
      refine lv_icmp_ge (tgt := 50) hx₀ hb dX12_calls_25 (by decide) (fun c_4 => ?_) (fun c_4 => ?_)
      · refine lv_iinc (v := iz1 + 1) (lv' := [(4, .int (iz1 + 1)), (3, .int kz1), (2, .int biz1), (0, .ref hm), (1, .int so)]) hx₀ hb dX12_calls_50 hl (k := 0) rfl rfl (by decide) rfl (fun ls hl => ?_)
        refine lv_goto (tgt := 7) hx₀ hb dX12_calls_53 (by decide) ?_
        exact ihz1 _ (lf_g_calls_3 mi iz1 jz1 hh0 hiz1_0 hjz1 c_2) biz1 kz1 (iz1 + 1) _ _ _ (lf_g_calls_2 mi iz1 jz1 hh0 hiz1_0 hjz1 c_2) rfl (hP.sub [0, 1] rfl) (hD.sub [0, 1] (by decide +kernel) rfl) hS (lv_sub hl [0, 1, 2, 3, 4] rfl)
      · refine lv_iload_n hx₀ hb dX12_calls_28 rfl (lv_at hl 2 rfl) ?_
        refine lv_iload_n hx₀ hb dX12_calls_29 rfl (lv_at hl 4 rfl) ?_
        refine lv_iload_n hx₀ hb dX12_calls_30 rfl (lv_at hl 1 rfl) ?_
        obtain ⟨hPc, hDc, hFc, hC⟩ := k_cw (wc := []) hP hD hS hA [] (by decide +kernel) rfl
        refine va_calli (va_runS (As := [.int so, .int kz1]) (rest := [.int biz1]) ⟨hx₀, hb, hml, hown, hts⟩ (g_isIn l dC dI cI cJ cQ H.size so kz1) (va_cwS 2 hts (kGS wd_560 wd_558 wd_559 wd_5) rfl rfl rfl (by decide +kernel) ⟨Nat.le_of_ble_eq_true rfl, Nat.le_of_ble_eq_true rfl⟩) (k_preS hK hPc hDc hN) rfl rfl hl.1 rfl (lv_room (Nat.le_of_ble_eq_true rfl)) dX12_calls_31 ⟨by decide +kernel, by decide +kernel⟩) hS (fun q _ h => hFc q h) hFc (fun r_5 u₀ t₀ H1 locs ht hvm hw hB hz1 hk1 hS => ?_)
        obtain ⟨hP1, hK1, hD1⟩ := hB
        rw [ht] at hP1
        have hJ := k_jn (wr := [(kX12 hm vFo vSi vIt vMo la vBy vTy mi vMi pn vPs gn vGs fn vFt le vTo kn fe en ca an co vPr vSt vFn sn vSg vAl dr), (kAI vMi cI 24 qMi)]) (wt := [(kX12 hm vFo vSi vIt vMo la vBy vTy mi vMi pn vPs gn vGs fn vFt le vTo kn fe en ca an co vPr vSt vFn sn vSg vAl dr), (kAI vMi cI 24 qMi)]) hP hD hC [0, 1] rfl (by decide +kernel) (by decide +kernel) hk1 hFc hP1 hD1 rfl
        clear hP hD hPc hDc hFc hC hP1 hD1 hK1 hz1 hk1 hvm ht
        obtain ⟨hP, hD⟩ := hJ
        generalize H1 = H at hP hS ⊢
        try dsimp only at hw
        by_cases c_6 : ((so >>> (kz1 &&& 31)) &&& 1) = 1
        · rw [if_pos c_6] at hw
          refine k_topi (v := 1) hw ?_
          refine lv_if_eq (tgt := 44) hx₀ hb dX12_calls_34 (by decide) (fun c9 => absurd c9 (by decide +kernel)) (fun _ => ?_)
          refine lv_iconst (v := 1) hx₀ hb dX12_calls_37 (by decide +kernel) ?_
          refine lv_iload hx₀ hb dX12_calls_38 (lv_at hl 0 rfl) ?_
          refine lv_ishl hx₀ hb dX12_calls_40 ?_
          refine k_topi (v := kshl iz1) rfl ?_
          refine lv_goto (tgt := 45) hx₀ hb dX12_calls_41 (by decide) ?_
          refine lv_ior hx₀ hb dX12_calls_45 ?_
          refine lv_istore_n (lv' := [(2, .int (biz1 ||| (kshl iz1))), (4, .int iz1), (3, .int kz1), (0, .ref hm), (1, .int so)]) hx₀ hb dX12_calls_46 rfl hl (by decide) rfl (fun ls hl => ?_)
          refine lv_iinc (v := kz1 + 1) (lv' := [(3, .int (kz1 + 1)), (2, .int (biz1 ||| (kshl iz1))), (4, .int iz1), (0, .ref hm), (1, .int so)]) hx₀ hb dX12_calls_47 hl (k := 2) rfl rfl (by decide) rfl (fun ls hl => ?_)
          refine lv_iinc (v := iz1 + 1) (lv' := [(4, .int (iz1 + 1)), (3, .int (kz1 + 1)), (2, .int (biz1 ||| (kshl iz1))), (0, .ref hm), (1, .int so)]) hx₀ hb dX12_calls_50 hl (k := 2) rfl rfl (by decide) rfl (fun ls hl => ?_)
          refine lv_goto (tgt := 7) hx₀ hb dX12_calls_53 (by decide) ?_
          exact ihz1 _ (lf_g_calls_3 mi iz1 jz1 hh0 hiz1_0 hjz1 c_2) (biz1 ||| (kshl iz1)) (kz1 + 1) (iz1 + 1) _ _ _ (lf_g_calls_2 mi iz1 jz1 hh0 hiz1_0 hjz1 c_2) rfl (hP.sub [0, 1] rfl) (hD.sub [0, 1] (by decide +kernel) rfl) hS (lv_sub hl [0, 1, 2, 3, 4] rfl)
        rw [if_neg c_6] at hw
        refine k_topi (v := 0) hw ?_
        refine lv_if_eq (tgt := 44) hx₀ hb dX12_calls_34 (by decide) (fun _ => ?_) (fun c9 => absurd (by decide +kernel) c9)
        refine lv_iconst (v := 0) hx₀ hb dX12_calls_44 (by decide +kernel) ?_
        refine lv_ior hx₀ hb dX12_calls_45 ?_
        refine lv_istore_n (lv' := [(2, .int (biz1 ||| 0)), (4, .int iz1), (3, .int kz1), (0, .ref hm), (1, .int so)]) hx₀ hb dX12_calls_46 rfl hl (by decide) rfl (fun ls hl => ?_)
        refine lv_iinc (v := kz1 + 1) (lv' := [(3, .int (kz1 + 1)), (2, .int (biz1 ||| 0)), (4, .int iz1), (0, .ref hm), (1, .int so)]) hx₀ hb dX12_calls_47 hl (k := 2) rfl rfl (by decide) rfl (fun ls hl => ?_)
        refine lv_iinc (v := iz1 + 1) (lv' := [(4, .int (iz1 + 1)), (3, .int (kz1 + 1)), (2, .int (biz1 ||| 0)), (0, .ref hm), (1, .int so)]) hx₀ hb dX12_calls_50 hl (k := 2) rfl rfl (by decide) rfl (fun ls hl => ?_)
        refine lv_goto (tgt := 7) hx₀ hb dX12_calls_53 (by decide) ?_
        exact ihz1 _ (lf_g_calls_3 mi iz1 jz1 hh0 hiz1_0 hjz1 c_2) (biz1 ||| 0) (kz1 + 1) (iz1 + 1) _ _ _ (lf_g_calls_2 mi iz1 jz1 hh0 hiz1_0 hjz1 c_2) rfl (hP.sub [0, 1] rfl) (hD.sub [0, 1] (by decide +kernel) rfl) hS (lv_sub hl [0, 1, 2, 3, 4] rfl)
theorem lf_g_laughOf_1 (a0 : Int32) (h0 : 0 ≤ a0 ∧ a0 ≤ 10) (h1 : 1 ≤ kshl a0 ∧ kshl a0 ≤ 1024) (h2 : ¬ klsh a0 = 0) : 0 ≤ (0 : Int32) ∧ (0 : Int32) ≤ kshl a0 := by
  first | rfl | assumption | decide | exact Or.inl rfl | (first | omega | (have hr0 := Int32.toInt_lt a0; have hs0 := Int32.le_toInt a0; simp only [Int64.toInt_add, Int64.toInt_sub, Int32.toInt_add, Int32.toInt_sub, Int32.toInt_mul, Int64.le_iff_toInt_le, Int64.lt_iff_toInt_lt, Int32.le_iff_toInt_le, Int32.lt_iff_toInt_lt, ← Int32.toInt_inj, ← Int64.toInt_inj, Int32.toInt_toInt64, kc_0, kc_1, kc_10, kc_1024] at *; (first | omega | ((try simp (disch := omega) only [k_bm64] at *); (try simp (disch := omega) only [k_bm] at *); (try simp (disch := omega) only [k_bm] at *); omega) | (simp only [Int.bmod] at *; omega))))
theorem lf_g_laughOf_2 (a0 : Int32) (a1 : Int32) (a2 : Nat) (h0 : 0 ≤ a0 ∧ a0 ≤ 10) (h1 : 1 ≤ kshl a0 ∧ kshl a0 ≤ 1024) (h2 : ¬ klsh a0 = 0) (h3 : 0 ≤ a1 ∧ a1 ≤ kshl a0) (h4 : ((kshl a0).toInt - a1.toInt).toNat = a2) (h5 : ¬ (kshl a0) ≤ a1) : 0 ≤ (a1 + 1) ∧ (a1 + 1) ≤ kshl a0 := by
  first | rfl | assumption | decide | exact Or.inl rfl | (first | omega | (have hr0 := Int32.toInt_lt a0; have hs0 := Int32.le_toInt a0; have hr1 := Int32.toInt_lt a1; have hs1 := Int32.le_toInt a1; simp only [Int64.toInt_add, Int64.toInt_sub, Int32.toInt_add, Int32.toInt_sub, Int32.toInt_mul, Int64.le_iff_toInt_le, Int64.lt_iff_toInt_lt, Int32.le_iff_toInt_le, Int32.lt_iff_toInt_lt, ← Int32.toInt_inj, ← Int64.toInt_inj, Int32.toInt_toInt64, kc_0, kc_1, kc_10, kc_1024] at *; (first | omega | ((try simp (disch := omega) only [k_bm64] at *); (try simp (disch := omega) only [k_bm] at *); (try simp (disch := omega) only [k_bm] at *); omega) | (simp only [Int.bmod] at *; omega))))
theorem lf_g_laughOf_3 (a0 : Int32) (a1 : Int32) (a2 : Nat) (h0 : 0 ≤ a0 ∧ a0 ≤ 10) (h1 : 1 ≤ kshl a0 ∧ kshl a0 ≤ 1024) (h2 : ¬ klsh a0 = 0) (h3 : 0 ≤ a1 ∧ a1 ≤ kshl a0) (h4 : ((kshl a0).toInt - a1.toInt).toNat = a2) (h5 : ¬ (kshl a0) ≤ a1) : ((kshl a0).toInt - (a1 + 1).toInt).toNat < a2 := by
  first | rfl | assumption | decide | exact Or.inl rfl | (first | omega | (have hr0 := Int32.toInt_lt a0; have hs0 := Int32.le_toInt a0; have hr1 := Int32.toInt_lt a1; have hs1 := Int32.le_toInt a1; simp only [Int64.toInt_add, Int64.toInt_sub, Int32.toInt_add, Int32.toInt_sub, Int32.toInt_mul, Int64.le_iff_toInt_le, Int64.lt_iff_toInt_lt, Int32.le_iff_toInt_le, Int32.lt_iff_toInt_lt, ← Int32.toInt_inj, ← Int64.toInt_inj, Int32.toInt_toInt64, kc_0, kc_1, kc_10, kc_1024] at *; (first | omega | ((try simp (disch := omega) only [k_bm64] at *); (try simp (disch := omega) only [k_bm] at *); (try simp (disch := omega) only [k_bm] at *); omega) | (simp only [Int.bmod] at *; omega))))
theorem lf_g_laughOf_4 (a0 : Int32) (a1 : Int32) (a2 : Nat) (a3 : Int32) (a4 : Nat) (h0 : 0 ≤ a0 ∧ a0 ≤ 10) (h1 : 1 ≤ kshl a0 ∧ kshl a0 ≤ 1024) (h2 : ¬ klsh a0 = 0) (h3 : 0 ≤ a1 ∧ a1 ≤ kshl a0) (h4 : ((kshl a0).toInt - a1.toInt).toNat = a2) (h5 : ¬ (kshl a0) ≤ a1) (h6 : 0 ≤ a3 ∧ a3 ≤ a0) (h7 : (a0.toInt - a3.toInt).toNat = a4) (h8 : a0 ≤ a3) : 0 ≤ (a1 + 1) ∧ (a1 + 1) ≤ kshl a0 := by
  first | rfl | assumption | decide | exact Or.inl rfl | (first | omega | (have hr0 := Int32.toInt_lt a0; have hs0 := Int32.le_toInt a0; have hr1 := Int32.toInt_lt a1; have hs1 := Int32.le_toInt a1; have hr2 := Int32.toInt_lt a3; have hs2 := Int32.le_toInt a3; simp only [Int64.toInt_add, Int64.toInt_sub, Int32.toInt_add, Int32.toInt_sub, Int32.toInt_mul, Int64.le_iff_toInt_le, Int64.lt_iff_toInt_lt, Int32.le_iff_toInt_le, Int32.lt_iff_toInt_lt, ← Int32.toInt_inj, ← Int64.toInt_inj, Int32.toInt_toInt64, kc_0, kc_1, kc_10, kc_1024] at *; (first | omega | ((try simp (disch := omega) only [k_bm64] at *); (try simp (disch := omega) only [k_bm] at *); (try simp (disch := omega) only [k_bm] at *); omega) | (simp only [Int.bmod] at *; omega))))
theorem lf_g_laughOf_5 (a0 : Int32) (a1 : Int32) (a2 : Nat) (a3 : Int32) (a4 : Nat) (h0 : 0 ≤ a0 ∧ a0 ≤ 10) (h1 : 1 ≤ kshl a0 ∧ kshl a0 ≤ 1024) (h2 : ¬ klsh a0 = 0) (h3 : 0 ≤ a1 ∧ a1 ≤ kshl a0) (h4 : ((kshl a0).toInt - a1.toInt).toNat = a2) (h5 : ¬ (kshl a0) ≤ a1) (h6 : 0 ≤ a3 ∧ a3 ≤ a0) (h7 : (a0.toInt - a3.toInt).toNat = a4) (h8 : a0 ≤ a3) : ((kshl a0).toInt - (a1 + 1).toInt).toNat < a2 := by
  first | rfl | assumption | decide | exact Or.inl rfl | (first | omega | (have hr0 := Int32.toInt_lt a0; have hs0 := Int32.le_toInt a0; have hr1 := Int32.toInt_lt a1; have hs1 := Int32.le_toInt a1; have hr2 := Int32.toInt_lt a3; have hs2 := Int32.le_toInt a3; simp only [Int64.toInt_add, Int64.toInt_sub, Int32.toInt_add, Int32.toInt_sub, Int32.toInt_mul, Int64.le_iff_toInt_le, Int64.lt_iff_toInt_lt, Int32.le_iff_toInt_le, Int32.lt_iff_toInt_lt, ← Int32.toInt_inj, ← Int64.toInt_inj, Int32.toInt_toInt64, kc_0, kc_1, kc_10, kc_1024] at *; (first | omega | ((try simp (disch := omega) only [k_bm64] at *); (try simp (disch := omega) only [k_bm] at *); (try simp (disch := omega) only [k_bm] at *); omega) | (simp only [Int.bmod] at *; omega))))
theorem lf_g_laughOf_6 (a0 : Int32) (a1 : Int32) (a2 : Nat) (a3 : Int32) (a4 : Nat) (h0 : 0 ≤ a0 ∧ a0 ≤ 10) (h1 : 1 ≤ kshl a0 ∧ kshl a0 ≤ 1024) (h2 : ¬ klsh a0 = 0) (h3 : 0 ≤ a1 ∧ a1 ≤ kshl a0) (h4 : ((kshl a0).toInt - a1.toInt).toNat = a2) (h5 : ¬ (kshl a0) ≤ a1) (h6 : 0 ≤ a3 ∧ a3 ≤ a0) (h7 : (a0.toInt - a3.toInt).toNat = a4) (h8 : ¬ a0 ≤ a3) : 0 ≤ (a3 + 1) ∧ (a3 + 1) ≤ a0 := by
  first | rfl | assumption | decide | exact Or.inl rfl | (first | omega | (have hr0 := Int32.toInt_lt a0; have hs0 := Int32.le_toInt a0; have hr1 := Int32.toInt_lt a1; have hs1 := Int32.le_toInt a1; have hr2 := Int32.toInt_lt a3; have hs2 := Int32.le_toInt a3; simp only [Int64.toInt_add, Int64.toInt_sub, Int32.toInt_add, Int32.toInt_sub, Int32.toInt_mul, Int64.le_iff_toInt_le, Int64.lt_iff_toInt_lt, Int32.le_iff_toInt_le, Int32.lt_iff_toInt_lt, ← Int32.toInt_inj, ← Int64.toInt_inj, Int32.toInt_toInt64, kc_0, kc_1, kc_10, kc_1024] at *; (first | omega | ((try simp (disch := omega) only [k_bm64] at *); (try simp (disch := omega) only [k_bm] at *); (try simp (disch := omega) only [k_bm] at *); omega) | (simp only [Int.bmod] at *; omega))))
theorem lf_g_laughOf_7 (a0 : Int32) (a1 : Int32) (a2 : Nat) (a3 : Int32) (a4 : Nat) (h0 : 0 ≤ a0 ∧ a0 ≤ 10) (h1 : 1 ≤ kshl a0 ∧ kshl a0 ≤ 1024) (h2 : ¬ klsh a0 = 0) (h3 : 0 ≤ a1 ∧ a1 ≤ kshl a0) (h4 : ((kshl a0).toInt - a1.toInt).toNat = a2) (h5 : ¬ (kshl a0) ≤ a1) (h6 : 0 ≤ a3 ∧ a3 ≤ a0) (h7 : (a0.toInt - a3.toInt).toNat = a4) (h8 : ¬ a0 ≤ a3) : (a0.toInt - (a3 + 1).toInt).toNat < a4 := by
  first | rfl | assumption | decide | exact Or.inl rfl | (first | omega | (have hr0 := Int32.toInt_lt a0; have hs0 := Int32.le_toInt a0; have hr1 := Int32.toInt_lt a1; have hs1 := Int32.le_toInt a1; have hr2 := Int32.toInt_lt a3; have hs2 := Int32.le_toInt a3; simp only [Int64.toInt_add, Int64.toInt_sub, Int32.toInt_add, Int32.toInt_sub, Int32.toInt_mul, Int64.le_iff_toInt_le, Int64.lt_iff_toInt_lt, Int32.le_iff_toInt_le, Int32.lt_iff_toInt_lt, ← Int32.toInt_inj, ← Int64.toInt_inj, Int32.toInt_toInt64, kc_0, kc_1, kc_10, kc_1024] at *; (first | omega | ((try simp (disch := omega) only [k_bm64] at *); (try simp (disch := omega) only [k_bm] at *); (try simp (disch := omega) only [k_bm] at *); omega) | (simp only [Int.bmod] at *; omega))))
set_option maxHeartbeats 4000000 in
set_option maxRecDepth 100000 in
theorem g_laughOf (l : Launch) (dC : Nat → ClassId) (dI : Nat → Nat → Nat) (cI cJ cQ : ClassId) (sz : Nat) (hm : Nat) (c1 : Int32) (f1 : Int32) (nn : Int32) (w1 : Int32) (vFo : Nat) (vSi : Nat) (vIt : Nat) (vMo : Nat) (la : Int32) (vBy : Nat) (vTy : Nat) (mi : Int32) (vMi : Nat) (pn : Int32) (vPs : Nat) (gn : Int32) (vGs : Nat) (fn : Int32) (vFt : Nat) (le : Int32) (vTo : Nat) (kn : Int32) (fe : Int32) (en : Int32) (ca : Int32) (an : Int32) (co : Int32) (vPr : Nat) (vSt : Nat) (vFn : Nat) (sn : Int32) (vSg : Nat) (vAl : Nat) (dr : Int32) (qMi : Nat → Int32) (qPs : Nat → Int32) (qGs : Nat → Int32) (qTo : Nat → Int32) (qPr : Nat → Int32) (qSt : Nat → Int32) (qFn : Nat → Int32) (qFt : Nat → Int32) (hh0 : 0 ≤ mi ∧ mi ≤ 24) (hh1 : 0 ≤ pn ∧ pn ≤ 8) (hh2 : 0 ≤ gn ∧ gn ≤ 8) (hh3 : k_bd 2 0 7 qPr) (hh4 : 0 ≤ fe ∧ fe ≤ 24) (hh5 : en = 0 ∨ kn = 0 ∨ fe ≤ 23) (hh6 : 0 ≤ kn ∧ kn ≤ 24) (hh7 : 0 ≤ f1 ∧ f1 ≤ 7) (hh8 : 0 ≤ nn ∧ nn ≤ 10) (hh9 : 1 ≤ kshl nn ∧ kshl nn ≤ 1024) (hh10 : ¬ klsh nn = 0) : Met l yX12_laughOf (kW yX12_laughOf cX12_laughOf 11 (some .long)) { frames := 4, cells := 0, slots := 0, locals := 99 } (kPre dC dI cI cJ cQ sz [.ref hm, .int c1, .int f1, .int nn, .int w1] [(kX12 hm vFo vSi vIt vMo la vBy vTy mi vMi pn vPs gn vGs fn vFt le vTo kn fe en ca an co vPr vSt vFn sn vSg vAl dr), (kAI vMi cI 24 qMi), (kAI vPs cI 32 qPs), (kAI vGs cI 16 qGs), (kAI vTo cI 96 qTo), (kAI vPr cI 2 qPr), (kAI vSt cI 2 qSt), (kAI vFn cI 2 qFn), (kAI vFt cI 32 qFt)]) (va_Ql (fun (r : Int64) (u : kS) => (k_bd 2 0 7 (u.2.1 1)) ∧ (0 ≤ (u.1 1) ∧ (u.1 1) ≤ 24) ∧ ((u.1 2) = 0 ∨ (u.1 0) = 0 ∨ (u.1 1) ≤ 23) ∧ (0 ≤ (u.1 0) ∧ (u.1 0) ≤ 24) ∧ ((u.1 5) = 16777215)) (fun (u : kS) t₀ => kB dC dI cI cJ cQ (va_A [(kX12 hm vFo vSi vIt vMo la vBy vTy mi vMi pn vPs gn vGs fn vFt le vTo kn fe en ca an co vPr vSt vFn sn vSg vAl dr), (kAI vMi cI 24 qMi), (kAI vPs cI 32 qPs), (kAI vGs cI 16 qGs), (kAI vTo cI 96 qTo), (kAI vPr cI 2 qPr), (kAI vSt cI 2 qSt), (kAI vFn cI 2 qFn), (kAI vFt cI 32 qFt)] sz) [(kX12 hm vFo vSi vIt vMo la vBy vTy mi vMi pn vPs gn vGs fn vFt le vTo (u.1 0) (u.1 1) (u.1 2) (u.1 5) (u.1 3) (u.1 4) vPr vSt vFn sn vSg vAl dr), (kAI vMi cI 24 qMi), (kAI vPs cI 32 qPs), (kAI vGs cI 16 qGs), (kAI vTo cI 96 (u.2.1 0)), (kAI vPr cI 2 (u.2.1 1)), (kAI vSt cI 2 (u.2.1 2)), (kAI vFn cI 2 (u.2.1 3)), (kAI vFt cI 32 qFt)] t₀) (va_A [(kX12 hm vFo vSi vIt vMo la vBy vTy mi vMi pn vPs gn vGs fn vFt le vTo kn fe en ca an co vPr vSt vFn sn vSg vAl dr), (kAI vMi cI 24 qMi), (kAI vPs cI 32 qPs), (kAI vGs cI 16 qGs), (kAI vTo cI 96 qTo), (kAI vPr cI 2 qPr), (kAI vSt cI 2 qSt), (kAI vFn cI 2 qFn), (kAI vFt cI 32 qFt)] sz)) 0 0 (va_A [(kX12 hm vFo vSi vIt vMo la vBy vTy mi vMi pn vPs gn vGs fn vFt le vTo kn fe en ca an co vPr vSt vFn sn vSg vAl dr), (kAI vMi cI 24 qMi), (kAI vPs cI 32 qPs), (kAI vGs cI 16 qGs), (kAI vTo cI 96 qTo), (kAI vPr cI 2 qPr), (kAI vSt cI 2 qSt), (kAI vFn cI 2 qFn), (kAI vFt cI 32 qFt)] sz) := by
  refine Met.ofW (cc := cX12_laughOf) (maxL := 11) (ret := (some .long)) (by decide) rfl ?_
  intro p₀ e₀ s₀ m₀ args below meth c₀ s₁ B hml hv₀
  obtain ⟨rfl, hsz, hP, hK, hD0, hN⟩ := hv₀
  have hx₀ := B.exec
  have hb := B.bytes
  have hr := B.returns
  have hts := atoms_spec (ws := (kW yX12_laughOf cX12_laughOf 11 (some .long))) B.pre
  have hts := fun w h => hts w (List.mem_cons_of_mem _ h)
  have hown : s₀.vm.findClass RX12 = some m₀.cls := findClass_of_methodNamed B.named
  have hlocks := B.notSynchronized
  subst hsz
  have hD := hD0.self (sz := s₀.heap.size)
  generalize hAe : va_A [(kX12 hm vFo vSi vIt vMo la vBy vTy mi vMi pn vPs gn vGs fn vFt le vTo kn fe en ca an co vPr vSt vFn sn vSg vAl dr), (kAI vMi cI 24 qMi), (kAI vPs cI 32 qPs), (kAI vGs cI 16 qGs), (kAI vTo cI 96 qTo), (kAI vPr cI 2 qPr), (kAI vSt cI 2 qSt), (kAI vFn cI 2 qFn), (kAI vFt cI 32 qFt)] s₀.heap.size = A at hD ⊢
  have hA : ∀ q : Nat, s₀.heap.size ≤ q → A q := fun q h => by rw [← hAe]; exact Or.inr h
  have hS : va_S A s₀.heap s₀.heap [] := va_S.rf
  have hP : va_P (dC, dI) vwCl [(kX12 hm vFo vSi vIt vMo la vBy vTy mi vMi pn vPs gn vGs fn vFt le vTo kn fe en ca an co vPr vSt vFn sn vSg vAl dr), (kAI vMi cI 24 qMi), (kAI vPs cI 32 qPs), (kAI vGs cI 16 qGs), (kAI vTo cI 96 qTo), (kAI vPr cI 2 qPr), (kAI vSt cI 2 qSt), (kAI vFn cI 2 qFn), (kAI vFt cI 32 qFt)] s₀.heap := hP
  have hl := lv_entry ([.ref hm, .int c1, .int f1, .int nn, .int w1]) (n := 11) (Nat.le_of_ble_eq_true rfl)
  rw [lg_entry_eq]
  generalize (lg_sl ([.ref hm, .int c1, .int f1, .int nn, .int w1]) ++ List.replicate (11 - (lg_sl ([.ref hm, .int c1, .int f1, .int nn, .int w1])).length) Slot.unset).toArray = ls at hl ⊢
  have hl : lv_has ls 11 [(0, .ref hm), (1, .int c1), (2, .int f1), (3, .int nn), (4, .int w1)] := hl
  obtain ⟨H, hH⟩ : ∃ z : Heap, z = s₀.heap := ⟨_, rfl⟩
  rw [← hH] at hP
  have hS : va_S A s₀.heap H [] := by rw [hH]; exact hS
  refine k_heap hH ?_
  have hD : va_D A [(kX12 hm vFo vSi vIt vMo la vBy vTy mi vMi pn vPs gn vGs fn vFt le vTo kn fe en ca an co vPr vSt vFn sn vSg vAl dr), (kAI vMi cI 24 qMi), (kAI vPs cI 32 qPs), (kAI vGs cI 16 qGs), (kAI vTo cI 96 qTo), (kAI vPr cI 2 qPr), (kAI vSt cI 2 qSt), (kAI vFn cI 2 qFn), (kAI vFt cI 32 qFt)] := hD
  obtain ⟨locs, hlo⟩ : ∃ z : List Loc, z = [] := ⟨_, rfl⟩
  rw [← hlo] at hS ⊢
  clear hlo hH hAe hD0
  refine lv_lconst (v := 0) hx₀ hb dX12_laughOf_0 (by decide +kernel) ?_
  refine lv_lstore (lv' := [(5, .long 0), (0, .ref hm), (1, .int c1), (2, .int f1), (3, .int nn), (4, .int w1)]) hx₀ hb dX12_laughOf_1 hl (by decide) rfl (fun ls hl => ?_)
  refine lv_iconst (v := 0) hx₀ hb dX12_laughOf_3 (by decide +kernel) ?_
  refine lv_istore (lv' := [(7, .int 0), (5, .long 0), (0, .ref hm), (1, .int c1), (2, .int f1), (3, .int nn), (4, .int w1)]) hx₀ hb dX12_laughOf_4 hl (by decide) rfl (fun ls hl => ?_)
  refine (?keyz1 : ∀ (jz1 : Nat) (abz1 : Int64) (smz1 : Int32) (knz1 : Int32) (fez1 : Int32) (enz1 : Int32) (anz1 : Int32) (coz1 : Int32) (caz1 : Int32) (qtz1 : Nat → Int32) (qpz1 : Nat → Int32) (qsz1 : Nat → Int32) (qfz1 : Nat → Int32) (H : Heap) (locs : List Loc) (ls : Array Slot), (0 ≤ smz1 ∧ smz1 ≤ kshl nn) → (k_bd 2 0 7 qpz1) → (0 ≤ fez1 ∧ fez1 ≤ 24) → (enz1 = 0 ∨ knz1 = 0 ∨ fez1 ≤ 23) → (0 ≤ knz1 ∧ knz1 ≤ 24) → (((kshl nn).toInt - smz1.toInt).toNat = jz1) → va_P (dC, dI) vwCl [(kX12 hm vFo vSi vIt vMo la vBy vTy mi vMi pn vPs gn vGs fn vFt le vTo knz1 fez1 enz1 caz1 anz1 coz1 vPr vSt vFn sn vSg vAl dr), (kAI vMi cI 24 qMi), (kAI vPs cI 32 qPs), (kAI vGs cI 16 qGs), (kAI vTo cI 96 qtz1), (kAI vPr cI 2 qpz1), (kAI vSt cI 2 qsz1), (kAI vFn cI 2 qfz1), (kAI vFt cI 32 qFt)] H → va_D A [(kX12 hm vFo vSi vIt vMo la vBy vTy mi vMi pn vPs gn vGs fn vFt le vTo knz1 fez1 enz1 caz1 anz1 coz1 vPr vSt vFn sn vSg vAl dr), (kAI vMi cI 24 qMi), (kAI vPs cI 32 qPs), (kAI vGs cI 16 qGs), (kAI vTo cI 96 qtz1), (kAI vPr cI 2 qpz1), (kAI vSt cI 2 qsz1), (kAI vFn cI 2 qfz1), (kAI vFt cI 32 qFt)] → va_S A s₀.heap H locs → lv_has ls 11 [(7, .int smz1), (5, .long abz1), (0, .ref hm), (1, .int c1), (2, .int f1), (3, .int nn), (4, .int w1)] → W p₀ l e₀ _ s₀ m₀ _ below meth c₀ H locs _ _ _ (F0 m₀ 6 ls [])) _ (0 : Int64) (0 : Int32) kn fe en an co ca _ _ _ _ H locs ls (lf_g_laughOf_1 nn hh8 hh9 hh10) (hh3) (hh4) (hh5) (hh6) rfl hP hD hS hl
  clear hP hD hS hl
  intro jz1
  induction jz1 using Nat.strongRecOn with
  | ind jz1 ihz1 =>
    intro abz1 smz1 knz1 fez1 enz1 anz1 coz1 caz1 qtz1 qpz1 qsz1 qfz1 H locs ls hiz1_0 hiz1_1 hiz1_2 hiz1_3 hiz1_4 hjz1 hP hD hS hl
    refine lv_iload hx₀ hb dX12_laughOf_6 (lv_at hl 0 rfl) ?_
    refine lv_iconst (v := 1) hx₀ hb dX12_laughOf_8 (by decide +kernel) ?_
    refine lv_iload_n hx₀ hb dX12_laughOf_9 rfl (lv_at hl 5 rfl) ?_
    refine lv_ishl hx₀ hb dX12_laughOf_10 ?_
    refine k_topi (v := kshl nn) rfl ?_
    refine lv_icmp_ge (tgt := 92) hx₀ hb dX12_laughOf_11 (by decide) (fun c_2 => ?_) (fun c_2 => ?_)
    · refine lv_aload_n hx₀ hb dX12_laughOf_92 rfl (lv_at hl 2 rfl) ?_
      refine lv_ldc (v := 16777215) hx₀ hb hown (hts (.constant RX12 58 (16777215)) wd_131) dX12_laughOf_93 ?_
      refine va_put (D := (dC, dI)) (ci := 11) (v := .int 16777215) (ty := .int) (C := RX12) (T := TX12) (N := 30) hx₀ hb hts inlX12 tyX12 tyX12_ok nmX12 hown hK hP hD hS 0 rfl rfl 20 (by decide) (hts (.fieldLink RX12 59 "BittenStickModel" "calling" "I") wd_132) (fun _ h9 => h9) rfl (by decide +kernel) rfl rfl (Nat.le_of_ble_eq_true rfl) dX12_laughOf_95 ?_
      clear hP hD hS
      intro H locs hP hD hS
      replace hP := k_w2 (wt := [(kX12 hm vFo vSi vIt vMo la vBy vTy mi vMi pn vPs gn vGs fn vFt le vTo knz1 fez1 enz1 16777215 anz1 coz1 vPr vSt vFn sn vSg vAl dr), (kAI vMi cI 24 qMi), (kAI vPs cI 32 qPs), (kAI vGs cI 16 qGs), (kAI vTo cI 96 qtz1), (kAI vPr cI 2 qpz1), (kAI vSt cI 2 qsz1), (kAI vFn cI 2 qfz1), (kAI vFt cI 32 qFt)]) hP hD rfl
      replace hD := hP.2
      replace hP := hP.1
      refine lv_lload hx₀ hb dX12_laughOf_98 (lv_at hl 1 rfl) ?_
      refine lv_lconst (v := 1) hx₀ hb dX12_laughOf_100 (by decide +kernel) ?_
      refine lv_iconst (v := 4) hx₀ hb dX12_laughOf_101 (by decide +kernel) ?_
      refine lv_iload_n hx₀ hb dX12_laughOf_102 rfl (lv_at hl 5 rfl) ?_
      refine lv_imul hx₀ hb dX12_laughOf_103 ?_
      refine lv_lshl hx₀ hb dX12_laughOf_104 rfl ?_
      refine k_topl (v := klsh nn) rfl ?_
      refine lv_iload hx₀ hb dX12_laughOf_105 (lv_at hl 6 rfl) ?_
      obtain ⟨hPc, hDc, hFc, hC⟩ := k_cw (wc := []) hP hD hS hA [] (by decide +kernel) rfl
      refine va_calll (va_runS (As := [.long abz1, .long (klsh nn), .int w1]) (rest := []) ⟨hx₀, hb, hml, hown, hts⟩ (g_part l dC dI cI cJ cQ H.size abz1 (klsh nn) w1 (hh10)) (va_cwS 3 hts (kGS wd_825 wd_823 wd_824 wd_5) rfl rfl rfl (by decide +kernel) ⟨Nat.le_of_ble_eq_true rfl, Nat.le_of_ble_eq_true rfl⟩) (k_preS hK hPc hDc hN) rfl rfl hl.1 rfl (lv_room (Nat.le_of_ble_eq_true rfl)) dX12_laughOf_107 ⟨by decide +kernel, by decide +kernel⟩) hS (fun q _ h => hFc q h) hFc (fun r_3 u₀ t₀ H1 locs ht hvm hw hB hz1 hk1 hS => ?_)
      obtain ⟨hP1, hK1, hD1⟩ := hB
      rw [ht] at hP1
      have hJ := k_jn (wr := [(kX12 hm vFo vSi vIt vMo la vBy vTy mi vMi pn vPs gn vGs fn vFt le vTo knz1 fez1 enz1 16777215 anz1 coz1 vPr vSt vFn sn vSg vAl dr), (kAI vMi cI 24 qMi), (kAI vPs cI 32 qPs), (kAI vGs cI 16 qGs), (kAI vTo cI 96 qtz1), (kAI vPr cI 2 qpz1), (kAI vSt cI 2 qsz1), (kAI vFn cI 2 qfz1), (kAI vFt cI 32 qFt)]) (wt := [(kX12 hm vFo vSi vIt vMo la vBy vTy mi vMi pn vPs gn vGs fn vFt le vTo knz1 fez1 enz1 16777215 anz1 coz1 vPr vSt vFn sn vSg vAl dr), (kAI vMi cI 24 qMi), (kAI vPs cI 32 qPs), (kAI vGs cI 16 qGs), (kAI vTo cI 96 qtz1), (kAI vPr cI 2 qpz1), (kAI vSt cI 2 qsz1), (kAI vFn cI 2 qfz1), (kAI vFt cI 32 qFt)]) hP hD hC [0, 1, 2, 3, 4, 5, 6, 7, 8] rfl (by decide +kernel) (by decide +kernel) hk1 hFc hP1 hD1 rfl
      clear hP hD hPc hDc hFc hC hP1 hD1 hK1 hz1 hk1 hvm ht
      obtain ⟨hP, hD⟩ := hJ
      generalize H1 = H at hP hS ⊢
      try dsimp only at hw
      obtain ⟨hP9, hD9⟩ := k_c2 (wc := [(kX12 hm vFo vSi vIt vMo la vBy vTy mi vMi pn vPs gn vGs fn vFt le vTo knz1 fez1 enz1 16777215 anz1 coz1 vPr vSt vFn sn vSg vAl dr), (kAI vMi cI 24 qMi), (kAI vPs cI 32 qPs), (kAI vGs cI 16 qGs), (kAI vTo cI 96 qtz1), (kAI vPr cI 2 qpz1), (kAI vSt cI 2 qsz1), (kAI vFn cI 2 qfz1), (kAI vFt cI 32 qFt)]) hP hD [0, 1, 2, 3, 4, 5, 6, 7, 8] (by decide +kernel) rfl
      exact W.lret (v := r_3) hx₀ hb hr (fun t₀ ht hW => ⟨⟨r_3, (k_fn [knz1, fez1, enz1, anz1, coz1, (16777215 : Int32)], k_fa [qtz1, qpz1, qsz1, qfz1], k_fl [], k_fL [], k_fp []), rfl, ⟨hiz1_1, hiz1_2, hiz1_3, hiz1_4, rfl⟩, by rw [ht]; exact hP9, va_K.moved hW.alike hK, hD9⟩, hS.F ht⟩) hS.2.2 dX12_laughOf_110
    · refine lv_aload_n hx₀ hb dX12_laughOf_14 rfl (lv_at hl 2 rfl) ?_
      refine lv_aload_n hx₀ hb dX12_laughOf_15 rfl (lv_at hl 2 rfl) ?_
      refine lv_iload hx₀ hb dX12_laughOf_16 (lv_at hl 0 rfl) ?_
      obtain ⟨hPc, hDc, hFc, hC⟩ := k_cw (wc := [(kX12 hm vFo vSi vIt vMo la vBy vTy mi vMi pn vPs gn vGs fn vFt le vTo knz1 fez1 enz1 caz1 anz1 coz1 vPr vSt vFn sn vSg vAl dr), (kAI vMi cI 24 qMi)]) hP hD hS hA [0, 1] (by decide +kernel) rfl
      refine va_calli (va_runV (As := [.int smz1]) (rest := [.ref hm]) ⟨hx₀, hb, hml, hown, hts⟩ (g_calls l dC dI cI cJ cQ H.size hm smz1 vFo vSi vIt vMo la vBy vTy mi vMi pn vPs gn vGs fn vFt le vTo knz1 fez1 enz1 caz1 anz1 coz1 vPr vSt vFn sn vSg vAl dr qMi (hh0)) (cwV 1 hts (kGV wd_822 wd_819 wd_820 wd_821 wd_5) rfl rfl rfl (by decide +kernel) ⟨Nat.le_of_ble_eq_true rfl, Nat.le_of_ble_eq_true rfl⟩) (k_preV11 (q0 := 0) hK hPc hDc hN rfl) rfl rfl hl.1 rfl (lv_room (Nat.le_of_ble_eq_true rfl)) dX12_laughOf_18 ⟨by decide +kernel, by decide +kernel⟩) hS (fun q _ h => hFc q h) hFc (fun r_4 u₀ t₀ H1 locs ht hvm hw hB hz1 hk1 hS => ?_)
      obtain ⟨hP1, hK1, hD1⟩ := hB
      rw [ht] at hP1
      have hJ := k_jn (wr := [(kAI vPs cI 32 qPs), (kAI vGs cI 16 qGs), (kAI vTo cI 96 qtz1), (kAI vPr cI 2 qpz1), (kAI vSt cI 2 qsz1), (kAI vFn cI 2 qfz1), (kAI vFt cI 32 qFt)]) (wt := [(kAI vPs cI 32 qPs), (kAI vGs cI 16 qGs), (kAI vTo cI 96 qtz1), (kAI vPr cI 2 qpz1), (kAI vSt cI 2 qsz1), (kAI vFn cI 2 qfz1), (kAI vFt cI 32 qFt), (kX12 hm vFo vSi vIt vMo la vBy vTy mi vMi pn vPs gn vGs fn vFt le vTo knz1 fez1 enz1 caz1 anz1 coz1 vPr vSt vFn sn vSg vAl dr), (kAI vMi cI 24 qMi)]) hP hD hC [2, 3, 4, 5, 6, 7, 8] rfl (by decide +kernel) (by decide +kernel) hk1 hFc hP1 hD1 rfl
      clear hP hD hPc hDc hFc hC hP1 hD1 hK1 hz1 hk1 hvm ht
      obtain ⟨hP, hD⟩ := hJ
      generalize H1 = H at hP hS ⊢
      try dsimp only at hw
      refine va_put (D := (dC, dI)) (ci := 11) (v := .int r_4) (ty := .int) (C := RX12) (T := TX12) (N := 30) hx₀ hb hts inlX12 tyX12 tyX12_ok nmX12 hown hK hP hD hS 7 rfl rfl 20 (by decide) (hts (.fieldLink RX12 59 "BittenStickModel" "calling" "I") wd_132) (fun _ h9 => h9) rfl (by decide +kernel) rfl rfl (Nat.le_of_ble_eq_true rfl) dX12_laughOf_21 ?_
      clear hP hD hS
      intro H locs hP hD hS
      replace hP := k_w2 (wt := [(kAI vPs cI 32 qPs), (kAI vGs cI 16 qGs), (kAI vTo cI 96 qtz1), (kAI vPr cI 2 qpz1), (kAI vSt cI 2 qsz1), (kAI vFn cI 2 qfz1), (kAI vFt cI 32 qFt), (kX12 hm vFo vSi vIt vMo la vBy vTy mi vMi pn vPs gn vGs fn vFt le vTo knz1 fez1 enz1 r_4 anz1 coz1 vPr vSt vFn sn vSg vAl dr), (kAI vMi cI 24 qMi)]) hP hD rfl
      replace hD := hP.2
      replace hP := hP.1
      refine lv_aload_n hx₀ hb dX12_laughOf_24 rfl (lv_at hl 2 rfl) ?_
      refine lv_iload_n hx₀ hb dX12_laughOf_25 rfl (lv_at hl 4 rfl) ?_
      obtain ⟨hPc, hDc, hFc, hC⟩ := k_cw (wc := [(kX12 hm vFo vSi vIt vMo la vBy vTy mi vMi pn vPs gn vGs fn vFt le vTo knz1 fez1 enz1 r_4 anz1 coz1 vPr vSt vFn sn vSg vAl dr), (kAI vMi cI 24 qMi), (kAI vPs cI 32 qPs), (kAI vGs cI 16 qGs), (kAI vTo cI 96 qtz1), (kAI vPr cI 2 qpz1), (kAI vSt cI 2 qsz1), (kAI vFn cI 2 qfz1), (kAI vFt cI 32 qFt)]) hP hD hS hA [7, 8, 0, 1, 2, 3, 4, 5, 6] (by decide +kernel) rfl
      refine va_callv (va_runV (As := [.int f1]) (rest := []) ⟨hx₀, hb, hml, hown, hts⟩ (g_fliesTold l dC dI cI cJ cQ H.size hm f1 vFo vSi vIt vMo la vBy vTy mi vMi pn vPs gn vGs fn vFt le vTo knz1 fez1 enz1 r_4 anz1 coz1 vPr vSt vFn sn vSg vAl dr qMi qPs qGs qtz1 qpz1 qsz1 qfz1 qFt (hh0) (hh1) (hh2) (hiz1_1) (hh7)) (cwV 1 hts (kGV wd_536 wd_533 wd_534 wd_535 wd_5) rfl rfl rfl (by decide +kernel) ⟨Nat.le_of_ble_eq_true rfl, Nat.le_of_ble_eq_true rfl⟩) (k_preV11 (q0 := 0) hK hPc hDc hN rfl) rfl rfl hl.1 rfl (lv_room (Nat.le_of_ble_eq_true rfl)) dX12_laughOf_26 ⟨by decide +kernel, by decide +kernel⟩) hS (fun q _ h => hFc q h) hFc (fun u₀ t₀ H1 locs ht hvm hw hB hz1 hk1 hS => ?_)
      obtain ⟨g_6, ga_7, gl_8, gb_9, gp_10⟩ := u₀
      obtain ⟨hP1, hK1, hD1⟩ := hB
      rw [ht] at hP1
      have hJ := k_jn (wr := []) (wt := [(kX12 hm vFo vSi vIt vMo la vBy vTy mi vMi pn vPs gn vGs fn vFt le vTo (g_6 0) (g_6 1) (g_6 2) r_4 (g_6 3) (g_6 4) vPr vSt vFn sn vSg vAl dr), (kAI vMi cI 24 qMi), (kAI vPs cI 32 qPs), (kAI vGs cI 16 qGs), (kAI vTo cI 96 (ga_7 0)), (kAI vPr cI 2 (ga_7 1)), (kAI vSt cI 2 (ga_7 2)), (kAI vFn cI 2 (ga_7 3)), (kAI vFt cI 32 qFt)]) hP hD hC [] rfl (by decide +kernel) (by decide +kernel) hk1 hFc hP1 hD1 rfl
      clear hP hD hPc hDc hFc hC hP1 hD1 hK1 hz1 hk1 hvm ht
      obtain ⟨hP, hD⟩ := hJ
      generalize H1 = H at hP hS ⊢
      try dsimp only at hw
      obtain ⟨c_11, c_12, c_13, c_14⟩ := hw
      refine lv_aload_n hx₀ hb dX12_laughOf_29 rfl (lv_at hl 2 rfl) ?_
      refine va_get (D := (dC, dI)) (ci := 11) (v := .int (g_6 2)) (C := RX12) (T := TX12) (N := 30) hx₀ hb hts inlX12 hown hK hP 0 rfl rfl 19 (by decide) (hts (.fieldLink RX12 196 "BittenStickModel" "end" "I") wd_543) (fun _ h9 => h9) rfl dX12_laughOf_30 ?_
      refine lv_if_ne (tgt := 86) hx₀ hb dX12_laughOf_33 (by decide) (fun c_15 => ?_) (fun c_15 => ?_)
      · refine lv_iinc (v := smz1 + 1) (lv' := [(7, .int (smz1 + 1)), (5, .long abz1), (0, .ref hm), (1, .int c1), (2, .int f1), (3, .int nn), (4, .int w1)]) hx₀ hb dX12_laughOf_86 hl (k := 0) rfl rfl (by decide) rfl (fun ls hl => ?_)
        refine lv_goto (tgt := 6) hx₀ hb dX12_laughOf_89 (by decide) ?_
        exact ihz1 _ (lf_g_laughOf_3 nn smz1 jz1 hh8 hh9 hh10 hiz1_0 hjz1 c_2) abz1 (smz1 + 1) (g_6 0) (g_6 1) (g_6 2) (g_6 3) (g_6 4) r_4 (ga_7 0) (ga_7 1) (ga_7 2) (ga_7 3) _ _ _ (lf_g_laughOf_2 nn smz1 jz1 hh8 hh9 hh10 hiz1_0 hjz1 c_2) (c_11) (c_12) (c_13) (c_14) rfl (hP.sub [0, 1, 2, 3, 4, 5, 6, 7, 8] rfl) (hD.sub [0, 1, 2, 3, 4, 5, 6, 7, 8] (by decide +kernel) rfl) hS (lv_sub hl [0, 1, 2, 3, 4, 5, 6] rfl)
      · refine lv_lconst (v := 1) hx₀ hb dX12_laughOf_36 (by decide +kernel) ?_
        refine lv_lstore (lv' := [(8, .long 1), (7, .int smz1), (5, .long abz1), (0, .ref hm), (1, .int c1), (2, .int f1), (3, .int nn), (4, .int w1)]) hx₀ hb dX12_laughOf_37 hl (by decide) rfl (fun ls hl => ?_)
        refine lv_iconst (v := 0) hx₀ hb dX12_laughOf_39 (by decide +kernel) ?_
        refine lv_istore (lv' := [(10, .int 0), (8, .long 1), (7, .int smz1), (5, .long abz1), (0, .ref hm), (1, .int c1), (2, .int f1), (3, .int nn), (4, .int w1)]) hx₀ hb dX12_laughOf_40 hl (by decide) rfl (fun ls hl => ?_)
        refine (?keyz16 : ∀ (jz16 : Nat) (wez16 : Int64) (kz16 : Int32) (H : Heap) (locs : List Loc) (ls : Array Slot), (0 ≤ kz16 ∧ kz16 ≤ nn) → ((nn.toInt - kz16.toInt).toNat = jz16) → va_P (dC, dI) vwCl [(kX12 hm vFo vSi vIt vMo la vBy vTy mi vMi pn vPs gn vGs fn vFt le vTo (g_6 0) (g_6 1) (g_6 2) r_4 (g_6 3) (g_6 4) vPr vSt vFn sn vSg vAl dr), (kAI vMi cI 24 qMi), (kAI vPs cI 32 qPs), (kAI vGs cI 16 qGs), (kAI vTo cI 96 (ga_7 0)), (kAI vPr cI 2 (ga_7 1)), (kAI vSt cI 2 (ga_7 2)), (kAI vFn cI 2 (ga_7 3)), (kAI vFt cI 32 qFt)] H → va_D A [(kX12 hm vFo vSi vIt vMo la vBy vTy mi vMi pn vPs gn vGs fn vFt le vTo (g_6 0) (g_6 1) (g_6 2) r_4 (g_6 3) (g_6 4) vPr vSt vFn sn vSg vAl dr), (kAI vMi cI 24 qMi), (kAI vPs cI 32 qPs), (kAI vGs cI 16 qGs), (kAI vTo cI 96 (ga_7 0)), (kAI vPr cI 2 (ga_7 1)), (kAI vSt cI 2 (ga_7 2)), (kAI vFn cI 2 (ga_7 3)), (kAI vFt cI 32 qFt)] → va_S A s₀.heap H locs → lv_has ls 11 [(10, .int kz16), (8, .long wez16), (7, .int smz1), (5, .long abz1), (0, .ref hm), (1, .int c1), (2, .int f1), (3, .int nn), (4, .int w1)] → W p₀ l e₀ _ s₀ m₀ _ below meth c₀ H locs _ _ _ (F0 m₀ 42 ls [])) _ (1 : Int64) (0 : Int32) H locs ls (show 0 ≤ (0 : Int32) ∧ (0 : Int32) ≤ nn from ⟨(by decide), hh8.1⟩) rfl hP hD hS hl
        clear hP hD hS hl
        intro jz16
        induction jz16 using Nat.strongRecOn with
        | ind jz16 ihz16 =>
          intro wez16 kz16 H locs ls hiz16_0 hjz16 hP hD hS hl
          refine lv_iload hx₀ hb dX12_laughOf_42 (lv_at hl 0 rfl) ?_
          refine lv_iload_n hx₀ hb dX12_laughOf_44 rfl (lv_at hl 7 rfl) ?_
          refine lv_icmp_ge (tgt := 79) hx₀ hb dX12_laughOf_45 (by decide) (fun c_17 => ?_) (fun c_17 => ?_)
          · refine lv_lload hx₀ hb dX12_laughOf_79 (lv_at hl 3 rfl) ?_
            refine lv_lload hx₀ hb dX12_laughOf_81 (lv_at hl 1 rfl) ?_
            refine lv_ladd hx₀ hb dX12_laughOf_83 ?_
            refine lv_lstore (lv' := [(5, .long (abz1 + wez16)), (10, .int kz16), (8, .long wez16), (7, .int smz1), (0, .ref hm), (1, .int c1), (2, .int f1), (3, .int nn), (4, .int w1)]) hx₀ hb dX12_laughOf_84 hl (by decide) rfl (fun ls hl => ?_)
            refine lv_iinc (v := smz1 + 1) (lv' := [(7, .int (smz1 + 1)), (5, .long (abz1 + wez16)), (10, .int kz16), (8, .long wez16), (0, .ref hm), (1, .int c1), (2, .int f1), (3, .int nn), (4, .int w1)]) hx₀ hb dX12_laughOf_86 hl (k := 3) rfl rfl (by decide) rfl (fun ls hl => ?_)
            refine lv_goto (tgt := 6) hx₀ hb dX12_laughOf_89 (by decide) ?_
            exact ihz1 _ (lf_g_laughOf_5 nn smz1 jz1 kz16 jz16 hh8 hh9 hh10 hiz1_0 hjz1 c_2 hiz16_0 hjz16 c_17) (abz1 + wez16) (smz1 + 1) (g_6 0) (g_6 1) (g_6 2) (g_6 3) (g_6 4) r_4 (ga_7 0) (ga_7 1) (ga_7 2) (ga_7 3) _ _ _ (lf_g_laughOf_4 nn smz1 jz1 kz16 jz16 hh8 hh9 hh10 hiz1_0 hjz1 c_2 hiz16_0 hjz16 c_17) (c_11) (c_12) (c_13) (c_14) rfl (hP.sub [0, 1, 2, 3, 4, 5, 6, 7, 8] rfl) (hD.sub [0, 1, 2, 3, 4, 5, 6, 7, 8] (by decide +kernel) rfl) hS (lv_sub hl [0, 1, 4, 5, 6, 7, 8] rfl)
          · refine lv_lload hx₀ hb dX12_laughOf_48 (lv_at hl 1 rfl) ?_
            refine lv_iload hx₀ hb dX12_laughOf_50 (lv_at hl 2 rfl) ?_
            refine lv_iload hx₀ hb dX12_laughOf_52 (lv_at hl 0 rfl) ?_
            obtain ⟨hPc, hDc, hFc, hC⟩ := k_cw (wc := []) hP hD hS hA [] (by decide +kernel) rfl
            refine va_calli (va_runS (As := [.int smz1, .int kz16]) (rest := [.long wez16]) ⟨hx₀, hb, hml, hown, hts⟩ (g_isIn l dC dI cI cJ cQ H.size smz1 kz16) (va_cwS 2 hts (kGS wd_560 wd_558 wd_559 wd_5) rfl rfl rfl (by decide +kernel) ⟨Nat.le_of_ble_eq_true rfl, Nat.le_of_ble_eq_true rfl⟩) (k_preS hK hPc hDc hN) rfl rfl hl.1 rfl (lv_room (Nat.le_of_ble_eq_true rfl)) dX12_laughOf_54 ⟨by decide +kernel, by decide +kernel⟩) hS (fun q _ h => hFc q h) hFc (fun r_18 u₀ t₀ H1 locs ht hvm hw hB hz1 hk1 hS => ?_)
            obtain ⟨hP1, hK1, hD1⟩ := hB
            rw [ht] at hP1
            have hJ := k_jn (wr := [(kX12 hm vFo vSi vIt vMo la vBy vTy mi vMi pn vPs gn vGs fn vFt le vTo (g_6 0) (g_6 1) (g_6 2) r_4 (g_6 3) (g_6 4) vPr vSt vFn sn vSg vAl dr), (kAI vMi cI 24 qMi), (kAI vPs cI 32 qPs), (kAI vGs cI 16 qGs), (kAI vTo cI 96 (ga_7 0)), (kAI vPr cI 2 (ga_7 1)), (kAI vSt cI 2 (ga_7 2)), (kAI vFn cI 2 (ga_7 3)), (kAI vFt cI 32 qFt)]) (wt := [(kX12 hm vFo vSi vIt vMo la vBy vTy mi vMi pn vPs gn vGs fn vFt le vTo (g_6 0) (g_6 1) (g_6 2) r_4 (g_6 3) (g_6 4) vPr vSt vFn sn vSg vAl dr), (kAI vMi cI 24 qMi), (kAI vPs cI 32 qPs), (kAI vGs cI 16 qGs), (kAI vTo cI 96 (ga_7 0)), (kAI vPr cI 2 (ga_7 1)), (kAI vSt cI 2 (ga_7 2)), (kAI vFn cI 2 (ga_7 3)), (kAI vFt cI 32 qFt)]) hP hD hC [0, 1, 2, 3, 4, 5, 6, 7, 8] rfl (by decide +kernel) (by decide +kernel) hk1 hFc hP1 hD1 rfl
            clear hP hD hPc hDc hFc hC hP1 hD1 hK1 hz1 hk1 hvm ht
            obtain ⟨hP, hD⟩ := hJ
            generalize H1 = H at hP hS ⊢
            try dsimp only at hw
            by_cases c_19 : ((smz1 >>> (kz16 &&& 31)) &&& 1) = 1
            · rw [if_pos c_19] at hw
              refine k_topi (v := 1) hw ?_
              refine lv_if_eq (tgt := 65) hx₀ hb dX12_laughOf_57 (by decide) (fun c9 => absurd c9 (by decide +kernel)) (fun _ => ?_)
              refine lv_iload_n hx₀ hb dX12_laughOf_60 rfl (lv_at hl 5 rfl) ?_
              refine lv_i2l hx₀ hb dX12_laughOf_61 rfl ?_
              refine lv_goto (tgt := 70) hx₀ hb dX12_laughOf_62 (by decide) ?_
              refine lv_lmul hx₀ hb dX12_laughOf_70 ?_
              refine lv_lstore (lv' := [(8, .long (wez16 * c1.toInt64)), (10, .int kz16), (7, .int smz1), (5, .long abz1), (0, .ref hm), (1, .int c1), (2, .int f1), (3, .int nn), (4, .int w1)]) hx₀ hb dX12_laughOf_71 hl (by decide) rfl (fun ls hl => ?_)
              refine lv_iinc (v := kz16 + 1) (lv' := [(10, .int (kz16 + 1)), (8, .long (wez16 * c1.toInt64)), (7, .int smz1), (5, .long abz1), (0, .ref hm), (1, .int c1), (2, .int f1), (3, .int nn), (4, .int w1)]) hx₀ hb dX12_laughOf_73 hl (k := 1) rfl rfl (by decide) rfl (fun ls hl => ?_)
              refine lv_goto (tgt := 42) hx₀ hb dX12_laughOf_76 (by decide) ?_
              exact ihz16 _ (lf_g_laughOf_7 nn smz1 jz1 kz16 jz16 hh8 hh9 hh10 hiz1_0 hjz1 c_2 hiz16_0 hjz16 c_17) (wez16 * c1.toInt64) (kz16 + 1) _ _ _ (lf_g_laughOf_6 nn smz1 jz1 kz16 jz16 hh8 hh9 hh10 hiz1_0 hjz1 c_2 hiz16_0 hjz16 c_17) rfl (hP.sub [0, 1, 2, 3, 4, 5, 6, 7, 8] rfl) (hD.sub [0, 1, 2, 3, 4, 5, 6, 7, 8] (by decide +kernel) rfl) hS (lv_sub hl [0, 1, 2, 3, 4, 5, 6, 7, 8] rfl)
            rw [if_neg c_19] at hw
            refine k_topi (v := 0) hw ?_
            refine lv_if_eq (tgt := 65) hx₀ hb dX12_laughOf_57 (by decide) (fun _ => ?_) (fun c9 => absurd (by decide +kernel) c9)
            refine lv_bipush (v := 16) hx₀ hb dX12_laughOf_65 (by decide +kernel) ?_
            refine lv_iload_n hx₀ hb dX12_laughOf_67 rfl (lv_at hl 5 rfl) ?_
            refine lv_isub hx₀ hb dX12_laughOf_68 ?_
            refine lv_i2l hx₀ hb dX12_laughOf_69 rfl ?_
            refine lv_lmul hx₀ hb dX12_laughOf_70 ?_
            refine lv_lstore (lv' := [(8, .long (wez16 * ((16 - c1).toInt64))), (10, .int kz16), (7, .int smz1), (5, .long abz1), (0, .ref hm), (1, .int c1), (2, .int f1), (3, .int nn), (4, .int w1)]) hx₀ hb dX12_laughOf_71 hl (by decide) rfl (fun ls hl => ?_)
            refine lv_iinc (v := kz16 + 1) (lv' := [(10, .int (kz16 + 1)), (8, .long (wez16 * ((16 - c1).toInt64))), (7, .int smz1), (5, .long abz1), (0, .ref hm), (1, .int c1), (2, .int f1), (3, .int nn), (4, .int w1)]) hx₀ hb dX12_laughOf_73 hl (k := 1) rfl rfl (by decide) rfl (fun ls hl => ?_)
            refine lv_goto (tgt := 42) hx₀ hb dX12_laughOf_76 (by decide) ?_
            exact ihz16 _ (lf_g_laughOf_7 nn smz1 jz1 kz16 jz16 hh8 hh9 hh10 hiz1_0 hjz1 c_2 hiz16_0 hjz16 c_17) (wez16 * ((16 - c1).toInt64)) (kz16 + 1) _ _ _ (lf_g_laughOf_6 nn smz1 jz1 kz16 jz16 hh8 hh9 hh10 hiz1_0 hjz1 c_2 hiz16_0 hjz16 c_17) rfl (hP.sub [0, 1, 2, 3, 4, 5, 6, 7, 8] rfl) (hD.sub [0, 1, 2, 3, 4, 5, 6, 7, 8] (by decide +kernel) rfl) hS (lv_sub hl [0, 1, 2, 3, 4, 5, 6, 7, 8] rfl)
set_option maxHeartbeats 4000000 in
set_option maxRecDepth 100000 in
theorem g_lot (l : Launch) (dC : Nat → ClassId) (dI : Nat → Nat → Nat) (cI cJ cQ : ClassId) (sz : Nat) (hm : Nat) (m1 : Int32) (vFo : Nat) (vSi : Nat) (vIt : Nat) (vMo : Nat) (la : Int32) (vBy : Nat) (vTy : Nat) (mi : Int32) (vMi : Nat) (pn : Int32) (vPs : Nat) (gn : Int32) (vGs : Nat) (fn : Int32) (vFt : Nat) (le : Int32) (vTo : Nat) (kn : Int32) (fe : Int32) (en : Int32) (ca : Int32) (an : Int32) (co : Int32) (vPr : Nat) (vSt : Nat) (vFn : Nat) (sn : Int32) (vSg : Nat) (vAl : Nat) (dr : Int32) (hh0 : ¬ m1 = 0) : Met l yX12_lot (kW yX12_lot cX12_lot 2 (some .int)) { frames := 0, cells := 0, slots := 0, locals := 0 } (kPre dC dI cI cJ cQ sz [.ref hm, .int m1] [(kX12 hm vFo vSi vIt vMo la vBy vTy mi vMi pn vPs gn vGs fn vFt le vTo kn fe en ca an co vPr vSt vFn sn vSg vAl dr)]) (va_Qi (fun (r : Int32) (u : kS) => True) (fun (u : kS) t₀ => kB dC dI cI cJ cQ (va_A [(kX12 hm vFo vSi vIt vMo la vBy vTy mi vMi pn vPs gn vGs fn vFt le vTo kn fe en ca an co vPr vSt vFn sn vSg vAl dr)] sz) [(kX12 hm vFo vSi vIt vMo la vBy vTy mi vMi pn vPs gn vGs fn vFt le vTo kn fe en ca an co vPr vSt vFn sn vSg vAl (u.1 0))] t₀) (va_A [(kX12 hm vFo vSi vIt vMo la vBy vTy mi vMi pn vPs gn vGs fn vFt le vTo kn fe en ca an co vPr vSt vFn sn vSg vAl dr)] sz)) 0 0 (va_A [(kX12 hm vFo vSi vIt vMo la vBy vTy mi vMi pn vPs gn vGs fn vFt le vTo kn fe en ca an co vPr vSt vFn sn vSg vAl dr)] sz) := by
  refine Met.ofW (cc := cX12_lot) (maxL := 2) (ret := (some .int)) (by decide) rfl ?_
  intro p₀ e₀ s₀ m₀ args below meth c₀ s₁ B hml hv₀
  obtain ⟨rfl, hsz, hP, hK, hD0, hN⟩ := hv₀
  have hx₀ := B.exec
  have hb := B.bytes
  have hr := B.returns
  have hts := atoms_spec (ws := (kW yX12_lot cX12_lot 2 (some .int))) B.pre
  have hts := fun w h => hts w (List.mem_cons_of_mem _ h)
  have hown : s₀.vm.findClass RX12 = some m₀.cls := findClass_of_methodNamed B.named
  have hlocks := B.notSynchronized
  subst hsz
  have hD := hD0.self (sz := s₀.heap.size)
  generalize hAe : va_A [(kX12 hm vFo vSi vIt vMo la vBy vTy mi vMi pn vPs gn vGs fn vFt le vTo kn fe en ca an co vPr vSt vFn sn vSg vAl dr)] s₀.heap.size = A at hD ⊢
  have hA : ∀ q : Nat, s₀.heap.size ≤ q → A q := fun q h => by rw [← hAe]; exact Or.inr h
  have hS : va_S A s₀.heap s₀.heap [] := va_S.rf
  have hP : va_P (dC, dI) vwCl [(kX12 hm vFo vSi vIt vMo la vBy vTy mi vMi pn vPs gn vGs fn vFt le vTo kn fe en ca an co vPr vSt vFn sn vSg vAl dr)] s₀.heap := hP
  have hl := lv_entry ([.ref hm, .int m1]) (n := 2) (Nat.le_of_ble_eq_true rfl)
  rw [lg_entry_eq]
  generalize (lg_sl ([.ref hm, .int m1]) ++ List.replicate (2 - (lg_sl ([.ref hm, .int m1])).length) Slot.unset).toArray = ls at hl ⊢
  have hl : lv_has ls 2 [(0, .ref hm), (1, .int m1)] := hl
  obtain ⟨H, hH⟩ : ∃ z : Heap, z = s₀.heap := ⟨_, rfl⟩
  rw [← hH] at hP
  have hS : va_S A s₀.heap H [] := by rw [hH]; exact hS
  refine k_heap hH ?_
  have hD : va_D A [(kX12 hm vFo vSi vIt vMo la vBy vTy mi vMi pn vPs gn vGs fn vFt le vTo kn fe en ca an co vPr vSt vFn sn vSg vAl dr)] := hD
  obtain ⟨locs, hlo⟩ : ∃ z : List Loc, z = [] := ⟨_, rfl⟩
  rw [← hlo] at hS ⊢
  clear hlo hH hAe hD0
  refine lv_aload_n hx₀ hb dX12_lot_0 rfl (lv_at hl 0 rfl) ?_
  refine lv_ldcw (v := 1103515245) hx₀ hb hown (hts (.constant RX12 279 (1103515245)) wd_857) dX12_lot_1 ?_
  refine lv_aload_n hx₀ hb dX12_lot_4 rfl (lv_at hl 0 rfl) ?_
  refine va_get (D := (dC, dI)) (ci := 11) (v := .int dr) (C := RX12) (T := TX12) (N := 30) hx₀ hb hts inlX12 hown hK hP 0 rfl rfl 29 (by decide) (hts (.fieldLink RX12 280 "BittenStickModel" "drawn" "I") wd_852) (fun _ h9 => h9) rfl dX12_lot_5 ?_
  refine lv_imul hx₀ hb dX12_lot_8 ?_
  refine lv_sipush (v := 12345) hx₀ hb dX12_lot_9 (by decide +kernel) ?_
  refine lv_iadd hx₀ hb dX12_lot_12 ?_
  refine va_put (D := (dC, dI)) (ci := 11) (v := .int ((1103515245 * dr) + 12345)) (ty := .int) (C := RX12) (T := TX12) (N := 30) hx₀ hb hts inlX12 tyX12 tyX12_ok nmX12 hown hK hP hD hS 0 rfl rfl 29 (by decide) (hts (.fieldLink RX12 280 "BittenStickModel" "drawn" "I") wd_852) (fun _ h9 => h9) rfl (by decide +kernel) rfl rfl (Nat.le_of_ble_eq_true rfl) dX12_lot_13 ?_
  clear hP hD hS
  intro H locs hP hD hS
  replace hP := k_w2 (wt := [(kX12 hm vFo vSi vIt vMo la vBy vTy mi vMi pn vPs gn vGs fn vFt le vTo kn fe en ca an co vPr vSt vFn sn vSg vAl ((1103515245 * dr) + 12345))]) hP hD rfl
  replace hD := hP.2
  replace hP := hP.1
  refine lv_aload_n hx₀ hb dX12_lot_16 rfl (lv_at hl 0 rfl) ?_
  refine va_get (D := (dC, dI)) (ci := 11) (v := .int ((1103515245 * dr) + 12345)) (C := RX12) (T := TX12) (N := 30) hx₀ hb hts inlX12 hown hK hP 0 rfl rfl 29 (by decide) (hts (.fieldLink RX12 280 "BittenStickModel" "drawn" "I") wd_852) (fun _ h9 => h9) rfl dX12_lot_17 ?_
  refine lv_bipush (v := 16) hx₀ hb dX12_lot_20 (by decide +kernel) ?_
  refine lv_iushr hx₀ hb dX12_lot_22 rfl ?_
  refine lv_iload_n hx₀ hb dX12_lot_23 rfl (lv_at hl 1 rfl) ?_
  refine lv_irem hx₀ hb dX12_lot_24 (hh0) ?_
  obtain ⟨hP9, hD9⟩ := k_c2 (wc := [(kX12 hm vFo vSi vIt vMo la vBy vTy mi vMi pn vPs gn vGs fn vFt le vTo kn fe en ca an co vPr vSt vFn sn vSg vAl ((1103515245 * dr) + 12345))]) hP hD [0] (by decide +kernel) rfl
  exact W.iret (v := ((((1103515245 * dr) + 12345).toUInt32 >>> ((16 : Int32).toUInt32 &&& Int32.toUInt32 31)).toInt32) - ((((1103515245 * dr) + 12345).toUInt32 >>> ((16 : Int32).toUInt32 &&& Int32.toUInt32 31)).toInt32) / m1 * m1) hx₀ hb hr (fun t₀ ht hW => ⟨⟨((((1103515245 * dr) + 12345).toUInt32 >>> ((16 : Int32).toUInt32 &&& Int32.toUInt32 31)).toInt32) - ((((1103515245 * dr) + 12345).toUInt32 >>> ((16 : Int32).toUInt32 &&& Int32.toUInt32 31)).toInt32) / m1 * m1, (k_fn [((1103515245 * dr) + 12345)], k_fa [], k_fl [], k_fL [], k_fp []), rfl, trivial, by rw [ht]; exact hP9, va_K.moved hW.alike hK, hD9⟩, hS.F ht⟩) hS.2.2 dX12_lot_25
theorem lf_g_lakesOf_1 (a0 : Int32) (h0 : 0 ≤ a0 ∧ a0 ≤ 8) (h1 : ¬ a0 ≤ 1) : ¬ a0 = 0 := by
  first | rfl | assumption | decide | exact Or.inl rfl | (first | omega | (have hr0 := Int32.toInt_lt a0; have hs0 := Int32.le_toInt a0; simp only [Int64.toInt_add, Int64.toInt_sub, Int32.toInt_add, Int32.toInt_sub, Int32.toInt_mul, Int64.le_iff_toInt_le, Int64.lt_iff_toInt_lt, Int32.le_iff_toInt_le, Int32.lt_iff_toInt_lt, ← Int32.toInt_inj, ← Int64.toInt_inj, Int32.toInt_toInt64, kc_0, kc_1, kc_8] at *; (first | omega | ((try simp (disch := omega) only [k_bm64] at *); (try simp (disch := omega) only [k_bm] at *); (try simp (disch := omega) only [k_bm] at *); omega) | (simp only [Int.bmod] at *; omega))))
theorem lf_g_lakesOf_2 (a0 : Int32) (h0 : 0 ≤ a0 ∧ a0 ≤ 8) (h1 : ¬ a0 ≤ 1) : ¬ (a0 - 1) = 0 := by
  first | rfl | assumption | decide | exact Or.inl rfl | (first | omega | (have hr0 := Int32.toInt_lt a0; have hs0 := Int32.le_toInt a0; simp only [Int64.toInt_add, Int64.toInt_sub, Int32.toInt_add, Int32.toInt_sub, Int32.toInt_mul, Int64.le_iff_toInt_le, Int64.lt_iff_toInt_lt, Int32.le_iff_toInt_le, Int32.lt_iff_toInt_lt, ← Int32.toInt_inj, ← Int64.toInt_inj, Int32.toInt_toInt64, kc_0, kc_1, kc_8] at *; (first | omega | ((try simp (disch := omega) only [k_bm64] at *); (try simp (disch := omega) only [k_bm] at *); (try simp (disch := omega) only [k_bm] at *); omega) | (simp only [Int.bmod] at *; omega))))
theorem lf_g_lakesOf_3 (a0 : Int32) (a1 : Int32) (a2 : Nat) (h0 : 0 ≤ a0) (h1 : (a1.toInt - a0.toInt).toNat = a2) (h2 : ¬ a1 ≤ a0) : 0 ≤ (a0 + 1) := by
  first | rfl | assumption | decide | exact Or.inl rfl | (first | omega | (have hr0 := Int32.toInt_lt a0; have hs0 := Int32.le_toInt a0; have hr1 := Int32.toInt_lt a1; have hs1 := Int32.le_toInt a1; simp only [Int64.toInt_add, Int64.toInt_sub, Int32.toInt_add, Int32.toInt_sub, Int32.toInt_mul, Int64.le_iff_toInt_le, Int64.lt_iff_toInt_lt, Int32.le_iff_toInt_le, Int32.lt_iff_toInt_lt, ← Int32.toInt_inj, ← Int64.toInt_inj, Int32.toInt_toInt64, kc_0, kc_1] at *; (first | omega | ((try simp (disch := omega) only [k_bm64] at *); (try simp (disch := omega) only [k_bm] at *); (try simp (disch := omega) only [k_bm] at *); omega) | (simp only [Int.bmod] at *; omega))))
theorem lf_g_lakesOf_4 (a0 : Int32) (a1 : Int32) (a2 : Nat) (h0 : 0 ≤ a0) (h1 : (a1.toInt - a0.toInt).toNat = a2) (h2 : ¬ a1 ≤ a0) : (a1.toInt - (a0 + 1).toInt).toNat < a2 := by
  first | rfl | assumption | decide | exact Or.inl rfl | (first | omega | (have hr0 := Int32.toInt_lt a0; have hs0 := Int32.le_toInt a0; have hr1 := Int32.toInt_lt a1; have hs1 := Int32.le_toInt a1; simp only [Int64.toInt_add, Int64.toInt_sub, Int32.toInt_add, Int32.toInt_sub, Int32.toInt_mul, Int64.le_iff_toInt_le, Int64.lt_iff_toInt_lt, Int32.le_iff_toInt_le, Int32.lt_iff_toInt_lt, ← Int32.toInt_inj, ← Int64.toInt_inj, Int32.toInt_toInt64, kc_0, kc_1] at *; (first | omega | ((try simp (disch := omega) only [k_bm64] at *); (try simp (disch := omega) only [k_bm] at *); (try simp (disch := omega) only [k_bm] at *); omega) | (simp only [Int.bmod] at *; omega))))
set_option maxHeartbeats 4000000 in
set_option maxRecDepth 100000 in
theorem g_lakesOf (l : Launch) (dC : Nat → ClassId) (dI : Nat → Nat → Nat) (cI cJ cQ : ClassId) (sz : Nat) (hm : Nat) (z1 : Int32) (nn : Int32) (w1 : Int32) (vFo : Nat) (vSi : Nat) (vIt : Nat) (vMo : Nat) (la : Int32) (vBy : Nat) (vTy : Nat) (mi : Int32) (vMi : Nat) (pn : Int32) (vPs : Nat) (gn : Int32) (vGs : Nat) (fn : Int32) (vFt : Nat) (le : Int32) (vTo : Nat) (kn : Int32) (fe : Int32) (en : Int32) (ca : Int32) (an : Int32) (co : Int32) (vPr : Nat) (vSt : Nat) (vFn : Nat) (sn : Int32) (vSg : Nat) (vAl : Nat) (dr : Int32) (qMi : Nat → Int32) (qPs : Nat → Int32) (qGs : Nat → Int32) (qTo : Nat → Int32) (qPr : Nat → Int32) (qSt : Nat → Int32) (qFn : Nat → Int32) (hh0 : 0 ≤ mi ∧ mi ≤ 24) (hh1 : 0 ≤ pn ∧ pn ≤ 8) (hh2 : 0 ≤ gn ∧ gn ≤ 8) (hh3 : k_bd 2 0 7 qPr) (hh4 : 0 ≤ fe ∧ fe ≤ 24) (hh5 : en = 0 ∨ kn = 0 ∨ fe ≤ 23) (hh6 : 0 ≤ kn ∧ kn ≤ 24) : Met l yX12_lakesOf (kW yX12_lakesOf cX12_lakesOf 9 (some .int)) { frames := 3, cells := 0, slots := 0, locals := 78 } (kPre dC dI cI cJ cQ sz [.ref hm, .int z1, .int nn, .int w1] [(kX12 hm vFo vSi vIt vMo la vBy vTy mi vMi pn vPs gn vGs fn vFt le vTo kn fe en ca an co vPr vSt vFn sn vSg vAl dr), (kAI vMi cI 24 qMi), (kAI vPs cI 32 qPs), (kAI vGs cI 16 qGs), (kAI vTo cI 96 qTo), (kAI vPr cI 2 qPr), (kAI vSt cI 2 qSt), (kAI vFn cI 2 qFn)]) (va_Qi (fun (r : Int32) (u : kS) => (k_bd 2 0 7 (u.2.1 1)) ∧ (0 ≤ (u.1 1) ∧ (u.1 1) ≤ 24) ∧ ((u.1 2) = 0 ∨ (u.1 0) = 0 ∨ (u.1 1) ≤ 23) ∧ (0 ≤ (u.1 0) ∧ (u.1 0) ≤ 24)) (fun (u : kS) t₀ => kB dC dI cI cJ cQ (va_A [(kX12 hm vFo vSi vIt vMo la vBy vTy mi vMi pn vPs gn vGs fn vFt le vTo kn fe en ca an co vPr vSt vFn sn vSg vAl dr), (kAI vMi cI 24 qMi), (kAI vPs cI 32 qPs), (kAI vGs cI 16 qGs), (kAI vTo cI 96 qTo), (kAI vPr cI 2 qPr), (kAI vSt cI 2 qSt), (kAI vFn cI 2 qFn)] sz) [(kX12 hm vFo vSi vIt vMo la vBy vTy mi vMi pn vPs gn vGs fn vFt le vTo (u.1 0) (u.1 1) (u.1 2) ca (u.1 3) (u.1 4) vPr vSt vFn sn vSg vAl (u.1 5)), (kAI vMi cI 24 qMi), (kAI vPs cI 32 qPs), (kAI vGs cI 16 qGs), (kAI vTo cI 96 (u.2.1 0)), (kAI vPr cI 2 (u.2.1 1)), (kAI vSt cI 2 (u.2.1 2)), (kAI vFn cI 2 (u.2.1 3))] t₀) (va_A [(kX12 hm vFo vSi vIt vMo la vBy vTy mi vMi pn vPs gn vGs fn vFt le vTo kn fe en ca an co vPr vSt vFn sn vSg vAl dr), (kAI vMi cI 24 qMi), (kAI vPs cI 32 qPs), (kAI vGs cI 16 qGs), (kAI vTo cI 96 qTo), (kAI vPr cI 2 qPr), (kAI vSt cI 2 qSt), (kAI vFn cI 2 qFn)] sz)) 0 0 (va_A [(kX12 hm vFo vSi vIt vMo la vBy vTy mi vMi pn vPs gn vGs fn vFt le vTo kn fe en ca an co vPr vSt vFn sn vSg vAl dr), (kAI vMi cI 24 qMi), (kAI vPs cI 32 qPs), (kAI vGs cI 16 qGs), (kAI vTo cI 96 qTo), (kAI vPr cI 2 qPr), (kAI vSt cI 2 qSt), (kAI vFn cI 2 qFn)] sz) := by
  refine Met.ofW (cc := cX12_lakesOf) (maxL := 9) (ret := (some .int)) (by decide) rfl ?_
  intro p₀ e₀ s₀ m₀ args below meth c₀ s₁ B hml hv₀
  obtain ⟨rfl, hsz, hP, hK, hD0, hN⟩ := hv₀
  have hx₀ := B.exec
  have hb := B.bytes
  have hr := B.returns
  have hts := atoms_spec (ws := (kW yX12_lakesOf cX12_lakesOf 9 (some .int))) B.pre
  have hts := fun w h => hts w (List.mem_cons_of_mem _ h)
  have hown : s₀.vm.findClass RX12 = some m₀.cls := findClass_of_methodNamed B.named
  have hlocks := B.notSynchronized
  subst hsz
  have hD := hD0.self (sz := s₀.heap.size)
  generalize hAe : va_A [(kX12 hm vFo vSi vIt vMo la vBy vTy mi vMi pn vPs gn vGs fn vFt le vTo kn fe en ca an co vPr vSt vFn sn vSg vAl dr), (kAI vMi cI 24 qMi), (kAI vPs cI 32 qPs), (kAI vGs cI 16 qGs), (kAI vTo cI 96 qTo), (kAI vPr cI 2 qPr), (kAI vSt cI 2 qSt), (kAI vFn cI 2 qFn)] s₀.heap.size = A at hD ⊢
  have hA : ∀ q : Nat, s₀.heap.size ≤ q → A q := fun q h => by rw [← hAe]; exact Or.inr h
  have hS : va_S A s₀.heap s₀.heap [] := va_S.rf
  have hP : va_P (dC, dI) vwCl [(kX12 hm vFo vSi vIt vMo la vBy vTy mi vMi pn vPs gn vGs fn vFt le vTo kn fe en ca an co vPr vSt vFn sn vSg vAl dr), (kAI vMi cI 24 qMi), (kAI vPs cI 32 qPs), (kAI vGs cI 16 qGs), (kAI vTo cI 96 qTo), (kAI vPr cI 2 qPr), (kAI vSt cI 2 qSt), (kAI vFn cI 2 qFn)] s₀.heap := hP
  have hl := lv_entry ([.ref hm, .int z1, .int nn, .int w1]) (n := 9) (Nat.le_of_ble_eq_true rfl)
  rw [lg_entry_eq]
  generalize (lg_sl ([.ref hm, .int z1, .int nn, .int w1]) ++ List.replicate (9 - (lg_sl ([.ref hm, .int z1, .int nn, .int w1])).length) Slot.unset).toArray = ls at hl ⊢
  have hl : lv_has ls 9 [(0, .ref hm), (1, .int z1), (2, .int nn), (3, .int w1)] := hl
  obtain ⟨H, hH⟩ : ∃ z : Heap, z = s₀.heap := ⟨_, rfl⟩
  rw [← hH] at hP
  have hS : va_S A s₀.heap H [] := by rw [hH]; exact hS
  refine k_heap hH ?_
  have hD : va_D A [(kX12 hm vFo vSi vIt vMo la vBy vTy mi vMi pn vPs gn vGs fn vFt le vTo kn fe en ca an co vPr vSt vFn sn vSg vAl dr), (kAI vMi cI 24 qMi), (kAI vPs cI 32 qPs), (kAI vGs cI 16 qGs), (kAI vTo cI 96 qTo), (kAI vPr cI 2 qPr), (kAI vSt cI 2 qSt), (kAI vFn cI 2 qFn)] := hD
  obtain ⟨locs, hlo⟩ : ∃ z : List Loc, z = [] := ⟨_, rfl⟩
  rw [← hlo] at hS ⊢
  clear hlo hH hAe hD0
  refine lv_aload_n hx₀ hb dX12_lakesOf_0 rfl (lv_at hl 0 rfl) ?_
  refine lv_iload_n hx₀ hb dX12_lakesOf_1 rfl (lv_at hl 1 rfl) ?_
  refine va_put (D := (dC, dI)) (ci := 11) (v := .int z1) (ty := .int) (C := RX12) (T := TX12) (N := 30) hx₀ hb hts inlX12 tyX12 tyX12_ok nmX12 hown hK hP hD hS 0 rfl rfl 29 (by decide) (hts (.fieldLink RX12 280 "BittenStickModel" "drawn" "I") wd_852) (fun _ h9 => h9) rfl (by decide +kernel) rfl rfl (Nat.le_of_ble_eq_true rfl) dX12_lakesOf_2 ?_
  clear hP hD hS
  intro H locs hP hD hS
  replace hP := k_w2 (wt := [(kX12 hm vFo vSi vIt vMo la vBy vTy mi vMi pn vPs gn vGs fn vFt le vTo kn fe en ca an co vPr vSt vFn sn vSg vAl z1), (kAI vMi cI 24 qMi), (kAI vPs cI 32 qPs), (kAI vGs cI 16 qGs), (kAI vTo cI 96 qTo), (kAI vPr cI 2 qPr), (kAI vSt cI 2 qSt), (kAI vFn cI 2 qFn)]) hP hD rfl
  replace hD := hP.2
  replace hP := hP.1
  refine lv_iconst (v := 0) hx₀ hb dX12_lakesOf_5 (by decide +kernel) ?_
  refine lv_istore (lv' := [(4, .int 0), (0, .ref hm), (1, .int z1), (2, .int nn), (3, .int w1)]) hx₀ hb dX12_lakesOf_6 hl (by decide) rfl (fun ls hl => ?_)
  refine lv_iconst (v := 0) hx₀ hb dX12_lakesOf_8 (by decide +kernel) ?_
  refine lv_istore (lv' := [(5, .int 0), (4, .int 0), (0, .ref hm), (1, .int z1), (2, .int nn), (3, .int w1)]) hx₀ hb dX12_lakesOf_9 hl (by decide) rfl (fun ls hl => ?_)
  refine (?keyz1 : ∀ (jz1 : Nat) (suz1 : Int32) (kz1 : Int32) (knz1 : Int32) (fez1 : Int32) (enz1 : Int32) (anz1 : Int32) (coz1 : Int32) (drz1 : Int32) (qtz1 : Nat → Int32) (qpz1 : Nat → Int32) (qsz1 : Nat → Int32) (qfz1 : Nat → Int32) (H : Heap) (locs : List Loc) (ls : Array Slot), (0 ≤ kz1) → (k_bd 2 0 7 qpz1) → (0 ≤ fez1 ∧ fez1 ≤ 24) → (enz1 = 0 ∨ knz1 = 0 ∨ fez1 ≤ 23) → (0 ≤ knz1 ∧ knz1 ≤ 24) → ((nn.toInt - kz1.toInt).toNat = jz1) → va_P (dC, dI) vwCl [(kX12 hm vFo vSi vIt vMo la vBy vTy mi vMi pn vPs gn vGs fn vFt le vTo knz1 fez1 enz1 ca anz1 coz1 vPr vSt vFn sn vSg vAl drz1), (kAI vMi cI 24 qMi), (kAI vPs cI 32 qPs), (kAI vGs cI 16 qGs), (kAI vTo cI 96 qtz1), (kAI vPr cI 2 qpz1), (kAI vSt cI 2 qsz1), (kAI vFn cI 2 qfz1)] H → va_D A [(kX12 hm vFo vSi vIt vMo la vBy vTy mi vMi pn vPs gn vGs fn vFt le vTo knz1 fez1 enz1 ca anz1 coz1 vPr vSt vFn sn vSg vAl drz1), (kAI vMi cI 24 qMi), (kAI vPs cI 32 qPs), (kAI vGs cI 16 qGs), (kAI vTo cI 96 qtz1), (kAI vPr cI 2 qpz1), (kAI vSt cI 2 qsz1), (kAI vFn cI 2 qfz1)] → va_S A s₀.heap H locs → lv_has ls 9 [(5, .int kz1), (4, .int suz1), (0, .ref hm), (1, .int z1), (2, .int nn), (3, .int w1)] → W p₀ l e₀ _ s₀ m₀ _ below meth c₀ H locs _ _ _ (F0 m₀ 11 ls [])) _ (0 : Int32) (0 : Int32) kn fe en an co z1 _ _ _ _ H locs ls (show 0 ≤ (0 : Int32) from (by decide)) (hh3) (hh4) (hh5) (hh6) rfl hP hD hS hl
  clear hP hD hS hl
  intro jz1
  induction jz1 using Nat.strongRecOn with
  | ind jz1 ihz1 =>
    intro suz1 kz1 knz1 fez1 enz1 anz1 coz1 drz1 qtz1 qpz1 qsz1 qfz1 H locs ls hiz1_0 hiz1_1 hiz1_2 hiz1_3 hiz1_4 hjz1 hP hD hS hl
    refine lv_iload hx₀ hb dX12_lakesOf_11 (lv_at hl 0 rfl) ?_
    refine lv_iload_n hx₀ hb dX12_lakesOf_13 rfl (lv_at hl 4 rfl) ?_
    refine lv_icmp_ge (tgt := 134) hx₀ hb dX12_lakesOf_14 (by decide) (fun c_2 => ?_) (fun c_2 => ?_)
    · refine lv_iload hx₀ hb dX12_lakesOf_134 (lv_at hl 1 rfl) ?_
      obtain ⟨hP9, hD9⟩ := k_c2 (wc := [(kX12 hm vFo vSi vIt vMo la vBy vTy mi vMi pn vPs gn vGs fn vFt le vTo knz1 fez1 enz1 ca anz1 coz1 vPr vSt vFn sn vSg vAl drz1), (kAI vMi cI 24 qMi), (kAI vPs cI 32 qPs), (kAI vGs cI 16 qGs), (kAI vTo cI 96 qtz1), (kAI vPr cI 2 qpz1), (kAI vSt cI 2 qsz1), (kAI vFn cI 2 qfz1)]) hP hD [0, 1, 2, 3, 4, 5, 6, 7] (by decide +kernel) rfl
      exact W.iret (v := suz1) hx₀ hb hr (fun t₀ ht hW => ⟨⟨suz1, (k_fn [knz1, fez1, enz1, anz1, coz1, drz1], k_fa [qtz1, qpz1, qsz1, qfz1], k_fl [], k_fL [], k_fp []), rfl, ⟨hiz1_1, hiz1_2, hiz1_3, hiz1_4⟩, by rw [ht]; exact hP9, va_K.moved hW.alike hK, hD9⟩, hS.F ht⟩) hS.2.2 dX12_lakesOf_136
    · refine lv_aload_n hx₀ hb dX12_lakesOf_17 rfl (lv_at hl 2 rfl) ?_
      refine va_get (D := (dC, dI)) (ci := 11) (v := .int pn) (C := RX12) (T := TX12) (N := 30) hx₀ hb hts inlX12 hown hK hP 0 rfl rfl 9 (by decide) (hts (.fieldLink RX12 116 "BittenStickModel" "passengers" "I") wd_265) (fun _ h9 => h9) rfl dX12_lakesOf_18 ?_
      refine lv_if_le (tgt := 134) hx₀ hb dX12_lakesOf_21 (by decide) (fun c_3 => ?_) (fun c_3 => ?_)
      · refine lv_iload hx₀ hb dX12_lakesOf_134 (lv_at hl 1 rfl) ?_
        obtain ⟨hP9, hD9⟩ := k_c2 (wc := [(kX12 hm vFo vSi vIt vMo la vBy vTy mi vMi pn vPs gn vGs fn vFt le vTo knz1 fez1 enz1 ca anz1 coz1 vPr vSt vFn sn vSg vAl drz1), (kAI vMi cI 24 qMi), (kAI vPs cI 32 qPs), (kAI vGs cI 16 qGs), (kAI vTo cI 96 qtz1), (kAI vPr cI 2 qpz1), (kAI vSt cI 2 qsz1), (kAI vFn cI 2 qfz1)]) hP hD [0, 1, 2, 3, 4, 5, 6, 7] (by decide +kernel) rfl
        exact W.iret (v := suz1) hx₀ hb hr (fun t₀ ht hW => ⟨⟨suz1, (k_fn [knz1, fez1, enz1, anz1, coz1, drz1], k_fa [qtz1, qpz1, qsz1, qfz1], k_fl [], k_fL [], k_fp []), rfl, ⟨hiz1_1, hiz1_2, hiz1_3, hiz1_4⟩, by rw [ht]; exact hP9, va_K.moved hW.alike hK, hD9⟩, hS.F ht⟩) hS.2.2 dX12_lakesOf_136
      · refine lv_aload_n hx₀ hb dX12_lakesOf_24 rfl (lv_at hl 2 rfl) ?_
        refine va_get (D := (dC, dI)) (ci := 11) (v := .int gn) (C := RX12) (T := TX12) (N := 30) hx₀ hb hts inlX12 hown hK hP 0 rfl rfl 11 (by decide) (hts (.fieldLink RX12 122 "BittenStickModel" "geese" "I") wd_277) (fun _ h9 => h9) rfl dX12_lakesOf_25 ?_
        refine lv_iconst (v := 1) hx₀ hb dX12_lakesOf_28 (by decide +kernel) ?_
        refine lv_icmp_le (tgt := 134) hx₀ hb dX12_lakesOf_29 (by decide) (fun c_4 => ?_) (fun c_4 => ?_)
        · refine lv_iload hx₀ hb dX12_lakesOf_134 (lv_at hl 1 rfl) ?_
          obtain ⟨hP9, hD9⟩ := k_c2 (wc := [(kX12 hm vFo vSi vIt vMo la vBy vTy mi vMi pn vPs gn vGs fn vFt le vTo knz1 fez1 enz1 ca anz1 coz1 vPr vSt vFn sn vSg vAl drz1), (kAI vMi cI 24 qMi), (kAI vPs cI 32 qPs), (kAI vGs cI 16 qGs), (kAI vTo cI 96 qtz1), (kAI vPr cI 2 qpz1), (kAI vSt cI 2 qsz1), (kAI vFn cI 2 qfz1)]) hP hD [0, 1, 2, 3, 4, 5, 6, 7] (by decide +kernel) rfl
          exact W.iret (v := suz1) hx₀ hb hr (fun t₀ ht hW => ⟨⟨suz1, (k_fn [knz1, fez1, enz1, anz1, coz1, drz1], k_fa [qtz1, qpz1, qsz1, qfz1], k_fl [], k_fL [], k_fp []), rfl, ⟨hiz1_1, hiz1_2, hiz1_3, hiz1_4⟩, by rw [ht]; exact hP9, va_K.moved hW.alike hK, hD9⟩, hS.F ht⟩) hS.2.2 dX12_lakesOf_136
        · refine lv_aload_n hx₀ hb dX12_lakesOf_32 rfl (lv_at hl 2 rfl) ?_
          refine lv_aload_n hx₀ hb dX12_lakesOf_33 rfl (lv_at hl 2 rfl) ?_
          refine va_get (D := (dC, dI)) (ci := 11) (v := .int pn) (C := RX12) (T := TX12) (N := 30) hx₀ hb hts inlX12 hown hK hP 0 rfl rfl 9 (by decide) (hts (.fieldLink RX12 116 "BittenStickModel" "passengers" "I") wd_265) (fun _ h9 => h9) rfl dX12_lakesOf_34 ?_
          obtain ⟨hPc, hDc, hFc, hC⟩ := k_cw (wc := [(kX12 hm vFo vSi vIt vMo la vBy vTy mi vMi pn vPs gn vGs fn vFt le vTo knz1 fez1 enz1 ca anz1 coz1 vPr vSt vFn sn vSg vAl drz1)]) hP hD hS hA [0] (by decide +kernel) rfl
          refine va_calli (va_runV (As := [.int pn]) (rest := []) ⟨hx₀, hb, hml, hown, hts⟩ (g_lot l dC dI cI cJ cQ H.size hm pn vFo vSi vIt vMo la vBy vTy mi vMi pn vPs gn vGs fn vFt le vTo knz1 fez1 enz1 ca anz1 coz1 vPr vSt vFn sn vSg vAl drz1 (show ¬ pn = 0 from (fun z => c_3 (k_leq z)))) (cwV 1 hts (kGV wd_856 wd_853 wd_854 wd_855 wd_5) rfl rfl rfl (by decide +kernel) ⟨Nat.le_of_ble_eq_true rfl, Nat.le_of_ble_eq_true rfl⟩) (k_preV11 (q0 := 0) hK hPc hDc hN rfl) rfl rfl hl.1 rfl (lv_room (Nat.le_of_ble_eq_true rfl)) dX12_lakesOf_37 ⟨by decide +kernel, by decide +kernel⟩) hS (fun q _ h => hFc q h) hFc (fun r_5 u₀ t₀ H1 locs ht hvm hw hB hz1 hk1 hS => ?_)
          obtain ⟨g_6, ga_7, gl_8, gb_9, gp_10⟩ := u₀
          obtain ⟨hP1, hK1, hD1⟩ := hB
          rw [ht] at hP1
          have hJ := k_jn (wr := [(kAI vMi cI 24 qMi), (kAI vPs cI 32 qPs), (kAI vGs cI 16 qGs), (kAI vTo cI 96 qtz1), (kAI vPr cI 2 qpz1), (kAI vSt cI 2 qsz1), (kAI vFn cI 2 qfz1)]) (wt := [(kAI vMi cI 24 qMi), (kAI vPs cI 32 qPs), (kAI vGs cI 16 qGs), (kAI vTo cI 96 qtz1), (kAI vPr cI 2 qpz1), (kAI vSt cI 2 qsz1), (kAI vFn cI 2 qfz1), (kX12 hm vFo vSi vIt vMo la vBy vTy mi vMi pn vPs gn vGs fn vFt le vTo knz1 fez1 enz1 ca anz1 coz1 vPr vSt vFn sn vSg vAl (g_6 0))]) hP hD hC [1, 2, 3, 4, 5, 6, 7] rfl (by decide +kernel) (by decide +kernel) hk1 hFc hP1 hD1 rfl
          clear hP hD hPc hDc hFc hC hP1 hD1 hK1 hz1 hk1 hvm ht
          obtain ⟨hP, hD⟩ := hJ
          generalize H1 = H at hP hS ⊢
          try dsimp only at hw
          refine lv_istore (lv' := [(6, .int r_5), (5, .int kz1), (4, .int suz1), (0, .ref hm), (1, .int z1), (2, .int nn), (3, .int w1)]) hx₀ hb dX12_lakesOf_40 hl (by decide) rfl (fun ls hl => ?_)
          refine lv_aload_n hx₀ hb dX12_lakesOf_42 rfl (lv_at hl 3 rfl) ?_
          refine lv_aload_n hx₀ hb dX12_lakesOf_43 rfl (lv_at hl 3 rfl) ?_
          refine va_get (D := (dC, dI)) (ci := 11) (v := .int gn) (C := RX12) (T := TX12) (N := 30) hx₀ hb hts inlX12 hown hK hP 7 rfl rfl 11 (by decide) (hts (.fieldLink RX12 122 "BittenStickModel" "geese" "I") wd_277) (fun _ h9 => h9) rfl dX12_lakesOf_44 ?_
          obtain ⟨hPc, hDc, hFc, hC⟩ := k_cw (wc := [(kX12 hm vFo vSi vIt vMo la vBy vTy mi vMi pn vPs gn vGs fn vFt le vTo knz1 fez1 enz1 ca anz1 coz1 vPr vSt vFn sn vSg vAl (g_6 0))]) hP hD hS hA [7] (by decide +kernel) rfl
          refine va_calli (va_runV (As := [.int gn]) (rest := []) ⟨hx₀, hb, hml, hown, hts⟩ (g_lot l dC dI cI cJ cQ H.size hm gn vFo vSi vIt vMo la vBy vTy mi vMi pn vPs gn vGs fn vFt le vTo knz1 fez1 enz1 ca anz1 coz1 vPr vSt vFn sn vSg vAl (g_6 0) (lf_g_lakesOf_1 gn hh2 c_4)) (cwV 1 hts (kGV wd_856 wd_853 wd_854 wd_855 wd_5) rfl rfl rfl (by decide +kernel) ⟨Nat.le_of_ble_eq_true rfl, Nat.le_of_ble_eq_true rfl⟩) (k_preV11 (q0 := 0) hK hPc hDc hN rfl) rfl rfl hl.1 rfl (lv_room (Nat.le_of_ble_eq_true rfl)) dX12_lakesOf_47 ⟨by decide +kernel, by decide +kernel⟩) hS (fun q _ h => hFc q h) hFc (fun r_11 u₀ t₀ H1 locs ht hvm hw hB hz1 hk1 hS => ?_)
          obtain ⟨g_12, ga_13, gl_14, gb_15, gp_16⟩ := u₀
          obtain ⟨hP1, hK1, hD1⟩ := hB
          rw [ht] at hP1
          have hJ := k_jn (wr := [(kAI vMi cI 24 qMi), (kAI vPs cI 32 qPs), (kAI vGs cI 16 qGs), (kAI vTo cI 96 qtz1), (kAI vPr cI 2 qpz1), (kAI vSt cI 2 qsz1), (kAI vFn cI 2 qfz1)]) (wt := [(kAI vMi cI 24 qMi), (kAI vPs cI 32 qPs), (kAI vGs cI 16 qGs), (kAI vTo cI 96 qtz1), (kAI vPr cI 2 qpz1), (kAI vSt cI 2 qsz1), (kAI vFn cI 2 qfz1), (kX12 hm vFo vSi vIt vMo la vBy vTy mi vMi pn vPs gn vGs fn vFt le vTo knz1 fez1 enz1 ca anz1 coz1 vPr vSt vFn sn vSg vAl (g_12 0))]) hP hD hC [0, 1, 2, 3, 4, 5, 6] rfl (by decide +kernel) (by decide +kernel) hk1 hFc hP1 hD1 rfl
          clear hP hD hPc hDc hFc hC hP1 hD1 hK1 hz1 hk1 hvm ht
          obtain ⟨hP, hD⟩ := hJ
          generalize H1 = H at hP hS ⊢
          try dsimp only at hw
          refine lv_istore (lv' := [(7, .int r_11), (6, .int r_5), (5, .int kz1), (4, .int suz1), (0, .ref hm), (1, .int z1), (2, .int nn), (3, .int w1)]) hx₀ hb dX12_lakesOf_50 hl (by decide) rfl (fun ls hl => ?_)
          refine lv_aload_n hx₀ hb dX12_lakesOf_52 rfl (lv_at hl 4 rfl) ?_
          refine lv_aload_n hx₀ hb dX12_lakesOf_53 rfl (lv_at hl 4 rfl) ?_
          refine va_get (D := (dC, dI)) (ci := 11) (v := .int gn) (C := RX12) (T := TX12) (N := 30) hx₀ hb hts inlX12 hown hK hP 7 rfl rfl 11 (by decide) (hts (.fieldLink RX12 122 "BittenStickModel" "geese" "I") wd_277) (fun _ h9 => h9) rfl dX12_lakesOf_54 ?_
          refine lv_iconst (v := 1) hx₀ hb dX12_lakesOf_57 (by decide +kernel) ?_
          refine lv_isub hx₀ hb dX12_lakesOf_58 ?_
          obtain ⟨hPc, hDc, hFc, hC⟩ := k_cw (wc := [(kX12 hm vFo vSi vIt vMo la vBy vTy mi vMi pn vPs gn vGs fn vFt le vTo knz1 fez1 enz1 ca anz1 coz1 vPr vSt vFn sn vSg vAl (g_12 0))]) hP hD hS hA [7] (by decide +kernel) rfl
          refine va_calli (va_runV (As := [.int (gn - 1)]) (rest := []) ⟨hx₀, hb, hml, hown, hts⟩ (g_lot l dC dI cI cJ cQ H.size hm (gn - 1) vFo vSi vIt vMo la vBy vTy mi vMi pn vPs gn vGs fn vFt le vTo knz1 fez1 enz1 ca anz1 coz1 vPr vSt vFn sn vSg vAl (g_12 0) (lf_g_lakesOf_2 gn hh2 c_4)) (cwV 1 hts (kGV wd_856 wd_853 wd_854 wd_855 wd_5) rfl rfl rfl (by decide +kernel) ⟨Nat.le_of_ble_eq_true rfl, Nat.le_of_ble_eq_true rfl⟩) (k_preV11 (q0 := 0) hK hPc hDc hN rfl) rfl rfl hl.1 rfl (lv_room (Nat.le_of_ble_eq_true rfl)) dX12_lakesOf_59 ⟨by decide +kernel, by decide +kernel⟩) hS (fun q _ h => hFc q h) hFc (fun r_17 u₀ t₀ H1 locs ht hvm hw hB hz1 hk1 hS => ?_)
          obtain ⟨g_18, ga_19, gl_20, gb_21, gp_22⟩ := u₀
          obtain ⟨hP1, hK1, hD1⟩ := hB
          rw [ht] at hP1
          have hJ := k_jn (wr := [(kAI vMi cI 24 qMi), (kAI vPs cI 32 qPs), (kAI vGs cI 16 qGs), (kAI vTo cI 96 qtz1), (kAI vPr cI 2 qpz1), (kAI vSt cI 2 qsz1), (kAI vFn cI 2 qfz1)]) (wt := [(kAI vMi cI 24 qMi), (kAI vPs cI 32 qPs), (kAI vGs cI 16 qGs), (kAI vTo cI 96 qtz1), (kAI vPr cI 2 qpz1), (kAI vSt cI 2 qsz1), (kAI vFn cI 2 qfz1), (kX12 hm vFo vSi vIt vMo la vBy vTy mi vMi pn vPs gn vGs fn vFt le vTo knz1 fez1 enz1 ca anz1 coz1 vPr vSt vFn sn vSg vAl (g_18 0))]) hP hD hC [0, 1, 2, 3, 4, 5, 6] rfl (by decide +kernel) (by decide +kernel) hk1 hFc hP1 hD1 rfl
          clear hP hD hPc hDc hFc hC hP1 hD1 hK1 hz1 hk1 hvm ht
          obtain ⟨hP, hD⟩ := hJ
          generalize H1 = H at hP hS ⊢
          try dsimp only at hw
          refine lv_istore (lv' := [(8, .int r_17), (7, .int r_11), (6, .int r_5), (5, .int kz1), (4, .int suz1), (0, .ref hm), (1, .int z1), (2, .int nn), (3, .int w1)]) hx₀ hb dX12_lakesOf_62 hl (by decide) rfl (fun ls hl => ?_)
          refine lv_iload hx₀ hb dX12_lakesOf_64 (lv_at hl 0 rfl) ?_
          refine lv_iload hx₀ hb dX12_lakesOf_66 (lv_at hl 0 rfl) ?_
          refine lv_iload hx₀ hb dX12_lakesOf_68 (lv_at hl 1 rfl) ?_
          refine lv_icmp_lt (tgt := 77) hx₀ hb dX12_lakesOf_70 (by decide) (fun c_23 => ?_) (fun c_23 => ?_)
          · refine lv_iconst (v := 0) hx₀ hb dX12_lakesOf_77 (by decide +kernel) ?_
            refine lv_iadd hx₀ hb dX12_lakesOf_78 ?_
            refine lv_istore (lv' := [(8, .int (r_17 + 0)), (7, .int r_11), (6, .int r_5), (5, .int kz1), (4, .int suz1), (0, .ref hm), (1, .int z1), (2, .int nn), (3, .int w1)]) hx₀ hb dX12_lakesOf_79 hl (by decide) rfl (fun ls hl => ?_)
            refine lv_aload_n hx₀ hb dX12_lakesOf_81 rfl (lv_at hl 5 rfl) ?_
            refine lv_iload hx₀ hb dX12_lakesOf_82 (lv_at hl 2 rfl) ?_
            refine lv_iload hx₀ hb dX12_lakesOf_84 (lv_at hl 1 rfl) ?_
            refine lv_iload hx₀ hb dX12_lakesOf_86 (lv_at hl 0 rfl) ?_
            refine lv_aload_n hx₀ hb dX12_lakesOf_88 rfl (lv_at hl 5 rfl) ?_
            refine lv_bipush (v := 9) hx₀ hb dX12_lakesOf_89 (by decide +kernel) ?_
            obtain ⟨hPc, hDc, hFc, hC⟩ := k_cw (wc := [(kX12 hm vFo vSi vIt vMo la vBy vTy mi vMi pn vPs gn vGs fn vFt le vTo knz1 fez1 enz1 ca anz1 coz1 vPr vSt vFn sn vSg vAl (g_18 0))]) hP hD hS hA [7] (by decide +kernel) rfl
            refine va_calli (va_runV (As := [.int 9]) (rest := [.int (r_17 + 0), .int r_11, .int r_5, .ref hm]) ⟨hx₀, hb, hml, hown, hts⟩ (g_lot l dC dI cI cJ cQ H.size hm 9 vFo vSi vIt vMo la vBy vTy mi vMi pn vPs gn vGs fn vFt le vTo knz1 fez1 enz1 ca anz1 coz1 vPr vSt vFn sn vSg vAl (g_18 0) (show ¬ (9 : Int32) = 0 from (fun z => absurd z (by decide)))) (cwV 1 hts (kGV wd_856 wd_853 wd_854 wd_855 wd_5) rfl rfl rfl (by decide +kernel) ⟨Nat.le_of_ble_eq_true rfl, Nat.le_of_ble_eq_true rfl⟩) (k_preV11 (q0 := 0) hK hPc hDc hN rfl) rfl rfl hl.1 rfl (lv_room (Nat.le_of_ble_eq_true rfl)) dX12_lakesOf_91 ⟨by decide +kernel, by decide +kernel⟩) hS (fun q _ h => hFc q h) hFc (fun r_24 u₀ t₀ H1 locs ht hvm hw hB hz1 hk1 hS => ?_)
            obtain ⟨g_25, ga_26, gl_27, gb_28, gp_29⟩ := u₀
            obtain ⟨hP1, hK1, hD1⟩ := hB
            rw [ht] at hP1
            have hJ := k_jn (wr := [(kAI vMi cI 24 qMi), (kAI vPs cI 32 qPs), (kAI vGs cI 16 qGs), (kAI vTo cI 96 qtz1), (kAI vPr cI 2 qpz1), (kAI vSt cI 2 qsz1), (kAI vFn cI 2 qfz1)]) (wt := [(kAI vMi cI 24 qMi), (kAI vPs cI 32 qPs), (kAI vGs cI 16 qGs), (kAI vTo cI 96 qtz1), (kAI vPr cI 2 qpz1), (kAI vSt cI 2 qsz1), (kAI vFn cI 2 qfz1), (kX12 hm vFo vSi vIt vMo la vBy vTy mi vMi pn vPs gn vGs fn vFt le vTo knz1 fez1 enz1 ca anz1 coz1 vPr vSt vFn sn vSg vAl (g_25 0))]) hP hD hC [0, 1, 2, 3, 4, 5, 6] rfl (by decide +kernel) (by decide +kernel) hk1 hFc hP1 hD1 rfl
            clear hP hD hPc hDc hFc hC hP1 hD1 hK1 hz1 hk1 hvm ht
            obtain ⟨hP, hD⟩ := hJ
            generalize H1 = H at hP hS ⊢
            try dsimp only at hw
            refine lv_iconst (v := 1) hx₀ hb dX12_lakesOf_94 (by decide +kernel) ?_
            refine lv_iadd hx₀ hb dX12_lakesOf_95 ?_
            refine lv_bipush (v := 24) hx₀ hb dX12_lakesOf_96 (by decide +kernel) ?_
            refine lv_iconst (v := 0) hx₀ hb dX12_lakesOf_98 (by decide +kernel) ?_
            obtain ⟨hPc, hDc, hFc, hC⟩ := k_cw (wc := [(kX12 hm vFo vSi vIt vMo la vBy vTy mi vMi pn vPs gn vGs fn vFt le vTo knz1 fez1 enz1 ca anz1 coz1 vPr vSt vFn sn vSg vAl (g_25 0)), (kAI vMi cI 24 qMi), (kAI vPs cI 32 qPs), (kAI vGs cI 16 qGs), (kAI vTo cI 96 qtz1), (kAI vPr cI 2 qpz1), (kAI vSt cI 2 qsz1), (kAI vFn cI 2 qfz1)]) hP hD hS hA [7, 0, 1, 2, 3, 4, 5, 6] (by decide +kernel) rfl
            refine va_callv (va_runV (As := [.int r_5, .int r_11, .int (r_17 + 0), .int (r_24 + 1), .int 24, .int 0]) (rest := []) ⟨hx₀, hb, hml, hown, hts⟩ (g_flies l dC dI cI cJ cQ H.size hm r_5 r_11 (r_17 + 0) (r_24 + 1) 24 0 vFo vSi vIt vMo la vBy vTy mi vMi pn vPs gn vGs fn vFt le vTo knz1 fez1 enz1 ca anz1 coz1 vPr vSt vFn sn vSg vAl (g_25 0) qMi qPs qGs qtz1 qpz1 qsz1 qfz1 (hh0) (hh1) (hh2) (hiz1_1)) (cwV 6 hts (kGV wd_540 wd_537 wd_538 wd_539 wd_5) rfl rfl rfl (by decide +kernel) ⟨Nat.le_of_ble_eq_true rfl, Nat.le_of_ble_eq_true rfl⟩) (k_preV11 (q0 := 0) hK hPc hDc hN rfl) rfl rfl hl.1 rfl (lv_room (Nat.le_of_ble_eq_true rfl)) dX12_lakesOf_99 ⟨by decide +kernel, by decide +kernel⟩) hS (fun q _ h => hFc q h) hFc (fun u₀ t₀ H1 locs ht hvm hw hB hz1 hk1 hS => ?_)
            obtain ⟨g_31, ga_32, gl_33, gb_34, gp_35⟩ := u₀
            obtain ⟨hP1, hK1, hD1⟩ := hB
            rw [ht] at hP1
            have hJ := k_jn (wr := []) (wt := [(kX12 hm vFo vSi vIt vMo la vBy vTy mi vMi pn vPs gn vGs fn vFt le vTo (g_31 0) (g_31 1) (g_31 2) ca (g_31 3) (g_31 4) vPr vSt vFn sn vSg vAl (g_25 0)), (kAI vMi cI 24 qMi), (kAI vPs cI 32 qPs), (kAI vGs cI 16 qGs), (kAI vTo cI 96 (ga_32 0)), (kAI vPr cI 2 (ga_32 1)), (kAI vSt cI 2 (ga_32 2)), (kAI vFn cI 2 (ga_32 3))]) hP hD hC [] rfl (by decide +kernel) (by decide +kernel) hk1 hFc hP1 hD1 rfl
            clear hP hD hPc hDc hFc hC hP1 hD1 hK1 hz1 hk1 hvm ht
            obtain ⟨hP, hD⟩ := hJ
            generalize H1 = H at hP hS ⊢
            try dsimp only at hw
            obtain ⟨c_36, c_37, c_38, c_39⟩ := hw
            refine lv_iload hx₀ hb dX12_lakesOf_102 (lv_at hl 4 rfl) ?_
            refine lv_aload_n hx₀ hb dX12_lakesOf_104 rfl (lv_at hl 5 rfl) ?_
            refine va_get (D := (dC, dI)) (ci := 11) (v := .int (g_31 2)) (C := RX12) (T := TX12) (N := 30) hx₀ hb hts inlX12 hown hK hP 0 rfl rfl 19 (by decide) (hts (.fieldLink RX12 196 "BittenStickModel" "end" "I") wd_543) (fun _ h9 => h9) rfl dX12_lakesOf_105 ?_
            refine lv_iload_n hx₀ hb dX12_lakesOf_108 rfl (lv_at hl 8 rfl) ?_
            refine lv_if_ne (tgt := 116) hx₀ hb dX12_lakesOf_109 (by decide) (fun c_40 => ?_) (fun c_40 => ?_)
            · refine lv_iconst (v := 3) hx₀ hb dX12_lakesOf_116 (by decide +kernel) ?_
              refine lv_icmp_ne (tgt := 124) hx₀ hb dX12_lakesOf_117 (by decide) (fun c_41 => ?_) (fun c_41 => ?_)
              · refine lv_iconst (v := 0) hx₀ hb dX12_lakesOf_124 (by decide +kernel) ?_
                refine lv_iadd hx₀ hb dX12_lakesOf_125 ?_
                refine lv_istore (lv' := [(4, .int (suz1 + 0)), (8, .int (r_17 + 0)), (7, .int r_11), (6, .int r_5), (5, .int kz1), (0, .ref hm), (1, .int z1), (2, .int nn), (3, .int w1)]) hx₀ hb dX12_lakesOf_126 hl (by decide) rfl (fun ls hl => ?_)
                refine lv_iinc (v := kz1 + 1) (lv' := [(5, .int (kz1 + 1)), (4, .int (suz1 + 0)), (8, .int (r_17 + 0)), (7, .int r_11), (6, .int r_5), (0, .ref hm), (1, .int z1), (2, .int nn), (3, .int w1)]) hx₀ hb dX12_lakesOf_128 hl (k := 4) rfl rfl (by decide) rfl (fun ls hl => ?_)
                refine lv_goto (tgt := 11) hx₀ hb dX12_lakesOf_131 (by decide) ?_
                exact ihz1 _ (lf_g_lakesOf_4 kz1 nn jz1 hiz1_0 hjz1 c_2) (suz1 + 0) (kz1 + 1) (g_31 0) (g_31 1) (g_31 2) (g_31 3) (g_31 4) (g_25 0) (ga_32 0) (ga_32 1) (ga_32 2) (ga_32 3) _ _ _ (lf_g_lakesOf_3 kz1 nn jz1 hiz1_0 hjz1 c_2) (c_36) (c_37) (c_38) (c_39) rfl (hP.sub [0, 1, 2, 3, 4, 5, 6, 7] rfl) (hD.sub [0, 1, 2, 3, 4, 5, 6, 7] (by decide +kernel) rfl) hS (lv_sub hl [0, 1, 5, 6, 7, 8] rfl)
              · refine lv_iconst (v := 1) hx₀ hb dX12_lakesOf_120 (by decide +kernel) ?_
                refine lv_goto (tgt := 125) hx₀ hb dX12_lakesOf_121 (by decide) ?_
                refine lv_iadd hx₀ hb dX12_lakesOf_125 ?_
                refine lv_istore (lv' := [(4, .int (suz1 + 1)), (8, .int (r_17 + 0)), (7, .int r_11), (6, .int r_5), (5, .int kz1), (0, .ref hm), (1, .int z1), (2, .int nn), (3, .int w1)]) hx₀ hb dX12_lakesOf_126 hl (by decide) rfl (fun ls hl => ?_)
                refine lv_iinc (v := kz1 + 1) (lv' := [(5, .int (kz1 + 1)), (4, .int (suz1 + 1)), (8, .int (r_17 + 0)), (7, .int r_11), (6, .int r_5), (0, .ref hm), (1, .int z1), (2, .int nn), (3, .int w1)]) hx₀ hb dX12_lakesOf_128 hl (k := 4) rfl rfl (by decide) rfl (fun ls hl => ?_)
                refine lv_goto (tgt := 11) hx₀ hb dX12_lakesOf_131 (by decide) ?_
                exact ihz1 _ (lf_g_lakesOf_4 kz1 nn jz1 hiz1_0 hjz1 c_2) (suz1 + 1) (kz1 + 1) (g_31 0) (g_31 1) (g_31 2) (g_31 3) (g_31 4) (g_25 0) (ga_32 0) (ga_32 1) (ga_32 2) (ga_32 3) _ _ _ (lf_g_lakesOf_3 kz1 nn jz1 hiz1_0 hjz1 c_2) (c_36) (c_37) (c_38) (c_39) rfl (hP.sub [0, 1, 2, 3, 4, 5, 6, 7] rfl) (hD.sub [0, 1, 2, 3, 4, 5, 6, 7] (by decide +kernel) rfl) hS (lv_sub hl [0, 1, 5, 6, 7, 8] rfl)
            · refine lv_iconst (v := 0) hx₀ hb dX12_lakesOf_112 (by decide +kernel) ?_
              refine lv_goto (tgt := 117) hx₀ hb dX12_lakesOf_113 (by decide) ?_
              refine lv_icmp_ne (tgt := 124) hx₀ hb dX12_lakesOf_117 (by decide) (fun c_42 => ?_) (fun c_42 => ?_)
              · refine lv_iconst (v := 0) hx₀ hb dX12_lakesOf_124 (by decide +kernel) ?_
                refine lv_iadd hx₀ hb dX12_lakesOf_125 ?_
                refine lv_istore (lv' := [(4, .int (suz1 + 0)), (8, .int (r_17 + 0)), (7, .int r_11), (6, .int r_5), (5, .int kz1), (0, .ref hm), (1, .int z1), (2, .int nn), (3, .int w1)]) hx₀ hb dX12_lakesOf_126 hl (by decide) rfl (fun ls hl => ?_)
                refine lv_iinc (v := kz1 + 1) (lv' := [(5, .int (kz1 + 1)), (4, .int (suz1 + 0)), (8, .int (r_17 + 0)), (7, .int r_11), (6, .int r_5), (0, .ref hm), (1, .int z1), (2, .int nn), (3, .int w1)]) hx₀ hb dX12_lakesOf_128 hl (k := 4) rfl rfl (by decide) rfl (fun ls hl => ?_)
                refine lv_goto (tgt := 11) hx₀ hb dX12_lakesOf_131 (by decide) ?_
                exact ihz1 _ (lf_g_lakesOf_4 kz1 nn jz1 hiz1_0 hjz1 c_2) (suz1 + 0) (kz1 + 1) (g_31 0) (g_31 1) (g_31 2) (g_31 3) (g_31 4) (g_25 0) (ga_32 0) (ga_32 1) (ga_32 2) (ga_32 3) _ _ _ (lf_g_lakesOf_3 kz1 nn jz1 hiz1_0 hjz1 c_2) (c_36) (c_37) (c_38) (c_39) rfl (hP.sub [0, 1, 2, 3, 4, 5, 6, 7] rfl) (hD.sub [0, 1, 2, 3, 4, 5, 6, 7] (by decide +kernel) rfl) hS (lv_sub hl [0, 1, 5, 6, 7, 8] rfl)
              · refine lv_iconst (v := 1) hx₀ hb dX12_lakesOf_120 (by decide +kernel) ?_
                refine lv_goto (tgt := 125) hx₀ hb dX12_lakesOf_121 (by decide) ?_
                refine lv_iadd hx₀ hb dX12_lakesOf_125 ?_
                refine lv_istore (lv' := [(4, .int (suz1 + 1)), (8, .int (r_17 + 0)), (7, .int r_11), (6, .int r_5), (5, .int kz1), (0, .ref hm), (1, .int z1), (2, .int nn), (3, .int w1)]) hx₀ hb dX12_lakesOf_126 hl (by decide) rfl (fun ls hl => ?_)
                refine lv_iinc (v := kz1 + 1) (lv' := [(5, .int (kz1 + 1)), (4, .int (suz1 + 1)), (8, .int (r_17 + 0)), (7, .int r_11), (6, .int r_5), (0, .ref hm), (1, .int z1), (2, .int nn), (3, .int w1)]) hx₀ hb dX12_lakesOf_128 hl (k := 4) rfl rfl (by decide) rfl (fun ls hl => ?_)
                refine lv_goto (tgt := 11) hx₀ hb dX12_lakesOf_131 (by decide) ?_
                exact ihz1 _ (lf_g_lakesOf_4 kz1 nn jz1 hiz1_0 hjz1 c_2) (suz1 + 1) (kz1 + 1) (g_31 0) (g_31 1) (g_31 2) (g_31 3) (g_31 4) (g_25 0) (ga_32 0) (ga_32 1) (ga_32 2) (ga_32 3) _ _ _ (lf_g_lakesOf_3 kz1 nn jz1 hiz1_0 hjz1 c_2) (c_36) (c_37) (c_38) (c_39) rfl (hP.sub [0, 1, 2, 3, 4, 5, 6, 7] rfl) (hD.sub [0, 1, 2, 3, 4, 5, 6, 7] (by decide +kernel) rfl) hS (lv_sub hl [0, 1, 5, 6, 7, 8] rfl)
          · refine lv_iconst (v := 1) hx₀ hb dX12_lakesOf_73 (by decide +kernel) ?_
            refine lv_goto (tgt := 78) hx₀ hb dX12_lakesOf_74 (by decide) ?_
            refine lv_iadd hx₀ hb dX12_lakesOf_78 ?_
            refine lv_istore (lv' := [(8, .int (r_17 + 1)), (7, .int r_11), (6, .int r_5), (5, .int kz1), (4, .int suz1), (0, .ref hm), (1, .int z1), (2, .int nn), (3, .int w1)]) hx₀ hb dX12_lakesOf_79 hl (by decide) rfl (fun ls hl => ?_)
            refine lv_aload_n hx₀ hb dX12_lakesOf_81 rfl (lv_at hl 5 rfl) ?_
            refine lv_iload hx₀ hb dX12_lakesOf_82 (lv_at hl 2 rfl) ?_
            refine lv_iload hx₀ hb dX12_lakesOf_84 (lv_at hl 1 rfl) ?_
            refine lv_iload hx₀ hb dX12_lakesOf_86 (lv_at hl 0 rfl) ?_
            refine lv_aload_n hx₀ hb dX12_lakesOf_88 rfl (lv_at hl 5 rfl) ?_
            refine lv_bipush (v := 9) hx₀ hb dX12_lakesOf_89 (by decide +kernel) ?_
            obtain ⟨hPc, hDc, hFc, hC⟩ := k_cw (wc := [(kX12 hm vFo vSi vIt vMo la vBy vTy mi vMi pn vPs gn vGs fn vFt le vTo knz1 fez1 enz1 ca anz1 coz1 vPr vSt vFn sn vSg vAl (g_18 0))]) hP hD hS hA [7] (by decide +kernel) rfl
            refine va_calli (va_runV (As := [.int 9]) (rest := [.int (r_17 + 1), .int r_11, .int r_5, .ref hm]) ⟨hx₀, hb, hml, hown, hts⟩ (g_lot l dC dI cI cJ cQ H.size hm 9 vFo vSi vIt vMo la vBy vTy mi vMi pn vPs gn vGs fn vFt le vTo knz1 fez1 enz1 ca anz1 coz1 vPr vSt vFn sn vSg vAl (g_18 0) (show ¬ (9 : Int32) = 0 from (fun z => absurd z (by decide)))) (cwV 1 hts (kGV wd_856 wd_853 wd_854 wd_855 wd_5) rfl rfl rfl (by decide +kernel) ⟨Nat.le_of_ble_eq_true rfl, Nat.le_of_ble_eq_true rfl⟩) (k_preV11 (q0 := 0) hK hPc hDc hN rfl) rfl rfl hl.1 rfl (lv_room (Nat.le_of_ble_eq_true rfl)) dX12_lakesOf_91 ⟨by decide +kernel, by decide +kernel⟩) hS (fun q _ h => hFc q h) hFc (fun r_43 u₀ t₀ H1 locs ht hvm hw hB hz1 hk1 hS => ?_)
            obtain ⟨g_44, ga_45, gl_46, gb_47, gp_48⟩ := u₀
            obtain ⟨hP1, hK1, hD1⟩ := hB
            rw [ht] at hP1
            have hJ := k_jn (wr := [(kAI vMi cI 24 qMi), (kAI vPs cI 32 qPs), (kAI vGs cI 16 qGs), (kAI vTo cI 96 qtz1), (kAI vPr cI 2 qpz1), (kAI vSt cI 2 qsz1), (kAI vFn cI 2 qfz1)]) (wt := [(kAI vMi cI 24 qMi), (kAI vPs cI 32 qPs), (kAI vGs cI 16 qGs), (kAI vTo cI 96 qtz1), (kAI vPr cI 2 qpz1), (kAI vSt cI 2 qsz1), (kAI vFn cI 2 qfz1), (kX12 hm vFo vSi vIt vMo la vBy vTy mi vMi pn vPs gn vGs fn vFt le vTo knz1 fez1 enz1 ca anz1 coz1 vPr vSt vFn sn vSg vAl (g_44 0))]) hP hD hC [0, 1, 2, 3, 4, 5, 6] rfl (by decide +kernel) (by decide +kernel) hk1 hFc hP1 hD1 rfl
            clear hP hD hPc hDc hFc hC hP1 hD1 hK1 hz1 hk1 hvm ht
            obtain ⟨hP, hD⟩ := hJ
            generalize H1 = H at hP hS ⊢
            try dsimp only at hw
            refine lv_iconst (v := 1) hx₀ hb dX12_lakesOf_94 (by decide +kernel) ?_
            refine lv_iadd hx₀ hb dX12_lakesOf_95 ?_
            refine lv_bipush (v := 24) hx₀ hb dX12_lakesOf_96 (by decide +kernel) ?_
            refine lv_iconst (v := 0) hx₀ hb dX12_lakesOf_98 (by decide +kernel) ?_
            obtain ⟨hPc, hDc, hFc, hC⟩ := k_cw (wc := [(kX12 hm vFo vSi vIt vMo la vBy vTy mi vMi pn vPs gn vGs fn vFt le vTo knz1 fez1 enz1 ca anz1 coz1 vPr vSt vFn sn vSg vAl (g_44 0)), (kAI vMi cI 24 qMi), (kAI vPs cI 32 qPs), (kAI vGs cI 16 qGs), (kAI vTo cI 96 qtz1), (kAI vPr cI 2 qpz1), (kAI vSt cI 2 qsz1), (kAI vFn cI 2 qfz1)]) hP hD hS hA [7, 0, 1, 2, 3, 4, 5, 6] (by decide +kernel) rfl
            refine va_callv (va_runV (As := [.int r_5, .int r_11, .int (r_17 + 1), .int (r_43 + 1), .int 24, .int 0]) (rest := []) ⟨hx₀, hb, hml, hown, hts⟩ (g_flies l dC dI cI cJ cQ H.size hm r_5 r_11 (r_17 + 1) (r_43 + 1) 24 0 vFo vSi vIt vMo la vBy vTy mi vMi pn vPs gn vGs fn vFt le vTo knz1 fez1 enz1 ca anz1 coz1 vPr vSt vFn sn vSg vAl (g_44 0) qMi qPs qGs qtz1 qpz1 qsz1 qfz1 (hh0) (hh1) (hh2) (hiz1_1)) (cwV 6 hts (kGV wd_540 wd_537 wd_538 wd_539 wd_5) rfl rfl rfl (by decide +kernel) ⟨Nat.le_of_ble_eq_true rfl, Nat.le_of_ble_eq_true rfl⟩) (k_preV11 (q0 := 0) hK hPc hDc hN rfl) rfl rfl hl.1 rfl (lv_room (Nat.le_of_ble_eq_true rfl)) dX12_lakesOf_99 ⟨by decide +kernel, by decide +kernel⟩) hS (fun q _ h => hFc q h) hFc (fun u₀ t₀ H1 locs ht hvm hw hB hz1 hk1 hS => ?_)
            obtain ⟨g_50, ga_51, gl_52, gb_53, gp_54⟩ := u₀
            obtain ⟨hP1, hK1, hD1⟩ := hB
            rw [ht] at hP1
            have hJ := k_jn (wr := []) (wt := [(kX12 hm vFo vSi vIt vMo la vBy vTy mi vMi pn vPs gn vGs fn vFt le vTo (g_50 0) (g_50 1) (g_50 2) ca (g_50 3) (g_50 4) vPr vSt vFn sn vSg vAl (g_44 0)), (kAI vMi cI 24 qMi), (kAI vPs cI 32 qPs), (kAI vGs cI 16 qGs), (kAI vTo cI 96 (ga_51 0)), (kAI vPr cI 2 (ga_51 1)), (kAI vSt cI 2 (ga_51 2)), (kAI vFn cI 2 (ga_51 3))]) hP hD hC [] rfl (by decide +kernel) (by decide +kernel) hk1 hFc hP1 hD1 rfl
            clear hP hD hPc hDc hFc hC hP1 hD1 hK1 hz1 hk1 hvm ht
            obtain ⟨hP, hD⟩ := hJ
            generalize H1 = H at hP hS ⊢
            try dsimp only at hw
            obtain ⟨c_55, c_56, c_57, c_58⟩ := hw
            refine lv_iload hx₀ hb dX12_lakesOf_102 (lv_at hl 4 rfl) ?_
            refine lv_aload_n hx₀ hb dX12_lakesOf_104 rfl (lv_at hl 5 rfl) ?_
            refine va_get (D := (dC, dI)) (ci := 11) (v := .int (g_50 2)) (C := RX12) (T := TX12) (N := 30) hx₀ hb hts inlX12 hown hK hP 0 rfl rfl 19 (by decide) (hts (.fieldLink RX12 196 "BittenStickModel" "end" "I") wd_543) (fun _ h9 => h9) rfl dX12_lakesOf_105 ?_
            refine lv_iload_n hx₀ hb dX12_lakesOf_108 rfl (lv_at hl 8 rfl) ?_
            refine lv_if_ne (tgt := 116) hx₀ hb dX12_lakesOf_109 (by decide) (fun c_59 => ?_) (fun c_59 => ?_)
            · refine lv_iconst (v := 3) hx₀ hb dX12_lakesOf_116 (by decide +kernel) ?_
              refine lv_icmp_ne (tgt := 124) hx₀ hb dX12_lakesOf_117 (by decide) (fun c_60 => ?_) (fun c_60 => ?_)
              · refine lv_iconst (v := 0) hx₀ hb dX12_lakesOf_124 (by decide +kernel) ?_
                refine lv_iadd hx₀ hb dX12_lakesOf_125 ?_
                refine lv_istore (lv' := [(4, .int (suz1 + 0)), (8, .int (r_17 + 1)), (7, .int r_11), (6, .int r_5), (5, .int kz1), (0, .ref hm), (1, .int z1), (2, .int nn), (3, .int w1)]) hx₀ hb dX12_lakesOf_126 hl (by decide) rfl (fun ls hl => ?_)
                refine lv_iinc (v := kz1 + 1) (lv' := [(5, .int (kz1 + 1)), (4, .int (suz1 + 0)), (8, .int (r_17 + 1)), (7, .int r_11), (6, .int r_5), (0, .ref hm), (1, .int z1), (2, .int nn), (3, .int w1)]) hx₀ hb dX12_lakesOf_128 hl (k := 4) rfl rfl (by decide) rfl (fun ls hl => ?_)
                refine lv_goto (tgt := 11) hx₀ hb dX12_lakesOf_131 (by decide) ?_
                exact ihz1 _ (lf_g_lakesOf_4 kz1 nn jz1 hiz1_0 hjz1 c_2) (suz1 + 0) (kz1 + 1) (g_50 0) (g_50 1) (g_50 2) (g_50 3) (g_50 4) (g_44 0) (ga_51 0) (ga_51 1) (ga_51 2) (ga_51 3) _ _ _ (lf_g_lakesOf_3 kz1 nn jz1 hiz1_0 hjz1 c_2) (c_55) (c_56) (c_57) (c_58) rfl (hP.sub [0, 1, 2, 3, 4, 5, 6, 7] rfl) (hD.sub [0, 1, 2, 3, 4, 5, 6, 7] (by decide +kernel) rfl) hS (lv_sub hl [0, 1, 5, 6, 7, 8] rfl)
              · refine lv_iconst (v := 1) hx₀ hb dX12_lakesOf_120 (by decide +kernel) ?_
                refine lv_goto (tgt := 125) hx₀ hb dX12_lakesOf_121 (by decide) ?_
                refine lv_iadd hx₀ hb dX12_lakesOf_125 ?_
                refine lv_istore (lv' := [(4, .int (suz1 + 1)), (8, .int (r_17 + 1)), (7, .int r_11), (6, .int r_5), (5, .int kz1), (0, .ref hm), (1, .int z1), (2, .int nn), (3, .int w1)]) hx₀ hb dX12_lakesOf_126 hl (by decide) rfl (fun ls hl => ?_)
                refine lv_iinc (v := kz1 + 1) (lv' := [(5, .int (kz1 + 1)), (4, .int (suz1 + 1)), (8, .int (r_17 + 1)), (7, .int r_11), (6, .int r_5), (0, .ref hm), (1, .int z1), (2, .int nn), (3, .int w1)]) hx₀ hb dX12_lakesOf_128 hl (k := 4) rfl rfl (by decide) rfl (fun ls hl => ?_)
                refine lv_goto (tgt := 11) hx₀ hb dX12_lakesOf_131 (by decide) ?_
                exact ihz1 _ (lf_g_lakesOf_4 kz1 nn jz1 hiz1_0 hjz1 c_2) (suz1 + 1) (kz1 + 1) (g_50 0) (g_50 1) (g_50 2) (g_50 3) (g_50 4) (g_44 0) (ga_51 0) (ga_51 1) (ga_51 2) (ga_51 3) _ _ _ (lf_g_lakesOf_3 kz1 nn jz1 hiz1_0 hjz1 c_2) (c_55) (c_56) (c_57) (c_58) rfl (hP.sub [0, 1, 2, 3, 4, 5, 6, 7] rfl) (hD.sub [0, 1, 2, 3, 4, 5, 6, 7] (by decide +kernel) rfl) hS (lv_sub hl [0, 1, 5, 6, 7, 8] rfl)
            · refine lv_iconst (v := 0) hx₀ hb dX12_lakesOf_112 (by decide +kernel) ?_
              refine lv_goto (tgt := 117) hx₀ hb dX12_lakesOf_113 (by decide) ?_
              refine lv_icmp_ne (tgt := 124) hx₀ hb dX12_lakesOf_117 (by decide) (fun c_61 => ?_) (fun c_61 => ?_)
              · refine lv_iconst (v := 0) hx₀ hb dX12_lakesOf_124 (by decide +kernel) ?_
                refine lv_iadd hx₀ hb dX12_lakesOf_125 ?_
                refine lv_istore (lv' := [(4, .int (suz1 + 0)), (8, .int (r_17 + 1)), (7, .int r_11), (6, .int r_5), (5, .int kz1), (0, .ref hm), (1, .int z1), (2, .int nn), (3, .int w1)]) hx₀ hb dX12_lakesOf_126 hl (by decide) rfl (fun ls hl => ?_)
                refine lv_iinc (v := kz1 + 1) (lv' := [(5, .int (kz1 + 1)), (4, .int (suz1 + 0)), (8, .int (r_17 + 1)), (7, .int r_11), (6, .int r_5), (0, .ref hm), (1, .int z1), (2, .int nn), (3, .int w1)]) hx₀ hb dX12_lakesOf_128 hl (k := 4) rfl rfl (by decide) rfl (fun ls hl => ?_)
                refine lv_goto (tgt := 11) hx₀ hb dX12_lakesOf_131 (by decide) ?_
                exact ihz1 _ (lf_g_lakesOf_4 kz1 nn jz1 hiz1_0 hjz1 c_2) (suz1 + 0) (kz1 + 1) (g_50 0) (g_50 1) (g_50 2) (g_50 3) (g_50 4) (g_44 0) (ga_51 0) (ga_51 1) (ga_51 2) (ga_51 3) _ _ _ (lf_g_lakesOf_3 kz1 nn jz1 hiz1_0 hjz1 c_2) (c_55) (c_56) (c_57) (c_58) rfl (hP.sub [0, 1, 2, 3, 4, 5, 6, 7] rfl) (hD.sub [0, 1, 2, 3, 4, 5, 6, 7] (by decide +kernel) rfl) hS (lv_sub hl [0, 1, 5, 6, 7, 8] rfl)
              · refine lv_iconst (v := 1) hx₀ hb dX12_lakesOf_120 (by decide +kernel) ?_
                refine lv_goto (tgt := 125) hx₀ hb dX12_lakesOf_121 (by decide) ?_
                refine lv_iadd hx₀ hb dX12_lakesOf_125 ?_
                refine lv_istore (lv' := [(4, .int (suz1 + 1)), (8, .int (r_17 + 1)), (7, .int r_11), (6, .int r_5), (5, .int kz1), (0, .ref hm), (1, .int z1), (2, .int nn), (3, .int w1)]) hx₀ hb dX12_lakesOf_126 hl (by decide) rfl (fun ls hl => ?_)
                refine lv_iinc (v := kz1 + 1) (lv' := [(5, .int (kz1 + 1)), (4, .int (suz1 + 1)), (8, .int (r_17 + 1)), (7, .int r_11), (6, .int r_5), (0, .ref hm), (1, .int z1), (2, .int nn), (3, .int w1)]) hx₀ hb dX12_lakesOf_128 hl (k := 4) rfl rfl (by decide) rfl (fun ls hl => ?_)
                refine lv_goto (tgt := 11) hx₀ hb dX12_lakesOf_131 (by decide) ?_
                exact ihz1 _ (lf_g_lakesOf_4 kz1 nn jz1 hiz1_0 hjz1 c_2) (suz1 + 1) (kz1 + 1) (g_50 0) (g_50 1) (g_50 2) (g_50 3) (g_50 4) (g_44 0) (ga_51 0) (ga_51 1) (ga_51 2) (ga_51 3) _ _ _ (lf_g_lakesOf_3 kz1 nn jz1 hiz1_0 hjz1 c_2) (c_55) (c_56) (c_57) (c_58) rfl (hP.sub [0, 1, 2, 3, 4, 5, 6, 7] rfl) (hD.sub [0, 1, 2, 3, 4, 5, 6, 7] (by decide +kernel) rfl) hS (lv_sub hl [0, 1, 5, 6, 7, 8] rfl)
