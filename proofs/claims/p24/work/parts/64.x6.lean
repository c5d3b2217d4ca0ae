theorem lf_e_laughOf_1 (a0 : Int32) (a1 : Int32) (a2 : Nat) (h0 : 0 ≤ a0 ∧ a0 ≤ 10) (h1 : 1 ≤ kshl a0 ∧ kshl a0 ≤ 1024) (h2 : ¬ klsh a0 = 0) (h3 : 0 ≤ a1 ∧ a1 ≤ kshl a0) (h4 : ((kshl a0).toInt - a1.toInt).toNat = a2) (h5 : (kshl a0) ≤ a1) : a1 = kshl a0 := by
  first | rfl | assumption | decide | exact Or.inl rfl | (first | omega | (have hr0 := Int32.toInt_lt a0; have hs0 := Int32.le_toInt a0; have hr1 := Int32.toInt_lt a1; have hs1 := Int32.le_toInt a1; simp only [Int64.toInt_add, Int64.toInt_sub, Int32.toInt_add, Int32.toInt_sub, Int32.toInt_mul, Int32.toInt_neg, Int64.le_iff_toInt_le, Int64.lt_iff_toInt_lt, Int32.le_iff_toInt_le, Int32.lt_iff_toInt_lt, ← Int32.toInt_inj, ← Int64.toInt_inj, Int32.toInt_toInt64, (show (0 : Int32).toInt = 0 from by decide), (show (0 : Int64).toInt = 0 from by decide), (show (1 : Int32).toInt = 1 from by decide), (show (1 : Int64).toInt = 1 from by decide), (show (10 : Int32).toInt = 10 from by decide), (show (10 : Int64).toInt = 10 from by decide), (show (1024 : Int32).toInt = 1024 from by decide), (show (1024 : Int64).toInt = 1024 from by decide)] at *; (first | omega | ((try simp (disch := omega) only [k_bm64] at *); (try simp (disch := omega) only [k_bm] at *); (try simp (disch := omega) only [k_bm] at *); omega) | (simp only [Int.bmod] at *; omega))))
theorem lf_e_laughOf_2 (a0 : Int32) (a1 : Int32) (a2 : Nat) (h0 : 0 ≤ a0 ∧ a0 ≤ 10) (h1 : 1 ≤ kshl a0 ∧ kshl a0 ≤ 1024) (h2 : ¬ klsh a0 = 0) (h3 : 0 ≤ a1 ∧ a1 ≤ kshl a0) (h4 : ((kshl a0).toInt - a1.toInt).toNat = a2) (h5 : ¬ (kshl a0) ≤ a1) : 0 ≤ a1 ∧ a1.toInt < 1000000 := by
  first | rfl | assumption | decide | exact Or.inl rfl | (first | omega | (have hr0 := Int32.toInt_lt a0; have hs0 := Int32.le_toInt a0; have hr1 := Int32.toInt_lt a1; have hs1 := Int32.le_toInt a1; simp only [Int64.toInt_add, Int64.toInt_sub, Int32.toInt_add, Int32.toInt_sub, Int32.toInt_mul, Int32.toInt_neg, Int64.le_iff_toInt_le, Int64.lt_iff_toInt_lt, Int32.le_iff_toInt_le, Int32.lt_iff_toInt_lt, ← Int32.toInt_inj, ← Int64.toInt_inj, Int32.toInt_toInt64, (show (0 : Int32).toInt = 0 from by decide), (show (0 : Int64).toInt = 0 from by decide), (show (1 : Int32).toInt = 1 from by decide), (show (1 : Int64).toInt = 1 from by decide), (show (10 : Int32).toInt = 10 from by decide), (show (10 : Int64).toInt = 10 from by decide), (show (1024 : Int32).toInt = 1024 from by decide), (show (1024 : Int64).toInt = 1024 from by decide), (show (1000000 : Int32).toInt = 1000000 from by decide), (show (1000000 : Int64).toInt = 1000000 from by decide)] at *; (first | omega | ((try simp (disch := omega) only [k_bm64] at *); (try simp (disch := omega) only [k_bm] at *); (try simp (disch := omega) only [k_bm] at *); omega) | (simp only [Int.bmod] at *; omega))))
theorem lf_e_laughOf_3 (a0 : Int32) (a1 : Int32) (a2 : Nat) (a3 : Int32) (a4 : Nat) (h0 : 0 ≤ a0 ∧ a0 ≤ 10) (h1 : 1 ≤ kshl a0 ∧ kshl a0 ≤ 1024) (h2 : ¬ klsh a0 = 0) (h3 : 0 ≤ a1 ∧ a1 ≤ kshl a0) (h4 : ((kshl a0).toInt - a1.toInt).toNat = a2) (h5 : ¬ (kshl a0) ≤ a1) (h6 : 0 ≤ a3 ∧ a3 ≤ a0) (h7 : (a0.toInt - a3.toInt).toNat = a4) (h8 : a0 ≤ a3) : a3 = a0 := by
  first | rfl | assumption | decide | exact Or.inl rfl | (first | omega | (have hr0 := Int32.toInt_lt a0; have hs0 := Int32.le_toInt a0; have hr1 := Int32.toInt_lt a1; have hs1 := Int32.le_toInt a1; have hr2 := Int32.toInt_lt a3; have hs2 := Int32.le_toInt a3; simp only [Int64.toInt_add, Int64.toInt_sub, Int32.toInt_add, Int32.toInt_sub, Int32.toInt_mul, Int32.toInt_neg, Int64.le_iff_toInt_le, Int64.lt_iff_toInt_lt, Int32.le_iff_toInt_le, Int32.lt_iff_toInt_lt, ← Int32.toInt_inj, ← Int64.toInt_inj, Int32.toInt_toInt64, (show (0 : Int32).toInt = 0 from by decide), (show (0 : Int64).toInt = 0 from by decide), (show (1 : Int32).toInt = 1 from by decide), (show (1 : Int64).toInt = 1 from by decide), (show (10 : Int32).toInt = 10 from by decide), (show (10 : Int64).toInt = 10 from by decide), (show (1024 : Int32).toInt = 1024 from by decide), (show (1024 : Int64).toInt = 1024 from by decide)] at *; (first | omega | ((try simp (disch := omega) only [k_bm64] at *); (try simp (disch := omega) only [k_bm] at *); (try simp (disch := omega) only [k_bm] at *); omega) | (simp only [Int.bmod] at *; omega))))
theorem lf_e_laughOf_4 (a0 : Int32) (a1 : Int32) (a2 : Nat) (a3 : Int32) (a4 : Nat) (h0 : 0 ≤ a0 ∧ a0 ≤ 10) (h1 : 1 ≤ kshl a0 ∧ kshl a0 ≤ 1024) (h2 : ¬ klsh a0 = 0) (h3 : 0 ≤ a1 ∧ a1 ≤ kshl a0) (h4 : ((kshl a0).toInt - a1.toInt).toNat = a2) (h5 : ¬ (kshl a0) ≤ a1) (h6 : 0 ≤ a3 ∧ a3 ≤ a0) (h7 : (a0.toInt - a3.toInt).toNat = a4) (h8 : ¬ a0 ≤ a3) : a3 < 10 := by
  first | rfl | assumption | decide | exact Or.inl rfl | (first | omega | (have hr0 := Int32.toInt_lt a0; have hs0 := Int32.le_toInt a0; have hr1 := Int32.toInt_lt a1; have hs1 := Int32.le_toInt a1; have hr2 := Int32.toInt_lt a3; have hs2 := Int32.le_toInt a3; simp only [Int64.toInt_add, Int64.toInt_sub, Int32.toInt_add, Int32.toInt_sub, Int32.toInt_mul, Int32.toInt_neg, Int64.le_iff_toInt_le, Int64.lt_iff_toInt_lt, Int32.le_iff_toInt_le, Int32.lt_iff_toInt_lt, ← Int32.toInt_inj, ← Int64.toInt_inj, Int32.toInt_toInt64, (show (0 : Int32).toInt = 0 from by decide), (show (0 : Int64).toInt = 0 from by decide), (show (1 : Int32).toInt = 1 from by decide), (show (1 : Int64).toInt = 1 from by decide), (show (10 : Int32).toInt = 10 from by decide), (show (10 : Int64).toInt = 10 from by decide), (show (1024 : Int32).toInt = 1024 from by decide), (show (1024 : Int64).toInt = 1024 from by decide)] at *; (first | omega | ((try simp (disch := omega) only [k_bm64] at *); (try simp (disch := omega) only [k_bm] at *); (try simp (disch := omega) only [k_bm] at *); omega) | (simp only [Int.bmod] at *; omega))))
set_option maxHeartbeats 4000000 in
set_option maxRecDepth 100000 in
theorem e_laughOf (l : Launch) (dC : Nat → ClassId) (dI : Nat → Nat → Nat) (cI cJ cQ : ClassId) (sz : Nat) (hm : Nat) (cx : Int32) (f1 : Int32) (nn : Int32) (w1 : Int32) (vFo : Nat) (vSi : Nat) (vIt : Nat) (vMo : Nat) (la : Int32) (vBy : Nat) (vTy : Nat) (mi : Int32) (vMi : Nat) (pn : Int32) (vPs : Nat) (gn : Int32) (vGs : Nat) (fn : Int32) (vFt : Nat) (le : Int32) (vTo : Nat) (kn : Int32) (fe : Int32) (en : Int32) (ca : Int32) (an : Int32) (co : Int32) (vPr : Nat) (vSt : Nat) (vFn : Nat) (sn : Int32) (vSg : Nat) (vAl : Nat) (dr : Int32) (qMi : Nat → Int32) (qPs : Nat → Int32) (qGs : Nat → Int32) (qTo : Nat → Int32) (qPr : Nat → Int32) (qSt : Nat → Int32) (qFn : Nat → Int32) (qFt : Nat → Int32) (hh0 : 0 ≤ mi ∧ mi ≤ 24) (hh1 : 0 ≤ pn ∧ pn ≤ 8) (hh2 : 0 ≤ gn ∧ gn ≤ 8) (hh3 : k_bd 2 0 7 qPr) (hh4 : 0 ≤ fe ∧ fe ≤ 24) (hh5 : en = 0 ∨ kn = 0 ∨ fe ≤ 23) (hh6 : 0 ≤ kn ∧ kn ≤ 24) (hh7 : 0 ≤ f1 ∧ f1 ≤ 7) (hh8 : 0 ≤ nn ∧ nn ≤ 10) (hh9 : 1 ≤ kshl nn ∧ kshl nn ≤ 1024) (hh10 : ¬ klsh nn = 0) (hh11 : 0 ≤ cx ∧ cx ≤ 16) (hh12 : nn = nI (kTw (kM qMi) mi.toNatClampNeg)) (hh13 : k_tm pn qPs) (hh14 : k_u9 pn qPs) (hh15 : k_bd 32 0 9 qFt) : Met l yX12_laughOf (kW yX12_laughOf cX12_laughOf 11 (some .long)) { frames := 4, cells := 0, slots := 0, locals := 99 } (kPre dC dI cI cJ cQ sz [.ref hm, .int cx, .int f1, .int nn, .int w1] [(kX12 hm vFo vSi vIt vMo la vBy vTy mi vMi pn vPs gn vGs fn vFt le vTo kn fe en ca an co vPr vSt vFn sn vSg vAl dr), (kAI vMi cI 24 qMi), (kAI vPs cI 32 qPs), (kAI vGs cI 16 qGs), (kAI vTo cI 96 qTo), (kAI vPr cI 2 qPr), (kAI vSt cI 2 qSt), (kAI vFn cI 2 qFn), (kAI vFt cI 32 qFt)]) (va_Ql (fun (r : Int64) (u : kS) => (r = if w1 = 0 then (kLR ((0 ≤ (kP0 qFt f1) ∧ (kP0 qFt f1) < pn) ∧ (0 ≤ (kP1 qFt f1) ∧ (kP1 qFt f1) < gn) ∧ 0 ≤ (kP2 qFt f1) ∧ (kP2 qFt f1) < gn) (kM qMi) mi (kP3 qPs (kP0 qFt f1)) ((kG0 qGs (kP1 qFt f1), kG1 qGs (kP1 qFt f1), kG0 qGs (kP1 qFt f1), 0), (kG0 qGs (kP2 qFt f1), kG1 qGs (kP2 qFt f1), kG0 qGs (kP2 qFt f1), 0)) le (kP0 qPs (kP0 qFt f1)) (kP1 qPs (kP0 qFt f1)) (5 * (kP2 qPs (kP0 qFt f1))) (kP3 qFt f1) cx).1 else (kLR ((0 ≤ (kP0 qFt f1) ∧ (kP0 qFt f1) < pn) ∧ (0 ≤ (kP1 qFt f1) ∧ (kP1 qFt f1) < gn) ∧ 0 ≤ (kP2 qFt f1) ∧ (kP2 qFt f1) < gn) (kM qMi) mi (kP3 qPs (kP0 qFt f1)) ((kG0 qGs (kP1 qFt f1), kG1 qGs (kP1 qFt f1), kG0 qGs (kP1 qFt f1), 0), (kG0 qGs (kP2 qFt f1), kG1 qGs (kP2 qFt f1), kG0 qGs (kP2 qFt f1), 0)) le (kP0 qPs (kP0 qFt f1)) (kP1 qPs (kP0 qFt f1)) (5 * (kP2 qPs (kP0 qFt f1))) (kP3 qFt f1) cx).2) ∧ (k_bd 2 0 7 (u.2.1 1)) ∧ (0 ≤ (u.1 1) ∧ (u.1 1) ≤ 24) ∧ ((u.1 2) = 0 ∨ (u.1 0) = 0 ∨ (u.1 1) ≤ 23) ∧ (0 ≤ (u.1 0) ∧ (u.1 0) ≤ 24) ∧ ((u.1 5) = 16777215)) (fun (u : kS) t₀ => kB dC dI cI cJ cQ (va_A [(kX12 hm vFo vSi vIt vMo la vBy vTy mi vMi pn vPs gn vGs fn vFt le vTo kn fe en ca an co vPr vSt vFn sn vSg vAl dr), (kAI vMi cI 24 qMi), (kAI vPs cI 32 qPs), (kAI vGs cI 16 qGs), (kAI vTo cI 96 qTo), (kAI vPr cI 2 qPr), (kAI vSt cI 2 qSt), (kAI vFn cI 2 qFn), (kAI vFt cI 32 qFt)] sz) [(kX12 hm vFo vSi vIt vMo la vBy vTy mi vMi pn vPs gn vGs fn vFt le vTo (u.1 0) (u.1 1) (u.1 2) (u.1 5) (u.1 3) (u.1 4) vPr vSt vFn sn vSg vAl dr), (kAI vMi cI 24 qMi), (kAI vPs cI 32 qPs), (kAI vGs cI 16 qGs), (kAI vTo cI 96 (u.2.1 0)), (kAI vPr cI 2 (u.2.1 1)), (kAI vSt cI 2 (u.2.1 2)), (kAI vFn cI 2 (u.2.1 3)), (kAI vFt cI 32 qFt)] t₀) (va_A [(kX12 hm vFo vSi vIt vMo la vBy vTy mi vMi pn vPs gn vGs fn vFt le vTo kn fe en ca an co vPr vSt vFn sn vSg vAl dr), (kAI vMi cI 24 qMi), (kAI vPs cI 32 qPs), (kAI vGs cI 16 qGs), (kAI vTo cI 96 qTo), (kAI vPr cI 2 qPr), (kAI vSt cI 2 qSt), (kAI vFn cI 2 qFn), (kAI vFt cI 32 qFt)] sz)) 0 0 (va_A [(kX12 hm vFo vSi vIt vMo la vBy vTy mi vMi pn vPs gn vGs fn vFt le vTo kn fe en ca an co vPr vSt vFn sn vSg vAl dr), (kAI vMi cI 24 qMi), (kAI vPs cI 32 qPs), (kAI vGs cI 16 qGs), (kAI vTo cI 96 qTo), (kAI vPr cI 2 qPr), (kAI vSt cI 2 qSt), (kAI vFn cI 2 qFn), (kAI vFt cI 32 qFt)] sz) := by
  refine Met.ofW (cc := cX12_laughOf) (maxL := 11) (ret := (some .long)) (by decide) rfl ?_
  intro p₀ e₀ s₀ m₀ args below meth c₀ s₁ B hml hv₀
  obtain ⟨rfl, hsz, hP, hK, hD0, hN⟩ := hv₀
  have hx₀ := B.exec
  have hb := B.bytes
  have hr := B.returns
  have hts := atoms_spec (ws := (kW yX12_laughOf cX12_laughOf 11 (some .long))) B.pre
  have hts := fun w h => hts w (List.mem_cons_of_mem _ h)
  have hown : s₀.vm.findClass RX12 = some m₀.cls := findClass_of_methodNamed B.named
  have hlocks := B.notSynchronized
  subst hsz
  have hD := hD0.self (sz := s₀.heap.size)
  generalize hAe : va_A [(kX12 hm vFo vSi vIt vMo la vBy vTy mi vMi pn vPs gn vGs fn vFt le vTo kn fe en ca an co vPr vSt vFn sn vSg vAl dr), (kAI vMi cI 24 qMi), (kAI vPs cI 32 qPs), (kAI vGs cI 16 qGs), (kAI vTo cI 96 qTo), (kAI vPr cI 2 qPr), (kAI vSt cI 2 qSt), (kAI vFn cI 2 qFn), (kAI vFt cI 32 qFt)] s₀.heap.size = A at hD ⊢
  have hA : ∀ q : Nat, s₀.heap.size ≤ q → A q := fun q h => by rw [← hAe]; exact Or.inr h
  have hS : va_S A s₀.heap s₀.heap [] := va_S.rf
  have hP : va_P (dC, dI) vwCl [(kX12 hm vFo vSi vIt vMo la vBy vTy mi vMi pn vPs gn vGs fn vFt le vTo kn fe en ca an co vPr vSt vFn sn vSg vAl dr), (kAI vMi cI 24 qMi), (kAI vPs cI 32 qPs), (kAI vGs cI 16 qGs), (kAI vTo cI 96 qTo), (kAI vPr cI 2 qPr), (kAI vSt cI 2 qSt), (kAI vFn cI 2 qFn), (kAI vFt cI 32 qFt)] s₀.heap := hP
  have hl := lv_entry ([.ref hm, .int cx, .int f1, .int nn, .int w1]) (n := 11) (Nat.le_of_ble_eq_true rfl)
  rw [lg_entry_eq]
  generalize (lg_sl ([.ref hm, .int cx, .int f1, .int nn, .int w1]) ++ List.replicate (11 - (lg_sl ([.ref hm, .int cx, .int f1, .int nn, .int w1])).length) Slot.unset).toArray = ls at hl ⊢
  have hl : lv_has ls 11 [(0, .ref hm), (1, .int cx), (2, .int f1), (3, .int nn), (4, .int w1)] := hl
  obtain ⟨H, hH⟩ : ∃ z : Heap, z = s₀.heap := ⟨_, rfl⟩
  rw [← hH] at hP
  have hS : va_S A s₀.heap H [] := by rw [hH]; exact hS
  refine k_heap hH ?_
  have hD : va_D A [(kX12 hm vFo vSi vIt vMo la vBy vTy mi vMi pn vPs gn vGs fn vFt le vTo kn fe en ca an co vPr vSt vFn sn vSg vAl dr), (kAI vMi cI 24 qMi), (kAI vPs cI 32 qPs), (kAI vGs cI 16 qGs), (kAI vTo cI 96 qTo), (kAI vPr cI 2 qPr), (kAI vSt cI 2 qSt), (kAI vFn cI 2 qFn), (kAI vFt cI 32 qFt)] := hD
  obtain ⟨locs, hlo⟩ : ∃ z : List Loc, z = [] := ⟨_, rfl⟩
  rw [← hlo] at hS ⊢
  clear hlo hH hAe hD0
  refine lv_lconst (v := 0) hx₀ hb dX12_laughOf_0 (by decide +kernel) ?_
  refine lv_lstore (lv' := [(5, .long 0), (0, .ref hm), (1, .int cx), (2, .int f1), (3, .int nn), (4, .int w1)]) hx₀ hb dX12_laughOf_1 hl (by decide) rfl (fun ls hl => ?_)
  refine lv_iconst (v := 0) hx₀ hb dX12_laughOf_3 (by decide +kernel) ?_
  refine lv_istore (lv' := [(7, .int 0), (5, .long 0), (0, .ref hm), (1, .int cx), (2, .int f1), (3, .int nn), (4, .int w1)]) hx₀ hb dX12_laughOf_4 hl (by decide) rfl (fun ls hl => ?_)
  refine (?keyz1 : ∀ (jz1 : Nat) (abz1 : Int64) (smz1 : Int32) (knz1 : Int32) (fez1 : Int32) (enz1 : Int32) (anz1 : Int32) (coz1 : Int32) (caz1 : Int32) (qtz1 : Nat → Int32) (qpz1 : Nat → Int32) (qsz1 : Nat → Int32) (qfz1 : Nat → Int32) (H : Heap) (locs : List Loc) (ls : Array Slot), (0 ≤ smz1 ∧ smz1 ≤ kshl nn) → (k_ls ((0 ≤ (kP0 qFt f1) ∧ (kP0 qFt f1) < pn) ∧ (0 ≤ (kP1 qFt f1) ∧ (kP1 qFt f1) < gn) ∧ 0 ≤ (kP2 qFt f1) ∧ (kP2 qFt f1) < gn) (kM qMi) mi (kP3 qPs (kP0 qFt f1)) ((kG0 qGs (kP1 qFt f1), kG1 qGs (kP1 qFt f1), kG0 qGs (kP1 qFt f1), 0), (kG0 qGs (kP2 qFt f1), kG1 qGs (kP2 qFt f1), kG0 qGs (kP2 qFt f1), 0)) le (kP0 qPs (kP0 qFt f1)) (kP1 qPs (kP0 qFt f1)) (5 * (kP2 qPs (kP0 qFt f1))) (kP3 qFt f1) cx smz1 abz1) → (k_bd 2 0 7 qpz1) → (0 ≤ fez1 ∧ fez1 ≤ 24) → (enz1 = 0 ∨ knz1 = 0 ∨ fez1 ≤ 23) → (0 ≤ knz1 ∧ knz1 ≤ 24) → (((kshl nn).toInt - smz1.toInt).toNat = jz1) → va_P (dC, dI) vwCl [(kX12 hm vFo vSi vIt vMo la vBy vTy mi vMi pn vPs gn vGs fn vFt le vTo knz1 fez1 enz1 caz1 anz1 coz1 vPr vSt vFn sn vSg vAl dr), (kAI vMi cI 24 qMi), (kAI vPs cI 32 qPs), (kAI vGs cI 16 qGs), (kAI vTo cI 96 qtz1), (kAI vPr cI 2 qpz1), (kAI vSt cI 2 qsz1), (kAI vFn cI 2 qfz1), (kAI vFt cI 32 qFt)] H → va_D A [(kX12 hm vFo vSi vIt vMo la vBy vTy mi vMi pn vPs gn vGs fn vFt le vTo knz1 fez1 enz1 caz1 anz1 coz1 vPr vSt vFn sn vSg vAl dr), (kAI vMi cI 24 qMi), (kAI vPs cI 32 qPs), (kAI vGs cI 16 qGs), (kAI vTo cI 96 qtz1), (kAI vPr cI 2 qpz1), (kAI vSt cI 2 qsz1), (kAI vFn cI 2 qfz1), (kAI vFt cI 32 qFt)] → va_S A s₀.heap H locs → lv_has ls 11 [(7, .int smz1), (5, .long abz1), (0, .ref hm), (1, .int cx), (2, .int f1), (3, .int nn), (4, .int w1)] → W p₀ l e₀ _ s₀ m₀ _ below meth c₀ H locs _ _ _ (F0 m₀ 6 ls [])) _ (0 : Int64) (0 : Int32) kn fe en an co ca _ _ _ _ H locs ls (lf_g_laughOf_1 nn hh8 hh9 hh10) (k_ls_0) (hh3) (hh4) (hh5) (hh6) rfl hP hD hS hl
  clear hP hD hS hl
  intro jz1
  induction jz1 using Nat.strongRecOn with
  | ind jz1 ihz1 =>
    intro abz1 smz1 knz1 fez1 enz1 anz1 coz1 caz1 qtz1 qpz1 qsz1 qfz1 H locs ls hiz1_0 hiz1_1 hiz1_2 hiz1_3 hiz1_4 hiz1_5 hjz1 hP hD hS hl
    refine lv_iload hx₀ hb dX12_laughOf_6 (lv_at hl 0 rfl) ?_
    refine lv_iconst (v := 1) hx₀ hb dX12_laughOf_8 (by decide +kernel) ?_
    refine lv_iload_n hx₀ hb dX12_laughOf_9 rfl (lv_at hl 5 rfl) ?_
    refine lv_ishl hx₀ hb dX12_laughOf_10 ?_
    refine k_topi (v := kshl nn) rfl ?_
    refine lv_icmp_ge (tgt := 92) hx₀ hb dX12_laughOf_11 (by decide) (fun c_2 => ?_) (fun c_2 => ?_)
    · refine lv_aload_n hx₀ hb dX12_laughOf_92 rfl (lv_at hl 2 rfl) ?_
      refine lv_ldc (v := 16777215) hx₀ hb hown (hts (.constant RX12 58 (16777215)) wd_131) dX12_laughOf_93 ?_
      refine va_put (D := (dC, dI)) (ci := 11) (v := .int 16777215) (ty := .int) (C := RX12) (T := TX12) (N := 30) hx₀ hb hts inlX12 tyX12 tyX12_ok nmX12 hown hK hP hD hS 0 rfl rfl 20 (by decide) (hts (.fieldLink RX12 59 "BittenStickModel" "calling" "I") wd_132) (fun _ h9 => h9) rfl (by decide +kernel) rfl rfl (Nat.le_of_ble_eq_true rfl) dX12_laughOf_95 ?_
      clear hP hD hS
      intro H locs hP hD hS
      replace hP := k_w2 (wt := [(kX12 hm vFo vSi vIt vMo la vBy vTy mi vMi pn vPs gn vGs fn vFt le vTo knz1 fez1 enz1 16777215 anz1 coz1 vPr vSt vFn sn vSg vAl dr), (kAI vMi cI 24 qMi), (kAI vPs cI 32 qPs), (kAI vGs cI 16 qGs), (kAI vTo cI 96 qtz1), (kAI vPr cI 2 qpz1), (kAI vSt cI 2 qsz1), (kAI vFn cI 2 qfz1), (kAI vFt cI 32 qFt)]) hP hD rfl
      replace hD := hP.2
      replace hP := hP.1
      refine lv_lload hx₀ hb dX12_laughOf_98 (lv_at hl 1 rfl) ?_
      refine lv_lconst (v := 1) hx₀ hb dX12_laughOf_100 (by decide +kernel) ?_
      refine lv_iconst (v := 4) hx₀ hb dX12_laughOf_101 (by decide +kernel) ?_
      refine lv_iload_n hx₀ hb dX12_laughOf_102 rfl (lv_at hl 5 rfl) ?_
      refine lv_imul hx₀ hb dX12_laughOf_103 ?_
      refine lv_lshl hx₀ hb dX12_laughOf_104 rfl ?_
      refine k_topl (v := klsh nn) rfl ?_
      refine lv_iload hx₀ hb dX12_laughOf_105 (lv_at hl 6 rfl) ?_
      obtain ⟨hPc, hDc, hFc, hC⟩ := k_cw (wc := []) hP hD hS hA [] (by decide +kernel) rfl
      refine va_calll (va_runS (As := [.long abz1, .long (klsh nn), .int w1]) (rest := []) ⟨hx₀, hb, hml, hown, hts⟩ (e_part l dC dI cI cJ cQ H.size abz1 (klsh nn) w1 (hh10)) (va_cwS 3 hts (kGS wd_825 wd_823 wd_824 wd_5) rfl rfl rfl (by decide +kernel) ⟨Nat.le_of_ble_eq_true rfl, Nat.le_of_ble_eq_true rfl⟩) (k_preS hK hPc hDc hN) rfl rfl hl.1 rfl (lv_room (Nat.le_of_ble_eq_true rfl)) dX12_laughOf_107 ⟨by decide +kernel, by decide +kernel⟩) hS (fun q _ h => hFc q h) hFc (fun r_3 u₀ t₀ H1 locs ht hvm hw hB hz1 hk1 hS => ?_)
      obtain ⟨hP1, hK1, hD1⟩ := hB
      rw [ht] at hP1
      have hJ := k_jn (wr := [(kX12 hm vFo vSi vIt vMo la vBy vTy mi vMi pn vPs gn vGs fn vFt le vTo knz1 fez1 enz1 16777215 anz1 coz1 vPr vSt vFn sn vSg vAl dr), (kAI vMi cI 24 qMi), (kAI vPs cI 32 qPs), (kAI vGs cI 16 qGs), (kAI vTo cI 96 qtz1), (kAI vPr cI 2 qpz1), (kAI vSt cI 2 qsz1), (kAI vFn cI 2 qfz1), (kAI vFt cI 32 qFt)]) (wt := [(kX12 hm vFo vSi vIt vMo la vBy vTy mi vMi pn vPs gn vGs fn vFt le vTo knz1 fez1 enz1 16777215 anz1 coz1 vPr vSt vFn sn vSg vAl dr), (kAI vMi cI 24 qMi), (kAI vPs cI 32 qPs), (kAI vGs cI 16 qGs), (kAI vTo cI 96 qtz1), (kAI vPr cI 2 qpz1), (kAI vSt cI 2 qsz1), (kAI vFn cI 2 qfz1), (kAI vFt cI 32 qFt)]) hP hD hC [0, 1, 2, 3, 4, 5, 6, 7, 8] rfl (by decide +kernel) (by decide +kernel) hk1 hFc hP1 hD1 rfl
      clear hP hD hPc hDc hFc hC hP1 hD1 hK1 hz1 hk1 hvm ht
      obtain ⟨hP, hD⟩ := hJ
      generalize H1 = H at hP hS ⊢
      try dsimp only at hw
      have c_4 := hw
      obtain ⟨hP9, hD9⟩ := k_c2 (wc := [(kX12 hm vFo vSi vIt vMo la vBy vTy mi vMi pn vPs gn vGs fn vFt le vTo knz1 fez1 enz1 16777215 anz1 coz1 vPr vSt vFn sn vSg vAl dr), (kAI vMi cI 24 qMi), (kAI vPs cI 32 qPs), (kAI vGs cI 16 qGs), (kAI vTo cI 96 qtz1), (kAI vPr cI 2 qpz1), (kAI vSt cI 2 qsz1), (kAI vFn cI 2 qfz1), (kAI vFt cI 32 qFt)]) hP hD [0, 1, 2, 3, 4, 5, 6, 7, 8] (by decide +kernel) rfl
      exact W.lret (v := r_3) hx₀ hb hr (fun t₀ ht hW => ⟨⟨r_3, (k_fn [knz1, fez1, enz1, anz1, coz1, (16777215 : Int32)], k_fa [qtz1, qpz1, qsz1, qfz1], k_fl [], k_fL [], k_fp []), rfl, ⟨(k_ls_e hh0 hh11 hh12 hh8.2 hiz1_1 (lf_e_laughOf_1 nn smz1 jz1 hh8 hh9 hh10 hiz1_0 hjz1 c_2) c_4), hiz1_2, hiz1_3, hiz1_4, hiz1_5, rfl⟩, by rw [ht]; exact hP9, va_K.moved hW.alike hK, hD9⟩, hS.F ht⟩) hS.2.2 dX12_laughOf_110
    · refine lv_aload_n hx₀ hb dX12_laughOf_14 rfl (lv_at hl 2 rfl) ?_
      refine lv_aload_n hx₀ hb dX12_laughOf_15 rfl (lv_at hl 2 rfl) ?_
      refine lv_iload hx₀ hb dX12_laughOf_16 (lv_at hl 0 rfl) ?_
      obtain ⟨hPc, hDc, hFc, hC⟩ := k_cw (wc := [(kX12 hm vFo vSi vIt vMo la vBy vTy mi vMi pn vPs gn vGs fn vFt le vTo knz1 fez1 enz1 caz1 anz1 coz1 vPr vSt vFn sn vSg vAl dr), (kAI vMi cI 24 qMi)]) hP hD hS hA [0, 1] (by decide +kernel) rfl
      refine va_calli (va_runV (As := [.int smz1]) (rest := [.ref hm]) ⟨hx₀, hb, hml, hown, hts⟩ (e_calls l dC dI cI cJ cQ H.size hm smz1 vFo vSi vIt vMo la vBy vTy mi vMi pn vPs gn vGs fn vFt le vTo knz1 fez1 enz1 caz1 anz1 coz1 vPr vSt vFn sn vSg vAl dr qMi (hh0) (lf_e_laughOf_2 nn smz1 jz1 hh8 hh9 hh10 hiz1_0 hjz1 c_2)) (cwV 1 hts (kGV wd_822 wd_819 wd_820 wd_821 wd_5) rfl rfl rfl (by decide +kernel) ⟨Nat.le_of_ble_eq_true rfl, Nat.le_of_ble_eq_true rfl⟩) (k_preV (ci := 11) (q0 := 0) hK hPc hDc hN rfl rfl) rfl rfl hl.1 rfl (lv_room (Nat.le_of_ble_eq_true rfl)) dX12_laughOf_18 ⟨by decide +kernel, by decide +kernel⟩) hS (fun q _ h => hFc q h) hFc (fun r_5 u₀ t₀ H1 locs ht hvm hw hB hz1 hk1 hS => ?_)
      obtain ⟨hP1, hK1, hD1⟩ := hB
      rw [ht] at hP1
      have hJ := k_jn (wr := [(kAI vPs cI 32 qPs), (kAI vGs cI 16 qGs), (kAI vTo cI 96 qtz1), (kAI vPr cI 2 qpz1), (kAI vSt cI 2 qsz1), (kAI vFn cI 2 qfz1), (kAI vFt cI 32 qFt)]) (wt := [(kAI vPs cI 32 qPs), (kAI vGs cI 16 qGs), (kAI vTo cI 96 qtz1), (kAI vPr cI 2 qpz1), (kAI vSt cI 2 qsz1), (kAI vFn cI 2 qfz1), (kAI vFt cI 32 qFt), (kX12 hm vFo vSi vIt vMo la vBy vTy mi vMi pn vPs gn vGs fn vFt le vTo knz1 fez1 enz1 caz1 anz1 coz1 vPr vSt vFn sn vSg vAl dr), (kAI vMi cI 24 qMi)]) hP hD hC [2, 3, 4, 5, 6, 7, 8] rfl (by decide +kernel) (by decide +kernel) hk1 hFc hP1 hD1 rfl
      clear hP hD hPc hDc hFc hC hP1 hD1 hK1 hz1 hk1 hvm ht
      obtain ⟨hP, hD⟩ := hJ
      generalize H1 = H at hP hS ⊢
      try dsimp only at hw
      have c_6 := hw
      refine va_put (D := (dC, dI)) (ci := 11) (v := .int r_5) (ty := .int) (C := RX12) (T := TX12) (N := 30) hx₀ hb hts inlX12 tyX12 tyX12_ok nmX12 hown hK hP hD hS 7 rfl rfl 20 (by decide) (hts (.fieldLink RX12 59 "BittenStickModel" "calling" "I") wd_132) (fun _ h9 => h9) rfl (by decide +kernel) rfl rfl (Nat.le_of_ble_eq_true rfl) dX12_laughOf_21 ?_
      clear hP hD hS
      intro H locs hP hD hS
      replace hP := k_w2 (wt := [(kAI vPs cI 32 qPs), (kAI vGs cI 16 qGs), (kAI vTo cI 96 qtz1), (kAI vPr cI 2 qpz1), (kAI vSt cI 2 qsz1), (kAI vFn cI 2 qfz1), (kAI vFt cI 32 qFt), (kX12 hm vFo vSi vIt vMo la vBy vTy mi vMi pn vPs gn vGs fn vFt le vTo knz1 fez1 enz1 r_5 anz1 coz1 vPr vSt vFn sn vSg vAl dr), (kAI vMi cI 24 qMi)]) hP hD rfl
      replace hD := hP.2
      replace hP := hP.1
      refine lv_aload_n hx₀ hb dX12_laughOf_24 rfl (lv_at hl 2 rfl) ?_
      refine lv_iload_n hx₀ hb dX12_laughOf_25 rfl (lv_at hl 4 rfl) ?_
      obtain ⟨hPc, hDc, hFc, hC⟩ := k_cw (wc := [(kX12 hm vFo vSi vIt vMo la vBy vTy mi vMi pn vPs gn vGs fn vFt le vTo knz1 fez1 enz1 r_5 anz1 coz1 vPr vSt vFn sn vSg vAl dr), (kAI vMi cI 24 qMi), (kAI vPs cI 32 qPs), (kAI vGs cI 16 qGs), (kAI vTo cI 96 qtz1), (kAI vPr cI 2 qpz1), (kAI vSt cI 2 qsz1), (kAI vFn cI 2 qfz1), (kAI vFt cI 32 qFt)]) hP hD hS hA [7, 8, 0, 1, 2, 3, 4, 5, 6] (by decide +kernel) rfl
      refine va_callv (va_runV (As := [.int f1]) (rest := []) ⟨hx₀, hb, hml, hown, hts⟩ (e_fliesToldc l dC dI cI cJ cQ H.size hm f1 vFo vSi vIt vMo la vBy vTy mi vMi pn vPs gn vGs fn vFt le vTo knz1 fez1 enz1 r_5 anz1 coz1 vPr vSt vFn sn vSg vAl dr qMi qPs qGs qtz1 qpz1 qsz1 qfz1 qFt (hh0) (hh1) (hh2) (hiz1_2) (hh7) (hh13) (hh15)) (cwV 1 hts (kGV wd_536 wd_533 wd_534 wd_535 wd_5) rfl rfl rfl (by decide +kernel) ⟨Nat.le_of_ble_eq_true rfl, Nat.le_of_ble_eq_true rfl⟩) (k_preV (ci := 11) (q0 := 0) hK hPc hDc hN rfl rfl) rfl rfl hl.1 rfl (lv_room (Nat.le_of_ble_eq_true rfl)) dX12_laughOf_26 ⟨by decide +kernel, by decide +kernel⟩) hS (fun q _ h => hFc q h) hFc (fun u₀ t₀ H1 locs ht hvm hw hB hz1 hk1 hS => ?_)
      obtain ⟨g_8, ga_9, gl_10, gb_11, gp_12⟩ := u₀
      obtain ⟨hP1, hK1, hD1⟩ := hB
      rw [ht] at hP1
      have hJ := k_jn (wr := []) (wt := [(kX12 hm vFo vSi vIt vMo la vBy vTy mi vMi pn vPs gn vGs fn vFt le vTo (g_8 0) (g_8 1) (g_8 2) r_5 (g_8 3) (g_8 4) vPr vSt vFn sn vSg vAl dr), (kAI vMi cI 24 qMi), (kAI vPs cI 32 qPs), (kAI vGs cI 16 qGs), (kAI vTo cI 96 (ga_9 0)), (kAI vPr cI 2 (ga_9 1)), (kAI vSt cI 2 (ga_9 2)), (kAI vFn cI 2 (ga_9 3)), (kAI vFt cI 32 qFt)]) hP hD hC [] rfl (by decide +kernel) (by decide +kernel) hk1 hFc hP1 hD1 rfl
      clear hP hD hPc hDc hFc hC hP1 hD1 hK1 hz1 hk1 hvm ht
      obtain ⟨hP, hD⟩ := hJ
      generalize H1 = H at hP hS ⊢
      try dsimp only at hw
      obtain ⟨c_13, c_14, c_15, c_16, c_17⟩ := hw
      refine lv_aload_n hx₀ hb dX12_laughOf_29 rfl (lv_at hl 2 rfl) ?_
      refine va_get (D := (dC, dI)) (ci := 11) (v := .int (g_8 2)) (C := RX12) (T := TX12) (N := 30) hx₀ hb hts inlX12 hown hK hP 0 rfl rfl 19 (by decide) (hts (.fieldLink RX12 196 "BittenStickModel" "end" "I") wd_543) (fun _ h9 => h9) rfl dX12_laughOf_30 ?_
      refine lv_if_ne (tgt := 86) hx₀ hb dX12_laughOf_33 (by decide) (fun c_18 => ?_) (fun c_18 => ?_)
      · refine lv_iinc (v := smz1 + 1) (lv' := [(7, .int (smz1 + 1)), (5, .long abz1), (0, .ref hm), (1, .int cx), (2, .int f1), (3, .int nn), (4, .int w1)]) hx₀ hb dX12_laughOf_86 hl (k := 0) rfl rfl (by decide) rfl (fun ls hl => ?_)
        refine lv_goto (tgt := 6) hx₀ hb dX12_laughOf_89 (by decide) ?_
        exact ihz1 _ (lf_g_laughOf_3 nn smz1 jz1 hh8 hh9 hh10 hiz1_0 hjz1 c_2) abz1 (smz1 + 1) (g_8 0) (g_8 1) (g_8 2) (g_8 3) (g_8 4) r_5 _ _ _ _ _ _ _ (lf_g_laughOf_2 nn smz1 jz1 hh8 hh9 hh10 hiz1_0 hjz1 c_2) (k_ls_n hh0 (k_bdP9 hh15 hh7) (fun d => hh14 _ d.1) hh12 hh8.2 hiz1_1 c_2 c_6 c_17 c_18) (c_13) (c_14) (c_15) (c_16) rfl (hP.sub [0, 1, 2, 3, 4, 5, 6, 7, 8] rfl) (hD.sub [0, 1, 2, 3, 4, 5, 6, 7, 8] (by decide +kernel) rfl) hS (lv_sub hl [0, 1, 2, 3, 4, 5, 6] rfl)
      · refine lv_lconst (v := 1) hx₀ hb dX12_laughOf_36 (by decide +kernel) ?_
        refine lv_lstore (lv' := [(8, .long 1), (7, .int smz1), (5, .long abz1), (0, .ref hm), (1, .int cx), (2, .int f1), (3, .int nn), (4, .int w1)]) hx₀ hb dX12_laughOf_37 hl (by decide) rfl (fun ls hl => ?_)
        refine lv_iconst (v := 0) hx₀ hb dX12_laughOf_39 (by decide +kernel) ?_
        refine lv_istore (lv' := [(10, .int 0), (8, .long 1), (7, .int smz1), (5, .long abz1), (0, .ref hm), (1, .int cx), (2, .int f1), (3, .int nn), (4, .int w1)]) hx₀ hb dX12_laughOf_40 hl (by decide) rfl (fun ls hl => ?_)
        refine (?keyz19 : ∀ (jz19 : Nat) (wez19 : Int64) (kz19 : Int32) (H : Heap) (locs : List Loc) (ls : Array Slot), (0 ≤ kz19 ∧ kz19 ≤ nn) → (k_wp cx smz1 kz19 wez19) → ((nn.toInt - kz19.toInt).toNat = jz19) → va_P (dC, dI) vwCl [(kX12 hm vFo vSi vIt vMo la vBy vTy mi vMi pn vPs gn vGs fn vFt le vTo (g_8 0) (g_8 1) (g_8 2) r_5 (g_8 3) (g_8 4) vPr vSt vFn sn vSg vAl dr), (kAI vMi cI 24 qMi), (kAI vPs cI 32 qPs), (kAI vGs cI 16 qGs), (kAI vTo cI 96 (ga_9 0)), (kAI vPr cI 2 (ga_9 1)), (kAI vSt cI 2 (ga_9 2)), (kAI vFn cI 2 (ga_9 3)), (kAI vFt cI 32 qFt)] H → va_D A [(kX12 hm vFo vSi vIt vMo la vBy vTy mi vMi pn vPs gn vGs fn vFt le vTo (g_8 0) (g_8 1) (g_8 2) r_5 (g_8 3) (g_8 4) vPr vSt vFn sn vSg vAl dr), (kAI vMi cI 24 qMi), (kAI vPs cI 32 qPs), (kAI vGs cI 16 qGs), (kAI vTo cI 96 (ga_9 0)), (kAI vPr cI 2 (ga_9 1)), (kAI vSt cI 2 (ga_9 2)), (kAI vFn cI 2 (ga_9 3)), (kAI vFt cI 32 qFt)] → va_S A s₀.heap H locs → lv_has ls 11 [(10, .int kz19), (8, .long wez19), (7, .int smz1), (5, .long abz1), (0, .ref hm), (1, .int cx), (2, .int f1), (3, .int nn), (4, .int w1)] → W p₀ l e₀ _ s₀ m₀ _ below meth c₀ H locs _ _ _ (F0 m₀ 42 ls [])) _ (1 : Int64) (0 : Int32) H locs ls (show 0 ≤ (0 : Int32) ∧ (0 : Int32) ≤ nn from ⟨(by decide), hh8.1⟩) (k_wp_0 hh11 (lf_e_laughOf_2 nn smz1 jz1 hh8 hh9 hh10 hiz1_0 hjz1 c_2)) rfl hP hD hS hl
        clear hP hD hS hl
        intro jz19
        induction jz19 using Nat.strongRecOn with
        | ind jz19 ihz19 =>
          intro wez19 kz19 H locs ls hiz19_0 hiz19_1 hjz19 hP hD hS hl
          refine lv_iload hx₀ hb dX12_laughOf_42 (lv_at hl 0 rfl) ?_
          refine lv_iload_n hx₀ hb dX12_laughOf_44 rfl (lv_at hl 7 rfl) ?_
          refine lv_icmp_ge (tgt := 79) hx₀ hb dX12_laughOf_45 (by decide) (fun c_20 => ?_) (fun c_20 => ?_)
          · refine lv_lload hx₀ hb dX12_laughOf_79 (lv_at hl 3 rfl) ?_
            refine lv_lload hx₀ hb dX12_laughOf_81 (lv_at hl 1 rfl) ?_
            refine lv_ladd hx₀ hb dX12_laughOf_83 ?_
            refine lv_lstore (lv' := [(5, .long (abz1 + wez19)), (10, .int kz19), (8, .long wez19), (7, .int smz1), (0, .ref hm), (1, .int cx), (2, .int f1), (3, .int nn), (4, .int w1)]) hx₀ hb dX12_laughOf_84 hl (by decide) rfl (fun ls hl => ?_)
            refine lv_iinc (v := smz1 + 1) (lv' := [(7, .int (smz1 + 1)), (5, .long (abz1 + wez19)), (10, .int kz19), (8, .long wez19), (0, .ref hm), (1, .int cx), (2, .int f1), (3, .int nn), (4, .int w1)]) hx₀ hb dX12_laughOf_86 hl (k := 3) rfl rfl (by decide) rfl (fun ls hl => ?_)
            refine lv_goto (tgt := 6) hx₀ hb dX12_laughOf_89 (by decide) ?_
            exact ihz1 _ (lf_g_laughOf_5 nn smz1 jz1 kz19 jz19 hh8 hh9 hh10 hiz1_0 hjz1 c_2 hiz19_0 hjz19 c_20) (abz1 + wez19) (smz1 + 1) (g_8 0) (g_8 1) (g_8 2) (g_8 3) (g_8 4) r_5 _ _ _ _ _ _ _ (lf_g_laughOf_4 nn smz1 jz1 kz19 jz19 hh8 hh9 hh10 hiz1_0 hjz1 c_2 hiz19_0 hjz19 c_20) (k_ls_y hh0 (k_bdP9 hh15 hh7) (fun d => hh14 _ d.1) hh12 hh8.2 hiz1_1 c_2 c_6 c_17 c_18 (by have h9 := hiz19_1; rw [show kz19 = nn from lf_e_laughOf_3 nn smz1 jz1 kz19 jz19 hh8 hh9 hh10 hiz1_0 hjz1 c_2 hiz19_0 hjz19 c_20] at h9; exact h9)) (c_13) (c_14) (c_15) (c_16) rfl (hP.sub [0, 1, 2, 3, 4, 5, 6, 7, 8] rfl) (hD.sub [0, 1, 2, 3, 4, 5, 6, 7, 8] (by decide +kernel) rfl) hS (lv_sub hl [0, 1, 4, 5, 6, 7, 8] rfl)
          · refine lv_lload hx₀ hb dX12_laughOf_48 (lv_at hl 1 rfl) ?_
            refine lv_iload hx₀ hb dX12_laughOf_50 (lv_at hl 2 rfl) ?_
            refine lv_iload hx₀ hb dX12_laughOf_52 (lv_at hl 0 rfl) ?_
            obtain ⟨hPc, hDc, hFc, hC⟩ := k_cw (wc := []) hP hD hS hA [] (by decide +kernel) rfl
            refine va_calli (va_runS (As := [.int smz1, .int kz19]) (rest := [.long wez19]) ⟨hx₀, hb, hml, hown, hts⟩ (g_isIn l dC dI cI cJ cQ H.size smz1 kz19) (va_cwS 2 hts (kGS wd_560 wd_558 wd_559 wd_5) rfl rfl rfl (by decide +kernel) ⟨Nat.le_of_ble_eq_true rfl, Nat.le_of_ble_eq_true rfl⟩) (k_preS hK hPc hDc hN) rfl rfl hl.1 rfl (lv_room (Nat.le_of_ble_eq_true rfl)) dX12_laughOf_54 ⟨by decide +kernel, by decide +kernel⟩) hS (fun q _ h => hFc q h) hFc (fun r_21 u₀ t₀ H1 locs ht hvm hw hB hz1 hk1 hS => ?_)
            obtain ⟨hP1, hK1, hD1⟩ := hB
            rw [ht] at hP1
            have hJ := k_jn (wr := [(kX12 hm vFo vSi vIt vMo la vBy vTy mi vMi pn vPs gn vGs fn vFt le vTo (g_8 0) (g_8 1) (g_8 2) r_5 (g_8 3) (g_8 4) vPr vSt vFn sn vSg vAl dr), (kAI vMi cI 24 qMi), (kAI vPs cI 32 qPs), (kAI vGs cI 16 qGs), (kAI vTo cI 96 (ga_9 0)), (kAI vPr cI 2 (ga_9 1)), (kAI vSt cI 2 (ga_9 2)), (kAI vFn cI 2 (ga_9 3)), (kAI vFt cI 32 qFt)]) (wt := [(kX12 hm vFo vSi vIt vMo la vBy vTy mi vMi pn vPs gn vGs fn vFt le vTo (g_8 0) (g_8 1) (g_8 2) r_5 (g_8 3) (g_8 4) vPr vSt vFn sn vSg vAl dr), (kAI vMi cI 24 qMi), (kAI vPs cI 32 qPs), (kAI vGs cI 16 qGs), (kAI vTo cI 96 (ga_9 0)), (kAI vPr cI 2 (ga_9 1)), (kAI vSt cI 2 (ga_9 2)), (kAI vFn cI 2 (ga_9 3)), (kAI vFt cI 32 qFt)]) hP hD hC [0, 1, 2, 3, 4, 5, 6, 7, 8] rfl (by decide +kernel) (by decide +kernel) hk1 hFc hP1 hD1 rfl
            clear hP hD hPc hDc hFc hC hP1 hD1 hK1 hz1 hk1 hvm ht
            obtain ⟨hP, hD⟩ := hJ
            generalize H1 = H at hP hS ⊢
            try dsimp only at hw
            by_cases c_22 : ((smz1 >>> (kz19 &&& 31)) &&& 1) = 1
            · rw [if_pos c_22] at hw
              refine k_topi (v := 1) hw ?_
              refine lv_if_eq (tgt := 65) hx₀ hb dX12_laughOf_57 (by decide) (fun c9 => absurd c9 (by decide +kernel)) (fun _ => ?_)
              refine lv_iload_n hx₀ hb dX12_laughOf_60 rfl (lv_at hl 5 rfl) ?_
              refine lv_i2l hx₀ hb dX12_laughOf_61 rfl ?_
              refine lv_goto (tgt := 70) hx₀ hb dX12_laughOf_62 (by decide) ?_
              refine lv_lmul hx₀ hb dX12_laughOf_70 ?_
              refine lv_lstore (lv' := [(8, .long (wez19 * cx.toInt64)), (10, .int kz19), (7, .int smz1), (5, .long abz1), (0, .ref hm), (1, .int cx), (2, .int f1), (3, .int nn), (4, .int w1)]) hx₀ hb dX12_laughOf_71 hl (by decide) rfl (fun ls hl => ?_)
              refine lv_iinc (v := kz19 + 1) (lv' := [(10, .int (kz19 + 1)), (8, .long (wez19 * cx.toInt64)), (7, .int smz1), (5, .long abz1), (0, .ref hm), (1, .int cx), (2, .int f1), (3, .int nn), (4, .int w1)]) hx₀ hb dX12_laughOf_73 hl (k := 1) rfl rfl (by decide) rfl (fun ls hl => ?_)
              refine lv_goto (tgt := 42) hx₀ hb dX12_laughOf_76 (by decide) ?_
              exact ihz19 _ (lf_g_laughOf_7 nn smz1 jz1 kz19 jz19 hh8 hh9 hh10 hiz1_0 hjz1 c_2 hiz19_0 hjz19 c_20) (wez19 * cx.toInt64) (kz19 + 1) _ _ _ (lf_g_laughOf_6 nn smz1 jz1 kz19 jz19 hh8 hh9 hh10 hiz1_0 hjz1 c_2 hiz19_0 hjz19 c_20) ((k_wp_s hiz19_1 (lf_e_laughOf_4 nn smz1 jz1 kz19 jz19 hh8 hh9 hh10 hiz1_0 hjz1 c_2 hiz19_0 hjz19 c_20)).1 c_22) rfl (hP.sub [0, 1, 2, 3, 4, 5, 6, 7, 8] rfl) (hD.sub [0, 1, 2, 3, 4, 5, 6, 7, 8] (by decide +kernel) rfl) hS (lv_sub hl [0, 1, 2, 3, 4, 5, 6, 7, 8] rfl)
            rw [if_neg c_22] at hw
            refine k_topi (v := 0) hw ?_
            refine lv_if_eq (tgt := 65) hx₀ hb dX12_laughOf_57 (by decide) (fun _ => ?_) (fun c9 => absurd (by decide +kernel) c9)
            refine lv_bipush (v := 16) hx₀ hb dX12_laughOf_65 (by decide +kernel) ?_
            refine lv_iload_n hx₀ hb dX12_laughOf_67 rfl (lv_at hl 5 rfl) ?_
            refine lv_isub hx₀ hb dX12_laughOf_68 ?_
            refine lv_i2l hx₀ hb dX12_laughOf_69 rfl ?_
            refine lv_lmul hx₀ hb dX12_laughOf_70 ?_
            refine lv_lstore (lv' := [(8, .long (wez19 * ((16 - cx).toInt64))), (10, .int kz19), (7, .int smz1), (5, .long abz1), (0, .ref hm), (1, .int cx), (2, .int f1), (3, .int nn), (4, .int w1)]) hx₀ hb dX12_laughOf_71 hl (by decide) rfl (fun ls hl => ?_)
            refine lv_iinc (v := kz19 + 1) (lv' := [(10, .int (kz19 + 1)), (8, .long (wez19 * ((16 - cx).toInt64))), (7, .int smz1), (5, .long abz1), (0, .ref hm), (1, .int cx), (2, .int f1), (3, .int nn), (4, .int w1)]) hx₀ hb dX12_laughOf_73 hl (k := 1) rfl rfl (by decide) rfl (fun ls hl => ?_)
            refine lv_goto (tgt := 42) hx₀ hb dX12_laughOf_76 (by decide) ?_
            exact ihz19 _ (lf_g_laughOf_7 nn smz1 jz1 kz19 jz19 hh8 hh9 hh10 hiz1_0 hjz1 c_2 hiz19_0 hjz19 c_20) (wez19 * ((16 - cx).toInt64)) (kz19 + 1) _ _ _ (lf_g_laughOf_6 nn smz1 jz1 kz19 jz19 hh8 hh9 hh10 hiz1_0 hjz1 c_2 hiz19_0 hjz19 c_20) ((k_wp_s hiz19_1 (lf_e_laughOf_4 nn smz1 jz1 kz19 jz19 hh8 hh9 hh10 hiz1_0 hjz1 c_2 hiz19_0 hjz19 c_20)).2 c_22) rfl (hP.sub [0, 1, 2, 3, 4, 5, 6, 7, 8] rfl) (hD.sub [0, 1, 2, 3, 4, 5, 6, 7, 8] (by decide +kernel) rfl) hS (lv_sub hl [0, 1, 2, 3, 4, 5, 6, 7, 8] rfl)
set_option maxHeartbeats 4000000 in
set_option maxRecDepth 100000 in
theorem m_laugh (l : Launch) (dC : Nat → ClassId) (dI : Nat → Nat → Nat) (cI cJ cQ : ClassId) (sz : Nat) (hm : Nat) (cx : Int32) (f1 : Int32) (w1 : Int32) (vFo : Nat) (vSi : Nat) (vIt : Nat) (vMo : Nat) (la : Int32) (vBy : Nat) (vTy : Nat) (mi : Int32) (vMi : Nat) (pn : Int32) (vPs : Nat) (gn : Int32) (vGs : Nat) (fn : Int32) (vFt : Nat) (le : Int32) (vTo : Nat) (kn : Int32) (fe : Int32) (en : Int32) (ca : Int32) (an : Int32) (co : Int32) (vPr : Nat) (vSt : Nat) (vFn : Nat) (sn : Int32) (vSg : Nat) (vAl : Nat) (dr : Int32) (qTy : Nat → Int32) (qBy : Nat → Int32) (qMi : Nat → Int32) (qPs : Nat → Int32) (qGs : Nat → Int32) (qTo : Nat → Int32) (qPr : Nat → Int32) (qSt : Nat → Int32) (qFn : Nat → Int32) (qFt : Nat → Int32) (hh0 : 0 ≤ (qTy 0).toInt ∧ (qTy 0).toInt ≤ 24) (hh1 : 0 ≤ (qTy 1).toInt ∧ (qTy 1).toInt ≤ 39) (hh2 : 0 ≤ (qTy 2).toInt ∧ (qTy 2).toInt ≤ 23) (hh3 : k_bd 2 0 7 qPr) (hh4 : 0 ≤ fe ∧ fe ≤ 24) (hh5 : en = 0 ∨ kn = 0 ∨ fe ≤ 23) (hh6 : 0 ≤ kn ∧ kn ≤ 24) (hh7 : 0 ≤ fn ∧ fn ≤ 8) (hh8 : ca = 16777215) (hh9 : k_bd 32 0 9 qFt) : Met l yX12_laugh (kW yX12_laugh cX12_laugh 5 (some .long)) { frames := 5, cells := 0, slots := 0, locals := 129 } (kPre dC dI cI cJ cQ sz [.ref hm, .int cx, .int f1, .int w1] [(kX12 hm vFo vSi vIt vMo la vBy vTy mi vMi pn vPs gn vGs fn vFt le vTo kn fe en ca an co vPr vSt vFn sn vSg vAl dr), (kAI vTy cI 3 qTy), (kAI vBy cI 120 qBy), (kAI vMi cI 24 qMi), (kAI vPs cI 32 qPs), (kAI vGs cI 16 qGs), (kAI vTo cI 96 qTo), (kAI vPr cI 2 qPr), (kAI vSt cI 2 qSt), (kAI vFn cI 2 qFn), (kAI vFt cI 32 qFt)]) (va_Ql (fun (r : Int64) (u : kS) => (r = if ((0 ≤ cx ∧ cx ≤ 16) ∧ (0 ≤ f1 ∧ f1 < fn) ∧ 0 ≤ w1 ∧ w1 ≤ 1) ∧ kTw (kM (u.2.1 0)) (u.1 0).toNatClampNeg ≤ 10 then (if w1 = 0 then (kLR ((0 ≤ (kP0 qFt f1) ∧ (kP0 qFt f1) < (u.1 1)) ∧ (0 ≤ (kP1 qFt f1) ∧ (kP1 qFt f1) < (u.1 2)) ∧ 0 ≤ (kP2 qFt f1) ∧ (kP2 qFt f1) < (u.1 2)) (kM (u.2.1 0)) (u.1 0) (kP3 (u.2.1 1) (kP0 qFt f1)) ((kG0 (u.2.1 2) (kP1 qFt f1), kG1 (u.2.1 2) (kP1 qFt f1), kG0 (u.2.1 2) (kP1 qFt f1), 0), (kG0 (u.2.1 2) (kP2 qFt f1), kG1 (u.2.1 2) (kP2 qFt f1), kG0 (u.2.1 2) (kP2 qFt f1), 0)) le (kP0 (u.2.1 1) (kP0 qFt f1)) (kP1 (u.2.1 1) (kP0 qFt f1)) (5 * (kP2 (u.2.1 1) (kP0 qFt f1))) (kP3 qFt f1) cx).1 else (kLR ((0 ≤ (kP0 qFt f1) ∧ (kP0 qFt f1) < (u.1 1)) ∧ (0 ≤ (kP1 qFt f1) ∧ (kP1 qFt f1) < (u.1 2)) ∧ 0 ≤ (kP2 qFt f1) ∧ (kP2 qFt f1) < (u.1 2)) (kM (u.2.1 0)) (u.1 0) (kP3 (u.2.1 1) (kP0 qFt f1)) ((kG0 (u.2.1 2) (kP1 qFt f1), kG1 (u.2.1 2) (kP1 qFt f1), kG0 (u.2.1 2) (kP1 qFt f1), 0), (kG0 (u.2.1 2) (kP2 qFt f1), kG1 (u.2.1 2) (kP2 qFt f1), kG0 (u.2.1 2) (kP2 qFt f1), 0)) le (kP0 (u.2.1 1) (kP0 qFt f1)) (kP1 (u.2.1 1) (kP0 qFt f1)) (5 * (kP2 (u.2.1 1) (kP0 qFt f1))) (kP3 qFt f1) cx).2) else -9223372036854775806) ∧ (0 ≤ (u.1 0) ∧ (u.1 0) ≤ 24) ∧ (0 ≤ (u.1 1) ∧ (u.1 1) ≤ 8) ∧ (0 ≤ (u.1 2) ∧ (u.1 2) ≤ 8) ∧ (k_bd 2 0 7 (u.2.1 4)) ∧ (0 ≤ (u.1 4) ∧ (u.1 4) ≤ 24) ∧ ((u.1 5) = 0 ∨ (u.1 3) = 0 ∨ (u.1 4) ≤ 23) ∧ (0 ≤ (u.1 3) ∧ (u.1 3) ≤ 24) ∧ (k_tm (u.1 1) (u.2.1 1)) ∧ ((u.1 0) = kNm (qTy 0) (qTy 0) (kv4 qBy)) ∧ ((u.1 1) = kNm (kTh7 (qTy 1)) (qTy 1) (kv7 qBy)) ∧ ((u.1 2) = kNm (kTh2 (qTy 2)) (qTy 2) (kv2 qBy)) ∧ (k_ml (u.1 0) (u.2.1 0) (kv4 qBy)) ∧ (k_mq 5 4 (u.1 1) (qTy 1) (u.2.1 1) (kv7 qBy)) ∧ (k_mq 3 2 (u.1 2) (qTy 2) (u.2.1 2) (kv2 qBy)) ∧ ((u.1 8) = 16777215)) (fun (u : kS) t₀ => kB dC dI cI cJ cQ (va_A [(kX12 hm vFo vSi vIt vMo la vBy vTy mi vMi pn vPs gn vGs fn vFt le vTo kn fe en ca an co vPr vSt vFn sn vSg vAl dr), (kAI vTy cI 3 qTy), (kAI vBy cI 120 qBy), (kAI vMi cI 24 qMi), (kAI vPs cI 32 qPs), (kAI vGs cI 16 qGs), (kAI vTo cI 96 qTo), (kAI vPr cI 2 qPr), (kAI vSt cI 2 qSt), (kAI vFn cI 2 qFn), (kAI vFt cI 32 qFt)] sz) [(kX12 hm vFo vSi vIt vMo la vBy vTy (u.1 0) vMi (u.1 1) vPs (u.1 2) vGs fn vFt le vTo (u.1 3) (u.1 4) (u.1 5) (u.1 8) (u.1 6) (u.1 7) vPr vSt vFn sn vSg vAl dr), (kAI vTy cI 3 qTy), (kAI vBy cI 120 qBy), (kAI vMi cI 24 (u.2.1 0)), (kAI vPs cI 32 (u.2.1 1)), (kAI vGs cI 16 (u.2.1 2)), (kAI vTo cI 96 (u.2.1 3)), (kAI vPr cI 2 (u.2.1 4)), (kAI vSt cI 2 (u.2.1 5)), (kAI vFn cI 2 (u.2.1 6)), (kAI vFt cI 32 qFt)] t₀) (va_A [(kX12 hm vFo vSi vIt vMo la vBy vTy mi vMi pn vPs gn vGs fn vFt le vTo kn fe en ca an co vPr vSt vFn sn vSg vAl dr), (kAI vTy cI 3 qTy), (kAI vBy cI 120 qBy), (kAI vMi cI 24 qMi), (kAI vPs cI 32 qPs), (kAI vGs cI 16 qGs), (kAI vTo cI 96 qTo), (kAI vPr cI 2 qPr), (kAI vSt cI 2 qSt), (kAI vFn cI 2 qFn), (kAI vFt cI 32 qFt)] sz)) 0 0 (va_A [(kX12 hm vFo vSi vIt vMo la vBy vTy mi vMi pn vPs gn vGs fn vFt le vTo kn fe en ca an co vPr vSt vFn sn vSg vAl dr), (kAI vTy cI 3 qTy), (kAI vBy cI 120 qBy), (kAI vMi cI 24 qMi), (kAI vPs cI 32 qPs), (kAI vGs cI 16 qGs), (kAI vTo cI 96 qTo), (kAI vPr cI 2 qPr), (kAI vSt cI 2 qSt), (kAI vFn cI 2 qFn), (kAI vFt cI 32 qFt)] sz) := by
  refine Met.ofW (cc := cX12_laugh) (maxL := 5) (ret := (some .long)) (by decide) rfl ?_
  intro p₀ e₀ s₀ m₀ args below meth c₀ s₁ B hml hv₀
  obtain ⟨rfl, hsz, hP, hK, hD0, hN⟩ := hv₀
  have hx₀ := B.exec
  have hb := B.bytes
  have hr := B.returns
  have hts := atoms_spec (ws := (kW yX12_laugh cX12_laugh 5 (some .long))) B.pre
  have hts := fun w h => hts w (List.mem_cons_of_mem _ h)
  have hown : s₀.vm.findClass RX12 = some m₀.cls := findClass_of_methodNamed B.named
  have hlocks := B.notSynchronized
  subst hsz
  have hD := hD0.self (sz := s₀.heap.size)
  generalize hAe : va_A [(kX12 hm vFo vSi vIt vMo la vBy vTy mi vMi pn vPs gn vGs fn vFt le vTo kn fe en ca an co vPr vSt vFn sn vSg vAl dr), (kAI vTy cI 3 qTy), (kAI vBy cI 120 qBy), (kAI vMi cI 24 qMi), (kAI vPs cI 32 qPs), (kAI vGs cI 16 qGs), (kAI vTo cI 96 qTo), (kAI vPr cI 2 qPr), (kAI vSt cI 2 qSt), (kAI vFn cI 2 qFn), (kAI vFt cI 32 qFt)] s₀.heap.size = A at hD ⊢
  have hA : ∀ q : Nat, s₀.heap.size ≤ q → A q := fun q h => by rw [← hAe]; exact Or.inr h
  have hS : va_S A s₀.heap s₀.heap [] := va_S.rf
  have hP : va_P (dC, dI) vwCl [(kX12 hm vFo vSi vIt vMo la vBy vTy mi vMi pn vPs gn vGs fn vFt le vTo kn fe en ca an co vPr vSt vFn sn vSg vAl dr), (kAI vTy cI 3 qTy), (kAI vBy cI 120 qBy), (kAI vMi cI 24 qMi), (kAI vPs cI 32 qPs), (kAI vGs cI 16 qGs), (kAI vTo cI 96 qTo), (kAI vPr cI 2 qPr), (kAI vSt cI 2 qSt), (kAI vFn cI 2 qFn), (kAI vFt cI 32 qFt)] s₀.heap := hP
  have hl := lv_entry ([.ref hm, .int cx, .int f1, .int w1]) (n := 5) (Nat.le_of_ble_eq_true rfl)
  rw [lg_entry_eq]
  generalize (lg_sl ([.ref hm, .int cx, .int f1, .int w1]) ++ List.replicate (5 - (lg_sl ([.ref hm, .int cx, .int f1, .int w1])).length) Slot.unset).toArray = ls at hl ⊢
  have hl : lv_has ls 5 [(0, .ref hm), (1, .int cx), (2, .int f1), (3, .int w1)] := hl
  obtain ⟨H, hH⟩ : ∃ z : Heap, z = s₀.heap := ⟨_, rfl⟩
  rw [← hH] at hP
  have hS : va_S A s₀.heap H [] := by rw [hH]; exact hS
  refine k_heap hH ?_
  have hD : va_D A [(kX12 hm vFo vSi vIt vMo la vBy vTy mi vMi pn vPs gn vGs fn vFt le vTo kn fe en ca an co vPr vSt vFn sn vSg vAl dr), (kAI vTy cI 3 qTy), (kAI vBy cI 120 qBy), (kAI vMi cI 24 qMi), (kAI vPs cI 32 qPs), (kAI vGs cI 16 qGs), (kAI vTo cI 96 qTo), (kAI vPr cI 2 qPr), (kAI vSt cI 2 qSt), (kAI vFn cI 2 qFn), (kAI vFt cI 32 qFt)] := hD
  obtain ⟨locs, hlo⟩ : ∃ z : List Loc, z = [] := ⟨_, rfl⟩
  rw [← hlo] at hS ⊢
  clear hlo hH hAe hD0
  refine lv_aload_n hx₀ hb dX12_laugh_0 rfl (lv_at hl 0 rfl) ?_
  obtain ⟨hPc, hDc, hFc, hC⟩ := k_cw (wc := [(kX12 hm vFo vSi vIt vMo la vBy vTy mi vMi pn vPs gn vGs fn vFt le vTo kn fe en ca an co vPr vSt vFn sn vSg vAl dr), (kAI vTy cI 3 qTy), (kAI vBy cI 120 qBy), (kAI vMi cI 24 qMi), (kAI vPs cI 32 qPs), (kAI vGs cI 16 qGs)]) hP hD hS hA [0, 1, 2, 3, 4, 5] (by decide +kernel) rfl
  refine va_callv (va_runV (As := []) (rest := []) ⟨hx₀, hb, hml, hown, hts⟩ (g_reads l dC dI cI cJ cQ H.size hm vFo vSi vIt vMo la vBy vTy mi vMi pn vPs gn vGs fn vFt le vTo kn fe en ca an co vPr vSt vFn sn vSg vAl dr qTy qBy qMi qPs qGs (hh0) (hh1) (hh2)) (cwV 0 hts (kGV wd_298 wd_295 wd_296 wd_297 wd_5) rfl rfl rfl (by decide +kernel) ⟨Nat.le_of_ble_eq_true rfl, Nat.le_of_ble_eq_true rfl⟩) (k_preV (ci := 11) (q0 := 0) hK hPc hDc hN rfl rfl) rfl rfl hl.1 rfl (lv_room (Nat.le_of_ble_eq_true rfl)) dX12_laugh_1 ⟨by decide +kernel, by decide +kernel⟩) hS (fun q _ h => hFc q h) hFc (fun u₀ t₀ H1 locs ht hvm hw hB hz1 hk1 hS => ?_)
  obtain ⟨g_2, ga_3, gl_4, gb_5, gp_6⟩ := u₀
  obtain ⟨hP1, hK1, hD1⟩ := hB
  rw [ht] at hP1
  have hJ := k_jn (wr := [(kAI vTo cI 96 qTo), (kAI vPr cI 2 qPr), (kAI vSt cI 2 qSt), (kAI vFn cI 2 qFn), (kAI vFt cI 32 qFt)]) (wt := [(kAI vTo cI 96 qTo), (kAI vPr cI 2 qPr), (kAI vSt cI 2 qSt), (kAI vFn cI 2 qFn), (kAI vFt cI 32 qFt), (kX12 hm vFo vSi vIt vMo la vBy vTy (g_2 0) vMi (g_2 1) vPs (g_2 2) vGs fn vFt le vTo kn fe en ca an co vPr vSt vFn sn vSg vAl dr), (kAI vTy cI 3 qTy), (kAI vBy cI 120 qBy), (kAI vMi cI 24 (ga_3 0)), (kAI vPs cI 32 (ga_3 1)), (kAI vGs cI 16 (ga_3 2))]) hP hD hC [6, 7, 8, 9, 10] rfl (by decide +kernel) (by decide +kernel) hk1 hFc hP1 hD1 rfl
  clear hP hD hPc hDc hFc hC hP1 hD1 hK1 hz1 hk1 hvm ht
  obtain ⟨hP, hD⟩ := hJ
  generalize H1 = H at hP hS ⊢
  try dsimp only at hw
  obtain ⟨c_7, c_8, c_9, c_10, c_11, c_12, c_13, c_14, c_15, c_16⟩ := hw
  refine lv_aload_n hx₀ hb dX12_laugh_4 rfl (lv_at hl 0 rfl) ?_
  obtain ⟨hPc, hDc, hFc, hC⟩ := k_cw (wc := [(kX12 hm vFo vSi vIt vMo la vBy vTy (g_2 0) vMi (g_2 1) vPs (g_2 2) vGs fn vFt le vTo kn fe en ca an co vPr vSt vFn sn vSg vAl dr), (kAI vMi cI 24 (ga_3 0))]) hP hD hS hA [5, 8] (by decide +kernel) rfl
  refine va_calli (va_runV (As := []) (rest := []) ⟨hx₀, hb, hml, hown, hts⟩ (e_townsm l dC dI cI cJ cQ H.size hm vFo vSi vIt vMo la vBy vTy (g_2 0) vMi (g_2 1) vPs (g_2 2) vGs fn vFt le vTo kn fe en ca an co vPr vSt vFn sn vSg vAl dr (ga_3 0) (c_7)) (cwV 0 hts (kGV wd_814 wd_811 wd_812 wd_813 wd_5) rfl rfl rfl (by decide +kernel) ⟨Nat.le_of_ble_eq_true rfl, Nat.le_of_ble_eq_true rfl⟩) (k_preV (ci := 11) (q0 := 0) hK hPc hDc hN rfl rfl) rfl rfl hl.1 rfl (lv_room (Nat.le_of_ble_eq_true rfl)) dX12_laugh_5 ⟨by decide +kernel, by decide +kernel⟩) hS (fun q _ h => hFc q h) hFc (fun r_17 u₀ t₀ H1 locs ht hvm hw hB hz1 hk1 hS => ?_)
  obtain ⟨hP1, hK1, hD1⟩ := hB
  rw [ht] at hP1
  have hJ := k_jn (wr := [(kAI vTo cI 96 qTo), (kAI vPr cI 2 qPr), (kAI vSt cI 2 qSt), (kAI vFn cI 2 qFn), (kAI vFt cI 32 qFt), (kAI vTy cI 3 qTy), (kAI vBy cI 120 qBy), (kAI vPs cI 32 (ga_3 1)), (kAI vGs cI 16 (ga_3 2))]) (wt := [(kAI vTo cI 96 qTo), (kAI vPr cI 2 qPr), (kAI vSt cI 2 qSt), (kAI vFn cI 2 qFn), (kAI vFt cI 32 qFt), (kAI vTy cI 3 qTy), (kAI vBy cI 120 qBy), (kAI vPs cI 32 (ga_3 1)), (kAI vGs cI 16 (ga_3 2)), (kX12 hm vFo vSi vIt vMo la vBy vTy (g_2 0) vMi (g_2 1) vPs (g_2 2) vGs fn vFt le vTo kn fe en ca an co vPr vSt vFn sn vSg vAl dr), (kAI vMi cI 24 (ga_3 0))]) hP hD hC [0, 1, 2, 3, 4, 6, 7, 9, 10] rfl (by decide +kernel) (by decide +kernel) hk1 hFc hP1 hD1 rfl
  clear hP hD hPc hDc hFc hC hP1 hD1 hK1 hz1 hk1 hvm ht
  obtain ⟨hP, hD⟩ := hJ
  generalize H1 = H at hP hS ⊢
  try dsimp only at hw
  obtain ⟨c_18, c_19⟩ := hw
  refine lv_istore (lv' := [(4, .int r_17), (0, .ref hm), (1, .int cx), (2, .int f1), (3, .int w1)]) hx₀ hb dX12_laugh_8 hl (by decide) rfl (fun ls hl => ?_)
  refine lv_iload_n hx₀ hb dX12_laugh_10 rfl (lv_at hl 2 rfl) ?_
  refine lv_i2l hx₀ hb dX12_laugh_11 rfl ?_
  refine lv_lconst (v := 0) hx₀ hb dX12_laugh_12 (by decide +kernel) ?_
  refine lv_ldc2 (v := 16) hx₀ hb hown (hts (.constantLong RX12 269 (16)) wd_810) dX12_laugh_13 ?_
  obtain ⟨hPc, hDc, hFc, hC⟩ := k_cw (wc := []) hP hD hS hA [] (by decide +kernel) rfl
  refine va_calli (va_runS (As := [.long cx.toInt64, .long 0, .long 16]) (rest := []) ⟨hx₀, hb, hml, hown, hts⟩ (c_in l dC dI cI cJ cQ H.size cx.toInt64 0 16) (va_cwS 3 hts (kGS wd_208 wd_206 wd_207 wd_5) rfl rfl rfl (by decide +kernel) ⟨Nat.le_of_ble_eq_true rfl, Nat.le_of_ble_eq_true rfl⟩) (k_preS hK hPc hDc hN) rfl rfl hl.1 rfl (lv_room (Nat.le_of_ble_eq_true rfl)) dX12_laugh_16 ⟨by decide +kernel, by decide +kernel⟩) hS (fun q _ h => hFc q h) hFc (fun r_20 u₀ t₀ H1 locs ht hvm hw hB hz1 hk1 hS => ?_)
  obtain ⟨hP1, hK1, hD1⟩ := hB
  rw [ht] at hP1
  have hJ := k_jn (wr := [(kAI vTo cI 96 qTo), (kAI vPr cI 2 qPr), (kAI vSt cI 2 qSt), (kAI vFn cI 2 qFn), (kAI vFt cI 32 qFt), (kAI vTy cI 3 qTy), (kAI vBy cI 120 qBy), (kAI vPs cI 32 (ga_3 1)), (kAI vGs cI 16 (ga_3 2)), (kX12 hm vFo vSi vIt vMo la vBy vTy (g_2 0) vMi (g_2 1) vPs (g_2 2) vGs fn vFt le vTo kn fe en ca an co vPr vSt vFn sn vSg vAl dr), (kAI vMi cI 24 (ga_3 0))]) (wt := [(kAI vTo cI 96 qTo), (kAI vPr cI 2 qPr), (kAI vSt cI 2 qSt), (kAI vFn cI 2 qFn), (kAI vFt cI 32 qFt), (kAI vTy cI 3 qTy), (kAI vBy cI 120 qBy), (kAI vPs cI 32 (ga_3 1)), (kAI vGs cI 16 (ga_3 2)), (kX12 hm vFo vSi vIt vMo la vBy vTy (g_2 0) vMi (g_2 1) vPs (g_2 2) vGs fn vFt le vTo kn fe en ca an co vPr vSt vFn sn vSg vAl dr), (kAI vMi cI 24 (ga_3 0))]) hP hD hC [0, 1, 2, 3, 4, 5, 6, 7, 8, 9, 10] rfl (by decide +kernel) (by decide +kernel) hk1 hFc hP1 hD1 rfl
  clear hP hD hPc hDc hFc hC hP1 hD1 hK1 hz1 hk1 hvm ht
  obtain ⟨hP, hD⟩ := hJ
  generalize H1 = H at hP hS ⊢
  try dsimp only at hw
  by_cases c_21 : (0 : Int64) ≤ cx.toInt64 ∧ cx.toInt64 ≤ (16 : Int64)
  · rw [if_pos c_21] at hw
    refine k_topi (v := 1) hw ?_
    refine lv_if_eq (tgt := 56) hx₀ hb dX12_laugh_19 (by decide) (fun c9 => absurd c9 (by decide +kernel)) (fun _ => ?_)
    refine lv_aload_n hx₀ hb dX12_laugh_22 rfl (lv_at hl 1 rfl) ?_
    refine lv_iload_n hx₀ hb dX12_laugh_23 rfl (lv_at hl 3 rfl) ?_
    obtain ⟨hPc, hDc, hFc, hC⟩ := k_cw (wc := [(kX12 hm vFo vSi vIt vMo la vBy vTy (g_2 0) vMi (g_2 1) vPs (g_2 2) vGs fn vFt le vTo kn fe en ca an co vPr vSt vFn sn vSg vAl dr)]) hP hD hS hA [9] (by decide +kernel) rfl
    refine va_calli (va_runV (As := [.int f1]) (rest := []) ⟨hx₀, hb, hml, hown, hts⟩ (g_isFlight l dC dI cI cJ cQ H.size hm f1 vFo vSi vIt vMo la vBy vTy (g_2 0) vMi (g_2 1) vPs (g_2 2) vGs fn vFt le vTo kn fe en ca an co vPr vSt vFn sn vSg vAl dr (hh7)) (cwV 1 hts (kGV wd_528 wd_525 wd_526 wd_527 wd_5) rfl rfl rfl (by decide +kernel) ⟨Nat.le_of_ble_eq_true rfl, Nat.le_of_ble_eq_true rfl⟩) (k_preV (ci := 11) (q0 := 0) hK hPc hDc hN rfl rfl) rfl rfl hl.1 rfl (lv_room (Nat.le_of_ble_eq_true rfl)) dX12_laugh_24 ⟨by decide +kernel, by decide +kernel⟩) hS (fun q _ h => hFc q h) hFc (fun r_22 u₀ t₀ H1 locs ht hvm hw hB hz1 hk1 hS => ?_)
    obtain ⟨hP1, hK1, hD1⟩ := hB
    rw [ht] at hP1
    have hJ := k_jn (wr := [(kAI vTo cI 96 qTo), (kAI vPr cI 2 qPr), (kAI vSt cI 2 qSt), (kAI vFn cI 2 qFn), (kAI vFt cI 32 qFt), (kAI vTy cI 3 qTy), (kAI vBy cI 120 qBy), (kAI vPs cI 32 (ga_3 1)), (kAI vGs cI 16 (ga_3 2)), (kAI vMi cI 24 (ga_3 0))]) (wt := [(kAI vTo cI 96 qTo), (kAI vPr cI 2 qPr), (kAI vSt cI 2 qSt), (kAI vFn cI 2 qFn), (kAI vFt cI 32 qFt), (kAI vTy cI 3 qTy), (kAI vBy cI 120 qBy), (kAI vPs cI 32 (ga_3 1)), (kAI vGs cI 16 (ga_3 2)), (kAI vMi cI 24 (ga_3 0)), (kX12 hm vFo vSi vIt vMo la vBy vTy (g_2 0) vMi (g_2 1) vPs (g_2 2) vGs fn vFt le vTo kn fe en ca an co vPr vSt vFn sn vSg vAl dr)]) hP hD hC [0, 1, 2, 3, 4, 5, 6, 7, 8, 10] rfl (by decide +kernel) (by decide +kernel) hk1 hFc hP1 hD1 rfl
    clear hP hD hPc hDc hFc hC hP1 hD1 hK1 hz1 hk1 hvm ht
    obtain ⟨hP, hD⟩ := hJ
    generalize H1 = H at hP hS ⊢
    try dsimp only at hw
    by_cases c_23 : 0 ≤ f1 ∧ f1 < fn
    · rw [if_pos c_23] at hw
      refine k_topi (v := 1) hw ?_
      refine lv_if_eq (tgt := 56) hx₀ hb dX12_laugh_27 (by decide) (fun c9 => absurd c9 (by decide +kernel)) (fun _ => ?_)
      refine lv_iload_n hx₀ hb dX12_laugh_30 rfl (lv_at hl 4 rfl) ?_
      obtain ⟨hPc, hDc, hFc, hC⟩ := k_cw (wc := []) hP hD hS hA [] (by decide +kernel) rfl
      refine va_calli (va_runS (As := [.int w1]) (rest := []) ⟨hx₀, hb, hml, hown, hts⟩ (c_isTwo l dC dI cI cJ cQ H.size w1) (va_cwS 1 hts (kGS wd_348 wd_346 wd_347 wd_5) rfl rfl rfl (by decide +kernel) ⟨Nat.le_of_ble_eq_true rfl, Nat.le_of_ble_eq_true rfl⟩) (k_preS hK hPc hDc hN) rfl rfl hl.1 rfl (lv_room (Nat.le_of_ble_eq_true rfl)) dX12_laugh_31 ⟨by decide +kernel, by decide +kernel⟩) hS (fun q _ h => hFc q h) hFc (fun r_24 u₀ t₀ H1 locs ht hvm hw hB hz1 hk1 hS => ?_)
      obtain ⟨hP1, hK1, hD1⟩ := hB
      rw [ht] at hP1
      have hJ := k_jn (wr := [(kAI vTo cI 96 qTo), (kAI vPr cI 2 qPr), (kAI vSt cI 2 qSt), (kAI vFn cI 2 qFn), (kAI vFt cI 32 qFt), (kAI vTy cI 3 qTy), (kAI vBy cI 120 qBy), (kAI vPs cI 32 (ga_3 1)), (kAI vGs cI 16 (ga_3 2)), (kAI vMi cI 24 (ga_3 0)), (kX12 hm vFo vSi vIt vMo la vBy vTy (g_2 0) vMi (g_2 1) vPs (g_2 2) vGs fn vFt le vTo kn fe en ca an co vPr vSt vFn sn vSg vAl dr)]) (wt := [(kAI vTo cI 96 qTo), (kAI vPr cI 2 qPr), (kAI vSt cI 2 qSt), (kAI vFn cI 2 qFn), (kAI vFt cI 32 qFt), (kAI vTy cI 3 qTy), (kAI vBy cI 120 qBy), (kAI vPs cI 32 (ga_3 1)), (kAI vGs cI 16 (ga_3 2)), (kAI vMi cI 24 (ga_3 0)), (kX12 hm vFo vSi vIt vMo la vBy vTy (g_2 0) vMi (g_2 1) vPs (g_2 2) vGs fn vFt le vTo kn fe en ca an co vPr vSt vFn sn vSg vAl dr)]) hP hD hC [0, 1, 2, 3, 4, 5, 6, 7, 8, 9, 10] rfl (by decide +kernel) (by decide +kernel) hk1 hFc hP1 hD1 rfl
      clear hP hD hPc hDc hFc hC hP1 hD1 hK1 hz1 hk1 hvm ht
      obtain ⟨hP, hD⟩ := hJ
      generalize H1 = H at hP hS ⊢
      try dsimp only at hw
      by_cases c_25 : 0 ≤ w1 ∧ w1 ≤ 1
      · rw [if_pos c_25] at hw
        refine k_topi (v := 1) hw ?_
        refine lv_if_eq (tgt := 56) hx₀ hb dX12_laugh_34 (by decide) (fun c9 => absurd c9 (by decide +kernel)) (fun _ => ?_)
        refine lv_iload hx₀ hb dX12_laugh_37 (lv_at hl 0 rfl) ?_
        refine lv_bipush (v := 10) hx₀ hb dX12_laugh_39 (by decide +kernel) ?_
        refine lv_icmp_gt (tgt := 56) hx₀ hb dX12_laugh_41 (by decide) (fun c_26 => ?_) (fun c_26 => ?_)
        · refine lv_bipush (v := (-2)) hx₀ hb dX12_laugh_56 (by decide +kernel) ?_
          obtain ⟨hPc, hDc, hFc, hC⟩ := k_cw (wc := []) hP hD hS hA [] (by decide +kernel) rfl
          refine va_calll (va_runS (As := [.int (-2)]) (rest := []) ⟨hx₀, hb, hml, hown, hts⟩ (c_no2 l dC dI cI cJ cQ H.size ) (va_cwS 1 hts (kGS wd_828 wd_826 wd_827 wd_5) rfl rfl rfl (by decide +kernel) ⟨Nat.le_of_ble_eq_true rfl, Nat.le_of_ble_eq_true rfl⟩) (k_preS hK hPc hDc hN) rfl rfl hl.1 rfl (lv_room (Nat.le_of_ble_eq_true rfl)) dX12_laugh_58 ⟨by decide +kernel, by decide +kernel⟩) hS (fun q _ h => hFc q h) hFc (fun r_27 u₀ t₀ H1 locs ht hvm hw hB hz1 hk1 hS => ?_)
          obtain ⟨hP1, hK1, hD1⟩ := hB
          rw [ht] at hP1
          have hJ := k_jn (wr := [(kAI vTo cI 96 qTo), (kAI vPr cI 2 qPr), (kAI vSt cI 2 qSt), (kAI vFn cI 2 qFn), (kAI vFt cI 32 qFt), (kAI vTy cI 3 qTy), (kAI vBy cI 120 qBy), (kAI vPs cI 32 (ga_3 1)), (kAI vGs cI 16 (ga_3 2)), (kAI vMi cI 24 (ga_3 0)), (kX12 hm vFo vSi vIt vMo la vBy vTy (g_2 0) vMi (g_2 1) vPs (g_2 2) vGs fn vFt le vTo kn fe en ca an co vPr vSt vFn sn vSg vAl dr)]) (wt := [(kAI vTo cI 96 qTo), (kAI vPr cI 2 qPr), (kAI vSt cI 2 qSt), (kAI vFn cI 2 qFn), (kAI vFt cI 32 qFt), (kAI vTy cI 3 qTy), (kAI vBy cI 120 qBy), (kAI vPs cI 32 (ga_3 1)), (kAI vGs cI 16 (ga_3 2)), (kAI vMi cI 24 (ga_3 0)), (kX12 hm vFo vSi vIt vMo la vBy vTy (g_2 0) vMi (g_2 1) vPs (g_2 2) vGs fn vFt le vTo kn fe en ca an co vPr vSt vFn sn vSg vAl dr)]) hP hD hC [0, 1, 2, 3, 4, 5, 6, 7, 8, 9, 10] rfl (by decide +kernel) (by decide +kernel) hk1 hFc hP1 hD1 rfl
          clear hP hD hPc hDc hFc hC hP1 hD1 hK1 hz1 hk1 hvm ht
          obtain ⟨hP, hD⟩ := hJ
          generalize H1 = H at hP hS ⊢
          try dsimp only at hw
          refine k_topl (v := (-9223372036854775806)) hw ?_
          obtain ⟨hP9, hD9⟩ := k_c2 (wc := [(kX12 hm vFo vSi vIt vMo la vBy vTy (g_2 0) vMi (g_2 1) vPs (g_2 2) vGs fn vFt le vTo kn fe en ca an co vPr vSt vFn sn vSg vAl dr), (kAI vTy cI 3 qTy), (kAI vBy cI 120 qBy), (kAI vMi cI 24 (ga_3 0)), (kAI vPs cI 32 (ga_3 1)), (kAI vGs cI 16 (ga_3 2)), (kAI vTo cI 96 qTo), (kAI vPr cI 2 qPr), (kAI vSt cI 2 qSt), (kAI vFn cI 2 qFn), (kAI vFt cI 32 qFt)]) hP hD [10, 5, 6, 9, 7, 8, 0, 1, 2, 3, 4] (by decide +kernel) rfl
          exact W.lret (v := (-9223372036854775806)) hx₀ hb hr (fun t₀ ht hW => ⟨⟨(-9223372036854775806), (k_fn [(g_2 0), (g_2 1), (g_2 2), kn, fe, en, an, co, ca], k_fa [(ga_3 0), ga_3 1, ga_3 2, qTo, qPr, qSt, qFn], k_fl [], k_fL [], k_fp []), rfl, ⟨(if_neg (fun z => kTw_11 c_7 c_18 (Int32.not_le.mpr c_26) z.2)).symm, c_7, c_8, c_9, hh3, hh4, hh5, hh6, c_10, c_11, c_12, c_13, c_14, c_15, c_16, hh8⟩, by rw [ht]; exact hP9, va_K.moved hW.alike hK, hD9⟩, hS.F ht⟩) hS.2.2 dX12_laugh_61
        · refine lv_aload_n hx₀ hb dX12_laugh_44 rfl (lv_at hl 1 rfl) ?_
          refine lv_iload_n hx₀ hb dX12_laugh_45 rfl (lv_at hl 2 rfl) ?_
          refine lv_iload_n hx₀ hb dX12_laugh_46 rfl (lv_at hl 3 rfl) ?_
          refine lv_iload hx₀ hb dX12_laugh_47 (lv_at hl 0 rfl) ?_
          refine lv_iload_n hx₀ hb dX12_laugh_49 rfl (lv_at hl 4 rfl) ?_
          obtain ⟨hPc, hDc, hFc, hC⟩ := k_cw (wc := [(kX12 hm vFo vSi vIt vMo la vBy vTy (g_2 0) vMi (g_2 1) vPs (g_2 2) vGs fn vFt le vTo kn fe en ca an co vPr vSt vFn sn vSg vAl dr), (kAI vMi cI 24 (ga_3 0)), (kAI vPs cI 32 (ga_3 1)), (kAI vGs cI 16 (ga_3 2)), (kAI vTo cI 96 qTo), (kAI vPr cI 2 qPr), (kAI vSt cI 2 qSt), (kAI vFn cI 2 qFn), (kAI vFt cI 32 qFt)]) hP hD hS hA [10, 9, 7, 8, 0, 1, 2, 3, 4] (by decide +kernel) rfl
          refine va_calll (va_runV (As := [.int cx, .int f1, .int r_17, .int w1]) (rest := []) ⟨hx₀, hb, hml, hown, hts⟩ (e_laughOf l dC dI cI cJ cQ H.size hm cx f1 r_17 w1 vFo vSi vIt vMo la vBy vTy (g_2 0) vMi (g_2 1) vPs (g_2 2) vGs fn vFt le vTo kn fe en ca an co vPr vSt vFn sn vSg vAl dr (ga_3 0) (ga_3 1) (ga_3 2) qTo qPr qSt qFn qFt (c_7) (c_8) (c_9) (hh3) (hh4) (hh5) (hh6) (lf_g_flies_3 fn f1 hh7 c_23) (show 0 ≤ r_17 ∧ r_17 ≤ 10 from ⟨c_19.1, (Int32.not_lt.mp c_26)⟩) (k_kshl (show 0 ≤ r_17 ∧ r_17 ≤ 10 from ⟨c_19.1, (Int32.not_lt.mp c_26)⟩)) (k_klsh (show 0 ≤ r_17 ∧ r_17 ≤ 10 from ⟨c_19.1, (Int32.not_lt.mp c_26)⟩)) (show 0 ≤ cx ∧ cx ≤ 16 from ⟨((k_64 (a := cx) (l := 0) (h := 16) (by decide) (by decide)).mp c_21).1, ((k_64 (a := cx) (l := 0) (h := 16) (by decide) (by decide)).mp c_21).2⟩) (c_18) (c_10) (k_u9_mk hh1 c_12 c_15) (hh9)) (cwV 4 hts (kGV wd_818 wd_815 wd_816 wd_817 wd_5) rfl rfl rfl (by decide +kernel) ⟨Nat.le_of_ble_eq_true rfl, Nat.le_of_ble_eq_true rfl⟩) (k_preV (ci := 11) (q0 := 0) hK hPc hDc hN rfl rfl) rfl rfl hl.1 rfl (lv_room (Nat.le_of_ble_eq_true rfl)) dX12_laugh_50 ⟨by decide +kernel, by decide +kernel⟩) hS (fun q _ h => hFc q h) hFc (fun r_28 u₀ t₀ H1 locs ht hvm hw hB hz1 hk1 hS => ?_)
          obtain ⟨g_29, ga_30, gl_31, gb_32, gp_33⟩ := u₀
          obtain ⟨hP1, hK1, hD1⟩ := hB
          rw [ht] at hP1
          have hJ := k_jn (wr := [(kAI vTy cI 3 qTy), (kAI vBy cI 120 qBy)]) (wt := [(kAI vTy cI 3 qTy), (kAI vBy cI 120 qBy), (kX12 hm vFo vSi vIt vMo la vBy vTy (g_2 0) vMi (g_2 1) vPs (g_2 2) vGs fn vFt le vTo (g_29 0) (g_29 1) (g_29 2) (g_29 5) (g_29 3) (g_29 4) vPr vSt vFn sn vSg vAl dr), (kAI vMi cI 24 (ga_3 0)), (kAI vPs cI 32 (ga_3 1)), (kAI vGs cI 16 (ga_3 2)), (kAI vTo cI 96 (ga_30 0)), (kAI vPr cI 2 (ga_30 1)), (kAI vSt cI 2 (ga_30 2)), (kAI vFn cI 2 (ga_30 3)), (kAI vFt cI 32 qFt)]) hP hD hC [5, 6] rfl (by decide +kernel) (by decide +kernel) hk1 hFc hP1 hD1 rfl
          clear hP hD hPc hDc hFc hC hP1 hD1 hK1 hz1 hk1 hvm ht
          obtain ⟨hP, hD⟩ := hJ
          generalize H1 = H at hP hS ⊢
          try dsimp only at hw
          obtain ⟨c_34, c_35, c_36, c_37, c_38, c_39⟩ := hw
          rw [c_39] at hP hD
          replace hP := k_w2 (wt := [(kAI vTy cI 3 qTy), (kAI vBy cI 120 qBy), (kX12 hm vFo vSi vIt vMo la vBy vTy (g_2 0) vMi (g_2 1) vPs (g_2 2) vGs fn vFt le vTo (g_29 0) (g_29 1) (g_29 2) 16777215 (g_29 3) (g_29 4) vPr vSt vFn sn vSg vAl dr), (kAI vMi cI 24 (ga_3 0)), (kAI vPs cI 32 (ga_3 1)), (kAI vGs cI 16 (ga_3 2)), (kAI vTo cI 96 (ga_30 0)), (kAI vPr cI 2 (ga_30 1)), (kAI vSt cI 2 (ga_30 2)), (kAI vFn cI 2 (ga_30 3)), (kAI vFt cI 32 qFt)]) hP hD rfl
          replace hD := hP.2
          replace hP := hP.1
          refine lv_goto (tgt := 61) hx₀ hb dX12_laugh_53 (by decide) ?_
          obtain ⟨hP9, hD9⟩ := k_c2 (wc := [(kX12 hm vFo vSi vIt vMo la vBy vTy (g_2 0) vMi (g_2 1) vPs (g_2 2) vGs fn vFt le vTo (g_29 0) (g_29 1) (g_29 2) 16777215 (g_29 3) (g_29 4) vPr vSt vFn sn vSg vAl dr), (kAI vTy cI 3 qTy), (kAI vBy cI 120 qBy), (kAI vMi cI 24 (ga_3 0)), (kAI vPs cI 32 (ga_3 1)), (kAI vGs cI 16 (ga_3 2)), (kAI vTo cI 96 (ga_30 0)), (kAI vPr cI 2 (ga_30 1)), (kAI vSt cI 2 (ga_30 2)), (kAI vFn cI 2 (ga_30 3)), (kAI vFt cI 32 qFt)]) hP hD [2, 0, 1, 3, 4, 5, 6, 7, 8, 9, 10] (by decide +kernel) rfl
          exact W.lret (v := r_28) hx₀ hb hr (fun t₀ ht hW => ⟨⟨r_28, (k_fn [(g_2 0), (g_2 1), (g_2 2), (g_29 0), (g_29 1), (g_29 2), (g_29 3), (g_29 4), (16777215 : Int32)], k_fa [(ga_3 0), (ga_3 1), (ga_3 2), ga_30 0, ga_30 1, ga_30 2, ga_30 3], k_fl [], k_fL [], k_fp []), rfl, ⟨(c_34.trans (if_pos ⟨⟨show 0 ≤ cx ∧ cx ≤ 16 from ⟨((k_64 (a := cx) (l := 0) (h := 16) (by decide) (by decide)).mp c_21).1, ((k_64 (a := cx) (l := 0) (h := 16) (by decide) (by decide)).mp c_21).2⟩, c_23, c_25⟩, kTw_10 c_7 c_18 (Int32.not_lt.mp c_26)⟩).symm), c_7, c_8, c_9, c_35, c_36, c_37, c_38, c_10, c_11, c_12, c_13, c_14, c_15, c_16, rfl⟩, by rw [ht]; exact hP9, va_K.moved hW.alike hK, hD9⟩, hS.F ht⟩) hS.2.2 dX12_laugh_61
      rw [if_neg c_25] at hw
      refine k_topi (v := 0) hw ?_
      refine lv_if_eq (tgt := 56) hx₀ hb dX12_laugh_34 (by decide) (fun _ => ?_) (fun c9 => absurd (by decide +kernel) c9)
      refine lv_bipush (v := (-2)) hx₀ hb dX12_laugh_56 (by decide +kernel) ?_
      obtain ⟨hPc, hDc, hFc, hC⟩ := k_cw (wc := []) hP hD hS hA [] (by decide +kernel) rfl
      refine va_calll (va_runS (As := [.int (-2)]) (rest := []) ⟨hx₀, hb, hml, hown, hts⟩ (c_no2 l dC dI cI cJ cQ H.size ) (va_cwS 1 hts (kGS wd_828 wd_826 wd_827 wd_5) rfl rfl rfl (by decide +kernel) ⟨Nat.le_of_ble_eq_true rfl, Nat.le_of_ble_eq_true rfl⟩) (k_preS hK hPc hDc hN) rfl rfl hl.1 rfl (lv_room (Nat.le_of_ble_eq_true rfl)) dX12_laugh_58 ⟨by decide +kernel, by decide +kernel⟩) hS (fun q _ h => hFc q h) hFc (fun r_40 u₀ t₀ H1 locs ht hvm hw hB hz1 hk1 hS => ?_)
      obtain ⟨hP1, hK1, hD1⟩ := hB
      rw [ht] at hP1
      have hJ := k_jn (wr := [(kAI vTo cI 96 qTo), (kAI vPr cI 2 qPr), (kAI vSt cI 2 qSt), (kAI vFn cI 2 qFn), (kAI vFt cI 32 qFt), (kAI vTy cI 3 qTy), (kAI vBy cI 120 qBy), (kAI vPs cI 32 (ga_3 1)), (kAI vGs cI 16 (ga_3 2)), (kAI vMi cI 24 (ga_3 0)), (kX12 hm vFo vSi vIt vMo la vBy vTy (g_2 0) vMi (g_2 1) vPs (g_2 2) vGs fn vFt le vTo kn fe en ca an co vPr vSt vFn sn vSg vAl dr)]) (wt := [(kAI vTo cI 96 qTo), (kAI vPr cI 2 qPr), (kAI vSt cI 2 qSt), (kAI vFn cI 2 qFn), (kAI vFt cI 32 qFt), (kAI vTy cI 3 qTy), (kAI vBy cI 120 qBy), (kAI vPs cI 32 (ga_3 1)), (kAI vGs cI 16 (ga_3 2)), (kAI vMi cI 24 (ga_3 0)), (kX12 hm vFo vSi vIt vMo la vBy vTy (g_2 0) vMi (g_2 1) vPs (g_2 2) vGs fn vFt le vTo kn fe en ca an co vPr vSt vFn sn vSg vAl dr)]) hP hD hC [0, 1, 2, 3, 4, 5, 6, 7, 8, 9, 10] rfl (by decide +kernel) (by decide +kernel) hk1 hFc hP1 hD1 rfl
      clear hP hD hPc hDc hFc hC hP1 hD1 hK1 hz1 hk1 hvm ht
      obtain ⟨hP, hD⟩ := hJ
      generalize H1 = H at hP hS ⊢
      try dsimp only at hw
      refine k_topl (v := (-9223372036854775806)) hw ?_
      obtain ⟨hP9, hD9⟩ := k_c2 (wc := [(kX12 hm vFo vSi vIt vMo la vBy vTy (g_2 0) vMi (g_2 1) vPs (g_2 2) vGs fn vFt le vTo kn fe en ca an co vPr vSt vFn sn vSg vAl dr), (kAI vTy cI 3 qTy), (kAI vBy cI 120 qBy), (kAI vMi cI 24 (ga_3 0)), (kAI vPs cI 32 (ga_3 1)), (kAI vGs cI 16 (ga_3 2)), (kAI vTo cI 96 qTo), (kAI vPr cI 2 qPr), (kAI vSt cI 2 qSt), (kAI vFn cI 2 qFn), (kAI vFt cI 32 qFt)]) hP hD [10, 5, 6, 9, 7, 8, 0, 1, 2, 3, 4] (by decide +kernel) rfl
      exact W.lret (v := (-9223372036854775806)) hx₀ hb hr (fun t₀ ht hW => ⟨⟨(-9223372036854775806), (k_fn [(g_2 0), (g_2 1), (g_2 2), kn, fe, en, an, co, ca], k_fa [(ga_3 0), ga_3 1, ga_3 2, qTo, qPr, qSt, qFn], k_fl [], k_fL [], k_fp []), rfl, ⟨(if_neg (fun z => c_25 z.1.2.2)).symm, c_7, c_8, c_9, hh3, hh4, hh5, hh6, c_10, c_11, c_12, c_13, c_14, c_15, c_16, hh8⟩, by rw [ht]; exact hP9, va_K.moved hW.alike hK, hD9⟩, hS.F ht⟩) hS.2.2 dX12_laugh_61
    rw [if_neg c_23] at hw
    refine k_topi (v := 0) hw ?_
    refine lv_if_eq (tgt := 56) hx₀ hb dX12_laugh_27 (by decide) (fun _ => ?_) (fun c9 => absurd (by decide +kernel) c9)
    refine lv_bipush (v := (-2)) hx₀ hb dX12_laugh_56 (by decide +kernel) ?_
    obtain ⟨hPc, hDc, hFc, hC⟩ := k_cw (wc := []) hP hD hS hA [] (by decide +kernel) rfl
    refine va_calll (va_runS (As := [.int (-2)]) (rest := []) ⟨hx₀, hb, hml, hown, hts⟩ (c_no2 l dC dI cI cJ cQ H.size ) (va_cwS 1 hts (kGS wd_828 wd_826 wd_827 wd_5) rfl rfl rfl (by decide +kernel) ⟨Nat.le_of_ble_eq_true rfl, Nat.le_of_ble_eq_true rfl⟩) (k_preS hK hPc hDc hN) rfl rfl hl.1 rfl (lv_room (Nat.le_of_ble_eq_true rfl)) dX12_laugh_58 ⟨by decide +kernel, by decide +kernel⟩) hS (fun q _ h => hFc q h) hFc (fun r_41 u₀ t₀ H1 locs ht hvm hw hB hz1 hk1 hS => ?_)
    obtain ⟨hP1, hK1, hD1⟩ := hB
    rw [ht] at hP1
    have hJ := k_jn (wr := [(kAI vTo cI 96 qTo), (kAI vPr cI 2 qPr), (kAI vSt cI 2 qSt), (kAI vFn cI 2 qFn), (kAI vFt cI 32 qFt), (kAI vTy cI 3 qTy), (kAI vBy cI 120 qBy), (kAI vPs cI 32 (ga_3 1)), (kAI vGs cI 16 (ga_3 2)), (kAI vMi cI 24 (ga_3 0)), (kX12 hm vFo vSi vIt vMo la vBy vTy (g_2 0) vMi (g_2 1) vPs (g_2 2) vGs fn vFt le vTo kn fe en ca an co vPr vSt vFn sn vSg vAl dr)]) (wt := [(kAI vTo cI 96 qTo), (kAI vPr cI 2 qPr), (kAI vSt cI 2 qSt), (kAI vFn cI 2 qFn), (kAI vFt cI 32 qFt), (kAI vTy cI 3 qTy), (kAI vBy cI 120 qBy), (kAI vPs cI 32 (ga_3 1)), (kAI vGs cI 16 (ga_3 2)), (kAI vMi cI 24 (ga_3 0)), (kX12 hm vFo vSi vIt vMo la vBy vTy (g_2 0) vMi (g_2 1) vPs (g_2 2) vGs fn vFt le vTo kn fe en ca an co vPr vSt vFn sn vSg vAl dr)]) hP hD hC [0, 1, 2, 3, 4, 5, 6, 7, 8, 9, 10] rfl (by decide +kernel) (by decide +kernel) hk1 hFc hP1 hD1 rfl
    clear hP hD hPc hDc hFc hC hP1 hD1 hK1 hz1 hk1 hvm ht
    obtain ⟨hP, hD⟩ := hJ
    generalize H1 = H at hP hS ⊢
    try dsimp only at hw
    refine k_topl (v := (-9223372036854775806)) hw ?_
    obtain ⟨hP9, hD9⟩ := k_c2 (wc := [(kX12 hm vFo vSi vIt vMo la vBy vTy (g_2 0) vMi (g_2 1) vPs (g_2 2) vGs fn vFt le vTo kn fe en ca an co vPr vSt vFn sn vSg vAl dr), (kAI vTy cI 3 qTy), (kAI vBy cI 120 qBy), (kAI vMi cI 24 (ga_3 0)), (kAI vPs cI 32 (ga_3 1)), (kAI vGs cI 16 (ga_3 2)), (kAI vTo cI 96 qTo), (kAI vPr cI 2 qPr), (kAI vSt cI 2 qSt), (kAI vFn cI 2 qFn), (kAI vFt cI 32 qFt)]) hP hD [10, 5, 6, 9, 7, 8, 0, 1, 2, 3, 4] (by decide +kernel) rfl
    exact W.lret (v := (-9223372036854775806)) hx₀ hb hr (fun t₀ ht hW => ⟨⟨(-9223372036854775806), (k_fn [(g_2 0), (g_2 1), (g_2 2), kn, fe, en, an, co, ca], k_fa [(ga_3 0), ga_3 1, ga_3 2, qTo, qPr, qSt, qFn], k_fl [], k_fL [], k_fp []), rfl, ⟨(if_neg (fun z => c_23 z.1.2.1)).symm, c_7, c_8, c_9, hh3, hh4, hh5, hh6, c_10, c_11, c_12, c_13, c_14, c_15, c_16, hh8⟩, by rw [ht]; exact hP9, va_K.moved hW.alike hK, hD9⟩, hS.F ht⟩) hS.2.2 dX12_laugh_61
  rw [if_neg c_21] at hw
  refine k_topi (v := 0) hw ?_
  refine lv_if_eq (tgt := 56) hx₀ hb dX12_laugh_19 (by decide) (fun _ => ?_) (fun c9 => absurd (by decide +kernel) c9)
  refine lv_bipush (v := (-2)) hx₀ hb dX12_laugh_56 (by decide +kernel) ?_
  obtain ⟨hPc, hDc, hFc, hC⟩ := k_cw (wc := []) hP hD hS hA [] (by decide +kernel) rfl
  refine va_calll (va_runS (As := [.int (-2)]) (rest := []) ⟨hx₀, hb, hml, hown, hts⟩ (c_no2 l dC dI cI cJ cQ H.size ) (va_cwS 1 hts (kGS wd_828 wd_826 wd_827 wd_5) rfl rfl rfl (by decide +kernel) ⟨Nat.le_of_ble_eq_true rfl, Nat.le_of_ble_eq_true rfl⟩) (k_preS hK hPc hDc hN) rfl rfl hl.1 rfl (lv_room (Nat.le_of_ble_eq_true rfl)) dX12_laugh_58 ⟨by decide +kernel, by decide +kernel⟩) hS (fun q _ h => hFc q h) hFc (fun r_42 u₀ t₀ H1 locs ht hvm hw hB hz1 hk1 hS => ?_)
  obtain ⟨hP1, hK1, hD1⟩ := hB
  rw [ht] at hP1
  have hJ := k_jn (wr := [(kAI vTo cI 96 qTo), (kAI vPr cI 2 qPr), (kAI vSt cI 2 qSt), (kAI vFn cI 2 qFn), (kAI vFt cI 32 qFt), (kAI vTy cI 3 qTy), (kAI vBy cI 120 qBy), (kAI vPs cI 32 (ga_3 1)), (kAI vGs cI 16 (ga_3 2)), (kX12 hm vFo vSi vIt vMo la vBy vTy (g_2 0) vMi (g_2 1) vPs (g_2 2) vGs fn vFt le vTo kn fe en ca an co vPr vSt vFn sn vSg vAl dr), (kAI vMi cI 24 (ga_3 0))]) (wt := [(kAI vTo cI 96 qTo), (kAI vPr cI 2 qPr), (kAI vSt cI 2 qSt), (kAI vFn cI 2 qFn), (kAI vFt cI 32 qFt), (kAI vTy cI 3 qTy), (kAI vBy cI 120 qBy), (kAI vPs cI 32 (ga_3 1)), (kAI vGs cI 16 (ga_3 2)), (kX12 hm vFo vSi vIt vMo la vBy vTy (g_2 0) vMi (g_2 1) vPs (g_2 2) vGs fn vFt le vTo kn fe en ca an co vPr vSt vFn sn vSg vAl dr), (kAI vMi cI 24 (ga_3 0))]) hP hD hC [0, 1, 2, 3, 4, 5, 6, 7, 8, 9, 10] rfl (by decide +kernel) (by decide +kernel) hk1 hFc hP1 hD1 rfl
  clear hP hD hPc hDc hFc hC hP1 hD1 hK1 hz1 hk1 hvm ht
  obtain ⟨hP, hD⟩ := hJ
  generalize H1 = H at hP hS ⊢
  try dsimp only at hw
  refine k_topl (v := (-9223372036854775806)) hw ?_
  obtain ⟨hP9, hD9⟩ := k_c2 (wc := [(kX12 hm vFo vSi vIt vMo la vBy vTy (g_2 0) vMi (g_2 1) vPs (g_2 2) vGs fn vFt le vTo kn fe en ca an co vPr vSt vFn sn vSg vAl dr), (kAI vTy cI 3 qTy), (kAI vBy cI 120 qBy), (kAI vMi cI 24 (ga_3 0)), (kAI vPs cI 32 (ga_3 1)), (kAI vGs cI 16 (ga_3 2)), (kAI vTo cI 96 qTo), (kAI vPr cI 2 qPr), (kAI vSt cI 2 qSt), (kAI vFn cI 2 qFn), (kAI vFt cI 32 qFt)]) hP hD [9, 5, 6, 10, 7, 8, 0, 1, 2, 3, 4] (by decide +kernel) rfl
  exact W.lret (v := (-9223372036854775806)) hx₀ hb hr (fun t₀ ht hW => ⟨⟨(-9223372036854775806), (k_fn [(g_2 0), (g_2 1), (g_2 2), kn, fe, en, an, co, ca], k_fa [(ga_3 0), ga_3 1, ga_3 2, qTo, qPr, qSt, qFn], k_fl [], k_fL [], k_fp []), rfl, ⟨(if_neg (fun z => (show ¬ (0 ≤ cx ∧ cx ≤ 16) from (fun z => (fun z => c_21 ((k_64 (a := cx) (l := 0) (h := 16) (by decide) (by decide)).mpr z)) (And.intro z.1 z.2))) z.1.1)).symm, c_7, c_8, c_9, hh3, hh4, hh5, hh6, c_10, c_11, c_12, c_13, c_14, c_15, c_16, hh8⟩, by rw [ht]; exact hP9, va_K.moved hW.alike hK, hD9⟩, hS.F ht⟩) hS.2.2 dX12_laugh_61
