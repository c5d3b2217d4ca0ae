theorem lf_e_pair__1 (a0 : Int32) (a1 : Int32) (a2 : Nat) (a3 : Int32) (a4 : Nat) (h0 : 0 ≤ a0) (h1 : (a1.toInt - a0.toInt).toNat = a2) (h2 : ¬ a1 ≤ a0) (h3 : 0 ≤ a3) (h4 : (a1.toInt - a3.toInt).toNat = a4) (h5 : a1 ≤ a3) : 0 ≤ (a0 + 1) := by
  first | rfl | assumption | decide | exact Or.inl rfl | (first | omega | (have hr0 := Int32.toInt_lt a0; have hs0 := Int32.le_toInt a0; have hr1 := Int32.toInt_lt a1; have hs1 := Int32.le_toInt a1; have hr2 := Int32.toInt_lt a3; have hs2 := Int32.le_toInt a3; simp only [Int64.toInt_add, Int64.toInt_sub, Int32.toInt_add, Int32.toInt_sub, Int32.toInt_mul, Int32.toInt_neg, Int64.le_iff_toInt_le, Int64.lt_iff_toInt_lt, Int32.le_iff_toInt_le, Int32.lt_iff_toInt_lt, ← Int32.toInt_inj, ← Int64.toInt_inj, Int32.toInt_toInt64, (show (0 : Int32).toInt = 0 from by decide), (show (0 : Int64).toInt = 0 from by decide), (show (1 : Int32).toInt = 1 from by decide), (show (1 : Int64).toInt = 1 from by decide)] at *; (first | omega | ((try simp (disch := omega) only [k_bm64] at *); (try simp (disch := omega) only [k_bm] at *); (try simp (disch := omega) only [k_bm] at *); omega) | (simp only [Int.bmod] at *; omega))))
theorem lf_e_pair__2 (a0 : Int32) (a1 : Int32) (a2 : Nat) (a3 : Int32) (a4 : Nat) (h0 : 0 ≤ a0) (h1 : (a1.toInt - a0.toInt).toNat = a2) (h2 : ¬ a1 ≤ a0) (h3 : 0 ≤ a3) (h4 : (a1.toInt - a3.toInt).toNat = a4) (h5 : a1 ≤ a3) : (a1.toInt - (a0 + 1).toInt).toNat < a2 := by
  first | rfl | assumption | decide | exact Or.inl rfl | (first | omega | (have hr0 := Int32.toInt_lt a0; have hs0 := Int32.le_toInt a0; have hr1 := Int32.toInt_lt a1; have hs1 := Int32.le_toInt a1; have hr2 := Int32.toInt_lt a3; have hs2 := Int32.le_toInt a3; simp only [Int64.toInt_add, Int64.toInt_sub, Int32.toInt_add, Int32.toInt_sub, Int32.toInt_mul, Int32.toInt_neg, Int64.le_iff_toInt_le, Int64.lt_iff_toInt_lt, Int32.le_iff_toInt_le, Int32.lt_iff_toInt_lt, ← Int32.toInt_inj, ← Int64.toInt_inj, Int32.toInt_toInt64, (show (0 : Int32).toInt = 0 from by decide), (show (0 : Int64).toInt = 0 from by decide), (show (1 : Int32).toInt = 1 from by decide), (show (1 : Int64).toInt = 1 from by decide)] at *; (first | omega | ((try simp (disch := omega) only [k_bm64] at *); (try simp (disch := omega) only [k_bm] at *); (try simp (disch := omega) only [k_bm] at *); omega) | (simp only [Int.bmod] at *; omega))))
theorem lf_e_pair__3 (a0 : Int32) (a1 : Int32) (a2 : Nat) (a3 : Int32) (a4 : Nat) (h0 : 0 ≤ a0) (h1 : (a1.toInt - a0.toInt).toNat = a2) (h2 : ¬ a1 ≤ a0) (h3 : 0 ≤ a3) (h4 : (a1.toInt - a3.toInt).toNat = a4) (h5 : ¬ a1 ≤ a3) (h6 : a0 = a3) : 0 ≤ (a3 + 1) := by
  first | rfl | assumption | decide | exact Or.inl rfl | (first | omega | (have hr0 := Int32.toInt_lt a0; have hs0 := Int32.le_toInt a0; have hr1 := Int32.toInt_lt a1; have hs1 := Int32.le_toInt a1; have hr2 := Int32.toInt_lt a3; have hs2 := Int32.le_toInt a3; simp only [Int64.toInt_add, Int64.toInt_sub, Int32.toInt_add, Int32.toInt_sub, Int32.toInt_mul, Int32.toInt_neg, Int64.le_iff_toInt_le, Int64.lt_iff_toInt_lt, Int32.le_iff_toInt_le, Int32.lt_iff_toInt_lt, ← Int32.toInt_inj, ← Int64.toInt_inj, Int32.toInt_toInt64, (show (0 : Int32).toInt = 0 from by decide), (show (0 : Int64).toInt = 0 from by decide), (show (1 : Int32).toInt = 1 from by decide), (show (1 : Int64).toInt = 1 from by decide)] at *; (first | omega | ((try simp (disch := omega) only [k_bm64] at *); (try simp (disch := omega) only [k_bm] at *); (try simp (disch := omega) only [k_bm] at *); omega) | (simp only [Int.bmod] at *; omega))))
theorem lf_e_pair__4 (a0 : Int32) (a1 : Int32) (a2 : Nat) (a3 : Int32) (a4 : Nat) (h0 : 0 ≤ a0) (h1 : (a1.toInt - a0.toInt).toNat = a2) (h2 : ¬ a1 ≤ a0) (h3 : 0 ≤ a3) (h4 : (a1.toInt - a3.toInt).toNat = a4) (h5 : ¬ a1 ≤ a3) (h6 : a0 = a3) : (a1.toInt - (a3 + 1).toInt).toNat < a4 := by
  first | rfl | assumption | decide | exact Or.inl rfl | (first | omega | (have hr0 := Int32.toInt_lt a0; have hs0 := Int32.le_toInt a0; have hr1 := Int32.toInt_lt a1; have hs1 := Int32.le_toInt a1; have hr2 := Int32.toInt_lt a3; have hs2 := Int32.le_toInt a3; simp only [Int64.toInt_add, Int64.toInt_sub, Int32.toInt_add, Int32.toInt_sub, Int32.toInt_mul, Int32.toInt_neg, Int64.le_iff_toInt_le, Int64.lt_iff_toInt_lt, Int32.le_iff_toInt_le, Int32.lt_iff_toInt_lt, ← Int32.toInt_inj, ← Int64.toInt_inj, Int32.toInt_toInt64, (show (0 : Int32).toInt = 0 from by decide), (show (0 : Int64).toInt = 0 from by decide), (show (1 : Int32).toInt = 1 from by decide), (show (1 : Int64).toInt = 1 from by decide)] at *; (first | omega | ((try simp (disch := omega) only [k_bm64] at *); (try simp (disch := omega) only [k_bm] at *); (try simp (disch := omega) only [k_bm] at *); omega) | (simp only [Int.bmod] at *; omega))))
theorem lf_e_pair__5 (a0 : Int32) (a1 : Int32) (a2 : Nat) (a3 : Int32) (a4 : Nat) (h0 : 0 ≤ a0) (h1 : (a1.toInt - a0.toInt).toNat = a2) (h2 : ¬ a1 ≤ a0) (h3 : 0 ≤ a3) (h4 : (a1.toInt - a3.toInt).toNat = a4) (h5 : ¬ a1 ≤ a3) (h6 : ¬ a0 = a3) : 0 ≤ (a3 + 1) := by
  first | rfl | assumption | decide | exact Or.inl rfl | (first | omega | (have hr0 := Int32.toInt_lt a0; have hs0 := Int32.le_toInt a0; have hr1 := Int32.toInt_lt a1; have hs1 := Int32.le_toInt a1; have hr2 := Int32.toInt_lt a3; have hs2 := Int32.le_toInt a3; simp only [Int64.toInt_add, Int64.toInt_sub, Int32.toInt_add, Int32.toInt_sub, Int32.toInt_mul, Int32.toInt_neg, Int64.le_iff_toInt_le, Int64.lt_iff_toInt_lt, Int32.le_iff_toInt_le, Int32.lt_iff_toInt_lt, ← Int32.toInt_inj, ← Int64.toInt_inj, Int32.toInt_toInt64, (show (0 : Int32).toInt = 0 from by decide), (show (0 : Int64).toInt = 0 from by decide), (show (1 : Int32).toInt = 1 from by decide), (show (1 : Int64).toInt = 1 from by decide)] at *; (first | omega | ((try simp (disch := omega) only [k_bm64] at *); (try simp (disch := omega) only [k_bm] at *); (try simp (disch := omega) only [k_bm] at *); omega) | (simp only [Int.bmod] at *; omega))))
theorem lf_e_pair__6 (a0 : Int32) (a1 : Int32) (a2 : Nat) (a3 : Int32) (a4 : Nat) (h0 : 0 ≤ a0) (h1 : (a1.toInt - a0.toInt).toNat = a2) (h2 : ¬ a1 ≤ a0) (h3 : 0 ≤ a3) (h4 : (a1.toInt - a3.toInt).toNat = a4) (h5 : ¬ a1 ≤ a3) (h6 : ¬ a0 = a3) : (a1.toInt - (a3 + 1).toInt).toNat < a4 := by
  first | rfl | assumption | decide | exact Or.inl rfl | (first | omega | (have hr0 := Int32.toInt_lt a0; have hs0 := Int32.le_toInt a0; have hr1 := Int32.toInt_lt a1; have hs1 := Int32.le_toInt a1; have hr2 := Int32.toInt_lt a3; have hs2 := Int32.le_toInt a3; simp only [Int64.toInt_add, Int64.toInt_sub, Int32.toInt_add, Int32.toInt_sub, Int32.toInt_mul, Int32.toInt_neg, Int64.le_iff_toInt_le, Int64.lt_iff_toInt_lt, Int32.le_iff_toInt_le, Int32.lt_iff_toInt_lt, ← Int32.toInt_inj, ← Int64.toInt_inj, Int32.toInt_toInt64, (show (0 : Int32).toInt = 0 from by decide), (show (0 : Int64).toInt = 0 from by decide), (show (1 : Int32).toInt = 1 from by decide), (show (1 : Int64).toInt = 1 from by decide)] at *; (first | omega | ((try simp (disch := omega) only [k_bm64] at *); (try simp (disch := omega) only [k_bm] at *); (try simp (disch := omega) only [k_bm] at *); omega) | (simp only [Int.bmod] at *; omega))))
set_option maxHeartbeats 4000000 in
set_option maxRecDepth 100000 in
theorem e_pair_ (l : Launch) (dC : Nat → ClassId) (dI : Nat → Nat → Nat) (cI cJ cQ : ClassId) (sz : Nat) (hx : Nat) (f1 : Int32) (w1 : Int32) (aLa : Nat) (aPa : Nat) (aGe : Nat) (aFl : Nat) (aTr : Nat) (aBe : Nat) (aLu : Nat) (aLo : Nat) (vSf : Nat) (vSm : Nat) (vCo : Nat) (vSh : Nat) (xs : Int32) (xl : Int32) (xf : Int32) (gL : Nat) (gR : Nat) (lf : Nat) (rt : Nat) (tgo : Int32) (tca : Int32) (tki : Int32) (tso : Int32) (tbe : Int32) (twe : Int32) (tle : Int32) (tan : Int32) (tco : Int32) (ten : Int32) (u0 : Int32) (u1 : Int32) (u2 : Int32) (u3 : Int32) (v0 : Int32) (v1 : Int32) (v2 : Int32) (v3 : Int32) (vLa : Nat) (l4 : Int32) (a4 : Int32) (n4 : Int32) (f4 : Nat → Int32) (vPa : Nat) (l7 : Int32) (a7 : Int32) (n7 : Int32) (f7 : Nat → Int32) (vGe : Nat) (l2 : Int32) (a2 : Int32) (n2 : Int32) (f2 : Nat → Int32) (vFl : Nat) (xn : Int32) (ff : Nat → Int32) (hh0 : 0 ≤ n4 ∧ n4 ≤ 24) (hh1 : 0 ≤ xn ∧ xn ≤ 8) : Met l yX11_pair (kW yX11_pair cX11_pair 8 (some .int)) { frames := 4, cells := 0, slots := 0, locals := 90 } (kPre dC dI cI cJ cQ sz [.ref hx, .int f1, .int w1] [(kX11 hx aLa aPa aGe aFl aTr aBe aLu aLo vSf vSm vCo vSh xs xl xf), (kX10 aTr aLa aPa aGe gL gR lf rt tgo tca tki tso tbe twe tle tan tco ten), (kX3 gL u0 u1 u2 u3), (kX3 gR v0 v1 v2 v3), (kX4 aLa vLa l4 a4 n4), (kAI vLa cI 24 f4), (kX7 aPa vPa l7 a7 n7), (kAI vPa cI 39 f7), (kX2 aGe vGe l2 a2 n2), (kAI vGe cI 23 f2), (kX1 aFl vFl xn), (kAI vFl cI 32 ff)]) (va_Qi (fun (r : Int32) (u : kS) => (r = if (0 ≤ f1 ∧ f1 < xn) ∧ 0 ≤ w1 ∧ w1 ≤ 1 then (if w1 = 0 then (kPo (fun x1 x2 => kOC f4 f7 f2 n4 n7 n2 xl (kIt xn ff f1 0) x1 x2 (kIt xn ff f1 3) (kAt 39 f7 ((5 * (kIt xn ff f1 0)) + 1))) n2 (kfu n2 0) 0 (-1) (-1)).2 else (kPo (fun x1 x2 => kOC f4 f7 f2 n4 n7 n2 xl (kIt xn ff f1 0) x1 x2 (kIt xn ff f1 3) (kAt 39 f7 ((5 * (kIt xn ff f1 0)) + 1))) n2 (kfu n2 0) 0 (-1) (-1)).1) else -2)) (fun (u : kS) t₀ => kB dC dI cI cJ cQ (va_A [(kX11 hx aLa aPa aGe aFl aTr aBe aLu aLo vSf vSm vCo vSh xs xl xf), (kX10 aTr aLa aPa aGe gL gR lf rt tgo tca tki tso tbe twe tle tan tco ten), (kX3 gL u0 u1 u2 u3), (kX3 gR v0 v1 v2 v3), (kX4 aLa vLa l4 a4 n4), (kAI vLa cI 24 f4), (kX7 aPa vPa l7 a7 n7), (kAI vPa cI 39 f7), (kX2 aGe vGe l2 a2 n2), (kAI vGe cI 23 f2), (kX1 aFl vFl xn), (kAI vFl cI 32 ff)] sz) [(kX11 hx aLa aPa aGe aFl aTr aBe aLu aLo vSf vSm vCo vSh xs xl xf), (kX10 aTr aLa aPa aGe gL gR (u.2.2.2.2 0) (u.2.2.2.2 1) (u.1 8) (u.1 9) (u.1 10) (u.1 11) (u.1 12) (u.1 13) (u.1 14) (u.1 15) (u.1 16) (u.1 17)), (kX3 gL (u.1 0) (u.1 1) (u.1 2) (u.1 3)), (kX3 gR (u.1 4) (u.1 5) (u.1 6) (u.1 7)), (kX4 aLa vLa l4 a4 n4), (kAI vLa cI 24 f4), (kX7 aPa vPa l7 a7 n7), (kAI vPa cI 39 f7), (kX2 aGe vGe l2 a2 n2), (kAI vGe cI 23 f2), (kX1 aFl vFl xn), (kAI vFl cI 32 ff)] t₀) (va_A [(kX11 hx aLa aPa aGe aFl aTr aBe aLu aLo vSf vSm vCo vSh xs xl xf), (kX10 aTr aLa aPa aGe gL gR lf rt tgo tca tki tso tbe twe tle tan tco ten), (kX3 gL u0 u1 u2 u3), (kX3 gR v0 v1 v2 v3), (kX4 aLa vLa l4 a4 n4), (kAI vLa cI 24 f4), (kX7 aPa vPa l7 a7 n7), (kAI vPa cI 39 f7), (kX2 aGe vGe l2 a2 n2), (kAI vGe cI 23 f2), (kX1 aFl vFl xn), (kAI vFl cI 32 ff)] sz)) 0 0 (va_A [(kX11 hx aLa aPa aGe aFl aTr aBe aLu aLo vSf vSm vCo vSh xs xl xf), (kX10 aTr aLa aPa aGe gL gR lf rt tgo tca tki tso tbe twe tle tan tco ten), (kX3 gL u0 u1 u2 u3), (kX3 gR v0 v1 v2 v3), (kX4 aLa vLa l4 a4 n4), (kAI vLa cI 24 f4), (kX7 aPa vPa l7 a7 n7), (kAI vPa cI 39 f7), (kX2 aGe vGe l2 a2 n2), (kAI vGe cI 23 f2), (kX1 aFl vFl xn), (kAI vFl cI 32 ff)] sz) := by
  refine Met.ofW (cc := cX11_pair) (maxL := 8) (ret := (some .int)) (by decide) rfl ?_
  intro p₀ e₀ s₀ m₀ args below meth c₀ s₁ B hml hv₀
  obtain ⟨rfl, hsz, hP, hK, hD0, hN⟩ := hv₀
  have hx₀ := B.exec
  have hb := B.bytes
  have hr := B.returns
  have hts := atoms_spec (ws := (kW yX11_pair cX11_pair 8 (some .int))) B.pre
  have hts := fun w h => hts w (List.mem_cons_of_mem _ h)
  have hown : s₀.vm.findClass RX11 = some m₀.cls := findClass_of_methodNamed B.named
  have hlocks := B.notSynchronized
  subst hsz
  have hD := hD0.self (sz := s₀.heap.size)
  generalize hAe : va_A [(kX11 hx aLa aPa aGe aFl aTr aBe aLu aLo vSf vSm vCo vSh xs xl xf), (kX10 aTr aLa aPa aGe gL gR lf rt tgo tca tki tso tbe twe tle tan tco ten), (kX3 gL u0 u1 u2 u3), (kX3 gR v0 v1 v2 v3), (kX4 aLa vLa l4 a4 n4), (kAI vLa cI 24 f4), (kX7 aPa vPa l7 a7 n7), (kAI vPa cI 39 f7), (kX2 aGe vGe l2 a2 n2), (kAI vGe cI 23 f2), (kX1 aFl vFl xn), (kAI vFl cI 32 ff)] s₀.heap.size = A at hD ⊢
  have hA : ∀ q : Nat, s₀.heap.size ≤ q → A q := fun q h => by rw [← hAe]; exact Or.inr h
  have hS : va_S A s₀.heap s₀.heap [] := va_S.rf
  have hP : va_P (dC, dI) vwCl [(kX11 hx aLa aPa aGe aFl aTr aBe aLu aLo vSf vSm vCo vSh xs xl xf), (kX10 aTr aLa aPa aGe gL gR lf rt tgo tca tki tso tbe twe tle tan tco ten), (kX3 gL u0 u1 u2 u3), (kX3 gR v0 v1 v2 v3), (kX4 aLa vLa l4 a4 n4), (kAI vLa cI 24 f4), (kX7 aPa vPa l7 a7 n7), (kAI vPa cI 39 f7), (kX2 aGe vGe l2 a2 n2), (kAI vGe cI 23 f2), (kX1 aFl vFl xn), (kAI vFl cI 32 ff)] s₀.heap := hP
  have hl := lv_entry ([.ref hx, .int f1, .int w1]) (n := 8) (Nat.le_of_ble_eq_true rfl)
  rw [lg_entry_eq]
  generalize (lg_sl ([.ref hx, .int f1, .int w1]) ++ List.replicate (8 - (lg_sl ([.ref hx, .int f1, .int w1])).length) Slot.unset).toArray = ls at hl ⊢
  have hl : lv_has ls 8 [(0, .ref hx), (1, .int f1), (2, .int w1)] := hl
  obtain ⟨H, hH⟩ : ∃ z : Heap, z = s₀.heap := ⟨_, rfl⟩
  rw [← hH] at hP
  have hS : va_S A s₀.heap H [] := by rw [hH]; exact hS
  refine k_heap hH ?_
  have hD : va_D A [(kX11 hx aLa aPa aGe aFl aTr aBe aLu aLo vSf vSm vCo vSh xs xl xf), (kX10 aTr aLa aPa aGe gL gR lf rt tgo tca tki tso tbe twe tle tan tco ten), (kX3 gL u0 u1 u2 u3), (kX3 gR v0 v1 v2 v3), (kX4 aLa vLa l4 a4 n4), (kAI vLa cI 24 f4), (kX7 aPa vPa l7 a7 n7), (kAI vPa cI 39 f7), (kX2 aGe vGe l2 a2 n2), (kAI vGe cI 23 f2), (kX1 aFl vFl xn), (kAI vFl cI 32 ff)] := hD
  obtain ⟨locs, hlo⟩ : ∃ z : List Loc, z = [] := ⟨_, rfl⟩
  rw [← hlo] at hS ⊢
  clear hlo hH hAe hD0
  refine lv_aload_n hx₀ hb dX11_pair_0 rfl (lv_at hl 0 rfl) ?_
  refine va_get (D := (dC, dI)) (ci := 10) (v := .ref aFl) (C := RX11) (T := TX11) (N := 15) hx₀ hb hts inlX11 hown hK hP 0 rfl rfl 3 (by decide) (hts (.fieldLink RX11 33 "BittenStick" "flights" "LBittenStick$Flights;") wd_27) (fun _ h9 => h9) rfl dX11_pair_1 ?_
  refine lv_iload_n hx₀ hb dX11_pair_4 rfl (lv_at hl 1 rfl) ?_
  obtain ⟨hPc, hDc, hFc, hC⟩ := k_cw (wc := [(kX1 aFl vFl xn)]) hP hD hS hA [10] (by decide +kernel) rfl
  refine va_calli (va_runV (As := [.int f1]) (rest := []) ⟨hx₀, hb, hml, hown, hts⟩ (j_fHas l dC dI cI cJ cQ H.size aFl f1 vFl xn) (cwV 1 hts (kGV wd_426 wd_423 wd_424 wd_425 wd_26) rfl rfl rfl (by decide +kernel) ⟨Nat.le_of_ble_eq_true rfl, Nat.le_of_ble_eq_true rfl⟩) (k_preV (ci := 1) (q0 := 0) hK hPc hDc hN rfl rfl) rfl rfl hl.1 rfl (lv_room (Nat.le_of_ble_eq_true rfl)) dX11_pair_5 ⟨by decide +kernel, by decide +kernel⟩) hS (fun q _ h => hFc q h) hFc (fun r_1 u₀ t₀ H1 locs ht hvm hw hB hz1 hk1 hS => ?_)
  obtain ⟨hP1, hK1, hD1⟩ := hB
  rw [ht] at hP1
  have hJ := k_jn (wr := [(kX11 hx aLa aPa aGe aFl aTr aBe aLu aLo vSf vSm vCo vSh xs xl xf), (kX10 aTr aLa aPa aGe gL gR lf rt tgo tca tki tso tbe twe tle tan tco ten), (kX3 gL u0 u1 u2 u3), (kX3 gR v0 v1 v2 v3), (kX4 aLa vLa l4 a4 n4), (kAI vLa cI 24 f4), (kX7 aPa vPa l7 a7 n7), (kAI vPa cI 39 f7), (kX2 aGe vGe l2 a2 n2), (kAI vGe cI 23 f2), (kAI vFl cI 32 ff)]) (wt := [(kX11 hx aLa aPa aGe aFl aTr aBe aLu aLo vSf vSm vCo vSh xs xl xf), (kX10 aTr aLa aPa aGe gL gR lf rt tgo tca tki tso tbe twe tle tan tco ten), (kX3 gL u0 u1 u2 u3), (kX3 gR v0 v1 v2 v3), (kX4 aLa vLa l4 a4 n4), (kAI vLa cI 24 f4), (kX7 aPa vPa l7 a7 n7), (kAI vPa cI 39 f7), (kX2 aGe vGe l2 a2 n2), (kAI vGe cI 23 f2), (kAI vFl cI 32 ff), (kX1 aFl vFl xn)]) hP hD hC [0, 1, 2, 3, 4, 5, 6, 7, 8, 9, 11] rfl (by decide +kernel) (by decide +kernel) hk1 hFc hP1 hD1 rfl
  clear hP hD hPc hDc hFc hC hP1 hD1 hK1 hz1 hk1 hvm ht
  obtain ⟨hP, hD⟩ := hJ
  generalize H1 = H at hP hS ⊢
  try dsimp only at hw
  by_cases c_2 : 0 ≤ f1 ∧ f1 < xn
  · rw [if_pos c_2] at hw
    refine k_topi (v := 1) hw ?_
    refine lv_if_eq (tgt := 20) hx₀ hb dX11_pair_8 (by decide) (fun c9 => absurd c9 (by decide +kernel)) (fun _ => ?_)
    refine lv_iload_n hx₀ hb dX11_pair_11 rfl (lv_at hl 2 rfl) ?_
    refine lv_if_lt (tgt := 20) hx₀ hb dX11_pair_12 (by decide) (fun c_3 => ?_) (fun c_3 => ?_)
    · refine lv_bipush (v := (-2)) hx₀ hb dX11_pair_20 (by decide +kernel) ?_
      obtain ⟨hP9, hD9⟩ := k_c2 (wc := [(kX11 hx aLa aPa aGe aFl aTr aBe aLu aLo vSf vSm vCo vSh xs xl xf), (kX10 aTr aLa aPa aGe gL gR lf rt tgo tca tki tso tbe twe tle tan tco ten), (kX3 gL u0 u1 u2 u3), (kX3 gR v0 v1 v2 v3), (kX4 aLa vLa l4 a4 n4), (kAI vLa cI 24 f4), (kX7 aPa vPa l7 a7 n7), (kAI vPa cI 39 f7), (kX2 aGe vGe l2 a2 n2), (kAI vGe cI 23 f2), (kX1 aFl vFl xn), (kAI vFl cI 32 ff)]) hP hD [0, 1, 2, 3, 4, 5, 6, 7, 8, 9, 11, 10] (by decide +kernel) rfl
      exact W.iret (v := (-2)) hx₀ hb hr (fun t₀ ht hW => ⟨⟨(-2), (k_fn [u0, u1, u2, u3, v0, v1, v2, v3, tgo, tca, tki, tso, tbe, twe, tle, tan, tco, ten], k_fa [], k_fl [], k_fL [], k_fp [lf, rt]), rfl, (if_neg (show ¬ ((0 ≤ f1 ∧ f1 < xn) ∧ 0 ≤ w1 ∧ w1 ≤ 1) from (fun z => (Int32.not_le.mpr c_3) z.2.1))).symm, by rw [ht]; exact hP9, va_K.moved hW.alike hK, hD9⟩, hS.F ht⟩) hS.2.2 dX11_pair_22
    · refine lv_iload_n hx₀ hb dX11_pair_15 rfl (lv_at hl 2 rfl) ?_
      refine lv_iconst (v := 1) hx₀ hb dX11_pair_16 (by decide +kernel) ?_
      refine lv_icmp_le (tgt := 23) hx₀ hb dX11_pair_17 (by decide) (fun c_4 => ?_) (fun c_4 => ?_)
      · refine lv_aload_n hx₀ hb dX11_pair_23 rfl (lv_at hl 0 rfl) ?_
        refine lv_iload_n hx₀ hb dX11_pair_24 rfl (lv_at hl 1 rfl) ?_
        obtain ⟨hPc, hDc, hFc, hC⟩ := k_cw (wc := [(kX11 hx aLa aPa aGe aFl aTr aBe aLu aLo vSf vSm vCo vSh xs xl xf), (kX10 aTr aLa aPa aGe gL gR lf rt tgo tca tki tso tbe twe tle tan tco ten), (kX3 gL u0 u1 u2 u3), (kX3 gR v0 v1 v2 v3), (kX4 aLa vLa l4 a4 n4), (kAI vLa cI 24 f4), (kX7 aPa vPa l7 a7 n7), (kAI vPa cI 39 f7), (kX2 aGe vGe l2 a2 n2), (kAI vGe cI 23 f2), (kX1 aFl vFl xn), (kAI vFl cI 32 ff)]) hP hD hS hA [0, 1, 2, 3, 4, 5, 6, 7, 8, 9, 11, 10] (by decide +kernel) rfl
        refine va_callv (va_runV (As := [.int f1]) (rest := []) ⟨hx₀, hb, hml, hown, hts⟩ (j_prepare l dC dI cI cJ cQ H.size hx f1 aLa aPa aGe aFl aTr aBe aLu aLo vSf vSm vCo vSh xs xl xf gL gR lf rt tgo tca tki tso tbe twe tle tan tco ten u0 u1 u2 u3 v0 v1 v2 v3 vLa l4 a4 n4 f4 vPa l7 a7 n7 f7 vGe l2 a2 n2 f2 vFl xn ff (hh0) (hh1)) (cwV 1 hts (kGV wd_430 wd_427 wd_428 wd_429 wd_2) rfl rfl rfl (by decide +kernel) ⟨Nat.le_of_ble_eq_true rfl, Nat.le_of_ble_eq_true rfl⟩) (k_preV (ci := 10) (q0 := 0) hK hPc hDc hN rfl rfl) rfl rfl hl.1 rfl (lv_room (Nat.le_of_ble_eq_true rfl)) dX11_pair_25 ⟨by decide +kernel, by decide +kernel⟩) hS (fun q _ h => hFc q h) hFc (fun u₀ t₀ H1 locs ht hvm hw hB hz1 hk1 hS => ?_)
        obtain ⟨g_6, ga_7, gl_8, gb_9, gp_10⟩ := u₀
        obtain ⟨hP1, hK1, hD1⟩ := hB
        rw [ht] at hP1
        have hJ := k_jn (wr := []) (wt := [(kX11 hx aLa aPa aGe aFl aTr aBe aLu aLo vSf vSm vCo vSh xs xl xf), (kX10 aTr aLa aPa aGe gL gR (gp_10 0) (gp_10 1) (g_6 8) (g_6 9) (g_6 10) (g_6 11) (g_6 12) (g_6 13) (g_6 14) (g_6 15) (g_6 16) (g_6 17)), (kX3 gL (g_6 0) (g_6 1) (g_6 2) (g_6 3)), (kX3 gR (g_6 4) (g_6 5) (g_6 6) (g_6 7)), (kX4 aLa vLa l4 a4 n4), (kAI vLa cI 24 f4), (kX7 aPa vPa l7 a7 n7), (kAI vPa cI 39 f7), (kX2 aGe vGe l2 a2 n2), (kAI vGe cI 23 f2), (kX1 aFl vFl xn), (kAI vFl cI 32 ff)]) hP hD hC [] rfl (by decide +kernel) (by decide +kernel) hk1 hFc hP1 hD1 rfl
        clear hP hD hPc hDc hFc hC hP1 hD1 hK1 hz1 hk1 hvm ht
        obtain ⟨hP, hD⟩ := hJ
        generalize H1 = H at hP hS ⊢
        try dsimp only at hw
        obtain ⟨c_11, c_12, c_13, c_14, c_15, c_16, c_17⟩ := hw
        refine lv_iconst (v := (-1)) hx₀ hb dX11_pair_28 (by decide +kernel) ?_
        refine lv_istore_n (lv' := [(3, .int (-1)), (0, .ref hx), (1, .int f1), (2, .int w1)]) hx₀ hb dX11_pair_29 rfl hl (by decide) rfl (fun ls hl => ?_)
        refine lv_iconst (v := (-1)) hx₀ hb dX11_pair_30 (by decide +kernel) ?_
        refine lv_istore (lv' := [(4, .int (-1)), (3, .int (-1)), (0, .ref hx), (1, .int f1), (2, .int w1)]) hx₀ hb dX11_pair_31 hl (by decide) rfl (fun ls hl => ?_)
        refine lv_iconst (v := 0) hx₀ hb dX11_pair_33 (by decide +kernel) ?_
        refine lv_istore (lv' := [(5, .int 0), (4, .int (-1)), (3, .int (-1)), (0, .ref hx), (1, .int f1), (2, .int w1)]) hx₀ hb dX11_pair_34 hl (by decide) rfl (fun ls hl => ?_)
        refine (?keyz18 : ∀ (jz18 : Nat) (faz18 : Int32) (whz18 : Int32) (lz18 : Int32) (ygoez18 : Int32) (ycarz18 : Int32) (ykinz18 : Int32) (ysorz18 : Int32) (ybeaz18 : Int32) (yweiz18 : Int32) (yleaz18 : Int32) (yangz18 : Int32) (ycolz18 : Int32) (yendz18 : Int32) (pz18 : Nat) (qz18 : Nat) (w0z18 : Int32) (w1z18 : Int32) (w2z18 : Int32) (w3z18 : Int32) (z0z18 : Int32) (z1z18 : Int32) (z2z18 : Int32) (z3z18 : Int32) (H : Heap) (locs : List Loc) (ls : Array Slot), (0 ≤ lz18) → (yleaz18 = xl) → (k_po (fun x1 x2 => kOC f4 f7 f2 n4 n7 n2 xl (kIt xn ff f1 0) x1 x2 (kIt xn ff f1 3) (kAt 39 f7 ((5 * (kIt xn ff f1 0)) + 1))) n2 lz18 faz18 whz18 (kPo (fun x1 x2 => kOC f4 f7 f2 n4 n7 n2 xl (kIt xn ff f1 0) x1 x2 (kIt xn ff f1 3) (kAt 39 f7 ((5 * (kIt xn ff f1 0)) + 1))) n2 (kfu n2 0) 0 (-1) (-1))) → ((n2.toInt - lz18.toInt).toNat = jz18) → va_P (dC, dI) vwCl [(kX11 hx aLa aPa aGe aFl aTr aBe aLu aLo vSf vSm vCo vSh xs xl xf), (kX10 aTr aLa aPa aGe gL gR pz18 qz18 ygoez18 ycarz18 ykinz18 ysorz18 ybeaz18 yweiz18 yleaz18 yangz18 ycolz18 yendz18), (kX3 gL w0z18 w1z18 w2z18 w3z18), (kX3 gR z0z18 z1z18 z2z18 z3z18), (kX4 aLa vLa l4 a4 n4), (kAI vLa cI 24 f4), (kX7 aPa vPa l7 a7 n7), (kAI vPa cI 39 f7), (kX2 aGe vGe l2 a2 n2), (kAI vGe cI 23 f2), (kX1 aFl vFl xn), (kAI vFl cI 32 ff)] H → va_D A [(kX11 hx aLa aPa aGe aFl aTr aBe aLu aLo vSf vSm vCo vSh xs xl xf), (kX10 aTr aLa aPa aGe gL gR pz18 qz18 ygoez18 ycarz18 ykinz18 ysorz18 ybeaz18 yweiz18 yleaz18 yangz18 ycolz18 yendz18), (kX3 gL w0z18 w1z18 w2z18 w3z18), (kX3 gR z0z18 z1z18 z2z18 z3z18), (kX4 aLa vLa l4 a4 n4), (kAI vLa cI 24 f4), (kX7 aPa vPa l7 a7 n7), (kAI vPa cI 39 f7), (kX2 aGe vGe l2 a2 n2), (kAI vGe cI 23 f2), (kX1 aFl vFl xn), (kAI vFl cI 32 ff)] → va_S A s₀.heap H locs → lv_has ls 8 [(5, .int lz18), (4, .int whz18), (3, .int faz18), (0, .ref hx), (1, .int f1), (2, .int w1)] → W p₀ l e₀ _ s₀ m₀ _ below meth c₀ H locs _ _ _ (F0 m₀ 36 ls [])) _ (-1 : Int32) (-1 : Int32) (0 : Int32) (g_6 8) (g_6 9) (g_6 10) (g_6 11) (g_6 12) (g_6 13) (g_6 14) (g_6 15) (g_6 16) (g_6 17) (gp_10 0) (gp_10 1) (g_6 0) (g_6 1) (g_6 2) (g_6 3) (g_6 4) (g_6 5) (g_6 6) (g_6 7) H locs ls (show 0 ≤ (0 : Int32) from (by decide)) (c_17) (rfl) rfl hP hD hS hl
        clear hP hD hS hl
        intro jz18
        induction jz18 using Nat.strongRecOn with
        | ind jz18 ihz18 =>
          intro faz18 whz18 lz18 ygoez18 ycarz18 ykinz18 ysorz18 ybeaz18 yweiz18 yleaz18 yangz18 ycolz18 yendz18 pz18 qz18 w0z18 w1z18 w2z18 w3z18 z0z18 z1z18 z2z18 z3z18 H locs ls hiz18_0 hiz18_1 hiz18_2 hjz18 hP hD hS hl
          refine lv_iload hx₀ hb dX11_pair_36 (lv_at hl 0 rfl) ?_
          refine lv_aload_n hx₀ hb dX11_pair_38 rfl (lv_at hl 3 rfl) ?_
          refine va_get (D := (dC, dI)) (ci := 10) (v := .ref aGe) (C := RX11) (T := TX11) (N := 15) hx₀ hb hts inlX11 hown hK hP 0 rfl rfl 2 (by decide) (hts (.fieldLink RX11 26 "BittenStick" "geese" "LBittenStick$Geese;") wd_23) (fun _ h9 => h9) rfl dX11_pair_39 ?_
          refine va_get (D := (dC, dI)) (ci := 2) (v := .int n2) (C := RX2) (T := TX2) (N := 4) hx₀ hb hts inlX2 hown hK hP 8 rfl rfl 3 (by decide) (hts (.fieldLink RX11 185 "BittenStick$Geese" "number" "I") wd_676) (fun x9 h9 => u_same (hts (.sameField "BittenStick$Geese" "BittenStick$Text" "number" "I") wd_677) x9 h9) rfl dX11_pair_42 ?_
          refine lv_icmp_ge (tgt := 137) hx₀ hb dX11_pair_45 (by decide) (fun c_19 => ?_) (fun c_19 => ?_)
          · refine lv_iload_n hx₀ hb dX11_pair_137 rfl (lv_at hl 5 rfl) ?_
            refine lv_if_ne (tgt := 146) hx₀ hb dX11_pair_138 (by decide) (fun c_20 => ?_) (fun c_20 => ?_)
            · refine lv_iload_n hx₀ hb dX11_pair_146 rfl (lv_at hl 2 rfl) ?_
              obtain ⟨hP9, hD9⟩ := k_c2 (wc := [(kX11 hx aLa aPa aGe aFl aTr aBe aLu aLo vSf vSm vCo vSh xs xl xf), (kX10 aTr aLa aPa aGe gL gR pz18 qz18 ygoez18 ycarz18 ykinz18 ysorz18 ybeaz18 yweiz18 yleaz18 yangz18 ycolz18 yendz18), (kX3 gL w0z18 w1z18 w2z18 w3z18), (kX3 gR z0z18 z1z18 z2z18 z3z18), (kX4 aLa vLa l4 a4 n4), (kAI vLa cI 24 f4), (kX7 aPa vPa l7 a7 n7), (kAI vPa cI 39 f7), (kX2 aGe vGe l2 a2 n2), (kAI vGe cI 23 f2), (kX1 aFl vFl xn), (kAI vFl cI 32 ff)]) hP hD [0, 1, 2, 3, 4, 5, 6, 7, 8, 9, 10, 11] (by decide +kernel) rfl
              exact W.iret (v := faz18) hx₀ hb hr (fun t₀ ht hW => ⟨⟨faz18, (k_fn [w0z18, w1z18, w2z18, w3z18, z0z18, z1z18, z2z18, z3z18, ygoez18, ycarz18, ykinz18, ysorz18, ybeaz18, yweiz18, yleaz18, yangz18, ycolz18, yendz18], k_fa [], k_fl [], k_fL [], k_fp [pz18, qz18]), rfl, (by rw [if_pos (show (0 ≤ f1 ∧ f1 < xn) ∧ 0 ≤ w1 ∧ w1 ≤ 1 from ⟨⟨c_2.1, c_2.2⟩, (Int32.not_lt.mp c_3), c_4⟩), if_neg c_20]; exact (kPo_e hiz18_2 c_19).1), by rw [ht]; exact hP9, va_K.moved hW.alike hK, hD9⟩, hS.F ht⟩) hS.2.2 dX11_pair_147
            · refine lv_iload hx₀ hb dX11_pair_141 (lv_at hl 1 rfl) ?_
              refine lv_goto (tgt := 147) hx₀ hb dX11_pair_143 (by decide) ?_
              obtain ⟨hP9, hD9⟩ := k_c2 (wc := [(kX11 hx aLa aPa aGe aFl aTr aBe aLu aLo vSf vSm vCo vSh xs xl xf), (kX10 aTr aLa aPa aGe gL gR pz18 qz18 ygoez18 ycarz18 ykinz18 ysorz18 ybeaz18 yweiz18 yleaz18 yangz18 ycolz18 yendz18), (kX3 gL w0z18 w1z18 w2z18 w3z18), (kX3 gR z0z18 z1z18 z2z18 z3z18), (kX4 aLa vLa l4 a4 n4), (kAI vLa cI 24 f4), (kX7 aPa vPa l7 a7 n7), (kAI vPa cI 39 f7), (kX2 aGe vGe l2 a2 n2), (kAI vGe cI 23 f2), (kX1 aFl vFl xn), (kAI vFl cI 32 ff)]) hP hD [0, 1, 2, 3, 4, 5, 6, 7, 8, 9, 10, 11] (by decide +kernel) rfl
              exact W.iret (v := whz18) hx₀ hb hr (fun t₀ ht hW => ⟨⟨whz18, (k_fn [w0z18, w1z18, w2z18, w3z18, z0z18, z1z18, z2z18, z3z18, ygoez18, ycarz18, ykinz18, ysorz18, ybeaz18, yweiz18, yleaz18, yangz18, ycolz18, yendz18], k_fa [], k_fl [], k_fL [], k_fp [pz18, qz18]), rfl, (by rw [if_pos (show (0 ≤ f1 ∧ f1 < xn) ∧ 0 ≤ w1 ∧ w1 ≤ 1 from ⟨⟨c_2.1, c_2.2⟩, (Int32.not_lt.mp c_3), c_4⟩), if_pos c_20]; exact (kPo_e hiz18_2 c_19).2), by rw [ht]; exact hP9, va_K.moved hW.alike hK, hD9⟩, hS.F ht⟩) hS.2.2 dX11_pair_147
          · refine lv_iconst (v := 0) hx₀ hb dX11_pair_48 (by decide +kernel) ?_
            refine lv_istore (lv' := [(6, .int 0), (5, .int lz18), (4, .int whz18), (3, .int faz18), (0, .ref hx), (1, .int f1), (2, .int w1)]) hx₀ hb dX11_pair_49 hl (by decide) rfl (fun ls hl => ?_)
            refine (?keyz21 : ∀ (jz21 : Nat) (faz21 : Int32) (whz21 : Int32) (rz21 : Int32) (ygoez21 : Int32) (ycarz21 : Int32) (ykinz21 : Int32) (ysorz21 : Int32) (ybeaz21 : Int32) (yweiz21 : Int32) (yleaz21 : Int32) (yangz21 : Int32) (ycolz21 : Int32) (yendz21 : Int32) (pz21 : Nat) (qz21 : Nat) (w0z21 : Int32) (w1z21 : Int32) (w2z21 : Int32) (w3z21 : Int32) (z0z21 : Int32) (z1z21 : Int32) (z2z21 : Int32) (z3z21 : Int32) (H : Heap) (locs : List Loc) (ls : Array Slot), (0 ≤ rz21) → (yleaz21 = xl) → (k_pi (fun x1 x2 => kOC f4 f7 f2 n4 n7 n2 xl (kIt xn ff f1 0) x1 x2 (kIt xn ff f1 3) (kAt 39 f7 ((5 * (kIt xn ff f1 0)) + 1))) n2 lz18 rz21 faz21 whz21 (kPo (fun x1 x2 => kOC f4 f7 f2 n4 n7 n2 xl (kIt xn ff f1 0) x1 x2 (kIt xn ff f1 3) (kAt 39 f7 ((5 * (kIt xn ff f1 0)) + 1))) n2 (kfu n2 0) 0 (-1) (-1))) → ((n2.toInt - rz21.toInt).toNat = jz21) → va_P (dC, dI) vwCl [(kX11 hx aLa aPa aGe aFl aTr aBe aLu aLo vSf vSm vCo vSh xs xl xf), (kX10 aTr aLa aPa aGe gL gR pz21 qz21 ygoez21 ycarz21 ykinz21 ysorz21 ybeaz21 yweiz21 yleaz21 yangz21 ycolz21 yendz21), (kX3 gL w0z21 w1z21 w2z21 w3z21), (kX3 gR z0z21 z1z21 z2z21 z3z21), (kX4 aLa vLa l4 a4 n4), (kAI vLa cI 24 f4), (kX7 aPa vPa l7 a7 n7), (kAI vPa cI 39 f7), (kX2 aGe vGe l2 a2 n2), (kAI vGe cI 23 f2), (kX1 aFl vFl xn), (kAI vFl cI 32 ff)] H → va_D A [(kX11 hx aLa aPa aGe aFl aTr aBe aLu aLo vSf vSm vCo vSh xs xl xf), (kX10 aTr aLa aPa aGe gL gR pz21 qz21 ygoez21 ycarz21 ykinz21 ysorz21 ybeaz21 yweiz21 yleaz21 yangz21 ycolz21 yendz21), (kX3 gL w0z21 w1z21 w2z21 w3z21), (kX3 gR z0z21 z1z21 z2z21 z3z21), (kX4 aLa vLa l4 a4 n4), (kAI vLa cI 24 f4), (kX7 aPa vPa l7 a7 n7), (kAI vPa cI 39 f7), (kX2 aGe vGe l2 a2 n2), (kAI vGe cI 23 f2), (kX1 aFl vFl xn), (kAI vFl cI 32 ff)] → va_S A s₀.heap H locs → lv_has ls 8 [(6, .int rz21), (5, .int lz18), (4, .int whz21), (3, .int faz21), (0, .ref hx), (1, .int f1), (2, .int w1)] → W p₀ l e₀ _ s₀ m₀ _ below meth c₀ H locs _ _ _ (F0 m₀ 51 ls [])) _ faz18 whz18 (0 : Int32) ygoez18 ycarz18 ykinz18 ysorz18 ybeaz18 yweiz18 yleaz18 yangz18 ycolz18 yendz18 pz18 qz18 w0z18 w1z18 w2z18 w3z18 z0z18 z1z18 z2z18 z3z18 H locs ls (show 0 ≤ (0 : Int32) from (by decide)) (hiz18_1) (kPo_i hiz18_2 c_19) rfl hP hD hS hl
            clear hP hD hS hl
            intro jz21
            induction jz21 using Nat.strongRecOn with
            | ind jz21 ihz21 =>
              intro faz21 whz21 rz21 ygoez21 ycarz21 ykinz21 ysorz21 ybeaz21 yweiz21 yleaz21 yangz21 ycolz21 yendz21 pz21 qz21 w0z21 w1z21 w2z21 w3z21 z0z21 z1z21 z2z21 z3z21 H locs ls hiz21_0 hiz21_1 hiz21_2 hjz21 hP hD hS hl
              refine lv_iload hx₀ hb dX11_pair_51 (lv_at hl 0 rfl) ?_
              refine lv_aload_n hx₀ hb dX11_pair_53 rfl (lv_at hl 4 rfl) ?_
              refine va_get (D := (dC, dI)) (ci := 10) (v := .ref aGe) (C := RX11) (T := TX11) (N := 15) hx₀ hb hts inlX11 hown hK hP 0 rfl rfl 2 (by decide) (hts (.fieldLink RX11 26 "BittenStick" "geese" "LBittenStick$Geese;") wd_23) (fun _ h9 => h9) rfl dX11_pair_54 ?_
              refine va_get (D := (dC, dI)) (ci := 2) (v := .int n2) (C := RX2) (T := TX2) (N := 4) hx₀ hb hts inlX2 hown hK hP 8 rfl rfl 3 (by decide) (hts (.fieldLink RX11 185 "BittenStick$Geese" "number" "I") wd_676) (fun x9 h9 => u_same (hts (.sameField "BittenStick$Geese" "BittenStick$Text" "number" "I") wd_677) x9 h9) rfl dX11_pair_57 ?_
              refine lv_icmp_ge (tgt := 131) hx₀ hb dX11_pair_60 (by decide) (fun c_22 => ?_) (fun c_22 => ?_)
              · refine lv_iinc (v := lz18 + 1) (lv' := [(5, .int (lz18 + 1)), (6, .int rz21), (4, .int whz21), (3, .int faz21), (0, .ref hx), (1, .int f1), (2, .int w1)]) hx₀ hb dX11_pair_131 hl (k := 1) rfl rfl (by decide) rfl (fun ls hl => ?_)
                refine lv_goto (tgt := 36) hx₀ hb dX11_pair_134 (by decide) ?_
                exact ihz18 _ (lf_e_pair__2 lz18 n2 jz18 rz21 jz21 hiz18_0 hjz18 c_19 hiz21_0 hjz21 c_22) faz21 whz21 (lz18 + 1) ygoez21 ycarz21 ykinz21 ysorz21 ybeaz21 yweiz21 yleaz21 yangz21 ycolz21 yendz21 pz21 qz21 w0z21 w1z21 w2z21 w3z21 z0z21 z1z21 z2z21 z3z21 _ _ _ (lf_e_pair__1 lz18 n2 jz18 rz21 jz21 hiz18_0 hjz18 c_19 hiz21_0 hjz21 c_22) (hiz21_1) (kPi_e hiz21_2 c_22) rfl (hP.sub [0, 1, 2, 3, 4, 5, 6, 7, 8, 9, 10, 11] rfl) (hD.sub [0, 1, 2, 3, 4, 5, 6, 7, 8, 9, 10, 11] (by decide +kernel) rfl) hS (lv_sub hl [0, 2, 3, 4, 5, 6] rfl)
              · refine lv_iload hx₀ hb dX11_pair_63 (lv_at hl 1 rfl) ?_
                refine lv_iload hx₀ hb dX11_pair_65 (lv_at hl 0 rfl) ?_
                refine lv_icmp_eq (tgt := 125) hx₀ hb dX11_pair_67 (by decide) (fun c_23 => ?_) (fun c_23 => ?_)
                · refine lv_iinc (v := rz21 + 1) (lv' := [(6, .int (rz21 + 1)), (5, .int lz18), (4, .int whz21), (3, .int faz21), (0, .ref hx), (1, .int f1), (2, .int w1)]) hx₀ hb dX11_pair_125 hl (k := 0) rfl rfl (by decide) rfl (fun ls hl => ?_)
                  refine lv_goto (tgt := 51) hx₀ hb dX11_pair_128 (by decide) ?_
                  exact ihz21 _ (lf_e_pair__4 lz18 n2 jz18 rz21 jz21 hiz18_0 hjz18 c_19 hiz21_0 hjz21 c_22 c_23) faz21 whz21 (rz21 + 1) ygoez21 ycarz21 ykinz21 ysorz21 ybeaz21 yweiz21 yleaz21 yangz21 ycolz21 yendz21 pz21 qz21 w0z21 w1z21 w2z21 w3z21 z0z21 z1z21 z2z21 z3z21 _ _ _ (lf_e_pair__3 lz18 n2 jz18 rz21 jz21 hiz18_0 hjz18 c_19 hiz21_0 hjz21 c_22 c_23) (hiz21_1) (kPi_s hiz21_2 c_22 c_23) rfl (hP.sub [0, 1, 2, 3, 4, 5, 6, 7, 8, 9, 10, 11] rfl) (hD.sub [0, 1, 2, 3, 4, 5, 6, 7, 8, 9, 10, 11] (by decide +kernel) rfl) hS (lv_sub hl [0, 1, 2, 3, 4, 5, 6] rfl)
                · refine lv_aload_n hx₀ hb dX11_pair_70 rfl (lv_at hl 4 rfl) ?_
                  refine va_get (D := (dC, dI)) (ci := 10) (v := .ref aTr) (C := RX11) (T := TX11) (N := 15) hx₀ hb hts inlX11 hown hK hP 0 rfl rfl 4 (by decide) (hts (.fieldLink RX11 42 "BittenStick" "trip" "LBittenStick$Trip;") wd_31) (fun _ h9 => h9) rfl dX11_pair_71 ?_
                  refine lv_aload_n hx₀ hb dX11_pair_74 rfl (lv_at hl 4 rfl) ?_
                  refine va_get (D := (dC, dI)) (ci := 10) (v := .ref aFl) (C := RX11) (T := TX11) (N := 15) hx₀ hb hts inlX11 hown hK hP 0 rfl rfl 3 (by decide) (hts (.fieldLink RX11 33 "BittenStick" "flights" "LBittenStick$Flights;") wd_27) (fun _ h9 => h9) rfl dX11_pair_75 ?_
                  refine lv_iload_n hx₀ hb dX11_pair_78 rfl (lv_at hl 5 rfl) ?_
                  obtain ⟨hPc, hDc, hFc, hC⟩ := k_cw (wc := [(kX1 aFl vFl xn), (kAI vFl cI 32 ff)]) hP hD hS hA [10, 11] (by decide +kernel) rfl
                  refine va_calli (va_runV (As := [.int f1]) (rest := [.ref aTr]) ⟨hx₀, hb, hml, hown, hts⟩ (j_passengerOf l dC dI cI cJ cQ H.size aFl f1 vFl xn ff (hh1)) (cwV 1 hts (kGV wd_435 wd_432 wd_433 wd_434 wd_26) rfl rfl rfl (by decide +kernel) ⟨Nat.le_of_ble_eq_true rfl, Nat.le_of_ble_eq_true rfl⟩) (k_preV (ci := 1) (q0 := 0) hK hPc hDc hN rfl rfl) rfl rfl hl.1 rfl (lv_room (Nat.le_of_ble_eq_true rfl)) dX11_pair_79 ⟨by decide +kernel, by decide +kernel⟩) hS (fun q _ h => hFc q h) hFc (fun r_24 u₀ t₀ H1 locs ht hvm hw hB hz1 hk1 hS => ?_)
                  obtain ⟨hP1, hK1, hD1⟩ := hB
                  rw [ht] at hP1
                  have hJ := k_jn (wr := [(kX11 hx aLa aPa aGe aFl aTr aBe aLu aLo vSf vSm vCo vSh xs xl xf), (kX10 aTr aLa aPa aGe gL gR pz21 qz21 ygoez21 ycarz21 ykinz21 ysorz21 ybeaz21 yweiz21 yleaz21 yangz21 ycolz21 yendz21), (kX3 gL w0z21 w1z21 w2z21 w3z21), (kX3 gR z0z21 z1z21 z2z21 z3z21), (kX4 aLa vLa l4 a4 n4), (kAI vLa cI 24 f4), (kX7 aPa vPa l7 a7 n7), (kAI vPa cI 39 f7), (kX2 aGe vGe l2 a2 n2), (kAI vGe cI 23 f2)]) (wt := [(kX11 hx aLa aPa aGe aFl aTr aBe aLu aLo vSf vSm vCo vSh xs xl xf), (kX10 aTr aLa aPa aGe gL gR pz21 qz21 ygoez21 ycarz21 ykinz21 ysorz21 ybeaz21 yweiz21 yleaz21 yangz21 ycolz21 yendz21), (kX3 gL w0z21 w1z21 w2z21 w3z21), (kX3 gR z0z21 z1z21 z2z21 z3z21), (kX4 aLa vLa l4 a4 n4), (kAI vLa cI 24 f4), (kX7 aPa vPa l7 a7 n7), (kAI vPa cI 39 f7), (kX2 aGe vGe l2 a2 n2), (kAI vGe cI 23 f2), (kX1 aFl vFl xn), (kAI vFl cI 32 ff)]) hP hD hC [0, 1, 2, 3, 4, 5, 6, 7, 8, 9] rfl (by decide +kernel) (by decide +kernel) hk1 hFc hP1 hD1 rfl
                  clear hP hD hPc hDc hFc hC hP1 hD1 hK1 hz1 hk1 hvm ht
                  obtain ⟨hP, hD⟩ := hJ
                  generalize H1 = H at hP hS ⊢
                  try dsimp only at hw
                  refine k_topi (v := kIt xn ff f1 0) hw ?_
                  refine lv_iload hx₀ hb dX11_pair_82 (lv_at hl 1 rfl) ?_
                  refine lv_iload hx₀ hb dX11_pair_84 (lv_at hl 0 rfl) ?_
                  obtain ⟨hPc, hDc, hFc, hC⟩ := k_cw (wc := [(kX10 aTr aLa aPa aGe gL gR pz21 qz21 ygoez21 ycarz21 ykinz21 ysorz21 ybeaz21 yweiz21 yleaz21 yangz21 ycolz21 yendz21), (kX3 gL w0z21 w1z21 w2z21 w3z21), (kX3 gR z0z21 z1z21 z2z21 z3z21), (kX4 aLa vLa l4 a4 n4), (kAI vLa cI 24 f4), (kX7 aPa vPa l7 a7 n7), (kAI vPa cI 39 f7), (kX2 aGe vGe l2 a2 n2), (kAI vGe cI 23 f2)]) hP hD hS hA [1, 2, 3, 4, 5, 6, 7, 8, 9] (by decide +kernel) rfl
                  refine va_callv (va_runV (As := [.int (kIt xn ff f1 0), .int lz18, .int rz21]) (rest := []) ⟨hx₀, hb, hml, hown, hts⟩ (j_board l dC dI cI cJ cQ H.size aTr (kIt xn ff f1 0) lz18 rz21 aLa aPa aGe gL gR pz21 qz21 ygoez21 ycarz21 ykinz21 ysorz21 ybeaz21 yweiz21 yleaz21 yangz21 ycolz21 yendz21 w0z21 w1z21 w2z21 w3z21 z0z21 z1z21 z2z21 z3z21 vLa l4 a4 n4 f4 vPa l7 a7 n7 f7 vGe l2 a2 n2 f2 (hh0)) (cwV 3 hts (kGV wd_452 wd_449 wd_450 wd_451 wd_30) rfl rfl rfl (by decide +kernel) ⟨Nat.le_of_ble_eq_true rfl, Nat.le_of_ble_eq_true rfl⟩) (k_preV (ci := 9) (q0 := 0) hK hPc hDc hN rfl rfl) rfl rfl hl.1 rfl (lv_room (Nat.le_of_ble_eq_true rfl)) dX11_pair_86 ⟨by decide +kernel, by decide +kernel⟩) hS (fun q _ h => hFc q h) hFc (fun u₀ t₀ H1 locs ht hvm hw hB hz1 hk1 hS => ?_)
                  obtain ⟨g_26, ga_27, gl_28, gb_29, gp_30⟩ := u₀
                  obtain ⟨hP1, hK1, hD1⟩ := hB
                  rw [ht] at hP1
                  have hJ := k_jn (wr := [(kX11 hx aLa aPa aGe aFl aTr aBe aLu aLo vSf vSm vCo vSh xs xl xf), (kX1 aFl vFl xn), (kAI vFl cI 32 ff)]) (wt := [(kX11 hx aLa aPa aGe aFl aTr aBe aLu aLo vSf vSm vCo vSh xs xl xf), (kX1 aFl vFl xn), (kAI vFl cI 32 ff), (kX10 aTr aLa aPa aGe gL gR (gp_30 0) (gp_30 1) (g_26 8) (g_26 9) (g_26 10) (g_26 11) (g_26 12) (g_26 13) yleaz21 yangz21 ycolz21 yendz21), (kX3 gL (g_26 0) (g_26 1) (g_26 2) (g_26 3)), (kX3 gR (g_26 4) (g_26 5) (g_26 6) (g_26 7)), (kX4 aLa vLa l4 a4 n4), (kAI vLa cI 24 f4), (kX7 aPa vPa l7 a7 n7), (kAI vPa cI 39 f7), (kX2 aGe vGe l2 a2 n2), (kAI vGe cI 23 f2)]) hP hD hC [0, 10, 11] rfl (by decide +kernel) (by decide +kernel) hk1 hFc hP1 hD1 rfl
                  clear hP hD hPc hDc hFc hC hP1 hD1 hK1 hz1 hk1 hvm ht
                  obtain ⟨hP, hD⟩ := hJ
                  generalize H1 = H at hP hS ⊢
                  try dsimp only at hw
                  obtain ⟨c_31, c_32, c_33, c_34, c_35, c_36⟩ := hw
                  refine lv_aload_n hx₀ hb dX11_pair_89 rfl (lv_at hl 4 rfl) ?_
                  refine va_get (D := (dC, dI)) (ci := 10) (v := .ref aTr) (C := RX11) (T := TX11) (N := 15) hx₀ hb hts inlX11 hown hK hP 0 rfl rfl 4 (by decide) (hts (.fieldLink RX11 42 "BittenStick" "trip" "LBittenStick$Trip;") wd_31) (fun _ h9 => h9) rfl dX11_pair_90 ?_
                  refine lv_aload_n hx₀ hb dX11_pair_93 rfl (lv_at hl 4 rfl) ?_
                  refine va_get (D := (dC, dI)) (ci := 10) (v := .ref aFl) (C := RX11) (T := TX11) (N := 15) hx₀ hb hts inlX11 hown hK hP 0 rfl rfl 3 (by decide) (hts (.fieldLink RX11 33 "BittenStick" "flights" "LBittenStick$Flights;") wd_27) (fun _ h9 => h9) rfl dX11_pair_94 ?_
                  refine lv_iload_n hx₀ hb dX11_pair_97 rfl (lv_at hl 5 rfl) ?_
                  obtain ⟨hPc, hDc, hFc, hC⟩ := k_cw (wc := [(kX1 aFl vFl xn), (kAI vFl cI 32 ff)]) hP hD hS hA [1, 2] (by decide +kernel) rfl
                  refine va_calli (va_runV (As := [.int f1]) (rest := [.ref aTr]) ⟨hx₀, hb, hml, hown, hts⟩ (j_heightOf l dC dI cI cJ cQ H.size aFl f1 vFl xn ff (hh1)) (cwV 1 hts (kGV wd_491 wd_488 wd_489 wd_490 wd_26) rfl rfl rfl (by decide +kernel) ⟨Nat.le_of_ble_eq_true rfl, Nat.le_of_ble_eq_true rfl⟩) (k_preV (ci := 1) (q0 := 0) hK hPc hDc hN rfl rfl) rfl rfl hl.1 rfl (lv_room (Nat.le_of_ble_eq_true rfl)) dX11_pair_98 ⟨by decide +kernel, by decide +kernel⟩) hS (fun q _ h => hFc q h) hFc (fun r_37 u₀ t₀ H1 locs ht hvm hw hB hz1 hk1 hS => ?_)
                  obtain ⟨hP1, hK1, hD1⟩ := hB
                  rw [ht] at hP1
                  have hJ := k_jn (wr := [(kX11 hx aLa aPa aGe aFl aTr aBe aLu aLo vSf vSm vCo vSh xs xl xf), (kX10 aTr aLa aPa aGe gL gR (gp_30 0) (gp_30 1) (g_26 8) (g_26 9) (g_26 10) (g_26 11) (g_26 12) (g_26 13) yleaz21 yangz21 ycolz21 yendz21), (kX3 gL (g_26 0) (g_26 1) (g_26 2) (g_26 3)), (kX3 gR (g_26 4) (g_26 5) (g_26 6) (g_26 7)), (kX4 aLa vLa l4 a4 n4), (kAI vLa cI 24 f4), (kX7 aPa vPa l7 a7 n7), (kAI vPa cI 39 f7), (kX2 aGe vGe l2 a2 n2), (kAI vGe cI 23 f2)]) (wt := [(kX11 hx aLa aPa aGe aFl aTr aBe aLu aLo vSf vSm vCo vSh xs xl xf), (kX10 aTr aLa aPa aGe gL gR (gp_30 0) (gp_30 1) (g_26 8) (g_26 9) (g_26 10) (g_26 11) (g_26 12) (g_26 13) yleaz21 yangz21 ycolz21 yendz21), (kX3 gL (g_26 0) (g_26 1) (g_26 2) (g_26 3)), (kX3 gR (g_26 4) (g_26 5) (g_26 6) (g_26 7)), (kX4 aLa vLa l4 a4 n4), (kAI vLa cI 24 f4), (kX7 aPa vPa l7 a7 n7), (kAI vPa cI 39 f7), (kX2 aGe vGe l2 a2 n2), (kAI vGe cI 23 f2), (kX1 aFl vFl xn), (kAI vFl cI 32 ff)]) hP hD hC [0, 3, 4, 5, 6, 7, 8, 9, 10, 11] rfl (by decide +kernel) (by decide +kernel) hk1 hFc hP1 hD1 rfl
                  clear hP hD hPc hDc hFc hC hP1 hD1 hK1 hz1 hk1 hvm ht
                  obtain ⟨hP, hD⟩ := hJ
                  generalize H1 = H at hP hS ⊢
                  try dsimp only at hw
                  refine k_topi (v := kIt xn ff f1 3) hw ?_
                  obtain ⟨hPc, hDc, hFc, hC⟩ := k_cw (wc := [(kX10 aTr aLa aPa aGe gL gR (gp_30 0) (gp_30 1) (g_26 8) (g_26 9) (g_26 10) (g_26 11) (g_26 12) (g_26 13) yleaz21 yangz21 ycolz21 yendz21), (kX4 aLa vLa l4 a4 n4), (kAI vLa cI 24 f4)]) hP hD hS hA [1, 4, 5] (by decide +kernel) rfl
                  refine va_calli (va_runV (As := [.int (kIt xn ff f1 3)]) (rest := []) ⟨hx₀, hb, hml, hown, hts⟩ (j_comesTo l dC dI cI cJ cQ H.size aTr (kIt xn ff f1 3) aLa aPa aGe gL gR (gp_30 0) (gp_30 1) (g_26 8) (g_26 9) (g_26 10) (g_26 11) (g_26 12) (g_26 13) yleaz21 yangz21 ycolz21 yendz21 vLa l4 a4 n4 f4 (hh0)) (cwV 1 hts (kGV wd_495 wd_492 wd_493 wd_494 wd_30) rfl rfl rfl (by decide +kernel) ⟨Nat.le_of_ble_eq_true rfl, Nat.le_of_ble_eq_true rfl⟩) (k_preV (ci := 9) (q0 := 0) hK hPc hDc hN rfl rfl) rfl rfl hl.1 rfl (lv_room (Nat.le_of_ble_eq_true rfl)) dX11_pair_101 ⟨by decide +kernel, by decide +kernel⟩) hS (fun q _ h => hFc q h) hFc (fun r_38 u₀ t₀ H1 locs ht hvm hw hB hz1 hk1 hS => ?_)
                  obtain ⟨g_39, ga_40, gl_41, gb_42, gp_43⟩ := u₀
                  obtain ⟨hP1, hK1, hD1⟩ := hB
                  rw [ht] at hP1
                  have hJ := k_jn (wr := [(kX11 hx aLa aPa aGe aFl aTr aBe aLu aLo vSf vSm vCo vSh xs xl xf), (kX3 gL (g_26 0) (g_26 1) (g_26 2) (g_26 3)), (kX3 gR (g_26 4) (g_26 5) (g_26 6) (g_26 7)), (kX7 aPa vPa l7 a7 n7), (kAI vPa cI 39 f7), (kX2 aGe vGe l2 a2 n2), (kAI vGe cI 23 f2), (kX1 aFl vFl xn), (kAI vFl cI 32 ff)]) (wt := [(kX11 hx aLa aPa aGe aFl aTr aBe aLu aLo vSf vSm vCo vSh xs xl xf), (kX3 gL (g_26 0) (g_26 1) (g_26 2) (g_26 3)), (kX3 gR (g_26 4) (g_26 5) (g_26 6) (g_26 7)), (kX7 aPa vPa l7 a7 n7), (kAI vPa cI 39 f7), (kX2 aGe vGe l2 a2 n2), (kAI vGe cI 23 f2), (kX1 aFl vFl xn), (kAI vFl cI 32 ff), (kX10 aTr aLa aPa aGe gL gR (gp_30 0) (gp_30 1) (g_26 8) (g_26 9) (g_26 10) (g_26 11) (g_26 12) (g_26 13) yleaz21 (g_39 0) (g_39 1) (g_39 2)), (kX4 aLa vLa l4 a4 n4), (kAI vLa cI 24 f4)]) hP hD hC [0, 2, 3, 6, 7, 8, 9, 10, 11] rfl (by decide +kernel) (by decide +kernel) hk1 hFc hP1 hD1 rfl
                  clear hP hD hPc hDc hFc hC hP1 hD1 hK1 hz1 hk1 hvm ht
                  obtain ⟨hP, hD⟩ := hJ
                  generalize H1 = H at hP hS ⊢
                  try dsimp only at hw
                  obtain ⟨c_44, c_45, c_46, c_47⟩ := hw
                  refine lv_istore (lv' := [(7, .int r_38), (6, .int rz21), (5, .int lz18), (4, .int whz21), (3, .int faz21), (0, .ref hx), (1, .int f1), (2, .int w1)]) hx₀ hb dX11_pair_104 hl (by decide) rfl (fun ls hl => ?_)
                  refine lv_iload hx₀ hb dX11_pair_106 (lv_at hl 0 rfl) ?_
                  refine lv_iload_n hx₀ hb dX11_pair_108 rfl (lv_at hl 4 rfl) ?_
                  refine lv_icmp_le (tgt := 125) hx₀ hb dX11_pair_109 (by decide) (fun c_48 => ?_) (fun c_48 => ?_)
                  · refine lv_iinc (v := rz21 + 1) (lv' := [(6, .int (rz21 + 1)), (7, .int r_38), (5, .int lz18), (4, .int whz21), (3, .int faz21), (0, .ref hx), (1, .int f1), (2, .int w1)]) hx₀ hb dX11_pair_125 hl (k := 1) rfl rfl (by decide) rfl (fun ls hl => ?_)
                    refine lv_goto (tgt := 51) hx₀ hb dX11_pair_128 (by decide) ?_
                    exact ihz21 _ (lf_e_pair__6 lz18 n2 jz18 rz21 jz21 hiz18_0 hjz18 c_19 hiz21_0 hjz21 c_22 c_23) faz21 whz21 (rz21 + 1) (g_26 8) (g_26 9) (g_26 10) (g_26 11) (g_26 12) (g_26 13) yleaz21 (g_39 0) (g_39 1) (g_39 2) (gp_30 0) (gp_30 1) (g_26 0) (g_26 1) (g_26 2) (g_26 3) (g_26 4) (g_26 5) (g_26 6) (g_26 7) _ _ _ (lf_e_pair__5 lz18 n2 jz18 rz21 jz21 hiz18_0 hjz18 c_19 hiz21_0 hjz21 c_22 c_23) (hiz21_1) (kPi_n hiz21_2 c_22 c_23 (c_44.trans (congrArg (fun z => z.1) (show ((kGo (kAt 24 f4) (g_26 9) yleaz21 (g_26 10) (g_26 11) (g_26 12) (fun _ => (kIt xn ff f1 3))) (kfu n4 (0 : Int32)) (0 : Int32) (0 : Int32) (0 : Int32) (if (g_26 8) = 0 then 1 else 0)) = (fun x1 x2 => kOC f4 f7 f2 n4 n7 n2 xl (kIt xn ff f1 0) x1 x2 (kIt xn ff f1 3) (kAt 39 f7 ((5 * (kIt xn ff f1 0)) + 1))) lz18 rz21 from (by rw [hiz21_1]; exact kO_trip hh0.1 c_31 c_32 (fun c => c_33.trans (if_pos c)) (fun c => c_34.trans (if_pos c)) (fun c => c_35.trans (if_pos c)))))) (Int32.not_lt.mpr c_48)) rfl (hP.sub [0, 9, 1, 2, 10, 11, 3, 4, 5, 6, 7, 8] rfl) (hD.sub [0, 9, 1, 2, 10, 11, 3, 4, 5, 6, 7, 8] (by decide +kernel) rfl) hS (lv_sub hl [0, 2, 3, 4, 5, 6, 7] rfl)
                  · refine lv_iload hx₀ hb dX11_pair_112 (lv_at hl 0 rfl) ?_
                    refine lv_istore_n (lv' := [(3, .int r_38), (7, .int r_38), (6, .int rz21), (5, .int lz18), (4, .int whz21), (0, .ref hx), (1, .int f1), (2, .int w1)]) hx₀ hb dX11_pair_114 rfl hl (by decide) rfl (fun ls hl => ?_)
                    refine lv_bipush (v := 8) hx₀ hb dX11_pair_115 (by decide +kernel) ?_
                    refine lv_iload hx₀ hb dX11_pair_117 (lv_at hl 3 rfl) ?_
                    refine lv_imul hx₀ hb dX11_pair_119 ?_
                    refine lv_iload hx₀ hb dX11_pair_120 (lv_at hl 2 rfl) ?_
                    refine lv_iadd hx₀ hb dX11_pair_122 ?_
                    refine lv_istore (lv' := [(4, .int ((8 * lz18) + rz21)), (3, .int r_38), (7, .int r_38), (6, .int rz21), (5, .int lz18), (0, .ref hx), (1, .int f1), (2, .int w1)]) hx₀ hb dX11_pair_123 hl (by decide) rfl (fun ls hl => ?_)
                    refine lv_iinc (v := rz21 + 1) (lv' := [(6, .int (rz21 + 1)), (4, .int ((8 * lz18) + rz21)), (3, .int r_38), (7, .int r_38), (5, .int lz18), (0, .ref hx), (1, .int f1), (2, .int w1)]) hx₀ hb dX11_pair_125 hl (k := 3) rfl rfl (by decide) rfl (fun ls hl => ?_)
                    refine lv_goto (tgt := 51) hx₀ hb dX11_pair_128 (by decide) ?_
                    exact ihz21 _ (lf_e_pair__6 lz18 n2 jz18 rz21 jz21 hiz18_0 hjz18 c_19 hiz21_0 hjz21 c_22 c_23) r_38 ((8 * lz18) + rz21) (rz21 + 1) (g_26 8) (g_26 9) (g_26 10) (g_26 11) (g_26 12) (g_26 13) yleaz21 (g_39 0) (g_39 1) (g_39 2) (gp_30 0) (gp_30 1) (g_26 0) (g_26 1) (g_26 2) (g_26 3) (g_26 4) (g_26 5) (g_26 6) (g_26 7) _ _ _ (lf_e_pair__5 lz18 n2 jz18 rz21 jz21 hiz18_0 hjz18 c_19 hiz21_0 hjz21 c_22 c_23) (hiz21_1) (kPi_y hiz21_2 c_22 c_23 (c_44.trans (congrArg (fun z => z.1) (show ((kGo (kAt 24 f4) (g_26 9) yleaz21 (g_26 10) (g_26 11) (g_26 12) (fun _ => (kIt xn ff f1 3))) (kfu n4 (0 : Int32)) (0 : Int32) (0 : Int32) (0 : Int32) (if (g_26 8) = 0 then 1 else 0)) = (fun x1 x2 => kOC f4 f7 f2 n4 n7 n2 xl (kIt xn ff f1 0) x1 x2 (kIt xn ff f1 3) (kAt 39 f7 ((5 * (kIt xn ff f1 0)) + 1))) lz18 rz21 from (by rw [hiz21_1]; exact kO_trip hh0.1 c_31 c_32 (fun c => c_33.trans (if_pos c)) (fun c => c_34.trans (if_pos c)) (fun c => c_35.trans (if_pos c)))))) (Int32.not_le.mp c_48)) rfl (hP.sub [0, 9, 1, 2, 10, 11, 3, 4, 5, 6, 7, 8] rfl) (hD.sub [0, 9, 1, 2, 10, 11, 3, 4, 5, 6, 7, 8] (by decide +kernel) rfl) hS (lv_sub hl [0, 4, 1, 2, 5, 6, 7] rfl)
      · refine lv_bipush (v := (-2)) hx₀ hb dX11_pair_20 (by decide +kernel) ?_
        obtain ⟨hP9, hD9⟩ := k_c2 (wc := [(kX11 hx aLa aPa aGe aFl aTr aBe aLu aLo vSf vSm vCo vSh xs xl xf), (kX10 aTr aLa aPa aGe gL gR lf rt tgo tca tki tso tbe twe tle tan tco ten), (kX3 gL u0 u1 u2 u3), (kX3 gR v0 v1 v2 v3), (kX4 aLa vLa l4 a4 n4), (kAI vLa cI 24 f4), (kX7 aPa vPa l7 a7 n7), (kAI vPa cI 39 f7), (kX2 aGe vGe l2 a2 n2), (kAI vGe cI 23 f2), (kX1 aFl vFl xn), (kAI vFl cI 32 ff)]) hP hD [0, 1, 2, 3, 4, 5, 6, 7, 8, 9, 11, 10] (by decide +kernel) rfl
        exact W.iret (v := (-2)) hx₀ hb hr (fun t₀ ht hW => ⟨⟨(-2), (k_fn [u0, u1, u2, u3, v0, v1, v2, v3, tgo, tca, tki, tso, tbe, twe, tle, tan, tco, ten], k_fa [], k_fl [], k_fL [], k_fp [lf, rt]), rfl, (if_neg (show ¬ ((0 ≤ f1 ∧ f1 < xn) ∧ 0 ≤ w1 ∧ w1 ≤ 1) from (fun z => c_4 z.2.2))).symm, by rw [ht]; exact hP9, va_K.moved hW.alike hK, hD9⟩, hS.F ht⟩) hS.2.2 dX11_pair_22
  rw [if_neg c_2] at hw
  refine k_topi (v := 0) hw ?_
  refine lv_if_eq (tgt := 20) hx₀ hb dX11_pair_8 (by decide) (fun _ => ?_) (fun c9 => absurd (by decide +kernel) c9)
  refine lv_bipush (v := (-2)) hx₀ hb dX11_pair_20 (by decide +kernel) ?_
  obtain ⟨hP9, hD9⟩ := k_c2 (wc := [(kX11 hx aLa aPa aGe aFl aTr aBe aLu aLo vSf vSm vCo vSh xs xl xf), (kX10 aTr aLa aPa aGe gL gR lf rt tgo tca tki tso tbe twe tle tan tco ten), (kX3 gL u0 u1 u2 u3), (kX3 gR v0 v1 v2 v3), (kX4 aLa vLa l4 a4 n4), (kAI vLa cI 24 f4), (kX7 aPa vPa l7 a7 n7), (kAI vPa cI 39 f7), (kX2 aGe vGe l2 a2 n2), (kAI vGe cI 23 f2), (kX1 aFl vFl xn), (kAI vFl cI 32 ff)]) hP hD [0, 1, 2, 3, 4, 5, 6, 7, 8, 9, 11, 10] (by decide +kernel) rfl
  exact W.iret (v := (-2)) hx₀ hb hr (fun t₀ ht hW => ⟨⟨(-2), (k_fn [u0, u1, u2, u3, v0, v1, v2, v3, tgo, tca, tki, tso, tbe, twe, tle, tan, tco, ten], k_fa [], k_fl [], k_fL [], k_fp [lf, rt]), rfl, (if_neg (show ¬ ((0 ≤ f1 ∧ f1 < xn) ∧ 0 ≤ w1 ∧ w1 ≤ 1) from (fun z => c_2 z.1))).symm, by rw [ht]; exact hP9, va_K.moved hW.alike hK, hD9⟩, hS.F ht⟩) hS.2.2 dX11_pair_22
set_option maxHeartbeats 4000000 in
set_option maxRecDepth 100000 in
theorem e_pairOf (l : Launch) (dC : Nat → ClassId) (dI : Nat → Nat → Nat) (cI cJ cQ : ClassId) (sz : Nat) (hm : Nat) (f1 : Int32) (w1 : Int32) (vFo : Nat) (vSi : Nat) (vIt : Nat) (vMo : Nat) (la : Int32) (vBy : Nat) (vTy : Nat) (mi : Int32) (vMi : Nat) (pn : Int32) (vPs : Nat) (gn : Int32) (vGs : Nat) (fn : Int32) (vFt : Nat) (le : Int32) (vTo : Nat) (kn : Int32) (fe : Int32) (en : Int32) (ca : Int32) (an : Int32) (co : Int32) (vPr : Nat) (vSt : Nat) (vFn : Nat) (sn : Int32) (vSg : Nat) (vAl : Nat) (dr : Int32) (qMi : Nat → Int32) (qPs : Nat → Int32) (qGs : Nat → Int32) (qTo : Nat → Int32) (qPr : Nat → Int32) (qSt : Nat → Int32) (qFn : Nat → Int32) (qFt : Nat → Int32) (hh0 : 0 ≤ mi ∧ mi ≤ 24) (hh1 : 0 ≤ pn ∧ pn ≤ 8) (hh2 : 0 ≤ gn ∧ gn ≤ 8) (hh3 : k_bd 2 0 7 qPr) (hh4 : 0 ≤ fe ∧ fe ≤ 24) (hh5 : en = 0 ∨ kn = 0 ∨ fe ≤ 23) (hh6 : 0 ≤ kn ∧ kn ≤ 24) (hh7 : 0 ≤ f1 ∧ f1 ≤ 7) (hh8 : k_tm pn qPs) (hh9 : ca = 16777215) (hh10 : k_bd 32 0 9 qFt) : Met l yX12_pairOf (kW yX12_pairOf cX12_pairOf 8 (some .int)) { frames := 3, cells := 0, slots := 0, locals := 78 } (kPre dC dI cI cJ cQ sz [.ref hm, .int f1, .int w1] [(kX12 hm vFo vSi vIt vMo la vBy vTy mi vMi pn vPs gn vGs fn vFt le vTo kn fe en ca an co vPr vSt vFn sn vSg vAl dr), (kAI vMi cI 24 qMi), (kAI vPs cI 32 qPs), (kAI vGs cI 16 qGs), (kAI vTo cI 96 qTo), (kAI vPr cI 2 qPr), (kAI vSt cI 2 qSt), (kAI vFn cI 2 qFn), (kAI vFt cI 32 qFt)]) (va_Qi (fun (r : Int32) (u : kS) => (r = if w1 = 0 then (kPq (fun x1 x2 => kOR qMi qPs qGs mi pn gn le (kP0 qFt f1) x1 x2 (kP1 qPs (kP0 qFt f1)) (fun x8 => if x8 < (24 : Int32) then (kP3 qFt f1) else (0 : Int32))) gn (kfu 64 0) 0 (-1) (-1)).2 else (kPq (fun x1 x2 => kOR qMi qPs qGs mi pn gn le (kP0 qFt f1) x1 x2 (kP1 qPs (kP0 qFt f1)) (fun x8 => if x8 < (24 : Int32) then (kP3 qFt f1) else (0 : Int32))) gn (kfu 64 0) 0 (-1) (-1)).1) ∧ (k_bd 2 0 7 (u.2.1 1)) ∧ (0 ≤ (u.1 1) ∧ (u.1 1) ≤ 24) ∧ ((u.1 2) = 0 ∨ (u.1 0) = 0 ∨ (u.1 1) ≤ 23) ∧ (0 ≤ (u.1 0) ∧ (u.1 0) ≤ 24)) (fun (u : kS) t₀ => kB dC dI cI cJ cQ (va_A [(kX12 hm vFo vSi vIt vMo la vBy vTy mi vMi pn vPs gn vGs fn vFt le vTo kn fe en ca an co vPr vSt vFn sn vSg vAl dr), (kAI vMi cI 24 qMi), (kAI vPs cI 32 qPs), (kAI vGs cI 16 qGs), (kAI vTo cI 96 qTo), (kAI vPr cI 2 qPr), (kAI vSt cI 2 qSt), (kAI vFn cI 2 qFn), (kAI vFt cI 32 qFt)] sz) [(kX12 hm vFo vSi vIt vMo la vBy vTy mi vMi pn vPs gn vGs fn vFt le vTo (u.1 0) (u.1 1) (u.1 2) ca (u.1 3) (u.1 4) vPr vSt vFn sn vSg vAl dr), (kAI vMi cI 24 qMi), (kAI vPs cI 32 qPs), (kAI vGs cI 16 qGs), (kAI vTo cI 96 (u.2.1 0)), (kAI vPr cI 2 (u.2.1 1)), (kAI vSt cI 2 (u.2.1 2)), (kAI vFn cI 2 (u.2.1 3)), (kAI vFt cI 32 qFt)] t₀) (va_A [(kX12 hm vFo vSi vIt vMo la vBy vTy mi vMi pn vPs gn vGs fn vFt le vTo kn fe en ca an co vPr vSt vFn sn vSg vAl dr), (kAI vMi cI 24 qMi), (kAI vPs cI 32 qPs), (kAI vGs cI 16 qGs), (kAI vTo cI 96 qTo), (kAI vPr cI 2 qPr), (kAI vSt cI 2 qSt), (kAI vFn cI 2 qFn), (kAI vFt cI 32 qFt)] sz)) 0 0 (va_A [(kX12 hm vFo vSi vIt vMo la vBy vTy mi vMi pn vPs gn vGs fn vFt le vTo kn fe en ca an co vPr vSt vFn sn vSg vAl dr), (kAI vMi cI 24 qMi), (kAI vPs cI 32 qPs), (kAI vGs cI 16 qGs), (kAI vTo cI 96 qTo), (kAI vPr cI 2 qPr), (kAI vSt cI 2 qSt), (kAI vFn cI 2 qFn), (kAI vFt cI 32 qFt)] sz) := by
  refine Met.ofW (cc := cX12_pairOf) (maxL := 8) (ret := (some .int)) (by decide) rfl ?_
  intro p₀ e₀ s₀ m₀ args below meth c₀ s₁ B hml hv₀
  obtain ⟨rfl, hsz, hP, hK, hD0, hN⟩ := hv₀
  have hx₀ := B.exec
  have hb := B.bytes
  have hr := B.returns
  have hts := atoms_spec (ws := (kW yX12_pairOf cX12_pairOf 8 (some .int))) B.pre
  have hts := fun w h => hts w (List.mem_cons_of_mem _ h)
  have hown : s₀.vm.findClass RX12 = some m₀.cls := findClass_of_methodNamed B.named
  have hlocks := B.notSynchronized
  subst hsz
  have hD := hD0.self (sz := s₀.heap.size)
  generalize hAe : va_A [(kX12 hm vFo vSi vIt vMo la vBy vTy mi vMi pn vPs gn vGs fn vFt le vTo kn fe en ca an co vPr vSt vFn sn vSg vAl dr), (kAI vMi cI 24 qMi), (kAI vPs cI 32 qPs), (kAI vGs cI 16 qGs), (kAI vTo cI 96 qTo), (kAI vPr cI 2 qPr), (kAI vSt cI 2 qSt), (kAI vFn cI 2 qFn), (kAI vFt cI 32 qFt)] s₀.heap.size = A at hD ⊢
  have hA : ∀ q : Nat, s₀.heap.size ≤ q → A q := fun q h => by rw [← hAe]; exact Or.inr h
  have hS : va_S A s₀.heap s₀.heap [] := va_S.rf
  have hP : va_P (dC, dI) vwCl [(kX12 hm vFo vSi vIt vMo la vBy vTy mi vMi pn vPs gn vGs fn vFt le vTo kn fe en ca an co vPr vSt vFn sn vSg vAl dr), (kAI vMi cI 24 qMi), (kAI vPs cI 32 qPs), (kAI vGs cI 16 qGs), (kAI vTo cI 96 qTo), (kAI vPr cI 2 qPr), (kAI vSt cI 2 qSt), (kAI vFn cI 2 qFn), (kAI vFt cI 32 qFt)] s₀.heap := hP
  have hl := lv_entry ([.ref hm, .int f1, .int w1]) (n := 8) (Nat.le_of_ble_eq_true rfl)
  rw [lg_entry_eq]
  generalize (lg_sl ([.ref hm, .int f1, .int w1]) ++ List.replicate (8 - (lg_sl ([.ref hm, .int f1, .int w1])).length) Slot.unset).toArray = ls at hl ⊢
  have hl : lv_has ls 8 [(0, .ref hm), (1, .int f1), (2, .int w1)] := hl
  obtain ⟨H, hH⟩ : ∃ z : Heap, z = s₀.heap := ⟨_, rfl⟩
  rw [← hH] at hP
  have hS : va_S A s₀.heap H [] := by rw [hH]; exact hS
  refine k_heap hH ?_
  have hD : va_D A [(kX12 hm vFo vSi vIt vMo la vBy vTy mi vMi pn vPs gn vGs fn vFt le vTo kn fe en ca an co vPr vSt vFn sn vSg vAl dr), (kAI vMi cI 24 qMi), (kAI vPs cI 32 qPs), (kAI vGs cI 16 qGs), (kAI vTo cI 96 qTo), (kAI vPr cI 2 qPr), (kAI vSt cI 2 qSt), (kAI vFn cI 2 qFn), (kAI vFt cI 32 qFt)] := hD
  obtain ⟨locs, hlo⟩ : ∃ z : List Loc, z = [] := ⟨_, rfl⟩
  rw [← hlo] at hS ⊢
  clear hlo hH hAe hD0
  refine lv_iconst (v := (-1)) hx₀ hb dX12_pairOf_0 (by decide +kernel) ?_
  refine lv_istore_n (lv' := [(3, .int (-1)), (0, .ref hm), (1, .int f1), (2, .int w1)]) hx₀ hb dX12_pairOf_1 rfl hl (by decide) rfl (fun ls hl => ?_)
  refine lv_iconst (v := (-1)) hx₀ hb dX12_pairOf_2 (by decide +kernel) ?_
  refine lv_istore (lv' := [(4, .int (-1)), (3, .int (-1)), (0, .ref hm), (1, .int f1), (2, .int w1)]) hx₀ hb dX12_pairOf_3 hl (by decide) rfl (fun ls hl => ?_)
  refine lv_iconst (v := 0) hx₀ hb dX12_pairOf_5 (by decide +kernel) ?_
  refine lv_istore (lv' := [(5, .int 0), (4, .int (-1)), (3, .int (-1)), (0, .ref hm), (1, .int f1), (2, .int w1)]) hx₀ hb dX12_pairOf_6 hl (by decide) rfl (fun ls hl => ?_)
  refine (?keyz1 : ∀ (jz1 : Nat) (bez1 : Int32) (faz1 : Int32) (cdz1 : Int32) (knz1 : Int32) (fez1 : Int32) (enz1 : Int32) (anz1 : Int32) (coz1 : Int32) (qtz1 : Nat → Int32) (qpz1 : Nat → Int32) (qsz1 : Nat → Int32) (qfz1 : Nat → Int32) (H : Heap) (locs : List Loc) (ls : Array Slot), (0 ≤ cdz1 ∧ cdz1 ≤ 64) → (k_pq (fun x1 x2 => kOR qMi qPs qGs mi pn gn le (kP0 qFt f1) x1 x2 (kP1 qPs (kP0 qFt f1)) (fun x8 => if x8 < (24 : Int32) then (kP3 qFt f1) else (0 : Int32))) gn cdz1 faz1 bez1 (kPq (fun x1 x2 => kOR qMi qPs qGs mi pn gn le (kP0 qFt f1) x1 x2 (kP1 qPs (kP0 qFt f1)) (fun x8 => if x8 < (24 : Int32) then (kP3 qFt f1) else (0 : Int32))) gn (kfu 64 0) 0 (-1) (-1))) → (k_bd 2 0 7 qpz1) → (0 ≤ fez1 ∧ fez1 ≤ 24) → (enz1 = 0 ∨ knz1 = 0 ∨ fez1 ≤ 23) → (0 ≤ knz1 ∧ knz1 ≤ 24) → ((64 - cdz1.toInt).toNat = jz1) → va_P (dC, dI) vwCl [(kX12 hm vFo vSi vIt vMo la vBy vTy mi vMi pn vPs gn vGs fn vFt le vTo knz1 fez1 enz1 ca anz1 coz1 vPr vSt vFn sn vSg vAl dr), (kAI vMi cI 24 qMi), (kAI vPs cI 32 qPs), (kAI vGs cI 16 qGs), (kAI vTo cI 96 qtz1), (kAI vPr cI 2 qpz1), (kAI vSt cI 2 qsz1), (kAI vFn cI 2 qfz1), (kAI vFt cI 32 qFt)] H → va_D A [(kX12 hm vFo vSi vIt vMo la vBy vTy mi vMi pn vPs gn vGs fn vFt le vTo knz1 fez1 enz1 ca anz1 coz1 vPr vSt vFn sn vSg vAl dr), (kAI vMi cI 24 qMi), (kAI vPs cI 32 qPs), (kAI vGs cI 16 qGs), (kAI vTo cI 96 qtz1), (kAI vPr cI 2 qpz1), (kAI vSt cI 2 qsz1), (kAI vFn cI 2 qfz1), (kAI vFt cI 32 qFt)] → va_S A s₀.heap H locs → lv_has ls 8 [(5, .int cdz1), (4, .int faz1), (3, .int bez1), (0, .ref hm), (1, .int f1), (2, .int w1)] → W p₀ l e₀ _ s₀ m₀ _ below meth c₀ H locs _ _ _ (F0 m₀ 8 ls [])) _ (-1 : Int32) (-1 : Int32) (0 : Int32) kn fe en an co _ _ _ _ H locs ls (show 0 ≤ (0 : Int32) ∧ (0 : Int32) ≤ 64 from ⟨(by decide), (by decide)⟩) (rfl) (hh3) (hh4) (hh5) (hh6) rfl hP hD hS hl
  clear hP hD hS hl
  intro jz1
  induction jz1 using Nat.strongRecOn with
  | ind jz1 ihz1 =>
    intro bez1 faz1 cdz1 knz1 fez1 enz1 anz1 coz1 qtz1 qpz1 qsz1 qfz1 H locs ls hiz1_0 hiz1_1 hiz1_2 hiz1_3 hiz1_4 hiz1_5 hjz1 hP hD hS hl
    refine lv_iload hx₀ hb dX12_pairOf_8 (lv_at hl 0 rfl) ?_
    refine lv_bipush (v := 64) hx₀ hb dX12_pairOf_10 (by decide +kernel) ?_
    refine lv_icmp_ge (tgt := 125) hx₀ hb dX12_pairOf_12 (by decide) (fun c_2 => ?_) (fun c_2 => ?_)
    · refine lv_iload_n hx₀ hb dX12_pairOf_125 rfl (lv_at hl 5 rfl) ?_
      refine lv_if_ne (tgt := 133) hx₀ hb dX12_pairOf_126 (by decide) (fun c_3 => ?_) (fun c_3 => ?_)
      · refine lv_iload hx₀ hb dX12_pairOf_133 (lv_at hl 1 rfl) ?_
        obtain ⟨hP9, hD9⟩ := k_c2 (wc := [(kX12 hm vFo vSi vIt vMo la vBy vTy mi vMi pn vPs gn vGs fn vFt le vTo knz1 fez1 enz1 ca anz1 coz1 vPr vSt vFn sn vSg vAl dr), (kAI vMi cI 24 qMi), (kAI vPs cI 32 qPs), (kAI vGs cI 16 qGs), (kAI vTo cI 96 qtz1), (kAI vPr cI 2 qpz1), (kAI vSt cI 2 qsz1), (kAI vFn cI 2 qfz1), (kAI vFt cI 32 qFt)]) hP hD [0, 1, 2, 3, 4, 5, 6, 7, 8] (by decide +kernel) rfl
        exact W.iret (v := faz1) hx₀ hb hr (fun t₀ ht hW => ⟨⟨faz1, (k_fn [knz1, fez1, enz1, anz1, coz1], k_fa [qtz1, qpz1, qsz1, qfz1], k_fl [], k_fL [], k_fp []), rfl, ⟨(by rw [if_neg c_3]; exact (kPq_e hiz1_1 (c_2)).1), hiz1_2, hiz1_3, hiz1_4, hiz1_5⟩, by rw [ht]; exact hP9, va_K.moved hW.alike hK, hD9⟩, hS.F ht⟩) hS.2.2 dX12_pairOf_135
      · refine lv_iload_n hx₀ hb dX12_pairOf_129 rfl (lv_at hl 2 rfl) ?_
        refine lv_goto (tgt := 135) hx₀ hb dX12_pairOf_130 (by decide) ?_
        obtain ⟨hP9, hD9⟩ := k_c2 (wc := [(kX12 hm vFo vSi vIt vMo la vBy vTy mi vMi pn vPs gn vGs fn vFt le vTo knz1 fez1 enz1 ca anz1 coz1 vPr vSt vFn sn vSg vAl dr), (kAI vMi cI 24 qMi), (kAI vPs cI 32 qPs), (kAI vGs cI 16 qGs), (kAI vTo cI 96 qtz1), (kAI vPr cI 2 qpz1), (kAI vSt cI 2 qsz1), (kAI vFn cI 2 qfz1), (kAI vFt cI 32 qFt)]) hP hD [0, 1, 2, 3, 4, 5, 6, 7, 8] (by decide +kernel) rfl
        exact W.iret (v := bez1) hx₀ hb hr (fun t₀ ht hW => ⟨⟨bez1, (k_fn [knz1, fez1, enz1, anz1, coz1], k_fa [qtz1, qpz1, qsz1, qfz1], k_fl [], k_fL [], k_fp []), rfl, ⟨(by rw [if_pos c_3]; exact (kPq_e hiz1_1 (c_2)).2), hiz1_2, hiz1_3, hiz1_4, hiz1_5⟩, by rw [ht]; exact hP9, va_K.moved hW.alike hK, hD9⟩, hS.F ht⟩) hS.2.2 dX12_pairOf_135
    · refine lv_iload hx₀ hb dX12_pairOf_15 (lv_at hl 0 rfl) ?_
      refine lv_bipush (v := 8) hx₀ hb dX12_pairOf_17 (by decide +kernel) ?_
      refine lv_idiv hx₀ hb dX12_pairOf_19 (by decide +kernel) ?_
      refine lv_istore (lv' := [(6, .int (cdz1 / 8)), (5, .int cdz1), (4, .int faz1), (3, .int bez1), (0, .ref hm), (1, .int f1), (2, .int w1)]) hx₀ hb dX12_pairOf_20 hl (by decide) rfl (fun ls hl => ?_)
      refine lv_iload hx₀ hb dX12_pairOf_22 (lv_at hl 1 rfl) ?_
      refine lv_bipush (v := 8) hx₀ hb dX12_pairOf_24 (by decide +kernel) ?_
      refine lv_irem hx₀ hb dX12_pairOf_26 (by decide +kernel) ?_
      refine lv_istore (lv' := [(7, .int (cdz1 - cdz1 / 8 * 8)), (6, .int (cdz1 / 8)), (5, .int cdz1), (4, .int faz1), (3, .int bez1), (0, .ref hm), (1, .int f1), (2, .int w1)]) hx₀ hb dX12_pairOf_27 hl (by decide) rfl (fun ls hl => ?_)
      refine lv_iload hx₀ hb dX12_pairOf_29 (lv_at hl 1 rfl) ?_
      refine lv_iload hx₀ hb dX12_pairOf_31 (lv_at hl 0 rfl) ?_
      refine lv_icmp_eq (tgt := 119) hx₀ hb dX12_pairOf_33 (by decide) (fun c_4 => ?_) (fun c_4 => ?_)
      · refine lv_iinc (v := cdz1 + 1) (lv' := [(5, .int (cdz1 + 1)), (7, .int (cdz1 - cdz1 / 8 * 8)), (6, .int (cdz1 / 8)), (4, .int faz1), (3, .int bez1), (0, .ref hm), (1, .int f1), (2, .int w1)]) hx₀ hb dX12_pairOf_119 hl (k := 2) rfl rfl (by decide) rfl (fun ls hl => ?_)
        refine lv_goto (tgt := 8) hx₀ hb dX12_pairOf_122 (by decide) ?_
        exact ihz1 _ (lf_g_pairOf_2 cdz1 jz1 hiz1_0 hjz1 c_2 c_4) bez1 faz1 (cdz1 + 1) knz1 fez1 enz1 anz1 coz1 _ _ _ _ _ _ _ (lf_g_pairOf_1 cdz1 jz1 hiz1_0 hjz1 c_2 c_4) (kPq_o hiz1_1 (c_2) (fun z => z.1 c_4)) (hiz1_2) (hiz1_3) (hiz1_4) (hiz1_5) rfl (hP.sub [0, 1, 2, 3, 4, 5, 6, 7, 8] rfl) (hD.sub [0, 1, 2, 3, 4, 5, 6, 7, 8] (by decide +kernel) rfl) hS (lv_sub hl [0, 3, 4, 5, 6, 7] rfl)
      · refine lv_iload hx₀ hb dX12_pairOf_36 (lv_at hl 1 rfl) ?_
        refine lv_aload_n hx₀ hb dX12_pairOf_38 rfl (lv_at hl 5 rfl) ?_
        refine va_get (D := (dC, dI)) (ci := 11) (v := .int gn) (C := RX12) (T := TX12) (N := 30) hx₀ hb hts inlX12 hown hK hP 0 rfl rfl 11 (by decide) (hts (.fieldLink RX12 122 "BittenStickModel" "geese" "I") wd_277) (fun _ h9 => h9) rfl dX12_pairOf_39 ?_
        refine lv_icmp_ge (tgt := 119) hx₀ hb dX12_pairOf_42 (by decide) (fun c_5 => ?_) (fun c_5 => ?_)
        · refine lv_iinc (v := cdz1 + 1) (lv' := [(5, .int (cdz1 + 1)), (7, .int (cdz1 - cdz1 / 8 * 8)), (6, .int (cdz1 / 8)), (4, .int faz1), (3, .int bez1), (0, .ref hm), (1, .int f1), (2, .int w1)]) hx₀ hb dX12_pairOf_119 hl (k := 2) rfl rfl (by decide) rfl (fun ls hl => ?_)
          refine lv_goto (tgt := 8) hx₀ hb dX12_pairOf_122 (by decide) ?_
          exact ihz1 _ (lf_g_pairOf_4 gn cdz1 jz1 hh2 hiz1_0 hjz1 c_2 c_4 c_5) bez1 faz1 (cdz1 + 1) knz1 fez1 enz1 anz1 coz1 _ _ _ _ _ _ _ (lf_g_pairOf_3 gn cdz1 jz1 hh2 hiz1_0 hjz1 c_2 c_4 c_5) (kPq_o hiz1_1 (c_2) (fun z => (Int32.not_lt.mpr c_5) z.2.1)) (hiz1_2) (hiz1_3) (hiz1_4) (hiz1_5) rfl (hP.sub [0, 1, 2, 3, 4, 5, 6, 7, 8] rfl) (hD.sub [0, 1, 2, 3, 4, 5, 6, 7, 8] (by decide +kernel) rfl) hS (lv_sub hl [0, 3, 4, 5, 6, 7] rfl)
        · refine lv_iload hx₀ hb dX12_pairOf_45 (lv_at hl 0 rfl) ?_
          refine lv_aload_n hx₀ hb dX12_pairOf_47 rfl (lv_at hl 5 rfl) ?_
          refine va_get (D := (dC, dI)) (ci := 11) (v := .int gn) (C := RX12) (T := TX12) (N := 30) hx₀ hb hts inlX12 hown hK hP 0 rfl rfl 11 (by decide) (hts (.fieldLink RX12 122 "BittenStickModel" "geese" "I") wd_277) (fun _ h9 => h9) rfl dX12_pairOf_48 ?_
          refine lv_icmp_ge (tgt := 119) hx₀ hb dX12_pairOf_51 (by decide) (fun c_6 => ?_) (fun c_6 => ?_)
          · refine lv_iinc (v := cdz1 + 1) (lv' := [(5, .int (cdz1 + 1)), (7, .int (cdz1 - cdz1 / 8 * 8)), (6, .int (cdz1 / 8)), (4, .int faz1), (3, .int bez1), (0, .ref hm), (1, .int f1), (2, .int w1)]) hx₀ hb dX12_pairOf_119 hl (k := 2) rfl rfl (by decide) rfl (fun ls hl => ?_)
            refine lv_goto (tgt := 8) hx₀ hb dX12_pairOf_122 (by decide) ?_
            exact ihz1 _ (lf_g_pairOf_6 gn cdz1 jz1 hh2 hiz1_0 hjz1 c_2 c_4 c_5 c_6) bez1 faz1 (cdz1 + 1) knz1 fez1 enz1 anz1 coz1 _ _ _ _ _ _ _ (lf_g_pairOf_5 gn cdz1 jz1 hh2 hiz1_0 hjz1 c_2 c_4 c_5 c_6) (kPq_o hiz1_1 (c_2) (fun z => (Int32.not_lt.mpr c_6) z.2.2)) (hiz1_2) (hiz1_3) (hiz1_4) (hiz1_5) rfl (hP.sub [0, 1, 2, 3, 4, 5, 6, 7, 8] rfl) (hD.sub [0, 1, 2, 3, 4, 5, 6, 7, 8] (by decide +kernel) rfl) hS (lv_sub hl [0, 3, 4, 5, 6, 7] rfl)
          · refine lv_aload_n hx₀ hb dX12_pairOf_54 rfl (lv_at hl 5 rfl) ?_
            refine lv_aload_n hx₀ hb dX12_pairOf_55 rfl (lv_at hl 5 rfl) ?_
            refine va_get (D := (dC, dI)) (ci := 11) (v := .ref vFt) (C := RX12) (T := TX12) (N := 30) hx₀ hb hts inlX12 hown hK hP 0 rfl rfl 14 (by decide) (hts (.fieldLink RX12 37 "BittenStickModel" "flight" "[I") wd_124) (fun _ h9 => h9) rfl dX12_pairOf_56 ?_
            refine lv_iconst (v := 4) hx₀ hb dX12_pairOf_59 (by decide +kernel) ?_
            refine lv_iload_n hx₀ hb dX12_pairOf_60 rfl (lv_at hl 6 rfl) ?_
            refine lv_imul hx₀ hb dX12_pairOf_61 ?_
            refine va_iald hx₀ hb hK hP 8 0 rfl rfl (vp_in_iff.mpr (lf_g_fliesTold_1 f1 hh7)) dX12_pairOf_62 ?_
            refine k_topi (v := kP0 qFt f1) rfl ?_
            refine lv_iload hx₀ hb dX12_pairOf_63 (lv_at hl 1 rfl) ?_
            refine lv_iload hx₀ hb dX12_pairOf_65 (lv_at hl 0 rfl) ?_
            refine lv_aload_n hx₀ hb dX12_pairOf_67 rfl (lv_at hl 5 rfl) ?_
            refine va_get (D := (dC, dI)) (ci := 11) (v := .ref vFt) (C := RX12) (T := TX12) (N := 30) hx₀ hb hts inlX12 hown hK hP 0 rfl rfl 14 (by decide) (hts (.fieldLink RX12 37 "BittenStickModel" "flight" "[I") wd_124) (fun _ h9 => h9) rfl dX12_pairOf_68 ?_
            refine lv_iconst (v := 4) hx₀ hb dX12_pairOf_71 (by decide +kernel) ?_
            refine lv_iload_n hx₀ hb dX12_pairOf_72 rfl (lv_at hl 6 rfl) ?_
            refine lv_imul hx₀ hb dX12_pairOf_73 ?_
            refine lv_iconst (v := 3) hx₀ hb dX12_pairOf_74 (by decide +kernel) ?_
            refine lv_iadd hx₀ hb dX12_pairOf_75 ?_
            refine va_iald hx₀ hb hK hP 8 0 rfl rfl (vp_in_iff.mpr (lf_g_goes_2 f1 hh7)) dX12_pairOf_76 ?_
            refine k_topi (v := kP3 qFt f1) rfl ?_
            refine lv_bipush (v := 24) hx₀ hb dX12_pairOf_77 (by decide +kernel) ?_
            refine lv_iconst (v := 0) hx₀ hb dX12_pairOf_79 (by decide +kernel) ?_
            obtain ⟨hPc, hDc, hFc, hC⟩ := k_cw (wc := [(kX12 hm vFo vSi vIt vMo la vBy vTy mi vMi pn vPs gn vGs fn vFt le vTo knz1 fez1 enz1 ca anz1 coz1 vPr vSt vFn sn vSg vAl dr), (kAI vMi cI 24 qMi), (kAI vPs cI 32 qPs), (kAI vGs cI 16 qGs), (kAI vTo cI 96 qtz1), (kAI vPr cI 2 qpz1), (kAI vSt cI 2 qsz1), (kAI vFn cI 2 qfz1)]) hP hD hS hA [0, 1, 2, 3, 4, 5, 6, 7] (by decide +kernel) rfl
            refine va_callv (va_runV (As := [.int (kP0 qFt f1), .int (cdz1 / 8), .int (cdz1 - cdz1 / 8 * 8), .int (kP3 qFt f1), .int 24, .int 0]) (rest := []) ⟨hx₀, hb, hml, hown, hts⟩ (e_flies l dC dI cI cJ cQ H.size hm (kP0 qFt f1) (cdz1 / 8) (cdz1 - cdz1 / 8 * 8) (kP3 qFt f1) 24 0 vFo vSi vIt vMo la vBy vTy mi vMi pn vPs gn vGs fn vFt le vTo knz1 fez1 enz1 ca anz1 coz1 vPr vSt vFn sn vSg vAl dr qMi qPs qGs qtz1 qpz1 qsz1 qfz1 (hh0) (hh1) (hh2) (hiz1_2) (k_bdP3 hh10 (hh7)) (show 0 ≤ (0 : Int32) ∧ (0 : Int32) ≤ 100 from ⟨(by decide), (by decide)⟩) (hh8) (hh9)) (cwV 6 hts (kGV wd_540 wd_537 wd_538 wd_539 wd_5) rfl rfl rfl (by decide +kernel) ⟨Nat.le_of_ble_eq_true rfl, Nat.le_of_ble_eq_true rfl⟩) (k_preV (ci := 11) (q0 := 0) hK hPc hDc hN rfl rfl) rfl rfl hl.1 rfl (lv_room (Nat.le_of_ble_eq_true rfl)) dX12_pairOf_80 ⟨by decide +kernel, by decide +kernel⟩) hS (fun q _ h => hFc q h) hFc (fun u₀ t₀ H1 locs ht hvm hw hB hz1 hk1 hS => ?_)
            obtain ⟨g_8, ga_9, gl_10, gb_11, gp_12⟩ := u₀
            obtain ⟨hP1, hK1, hD1⟩ := hB
            rw [ht] at hP1
            have hJ := k_jn (wr := [(kAI vFt cI 32 qFt)]) (wt := [(kAI vFt cI 32 qFt), (kX12 hm vFo vSi vIt vMo la vBy vTy mi vMi pn vPs gn vGs fn vFt le vTo (g_8 0) (g_8 1) (g_8 2) ca (g_8 3) (g_8 4) vPr vSt vFn sn vSg vAl dr), (kAI vMi cI 24 qMi), (kAI vPs cI 32 qPs), (kAI vGs cI 16 qGs), (kAI vTo cI 96 (ga_9 0)), (kAI vPr cI 2 (ga_9 1)), (kAI vSt cI 2 (ga_9 2)), (kAI vFn cI 2 (ga_9 3))]) hP hD hC [8] rfl (by decide +kernel) (by decide +kernel) hk1 hFc hP1 hD1 rfl
            clear hP hD hPc hDc hFc hC hP1 hD1 hK1 hz1 hk1 hvm ht
            obtain ⟨hP, hD⟩ := hJ
            generalize H1 = H at hP hS ⊢
            try dsimp only at hw
            obtain ⟨c_13, c_14, c_15, c_16, c_17⟩ := hw
            refine lv_aload_n hx₀ hb dX12_pairOf_83 rfl (lv_at hl 5 rfl) ?_
            refine va_get (D := (dC, dI)) (ci := 11) (v := .int (g_8 1)) (C := RX12) (T := TX12) (N := 30) hx₀ hb hts inlX12 hown hK hP 1 rfl rfl 18 (by decide) (hts (.fieldLink RX12 193 "BittenStickModel" "fell" "I") wd_542) (fun _ h9 => h9) rfl dX12_pairOf_84 ?_
            refine lv_iload hx₀ hb dX12_pairOf_87 (lv_at hl 3 rfl) ?_
            refine lv_icmp_le (tgt := 97) hx₀ hb dX12_pairOf_89 (by decide) (fun c_18 => ?_) (fun c_18 => ?_)
            · refine lv_iload_n hx₀ hb dX12_pairOf_97 rfl (lv_at hl 4 rfl) ?_
              refine lv_istore_n (lv' := [(3, .int bez1), (7, .int (cdz1 - cdz1 / 8 * 8)), (6, .int (cdz1 / 8)), (5, .int cdz1), (4, .int faz1), (0, .ref hm), (1, .int f1), (2, .int w1)]) hx₀ hb dX12_pairOf_98 rfl hl (by decide) rfl (fun ls hl => ?_)
              refine lv_aload_n hx₀ hb dX12_pairOf_99 rfl (lv_at hl 5 rfl) ?_
              refine va_get (D := (dC, dI)) (ci := 11) (v := .int (g_8 1)) (C := RX12) (T := TX12) (N := 30) hx₀ hb hts inlX12 hown hK hP 1 rfl rfl 18 (by decide) (hts (.fieldLink RX12 193 "BittenStickModel" "fell" "I") wd_542) (fun _ h9 => h9) rfl dX12_pairOf_100 ?_
              refine lv_iload hx₀ hb dX12_pairOf_103 (lv_at hl 4 rfl) ?_
              refine lv_icmp_le (tgt := 115) hx₀ hb dX12_pairOf_105 (by decide) (fun _ => ?_) (fun c9 => absurd c_18 c9)
              refine lv_iload hx₀ hb dX12_pairOf_115 (lv_at hl 4 rfl) ?_
              refine lv_istore (lv' := [(4, .int faz1), (3, .int bez1), (7, .int (cdz1 - cdz1 / 8 * 8)), (6, .int (cdz1 / 8)), (5, .int cdz1), (0, .ref hm), (1, .int f1), (2, .int w1)]) hx₀ hb dX12_pairOf_117 hl (by decide) rfl (fun ls hl => ?_)
              refine lv_iinc (v := cdz1 + 1) (lv' := [(5, .int (cdz1 + 1)), (4, .int faz1), (3, .int bez1), (7, .int (cdz1 - cdz1 / 8 * 8)), (6, .int (cdz1 / 8)), (0, .ref hm), (1, .int f1), (2, .int w1)]) hx₀ hb dX12_pairOf_119 hl (k := 4) rfl rfl (by decide) rfl (fun ls hl => ?_)
              refine lv_goto (tgt := 8) hx₀ hb dX12_pairOf_122 (by decide) ?_
              exact ihz1 _ (lf_g_pairOf_8 gn cdz1 jz1 hh2 hiz1_0 hjz1 c_2 c_4 c_5 c_6) bez1 faz1 (cdz1 + 1) (g_8 0) (g_8 1) (g_8 2) (g_8 3) (g_8 4) _ _ _ _ _ _ _ (lf_g_pairOf_7 gn cdz1 jz1 hh2 hiz1_0 hjz1 c_2 c_4 c_5 c_6) (kPq_n hiz1_1 (c_2) ⟨c_4, (Int32.not_le.mp c_5), (Int32.not_le.mp c_6)⟩ (kO_done c_17).1 (Int32.not_lt.mpr c_18)) (c_13) (c_14) (c_15) (c_16) rfl (hP.sub [1, 2, 3, 4, 5, 6, 7, 8, 0] rfl) (hD.sub [1, 2, 3, 4, 5, 6, 7, 8, 0] (by decide +kernel) rfl) hS (lv_sub hl [0, 1, 2, 5, 6, 7] rfl)
            · refine lv_iload hx₀ hb dX12_pairOf_92 (lv_at hl 2 rfl) ?_
              refine lv_goto (tgt := 98) hx₀ hb dX12_pairOf_94 (by decide) ?_
              refine lv_istore_n (lv' := [(3, .int cdz1), (7, .int (cdz1 - cdz1 / 8 * 8)), (6, .int (cdz1 / 8)), (5, .int cdz1), (4, .int faz1), (0, .ref hm), (1, .int f1), (2, .int w1)]) hx₀ hb dX12_pairOf_98 rfl hl (by decide) rfl (fun ls hl => ?_)
              refine lv_aload_n hx₀ hb dX12_pairOf_99 rfl (lv_at hl 5 rfl) ?_
              refine va_get (D := (dC, dI)) (ci := 11) (v := .int (g_8 1)) (C := RX12) (T := TX12) (N := 30) hx₀ hb hts inlX12 hown hK hP 1 rfl rfl 18 (by decide) (hts (.fieldLink RX12 193 "BittenStickModel" "fell" "I") wd_542) (fun _ h9 => h9) rfl dX12_pairOf_100 ?_
              refine lv_iload hx₀ hb dX12_pairOf_103 (lv_at hl 4 rfl) ?_
              refine lv_icmp_le (tgt := 115) hx₀ hb dX12_pairOf_105 (by decide) (fun c9 => absurd c9 c_18) (fun _ => ?_)
              refine lv_aload_n hx₀ hb dX12_pairOf_108 rfl (lv_at hl 5 rfl) ?_
              refine va_get (D := (dC, dI)) (ci := 11) (v := .int (g_8 1)) (C := RX12) (T := TX12) (N := 30) hx₀ hb hts inlX12 hown hK hP 1 rfl rfl 18 (by decide) (hts (.fieldLink RX12 193 "BittenStickModel" "fell" "I") wd_542) (fun _ h9 => h9) rfl dX12_pairOf_109 ?_
              refine lv_goto (tgt := 117) hx₀ hb dX12_pairOf_112 (by decide) ?_
              refine lv_istore (lv' := [(4, .int (g_8 1)), (3, .int cdz1), (7, .int (cdz1 - cdz1 / 8 * 8)), (6, .int (cdz1 / 8)), (5, .int cdz1), (0, .ref hm), (1, .int f1), (2, .int w1)]) hx₀ hb dX12_pairOf_117 hl (by decide) rfl (fun ls hl => ?_)
              refine lv_iinc (v := cdz1 + 1) (lv' := [(5, .int (cdz1 + 1)), (4, .int (g_8 1)), (3, .int cdz1), (7, .int (cdz1 - cdz1 / 8 * 8)), (6, .int (cdz1 / 8)), (0, .ref hm), (1, .int f1), (2, .int w1)]) hx₀ hb dX12_pairOf_119 hl (k := 4) rfl rfl (by decide) rfl (fun ls hl => ?_)
              refine lv_goto (tgt := 8) hx₀ hb dX12_pairOf_122 (by decide) ?_
              exact ihz1 _ (lf_g_pairOf_8 gn cdz1 jz1 hh2 hiz1_0 hjz1 c_2 c_4 c_5 c_6) cdz1 (g_8 1) (cdz1 + 1) (g_8 0) (g_8 1) (g_8 2) (g_8 3) (g_8 4) _ _ _ _ _ _ _ (lf_g_pairOf_7 gn cdz1 jz1 hh2 hiz1_0 hjz1 c_2 c_4 c_5 c_6) (kPq_y hiz1_1 (c_2) ⟨c_4, (Int32.not_le.mp c_5), (Int32.not_le.mp c_6)⟩ (kO_done c_17).1 (Int32.not_le.mp c_18)) (c_13) (c_14) (c_15) (c_16) rfl (hP.sub [1, 2, 3, 4, 5, 6, 7, 8, 0] rfl) (hD.sub [1, 2, 3, 4, 5, 6, 7, 8, 0] (by decide +kernel) rfl) hS (lv_sub hl [0, 1, 2, 5, 6, 7] rfl)
set_option maxHeartbeats 4000000 in
set_option maxRecDepth 100000 in
theorem m_pair (l : Launch) (dC : Nat → ClassId) (dI : Nat → Nat → Nat) (cI cJ cQ : ClassId) (sz : Nat) (hm : Nat) (f1 : Int32) (w1 : Int32) (vFo : Nat) (vSi : Nat) (vIt : Nat) (vMo : Nat) (la : Int32) (vBy : Nat) (vTy : Nat) (mi : Int32) (vMi : Nat) (pn : Int32) (vPs : Nat) (gn : Int32) (vGs : Nat) (fn : Int32) (vFt : Nat) (le : Int32) (vTo : Nat) (kn : Int32) (fe : Int32) (en : Int32) (ca : Int32) (an : Int32) (co : Int32) (vPr : Nat) (vSt : Nat) (vFn : Nat) (sn : Int32) (vSg : Nat) (vAl : Nat) (dr : Int32) (qTy : Nat → Int32) (qBy : Nat → Int32) (qMi : Nat → Int32) (qPs : Nat → Int32) (qGs : Nat → Int32) (qTo : Nat → Int32) (qPr : Nat → Int32) (qSt : Nat → Int32) (qFn : Nat → Int32) (qFt : Nat → Int32) (hh0 : 0 ≤ (qTy 0).toInt ∧ (qTy 0).toInt ≤ 24) (hh1 : 0 ≤ (qTy 1).toInt ∧ (qTy 1).toInt ≤ 39) (hh2 : 0 ≤ (qTy 2).toInt ∧ (qTy 2).toInt ≤ 23) (hh3 : k_bd 2 0 7 qPr) (hh4 : 0 ≤ fe ∧ fe ≤ 24) (hh5 : en = 0 ∨ kn = 0 ∨ fe ≤ 23) (hh6 : 0 ≤ kn ∧ kn ≤ 24) (hh7 : 0 ≤ fn ∧ fn ≤ 8) (hh8 : ca = 16777215) (hh9 : k_bd 32 0 9 qFt) : Met l yX12_pair (kW yX12_pair cX12_pair 3 (some .int)) { frames := 5, cells := 0, slots := 0, locals := 111 } (kPre dC dI cI cJ cQ sz [.ref hm, .int f1, .int w1] [(kX12 hm vFo vSi vIt vMo la vBy vTy mi vMi pn vPs gn vGs fn vFt le vTo kn fe en ca an co vPr vSt vFn sn vSg vAl dr), (kAI vTy cI 3 qTy), (kAI vBy cI 120 qBy), (kAI vMi cI 24 qMi), (kAI vPs cI 32 qPs), (kAI vGs cI 16 qGs), (kAI vTo cI 96 qTo), (kAI vPr cI 2 qPr), (kAI vSt cI 2 qSt), (kAI vFn cI 2 qFn), (kAI vFt cI 32 qFt)]) (va_Qi (fun (r : Int32) (u : kS) => (r = if (0 ≤ f1 ∧ f1 < fn) ∧ 0 ≤ w1 ∧ w1 ≤ 1 then (if w1 = 0 then (kPq (fun x1 x2 => kOR (u.2.1 0) (u.2.1 1) (u.2.1 2) (u.1 0) (u.1 1) (u.1 2) le (kP0 qFt f1) x1 x2 (kP1 (u.2.1 1) (kP0 qFt f1)) (fun x8 => if x8 < (24 : Int32) then (kP3 qFt f1) else (0 : Int32))) (u.1 2) (kfu 64 0) 0 (-1) (-1)).2 else (kPq (fun x1 x2 => kOR (u.2.1 0) (u.2.1 1) (u.2.1 2) (u.1 0) (u.1 1) (u.1 2) le (kP0 qFt f1) x1 x2 (kP1 (u.2.1 1) (kP0 qFt f1)) (fun x8 => if x8 < (24 : Int32) then (kP3 qFt f1) else (0 : Int32))) (u.1 2) (kfu 64 0) 0 (-1) (-1)).1) else -2) ∧ (0 ≤ (u.1 0) ∧ (u.1 0) ≤ 24) ∧ (0 ≤ (u.1 1) ∧ (u.1 1) ≤ 8) ∧ (0 ≤ (u.1 2) ∧ (u.1 2) ≤ 8) ∧ (k_bd 2 0 7 (u.2.1 4)) ∧ (0 ≤ (u.1 4) ∧ (u.1 4) ≤ 24) ∧ ((u.1 5) = 0 ∨ (u.1 3) = 0 ∨ (u.1 4) ≤ 23) ∧ (0 ≤ (u.1 3) ∧ (u.1 3) ≤ 24) ∧ (k_tm (u.1 1) (u.2.1 1)) ∧ ((u.1 0) = kNm (qTy 0) (qTy 0) (kv4 qBy)) ∧ ((u.1 1) = kNm (kTh7 (qTy 1)) (qTy 1) (kv7 qBy)) ∧ ((u.1 2) = kNm (kTh2 (qTy 2)) (qTy 2) (kv2 qBy)) ∧ (k_ml (u.1 0) (u.2.1 0) (kv4 qBy)) ∧ (k_mq 5 4 (u.1 1) (qTy 1) (u.2.1 1) (kv7 qBy)) ∧ (k_mq 3 2 (u.1 2) (qTy 2) (u.2.1 2) (kv2 qBy))) (fun (u : kS) t₀ => kB dC dI cI cJ cQ (va_A [(kX12 hm vFo vSi vIt vMo la vBy vTy mi vMi pn vPs gn vGs fn vFt le vTo kn fe en ca an co vPr vSt vFn sn vSg vAl dr), (kAI vTy cI 3 qTy), (kAI vBy cI 120 qBy), (kAI vMi cI 24 qMi), (kAI vPs cI 32 qPs), (kAI vGs cI 16 qGs), (kAI vTo cI 96 qTo), (kAI vPr cI 2 qPr), (kAI vSt cI 2 qSt), (kAI vFn cI 2 qFn), (kAI vFt cI 32 qFt)] sz) [(kX12 hm vFo vSi vIt vMo la vBy vTy (u.1 0) vMi (u.1 1) vPs (u.1 2) vGs fn vFt le vTo (u.1 3) (u.1 4) (u.1 5) ca (u.1 6) (u.1 7) vPr vSt vFn sn vSg vAl dr), (kAI vTy cI 3 qTy), (kAI vBy cI 120 qBy), (kAI vMi cI 24 (u.2.1 0)), (kAI vPs cI 32 (u.2.1 1)), (kAI vGs cI 16 (u.2.1 2)), (kAI vTo cI 96 (u.2.1 3)), (kAI vPr cI 2 (u.2.1 4)), (kAI vSt cI 2 (u.2.1 5)), (kAI vFn cI 2 (u.2.1 6)), (kAI vFt cI 32 qFt)] t₀) (va_A [(kX12 hm vFo vSi vIt vMo la vBy vTy mi vMi pn vPs gn vGs fn vFt le vTo kn fe en ca an co vPr vSt vFn sn vSg vAl dr), (kAI vTy cI 3 qTy), (kAI vBy cI 120 qBy), (kAI vMi cI 24 qMi), (kAI vPs cI 32 qPs), (kAI vGs cI 16 qGs), (kAI vTo cI 96 qTo), (kAI vPr cI 2 qPr), (kAI vSt cI 2 qSt), (kAI vFn cI 2 qFn), (kAI vFt cI 32 qFt)] sz)) 0 0 (va_A [(kX12 hm vFo vSi vIt vMo la vBy vTy mi vMi pn vPs gn vGs fn vFt le vTo kn fe en ca an co vPr vSt vFn sn vSg vAl dr), (kAI vTy cI 3 qTy), (kAI vBy cI 120 qBy), (kAI vMi cI 24 qMi), (kAI vPs cI 32 qPs), (kAI vGs cI 16 qGs), (kAI vTo cI 96 qTo), (kAI vPr cI 2 qPr), (kAI vSt cI 2 qSt), (kAI vFn cI 2 qFn), (kAI vFt cI 32 qFt)] sz) := by
  refine Met.ofW (cc := cX12_pair) (maxL := 3) (ret := (some .int)) (by decide) rfl ?_
  intro p₀ e₀ s₀ m₀ args below meth c₀ s₁ B hml hv₀
  obtain ⟨rfl, hsz, hP, hK, hD0, hN⟩ := hv₀
  have hx₀ := B.exec
  have hb := B.bytes
  have hr := B.returns
  have hts := atoms_spec (ws := (kW yX12_pair cX12_pair 3 (some .int))) B.pre
  have hts := fun w h => hts w (List.mem_cons_of_mem _ h)
  have hown : s₀.vm.findClass RX12 = some m₀.cls := findClass_of_methodNamed B.named
  have hlocks := B.notSynchronized
  subst hsz
  have hD := hD0.self (sz := s₀.heap.size)
  generalize hAe : va_A [(kX12 hm vFo vSi vIt vMo la vBy vTy mi vMi pn vPs gn vGs fn vFt le vTo kn fe en ca an co vPr vSt vFn sn vSg vAl dr), (kAI vTy cI 3 qTy), (kAI vBy cI 120 qBy), (kAI vMi cI 24 qMi), (kAI vPs cI 32 qPs), (kAI vGs cI 16 qGs), (kAI vTo cI 96 qTo), (kAI vPr cI 2 qPr), (kAI vSt cI 2 qSt), (kAI vFn cI 2 qFn), (kAI vFt cI 32 qFt)] s₀.heap.size = A at hD ⊢
  have hA : ∀ q : Nat, s₀.heap.size ≤ q → A q := fun q h => by rw [← hAe]; exact Or.inr h
  have hS : va_S A s₀.heap s₀.heap [] := va_S.rf
  have hP : va_P (dC, dI) vwCl [(kX12 hm vFo vSi vIt vMo la vBy vTy mi vMi pn vPs gn vGs fn vFt le vTo kn fe en ca an co vPr vSt vFn sn vSg vAl dr), (kAI vTy cI 3 qTy), (kAI vBy cI 120 qBy), (kAI vMi cI 24 qMi), (kAI vPs cI 32 qPs), (kAI vGs cI 16 qGs), (kAI vTo cI 96 qTo), (kAI vPr cI 2 qPr), (kAI vSt cI 2 qSt), (kAI vFn cI 2 qFn), (kAI vFt cI 32 qFt)] s₀.heap := hP
  have hl := lv_entry ([.ref hm, .int f1, .int w1]) (n := 3) (Nat.le_of_ble_eq_true rfl)
  rw [lg_entry_eq]
  generalize (lg_sl ([.ref hm, .int f1, .int w1]) ++ List.replicate (3 - (lg_sl ([.ref hm, .int f1, .int w1])).length) Slot.unset).toArray = ls at hl ⊢
  have hl : lv_has ls 3 [(0, .ref hm), (1, .int f1), (2, .int w1)] := hl
  obtain ⟨H, hH⟩ : ∃ z : Heap, z = s₀.heap := ⟨_, rfl⟩
  rw [← hH] at hP
  have hS : va_S A s₀.heap H [] := by rw [hH]; exact hS
  refine k_heap hH ?_
  have hD : va_D A [(kX12 hm vFo vSi vIt vMo la vBy vTy mi vMi pn vPs gn vGs fn vFt le vTo kn fe en ca an co vPr vSt vFn sn vSg vAl dr), (kAI vTy cI 3 qTy), (kAI vBy cI 120 qBy), (kAI vMi cI 24 qMi), (kAI vPs cI 32 qPs), (kAI vGs cI 16 qGs), (kAI vTo cI 96 qTo), (kAI vPr cI 2 qPr), (kAI vSt cI 2 qSt), (kAI vFn cI 2 qFn), (kAI vFt cI 32 qFt)] := hD
  obtain ⟨locs, hlo⟩ : ∃ z : List Loc, z = [] := ⟨_, rfl⟩
  rw [← hlo] at hS ⊢
  clear hlo hH hAe hD0
  refine lv_aload_n hx₀ hb dX12_pair_0 rfl (lv_at hl 0 rfl) ?_
  obtain ⟨hPc, hDc, hFc, hC⟩ := k_cw (wc := [(kX12 hm vFo vSi vIt vMo la vBy vTy mi vMi pn vPs gn vGs fn vFt le vTo kn fe en ca an co vPr vSt vFn sn vSg vAl dr), (kAI vTy cI 3 qTy), (kAI vBy cI 120 qBy), (kAI vMi cI 24 qMi), (kAI vPs cI 32 qPs), (kAI vGs cI 16 qGs)]) hP hD hS hA [0, 1, 2, 3, 4, 5] (by decide +kernel) rfl
  refine va_callv (va_runV (As := []) (rest := []) ⟨hx₀, hb, hml, hown, hts⟩ (g_reads l dC dI cI cJ cQ H.size hm vFo vSi vIt vMo la vBy vTy mi vMi pn vPs gn vGs fn vFt le vTo kn fe en ca an co vPr vSt vFn sn vSg vAl dr qTy qBy qMi qPs qGs (hh0) (hh1) (hh2)) (cwV 0 hts (kGV wd_298 wd_295 wd_296 wd_297 wd_5) rfl rfl rfl (by decide +kernel) ⟨Nat.le_of_ble_eq_true rfl, Nat.le_of_ble_eq_true rfl⟩) (k_preV (ci := 11) (q0 := 0) hK hPc hDc hN rfl rfl) rfl rfl hl.1 rfl (lv_room (Nat.le_of_ble_eq_true rfl)) dX12_pair_1 ⟨by decide +kernel, by decide +kernel⟩) hS (fun q _ h => hFc q h) hFc (fun u₀ t₀ H1 locs ht hvm hw hB hz1 hk1 hS => ?_)
  obtain ⟨g_2, ga_3, gl_4, gb_5, gp_6⟩ := u₀
  obtain ⟨hP1, hK1, hD1⟩ := hB
  rw [ht] at hP1
  have hJ := k_jn (wr := [(kAI vTo cI 96 qTo), (kAI vPr cI 2 qPr), (kAI vSt cI 2 qSt), (kAI vFn cI 2 qFn), (kAI vFt cI 32 qFt)]) (wt := [(kAI vTo cI 96 qTo), (kAI vPr cI 2 qPr), (kAI vSt cI 2 qSt), (kAI vFn cI 2 qFn), (kAI vFt cI 32 qFt), (kX12 hm vFo vSi vIt vMo la vBy vTy (g_2 0) vMi (g_2 1) vPs (g_2 2) vGs fn vFt le vTo kn fe en ca an co vPr vSt vFn sn vSg vAl dr), (kAI vTy cI 3 qTy), (kAI vBy cI 120 qBy), (kAI vMi cI 24 (ga_3 0)), (kAI vPs cI 32 (ga_3 1)), (kAI vGs cI 16 (ga_3 2))]) hP hD hC [6, 7, 8, 9, 10] rfl (by decide +kernel) (by decide +kernel) hk1 hFc hP1 hD1 rfl
  clear hP hD hPc hDc hFc hC hP1 hD1 hK1 hz1 hk1 hvm ht
  obtain ⟨hP, hD⟩ := hJ
  generalize H1 = H at hP hS ⊢
  try dsimp only at hw
  obtain ⟨c_7, c_8, c_9, c_10, c_11, c_12, c_13, c_14, c_15, c_16⟩ := hw
  refine lv_aload_n hx₀ hb dX12_pair_4 rfl (lv_at hl 0 rfl) ?_
  refine lv_iload_n hx₀ hb dX12_pair_5 rfl (lv_at hl 1 rfl) ?_
  obtain ⟨hPc, hDc, hFc, hC⟩ := k_cw (wc := [(kX12 hm vFo vSi vIt vMo la vBy vTy (g_2 0) vMi (g_2 1) vPs (g_2 2) vGs fn vFt le vTo kn fe en ca an co vPr vSt vFn sn vSg vAl dr)]) hP hD hS hA [5] (by decide +kernel) rfl
  refine va_calli (va_runV (As := [.int f1]) (rest := []) ⟨hx₀, hb, hml, hown, hts⟩ (g_isFlight l dC dI cI cJ cQ H.size hm f1 vFo vSi vIt vMo la vBy vTy (g_2 0) vMi (g_2 1) vPs (g_2 2) vGs fn vFt le vTo kn fe en ca an co vPr vSt vFn sn vSg vAl dr (hh7)) (cwV 1 hts (kGV wd_528 wd_525 wd_526 wd_527 wd_5) rfl rfl rfl (by decide +kernel) ⟨Nat.le_of_ble_eq_true rfl, Nat.le_of_ble_eq_true rfl⟩) (k_preV (ci := 11) (q0 := 0) hK hPc hDc hN rfl rfl) rfl rfl hl.1 rfl (lv_room (Nat.le_of_ble_eq_true rfl)) dX12_pair_6 ⟨by decide +kernel, by decide +kernel⟩) hS (fun q _ h => hFc q h) hFc (fun r_17 u₀ t₀ H1 locs ht hvm hw hB hz1 hk1 hS => ?_)
  obtain ⟨hP1, hK1, hD1⟩ := hB
  rw [ht] at hP1
  have hJ := k_jn (wr := [(kAI vTo cI 96 qTo), (kAI vPr cI 2 qPr), (kAI vSt cI 2 qSt), (kAI vFn cI 2 qFn), (kAI vFt cI 32 qFt), (kAI vTy cI 3 qTy), (kAI vBy cI 120 qBy), (kAI vMi cI 24 (ga_3 0)), (kAI vPs cI 32 (ga_3 1)), (kAI vGs cI 16 (ga_3 2))]) (wt := [(kAI vTo cI 96 qTo), (kAI vPr cI 2 qPr), (kAI vSt cI 2 qSt), (kAI vFn cI 2 qFn), (kAI vFt cI 32 qFt), (kAI vTy cI 3 qTy), (kAI vBy cI 120 qBy), (kAI vMi cI 24 (ga_3 0)), (kAI vPs cI 32 (ga_3 1)), (kAI vGs cI 16 (ga_3 2)), (kX12 hm vFo vSi vIt vMo la vBy vTy (g_2 0) vMi (g_2 1) vPs (g_2 2) vGs fn vFt le vTo kn fe en ca an co vPr vSt vFn sn vSg vAl dr)]) hP hD hC [0, 1, 2, 3, 4, 6, 7, 8, 9, 10] rfl (by decide +kernel) (by decide +kernel) hk1 hFc hP1 hD1 rfl
  clear hP hD hPc hDc hFc hC hP1 hD1 hK1 hz1 hk1 hvm ht
  obtain ⟨hP, hD⟩ := hJ
  generalize H1 = H at hP hS ⊢
  try dsimp only at hw
  by_cases c_18 : 0 ≤ f1 ∧ f1 < fn
  · rw [if_pos c_18] at hw
    refine k_topi (v := 1) hw ?_
    refine lv_if_eq (tgt := 28) hx₀ hb dX12_pair_9 (by decide) (fun c9 => absurd c9 (by decide +kernel)) (fun _ => ?_)
    refine lv_iload_n hx₀ hb dX12_pair_12 rfl (lv_at hl 2 rfl) ?_
    obtain ⟨hPc, hDc, hFc, hC⟩ := k_cw (wc := []) hP hD hS hA [] (by decide +kernel) rfl
    refine va_calli (va_runS (As := [.int w1]) (rest := []) ⟨hx₀, hb, hml, hown, hts⟩ (c_isTwo l dC dI cI cJ cQ H.size w1) (va_cwS 1 hts (kGS wd_348 wd_346 wd_347 wd_5) rfl rfl rfl (by decide +kernel) ⟨Nat.le_of_ble_eq_true rfl, Nat.le_of_ble_eq_true rfl⟩) (k_preS hK hPc hDc hN) rfl rfl hl.1 rfl (lv_room (Nat.le_of_ble_eq_true rfl)) dX12_pair_13 ⟨by decide +kernel, by decide +kernel⟩) hS (fun q _ h => hFc q h) hFc (fun r_19 u₀ t₀ H1 locs ht hvm hw hB hz1 hk1 hS => ?_)
    obtain ⟨hP1, hK1, hD1⟩ := hB
    rw [ht] at hP1
    have hJ := k_jn (wr := [(kAI vTo cI 96 qTo), (kAI vPr cI 2 qPr), (kAI vSt cI 2 qSt), (kAI vFn cI 2 qFn), (kAI vFt cI 32 qFt), (kAI vTy cI 3 qTy), (kAI vBy cI 120 qBy), (kAI vMi cI 24 (ga_3 0)), (kAI vPs cI 32 (ga_3 1)), (kAI vGs cI 16 (ga_3 2)), (kX12 hm vFo vSi vIt vMo la vBy vTy (g_2 0) vMi (g_2 1) vPs (g_2 2) vGs fn vFt le vTo kn fe en ca an co vPr vSt vFn sn vSg vAl dr)]) (wt := [(kAI vTo cI 96 qTo), (kAI vPr cI 2 qPr), (kAI vSt cI 2 qSt), (kAI vFn cI 2 qFn), (kAI vFt cI 32 qFt), (kAI vTy cI 3 qTy), (kAI vBy cI 120 qBy), (kAI vMi cI 24 (ga_3 0)), (kAI vPs cI 32 (ga_3 1)), (kAI vGs cI 16 (ga_3 2)), (kX12 hm vFo vSi vIt vMo la vBy vTy (g_2 0) vMi (g_2 1) vPs (g_2 2) vGs fn vFt le vTo kn fe en ca an co vPr vSt vFn sn vSg vAl dr)]) hP hD hC [0, 1, 2, 3, 4, 5, 6, 7, 8, 9, 10] rfl (by decide +kernel) (by decide +kernel) hk1 hFc hP1 hD1 rfl
    clear hP hD hPc hDc hFc hC hP1 hD1 hK1 hz1 hk1 hvm ht
    obtain ⟨hP, hD⟩ := hJ
    generalize H1 = H at hP hS ⊢
    try dsimp only at hw
    by_cases c_20 : 0 ≤ w1 ∧ w1 ≤ 1
    · rw [if_pos c_20] at hw
      refine k_topi (v := 1) hw ?_
      refine lv_if_eq (tgt := 28) hx₀ hb dX12_pair_16 (by decide) (fun c9 => absurd c9 (by decide +kernel)) (fun _ => ?_)
      refine lv_aload_n hx₀ hb dX12_pair_19 rfl (lv_at hl 0 rfl) ?_
      refine lv_iload_n hx₀ hb dX12_pair_20 rfl (lv_at hl 1 rfl) ?_
      refine lv_iload_n hx₀ hb dX12_pair_21 rfl (lv_at hl 2 rfl) ?_
      obtain ⟨hPc, hDc, hFc, hC⟩ := k_cw (wc := [(kX12 hm vFo vSi vIt vMo la vBy vTy (g_2 0) vMi (g_2 1) vPs (g_2 2) vGs fn vFt le vTo kn fe en ca an co vPr vSt vFn sn vSg vAl dr), (kAI vMi cI 24 (ga_3 0)), (kAI vPs cI 32 (ga_3 1)), (kAI vGs cI 16 (ga_3 2)), (kAI vTo cI 96 qTo), (kAI vPr cI 2 qPr), (kAI vSt cI 2 qSt), (kAI vFn cI 2 qFn), (kAI vFt cI 32 qFt)]) hP hD hS hA [10, 7, 8, 9, 0, 1, 2, 3, 4] (by decide +kernel) rfl
      refine va_calli (va_runV (As := [.int f1, .int w1]) (rest := []) ⟨hx₀, hb, hml, hown, hts⟩ (e_pairOf l dC dI cI cJ cQ H.size hm f1 w1 vFo vSi vIt vMo la vBy vTy (g_2 0) vMi (g_2 1) vPs (g_2 2) vGs fn vFt le vTo kn fe en ca an co vPr vSt vFn sn vSg vAl dr (ga_3 0) (ga_3 1) (ga_3 2) qTo qPr qSt qFn qFt (c_7) (c_8) (c_9) (hh3) (hh4) (hh5) (hh6) (lf_g_flies_3 fn f1 hh7 c_18) (c_10) (hh8) (hh9)) (cwV 2 hts (kGV wd_685 wd_682 wd_683 wd_684 wd_5) rfl rfl rfl (by decide +kernel) ⟨Nat.le_of_ble_eq_true rfl, Nat.le_of_ble_eq_true rfl⟩) (k_preV (ci := 11) (q0 := 0) hK hPc hDc hN rfl rfl) rfl rfl hl.1 rfl (lv_room (Nat.le_of_ble_eq_true rfl)) dX12_pair_22 ⟨by decide +kernel, by decide +kernel⟩) hS (fun q _ h => hFc q h) hFc (fun r_21 u₀ t₀ H1 locs ht hvm hw hB hz1 hk1 hS => ?_)
      obtain ⟨g_22, ga_23, gl_24, gb_25, gp_26⟩ := u₀
      obtain ⟨hP1, hK1, hD1⟩ := hB
      rw [ht] at hP1
      have hJ := k_jn (wr := [(kAI vTy cI 3 qTy), (kAI vBy cI 120 qBy)]) (wt := [(kAI vTy cI 3 qTy), (kAI vBy cI 120 qBy), (kX12 hm vFo vSi vIt vMo la vBy vTy (g_2 0) vMi (g_2 1) vPs (g_2 2) vGs fn vFt le vTo (g_22 0) (g_22 1) (g_22 2) ca (g_22 3) (g_22 4) vPr vSt vFn sn vSg vAl dr), (kAI vMi cI 24 (ga_3 0)), (kAI vPs cI 32 (ga_3 1)), (kAI vGs cI 16 (ga_3 2)), (kAI vTo cI 96 (ga_23 0)), (kAI vPr cI 2 (ga_23 1)), (kAI vSt cI 2 (ga_23 2)), (kAI vFn cI 2 (ga_23 3)), (kAI vFt cI 32 qFt)]) hP hD hC [5, 6] rfl (by decide +kernel) (by decide +kernel) hk1 hFc hP1 hD1 rfl
      clear hP hD hPc hDc hFc hC hP1 hD1 hK1 hz1 hk1 hvm ht
      obtain ⟨hP, hD⟩ := hJ
      generalize H1 = H at hP hS ⊢
      try dsimp only at hw
      obtain ⟨c_27, c_28, c_29, c_30, c_31⟩ := hw
      refine lv_goto (tgt := 30) hx₀ hb dX12_pair_25 (by decide) ?_
      obtain ⟨hP9, hD9⟩ := k_c2 (wc := [(kX12 hm vFo vSi vIt vMo la vBy vTy (g_2 0) vMi (g_2 1) vPs (g_2 2) vGs fn vFt le vTo (g_22 0) (g_22 1) (g_22 2) ca (g_22 3) (g_22 4) vPr vSt vFn sn vSg vAl dr), (kAI vTy cI 3 qTy), (kAI vBy cI 120 qBy), (kAI vMi cI 24 (ga_3 0)), (kAI vPs cI 32 (ga_3 1)), (kAI vGs cI 16 (ga_3 2)), (kAI vTo cI 96 (ga_23 0)), (kAI vPr cI 2 (ga_23 1)), (kAI vSt cI 2 (ga_23 2)), (kAI vFn cI 2 (ga_23 3)), (kAI vFt cI 32 qFt)]) hP hD [2, 0, 1, 3, 4, 5, 6, 7, 8, 9, 10] (by decide +kernel) rfl
      exact W.iret (v := r_21) hx₀ hb hr (fun t₀ ht hW => ⟨⟨r_21, (k_fn [(g_2 0), (g_2 1), (g_2 2), (g_22 0), (g_22 1), (g_22 2), (g_22 3), (g_22 4)], k_fa [(ga_3 0), (ga_3 1), (ga_3 2), ga_23 0, ga_23 1, ga_23 2, ga_23 3], k_fl [], k_fL [], k_fp []), rfl, ⟨(c_27.trans (if_pos (show (0 ≤ f1 ∧ f1 < fn) ∧ 0 ≤ w1 ∧ w1 ≤ 1 from ⟨⟨c_18.1, c_18.2⟩, c_20.1, c_20.2⟩)).symm), c_7, c_8, c_9, c_28, c_29, c_30, c_31, c_10, c_11, c_12, c_13, c_14, c_15, c_16⟩, by rw [ht]; exact hP9, va_K.moved hW.alike hK, hD9⟩, hS.F ht⟩) hS.2.2 dX12_pair_30
    rw [if_neg c_20] at hw
    refine k_topi (v := 0) hw ?_
    refine lv_if_eq (tgt := 28) hx₀ hb dX12_pair_16 (by decide) (fun _ => ?_) (fun c9 => absurd (by decide +kernel) c9)
    refine lv_bipush (v := (-2)) hx₀ hb dX12_pair_28 (by decide +kernel) ?_
    obtain ⟨hP9, hD9⟩ := k_c2 (wc := [(kX12 hm vFo vSi vIt vMo la vBy vTy (g_2 0) vMi (g_2 1) vPs (g_2 2) vGs fn vFt le vTo kn fe en ca an co vPr vSt vFn sn vSg vAl dr), (kAI vTy cI 3 qTy), (kAI vBy cI 120 qBy), (kAI vMi cI 24 (ga_3 0)), (kAI vPs cI 32 (ga_3 1)), (kAI vGs cI 16 (ga_3 2)), (kAI vTo cI 96 qTo), (kAI vPr cI 2 qPr), (kAI vSt cI 2 qSt), (kAI vFn cI 2 qFn), (kAI vFt cI 32 qFt)]) hP hD [10, 5, 6, 7, 8, 9, 0, 1, 2, 3, 4] (by decide +kernel) rfl
    exact W.iret (v := (-2)) hx₀ hb hr (fun t₀ ht hW => ⟨⟨(-2), (k_fn [(g_2 0), (g_2 1), (g_2 2), kn, fe, en, an, co], k_fa [ga_3 0, ga_3 1, ga_3 2, qTo, qPr, qSt, qFn], k_fl [], k_fL [], k_fp []), rfl, ⟨(if_neg (show ¬ ((0 ≤ f1 ∧ f1 < fn) ∧ 0 ≤ w1 ∧ w1 ≤ 1) from (fun z => c_20 (And.intro z.2.1 z.2.2)))).symm, c_7, c_8, c_9, hh3, hh4, hh5, hh6, c_10, c_11, c_12, c_13, c_14, c_15, c_16⟩, by rw [ht]; exact hP9, va_K.moved hW.alike hK, hD9⟩, hS.F ht⟩) hS.2.2 dX12_pair_30
  rw [if_neg c_18] at hw
  refine k_topi (v := 0) hw ?_
  refine lv_if_eq (tgt := 28) hx₀ hb dX12_pair_9 (by decide) (fun _ => ?_) (fun c9 => absurd (by decide +kernel) c9)
  refine lv_bipush (v := (-2)) hx₀ hb dX12_pair_28 (by decide +kernel) ?_
  obtain ⟨hP9, hD9⟩ := k_c2 (wc := [(kX12 hm vFo vSi vIt vMo la vBy vTy (g_2 0) vMi (g_2 1) vPs (g_2 2) vGs fn vFt le vTo kn fe en ca an co vPr vSt vFn sn vSg vAl dr), (kAI vTy cI 3 qTy), (kAI vBy cI 120 qBy), (kAI vMi cI 24 (ga_3 0)), (kAI vPs cI 32 (ga_3 1)), (kAI vGs cI 16 (ga_3 2)), (kAI vTo cI 96 qTo), (kAI vPr cI 2 qPr), (kAI vSt cI 2 qSt), (kAI vFn cI 2 qFn), (kAI vFt cI 32 qFt)]) hP hD [10, 5, 6, 7, 8, 9, 0, 1, 2, 3, 4] (by decide +kernel) rfl
  exact W.iret (v := (-2)) hx₀ hb hr (fun t₀ ht hW => ⟨⟨(-2), (k_fn [(g_2 0), (g_2 1), (g_2 2), kn, fe, en, an, co], k_fa [ga_3 0, ga_3 1, ga_3 2, qTo, qPr, qSt, qFn], k_fl [], k_fL [], k_fp []), rfl, ⟨(if_neg (show ¬ ((0 ≤ f1 ∧ f1 < fn) ∧ 0 ≤ w1 ∧ w1 ≤ 1) from (fun z => c_18 z.1))).symm, c_7, c_8, c_9, hh3, hh4, hh5, hh6, c_10, c_11, c_12, c_13, c_14, c_15, c_16⟩, by rw [ht]; exact hP9, va_K.moved hW.alike hK, hD9⟩, hS.F ht⟩) hS.2.2 dX12_pair_30
