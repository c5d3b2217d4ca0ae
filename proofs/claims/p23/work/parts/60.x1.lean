theorem lf_e_agrees_1 (a0 : Int32) (a1 : Int32) (a2 : Int32) (a3 : Int32) (a4 : Int32) (a5 : Int32) (a6 : Nat) (h0 : 0 ≤ a0 ∧ a0 ≤ 24) (h1 : 0 ≤ a1 ∧ a1 ≤ 8) (h2 : 0 ≤ a2 ∧ a2 ≤ 8) (h3 : 0 ≤ a3) (h4 : a4 = a5) (h5 : (a2.toInt - a3.toInt).toNat = a6) (h6 : ¬ a2 ≤ a3) (h7 : 8 ≤ a3) : False := by
  first | rfl | assumption | decide | exact Or.inl rfl | (first | omega | (have hr0 := Int32.toInt_lt a0; have hs0 := Int32.le_toInt a0; have hr1 := Int32.toInt_lt a1; have hs1 := Int32.le_toInt a1; have hr2 := Int32.toInt_lt a2; have hs2 := Int32.le_toInt a2; have hr3 := Int32.toInt_lt a3; have hs3 := Int32.le_toInt a3; have hr4 := Int32.toInt_lt a4; have hs4 := Int32.le_toInt a4; have hr5 := Int32.toInt_lt a5; have hs5 := Int32.le_toInt a5; simp only [Int64.toInt_add, Int64.toInt_sub, Int32.toInt_add, Int32.toInt_sub, Int32.toInt_mul, Int64.le_iff_toInt_le, Int64.lt_iff_toInt_lt, Int32.le_iff_toInt_le, Int32.lt_iff_toInt_lt, ← Int32.toInt_inj, ← Int64.toInt_inj, Int32.toInt_toInt64, kc_0, kc_8, kc_24] at *; (first | omega | ((try simp (disch := omega) only [k_bm64] at *); (try simp (disch := omega) only [k_bm] at *); (try simp (disch := omega) only [k_bm] at *); omega) | (simp only [Int.bmod] at *; omega))))
theorem lf_e_agrees_2 (a0 : Int32) (a1 : Int32) (a2 : Nat) (h0 : 0 ≤ a0 ∧ a0 ≤ 8) (h1 : 0 ≤ a1) (h2 : (a0.toInt - a1.toInt).toNat = a2) (h3 : ¬ a0 ≤ a1) (h4 : ¬ 8 ≤ a1) : 0 ≤ a1.toInt ∧ a1.toInt < 8 := by
  first | rfl | assumption | decide | exact Or.inl rfl | (first | omega | (have hr0 := Int32.toInt_lt a0; have hs0 := Int32.le_toInt a0; have hr1 := Int32.toInt_lt a1; have hs1 := Int32.le_toInt a1; simp only [Int64.toInt_add, Int64.toInt_sub, Int32.toInt_add, Int32.toInt_sub, Int32.toInt_mul, Int64.le_iff_toInt_le, Int64.lt_iff_toInt_lt, Int32.le_iff_toInt_le, Int32.lt_iff_toInt_lt, ← Int32.toInt_inj, ← Int64.toInt_inj, Int32.toInt_toInt64, kc_0, kc_8] at *; (first | omega | ((try simp (disch := omega) only [k_bm64] at *); (try simp (disch := omega) only [k_bm] at *); (try simp (disch := omega) only [k_bm] at *); omega) | (simp only [Int.bmod] at *; omega))))
theorem lf_e_agrees_3 (a0 : Int32) (a1 : Int32) (a2 : Nat) (h0 : 0 ≤ a0 ∧ a0 ≤ 8) (h1 : 0 ≤ a1) (h2 : (a0.toInt - a1.toInt).toNat = a2) (h3 : ¬ a0 ≤ a1) (h4 : ¬ 8 ≤ a1) : 0 ≤ (a1 + 1) := by
  first | rfl | assumption | decide | exact Or.inl rfl | (first | omega | (have hr0 := Int32.toInt_lt a0; have hs0 := Int32.le_toInt a0; have hr1 := Int32.toInt_lt a1; have hs1 := Int32.le_toInt a1; simp only [Int64.toInt_add, Int64.toInt_sub, Int32.toInt_add, Int32.toInt_sub, Int32.toInt_mul, Int64.le_iff_toInt_le, Int64.lt_iff_toInt_lt, Int32.le_iff_toInt_le, Int32.lt_iff_toInt_lt, ← Int32.toInt_inj, ← Int64.toInt_inj, Int32.toInt_toInt64, kc_0, kc_1, kc_8] at *; (first | omega | ((try simp (disch := omega) only [k_bm64] at *); (try simp (disch := omega) only [k_bm] at *); (try simp (disch := omega) only [k_bm] at *); omega) | (simp only [Int.bmod] at *; omega))))
theorem lf_e_agrees_4 (a0 : Int32) (a1 : Int32) (a2 : Nat) (h0 : 0 ≤ a0 ∧ a0 ≤ 8) (h1 : 0 ≤ a1) (h2 : (a0.toInt - a1.toInt).toNat = a2) (h3 : ¬ a0 ≤ a1) (h4 : ¬ 8 ≤ a1) : (a0.toInt - (a1 + 1).toInt).toNat < a2 := by
  first | rfl | assumption | decide | exact Or.inl rfl | (first | omega | (have hr0 := Int32.toInt_lt a0; have hs0 := Int32.le_toInt a0; have hr1 := Int32.toInt_lt a1; have hs1 := Int32.le_toInt a1; simp only [Int64.toInt_add, Int64.toInt_sub, Int32.toInt_add, Int32.toInt_sub, Int32.toInt_mul, Int64.le_iff_toInt_le, Int64.lt_iff_toInt_lt, Int32.le_iff_toInt_le, Int32.lt_iff_toInt_lt, ← Int32.toInt_inj, ← Int64.toInt_inj, Int32.toInt_toInt64, kc_0, kc_1, kc_8] at *; (first | omega | ((try simp (disch := omega) only [k_bm64] at *); (try simp (disch := omega) only [k_bm] at *); (try simp (disch := omega) only [k_bm] at *); omega) | (simp only [Int.bmod] at *; omega))))
set_option maxHeartbeats 4000000 in
set_option maxRecDepth 100000 in
theorem e_agrees (l : Launch) (dC : Nat → ClassId) (dI : Nat → Nat → Nat) (cI cJ cQ : ClassId) (sz : Nat) (hx : Nat) (p1 : Int32) (s1 : Int32) (f1 : Int32) (h1 : Int32) (aLa : Nat) (aPa : Nat) (aGe : Nat) (aFl : Nat) (aTr : Nat) (aBe : Nat) (aLu : Nat) (aLo : Nat) (vSf : Nat) (vSm : Nat) (vCo : Nat) (vSh : Nat) (xs : Int32) (xl : Int32) (xf : Int32) (gL : Nat) (gR : Nat) (lf : Nat) (rt : Nat) (tgo : Int32) (tca : Int32) (tki : Int32) (tso : Int32) (tbe : Int32) (twe : Int32) (tle : Int32) (tan : Int32) (tco : Int32) (ten : Int32) (u0 : Int32) (u1 : Int32) (u2 : Int32) (u3 : Int32) (v0 : Int32) (v1 : Int32) (v2 : Int32) (v3 : Int32) (vLa : Nat) (l4 : Int32) (a4 : Int32) (n4 : Int32) (f4 : Nat → Int32) (vPa : Nat) (l7 : Int32) (a7 : Int32) (n7 : Int32) (f7 : Nat → Int32) (vGe : Nat) (l2 : Int32) (a2 : Int32) (n2 : Int32) (f2 : Nat → Int32) (vFl : Nat) (xn : Int32) (ff : Nat → Int32) (sf : Nat → Int32) (sm : Nat → Int32) (hh0 : 0 ≤ n4 ∧ n4 ≤ 24) (hh1 : 0 ≤ xn ∧ xn ≤ 8) (hh2 : 0 ≤ xs ∧ xs ≤ 8) : Met l yX11_agreesWithSeen (kW yX11_agreesWithSeen cX11_agreesWithSeen 9 (some .boolean)) { frames := 3, cells := 0, slots := 0, locals := 70 } (kPre dC dI cI cJ cQ sz [.ref hx, .int p1, .int s1, .int f1, .int h1] [(kX11 hx aLa aPa aGe aFl aTr aBe aLu aLo vSf vSm vCo vSh xs xl xf), (kX10 aTr aLa aPa aGe gL gR lf rt tgo tca tki tso tbe twe tle tan tco ten), (kX3 gL u0 u1 u2 u3), (kX3 gR v0 v1 v2 v3), (kX4 aLa vLa l4 a4 n4), (kAI vLa cI 24 f4), (kX7 aPa vPa l7 a7 n7), (kAI vPa cI 39 f7), (kX2 aGe vGe l2 a2 n2), (kAI vGe cI 23 f2), (kX1 aFl vFl xn), (kAI vFl cI 32 ff), (kAI vSf cI 8 sf), (kAI vSm cI 8 sm)]) (va_Qi (fun (r : Int32) (u : kS) => (r = (kAl xn (fun x9 => kOC f4 f7 f2 n4 n7 n2 xl (kIt xn ff x9 0) (kIt xn ff x9 1) (kIt xn ff x9 2) (if x9 = f1 then h1 else (kIt xn ff x9 3)) (if (kIt xn ff x9 0) = p1 then s1 else (kAt 39 f7 ((5 * (kIt xn ff x9 0)) + 1)))) (fun x9 => sf x9.toNatClampNeg) (fun x9 => sm x9.toNatClampNeg) (kfu xs 0) 0)) ∧ (r = 0 ∨ r = 1)) (fun (u : kS) t₀ => kB dC dI cI cJ cQ (va_A [(kX11 hx aLa aPa aGe aFl aTr aBe aLu aLo vSf vSm vCo vSh xs xl xf), (kX10 aTr aLa aPa aGe gL gR lf rt tgo tca tki tso tbe twe tle tan tco ten), (kX3 gL u0 u1 u2 u3), (kX3 gR v0 v1 v2 v3), (kX4 aLa vLa l4 a4 n4), (kAI vLa cI 24 f4), (kX7 aPa vPa l7 a7 n7), (kAI vPa cI 39 f7), (kX2 aGe vGe l2 a2 n2), (kAI vGe cI 23 f2), (kX1 aFl vFl xn), (kAI vFl cI 32 ff), (kAI vSf cI 8 sf), (kAI vSm cI 8 sm)] sz) [(kX11 hx aLa aPa aGe aFl aTr aBe aLu aLo vSf vSm vCo vSh xs xl xf), (kX10 aTr aLa aPa aGe gL gR (u.2.2.2.2 0) (u.2.2.2.2 1) (u.1 8) (u.1 9) (u.1 10) (u.1 11) (u.1 12) (u.1 13) (u.1 14) (u.1 15) (u.1 16) (u.1 17)), (kX3 gL (u.1 0) (u.1 1) (u.1 2) (u.1 3)), (kX3 gR (u.1 4) (u.1 5) (u.1 6) (u.1 7)), (kX4 aLa vLa l4 a4 n4), (kAI vLa cI 24 f4), (kX7 aPa vPa l7 a7 n7), (kAI vPa cI 39 f7), (kX2 aGe vGe l2 a2 n2), (kAI vGe cI 23 f2), (kX1 aFl vFl xn), (kAI vFl cI 32 ff), (kAI vSf cI 8 sf), (kAI vSm cI 8 sm)] t₀) (va_A [(kX11 hx aLa aPa aGe aFl aTr aBe aLu aLo vSf vSm vCo vSh xs xl xf), (kX10 aTr aLa aPa aGe gL gR lf rt tgo tca tki tso tbe twe tle tan tco ten), (kX3 gL u0 u1 u2 u3), (kX3 gR v0 v1 v2 v3), (kX4 aLa vLa l4 a4 n4), (kAI vLa cI 24 f4), (kX7 aPa vPa l7 a7 n7), (kAI vPa cI 39 f7), (kX2 aGe vGe l2 a2 n2), (kAI vGe cI 23 f2), (kX1 aFl vFl xn), (kAI vFl cI 32 ff), (kAI vSf cI 8 sf), (kAI vSm cI 8 sm)] sz)) 0 0 (va_A [(kX11 hx aLa aPa aGe aFl aTr aBe aLu aLo vSf vSm vCo vSh xs xl xf), (kX10 aTr aLa aPa aGe gL gR lf rt tgo tca tki tso tbe twe tle tan tco ten), (kX3 gL u0 u1 u2 u3), (kX3 gR v0 v1 v2 v3), (kX4 aLa vLa l4 a4 n4), (kAI vLa cI 24 f4), (kX7 aPa vPa l7 a7 n7), (kAI vPa cI 39 f7), (kX2 aGe vGe l2 a2 n2), (kAI vGe cI 23 f2), (kX1 aFl vFl xn), (kAI vFl cI 32 ff), (kAI vSf cI 8 sf), (kAI vSm cI 8 sm)] sz) := by
  refine Met.ofW (cc := cX11_agreesWithSeen) (maxL := 9) (ret := (some .boolean)) (by decide) rfl ?_
  intro p₀ e₀ s₀ m₀ args below meth c₀ s₁ B hml hv₀
  obtain ⟨rfl, hsz, hP, hK, hD0, hN⟩ := hv₀
  have hx₀ := B.exec
  have hb := B.bytes
  have hr := B.returns
  have hts := atoms_spec (ws := (kW yX11_agreesWithSeen cX11_agreesWithSeen 9 (some .boolean))) B.pre
  have hts := fun w h => hts w (List.mem_cons_of_mem _ h)
  have hown : s₀.vm.findClass RX11 = some m₀.cls := findClass_of_methodNamed B.named
  have hlocks := B.notSynchronized
  subst hsz
  have hD := hD0.self (sz := s₀.heap.size)
  generalize hAe : va_A [(kX11 hx aLa aPa aGe aFl aTr aBe aLu aLo vSf vSm vCo vSh xs xl xf), (kX10 aTr aLa aPa aGe gL gR lf rt tgo tca tki tso tbe twe tle tan tco ten), (kX3 gL u0 u1 u2 u3), (kX3 gR v0 v1 v2 v3), (kX4 aLa vLa l4 a4 n4), (kAI vLa cI 24 f4), (kX7 aPa vPa l7 a7 n7), (kAI vPa cI 39 f7), (kX2 aGe vGe l2 a2 n2), (kAI vGe cI 23 f2), (kX1 aFl vFl xn), (kAI vFl cI 32 ff), (kAI vSf cI 8 sf), (kAI vSm cI 8 sm)] s₀.heap.size = A at hD ⊢
  have hA : ∀ q : Nat, s₀.heap.size ≤ q → A q := fun q h => by rw [← hAe]; exact Or.inr h
  have hS : va_S A s₀.heap s₀.heap [] := va_S.rf
  have hP : va_P (dC, dI) vwCl [(kX11 hx aLa aPa aGe aFl aTr aBe aLu aLo vSf vSm vCo vSh xs xl xf), (kX10 aTr aLa aPa aGe gL gR lf rt tgo tca tki tso tbe twe tle tan tco ten), (kX3 gL u0 u1 u2 u3), (kX3 gR v0 v1 v2 v3), (kX4 aLa vLa l4 a4 n4), (kAI vLa cI 24 f4), (kX7 aPa vPa l7 a7 n7), (kAI vPa cI 39 f7), (kX2 aGe vGe l2 a2 n2), (kAI vGe cI 23 f2), (kX1 aFl vFl xn), (kAI vFl cI 32 ff), (kAI vSf cI 8 sf), (kAI vSm cI 8 sm)] s₀.heap := hP
  have hl := lv_entry ([.ref hx, .int p1, .int s1, .int f1, .int h1]) (n := 9) (Nat.le_of_ble_eq_true rfl)
  rw [lg_entry_eq]
  generalize (lg_sl ([.ref hx, .int p1, .int s1, .int f1, .int h1]) ++ List.replicate (9 - (lg_sl ([.ref hx, .int p1, .int s1, .int f1, .int h1])).length) Slot.unset).toArray = ls at hl ⊢
  have hl : lv_has ls 9 [(0, .ref hx), (1, .int p1), (2, .int s1), (3, .int f1), (4, .int h1)] := hl
  obtain ⟨H, hH⟩ : ∃ z : Heap, z = s₀.heap := ⟨_, rfl⟩
  rw [← hH] at hP
  have hS : va_S A s₀.heap H [] := by rw [hH]; exact hS
  refine k_heap hH ?_
  have hD : va_D A [(kX11 hx aLa aPa aGe aFl aTr aBe aLu aLo vSf vSm vCo vSh xs xl xf), (kX10 aTr aLa aPa aGe gL gR lf rt tgo tca tki tso tbe twe tle tan tco ten), (kX3 gL u0 u1 u2 u3), (kX3 gR v0 v1 v2 v3), (kX4 aLa vLa l4 a4 n4), (kAI vLa cI 24 f4), (kX7 aPa vPa l7 a7 n7), (kAI vPa cI 39 f7), (kX2 aGe vGe l2 a2 n2), (kAI vGe cI 23 f2), (kX1 aFl vFl xn), (kAI vFl cI 32 ff), (kAI vSf cI 8 sf), (kAI vSm cI 8 sm)] := hD
  obtain ⟨locs, hlo⟩ : ∃ z : List Loc, z = [] := ⟨_, rfl⟩
  rw [← hlo] at hS ⊢
  clear hlo hH hAe hD0
  refine lv_aload_n hx₀ hb dX11_agreesWithSeen_0 rfl (lv_at hl 0 rfl) ?_
  refine va_get (D := (dC, dI)) (ci := 10) (v := .ref aTr) (C := RX11) (T := TX11) (N := 15) hx₀ hb hts inlX11 hown hK hP 0 rfl rfl 4 (by decide) (hts (.fieldLink RX11 42 "BittenStick" "trip" "LBittenStick$Trip;") wd_31) (fun _ h9 => h9) rfl dX11_agreesWithSeen_1 ?_
  refine lv_aload_n hx₀ hb dX11_agreesWithSeen_4 rfl (lv_at hl 0 rfl) ?_
  refine va_get (D := (dC, dI)) (ci := 10) (v := .int xl) (C := RX11) (T := TX11) (N := 15) hx₀ hb hts inlX11 hown hK hP 0 rfl rfl 13 (by decide) (hts (.fieldLink RX11 146 "BittenStick" "learned" "I") wd_411) (fun _ h9 => h9) rfl dX11_agreesWithSeen_5 ?_
  refine va_put (D := (dC, dI)) (ci := 9) (v := .int xl) (ty := .int) (C := RX10) (T := TX10) (N := 17) hx₀ hb hts inlX10 tyX10 tyX10_ok nmX10 hown hK hP hD hS 1 rfl rfl 13 (by decide) (hts (.fieldLink RX11 184 "BittenStick$Trip" "learned" "I") wd_431) (fun _ h9 => h9) rfl (by decide +kernel) rfl rfl (Nat.le_of_ble_eq_true rfl) dX11_agreesWithSeen_8 ?_
  clear hP hD hS
  intro H locs hP hD hS
  replace hP := k_w2 (wt := [(kX11 hx aLa aPa aGe aFl aTr aBe aLu aLo vSf vSm vCo vSh xs xl xf), (kX10 aTr aLa aPa aGe gL gR lf rt tgo tca tki tso tbe twe xl tan tco ten), (kX3 gL u0 u1 u2 u3), (kX3 gR v0 v1 v2 v3), (kX4 aLa vLa l4 a4 n4), (kAI vLa cI 24 f4), (kX7 aPa vPa l7 a7 n7), (kAI vPa cI 39 f7), (kX2 aGe vGe l2 a2 n2), (kAI vGe cI 23 f2), (kX1 aFl vFl xn), (kAI vFl cI 32 ff), (kAI vSf cI 8 sf), (kAI vSm cI 8 sm)]) hP hD rfl
  replace hD := hP.2
  replace hP := hP.1
  refine lv_iconst (v := 0) hx₀ hb dX11_agreesWithSeen_11 (by decide +kernel) ?_
  refine lv_istore (lv' := [(5, .int 0), (0, .ref hx), (1, .int p1), (2, .int s1), (3, .int f1), (4, .int h1)]) hx₀ hb dX11_agreesWithSeen_12 hl (by decide) rfl (fun ls hl => ?_)
  refine (?keyz1 : ∀ (jz1 : Nat) (iz1 : Int32) (ygoez1 : Int32) (ycarz1 : Int32) (ykinz1 : Int32) (ysorz1 : Int32) (ybeaz1 : Int32) (yweiz1 : Int32) (yleaz1 : Int32) (yangz1 : Int32) (ycolz1 : Int32) (yendz1 : Int32) (pz1 : Nat) (qz1 : Nat) (w0z1 : Int32) (w1z1 : Int32) (w2z1 : Int32) (w3z1 : Int32) (z0z1 : Int32) (z1z1 : Int32) (z2z1 : Int32) (z3z1 : Int32) (H : Heap) (locs : List Loc) (ls : Array Slot), (0 ≤ iz1) → (yleaz1 = xl) → (k_al xn (fun x9 => kOC f4 f7 f2 n4 n7 n2 xl (kIt xn ff x9 0) (kIt xn ff x9 1) (kIt xn ff x9 2) (if x9 = f1 then h1 else (kIt xn ff x9 3)) (if (kIt xn ff x9 0) = p1 then s1 else (kAt 39 f7 ((5 * (kIt xn ff x9 0)) + 1)))) (fun x9 => sf x9.toNatClampNeg) (fun x9 => sm x9.toNatClampNeg) xs iz1 (kAl xn (fun x9 => kOC f4 f7 f2 n4 n7 n2 xl (kIt xn ff x9 0) (kIt xn ff x9 1) (kIt xn ff x9 2) (if x9 = f1 then h1 else (kIt xn ff x9 3)) (if (kIt xn ff x9 0) = p1 then s1 else (kAt 39 f7 ((5 * (kIt xn ff x9 0)) + 1)))) (fun x9 => sf x9.toNatClampNeg) (fun x9 => sm x9.toNatClampNeg) (kfu xs 0) 0)) → ((xs.toInt - iz1.toInt).toNat = jz1) → va_P (dC, dI) vwCl [(kX11 hx aLa aPa aGe aFl aTr aBe aLu aLo vSf vSm vCo vSh xs xl xf), (kX10 aTr aLa aPa aGe gL gR pz1 qz1 ygoez1 ycarz1 ykinz1 ysorz1 ybeaz1 yweiz1 yleaz1 yangz1 ycolz1 yendz1), (kX3 gL w0z1 w1z1 w2z1 w3z1), (kX3 gR z0z1 z1z1 z2z1 z3z1), (kX4 aLa vLa l4 a4 n4), (kAI vLa cI 24 f4), (kX7 aPa vPa l7 a7 n7), (kAI vPa cI 39 f7), (kX2 aGe vGe l2 a2 n2), (kAI vGe cI 23 f2), (kX1 aFl vFl xn), (kAI vFl cI 32 ff), (kAI vSf cI 8 sf), (kAI vSm cI 8 sm)] H → va_D A [(kX11 hx aLa aPa aGe aFl aTr aBe aLu aLo vSf vSm vCo vSh xs xl xf), (kX10 aTr aLa aPa aGe gL gR pz1 qz1 ygoez1 ycarz1 ykinz1 ysorz1 ybeaz1 yweiz1 yleaz1 yangz1 ycolz1 yendz1), (kX3 gL w0z1 w1z1 w2z1 w3z1), (kX3 gR z0z1 z1z1 z2z1 z3z1), (kX4 aLa vLa l4 a4 n4), (kAI vLa cI 24 f4), (kX7 aPa vPa l7 a7 n7), (kAI vPa cI 39 f7), (kX2 aGe vGe l2 a2 n2), (kAI vGe cI 23 f2), (kX1 aFl vFl xn), (kAI vFl cI 32 ff), (kAI vSf cI 8 sf), (kAI vSm cI 8 sm)] → va_S A s₀.heap H locs → lv_has ls 9 [(5, .int iz1), (0, .ref hx), (1, .int p1), (2, .int s1), (3, .int f1), (4, .int h1)] → W p₀ l e₀ _ s₀ m₀ _ below meth c₀ H locs _ _ _ (F0 m₀ 14 ls [])) _ (0 : Int32) tgo tca tki tso tbe twe xl tan tco ten lf rt u0 u1 u2 u3 v0 v1 v2 v3 H locs ls (show 0 ≤ (0 : Int32) from (by decide)) (rfl) (rfl) rfl hP hD hS hl
  clear hP hD hS hl
  intro jz1
  induction jz1 using Nat.strongRecOn with
  | ind jz1 ihz1 =>
    intro iz1 ygoez1 ycarz1 ykinz1 ysorz1 ybeaz1 yweiz1 yleaz1 yangz1 ycolz1 yendz1 pz1 qz1 w0z1 w1z1 w2z1 w3z1 z0z1 z1z1 z2z1 z3z1 H locs ls hiz1_0 hiz1_1 hiz1_2 hjz1 hP hD hS hl
    refine lv_iload hx₀ hb dX11_agreesWithSeen_14 (lv_at hl 0 rfl) ?_
    refine lv_aload_n hx₀ hb dX11_agreesWithSeen_16 rfl (lv_at hl 1 rfl) ?_
    refine va_get (D := (dC, dI)) (ci := 10) (v := .int xs) (C := RX11) (T := TX11) (N := 15) hx₀ hb hts inlX11 hown hK hP 0 rfl rfl 12 (by decide) (hts (.fieldLink RX11 193 "BittenStick" "seenNumber" "I") wd_690) (fun _ h9 => h9) rfl dX11_agreesWithSeen_17 ?_
    refine lv_icmp_ge (tgt := 154) hx₀ hb dX11_agreesWithSeen_20 (by decide) (fun c_2 => ?_) (fun c_2 => ?_)
    · refine lv_iconst (v := 1) hx₀ hb dX11_agreesWithSeen_154 (by decide +kernel) ?_
      obtain ⟨hP9, hD9⟩ := k_c2 (wc := [(kX11 hx aLa aPa aGe aFl aTr aBe aLu aLo vSf vSm vCo vSh xs xl xf), (kX10 aTr aLa aPa aGe gL gR pz1 qz1 ygoez1 ycarz1 ykinz1 ysorz1 ybeaz1 yweiz1 yleaz1 yangz1 ycolz1 yendz1), (kX3 gL w0z1 w1z1 w2z1 w3z1), (kX3 gR z0z1 z1z1 z2z1 z3z1), (kX4 aLa vLa l4 a4 n4), (kAI vLa cI 24 f4), (kX7 aPa vPa l7 a7 n7), (kAI vPa cI 39 f7), (kX2 aGe vGe l2 a2 n2), (kAI vGe cI 23 f2), (kX1 aFl vFl xn), (kAI vFl cI 32 ff), (kAI vSf cI 8 sf), (kAI vSm cI 8 sm)]) hP hD [0, 1, 2, 3, 4, 5, 6, 7, 8, 9, 10, 11, 12, 13] (by decide +kernel) rfl
      exact W.zret (v := 1) hx₀ hb hr (by decide +kernel) (fun t₀ ht hW => ⟨⟨1, (k_fn [w0z1, w1z1, w2z1, w3z1, z0z1, z1z1, z2z1, z3z1, ygoez1, ycarz1, ykinz1, ysorz1, ybeaz1, yweiz1, yleaz1, yangz1, ycolz1, yendz1], k_fa [], k_fl [], k_fL [], k_fp [pz1, qz1]), rfl, ⟨(kAl_e hiz1_2 (c_2)), (show (1 : Int32) = 0 ∨ (1 : Int32) = 1 from (Or.inr (rfl)))⟩, by rw [ht]; exact hP9, va_K.moved hW.alike hK, hD9⟩, hS.F ht⟩) hS.2.2 dX11_agreesWithSeen_155
    · refine lv_iload hx₀ hb dX11_agreesWithSeen_23 (lv_at hl 0 rfl) ?_
      refine lv_bipush (v := 8) hx₀ hb dX11_agreesWithSeen_25 (by decide +kernel) ?_
      refine lv_icmp_ge (tgt := 154) hx₀ hb dX11_agreesWithSeen_27 (by decide) (fun c9 => (lf_e_agrees_1 n4 xn xs iz1 yleaz1 xl jz1 hh0 hh1 hh2 hiz1_0 hiz1_1 hjz1 c_2 c9).elim) (fun c_3 => ?_)
      refine lv_aload_n hx₀ hb dX11_agreesWithSeen_30 rfl (lv_at hl 1 rfl) ?_
      refine va_get (D := (dC, dI)) (ci := 10) (v := .ref vSf) (C := RX11) (T := TX11) (N := 15) hx₀ hb hts inlX11 hown hK hP 0 rfl rfl 8 (by decide) (hts (.fieldLink RX11 67 "BittenStick" "seenFlights" "[I") wd_45) (fun _ h9 => h9) rfl dX11_agreesWithSeen_31 ?_
      refine lv_iload hx₀ hb dX11_agreesWithSeen_34 (lv_at hl 0 rfl) ?_
      refine va_iald hx₀ hb hK hP 12 0 rfl rfl (vp_in_iff.mpr (lf_e_agrees_2 xs iz1 jz1 hh2 hiz1_0 hjz1 c_2 c_3)) dX11_agreesWithSeen_36 ?_
      refine lv_topi (fun y_4 ey_4 => ?_)
      refine lv_istore (lv' := [(6, .int y_4), (5, .int iz1), (0, .ref hx), (1, .int p1), (2, .int s1), (3, .int f1), (4, .int h1)]) hx₀ hb dX11_agreesWithSeen_37 hl (by decide) rfl (fun ls hl => ?_)
      refine lv_aload_n hx₀ hb dX11_agreesWithSeen_39 rfl (lv_at hl 2 rfl) ?_
      refine va_get (D := (dC, dI)) (ci := 10) (v := .ref aFl) (C := RX11) (T := TX11) (N := 15) hx₀ hb hts inlX11 hown hK hP 0 rfl rfl 3 (by decide) (hts (.fieldLink RX11 33 "BittenStick" "flights" "LBittenStick$Flights;") wd_27) (fun _ h9 => h9) rfl dX11_agreesWithSeen_40 ?_
      refine lv_iload hx₀ hb dX11_agreesWithSeen_43 (lv_at hl 0 rfl) ?_
      obtain ⟨hPc, hDc, hFc, hC⟩ := k_cw (wc := [(kX1 aFl vFl xn)]) hP hD hS hA [10] (by decide +kernel) rfl
      refine va_calli (va_runV (As := [.int y_4]) (rest := []) ⟨hx₀, hb, hml, hown, hts⟩ (j_fHas l dC dI cI cJ cQ H.size aFl y_4 vFl xn) (cwV 1 hts (kGV wd_426 wd_423 wd_424 wd_425 wd_26) rfl rfl rfl (by decide +kernel) ⟨Nat.le_of_ble_eq_true rfl, Nat.le_of_ble_eq_true rfl⟩) (k_preV1 (q0 := 0) hK hPc hDc hN rfl) rfl rfl hl.1 rfl (lv_room (Nat.le_of_ble_eq_true rfl)) dX11_agreesWithSeen_45 ⟨by decide +kernel, by decide +kernel⟩) hS (fun q _ h => hFc q h) hFc (fun r_5 u₀ t₀ H1 locs ht hvm hw hB hz1 hk1 hS => ?_)
      obtain ⟨hP1, hK1, hD1⟩ := hB
      rw [ht] at hP1
      have hJ := k_jn (wr := [(kX11 hx aLa aPa aGe aFl aTr aBe aLu aLo vSf vSm vCo vSh xs xl xf), (kX10 aTr aLa aPa aGe gL gR pz1 qz1 ygoez1 ycarz1 ykinz1 ysorz1 ybeaz1 yweiz1 yleaz1 yangz1 ycolz1 yendz1), (kX3 gL w0z1 w1z1 w2z1 w3z1), (kX3 gR z0z1 z1z1 z2z1 z3z1), (kX4 aLa vLa l4 a4 n4), (kAI vLa cI 24 f4), (kX7 aPa vPa l7 a7 n7), (kAI vPa cI 39 f7), (kX2 aGe vGe l2 a2 n2), (kAI vGe cI 23 f2), (kAI vFl cI 32 ff), (kAI vSf cI 8 sf), (kAI vSm cI 8 sm)]) (wt := [(kX11 hx aLa aPa aGe aFl aTr aBe aLu aLo vSf vSm vCo vSh xs xl xf), (kX10 aTr aLa aPa aGe gL gR pz1 qz1 ygoez1 ycarz1 ykinz1 ysorz1 ybeaz1 yweiz1 yleaz1 yangz1 ycolz1 yendz1), (kX3 gL w0z1 w1z1 w2z1 w3z1), (kX3 gR z0z1 z1z1 z2z1 z3z1), (kX4 aLa vLa l4 a4 n4), (kAI vLa cI 24 f4), (kX7 aPa vPa l7 a7 n7), (kAI vPa cI 39 f7), (kX2 aGe vGe l2 a2 n2), (kAI vGe cI 23 f2), (kAI vFl cI 32 ff), (kAI vSf cI 8 sf), (kAI vSm cI 8 sm), (kX1 aFl vFl xn)]) hP hD hC [0, 1, 2, 3, 4, 5, 6, 7, 8, 9, 11, 12, 13] rfl (by decide +kernel) (by decide +kernel) hk1 hFc hP1 hD1 rfl
      clear hP hD hPc hDc hFc hC hP1 hD1 hK1 hz1 hk1 hvm ht
      obtain ⟨hP, hD⟩ := hJ
      generalize H1 = H at hP hS ⊢
      try dsimp only at hw
      by_cases c_6 : 0 ≤ y_4 ∧ y_4 < xn
      · rw [if_pos c_6] at hw
        refine k_topi (v := 1) hw ?_
        refine lv_if_ne (tgt := 53) hx₀ hb dX11_agreesWithSeen_48 (by decide) (fun _ => ?_) (fun c9 => absurd c9 (by decide +kernel))
        refine lv_aload_n hx₀ hb dX11_agreesWithSeen_53 rfl (lv_at hl 2 rfl) ?_
        refine va_get (D := (dC, dI)) (ci := 10) (v := .ref aFl) (C := RX11) (T := TX11) (N := 15) hx₀ hb hts inlX11 hown hK hP 0 rfl rfl 3 (by decide) (hts (.fieldLink RX11 33 "BittenStick" "flights" "LBittenStick$Flights;") wd_27) (fun _ h9 => h9) rfl dX11_agreesWithSeen_54 ?_
        refine lv_iload hx₀ hb dX11_agreesWithSeen_57 (lv_at hl 0 rfl) ?_
        obtain ⟨hPc, hDc, hFc, hC⟩ := k_cw (wc := [(kX1 aFl vFl xn), (kAI vFl cI 32 ff)]) hP hD hS hA [13, 10] (by decide +kernel) rfl
        refine va_calli (va_runV (As := [.int y_4]) (rest := []) ⟨hx₀, hb, hml, hown, hts⟩ (j_passengerOf l dC dI cI cJ cQ H.size aFl y_4 vFl xn ff (hh1)) (cwV 1 hts (kGV wd_435 wd_432 wd_433 wd_434 wd_26) rfl rfl rfl (by decide +kernel) ⟨Nat.le_of_ble_eq_true rfl, Nat.le_of_ble_eq_true rfl⟩) (k_preV1 (q0 := 0) hK hPc hDc hN rfl) rfl rfl hl.1 rfl (lv_room (Nat.le_of_ble_eq_true rfl)) dX11_agreesWithSeen_59 ⟨by decide +kernel, by decide +kernel⟩) hS (fun q _ h => hFc q h) hFc (fun r_7 u₀ t₀ H1 locs ht hvm hw hB hz1 hk1 hS => ?_)
        obtain ⟨hP1, hK1, hD1⟩ := hB
        rw [ht] at hP1
        have hJ := k_jn (wr := [(kX11 hx aLa aPa aGe aFl aTr aBe aLu aLo vSf vSm vCo vSh xs xl xf), (kX10 aTr aLa aPa aGe gL gR pz1 qz1 ygoez1 ycarz1 ykinz1 ysorz1 ybeaz1 yweiz1 yleaz1 yangz1 ycolz1 yendz1), (kX3 gL w0z1 w1z1 w2z1 w3z1), (kX3 gR z0z1 z1z1 z2z1 z3z1), (kX4 aLa vLa l4 a4 n4), (kAI vLa cI 24 f4), (kX7 aPa vPa l7 a7 n7), (kAI vPa cI 39 f7), (kX2 aGe vGe l2 a2 n2), (kAI vGe cI 23 f2), (kAI vSf cI 8 sf), (kAI vSm cI 8 sm)]) (wt := [(kX11 hx aLa aPa aGe aFl aTr aBe aLu aLo vSf vSm vCo vSh xs xl xf), (kX10 aTr aLa aPa aGe gL gR pz1 qz1 ygoez1 ycarz1 ykinz1 ysorz1 ybeaz1 yweiz1 yleaz1 yangz1 ycolz1 yendz1), (kX3 gL w0z1 w1z1 w2z1 w3z1), (kX3 gR z0z1 z1z1 z2z1 z3z1), (kX4 aLa vLa l4 a4 n4), (kAI vLa cI 24 f4), (kX7 aPa vPa l7 a7 n7), (kAI vPa cI 39 f7), (kX2 aGe vGe l2 a2 n2), (kAI vGe cI 23 f2), (kAI vSf cI 8 sf), (kAI vSm cI 8 sm), (kX1 aFl vFl xn), (kAI vFl cI 32 ff)]) hP hD hC [0, 1, 2, 3, 4, 5, 6, 7, 8, 9, 11, 12] rfl (by decide +kernel) (by decide +kernel) hk1 hFc hP1 hD1 rfl
        clear hP hD hPc hDc hFc hC hP1 hD1 hK1 hz1 hk1 hvm ht
        obtain ⟨hP, hD⟩ := hJ
        generalize H1 = H at hP hS ⊢
        try dsimp only at hw
        refine k_topi (v := kIt xn ff y_4 0) hw ?_
        refine lv_istore (lv' := [(7, .int (kIt xn ff y_4 0)), (6, .int y_4), (5, .int iz1), (0, .ref hx), (1, .int p1), (2, .int s1), (3, .int f1), (4, .int h1)]) hx₀ hb dX11_agreesWithSeen_62 hl (by decide) rfl (fun ls hl => ?_)
        refine lv_aload_n hx₀ hb dX11_agreesWithSeen_64 rfl (lv_at hl 3 rfl) ?_
        refine va_get (D := (dC, dI)) (ci := 10) (v := .ref aTr) (C := RX11) (T := TX11) (N := 15) hx₀ hb hts inlX11 hown hK hP 0 rfl rfl 4 (by decide) (hts (.fieldLink RX11 42 "BittenStick" "trip" "LBittenStick$Trip;") wd_31) (fun _ h9 => h9) rfl dX11_agreesWithSeen_65 ?_
        refine lv_iload hx₀ hb dX11_agreesWithSeen_68 (lv_at hl 0 rfl) ?_
        refine lv_aload_n hx₀ hb dX11_agreesWithSeen_70 rfl (lv_at hl 3 rfl) ?_
        refine va_get (D := (dC, dI)) (ci := 10) (v := .ref aFl) (C := RX11) (T := TX11) (N := 15) hx₀ hb hts inlX11 hown hK hP 0 rfl rfl 3 (by decide) (hts (.fieldLink RX11 33 "BittenStick" "flights" "LBittenStick$Flights;") wd_27) (fun _ h9 => h9) rfl dX11_agreesWithSeen_71 ?_
        refine lv_iload hx₀ hb dX11_agreesWithSeen_74 (lv_at hl 1 rfl) ?_
        obtain ⟨hPc, hDc, hFc, hC⟩ := k_cw (wc := [(kX1 aFl vFl xn), (kAI vFl cI 32 ff)]) hP hD hS hA [12, 13] (by decide +kernel) rfl
        refine va_calli (va_runV (As := [.int y_4]) (rest := [.int (kIt xn ff y_4 0), .ref aTr]) ⟨hx₀, hb, hml, hown, hts⟩ (j_leftOf l dC dI cI cJ cQ H.size aFl y_4 vFl xn ff (hh1)) (cwV 1 hts (kGV wd_444 wd_441 wd_442 wd_443 wd_26) rfl rfl rfl (by decide +kernel) ⟨Nat.le_of_ble_eq_true rfl, Nat.le_of_ble_eq_true rfl⟩) (k_preV1 (q0 := 0) hK hPc hDc hN rfl) rfl rfl hl.1 rfl (lv_room (Nat.le_of_ble_eq_true rfl)) dX11_agreesWithSeen_76 ⟨by decide +kernel, by decide +kernel⟩) hS (fun q _ h => hFc q h) hFc (fun r_8 u₀ t₀ H1 locs ht hvm hw hB hz1 hk1 hS => ?_)
        obtain ⟨hP1, hK1, hD1⟩ := hB
        rw [ht] at hP1
        have hJ := k_jn (wr := [(kX11 hx aLa aPa aGe aFl aTr aBe aLu aLo vSf vSm vCo vSh xs xl xf), (kX10 aTr aLa aPa aGe gL gR pz1 qz1 ygoez1 ycarz1 ykinz1 ysorz1 ybeaz1 yweiz1 yleaz1 yangz1 ycolz1 yendz1), (kX3 gL w0z1 w1z1 w2z1 w3z1), (kX3 gR z0z1 z1z1 z2z1 z3z1), (kX4 aLa vLa l4 a4 n4), (kAI vLa cI 24 f4), (kX7 aPa vPa l7 a7 n7), (kAI vPa cI 39 f7), (kX2 aGe vGe l2 a2 n2), (kAI vGe cI 23 f2), (kAI vSf cI 8 sf), (kAI vSm cI 8 sm)]) (wt := [(kX11 hx aLa aPa aGe aFl aTr aBe aLu aLo vSf vSm vCo vSh xs xl xf), (kX10 aTr aLa aPa aGe gL gR pz1 qz1 ygoez1 ycarz1 ykinz1 ysorz1 ybeaz1 yweiz1 yleaz1 yangz1 ycolz1 yendz1), (kX3 gL w0z1 w1z1 w2z1 w3z1), (kX3 gR z0z1 z1z1 z2z1 z3z1), (kX4 aLa vLa l4 a4 n4), (kAI vLa cI 24 f4), (kX7 aPa vPa l7 a7 n7), (kAI vPa cI 39 f7), (kX2 aGe vGe l2 a2 n2), (kAI vGe cI 23 f2), (kAI vSf cI 8 sf), (kAI vSm cI 8 sm), (kX1 aFl vFl xn), (kAI vFl cI 32 ff)]) hP hD hC [0, 1, 2, 3, 4, 5, 6, 7, 8, 9, 10, 11] rfl (by decide +kernel) (by decide +kernel) hk1 hFc hP1 hD1 rfl
        clear hP hD hPc hDc hFc hC hP1 hD1 hK1 hz1 hk1 hvm ht
        obtain ⟨hP, hD⟩ := hJ
        generalize H1 = H at hP hS ⊢
        try dsimp only at hw
        refine k_topi (v := kIt xn ff y_4 1) hw ?_
        refine lv_aload_n hx₀ hb dX11_agreesWithSeen_79 rfl (lv_at hl 3 rfl) ?_
        refine va_get (D := (dC, dI)) (ci := 10) (v := .ref aFl) (C := RX11) (T := TX11) (N := 15) hx₀ hb hts inlX11 hown hK hP 0 rfl rfl 3 (by decide) (hts (.fieldLink RX11 33 "BittenStick" "flights" "LBittenStick$Flights;") wd_27) (fun _ h9 => h9) rfl dX11_agreesWithSeen_80 ?_
        refine lv_iload hx₀ hb dX11_agreesWithSeen_83 (lv_at hl 1 rfl) ?_
        obtain ⟨hPc, hDc, hFc, hC⟩ := k_cw (wc := [(kX1 aFl vFl xn), (kAI vFl cI 32 ff)]) hP hD hS hA [12, 13] (by decide +kernel) rfl
        refine va_calli (va_runV (As := [.int y_4]) (rest := [.int (kIt xn ff y_4 1), .int (kIt xn ff y_4 0), .ref aTr]) ⟨hx₀, hb, hml, hown, hts⟩ (j_rightOf l dC dI cI cJ cQ H.size aFl y_4 vFl xn ff (hh1)) (cwV 1 hts (kGV wd_448 wd_445 wd_446 wd_447 wd_26) rfl rfl rfl (by decide +kernel) ⟨Nat.le_of_ble_eq_true rfl, Nat.le_of_ble_eq_true rfl⟩) (k_preV1 (q0 := 0) hK hPc hDc hN rfl) rfl rfl hl.1 rfl (lv_room (Nat.le_of_ble_eq_true rfl)) dX11_agreesWithSeen_85 ⟨by decide +kernel, by decide +kernel⟩) hS (fun q _ h => hFc q h) hFc (fun r_9 u₀ t₀ H1 locs ht hvm hw hB hz1 hk1 hS => ?_)
        obtain ⟨hP1, hK1, hD1⟩ := hB
        rw [ht] at hP1
        have hJ := k_jn (wr := [(kX11 hx aLa aPa aGe aFl aTr aBe aLu aLo vSf vSm vCo vSh xs xl xf), (kX10 aTr aLa aPa aGe gL gR pz1 qz1 ygoez1 ycarz1 ykinz1 ysorz1 ybeaz1 yweiz1 yleaz1 yangz1 ycolz1 yendz1), (kX3 gL w0z1 w1z1 w2z1 w3z1), (kX3 gR z0z1 z1z1 z2z1 z3z1), (kX4 aLa vLa l4 a4 n4), (kAI vLa cI 24 f4), (kX7 aPa vPa l7 a7 n7), (kAI vPa cI 39 f7), (kX2 aGe vGe l2 a2 n2), (kAI vGe cI 23 f2), (kAI vSf cI 8 sf), (kAI vSm cI 8 sm)]) (wt := [(kX11 hx aLa aPa aGe aFl aTr aBe aLu aLo vSf vSm vCo vSh xs xl xf), (kX10 aTr aLa aPa aGe gL gR pz1 qz1 ygoez1 ycarz1 ykinz1 ysorz1 ybeaz1 yweiz1 yleaz1 yangz1 ycolz1 yendz1), (kX3 gL w0z1 w1z1 w2z1 w3z1), (kX3 gR z0z1 z1z1 z2z1 z3z1), (kX4 aLa vLa l4 a4 n4), (kAI vLa cI 24 f4), (kX7 aPa vPa l7 a7 n7), (kAI vPa cI 39 f7), (kX2 aGe vGe l2 a2 n2), (kAI vGe cI 23 f2), (kAI vSf cI 8 sf), (kAI vSm cI 8 sm), (kX1 aFl vFl xn), (kAI vFl cI 32 ff)]) hP hD hC [0, 1, 2, 3, 4, 5, 6, 7, 8, 9, 10, 11] rfl (by decide +kernel) (by decide +kernel) hk1 hFc hP1 hD1 rfl
        clear hP hD hPc hDc hFc hC hP1 hD1 hK1 hz1 hk1 hvm ht
        obtain ⟨hP, hD⟩ := hJ
        generalize H1 = H at hP hS ⊢
        try dsimp only at hw
        refine k_topi (v := kIt xn ff y_4 2) hw ?_
        obtain ⟨hPc, hDc, hFc, hC⟩ := k_cw (wc := [(kX10 aTr aLa aPa aGe gL gR pz1 qz1 ygoez1 ycarz1 ykinz1 ysorz1 ybeaz1 yweiz1 yleaz1 yangz1 ycolz1 yendz1), (kX3 gL w0z1 w1z1 w2z1 w3z1), (kX3 gR z0z1 z1z1 z2z1 z3z1), (kX4 aLa vLa l4 a4 n4), (kAI vLa cI 24 f4), (kX7 aPa vPa l7 a7 n7), (kAI vPa cI 39 f7), (kX2 aGe vGe l2 a2 n2), (kAI vGe cI 23 f2)]) hP hD hS hA [1, 2, 3, 4, 5, 6, 7, 8, 9] (by decide +kernel) rfl
        refine va_callv (va_runV (As := [.int (kIt xn ff y_4 0), .int (kIt xn ff y_4 1), .int (kIt xn ff y_4 2)]) (rest := []) ⟨hx₀, hb, hml, hown, hts⟩ (j_board l dC dI cI cJ cQ H.size aTr (kIt xn ff y_4 0) (kIt xn ff y_4 1) (kIt xn ff y_4 2) aLa aPa aGe gL gR pz1 qz1 ygoez1 ycarz1 ykinz1 ysorz1 ybeaz1 yweiz1 yleaz1 yangz1 ycolz1 yendz1 w0z1 w1z1 w2z1 w3z1 z0z1 z1z1 z2z1 z3z1 vLa l4 a4 n4 f4 vPa l7 a7 n7 f7 vGe l2 a2 n2 f2 (hh0)) (cwV 3 hts (kGV wd_452 wd_449 wd_450 wd_451 wd_30) rfl rfl rfl (by decide +kernel) ⟨Nat.le_of_ble_eq_true rfl, Nat.le_of_ble_eq_true rfl⟩) (k_preV9 (q0 := 0) hK hPc hDc hN rfl) rfl rfl hl.1 rfl (lv_room (Nat.le_of_ble_eq_true rfl)) dX11_agreesWithSeen_88 ⟨by decide +kernel, by decide +kernel⟩) hS (fun q _ h => hFc q h) hFc (fun u₀ t₀ H1 locs ht hvm hw hB hz1 hk1 hS => ?_)
        obtain ⟨g_11, ga_12, gl_13, gb_14, gp_15⟩ := u₀
        obtain ⟨hP1, hK1, hD1⟩ := hB
        rw [ht] at hP1
        have hJ := k_jn (wr := [(kX11 hx aLa aPa aGe aFl aTr aBe aLu aLo vSf vSm vCo vSh xs xl xf), (kAI vSf cI 8 sf), (kAI vSm cI 8 sm), (kX1 aFl vFl xn), (kAI vFl cI 32 ff)]) (wt := [(kX11 hx aLa aPa aGe aFl aTr aBe aLu aLo vSf vSm vCo vSh xs xl xf), (kAI vSf cI 8 sf), (kAI vSm cI 8 sm), (kX1 aFl vFl xn), (kAI vFl cI 32 ff), (kX10 aTr aLa aPa aGe gL gR (gp_15 0) (gp_15 1) (g_11 8) (g_11 9) (g_11 10) (g_11 11) (g_11 12) (g_11 13) yleaz1 yangz1 ycolz1 yendz1), (kX3 gL (g_11 0) (g_11 1) (g_11 2) (g_11 3)), (kX3 gR (g_11 4) (g_11 5) (g_11 6) (g_11 7)), (kX4 aLa vLa l4 a4 n4), (kAI vLa cI 24 f4), (kX7 aPa vPa l7 a7 n7), (kAI vPa cI 39 f7), (kX2 aGe vGe l2 a2 n2), (kAI vGe cI 23 f2)]) hP hD hC [0, 10, 11, 12, 13] rfl (by decide +kernel) (by decide +kernel) hk1 hFc hP1 hD1 rfl
        clear hP hD hPc hDc hFc hC hP1 hD1 hK1 hz1 hk1 hvm ht
        obtain ⟨hP, hD⟩ := hJ
        generalize H1 = H at hP hS ⊢
        try dsimp only at hw
        obtain ⟨c_16, c_17, c_18, c_19, c_20, c_21⟩ := hw
        refine lv_iload hx₀ hb dX11_agreesWithSeen_91 (lv_at hl 0 rfl) ?_
        refine lv_iload_n hx₀ hb dX11_agreesWithSeen_93 rfl (lv_at hl 4 rfl) ?_
        refine lv_icmp_ne (tgt := 105) hx₀ hb dX11_agreesWithSeen_94 (by decide) (fun c_22 => ?_) (fun c_22 => ?_)
        · refine lv_aload_n hx₀ hb dX11_agreesWithSeen_105 rfl (lv_at hl 3 rfl) ?_
          refine va_get (D := (dC, dI)) (ci := 10) (v := .ref aTr) (C := RX11) (T := TX11) (N := 15) hx₀ hb hts inlX11 hown hK hP 0 rfl rfl 4 (by decide) (hts (.fieldLink RX11 42 "BittenStick" "trip" "LBittenStick$Trip;") wd_31) (fun _ h9 => h9) rfl dX11_agreesWithSeen_106 ?_
          refine lv_iload hx₀ hb dX11_agreesWithSeen_109 (lv_at hl 1 rfl) ?_
          refine lv_iload_n hx₀ hb dX11_agreesWithSeen_111 rfl (lv_at hl 6 rfl) ?_
          refine lv_icmp_ne (tgt := 120) hx₀ hb dX11_agreesWithSeen_112 (by decide) (fun c_23 => ?_) (fun c_23 => ?_)
          · refine lv_aload_n hx₀ hb dX11_agreesWithSeen_120 rfl (lv_at hl 3 rfl) ?_
            refine va_get (D := (dC, dI)) (ci := 10) (v := .ref aFl) (C := RX11) (T := TX11) (N := 15) hx₀ hb hts inlX11 hown hK hP 0 rfl rfl 3 (by decide) (hts (.fieldLink RX11 33 "BittenStick" "flights" "LBittenStick$Flights;") wd_27) (fun _ h9 => h9) rfl dX11_agreesWithSeen_121 ?_
            refine lv_iload hx₀ hb dX11_agreesWithSeen_124 (lv_at hl 1 rfl) ?_
            obtain ⟨hPc, hDc, hFc, hC⟩ := k_cw (wc := [(kX1 aFl vFl xn), (kAI vFl cI 32 ff)]) hP hD hS hA [3, 4] (by decide +kernel) rfl
            refine va_calli (va_runV (As := [.int y_4]) (rest := [.ref aTr]) ⟨hx₀, hb, hml, hown, hts⟩ (j_heightOf l dC dI cI cJ cQ H.size aFl y_4 vFl xn ff (hh1)) (cwV 1 hts (kGV wd_491 wd_488 wd_489 wd_490 wd_26) rfl rfl rfl (by decide +kernel) ⟨Nat.le_of_ble_eq_true rfl, Nat.le_of_ble_eq_true rfl⟩) (k_preV1 (q0 := 0) hK hPc hDc hN rfl) rfl rfl hl.1 rfl (lv_room (Nat.le_of_ble_eq_true rfl)) dX11_agreesWithSeen_126 ⟨by decide +kernel, by decide +kernel⟩) hS (fun q _ h => hFc q h) hFc (fun r_24 u₀ t₀ H1 locs ht hvm hw hB hz1 hk1 hS => ?_)
            obtain ⟨hP1, hK1, hD1⟩ := hB
            rw [ht] at hP1
            have hJ := k_jn (wr := [(kX11 hx aLa aPa aGe aFl aTr aBe aLu aLo vSf vSm vCo vSh xs xl xf), (kAI vSf cI 8 sf), (kAI vSm cI 8 sm), (kX10 aTr aLa aPa aGe gL gR (gp_15 0) (gp_15 1) (g_11 8) (g_11 9) (g_11 10) (g_11 11) (g_11 12) (g_11 13) yleaz1 yangz1 ycolz1 yendz1), (kX3 gL (g_11 0) (g_11 1) (g_11 2) (g_11 3)), (kX3 gR (g_11 4) (g_11 5) (g_11 6) (g_11 7)), (kX4 aLa vLa l4 a4 n4), (kAI vLa cI 24 f4), (kX7 aPa vPa l7 a7 n7), (kAI vPa cI 39 f7), (kX2 aGe vGe l2 a2 n2), (kAI vGe cI 23 f2)]) (wt := [(kX11 hx aLa aPa aGe aFl aTr aBe aLu aLo vSf vSm vCo vSh xs xl xf), (kAI vSf cI 8 sf), (kAI vSm cI 8 sm), (kX10 aTr aLa aPa aGe gL gR (gp_15 0) (gp_15 1) (g_11 8) (g_11 9) (g_11 10) (g_11 11) (g_11 12) (g_11 13) yleaz1 yangz1 ycolz1 yendz1), (kX3 gL (g_11 0) (g_11 1) (g_11 2) (g_11 3)), (kX3 gR (g_11 4) (g_11 5) (g_11 6) (g_11 7)), (kX4 aLa vLa l4 a4 n4), (kAI vLa cI 24 f4), (kX7 aPa vPa l7 a7 n7), (kAI vPa cI 39 f7), (kX2 aGe vGe l2 a2 n2), (kAI vGe cI 23 f2), (kX1 aFl vFl xn), (kAI vFl cI 32 ff)]) hP hD hC [0, 1, 2, 5, 6, 7, 8, 9, 10, 11, 12, 13] rfl (by decide +kernel) (by decide +kernel) hk1 hFc hP1 hD1 rfl
            clear hP hD hPc hDc hFc hC hP1 hD1 hK1 hz1 hk1 hvm ht
            obtain ⟨hP, hD⟩ := hJ
            generalize H1 = H at hP hS ⊢
            try dsimp only at hw
            refine k_topi (v := kIt xn ff y_4 3) hw ?_
            obtain ⟨hPc, hDc, hFc, hC⟩ := k_cw (wc := [(kX10 aTr aLa aPa aGe gL gR (gp_15 0) (gp_15 1) (g_11 8) (g_11 9) (g_11 10) (g_11 11) (g_11 12) (g_11 13) yleaz1 yangz1 ycolz1 yendz1), (kX4 aLa vLa l4 a4 n4), (kAI vLa cI 24 f4)]) hP hD hS hA [3, 6, 7] (by decide +kernel) rfl
            refine va_calli (va_runV (As := [.int (kIt xn ff y_4 3)]) (rest := []) ⟨hx₀, hb, hml, hown, hts⟩ (j_comesTo l dC dI cI cJ cQ H.size aTr (kIt xn ff y_4 3) aLa aPa aGe gL gR (gp_15 0) (gp_15 1) (g_11 8) (g_11 9) (g_11 10) (g_11 11) (g_11 12) (g_11 13) yleaz1 yangz1 ycolz1 yendz1 vLa l4 a4 n4 f4 (hh0)) (cwV 1 hts (kGV wd_495 wd_492 wd_493 wd_494 wd_30) rfl rfl rfl (by decide +kernel) ⟨Nat.le_of_ble_eq_true rfl, Nat.le_of_ble_eq_true rfl⟩) (k_preV9 (q0 := 0) hK hPc hDc hN rfl) rfl rfl hl.1 rfl (lv_room (Nat.le_of_ble_eq_true rfl)) dX11_agreesWithSeen_129 ⟨by decide +kernel, by decide +kernel⟩) hS (fun q _ h => hFc q h) hFc (fun r_25 u₀ t₀ H1 locs ht hvm hw hB hz1 hk1 hS => ?_)
            obtain ⟨g_26, ga_27, gl_28, gb_29, gp_30⟩ := u₀
            obtain ⟨hP1, hK1, hD1⟩ := hB
            rw [ht] at hP1
            have hJ := k_jn (wr := [(kX11 hx aLa aPa aGe aFl aTr aBe aLu aLo vSf vSm vCo vSh xs xl xf), (kAI vSf cI 8 sf), (kAI vSm cI 8 sm), (kX3 gL (g_11 0) (g_11 1) (g_11 2) (g_11 3)), (kX3 gR (g_11 4) (g_11 5) (g_11 6) (g_11 7)), (kX7 aPa vPa l7 a7 n7), (kAI vPa cI 39 f7), (kX2 aGe vGe l2 a2 n2), (kAI vGe cI 23 f2), (kX1 aFl vFl xn), (kAI vFl cI 32 ff)]) (wt := [(kX11 hx aLa aPa aGe aFl aTr aBe aLu aLo vSf vSm vCo vSh xs xl xf), (kAI vSf cI 8 sf), (kAI vSm cI 8 sm), (kX3 gL (g_11 0) (g_11 1) (g_11 2) (g_11 3)), (kX3 gR (g_11 4) (g_11 5) (g_11 6) (g_11 7)), (kX7 aPa vPa l7 a7 n7), (kAI vPa cI 39 f7), (kX2 aGe vGe l2 a2 n2), (kAI vGe cI 23 f2), (kX1 aFl vFl xn), (kAI vFl cI 32 ff), (kX10 aTr aLa aPa aGe gL gR (gp_15 0) (gp_15 1) (g_11 8) (g_11 9) (g_11 10) (g_11 11) (g_11 12) (g_11 13) yleaz1 (g_26 0) (g_26 1) (g_26 2)), (kX4 aLa vLa l4 a4 n4), (kAI vLa cI 24 f4)]) hP hD hC [0, 1, 2, 4, 5, 8, 9, 10, 11, 12, 13] rfl (by decide +kernel) (by decide +kernel) hk1 hFc hP1 hD1 rfl
            clear hP hD hPc hDc hFc hC hP1 hD1 hK1 hz1 hk1 hvm ht
            obtain ⟨hP, hD⟩ := hJ
            generalize H1 = H at hP hS ⊢
            try dsimp only at hw
            obtain ⟨c_31, c_32, c_33, c_34⟩ := hw
            refine lv_istore (lv' := [(8, .int r_25), (7, .int (kIt xn ff y_4 0)), (6, .int y_4), (5, .int iz1), (0, .ref hx), (1, .int p1), (2, .int s1), (3, .int f1), (4, .int h1)]) hx₀ hb dX11_agreesWithSeen_132 hl (by decide) rfl (fun ls hl => ?_)
            refine lv_iload hx₀ hb dX11_agreesWithSeen_134 (lv_at hl 0 rfl) ?_
            refine lv_aload_n hx₀ hb dX11_agreesWithSeen_136 rfl (lv_at hl 4 rfl) ?_
            refine va_get (D := (dC, dI)) (ci := 10) (v := .ref vSm) (C := RX11) (T := TX11) (N := 15) hx₀ hb hts inlX11 hown hK hP 0 rfl rfl 9 (by decide) (hts (.fieldLink RX11 71 "BittenStick" "seenMiles" "[I") wd_46) (fun _ h9 => h9) rfl dX11_agreesWithSeen_137 ?_
            refine lv_iload hx₀ hb dX11_agreesWithSeen_140 (lv_at hl 3 rfl) ?_
            refine va_iald hx₀ hb hK hP 2 0 rfl rfl (vp_in_iff.mpr (lf_e_agrees_2 xs iz1 jz1 hh2 hiz1_0 hjz1 c_2 c_3)) dX11_agreesWithSeen_142 ?_
            refine lv_topi (fun y_35 ey_35 => ?_)
            refine lv_icmp_eq (tgt := 148) hx₀ hb dX11_agreesWithSeen_143 (by decide) (fun c_36 => ?_) (fun c_36 => ?_)
            · refine lv_iinc (v := iz1 + 1) (lv' := [(5, .int (iz1 + 1)), (8, .int r_25), (7, .int (kIt xn ff y_4 0)), (6, .int y_4), (0, .ref hx), (1, .int p1), (2, .int s1), (3, .int f1), (4, .int h1)]) hx₀ hb dX11_agreesWithSeen_148 hl (k := 3) rfl rfl (by decide) rfl (fun ls hl => ?_)
              refine lv_goto (tgt := 14) hx₀ hb dX11_agreesWithSeen_151 (by decide) ?_
              exact ihz1 _ (lf_e_agrees_4 xs iz1 jz1 hh2 hiz1_0 hjz1 c_2 c_3) (iz1 + 1) (g_11 8) (g_11 9) (g_11 10) (g_11 11) (g_11 12) (g_11 13) yleaz1 (g_26 0) (g_26 1) (g_26 2) (gp_15 0) (gp_15 1) (g_11 0) (g_11 1) (g_11 2) (g_11 3) (g_11 4) (g_11 5) (g_11 6) (g_11 7) _ _ _ (lf_e_agrees_3 xs iz1 jz1 hh2 hiz1_0 hjz1 c_2 c_3) (hiz1_1) (kAl_s hiz1_2 c_2 ey_4.symm c_6 (c_31.trans (congrArg (fun z => z.1) (show ((kGo (kAt 24 f4) (g_11 9) yleaz1 (g_11 10) (g_11 11) (g_11 12) (fun _ => (kIt xn ff y_4 3))) (kfu n4 (0 : Int32)) (0 : Int32) (0 : Int32) (0 : Int32) (if (g_11 8) = 0 then 1 else 0)) = kOC f4 f7 f2 n4 n7 n2 xl (kIt xn ff y_4 0) (kIt xn ff y_4 1) (kIt xn ff y_4 2) (if y_4 = f1 then h1 else (kIt xn ff y_4 3)) (if (kIt xn ff y_4 0) = p1 then s1 else (kAt 39 f7 ((5 * (kIt xn ff y_4 0)) + 1))) from (by rw [hiz1_1]; rw [show (if y_4 = f1 then h1 else (kIt xn ff y_4 3)) = (kIt xn ff y_4 3) from if_neg c_23]; exact kO_trip hh0.1 c_16 c_17 (fun c => c_18.trans (if_pos c)) (fun c => (c_19.trans (if_pos c)).trans (if_neg c_22).symm) (fun c => c_20.trans (if_pos c)))))) ey_35.symm c_36) rfl (hP.sub [0, 11, 3, 4, 12, 13, 5, 6, 7, 8, 9, 10, 1, 2] rfl) (hD.sub [0, 11, 3, 4, 12, 13, 5, 6, 7, 8, 9, 10, 1, 2] (by decide +kernel) rfl) hS (lv_sub hl [0, 4, 5, 6, 7, 8] rfl)
            · refine lv_iconst (v := 0) hx₀ hb dX11_agreesWithSeen_146 (by decide +kernel) ?_
              obtain ⟨hP9, hD9⟩ := k_c2 (wc := [(kX11 hx aLa aPa aGe aFl aTr aBe aLu aLo vSf vSm vCo vSh xs xl xf), (kX10 aTr aLa aPa aGe gL gR (gp_15 0) (gp_15 1) (g_11 8) (g_11 9) (g_11 10) (g_11 11) (g_11 12) (g_11 13) yleaz1 (g_26 0) (g_26 1) (g_26 2)), (kX3 gL (g_11 0) (g_11 1) (g_11 2) (g_11 3)), (kX3 gR (g_11 4) (g_11 5) (g_11 6) (g_11 7)), (kX4 aLa vLa l4 a4 n4), (kAI vLa cI 24 f4), (kX7 aPa vPa l7 a7 n7), (kAI vPa cI 39 f7), (kX2 aGe vGe l2 a2 n2), (kAI vGe cI 23 f2), (kX1 aFl vFl xn), (kAI vFl cI 32 ff), (kAI vSf cI 8 sf), (kAI vSm cI 8 sm)]) hP hD [0, 11, 3, 4, 12, 13, 5, 6, 7, 8, 9, 10, 1, 2] (by decide +kernel) rfl
              exact W.zret (v := 0) hx₀ hb hr (by decide +kernel) (fun t₀ ht hW => ⟨⟨0, (k_fn [(g_11 0), (g_11 1), (g_11 2), (g_11 3), (g_11 4), (g_11 5), (g_11 6), (g_11 7), (g_11 8), (g_11 9), (g_11 10), (g_11 11), (g_11 12), (g_11 13), yleaz1, (g_26 0), (g_26 1), (g_26 2)], k_fa [], k_fl [], k_fL [], k_fp [(gp_15 0), (gp_15 1)]), rfl, ⟨(kAl_m hiz1_2 c_2 ey_4.symm c_6 (c_31.trans (congrArg (fun z => z.1) (show ((kGo (kAt 24 f4) (g_11 9) yleaz1 (g_11 10) (g_11 11) (g_11 12) (fun _ => (kIt xn ff y_4 3))) (kfu n4 (0 : Int32)) (0 : Int32) (0 : Int32) (0 : Int32) (if (g_11 8) = 0 then 1 else 0)) = kOC f4 f7 f2 n4 n7 n2 xl (kIt xn ff y_4 0) (kIt xn ff y_4 1) (kIt xn ff y_4 2) (if y_4 = f1 then h1 else (kIt xn ff y_4 3)) (if (kIt xn ff y_4 0) = p1 then s1 else (kAt 39 f7 ((5 * (kIt xn ff y_4 0)) + 1))) from (by rw [hiz1_1]; rw [show (if y_4 = f1 then h1 else (kIt xn ff y_4 3)) = (kIt xn ff y_4 3) from if_neg c_23]; exact kO_trip hh0.1 c_16 c_17 (fun c => c_18.trans (if_pos c)) (fun c => (c_19.trans (if_pos c)).trans (if_neg c_22).symm) (fun c => c_20.trans (if_pos c)))))) ey_35.symm c_36), (show (0 : Int32) = 0 ∨ (0 : Int32) = 1 from (Or.inl (rfl)))⟩, by rw [ht]; exact hP9, va_K.moved hW.alike hK, hD9⟩, hS.F ht⟩) hS.2.2 dX11_agreesWithSeen_147
          · refine lv_iload hx₀ hb dX11_agreesWithSeen_115 (lv_at hl 7 rfl) ?_
            refine lv_goto (tgt := 129) hx₀ hb dX11_agreesWithSeen_117 (by decide) ?_
            obtain ⟨hPc, hDc, hFc, hC⟩ := k_cw (wc := [(kX10 aTr aLa aPa aGe gL gR (gp_15 0) (gp_15 1) (g_11 8) (g_11 9) (g_11 10) (g_11 11) (g_11 12) (g_11 13) yleaz1 yangz1 ycolz1 yendz1), (kX4 aLa vLa l4 a4 n4), (kAI vLa cI 24 f4)]) hP hD hS hA [5, 8, 9] (by decide +kernel) rfl
            refine va_calli (va_runV (As := [.int h1]) (rest := []) ⟨hx₀, hb, hml, hown, hts⟩ (j_comesTo l dC dI cI cJ cQ H.size aTr h1 aLa aPa aGe gL gR (gp_15 0) (gp_15 1) (g_11 8) (g_11 9) (g_11 10) (g_11 11) (g_11 12) (g_11 13) yleaz1 yangz1 ycolz1 yendz1 vLa l4 a4 n4 f4 (hh0)) (cwV 1 hts (kGV wd_495 wd_492 wd_493 wd_494 wd_30) rfl rfl rfl (by decide +kernel) ⟨Nat.le_of_ble_eq_true rfl, Nat.le_of_ble_eq_true rfl⟩) (k_preV9 (q0 := 0) hK hPc hDc hN rfl) rfl rfl hl.1 rfl (lv_room (Nat.le_of_ble_eq_true rfl)) dX11_agreesWithSeen_129 ⟨by decide +kernel, by decide +kernel⟩) hS (fun q _ h => hFc q h) hFc (fun r_37 u₀ t₀ H1 locs ht hvm hw hB hz1 hk1 hS => ?_)
            obtain ⟨g_38, ga_39, gl_40, gb_41, gp_42⟩ := u₀
            obtain ⟨hP1, hK1, hD1⟩ := hB
            rw [ht] at hP1
            have hJ := k_jn (wr := [(kX11 hx aLa aPa aGe aFl aTr aBe aLu aLo vSf vSm vCo vSh xs xl xf), (kAI vSf cI 8 sf), (kAI vSm cI 8 sm), (kX1 aFl vFl xn), (kAI vFl cI 32 ff), (kX3 gL (g_11 0) (g_11 1) (g_11 2) (g_11 3)), (kX3 gR (g_11 4) (g_11 5) (g_11 6) (g_11 7)), (kX7 aPa vPa l7 a7 n7), (kAI vPa cI 39 f7), (kX2 aGe vGe l2 a2 n2), (kAI vGe cI 23 f2)]) (wt := [(kX11 hx aLa aPa aGe aFl aTr aBe aLu aLo vSf vSm vCo vSh xs xl xf), (kAI vSf cI 8 sf), (kAI vSm cI 8 sm), (kX1 aFl vFl xn), (kAI vFl cI 32 ff), (kX3 gL (g_11 0) (g_11 1) (g_11 2) (g_11 3)), (kX3 gR (g_11 4) (g_11 5) (g_11 6) (g_11 7)), (kX7 aPa vPa l7 a7 n7), (kAI vPa cI 39 f7), (kX2 aGe vGe l2 a2 n2), (kAI vGe cI 23 f2), (kX10 aTr aLa aPa aGe gL gR (gp_15 0) (gp_15 1) (g_11 8) (g_11 9) (g_11 10) (g_11 11) (g_11 12) (g_11 13) yleaz1 (g_38 0) (g_38 1) (g_38 2)), (kX4 aLa vLa l4 a4 n4), (kAI vLa cI 24 f4)]) hP hD hC [0, 1, 2, 3, 4, 6, 7, 10, 11, 12, 13] rfl (by decide +kernel) (by decide +kernel) hk1 hFc hP1 hD1 rfl
            clear hP hD hPc hDc hFc hC hP1 hD1 hK1 hz1 hk1 hvm ht
            obtain ⟨hP, hD⟩ := hJ
            generalize H1 = H at hP hS ⊢
            try dsimp only at hw
            obtain ⟨c_43, c_44, c_45, c_46⟩ := hw
            refine lv_istore (lv' := [(8, .int r_37), (7, .int (kIt xn ff y_4 0)), (6, .int y_4), (5, .int iz1), (0, .ref hx), (1, .int p1), (2, .int s1), (3, .int f1), (4, .int h1)]) hx₀ hb dX11_agreesWithSeen_132 hl (by decide) rfl (fun ls hl => ?_)
            refine lv_iload hx₀ hb dX11_agreesWithSeen_134 (lv_at hl 0 rfl) ?_
            refine lv_aload_n hx₀ hb dX11_agreesWithSeen_136 rfl (lv_at hl 4 rfl) ?_
            refine va_get (D := (dC, dI)) (ci := 10) (v := .ref vSm) (C := RX11) (T := TX11) (N := 15) hx₀ hb hts inlX11 hown hK hP 0 rfl rfl 9 (by decide) (hts (.fieldLink RX11 71 "BittenStick" "seenMiles" "[I") wd_46) (fun _ h9 => h9) rfl dX11_agreesWithSeen_137 ?_
            refine lv_iload hx₀ hb dX11_agreesWithSeen_140 (lv_at hl 3 rfl) ?_
            refine va_iald hx₀ hb hK hP 2 0 rfl rfl (vp_in_iff.mpr (lf_e_agrees_2 xs iz1 jz1 hh2 hiz1_0 hjz1 c_2 c_3)) dX11_agreesWithSeen_142 ?_
            refine lv_topi (fun y_47 ey_47 => ?_)
            refine lv_icmp_eq (tgt := 148) hx₀ hb dX11_agreesWithSeen_143 (by decide) (fun c_48 => ?_) (fun c_48 => ?_)
            · refine lv_iinc (v := iz1 + 1) (lv' := [(5, .int (iz1 + 1)), (8, .int r_37), (7, .int (kIt xn ff y_4 0)), (6, .int y_4), (0, .ref hx), (1, .int p1), (2, .int s1), (3, .int f1), (4, .int h1)]) hx₀ hb dX11_agreesWithSeen_148 hl (k := 3) rfl rfl (by decide) rfl (fun ls hl => ?_)
              refine lv_goto (tgt := 14) hx₀ hb dX11_agreesWithSeen_151 (by decide) ?_
              exact ihz1 _ (lf_e_agrees_4 xs iz1 jz1 hh2 hiz1_0 hjz1 c_2 c_3) (iz1 + 1) (g_11 8) (g_11 9) (g_11 10) (g_11 11) (g_11 12) (g_11 13) yleaz1 (g_38 0) (g_38 1) (g_38 2) (gp_15 0) (gp_15 1) (g_11 0) (g_11 1) (g_11 2) (g_11 3) (g_11 4) (g_11 5) (g_11 6) (g_11 7) _ _ _ (lf_e_agrees_3 xs iz1 jz1 hh2 hiz1_0 hjz1 c_2 c_3) (hiz1_1) (kAl_s hiz1_2 c_2 ey_4.symm c_6 (c_43.trans (congrArg (fun z => z.1) (show ((kGo (kAt 24 f4) (g_11 9) yleaz1 (g_11 10) (g_11 11) (g_11 12) (fun _ => h1)) (kfu n4 (0 : Int32)) (0 : Int32) (0 : Int32) (0 : Int32) (if (g_11 8) = 0 then 1 else 0)) = kOC f4 f7 f2 n4 n7 n2 xl (kIt xn ff y_4 0) (kIt xn ff y_4 1) (kIt xn ff y_4 2) (if y_4 = f1 then h1 else (kIt xn ff y_4 3)) (if (kIt xn ff y_4 0) = p1 then s1 else (kAt 39 f7 ((5 * (kIt xn ff y_4 0)) + 1))) from (by rw [hiz1_1]; rw [show (if y_4 = f1 then h1 else (kIt xn ff y_4 3)) = h1 from if_pos c_23]; exact kO_trip hh0.1 c_16 c_17 (fun c => c_18.trans (if_pos c)) (fun c => (c_19.trans (if_pos c)).trans (if_neg c_22).symm) (fun c => c_20.trans (if_pos c)))))) ey_47.symm c_48) rfl (hP.sub [0, 11, 5, 6, 12, 13, 7, 8, 9, 10, 3, 4, 1, 2] rfl) (hD.sub [0, 11, 5, 6, 12, 13, 7, 8, 9, 10, 3, 4, 1, 2] (by decide +kernel) rfl) hS (lv_sub hl [0, 4, 5, 6, 7, 8] rfl)
            · refine lv_iconst (v := 0) hx₀ hb dX11_agreesWithSeen_146 (by decide +kernel) ?_
              obtain ⟨hP9, hD9⟩ := k_c2 (wc := [(kX11 hx aLa aPa aGe aFl aTr aBe aLu aLo vSf vSm vCo vSh xs xl xf), (kX10 aTr aLa aPa aGe gL gR (gp_15 0) (gp_15 1) (g_11 8) (g_11 9) (g_11 10) (g_11 11) (g_11 12) (g_11 13) yleaz1 (g_38 0) (g_38 1) (g_38 2)), (kX3 gL (g_11 0) (g_11 1) (g_11 2) (g_11 3)), (kX3 gR (g_11 4) (g_11 5) (g_11 6) (g_11 7)), (kX4 aLa vLa l4 a4 n4), (kAI vLa cI 24 f4), (kX7 aPa vPa l7 a7 n7), (kAI vPa cI 39 f7), (kX2 aGe vGe l2 a2 n2), (kAI vGe cI 23 f2), (kX1 aFl vFl xn), (kAI vFl cI 32 ff), (kAI vSf cI 8 sf), (kAI vSm cI 8 sm)]) hP hD [0, 11, 5, 6, 12, 13, 7, 8, 9, 10, 3, 4, 1, 2] (by decide +kernel) rfl
              exact W.zret (v := 0) hx₀ hb hr (by decide +kernel) (fun t₀ ht hW => ⟨⟨0, (k_fn [(g_11 0), (g_11 1), (g_11 2), (g_11 3), (g_11 4), (g_11 5), (g_11 6), (g_11 7), (g_11 8), (g_11 9), (g_11 10), (g_11 11), (g_11 12), (g_11 13), yleaz1, (g_38 0), (g_38 1), (g_38 2)], k_fa [], k_fl [], k_fL [], k_fp [(gp_15 0), (gp_15 1)]), rfl, ⟨(kAl_m hiz1_2 c_2 ey_4.symm c_6 (c_43.trans (congrArg (fun z => z.1) (show ((kGo (kAt 24 f4) (g_11 9) yleaz1 (g_11 10) (g_11 11) (g_11 12) (fun _ => h1)) (kfu n4 (0 : Int32)) (0 : Int32) (0 : Int32) (0 : Int32) (if (g_11 8) = 0 then 1 else 0)) = kOC f4 f7 f2 n4 n7 n2 xl (kIt xn ff y_4 0) (kIt xn ff y_4 1) (kIt xn ff y_4 2) (if y_4 = f1 then h1 else (kIt xn ff y_4 3)) (if (kIt xn ff y_4 0) = p1 then s1 else (kAt 39 f7 ((5 * (kIt xn ff y_4 0)) + 1))) from (by rw [hiz1_1]; rw [show (if y_4 = f1 then h1 else (kIt xn ff y_4 3)) = h1 from if_pos c_23]; exact kO_trip hh0.1 c_16 c_17 (fun c => c_18.trans (if_pos c)) (fun c => (c_19.trans (if_pos c)).trans (if_neg c_22).symm) (fun c => c_20.trans (if_pos c)))))) ey_47.symm c_48), (show (0 : Int32) = 0 ∨ (0 : Int32) = 1 from (Or.inl (rfl)))⟩, by rw [ht]; exact hP9, va_K.moved hW.alike hK, hD9⟩, hS.F ht⟩) hS.2.2 dX11_agreesWithSeen_147
        · refine lv_aload_n hx₀ hb dX11_agreesWithSeen_97 rfl (lv_at hl 3 rfl) ?_
          refine va_get (D := (dC, dI)) (ci := 10) (v := .ref aTr) (C := RX11) (T := TX11) (N := 15) hx₀ hb hts inlX11 hown hK hP 0 rfl rfl 4 (by decide) (hts (.fieldLink RX11 42 "BittenStick" "trip" "LBittenStick$Trip;") wd_31) (fun _ h9 => h9) rfl dX11_agreesWithSeen_98 ?_
          refine lv_iload_n hx₀ hb dX11_agreesWithSeen_101 rfl (lv_at hl 5 rfl) ?_
          refine va_put (D := (dC, dI)) (ci := 9) (v := .int s1) (ty := .int) (C := RX10) (T := TX10) (N := 17) hx₀ hb hts inlX10 tyX10 tyX10_ok nmX10 hown hK hP hD hS 5 rfl rfl 10 (by decide) (hts (.fieldLink RX11 363 "BittenStick$Trip" "sore" "I") wd_713) (fun _ h9 => h9) rfl (by decide +kernel) rfl rfl (Nat.le_of_ble_eq_true rfl) dX11_agreesWithSeen_102 ?_
          clear hP hD hS
          intro H locs hP hD hS
          replace hP := k_w2 (wt := [(kX11 hx aLa aPa aGe aFl aTr aBe aLu aLo vSf vSm vCo vSh xs xl xf), (kAI vSf cI 8 sf), (kAI vSm cI 8 sm), (kX1 aFl vFl xn), (kAI vFl cI 32 ff), (kX10 aTr aLa aPa aGe gL gR (gp_15 0) (gp_15 1) (g_11 8) (g_11 9) (g_11 10) s1 (g_11 12) (g_11 13) yleaz1 yangz1 ycolz1 yendz1), (kX3 gL (g_11 0) (g_11 1) (g_11 2) (g_11 3)), (kX3 gR (g_11 4) (g_11 5) (g_11 6) (g_11 7)), (kX4 aLa vLa l4 a4 n4), (kAI vLa cI 24 f4), (kX7 aPa vPa l7 a7 n7), (kAI vPa cI 39 f7), (kX2 aGe vGe l2 a2 n2), (kAI vGe cI 23 f2)]) hP hD rfl
          replace hD := hP.2
          replace hP := hP.1
          refine lv_aload_n hx₀ hb dX11_agreesWithSeen_105 rfl (lv_at hl 3 rfl) ?_
          refine va_get (D := (dC, dI)) (ci := 10) (v := .ref aTr) (C := RX11) (T := TX11) (N := 15) hx₀ hb hts inlX11 hown hK hP 0 rfl rfl 4 (by decide) (hts (.fieldLink RX11 42 "BittenStick" "trip" "LBittenStick$Trip;") wd_31) (fun _ h9 => h9) rfl dX11_agreesWithSeen_106 ?_
          refine lv_iload hx₀ hb dX11_agreesWithSeen_109 (lv_at hl 1 rfl) ?_
          refine lv_iload_n hx₀ hb dX11_agreesWithSeen_111 rfl (lv_at hl 6 rfl) ?_
          refine lv_icmp_ne (tgt := 120) hx₀ hb dX11_agreesWithSeen_112 (by decide) (fun c_49 => ?_) (fun c_49 => ?_)
          · refine lv_aload_n hx₀ hb dX11_agreesWithSeen_120 rfl (lv_at hl 3 rfl) ?_
            refine va_get (D := (dC, dI)) (ci := 10) (v := .ref aFl) (C := RX11) (T := TX11) (N := 15) hx₀ hb hts inlX11 hown hK hP 0 rfl rfl 3 (by decide) (hts (.fieldLink RX11 33 "BittenStick" "flights" "LBittenStick$Flights;") wd_27) (fun _ h9 => h9) rfl dX11_agreesWithSeen_121 ?_
            refine lv_iload hx₀ hb dX11_agreesWithSeen_124 (lv_at hl 1 rfl) ?_
            obtain ⟨hPc, hDc, hFc, hC⟩ := k_cw (wc := [(kX1 aFl vFl xn), (kAI vFl cI 32 ff)]) hP hD hS hA [3, 4] (by decide +kernel) rfl
            refine va_calli (va_runV (As := [.int y_4]) (rest := [.ref aTr]) ⟨hx₀, hb, hml, hown, hts⟩ (j_heightOf l dC dI cI cJ cQ H.size aFl y_4 vFl xn ff (hh1)) (cwV 1 hts (kGV wd_491 wd_488 wd_489 wd_490 wd_26) rfl rfl rfl (by decide +kernel) ⟨Nat.le_of_ble_eq_true rfl, Nat.le_of_ble_eq_true rfl⟩) (k_preV1 (q0 := 0) hK hPc hDc hN rfl) rfl rfl hl.1 rfl (lv_room (Nat.le_of_ble_eq_true rfl)) dX11_agreesWithSeen_126 ⟨by decide +kernel, by decide +kernel⟩) hS (fun q _ h => hFc q h) hFc (fun r_50 u₀ t₀ H1 locs ht hvm hw hB hz1 hk1 hS => ?_)
            obtain ⟨hP1, hK1, hD1⟩ := hB
            rw [ht] at hP1
            have hJ := k_jn (wr := [(kX11 hx aLa aPa aGe aFl aTr aBe aLu aLo vSf vSm vCo vSh xs xl xf), (kAI vSf cI 8 sf), (kAI vSm cI 8 sm), (kX10 aTr aLa aPa aGe gL gR (gp_15 0) (gp_15 1) (g_11 8) (g_11 9) (g_11 10) s1 (g_11 12) (g_11 13) yleaz1 yangz1 ycolz1 yendz1), (kX3 gL (g_11 0) (g_11 1) (g_11 2) (g_11 3)), (kX3 gR (g_11 4) (g_11 5) (g_11 6) (g_11 7)), (kX4 aLa vLa l4 a4 n4), (kAI vLa cI 24 f4), (kX7 aPa vPa l7 a7 n7), (kAI vPa cI 39 f7), (kX2 aGe vGe l2 a2 n2), (kAI vGe cI 23 f2)]) (wt := [(kX11 hx aLa aPa aGe aFl aTr aBe aLu aLo vSf vSm vCo vSh xs xl xf), (kAI vSf cI 8 sf), (kAI vSm cI 8 sm), (kX10 aTr aLa aPa aGe gL gR (gp_15 0) (gp_15 1) (g_11 8) (g_11 9) (g_11 10) s1 (g_11 12) (g_11 13) yleaz1 yangz1 ycolz1 yendz1), (kX3 gL (g_11 0) (g_11 1) (g_11 2) (g_11 3)), (kX3 gR (g_11 4) (g_11 5) (g_11 6) (g_11 7)), (kX4 aLa vLa l4 a4 n4), (kAI vLa cI 24 f4), (kX7 aPa vPa l7 a7 n7), (kAI vPa cI 39 f7), (kX2 aGe vGe l2 a2 n2), (kAI vGe cI 23 f2), (kX1 aFl vFl xn), (kAI vFl cI 32 ff)]) hP hD hC [0, 1, 2, 5, 6, 7, 8, 9, 10, 11, 12, 13] rfl (by decide +kernel) (by decide +kernel) hk1 hFc hP1 hD1 rfl
            clear hP hD hPc hDc hFc hC hP1 hD1 hK1 hz1 hk1 hvm ht
            obtain ⟨hP, hD⟩ := hJ
            generalize H1 = H at hP hS ⊢
            try dsimp only at hw
            refine k_topi (v := kIt xn ff y_4 3) hw ?_
            obtain ⟨hPc, hDc, hFc, hC⟩ := k_cw (wc := [(kX10 aTr aLa aPa aGe gL gR (gp_15 0) (gp_15 1) (g_11 8) (g_11 9) (g_11 10) s1 (g_11 12) (g_11 13) yleaz1 yangz1 ycolz1 yendz1), (kX4 aLa vLa l4 a4 n4), (kAI vLa cI 24 f4)]) hP hD hS hA [3, 6, 7] (by decide +kernel) rfl
            refine va_calli (va_runV (As := [.int (kIt xn ff y_4 3)]) (rest := []) ⟨hx₀, hb, hml, hown, hts⟩ (j_comesTo l dC dI cI cJ cQ H.size aTr (kIt xn ff y_4 3) aLa aPa aGe gL gR (gp_15 0) (gp_15 1) (g_11 8) (g_11 9) (g_11 10) s1 (g_11 12) (g_11 13) yleaz1 yangz1 ycolz1 yendz1 vLa l4 a4 n4 f4 (hh0)) (cwV 1 hts (kGV wd_495 wd_492 wd_493 wd_494 wd_30) rfl rfl rfl (by decide +kernel) ⟨Nat.le_of_ble_eq_true rfl, Nat.le_of_ble_eq_true rfl⟩) (k_preV9 (q0 := 0) hK hPc hDc hN rfl) rfl rfl hl.1 rfl (lv_room (Nat.le_of_ble_eq_true rfl)) dX11_agreesWithSeen_129 ⟨by decide +kernel, by decide +kernel⟩) hS (fun q _ h => hFc q h) hFc (fun r_51 u₀ t₀ H1 locs ht hvm hw hB hz1 hk1 hS => ?_)
            obtain ⟨g_52, ga_53, gl_54, gb_55, gp_56⟩ := u₀
            obtain ⟨hP1, hK1, hD1⟩ := hB
            rw [ht] at hP1
            have hJ := k_jn (wr := [(kX11 hx aLa aPa aGe aFl aTr aBe aLu aLo vSf vSm vCo vSh xs xl xf), (kAI vSf cI 8 sf), (kAI vSm cI 8 sm), (kX3 gL (g_11 0) (g_11 1) (g_11 2) (g_11 3)), (kX3 gR (g_11 4) (g_11 5) (g_11 6) (g_11 7)), (kX7 aPa vPa l7 a7 n7), (kAI vPa cI 39 f7), (kX2 aGe vGe l2 a2 n2), (kAI vGe cI 23 f2), (kX1 aFl vFl xn), (kAI vFl cI 32 ff)]) (wt := [(kX11 hx aLa aPa aGe aFl aTr aBe aLu aLo vSf vSm vCo vSh xs xl xf), (kAI vSf cI 8 sf), (kAI vSm cI 8 sm), (kX3 gL (g_11 0) (g_11 1) (g_11 2) (g_11 3)), (kX3 gR (g_11 4) (g_11 5) (g_11 6) (g_11 7)), (kX7 aPa vPa l7 a7 n7), (kAI vPa cI 39 f7), (kX2 aGe vGe l2 a2 n2), (kAI vGe cI 23 f2), (kX1 aFl vFl xn), (kAI vFl cI 32 ff), (kX10 aTr aLa aPa aGe gL gR (gp_15 0) (gp_15 1) (g_11 8) (g_11 9) (g_11 10) s1 (g_11 12) (g_11 13) yleaz1 (g_52 0) (g_52 1) (g_52 2)), (kX4 aLa vLa l4 a4 n4), (kAI vLa cI 24 f4)]) hP hD hC [0, 1, 2, 4, 5, 8, 9, 10, 11, 12, 13] rfl (by decide +kernel) (by decide +kernel) hk1 hFc hP1 hD1 rfl
            clear hP hD hPc hDc hFc hC hP1 hD1 hK1 hz1 hk1 hvm ht
            obtain ⟨hP, hD⟩ := hJ
            generalize H1 = H at hP hS ⊢
            try dsimp only at hw
            obtain ⟨c_57, c_58, c_59, c_60⟩ := hw
            refine lv_istore (lv' := [(8, .int r_51), (7, .int (kIt xn ff y_4 0)), (6, .int y_4), (5, .int iz1), (0, .ref hx), (1, .int p1), (2, .int s1), (3, .int f1), (4, .int h1)]) hx₀ hb dX11_agreesWithSeen_132 hl (by decide) rfl (fun ls hl => ?_)
            refine lv_iload hx₀ hb dX11_agreesWithSeen_134 (lv_at hl 0 rfl) ?_
            refine lv_aload_n hx₀ hb dX11_agreesWithSeen_136 rfl (lv_at hl 4 rfl) ?_
            refine va_get (D := (dC, dI)) (ci := 10) (v := .ref vSm) (C := RX11) (T := TX11) (N := 15) hx₀ hb hts inlX11 hown hK hP 0 rfl rfl 9 (by decide) (hts (.fieldLink RX11 71 "BittenStick" "seenMiles" "[I") wd_46) (fun _ h9 => h9) rfl dX11_agreesWithSeen_137 ?_
            refine lv_iload hx₀ hb dX11_agreesWithSeen_140 (lv_at hl 3 rfl) ?_
            refine va_iald hx₀ hb hK hP 2 0 rfl rfl (vp_in_iff.mpr (lf_e_agrees_2 xs iz1 jz1 hh2 hiz1_0 hjz1 c_2 c_3)) dX11_agreesWithSeen_142 ?_
            refine lv_topi (fun y_61 ey_61 => ?_)
            refine lv_icmp_eq (tgt := 148) hx₀ hb dX11_agreesWithSeen_143 (by decide) (fun c_62 => ?_) (fun c_62 => ?_)
            · refine lv_iinc (v := iz1 + 1) (lv' := [(5, .int (iz1 + 1)), (8, .int r_51), (7, .int (kIt xn ff y_4 0)), (6, .int y_4), (0, .ref hx), (1, .int p1), (2, .int s1), (3, .int f1), (4, .int h1)]) hx₀ hb dX11_agreesWithSeen_148 hl (k := 3) rfl rfl (by decide) rfl (fun ls hl => ?_)
              refine lv_goto (tgt := 14) hx₀ hb dX11_agreesWithSeen_151 (by decide) ?_
              exact ihz1 _ (lf_e_agrees_4 xs iz1 jz1 hh2 hiz1_0 hjz1 c_2 c_3) (iz1 + 1) (g_11 8) (g_11 9) (g_11 10) s1 (g_11 12) (g_11 13) yleaz1 (g_52 0) (g_52 1) (g_52 2) (gp_15 0) (gp_15 1) (g_11 0) (g_11 1) (g_11 2) (g_11 3) (g_11 4) (g_11 5) (g_11 6) (g_11 7) _ _ _ (lf_e_agrees_3 xs iz1 jz1 hh2 hiz1_0 hjz1 c_2 c_3) (hiz1_1) (kAl_s hiz1_2 c_2 ey_4.symm c_6 (c_57.trans (congrArg (fun z => z.1) (show ((kGo (kAt 24 f4) (g_11 9) yleaz1 (g_11 10) s1 (g_11 12) (fun _ => (kIt xn ff y_4 3))) (kfu n4 (0 : Int32)) (0 : Int32) (0 : Int32) (0 : Int32) (if (g_11 8) = 0 then 1 else 0)) = kOC f4 f7 f2 n4 n7 n2 xl (kIt xn ff y_4 0) (kIt xn ff y_4 1) (kIt xn ff y_4 2) (if y_4 = f1 then h1 else (kIt xn ff y_4 3)) (if (kIt xn ff y_4 0) = p1 then s1 else (kAt 39 f7 ((5 * (kIt xn ff y_4 0)) + 1))) from (by rw [hiz1_1]; rw [show (if y_4 = f1 then h1 else (kIt xn ff y_4 3)) = (kIt xn ff y_4 3) from if_neg c_49]; exact kO_trip hh0.1 c_16 c_17 (fun c => c_18.trans (if_pos c)) (fun _ => (if_pos c_22).symm) (fun c => c_20.trans (if_pos c)))))) ey_61.symm c_62) rfl (hP.sub [0, 11, 3, 4, 12, 13, 5, 6, 7, 8, 9, 10, 1, 2] rfl) (hD.sub [0, 11, 3, 4, 12, 13, 5, 6, 7, 8, 9, 10, 1, 2] (by decide +kernel) rfl) hS (lv_sub hl [0, 4, 5, 6, 7, 8] rfl)
            · refine lv_iconst (v := 0) hx₀ hb dX11_agreesWithSeen_146 (by decide +kernel) ?_
              obtain ⟨hP9, hD9⟩ := k_c2 (wc := [(kX11 hx aLa aPa aGe aFl aTr aBe aLu aLo vSf vSm vCo vSh xs xl xf), (kX10 aTr aLa aPa aGe gL gR (gp_15 0) (gp_15 1) (g_11 8) (g_11 9) (g_11 10) s1 (g_11 12) (g_11 13) yleaz1 (g_52 0) (g_52 1) (g_52 2)), (kX3 gL (g_11 0) (g_11 1) (g_11 2) (g_11 3)), (kX3 gR (g_11 4) (g_11 5) (g_11 6) (g_11 7)), (kX4 aLa vLa l4 a4 n4), (kAI vLa cI 24 f4), (kX7 aPa vPa l7 a7 n7), (kAI vPa cI 39 f7), (kX2 aGe vGe l2 a2 n2), (kAI vGe cI 23 f2), (kX1 aFl vFl xn), (kAI vFl cI 32 ff), (kAI vSf cI 8 sf), (kAI vSm cI 8 sm)]) hP hD [0, 11, 3, 4, 12, 13, 5, 6, 7, 8, 9, 10, 1, 2] (by decide +kernel) rfl
              exact W.zret (v := 0) hx₀ hb hr (by decide +kernel) (fun t₀ ht hW => ⟨⟨0, (k_fn [(g_11 0), (g_11 1), (g_11 2), (g_11 3), (g_11 4), (g_11 5), (g_11 6), (g_11 7), (g_11 8), (g_11 9), (g_11 10), s1, (g_11 12), (g_11 13), yleaz1, (g_52 0), (g_52 1), (g_52 2)], k_fa [], k_fl [], k_fL [], k_fp [(gp_15 0), (gp_15 1)]), rfl, ⟨(kAl_m hiz1_2 c_2 ey_4.symm c_6 (c_57.trans (congrArg (fun z => z.1) (show ((kGo (kAt 24 f4) (g_11 9) yleaz1 (g_11 10) s1 (g_11 12) (fun _ => (kIt xn ff y_4 3))) (kfu n4 (0 : Int32)) (0 : Int32) (0 : Int32) (0 : Int32) (if (g_11 8) = 0 then 1 else 0)) = kOC f4 f7 f2 n4 n7 n2 xl (kIt xn ff y_4 0) (kIt xn ff y_4 1) (kIt xn ff y_4 2) (if y_4 = f1 then h1 else (kIt xn ff y_4 3)) (if (kIt xn ff y_4 0) = p1 then s1 else (kAt 39 f7 ((5 * (kIt xn ff y_4 0)) + 1))) from (by rw [hiz1_1]; rw [show (if y_4 = f1 then h1 else (kIt xn ff y_4 3)) = (kIt xn ff y_4 3) from if_neg c_49]; exact kO_trip hh0.1 c_16 c_17 (fun c => c_18.trans (if_pos c)) (fun _ => (if_pos c_22).symm) (fun c => c_20.trans (if_pos c)))))) ey_61.symm c_62), (show (0 : Int32) = 0 ∨ (0 : Int32) = 1 from (Or.inl (rfl)))⟩, by rw [ht]; exact hP9, va_K.moved hW.alike hK, hD9⟩, hS.F ht⟩) hS.2.2 dX11_agreesWithSeen_147
          · refine lv_iload hx₀ hb dX11_agreesWithSeen_115 (lv_at hl 7 rfl) ?_
            refine lv_goto (tgt := 129) hx₀ hb dX11_agreesWithSeen_117 (by decide) ?_
            obtain ⟨hPc, hDc, hFc, hC⟩ := k_cw (wc := [(kX10 aTr aLa aPa aGe gL gR (gp_15 0) (gp_15 1) (g_11 8) (g_11 9) (g_11 10) s1 (g_11 12) (g_11 13) yleaz1 yangz1 ycolz1 yendz1), (kX4 aLa vLa l4 a4 n4), (kAI vLa cI 24 f4)]) hP hD hS hA [5, 8, 9] (by decide +kernel) rfl
            refine va_calli (va_runV (As := [.int h1]) (rest := []) ⟨hx₀, hb, hml, hown, hts⟩ (j_comesTo l dC dI cI cJ cQ H.size aTr h1 aLa aPa aGe gL gR (gp_15 0) (gp_15 1) (g_11 8) (g_11 9) (g_11 10) s1 (g_11 12) (g_11 13) yleaz1 yangz1 ycolz1 yendz1 vLa l4 a4 n4 f4 (hh0)) (cwV 1 hts (kGV wd_495 wd_492 wd_493 wd_494 wd_30) rfl rfl rfl (by decide +kernel) ⟨Nat.le_of_ble_eq_true rfl, Nat.le_of_ble_eq_true rfl⟩) (k_preV9 (q0 := 0) hK hPc hDc hN rfl) rfl rfl hl.1 rfl (lv_room (Nat.le_of_ble_eq_true rfl)) dX11_agreesWithSeen_129 ⟨by decide +kernel, by decide +kernel⟩) hS (fun q _ h => hFc q h) hFc (fun r_63 u₀ t₀ H1 locs ht hvm hw hB hz1 hk1 hS => ?_)
            obtain ⟨g_64, ga_65, gl_66, gb_67, gp_68⟩ := u₀
            obtain ⟨hP1, hK1, hD1⟩ := hB
            rw [ht] at hP1
            have hJ := k_jn (wr := [(kX11 hx aLa aPa aGe aFl aTr aBe aLu aLo vSf vSm vCo vSh xs xl xf), (kAI vSf cI 8 sf), (kAI vSm cI 8 sm), (kX1 aFl vFl xn), (kAI vFl cI 32 ff), (kX3 gL (g_11 0) (g_11 1) (g_11 2) (g_11 3)), (kX3 gR (g_11 4) (g_11 5) (g_11 6) (g_11 7)), (kX7 aPa vPa l7 a7 n7), (kAI vPa cI 39 f7), (kX2 aGe vGe l2 a2 n2), (kAI vGe cI 23 f2)]) (wt := [(kX11 hx aLa aPa aGe aFl aTr aBe aLu aLo vSf vSm vCo vSh xs xl xf), (kAI vSf cI 8 sf), (kAI vSm cI 8 sm), (kX1 aFl vFl xn), (kAI vFl cI 32 ff), (kX3 gL (g_11 0) (g_11 1) (g_11 2) (g_11 3)), (kX3 gR (g_11 4) (g_11 5) (g_11 6) (g_11 7)), (kX7 aPa vPa l7 a7 n7), (kAI vPa cI 39 f7), (kX2 aGe vGe l2 a2 n2), (kAI vGe cI 23 f2), (kX10 aTr aLa aPa aGe gL gR (gp_15 0) (gp_15 1) (g_11 8) (g_11 9) (g_11 10) s1 (g_11 12) (g_11 13) yleaz1 (g_64 0) (g_64 1) (g_64 2)), (kX4 aLa vLa l4 a4 n4), (kAI vLa cI 24 f4)]) hP hD hC [0, 1, 2, 3, 4, 6, 7, 10, 11, 12, 13] rfl (by decide +kernel) (by decide +kernel) hk1 hFc hP1 hD1 rfl
            clear hP hD hPc hDc hFc hC hP1 hD1 hK1 hz1 hk1 hvm ht
            obtain ⟨hP, hD⟩ := hJ
            generalize H1 = H at hP hS ⊢
            try dsimp only at hw
            obtain ⟨c_69, c_70, c_71, c_72⟩ := hw
            refine lv_istore (lv' := [(8, .int r_63), (7, .int (kIt xn ff y_4 0)), (6, .int y_4), (5, .int iz1), (0, .ref hx), (1, .int p1), (2, .int s1), (3, .int f1), (4, .int h1)]) hx₀ hb dX11_agreesWithSeen_132 hl (by decide) rfl (fun ls hl => ?_)
            refine lv_iload hx₀ hb dX11_agreesWithSeen_134 (lv_at hl 0 rfl) ?_
            refine lv_aload_n hx₀ hb dX11_agreesWithSeen_136 rfl (lv_at hl 4 rfl) ?_
            refine va_get (D := (dC, dI)) (ci := 10) (v := .ref vSm) (C := RX11) (T := TX11) (N := 15) hx₀ hb hts inlX11 hown hK hP 0 rfl rfl 9 (by decide) (hts (.fieldLink RX11 71 "BittenStick" "seenMiles" "[I") wd_46) (fun _ h9 => h9) rfl dX11_agreesWithSeen_137 ?_
            refine lv_iload hx₀ hb dX11_agreesWithSeen_140 (lv_at hl 3 rfl) ?_
            refine va_iald hx₀ hb hK hP 2 0 rfl rfl (vp_in_iff.mpr (lf_e_agrees_2 xs iz1 jz1 hh2 hiz1_0 hjz1 c_2 c_3)) dX11_agreesWithSeen_142 ?_
            refine lv_topi (fun y_73 ey_73 => ?_)
            refine lv_icmp_eq (tgt := 148) hx₀ hb dX11_agreesWithSeen_143 (by decide) (fun c_74 => ?_) (fun c_74 => ?_)
            · refine lv_iinc (v := iz1 + 1) (lv' := [(5, .int (iz1 + 1)), (8, .int r_63), (7, .int (kIt xn ff y_4 0)), (6, .int y_4), (0, .ref hx), (1, .int p1), (2, .int s1), (3, .int f1), (4, .int h1)]) hx₀ hb dX11_agreesWithSeen_148 hl (k := 3) rfl rfl (by decide) rfl (fun ls hl => ?_)
              refine lv_goto (tgt := 14) hx₀ hb dX11_agreesWithSeen_151 (by decide) ?_
              exact ihz1 _ (lf_e_agrees_4 xs iz1 jz1 hh2 hiz1_0 hjz1 c_2 c_3) (iz1 + 1) (g_11 8) (g_11 9) (g_11 10) s1 (g_11 12) (g_11 13) yleaz1 (g_64 0) (g_64 1) (g_64 2) (gp_15 0) (gp_15 1) (g_11 0) (g_11 1) (g_11 2) (g_11 3) (g_11 4) (g_11 5) (g_11 6) (g_11 7) _ _ _ (lf_e_agrees_3 xs iz1 jz1 hh2 hiz1_0 hjz1 c_2 c_3) (hiz1_1) (kAl_s hiz1_2 c_2 ey_4.symm c_6 (c_69.trans (congrArg (fun z => z.1) (show ((kGo (kAt 24 f4) (g_11 9) yleaz1 (g_11 10) s1 (g_11 12) (fun _ => h1)) (kfu n4 (0 : Int32)) (0 : Int32) (0 : Int32) (0 : Int32) (if (g_11 8) = 0 then 1 else 0)) = kOC f4 f7 f2 n4 n7 n2 xl (kIt xn ff y_4 0) (kIt xn ff y_4 1) (kIt xn ff y_4 2) (if y_4 = f1 then h1 else (kIt xn ff y_4 3)) (if (kIt xn ff y_4 0) = p1 then s1 else (kAt 39 f7 ((5 * (kIt xn ff y_4 0)) + 1))) from (by rw [hiz1_1]; rw [show (if y_4 = f1 then h1 else (kIt xn ff y_4 3)) = h1 from if_pos c_49]; exact kO_trip hh0.1 c_16 c_17 (fun c => c_18.trans (if_pos c)) (fun _ => (if_pos c_22).symm) (fun c => c_20.trans (if_pos c)))))) ey_73.symm c_74) rfl (hP.sub [0, 11, 5, 6, 12, 13, 7, 8, 9, 10, 3, 4, 1, 2] rfl) (hD.sub [0, 11, 5, 6, 12, 13, 7, 8, 9, 10, 3, 4, 1, 2] (by decide +kernel) rfl) hS (lv_sub hl [0, 4, 5, 6, 7, 8] rfl)
            · refine lv_iconst (v := 0) hx₀ hb dX11_agreesWithSeen_146 (by decide +kernel) ?_
              obtain ⟨hP9, hD9⟩ := k_c2 (wc := [(kX11 hx aLa aPa aGe aFl aTr aBe aLu aLo vSf vSm vCo vSh xs xl xf), (kX10 aTr aLa aPa aGe gL gR (gp_15 0) (gp_15 1) (g_11 8) (g_11 9) (g_11 10) s1 (g_11 12) (g_11 13) yleaz1 (g_64 0) (g_64 1) (g_64 2)), (kX3 gL (g_11 0) (g_11 1) (g_11 2) (g_11 3)), (kX3 gR (g_11 4) (g_11 5) (g_11 6) (g_11 7)), (kX4 aLa vLa l4 a4 n4), (kAI vLa cI 24 f4), (kX7 aPa vPa l7 a7 n7), (kAI vPa cI 39 f7), (kX2 aGe vGe l2 a2 n2), (kAI vGe cI 23 f2), (kX1 aFl vFl xn), (kAI vFl cI 32 ff), (kAI vSf cI 8 sf), (kAI vSm cI 8 sm)]) hP hD [0, 11, 5, 6, 12, 13, 7, 8, 9, 10, 3, 4, 1, 2] (by decide +kernel) rfl
              exact W.zret (v := 0) hx₀ hb hr (by decide +kernel) (fun t₀ ht hW => ⟨⟨0, (k_fn [(g_11 0), (g_11 1), (g_11 2), (g_11 3), (g_11 4), (g_11 5), (g_11 6), (g_11 7), (g_11 8), (g_11 9), (g_11 10), s1, (g_11 12), (g_11 13), yleaz1, (g_64 0), (g_64 1), (g_64 2)], k_fa [], k_fl [], k_fL [], k_fp [(gp_15 0), (gp_15 1)]), rfl, ⟨(kAl_m hiz1_2 c_2 ey_4.symm c_6 (c_69.trans (congrArg (fun z => z.1) (show ((kGo (kAt 24 f4) (g_11 9) yleaz1 (g_11 10) s1 (g_11 12) (fun _ => h1)) (kfu n4 (0 : Int32)) (0 : Int32) (0 : Int32) (0 : Int32) (if (g_11 8) = 0 then 1 else 0)) = kOC f4 f7 f2 n4 n7 n2 xl (kIt xn ff y_4 0) (kIt xn ff y_4 1) (kIt xn ff y_4 2) (if y_4 = f1 then h1 else (kIt xn ff y_4 3)) (if (kIt xn ff y_4 0) = p1 then s1 else (kAt 39 f7 ((5 * (kIt xn ff y_4 0)) + 1))) from (by rw [hiz1_1]; rw [show (if y_4 = f1 then h1 else (kIt xn ff y_4 3)) = h1 from if_pos c_49]; exact kO_trip hh0.1 c_16 c_17 (fun c => c_18.trans (if_pos c)) (fun _ => (if_pos c_22).symm) (fun c => c_20.trans (if_pos c)))))) ey_73.symm c_74), (show (0 : Int32) = 0 ∨ (0 : Int32) = 1 from (Or.inl (rfl)))⟩, by rw [ht]; exact hP9, va_K.moved hW.alike hK, hD9⟩, hS.F ht⟩) hS.2.2 dX11_agreesWithSeen_147
      rw [if_neg c_6] at hw
      refine k_topi (v := 0) hw ?_
      refine lv_if_ne (tgt := 53) hx₀ hb dX11_agreesWithSeen_48 (by decide) (fun c9 => absurd (by decide +kernel) c9) (fun _ => ?_)
      refine lv_iconst (v := 0) hx₀ hb dX11_agreesWithSeen_51 (by decide +kernel) ?_
      obtain ⟨hP9, hD9⟩ := k_c2 (wc := [(kX11 hx aLa aPa aGe aFl aTr aBe aLu aLo vSf vSm vCo vSh xs xl xf), (kX10 aTr aLa aPa aGe gL gR pz1 qz1 ygoez1 ycarz1 ykinz1 ysorz1 ybeaz1 yweiz1 yleaz1 yangz1 ycolz1 yendz1), (kX3 gL w0z1 w1z1 w2z1 w3z1), (kX3 gR z0z1 z1z1 z2z1 z3z1), (kX4 aLa vLa l4 a4 n4), (kAI vLa cI 24 f4), (kX7 aPa vPa l7 a7 n7), (kAI vPa cI 39 f7), (kX2 aGe vGe l2 a2 n2), (kAI vGe cI 23 f2), (kX1 aFl vFl xn), (kAI vFl cI 32 ff), (kAI vSf cI 8 sf), (kAI vSm cI 8 sm)]) hP hD [0, 1, 2, 3, 4, 5, 6, 7, 8, 9, 13, 10, 11, 12] (by decide +kernel) rfl
      exact W.zret (v := 0) hx₀ hb hr (by decide +kernel) (fun t₀ ht hW => ⟨⟨0, (k_fn [w0z1, w1z1, w2z1, w3z1, z0z1, z1z1, z2z1, z3z1, ygoez1, ycarz1, ykinz1, ysorz1, ybeaz1, yweiz1, yleaz1, yangz1, ycolz1, yendz1], k_fa [], k_fl [], k_fL [], k_fp [pz1, qz1]), rfl, ⟨(kAl_n hiz1_2 c_2 ey_4.symm c_6), (show (0 : Int32) = 0 ∨ (0 : Int32) = 1 from (Or.inl (rfl)))⟩, by rw [ht]; exact hP9, va_K.moved hW.alike hK, hD9⟩, hS.F ht⟩) hS.2.2 dX11_agreesWithSeen_52
set_option maxHeartbeats 4000000 in
set_option maxRecDepth 100000 in
theorem e_comesNow (l : Launch) (dC : Nat → ClassId) (dI : Nat → Nat → Nat) (cI cJ cQ : ClassId) (sz : Nat) (hm : Nat) (vFo : Nat) (vSi : Nat) (vIt : Nat) (vMo : Nat) (la : Int32) (vBy : Nat) (vTy : Nat) (mi : Int32) (vMi : Nat) (pn : Int32) (vPs : Nat) (gn : Int32) (vGs : Nat) (fn : Int32) (vFt : Nat) (le : Int32) (vTo : Nat) (kn : Int32) (fe : Int32) (en : Int32) (ca : Int32) (an : Int32) (co : Int32) (vPr : Nat) (vSt : Nat) (vFn : Nat) (sn : Int32) (vSg : Nat) (vAl : Nat) (dr : Int32) (qMi : Nat → Int32) (hh0 : 0 ≤ fe ∧ fe ≤ 24) (hh1 : en = 0 ∨ kn = 0 ∨ fe ≤ 23) (hh2 : 0 ≤ kn ∧ kn ≤ 24) : Met l yX12_comesNow (kW yX12_comesNow cX12_comesNow 3 (some .int)) { frames := 0, cells := 0, slots := 0, locals := 0 } (kPre dC dI cI cJ cQ sz [.ref hm, .int 0] [(kX12 hm vFo vSi vIt vMo la vBy vTy mi vMi pn vPs gn vGs fn vFt le vTo kn fe en ca an co vPr vSt vFn sn vSg vAl dr), (kAI vMi cI 24 qMi)]) (va_Qi (fun (r : Int32) (u : Unit) => (r = fe)) (fun (u : Unit) t₀ => kB dC dI cI cJ cQ (va_A [(kX12 hm vFo vSi vIt vMo la vBy vTy mi vMi pn vPs gn vGs fn vFt le vTo kn fe en ca an co vPr vSt vFn sn vSg vAl dr), (kAI vMi cI 24 qMi)] sz) [(kX12 hm vFo vSi vIt vMo la vBy vTy mi vMi pn vPs gn vGs fn vFt le vTo kn fe en ca an co vPr vSt vFn sn vSg vAl dr), (kAI vMi cI 24 qMi)] t₀) (va_A [(kX12 hm vFo vSi vIt vMo la vBy vTy mi vMi pn vPs gn vGs fn vFt le vTo kn fe en ca an co vPr vSt vFn sn vSg vAl dr), (kAI vMi cI 24 qMi)] sz)) 0 0 (va_A [(kX12 hm vFo vSi vIt vMo la vBy vTy mi vMi pn vPs gn vGs fn vFt le vTo kn fe en ca an co vPr vSt vFn sn vSg vAl dr), (kAI vMi cI 24 qMi)] sz) := by
  refine Met.ofW (cc := cX12_comesNow) (maxL := 3) (ret := (some .int)) (by decide) rfl ?_
  intro p₀ e₀ s₀ m₀ args below meth c₀ s₁ B hml hv₀
  obtain ⟨rfl, hsz, hP, hK, hD0, hN⟩ := hv₀
  have hx₀ := B.exec
  have hb := B.bytes
  have hr := B.returns
  have hts := atoms_spec (ws := (kW yX12_comesNow cX12_comesNow 3 (some .int))) B.pre
  have hts := fun w h => hts w (List.mem_cons_of_mem _ h)
  have hown : s₀.vm.findClass RX12 = some m₀.cls := findClass_of_methodNamed B.named
  have hlocks := B.notSynchronized
  subst hsz
  have hD := hD0.self (sz := s₀.heap.size)
  generalize hAe : va_A [(kX12 hm vFo vSi vIt vMo la vBy vTy mi vMi pn vPs gn vGs fn vFt le vTo kn fe en ca an co vPr vSt vFn sn vSg vAl dr), (kAI vMi cI 24 qMi)] s₀.heap.size = A at hD ⊢
  have hA : ∀ q : Nat, s₀.heap.size ≤ q → A q := fun q h => by rw [← hAe]; exact Or.inr h
  have hS : va_S A s₀.heap s₀.heap [] := va_S.rf
  have hP : va_P (dC, dI) vwCl [(kX12 hm vFo vSi vIt vMo la vBy vTy mi vMi pn vPs gn vGs fn vFt le vTo kn fe en ca an co vPr vSt vFn sn vSg vAl dr), (kAI vMi cI 24 qMi)] s₀.heap := hP
  have hl := lv_entry ([.ref hm, .int 0]) (n := 3) (Nat.le_of_ble_eq_true rfl)
  rw [lg_entry_eq]
  generalize (lg_sl ([.ref hm, .int 0]) ++ List.replicate (3 - (lg_sl ([.ref hm, .int 0])).length) Slot.unset).toArray = ls at hl ⊢
  have hl : lv_has ls 3 [(0, .ref hm), (1, .int 0)] := hl
  obtain ⟨H, hH⟩ : ∃ z : Heap, z = s₀.heap := ⟨_, rfl⟩
  rw [← hH] at hP
  have hS : va_S A s₀.heap H [] := by rw [hH]; exact hS
  refine k_heap hH ?_
  have hD : va_D A [(kX12 hm vFo vSi vIt vMo la vBy vTy mi vMi pn vPs gn vGs fn vFt le vTo kn fe en ca an co vPr vSt vFn sn vSg vAl dr), (kAI vMi cI 24 qMi)] := hD
  obtain ⟨locs, hlo⟩ : ∃ z : List Loc, z = [] := ⟨_, rfl⟩
  rw [← hlo] at hS ⊢
  clear hlo hH hAe hD0
  refine lv_aload_n hx₀ hb dX12_comesNow_0 rfl (lv_at hl 0 rfl) ?_
  refine va_get (D := (dC, dI)) (ci := 11) (v := .int en) (C := RX12) (T := TX12) (N := 30) hx₀ hb hts inlX12 hown hK hP 0 rfl rfl 19 (by decide) (hts (.fieldLink RX12 196 "BittenStickModel" "end" "I") wd_543) (fun _ h9 => h9) rfl dX12_comesNow_1 ?_
  refine lv_if_eq (tgt := 32) hx₀ hb dX12_comesNow_4 (by decide) (fun c_1 => ?_) (fun c_1 => ?_)
  · refine lv_iconst (v := 0) hx₀ hb dX12_comesNow_32 (by decide +kernel) ?_
    refine lv_istore_n (lv' := [(2, .int 0), (0, .ref hm), (1, .int 0)]) hx₀ hb dX12_comesNow_33 rfl hl (by decide) rfl (fun ls hl => ?_)
    refine lv_iload_n hx₀ hb dX12_comesNow_34 rfl (lv_at hl 2 rfl) ?_
    refine lv_if_ne (tgt := 45) hx₀ hb dX12_comesNow_35 (by decide) (fun c9 => absurd (by decide +kernel) c9) (fun _ => ?_)
    refine lv_aload_n hx₀ hb dX12_comesNow_38 rfl (lv_at hl 1 rfl) ?_
    refine va_get (D := (dC, dI)) (ci := 11) (v := .int fe) (C := RX12) (T := TX12) (N := 30) hx₀ hb hts inlX12 hown hK hP 0 rfl rfl 18 (by decide) (hts (.fieldLink RX12 193 "BittenStickModel" "fell" "I") wd_542) (fun _ h9 => h9) rfl dX12_comesNow_39 ?_
    refine lv_goto (tgt := 74) hx₀ hb dX12_comesNow_42 (by decide) ?_
    obtain ⟨hP9, hD9⟩ := k_c2 (wc := [(kX12 hm vFo vSi vIt vMo la vBy vTy mi vMi pn vPs gn vGs fn vFt le vTo kn fe en ca an co vPr vSt vFn sn vSg vAl dr), (kAI vMi cI 24 qMi)]) hP hD [0, 1] (by decide +kernel) rfl
    exact W.iret (v := fe) hx₀ hb hr (fun t₀ ht hW => ⟨⟨fe, (), rfl, rfl, by rw [ht]; exact hP9, va_K.moved hW.alike hK, hD9⟩, hS.F ht⟩) hS.2.2 dX12_comesNow_74
  · refine lv_aload_n hx₀ hb dX12_comesNow_7 rfl (lv_at hl 0 rfl) ?_
    refine va_get (D := (dC, dI)) (ci := 11) (v := .int kn) (C := RX12) (T := TX12) (N := 30) hx₀ hb hts inlX12 hown hK hP 0 rfl rfl 17 (by decide) (hts (.fieldLink RX12 190 "BittenStickModel" "known" "I") wd_541) (fun _ h9 => h9) rfl dX12_comesNow_8 ?_
    refine lv_if_le (tgt := 32) hx₀ hb dX12_comesNow_11 (by decide) (fun c_2 => ?_) (fun c_2 => ?_)
    · refine lv_iconst (v := 0) hx₀ hb dX12_comesNow_32 (by decide +kernel) ?_
      refine lv_istore_n (lv' := [(2, .int 0), (0, .ref hm), (1, .int 0)]) hx₀ hb dX12_comesNow_33 rfl hl (by decide) rfl (fun ls hl => ?_)
      refine lv_iload_n hx₀ hb dX12_comesNow_34 rfl (lv_at hl 2 rfl) ?_
      refine lv_if_ne (tgt := 45) hx₀ hb dX12_comesNow_35 (by decide) (fun c9 => absurd (by decide +kernel) c9) (fun _ => ?_)
      refine lv_aload_n hx₀ hb dX12_comesNow_38 rfl (lv_at hl 1 rfl) ?_
      refine va_get (D := (dC, dI)) (ci := 11) (v := .int fe) (C := RX12) (T := TX12) (N := 30) hx₀ hb hts inlX12 hown hK hP 0 rfl rfl 18 (by decide) (hts (.fieldLink RX12 193 "BittenStickModel" "fell" "I") wd_542) (fun _ h9 => h9) rfl dX12_comesNow_39 ?_
      refine lv_goto (tgt := 74) hx₀ hb dX12_comesNow_42 (by decide) ?_
      obtain ⟨hP9, hD9⟩ := k_c2 (wc := [(kX12 hm vFo vSi vIt vMo la vBy vTy mi vMi pn vPs gn vGs fn vFt le vTo kn fe en ca an co vPr vSt vFn sn vSg vAl dr), (kAI vMi cI 24 qMi)]) hP hD [0, 1] (by decide +kernel) rfl
      exact W.iret (v := fe) hx₀ hb hr (fun t₀ ht hW => ⟨⟨fe, (), rfl, rfl, by rw [ht]; exact hP9, va_K.moved hW.alike hK, hD9⟩, hS.F ht⟩) hS.2.2 dX12_comesNow_74
    · refine lv_aload_n hx₀ hb dX12_comesNow_14 rfl (lv_at hl 0 rfl) ?_
      refine va_get (D := (dC, dI)) (ci := 11) (v := .ref vMi) (C := RX12) (T := TX12) (N := 30) hx₀ hb hts inlX12 hown hK hP 0 rfl rfl 8 (by decide) (hts (.fieldLink RX12 28 "BittenStickModel" "mile" "[I") wd_121) (fun _ h9 => h9) rfl dX12_comesNow_15 ?_
      refine lv_aload_n hx₀ hb dX12_comesNow_18 rfl (lv_at hl 0 rfl) ?_
      refine va_get (D := (dC, dI)) (ci := 11) (v := .int fe) (C := RX12) (T := TX12) (N := 30) hx₀ hb hts inlX12 hown hK hP 0 rfl rfl 18 (by decide) (hts (.fieldLink RX12 193 "BittenStickModel" "fell" "I") wd_542) (fun _ h9 => h9) rfl dX12_comesNow_19 ?_
      refine va_iald hx₀ hb hK hP 1 0 rfl rfl (vp_in_iff.mpr (lf_g_comesNow_1 fe en kn hh0 hh1 hh2 c_1 c_2)) dX12_comesNow_22 ?_
      refine lv_topi (fun y_3 ey_3 => ?_)
      refine lv_bipush (v := 6) hx₀ hb dX12_comesNow_23 (by decide +kernel) ?_
      refine lv_icmp_ge (tgt := 32) hx₀ hb dX12_comesNow_25 (by decide) (fun c_4 => ?_) (fun c_4 => ?_)
      · refine lv_iconst (v := 0) hx₀ hb dX12_comesNow_32 (by decide +kernel) ?_
        refine lv_istore_n (lv' := [(2, .int 0), (0, .ref hm), (1, .int 0)]) hx₀ hb dX12_comesNow_33 rfl hl (by decide) rfl (fun ls hl => ?_)
        refine lv_iload_n hx₀ hb dX12_comesNow_34 rfl (lv_at hl 2 rfl) ?_
        refine lv_if_ne (tgt := 45) hx₀ hb dX12_comesNow_35 (by decide) (fun c9 => absurd (by decide +kernel) c9) (fun _ => ?_)
        refine lv_aload_n hx₀ hb dX12_comesNow_38 rfl (lv_at hl 1 rfl) ?_
        refine va_get (D := (dC, dI)) (ci := 11) (v := .int fe) (C := RX12) (T := TX12) (N := 30) hx₀ hb hts inlX12 hown hK hP 0 rfl rfl 18 (by decide) (hts (.fieldLink RX12 193 "BittenStickModel" "fell" "I") wd_542) (fun _ h9 => h9) rfl dX12_comesNow_39 ?_
        refine lv_goto (tgt := 74) hx₀ hb dX12_comesNow_42 (by decide) ?_
        obtain ⟨hP9, hD9⟩ := k_c2 (wc := [(kX12 hm vFo vSi vIt vMo la vBy vTy mi vMi pn vPs gn vGs fn vFt le vTo kn fe en ca an co vPr vSt vFn sn vSg vAl dr), (kAI vMi cI 24 qMi)]) hP hD [0, 1] (by decide +kernel) rfl
        exact W.iret (v := fe) hx₀ hb hr (fun t₀ ht hW => ⟨⟨fe, (), rfl, rfl, by rw [ht]; exact hP9, va_K.moved hW.alike hK, hD9⟩, hS.F ht⟩) hS.2.2 dX12_comesNow_74
      · refine lv_iconst (v := 1) hx₀ hb dX12_comesNow_28 (by decide +kernel) ?_
        refine lv_goto (tgt := 33) hx₀ hb dX12_comesNow_29 (by decide) ?_
        refine lv_istore_n (lv' := [(2, .int 1), (0, .ref hm), (1, .int 0)]) hx₀ hb dX12_comesNow_33 rfl hl (by decide) rfl (fun ls hl => ?_)
        refine lv_iload_n hx₀ hb dX12_comesNow_34 rfl (lv_at hl 2 rfl) ?_
        refine lv_if_ne (tgt := 45) hx₀ hb dX12_comesNow_35 (by decide) (fun c9 => absurd (by decide +kernel) c9) (fun _ => ?_)
        refine lv_aload_n hx₀ hb dX12_comesNow_38 rfl (lv_at hl 1 rfl) ?_
        refine va_get (D := (dC, dI)) (ci := 11) (v := .int fe) (C := RX12) (T := TX12) (N := 30) hx₀ hb hts inlX12 hown hK hP 0 rfl rfl 18 (by decide) (hts (.fieldLink RX12 193 "BittenStickModel" "fell" "I") wd_542) (fun _ h9 => h9) rfl dX12_comesNow_39 ?_
        refine lv_goto (tgt := 74) hx₀ hb dX12_comesNow_42 (by decide) ?_
        obtain ⟨hP9, hD9⟩ := k_c2 (wc := [(kX12 hm vFo vSi vIt vMo la vBy vTy mi vMi pn vPs gn vGs fn vFt le vTo kn fe en ca an co vPr vSt vFn sn vSg vAl dr), (kAI vMi cI 24 qMi)]) hP hD [0, 1] (by decide +kernel) rfl
        exact W.iret (v := fe) hx₀ hb hr (fun t₀ ht hW => ⟨⟨fe, (), rfl, rfl, by rw [ht]; exact hP9, va_K.moved hW.alike hK, hD9⟩, hS.F ht⟩) hS.2.2 dX12_comesNow_74
set_option maxHeartbeats 4000000 in
set_option maxRecDepth 100000 in
theorem e_comesOf (l : Launch) (dC : Nat → ClassId) (dI : Nat → Nat → Nat) (cI cJ cQ : ClassId) (sz : Nat) (hm : Nat) (f1 : Int32) (vFo : Nat) (vSi : Nat) (vIt : Nat) (vMo : Nat) (la : Int32) (vBy : Nat) (vTy : Nat) (mi : Int32) (vMi : Nat) (pn : Int32) (vPs : Nat) (gn : Int32) (vGs : Nat) (fn : Int32) (vFt : Nat) (le : Int32) (vTo : Nat) (kn : Int32) (fe : Int32) (en : Int32) (ca : Int32) (an : Int32) (co : Int32) (vPr : Nat) (vSt : Nat) (vFn : Nat) (sn : Int32) (vSg : Nat) (vAl : Nat) (dr : Int32) (qMi : Nat → Int32) (qPs : Nat → Int32) (qGs : Nat → Int32) (qTo : Nat → Int32) (qPr : Nat → Int32) (qSt : Nat → Int32) (qFn : Nat → Int32) (qFt : Nat → Int32) (hh0 : 0 ≤ mi ∧ mi ≤ 24) (hh1 : 0 ≤ pn ∧ pn ≤ 8) (hh2 : 0 ≤ gn ∧ gn ≤ 8) (hh3 : k_bd 2 0 7 qPr) (hh4 : 0 ≤ f1 ∧ f1 ≤ 7) (hh5 : k_tm pn qPs) (hh6 : ca = 16777215) (hh7 : k_bd 32 0 9 qFt) : Met l yX12_comesOf (kW yX12_comesOf cX12_comesOf 3 (some .int)) { frames := 4, cells := 0, slots := 0, locals := 99 } (kPre dC dI cI cJ cQ sz [.ref hm, .int f1, .int 0] [(kX12 hm vFo vSi vIt vMo la vBy vTy mi vMi pn vPs gn vGs fn vFt le vTo kn fe en ca an co vPr vSt vFn sn vSg vAl dr), (kAI vMi cI 24 qMi), (kAI vPs cI 32 qPs), (kAI vGs cI 16 qGs), (kAI vTo cI 96 qTo), (kAI vPr cI 2 qPr), (kAI vSt cI 2 qSt), (kAI vFn cI 2 qFn), (kAI vFt cI 32 qFt)]) (va_Qi (fun (r : Int32) (u : kS) => (k_bd 2 0 7 (u.2.1 1)) ∧ (0 ≤ (u.1 1) ∧ (u.1 1) ≤ 24) ∧ ((u.1 2) = 0 ∨ (u.1 0) = 0 ∨ (u.1 1) ≤ 23) ∧ (0 ≤ (u.1 0) ∧ (u.1 0) ≤ 24) ∧ (k_fd ((0 ≤ (kP0 qFt f1) ∧ (kP0 qFt f1) < pn) ∧ (0 ≤ (kP1 qFt f1) ∧ (kP1 qFt f1) < gn) ∧ 0 ≤ (kP2 qFt f1) ∧ (kP2 qFt f1) < gn) (k_done (kM qMi) (kCt (kM qMi) (kP3 qPs (kP0 qFt f1)) (kfu mi 0) 0 ((kG0 qGs (kP1 qFt f1), kG1 qGs (kP1 qFt f1), kG0 qGs (kP1 qFt f1), 0), (kG0 qGs (kP2 qFt f1), kG1 qGs (kP2 qFt f1), kG0 qGs (kP2 qFt f1), 0))) le (kP0 qPs (kP0 qFt f1)) (kP1 qPs (kP0 qFt f1)) (5 * (kP2 qPs (kP0 qFt f1))) (fun x9 => if x9 < (24 : Int32) then (kP3 qFt f1) else (0 : Int32)) mi (u.1 0) (u.1 1) (u.1 2) (u.2.1 0)) (u.1 0) (u.1 1) (u.1 2)) ∧ (r = (u.1 1))) (fun (u : kS) t₀ => kB dC dI cI cJ cQ (va_A [(kX12 hm vFo vSi vIt vMo la vBy vTy mi vMi pn vPs gn vGs fn vFt le vTo kn fe en ca an co vPr vSt vFn sn vSg vAl dr), (kAI vMi cI 24 qMi), (kAI vPs cI 32 qPs), (kAI vGs cI 16 qGs), (kAI vTo cI 96 qTo), (kAI vPr cI 2 qPr), (kAI vSt cI 2 qSt), (kAI vFn cI 2 qFn), (kAI vFt cI 32 qFt)] sz) [(kX12 hm vFo vSi vIt vMo la vBy vTy mi vMi pn vPs gn vGs fn vFt le vTo (u.1 0) (u.1 1) (u.1 2) ca (u.1 3) (u.1 4) vPr vSt vFn sn vSg vAl dr), (kAI vMi cI 24 qMi), (kAI vPs cI 32 qPs), (kAI vGs cI 16 qGs), (kAI vTo cI 96 (u.2.1 0)), (kAI vPr cI 2 (u.2.1 1)), (kAI vSt cI 2 (u.2.1 2)), (kAI vFn cI 2 (u.2.1 3)), (kAI vFt cI 32 qFt)] t₀) (va_A [(kX12 hm vFo vSi vIt vMo la vBy vTy mi vMi pn vPs gn vGs fn vFt le vTo kn fe en ca an co vPr vSt vFn sn vSg vAl dr), (kAI vMi cI 24 qMi), (kAI vPs cI 32 qPs), (kAI vGs cI 16 qGs), (kAI vTo cI 96 qTo), (kAI vPr cI 2 qPr), (kAI vSt cI 2 qSt), (kAI vFn cI 2 qFn), (kAI vFt cI 32 qFt)] sz)) 0 0 (va_A [(kX12 hm vFo vSi vIt vMo la vBy vTy mi vMi pn vPs gn vGs fn vFt le vTo kn fe en ca an co vPr vSt vFn sn vSg vAl dr), (kAI vMi cI 24 qMi), (kAI vPs cI 32 qPs), (kAI vGs cI 16 qGs), (kAI vTo cI 96 qTo), (kAI vPr cI 2 qPr), (kAI vSt cI 2 qSt), (kAI vFn cI 2 qFn), (kAI vFt cI 32 qFt)] sz) := by
  refine Met.ofW (cc := cX12_comesOf) (maxL := 3) (ret := (some .int)) (by decide) rfl ?_
  intro p₀ e₀ s₀ m₀ args below meth c₀ s₁ B hml hv₀
  obtain ⟨rfl, hsz, hP, hK, hD0, hN⟩ := hv₀
  have hx₀ := B.exec
  have hb := B.bytes
  have hr := B.returns
  have hts := atoms_spec (ws := (kW yX12_comesOf cX12_comesOf 3 (some .int))) B.pre
  have hts := fun w h => hts w (List.mem_cons_of_mem _ h)
  have hown : s₀.vm.findClass RX12 = some m₀.cls := findClass_of_methodNamed B.named
  have hlocks := B.notSynchronized
  subst hsz
  have hD := hD0.self (sz := s₀.heap.size)
  generalize hAe : va_A [(kX12 hm vFo vSi vIt vMo la vBy vTy mi vMi pn vPs gn vGs fn vFt le vTo kn fe en ca an co vPr vSt vFn sn vSg vAl dr), (kAI vMi cI 24 qMi), (kAI vPs cI 32 qPs), (kAI vGs cI 16 qGs), (kAI vTo cI 96 qTo), (kAI vPr cI 2 qPr), (kAI vSt cI 2 qSt), (kAI vFn cI 2 qFn), (kAI vFt cI 32 qFt)] s₀.heap.size = A at hD ⊢
  have hA : ∀ q : Nat, s₀.heap.size ≤ q → A q := fun q h => by rw [← hAe]; exact Or.inr h
  have hS : va_S A s₀.heap s₀.heap [] := va_S.rf
  have hP : va_P (dC, dI) vwCl [(kX12 hm vFo vSi vIt vMo la vBy vTy mi vMi pn vPs gn vGs fn vFt le vTo kn fe en ca an co vPr vSt vFn sn vSg vAl dr), (kAI vMi cI 24 qMi), (kAI vPs cI 32 qPs), (kAI vGs cI 16 qGs), (kAI vTo cI 96 qTo), (kAI vPr cI 2 qPr), (kAI vSt cI 2 qSt), (kAI vFn cI 2 qFn), (kAI vFt cI 32 qFt)] s₀.heap := hP
  have hl := lv_entry ([.ref hm, .int f1, .int 0]) (n := 3) (Nat.le_of_ble_eq_true rfl)
  rw [lg_entry_eq]
  generalize (lg_sl ([.ref hm, .int f1, .int 0]) ++ List.replicate (3 - (lg_sl ([.ref hm, .int f1, .int 0])).length) Slot.unset).toArray = ls at hl ⊢
  have hl : lv_has ls 3 [(0, .ref hm), (1, .int f1), (2, .int 0)] := hl
  obtain ⟨H, hH⟩ : ∃ z : Heap, z = s₀.heap := ⟨_, rfl⟩
  rw [← hH] at hP
  have hS : va_S A s₀.heap H [] := by rw [hH]; exact hS
  refine k_heap hH ?_
  have hD : va_D A [(kX12 hm vFo vSi vIt vMo la vBy vTy mi vMi pn vPs gn vGs fn vFt le vTo kn fe en ca an co vPr vSt vFn sn vSg vAl dr), (kAI vMi cI 24 qMi), (kAI vPs cI 32 qPs), (kAI vGs cI 16 qGs), (kAI vTo cI 96 qTo), (kAI vPr cI 2 qPr), (kAI vSt cI 2 qSt), (kAI vFn cI 2 qFn), (kAI vFt cI 32 qFt)] := hD
  obtain ⟨locs, hlo⟩ : ∃ z : List Loc, z = [] := ⟨_, rfl⟩
  rw [← hlo] at hS ⊢
  clear hlo hH hAe hD0
  refine lv_aload_n hx₀ hb dX12_comesOf_0 rfl (lv_at hl 0 rfl) ?_
  refine lv_iload_n hx₀ hb dX12_comesOf_1 rfl (lv_at hl 1 rfl) ?_
  obtain ⟨hPc, hDc, hFc, hC⟩ := k_cw (wc := [(kX12 hm vFo vSi vIt vMo la vBy vTy mi vMi pn vPs gn vGs fn vFt le vTo kn fe en ca an co vPr vSt vFn sn vSg vAl dr), (kAI vMi cI 24 qMi), (kAI vPs cI 32 qPs), (kAI vGs cI 16 qGs), (kAI vTo cI 96 qTo), (kAI vPr cI 2 qPr), (kAI vSt cI 2 qSt), (kAI vFn cI 2 qFn), (kAI vFt cI 32 qFt)]) hP hD hS hA [0, 1, 2, 3, 4, 5, 6, 7, 8] (by decide +kernel) rfl
  refine va_callv (va_runV (As := [.int f1]) (rest := []) ⟨hx₀, hb, hml, hown, hts⟩ (e_fliesTold l dC dI cI cJ cQ H.size hm f1 vFo vSi vIt vMo la vBy vTy mi vMi pn vPs gn vGs fn vFt le vTo kn fe en ca an co vPr vSt vFn sn vSg vAl dr qMi qPs qGs qTo qPr qSt qFn qFt (hh0) (hh1) (hh2) (hh3) (hh4) (hh5) (hh6) (hh7)) (cwV 1 hts (kGV wd_536 wd_533 wd_534 wd_535 wd_5) rfl rfl rfl (by decide +kernel) ⟨Nat.le_of_ble_eq_true rfl, Nat.le_of_ble_eq_true rfl⟩) (k_preV11 (q0 := 0) hK hPc hDc hN rfl) rfl rfl hl.1 rfl (lv_room (Nat.le_of_ble_eq_true rfl)) dX12_comesOf_2 ⟨by decide +kernel, by decide +kernel⟩) hS (fun q _ h => hFc q h) hFc (fun u₀ t₀ H1 locs ht hvm hw hB hz1 hk1 hS => ?_)
  obtain ⟨g_2, ga_3, gl_4, gb_5, gp_6⟩ := u₀
  obtain ⟨hP1, hK1, hD1⟩ := hB
  rw [ht] at hP1
  have hJ := k_jn (wr := []) (wt := [(kX12 hm vFo vSi vIt vMo la vBy vTy mi vMi pn vPs gn vGs fn vFt le vTo (g_2 0) (g_2 1) (g_2 2) ca (g_2 3) (g_2 4) vPr vSt vFn sn vSg vAl dr), (kAI vMi cI 24 qMi), (kAI vPs cI 32 qPs), (kAI vGs cI 16 qGs), (kAI vTo cI 96 (ga_3 0)), (kAI vPr cI 2 (ga_3 1)), (kAI vSt cI 2 (ga_3 2)), (kAI vFn cI 2 (ga_3 3)), (kAI vFt cI 32 qFt)]) hP hD hC [] rfl (by decide +kernel) (by decide +kernel) hk1 hFc hP1 hD1 rfl
  clear hP hD hPc hDc hFc hC hP1 hD1 hK1 hz1 hk1 hvm ht
  obtain ⟨hP, hD⟩ := hJ
  generalize H1 = H at hP hS ⊢
  try dsimp only at hw
  obtain ⟨c_7, c_8, c_9, c_10, c_11⟩ := hw
  refine lv_aload_n hx₀ hb dX12_comesOf_5 rfl (lv_at hl 0 rfl) ?_
  refine lv_iload_n hx₀ hb dX12_comesOf_6 rfl (lv_at hl 2 rfl) ?_
  obtain ⟨hPc, hDc, hFc, hC⟩ := k_cw (wc := [(kX12 hm vFo vSi vIt vMo la vBy vTy mi vMi pn vPs gn vGs fn vFt le vTo (g_2 0) (g_2 1) (g_2 2) ca (g_2 3) (g_2 4) vPr vSt vFn sn vSg vAl dr), (kAI vMi cI 24 qMi)]) hP hD hS hA [0, 1] (by decide +kernel) rfl
  refine va_calli (va_runV (As := [.int 0]) (rest := []) ⟨hx₀, hb, hml, hown, hts⟩ (e_comesNow l dC dI cI cJ cQ H.size hm vFo vSi vIt vMo la vBy vTy mi vMi pn vPs gn vGs fn vFt le vTo (g_2 0) (g_2 1) (g_2 2) ca (g_2 3) (g_2 4) vPr vSt vFn sn vSg vAl dr qMi (c_8) (c_9) (c_10)) (cwV 1 hts (kGV wd_568 wd_565 wd_566 wd_567 wd_5) rfl rfl rfl (by decide +kernel) ⟨Nat.le_of_ble_eq_true rfl, Nat.le_of_ble_eq_true rfl⟩) (k_preV11 (q0 := 0) hK hPc hDc hN rfl) rfl rfl hl.1 rfl (lv_room (Nat.le_of_ble_eq_true rfl)) dX12_comesOf_7 ⟨by decide +kernel, by decide +kernel⟩) hS (fun q _ h => hFc q h) hFc (fun r_12 u₀ t₀ H1 locs ht hvm hw hB hz1 hk1 hS => ?_)
  obtain ⟨hP1, hK1, hD1⟩ := hB
  rw [ht] at hP1
  have hJ := k_jn (wr := [(kAI vPs cI 32 qPs), (kAI vGs cI 16 qGs), (kAI vTo cI 96 (ga_3 0)), (kAI vPr cI 2 (ga_3 1)), (kAI vSt cI 2 (ga_3 2)), (kAI vFn cI 2 (ga_3 3)), (kAI vFt cI 32 qFt)]) (wt := [(kAI vPs cI 32 qPs), (kAI vGs cI 16 qGs), (kAI vTo cI 96 (ga_3 0)), (kAI vPr cI 2 (ga_3 1)), (kAI vSt cI 2 (ga_3 2)), (kAI vFn cI 2 (ga_3 3)), (kAI vFt cI 32 qFt), (kX12 hm vFo vSi vIt vMo la vBy vTy mi vMi pn vPs gn vGs fn vFt le vTo (g_2 0) (g_2 1) (g_2 2) ca (g_2 3) (g_2 4) vPr vSt vFn sn vSg vAl dr), (kAI vMi cI 24 qMi)]) hP hD hC [2, 3, 4, 5, 6, 7, 8] rfl (by decide +kernel) (by decide +kernel) hk1 hFc hP1 hD1 rfl
  clear hP hD hPc hDc hFc hC hP1 hD1 hK1 hz1 hk1 hvm ht
  obtain ⟨hP, hD⟩ := hJ
  generalize H1 = H at hP hS ⊢
  try dsimp only at hw
  refine k_topi (v := g_2 1) hw ?_
  obtain ⟨hP9, hD9⟩ := k_c2 (wc := [(kX12 hm vFo vSi vIt vMo la vBy vTy mi vMi pn vPs gn vGs fn vFt le vTo (g_2 0) (g_2 1) (g_2 2) ca (g_2 3) (g_2 4) vPr vSt vFn sn vSg vAl dr), (kAI vMi cI 24 qMi), (kAI vPs cI 32 qPs), (kAI vGs cI 16 qGs), (kAI vTo cI 96 (ga_3 0)), (kAI vPr cI 2 (ga_3 1)), (kAI vSt cI 2 (ga_3 2)), (kAI vFn cI 2 (ga_3 3)), (kAI vFt cI 32 qFt)]) hP hD [7, 8, 0, 1, 2, 3, 4, 5, 6] (by decide +kernel) rfl
  exact W.iret (v := g_2 1) hx₀ hb hr (fun t₀ ht hW => ⟨⟨g_2 1, (k_fn [(g_2 0), (g_2 1), (g_2 2), (g_2 3), (g_2 4)], k_fa [ga_3 0, ga_3 1, ga_3 2, ga_3 3], k_fl [], k_fL [], k_fp []), rfl, ⟨c_7, c_8, c_9, c_10, c_11, rfl⟩, by rw [ht]; exact hP9, va_K.moved hW.alike hK, hD9⟩, hS.F ht⟩) hS.2.2 dX12_comesOf_10
set_option maxHeartbeats 4000000 in
set_option maxRecDepth 100000 in
theorem e_isSeen (l : Launch) (dC : Nat → ClassId) (dI : Nat → Nat → Nat) (cI cJ cQ : ClassId) (sz : Nat) (hm : Nat) (vFo : Nat) (vSi : Nat) (vIt : Nat) (vMo : Nat) (la : Int32) (vBy : Nat) (vTy : Nat) (mi : Int32) (vMi : Nat) (pn : Int32) (vPs : Nat) (gn : Int32) (vGs : Nat) (fn : Int32) (vFt : Nat) (le : Int32) (vTo : Nat) (kn : Int32) (fe : Int32) (en : Int32) (ca : Int32) (an : Int32) (co : Int32) (vPr : Nat) (vSt : Nat) (vFn : Nat) (sn : Int32) (vSg : Nat) (vAl : Nat) (dr : Int32) (qMi : Nat → Int32) (qPs : Nat → Int32) (qGs : Nat → Int32) (qTo : Nat → Int32) (qPr : Nat → Int32) (qSt : Nat → Int32) (qFn : Nat → Int32) (qFt : Nat → Int32) (qSg : Nat → Int32) (hh0 : 0 ≤ mi ∧ mi ≤ 24) (hh1 : 0 ≤ pn ∧ pn ≤ 8) (hh2 : 0 ≤ gn ∧ gn ≤ 8) (hh3 : k_bd 2 0 7 qPr) (hh4 : 0 ≤ fe ∧ fe ≤ 24) (hh5 : en = 0 ∨ kn = 0 ∨ fe ≤ 23) (hh6 : 0 ≤ kn ∧ kn ≤ 24) (hh7 : 0 ≤ fn ∧ fn ≤ 8) (hh8 : 0 ≤ sn ∧ sn ≤ 8) (hh9 : k_tm pn qPs) (hh10 : ca = 16777215) (hh11 : k_bd 32 0 9 qFt) : Met l yX12_isSeen (kW yX12_isSeen cX12_isSeen 3 (some .boolean)) { frames := 5, cells := 0, slots := 0, locals := 121 } (kPre dC dI cI cJ cQ sz [.ref hm] [(kX12 hm vFo vSi vIt vMo la vBy vTy mi vMi pn vPs gn vGs fn vFt le vTo kn fe en ca an co vPr vSt vFn sn vSg vAl dr), (kAI vMi cI 24 qMi), (kAI vPs cI 32 qPs), (kAI vGs cI 16 qGs), (kAI vTo cI 96 qTo), (kAI vPr cI 2 qPr), (kAI vSt cI 2 qSt), (kAI vFn cI 2 qFn), (kAI vFt cI 32 qFt), (kAI vSg cI 16 qSg)]) (va_Qi (fun (r : Int32) (u : kS) => (r = (kAl fn (fun x9 => kOR qMi qPs qGs mi pn gn le (kP0 qFt x9) (kP1 qFt x9) (kP2 qFt x9) (kP1 qPs (kP0 qFt x9)) (fun x8 => if x8 < (24 : Int32) then (kP3 qFt x9) else (0 : Int32))) (fun x9 => qSg (2 * x9).toNatClampNeg) (fun x9 => qSg ((2 * x9) + 1).toNatClampNeg) (kfu sn 0) 0)) ∧ (k_bd 2 0 7 (u.2.1 1)) ∧ (0 ≤ (u.1 1) ∧ (u.1 1) ≤ 24) ∧ ((u.1 2) = 0 ∨ (u.1 0) = 0 ∨ (u.1 1) ≤ 23) ∧ (0 ≤ (u.1 0) ∧ (u.1 0) ≤ 24) ∧ (r = 0 ∨ r = 1)) (fun (u : kS) t₀ => kB dC dI cI cJ cQ (va_A [(kX12 hm vFo vSi vIt vMo la vBy vTy mi vMi pn vPs gn vGs fn vFt le vTo kn fe en ca an co vPr vSt vFn sn vSg vAl dr), (kAI vMi cI 24 qMi), (kAI vPs cI 32 qPs), (kAI vGs cI 16 qGs), (kAI vTo cI 96 qTo), (kAI vPr cI 2 qPr), (kAI vSt cI 2 qSt), (kAI vFn cI 2 qFn), (kAI vFt cI 32 qFt), (kAI vSg cI 16 qSg)] sz) [(kX12 hm vFo vSi vIt vMo la vBy vTy mi vMi pn vPs gn vGs fn vFt le vTo (u.1 0) (u.1 1) (u.1 2) ca (u.1 3) (u.1 4) vPr vSt vFn sn vSg vAl dr), (kAI vMi cI 24 qMi), (kAI vPs cI 32 qPs), (kAI vGs cI 16 qGs), (kAI vTo cI 96 (u.2.1 0)), (kAI vPr cI 2 (u.2.1 1)), (kAI vSt cI 2 (u.2.1 2)), (kAI vFn cI 2 (u.2.1 3)), (kAI vFt cI 32 qFt), (kAI vSg cI 16 qSg)] t₀) (va_A [(kX12 hm vFo vSi vIt vMo la vBy vTy mi vMi pn vPs gn vGs fn vFt le vTo kn fe en ca an co vPr vSt vFn sn vSg vAl dr), (kAI vMi cI 24 qMi), (kAI vPs cI 32 qPs), (kAI vGs cI 16 qGs), (kAI vTo cI 96 qTo), (kAI vPr cI 2 qPr), (kAI vSt cI 2 qSt), (kAI vFn cI 2 qFn), (kAI vFt cI 32 qFt), (kAI vSg cI 16 qSg)] sz)) 0 0 (va_A [(kX12 hm vFo vSi vIt vMo la vBy vTy mi vMi pn vPs gn vGs fn vFt le vTo kn fe en ca an co vPr vSt vFn sn vSg vAl dr), (kAI vMi cI 24 qMi), (kAI vPs cI 32 qPs), (kAI vGs cI 16 qGs), (kAI vTo cI 96 qTo), (kAI vPr cI 2 qPr), (kAI vSt cI 2 qSt), (kAI vFn cI 2 qFn), (kAI vFt cI 32 qFt), (kAI vSg cI 16 qSg)] sz) := by
  refine Met.ofW (cc := cX12_isSeen) (maxL := 3) (ret := (some .boolean)) (by decide) rfl ?_
  intro p₀ e₀ s₀ m₀ args below meth c₀ s₁ B hml hv₀
  obtain ⟨rfl, hsz, hP, hK, hD0, hN⟩ := hv₀
  have hx₀ := B.exec
  have hb := B.bytes
  have hr := B.returns
  have hts := atoms_spec (ws := (kW yX12_isSeen cX12_isSeen 3 (some .boolean))) B.pre
  have hts := fun w h => hts w (List.mem_cons_of_mem _ h)
  have hown : s₀.vm.findClass RX12 = some m₀.cls := findClass_of_methodNamed B.named
  have hlocks := B.notSynchronized
  subst hsz
  have hD := hD0.self (sz := s₀.heap.size)
  generalize hAe : va_A [(kX12 hm vFo vSi vIt vMo la vBy vTy mi vMi pn vPs gn vGs fn vFt le vTo kn fe en ca an co vPr vSt vFn sn vSg vAl dr), (kAI vMi cI 24 qMi), (kAI vPs cI 32 qPs), (kAI vGs cI 16 qGs), (kAI vTo cI 96 qTo), (kAI vPr cI 2 qPr), (kAI vSt cI 2 qSt), (kAI vFn cI 2 qFn), (kAI vFt cI 32 qFt), (kAI vSg cI 16 qSg)] s₀.heap.size = A at hD ⊢
  have hA : ∀ q : Nat, s₀.heap.size ≤ q → A q := fun q h => by rw [← hAe]; exact Or.inr h
  have hS : va_S A s₀.heap s₀.heap [] := va_S.rf
  have hP : va_P (dC, dI) vwCl [(kX12 hm vFo vSi vIt vMo la vBy vTy mi vMi pn vPs gn vGs fn vFt le vTo kn fe en ca an co vPr vSt vFn sn vSg vAl dr), (kAI vMi cI 24 qMi), (kAI vPs cI 32 qPs), (kAI vGs cI 16 qGs), (kAI vTo cI 96 qTo), (kAI vPr cI 2 qPr), (kAI vSt cI 2 qSt), (kAI vFn cI 2 qFn), (kAI vFt cI 32 qFt), (kAI vSg cI 16 qSg)] s₀.heap := hP
  have hl := lv_entry ([.ref hm]) (n := 3) (Nat.le_of_ble_eq_true rfl)
  rw [lg_entry_eq]
  generalize (lg_sl ([.ref hm]) ++ List.replicate (3 - (lg_sl ([.ref hm])).length) Slot.unset).toArray = ls at hl ⊢
  have hl : lv_has ls 3 [(0, .ref hm)] := hl
  obtain ⟨H, hH⟩ : ∃ z : Heap, z = s₀.heap := ⟨_, rfl⟩
  rw [← hH] at hP
  have hS : va_S A s₀.heap H [] := by rw [hH]; exact hS
  refine k_heap hH ?_
  have hD : va_D A [(kX12 hm vFo vSi vIt vMo la vBy vTy mi vMi pn vPs gn vGs fn vFt le vTo kn fe en ca an co vPr vSt vFn sn vSg vAl dr), (kAI vMi cI 24 qMi), (kAI vPs cI 32 qPs), (kAI vGs cI 16 qGs), (kAI vTo cI 96 qTo), (kAI vPr cI 2 qPr), (kAI vSt cI 2 qSt), (kAI vFn cI 2 qFn), (kAI vFt cI 32 qFt), (kAI vSg cI 16 qSg)] := hD
  obtain ⟨locs, hlo⟩ : ∃ z : List Loc, z = [] := ⟨_, rfl⟩
  rw [← hlo] at hS ⊢
  clear hlo hH hAe hD0
  refine lv_iconst (v := 1) hx₀ hb dX12_isSeen_0 (by decide +kernel) ?_
  refine lv_istore_n (lv' := [(1, .int 1), (0, .ref hm)]) hx₀ hb dX12_isSeen_1 rfl hl (by decide) rfl (fun ls hl => ?_)
  refine lv_iconst (v := 0) hx₀ hb dX12_isSeen_2 (by decide +kernel) ?_
  refine lv_istore_n (lv' := [(2, .int 0), (1, .int 1), (0, .ref hm)]) hx₀ hb dX12_isSeen_3 rfl hl (by decide) rfl (fun ls hl => ?_)
  refine (?keyz1 : ∀ (jz1 : Nat) (isz1 : Int32) (kz1 : Int32) (knz1 : Int32) (fez1 : Int32) (enz1 : Int32) (anz1 : Int32) (coz1 : Int32) (qtz1 : Nat → Int32) (qpz1 : Nat → Int32) (qsz1 : Nat → Int32) (qfz1 : Nat → Int32) (H : Heap) (locs : List Loc) (ls : Array Slot), (0 ≤ kz1 ∧ kz1 ≤ sn) → (isz1 = 0 ∨ isz1 = 1) → (k_aq isz1 fn (fun x9 => kOR qMi qPs qGs mi pn gn le (kP0 qFt x9) (kP1 qFt x9) (kP2 qFt x9) (kP1 qPs (kP0 qFt x9)) (fun x8 => if x8 < (24 : Int32) then (kP3 qFt x9) else (0 : Int32))) (fun x9 => qSg (2 * x9).toNatClampNeg) (fun x9 => qSg ((2 * x9) + 1).toNatClampNeg) sn kz1 (kAl fn (fun x9 => kOR qMi qPs qGs mi pn gn le (kP0 qFt x9) (kP1 qFt x9) (kP2 qFt x9) (kP1 qPs (kP0 qFt x9)) (fun x8 => if x8 < (24 : Int32) then (kP3 qFt x9) else (0 : Int32))) (fun x9 => qSg (2 * x9).toNatClampNeg) (fun x9 => qSg ((2 * x9) + 1).toNatClampNeg) (kfu sn 0) 0)) → (k_bd 2 0 7 qpz1) → (0 ≤ fez1 ∧ fez1 ≤ 24) → (enz1 = 0 ∨ knz1 = 0 ∨ fez1 ≤ 23) → (0 ≤ knz1 ∧ knz1 ≤ 24) → ((sn.toInt - kz1.toInt).toNat = jz1) → va_P (dC, dI) vwCl [(kX12 hm vFo vSi vIt vMo la vBy vTy mi vMi pn vPs gn vGs fn vFt le vTo knz1 fez1 enz1 ca anz1 coz1 vPr vSt vFn sn vSg vAl dr), (kAI vMi cI 24 qMi), (kAI vPs cI 32 qPs), (kAI vGs cI 16 qGs), (kAI vTo cI 96 qtz1), (kAI vPr cI 2 qpz1), (kAI vSt cI 2 qsz1), (kAI vFn cI 2 qfz1), (kAI vFt cI 32 qFt), (kAI vSg cI 16 qSg)] H → va_D A [(kX12 hm vFo vSi vIt vMo la vBy vTy mi vMi pn vPs gn vGs fn vFt le vTo knz1 fez1 enz1 ca anz1 coz1 vPr vSt vFn sn vSg vAl dr), (kAI vMi cI 24 qMi), (kAI vPs cI 32 qPs), (kAI vGs cI 16 qGs), (kAI vTo cI 96 qtz1), (kAI vPr cI 2 qpz1), (kAI vSt cI 2 qsz1), (kAI vFn cI 2 qfz1), (kAI vFt cI 32 qFt), (kAI vSg cI 16 qSg)] → va_S A s₀.heap H locs → lv_has ls 3 [(2, .int kz1), (1, .int isz1), (0, .ref hm)] → W p₀ l e₀ _ s₀ m₀ _ below meth c₀ H locs _ _ _ (F0 m₀ 4 ls [])) _ (1 : Int32) (0 : Int32) kn fe en an co _ _ _ _ H locs ls (show 0 ≤ (0 : Int32) ∧ (0 : Int32) ≤ sn from ⟨(by decide), hh8.1⟩) (show (1 : Int32) = 0 ∨ (1 : Int32) = 1 from (Or.inr (rfl))) (k_aq_1 rfl) (hh3) (hh4) (hh5) (hh6) rfl hP hD hS hl
  clear hP hD hS hl
  intro jz1
  induction jz1 using Nat.strongRecOn with
  | ind jz1 ihz1 =>
    intro isz1 kz1 knz1 fez1 enz1 anz1 coz1 qtz1 qpz1 qsz1 qfz1 H locs ls hiz1_0 hiz1_1 hiz1_2 hiz1_3 hiz1_4 hiz1_5 hiz1_6 hjz1 hP hD hS hl
    refine lv_iload_n hx₀ hb dX12_isSeen_4 rfl (lv_at hl 0 rfl) ?_
    refine lv_aload_n hx₀ hb dX12_isSeen_5 rfl (lv_at hl 2 rfl) ?_
    refine va_get (D := (dC, dI)) (ci := 11) (v := .int sn) (C := RX12) (T := TX12) (N := 30) hx₀ hb hts inlX12 hown hK hP 0 rfl rfl 26 (by decide) (hts (.fieldLink RX12 240 "BittenStickModel" "sights" "I") wd_696) (fun _ h9 => h9) rfl dX12_isSeen_6 ?_
    refine lv_icmp_ge (tgt := 69) hx₀ hb dX12_isSeen_9 (by decide) (fun c_2 => ?_) (fun c_2 => ?_)
    · refine lv_iload_n hx₀ hb dX12_isSeen_69 rfl (lv_at hl 1 rfl) ?_
      obtain ⟨hP9, hD9⟩ := k_c2 (wc := [(kX12 hm vFo vSi vIt vMo la vBy vTy mi vMi pn vPs gn vGs fn vFt le vTo knz1 fez1 enz1 ca anz1 coz1 vPr vSt vFn sn vSg vAl dr), (kAI vMi cI 24 qMi), (kAI vPs cI 32 qPs), (kAI vGs cI 16 qGs), (kAI vTo cI 96 qtz1), (kAI vPr cI 2 qpz1), (kAI vSt cI 2 qsz1), (kAI vFn cI 2 qfz1), (kAI vFt cI 32 qFt), (kAI vSg cI 16 qSg)]) hP hD [0, 1, 2, 3, 4, 5, 6, 7, 8, 9] (by decide +kernel) rfl
      exact W.zret (v := isz1) hx₀ hb hr (k_nar01 (hiz1_1)) (fun t₀ ht hW => ⟨⟨isz1, (k_fn [knz1, fez1, enz1, anz1, coz1], k_fa [qtz1, qpz1, qsz1, qfz1], k_fl [], k_fL [], k_fp []), rfl, ⟨(k_aq_e hiz1_2 c_2), hiz1_3, hiz1_4, hiz1_5, hiz1_6, hiz1_1⟩, by rw [ht]; exact hP9, va_K.moved hW.alike hK, hD9⟩, hS.F ht⟩) hS.2.2 dX12_isSeen_70
    · refine lv_iload_n hx₀ hb dX12_isSeen_12 rfl (lv_at hl 1 rfl) ?_
      refine lv_if_eq (tgt := 69) hx₀ hb dX12_isSeen_13 (by decide) (fun c_3 => ?_) (fun c_3 => ?_)
      · refine lv_iload_n hx₀ hb dX12_isSeen_69 rfl (lv_at hl 1 rfl) ?_
        obtain ⟨hP9, hD9⟩ := k_c2 (wc := [(kX12 hm vFo vSi vIt vMo la vBy vTy mi vMi pn vPs gn vGs fn vFt le vTo knz1 fez1 enz1 ca anz1 coz1 vPr vSt vFn sn vSg vAl dr), (kAI vMi cI 24 qMi), (kAI vPs cI 32 qPs), (kAI vGs cI 16 qGs), (kAI vTo cI 96 qtz1), (kAI vPr cI 2 qpz1), (kAI vSt cI 2 qsz1), (kAI vFn cI 2 qfz1), (kAI vFt cI 32 qFt), (kAI vSg cI 16 qSg)]) hP hD [0, 1, 2, 3, 4, 5, 6, 7, 8, 9] (by decide +kernel) rfl
        exact W.zret (v := isz1) hx₀ hb hr (k_nar01 (hiz1_1)) (fun t₀ ht hW => ⟨⟨isz1, (k_fn [knz1, fez1, enz1, anz1, coz1], k_fa [qtz1, qpz1, qsz1, qfz1], k_fl [], k_fL [], k_fp []), rfl, ⟨(k_aq_z hiz1_2 c_3), hiz1_3, hiz1_4, hiz1_5, hiz1_6, hiz1_1⟩, by rw [ht]; exact hP9, va_K.moved hW.alike hK, hD9⟩, hS.F ht⟩) hS.2.2 dX12_isSeen_70
      · refine lv_aload_n hx₀ hb dX12_isSeen_16 rfl (lv_at hl 2 rfl) ?_
        refine lv_aload_n hx₀ hb dX12_isSeen_17 rfl (lv_at hl 2 rfl) ?_
        refine va_get (D := (dC, dI)) (ci := 11) (v := .ref vSg) (C := RX12) (T := TX12) (N := 30) hx₀ hb hts inlX12 hown hK hP 0 rfl rfl 27 (by decide) (hts (.fieldLink RX12 52 "BittenStickModel" "sight" "[I") wd_129) (fun _ h9 => h9) rfl dX12_isSeen_18 ?_
        refine lv_iconst (v := 2) hx₀ hb dX12_isSeen_21 (by decide +kernel) ?_
        refine lv_iload_n hx₀ hb dX12_isSeen_22 rfl (lv_at hl 0 rfl) ?_
        refine lv_imul hx₀ hb dX12_isSeen_23 ?_
        refine va_iald hx₀ hb hK hP 9 0 rfl rfl (vp_in_iff.mpr (lf_g_isSeen_1 sn kz1 jz1 hh8 hiz1_0 hjz1 c_2)) dX12_isSeen_24 ?_
        refine lv_topi (fun y_4 ey_4 => ?_)
        obtain ⟨hPc, hDc, hFc, hC⟩ := k_cw (wc := [(kX12 hm vFo vSi vIt vMo la vBy vTy mi vMi pn vPs gn vGs fn vFt le vTo knz1 fez1 enz1 ca anz1 coz1 vPr vSt vFn sn vSg vAl dr)]) hP hD hS hA [0] (by decide +kernel) rfl
        refine va_calli (va_runV (As := [.int y_4]) (rest := []) ⟨hx₀, hb, hml, hown, hts⟩ (g_isFlight l dC dI cI cJ cQ H.size hm y_4 vFo vSi vIt vMo la vBy vTy mi vMi pn vPs gn vGs fn vFt le vTo knz1 fez1 enz1 ca anz1 coz1 vPr vSt vFn sn vSg vAl dr (hh7)) (cwV 1 hts (kGV wd_528 wd_525 wd_526 wd_527 wd_5) rfl rfl rfl (by decide +kernel) ⟨Nat.le_of_ble_eq_true rfl, Nat.le_of_ble_eq_true rfl⟩) (k_preV11 (q0 := 0) hK hPc hDc hN rfl) rfl rfl hl.1 rfl (lv_room (Nat.le_of_ble_eq_true rfl)) dX12_isSeen_25 ⟨by decide +kernel, by decide +kernel⟩) hS (fun q _ h => hFc q h) hFc (fun r_5 u₀ t₀ H1 locs ht hvm hw hB hz1 hk1 hS => ?_)
        obtain ⟨hP1, hK1, hD1⟩ := hB
        rw [ht] at hP1
        have hJ := k_jn (wr := [(kAI vMi cI 24 qMi), (kAI vPs cI 32 qPs), (kAI vGs cI 16 qGs), (kAI vTo cI 96 qtz1), (kAI vPr cI 2 qpz1), (kAI vSt cI 2 qsz1), (kAI vFn cI 2 qfz1), (kAI vFt cI 32 qFt), (kAI vSg cI 16 qSg)]) (wt := [(kAI vMi cI 24 qMi), (kAI vPs cI 32 qPs), (kAI vGs cI 16 qGs), (kAI vTo cI 96 qtz1), (kAI vPr cI 2 qpz1), (kAI vSt cI 2 qsz1), (kAI vFn cI 2 qfz1), (kAI vFt cI 32 qFt), (kAI vSg cI 16 qSg), (kX12 hm vFo vSi vIt vMo la vBy vTy mi vMi pn vPs gn vGs fn vFt le vTo knz1 fez1 enz1 ca anz1 coz1 vPr vSt vFn sn vSg vAl dr)]) hP hD hC [1, 2, 3, 4, 5, 6, 7, 8, 9] rfl (by decide +kernel) (by decide +kernel) hk1 hFc hP1 hD1 rfl
        clear hP hD hPc hDc hFc hC hP1 hD1 hK1 hz1 hk1 hvm ht
        obtain ⟨hP, hD⟩ := hJ
        generalize H1 = H at hP hS ⊢
        try dsimp only at hw
        by_cases c_6 : 0 ≤ y_4 ∧ y_4 < fn
        · rw [if_pos c_6] at hw
          refine k_topi (v := 1) hw ?_
          refine lv_if_eq (tgt := 61) hx₀ hb dX12_isSeen_28 (by decide) (fun c9 => absurd c9 (by decide +kernel)) (fun _ => ?_)
          refine lv_aload_n hx₀ hb dX12_isSeen_31 rfl (lv_at hl 2 rfl) ?_
          refine lv_aload_n hx₀ hb dX12_isSeen_32 rfl (lv_at hl 2 rfl) ?_
          refine va_get (D := (dC, dI)) (ci := 11) (v := .ref vSg) (C := RX12) (T := TX12) (N := 30) hx₀ hb hts inlX12 hown hK hP 9 rfl rfl 27 (by decide) (hts (.fieldLink RX12 52 "BittenStickModel" "sight" "[I") wd_129) (fun _ h9 => h9) rfl dX12_isSeen_33 ?_
          refine lv_iconst (v := 2) hx₀ hb dX12_isSeen_36 (by decide +kernel) ?_
          refine lv_iload_n hx₀ hb dX12_isSeen_37 rfl (lv_at hl 0 rfl) ?_
          refine lv_imul hx₀ hb dX12_isSeen_38 ?_
          refine va_iald hx₀ hb hK hP 8 0 rfl rfl (vp_in_iff.mpr (lf_g_isSeen_1 sn kz1 jz1 hh8 hiz1_0 hjz1 c_2)) dX12_isSeen_39 ?_
          refine k_topi (v := y_4) ey_4.symm ?_
          refine lv_iconst (v := 0) hx₀ hb dX12_isSeen_40 (by decide +kernel) ?_
          obtain ⟨hPc, hDc, hFc, hC⟩ := k_cw (wc := [(kX12 hm vFo vSi vIt vMo la vBy vTy mi vMi pn vPs gn vGs fn vFt le vTo knz1 fez1 enz1 ca anz1 coz1 vPr vSt vFn sn vSg vAl dr), (kAI vMi cI 24 qMi), (kAI vPs cI 32 qPs), (kAI vGs cI 16 qGs), (kAI vTo cI 96 qtz1), (kAI vPr cI 2 qpz1), (kAI vSt cI 2 qsz1), (kAI vFn cI 2 qfz1), (kAI vFt cI 32 qFt)]) hP hD hS hA [9, 0, 1, 2, 3, 4, 5, 6, 7] (by decide +kernel) rfl
          refine va_calli (va_runV (As := [.int y_4, .int 0]) (rest := []) ⟨hx₀, hb, hml, hown, hts⟩ (e_comesOf l dC dI cI cJ cQ H.size hm y_4 vFo vSi vIt vMo la vBy vTy mi vMi pn vPs gn vGs fn vFt le vTo knz1 fez1 enz1 ca anz1 coz1 vPr vSt vFn sn vSg vAl dr qMi qPs qGs qtz1 qpz1 qsz1 qfz1 qFt (hh0) (hh1) (hh2) (hiz1_3) (lf_g_flies_3 fn y_4 hh7 c_6) (hh9) (hh10) (hh11)) (cwV 2 hts (kGV wd_532 wd_529 wd_530 wd_531 wd_5) rfl rfl rfl (by decide +kernel) ⟨Nat.le_of_ble_eq_true rfl, Nat.le_of_ble_eq_true rfl⟩) (k_preV11 (q0 := 0) hK hPc hDc hN rfl) rfl rfl hl.1 rfl (lv_room (Nat.le_of_ble_eq_true rfl)) dX12_isSeen_41 ⟨by decide +kernel, by decide +kernel⟩) hS (fun q _ h => hFc q h) hFc (fun r_7 u₀ t₀ H1 locs ht hvm hw hB hz1 hk1 hS => ?_)
          obtain ⟨g_8, ga_9, gl_10, gb_11, gp_12⟩ := u₀
          obtain ⟨hP1, hK1, hD1⟩ := hB
          rw [ht] at hP1
          have hJ := k_jn (wr := [(kAI vSg cI 16 qSg)]) (wt := [(kAI vSg cI 16 qSg), (kX12 hm vFo vSi vIt vMo la vBy vTy mi vMi pn vPs gn vGs fn vFt le vTo (g_8 0) (g_8 1) (g_8 2) ca (g_8 3) (g_8 4) vPr vSt vFn sn vSg vAl dr), (kAI vMi cI 24 qMi), (kAI vPs cI 32 qPs), (kAI vGs cI 16 qGs), (kAI vTo cI 96 (ga_9 0)), (kAI vPr cI 2 (ga_9 1)), (kAI vSt cI 2 (ga_9 2)), (kAI vFn cI 2 (ga_9 3)), (kAI vFt cI 32 qFt)]) hP hD hC [8] rfl (by decide +kernel) (by decide +kernel) hk1 hFc hP1 hD1 rfl
          clear hP hD hPc hDc hFc hC hP1 hD1 hK1 hz1 hk1 hvm ht
          obtain ⟨hP, hD⟩ := hJ
          generalize H1 = H at hP hS ⊢
          try dsimp only at hw
          obtain ⟨c_13, c_14, c_15, c_16, c_17, c_18⟩ := hw
          refine lv_aload_n hx₀ hb dX12_isSeen_44 rfl (lv_at hl 2 rfl) ?_
          refine va_get (D := (dC, dI)) (ci := 11) (v := .ref vSg) (C := RX12) (T := TX12) (N := 30) hx₀ hb hts inlX12 hown hK hP 1 rfl rfl 27 (by decide) (hts (.fieldLink RX12 52 "BittenStickModel" "sight" "[I") wd_129) (fun _ h9 => h9) rfl dX12_isSeen_45 ?_
          refine lv_iconst (v := 2) hx₀ hb dX12_isSeen_48 (by decide +kernel) ?_
          refine lv_iload_n hx₀ hb dX12_isSeen_49 rfl (lv_at hl 0 rfl) ?_
          refine lv_imul hx₀ hb dX12_isSeen_50 ?_
          refine lv_iconst (v := 1) hx₀ hb dX12_isSeen_51 (by decide +kernel) ?_
          refine lv_iadd hx₀ hb dX12_isSeen_52 ?_
          refine va_iald hx₀ hb hK hP 0 0 rfl rfl (vp_in_iff.mpr (lf_g_isSeen_2 sn kz1 jz1 hh8 hiz1_0 hjz1 c_2)) dX12_isSeen_53 ?_
          refine lv_topi (fun y_19 ey_19 => ?_)
          refine lv_icmp_ne (tgt := 61) hx₀ hb dX12_isSeen_54 (by decide) (fun c_20 => ?_) (fun c_20 => ?_)
          · refine lv_iconst (v := 0) hx₀ hb dX12_isSeen_61 (by decide +kernel) ?_
            refine lv_istore_n (lv' := [(1, .int 0), (2, .int kz1), (0, .ref hm)]) hx₀ hb dX12_isSeen_62 rfl hl (by decide) rfl (fun ls hl => ?_)
            refine lv_iinc (v := kz1 + 1) (lv' := [(2, .int (kz1 + 1)), (1, .int 0), (0, .ref hm)]) hx₀ hb dX12_isSeen_63 hl (k := 1) rfl rfl (by decide) rfl (fun ls hl => ?_)
            refine lv_goto (tgt := 4) hx₀ hb dX12_isSeen_66 (by decide) ?_
            exact ihz1 _ (lf_g_farthestNow_3 sn kz1 jz1 hh8 hiz1_0 hjz1 c_2) (0 : Int32) (kz1 + 1) (g_8 0) (g_8 1) (g_8 2) (g_8 3) (g_8 4) (ga_9 0) (ga_9 1) (ga_9 2) (ga_9 3) _ _ _ (lf_g_farthestNow_2 sn kz1 jz1 hh8 hiz1_0 hjz1 c_2) (show (0 : Int32) = 0 ∨ (0 : Int32) = 1 from (Or.inl (rfl))) (k_aq_0 (kAl_m (k_aq_l hiz1_2 c_3) c_2 ey_4.symm c_6 (c_18.trans (kO_done c_17).1) ey_19.symm c_20)) (c_13) (c_14) (c_15) (c_16) rfl (hP.sub [1, 2, 3, 4, 5, 6, 7, 8, 9, 0] rfl) (hD.sub [1, 2, 3, 4, 5, 6, 7, 8, 9, 0] (by decide +kernel) rfl) hS (lv_sub hl [0, 1, 2] rfl)
          · refine lv_iconst (v := 1) hx₀ hb dX12_isSeen_57 (by decide +kernel) ?_
            refine lv_goto (tgt := 62) hx₀ hb dX12_isSeen_58 (by decide) ?_
            refine lv_istore_n (lv' := [(1, .int 1), (2, .int kz1), (0, .ref hm)]) hx₀ hb dX12_isSeen_62 rfl hl (by decide) rfl (fun ls hl => ?_)
            refine lv_iinc (v := kz1 + 1) (lv' := [(2, .int (kz1 + 1)), (1, .int 1), (0, .ref hm)]) hx₀ hb dX12_isSeen_63 hl (k := 1) rfl rfl (by decide) rfl (fun ls hl => ?_)
            refine lv_goto (tgt := 4) hx₀ hb dX12_isSeen_66 (by decide) ?_
            exact ihz1 _ (lf_g_farthestNow_3 sn kz1 jz1 hh8 hiz1_0 hjz1 c_2) (1 : Int32) (kz1 + 1) (g_8 0) (g_8 1) (g_8 2) (g_8 3) (g_8 4) (ga_9 0) (ga_9 1) (ga_9 2) (ga_9 3) _ _ _ (lf_g_farthestNow_2 sn kz1 jz1 hh8 hiz1_0 hjz1 c_2) (show (1 : Int32) = 0 ∨ (1 : Int32) = 1 from (Or.inr (rfl))) (k_aq_1 (kAl_s (k_aq_l hiz1_2 c_3) c_2 ey_4.symm c_6 (c_18.trans (kO_done c_17).1) ey_19.symm c_20)) (c_13) (c_14) (c_15) (c_16) rfl (hP.sub [1, 2, 3, 4, 5, 6, 7, 8, 9, 0] rfl) (hD.sub [1, 2, 3, 4, 5, 6, 7, 8, 9, 0] (by decide +kernel) rfl) hS (lv_sub hl [0, 1, 2] rfl)
        rw [if_neg c_6] at hw
        refine k_topi (v := 0) hw ?_
        refine lv_if_eq (tgt := 61) hx₀ hb dX12_isSeen_28 (by decide) (fun _ => ?_) (fun c9 => absurd (by decide +kernel) c9)
        refine lv_iconst (v := 0) hx₀ hb dX12_isSeen_61 (by decide +kernel) ?_
        refine lv_istore_n (lv' := [(1, .int 0), (2, .int kz1), (0, .ref hm)]) hx₀ hb dX12_isSeen_62 rfl hl (by decide) rfl (fun ls hl => ?_)
        refine lv_iinc (v := kz1 + 1) (lv' := [(2, .int (kz1 + 1)), (1, .int 0), (0, .ref hm)]) hx₀ hb dX12_isSeen_63 hl (k := 1) rfl rfl (by decide) rfl (fun ls hl => ?_)
        refine lv_goto (tgt := 4) hx₀ hb dX12_isSeen_66 (by decide) ?_
        exact ihz1 _ (lf_g_farthestNow_3 sn kz1 jz1 hh8 hiz1_0 hjz1 c_2) (0 : Int32) (kz1 + 1) knz1 fez1 enz1 anz1 coz1 qtz1 qpz1 qsz1 qfz1 _ _ _ (lf_g_farthestNow_2 sn kz1 jz1 hh8 hiz1_0 hjz1 c_2) (show (0 : Int32) = 0 ∨ (0 : Int32) = 1 from (Or.inl (rfl))) (k_aq_0 (kAl_n (k_aq_l hiz1_2 c_3) c_2 ey_4.symm c_6)) (hiz1_3) (hiz1_4) (hiz1_5) (hiz1_6) rfl (hP.sub [9, 0, 1, 2, 3, 4, 5, 6, 7, 8] rfl) (hD.sub [9, 0, 1, 2, 3, 4, 5, 6, 7, 8] (by decide +kernel) rfl) hS (lv_sub hl [0, 1, 2] rfl)
theorem lf_e_sores__1 (a0 : Int32) (h0 : a0 = 0 ∨ a0 = 1) (h1 : ¬ a0 = 0) : a0 = 1 := by
  first | rfl | assumption | decide | exact Or.inl rfl | (first | omega | (have hr0 := Int32.toInt_lt a0; have hs0 := Int32.le_toInt a0; simp only [Int64.toInt_add, Int64.toInt_sub, Int32.toInt_add, Int32.toInt_sub, Int32.toInt_mul, Int64.le_iff_toInt_le, Int64.lt_iff_toInt_lt, Int32.le_iff_toInt_le, Int32.lt_iff_toInt_lt, ← Int32.toInt_inj, ← Int64.toInt_inj, Int32.toInt_toInt64, kc_0, kc_1] at *; (first | omega | ((try simp (disch := omega) only [k_bm64] at *); (try simp (disch := omega) only [k_bm] at *); (try simp (disch := omega) only [k_bm] at *); omega) | (simp only [Int.bmod] at *; omega))))
set_option maxHeartbeats 4000000 in
set_option maxRecDepth 100000 in
theorem e_sores_ (l : Launch) (dC : Nat → ClassId) (dI : Nat → Nat → Nat) (cI cJ cQ : ClassId) (sz : Nat) (hx : Nat) (p1 : Int32) (aLa : Nat) (aPa : Nat) (aGe : Nat) (aFl : Nat) (aTr : Nat) (aBe : Nat) (aLu : Nat) (aLo : Nat) (vSf : Nat) (vSm : Nat) (vCo : Nat) (vSh : Nat) (xs : Int32) (xl : Int32) (xf : Int32) (gL : Nat) (gR : Nat) (lf : Nat) (rt : Nat) (tgo : Int32) (tca : Int32) (tki : Int32) (tso : Int32) (tbe : Int32) (twe : Int32) (tle : Int32) (tan : Int32) (tco : Int32) (ten : Int32) (u0 : Int32) (u1 : Int32) (u2 : Int32) (u3 : Int32) (v0 : Int32) (v1 : Int32) (v2 : Int32) (v3 : Int32) (vLa : Nat) (l4 : Int32) (a4 : Int32) (n4 : Int32) (f4 : Nat → Int32) (vPa : Nat) (l7 : Int32) (a7 : Int32) (n7 : Int32) (f7 : Nat → Int32) (vGe : Nat) (l2 : Int32) (a2 : Int32) (n2 : Int32) (f2 : Nat → Int32) (vFl : Nat) (xn : Int32) (ff : Nat → Int32) (sf : Nat → Int32) (sm : Nat → Int32) (hh0 : 0 ≤ n4 ∧ n4 ≤ 24) (hh1 : 0 ≤ xn ∧ xn ≤ 8) (hh2 : 0 ≤ xs ∧ xs ≤ 8) : Met l yX11_sores (kW yX11_sores cX11_sores 4 (some .int)) { frames := 4, cells := 0, slots := 0, locals := 98 } (kPre dC dI cI cJ cQ sz [.ref hx, .int p1] [(kX11 hx aLa aPa aGe aFl aTr aBe aLu aLo vSf vSm vCo vSh xs xl xf), (kX10 aTr aLa aPa aGe gL gR lf rt tgo tca tki tso tbe twe tle tan tco ten), (kX3 gL u0 u1 u2 u3), (kX3 gR v0 v1 v2 v3), (kX4 aLa vLa l4 a4 n4), (kAI vLa cI 24 f4), (kX7 aPa vPa l7 a7 n7), (kAI vPa cI 39 f7), (kX2 aGe vGe l2 a2 n2), (kAI vGe cI 23 f2), (kX1 aFl vFl xn), (kAI vFl cI 32 ff), (kAI vSf cI 8 sf), (kAI vSm cI 8 sm)]) (va_Qi (fun (r : Int32) (u : kS) => (r = if 0 ≤ p1 ∧ p1 < n7 then (kSo (fun x1 => (kAl xn (fun x9 => kOC f4 f7 f2 n4 n7 n2 xl (kIt xn ff x9 0) (kIt xn ff x9 1) (kIt xn ff x9 2) (if x9 = (-1 : Int32) then (-1 : Int32) else (kIt xn ff x9 3)) (if (kIt xn ff x9 0) = p1 then x1 else (kAt 39 f7 ((5 * (kIt xn ff x9 0)) + 1)))) (fun x9 => sf x9.toNatClampNeg) (fun x9 => sm x9.toNatClampNeg) (kfu xs 0) 0)) (kfu 6 0) 0 0) else -2)) (fun (u : kS) t₀ => kB dC dI cI cJ cQ (va_A [(kX11 hx aLa aPa aGe aFl aTr aBe aLu aLo vSf vSm vCo vSh xs xl xf), (kX10 aTr aLa aPa aGe gL gR lf rt tgo tca tki tso tbe twe tle tan tco ten), (kX3 gL u0 u1 u2 u3), (kX3 gR v0 v1 v2 v3), (kX4 aLa vLa l4 a4 n4), (kAI vLa cI 24 f4), (kX7 aPa vPa l7 a7 n7), (kAI vPa cI 39 f7), (kX2 aGe vGe l2 a2 n2), (kAI vGe cI 23 f2), (kX1 aFl vFl xn), (kAI vFl cI 32 ff), (kAI vSf cI 8 sf), (kAI vSm cI 8 sm)] sz) [(kX11 hx aLa aPa aGe aFl aTr aBe aLu aLo vSf vSm vCo vSh xs xl xf), (kX10 aTr aLa aPa aGe gL gR (u.2.2.2.2 0) (u.2.2.2.2 1) (u.1 8) (u.1 9) (u.1 10) (u.1 11) (u.1 12) (u.1 13) (u.1 14) (u.1 15) (u.1 16) (u.1 17)), (kX3 gL (u.1 0) (u.1 1) (u.1 2) (u.1 3)), (kX3 gR (u.1 4) (u.1 5) (u.1 6) (u.1 7)), (kX4 aLa vLa l4 a4 n4), (kAI vLa cI 24 f4), (kX7 aPa vPa l7 a7 n7), (kAI vPa cI 39 f7), (kX2 aGe vGe l2 a2 n2), (kAI vGe cI 23 f2), (kX1 aFl vFl xn), (kAI vFl cI 32 ff), (kAI vSf cI 8 sf), (kAI vSm cI 8 sm)] t₀) (va_A [(kX11 hx aLa aPa aGe aFl aTr aBe aLu aLo vSf vSm vCo vSh xs xl xf), (kX10 aTr aLa aPa aGe gL gR lf rt tgo tca tki tso tbe twe tle tan tco ten), (kX3 gL u0 u1 u2 u3), (kX3 gR v0 v1 v2 v3), (kX4 aLa vLa l4 a4 n4), (kAI vLa cI 24 f4), (kX7 aPa vPa l7 a7 n7), (kAI vPa cI 39 f7), (kX2 aGe vGe l2 a2 n2), (kAI vGe cI 23 f2), (kX1 aFl vFl xn), (kAI vFl cI 32 ff), (kAI vSf cI 8 sf), (kAI vSm cI 8 sm)] sz)) 0 0 (va_A [(kX11 hx aLa aPa aGe aFl aTr aBe aLu aLo vSf vSm vCo vSh xs xl xf), (kX10 aTr aLa aPa aGe gL gR lf rt tgo tca tki tso tbe twe tle tan tco ten), (kX3 gL u0 u1 u2 u3), (kX3 gR v0 v1 v2 v3), (kX4 aLa vLa l4 a4 n4), (kAI vLa cI 24 f4), (kX7 aPa vPa l7 a7 n7), (kAI vPa cI 39 f7), (kX2 aGe vGe l2 a2 n2), (kAI vGe cI 23 f2), (kX1 aFl vFl xn), (kAI vFl cI 32 ff), (kAI vSf cI 8 sf), (kAI vSm cI 8 sm)] sz) := by
  refine Met.ofW (cc := cX11_sores) (maxL := 4) (ret := (some .int)) (by decide) rfl ?_
  intro p₀ e₀ s₀ m₀ args below meth c₀ s₁ B hml hv₀
  obtain ⟨rfl, hsz, hP, hK, hD0, hN⟩ := hv₀
  have hx₀ := B.exec
  have hb := B.bytes
  have hr := B.returns
  have hts := atoms_spec (ws := (kW yX11_sores cX11_sores 4 (some .int))) B.pre
  have hts := fun w h => hts w (List.mem_cons_of_mem _ h)
  have hown : s₀.vm.findClass RX11 = some m₀.cls := findClass_of_methodNamed B.named
  have hlocks := B.notSynchronized
  subst hsz
  have hD := hD0.self (sz := s₀.heap.size)
  generalize hAe : va_A [(kX11 hx aLa aPa aGe aFl aTr aBe aLu aLo vSf vSm vCo vSh xs xl xf), (kX10 aTr aLa aPa aGe gL gR lf rt tgo tca tki tso tbe twe tle tan tco ten), (kX3 gL u0 u1 u2 u3), (kX3 gR v0 v1 v2 v3), (kX4 aLa vLa l4 a4 n4), (kAI vLa cI 24 f4), (kX7 aPa vPa l7 a7 n7), (kAI vPa cI 39 f7), (kX2 aGe vGe l2 a2 n2), (kAI vGe cI 23 f2), (kX1 aFl vFl xn), (kAI vFl cI 32 ff), (kAI vSf cI 8 sf), (kAI vSm cI 8 sm)] s₀.heap.size = A at hD ⊢
  have hA : ∀ q : Nat, s₀.heap.size ≤ q → A q := fun q h => by rw [← hAe]; exact Or.inr h
  have hS : va_S A s₀.heap s₀.heap [] := va_S.rf
  have hP : va_P (dC, dI) vwCl [(kX11 hx aLa aPa aGe aFl aTr aBe aLu aLo vSf vSm vCo vSh xs xl xf), (kX10 aTr aLa aPa aGe gL gR lf rt tgo tca tki tso tbe twe tle tan tco ten), (kX3 gL u0 u1 u2 u3), (kX3 gR v0 v1 v2 v3), (kX4 aLa vLa l4 a4 n4), (kAI vLa cI 24 f4), (kX7 aPa vPa l7 a7 n7), (kAI vPa cI 39 f7), (kX2 aGe vGe l2 a2 n2), (kAI vGe cI 23 f2), (kX1 aFl vFl xn), (kAI vFl cI 32 ff), (kAI vSf cI 8 sf), (kAI vSm cI 8 sm)] s₀.heap := hP
  have hl := lv_entry ([.ref hx, .int p1]) (n := 4) (Nat.le_of_ble_eq_true rfl)
  rw [lg_entry_eq]
  generalize (lg_sl ([.ref hx, .int p1]) ++ List.replicate (4 - (lg_sl ([.ref hx, .int p1])).length) Slot.unset).toArray = ls at hl ⊢
  have hl : lv_has ls 4 [(0, .ref hx), (1, .int p1)] := hl
  obtain ⟨H, hH⟩ : ∃ z : Heap, z = s₀.heap := ⟨_, rfl⟩
  rw [← hH] at hP
  have hS : va_S A s₀.heap H [] := by rw [hH]; exact hS
  refine k_heap hH ?_
  have hD : va_D A [(kX11 hx aLa aPa aGe aFl aTr aBe aLu aLo vSf vSm vCo vSh xs xl xf), (kX10 aTr aLa aPa aGe gL gR lf rt tgo tca tki tso tbe twe tle tan tco ten), (kX3 gL u0 u1 u2 u3), (kX3 gR v0 v1 v2 v3), (kX4 aLa vLa l4 a4 n4), (kAI vLa cI 24 f4), (kX7 aPa vPa l7 a7 n7), (kAI vPa cI 39 f7), (kX2 aGe vGe l2 a2 n2), (kAI vGe cI 23 f2), (kX1 aFl vFl xn), (kAI vFl cI 32 ff), (kAI vSf cI 8 sf), (kAI vSm cI 8 sm)] := hD
  obtain ⟨locs, hlo⟩ : ∃ z : List Loc, z = [] := ⟨_, rfl⟩
  rw [← hlo] at hS ⊢
  clear hlo hH hAe hD0
  refine lv_aload_n hx₀ hb dX11_sores_0 rfl (lv_at hl 0 rfl) ?_
  refine va_get (D := (dC, dI)) (ci := 10) (v := .ref aPa) (C := RX11) (T := TX11) (N := 15) hx₀ hb hts inlX11 hown hK hP 0 rfl rfl 1 (by decide) (hts (.fieldLink RX11 19 "BittenStick" "passengers" "LBittenStick$Passengers;") wd_19) (fun _ h9 => h9) rfl dX11_sores_1 ?_
  refine lv_iload_n hx₀ hb dX11_sores_4 rfl (lv_at hl 1 rfl) ?_
  obtain ⟨hPc, hDc, hFc, hC⟩ := k_cw (wc := [(kX7 aPa vPa l7 a7 n7)]) hP hD hS hA [6] (by decide +kernel) rfl
  refine va_calli (va_runU (As := [.int p1]) (rest := []) ⟨hx₀, hb, hml, hown, hts⟩ (j_has_X7 l dC dI cI cJ cQ H.size aPa p1 vPa l7 a7 n7) (va_cwU 1 hts (kGU wd_307 wd_303 wd_304 wd_305 wd_306 wd_57) rfl rfl rfl rfl (by decide +kernel) ⟨Nat.le_of_ble_eq_true rfl, Nat.le_of_ble_eq_true rfl⟩) (k_preV7 (q0 := 0) hK hPc hDc hN rfl) rfl rfl hl.1 rfl (lv_room (Nat.le_of_ble_eq_true rfl)) dX11_sores_5 ⟨by decide +kernel, by decide +kernel⟩) hS (fun q _ h => hFc q h) hFc (fun r_1 u₀ t₀ H1 locs ht hvm hw hB hz1 hk1 hS => ?_)
  obtain ⟨hP1, hK1, hD1⟩ := hB
  rw [ht] at hP1
  have hJ := k_jn (wr := [(kX11 hx aLa aPa aGe aFl aTr aBe aLu aLo vSf vSm vCo vSh xs xl xf), (kX10 aTr aLa aPa aGe gL gR lf rt tgo tca tki tso tbe twe tle tan tco ten), (kX3 gL u0 u1 u2 u3), (kX3 gR v0 v1 v2 v3), (kX4 aLa vLa l4 a4 n4), (kAI vLa cI 24 f4), (kAI vPa cI 39 f7), (kX2 aGe vGe l2 a2 n2), (kAI vGe cI 23 f2), (kX1 aFl vFl xn), (kAI vFl cI 32 ff), (kAI vSf cI 8 sf), (kAI vSm cI 8 sm)]) (wt := [(kX11 hx aLa aPa aGe aFl aTr aBe aLu aLo vSf vSm vCo vSh xs xl xf), (kX10 aTr aLa aPa aGe gL gR lf rt tgo tca tki tso tbe twe tle tan tco ten), (kX3 gL u0 u1 u2 u3), (kX3 gR v0 v1 v2 v3), (kX4 aLa vLa l4 a4 n4), (kAI vLa cI 24 f4), (kAI vPa cI 39 f7), (kX2 aGe vGe l2 a2 n2), (kAI vGe cI 23 f2), (kX1 aFl vFl xn), (kAI vFl cI 32 ff), (kAI vSf cI 8 sf), (kAI vSm cI 8 sm), (kX7 aPa vPa l7 a7 n7)]) hP hD hC [0, 1, 2, 3, 4, 5, 7, 8, 9, 10, 11, 12, 13] rfl (by decide +kernel) (by decide +kernel) hk1 hFc hP1 hD1 rfl
  clear hP hD hPc hDc hFc hC hP1 hD1 hK1 hz1 hk1 hvm ht
  obtain ⟨hP, hD⟩ := hJ
  generalize H1 = H at hP hS ⊢
  try dsimp only at hw
  by_cases c_2 : 0 ≤ p1 ∧ p1 < n7
  · rw [if_pos c_2] at hw
    refine k_topi (v := 1) hw ?_
    refine lv_if_ne (tgt := 14) hx₀ hb dX11_sores_8 (by decide) (fun _ => ?_) (fun c9 => absurd c9 (by decide +kernel))
    refine lv_iconst (v := 0) hx₀ hb dX11_sores_14 (by decide +kernel) ?_
    refine lv_istore_n (lv' := [(2, .int 0), (0, .ref hx), (1, .int p1)]) hx₀ hb dX11_sores_15 rfl hl (by decide) rfl (fun ls hl => ?_)
    refine lv_iconst (v := 0) hx₀ hb dX11_sores_16 (by decide +kernel) ?_
    refine lv_istore_n (lv' := [(3, .int 0), (2, .int 0), (0, .ref hx), (1, .int p1)]) hx₀ hb dX11_sores_17 rfl hl (by decide) rfl (fun ls hl => ?_)
    refine (?keyz3 : ∀ (jz3 : Nat) (biz3 : Int32) (clz3 : Int32) (ygoez3 : Int32) (ycarz3 : Int32) (ykinz3 : Int32) (ysorz3 : Int32) (ybeaz3 : Int32) (yweiz3 : Int32) (yleaz3 : Int32) (yangz3 : Int32) (ycolz3 : Int32) (yendz3 : Int32) (pz3 : Nat) (qz3 : Nat) (w0z3 : Int32) (w1z3 : Int32) (w2z3 : Int32) (w3z3 : Int32) (z0z3 : Int32) (z1z3 : Int32) (z2z3 : Int32) (z3z3 : Int32) (H : Heap) (locs : List Loc) (ls : Array Slot), (0 ≤ clz3 ∧ clz3 ≤ 6) → (k_so (fun x1 => (kAl xn (fun x9 => kOC f4 f7 f2 n4 n7 n2 xl (kIt xn ff x9 0) (kIt xn ff x9 1) (kIt xn ff x9 2) (if x9 = (-1 : Int32) then (-1 : Int32) else (kIt xn ff x9 3)) (if (kIt xn ff x9 0) = p1 then x1 else (kAt 39 f7 ((5 * (kIt xn ff x9 0)) + 1)))) (fun x9 => sf x9.toNatClampNeg) (fun x9 => sm x9.toNatClampNeg) (kfu xs 0) 0)) 6 clz3 biz3 (kSo (fun x1 => (kAl xn (fun x9 => kOC f4 f7 f2 n4 n7 n2 xl (kIt xn ff x9 0) (kIt xn ff x9 1) (kIt xn ff x9 2) (if x9 = (-1 : Int32) then (-1 : Int32) else (kIt xn ff x9 3)) (if (kIt xn ff x9 0) = p1 then x1 else (kAt 39 f7 ((5 * (kIt xn ff x9 0)) + 1)))) (fun x9 => sf x9.toNatClampNeg) (fun x9 => sm x9.toNatClampNeg) (kfu xs 0) 0)) (kfu 6 0) 0 0)) → ((6 - clz3.toInt).toNat = jz3) → va_P (dC, dI) vwCl [(kX11 hx aLa aPa aGe aFl aTr aBe aLu aLo vSf vSm vCo vSh xs xl xf), (kX10 aTr aLa aPa aGe gL gR pz3 qz3 ygoez3 ycarz3 ykinz3 ysorz3 ybeaz3 yweiz3 yleaz3 yangz3 ycolz3 yendz3), (kX3 gL w0z3 w1z3 w2z3 w3z3), (kX3 gR z0z3 z1z3 z2z3 z3z3), (kX4 aLa vLa l4 a4 n4), (kAI vLa cI 24 f4), (kAI vPa cI 39 f7), (kX2 aGe vGe l2 a2 n2), (kAI vGe cI 23 f2), (kX1 aFl vFl xn), (kAI vFl cI 32 ff), (kAI vSf cI 8 sf), (kAI vSm cI 8 sm), (kX7 aPa vPa l7 a7 n7)] H → va_D A [(kX11 hx aLa aPa aGe aFl aTr aBe aLu aLo vSf vSm vCo vSh xs xl xf), (kX10 aTr aLa aPa aGe gL gR pz3 qz3 ygoez3 ycarz3 ykinz3 ysorz3 ybeaz3 yweiz3 yleaz3 yangz3 ycolz3 yendz3), (kX3 gL w0z3 w1z3 w2z3 w3z3), (kX3 gR z0z3 z1z3 z2z3 z3z3), (kX4 aLa vLa l4 a4 n4), (kAI vLa cI 24 f4), (kAI vPa cI 39 f7), (kX2 aGe vGe l2 a2 n2), (kAI vGe cI 23 f2), (kX1 aFl vFl xn), (kAI vFl cI 32 ff), (kAI vSf cI 8 sf), (kAI vSm cI 8 sm), (kX7 aPa vPa l7 a7 n7)] → va_S A s₀.heap H locs → lv_has ls 4 [(3, .int clz3), (2, .int biz3), (0, .ref hx), (1, .int p1)] → W p₀ l e₀ _ s₀ m₀ _ below meth c₀ H locs _ _ _ (F0 m₀ 18 ls [])) _ (0 : Int32) (0 : Int32) tgo tca tki tso tbe twe tle tan tco ten lf rt u0 u1 u2 u3 v0 v1 v2 v3 H locs ls (show 0 ≤ (0 : Int32) ∧ (0 : Int32) ≤ 6 from ⟨(by decide), (by decide)⟩) (rfl) rfl hP hD hS hl
    clear hP hD hS hl
    intro jz3
    induction jz3 using Nat.strongRecOn with
    | ind jz3 ihz3 =>
      intro biz3 clz3 ygoez3 ycarz3 ykinz3 ysorz3 ybeaz3 yweiz3 yleaz3 yangz3 ycolz3 yendz3 pz3 qz3 w0z3 w1z3 w2z3 w3z3 z0z3 z1z3 z2z3 z3z3 H locs ls hiz3_0 hiz3_1 hjz3 hP hD hS hl
      refine lv_iload_n hx₀ hb dX11_sores_18 rfl (lv_at hl 0 rfl) ?_
      refine lv_bipush (v := 6) hx₀ hb dX11_sores_19 (by decide +kernel) ?_
      refine lv_icmp_ge (tgt := 47) hx₀ hb dX11_sores_21 (by decide) (fun c_4 => ?_) (fun c_4 => ?_)
      · refine lv_iload_n hx₀ hb dX11_sores_47 rfl (lv_at hl 1 rfl) ?_
        obtain ⟨hP9, hD9⟩ := k_c2 (wc := [(kX11 hx aLa aPa aGe aFl aTr aBe aLu aLo vSf vSm vCo vSh xs xl xf), (kX10 aTr aLa aPa aGe gL gR pz3 qz3 ygoez3 ycarz3 ykinz3 ysorz3 ybeaz3 yweiz3 yleaz3 yangz3 ycolz3 yendz3), (kX3 gL w0z3 w1z3 w2z3 w3z3), (kX3 gR z0z3 z1z3 z2z3 z3z3), (kX4 aLa vLa l4 a4 n4), (kAI vLa cI 24 f4), (kX7 aPa vPa l7 a7 n7), (kAI vPa cI 39 f7), (kX2 aGe vGe l2 a2 n2), (kAI vGe cI 23 f2), (kX1 aFl vFl xn), (kAI vFl cI 32 ff), (kAI vSf cI 8 sf), (kAI vSm cI 8 sm)]) hP hD [0, 1, 2, 3, 4, 5, 13, 6, 7, 8, 9, 10, 11, 12] (by decide +kernel) rfl
        exact W.iret (v := biz3) hx₀ hb hr (fun t₀ ht hW => ⟨⟨biz3, (k_fn [w0z3, w1z3, w2z3, w3z3, z0z3, z1z3, z2z3, z3z3, ygoez3, ycarz3, ykinz3, ysorz3, ybeaz3, yweiz3, yleaz3, yangz3, ycolz3, yendz3], k_fa [], k_fl [], k_fL [], k_fp [pz3, qz3]), rfl, ((kSo_e hiz3_1 (c_4)).trans (if_pos (c_2)).symm), by rw [ht]; exact hP9, va_K.moved hW.alike hK, hD9⟩, hS.F ht⟩) hS.2.2 dX11_sores_48
      · refine lv_aload_n hx₀ hb dX11_sores_24 rfl (lv_at hl 2 rfl) ?_
        refine lv_iload_n hx₀ hb dX11_sores_25 rfl (lv_at hl 3 rfl) ?_
        refine lv_iload_n hx₀ hb dX11_sores_26 rfl (lv_at hl 0 rfl) ?_
        refine lv_iconst (v := (-1)) hx₀ hb dX11_sores_27 (by decide +kernel) ?_
        refine lv_iconst (v := (-1)) hx₀ hb dX11_sores_28 (by decide +kernel) ?_
        obtain ⟨hPc, hDc, hFc, hC⟩ := k_cw (wc := [(kX11 hx aLa aPa aGe aFl aTr aBe aLu aLo vSf vSm vCo vSh xs xl xf), (kX10 aTr aLa aPa aGe gL gR pz3 qz3 ygoez3 ycarz3 ykinz3 ysorz3 ybeaz3 yweiz3 yleaz3 yangz3 ycolz3 yendz3), (kX3 gL w0z3 w1z3 w2z3 w3z3), (kX3 gR z0z3 z1z3 z2z3 z3z3), (kX4 aLa vLa l4 a4 n4), (kAI vLa cI 24 f4), (kX7 aPa vPa l7 a7 n7), (kAI vPa cI 39 f7), (kX2 aGe vGe l2 a2 n2), (kAI vGe cI 23 f2), (kX1 aFl vFl xn), (kAI vFl cI 32 ff), (kAI vSf cI 8 sf), (kAI vSm cI 8 sm)]) hP hD hS hA [0, 1, 2, 3, 4, 5, 13, 6, 7, 8, 9, 10, 11, 12] (by decide +kernel) rfl
        refine va_calli (va_runV (As := [.int p1, .int clz3, .int (-1), .int (-1)]) (rest := []) ⟨hx₀, hb, hml, hown, hts⟩ (e_agrees l dC dI cI cJ cQ H.size hx p1 clz3 (-1) (-1) aLa aPa aGe aFl aTr aBe aLu aLo vSf vSm vCo vSh xs xl xf gL gR pz3 qz3 ygoez3 ycarz3 ykinz3 ysorz3 ybeaz3 yweiz3 yleaz3 yangz3 ycolz3 yendz3 w0z3 w1z3 w2z3 w3z3 z0z3 z1z3 z2z3 z3z3 vLa l4 a4 n4 f4 vPa l7 a7 n7 f7 vGe l2 a2 n2 f2 vFl xn ff sf sm (hh0) (hh1) (hh2)) (cwV 4 hts (kGV wd_712 wd_709 wd_710 wd_711 wd_2) rfl rfl rfl (by decide +kernel) ⟨Nat.le_of_ble_eq_true rfl, Nat.le_of_ble_eq_true rfl⟩) (k_preV10 (q0 := 0) hK hPc hDc hN rfl) rfl rfl hl.1 rfl (lv_room (Nat.le_of_ble_eq_true rfl)) dX11_sores_29 ⟨by decide +kernel, by decide +kernel⟩) hS (fun q _ h => hFc q h) hFc (fun r_5 u₀ t₀ H1 locs ht hvm hw hB hz1 hk1 hS => ?_)
        obtain ⟨g_6, ga_7, gl_8, gb_9, gp_10⟩ := u₀
        obtain ⟨hP1, hK1, hD1⟩ := hB
        rw [ht] at hP1
        have hJ := k_jn (wr := []) (wt := [(kX11 hx aLa aPa aGe aFl aTr aBe aLu aLo vSf vSm vCo vSh xs xl xf), (kX10 aTr aLa aPa aGe gL gR (gp_10 0) (gp_10 1) (g_6 8) (g_6 9) (g_6 10) (g_6 11) (g_6 12) (g_6 13) (g_6 14) (g_6 15) (g_6 16) (g_6 17)), (kX3 gL (g_6 0) (g_6 1) (g_6 2) (g_6 3)), (kX3 gR (g_6 4) (g_6 5) (g_6 6) (g_6 7)), (kX4 aLa vLa l4 a4 n4), (kAI vLa cI 24 f4), (kX7 aPa vPa l7 a7 n7), (kAI vPa cI 39 f7), (kX2 aGe vGe l2 a2 n2), (kAI vGe cI 23 f2), (kX1 aFl vFl xn), (kAI vFl cI 32 ff), (kAI vSf cI 8 sf), (kAI vSm cI 8 sm)]) hP hD hC [] rfl (by decide +kernel) (by decide +kernel) hk1 hFc hP1 hD1 rfl
        clear hP hD hPc hDc hFc hC hP1 hD1 hK1 hz1 hk1 hvm ht
        obtain ⟨hP, hD⟩ := hJ
        generalize H1 = H at hP hS ⊢
        try dsimp only at hw
        obtain ⟨c_11, c_12⟩ := hw
        refine lv_if_eq (tgt := 41) hx₀ hb dX11_sores_32 (by decide) (fun c_13 => ?_) (fun c_13 => ?_)
        · refine lv_iinc (v := clz3 + 1) (lv' := [(3, .int (clz3 + 1)), (2, .int biz3), (0, .ref hx), (1, .int p1)]) hx₀ hb dX11_sores_41 hl (k := 0) rfl rfl (by decide) rfl (fun ls hl => ?_)
          refine lv_goto (tgt := 18) hx₀ hb dX11_sores_44 (by decide) ?_
          exact ihz3 _ (lf_g_soresOf_2 clz3 jz3 hiz3_0 hjz3 c_4) biz3 (clz3 + 1) (g_6 8) (g_6 9) (g_6 10) (g_6 11) (g_6 12) (g_6 13) (g_6 14) (g_6 15) (g_6 16) (g_6 17) (gp_10 0) (gp_10 1) (g_6 0) (g_6 1) (g_6 2) (g_6 3) (g_6 4) (g_6 5) (g_6 6) (g_6 7) _ _ _ (lf_g_soresOf_1 clz3 jz3 hiz3_0 hjz3 c_4) (kSo_n hiz3_1 (c_4) c_11 (show ¬ r_5 = 1 from (fun z => absurd (c_13.symm.trans z) (by decide)))) rfl (hP.sub [0, 1, 2, 3, 4, 5, 7, 8, 9, 10, 11, 12, 13, 6] rfl) (hD.sub [0, 1, 2, 3, 4, 5, 7, 8, 9, 10, 11, 12, 13, 6] (by decide +kernel) rfl) hS (lv_sub hl [0, 1, 2, 3] rfl)
        · refine lv_iload_n hx₀ hb dX11_sores_35 rfl (lv_at hl 1 rfl) ?_
          refine lv_iconst (v := 1) hx₀ hb dX11_sores_36 (by decide +kernel) ?_
          refine lv_iload_n hx₀ hb dX11_sores_37 rfl (lv_at hl 0 rfl) ?_
          refine lv_ishl hx₀ hb dX11_sores_38 ?_
          refine k_topi (v := kshl clz3) rfl ?_
          refine lv_ior hx₀ hb dX11_sores_39 ?_
          refine lv_istore_n (lv' := [(2, .int (biz3 ||| (kshl clz3))), (3, .int clz3), (0, .ref hx), (1, .int p1)]) hx₀ hb dX11_sores_40 rfl hl (by decide) rfl (fun ls hl => ?_)
          refine lv_iinc (v := clz3 + 1) (lv' := [(3, .int (clz3 + 1)), (2, .int (biz3 ||| (kshl clz3))), (0, .ref hx), (1, .int p1)]) hx₀ hb dX11_sores_41 hl (k := 1) rfl rfl (by decide) rfl (fun ls hl => ?_)
          refine lv_goto (tgt := 18) hx₀ hb dX11_sores_44 (by decide) ?_
          exact ihz3 _ (lf_g_soresOf_2 clz3 jz3 hiz3_0 hjz3 c_4) (biz3 ||| (kshl clz3)) (clz3 + 1) (g_6 8) (g_6 9) (g_6 10) (g_6 11) (g_6 12) (g_6 13) (g_6 14) (g_6 15) (g_6 16) (g_6 17) (gp_10 0) (gp_10 1) (g_6 0) (g_6 1) (g_6 2) (g_6 3) (g_6 4) (g_6 5) (g_6 6) (g_6 7) _ _ _ (lf_g_soresOf_1 clz3 jz3 hiz3_0 hjz3 c_4) (kSo_y hiz3_1 (c_4) c_11 (lf_e_sores__1 r_5 c_12 c_13)) rfl (hP.sub [0, 1, 2, 3, 4, 5, 7, 8, 9, 10, 11, 12, 13, 6] rfl) (hD.sub [0, 1, 2, 3, 4, 5, 7, 8, 9, 10, 11, 12, 13, 6] (by decide +kernel) rfl) hS (lv_sub hl [0, 1, 2, 3] rfl)
  rw [if_neg c_2] at hw
  refine k_topi (v := 0) hw ?_
  refine lv_if_ne (tgt := 14) hx₀ hb dX11_sores_8 (by decide) (fun c9 => absurd (by decide +kernel) c9) (fun _ => ?_)
  refine lv_bipush (v := (-2)) hx₀ hb dX11_sores_11 (by decide +kernel) ?_
  obtain ⟨hP9, hD9⟩ := k_c2 (wc := [(kX11 hx aLa aPa aGe aFl aTr aBe aLu aLo vSf vSm vCo vSh xs xl xf), (kX10 aTr aLa aPa aGe gL gR lf rt tgo tca tki tso tbe twe tle tan tco ten), (kX3 gL u0 u1 u2 u3), (kX3 gR v0 v1 v2 v3), (kX4 aLa vLa l4 a4 n4), (kAI vLa cI 24 f4), (kX7 aPa vPa l7 a7 n7), (kAI vPa cI 39 f7), (kX2 aGe vGe l2 a2 n2), (kAI vGe cI 23 f2), (kX1 aFl vFl xn), (kAI vFl cI 32 ff), (kAI vSf cI 8 sf), (kAI vSm cI 8 sm)]) hP hD [0, 1, 2, 3, 4, 5, 13, 6, 7, 8, 9, 10, 11, 12] (by decide +kernel) rfl
  exact W.iret (v := (-2)) hx₀ hb hr (fun t₀ ht hW => ⟨⟨(-2), (k_fn [u0, u1, u2, u3, v0, v1, v2, v3, tgo, tca, tki, tso, tbe, twe, tle, tan, tco, ten], k_fa [], k_fl [], k_fL [], k_fp [lf, rt]), rfl, (if_neg (c_2)).symm, by rw [ht]; exact hP9, va_K.moved hW.alike hK, hD9⟩, hS.F ht⟩) hS.2.2 dX11_sores_13
set_option maxHeartbeats 4000000 in
set_option maxRecDepth 100000 in
theorem e_soresOf (l : Launch) (dC : Nat → ClassId) (dI : Nat → Nat → Nat) (cI cJ cQ : ClassId) (sz : Nat) (hm : Nat) (p1 : Int32) (vFo : Nat) (vSi : Nat) (vIt : Nat) (vMo : Nat) (la : Int32) (vBy : Nat) (vTy : Nat) (mi : Int32) (vMi : Nat) (pn : Int32) (vPs : Nat) (gn : Int32) (vGs : Nat) (fn : Int32) (vFt : Nat) (le : Int32) (vTo : Nat) (kn : Int32) (fe : Int32) (en : Int32) (ca : Int32) (an : Int32) (co : Int32) (vPr : Nat) (vSt : Nat) (vFn : Nat) (sn : Int32) (vSg : Nat) (vAl : Nat) (dr : Int32) (qMi : Nat → Int32) (qPs : Nat → Int32) (qGs : Nat → Int32) (qTo : Nat → Int32) (qPr : Nat → Int32) (qSt : Nat → Int32) (qFn : Nat → Int32) (qFt : Nat → Int32) (qSg : Nat → Int32) (hh0 : 0 ≤ mi ∧ mi ≤ 24) (hh1 : 0 ≤ pn ∧ pn ≤ 8) (hh2 : 0 ≤ gn ∧ gn ≤ 8) (hh3 : k_bd 2 0 7 qPr) (hh4 : 0 ≤ fe ∧ fe ≤ 24) (hh5 : en = 0 ∨ kn = 0 ∨ fe ≤ 23) (hh6 : 0 ≤ kn ∧ kn ≤ 24) (hh7 : 0 ≤ fn ∧ fn ≤ 8) (hh8 : 0 ≤ sn ∧ sn ≤ 8) (hh9 : 0 ≤ p1 ∧ p1 ≤ 7) (hh10 : k_tm pn qPs) (hh11 : ca = 16777215) (hh12 : k_bd 32 0 9 qFt) : Met l yX12_soresOf (kW yX12_soresOf cX12_soresOf 5 (some .int)) { frames := 6, cells := 0, slots := 0, locals := 143 } (kPre dC dI cI cJ cQ sz [.ref hm, .int p1] [(kX12 hm vFo vSi vIt vMo la vBy vTy mi vMi pn vPs gn vGs fn vFt le vTo kn fe en ca an co vPr vSt vFn sn vSg vAl dr), (kAI vMi cI 24 qMi), (kAI vPs cI 32 qPs), (kAI vGs cI 16 qGs), (kAI vTo cI 96 qTo), (kAI vPr cI 2 qPr), (kAI vSt cI 2 qSt), (kAI vFn cI 2 qFn), (kAI vFt cI 32 qFt), (kAI vSg cI 16 qSg)]) (va_Qi (fun (r : Int32) (u : kS) => (r = (kSo (fun x1 => (kAl fn (fun x9 => kOR qMi (upd qPs ((4 * p1) + 1).toNatClampNeg x1) qGs mi pn gn le (kP0 qFt x9) (kP1 qFt x9) (kP2 qFt x9) (kP1 (upd qPs ((4 * p1) + 1).toNatClampNeg x1) (kP0 qFt x9)) (fun x8 => if x8 < (24 : Int32) then (kP3 qFt x9) else (0 : Int32))) (fun x9 => qSg (2 * x9).toNatClampNeg) (fun x9 => qSg ((2 * x9) + 1).toNatClampNeg) (kfu sn 0) 0)) (kfu 6 0) 0 0)) ∧ (k_bd 2 0 7 (u.2.1 1)) ∧ (0 ≤ (u.1 1) ∧ (u.1 1) ≤ 24) ∧ ((u.1 2) = 0 ∨ (u.1 0) = 0 ∨ (u.1 1) ≤ 23) ∧ (0 ≤ (u.1 0) ∧ (u.1 0) ≤ 24) ∧ ((u.2.1 4) = qPs)) (fun (u : kS) t₀ => kB dC dI cI cJ cQ (va_A [(kX12 hm vFo vSi vIt vMo la vBy vTy mi vMi pn vPs gn vGs fn vFt le vTo kn fe en ca an co vPr vSt vFn sn vSg vAl dr), (kAI vMi cI 24 qMi), (kAI vPs cI 32 qPs), (kAI vGs cI 16 qGs), (kAI vTo cI 96 qTo), (kAI vPr cI 2 qPr), (kAI vSt cI 2 qSt), (kAI vFn cI 2 qFn), (kAI vFt cI 32 qFt), (kAI vSg cI 16 qSg)] sz) [(kX12 hm vFo vSi vIt vMo la vBy vTy mi vMi pn vPs gn vGs fn vFt le vTo (u.1 0) (u.1 1) (u.1 2) ca (u.1 3) (u.1 4) vPr vSt vFn sn vSg vAl dr), (kAI vMi cI 24 qMi), (kAI vPs cI 32 (u.2.1 4)), (kAI vGs cI 16 qGs), (kAI vTo cI 96 (u.2.1 0)), (kAI vPr cI 2 (u.2.1 1)), (kAI vSt cI 2 (u.2.1 2)), (kAI vFn cI 2 (u.2.1 3)), (kAI vFt cI 32 qFt), (kAI vSg cI 16 qSg)] t₀) (va_A [(kX12 hm vFo vSi vIt vMo la vBy vTy mi vMi pn vPs gn vGs fn vFt le vTo kn fe en ca an co vPr vSt vFn sn vSg vAl dr), (kAI vMi cI 24 qMi), (kAI vPs cI 32 qPs), (kAI vGs cI 16 qGs), (kAI vTo cI 96 qTo), (kAI vPr cI 2 qPr), (kAI vSt cI 2 qSt), (kAI vFn cI 2 qFn), (kAI vFt cI 32 qFt), (kAI vSg cI 16 qSg)] sz)) 0 0 (va_A [(kX12 hm vFo vSi vIt vMo la vBy vTy mi vMi pn vPs gn vGs fn vFt le vTo kn fe en ca an co vPr vSt vFn sn vSg vAl dr), (kAI vMi cI 24 qMi), (kAI vPs cI 32 qPs), (kAI vGs cI 16 qGs), (kAI vTo cI 96 qTo), (kAI vPr cI 2 qPr), (kAI vSt cI 2 qSt), (kAI vFn cI 2 qFn), (kAI vFt cI 32 qFt), (kAI vSg cI 16 qSg)] sz) := by
  refine Met.ofW (cc := cX12_soresOf) (maxL := 5) (ret := (some .int)) (by decide) rfl ?_
  intro p₀ e₀ s₀ m₀ args below meth c₀ s₁ B hml hv₀
  obtain ⟨rfl, hsz, hP, hK, hD0, hN⟩ := hv₀
  have hx₀ := B.exec
  have hb := B.bytes
  have hr := B.returns
  have hts := atoms_spec (ws := (kW yX12_soresOf cX12_soresOf 5 (some .int))) B.pre
  have hts := fun w h => hts w (List.mem_cons_of_mem _ h)
  have hown : s₀.vm.findClass RX12 = some m₀.cls := findClass_of_methodNamed B.named
  have hlocks := B.notSynchronized
  subst hsz
  have hD := hD0.self (sz := s₀.heap.size)
  generalize hAe : va_A [(kX12 hm vFo vSi vIt vMo la vBy vTy mi vMi pn vPs gn vGs fn vFt le vTo kn fe en ca an co vPr vSt vFn sn vSg vAl dr), (kAI vMi cI 24 qMi), (kAI vPs cI 32 qPs), (kAI vGs cI 16 qGs), (kAI vTo cI 96 qTo), (kAI vPr cI 2 qPr), (kAI vSt cI 2 qSt), (kAI vFn cI 2 qFn), (kAI vFt cI 32 qFt), (kAI vSg cI 16 qSg)] s₀.heap.size = A at hD ⊢
  have hA : ∀ q : Nat, s₀.heap.size ≤ q → A q := fun q h => by rw [← hAe]; exact Or.inr h
  have hS : va_S A s₀.heap s₀.heap [] := va_S.rf
  have hP : va_P (dC, dI) vwCl [(kX12 hm vFo vSi vIt vMo la vBy vTy mi vMi pn vPs gn vGs fn vFt le vTo kn fe en ca an co vPr vSt vFn sn vSg vAl dr), (kAI vMi cI 24 qMi), (kAI vPs cI 32 qPs), (kAI vGs cI 16 qGs), (kAI vTo cI 96 qTo), (kAI vPr cI 2 qPr), (kAI vSt cI 2 qSt), (kAI vFn cI 2 qFn), (kAI vFt cI 32 qFt), (kAI vSg cI 16 qSg)] s₀.heap := hP
  have hl := lv_entry ([.ref hm, .int p1]) (n := 5) (Nat.le_of_ble_eq_true rfl)
  rw [lg_entry_eq]
  generalize (lg_sl ([.ref hm, .int p1]) ++ List.replicate (5 - (lg_sl ([.ref hm, .int p1])).length) Slot.unset).toArray = ls at hl ⊢
  have hl : lv_has ls 5 [(0, .ref hm), (1, .int p1)] := hl
  obtain ⟨H, hH⟩ : ∃ z : Heap, z = s₀.heap := ⟨_, rfl⟩
  rw [← hH] at hP
  have hS : va_S A s₀.heap H [] := by rw [hH]; exact hS
  refine k_heap hH ?_
  have hD : va_D A [(kX12 hm vFo vSi vIt vMo la vBy vTy mi vMi pn vPs gn vGs fn vFt le vTo kn fe en ca an co vPr vSt vFn sn vSg vAl dr), (kAI vMi cI 24 qMi), (kAI vPs cI 32 qPs), (kAI vGs cI 16 qGs), (kAI vTo cI 96 qTo), (kAI vPr cI 2 qPr), (kAI vSt cI 2 qSt), (kAI vFn cI 2 qFn), (kAI vFt cI 32 qFt), (kAI vSg cI 16 qSg)] := hD
  obtain ⟨locs, hlo⟩ : ∃ z : List Loc, z = [] := ⟨_, rfl⟩
  rw [← hlo] at hS ⊢
  clear hlo hH hAe hD0
  refine lv_aload_n hx₀ hb dX12_soresOf_0 rfl (lv_at hl 0 rfl) ?_
  refine va_get (D := (dC, dI)) (ci := 11) (v := .ref vPs) (C := RX12) (T := TX12) (N := 30) hx₀ hb hts inlX12 hown hK hP 0 rfl rfl 10 (by decide) (hts (.fieldLink RX12 31 "BittenStickModel" "passenger" "[I") wd_122) (fun _ h9 => h9) rfl dX12_soresOf_1 ?_
  refine lv_iconst (v := 4) hx₀ hb dX12_soresOf_4 (by decide +kernel) ?_
  refine lv_iload_n hx₀ hb dX12_soresOf_5 rfl (lv_at hl 1 rfl) ?_
  refine lv_imul hx₀ hb dX12_soresOf_6 ?_
  refine lv_iconst (v := 1) hx₀ hb dX12_soresOf_7 (by decide +kernel) ?_
  refine lv_iadd hx₀ hb dX12_soresOf_8 ?_
  refine va_iald hx₀ hb hK hP 2 0 rfl rfl (vp_in_iff.mpr (lf_g_fliesTold_2 p1 hh9)) dX12_soresOf_9 ?_
  refine lv_istore_n (lv' := [(2, .int (qPs ((4 * p1) + 1).toNatClampNeg)), (0, .ref hm), (1, .int p1)]) hx₀ hb dX12_soresOf_10 rfl hl (by decide) rfl (fun ls hl => ?_)
  refine lv_iconst (v := 0) hx₀ hb dX12_soresOf_11 (by decide +kernel) ?_
  refine lv_istore_n (lv' := [(3, .int 0), (2, .int (qPs ((4 * p1) + 1).toNatClampNeg)), (0, .ref hm), (1, .int p1)]) hx₀ hb dX12_soresOf_12 rfl hl (by decide) rfl (fun ls hl => ?_)
  refine lv_iconst (v := 0) hx₀ hb dX12_soresOf_13 (by decide +kernel) ?_
  refine lv_istore (lv' := [(4, .int 0), (3, .int 0), (2, .int (qPs ((4 * p1) + 1).toNatClampNeg)), (0, .ref hm), (1, .int p1)]) hx₀ hb dX12_soresOf_14 hl (by decide) rfl (fun ls hl => ?_)
  refine (?keyz1 : ∀ (jz1 : Nat) (biz1 : Int32) (clz1 : Int32) (knz1 : Int32) (fez1 : Int32) (enz1 : Int32) (anz1 : Int32) (coz1 : Int32) (qtz1 : Nat → Int32) (qpz1 : Nat → Int32) (qsz1 : Nat → Int32) (qfz1 : Nat → Int32) (qwz1 : Nat → Int32) (H : Heap) (locs : List Loc) (ls : Array Slot), (0 ≤ clz1 ∧ clz1 ≤ 6) → (k_of qPs qwz1 ((4 * p1) + 1)) → (k_so (fun x1 => (kAl fn (fun x9 => kOR qMi (upd qPs ((4 * p1) + 1).toNatClampNeg x1) qGs mi pn gn le (kP0 qFt x9) (kP1 qFt x9) (kP2 qFt x9) (kP1 (upd qPs ((4 * p1) + 1).toNatClampNeg x1) (kP0 qFt x9)) (fun x8 => if x8 < (24 : Int32) then (kP3 qFt x9) else (0 : Int32))) (fun x9 => qSg (2 * x9).toNatClampNeg) (fun x9 => qSg ((2 * x9) + 1).toNatClampNeg) (kfu sn 0) 0)) 6 clz1 biz1 (kSo (fun x1 => (kAl fn (fun x9 => kOR qMi (upd qPs ((4 * p1) + 1).toNatClampNeg x1) qGs mi pn gn le (kP0 qFt x9) (kP1 qFt x9) (kP2 qFt x9) (kP1 (upd qPs ((4 * p1) + 1).toNatClampNeg x1) (kP0 qFt x9)) (fun x8 => if x8 < (24 : Int32) then (kP3 qFt x9) else (0 : Int32))) (fun x9 => qSg (2 * x9).toNatClampNeg) (fun x9 => qSg ((2 * x9) + 1).toNatClampNeg) (kfu sn 0) 0)) (kfu 6 0) 0 0)) → (k_bd 2 0 7 qpz1) → (0 ≤ fez1 ∧ fez1 ≤ 24) → (enz1 = 0 ∨ knz1 = 0 ∨ fez1 ≤ 23) → (0 ≤ knz1 ∧ knz1 ≤ 24) → ((6 - clz1.toInt).toNat = jz1) → va_P (dC, dI) vwCl [(kX12 hm vFo vSi vIt vMo la vBy vTy mi vMi pn vPs gn vGs fn vFt le vTo knz1 fez1 enz1 ca anz1 coz1 vPr vSt vFn sn vSg vAl dr), (kAI vMi cI 24 qMi), (kAI vPs cI 32 qwz1), (kAI vGs cI 16 qGs), (kAI vTo cI 96 qtz1), (kAI vPr cI 2 qpz1), (kAI vSt cI 2 qsz1), (kAI vFn cI 2 qfz1), (kAI vFt cI 32 qFt), (kAI vSg cI 16 qSg)] H → va_D A [(kX12 hm vFo vSi vIt vMo la vBy vTy mi vMi pn vPs gn vGs fn vFt le vTo knz1 fez1 enz1 ca anz1 coz1 vPr vSt vFn sn vSg vAl dr), (kAI vMi cI 24 qMi), (kAI vPs cI 32 qwz1), (kAI vGs cI 16 qGs), (kAI vTo cI 96 qtz1), (kAI vPr cI 2 qpz1), (kAI vSt cI 2 qsz1), (kAI vFn cI 2 qfz1), (kAI vFt cI 32 qFt), (kAI vSg cI 16 qSg)] → va_S A s₀.heap H locs → lv_has ls 5 [(4, .int clz1), (3, .int biz1), (2, .int (qPs ((4 * p1) + 1).toNatClampNeg)), (0, .ref hm), (1, .int p1)] → W p₀ l e₀ _ s₀ m₀ _ below meth c₀ H locs _ _ _ (F0 m₀ 16 ls [])) _ (0 : Int32) (0 : Int32) kn fe en an co _ _ _ _ _ H locs ls (show 0 ≤ (0 : Int32) ∧ (0 : Int32) ≤ 6 from ⟨(by decide), (by decide)⟩) (k_of_0) (rfl) (hh3) (hh4) (hh5) (hh6) rfl hP hD hS hl
  clear hP hD hS hl
  intro jz1
  induction jz1 using Nat.strongRecOn with
  | ind jz1 ihz1 =>
    intro biz1 clz1 knz1 fez1 enz1 anz1 coz1 qtz1 qpz1 qsz1 qfz1 qwz1 H locs ls hiz1_0 hiz1_1 hiz1_2 hiz1_3 hiz1_4 hiz1_5 hiz1_6 hjz1 hP hD hS hl
    refine lv_iload hx₀ hb dX12_soresOf_16 (lv_at hl 0 rfl) ?_
    refine lv_bipush (v := 6) hx₀ hb dX12_soresOf_18 (by decide +kernel) ?_
    refine lv_icmp_ge (tgt := 59) hx₀ hb dX12_soresOf_20 (by decide) (fun c_2 => ?_) (fun c_2 => ?_)
    · refine lv_aload_n hx₀ hb dX12_soresOf_59 rfl (lv_at hl 3 rfl) ?_
      refine va_get (D := (dC, dI)) (ci := 11) (v := .ref vPs) (C := RX12) (T := TX12) (N := 30) hx₀ hb hts inlX12 hown hK hP 0 rfl rfl 10 (by decide) (hts (.fieldLink RX12 31 "BittenStickModel" "passenger" "[I") wd_122) (fun _ h9 => h9) rfl dX12_soresOf_60 ?_
      refine lv_iconst (v := 4) hx₀ hb dX12_soresOf_63 (by decide +kernel) ?_
      refine lv_iload_n hx₀ hb dX12_soresOf_64 rfl (lv_at hl 4 rfl) ?_
      refine lv_imul hx₀ hb dX12_soresOf_65 ?_
      refine lv_iconst (v := 1) hx₀ hb dX12_soresOf_66 (by decide +kernel) ?_
      refine lv_iadd hx₀ hb dX12_soresOf_67 ?_
      refine lv_iload_n hx₀ hb dX12_soresOf_68 rfl (lv_at hl 2 rfl) ?_
      refine va_iast hx₀ hb hK hP hD hS 2 0 rfl rfl (vp_in_iff.mpr (lf_g_fliesTold_2 p1 hh9)) dX12_soresOf_69 ?_
      clear hP hD hS
      intro H locs hP hD hS
      replace hP := k_w2 (wt := [(kX12 hm vFo vSi vIt vMo la vBy vTy mi vMi pn vPs gn vGs fn vFt le vTo knz1 fez1 enz1 ca anz1 coz1 vPr vSt vFn sn vSg vAl dr), (kAI vMi cI 24 qMi), (kAI vPs cI 32 (upd qwz1 ((4 * p1) + 1).toNatClampNeg (qPs ((4 * p1) + 1).toNatClampNeg))), (kAI vGs cI 16 qGs), (kAI vTo cI 96 qtz1), (kAI vPr cI 2 qpz1), (kAI vSt cI 2 qsz1), (kAI vFn cI 2 qfz1), (kAI vFt cI 32 qFt), (kAI vSg cI 16 qSg)]) hP hD rfl
      replace hD := hP.2
      replace hP := hP.1
      refine lv_iload_n hx₀ hb dX12_soresOf_70 rfl (lv_at hl 1 rfl) ?_
      obtain ⟨hP9, hD9⟩ := k_c2 (wc := [(kX12 hm vFo vSi vIt vMo la vBy vTy mi vMi pn vPs gn vGs fn vFt le vTo knz1 fez1 enz1 ca anz1 coz1 vPr vSt vFn sn vSg vAl dr), (kAI vMi cI 24 qMi), (kAI vPs cI 32 (upd qwz1 ((4 * p1) + 1).toNatClampNeg (qPs ((4 * p1) + 1).toNatClampNeg))), (kAI vGs cI 16 qGs), (kAI vTo cI 96 qtz1), (kAI vPr cI 2 qpz1), (kAI vSt cI 2 qsz1), (kAI vFn cI 2 qfz1), (kAI vFt cI 32 qFt), (kAI vSg cI 16 qSg)]) hP hD [0, 1, 2, 3, 4, 5, 6, 7, 8, 9] (by decide +kernel) rfl
      exact W.iret (v := biz1) hx₀ hb hr (fun t₀ ht hW => ⟨⟨biz1, (k_fn [knz1, fez1, enz1, anz1, coz1], k_fa [qtz1, qpz1, qsz1, qfz1, upd qwz1 ((4 * p1) + 1).toNatClampNeg (qPs ((4 * p1) + 1).toNatClampNeg)], k_fl [], k_fL [], k_fp []), rfl, ⟨(kSo_e hiz1_2 (c_2)), hiz1_3, hiz1_4, hiz1_5, hiz1_6, (k_of_e hiz1_1)⟩, by rw [ht]; exact hP9, va_K.moved hW.alike hK, hD9⟩, hS.F ht⟩) hS.2.2 dX12_soresOf_71
    · refine lv_aload_n hx₀ hb dX12_soresOf_23 rfl (lv_at hl 3 rfl) ?_
      refine va_get (D := (dC, dI)) (ci := 11) (v := .ref vPs) (C := RX12) (T := TX12) (N := 30) hx₀ hb hts inlX12 hown hK hP 0 rfl rfl 10 (by decide) (hts (.fieldLink RX12 31 "BittenStickModel" "passenger" "[I") wd_122) (fun _ h9 => h9) rfl dX12_soresOf_24 ?_
      refine lv_iconst (v := 4) hx₀ hb dX12_soresOf_27 (by decide +kernel) ?_
      refine lv_iload_n hx₀ hb dX12_soresOf_28 rfl (lv_at hl 4 rfl) ?_
      refine lv_imul hx₀ hb dX12_soresOf_29 ?_
      refine lv_iconst (v := 1) hx₀ hb dX12_soresOf_30 (by decide +kernel) ?_
      refine lv_iadd hx₀ hb dX12_soresOf_31 ?_
      refine lv_iload hx₀ hb dX12_soresOf_32 (lv_at hl 0 rfl) ?_
      refine va_iast hx₀ hb hK hP hD hS 2 0 rfl rfl (vp_in_iff.mpr (lf_g_fliesTold_2 p1 hh9)) dX12_soresOf_34 ?_
      clear hP hD hS
      intro H locs hP hD hS
      replace hP := k_w2 (wt := [(kX12 hm vFo vSi vIt vMo la vBy vTy mi vMi pn vPs gn vGs fn vFt le vTo knz1 fez1 enz1 ca anz1 coz1 vPr vSt vFn sn vSg vAl dr), (kAI vMi cI 24 qMi), (kAI vPs cI 32 (upd qwz1 ((4 * p1) + 1).toNatClampNeg clz1)), (kAI vGs cI 16 qGs), (kAI vTo cI 96 qtz1), (kAI vPr cI 2 qpz1), (kAI vSt cI 2 qsz1), (kAI vFn cI 2 qfz1), (kAI vFt cI 32 qFt), (kAI vSg cI 16 qSg)]) hP hD rfl
      replace hD := hP.2
      replace hP := hP.1
      refine lv_iload_n hx₀ hb dX12_soresOf_35 rfl (lv_at hl 1 rfl) ?_
      refine lv_aload_n hx₀ hb dX12_soresOf_36 rfl (lv_at hl 3 rfl) ?_
      obtain ⟨hPc, hDc, hFc, hC⟩ := k_cw (wc := [(kX12 hm vFo vSi vIt vMo la vBy vTy mi vMi pn vPs gn vGs fn vFt le vTo knz1 fez1 enz1 ca anz1 coz1 vPr vSt vFn sn vSg vAl dr), (kAI vMi cI 24 qMi), (kAI vPs cI 32 (upd qwz1 ((4 * p1) + 1).toNatClampNeg clz1)), (kAI vGs cI 16 qGs), (kAI vTo cI 96 qtz1), (kAI vPr cI 2 qpz1), (kAI vSt cI 2 qsz1), (kAI vFn cI 2 qfz1), (kAI vFt cI 32 qFt), (kAI vSg cI 16 qSg)]) hP hD hS hA [0, 1, 2, 3, 4, 5, 6, 7, 8, 9] (by decide +kernel) rfl
      refine va_calli (va_runV (As := []) (rest := [.int biz1]) ⟨hx₀, hb, hml, hown, hts⟩ (e_isSeen l dC dI cI cJ cQ H.size hm vFo vSi vIt vMo la vBy vTy mi vMi pn vPs gn vGs fn vFt le vTo knz1 fez1 enz1 ca anz1 coz1 vPr vSt vFn sn vSg vAl dr qMi (upd qwz1 ((4 * p1) + 1).toNatClampNeg clz1) qGs qtz1 qpz1 qsz1 qfz1 qFt qSg (hh0) (hh1) (hh2) (hiz1_3) (hiz1_4) (hiz1_5) (hiz1_6) (hh7) (hh8) (k_tm_u (hh1.2) hh9 hiz1_1 hh10) (hh11) (hh12)) (cwV 0 hts (kGV wd_725 wd_722 wd_723 wd_724 wd_5) rfl rfl rfl (by decide +kernel) ⟨Nat.le_of_ble_eq_true rfl, Nat.le_of_ble_eq_true rfl⟩) (k_preV11 (q0 := 0) hK hPc hDc hN rfl) rfl rfl hl.1 rfl (lv_room (Nat.le_of_ble_eq_true rfl)) dX12_soresOf_37 ⟨by decide +kernel, by decide +kernel⟩) hS (fun q _ h => hFc q h) hFc (fun r_3 u₀ t₀ H1 locs ht hvm hw hB hz1 hk1 hS => ?_)
      obtain ⟨g_4, ga_5, gl_6, gb_7, gp_8⟩ := u₀
      obtain ⟨hP1, hK1, hD1⟩ := hB
      rw [ht] at hP1
      have hJ := k_jn (wr := []) (wt := [(kX12 hm vFo vSi vIt vMo la vBy vTy mi vMi pn vPs gn vGs fn vFt le vTo (g_4 0) (g_4 1) (g_4 2) ca (g_4 3) (g_4 4) vPr vSt vFn sn vSg vAl dr), (kAI vMi cI 24 qMi), (kAI vPs cI 32 (upd qwz1 ((4 * p1) + 1).toNatClampNeg clz1)), (kAI vGs cI 16 qGs), (kAI vTo cI 96 (ga_5 0)), (kAI vPr cI 2 (ga_5 1)), (kAI vSt cI 2 (ga_5 2)), (kAI vFn cI 2 (ga_5 3)), (kAI vFt cI 32 qFt), (kAI vSg cI 16 qSg)]) hP hD hC [] rfl (by decide +kernel) (by decide +kernel) hk1 hFc hP1 hD1 rfl
      clear hP hD hPc hDc hFc hC hP1 hD1 hK1 hz1 hk1 hvm ht
      obtain ⟨hP, hD⟩ := hJ
      generalize H1 = H at hP hS ⊢
      try dsimp only at hw
      obtain ⟨c_9, c_10, c_11, c_12, c_13, c_14⟩ := hw
      refine lv_if_eq (tgt := 50) hx₀ hb dX12_soresOf_40 (by decide) (fun c_15 => ?_) (fun c_15 => ?_)
      · refine lv_iconst (v := 0) hx₀ hb dX12_soresOf_50 (by decide +kernel) ?_
        refine lv_ior hx₀ hb dX12_soresOf_51 ?_
        refine lv_istore_n (lv' := [(3, .int (biz1 ||| 0)), (4, .int clz1), (2, .int (qPs ((4 * p1) + 1).toNatClampNeg)), (0, .ref hm), (1, .int p1)]) hx₀ hb dX12_soresOf_52 rfl hl (by decide) rfl (fun ls hl => ?_)
        refine lv_iinc (v := clz1 + 1) (lv' := [(4, .int (clz1 + 1)), (3, .int (biz1 ||| 0)), (2, .int (qPs ((4 * p1) + 1).toNatClampNeg)), (0, .ref hm), (1, .int p1)]) hx₀ hb dX12_soresOf_53 hl (k := 1) rfl rfl (by decide) rfl (fun ls hl => ?_)
        refine lv_goto (tgt := 16) hx₀ hb dX12_soresOf_56 (by decide) ?_
        exact ihz1 _ (lf_g_soresOf_2 clz1 jz1 hiz1_0 hjz1 c_2) (biz1 ||| 0) (clz1 + 1) (g_4 0) (g_4 1) (g_4 2) (g_4 3) (g_4 4) (ga_5 0) (ga_5 1) (ga_5 2) (ga_5 3) (upd qwz1 ((4 * p1) + 1).toNatClampNeg clz1) _ _ _ (lf_g_soresOf_1 clz1 jz1 hiz1_0 hjz1 c_2) (k_of_s hiz1_1) (kSo_0 hiz1_2 (c_2) (by have h9 := c_9; rw [k_of_u hiz1_1] at h9; exact h9) (show ¬ r_3 = 1 from (fun z => absurd (c_15.symm.trans z) (by decide)))) (c_10) (c_11) (c_12) (c_13) rfl (hP.sub [0, 1, 2, 3, 4, 5, 6, 7, 8, 9] rfl) (hD.sub [0, 1, 2, 3, 4, 5, 6, 7, 8, 9] (by decide +kernel) rfl) hS (lv_sub hl [0, 1, 2, 3, 4] rfl)
      · refine lv_iconst (v := 1) hx₀ hb dX12_soresOf_43 (by decide +kernel) ?_
        refine lv_iload hx₀ hb dX12_soresOf_44 (lv_at hl 0 rfl) ?_
        refine lv_ishl hx₀ hb dX12_soresOf_46 ?_
        refine k_topi (v := kshl clz1) rfl ?_
        refine lv_goto (tgt := 51) hx₀ hb dX12_soresOf_47 (by decide) ?_
        refine lv_ior hx₀ hb dX12_soresOf_51 ?_
        refine lv_istore_n (lv' := [(3, .int (biz1 ||| (kshl clz1))), (4, .int clz1), (2, .int (qPs ((4 * p1) + 1).toNatClampNeg)), (0, .ref hm), (1, .int p1)]) hx₀ hb dX12_soresOf_52 rfl hl (by decide) rfl (fun ls hl => ?_)
        refine lv_iinc (v := clz1 + 1) (lv' := [(4, .int (clz1 + 1)), (3, .int (biz1 ||| (kshl clz1))), (2, .int (qPs ((4 * p1) + 1).toNatClampNeg)), (0, .ref hm), (1, .int p1)]) hx₀ hb dX12_soresOf_53 hl (k := 1) rfl rfl (by decide) rfl (fun ls hl => ?_)
        refine lv_goto (tgt := 16) hx₀ hb dX12_soresOf_56 (by decide) ?_
        exact ihz1 _ (lf_g_soresOf_2 clz1 jz1 hiz1_0 hjz1 c_2) (biz1 ||| (kshl clz1)) (clz1 + 1) (g_4 0) (g_4 1) (g_4 2) (g_4 3) (g_4 4) (ga_5 0) (ga_5 1) (ga_5 2) (ga_5 3) (upd qwz1 ((4 * p1) + 1).toNatClampNeg clz1) _ _ _ (lf_g_soresOf_1 clz1 jz1 hiz1_0 hjz1 c_2) (k_of_s hiz1_1) (kSo_y hiz1_2 (c_2) (by have h9 := c_9; rw [k_of_u hiz1_1] at h9; exact h9) (lf_e_sores__1 r_3 c_14 c_15)) (c_10) (c_11) (c_12) (c_13) rfl (hP.sub [0, 1, 2, 3, 4, 5, 6, 7, 8, 9] rfl) (hD.sub [0, 1, 2, 3, 4, 5, 6, 7, 8, 9] (by decide +kernel) rfl) hS (lv_sub hl [0, 1, 2, 3, 4] rfl)
set_option maxHeartbeats 4000000 in
set_option maxRecDepth 100000 in
theorem m_sores (l : Launch) (dC : Nat → ClassId) (dI : Nat → Nat → Nat) (cI cJ cQ : ClassId) (sz : Nat) (hm : Nat) (p1 : Int32) (vFo : Nat) (vSi : Nat) (vIt : Nat) (vMo : Nat) (la : Int32) (vBy : Nat) (vTy : Nat) (mi : Int32) (vMi : Nat) (pn : Int32) (vPs : Nat) (gn : Int32) (vGs : Nat) (fn : Int32) (vFt : Nat) (le : Int32) (vTo : Nat) (kn : Int32) (fe : Int32) (en : Int32) (ca : Int32) (an : Int32) (co : Int32) (vPr : Nat) (vSt : Nat) (vFn : Nat) (sn : Int32) (vSg : Nat) (vAl : Nat) (dr : Int32) (qTy : Nat → Int32) (qBy : Nat → Int32) (qMi : Nat → Int32) (qPs : Nat → Int32) (qGs : Nat → Int32) (qTo : Nat → Int32) (qPr : Nat → Int32) (qSt : Nat → Int32) (qFn : Nat → Int32) (qFt : Nat → Int32) (qSg : Nat → Int32) (hh0 : 0 ≤ (qTy 0).toInt ∧ (qTy 0).toInt ≤ 24) (hh1 : 0 ≤ (qTy 1).toInt ∧ (qTy 1).toInt ≤ 39) (hh2 : 0 ≤ (qTy 2).toInt ∧ (qTy 2).toInt ≤ 23) (hh3 : k_bd 2 0 7 qPr) (hh4 : 0 ≤ fe ∧ fe ≤ 24) (hh5 : en = 0 ∨ kn = 0 ∨ fe ≤ 23) (hh6 : 0 ≤ kn ∧ kn ≤ 24) (hh7 : 0 ≤ fn ∧ fn ≤ 8) (hh8 : 0 ≤ sn ∧ sn ≤ 8) (hh9 : ca = 16777215) (hh10 : k_bd 32 0 9 qFt) : Met l yX12_sores (kW yX12_sores cX12_sores 2 (some .int)) { frames := 7, cells := 0, slots := 0, locals := 167 } (kPre dC dI cI cJ cQ sz [.ref hm, .int p1] [(kX12 hm vFo vSi vIt vMo la vBy vTy mi vMi pn vPs gn vGs fn vFt le vTo kn fe en ca an co vPr vSt vFn sn vSg vAl dr), (kAI vTy cI 3 qTy), (kAI vBy cI 120 qBy), (kAI vMi cI 24 qMi), (kAI vPs cI 32 qPs), (kAI vGs cI 16 qGs), (kAI vTo cI 96 qTo), (kAI vPr cI 2 qPr), (kAI vSt cI 2 qSt), (kAI vFn cI 2 qFn), (kAI vFt cI 32 qFt), (kAI vSg cI 16 qSg)]) (va_Qi (fun (r : Int32) (u : kS) => (r = if 0 ≤ p1 ∧ p1 < (u.1 1) then (kSo (fun x1 => (kAl fn (fun x9 => kOR (u.2.1 0) (upd (u.2.1 1) ((4 * p1) + 1).toNatClampNeg x1) (u.2.1 2) (u.1 0) (u.1 1) (u.1 2) le (kP0 qFt x9) (kP1 qFt x9) (kP2 qFt x9) (kP1 (upd (u.2.1 1) ((4 * p1) + 1).toNatClampNeg x1) (kP0 qFt x9)) (fun x8 => if x8 < (24 : Int32) then (kP3 qFt x9) else (0 : Int32))) (fun x9 => qSg (2 * x9).toNatClampNeg) (fun x9 => qSg ((2 * x9) + 1).toNatClampNeg) (kfu sn 0) 0)) (kfu 6 0) 0 0) else -2) ∧ (0 ≤ (u.1 0) ∧ (u.1 0) ≤ 24) ∧ (0 ≤ (u.1 1) ∧ (u.1 1) ≤ 8) ∧ (0 ≤ (u.1 2) ∧ (u.1 2) ≤ 8) ∧ (k_bd 2 0 7 (u.2.1 4)) ∧ (0 ≤ (u.1 4) ∧ (u.1 4) ≤ 24) ∧ ((u.1 5) = 0 ∨ (u.1 3) = 0 ∨ (u.1 4) ≤ 23) ∧ (0 ≤ (u.1 3) ∧ (u.1 3) ≤ 24) ∧ (k_tm (u.1 1) (u.2.1 1)) ∧ ((u.1 0) = kNm (qTy 0) (qTy 0) (kv4 qBy)) ∧ ((u.1 1) = kNm (kTh7 (qTy 1)) (qTy 1) (kv7 qBy)) ∧ ((u.1 2) = kNm (kTh2 (qTy 2)) (qTy 2) (kv2 qBy)) ∧ (k_ml (u.1 0) (u.2.1 0) (kv4 qBy)) ∧ (k_mq 5 4 (u.1 1) (qTy 1) (u.2.1 1) (kv7 qBy)) ∧ (k_mq 3 2 (u.1 2) (qTy 2) (u.2.1 2) (kv2 qBy))) (fun (u : kS) t₀ => kB dC dI cI cJ cQ (va_A [(kX12 hm vFo vSi vIt vMo la vBy vTy mi vMi pn vPs gn vGs fn vFt le vTo kn fe en ca an co vPr vSt vFn sn vSg vAl dr), (kAI vTy cI 3 qTy), (kAI vBy cI 120 qBy), (kAI vMi cI 24 qMi), (kAI vPs cI 32 qPs), (kAI vGs cI 16 qGs), (kAI vTo cI 96 qTo), (kAI vPr cI 2 qPr), (kAI vSt cI 2 qSt), (kAI vFn cI 2 qFn), (kAI vFt cI 32 qFt), (kAI vSg cI 16 qSg)] sz) [(kX12 hm vFo vSi vIt vMo la vBy vTy (u.1 0) vMi (u.1 1) vPs (u.1 2) vGs fn vFt le vTo (u.1 3) (u.1 4) (u.1 5) ca (u.1 6) (u.1 7) vPr vSt vFn sn vSg vAl dr), (kAI vTy cI 3 qTy), (kAI vBy cI 120 qBy), (kAI vMi cI 24 (u.2.1 0)), (kAI vPs cI 32 (u.2.1 1)), (kAI vGs cI 16 (u.2.1 2)), (kAI vTo cI 96 (u.2.1 3)), (kAI vPr cI 2 (u.2.1 4)), (kAI vSt cI 2 (u.2.1 5)), (kAI vFn cI 2 (u.2.1 6)), (kAI vFt cI 32 qFt), (kAI vSg cI 16 qSg)] t₀) (va_A [(kX12 hm vFo vSi vIt vMo la vBy vTy mi vMi pn vPs gn vGs fn vFt le vTo kn fe en ca an co vPr vSt vFn sn vSg vAl dr), (kAI vTy cI 3 qTy), (kAI vBy cI 120 qBy), (kAI vMi cI 24 qMi), (kAI vPs cI 32 qPs), (kAI vGs cI 16 qGs), (kAI vTo cI 96 qTo), (kAI vPr cI 2 qPr), (kAI vSt cI 2 qSt), (kAI vFn cI 2 qFn), (kAI vFt cI 32 qFt), (kAI vSg cI 16 qSg)] sz)) 0 0 (va_A [(kX12 hm vFo vSi vIt vMo la vBy vTy mi vMi pn vPs gn vGs fn vFt le vTo kn fe en ca an co vPr vSt vFn sn vSg vAl dr), (kAI vTy cI 3 qTy), (kAI vBy cI 120 qBy), (kAI vMi cI 24 qMi), (kAI vPs cI 32 qPs), (kAI vGs cI 16 qGs), (kAI vTo cI 96 qTo), (kAI vPr cI 2 qPr), (kAI vSt cI 2 qSt), (kAI vFn cI 2 qFn), (kAI vFt cI 32 qFt), (kAI vSg cI 16 qSg)] sz) := by
  refine Met.ofW (cc := cX12_sores) (maxL := 2) (ret := (some .int)) (by decide) rfl ?_
  intro p₀ e₀ s₀ m₀ args below meth c₀ s₁ B hml hv₀
  obtain ⟨rfl, hsz, hP, hK, hD0, hN⟩ := hv₀
  have hx₀ := B.exec
  have hb := B.bytes
  have hr := B.returns
  have hts := atoms_spec (ws := (kW yX12_sores cX12_sores 2 (some .int))) B.pre
  have hts := fun w h => hts w (List.mem_cons_of_mem _ h)
  have hown : s₀.vm.findClass RX12 = some m₀.cls := findClass_of_methodNamed B.named
  have hlocks := B.notSynchronized
  subst hsz
  have hD := hD0.self (sz := s₀.heap.size)
  generalize hAe : va_A [(kX12 hm vFo vSi vIt vMo la vBy vTy mi vMi pn vPs gn vGs fn vFt le vTo kn fe en ca an co vPr vSt vFn sn vSg vAl dr), (kAI vTy cI 3 qTy), (kAI vBy cI 120 qBy), (kAI vMi cI 24 qMi), (kAI vPs cI 32 qPs), (kAI vGs cI 16 qGs), (kAI vTo cI 96 qTo), (kAI vPr cI 2 qPr), (kAI vSt cI 2 qSt), (kAI vFn cI 2 qFn), (kAI vFt cI 32 qFt), (kAI vSg cI 16 qSg)] s₀.heap.size = A at hD ⊢
  have hA : ∀ q : Nat, s₀.heap.size ≤ q → A q := fun q h => by rw [← hAe]; exact Or.inr h
  have hS : va_S A s₀.heap s₀.heap [] := va_S.rf
  have hP : va_P (dC, dI) vwCl [(kX12 hm vFo vSi vIt vMo la vBy vTy mi vMi pn vPs gn vGs fn vFt le vTo kn fe en ca an co vPr vSt vFn sn vSg vAl dr), (kAI vTy cI 3 qTy), (kAI vBy cI 120 qBy), (kAI vMi cI 24 qMi), (kAI vPs cI 32 qPs), (kAI vGs cI 16 qGs), (kAI vTo cI 96 qTo), (kAI vPr cI 2 qPr), (kAI vSt cI 2 qSt), (kAI vFn cI 2 qFn), (kAI vFt cI 32 qFt), (kAI vSg cI 16 qSg)] s₀.heap := hP
  have hl := lv_entry ([.ref hm, .int p1]) (n := 2) (Nat.le_of_ble_eq_true rfl)
  rw [lg_entry_eq]
  generalize (lg_sl ([.ref hm, .int p1]) ++ List.replicate (2 - (lg_sl ([.ref hm, .int p1])).length) Slot.unset).toArray = ls at hl ⊢
  have hl : lv_has ls 2 [(0, .ref hm), (1, .int p1)] := hl
  obtain ⟨H, hH⟩ : ∃ z : Heap, z = s₀.heap := ⟨_, rfl⟩
  rw [← hH] at hP
  have hS : va_S A s₀.heap H [] := by rw [hH]; exact hS
  refine k_heap hH ?_
  have hD : va_D A [(kX12 hm vFo vSi vIt vMo la vBy vTy mi vMi pn vPs gn vGs fn vFt le vTo kn fe en ca an co vPr vSt vFn sn vSg vAl dr), (kAI vTy cI 3 qTy), (kAI vBy cI 120 qBy), (kAI vMi cI 24 qMi), (kAI vPs cI 32 qPs), (kAI vGs cI 16 qGs), (kAI vTo cI 96 qTo), (kAI vPr cI 2 qPr), (kAI vSt cI 2 qSt), (kAI vFn cI 2 qFn), (kAI vFt cI 32 qFt), (kAI vSg cI 16 qSg)] := hD
  obtain ⟨locs, hlo⟩ : ∃ z : List Loc, z = [] := ⟨_, rfl⟩
  rw [← hlo] at hS ⊢
  clear hlo hH hAe hD0
  refine lv_aload_n hx₀ hb dX12_sores_0 rfl (lv_at hl 0 rfl) ?_
  obtain ⟨hPc, hDc, hFc, hC⟩ := k_cw (wc := [(kX12 hm vFo vSi vIt vMo la vBy vTy mi vMi pn vPs gn vGs fn vFt le vTo kn fe en ca an co vPr vSt vFn sn vSg vAl dr), (kAI vTy cI 3 qTy), (kAI vBy cI 120 qBy), (kAI vMi cI 24 qMi), (kAI vPs cI 32 qPs), (kAI vGs cI 16 qGs)]) hP hD hS hA [0, 1, 2, 3, 4, 5] (by decide +kernel) rfl
  refine va_callv (va_runV (As := []) (rest := []) ⟨hx₀, hb, hml, hown, hts⟩ (g_reads l dC dI cI cJ cQ H.size hm vFo vSi vIt vMo la vBy vTy mi vMi pn vPs gn vGs fn vFt le vTo kn fe en ca an co vPr vSt vFn sn vSg vAl dr qTy qBy qMi qPs qGs (hh0) (hh1) (hh2)) (cwV 0 hts (kGV wd_298 wd_295 wd_296 wd_297 wd_5) rfl rfl rfl (by decide +kernel) ⟨Nat.le_of_ble_eq_true rfl, Nat.le_of_ble_eq_true rfl⟩) (k_preV11 (q0 := 0) hK hPc hDc hN rfl) rfl rfl hl.1 rfl (lv_room (Nat.le_of_ble_eq_true rfl)) dX12_sores_1 ⟨by decide +kernel, by decide +kernel⟩) hS (fun q _ h => hFc q h) hFc (fun u₀ t₀ H1 locs ht hvm hw hB hz1 hk1 hS => ?_)
  obtain ⟨g_2, ga_3, gl_4, gb_5, gp_6⟩ := u₀
  obtain ⟨hP1, hK1, hD1⟩ := hB
  rw [ht] at hP1
  have hJ := k_jn (wr := [(kAI vTo cI 96 qTo), (kAI vPr cI 2 qPr), (kAI vSt cI 2 qSt), (kAI vFn cI 2 qFn), (kAI vFt cI 32 qFt), (kAI vSg cI 16 qSg)]) (wt := [(kAI vTo cI 96 qTo), (kAI vPr cI 2 qPr), (kAI vSt cI 2 qSt), (kAI vFn cI 2 qFn), (kAI vFt cI 32 qFt), (kAI vSg cI 16 qSg), (kX12 hm vFo vSi vIt vMo la vBy vTy (g_2 0) vMi (g_2 1) vPs (g_2 2) vGs fn vFt le vTo kn fe en ca an co vPr vSt vFn sn vSg vAl dr), (kAI vTy cI 3 qTy), (kAI vBy cI 120 qBy), (kAI vMi cI 24 (ga_3 0)), (kAI vPs cI 32 (ga_3 1)), (kAI vGs cI 16 (ga_3 2))]) hP hD hC [6, 7, 8, 9, 10, 11] rfl (by decide +kernel) (by decide +kernel) hk1 hFc hP1 hD1 rfl
  clear hP hD hPc hDc hFc hC hP1 hD1 hK1 hz1 hk1 hvm ht
  obtain ⟨hP, hD⟩ := hJ
  generalize H1 = H at hP hS ⊢
  try dsimp only at hw
  obtain ⟨c_7, c_8, c_9, c_10, c_11, c_12, c_13, c_14, c_15, c_16⟩ := hw
  refine lv_aload_n hx₀ hb dX12_sores_4 rfl (lv_at hl 0 rfl) ?_
  refine lv_iload_n hx₀ hb dX12_sores_5 rfl (lv_at hl 1 rfl) ?_
  obtain ⟨hPc, hDc, hFc, hC⟩ := k_cw (wc := [(kX12 hm vFo vSi vIt vMo la vBy vTy (g_2 0) vMi (g_2 1) vPs (g_2 2) vGs fn vFt le vTo kn fe en ca an co vPr vSt vFn sn vSg vAl dr)]) hP hD hS hA [6] (by decide +kernel) rfl
  refine va_calli (va_runV (As := [.int p1]) (rest := []) ⟨hx₀, hb, hml, hown, hts⟩ (g_isPassenger l dC dI cI cJ cQ H.size hm p1 vFo vSi vIt vMo la vBy vTy (g_2 0) vMi (g_2 1) vPs (g_2 2) vGs fn vFt le vTo kn fe en ca an co vPr vSt vFn sn vSg vAl dr (c_8)) (cwV 1 hts (kGV wd_323 wd_320 wd_321 wd_322 wd_5) rfl rfl rfl (by decide +kernel) ⟨Nat.le_of_ble_eq_true rfl, Nat.le_of_ble_eq_true rfl⟩) (k_preV11 (q0 := 0) hK hPc hDc hN rfl) rfl rfl hl.1 rfl (lv_room (Nat.le_of_ble_eq_true rfl)) dX12_sores_6 ⟨by decide +kernel, by decide +kernel⟩) hS (fun q _ h => hFc q h) hFc (fun r_17 u₀ t₀ H1 locs ht hvm hw hB hz1 hk1 hS => ?_)
  obtain ⟨hP1, hK1, hD1⟩ := hB
  rw [ht] at hP1
  have hJ := k_jn (wr := [(kAI vTo cI 96 qTo), (kAI vPr cI 2 qPr), (kAI vSt cI 2 qSt), (kAI vFn cI 2 qFn), (kAI vFt cI 32 qFt), (kAI vSg cI 16 qSg), (kAI vTy cI 3 qTy), (kAI vBy cI 120 qBy), (kAI vMi cI 24 (ga_3 0)), (kAI vPs cI 32 (ga_3 1)), (kAI vGs cI 16 (ga_3 2))]) (wt := [(kAI vTo cI 96 qTo), (kAI vPr cI 2 qPr), (kAI vSt cI 2 qSt), (kAI vFn cI 2 qFn), (kAI vFt cI 32 qFt), (kAI vSg cI 16 qSg), (kAI vTy cI 3 qTy), (kAI vBy cI 120 qBy), (kAI vMi cI 24 (ga_3 0)), (kAI vPs cI 32 (ga_3 1)), (kAI vGs cI 16 (ga_3 2)), (kX12 hm vFo vSi vIt vMo la vBy vTy (g_2 0) vMi (g_2 1) vPs (g_2 2) vGs fn vFt le vTo kn fe en ca an co vPr vSt vFn sn vSg vAl dr)]) hP hD hC [0, 1, 2, 3, 4, 5, 7, 8, 9, 10, 11] rfl (by decide +kernel) (by decide +kernel) hk1 hFc hP1 hD1 rfl
  clear hP hD hPc hDc hFc hC hP1 hD1 hK1 hz1 hk1 hvm ht
  obtain ⟨hP, hD⟩ := hJ
  generalize H1 = H at hP hS ⊢
  try dsimp only at hw
  by_cases c_18 : 0 ≤ p1 ∧ p1 < (g_2 1)
  · rw [if_pos c_18] at hw
    refine k_topi (v := 1) hw ?_
    refine lv_if_eq (tgt := 20) hx₀ hb dX12_sores_9 (by decide) (fun c9 => absurd c9 (by decide +kernel)) (fun _ => ?_)
    refine lv_aload_n hx₀ hb dX12_sores_12 rfl (lv_at hl 0 rfl) ?_
    refine lv_iload_n hx₀ hb dX12_sores_13 rfl (lv_at hl 1 rfl) ?_
    obtain ⟨hPc, hDc, hFc, hC⟩ := k_cw (wc := [(kX12 hm vFo vSi vIt vMo la vBy vTy (g_2 0) vMi (g_2 1) vPs (g_2 2) vGs fn vFt le vTo kn fe en ca an co vPr vSt vFn sn vSg vAl dr), (kAI vMi cI 24 (ga_3 0)), (kAI vPs cI 32 (ga_3 1)), (kAI vGs cI 16 (ga_3 2)), (kAI vTo cI 96 qTo), (kAI vPr cI 2 qPr), (kAI vSt cI 2 qSt), (kAI vFn cI 2 qFn), (kAI vFt cI 32 qFt), (kAI vSg cI 16 qSg)]) hP hD hS hA [11, 8, 9, 10, 0, 1, 2, 3, 4, 5] (by decide +kernel) rfl
    refine va_calli (va_runV (As := [.int p1]) (rest := []) ⟨hx₀, hb, hml, hown, hts⟩ (e_soresOf l dC dI cI cJ cQ H.size hm p1 vFo vSi vIt vMo la vBy vTy (g_2 0) vMi (g_2 1) vPs (g_2 2) vGs fn vFt le vTo kn fe en ca an co vPr vSt vFn sn vSg vAl dr (ga_3 0) (ga_3 1) (ga_3 2) qTo qPr qSt qFn qFt qSg (c_7) (c_8) (c_9) (hh3) (hh4) (hh5) (hh6) (hh7) (hh8) (lf_g_sores_1 (g_2 1) p1 c_8 c_18) (c_10) (hh9) (hh10)) (cwV 1 hts (kGV wd_721 wd_718 wd_719 wd_720 wd_5) rfl rfl rfl (by decide +kernel) ⟨Nat.le_of_ble_eq_true rfl, Nat.le_of_ble_eq_true rfl⟩) (k_preV11 (q0 := 0) hK hPc hDc hN rfl) rfl rfl hl.1 rfl (lv_room (Nat.le_of_ble_eq_true rfl)) dX12_sores_14 ⟨by decide +kernel, by decide +kernel⟩) hS (fun q _ h => hFc q h) hFc (fun r_19 u₀ t₀ H1 locs ht hvm hw hB hz1 hk1 hS => ?_)
    obtain ⟨g_20, ga_21, gl_22, gb_23, gp_24⟩ := u₀
    obtain ⟨hP1, hK1, hD1⟩ := hB
    rw [ht] at hP1
    have hJ := k_jn (wr := [(kAI vTy cI 3 qTy), (kAI vBy cI 120 qBy)]) (wt := [(kAI vTy cI 3 qTy), (kAI vBy cI 120 qBy), (kX12 hm vFo vSi vIt vMo la vBy vTy (g_2 0) vMi (g_2 1) vPs (g_2 2) vGs fn vFt le vTo (g_20 0) (g_20 1) (g_20 2) ca (g_20 3) (g_20 4) vPr vSt vFn sn vSg vAl dr), (kAI vMi cI 24 (ga_3 0)), (kAI vPs cI 32 (ga_21 4)), (kAI vGs cI 16 (ga_3 2)), (kAI vTo cI 96 (ga_21 0)), (kAI vPr cI 2 (ga_21 1)), (kAI vSt cI 2 (ga_21 2)), (kAI vFn cI 2 (ga_21 3)), (kAI vFt cI 32 qFt), (kAI vSg cI 16 qSg)]) hP hD hC [6, 7] rfl (by decide +kernel) (by decide +kernel) hk1 hFc hP1 hD1 rfl
    clear hP hD hPc hDc hFc hC hP1 hD1 hK1 hz1 hk1 hvm ht
    obtain ⟨hP, hD⟩ := hJ
    generalize H1 = H at hP hS ⊢
    try dsimp only at hw
    obtain ⟨c_25, c_26, c_27, c_28, c_29, c_30⟩ := hw
    rw [c_30] at hP hD
    replace hP := k_w2 (wt := [(kAI vTy cI 3 qTy), (kAI vBy cI 120 qBy), (kX12 hm vFo vSi vIt vMo la vBy vTy (g_2 0) vMi (g_2 1) vPs (g_2 2) vGs fn vFt le vTo (g_20 0) (g_20 1) (g_20 2) ca (g_20 3) (g_20 4) vPr vSt vFn sn vSg vAl dr), (kAI vMi cI 24 (ga_3 0)), (kAI vPs cI 32 (ga_3 1)), (kAI vGs cI 16 (ga_3 2)), (kAI vTo cI 96 (ga_21 0)), (kAI vPr cI 2 (ga_21 1)), (kAI vSt cI 2 (ga_21 2)), (kAI vFn cI 2 (ga_21 3)), (kAI vFt cI 32 qFt), (kAI vSg cI 16 qSg)]) hP hD rfl
    replace hD := hP.2
    replace hP := hP.1
    refine lv_goto (tgt := 22) hx₀ hb dX12_sores_17 (by decide) ?_
    obtain ⟨hP9, hD9⟩ := k_c2 (wc := [(kX12 hm vFo vSi vIt vMo la vBy vTy (g_2 0) vMi (g_2 1) vPs (g_2 2) vGs fn vFt le vTo (g_20 0) (g_20 1) (g_20 2) ca (g_20 3) (g_20 4) vPr vSt vFn sn vSg vAl dr), (kAI vTy cI 3 qTy), (kAI vBy cI 120 qBy), (kAI vMi cI 24 (ga_3 0)), (kAI vPs cI 32 (ga_3 1)), (kAI vGs cI 16 (ga_3 2)), (kAI vTo cI 96 (ga_21 0)), (kAI vPr cI 2 (ga_21 1)), (kAI vSt cI 2 (ga_21 2)), (kAI vFn cI 2 (ga_21 3)), (kAI vFt cI 32 qFt), (kAI vSg cI 16 qSg)]) hP hD [2, 0, 1, 3, 4, 5, 6, 7, 8, 9, 10, 11] (by decide +kernel) rfl
    exact W.iret (v := r_19) hx₀ hb hr (fun t₀ ht hW => ⟨⟨r_19, (k_fn [(g_2 0), (g_2 1), (g_2 2), (g_20 0), (g_20 1), (g_20 2), (g_20 3), (g_20 4)], k_fa [(ga_3 0), (ga_3 1), (ga_3 2), ga_21 0, ga_21 1, ga_21 2, ga_21 3], k_fl [], k_fL [], k_fp []), rfl, ⟨(c_25.trans (if_pos (c_18)).symm), c_7, c_8, c_9, c_26, c_27, c_28, c_29, c_10, c_11, c_12, c_13, c_14, c_15, c_16⟩, by rw [ht]; exact hP9, va_K.moved hW.alike hK, hD9⟩, hS.F ht⟩) hS.2.2 dX12_sores_22
  rw [if_neg c_18] at hw
  refine k_topi (v := 0) hw ?_
  refine lv_if_eq (tgt := 20) hx₀ hb dX12_sores_9 (by decide) (fun _ => ?_) (fun c9 => absurd (by decide +kernel) c9)
  refine lv_bipush (v := (-2)) hx₀ hb dX12_sores_20 (by decide +kernel) ?_
  obtain ⟨hP9, hD9⟩ := k_c2 (wc := [(kX12 hm vFo vSi vIt vMo la vBy vTy (g_2 0) vMi (g_2 1) vPs (g_2 2) vGs fn vFt le vTo kn fe en ca an co vPr vSt vFn sn vSg vAl dr), (kAI vTy cI 3 qTy), (kAI vBy cI 120 qBy), (kAI vMi cI 24 (ga_3 0)), (kAI vPs cI 32 (ga_3 1)), (kAI vGs cI 16 (ga_3 2)), (kAI vTo cI 96 qTo), (kAI vPr cI 2 qPr), (kAI vSt cI 2 qSt), (kAI vFn cI 2 qFn), (kAI vFt cI 32 qFt), (kAI vSg cI 16 qSg)]) hP hD [11, 6, 7, 8, 9, 10, 0, 1, 2, 3, 4, 5] (by decide +kernel) rfl
  exact W.iret (v := (-2)) hx₀ hb hr (fun t₀ ht hW => ⟨⟨(-2), (k_fn [(g_2 0), (g_2 1), (g_2 2), kn, fe, en, an, co], k_fa [ga_3 0, ga_3 1, ga_3 2, qTo, qPr, qSt, qFn], k_fl [], k_fL [], k_fp []), rfl, ⟨(if_neg (c_18)).symm, c_7, c_8, c_9, hh3, hh4, hh5, hh6, c_10, c_11, c_12, c_13, c_14, c_15, c_16⟩, by rw [ht]; exact hP9, va_K.moved hW.alike hK, hD9⟩, hS.F ht⟩) hS.2.2 dX12_sores_22
