theorem lf_e_most_1 (a0 : Int32) (h0 : ¬ a0 < 0) (h1 : ¬ 25 ≤ a0) : 0 ≤ a0.toInt ∧ a0.toInt < 25 := by
  first | rfl | assumption | decide | exact Or.inl rfl | (first | omega | (have hr0 := Int32.toInt_lt a0; have hs0 := Int32.le_toInt a0; simp only [Int64.toInt_add, Int64.toInt_sub, Int32.toInt_add, Int32.toInt_sub, Int32.toInt_mul, Int64.le_iff_toInt_le, Int64.lt_iff_toInt_lt, Int32.le_iff_toInt_le, Int32.lt_iff_toInt_lt, ← Int32.toInt_inj, ← Int64.toInt_inj, Int32.toInt_toInt64, kc_0, kc_25] at *; (first | omega | ((try simp (disch := omega) only [k_bm64] at *); (try simp (disch := omega) only [k_bm] at *); (try simp (disch := omega) only [k_bm] at *); omega) | (simp only [Int.bmod] at *; omega))))
theorem lf_e_most_2 (a0 : Int32) (a1 : Nat) (h0 : 0 ≤ a0 ∧ a0 ≤ 25) (h1 : (25 - a0.toInt).toNat = a1) (h2 : ¬ 25 ≤ a0) : 0 ≤ a0 ∧ a0.toInt ≤ 1000 := by
  first | rfl | assumption | decide | exact Or.inl rfl | (first | omega | (have hr0 := Int32.toInt_lt a0; have hs0 := Int32.le_toInt a0; simp only [Int64.toInt_add, Int64.toInt_sub, Int32.toInt_add, Int32.toInt_sub, Int32.toInt_mul, Int64.le_iff_toInt_le, Int64.lt_iff_toInt_lt, Int32.le_iff_toInt_le, Int32.lt_iff_toInt_lt, ← Int32.toInt_inj, ← Int64.toInt_inj, Int32.toInt_toInt64, kc_0, kc_25, kc_1000] at *; (first | omega | ((try simp (disch := omega) only [k_bm64] at *); (try simp (disch := omega) only [k_bm] at *); (try simp (disch := omega) only [k_bm] at *); omega) | (simp only [Int.bmod] at *; omega))))
set_option maxHeartbeats 4000000 in
set_option maxRecDepth 100000 in
theorem e_most (l : Launch) (dC : Nat → ClassId) (dI : Nat → Nat → Nat) (cI cJ cQ : ClassId) (sz : Nat) (hx : Nat) (f1 : Int32) (p1 : Int32) (so : Int32) (aLa : Nat) (aPa : Nat) (aGe : Nat) (aFl : Nat) (aTr : Nat) (aBe : Nat) (aLu : Nat) (aLo : Nat) (vSf : Nat) (vSm : Nat) (vCo : Nat) (vSh : Nat) (xs : Int32) (xl : Int32) (xf : Int32) (gL : Nat) (gR : Nat) (lf : Nat) (rt : Nat) (tgo : Int32) (tca : Int32) (tki : Int32) (tso : Int32) (tbe : Int32) (twe : Int32) (tle : Int32) (tan : Int32) (tco : Int32) (ten : Int32) (u0 : Int32) (u1 : Int32) (u2 : Int32) (u3 : Int32) (v0 : Int32) (v1 : Int32) (v2 : Int32) (v3 : Int32) (vLa : Nat) (l4 : Int32) (a4 : Int32) (n4 : Int32) (f4 : Nat → Int32) (vPa : Nat) (l7 : Int32) (a7 : Int32) (n7 : Int32) (f7 : Nat → Int32) (vGe : Nat) (l2 : Int32) (a2 : Int32) (n2 : Int32) (f2 : Nat → Int32) (vFl : Nat) (xn : Int32) (ff : Nat → Int32) (oo : Nat → Int32) (hh0 : 0 ≤ n4 ∧ n4 ≤ 24) (hh1 : 0 ≤ xn ∧ xn ≤ 8) : Met l yX11_mostAlike (kW yX11_mostAlike cX11_mostAlike 7 (some .int)) { frames := 4, cells := 0, slots := 0, locals := 90 } (kPre dC dI cI cJ cQ sz [.ref hx, .int f1, .int p1, .int so] [(kX11 hx aLa aPa aGe aFl aTr aBe aLu aLo vSf vSm vCo vSh xs xl xf), (kX10 aTr aLa aPa aGe gL gR lf rt tgo tca tki tso tbe twe tle tan tco ten), (kX3 gL u0 u1 u2 u3), (kX3 gR v0 v1 v2 v3), (kX4 aLa vLa l4 a4 n4), (kAI vLa cI 24 f4), (kX7 aPa vPa l7 a7 n7), (kAI vPa cI 39 f7), (kX2 aGe vGe l2 a2 n2), (kAI vGe cI 23 f2), (kX1 aFl vFl xn), (kAI vFl cI 32 ff), (kAI vCo cI 25 oo)]) (va_Qi (fun (r : Int32) (u : kS) => (r = (kMa (fun x1 => kOC f4 f7 f2 n4 n7 n2 xl (kIt xn ff f1 0) (kIt xn ff f1 1) (kIt xn ff f1 2) (kIt xn ff f1 3) (if (kIt xn ff f1 0) = p1 then x1 else (kAt 39 f7 ((5 * (kIt xn ff f1 0)) + 1)))) so (kfu 6 0) 0 (fun _ => 0) 0))) (fun (u : kS) t₀ => kB dC dI cI cJ cQ (va_A [(kX11 hx aLa aPa aGe aFl aTr aBe aLu aLo vSf vSm vCo vSh xs xl xf), (kX10 aTr aLa aPa aGe gL gR lf rt tgo tca tki tso tbe twe tle tan tco ten), (kX3 gL u0 u1 u2 u3), (kX3 gR v0 v1 v2 v3), (kX4 aLa vLa l4 a4 n4), (kAI vLa cI 24 f4), (kX7 aPa vPa l7 a7 n7), (kAI vPa cI 39 f7), (kX2 aGe vGe l2 a2 n2), (kAI vGe cI 23 f2), (kX1 aFl vFl xn), (kAI vFl cI 32 ff), (kAI vCo cI 25 oo)] sz) [(kX11 hx aLa aPa aGe aFl aTr aBe aLu aLo vSf vSm vCo vSh xs xl xf), (kX10 aTr aLa aPa aGe gL gR (u.2.2.2.2 0) (u.2.2.2.2 1) (u.1 8) (u.1 9) (u.1 10) (u.1 11) (u.1 12) (u.1 13) (u.1 14) (u.1 15) (u.1 16) (u.1 17)), (kX3 gL (u.1 0) (u.1 1) (u.1 2) (u.1 3)), (kX3 gR (u.1 4) (u.1 5) (u.1 6) (u.1 7)), (kX4 aLa vLa l4 a4 n4), (kAI vLa cI 24 f4), (kX7 aPa vPa l7 a7 n7), (kAI vPa cI 39 f7), (kX2 aGe vGe l2 a2 n2), (kAI vGe cI 23 f2), (kX1 aFl vFl xn), (kAI vFl cI 32 ff), (kAI vCo cI 25 (u.2.1 0))] t₀) (va_A [(kX11 hx aLa aPa aGe aFl aTr aBe aLu aLo vSf vSm vCo vSh xs xl xf), (kX10 aTr aLa aPa aGe gL gR lf rt tgo tca tki tso tbe twe tle tan tco ten), (kX3 gL u0 u1 u2 u3), (kX3 gR v0 v1 v2 v3), (kX4 aLa vLa l4 a4 n4), (kAI vLa cI 24 f4), (kX7 aPa vPa l7 a7 n7), (kAI vPa cI 39 f7), (kX2 aGe vGe l2 a2 n2), (kAI vGe cI 23 f2), (kX1 aFl vFl xn), (kAI vFl cI 32 ff), (kAI vCo cI 25 oo)] sz)) 0 0 (va_A [(kX11 hx aLa aPa aGe aFl aTr aBe aLu aLo vSf vSm vCo vSh xs xl xf), (kX10 aTr aLa aPa aGe gL gR lf rt tgo tca tki tso tbe twe tle tan tco ten), (kX3 gL u0 u1 u2 u3), (kX3 gR v0 v1 v2 v3), (kX4 aLa vLa l4 a4 n4), (kAI vLa cI 24 f4), (kX7 aPa vPa l7 a7 n7), (kAI vPa cI 39 f7), (kX2 aGe vGe l2 a2 n2), (kAI vGe cI 23 f2), (kX1 aFl vFl xn), (kAI vFl cI 32 ff), (kAI vCo cI 25 oo)] sz) := by
  refine Met.ofW (cc := cX11_mostAlike) (maxL := 7) (ret := (some .int)) (by decide) rfl ?_
  intro p₀ e₀ s₀ m₀ args below meth c₀ s₁ B hml hv₀
  obtain ⟨rfl, hsz, hP, hK, hD0, hN⟩ := hv₀
  have hx₀ := B.exec
  have hb := B.bytes
  have hr := B.returns
  have hts := atoms_spec (ws := (kW yX11_mostAlike cX11_mostAlike 7 (some .int))) B.pre
  have hts := fun w h => hts w (List.mem_cons_of_mem _ h)
  have hown : s₀.vm.findClass RX11 = some m₀.cls := findClass_of_methodNamed B.named
  have hlocks := B.notSynchronized
  subst hsz
  have hD := hD0.self (sz := s₀.heap.size)
  generalize hAe : va_A [(kX11 hx aLa aPa aGe aFl aTr aBe aLu aLo vSf vSm vCo vSh xs xl xf), (kX10 aTr aLa aPa aGe gL gR lf rt tgo tca tki tso tbe twe tle tan tco ten), (kX3 gL u0 u1 u2 u3), (kX3 gR v0 v1 v2 v3), (kX4 aLa vLa l4 a4 n4), (kAI vLa cI 24 f4), (kX7 aPa vPa l7 a7 n7), (kAI vPa cI 39 f7), (kX2 aGe vGe l2 a2 n2), (kAI vGe cI 23 f2), (kX1 aFl vFl xn), (kAI vFl cI 32 ff), (kAI vCo cI 25 oo)] s₀.heap.size = A at hD ⊢
  have hA : ∀ q : Nat, s₀.heap.size ≤ q → A q := fun q h => by rw [← hAe]; exact Or.inr h
  have hS : va_S A s₀.heap s₀.heap [] := va_S.rf
  have hP : va_P (dC, dI) vwCl [(kX11 hx aLa aPa aGe aFl aTr aBe aLu aLo vSf vSm vCo vSh xs xl xf), (kX10 aTr aLa aPa aGe gL gR lf rt tgo tca tki tso tbe twe tle tan tco ten), (kX3 gL u0 u1 u2 u3), (kX3 gR v0 v1 v2 v3), (kX4 aLa vLa l4 a4 n4), (kAI vLa cI 24 f4), (kX7 aPa vPa l7 a7 n7), (kAI vPa cI 39 f7), (kX2 aGe vGe l2 a2 n2), (kAI vGe cI 23 f2), (kX1 aFl vFl xn), (kAI vFl cI 32 ff), (kAI vCo cI 25 oo)] s₀.heap := hP
  have hl := lv_entry ([.ref hx, .int f1, .int p1, .int so]) (n := 7) (Nat.le_of_ble_eq_true rfl)
  rw [lg_entry_eq]
  generalize (lg_sl ([.ref hx, .int f1, .int p1, .int so]) ++ List.replicate (7 - (lg_sl ([.ref hx, .int f1, .int p1, .int so])).length) Slot.unset).toArray = ls at hl ⊢
  have hl : lv_has ls 7 [(0, .ref hx), (1, .int f1), (2, .int p1), (3, .int so)] := hl
  obtain ⟨H, hH⟩ : ∃ z : Heap, z = s₀.heap := ⟨_, rfl⟩
  rw [← hH] at hP
  have hS : va_S A s₀.heap H [] := by rw [hH]; exact hS
  refine k_heap hH ?_
  have hD : va_D A [(kX11 hx aLa aPa aGe aFl aTr aBe aLu aLo vSf vSm vCo vSh xs xl xf), (kX10 aTr aLa aPa aGe gL gR lf rt tgo tca tki tso tbe twe tle tan tco ten), (kX3 gL u0 u1 u2 u3), (kX3 gR v0 v1 v2 v3), (kX4 aLa vLa l4 a4 n4), (kAI vLa cI 24 f4), (kX7 aPa vPa l7 a7 n7), (kAI vPa cI 39 f7), (kX2 aGe vGe l2 a2 n2), (kAI vGe cI 23 f2), (kX1 aFl vFl xn), (kAI vFl cI 32 ff), (kAI vCo cI 25 oo)] := hD
  obtain ⟨locs, hlo⟩ : ∃ z : List Loc, z = [] := ⟨_, rfl⟩
  rw [← hlo] at hS ⊢
  clear hlo hH hAe hD0
  refine lv_aload_n hx₀ hb dX11_mostAlike_0 rfl (lv_at hl 0 rfl) ?_
  refine lv_iload_n hx₀ hb dX11_mostAlike_1 rfl (lv_at hl 1 rfl) ?_
  obtain ⟨hPc, hDc, hFc, hC⟩ := k_cw (wc := [(kX11 hx aLa aPa aGe aFl aTr aBe aLu aLo vSf vSm vCo vSh xs xl xf), (kX10 aTr aLa aPa aGe gL gR lf rt tgo tca tki tso tbe twe tle tan tco ten), (kX3 gL u0 u1 u2 u3), (kX3 gR v0 v1 v2 v3), (kX4 aLa vLa l4 a4 n4), (kAI vLa cI 24 f4), (kX7 aPa vPa l7 a7 n7), (kAI vPa cI 39 f7), (kX2 aGe vGe l2 a2 n2), (kAI vGe cI 23 f2), (kX1 aFl vFl xn), (kAI vFl cI 32 ff)]) hP hD hS hA [0, 1, 2, 3, 4, 5, 6, 7, 8, 9, 10, 11] (by decide +kernel) rfl
  refine va_callv (va_runV (As := [.int f1]) (rest := []) ⟨hx₀, hb, hml, hown, hts⟩ (j_prepare l dC dI cI cJ cQ H.size hx f1 aLa aPa aGe aFl aTr aBe aLu aLo vSf vSm vCo vSh xs xl xf gL gR lf rt tgo tca tki tso tbe twe tle tan tco ten u0 u1 u2 u3 v0 v1 v2 v3 vLa l4 a4 n4 f4 vPa l7 a7 n7 f7 vGe l2 a2 n2 f2 vFl xn ff (hh0) (hh1)) (cwV 1 hts (kGV wd_430 wd_427 wd_428 wd_429 wd_2) rfl rfl rfl (by decide +kernel) ⟨Nat.le_of_ble_eq_true rfl, Nat.le_of_ble_eq_true rfl⟩) (k_preV10 (q0 := 0) hK hPc hDc hN rfl) rfl rfl hl.1 rfl (lv_room (Nat.le_of_ble_eq_true rfl)) dX11_mostAlike_2 ⟨by decide +kernel, by decide +kernel⟩) hS (fun q _ h => hFc q h) hFc (fun u₀ t₀ H1 locs ht hvm hw hB hz1 hk1 hS => ?_)
  obtain ⟨g_2, ga_3, gl_4, gb_5, gp_6⟩ := u₀
  obtain ⟨hP1, hK1, hD1⟩ := hB
  rw [ht] at hP1
  have hJ := k_jn (wr := [(kAI vCo cI 25 oo)]) (wt := [(kAI vCo cI 25 oo), (kX11 hx aLa aPa aGe aFl aTr aBe aLu aLo vSf vSm vCo vSh xs xl xf), (kX10 aTr aLa aPa aGe gL gR (gp_6 0) (gp_6 1) (g_2 8) (g_2 9) (g_2 10) (g_2 11) (g_2 12) (g_2 13) (g_2 14) (g_2 15) (g_2 16) (g_2 17)), (kX3 gL (g_2 0) (g_2 1) (g_2 2) (g_2 3)), (kX3 gR (g_2 4) (g_2 5) (g_2 6) (g_2 7)), (kX4 aLa vLa l4 a4 n4), (kAI vLa cI 24 f4), (kX7 aPa vPa l7 a7 n7), (kAI vPa cI 39 f7), (kX2 aGe vGe l2 a2 n2), (kAI vGe cI 23 f2), (kX1 aFl vFl xn), (kAI vFl cI 32 ff)]) hP hD hC [12] rfl (by decide +kernel) (by decide +kernel) hk1 hFc hP1 hD1 rfl
  clear hP hD hPc hDc hFc hC hP1 hD1 hK1 hz1 hk1 hvm ht
  obtain ⟨hP, hD⟩ := hJ
  generalize H1 = H at hP hS ⊢
  try dsimp only at hw
  obtain ⟨c_7, c_8, c_9, c_10, c_11, c_12, c_13⟩ := hw
  refine lv_iconst (v := 0) hx₀ hb dX11_mostAlike_5 (by decide +kernel) ?_
  refine lv_istore (lv' := [(4, .int 0), (0, .ref hx), (1, .int f1), (2, .int p1), (3, .int so)]) hx₀ hb dX11_mostAlike_6 hl (by decide) rfl (fun ls hl => ?_)
  refine (?keyz14 : ∀ (jz14 : Nat) (iz14 : Int32) (qoz14 : Nat → Int32) (H : Heap) (locs : List Loc) (ls : Array Slot), (0 ≤ iz14 ∧ iz14 ≤ 25) → (k_zr iz14 qoz14) → ((25 - iz14.toInt).toNat = jz14) → va_P (dC, dI) vwCl [(kAI vCo cI 25 qoz14), (kX11 hx aLa aPa aGe aFl aTr aBe aLu aLo vSf vSm vCo vSh xs xl xf), (kX10 aTr aLa aPa aGe gL gR (gp_6 0) (gp_6 1) (g_2 8) (g_2 9) (g_2 10) (g_2 11) (g_2 12) (g_2 13) (g_2 14) (g_2 15) (g_2 16) (g_2 17)), (kX3 gL (g_2 0) (g_2 1) (g_2 2) (g_2 3)), (kX3 gR (g_2 4) (g_2 5) (g_2 6) (g_2 7)), (kX4 aLa vLa l4 a4 n4), (kAI vLa cI 24 f4), (kX7 aPa vPa l7 a7 n7), (kAI vPa cI 39 f7), (kX2 aGe vGe l2 a2 n2), (kAI vGe cI 23 f2), (kX1 aFl vFl xn), (kAI vFl cI 32 ff)] H → va_D A [(kAI vCo cI 25 qoz14), (kX11 hx aLa aPa aGe aFl aTr aBe aLu aLo vSf vSm vCo vSh xs xl xf), (kX10 aTr aLa aPa aGe gL gR (gp_6 0) (gp_6 1) (g_2 8) (g_2 9) (g_2 10) (g_2 11) (g_2 12) (g_2 13) (g_2 14) (g_2 15) (g_2 16) (g_2 17)), (kX3 gL (g_2 0) (g_2 1) (g_2 2) (g_2 3)), (kX3 gR (g_2 4) (g_2 5) (g_2 6) (g_2 7)), (kX4 aLa vLa l4 a4 n4), (kAI vLa cI 24 f4), (kX7 aPa vPa l7 a7 n7), (kAI vPa cI 39 f7), (kX2 aGe vGe l2 a2 n2), (kAI vGe cI 23 f2), (kX1 aFl vFl xn), (kAI vFl cI 32 ff)] → va_S A s₀.heap H locs → lv_has ls 7 [(4, .int iz14), (0, .ref hx), (1, .int f1), (2, .int p1), (3, .int so)] → W p₀ l e₀ _ s₀ m₀ _ below meth c₀ H locs _ _ _ (F0 m₀ 8 ls [])) _ (0 : Int32) _ H locs ls (show 0 ≤ (0 : Int32) ∧ (0 : Int32) ≤ 25 from ⟨(by decide), (by decide)⟩) (k_zr_0) rfl hP hD hS hl
  clear hP hD hS hl
  intro jz14
  induction jz14 using Nat.strongRecOn with
  | ind jz14 ihz14 =>
    intro iz14 qoz14 H locs ls hiz14_0 hiz14_1 hjz14 hP hD hS hl
    refine lv_iload hx₀ hb dX11_mostAlike_8 (lv_at hl 0 rfl) ?_
    refine lv_aload_n hx₀ hb dX11_mostAlike_10 rfl (lv_at hl 1 rfl) ?_
    refine va_get (D := (dC, dI)) (ci := 10) (v := .ref vCo) (C := RX11) (T := TX11) (N := 15) hx₀ hb hts inlX11 hown hK hP 1 rfl rfl 10 (by decide) (hts (.fieldLink RX11 74 "BittenStick" "comers" "[I") wd_47) (fun _ h9 => h9) rfl dX11_mostAlike_11 ?_
    refine va_alen (v := 25) hx₀ hb hK hP 0 0 rfl rfl rfl dX11_mostAlike_14 ?_
    refine lv_icmp_ge (tgt := 32) hx₀ hb dX11_mostAlike_15 (by decide) (fun c_15 => ?_) (fun c_15 => ?_)
    · refine lv_iconst (v := 0) hx₀ hb dX11_mostAlike_32 (by decide +kernel) ?_
      refine lv_istore (lv' := [(4, .int 0), (0, .ref hx), (1, .int f1), (2, .int p1), (3, .int so)]) hx₀ hb dX11_mostAlike_33 hl (by decide) rfl (fun ls hl => ?_)
      refine lv_iconst (v := 0) hx₀ hb dX11_mostAlike_35 (by decide +kernel) ?_
      refine lv_istore (lv' := [(5, .int 0), (4, .int 0), (0, .ref hx), (1, .int f1), (2, .int p1), (3, .int so)]) hx₀ hb dX11_mostAlike_36 hl (by decide) rfl (fun ls hl => ?_)
      refine (?keyz16 : ∀ (jz16 : Nat) (moz16 : Int32) (clz16 : Int32) (ysoz16 : Int32) (yangz16 : Int32) (ycolz16 : Int32) (yendz16 : Int32) (qoz16 : Nat → Int32) (H : Heap) (locs : List Loc) (ls : Array Slot), (0 ≤ clz16 ∧ clz16 ≤ 6) → (k_im (¬ (kIt xn ff f1 0) = p1) (ysoz16 = (g_2 11))) → (k_ma (fun x1 => kOC f4 f7 f2 n4 n7 n2 xl (kIt xn ff f1 0) (kIt xn ff f1 1) (kIt xn ff f1 2) (kIt xn ff f1 3) (if (kIt xn ff f1 0) = p1 then x1 else (kAt 39 f7 ((5 * (kIt xn ff f1 0)) + 1)))) so clz16 qoz16 moz16 (kMa (fun x1 => kOC f4 f7 f2 n4 n7 n2 xl (kIt xn ff f1 0) (kIt xn ff f1 1) (kIt xn ff f1 2) (kIt xn ff f1 3) (if (kIt xn ff f1 0) = p1 then x1 else (kAt 39 f7 ((5 * (kIt xn ff f1 0)) + 1)))) so (kfu 6 0) 0 (fun _ => 0) 0)) → ((6 - clz16.toInt).toNat = jz16) → va_P (dC, dI) vwCl [(kAI vCo cI 25 qoz16), (kX11 hx aLa aPa aGe aFl aTr aBe aLu aLo vSf vSm vCo vSh xs xl xf), (kX10 aTr aLa aPa aGe gL gR (gp_6 0) (gp_6 1) (g_2 8) (g_2 9) (g_2 10) ysoz16 (g_2 12) (g_2 13) (g_2 14) yangz16 ycolz16 yendz16), (kX3 gL (g_2 0) (g_2 1) (g_2 2) (g_2 3)), (kX3 gR (g_2 4) (g_2 5) (g_2 6) (g_2 7)), (kX4 aLa vLa l4 a4 n4), (kAI vLa cI 24 f4), (kX7 aPa vPa l7 a7 n7), (kAI vPa cI 39 f7), (kX2 aGe vGe l2 a2 n2), (kAI vGe cI 23 f2), (kX1 aFl vFl xn), (kAI vFl cI 32 ff)] H → va_D A [(kAI vCo cI 25 qoz16), (kX11 hx aLa aPa aGe aFl aTr aBe aLu aLo vSf vSm vCo vSh xs xl xf), (kX10 aTr aLa aPa aGe gL gR (gp_6 0) (gp_6 1) (g_2 8) (g_2 9) (g_2 10) ysoz16 (g_2 12) (g_2 13) (g_2 14) yangz16 ycolz16 yendz16), (kX3 gL (g_2 0) (g_2 1) (g_2 2) (g_2 3)), (kX3 gR (g_2 4) (g_2 5) (g_2 6) (g_2 7)), (kX4 aLa vLa l4 a4 n4), (kAI vLa cI 24 f4), (kX7 aPa vPa l7 a7 n7), (kAI vPa cI 39 f7), (kX2 aGe vGe l2 a2 n2), (kAI vGe cI 23 f2), (kX1 aFl vFl xn), (kAI vFl cI 32 ff)] → va_S A s₀.heap H locs → lv_has ls 7 [(5, .int clz16), (4, .int moz16), (0, .ref hx), (1, .int f1), (2, .int p1), (3, .int so)] → W p₀ l e₀ _ s₀ m₀ _ below meth c₀ H locs _ _ _ (F0 m₀ 38 ls [])) _ (0 : Int32) (0 : Int32) (g_2 11) (g_2 15) (g_2 16) (g_2 17) _ H locs ls (show 0 ≤ (0 : Int32) ∧ (0 : Int32) ≤ 6 from ⟨(by decide), (by decide)⟩) ((fun _ => rfl)) (kMa_0 (fun _ => kO_25 hh0) (fun j hj => hiz14_1 j (by rw [show iz14 = 25 from show iz14 = 25 from (Int32.le_antisymm hiz14_0.2 c_15)]; exact hj))) rfl hP hD hS hl
      clear hP hD hS hl
      intro jz16
      induction jz16 using Nat.strongRecOn with
      | ind jz16 ihz16 =>
        intro moz16 clz16 ysoz16 yangz16 ycolz16 yendz16 qoz16 H locs ls hiz16_0 hiz16_1 hiz16_2 hjz16 hP hD hS hl
        refine lv_iload hx₀ hb dX11_mostAlike_38 (lv_at hl 0 rfl) ?_
        refine lv_bipush (v := 6) hx₀ hb dX11_mostAlike_40 (by decide +kernel) ?_
        refine lv_icmp_ge (tgt := 139) hx₀ hb dX11_mostAlike_42 (by decide) (fun c_17 => ?_) (fun c_17 => ?_)
        · refine lv_iload hx₀ hb dX11_mostAlike_139 (lv_at hl 1 rfl) ?_
          obtain ⟨hP9, hD9⟩ := k_c2 (wc := [(kX11 hx aLa aPa aGe aFl aTr aBe aLu aLo vSf vSm vCo vSh xs xl xf), (kX10 aTr aLa aPa aGe gL gR (gp_6 0) (gp_6 1) (g_2 8) (g_2 9) (g_2 10) ysoz16 (g_2 12) (g_2 13) (g_2 14) yangz16 ycolz16 yendz16), (kX3 gL (g_2 0) (g_2 1) (g_2 2) (g_2 3)), (kX3 gR (g_2 4) (g_2 5) (g_2 6) (g_2 7)), (kX4 aLa vLa l4 a4 n4), (kAI vLa cI 24 f4), (kX7 aPa vPa l7 a7 n7), (kAI vPa cI 39 f7), (kX2 aGe vGe l2 a2 n2), (kAI vGe cI 23 f2), (kX1 aFl vFl xn), (kAI vFl cI 32 ff), (kAI vCo cI 25 qoz16)]) hP hD [1, 2, 3, 4, 5, 6, 7, 8, 9, 10, 11, 12, 0] (by decide +kernel) rfl
          exact W.iret (v := moz16) hx₀ hb hr (fun t₀ ht hW => ⟨⟨moz16, (k_fn [(g_2 0), (g_2 1), (g_2 2), (g_2 3), (g_2 4), (g_2 5), (g_2 6), (g_2 7), (g_2 8), (g_2 9), (g_2 10), ysoz16, (g_2 12), (g_2 13), (g_2 14), yangz16, ycolz16, yendz16], k_fa [qoz16], k_fl [], k_fL [], k_fp [(gp_6 0), (gp_6 1)]), rfl, (kMa_e hiz16_2 (c_17)), by rw [ht]; exact hP9, va_K.moved hW.alike hK, hD9⟩, hS.F ht⟩) hS.2.2 dX11_mostAlike_141
        · refine lv_iload_n hx₀ hb dX11_mostAlike_45 rfl (lv_at hl 5 rfl) ?_
          refine lv_iload hx₀ hb dX11_mostAlike_46 (lv_at hl 0 rfl) ?_
          refine lv_ishr hx₀ hb dX11_mostAlike_48 ?_
          refine lv_iconst (v := 1) hx₀ hb dX11_mostAlike_49 (by decide +kernel) ?_
          refine lv_iand hx₀ hb dX11_mostAlike_50 ?_
          refine lv_iconst (v := 1) hx₀ hb dX11_mostAlike_51 (by decide +kernel) ?_
          refine lv_icmp_ne (tgt := 133) hx₀ hb dX11_mostAlike_52 (by decide) (fun c_18 => ?_) (fun c_18 => ?_)
          · refine lv_iinc (v := clz16 + 1) (lv' := [(5, .int (clz16 + 1)), (4, .int moz16), (0, .ref hx), (1, .int f1), (2, .int p1), (3, .int so)]) hx₀ hb dX11_mostAlike_133 hl (k := 0) rfl rfl (by decide) rfl (fun ls hl => ?_)
            refine lv_goto (tgt := 38) hx₀ hb dX11_mostAlike_136 (by decide) ?_
            exact ihz16 _ (lf_g_soresOf_2 clz16 jz16 hiz16_0 hjz16 c_17) moz16 (clz16 + 1) ysoz16 yangz16 ycolz16 yendz16 qoz16 _ _ _ (lf_g_soresOf_1 clz16 jz16 hiz16_0 hjz16 c_17) (hiz16_1) (kMa_n hiz16_2 (c_17) c_18) rfl (hP.sub [0, 1, 2, 3, 4, 5, 6, 7, 8, 9, 10, 11, 12] rfl) (hD.sub [0, 1, 2, 3, 4, 5, 6, 7, 8, 9, 10, 11, 12] (by decide +kernel) rfl) hS (lv_sub hl [0, 1, 2, 3, 4, 5] rfl)
          · refine lv_aload_n hx₀ hb dX11_mostAlike_55 rfl (lv_at hl 2 rfl) ?_
            refine va_get (D := (dC, dI)) (ci := 10) (v := .ref aFl) (C := RX11) (T := TX11) (N := 15) hx₀ hb hts inlX11 hown hK hP 1 rfl rfl 3 (by decide) (hts (.fieldLink RX11 33 "BittenStick" "flights" "LBittenStick$Flights;") wd_27) (fun _ h9 => h9) rfl dX11_mostAlike_56 ?_
            refine lv_iload_n hx₀ hb dX11_mostAlike_59 rfl (lv_at hl 3 rfl) ?_
            obtain ⟨hPc, hDc, hFc, hC⟩ := k_cw (wc := [(kX1 aFl vFl xn), (kAI vFl cI 32 ff)]) hP hD hS hA [11, 12] (by decide +kernel) rfl
            refine va_calli (va_runV (As := [.int f1]) (rest := []) ⟨hx₀, hb, hml, hown, hts⟩ (j_passengerOf l dC dI cI cJ cQ H.size aFl f1 vFl xn ff (hh1)) (cwV 1 hts (kGV wd_435 wd_432 wd_433 wd_434 wd_26) rfl rfl rfl (by decide +kernel) ⟨Nat.le_of_ble_eq_true rfl, Nat.le_of_ble_eq_true rfl⟩) (k_preV1 (q0 := 0) hK hPc hDc hN rfl) rfl rfl hl.1 rfl (lv_room (Nat.le_of_ble_eq_true rfl)) dX11_mostAlike_60 ⟨by decide +kernel, by decide +kernel⟩) hS (fun q _ h => hFc q h) hFc (fun r_19 u₀ t₀ H1 locs ht hvm hw hB hz1 hk1 hS => ?_)
            obtain ⟨hP1, hK1, hD1⟩ := hB
            rw [ht] at hP1
            have hJ := k_jn (wr := [(kAI vCo cI 25 qoz16), (kX11 hx aLa aPa aGe aFl aTr aBe aLu aLo vSf vSm vCo vSh xs xl xf), (kX10 aTr aLa aPa aGe gL gR (gp_6 0) (gp_6 1) (g_2 8) (g_2 9) (g_2 10) ysoz16 (g_2 12) (g_2 13) (g_2 14) yangz16 ycolz16 yendz16), (kX3 gL (g_2 0) (g_2 1) (g_2 2) (g_2 3)), (kX3 gR (g_2 4) (g_2 5) (g_2 6) (g_2 7)), (kX4 aLa vLa l4 a4 n4), (kAI vLa cI 24 f4), (kX7 aPa vPa l7 a7 n7), (kAI vPa cI 39 f7), (kX2 aGe vGe l2 a2 n2), (kAI vGe cI 23 f2)]) (wt := [(kAI vCo cI 25 qoz16), (kX11 hx aLa aPa aGe aFl aTr aBe aLu aLo vSf vSm vCo vSh xs xl xf), (kX10 aTr aLa aPa aGe gL gR (gp_6 0) (gp_6 1) (g_2 8) (g_2 9) (g_2 10) ysoz16 (g_2 12) (g_2 13) (g_2 14) yangz16 ycolz16 yendz16), (kX3 gL (g_2 0) (g_2 1) (g_2 2) (g_2 3)), (kX3 gR (g_2 4) (g_2 5) (g_2 6) (g_2 7)), (kX4 aLa vLa l4 a4 n4), (kAI vLa cI 24 f4), (kX7 aPa vPa l7 a7 n7), (kAI vPa cI 39 f7), (kX2 aGe vGe l2 a2 n2), (kAI vGe cI 23 f2), (kX1 aFl vFl xn), (kAI vFl cI 32 ff)]) hP hD hC [0, 1, 2, 3, 4, 5, 6, 7, 8, 9, 10] rfl (by decide +kernel) (by decide +kernel) hk1 hFc hP1 hD1 rfl
            clear hP hD hPc hDc hFc hC hP1 hD1 hK1 hz1 hk1 hvm ht
            obtain ⟨hP, hD⟩ := hJ
            generalize H1 = H at hP hS ⊢
            try dsimp only at hw
            refine k_topi (v := kIt xn ff f1 0) hw ?_
            refine lv_iload_n hx₀ hb dX11_mostAlike_63 rfl (lv_at hl 4 rfl) ?_
            refine lv_icmp_ne (tgt := 76) hx₀ hb dX11_mostAlike_64 (by decide) (fun c_20 => ?_) (fun c_20 => ?_)
            · refine lv_aload_n hx₀ hb dX11_mostAlike_76 rfl (lv_at hl 2 rfl) ?_
              refine va_get (D := (dC, dI)) (ci := 10) (v := .ref aTr) (C := RX11) (T := TX11) (N := 15) hx₀ hb hts inlX11 hown hK hP 1 rfl rfl 4 (by decide) (hts (.fieldLink RX11 42 "BittenStick" "trip" "LBittenStick$Trip;") wd_31) (fun _ h9 => h9) rfl dX11_mostAlike_77 ?_
              refine lv_aload_n hx₀ hb dX11_mostAlike_80 rfl (lv_at hl 2 rfl) ?_
              refine va_get (D := (dC, dI)) (ci := 10) (v := .ref aFl) (C := RX11) (T := TX11) (N := 15) hx₀ hb hts inlX11 hown hK hP 1 rfl rfl 3 (by decide) (hts (.fieldLink RX11 33 "BittenStick" "flights" "LBittenStick$Flights;") wd_27) (fun _ h9 => h9) rfl dX11_mostAlike_81 ?_
              refine lv_iload_n hx₀ hb dX11_mostAlike_84 rfl (lv_at hl 3 rfl) ?_
              obtain ⟨hPc, hDc, hFc, hC⟩ := k_cw (wc := [(kX1 aFl vFl xn), (kAI vFl cI 32 ff)]) hP hD hS hA [11, 12] (by decide +kernel) rfl
              refine va_calli (va_runV (As := [.int f1]) (rest := [.ref aTr]) ⟨hx₀, hb, hml, hown, hts⟩ (j_heightOf l dC dI cI cJ cQ H.size aFl f1 vFl xn ff (hh1)) (cwV 1 hts (kGV wd_491 wd_488 wd_489 wd_490 wd_26) rfl rfl rfl (by decide +kernel) ⟨Nat.le_of_ble_eq_true rfl, Nat.le_of_ble_eq_true rfl⟩) (k_preV1 (q0 := 0) hK hPc hDc hN rfl) rfl rfl hl.1 rfl (lv_room (Nat.le_of_ble_eq_true rfl)) dX11_mostAlike_85 ⟨by decide +kernel, by decide +kernel⟩) hS (fun q _ h => hFc q h) hFc (fun r_21 u₀ t₀ H1 locs ht hvm hw hB hz1 hk1 hS => ?_)
              obtain ⟨hP1, hK1, hD1⟩ := hB
              rw [ht] at hP1
              have hJ := k_jn (wr := [(kAI vCo cI 25 qoz16), (kX11 hx aLa aPa aGe aFl aTr aBe aLu aLo vSf vSm vCo vSh xs xl xf), (kX10 aTr aLa aPa aGe gL gR (gp_6 0) (gp_6 1) (g_2 8) (g_2 9) (g_2 10) ysoz16 (g_2 12) (g_2 13) (g_2 14) yangz16 ycolz16 yendz16), (kX3 gL (g_2 0) (g_2 1) (g_2 2) (g_2 3)), (kX3 gR (g_2 4) (g_2 5) (g_2 6) (g_2 7)), (kX4 aLa vLa l4 a4 n4), (kAI vLa cI 24 f4), (kX7 aPa vPa l7 a7 n7), (kAI vPa cI 39 f7), (kX2 aGe vGe l2 a2 n2), (kAI vGe cI 23 f2)]) (wt := [(kAI vCo cI 25 qoz16), (kX11 hx aLa aPa aGe aFl aTr aBe aLu aLo vSf vSm vCo vSh xs xl xf), (kX10 aTr aLa aPa aGe gL gR (gp_6 0) (gp_6 1) (g_2 8) (g_2 9) (g_2 10) ysoz16 (g_2 12) (g_2 13) (g_2 14) yangz16 ycolz16 yendz16), (kX3 gL (g_2 0) (g_2 1) (g_2 2) (g_2 3)), (kX3 gR (g_2 4) (g_2 5) (g_2 6) (g_2 7)), (kX4 aLa vLa l4 a4 n4), (kAI vLa cI 24 f4), (kX7 aPa vPa l7 a7 n7), (kAI vPa cI 39 f7), (kX2 aGe vGe l2 a2 n2), (kAI vGe cI 23 f2), (kX1 aFl vFl xn), (kAI vFl cI 32 ff)]) hP hD hC [0, 1, 2, 3, 4, 5, 6, 7, 8, 9, 10] rfl (by decide +kernel) (by decide +kernel) hk1 hFc hP1 hD1 rfl
              clear hP hD hPc hDc hFc hC hP1 hD1 hK1 hz1 hk1 hvm ht
              obtain ⟨hP, hD⟩ := hJ
              generalize H1 = H at hP hS ⊢
              try dsimp only at hw
              refine k_topi (v := kIt xn ff f1 3) hw ?_
              obtain ⟨hPc, hDc, hFc, hC⟩ := k_cw (wc := [(kX10 aTr aLa aPa aGe gL gR (gp_6 0) (gp_6 1) (g_2 8) (g_2 9) (g_2 10) ysoz16 (g_2 12) (g_2 13) (g_2 14) yangz16 ycolz16 yendz16), (kX4 aLa vLa l4 a4 n4), (kAI vLa cI 24 f4)]) hP hD hS hA [2, 5, 6] (by decide +kernel) rfl
              refine va_calli (va_runV (As := [.int (kIt xn ff f1 3)]) (rest := []) ⟨hx₀, hb, hml, hown, hts⟩ (j_comesTo l dC dI cI cJ cQ H.size aTr (kIt xn ff f1 3) aLa aPa aGe gL gR (gp_6 0) (gp_6 1) (g_2 8) (g_2 9) (g_2 10) ysoz16 (g_2 12) (g_2 13) (g_2 14) yangz16 ycolz16 yendz16 vLa l4 a4 n4 f4 (hh0)) (cwV 1 hts (kGV wd_495 wd_492 wd_493 wd_494 wd_30) rfl rfl rfl (by decide +kernel) ⟨Nat.le_of_ble_eq_true rfl, Nat.le_of_ble_eq_true rfl⟩) (k_preV9 (q0 := 0) hK hPc hDc hN rfl) rfl rfl hl.1 rfl (lv_room (Nat.le_of_ble_eq_true rfl)) dX11_mostAlike_88 ⟨by decide +kernel, by decide +kernel⟩) hS (fun q _ h => hFc q h) hFc (fun r_22 u₀ t₀ H1 locs ht hvm hw hB hz1 hk1 hS => ?_)
              obtain ⟨g_23, ga_24, gl_25, gb_26, gp_27⟩ := u₀
              obtain ⟨hP1, hK1, hD1⟩ := hB
              rw [ht] at hP1
              have hJ := k_jn (wr := [(kAI vCo cI 25 qoz16), (kX11 hx aLa aPa aGe aFl aTr aBe aLu aLo vSf vSm vCo vSh xs xl xf), (kX3 gL (g_2 0) (g_2 1) (g_2 2) (g_2 3)), (kX3 gR (g_2 4) (g_2 5) (g_2 6) (g_2 7)), (kX7 aPa vPa l7 a7 n7), (kAI vPa cI 39 f7), (kX2 aGe vGe l2 a2 n2), (kAI vGe cI 23 f2), (kX1 aFl vFl xn), (kAI vFl cI 32 ff)]) (wt := [(kAI vCo cI 25 qoz16), (kX11 hx aLa aPa aGe aFl aTr aBe aLu aLo vSf vSm vCo vSh xs xl xf), (kX3 gL (g_2 0) (g_2 1) (g_2 2) (g_2 3)), (kX3 gR (g_2 4) (g_2 5) (g_2 6) (g_2 7)), (kX7 aPa vPa l7 a7 n7), (kAI vPa cI 39 f7), (kX2 aGe vGe l2 a2 n2), (kAI vGe cI 23 f2), (kX1 aFl vFl xn), (kAI vFl cI 32 ff), (kX10 aTr aLa aPa aGe gL gR (gp_6 0) (gp_6 1) (g_2 8) (g_2 9) (g_2 10) ysoz16 (g_2 12) (g_2 13) (g_2 14) (g_23 0) (g_23 1) (g_23 2)), (kX4 aLa vLa l4 a4 n4), (kAI vLa cI 24 f4)]) hP hD hC [0, 1, 3, 4, 7, 8, 9, 10, 11, 12] rfl (by decide +kernel) (by decide +kernel) hk1 hFc hP1 hD1 rfl
              clear hP hD hPc hDc hFc hC hP1 hD1 hK1 hz1 hk1 hvm ht
              obtain ⟨hP, hD⟩ := hJ
              generalize H1 = H at hP hS ⊢
              try dsimp only at hw
              obtain ⟨c_28, c_29, c_30, c_31⟩ := hw
              refine lv_istore (lv' := [(6, .int r_22), (5, .int clz16), (4, .int moz16), (0, .ref hx), (1, .int f1), (2, .int p1), (3, .int so)]) hx₀ hb dX11_mostAlike_91 hl (by decide) rfl (fun ls hl => ?_)
              refine lv_iload hx₀ hb dX11_mostAlike_93 (lv_at hl 0 rfl) ?_
              refine lv_if_lt (tgt := 133) hx₀ hb dX11_mostAlike_95 (by decide) (fun c_32 => ?_) (fun c_32 => ?_)
              · refine lv_iinc (v := clz16 + 1) (lv' := [(5, .int (clz16 + 1)), (6, .int r_22), (4, .int moz16), (0, .ref hx), (1, .int f1), (2, .int p1), (3, .int so)]) hx₀ hb dX11_mostAlike_133 hl (k := 1) rfl rfl (by decide) rfl (fun ls hl => ?_)
                refine lv_goto (tgt := 38) hx₀ hb dX11_mostAlike_136 (by decide) ?_
                exact ihz16 _ (lf_g_soresOf_2 clz16 jz16 hiz16_0 hjz16 c_17) moz16 (clz16 + 1) ysoz16 (g_23 0) (g_23 1) (g_23 2) qoz16 _ _ _ (lf_g_soresOf_1 clz16 jz16 hiz16_0 hjz16 c_17) (hiz16_1) (absurd (show 0 ≤ r_22 ∧ r_22 < 25 from by rw [(c_28.trans (congrArg (fun z => z.1) (show ((kGo (kAt 24 f4) (g_2 9) (g_2 14) (g_2 10) ysoz16 (g_2 12) (fun _ => (kIt xn ff f1 3))) (kfu n4 (0 : Int32)) (0 : Int32) (0 : Int32) (0 : Int32) (if (g_2 8) = 0 then 1 else 0)) = kOC f4 f7 f2 n4 n7 n2 xl (kIt xn ff f1 0) (kIt xn ff f1 1) (kIt xn ff f1 2) (kIt xn ff f1 3) (if (kIt xn ff f1 0) = p1 then clz16 else (kAt 39 f7 ((5 * (kIt xn ff f1 0)) + 1))) from (by rw [c_13]; exact kO_trip hh0.1 c_7 c_8 (fun c => c_9.trans (if_pos c)) (fun c => ((hiz16_1 c_20).trans (c_10.trans (if_pos c))).trans (if_neg c_20).symm) (fun c => c_11.trans (if_pos c))))))]; exact kO_25 hh0).1 (Int32.not_le.mpr c_32)) rfl (hP.sub [0, 1, 10, 2, 3, 11, 12, 4, 5, 6, 7, 8, 9] rfl) (hD.sub [0, 1, 10, 2, 3, 11, 12, 4, 5, 6, 7, 8, 9] (by decide +kernel) rfl) hS (lv_sub hl [0, 2, 3, 4, 5, 6] rfl)
              · refine lv_iload hx₀ hb dX11_mostAlike_98 (lv_at hl 0 rfl) ?_
                refine lv_aload_n hx₀ hb dX11_mostAlike_100 rfl (lv_at hl 3 rfl) ?_
                refine va_get (D := (dC, dI)) (ci := 10) (v := .ref vCo) (C := RX11) (T := TX11) (N := 15) hx₀ hb hts inlX11 hown hK hP 1 rfl rfl 10 (by decide) (hts (.fieldLink RX11 74 "BittenStick" "comers" "[I") wd_47) (fun _ h9 => h9) rfl dX11_mostAlike_101 ?_
                refine va_alen (v := 25) hx₀ hb hK hP 0 0 rfl rfl rfl dX11_mostAlike_104 ?_
                refine lv_icmp_ge (tgt := 133) hx₀ hb dX11_mostAlike_105 (by decide) (fun c_33 => ?_) (fun c_33 => ?_)
                · refine lv_iinc (v := clz16 + 1) (lv' := [(5, .int (clz16 + 1)), (6, .int r_22), (4, .int moz16), (0, .ref hx), (1, .int f1), (2, .int p1), (3, .int so)]) hx₀ hb dX11_mostAlike_133 hl (k := 1) rfl rfl (by decide) rfl (fun ls hl => ?_)
                  refine lv_goto (tgt := 38) hx₀ hb dX11_mostAlike_136 (by decide) ?_
                  exact ihz16 _ (lf_g_soresOf_2 clz16 jz16 hiz16_0 hjz16 c_17) moz16 (clz16 + 1) ysoz16 (g_23 0) (g_23 1) (g_23 2) qoz16 _ _ _ (lf_g_soresOf_1 clz16 jz16 hiz16_0 hjz16 c_17) (hiz16_1) (absurd (show 0 ≤ r_22 ∧ r_22 < 25 from by rw [(c_28.trans (congrArg (fun z => z.1) (show ((kGo (kAt 24 f4) (g_2 9) (g_2 14) (g_2 10) ysoz16 (g_2 12) (fun _ => (kIt xn ff f1 3))) (kfu n4 (0 : Int32)) (0 : Int32) (0 : Int32) (0 : Int32) (if (g_2 8) = 0 then 1 else 0)) = kOC f4 f7 f2 n4 n7 n2 xl (kIt xn ff f1 0) (kIt xn ff f1 1) (kIt xn ff f1 2) (kIt xn ff f1 3) (if (kIt xn ff f1 0) = p1 then clz16 else (kAt 39 f7 ((5 * (kIt xn ff f1 0)) + 1))) from (by rw [c_13]; exact kO_trip hh0.1 c_7 c_8 (fun c => c_9.trans (if_pos c)) (fun c => ((hiz16_1 c_20).trans (c_10.trans (if_pos c))).trans (if_neg c_20).symm) (fun c => c_11.trans (if_pos c))))))]; exact kO_25 hh0).2 (Int32.not_lt.mpr c_33)) rfl (hP.sub [0, 1, 10, 2, 3, 11, 12, 4, 5, 6, 7, 8, 9] rfl) (hD.sub [0, 1, 10, 2, 3, 11, 12, 4, 5, 6, 7, 8, 9] (by decide +kernel) rfl) hS (lv_sub hl [0, 2, 3, 4, 5, 6] rfl)
                · refine lv_aload_n hx₀ hb dX11_mostAlike_108 rfl (lv_at hl 3 rfl) ?_
                  refine va_get (D := (dC, dI)) (ci := 10) (v := .ref vCo) (C := RX11) (T := TX11) (N := 15) hx₀ hb hts inlX11 hown hK hP 1 rfl rfl 10 (by decide) (hts (.fieldLink RX11 74 "BittenStick" "comers" "[I") wd_47) (fun _ h9 => h9) rfl dX11_mostAlike_109 ?_
                  refine lv_iload hx₀ hb dX11_mostAlike_112 (lv_at hl 0 rfl) ?_
                  refine lv_dup2_11 hx₀ hb dX11_mostAlike_114 rfl rfl ?_
                  refine va_iald hx₀ hb hK hP 0 0 rfl rfl (vp_in_iff.mpr (lf_e_most_1 r_22 c_32 c_33)) dX11_mostAlike_115 ?_
                  refine lv_topi (fun y_34 ey_34 => ?_)
                  refine lv_iconst (v := 1) hx₀ hb dX11_mostAlike_116 (by decide +kernel) ?_
                  refine lv_iadd hx₀ hb dX11_mostAlike_117 ?_
                  refine va_iast hx₀ hb hK hP hD hS 0 0 rfl rfl (vp_in_iff.mpr (lf_e_most_1 r_22 c_32 c_33)) dX11_mostAlike_118 ?_
                  clear hP hD hS
                  intro H locs hP hD hS
                  replace hP := k_w2 (wt := [(kAI vCo cI 25 (upd qoz16 r_22.toNatClampNeg (y_34 + 1))), (kX11 hx aLa aPa aGe aFl aTr aBe aLu aLo vSf vSm vCo vSh xs xl xf), (kX3 gL (g_2 0) (g_2 1) (g_2 2) (g_2 3)), (kX3 gR (g_2 4) (g_2 5) (g_2 6) (g_2 7)), (kX7 aPa vPa l7 a7 n7), (kAI vPa cI 39 f7), (kX2 aGe vGe l2 a2 n2), (kAI vGe cI 23 f2), (kX1 aFl vFl xn), (kAI vFl cI 32 ff), (kX10 aTr aLa aPa aGe gL gR (gp_6 0) (gp_6 1) (g_2 8) (g_2 9) (g_2 10) ysoz16 (g_2 12) (g_2 13) (g_2 14) (g_23 0) (g_23 1) (g_23 2)), (kX4 aLa vLa l4 a4 n4), (kAI vLa cI 24 f4)]) hP hD rfl
                  replace hD := hP.2
                  replace hP := hP.1
                  refine lv_iload hx₀ hb dX11_mostAlike_119 (lv_at hl 2 rfl) ?_
                  refine lv_aload_n hx₀ hb dX11_mostAlike_121 rfl (lv_at hl 3 rfl) ?_
                  refine va_get (D := (dC, dI)) (ci := 10) (v := .ref vCo) (C := RX11) (T := TX11) (N := 15) hx₀ hb hts inlX11 hown hK hP 1 rfl rfl 10 (by decide) (hts (.fieldLink RX11 74 "BittenStick" "comers" "[I") wd_47) (fun _ h9 => h9) rfl dX11_mostAlike_122 ?_
                  refine lv_iload hx₀ hb dX11_mostAlike_125 (lv_at hl 0 rfl) ?_
                  refine va_iald hx₀ hb hK hP 0 0 rfl rfl (vp_in_iff.mpr (lf_e_most_1 r_22 c_32 c_33)) dX11_mostAlike_127 ?_
                  refine k_topi (v := y_34 + 1) pk_us ?_
                  refine va_mmax hx₀ hb (by rw [hml]; exact hl.1.symm) hown (hts (.methodLink RX11 366 Lib.Math.max.name) wd_747) (hts (.static Lib.Math.max.name) wd_62) (hts (.initialized "java/lang/Math") wd_63) (hts (.code Lib.Math.max.name Lib.Math.max.code 2 (some .int)) wd_64) (by decide) (Nat.le_of_ble_eq_true rfl) (by decide) (by decide) dX11_mostAlike_128 ?_
                  by_cases c_35 : moz16 < (y_34 + 1)
                  · refine k_topi (v := y_34 + 1) (if_pos c_35) ?_
                    refine lv_istore (lv' := [(4, .int (y_34 + 1)), (6, .int r_22), (5, .int clz16), (0, .ref hx), (1, .int f1), (2, .int p1), (3, .int so)]) hx₀ hb dX11_mostAlike_131 hl (by decide) rfl (fun ls hl => ?_)
                    refine lv_iinc (v := clz16 + 1) (lv' := [(5, .int (clz16 + 1)), (4, .int (y_34 + 1)), (6, .int r_22), (0, .ref hx), (1, .int f1), (2, .int p1), (3, .int so)]) hx₀ hb dX11_mostAlike_133 hl (k := 2) rfl rfl (by decide) rfl (fun ls hl => ?_)
                    refine lv_goto (tgt := 38) hx₀ hb dX11_mostAlike_136 (by decide) ?_
                    exact ihz16 _ (lf_g_soresOf_2 clz16 jz16 hiz16_0 hjz16 c_17) (y_34 + 1) (clz16 + 1) ysoz16 (g_23 0) (g_23 1) (g_23 2) (upd qoz16 r_22.toNatClampNeg (y_34 + 1)) _ _ _ (lf_g_soresOf_1 clz16 jz16 hiz16_0 hjz16 c_17) (hiz16_1) (kMa_y hiz16_2 (c_17) c_18 (c_28.trans (congrArg (fun z => z.1) (show ((kGo (kAt 24 f4) (g_2 9) (g_2 14) (g_2 10) ysoz16 (g_2 12) (fun _ => (kIt xn ff f1 3))) (kfu n4 (0 : Int32)) (0 : Int32) (0 : Int32) (0 : Int32) (if (g_2 8) = 0 then 1 else 0)) = kOC f4 f7 f2 n4 n7 n2 xl (kIt xn ff f1 0) (kIt xn ff f1 1) (kIt xn ff f1 2) (kIt xn ff f1 3) (if (kIt xn ff f1 0) = p1 then clz16 else (kAt 39 f7 ((5 * (kIt xn ff f1 0)) + 1))) from (by rw [c_13]; exact kO_trip hh0.1 c_7 c_8 (fun c => c_9.trans (if_pos c)) (fun c => ((hiz16_1 c_20).trans (c_10.trans (if_pos c))).trans (if_neg c_20).symm) (fun c => c_11.trans (if_pos c)))))) ey_34 ((if_pos c_35).symm)) rfl (hP.sub [0, 1, 10, 2, 3, 11, 12, 4, 5, 6, 7, 8, 9] rfl) (hD.sub [0, 1, 10, 2, 3, 11, 12, 4, 5, 6, 7, 8, 9] (by decide +kernel) rfl) hS (lv_sub hl [0, 1, 3, 4, 5, 6] rfl)
                  refine k_topi (v := moz16) (if_neg c_35) ?_
                  refine lv_istore (lv' := [(4, .int moz16), (6, .int r_22), (5, .int clz16), (0, .ref hx), (1, .int f1), (2, .int p1), (3, .int so)]) hx₀ hb dX11_mostAlike_131 hl (by decide) rfl (fun ls hl => ?_)
                  refine lv_iinc (v := clz16 + 1) (lv' := [(5, .int (clz16 + 1)), (4, .int moz16), (6, .int r_22), (0, .ref hx), (1, .int f1), (2, .int p1), (3, .int so)]) hx₀ hb dX11_mostAlike_133 hl (k := 2) rfl rfl (by decide) rfl (fun ls hl => ?_)
                  refine lv_goto (tgt := 38) hx₀ hb dX11_mostAlike_136 (by decide) ?_
                  exact ihz16 _ (lf_g_soresOf_2 clz16 jz16 hiz16_0 hjz16 c_17) moz16 (clz16 + 1) ysoz16 (g_23 0) (g_23 1) (g_23 2) (upd qoz16 r_22.toNatClampNeg (y_34 + 1)) _ _ _ (lf_g_soresOf_1 clz16 jz16 hiz16_0 hjz16 c_17) (hiz16_1) (kMa_y hiz16_2 (c_17) c_18 (c_28.trans (congrArg (fun z => z.1) (show ((kGo (kAt 24 f4) (g_2 9) (g_2 14) (g_2 10) ysoz16 (g_2 12) (fun _ => (kIt xn ff f1 3))) (kfu n4 (0 : Int32)) (0 : Int32) (0 : Int32) (0 : Int32) (if (g_2 8) = 0 then 1 else 0)) = kOC f4 f7 f2 n4 n7 n2 xl (kIt xn ff f1 0) (kIt xn ff f1 1) (kIt xn ff f1 2) (kIt xn ff f1 3) (if (kIt xn ff f1 0) = p1 then clz16 else (kAt 39 f7 ((5 * (kIt xn ff f1 0)) + 1))) from (by rw [c_13]; exact kO_trip hh0.1 c_7 c_8 (fun c => c_9.trans (if_pos c)) (fun c => ((hiz16_1 c_20).trans (c_10.trans (if_pos c))).trans (if_neg c_20).symm) (fun c => c_11.trans (if_pos c)))))) ey_34 ((if_neg c_35).symm)) rfl (hP.sub [0, 1, 10, 2, 3, 11, 12, 4, 5, 6, 7, 8, 9] rfl) (hD.sub [0, 1, 10, 2, 3, 11, 12, 4, 5, 6, 7, 8, 9] (by decide +kernel) rfl) hS (lv_sub hl [0, 1, 3, 4, 5, 6] rfl)
            · refine lv_aload_n hx₀ hb dX11_mostAlike_67 rfl (lv_at hl 2 rfl) ?_
              refine va_get (D := (dC, dI)) (ci := 10) (v := .ref aTr) (C := RX11) (T := TX11) (N := 15) hx₀ hb hts inlX11 hown hK hP 1 rfl rfl 4 (by decide) (hts (.fieldLink RX11 42 "BittenStick" "trip" "LBittenStick$Trip;") wd_31) (fun _ h9 => h9) rfl dX11_mostAlike_68 ?_
              refine lv_iload hx₀ hb dX11_mostAlike_71 (lv_at hl 0 rfl) ?_
              refine va_put (D := (dC, dI)) (ci := 9) (v := .int clz16) (ty := .int) (C := RX10) (T := TX10) (N := 17) hx₀ hb hts inlX10 tyX10 tyX10_ok nmX10 hown hK hP hD hS 2 rfl rfl 10 (by decide) (hts (.fieldLink RX11 363 "BittenStick$Trip" "sore" "I") wd_713) (fun _ h9 => h9) rfl (by decide +kernel) rfl rfl (Nat.le_of_ble_eq_true rfl) dX11_mostAlike_73 ?_
              clear hP hD hS
              intro H locs hP hD hS
              replace hP := k_w2 (wt := [(kAI vCo cI 25 qoz16), (kX11 hx aLa aPa aGe aFl aTr aBe aLu aLo vSf vSm vCo vSh xs xl xf), (kX10 aTr aLa aPa aGe gL gR (gp_6 0) (gp_6 1) (g_2 8) (g_2 9) (g_2 10) clz16 (g_2 12) (g_2 13) (g_2 14) yangz16 ycolz16 yendz16), (kX3 gL (g_2 0) (g_2 1) (g_2 2) (g_2 3)), (kX3 gR (g_2 4) (g_2 5) (g_2 6) (g_2 7)), (kX4 aLa vLa l4 a4 n4), (kAI vLa cI 24 f4), (kX7 aPa vPa l7 a7 n7), (kAI vPa cI 39 f7), (kX2 aGe vGe l2 a2 n2), (kAI vGe cI 23 f2), (kX1 aFl vFl xn), (kAI vFl cI 32 ff)]) hP hD rfl
              replace hD := hP.2
              replace hP := hP.1
              refine lv_aload_n hx₀ hb dX11_mostAlike_76 rfl (lv_at hl 2 rfl) ?_
              refine va_get (D := (dC, dI)) (ci := 10) (v := .ref aTr) (C := RX11) (T := TX11) (N := 15) hx₀ hb hts inlX11 hown hK hP 1 rfl rfl 4 (by decide) (hts (.fieldLink RX11 42 "BittenStick" "trip" "LBittenStick$Trip;") wd_31) (fun _ h9 => h9) rfl dX11_mostAlike_77 ?_
              refine lv_aload_n hx₀ hb dX11_mostAlike_80 rfl (lv_at hl 2 rfl) ?_
              refine va_get (D := (dC, dI)) (ci := 10) (v := .ref aFl) (C := RX11) (T := TX11) (N := 15) hx₀ hb hts inlX11 hown hK hP 1 rfl rfl 3 (by decide) (hts (.fieldLink RX11 33 "BittenStick" "flights" "LBittenStick$Flights;") wd_27) (fun _ h9 => h9) rfl dX11_mostAlike_81 ?_
              refine lv_iload_n hx₀ hb dX11_mostAlike_84 rfl (lv_at hl 3 rfl) ?_
              obtain ⟨hPc, hDc, hFc, hC⟩ := k_cw (wc := [(kX1 aFl vFl xn), (kAI vFl cI 32 ff)]) hP hD hS hA [11, 12] (by decide +kernel) rfl
              refine va_calli (va_runV (As := [.int f1]) (rest := [.ref aTr]) ⟨hx₀, hb, hml, hown, hts⟩ (j_heightOf l dC dI cI cJ cQ H.size aFl f1 vFl xn ff (hh1)) (cwV 1 hts (kGV wd_491 wd_488 wd_489 wd_490 wd_26) rfl rfl rfl (by decide +kernel) ⟨Nat.le_of_ble_eq_true rfl, Nat.le_of_ble_eq_true rfl⟩) (k_preV1 (q0 := 0) hK hPc hDc hN rfl) rfl rfl hl.1 rfl (lv_room (Nat.le_of_ble_eq_true rfl)) dX11_mostAlike_85 ⟨by decide +kernel, by decide +kernel⟩) hS (fun q _ h => hFc q h) hFc (fun r_36 u₀ t₀ H1 locs ht hvm hw hB hz1 hk1 hS => ?_)
              obtain ⟨hP1, hK1, hD1⟩ := hB
              rw [ht] at hP1
              have hJ := k_jn (wr := [(kAI vCo cI 25 qoz16), (kX11 hx aLa aPa aGe aFl aTr aBe aLu aLo vSf vSm vCo vSh xs xl xf), (kX10 aTr aLa aPa aGe gL gR (gp_6 0) (gp_6 1) (g_2 8) (g_2 9) (g_2 10) clz16 (g_2 12) (g_2 13) (g_2 14) yangz16 ycolz16 yendz16), (kX3 gL (g_2 0) (g_2 1) (g_2 2) (g_2 3)), (kX3 gR (g_2 4) (g_2 5) (g_2 6) (g_2 7)), (kX4 aLa vLa l4 a4 n4), (kAI vLa cI 24 f4), (kX7 aPa vPa l7 a7 n7), (kAI vPa cI 39 f7), (kX2 aGe vGe l2 a2 n2), (kAI vGe cI 23 f2)]) (wt := [(kAI vCo cI 25 qoz16), (kX11 hx aLa aPa aGe aFl aTr aBe aLu aLo vSf vSm vCo vSh xs xl xf), (kX10 aTr aLa aPa aGe gL gR (gp_6 0) (gp_6 1) (g_2 8) (g_2 9) (g_2 10) clz16 (g_2 12) (g_2 13) (g_2 14) yangz16 ycolz16 yendz16), (kX3 gL (g_2 0) (g_2 1) (g_2 2) (g_2 3)), (kX3 gR (g_2 4) (g_2 5) (g_2 6) (g_2 7)), (kX4 aLa vLa l4 a4 n4), (kAI vLa cI 24 f4), (kX7 aPa vPa l7 a7 n7), (kAI vPa cI 39 f7), (kX2 aGe vGe l2 a2 n2), (kAI vGe cI 23 f2), (kX1 aFl vFl xn), (kAI vFl cI 32 ff)]) hP hD hC [0, 1, 2, 3, 4, 5, 6, 7, 8, 9, 10] rfl (by decide +kernel) (by decide +kernel) hk1 hFc hP1 hD1 rfl
              clear hP hD hPc hDc hFc hC hP1 hD1 hK1 hz1 hk1 hvm ht
              obtain ⟨hP, hD⟩ := hJ
              generalize H1 = H at hP hS ⊢
              try dsimp only at hw
              refine k_topi (v := kIt xn ff f1 3) hw ?_
              obtain ⟨hPc, hDc, hFc, hC⟩ := k_cw (wc := [(kX10 aTr aLa aPa aGe gL gR (gp_6 0) (gp_6 1) (g_2 8) (g_2 9) (g_2 10) clz16 (g_2 12) (g_2 13) (g_2 14) yangz16 ycolz16 yendz16), (kX4 aLa vLa l4 a4 n4), (kAI vLa cI 24 f4)]) hP hD hS hA [2, 5, 6] (by decide +kernel) rfl
              refine va_calli (va_runV (As := [.int (kIt xn ff f1 3)]) (rest := []) ⟨hx₀, hb, hml, hown, hts⟩ (j_comesTo l dC dI cI cJ cQ H.size aTr (kIt xn ff f1 3) aLa aPa aGe gL gR (gp_6 0) (gp_6 1) (g_2 8) (g_2 9) (g_2 10) clz16 (g_2 12) (g_2 13) (g_2 14) yangz16 ycolz16 yendz16 vLa l4 a4 n4 f4 (hh0)) (cwV 1 hts (kGV wd_495 wd_492 wd_493 wd_494 wd_30) rfl rfl rfl (by decide +kernel) ⟨Nat.le_of_ble_eq_true rfl, Nat.le_of_ble_eq_true rfl⟩) (k_preV9 (q0 := 0) hK hPc hDc hN rfl) rfl rfl hl.1 rfl (lv_room (Nat.le_of_ble_eq_true rfl)) dX11_mostAlike_88 ⟨by decide +kernel, by decide +kernel⟩) hS (fun q _ h => hFc q h) hFc (fun r_37 u₀ t₀ H1 locs ht hvm hw hB hz1 hk1 hS => ?_)
              obtain ⟨g_38, ga_39, gl_40, gb_41, gp_42⟩ := u₀
              obtain ⟨hP1, hK1, hD1⟩ := hB
              rw [ht] at hP1
              have hJ := k_jn (wr := [(kAI vCo cI 25 qoz16), (kX11 hx aLa aPa aGe aFl aTr aBe aLu aLo vSf vSm vCo vSh xs xl xf), (kX3 gL (g_2 0) (g_2 1) (g_2 2) (g_2 3)), (kX3 gR (g_2 4) (g_2 5) (g_2 6) (g_2 7)), (kX7 aPa vPa l7 a7 n7), (kAI vPa cI 39 f7), (kX2 aGe vGe l2 a2 n2), (kAI vGe cI 23 f2), (kX1 aFl vFl xn), (kAI vFl cI 32 ff)]) (wt := [(kAI vCo cI 25 qoz16), (kX11 hx aLa aPa aGe aFl aTr aBe aLu aLo vSf vSm vCo vSh xs xl xf), (kX3 gL (g_2 0) (g_2 1) (g_2 2) (g_2 3)), (kX3 gR (g_2 4) (g_2 5) (g_2 6) (g_2 7)), (kX7 aPa vPa l7 a7 n7), (kAI vPa cI 39 f7), (kX2 aGe vGe l2 a2 n2), (kAI vGe cI 23 f2), (kX1 aFl vFl xn), (kAI vFl cI 32 ff), (kX10 aTr aLa aPa aGe gL gR (gp_6 0) (gp_6 1) (g_2 8) (g_2 9) (g_2 10) clz16 (g_2 12) (g_2 13) (g_2 14) (g_38 0) (g_38 1) (g_38 2)), (kX4 aLa vLa l4 a4 n4), (kAI vLa cI 24 f4)]) hP hD hC [0, 1, 3, 4, 7, 8, 9, 10, 11, 12] rfl (by decide +kernel) (by decide +kernel) hk1 hFc hP1 hD1 rfl
              clear hP hD hPc hDc hFc hC hP1 hD1 hK1 hz1 hk1 hvm ht
              obtain ⟨hP, hD⟩ := hJ
              generalize H1 = H at hP hS ⊢
              try dsimp only at hw
              obtain ⟨c_43, c_44, c_45, c_46⟩ := hw
              refine lv_istore (lv' := [(6, .int r_37), (5, .int clz16), (4, .int moz16), (0, .ref hx), (1, .int f1), (2, .int p1), (3, .int so)]) hx₀ hb dX11_mostAlike_91 hl (by decide) rfl (fun ls hl => ?_)
              refine lv_iload hx₀ hb dX11_mostAlike_93 (lv_at hl 0 rfl) ?_
              refine lv_if_lt (tgt := 133) hx₀ hb dX11_mostAlike_95 (by decide) (fun c_47 => ?_) (fun c_47 => ?_)
              · refine lv_iinc (v := clz16 + 1) (lv' := [(5, .int (clz16 + 1)), (6, .int r_37), (4, .int moz16), (0, .ref hx), (1, .int f1), (2, .int p1), (3, .int so)]) hx₀ hb dX11_mostAlike_133 hl (k := 1) rfl rfl (by decide) rfl (fun ls hl => ?_)
                refine lv_goto (tgt := 38) hx₀ hb dX11_mostAlike_136 (by decide) ?_
                exact ihz16 _ (lf_g_soresOf_2 clz16 jz16 hiz16_0 hjz16 c_17) moz16 (clz16 + 1) clz16 (g_38 0) (g_38 1) (g_38 2) qoz16 _ _ _ (lf_g_soresOf_1 clz16 jz16 hiz16_0 hjz16 c_17) ((fun q => absurd c_20 q)) (absurd (show 0 ≤ r_37 ∧ r_37 < 25 from by rw [(c_43.trans (congrArg (fun z => z.1) (show ((kGo (kAt 24 f4) (g_2 9) (g_2 14) (g_2 10) clz16 (g_2 12) (fun _ => (kIt xn ff f1 3))) (kfu n4 (0 : Int32)) (0 : Int32) (0 : Int32) (0 : Int32) (if (g_2 8) = 0 then 1 else 0)) = kOC f4 f7 f2 n4 n7 n2 xl (kIt xn ff f1 0) (kIt xn ff f1 1) (kIt xn ff f1 2) (kIt xn ff f1 3) (if (kIt xn ff f1 0) = p1 then clz16 else (kAt 39 f7 ((5 * (kIt xn ff f1 0)) + 1))) from (by rw [c_13]; exact kO_trip hh0.1 c_7 c_8 (fun c => c_9.trans (if_pos c)) (fun _ => (if_pos c_20).symm) (fun c => c_11.trans (if_pos c))))))]; exact kO_25 hh0).1 (Int32.not_le.mpr c_47)) rfl (hP.sub [0, 1, 10, 2, 3, 11, 12, 4, 5, 6, 7, 8, 9] rfl) (hD.sub [0, 1, 10, 2, 3, 11, 12, 4, 5, 6, 7, 8, 9] (by decide +kernel) rfl) hS (lv_sub hl [0, 2, 3, 4, 5, 6] rfl)
              · refine lv_iload hx₀ hb dX11_mostAlike_98 (lv_at hl 0 rfl) ?_
                refine lv_aload_n hx₀ hb dX11_mostAlike_100 rfl (lv_at hl 3 rfl) ?_
                refine va_get (D := (dC, dI)) (ci := 10) (v := .ref vCo) (C := RX11) (T := TX11) (N := 15) hx₀ hb hts inlX11 hown hK hP 1 rfl rfl 10 (by decide) (hts (.fieldLink RX11 74 "BittenStick" "comers" "[I") wd_47) (fun _ h9 => h9) rfl dX11_mostAlike_101 ?_
                refine va_alen (v := 25) hx₀ hb hK hP 0 0 rfl rfl rfl dX11_mostAlike_104 ?_
                refine lv_icmp_ge (tgt := 133) hx₀ hb dX11_mostAlike_105 (by decide) (fun c_48 => ?_) (fun c_48 => ?_)
                · refine lv_iinc (v := clz16 + 1) (lv' := [(5, .int (clz16 + 1)), (6, .int r_37), (4, .int moz16), (0, .ref hx), (1, .int f1), (2, .int p1), (3, .int so)]) hx₀ hb dX11_mostAlike_133 hl (k := 1) rfl rfl (by decide) rfl (fun ls hl => ?_)
                  refine lv_goto (tgt := 38) hx₀ hb dX11_mostAlike_136 (by decide) ?_
                  exact ihz16 _ (lf_g_soresOf_2 clz16 jz16 hiz16_0 hjz16 c_17) moz16 (clz16 + 1) clz16 (g_38 0) (g_38 1) (g_38 2) qoz16 _ _ _ (lf_g_soresOf_1 clz16 jz16 hiz16_0 hjz16 c_17) ((fun q => absurd c_20 q)) (absurd (show 0 ≤ r_37 ∧ r_37 < 25 from by rw [(c_43.trans (congrArg (fun z => z.1) (show ((kGo (kAt 24 f4) (g_2 9) (g_2 14) (g_2 10) clz16 (g_2 12) (fun _ => (kIt xn ff f1 3))) (kfu n4 (0 : Int32)) (0 : Int32) (0 : Int32) (0 : Int32) (if (g_2 8) = 0 then 1 else 0)) = kOC f4 f7 f2 n4 n7 n2 xl (kIt xn ff f1 0) (kIt xn ff f1 1) (kIt xn ff f1 2) (kIt xn ff f1 3) (if (kIt xn ff f1 0) = p1 then clz16 else (kAt 39 f7 ((5 * (kIt xn ff f1 0)) + 1))) from (by rw [c_13]; exact kO_trip hh0.1 c_7 c_8 (fun c => c_9.trans (if_pos c)) (fun _ => (if_pos c_20).symm) (fun c => c_11.trans (if_pos c))))))]; exact kO_25 hh0).2 (Int32.not_lt.mpr c_48)) rfl (hP.sub [0, 1, 10, 2, 3, 11, 12, 4, 5, 6, 7, 8, 9] rfl) (hD.sub [0, 1, 10, 2, 3, 11, 12, 4, 5, 6, 7, 8, 9] (by decide +kernel) rfl) hS (lv_sub hl [0, 2, 3, 4, 5, 6] rfl)
                · refine lv_aload_n hx₀ hb dX11_mostAlike_108 rfl (lv_at hl 3 rfl) ?_
                  refine va_get (D := (dC, dI)) (ci := 10) (v := .ref vCo) (C := RX11) (T := TX11) (N := 15) hx₀ hb hts inlX11 hown hK hP 1 rfl rfl 10 (by decide) (hts (.fieldLink RX11 74 "BittenStick" "comers" "[I") wd_47) (fun _ h9 => h9) rfl dX11_mostAlike_109 ?_
                  refine lv_iload hx₀ hb dX11_mostAlike_112 (lv_at hl 0 rfl) ?_
                  refine lv_dup2_11 hx₀ hb dX11_mostAlike_114 rfl rfl ?_
                  refine va_iald hx₀ hb hK hP 0 0 rfl rfl (vp_in_iff.mpr (lf_e_most_1 r_37 c_47 c_48)) dX11_mostAlike_115 ?_
                  refine lv_topi (fun y_49 ey_49 => ?_)
                  refine lv_iconst (v := 1) hx₀ hb dX11_mostAlike_116 (by decide +kernel) ?_
                  refine lv_iadd hx₀ hb dX11_mostAlike_117 ?_
                  refine va_iast hx₀ hb hK hP hD hS 0 0 rfl rfl (vp_in_iff.mpr (lf_e_most_1 r_37 c_47 c_48)) dX11_mostAlike_118 ?_
                  clear hP hD hS
                  intro H locs hP hD hS
                  replace hP := k_w2 (wt := [(kAI vCo cI 25 (upd qoz16 r_37.toNatClampNeg (y_49 + 1))), (kX11 hx aLa aPa aGe aFl aTr aBe aLu aLo vSf vSm vCo vSh xs xl xf), (kX3 gL (g_2 0) (g_2 1) (g_2 2) (g_2 3)), (kX3 gR (g_2 4) (g_2 5) (g_2 6) (g_2 7)), (kX7 aPa vPa l7 a7 n7), (kAI vPa cI 39 f7), (kX2 aGe vGe l2 a2 n2), (kAI vGe cI 23 f2), (kX1 aFl vFl xn), (kAI vFl cI 32 ff), (kX10 aTr aLa aPa aGe gL gR (gp_6 0) (gp_6 1) (g_2 8) (g_2 9) (g_2 10) clz16 (g_2 12) (g_2 13) (g_2 14) (g_38 0) (g_38 1) (g_38 2)), (kX4 aLa vLa l4 a4 n4), (kAI vLa cI 24 f4)]) hP hD rfl
                  replace hD := hP.2
                  replace hP := hP.1
                  refine lv_iload hx₀ hb dX11_mostAlike_119 (lv_at hl 2 rfl) ?_
                  refine lv_aload_n hx₀ hb dX11_mostAlike_121 rfl (lv_at hl 3 rfl) ?_
                  refine va_get (D := (dC, dI)) (ci := 10) (v := .ref vCo) (C := RX11) (T := TX11) (N := 15) hx₀ hb hts inlX11 hown hK hP 1 rfl rfl 10 (by decide) (hts (.fieldLink RX11 74 "BittenStick" "comers" "[I") wd_47) (fun _ h9 => h9) rfl dX11_mostAlike_122 ?_
                  refine lv_iload hx₀ hb dX11_mostAlike_125 (lv_at hl 0 rfl) ?_
                  refine va_iald hx₀ hb hK hP 0 0 rfl rfl (vp_in_iff.mpr (lf_e_most_1 r_37 c_47 c_48)) dX11_mostAlike_127 ?_
                  refine k_topi (v := y_49 + 1) pk_us ?_
                  refine va_mmax hx₀ hb (by rw [hml]; exact hl.1.symm) hown (hts (.methodLink RX11 366 Lib.Math.max.name) wd_747) (hts (.static Lib.Math.max.name) wd_62) (hts (.initialized "java/lang/Math") wd_63) (hts (.code Lib.Math.max.name Lib.Math.max.code 2 (some .int)) wd_64) (by decide) (Nat.le_of_ble_eq_true rfl) (by decide) (by decide) dX11_mostAlike_128 ?_
                  by_cases c_50 : moz16 < (y_49 + 1)
                  · refine k_topi (v := y_49 + 1) (if_pos c_50) ?_
                    refine lv_istore (lv' := [(4, .int (y_49 + 1)), (6, .int r_37), (5, .int clz16), (0, .ref hx), (1, .int f1), (2, .int p1), (3, .int so)]) hx₀ hb dX11_mostAlike_131 hl (by decide) rfl (fun ls hl => ?_)
                    refine lv_iinc (v := clz16 + 1) (lv' := [(5, .int (clz16 + 1)), (4, .int (y_49 + 1)), (6, .int r_37), (0, .ref hx), (1, .int f1), (2, .int p1), (3, .int so)]) hx₀ hb dX11_mostAlike_133 hl (k := 2) rfl rfl (by decide) rfl (fun ls hl => ?_)
                    refine lv_goto (tgt := 38) hx₀ hb dX11_mostAlike_136 (by decide) ?_
                    exact ihz16 _ (lf_g_soresOf_2 clz16 jz16 hiz16_0 hjz16 c_17) (y_49 + 1) (clz16 + 1) clz16 (g_38 0) (g_38 1) (g_38 2) (upd qoz16 r_37.toNatClampNeg (y_49 + 1)) _ _ _ (lf_g_soresOf_1 clz16 jz16 hiz16_0 hjz16 c_17) ((fun q => absurd c_20 q)) (kMa_y hiz16_2 (c_17) c_18 (c_43.trans (congrArg (fun z => z.1) (show ((kGo (kAt 24 f4) (g_2 9) (g_2 14) (g_2 10) clz16 (g_2 12) (fun _ => (kIt xn ff f1 3))) (kfu n4 (0 : Int32)) (0 : Int32) (0 : Int32) (0 : Int32) (if (g_2 8) = 0 then 1 else 0)) = kOC f4 f7 f2 n4 n7 n2 xl (kIt xn ff f1 0) (kIt xn ff f1 1) (kIt xn ff f1 2) (kIt xn ff f1 3) (if (kIt xn ff f1 0) = p1 then clz16 else (kAt 39 f7 ((5 * (kIt xn ff f1 0)) + 1))) from (by rw [c_13]; exact kO_trip hh0.1 c_7 c_8 (fun c => c_9.trans (if_pos c)) (fun _ => (if_pos c_20).symm) (fun c => c_11.trans (if_pos c)))))) ey_49 ((if_pos c_50).symm)) rfl (hP.sub [0, 1, 10, 2, 3, 11, 12, 4, 5, 6, 7, 8, 9] rfl) (hD.sub [0, 1, 10, 2, 3, 11, 12, 4, 5, 6, 7, 8, 9] (by decide +kernel) rfl) hS (lv_sub hl [0, 1, 3, 4, 5, 6] rfl)
                  refine k_topi (v := moz16) (if_neg c_50) ?_
                  refine lv_istore (lv' := [(4, .int moz16), (6, .int r_37), (5, .int clz16), (0, .ref hx), (1, .int f1), (2, .int p1), (3, .int so)]) hx₀ hb dX11_mostAlike_131 hl (by decide) rfl (fun ls hl => ?_)
                  refine lv_iinc (v := clz16 + 1) (lv' := [(5, .int (clz16 + 1)), (4, .int moz16), (6, .int r_37), (0, .ref hx), (1, .int f1), (2, .int p1), (3, .int so)]) hx₀ hb dX11_mostAlike_133 hl (k := 2) rfl rfl (by decide) rfl (fun ls hl => ?_)
                  refine lv_goto (tgt := 38) hx₀ hb dX11_mostAlike_136 (by decide) ?_
                  exact ihz16 _ (lf_g_soresOf_2 clz16 jz16 hiz16_0 hjz16 c_17) moz16 (clz16 + 1) clz16 (g_38 0) (g_38 1) (g_38 2) (upd qoz16 r_37.toNatClampNeg (y_49 + 1)) _ _ _ (lf_g_soresOf_1 clz16 jz16 hiz16_0 hjz16 c_17) ((fun q => absurd c_20 q)) (kMa_y hiz16_2 (c_17) c_18 (c_43.trans (congrArg (fun z => z.1) (show ((kGo (kAt 24 f4) (g_2 9) (g_2 14) (g_2 10) clz16 (g_2 12) (fun _ => (kIt xn ff f1 3))) (kfu n4 (0 : Int32)) (0 : Int32) (0 : Int32) (0 : Int32) (if (g_2 8) = 0 then 1 else 0)) = kOC f4 f7 f2 n4 n7 n2 xl (kIt xn ff f1 0) (kIt xn ff f1 1) (kIt xn ff f1 2) (kIt xn ff f1 3) (if (kIt xn ff f1 0) = p1 then clz16 else (kAt 39 f7 ((5 * (kIt xn ff f1 0)) + 1))) from (by rw [c_13]; exact kO_trip hh0.1 c_7 c_8 (fun c => c_9.trans (if_pos c)) (fun _ => (if_pos c_20).symm) (fun c => c_11.trans (if_pos c)))))) ey_49 ((if_neg c_50).symm)) rfl (hP.sub [0, 1, 10, 2, 3, 11, 12, 4, 5, 6, 7, 8, 9] rfl) (hD.sub [0, 1, 10, 2, 3, 11, 12, 4, 5, 6, 7, 8, 9] (by decide +kernel) rfl) hS (lv_sub hl [0, 1, 3, 4, 5, 6] rfl)
    · refine lv_aload_n hx₀ hb dX11_mostAlike_18 rfl (lv_at hl 1 rfl) ?_
      refine va_get (D := (dC, dI)) (ci := 10) (v := .ref vCo) (C := RX11) (T := TX11) (N := 15) hx₀ hb hts inlX11 hown hK hP 1 rfl rfl 10 (by decide) (hts (.fieldLink RX11 74 "BittenStick" "comers" "[I") wd_47) (fun _ h9 => h9) rfl dX11_mostAlike_19 ?_
      refine lv_iload hx₀ hb dX11_mostAlike_22 (lv_at hl 0 rfl) ?_
      refine lv_iconst (v := 0) hx₀ hb dX11_mostAlike_24 (by decide +kernel) ?_
      refine va_iast hx₀ hb hK hP hD hS 0 0 rfl rfl (vp_in_iff.mpr (lf_g_mostAlike_2 iz14 jz14 hiz14_0 hjz14 c_15)) dX11_mostAlike_25 ?_
      clear hP hD hS
      intro H locs hP hD hS
      replace hP := k_w2 (wt := [(kAI vCo cI 25 (upd qoz14 iz14.toNatClampNeg 0)), (kX11 hx aLa aPa aGe aFl aTr aBe aLu aLo vSf vSm vCo vSh xs xl xf), (kX10 aTr aLa aPa aGe gL gR (gp_6 0) (gp_6 1) (g_2 8) (g_2 9) (g_2 10) (g_2 11) (g_2 12) (g_2 13) (g_2 14) (g_2 15) (g_2 16) (g_2 17)), (kX3 gL (g_2 0) (g_2 1) (g_2 2) (g_2 3)), (kX3 gR (g_2 4) (g_2 5) (g_2 6) (g_2 7)), (kX4 aLa vLa l4 a4 n4), (kAI vLa cI 24 f4), (kX7 aPa vPa l7 a7 n7), (kAI vPa cI 39 f7), (kX2 aGe vGe l2 a2 n2), (kAI vGe cI 23 f2), (kX1 aFl vFl xn), (kAI vFl cI 32 ff)]) hP hD rfl
      replace hD := hP.2
      replace hP := hP.1
      refine lv_iinc (v := iz14 + 1) (lv' := [(4, .int (iz14 + 1)), (0, .ref hx), (1, .int f1), (2, .int p1), (3, .int so)]) hx₀ hb dX11_mostAlike_26 hl (k := 0) rfl rfl (by decide) rfl (fun ls hl => ?_)
      refine lv_goto (tgt := 8) hx₀ hb dX11_mostAlike_29 (by decide) ?_
      exact ihz14 _ (lf_g_mostAlike_4 iz14 jz14 hiz14_0 hjz14 c_15) (iz14 + 1) (upd qoz14 iz14.toNatClampNeg 0) _ _ _ (lf_g_mostAlike_3 iz14 jz14 hiz14_0 hjz14 c_15) (k_zr_s (lf_e_most_2 iz14 jz14 hiz14_0 hjz14 c_15) hiz14_1) rfl (hP.sub [0, 1, 2, 3, 4, 5, 6, 7, 8, 9, 10, 11, 12] rfl) (hD.sub [0, 1, 2, 3, 4, 5, 6, 7, 8, 9, 10, 11, 12] (by decide +kernel) rfl) hS (lv_sub hl [0, 1, 2, 3, 4] rfl)
theorem lf_e_ask__1 (a0 : Int32) (a1 : Int32) (a2 : Nat) (h0 : 0 ≤ a0 ∧ a0 ≤ 8) (h1 : 0 ≤ a1) (h2 : (a0.toInt - a1.toInt).toNat = a2) (h3 : ¬ a0 ≤ a1) : 0 ≤ (a1 + 1) := by
  first | rfl | assumption | decide | exact Or.inl rfl | (first | omega | (have hr0 := Int32.toInt_lt a0; have hs0 := Int32.le_toInt a0; have hr1 := Int32.toInt_lt a1; have hs1 := Int32.le_toInt a1; simp only [Int64.toInt_add, Int64.toInt_sub, Int32.toInt_add, Int32.toInt_sub, Int32.toInt_mul, Int64.le_iff_toInt_le, Int64.lt_iff_toInt_lt, Int32.le_iff_toInt_le, Int32.lt_iff_toInt_lt, ← Int32.toInt_inj, ← Int64.toInt_inj, Int32.toInt_toInt64, kc_0, kc_1, kc_8] at *; (first | omega | ((try simp (disch := omega) only [k_bm64] at *); (try simp (disch := omega) only [k_bm] at *); (try simp (disch := omega) only [k_bm] at *); omega) | (simp only [Int.bmod] at *; omega))))
theorem lf_e_ask__2 (a0 : Int32) (a1 : Int32) (a2 : Nat) (h0 : 0 ≤ a0 ∧ a0 ≤ 8) (h1 : 0 ≤ a1) (h2 : (a0.toInt - a1.toInt).toNat = a2) (h3 : ¬ a0 ≤ a1) : (a0.toInt - (a1 + 1).toInt).toNat < a2 := by
  first | rfl | assumption | decide | exact Or.inl rfl | (first | omega | (have hr0 := Int32.toInt_lt a0; have hs0 := Int32.le_toInt a0; have hr1 := Int32.toInt_lt a1; have hs1 := Int32.le_toInt a1; simp only [Int64.toInt_add, Int64.toInt_sub, Int32.toInt_add, Int32.toInt_sub, Int32.toInt_mul, Int64.le_iff_toInt_le, Int64.lt_iff_toInt_lt, Int32.le_iff_toInt_le, Int32.lt_iff_toInt_lt, ← Int32.toInt_inj, ← Int64.toInt_inj, Int32.toInt_toInt64, kc_0, kc_1, kc_8] at *; (first | omega | ((try simp (disch := omega) only [k_bm64] at *); (try simp (disch := omega) only [k_bm] at *); (try simp (disch := omega) only [k_bm] at *); omega) | (simp only [Int.bmod] at *; omega))))
set_option maxHeartbeats 4000000 in
set_option maxRecDepth 100000 in
theorem e_ask_ (l : Launch) (dC : Nat → ClassId) (dI : Nat → Nat → Nat) (cI cJ cQ : ClassId) (sz : Nat) (hx : Nat) (p1 : Int32) (aLa : Nat) (aPa : Nat) (aGe : Nat) (aFl : Nat) (aTr : Nat) (aBe : Nat) (aLu : Nat) (aLo : Nat) (vSf : Nat) (vSm : Nat) (vCo : Nat) (vSh : Nat) (xs : Int32) (xl : Int32) (xf : Int32) (gL : Nat) (gR : Nat) (lf : Nat) (rt : Nat) (tgo : Int32) (tca : Int32) (tki : Int32) (tso : Int32) (tbe : Int32) (twe : Int32) (tle : Int32) (tan : Int32) (tco : Int32) (ten : Int32) (u0 : Int32) (u1 : Int32) (u2 : Int32) (u3 : Int32) (v0 : Int32) (v1 : Int32) (v2 : Int32) (v3 : Int32) (vLa : Nat) (l4 : Int32) (a4 : Int32) (n4 : Int32) (f4 : Nat → Int32) (vPa : Nat) (l7 : Int32) (a7 : Int32) (n7 : Int32) (f7 : Nat → Int32) (vGe : Nat) (l2 : Int32) (a2 : Int32) (n2 : Int32) (f2 : Nat → Int32) (vFl : Nat) (xn : Int32) (ff : Nat → Int32) (sf : Nat → Int32) (sm : Nat → Int32) (oo : Nat → Int32) (hh0 : 0 ≤ n4 ∧ n4 ≤ 24) (hh1 : 0 ≤ xn ∧ xn ≤ 8) (hh2 : 0 ≤ xs ∧ xs ≤ 8) : Met l yX11_ask (kW yX11_ask cX11_ask 7 (some .int)) { frames := 5, cells := 0, slots := 0, locals := 121 } (kPre dC dI cI cJ cQ sz [.ref hx, .int p1] [(kX11 hx aLa aPa aGe aFl aTr aBe aLu aLo vSf vSm vCo vSh xs xl xf), (kX10 aTr aLa aPa aGe gL gR lf rt tgo tca tki tso tbe twe tle tan tco ten), (kX3 gL u0 u1 u2 u3), (kX3 gR v0 v1 v2 v3), (kX4 aLa vLa l4 a4 n4), (kAI vLa cI 24 f4), (kX7 aPa vPa l7 a7 n7), (kAI vPa cI 39 f7), (kX2 aGe vGe l2 a2 n2), (kAI vGe cI 23 f2), (kX1 aFl vFl xn), (kAI vFl cI 32 ff), (kAI vSf cI 8 sf), (kAI vSm cI 8 sm), (kAI vCo cI 25 oo)]) (va_Qi (fun (r : Int32) (u : kS) => (r = if 0 ≤ p1 ∧ p1 < n7 then (kAc (fun x2 => (kMa (fun x1 => kOC f4 f7 f2 n4 n7 n2 xl (kIt xn ff x2 0) (kIt xn ff x2 1) (kIt xn ff x2 2) (kIt xn ff x2 3) (if (kIt xn ff x2 0) = p1 then x1 else (kAt 39 f7 ((5 * (kIt xn ff x2 0)) + 1)))) (if 0 ≤ p1 ∧ p1 < n7 then (kSo (fun x1 => (kAl xn (fun x9 => kOC f4 f7 f2 n4 n7 n2 xl (kIt xn ff x9 0) (kIt xn ff x9 1) (kIt xn ff x9 2) (if x9 = (-1 : Int32) then (-1 : Int32) else (kIt xn ff x9 3)) (if (kIt xn ff x9 0) = p1 then x1 else (kAt 39 f7 ((5 * (kIt xn ff x9 0)) + 1)))) (fun x9 => sf x9.toNatClampNeg) (fun x9 => sm x9.toNatClampNeg) (kfu xs 0) 0)) (kfu 6 0) 0 0) else -2) (kfu 6 0) 0 (fun _ => 0) 0)) (kfu xn 0) 0 (-1) 7) else -2)) (fun (u : kS) t₀ => kB dC dI cI cJ cQ (va_A [(kX11 hx aLa aPa aGe aFl aTr aBe aLu aLo vSf vSm vCo vSh xs xl xf), (kX10 aTr aLa aPa aGe gL gR lf rt tgo tca tki tso tbe twe tle tan tco ten), (kX3 gL u0 u1 u2 u3), (kX3 gR v0 v1 v2 v3), (kX4 aLa vLa l4 a4 n4), (kAI vLa cI 24 f4), (kX7 aPa vPa l7 a7 n7), (kAI vPa cI 39 f7), (kX2 aGe vGe l2 a2 n2), (kAI vGe cI 23 f2), (kX1 aFl vFl xn), (kAI vFl cI 32 ff), (kAI vSf cI 8 sf), (kAI vSm cI 8 sm), (kAI vCo cI 25 oo)] sz) [(kX11 hx aLa aPa aGe aFl aTr aBe aLu aLo vSf vSm vCo vSh xs xl xf), (kX10 aTr aLa aPa aGe gL gR (u.2.2.2.2 0) (u.2.2.2.2 1) (u.1 8) (u.1 9) (u.1 10) (u.1 11) (u.1 12) (u.1 13) (u.1 14) (u.1 15) (u.1 16) (u.1 17)), (kX3 gL (u.1 0) (u.1 1) (u.1 2) (u.1 3)), (kX3 gR (u.1 4) (u.1 5) (u.1 6) (u.1 7)), (kX4 aLa vLa l4 a4 n4), (kAI vLa cI 24 f4), (kX7 aPa vPa l7 a7 n7), (kAI vPa cI 39 f7), (kX2 aGe vGe l2 a2 n2), (kAI vGe cI 23 f2), (kX1 aFl vFl xn), (kAI vFl cI 32 ff), (kAI vSf cI 8 sf), (kAI vSm cI 8 sm), (kAI vCo cI 25 (u.2.1 0))] t₀) (va_A [(kX11 hx aLa aPa aGe aFl aTr aBe aLu aLo vSf vSm vCo vSh xs xl xf), (kX10 aTr aLa aPa aGe gL gR lf rt tgo tca tki tso tbe twe tle tan tco ten), (kX3 gL u0 u1 u2 u3), (kX3 gR v0 v1 v2 v3), (kX4 aLa vLa l4 a4 n4), (kAI vLa cI 24 f4), (kX7 aPa vPa l7 a7 n7), (kAI vPa cI 39 f7), (kX2 aGe vGe l2 a2 n2), (kAI vGe cI 23 f2), (kX1 aFl vFl xn), (kAI vFl cI 32 ff), (kAI vSf cI 8 sf), (kAI vSm cI 8 sm), (kAI vCo cI 25 oo)] sz)) 0 0 (va_A [(kX11 hx aLa aPa aGe aFl aTr aBe aLu aLo vSf vSm vCo vSh xs xl xf), (kX10 aTr aLa aPa aGe gL gR lf rt tgo tca tki tso tbe twe tle tan tco ten), (kX3 gL u0 u1 u2 u3), (kX3 gR v0 v1 v2 v3), (kX4 aLa vLa l4 a4 n4), (kAI vLa cI 24 f4), (kX7 aPa vPa l7 a7 n7), (kAI vPa cI 39 f7), (kX2 aGe vGe l2 a2 n2), (kAI vGe cI 23 f2), (kX1 aFl vFl xn), (kAI vFl cI 32 ff), (kAI vSf cI 8 sf), (kAI vSm cI 8 sm), (kAI vCo cI 25 oo)] sz) := by
  refine Met.ofW (cc := cX11_ask) (maxL := 7) (ret := (some .int)) (by decide) rfl ?_
  intro p₀ e₀ s₀ m₀ args below meth c₀ s₁ B hml hv₀
  obtain ⟨rfl, hsz, hP, hK, hD0, hN⟩ := hv₀
  have hx₀ := B.exec
  have hb := B.bytes
  have hr := B.returns
  have hts := atoms_spec (ws := (kW yX11_ask cX11_ask 7 (some .int))) B.pre
  have hts := fun w h => hts w (List.mem_cons_of_mem _ h)
  have hown : s₀.vm.findClass RX11 = some m₀.cls := findClass_of_methodNamed B.named
  have hlocks := B.notSynchronized
  subst hsz
  have hD := hD0.self (sz := s₀.heap.size)
  generalize hAe : va_A [(kX11 hx aLa aPa aGe aFl aTr aBe aLu aLo vSf vSm vCo vSh xs xl xf), (kX10 aTr aLa aPa aGe gL gR lf rt tgo tca tki tso tbe twe tle tan tco ten), (kX3 gL u0 u1 u2 u3), (kX3 gR v0 v1 v2 v3), (kX4 aLa vLa l4 a4 n4), (kAI vLa cI 24 f4), (kX7 aPa vPa l7 a7 n7), (kAI vPa cI 39 f7), (kX2 aGe vGe l2 a2 n2), (kAI vGe cI 23 f2), (kX1 aFl vFl xn), (kAI vFl cI 32 ff), (kAI vSf cI 8 sf), (kAI vSm cI 8 sm), (kAI vCo cI 25 oo)] s₀.heap.size = A at hD ⊢
  have hA : ∀ q : Nat, s₀.heap.size ≤ q → A q := fun q h => by rw [← hAe]; exact Or.inr h
  have hS : va_S A s₀.heap s₀.heap [] := va_S.rf
  have hP : va_P (dC, dI) vwCl [(kX11 hx aLa aPa aGe aFl aTr aBe aLu aLo vSf vSm vCo vSh xs xl xf), (kX10 aTr aLa aPa aGe gL gR lf rt tgo tca tki tso tbe twe tle tan tco ten), (kX3 gL u0 u1 u2 u3), (kX3 gR v0 v1 v2 v3), (kX4 aLa vLa l4 a4 n4), (kAI vLa cI 24 f4), (kX7 aPa vPa l7 a7 n7), (kAI vPa cI 39 f7), (kX2 aGe vGe l2 a2 n2), (kAI vGe cI 23 f2), (kX1 aFl vFl xn), (kAI vFl cI 32 ff), (kAI vSf cI 8 sf), (kAI vSm cI 8 sm), (kAI vCo cI 25 oo)] s₀.heap := hP
  have hl := lv_entry ([.ref hx, .int p1]) (n := 7) (Nat.le_of_ble_eq_true rfl)
  rw [lg_entry_eq]
  generalize (lg_sl ([.ref hx, .int p1]) ++ List.replicate (7 - (lg_sl ([.ref hx, .int p1])).length) Slot.unset).toArray = ls at hl ⊢
  have hl : lv_has ls 7 [(0, .ref hx), (1, .int p1)] := hl
  obtain ⟨H, hH⟩ : ∃ z : Heap, z = s₀.heap := ⟨_, rfl⟩
  rw [← hH] at hP
  have hS : va_S A s₀.heap H [] := by rw [hH]; exact hS
  refine k_heap hH ?_
  have hD : va_D A [(kX11 hx aLa aPa aGe aFl aTr aBe aLu aLo vSf vSm vCo vSh xs xl xf), (kX10 aTr aLa aPa aGe gL gR lf rt tgo tca tki tso tbe twe tle tan tco ten), (kX3 gL u0 u1 u2 u3), (kX3 gR v0 v1 v2 v3), (kX4 aLa vLa l4 a4 n4), (kAI vLa cI 24 f4), (kX7 aPa vPa l7 a7 n7), (kAI vPa cI 39 f7), (kX2 aGe vGe l2 a2 n2), (kAI vGe cI 23 f2), (kX1 aFl vFl xn), (kAI vFl cI 32 ff), (kAI vSf cI 8 sf), (kAI vSm cI 8 sm), (kAI vCo cI 25 oo)] := hD
  obtain ⟨locs, hlo⟩ : ∃ z : List Loc, z = [] := ⟨_, rfl⟩
  rw [← hlo] at hS ⊢
  clear hlo hH hAe hD0
  refine lv_aload_n hx₀ hb dX11_ask_0 rfl (lv_at hl 0 rfl) ?_
  refine va_get (D := (dC, dI)) (ci := 10) (v := .ref aPa) (C := RX11) (T := TX11) (N := 15) hx₀ hb hts inlX11 hown hK hP 0 rfl rfl 1 (by decide) (hts (.fieldLink RX11 19 "BittenStick" "passengers" "LBittenStick$Passengers;") wd_19) (fun _ h9 => h9) rfl dX11_ask_1 ?_
  refine lv_iload_n hx₀ hb dX11_ask_4 rfl (lv_at hl 1 rfl) ?_
  obtain ⟨hPc, hDc, hFc, hC⟩ := k_cw (wc := [(kX7 aPa vPa l7 a7 n7)]) hP hD hS hA [6] (by decide +kernel) rfl
  refine va_calli (va_runU (As := [.int p1]) (rest := []) ⟨hx₀, hb, hml, hown, hts⟩ (j_has_X7 l dC dI cI cJ cQ H.size aPa p1 vPa l7 a7 n7) (va_cwU 1 hts (kGU wd_307 wd_303 wd_304 wd_305 wd_306 wd_57) rfl rfl rfl rfl (by decide +kernel) ⟨Nat.le_of_ble_eq_true rfl, Nat.le_of_ble_eq_true rfl⟩) (k_preV7 (q0 := 0) hK hPc hDc hN rfl) rfl rfl hl.1 rfl (lv_room (Nat.le_of_ble_eq_true rfl)) dX11_ask_5 ⟨by decide +kernel, by decide +kernel⟩) hS (fun q _ h => hFc q h) hFc (fun r_1 u₀ t₀ H1 locs ht hvm hw hB hz1 hk1 hS => ?_)
  obtain ⟨hP1, hK1, hD1⟩ := hB
  rw [ht] at hP1
  have hJ := k_jn (wr := [(kX11 hx aLa aPa aGe aFl aTr aBe aLu aLo vSf vSm vCo vSh xs xl xf), (kX10 aTr aLa aPa aGe gL gR lf rt tgo tca tki tso tbe twe tle tan tco ten), (kX3 gL u0 u1 u2 u3), (kX3 gR v0 v1 v2 v3), (kX4 aLa vLa l4 a4 n4), (kAI vLa cI 24 f4), (kAI vPa cI 39 f7), (kX2 aGe vGe l2 a2 n2), (kAI vGe cI 23 f2), (kX1 aFl vFl xn), (kAI vFl cI 32 ff), (kAI vSf cI 8 sf), (kAI vSm cI 8 sm), (kAI vCo cI 25 oo)]) (wt := [(kX11 hx aLa aPa aGe aFl aTr aBe aLu aLo vSf vSm vCo vSh xs xl xf), (kX10 aTr aLa aPa aGe gL gR lf rt tgo tca tki tso tbe twe tle tan tco ten), (kX3 gL u0 u1 u2 u3), (kX3 gR v0 v1 v2 v3), (kX4 aLa vLa l4 a4 n4), (kAI vLa cI 24 f4), (kAI vPa cI 39 f7), (kX2 aGe vGe l2 a2 n2), (kAI vGe cI 23 f2), (kX1 aFl vFl xn), (kAI vFl cI 32 ff), (kAI vSf cI 8 sf), (kAI vSm cI 8 sm), (kAI vCo cI 25 oo), (kX7 aPa vPa l7 a7 n7)]) hP hD hC [0, 1, 2, 3, 4, 5, 7, 8, 9, 10, 11, 12, 13, 14] rfl (by decide +kernel) (by decide +kernel) hk1 hFc hP1 hD1 rfl
  clear hP hD hPc hDc hFc hC hP1 hD1 hK1 hz1 hk1 hvm ht
  obtain ⟨hP, hD⟩ := hJ
  generalize H1 = H at hP hS ⊢
  try dsimp only at hw
  by_cases c_2 : 0 ≤ p1 ∧ p1 < n7
  · rw [if_pos c_2] at hw
    refine k_topi (v := 1) hw ?_
    refine lv_if_ne (tgt := 14) hx₀ hb dX11_ask_8 (by decide) (fun _ => ?_) (fun c9 => absurd c9 (by decide +kernel))
    refine lv_aload_n hx₀ hb dX11_ask_14 rfl (lv_at hl 0 rfl) ?_
    refine lv_iload_n hx₀ hb dX11_ask_15 rfl (lv_at hl 1 rfl) ?_
    obtain ⟨hPc, hDc, hFc, hC⟩ := k_cw (wc := [(kX11 hx aLa aPa aGe aFl aTr aBe aLu aLo vSf vSm vCo vSh xs xl xf), (kX10 aTr aLa aPa aGe gL gR lf rt tgo tca tki tso tbe twe tle tan tco ten), (kX3 gL u0 u1 u2 u3), (kX3 gR v0 v1 v2 v3), (kX4 aLa vLa l4 a4 n4), (kAI vLa cI 24 f4), (kX7 aPa vPa l7 a7 n7), (kAI vPa cI 39 f7), (kX2 aGe vGe l2 a2 n2), (kAI vGe cI 23 f2), (kX1 aFl vFl xn), (kAI vFl cI 32 ff), (kAI vSf cI 8 sf), (kAI vSm cI 8 sm)]) hP hD hS hA [0, 1, 2, 3, 4, 5, 14, 6, 7, 8, 9, 10, 11, 12] (by decide +kernel) rfl
    refine va_calli (va_runV (As := [.int p1]) (rest := []) ⟨hx₀, hb, hml, hown, hts⟩ (e_sores_ l dC dI cI cJ cQ H.size hx p1 aLa aPa aGe aFl aTr aBe aLu aLo vSf vSm vCo vSh xs xl xf gL gR lf rt tgo tca tki tso tbe twe tle tan tco ten u0 u1 u2 u3 v0 v1 v2 v3 vLa l4 a4 n4 f4 vPa l7 a7 n7 f7 vGe l2 a2 n2 f2 vFl xn ff sf sm (hh0) (hh1) (hh2)) (cwV 1 hts (kGV wd_708 wd_742 wd_706 wd_707 wd_2) rfl rfl rfl (by decide +kernel) ⟨Nat.le_of_ble_eq_true rfl, Nat.le_of_ble_eq_true rfl⟩) (k_preV10 (q0 := 0) hK hPc hDc hN rfl) rfl rfl hl.1 rfl (lv_room (Nat.le_of_ble_eq_true rfl)) dX11_ask_16 ⟨by decide +kernel, by decide +kernel⟩) hS (fun q _ h => hFc q h) hFc (fun r_3 u₀ t₀ H1 locs ht hvm hw hB hz1 hk1 hS => ?_)
    obtain ⟨g_4, ga_5, gl_6, gb_7, gp_8⟩ := u₀
    obtain ⟨hP1, hK1, hD1⟩ := hB
    rw [ht] at hP1
    have hJ := k_jn (wr := [(kAI vCo cI 25 oo)]) (wt := [(kAI vCo cI 25 oo), (kX11 hx aLa aPa aGe aFl aTr aBe aLu aLo vSf vSm vCo vSh xs xl xf), (kX10 aTr aLa aPa aGe gL gR (gp_8 0) (gp_8 1) (g_4 8) (g_4 9) (g_4 10) (g_4 11) (g_4 12) (g_4 13) (g_4 14) (g_4 15) (g_4 16) (g_4 17)), (kX3 gL (g_4 0) (g_4 1) (g_4 2) (g_4 3)), (kX3 gR (g_4 4) (g_4 5) (g_4 6) (g_4 7)), (kX4 aLa vLa l4 a4 n4), (kAI vLa cI 24 f4), (kX7 aPa vPa l7 a7 n7), (kAI vPa cI 39 f7), (kX2 aGe vGe l2 a2 n2), (kAI vGe cI 23 f2), (kX1 aFl vFl xn), (kAI vFl cI 32 ff), (kAI vSf cI 8 sf), (kAI vSm cI 8 sm)]) hP hD hC [13] rfl (by decide +kernel) (by decide +kernel) hk1 hFc hP1 hD1 rfl
    clear hP hD hPc hDc hFc hC hP1 hD1 hK1 hz1 hk1 hvm ht
    obtain ⟨hP, hD⟩ := hJ
    generalize H1 = H at hP hS ⊢
    try dsimp only at hw
    have c_9 := hw
    refine lv_istore_n (lv' := [(2, .int r_3), (0, .ref hx), (1, .int p1)]) hx₀ hb dX11_ask_19 rfl hl (by decide) rfl (fun ls hl => ?_)
    refine lv_iconst (v := (-1)) hx₀ hb dX11_ask_20 (by decide +kernel) ?_
    refine lv_istore_n (lv' := [(3, .int (-1)), (2, .int r_3), (0, .ref hx), (1, .int p1)]) hx₀ hb dX11_ask_21 rfl hl (by decide) rfl (fun ls hl => ?_)
    refine lv_bipush (v := 7) hx₀ hb dX11_ask_22 (by decide +kernel) ?_
    refine lv_istore (lv' := [(4, .int 7), (3, .int (-1)), (2, .int r_3), (0, .ref hx), (1, .int p1)]) hx₀ hb dX11_ask_24 hl (by decide) rfl (fun ls hl => ?_)
    refine lv_iconst (v := 0) hx₀ hb dX11_ask_26 (by decide +kernel) ?_
    refine lv_istore (lv' := [(5, .int 0), (4, .int 7), (3, .int (-1)), (2, .int r_3), (0, .ref hx), (1, .int p1)]) hx₀ hb dX11_ask_27 hl (by decide) rfl (fun ls hl => ?_)
    refine (?keyz10 : ∀ (jz10 : Nat) (asz10 : Int32) (lsz10 : Int32) (fz10 : Int32) (ygoez10 : Int32) (ycarz10 : Int32) (ykinz10 : Int32) (ysorz10 : Int32) (ybeaz10 : Int32) (yweiz10 : Int32) (yleaz10 : Int32) (yangz10 : Int32) (ycolz10 : Int32) (yendz10 : Int32) (pz10 : Nat) (qz10 : Nat) (w0z10 : Int32) (w1z10 : Int32) (w2z10 : Int32) (w3z10 : Int32) (z0z10 : Int32) (z1z10 : Int32) (z2z10 : Int32) (z3z10 : Int32) (qoz10 : Nat → Int32) (H : Heap) (locs : List Loc) (ls : Array Slot), (0 ≤ fz10) → (k_kc (fun x2 => (kMa (fun x1 => kOC f4 f7 f2 n4 n7 n2 xl (kIt xn ff x2 0) (kIt xn ff x2 1) (kIt xn ff x2 2) (kIt xn ff x2 3) (if (kIt xn ff x2 0) = p1 then x1 else (kAt 39 f7 ((5 * (kIt xn ff x2 0)) + 1)))) (if 0 ≤ p1 ∧ p1 < n7 then (kSo (fun x1 => (kAl xn (fun x9 => kOC f4 f7 f2 n4 n7 n2 xl (kIt xn ff x9 0) (kIt xn ff x9 1) (kIt xn ff x9 2) (if x9 = (-1 : Int32) then (-1 : Int32) else (kIt xn ff x9 3)) (if (kIt xn ff x9 0) = p1 then x1 else (kAt 39 f7 ((5 * (kIt xn ff x9 0)) + 1)))) (fun x9 => sf x9.toNatClampNeg) (fun x9 => sm x9.toNatClampNeg) (kfu xs 0) 0)) (kfu 6 0) 0 0) else -2) (kfu 6 0) 0 (fun _ => 0) 0)) xn fz10 asz10 lsz10 (kAc (fun x2 => (kMa (fun x1 => kOC f4 f7 f2 n4 n7 n2 xl (kIt xn ff x2 0) (kIt xn ff x2 1) (kIt xn ff x2 2) (kIt xn ff x2 3) (if (kIt xn ff x2 0) = p1 then x1 else (kAt 39 f7 ((5 * (kIt xn ff x2 0)) + 1)))) (if 0 ≤ p1 ∧ p1 < n7 then (kSo (fun x1 => (kAl xn (fun x9 => kOC f4 f7 f2 n4 n7 n2 xl (kIt xn ff x9 0) (kIt xn ff x9 1) (kIt xn ff x9 2) (if x9 = (-1 : Int32) then (-1 : Int32) else (kIt xn ff x9 3)) (if (kIt xn ff x9 0) = p1 then x1 else (kAt 39 f7 ((5 * (kIt xn ff x9 0)) + 1)))) (fun x9 => sf x9.toNatClampNeg) (fun x9 => sm x9.toNatClampNeg) (kfu xs 0) 0)) (kfu 6 0) 0 0) else -2) (kfu 6 0) 0 (fun _ => 0) 0)) (kfu xn 0) 0 (-1) 7)) → ((xn.toInt - fz10.toInt).toNat = jz10) → va_P (dC, dI) vwCl [(kAI vCo cI 25 qoz10), (kX11 hx aLa aPa aGe aFl aTr aBe aLu aLo vSf vSm vCo vSh xs xl xf), (kX10 aTr aLa aPa aGe gL gR pz10 qz10 ygoez10 ycarz10 ykinz10 ysorz10 ybeaz10 yweiz10 yleaz10 yangz10 ycolz10 yendz10), (kX3 gL w0z10 w1z10 w2z10 w3z10), (kX3 gR z0z10 z1z10 z2z10 z3z10), (kX4 aLa vLa l4 a4 n4), (kAI vLa cI 24 f4), (kX7 aPa vPa l7 a7 n7), (kAI vPa cI 39 f7), (kX2 aGe vGe l2 a2 n2), (kAI vGe cI 23 f2), (kX1 aFl vFl xn), (kAI vFl cI 32 ff), (kAI vSf cI 8 sf), (kAI vSm cI 8 sm)] H → va_D A [(kAI vCo cI 25 qoz10), (kX11 hx aLa aPa aGe aFl aTr aBe aLu aLo vSf vSm vCo vSh xs xl xf), (kX10 aTr aLa aPa aGe gL gR pz10 qz10 ygoez10 ycarz10 ykinz10 ysorz10 ybeaz10 yweiz10 yleaz10 yangz10 ycolz10 yendz10), (kX3 gL w0z10 w1z10 w2z10 w3z10), (kX3 gR z0z10 z1z10 z2z10 z3z10), (kX4 aLa vLa l4 a4 n4), (kAI vLa cI 24 f4), (kX7 aPa vPa l7 a7 n7), (kAI vPa cI 39 f7), (kX2 aGe vGe l2 a2 n2), (kAI vGe cI 23 f2), (kX1 aFl vFl xn), (kAI vFl cI 32 ff), (kAI vSf cI 8 sf), (kAI vSm cI 8 sm)] → va_S A s₀.heap H locs → lv_has ls 7 [(5, .int fz10), (4, .int lsz10), (3, .int asz10), (2, .int r_3), (0, .ref hx), (1, .int p1)] → W p₀ l e₀ _ s₀ m₀ _ below meth c₀ H locs _ _ _ (F0 m₀ 29 ls [])) _ (-1 : Int32) (7 : Int32) (0 : Int32) (g_4 8) (g_4 9) (g_4 10) (g_4 11) (g_4 12) (g_4 13) (g_4 14) (g_4 15) (g_4 16) (g_4 17) (gp_8 0) (gp_8 1) (g_4 0) (g_4 1) (g_4 2) (g_4 3) (g_4 4) (g_4 5) (g_4 6) (g_4 7) _ H locs ls (show 0 ≤ (0 : Int32) from (by decide)) (rfl) rfl hP hD hS hl
    clear hP hD hS hl
    intro jz10
    induction jz10 using Nat.strongRecOn with
    | ind jz10 ihz10 =>
      intro asz10 lsz10 fz10 ygoez10 ycarz10 ykinz10 ysorz10 ybeaz10 yweiz10 yleaz10 yangz10 ycolz10 yendz10 pz10 qz10 w0z10 w1z10 w2z10 w3z10 z0z10 z1z10 z2z10 z3z10 qoz10 H locs ls hiz10_0 hiz10_1 hjz10 hP hD hS hl
      refine lv_iload hx₀ hb dX11_ask_29 (lv_at hl 0 rfl) ?_
      refine lv_aload_n hx₀ hb dX11_ask_31 rfl (lv_at hl 4 rfl) ?_
      refine va_get (D := (dC, dI)) (ci := 10) (v := .ref aFl) (C := RX11) (T := TX11) (N := 15) hx₀ hb hts inlX11 hown hK hP 1 rfl rfl 3 (by decide) (hts (.fieldLink RX11 33 "BittenStick" "flights" "LBittenStick$Flights;") wd_27) (fun _ h9 => h9) rfl dX11_ask_32 ?_
      refine va_get (D := (dC, dI)) (ci := 1) (v := .int xn) (C := RX1) (T := TX1) (N := 2) hx₀ hb hts inlX1 hown hK hP 11 rfl rfl 1 (by decide) (hts (.fieldLink RX11 128 "BittenStick$Flights" "number" "I") wd_369) (fun _ h9 => h9) rfl dX11_ask_35 ?_
      refine lv_icmp_ge (tgt := 71) hx₀ hb dX11_ask_38 (by decide) (fun c_11 => ?_) (fun c_11 => ?_)
      · refine lv_iload_n hx₀ hb dX11_ask_71 rfl (lv_at hl 2 rfl) ?_
        obtain ⟨hP9, hD9⟩ := k_c2 (wc := [(kX11 hx aLa aPa aGe aFl aTr aBe aLu aLo vSf vSm vCo vSh xs xl xf), (kX10 aTr aLa aPa aGe gL gR pz10 qz10 ygoez10 ycarz10 ykinz10 ysorz10 ybeaz10 yweiz10 yleaz10 yangz10 ycolz10 yendz10), (kX3 gL w0z10 w1z10 w2z10 w3z10), (kX3 gR z0z10 z1z10 z2z10 z3z10), (kX4 aLa vLa l4 a4 n4), (kAI vLa cI 24 f4), (kX7 aPa vPa l7 a7 n7), (kAI vPa cI 39 f7), (kX2 aGe vGe l2 a2 n2), (kAI vGe cI 23 f2), (kX1 aFl vFl xn), (kAI vFl cI 32 ff), (kAI vSf cI 8 sf), (kAI vSm cI 8 sm), (kAI vCo cI 25 qoz10)]) hP hD [1, 2, 3, 4, 5, 6, 7, 8, 9, 10, 11, 12, 13, 14, 0] (by decide +kernel) rfl
        exact W.iret (v := asz10) hx₀ hb hr (fun t₀ ht hW => ⟨⟨asz10, (k_fn [w0z10, w1z10, w2z10, w3z10, z0z10, z1z10, z2z10, z3z10, ygoez10, ycarz10, ykinz10, ysorz10, ybeaz10, yweiz10, yleaz10, yangz10, ycolz10, yendz10], k_fa [qoz10], k_fl [], k_fL [], k_fp [pz10, qz10]), rfl, ((kAc_e hiz10_1 c_11).trans (if_pos (c_2)).symm), by rw [ht]; exact hP9, va_K.moved hW.alike hK, hD9⟩, hS.F ht⟩) hS.2.2 dX11_ask_72
      · refine lv_aload_n hx₀ hb dX11_ask_41 rfl (lv_at hl 4 rfl) ?_
        refine lv_iload hx₀ hb dX11_ask_42 (lv_at hl 0 rfl) ?_
        refine lv_iload_n hx₀ hb dX11_ask_44 rfl (lv_at hl 5 rfl) ?_
        refine lv_iload_n hx₀ hb dX11_ask_45 rfl (lv_at hl 3 rfl) ?_
        obtain ⟨hPc, hDc, hFc, hC⟩ := k_cw (wc := [(kX11 hx aLa aPa aGe aFl aTr aBe aLu aLo vSf vSm vCo vSh xs xl xf), (kX10 aTr aLa aPa aGe gL gR pz10 qz10 ygoez10 ycarz10 ykinz10 ysorz10 ybeaz10 yweiz10 yleaz10 yangz10 ycolz10 yendz10), (kX3 gL w0z10 w1z10 w2z10 w3z10), (kX3 gR z0z10 z1z10 z2z10 z3z10), (kX4 aLa vLa l4 a4 n4), (kAI vLa cI 24 f4), (kX7 aPa vPa l7 a7 n7), (kAI vPa cI 39 f7), (kX2 aGe vGe l2 a2 n2), (kAI vGe cI 23 f2), (kX1 aFl vFl xn), (kAI vFl cI 32 ff), (kAI vCo cI 25 qoz10)]) hP hD hS hA [1, 2, 3, 4, 5, 6, 7, 8, 9, 10, 11, 12, 0] (by decide +kernel) rfl
        refine va_calli (va_runV (As := [.int fz10, .int p1, .int r_3]) (rest := []) ⟨hx₀, hb, hml, hown, hts⟩ (e_most l dC dI cI cJ cQ H.size hx fz10 p1 r_3 aLa aPa aGe aFl aTr aBe aLu aLo vSf vSm vCo vSh xs xl xf gL gR pz10 qz10 ygoez10 ycarz10 ykinz10 ysorz10 ybeaz10 yweiz10 yleaz10 yangz10 ycolz10 yendz10 w0z10 w1z10 w2z10 w3z10 z0z10 z1z10 z2z10 z3z10 vLa l4 a4 n4 f4 vPa l7 a7 n7 f7 vGe l2 a2 n2 f2 vFl xn ff qoz10 (hh0) (hh1)) (cwV 3 hts (kGV wd_746 wd_743 wd_744 wd_745 wd_2) rfl rfl rfl (by decide +kernel) ⟨Nat.le_of_ble_eq_true rfl, Nat.le_of_ble_eq_true rfl⟩) (k_preV10 (q0 := 0) hK hPc hDc hN rfl) rfl rfl hl.1 rfl (lv_room (Nat.le_of_ble_eq_true rfl)) dX11_ask_46 ⟨by decide +kernel, by decide +kernel⟩) hS (fun q _ h => hFc q h) hFc (fun r_12 u₀ t₀ H1 locs ht hvm hw hB hz1 hk1 hS => ?_)
        obtain ⟨g_13, ga_14, gl_15, gb_16, gp_17⟩ := u₀
        obtain ⟨hP1, hK1, hD1⟩ := hB
        rw [ht] at hP1
        have hJ := k_jn (wr := [(kAI vSf cI 8 sf), (kAI vSm cI 8 sm)]) (wt := [(kAI vSf cI 8 sf), (kAI vSm cI 8 sm), (kX11 hx aLa aPa aGe aFl aTr aBe aLu aLo vSf vSm vCo vSh xs xl xf), (kX10 aTr aLa aPa aGe gL gR (gp_17 0) (gp_17 1) (g_13 8) (g_13 9) (g_13 10) (g_13 11) (g_13 12) (g_13 13) (g_13 14) (g_13 15) (g_13 16) (g_13 17)), (kX3 gL (g_13 0) (g_13 1) (g_13 2) (g_13 3)), (kX3 gR (g_13 4) (g_13 5) (g_13 6) (g_13 7)), (kX4 aLa vLa l4 a4 n4), (kAI vLa cI 24 f4), (kX7 aPa vPa l7 a7 n7), (kAI vPa cI 39 f7), (kX2 aGe vGe l2 a2 n2), (kAI vGe cI 23 f2), (kX1 aFl vFl xn), (kAI vFl cI 32 ff), (kAI vCo cI 25 (ga_14 0))]) hP hD hC [13, 14] rfl (by decide +kernel) (by decide +kernel) hk1 hFc hP1 hD1 rfl
        clear hP hD hPc hDc hFc hC hP1 hD1 hK1 hz1 hk1 hvm ht
        obtain ⟨hP, hD⟩ := hJ
        generalize H1 = H at hP hS ⊢
        try dsimp only at hw
        have c_18 := hw
        refine lv_istore (lv' := [(6, .int r_12), (5, .int fz10), (4, .int lsz10), (3, .int asz10), (2, .int r_3), (0, .ref hx), (1, .int p1)]) hx₀ hb dX11_ask_49 hl (by decide) rfl (fun ls hl => ?_)
        refine lv_iload hx₀ hb dX11_ask_51 (lv_at hl 0 rfl) ?_
        refine lv_iload hx₀ hb dX11_ask_53 (lv_at hl 2 rfl) ?_
        refine lv_icmp_ge (tgt := 65) hx₀ hb dX11_ask_55 (by decide) (fun c_19 => ?_) (fun c_19 => ?_)
        · refine lv_iinc (v := fz10 + 1) (lv' := [(5, .int (fz10 + 1)), (6, .int r_12), (4, .int lsz10), (3, .int asz10), (2, .int r_3), (0, .ref hx), (1, .int p1)]) hx₀ hb dX11_ask_65 hl (k := 1) rfl rfl (by decide) rfl (fun ls hl => ?_)
          refine lv_goto (tgt := 29) hx₀ hb dX11_ask_68 (by decide) ?_
          exact ihz10 _ (lf_e_ask__2 xn fz10 jz10 hh1 hiz10_0 hjz10 c_11) asz10 lsz10 (fz10 + 1) (g_13 8) (g_13 9) (g_13 10) (g_13 11) (g_13 12) (g_13 13) (g_13 14) (g_13 15) (g_13 16) (g_13 17) (gp_17 0) (gp_17 1) (g_13 0) (g_13 1) (g_13 2) (g_13 3) (g_13 4) (g_13 5) (g_13 6) (g_13 7) (ga_14 0) _ _ _ (lf_e_ask__1 xn fz10 jz10 hh1 hiz10_0 hjz10 c_11) (kAc_n hiz10_1 c_11 (by have h9 := c_18; rw [c_9] at h9; exact h9) (Int32.not_lt.mpr c_19)) rfl (hP.sub [14, 2, 3, 4, 5, 6, 7, 8, 9, 10, 11, 12, 13, 0, 1] rfl) (hD.sub [14, 2, 3, 4, 5, 6, 7, 8, 9, 10, 11, 12, 13, 0, 1] (by decide +kernel) rfl) hS (lv_sub hl [0, 2, 3, 4, 5, 6] rfl)
        · refine lv_iload hx₀ hb dX11_ask_58 (lv_at hl 0 rfl) ?_
          refine lv_istore (lv' := [(4, .int r_12), (6, .int r_12), (5, .int fz10), (3, .int asz10), (2, .int r_3), (0, .ref hx), (1, .int p1)]) hx₀ hb dX11_ask_60 hl (by decide) rfl (fun ls hl => ?_)
          refine lv_iload hx₀ hb dX11_ask_62 (lv_at hl 2 rfl) ?_
          refine lv_istore_n (lv' := [(3, .int fz10), (4, .int r_12), (6, .int r_12), (5, .int fz10), (2, .int r_3), (0, .ref hx), (1, .int p1)]) hx₀ hb dX11_ask_64 rfl hl (by decide) rfl (fun ls hl => ?_)
          refine lv_iinc (v := fz10 + 1) (lv' := [(5, .int (fz10 + 1)), (3, .int fz10), (4, .int r_12), (6, .int r_12), (2, .int r_3), (0, .ref hx), (1, .int p1)]) hx₀ hb dX11_ask_65 hl (k := 3) rfl rfl (by decide) rfl (fun ls hl => ?_)
          refine lv_goto (tgt := 29) hx₀ hb dX11_ask_68 (by decide) ?_
          exact ihz10 _ (lf_e_ask__2 xn fz10 jz10 hh1 hiz10_0 hjz10 c_11) fz10 r_12 (fz10 + 1) (g_13 8) (g_13 9) (g_13 10) (g_13 11) (g_13 12) (g_13 13) (g_13 14) (g_13 15) (g_13 16) (g_13 17) (gp_17 0) (gp_17 1) (g_13 0) (g_13 1) (g_13 2) (g_13 3) (g_13 4) (g_13 5) (g_13 6) (g_13 7) (ga_14 0) _ _ _ (lf_e_ask__1 xn fz10 jz10 hh1 hiz10_0 hjz10 c_11) (kAc_y hiz10_1 c_11 (by have h9 := c_18; rw [c_9] at h9; exact h9) (Int32.not_le.mp c_19)) rfl (hP.sub [14, 2, 3, 4, 5, 6, 7, 8, 9, 10, 11, 12, 13, 0, 1] rfl) (hD.sub [14, 2, 3, 4, 5, 6, 7, 8, 9, 10, 11, 12, 13, 0, 1] (by decide +kernel) rfl) hS (lv_sub hl [0, 2, 1, 4, 5, 6] rfl)
  rw [if_neg c_2] at hw
  refine k_topi (v := 0) hw ?_
  refine lv_if_ne (tgt := 14) hx₀ hb dX11_ask_8 (by decide) (fun c9 => absurd (by decide +kernel) c9) (fun _ => ?_)
  refine lv_bipush (v := (-2)) hx₀ hb dX11_ask_11 (by decide +kernel) ?_
  obtain ⟨hP9, hD9⟩ := k_c2 (wc := [(kX11 hx aLa aPa aGe aFl aTr aBe aLu aLo vSf vSm vCo vSh xs xl xf), (kX10 aTr aLa aPa aGe gL gR lf rt tgo tca tki tso tbe twe tle tan tco ten), (kX3 gL u0 u1 u2 u3), (kX3 gR v0 v1 v2 v3), (kX4 aLa vLa l4 a4 n4), (kAI vLa cI 24 f4), (kX7 aPa vPa l7 a7 n7), (kAI vPa cI 39 f7), (kX2 aGe vGe l2 a2 n2), (kAI vGe cI 23 f2), (kX1 aFl vFl xn), (kAI vFl cI 32 ff), (kAI vSf cI 8 sf), (kAI vSm cI 8 sm), (kAI vCo cI 25 oo)]) hP hD [0, 1, 2, 3, 4, 5, 14, 6, 7, 8, 9, 10, 11, 12, 13] (by decide +kernel) rfl
  exact W.iret (v := (-2)) hx₀ hb hr (fun t₀ ht hW => ⟨⟨(-2), (k_fn [u0, u1, u2, u3, v0, v1, v2, v3, tgo, tca, tki, tso, tbe, twe, tle, tan, tco, ten], k_fa [oo], k_fl [], k_fL [], k_fp [lf, rt]), rfl, (if_neg (c_2)).symm, by rw [ht]; exact hP9, va_K.moved hW.alike hK, hD9⟩, hS.F ht⟩) hS.2.2 dX11_ask_13
set_option maxHeartbeats 4000000 in
set_option maxRecDepth 100000 in
theorem m_most (l : Launch) (dC : Nat → ClassId) (dI : Nat → Nat → Nat) (cI cJ cQ : ClassId) (sz : Nat) (hm : Nat) (p1 : Int32) (f1 : Int32) (so : Int32) (vFo : Nat) (vSi : Nat) (vIt : Nat) (vMo : Nat) (la : Int32) (vBy : Nat) (vTy : Nat) (mi : Int32) (vMi : Nat) (pn : Int32) (vPs : Nat) (gn : Int32) (vGs : Nat) (fn : Int32) (vFt : Nat) (le : Int32) (vTo : Nat) (kn : Int32) (fe : Int32) (en : Int32) (ca : Int32) (an : Int32) (co : Int32) (vPr : Nat) (vSt : Nat) (vFn : Nat) (sn : Int32) (vSg : Nat) (vAl : Nat) (dr : Int32) (qMi : Nat → Int32) (qPs : Nat → Int32) (qGs : Nat → Int32) (qTo : Nat → Int32) (qPr : Nat → Int32) (qSt : Nat → Int32) (qFn : Nat → Int32) (qFt : Nat → Int32) (qSg : Nat → Int32) (qAl : Nat → Int32) (hh0 : 0 ≤ mi ∧ mi ≤ 24) (hh1 : 0 ≤ pn ∧ pn ≤ 8) (hh2 : 0 ≤ gn ∧ gn ≤ 8) (hh3 : k_bd 2 0 7 qPr) (hh4 : 0 ≤ fe ∧ fe ≤ 24) (hh5 : en = 0 ∨ kn = 0 ∨ fe ≤ 23) (hh6 : 0 ≤ kn ∧ kn ≤ 24) (hh7 : 0 ≤ fn ∧ fn ≤ 8) (hh8 : 0 ≤ sn ∧ sn ≤ 8) (hh9 : 0 ≤ p1 ∧ p1 ≤ 7) (hh10 : 0 ≤ f1 ∧ f1 ≤ 7) (hh11 : k_tm pn qPs) (hh12 : ca = 16777215) (hh13 : k_bd 32 0 9 qFt) : Met l yX12_mostAlike (kW yX12_mostAlike cX12_mostAlike 7 (some .int)) { frames := 4, cells := 0, slots := 0, locals := 99 } (kPre dC dI cI cJ cQ sz [.ref hm, .int p1, .int f1, .int so] [(kX12 hm vFo vSi vIt vMo la vBy vTy mi vMi pn vPs gn vGs fn vFt le vTo kn fe en ca an co vPr vSt vFn sn vSg vAl dr), (kAI vMi cI 24 qMi), (kAI vPs cI 32 qPs), (kAI vGs cI 16 qGs), (kAI vTo cI 96 qTo), (kAI vPr cI 2 qPr), (kAI vSt cI 2 qSt), (kAI vFn cI 2 qFn), (kAI vFt cI 32 qFt), (kAI vSg cI 16 qSg), (kAI vAl cI 25 qAl)]) (va_Qi (fun (r : Int32) (u : kS) => (r = (kMa (fun x1 => kOR qMi (upd qPs ((4 * p1) + 1).toNatClampNeg x1) qGs mi pn gn le (kP0 qFt f1) (kP1 qFt f1) (kP2 qFt f1) (kP1 (upd qPs ((4 * p1) + 1).toNatClampNeg x1) (kP0 qFt f1)) (fun x8 => if x8 < (24 : Int32) then (kP3 qFt f1) else (0 : Int32))) so (kfu 6 0) 0 (fun _ => 0) 0)) ∧ (k_bd 2 0 7 (u.2.1 1)) ∧ (0 ≤ (u.1 1) ∧ (u.1 1) ≤ 24) ∧ ((u.1 2) = 0 ∨ (u.1 0) = 0 ∨ (u.1 1) ≤ 23) ∧ (0 ≤ (u.1 0) ∧ (u.1 0) ≤ 24) ∧ ((u.2.1 4) = qPs)) (fun (u : kS) t₀ => kB dC dI cI cJ cQ (va_A [(kX12 hm vFo vSi vIt vMo la vBy vTy mi vMi pn vPs gn vGs fn vFt le vTo kn fe en ca an co vPr vSt vFn sn vSg vAl dr), (kAI vMi cI 24 qMi), (kAI vPs cI 32 qPs), (kAI vGs cI 16 qGs), (kAI vTo cI 96 qTo), (kAI vPr cI 2 qPr), (kAI vSt cI 2 qSt), (kAI vFn cI 2 qFn), (kAI vFt cI 32 qFt), (kAI vSg cI 16 qSg), (kAI vAl cI 25 qAl)] sz) [(kX12 hm vFo vSi vIt vMo la vBy vTy mi vMi pn vPs gn vGs fn vFt le vTo (u.1 0) (u.1 1) (u.1 2) ca (u.1 3) (u.1 4) vPr vSt vFn sn vSg vAl dr), (kAI vMi cI 24 qMi), (kAI vPs cI 32 (u.2.1 4)), (kAI vGs cI 16 qGs), (kAI vTo cI 96 (u.2.1 0)), (kAI vPr cI 2 (u.2.1 1)), (kAI vSt cI 2 (u.2.1 2)), (kAI vFn cI 2 (u.2.1 3)), (kAI vFt cI 32 qFt), (kAI vSg cI 16 qSg), (kAI vAl cI 25 (u.2.1 5))] t₀) (va_A [(kX12 hm vFo vSi vIt vMo la vBy vTy mi vMi pn vPs gn vGs fn vFt le vTo kn fe en ca an co vPr vSt vFn sn vSg vAl dr), (kAI vMi cI 24 qMi), (kAI vPs cI 32 qPs), (kAI vGs cI 16 qGs), (kAI vTo cI 96 qTo), (kAI vPr cI 2 qPr), (kAI vSt cI 2 qSt), (kAI vFn cI 2 qFn), (kAI vFt cI 32 qFt), (kAI vSg cI 16 qSg), (kAI vAl cI 25 qAl)] sz)) 0 0 (va_A [(kX12 hm vFo vSi vIt vMo la vBy vTy mi vMi pn vPs gn vGs fn vFt le vTo kn fe en ca an co vPr vSt vFn sn vSg vAl dr), (kAI vMi cI 24 qMi), (kAI vPs cI 32 qPs), (kAI vGs cI 16 qGs), (kAI vTo cI 96 qTo), (kAI vPr cI 2 qPr), (kAI vSt cI 2 qSt), (kAI vFn cI 2 qFn), (kAI vFt cI 32 qFt), (kAI vSg cI 16 qSg), (kAI vAl cI 25 qAl)] sz) := by
  refine Met.ofW (cc := cX12_mostAlike) (maxL := 7) (ret := (some .int)) (by decide) rfl ?_
  intro p₀ e₀ s₀ m₀ args below meth c₀ s₁ B hml hv₀
  obtain ⟨rfl, hsz, hP, hK, hD0, hN⟩ := hv₀
  have hx₀ := B.exec
  have hb := B.bytes
  have hr := B.returns
  have hts := atoms_spec (ws := (kW yX12_mostAlike cX12_mostAlike 7 (some .int))) B.pre
  have hts := fun w h => hts w (List.mem_cons_of_mem _ h)
  have hown : s₀.vm.findClass RX12 = some m₀.cls := findClass_of_methodNamed B.named
  have hlocks := B.notSynchronized
  subst hsz
  have hD := hD0.self (sz := s₀.heap.size)
  generalize hAe : va_A [(kX12 hm vFo vSi vIt vMo la vBy vTy mi vMi pn vPs gn vGs fn vFt le vTo kn fe en ca an co vPr vSt vFn sn vSg vAl dr), (kAI vMi cI 24 qMi), (kAI vPs cI 32 qPs), (kAI vGs cI 16 qGs), (kAI vTo cI 96 qTo), (kAI vPr cI 2 qPr), (kAI vSt cI 2 qSt), (kAI vFn cI 2 qFn), (kAI vFt cI 32 qFt), (kAI vSg cI 16 qSg), (kAI vAl cI 25 qAl)] s₀.heap.size = A at hD ⊢
  have hA : ∀ q : Nat, s₀.heap.size ≤ q → A q := fun q h => by rw [← hAe]; exact Or.inr h
  have hS : va_S A s₀.heap s₀.heap [] := va_S.rf
  have hP : va_P (dC, dI) vwCl [(kX12 hm vFo vSi vIt vMo la vBy vTy mi vMi pn vPs gn vGs fn vFt le vTo kn fe en ca an co vPr vSt vFn sn vSg vAl dr), (kAI vMi cI 24 qMi), (kAI vPs cI 32 qPs), (kAI vGs cI 16 qGs), (kAI vTo cI 96 qTo), (kAI vPr cI 2 qPr), (kAI vSt cI 2 qSt), (kAI vFn cI 2 qFn), (kAI vFt cI 32 qFt), (kAI vSg cI 16 qSg), (kAI vAl cI 25 qAl)] s₀.heap := hP
  have hl := lv_entry ([.ref hm, .int p1, .int f1, .int so]) (n := 7) (Nat.le_of_ble_eq_true rfl)
  rw [lg_entry_eq]
  generalize (lg_sl ([.ref hm, .int p1, .int f1, .int so]) ++ List.replicate (7 - (lg_sl ([.ref hm, .int p1, .int f1, .int so])).length) Slot.unset).toArray = ls at hl ⊢
  have hl : lv_has ls 7 [(0, .ref hm), (1, .int p1), (2, .int f1), (3, .int so)] := hl
  obtain ⟨H, hH⟩ : ∃ z : Heap, z = s₀.heap := ⟨_, rfl⟩
  rw [← hH] at hP
  have hS : va_S A s₀.heap H [] := by rw [hH]; exact hS
  refine k_heap hH ?_
  have hD : va_D A [(kX12 hm vFo vSi vIt vMo la vBy vTy mi vMi pn vPs gn vGs fn vFt le vTo kn fe en ca an co vPr vSt vFn sn vSg vAl dr), (kAI vMi cI 24 qMi), (kAI vPs cI 32 qPs), (kAI vGs cI 16 qGs), (kAI vTo cI 96 qTo), (kAI vPr cI 2 qPr), (kAI vSt cI 2 qSt), (kAI vFn cI 2 qFn), (kAI vFt cI 32 qFt), (kAI vSg cI 16 qSg), (kAI vAl cI 25 qAl)] := hD
  obtain ⟨locs, hlo⟩ : ∃ z : List Loc, z = [] := ⟨_, rfl⟩
  rw [← hlo] at hS ⊢
  clear hlo hH hAe hD0
  refine lv_aload_n hx₀ hb dX12_mostAlike_0 rfl (lv_at hl 0 rfl) ?_
  refine va_get (D := (dC, dI)) (ci := 11) (v := .ref vPs) (C := RX12) (T := TX12) (N := 30) hx₀ hb hts inlX12 hown hK hP 0 rfl rfl 10 (by decide) (hts (.fieldLink RX12 31 "BittenStickModel" "passenger" "[I") wd_122) (fun _ h9 => h9) rfl dX12_mostAlike_1 ?_
  refine lv_iconst (v := 4) hx₀ hb dX12_mostAlike_4 (by decide +kernel) ?_
  refine lv_iload_n hx₀ hb dX12_mostAlike_5 rfl (lv_at hl 1 rfl) ?_
  refine lv_imul hx₀ hb dX12_mostAlike_6 ?_
  refine lv_iconst (v := 1) hx₀ hb dX12_mostAlike_7 (by decide +kernel) ?_
  refine lv_iadd hx₀ hb dX12_mostAlike_8 ?_
  refine va_iald hx₀ hb hK hP 2 0 rfl rfl (vp_in_iff.mpr (lf_g_fliesTold_2 p1 hh9)) dX12_mostAlike_9 ?_
  refine lv_istore (lv' := [(4, .int (qPs ((4 * p1) + 1).toNatClampNeg)), (0, .ref hm), (1, .int p1), (2, .int f1), (3, .int so)]) hx₀ hb dX12_mostAlike_10 hl (by decide) rfl (fun ls hl => ?_)
  refine lv_iconst (v := 0) hx₀ hb dX12_mostAlike_12 (by decide +kernel) ?_
  refine lv_istore (lv' := [(5, .int 0), (4, .int (qPs ((4 * p1) + 1).toNatClampNeg)), (0, .ref hm), (1, .int p1), (2, .int f1), (3, .int so)]) hx₀ hb dX12_mostAlike_13 hl (by decide) rfl (fun ls hl => ?_)
  refine lv_iconst (v := 0) hx₀ hb dX12_mostAlike_15 (by decide +kernel) ?_
  refine lv_istore (lv' := [(6, .int 0), (5, .int 0), (4, .int (qPs ((4 * p1) + 1).toNatClampNeg)), (0, .ref hm), (1, .int p1), (2, .int f1), (3, .int so)]) hx₀ hb dX12_mostAlike_16 hl (by decide) rfl (fun ls hl => ?_)
  refine (?keyz1 : ∀ (jz1 : Nat) (iz1 : Int32) (qaz1 : Nat → Int32) (H : Heap) (locs : List Loc) (ls : Array Slot), (0 ≤ iz1 ∧ iz1 ≤ 25) → (k_zr iz1 qaz1) → ((25 - iz1.toInt).toNat = jz1) → va_P (dC, dI) vwCl [(kX12 hm vFo vSi vIt vMo la vBy vTy mi vMi pn vPs gn vGs fn vFt le vTo kn fe en ca an co vPr vSt vFn sn vSg vAl dr), (kAI vMi cI 24 qMi), (kAI vPs cI 32 qPs), (kAI vGs cI 16 qGs), (kAI vTo cI 96 qTo), (kAI vPr cI 2 qPr), (kAI vSt cI 2 qSt), (kAI vFn cI 2 qFn), (kAI vFt cI 32 qFt), (kAI vSg cI 16 qSg), (kAI vAl cI 25 qaz1)] H → va_D A [(kX12 hm vFo vSi vIt vMo la vBy vTy mi vMi pn vPs gn vGs fn vFt le vTo kn fe en ca an co vPr vSt vFn sn vSg vAl dr), (kAI vMi cI 24 qMi), (kAI vPs cI 32 qPs), (kAI vGs cI 16 qGs), (kAI vTo cI 96 qTo), (kAI vPr cI 2 qPr), (kAI vSt cI 2 qSt), (kAI vFn cI 2 qFn), (kAI vFt cI 32 qFt), (kAI vSg cI 16 qSg), (kAI vAl cI 25 qaz1)] → va_S A s₀.heap H locs → lv_has ls 7 [(6, .int iz1), (5, .int 0), (4, .int (qPs ((4 * p1) + 1).toNatClampNeg)), (0, .ref hm), (1, .int p1), (2, .int f1), (3, .int so)] → W p₀ l e₀ _ s₀ m₀ _ below meth c₀ H locs _ _ _ (F0 m₀ 18 ls [])) _ (0 : Int32) _ H locs ls (show 0 ≤ (0 : Int32) ∧ (0 : Int32) ≤ 25 from ⟨(by decide), (by decide)⟩) (k_zr_0) rfl hP hD hS hl
  clear hP hD hS hl
  intro jz1
  induction jz1 using Nat.strongRecOn with
  | ind jz1 ihz1 =>
    intro iz1 qaz1 H locs ls hiz1_0 hiz1_1 hjz1 hP hD hS hl
    refine lv_iload hx₀ hb dX12_mostAlike_18 (lv_at hl 0 rfl) ?_
    refine lv_bipush (v := 25) hx₀ hb dX12_mostAlike_20 (by decide +kernel) ?_
    refine lv_icmp_ge (tgt := 39) hx₀ hb dX12_mostAlike_22 (by decide) (fun c_2 => ?_) (fun c_2 => ?_)
    · refine lv_iconst (v := 0) hx₀ hb dX12_mostAlike_39 (by decide +kernel) ?_
      refine lv_istore (lv' := [(6, .int 0), (5, .int 0), (4, .int (qPs ((4 * p1) + 1).toNatClampNeg)), (0, .ref hm), (1, .int p1), (2, .int f1), (3, .int so)]) hx₀ hb dX12_mostAlike_40 hl (by decide) rfl (fun ls hl => ?_)
      refine (?keyz3 : ∀ (jz3 : Nat) (moz3 : Int32) (clz3 : Int32) (knz3 : Int32) (fez3 : Int32) (enz3 : Int32) (anz3 : Int32) (coz3 : Int32) (qtz3 : Nat → Int32) (qpz3 : Nat → Int32) (qsz3 : Nat → Int32) (qfz3 : Nat → Int32) (qwz3 : Nat → Int32) (qaz3 : Nat → Int32) (H : Heap) (locs : List Loc) (ls : Array Slot), (0 ≤ clz3 ∧ clz3 ≤ 6) → (k_of qPs qwz3 ((4 * p1) + 1)) → (k_ma (fun x1 => kOR qMi (upd qPs ((4 * p1) + 1).toNatClampNeg x1) qGs mi pn gn le (kP0 qFt f1) (kP1 qFt f1) (kP2 qFt f1) (kP1 (upd qPs ((4 * p1) + 1).toNatClampNeg x1) (kP0 qFt f1)) (fun x8 => if x8 < (24 : Int32) then (kP3 qFt f1) else (0 : Int32))) so clz3 qaz3 moz3 (kMa (fun x1 => kOR qMi (upd qPs ((4 * p1) + 1).toNatClampNeg x1) qGs mi pn gn le (kP0 qFt f1) (kP1 qFt f1) (kP2 qFt f1) (kP1 (upd qPs ((4 * p1) + 1).toNatClampNeg x1) (kP0 qFt f1)) (fun x8 => if x8 < (24 : Int32) then (kP3 qFt f1) else (0 : Int32))) so (kfu 6 0) 0 (fun _ => 0) 0)) → (k_bd 2 0 7 qpz3) → (0 ≤ fez3 ∧ fez3 ≤ 24) → (enz3 = 0 ∨ knz3 = 0 ∨ fez3 ≤ 23) → (0 ≤ knz3 ∧ knz3 ≤ 24) → ((6 - clz3.toInt).toNat = jz3) → va_P (dC, dI) vwCl [(kX12 hm vFo vSi vIt vMo la vBy vTy mi vMi pn vPs gn vGs fn vFt le vTo knz3 fez3 enz3 ca anz3 coz3 vPr vSt vFn sn vSg vAl dr), (kAI vMi cI 24 qMi), (kAI vPs cI 32 qwz3), (kAI vGs cI 16 qGs), (kAI vTo cI 96 qtz3), (kAI vPr cI 2 qpz3), (kAI vSt cI 2 qsz3), (kAI vFn cI 2 qfz3), (kAI vFt cI 32 qFt), (kAI vSg cI 16 qSg), (kAI vAl cI 25 qaz3)] H → va_D A [(kX12 hm vFo vSi vIt vMo la vBy vTy mi vMi pn vPs gn vGs fn vFt le vTo knz3 fez3 enz3 ca anz3 coz3 vPr vSt vFn sn vSg vAl dr), (kAI vMi cI 24 qMi), (kAI vPs cI 32 qwz3), (kAI vGs cI 16 qGs), (kAI vTo cI 96 qtz3), (kAI vPr cI 2 qpz3), (kAI vSt cI 2 qsz3), (kAI vFn cI 2 qfz3), (kAI vFt cI 32 qFt), (kAI vSg cI 16 qSg), (kAI vAl cI 25 qaz3)] → va_S A s₀.heap H locs → lv_has ls 7 [(6, .int clz3), (5, .int moz3), (4, .int (qPs ((4 * p1) + 1).toNatClampNeg)), (0, .ref hm), (1, .int p1), (2, .int f1), (3, .int so)] → W p₀ l e₀ _ s₀ m₀ _ below meth c₀ H locs _ _ _ (F0 m₀ 42 ls [])) _ (0 : Int32) (0 : Int32) kn fe en an co _ _ _ _ _ _ H locs ls (show 0 ≤ (0 : Int32) ∧ (0 : Int32) ≤ 6 from ⟨(by decide), (by decide)⟩) (k_of_0) (kMa_0 (fun _ => kO_25 hh0) (fun j hj => hiz1_1 j (by rw [show iz1 = 25 from show iz1 = 25 from (Int32.le_antisymm hiz1_0.2 c_2)]; exact hj))) (hh3) (hh4) (hh5) (hh6) rfl hP hD hS hl
      clear hP hD hS hl
      intro jz3
      induction jz3 using Nat.strongRecOn with
      | ind jz3 ihz3 =>
        intro moz3 clz3 knz3 fez3 enz3 anz3 coz3 qtz3 qpz3 qsz3 qfz3 qwz3 qaz3 H locs ls hiz3_0 hiz3_1 hiz3_2 hiz3_3 hiz3_4 hiz3_5 hiz3_6 hjz3 hP hD hS hl
        refine lv_iload hx₀ hb dX12_mostAlike_42 (lv_at hl 0 rfl) ?_
        refine lv_bipush (v := 6) hx₀ hb dX12_mostAlike_44 (by decide +kernel) ?_
        refine lv_icmp_ge (tgt := 124) hx₀ hb dX12_mostAlike_46 (by decide) (fun c_4 => ?_) (fun c_4 => ?_)
        · refine lv_aload_n hx₀ hb dX12_mostAlike_124 rfl (lv_at hl 3 rfl) ?_
          refine va_get (D := (dC, dI)) (ci := 11) (v := .ref vPs) (C := RX12) (T := TX12) (N := 30) hx₀ hb hts inlX12 hown hK hP 0 rfl rfl 10 (by decide) (hts (.fieldLink RX12 31 "BittenStickModel" "passenger" "[I") wd_122) (fun _ h9 => h9) rfl dX12_mostAlike_125 ?_
          refine lv_iconst (v := 4) hx₀ hb dX12_mostAlike_128 (by decide +kernel) ?_
          refine lv_iload_n hx₀ hb dX12_mostAlike_129 rfl (lv_at hl 4 rfl) ?_
          refine lv_imul hx₀ hb dX12_mostAlike_130 ?_
          refine lv_iconst (v := 1) hx₀ hb dX12_mostAlike_131 (by decide +kernel) ?_
          refine lv_iadd hx₀ hb dX12_mostAlike_132 ?_
          refine lv_iload hx₀ hb dX12_mostAlike_133 (lv_at hl 2 rfl) ?_
          refine va_iast hx₀ hb hK hP hD hS 2 0 rfl rfl (vp_in_iff.mpr (lf_g_fliesTold_2 p1 hh9)) dX12_mostAlike_135 ?_
          clear hP hD hS
          intro H locs hP hD hS
          replace hP := k_w2 (wt := [(kX12 hm vFo vSi vIt vMo la vBy vTy mi vMi pn vPs gn vGs fn vFt le vTo knz3 fez3 enz3 ca anz3 coz3 vPr vSt vFn sn vSg vAl dr), (kAI vMi cI 24 qMi), (kAI vPs cI 32 (upd qwz3 ((4 * p1) + 1).toNatClampNeg (qPs ((4 * p1) + 1).toNatClampNeg))), (kAI vGs cI 16 qGs), (kAI vTo cI 96 qtz3), (kAI vPr cI 2 qpz3), (kAI vSt cI 2 qsz3), (kAI vFn cI 2 qfz3), (kAI vFt cI 32 qFt), (kAI vSg cI 16 qSg), (kAI vAl cI 25 qaz3)]) hP hD rfl
          replace hD := hP.2
          replace hP := hP.1
          refine lv_iload hx₀ hb dX12_mostAlike_136 (lv_at hl 1 rfl) ?_
          obtain ⟨hP9, hD9⟩ := k_c2 (wc := [(kX12 hm vFo vSi vIt vMo la vBy vTy mi vMi pn vPs gn vGs fn vFt le vTo knz3 fez3 enz3 ca anz3 coz3 vPr vSt vFn sn vSg vAl dr), (kAI vMi cI 24 qMi), (kAI vPs cI 32 (upd qwz3 ((4 * p1) + 1).toNatClampNeg (qPs ((4 * p1) + 1).toNatClampNeg))), (kAI vGs cI 16 qGs), (kAI vTo cI 96 qtz3), (kAI vPr cI 2 qpz3), (kAI vSt cI 2 qsz3), (kAI vFn cI 2 qfz3), (kAI vFt cI 32 qFt), (kAI vSg cI 16 qSg), (kAI vAl cI 25 qaz3)]) hP hD [0, 1, 2, 3, 4, 5, 6, 7, 8, 9, 10] (by decide +kernel) rfl
          exact W.iret (v := moz3) hx₀ hb hr (fun t₀ ht hW => ⟨⟨moz3, (k_fn [knz3, fez3, enz3, anz3, coz3], k_fa [qtz3, qpz3, qsz3, qfz3, upd qwz3 ((4 * p1) + 1).toNatClampNeg (qPs ((4 * p1) + 1).toNatClampNeg), qaz3], k_fl [], k_fL [], k_fp []), rfl, ⟨(kMa_e hiz3_2 (c_4)), hiz3_3, hiz3_4, hiz3_5, hiz3_6, (k_of_e hiz3_1)⟩, by rw [ht]; exact hP9, va_K.moved hW.alike hK, hD9⟩, hS.F ht⟩) hS.2.2 dX12_mostAlike_138
        · refine lv_iload_n hx₀ hb dX12_mostAlike_49 rfl (lv_at hl 6 rfl) ?_
          refine lv_iload hx₀ hb dX12_mostAlike_50 (lv_at hl 0 rfl) ?_
          obtain ⟨hPc, hDc, hFc, hC⟩ := k_cw (wc := []) hP hD hS hA [] (by decide +kernel) rfl
          refine va_calli (va_runS (As := [.int so, .int clz3]) (rest := []) ⟨hx₀, hb, hml, hown, hts⟩ (g_isIn l dC dI cI cJ cQ H.size so clz3) (va_cwS 2 hts (kGS wd_560 wd_558 wd_559 wd_5) rfl rfl rfl (by decide +kernel) ⟨Nat.le_of_ble_eq_true rfl, Nat.le_of_ble_eq_true rfl⟩) (k_preS hK hPc hDc hN) rfl rfl hl.1 rfl (lv_room (Nat.le_of_ble_eq_true rfl)) dX12_mostAlike_52 ⟨by decide +kernel, by decide +kernel⟩) hS (fun q _ h => hFc q h) hFc (fun r_5 u₀ t₀ H1 locs ht hvm hw hB hz1 hk1 hS => ?_)
          obtain ⟨hP1, hK1, hD1⟩ := hB
          rw [ht] at hP1
          have hJ := k_jn (wr := [(kX12 hm vFo vSi vIt vMo la vBy vTy mi vMi pn vPs gn vGs fn vFt le vTo knz3 fez3 enz3 ca anz3 coz3 vPr vSt vFn sn vSg vAl dr), (kAI vMi cI 24 qMi), (kAI vPs cI 32 qwz3), (kAI vGs cI 16 qGs), (kAI vTo cI 96 qtz3), (kAI vPr cI 2 qpz3), (kAI vSt cI 2 qsz3), (kAI vFn cI 2 qfz3), (kAI vFt cI 32 qFt), (kAI vSg cI 16 qSg), (kAI vAl cI 25 qaz3)]) (wt := [(kX12 hm vFo vSi vIt vMo la vBy vTy mi vMi pn vPs gn vGs fn vFt le vTo knz3 fez3 enz3 ca anz3 coz3 vPr vSt vFn sn vSg vAl dr), (kAI vMi cI 24 qMi), (kAI vPs cI 32 qwz3), (kAI vGs cI 16 qGs), (kAI vTo cI 96 qtz3), (kAI vPr cI 2 qpz3), (kAI vSt cI 2 qsz3), (kAI vFn cI 2 qfz3), (kAI vFt cI 32 qFt), (kAI vSg cI 16 qSg), (kAI vAl cI 25 qaz3)]) hP hD hC [0, 1, 2, 3, 4, 5, 6, 7, 8, 9, 10] rfl (by decide +kernel) (by decide +kernel) hk1 hFc hP1 hD1 rfl
          clear hP hD hPc hDc hFc hC hP1 hD1 hK1 hz1 hk1 hvm ht
          obtain ⟨hP, hD⟩ := hJ
          generalize H1 = H at hP hS ⊢
          try dsimp only at hw
          by_cases c_6 : ((so >>> (clz3 &&& 31)) &&& 1) = 1
          · rw [if_pos c_6] at hw
            refine k_topi (v := 1) hw ?_
            refine lv_if_eq (tgt := 118) hx₀ hb dX12_mostAlike_55 (by decide) (fun c9 => absurd c9 (by decide +kernel)) (fun _ => ?_)
            refine lv_aload_n hx₀ hb dX12_mostAlike_58 rfl (lv_at hl 3 rfl) ?_
            refine va_get (D := (dC, dI)) (ci := 11) (v := .ref vPs) (C := RX12) (T := TX12) (N := 30) hx₀ hb hts inlX12 hown hK hP 0 rfl rfl 10 (by decide) (hts (.fieldLink RX12 31 "BittenStickModel" "passenger" "[I") wd_122) (fun _ h9 => h9) rfl dX12_mostAlike_59 ?_
            refine lv_iconst (v := 4) hx₀ hb dX12_mostAlike_62 (by decide +kernel) ?_
            refine lv_iload_n hx₀ hb dX12_mostAlike_63 rfl (lv_at hl 4 rfl) ?_
            refine lv_imul hx₀ hb dX12_mostAlike_64 ?_
            refine lv_iconst (v := 1) hx₀ hb dX12_mostAlike_65 (by decide +kernel) ?_
            refine lv_iadd hx₀ hb dX12_mostAlike_66 ?_
            refine lv_iload hx₀ hb dX12_mostAlike_67 (lv_at hl 0 rfl) ?_
            refine va_iast hx₀ hb hK hP hD hS 2 0 rfl rfl (vp_in_iff.mpr (lf_g_fliesTold_2 p1 hh9)) dX12_mostAlike_69 ?_
            clear hP hD hS
            intro H locs hP hD hS
            replace hP := k_w2 (wt := [(kX12 hm vFo vSi vIt vMo la vBy vTy mi vMi pn vPs gn vGs fn vFt le vTo knz3 fez3 enz3 ca anz3 coz3 vPr vSt vFn sn vSg vAl dr), (kAI vMi cI 24 qMi), (kAI vPs cI 32 (upd qwz3 ((4 * p1) + 1).toNatClampNeg clz3)), (kAI vGs cI 16 qGs), (kAI vTo cI 96 qtz3), (kAI vPr cI 2 qpz3), (kAI vSt cI 2 qsz3), (kAI vFn cI 2 qfz3), (kAI vFt cI 32 qFt), (kAI vSg cI 16 qSg), (kAI vAl cI 25 qaz3)]) hP hD rfl
            replace hD := hP.2
            replace hP := hP.1
            refine lv_aload_n hx₀ hb dX12_mostAlike_70 rfl (lv_at hl 3 rfl) ?_
            refine lv_iload_n hx₀ hb dX12_mostAlike_71 rfl (lv_at hl 5 rfl) ?_
            obtain ⟨hPc, hDc, hFc, hC⟩ := k_cw (wc := [(kX12 hm vFo vSi vIt vMo la vBy vTy mi vMi pn vPs gn vGs fn vFt le vTo knz3 fez3 enz3 ca anz3 coz3 vPr vSt vFn sn vSg vAl dr), (kAI vMi cI 24 qMi), (kAI vPs cI 32 (upd qwz3 ((4 * p1) + 1).toNatClampNeg clz3)), (kAI vGs cI 16 qGs), (kAI vTo cI 96 qtz3), (kAI vPr cI 2 qpz3), (kAI vSt cI 2 qsz3), (kAI vFn cI 2 qfz3), (kAI vFt cI 32 qFt)]) hP hD hS hA [0, 1, 2, 3, 4, 5, 6, 7, 8] (by decide +kernel) rfl
            refine va_callv (va_runV (As := [.int f1]) (rest := []) ⟨hx₀, hb, hml, hown, hts⟩ (e_fliesTold l dC dI cI cJ cQ H.size hm f1 vFo vSi vIt vMo la vBy vTy mi vMi pn vPs gn vGs fn vFt le vTo knz3 fez3 enz3 ca anz3 coz3 vPr vSt vFn sn vSg vAl dr qMi (upd qwz3 ((4 * p1) + 1).toNatClampNeg clz3) qGs qtz3 qpz3 qsz3 qfz3 qFt (hh0) (hh1) (hh2) (hiz3_3) (hh10) (k_tm_u (hh1.2) hh9 hiz3_1 hh11) (hh12) (hh13)) (cwV 1 hts (kGV wd_536 wd_533 wd_534 wd_535 wd_5) rfl rfl rfl (by decide +kernel) ⟨Nat.le_of_ble_eq_true rfl, Nat.le_of_ble_eq_true rfl⟩) (k_preV11 (q0 := 0) hK hPc hDc hN rfl) rfl rfl hl.1 rfl (lv_room (Nat.le_of_ble_eq_true rfl)) dX12_mostAlike_72 ⟨by decide +kernel, by decide +kernel⟩) hS (fun q _ h => hFc q h) hFc (fun u₀ t₀ H1 locs ht hvm hw hB hz1 hk1 hS => ?_)
            obtain ⟨g_8, ga_9, gl_10, gb_11, gp_12⟩ := u₀
            obtain ⟨hP1, hK1, hD1⟩ := hB
            rw [ht] at hP1
            have hJ := k_jn (wr := [(kAI vSg cI 16 qSg), (kAI vAl cI 25 qaz3)]) (wt := [(kAI vSg cI 16 qSg), (kAI vAl cI 25 qaz3), (kX12 hm vFo vSi vIt vMo la vBy vTy mi vMi pn vPs gn vGs fn vFt le vTo (g_8 0) (g_8 1) (g_8 2) ca (g_8 3) (g_8 4) vPr vSt vFn sn vSg vAl dr), (kAI vMi cI 24 qMi), (kAI vPs cI 32 (upd qwz3 ((4 * p1) + 1).toNatClampNeg clz3)), (kAI vGs cI 16 qGs), (kAI vTo cI 96 (ga_9 0)), (kAI vPr cI 2 (ga_9 1)), (kAI vSt cI 2 (ga_9 2)), (kAI vFn cI 2 (ga_9 3)), (kAI vFt cI 32 qFt)]) hP hD hC [9, 10] rfl (by decide +kernel) (by decide +kernel) hk1 hFc hP1 hD1 rfl
            clear hP hD hPc hDc hFc hC hP1 hD1 hK1 hz1 hk1 hvm ht
            obtain ⟨hP, hD⟩ := hJ
            generalize H1 = H at hP hS ⊢
            try dsimp only at hw
            obtain ⟨c_13, c_14, c_15, c_16, c_17⟩ := hw
            refine lv_aload_n hx₀ hb dX12_mostAlike_75 rfl (lv_at hl 3 rfl) ?_
            refine va_get (D := (dC, dI)) (ci := 11) (v := .ref vAl) (C := RX12) (T := TX12) (N := 30) hx₀ hb hts inlX12 hown hK hP 2 rfl rfl 28 (by decide) (hts (.fieldLink RX12 55 "BittenStickModel" "alike" "[I") wd_130) (fun _ h9 => h9) rfl dX12_mostAlike_76 ?_
            refine lv_aload_n hx₀ hb dX12_mostAlike_79 rfl (lv_at hl 3 rfl) ?_
            refine va_get (D := (dC, dI)) (ci := 11) (v := .int (g_8 1)) (C := RX12) (T := TX12) (N := 30) hx₀ hb hts inlX12 hown hK hP 2 rfl rfl 18 (by decide) (hts (.fieldLink RX12 193 "BittenStickModel" "fell" "I") wd_542) (fun _ h9 => h9) rfl dX12_mostAlike_80 ?_
            refine lv_dup2_11 hx₀ hb dX12_mostAlike_83 rfl rfl ?_
            refine va_iald hx₀ hb hK hP 1 0 rfl rfl (vp_in_iff.mpr (lf_g_mostAlike_1 (g_8 1) (g_8 2) (g_8 0) c_14 c_15 c_16)) dX12_mostAlike_84 ?_
            refine lv_topi (fun y_18 ey_18 => ?_)
            refine lv_iconst (v := 1) hx₀ hb dX12_mostAlike_85 (by decide +kernel) ?_
            refine lv_iadd hx₀ hb dX12_mostAlike_86 ?_
            refine va_iast hx₀ hb hK hP hD hS 1 0 rfl rfl (vp_in_iff.mpr (lf_g_mostAlike_1 (g_8 1) (g_8 2) (g_8 0) c_14 c_15 c_16)) dX12_mostAlike_87 ?_
            clear hP hD hS
            intro H locs hP hD hS
            replace hP := k_w2 (wt := [(kAI vSg cI 16 qSg), (kAI vAl cI 25 (upd qaz3 (g_8 1).toNatClampNeg (y_18 + 1))), (kX12 hm vFo vSi vIt vMo la vBy vTy mi vMi pn vPs gn vGs fn vFt le vTo (g_8 0) (g_8 1) (g_8 2) ca (g_8 3) (g_8 4) vPr vSt vFn sn vSg vAl dr), (kAI vMi cI 24 qMi), (kAI vPs cI 32 (upd qwz3 ((4 * p1) + 1).toNatClampNeg clz3)), (kAI vGs cI 16 qGs), (kAI vTo cI 96 (ga_9 0)), (kAI vPr cI 2 (ga_9 1)), (kAI vSt cI 2 (ga_9 2)), (kAI vFn cI 2 (ga_9 3)), (kAI vFt cI 32 qFt)]) hP hD rfl
            replace hD := hP.2
            replace hP := hP.1
            refine lv_aload_n hx₀ hb dX12_mostAlike_88 rfl (lv_at hl 3 rfl) ?_
            refine va_get (D := (dC, dI)) (ci := 11) (v := .ref vAl) (C := RX12) (T := TX12) (N := 30) hx₀ hb hts inlX12 hown hK hP 2 rfl rfl 28 (by decide) (hts (.fieldLink RX12 55 "BittenStickModel" "alike" "[I") wd_130) (fun _ h9 => h9) rfl dX12_mostAlike_89 ?_
            refine lv_aload_n hx₀ hb dX12_mostAlike_92 rfl (lv_at hl 3 rfl) ?_
            refine va_get (D := (dC, dI)) (ci := 11) (v := .int (g_8 1)) (C := RX12) (T := TX12) (N := 30) hx₀ hb hts inlX12 hown hK hP 2 rfl rfl 18 (by decide) (hts (.fieldLink RX12 193 "BittenStickModel" "fell" "I") wd_542) (fun _ h9 => h9) rfl dX12_mostAlike_93 ?_
            refine va_iald hx₀ hb hK hP 1 0 rfl rfl (vp_in_iff.mpr (lf_g_mostAlike_1 (g_8 1) (g_8 2) (g_8 0) c_14 c_15 c_16)) dX12_mostAlike_96 ?_
            refine k_topi (v := y_18 + 1) pk_us ?_
            refine lv_iload hx₀ hb dX12_mostAlike_97 (lv_at hl 1 rfl) ?_
            refine lv_icmp_le (tgt := 114) hx₀ hb dX12_mostAlike_99 (by decide) (fun c_19 => ?_) (fun c_19 => ?_)
            · refine lv_iload hx₀ hb dX12_mostAlike_114 (lv_at hl 1 rfl) ?_
              refine lv_istore (lv' := [(5, .int moz3), (6, .int clz3), (4, .int (qPs ((4 * p1) + 1).toNatClampNeg)), (0, .ref hm), (1, .int p1), (2, .int f1), (3, .int so)]) hx₀ hb dX12_mostAlike_116 hl (by decide) rfl (fun ls hl => ?_)
              refine lv_iinc (v := clz3 + 1) (lv' := [(6, .int (clz3 + 1)), (5, .int moz3), (4, .int (qPs ((4 * p1) + 1).toNatClampNeg)), (0, .ref hm), (1, .int p1), (2, .int f1), (3, .int so)]) hx₀ hb dX12_mostAlike_118 hl (k := 1) rfl rfl (by decide) rfl (fun ls hl => ?_)
              refine lv_goto (tgt := 42) hx₀ hb dX12_mostAlike_121 (by decide) ?_
              exact ihz3 _ (lf_g_soresOf_2 clz3 jz3 hiz3_0 hjz3 c_4) moz3 (clz3 + 1) (g_8 0) (g_8 1) (g_8 2) (g_8 3) (g_8 4) (ga_9 0) (ga_9 1) (ga_9 2) (ga_9 3) (upd qwz3 ((4 * p1) + 1).toNatClampNeg clz3) (upd qaz3 (g_8 1).toNatClampNeg (y_18 + 1)) _ _ _ (lf_g_soresOf_1 clz3 jz3 hiz3_0 hjz3 c_4) (k_of_s hiz3_1) (kMa_y hiz3_2 (c_4) c_6 (by have h9 := ((kO_done c_17)).1; rw [k_of_u hiz3_1] at h9; exact h9) ey_18 ((if_neg (Int32.not_lt.mpr c_19)).symm)) (c_13) (c_14) (c_15) (c_16) rfl (hP.sub [2, 3, 4, 5, 6, 7, 8, 9, 10, 0, 1] rfl) (hD.sub [2, 3, 4, 5, 6, 7, 8, 9, 10, 0, 1] (by decide +kernel) rfl) hS (lv_sub hl [0, 1, 2, 3, 4, 5, 6] rfl)
            · refine lv_aload_n hx₀ hb dX12_mostAlike_102 rfl (lv_at hl 3 rfl) ?_
              refine va_get (D := (dC, dI)) (ci := 11) (v := .ref vAl) (C := RX12) (T := TX12) (N := 30) hx₀ hb hts inlX12 hown hK hP 2 rfl rfl 28 (by decide) (hts (.fieldLink RX12 55 "BittenStickModel" "alike" "[I") wd_130) (fun _ h9 => h9) rfl dX12_mostAlike_103 ?_
              refine lv_aload_n hx₀ hb dX12_mostAlike_106 rfl (lv_at hl 3 rfl) ?_
              refine va_get (D := (dC, dI)) (ci := 11) (v := .int (g_8 1)) (C := RX12) (T := TX12) (N := 30) hx₀ hb hts inlX12 hown hK hP 2 rfl rfl 18 (by decide) (hts (.fieldLink RX12 193 "BittenStickModel" "fell" "I") wd_542) (fun _ h9 => h9) rfl dX12_mostAlike_107 ?_
              refine va_iald hx₀ hb hK hP 1 0 rfl rfl (vp_in_iff.mpr (lf_g_mostAlike_1 (g_8 1) (g_8 2) (g_8 0) c_14 c_15 c_16)) dX12_mostAlike_110 ?_
              refine k_topi (v := y_18 + 1) pk_us ?_
              refine lv_goto (tgt := 116) hx₀ hb dX12_mostAlike_111 (by decide) ?_
              refine lv_istore (lv' := [(5, .int (y_18 + 1)), (6, .int clz3), (4, .int (qPs ((4 * p1) + 1).toNatClampNeg)), (0, .ref hm), (1, .int p1), (2, .int f1), (3, .int so)]) hx₀ hb dX12_mostAlike_116 hl (by decide) rfl (fun ls hl => ?_)
              refine lv_iinc (v := clz3 + 1) (lv' := [(6, .int (clz3 + 1)), (5, .int (y_18 + 1)), (4, .int (qPs ((4 * p1) + 1).toNatClampNeg)), (0, .ref hm), (1, .int p1), (2, .int f1), (3, .int so)]) hx₀ hb dX12_mostAlike_118 hl (k := 1) rfl rfl (by decide) rfl (fun ls hl => ?_)
              refine lv_goto (tgt := 42) hx₀ hb dX12_mostAlike_121 (by decide) ?_
              exact ihz3 _ (lf_g_soresOf_2 clz3 jz3 hiz3_0 hjz3 c_4) (y_18 + 1) (clz3 + 1) (g_8 0) (g_8 1) (g_8 2) (g_8 3) (g_8 4) (ga_9 0) (ga_9 1) (ga_9 2) (ga_9 3) (upd qwz3 ((4 * p1) + 1).toNatClampNeg clz3) (upd qaz3 (g_8 1).toNatClampNeg (y_18 + 1)) _ _ _ (lf_g_soresOf_1 clz3 jz3 hiz3_0 hjz3 c_4) (k_of_s hiz3_1) (kMa_y hiz3_2 (c_4) c_6 (by have h9 := ((kO_done c_17)).1; rw [k_of_u hiz3_1] at h9; exact h9) ey_18 ((if_pos (Int32.not_le.mp c_19)).symm)) (c_13) (c_14) (c_15) (c_16) rfl (hP.sub [2, 3, 4, 5, 6, 7, 8, 9, 10, 0, 1] rfl) (hD.sub [2, 3, 4, 5, 6, 7, 8, 9, 10, 0, 1] (by decide +kernel) rfl) hS (lv_sub hl [0, 1, 2, 3, 4, 5, 6] rfl)
          rw [if_neg c_6] at hw
          refine k_topi (v := 0) hw ?_
          refine lv_if_eq (tgt := 118) hx₀ hb dX12_mostAlike_55 (by decide) (fun _ => ?_) (fun c9 => absurd (by decide +kernel) c9)
          refine lv_iinc (v := clz3 + 1) (lv' := [(6, .int (clz3 + 1)), (5, .int moz3), (4, .int (qPs ((4 * p1) + 1).toNatClampNeg)), (0, .ref hm), (1, .int p1), (2, .int f1), (3, .int so)]) hx₀ hb dX12_mostAlike_118 hl (k := 0) rfl rfl (by decide) rfl (fun ls hl => ?_)
          refine lv_goto (tgt := 42) hx₀ hb dX12_mostAlike_121 (by decide) ?_
          exact ihz3 _ (lf_g_soresOf_2 clz3 jz3 hiz3_0 hjz3 c_4) moz3 (clz3 + 1) knz3 fez3 enz3 anz3 coz3 qtz3 qpz3 qsz3 qfz3 qwz3 qaz3 _ _ _ (lf_g_soresOf_1 clz3 jz3 hiz3_0 hjz3 c_4) (hiz3_1) (kMa_n hiz3_2 (c_4) c_6) (hiz3_3) (hiz3_4) (hiz3_5) (hiz3_6) rfl (hP.sub [0, 1, 2, 3, 4, 5, 6, 7, 8, 9, 10] rfl) (hD.sub [0, 1, 2, 3, 4, 5, 6, 7, 8, 9, 10] (by decide +kernel) rfl) hS (lv_sub hl [0, 1, 2, 3, 4, 5, 6] rfl)
    · refine lv_aload_n hx₀ hb dX12_mostAlike_25 rfl (lv_at hl 3 rfl) ?_
      refine va_get (D := (dC, dI)) (ci := 11) (v := .ref vAl) (C := RX12) (T := TX12) (N := 30) hx₀ hb hts inlX12 hown hK hP 0 rfl rfl 28 (by decide) (hts (.fieldLink RX12 55 "BittenStickModel" "alike" "[I") wd_130) (fun _ h9 => h9) rfl dX12_mostAlike_26 ?_
      refine lv_iload hx₀ hb dX12_mostAlike_29 (lv_at hl 0 rfl) ?_
      refine lv_iconst (v := 0) hx₀ hb dX12_mostAlike_31 (by decide +kernel) ?_
      refine va_iast hx₀ hb hK hP hD hS 10 0 rfl rfl (vp_in_iff.mpr (lf_g_mostAlike_2 iz1 jz1 hiz1_0 hjz1 c_2)) dX12_mostAlike_32 ?_
      clear hP hD hS
      intro H locs hP hD hS
      replace hP := k_w2 (wt := [(kX12 hm vFo vSi vIt vMo la vBy vTy mi vMi pn vPs gn vGs fn vFt le vTo kn fe en ca an co vPr vSt vFn sn vSg vAl dr), (kAI vMi cI 24 qMi), (kAI vPs cI 32 qPs), (kAI vGs cI 16 qGs), (kAI vTo cI 96 qTo), (kAI vPr cI 2 qPr), (kAI vSt cI 2 qSt), (kAI vFn cI 2 qFn), (kAI vFt cI 32 qFt), (kAI vSg cI 16 qSg), (kAI vAl cI 25 (upd qaz1 iz1.toNatClampNeg 0))]) hP hD rfl
      replace hD := hP.2
      replace hP := hP.1
      refine lv_iinc (v := iz1 + 1) (lv' := [(6, .int (iz1 + 1)), (5, .int 0), (4, .int (qPs ((4 * p1) + 1).toNatClampNeg)), (0, .ref hm), (1, .int p1), (2, .int f1), (3, .int so)]) hx₀ hb dX12_mostAlike_33 hl (k := 0) rfl rfl (by decide) rfl (fun ls hl => ?_)
      refine lv_goto (tgt := 18) hx₀ hb dX12_mostAlike_36 (by decide) ?_
      exact ihz1 _ (lf_g_mostAlike_4 iz1 jz1 hiz1_0 hjz1 c_2) (iz1 + 1) (upd qaz1 iz1.toNatClampNeg 0) _ _ _ (lf_g_mostAlike_3 iz1 jz1 hiz1_0 hjz1 c_2) (k_zr_s (lf_e_most_2 iz1 jz1 hiz1_0 hjz1 c_2) hiz1_1) rfl (hP.sub [0, 1, 2, 3, 4, 5, 6, 7, 8, 9, 10] rfl) (hD.sub [0, 1, 2, 3, 4, 5, 6, 7, 8, 9, 10] (by decide +kernel) rfl) hS (lv_sub hl [0, 1, 2, 3, 4, 5, 6] rfl)
set_option maxHeartbeats 4000000 in
set_option maxRecDepth 100000 in
theorem e_askOf (l : Launch) (dC : Nat → ClassId) (dI : Nat → Nat → Nat) (cI cJ cQ : ClassId) (sz : Nat) (hm : Nat) (p1 : Int32) (vFo : Nat) (vSi : Nat) (vIt : Nat) (vMo : Nat) (la : Int32) (vBy : Nat) (vTy : Nat) (mi : Int32) (vMi : Nat) (pn : Int32) (vPs : Nat) (gn : Int32) (vGs : Nat) (fn : Int32) (vFt : Nat) (le : Int32) (vTo : Nat) (kn : Int32) (fe : Int32) (en : Int32) (ca : Int32) (an : Int32) (co : Int32) (vPr : Nat) (vSt : Nat) (vFn : Nat) (sn : Int32) (vSg : Nat) (vAl : Nat) (dr : Int32) (qMi : Nat → Int32) (qPs : Nat → Int32) (qGs : Nat → Int32) (qTo : Nat → Int32) (qPr : Nat → Int32) (qSt : Nat → Int32) (qFn : Nat → Int32) (qFt : Nat → Int32) (qSg : Nat → Int32) (qAl : Nat → Int32) (hh0 : 0 ≤ mi ∧ mi ≤ 24) (hh1 : 0 ≤ pn ∧ pn ≤ 8) (hh2 : 0 ≤ gn ∧ gn ≤ 8) (hh3 : k_bd 2 0 7 qPr) (hh4 : 0 ≤ fe ∧ fe ≤ 24) (hh5 : en = 0 ∨ kn = 0 ∨ fe ≤ 23) (hh6 : 0 ≤ kn ∧ kn ≤ 24) (hh7 : 0 ≤ fn ∧ fn ≤ 8) (hh8 : 0 ≤ sn ∧ sn ≤ 8) (hh9 : 0 ≤ p1 ∧ p1 ≤ 7) (hh10 : k_tm pn qPs) (hh11 : ca = 16777215) (hh12 : k_bd 32 0 9 qFt) : Met l yX12_askOf (kW yX12_askOf cX12_askOf 8 (some .int)) { frames := 7, cells := 0, slots := 0, locals := 167 } (kPre dC dI cI cJ cQ sz [.ref hm, .int p1] [(kX12 hm vFo vSi vIt vMo la vBy vTy mi vMi pn vPs gn vGs fn vFt le vTo kn fe en ca an co vPr vSt vFn sn vSg vAl dr), (kAI vMi cI 24 qMi), (kAI vPs cI 32 qPs), (kAI vGs cI 16 qGs), (kAI vTo cI 96 qTo), (kAI vPr cI 2 qPr), (kAI vSt cI 2 qSt), (kAI vFn cI 2 qFn), (kAI vFt cI 32 qFt), (kAI vSg cI 16 qSg), (kAI vAl cI 25 qAl)]) (va_Qi (fun (r : Int32) (u : kS) => (r = (kAq (fun x2 => (kMa (fun x1 => kOR qMi (upd qPs ((4 * p1) + 1).toNatClampNeg x1) qGs mi pn gn le (kP0 qFt x2) (kP1 qFt x2) (kP2 qFt x2) (kP1 (upd qPs ((4 * p1) + 1).toNatClampNeg x1) (kP0 qFt x2)) (fun x8 => if x8 < (24 : Int32) then (kP3 qFt x2) else (0 : Int32))) (kSo (fun x1 => (kAl fn (fun x9 => kOR qMi (upd qPs ((4 * p1) + 1).toNatClampNeg x1) qGs mi pn gn le (kP0 qFt x9) (kP1 qFt x9) (kP2 qFt x9) (kP1 (upd qPs ((4 * p1) + 1).toNatClampNeg x1) (kP0 qFt x9)) (fun x8 => if x8 < (24 : Int32) then (kP3 qFt x9) else (0 : Int32))) (fun x9 => qSg (2 * x9).toNatClampNeg) (fun x9 => qSg ((2 * x9) + 1).toNatClampNeg) (kfu sn 0) 0)) (kfu 6 0) 0 0) (kfu 6 0) 0 (fun _ => 0) 0)) (kfu fn 0) 0 (-1) 0)) ∧ (k_bd 2 0 7 (u.2.1 1)) ∧ (0 ≤ (u.1 1) ∧ (u.1 1) ≤ 24) ∧ ((u.1 2) = 0 ∨ (u.1 0) = 0 ∨ (u.1 1) ≤ 23) ∧ (0 ≤ (u.1 0) ∧ (u.1 0) ≤ 24)) (fun (u : kS) t₀ => kB dC dI cI cJ cQ (va_A [(kX12 hm vFo vSi vIt vMo la vBy vTy mi vMi pn vPs gn vGs fn vFt le vTo kn fe en ca an co vPr vSt vFn sn vSg vAl dr), (kAI vMi cI 24 qMi), (kAI vPs cI 32 qPs), (kAI vGs cI 16 qGs), (kAI vTo cI 96 qTo), (kAI vPr cI 2 qPr), (kAI vSt cI 2 qSt), (kAI vFn cI 2 qFn), (kAI vFt cI 32 qFt), (kAI vSg cI 16 qSg), (kAI vAl cI 25 qAl)] sz) [(kX12 hm vFo vSi vIt vMo la vBy vTy mi vMi pn vPs gn vGs fn vFt le vTo (u.1 0) (u.1 1) (u.1 2) ca (u.1 3) (u.1 4) vPr vSt vFn sn vSg vAl dr), (kAI vMi cI 24 qMi), (kAI vPs cI 32 qPs), (kAI vGs cI 16 qGs), (kAI vTo cI 96 (u.2.1 0)), (kAI vPr cI 2 (u.2.1 1)), (kAI vSt cI 2 (u.2.1 2)), (kAI vFn cI 2 (u.2.1 3)), (kAI vFt cI 32 qFt), (kAI vSg cI 16 qSg), (kAI vAl cI 25 (u.2.1 4))] t₀) (va_A [(kX12 hm vFo vSi vIt vMo la vBy vTy mi vMi pn vPs gn vGs fn vFt le vTo kn fe en ca an co vPr vSt vFn sn vSg vAl dr), (kAI vMi cI 24 qMi), (kAI vPs cI 32 qPs), (kAI vGs cI 16 qGs), (kAI vTo cI 96 qTo), (kAI vPr cI 2 qPr), (kAI vSt cI 2 qSt), (kAI vFn cI 2 qFn), (kAI vFt cI 32 qFt), (kAI vSg cI 16 qSg), (kAI vAl cI 25 qAl)] sz)) 0 0 (va_A [(kX12 hm vFo vSi vIt vMo la vBy vTy mi vMi pn vPs gn vGs fn vFt le vTo kn fe en ca an co vPr vSt vFn sn vSg vAl dr), (kAI vMi cI 24 qMi), (kAI vPs cI 32 qPs), (kAI vGs cI 16 qGs), (kAI vTo cI 96 qTo), (kAI vPr cI 2 qPr), (kAI vSt cI 2 qSt), (kAI vFn cI 2 qFn), (kAI vFt cI 32 qFt), (kAI vSg cI 16 qSg), (kAI vAl cI 25 qAl)] sz) := by
  refine Met.ofW (cc := cX12_askOf) (maxL := 8) (ret := (some .int)) (by decide) rfl ?_
  intro p₀ e₀ s₀ m₀ args below meth c₀ s₁ B hml hv₀
  obtain ⟨rfl, hsz, hP, hK, hD0, hN⟩ := hv₀
  have hx₀ := B.exec
  have hb := B.bytes
  have hr := B.returns
  have hts := atoms_spec (ws := (kW yX12_askOf cX12_askOf 8 (some .int))) B.pre
  have hts := fun w h => hts w (List.mem_cons_of_mem _ h)
  have hown : s₀.vm.findClass RX12 = some m₀.cls := findClass_of_methodNamed B.named
  have hlocks := B.notSynchronized
  subst hsz
  have hD := hD0.self (sz := s₀.heap.size)
  generalize hAe : va_A [(kX12 hm vFo vSi vIt vMo la vBy vTy mi vMi pn vPs gn vGs fn vFt le vTo kn fe en ca an co vPr vSt vFn sn vSg vAl dr), (kAI vMi cI 24 qMi), (kAI vPs cI 32 qPs), (kAI vGs cI 16 qGs), (kAI vTo cI 96 qTo), (kAI vPr cI 2 qPr), (kAI vSt cI 2 qSt), (kAI vFn cI 2 qFn), (kAI vFt cI 32 qFt), (kAI vSg cI 16 qSg), (kAI vAl cI 25 qAl)] s₀.heap.size = A at hD ⊢
  have hA : ∀ q : Nat, s₀.heap.size ≤ q → A q := fun q h => by rw [← hAe]; exact Or.inr h
  have hS : va_S A s₀.heap s₀.heap [] := va_S.rf
  have hP : va_P (dC, dI) vwCl [(kX12 hm vFo vSi vIt vMo la vBy vTy mi vMi pn vPs gn vGs fn vFt le vTo kn fe en ca an co vPr vSt vFn sn vSg vAl dr), (kAI vMi cI 24 qMi), (kAI vPs cI 32 qPs), (kAI vGs cI 16 qGs), (kAI vTo cI 96 qTo), (kAI vPr cI 2 qPr), (kAI vSt cI 2 qSt), (kAI vFn cI 2 qFn), (kAI vFt cI 32 qFt), (kAI vSg cI 16 qSg), (kAI vAl cI 25 qAl)] s₀.heap := hP
  have hl := lv_entry ([.ref hm, .int p1]) (n := 8) (Nat.le_of_ble_eq_true rfl)
  rw [lg_entry_eq]
  generalize (lg_sl ([.ref hm, .int p1]) ++ List.replicate (8 - (lg_sl ([.ref hm, .int p1])).length) Slot.unset).toArray = ls at hl ⊢
  have hl : lv_has ls 8 [(0, .ref hm), (1, .int p1)] := hl
  obtain ⟨H, hH⟩ : ∃ z : Heap, z = s₀.heap := ⟨_, rfl⟩
  rw [← hH] at hP
  have hS : va_S A s₀.heap H [] := by rw [hH]; exact hS
  refine k_heap hH ?_
  have hD : va_D A [(kX12 hm vFo vSi vIt vMo la vBy vTy mi vMi pn vPs gn vGs fn vFt le vTo kn fe en ca an co vPr vSt vFn sn vSg vAl dr), (kAI vMi cI 24 qMi), (kAI vPs cI 32 qPs), (kAI vGs cI 16 qGs), (kAI vTo cI 96 qTo), (kAI vPr cI 2 qPr), (kAI vSt cI 2 qSt), (kAI vFn cI 2 qFn), (kAI vFt cI 32 qFt), (kAI vSg cI 16 qSg), (kAI vAl cI 25 qAl)] := hD
  obtain ⟨locs, hlo⟩ : ∃ z : List Loc, z = [] := ⟨_, rfl⟩
  rw [← hlo] at hS ⊢
  clear hlo hH hAe hD0
  refine lv_aload_n hx₀ hb dX12_askOf_0 rfl (lv_at hl 0 rfl) ?_
  refine lv_iload_n hx₀ hb dX12_askOf_1 rfl (lv_at hl 1 rfl) ?_
  obtain ⟨hPc, hDc, hFc, hC⟩ := k_cw (wc := [(kX12 hm vFo vSi vIt vMo la vBy vTy mi vMi pn vPs gn vGs fn vFt le vTo kn fe en ca an co vPr vSt vFn sn vSg vAl dr), (kAI vMi cI 24 qMi), (kAI vPs cI 32 qPs), (kAI vGs cI 16 qGs), (kAI vTo cI 96 qTo), (kAI vPr cI 2 qPr), (kAI vSt cI 2 qSt), (kAI vFn cI 2 qFn), (kAI vFt cI 32 qFt), (kAI vSg cI 16 qSg)]) hP hD hS hA [0, 1, 2, 3, 4, 5, 6, 7, 8, 9] (by decide +kernel) rfl
  refine va_calli (va_runV (As := [.int p1]) (rest := []) ⟨hx₀, hb, hml, hown, hts⟩ (e_soresOf l dC dI cI cJ cQ H.size hm p1 vFo vSi vIt vMo la vBy vTy mi vMi pn vPs gn vGs fn vFt le vTo kn fe en ca an co vPr vSt vFn sn vSg vAl dr qMi qPs qGs qTo qPr qSt qFn qFt qSg (hh0) (hh1) (hh2) (hh3) (hh4) (hh5) (hh6) (hh7) (hh8) (hh9) (hh10) (hh11) (hh12)) (cwV 1 hts (kGV wd_721 wd_718 wd_719 wd_720 wd_5) rfl rfl rfl (by decide +kernel) ⟨Nat.le_of_ble_eq_true rfl, Nat.le_of_ble_eq_true rfl⟩) (k_preV11 (q0 := 0) hK hPc hDc hN rfl) rfl rfl hl.1 rfl (lv_room (Nat.le_of_ble_eq_true rfl)) dX12_askOf_2 ⟨by decide +kernel, by decide +kernel⟩) hS (fun q _ h => hFc q h) hFc (fun r_1 u₀ t₀ H1 locs ht hvm hw hB hz1 hk1 hS => ?_)
  obtain ⟨g_2, ga_3, gl_4, gb_5, gp_6⟩ := u₀
  obtain ⟨hP1, hK1, hD1⟩ := hB
  rw [ht] at hP1
  have hJ := k_jn (wr := [(kAI vAl cI 25 qAl)]) (wt := [(kAI vAl cI 25 qAl), (kX12 hm vFo vSi vIt vMo la vBy vTy mi vMi pn vPs gn vGs fn vFt le vTo (g_2 0) (g_2 1) (g_2 2) ca (g_2 3) (g_2 4) vPr vSt vFn sn vSg vAl dr), (kAI vMi cI 24 qMi), (kAI vPs cI 32 (ga_3 4)), (kAI vGs cI 16 qGs), (kAI vTo cI 96 (ga_3 0)), (kAI vPr cI 2 (ga_3 1)), (kAI vSt cI 2 (ga_3 2)), (kAI vFn cI 2 (ga_3 3)), (kAI vFt cI 32 qFt), (kAI vSg cI 16 qSg)]) hP hD hC [10] rfl (by decide +kernel) (by decide +kernel) hk1 hFc hP1 hD1 rfl
  clear hP hD hPc hDc hFc hC hP1 hD1 hK1 hz1 hk1 hvm ht
  obtain ⟨hP, hD⟩ := hJ
  generalize H1 = H at hP hS ⊢
  try dsimp only at hw
  obtain ⟨c_7, c_8, c_9, c_10, c_11, c_12⟩ := hw
  rw [c_12] at hP hD
  replace hP := k_w2 (wt := [(kAI vAl cI 25 qAl), (kX12 hm vFo vSi vIt vMo la vBy vTy mi vMi pn vPs gn vGs fn vFt le vTo (g_2 0) (g_2 1) (g_2 2) ca (g_2 3) (g_2 4) vPr vSt vFn sn vSg vAl dr), (kAI vMi cI 24 qMi), (kAI vPs cI 32 qPs), (kAI vGs cI 16 qGs), (kAI vTo cI 96 (ga_3 0)), (kAI vPr cI 2 (ga_3 1)), (kAI vSt cI 2 (ga_3 2)), (kAI vFn cI 2 (ga_3 3)), (kAI vFt cI 32 qFt), (kAI vSg cI 16 qSg)]) hP hD rfl
  replace hD := hP.2
  replace hP := hP.1
  refine lv_istore_n (lv' := [(2, .int r_1), (0, .ref hm), (1, .int p1)]) hx₀ hb dX12_askOf_5 rfl hl (by decide) rfl (fun ls hl => ?_)
  refine lv_iconst (v := (-1)) hx₀ hb dX12_askOf_6 (by decide +kernel) ?_
  refine lv_istore_n (lv' := [(3, .int (-1)), (2, .int r_1), (0, .ref hm), (1, .int p1)]) hx₀ hb dX12_askOf_7 rfl hl (by decide) rfl (fun ls hl => ?_)
  refine lv_iconst (v := 0) hx₀ hb dX12_askOf_8 (by decide +kernel) ?_
  refine lv_istore (lv' := [(4, .int 0), (3, .int (-1)), (2, .int r_1), (0, .ref hm), (1, .int p1)]) hx₀ hb dX12_askOf_9 hl (by decide) rfl (fun ls hl => ?_)
  refine lv_iconst (v := 0) hx₀ hb dX12_askOf_11 (by decide +kernel) ?_
  refine lv_istore (lv' := [(5, .int 0), (4, .int 0), (3, .int (-1)), (2, .int r_1), (0, .ref hm), (1, .int p1)]) hx₀ hb dX12_askOf_12 hl (by decide) rfl (fun ls hl => ?_)
  refine (?keyz13 : ∀ (jz13 : Nat) (bez13 : Int32) (lsz13 : Int32) (fz13 : Int32) (knz13 : Int32) (fez13 : Int32) (enz13 : Int32) (anz13 : Int32) (coz13 : Int32) (qtz13 : Nat → Int32) (qpz13 : Nat → Int32) (qsz13 : Nat → Int32) (qfz13 : Nat → Int32) (qaz13 : Nat → Int32) (H : Heap) (locs : List Loc) (ls : Array Slot), (0 ≤ fz13 ∧ fz13 ≤ fn) → (k_kq (fun x2 => (kMa (fun x1 => kOR qMi (upd qPs ((4 * p1) + 1).toNatClampNeg x1) qGs mi pn gn le (kP0 qFt x2) (kP1 qFt x2) (kP2 qFt x2) (kP1 (upd qPs ((4 * p1) + 1).toNatClampNeg x1) (kP0 qFt x2)) (fun x8 => if x8 < (24 : Int32) then (kP3 qFt x2) else (0 : Int32))) (kSo (fun x1 => (kAl fn (fun x9 => kOR qMi (upd qPs ((4 * p1) + 1).toNatClampNeg x1) qGs mi pn gn le (kP0 qFt x9) (kP1 qFt x9) (kP2 qFt x9) (kP1 (upd qPs ((4 * p1) + 1).toNatClampNeg x1) (kP0 qFt x9)) (fun x8 => if x8 < (24 : Int32) then (kP3 qFt x9) else (0 : Int32))) (fun x9 => qSg (2 * x9).toNatClampNeg) (fun x9 => qSg ((2 * x9) + 1).toNatClampNeg) (kfu sn 0) 0)) (kfu 6 0) 0 0) (kfu 6 0) 0 (fun _ => 0) 0)) fn fz13 bez13 lsz13 (kAq (fun x2 => (kMa (fun x1 => kOR qMi (upd qPs ((4 * p1) + 1).toNatClampNeg x1) qGs mi pn gn le (kP0 qFt x2) (kP1 qFt x2) (kP2 qFt x2) (kP1 (upd qPs ((4 * p1) + 1).toNatClampNeg x1) (kP0 qFt x2)) (fun x8 => if x8 < (24 : Int32) then (kP3 qFt x2) else (0 : Int32))) (kSo (fun x1 => (kAl fn (fun x9 => kOR qMi (upd qPs ((4 * p1) + 1).toNatClampNeg x1) qGs mi pn gn le (kP0 qFt x9) (kP1 qFt x9) (kP2 qFt x9) (kP1 (upd qPs ((4 * p1) + 1).toNatClampNeg x1) (kP0 qFt x9)) (fun x8 => if x8 < (24 : Int32) then (kP3 qFt x9) else (0 : Int32))) (fun x9 => qSg (2 * x9).toNatClampNeg) (fun x9 => qSg ((2 * x9) + 1).toNatClampNeg) (kfu sn 0) 0)) (kfu 6 0) 0 0) (kfu 6 0) 0 (fun _ => 0) 0)) (kfu fn 0) 0 (-1) 0)) → (k_bd 2 0 7 qpz13) → (0 ≤ fez13 ∧ fez13 ≤ 24) → (enz13 = 0 ∨ knz13 = 0 ∨ fez13 ≤ 23) → (0 ≤ knz13 ∧ knz13 ≤ 24) → ((fn.toInt - fz13.toInt).toNat = jz13) → va_P (dC, dI) vwCl [(kAI vAl cI 25 qaz13), (kX12 hm vFo vSi vIt vMo la vBy vTy mi vMi pn vPs gn vGs fn vFt le vTo knz13 fez13 enz13 ca anz13 coz13 vPr vSt vFn sn vSg vAl dr), (kAI vMi cI 24 qMi), (kAI vPs cI 32 qPs), (kAI vGs cI 16 qGs), (kAI vTo cI 96 qtz13), (kAI vPr cI 2 qpz13), (kAI vSt cI 2 qsz13), (kAI vFn cI 2 qfz13), (kAI vFt cI 32 qFt), (kAI vSg cI 16 qSg)] H → va_D A [(kAI vAl cI 25 qaz13), (kX12 hm vFo vSi vIt vMo la vBy vTy mi vMi pn vPs gn vGs fn vFt le vTo knz13 fez13 enz13 ca anz13 coz13 vPr vSt vFn sn vSg vAl dr), (kAI vMi cI 24 qMi), (kAI vPs cI 32 qPs), (kAI vGs cI 16 qGs), (kAI vTo cI 96 qtz13), (kAI vPr cI 2 qpz13), (kAI vSt cI 2 qsz13), (kAI vFn cI 2 qfz13), (kAI vFt cI 32 qFt), (kAI vSg cI 16 qSg)] → va_S A s₀.heap H locs → lv_has ls 8 [(5, .int fz13), (4, .int lsz13), (3, .int bez13), (2, .int r_1), (0, .ref hm), (1, .int p1)] → W p₀ l e₀ _ s₀ m₀ _ below meth c₀ H locs _ _ _ (F0 m₀ 14 ls [])) _ (-1 : Int32) (0 : Int32) (0 : Int32) (g_2 0) (g_2 1) (g_2 2) (g_2 3) (g_2 4) _ _ _ _ _ H locs ls (show 0 ≤ (0 : Int32) ∧ (0 : Int32) ≤ fn from ⟨(by decide), hh7.1⟩) (rfl) (c_8) (c_9) (c_10) (c_11) rfl hP hD hS hl
  clear hP hD hS hl
  intro jz13
  induction jz13 using Nat.strongRecOn with
  | ind jz13 ihz13 =>
    intro bez13 lsz13 fz13 knz13 fez13 enz13 anz13 coz13 qtz13 qpz13 qsz13 qfz13 qaz13 H locs ls hiz13_0 hiz13_1 hiz13_2 hiz13_3 hiz13_4 hiz13_5 hjz13 hP hD hS hl
    refine lv_iload hx₀ hb dX12_askOf_14 (lv_at hl 0 rfl) ?_
    refine lv_aload_n hx₀ hb dX12_askOf_16 rfl (lv_at hl 4 rfl) ?_
    refine va_get (D := (dC, dI)) (ci := 11) (v := .int fn) (C := RX12) (T := TX12) (N := 30) hx₀ hb hts inlX12 hown hK hP 1 rfl rfl 13 (by decide) (hts (.fieldLink RX12 159 "BittenStickModel" "flights" "I") wd_364) (fun _ h9 => h9) rfl dX12_askOf_17 ?_
    refine lv_icmp_ge (tgt := 84) hx₀ hb dX12_askOf_20 (by decide) (fun c_14 => ?_) (fun c_14 => ?_)
    · refine lv_iload_n hx₀ hb dX12_askOf_84 rfl (lv_at hl 2 rfl) ?_
      obtain ⟨hP9, hD9⟩ := k_c2 (wc := [(kX12 hm vFo vSi vIt vMo la vBy vTy mi vMi pn vPs gn vGs fn vFt le vTo knz13 fez13 enz13 ca anz13 coz13 vPr vSt vFn sn vSg vAl dr), (kAI vMi cI 24 qMi), (kAI vPs cI 32 qPs), (kAI vGs cI 16 qGs), (kAI vTo cI 96 qtz13), (kAI vPr cI 2 qpz13), (kAI vSt cI 2 qsz13), (kAI vFn cI 2 qfz13), (kAI vFt cI 32 qFt), (kAI vSg cI 16 qSg), (kAI vAl cI 25 qaz13)]) hP hD [1, 2, 3, 4, 5, 6, 7, 8, 9, 10, 0] (by decide +kernel) rfl
      exact W.iret (v := bez13) hx₀ hb hr (fun t₀ ht hW => ⟨⟨bez13, (k_fn [knz13, fez13, enz13, anz13, coz13], k_fa [qtz13, qpz13, qsz13, qfz13, qaz13], k_fl [], k_fL [], k_fp []), rfl, ⟨(kAq_e hiz13_1 c_14), hiz13_2, hiz13_3, hiz13_4, hiz13_5⟩, by rw [ht]; exact hP9, va_K.moved hW.alike hK, hD9⟩, hS.F ht⟩) hS.2.2 dX12_askOf_85
    · refine lv_aload_n hx₀ hb dX12_askOf_23 rfl (lv_at hl 4 rfl) ?_
      refine lv_iload_n hx₀ hb dX12_askOf_24 rfl (lv_at hl 5 rfl) ?_
      refine lv_iload hx₀ hb dX12_askOf_25 (lv_at hl 0 rfl) ?_
      refine lv_iload_n hx₀ hb dX12_askOf_27 rfl (lv_at hl 3 rfl) ?_
      obtain ⟨hPc, hDc, hFc, hC⟩ := k_cw (wc := [(kX12 hm vFo vSi vIt vMo la vBy vTy mi vMi pn vPs gn vGs fn vFt le vTo knz13 fez13 enz13 ca anz13 coz13 vPr vSt vFn sn vSg vAl dr), (kAI vMi cI 24 qMi), (kAI vPs cI 32 qPs), (kAI vGs cI 16 qGs), (kAI vTo cI 96 qtz13), (kAI vPr cI 2 qpz13), (kAI vSt cI 2 qsz13), (kAI vFn cI 2 qfz13), (kAI vFt cI 32 qFt), (kAI vSg cI 16 qSg), (kAI vAl cI 25 qaz13)]) hP hD hS hA [1, 2, 3, 4, 5, 6, 7, 8, 9, 10, 0] (by decide +kernel) rfl
      refine va_calli (va_runV (As := [.int p1, .int fz13, .int r_1]) (rest := []) ⟨hx₀, hb, hml, hown, hts⟩ (m_most l dC dI cI cJ cQ H.size hm p1 fz13 r_1 vFo vSi vIt vMo la vBy vTy mi vMi pn vPs gn vGs fn vFt le vTo knz13 fez13 enz13 ca anz13 coz13 vPr vSt vFn sn vSg vAl dr qMi qPs qGs qtz13 qpz13 qsz13 qfz13 qFt qSg qaz13 (hh0) (hh1) (hh2) (hiz13_2) (hiz13_3) (hiz13_4) (hiz13_5) (hh7) (hh8) (hh9) (lf_g_farthestNow_1 fn fz13 jz13 hh7 hiz13_0 hjz13 c_14) (hh10) (hh11) (hh12)) (cwV 3 hts (kGV wd_759 wd_756 wd_757 wd_758 wd_5) rfl rfl rfl (by decide +kernel) ⟨Nat.le_of_ble_eq_true rfl, Nat.le_of_ble_eq_true rfl⟩) (k_preV11 (q0 := 0) hK hPc hDc hN rfl) rfl rfl hl.1 rfl (lv_room (Nat.le_of_ble_eq_true rfl)) dX12_askOf_28 ⟨by decide +kernel, by decide +kernel⟩) hS (fun q _ h => hFc q h) hFc (fun r_15 u₀ t₀ H1 locs ht hvm hw hB hz1 hk1 hS => ?_)
      obtain ⟨g_16, ga_17, gl_18, gb_19, gp_20⟩ := u₀
      obtain ⟨hP1, hK1, hD1⟩ := hB
      rw [ht] at hP1
      have hJ := k_jn (wr := []) (wt := [(kX12 hm vFo vSi vIt vMo la vBy vTy mi vMi pn vPs gn vGs fn vFt le vTo (g_16 0) (g_16 1) (g_16 2) ca (g_16 3) (g_16 4) vPr vSt vFn sn vSg vAl dr), (kAI vMi cI 24 qMi), (kAI vPs cI 32 (ga_17 4)), (kAI vGs cI 16 qGs), (kAI vTo cI 96 (ga_17 0)), (kAI vPr cI 2 (ga_17 1)), (kAI vSt cI 2 (ga_17 2)), (kAI vFn cI 2 (ga_17 3)), (kAI vFt cI 32 qFt), (kAI vSg cI 16 qSg), (kAI vAl cI 25 (ga_17 5))]) hP hD hC [] rfl (by decide +kernel) (by decide +kernel) hk1 hFc hP1 hD1 rfl
      clear hP hD hPc hDc hFc hC hP1 hD1 hK1 hz1 hk1 hvm ht
      obtain ⟨hP, hD⟩ := hJ
      generalize H1 = H at hP hS ⊢
      try dsimp only at hw
      obtain ⟨c_21, c_22, c_23, c_24, c_25, c_26⟩ := hw
      rw [c_26] at hP hD
      replace hP := k_w2 (wt := [(kX12 hm vFo vSi vIt vMo la vBy vTy mi vMi pn vPs gn vGs fn vFt le vTo (g_16 0) (g_16 1) (g_16 2) ca (g_16 3) (g_16 4) vPr vSt vFn sn vSg vAl dr), (kAI vMi cI 24 qMi), (kAI vPs cI 32 qPs), (kAI vGs cI 16 qGs), (kAI vTo cI 96 (ga_17 0)), (kAI vPr cI 2 (ga_17 1)), (kAI vSt cI 2 (ga_17 2)), (kAI vFn cI 2 (ga_17 3)), (kAI vFt cI 32 qFt), (kAI vSg cI 16 qSg), (kAI vAl cI 25 (ga_17 5))]) hP hD rfl
      replace hD := hP.2
      replace hP := hP.1
      refine lv_istore (lv' := [(6, .int r_15), (5, .int fz13), (4, .int lsz13), (3, .int bez13), (2, .int r_1), (0, .ref hm), (1, .int p1)]) hx₀ hb dX12_askOf_31 hl (by decide) rfl (fun ls hl => ?_)
      refine lv_iload_n hx₀ hb dX12_askOf_33 rfl (lv_at hl 3 rfl) ?_
      refine lv_iconst (v := (-1)) hx₀ hb dX12_askOf_34 (by decide +kernel) ?_
      refine lv_icmp_eq (tgt := 45) hx₀ hb dX12_askOf_35 (by decide) (fun c_27 => ?_) (fun c_27 => ?_)
      · refine lv_iconst (v := 1) hx₀ hb dX12_askOf_45 (by decide +kernel) ?_
        refine lv_goto (tgt := 50) hx₀ hb dX12_askOf_46 (by decide) ?_
        refine lv_istore (lv' := [(7, .int 1), (6, .int r_15), (5, .int fz13), (4, .int lsz13), (3, .int bez13), (2, .int r_1), (0, .ref hm), (1, .int p1)]) hx₀ hb dX12_askOf_50 hl (by decide) rfl (fun ls hl => ?_)
        refine lv_iload hx₀ hb dX12_askOf_52 (lv_at hl 0 rfl) ?_
        refine lv_if_eq (tgt := 62) hx₀ hb dX12_askOf_54 (by decide) (fun c9 => absurd c9 (by decide +kernel)) (fun _ => ?_)
        refine lv_iload hx₀ hb dX12_askOf_57 (lv_at hl 2 rfl) ?_
        refine lv_goto (tgt := 63) hx₀ hb dX12_askOf_59 (by decide) ?_
        refine lv_istore_n (lv' := [(3, .int fz13), (7, .int 1), (6, .int r_15), (5, .int fz13), (4, .int lsz13), (2, .int r_1), (0, .ref hm), (1, .int p1)]) hx₀ hb dX12_askOf_63 rfl hl (by decide) rfl (fun ls hl => ?_)
        refine lv_iload hx₀ hb dX12_askOf_64 (lv_at hl 1 rfl) ?_
        refine lv_if_eq (tgt := 74) hx₀ hb dX12_askOf_66 (by decide) (fun c9 => absurd c9 (by decide +kernel)) (fun _ => ?_)
        refine lv_iload hx₀ hb dX12_askOf_69 (lv_at hl 2 rfl) ?_
        refine lv_goto (tgt := 76) hx₀ hb dX12_askOf_71 (by decide) ?_
        refine lv_istore (lv' := [(4, .int r_15), (3, .int fz13), (7, .int 1), (6, .int r_15), (5, .int fz13), (2, .int r_1), (0, .ref hm), (1, .int p1)]) hx₀ hb dX12_askOf_76 hl (by decide) rfl (fun ls hl => ?_)
        refine lv_iinc (v := fz13 + 1) (lv' := [(5, .int (fz13 + 1)), (4, .int r_15), (3, .int fz13), (7, .int 1), (6, .int r_15), (2, .int r_1), (0, .ref hm), (1, .int p1)]) hx₀ hb dX12_askOf_78 hl (k := 4) rfl rfl (by decide) rfl (fun ls hl => ?_)
        refine lv_goto (tgt := 14) hx₀ hb dX12_askOf_81 (by decide) ?_
        exact ihz13 _ (lf_g_farthestNow_3 fn fz13 jz13 hh7 hiz13_0 hjz13 c_14) fz13 r_15 (fz13 + 1) (g_16 0) (g_16 1) (g_16 2) (g_16 3) (g_16 4) (ga_17 0) (ga_17 1) (ga_17 2) (ga_17 3) (ga_17 5) _ _ _ (lf_g_farthestNow_2 fn fz13 jz13 hh7 hiz13_0 hjz13 c_14) (kAq_y hiz13_1 c_14 (by have h9 := c_21; rw [c_7] at h9; exact h9) (Or.inl c_27)) (c_22) (c_23) (c_24) (c_25) rfl (hP.sub [10, 0, 1, 2, 3, 4, 5, 6, 7, 8, 9] rfl) (hD.sub [10, 0, 1, 2, 3, 4, 5, 6, 7, 8, 9] (by decide +kernel) rfl) hS (lv_sub hl [0, 1, 2, 5, 6, 7] rfl)
      · refine lv_iload hx₀ hb dX12_askOf_38 (lv_at hl 0 rfl) ?_
        refine lv_iload hx₀ hb dX12_askOf_40 (lv_at hl 2 rfl) ?_
        refine lv_icmp_ge (tgt := 49) hx₀ hb dX12_askOf_42 (by decide) (fun c_28 => ?_) (fun c_28 => ?_)
        · refine lv_iconst (v := 0) hx₀ hb dX12_askOf_49 (by decide +kernel) ?_
          refine lv_istore (lv' := [(7, .int 0), (6, .int r_15), (5, .int fz13), (4, .int lsz13), (3, .int bez13), (2, .int r_1), (0, .ref hm), (1, .int p1)]) hx₀ hb dX12_askOf_50 hl (by decide) rfl (fun ls hl => ?_)
          refine lv_iload hx₀ hb dX12_askOf_52 (lv_at hl 0 rfl) ?_
          refine lv_if_eq (tgt := 62) hx₀ hb dX12_askOf_54 (by decide) (fun _ => ?_) (fun c9 => absurd (by decide +kernel) c9)
          refine lv_iload_n hx₀ hb dX12_askOf_62 rfl (lv_at hl 4 rfl) ?_
          refine lv_istore_n (lv' := [(3, .int bez13), (7, .int 0), (6, .int r_15), (5, .int fz13), (4, .int lsz13), (2, .int r_1), (0, .ref hm), (1, .int p1)]) hx₀ hb dX12_askOf_63 rfl hl (by decide) rfl (fun ls hl => ?_)
          refine lv_iload hx₀ hb dX12_askOf_64 (lv_at hl 1 rfl) ?_
          refine lv_if_eq (tgt := 74) hx₀ hb dX12_askOf_66 (by decide) (fun _ => ?_) (fun c9 => absurd (by decide +kernel) c9)
          refine lv_iload hx₀ hb dX12_askOf_74 (lv_at hl 4 rfl) ?_
          refine lv_istore (lv' := [(4, .int lsz13), (3, .int bez13), (7, .int 0), (6, .int r_15), (5, .int fz13), (2, .int r_1), (0, .ref hm), (1, .int p1)]) hx₀ hb dX12_askOf_76 hl (by decide) rfl (fun ls hl => ?_)
          refine lv_iinc (v := fz13 + 1) (lv' := [(5, .int (fz13 + 1)), (4, .int lsz13), (3, .int bez13), (7, .int 0), (6, .int r_15), (2, .int r_1), (0, .ref hm), (1, .int p1)]) hx₀ hb dX12_askOf_78 hl (k := 4) rfl rfl (by decide) rfl (fun ls hl => ?_)
          refine lv_goto (tgt := 14) hx₀ hb dX12_askOf_81 (by decide) ?_
          exact ihz13 _ (lf_g_farthestNow_3 fn fz13 jz13 hh7 hiz13_0 hjz13 c_14) bez13 lsz13 (fz13 + 1) (g_16 0) (g_16 1) (g_16 2) (g_16 3) (g_16 4) (ga_17 0) (ga_17 1) (ga_17 2) (ga_17 3) (ga_17 5) _ _ _ (lf_g_farthestNow_2 fn fz13 jz13 hh7 hiz13_0 hjz13 c_14) (kAq_n hiz13_1 c_14 (by have h9 := c_21; rw [c_7] at h9; exact h9) c_27 (Int32.not_lt.mpr c_28)) (c_22) (c_23) (c_24) (c_25) rfl (hP.sub [10, 0, 1, 2, 3, 4, 5, 6, 7, 8, 9] rfl) (hD.sub [10, 0, 1, 2, 3, 4, 5, 6, 7, 8, 9] (by decide +kernel) rfl) hS (lv_sub hl [0, 1, 2, 5, 6, 7] rfl)
        · refine lv_iconst (v := 1) hx₀ hb dX12_askOf_45 (by decide +kernel) ?_
          refine lv_goto (tgt := 50) hx₀ hb dX12_askOf_46 (by decide) ?_
          refine lv_istore (lv' := [(7, .int 1), (6, .int r_15), (5, .int fz13), (4, .int lsz13), (3, .int bez13), (2, .int r_1), (0, .ref hm), (1, .int p1)]) hx₀ hb dX12_askOf_50 hl (by decide) rfl (fun ls hl => ?_)
          refine lv_iload hx₀ hb dX12_askOf_52 (lv_at hl 0 rfl) ?_
          refine lv_if_eq (tgt := 62) hx₀ hb dX12_askOf_54 (by decide) (fun c9 => absurd c9 (by decide +kernel)) (fun _ => ?_)
          refine lv_iload hx₀ hb dX12_askOf_57 (lv_at hl 2 rfl) ?_
          refine lv_goto (tgt := 63) hx₀ hb dX12_askOf_59 (by decide) ?_
          refine lv_istore_n (lv' := [(3, .int fz13), (7, .int 1), (6, .int r_15), (5, .int fz13), (4, .int lsz13), (2, .int r_1), (0, .ref hm), (1, .int p1)]) hx₀ hb dX12_askOf_63 rfl hl (by decide) rfl (fun ls hl => ?_)
          refine lv_iload hx₀ hb dX12_askOf_64 (lv_at hl 1 rfl) ?_
          refine lv_if_eq (tgt := 74) hx₀ hb dX12_askOf_66 (by decide) (fun c9 => absurd c9 (by decide +kernel)) (fun _ => ?_)
          refine lv_iload hx₀ hb dX12_askOf_69 (lv_at hl 2 rfl) ?_
          refine lv_goto (tgt := 76) hx₀ hb dX12_askOf_71 (by decide) ?_
          refine lv_istore (lv' := [(4, .int r_15), (3, .int fz13), (7, .int 1), (6, .int r_15), (5, .int fz13), (2, .int r_1), (0, .ref hm), (1, .int p1)]) hx₀ hb dX12_askOf_76 hl (by decide) rfl (fun ls hl => ?_)
          refine lv_iinc (v := fz13 + 1) (lv' := [(5, .int (fz13 + 1)), (4, .int r_15), (3, .int fz13), (7, .int 1), (6, .int r_15), (2, .int r_1), (0, .ref hm), (1, .int p1)]) hx₀ hb dX12_askOf_78 hl (k := 4) rfl rfl (by decide) rfl (fun ls hl => ?_)
          refine lv_goto (tgt := 14) hx₀ hb dX12_askOf_81 (by decide) ?_
          exact ihz13 _ (lf_g_farthestNow_3 fn fz13 jz13 hh7 hiz13_0 hjz13 c_14) fz13 r_15 (fz13 + 1) (g_16 0) (g_16 1) (g_16 2) (g_16 3) (g_16 4) (ga_17 0) (ga_17 1) (ga_17 2) (ga_17 3) (ga_17 5) _ _ _ (lf_g_farthestNow_2 fn fz13 jz13 hh7 hiz13_0 hjz13 c_14) (kAq_y hiz13_1 c_14 (by have h9 := c_21; rw [c_7] at h9; exact h9) (Or.inr (Int32.not_le.mp c_28))) (c_22) (c_23) (c_24) (c_25) rfl (hP.sub [10, 0, 1, 2, 3, 4, 5, 6, 7, 8, 9] rfl) (hD.sub [10, 0, 1, 2, 3, 4, 5, 6, 7, 8, 9] (by decide +kernel) rfl) hS (lv_sub hl [0, 1, 2, 5, 6, 7] rfl)
set_option maxHeartbeats 4000000 in
set_option maxRecDepth 100000 in
theorem m_ask (l : Launch) (dC : Nat → ClassId) (dI : Nat → Nat → Nat) (cI cJ cQ : ClassId) (sz : Nat) (hm : Nat) (p1 : Int32) (vFo : Nat) (vSi : Nat) (vIt : Nat) (vMo : Nat) (la : Int32) (vBy : Nat) (vTy : Nat) (mi : Int32) (vMi : Nat) (pn : Int32) (vPs : Nat) (gn : Int32) (vGs : Nat) (fn : Int32) (vFt : Nat) (le : Int32) (vTo : Nat) (kn : Int32) (fe : Int32) (en : Int32) (ca : Int32) (an : Int32) (co : Int32) (vPr : Nat) (vSt : Nat) (vFn : Nat) (sn : Int32) (vSg : Nat) (vAl : Nat) (dr : Int32) (qTy : Nat → Int32) (qBy : Nat → Int32) (qMi : Nat → Int32) (qPs : Nat → Int32) (qGs : Nat → Int32) (qTo : Nat → Int32) (qPr : Nat → Int32) (qSt : Nat → Int32) (qFn : Nat → Int32) (qFt : Nat → Int32) (qSg : Nat → Int32) (qAl : Nat → Int32) (hh0 : 0 ≤ (qTy 0).toInt ∧ (qTy 0).toInt ≤ 24) (hh1 : 0 ≤ (qTy 1).toInt ∧ (qTy 1).toInt ≤ 39) (hh2 : 0 ≤ (qTy 2).toInt ∧ (qTy 2).toInt ≤ 23) (hh3 : k_bd 2 0 7 qPr) (hh4 : 0 ≤ fe ∧ fe ≤ 24) (hh5 : en = 0 ∨ kn = 0 ∨ fe ≤ 23) (hh6 : 0 ≤ kn ∧ kn ≤ 24) (hh7 : 0 ≤ fn ∧ fn ≤ 8) (hh8 : 0 ≤ sn ∧ sn ≤ 8) (hh9 : ca = 16777215) (hh10 : k_bd 32 0 9 qFt) : Met l yX12_ask (kW yX12_ask cX12_ask 2 (some .int)) { frames := 8, cells := 0, slots := 0, locals := 194 } (kPre dC dI cI cJ cQ sz [.ref hm, .int p1] [(kX12 hm vFo vSi vIt vMo la vBy vTy mi vMi pn vPs gn vGs fn vFt le vTo kn fe en ca an co vPr vSt vFn sn vSg vAl dr), (kAI vTy cI 3 qTy), (kAI vBy cI 120 qBy), (kAI vMi cI 24 qMi), (kAI vPs cI 32 qPs), (kAI vGs cI 16 qGs), (kAI vTo cI 96 qTo), (kAI vPr cI 2 qPr), (kAI vSt cI 2 qSt), (kAI vFn cI 2 qFn), (kAI vFt cI 32 qFt), (kAI vSg cI 16 qSg), (kAI vAl cI 25 qAl)]) (va_Qi (fun (r : Int32) (u : kS) => (r = if 0 ≤ p1 ∧ p1 < (u.1 1) then (kAq (fun x2 => (kMa (fun x1 => kOR (u.2.1 0) (upd (u.2.1 1) ((4 * p1) + 1).toNatClampNeg x1) (u.2.1 2) (u.1 0) (u.1 1) (u.1 2) le (kP0 qFt x2) (kP1 qFt x2) (kP2 qFt x2) (kP1 (upd (u.2.1 1) ((4 * p1) + 1).toNatClampNeg x1) (kP0 qFt x2)) (fun x8 => if x8 < (24 : Int32) then (kP3 qFt x2) else (0 : Int32))) (kSo (fun x1 => (kAl fn (fun x9 => kOR (u.2.1 0) (upd (u.2.1 1) ((4 * p1) + 1).toNatClampNeg x1) (u.2.1 2) (u.1 0) (u.1 1) (u.1 2) le (kP0 qFt x9) (kP1 qFt x9) (kP2 qFt x9) (kP1 (upd (u.2.1 1) ((4 * p1) + 1).toNatClampNeg x1) (kP0 qFt x9)) (fun x8 => if x8 < (24 : Int32) then (kP3 qFt x9) else (0 : Int32))) (fun x9 => qSg (2 * x9).toNatClampNeg) (fun x9 => qSg ((2 * x9) + 1).toNatClampNeg) (kfu sn 0) 0)) (kfu 6 0) 0 0) (kfu 6 0) 0 (fun _ => 0) 0)) (kfu fn 0) 0 (-1) 0) else -2) ∧ (0 ≤ (u.1 0) ∧ (u.1 0) ≤ 24) ∧ (0 ≤ (u.1 1) ∧ (u.1 1) ≤ 8) ∧ (0 ≤ (u.1 2) ∧ (u.1 2) ≤ 8) ∧ (k_bd 2 0 7 (u.2.1 4)) ∧ (0 ≤ (u.1 4) ∧ (u.1 4) ≤ 24) ∧ ((u.1 5) = 0 ∨ (u.1 3) = 0 ∨ (u.1 4) ≤ 23) ∧ (0 ≤ (u.1 3) ∧ (u.1 3) ≤ 24) ∧ (k_tm (u.1 1) (u.2.1 1)) ∧ ((u.1 0) = kNm (qTy 0) (qTy 0) (kv4 qBy)) ∧ ((u.1 1) = kNm (kTh7 (qTy 1)) (qTy 1) (kv7 qBy)) ∧ ((u.1 2) = kNm (kTh2 (qTy 2)) (qTy 2) (kv2 qBy)) ∧ (k_ml (u.1 0) (u.2.1 0) (kv4 qBy)) ∧ (k_mq 5 4 (u.1 1) (qTy 1) (u.2.1 1) (kv7 qBy)) ∧ (k_mq 3 2 (u.1 2) (qTy 2) (u.2.1 2) (kv2 qBy))) (fun (u : kS) t₀ => kB dC dI cI cJ cQ (va_A [(kX12 hm vFo vSi vIt vMo la vBy vTy mi vMi pn vPs gn vGs fn vFt le vTo kn fe en ca an co vPr vSt vFn sn vSg vAl dr), (kAI vTy cI 3 qTy), (kAI vBy cI 120 qBy), (kAI vMi cI 24 qMi), (kAI vPs cI 32 qPs), (kAI vGs cI 16 qGs), (kAI vTo cI 96 qTo), (kAI vPr cI 2 qPr), (kAI vSt cI 2 qSt), (kAI vFn cI 2 qFn), (kAI vFt cI 32 qFt), (kAI vSg cI 16 qSg), (kAI vAl cI 25 qAl)] sz) [(kX12 hm vFo vSi vIt vMo la vBy vTy (u.1 0) vMi (u.1 1) vPs (u.1 2) vGs fn vFt le vTo (u.1 3) (u.1 4) (u.1 5) ca (u.1 6) (u.1 7) vPr vSt vFn sn vSg vAl dr), (kAI vTy cI 3 qTy), (kAI vBy cI 120 qBy), (kAI vMi cI 24 (u.2.1 0)), (kAI vPs cI 32 (u.2.1 1)), (kAI vGs cI 16 (u.2.1 2)), (kAI vTo cI 96 (u.2.1 3)), (kAI vPr cI 2 (u.2.1 4)), (kAI vSt cI 2 (u.2.1 5)), (kAI vFn cI 2 (u.2.1 6)), (kAI vFt cI 32 qFt), (kAI vSg cI 16 qSg), (kAI vAl cI 25 (u.2.1 7))] t₀) (va_A [(kX12 hm vFo vSi vIt vMo la vBy vTy mi vMi pn vPs gn vGs fn vFt le vTo kn fe en ca an co vPr vSt vFn sn vSg vAl dr), (kAI vTy cI 3 qTy), (kAI vBy cI 120 qBy), (kAI vMi cI 24 qMi), (kAI vPs cI 32 qPs), (kAI vGs cI 16 qGs), (kAI vTo cI 96 qTo), (kAI vPr cI 2 qPr), (kAI vSt cI 2 qSt), (kAI vFn cI 2 qFn), (kAI vFt cI 32 qFt), (kAI vSg cI 16 qSg), (kAI vAl cI 25 qAl)] sz)) 0 0 (va_A [(kX12 hm vFo vSi vIt vMo la vBy vTy mi vMi pn vPs gn vGs fn vFt le vTo kn fe en ca an co vPr vSt vFn sn vSg vAl dr), (kAI vTy cI 3 qTy), (kAI vBy cI 120 qBy), (kAI vMi cI 24 qMi), (kAI vPs cI 32 qPs), (kAI vGs cI 16 qGs), (kAI vTo cI 96 qTo), (kAI vPr cI 2 qPr), (kAI vSt cI 2 qSt), (kAI vFn cI 2 qFn), (kAI vFt cI 32 qFt), (kAI vSg cI 16 qSg), (kAI vAl cI 25 qAl)] sz) := by
  refine Met.ofW (cc := cX12_ask) (maxL := 2) (ret := (some .int)) (by decide) rfl ?_
  intro p₀ e₀ s₀ m₀ args below meth c₀ s₁ B hml hv₀
  obtain ⟨rfl, hsz, hP, hK, hD0, hN⟩ := hv₀
  have hx₀ := B.exec
  have hb := B.bytes
  have hr := B.returns
  have hts := atoms_spec (ws := (kW yX12_ask cX12_ask 2 (some .int))) B.pre
  have hts := fun w h => hts w (List.mem_cons_of_mem _ h)
  have hown : s₀.vm.findClass RX12 = some m₀.cls := findClass_of_methodNamed B.named
  have hlocks := B.notSynchronized
  subst hsz
  have hD := hD0.self (sz := s₀.heap.size)
  generalize hAe : va_A [(kX12 hm vFo vSi vIt vMo la vBy vTy mi vMi pn vPs gn vGs fn vFt le vTo kn fe en ca an co vPr vSt vFn sn vSg vAl dr), (kAI vTy cI 3 qTy), (kAI vBy cI 120 qBy), (kAI vMi cI 24 qMi), (kAI vPs cI 32 qPs), (kAI vGs cI 16 qGs), (kAI vTo cI 96 qTo), (kAI vPr cI 2 qPr), (kAI vSt cI 2 qSt), (kAI vFn cI 2 qFn), (kAI vFt cI 32 qFt), (kAI vSg cI 16 qSg), (kAI vAl cI 25 qAl)] s₀.heap.size = A at hD ⊢
  have hA : ∀ q : Nat, s₀.heap.size ≤ q → A q := fun q h => by rw [← hAe]; exact Or.inr h
  have hS : va_S A s₀.heap s₀.heap [] := va_S.rf
  have hP : va_P (dC, dI) vwCl [(kX12 hm vFo vSi vIt vMo la vBy vTy mi vMi pn vPs gn vGs fn vFt le vTo kn fe en ca an co vPr vSt vFn sn vSg vAl dr), (kAI vTy cI 3 qTy), (kAI vBy cI 120 qBy), (kAI vMi cI 24 qMi), (kAI vPs cI 32 qPs), (kAI vGs cI 16 qGs), (kAI vTo cI 96 qTo), (kAI vPr cI 2 qPr), (kAI vSt cI 2 qSt), (kAI vFn cI 2 qFn), (kAI vFt cI 32 qFt), (kAI vSg cI 16 qSg), (kAI vAl cI 25 qAl)] s₀.heap := hP
  have hl := lv_entry ([.ref hm, .int p1]) (n := 2) (Nat.le_of_ble_eq_true rfl)
  rw [lg_entry_eq]
  generalize (lg_sl ([.ref hm, .int p1]) ++ List.replicate (2 - (lg_sl ([.ref hm, .int p1])).length) Slot.unset).toArray = ls at hl ⊢
  have hl : lv_has ls 2 [(0, .ref hm), (1, .int p1)] := hl
  obtain ⟨H, hH⟩ : ∃ z : Heap, z = s₀.heap := ⟨_, rfl⟩
  rw [← hH] at hP
  have hS : va_S A s₀.heap H [] := by rw [hH]; exact hS
  refine k_heap hH ?_
  have hD : va_D A [(kX12 hm vFo vSi vIt vMo la vBy vTy mi vMi pn vPs gn vGs fn vFt le vTo kn fe en ca an co vPr vSt vFn sn vSg vAl dr), (kAI vTy cI 3 qTy), (kAI vBy cI 120 qBy), (kAI vMi cI 24 qMi), (kAI vPs cI 32 qPs), (kAI vGs cI 16 qGs), (kAI vTo cI 96 qTo), (kAI vPr cI 2 qPr), (kAI vSt cI 2 qSt), (kAI vFn cI 2 qFn), (kAI vFt cI 32 qFt), (kAI vSg cI 16 qSg), (kAI vAl cI 25 qAl)] := hD
  obtain ⟨locs, hlo⟩ : ∃ z : List Loc, z = [] := ⟨_, rfl⟩
  rw [← hlo] at hS ⊢
  clear hlo hH hAe hD0
  refine lv_aload_n hx₀ hb dX12_ask_0 rfl (lv_at hl 0 rfl) ?_
  obtain ⟨hPc, hDc, hFc, hC⟩ := k_cw (wc := [(kX12 hm vFo vSi vIt vMo la vBy vTy mi vMi pn vPs gn vGs fn vFt le vTo kn fe en ca an co vPr vSt vFn sn vSg vAl dr), (kAI vTy cI 3 qTy), (kAI vBy cI 120 qBy), (kAI vMi cI 24 qMi), (kAI vPs cI 32 qPs), (kAI vGs cI 16 qGs)]) hP hD hS hA [0, 1, 2, 3, 4, 5] (by decide +kernel) rfl
  refine va_callv (va_runV (As := []) (rest := []) ⟨hx₀, hb, hml, hown, hts⟩ (g_reads l dC dI cI cJ cQ H.size hm vFo vSi vIt vMo la vBy vTy mi vMi pn vPs gn vGs fn vFt le vTo kn fe en ca an co vPr vSt vFn sn vSg vAl dr qTy qBy qMi qPs qGs (hh0) (hh1) (hh2)) (cwV 0 hts (kGV wd_298 wd_295 wd_296 wd_297 wd_5) rfl rfl rfl (by decide +kernel) ⟨Nat.le_of_ble_eq_true rfl, Nat.le_of_ble_eq_true rfl⟩) (k_preV11 (q0 := 0) hK hPc hDc hN rfl) rfl rfl hl.1 rfl (lv_room (Nat.le_of_ble_eq_true rfl)) dX12_ask_1 ⟨by decide +kernel, by decide +kernel⟩) hS (fun q _ h => hFc q h) hFc (fun u₀ t₀ H1 locs ht hvm hw hB hz1 hk1 hS => ?_)
  obtain ⟨g_2, ga_3, gl_4, gb_5, gp_6⟩ := u₀
  obtain ⟨hP1, hK1, hD1⟩ := hB
  rw [ht] at hP1
  have hJ := k_jn (wr := [(kAI vTo cI 96 qTo), (kAI vPr cI 2 qPr), (kAI vSt cI 2 qSt), (kAI vFn cI 2 qFn), (kAI vFt cI 32 qFt), (kAI vSg cI 16 qSg), (kAI vAl cI 25 qAl)]) (wt := [(kAI vTo cI 96 qTo), (kAI vPr cI 2 qPr), (kAI vSt cI 2 qSt), (kAI vFn cI 2 qFn), (kAI vFt cI 32 qFt), (kAI vSg cI 16 qSg), (kAI vAl cI 25 qAl), (kX12 hm vFo vSi vIt vMo la vBy vTy (g_2 0) vMi (g_2 1) vPs (g_2 2) vGs fn vFt le vTo kn fe en ca an co vPr vSt vFn sn vSg vAl dr), (kAI vTy cI 3 qTy), (kAI vBy cI 120 qBy), (kAI vMi cI 24 (ga_3 0)), (kAI vPs cI 32 (ga_3 1)), (kAI vGs cI 16 (ga_3 2))]) hP hD hC [6, 7, 8, 9, 10, 11, 12] rfl (by decide +kernel) (by decide +kernel) hk1 hFc hP1 hD1 rfl
  clear hP hD hPc hDc hFc hC hP1 hD1 hK1 hz1 hk1 hvm ht
  obtain ⟨hP, hD⟩ := hJ
  generalize H1 = H at hP hS ⊢
  try dsimp only at hw
  obtain ⟨c_7, c_8, c_9, c_10, c_11, c_12, c_13, c_14, c_15, c_16⟩ := hw
  refine lv_aload_n hx₀ hb dX12_ask_4 rfl (lv_at hl 0 rfl) ?_
  refine lv_iload_n hx₀ hb dX12_ask_5 rfl (lv_at hl 1 rfl) ?_
  obtain ⟨hPc, hDc, hFc, hC⟩ := k_cw (wc := [(kX12 hm vFo vSi vIt vMo la vBy vTy (g_2 0) vMi (g_2 1) vPs (g_2 2) vGs fn vFt le vTo kn fe en ca an co vPr vSt vFn sn vSg vAl dr)]) hP hD hS hA [7] (by decide +kernel) rfl
  refine va_calli (va_runV (As := [.int p1]) (rest := []) ⟨hx₀, hb, hml, hown, hts⟩ (g_isPassenger l dC dI cI cJ cQ H.size hm p1 vFo vSi vIt vMo la vBy vTy (g_2 0) vMi (g_2 1) vPs (g_2 2) vGs fn vFt le vTo kn fe en ca an co vPr vSt vFn sn vSg vAl dr (c_8)) (cwV 1 hts (kGV wd_323 wd_320 wd_321 wd_322 wd_5) rfl rfl rfl (by decide +kernel) ⟨Nat.le_of_ble_eq_true rfl, Nat.le_of_ble_eq_true rfl⟩) (k_preV11 (q0 := 0) hK hPc hDc hN rfl) rfl rfl hl.1 rfl (lv_room (Nat.le_of_ble_eq_true rfl)) dX12_ask_6 ⟨by decide +kernel, by decide +kernel⟩) hS (fun q _ h => hFc q h) hFc (fun r_17 u₀ t₀ H1 locs ht hvm hw hB hz1 hk1 hS => ?_)
  obtain ⟨hP1, hK1, hD1⟩ := hB
  rw [ht] at hP1
  have hJ := k_jn (wr := [(kAI vTo cI 96 qTo), (kAI vPr cI 2 qPr), (kAI vSt cI 2 qSt), (kAI vFn cI 2 qFn), (kAI vFt cI 32 qFt), (kAI vSg cI 16 qSg), (kAI vAl cI 25 qAl), (kAI vTy cI 3 qTy), (kAI vBy cI 120 qBy), (kAI vMi cI 24 (ga_3 0)), (kAI vPs cI 32 (ga_3 1)), (kAI vGs cI 16 (ga_3 2))]) (wt := [(kAI vTo cI 96 qTo), (kAI vPr cI 2 qPr), (kAI vSt cI 2 qSt), (kAI vFn cI 2 qFn), (kAI vFt cI 32 qFt), (kAI vSg cI 16 qSg), (kAI vAl cI 25 qAl), (kAI vTy cI 3 qTy), (kAI vBy cI 120 qBy), (kAI vMi cI 24 (ga_3 0)), (kAI vPs cI 32 (ga_3 1)), (kAI vGs cI 16 (ga_3 2)), (kX12 hm vFo vSi vIt vMo la vBy vTy (g_2 0) vMi (g_2 1) vPs (g_2 2) vGs fn vFt le vTo kn fe en ca an co vPr vSt vFn sn vSg vAl dr)]) hP hD hC [0, 1, 2, 3, 4, 5, 6, 8, 9, 10, 11, 12] rfl (by decide +kernel) (by decide +kernel) hk1 hFc hP1 hD1 rfl
  clear hP hD hPc hDc hFc hC hP1 hD1 hK1 hz1 hk1 hvm ht
  obtain ⟨hP, hD⟩ := hJ
  generalize H1 = H at hP hS ⊢
  try dsimp only at hw
  by_cases c_18 : 0 ≤ p1 ∧ p1 < (g_2 1)
  · rw [if_pos c_18] at hw
    refine k_topi (v := 1) hw ?_
    refine lv_if_eq (tgt := 20) hx₀ hb dX12_ask_9 (by decide) (fun c9 => absurd c9 (by decide +kernel)) (fun _ => ?_)
    refine lv_aload_n hx₀ hb dX12_ask_12 rfl (lv_at hl 0 rfl) ?_
    refine lv_iload_n hx₀ hb dX12_ask_13 rfl (lv_at hl 1 rfl) ?_
    obtain ⟨hPc, hDc, hFc, hC⟩ := k_cw (wc := [(kX12 hm vFo vSi vIt vMo la vBy vTy (g_2 0) vMi (g_2 1) vPs (g_2 2) vGs fn vFt le vTo kn fe en ca an co vPr vSt vFn sn vSg vAl dr), (kAI vMi cI 24 (ga_3 0)), (kAI vPs cI 32 (ga_3 1)), (kAI vGs cI 16 (ga_3 2)), (kAI vTo cI 96 qTo), (kAI vPr cI 2 qPr), (kAI vSt cI 2 qSt), (kAI vFn cI 2 qFn), (kAI vFt cI 32 qFt), (kAI vSg cI 16 qSg), (kAI vAl cI 25 qAl)]) hP hD hS hA [12, 9, 10, 11, 0, 1, 2, 3, 4, 5, 6] (by decide +kernel) rfl
    refine va_calli (va_runV (As := [.int p1]) (rest := []) ⟨hx₀, hb, hml, hown, hts⟩ (e_askOf l dC dI cI cJ cQ H.size hm p1 vFo vSi vIt vMo la vBy vTy (g_2 0) vMi (g_2 1) vPs (g_2 2) vGs fn vFt le vTo kn fe en ca an co vPr vSt vFn sn vSg vAl dr (ga_3 0) (ga_3 1) (ga_3 2) qTo qPr qSt qFn qFt qSg qAl (c_7) (c_8) (c_9) (hh3) (hh4) (hh5) (hh6) (hh7) (hh8) (lf_g_sores_1 (g_2 1) p1 c_8 c_18) (c_10) (hh9) (hh10)) (cwV 1 hts (kGV wd_755 wd_752 wd_753 wd_754 wd_5) rfl rfl rfl (by decide +kernel) ⟨Nat.le_of_ble_eq_true rfl, Nat.le_of_ble_eq_true rfl⟩) (k_preV11 (q0 := 0) hK hPc hDc hN rfl) rfl rfl hl.1 rfl (lv_room (Nat.le_of_ble_eq_true rfl)) dX12_ask_14 ⟨by decide +kernel, by decide +kernel⟩) hS (fun q _ h => hFc q h) hFc (fun r_19 u₀ t₀ H1 locs ht hvm hw hB hz1 hk1 hS => ?_)
    obtain ⟨g_20, ga_21, gl_22, gb_23, gp_24⟩ := u₀
    obtain ⟨hP1, hK1, hD1⟩ := hB
    rw [ht] at hP1
    have hJ := k_jn (wr := [(kAI vTy cI 3 qTy), (kAI vBy cI 120 qBy)]) (wt := [(kAI vTy cI 3 qTy), (kAI vBy cI 120 qBy), (kX12 hm vFo vSi vIt vMo la vBy vTy (g_2 0) vMi (g_2 1) vPs (g_2 2) vGs fn vFt le vTo (g_20 0) (g_20 1) (g_20 2) ca (g_20 3) (g_20 4) vPr vSt vFn sn vSg vAl dr), (kAI vMi cI 24 (ga_3 0)), (kAI vPs cI 32 (ga_3 1)), (kAI vGs cI 16 (ga_3 2)), (kAI vTo cI 96 (ga_21 0)), (kAI vPr cI 2 (ga_21 1)), (kAI vSt cI 2 (ga_21 2)), (kAI vFn cI 2 (ga_21 3)), (kAI vFt cI 32 qFt), (kAI vSg cI 16 qSg), (kAI vAl cI 25 (ga_21 4))]) hP hD hC [7, 8] rfl (by decide +kernel) (by decide +kernel) hk1 hFc hP1 hD1 rfl
    clear hP hD hPc hDc hFc hC hP1 hD1 hK1 hz1 hk1 hvm ht
    obtain ⟨hP, hD⟩ := hJ
    generalize H1 = H at hP hS ⊢
    try dsimp only at hw
    obtain ⟨c_25, c_26, c_27, c_28, c_29⟩ := hw
    refine lv_goto (tgt := 22) hx₀ hb dX12_ask_17 (by decide) ?_
    obtain ⟨hP9, hD9⟩ := k_c2 (wc := [(kX12 hm vFo vSi vIt vMo la vBy vTy (g_2 0) vMi (g_2 1) vPs (g_2 2) vGs fn vFt le vTo (g_20 0) (g_20 1) (g_20 2) ca (g_20 3) (g_20 4) vPr vSt vFn sn vSg vAl dr), (kAI vTy cI 3 qTy), (kAI vBy cI 120 qBy), (kAI vMi cI 24 (ga_3 0)), (kAI vPs cI 32 (ga_3 1)), (kAI vGs cI 16 (ga_3 2)), (kAI vTo cI 96 (ga_21 0)), (kAI vPr cI 2 (ga_21 1)), (kAI vSt cI 2 (ga_21 2)), (kAI vFn cI 2 (ga_21 3)), (kAI vFt cI 32 qFt), (kAI vSg cI 16 qSg), (kAI vAl cI 25 (ga_21 4))]) hP hD [2, 0, 1, 3, 4, 5, 6, 7, 8, 9, 10, 11, 12] (by decide +kernel) rfl
    exact W.iret (v := r_19) hx₀ hb hr (fun t₀ ht hW => ⟨⟨r_19, (k_fn [(g_2 0), (g_2 1), (g_2 2), (g_20 0), (g_20 1), (g_20 2), (g_20 3), (g_20 4)], k_fa [(ga_3 0), (ga_3 1), (ga_3 2), ga_21 0, ga_21 1, ga_21 2, ga_21 3, ga_21 4], k_fl [], k_fL [], k_fp []), rfl, ⟨(c_25.trans (if_pos (c_18)).symm), c_7, c_8, c_9, c_26, c_27, c_28, c_29, c_10, c_11, c_12, c_13, c_14, c_15, c_16⟩, by rw [ht]; exact hP9, va_K.moved hW.alike hK, hD9⟩, hS.F ht⟩) hS.2.2 dX12_ask_22
  rw [if_neg c_18] at hw
  refine k_topi (v := 0) hw ?_
  refine lv_if_eq (tgt := 20) hx₀ hb dX12_ask_9 (by decide) (fun _ => ?_) (fun c9 => absurd (by decide +kernel) c9)
  refine lv_bipush (v := (-2)) hx₀ hb dX12_ask_20 (by decide +kernel) ?_
  obtain ⟨hP9, hD9⟩ := k_c2 (wc := [(kX12 hm vFo vSi vIt vMo la vBy vTy (g_2 0) vMi (g_2 1) vPs (g_2 2) vGs fn vFt le vTo kn fe en ca an co vPr vSt vFn sn vSg vAl dr), (kAI vTy cI 3 qTy), (kAI vBy cI 120 qBy), (kAI vMi cI 24 (ga_3 0)), (kAI vPs cI 32 (ga_3 1)), (kAI vGs cI 16 (ga_3 2)), (kAI vTo cI 96 qTo), (kAI vPr cI 2 qPr), (kAI vSt cI 2 qSt), (kAI vFn cI 2 qFn), (kAI vFt cI 32 qFt), (kAI vSg cI 16 qSg), (kAI vAl cI 25 qAl)]) hP hD [12, 7, 8, 9, 10, 11, 0, 1, 2, 3, 4, 5, 6] (by decide +kernel) rfl
  exact W.iret (v := (-2)) hx₀ hb hr (fun t₀ ht hW => ⟨⟨(-2), (k_fn [(g_2 0), (g_2 1), (g_2 2), kn, fe, en, an, co], k_fa [ga_3 0, ga_3 1, ga_3 2, qTo, qPr, qSt, qFn, qAl], k_fl [], k_fL [], k_fp []), rfl, ⟨(if_neg (c_18)).symm, c_7, c_8, c_9, hh3, hh4, hh5, hh6, c_10, c_11, c_12, c_13, c_14, c_15, c_16⟩, by rw [ht]; exact hP9, va_K.moved hW.alike hK, hD9⟩, hS.F ht⟩) hS.2.2 dX12_ask_22
