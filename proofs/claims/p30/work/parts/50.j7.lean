set_option maxHeartbeats 4000000 in
set_option maxRecDepth 100000 in
theorem j_climb (l : Launch) (dC : Nat → ClassId) (dI : Nat → Nat → Nat) (cI cJ cQ : ClassId) (sz : Nat) (hx : Nat) (f1 : Int32) (i1 : Int32) (aLa : Nat) (aPa : Nat) (aGe : Nat) (aFl : Nat) (aTr : Nat) (aBe : Nat) (aLu : Nat) (aLo : Nat) (vSf : Nat) (vSm : Nat) (vCo : Nat) (vSh : Nat) (xs : Int32) (xl : Int32) (xf : Int32) (gL : Nat) (gR : Nat) (lf : Nat) (rt : Nat) (tgo : Int32) (tca : Int32) (tki : Int32) (tso : Int32) (tbe : Int32) (twe : Int32) (tle : Int32) (tan : Int32) (tco : Int32) (ten : Int32) (u0 : Int32) (u1 : Int32) (u2 : Int32) (u3 : Int32) (v0 : Int32) (v1 : Int32) (v2 : Int32) (v3 : Int32) (vLa : Nat) (l4 : Int32) (a4 : Int32) (n4 : Int32) (f4 : Nat → Int32) (vPa : Nat) (l7 : Int32) (a7 : Int32) (n7 : Int32) (f7 : Nat → Int32) (vGe : Nat) (l2 : Int32) (a2 : Int32) (n2 : Int32) (f2 : Nat → Int32) (vFl : Nat) (xn : Int32) (ff : Nat → Int32) (k0 : Int32) (k1 : Int32) (k2 : Int32) (k3 : Int32) (hh0 : 0 ≤ n4 ∧ n4 ≤ 24) (hh1 : 0 ≤ xn ∧ xn ≤ 8) : Met l yX11_climb (kW yX11_climb cX11_climb 3 (some .int)) { frames := 4, cells := 0, slots := 0, locals := 102 } (kPre dC dI cI cJ cQ sz [.ref hx, .int f1, .int i1] [(kX11 hx aLa aPa aGe aFl aTr aBe aLu aLo vSf vSm vCo vSh xs xl xf), (kX10 aTr aLa aPa aGe gL gR lf rt tgo tca tki tso tbe twe tle tan tco ten), (kX3 gL u0 u1 u2 u3), (kX3 gR v0 v1 v2 v3), (kX4 aLa vLa l4 a4 n4), (kAI vLa cI 24 f4), (kX7 aPa vPa l7 a7 n7), (kAI vPa cI 39 f7), (kX2 aGe vGe l2 a2 n2), (kAI vGe cI 23 f2), (kX1 aFl vFl xn), (kAI vFl cI 32 ff), (kX0 aBe k0 k1 k2 k3)]) (va_Qi (fun (r : Int32) (u : kS) => True) (fun (u : kS) t₀ => kB dC dI cI cJ cQ (va_A [(kX11 hx aLa aPa aGe aFl aTr aBe aLu aLo vSf vSm vCo vSh xs xl xf), (kX10 aTr aLa aPa aGe gL gR lf rt tgo tca tki tso tbe twe tle tan tco ten), (kX3 gL u0 u1 u2 u3), (kX3 gR v0 v1 v2 v3), (kX4 aLa vLa l4 a4 n4), (kAI vLa cI 24 f4), (kX7 aPa vPa l7 a7 n7), (kAI vPa cI 39 f7), (kX2 aGe vGe l2 a2 n2), (kAI vGe cI 23 f2), (kX1 aFl vFl xn), (kAI vFl cI 32 ff), (kX0 aBe k0 k1 k2 k3)] sz) [(kX11 hx aLa aPa aGe aFl aTr aBe aLu aLo vSf vSm vCo vSh xs xl xf), (kX10 aTr aLa aPa aGe gL gR (u.2.2.2.2 0) (u.2.2.2.2 1) (u.1 8) (u.1 9) (u.1 10) (u.1 11) (u.1 12) (u.1 13) (u.1 14) (u.1 15) (u.1 16) (u.1 17)), (kX3 gL (u.1 0) (u.1 1) (u.1 2) (u.1 3)), (kX3 gR (u.1 4) (u.1 5) (u.1 6) (u.1 7)), (kX4 aLa vLa l4 a4 n4), (kAI vLa cI 24 f4), (kX7 aPa vPa l7 a7 n7), (kAI vPa cI 39 f7), (kX2 aGe vGe l2 a2 n2), (kAI vGe cI 23 f2), (kX1 aFl vFl xn), (kAI vFl cI 32 ff), (kX0 aBe (u.1 18) (u.1 19) (u.1 20) (u.1 21))] t₀) (va_A [(kX11 hx aLa aPa aGe aFl aTr aBe aLu aLo vSf vSm vCo vSh xs xl xf), (kX10 aTr aLa aPa aGe gL gR lf rt tgo tca tki tso tbe twe tle tan tco ten), (kX3 gL u0 u1 u2 u3), (kX3 gR v0 v1 v2 v3), (kX4 aLa vLa l4 a4 n4), (kAI vLa cI 24 f4), (kX7 aPa vPa l7 a7 n7), (kAI vPa cI 39 f7), (kX2 aGe vGe l2 a2 n2), (kAI vGe cI 23 f2), (kX1 aFl vFl xn), (kAI vFl cI 32 ff), (kX0 aBe k0 k1 k2 k3)] sz)) 0 0 (va_A [(kX11 hx aLa aPa aGe aFl aTr aBe aLu aLo vSf vSm vCo vSh xs xl xf), (kX10 aTr aLa aPa aGe gL gR lf rt tgo tca tki tso tbe twe tle tan tco ten), (kX3 gL u0 u1 u2 u3), (kX3 gR v0 v1 v2 v3), (kX4 aLa vLa l4 a4 n4), (kAI vLa cI 24 f4), (kX7 aPa vPa l7 a7 n7), (kAI vPa cI 39 f7), (kX2 aGe vGe l2 a2 n2), (kAI vGe cI 23 f2), (kX1 aFl vFl xn), (kAI vFl cI 32 ff), (kX0 aBe k0 k1 k2 k3)] sz) := by
  refine Met.ofW (cc := cX11_climb) (maxL := 3) (ret := (some .int)) (by decide) rfl ?_
  intro p₀ e₀ s₀ m₀ args below meth c₀ s₁ B hml hv₀
  obtain ⟨rfl, hsz, hP, hK, hD0, hN⟩ := hv₀
  have hx₀ := B.exec
  have hb := B.bytes
  have hr := B.returns
  have hts := atoms_spec (ws := (kW yX11_climb cX11_climb 3 (some .int))) B.pre
  have hts := fun w h => hts w (List.mem_cons_of_mem _ h)
  have hown : s₀.vm.findClass RX11 = some m₀.cls := findClass_of_methodNamed B.named
  have hlocks := B.notSynchronized
  subst hsz
  have hD := hD0.self (sz := s₀.heap.size)
  generalize hAe : va_A [(kX11 hx aLa aPa aGe aFl aTr aBe aLu aLo vSf vSm vCo vSh xs xl xf), (kX10 aTr aLa aPa aGe gL gR lf rt tgo tca tki tso tbe twe tle tan tco ten), (kX3 gL u0 u1 u2 u3), (kX3 gR v0 v1 v2 v3), (kX4 aLa vLa l4 a4 n4), (kAI vLa cI 24 f4), (kX7 aPa vPa l7 a7 n7), (kAI vPa cI 39 f7), (kX2 aGe vGe l2 a2 n2), (kAI vGe cI 23 f2), (kX1 aFl vFl xn), (kAI vFl cI 32 ff), (kX0 aBe k0 k1 k2 k3)] s₀.heap.size = A at hD ⊢
  have hA : ∀ q : Nat, s₀.heap.size ≤ q → A q := fun q h => by rw [← hAe]; exact Or.inr h
  have hS : va_S A s₀.heap s₀.heap [] := va_S.rf
  have hP : va_P (dC, dI) vwCl [(kX11 hx aLa aPa aGe aFl aTr aBe aLu aLo vSf vSm vCo vSh xs xl xf), (kX10 aTr aLa aPa aGe gL gR lf rt tgo tca tki tso tbe twe tle tan tco ten), (kX3 gL u0 u1 u2 u3), (kX3 gR v0 v1 v2 v3), (kX4 aLa vLa l4 a4 n4), (kAI vLa cI 24 f4), (kX7 aPa vPa l7 a7 n7), (kAI vPa cI 39 f7), (kX2 aGe vGe l2 a2 n2), (kAI vGe cI 23 f2), (kX1 aFl vFl xn), (kAI vFl cI 32 ff), (kX0 aBe k0 k1 k2 k3)] s₀.heap := hP
  have hl := lv_entry ([.ref hx, .int f1, .int i1]) (n := 3) (Nat.le_of_ble_eq_true rfl)
  rw [lg_entry_eq]
  generalize (lg_sl ([.ref hx, .int f1, .int i1]) ++ List.replicate (3 - (lg_sl ([.ref hx, .int f1, .int i1])).length) Slot.unset).toArray = ls at hl ⊢
  have hl : lv_has ls 3 [(0, .ref hx), (1, .int f1), (2, .int i1)] := hl
  obtain ⟨H, hH⟩ : ∃ z : Heap, z = s₀.heap := ⟨_, rfl⟩
  rw [← hH] at hP
  have hS : va_S A s₀.heap H [] := by rw [hH]; exact hS
  refine k_heap hH ?_
  have hD : va_D A [(kX11 hx aLa aPa aGe aFl aTr aBe aLu aLo vSf vSm vCo vSh xs xl xf), (kX10 aTr aLa aPa aGe gL gR lf rt tgo tca tki tso tbe twe tle tan tco ten), (kX3 gL u0 u1 u2 u3), (kX3 gR v0 v1 v2 v3), (kX4 aLa vLa l4 a4 n4), (kAI vLa cI 24 f4), (kX7 aPa vPa l7 a7 n7), (kAI vPa cI 39 f7), (kX2 aGe vGe l2 a2 n2), (kAI vGe cI 23 f2), (kX1 aFl vFl xn), (kAI vFl cI 32 ff), (kX0 aBe k0 k1 k2 k3)] := hD
  obtain ⟨locs, hlo⟩ : ∃ z : List Loc, z = [] := ⟨_, rfl⟩
  rw [← hlo] at hS ⊢
  clear hlo hH hAe hD0
  refine lv_aload_n hx₀ hb dX11_climb_0 rfl (lv_at hl 0 rfl) ?_
  refine va_get (D := (dC, dI)) (ci := 10) (v := .ref aFl) (C := RX11) (T := TX11) (N := 15) hx₀ hb hts inlX11 hown hK hP 0 rfl rfl 3 (by decide) (hts (.fieldLink RX11 33 "BittenStick" "flights" "LBittenStick$Flights;") wd_27) (fun _ h9 => h9) rfl dX11_climb_1 ?_
  refine lv_iload_n hx₀ hb dX11_climb_4 rfl (lv_at hl 1 rfl) ?_
  obtain ⟨hPc, hDc, hFc, hC⟩ := k_cw (wc := [(kX1 aFl vFl xn)]) hP hD hS hA [10] (by decide +kernel) rfl
  refine va_calli (va_runV (As := [.int f1]) (rest := []) ⟨hx₀, hb, hml, hown, hts⟩ (j_fHas l dC dI cI cJ cQ H.size aFl f1 vFl xn) (cwV 1 hts (kGV wd_426 wd_423 wd_424 wd_425 wd_26) rfl rfl rfl (by decide +kernel) ⟨Nat.le_of_ble_eq_true rfl, Nat.le_of_ble_eq_true rfl⟩) (k_preV1 (q0 := 0) hK hPc hDc hN rfl) rfl rfl hl.1 rfl (lv_room (Nat.le_of_ble_eq_true rfl)) dX11_climb_5 ⟨by decide +kernel, by decide +kernel⟩) hS (fun q _ h => hFc q h) hFc (fun r_1 u₀ t₀ H1 locs ht hvm hw hB hz1 hk1 hS => ?_)
  obtain ⟨hP1, hK1, hD1⟩ := hB
  rw [ht] at hP1
  have hJ := k_jn (wr := [(kX11 hx aLa aPa aGe aFl aTr aBe aLu aLo vSf vSm vCo vSh xs xl xf), (kX10 aTr aLa aPa aGe gL gR lf rt tgo tca tki tso tbe twe tle tan tco ten), (kX3 gL u0 u1 u2 u3), (kX3 gR v0 v1 v2 v3), (kX4 aLa vLa l4 a4 n4), (kAI vLa cI 24 f4), (kX7 aPa vPa l7 a7 n7), (kAI vPa cI 39 f7), (kX2 aGe vGe l2 a2 n2), (kAI vGe cI 23 f2), (kAI vFl cI 32 ff), (kX0 aBe k0 k1 k2 k3)]) (wt := [(kX11 hx aLa aPa aGe aFl aTr aBe aLu aLo vSf vSm vCo vSh xs xl xf), (kX10 aTr aLa aPa aGe gL gR lf rt tgo tca tki tso tbe twe tle tan tco ten), (kX3 gL u0 u1 u2 u3), (kX3 gR v0 v1 v2 v3), (kX4 aLa vLa l4 a4 n4), (kAI vLa cI 24 f4), (kX7 aPa vPa l7 a7 n7), (kAI vPa cI 39 f7), (kX2 aGe vGe l2 a2 n2), (kAI vGe cI 23 f2), (kAI vFl cI 32 ff), (kX0 aBe k0 k1 k2 k3), (kX1 aFl vFl xn)]) hP hD hC [0, 1, 2, 3, 4, 5, 6, 7, 8, 9, 11, 12] rfl (by decide +kernel) (by decide +kernel) hk1 hFc hP1 hD1 rfl
  clear hP hD hPc hDc hFc hC hP1 hD1 hK1 hz1 hk1 hvm ht
  obtain ⟨hP, hD⟩ := hJ
  generalize H1 = H at hP hS ⊢
  try dsimp only at hw
  by_cases c_2 : 0 ≤ f1 ∧ f1 < xn
  · rw [if_pos c_2] at hw
    refine k_topi (v := 1) hw ?_
    refine lv_if_eq (tgt := 21) hx₀ hb dX11_climb_8 (by decide) (fun c9 => absurd c9 (by decide +kernel)) (fun _ => ?_)
    refine lv_iload_n hx₀ hb dX11_climb_11 rfl (lv_at hl 2 rfl) ?_
    refine lv_iconst (v := (-1)) hx₀ hb dX11_climb_12 (by decide +kernel) ?_
    refine lv_icmp_lt (tgt := 21) hx₀ hb dX11_climb_13 (by decide) (fun c_3 => ?_) (fun c_3 => ?_)
    · refine lv_bipush (v := (-2)) hx₀ hb dX11_climb_21 (by decide +kernel) ?_
      obtain ⟨hP9, hD9⟩ := k_c2 (wc := [(kX11 hx aLa aPa aGe aFl aTr aBe aLu aLo vSf vSm vCo vSh xs xl xf), (kX10 aTr aLa aPa aGe gL gR lf rt tgo tca tki tso tbe twe tle tan tco ten), (kX3 gL u0 u1 u2 u3), (kX3 gR v0 v1 v2 v3), (kX4 aLa vLa l4 a4 n4), (kAI vLa cI 24 f4), (kX7 aPa vPa l7 a7 n7), (kAI vPa cI 39 f7), (kX2 aGe vGe l2 a2 n2), (kAI vGe cI 23 f2), (kX1 aFl vFl xn), (kAI vFl cI 32 ff), (kX0 aBe k0 k1 k2 k3)]) hP hD [0, 1, 2, 3, 4, 5, 6, 7, 8, 9, 12, 10, 11] (by decide +kernel) rfl
      exact W.iret (v := (-2)) hx₀ hb hr (fun t₀ ht hW => ⟨⟨(-2), (k_fn [u0, u1, u2, u3, v0, v1, v2, v3, tgo, tca, tki, tso, tbe, twe, tle, tan, tco, ten, k0, k1, k2, k3], k_fa [], k_fl [], k_fL [], k_fp [lf, rt]), rfl, trivial, by rw [ht]; exact hP9, va_K.moved hW.alike hK, hD9⟩, hS.F ht⟩) hS.2.2 dX11_climb_23
    · refine lv_iload_n hx₀ hb dX11_climb_16 rfl (lv_at hl 2 rfl) ?_
      refine lv_iconst (v := 2) hx₀ hb dX11_climb_17 (by decide +kernel) ?_
      refine lv_icmp_le (tgt := 24) hx₀ hb dX11_climb_18 (by decide) (fun c_4 => ?_) (fun c_4 => ?_)
      · refine lv_aload_n hx₀ hb dX11_climb_24 rfl (lv_at hl 0 rfl) ?_
        refine lv_iload_n hx₀ hb dX11_climb_25 rfl (lv_at hl 1 rfl) ?_
        obtain ⟨hPc, hDc, hFc, hC⟩ := k_cw (wc := [(kX11 hx aLa aPa aGe aFl aTr aBe aLu aLo vSf vSm vCo vSh xs xl xf), (kX10 aTr aLa aPa aGe gL gR lf rt tgo tca tki tso tbe twe tle tan tco ten), (kX3 gL u0 u1 u2 u3), (kX3 gR v0 v1 v2 v3), (kX4 aLa vLa l4 a4 n4), (kAI vLa cI 24 f4), (kX7 aPa vPa l7 a7 n7), (kAI vPa cI 39 f7), (kX2 aGe vGe l2 a2 n2), (kAI vGe cI 23 f2), (kX1 aFl vFl xn), (kAI vFl cI 32 ff)]) hP hD hS hA [0, 1, 2, 3, 4, 5, 6, 7, 8, 9, 12, 10] (by decide +kernel) rfl
        refine va_callv (va_runV (As := [.int f1]) (rest := []) ⟨hx₀, hb, hml, hown, hts⟩ (j_prepare l dC dI cI cJ cQ H.size hx f1 aLa aPa aGe aFl aTr aBe aLu aLo vSf vSm vCo vSh xs xl xf gL gR lf rt tgo tca tki tso tbe twe tle tan tco ten u0 u1 u2 u3 v0 v1 v2 v3 vLa l4 a4 n4 f4 vPa l7 a7 n7 f7 vGe l2 a2 n2 f2 vFl xn ff (hh0) (hh1)) (cwV 1 hts (kGV wd_430 wd_427 wd_428 wd_429 wd_2) rfl rfl rfl (by decide +kernel) ⟨Nat.le_of_ble_eq_true rfl, Nat.le_of_ble_eq_true rfl⟩) (k_preV10 (q0 := 0) hK hPc hDc hN rfl) rfl rfl hl.1 rfl (lv_room (Nat.le_of_ble_eq_true rfl)) dX11_climb_26 ⟨by decide +kernel, by decide +kernel⟩) hS (fun q _ h => hFc q h) hFc (fun u₀ t₀ H1 locs ht hvm hw hB hz1 hk1 hS => ?_)
        obtain ⟨g_6, ga_7, gl_8, gb_9, gp_10⟩ := u₀
        obtain ⟨hP1, hK1, hD1⟩ := hB
        rw [ht] at hP1
        have hJ := k_jn (wr := [(kX0 aBe k0 k1 k2 k3)]) (wt := [(kX0 aBe k0 k1 k2 k3), (kX11 hx aLa aPa aGe aFl aTr aBe aLu aLo vSf vSm vCo vSh xs xl xf), (kX10 aTr aLa aPa aGe gL gR (gp_10 0) (gp_10 1) (g_6 8) (g_6 9) (g_6 10) (g_6 11) (g_6 12) (g_6 13) (g_6 14) (g_6 15) (g_6 16) (g_6 17)), (kX3 gL (g_6 0) (g_6 1) (g_6 2) (g_6 3)), (kX3 gR (g_6 4) (g_6 5) (g_6 6) (g_6 7)), (kX4 aLa vLa l4 a4 n4), (kAI vLa cI 24 f4), (kX7 aPa vPa l7 a7 n7), (kAI vPa cI 39 f7), (kX2 aGe vGe l2 a2 n2), (kAI vGe cI 23 f2), (kX1 aFl vFl xn), (kAI vFl cI 32 ff)]) hP hD hC [11] rfl (by decide +kernel) (by decide +kernel) hk1 hFc hP1 hD1 rfl
        clear hP hD hPc hDc hFc hC hP1 hD1 hK1 hz1 hk1 hvm ht
        obtain ⟨hP, hD⟩ := hJ
        generalize H1 = H at hP hS ⊢
        try dsimp only at hw
        obtain ⟨c_11, c_12, c_13, c_14, c_15, c_16, c_17⟩ := hw
        refine lv_aload_n hx₀ hb dX11_climb_29 rfl (lv_at hl 0 rfl) ?_
        refine va_get (D := (dC, dI)) (ci := 10) (v := .ref aBe) (C := RX11) (T := TX11) (N := 15) hx₀ hb hts inlX11 hown hK hP 1 rfl rfl 5 (by decide) (hts (.fieldLink RX11 49 "BittenStick" "best" "LBittenStick$Climb;") wd_35) (fun _ h9 => h9) rfl dX11_climb_30 ?_
        refine lv_aload_n hx₀ hb dX11_climb_33 rfl (lv_at hl 0 rfl) ?_
        refine va_get (D := (dC, dI)) (ci := 10) (v := .ref aTr) (C := RX11) (T := TX11) (N := 15) hx₀ hb hts inlX11 hown hK hP 1 rfl rfl 4 (by decide) (hts (.fieldLink RX11 42 "BittenStick" "trip" "LBittenStick$Trip;") wd_31) (fun _ h9 => h9) rfl dX11_climb_34 ?_
        refine lv_aload_n hx₀ hb dX11_climb_37 rfl (lv_at hl 0 rfl) ?_
        refine va_get (D := (dC, dI)) (ci := 10) (v := .ref aLa) (C := RX11) (T := TX11) (N := 15) hx₀ hb hts inlX11 hown hK hP 1 rfl rfl 0 (by decide) (hts (.fieldLink RX11 10 "BittenStick" "land" "LBittenStick$Land;") wd_15) (fun _ h9 => h9) rfl dX11_climb_38 ?_
        refine va_get (D := (dC, dI)) (ci := 4) (v := .int n4) (C := RX4) (T := TX4) (N := 4) hx₀ hb hts inlX4 hown hK hP 5 rfl rfl 3 (by decide) (hts (.fieldLink RX11 108 "BittenStick$Land" "number" "I") wd_285) (fun x9 h9 => u_same (hts (.sameField "BittenStick$Land" "BittenStick$Text" "number" "I") wd_286) x9 h9) rfl dX11_climb_41 ?_
        obtain ⟨hPc, hDc, hFc, hC⟩ := k_cw (wc := [(kX0 aBe k0 k1 k2 k3), (kX10 aTr aLa aPa aGe gL gR (gp_10 0) (gp_10 1) (g_6 8) (g_6 9) (g_6 10) (g_6 11) (g_6 12) (g_6 13) (g_6 14) (g_6 15) (g_6 16) (g_6 17)), (kX4 aLa vLa l4 a4 n4), (kAI vLa cI 24 f4)]) hP hD hS hA [0, 2, 5, 6] (by decide +kernel) rfl
        refine va_callv (va_runV (As := [.ref aTr, .int n4]) (rest := []) ⟨hx₀, hb, hml, hown, hts⟩ (j_plan l dC dI cI cJ cQ H.size aBe aTr n4 k0 k1 k2 k3 aLa aPa aGe gL gR (gp_10 0) (gp_10 1) (g_6 8) (g_6 9) (g_6 10) (g_6 11) (g_6 12) (g_6 13) (g_6 14) (g_6 15) (g_6 16) (g_6 17) vLa l4 a4 n4 f4) (cwV 2 hts (kGV wd_618 wd_615 wd_616 wd_617 wd_34) rfl rfl rfl (by decide +kernel) ⟨Nat.le_of_ble_eq_true rfl, Nat.le_of_ble_eq_true rfl⟩) (k_preV0 (q0 := 0) hK hPc hDc hN rfl) rfl rfl hl.1 rfl (lv_room (Nat.le_of_ble_eq_true rfl)) dX11_climb_44 ⟨by decide +kernel, by decide +kernel⟩) hS (fun q _ h => hFc q h) hFc (fun u₀ t₀ H1 locs ht hvm hw hB hz1 hk1 hS => ?_)
        obtain ⟨g_19, ga_20, gl_21, gb_22, gp_23⟩ := u₀
        obtain ⟨hP1, hK1, hD1⟩ := hB
        rw [ht] at hP1
        have hJ := k_jn (wr := [(kX11 hx aLa aPa aGe aFl aTr aBe aLu aLo vSf vSm vCo vSh xs xl xf), (kX3 gL (g_6 0) (g_6 1) (g_6 2) (g_6 3)), (kX3 gR (g_6 4) (g_6 5) (g_6 6) (g_6 7)), (kX7 aPa vPa l7 a7 n7), (kAI vPa cI 39 f7), (kX2 aGe vGe l2 a2 n2), (kAI vGe cI 23 f2), (kX1 aFl vFl xn), (kAI vFl cI 32 ff)]) (wt := [(kX11 hx aLa aPa aGe aFl aTr aBe aLu aLo vSf vSm vCo vSh xs xl xf), (kX3 gL (g_6 0) (g_6 1) (g_6 2) (g_6 3)), (kX3 gR (g_6 4) (g_6 5) (g_6 6) (g_6 7)), (kX7 aPa vPa l7 a7 n7), (kAI vPa cI 39 f7), (kX2 aGe vGe l2 a2 n2), (kAI vGe cI 23 f2), (kX1 aFl vFl xn), (kAI vFl cI 32 ff), (kX0 aBe (g_19 0) (g_19 1) (g_19 2) (g_19 3)), (kX10 aTr aLa aPa aGe gL gR (gp_10 0) (gp_10 1) (g_6 8) (g_6 9) (g_6 10) (g_6 11) (g_6 12) (g_6 13) (g_6 14) (g_19 4) (g_19 5) (g_19 6)), (kX4 aLa vLa l4 a4 n4), (kAI vLa cI 24 f4)]) hP hD hC [1, 3, 4, 7, 8, 9, 10, 11, 12] rfl (by decide +kernel) (by decide +kernel) hk1 hFc hP1 hD1 rfl
        clear hP hD hPc hDc hFc hC hP1 hD1 hK1 hz1 hk1 hvm ht
        obtain ⟨hP, hD⟩ := hJ
        generalize H1 = H at hP hS ⊢
        refine lv_aload_n hx₀ hb dX11_climb_47 rfl (lv_at hl 0 rfl) ?_
        refine va_get (D := (dC, dI)) (ci := 10) (v := .ref aBe) (C := RX11) (T := TX11) (N := 15) hx₀ hb hts inlX11 hown hK hP 0 rfl rfl 5 (by decide) (hts (.fieldLink RX11 49 "BittenStick" "best" "LBittenStick$Climb;") wd_35) (fun _ h9 => h9) rfl dX11_climb_48 ?_
        refine lv_iload_n hx₀ hb dX11_climb_51 rfl (lv_at hl 2 rfl) ?_
        obtain ⟨hPc, hDc, hFc, hC⟩ := k_cw (wc := [(kX0 aBe (g_19 0) (g_19 1) (g_19 2) (g_19 3))]) hP hD hS hA [9] (by decide +kernel) rfl
        refine va_calli (va_runV (As := [.int i1]) (rest := []) ⟨hx₀, hb, hml, hown, hts⟩ (j_cTold l dC dI cI cJ cQ H.size aBe i1 (g_19 0) (g_19 1) (g_19 2) (g_19 3)) (cwV 1 hts (kGV wd_640 wd_637 wd_638 wd_639 wd_34) rfl rfl rfl (by decide +kernel) ⟨Nat.le_of_ble_eq_true rfl, Nat.le_of_ble_eq_true rfl⟩) (k_preV0 (q0 := 0) hK hPc hDc hN rfl) rfl rfl hl.1 rfl (lv_room (Nat.le_of_ble_eq_true rfl)) dX11_climb_52 ⟨by decide +kernel, by decide +kernel⟩) hS (fun q _ h => hFc q h) hFc (fun r_24 u₀ t₀ H1 locs ht hvm hw hB hz1 hk1 hS => ?_)
        obtain ⟨hP1, hK1, hD1⟩ := hB
        rw [ht] at hP1
        have hJ := k_jn (wr := [(kX11 hx aLa aPa aGe aFl aTr aBe aLu aLo vSf vSm vCo vSh xs xl xf), (kX3 gL (g_6 0) (g_6 1) (g_6 2) (g_6 3)), (kX3 gR (g_6 4) (g_6 5) (g_6 6) (g_6 7)), (kX7 aPa vPa l7 a7 n7), (kAI vPa cI 39 f7), (kX2 aGe vGe l2 a2 n2), (kAI vGe cI 23 f2), (kX1 aFl vFl xn), (kAI vFl cI 32 ff), (kX10 aTr aLa aPa aGe gL gR (gp_10 0) (gp_10 1) (g_6 8) (g_6 9) (g_6 10) (g_6 11) (g_6 12) (g_6 13) (g_6 14) (g_19 4) (g_19 5) (g_19 6)), (kX4 aLa vLa l4 a4 n4), (kAI vLa cI 24 f4)]) (wt := [(kX11 hx aLa aPa aGe aFl aTr aBe aLu aLo vSf vSm vCo vSh xs xl xf), (kX3 gL (g_6 0) (g_6 1) (g_6 2) (g_6 3)), (kX3 gR (g_6 4) (g_6 5) (g_6 6) (g_6 7)), (kX7 aPa vPa l7 a7 n7), (kAI vPa cI 39 f7), (kX2 aGe vGe l2 a2 n2), (kAI vGe cI 23 f2), (kX1 aFl vFl xn), (kAI vFl cI 32 ff), (kX10 aTr aLa aPa aGe gL gR (gp_10 0) (gp_10 1) (g_6 8) (g_6 9) (g_6 10) (g_6 11) (g_6 12) (g_6 13) (g_6 14) (g_19 4) (g_19 5) (g_19 6)), (kX4 aLa vLa l4 a4 n4), (kAI vLa cI 24 f4), (kX0 aBe (g_19 0) (g_19 1) (g_19 2) (g_19 3))]) hP hD hC [0, 1, 2, 3, 4, 5, 6, 7, 8, 10, 11, 12] rfl (by decide +kernel) (by decide +kernel) hk1 hFc hP1 hD1 rfl
        clear hP hD hPc hDc hFc hC hP1 hD1 hK1 hz1 hk1 hvm ht
        obtain ⟨hP, hD⟩ := hJ
        generalize H1 = H at hP hS ⊢
        try dsimp only at hw
        obtain ⟨hP9, hD9⟩ := k_c2 (wc := [(kX11 hx aLa aPa aGe aFl aTr aBe aLu aLo vSf vSm vCo vSh xs xl xf), (kX10 aTr aLa aPa aGe gL gR (gp_10 0) (gp_10 1) (g_6 8) (g_6 9) (g_6 10) (g_6 11) (g_6 12) (g_6 13) (g_6 14) (g_19 4) (g_19 5) (g_19 6)), (kX3 gL (g_6 0) (g_6 1) (g_6 2) (g_6 3)), (kX3 gR (g_6 4) (g_6 5) (g_6 6) (g_6 7)), (kX4 aLa vLa l4 a4 n4), (kAI vLa cI 24 f4), (kX7 aPa vPa l7 a7 n7), (kAI vPa cI 39 f7), (kX2 aGe vGe l2 a2 n2), (kAI vGe cI 23 f2), (kX1 aFl vFl xn), (kAI vFl cI 32 ff), (kX0 aBe (g_19 0) (g_19 1) (g_19 2) (g_19 3))]) hP hD [0, 9, 1, 2, 10, 11, 3, 4, 5, 6, 7, 8, 12] (by decide +kernel) rfl
        exact W.iret (v := r_24) hx₀ hb hr (fun t₀ ht hW => ⟨⟨r_24, (k_fn [(g_6 0), (g_6 1), (g_6 2), (g_6 3), (g_6 4), (g_6 5), (g_6 6), (g_6 7), (g_6 8), (g_6 9), (g_6 10), (g_6 11), (g_6 12), (g_6 13), (g_6 14), (g_19 4), (g_19 5), (g_19 6), (g_19 0), (g_19 1), (g_19 2), (g_19 3)], k_fa [], k_fl [], k_fL [], k_fp [(gp_10 0), (gp_10 1)]), rfl, trivial, by rw [ht]; exact hP9, va_K.moved hW.alike hK, hD9⟩, hS.F ht⟩) hS.2.2 dX11_climb_55
      · refine lv_bipush (v := (-2)) hx₀ hb dX11_climb_21 (by decide +kernel) ?_
        obtain ⟨hP9, hD9⟩ := k_c2 (wc := [(kX11 hx aLa aPa aGe aFl aTr aBe aLu aLo vSf vSm vCo vSh xs xl xf), (kX10 aTr aLa aPa aGe gL gR lf rt tgo tca tki tso tbe twe tle tan tco ten), (kX3 gL u0 u1 u2 u3), (kX3 gR v0 v1 v2 v3), (kX4 aLa vLa l4 a4 n4), (kAI vLa cI 24 f4), (kX7 aPa vPa l7 a7 n7), (kAI vPa cI 39 f7), (kX2 aGe vGe l2 a2 n2), (kAI vGe cI 23 f2), (kX1 aFl vFl xn), (kAI vFl cI 32 ff), (kX0 aBe k0 k1 k2 k3)]) hP hD [0, 1, 2, 3, 4, 5, 6, 7, 8, 9, 12, 10, 11] (by decide +kernel) rfl
        exact W.iret (v := (-2)) hx₀ hb hr (fun t₀ ht hW => ⟨⟨(-2), (k_fn [u0, u1, u2, u3, v0, v1, v2, v3, tgo, tca, tki, tso, tbe, twe, tle, tan, tco, ten, k0, k1, k2, k3], k_fa [], k_fl [], k_fL [], k_fp [lf, rt]), rfl, trivial, by rw [ht]; exact hP9, va_K.moved hW.alike hK, hD9⟩, hS.F ht⟩) hS.2.2 dX11_climb_23
  rw [if_neg c_2] at hw
  refine k_topi (v := 0) hw ?_
  refine lv_if_eq (tgt := 21) hx₀ hb dX11_climb_8 (by decide) (fun _ => ?_) (fun c9 => absurd (by decide +kernel) c9)
  refine lv_bipush (v := (-2)) hx₀ hb dX11_climb_21 (by decide +kernel) ?_
  obtain ⟨hP9, hD9⟩ := k_c2 (wc := [(kX11 hx aLa aPa aGe aFl aTr aBe aLu aLo vSf vSm vCo vSh xs xl xf), (kX10 aTr aLa aPa aGe gL gR lf rt tgo tca tki tso tbe twe tle tan tco ten), (kX3 gL u0 u1 u2 u3), (kX3 gR v0 v1 v2 v3), (kX4 aLa vLa l4 a4 n4), (kAI vLa cI 24 f4), (kX7 aPa vPa l7 a7 n7), (kAI vPa cI 39 f7), (kX2 aGe vGe l2 a2 n2), (kAI vGe cI 23 f2), (kX1 aFl vFl xn), (kAI vFl cI 32 ff), (kX0 aBe k0 k1 k2 k3)]) hP hD [0, 1, 2, 3, 4, 5, 6, 7, 8, 9, 12, 10, 11] (by decide +kernel) rfl
  exact W.iret (v := (-2)) hx₀ hb hr (fun t₀ ht hW => ⟨⟨(-2), (k_fn [u0, u1, u2, u3, v0, v1, v2, v3, tgo, tca, tki, tso, tbe, twe, tle, tan, tco, ten, k0, k1, k2, k3], k_fa [], k_fl [], k_fL [], k_fp [lf, rt]), rfl, trivial, by rw [ht]; exact hP9, va_K.moved hW.alike hK, hD9⟩, hS.F ht⟩) hS.2.2 dX11_climb_23
theorem lf_j_practice_1 (a0 : Int32) (a1 : Nat) (h0 : 0 ≤ a0 ∧ a0 ≤ 64) (h1 : (64 - a0.toInt).toNat = a1) (h2 : ¬ 64 ≤ a0) : 0 ≤ (a0 + 1) ∧ (a0 + 1) ≤ 64 := by
  first | (first | omega | (have hr0 := Int32.toInt_lt a0; have hs0 := Int32.le_toInt a0; simp only [Int64.toInt_add, Int64.toInt_sub, Int32.toInt_add, Int32.toInt_sub, Int32.toInt_mul, Int64.le_iff_toInt_le, Int64.lt_iff_toInt_lt, Int32.le_iff_toInt_le, Int32.lt_iff_toInt_lt, ← Int32.toInt_inj, ← Int64.toInt_inj, Int32.toInt_toInt64, kc_0, kc_1, kc_64, true_and, and_true, not_true_eq_false, not_false_eq_true] at * <;> ((first | omega | ((try simp (disch := omega) only [k_bm64] at *); (try simp (disch := omega) only [k_bm] at *); (try simp (disch := omega) only [k_bm] at *); omega) | (simp only [Int.bmod] at *; omega))))) | with_reducible assumption | rfl
theorem lf_j_practice_2 (a0 : Int32) (a1 : Nat) (h0 : 0 ≤ a0 ∧ a0 ≤ 64) (h1 : (64 - a0.toInt).toNat = a1) (h2 : ¬ 64 ≤ a0) : (64 - (a0 + 1).toInt).toNat < a1 := by
  first | (first | omega | (have hr0 := Int32.toInt_lt a0; have hs0 := Int32.le_toInt a0; simp only [Int64.toInt_add, Int64.toInt_sub, Int32.toInt_add, Int32.toInt_sub, Int32.toInt_mul, Int64.le_iff_toInt_le, Int64.lt_iff_toInt_lt, Int32.le_iff_toInt_le, Int32.lt_iff_toInt_lt, ← Int32.toInt_inj, ← Int64.toInt_inj, Int32.toInt_toInt64, kc_0, kc_1, kc_64, true_and, and_true, not_true_eq_false, not_false_eq_true] at * <;> ((first | omega | ((try simp (disch := omega) only [k_bm64] at *); (try simp (disch := omega) only [k_bm] at *); (try simp (disch := omega) only [k_bm] at *); omega) | (simp only [Int.bmod] at *; omega))))) | with_reducible assumption | rfl
set_option maxHeartbeats 4000000 in
set_option maxRecDepth 100000 in
theorem j_practice (l : Launch) (dC : Nat → ClassId) (dI : Nat → Nat → Nat) (cI cJ cQ : ClassId) (sz : Nat) (hx : Nat) (f1 : Int32) (w1 : Int32) (aLa : Nat) (aPa : Nat) (aGe : Nat) (aFl : Nat) (aTr : Nat) (aBe : Nat) (aLu : Nat) (aLo : Nat) (vSf : Nat) (vSm : Nat) (vCo : Nat) (vSh : Nat) (xs : Int32) (xl : Int32) (xf : Int32) (gL : Nat) (gR : Nat) (lf : Nat) (rt : Nat) (tgo : Int32) (tca : Int32) (tki : Int32) (tso : Int32) (tbe : Int32) (twe : Int32) (tle : Int32) (tan : Int32) (tco : Int32) (ten : Int32) (u0 : Int32) (u1 : Int32) (u2 : Int32) (u3 : Int32) (v0 : Int32) (v1 : Int32) (v2 : Int32) (v3 : Int32) (vLa : Nat) (l4 : Int32) (a4 : Int32) (n4 : Int32) (f4 : Nat → Int32) (vPa : Nat) (l7 : Int32) (a7 : Int32) (n7 : Int32) (f7 : Nat → Int32) (vGe : Nat) (l2 : Int32) (a2 : Int32) (n2 : Int32) (f2 : Nat → Int32) (vFl : Nat) (xn : Int32) (ff : Nat → Int32) (hh0 : 0 ≤ n4 ∧ n4 ≤ 24) (hh1 : 0 ≤ xn ∧ xn ≤ 8) : Met l yX11_practice (kW yX11_practice cX11_practice 7 (some .int)) { frames := 4, cells := 0, slots := 0, locals := 90 } (kPre dC dI cI cJ cQ sz [.ref hx, .int f1, .int w1] [(kX11 hx aLa aPa aGe aFl aTr aBe aLu aLo vSf vSm vCo vSh xs xl xf), (kX10 aTr aLa aPa aGe gL gR lf rt tgo tca tki tso tbe twe tle tan tco ten), (kX3 gL u0 u1 u2 u3), (kX3 gR v0 v1 v2 v3), (kX4 aLa vLa l4 a4 n4), (kAI vLa cI 24 f4), (kX7 aPa vPa l7 a7 n7), (kAI vPa cI 39 f7), (kX2 aGe vGe l2 a2 n2), (kAI vGe cI 23 f2), (kX1 aFl vFl xn), (kAI vFl cI 32 ff)]) (va_Qi (fun (r : Int32) (u : kS) => True) (fun (u : kS) t₀ => kB dC dI cI cJ cQ (va_A [(kX11 hx aLa aPa aGe aFl aTr aBe aLu aLo vSf vSm vCo vSh xs xl xf), (kX10 aTr aLa aPa aGe gL gR lf rt tgo tca tki tso tbe twe tle tan tco ten), (kX3 gL u0 u1 u2 u3), (kX3 gR v0 v1 v2 v3), (kX4 aLa vLa l4 a4 n4), (kAI vLa cI 24 f4), (kX7 aPa vPa l7 a7 n7), (kAI vPa cI 39 f7), (kX2 aGe vGe l2 a2 n2), (kAI vGe cI 23 f2), (kX1 aFl vFl xn), (kAI vFl cI 32 ff)] sz) [(kX11 hx aLa aPa aGe aFl aTr aBe aLu aLo vSf vSm vCo vSh xs xl xf), (kX10 aTr aLa aPa aGe gL gR (u.2.2.2.2 0) (u.2.2.2.2 1) (u.1 8) (u.1 9) (u.1 10) (u.1 11) (u.1 12) (u.1 13) (u.1 14) (u.1 15) (u.1 16) (u.1 17)), (kX3 gL (u.1 0) (u.1 1) (u.1 2) (u.1 3)), (kX3 gR (u.1 4) (u.1 5) (u.1 6) (u.1 7)), (kX4 aLa vLa l4 a4 n4), (kAI vLa cI 24 f4), (kX7 aPa vPa l7 a7 n7), (kAI vPa cI 39 f7), (kX2 aGe vGe l2 a2 n2), (kAI vGe cI 23 f2), (kX1 aFl vFl xn), (kAI vFl cI 32 ff)] t₀) (va_A [(kX11 hx aLa aPa aGe aFl aTr aBe aLu aLo vSf vSm vCo vSh xs xl xf), (kX10 aTr aLa aPa aGe gL gR lf rt tgo tca tki tso tbe twe tle tan tco ten), (kX3 gL u0 u1 u2 u3), (kX3 gR v0 v1 v2 v3), (kX4 aLa vLa l4 a4 n4), (kAI vLa cI 24 f4), (kX7 aPa vPa l7 a7 n7), (kAI vPa cI 39 f7), (kX2 aGe vGe l2 a2 n2), (kAI vGe cI 23 f2), (kX1 aFl vFl xn), (kAI vFl cI 32 ff)] sz)) 0 0 (va_A [(kX11 hx aLa aPa aGe aFl aTr aBe aLu aLo vSf vSm vCo vSh xs xl xf), (kX10 aTr aLa aPa aGe gL gR lf rt tgo tca tki tso tbe twe tle tan tco ten), (kX3 gL u0 u1 u2 u3), (kX3 gR v0 v1 v2 v3), (kX4 aLa vLa l4 a4 n4), (kAI vLa cI 24 f4), (kX7 aPa vPa l7 a7 n7), (kAI vPa cI 39 f7), (kX2 aGe vGe l2 a2 n2), (kAI vGe cI 23 f2), (kX1 aFl vFl xn), (kAI vFl cI 32 ff)] sz) := by
  refine Met.ofW (cc := cX11_practice) (maxL := 7) (ret := (some .int)) (by decide) rfl ?_
  intro p₀ e₀ s₀ m₀ args below meth c₀ s₁ B hml hv₀
  obtain ⟨rfl, hsz, hP, hK, hD0, hN⟩ := hv₀
  have hx₀ := B.exec
  have hb := B.bytes
  have hr := B.returns
  have hts := atoms_spec (ws := (kW yX11_practice cX11_practice 7 (some .int))) B.pre
  have hts := fun w h => hts w (List.mem_cons_of_mem _ h)
  have hown : s₀.vm.findClass RX11 = some m₀.cls := findClass_of_methodNamed B.named
  have hlocks := B.notSynchronized
  subst hsz
  have hD := hD0.self (sz := s₀.heap.size)
  generalize hAe : va_A [(kX11 hx aLa aPa aGe aFl aTr aBe aLu aLo vSf vSm vCo vSh xs xl xf), (kX10 aTr aLa aPa aGe gL gR lf rt tgo tca tki tso tbe twe tle tan tco ten), (kX3 gL u0 u1 u2 u3), (kX3 gR v0 v1 v2 v3), (kX4 aLa vLa l4 a4 n4), (kAI vLa cI 24 f4), (kX7 aPa vPa l7 a7 n7), (kAI vPa cI 39 f7), (kX2 aGe vGe l2 a2 n2), (kAI vGe cI 23 f2), (kX1 aFl vFl xn), (kAI vFl cI 32 ff)] s₀.heap.size = A at hD ⊢
  have hA : ∀ q : Nat, s₀.heap.size ≤ q → A q := fun q h => by rw [← hAe]; exact Or.inr h
  have hS : va_S A s₀.heap s₀.heap [] := va_S.rf
  have hP : va_P (dC, dI) vwCl [(kX11 hx aLa aPa aGe aFl aTr aBe aLu aLo vSf vSm vCo vSh xs xl xf), (kX10 aTr aLa aPa aGe gL gR lf rt tgo tca tki tso tbe twe tle tan tco ten), (kX3 gL u0 u1 u2 u3), (kX3 gR v0 v1 v2 v3), (kX4 aLa vLa l4 a4 n4), (kAI vLa cI 24 f4), (kX7 aPa vPa l7 a7 n7), (kAI vPa cI 39 f7), (kX2 aGe vGe l2 a2 n2), (kAI vGe cI 23 f2), (kX1 aFl vFl xn), (kAI vFl cI 32 ff)] s₀.heap := hP
  have hl := lv_entry ([.ref hx, .int f1, .int w1]) (n := 7) (Nat.le_of_ble_eq_true rfl)
  rw [lg_entry_eq]
  generalize (lg_sl ([.ref hx, .int f1, .int w1]) ++ List.replicate (7 - (lg_sl ([.ref hx, .int f1, .int w1])).length) Slot.unset).toArray = ls at hl ⊢
  have hl : lv_has ls 7 [(0, .ref hx), (1, .int f1), (2, .int w1)] := hl
  obtain ⟨H, hH⟩ : ∃ z : Heap, z = s₀.heap := ⟨_, rfl⟩
  rw [← hH] at hP
  have hS : va_S A s₀.heap H [] := by rw [hH]; exact hS
  refine k_heap hH ?_
  have hD : va_D A [(kX11 hx aLa aPa aGe aFl aTr aBe aLu aLo vSf vSm vCo vSh xs xl xf), (kX10 aTr aLa aPa aGe gL gR lf rt tgo tca tki tso tbe twe tle tan tco ten), (kX3 gL u0 u1 u2 u3), (kX3 gR v0 v1 v2 v3), (kX4 aLa vLa l4 a4 n4), (kAI vLa cI 24 f4), (kX7 aPa vPa l7 a7 n7), (kAI vPa cI 39 f7), (kX2 aGe vGe l2 a2 n2), (kAI vGe cI 23 f2), (kX1 aFl vFl xn), (kAI vFl cI 32 ff)] := hD
  obtain ⟨locs, hlo⟩ : ∃ z : List Loc, z = [] := ⟨_, rfl⟩
  rw [← hlo] at hS ⊢
  clear hlo hH hAe hD0
  refine lv_aload_n hx₀ hb dX11_practice_0 rfl (lv_at hl 0 rfl) ?_
  refine va_get (D := (dC, dI)) (ci := 10) (v := .ref aFl) (C := RX11) (T := TX11) (N := 15) hx₀ hb hts inlX11 hown hK hP 0 rfl rfl 3 (by decide) (hts (.fieldLink RX11 33 "BittenStick" "flights" "LBittenStick$Flights;") wd_27) (fun _ h9 => h9) rfl dX11_practice_1 ?_
  refine lv_iload_n hx₀ hb dX11_practice_4 rfl (lv_at hl 1 rfl) ?_
  obtain ⟨hPc, hDc, hFc, hC⟩ := k_cw (wc := [(kX1 aFl vFl xn)]) hP hD hS hA [10] (by decide +kernel) rfl
  refine va_calli (va_runV (As := [.int f1]) (rest := []) ⟨hx₀, hb, hml, hown, hts⟩ (j_fHas l dC dI cI cJ cQ H.size aFl f1 vFl xn) (cwV 1 hts (kGV wd_426 wd_423 wd_424 wd_425 wd_26) rfl rfl rfl (by decide +kernel) ⟨Nat.le_of_ble_eq_true rfl, Nat.le_of_ble_eq_true rfl⟩) (k_preV1 (q0 := 0) hK hPc hDc hN rfl) rfl rfl hl.1 rfl (lv_room (Nat.le_of_ble_eq_true rfl)) dX11_practice_5 ⟨by decide +kernel, by decide +kernel⟩) hS (fun q _ h => hFc q h) hFc (fun r_1 u₀ t₀ H1 locs ht hvm hw hB hz1 hk1 hS => ?_)
  obtain ⟨hP1, hK1, hD1⟩ := hB
  rw [ht] at hP1
  have hJ := k_jn (wr := [(kX11 hx aLa aPa aGe aFl aTr aBe aLu aLo vSf vSm vCo vSh xs xl xf), (kX10 aTr aLa aPa aGe gL gR lf rt tgo tca tki tso tbe twe tle tan tco ten), (kX3 gL u0 u1 u2 u3), (kX3 gR v0 v1 v2 v3), (kX4 aLa vLa l4 a4 n4), (kAI vLa cI 24 f4), (kX7 aPa vPa l7 a7 n7), (kAI vPa cI 39 f7), (kX2 aGe vGe l2 a2 n2), (kAI vGe cI 23 f2), (kAI vFl cI 32 ff)]) (wt := [(kX11 hx aLa aPa aGe aFl aTr aBe aLu aLo vSf vSm vCo vSh xs xl xf), (kX10 aTr aLa aPa aGe gL gR lf rt tgo tca tki tso tbe twe tle tan tco ten), (kX3 gL u0 u1 u2 u3), (kX3 gR v0 v1 v2 v3), (kX4 aLa vLa l4 a4 n4), (kAI vLa cI 24 f4), (kX7 aPa vPa l7 a7 n7), (kAI vPa cI 39 f7), (kX2 aGe vGe l2 a2 n2), (kAI vGe cI 23 f2), (kAI vFl cI 32 ff), (kX1 aFl vFl xn)]) hP hD hC [0, 1, 2, 3, 4, 5, 6, 7, 8, 9, 11] rfl (by decide +kernel) (by decide +kernel) hk1 hFc hP1 hD1 rfl
  clear hP hD hPc hDc hFc hC hP1 hD1 hK1 hz1 hk1 hvm ht
  obtain ⟨hP, hD⟩ := hJ
  generalize H1 = H at hP hS ⊢
  try dsimp only at hw
  by_cases c_2 : 0 ≤ f1 ∧ f1 < xn
  · rw [if_pos c_2] at hw
    refine k_topi (v := 1) hw ?_
    refine lv_if_eq (tgt := 20) hx₀ hb dX11_practice_8 (by decide) (fun c9 => absurd c9 (by decide +kernel)) (fun _ => ?_)
    refine lv_iload_n hx₀ hb dX11_practice_11 rfl (lv_at hl 2 rfl) ?_
    refine lv_if_lt (tgt := 20) hx₀ hb dX11_practice_12 (by decide) (fun c_3 => ?_) (fun c_3 => ?_)
    · refine lv_bipush (v := (-2)) hx₀ hb dX11_practice_20 (by decide +kernel) ?_
      obtain ⟨hP9, hD9⟩ := k_c2 (wc := [(kX11 hx aLa aPa aGe aFl aTr aBe aLu aLo vSf vSm vCo vSh xs xl xf), (kX10 aTr aLa aPa aGe gL gR lf rt tgo tca tki tso tbe twe tle tan tco ten), (kX3 gL u0 u1 u2 u3), (kX3 gR v0 v1 v2 v3), (kX4 aLa vLa l4 a4 n4), (kAI vLa cI 24 f4), (kX7 aPa vPa l7 a7 n7), (kAI vPa cI 39 f7), (kX2 aGe vGe l2 a2 n2), (kAI vGe cI 23 f2), (kX1 aFl vFl xn), (kAI vFl cI 32 ff)]) hP hD [0, 1, 2, 3, 4, 5, 6, 7, 8, 9, 11, 10] (by decide +kernel) rfl
      exact W.iret (v := (-2)) hx₀ hb hr (fun t₀ ht hW => ⟨⟨(-2), (k_fn [u0, u1, u2, u3, v0, v1, v2, v3, tgo, tca, tki, tso, tbe, twe, tle, tan, tco, ten], k_fa [], k_fl [], k_fL [], k_fp [lf, rt]), rfl, trivial, by rw [ht]; exact hP9, va_K.moved hW.alike hK, hD9⟩, hS.F ht⟩) hS.2.2 dX11_practice_22
    · refine lv_iload_n hx₀ hb dX11_practice_15 rfl (lv_at hl 2 rfl) ?_
      refine lv_iconst (v := 1) hx₀ hb dX11_practice_16 (by decide +kernel) ?_
      refine lv_icmp_le (tgt := 23) hx₀ hb dX11_practice_17 (by decide) (fun c_4 => ?_) (fun c_4 => ?_)
      · refine lv_aload_n hx₀ hb dX11_practice_23 rfl (lv_at hl 0 rfl) ?_
        refine lv_iload_n hx₀ hb dX11_practice_24 rfl (lv_at hl 1 rfl) ?_
        obtain ⟨hPc, hDc, hFc, hC⟩ := k_cw (wc := [(kX11 hx aLa aPa aGe aFl aTr aBe aLu aLo vSf vSm vCo vSh xs xl xf), (kX10 aTr aLa aPa aGe gL gR lf rt tgo tca tki tso tbe twe tle tan tco ten), (kX3 gL u0 u1 u2 u3), (kX3 gR v0 v1 v2 v3), (kX4 aLa vLa l4 a4 n4), (kAI vLa cI 24 f4), (kX7 aPa vPa l7 a7 n7), (kAI vPa cI 39 f7), (kX2 aGe vGe l2 a2 n2), (kAI vGe cI 23 f2), (kX1 aFl vFl xn), (kAI vFl cI 32 ff)]) hP hD hS hA [0, 1, 2, 3, 4, 5, 6, 7, 8, 9, 11, 10] (by decide +kernel) rfl
        refine va_callv (va_runV (As := [.int f1]) (rest := []) ⟨hx₀, hb, hml, hown, hts⟩ (j_prepare l dC dI cI cJ cQ H.size hx f1 aLa aPa aGe aFl aTr aBe aLu aLo vSf vSm vCo vSh xs xl xf gL gR lf rt tgo tca tki tso tbe twe tle tan tco ten u0 u1 u2 u3 v0 v1 v2 v3 vLa l4 a4 n4 f4 vPa l7 a7 n7 f7 vGe l2 a2 n2 f2 vFl xn ff (hh0) (hh1)) (cwV 1 hts (kGV wd_430 wd_427 wd_428 wd_429 wd_2) rfl rfl rfl (by decide +kernel) ⟨Nat.le_of_ble_eq_true rfl, Nat.le_of_ble_eq_true rfl⟩) (k_preV10 (q0 := 0) hK hPc hDc hN rfl) rfl rfl hl.1 rfl (lv_room (Nat.le_of_ble_eq_true rfl)) dX11_practice_25 ⟨by decide +kernel, by decide +kernel⟩) hS (fun q _ h => hFc q h) hFc (fun u₀ t₀ H1 locs ht hvm hw hB hz1 hk1 hS => ?_)
        obtain ⟨g_6, ga_7, gl_8, gb_9, gp_10⟩ := u₀
        obtain ⟨hP1, hK1, hD1⟩ := hB
        rw [ht] at hP1
        have hJ := k_jn (wr := []) (wt := [(kX11 hx aLa aPa aGe aFl aTr aBe aLu aLo vSf vSm vCo vSh xs xl xf), (kX10 aTr aLa aPa aGe gL gR (gp_10 0) (gp_10 1) (g_6 8) (g_6 9) (g_6 10) (g_6 11) (g_6 12) (g_6 13) (g_6 14) (g_6 15) (g_6 16) (g_6 17)), (kX3 gL (g_6 0) (g_6 1) (g_6 2) (g_6 3)), (kX3 gR (g_6 4) (g_6 5) (g_6 6) (g_6 7)), (kX4 aLa vLa l4 a4 n4), (kAI vLa cI 24 f4), (kX7 aPa vPa l7 a7 n7), (kAI vPa cI 39 f7), (kX2 aGe vGe l2 a2 n2), (kAI vGe cI 23 f2), (kX1 aFl vFl xn), (kAI vFl cI 32 ff)]) hP hD hC [] rfl (by decide +kernel) (by decide +kernel) hk1 hFc hP1 hD1 rfl
        clear hP hD hPc hDc hFc hC hP1 hD1 hK1 hz1 hk1 hvm ht
        obtain ⟨hP, hD⟩ := hJ
        generalize H1 = H at hP hS ⊢
        try dsimp only at hw
        obtain ⟨c_11, c_12, c_13, c_14, c_15, c_16, c_17⟩ := hw
        refine lv_bipush (v := 7) hx₀ hb dX11_practice_28 (by decide +kernel) ?_
        refine lv_istore_n (lv' := [(3, .int 7), (0, .ref hx), (1, .int f1), (2, .int w1)]) hx₀ hb dX11_practice_30 rfl hl (by decide) rfl (fun ls hl => ?_)
        refine lv_iconst (v := (-1)) hx₀ hb dX11_practice_31 (by decide +kernel) ?_
        refine lv_istore (lv' := [(4, .int (-1)), (3, .int 7), (0, .ref hx), (1, .int f1), (2, .int w1)]) hx₀ hb dX11_practice_32 hl (by decide) rfl (fun ls hl => ?_)
        refine lv_iconst (v := 0) hx₀ hb dX11_practice_34 (by decide +kernel) ?_
        refine lv_istore (lv' := [(5, .int 0), (4, .int (-1)), (3, .int 7), (0, .ref hx), (1, .int f1), (2, .int w1)]) hx₀ hb dX11_practice_35 hl (by decide) rfl (fun ls hl => ?_)
        refine (?keyz18 : ∀ (jz18 : Nat) (fwz18 : Int32) (biz18 : Int32) (clz18 : Int32) (ygoez18 : Int32) (ycarz18 : Int32) (ykinz18 : Int32) (ysorz18 : Int32) (ybeaz18 : Int32) (yweiz18 : Int32) (yleaz18 : Int32) (yangz18 : Int32) (ycolz18 : Int32) (yendz18 : Int32) (pz18 : Nat) (qz18 : Nat) (w0z18 : Int32) (w1z18 : Int32) (w2z18 : Int32) (w3z18 : Int32) (z0z18 : Int32) (z1z18 : Int32) (z2z18 : Int32) (z3z18 : Int32) (H : Heap) (locs : List Loc) (ls : Array Slot), (0 ≤ clz18 ∧ clz18 ≤ 64) → ((64 - clz18.toInt).toNat = jz18) → va_P (dC, dI) vwCl [(kX11 hx aLa aPa aGe aFl aTr aBe aLu aLo vSf vSm vCo vSh xs xl xf), (kX10 aTr aLa aPa aGe gL gR pz18 qz18 ygoez18 ycarz18 ykinz18 ysorz18 ybeaz18 yweiz18 yleaz18 yangz18 ycolz18 yendz18), (kX3 gL w0z18 w1z18 w2z18 w3z18), (kX3 gR z0z18 z1z18 z2z18 z3z18), (kX4 aLa vLa l4 a4 n4), (kAI vLa cI 24 f4), (kX7 aPa vPa l7 a7 n7), (kAI vPa cI 39 f7), (kX2 aGe vGe l2 a2 n2), (kAI vGe cI 23 f2), (kX1 aFl vFl xn), (kAI vFl cI 32 ff)] H → va_D A [(kX11 hx aLa aPa aGe aFl aTr aBe aLu aLo vSf vSm vCo vSh xs xl xf), (kX10 aTr aLa aPa aGe gL gR pz18 qz18 ygoez18 ycarz18 ykinz18 ysorz18 ybeaz18 yweiz18 yleaz18 yangz18 ycolz18 yendz18), (kX3 gL w0z18 w1z18 w2z18 w3z18), (kX3 gR z0z18 z1z18 z2z18 z3z18), (kX4 aLa vLa l4 a4 n4), (kAI vLa cI 24 f4), (kX7 aPa vPa l7 a7 n7), (kAI vPa cI 39 f7), (kX2 aGe vGe l2 a2 n2), (kAI vGe cI 23 f2), (kX1 aFl vFl xn), (kAI vFl cI 32 ff)] → va_S A s₀.heap H locs → lv_has ls 7 [(5, .int clz18), (4, .int biz18), (3, .int fwz18), (0, .ref hx), (1, .int f1), (2, .int w1)] → W p₀ l e₀ _ s₀ m₀ _ below meth c₀ H locs _ _ _ (F0 m₀ 37 ls [])) _ (7 : Int32) (-1 : Int32) (0 : Int32) (g_6 8) (g_6 9) (g_6 10) (g_6 11) (g_6 12) (g_6 13) (g_6 14) (g_6 15) (g_6 16) (g_6 17) (gp_10 0) (gp_10 1) (g_6 0) (g_6 1) (g_6 2) (g_6 3) (g_6 4) (g_6 5) (g_6 6) (g_6 7) H locs ls (show 0 ≤ (0 : Int32) ∧ (0 : Int32) ≤ 64 from ⟨(by decide), (by decide)⟩) rfl hP hD hS hl
        clear hP hD hS hl
        intro jz18
        induction jz18 using Nat.strongRecOn with
        | ind jz18 ihz18 =>
          intro fwz18 biz18 clz18 ygoez18 ycarz18 ykinz18 ysorz18 ybeaz18 yweiz18 yleaz18 yangz18 ycolz18 yendz18 pz18 qz18 w0z18 w1z18 w2z18 w3z18 z0z18 z1z18 z2z18 z3z18 H locs ls hiz18_0 hjz18 hP hD hS hl
          refine lv_iload hx₀ hb dX11_practice_37 (lv_at hl 0 rfl) ?_
          refine lv_bipush (v := 64) hx₀ hb dX11_practice_39 (by decide +kernel) ?_
          refine lv_icmp_ge (tgt := 105) hx₀ hb dX11_practice_41 (by decide) (fun c_19 => ?_) (fun c_19 => ?_)
          · refine lv_iload hx₀ hb dX11_practice_105 (lv_at hl 1 rfl) ?_
            refine lv_iconst (v := (-1)) hx₀ hb dX11_practice_107 (by decide +kernel) ?_
            refine lv_icmp_ne (tgt := 113) hx₀ hb dX11_practice_108 (by decide) (fun c_20 => ?_) (fun c_20 => ?_)
            · refine lv_iload_n hx₀ hb dX11_practice_113 rfl (lv_at hl 5 rfl) ?_
              refine lv_if_ne (tgt := 121) hx₀ hb dX11_practice_114 (by decide) (fun c_21 => ?_) (fun c_21 => ?_)
              · refine lv_iload hx₀ hb dX11_practice_121 (lv_at hl 1 rfl) ?_
                obtain ⟨hP9, hD9⟩ := k_c2 (wc := [(kX11 hx aLa aPa aGe aFl aTr aBe aLu aLo vSf vSm vCo vSh xs xl xf), (kX10 aTr aLa aPa aGe gL gR pz18 qz18 ygoez18 ycarz18 ykinz18 ysorz18 ybeaz18 yweiz18 yleaz18 yangz18 ycolz18 yendz18), (kX3 gL w0z18 w1z18 w2z18 w3z18), (kX3 gR z0z18 z1z18 z2z18 z3z18), (kX4 aLa vLa l4 a4 n4), (kAI vLa cI 24 f4), (kX7 aPa vPa l7 a7 n7), (kAI vPa cI 39 f7), (kX2 aGe vGe l2 a2 n2), (kAI vGe cI 23 f2), (kX1 aFl vFl xn), (kAI vFl cI 32 ff)]) hP hD [0, 1, 2, 3, 4, 5, 6, 7, 8, 9, 10, 11] (by decide +kernel) rfl
                exact W.iret (v := biz18) hx₀ hb hr (fun t₀ ht hW => ⟨⟨biz18, (k_fn [w0z18, w1z18, w2z18, w3z18, z0z18, z1z18, z2z18, z3z18, ygoez18, ycarz18, ykinz18, ysorz18, ybeaz18, yweiz18, yleaz18, yangz18, ycolz18, yendz18], k_fa [], k_fl [], k_fL [], k_fp [pz18, qz18]), rfl, trivial, by rw [ht]; exact hP9, va_K.moved hW.alike hK, hD9⟩, hS.F ht⟩) hS.2.2 dX11_practice_123
              · refine lv_iload_n hx₀ hb dX11_practice_117 rfl (lv_at hl 2 rfl) ?_
                refine lv_goto (tgt := 123) hx₀ hb dX11_practice_118 (by decide) ?_
                obtain ⟨hP9, hD9⟩ := k_c2 (wc := [(kX11 hx aLa aPa aGe aFl aTr aBe aLu aLo vSf vSm vCo vSh xs xl xf), (kX10 aTr aLa aPa aGe gL gR pz18 qz18 ygoez18 ycarz18 ykinz18 ysorz18 ybeaz18 yweiz18 yleaz18 yangz18 ycolz18 yendz18), (kX3 gL w0z18 w1z18 w2z18 w3z18), (kX3 gR z0z18 z1z18 z2z18 z3z18), (kX4 aLa vLa l4 a4 n4), (kAI vLa cI 24 f4), (kX7 aPa vPa l7 a7 n7), (kAI vPa cI 39 f7), (kX2 aGe vGe l2 a2 n2), (kAI vGe cI 23 f2), (kX1 aFl vFl xn), (kAI vFl cI 32 ff)]) hP hD [0, 1, 2, 3, 4, 5, 6, 7, 8, 9, 10, 11] (by decide +kernel) rfl
                exact W.iret (v := fwz18) hx₀ hb hr (fun t₀ ht hW => ⟨⟨fwz18, (k_fn [w0z18, w1z18, w2z18, w3z18, z0z18, z1z18, z2z18, z3z18, ygoez18, ycarz18, ykinz18, ysorz18, ybeaz18, yweiz18, yleaz18, yangz18, ycolz18, yendz18], k_fa [], k_fl [], k_fL [], k_fp [pz18, qz18]), rfl, trivial, by rw [ht]; exact hP9, va_K.moved hW.alike hK, hD9⟩, hS.F ht⟩) hS.2.2 dX11_practice_123
            · refine lv_iconst (v := (-1)) hx₀ hb dX11_practice_111 (by decide +kernel) ?_
              obtain ⟨hP9, hD9⟩ := k_c2 (wc := [(kX11 hx aLa aPa aGe aFl aTr aBe aLu aLo vSf vSm vCo vSh xs xl xf), (kX10 aTr aLa aPa aGe gL gR pz18 qz18 ygoez18 ycarz18 ykinz18 ysorz18 ybeaz18 yweiz18 yleaz18 yangz18 ycolz18 yendz18), (kX3 gL w0z18 w1z18 w2z18 w3z18), (kX3 gR z0z18 z1z18 z2z18 z3z18), (kX4 aLa vLa l4 a4 n4), (kAI vLa cI 24 f4), (kX7 aPa vPa l7 a7 n7), (kAI vPa cI 39 f7), (kX2 aGe vGe l2 a2 n2), (kAI vGe cI 23 f2), (kX1 aFl vFl xn), (kAI vFl cI 32 ff)]) hP hD [0, 1, 2, 3, 4, 5, 6, 7, 8, 9, 10, 11] (by decide +kernel) rfl
              exact W.iret (v := (-1)) hx₀ hb hr (fun t₀ ht hW => ⟨⟨(-1), (k_fn [w0z18, w1z18, w2z18, w3z18, z0z18, z1z18, z2z18, z3z18, ygoez18, ycarz18, ykinz18, ysorz18, ybeaz18, yweiz18, yleaz18, yangz18, ycolz18, yendz18], k_fa [], k_fl [], k_fL [], k_fp [pz18, qz18]), rfl, trivial, by rw [ht]; exact hP9, va_K.moved hW.alike hK, hD9⟩, hS.F ht⟩) hS.2.2 dX11_practice_112
          · refine lv_iload hx₀ hb dX11_practice_44 (lv_at hl 0 rfl) ?_
            obtain ⟨hPc, hDc, hFc, hC⟩ := k_cw (wc := []) hP hD hS hA [] (by decide +kernel) rfl
            refine va_calli (va_runS (As := [.int clz18]) (rest := []) ⟨hx₀, hb, hml, hown, hts⟩ (j_bitCount l dC dI cI cJ cQ H.size clz18) (va_cwS 1 hts (kGS wd_657 wd_654 wd_655 wd_656) rfl rfl rfl (by decide +kernel) ⟨Nat.le_of_ble_eq_true rfl, Nat.le_of_ble_eq_true rfl⟩) (k_preS hK hPc hDc hN) rfl rfl hl.1 rfl (lv_room (Nat.le_of_ble_eq_true rfl)) dX11_practice_46 ⟨by decide +kernel, by decide +kernel⟩) hS (fun q _ h => hFc q h) hFc (fun r_22 u₀ t₀ H1 locs ht hvm hw hB hz1 hk1 hS => ?_)
            obtain ⟨hP1, hK1, hD1⟩ := hB
            rw [ht] at hP1
            have hJ := k_jn (wr := [(kX11 hx aLa aPa aGe aFl aTr aBe aLu aLo vSf vSm vCo vSh xs xl xf), (kX10 aTr aLa aPa aGe gL gR pz18 qz18 ygoez18 ycarz18 ykinz18 ysorz18 ybeaz18 yweiz18 yleaz18 yangz18 ycolz18 yendz18), (kX3 gL w0z18 w1z18 w2z18 w3z18), (kX3 gR z0z18 z1z18 z2z18 z3z18), (kX4 aLa vLa l4 a4 n4), (kAI vLa cI 24 f4), (kX7 aPa vPa l7 a7 n7), (kAI vPa cI 39 f7), (kX2 aGe vGe l2 a2 n2), (kAI vGe cI 23 f2), (kX1 aFl vFl xn), (kAI vFl cI 32 ff)]) (wt := [(kX11 hx aLa aPa aGe aFl aTr aBe aLu aLo vSf vSm vCo vSh xs xl xf), (kX10 aTr aLa aPa aGe gL gR pz18 qz18 ygoez18 ycarz18 ykinz18 ysorz18 ybeaz18 yweiz18 yleaz18 yangz18 ycolz18 yendz18), (kX3 gL w0z18 w1z18 w2z18 w3z18), (kX3 gR z0z18 z1z18 z2z18 z3z18), (kX4 aLa vLa l4 a4 n4), (kAI vLa cI 24 f4), (kX7 aPa vPa l7 a7 n7), (kAI vPa cI 39 f7), (kX2 aGe vGe l2 a2 n2), (kAI vGe cI 23 f2), (kX1 aFl vFl xn), (kAI vFl cI 32 ff)]) hP hD hC [0, 1, 2, 3, 4, 5, 6, 7, 8, 9, 10, 11] rfl (by decide +kernel) (by decide +kernel) hk1 hFc hP1 hD1 rfl
            clear hP hD hPc hDc hFc hC hP1 hD1 hK1 hz1 hk1 hvm ht
            obtain ⟨hP, hD⟩ := hJ
            generalize H1 = H at hP hS ⊢
            try dsimp only at hw
            refine lv_istore (lv' := [(6, .int r_22), (5, .int clz18), (4, .int biz18), (3, .int fwz18), (0, .ref hx), (1, .int f1), (2, .int w1)]) hx₀ hb dX11_practice_49 hl (by decide) rfl (fun ls hl => ?_)
            refine lv_iload hx₀ hb dX11_practice_51 (lv_at hl 0 rfl) ?_
            refine lv_iload_n hx₀ hb dX11_practice_53 rfl (lv_at hl 3 rfl) ?_
            refine lv_icmp_ge (tgt := 99) hx₀ hb dX11_practice_54 (by decide) (fun c_23 => ?_) (fun c_23 => ?_)
            · refine lv_iinc (v := clz18 + 1) (lv' := [(5, .int (clz18 + 1)), (6, .int r_22), (4, .int biz18), (3, .int fwz18), (0, .ref hx), (1, .int f1), (2, .int w1)]) hx₀ hb dX11_practice_99 hl (k := 1) rfl rfl (by decide) rfl (fun ls hl => ?_)
              refine lv_goto (tgt := 37) hx₀ hb dX11_practice_102 (by decide) ?_
              exact ihz18 _ (lf_j_practice_2 clz18 jz18 hiz18_0 hjz18 c_19) fwz18 biz18 (clz18 + 1) ygoez18 ycarz18 ykinz18 ysorz18 ybeaz18 yweiz18 yleaz18 yangz18 ycolz18 yendz18 pz18 qz18 w0z18 w1z18 w2z18 w3z18 z0z18 z1z18 z2z18 z3z18 _ _ _ (lf_j_practice_1 clz18 jz18 hiz18_0 hjz18 c_19) rfl (hP.sub [0, 1, 2, 3, 4, 5, 6, 7, 8, 9, 10, 11] rfl) (hD.sub [0, 1, 2, 3, 4, 5, 6, 7, 8, 9, 10, 11] (by decide +kernel) rfl) hS (lv_sub hl [0, 2, 3, 4, 5, 6] rfl)
            · refine lv_aload_n hx₀ hb dX11_practice_57 rfl (lv_at hl 4 rfl) ?_
              refine va_get (D := (dC, dI)) (ci := 10) (v := .ref aTr) (C := RX11) (T := TX11) (N := 15) hx₀ hb hts inlX11 hown hK hP 0 rfl rfl 4 (by decide) (hts (.fieldLink RX11 42 "BittenStick" "trip" "LBittenStick$Trip;") wd_31) (fun _ h9 => h9) rfl dX11_practice_58 ?_
              refine lv_iload hx₀ hb dX11_practice_61 (lv_at hl 1 rfl) ?_
              refine va_put (D := (dC, dI)) (ci := 9) (v := .int clz18) (ty := .int) (C := RX10) (T := TX10) (N := 17) hx₀ hb hts inlX10 tyX10 tyX10_ok nmX10 hown hK hP hD hS 1 rfl rfl 13 (by decide) (hts (.fieldLink RX11 184 "BittenStick$Trip" "learned" "I") wd_431) (fun _ h9 => h9) rfl (by decide +kernel) rfl rfl (Nat.le_of_ble_eq_true rfl) dX11_practice_63 ?_
              clear hP hD hS
              intro H locs hP hD hS
              replace hP := k_w2 (wt := [(kX11 hx aLa aPa aGe aFl aTr aBe aLu aLo vSf vSm vCo vSh xs xl xf), (kX10 aTr aLa aPa aGe gL gR pz18 qz18 ygoez18 ycarz18 ykinz18 ysorz18 ybeaz18 yweiz18 clz18 yangz18 ycolz18 yendz18), (kX3 gL w0z18 w1z18 w2z18 w3z18), (kX3 gR z0z18 z1z18 z2z18 z3z18), (kX4 aLa vLa l4 a4 n4), (kAI vLa cI 24 f4), (kX7 aPa vPa l7 a7 n7), (kAI vPa cI 39 f7), (kX2 aGe vGe l2 a2 n2), (kAI vGe cI 23 f2), (kX1 aFl vFl xn), (kAI vFl cI 32 ff)]) hP hD rfl
              replace hD := hP.2
              replace hP := hP.1
              refine lv_aload_n hx₀ hb dX11_practice_66 rfl (lv_at hl 4 rfl) ?_
              refine va_get (D := (dC, dI)) (ci := 10) (v := .ref aTr) (C := RX11) (T := TX11) (N := 15) hx₀ hb hts inlX11 hown hK hP 0 rfl rfl 4 (by decide) (hts (.fieldLink RX11 42 "BittenStick" "trip" "LBittenStick$Trip;") wd_31) (fun _ h9 => h9) rfl dX11_practice_67 ?_
              refine lv_aload_n hx₀ hb dX11_practice_70 rfl (lv_at hl 4 rfl) ?_
              refine va_get (D := (dC, dI)) (ci := 10) (v := .ref aFl) (C := RX11) (T := TX11) (N := 15) hx₀ hb hts inlX11 hown hK hP 0 rfl rfl 3 (by decide) (hts (.fieldLink RX11 33 "BittenStick" "flights" "LBittenStick$Flights;") wd_27) (fun _ h9 => h9) rfl dX11_practice_71 ?_
              refine lv_iload_n hx₀ hb dX11_practice_74 rfl (lv_at hl 5 rfl) ?_
              obtain ⟨hPc, hDc, hFc, hC⟩ := k_cw (wc := [(kX1 aFl vFl xn), (kAI vFl cI 32 ff)]) hP hD hS hA [10, 11] (by decide +kernel) rfl
              refine va_calli (va_runV (As := [.int f1]) (rest := [.ref aTr]) ⟨hx₀, hb, hml, hown, hts⟩ (j_heightOf l dC dI cI cJ cQ H.size aFl f1 vFl xn ff (hh1)) (cwV 1 hts (kGV wd_491 wd_488 wd_489 wd_490 wd_26) rfl rfl rfl (by decide +kernel) ⟨Nat.le_of_ble_eq_true rfl, Nat.le_of_ble_eq_true rfl⟩) (k_preV1 (q0 := 0) hK hPc hDc hN rfl) rfl rfl hl.1 rfl (lv_room (Nat.le_of_ble_eq_true rfl)) dX11_practice_75 ⟨by decide +kernel, by decide +kernel⟩) hS (fun q _ h => hFc q h) hFc (fun r_24 u₀ t₀ H1 locs ht hvm hw hB hz1 hk1 hS => ?_)
              obtain ⟨hP1, hK1, hD1⟩ := hB
              rw [ht] at hP1
              have hJ := k_jn (wr := [(kX11 hx aLa aPa aGe aFl aTr aBe aLu aLo vSf vSm vCo vSh xs xl xf), (kX10 aTr aLa aPa aGe gL gR pz18 qz18 ygoez18 ycarz18 ykinz18 ysorz18 ybeaz18 yweiz18 clz18 yangz18 ycolz18 yendz18), (kX3 gL w0z18 w1z18 w2z18 w3z18), (kX3 gR z0z18 z1z18 z2z18 z3z18), (kX4 aLa vLa l4 a4 n4), (kAI vLa cI 24 f4), (kX7 aPa vPa l7 a7 n7), (kAI vPa cI 39 f7), (kX2 aGe vGe l2 a2 n2), (kAI vGe cI 23 f2)]) (wt := [(kX11 hx aLa aPa aGe aFl aTr aBe aLu aLo vSf vSm vCo vSh xs xl xf), (kX10 aTr aLa aPa aGe gL gR pz18 qz18 ygoez18 ycarz18 ykinz18 ysorz18 ybeaz18 yweiz18 clz18 yangz18 ycolz18 yendz18), (kX3 gL w0z18 w1z18 w2z18 w3z18), (kX3 gR z0z18 z1z18 z2z18 z3z18), (kX4 aLa vLa l4 a4 n4), (kAI vLa cI 24 f4), (kX7 aPa vPa l7 a7 n7), (kAI vPa cI 39 f7), (kX2 aGe vGe l2 a2 n2), (kAI vGe cI 23 f2), (kX1 aFl vFl xn), (kAI vFl cI 32 ff)]) hP hD hC [0, 1, 2, 3, 4, 5, 6, 7, 8, 9] rfl (by decide +kernel) (by decide +kernel) hk1 hFc hP1 hD1 rfl
              clear hP hD hPc hDc hFc hC hP1 hD1 hK1 hz1 hk1 hvm ht
              obtain ⟨hP, hD⟩ := hJ
              generalize H1 = H at hP hS ⊢
              try dsimp only at hw
              refine k_topi (v := kIt xn ff f1 3) hw ?_
              obtain ⟨hPc, hDc, hFc, hC⟩ := k_cw (wc := [(kX10 aTr aLa aPa aGe gL gR pz18 qz18 ygoez18 ycarz18 ykinz18 ysorz18 ybeaz18 yweiz18 clz18 yangz18 ycolz18 yendz18), (kX4 aLa vLa l4 a4 n4), (kAI vLa cI 24 f4)]) hP hD hS hA [1, 4, 5] (by decide +kernel) rfl
              refine va_calli (va_runV (As := [.int (kIt xn ff f1 3)]) (rest := []) ⟨hx₀, hb, hml, hown, hts⟩ (j_comesTo l dC dI cI cJ cQ H.size aTr (kIt xn ff f1 3) aLa aPa aGe gL gR pz18 qz18 ygoez18 ycarz18 ykinz18 ysorz18 ybeaz18 yweiz18 clz18 yangz18 ycolz18 yendz18 vLa l4 a4 n4 f4 (hh0)) (cwV 1 hts (kGV wd_495 wd_492 wd_493 wd_494 wd_30) rfl rfl rfl (by decide +kernel) ⟨Nat.le_of_ble_eq_true rfl, Nat.le_of_ble_eq_true rfl⟩) (k_preV9 (q0 := 0) hK hPc hDc hN rfl) rfl rfl hl.1 rfl (lv_room (Nat.le_of_ble_eq_true rfl)) dX11_practice_78 ⟨by decide +kernel, by decide +kernel⟩) hS (fun q _ h => hFc q h) hFc (fun r_25 u₀ t₀ H1 locs ht hvm hw hB hz1 hk1 hS => ?_)
              obtain ⟨g_26, ga_27, gl_28, gb_29, gp_30⟩ := u₀
              obtain ⟨hP1, hK1, hD1⟩ := hB
              rw [ht] at hP1
              have hJ := k_jn (wr := [(kX11 hx aLa aPa aGe aFl aTr aBe aLu aLo vSf vSm vCo vSh xs xl xf), (kX3 gL w0z18 w1z18 w2z18 w3z18), (kX3 gR z0z18 z1z18 z2z18 z3z18), (kX7 aPa vPa l7 a7 n7), (kAI vPa cI 39 f7), (kX2 aGe vGe l2 a2 n2), (kAI vGe cI 23 f2), (kX1 aFl vFl xn), (kAI vFl cI 32 ff)]) (wt := [(kX11 hx aLa aPa aGe aFl aTr aBe aLu aLo vSf vSm vCo vSh xs xl xf), (kX3 gL w0z18 w1z18 w2z18 w3z18), (kX3 gR z0z18 z1z18 z2z18 z3z18), (kX7 aPa vPa l7 a7 n7), (kAI vPa cI 39 f7), (kX2 aGe vGe l2 a2 n2), (kAI vGe cI 23 f2), (kX1 aFl vFl xn), (kAI vFl cI 32 ff), (kX10 aTr aLa aPa aGe gL gR pz18 qz18 ygoez18 ycarz18 ykinz18 ysorz18 ybeaz18 yweiz18 clz18 (g_26 0) (g_26 1) (g_26 2)), (kX4 aLa vLa l4 a4 n4), (kAI vLa cI 24 f4)]) hP hD hC [0, 2, 3, 6, 7, 8, 9, 10, 11] rfl (by decide +kernel) (by decide +kernel) hk1 hFc hP1 hD1 rfl
              clear hP hD hPc hDc hFc hC hP1 hD1 hK1 hz1 hk1 hvm ht
              obtain ⟨hP, hD⟩ := hJ
              generalize H1 = H at hP hS ⊢
              try dsimp only at hw
              obtain ⟨c_31, c_32, c_33, c_34⟩ := hw
              refine lv_pop hx₀ hb dX11_practice_81 rfl ?_
              refine lv_aload_n hx₀ hb dX11_practice_82 rfl (lv_at hl 4 rfl) ?_
              refine va_get (D := (dC, dI)) (ci := 10) (v := .ref aTr) (C := RX11) (T := TX11) (N := 15) hx₀ hb hts inlX11 hown hK hP 0 rfl rfl 4 (by decide) (hts (.fieldLink RX11 42 "BittenStick" "trip" "LBittenStick$Trip;") wd_31) (fun _ h9 => h9) rfl dX11_practice_83 ?_
              refine va_get (D := (dC, dI)) (ci := 9) (v := .int (g_26 2)) (C := RX10) (T := TX10) (N := 17) hx₀ hb hts inlX10 hown hK hP 9 rfl rfl 16 (by decide) (hts (.fieldLink RX11 159 "BittenStick$Trip" "end" "I") wd_422) (fun _ h9 => h9) rfl dX11_practice_86 ?_
              refine lv_if_ne (tgt := 99) hx₀ hb dX11_practice_89 (by decide) (fun c_35 => ?_) (fun c_35 => ?_)
              · refine lv_iinc (v := clz18 + 1) (lv' := [(5, .int (clz18 + 1)), (6, .int r_22), (4, .int biz18), (3, .int fwz18), (0, .ref hx), (1, .int f1), (2, .int w1)]) hx₀ hb dX11_practice_99 hl (k := 1) rfl rfl (by decide) rfl (fun ls hl => ?_)
                refine lv_goto (tgt := 37) hx₀ hb dX11_practice_102 (by decide) ?_
                exact ihz18 _ (lf_j_practice_2 clz18 jz18 hiz18_0 hjz18 c_19) fwz18 biz18 (clz18 + 1) ygoez18 ycarz18 ykinz18 ysorz18 ybeaz18 yweiz18 clz18 (g_26 0) (g_26 1) (g_26 2) pz18 qz18 w0z18 w1z18 w2z18 w3z18 z0z18 z1z18 z2z18 z3z18 _ _ _ (lf_j_practice_1 clz18 jz18 hiz18_0 hjz18 c_19) rfl (hP.sub [0, 9, 1, 2, 10, 11, 3, 4, 5, 6, 7, 8] rfl) (hD.sub [0, 9, 1, 2, 10, 11, 3, 4, 5, 6, 7, 8] (by decide +kernel) rfl) hS (lv_sub hl [0, 2, 3, 4, 5, 6] rfl)
              · refine lv_iload hx₀ hb dX11_practice_92 (lv_at hl 0 rfl) ?_
                refine lv_istore_n (lv' := [(3, .int r_22), (6, .int r_22), (5, .int clz18), (4, .int biz18), (0, .ref hx), (1, .int f1), (2, .int w1)]) hx₀ hb dX11_practice_94 rfl hl (by decide) rfl (fun ls hl => ?_)
                refine lv_iload hx₀ hb dX11_practice_95 (lv_at hl 2 rfl) ?_
                refine lv_istore (lv' := [(4, .int clz18), (3, .int r_22), (6, .int r_22), (5, .int clz18), (0, .ref hx), (1, .int f1), (2, .int w1)]) hx₀ hb dX11_practice_97 hl (by decide) rfl (fun ls hl => ?_)
                refine lv_iinc (v := clz18 + 1) (lv' := [(5, .int (clz18 + 1)), (4, .int clz18), (3, .int r_22), (6, .int r_22), (0, .ref hx), (1, .int f1), (2, .int w1)]) hx₀ hb dX11_practice_99 hl (k := 3) rfl rfl (by decide) rfl (fun ls hl => ?_)
                refine lv_goto (tgt := 37) hx₀ hb dX11_practice_102 (by decide) ?_
                exact ihz18 _ (lf_j_practice_2 clz18 jz18 hiz18_0 hjz18 c_19) r_22 clz18 (clz18 + 1) ygoez18 ycarz18 ykinz18 ysorz18 ybeaz18 yweiz18 clz18 (g_26 0) (g_26 1) (g_26 2) pz18 qz18 w0z18 w1z18 w2z18 w3z18 z0z18 z1z18 z2z18 z3z18 _ _ _ (lf_j_practice_1 clz18 jz18 hiz18_0 hjz18 c_19) rfl (hP.sub [0, 9, 1, 2, 10, 11, 3, 4, 5, 6, 7, 8] rfl) (hD.sub [0, 9, 1, 2, 10, 11, 3, 4, 5, 6, 7, 8] (by decide +kernel) rfl) hS (lv_sub hl [0, 1, 2, 4, 5, 6] rfl)
      · refine lv_bipush (v := (-2)) hx₀ hb dX11_practice_20 (by decide +kernel) ?_
        obtain ⟨hP9, hD9⟩ := k_c2 (wc := [(kX11 hx aLa aPa aGe aFl aTr aBe aLu aLo vSf vSm vCo vSh xs xl xf), (kX10 aTr aLa aPa aGe gL gR lf rt tgo tca tki tso tbe twe tle tan tco ten), (kX3 gL u0 u1 u2 u3), (kX3 gR v0 v1 v2 v3), (kX4 aLa vLa l4 a4 n4), (kAI vLa cI 24 f4), (kX7 aPa vPa l7 a7 n7), (kAI vPa cI 39 f7), (kX2 aGe vGe l2 a2 n2), (kAI vGe cI 23 f2), (kX1 aFl vFl xn), (kAI vFl cI 32 ff)]) hP hD [0, 1, 2, 3, 4, 5, 6, 7, 8, 9, 11, 10] (by decide +kernel) rfl
        exact W.iret (v := (-2)) hx₀ hb hr (fun t₀ ht hW => ⟨⟨(-2), (k_fn [u0, u1, u2, u3, v0, v1, v2, v3, tgo, tca, tki, tso, tbe, twe, tle, tan, tco, ten], k_fa [], k_fl [], k_fL [], k_fp [lf, rt]), rfl, trivial, by rw [ht]; exact hP9, va_K.moved hW.alike hK, hD9⟩, hS.F ht⟩) hS.2.2 dX11_practice_22
  rw [if_neg c_2] at hw
  refine k_topi (v := 0) hw ?_
  refine lv_if_eq (tgt := 20) hx₀ hb dX11_practice_8 (by decide) (fun _ => ?_) (fun c9 => absurd (by decide +kernel) c9)
  refine lv_bipush (v := (-2)) hx₀ hb dX11_practice_20 (by decide +kernel) ?_
  obtain ⟨hP9, hD9⟩ := k_c2 (wc := [(kX11 hx aLa aPa aGe aFl aTr aBe aLu aLo vSf vSm vCo vSh xs xl xf), (kX10 aTr aLa aPa aGe gL gR lf rt tgo tca tki tso tbe twe tle tan tco ten), (kX3 gL u0 u1 u2 u3), (kX3 gR v0 v1 v2 v3), (kX4 aLa vLa l4 a4 n4), (kAI vLa cI 24 f4), (kX7 aPa vPa l7 a7 n7), (kAI vPa cI 39 f7), (kX2 aGe vGe l2 a2 n2), (kAI vGe cI 23 f2), (kX1 aFl vFl xn), (kAI vFl cI 32 ff)]) hP hD [0, 1, 2, 3, 4, 5, 6, 7, 8, 9, 11, 10] (by decide +kernel) rfl
  exact W.iret (v := (-2)) hx₀ hb hr (fun t₀ ht hW => ⟨⟨(-2), (k_fn [u0, u1, u2, u3, v0, v1, v2, v3, tgo, tca, tki, tso, tbe, twe, tle, tan, tco, ten], k_fa [], k_fl [], k_fL [], k_fp [lf, rt]), rfl, trivial, by rw [ht]; exact hP9, va_K.moved hW.alike hK, hD9⟩, hS.F ht⟩) hS.2.2 dX11_practice_22
theorem lf_j_pair_1 (a0 : Int32) (a1 : Int32) (a2 : Nat) (a3 : Int32) (a4 : Nat) (h0 : 0 ≤ a0) (h1 : (a1.toInt - a0.toInt).toNat = a2) (h2 : ¬ a1 ≤ a0) (h3 : 0 ≤ a3) (h4 : (a1.toInt - a3.toInt).toNat = a4) (h5 : a1 ≤ a3) : 0 ≤ (a0 + 1) := by
  first | (first | omega | (have hr0 := Int32.toInt_lt a0; have hs0 := Int32.le_toInt a0; have hr1 := Int32.toInt_lt a1; have hs1 := Int32.le_toInt a1; have hr2 := Int32.toInt_lt a3; have hs2 := Int32.le_toInt a3; simp only [Int64.toInt_add, Int64.toInt_sub, Int32.toInt_add, Int32.toInt_sub, Int32.toInt_mul, Int64.le_iff_toInt_le, Int64.lt_iff_toInt_lt, Int32.le_iff_toInt_le, Int32.lt_iff_toInt_lt, ← Int32.toInt_inj, ← Int64.toInt_inj, Int32.toInt_toInt64, kc_0, kc_1, true_and, and_true, not_true_eq_false, not_false_eq_true] at * <;> ((first | omega | ((try simp (disch := omega) only [k_bm64] at *); (try simp (disch := omega) only [k_bm] at *); (try simp (disch := omega) only [k_bm] at *); omega) | (simp only [Int.bmod] at *; omega))))) | with_reducible assumption | rfl
theorem lf_j_pair_2 (a0 : Int32) (a1 : Int32) (a2 : Nat) (a3 : Int32) (a4 : Nat) (h0 : 0 ≤ a0) (h1 : (a1.toInt - a0.toInt).toNat = a2) (h2 : ¬ a1 ≤ a0) (h3 : 0 ≤ a3) (h4 : (a1.toInt - a3.toInt).toNat = a4) (h5 : a1 ≤ a3) : (a1.toInt - (a0 + 1).toInt).toNat < a2 := by
  first | (first | omega | (have hr0 := Int32.toInt_lt a0; have hs0 := Int32.le_toInt a0; have hr1 := Int32.toInt_lt a1; have hs1 := Int32.le_toInt a1; have hr2 := Int32.toInt_lt a3; have hs2 := Int32.le_toInt a3; simp only [Int64.toInt_add, Int64.toInt_sub, Int32.toInt_add, Int32.toInt_sub, Int32.toInt_mul, Int64.le_iff_toInt_le, Int64.lt_iff_toInt_lt, Int32.le_iff_toInt_le, Int32.lt_iff_toInt_lt, ← Int32.toInt_inj, ← Int64.toInt_inj, Int32.toInt_toInt64, kc_0, kc_1, true_and, and_true, not_true_eq_false, not_false_eq_true] at * <;> ((first | omega | ((try simp (disch := omega) only [k_bm64] at *); (try simp (disch := omega) only [k_bm] at *); (try simp (disch := omega) only [k_bm] at *); omega) | (simp only [Int.bmod] at *; omega))))) | with_reducible assumption | rfl
theorem lf_j_pair_3 (a0 : Int32) (a1 : Int32) (a2 : Nat) (a3 : Int32) (a4 : Nat) (h0 : 0 ≤ a0) (h1 : (a1.toInt - a0.toInt).toNat = a2) (h2 : ¬ a1 ≤ a0) (h3 : 0 ≤ a3) (h4 : (a1.toInt - a3.toInt).toNat = a4) (h5 : ¬ a1 ≤ a3) (h6 : a0 = a3) : 0 ≤ (a3 + 1) := by
  first | (first | omega | (have hr0 := Int32.toInt_lt a0; have hs0 := Int32.le_toInt a0; have hr1 := Int32.toInt_lt a1; have hs1 := Int32.le_toInt a1; have hr2 := Int32.toInt_lt a3; have hs2 := Int32.le_toInt a3; simp only [Int64.toInt_add, Int64.toInt_sub, Int32.toInt_add, Int32.toInt_sub, Int32.toInt_mul, Int64.le_iff_toInt_le, Int64.lt_iff_toInt_lt, Int32.le_iff_toInt_le, Int32.lt_iff_toInt_lt, ← Int32.toInt_inj, ← Int64.toInt_inj, Int32.toInt_toInt64, kc_0, kc_1, true_and, and_true, not_true_eq_false, not_false_eq_true] at * <;> ((first | omega | ((try simp (disch := omega) only [k_bm64] at *); (try simp (disch := omega) only [k_bm] at *); (try simp (disch := omega) only [k_bm] at *); omega) | (simp only [Int.bmod] at *; omega))))) | with_reducible assumption | rfl
theorem lf_j_pair_4 (a0 : Int32) (a1 : Int32) (a2 : Nat) (a3 : Int32) (a4 : Nat) (h0 : 0 ≤ a0) (h1 : (a1.toInt - a0.toInt).toNat = a2) (h2 : ¬ a1 ≤ a0) (h3 : 0 ≤ a3) (h4 : (a1.toInt - a3.toInt).toNat = a4) (h5 : ¬ a1 ≤ a3) (h6 : a0 = a3) : (a1.toInt - (a3 + 1).toInt).toNat < a4 := by
  first | (first | omega | (have hr0 := Int32.toInt_lt a0; have hs0 := Int32.le_toInt a0; have hr1 := Int32.toInt_lt a1; have hs1 := Int32.le_toInt a1; have hr2 := Int32.toInt_lt a3; have hs2 := Int32.le_toInt a3; simp only [Int64.toInt_add, Int64.toInt_sub, Int32.toInt_add, Int32.toInt_sub, Int32.toInt_mul, Int64.le_iff_toInt_le, Int64.lt_iff_toInt_lt, Int32.le_iff_toInt_le, Int32.lt_iff_toInt_lt, ← Int32.toInt_inj, ← Int64.toInt_inj, Int32.toInt_toInt64, kc_0, kc_1, true_and, and_true, not_true_eq_false, not_false_eq_true] at * <;> ((first | omega | ((try simp (disch := omega) only [k_bm64] at *); (try simp (disch := omega) only [k_bm] at *); (try simp (disch := omega) only [k_bm] at *); omega) | (simp only [Int.bmod] at *; omega))))) | with_reducible assumption | rfl
theorem lf_j_pair_5 (a0 : Int32) (a1 : Int32) (a2 : Nat) (a3 : Int32) (a4 : Nat) (h0 : 0 ≤ a0) (h1 : (a1.toInt - a0.toInt).toNat = a2) (h2 : ¬ a1 ≤ a0) (h3 : 0 ≤ a3) (h4 : (a1.toInt - a3.toInt).toNat = a4) (h5 : ¬ a1 ≤ a3) (h6 : ¬ a0 = a3) : 0 ≤ (a3 + 1) := by
  first | (first | omega | (have hr0 := Int32.toInt_lt a0; have hs0 := Int32.le_toInt a0; have hr1 := Int32.toInt_lt a1; have hs1 := Int32.le_toInt a1; have hr2 := Int32.toInt_lt a3; have hs2 := Int32.le_toInt a3; simp only [Int64.toInt_add, Int64.toInt_sub, Int32.toInt_add, Int32.toInt_sub, Int32.toInt_mul, Int64.le_iff_toInt_le, Int64.lt_iff_toInt_lt, Int32.le_iff_toInt_le, Int32.lt_iff_toInt_lt, ← Int32.toInt_inj, ← Int64.toInt_inj, Int32.toInt_toInt64, kc_0, kc_1, true_and, and_true, not_true_eq_false, not_false_eq_true] at * <;> ((first | omega | ((try simp (disch := omega) only [k_bm64] at *); (try simp (disch := omega) only [k_bm] at *); (try simp (disch := omega) only [k_bm] at *); omega) | (simp only [Int.bmod] at *; omega))))) | with_reducible assumption | rfl
theorem lf_j_pair_6 (a0 : Int32) (a1 : Int32) (a2 : Nat) (a3 : Int32) (a4 : Nat) (h0 : 0 ≤ a0) (h1 : (a1.toInt - a0.toInt).toNat = a2) (h2 : ¬ a1 ≤ a0) (h3 : 0 ≤ a3) (h4 : (a1.toInt - a3.toInt).toNat = a4) (h5 : ¬ a1 ≤ a3) (h6 : ¬ a0 = a3) : (a1.toInt - (a3 + 1).toInt).toNat < a4 := by
  first | (first | omega | (have hr0 := Int32.toInt_lt a0; have hs0 := Int32.le_toInt a0; have hr1 := Int32.toInt_lt a1; have hs1 := Int32.le_toInt a1; have hr2 := Int32.toInt_lt a3; have hs2 := Int32.le_toInt a3; simp only [Int64.toInt_add, Int64.toInt_sub, Int32.toInt_add, Int32.toInt_sub, Int32.toInt_mul, Int64.le_iff_toInt_le, Int64.lt_iff_toInt_lt, Int32.le_iff_toInt_le, Int32.lt_iff_toInt_lt, ← Int32.toInt_inj, ← Int64.toInt_inj, Int32.toInt_toInt64, kc_0, kc_1, true_and, and_true, not_true_eq_false, not_false_eq_true] at * <;> ((first | omega | ((try simp (disch := omega) only [k_bm64] at *); (try simp (disch := omega) only [k_bm] at *); (try simp (disch := omega) only [k_bm] at *); omega) | (simp only [Int.bmod] at *; omega))))) | with_reducible assumption | rfl
set_option maxHeartbeats 4000000 in
set_option maxRecDepth 100000 in
theorem j_pair (l : Launch) (dC : Nat → ClassId) (dI : Nat → Nat → Nat) (cI cJ cQ : ClassId) (sz : Nat) (hx : Nat) (f1 : Int32) (w1 : Int32) (aLa : Nat) (aPa : Nat) (aGe : Nat) (aFl : Nat) (aTr : Nat) (aBe : Nat) (aLu : Nat) (aLo : Nat) (vSf : Nat) (vSm : Nat) (vCo : Nat) (vSh : Nat) (xs : Int32) (xl : Int32) (xf : Int32) (gL : Nat) (gR : Nat) (lf : Nat) (rt : Nat) (tgo : Int32) (tca : Int32) (tki : Int32) (tso : Int32) (tbe : Int32) (twe : Int32) (tle : Int32) (tan : Int32) (tco : Int32) (ten : Int32) (u0 : Int32) (u1 : Int32) (u2 : Int32) (u3 : Int32) (v0 : Int32) (v1 : Int32) (v2 : Int32) (v3 : Int32) (vLa : Nat) (l4 : Int32) (a4 : Int32) (n4 : Int32) (f4 : Nat → Int32) (vPa : Nat) (l7 : Int32) (a7 : Int32) (n7 : Int32) (f7 : Nat → Int32) (vGe : Nat) (l2 : Int32) (a2 : Int32) (n2 : Int32) (f2 : Nat → Int32) (vFl : Nat) (xn : Int32) (ff : Nat → Int32) (hh0 : 0 ≤ n4 ∧ n4 ≤ 24) (hh1 : 0 ≤ xn ∧ xn ≤ 8) : Met l yX11_pair (kW yX11_pair cX11_pair 8 (some .int)) { frames := 4, cells := 0, slots := 0, locals := 90 } (kPre dC dI cI cJ cQ sz [.ref hx, .int f1, .int w1] [(kX11 hx aLa aPa aGe aFl aTr aBe aLu aLo vSf vSm vCo vSh xs xl xf), (kX10 aTr aLa aPa aGe gL gR lf rt tgo tca tki tso tbe twe tle tan tco ten), (kX3 gL u0 u1 u2 u3), (kX3 gR v0 v1 v2 v3), (kX4 aLa vLa l4 a4 n4), (kAI vLa cI 24 f4), (kX7 aPa vPa l7 a7 n7), (kAI vPa cI 39 f7), (kX2 aGe vGe l2 a2 n2), (kAI vGe cI 23 f2), (kX1 aFl vFl xn), (kAI vFl cI 32 ff)]) (va_Qi (fun (r : Int32) (u : kS) => True) (fun (u : kS) t₀ => kB dC dI cI cJ cQ (va_A [(kX11 hx aLa aPa aGe aFl aTr aBe aLu aLo vSf vSm vCo vSh xs xl xf), (kX10 aTr aLa aPa aGe gL gR lf rt tgo tca tki tso tbe twe tle tan tco ten), (kX3 gL u0 u1 u2 u3), (kX3 gR v0 v1 v2 v3), (kX4 aLa vLa l4 a4 n4), (kAI vLa cI 24 f4), (kX7 aPa vPa l7 a7 n7), (kAI vPa cI 39 f7), (kX2 aGe vGe l2 a2 n2), (kAI vGe cI 23 f2), (kX1 aFl vFl xn), (kAI vFl cI 32 ff)] sz) [(kX11 hx aLa aPa aGe aFl aTr aBe aLu aLo vSf vSm vCo vSh xs xl xf), (kX10 aTr aLa aPa aGe gL gR (u.2.2.2.2 0) (u.2.2.2.2 1) (u.1 8) (u.1 9) (u.1 10) (u.1 11) (u.1 12) (u.1 13) (u.1 14) (u.1 15) (u.1 16) (u.1 17)), (kX3 gL (u.1 0) (u.1 1) (u.1 2) (u.1 3)), (kX3 gR (u.1 4) (u.1 5) (u.1 6) (u.1 7)), (kX4 aLa vLa l4 a4 n4), (kAI vLa cI 24 f4), (kX7 aPa vPa l7 a7 n7), (kAI vPa cI 39 f7), (kX2 aGe vGe l2 a2 n2), (kAI vGe cI 23 f2), (kX1 aFl vFl xn), (kAI vFl cI 32 ff)] t₀) (va_A [(kX11 hx aLa aPa aGe aFl aTr aBe aLu aLo vSf vSm vCo vSh xs xl xf), (kX10 aTr aLa aPa aGe gL gR lf rt tgo tca tki tso tbe twe tle tan tco ten), (kX3 gL u0 u1 u2 u3), (kX3 gR v0 v1 v2 v3), (kX4 aLa vLa l4 a4 n4), (kAI vLa cI 24 f4), (kX7 aPa vPa l7 a7 n7), (kAI vPa cI 39 f7), (kX2 aGe vGe l2 a2 n2), (kAI vGe cI 23 f2), (kX1 aFl vFl xn), (kAI vFl cI 32 ff)] sz)) 0 0 (va_A [(kX11 hx aLa aPa aGe aFl aTr aBe aLu aLo vSf vSm vCo vSh xs xl xf), (kX10 aTr aLa aPa aGe gL gR lf rt tgo tca tki tso tbe twe tle tan tco ten), (kX3 gL u0 u1 u2 u3), (kX3 gR v0 v1 v2 v3), (kX4 aLa vLa l4 a4 n4), (kAI vLa cI 24 f4), (kX7 aPa vPa l7 a7 n7), (kAI vPa cI 39 f7), (kX2 aGe vGe l2 a2 n2), (kAI vGe cI 23 f2), (kX1 aFl vFl xn), (kAI vFl cI 32 ff)] sz) := by
  refine Met.ofW (cc := cX11_pair) (maxL := 8) (ret := (some .int)) (by decide) rfl ?_
  intro p₀ e₀ s₀ m₀ args below meth c₀ s₁ B hml hv₀
  obtain ⟨rfl, hsz, hP, hK, hD0, hN⟩ := hv₀
  have hx₀ := B.exec
  have hb := B.bytes
  have hr := B.returns
  have hts := atoms_spec (ws := (kW yX11_pair cX11_pair 8 (some .int))) B.pre
  have hts := fun w h => hts w (List.mem_cons_of_mem _ h)
  have hown : s₀.vm.findClass RX11 = some m₀.cls := findClass_of_methodNamed B.named
  have hlocks := B.notSynchronized
  subst hsz
  have hD := hD0.self (sz := s₀.heap.size)
  generalize hAe : va_A [(kX11 hx aLa aPa aGe aFl aTr aBe aLu aLo vSf vSm vCo vSh xs xl xf), (kX10 aTr aLa aPa aGe gL gR lf rt tgo tca tki tso tbe twe tle tan tco ten), (kX3 gL u0 u1 u2 u3), (kX3 gR v0 v1 v2 v3), (kX4 aLa vLa l4 a4 n4), (kAI vLa cI 24 f4), (kX7 aPa vPa l7 a7 n7), (kAI vPa cI 39 f7), (kX2 aGe vGe l2 a2 n2), (kAI vGe cI 23 f2), (kX1 aFl vFl xn), (kAI vFl cI 32 ff)] s₀.heap.size = A at hD ⊢
  have hA : ∀ q : Nat, s₀.heap.size ≤ q → A q := fun q h => by rw [← hAe]; exact Or.inr h
  have hS : va_S A s₀.heap s₀.heap [] := va_S.rf
  have hP : va_P (dC, dI) vwCl [(kX11 hx aLa aPa aGe aFl aTr aBe aLu aLo vSf vSm vCo vSh xs xl xf), (kX10 aTr aLa aPa aGe gL gR lf rt tgo tca tki tso tbe twe tle tan tco ten), (kX3 gL u0 u1 u2 u3), (kX3 gR v0 v1 v2 v3), (kX4 aLa vLa l4 a4 n4), (kAI vLa cI 24 f4), (kX7 aPa vPa l7 a7 n7), (kAI vPa cI 39 f7), (kX2 aGe vGe l2 a2 n2), (kAI vGe cI 23 f2), (kX1 aFl vFl xn), (kAI vFl cI 32 ff)] s₀.heap := hP
  have hl := lv_entry ([.ref hx, .int f1, .int w1]) (n := 8) (Nat.le_of_ble_eq_true rfl)
  rw [lg_entry_eq]
  generalize (lg_sl ([.ref hx, .int f1, .int w1]) ++ List.replicate (8 - (lg_sl ([.ref hx, .int f1, .int w1])).length) Slot.unset).toArray = ls at hl ⊢
  have hl : lv_has ls 8 [(0, .ref hx), (1, .int f1), (2, .int w1)] := hl
  obtain ⟨H, hH⟩ : ∃ z : Heap, z = s₀.heap := ⟨_, rfl⟩
  rw [← hH] at hP
  have hS : va_S A s₀.heap H [] := by rw [hH]; exact hS
  refine k_heap hH ?_
  have hD : va_D A [(kX11 hx aLa aPa aGe aFl aTr aBe aLu aLo vSf vSm vCo vSh xs xl xf), (kX10 aTr aLa aPa aGe gL gR lf rt tgo tca tki tso tbe twe tle tan tco ten), (kX3 gL u0 u1 u2 u3), (kX3 gR v0 v1 v2 v3), (kX4 aLa vLa l4 a4 n4), (kAI vLa cI 24 f4), (kX7 aPa vPa l7 a7 n7), (kAI vPa cI 39 f7), (kX2 aGe vGe l2 a2 n2), (kAI vGe cI 23 f2), (kX1 aFl vFl xn), (kAI vFl cI 32 ff)] := hD
  obtain ⟨locs, hlo⟩ : ∃ z : List Loc, z = [] := ⟨_, rfl⟩
  rw [← hlo] at hS ⊢
  clear hlo hH hAe hD0
  refine lv_aload_n hx₀ hb dX11_pair_0 rfl (lv_at hl 0 rfl) ?_
  refine va_get (D := (dC, dI)) (ci := 10) (v := .ref aFl) (C := RX11) (T := TX11) (N := 15) hx₀ hb hts inlX11 hown hK hP 0 rfl rfl 3 (by decide) (hts (.fieldLink RX11 33 "BittenStick" "flights" "LBittenStick$Flights;") wd_27) (fun _ h9 => h9) rfl dX11_pair_1 ?_
  refine lv_iload_n hx₀ hb dX11_pair_4 rfl (lv_at hl 1 rfl) ?_
  obtain ⟨hPc, hDc, hFc, hC⟩ := k_cw (wc := [(kX1 aFl vFl xn)]) hP hD hS hA [10] (by decide +kernel) rfl
  refine va_calli (va_runV (As := [.int f1]) (rest := []) ⟨hx₀, hb, hml, hown, hts⟩ (j_fHas l dC dI cI cJ cQ H.size aFl f1 vFl xn) (cwV 1 hts (kGV wd_426 wd_423 wd_424 wd_425 wd_26) rfl rfl rfl (by decide +kernel) ⟨Nat.le_of_ble_eq_true rfl, Nat.le_of_ble_eq_true rfl⟩) (k_preV1 (q0 := 0) hK hPc hDc hN rfl) rfl rfl hl.1 rfl (lv_room (Nat.le_of_ble_eq_true rfl)) dX11_pair_5 ⟨by decide +kernel, by decide +kernel⟩) hS (fun q _ h => hFc q h) hFc (fun r_1 u₀ t₀ H1 locs ht hvm hw hB hz1 hk1 hS => ?_)
  obtain ⟨hP1, hK1, hD1⟩ := hB
  rw [ht] at hP1
  have hJ := k_jn (wr := [(kX11 hx aLa aPa aGe aFl aTr aBe aLu aLo vSf vSm vCo vSh xs xl xf), (kX10 aTr aLa aPa aGe gL gR lf rt tgo tca tki tso tbe twe tle tan tco ten), (kX3 gL u0 u1 u2 u3), (kX3 gR v0 v1 v2 v3), (kX4 aLa vLa l4 a4 n4), (kAI vLa cI 24 f4), (kX7 aPa vPa l7 a7 n7), (kAI vPa cI 39 f7), (kX2 aGe vGe l2 a2 n2), (kAI vGe cI 23 f2), (kAI vFl cI 32 ff)]) (wt := [(kX11 hx aLa aPa aGe aFl aTr aBe aLu aLo vSf vSm vCo vSh xs xl xf), (kX10 aTr aLa aPa aGe gL gR lf rt tgo tca tki tso tbe twe tle tan tco ten), (kX3 gL u0 u1 u2 u3), (kX3 gR v0 v1 v2 v3), (kX4 aLa vLa l4 a4 n4), (kAI vLa cI 24 f4), (kX7 aPa vPa l7 a7 n7), (kAI vPa cI 39 f7), (kX2 aGe vGe l2 a2 n2), (kAI vGe cI 23 f2), (kAI vFl cI 32 ff), (kX1 aFl vFl xn)]) hP hD hC [0, 1, 2, 3, 4, 5, 6, 7, 8, 9, 11] rfl (by decide +kernel) (by decide +kernel) hk1 hFc hP1 hD1 rfl
  clear hP hD hPc hDc hFc hC hP1 hD1 hK1 hz1 hk1 hvm ht
  obtain ⟨hP, hD⟩ := hJ
  generalize H1 = H at hP hS ⊢
  try dsimp only at hw
  by_cases c_2 : 0 ≤ f1 ∧ f1 < xn
  · rw [if_pos c_2] at hw
    refine k_topi (v := 1) hw ?_
    refine lv_if_eq (tgt := 20) hx₀ hb dX11_pair_8 (by decide) (fun c9 => absurd c9 (by decide +kernel)) (fun _ => ?_)
    refine lv_iload_n hx₀ hb dX11_pair_11 rfl (lv_at hl 2 rfl) ?_
    refine lv_if_lt (tgt := 20) hx₀ hb dX11_pair_12 (by decide) (fun c_3 => ?_) (fun c_3 => ?_)
    · refine lv_bipush (v := (-2)) hx₀ hb dX11_pair_20 (by decide +kernel) ?_
      obtain ⟨hP9, hD9⟩ := k_c2 (wc := [(kX11 hx aLa aPa aGe aFl aTr aBe aLu aLo vSf vSm vCo vSh xs xl xf), (kX10 aTr aLa aPa aGe gL gR lf rt tgo tca tki tso tbe twe tle tan tco ten), (kX3 gL u0 u1 u2 u3), (kX3 gR v0 v1 v2 v3), (kX4 aLa vLa l4 a4 n4), (kAI vLa cI 24 f4), (kX7 aPa vPa l7 a7 n7), (kAI vPa cI 39 f7), (kX2 aGe vGe l2 a2 n2), (kAI vGe cI 23 f2), (kX1 aFl vFl xn), (kAI vFl cI 32 ff)]) hP hD [0, 1, 2, 3, 4, 5, 6, 7, 8, 9, 11, 10] (by decide +kernel) rfl
      exact W.iret (v := (-2)) hx₀ hb hr (fun t₀ ht hW => ⟨⟨(-2), (k_fn [u0, u1, u2, u3, v0, v1, v2, v3, tgo, tca, tki, tso, tbe, twe, tle, tan, tco, ten], k_fa [], k_fl [], k_fL [], k_fp [lf, rt]), rfl, trivial, by rw [ht]; exact hP9, va_K.moved hW.alike hK, hD9⟩, hS.F ht⟩) hS.2.2 dX11_pair_22
    · refine lv_iload_n hx₀ hb dX11_pair_15 rfl (lv_at hl 2 rfl) ?_
      refine lv_iconst (v := 1) hx₀ hb dX11_pair_16 (by decide +kernel) ?_
      refine lv_icmp_le (tgt := 23) hx₀ hb dX11_pair_17 (by decide) (fun c_4 => ?_) (fun c_4 => ?_)
      · refine lv_aload_n hx₀ hb dX11_pair_23 rfl (lv_at hl 0 rfl) ?_
        refine lv_iload_n hx₀ hb dX11_pair_24 rfl (lv_at hl 1 rfl) ?_
        obtain ⟨hPc, hDc, hFc, hC⟩ := k_cw (wc := [(kX11 hx aLa aPa aGe aFl aTr aBe aLu aLo vSf vSm vCo vSh xs xl xf), (kX10 aTr aLa aPa aGe gL gR lf rt tgo tca tki tso tbe twe tle tan tco ten), (kX3 gL u0 u1 u2 u3), (kX3 gR v0 v1 v2 v3), (kX4 aLa vLa l4 a4 n4), (kAI vLa cI 24 f4), (kX7 aPa vPa l7 a7 n7), (kAI vPa cI 39 f7), (kX2 aGe vGe l2 a2 n2), (kAI vGe cI 23 f2), (kX1 aFl vFl xn), (kAI vFl cI 32 ff)]) hP hD hS hA [0, 1, 2, 3, 4, 5, 6, 7, 8, 9, 11, 10] (by decide +kernel) rfl
        refine va_callv (va_runV (As := [.int f1]) (rest := []) ⟨hx₀, hb, hml, hown, hts⟩ (j_prepare l dC dI cI cJ cQ H.size hx f1 aLa aPa aGe aFl aTr aBe aLu aLo vSf vSm vCo vSh xs xl xf gL gR lf rt tgo tca tki tso tbe twe tle tan tco ten u0 u1 u2 u3 v0 v1 v2 v3 vLa l4 a4 n4 f4 vPa l7 a7 n7 f7 vGe l2 a2 n2 f2 vFl xn ff (hh0) (hh1)) (cwV 1 hts (kGV wd_430 wd_427 wd_428 wd_429 wd_2) rfl rfl rfl (by decide +kernel) ⟨Nat.le_of_ble_eq_true rfl, Nat.le_of_ble_eq_true rfl⟩) (k_preV10 (q0 := 0) hK hPc hDc hN rfl) rfl rfl hl.1 rfl (lv_room (Nat.le_of_ble_eq_true rfl)) dX11_pair_25 ⟨by decide +kernel, by decide +kernel⟩) hS (fun q _ h => hFc q h) hFc (fun u₀ t₀ H1 locs ht hvm hw hB hz1 hk1 hS => ?_)
        obtain ⟨g_6, ga_7, gl_8, gb_9, gp_10⟩ := u₀
        obtain ⟨hP1, hK1, hD1⟩ := hB
        rw [ht] at hP1
        have hJ := k_jn (wr := []) (wt := [(kX11 hx aLa aPa aGe aFl aTr aBe aLu aLo vSf vSm vCo vSh xs xl xf), (kX10 aTr aLa aPa aGe gL gR (gp_10 0) (gp_10 1) (g_6 8) (g_6 9) (g_6 10) (g_6 11) (g_6 12) (g_6 13) (g_6 14) (g_6 15) (g_6 16) (g_6 17)), (kX3 gL (g_6 0) (g_6 1) (g_6 2) (g_6 3)), (kX3 gR (g_6 4) (g_6 5) (g_6 6) (g_6 7)), (kX4 aLa vLa l4 a4 n4), (kAI vLa cI 24 f4), (kX7 aPa vPa l7 a7 n7), (kAI vPa cI 39 f7), (kX2 aGe vGe l2 a2 n2), (kAI vGe cI 23 f2), (kX1 aFl vFl xn), (kAI vFl cI 32 ff)]) hP hD hC [] rfl (by decide +kernel) (by decide +kernel) hk1 hFc hP1 hD1 rfl
        clear hP hD hPc hDc hFc hC hP1 hD1 hK1 hz1 hk1 hvm ht
        obtain ⟨hP, hD⟩ := hJ
        generalize H1 = H at hP hS ⊢
        try dsimp only at hw
        obtain ⟨c_11, c_12, c_13, c_14, c_15, c_16, c_17⟩ := hw
        refine lv_iconst (v := (-1)) hx₀ hb dX11_pair_28 (by decide +kernel) ?_
        refine lv_istore_n (lv' := [(3, .int (-1)), (0, .ref hx), (1, .int f1), (2, .int w1)]) hx₀ hb dX11_pair_29 rfl hl (by decide) rfl (fun ls hl => ?_)
        refine lv_iconst (v := (-1)) hx₀ hb dX11_pair_30 (by decide +kernel) ?_
        refine lv_istore (lv' := [(4, .int (-1)), (3, .int (-1)), (0, .ref hx), (1, .int f1), (2, .int w1)]) hx₀ hb dX11_pair_31 hl (by decide) rfl (fun ls hl => ?_)
        refine lv_iconst (v := 0) hx₀ hb dX11_pair_33 (by decide +kernel) ?_
        refine lv_istore (lv' := [(5, .int 0), (4, .int (-1)), (3, .int (-1)), (0, .ref hx), (1, .int f1), (2, .int w1)]) hx₀ hb dX11_pair_34 hl (by decide) rfl (fun ls hl => ?_)
        refine (?keyz18 : ∀ (jz18 : Nat) (faz18 : Int32) (whz18 : Int32) (lz18 : Int32) (ygoez18 : Int32) (ycarz18 : Int32) (ykinz18 : Int32) (ysorz18 : Int32) (ybeaz18 : Int32) (yweiz18 : Int32) (yleaz18 : Int32) (yangz18 : Int32) (ycolz18 : Int32) (yendz18 : Int32) (pz18 : Nat) (qz18 : Nat) (w0z18 : Int32) (w1z18 : Int32) (w2z18 : Int32) (w3z18 : Int32) (z0z18 : Int32) (z1z18 : Int32) (z2z18 : Int32) (z3z18 : Int32) (H : Heap) (locs : List Loc) (ls : Array Slot), (0 ≤ lz18) → ((n2.toInt - lz18.toInt).toNat = jz18) → va_P (dC, dI) vwCl [(kX11 hx aLa aPa aGe aFl aTr aBe aLu aLo vSf vSm vCo vSh xs xl xf), (kX10 aTr aLa aPa aGe gL gR pz18 qz18 ygoez18 ycarz18 ykinz18 ysorz18 ybeaz18 yweiz18 yleaz18 yangz18 ycolz18 yendz18), (kX3 gL w0z18 w1z18 w2z18 w3z18), (kX3 gR z0z18 z1z18 z2z18 z3z18), (kX4 aLa vLa l4 a4 n4), (kAI vLa cI 24 f4), (kX7 aPa vPa l7 a7 n7), (kAI vPa cI 39 f7), (kX2 aGe vGe l2 a2 n2), (kAI vGe cI 23 f2), (kX1 aFl vFl xn), (kAI vFl cI 32 ff)] H → va_D A [(kX11 hx aLa aPa aGe aFl aTr aBe aLu aLo vSf vSm vCo vSh xs xl xf), (kX10 aTr aLa aPa aGe gL gR pz18 qz18 ygoez18 ycarz18 ykinz18 ysorz18 ybeaz18 yweiz18 yleaz18 yangz18 ycolz18 yendz18), (kX3 gL w0z18 w1z18 w2z18 w3z18), (kX3 gR z0z18 z1z18 z2z18 z3z18), (kX4 aLa vLa l4 a4 n4), (kAI vLa cI 24 f4), (kX7 aPa vPa l7 a7 n7), (kAI vPa cI 39 f7), (kX2 aGe vGe l2 a2 n2), (kAI vGe cI 23 f2), (kX1 aFl vFl xn), (kAI vFl cI 32 ff)] → va_S A s₀.heap H locs → lv_has ls 8 [(5, .int lz18), (4, .int whz18), (3, .int faz18), (0, .ref hx), (1, .int f1), (2, .int w1)] → W p₀ l e₀ _ s₀ m₀ _ below meth c₀ H locs _ _ _ (F0 m₀ 36 ls [])) _ (-1 : Int32) (-1 : Int32) (0 : Int32) (g_6 8) (g_6 9) (g_6 10) (g_6 11) (g_6 12) (g_6 13) (g_6 14) (g_6 15) (g_6 16) (g_6 17) (gp_10 0) (gp_10 1) (g_6 0) (g_6 1) (g_6 2) (g_6 3) (g_6 4) (g_6 5) (g_6 6) (g_6 7) H locs ls (show 0 ≤ (0 : Int32) from (by decide)) rfl hP hD hS hl
        clear hP hD hS hl
        intro jz18
        induction jz18 using Nat.strongRecOn with
        | ind jz18 ihz18 =>
          intro faz18 whz18 lz18 ygoez18 ycarz18 ykinz18 ysorz18 ybeaz18 yweiz18 yleaz18 yangz18 ycolz18 yendz18 pz18 qz18 w0z18 w1z18 w2z18 w3z18 z0z18 z1z18 z2z18 z3z18 H locs ls hiz18_0 hjz18 hP hD hS hl
          refine lv_iload hx₀ hb dX11_pair_36 (lv_at hl 0 rfl) ?_
          refine lv_aload_n hx₀ hb dX11_pair_38 rfl (lv_at hl 3 rfl) ?_
          refine va_get (D := (dC, dI)) (ci := 10) (v := .ref aGe) (C := RX11) (T := TX11) (N := 15) hx₀ hb hts inlX11 hown hK hP 0 rfl rfl 2 (by decide) (hts (.fieldLink RX11 26 "BittenStick" "geese" "LBittenStick$Geese;") wd_23) (fun _ h9 => h9) rfl dX11_pair_39 ?_
          refine va_get (D := (dC, dI)) (ci := 2) (v := .int n2) (C := RX2) (T := TX2) (N := 4) hx₀ hb hts inlX2 hown hK hP 8 rfl rfl 3 (by decide) (hts (.fieldLink RX11 185 "BittenStick$Geese" "number" "I") wd_676) (fun x9 h9 => u_same (hts (.sameField "BittenStick$Geese" "BittenStick$Text" "number" "I") wd_677) x9 h9) rfl dX11_pair_42 ?_
          refine lv_icmp_ge (tgt := 137) hx₀ hb dX11_pair_45 (by decide) (fun c_19 => ?_) (fun c_19 => ?_)
          · refine lv_iload_n hx₀ hb dX11_pair_137 rfl (lv_at hl 5 rfl) ?_
            refine lv_if_ne (tgt := 146) hx₀ hb dX11_pair_138 (by decide) (fun c_20 => ?_) (fun c_20 => ?_)
            · refine lv_iload_n hx₀ hb dX11_pair_146 rfl (lv_at hl 2 rfl) ?_
              obtain ⟨hP9, hD9⟩ := k_c2 (wc := [(kX11 hx aLa aPa aGe aFl aTr aBe aLu aLo vSf vSm vCo vSh xs xl xf), (kX10 aTr aLa aPa aGe gL gR pz18 qz18 ygoez18 ycarz18 ykinz18 ysorz18 ybeaz18 yweiz18 yleaz18 yangz18 ycolz18 yendz18), (kX3 gL w0z18 w1z18 w2z18 w3z18), (kX3 gR z0z18 z1z18 z2z18 z3z18), (kX4 aLa vLa l4 a4 n4), (kAI vLa cI 24 f4), (kX7 aPa vPa l7 a7 n7), (kAI vPa cI 39 f7), (kX2 aGe vGe l2 a2 n2), (kAI vGe cI 23 f2), (kX1 aFl vFl xn), (kAI vFl cI 32 ff)]) hP hD [0, 1, 2, 3, 4, 5, 6, 7, 8, 9, 10, 11] (by decide +kernel) rfl
              exact W.iret (v := faz18) hx₀ hb hr (fun t₀ ht hW => ⟨⟨faz18, (k_fn [w0z18, w1z18, w2z18, w3z18, z0z18, z1z18, z2z18, z3z18, ygoez18, ycarz18, ykinz18, ysorz18, ybeaz18, yweiz18, yleaz18, yangz18, ycolz18, yendz18], k_fa [], k_fl [], k_fL [], k_fp [pz18, qz18]), rfl, trivial, by rw [ht]; exact hP9, va_K.moved hW.alike hK, hD9⟩, hS.F ht⟩) hS.2.2 dX11_pair_147
            · refine lv_iload hx₀ hb dX11_pair_141 (lv_at hl 1 rfl) ?_
              refine lv_goto (tgt := 147) hx₀ hb dX11_pair_143 (by decide) ?_
              obtain ⟨hP9, hD9⟩ := k_c2 (wc := [(kX11 hx aLa aPa aGe aFl aTr aBe aLu aLo vSf vSm vCo vSh xs xl xf), (kX10 aTr aLa aPa aGe gL gR pz18 qz18 ygoez18 ycarz18 ykinz18 ysorz18 ybeaz18 yweiz18 yleaz18 yangz18 ycolz18 yendz18), (kX3 gL w0z18 w1z18 w2z18 w3z18), (kX3 gR z0z18 z1z18 z2z18 z3z18), (kX4 aLa vLa l4 a4 n4), (kAI vLa cI 24 f4), (kX7 aPa vPa l7 a7 n7), (kAI vPa cI 39 f7), (kX2 aGe vGe l2 a2 n2), (kAI vGe cI 23 f2), (kX1 aFl vFl xn), (kAI vFl cI 32 ff)]) hP hD [0, 1, 2, 3, 4, 5, 6, 7, 8, 9, 10, 11] (by decide +kernel) rfl
              exact W.iret (v := whz18) hx₀ hb hr (fun t₀ ht hW => ⟨⟨whz18, (k_fn [w0z18, w1z18, w2z18, w3z18, z0z18, z1z18, z2z18, z3z18, ygoez18, ycarz18, ykinz18, ysorz18, ybeaz18, yweiz18, yleaz18, yangz18, ycolz18, yendz18], k_fa [], k_fl [], k_fL [], k_fp [pz18, qz18]), rfl, trivial, by rw [ht]; exact hP9, va_K.moved hW.alike hK, hD9⟩, hS.F ht⟩) hS.2.2 dX11_pair_147
          · refine lv_iconst (v := 0) hx₀ hb dX11_pair_48 (by decide +kernel) ?_
            refine lv_istore (lv' := [(6, .int 0), (5, .int lz18), (4, .int whz18), (3, .int faz18), (0, .ref hx), (1, .int f1), (2, .int w1)]) hx₀ hb dX11_pair_49 hl (by decide) rfl (fun ls hl => ?_)
            refine (?keyz21 : ∀ (jz21 : Nat) (faz21 : Int32) (whz21 : Int32) (rz21 : Int32) (ygoez21 : Int32) (ycarz21 : Int32) (ykinz21 : Int32) (ysorz21 : Int32) (ybeaz21 : Int32) (yweiz21 : Int32) (yleaz21 : Int32) (yangz21 : Int32) (ycolz21 : Int32) (yendz21 : Int32) (pz21 : Nat) (qz21 : Nat) (w0z21 : Int32) (w1z21 : Int32) (w2z21 : Int32) (w3z21 : Int32) (z0z21 : Int32) (z1z21 : Int32) (z2z21 : Int32) (z3z21 : Int32) (H : Heap) (locs : List Loc) (ls : Array Slot), (0 ≤ rz21) → ((n2.toInt - rz21.toInt).toNat = jz21) → va_P (dC, dI) vwCl [(kX11 hx aLa aPa aGe aFl aTr aBe aLu aLo vSf vSm vCo vSh xs xl xf), (kX10 aTr aLa aPa aGe gL gR pz21 qz21 ygoez21 ycarz21 ykinz21 ysorz21 ybeaz21 yweiz21 yleaz21 yangz21 ycolz21 yendz21), (kX3 gL w0z21 w1z21 w2z21 w3z21), (kX3 gR z0z21 z1z21 z2z21 z3z21), (kX4 aLa vLa l4 a4 n4), (kAI vLa cI 24 f4), (kX7 aPa vPa l7 a7 n7), (kAI vPa cI 39 f7), (kX2 aGe vGe l2 a2 n2), (kAI vGe cI 23 f2), (kX1 aFl vFl xn), (kAI vFl cI 32 ff)] H → va_D A [(kX11 hx aLa aPa aGe aFl aTr aBe aLu aLo vSf vSm vCo vSh xs xl xf), (kX10 aTr aLa aPa aGe gL gR pz21 qz21 ygoez21 ycarz21 ykinz21 ysorz21 ybeaz21 yweiz21 yleaz21 yangz21 ycolz21 yendz21), (kX3 gL w0z21 w1z21 w2z21 w3z21), (kX3 gR z0z21 z1z21 z2z21 z3z21), (kX4 aLa vLa l4 a4 n4), (kAI vLa cI 24 f4), (kX7 aPa vPa l7 a7 n7), (kAI vPa cI 39 f7), (kX2 aGe vGe l2 a2 n2), (kAI vGe cI 23 f2), (kX1 aFl vFl xn), (kAI vFl cI 32 ff)] → va_S A s₀.heap H locs → lv_has ls 8 [(6, .int rz21), (5, .int lz18), (4, .int whz21), (3, .int faz21), (0, .ref hx), (1, .int f1), (2, .int w1)] → W p₀ l e₀ _ s₀ m₀ _ below meth c₀ H locs _ _ _ (F0 m₀ 51 ls [])) _ faz18 whz18 (0 : Int32) ygoez18 ycarz18 ykinz18 ysorz18 ybeaz18 yweiz18 yleaz18 yangz18 ycolz18 yendz18 pz18 qz18 w0z18 w1z18 w2z18 w3z18 z0z18 z1z18 z2z18 z3z18 H locs ls (show 0 ≤ (0 : Int32) from (by decide)) rfl hP hD hS hl
            clear hP hD hS hl
            intro jz21
            induction jz21 using Nat.strongRecOn with
            | ind jz21 ihz21 =>
              intro faz21 whz21 rz21 ygoez21 ycarz21 ykinz21 ysorz21 ybeaz21 yweiz21 yleaz21 yangz21 ycolz21 yendz21 pz21 qz21 w0z21 w1z21 w2z21 w3z21 z0z21 z1z21 z2z21 z3z21 H locs ls hiz21_0 hjz21 hP hD hS hl
              refine lv_iload hx₀ hb dX11_pair_51 (lv_at hl 0 rfl) ?_
              refine lv_aload_n hx₀ hb dX11_pair_53 rfl (lv_at hl 4 rfl) ?_
              refine va_get (D := (dC, dI)) (ci := 10) (v := .ref aGe) (C := RX11) (T := TX11) (N := 15) hx₀ hb hts inlX11 hown hK hP 0 rfl rfl 2 (by decide) (hts (.fieldLink RX11 26 "BittenStick" "geese" "LBittenStick$Geese;") wd_23) (fun _ h9 => h9) rfl dX11_pair_54 ?_
              refine va_get (D := (dC, dI)) (ci := 2) (v := .int n2) (C := RX2) (T := TX2) (N := 4) hx₀ hb hts inlX2 hown hK hP 8 rfl rfl 3 (by decide) (hts (.fieldLink RX11 185 "BittenStick$Geese" "number" "I") wd_676) (fun x9 h9 => u_same (hts (.sameField "BittenStick$Geese" "BittenStick$Text" "number" "I") wd_677) x9 h9) rfl dX11_pair_57 ?_
              refine lv_icmp_ge (tgt := 131) hx₀ hb dX11_pair_60 (by decide) (fun c_22 => ?_) (fun c_22 => ?_)
              · refine lv_iinc (v := lz18 + 1) (lv' := [(5, .int (lz18 + 1)), (6, .int rz21), (4, .int whz21), (3, .int faz21), (0, .ref hx), (1, .int f1), (2, .int w1)]) hx₀ hb dX11_pair_131 hl (k := 1) rfl rfl (by decide) rfl (fun ls hl => ?_)
                refine lv_goto (tgt := 36) hx₀ hb dX11_pair_134 (by decide) ?_
                exact ihz18 _ (lf_j_pair_2 lz18 n2 jz18 rz21 jz21 hiz18_0 hjz18 c_19 hiz21_0 hjz21 c_22) faz21 whz21 (lz18 + 1) ygoez21 ycarz21 ykinz21 ysorz21 ybeaz21 yweiz21 yleaz21 yangz21 ycolz21 yendz21 pz21 qz21 w0z21 w1z21 w2z21 w3z21 z0z21 z1z21 z2z21 z3z21 _ _ _ (lf_j_pair_1 lz18 n2 jz18 rz21 jz21 hiz18_0 hjz18 c_19 hiz21_0 hjz21 c_22) rfl (hP.sub [0, 1, 2, 3, 4, 5, 6, 7, 8, 9, 10, 11] rfl) (hD.sub [0, 1, 2, 3, 4, 5, 6, 7, 8, 9, 10, 11] (by decide +kernel) rfl) hS (lv_sub hl [0, 2, 3, 4, 5, 6] rfl)
              · refine lv_iload hx₀ hb dX11_pair_63 (lv_at hl 1 rfl) ?_
                refine lv_iload hx₀ hb dX11_pair_65 (lv_at hl 0 rfl) ?_
                refine lv_icmp_eq (tgt := 125) hx₀ hb dX11_pair_67 (by decide) (fun c_23 => ?_) (fun c_23 => ?_)
                · refine lv_iinc (v := rz21 + 1) (lv' := [(6, .int (rz21 + 1)), (5, .int lz18), (4, .int whz21), (3, .int faz21), (0, .ref hx), (1, .int f1), (2, .int w1)]) hx₀ hb dX11_pair_125 hl (k := 0) rfl rfl (by decide) rfl (fun ls hl => ?_)
                  refine lv_goto (tgt := 51) hx₀ hb dX11_pair_128 (by decide) ?_
                  exact ihz21 _ (lf_j_pair_4 lz18 n2 jz18 rz21 jz21 hiz18_0 hjz18 c_19 hiz21_0 hjz21 c_22 c_23) faz21 whz21 (rz21 + 1) ygoez21 ycarz21 ykinz21 ysorz21 ybeaz21 yweiz21 yleaz21 yangz21 ycolz21 yendz21 pz21 qz21 w0z21 w1z21 w2z21 w3z21 z0z21 z1z21 z2z21 z3z21 _ _ _ (lf_j_pair_3 lz18 n2 jz18 rz21 jz21 hiz18_0 hjz18 c_19 hiz21_0 hjz21 c_22 c_23) rfl (hP.sub [0, 1, 2, 3, 4, 5, 6, 7, 8, 9, 10, 11] rfl) (hD.sub [0, 1, 2, 3, 4, 5, 6, 7, 8, 9, 10, 11] (by decide +kernel) rfl) hS (lv_sub hl [0, 1, 2, 3, 4, 5, 6] rfl)
                · refine lv_aload_n hx₀ hb dX11_pair_70 rfl (lv_at hl 4 rfl) ?_
                  refine va_get (D := (dC, dI)) (ci := 10) (v := .ref aTr) (C := RX11) (T := TX11) (N := 15) hx₀ hb hts inlX11 hown hK hP 0 rfl rfl 4 (by decide) (hts (.fieldLink RX11 42 "BittenStick" "trip" "LBittenStick$Trip;") wd_31) (fun _ h9 => h9) rfl dX11_pair_71 ?_
                  refine lv_aload_n hx₀ hb dX11_pair_74 rfl (lv_at hl 4 rfl) ?_
                  refine va_get (D := (dC, dI)) (ci := 10) (v := .ref aFl) (C := RX11) (T := TX11) (N := 15) hx₀ hb hts inlX11 hown hK hP 0 rfl rfl 3 (by decide) (hts (.fieldLink RX11 33 "BittenStick" "flights" "LBittenStick$Flights;") wd_27) (fun _ h9 => h9) rfl dX11_pair_75 ?_
                  refine lv_iload_n hx₀ hb dX11_pair_78 rfl (lv_at hl 5 rfl) ?_
                  obtain ⟨hPc, hDc, hFc, hC⟩ := k_cw (wc := [(kX1 aFl vFl xn), (kAI vFl cI 32 ff)]) hP hD hS hA [10, 11] (by decide +kernel) rfl
                  refine va_calli (va_runV (As := [.int f1]) (rest := [.ref aTr]) ⟨hx₀, hb, hml, hown, hts⟩ (j_passengerOf l dC dI cI cJ cQ H.size aFl f1 vFl xn ff (hh1)) (cwV 1 hts (kGV wd_435 wd_432 wd_433 wd_434 wd_26) rfl rfl rfl (by decide +kernel) ⟨Nat.le_of_ble_eq_true rfl, Nat.le_of_ble_eq_true rfl⟩) (k_preV1 (q0 := 0) hK hPc hDc hN rfl) rfl rfl hl.1 rfl (lv_room (Nat.le_of_ble_eq_true rfl)) dX11_pair_79 ⟨by decide +kernel, by decide +kernel⟩) hS (fun q _ h => hFc q h) hFc (fun r_24 u₀ t₀ H1 locs ht hvm hw hB hz1 hk1 hS => ?_)
                  obtain ⟨hP1, hK1, hD1⟩ := hB
                  rw [ht] at hP1
                  have hJ := k_jn (wr := [(kX11 hx aLa aPa aGe aFl aTr aBe aLu aLo vSf vSm vCo vSh xs xl xf), (kX10 aTr aLa aPa aGe gL gR pz21 qz21 ygoez21 ycarz21 ykinz21 ysorz21 ybeaz21 yweiz21 yleaz21 yangz21 ycolz21 yendz21), (kX3 gL w0z21 w1z21 w2z21 w3z21), (kX3 gR z0z21 z1z21 z2z21 z3z21), (kX4 aLa vLa l4 a4 n4), (kAI vLa cI 24 f4), (kX7 aPa vPa l7 a7 n7), (kAI vPa cI 39 f7), (kX2 aGe vGe l2 a2 n2), (kAI vGe cI 23 f2)]) (wt := [(kX11 hx aLa aPa aGe aFl aTr aBe aLu aLo vSf vSm vCo vSh xs xl xf), (kX10 aTr aLa aPa aGe gL gR pz21 qz21 ygoez21 ycarz21 ykinz21 ysorz21 ybeaz21 yweiz21 yleaz21 yangz21 ycolz21 yendz21), (kX3 gL w0z21 w1z21 w2z21 w3z21), (kX3 gR z0z21 z1z21 z2z21 z3z21), (kX4 aLa vLa l4 a4 n4), (kAI vLa cI 24 f4), (kX7 aPa vPa l7 a7 n7), (kAI vPa cI 39 f7), (kX2 aGe vGe l2 a2 n2), (kAI vGe cI 23 f2), (kX1 aFl vFl xn), (kAI vFl cI 32 ff)]) hP hD hC [0, 1, 2, 3, 4, 5, 6, 7, 8, 9] rfl (by decide +kernel) (by decide +kernel) hk1 hFc hP1 hD1 rfl
                  clear hP hD hPc hDc hFc hC hP1 hD1 hK1 hz1 hk1 hvm ht
                  obtain ⟨hP, hD⟩ := hJ
                  generalize H1 = H at hP hS ⊢
                  try dsimp only at hw
                  refine k_topi (v := kIt xn ff f1 0) hw ?_
                  refine lv_iload hx₀ hb dX11_pair_82 (lv_at hl 1 rfl) ?_
                  refine lv_iload hx₀ hb dX11_pair_84 (lv_at hl 0 rfl) ?_
                  obtain ⟨hPc, hDc, hFc, hC⟩ := k_cw (wc := [(kX10 aTr aLa aPa aGe gL gR pz21 qz21 ygoez21 ycarz21 ykinz21 ysorz21 ybeaz21 yweiz21 yleaz21 yangz21 ycolz21 yendz21), (kX3 gL w0z21 w1z21 w2z21 w3z21), (kX3 gR z0z21 z1z21 z2z21 z3z21), (kX4 aLa vLa l4 a4 n4), (kAI vLa cI 24 f4), (kX7 aPa vPa l7 a7 n7), (kAI vPa cI 39 f7), (kX2 aGe vGe l2 a2 n2), (kAI vGe cI 23 f2)]) hP hD hS hA [1, 2, 3, 4, 5, 6, 7, 8, 9] (by decide +kernel) rfl
                  refine va_callv (va_runV (As := [.int (kIt xn ff f1 0), .int lz18, .int rz21]) (rest := []) ⟨hx₀, hb, hml, hown, hts⟩ (j_board l dC dI cI cJ cQ H.size aTr (kIt xn ff f1 0) lz18 rz21 aLa aPa aGe gL gR pz21 qz21 ygoez21 ycarz21 ykinz21 ysorz21 ybeaz21 yweiz21 yleaz21 yangz21 ycolz21 yendz21 w0z21 w1z21 w2z21 w3z21 z0z21 z1z21 z2z21 z3z21 vLa l4 a4 n4 f4 vPa l7 a7 n7 f7 vGe l2 a2 n2 f2 (hh0)) (cwV 3 hts (kGV wd_452 wd_449 wd_450 wd_451 wd_30) rfl rfl rfl (by decide +kernel) ⟨Nat.le_of_ble_eq_true rfl, Nat.le_of_ble_eq_true rfl⟩) (k_preV9 (q0 := 0) hK hPc hDc hN rfl) rfl rfl hl.1 rfl (lv_room (Nat.le_of_ble_eq_true rfl)) dX11_pair_86 ⟨by decide +kernel, by decide +kernel⟩) hS (fun q _ h => hFc q h) hFc (fun u₀ t₀ H1 locs ht hvm hw hB hz1 hk1 hS => ?_)
                  obtain ⟨g_26, ga_27, gl_28, gb_29, gp_30⟩ := u₀
                  obtain ⟨hP1, hK1, hD1⟩ := hB
                  rw [ht] at hP1
                  have hJ := k_jn (wr := [(kX11 hx aLa aPa aGe aFl aTr aBe aLu aLo vSf vSm vCo vSh xs xl xf), (kX1 aFl vFl xn), (kAI vFl cI 32 ff)]) (wt := [(kX11 hx aLa aPa aGe aFl aTr aBe aLu aLo vSf vSm vCo vSh xs xl xf), (kX1 aFl vFl xn), (kAI vFl cI 32 ff), (kX10 aTr aLa aPa aGe gL gR (gp_30 0) (gp_30 1) (g_26 8) (g_26 9) (g_26 10) (g_26 11) (g_26 12) (g_26 13) yleaz21 yangz21 ycolz21 yendz21), (kX3 gL (g_26 0) (g_26 1) (g_26 2) (g_26 3)), (kX3 gR (g_26 4) (g_26 5) (g_26 6) (g_26 7)), (kX4 aLa vLa l4 a4 n4), (kAI vLa cI 24 f4), (kX7 aPa vPa l7 a7 n7), (kAI vPa cI 39 f7), (kX2 aGe vGe l2 a2 n2), (kAI vGe cI 23 f2)]) hP hD hC [0, 10, 11] rfl (by decide +kernel) (by decide +kernel) hk1 hFc hP1 hD1 rfl
                  clear hP hD hPc hDc hFc hC hP1 hD1 hK1 hz1 hk1 hvm ht
                  obtain ⟨hP, hD⟩ := hJ
                  generalize H1 = H at hP hS ⊢
                  try dsimp only at hw
                  obtain ⟨c_31, c_32, c_33, c_34, c_35, c_36⟩ := hw
                  refine lv_aload_n hx₀ hb dX11_pair_89 rfl (lv_at hl 4 rfl) ?_
                  refine va_get (D := (dC, dI)) (ci := 10) (v := .ref aTr) (C := RX11) (T := TX11) (N := 15) hx₀ hb hts inlX11 hown hK hP 0 rfl rfl 4 (by decide) (hts (.fieldLink RX11 42 "BittenStick" "trip" "LBittenStick$Trip;") wd_31) (fun _ h9 => h9) rfl dX11_pair_90 ?_
                  refine lv_aload_n hx₀ hb dX11_pair_93 rfl (lv_at hl 4 rfl) ?_
                  refine va_get (D := (dC, dI)) (ci := 10) (v := .ref aFl) (C := RX11) (T := TX11) (N := 15) hx₀ hb hts inlX11 hown hK hP 0 rfl rfl 3 (by decide) (hts (.fieldLink RX11 33 "BittenStick" "flights" "LBittenStick$Flights;") wd_27) (fun _ h9 => h9) rfl dX11_pair_94 ?_
                  refine lv_iload_n hx₀ hb dX11_pair_97 rfl (lv_at hl 5 rfl) ?_
                  obtain ⟨hPc, hDc, hFc, hC⟩ := k_cw (wc := [(kX1 aFl vFl xn), (kAI vFl cI 32 ff)]) hP hD hS hA [1, 2] (by decide +kernel) rfl
                  refine va_calli (va_runV (As := [.int f1]) (rest := [.ref aTr]) ⟨hx₀, hb, hml, hown, hts⟩ (j_heightOf l dC dI cI cJ cQ H.size aFl f1 vFl xn ff (hh1)) (cwV 1 hts (kGV wd_491 wd_488 wd_489 wd_490 wd_26) rfl rfl rfl (by decide +kernel) ⟨Nat.le_of_ble_eq_true rfl, Nat.le_of_ble_eq_true rfl⟩) (k_preV1 (q0 := 0) hK hPc hDc hN rfl) rfl rfl hl.1 rfl (lv_room (Nat.le_of_ble_eq_true rfl)) dX11_pair_98 ⟨by decide +kernel, by decide +kernel⟩) hS (fun q _ h => hFc q h) hFc (fun r_37 u₀ t₀ H1 locs ht hvm hw hB hz1 hk1 hS => ?_)
                  obtain ⟨hP1, hK1, hD1⟩ := hB
                  rw [ht] at hP1
                  have hJ := k_jn (wr := [(kX11 hx aLa aPa aGe aFl aTr aBe aLu aLo vSf vSm vCo vSh xs xl xf), (kX10 aTr aLa aPa aGe gL gR (gp_30 0) (gp_30 1) (g_26 8) (g_26 9) (g_26 10) (g_26 11) (g_26 12) (g_26 13) yleaz21 yangz21 ycolz21 yendz21), (kX3 gL (g_26 0) (g_26 1) (g_26 2) (g_26 3)), (kX3 gR (g_26 4) (g_26 5) (g_26 6) (g_26 7)), (kX4 aLa vLa l4 a4 n4), (kAI vLa cI 24 f4), (kX7 aPa vPa l7 a7 n7), (kAI vPa cI 39 f7), (kX2 aGe vGe l2 a2 n2), (kAI vGe cI 23 f2)]) (wt := [(kX11 hx aLa aPa aGe aFl aTr aBe aLu aLo vSf vSm vCo vSh xs xl xf), (kX10 aTr aLa aPa aGe gL gR (gp_30 0) (gp_30 1) (g_26 8) (g_26 9) (g_26 10) (g_26 11) (g_26 12) (g_26 13) yleaz21 yangz21 ycolz21 yendz21), (kX3 gL (g_26 0) (g_26 1) (g_26 2) (g_26 3)), (kX3 gR (g_26 4) (g_26 5) (g_26 6) (g_26 7)), (kX4 aLa vLa l4 a4 n4), (kAI vLa cI 24 f4), (kX7 aPa vPa l7 a7 n7), (kAI vPa cI 39 f7), (kX2 aGe vGe l2 a2 n2), (kAI vGe cI 23 f2), (kX1 aFl vFl xn), (kAI vFl cI 32 ff)]) hP hD hC [0, 3, 4, 5, 6, 7, 8, 9, 10, 11] rfl (by decide +kernel) (by decide +kernel) hk1 hFc hP1 hD1 rfl
                  clear hP hD hPc hDc hFc hC hP1 hD1 hK1 hz1 hk1 hvm ht
                  obtain ⟨hP, hD⟩ := hJ
                  generalize H1 = H at hP hS ⊢
                  try dsimp only at hw
                  refine k_topi (v := kIt xn ff f1 3) hw ?_
                  obtain ⟨hPc, hDc, hFc, hC⟩ := k_cw (wc := [(kX10 aTr aLa aPa aGe gL gR (gp_30 0) (gp_30 1) (g_26 8) (g_26 9) (g_26 10) (g_26 11) (g_26 12) (g_26 13) yleaz21 yangz21 ycolz21 yendz21), (kX4 aLa vLa l4 a4 n4), (kAI vLa cI 24 f4)]) hP hD hS hA [1, 4, 5] (by decide +kernel) rfl
                  refine va_calli (va_runV (As := [.int (kIt xn ff f1 3)]) (rest := []) ⟨hx₀, hb, hml, hown, hts⟩ (j_comesTo l dC dI cI cJ cQ H.size aTr (kIt xn ff f1 3) aLa aPa aGe gL gR (gp_30 0) (gp_30 1) (g_26 8) (g_26 9) (g_26 10) (g_26 11) (g_26 12) (g_26 13) yleaz21 yangz21 ycolz21 yendz21 vLa l4 a4 n4 f4 (hh0)) (cwV 1 hts (kGV wd_495 wd_492 wd_493 wd_494 wd_30) rfl rfl rfl (by decide +kernel) ⟨Nat.le_of_ble_eq_true rfl, Nat.le_of_ble_eq_true rfl⟩) (k_preV9 (q0 := 0) hK hPc hDc hN rfl) rfl rfl hl.1 rfl (lv_room (Nat.le_of_ble_eq_true rfl)) dX11_pair_101 ⟨by decide +kernel, by decide +kernel⟩) hS (fun q _ h => hFc q h) hFc (fun r_38 u₀ t₀ H1 locs ht hvm hw hB hz1 hk1 hS => ?_)
                  obtain ⟨g_39, ga_40, gl_41, gb_42, gp_43⟩ := u₀
                  obtain ⟨hP1, hK1, hD1⟩ := hB
                  rw [ht] at hP1
                  have hJ := k_jn (wr := [(kX11 hx aLa aPa aGe aFl aTr aBe aLu aLo vSf vSm vCo vSh xs xl xf), (kX3 gL (g_26 0) (g_26 1) (g_26 2) (g_26 3)), (kX3 gR (g_26 4) (g_26 5) (g_26 6) (g_26 7)), (kX7 aPa vPa l7 a7 n7), (kAI vPa cI 39 f7), (kX2 aGe vGe l2 a2 n2), (kAI vGe cI 23 f2), (kX1 aFl vFl xn), (kAI vFl cI 32 ff)]) (wt := [(kX11 hx aLa aPa aGe aFl aTr aBe aLu aLo vSf vSm vCo vSh xs xl xf), (kX3 gL (g_26 0) (g_26 1) (g_26 2) (g_26 3)), (kX3 gR (g_26 4) (g_26 5) (g_26 6) (g_26 7)), (kX7 aPa vPa l7 a7 n7), (kAI vPa cI 39 f7), (kX2 aGe vGe l2 a2 n2), (kAI vGe cI 23 f2), (kX1 aFl vFl xn), (kAI vFl cI 32 ff), (kX10 aTr aLa aPa aGe gL gR (gp_30 0) (gp_30 1) (g_26 8) (g_26 9) (g_26 10) (g_26 11) (g_26 12) (g_26 13) yleaz21 (g_39 0) (g_39 1) (g_39 2)), (kX4 aLa vLa l4 a4 n4), (kAI vLa cI 24 f4)]) hP hD hC [0, 2, 3, 6, 7, 8, 9, 10, 11] rfl (by decide +kernel) (by decide +kernel) hk1 hFc hP1 hD1 rfl
                  clear hP hD hPc hDc hFc hC hP1 hD1 hK1 hz1 hk1 hvm ht
                  obtain ⟨hP, hD⟩ := hJ
                  generalize H1 = H at hP hS ⊢
                  try dsimp only at hw
                  obtain ⟨c_44, c_45, c_46, c_47⟩ := hw
                  refine lv_istore (lv' := [(7, .int r_38), (6, .int rz21), (5, .int lz18), (4, .int whz21), (3, .int faz21), (0, .ref hx), (1, .int f1), (2, .int w1)]) hx₀ hb dX11_pair_104 hl (by decide) rfl (fun ls hl => ?_)
                  refine lv_iload hx₀ hb dX11_pair_106 (lv_at hl 0 rfl) ?_
                  refine lv_iload_n hx₀ hb dX11_pair_108 rfl (lv_at hl 4 rfl) ?_
                  refine lv_icmp_le (tgt := 125) hx₀ hb dX11_pair_109 (by decide) (fun c_48 => ?_) (fun c_48 => ?_)
                  · refine lv_iinc (v := rz21 + 1) (lv' := [(6, .int (rz21 + 1)), (7, .int r_38), (5, .int lz18), (4, .int whz21), (3, .int faz21), (0, .ref hx), (1, .int f1), (2, .int w1)]) hx₀ hb dX11_pair_125 hl (k := 1) rfl rfl (by decide) rfl (fun ls hl => ?_)
                    refine lv_goto (tgt := 51) hx₀ hb dX11_pair_128 (by decide) ?_
                    exact ihz21 _ (lf_j_pair_6 lz18 n2 jz18 rz21 jz21 hiz18_0 hjz18 c_19 hiz21_0 hjz21 c_22 c_23) faz21 whz21 (rz21 + 1) (g_26 8) (g_26 9) (g_26 10) (g_26 11) (g_26 12) (g_26 13) yleaz21 (g_39 0) (g_39 1) (g_39 2) (gp_30 0) (gp_30 1) (g_26 0) (g_26 1) (g_26 2) (g_26 3) (g_26 4) (g_26 5) (g_26 6) (g_26 7) _ _ _ (lf_j_pair_5 lz18 n2 jz18 rz21 jz21 hiz18_0 hjz18 c_19 hiz21_0 hjz21 c_22 c_23) rfl (hP.sub [0, 9, 1, 2, 10, 11, 3, 4, 5, 6, 7, 8] rfl) (hD.sub [0, 9, 1, 2, 10, 11, 3, 4, 5, 6, 7, 8] (by decide +kernel) rfl) hS (lv_sub hl [0, 2, 3, 4, 5, 6, 7] rfl)
                  · refine lv_iload hx₀ hb dX11_pair_112 (lv_at hl 0 rfl) ?_
                    refine lv_istore_n (lv' := [(3, .int r_38), (7, .int r_38), (6, .int rz21), (5, .int lz18), (4, .int whz21), (0, .ref hx), (1, .int f1), (2, .int w1)]) hx₀ hb dX11_pair_114 rfl hl (by decide) rfl (fun ls hl => ?_)
                    refine lv_bipush (v := 8) hx₀ hb dX11_pair_115 (by decide +kernel) ?_
                    refine lv_iload hx₀ hb dX11_pair_117 (lv_at hl 3 rfl) ?_
                    refine lv_imul hx₀ hb dX11_pair_119 ?_
                    refine lv_iload hx₀ hb dX11_pair_120 (lv_at hl 2 rfl) ?_
                    refine lv_iadd hx₀ hb dX11_pair_122 ?_
                    refine lv_istore (lv' := [(4, .int ((8 * lz18) + rz21)), (3, .int r_38), (7, .int r_38), (6, .int rz21), (5, .int lz18), (0, .ref hx), (1, .int f1), (2, .int w1)]) hx₀ hb dX11_pair_123 hl (by decide) rfl (fun ls hl => ?_)
                    refine lv_iinc (v := rz21 + 1) (lv' := [(6, .int (rz21 + 1)), (4, .int ((8 * lz18) + rz21)), (3, .int r_38), (7, .int r_38), (5, .int lz18), (0, .ref hx), (1, .int f1), (2, .int w1)]) hx₀ hb dX11_pair_125 hl (k := 3) rfl rfl (by decide) rfl (fun ls hl => ?_)
                    refine lv_goto (tgt := 51) hx₀ hb dX11_pair_128 (by decide) ?_
                    exact ihz21 _ (lf_j_pair_6 lz18 n2 jz18 rz21 jz21 hiz18_0 hjz18 c_19 hiz21_0 hjz21 c_22 c_23) r_38 ((8 * lz18) + rz21) (rz21 + 1) (g_26 8) (g_26 9) (g_26 10) (g_26 11) (g_26 12) (g_26 13) yleaz21 (g_39 0) (g_39 1) (g_39 2) (gp_30 0) (gp_30 1) (g_26 0) (g_26 1) (g_26 2) (g_26 3) (g_26 4) (g_26 5) (g_26 6) (g_26 7) _ _ _ (lf_j_pair_5 lz18 n2 jz18 rz21 jz21 hiz18_0 hjz18 c_19 hiz21_0 hjz21 c_22 c_23) rfl (hP.sub [0, 9, 1, 2, 10, 11, 3, 4, 5, 6, 7, 8] rfl) (hD.sub [0, 9, 1, 2, 10, 11, 3, 4, 5, 6, 7, 8] (by decide +kernel) rfl) hS (lv_sub hl [0, 4, 1, 2, 5, 6, 7] rfl)
      · refine lv_bipush (v := (-2)) hx₀ hb dX11_pair_20 (by decide +kernel) ?_
        obtain ⟨hP9, hD9⟩ := k_c2 (wc := [(kX11 hx aLa aPa aGe aFl aTr aBe aLu aLo vSf vSm vCo vSh xs xl xf), (kX10 aTr aLa aPa aGe gL gR lf rt tgo tca tki tso tbe twe tle tan tco ten), (kX3 gL u0 u1 u2 u3), (kX3 gR v0 v1 v2 v3), (kX4 aLa vLa l4 a4 n4), (kAI vLa cI 24 f4), (kX7 aPa vPa l7 a7 n7), (kAI vPa cI 39 f7), (kX2 aGe vGe l2 a2 n2), (kAI vGe cI 23 f2), (kX1 aFl vFl xn), (kAI vFl cI 32 ff)]) hP hD [0, 1, 2, 3, 4, 5, 6, 7, 8, 9, 11, 10] (by decide +kernel) rfl
        exact W.iret (v := (-2)) hx₀ hb hr (fun t₀ ht hW => ⟨⟨(-2), (k_fn [u0, u1, u2, u3, v0, v1, v2, v3, tgo, tca, tki, tso, tbe, twe, tle, tan, tco, ten], k_fa [], k_fl [], k_fL [], k_fp [lf, rt]), rfl, trivial, by rw [ht]; exact hP9, va_K.moved hW.alike hK, hD9⟩, hS.F ht⟩) hS.2.2 dX11_pair_22
  rw [if_neg c_2] at hw
  refine k_topi (v := 0) hw ?_
  refine lv_if_eq (tgt := 20) hx₀ hb dX11_pair_8 (by decide) (fun _ => ?_) (fun c9 => absurd (by decide +kernel) c9)
  refine lv_bipush (v := (-2)) hx₀ hb dX11_pair_20 (by decide +kernel) ?_
  obtain ⟨hP9, hD9⟩ := k_c2 (wc := [(kX11 hx aLa aPa aGe aFl aTr aBe aLu aLo vSf vSm vCo vSh xs xl xf), (kX10 aTr aLa aPa aGe gL gR lf rt tgo tca tki tso tbe twe tle tan tco ten), (kX3 gL u0 u1 u2 u3), (kX3 gR v0 v1 v2 v3), (kX4 aLa vLa l4 a4 n4), (kAI vLa cI 24 f4), (kX7 aPa vPa l7 a7 n7), (kAI vPa cI 39 f7), (kX2 aGe vGe l2 a2 n2), (kAI vGe cI 23 f2), (kX1 aFl vFl xn), (kAI vFl cI 32 ff)]) hP hD [0, 1, 2, 3, 4, 5, 6, 7, 8, 9, 11, 10] (by decide +kernel) rfl
  exact W.iret (v := (-2)) hx₀ hb hr (fun t₀ ht hW => ⟨⟨(-2), (k_fn [u0, u1, u2, u3, v0, v1, v2, v3, tgo, tca, tki, tso, tbe, twe, tle, tan, tco, ten], k_fa [], k_fl [], k_fL [], k_fp [lf, rt]), rfl, trivial, by rw [ht]; exact hP9, va_K.moved hW.alike hK, hD9⟩, hS.F ht⟩) hS.2.2 dX11_pair_22
theorem lf_j_agreesWithSeen_1 (a0 : Int32) (a1 : Int32) (a2 : Nat) (h0 : 0 ≤ a0) (h1 : (a1.toInt - a0.toInt).toNat = a2) (h2 : ¬ a1 ≤ a0) (h3 : ¬ 8 ≤ a0) : 0 ≤ a0.toInt ∧ a0.toInt < 8 := by
  first | (first | omega | (have hr0 := Int32.toInt_lt a0; have hs0 := Int32.le_toInt a0; have hr1 := Int32.toInt_lt a1; have hs1 := Int32.le_toInt a1; simp only [Int64.toInt_add, Int64.toInt_sub, Int32.toInt_add, Int32.toInt_sub, Int32.toInt_mul, Int64.le_iff_toInt_le, Int64.lt_iff_toInt_lt, Int32.le_iff_toInt_le, Int32.lt_iff_toInt_lt, ← Int32.toInt_inj, ← Int64.toInt_inj, Int32.toInt_toInt64, kc_0, kc_8, true_and, and_true, not_true_eq_false, not_false_eq_true] at * <;> ((first | omega | ((try simp (disch := omega) only [k_bm64] at *); (try simp (disch := omega) only [k_bm] at *); (try simp (disch := omega) only [k_bm] at *); omega) | (simp only [Int.bmod] at *; omega))))) | with_reducible assumption | rfl
theorem lf_j_agreesWithSeen_2 (a0 : Int32) (a1 : Int32) (a2 : Nat) (h0 : 0 ≤ a0) (h1 : (a1.toInt - a0.toInt).toNat = a2) (h2 : ¬ a1 ≤ a0) (h3 : ¬ 8 ≤ a0) : 0 ≤ (a0 + 1) := by
  first | (first | omega | (have hr0 := Int32.toInt_lt a0; have hs0 := Int32.le_toInt a0; have hr1 := Int32.toInt_lt a1; have hs1 := Int32.le_toInt a1; simp only [Int64.toInt_add, Int64.toInt_sub, Int32.toInt_add, Int32.toInt_sub, Int32.toInt_mul, Int64.le_iff_toInt_le, Int64.lt_iff_toInt_lt, Int32.le_iff_toInt_le, Int32.lt_iff_toInt_lt, ← Int32.toInt_inj, ← Int64.toInt_inj, Int32.toInt_toInt64, kc_0, kc_1, kc_8, true_and, and_true, not_true_eq_false, not_false_eq_true] at * <;> ((first | omega | ((try simp (disch := omega) only [k_bm64] at *); (try simp (disch := omega) only [k_bm] at *); (try simp (disch := omega) only [k_bm] at *); omega) | (simp only [Int.bmod] at *; omega))))) | with_reducible assumption | rfl
theorem lf_j_agreesWithSeen_3 (a0 : Int32) (a1 : Int32) (a2 : Nat) (h0 : 0 ≤ a0) (h1 : (a1.toInt - a0.toInt).toNat = a2) (h2 : ¬ a1 ≤ a0) (h3 : ¬ 8 ≤ a0) : (a1.toInt - (a0 + 1).toInt).toNat < a2 := by
  first | (first | omega | (have hr0 := Int32.toInt_lt a0; have hs0 := Int32.le_toInt a0; have hr1 := Int32.toInt_lt a1; have hs1 := Int32.le_toInt a1; simp only [Int64.toInt_add, Int64.toInt_sub, Int32.toInt_add, Int32.toInt_sub, Int32.toInt_mul, Int64.le_iff_toInt_le, Int64.lt_iff_toInt_lt, Int32.le_iff_toInt_le, Int32.lt_iff_toInt_lt, ← Int32.toInt_inj, ← Int64.toInt_inj, Int32.toInt_toInt64, kc_0, kc_1, kc_8, true_and, and_true, not_true_eq_false, not_false_eq_true] at * <;> ((first | omega | ((try simp (disch := omega) only [k_bm64] at *); (try simp (disch := omega) only [k_bm] at *); (try simp (disch := omega) only [k_bm] at *); omega) | (simp only [Int.bmod] at *; omega))))) | with_reducible assumption | rfl
set_option maxHeartbeats 4000000 in
set_option maxRecDepth 100000 in
theorem j_agreesWithSeen (l : Launch) (dC : Nat → ClassId) (dI : Nat → Nat → Nat) (cI cJ cQ : ClassId) (sz : Nat) (hx : Nat) (p1 : Int32) (s1 : Int32) (f1 : Int32) (h1 : Int32) (aLa : Nat) (aPa : Nat) (aGe : Nat) (aFl : Nat) (aTr : Nat) (aBe : Nat) (aLu : Nat) (aLo : Nat) (vSf : Nat) (vSm : Nat) (vCo : Nat) (vSh : Nat) (xs : Int32) (xl : Int32) (xf : Int32) (gL : Nat) (gR : Nat) (lf : Nat) (rt : Nat) (tgo : Int32) (tca : Int32) (tki : Int32) (tso : Int32) (tbe : Int32) (twe : Int32) (tle : Int32) (tan : Int32) (tco : Int32) (ten : Int32) (u0 : Int32) (u1 : Int32) (u2 : Int32) (u3 : Int32) (v0 : Int32) (v1 : Int32) (v2 : Int32) (v3 : Int32) (vLa : Nat) (l4 : Int32) (a4 : Int32) (n4 : Int32) (f4 : Nat → Int32) (vPa : Nat) (l7 : Int32) (a7 : Int32) (n7 : Int32) (f7 : Nat → Int32) (vGe : Nat) (l2 : Int32) (a2 : Int32) (n2 : Int32) (f2 : Nat → Int32) (vFl : Nat) (xn : Int32) (ff : Nat → Int32) (sf : Nat → Int32) (sm : Nat → Int32) (hh0 : 0 ≤ n4 ∧ n4 ≤ 24) (hh1 : 0 ≤ xn ∧ xn ≤ 8) : Met l yX11_agreesWithSeen (kW yX11_agreesWithSeen cX11_agreesWithSeen 9 (some .boolean)) { frames := 3, cells := 0, slots := 0, locals := 70 } (kPre dC dI cI cJ cQ sz [.ref hx, .int p1, .int s1, .int f1, .int h1] [(kX11 hx aLa aPa aGe aFl aTr aBe aLu aLo vSf vSm vCo vSh xs xl xf), (kX10 aTr aLa aPa aGe gL gR lf rt tgo tca tki tso tbe twe tle tan tco ten), (kX3 gL u0 u1 u2 u3), (kX3 gR v0 v1 v2 v3), (kX4 aLa vLa l4 a4 n4), (kAI vLa cI 24 f4), (kX7 aPa vPa l7 a7 n7), (kAI vPa cI 39 f7), (kX2 aGe vGe l2 a2 n2), (kAI vGe cI 23 f2), (kX1 aFl vFl xn), (kAI vFl cI 32 ff), (kAI vSf cI 8 sf), (kAI vSm cI 8 sm)]) (va_Qi (fun (r : Int32) (u : kS) => (r = 0 ∨ r = 1)) (fun (u : kS) t₀ => kB dC dI cI cJ cQ (va_A [(kX11 hx aLa aPa aGe aFl aTr aBe aLu aLo vSf vSm vCo vSh xs xl xf), (kX10 aTr aLa aPa aGe gL gR lf rt tgo tca tki tso tbe twe tle tan tco ten), (kX3 gL u0 u1 u2 u3), (kX3 gR v0 v1 v2 v3), (kX4 aLa vLa l4 a4 n4), (kAI vLa cI 24 f4), (kX7 aPa vPa l7 a7 n7), (kAI vPa cI 39 f7), (kX2 aGe vGe l2 a2 n2), (kAI vGe cI 23 f2), (kX1 aFl vFl xn), (kAI vFl cI 32 ff), (kAI vSf cI 8 sf), (kAI vSm cI 8 sm)] sz) [(kX11 hx aLa aPa aGe aFl aTr aBe aLu aLo vSf vSm vCo vSh xs xl xf), (kX10 aTr aLa aPa aGe gL gR (u.2.2.2.2 0) (u.2.2.2.2 1) (u.1 8) (u.1 9) (u.1 10) (u.1 11) (u.1 12) (u.1 13) (u.1 14) (u.1 15) (u.1 16) (u.1 17)), (kX3 gL (u.1 0) (u.1 1) (u.1 2) (u.1 3)), (kX3 gR (u.1 4) (u.1 5) (u.1 6) (u.1 7)), (kX4 aLa vLa l4 a4 n4), (kAI vLa cI 24 f4), (kX7 aPa vPa l7 a7 n7), (kAI vPa cI 39 f7), (kX2 aGe vGe l2 a2 n2), (kAI vGe cI 23 f2), (kX1 aFl vFl xn), (kAI vFl cI 32 ff), (kAI vSf cI 8 sf), (kAI vSm cI 8 sm)] t₀) (va_A [(kX11 hx aLa aPa aGe aFl aTr aBe aLu aLo vSf vSm vCo vSh xs xl xf), (kX10 aTr aLa aPa aGe gL gR lf rt tgo tca tki tso tbe twe tle tan tco ten), (kX3 gL u0 u1 u2 u3), (kX3 gR v0 v1 v2 v3), (kX4 aLa vLa l4 a4 n4), (kAI vLa cI 24 f4), (kX7 aPa vPa l7 a7 n7), (kAI vPa cI 39 f7), (kX2 aGe vGe l2 a2 n2), (kAI vGe cI 23 f2), (kX1 aFl vFl xn), (kAI vFl cI 32 ff), (kAI vSf cI 8 sf), (kAI vSm cI 8 sm)] sz)) 0 0 (va_A [(kX11 hx aLa aPa aGe aFl aTr aBe aLu aLo vSf vSm vCo vSh xs xl xf), (kX10 aTr aLa aPa aGe gL gR lf rt tgo tca tki tso tbe twe tle tan tco ten), (kX3 gL u0 u1 u2 u3), (kX3 gR v0 v1 v2 v3), (kX4 aLa vLa l4 a4 n4), (kAI vLa cI 24 f4), (kX7 aPa vPa l7 a7 n7), (kAI vPa cI 39 f7), (kX2 aGe vGe l2 a2 n2), (kAI vGe cI 23 f2), (kX1 aFl vFl xn), (kAI vFl cI 32 ff), (kAI vSf cI 8 sf), (kAI vSm cI 8 sm)] sz) := by
  refine Met.ofW (cc := cX11_agreesWithSeen) (maxL := 9) (ret := (some .boolean)) (by decide) rfl ?_
  intro p₀ e₀ s₀ m₀ args below meth c₀ s₁ B hml hv₀
  obtain ⟨rfl, hsz, hP, hK, hD0, hN⟩ := hv₀
  have hx₀ := B.exec
  have hb := B.bytes
  have hr := B.returns
  have hts := atoms_spec (ws := (kW yX11_agreesWithSeen cX11_agreesWithSeen 9 (some .boolean))) B.pre
  have hts := fun w h => hts w (List.mem_cons_of_mem _ h)
  have hown : s₀.vm.findClass RX11 = some m₀.cls := findClass_of_methodNamed B.named
  have hlocks := B.notSynchronized
  subst hsz
  have hD := hD0.self (sz := s₀.heap.size)
  generalize hAe : va_A [(kX11 hx aLa aPa aGe aFl aTr aBe aLu aLo vSf vSm vCo vSh xs xl xf), (kX10 aTr aLa aPa aGe gL gR lf rt tgo tca tki tso tbe twe tle tan tco ten), (kX3 gL u0 u1 u2 u3), (kX3 gR v0 v1 v2 v3), (kX4 aLa vLa l4 a4 n4), (kAI vLa cI 24 f4), (kX7 aPa vPa l7 a7 n7), (kAI vPa cI 39 f7), (kX2 aGe vGe l2 a2 n2), (kAI vGe cI 23 f2), (kX1 aFl vFl xn), (kAI vFl cI 32 ff), (kAI vSf cI 8 sf), (kAI vSm cI 8 sm)] s₀.heap.size = A at hD ⊢
  have hA : ∀ q : Nat, s₀.heap.size ≤ q → A q := fun q h => by rw [← hAe]; exact Or.inr h
  have hS : va_S A s₀.heap s₀.heap [] := va_S.rf
  have hP : va_P (dC, dI) vwCl [(kX11 hx aLa aPa aGe aFl aTr aBe aLu aLo vSf vSm vCo vSh xs xl xf), (kX10 aTr aLa aPa aGe gL gR lf rt tgo tca tki tso tbe twe tle tan tco ten), (kX3 gL u0 u1 u2 u3), (kX3 gR v0 v1 v2 v3), (kX4 aLa vLa l4 a4 n4), (kAI vLa cI 24 f4), (kX7 aPa vPa l7 a7 n7), (kAI vPa cI 39 f7), (kX2 aGe vGe l2 a2 n2), (kAI vGe cI 23 f2), (kX1 aFl vFl xn), (kAI vFl cI 32 ff), (kAI vSf cI 8 sf), (kAI vSm cI 8 sm)] s₀.heap := hP
  have hl := lv_entry ([.ref hx, .int p1, .int s1, .int f1, .int h1]) (n := 9) (Nat.le_of_ble_eq_true rfl)
  rw [lg_entry_eq]
  generalize (lg_sl ([.ref hx, .int p1, .int s1, .int f1, .int h1]) ++ List.replicate (9 - (lg_sl ([.ref hx, .int p1, .int s1, .int f1, .int h1])).length) Slot.unset).toArray = ls at hl ⊢
  have hl : lv_has ls 9 [(0, .ref hx), (1, .int p1), (2, .int s1), (3, .int f1), (4, .int h1)] := hl
  obtain ⟨H, hH⟩ : ∃ z : Heap, z = s₀.heap := ⟨_, rfl⟩
  rw [← hH] at hP
  have hS : va_S A s₀.heap H [] := by rw [hH]; exact hS
  refine k_heap hH ?_
  have hD : va_D A [(kX11 hx aLa aPa aGe aFl aTr aBe aLu aLo vSf vSm vCo vSh xs xl xf), (kX10 aTr aLa aPa aGe gL gR lf rt tgo tca tki tso tbe twe tle tan tco ten), (kX3 gL u0 u1 u2 u3), (kX3 gR v0 v1 v2 v3), (kX4 aLa vLa l4 a4 n4), (kAI vLa cI 24 f4), (kX7 aPa vPa l7 a7 n7), (kAI vPa cI 39 f7), (kX2 aGe vGe l2 a2 n2), (kAI vGe cI 23 f2), (kX1 aFl vFl xn), (kAI vFl cI 32 ff), (kAI vSf cI 8 sf), (kAI vSm cI 8 sm)] := hD
  obtain ⟨locs, hlo⟩ : ∃ z : List Loc, z = [] := ⟨_, rfl⟩
  rw [← hlo] at hS ⊢
  clear hlo hH hAe hD0
  refine lv_aload_n hx₀ hb dX11_agreesWithSeen_0 rfl (lv_at hl 0 rfl) ?_
  refine va_get (D := (dC, dI)) (ci := 10) (v := .ref aTr) (C := RX11) (T := TX11) (N := 15) hx₀ hb hts inlX11 hown hK hP 0 rfl rfl 4 (by decide) (hts (.fieldLink RX11 42 "BittenStick" "trip" "LBittenStick$Trip;") wd_31) (fun _ h9 => h9) rfl dX11_agreesWithSeen_1 ?_
  refine lv_aload_n hx₀ hb dX11_agreesWithSeen_4 rfl (lv_at hl 0 rfl) ?_
  refine va_get (D := (dC, dI)) (ci := 10) (v := .int xl) (C := RX11) (T := TX11) (N := 15) hx₀ hb hts inlX11 hown hK hP 0 rfl rfl 13 (by decide) (hts (.fieldLink RX11 146 "BittenStick" "learned" "I") wd_411) (fun _ h9 => h9) rfl dX11_agreesWithSeen_5 ?_
  refine va_put (D := (dC, dI)) (ci := 9) (v := .int xl) (ty := .int) (C := RX10) (T := TX10) (N := 17) hx₀ hb hts inlX10 tyX10 tyX10_ok nmX10 hown hK hP hD hS 1 rfl rfl 13 (by decide) (hts (.fieldLink RX11 184 "BittenStick$Trip" "learned" "I") wd_431) (fun _ h9 => h9) rfl (by decide +kernel) rfl rfl (Nat.le_of_ble_eq_true rfl) dX11_agreesWithSeen_8 ?_
  clear hP hD hS
  intro H locs hP hD hS
  replace hP := k_w2 (wt := [(kX11 hx aLa aPa aGe aFl aTr aBe aLu aLo vSf vSm vCo vSh xs xl xf), (kX10 aTr aLa aPa aGe gL gR lf rt tgo tca tki tso tbe twe xl tan tco ten), (kX3 gL u0 u1 u2 u3), (kX3 gR v0 v1 v2 v3), (kX4 aLa vLa l4 a4 n4), (kAI vLa cI 24 f4), (kX7 aPa vPa l7 a7 n7), (kAI vPa cI 39 f7), (kX2 aGe vGe l2 a2 n2), (kAI vGe cI 23 f2), (kX1 aFl vFl xn), (kAI vFl cI 32 ff), (kAI vSf cI 8 sf), (kAI vSm cI 8 sm)]) hP hD rfl
  replace hD := hP.2
  replace hP := hP.1
  refine lv_iconst (v := 0) hx₀ hb dX11_agreesWithSeen_11 (by decide +kernel) ?_
  refine lv_istore (lv' := [(5, .int 0), (0, .ref hx), (1, .int p1), (2, .int s1), (3, .int f1), (4, .int h1)]) hx₀ hb dX11_agreesWithSeen_12 hl (by decide) rfl (fun ls hl => ?_)
  refine (?keyz1 : ∀ (jz1 : Nat) (iz1 : Int32) (ygoez1 : Int32) (ycarz1 : Int32) (ykinz1 : Int32) (ysorz1 : Int32) (ybeaz1 : Int32) (yweiz1 : Int32) (yleaz1 : Int32) (yangz1 : Int32) (ycolz1 : Int32) (yendz1 : Int32) (pz1 : Nat) (qz1 : Nat) (w0z1 : Int32) (w1z1 : Int32) (w2z1 : Int32) (w3z1 : Int32) (z0z1 : Int32) (z1z1 : Int32) (z2z1 : Int32) (z3z1 : Int32) (H : Heap) (locs : List Loc) (ls : Array Slot), (0 ≤ iz1) → ((xs.toInt - iz1.toInt).toNat = jz1) → va_P (dC, dI) vwCl [(kX11 hx aLa aPa aGe aFl aTr aBe aLu aLo vSf vSm vCo vSh xs xl xf), (kX10 aTr aLa aPa aGe gL gR pz1 qz1 ygoez1 ycarz1 ykinz1 ysorz1 ybeaz1 yweiz1 yleaz1 yangz1 ycolz1 yendz1), (kX3 gL w0z1 w1z1 w2z1 w3z1), (kX3 gR z0z1 z1z1 z2z1 z3z1), (kX4 aLa vLa l4 a4 n4), (kAI vLa cI 24 f4), (kX7 aPa vPa l7 a7 n7), (kAI vPa cI 39 f7), (kX2 aGe vGe l2 a2 n2), (kAI vGe cI 23 f2), (kX1 aFl vFl xn), (kAI vFl cI 32 ff), (kAI vSf cI 8 sf), (kAI vSm cI 8 sm)] H → va_D A [(kX11 hx aLa aPa aGe aFl aTr aBe aLu aLo vSf vSm vCo vSh xs xl xf), (kX10 aTr aLa aPa aGe gL gR pz1 qz1 ygoez1 ycarz1 ykinz1 ysorz1 ybeaz1 yweiz1 yleaz1 yangz1 ycolz1 yendz1), (kX3 gL w0z1 w1z1 w2z1 w3z1), (kX3 gR z0z1 z1z1 z2z1 z3z1), (kX4 aLa vLa l4 a4 n4), (kAI vLa cI 24 f4), (kX7 aPa vPa l7 a7 n7), (kAI vPa cI 39 f7), (kX2 aGe vGe l2 a2 n2), (kAI vGe cI 23 f2), (kX1 aFl vFl xn), (kAI vFl cI 32 ff), (kAI vSf cI 8 sf), (kAI vSm cI 8 sm)] → va_S A s₀.heap H locs → lv_has ls 9 [(5, .int iz1), (0, .ref hx), (1, .int p1), (2, .int s1), (3, .int f1), (4, .int h1)] → W p₀ l e₀ _ s₀ m₀ _ below meth c₀ H locs _ _ _ (F0 m₀ 14 ls [])) _ (0 : Int32) tgo tca tki tso tbe twe xl tan tco ten lf rt u0 u1 u2 u3 v0 v1 v2 v3 H locs ls (show 0 ≤ (0 : Int32) from (by decide)) rfl hP hD hS hl
  clear hP hD hS hl
  intro jz1
  induction jz1 using Nat.strongRecOn with
  | ind jz1 ihz1 =>
    intro iz1 ygoez1 ycarz1 ykinz1 ysorz1 ybeaz1 yweiz1 yleaz1 yangz1 ycolz1 yendz1 pz1 qz1 w0z1 w1z1 w2z1 w3z1 z0z1 z1z1 z2z1 z3z1 H locs ls hiz1_0 hjz1 hP hD hS hl
    refine lv_iload hx₀ hb dX11_agreesWithSeen_14 (lv_at hl 0 rfl) ?_
    refine lv_aload_n hx₀ hb dX11_agreesWithSeen_16 rfl (lv_at hl 1 rfl) ?_
    refine va_get (D := (dC, dI)) (ci := 10) (v := .int xs) (C := RX11) (T := TX11) (N := 15) hx₀ hb hts inlX11 hown hK hP 0 rfl rfl 12 (by decide) (hts (.fieldLink RX11 193 "BittenStick" "seenNumber" "I") wd_690) (fun _ h9 => h9) rfl dX11_agreesWithSeen_17 ?_
    refine lv_icmp_ge (tgt := 154) hx₀ hb dX11_agreesWithSeen_20 (by decide) (fun c_2 => ?_) (fun c_2 => ?_)
    · refine lv_iconst (v := 1) hx₀ hb dX11_agreesWithSeen_154 (by decide +kernel) ?_
      obtain ⟨hP9, hD9⟩ := k_c2 (wc := [(kX11 hx aLa aPa aGe aFl aTr aBe aLu aLo vSf vSm vCo vSh xs xl xf), (kX10 aTr aLa aPa aGe gL gR pz1 qz1 ygoez1 ycarz1 ykinz1 ysorz1 ybeaz1 yweiz1 yleaz1 yangz1 ycolz1 yendz1), (kX3 gL w0z1 w1z1 w2z1 w3z1), (kX3 gR z0z1 z1z1 z2z1 z3z1), (kX4 aLa vLa l4 a4 n4), (kAI vLa cI 24 f4), (kX7 aPa vPa l7 a7 n7), (kAI vPa cI 39 f7), (kX2 aGe vGe l2 a2 n2), (kAI vGe cI 23 f2), (kX1 aFl vFl xn), (kAI vFl cI 32 ff), (kAI vSf cI 8 sf), (kAI vSm cI 8 sm)]) hP hD [0, 1, 2, 3, 4, 5, 6, 7, 8, 9, 10, 11, 12, 13] (by decide +kernel) rfl
      exact W.zret (v := 1) hx₀ hb hr (by decide +kernel) (fun t₀ ht hW => ⟨⟨1, (k_fn [w0z1, w1z1, w2z1, w3z1, z0z1, z1z1, z2z1, z3z1, ygoez1, ycarz1, ykinz1, ysorz1, ybeaz1, yweiz1, yleaz1, yangz1, ycolz1, yendz1], k_fa [], k_fl [], k_fL [], k_fp [pz1, qz1]), rfl, (show (1 : Int32) = 0 ∨ (1 : Int32) = 1 from (Or.inr (rfl))), by rw [ht]; exact hP9, va_K.moved hW.alike hK, hD9⟩, hS.F ht⟩) hS.2.2 dX11_agreesWithSeen_155
    · refine lv_iload hx₀ hb dX11_agreesWithSeen_23 (lv_at hl 0 rfl) ?_
      refine lv_bipush (v := 8) hx₀ hb dX11_agreesWithSeen_25 (by decide +kernel) ?_
      refine lv_icmp_ge (tgt := 154) hx₀ hb dX11_agreesWithSeen_27 (by decide) (fun c_3 => ?_) (fun c_3 => ?_)
      · refine lv_iconst (v := 1) hx₀ hb dX11_agreesWithSeen_154 (by decide +kernel) ?_
        obtain ⟨hP9, hD9⟩ := k_c2 (wc := [(kX11 hx aLa aPa aGe aFl aTr aBe aLu aLo vSf vSm vCo vSh xs xl xf), (kX10 aTr aLa aPa aGe gL gR pz1 qz1 ygoez1 ycarz1 ykinz1 ysorz1 ybeaz1 yweiz1 yleaz1 yangz1 ycolz1 yendz1), (kX3 gL w0z1 w1z1 w2z1 w3z1), (kX3 gR z0z1 z1z1 z2z1 z3z1), (kX4 aLa vLa l4 a4 n4), (kAI vLa cI 24 f4), (kX7 aPa vPa l7 a7 n7), (kAI vPa cI 39 f7), (kX2 aGe vGe l2 a2 n2), (kAI vGe cI 23 f2), (kX1 aFl vFl xn), (kAI vFl cI 32 ff), (kAI vSf cI 8 sf), (kAI vSm cI 8 sm)]) hP hD [0, 1, 2, 3, 4, 5, 6, 7, 8, 9, 10, 11, 12, 13] (by decide +kernel) rfl
        exact W.zret (v := 1) hx₀ hb hr (by decide +kernel) (fun t₀ ht hW => ⟨⟨1, (k_fn [w0z1, w1z1, w2z1, w3z1, z0z1, z1z1, z2z1, z3z1, ygoez1, ycarz1, ykinz1, ysorz1, ybeaz1, yweiz1, yleaz1, yangz1, ycolz1, yendz1], k_fa [], k_fl [], k_fL [], k_fp [pz1, qz1]), rfl, (show (1 : Int32) = 0 ∨ (1 : Int32) = 1 from (Or.inr (rfl))), by rw [ht]; exact hP9, va_K.moved hW.alike hK, hD9⟩, hS.F ht⟩) hS.2.2 dX11_agreesWithSeen_155
      · refine lv_aload_n hx₀ hb dX11_agreesWithSeen_30 rfl (lv_at hl 1 rfl) ?_
        refine va_get (D := (dC, dI)) (ci := 10) (v := .ref vSf) (C := RX11) (T := TX11) (N := 15) hx₀ hb hts inlX11 hown hK hP 0 rfl rfl 8 (by decide) (hts (.fieldLink RX11 67 "BittenStick" "seenFlights" "[I") wd_45) (fun _ h9 => h9) rfl dX11_agreesWithSeen_31 ?_
        refine lv_iload hx₀ hb dX11_agreesWithSeen_34 (lv_at hl 0 rfl) ?_
        refine va_iald hx₀ hb hK hP 12 0 rfl rfl (vp_in_iff.mpr (lf_j_agreesWithSeen_1 iz1 xs jz1 hiz1_0 hjz1 c_2 c_3)) dX11_agreesWithSeen_36 ?_
        refine lv_topi (fun y_4 ey_4 => ?_)
        refine lv_istore (lv' := [(6, .int y_4), (5, .int iz1), (0, .ref hx), (1, .int p1), (2, .int s1), (3, .int f1), (4, .int h1)]) hx₀ hb dX11_agreesWithSeen_37 hl (by decide) rfl (fun ls hl => ?_)
        refine lv_aload_n hx₀ hb dX11_agreesWithSeen_39 rfl (lv_at hl 2 rfl) ?_
        refine va_get (D := (dC, dI)) (ci := 10) (v := .ref aFl) (C := RX11) (T := TX11) (N := 15) hx₀ hb hts inlX11 hown hK hP 0 rfl rfl 3 (by decide) (hts (.fieldLink RX11 33 "BittenStick" "flights" "LBittenStick$Flights;") wd_27) (fun _ h9 => h9) rfl dX11_agreesWithSeen_40 ?_
        refine lv_iload hx₀ hb dX11_agreesWithSeen_43 (lv_at hl 0 rfl) ?_
        obtain ⟨hPc, hDc, hFc, hC⟩ := k_cw (wc := [(kX1 aFl vFl xn)]) hP hD hS hA [10] (by decide +kernel) rfl
        refine va_calli (va_runV (As := [.int y_4]) (rest := []) ⟨hx₀, hb, hml, hown, hts⟩ (j_fHas l dC dI cI cJ cQ H.size aFl y_4 vFl xn) (cwV 1 hts (kGV wd_426 wd_423 wd_424 wd_425 wd_26) rfl rfl rfl (by decide +kernel) ⟨Nat.le_of_ble_eq_true rfl, Nat.le_of_ble_eq_true rfl⟩) (k_preV1 (q0 := 0) hK hPc hDc hN rfl) rfl rfl hl.1 rfl (lv_room (Nat.le_of_ble_eq_true rfl)) dX11_agreesWithSeen_45 ⟨by decide +kernel, by decide +kernel⟩) hS (fun q _ h => hFc q h) hFc (fun r_5 u₀ t₀ H1 locs ht hvm hw hB hz1 hk1 hS => ?_)
        obtain ⟨hP1, hK1, hD1⟩ := hB
        rw [ht] at hP1
        have hJ := k_jn (wr := [(kX11 hx aLa aPa aGe aFl aTr aBe aLu aLo vSf vSm vCo vSh xs xl xf), (kX10 aTr aLa aPa aGe gL gR pz1 qz1 ygoez1 ycarz1 ykinz1 ysorz1 ybeaz1 yweiz1 yleaz1 yangz1 ycolz1 yendz1), (kX3 gL w0z1 w1z1 w2z1 w3z1), (kX3 gR z0z1 z1z1 z2z1 z3z1), (kX4 aLa vLa l4 a4 n4), (kAI vLa cI 24 f4), (kX7 aPa vPa l7 a7 n7), (kAI vPa cI 39 f7), (kX2 aGe vGe l2 a2 n2), (kAI vGe cI 23 f2), (kAI vFl cI 32 ff), (kAI vSf cI 8 sf), (kAI vSm cI 8 sm)]) (wt := [(kX11 hx aLa aPa aGe aFl aTr aBe aLu aLo vSf vSm vCo vSh xs xl xf), (kX10 aTr aLa aPa aGe gL gR pz1 qz1 ygoez1 ycarz1 ykinz1 ysorz1 ybeaz1 yweiz1 yleaz1 yangz1 ycolz1 yendz1), (kX3 gL w0z1 w1z1 w2z1 w3z1), (kX3 gR z0z1 z1z1 z2z1 z3z1), (kX4 aLa vLa l4 a4 n4), (kAI vLa cI 24 f4), (kX7 aPa vPa l7 a7 n7), (kAI vPa cI 39 f7), (kX2 aGe vGe l2 a2 n2), (kAI vGe cI 23 f2), (kAI vFl cI 32 ff), (kAI vSf cI 8 sf), (kAI vSm cI 8 sm), (kX1 aFl vFl xn)]) hP hD hC [0, 1, 2, 3, 4, 5, 6, 7, 8, 9, 11, 12, 13] rfl (by decide +kernel) (by decide +kernel) hk1 hFc hP1 hD1 rfl
        clear hP hD hPc hDc hFc hC hP1 hD1 hK1 hz1 hk1 hvm ht
        obtain ⟨hP, hD⟩ := hJ
        generalize H1 = H at hP hS ⊢
        try dsimp only at hw
        by_cases c_6 : 0 ≤ y_4 ∧ y_4 < xn
        · rw [if_pos c_6] at hw
          refine k_topi (v := 1) hw ?_
          refine lv_if_ne (tgt := 53) hx₀ hb dX11_agreesWithSeen_48 (by decide) (fun _ => ?_) (fun c9 => absurd c9 (by decide +kernel))
          refine lv_aload_n hx₀ hb dX11_agreesWithSeen_53 rfl (lv_at hl 2 rfl) ?_
          refine va_get (D := (dC, dI)) (ci := 10) (v := .ref aFl) (C := RX11) (T := TX11) (N := 15) hx₀ hb hts inlX11 hown hK hP 0 rfl rfl 3 (by decide) (hts (.fieldLink RX11 33 "BittenStick" "flights" "LBittenStick$Flights;") wd_27) (fun _ h9 => h9) rfl dX11_agreesWithSeen_54 ?_
          refine lv_iload hx₀ hb dX11_agreesWithSeen_57 (lv_at hl 0 rfl) ?_
          obtain ⟨hPc, hDc, hFc, hC⟩ := k_cw (wc := [(kX1 aFl vFl xn), (kAI vFl cI 32 ff)]) hP hD hS hA [13, 10] (by decide +kernel) rfl
          refine va_calli (va_runV (As := [.int y_4]) (rest := []) ⟨hx₀, hb, hml, hown, hts⟩ (j_passengerOf l dC dI cI cJ cQ H.size aFl y_4 vFl xn ff (hh1)) (cwV 1 hts (kGV wd_435 wd_432 wd_433 wd_434 wd_26) rfl rfl rfl (by decide +kernel) ⟨Nat.le_of_ble_eq_true rfl, Nat.le_of_ble_eq_true rfl⟩) (k_preV1 (q0 := 0) hK hPc hDc hN rfl) rfl rfl hl.1 rfl (lv_room (Nat.le_of_ble_eq_true rfl)) dX11_agreesWithSeen_59 ⟨by decide +kernel, by decide +kernel⟩) hS (fun q _ h => hFc q h) hFc (fun r_7 u₀ t₀ H1 locs ht hvm hw hB hz1 hk1 hS => ?_)
          obtain ⟨hP1, hK1, hD1⟩ := hB
          rw [ht] at hP1
          have hJ := k_jn (wr := [(kX11 hx aLa aPa aGe aFl aTr aBe aLu aLo vSf vSm vCo vSh xs xl xf), (kX10 aTr aLa aPa aGe gL gR pz1 qz1 ygoez1 ycarz1 ykinz1 ysorz1 ybeaz1 yweiz1 yleaz1 yangz1 ycolz1 yendz1), (kX3 gL w0z1 w1z1 w2z1 w3z1), (kX3 gR z0z1 z1z1 z2z1 z3z1), (kX4 aLa vLa l4 a4 n4), (kAI vLa cI 24 f4), (kX7 aPa vPa l7 a7 n7), (kAI vPa cI 39 f7), (kX2 aGe vGe l2 a2 n2), (kAI vGe cI 23 f2), (kAI vSf cI 8 sf), (kAI vSm cI 8 sm)]) (wt := [(kX11 hx aLa aPa aGe aFl aTr aBe aLu aLo vSf vSm vCo vSh xs xl xf), (kX10 aTr aLa aPa aGe gL gR pz1 qz1 ygoez1 ycarz1 ykinz1 ysorz1 ybeaz1 yweiz1 yleaz1 yangz1 ycolz1 yendz1), (kX3 gL w0z1 w1z1 w2z1 w3z1), (kX3 gR z0z1 z1z1 z2z1 z3z1), (kX4 aLa vLa l4 a4 n4), (kAI vLa cI 24 f4), (kX7 aPa vPa l7 a7 n7), (kAI vPa cI 39 f7), (kX2 aGe vGe l2 a2 n2), (kAI vGe cI 23 f2), (kAI vSf cI 8 sf), (kAI vSm cI 8 sm), (kX1 aFl vFl xn), (kAI vFl cI 32 ff)]) hP hD hC [0, 1, 2, 3, 4, 5, 6, 7, 8, 9, 11, 12] rfl (by decide +kernel) (by decide +kernel) hk1 hFc hP1 hD1 rfl
          clear hP hD hPc hDc hFc hC hP1 hD1 hK1 hz1 hk1 hvm ht
          obtain ⟨hP, hD⟩ := hJ
          generalize H1 = H at hP hS ⊢
          try dsimp only at hw
          refine k_topi (v := kIt xn ff y_4 0) hw ?_
          refine lv_istore (lv' := [(7, .int (kIt xn ff y_4 0)), (6, .int y_4), (5, .int iz1), (0, .ref hx), (1, .int p1), (2, .int s1), (3, .int f1), (4, .int h1)]) hx₀ hb dX11_agreesWithSeen_62 hl (by decide) rfl (fun ls hl => ?_)
          refine lv_aload_n hx₀ hb dX11_agreesWithSeen_64 rfl (lv_at hl 3 rfl) ?_
          refine va_get (D := (dC, dI)) (ci := 10) (v := .ref aTr) (C := RX11) (T := TX11) (N := 15) hx₀ hb hts inlX11 hown hK hP 0 rfl rfl 4 (by decide) (hts (.fieldLink RX11 42 "BittenStick" "trip" "LBittenStick$Trip;") wd_31) (fun _ h9 => h9) rfl dX11_agreesWithSeen_65 ?_
          refine lv_iload hx₀ hb dX11_agreesWithSeen_68 (lv_at hl 0 rfl) ?_
          refine lv_aload_n hx₀ hb dX11_agreesWithSeen_70 rfl (lv_at hl 3 rfl) ?_
          refine va_get (D := (dC, dI)) (ci := 10) (v := .ref aFl) (C := RX11) (T := TX11) (N := 15) hx₀ hb hts inlX11 hown hK hP 0 rfl rfl 3 (by decide) (hts (.fieldLink RX11 33 "BittenStick" "flights" "LBittenStick$Flights;") wd_27) (fun _ h9 => h9) rfl dX11_agreesWithSeen_71 ?_
          refine lv_iload hx₀ hb dX11_agreesWithSeen_74 (lv_at hl 1 rfl) ?_
          obtain ⟨hPc, hDc, hFc, hC⟩ := k_cw (wc := [(kX1 aFl vFl xn), (kAI vFl cI 32 ff)]) hP hD hS hA [12, 13] (by decide +kernel) rfl
          refine va_calli (va_runV (As := [.int y_4]) (rest := [.int (kIt xn ff y_4 0), .ref aTr]) ⟨hx₀, hb, hml, hown, hts⟩ (j_leftOf l dC dI cI cJ cQ H.size aFl y_4 vFl xn ff (hh1)) (cwV 1 hts (kGV wd_444 wd_441 wd_442 wd_443 wd_26) rfl rfl rfl (by decide +kernel) ⟨Nat.le_of_ble_eq_true rfl, Nat.le_of_ble_eq_true rfl⟩) (k_preV1 (q0 := 0) hK hPc hDc hN rfl) rfl rfl hl.1 rfl (lv_room (Nat.le_of_ble_eq_true rfl)) dX11_agreesWithSeen_76 ⟨by decide +kernel, by decide +kernel⟩) hS (fun q _ h => hFc q h) hFc (fun r_8 u₀ t₀ H1 locs ht hvm hw hB hz1 hk1 hS => ?_)
          obtain ⟨hP1, hK1, hD1⟩ := hB
          rw [ht] at hP1
          have hJ := k_jn (wr := [(kX11 hx aLa aPa aGe aFl aTr aBe aLu aLo vSf vSm vCo vSh xs xl xf), (kX10 aTr aLa aPa aGe gL gR pz1 qz1 ygoez1 ycarz1 ykinz1 ysorz1 ybeaz1 yweiz1 yleaz1 yangz1 ycolz1 yendz1), (kX3 gL w0z1 w1z1 w2z1 w3z1), (kX3 gR z0z1 z1z1 z2z1 z3z1), (kX4 aLa vLa l4 a4 n4), (kAI vLa cI 24 f4), (kX7 aPa vPa l7 a7 n7), (kAI vPa cI 39 f7), (kX2 aGe vGe l2 a2 n2), (kAI vGe cI 23 f2), (kAI vSf cI 8 sf), (kAI vSm cI 8 sm)]) (wt := [(kX11 hx aLa aPa aGe aFl aTr aBe aLu aLo vSf vSm vCo vSh xs xl xf), (kX10 aTr aLa aPa aGe gL gR pz1 qz1 ygoez1 ycarz1 ykinz1 ysorz1 ybeaz1 yweiz1 yleaz1 yangz1 ycolz1 yendz1), (kX3 gL w0z1 w1z1 w2z1 w3z1), (kX3 gR z0z1 z1z1 z2z1 z3z1), (kX4 aLa vLa l4 a4 n4), (kAI vLa cI 24 f4), (kX7 aPa vPa l7 a7 n7), (kAI vPa cI 39 f7), (kX2 aGe vGe l2 a2 n2), (kAI vGe cI 23 f2), (kAI vSf cI 8 sf), (kAI vSm cI 8 sm), (kX1 aFl vFl xn), (kAI vFl cI 32 ff)]) hP hD hC [0, 1, 2, 3, 4, 5, 6, 7, 8, 9, 10, 11] rfl (by decide +kernel) (by decide +kernel) hk1 hFc hP1 hD1 rfl
          clear hP hD hPc hDc hFc hC hP1 hD1 hK1 hz1 hk1 hvm ht
          obtain ⟨hP, hD⟩ := hJ
          generalize H1 = H at hP hS ⊢
          try dsimp only at hw
          refine k_topi (v := kIt xn ff y_4 1) hw ?_
          refine lv_aload_n hx₀ hb dX11_agreesWithSeen_79 rfl (lv_at hl 3 rfl) ?_
          refine va_get (D := (dC, dI)) (ci := 10) (v := .ref aFl) (C := RX11) (T := TX11) (N := 15) hx₀ hb hts inlX11 hown hK hP 0 rfl rfl 3 (by decide) (hts (.fieldLink RX11 33 "BittenStick" "flights" "LBittenStick$Flights;") wd_27) (fun _ h9 => h9) rfl dX11_agreesWithSeen_80 ?_
          refine lv_iload hx₀ hb dX11_agreesWithSeen_83 (lv_at hl 1 rfl) ?_
          obtain ⟨hPc, hDc, hFc, hC⟩ := k_cw (wc := [(kX1 aFl vFl xn), (kAI vFl cI 32 ff)]) hP hD hS hA [12, 13] (by decide +kernel) rfl
          refine va_calli (va_runV (As := [.int y_4]) (rest := [.int (kIt xn ff y_4 1), .int (kIt xn ff y_4 0), .ref aTr]) ⟨hx₀, hb, hml, hown, hts⟩ (j_rightOf l dC dI cI cJ cQ H.size aFl y_4 vFl xn ff (hh1)) (cwV 1 hts (kGV wd_448 wd_445 wd_446 wd_447 wd_26) rfl rfl rfl (by decide +kernel) ⟨Nat.le_of_ble_eq_true rfl, Nat.le_of_ble_eq_true rfl⟩) (k_preV1 (q0 := 0) hK hPc hDc hN rfl) rfl rfl hl.1 rfl (lv_room (Nat.le_of_ble_eq_true rfl)) dX11_agreesWithSeen_85 ⟨by decide +kernel, by decide +kernel⟩) hS (fun q _ h => hFc q h) hFc (fun r_9 u₀ t₀ H1 locs ht hvm hw hB hz1 hk1 hS => ?_)
          obtain ⟨hP1, hK1, hD1⟩ := hB
          rw [ht] at hP1
          have hJ := k_jn (wr := [(kX11 hx aLa aPa aGe aFl aTr aBe aLu aLo vSf vSm vCo vSh xs xl xf), (kX10 aTr aLa aPa aGe gL gR pz1 qz1 ygoez1 ycarz1 ykinz1 ysorz1 ybeaz1 yweiz1 yleaz1 yangz1 ycolz1 yendz1), (kX3 gL w0z1 w1z1 w2z1 w3z1), (kX3 gR z0z1 z1z1 z2z1 z3z1), (kX4 aLa vLa l4 a4 n4), (kAI vLa cI 24 f4), (kX7 aPa vPa l7 a7 n7), (kAI vPa cI 39 f7), (kX2 aGe vGe l2 a2 n2), (kAI vGe cI 23 f2), (kAI vSf cI 8 sf), (kAI vSm cI 8 sm)]) (wt := [(kX11 hx aLa aPa aGe aFl aTr aBe aLu aLo vSf vSm vCo vSh xs xl xf), (kX10 aTr aLa aPa aGe gL gR pz1 qz1 ygoez1 ycarz1 ykinz1 ysorz1 ybeaz1 yweiz1 yleaz1 yangz1 ycolz1 yendz1), (kX3 gL w0z1 w1z1 w2z1 w3z1), (kX3 gR z0z1 z1z1 z2z1 z3z1), (kX4 aLa vLa l4 a4 n4), (kAI vLa cI 24 f4), (kX7 aPa vPa l7 a7 n7), (kAI vPa cI 39 f7), (kX2 aGe vGe l2 a2 n2), (kAI vGe cI 23 f2), (kAI vSf cI 8 sf), (kAI vSm cI 8 sm), (kX1 aFl vFl xn), (kAI vFl cI 32 ff)]) hP hD hC [0, 1, 2, 3, 4, 5, 6, 7, 8, 9, 10, 11] rfl (by decide +kernel) (by decide +kernel) hk1 hFc hP1 hD1 rfl
          clear hP hD hPc hDc hFc hC hP1 hD1 hK1 hz1 hk1 hvm ht
          obtain ⟨hP, hD⟩ := hJ
          generalize H1 = H at hP hS ⊢
          try dsimp only at hw
          refine k_topi (v := kIt xn ff y_4 2) hw ?_
          obtain ⟨hPc, hDc, hFc, hC⟩ := k_cw (wc := [(kX10 aTr aLa aPa aGe gL gR pz1 qz1 ygoez1 ycarz1 ykinz1 ysorz1 ybeaz1 yweiz1 yleaz1 yangz1 ycolz1 yendz1), (kX3 gL w0z1 w1z1 w2z1 w3z1), (kX3 gR z0z1 z1z1 z2z1 z3z1), (kX4 aLa vLa l4 a4 n4), (kAI vLa cI 24 f4), (kX7 aPa vPa l7 a7 n7), (kAI vPa cI 39 f7), (kX2 aGe vGe l2 a2 n2), (kAI vGe cI 23 f2)]) hP hD hS hA [1, 2, 3, 4, 5, 6, 7, 8, 9] (by decide +kernel) rfl
          refine va_callv (va_runV (As := [.int (kIt xn ff y_4 0), .int (kIt xn ff y_4 1), .int (kIt xn ff y_4 2)]) (rest := []) ⟨hx₀, hb, hml, hown, hts⟩ (j_board l dC dI cI cJ cQ H.size aTr (kIt xn ff y_4 0) (kIt xn ff y_4 1) (kIt xn ff y_4 2) aLa aPa aGe gL gR pz1 qz1 ygoez1 ycarz1 ykinz1 ysorz1 ybeaz1 yweiz1 yleaz1 yangz1 ycolz1 yendz1 w0z1 w1z1 w2z1 w3z1 z0z1 z1z1 z2z1 z3z1 vLa l4 a4 n4 f4 vPa l7 a7 n7 f7 vGe l2 a2 n2 f2 (hh0)) (cwV 3 hts (kGV wd_452 wd_449 wd_450 wd_451 wd_30) rfl rfl rfl (by decide +kernel) ⟨Nat.le_of_ble_eq_true rfl, Nat.le_of_ble_eq_true rfl⟩) (k_preV9 (q0 := 0) hK hPc hDc hN rfl) rfl rfl hl.1 rfl (lv_room (Nat.le_of_ble_eq_true rfl)) dX11_agreesWithSeen_88 ⟨by decide +kernel, by decide +kernel⟩) hS (fun q _ h => hFc q h) hFc (fun u₀ t₀ H1 locs ht hvm hw hB hz1 hk1 hS => ?_)
          obtain ⟨g_11, ga_12, gl_13, gb_14, gp_15⟩ := u₀
          obtain ⟨hP1, hK1, hD1⟩ := hB
          rw [ht] at hP1
          have hJ := k_jn (wr := [(kX11 hx aLa aPa aGe aFl aTr aBe aLu aLo vSf vSm vCo vSh xs xl xf), (kAI vSf cI 8 sf), (kAI vSm cI 8 sm), (kX1 aFl vFl xn), (kAI vFl cI 32 ff)]) (wt := [(kX11 hx aLa aPa aGe aFl aTr aBe aLu aLo vSf vSm vCo vSh xs xl xf), (kAI vSf cI 8 sf), (kAI vSm cI 8 sm), (kX1 aFl vFl xn), (kAI vFl cI 32 ff), (kX10 aTr aLa aPa aGe gL gR (gp_15 0) (gp_15 1) (g_11 8) (g_11 9) (g_11 10) (g_11 11) (g_11 12) (g_11 13) yleaz1 yangz1 ycolz1 yendz1), (kX3 gL (g_11 0) (g_11 1) (g_11 2) (g_11 3)), (kX3 gR (g_11 4) (g_11 5) (g_11 6) (g_11 7)), (kX4 aLa vLa l4 a4 n4), (kAI vLa cI 24 f4), (kX7 aPa vPa l7 a7 n7), (kAI vPa cI 39 f7), (kX2 aGe vGe l2 a2 n2), (kAI vGe cI 23 f2)]) hP hD hC [0, 10, 11, 12, 13] rfl (by decide +kernel) (by decide +kernel) hk1 hFc hP1 hD1 rfl
          clear hP hD hPc hDc hFc hC hP1 hD1 hK1 hz1 hk1 hvm ht
          obtain ⟨hP, hD⟩ := hJ
          generalize H1 = H at hP hS ⊢
          try dsimp only at hw
          obtain ⟨c_16, c_17, c_18, c_19, c_20, c_21⟩ := hw
          refine lv_iload hx₀ hb dX11_agreesWithSeen_91 (lv_at hl 0 rfl) ?_
          refine lv_iload_n hx₀ hb dX11_agreesWithSeen_93 rfl (lv_at hl 4 rfl) ?_
          refine lv_icmp_ne (tgt := 105) hx₀ hb dX11_agreesWithSeen_94 (by decide) (fun c_22 => ?_) (fun c_22 => ?_)
          · refine lv_aload_n hx₀ hb dX11_agreesWithSeen_105 rfl (lv_at hl 3 rfl) ?_
            refine va_get (D := (dC, dI)) (ci := 10) (v := .ref aTr) (C := RX11) (T := TX11) (N := 15) hx₀ hb hts inlX11 hown hK hP 0 rfl rfl 4 (by decide) (hts (.fieldLink RX11 42 "BittenStick" "trip" "LBittenStick$Trip;") wd_31) (fun _ h9 => h9) rfl dX11_agreesWithSeen_106 ?_
            refine lv_iload hx₀ hb dX11_agreesWithSeen_109 (lv_at hl 1 rfl) ?_
            refine lv_iload_n hx₀ hb dX11_agreesWithSeen_111 rfl (lv_at hl 6 rfl) ?_
            refine lv_icmp_ne (tgt := 120) hx₀ hb dX11_agreesWithSeen_112 (by decide) (fun c_23 => ?_) (fun c_23 => ?_)
            · refine lv_aload_n hx₀ hb dX11_agreesWithSeen_120 rfl (lv_at hl 3 rfl) ?_
              refine va_get (D := (dC, dI)) (ci := 10) (v := .ref aFl) (C := RX11) (T := TX11) (N := 15) hx₀ hb hts inlX11 hown hK hP 0 rfl rfl 3 (by decide) (hts (.fieldLink RX11 33 "BittenStick" "flights" "LBittenStick$Flights;") wd_27) (fun _ h9 => h9) rfl dX11_agreesWithSeen_121 ?_
              refine lv_iload hx₀ hb dX11_agreesWithSeen_124 (lv_at hl 1 rfl) ?_
              obtain ⟨hPc, hDc, hFc, hC⟩ := k_cw (wc := [(kX1 aFl vFl xn), (kAI vFl cI 32 ff)]) hP hD hS hA [3, 4] (by decide +kernel) rfl
              refine va_calli (va_runV (As := [.int y_4]) (rest := [.ref aTr]) ⟨hx₀, hb, hml, hown, hts⟩ (j_heightOf l dC dI cI cJ cQ H.size aFl y_4 vFl xn ff (hh1)) (cwV 1 hts (kGV wd_491 wd_488 wd_489 wd_490 wd_26) rfl rfl rfl (by decide +kernel) ⟨Nat.le_of_ble_eq_true rfl, Nat.le_of_ble_eq_true rfl⟩) (k_preV1 (q0 := 0) hK hPc hDc hN rfl) rfl rfl hl.1 rfl (lv_room (Nat.le_of_ble_eq_true rfl)) dX11_agreesWithSeen_126 ⟨by decide +kernel, by decide +kernel⟩) hS (fun q _ h => hFc q h) hFc (fun r_24 u₀ t₀ H1 locs ht hvm hw hB hz1 hk1 hS => ?_)
              obtain ⟨hP1, hK1, hD1⟩ := hB
              rw [ht] at hP1
              have hJ := k_jn (wr := [(kX11 hx aLa aPa aGe aFl aTr aBe aLu aLo vSf vSm vCo vSh xs xl xf), (kAI vSf cI 8 sf), (kAI vSm cI 8 sm), (kX10 aTr aLa aPa aGe gL gR (gp_15 0) (gp_15 1) (g_11 8) (g_11 9) (g_11 10) (g_11 11) (g_11 12) (g_11 13) yleaz1 yangz1 ycolz1 yendz1), (kX3 gL (g_11 0) (g_11 1) (g_11 2) (g_11 3)), (kX3 gR (g_11 4) (g_11 5) (g_11 6) (g_11 7)), (kX4 aLa vLa l4 a4 n4), (kAI vLa cI 24 f4), (kX7 aPa vPa l7 a7 n7), (kAI vPa cI 39 f7), (kX2 aGe vGe l2 a2 n2), (kAI vGe cI 23 f2)]) (wt := [(kX11 hx aLa aPa aGe aFl aTr aBe aLu aLo vSf vSm vCo vSh xs xl xf), (kAI vSf cI 8 sf), (kAI vSm cI 8 sm), (kX10 aTr aLa aPa aGe gL gR (gp_15 0) (gp_15 1) (g_11 8) (g_11 9) (g_11 10) (g_11 11) (g_11 12) (g_11 13) yleaz1 yangz1 ycolz1 yendz1), (kX3 gL (g_11 0) (g_11 1) (g_11 2) (g_11 3)), (kX3 gR (g_11 4) (g_11 5) (g_11 6) (g_11 7)), (kX4 aLa vLa l4 a4 n4), (kAI vLa cI 24 f4), (kX7 aPa vPa l7 a7 n7), (kAI vPa cI 39 f7), (kX2 aGe vGe l2 a2 n2), (kAI vGe cI 23 f2), (kX1 aFl vFl xn), (kAI vFl cI 32 ff)]) hP hD hC [0, 1, 2, 5, 6, 7, 8, 9, 10, 11, 12, 13] rfl (by decide +kernel) (by decide +kernel) hk1 hFc hP1 hD1 rfl
              clear hP hD hPc hDc hFc hC hP1 hD1 hK1 hz1 hk1 hvm ht
              obtain ⟨hP, hD⟩ := hJ
              generalize H1 = H at hP hS ⊢
              try dsimp only at hw
              refine k_topi (v := kIt xn ff y_4 3) hw ?_
              obtain ⟨hPc, hDc, hFc, hC⟩ := k_cw (wc := [(kX10 aTr aLa aPa aGe gL gR (gp_15 0) (gp_15 1) (g_11 8) (g_11 9) (g_11 10) (g_11 11) (g_11 12) (g_11 13) yleaz1 yangz1 ycolz1 yendz1), (kX4 aLa vLa l4 a4 n4), (kAI vLa cI 24 f4)]) hP hD hS hA [3, 6, 7] (by decide +kernel) rfl
              refine va_calli (va_runV (As := [.int (kIt xn ff y_4 3)]) (rest := []) ⟨hx₀, hb, hml, hown, hts⟩ (j_comesTo l dC dI cI cJ cQ H.size aTr (kIt xn ff y_4 3) aLa aPa aGe gL gR (gp_15 0) (gp_15 1) (g_11 8) (g_11 9) (g_11 10) (g_11 11) (g_11 12) (g_11 13) yleaz1 yangz1 ycolz1 yendz1 vLa l4 a4 n4 f4 (hh0)) (cwV 1 hts (kGV wd_495 wd_492 wd_493 wd_494 wd_30) rfl rfl rfl (by decide +kernel) ⟨Nat.le_of_ble_eq_true rfl, Nat.le_of_ble_eq_true rfl⟩) (k_preV9 (q0 := 0) hK hPc hDc hN rfl) rfl rfl hl.1 rfl (lv_room (Nat.le_of_ble_eq_true rfl)) dX11_agreesWithSeen_129 ⟨by decide +kernel, by decide +kernel⟩) hS (fun q _ h => hFc q h) hFc (fun r_25 u₀ t₀ H1 locs ht hvm hw hB hz1 hk1 hS => ?_)
              obtain ⟨g_26, ga_27, gl_28, gb_29, gp_30⟩ := u₀
              obtain ⟨hP1, hK1, hD1⟩ := hB
              rw [ht] at hP1
              have hJ := k_jn (wr := [(kX11 hx aLa aPa aGe aFl aTr aBe aLu aLo vSf vSm vCo vSh xs xl xf), (kAI vSf cI 8 sf), (kAI vSm cI 8 sm), (kX3 gL (g_11 0) (g_11 1) (g_11 2) (g_11 3)), (kX3 gR (g_11 4) (g_11 5) (g_11 6) (g_11 7)), (kX7 aPa vPa l7 a7 n7), (kAI vPa cI 39 f7), (kX2 aGe vGe l2 a2 n2), (kAI vGe cI 23 f2), (kX1 aFl vFl xn), (kAI vFl cI 32 ff)]) (wt := [(kX11 hx aLa aPa aGe aFl aTr aBe aLu aLo vSf vSm vCo vSh xs xl xf), (kAI vSf cI 8 sf), (kAI vSm cI 8 sm), (kX3 gL (g_11 0) (g_11 1) (g_11 2) (g_11 3)), (kX3 gR (g_11 4) (g_11 5) (g_11 6) (g_11 7)), (kX7 aPa vPa l7 a7 n7), (kAI vPa cI 39 f7), (kX2 aGe vGe l2 a2 n2), (kAI vGe cI 23 f2), (kX1 aFl vFl xn), (kAI vFl cI 32 ff), (kX10 aTr aLa aPa aGe gL gR (gp_15 0) (gp_15 1) (g_11 8) (g_11 9) (g_11 10) (g_11 11) (g_11 12) (g_11 13) yleaz1 (g_26 0) (g_26 1) (g_26 2)), (kX4 aLa vLa l4 a4 n4), (kAI vLa cI 24 f4)]) hP hD hC [0, 1, 2, 4, 5, 8, 9, 10, 11, 12, 13] rfl (by decide +kernel) (by decide +kernel) hk1 hFc hP1 hD1 rfl
              clear hP hD hPc hDc hFc hC hP1 hD1 hK1 hz1 hk1 hvm ht
              obtain ⟨hP, hD⟩ := hJ
              generalize H1 = H at hP hS ⊢
              try dsimp only at hw
              obtain ⟨c_31, c_32, c_33, c_34⟩ := hw
              refine lv_istore (lv' := [(8, .int r_25), (7, .int (kIt xn ff y_4 0)), (6, .int y_4), (5, .int iz1), (0, .ref hx), (1, .int p1), (2, .int s1), (3, .int f1), (4, .int h1)]) hx₀ hb dX11_agreesWithSeen_132 hl (by decide) rfl (fun ls hl => ?_)
              refine lv_iload hx₀ hb dX11_agreesWithSeen_134 (lv_at hl 0 rfl) ?_
              refine lv_aload_n hx₀ hb dX11_agreesWithSeen_136 rfl (lv_at hl 4 rfl) ?_
              refine va_get (D := (dC, dI)) (ci := 10) (v := .ref vSm) (C := RX11) (T := TX11) (N := 15) hx₀ hb hts inlX11 hown hK hP 0 rfl rfl 9 (by decide) (hts (.fieldLink RX11 71 "BittenStick" "seenMiles" "[I") wd_46) (fun _ h9 => h9) rfl dX11_agreesWithSeen_137 ?_
              refine lv_iload hx₀ hb dX11_agreesWithSeen_140 (lv_at hl 3 rfl) ?_
              refine va_iald hx₀ hb hK hP 2 0 rfl rfl (vp_in_iff.mpr (lf_j_agreesWithSeen_1 iz1 xs jz1 hiz1_0 hjz1 c_2 c_3)) dX11_agreesWithSeen_142 ?_
              refine lv_topi (fun y_35 ey_35 => ?_)
              refine lv_icmp_eq (tgt := 148) hx₀ hb dX11_agreesWithSeen_143 (by decide) (fun c_36 => ?_) (fun c_36 => ?_)
              · refine lv_iinc (v := iz1 + 1) (lv' := [(5, .int (iz1 + 1)), (8, .int r_25), (7, .int (kIt xn ff y_4 0)), (6, .int y_4), (0, .ref hx), (1, .int p1), (2, .int s1), (3, .int f1), (4, .int h1)]) hx₀ hb dX11_agreesWithSeen_148 hl (k := 3) rfl rfl (by decide) rfl (fun ls hl => ?_)
                refine lv_goto (tgt := 14) hx₀ hb dX11_agreesWithSeen_151 (by decide) ?_
                exact ihz1 _ (lf_j_agreesWithSeen_3 iz1 xs jz1 hiz1_0 hjz1 c_2 c_3) (iz1 + 1) (g_11 8) (g_11 9) (g_11 10) (g_11 11) (g_11 12) (g_11 13) yleaz1 (g_26 0) (g_26 1) (g_26 2) (gp_15 0) (gp_15 1) (g_11 0) (g_11 1) (g_11 2) (g_11 3) (g_11 4) (g_11 5) (g_11 6) (g_11 7) _ _ _ (lf_j_agreesWithSeen_2 iz1 xs jz1 hiz1_0 hjz1 c_2 c_3) rfl (hP.sub [0, 11, 3, 4, 12, 13, 5, 6, 7, 8, 9, 10, 1, 2] rfl) (hD.sub [0, 11, 3, 4, 12, 13, 5, 6, 7, 8, 9, 10, 1, 2] (by decide +kernel) rfl) hS (lv_sub hl [0, 4, 5, 6, 7, 8] rfl)
              · refine lv_iconst (v := 0) hx₀ hb dX11_agreesWithSeen_146 (by decide +kernel) ?_
                obtain ⟨hP9, hD9⟩ := k_c2 (wc := [(kX11 hx aLa aPa aGe aFl aTr aBe aLu aLo vSf vSm vCo vSh xs xl xf), (kX10 aTr aLa aPa aGe gL gR (gp_15 0) (gp_15 1) (g_11 8) (g_11 9) (g_11 10) (g_11 11) (g_11 12) (g_11 13) yleaz1 (g_26 0) (g_26 1) (g_26 2)), (kX3 gL (g_11 0) (g_11 1) (g_11 2) (g_11 3)), (kX3 gR (g_11 4) (g_11 5) (g_11 6) (g_11 7)), (kX4 aLa vLa l4 a4 n4), (kAI vLa cI 24 f4), (kX7 aPa vPa l7 a7 n7), (kAI vPa cI 39 f7), (kX2 aGe vGe l2 a2 n2), (kAI vGe cI 23 f2), (kX1 aFl vFl xn), (kAI vFl cI 32 ff), (kAI vSf cI 8 sf), (kAI vSm cI 8 sm)]) hP hD [0, 11, 3, 4, 12, 13, 5, 6, 7, 8, 9, 10, 1, 2] (by decide +kernel) rfl
                exact W.zret (v := 0) hx₀ hb hr (by decide +kernel) (fun t₀ ht hW => ⟨⟨0, (k_fn [(g_11 0), (g_11 1), (g_11 2), (g_11 3), (g_11 4), (g_11 5), (g_11 6), (g_11 7), (g_11 8), (g_11 9), (g_11 10), (g_11 11), (g_11 12), (g_11 13), yleaz1, (g_26 0), (g_26 1), (g_26 2)], k_fa [], k_fl [], k_fL [], k_fp [(gp_15 0), (gp_15 1)]), rfl, (show (0 : Int32) = 0 ∨ (0 : Int32) = 1 from (Or.inl (rfl))), by rw [ht]; exact hP9, va_K.moved hW.alike hK, hD9⟩, hS.F ht⟩) hS.2.2 dX11_agreesWithSeen_147
            · refine lv_iload hx₀ hb dX11_agreesWithSeen_115 (lv_at hl 7 rfl) ?_
              refine lv_goto (tgt := 129) hx₀ hb dX11_agreesWithSeen_117 (by decide) ?_
              obtain ⟨hPc, hDc, hFc, hC⟩ := k_cw (wc := [(kX10 aTr aLa aPa aGe gL gR (gp_15 0) (gp_15 1) (g_11 8) (g_11 9) (g_11 10) (g_11 11) (g_11 12) (g_11 13) yleaz1 yangz1 ycolz1 yendz1), (kX4 aLa vLa l4 a4 n4), (kAI vLa cI 24 f4)]) hP hD hS hA [5, 8, 9] (by decide +kernel) rfl
              refine va_calli (va_runV (As := [.int h1]) (rest := []) ⟨hx₀, hb, hml, hown, hts⟩ (j_comesTo l dC dI cI cJ cQ H.size aTr h1 aLa aPa aGe gL gR (gp_15 0) (gp_15 1) (g_11 8) (g_11 9) (g_11 10) (g_11 11) (g_11 12) (g_11 13) yleaz1 yangz1 ycolz1 yendz1 vLa l4 a4 n4 f4 (hh0)) (cwV 1 hts (kGV wd_495 wd_492 wd_493 wd_494 wd_30) rfl rfl rfl (by decide +kernel) ⟨Nat.le_of_ble_eq_true rfl, Nat.le_of_ble_eq_true rfl⟩) (k_preV9 (q0 := 0) hK hPc hDc hN rfl) rfl rfl hl.1 rfl (lv_room (Nat.le_of_ble_eq_true rfl)) dX11_agreesWithSeen_129 ⟨by decide +kernel, by decide +kernel⟩) hS (fun q _ h => hFc q h) hFc (fun r_37 u₀ t₀ H1 locs ht hvm hw hB hz1 hk1 hS => ?_)
              obtain ⟨g_38, ga_39, gl_40, gb_41, gp_42⟩ := u₀
              obtain ⟨hP1, hK1, hD1⟩ := hB
              rw [ht] at hP1
              have hJ := k_jn (wr := [(kX11 hx aLa aPa aGe aFl aTr aBe aLu aLo vSf vSm vCo vSh xs xl xf), (kAI vSf cI 8 sf), (kAI vSm cI 8 sm), (kX1 aFl vFl xn), (kAI vFl cI 32 ff), (kX3 gL (g_11 0) (g_11 1) (g_11 2) (g_11 3)), (kX3 gR (g_11 4) (g_11 5) (g_11 6) (g_11 7)), (kX7 aPa vPa l7 a7 n7), (kAI vPa cI 39 f7), (kX2 aGe vGe l2 a2 n2), (kAI vGe cI 23 f2)]) (wt := [(kX11 hx aLa aPa aGe aFl aTr aBe aLu aLo vSf vSm vCo vSh xs xl xf), (kAI vSf cI 8 sf), (kAI vSm cI 8 sm), (kX1 aFl vFl xn), (kAI vFl cI 32 ff), (kX3 gL (g_11 0) (g_11 1) (g_11 2) (g_11 3)), (kX3 gR (g_11 4) (g_11 5) (g_11 6) (g_11 7)), (kX7 aPa vPa l7 a7 n7), (kAI vPa cI 39 f7), (kX2 aGe vGe l2 a2 n2), (kAI vGe cI 23 f2), (kX10 aTr aLa aPa aGe gL gR (gp_15 0) (gp_15 1) (g_11 8) (g_11 9) (g_11 10) (g_11 11) (g_11 12) (g_11 13) yleaz1 (g_38 0) (g_38 1) (g_38 2)), (kX4 aLa vLa l4 a4 n4), (kAI vLa cI 24 f4)]) hP hD hC [0, 1, 2, 3, 4, 6, 7, 10, 11, 12, 13] rfl (by decide +kernel) (by decide +kernel) hk1 hFc hP1 hD1 rfl
              clear hP hD hPc hDc hFc hC hP1 hD1 hK1 hz1 hk1 hvm ht
              obtain ⟨hP, hD⟩ := hJ
              generalize H1 = H at hP hS ⊢
              try dsimp only at hw
              obtain ⟨c_43, c_44, c_45, c_46⟩ := hw
              refine lv_istore (lv' := [(8, .int r_37), (7, .int (kIt xn ff y_4 0)), (6, .int y_4), (5, .int iz1), (0, .ref hx), (1, .int p1), (2, .int s1), (3, .int f1), (4, .int h1)]) hx₀ hb dX11_agreesWithSeen_132 hl (by decide) rfl (fun ls hl => ?_)
              refine lv_iload hx₀ hb dX11_agreesWithSeen_134 (lv_at hl 0 rfl) ?_
              refine lv_aload_n hx₀ hb dX11_agreesWithSeen_136 rfl (lv_at hl 4 rfl) ?_
              refine va_get (D := (dC, dI)) (ci := 10) (v := .ref vSm) (C := RX11) (T := TX11) (N := 15) hx₀ hb hts inlX11 hown hK hP 0 rfl rfl 9 (by decide) (hts (.fieldLink RX11 71 "BittenStick" "seenMiles" "[I") wd_46) (fun _ h9 => h9) rfl dX11_agreesWithSeen_137 ?_
              refine lv_iload hx₀ hb dX11_agreesWithSeen_140 (lv_at hl 3 rfl) ?_
              refine va_iald hx₀ hb hK hP 2 0 rfl rfl (vp_in_iff.mpr (lf_j_agreesWithSeen_1 iz1 xs jz1 hiz1_0 hjz1 c_2 c_3)) dX11_agreesWithSeen_142 ?_
              refine lv_topi (fun y_47 ey_47 => ?_)
              refine lv_icmp_eq (tgt := 148) hx₀ hb dX11_agreesWithSeen_143 (by decide) (fun c_48 => ?_) (fun c_48 => ?_)
              · refine lv_iinc (v := iz1 + 1) (lv' := [(5, .int (iz1 + 1)), (8, .int r_37), (7, .int (kIt xn ff y_4 0)), (6, .int y_4), (0, .ref hx), (1, .int p1), (2, .int s1), (3, .int f1), (4, .int h1)]) hx₀ hb dX11_agreesWithSeen_148 hl (k := 3) rfl rfl (by decide) rfl (fun ls hl => ?_)
                refine lv_goto (tgt := 14) hx₀ hb dX11_agreesWithSeen_151 (by decide) ?_
                exact ihz1 _ (lf_j_agreesWithSeen_3 iz1 xs jz1 hiz1_0 hjz1 c_2 c_3) (iz1 + 1) (g_11 8) (g_11 9) (g_11 10) (g_11 11) (g_11 12) (g_11 13) yleaz1 (g_38 0) (g_38 1) (g_38 2) (gp_15 0) (gp_15 1) (g_11 0) (g_11 1) (g_11 2) (g_11 3) (g_11 4) (g_11 5) (g_11 6) (g_11 7) _ _ _ (lf_j_agreesWithSeen_2 iz1 xs jz1 hiz1_0 hjz1 c_2 c_3) rfl (hP.sub [0, 11, 5, 6, 12, 13, 7, 8, 9, 10, 3, 4, 1, 2] rfl) (hD.sub [0, 11, 5, 6, 12, 13, 7, 8, 9, 10, 3, 4, 1, 2] (by decide +kernel) rfl) hS (lv_sub hl [0, 4, 5, 6, 7, 8] rfl)
              · refine lv_iconst (v := 0) hx₀ hb dX11_agreesWithSeen_146 (by decide +kernel) ?_
                obtain ⟨hP9, hD9⟩ := k_c2 (wc := [(kX11 hx aLa aPa aGe aFl aTr aBe aLu aLo vSf vSm vCo vSh xs xl xf), (kX10 aTr aLa aPa aGe gL gR (gp_15 0) (gp_15 1) (g_11 8) (g_11 9) (g_11 10) (g_11 11) (g_11 12) (g_11 13) yleaz1 (g_38 0) (g_38 1) (g_38 2)), (kX3 gL (g_11 0) (g_11 1) (g_11 2) (g_11 3)), (kX3 gR (g_11 4) (g_11 5) (g_11 6) (g_11 7)), (kX4 aLa vLa l4 a4 n4), (kAI vLa cI 24 f4), (kX7 aPa vPa l7 a7 n7), (kAI vPa cI 39 f7), (kX2 aGe vGe l2 a2 n2), (kAI vGe cI 23 f2), (kX1 aFl vFl xn), (kAI vFl cI 32 ff), (kAI vSf cI 8 sf), (kAI vSm cI 8 sm)]) hP hD [0, 11, 5, 6, 12, 13, 7, 8, 9, 10, 3, 4, 1, 2] (by decide +kernel) rfl
                exact W.zret (v := 0) hx₀ hb hr (by decide +kernel) (fun t₀ ht hW => ⟨⟨0, (k_fn [(g_11 0), (g_11 1), (g_11 2), (g_11 3), (g_11 4), (g_11 5), (g_11 6), (g_11 7), (g_11 8), (g_11 9), (g_11 10), (g_11 11), (g_11 12), (g_11 13), yleaz1, (g_38 0), (g_38 1), (g_38 2)], k_fa [], k_fl [], k_fL [], k_fp [(gp_15 0), (gp_15 1)]), rfl, (show (0 : Int32) = 0 ∨ (0 : Int32) = 1 from (Or.inl (rfl))), by rw [ht]; exact hP9, va_K.moved hW.alike hK, hD9⟩, hS.F ht⟩) hS.2.2 dX11_agreesWithSeen_147
          · refine lv_aload_n hx₀ hb dX11_agreesWithSeen_97 rfl (lv_at hl 3 rfl) ?_
            refine va_get (D := (dC, dI)) (ci := 10) (v := .ref aTr) (C := RX11) (T := TX11) (N := 15) hx₀ hb hts inlX11 hown hK hP 0 rfl rfl 4 (by decide) (hts (.fieldLink RX11 42 "BittenStick" "trip" "LBittenStick$Trip;") wd_31) (fun _ h9 => h9) rfl dX11_agreesWithSeen_98 ?_
            refine lv_iload_n hx₀ hb dX11_agreesWithSeen_101 rfl (lv_at hl 5 rfl) ?_
            refine va_put (D := (dC, dI)) (ci := 9) (v := .int s1) (ty := .int) (C := RX10) (T := TX10) (N := 17) hx₀ hb hts inlX10 tyX10 tyX10_ok nmX10 hown hK hP hD hS 5 rfl rfl 10 (by decide) (hts (.fieldLink RX11 363 "BittenStick$Trip" "sore" "I") wd_713) (fun _ h9 => h9) rfl (by decide +kernel) rfl rfl (Nat.le_of_ble_eq_true rfl) dX11_agreesWithSeen_102 ?_
            clear hP hD hS
            intro H locs hP hD hS
            replace hP := k_w2 (wt := [(kX11 hx aLa aPa aGe aFl aTr aBe aLu aLo vSf vSm vCo vSh xs xl xf), (kAI vSf cI 8 sf), (kAI vSm cI 8 sm), (kX1 aFl vFl xn), (kAI vFl cI 32 ff), (kX10 aTr aLa aPa aGe gL gR (gp_15 0) (gp_15 1) (g_11 8) (g_11 9) (g_11 10) s1 (g_11 12) (g_11 13) yleaz1 yangz1 ycolz1 yendz1), (kX3 gL (g_11 0) (g_11 1) (g_11 2) (g_11 3)), (kX3 gR (g_11 4) (g_11 5) (g_11 6) (g_11 7)), (kX4 aLa vLa l4 a4 n4), (kAI vLa cI 24 f4), (kX7 aPa vPa l7 a7 n7), (kAI vPa cI 39 f7), (kX2 aGe vGe l2 a2 n2), (kAI vGe cI 23 f2)]) hP hD rfl
            replace hD := hP.2
            replace hP := hP.1
            refine lv_aload_n hx₀ hb dX11_agreesWithSeen_105 rfl (lv_at hl 3 rfl) ?_
            refine va_get (D := (dC, dI)) (ci := 10) (v := .ref aTr) (C := RX11) (T := TX11) (N := 15) hx₀ hb hts inlX11 hown hK hP 0 rfl rfl 4 (by decide) (hts (.fieldLink RX11 42 "BittenStick" "trip" "LBittenStick$Trip;") wd_31) (fun _ h9 => h9) rfl dX11_agreesWithSeen_106 ?_
            refine lv_iload hx₀ hb dX11_agreesWithSeen_109 (lv_at hl 1 rfl) ?_
            refine lv_iload_n hx₀ hb dX11_agreesWithSeen_111 rfl (lv_at hl 6 rfl) ?_
            refine lv_icmp_ne (tgt := 120) hx₀ hb dX11_agreesWithSeen_112 (by decide) (fun c_49 => ?_) (fun c_49 => ?_)
            · refine lv_aload_n hx₀ hb dX11_agreesWithSeen_120 rfl (lv_at hl 3 rfl) ?_
              refine va_get (D := (dC, dI)) (ci := 10) (v := .ref aFl) (C := RX11) (T := TX11) (N := 15) hx₀ hb hts inlX11 hown hK hP 0 rfl rfl 3 (by decide) (hts (.fieldLink RX11 33 "BittenStick" "flights" "LBittenStick$Flights;") wd_27) (fun _ h9 => h9) rfl dX11_agreesWithSeen_121 ?_
              refine lv_iload hx₀ hb dX11_agreesWithSeen_124 (lv_at hl 1 rfl) ?_
              obtain ⟨hPc, hDc, hFc, hC⟩ := k_cw (wc := [(kX1 aFl vFl xn), (kAI vFl cI 32 ff)]) hP hD hS hA [3, 4] (by decide +kernel) rfl
              refine va_calli (va_runV (As := [.int y_4]) (rest := [.ref aTr]) ⟨hx₀, hb, hml, hown, hts⟩ (j_heightOf l dC dI cI cJ cQ H.size aFl y_4 vFl xn ff (hh1)) (cwV 1 hts (kGV wd_491 wd_488 wd_489 wd_490 wd_26) rfl rfl rfl (by decide +kernel) ⟨Nat.le_of_ble_eq_true rfl, Nat.le_of_ble_eq_true rfl⟩) (k_preV1 (q0 := 0) hK hPc hDc hN rfl) rfl rfl hl.1 rfl (lv_room (Nat.le_of_ble_eq_true rfl)) dX11_agreesWithSeen_126 ⟨by decide +kernel, by decide +kernel⟩) hS (fun q _ h => hFc q h) hFc (fun r_50 u₀ t₀ H1 locs ht hvm hw hB hz1 hk1 hS => ?_)
              obtain ⟨hP1, hK1, hD1⟩ := hB
              rw [ht] at hP1
              have hJ := k_jn (wr := [(kX11 hx aLa aPa aGe aFl aTr aBe aLu aLo vSf vSm vCo vSh xs xl xf), (kAI vSf cI 8 sf), (kAI vSm cI 8 sm), (kX10 aTr aLa aPa aGe gL gR (gp_15 0) (gp_15 1) (g_11 8) (g_11 9) (g_11 10) s1 (g_11 12) (g_11 13) yleaz1 yangz1 ycolz1 yendz1), (kX3 gL (g_11 0) (g_11 1) (g_11 2) (g_11 3)), (kX3 gR (g_11 4) (g_11 5) (g_11 6) (g_11 7)), (kX4 aLa vLa l4 a4 n4), (kAI vLa cI 24 f4), (kX7 aPa vPa l7 a7 n7), (kAI vPa cI 39 f7), (kX2 aGe vGe l2 a2 n2), (kAI vGe cI 23 f2)]) (wt := [(kX11 hx aLa aPa aGe aFl aTr aBe aLu aLo vSf vSm vCo vSh xs xl xf), (kAI vSf cI 8 sf), (kAI vSm cI 8 sm), (kX10 aTr aLa aPa aGe gL gR (gp_15 0) (gp_15 1) (g_11 8) (g_11 9) (g_11 10) s1 (g_11 12) (g_11 13) yleaz1 yangz1 ycolz1 yendz1), (kX3 gL (g_11 0) (g_11 1) (g_11 2) (g_11 3)), (kX3 gR (g_11 4) (g_11 5) (g_11 6) (g_11 7)), (kX4 aLa vLa l4 a4 n4), (kAI vLa cI 24 f4), (kX7 aPa vPa l7 a7 n7), (kAI vPa cI 39 f7), (kX2 aGe vGe l2 a2 n2), (kAI vGe cI 23 f2), (kX1 aFl vFl xn), (kAI vFl cI 32 ff)]) hP hD hC [0, 1, 2, 5, 6, 7, 8, 9, 10, 11, 12, 13] rfl (by decide +kernel) (by decide +kernel) hk1 hFc hP1 hD1 rfl
              clear hP hD hPc hDc hFc hC hP1 hD1 hK1 hz1 hk1 hvm ht
              obtain ⟨hP, hD⟩ := hJ
              generalize H1 = H at hP hS ⊢
              try dsimp only at hw
              refine k_topi (v := kIt xn ff y_4 3) hw ?_
              obtain ⟨hPc, hDc, hFc, hC⟩ := k_cw (wc := [(kX10 aTr aLa aPa aGe gL gR (gp_15 0) (gp_15 1) (g_11 8) (g_11 9) (g_11 10) s1 (g_11 12) (g_11 13) yleaz1 yangz1 ycolz1 yendz1), (kX4 aLa vLa l4 a4 n4), (kAI vLa cI 24 f4)]) hP hD hS hA [3, 6, 7] (by decide +kernel) rfl
              refine va_calli (va_runV (As := [.int (kIt xn ff y_4 3)]) (rest := []) ⟨hx₀, hb, hml, hown, hts⟩ (j_comesTo l dC dI cI cJ cQ H.size aTr (kIt xn ff y_4 3) aLa aPa aGe gL gR (gp_15 0) (gp_15 1) (g_11 8) (g_11 9) (g_11 10) s1 (g_11 12) (g_11 13) yleaz1 yangz1 ycolz1 yendz1 vLa l4 a4 n4 f4 (hh0)) (cwV 1 hts (kGV wd_495 wd_492 wd_493 wd_494 wd_30) rfl rfl rfl (by decide +kernel) ⟨Nat.le_of_ble_eq_true rfl, Nat.le_of_ble_eq_true rfl⟩) (k_preV9 (q0 := 0) hK hPc hDc hN rfl) rfl rfl hl.1 rfl (lv_room (Nat.le_of_ble_eq_true rfl)) dX11_agreesWithSeen_129 ⟨by decide +kernel, by decide +kernel⟩) hS (fun q _ h => hFc q h) hFc (fun r_51 u₀ t₀ H1 locs ht hvm hw hB hz1 hk1 hS => ?_)
              obtain ⟨g_52, ga_53, gl_54, gb_55, gp_56⟩ := u₀
              obtain ⟨hP1, hK1, hD1⟩ := hB
              rw [ht] at hP1
              have hJ := k_jn (wr := [(kX11 hx aLa aPa aGe aFl aTr aBe aLu aLo vSf vSm vCo vSh xs xl xf), (kAI vSf cI 8 sf), (kAI vSm cI 8 sm), (kX3 gL (g_11 0) (g_11 1) (g_11 2) (g_11 3)), (kX3 gR (g_11 4) (g_11 5) (g_11 6) (g_11 7)), (kX7 aPa vPa l7 a7 n7), (kAI vPa cI 39 f7), (kX2 aGe vGe l2 a2 n2), (kAI vGe cI 23 f2), (kX1 aFl vFl xn), (kAI vFl cI 32 ff)]) (wt := [(kX11 hx aLa aPa aGe aFl aTr aBe aLu aLo vSf vSm vCo vSh xs xl xf), (kAI vSf cI 8 sf), (kAI vSm cI 8 sm), (kX3 gL (g_11 0) (g_11 1) (g_11 2) (g_11 3)), (kX3 gR (g_11 4) (g_11 5) (g_11 6) (g_11 7)), (kX7 aPa vPa l7 a7 n7), (kAI vPa cI 39 f7), (kX2 aGe vGe l2 a2 n2), (kAI vGe cI 23 f2), (kX1 aFl vFl xn), (kAI vFl cI 32 ff), (kX10 aTr aLa aPa aGe gL gR (gp_15 0) (gp_15 1) (g_11 8) (g_11 9) (g_11 10) s1 (g_11 12) (g_11 13) yleaz1 (g_52 0) (g_52 1) (g_52 2)), (kX4 aLa vLa l4 a4 n4), (kAI vLa cI 24 f4)]) hP hD hC [0, 1, 2, 4, 5, 8, 9, 10, 11, 12, 13] rfl (by decide +kernel) (by decide +kernel) hk1 hFc hP1 hD1 rfl
              clear hP hD hPc hDc hFc hC hP1 hD1 hK1 hz1 hk1 hvm ht
              obtain ⟨hP, hD⟩ := hJ
              generalize H1 = H at hP hS ⊢
              try dsimp only at hw
              obtain ⟨c_57, c_58, c_59, c_60⟩ := hw
              refine lv_istore (lv' := [(8, .int r_51), (7, .int (kIt xn ff y_4 0)), (6, .int y_4), (5, .int iz1), (0, .ref hx), (1, .int p1), (2, .int s1), (3, .int f1), (4, .int h1)]) hx₀ hb dX11_agreesWithSeen_132 hl (by decide) rfl (fun ls hl => ?_)
              refine lv_iload hx₀ hb dX11_agreesWithSeen_134 (lv_at hl 0 rfl) ?_
              refine lv_aload_n hx₀ hb dX11_agreesWithSeen_136 rfl (lv_at hl 4 rfl) ?_
              refine va_get (D := (dC, dI)) (ci := 10) (v := .ref vSm) (C := RX11) (T := TX11) (N := 15) hx₀ hb hts inlX11 hown hK hP 0 rfl rfl 9 (by decide) (hts (.fieldLink RX11 71 "BittenStick" "seenMiles" "[I") wd_46) (fun _ h9 => h9) rfl dX11_agreesWithSeen_137 ?_
              refine lv_iload hx₀ hb dX11_agreesWithSeen_140 (lv_at hl 3 rfl) ?_
              refine va_iald hx₀ hb hK hP 2 0 rfl rfl (vp_in_iff.mpr (lf_j_agreesWithSeen_1 iz1 xs jz1 hiz1_0 hjz1 c_2 c_3)) dX11_agreesWithSeen_142 ?_
              refine lv_topi (fun y_61 ey_61 => ?_)
              refine lv_icmp_eq (tgt := 148) hx₀ hb dX11_agreesWithSeen_143 (by decide) (fun c_62 => ?_) (fun c_62 => ?_)
              · refine lv_iinc (v := iz1 + 1) (lv' := [(5, .int (iz1 + 1)), (8, .int r_51), (7, .int (kIt xn ff y_4 0)), (6, .int y_4), (0, .ref hx), (1, .int p1), (2, .int s1), (3, .int f1), (4, .int h1)]) hx₀ hb dX11_agreesWithSeen_148 hl (k := 3) rfl rfl (by decide) rfl (fun ls hl => ?_)
                refine lv_goto (tgt := 14) hx₀ hb dX11_agreesWithSeen_151 (by decide) ?_
                exact ihz1 _ (lf_j_agreesWithSeen_3 iz1 xs jz1 hiz1_0 hjz1 c_2 c_3) (iz1 + 1) (g_11 8) (g_11 9) (g_11 10) s1 (g_11 12) (g_11 13) yleaz1 (g_52 0) (g_52 1) (g_52 2) (gp_15 0) (gp_15 1) (g_11 0) (g_11 1) (g_11 2) (g_11 3) (g_11 4) (g_11 5) (g_11 6) (g_11 7) _ _ _ (lf_j_agreesWithSeen_2 iz1 xs jz1 hiz1_0 hjz1 c_2 c_3) rfl (hP.sub [0, 11, 3, 4, 12, 13, 5, 6, 7, 8, 9, 10, 1, 2] rfl) (hD.sub [0, 11, 3, 4, 12, 13, 5, 6, 7, 8, 9, 10, 1, 2] (by decide +kernel) rfl) hS (lv_sub hl [0, 4, 5, 6, 7, 8] rfl)
              · refine lv_iconst (v := 0) hx₀ hb dX11_agreesWithSeen_146 (by decide +kernel) ?_
                obtain ⟨hP9, hD9⟩ := k_c2 (wc := [(kX11 hx aLa aPa aGe aFl aTr aBe aLu aLo vSf vSm vCo vSh xs xl xf), (kX10 aTr aLa aPa aGe gL gR (gp_15 0) (gp_15 1) (g_11 8) (g_11 9) (g_11 10) s1 (g_11 12) (g_11 13) yleaz1 (g_52 0) (g_52 1) (g_52 2)), (kX3 gL (g_11 0) (g_11 1) (g_11 2) (g_11 3)), (kX3 gR (g_11 4) (g_11 5) (g_11 6) (g_11 7)), (kX4 aLa vLa l4 a4 n4), (kAI vLa cI 24 f4), (kX7 aPa vPa l7 a7 n7), (kAI vPa cI 39 f7), (kX2 aGe vGe l2 a2 n2), (kAI vGe cI 23 f2), (kX1 aFl vFl xn), (kAI vFl cI 32 ff), (kAI vSf cI 8 sf), (kAI vSm cI 8 sm)]) hP hD [0, 11, 3, 4, 12, 13, 5, 6, 7, 8, 9, 10, 1, 2] (by decide +kernel) rfl
                exact W.zret (v := 0) hx₀ hb hr (by decide +kernel) (fun t₀ ht hW => ⟨⟨0, (k_fn [(g_11 0), (g_11 1), (g_11 2), (g_11 3), (g_11 4), (g_11 5), (g_11 6), (g_11 7), (g_11 8), (g_11 9), (g_11 10), s1, (g_11 12), (g_11 13), yleaz1, (g_52 0), (g_52 1), (g_52 2)], k_fa [], k_fl [], k_fL [], k_fp [(gp_15 0), (gp_15 1)]), rfl, (show (0 : Int32) = 0 ∨ (0 : Int32) = 1 from (Or.inl (rfl))), by rw [ht]; exact hP9, va_K.moved hW.alike hK, hD9⟩, hS.F ht⟩) hS.2.2 dX11_agreesWithSeen_147
            · refine lv_iload hx₀ hb dX11_agreesWithSeen_115 (lv_at hl 7 rfl) ?_
              refine lv_goto (tgt := 129) hx₀ hb dX11_agreesWithSeen_117 (by decide) ?_
              obtain ⟨hPc, hDc, hFc, hC⟩ := k_cw (wc := [(kX10 aTr aLa aPa aGe gL gR (gp_15 0) (gp_15 1) (g_11 8) (g_11 9) (g_11 10) s1 (g_11 12) (g_11 13) yleaz1 yangz1 ycolz1 yendz1), (kX4 aLa vLa l4 a4 n4), (kAI vLa cI 24 f4)]) hP hD hS hA [5, 8, 9] (by decide +kernel) rfl
              refine va_calli (va_runV (As := [.int h1]) (rest := []) ⟨hx₀, hb, hml, hown, hts⟩ (j_comesTo l dC dI cI cJ cQ H.size aTr h1 aLa aPa aGe gL gR (gp_15 0) (gp_15 1) (g_11 8) (g_11 9) (g_11 10) s1 (g_11 12) (g_11 13) yleaz1 yangz1 ycolz1 yendz1 vLa l4 a4 n4 f4 (hh0)) (cwV 1 hts (kGV wd_495 wd_492 wd_493 wd_494 wd_30) rfl rfl rfl (by decide +kernel) ⟨Nat.le_of_ble_eq_true rfl, Nat.le_of_ble_eq_true rfl⟩) (k_preV9 (q0 := 0) hK hPc hDc hN rfl) rfl rfl hl.1 rfl (lv_room (Nat.le_of_ble_eq_true rfl)) dX11_agreesWithSeen_129 ⟨by decide +kernel, by decide +kernel⟩) hS (fun q _ h => hFc q h) hFc (fun r_63 u₀ t₀ H1 locs ht hvm hw hB hz1 hk1 hS => ?_)
              obtain ⟨g_64, ga_65, gl_66, gb_67, gp_68⟩ := u₀
              obtain ⟨hP1, hK1, hD1⟩ := hB
              rw [ht] at hP1
              have hJ := k_jn (wr := [(kX11 hx aLa aPa aGe aFl aTr aBe aLu aLo vSf vSm vCo vSh xs xl xf), (kAI vSf cI 8 sf), (kAI vSm cI 8 sm), (kX1 aFl vFl xn), (kAI vFl cI 32 ff), (kX3 gL (g_11 0) (g_11 1) (g_11 2) (g_11 3)), (kX3 gR (g_11 4) (g_11 5) (g_11 6) (g_11 7)), (kX7 aPa vPa l7 a7 n7), (kAI vPa cI 39 f7), (kX2 aGe vGe l2 a2 n2), (kAI vGe cI 23 f2)]) (wt := [(kX11 hx aLa aPa aGe aFl aTr aBe aLu aLo vSf vSm vCo vSh xs xl xf), (kAI vSf cI 8 sf), (kAI vSm cI 8 sm), (kX1 aFl vFl xn), (kAI vFl cI 32 ff), (kX3 gL (g_11 0) (g_11 1) (g_11 2) (g_11 3)), (kX3 gR (g_11 4) (g_11 5) (g_11 6) (g_11 7)), (kX7 aPa vPa l7 a7 n7), (kAI vPa cI 39 f7), (kX2 aGe vGe l2 a2 n2), (kAI vGe cI 23 f2), (kX10 aTr aLa aPa aGe gL gR (gp_15 0) (gp_15 1) (g_11 8) (g_11 9) (g_11 10) s1 (g_11 12) (g_11 13) yleaz1 (g_64 0) (g_64 1) (g_64 2)), (kX4 aLa vLa l4 a4 n4), (kAI vLa cI 24 f4)]) hP hD hC [0, 1, 2, 3, 4, 6, 7, 10, 11, 12, 13] rfl (by decide +kernel) (by decide +kernel) hk1 hFc hP1 hD1 rfl
              clear hP hD hPc hDc hFc hC hP1 hD1 hK1 hz1 hk1 hvm ht
              obtain ⟨hP, hD⟩ := hJ
              generalize H1 = H at hP hS ⊢
              try dsimp only at hw
              obtain ⟨c_69, c_70, c_71, c_72⟩ := hw
              refine lv_istore (lv' := [(8, .int r_63), (7, .int (kIt xn ff y_4 0)), (6, .int y_4), (5, .int iz1), (0, .ref hx), (1, .int p1), (2, .int s1), (3, .int f1), (4, .int h1)]) hx₀ hb dX11_agreesWithSeen_132 hl (by decide) rfl (fun ls hl => ?_)
              refine lv_iload hx₀ hb dX11_agreesWithSeen_134 (lv_at hl 0 rfl) ?_
              refine lv_aload_n hx₀ hb dX11_agreesWithSeen_136 rfl (lv_at hl 4 rfl) ?_
              refine va_get (D := (dC, dI)) (ci := 10) (v := .ref vSm) (C := RX11) (T := TX11) (N := 15) hx₀ hb hts inlX11 hown hK hP 0 rfl rfl 9 (by decide) (hts (.fieldLink RX11 71 "BittenStick" "seenMiles" "[I") wd_46) (fun _ h9 => h9) rfl dX11_agreesWithSeen_137 ?_
              refine lv_iload hx₀ hb dX11_agreesWithSeen_140 (lv_at hl 3 rfl) ?_
              refine va_iald hx₀ hb hK hP 2 0 rfl rfl (vp_in_iff.mpr (lf_j_agreesWithSeen_1 iz1 xs jz1 hiz1_0 hjz1 c_2 c_3)) dX11_agreesWithSeen_142 ?_
              refine lv_topi (fun y_73 ey_73 => ?_)
              refine lv_icmp_eq (tgt := 148) hx₀ hb dX11_agreesWithSeen_143 (by decide) (fun c_74 => ?_) (fun c_74 => ?_)
              · refine lv_iinc (v := iz1 + 1) (lv' := [(5, .int (iz1 + 1)), (8, .int r_63), (7, .int (kIt xn ff y_4 0)), (6, .int y_4), (0, .ref hx), (1, .int p1), (2, .int s1), (3, .int f1), (4, .int h1)]) hx₀ hb dX11_agreesWithSeen_148 hl (k := 3) rfl rfl (by decide) rfl (fun ls hl => ?_)
                refine lv_goto (tgt := 14) hx₀ hb dX11_agreesWithSeen_151 (by decide) ?_
                exact ihz1 _ (lf_j_agreesWithSeen_3 iz1 xs jz1 hiz1_0 hjz1 c_2 c_3) (iz1 + 1) (g_11 8) (g_11 9) (g_11 10) s1 (g_11 12) (g_11 13) yleaz1 (g_64 0) (g_64 1) (g_64 2) (gp_15 0) (gp_15 1) (g_11 0) (g_11 1) (g_11 2) (g_11 3) (g_11 4) (g_11 5) (g_11 6) (g_11 7) _ _ _ (lf_j_agreesWithSeen_2 iz1 xs jz1 hiz1_0 hjz1 c_2 c_3) rfl (hP.sub [0, 11, 5, 6, 12, 13, 7, 8, 9, 10, 3, 4, 1, 2] rfl) (hD.sub [0, 11, 5, 6, 12, 13, 7, 8, 9, 10, 3, 4, 1, 2] (by decide +kernel) rfl) hS (lv_sub hl [0, 4, 5, 6, 7, 8] rfl)
              · refine lv_iconst (v := 0) hx₀ hb dX11_agreesWithSeen_146 (by decide +kernel) ?_
                obtain ⟨hP9, hD9⟩ := k_c2 (wc := [(kX11 hx aLa aPa aGe aFl aTr aBe aLu aLo vSf vSm vCo vSh xs xl xf), (kX10 aTr aLa aPa aGe gL gR (gp_15 0) (gp_15 1) (g_11 8) (g_11 9) (g_11 10) s1 (g_11 12) (g_11 13) yleaz1 (g_64 0) (g_64 1) (g_64 2)), (kX3 gL (g_11 0) (g_11 1) (g_11 2) (g_11 3)), (kX3 gR (g_11 4) (g_11 5) (g_11 6) (g_11 7)), (kX4 aLa vLa l4 a4 n4), (kAI vLa cI 24 f4), (kX7 aPa vPa l7 a7 n7), (kAI vPa cI 39 f7), (kX2 aGe vGe l2 a2 n2), (kAI vGe cI 23 f2), (kX1 aFl vFl xn), (kAI vFl cI 32 ff), (kAI vSf cI 8 sf), (kAI vSm cI 8 sm)]) hP hD [0, 11, 5, 6, 12, 13, 7, 8, 9, 10, 3, 4, 1, 2] (by decide +kernel) rfl
                exact W.zret (v := 0) hx₀ hb hr (by decide +kernel) (fun t₀ ht hW => ⟨⟨0, (k_fn [(g_11 0), (g_11 1), (g_11 2), (g_11 3), (g_11 4), (g_11 5), (g_11 6), (g_11 7), (g_11 8), (g_11 9), (g_11 10), s1, (g_11 12), (g_11 13), yleaz1, (g_64 0), (g_64 1), (g_64 2)], k_fa [], k_fl [], k_fL [], k_fp [(gp_15 0), (gp_15 1)]), rfl, (show (0 : Int32) = 0 ∨ (0 : Int32) = 1 from (Or.inl (rfl))), by rw [ht]; exact hP9, va_K.moved hW.alike hK, hD9⟩, hS.F ht⟩) hS.2.2 dX11_agreesWithSeen_147
        rw [if_neg c_6] at hw
        refine k_topi (v := 0) hw ?_
        refine lv_if_ne (tgt := 53) hx₀ hb dX11_agreesWithSeen_48 (by decide) (fun c9 => absurd (by decide +kernel) c9) (fun _ => ?_)
        refine lv_iconst (v := 0) hx₀ hb dX11_agreesWithSeen_51 (by decide +kernel) ?_
        obtain ⟨hP9, hD9⟩ := k_c2 (wc := [(kX11 hx aLa aPa aGe aFl aTr aBe aLu aLo vSf vSm vCo vSh xs xl xf), (kX10 aTr aLa aPa aGe gL gR pz1 qz1 ygoez1 ycarz1 ykinz1 ysorz1 ybeaz1 yweiz1 yleaz1 yangz1 ycolz1 yendz1), (kX3 gL w0z1 w1z1 w2z1 w3z1), (kX3 gR z0z1 z1z1 z2z1 z3z1), (kX4 aLa vLa l4 a4 n4), (kAI vLa cI 24 f4), (kX7 aPa vPa l7 a7 n7), (kAI vPa cI 39 f7), (kX2 aGe vGe l2 a2 n2), (kAI vGe cI 23 f2), (kX1 aFl vFl xn), (kAI vFl cI 32 ff), (kAI vSf cI 8 sf), (kAI vSm cI 8 sm)]) hP hD [0, 1, 2, 3, 4, 5, 6, 7, 8, 9, 13, 10, 11, 12] (by decide +kernel) rfl
        exact W.zret (v := 0) hx₀ hb hr (by decide +kernel) (fun t₀ ht hW => ⟨⟨0, (k_fn [w0z1, w1z1, w2z1, w3z1, z0z1, z1z1, z2z1, z3z1, ygoez1, ycarz1, ykinz1, ysorz1, ybeaz1, yweiz1, yleaz1, yangz1, ycolz1, yendz1], k_fa [], k_fl [], k_fL [], k_fp [pz1, qz1]), rfl, (show (0 : Int32) = 0 ∨ (0 : Int32) = 1 from (Or.inl (rfl))), by rw [ht]; exact hP9, va_K.moved hW.alike hK, hD9⟩, hS.F ht⟩) hS.2.2 dX11_agreesWithSeen_52
theorem lf_j_sores_1 (a0 : Int32) (a1 : Nat) (h0 : 0 ≤ a0 ∧ a0 ≤ 6) (h1 : (6 - a0.toInt).toNat = a1) (h2 : ¬ 6 ≤ a0) : 0 ≤ (a0 + 1) ∧ (a0 + 1) ≤ 6 := by
  first | (first | omega | (have hr0 := Int32.toInt_lt a0; have hs0 := Int32.le_toInt a0; simp only [Int64.toInt_add, Int64.toInt_sub, Int32.toInt_add, Int32.toInt_sub, Int32.toInt_mul, Int64.le_iff_toInt_le, Int64.lt_iff_toInt_lt, Int32.le_iff_toInt_le, Int32.lt_iff_toInt_lt, ← Int32.toInt_inj, ← Int64.toInt_inj, Int32.toInt_toInt64, kc_0, kc_1, kc_6, true_and, and_true, not_true_eq_false, not_false_eq_true] at * <;> ((first | omega | ((try simp (disch := omega) only [k_bm64] at *); (try simp (disch := omega) only [k_bm] at *); (try simp (disch := omega) only [k_bm] at *); omega) | (simp only [Int.bmod] at *; omega))))) | with_reducible assumption | rfl
theorem lf_j_sores_2 (a0 : Int32) (a1 : Nat) (h0 : 0 ≤ a0 ∧ a0 ≤ 6) (h1 : (6 - a0.toInt).toNat = a1) (h2 : ¬ 6 ≤ a0) : (6 - (a0 + 1).toInt).toNat < a1 := by
  first | (first | omega | (have hr0 := Int32.toInt_lt a0; have hs0 := Int32.le_toInt a0; simp only [Int64.toInt_add, Int64.toInt_sub, Int32.toInt_add, Int32.toInt_sub, Int32.toInt_mul, Int64.le_iff_toInt_le, Int64.lt_iff_toInt_lt, Int32.le_iff_toInt_le, Int32.lt_iff_toInt_lt, ← Int32.toInt_inj, ← Int64.toInt_inj, Int32.toInt_toInt64, kc_0, kc_1, kc_6, true_and, and_true, not_true_eq_false, not_false_eq_true] at * <;> ((first | omega | ((try simp (disch := omega) only [k_bm64] at *); (try simp (disch := omega) only [k_bm] at *); (try simp (disch := omega) only [k_bm] at *); omega) | (simp only [Int.bmod] at *; omega))))) | with_reducible assumption | rfl
set_option maxHeartbeats 4000000 in
set_option maxRecDepth 100000 in
theorem j_sores (l : Launch) (dC : Nat → ClassId) (dI : Nat → Nat → Nat) (cI cJ cQ : ClassId) (sz : Nat) (hx : Nat) (p1 : Int32) (aLa : Nat) (aPa : Nat) (aGe : Nat) (aFl : Nat) (aTr : Nat) (aBe : Nat) (aLu : Nat) (aLo : Nat) (vSf : Nat) (vSm : Nat) (vCo : Nat) (vSh : Nat) (xs : Int32) (xl : Int32) (xf : Int32) (gL : Nat) (gR : Nat) (lf : Nat) (rt : Nat) (tgo : Int32) (tca : Int32) (tki : Int32) (tso : Int32) (tbe : Int32) (twe : Int32) (tle : Int32) (tan : Int32) (tco : Int32) (ten : Int32) (u0 : Int32) (u1 : Int32) (u2 : Int32) (u3 : Int32) (v0 : Int32) (v1 : Int32) (v2 : Int32) (v3 : Int32) (vLa : Nat) (l4 : Int32) (a4 : Int32) (n4 : Int32) (f4 : Nat → Int32) (vPa : Nat) (l7 : Int32) (a7 : Int32) (n7 : Int32) (f7 : Nat → Int32) (vGe : Nat) (l2 : Int32) (a2 : Int32) (n2 : Int32) (f2 : Nat → Int32) (vFl : Nat) (xn : Int32) (ff : Nat → Int32) (sf : Nat → Int32) (sm : Nat → Int32) (hh0 : 0 ≤ n4 ∧ n4 ≤ 24) (hh1 : 0 ≤ xn ∧ xn ≤ 8) : Met l yX11_sores (kW yX11_sores cX11_sores 4 (some .int)) { frames := 4, cells := 0, slots := 0, locals := 98 } (kPre dC dI cI cJ cQ sz [.ref hx, .int p1] [(kX11 hx aLa aPa aGe aFl aTr aBe aLu aLo vSf vSm vCo vSh xs xl xf), (kX10 aTr aLa aPa aGe gL gR lf rt tgo tca tki tso tbe twe tle tan tco ten), (kX3 gL u0 u1 u2 u3), (kX3 gR v0 v1 v2 v3), (kX4 aLa vLa l4 a4 n4), (kAI vLa cI 24 f4), (kX7 aPa vPa l7 a7 n7), (kAI vPa cI 39 f7), (kX2 aGe vGe l2 a2 n2), (kAI vGe cI 23 f2), (kX1 aFl vFl xn), (kAI vFl cI 32 ff), (kAI vSf cI 8 sf), (kAI vSm cI 8 sm)]) (va_Qi (fun (r : Int32) (u : kS) => True) (fun (u : kS) t₀ => kB dC dI cI cJ cQ (va_A [(kX11 hx aLa aPa aGe aFl aTr aBe aLu aLo vSf vSm vCo vSh xs xl xf), (kX10 aTr aLa aPa aGe gL gR lf rt tgo tca tki tso tbe twe tle tan tco ten), (kX3 gL u0 u1 u2 u3), (kX3 gR v0 v1 v2 v3), (kX4 aLa vLa l4 a4 n4), (kAI vLa cI 24 f4), (kX7 aPa vPa l7 a7 n7), (kAI vPa cI 39 f7), (kX2 aGe vGe l2 a2 n2), (kAI vGe cI 23 f2), (kX1 aFl vFl xn), (kAI vFl cI 32 ff), (kAI vSf cI 8 sf), (kAI vSm cI 8 sm)] sz) [(kX11 hx aLa aPa aGe aFl aTr aBe aLu aLo vSf vSm vCo vSh xs xl xf), (kX10 aTr aLa aPa aGe gL gR (u.2.2.2.2 0) (u.2.2.2.2 1) (u.1 8) (u.1 9) (u.1 10) (u.1 11) (u.1 12) (u.1 13) (u.1 14) (u.1 15) (u.1 16) (u.1 17)), (kX3 gL (u.1 0) (u.1 1) (u.1 2) (u.1 3)), (kX3 gR (u.1 4) (u.1 5) (u.1 6) (u.1 7)), (kX4 aLa vLa l4 a4 n4), (kAI vLa cI 24 f4), (kX7 aPa vPa l7 a7 n7), (kAI vPa cI 39 f7), (kX2 aGe vGe l2 a2 n2), (kAI vGe cI 23 f2), (kX1 aFl vFl xn), (kAI vFl cI 32 ff), (kAI vSf cI 8 sf), (kAI vSm cI 8 sm)] t₀) (va_A [(kX11 hx aLa aPa aGe aFl aTr aBe aLu aLo vSf vSm vCo vSh xs xl xf), (kX10 aTr aLa aPa aGe gL gR lf rt tgo tca tki tso tbe twe tle tan tco ten), (kX3 gL u0 u1 u2 u3), (kX3 gR v0 v1 v2 v3), (kX4 aLa vLa l4 a4 n4), (kAI vLa cI 24 f4), (kX7 aPa vPa l7 a7 n7), (kAI vPa cI 39 f7), (kX2 aGe vGe l2 a2 n2), (kAI vGe cI 23 f2), (kX1 aFl vFl xn), (kAI vFl cI 32 ff), (kAI vSf cI 8 sf), (kAI vSm cI 8 sm)] sz)) 0 0 (va_A [(kX11 hx aLa aPa aGe aFl aTr aBe aLu aLo vSf vSm vCo vSh xs xl xf), (kX10 aTr aLa aPa aGe gL gR lf rt tgo tca tki tso tbe twe tle tan tco ten), (kX3 gL u0 u1 u2 u3), (kX3 gR v0 v1 v2 v3), (kX4 aLa vLa l4 a4 n4), (kAI vLa cI 24 f4), (kX7 aPa vPa l7 a7 n7), (kAI vPa cI 39 f7), (kX2 aGe vGe l2 a2 n2), (kAI vGe cI 23 f2), (kX1 aFl vFl xn), (kAI vFl cI 32 ff), (kAI vSf cI 8 sf), (kAI vSm cI 8 sm)] sz) := by
  refine Met.ofW (cc := cX11_sores) (maxL := 4) (ret := (some .int)) (by decide) rfl ?_
  intro p₀ e₀ s₀ m₀ args below meth c₀ s₁ B hml hv₀
  obtain ⟨rfl, hsz, hP, hK, hD0, hN⟩ := hv₀
  have hx₀ := B.exec
  have hb := B.bytes
  have hr := B.returns
  have hts := atoms_spec (ws := (kW yX11_sores cX11_sores 4 (some .int))) B.pre
  have hts := fun w h => hts w (List.mem_cons_of_mem _ h)
  have hown : s₀.vm.findClass RX11 = some m₀.cls := findClass_of_methodNamed B.named
  have hlocks := B.notSynchronized
  subst hsz
  have hD := hD0.self (sz := s₀.heap.size)
  generalize hAe : va_A [(kX11 hx aLa aPa aGe aFl aTr aBe aLu aLo vSf vSm vCo vSh xs xl xf), (kX10 aTr aLa aPa aGe gL gR lf rt tgo tca tki tso tbe twe tle tan tco ten), (kX3 gL u0 u1 u2 u3), (kX3 gR v0 v1 v2 v3), (kX4 aLa vLa l4 a4 n4), (kAI vLa cI 24 f4), (kX7 aPa vPa l7 a7 n7), (kAI vPa cI 39 f7), (kX2 aGe vGe l2 a2 n2), (kAI vGe cI 23 f2), (kX1 aFl vFl xn), (kAI vFl cI 32 ff), (kAI vSf cI 8 sf), (kAI vSm cI 8 sm)] s₀.heap.size = A at hD ⊢
  have hA : ∀ q : Nat, s₀.heap.size ≤ q → A q := fun q h => by rw [← hAe]; exact Or.inr h
  have hS : va_S A s₀.heap s₀.heap [] := va_S.rf
  have hP : va_P (dC, dI) vwCl [(kX11 hx aLa aPa aGe aFl aTr aBe aLu aLo vSf vSm vCo vSh xs xl xf), (kX10 aTr aLa aPa aGe gL gR lf rt tgo tca tki tso tbe twe tle tan tco ten), (kX3 gL u0 u1 u2 u3), (kX3 gR v0 v1 v2 v3), (kX4 aLa vLa l4 a4 n4), (kAI vLa cI 24 f4), (kX7 aPa vPa l7 a7 n7), (kAI vPa cI 39 f7), (kX2 aGe vGe l2 a2 n2), (kAI vGe cI 23 f2), (kX1 aFl vFl xn), (kAI vFl cI 32 ff), (kAI vSf cI 8 sf), (kAI vSm cI 8 sm)] s₀.heap := hP
  have hl := lv_entry ([.ref hx, .int p1]) (n := 4) (Nat.le_of_ble_eq_true rfl)
  rw [lg_entry_eq]
  generalize (lg_sl ([.ref hx, .int p1]) ++ List.replicate (4 - (lg_sl ([.ref hx, .int p1])).length) Slot.unset).toArray = ls at hl ⊢
  have hl : lv_has ls 4 [(0, .ref hx), (1, .int p1)] := hl
  obtain ⟨H, hH⟩ : ∃ z : Heap, z = s₀.heap := ⟨_, rfl⟩
  rw [← hH] at hP
  have hS : va_S A s₀.heap H [] := by rw [hH]; exact hS
  refine k_heap hH ?_
  have hD : va_D A [(kX11 hx aLa aPa aGe aFl aTr aBe aLu aLo vSf vSm vCo vSh xs xl xf), (kX10 aTr aLa aPa aGe gL gR lf rt tgo tca tki tso tbe twe tle tan tco ten), (kX3 gL u0 u1 u2 u3), (kX3 gR v0 v1 v2 v3), (kX4 aLa vLa l4 a4 n4), (kAI vLa cI 24 f4), (kX7 aPa vPa l7 a7 n7), (kAI vPa cI 39 f7), (kX2 aGe vGe l2 a2 n2), (kAI vGe cI 23 f2), (kX1 aFl vFl xn), (kAI vFl cI 32 ff), (kAI vSf cI 8 sf), (kAI vSm cI 8 sm)] := hD
  obtain ⟨locs, hlo⟩ : ∃ z : List Loc, z = [] := ⟨_, rfl⟩
  rw [← hlo] at hS ⊢
  clear hlo hH hAe hD0
  refine lv_aload_n hx₀ hb dX11_sores_0 rfl (lv_at hl 0 rfl) ?_
  refine va_get (D := (dC, dI)) (ci := 10) (v := .ref aPa) (C := RX11) (T := TX11) (N := 15) hx₀ hb hts inlX11 hown hK hP 0 rfl rfl 1 (by decide) (hts (.fieldLink RX11 19 "BittenStick" "passengers" "LBittenStick$Passengers;") wd_19) (fun _ h9 => h9) rfl dX11_sores_1 ?_
  refine lv_iload_n hx₀ hb dX11_sores_4 rfl (lv_at hl 1 rfl) ?_
  obtain ⟨hPc, hDc, hFc, hC⟩ := k_cw (wc := [(kX7 aPa vPa l7 a7 n7)]) hP hD hS hA [6] (by decide +kernel) rfl
  refine va_calli (va_runU (As := [.int p1]) (rest := []) ⟨hx₀, hb, hml, hown, hts⟩ (j_has_X7 l dC dI cI cJ cQ H.size aPa p1 vPa l7 a7 n7) (va_cwU 1 hts (kGU wd_307 wd_303 wd_304 wd_305 wd_306 wd_57) rfl rfl rfl rfl (by decide +kernel) ⟨Nat.le_of_ble_eq_true rfl, Nat.le_of_ble_eq_true rfl⟩) (k_preV7 (q0 := 0) hK hPc hDc hN rfl) rfl rfl hl.1 rfl (lv_room (Nat.le_of_ble_eq_true rfl)) dX11_sores_5 ⟨by decide +kernel, by decide +kernel⟩) hS (fun q _ h => hFc q h) hFc (fun r_1 u₀ t₀ H1 locs ht hvm hw hB hz1 hk1 hS => ?_)
  obtain ⟨hP1, hK1, hD1⟩ := hB
  rw [ht] at hP1
  have hJ := k_jn (wr := [(kX11 hx aLa aPa aGe aFl aTr aBe aLu aLo vSf vSm vCo vSh xs xl xf), (kX10 aTr aLa aPa aGe gL gR lf rt tgo tca tki tso tbe twe tle tan tco ten), (kX3 gL u0 u1 u2 u3), (kX3 gR v0 v1 v2 v3), (kX4 aLa vLa l4 a4 n4), (kAI vLa cI 24 f4), (kAI vPa cI 39 f7), (kX2 aGe vGe l2 a2 n2), (kAI vGe cI 23 f2), (kX1 aFl vFl xn), (kAI vFl cI 32 ff), (kAI vSf cI 8 sf), (kAI vSm cI 8 sm)]) (wt := [(kX11 hx aLa aPa aGe aFl aTr aBe aLu aLo vSf vSm vCo vSh xs xl xf), (kX10 aTr aLa aPa aGe gL gR lf rt tgo tca tki tso tbe twe tle tan tco ten), (kX3 gL u0 u1 u2 u3), (kX3 gR v0 v1 v2 v3), (kX4 aLa vLa l4 a4 n4), (kAI vLa cI 24 f4), (kAI vPa cI 39 f7), (kX2 aGe vGe l2 a2 n2), (kAI vGe cI 23 f2), (kX1 aFl vFl xn), (kAI vFl cI 32 ff), (kAI vSf cI 8 sf), (kAI vSm cI 8 sm), (kX7 aPa vPa l7 a7 n7)]) hP hD hC [0, 1, 2, 3, 4, 5, 7, 8, 9, 10, 11, 12, 13] rfl (by decide +kernel) (by decide +kernel) hk1 hFc hP1 hD1 rfl
  clear hP hD hPc hDc hFc hC hP1 hD1 hK1 hz1 hk1 hvm ht
  obtain ⟨hP, hD⟩ := hJ
  generalize H1 = H at hP hS ⊢
  try dsimp only at hw
  by_cases c_2 : 0 ≤ p1 ∧ p1 < n7
  · rw [if_pos c_2] at hw
    refine k_topi (v := 1) hw ?_
    refine lv_if_ne (tgt := 14) hx₀ hb dX11_sores_8 (by decide) (fun _ => ?_) (fun c9 => absurd c9 (by decide +kernel))
    refine lv_iconst (v := 0) hx₀ hb dX11_sores_14 (by decide +kernel) ?_
    refine lv_istore_n (lv' := [(2, .int 0), (0, .ref hx), (1, .int p1)]) hx₀ hb dX11_sores_15 rfl hl (by decide) rfl (fun ls hl => ?_)
    refine lv_iconst (v := 0) hx₀ hb dX11_sores_16 (by decide +kernel) ?_
    refine lv_istore_n (lv' := [(3, .int 0), (2, .int 0), (0, .ref hx), (1, .int p1)]) hx₀ hb dX11_sores_17 rfl hl (by decide) rfl (fun ls hl => ?_)
    refine (?keyz3 : ∀ (jz3 : Nat) (biz3 : Int32) (clz3 : Int32) (ygoez3 : Int32) (ycarz3 : Int32) (ykinz3 : Int32) (ysorz3 : Int32) (ybeaz3 : Int32) (yweiz3 : Int32) (yleaz3 : Int32) (yangz3 : Int32) (ycolz3 : Int32) (yendz3 : Int32) (pz3 : Nat) (qz3 : Nat) (w0z3 : Int32) (w1z3 : Int32) (w2z3 : Int32) (w3z3 : Int32) (z0z3 : Int32) (z1z3 : Int32) (z2z3 : Int32) (z3z3 : Int32) (H : Heap) (locs : List Loc) (ls : Array Slot), (0 ≤ clz3 ∧ clz3 ≤ 6) → ((6 - clz3.toInt).toNat = jz3) → va_P (dC, dI) vwCl [(kX11 hx aLa aPa aGe aFl aTr aBe aLu aLo vSf vSm vCo vSh xs xl xf), (kX10 aTr aLa aPa aGe gL gR pz3 qz3 ygoez3 ycarz3 ykinz3 ysorz3 ybeaz3 yweiz3 yleaz3 yangz3 ycolz3 yendz3), (kX3 gL w0z3 w1z3 w2z3 w3z3), (kX3 gR z0z3 z1z3 z2z3 z3z3), (kX4 aLa vLa l4 a4 n4), (kAI vLa cI 24 f4), (kAI vPa cI 39 f7), (kX2 aGe vGe l2 a2 n2), (kAI vGe cI 23 f2), (kX1 aFl vFl xn), (kAI vFl cI 32 ff), (kAI vSf cI 8 sf), (kAI vSm cI 8 sm), (kX7 aPa vPa l7 a7 n7)] H → va_D A [(kX11 hx aLa aPa aGe aFl aTr aBe aLu aLo vSf vSm vCo vSh xs xl xf), (kX10 aTr aLa aPa aGe gL gR pz3 qz3 ygoez3 ycarz3 ykinz3 ysorz3 ybeaz3 yweiz3 yleaz3 yangz3 ycolz3 yendz3), (kX3 gL w0z3 w1z3 w2z3 w3z3), (kX3 gR z0z3 z1z3 z2z3 z3z3), (kX4 aLa vLa l4 a4 n4), (kAI vLa cI 24 f4), (kAI vPa cI 39 f7), (kX2 aGe vGe l2 a2 n2), (kAI vGe cI 23 f2), (kX1 aFl vFl xn), (kAI vFl cI 32 ff), (kAI vSf cI 8 sf), (kAI vSm cI 8 sm), (kX7 aPa vPa l7 a7 n7)] → va_S A s₀.heap H locs → lv_has ls 4 [(3, .int clz3), (2, .int biz3), (0, .ref hx), (1, .int p1)] → W p₀ l e₀ _ s₀ m₀ _ below meth c₀ H locs _ _ _ (F0 m₀ 18 ls [])) _ (0 : Int32) (0 : Int32) tgo tca tki tso tbe twe tle tan tco ten lf rt u0 u1 u2 u3 v0 v1 v2 v3 H locs ls (show 0 ≤ (0 : Int32) ∧ (0 : Int32) ≤ 6 from ⟨(by decide), (by decide)⟩) rfl hP hD hS hl
    clear hP hD hS hl
    intro jz3
    induction jz3 using Nat.strongRecOn with
    | ind jz3 ihz3 =>
      intro biz3 clz3 ygoez3 ycarz3 ykinz3 ysorz3 ybeaz3 yweiz3 yleaz3 yangz3 ycolz3 yendz3 pz3 qz3 w0z3 w1z3 w2z3 w3z3 z0z3 z1z3 z2z3 z3z3 H locs ls hiz3_0 hjz3 hP hD hS hl
      refine lv_iload_n hx₀ hb dX11_sores_18 rfl (lv_at hl 0 rfl) ?_
      refine lv_bipush (v := 6) hx₀ hb dX11_sores_19 (by decide +kernel) ?_
      refine lv_icmp_ge (tgt := 47) hx₀ hb dX11_sores_21 (by decide) (fun c_4 => ?_) (fun c_4 => ?_)
      · refine lv_iload_n hx₀ hb dX11_sores_47 rfl (lv_at hl 1 rfl) ?_
        obtain ⟨hP9, hD9⟩ := k_c2 (wc := [(kX11 hx aLa aPa aGe aFl aTr aBe aLu aLo vSf vSm vCo vSh xs xl xf), (kX10 aTr aLa aPa aGe gL gR pz3 qz3 ygoez3 ycarz3 ykinz3 ysorz3 ybeaz3 yweiz3 yleaz3 yangz3 ycolz3 yendz3), (kX3 gL w0z3 w1z3 w2z3 w3z3), (kX3 gR z0z3 z1z3 z2z3 z3z3), (kX4 aLa vLa l4 a4 n4), (kAI vLa cI 24 f4), (kX7 aPa vPa l7 a7 n7), (kAI vPa cI 39 f7), (kX2 aGe vGe l2 a2 n2), (kAI vGe cI 23 f2), (kX1 aFl vFl xn), (kAI vFl cI 32 ff), (kAI vSf cI 8 sf), (kAI vSm cI 8 sm)]) hP hD [0, 1, 2, 3, 4, 5, 13, 6, 7, 8, 9, 10, 11, 12] (by decide +kernel) rfl
        exact W.iret (v := biz3) hx₀ hb hr (fun t₀ ht hW => ⟨⟨biz3, (k_fn [w0z3, w1z3, w2z3, w3z3, z0z3, z1z3, z2z3, z3z3, ygoez3, ycarz3, ykinz3, ysorz3, ybeaz3, yweiz3, yleaz3, yangz3, ycolz3, yendz3], k_fa [], k_fl [], k_fL [], k_fp [pz3, qz3]), rfl, trivial, by rw [ht]; exact hP9, va_K.moved hW.alike hK, hD9⟩, hS.F ht⟩) hS.2.2 dX11_sores_48
      · refine lv_aload_n hx₀ hb dX11_sores_24 rfl (lv_at hl 2 rfl) ?_
        refine lv_iload_n hx₀ hb dX11_sores_25 rfl (lv_at hl 3 rfl) ?_
        refine lv_iload_n hx₀ hb dX11_sores_26 rfl (lv_at hl 0 rfl) ?_
        refine lv_iconst (v := (-1)) hx₀ hb dX11_sores_27 (by decide +kernel) ?_
        refine lv_iconst (v := (-1)) hx₀ hb dX11_sores_28 (by decide +kernel) ?_
        obtain ⟨hPc, hDc, hFc, hC⟩ := k_cw (wc := [(kX11 hx aLa aPa aGe aFl aTr aBe aLu aLo vSf vSm vCo vSh xs xl xf), (kX10 aTr aLa aPa aGe gL gR pz3 qz3 ygoez3 ycarz3 ykinz3 ysorz3 ybeaz3 yweiz3 yleaz3 yangz3 ycolz3 yendz3), (kX3 gL w0z3 w1z3 w2z3 w3z3), (kX3 gR z0z3 z1z3 z2z3 z3z3), (kX4 aLa vLa l4 a4 n4), (kAI vLa cI 24 f4), (kX7 aPa vPa l7 a7 n7), (kAI vPa cI 39 f7), (kX2 aGe vGe l2 a2 n2), (kAI vGe cI 23 f2), (kX1 aFl vFl xn), (kAI vFl cI 32 ff), (kAI vSf cI 8 sf), (kAI vSm cI 8 sm)]) hP hD hS hA [0, 1, 2, 3, 4, 5, 13, 6, 7, 8, 9, 10, 11, 12] (by decide +kernel) rfl
        refine va_calli (va_runV (As := [.int p1, .int clz3, .int (-1), .int (-1)]) (rest := []) ⟨hx₀, hb, hml, hown, hts⟩ (j_agreesWithSeen l dC dI cI cJ cQ H.size hx p1 clz3 (-1) (-1) aLa aPa aGe aFl aTr aBe aLu aLo vSf vSm vCo vSh xs xl xf gL gR pz3 qz3 ygoez3 ycarz3 ykinz3 ysorz3 ybeaz3 yweiz3 yleaz3 yangz3 ycolz3 yendz3 w0z3 w1z3 w2z3 w3z3 z0z3 z1z3 z2z3 z3z3 vLa l4 a4 n4 f4 vPa l7 a7 n7 f7 vGe l2 a2 n2 f2 vFl xn ff sf sm (hh0) (hh1)) (cwV 4 hts (kGV wd_712 wd_709 wd_710 wd_711 wd_2) rfl rfl rfl (by decide +kernel) ⟨Nat.le_of_ble_eq_true rfl, Nat.le_of_ble_eq_true rfl⟩) (k_preV10 (q0 := 0) hK hPc hDc hN rfl) rfl rfl hl.1 rfl (lv_room (Nat.le_of_ble_eq_true rfl)) dX11_sores_29 ⟨by decide +kernel, by decide +kernel⟩) hS (fun q _ h => hFc q h) hFc (fun r_5 u₀ t₀ H1 locs ht hvm hw hB hz1 hk1 hS => ?_)
        obtain ⟨g_6, ga_7, gl_8, gb_9, gp_10⟩ := u₀
        obtain ⟨hP1, hK1, hD1⟩ := hB
        rw [ht] at hP1
        have hJ := k_jn (wr := []) (wt := [(kX11 hx aLa aPa aGe aFl aTr aBe aLu aLo vSf vSm vCo vSh xs xl xf), (kX10 aTr aLa aPa aGe gL gR (gp_10 0) (gp_10 1) (g_6 8) (g_6 9) (g_6 10) (g_6 11) (g_6 12) (g_6 13) (g_6 14) (g_6 15) (g_6 16) (g_6 17)), (kX3 gL (g_6 0) (g_6 1) (g_6 2) (g_6 3)), (kX3 gR (g_6 4) (g_6 5) (g_6 6) (g_6 7)), (kX4 aLa vLa l4 a4 n4), (kAI vLa cI 24 f4), (kX7 aPa vPa l7 a7 n7), (kAI vPa cI 39 f7), (kX2 aGe vGe l2 a2 n2), (kAI vGe cI 23 f2), (kX1 aFl vFl xn), (kAI vFl cI 32 ff), (kAI vSf cI 8 sf), (kAI vSm cI 8 sm)]) hP hD hC [] rfl (by decide +kernel) (by decide +kernel) hk1 hFc hP1 hD1 rfl
        clear hP hD hPc hDc hFc hC hP1 hD1 hK1 hz1 hk1 hvm ht
        obtain ⟨hP, hD⟩ := hJ
        generalize H1 = H at hP hS ⊢
        try dsimp only at hw
        have c_11 := hw
        refine lv_if_eq (tgt := 41) hx₀ hb dX11_sores_32 (by decide) (fun c_12 => ?_) (fun c_12 => ?_)
        · refine lv_iinc (v := clz3 + 1) (lv' := [(3, .int (clz3 + 1)), (2, .int biz3), (0, .ref hx), (1, .int p1)]) hx₀ hb dX11_sores_41 hl (k := 0) rfl rfl (by decide) rfl (fun ls hl => ?_)
          refine lv_goto (tgt := 18) hx₀ hb dX11_sores_44 (by decide) ?_
          exact ihz3 _ (lf_j_sores_2 clz3 jz3 hiz3_0 hjz3 c_4) biz3 (clz3 + 1) (g_6 8) (g_6 9) (g_6 10) (g_6 11) (g_6 12) (g_6 13) (g_6 14) (g_6 15) (g_6 16) (g_6 17) (gp_10 0) (gp_10 1) (g_6 0) (g_6 1) (g_6 2) (g_6 3) (g_6 4) (g_6 5) (g_6 6) (g_6 7) _ _ _ (lf_j_sores_1 clz3 jz3 hiz3_0 hjz3 c_4) rfl (hP.sub [0, 1, 2, 3, 4, 5, 7, 8, 9, 10, 11, 12, 13, 6] rfl) (hD.sub [0, 1, 2, 3, 4, 5, 7, 8, 9, 10, 11, 12, 13, 6] (by decide +kernel) rfl) hS (lv_sub hl [0, 1, 2, 3] rfl)
        · refine lv_iload_n hx₀ hb dX11_sores_35 rfl (lv_at hl 1 rfl) ?_
          refine lv_iconst (v := 1) hx₀ hb dX11_sores_36 (by decide +kernel) ?_
          refine lv_iload_n hx₀ hb dX11_sores_37 rfl (lv_at hl 0 rfl) ?_
          refine lv_ishl hx₀ hb dX11_sores_38 ?_
          refine k_topi (v := kshl clz3) rfl ?_
          refine lv_ior hx₀ hb dX11_sores_39 ?_
          refine lv_istore_n (lv' := [(2, .int (biz3 ||| (kshl clz3))), (3, .int clz3), (0, .ref hx), (1, .int p1)]) hx₀ hb dX11_sores_40 rfl hl (by decide) rfl (fun ls hl => ?_)
          refine lv_iinc (v := clz3 + 1) (lv' := [(3, .int (clz3 + 1)), (2, .int (biz3 ||| (kshl clz3))), (0, .ref hx), (1, .int p1)]) hx₀ hb dX11_sores_41 hl (k := 1) rfl rfl (by decide) rfl (fun ls hl => ?_)
          refine lv_goto (tgt := 18) hx₀ hb dX11_sores_44 (by decide) ?_
          exact ihz3 _ (lf_j_sores_2 clz3 jz3 hiz3_0 hjz3 c_4) (biz3 ||| (kshl clz3)) (clz3 + 1) (g_6 8) (g_6 9) (g_6 10) (g_6 11) (g_6 12) (g_6 13) (g_6 14) (g_6 15) (g_6 16) (g_6 17) (gp_10 0) (gp_10 1) (g_6 0) (g_6 1) (g_6 2) (g_6 3) (g_6 4) (g_6 5) (g_6 6) (g_6 7) _ _ _ (lf_j_sores_1 clz3 jz3 hiz3_0 hjz3 c_4) rfl (hP.sub [0, 1, 2, 3, 4, 5, 7, 8, 9, 10, 11, 12, 13, 6] rfl) (hD.sub [0, 1, 2, 3, 4, 5, 7, 8, 9, 10, 11, 12, 13, 6] (by decide +kernel) rfl) hS (lv_sub hl [0, 1, 2, 3] rfl)
  rw [if_neg c_2] at hw
  refine k_topi (v := 0) hw ?_
  refine lv_if_ne (tgt := 14) hx₀ hb dX11_sores_8 (by decide) (fun c9 => absurd (by decide +kernel) c9) (fun _ => ?_)
  refine lv_bipush (v := (-2)) hx₀ hb dX11_sores_11 (by decide +kernel) ?_
  obtain ⟨hP9, hD9⟩ := k_c2 (wc := [(kX11 hx aLa aPa aGe aFl aTr aBe aLu aLo vSf vSm vCo vSh xs xl xf), (kX10 aTr aLa aPa aGe gL gR lf rt tgo tca tki tso tbe twe tle tan tco ten), (kX3 gL u0 u1 u2 u3), (kX3 gR v0 v1 v2 v3), (kX4 aLa vLa l4 a4 n4), (kAI vLa cI 24 f4), (kX7 aPa vPa l7 a7 n7), (kAI vPa cI 39 f7), (kX2 aGe vGe l2 a2 n2), (kAI vGe cI 23 f2), (kX1 aFl vFl xn), (kAI vFl cI 32 ff), (kAI vSf cI 8 sf), (kAI vSm cI 8 sm)]) hP hD [0, 1, 2, 3, 4, 5, 13, 6, 7, 8, 9, 10, 11, 12] (by decide +kernel) rfl
  exact W.iret (v := (-2)) hx₀ hb hr (fun t₀ ht hW => ⟨⟨(-2), (k_fn [u0, u1, u2, u3, v0, v1, v2, v3, tgo, tca, tki, tso, tbe, twe, tle, tan, tco, ten], k_fa [], k_fl [], k_fL [], k_fp [lf, rt]), rfl, trivial, by rw [ht]; exact hP9, va_K.moved hW.alike hK, hD9⟩, hS.F ht⟩) hS.2.2 dX11_sores_13
theorem lf_j_high_1 (a0 : Int32) (a1 : Nat) (h0 : 1 ≤ a0 ∧ a0 ≤ 10) (h1 : (10 - a0.toInt).toNat = a1) (h2 : ¬ 9 < a0) : 1 ≤ (a0 + 1) ∧ (a0 + 1) ≤ 10 := by
  first | (first | omega | (have hr0 := Int32.toInt_lt a0; have hs0 := Int32.le_toInt a0; simp only [Int64.toInt_add, Int64.toInt_sub, Int32.toInt_add, Int32.toInt_sub, Int32.toInt_mul, Int64.le_iff_toInt_le, Int64.lt_iff_toInt_lt, Int32.le_iff_toInt_le, Int32.lt_iff_toInt_lt, ← Int32.toInt_inj, ← Int64.toInt_inj, Int32.toInt_toInt64, kc_1, kc_9, kc_10, true_and, and_true, not_true_eq_false, not_false_eq_true] at * <;> ((first | omega | ((try simp (disch := omega) only [k_bm64] at *); (try simp (disch := omega) only [k_bm] at *); (try simp (disch := omega) only [k_bm] at *); omega) | (simp only [Int.bmod] at *; omega))))) | with_reducible assumption | rfl
theorem lf_j_high_2 (a0 : Int32) (a1 : Nat) (h0 : 1 ≤ a0 ∧ a0 ≤ 10) (h1 : (10 - a0.toInt).toNat = a1) (h2 : ¬ 9 < a0) : (10 - (a0 + 1).toInt).toNat < a1 := by
  first | (first | omega | (have hr0 := Int32.toInt_lt a0; have hs0 := Int32.le_toInt a0; simp only [Int64.toInt_add, Int64.toInt_sub, Int32.toInt_add, Int32.toInt_sub, Int32.toInt_mul, Int64.le_iff_toInt_le, Int64.lt_iff_toInt_lt, Int32.le_iff_toInt_le, Int32.lt_iff_toInt_lt, ← Int32.toInt_inj, ← Int64.toInt_inj, Int32.toInt_toInt64, kc_1, kc_9, kc_10, true_and, and_true, not_true_eq_false, not_false_eq_true] at * <;> ((first | omega | ((try simp (disch := omega) only [k_bm64] at *); (try simp (disch := omega) only [k_bm] at *); (try simp (disch := omega) only [k_bm] at *); omega) | (simp only [Int.bmod] at *; omega))))) | with_reducible assumption | rfl
set_option maxHeartbeats 4000000 in
set_option maxRecDepth 100000 in
theorem j_high (l : Launch) (dC : Nat → ClassId) (dI : Nat → Nat → Nat) (cI cJ cQ : ClassId) (sz : Nat) (hx : Nat) (f1 : Int32) (aLa : Nat) (aPa : Nat) (aGe : Nat) (aFl : Nat) (aTr : Nat) (aBe : Nat) (aLu : Nat) (aLo : Nat) (vSf : Nat) (vSm : Nat) (vCo : Nat) (vSh : Nat) (xs : Int32) (xl : Int32) (xf : Int32) (gL : Nat) (gR : Nat) (lf : Nat) (rt : Nat) (tgo : Int32) (tca : Int32) (tki : Int32) (tso : Int32) (tbe : Int32) (twe : Int32) (tle : Int32) (tan : Int32) (tco : Int32) (ten : Int32) (u0 : Int32) (u1 : Int32) (u2 : Int32) (u3 : Int32) (v0 : Int32) (v1 : Int32) (v2 : Int32) (v3 : Int32) (vLa : Nat) (l4 : Int32) (a4 : Int32) (n4 : Int32) (f4 : Nat → Int32) (vPa : Nat) (l7 : Int32) (a7 : Int32) (n7 : Int32) (f7 : Nat → Int32) (vGe : Nat) (l2 : Int32) (a2 : Int32) (n2 : Int32) (f2 : Nat → Int32) (vFl : Nat) (xn : Int32) (ff : Nat → Int32) (sf : Nat → Int32) (sm : Nat → Int32) (hh0 : 0 ≤ n4 ∧ n4 ≤ 24) (hh1 : 0 ≤ xn ∧ xn ≤ 8) : Met l yX11_high (kW yX11_high cX11_high 4 (some .int)) { frames := 4, cells := 0, slots := 0, locals := 98 } (kPre dC dI cI cJ cQ sz [.ref hx, .int f1] [(kX11 hx aLa aPa aGe aFl aTr aBe aLu aLo vSf vSm vCo vSh xs xl xf), (kX10 aTr aLa aPa aGe gL gR lf rt tgo tca tki tso tbe twe tle tan tco ten), (kX3 gL u0 u1 u2 u3), (kX3 gR v0 v1 v2 v3), (kX4 aLa vLa l4 a4 n4), (kAI vLa cI 24 f4), (kX7 aPa vPa l7 a7 n7), (kAI vPa cI 39 f7), (kX2 aGe vGe l2 a2 n2), (kAI vGe cI 23 f2), (kX1 aFl vFl xn), (kAI vFl cI 32 ff), (kAI vSf cI 8 sf), (kAI vSm cI 8 sm)]) (va_Qi (fun (r : Int32) (u : kS) => True) (fun (u : kS) t₀ => kB dC dI cI cJ cQ (va_A [(kX11 hx aLa aPa aGe aFl aTr aBe aLu aLo vSf vSm vCo vSh xs xl xf), (kX10 aTr aLa aPa aGe gL gR lf rt tgo tca tki tso tbe twe tle tan tco ten), (kX3 gL u0 u1 u2 u3), (kX3 gR v0 v1 v2 v3), (kX4 aLa vLa l4 a4 n4), (kAI vLa cI 24 f4), (kX7 aPa vPa l7 a7 n7), (kAI vPa cI 39 f7), (kX2 aGe vGe l2 a2 n2), (kAI vGe cI 23 f2), (kX1 aFl vFl xn), (kAI vFl cI 32 ff), (kAI vSf cI 8 sf), (kAI vSm cI 8 sm)] sz) [(kX11 hx aLa aPa aGe aFl aTr aBe aLu aLo vSf vSm vCo vSh xs xl xf), (kX10 aTr aLa aPa aGe gL gR (u.2.2.2.2 0) (u.2.2.2.2 1) (u.1 8) (u.1 9) (u.1 10) (u.1 11) (u.1 12) (u.1 13) (u.1 14) (u.1 15) (u.1 16) (u.1 17)), (kX3 gL (u.1 0) (u.1 1) (u.1 2) (u.1 3)), (kX3 gR (u.1 4) (u.1 5) (u.1 6) (u.1 7)), (kX4 aLa vLa l4 a4 n4), (kAI vLa cI 24 f4), (kX7 aPa vPa l7 a7 n7), (kAI vPa cI 39 f7), (kX2 aGe vGe l2 a2 n2), (kAI vGe cI 23 f2), (kX1 aFl vFl xn), (kAI vFl cI 32 ff), (kAI vSf cI 8 sf), (kAI vSm cI 8 sm)] t₀) (va_A [(kX11 hx aLa aPa aGe aFl aTr aBe aLu aLo vSf vSm vCo vSh xs xl xf), (kX10 aTr aLa aPa aGe gL gR lf rt tgo tca tki tso tbe twe tle tan tco ten), (kX3 gL u0 u1 u2 u3), (kX3 gR v0 v1 v2 v3), (kX4 aLa vLa l4 a4 n4), (kAI vLa cI 24 f4), (kX7 aPa vPa l7 a7 n7), (kAI vPa cI 39 f7), (kX2 aGe vGe l2 a2 n2), (kAI vGe cI 23 f2), (kX1 aFl vFl xn), (kAI vFl cI 32 ff), (kAI vSf cI 8 sf), (kAI vSm cI 8 sm)] sz)) 0 0 (va_A [(kX11 hx aLa aPa aGe aFl aTr aBe aLu aLo vSf vSm vCo vSh xs xl xf), (kX10 aTr aLa aPa aGe gL gR lf rt tgo tca tki tso tbe twe tle tan tco ten), (kX3 gL u0 u1 u2 u3), (kX3 gR v0 v1 v2 v3), (kX4 aLa vLa l4 a4 n4), (kAI vLa cI 24 f4), (kX7 aPa vPa l7 a7 n7), (kAI vPa cI 39 f7), (kX2 aGe vGe l2 a2 n2), (kAI vGe cI 23 f2), (kX1 aFl vFl xn), (kAI vFl cI 32 ff), (kAI vSf cI 8 sf), (kAI vSm cI 8 sm)] sz) := by
  refine Met.ofW (cc := cX11_high) (maxL := 4) (ret := (some .int)) (by decide) rfl ?_
  intro p₀ e₀ s₀ m₀ args below meth c₀ s₁ B hml hv₀
  obtain ⟨rfl, hsz, hP, hK, hD0, hN⟩ := hv₀
  have hx₀ := B.exec
  have hb := B.bytes
  have hr := B.returns
  have hts := atoms_spec (ws := (kW yX11_high cX11_high 4 (some .int))) B.pre
  have hts := fun w h => hts w (List.mem_cons_of_mem _ h)
  have hown : s₀.vm.findClass RX11 = some m₀.cls := findClass_of_methodNamed B.named
  have hlocks := B.notSynchronized
  subst hsz
  have hD := hD0.self (sz := s₀.heap.size)
  generalize hAe : va_A [(kX11 hx aLa aPa aGe aFl aTr aBe aLu aLo vSf vSm vCo vSh xs xl xf), (kX10 aTr aLa aPa aGe gL gR lf rt tgo tca tki tso tbe twe tle tan tco ten), (kX3 gL u0 u1 u2 u3), (kX3 gR v0 v1 v2 v3), (kX4 aLa vLa l4 a4 n4), (kAI vLa cI 24 f4), (kX7 aPa vPa l7 a7 n7), (kAI vPa cI 39 f7), (kX2 aGe vGe l2 a2 n2), (kAI vGe cI 23 f2), (kX1 aFl vFl xn), (kAI vFl cI 32 ff), (kAI vSf cI 8 sf), (kAI vSm cI 8 sm)] s₀.heap.size = A at hD ⊢
  have hA : ∀ q : Nat, s₀.heap.size ≤ q → A q := fun q h => by rw [← hAe]; exact Or.inr h
  have hS : va_S A s₀.heap s₀.heap [] := va_S.rf
  have hP : va_P (dC, dI) vwCl [(kX11 hx aLa aPa aGe aFl aTr aBe aLu aLo vSf vSm vCo vSh xs xl xf), (kX10 aTr aLa aPa aGe gL gR lf rt tgo tca tki tso tbe twe tle tan tco ten), (kX3 gL u0 u1 u2 u3), (kX3 gR v0 v1 v2 v3), (kX4 aLa vLa l4 a4 n4), (kAI vLa cI 24 f4), (kX7 aPa vPa l7 a7 n7), (kAI vPa cI 39 f7), (kX2 aGe vGe l2 a2 n2), (kAI vGe cI 23 f2), (kX1 aFl vFl xn), (kAI vFl cI 32 ff), (kAI vSf cI 8 sf), (kAI vSm cI 8 sm)] s₀.heap := hP
  have hl := lv_entry ([.ref hx, .int f1]) (n := 4) (Nat.le_of_ble_eq_true rfl)
  rw [lg_entry_eq]
  generalize (lg_sl ([.ref hx, .int f1]) ++ List.replicate (4 - (lg_sl ([.ref hx, .int f1])).length) Slot.unset).toArray = ls at hl ⊢
  have hl : lv_has ls 4 [(0, .ref hx), (1, .int f1)] := hl
  obtain ⟨H, hH⟩ : ∃ z : Heap, z = s₀.heap := ⟨_, rfl⟩
  rw [← hH] at hP
  have hS : va_S A s₀.heap H [] := by rw [hH]; exact hS
  refine k_heap hH ?_
  have hD : va_D A [(kX11 hx aLa aPa aGe aFl aTr aBe aLu aLo vSf vSm vCo vSh xs xl xf), (kX10 aTr aLa aPa aGe gL gR lf rt tgo tca tki tso tbe twe tle tan tco ten), (kX3 gL u0 u1 u2 u3), (kX3 gR v0 v1 v2 v3), (kX4 aLa vLa l4 a4 n4), (kAI vLa cI 24 f4), (kX7 aPa vPa l7 a7 n7), (kAI vPa cI 39 f7), (kX2 aGe vGe l2 a2 n2), (kAI vGe cI 23 f2), (kX1 aFl vFl xn), (kAI vFl cI 32 ff), (kAI vSf cI 8 sf), (kAI vSm cI 8 sm)] := hD
  obtain ⟨locs, hlo⟩ : ∃ z : List Loc, z = [] := ⟨_, rfl⟩
  rw [← hlo] at hS ⊢
  clear hlo hH hAe hD0
  refine lv_aload_n hx₀ hb dX11_high_0 rfl (lv_at hl 0 rfl) ?_
  refine va_get (D := (dC, dI)) (ci := 10) (v := .ref aFl) (C := RX11) (T := TX11) (N := 15) hx₀ hb hts inlX11 hown hK hP 0 rfl rfl 3 (by decide) (hts (.fieldLink RX11 33 "BittenStick" "flights" "LBittenStick$Flights;") wd_27) (fun _ h9 => h9) rfl dX11_high_1 ?_
  refine lv_iload_n hx₀ hb dX11_high_4 rfl (lv_at hl 1 rfl) ?_
  obtain ⟨hPc, hDc, hFc, hC⟩ := k_cw (wc := [(kX1 aFl vFl xn)]) hP hD hS hA [10] (by decide +kernel) rfl
  refine va_calli (va_runV (As := [.int f1]) (rest := []) ⟨hx₀, hb, hml, hown, hts⟩ (j_fHas l dC dI cI cJ cQ H.size aFl f1 vFl xn) (cwV 1 hts (kGV wd_426 wd_423 wd_424 wd_425 wd_26) rfl rfl rfl (by decide +kernel) ⟨Nat.le_of_ble_eq_true rfl, Nat.le_of_ble_eq_true rfl⟩) (k_preV1 (q0 := 0) hK hPc hDc hN rfl) rfl rfl hl.1 rfl (lv_room (Nat.le_of_ble_eq_true rfl)) dX11_high_5 ⟨by decide +kernel, by decide +kernel⟩) hS (fun q _ h => hFc q h) hFc (fun r_1 u₀ t₀ H1 locs ht hvm hw hB hz1 hk1 hS => ?_)
  obtain ⟨hP1, hK1, hD1⟩ := hB
  rw [ht] at hP1
  have hJ := k_jn (wr := [(kX11 hx aLa aPa aGe aFl aTr aBe aLu aLo vSf vSm vCo vSh xs xl xf), (kX10 aTr aLa aPa aGe gL gR lf rt tgo tca tki tso tbe twe tle tan tco ten), (kX3 gL u0 u1 u2 u3), (kX3 gR v0 v1 v2 v3), (kX4 aLa vLa l4 a4 n4), (kAI vLa cI 24 f4), (kX7 aPa vPa l7 a7 n7), (kAI vPa cI 39 f7), (kX2 aGe vGe l2 a2 n2), (kAI vGe cI 23 f2), (kAI vFl cI 32 ff), (kAI vSf cI 8 sf), (kAI vSm cI 8 sm)]) (wt := [(kX11 hx aLa aPa aGe aFl aTr aBe aLu aLo vSf vSm vCo vSh xs xl xf), (kX10 aTr aLa aPa aGe gL gR lf rt tgo tca tki tso tbe twe tle tan tco ten), (kX3 gL u0 u1 u2 u3), (kX3 gR v0 v1 v2 v3), (kX4 aLa vLa l4 a4 n4), (kAI vLa cI 24 f4), (kX7 aPa vPa l7 a7 n7), (kAI vPa cI 39 f7), (kX2 aGe vGe l2 a2 n2), (kAI vGe cI 23 f2), (kAI vFl cI 32 ff), (kAI vSf cI 8 sf), (kAI vSm cI 8 sm), (kX1 aFl vFl xn)]) hP hD hC [0, 1, 2, 3, 4, 5, 6, 7, 8, 9, 11, 12, 13] rfl (by decide +kernel) (by decide +kernel) hk1 hFc hP1 hD1 rfl
  clear hP hD hPc hDc hFc hC hP1 hD1 hK1 hz1 hk1 hvm ht
  obtain ⟨hP, hD⟩ := hJ
  generalize H1 = H at hP hS ⊢
  try dsimp only at hw
  by_cases c_2 : 0 ≤ f1 ∧ f1 < xn
  · rw [if_pos c_2] at hw
    refine k_topi (v := 1) hw ?_
    refine lv_if_ne (tgt := 14) hx₀ hb dX11_high_8 (by decide) (fun _ => ?_) (fun c9 => absurd c9 (by decide +kernel))
    refine lv_iconst (v := 0) hx₀ hb dX11_high_14 (by decide +kernel) ?_
    refine lv_istore_n (lv' := [(2, .int 0), (0, .ref hx), (1, .int f1)]) hx₀ hb dX11_high_15 rfl hl (by decide) rfl (fun ls hl => ?_)
    refine lv_iconst (v := 1) hx₀ hb dX11_high_16 (by decide +kernel) ?_
    refine lv_istore_n (lv' := [(3, .int 1), (2, .int 0), (0, .ref hx), (1, .int f1)]) hx₀ hb dX11_high_17 rfl hl (by decide) rfl (fun ls hl => ?_)
    refine (?keyz3 : ∀ (jz3 : Nat) (biz3 : Int32) (egz3 : Int32) (ygoez3 : Int32) (ycarz3 : Int32) (ykinz3 : Int32) (ysorz3 : Int32) (ybeaz3 : Int32) (yweiz3 : Int32) (yleaz3 : Int32) (yangz3 : Int32) (ycolz3 : Int32) (yendz3 : Int32) (pz3 : Nat) (qz3 : Nat) (w0z3 : Int32) (w1z3 : Int32) (w2z3 : Int32) (w3z3 : Int32) (z0z3 : Int32) (z1z3 : Int32) (z2z3 : Int32) (z3z3 : Int32) (H : Heap) (locs : List Loc) (ls : Array Slot), (1 ≤ egz3 ∧ egz3 ≤ 10) → ((10 - egz3.toInt).toNat = jz3) → va_P (dC, dI) vwCl [(kX11 hx aLa aPa aGe aFl aTr aBe aLu aLo vSf vSm vCo vSh xs xl xf), (kX10 aTr aLa aPa aGe gL gR pz3 qz3 ygoez3 ycarz3 ykinz3 ysorz3 ybeaz3 yweiz3 yleaz3 yangz3 ycolz3 yendz3), (kX3 gL w0z3 w1z3 w2z3 w3z3), (kX3 gR z0z3 z1z3 z2z3 z3z3), (kX4 aLa vLa l4 a4 n4), (kAI vLa cI 24 f4), (kX7 aPa vPa l7 a7 n7), (kAI vPa cI 39 f7), (kX2 aGe vGe l2 a2 n2), (kAI vGe cI 23 f2), (kAI vFl cI 32 ff), (kAI vSf cI 8 sf), (kAI vSm cI 8 sm), (kX1 aFl vFl xn)] H → va_D A [(kX11 hx aLa aPa aGe aFl aTr aBe aLu aLo vSf vSm vCo vSh xs xl xf), (kX10 aTr aLa aPa aGe gL gR pz3 qz3 ygoez3 ycarz3 ykinz3 ysorz3 ybeaz3 yweiz3 yleaz3 yangz3 ycolz3 yendz3), (kX3 gL w0z3 w1z3 w2z3 w3z3), (kX3 gR z0z3 z1z3 z2z3 z3z3), (kX4 aLa vLa l4 a4 n4), (kAI vLa cI 24 f4), (kX7 aPa vPa l7 a7 n7), (kAI vPa cI 39 f7), (kX2 aGe vGe l2 a2 n2), (kAI vGe cI 23 f2), (kAI vFl cI 32 ff), (kAI vSf cI 8 sf), (kAI vSm cI 8 sm), (kX1 aFl vFl xn)] → va_S A s₀.heap H locs → lv_has ls 4 [(3, .int egz3), (2, .int biz3), (0, .ref hx), (1, .int f1)] → W p₀ l e₀ _ s₀ m₀ _ below meth c₀ H locs _ _ _ (F0 m₀ 18 ls [])) _ (0 : Int32) (1 : Int32) tgo tca tki tso tbe twe tle tan tco ten lf rt u0 u1 u2 u3 v0 v1 v2 v3 H locs ls (show 1 ≤ (1 : Int32) ∧ (1 : Int32) ≤ 10 from ⟨(by decide), (by decide)⟩) rfl hP hD hS hl
    clear hP hD hS hl
    intro jz3
    induction jz3 using Nat.strongRecOn with
    | ind jz3 ihz3 =>
      intro biz3 egz3 ygoez3 ycarz3 ykinz3 ysorz3 ybeaz3 yweiz3 yleaz3 yangz3 ycolz3 yendz3 pz3 qz3 w0z3 w1z3 w2z3 w3z3 z0z3 z1z3 z2z3 z3z3 H locs ls hiz3_0 hjz3 hP hD hS hl
      refine lv_iload_n hx₀ hb dX11_high_18 rfl (lv_at hl 0 rfl) ?_
      refine lv_bipush (v := 9) hx₀ hb dX11_high_19 (by decide +kernel) ?_
      refine lv_icmp_gt (tgt := 47) hx₀ hb dX11_high_21 (by decide) (fun c_4 => ?_) (fun c_4 => ?_)
      · refine lv_iload_n hx₀ hb dX11_high_47 rfl (lv_at hl 1 rfl) ?_
        obtain ⟨hP9, hD9⟩ := k_c2 (wc := [(kX11 hx aLa aPa aGe aFl aTr aBe aLu aLo vSf vSm vCo vSh xs xl xf), (kX10 aTr aLa aPa aGe gL gR pz3 qz3 ygoez3 ycarz3 ykinz3 ysorz3 ybeaz3 yweiz3 yleaz3 yangz3 ycolz3 yendz3), (kX3 gL w0z3 w1z3 w2z3 w3z3), (kX3 gR z0z3 z1z3 z2z3 z3z3), (kX4 aLa vLa l4 a4 n4), (kAI vLa cI 24 f4), (kX7 aPa vPa l7 a7 n7), (kAI vPa cI 39 f7), (kX2 aGe vGe l2 a2 n2), (kAI vGe cI 23 f2), (kX1 aFl vFl xn), (kAI vFl cI 32 ff), (kAI vSf cI 8 sf), (kAI vSm cI 8 sm)]) hP hD [0, 1, 2, 3, 4, 5, 6, 7, 8, 9, 13, 10, 11, 12] (by decide +kernel) rfl
        exact W.iret (v := biz3) hx₀ hb hr (fun t₀ ht hW => ⟨⟨biz3, (k_fn [w0z3, w1z3, w2z3, w3z3, z0z3, z1z3, z2z3, z3z3, ygoez3, ycarz3, ykinz3, ysorz3, ybeaz3, yweiz3, yleaz3, yangz3, ycolz3, yendz3], k_fa [], k_fl [], k_fL [], k_fp [pz3, qz3]), rfl, trivial, by rw [ht]; exact hP9, va_K.moved hW.alike hK, hD9⟩, hS.F ht⟩) hS.2.2 dX11_high_48
      · refine lv_aload_n hx₀ hb dX11_high_24 rfl (lv_at hl 2 rfl) ?_
        refine lv_iconst (v := (-1)) hx₀ hb dX11_high_25 (by decide +kernel) ?_
        refine lv_iconst (v := (-1)) hx₀ hb dX11_high_26 (by decide +kernel) ?_
        refine lv_iload_n hx₀ hb dX11_high_27 rfl (lv_at hl 3 rfl) ?_
        refine lv_iload_n hx₀ hb dX11_high_28 rfl (lv_at hl 0 rfl) ?_
        obtain ⟨hPc, hDc, hFc, hC⟩ := k_cw (wc := [(kX11 hx aLa aPa aGe aFl aTr aBe aLu aLo vSf vSm vCo vSh xs xl xf), (kX10 aTr aLa aPa aGe gL gR pz3 qz3 ygoez3 ycarz3 ykinz3 ysorz3 ybeaz3 yweiz3 yleaz3 yangz3 ycolz3 yendz3), (kX3 gL w0z3 w1z3 w2z3 w3z3), (kX3 gR z0z3 z1z3 z2z3 z3z3), (kX4 aLa vLa l4 a4 n4), (kAI vLa cI 24 f4), (kX7 aPa vPa l7 a7 n7), (kAI vPa cI 39 f7), (kX2 aGe vGe l2 a2 n2), (kAI vGe cI 23 f2), (kX1 aFl vFl xn), (kAI vFl cI 32 ff), (kAI vSf cI 8 sf), (kAI vSm cI 8 sm)]) hP hD hS hA [0, 1, 2, 3, 4, 5, 6, 7, 8, 9, 13, 10, 11, 12] (by decide +kernel) rfl
        refine va_calli (va_runV (As := [.int (-1), .int (-1), .int f1, .int egz3]) (rest := []) ⟨hx₀, hb, hml, hown, hts⟩ (j_agreesWithSeen l dC dI cI cJ cQ H.size hx (-1) (-1) f1 egz3 aLa aPa aGe aFl aTr aBe aLu aLo vSf vSm vCo vSh xs xl xf gL gR pz3 qz3 ygoez3 ycarz3 ykinz3 ysorz3 ybeaz3 yweiz3 yleaz3 yangz3 ycolz3 yendz3 w0z3 w1z3 w2z3 w3z3 z0z3 z1z3 z2z3 z3z3 vLa l4 a4 n4 f4 vPa l7 a7 n7 f7 vGe l2 a2 n2 f2 vFl xn ff sf sm (hh0) (hh1)) (cwV 4 hts (kGV wd_712 wd_709 wd_710 wd_711 wd_2) rfl rfl rfl (by decide +kernel) ⟨Nat.le_of_ble_eq_true rfl, Nat.le_of_ble_eq_true rfl⟩) (k_preV10 (q0 := 0) hK hPc hDc hN rfl) rfl rfl hl.1 rfl (lv_room (Nat.le_of_ble_eq_true rfl)) dX11_high_29 ⟨by decide +kernel, by decide +kernel⟩) hS (fun q _ h => hFc q h) hFc (fun r_5 u₀ t₀ H1 locs ht hvm hw hB hz1 hk1 hS => ?_)
        obtain ⟨g_6, ga_7, gl_8, gb_9, gp_10⟩ := u₀
        obtain ⟨hP1, hK1, hD1⟩ := hB
        rw [ht] at hP1
        have hJ := k_jn (wr := []) (wt := [(kX11 hx aLa aPa aGe aFl aTr aBe aLu aLo vSf vSm vCo vSh xs xl xf), (kX10 aTr aLa aPa aGe gL gR (gp_10 0) (gp_10 1) (g_6 8) (g_6 9) (g_6 10) (g_6 11) (g_6 12) (g_6 13) (g_6 14) (g_6 15) (g_6 16) (g_6 17)), (kX3 gL (g_6 0) (g_6 1) (g_6 2) (g_6 3)), (kX3 gR (g_6 4) (g_6 5) (g_6 6) (g_6 7)), (kX4 aLa vLa l4 a4 n4), (kAI vLa cI 24 f4), (kX7 aPa vPa l7 a7 n7), (kAI vPa cI 39 f7), (kX2 aGe vGe l2 a2 n2), (kAI vGe cI 23 f2), (kX1 aFl vFl xn), (kAI vFl cI 32 ff), (kAI vSf cI 8 sf), (kAI vSm cI 8 sm)]) hP hD hC [] rfl (by decide +kernel) (by decide +kernel) hk1 hFc hP1 hD1 rfl
        clear hP hD hPc hDc hFc hC hP1 hD1 hK1 hz1 hk1 hvm ht
        obtain ⟨hP, hD⟩ := hJ
        generalize H1 = H at hP hS ⊢
        try dsimp only at hw
        have c_11 := hw
        refine lv_if_eq (tgt := 41) hx₀ hb dX11_high_32 (by decide) (fun c_12 => ?_) (fun c_12 => ?_)
        · refine lv_iinc (v := egz3 + 1) (lv' := [(3, .int (egz3 + 1)), (2, .int biz3), (0, .ref hx), (1, .int f1)]) hx₀ hb dX11_high_41 hl (k := 0) rfl rfl (by decide) rfl (fun ls hl => ?_)
          refine lv_goto (tgt := 18) hx₀ hb dX11_high_44 (by decide) ?_
          exact ihz3 _ (lf_j_high_2 egz3 jz3 hiz3_0 hjz3 c_4) biz3 (egz3 + 1) (g_6 8) (g_6 9) (g_6 10) (g_6 11) (g_6 12) (g_6 13) (g_6 14) (g_6 15) (g_6 16) (g_6 17) (gp_10 0) (gp_10 1) (g_6 0) (g_6 1) (g_6 2) (g_6 3) (g_6 4) (g_6 5) (g_6 6) (g_6 7) _ _ _ (lf_j_high_1 egz3 jz3 hiz3_0 hjz3 c_4) rfl (hP.sub [0, 1, 2, 3, 4, 5, 6, 7, 8, 9, 11, 12, 13, 10] rfl) (hD.sub [0, 1, 2, 3, 4, 5, 6, 7, 8, 9, 11, 12, 13, 10] (by decide +kernel) rfl) hS (lv_sub hl [0, 1, 2, 3] rfl)
        · refine lv_iload_n hx₀ hb dX11_high_35 rfl (lv_at hl 1 rfl) ?_
          refine lv_iconst (v := 1) hx₀ hb dX11_high_36 (by decide +kernel) ?_
          refine lv_iload_n hx₀ hb dX11_high_37 rfl (lv_at hl 0 rfl) ?_
          refine lv_ishl hx₀ hb dX11_high_38 ?_
          refine k_topi (v := kshl egz3) rfl ?_
          refine lv_ior hx₀ hb dX11_high_39 ?_
          refine lv_istore_n (lv' := [(2, .int (biz3 ||| (kshl egz3))), (3, .int egz3), (0, .ref hx), (1, .int f1)]) hx₀ hb dX11_high_40 rfl hl (by decide) rfl (fun ls hl => ?_)
          refine lv_iinc (v := egz3 + 1) (lv' := [(3, .int (egz3 + 1)), (2, .int (biz3 ||| (kshl egz3))), (0, .ref hx), (1, .int f1)]) hx₀ hb dX11_high_41 hl (k := 1) rfl rfl (by decide) rfl (fun ls hl => ?_)
          refine lv_goto (tgt := 18) hx₀ hb dX11_high_44 (by decide) ?_
          exact ihz3 _ (lf_j_high_2 egz3 jz3 hiz3_0 hjz3 c_4) (biz3 ||| (kshl egz3)) (egz3 + 1) (g_6 8) (g_6 9) (g_6 10) (g_6 11) (g_6 12) (g_6 13) (g_6 14) (g_6 15) (g_6 16) (g_6 17) (gp_10 0) (gp_10 1) (g_6 0) (g_6 1) (g_6 2) (g_6 3) (g_6 4) (g_6 5) (g_6 6) (g_6 7) _ _ _ (lf_j_high_1 egz3 jz3 hiz3_0 hjz3 c_4) rfl (hP.sub [0, 1, 2, 3, 4, 5, 6, 7, 8, 9, 11, 12, 13, 10] rfl) (hD.sub [0, 1, 2, 3, 4, 5, 6, 7, 8, 9, 11, 12, 13, 10] (by decide +kernel) rfl) hS (lv_sub hl [0, 1, 2, 3] rfl)
  rw [if_neg c_2] at hw
  refine k_topi (v := 0) hw ?_
  refine lv_if_ne (tgt := 14) hx₀ hb dX11_high_8 (by decide) (fun c9 => absurd (by decide +kernel) c9) (fun _ => ?_)
  refine lv_bipush (v := (-2)) hx₀ hb dX11_high_11 (by decide +kernel) ?_
  obtain ⟨hP9, hD9⟩ := k_c2 (wc := [(kX11 hx aLa aPa aGe aFl aTr aBe aLu aLo vSf vSm vCo vSh xs xl xf), (kX10 aTr aLa aPa aGe gL gR lf rt tgo tca tki tso tbe twe tle tan tco ten), (kX3 gL u0 u1 u2 u3), (kX3 gR v0 v1 v2 v3), (kX4 aLa vLa l4 a4 n4), (kAI vLa cI 24 f4), (kX7 aPa vPa l7 a7 n7), (kAI vPa cI 39 f7), (kX2 aGe vGe l2 a2 n2), (kAI vGe cI 23 f2), (kX1 aFl vFl xn), (kAI vFl cI 32 ff), (kAI vSf cI 8 sf), (kAI vSm cI 8 sm)]) hP hD [0, 1, 2, 3, 4, 5, 6, 7, 8, 9, 13, 10, 11, 12] (by decide +kernel) rfl
  exact W.iret (v := (-2)) hx₀ hb hr (fun t₀ ht hW => ⟨⟨(-2), (k_fn [u0, u1, u2, u3, v0, v1, v2, v3, tgo, tca, tki, tso, tbe, twe, tle, tan, tco, ten], k_fa [], k_fl [], k_fL [], k_fp [lf, rt]), rfl, trivial, by rw [ht]; exact hP9, va_K.moved hW.alike hK, hD9⟩, hS.F ht⟩) hS.2.2 dX11_high_13
