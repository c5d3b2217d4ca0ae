set_option maxHeartbeats 4000000 in
set_option maxRecDepth 100000 in
theorem j_mixFlight (l : Launch) (dC : Nat → ClassId) (dI : Nat → Nat → Nat) (cI cJ cQ : ClassId) (sz : Nat) (hx : Nat) (x1 : Int64) (f1 : Int32) (aLa : Nat) (aPa : Nat) (aGe : Nat) (aFl : Nat) (aTr : Nat) (aBe : Nat) (aLu : Nat) (aLo : Nat) (vSf : Nat) (vSm : Nat) (vCo : Nat) (vSh : Nat) (xs : Int32) (xl : Int32) (xf : Int32) (gL : Nat) (gR : Nat) (lf : Nat) (rt : Nat) (tgo : Int32) (tca : Int32) (tki : Int32) (tso : Int32) (tbe : Int32) (twe : Int32) (tle : Int32) (tan : Int32) (tco : Int32) (ten : Int32) (u0 : Int32) (u1 : Int32) (u2 : Int32) (u3 : Int32) (v0 : Int32) (v1 : Int32) (v2 : Int32) (v3 : Int32) (vLa : Nat) (l4 : Int32) (a4 : Int32) (n4 : Int32) (f4 : Nat → Int32) (vPa : Nat) (l7 : Int32) (a7 : Int32) (n7 : Int32) (f7 : Nat → Int32) (vGe : Nat) (l2 : Int32) (a2 : Int32) (n2 : Int32) (f2 : Nat → Int32) (vFl : Nat) (xn : Int32) (ff : Nat → Int32) (k0 : Int32) (k1 : Int32) (k2 : Int32) (k3 : Int32) (vLu : Nat) (ab : Int64) (be : Int64) (fl : Nat → Int64) (sf : Nat → Int32) (sm : Nat → Int32) (hh0 : 0 ≤ n4 ∧ n4 ≤ 24) (hh1 : 0 ≤ xn ∧ xn ≤ 8) : Met l yX11_mixFlight (kW yX11_mixFlight cX11_mixFlight 7 (some .long)) { frames := 5, cells := 0, slots := 0, locals := 124 } (kPre dC dI cI cJ cQ sz [.ref hx, .long x1, .int f1] [(kX11 hx aLa aPa aGe aFl aTr aBe aLu aLo vSf vSm vCo vSh xs xl xf), (kX10 aTr aLa aPa aGe gL gR lf rt tgo tca tki tso tbe twe tle tan tco ten), (kX3 gL u0 u1 u2 u3), (kX3 gR v0 v1 v2 v3), (kX4 aLa vLa l4 a4 n4), (kAI vLa cI 24 f4), (kX7 aPa vPa l7 a7 n7), (kAI vPa cI 39 f7), (kX2 aGe vGe l2 a2 n2), (kAI vGe cI 23 f2), (kX1 aFl vFl xn), (kAI vFl cI 32 ff), (kX0 aBe k0 k1 k2 k3), (kX5 aLu vLu ab be), (kAJ vLu cJ 46 fl), (kAI vSf cI 8 sf), (kAI vSm cI 8 sm)]) (va_Ql (fun (r : Int64) (u : kS) => True) (fun (u : kS) t₀ => kB dC dI cI cJ cQ (va_A [(kX11 hx aLa aPa aGe aFl aTr aBe aLu aLo vSf vSm vCo vSh xs xl xf), (kX10 aTr aLa aPa aGe gL gR lf rt tgo tca tki tso tbe twe tle tan tco ten), (kX3 gL u0 u1 u2 u3), (kX3 gR v0 v1 v2 v3), (kX4 aLa vLa l4 a4 n4), (kAI vLa cI 24 f4), (kX7 aPa vPa l7 a7 n7), (kAI vPa cI 39 f7), (kX2 aGe vGe l2 a2 n2), (kAI vGe cI 23 f2), (kX1 aFl vFl xn), (kAI vFl cI 32 ff), (kX0 aBe k0 k1 k2 k3), (kX5 aLu vLu ab be), (kAJ vLu cJ 46 fl), (kAI vSf cI 8 sf), (kAI vSm cI 8 sm)] sz) [(kX11 hx aLa aPa aGe aFl aTr aBe aLu aLo vSf vSm vCo vSh xs xl xf), (kX10 aTr aLa aPa aGe gL gR (u.2.2.2.2 0) (u.2.2.2.2 1) (u.1 8) (u.1 9) (u.1 10) (u.1 11) (u.1 12) (u.1 13) (u.1 14) (u.1 15) (u.1 16) (u.1 17)), (kX3 gL (u.1 0) (u.1 1) (u.1 2) (u.1 3)), (kX3 gR (u.1 4) (u.1 5) (u.1 6) (u.1 7)), (kX4 aLa vLa l4 a4 n4), (kAI vLa cI 24 f4), (kX7 aPa vPa l7 a7 n7), (kAI vPa cI 39 f7), (kX2 aGe vGe l2 a2 n2), (kAI vGe cI 23 f2), (kX1 aFl vFl xn), (kAI vFl cI 32 ff), (kX0 aBe (u.1 18) (u.1 19) (u.1 20) (u.1 21)), (kX5 aLu vLu (u.2.2.1 0) (u.2.2.1 1)), (kAJ vLu cJ 46 (u.2.2.2.1 0)), (kAI vSf cI 8 sf), (kAI vSm cI 8 sm)] t₀) (va_A [(kX11 hx aLa aPa aGe aFl aTr aBe aLu aLo vSf vSm vCo vSh xs xl xf), (kX10 aTr aLa aPa aGe gL gR lf rt tgo tca tki tso tbe twe tle tan tco ten), (kX3 gL u0 u1 u2 u3), (kX3 gR v0 v1 v2 v3), (kX4 aLa vLa l4 a4 n4), (kAI vLa cI 24 f4), (kX7 aPa vPa l7 a7 n7), (kAI vPa cI 39 f7), (kX2 aGe vGe l2 a2 n2), (kAI vGe cI 23 f2), (kX1 aFl vFl xn), (kAI vFl cI 32 ff), (kX0 aBe k0 k1 k2 k3), (kX5 aLu vLu ab be), (kAJ vLu cJ 46 fl), (kAI vSf cI 8 sf), (kAI vSm cI 8 sm)] sz)) 0 0 (va_A [(kX11 hx aLa aPa aGe aFl aTr aBe aLu aLo vSf vSm vCo vSh xs xl xf), (kX10 aTr aLa aPa aGe gL gR lf rt tgo tca tki tso tbe twe tle tan tco ten), (kX3 gL u0 u1 u2 u3), (kX3 gR v0 v1 v2 v3), (kX4 aLa vLa l4 a4 n4), (kAI vLa cI 24 f4), (kX7 aPa vPa l7 a7 n7), (kAI vPa cI 39 f7), (kX2 aGe vGe l2 a2 n2), (kAI vGe cI 23 f2), (kX1 aFl vFl xn), (kAI vFl cI 32 ff), (kX0 aBe k0 k1 k2 k3), (kX5 aLu vLu ab be), (kAJ vLu cJ 46 fl), (kAI vSf cI 8 sf), (kAI vSm cI 8 sm)] sz) := by
  refine Met.ofW (cc := cX11_mixFlight) (maxL := 7) (ret := (some .long)) (by decide) rfl ?_
  intro p₀ e₀ s₀ m₀ args below meth c₀ s₁ B hml hv₀
  obtain ⟨rfl, hsz, hP, hK, hD0, hN⟩ := hv₀
  have hx₀ := B.exec
  have hb := B.bytes
  have hr := B.returns
  have hts := atoms_spec (ws := (kW yX11_mixFlight cX11_mixFlight 7 (some .long))) B.pre
  have hts := fun w h => hts w (List.mem_cons_of_mem _ h)
  have hown : s₀.vm.findClass RX11 = some m₀.cls := findClass_of_methodNamed B.named
  have hlocks := B.notSynchronized
  subst hsz
  have hD := hD0.self (sz := s₀.heap.size)
  generalize hAe : va_A [(kX11 hx aLa aPa aGe aFl aTr aBe aLu aLo vSf vSm vCo vSh xs xl xf), (kX10 aTr aLa aPa aGe gL gR lf rt tgo tca tki tso tbe twe tle tan tco ten), (kX3 gL u0 u1 u2 u3), (kX3 gR v0 v1 v2 v3), (kX4 aLa vLa l4 a4 n4), (kAI vLa cI 24 f4), (kX7 aPa vPa l7 a7 n7), (kAI vPa cI 39 f7), (kX2 aGe vGe l2 a2 n2), (kAI vGe cI 23 f2), (kX1 aFl vFl xn), (kAI vFl cI 32 ff), (kX0 aBe k0 k1 k2 k3), (kX5 aLu vLu ab be), (kAJ vLu cJ 46 fl), (kAI vSf cI 8 sf), (kAI vSm cI 8 sm)] s₀.heap.size = A at hD ⊢
  have hA : ∀ q : Nat, s₀.heap.size ≤ q → A q := fun q h => by rw [← hAe]; exact Or.inr h
  have hS : va_S A s₀.heap s₀.heap [] := va_S.rf
  have hP : va_P (dC, dI) vwCl [(kX11 hx aLa aPa aGe aFl aTr aBe aLu aLo vSf vSm vCo vSh xs xl xf), (kX10 aTr aLa aPa aGe gL gR lf rt tgo tca tki tso tbe twe tle tan tco ten), (kX3 gL u0 u1 u2 u3), (kX3 gR v0 v1 v2 v3), (kX4 aLa vLa l4 a4 n4), (kAI vLa cI 24 f4), (kX7 aPa vPa l7 a7 n7), (kAI vPa cI 39 f7), (kX2 aGe vGe l2 a2 n2), (kAI vGe cI 23 f2), (kX1 aFl vFl xn), (kAI vFl cI 32 ff), (kX0 aBe k0 k1 k2 k3), (kX5 aLu vLu ab be), (kAJ vLu cJ 46 fl), (kAI vSf cI 8 sf), (kAI vSm cI 8 sm)] s₀.heap := hP
  have hl := lv_entry ([.ref hx, .long x1, .int f1]) (n := 7) (Nat.le_of_ble_eq_true rfl)
  rw [lg_entry_eq]
  generalize (lg_sl ([.ref hx, .long x1, .int f1]) ++ List.replicate (7 - (lg_sl ([.ref hx, .long x1, .int f1])).length) Slot.unset).toArray = ls at hl ⊢
  have hl : lv_has ls 7 [(0, .ref hx), (1, .long x1), (3, .int f1)] := hl
  obtain ⟨H, hH⟩ : ∃ z : Heap, z = s₀.heap := ⟨_, rfl⟩
  rw [← hH] at hP
  have hS : va_S A s₀.heap H [] := by rw [hH]; exact hS
  refine k_heap hH ?_
  have hD : va_D A [(kX11 hx aLa aPa aGe aFl aTr aBe aLu aLo vSf vSm vCo vSh xs xl xf), (kX10 aTr aLa aPa aGe gL gR lf rt tgo tca tki tso tbe twe tle tan tco ten), (kX3 gL u0 u1 u2 u3), (kX3 gR v0 v1 v2 v3), (kX4 aLa vLa l4 a4 n4), (kAI vLa cI 24 f4), (kX7 aPa vPa l7 a7 n7), (kAI vPa cI 39 f7), (kX2 aGe vGe l2 a2 n2), (kAI vGe cI 23 f2), (kX1 aFl vFl xn), (kAI vFl cI 32 ff), (kX0 aBe k0 k1 k2 k3), (kX5 aLu vLu ab be), (kAJ vLu cJ 46 fl), (kAI vSf cI 8 sf), (kAI vSm cI 8 sm)] := hD
  obtain ⟨locs, hlo⟩ : ∃ z : List Loc, z = [] := ⟨_, rfl⟩
  rw [← hlo] at hS ⊢
  clear hlo hH hAe hD0
  refine lv_lload_n hx₀ hb dX11_mixFlight_0 rfl (lv_at hl 1 rfl) ?_
  refine lv_lstore (lv' := [(4, .long x1), (0, .ref hx), (1, .long x1), (3, .int f1)]) hx₀ hb dX11_mixFlight_1 hl (by decide) rfl (fun ls hl => ?_)
  refine lv_iconst (v := 0) hx₀ hb dX11_mixFlight_3 (by decide +kernel) ?_
  refine lv_istore (lv' := [(6, .int 0), (4, .long x1), (0, .ref hx), (1, .long x1), (3, .int f1)]) hx₀ hb dX11_mixFlight_4 hl (by decide) rfl (fun ls hl => ?_)
  refine lv_iload hx₀ hb dX11_mixFlight_6 (lv_at hl 0 rfl) ?_
  refine lv_iconst (v := 2) hx₀ hb dX11_mixFlight_8 (by decide +kernel) ?_
  refine lv_icmp_gt (tgt := 35) hx₀ hb dX11_mixFlight_9 (by decide) (fun c9 => absurd c9 (by decide +kernel)) (fun _ => ?_)
  refine lv_ldc2 (v := 31) hx₀ hb hown (hts (.constantLong RX11 274 (31)) wd_966) dX11_mixFlight_12 ?_
  refine lv_lload hx₀ hb dX11_mixFlight_15 (lv_at hl 1 rfl) ?_
  refine lv_lmul hx₀ hb dX11_mixFlight_17 ?_
  refine lv_aload_n hx₀ hb dX11_mixFlight_18 rfl (lv_at hl 2 rfl) ?_
  refine lv_iload_n hx₀ hb dX11_mixFlight_19 rfl (lv_at hl 4 rfl) ?_
  refine lv_iload hx₀ hb dX11_mixFlight_20 (lv_at hl 0 rfl) ?_
  obtain ⟨hPc, hDc, hFc, hC⟩ := k_cw (wc := [(kX11 hx aLa aPa aGe aFl aTr aBe aLu aLo vSf vSm vCo vSh xs xl xf), (kX10 aTr aLa aPa aGe gL gR lf rt tgo tca tki tso tbe twe tle tan tco ten), (kX3 gL u0 u1 u2 u3), (kX3 gR v0 v1 v2 v3), (kX4 aLa vLa l4 a4 n4), (kAI vLa cI 24 f4), (kX7 aPa vPa l7 a7 n7), (kAI vPa cI 39 f7), (kX2 aGe vGe l2 a2 n2), (kAI vGe cI 23 f2), (kX1 aFl vFl xn), (kAI vFl cI 32 ff)]) hP hD hS hA [0, 1, 2, 3, 4, 5, 6, 7, 8, 9, 10, 11] (by decide +kernel) rfl
  refine va_calli (va_runV (As := [.int f1, .int 0]) (rest := [.long (31 * x1)]) ⟨hx₀, hb, hml, hown, hts⟩ (j_comes l dC dI cI cJ cQ H.size hx f1 0 aLa aPa aGe aFl aTr aBe aLu aLo vSf vSm vCo vSh xs xl xf gL gR lf rt tgo tca tki tso tbe twe tle tan tco ten u0 u1 u2 u3 v0 v1 v2 v3 vLa l4 a4 n4 f4 vPa l7 a7 n7 f7 vGe l2 a2 n2 f2 vFl xn ff (hh0) (hh1)) (cwV 2 hts (kGV wd_421 wd_977 wd_419 wd_420 wd_2) rfl rfl rfl (by decide +kernel) ⟨Nat.le_of_ble_eq_true rfl, Nat.le_of_ble_eq_true rfl⟩) (k_preV10 (q0 := 0) hK hPc hDc hN rfl) rfl rfl hl.1 rfl (lv_room (Nat.le_of_ble_eq_true rfl)) dX11_mixFlight_22 ⟨by decide +kernel, by decide +kernel⟩) hS (fun q _ h => hFc q h) hFc (fun r_1 u₀ t₀ H1 locs ht hvm hw hB hz1 hk1 hS => ?_)
  obtain ⟨g_2, ga_3, gl_4, gb_5, gp_6⟩ := u₀
  obtain ⟨hP1, hK1, hD1⟩ := hB
  rw [ht] at hP1
  have hJ := k_jn (wr := [(kX0 aBe k0 k1 k2 k3), (kX5 aLu vLu ab be), (kAJ vLu cJ 46 fl), (kAI vSf cI 8 sf), (kAI vSm cI 8 sm)]) (wt := [(kX0 aBe k0 k1 k2 k3), (kX5 aLu vLu ab be), (kAJ vLu cJ 46 fl), (kAI vSf cI 8 sf), (kAI vSm cI 8 sm), (kX11 hx aLa aPa aGe aFl aTr aBe aLu aLo vSf vSm vCo vSh xs xl xf), (kX10 aTr aLa aPa aGe gL gR (gp_6 0) (gp_6 1) (g_2 8) (g_2 9) (g_2 10) (g_2 11) (g_2 12) (g_2 13) (g_2 14) (g_2 15) (g_2 16) (g_2 17)), (kX3 gL (g_2 0) (g_2 1) (g_2 2) (g_2 3)), (kX3 gR (g_2 4) (g_2 5) (g_2 6) (g_2 7)), (kX4 aLa vLa l4 a4 n4), (kAI vLa cI 24 f4), (kX7 aPa vPa l7 a7 n7), (kAI vPa cI 39 f7), (kX2 aGe vGe l2 a2 n2), (kAI vGe cI 23 f2), (kX1 aFl vFl xn), (kAI vFl cI 32 ff)]) hP hD hC [12, 13, 14, 15, 16] rfl (by decide +kernel) (by decide +kernel) hk1 hFc hP1 hD1 rfl
  clear hP hD hPc hDc hFc hC hP1 hD1 hK1 hz1 hk1 hvm ht
  obtain ⟨hP, hD⟩ := hJ
  generalize H1 = H at hP hS ⊢
  try dsimp only at hw
  refine lv_i2l hx₀ hb dX11_mixFlight_25 rfl ?_
  refine lv_ladd hx₀ hb dX11_mixFlight_26 ?_
  refine lv_lstore (lv' := [(4, .long ((31 * x1) + r_1.toInt64)), (6, .int 0), (0, .ref hx), (1, .long x1), (3, .int f1)]) hx₀ hb dX11_mixFlight_27 hl (by decide) rfl (fun ls hl => ?_)
  refine lv_iinc (v := 1) (lv' := [(6, .int 1), (4, .long ((31 * x1) + r_1.toInt64)), (0, .ref hx), (1, .long x1), (3, .int f1)]) hx₀ hb dX11_mixFlight_29 hl (k := 1) rfl (by decide +kernel) (by decide) rfl (fun ls hl => ?_)
  refine lv_goto (tgt := 6) hx₀ hb dX11_mixFlight_32 (by decide) ?_
  refine lv_iload hx₀ hb dX11_mixFlight_6 (lv_at hl 0 rfl) ?_
  refine lv_iconst (v := 2) hx₀ hb dX11_mixFlight_8 (by decide +kernel) ?_
  refine lv_icmp_gt (tgt := 35) hx₀ hb dX11_mixFlight_9 (by decide) (fun c9 => absurd c9 (by decide +kernel)) (fun _ => ?_)
  refine lv_ldc2 (v := 31) hx₀ hb hown (hts (.constantLong RX11 274 (31)) wd_966) dX11_mixFlight_12 ?_
  refine lv_lload hx₀ hb dX11_mixFlight_15 (lv_at hl 1 rfl) ?_
  refine lv_lmul hx₀ hb dX11_mixFlight_17 ?_
  refine lv_aload_n hx₀ hb dX11_mixFlight_18 rfl (lv_at hl 2 rfl) ?_
  refine lv_iload_n hx₀ hb dX11_mixFlight_19 rfl (lv_at hl 4 rfl) ?_
  refine lv_iload hx₀ hb dX11_mixFlight_20 (lv_at hl 0 rfl) ?_
  obtain ⟨hPc, hDc, hFc, hC⟩ := k_cw (wc := [(kX11 hx aLa aPa aGe aFl aTr aBe aLu aLo vSf vSm vCo vSh xs xl xf), (kX10 aTr aLa aPa aGe gL gR (gp_6 0) (gp_6 1) (g_2 8) (g_2 9) (g_2 10) (g_2 11) (g_2 12) (g_2 13) (g_2 14) (g_2 15) (g_2 16) (g_2 17)), (kX3 gL (g_2 0) (g_2 1) (g_2 2) (g_2 3)), (kX3 gR (g_2 4) (g_2 5) (g_2 6) (g_2 7)), (kX4 aLa vLa l4 a4 n4), (kAI vLa cI 24 f4), (kX7 aPa vPa l7 a7 n7), (kAI vPa cI 39 f7), (kX2 aGe vGe l2 a2 n2), (kAI vGe cI 23 f2), (kX1 aFl vFl xn), (kAI vFl cI 32 ff)]) hP hD hS hA [5, 6, 7, 8, 9, 10, 11, 12, 13, 14, 15, 16] (by decide +kernel) rfl
  refine va_calli (va_runV (As := [.int f1, .int 1]) (rest := [.long (31 * ((31 * x1) + r_1.toInt64))]) ⟨hx₀, hb, hml, hown, hts⟩ (j_comes l dC dI cI cJ cQ H.size hx f1 1 aLa aPa aGe aFl aTr aBe aLu aLo vSf vSm vCo vSh xs xl xf gL gR (gp_6 0) (gp_6 1) (g_2 8) (g_2 9) (g_2 10) (g_2 11) (g_2 12) (g_2 13) (g_2 14) (g_2 15) (g_2 16) (g_2 17) (g_2 0) (g_2 1) (g_2 2) (g_2 3) (g_2 4) (g_2 5) (g_2 6) (g_2 7) vLa l4 a4 n4 f4 vPa l7 a7 n7 f7 vGe l2 a2 n2 f2 vFl xn ff (hh0) (hh1)) (cwV 2 hts (kGV wd_421 wd_977 wd_419 wd_420 wd_2) rfl rfl rfl (by decide +kernel) ⟨Nat.le_of_ble_eq_true rfl, Nat.le_of_ble_eq_true rfl⟩) (k_preV10 (q0 := 0) hK hPc hDc hN rfl) rfl rfl hl.1 rfl (lv_room (Nat.le_of_ble_eq_true rfl)) dX11_mixFlight_22 ⟨by decide +kernel, by decide +kernel⟩) hS (fun q _ h => hFc q h) hFc (fun r_7 u₀ t₀ H1 locs ht hvm hw hB hz1 hk1 hS => ?_)
  obtain ⟨g_8, ga_9, gl_10, gb_11, gp_12⟩ := u₀
  obtain ⟨hP1, hK1, hD1⟩ := hB
  rw [ht] at hP1
  have hJ := k_jn (wr := [(kX0 aBe k0 k1 k2 k3), (kX5 aLu vLu ab be), (kAJ vLu cJ 46 fl), (kAI vSf cI 8 sf), (kAI vSm cI 8 sm)]) (wt := [(kX0 aBe k0 k1 k2 k3), (kX5 aLu vLu ab be), (kAJ vLu cJ 46 fl), (kAI vSf cI 8 sf), (kAI vSm cI 8 sm), (kX11 hx aLa aPa aGe aFl aTr aBe aLu aLo vSf vSm vCo vSh xs xl xf), (kX10 aTr aLa aPa aGe gL gR (gp_12 0) (gp_12 1) (g_8 8) (g_8 9) (g_8 10) (g_8 11) (g_8 12) (g_8 13) (g_8 14) (g_8 15) (g_8 16) (g_8 17)), (kX3 gL (g_8 0) (g_8 1) (g_8 2) (g_8 3)), (kX3 gR (g_8 4) (g_8 5) (g_8 6) (g_8 7)), (kX4 aLa vLa l4 a4 n4), (kAI vLa cI 24 f4), (kX7 aPa vPa l7 a7 n7), (kAI vPa cI 39 f7), (kX2 aGe vGe l2 a2 n2), (kAI vGe cI 23 f2), (kX1 aFl vFl xn), (kAI vFl cI 32 ff)]) hP hD hC [0, 1, 2, 3, 4] rfl (by decide +kernel) (by decide +kernel) hk1 hFc hP1 hD1 rfl
  clear hP hD hPc hDc hFc hC hP1 hD1 hK1 hz1 hk1 hvm ht
  obtain ⟨hP, hD⟩ := hJ
  generalize H1 = H at hP hS ⊢
  try dsimp only at hw
  refine lv_i2l hx₀ hb dX11_mixFlight_25 rfl ?_
  refine lv_ladd hx₀ hb dX11_mixFlight_26 ?_
  refine lv_lstore (lv' := [(4, .long ((31 * ((31 * x1) + r_1.toInt64)) + r_7.toInt64)), (6, .int 1), (0, .ref hx), (1, .long x1), (3, .int f1)]) hx₀ hb dX11_mixFlight_27 hl (by decide) rfl (fun ls hl => ?_)
  refine lv_iinc (v := 2) (lv' := [(6, .int 2), (4, .long ((31 * ((31 * x1) + r_1.toInt64)) + r_7.toInt64)), (0, .ref hx), (1, .long x1), (3, .int f1)]) hx₀ hb dX11_mixFlight_29 hl (k := 1) rfl (by decide +kernel) (by decide) rfl (fun ls hl => ?_)
  refine lv_goto (tgt := 6) hx₀ hb dX11_mixFlight_32 (by decide) ?_
  refine lv_iload hx₀ hb dX11_mixFlight_6 (lv_at hl 0 rfl) ?_
  refine lv_iconst (v := 2) hx₀ hb dX11_mixFlight_8 (by decide +kernel) ?_
  refine lv_icmp_gt (tgt := 35) hx₀ hb dX11_mixFlight_9 (by decide) (fun c9 => absurd c9 (by decide +kernel)) (fun _ => ?_)
  refine lv_ldc2 (v := 31) hx₀ hb hown (hts (.constantLong RX11 274 (31)) wd_966) dX11_mixFlight_12 ?_
  refine lv_lload hx₀ hb dX11_mixFlight_15 (lv_at hl 1 rfl) ?_
  refine lv_lmul hx₀ hb dX11_mixFlight_17 ?_
  refine lv_aload_n hx₀ hb dX11_mixFlight_18 rfl (lv_at hl 2 rfl) ?_
  refine lv_iload_n hx₀ hb dX11_mixFlight_19 rfl (lv_at hl 4 rfl) ?_
  refine lv_iload hx₀ hb dX11_mixFlight_20 (lv_at hl 0 rfl) ?_
  obtain ⟨hPc, hDc, hFc, hC⟩ := k_cw (wc := [(kX11 hx aLa aPa aGe aFl aTr aBe aLu aLo vSf vSm vCo vSh xs xl xf), (kX10 aTr aLa aPa aGe gL gR (gp_12 0) (gp_12 1) (g_8 8) (g_8 9) (g_8 10) (g_8 11) (g_8 12) (g_8 13) (g_8 14) (g_8 15) (g_8 16) (g_8 17)), (kX3 gL (g_8 0) (g_8 1) (g_8 2) (g_8 3)), (kX3 gR (g_8 4) (g_8 5) (g_8 6) (g_8 7)), (kX4 aLa vLa l4 a4 n4), (kAI vLa cI 24 f4), (kX7 aPa vPa l7 a7 n7), (kAI vPa cI 39 f7), (kX2 aGe vGe l2 a2 n2), (kAI vGe cI 23 f2), (kX1 aFl vFl xn), (kAI vFl cI 32 ff)]) hP hD hS hA [5, 6, 7, 8, 9, 10, 11, 12, 13, 14, 15, 16] (by decide +kernel) rfl
  refine va_calli (va_runV (As := [.int f1, .int 2]) (rest := [.long (31 * ((31 * ((31 * x1) + r_1.toInt64)) + r_7.toInt64))]) ⟨hx₀, hb, hml, hown, hts⟩ (j_comes l dC dI cI cJ cQ H.size hx f1 2 aLa aPa aGe aFl aTr aBe aLu aLo vSf vSm vCo vSh xs xl xf gL gR (gp_12 0) (gp_12 1) (g_8 8) (g_8 9) (g_8 10) (g_8 11) (g_8 12) (g_8 13) (g_8 14) (g_8 15) (g_8 16) (g_8 17) (g_8 0) (g_8 1) (g_8 2) (g_8 3) (g_8 4) (g_8 5) (g_8 6) (g_8 7) vLa l4 a4 n4 f4 vPa l7 a7 n7 f7 vGe l2 a2 n2 f2 vFl xn ff (hh0) (hh1)) (cwV 2 hts (kGV wd_421 wd_977 wd_419 wd_420 wd_2) rfl rfl rfl (by decide +kernel) ⟨Nat.le_of_ble_eq_true rfl, Nat.le_of_ble_eq_true rfl⟩) (k_preV10 (q0 := 0) hK hPc hDc hN rfl) rfl rfl hl.1 rfl (lv_room (Nat.le_of_ble_eq_true rfl)) dX11_mixFlight_22 ⟨by decide +kernel, by decide +kernel⟩) hS (fun q _ h => hFc q h) hFc (fun r_13 u₀ t₀ H1 locs ht hvm hw hB hz1 hk1 hS => ?_)
  obtain ⟨g_14, ga_15, gl_16, gb_17, gp_18⟩ := u₀
  obtain ⟨hP1, hK1, hD1⟩ := hB
  rw [ht] at hP1
  have hJ := k_jn (wr := [(kX0 aBe k0 k1 k2 k3), (kX5 aLu vLu ab be), (kAJ vLu cJ 46 fl), (kAI vSf cI 8 sf), (kAI vSm cI 8 sm)]) (wt := [(kX0 aBe k0 k1 k2 k3), (kX5 aLu vLu ab be), (kAJ vLu cJ 46 fl), (kAI vSf cI 8 sf), (kAI vSm cI 8 sm), (kX11 hx aLa aPa aGe aFl aTr aBe aLu aLo vSf vSm vCo vSh xs xl xf), (kX10 aTr aLa aPa aGe gL gR (gp_18 0) (gp_18 1) (g_14 8) (g_14 9) (g_14 10) (g_14 11) (g_14 12) (g_14 13) (g_14 14) (g_14 15) (g_14 16) (g_14 17)), (kX3 gL (g_14 0) (g_14 1) (g_14 2) (g_14 3)), (kX3 gR (g_14 4) (g_14 5) (g_14 6) (g_14 7)), (kX4 aLa vLa l4 a4 n4), (kAI vLa cI 24 f4), (kX7 aPa vPa l7 a7 n7), (kAI vPa cI 39 f7), (kX2 aGe vGe l2 a2 n2), (kAI vGe cI 23 f2), (kX1 aFl vFl xn), (kAI vFl cI 32 ff)]) hP hD hC [0, 1, 2, 3, 4] rfl (by decide +kernel) (by decide +kernel) hk1 hFc hP1 hD1 rfl
  clear hP hD hPc hDc hFc hC hP1 hD1 hK1 hz1 hk1 hvm ht
  obtain ⟨hP, hD⟩ := hJ
  generalize H1 = H at hP hS ⊢
  try dsimp only at hw
  refine lv_i2l hx₀ hb dX11_mixFlight_25 rfl ?_
  refine lv_ladd hx₀ hb dX11_mixFlight_26 ?_
  refine lv_lstore (lv' := [(4, .long ((31 * ((31 * ((31 * x1) + r_1.toInt64)) + r_7.toInt64)) + r_13.toInt64)), (6, .int 2), (0, .ref hx), (1, .long x1), (3, .int f1)]) hx₀ hb dX11_mixFlight_27 hl (by decide) rfl (fun ls hl => ?_)
  refine lv_iinc (v := 3) (lv' := [(6, .int 3), (4, .long ((31 * ((31 * ((31 * x1) + r_1.toInt64)) + r_7.toInt64)) + r_13.toInt64)), (0, .ref hx), (1, .long x1), (3, .int f1)]) hx₀ hb dX11_mixFlight_29 hl (k := 1) rfl (by decide +kernel) (by decide) rfl (fun ls hl => ?_)
  refine lv_goto (tgt := 6) hx₀ hb dX11_mixFlight_32 (by decide) ?_
  refine lv_iload hx₀ hb dX11_mixFlight_6 (lv_at hl 0 rfl) ?_
  refine lv_iconst (v := 2) hx₀ hb dX11_mixFlight_8 (by decide +kernel) ?_
  refine lv_icmp_gt (tgt := 35) hx₀ hb dX11_mixFlight_9 (by decide) (fun _ => ?_) (fun c9 => absurd (by decide +kernel) c9)
  refine lv_iconst (v := 0) hx₀ hb dX11_mixFlight_35 (by decide +kernel) ?_
  refine lv_istore (lv' := [(6, .int 0), (4, .long ((31 * ((31 * ((31 * x1) + r_1.toInt64)) + r_7.toInt64)) + r_13.toInt64)), (0, .ref hx), (1, .long x1), (3, .int f1)]) hx₀ hb dX11_mixFlight_36 hl (by decide) rfl (fun ls hl => ?_)
  refine lv_iload hx₀ hb dX11_mixFlight_38 (lv_at hl 0 rfl) ?_
  refine lv_iconst (v := 3) hx₀ hb dX11_mixFlight_40 (by decide +kernel) ?_
  refine lv_icmp_gt (tgt := 68) hx₀ hb dX11_mixFlight_41 (by decide) (fun c9 => absurd c9 (by decide +kernel)) (fun _ => ?_)
  refine lv_ldc2 (v := 31) hx₀ hb hown (hts (.constantLong RX11 274 (31)) wd_966) dX11_mixFlight_44 ?_
  refine lv_lload hx₀ hb dX11_mixFlight_47 (lv_at hl 1 rfl) ?_
  refine lv_lmul hx₀ hb dX11_mixFlight_49 ?_
  refine lv_aload_n hx₀ hb dX11_mixFlight_50 rfl (lv_at hl 2 rfl) ?_
  refine lv_iload_n hx₀ hb dX11_mixFlight_51 rfl (lv_at hl 4 rfl) ?_
  refine lv_iconst (v := 3) hx₀ hb dX11_mixFlight_52 (by decide +kernel) ?_
  refine lv_iload hx₀ hb dX11_mixFlight_53 (lv_at hl 0 rfl) ?_
  obtain ⟨hPc, hDc, hFc, hC⟩ := k_cw (wc := [(kX11 hx aLa aPa aGe aFl aTr aBe aLu aLo vSf vSm vCo vSh xs xl xf), (kX10 aTr aLa aPa aGe gL gR (gp_18 0) (gp_18 1) (g_14 8) (g_14 9) (g_14 10) (g_14 11) (g_14 12) (g_14 13) (g_14 14) (g_14 15) (g_14 16) (g_14 17)), (kX3 gL (g_14 0) (g_14 1) (g_14 2) (g_14 3)), (kX3 gR (g_14 4) (g_14 5) (g_14 6) (g_14 7)), (kX4 aLa vLa l4 a4 n4), (kAI vLa cI 24 f4), (kX7 aPa vPa l7 a7 n7), (kAI vPa cI 39 f7), (kX2 aGe vGe l2 a2 n2), (kAI vGe cI 23 f2), (kX1 aFl vFl xn), (kAI vFl cI 32 ff)]) hP hD hS hA [5, 6, 7, 8, 9, 10, 11, 12, 13, 14, 15, 16] (by decide +kernel) rfl
  refine va_calli (va_runV (As := [.int f1, .int 3, .int 0]) (rest := [.long (31 * ((31 * ((31 * ((31 * x1) + r_1.toInt64)) + r_7.toInt64)) + r_13.toInt64))]) ⟨hx₀, hb, hml, hown, hts⟩ (j_behind l dC dI cI cJ cQ H.size hx f1 3 0 aLa aPa aGe aFl aTr aBe aLu aLo vSf vSm vCo vSh xs xl xf gL gR (gp_18 0) (gp_18 1) (g_14 8) (g_14 9) (g_14 10) (g_14 11) (g_14 12) (g_14 13) (g_14 14) (g_14 15) (g_14 16) (g_14 17) (g_14 0) (g_14 1) (g_14 2) (g_14 3) (g_14 4) (g_14 5) (g_14 6) (g_14 7) vLa l4 a4 n4 f4 vPa l7 a7 n7 f7 vGe l2 a2 n2 f2 vFl xn ff (hh0) (hh1)) (cwV 3 hts (kGV wd_572 wd_978 wd_570 wd_571 wd_2) rfl rfl rfl (by decide +kernel) ⟨Nat.le_of_ble_eq_true rfl, Nat.le_of_ble_eq_true rfl⟩) (k_preV10 (q0 := 0) hK hPc hDc hN rfl) rfl rfl hl.1 rfl (lv_room (Nat.le_of_ble_eq_true rfl)) dX11_mixFlight_55 ⟨by decide +kernel, by decide +kernel⟩) hS (fun q _ h => hFc q h) hFc (fun r_19 u₀ t₀ H1 locs ht hvm hw hB hz1 hk1 hS => ?_)
  obtain ⟨g_20, ga_21, gl_22, gb_23, gp_24⟩ := u₀
  obtain ⟨hP1, hK1, hD1⟩ := hB
  rw [ht] at hP1
  have hJ := k_jn (wr := [(kX0 aBe k0 k1 k2 k3), (kX5 aLu vLu ab be), (kAJ vLu cJ 46 fl), (kAI vSf cI 8 sf), (kAI vSm cI 8 sm)]) (wt := [(kX0 aBe k0 k1 k2 k3), (kX5 aLu vLu ab be), (kAJ vLu cJ 46 fl), (kAI vSf cI 8 sf), (kAI vSm cI 8 sm), (kX11 hx aLa aPa aGe aFl aTr aBe aLu aLo vSf vSm vCo vSh xs xl xf), (kX10 aTr aLa aPa aGe gL gR (gp_24 0) (gp_24 1) (g_20 8) (g_20 9) (g_20 10) (g_20 11) (g_20 12) (g_20 13) (g_20 14) (g_20 15) (g_20 16) (g_20 17)), (kX3 gL (g_20 0) (g_20 1) (g_20 2) (g_20 3)), (kX3 gR (g_20 4) (g_20 5) (g_20 6) (g_20 7)), (kX4 aLa vLa l4 a4 n4), (kAI vLa cI 24 f4), (kX7 aPa vPa l7 a7 n7), (kAI vPa cI 39 f7), (kX2 aGe vGe l2 a2 n2), (kAI vGe cI 23 f2), (kX1 aFl vFl xn), (kAI vFl cI 32 ff)]) hP hD hC [0, 1, 2, 3, 4] rfl (by decide +kernel) (by decide +kernel) hk1 hFc hP1 hD1 rfl
  clear hP hD hPc hDc hFc hC hP1 hD1 hK1 hz1 hk1 hvm ht
  obtain ⟨hP, hD⟩ := hJ
  generalize H1 = H at hP hS ⊢
  try dsimp only at hw
  refine lv_i2l hx₀ hb dX11_mixFlight_58 rfl ?_
  refine lv_ladd hx₀ hb dX11_mixFlight_59 ?_
  refine lv_lstore (lv' := [(4, .long ((31 * ((31 * ((31 * ((31 * x1) + r_1.toInt64)) + r_7.toInt64)) + r_13.toInt64)) + r_19.toInt64)), (6, .int 0), (0, .ref hx), (1, .long x1), (3, .int f1)]) hx₀ hb dX11_mixFlight_60 hl (by decide) rfl (fun ls hl => ?_)
  refine lv_iinc (v := 1) (lv' := [(6, .int 1), (4, .long ((31 * ((31 * ((31 * ((31 * x1) + r_1.toInt64)) + r_7.toInt64)) + r_13.toInt64)) + r_19.toInt64)), (0, .ref hx), (1, .long x1), (3, .int f1)]) hx₀ hb dX11_mixFlight_62 hl (k := 1) rfl (by decide +kernel) (by decide) rfl (fun ls hl => ?_)
  refine lv_goto (tgt := 38) hx₀ hb dX11_mixFlight_65 (by decide) ?_
  refine lv_iload hx₀ hb dX11_mixFlight_38 (lv_at hl 0 rfl) ?_
  refine lv_iconst (v := 3) hx₀ hb dX11_mixFlight_40 (by decide +kernel) ?_
  refine lv_icmp_gt (tgt := 68) hx₀ hb dX11_mixFlight_41 (by decide) (fun c9 => absurd c9 (by decide +kernel)) (fun _ => ?_)
  refine lv_ldc2 (v := 31) hx₀ hb hown (hts (.constantLong RX11 274 (31)) wd_966) dX11_mixFlight_44 ?_
  refine lv_lload hx₀ hb dX11_mixFlight_47 (lv_at hl 1 rfl) ?_
  refine lv_lmul hx₀ hb dX11_mixFlight_49 ?_
  refine lv_aload_n hx₀ hb dX11_mixFlight_50 rfl (lv_at hl 2 rfl) ?_
  refine lv_iload_n hx₀ hb dX11_mixFlight_51 rfl (lv_at hl 4 rfl) ?_
  refine lv_iconst (v := 3) hx₀ hb dX11_mixFlight_52 (by decide +kernel) ?_
  refine lv_iload hx₀ hb dX11_mixFlight_53 (lv_at hl 0 rfl) ?_
  obtain ⟨hPc, hDc, hFc, hC⟩ := k_cw (wc := [(kX11 hx aLa aPa aGe aFl aTr aBe aLu aLo vSf vSm vCo vSh xs xl xf), (kX10 aTr aLa aPa aGe gL gR (gp_24 0) (gp_24 1) (g_20 8) (g_20 9) (g_20 10) (g_20 11) (g_20 12) (g_20 13) (g_20 14) (g_20 15) (g_20 16) (g_20 17)), (kX3 gL (g_20 0) (g_20 1) (g_20 2) (g_20 3)), (kX3 gR (g_20 4) (g_20 5) (g_20 6) (g_20 7)), (kX4 aLa vLa l4 a4 n4), (kAI vLa cI 24 f4), (kX7 aPa vPa l7 a7 n7), (kAI vPa cI 39 f7), (kX2 aGe vGe l2 a2 n2), (kAI vGe cI 23 f2), (kX1 aFl vFl xn), (kAI vFl cI 32 ff)]) hP hD hS hA [5, 6, 7, 8, 9, 10, 11, 12, 13, 14, 15, 16] (by decide +kernel) rfl
  refine va_calli (va_runV (As := [.int f1, .int 3, .int 1]) (rest := [.long (31 * ((31 * ((31 * ((31 * ((31 * x1) + r_1.toInt64)) + r_7.toInt64)) + r_13.toInt64)) + r_19.toInt64))]) ⟨hx₀, hb, hml, hown, hts⟩ (j_behind l dC dI cI cJ cQ H.size hx f1 3 1 aLa aPa aGe aFl aTr aBe aLu aLo vSf vSm vCo vSh xs xl xf gL gR (gp_24 0) (gp_24 1) (g_20 8) (g_20 9) (g_20 10) (g_20 11) (g_20 12) (g_20 13) (g_20 14) (g_20 15) (g_20 16) (g_20 17) (g_20 0) (g_20 1) (g_20 2) (g_20 3) (g_20 4) (g_20 5) (g_20 6) (g_20 7) vLa l4 a4 n4 f4 vPa l7 a7 n7 f7 vGe l2 a2 n2 f2 vFl xn ff (hh0) (hh1)) (cwV 3 hts (kGV wd_572 wd_978 wd_570 wd_571 wd_2) rfl rfl rfl (by decide +kernel) ⟨Nat.le_of_ble_eq_true rfl, Nat.le_of_ble_eq_true rfl⟩) (k_preV10 (q0 := 0) hK hPc hDc hN rfl) rfl rfl hl.1 rfl (lv_room (Nat.le_of_ble_eq_true rfl)) dX11_mixFlight_55 ⟨by decide +kernel, by decide +kernel⟩) hS (fun q _ h => hFc q h) hFc (fun r_25 u₀ t₀ H1 locs ht hvm hw hB hz1 hk1 hS => ?_)
  obtain ⟨g_26, ga_27, gl_28, gb_29, gp_30⟩ := u₀
  obtain ⟨hP1, hK1, hD1⟩ := hB
  rw [ht] at hP1
  have hJ := k_jn (wr := [(kX0 aBe k0 k1 k2 k3), (kX5 aLu vLu ab be), (kAJ vLu cJ 46 fl), (kAI vSf cI 8 sf), (kAI vSm cI 8 sm)]) (wt := [(kX0 aBe k0 k1 k2 k3), (kX5 aLu vLu ab be), (kAJ vLu cJ 46 fl), (kAI vSf cI 8 sf), (kAI vSm cI 8 sm), (kX11 hx aLa aPa aGe aFl aTr aBe aLu aLo vSf vSm vCo vSh xs xl xf), (kX10 aTr aLa aPa aGe gL gR (gp_30 0) (gp_30 1) (g_26 8) (g_26 9) (g_26 10) (g_26 11) (g_26 12) (g_26 13) (g_26 14) (g_26 15) (g_26 16) (g_26 17)), (kX3 gL (g_26 0) (g_26 1) (g_26 2) (g_26 3)), (kX3 gR (g_26 4) (g_26 5) (g_26 6) (g_26 7)), (kX4 aLa vLa l4 a4 n4), (kAI vLa cI 24 f4), (kX7 aPa vPa l7 a7 n7), (kAI vPa cI 39 f7), (kX2 aGe vGe l2 a2 n2), (kAI vGe cI 23 f2), (kX1 aFl vFl xn), (kAI vFl cI 32 ff)]) hP hD hC [0, 1, 2, 3, 4] rfl (by decide +kernel) (by decide +kernel) hk1 hFc hP1 hD1 rfl
  clear hP hD hPc hDc hFc hC hP1 hD1 hK1 hz1 hk1 hvm ht
  obtain ⟨hP, hD⟩ := hJ
  generalize H1 = H at hP hS ⊢
  try dsimp only at hw
  refine lv_i2l hx₀ hb dX11_mixFlight_58 rfl ?_
  refine lv_ladd hx₀ hb dX11_mixFlight_59 ?_
  refine lv_lstore (lv' := [(4, .long ((31 * ((31 * ((31 * ((31 * ((31 * x1) + r_1.toInt64)) + r_7.toInt64)) + r_13.toInt64)) + r_19.toInt64)) + r_25.toInt64)), (6, .int 1), (0, .ref hx), (1, .long x1), (3, .int f1)]) hx₀ hb dX11_mixFlight_60 hl (by decide) rfl (fun ls hl => ?_)
  refine lv_iinc (v := 2) (lv' := [(6, .int 2), (4, .long ((31 * ((31 * ((31 * ((31 * ((31 * x1) + r_1.toInt64)) + r_7.toInt64)) + r_13.toInt64)) + r_19.toInt64)) + r_25.toInt64)), (0, .ref hx), (1, .long x1), (3, .int f1)]) hx₀ hb dX11_mixFlight_62 hl (k := 1) rfl (by decide +kernel) (by decide) rfl (fun ls hl => ?_)
  refine lv_goto (tgt := 38) hx₀ hb dX11_mixFlight_65 (by decide) ?_
  refine lv_iload hx₀ hb dX11_mixFlight_38 (lv_at hl 0 rfl) ?_
  refine lv_iconst (v := 3) hx₀ hb dX11_mixFlight_40 (by decide +kernel) ?_
  refine lv_icmp_gt (tgt := 68) hx₀ hb dX11_mixFlight_41 (by decide) (fun c9 => absurd c9 (by decide +kernel)) (fun _ => ?_)
  refine lv_ldc2 (v := 31) hx₀ hb hown (hts (.constantLong RX11 274 (31)) wd_966) dX11_mixFlight_44 ?_
  refine lv_lload hx₀ hb dX11_mixFlight_47 (lv_at hl 1 rfl) ?_
  refine lv_lmul hx₀ hb dX11_mixFlight_49 ?_
  refine lv_aload_n hx₀ hb dX11_mixFlight_50 rfl (lv_at hl 2 rfl) ?_
  refine lv_iload_n hx₀ hb dX11_mixFlight_51 rfl (lv_at hl 4 rfl) ?_
  refine lv_iconst (v := 3) hx₀ hb dX11_mixFlight_52 (by decide +kernel) ?_
  refine lv_iload hx₀ hb dX11_mixFlight_53 (lv_at hl 0 rfl) ?_
  obtain ⟨hPc, hDc, hFc, hC⟩ := k_cw (wc := [(kX11 hx aLa aPa aGe aFl aTr aBe aLu aLo vSf vSm vCo vSh xs xl xf), (kX10 aTr aLa aPa aGe gL gR (gp_30 0) (gp_30 1) (g_26 8) (g_26 9) (g_26 10) (g_26 11) (g_26 12) (g_26 13) (g_26 14) (g_26 15) (g_26 16) (g_26 17)), (kX3 gL (g_26 0) (g_26 1) (g_26 2) (g_26 3)), (kX3 gR (g_26 4) (g_26 5) (g_26 6) (g_26 7)), (kX4 aLa vLa l4 a4 n4), (kAI vLa cI 24 f4), (kX7 aPa vPa l7 a7 n7), (kAI vPa cI 39 f7), (kX2 aGe vGe l2 a2 n2), (kAI vGe cI 23 f2), (kX1 aFl vFl xn), (kAI vFl cI 32 ff)]) hP hD hS hA [5, 6, 7, 8, 9, 10, 11, 12, 13, 14, 15, 16] (by decide +kernel) rfl
  refine va_calli (va_runV (As := [.int f1, .int 3, .int 2]) (rest := [.long (31 * ((31 * ((31 * ((31 * ((31 * ((31 * x1) + r_1.toInt64)) + r_7.toInt64)) + r_13.toInt64)) + r_19.toInt64)) + r_25.toInt64))]) ⟨hx₀, hb, hml, hown, hts⟩ (j_behind l dC dI cI cJ cQ H.size hx f1 3 2 aLa aPa aGe aFl aTr aBe aLu aLo vSf vSm vCo vSh xs xl xf gL gR (gp_30 0) (gp_30 1) (g_26 8) (g_26 9) (g_26 10) (g_26 11) (g_26 12) (g_26 13) (g_26 14) (g_26 15) (g_26 16) (g_26 17) (g_26 0) (g_26 1) (g_26 2) (g_26 3) (g_26 4) (g_26 5) (g_26 6) (g_26 7) vLa l4 a4 n4 f4 vPa l7 a7 n7 f7 vGe l2 a2 n2 f2 vFl xn ff (hh0) (hh1)) (cwV 3 hts (kGV wd_572 wd_978 wd_570 wd_571 wd_2) rfl rfl rfl (by decide +kernel) ⟨Nat.le_of_ble_eq_true rfl, Nat.le_of_ble_eq_true rfl⟩) (k_preV10 (q0 := 0) hK hPc hDc hN rfl) rfl rfl hl.1 rfl (lv_room (Nat.le_of_ble_eq_true rfl)) dX11_mixFlight_55 ⟨by decide +kernel, by decide +kernel⟩) hS (fun q _ h => hFc q h) hFc (fun r_31 u₀ t₀ H1 locs ht hvm hw hB hz1 hk1 hS => ?_)
  obtain ⟨g_32, ga_33, gl_34, gb_35, gp_36⟩ := u₀
  obtain ⟨hP1, hK1, hD1⟩ := hB
  rw [ht] at hP1
  have hJ := k_jn (wr := [(kX0 aBe k0 k1 k2 k3), (kX5 aLu vLu ab be), (kAJ vLu cJ 46 fl), (kAI vSf cI 8 sf), (kAI vSm cI 8 sm)]) (wt := [(kX0 aBe k0 k1 k2 k3), (kX5 aLu vLu ab be), (kAJ vLu cJ 46 fl), (kAI vSf cI 8 sf), (kAI vSm cI 8 sm), (kX11 hx aLa aPa aGe aFl aTr aBe aLu aLo vSf vSm vCo vSh xs xl xf), (kX10 aTr aLa aPa aGe gL gR (gp_36 0) (gp_36 1) (g_32 8) (g_32 9) (g_32 10) (g_32 11) (g_32 12) (g_32 13) (g_32 14) (g_32 15) (g_32 16) (g_32 17)), (kX3 gL (g_32 0) (g_32 1) (g_32 2) (g_32 3)), (kX3 gR (g_32 4) (g_32 5) (g_32 6) (g_32 7)), (kX4 aLa vLa l4 a4 n4), (kAI vLa cI 24 f4), (kX7 aPa vPa l7 a7 n7), (kAI vPa cI 39 f7), (kX2 aGe vGe l2 a2 n2), (kAI vGe cI 23 f2), (kX1 aFl vFl xn), (kAI vFl cI 32 ff)]) hP hD hC [0, 1, 2, 3, 4] rfl (by decide +kernel) (by decide +kernel) hk1 hFc hP1 hD1 rfl
  clear hP hD hPc hDc hFc hC hP1 hD1 hK1 hz1 hk1 hvm ht
  obtain ⟨hP, hD⟩ := hJ
  generalize H1 = H at hP hS ⊢
  try dsimp only at hw
  refine lv_i2l hx₀ hb dX11_mixFlight_58 rfl ?_
  refine lv_ladd hx₀ hb dX11_mixFlight_59 ?_
  refine lv_lstore (lv' := [(4, .long ((31 * ((31 * ((31 * ((31 * ((31 * ((31 * x1) + r_1.toInt64)) + r_7.toInt64)) + r_13.toInt64)) + r_19.toInt64)) + r_25.toInt64)) + r_31.toInt64)), (6, .int 2), (0, .ref hx), (1, .long x1), (3, .int f1)]) hx₀ hb dX11_mixFlight_60 hl (by decide) rfl (fun ls hl => ?_)
  refine lv_iinc (v := 3) (lv' := [(6, .int 3), (4, .long ((31 * ((31 * ((31 * ((31 * ((31 * ((31 * x1) + r_1.toInt64)) + r_7.toInt64)) + r_13.toInt64)) + r_19.toInt64)) + r_25.toInt64)) + r_31.toInt64)), (0, .ref hx), (1, .long x1), (3, .int f1)]) hx₀ hb dX11_mixFlight_62 hl (k := 1) rfl (by decide +kernel) (by decide) rfl (fun ls hl => ?_)
  refine lv_goto (tgt := 38) hx₀ hb dX11_mixFlight_65 (by decide) ?_
  refine lv_iload hx₀ hb dX11_mixFlight_38 (lv_at hl 0 rfl) ?_
  refine lv_iconst (v := 3) hx₀ hb dX11_mixFlight_40 (by decide +kernel) ?_
  refine lv_icmp_gt (tgt := 68) hx₀ hb dX11_mixFlight_41 (by decide) (fun c9 => absurd c9 (by decide +kernel)) (fun _ => ?_)
  refine lv_ldc2 (v := 31) hx₀ hb hown (hts (.constantLong RX11 274 (31)) wd_966) dX11_mixFlight_44 ?_
  refine lv_lload hx₀ hb dX11_mixFlight_47 (lv_at hl 1 rfl) ?_
  refine lv_lmul hx₀ hb dX11_mixFlight_49 ?_
  refine lv_aload_n hx₀ hb dX11_mixFlight_50 rfl (lv_at hl 2 rfl) ?_
  refine lv_iload_n hx₀ hb dX11_mixFlight_51 rfl (lv_at hl 4 rfl) ?_
  refine lv_iconst (v := 3) hx₀ hb dX11_mixFlight_52 (by decide +kernel) ?_
  refine lv_iload hx₀ hb dX11_mixFlight_53 (lv_at hl 0 rfl) ?_
  obtain ⟨hPc, hDc, hFc, hC⟩ := k_cw (wc := [(kX11 hx aLa aPa aGe aFl aTr aBe aLu aLo vSf vSm vCo vSh xs xl xf), (kX10 aTr aLa aPa aGe gL gR (gp_36 0) (gp_36 1) (g_32 8) (g_32 9) (g_32 10) (g_32 11) (g_32 12) (g_32 13) (g_32 14) (g_32 15) (g_32 16) (g_32 17)), (kX3 gL (g_32 0) (g_32 1) (g_32 2) (g_32 3)), (kX3 gR (g_32 4) (g_32 5) (g_32 6) (g_32 7)), (kX4 aLa vLa l4 a4 n4), (kAI vLa cI 24 f4), (kX7 aPa vPa l7 a7 n7), (kAI vPa cI 39 f7), (kX2 aGe vGe l2 a2 n2), (kAI vGe cI 23 f2), (kX1 aFl vFl xn), (kAI vFl cI 32 ff)]) hP hD hS hA [5, 6, 7, 8, 9, 10, 11, 12, 13, 14, 15, 16] (by decide +kernel) rfl
  refine va_calli (va_runV (As := [.int f1, .int 3, .int 3]) (rest := [.long (31 * ((31 * ((31 * ((31 * ((31 * ((31 * ((31 * x1) + r_1.toInt64)) + r_7.toInt64)) + r_13.toInt64)) + r_19.toInt64)) + r_25.toInt64)) + r_31.toInt64))]) ⟨hx₀, hb, hml, hown, hts⟩ (j_behind l dC dI cI cJ cQ H.size hx f1 3 3 aLa aPa aGe aFl aTr aBe aLu aLo vSf vSm vCo vSh xs xl xf gL gR (gp_36 0) (gp_36 1) (g_32 8) (g_32 9) (g_32 10) (g_32 11) (g_32 12) (g_32 13) (g_32 14) (g_32 15) (g_32 16) (g_32 17) (g_32 0) (g_32 1) (g_32 2) (g_32 3) (g_32 4) (g_32 5) (g_32 6) (g_32 7) vLa l4 a4 n4 f4 vPa l7 a7 n7 f7 vGe l2 a2 n2 f2 vFl xn ff (hh0) (hh1)) (cwV 3 hts (kGV wd_572 wd_978 wd_570 wd_571 wd_2) rfl rfl rfl (by decide +kernel) ⟨Nat.le_of_ble_eq_true rfl, Nat.le_of_ble_eq_true rfl⟩) (k_preV10 (q0 := 0) hK hPc hDc hN rfl) rfl rfl hl.1 rfl (lv_room (Nat.le_of_ble_eq_true rfl)) dX11_mixFlight_55 ⟨by decide +kernel, by decide +kernel⟩) hS (fun q _ h => hFc q h) hFc (fun r_37 u₀ t₀ H1 locs ht hvm hw hB hz1 hk1 hS => ?_)
  obtain ⟨g_38, ga_39, gl_40, gb_41, gp_42⟩ := u₀
  obtain ⟨hP1, hK1, hD1⟩ := hB
  rw [ht] at hP1
  have hJ := k_jn (wr := [(kX0 aBe k0 k1 k2 k3), (kX5 aLu vLu ab be), (kAJ vLu cJ 46 fl), (kAI vSf cI 8 sf), (kAI vSm cI 8 sm)]) (wt := [(kX0 aBe k0 k1 k2 k3), (kX5 aLu vLu ab be), (kAJ vLu cJ 46 fl), (kAI vSf cI 8 sf), (kAI vSm cI 8 sm), (kX11 hx aLa aPa aGe aFl aTr aBe aLu aLo vSf vSm vCo vSh xs xl xf), (kX10 aTr aLa aPa aGe gL gR (gp_42 0) (gp_42 1) (g_38 8) (g_38 9) (g_38 10) (g_38 11) (g_38 12) (g_38 13) (g_38 14) (g_38 15) (g_38 16) (g_38 17)), (kX3 gL (g_38 0) (g_38 1) (g_38 2) (g_38 3)), (kX3 gR (g_38 4) (g_38 5) (g_38 6) (g_38 7)), (kX4 aLa vLa l4 a4 n4), (kAI vLa cI 24 f4), (kX7 aPa vPa l7 a7 n7), (kAI vPa cI 39 f7), (kX2 aGe vGe l2 a2 n2), (kAI vGe cI 23 f2), (kX1 aFl vFl xn), (kAI vFl cI 32 ff)]) hP hD hC [0, 1, 2, 3, 4] rfl (by decide +kernel) (by decide +kernel) hk1 hFc hP1 hD1 rfl
  clear hP hD hPc hDc hFc hC hP1 hD1 hK1 hz1 hk1 hvm ht
  obtain ⟨hP, hD⟩ := hJ
  generalize H1 = H at hP hS ⊢
  try dsimp only at hw
  refine lv_i2l hx₀ hb dX11_mixFlight_58 rfl ?_
  refine lv_ladd hx₀ hb dX11_mixFlight_59 ?_
  refine lv_lstore (lv' := [(4, .long ((31 * ((31 * ((31 * ((31 * ((31 * ((31 * ((31 * x1) + r_1.toInt64)) + r_7.toInt64)) + r_13.toInt64)) + r_19.toInt64)) + r_25.toInt64)) + r_31.toInt64)) + r_37.toInt64)), (6, .int 3), (0, .ref hx), (1, .long x1), (3, .int f1)]) hx₀ hb dX11_mixFlight_60 hl (by decide) rfl (fun ls hl => ?_)
  refine lv_iinc (v := 4) (lv' := [(6, .int 4), (4, .long ((31 * ((31 * ((31 * ((31 * ((31 * ((31 * ((31 * x1) + r_1.toInt64)) + r_7.toInt64)) + r_13.toInt64)) + r_19.toInt64)) + r_25.toInt64)) + r_31.toInt64)) + r_37.toInt64)), (0, .ref hx), (1, .long x1), (3, .int f1)]) hx₀ hb dX11_mixFlight_62 hl (k := 1) rfl (by decide +kernel) (by decide) rfl (fun ls hl => ?_)
  refine lv_goto (tgt := 38) hx₀ hb dX11_mixFlight_65 (by decide) ?_
  refine lv_iload hx₀ hb dX11_mixFlight_38 (lv_at hl 0 rfl) ?_
  refine lv_iconst (v := 3) hx₀ hb dX11_mixFlight_40 (by decide +kernel) ?_
  refine lv_icmp_gt (tgt := 68) hx₀ hb dX11_mixFlight_41 (by decide) (fun _ => ?_) (fun c9 => absurd (by decide +kernel) c9)
  refine lv_ldc2 (v := 31) hx₀ hb hown (hts (.constantLong RX11 274 (31)) wd_966) dX11_mixFlight_68 ?_
  refine lv_lload hx₀ hb dX11_mixFlight_71 (lv_at hl 1 rfl) ?_
  refine lv_lmul hx₀ hb dX11_mixFlight_73 ?_
  refine lv_aload_n hx₀ hb dX11_mixFlight_74 rfl (lv_at hl 2 rfl) ?_
  refine lv_iload_n hx₀ hb dX11_mixFlight_75 rfl (lv_at hl 4 rfl) ?_
  refine lv_iconst (v := (-1)) hx₀ hb dX11_mixFlight_76 (by decide +kernel) ?_
  obtain ⟨hPc, hDc, hFc, hC⟩ := k_cw (wc := [(kX11 hx aLa aPa aGe aFl aTr aBe aLu aLo vSf vSm vCo vSh xs xl xf), (kX10 aTr aLa aPa aGe gL gR (gp_42 0) (gp_42 1) (g_38 8) (g_38 9) (g_38 10) (g_38 11) (g_38 12) (g_38 13) (g_38 14) (g_38 15) (g_38 16) (g_38 17)), (kX3 gL (g_38 0) (g_38 1) (g_38 2) (g_38 3)), (kX3 gR (g_38 4) (g_38 5) (g_38 6) (g_38 7)), (kX4 aLa vLa l4 a4 n4), (kAI vLa cI 24 f4), (kX7 aPa vPa l7 a7 n7), (kAI vPa cI 39 f7), (kX2 aGe vGe l2 a2 n2), (kAI vGe cI 23 f2), (kX1 aFl vFl xn), (kAI vFl cI 32 ff), (kX0 aBe k0 k1 k2 k3)]) hP hD hS hA [5, 6, 7, 8, 9, 10, 11, 12, 13, 14, 15, 16, 0] (by decide +kernel) rfl
  refine va_calli (va_runV (As := [.int f1, .int (-1)]) (rest := [.long (31 * ((31 * ((31 * ((31 * ((31 * ((31 * ((31 * ((31 * x1) + r_1.toInt64)) + r_7.toInt64)) + r_13.toInt64)) + r_19.toInt64)) + r_25.toInt64)) + r_31.toInt64)) + r_37.toInt64))]) ⟨hx₀, hb, hml, hown, hts⟩ (j_climb l dC dI cI cJ cQ H.size hx f1 (-1) aLa aPa aGe aFl aTr aBe aLu aLo vSf vSm vCo vSh xs xl xf gL gR (gp_42 0) (gp_42 1) (g_38 8) (g_38 9) (g_38 10) (g_38 11) (g_38 12) (g_38 13) (g_38 14) (g_38 15) (g_38 16) (g_38 17) (g_38 0) (g_38 1) (g_38 2) (g_38 3) (g_38 4) (g_38 5) (g_38 6) (g_38 7) vLa l4 a4 n4 f4 vPa l7 a7 n7 f7 vGe l2 a2 n2 f2 vFl xn ff k0 k1 k2 k3 (hh0) (hh1)) (cwV 2 hts (kGV wd_614 wd_979 wd_612 wd_613 wd_2) rfl rfl rfl (by decide +kernel) ⟨Nat.le_of_ble_eq_true rfl, Nat.le_of_ble_eq_true rfl⟩) (k_preV10 (q0 := 0) hK hPc hDc hN rfl) rfl rfl hl.1 rfl (lv_room (Nat.le_of_ble_eq_true rfl)) dX11_mixFlight_77 ⟨by decide +kernel, by decide +kernel⟩) hS (fun q _ h => hFc q h) hFc (fun r_43 u₀ t₀ H1 locs ht hvm hw hB hz1 hk1 hS => ?_)
  obtain ⟨g_44, ga_45, gl_46, gb_47, gp_48⟩ := u₀
  obtain ⟨hP1, hK1, hD1⟩ := hB
  rw [ht] at hP1
  have hJ := k_jn (wr := [(kX5 aLu vLu ab be), (kAJ vLu cJ 46 fl), (kAI vSf cI 8 sf), (kAI vSm cI 8 sm)]) (wt := [(kX5 aLu vLu ab be), (kAJ vLu cJ 46 fl), (kAI vSf cI 8 sf), (kAI vSm cI 8 sm), (kX11 hx aLa aPa aGe aFl aTr aBe aLu aLo vSf vSm vCo vSh xs xl xf), (kX10 aTr aLa aPa aGe gL gR (gp_48 0) (gp_48 1) (g_44 8) (g_44 9) (g_44 10) (g_44 11) (g_44 12) (g_44 13) (g_44 14) (g_44 15) (g_44 16) (g_44 17)), (kX3 gL (g_44 0) (g_44 1) (g_44 2) (g_44 3)), (kX3 gR (g_44 4) (g_44 5) (g_44 6) (g_44 7)), (kX4 aLa vLa l4 a4 n4), (kAI vLa cI 24 f4), (kX7 aPa vPa l7 a7 n7), (kAI vPa cI 39 f7), (kX2 aGe vGe l2 a2 n2), (kAI vGe cI 23 f2), (kX1 aFl vFl xn), (kAI vFl cI 32 ff), (kX0 aBe (g_44 18) (g_44 19) (g_44 20) (g_44 21))]) hP hD hC [1, 2, 3, 4] rfl (by decide +kernel) (by decide +kernel) hk1 hFc hP1 hD1 rfl
  clear hP hD hPc hDc hFc hC hP1 hD1 hK1 hz1 hk1 hvm ht
  obtain ⟨hP, hD⟩ := hJ
  generalize H1 = H at hP hS ⊢
  try dsimp only at hw
  refine lv_i2l hx₀ hb dX11_mixFlight_80 rfl ?_
  refine lv_ladd hx₀ hb dX11_mixFlight_81 ?_
  refine lv_lstore (lv' := [(4, .long ((31 * ((31 * ((31 * ((31 * ((31 * ((31 * ((31 * ((31 * x1) + r_1.toInt64)) + r_7.toInt64)) + r_13.toInt64)) + r_19.toInt64)) + r_25.toInt64)) + r_31.toInt64)) + r_37.toInt64)) + r_43.toInt64)), (6, .int 4), (0, .ref hx), (1, .long x1), (3, .int f1)]) hx₀ hb dX11_mixFlight_82 hl (by decide) rfl (fun ls hl => ?_)
  refine lv_iconst (v := 0) hx₀ hb dX11_mixFlight_84 (by decide +kernel) ?_
  refine lv_istore (lv' := [(6, .int 0), (4, .long ((31 * ((31 * ((31 * ((31 * ((31 * ((31 * ((31 * ((31 * x1) + r_1.toInt64)) + r_7.toInt64)) + r_13.toInt64)) + r_19.toInt64)) + r_25.toInt64)) + r_31.toInt64)) + r_37.toInt64)) + r_43.toInt64)), (0, .ref hx), (1, .long x1), (3, .int f1)]) hx₀ hb dX11_mixFlight_85 hl (by decide) rfl (fun ls hl => ?_)
  refine lv_iload hx₀ hb dX11_mixFlight_87 (lv_at hl 0 rfl) ?_
  refine lv_iconst (v := 2) hx₀ hb dX11_mixFlight_89 (by decide +kernel) ?_
  refine lv_icmp_gt (tgt := 118) hx₀ hb dX11_mixFlight_90 (by decide) (fun c9 => absurd c9 (by decide +kernel)) (fun _ => ?_)
  refine lv_ldc2 (v := 31) hx₀ hb hown (hts (.constantLong RX11 274 (31)) wd_966) dX11_mixFlight_93 ?_
  refine lv_lload hx₀ hb dX11_mixFlight_96 (lv_at hl 1 rfl) ?_
  refine lv_lmul hx₀ hb dX11_mixFlight_98 ?_
  refine lv_aload_n hx₀ hb dX11_mixFlight_99 rfl (lv_at hl 2 rfl) ?_
  refine va_get (D := (dC, dI)) (ci := 10) (v := .ref aBe) (C := RX11) (T := TX11) (N := 15) hx₀ hb hts inlX11 hown hK hP 4 rfl rfl 5 (by decide) (hts (.fieldLink RX11 49 "BittenStick" "best" "LBittenStick$Climb;") wd_35) (fun _ h9 => h9) rfl dX11_mixFlight_100 ?_
  refine lv_iload hx₀ hb dX11_mixFlight_103 (lv_at hl 0 rfl) ?_
  obtain ⟨hPc, hDc, hFc, hC⟩ := k_cw (wc := [(kX0 aBe (g_44 18) (g_44 19) (g_44 20) (g_44 21))]) hP hD hS hA [16] (by decide +kernel) rfl
  refine va_calli (va_runV (As := [.int 0]) (rest := [.long (31 * ((31 * ((31 * ((31 * ((31 * ((31 * ((31 * ((31 * ((31 * x1) + r_1.toInt64)) + r_7.toInt64)) + r_13.toInt64)) + r_19.toInt64)) + r_25.toInt64)) + r_31.toInt64)) + r_37.toInt64)) + r_43.toInt64))]) ⟨hx₀, hb, hml, hown, hts⟩ (j_cTold l dC dI cI cJ cQ H.size aBe 0 (g_44 18) (g_44 19) (g_44 20) (g_44 21)) (cwV 1 hts (kGV wd_640 wd_637 wd_638 wd_639 wd_34) rfl rfl rfl (by decide +kernel) ⟨Nat.le_of_ble_eq_true rfl, Nat.le_of_ble_eq_true rfl⟩) (k_preV0 (q0 := 0) hK hPc hDc hN rfl) rfl rfl hl.1 rfl (lv_room (Nat.le_of_ble_eq_true rfl)) dX11_mixFlight_105 ⟨by decide +kernel, by decide +kernel⟩) hS (fun q _ h => hFc q h) hFc (fun r_49 u₀ t₀ H1 locs ht hvm hw hB hz1 hk1 hS => ?_)
  obtain ⟨hP1, hK1, hD1⟩ := hB
  rw [ht] at hP1
  have hJ := k_jn (wr := [(kX5 aLu vLu ab be), (kAJ vLu cJ 46 fl), (kAI vSf cI 8 sf), (kAI vSm cI 8 sm), (kX11 hx aLa aPa aGe aFl aTr aBe aLu aLo vSf vSm vCo vSh xs xl xf), (kX10 aTr aLa aPa aGe gL gR (gp_48 0) (gp_48 1) (g_44 8) (g_44 9) (g_44 10) (g_44 11) (g_44 12) (g_44 13) (g_44 14) (g_44 15) (g_44 16) (g_44 17)), (kX3 gL (g_44 0) (g_44 1) (g_44 2) (g_44 3)), (kX3 gR (g_44 4) (g_44 5) (g_44 6) (g_44 7)), (kX4 aLa vLa l4 a4 n4), (kAI vLa cI 24 f4), (kX7 aPa vPa l7 a7 n7), (kAI vPa cI 39 f7), (kX2 aGe vGe l2 a2 n2), (kAI vGe cI 23 f2), (kX1 aFl vFl xn), (kAI vFl cI 32 ff)]) (wt := [(kX5 aLu vLu ab be), (kAJ vLu cJ 46 fl), (kAI vSf cI 8 sf), (kAI vSm cI 8 sm), (kX11 hx aLa aPa aGe aFl aTr aBe aLu aLo vSf vSm vCo vSh xs xl xf), (kX10 aTr aLa aPa aGe gL gR (gp_48 0) (gp_48 1) (g_44 8) (g_44 9) (g_44 10) (g_44 11) (g_44 12) (g_44 13) (g_44 14) (g_44 15) (g_44 16) (g_44 17)), (kX3 gL (g_44 0) (g_44 1) (g_44 2) (g_44 3)), (kX3 gR (g_44 4) (g_44 5) (g_44 6) (g_44 7)), (kX4 aLa vLa l4 a4 n4), (kAI vLa cI 24 f4), (kX7 aPa vPa l7 a7 n7), (kAI vPa cI 39 f7), (kX2 aGe vGe l2 a2 n2), (kAI vGe cI 23 f2), (kX1 aFl vFl xn), (kAI vFl cI 32 ff), (kX0 aBe (g_44 18) (g_44 19) (g_44 20) (g_44 21))]) hP hD hC [0, 1, 2, 3, 4, 5, 6, 7, 8, 9, 10, 11, 12, 13, 14, 15] rfl (by decide +kernel) (by decide +kernel) hk1 hFc hP1 hD1 rfl
  clear hP hD hPc hDc hFc hC hP1 hD1 hK1 hz1 hk1 hvm ht
  obtain ⟨hP, hD⟩ := hJ
  generalize H1 = H at hP hS ⊢
  try dsimp only at hw
  refine lv_i2l hx₀ hb dX11_mixFlight_108 rfl ?_
  refine lv_ladd hx₀ hb dX11_mixFlight_109 ?_
  refine lv_lstore (lv' := [(4, .long ((31 * ((31 * ((31 * ((31 * ((31 * ((31 * ((31 * ((31 * ((31 * x1) + r_1.toInt64)) + r_7.toInt64)) + r_13.toInt64)) + r_19.toInt64)) + r_25.toInt64)) + r_31.toInt64)) + r_37.toInt64)) + r_43.toInt64)) + r_49.toInt64)), (6, .int 0), (0, .ref hx), (1, .long x1), (3, .int f1)]) hx₀ hb dX11_mixFlight_110 hl (by decide) rfl (fun ls hl => ?_)
  refine lv_iinc (v := 1) (lv' := [(6, .int 1), (4, .long ((31 * ((31 * ((31 * ((31 * ((31 * ((31 * ((31 * ((31 * ((31 * x1) + r_1.toInt64)) + r_7.toInt64)) + r_13.toInt64)) + r_19.toInt64)) + r_25.toInt64)) + r_31.toInt64)) + r_37.toInt64)) + r_43.toInt64)) + r_49.toInt64)), (0, .ref hx), (1, .long x1), (3, .int f1)]) hx₀ hb dX11_mixFlight_112 hl (k := 1) rfl (by decide +kernel) (by decide) rfl (fun ls hl => ?_)
  refine lv_goto (tgt := 87) hx₀ hb dX11_mixFlight_115 (by decide) ?_
  refine lv_iload hx₀ hb dX11_mixFlight_87 (lv_at hl 0 rfl) ?_
  refine lv_iconst (v := 2) hx₀ hb dX11_mixFlight_89 (by decide +kernel) ?_
  refine lv_icmp_gt (tgt := 118) hx₀ hb dX11_mixFlight_90 (by decide) (fun c9 => absurd c9 (by decide +kernel)) (fun _ => ?_)
  refine lv_ldc2 (v := 31) hx₀ hb hown (hts (.constantLong RX11 274 (31)) wd_966) dX11_mixFlight_93 ?_
  refine lv_lload hx₀ hb dX11_mixFlight_96 (lv_at hl 1 rfl) ?_
  refine lv_lmul hx₀ hb dX11_mixFlight_98 ?_
  refine lv_aload_n hx₀ hb dX11_mixFlight_99 rfl (lv_at hl 2 rfl) ?_
  refine va_get (D := (dC, dI)) (ci := 10) (v := .ref aBe) (C := RX11) (T := TX11) (N := 15) hx₀ hb hts inlX11 hown hK hP 4 rfl rfl 5 (by decide) (hts (.fieldLink RX11 49 "BittenStick" "best" "LBittenStick$Climb;") wd_35) (fun _ h9 => h9) rfl dX11_mixFlight_100 ?_
  refine lv_iload hx₀ hb dX11_mixFlight_103 (lv_at hl 0 rfl) ?_
  obtain ⟨hPc, hDc, hFc, hC⟩ := k_cw (wc := [(kX0 aBe (g_44 18) (g_44 19) (g_44 20) (g_44 21))]) hP hD hS hA [16] (by decide +kernel) rfl
  refine va_calli (va_runV (As := [.int 1]) (rest := [.long (31 * ((31 * ((31 * ((31 * ((31 * ((31 * ((31 * ((31 * ((31 * ((31 * x1) + r_1.toInt64)) + r_7.toInt64)) + r_13.toInt64)) + r_19.toInt64)) + r_25.toInt64)) + r_31.toInt64)) + r_37.toInt64)) + r_43.toInt64)) + r_49.toInt64))]) ⟨hx₀, hb, hml, hown, hts⟩ (j_cTold l dC dI cI cJ cQ H.size aBe 1 (g_44 18) (g_44 19) (g_44 20) (g_44 21)) (cwV 1 hts (kGV wd_640 wd_637 wd_638 wd_639 wd_34) rfl rfl rfl (by decide +kernel) ⟨Nat.le_of_ble_eq_true rfl, Nat.le_of_ble_eq_true rfl⟩) (k_preV0 (q0 := 0) hK hPc hDc hN rfl) rfl rfl hl.1 rfl (lv_room (Nat.le_of_ble_eq_true rfl)) dX11_mixFlight_105 ⟨by decide +kernel, by decide +kernel⟩) hS (fun q _ h => hFc q h) hFc (fun r_50 u₀ t₀ H1 locs ht hvm hw hB hz1 hk1 hS => ?_)
  obtain ⟨hP1, hK1, hD1⟩ := hB
  rw [ht] at hP1
  have hJ := k_jn (wr := [(kX5 aLu vLu ab be), (kAJ vLu cJ 46 fl), (kAI vSf cI 8 sf), (kAI vSm cI 8 sm), (kX11 hx aLa aPa aGe aFl aTr aBe aLu aLo vSf vSm vCo vSh xs xl xf), (kX10 aTr aLa aPa aGe gL gR (gp_48 0) (gp_48 1) (g_44 8) (g_44 9) (g_44 10) (g_44 11) (g_44 12) (g_44 13) (g_44 14) (g_44 15) (g_44 16) (g_44 17)), (kX3 gL (g_44 0) (g_44 1) (g_44 2) (g_44 3)), (kX3 gR (g_44 4) (g_44 5) (g_44 6) (g_44 7)), (kX4 aLa vLa l4 a4 n4), (kAI vLa cI 24 f4), (kX7 aPa vPa l7 a7 n7), (kAI vPa cI 39 f7), (kX2 aGe vGe l2 a2 n2), (kAI vGe cI 23 f2), (kX1 aFl vFl xn), (kAI vFl cI 32 ff)]) (wt := [(kX5 aLu vLu ab be), (kAJ vLu cJ 46 fl), (kAI vSf cI 8 sf), (kAI vSm cI 8 sm), (kX11 hx aLa aPa aGe aFl aTr aBe aLu aLo vSf vSm vCo vSh xs xl xf), (kX10 aTr aLa aPa aGe gL gR (gp_48 0) (gp_48 1) (g_44 8) (g_44 9) (g_44 10) (g_44 11) (g_44 12) (g_44 13) (g_44 14) (g_44 15) (g_44 16) (g_44 17)), (kX3 gL (g_44 0) (g_44 1) (g_44 2) (g_44 3)), (kX3 gR (g_44 4) (g_44 5) (g_44 6) (g_44 7)), (kX4 aLa vLa l4 a4 n4), (kAI vLa cI 24 f4), (kX7 aPa vPa l7 a7 n7), (kAI vPa cI 39 f7), (kX2 aGe vGe l2 a2 n2), (kAI vGe cI 23 f2), (kX1 aFl vFl xn), (kAI vFl cI 32 ff), (kX0 aBe (g_44 18) (g_44 19) (g_44 20) (g_44 21))]) hP hD hC [0, 1, 2, 3, 4, 5, 6, 7, 8, 9, 10, 11, 12, 13, 14, 15] rfl (by decide +kernel) (by decide +kernel) hk1 hFc hP1 hD1 rfl
  clear hP hD hPc hDc hFc hC hP1 hD1 hK1 hz1 hk1 hvm ht
  obtain ⟨hP, hD⟩ := hJ
  generalize H1 = H at hP hS ⊢
  try dsimp only at hw
  refine lv_i2l hx₀ hb dX11_mixFlight_108 rfl ?_
  refine lv_ladd hx₀ hb dX11_mixFlight_109 ?_
  refine lv_lstore (lv' := [(4, .long ((31 * ((31 * ((31 * ((31 * ((31 * ((31 * ((31 * ((31 * ((31 * ((31 * x1) + r_1.toInt64)) + r_7.toInt64)) + r_13.toInt64)) + r_19.toInt64)) + r_25.toInt64)) + r_31.toInt64)) + r_37.toInt64)) + r_43.toInt64)) + r_49.toInt64)) + r_50.toInt64)), (6, .int 1), (0, .ref hx), (1, .long x1), (3, .int f1)]) hx₀ hb dX11_mixFlight_110 hl (by decide) rfl (fun ls hl => ?_)
  refine lv_iinc (v := 2) (lv' := [(6, .int 2), (4, .long ((31 * ((31 * ((31 * ((31 * ((31 * ((31 * ((31 * ((31 * ((31 * ((31 * x1) + r_1.toInt64)) + r_7.toInt64)) + r_13.toInt64)) + r_19.toInt64)) + r_25.toInt64)) + r_31.toInt64)) + r_37.toInt64)) + r_43.toInt64)) + r_49.toInt64)) + r_50.toInt64)), (0, .ref hx), (1, .long x1), (3, .int f1)]) hx₀ hb dX11_mixFlight_112 hl (k := 1) rfl (by decide +kernel) (by decide) rfl (fun ls hl => ?_)
  refine lv_goto (tgt := 87) hx₀ hb dX11_mixFlight_115 (by decide) ?_
  refine lv_iload hx₀ hb dX11_mixFlight_87 (lv_at hl 0 rfl) ?_
  refine lv_iconst (v := 2) hx₀ hb dX11_mixFlight_89 (by decide +kernel) ?_
  refine lv_icmp_gt (tgt := 118) hx₀ hb dX11_mixFlight_90 (by decide) (fun c9 => absurd c9 (by decide +kernel)) (fun _ => ?_)
  refine lv_ldc2 (v := 31) hx₀ hb hown (hts (.constantLong RX11 274 (31)) wd_966) dX11_mixFlight_93 ?_
  refine lv_lload hx₀ hb dX11_mixFlight_96 (lv_at hl 1 rfl) ?_
  refine lv_lmul hx₀ hb dX11_mixFlight_98 ?_
  refine lv_aload_n hx₀ hb dX11_mixFlight_99 rfl (lv_at hl 2 rfl) ?_
  refine va_get (D := (dC, dI)) (ci := 10) (v := .ref aBe) (C := RX11) (T := TX11) (N := 15) hx₀ hb hts inlX11 hown hK hP 4 rfl rfl 5 (by decide) (hts (.fieldLink RX11 49 "BittenStick" "best" "LBittenStick$Climb;") wd_35) (fun _ h9 => h9) rfl dX11_mixFlight_100 ?_
  refine lv_iload hx₀ hb dX11_mixFlight_103 (lv_at hl 0 rfl) ?_
  obtain ⟨hPc, hDc, hFc, hC⟩ := k_cw (wc := [(kX0 aBe (g_44 18) (g_44 19) (g_44 20) (g_44 21))]) hP hD hS hA [16] (by decide +kernel) rfl
  refine va_calli (va_runV (As := [.int 2]) (rest := [.long (31 * ((31 * ((31 * ((31 * ((31 * ((31 * ((31 * ((31 * ((31 * ((31 * ((31 * x1) + r_1.toInt64)) + r_7.toInt64)) + r_13.toInt64)) + r_19.toInt64)) + r_25.toInt64)) + r_31.toInt64)) + r_37.toInt64)) + r_43.toInt64)) + r_49.toInt64)) + r_50.toInt64))]) ⟨hx₀, hb, hml, hown, hts⟩ (j_cTold l dC dI cI cJ cQ H.size aBe 2 (g_44 18) (g_44 19) (g_44 20) (g_44 21)) (cwV 1 hts (kGV wd_640 wd_637 wd_638 wd_639 wd_34) rfl rfl rfl (by decide +kernel) ⟨Nat.le_of_ble_eq_true rfl, Nat.le_of_ble_eq_true rfl⟩) (k_preV0 (q0 := 0) hK hPc hDc hN rfl) rfl rfl hl.1 rfl (lv_room (Nat.le_of_ble_eq_true rfl)) dX11_mixFlight_105 ⟨by decide +kernel, by decide +kernel⟩) hS (fun q _ h => hFc q h) hFc (fun r_51 u₀ t₀ H1 locs ht hvm hw hB hz1 hk1 hS => ?_)
  obtain ⟨hP1, hK1, hD1⟩ := hB
  rw [ht] at hP1
  have hJ := k_jn (wr := [(kX5 aLu vLu ab be), (kAJ vLu cJ 46 fl), (kAI vSf cI 8 sf), (kAI vSm cI 8 sm), (kX11 hx aLa aPa aGe aFl aTr aBe aLu aLo vSf vSm vCo vSh xs xl xf), (kX10 aTr aLa aPa aGe gL gR (gp_48 0) (gp_48 1) (g_44 8) (g_44 9) (g_44 10) (g_44 11) (g_44 12) (g_44 13) (g_44 14) (g_44 15) (g_44 16) (g_44 17)), (kX3 gL (g_44 0) (g_44 1) (g_44 2) (g_44 3)), (kX3 gR (g_44 4) (g_44 5) (g_44 6) (g_44 7)), (kX4 aLa vLa l4 a4 n4), (kAI vLa cI 24 f4), (kX7 aPa vPa l7 a7 n7), (kAI vPa cI 39 f7), (kX2 aGe vGe l2 a2 n2), (kAI vGe cI 23 f2), (kX1 aFl vFl xn), (kAI vFl cI 32 ff)]) (wt := [(kX5 aLu vLu ab be), (kAJ vLu cJ 46 fl), (kAI vSf cI 8 sf), (kAI vSm cI 8 sm), (kX11 hx aLa aPa aGe aFl aTr aBe aLu aLo vSf vSm vCo vSh xs xl xf), (kX10 aTr aLa aPa aGe gL gR (gp_48 0) (gp_48 1) (g_44 8) (g_44 9) (g_44 10) (g_44 11) (g_44 12) (g_44 13) (g_44 14) (g_44 15) (g_44 16) (g_44 17)), (kX3 gL (g_44 0) (g_44 1) (g_44 2) (g_44 3)), (kX3 gR (g_44 4) (g_44 5) (g_44 6) (g_44 7)), (kX4 aLa vLa l4 a4 n4), (kAI vLa cI 24 f4), (kX7 aPa vPa l7 a7 n7), (kAI vPa cI 39 f7), (kX2 aGe vGe l2 a2 n2), (kAI vGe cI 23 f2), (kX1 aFl vFl xn), (kAI vFl cI 32 ff), (kX0 aBe (g_44 18) (g_44 19) (g_44 20) (g_44 21))]) hP hD hC [0, 1, 2, 3, 4, 5, 6, 7, 8, 9, 10, 11, 12, 13, 14, 15] rfl (by decide +kernel) (by decide +kernel) hk1 hFc hP1 hD1 rfl
  clear hP hD hPc hDc hFc hC hP1 hD1 hK1 hz1 hk1 hvm ht
  obtain ⟨hP, hD⟩ := hJ
  generalize H1 = H at hP hS ⊢
  try dsimp only at hw
  refine lv_i2l hx₀ hb dX11_mixFlight_108 rfl ?_
  refine lv_ladd hx₀ hb dX11_mixFlight_109 ?_
  refine lv_lstore (lv' := [(4, .long ((31 * ((31 * ((31 * ((31 * ((31 * ((31 * ((31 * ((31 * ((31 * ((31 * ((31 * x1) + r_1.toInt64)) + r_7.toInt64)) + r_13.toInt64)) + r_19.toInt64)) + r_25.toInt64)) + r_31.toInt64)) + r_37.toInt64)) + r_43.toInt64)) + r_49.toInt64)) + r_50.toInt64)) + r_51.toInt64)), (6, .int 2), (0, .ref hx), (1, .long x1), (3, .int f1)]) hx₀ hb dX11_mixFlight_110 hl (by decide) rfl (fun ls hl => ?_)
  refine lv_iinc (v := 3) (lv' := [(6, .int 3), (4, .long ((31 * ((31 * ((31 * ((31 * ((31 * ((31 * ((31 * ((31 * ((31 * ((31 * ((31 * x1) + r_1.toInt64)) + r_7.toInt64)) + r_13.toInt64)) + r_19.toInt64)) + r_25.toInt64)) + r_31.toInt64)) + r_37.toInt64)) + r_43.toInt64)) + r_49.toInt64)) + r_50.toInt64)) + r_51.toInt64)), (0, .ref hx), (1, .long x1), (3, .int f1)]) hx₀ hb dX11_mixFlight_112 hl (k := 1) rfl (by decide +kernel) (by decide) rfl (fun ls hl => ?_)
  refine lv_goto (tgt := 87) hx₀ hb dX11_mixFlight_115 (by decide) ?_
  refine lv_iload hx₀ hb dX11_mixFlight_87 (lv_at hl 0 rfl) ?_
  refine lv_iconst (v := 2) hx₀ hb dX11_mixFlight_89 (by decide +kernel) ?_
  refine lv_icmp_gt (tgt := 118) hx₀ hb dX11_mixFlight_90 (by decide) (fun _ => ?_) (fun c9 => absurd (by decide +kernel) c9)
  refine lv_iconst (v := 0) hx₀ hb dX11_mixFlight_118 (by decide +kernel) ?_
  refine lv_istore (lv' := [(6, .int 0), (4, .long ((31 * ((31 * ((31 * ((31 * ((31 * ((31 * ((31 * ((31 * ((31 * ((31 * ((31 * x1) + r_1.toInt64)) + r_7.toInt64)) + r_13.toInt64)) + r_19.toInt64)) + r_25.toInt64)) + r_31.toInt64)) + r_37.toInt64)) + r_43.toInt64)) + r_49.toInt64)) + r_50.toInt64)) + r_51.toInt64)), (0, .ref hx), (1, .long x1), (3, .int f1)]) hx₀ hb dX11_mixFlight_119 hl (by decide) rfl (fun ls hl => ?_)
  refine lv_iload hx₀ hb dX11_mixFlight_121 (lv_at hl 0 rfl) ?_
  refine lv_iconst (v := 1) hx₀ hb dX11_mixFlight_123 (by decide +kernel) ?_
  refine lv_icmp_gt (tgt := 150) hx₀ hb dX11_mixFlight_124 (by decide) (fun c9 => absurd c9 (by decide +kernel)) (fun _ => ?_)
  refine lv_ldc2 (v := 31) hx₀ hb hown (hts (.constantLong RX11 274 (31)) wd_966) dX11_mixFlight_127 ?_
  refine lv_lload hx₀ hb dX11_mixFlight_130 (lv_at hl 1 rfl) ?_
  refine lv_lmul hx₀ hb dX11_mixFlight_132 ?_
  refine lv_aload_n hx₀ hb dX11_mixFlight_133 rfl (lv_at hl 2 rfl) ?_
  refine lv_iload_n hx₀ hb dX11_mixFlight_134 rfl (lv_at hl 4 rfl) ?_
  refine lv_iload hx₀ hb dX11_mixFlight_135 (lv_at hl 0 rfl) ?_
  obtain ⟨hPc, hDc, hFc, hC⟩ := k_cw (wc := [(kX11 hx aLa aPa aGe aFl aTr aBe aLu aLo vSf vSm vCo vSh xs xl xf), (kX10 aTr aLa aPa aGe gL gR (gp_48 0) (gp_48 1) (g_44 8) (g_44 9) (g_44 10) (g_44 11) (g_44 12) (g_44 13) (g_44 14) (g_44 15) (g_44 16) (g_44 17)), (kX3 gL (g_44 0) (g_44 1) (g_44 2) (g_44 3)), (kX3 gR (g_44 4) (g_44 5) (g_44 6) (g_44 7)), (kX4 aLa vLa l4 a4 n4), (kAI vLa cI 24 f4), (kX7 aPa vPa l7 a7 n7), (kAI vPa cI 39 f7), (kX2 aGe vGe l2 a2 n2), (kAI vGe cI 23 f2), (kX1 aFl vFl xn), (kAI vFl cI 32 ff)]) hP hD hS hA [4, 5, 6, 7, 8, 9, 10, 11, 12, 13, 14, 15] (by decide +kernel) rfl
  refine va_calli (va_runV (As := [.int f1, .int 0]) (rest := [.long (31 * ((31 * ((31 * ((31 * ((31 * ((31 * ((31 * ((31 * ((31 * ((31 * ((31 * ((31 * x1) + r_1.toInt64)) + r_7.toInt64)) + r_13.toInt64)) + r_19.toInt64)) + r_25.toInt64)) + r_31.toInt64)) + r_37.toInt64)) + r_43.toInt64)) + r_49.toInt64)) + r_50.toInt64)) + r_51.toInt64))]) ⟨hx₀, hb, hml, hown, hts⟩ (j_practice l dC dI cI cJ cQ H.size hx f1 0 aLa aPa aGe aFl aTr aBe aLu aLo vSf vSm vCo vSh xs xl xf gL gR (gp_48 0) (gp_48 1) (g_44 8) (g_44 9) (g_44 10) (g_44 11) (g_44 12) (g_44 13) (g_44 14) (g_44 15) (g_44 16) (g_44 17) (g_44 0) (g_44 1) (g_44 2) (g_44 3) (g_44 4) (g_44 5) (g_44 6) (g_44 7) vLa l4 a4 n4 f4 vPa l7 a7 n7 f7 vGe l2 a2 n2 f2 vFl xn ff (hh0) (hh1)) (cwV 2 hts (kGV wd_653 wd_980 wd_651 wd_652 wd_2) rfl rfl rfl (by decide +kernel) ⟨Nat.le_of_ble_eq_true rfl, Nat.le_of_ble_eq_true rfl⟩) (k_preV10 (q0 := 0) hK hPc hDc hN rfl) rfl rfl hl.1 rfl (lv_room (Nat.le_of_ble_eq_true rfl)) dX11_mixFlight_137 ⟨by decide +kernel, by decide +kernel⟩) hS (fun q _ h => hFc q h) hFc (fun r_52 u₀ t₀ H1 locs ht hvm hw hB hz1 hk1 hS => ?_)
  obtain ⟨g_53, ga_54, gl_55, gb_56, gp_57⟩ := u₀
  obtain ⟨hP1, hK1, hD1⟩ := hB
  rw [ht] at hP1
  have hJ := k_jn (wr := [(kX5 aLu vLu ab be), (kAJ vLu cJ 46 fl), (kAI vSf cI 8 sf), (kAI vSm cI 8 sm), (kX0 aBe (g_44 18) (g_44 19) (g_44 20) (g_44 21))]) (wt := [(kX5 aLu vLu ab be), (kAJ vLu cJ 46 fl), (kAI vSf cI 8 sf), (kAI vSm cI 8 sm), (kX0 aBe (g_44 18) (g_44 19) (g_44 20) (g_44 21)), (kX11 hx aLa aPa aGe aFl aTr aBe aLu aLo vSf vSm vCo vSh xs xl xf), (kX10 aTr aLa aPa aGe gL gR (gp_57 0) (gp_57 1) (g_53 8) (g_53 9) (g_53 10) (g_53 11) (g_53 12) (g_53 13) (g_53 14) (g_53 15) (g_53 16) (g_53 17)), (kX3 gL (g_53 0) (g_53 1) (g_53 2) (g_53 3)), (kX3 gR (g_53 4) (g_53 5) (g_53 6) (g_53 7)), (kX4 aLa vLa l4 a4 n4), (kAI vLa cI 24 f4), (kX7 aPa vPa l7 a7 n7), (kAI vPa cI 39 f7), (kX2 aGe vGe l2 a2 n2), (kAI vGe cI 23 f2), (kX1 aFl vFl xn), (kAI vFl cI 32 ff)]) hP hD hC [0, 1, 2, 3, 16] rfl (by decide +kernel) (by decide +kernel) hk1 hFc hP1 hD1 rfl
  clear hP hD hPc hDc hFc hC hP1 hD1 hK1 hz1 hk1 hvm ht
  obtain ⟨hP, hD⟩ := hJ
  generalize H1 = H at hP hS ⊢
  try dsimp only at hw
  refine lv_i2l hx₀ hb dX11_mixFlight_140 rfl ?_
  refine lv_ladd hx₀ hb dX11_mixFlight_141 ?_
  refine lv_lstore (lv' := [(4, .long ((31 * ((31 * ((31 * ((31 * ((31 * ((31 * ((31 * ((31 * ((31 * ((31 * ((31 * ((31 * x1) + r_1.toInt64)) + r_7.toInt64)) + r_13.toInt64)) + r_19.toInt64)) + r_25.toInt64)) + r_31.toInt64)) + r_37.toInt64)) + r_43.toInt64)) + r_49.toInt64)) + r_50.toInt64)) + r_51.toInt64)) + r_52.toInt64)), (6, .int 0), (0, .ref hx), (1, .long x1), (3, .int f1)]) hx₀ hb dX11_mixFlight_142 hl (by decide) rfl (fun ls hl => ?_)
  refine lv_iinc (v := 1) (lv' := [(6, .int 1), (4, .long ((31 * ((31 * ((31 * ((31 * ((31 * ((31 * ((31 * ((31 * ((31 * ((31 * ((31 * ((31 * x1) + r_1.toInt64)) + r_7.toInt64)) + r_13.toInt64)) + r_19.toInt64)) + r_25.toInt64)) + r_31.toInt64)) + r_37.toInt64)) + r_43.toInt64)) + r_49.toInt64)) + r_50.toInt64)) + r_51.toInt64)) + r_52.toInt64)), (0, .ref hx), (1, .long x1), (3, .int f1)]) hx₀ hb dX11_mixFlight_144 hl (k := 1) rfl (by decide +kernel) (by decide) rfl (fun ls hl => ?_)
  refine lv_goto (tgt := 121) hx₀ hb dX11_mixFlight_147 (by decide) ?_
  refine lv_iload hx₀ hb dX11_mixFlight_121 (lv_at hl 0 rfl) ?_
  refine lv_iconst (v := 1) hx₀ hb dX11_mixFlight_123 (by decide +kernel) ?_
  refine lv_icmp_gt (tgt := 150) hx₀ hb dX11_mixFlight_124 (by decide) (fun c9 => absurd c9 (by decide +kernel)) (fun _ => ?_)
  refine lv_ldc2 (v := 31) hx₀ hb hown (hts (.constantLong RX11 274 (31)) wd_966) dX11_mixFlight_127 ?_
  refine lv_lload hx₀ hb dX11_mixFlight_130 (lv_at hl 1 rfl) ?_
  refine lv_lmul hx₀ hb dX11_mixFlight_132 ?_
  refine lv_aload_n hx₀ hb dX11_mixFlight_133 rfl (lv_at hl 2 rfl) ?_
  refine lv_iload_n hx₀ hb dX11_mixFlight_134 rfl (lv_at hl 4 rfl) ?_
  refine lv_iload hx₀ hb dX11_mixFlight_135 (lv_at hl 0 rfl) ?_
  obtain ⟨hPc, hDc, hFc, hC⟩ := k_cw (wc := [(kX11 hx aLa aPa aGe aFl aTr aBe aLu aLo vSf vSm vCo vSh xs xl xf), (kX10 aTr aLa aPa aGe gL gR (gp_57 0) (gp_57 1) (g_53 8) (g_53 9) (g_53 10) (g_53 11) (g_53 12) (g_53 13) (g_53 14) (g_53 15) (g_53 16) (g_53 17)), (kX3 gL (g_53 0) (g_53 1) (g_53 2) (g_53 3)), (kX3 gR (g_53 4) (g_53 5) (g_53 6) (g_53 7)), (kX4 aLa vLa l4 a4 n4), (kAI vLa cI 24 f4), (kX7 aPa vPa l7 a7 n7), (kAI vPa cI 39 f7), (kX2 aGe vGe l2 a2 n2), (kAI vGe cI 23 f2), (kX1 aFl vFl xn), (kAI vFl cI 32 ff)]) hP hD hS hA [5, 6, 7, 8, 9, 10, 11, 12, 13, 14, 15, 16] (by decide +kernel) rfl
  refine va_calli (va_runV (As := [.int f1, .int 1]) (rest := [.long (31 * ((31 * ((31 * ((31 * ((31 * ((31 * ((31 * ((31 * ((31 * ((31 * ((31 * ((31 * ((31 * x1) + r_1.toInt64)) + r_7.toInt64)) + r_13.toInt64)) + r_19.toInt64)) + r_25.toInt64)) + r_31.toInt64)) + r_37.toInt64)) + r_43.toInt64)) + r_49.toInt64)) + r_50.toInt64)) + r_51.toInt64)) + r_52.toInt64))]) ⟨hx₀, hb, hml, hown, hts⟩ (j_practice l dC dI cI cJ cQ H.size hx f1 1 aLa aPa aGe aFl aTr aBe aLu aLo vSf vSm vCo vSh xs xl xf gL gR (gp_57 0) (gp_57 1) (g_53 8) (g_53 9) (g_53 10) (g_53 11) (g_53 12) (g_53 13) (g_53 14) (g_53 15) (g_53 16) (g_53 17) (g_53 0) (g_53 1) (g_53 2) (g_53 3) (g_53 4) (g_53 5) (g_53 6) (g_53 7) vLa l4 a4 n4 f4 vPa l7 a7 n7 f7 vGe l2 a2 n2 f2 vFl xn ff (hh0) (hh1)) (cwV 2 hts (kGV wd_653 wd_980 wd_651 wd_652 wd_2) rfl rfl rfl (by decide +kernel) ⟨Nat.le_of_ble_eq_true rfl, Nat.le_of_ble_eq_true rfl⟩) (k_preV10 (q0 := 0) hK hPc hDc hN rfl) rfl rfl hl.1 rfl (lv_room (Nat.le_of_ble_eq_true rfl)) dX11_mixFlight_137 ⟨by decide +kernel, by decide +kernel⟩) hS (fun q _ h => hFc q h) hFc (fun r_58 u₀ t₀ H1 locs ht hvm hw hB hz1 hk1 hS => ?_)
  obtain ⟨g_59, ga_60, gl_61, gb_62, gp_63⟩ := u₀
  obtain ⟨hP1, hK1, hD1⟩ := hB
  rw [ht] at hP1
  have hJ := k_jn (wr := [(kX5 aLu vLu ab be), (kAJ vLu cJ 46 fl), (kAI vSf cI 8 sf), (kAI vSm cI 8 sm), (kX0 aBe (g_44 18) (g_44 19) (g_44 20) (g_44 21))]) (wt := [(kX5 aLu vLu ab be), (kAJ vLu cJ 46 fl), (kAI vSf cI 8 sf), (kAI vSm cI 8 sm), (kX0 aBe (g_44 18) (g_44 19) (g_44 20) (g_44 21)), (kX11 hx aLa aPa aGe aFl aTr aBe aLu aLo vSf vSm vCo vSh xs xl xf), (kX10 aTr aLa aPa aGe gL gR (gp_63 0) (gp_63 1) (g_59 8) (g_59 9) (g_59 10) (g_59 11) (g_59 12) (g_59 13) (g_59 14) (g_59 15) (g_59 16) (g_59 17)), (kX3 gL (g_59 0) (g_59 1) (g_59 2) (g_59 3)), (kX3 gR (g_59 4) (g_59 5) (g_59 6) (g_59 7)), (kX4 aLa vLa l4 a4 n4), (kAI vLa cI 24 f4), (kX7 aPa vPa l7 a7 n7), (kAI vPa cI 39 f7), (kX2 aGe vGe l2 a2 n2), (kAI vGe cI 23 f2), (kX1 aFl vFl xn), (kAI vFl cI 32 ff)]) hP hD hC [0, 1, 2, 3, 4] rfl (by decide +kernel) (by decide +kernel) hk1 hFc hP1 hD1 rfl
  clear hP hD hPc hDc hFc hC hP1 hD1 hK1 hz1 hk1 hvm ht
  obtain ⟨hP, hD⟩ := hJ
  generalize H1 = H at hP hS ⊢
  try dsimp only at hw
  refine lv_i2l hx₀ hb dX11_mixFlight_140 rfl ?_
  refine lv_ladd hx₀ hb dX11_mixFlight_141 ?_
  refine lv_lstore (lv' := [(4, .long ((31 * ((31 * ((31 * ((31 * ((31 * ((31 * ((31 * ((31 * ((31 * ((31 * ((31 * ((31 * ((31 * x1) + r_1.toInt64)) + r_7.toInt64)) + r_13.toInt64)) + r_19.toInt64)) + r_25.toInt64)) + r_31.toInt64)) + r_37.toInt64)) + r_43.toInt64)) + r_49.toInt64)) + r_50.toInt64)) + r_51.toInt64)) + r_52.toInt64)) + r_58.toInt64)), (6, .int 1), (0, .ref hx), (1, .long x1), (3, .int f1)]) hx₀ hb dX11_mixFlight_142 hl (by decide) rfl (fun ls hl => ?_)
  refine lv_iinc (v := 2) (lv' := [(6, .int 2), (4, .long ((31 * ((31 * ((31 * ((31 * ((31 * ((31 * ((31 * ((31 * ((31 * ((31 * ((31 * ((31 * ((31 * x1) + r_1.toInt64)) + r_7.toInt64)) + r_13.toInt64)) + r_19.toInt64)) + r_25.toInt64)) + r_31.toInt64)) + r_37.toInt64)) + r_43.toInt64)) + r_49.toInt64)) + r_50.toInt64)) + r_51.toInt64)) + r_52.toInt64)) + r_58.toInt64)), (0, .ref hx), (1, .long x1), (3, .int f1)]) hx₀ hb dX11_mixFlight_144 hl (k := 1) rfl (by decide +kernel) (by decide) rfl (fun ls hl => ?_)
  refine lv_goto (tgt := 121) hx₀ hb dX11_mixFlight_147 (by decide) ?_
  refine lv_iload hx₀ hb dX11_mixFlight_121 (lv_at hl 0 rfl) ?_
  refine lv_iconst (v := 1) hx₀ hb dX11_mixFlight_123 (by decide +kernel) ?_
  refine lv_icmp_gt (tgt := 150) hx₀ hb dX11_mixFlight_124 (by decide) (fun _ => ?_) (fun c9 => absurd (by decide +kernel) c9)
  refine lv_iconst (v := 0) hx₀ hb dX11_mixFlight_150 (by decide +kernel) ?_
  refine lv_istore (lv' := [(6, .int 0), (4, .long ((31 * ((31 * ((31 * ((31 * ((31 * ((31 * ((31 * ((31 * ((31 * ((31 * ((31 * ((31 * ((31 * x1) + r_1.toInt64)) + r_7.toInt64)) + r_13.toInt64)) + r_19.toInt64)) + r_25.toInt64)) + r_31.toInt64)) + r_37.toInt64)) + r_43.toInt64)) + r_49.toInt64)) + r_50.toInt64)) + r_51.toInt64)) + r_52.toInt64)) + r_58.toInt64)), (0, .ref hx), (1, .long x1), (3, .int f1)]) hx₀ hb dX11_mixFlight_151 hl (by decide) rfl (fun ls hl => ?_)
  refine lv_iload hx₀ hb dX11_mixFlight_153 (lv_at hl 0 rfl) ?_
  refine lv_iconst (v := 1) hx₀ hb dX11_mixFlight_155 (by decide +kernel) ?_
  refine lv_icmp_gt (tgt := 182) hx₀ hb dX11_mixFlight_156 (by decide) (fun c9 => absurd c9 (by decide +kernel)) (fun _ => ?_)
  refine lv_ldc2 (v := 31) hx₀ hb hown (hts (.constantLong RX11 274 (31)) wd_966) dX11_mixFlight_159 ?_
  refine lv_lload hx₀ hb dX11_mixFlight_162 (lv_at hl 1 rfl) ?_
  refine lv_lmul hx₀ hb dX11_mixFlight_164 ?_
  refine lv_aload_n hx₀ hb dX11_mixFlight_165 rfl (lv_at hl 2 rfl) ?_
  refine lv_iload_n hx₀ hb dX11_mixFlight_166 rfl (lv_at hl 4 rfl) ?_
  refine lv_iload hx₀ hb dX11_mixFlight_167 (lv_at hl 0 rfl) ?_
  obtain ⟨hPc, hDc, hFc, hC⟩ := k_cw (wc := [(kX11 hx aLa aPa aGe aFl aTr aBe aLu aLo vSf vSm vCo vSh xs xl xf), (kX10 aTr aLa aPa aGe gL gR (gp_63 0) (gp_63 1) (g_59 8) (g_59 9) (g_59 10) (g_59 11) (g_59 12) (g_59 13) (g_59 14) (g_59 15) (g_59 16) (g_59 17)), (kX3 gL (g_59 0) (g_59 1) (g_59 2) (g_59 3)), (kX3 gR (g_59 4) (g_59 5) (g_59 6) (g_59 7)), (kX4 aLa vLa l4 a4 n4), (kAI vLa cI 24 f4), (kX7 aPa vPa l7 a7 n7), (kAI vPa cI 39 f7), (kX2 aGe vGe l2 a2 n2), (kAI vGe cI 23 f2), (kX1 aFl vFl xn), (kAI vFl cI 32 ff)]) hP hD hS hA [5, 6, 7, 8, 9, 10, 11, 12, 13, 14, 15, 16] (by decide +kernel) rfl
  refine va_calli (va_runV (As := [.int f1, .int 0]) (rest := [.long (31 * ((31 * ((31 * ((31 * ((31 * ((31 * ((31 * ((31 * ((31 * ((31 * ((31 * ((31 * ((31 * ((31 * x1) + r_1.toInt64)) + r_7.toInt64)) + r_13.toInt64)) + r_19.toInt64)) + r_25.toInt64)) + r_31.toInt64)) + r_37.toInt64)) + r_43.toInt64)) + r_49.toInt64)) + r_50.toInt64)) + r_51.toInt64)) + r_52.toInt64)) + r_58.toInt64))]) ⟨hx₀, hb, hml, hown, hts⟩ (j_pair l dC dI cI cJ cQ H.size hx f1 0 aLa aPa aGe aFl aTr aBe aLu aLo vSf vSm vCo vSh xs xl xf gL gR (gp_63 0) (gp_63 1) (g_59 8) (g_59 9) (g_59 10) (g_59 11) (g_59 12) (g_59 13) (g_59 14) (g_59 15) (g_59 16) (g_59 17) (g_59 0) (g_59 1) (g_59 2) (g_59 3) (g_59 4) (g_59 5) (g_59 6) (g_59 7) vLa l4 a4 n4 f4 vPa l7 a7 n7 f7 vGe l2 a2 n2 f2 vFl xn ff (hh0) (hh1)) (cwV 2 hts (kGV wd_675 wd_981 wd_673 wd_674 wd_2) rfl rfl rfl (by decide +kernel) ⟨Nat.le_of_ble_eq_true rfl, Nat.le_of_ble_eq_true rfl⟩) (k_preV10 (q0 := 0) hK hPc hDc hN rfl) rfl rfl hl.1 rfl (lv_room (Nat.le_of_ble_eq_true rfl)) dX11_mixFlight_169 ⟨by decide +kernel, by decide +kernel⟩) hS (fun q _ h => hFc q h) hFc (fun r_64 u₀ t₀ H1 locs ht hvm hw hB hz1 hk1 hS => ?_)
  obtain ⟨g_65, ga_66, gl_67, gb_68, gp_69⟩ := u₀
  obtain ⟨hP1, hK1, hD1⟩ := hB
  rw [ht] at hP1
  have hJ := k_jn (wr := [(kX5 aLu vLu ab be), (kAJ vLu cJ 46 fl), (kAI vSf cI 8 sf), (kAI vSm cI 8 sm), (kX0 aBe (g_44 18) (g_44 19) (g_44 20) (g_44 21))]) (wt := [(kX5 aLu vLu ab be), (kAJ vLu cJ 46 fl), (kAI vSf cI 8 sf), (kAI vSm cI 8 sm), (kX0 aBe (g_44 18) (g_44 19) (g_44 20) (g_44 21)), (kX11 hx aLa aPa aGe aFl aTr aBe aLu aLo vSf vSm vCo vSh xs xl xf), (kX10 aTr aLa aPa aGe gL gR (gp_69 0) (gp_69 1) (g_65 8) (g_65 9) (g_65 10) (g_65 11) (g_65 12) (g_65 13) (g_65 14) (g_65 15) (g_65 16) (g_65 17)), (kX3 gL (g_65 0) (g_65 1) (g_65 2) (g_65 3)), (kX3 gR (g_65 4) (g_65 5) (g_65 6) (g_65 7)), (kX4 aLa vLa l4 a4 n4), (kAI vLa cI 24 f4), (kX7 aPa vPa l7 a7 n7), (kAI vPa cI 39 f7), (kX2 aGe vGe l2 a2 n2), (kAI vGe cI 23 f2), (kX1 aFl vFl xn), (kAI vFl cI 32 ff)]) hP hD hC [0, 1, 2, 3, 4] rfl (by decide +kernel) (by decide +kernel) hk1 hFc hP1 hD1 rfl
  clear hP hD hPc hDc hFc hC hP1 hD1 hK1 hz1 hk1 hvm ht
  obtain ⟨hP, hD⟩ := hJ
  generalize H1 = H at hP hS ⊢
  try dsimp only at hw
  refine lv_i2l hx₀ hb dX11_mixFlight_172 rfl ?_
  refine lv_ladd hx₀ hb dX11_mixFlight_173 ?_
  refine lv_lstore (lv' := [(4, .long ((31 * ((31 * ((31 * ((31 * ((31 * ((31 * ((31 * ((31 * ((31 * ((31 * ((31 * ((31 * ((31 * ((31 * x1) + r_1.toInt64)) + r_7.toInt64)) + r_13.toInt64)) + r_19.toInt64)) + r_25.toInt64)) + r_31.toInt64)) + r_37.toInt64)) + r_43.toInt64)) + r_49.toInt64)) + r_50.toInt64)) + r_51.toInt64)) + r_52.toInt64)) + r_58.toInt64)) + r_64.toInt64)), (6, .int 0), (0, .ref hx), (1, .long x1), (3, .int f1)]) hx₀ hb dX11_mixFlight_174 hl (by decide) rfl (fun ls hl => ?_)
  refine lv_iinc (v := 1) (lv' := [(6, .int 1), (4, .long ((31 * ((31 * ((31 * ((31 * ((31 * ((31 * ((31 * ((31 * ((31 * ((31 * ((31 * ((31 * ((31 * ((31 * x1) + r_1.toInt64)) + r_7.toInt64)) + r_13.toInt64)) + r_19.toInt64)) + r_25.toInt64)) + r_31.toInt64)) + r_37.toInt64)) + r_43.toInt64)) + r_49.toInt64)) + r_50.toInt64)) + r_51.toInt64)) + r_52.toInt64)) + r_58.toInt64)) + r_64.toInt64)), (0, .ref hx), (1, .long x1), (3, .int f1)]) hx₀ hb dX11_mixFlight_176 hl (k := 1) rfl (by decide +kernel) (by decide) rfl (fun ls hl => ?_)
  refine lv_goto (tgt := 153) hx₀ hb dX11_mixFlight_179 (by decide) ?_
  refine lv_iload hx₀ hb dX11_mixFlight_153 (lv_at hl 0 rfl) ?_
  refine lv_iconst (v := 1) hx₀ hb dX11_mixFlight_155 (by decide +kernel) ?_
  refine lv_icmp_gt (tgt := 182) hx₀ hb dX11_mixFlight_156 (by decide) (fun c9 => absurd c9 (by decide +kernel)) (fun _ => ?_)
  refine lv_ldc2 (v := 31) hx₀ hb hown (hts (.constantLong RX11 274 (31)) wd_966) dX11_mixFlight_159 ?_
  refine lv_lload hx₀ hb dX11_mixFlight_162 (lv_at hl 1 rfl) ?_
  refine lv_lmul hx₀ hb dX11_mixFlight_164 ?_
  refine lv_aload_n hx₀ hb dX11_mixFlight_165 rfl (lv_at hl 2 rfl) ?_
  refine lv_iload_n hx₀ hb dX11_mixFlight_166 rfl (lv_at hl 4 rfl) ?_
  refine lv_iload hx₀ hb dX11_mixFlight_167 (lv_at hl 0 rfl) ?_
  obtain ⟨hPc, hDc, hFc, hC⟩ := k_cw (wc := [(kX11 hx aLa aPa aGe aFl aTr aBe aLu aLo vSf vSm vCo vSh xs xl xf), (kX10 aTr aLa aPa aGe gL gR (gp_69 0) (gp_69 1) (g_65 8) (g_65 9) (g_65 10) (g_65 11) (g_65 12) (g_65 13) (g_65 14) (g_65 15) (g_65 16) (g_65 17)), (kX3 gL (g_65 0) (g_65 1) (g_65 2) (g_65 3)), (kX3 gR (g_65 4) (g_65 5) (g_65 6) (g_65 7)), (kX4 aLa vLa l4 a4 n4), (kAI vLa cI 24 f4), (kX7 aPa vPa l7 a7 n7), (kAI vPa cI 39 f7), (kX2 aGe vGe l2 a2 n2), (kAI vGe cI 23 f2), (kX1 aFl vFl xn), (kAI vFl cI 32 ff)]) hP hD hS hA [5, 6, 7, 8, 9, 10, 11, 12, 13, 14, 15, 16] (by decide +kernel) rfl
  refine va_calli (va_runV (As := [.int f1, .int 1]) (rest := [.long (31 * ((31 * ((31 * ((31 * ((31 * ((31 * ((31 * ((31 * ((31 * ((31 * ((31 * ((31 * ((31 * ((31 * ((31 * x1) + r_1.toInt64)) + r_7.toInt64)) + r_13.toInt64)) + r_19.toInt64)) + r_25.toInt64)) + r_31.toInt64)) + r_37.toInt64)) + r_43.toInt64)) + r_49.toInt64)) + r_50.toInt64)) + r_51.toInt64)) + r_52.toInt64)) + r_58.toInt64)) + r_64.toInt64))]) ⟨hx₀, hb, hml, hown, hts⟩ (j_pair l dC dI cI cJ cQ H.size hx f1 1 aLa aPa aGe aFl aTr aBe aLu aLo vSf vSm vCo vSh xs xl xf gL gR (gp_69 0) (gp_69 1) (g_65 8) (g_65 9) (g_65 10) (g_65 11) (g_65 12) (g_65 13) (g_65 14) (g_65 15) (g_65 16) (g_65 17) (g_65 0) (g_65 1) (g_65 2) (g_65 3) (g_65 4) (g_65 5) (g_65 6) (g_65 7) vLa l4 a4 n4 f4 vPa l7 a7 n7 f7 vGe l2 a2 n2 f2 vFl xn ff (hh0) (hh1)) (cwV 2 hts (kGV wd_675 wd_981 wd_673 wd_674 wd_2) rfl rfl rfl (by decide +kernel) ⟨Nat.le_of_ble_eq_true rfl, Nat.le_of_ble_eq_true rfl⟩) (k_preV10 (q0 := 0) hK hPc hDc hN rfl) rfl rfl hl.1 rfl (lv_room (Nat.le_of_ble_eq_true rfl)) dX11_mixFlight_169 ⟨by decide +kernel, by decide +kernel⟩) hS (fun q _ h => hFc q h) hFc (fun r_70 u₀ t₀ H1 locs ht hvm hw hB hz1 hk1 hS => ?_)
  obtain ⟨g_71, ga_72, gl_73, gb_74, gp_75⟩ := u₀
  obtain ⟨hP1, hK1, hD1⟩ := hB
  rw [ht] at hP1
  have hJ := k_jn (wr := [(kX5 aLu vLu ab be), (kAJ vLu cJ 46 fl), (kAI vSf cI 8 sf), (kAI vSm cI 8 sm), (kX0 aBe (g_44 18) (g_44 19) (g_44 20) (g_44 21))]) (wt := [(kX5 aLu vLu ab be), (kAJ vLu cJ 46 fl), (kAI vSf cI 8 sf), (kAI vSm cI 8 sm), (kX0 aBe (g_44 18) (g_44 19) (g_44 20) (g_44 21)), (kX11 hx aLa aPa aGe aFl aTr aBe aLu aLo vSf vSm vCo vSh xs xl xf), (kX10 aTr aLa aPa aGe gL gR (gp_75 0) (gp_75 1) (g_71 8) (g_71 9) (g_71 10) (g_71 11) (g_71 12) (g_71 13) (g_71 14) (g_71 15) (g_71 16) (g_71 17)), (kX3 gL (g_71 0) (g_71 1) (g_71 2) (g_71 3)), (kX3 gR (g_71 4) (g_71 5) (g_71 6) (g_71 7)), (kX4 aLa vLa l4 a4 n4), (kAI vLa cI 24 f4), (kX7 aPa vPa l7 a7 n7), (kAI vPa cI 39 f7), (kX2 aGe vGe l2 a2 n2), (kAI vGe cI 23 f2), (kX1 aFl vFl xn), (kAI vFl cI 32 ff)]) hP hD hC [0, 1, 2, 3, 4] rfl (by decide +kernel) (by decide +kernel) hk1 hFc hP1 hD1 rfl
  clear hP hD hPc hDc hFc hC hP1 hD1 hK1 hz1 hk1 hvm ht
  obtain ⟨hP, hD⟩ := hJ
  generalize H1 = H at hP hS ⊢
  try dsimp only at hw
  refine lv_i2l hx₀ hb dX11_mixFlight_172 rfl ?_
  refine lv_ladd hx₀ hb dX11_mixFlight_173 ?_
  refine lv_lstore (lv' := [(4, .long ((31 * ((31 * ((31 * ((31 * ((31 * ((31 * ((31 * ((31 * ((31 * ((31 * ((31 * ((31 * ((31 * ((31 * ((31 * x1) + r_1.toInt64)) + r_7.toInt64)) + r_13.toInt64)) + r_19.toInt64)) + r_25.toInt64)) + r_31.toInt64)) + r_37.toInt64)) + r_43.toInt64)) + r_49.toInt64)) + r_50.toInt64)) + r_51.toInt64)) + r_52.toInt64)) + r_58.toInt64)) + r_64.toInt64)) + r_70.toInt64)), (6, .int 1), (0, .ref hx), (1, .long x1), (3, .int f1)]) hx₀ hb dX11_mixFlight_174 hl (by decide) rfl (fun ls hl => ?_)
  refine lv_iinc (v := 2) (lv' := [(6, .int 2), (4, .long ((31 * ((31 * ((31 * ((31 * ((31 * ((31 * ((31 * ((31 * ((31 * ((31 * ((31 * ((31 * ((31 * ((31 * ((31 * x1) + r_1.toInt64)) + r_7.toInt64)) + r_13.toInt64)) + r_19.toInt64)) + r_25.toInt64)) + r_31.toInt64)) + r_37.toInt64)) + r_43.toInt64)) + r_49.toInt64)) + r_50.toInt64)) + r_51.toInt64)) + r_52.toInt64)) + r_58.toInt64)) + r_64.toInt64)) + r_70.toInt64)), (0, .ref hx), (1, .long x1), (3, .int f1)]) hx₀ hb dX11_mixFlight_176 hl (k := 1) rfl (by decide +kernel) (by decide) rfl (fun ls hl => ?_)
  refine lv_goto (tgt := 153) hx₀ hb dX11_mixFlight_179 (by decide) ?_
  refine lv_iload hx₀ hb dX11_mixFlight_153 (lv_at hl 0 rfl) ?_
  refine lv_iconst (v := 1) hx₀ hb dX11_mixFlight_155 (by decide +kernel) ?_
  refine lv_icmp_gt (tgt := 182) hx₀ hb dX11_mixFlight_156 (by decide) (fun _ => ?_) (fun c9 => absurd (by decide +kernel) c9)
  refine lv_ldc2 (v := 31) hx₀ hb hown (hts (.constantLong RX11 274 (31)) wd_966) dX11_mixFlight_182 ?_
  refine lv_lload hx₀ hb dX11_mixFlight_185 (lv_at hl 1 rfl) ?_
  refine lv_lmul hx₀ hb dX11_mixFlight_187 ?_
  refine lv_aload_n hx₀ hb dX11_mixFlight_188 rfl (lv_at hl 2 rfl) ?_
  refine lv_iload_n hx₀ hb dX11_mixFlight_189 rfl (lv_at hl 4 rfl) ?_
  obtain ⟨hPc, hDc, hFc, hC⟩ := k_cw (wc := [(kX11 hx aLa aPa aGe aFl aTr aBe aLu aLo vSf vSm vCo vSh xs xl xf), (kX10 aTr aLa aPa aGe gL gR (gp_75 0) (gp_75 1) (g_71 8) (g_71 9) (g_71 10) (g_71 11) (g_71 12) (g_71 13) (g_71 14) (g_71 15) (g_71 16) (g_71 17)), (kX3 gL (g_71 0) (g_71 1) (g_71 2) (g_71 3)), (kX3 gR (g_71 4) (g_71 5) (g_71 6) (g_71 7)), (kX4 aLa vLa l4 a4 n4), (kAI vLa cI 24 f4), (kX7 aPa vPa l7 a7 n7), (kAI vPa cI 39 f7), (kX2 aGe vGe l2 a2 n2), (kAI vGe cI 23 f2), (kX1 aFl vFl xn), (kAI vFl cI 32 ff), (kAI vSf cI 8 sf), (kAI vSm cI 8 sm)]) hP hD hS hA [5, 6, 7, 8, 9, 10, 11, 12, 13, 14, 15, 16, 2, 3] (by decide +kernel) rfl
  refine va_calli (va_runV (As := [.int f1]) (rest := [.long (31 * ((31 * ((31 * ((31 * ((31 * ((31 * ((31 * ((31 * ((31 * ((31 * ((31 * ((31 * ((31 * ((31 * ((31 * ((31 * x1) + r_1.toInt64)) + r_7.toInt64)) + r_13.toInt64)) + r_19.toInt64)) + r_25.toInt64)) + r_31.toInt64)) + r_37.toInt64)) + r_43.toInt64)) + r_49.toInt64)) + r_50.toInt64)) + r_51.toInt64)) + r_52.toInt64)) + r_58.toInt64)) + r_64.toInt64)) + r_70.toInt64))]) ⟨hx₀, hb, hml, hown, hts⟩ (j_high l dC dI cI cJ cQ H.size hx f1 aLa aPa aGe aFl aTr aBe aLu aLo vSf vSm vCo vSh xs xl xf gL gR (gp_75 0) (gp_75 1) (g_71 8) (g_71 9) (g_71 10) (g_71 11) (g_71 12) (g_71 13) (g_71 14) (g_71 15) (g_71 16) (g_71 17) (g_71 0) (g_71 1) (g_71 2) (g_71 3) (g_71 4) (g_71 5) (g_71 6) (g_71 7) vLa l4 a4 n4 f4 vPa l7 a7 n7 f7 vGe l2 a2 n2 f2 vFl xn ff sf sm (hh0) (hh1)) (cwV 1 hts (kGV wd_729 wd_982 wd_727 wd_728 wd_2) rfl rfl rfl (by decide +kernel) ⟨Nat.le_of_ble_eq_true rfl, Nat.le_of_ble_eq_true rfl⟩) (k_preV10 (q0 := 0) hK hPc hDc hN rfl) rfl rfl hl.1 rfl (lv_room (Nat.le_of_ble_eq_true rfl)) dX11_mixFlight_190 ⟨by decide +kernel, by decide +kernel⟩) hS (fun q _ h => hFc q h) hFc (fun r_76 u₀ t₀ H1 locs ht hvm hw hB hz1 hk1 hS => ?_)
  obtain ⟨g_77, ga_78, gl_79, gb_80, gp_81⟩ := u₀
  obtain ⟨hP1, hK1, hD1⟩ := hB
  rw [ht] at hP1
  have hJ := k_jn (wr := [(kX5 aLu vLu ab be), (kAJ vLu cJ 46 fl), (kX0 aBe (g_44 18) (g_44 19) (g_44 20) (g_44 21))]) (wt := [(kX5 aLu vLu ab be), (kAJ vLu cJ 46 fl), (kX0 aBe (g_44 18) (g_44 19) (g_44 20) (g_44 21)), (kX11 hx aLa aPa aGe aFl aTr aBe aLu aLo vSf vSm vCo vSh xs xl xf), (kX10 aTr aLa aPa aGe gL gR (gp_81 0) (gp_81 1) (g_77 8) (g_77 9) (g_77 10) (g_77 11) (g_77 12) (g_77 13) (g_77 14) (g_77 15) (g_77 16) (g_77 17)), (kX3 gL (g_77 0) (g_77 1) (g_77 2) (g_77 3)), (kX3 gR (g_77 4) (g_77 5) (g_77 6) (g_77 7)), (kX4 aLa vLa l4 a4 n4), (kAI vLa cI 24 f4), (kX7 aPa vPa l7 a7 n7), (kAI vPa cI 39 f7), (kX2 aGe vGe l2 a2 n2), (kAI vGe cI 23 f2), (kX1 aFl vFl xn), (kAI vFl cI 32 ff), (kAI vSf cI 8 sf), (kAI vSm cI 8 sm)]) hP hD hC [0, 1, 4] rfl (by decide +kernel) (by decide +kernel) hk1 hFc hP1 hD1 rfl
  clear hP hD hPc hDc hFc hC hP1 hD1 hK1 hz1 hk1 hvm ht
  obtain ⟨hP, hD⟩ := hJ
  generalize H1 = H at hP hS ⊢
  try dsimp only at hw
  refine lv_i2l hx₀ hb dX11_mixFlight_193 rfl ?_
  refine lv_ladd hx₀ hb dX11_mixFlight_194 ?_
  refine lv_lstore (lv' := [(4, .long ((31 * ((31 * ((31 * ((31 * ((31 * ((31 * ((31 * ((31 * ((31 * ((31 * ((31 * ((31 * ((31 * ((31 * ((31 * ((31 * x1) + r_1.toInt64)) + r_7.toInt64)) + r_13.toInt64)) + r_19.toInt64)) + r_25.toInt64)) + r_31.toInt64)) + r_37.toInt64)) + r_43.toInt64)) + r_49.toInt64)) + r_50.toInt64)) + r_51.toInt64)) + r_52.toInt64)) + r_58.toInt64)) + r_64.toInt64)) + r_70.toInt64)) + r_76.toInt64)), (6, .int 2), (0, .ref hx), (1, .long x1), (3, .int f1)]) hx₀ hb dX11_mixFlight_195 hl (by decide) rfl (fun ls hl => ?_)
  refine lv_iconst (v := 0) hx₀ hb dX11_mixFlight_197 (by decide +kernel) ?_
  refine lv_istore (lv' := [(6, .int 0), (4, .long ((31 * ((31 * ((31 * ((31 * ((31 * ((31 * ((31 * ((31 * ((31 * ((31 * ((31 * ((31 * ((31 * ((31 * ((31 * ((31 * x1) + r_1.toInt64)) + r_7.toInt64)) + r_13.toInt64)) + r_19.toInt64)) + r_25.toInt64)) + r_31.toInt64)) + r_37.toInt64)) + r_43.toInt64)) + r_49.toInt64)) + r_50.toInt64)) + r_51.toInt64)) + r_52.toInt64)) + r_58.toInt64)) + r_64.toInt64)) + r_70.toInt64)) + r_76.toInt64)), (0, .ref hx), (1, .long x1), (3, .int f1)]) hx₀ hb dX11_mixFlight_198 hl (by decide) rfl (fun ls hl => ?_)
  refine lv_iload hx₀ hb dX11_mixFlight_200 (lv_at hl 0 rfl) ?_
  refine lv_iconst (v := 1) hx₀ hb dX11_mixFlight_202 (by decide +kernel) ?_
  refine lv_icmp_gt (tgt := 229) hx₀ hb dX11_mixFlight_203 (by decide) (fun c9 => absurd c9 (by decide +kernel)) (fun _ => ?_)
  refine lv_ldc2 (v := 31) hx₀ hb hown (hts (.constantLong RX11 274 (31)) wd_966) dX11_mixFlight_206 ?_
  refine lv_lload hx₀ hb dX11_mixFlight_209 (lv_at hl 1 rfl) ?_
  refine lv_lmul hx₀ hb dX11_mixFlight_211 ?_
  refine lv_aload_n hx₀ hb dX11_mixFlight_212 rfl (lv_at hl 2 rfl) ?_
  refine lv_iconst (v := 5) hx₀ hb dX11_mixFlight_213 (by decide +kernel) ?_
  refine lv_iload_n hx₀ hb dX11_mixFlight_214 rfl (lv_at hl 4 rfl) ?_
  refine lv_iload hx₀ hb dX11_mixFlight_215 (lv_at hl 0 rfl) ?_
  obtain ⟨hPc, hDc, hFc, hC⟩ := k_cw (wc := [(kX11 hx aLa aPa aGe aFl aTr aBe aLu aLo vSf vSm vCo vSh xs xl xf), (kX10 aTr aLa aPa aGe gL gR (gp_81 0) (gp_81 1) (g_77 8) (g_77 9) (g_77 10) (g_77 11) (g_77 12) (g_77 13) (g_77 14) (g_77 15) (g_77 16) (g_77 17)), (kX3 gL (g_77 0) (g_77 1) (g_77 2) (g_77 3)), (kX3 gR (g_77 4) (g_77 5) (g_77 6) (g_77 7)), (kX4 aLa vLa l4 a4 n4), (kAI vLa cI 24 f4), (kX7 aPa vPa l7 a7 n7), (kAI vPa cI 39 f7), (kX2 aGe vGe l2 a2 n2), (kAI vGe cI 23 f2), (kX1 aFl vFl xn), (kAI vFl cI 32 ff), (kX5 aLu vLu ab be), (kAJ vLu cJ 46 fl)]) hP hD hS hA [3, 4, 5, 6, 7, 8, 9, 10, 11, 12, 13, 14, 0, 1] (by decide +kernel) rfl
  refine va_calll (va_runV (As := [.int 5, .int f1, .int 0]) (rest := [.long (31 * ((31 * ((31 * ((31 * ((31 * ((31 * ((31 * ((31 * ((31 * ((31 * ((31 * ((31 * ((31 * ((31 * ((31 * ((31 * ((31 * x1) + r_1.toInt64)) + r_7.toInt64)) + r_13.toInt64)) + r_19.toInt64)) + r_25.toInt64)) + r_31.toInt64)) + r_37.toInt64)) + r_43.toInt64)) + r_49.toInt64)) + r_50.toInt64)) + r_51.toInt64)) + r_52.toInt64)) + r_58.toInt64)) + r_64.toInt64)) + r_70.toInt64)) + r_76.toInt64))]) ⟨hx₀, hb, hml, hown, hts⟩ (j_laugh l dC dI cI cJ cQ H.size hx 5 f1 0 aLa aPa aGe aFl aTr aBe aLu aLo vSf vSm vCo vSh xs xl xf gL gR (gp_81 0) (gp_81 1) (g_77 8) (g_77 9) (g_77 10) (g_77 11) (g_77 12) (g_77 13) (g_77 14) (g_77 15) (g_77 16) (g_77 17) (g_77 0) (g_77 1) (g_77 2) (g_77 3) (g_77 4) (g_77 5) (g_77 6) (g_77 7) vLa l4 a4 n4 f4 vPa l7 a7 n7 f7 vGe l2 a2 n2 f2 vFl xn ff vLu ab be fl (hh0) (hh1)) (cwV 3 hts (kGV wd_763 wd_983 wd_761 wd_762 wd_2) rfl rfl rfl (by decide +kernel) ⟨Nat.le_of_ble_eq_true rfl, Nat.le_of_ble_eq_true rfl⟩) (k_preV10 (q0 := 0) hK hPc hDc hN rfl) rfl rfl hl.1 rfl (lv_room (Nat.le_of_ble_eq_true rfl)) dX11_mixFlight_217 ⟨by decide +kernel, by decide +kernel⟩) hS (fun q _ h => hFc q h) hFc (fun r_82 u₀ t₀ H1 locs ht hvm hw hB hz1 hk1 hS => ?_)
  obtain ⟨g_83, ga_84, gl_85, gb_86, gp_87⟩ := u₀
  obtain ⟨hP1, hK1, hD1⟩ := hB
  rw [ht] at hP1
  have hJ := k_jn (wr := [(kX0 aBe (g_44 18) (g_44 19) (g_44 20) (g_44 21)), (kAI vSf cI 8 sf), (kAI vSm cI 8 sm)]) (wt := [(kX0 aBe (g_44 18) (g_44 19) (g_44 20) (g_44 21)), (kAI vSf cI 8 sf), (kAI vSm cI 8 sm), (kX11 hx aLa aPa aGe aFl aTr aBe aLu aLo vSf vSm vCo vSh xs xl xf), (kX10 aTr aLa aPa aGe gL gR (gp_87 0) (gp_87 1) (g_83 8) (g_83 9) (g_83 10) (g_83 11) (g_83 12) (g_83 13) (g_83 14) (g_83 15) (g_83 16) (g_83 17)), (kX3 gL (g_83 0) (g_83 1) (g_83 2) (g_83 3)), (kX3 gR (g_83 4) (g_83 5) (g_83 6) (g_83 7)), (kX4 aLa vLa l4 a4 n4), (kAI vLa cI 24 f4), (kX7 aPa vPa l7 a7 n7), (kAI vPa cI 39 f7), (kX2 aGe vGe l2 a2 n2), (kAI vGe cI 23 f2), (kX1 aFl vFl xn), (kAI vFl cI 32 ff), (kX5 aLu vLu (gl_85 0) (gl_85 1)), (kAJ vLu cJ 46 (gb_86 0))]) hP hD hC [2, 15, 16] rfl (by decide +kernel) (by decide +kernel) hk1 hFc hP1 hD1 rfl
  clear hP hD hPc hDc hFc hC hP1 hD1 hK1 hz1 hk1 hvm ht
  obtain ⟨hP, hD⟩ := hJ
  generalize H1 = H at hP hS ⊢
  try dsimp only at hw
  refine lv_ladd hx₀ hb dX11_mixFlight_220 ?_
  refine lv_lstore (lv' := [(4, .long ((31 * ((31 * ((31 * ((31 * ((31 * ((31 * ((31 * ((31 * ((31 * ((31 * ((31 * ((31 * ((31 * ((31 * ((31 * ((31 * ((31 * x1) + r_1.toInt64)) + r_7.toInt64)) + r_13.toInt64)) + r_19.toInt64)) + r_25.toInt64)) + r_31.toInt64)) + r_37.toInt64)) + r_43.toInt64)) + r_49.toInt64)) + r_50.toInt64)) + r_51.toInt64)) + r_52.toInt64)) + r_58.toInt64)) + r_64.toInt64)) + r_70.toInt64)) + r_76.toInt64)) + r_82)), (6, .int 0), (0, .ref hx), (1, .long x1), (3, .int f1)]) hx₀ hb dX11_mixFlight_221 hl (by decide) rfl (fun ls hl => ?_)
  refine lv_iinc (v := 1) (lv' := [(6, .int 1), (4, .long ((31 * ((31 * ((31 * ((31 * ((31 * ((31 * ((31 * ((31 * ((31 * ((31 * ((31 * ((31 * ((31 * ((31 * ((31 * ((31 * ((31 * x1) + r_1.toInt64)) + r_7.toInt64)) + r_13.toInt64)) + r_19.toInt64)) + r_25.toInt64)) + r_31.toInt64)) + r_37.toInt64)) + r_43.toInt64)) + r_49.toInt64)) + r_50.toInt64)) + r_51.toInt64)) + r_52.toInt64)) + r_58.toInt64)) + r_64.toInt64)) + r_70.toInt64)) + r_76.toInt64)) + r_82)), (0, .ref hx), (1, .long x1), (3, .int f1)]) hx₀ hb dX11_mixFlight_223 hl (k := 1) rfl (by decide +kernel) (by decide) rfl (fun ls hl => ?_)
  refine lv_goto (tgt := 200) hx₀ hb dX11_mixFlight_226 (by decide) ?_
  refine lv_iload hx₀ hb dX11_mixFlight_200 (lv_at hl 0 rfl) ?_
  refine lv_iconst (v := 1) hx₀ hb dX11_mixFlight_202 (by decide +kernel) ?_
  refine lv_icmp_gt (tgt := 229) hx₀ hb dX11_mixFlight_203 (by decide) (fun c9 => absurd c9 (by decide +kernel)) (fun _ => ?_)
  refine lv_ldc2 (v := 31) hx₀ hb hown (hts (.constantLong RX11 274 (31)) wd_966) dX11_mixFlight_206 ?_
  refine lv_lload hx₀ hb dX11_mixFlight_209 (lv_at hl 1 rfl) ?_
  refine lv_lmul hx₀ hb dX11_mixFlight_211 ?_
  refine lv_aload_n hx₀ hb dX11_mixFlight_212 rfl (lv_at hl 2 rfl) ?_
  refine lv_iconst (v := 5) hx₀ hb dX11_mixFlight_213 (by decide +kernel) ?_
  refine lv_iload_n hx₀ hb dX11_mixFlight_214 rfl (lv_at hl 4 rfl) ?_
  refine lv_iload hx₀ hb dX11_mixFlight_215 (lv_at hl 0 rfl) ?_
  obtain ⟨hPc, hDc, hFc, hC⟩ := k_cw (wc := [(kX11 hx aLa aPa aGe aFl aTr aBe aLu aLo vSf vSm vCo vSh xs xl xf), (kX10 aTr aLa aPa aGe gL gR (gp_87 0) (gp_87 1) (g_83 8) (g_83 9) (g_83 10) (g_83 11) (g_83 12) (g_83 13) (g_83 14) (g_83 15) (g_83 16) (g_83 17)), (kX3 gL (g_83 0) (g_83 1) (g_83 2) (g_83 3)), (kX3 gR (g_83 4) (g_83 5) (g_83 6) (g_83 7)), (kX4 aLa vLa l4 a4 n4), (kAI vLa cI 24 f4), (kX7 aPa vPa l7 a7 n7), (kAI vPa cI 39 f7), (kX2 aGe vGe l2 a2 n2), (kAI vGe cI 23 f2), (kX1 aFl vFl xn), (kAI vFl cI 32 ff), (kX5 aLu vLu (gl_85 0) (gl_85 1)), (kAJ vLu cJ 46 (gb_86 0))]) hP hD hS hA [3, 4, 5, 6, 7, 8, 9, 10, 11, 12, 13, 14, 15, 16] (by decide +kernel) rfl
  refine va_calll (va_runV (As := [.int 5, .int f1, .int 1]) (rest := [.long (31 * ((31 * ((31 * ((31 * ((31 * ((31 * ((31 * ((31 * ((31 * ((31 * ((31 * ((31 * ((31 * ((31 * ((31 * ((31 * ((31 * ((31 * x1) + r_1.toInt64)) + r_7.toInt64)) + r_13.toInt64)) + r_19.toInt64)) + r_25.toInt64)) + r_31.toInt64)) + r_37.toInt64)) + r_43.toInt64)) + r_49.toInt64)) + r_50.toInt64)) + r_51.toInt64)) + r_52.toInt64)) + r_58.toInt64)) + r_64.toInt64)) + r_70.toInt64)) + r_76.toInt64)) + r_82))]) ⟨hx₀, hb, hml, hown, hts⟩ (j_laugh l dC dI cI cJ cQ H.size hx 5 f1 1 aLa aPa aGe aFl aTr aBe aLu aLo vSf vSm vCo vSh xs xl xf gL gR (gp_87 0) (gp_87 1) (g_83 8) (g_83 9) (g_83 10) (g_83 11) (g_83 12) (g_83 13) (g_83 14) (g_83 15) (g_83 16) (g_83 17) (g_83 0) (g_83 1) (g_83 2) (g_83 3) (g_83 4) (g_83 5) (g_83 6) (g_83 7) vLa l4 a4 n4 f4 vPa l7 a7 n7 f7 vGe l2 a2 n2 f2 vFl xn ff vLu (gl_85 0) (gl_85 1) (gb_86 0) (hh0) (hh1)) (cwV 3 hts (kGV wd_763 wd_983 wd_761 wd_762 wd_2) rfl rfl rfl (by decide +kernel) ⟨Nat.le_of_ble_eq_true rfl, Nat.le_of_ble_eq_true rfl⟩) (k_preV10 (q0 := 0) hK hPc hDc hN rfl) rfl rfl hl.1 rfl (lv_room (Nat.le_of_ble_eq_true rfl)) dX11_mixFlight_217 ⟨by decide +kernel, by decide +kernel⟩) hS (fun q _ h => hFc q h) hFc (fun r_88 u₀ t₀ H1 locs ht hvm hw hB hz1 hk1 hS => ?_)
  obtain ⟨g_89, ga_90, gl_91, gb_92, gp_93⟩ := u₀
  obtain ⟨hP1, hK1, hD1⟩ := hB
  rw [ht] at hP1
  have hJ := k_jn (wr := [(kX0 aBe (g_44 18) (g_44 19) (g_44 20) (g_44 21)), (kAI vSf cI 8 sf), (kAI vSm cI 8 sm)]) (wt := [(kX0 aBe (g_44 18) (g_44 19) (g_44 20) (g_44 21)), (kAI vSf cI 8 sf), (kAI vSm cI 8 sm), (kX11 hx aLa aPa aGe aFl aTr aBe aLu aLo vSf vSm vCo vSh xs xl xf), (kX10 aTr aLa aPa aGe gL gR (gp_93 0) (gp_93 1) (g_89 8) (g_89 9) (g_89 10) (g_89 11) (g_89 12) (g_89 13) (g_89 14) (g_89 15) (g_89 16) (g_89 17)), (kX3 gL (g_89 0) (g_89 1) (g_89 2) (g_89 3)), (kX3 gR (g_89 4) (g_89 5) (g_89 6) (g_89 7)), (kX4 aLa vLa l4 a4 n4), (kAI vLa cI 24 f4), (kX7 aPa vPa l7 a7 n7), (kAI vPa cI 39 f7), (kX2 aGe vGe l2 a2 n2), (kAI vGe cI 23 f2), (kX1 aFl vFl xn), (kAI vFl cI 32 ff), (kX5 aLu vLu (gl_91 0) (gl_91 1)), (kAJ vLu cJ 46 (gb_92 0))]) hP hD hC [0, 1, 2] rfl (by decide +kernel) (by decide +kernel) hk1 hFc hP1 hD1 rfl
  clear hP hD hPc hDc hFc hC hP1 hD1 hK1 hz1 hk1 hvm ht
  obtain ⟨hP, hD⟩ := hJ
  generalize H1 = H at hP hS ⊢
  try dsimp only at hw
  refine lv_ladd hx₀ hb dX11_mixFlight_220 ?_
  refine lv_lstore (lv' := [(4, .long ((31 * ((31 * ((31 * ((31 * ((31 * ((31 * ((31 * ((31 * ((31 * ((31 * ((31 * ((31 * ((31 * ((31 * ((31 * ((31 * ((31 * ((31 * x1) + r_1.toInt64)) + r_7.toInt64)) + r_13.toInt64)) + r_19.toInt64)) + r_25.toInt64)) + r_31.toInt64)) + r_37.toInt64)) + r_43.toInt64)) + r_49.toInt64)) + r_50.toInt64)) + r_51.toInt64)) + r_52.toInt64)) + r_58.toInt64)) + r_64.toInt64)) + r_70.toInt64)) + r_76.toInt64)) + r_82)) + r_88)), (6, .int 1), (0, .ref hx), (1, .long x1), (3, .int f1)]) hx₀ hb dX11_mixFlight_221 hl (by decide) rfl (fun ls hl => ?_)
  refine lv_iinc (v := 2) (lv' := [(6, .int 2), (4, .long ((31 * ((31 * ((31 * ((31 * ((31 * ((31 * ((31 * ((31 * ((31 * ((31 * ((31 * ((31 * ((31 * ((31 * ((31 * ((31 * ((31 * ((31 * x1) + r_1.toInt64)) + r_7.toInt64)) + r_13.toInt64)) + r_19.toInt64)) + r_25.toInt64)) + r_31.toInt64)) + r_37.toInt64)) + r_43.toInt64)) + r_49.toInt64)) + r_50.toInt64)) + r_51.toInt64)) + r_52.toInt64)) + r_58.toInt64)) + r_64.toInt64)) + r_70.toInt64)) + r_76.toInt64)) + r_82)) + r_88)), (0, .ref hx), (1, .long x1), (3, .int f1)]) hx₀ hb dX11_mixFlight_223 hl (k := 1) rfl (by decide +kernel) (by decide) rfl (fun ls hl => ?_)
  refine lv_goto (tgt := 200) hx₀ hb dX11_mixFlight_226 (by decide) ?_
  refine lv_iload hx₀ hb dX11_mixFlight_200 (lv_at hl 0 rfl) ?_
  refine lv_iconst (v := 1) hx₀ hb dX11_mixFlight_202 (by decide +kernel) ?_
  refine lv_icmp_gt (tgt := 229) hx₀ hb dX11_mixFlight_203 (by decide) (fun _ => ?_) (fun c9 => absurd (by decide +kernel) c9)
  refine lv_lload hx₀ hb dX11_mixFlight_229 (lv_at hl 1 rfl) ?_
  obtain ⟨hP9, hD9⟩ := k_c2 (wc := [(kX11 hx aLa aPa aGe aFl aTr aBe aLu aLo vSf vSm vCo vSh xs xl xf), (kX10 aTr aLa aPa aGe gL gR (gp_93 0) (gp_93 1) (g_89 8) (g_89 9) (g_89 10) (g_89 11) (g_89 12) (g_89 13) (g_89 14) (g_89 15) (g_89 16) (g_89 17)), (kX3 gL (g_89 0) (g_89 1) (g_89 2) (g_89 3)), (kX3 gR (g_89 4) (g_89 5) (g_89 6) (g_89 7)), (kX4 aLa vLa l4 a4 n4), (kAI vLa cI 24 f4), (kX7 aPa vPa l7 a7 n7), (kAI vPa cI 39 f7), (kX2 aGe vGe l2 a2 n2), (kAI vGe cI 23 f2), (kX1 aFl vFl xn), (kAI vFl cI 32 ff), (kX0 aBe (g_44 18) (g_44 19) (g_44 20) (g_44 21)), (kX5 aLu vLu (gl_91 0) (gl_91 1)), (kAJ vLu cJ 46 (gb_92 0)), (kAI vSf cI 8 sf), (kAI vSm cI 8 sm)]) hP hD [3, 4, 5, 6, 7, 8, 9, 10, 11, 12, 13, 14, 0, 15, 16, 1, 2] (by decide +kernel) rfl
  exact W.lret (v := (31 * ((31 * ((31 * ((31 * ((31 * ((31 * ((31 * ((31 * ((31 * ((31 * ((31 * ((31 * ((31 * ((31 * ((31 * ((31 * ((31 * ((31 * x1) + r_1.toInt64)) + r_7.toInt64)) + r_13.toInt64)) + r_19.toInt64)) + r_25.toInt64)) + r_31.toInt64)) + r_37.toInt64)) + r_43.toInt64)) + r_49.toInt64)) + r_50.toInt64)) + r_51.toInt64)) + r_52.toInt64)) + r_58.toInt64)) + r_64.toInt64)) + r_70.toInt64)) + r_76.toInt64)) + r_82)) + r_88) hx₀ hb hr (fun t₀ ht hW => ⟨⟨(31 * ((31 * ((31 * ((31 * ((31 * ((31 * ((31 * ((31 * ((31 * ((31 * ((31 * ((31 * ((31 * ((31 * ((31 * ((31 * ((31 * ((31 * x1) + r_1.toInt64)) + r_7.toInt64)) + r_13.toInt64)) + r_19.toInt64)) + r_25.toInt64)) + r_31.toInt64)) + r_37.toInt64)) + r_43.toInt64)) + r_49.toInt64)) + r_50.toInt64)) + r_51.toInt64)) + r_52.toInt64)) + r_58.toInt64)) + r_64.toInt64)) + r_70.toInt64)) + r_76.toInt64)) + r_82)) + r_88, (k_fn [(g_89 0), (g_89 1), (g_89 2), (g_89 3), (g_89 4), (g_89 5), (g_89 6), (g_89 7), (g_89 8), (g_89 9), (g_89 10), (g_89 11), (g_89 12), (g_89 13), (g_89 14), (g_89 15), (g_89 16), (g_89 17), (g_44 18), (g_44 19), (g_44 20), (g_44 21)], k_fa [], k_fl [(gl_91 0), (gl_91 1)], k_fL [gb_92 0], k_fp [(gp_93 0), (gp_93 1)]), rfl, trivial, by rw [ht]; exact hP9, va_K.moved hW.alike hK, hD9⟩, hS.F ht⟩) hS.2.2 dX11_mixFlight_231
theorem lf_j_digest_1 (a0 : Int32) (a1 : Int32) (a2 : Nat) (h0 : 0 ≤ a0 ∧ a0 ≤ 8) (h1 : 0 ≤ a1) (h2 : (a0.toInt - a1.toInt).toNat = a2) (h3 : ¬ a0 ≤ a1) : 0 ≤ (a1 + 1) := by
  first | (first | omega | (have hr0 := Int32.toInt_lt a0; have hs0 := Int32.le_toInt a0; have hr1 := Int32.toInt_lt a1; have hs1 := Int32.le_toInt a1; simp only [Int64.toInt_add, Int64.toInt_sub, Int32.toInt_add, Int32.toInt_sub, Int32.toInt_mul, Int64.le_iff_toInt_le, Int64.lt_iff_toInt_lt, Int32.le_iff_toInt_le, Int32.lt_iff_toInt_lt, ← Int32.toInt_inj, ← Int64.toInt_inj, Int32.toInt_toInt64, kc_0, kc_1, kc_8, true_and, and_true, not_true_eq_false, not_false_eq_true] at * <;> ((first | omega | ((try simp (disch := omega) only [k_bm64] at *); (try simp (disch := omega) only [k_bm] at *); (try simp (disch := omega) only [k_bm] at *); omega) | (simp only [Int.bmod] at *; omega))))) | with_reducible assumption | exact Or.inl rfl | rfl
theorem lf_j_digest_2 (a0 : Int32) (a1 : Int32) (a2 : Nat) (h0 : 0 ≤ a0 ∧ a0 ≤ 8) (h1 : 0 ≤ a1) (h2 : (a0.toInt - a1.toInt).toNat = a2) (h3 : ¬ a0 ≤ a1) : (a0.toInt - (a1 + 1).toInt).toNat < a2 := by
  first | (first | omega | (have hr0 := Int32.toInt_lt a0; have hs0 := Int32.le_toInt a0; have hr1 := Int32.toInt_lt a1; have hs1 := Int32.le_toInt a1; simp only [Int64.toInt_add, Int64.toInt_sub, Int32.toInt_add, Int32.toInt_sub, Int32.toInt_mul, Int64.le_iff_toInt_le, Int64.lt_iff_toInt_lt, Int32.le_iff_toInt_le, Int32.lt_iff_toInt_lt, ← Int32.toInt_inj, ← Int64.toInt_inj, Int32.toInt_toInt64, kc_0, kc_1, kc_8, true_and, and_true, not_true_eq_false, not_false_eq_true] at * <;> ((first | omega | ((try simp (disch := omega) only [k_bm64] at *); (try simp (disch := omega) only [k_bm] at *); (try simp (disch := omega) only [k_bm] at *); omega) | (simp only [Int.bmod] at *; omega))))) | with_reducible assumption | exact Or.inl rfl | rfl
theorem lf_j_digest_3 (a0 : Int32) (a1 : Int32) (a2 : Nat) (h0 : 0 ≤ a0) (h1 : (a1.toInt - a0.toInt).toNat = a2) (h2 : ¬ a1 ≤ a0) : 0 ≤ (a0 + 1) := by
  first | (first | omega | (have hr0 := Int32.toInt_lt a0; have hs0 := Int32.le_toInt a0; have hr1 := Int32.toInt_lt a1; have hs1 := Int32.le_toInt a1; simp only [Int64.toInt_add, Int64.toInt_sub, Int32.toInt_add, Int32.toInt_sub, Int32.toInt_mul, Int64.le_iff_toInt_le, Int64.lt_iff_toInt_lt, Int32.le_iff_toInt_le, Int32.lt_iff_toInt_lt, ← Int32.toInt_inj, ← Int64.toInt_inj, Int32.toInt_toInt64, kc_0, kc_1, true_and, and_true, not_true_eq_false, not_false_eq_true] at * <;> ((first | omega | ((try simp (disch := omega) only [k_bm64] at *); (try simp (disch := omega) only [k_bm] at *); (try simp (disch := omega) only [k_bm] at *); omega) | (simp only [Int.bmod] at *; omega))))) | with_reducible assumption | exact Or.inl rfl | rfl
theorem lf_j_digest_4 (a0 : Int32) (a1 : Int32) (a2 : Nat) (h0 : 0 ≤ a0) (h1 : (a1.toInt - a0.toInt).toNat = a2) (h2 : ¬ a1 ≤ a0) : (a1.toInt - (a0 + 1).toInt).toNat < a2 := by
  first | (first | omega | (have hr0 := Int32.toInt_lt a0; have hs0 := Int32.le_toInt a0; have hr1 := Int32.toInt_lt a1; have hs1 := Int32.le_toInt a1; simp only [Int64.toInt_add, Int64.toInt_sub, Int32.toInt_add, Int32.toInt_sub, Int32.toInt_mul, Int64.le_iff_toInt_le, Int64.lt_iff_toInt_lt, Int32.le_iff_toInt_le, Int32.lt_iff_toInt_lt, ← Int32.toInt_inj, ← Int64.toInt_inj, Int32.toInt_toInt64, kc_0, kc_1, true_and, and_true, not_true_eq_false, not_false_eq_true] at * <;> ((first | omega | ((try simp (disch := omega) only [k_bm64] at *); (try simp (disch := omega) only [k_bm] at *); (try simp (disch := omega) only [k_bm] at *); omega) | (simp only [Int.bmod] at *; omega))))) | with_reducible assumption | exact Or.inl rfl | rfl
theorem lf_j_digest_5 (a0 : Int32) (a1 : Nat) (h0 : 0 ≤ a0 ∧ a0 ≤ 4) (h1 : (4 - a0.toInt).toNat = a1) (h2 : ¬ 3 < a0) : 0 ≤ (a0 + 1) ∧ (a0 + 1) ≤ 4 := by
  first | (first | omega | (have hr0 := Int32.toInt_lt a0; have hs0 := Int32.le_toInt a0; simp only [Int64.toInt_add, Int64.toInt_sub, Int32.toInt_add, Int32.toInt_sub, Int32.toInt_mul, Int64.le_iff_toInt_le, Int64.lt_iff_toInt_lt, Int32.le_iff_toInt_le, Int32.lt_iff_toInt_lt, ← Int32.toInt_inj, ← Int64.toInt_inj, Int32.toInt_toInt64, kc_0, kc_1, kc_3, kc_4, true_and, and_true, not_true_eq_false, not_false_eq_true] at * <;> ((first | omega | ((try simp (disch := omega) only [k_bm64] at *); (try simp (disch := omega) only [k_bm] at *); (try simp (disch := omega) only [k_bm] at *); omega) | (simp only [Int.bmod] at *; omega))))) | with_reducible assumption | exact Or.inl rfl | rfl
theorem lf_j_digest_6 (a0 : Int32) (a1 : Nat) (h0 : 0 ≤ a0 ∧ a0 ≤ 4) (h1 : (4 - a0.toInt).toNat = a1) (h2 : ¬ 3 < a0) : (4 - (a0 + 1).toInt).toNat < a1 := by
  first | (first | omega | (have hr0 := Int32.toInt_lt a0; have hs0 := Int32.le_toInt a0; simp only [Int64.toInt_add, Int64.toInt_sub, Int32.toInt_add, Int32.toInt_sub, Int32.toInt_mul, Int64.le_iff_toInt_le, Int64.lt_iff_toInt_lt, Int32.le_iff_toInt_le, Int32.lt_iff_toInt_lt, ← Int32.toInt_inj, ← Int64.toInt_inj, Int32.toInt_toInt64, kc_0, kc_1, kc_3, kc_4, true_and, and_true, not_true_eq_false, not_false_eq_true] at * <;> ((first | omega | ((try simp (disch := omega) only [k_bm64] at *); (try simp (disch := omega) only [k_bm] at *); (try simp (disch := omega) only [k_bm] at *); omega) | (simp only [Int.bmod] at *; omega))))) | with_reducible assumption | exact Or.inl rfl | rfl
theorem lf_j_digest_7 (a0 : Int32) (a1 : Int32) (a2 : Nat) (h0 : 0 ≤ a0 ∧ a0 ≤ 24) (h1 : 0 ≤ a1) (h2 : (a0.toInt - a1.toInt).toNat = a2) (h3 : ¬ a0 ≤ a1) : 0 ≤ (a1 + 1) := by
  first | (first | omega | (have hr0 := Int32.toInt_lt a0; have hs0 := Int32.le_toInt a0; have hr1 := Int32.toInt_lt a1; have hs1 := Int32.le_toInt a1; simp only [Int64.toInt_add, Int64.toInt_sub, Int32.toInt_add, Int32.toInt_sub, Int32.toInt_mul, Int64.le_iff_toInt_le, Int64.lt_iff_toInt_lt, Int32.le_iff_toInt_le, Int32.lt_iff_toInt_lt, ← Int32.toInt_inj, ← Int64.toInt_inj, Int32.toInt_toInt64, kc_0, kc_1, kc_24, true_and, and_true, not_true_eq_false, not_false_eq_true] at * <;> ((first | omega | ((try simp (disch := omega) only [k_bm64] at *); (try simp (disch := omega) only [k_bm] at *); (try simp (disch := omega) only [k_bm] at *); omega) | (simp only [Int.bmod] at *; omega))))) | with_reducible assumption | exact Or.inl rfl | rfl
theorem lf_j_digest_8 (a0 : Int32) (a1 : Int32) (a2 : Nat) (h0 : 0 ≤ a0 ∧ a0 ≤ 24) (h1 : 0 ≤ a1) (h2 : (a0.toInt - a1.toInt).toNat = a2) (h3 : ¬ a0 ≤ a1) : (a0.toInt - (a1 + 1).toInt).toNat < a2 := by
  first | (first | omega | (have hr0 := Int32.toInt_lt a0; have hs0 := Int32.le_toInt a0; have hr1 := Int32.toInt_lt a1; have hs1 := Int32.le_toInt a1; simp only [Int64.toInt_add, Int64.toInt_sub, Int32.toInt_add, Int32.toInt_sub, Int32.toInt_mul, Int64.le_iff_toInt_le, Int64.lt_iff_toInt_lt, Int32.le_iff_toInt_le, Int32.lt_iff_toInt_lt, ← Int32.toInt_inj, ← Int64.toInt_inj, Int32.toInt_toInt64, kc_0, kc_1, kc_24, true_and, and_true, not_true_eq_false, not_false_eq_true] at * <;> ((first | omega | ((try simp (disch := omega) only [k_bm64] at *); (try simp (disch := omega) only [k_bm] at *); (try simp (disch := omega) only [k_bm] at *); omega) | (simp only [Int.bmod] at *; omega))))) | with_reducible assumption | exact Or.inl rfl | rfl
set_option maxHeartbeats 4000000 in
set_option maxRecDepth 100000 in
theorem j_digest (l : Launch) (dC : Nat → ClassId) (dI : Nat → Nat → Nat) (cI cJ cQ : ClassId) (sz : Nat) (hx : Nat) (aLa : Nat) (aPa : Nat) (aGe : Nat) (aFl : Nat) (aTr : Nat) (aBe : Nat) (aLu : Nat) (aLo : Nat) (vSf : Nat) (vSm : Nat) (vCo : Nat) (vSh : Nat) (xs : Int32) (xl : Int32) (xf : Int32) (gL : Nat) (gR : Nat) (lf : Nat) (rt : Nat) (tgo : Int32) (tca : Int32) (tki : Int32) (tso : Int32) (tbe : Int32) (twe : Int32) (tle : Int32) (tan : Int32) (tco : Int32) (ten : Int32) (u0 : Int32) (u1 : Int32) (u2 : Int32) (u3 : Int32) (v0 : Int32) (v1 : Int32) (v2 : Int32) (v3 : Int32) (vLa : Nat) (l4 : Int32) (a4 : Int32) (n4 : Int32) (f4 : Nat → Int32) (vPa : Nat) (l7 : Int32) (a7 : Int32) (n7 : Int32) (f7 : Nat → Int32) (vGe : Nat) (l2 : Int32) (a2 : Int32) (n2 : Int32) (f2 : Nat → Int32) (vFl : Nat) (xn : Int32) (ff : Nat → Int32) (k0 : Int32) (k1 : Int32) (k2 : Int32) (k3 : Int32) (vLu : Nat) (ab : Int64) (be : Int64) (fl : Nat → Int64) (sf : Nat → Int32) (sm : Nat → Int32) (oo : Nat → Int32) (sd : Int32) (hh0 : 0 ≤ n4 ∧ n4 ≤ 24) (hh1 : 0 ≤ xn ∧ xn ≤ 8) : Met l yX11_digest (kW yX11_digest cX11_digest 5 (some .long)) { frames := 6, cells := 0, slots := 0, locals := 150 } (kPre dC dI cI cJ cQ sz [.ref hx] [(kX11 hx aLa aPa aGe aFl aTr aBe aLu aLo vSf vSm vCo vSh xs xl xf), (kX10 aTr aLa aPa aGe gL gR lf rt tgo tca tki tso tbe twe tle tan tco ten), (kX3 gL u0 u1 u2 u3), (kX3 gR v0 v1 v2 v3), (kX4 aLa vLa l4 a4 n4), (kAI vLa cI 24 f4), (kX7 aPa vPa l7 a7 n7), (kAI vPa cI 39 f7), (kX2 aGe vGe l2 a2 n2), (kAI vGe cI 23 f2), (kX1 aFl vFl xn), (kAI vFl cI 32 ff), (kX0 aBe k0 k1 k2 k3), (kX5 aLu vLu ab be), (kAJ vLu cJ 46 fl), (kAI vSf cI 8 sf), (kAI vSm cI 8 sm), (kAI vCo cI 25 oo), (kX6 aLo sd)]) (va_Ql (fun (r : Int64) (u : kS) => True) (fun (u : kS) t₀ => kB dC dI cI cJ cQ (va_A [(kX11 hx aLa aPa aGe aFl aTr aBe aLu aLo vSf vSm vCo vSh xs xl xf), (kX10 aTr aLa aPa aGe gL gR lf rt tgo tca tki tso tbe twe tle tan tco ten), (kX3 gL u0 u1 u2 u3), (kX3 gR v0 v1 v2 v3), (kX4 aLa vLa l4 a4 n4), (kAI vLa cI 24 f4), (kX7 aPa vPa l7 a7 n7), (kAI vPa cI 39 f7), (kX2 aGe vGe l2 a2 n2), (kAI vGe cI 23 f2), (kX1 aFl vFl xn), (kAI vFl cI 32 ff), (kX0 aBe k0 k1 k2 k3), (kX5 aLu vLu ab be), (kAJ vLu cJ 46 fl), (kAI vSf cI 8 sf), (kAI vSm cI 8 sm), (kAI vCo cI 25 oo), (kX6 aLo sd)] sz) [(kX11 hx aLa aPa aGe aFl aTr aBe aLu aLo vSf vSm vCo vSh xs xl xf), (kX10 aTr aLa aPa aGe gL gR (u.2.2.2.2 0) (u.2.2.2.2 1) (u.1 8) (u.1 9) (u.1 10) (u.1 11) (u.1 12) (u.1 13) (u.1 14) (u.1 15) (u.1 16) (u.1 17)), (kX3 gL (u.1 0) (u.1 1) (u.1 2) (u.1 3)), (kX3 gR (u.1 4) (u.1 5) (u.1 6) (u.1 7)), (kX4 aLa vLa l4 a4 n4), (kAI vLa cI 24 f4), (kX7 aPa vPa l7 a7 n7), (kAI vPa cI 39 f7), (kX2 aGe vGe l2 a2 n2), (kAI vGe cI 23 f2), (kX1 aFl vFl xn), (kAI vFl cI 32 ff), (kX0 aBe (u.1 18) (u.1 19) (u.1 20) (u.1 21)), (kX5 aLu vLu (u.2.2.1 0) (u.2.2.1 1)), (kAJ vLu cJ 46 (u.2.2.2.1 0)), (kAI vSf cI 8 sf), (kAI vSm cI 8 sm), (kAI vCo cI 25 (u.2.1 0)), (kX6 aLo (u.1 22))] t₀) (va_A [(kX11 hx aLa aPa aGe aFl aTr aBe aLu aLo vSf vSm vCo vSh xs xl xf), (kX10 aTr aLa aPa aGe gL gR lf rt tgo tca tki tso tbe twe tle tan tco ten), (kX3 gL u0 u1 u2 u3), (kX3 gR v0 v1 v2 v3), (kX4 aLa vLa l4 a4 n4), (kAI vLa cI 24 f4), (kX7 aPa vPa l7 a7 n7), (kAI vPa cI 39 f7), (kX2 aGe vGe l2 a2 n2), (kAI vGe cI 23 f2), (kX1 aFl vFl xn), (kAI vFl cI 32 ff), (kX0 aBe k0 k1 k2 k3), (kX5 aLu vLu ab be), (kAJ vLu cJ 46 fl), (kAI vSf cI 8 sf), (kAI vSm cI 8 sm), (kAI vCo cI 25 oo), (kX6 aLo sd)] sz)) 0 0 (va_A [(kX11 hx aLa aPa aGe aFl aTr aBe aLu aLo vSf vSm vCo vSh xs xl xf), (kX10 aTr aLa aPa aGe gL gR lf rt tgo tca tki tso tbe twe tle tan tco ten), (kX3 gL u0 u1 u2 u3), (kX3 gR v0 v1 v2 v3), (kX4 aLa vLa l4 a4 n4), (kAI vLa cI 24 f4), (kX7 aPa vPa l7 a7 n7), (kAI vPa cI 39 f7), (kX2 aGe vGe l2 a2 n2), (kAI vGe cI 23 f2), (kX1 aFl vFl xn), (kAI vFl cI 32 ff), (kX0 aBe k0 k1 k2 k3), (kX5 aLu vLu ab be), (kAJ vLu cJ 46 fl), (kAI vSf cI 8 sf), (kAI vSm cI 8 sm), (kAI vCo cI 25 oo), (kX6 aLo sd)] sz) := by
  refine Met.ofW (cc := cX11_digest) (maxL := 5) (ret := (some .long)) (by decide) rfl ?_
  intro p₀ e₀ s₀ m₀ args below meth c₀ s₁ B hml hv₀
  obtain ⟨rfl, hsz, hP, hK, hD0, hN⟩ := hv₀
  have hx₀ := B.exec
  have hb := B.bytes
  have hr := B.returns
  have hts := atoms_spec (ws := (kW yX11_digest cX11_digest 5 (some .long))) B.pre
  have hts := fun w h => hts w (List.mem_cons_of_mem _ h)
  have hown : s₀.vm.findClass RX11 = some m₀.cls := findClass_of_methodNamed B.named
  have hlocks := B.notSynchronized
  subst hsz
  have hD := hD0.self (sz := s₀.heap.size)
  generalize hAe : va_A [(kX11 hx aLa aPa aGe aFl aTr aBe aLu aLo vSf vSm vCo vSh xs xl xf), (kX10 aTr aLa aPa aGe gL gR lf rt tgo tca tki tso tbe twe tle tan tco ten), (kX3 gL u0 u1 u2 u3), (kX3 gR v0 v1 v2 v3), (kX4 aLa vLa l4 a4 n4), (kAI vLa cI 24 f4), (kX7 aPa vPa l7 a7 n7), (kAI vPa cI 39 f7), (kX2 aGe vGe l2 a2 n2), (kAI vGe cI 23 f2), (kX1 aFl vFl xn), (kAI vFl cI 32 ff), (kX0 aBe k0 k1 k2 k3), (kX5 aLu vLu ab be), (kAJ vLu cJ 46 fl), (kAI vSf cI 8 sf), (kAI vSm cI 8 sm), (kAI vCo cI 25 oo), (kX6 aLo sd)] s₀.heap.size = A at hD ⊢
  have hA : ∀ q : Nat, s₀.heap.size ≤ q → A q := fun q h => by rw [← hAe]; exact Or.inr h
  have hS : va_S A s₀.heap s₀.heap [] := va_S.rf
  have hP : va_P (dC, dI) vwCl [(kX11 hx aLa aPa aGe aFl aTr aBe aLu aLo vSf vSm vCo vSh xs xl xf), (kX10 aTr aLa aPa aGe gL gR lf rt tgo tca tki tso tbe twe tle tan tco ten), (kX3 gL u0 u1 u2 u3), (kX3 gR v0 v1 v2 v3), (kX4 aLa vLa l4 a4 n4), (kAI vLa cI 24 f4), (kX7 aPa vPa l7 a7 n7), (kAI vPa cI 39 f7), (kX2 aGe vGe l2 a2 n2), (kAI vGe cI 23 f2), (kX1 aFl vFl xn), (kAI vFl cI 32 ff), (kX0 aBe k0 k1 k2 k3), (kX5 aLu vLu ab be), (kAJ vLu cJ 46 fl), (kAI vSf cI 8 sf), (kAI vSm cI 8 sm), (kAI vCo cI 25 oo), (kX6 aLo sd)] s₀.heap := hP
  have hl := lv_entry ([.ref hx]) (n := 5) (Nat.le_of_ble_eq_true rfl)
  rw [lg_entry_eq]
  generalize (lg_sl ([.ref hx]) ++ List.replicate (5 - (lg_sl ([.ref hx])).length) Slot.unset).toArray = ls at hl ⊢
  have hl : lv_has ls 5 [(0, .ref hx)] := hl
  obtain ⟨H, hH⟩ : ∃ z : Heap, z = s₀.heap := ⟨_, rfl⟩
  rw [← hH] at hP
  have hS : va_S A s₀.heap H [] := by rw [hH]; exact hS
  refine k_heap hH ?_
  have hD : va_D A [(kX11 hx aLa aPa aGe aFl aTr aBe aLu aLo vSf vSm vCo vSh xs xl xf), (kX10 aTr aLa aPa aGe gL gR lf rt tgo tca tki tso tbe twe tle tan tco ten), (kX3 gL u0 u1 u2 u3), (kX3 gR v0 v1 v2 v3), (kX4 aLa vLa l4 a4 n4), (kAI vLa cI 24 f4), (kX7 aPa vPa l7 a7 n7), (kAI vPa cI 39 f7), (kX2 aGe vGe l2 a2 n2), (kAI vGe cI 23 f2), (kX1 aFl vFl xn), (kAI vFl cI 32 ff), (kX0 aBe k0 k1 k2 k3), (kX5 aLu vLu ab be), (kAJ vLu cJ 46 fl), (kAI vSf cI 8 sf), (kAI vSm cI 8 sm), (kAI vCo cI 25 oo), (kX6 aLo sd)] := hD
  obtain ⟨locs, hlo⟩ : ∃ z : List Loc, z = [] := ⟨_, rfl⟩
  rw [← hlo] at hS ⊢
  clear hlo hH hAe hD0
  refine lv_ldc2 (v := 17) hx₀ hb hown (hts (.constantLong RX11 272 (17)) wd_965) dX11_digest_0 ?_
  refine lv_lstore_n (lv' := [(1, .long 17), (0, .ref hx)]) hx₀ hb dX11_digest_3 rfl hl (by decide) rfl (fun ls hl => ?_)
  refine lv_iconst (v := 0) hx₀ hb dX11_digest_4 (by decide +kernel) ?_
  refine lv_istore_n (lv' := [(3, .int 0), (1, .long 17), (0, .ref hx)]) hx₀ hb dX11_digest_5 rfl hl (by decide) rfl (fun ls hl => ?_)
  refine lv_iload_n hx₀ hb dX11_digest_6 rfl (lv_at hl 0 rfl) ?_
  refine lv_bipush (v := 7) hx₀ hb dX11_digest_7 (by decide +kernel) ?_
  refine lv_icmp_gt (tgt := 31) hx₀ hb dX11_digest_9 (by decide) (fun c9 => absurd c9 (by decide +kernel)) (fun _ => ?_)
  refine lv_ldc2 (v := 31) hx₀ hb hown (hts (.constantLong RX11 274 (31)) wd_966) dX11_digest_12 ?_
  refine lv_lload_n hx₀ hb dX11_digest_15 rfl (lv_at hl 1 rfl) ?_
  refine lv_lmul hx₀ hb dX11_digest_16 ?_
  refine k_topl (v := 527) (by decide +kernel) ?_
  refine lv_aload_n hx₀ hb dX11_digest_17 rfl (lv_at hl 2 rfl) ?_
  refine lv_iload_n hx₀ hb dX11_digest_18 rfl (lv_at hl 0 rfl) ?_
  obtain ⟨hPc, hDc, hFc, hC⟩ := k_cw (wc := [(kX11 hx aLa aPa aGe aFl aTr aBe aLu aLo vSf vSm vCo vSh xs xl xf), (kX4 aLa vLa l4 a4 n4), (kX7 aPa vPa l7 a7 n7), (kX2 aGe vGe l2 a2 n2), (kX1 aFl vFl xn)]) hP hD hS hA [0, 4, 6, 8, 10] (by decide +kernel) rfl
  refine va_calli (va_runV (As := [.int 0]) (rest := [.long 527]) ⟨hx₀, hb, hml, hown, hts⟩ (j_count l dC dI cI cJ cQ H.size hx 0 aLa aPa aGe aFl aTr aBe aLu aLo vSf vSm vCo vSh xs xl xf vLa l4 a4 n4 vPa l7 a7 n7 vGe l2 a2 n2 vFl xn) (cwV 1 hts (kGV wd_950 wd_967 wd_948 wd_949 wd_2) rfl rfl rfl (by decide +kernel) ⟨Nat.le_of_ble_eq_true rfl, Nat.le_of_ble_eq_true rfl⟩) (k_preV10 (q0 := 0) hK hPc hDc hN rfl) rfl rfl hl.1 rfl (lv_room (Nat.le_of_ble_eq_true rfl)) dX11_digest_19 ⟨by decide +kernel, by decide +kernel⟩) hS (fun q _ h => hFc q h) hFc (fun r_1 u₀ t₀ H1 locs ht hvm hw hB hz1 hk1 hS => ?_)
  obtain ⟨hP1, hK1, hD1⟩ := hB
  rw [ht] at hP1
  have hJ := k_jn (wr := [(kX10 aTr aLa aPa aGe gL gR lf rt tgo tca tki tso tbe twe tle tan tco ten), (kX3 gL u0 u1 u2 u3), (kX3 gR v0 v1 v2 v3), (kAI vLa cI 24 f4), (kAI vPa cI 39 f7), (kAI vGe cI 23 f2), (kAI vFl cI 32 ff), (kX0 aBe k0 k1 k2 k3), (kX5 aLu vLu ab be), (kAJ vLu cJ 46 fl), (kAI vSf cI 8 sf), (kAI vSm cI 8 sm), (kAI vCo cI 25 oo), (kX6 aLo sd)]) (wt := [(kX10 aTr aLa aPa aGe gL gR lf rt tgo tca tki tso tbe twe tle tan tco ten), (kX3 gL u0 u1 u2 u3), (kX3 gR v0 v1 v2 v3), (kAI vLa cI 24 f4), (kAI vPa cI 39 f7), (kAI vGe cI 23 f2), (kAI vFl cI 32 ff), (kX0 aBe k0 k1 k2 k3), (kX5 aLu vLu ab be), (kAJ vLu cJ 46 fl), (kAI vSf cI 8 sf), (kAI vSm cI 8 sm), (kAI vCo cI 25 oo), (kX6 aLo sd), (kX11 hx aLa aPa aGe aFl aTr aBe aLu aLo vSf vSm vCo vSh xs xl xf), (kX4 aLa vLa l4 a4 n4), (kX7 aPa vPa l7 a7 n7), (kX2 aGe vGe l2 a2 n2), (kX1 aFl vFl xn)]) hP hD hC [1, 2, 3, 5, 7, 9, 11, 12, 13, 14, 15, 16, 17, 18] rfl (by decide +kernel) (by decide +kernel) hk1 hFc hP1 hD1 rfl
  clear hP hD hPc hDc hFc hC hP1 hD1 hK1 hz1 hk1 hvm ht
  obtain ⟨hP, hD⟩ := hJ
  generalize H1 = H at hP hS ⊢
  try dsimp only at hw
  have c_2 := hw
  refine lv_i2l hx₀ hb dX11_digest_22 rfl ?_
  refine lv_ladd hx₀ hb dX11_digest_23 ?_
  refine lv_lstore_n (lv' := [(1, .long (527 + r_1.toInt64)), (3, .int 0), (0, .ref hx)]) hx₀ hb dX11_digest_24 rfl hl (by decide) rfl (fun ls hl => ?_)
  refine lv_iinc (v := 1) (lv' := [(3, .int 1), (1, .long (527 + r_1.toInt64)), (0, .ref hx)]) hx₀ hb dX11_digest_25 hl (k := 1) rfl (by decide +kernel) (by decide) rfl (fun ls hl => ?_)
  refine lv_goto (tgt := 6) hx₀ hb dX11_digest_28 (by decide) ?_
  refine lv_iload_n hx₀ hb dX11_digest_6 rfl (lv_at hl 0 rfl) ?_
  refine lv_bipush (v := 7) hx₀ hb dX11_digest_7 (by decide +kernel) ?_
  refine lv_icmp_gt (tgt := 31) hx₀ hb dX11_digest_9 (by decide) (fun c9 => absurd c9 (by decide +kernel)) (fun _ => ?_)
  refine lv_ldc2 (v := 31) hx₀ hb hown (hts (.constantLong RX11 274 (31)) wd_966) dX11_digest_12 ?_
  refine lv_lload_n hx₀ hb dX11_digest_15 rfl (lv_at hl 1 rfl) ?_
  refine lv_lmul hx₀ hb dX11_digest_16 ?_
  refine lv_aload_n hx₀ hb dX11_digest_17 rfl (lv_at hl 2 rfl) ?_
  refine lv_iload_n hx₀ hb dX11_digest_18 rfl (lv_at hl 0 rfl) ?_
  obtain ⟨hPc, hDc, hFc, hC⟩ := k_cw (wc := [(kX11 hx aLa aPa aGe aFl aTr aBe aLu aLo vSf vSm vCo vSh xs xl xf), (kX4 aLa vLa l4 a4 n4), (kX7 aPa vPa l7 a7 n7), (kX2 aGe vGe l2 a2 n2), (kX1 aFl vFl xn)]) hP hD hS hA [14, 15, 16, 17, 18] (by decide +kernel) rfl
  refine va_calli (va_runV (As := [.int 1]) (rest := [.long (31 * (527 + r_1.toInt64))]) ⟨hx₀, hb, hml, hown, hts⟩ (j_count l dC dI cI cJ cQ H.size hx 1 aLa aPa aGe aFl aTr aBe aLu aLo vSf vSm vCo vSh xs xl xf vLa l4 a4 n4 vPa l7 a7 n7 vGe l2 a2 n2 vFl xn) (cwV 1 hts (kGV wd_950 wd_967 wd_948 wd_949 wd_2) rfl rfl rfl (by decide +kernel) ⟨Nat.le_of_ble_eq_true rfl, Nat.le_of_ble_eq_true rfl⟩) (k_preV10 (q0 := 0) hK hPc hDc hN rfl) rfl rfl hl.1 rfl (lv_room (Nat.le_of_ble_eq_true rfl)) dX11_digest_19 ⟨by decide +kernel, by decide +kernel⟩) hS (fun q _ h => hFc q h) hFc (fun r_3 u₀ t₀ H1 locs ht hvm hw hB hz1 hk1 hS => ?_)
  obtain ⟨hP1, hK1, hD1⟩ := hB
  rw [ht] at hP1
  have hJ := k_jn (wr := [(kX10 aTr aLa aPa aGe gL gR lf rt tgo tca tki tso tbe twe tle tan tco ten), (kX3 gL u0 u1 u2 u3), (kX3 gR v0 v1 v2 v3), (kAI vLa cI 24 f4), (kAI vPa cI 39 f7), (kAI vGe cI 23 f2), (kAI vFl cI 32 ff), (kX0 aBe k0 k1 k2 k3), (kX5 aLu vLu ab be), (kAJ vLu cJ 46 fl), (kAI vSf cI 8 sf), (kAI vSm cI 8 sm), (kAI vCo cI 25 oo), (kX6 aLo sd)]) (wt := [(kX10 aTr aLa aPa aGe gL gR lf rt tgo tca tki tso tbe twe tle tan tco ten), (kX3 gL u0 u1 u2 u3), (kX3 gR v0 v1 v2 v3), (kAI vLa cI 24 f4), (kAI vPa cI 39 f7), (kAI vGe cI 23 f2), (kAI vFl cI 32 ff), (kX0 aBe k0 k1 k2 k3), (kX5 aLu vLu ab be), (kAJ vLu cJ 46 fl), (kAI vSf cI 8 sf), (kAI vSm cI 8 sm), (kAI vCo cI 25 oo), (kX6 aLo sd), (kX11 hx aLa aPa aGe aFl aTr aBe aLu aLo vSf vSm vCo vSh xs xl xf), (kX4 aLa vLa l4 a4 n4), (kX7 aPa vPa l7 a7 n7), (kX2 aGe vGe l2 a2 n2), (kX1 aFl vFl xn)]) hP hD hC [0, 1, 2, 3, 4, 5, 6, 7, 8, 9, 10, 11, 12, 13] rfl (by decide +kernel) (by decide +kernel) hk1 hFc hP1 hD1 rfl
  clear hP hD hPc hDc hFc hC hP1 hD1 hK1 hz1 hk1 hvm ht
  obtain ⟨hP, hD⟩ := hJ
  generalize H1 = H at hP hS ⊢
  try dsimp only at hw
  have c_4 := hw
  refine lv_i2l hx₀ hb dX11_digest_22 rfl ?_
  refine lv_ladd hx₀ hb dX11_digest_23 ?_
  refine lv_lstore_n (lv' := [(1, .long ((31 * (527 + r_1.toInt64)) + r_3.toInt64)), (3, .int 1), (0, .ref hx)]) hx₀ hb dX11_digest_24 rfl hl (by decide) rfl (fun ls hl => ?_)
  refine lv_iinc (v := 2) (lv' := [(3, .int 2), (1, .long ((31 * (527 + r_1.toInt64)) + r_3.toInt64)), (0, .ref hx)]) hx₀ hb dX11_digest_25 hl (k := 1) rfl (by decide +kernel) (by decide) rfl (fun ls hl => ?_)
  refine lv_goto (tgt := 6) hx₀ hb dX11_digest_28 (by decide) ?_
  refine lv_iload_n hx₀ hb dX11_digest_6 rfl (lv_at hl 0 rfl) ?_
  refine lv_bipush (v := 7) hx₀ hb dX11_digest_7 (by decide +kernel) ?_
  refine lv_icmp_gt (tgt := 31) hx₀ hb dX11_digest_9 (by decide) (fun c9 => absurd c9 (by decide +kernel)) (fun _ => ?_)
  refine lv_ldc2 (v := 31) hx₀ hb hown (hts (.constantLong RX11 274 (31)) wd_966) dX11_digest_12 ?_
  refine lv_lload_n hx₀ hb dX11_digest_15 rfl (lv_at hl 1 rfl) ?_
  refine lv_lmul hx₀ hb dX11_digest_16 ?_
  refine lv_aload_n hx₀ hb dX11_digest_17 rfl (lv_at hl 2 rfl) ?_
  refine lv_iload_n hx₀ hb dX11_digest_18 rfl (lv_at hl 0 rfl) ?_
  obtain ⟨hPc, hDc, hFc, hC⟩ := k_cw (wc := [(kX11 hx aLa aPa aGe aFl aTr aBe aLu aLo vSf vSm vCo vSh xs xl xf), (kX4 aLa vLa l4 a4 n4), (kX7 aPa vPa l7 a7 n7), (kX2 aGe vGe l2 a2 n2), (kX1 aFl vFl xn)]) hP hD hS hA [14, 15, 16, 17, 18] (by decide +kernel) rfl
  refine va_calli (va_runV (As := [.int 2]) (rest := [.long (31 * ((31 * (527 + r_1.toInt64)) + r_3.toInt64))]) ⟨hx₀, hb, hml, hown, hts⟩ (j_count l dC dI cI cJ cQ H.size hx 2 aLa aPa aGe aFl aTr aBe aLu aLo vSf vSm vCo vSh xs xl xf vLa l4 a4 n4 vPa l7 a7 n7 vGe l2 a2 n2 vFl xn) (cwV 1 hts (kGV wd_950 wd_967 wd_948 wd_949 wd_2) rfl rfl rfl (by decide +kernel) ⟨Nat.le_of_ble_eq_true rfl, Nat.le_of_ble_eq_true rfl⟩) (k_preV10 (q0 := 0) hK hPc hDc hN rfl) rfl rfl hl.1 rfl (lv_room (Nat.le_of_ble_eq_true rfl)) dX11_digest_19 ⟨by decide +kernel, by decide +kernel⟩) hS (fun q _ h => hFc q h) hFc (fun r_5 u₀ t₀ H1 locs ht hvm hw hB hz1 hk1 hS => ?_)
  obtain ⟨hP1, hK1, hD1⟩ := hB
  rw [ht] at hP1
  have hJ := k_jn (wr := [(kX10 aTr aLa aPa aGe gL gR lf rt tgo tca tki tso tbe twe tle tan tco ten), (kX3 gL u0 u1 u2 u3), (kX3 gR v0 v1 v2 v3), (kAI vLa cI 24 f4), (kAI vPa cI 39 f7), (kAI vGe cI 23 f2), (kAI vFl cI 32 ff), (kX0 aBe k0 k1 k2 k3), (kX5 aLu vLu ab be), (kAJ vLu cJ 46 fl), (kAI vSf cI 8 sf), (kAI vSm cI 8 sm), (kAI vCo cI 25 oo), (kX6 aLo sd)]) (wt := [(kX10 aTr aLa aPa aGe gL gR lf rt tgo tca tki tso tbe twe tle tan tco ten), (kX3 gL u0 u1 u2 u3), (kX3 gR v0 v1 v2 v3), (kAI vLa cI 24 f4), (kAI vPa cI 39 f7), (kAI vGe cI 23 f2), (kAI vFl cI 32 ff), (kX0 aBe k0 k1 k2 k3), (kX5 aLu vLu ab be), (kAJ vLu cJ 46 fl), (kAI vSf cI 8 sf), (kAI vSm cI 8 sm), (kAI vCo cI 25 oo), (kX6 aLo sd), (kX11 hx aLa aPa aGe aFl aTr aBe aLu aLo vSf vSm vCo vSh xs xl xf), (kX4 aLa vLa l4 a4 n4), (kX7 aPa vPa l7 a7 n7), (kX2 aGe vGe l2 a2 n2), (kX1 aFl vFl xn)]) hP hD hC [0, 1, 2, 3, 4, 5, 6, 7, 8, 9, 10, 11, 12, 13] rfl (by decide +kernel) (by decide +kernel) hk1 hFc hP1 hD1 rfl
  clear hP hD hPc hDc hFc hC hP1 hD1 hK1 hz1 hk1 hvm ht
  obtain ⟨hP, hD⟩ := hJ
  generalize H1 = H at hP hS ⊢
  try dsimp only at hw
  have c_6 := hw
  refine lv_i2l hx₀ hb dX11_digest_22 rfl ?_
  refine lv_ladd hx₀ hb dX11_digest_23 ?_
  refine lv_lstore_n (lv' := [(1, .long ((31 * ((31 * (527 + r_1.toInt64)) + r_3.toInt64)) + r_5.toInt64)), (3, .int 2), (0, .ref hx)]) hx₀ hb dX11_digest_24 rfl hl (by decide) rfl (fun ls hl => ?_)
  refine lv_iinc (v := 3) (lv' := [(3, .int 3), (1, .long ((31 * ((31 * (527 + r_1.toInt64)) + r_3.toInt64)) + r_5.toInt64)), (0, .ref hx)]) hx₀ hb dX11_digest_25 hl (k := 1) rfl (by decide +kernel) (by decide) rfl (fun ls hl => ?_)
  refine lv_goto (tgt := 6) hx₀ hb dX11_digest_28 (by decide) ?_
  refine lv_iload_n hx₀ hb dX11_digest_6 rfl (lv_at hl 0 rfl) ?_
  refine lv_bipush (v := 7) hx₀ hb dX11_digest_7 (by decide +kernel) ?_
  refine lv_icmp_gt (tgt := 31) hx₀ hb dX11_digest_9 (by decide) (fun c9 => absurd c9 (by decide +kernel)) (fun _ => ?_)
  refine lv_ldc2 (v := 31) hx₀ hb hown (hts (.constantLong RX11 274 (31)) wd_966) dX11_digest_12 ?_
  refine lv_lload_n hx₀ hb dX11_digest_15 rfl (lv_at hl 1 rfl) ?_
  refine lv_lmul hx₀ hb dX11_digest_16 ?_
  refine lv_aload_n hx₀ hb dX11_digest_17 rfl (lv_at hl 2 rfl) ?_
  refine lv_iload_n hx₀ hb dX11_digest_18 rfl (lv_at hl 0 rfl) ?_
  obtain ⟨hPc, hDc, hFc, hC⟩ := k_cw (wc := [(kX11 hx aLa aPa aGe aFl aTr aBe aLu aLo vSf vSm vCo vSh xs xl xf), (kX4 aLa vLa l4 a4 n4), (kX7 aPa vPa l7 a7 n7), (kX2 aGe vGe l2 a2 n2), (kX1 aFl vFl xn)]) hP hD hS hA [14, 15, 16, 17, 18] (by decide +kernel) rfl
  refine va_calli (va_runV (As := [.int 3]) (rest := [.long (31 * ((31 * ((31 * (527 + r_1.toInt64)) + r_3.toInt64)) + r_5.toInt64))]) ⟨hx₀, hb, hml, hown, hts⟩ (j_count l dC dI cI cJ cQ H.size hx 3 aLa aPa aGe aFl aTr aBe aLu aLo vSf vSm vCo vSh xs xl xf vLa l4 a4 n4 vPa l7 a7 n7 vGe l2 a2 n2 vFl xn) (cwV 1 hts (kGV wd_950 wd_967 wd_948 wd_949 wd_2) rfl rfl rfl (by decide +kernel) ⟨Nat.le_of_ble_eq_true rfl, Nat.le_of_ble_eq_true rfl⟩) (k_preV10 (q0 := 0) hK hPc hDc hN rfl) rfl rfl hl.1 rfl (lv_room (Nat.le_of_ble_eq_true rfl)) dX11_digest_19 ⟨by decide +kernel, by decide +kernel⟩) hS (fun q _ h => hFc q h) hFc (fun r_7 u₀ t₀ H1 locs ht hvm hw hB hz1 hk1 hS => ?_)
  obtain ⟨hP1, hK1, hD1⟩ := hB
  rw [ht] at hP1
  have hJ := k_jn (wr := [(kX10 aTr aLa aPa aGe gL gR lf rt tgo tca tki tso tbe twe tle tan tco ten), (kX3 gL u0 u1 u2 u3), (kX3 gR v0 v1 v2 v3), (kAI vLa cI 24 f4), (kAI vPa cI 39 f7), (kAI vGe cI 23 f2), (kAI vFl cI 32 ff), (kX0 aBe k0 k1 k2 k3), (kX5 aLu vLu ab be), (kAJ vLu cJ 46 fl), (kAI vSf cI 8 sf), (kAI vSm cI 8 sm), (kAI vCo cI 25 oo), (kX6 aLo sd)]) (wt := [(kX10 aTr aLa aPa aGe gL gR lf rt tgo tca tki tso tbe twe tle tan tco ten), (kX3 gL u0 u1 u2 u3), (kX3 gR v0 v1 v2 v3), (kAI vLa cI 24 f4), (kAI vPa cI 39 f7), (kAI vGe cI 23 f2), (kAI vFl cI 32 ff), (kX0 aBe k0 k1 k2 k3), (kX5 aLu vLu ab be), (kAJ vLu cJ 46 fl), (kAI vSf cI 8 sf), (kAI vSm cI 8 sm), (kAI vCo cI 25 oo), (kX6 aLo sd), (kX11 hx aLa aPa aGe aFl aTr aBe aLu aLo vSf vSm vCo vSh xs xl xf), (kX4 aLa vLa l4 a4 n4), (kX7 aPa vPa l7 a7 n7), (kX2 aGe vGe l2 a2 n2), (kX1 aFl vFl xn)]) hP hD hC [0, 1, 2, 3, 4, 5, 6, 7, 8, 9, 10, 11, 12, 13] rfl (by decide +kernel) (by decide +kernel) hk1 hFc hP1 hD1 rfl
  clear hP hD hPc hDc hFc hC hP1 hD1 hK1 hz1 hk1 hvm ht
  obtain ⟨hP, hD⟩ := hJ
  generalize H1 = H at hP hS ⊢
  try dsimp only at hw
  have c_8 := hw
  refine lv_i2l hx₀ hb dX11_digest_22 rfl ?_
  refine lv_ladd hx₀ hb dX11_digest_23 ?_
  refine lv_lstore_n (lv' := [(1, .long ((31 * ((31 * ((31 * (527 + r_1.toInt64)) + r_3.toInt64)) + r_5.toInt64)) + r_7.toInt64)), (3, .int 3), (0, .ref hx)]) hx₀ hb dX11_digest_24 rfl hl (by decide) rfl (fun ls hl => ?_)
  refine lv_iinc (v := 4) (lv' := [(3, .int 4), (1, .long ((31 * ((31 * ((31 * (527 + r_1.toInt64)) + r_3.toInt64)) + r_5.toInt64)) + r_7.toInt64)), (0, .ref hx)]) hx₀ hb dX11_digest_25 hl (k := 1) rfl (by decide +kernel) (by decide) rfl (fun ls hl => ?_)
  refine lv_goto (tgt := 6) hx₀ hb dX11_digest_28 (by decide) ?_
  refine lv_iload_n hx₀ hb dX11_digest_6 rfl (lv_at hl 0 rfl) ?_
  refine lv_bipush (v := 7) hx₀ hb dX11_digest_7 (by decide +kernel) ?_
  refine lv_icmp_gt (tgt := 31) hx₀ hb dX11_digest_9 (by decide) (fun c9 => absurd c9 (by decide +kernel)) (fun _ => ?_)
  refine lv_ldc2 (v := 31) hx₀ hb hown (hts (.constantLong RX11 274 (31)) wd_966) dX11_digest_12 ?_
  refine lv_lload_n hx₀ hb dX11_digest_15 rfl (lv_at hl 1 rfl) ?_
  refine lv_lmul hx₀ hb dX11_digest_16 ?_
  refine lv_aload_n hx₀ hb dX11_digest_17 rfl (lv_at hl 2 rfl) ?_
  refine lv_iload_n hx₀ hb dX11_digest_18 rfl (lv_at hl 0 rfl) ?_
  obtain ⟨hPc, hDc, hFc, hC⟩ := k_cw (wc := [(kX11 hx aLa aPa aGe aFl aTr aBe aLu aLo vSf vSm vCo vSh xs xl xf), (kX4 aLa vLa l4 a4 n4), (kX7 aPa vPa l7 a7 n7), (kX2 aGe vGe l2 a2 n2), (kX1 aFl vFl xn)]) hP hD hS hA [14, 15, 16, 17, 18] (by decide +kernel) rfl
  refine va_calli (va_runV (As := [.int 4]) (rest := [.long (31 * ((31 * ((31 * ((31 * (527 + r_1.toInt64)) + r_3.toInt64)) + r_5.toInt64)) + r_7.toInt64))]) ⟨hx₀, hb, hml, hown, hts⟩ (j_count l dC dI cI cJ cQ H.size hx 4 aLa aPa aGe aFl aTr aBe aLu aLo vSf vSm vCo vSh xs xl xf vLa l4 a4 n4 vPa l7 a7 n7 vGe l2 a2 n2 vFl xn) (cwV 1 hts (kGV wd_950 wd_967 wd_948 wd_949 wd_2) rfl rfl rfl (by decide +kernel) ⟨Nat.le_of_ble_eq_true rfl, Nat.le_of_ble_eq_true rfl⟩) (k_preV10 (q0 := 0) hK hPc hDc hN rfl) rfl rfl hl.1 rfl (lv_room (Nat.le_of_ble_eq_true rfl)) dX11_digest_19 ⟨by decide +kernel, by decide +kernel⟩) hS (fun q _ h => hFc q h) hFc (fun r_9 u₀ t₀ H1 locs ht hvm hw hB hz1 hk1 hS => ?_)
  obtain ⟨hP1, hK1, hD1⟩ := hB
  rw [ht] at hP1
  have hJ := k_jn (wr := [(kX10 aTr aLa aPa aGe gL gR lf rt tgo tca tki tso tbe twe tle tan tco ten), (kX3 gL u0 u1 u2 u3), (kX3 gR v0 v1 v2 v3), (kAI vLa cI 24 f4), (kAI vPa cI 39 f7), (kAI vGe cI 23 f2), (kAI vFl cI 32 ff), (kX0 aBe k0 k1 k2 k3), (kX5 aLu vLu ab be), (kAJ vLu cJ 46 fl), (kAI vSf cI 8 sf), (kAI vSm cI 8 sm), (kAI vCo cI 25 oo), (kX6 aLo sd)]) (wt := [(kX10 aTr aLa aPa aGe gL gR lf rt tgo tca tki tso tbe twe tle tan tco ten), (kX3 gL u0 u1 u2 u3), (kX3 gR v0 v1 v2 v3), (kAI vLa cI 24 f4), (kAI vPa cI 39 f7), (kAI vGe cI 23 f2), (kAI vFl cI 32 ff), (kX0 aBe k0 k1 k2 k3), (kX5 aLu vLu ab be), (kAJ vLu cJ 46 fl), (kAI vSf cI 8 sf), (kAI vSm cI 8 sm), (kAI vCo cI 25 oo), (kX6 aLo sd), (kX11 hx aLa aPa aGe aFl aTr aBe aLu aLo vSf vSm vCo vSh xs xl xf), (kX4 aLa vLa l4 a4 n4), (kX7 aPa vPa l7 a7 n7), (kX2 aGe vGe l2 a2 n2), (kX1 aFl vFl xn)]) hP hD hC [0, 1, 2, 3, 4, 5, 6, 7, 8, 9, 10, 11, 12, 13] rfl (by decide +kernel) (by decide +kernel) hk1 hFc hP1 hD1 rfl
  clear hP hD hPc hDc hFc hC hP1 hD1 hK1 hz1 hk1 hvm ht
  obtain ⟨hP, hD⟩ := hJ
  generalize H1 = H at hP hS ⊢
  try dsimp only at hw
  have c_10 := hw
  refine lv_i2l hx₀ hb dX11_digest_22 rfl ?_
  refine lv_ladd hx₀ hb dX11_digest_23 ?_
  refine lv_lstore_n (lv' := [(1, .long ((31 * ((31 * ((31 * ((31 * (527 + r_1.toInt64)) + r_3.toInt64)) + r_5.toInt64)) + r_7.toInt64)) + r_9.toInt64)), (3, .int 4), (0, .ref hx)]) hx₀ hb dX11_digest_24 rfl hl (by decide) rfl (fun ls hl => ?_)
  refine lv_iinc (v := 5) (lv' := [(3, .int 5), (1, .long ((31 * ((31 * ((31 * ((31 * (527 + r_1.toInt64)) + r_3.toInt64)) + r_5.toInt64)) + r_7.toInt64)) + r_9.toInt64)), (0, .ref hx)]) hx₀ hb dX11_digest_25 hl (k := 1) rfl (by decide +kernel) (by decide) rfl (fun ls hl => ?_)
  refine lv_goto (tgt := 6) hx₀ hb dX11_digest_28 (by decide) ?_
  refine lv_iload_n hx₀ hb dX11_digest_6 rfl (lv_at hl 0 rfl) ?_
  refine lv_bipush (v := 7) hx₀ hb dX11_digest_7 (by decide +kernel) ?_
  refine lv_icmp_gt (tgt := 31) hx₀ hb dX11_digest_9 (by decide) (fun c9 => absurd c9 (by decide +kernel)) (fun _ => ?_)
  refine lv_ldc2 (v := 31) hx₀ hb hown (hts (.constantLong RX11 274 (31)) wd_966) dX11_digest_12 ?_
  refine lv_lload_n hx₀ hb dX11_digest_15 rfl (lv_at hl 1 rfl) ?_
  refine lv_lmul hx₀ hb dX11_digest_16 ?_
  refine lv_aload_n hx₀ hb dX11_digest_17 rfl (lv_at hl 2 rfl) ?_
  refine lv_iload_n hx₀ hb dX11_digest_18 rfl (lv_at hl 0 rfl) ?_
  obtain ⟨hPc, hDc, hFc, hC⟩ := k_cw (wc := [(kX11 hx aLa aPa aGe aFl aTr aBe aLu aLo vSf vSm vCo vSh xs xl xf), (kX4 aLa vLa l4 a4 n4), (kX7 aPa vPa l7 a7 n7), (kX2 aGe vGe l2 a2 n2), (kX1 aFl vFl xn)]) hP hD hS hA [14, 15, 16, 17, 18] (by decide +kernel) rfl
  refine va_calli (va_runV (As := [.int 5]) (rest := [.long (31 * ((31 * ((31 * ((31 * ((31 * (527 + r_1.toInt64)) + r_3.toInt64)) + r_5.toInt64)) + r_7.toInt64)) + r_9.toInt64))]) ⟨hx₀, hb, hml, hown, hts⟩ (j_count l dC dI cI cJ cQ H.size hx 5 aLa aPa aGe aFl aTr aBe aLu aLo vSf vSm vCo vSh xs xl xf vLa l4 a4 n4 vPa l7 a7 n7 vGe l2 a2 n2 vFl xn) (cwV 1 hts (kGV wd_950 wd_967 wd_948 wd_949 wd_2) rfl rfl rfl (by decide +kernel) ⟨Nat.le_of_ble_eq_true rfl, Nat.le_of_ble_eq_true rfl⟩) (k_preV10 (q0 := 0) hK hPc hDc hN rfl) rfl rfl hl.1 rfl (lv_room (Nat.le_of_ble_eq_true rfl)) dX11_digest_19 ⟨by decide +kernel, by decide +kernel⟩) hS (fun q _ h => hFc q h) hFc (fun r_11 u₀ t₀ H1 locs ht hvm hw hB hz1 hk1 hS => ?_)
  obtain ⟨hP1, hK1, hD1⟩ := hB
  rw [ht] at hP1
  have hJ := k_jn (wr := [(kX10 aTr aLa aPa aGe gL gR lf rt tgo tca tki tso tbe twe tle tan tco ten), (kX3 gL u0 u1 u2 u3), (kX3 gR v0 v1 v2 v3), (kAI vLa cI 24 f4), (kAI vPa cI 39 f7), (kAI vGe cI 23 f2), (kAI vFl cI 32 ff), (kX0 aBe k0 k1 k2 k3), (kX5 aLu vLu ab be), (kAJ vLu cJ 46 fl), (kAI vSf cI 8 sf), (kAI vSm cI 8 sm), (kAI vCo cI 25 oo), (kX6 aLo sd)]) (wt := [(kX10 aTr aLa aPa aGe gL gR lf rt tgo tca tki tso tbe twe tle tan tco ten), (kX3 gL u0 u1 u2 u3), (kX3 gR v0 v1 v2 v3), (kAI vLa cI 24 f4), (kAI vPa cI 39 f7), (kAI vGe cI 23 f2), (kAI vFl cI 32 ff), (kX0 aBe k0 k1 k2 k3), (kX5 aLu vLu ab be), (kAJ vLu cJ 46 fl), (kAI vSf cI 8 sf), (kAI vSm cI 8 sm), (kAI vCo cI 25 oo), (kX6 aLo sd), (kX11 hx aLa aPa aGe aFl aTr aBe aLu aLo vSf vSm vCo vSh xs xl xf), (kX4 aLa vLa l4 a4 n4), (kX7 aPa vPa l7 a7 n7), (kX2 aGe vGe l2 a2 n2), (kX1 aFl vFl xn)]) hP hD hC [0, 1, 2, 3, 4, 5, 6, 7, 8, 9, 10, 11, 12, 13] rfl (by decide +kernel) (by decide +kernel) hk1 hFc hP1 hD1 rfl
  clear hP hD hPc hDc hFc hC hP1 hD1 hK1 hz1 hk1 hvm ht
  obtain ⟨hP, hD⟩ := hJ
  generalize H1 = H at hP hS ⊢
  try dsimp only at hw
  have c_12 := hw
  refine lv_i2l hx₀ hb dX11_digest_22 rfl ?_
  refine lv_ladd hx₀ hb dX11_digest_23 ?_
  refine lv_lstore_n (lv' := [(1, .long ((31 * ((31 * ((31 * ((31 * ((31 * (527 + r_1.toInt64)) + r_3.toInt64)) + r_5.toInt64)) + r_7.toInt64)) + r_9.toInt64)) + r_11.toInt64)), (3, .int 5), (0, .ref hx)]) hx₀ hb dX11_digest_24 rfl hl (by decide) rfl (fun ls hl => ?_)
  refine lv_iinc (v := 6) (lv' := [(3, .int 6), (1, .long ((31 * ((31 * ((31 * ((31 * ((31 * (527 + r_1.toInt64)) + r_3.toInt64)) + r_5.toInt64)) + r_7.toInt64)) + r_9.toInt64)) + r_11.toInt64)), (0, .ref hx)]) hx₀ hb dX11_digest_25 hl (k := 1) rfl (by decide +kernel) (by decide) rfl (fun ls hl => ?_)
  refine lv_goto (tgt := 6) hx₀ hb dX11_digest_28 (by decide) ?_
  refine lv_iload_n hx₀ hb dX11_digest_6 rfl (lv_at hl 0 rfl) ?_
  refine lv_bipush (v := 7) hx₀ hb dX11_digest_7 (by decide +kernel) ?_
  refine lv_icmp_gt (tgt := 31) hx₀ hb dX11_digest_9 (by decide) (fun c9 => absurd c9 (by decide +kernel)) (fun _ => ?_)
  refine lv_ldc2 (v := 31) hx₀ hb hown (hts (.constantLong RX11 274 (31)) wd_966) dX11_digest_12 ?_
  refine lv_lload_n hx₀ hb dX11_digest_15 rfl (lv_at hl 1 rfl) ?_
  refine lv_lmul hx₀ hb dX11_digest_16 ?_
  refine lv_aload_n hx₀ hb dX11_digest_17 rfl (lv_at hl 2 rfl) ?_
  refine lv_iload_n hx₀ hb dX11_digest_18 rfl (lv_at hl 0 rfl) ?_
  obtain ⟨hPc, hDc, hFc, hC⟩ := k_cw (wc := [(kX11 hx aLa aPa aGe aFl aTr aBe aLu aLo vSf vSm vCo vSh xs xl xf), (kX4 aLa vLa l4 a4 n4), (kX7 aPa vPa l7 a7 n7), (kX2 aGe vGe l2 a2 n2), (kX1 aFl vFl xn)]) hP hD hS hA [14, 15, 16, 17, 18] (by decide +kernel) rfl
  refine va_calli (va_runV (As := [.int 6]) (rest := [.long (31 * ((31 * ((31 * ((31 * ((31 * ((31 * (527 + r_1.toInt64)) + r_3.toInt64)) + r_5.toInt64)) + r_7.toInt64)) + r_9.toInt64)) + r_11.toInt64))]) ⟨hx₀, hb, hml, hown, hts⟩ (j_count l dC dI cI cJ cQ H.size hx 6 aLa aPa aGe aFl aTr aBe aLu aLo vSf vSm vCo vSh xs xl xf vLa l4 a4 n4 vPa l7 a7 n7 vGe l2 a2 n2 vFl xn) (cwV 1 hts (kGV wd_950 wd_967 wd_948 wd_949 wd_2) rfl rfl rfl (by decide +kernel) ⟨Nat.le_of_ble_eq_true rfl, Nat.le_of_ble_eq_true rfl⟩) (k_preV10 (q0 := 0) hK hPc hDc hN rfl) rfl rfl hl.1 rfl (lv_room (Nat.le_of_ble_eq_true rfl)) dX11_digest_19 ⟨by decide +kernel, by decide +kernel⟩) hS (fun q _ h => hFc q h) hFc (fun r_13 u₀ t₀ H1 locs ht hvm hw hB hz1 hk1 hS => ?_)
  obtain ⟨hP1, hK1, hD1⟩ := hB
  rw [ht] at hP1
  have hJ := k_jn (wr := [(kX10 aTr aLa aPa aGe gL gR lf rt tgo tca tki tso tbe twe tle tan tco ten), (kX3 gL u0 u1 u2 u3), (kX3 gR v0 v1 v2 v3), (kAI vLa cI 24 f4), (kAI vPa cI 39 f7), (kAI vGe cI 23 f2), (kAI vFl cI 32 ff), (kX0 aBe k0 k1 k2 k3), (kX5 aLu vLu ab be), (kAJ vLu cJ 46 fl), (kAI vSf cI 8 sf), (kAI vSm cI 8 sm), (kAI vCo cI 25 oo), (kX6 aLo sd)]) (wt := [(kX10 aTr aLa aPa aGe gL gR lf rt tgo tca tki tso tbe twe tle tan tco ten), (kX3 gL u0 u1 u2 u3), (kX3 gR v0 v1 v2 v3), (kAI vLa cI 24 f4), (kAI vPa cI 39 f7), (kAI vGe cI 23 f2), (kAI vFl cI 32 ff), (kX0 aBe k0 k1 k2 k3), (kX5 aLu vLu ab be), (kAJ vLu cJ 46 fl), (kAI vSf cI 8 sf), (kAI vSm cI 8 sm), (kAI vCo cI 25 oo), (kX6 aLo sd), (kX11 hx aLa aPa aGe aFl aTr aBe aLu aLo vSf vSm vCo vSh xs xl xf), (kX4 aLa vLa l4 a4 n4), (kX7 aPa vPa l7 a7 n7), (kX2 aGe vGe l2 a2 n2), (kX1 aFl vFl xn)]) hP hD hC [0, 1, 2, 3, 4, 5, 6, 7, 8, 9, 10, 11, 12, 13] rfl (by decide +kernel) (by decide +kernel) hk1 hFc hP1 hD1 rfl
  clear hP hD hPc hDc hFc hC hP1 hD1 hK1 hz1 hk1 hvm ht
  obtain ⟨hP, hD⟩ := hJ
  generalize H1 = H at hP hS ⊢
  try dsimp only at hw
  have c_14 := hw
  refine lv_i2l hx₀ hb dX11_digest_22 rfl ?_
  refine lv_ladd hx₀ hb dX11_digest_23 ?_
  refine lv_lstore_n (lv' := [(1, .long ((31 * ((31 * ((31 * ((31 * ((31 * ((31 * (527 + r_1.toInt64)) + r_3.toInt64)) + r_5.toInt64)) + r_7.toInt64)) + r_9.toInt64)) + r_11.toInt64)) + r_13.toInt64)), (3, .int 6), (0, .ref hx)]) hx₀ hb dX11_digest_24 rfl hl (by decide) rfl (fun ls hl => ?_)
  refine lv_iinc (v := 7) (lv' := [(3, .int 7), (1, .long ((31 * ((31 * ((31 * ((31 * ((31 * ((31 * (527 + r_1.toInt64)) + r_3.toInt64)) + r_5.toInt64)) + r_7.toInt64)) + r_9.toInt64)) + r_11.toInt64)) + r_13.toInt64)), (0, .ref hx)]) hx₀ hb dX11_digest_25 hl (k := 1) rfl (by decide +kernel) (by decide) rfl (fun ls hl => ?_)
  refine lv_goto (tgt := 6) hx₀ hb dX11_digest_28 (by decide) ?_
  refine lv_iload_n hx₀ hb dX11_digest_6 rfl (lv_at hl 0 rfl) ?_
  refine lv_bipush (v := 7) hx₀ hb dX11_digest_7 (by decide +kernel) ?_
  refine lv_icmp_gt (tgt := 31) hx₀ hb dX11_digest_9 (by decide) (fun c9 => absurd c9 (by decide +kernel)) (fun _ => ?_)
  refine lv_ldc2 (v := 31) hx₀ hb hown (hts (.constantLong RX11 274 (31)) wd_966) dX11_digest_12 ?_
  refine lv_lload_n hx₀ hb dX11_digest_15 rfl (lv_at hl 1 rfl) ?_
  refine lv_lmul hx₀ hb dX11_digest_16 ?_
  refine lv_aload_n hx₀ hb dX11_digest_17 rfl (lv_at hl 2 rfl) ?_
  refine lv_iload_n hx₀ hb dX11_digest_18 rfl (lv_at hl 0 rfl) ?_
  obtain ⟨hPc, hDc, hFc, hC⟩ := k_cw (wc := [(kX11 hx aLa aPa aGe aFl aTr aBe aLu aLo vSf vSm vCo vSh xs xl xf), (kX4 aLa vLa l4 a4 n4), (kX7 aPa vPa l7 a7 n7), (kX2 aGe vGe l2 a2 n2), (kX1 aFl vFl xn)]) hP hD hS hA [14, 15, 16, 17, 18] (by decide +kernel) rfl
  refine va_calli (va_runV (As := [.int 7]) (rest := [.long (31 * ((31 * ((31 * ((31 * ((31 * ((31 * ((31 * (527 + r_1.toInt64)) + r_3.toInt64)) + r_5.toInt64)) + r_7.toInt64)) + r_9.toInt64)) + r_11.toInt64)) + r_13.toInt64))]) ⟨hx₀, hb, hml, hown, hts⟩ (j_count l dC dI cI cJ cQ H.size hx 7 aLa aPa aGe aFl aTr aBe aLu aLo vSf vSm vCo vSh xs xl xf vLa l4 a4 n4 vPa l7 a7 n7 vGe l2 a2 n2 vFl xn) (cwV 1 hts (kGV wd_950 wd_967 wd_948 wd_949 wd_2) rfl rfl rfl (by decide +kernel) ⟨Nat.le_of_ble_eq_true rfl, Nat.le_of_ble_eq_true rfl⟩) (k_preV10 (q0 := 0) hK hPc hDc hN rfl) rfl rfl hl.1 rfl (lv_room (Nat.le_of_ble_eq_true rfl)) dX11_digest_19 ⟨by decide +kernel, by decide +kernel⟩) hS (fun q _ h => hFc q h) hFc (fun r_15 u₀ t₀ H1 locs ht hvm hw hB hz1 hk1 hS => ?_)
  obtain ⟨hP1, hK1, hD1⟩ := hB
  rw [ht] at hP1
  have hJ := k_jn (wr := [(kX10 aTr aLa aPa aGe gL gR lf rt tgo tca tki tso tbe twe tle tan tco ten), (kX3 gL u0 u1 u2 u3), (kX3 gR v0 v1 v2 v3), (kAI vLa cI 24 f4), (kAI vPa cI 39 f7), (kAI vGe cI 23 f2), (kAI vFl cI 32 ff), (kX0 aBe k0 k1 k2 k3), (kX5 aLu vLu ab be), (kAJ vLu cJ 46 fl), (kAI vSf cI 8 sf), (kAI vSm cI 8 sm), (kAI vCo cI 25 oo), (kX6 aLo sd)]) (wt := [(kX10 aTr aLa aPa aGe gL gR lf rt tgo tca tki tso tbe twe tle tan tco ten), (kX3 gL u0 u1 u2 u3), (kX3 gR v0 v1 v2 v3), (kAI vLa cI 24 f4), (kAI vPa cI 39 f7), (kAI vGe cI 23 f2), (kAI vFl cI 32 ff), (kX0 aBe k0 k1 k2 k3), (kX5 aLu vLu ab be), (kAJ vLu cJ 46 fl), (kAI vSf cI 8 sf), (kAI vSm cI 8 sm), (kAI vCo cI 25 oo), (kX6 aLo sd), (kX11 hx aLa aPa aGe aFl aTr aBe aLu aLo vSf vSm vCo vSh xs xl xf), (kX4 aLa vLa l4 a4 n4), (kX7 aPa vPa l7 a7 n7), (kX2 aGe vGe l2 a2 n2), (kX1 aFl vFl xn)]) hP hD hC [0, 1, 2, 3, 4, 5, 6, 7, 8, 9, 10, 11, 12, 13] rfl (by decide +kernel) (by decide +kernel) hk1 hFc hP1 hD1 rfl
  clear hP hD hPc hDc hFc hC hP1 hD1 hK1 hz1 hk1 hvm ht
  obtain ⟨hP, hD⟩ := hJ
  generalize H1 = H at hP hS ⊢
  try dsimp only at hw
  have c_16 := hw
  refine lv_i2l hx₀ hb dX11_digest_22 rfl ?_
  refine lv_ladd hx₀ hb dX11_digest_23 ?_
  refine lv_lstore_n (lv' := [(1, .long ((31 * ((31 * ((31 * ((31 * ((31 * ((31 * ((31 * (527 + r_1.toInt64)) + r_3.toInt64)) + r_5.toInt64)) + r_7.toInt64)) + r_9.toInt64)) + r_11.toInt64)) + r_13.toInt64)) + r_15.toInt64)), (3, .int 7), (0, .ref hx)]) hx₀ hb dX11_digest_24 rfl hl (by decide) rfl (fun ls hl => ?_)
  refine lv_iinc (v := 8) (lv' := [(3, .int 8), (1, .long ((31 * ((31 * ((31 * ((31 * ((31 * ((31 * ((31 * (527 + r_1.toInt64)) + r_3.toInt64)) + r_5.toInt64)) + r_7.toInt64)) + r_9.toInt64)) + r_11.toInt64)) + r_13.toInt64)) + r_15.toInt64)), (0, .ref hx)]) hx₀ hb dX11_digest_25 hl (k := 1) rfl (by decide +kernel) (by decide) rfl (fun ls hl => ?_)
  refine lv_goto (tgt := 6) hx₀ hb dX11_digest_28 (by decide) ?_
  refine lv_iload_n hx₀ hb dX11_digest_6 rfl (lv_at hl 0 rfl) ?_
  refine lv_bipush (v := 7) hx₀ hb dX11_digest_7 (by decide +kernel) ?_
  refine lv_icmp_gt (tgt := 31) hx₀ hb dX11_digest_9 (by decide) (fun _ => ?_) (fun c9 => absurd (by decide +kernel) c9)
  refine lv_iconst (v := 0) hx₀ hb dX11_digest_31 (by decide +kernel) ?_
  refine lv_istore_n (lv' := [(3, .int 0), (1, .long ((31 * ((31 * ((31 * ((31 * ((31 * ((31 * ((31 * (527 + r_1.toInt64)) + r_3.toInt64)) + r_5.toInt64)) + r_7.toInt64)) + r_9.toInt64)) + r_11.toInt64)) + r_13.toInt64)) + r_15.toInt64)), (0, .ref hx)]) hx₀ hb dX11_digest_32 rfl hl (by decide) rfl (fun ls hl => ?_)
  refine lv_iload_n hx₀ hb dX11_digest_33 rfl (lv_at hl 0 rfl) ?_
  refine lv_iconst (v := 3) hx₀ hb dX11_digest_34 (by decide +kernel) ?_
  refine lv_icmp_ge (tgt := 57) hx₀ hb dX11_digest_35 (by decide) (fun c9 => absurd c9 (by decide +kernel)) (fun _ => ?_)
  refine lv_ldc2 (v := 31) hx₀ hb hown (hts (.constantLong RX11 274 (31)) wd_966) dX11_digest_38 ?_
  refine lv_lload_n hx₀ hb dX11_digest_41 rfl (lv_at hl 1 rfl) ?_
  refine lv_lmul hx₀ hb dX11_digest_42 ?_
  refine lv_aload_n hx₀ hb dX11_digest_43 rfl (lv_at hl 2 rfl) ?_
  refine lv_iload_n hx₀ hb dX11_digest_44 rfl (lv_at hl 0 rfl) ?_
  obtain ⟨hPc, hDc, hFc, hC⟩ := k_cw (wc := [(kX11 hx aLa aPa aGe aFl aTr aBe aLu aLo vSf vSm vCo vSh xs xl xf), (kX4 aLa vLa l4 a4 n4), (kX7 aPa vPa l7 a7 n7), (kX2 aGe vGe l2 a2 n2)]) hP hD hS hA [14, 15, 16, 17] (by decide +kernel) rfl
  refine va_calli (va_runV (As := [.int 0]) (rest := [.long (31 * ((31 * ((31 * ((31 * ((31 * ((31 * ((31 * ((31 * (527 + r_1.toInt64)) + r_3.toInt64)) + r_5.toInt64)) + r_7.toInt64)) + r_9.toInt64)) + r_11.toInt64)) + r_13.toInt64)) + r_15.toInt64))]) ⟨hx₀, hb, hml, hown, hts⟩ (j_fault l dC dI cI cJ cQ H.size hx 0 aLa aPa aGe aFl aTr aBe aLu aLo vSf vSm vCo vSh xs xl xf vLa l4 a4 n4 vPa l7 a7 n7 vGe l2 a2 n2) (cwV 1 hts (kGV wd_238 wd_968 wd_236 wd_237 wd_2) rfl rfl rfl (by decide +kernel) ⟨Nat.le_of_ble_eq_true rfl, Nat.le_of_ble_eq_true rfl⟩) (k_preV10 (q0 := 0) hK hPc hDc hN rfl) rfl rfl hl.1 rfl (lv_room (Nat.le_of_ble_eq_true rfl)) dX11_digest_45 ⟨by decide +kernel, by decide +kernel⟩) hS (fun q _ h => hFc q h) hFc (fun r_17 u₀ t₀ H1 locs ht hvm hw hB hz1 hk1 hS => ?_)
  obtain ⟨hP1, hK1, hD1⟩ := hB
  rw [ht] at hP1
  have hJ := k_jn (wr := [(kX10 aTr aLa aPa aGe gL gR lf rt tgo tca tki tso tbe twe tle tan tco ten), (kX3 gL u0 u1 u2 u3), (kX3 gR v0 v1 v2 v3), (kAI vLa cI 24 f4), (kAI vPa cI 39 f7), (kAI vGe cI 23 f2), (kAI vFl cI 32 ff), (kX0 aBe k0 k1 k2 k3), (kX5 aLu vLu ab be), (kAJ vLu cJ 46 fl), (kAI vSf cI 8 sf), (kAI vSm cI 8 sm), (kAI vCo cI 25 oo), (kX6 aLo sd), (kX1 aFl vFl xn)]) (wt := [(kX10 aTr aLa aPa aGe gL gR lf rt tgo tca tki tso tbe twe tle tan tco ten), (kX3 gL u0 u1 u2 u3), (kX3 gR v0 v1 v2 v3), (kAI vLa cI 24 f4), (kAI vPa cI 39 f7), (kAI vGe cI 23 f2), (kAI vFl cI 32 ff), (kX0 aBe k0 k1 k2 k3), (kX5 aLu vLu ab be), (kAJ vLu cJ 46 fl), (kAI vSf cI 8 sf), (kAI vSm cI 8 sm), (kAI vCo cI 25 oo), (kX6 aLo sd), (kX1 aFl vFl xn), (kX11 hx aLa aPa aGe aFl aTr aBe aLu aLo vSf vSm vCo vSh xs xl xf), (kX4 aLa vLa l4 a4 n4), (kX7 aPa vPa l7 a7 n7), (kX2 aGe vGe l2 a2 n2)]) hP hD hC [0, 1, 2, 3, 4, 5, 6, 7, 8, 9, 10, 11, 12, 13, 18] rfl (by decide +kernel) (by decide +kernel) hk1 hFc hP1 hD1 rfl
  clear hP hD hPc hDc hFc hC hP1 hD1 hK1 hz1 hk1 hvm ht
  obtain ⟨hP, hD⟩ := hJ
  generalize H1 = H at hP hS ⊢
  try dsimp only at hw
  have c_18 := hw
  refine lv_i2l hx₀ hb dX11_digest_48 rfl ?_
  refine lv_ladd hx₀ hb dX11_digest_49 ?_
  refine lv_lstore_n (lv' := [(1, .long ((31 * ((31 * ((31 * ((31 * ((31 * ((31 * ((31 * ((31 * (527 + r_1.toInt64)) + r_3.toInt64)) + r_5.toInt64)) + r_7.toInt64)) + r_9.toInt64)) + r_11.toInt64)) + r_13.toInt64)) + r_15.toInt64)) + r_17.toInt64)), (3, .int 0), (0, .ref hx)]) hx₀ hb dX11_digest_50 rfl hl (by decide) rfl (fun ls hl => ?_)
  refine lv_iinc (v := 1) (lv' := [(3, .int 1), (1, .long ((31 * ((31 * ((31 * ((31 * ((31 * ((31 * ((31 * ((31 * (527 + r_1.toInt64)) + r_3.toInt64)) + r_5.toInt64)) + r_7.toInt64)) + r_9.toInt64)) + r_11.toInt64)) + r_13.toInt64)) + r_15.toInt64)) + r_17.toInt64)), (0, .ref hx)]) hx₀ hb dX11_digest_51 hl (k := 1) rfl (by decide +kernel) (by decide) rfl (fun ls hl => ?_)
  refine lv_goto (tgt := 33) hx₀ hb dX11_digest_54 (by decide) ?_
  refine lv_iload_n hx₀ hb dX11_digest_33 rfl (lv_at hl 0 rfl) ?_
  refine lv_iconst (v := 3) hx₀ hb dX11_digest_34 (by decide +kernel) ?_
  refine lv_icmp_ge (tgt := 57) hx₀ hb dX11_digest_35 (by decide) (fun c9 => absurd c9 (by decide +kernel)) (fun _ => ?_)
  refine lv_ldc2 (v := 31) hx₀ hb hown (hts (.constantLong RX11 274 (31)) wd_966) dX11_digest_38 ?_
  refine lv_lload_n hx₀ hb dX11_digest_41 rfl (lv_at hl 1 rfl) ?_
  refine lv_lmul hx₀ hb dX11_digest_42 ?_
  refine lv_aload_n hx₀ hb dX11_digest_43 rfl (lv_at hl 2 rfl) ?_
  refine lv_iload_n hx₀ hb dX11_digest_44 rfl (lv_at hl 0 rfl) ?_
  obtain ⟨hPc, hDc, hFc, hC⟩ := k_cw (wc := [(kX11 hx aLa aPa aGe aFl aTr aBe aLu aLo vSf vSm vCo vSh xs xl xf), (kX4 aLa vLa l4 a4 n4), (kX7 aPa vPa l7 a7 n7), (kX2 aGe vGe l2 a2 n2)]) hP hD hS hA [15, 16, 17, 18] (by decide +kernel) rfl
  refine va_calli (va_runV (As := [.int 1]) (rest := [.long (31 * ((31 * ((31 * ((31 * ((31 * ((31 * ((31 * ((31 * ((31 * (527 + r_1.toInt64)) + r_3.toInt64)) + r_5.toInt64)) + r_7.toInt64)) + r_9.toInt64)) + r_11.toInt64)) + r_13.toInt64)) + r_15.toInt64)) + r_17.toInt64))]) ⟨hx₀, hb, hml, hown, hts⟩ (j_fault l dC dI cI cJ cQ H.size hx 1 aLa aPa aGe aFl aTr aBe aLu aLo vSf vSm vCo vSh xs xl xf vLa l4 a4 n4 vPa l7 a7 n7 vGe l2 a2 n2) (cwV 1 hts (kGV wd_238 wd_968 wd_236 wd_237 wd_2) rfl rfl rfl (by decide +kernel) ⟨Nat.le_of_ble_eq_true rfl, Nat.le_of_ble_eq_true rfl⟩) (k_preV10 (q0 := 0) hK hPc hDc hN rfl) rfl rfl hl.1 rfl (lv_room (Nat.le_of_ble_eq_true rfl)) dX11_digest_45 ⟨by decide +kernel, by decide +kernel⟩) hS (fun q _ h => hFc q h) hFc (fun r_19 u₀ t₀ H1 locs ht hvm hw hB hz1 hk1 hS => ?_)
  obtain ⟨hP1, hK1, hD1⟩ := hB
  rw [ht] at hP1
  have hJ := k_jn (wr := [(kX10 aTr aLa aPa aGe gL gR lf rt tgo tca tki tso tbe twe tle tan tco ten), (kX3 gL u0 u1 u2 u3), (kX3 gR v0 v1 v2 v3), (kAI vLa cI 24 f4), (kAI vPa cI 39 f7), (kAI vGe cI 23 f2), (kAI vFl cI 32 ff), (kX0 aBe k0 k1 k2 k3), (kX5 aLu vLu ab be), (kAJ vLu cJ 46 fl), (kAI vSf cI 8 sf), (kAI vSm cI 8 sm), (kAI vCo cI 25 oo), (kX6 aLo sd), (kX1 aFl vFl xn)]) (wt := [(kX10 aTr aLa aPa aGe gL gR lf rt tgo tca tki tso tbe twe tle tan tco ten), (kX3 gL u0 u1 u2 u3), (kX3 gR v0 v1 v2 v3), (kAI vLa cI 24 f4), (kAI vPa cI 39 f7), (kAI vGe cI 23 f2), (kAI vFl cI 32 ff), (kX0 aBe k0 k1 k2 k3), (kX5 aLu vLu ab be), (kAJ vLu cJ 46 fl), (kAI vSf cI 8 sf), (kAI vSm cI 8 sm), (kAI vCo cI 25 oo), (kX6 aLo sd), (kX1 aFl vFl xn), (kX11 hx aLa aPa aGe aFl aTr aBe aLu aLo vSf vSm vCo vSh xs xl xf), (kX4 aLa vLa l4 a4 n4), (kX7 aPa vPa l7 a7 n7), (kX2 aGe vGe l2 a2 n2)]) hP hD hC [0, 1, 2, 3, 4, 5, 6, 7, 8, 9, 10, 11, 12, 13, 14] rfl (by decide +kernel) (by decide +kernel) hk1 hFc hP1 hD1 rfl
  clear hP hD hPc hDc hFc hC hP1 hD1 hK1 hz1 hk1 hvm ht
  obtain ⟨hP, hD⟩ := hJ
  generalize H1 = H at hP hS ⊢
  try dsimp only at hw
  have c_20 := hw
  refine lv_i2l hx₀ hb dX11_digest_48 rfl ?_
  refine lv_ladd hx₀ hb dX11_digest_49 ?_
  refine lv_lstore_n (lv' := [(1, .long ((31 * ((31 * ((31 * ((31 * ((31 * ((31 * ((31 * ((31 * ((31 * (527 + r_1.toInt64)) + r_3.toInt64)) + r_5.toInt64)) + r_7.toInt64)) + r_9.toInt64)) + r_11.toInt64)) + r_13.toInt64)) + r_15.toInt64)) + r_17.toInt64)) + r_19.toInt64)), (3, .int 1), (0, .ref hx)]) hx₀ hb dX11_digest_50 rfl hl (by decide) rfl (fun ls hl => ?_)
  refine lv_iinc (v := 2) (lv' := [(3, .int 2), (1, .long ((31 * ((31 * ((31 * ((31 * ((31 * ((31 * ((31 * ((31 * ((31 * (527 + r_1.toInt64)) + r_3.toInt64)) + r_5.toInt64)) + r_7.toInt64)) + r_9.toInt64)) + r_11.toInt64)) + r_13.toInt64)) + r_15.toInt64)) + r_17.toInt64)) + r_19.toInt64)), (0, .ref hx)]) hx₀ hb dX11_digest_51 hl (k := 1) rfl (by decide +kernel) (by decide) rfl (fun ls hl => ?_)
  refine lv_goto (tgt := 33) hx₀ hb dX11_digest_54 (by decide) ?_
  refine lv_iload_n hx₀ hb dX11_digest_33 rfl (lv_at hl 0 rfl) ?_
  refine lv_iconst (v := 3) hx₀ hb dX11_digest_34 (by decide +kernel) ?_
  refine lv_icmp_ge (tgt := 57) hx₀ hb dX11_digest_35 (by decide) (fun c9 => absurd c9 (by decide +kernel)) (fun _ => ?_)
  refine lv_ldc2 (v := 31) hx₀ hb hown (hts (.constantLong RX11 274 (31)) wd_966) dX11_digest_38 ?_
  refine lv_lload_n hx₀ hb dX11_digest_41 rfl (lv_at hl 1 rfl) ?_
  refine lv_lmul hx₀ hb dX11_digest_42 ?_
  refine lv_aload_n hx₀ hb dX11_digest_43 rfl (lv_at hl 2 rfl) ?_
  refine lv_iload_n hx₀ hb dX11_digest_44 rfl (lv_at hl 0 rfl) ?_
  obtain ⟨hPc, hDc, hFc, hC⟩ := k_cw (wc := [(kX11 hx aLa aPa aGe aFl aTr aBe aLu aLo vSf vSm vCo vSh xs xl xf), (kX4 aLa vLa l4 a4 n4), (kX7 aPa vPa l7 a7 n7), (kX2 aGe vGe l2 a2 n2)]) hP hD hS hA [15, 16, 17, 18] (by decide +kernel) rfl
  refine va_calli (va_runV (As := [.int 2]) (rest := [.long (31 * ((31 * ((31 * ((31 * ((31 * ((31 * ((31 * ((31 * ((31 * ((31 * (527 + r_1.toInt64)) + r_3.toInt64)) + r_5.toInt64)) + r_7.toInt64)) + r_9.toInt64)) + r_11.toInt64)) + r_13.toInt64)) + r_15.toInt64)) + r_17.toInt64)) + r_19.toInt64))]) ⟨hx₀, hb, hml, hown, hts⟩ (j_fault l dC dI cI cJ cQ H.size hx 2 aLa aPa aGe aFl aTr aBe aLu aLo vSf vSm vCo vSh xs xl xf vLa l4 a4 n4 vPa l7 a7 n7 vGe l2 a2 n2) (cwV 1 hts (kGV wd_238 wd_968 wd_236 wd_237 wd_2) rfl rfl rfl (by decide +kernel) ⟨Nat.le_of_ble_eq_true rfl, Nat.le_of_ble_eq_true rfl⟩) (k_preV10 (q0 := 0) hK hPc hDc hN rfl) rfl rfl hl.1 rfl (lv_room (Nat.le_of_ble_eq_true rfl)) dX11_digest_45 ⟨by decide +kernel, by decide +kernel⟩) hS (fun q _ h => hFc q h) hFc (fun r_21 u₀ t₀ H1 locs ht hvm hw hB hz1 hk1 hS => ?_)
  obtain ⟨hP1, hK1, hD1⟩ := hB
  rw [ht] at hP1
  have hJ := k_jn (wr := [(kX10 aTr aLa aPa aGe gL gR lf rt tgo tca tki tso tbe twe tle tan tco ten), (kX3 gL u0 u1 u2 u3), (kX3 gR v0 v1 v2 v3), (kAI vLa cI 24 f4), (kAI vPa cI 39 f7), (kAI vGe cI 23 f2), (kAI vFl cI 32 ff), (kX0 aBe k0 k1 k2 k3), (kX5 aLu vLu ab be), (kAJ vLu cJ 46 fl), (kAI vSf cI 8 sf), (kAI vSm cI 8 sm), (kAI vCo cI 25 oo), (kX6 aLo sd), (kX1 aFl vFl xn)]) (wt := [(kX10 aTr aLa aPa aGe gL gR lf rt tgo tca tki tso tbe twe tle tan tco ten), (kX3 gL u0 u1 u2 u3), (kX3 gR v0 v1 v2 v3), (kAI vLa cI 24 f4), (kAI vPa cI 39 f7), (kAI vGe cI 23 f2), (kAI vFl cI 32 ff), (kX0 aBe k0 k1 k2 k3), (kX5 aLu vLu ab be), (kAJ vLu cJ 46 fl), (kAI vSf cI 8 sf), (kAI vSm cI 8 sm), (kAI vCo cI 25 oo), (kX6 aLo sd), (kX1 aFl vFl xn), (kX11 hx aLa aPa aGe aFl aTr aBe aLu aLo vSf vSm vCo vSh xs xl xf), (kX4 aLa vLa l4 a4 n4), (kX7 aPa vPa l7 a7 n7), (kX2 aGe vGe l2 a2 n2)]) hP hD hC [0, 1, 2, 3, 4, 5, 6, 7, 8, 9, 10, 11, 12, 13, 14] rfl (by decide +kernel) (by decide +kernel) hk1 hFc hP1 hD1 rfl
  clear hP hD hPc hDc hFc hC hP1 hD1 hK1 hz1 hk1 hvm ht
  obtain ⟨hP, hD⟩ := hJ
  generalize H1 = H at hP hS ⊢
  try dsimp only at hw
  have c_22 := hw
  refine lv_i2l hx₀ hb dX11_digest_48 rfl ?_
  refine lv_ladd hx₀ hb dX11_digest_49 ?_
  refine lv_lstore_n (lv' := [(1, .long ((31 * ((31 * ((31 * ((31 * ((31 * ((31 * ((31 * ((31 * ((31 * ((31 * (527 + r_1.toInt64)) + r_3.toInt64)) + r_5.toInt64)) + r_7.toInt64)) + r_9.toInt64)) + r_11.toInt64)) + r_13.toInt64)) + r_15.toInt64)) + r_17.toInt64)) + r_19.toInt64)) + r_21.toInt64)), (3, .int 2), (0, .ref hx)]) hx₀ hb dX11_digest_50 rfl hl (by decide) rfl (fun ls hl => ?_)
  refine lv_iinc (v := 3) (lv' := [(3, .int 3), (1, .long ((31 * ((31 * ((31 * ((31 * ((31 * ((31 * ((31 * ((31 * ((31 * ((31 * (527 + r_1.toInt64)) + r_3.toInt64)) + r_5.toInt64)) + r_7.toInt64)) + r_9.toInt64)) + r_11.toInt64)) + r_13.toInt64)) + r_15.toInt64)) + r_17.toInt64)) + r_19.toInt64)) + r_21.toInt64)), (0, .ref hx)]) hx₀ hb dX11_digest_51 hl (k := 1) rfl (by decide +kernel) (by decide) rfl (fun ls hl => ?_)
  refine lv_goto (tgt := 33) hx₀ hb dX11_digest_54 (by decide) ?_
  refine lv_iload_n hx₀ hb dX11_digest_33 rfl (lv_at hl 0 rfl) ?_
  refine lv_iconst (v := 3) hx₀ hb dX11_digest_34 (by decide +kernel) ?_
  refine lv_icmp_ge (tgt := 57) hx₀ hb dX11_digest_35 (by decide) (fun _ => ?_) (fun c9 => absurd (by decide +kernel) c9)
  refine lv_iconst (v := 0) hx₀ hb dX11_digest_57 (by decide +kernel) ?_
  refine lv_istore_n (lv' := [(3, .int 0), (1, .long ((31 * ((31 * ((31 * ((31 * ((31 * ((31 * ((31 * ((31 * ((31 * ((31 * (527 + r_1.toInt64)) + r_3.toInt64)) + r_5.toInt64)) + r_7.toInt64)) + r_9.toInt64)) + r_11.toInt64)) + r_13.toInt64)) + r_15.toInt64)) + r_17.toInt64)) + r_19.toInt64)) + r_21.toInt64)), (0, .ref hx)]) hx₀ hb dX11_digest_58 rfl hl (by decide) rfl (fun ls hl => ?_)
  refine (?keyz23 : ∀ (jz23 : Nat) (hhz23 : Int64) (iz23 : Int32) (H : Heap) (locs : List Loc) (ls : Array Slot), (0 ≤ iz23) → ((n4.toInt - iz23.toInt).toNat = jz23) → va_P (dC, dI) vwCl [(kX10 aTr aLa aPa aGe gL gR lf rt tgo tca tki tso tbe twe tle tan tco ten), (kX3 gL u0 u1 u2 u3), (kX3 gR v0 v1 v2 v3), (kAI vLa cI 24 f4), (kAI vPa cI 39 f7), (kAI vGe cI 23 f2), (kAI vFl cI 32 ff), (kX0 aBe k0 k1 k2 k3), (kX5 aLu vLu ab be), (kAJ vLu cJ 46 fl), (kAI vSf cI 8 sf), (kAI vSm cI 8 sm), (kAI vCo cI 25 oo), (kX6 aLo sd), (kX1 aFl vFl xn), (kX11 hx aLa aPa aGe aFl aTr aBe aLu aLo vSf vSm vCo vSh xs xl xf), (kX4 aLa vLa l4 a4 n4), (kX7 aPa vPa l7 a7 n7), (kX2 aGe vGe l2 a2 n2)] H → va_D A [(kX10 aTr aLa aPa aGe gL gR lf rt tgo tca tki tso tbe twe tle tan tco ten), (kX3 gL u0 u1 u2 u3), (kX3 gR v0 v1 v2 v3), (kAI vLa cI 24 f4), (kAI vPa cI 39 f7), (kAI vGe cI 23 f2), (kAI vFl cI 32 ff), (kX0 aBe k0 k1 k2 k3), (kX5 aLu vLu ab be), (kAJ vLu cJ 46 fl), (kAI vSf cI 8 sf), (kAI vSm cI 8 sm), (kAI vCo cI 25 oo), (kX6 aLo sd), (kX1 aFl vFl xn), (kX11 hx aLa aPa aGe aFl aTr aBe aLu aLo vSf vSm vCo vSh xs xl xf), (kX4 aLa vLa l4 a4 n4), (kX7 aPa vPa l7 a7 n7), (kX2 aGe vGe l2 a2 n2)] → va_S A s₀.heap H locs → lv_has ls 5 [(3, .int iz23), (1, .long hhz23), (0, .ref hx)] → W p₀ l e₀ _ s₀ m₀ _ below meth c₀ H locs _ _ _ (F0 m₀ 59 ls [])) _ ((31 * ((31 * ((31 * ((31 * ((31 * ((31 * ((31 * ((31 * ((31 * ((31 * (527 + r_1.toInt64)) + r_3.toInt64)) + r_5.toInt64)) + r_7.toInt64)) + r_9.toInt64)) + r_11.toInt64)) + r_13.toInt64)) + r_15.toInt64)) + r_17.toInt64)) + r_19.toInt64)) + r_21.toInt64) (0 : Int32) H locs ls (show 0 ≤ (0 : Int32) from (by decide)) rfl hP hD hS hl
  clear hP hD hS hl
  intro jz23
  induction jz23 using Nat.strongRecOn with
  | ind jz23 ihz23 =>
    intro hhz23 iz23 H locs ls hiz23_0 hjz23 hP hD hS hl
    refine lv_iload_n hx₀ hb dX11_digest_59 rfl (lv_at hl 0 rfl) ?_
    refine lv_aload_n hx₀ hb dX11_digest_60 rfl (lv_at hl 2 rfl) ?_
    refine va_get (D := (dC, dI)) (ci := 10) (v := .ref aLa) (C := RX11) (T := TX11) (N := 15) hx₀ hb hts inlX11 hown hK hP 15 rfl rfl 0 (by decide) (hts (.fieldLink RX11 10 "BittenStick" "land" "LBittenStick$Land;") wd_15) (fun _ h9 => h9) rfl dX11_digest_61 ?_
    refine va_get (D := (dC, dI)) (ci := 4) (v := .int n4) (C := RX4) (T := TX4) (N := 4) hx₀ hb hts inlX4 hown hK hP 16 rfl rfl 3 (by decide) (hts (.fieldLink RX11 108 "BittenStick$Land" "number" "I") wd_285) (fun x9 h9 => u_same (hts (.sameField "BittenStick$Land" "BittenStick$Text" "number" "I") wd_286) x9 h9) rfl dX11_digest_64 ?_
    refine lv_icmp_ge (tgt := 89) hx₀ hb dX11_digest_67 (by decide) (fun c_24 => ?_) (fun c_24 => ?_)
    · refine lv_iconst (v := 0) hx₀ hb dX11_digest_89 (by decide +kernel) ?_
      refine lv_istore_n (lv' := [(3, .int 0), (1, .long hhz23), (0, .ref hx)]) hx₀ hb dX11_digest_90 rfl hl (by decide) rfl (fun ls hl => ?_)
      refine (?keyz25 : ∀ (jz25 : Nat) (hhz25 : Int64) (iz25 : Int32) (ygoez25 : Int32) (ycarz25 : Int32) (ykinz25 : Int32) (ysorz25 : Int32) (ybeaz25 : Int32) (yweiz25 : Int32) (yleaz25 : Int32) (yangz25 : Int32) (ycolz25 : Int32) (yendz25 : Int32) (pz25 : Nat) (qz25 : Nat) (w0z25 : Int32) (w1z25 : Int32) (w2z25 : Int32) (w3z25 : Int32) (z0z25 : Int32) (z1z25 : Int32) (z2z25 : Int32) (z3z25 : Int32) (qoz25 : Nat → Int32) (H : Heap) (locs : List Loc) (ls : Array Slot), (0 ≤ iz25) → ((n7.toInt - iz25.toInt).toNat = jz25) → va_P (dC, dI) vwCl [(kX10 aTr aLa aPa aGe gL gR pz25 qz25 ygoez25 ycarz25 ykinz25 ysorz25 ybeaz25 yweiz25 yleaz25 yangz25 ycolz25 yendz25), (kX3 gL w0z25 w1z25 w2z25 w3z25), (kX3 gR z0z25 z1z25 z2z25 z3z25), (kAI vLa cI 24 f4), (kAI vPa cI 39 f7), (kAI vGe cI 23 f2), (kAI vFl cI 32 ff), (kX0 aBe k0 k1 k2 k3), (kX5 aLu vLu ab be), (kAJ vLu cJ 46 fl), (kAI vSf cI 8 sf), (kAI vSm cI 8 sm), (kAI vCo cI 25 qoz25), (kX6 aLo sd), (kX1 aFl vFl xn), (kX11 hx aLa aPa aGe aFl aTr aBe aLu aLo vSf vSm vCo vSh xs xl xf), (kX4 aLa vLa l4 a4 n4), (kX7 aPa vPa l7 a7 n7), (kX2 aGe vGe l2 a2 n2)] H → va_D A [(kX10 aTr aLa aPa aGe gL gR pz25 qz25 ygoez25 ycarz25 ykinz25 ysorz25 ybeaz25 yweiz25 yleaz25 yangz25 ycolz25 yendz25), (kX3 gL w0z25 w1z25 w2z25 w3z25), (kX3 gR z0z25 z1z25 z2z25 z3z25), (kAI vLa cI 24 f4), (kAI vPa cI 39 f7), (kAI vGe cI 23 f2), (kAI vFl cI 32 ff), (kX0 aBe k0 k1 k2 k3), (kX5 aLu vLu ab be), (kAJ vLu cJ 46 fl), (kAI vSf cI 8 sf), (kAI vSm cI 8 sm), (kAI vCo cI 25 qoz25), (kX6 aLo sd), (kX1 aFl vFl xn), (kX11 hx aLa aPa aGe aFl aTr aBe aLu aLo vSf vSm vCo vSh xs xl xf), (kX4 aLa vLa l4 a4 n4), (kX7 aPa vPa l7 a7 n7), (kX2 aGe vGe l2 a2 n2)] → va_S A s₀.heap H locs → lv_has ls 5 [(3, .int iz25), (1, .long hhz25), (0, .ref hx)] → W p₀ l e₀ _ s₀ m₀ _ below meth c₀ H locs _ _ _ (F0 m₀ 91 ls [])) _ hhz23 (0 : Int32) tgo tca tki tso tbe twe tle tan tco ten lf rt u0 u1 u2 u3 v0 v1 v2 v3 _ H locs ls (show 0 ≤ (0 : Int32) from (by decide)) rfl hP hD hS hl
      clear hP hD hS hl
      intro jz25
      induction jz25 using Nat.strongRecOn with
      | ind jz25 ihz25 =>
        intro hhz25 iz25 ygoez25 ycarz25 ykinz25 ysorz25 ybeaz25 yweiz25 yleaz25 yangz25 ycolz25 yendz25 pz25 qz25 w0z25 w1z25 w2z25 w3z25 z0z25 z1z25 z2z25 z3z25 qoz25 H locs ls hiz25_0 hjz25 hP hD hS hl
        refine lv_iload_n hx₀ hb dX11_digest_91 rfl (lv_at hl 0 rfl) ?_
        refine lv_aload_n hx₀ hb dX11_digest_92 rfl (lv_at hl 2 rfl) ?_
        refine va_get (D := (dC, dI)) (ci := 10) (v := .ref aPa) (C := RX11) (T := TX11) (N := 15) hx₀ hb hts inlX11 hown hK hP 15 rfl rfl 1 (by decide) (hts (.fieldLink RX11 19 "BittenStick" "passengers" "LBittenStick$Passengers;") wd_19) (fun _ h9 => h9) rfl dX11_digest_93 ?_
        refine va_get (D := (dC, dI)) (ci := 7) (v := .int n7) (C := RX7) (T := TX7) (N := 4) hx₀ hb hts inlX7 hown hK hP 17 rfl rfl 3 (by decide) (hts (.fieldLink RX11 223 "BittenStick$Passengers" "number" "I") wd_834) (fun x9 h9 => u_same (hts (.sameField "BittenStick$Passengers" "BittenStick$Text" "number" "I") wd_835) x9 h9) rfl dX11_digest_96 ?_
        refine lv_icmp_ge (tgt := 164) hx₀ hb dX11_digest_99 (by decide) (fun c_26 => ?_) (fun c_26 => ?_)
        · refine lv_iconst (v := 0) hx₀ hb dX11_digest_164 (by decide +kernel) ?_
          refine lv_istore_n (lv' := [(3, .int 0), (1, .long hhz25), (0, .ref hx)]) hx₀ hb dX11_digest_165 rfl hl (by decide) rfl (fun ls hl => ?_)
          refine (?keyz27 : ∀ (jz27 : Nat) (hhz27 : Int64) (iz27 : Int32) (H : Heap) (locs : List Loc) (ls : Array Slot), (0 ≤ iz27) → ((n2.toInt - iz27.toInt).toNat = jz27) → va_P (dC, dI) vwCl [(kX10 aTr aLa aPa aGe gL gR pz25 qz25 ygoez25 ycarz25 ykinz25 ysorz25 ybeaz25 yweiz25 yleaz25 yangz25 ycolz25 yendz25), (kX3 gL w0z25 w1z25 w2z25 w3z25), (kX3 gR z0z25 z1z25 z2z25 z3z25), (kAI vLa cI 24 f4), (kAI vPa cI 39 f7), (kAI vGe cI 23 f2), (kAI vFl cI 32 ff), (kX0 aBe k0 k1 k2 k3), (kX5 aLu vLu ab be), (kAJ vLu cJ 46 fl), (kAI vSf cI 8 sf), (kAI vSm cI 8 sm), (kAI vCo cI 25 qoz25), (kX6 aLo sd), (kX1 aFl vFl xn), (kX11 hx aLa aPa aGe aFl aTr aBe aLu aLo vSf vSm vCo vSh xs xl xf), (kX4 aLa vLa l4 a4 n4), (kX7 aPa vPa l7 a7 n7), (kX2 aGe vGe l2 a2 n2)] H → va_D A [(kX10 aTr aLa aPa aGe gL gR pz25 qz25 ygoez25 ycarz25 ykinz25 ysorz25 ybeaz25 yweiz25 yleaz25 yangz25 ycolz25 yendz25), (kX3 gL w0z25 w1z25 w2z25 w3z25), (kX3 gR z0z25 z1z25 z2z25 z3z25), (kAI vLa cI 24 f4), (kAI vPa cI 39 f7), (kAI vGe cI 23 f2), (kAI vFl cI 32 ff), (kX0 aBe k0 k1 k2 k3), (kX5 aLu vLu ab be), (kAJ vLu cJ 46 fl), (kAI vSf cI 8 sf), (kAI vSm cI 8 sm), (kAI vCo cI 25 qoz25), (kX6 aLo sd), (kX1 aFl vFl xn), (kX11 hx aLa aPa aGe aFl aTr aBe aLu aLo vSf vSm vCo vSh xs xl xf), (kX4 aLa vLa l4 a4 n4), (kX7 aPa vPa l7 a7 n7), (kX2 aGe vGe l2 a2 n2)] → va_S A s₀.heap H locs → lv_has ls 5 [(3, .int iz27), (1, .long hhz27), (0, .ref hx)] → W p₀ l e₀ _ s₀ m₀ _ below meth c₀ H locs _ _ _ (F0 m₀ 166 ls [])) _ hhz25 (0 : Int32) H locs ls (show 0 ≤ (0 : Int32) from (by decide)) rfl hP hD hS hl
          clear hP hD hS hl
          intro jz27
          induction jz27 using Nat.strongRecOn with
          | ind jz27 ihz27 =>
            intro hhz27 iz27 H locs ls hiz27_0 hjz27 hP hD hS hl
            refine lv_iload_n hx₀ hb dX11_digest_166 rfl (lv_at hl 0 rfl) ?_
            refine lv_aload_n hx₀ hb dX11_digest_167 rfl (lv_at hl 2 rfl) ?_
            refine va_get (D := (dC, dI)) (ci := 10) (v := .ref aGe) (C := RX11) (T := TX11) (N := 15) hx₀ hb hts inlX11 hown hK hP 15 rfl rfl 2 (by decide) (hts (.fieldLink RX11 26 "BittenStick" "geese" "LBittenStick$Geese;") wd_23) (fun _ h9 => h9) rfl dX11_digest_168 ?_
            refine va_get (D := (dC, dI)) (ci := 2) (v := .int n2) (C := RX2) (T := TX2) (N := 4) hx₀ hb hts inlX2 hown hK hP 18 rfl rfl 3 (by decide) (hts (.fieldLink RX11 185 "BittenStick$Geese" "number" "I") wd_676) (fun x9 h9 => u_same (hts (.sameField "BittenStick$Geese" "BittenStick$Text" "number" "I") wd_677) x9 h9) rfl dX11_digest_171 ?_
            refine lv_icmp_ge (tgt := 211) hx₀ hb dX11_digest_174 (by decide) (fun c_28 => ?_) (fun c_28 => ?_)
            · refine lv_iconst (v := 0) hx₀ hb dX11_digest_211 (by decide +kernel) ?_
              refine lv_istore_n (lv' := [(3, .int 0), (1, .long hhz27), (0, .ref hx)]) hx₀ hb dX11_digest_212 rfl hl (by decide) rfl (fun ls hl => ?_)
              refine (?keyz29 : ∀ (jz29 : Nat) (hhz29 : Int64) (iz29 : Int32) (ygoez29 : Int32) (ycarz29 : Int32) (ykinz29 : Int32) (ysorz29 : Int32) (ybeaz29 : Int32) (yweiz29 : Int32) (yleaz29 : Int32) (yangz29 : Int32) (ycolz29 : Int32) (yendz29 : Int32) (pz29 : Nat) (qz29 : Nat) (w0z29 : Int32) (w1z29 : Int32) (w2z29 : Int32) (w3z29 : Int32) (z0z29 : Int32) (z1z29 : Int32) (z2z29 : Int32) (z3z29 : Int32) (y0z29 : Int32) (y1z29 : Int32) (y2z29 : Int32) (y3z29 : Int32) (y5z29 : Int64) (y6z29 : Int64) (qlz29 : Nat → Int64) (H : Heap) (locs : List Loc) (ls : Array Slot), (0 ≤ iz29) → ((xn.toInt - iz29.toInt).toNat = jz29) → va_P (dC, dI) vwCl [(kX10 aTr aLa aPa aGe gL gR pz29 qz29 ygoez29 ycarz29 ykinz29 ysorz29 ybeaz29 yweiz29 yleaz29 yangz29 ycolz29 yendz29), (kX3 gL w0z29 w1z29 w2z29 w3z29), (kX3 gR z0z29 z1z29 z2z29 z3z29), (kAI vLa cI 24 f4), (kAI vPa cI 39 f7), (kAI vGe cI 23 f2), (kAI vFl cI 32 ff), (kX0 aBe y0z29 y1z29 y2z29 y3z29), (kX5 aLu vLu y5z29 y6z29), (kAJ vLu cJ 46 qlz29), (kAI vSf cI 8 sf), (kAI vSm cI 8 sm), (kAI vCo cI 25 qoz25), (kX6 aLo sd), (kX1 aFl vFl xn), (kX11 hx aLa aPa aGe aFl aTr aBe aLu aLo vSf vSm vCo vSh xs xl xf), (kX4 aLa vLa l4 a4 n4), (kX7 aPa vPa l7 a7 n7), (kX2 aGe vGe l2 a2 n2)] H → va_D A [(kX10 aTr aLa aPa aGe gL gR pz29 qz29 ygoez29 ycarz29 ykinz29 ysorz29 ybeaz29 yweiz29 yleaz29 yangz29 ycolz29 yendz29), (kX3 gL w0z29 w1z29 w2z29 w3z29), (kX3 gR z0z29 z1z29 z2z29 z3z29), (kAI vLa cI 24 f4), (kAI vPa cI 39 f7), (kAI vGe cI 23 f2), (kAI vFl cI 32 ff), (kX0 aBe y0z29 y1z29 y2z29 y3z29), (kX5 aLu vLu y5z29 y6z29), (kAJ vLu cJ 46 qlz29), (kAI vSf cI 8 sf), (kAI vSm cI 8 sm), (kAI vCo cI 25 qoz25), (kX6 aLo sd), (kX1 aFl vFl xn), (kX11 hx aLa aPa aGe aFl aTr aBe aLu aLo vSf vSm vCo vSh xs xl xf), (kX4 aLa vLa l4 a4 n4), (kX7 aPa vPa l7 a7 n7), (kX2 aGe vGe l2 a2 n2)] → va_S A s₀.heap H locs → lv_has ls 5 [(3, .int iz29), (1, .long hhz29), (0, .ref hx)] → W p₀ l e₀ _ s₀ m₀ _ below meth c₀ H locs _ _ _ (F0 m₀ 213 ls [])) _ hhz27 (0 : Int32) ygoez25 ycarz25 ykinz25 ysorz25 ybeaz25 yweiz25 yleaz25 yangz25 ycolz25 yendz25 pz25 qz25 w0z25 w1z25 w2z25 w3z25 z0z25 z1z25 z2z25 z3z25 k0 k1 k2 k3 ab be _ H locs ls (show 0 ≤ (0 : Int32) from (by decide)) rfl hP hD hS hl
              clear hP hD hS hl
              intro jz29
              induction jz29 using Nat.strongRecOn with
              | ind jz29 ihz29 =>
                intro hhz29 iz29 ygoez29 ycarz29 ykinz29 ysorz29 ybeaz29 yweiz29 yleaz29 yangz29 ycolz29 yendz29 pz29 qz29 w0z29 w1z29 w2z29 w3z29 z0z29 z1z29 z2z29 z3z29 y0z29 y1z29 y2z29 y3z29 y5z29 y6z29 qlz29 H locs ls hiz29_0 hjz29 hP hD hS hl
                refine lv_iload_n hx₀ hb dX11_digest_213 rfl (lv_at hl 0 rfl) ?_
                refine lv_aload_n hx₀ hb dX11_digest_214 rfl (lv_at hl 2 rfl) ?_
                refine va_get (D := (dC, dI)) (ci := 10) (v := .ref aFl) (C := RX11) (T := TX11) (N := 15) hx₀ hb hts inlX11 hown hK hP 15 rfl rfl 3 (by decide) (hts (.fieldLink RX11 33 "BittenStick" "flights" "LBittenStick$Flights;") wd_27) (fun _ h9 => h9) rfl dX11_digest_215 ?_
                refine va_get (D := (dC, dI)) (ci := 1) (v := .int xn) (C := RX1) (T := TX1) (N := 2) hx₀ hb hts inlX1 hown hK hP 14 rfl rfl 1 (by decide) (hts (.fieldLink RX11 128 "BittenStick$Flights" "number" "I") wd_369) (fun _ h9 => h9) rfl dX11_digest_218 ?_
                refine lv_icmp_ge (tgt := 237) hx₀ hb dX11_digest_221 (by decide) (fun c_30 => ?_) (fun c_30 => ?_)
                · refine lv_ldc2 (v := 31) hx₀ hb hown (hts (.constantLong RX11 274 (31)) wd_966) dX11_digest_237 ?_
                  refine lv_lload_n hx₀ hb dX11_digest_240 rfl (lv_at hl 1 rfl) ?_
                  refine lv_lmul hx₀ hb dX11_digest_241 ?_
                  refine lv_aload_n hx₀ hb dX11_digest_242 rfl (lv_at hl 2 rfl) ?_
                  obtain ⟨hPc, hDc, hFc, hC⟩ := k_cw (wc := [(kX11 hx aLa aPa aGe aFl aTr aBe aLu aLo vSf vSm vCo vSh xs xl xf), (kX10 aTr aLa aPa aGe gL gR pz29 qz29 ygoez29 ycarz29 ykinz29 ysorz29 ybeaz29 yweiz29 yleaz29 yangz29 ycolz29 yendz29), (kX3 gL w0z29 w1z29 w2z29 w3z29), (kX3 gR z0z29 z1z29 z2z29 z3z29), (kX4 aLa vLa l4 a4 n4), (kAI vLa cI 24 f4), (kX7 aPa vPa l7 a7 n7), (kAI vPa cI 39 f7), (kX2 aGe vGe l2 a2 n2), (kAI vGe cI 23 f2), (kX1 aFl vFl xn), (kAI vFl cI 32 ff)]) hP hD hS hA [15, 0, 1, 2, 16, 3, 17, 4, 18, 5, 14, 6] (by decide +kernel) rfl
                  refine va_calli (va_runV (As := []) (rest := [.long (31 * hhz29)]) ⟨hx₀, hb, hml, hown, hts⟩ (j_farthest l dC dI cI cJ cQ H.size hx aLa aPa aGe aFl aTr aBe aLu aLo vSf vSm vCo vSh xs xl xf gL gR pz29 qz29 ygoez29 ycarz29 ykinz29 ysorz29 ybeaz29 yweiz29 yleaz29 yangz29 ycolz29 yendz29 w0z29 w1z29 w2z29 w3z29 z0z29 z1z29 z2z29 z3z29 vLa l4 a4 n4 f4 vPa l7 a7 n7 f7 vGe l2 a2 n2 f2 vFl xn ff (hh0) (hh1)) (cwV 0 hts (kGV wd_602 wd_984 wd_600 wd_601 wd_2) rfl rfl rfl (by decide +kernel) ⟨Nat.le_of_ble_eq_true rfl, Nat.le_of_ble_eq_true rfl⟩) (k_preV10 (q0 := 0) hK hPc hDc hN rfl) rfl rfl hl.1 rfl (lv_room (Nat.le_of_ble_eq_true rfl)) dX11_digest_243 ⟨by decide +kernel, by decide +kernel⟩) hS (fun q _ h => hFc q h) hFc (fun r_31 u₀ t₀ H1 locs ht hvm hw hB hz1 hk1 hS => ?_)
                  obtain ⟨g_32, ga_33, gl_34, gb_35, gp_36⟩ := u₀
                  obtain ⟨hP1, hK1, hD1⟩ := hB
                  rw [ht] at hP1
                  have hJ := k_jn (wr := [(kX0 aBe y0z29 y1z29 y2z29 y3z29), (kX5 aLu vLu y5z29 y6z29), (kAJ vLu cJ 46 qlz29), (kAI vSf cI 8 sf), (kAI vSm cI 8 sm), (kAI vCo cI 25 qoz25), (kX6 aLo sd)]) (wt := [(kX0 aBe y0z29 y1z29 y2z29 y3z29), (kX5 aLu vLu y5z29 y6z29), (kAJ vLu cJ 46 qlz29), (kAI vSf cI 8 sf), (kAI vSm cI 8 sm), (kAI vCo cI 25 qoz25), (kX6 aLo sd), (kX11 hx aLa aPa aGe aFl aTr aBe aLu aLo vSf vSm vCo vSh xs xl xf), (kX10 aTr aLa aPa aGe gL gR (gp_36 0) (gp_36 1) (g_32 8) (g_32 9) (g_32 10) (g_32 11) (g_32 12) (g_32 13) (g_32 14) (g_32 15) (g_32 16) (g_32 17)), (kX3 gL (g_32 0) (g_32 1) (g_32 2) (g_32 3)), (kX3 gR (g_32 4) (g_32 5) (g_32 6) (g_32 7)), (kX4 aLa vLa l4 a4 n4), (kAI vLa cI 24 f4), (kX7 aPa vPa l7 a7 n7), (kAI vPa cI 39 f7), (kX2 aGe vGe l2 a2 n2), (kAI vGe cI 23 f2), (kX1 aFl vFl xn), (kAI vFl cI 32 ff)]) hP hD hC [7, 8, 9, 10, 11, 12, 13] rfl (by decide +kernel) (by decide +kernel) hk1 hFc hP1 hD1 rfl
                  clear hP hD hPc hDc hFc hC hP1 hD1 hK1 hz1 hk1 hvm ht
                  obtain ⟨hP, hD⟩ := hJ
                  generalize H1 = H at hP hS ⊢
                  try dsimp only at hw
                  refine lv_i2l hx₀ hb dX11_digest_246 rfl ?_
                  refine lv_ladd hx₀ hb dX11_digest_247 ?_
                  refine lv_lstore_n (lv' := [(1, .long ((31 * hhz29) + r_31.toInt64)), (3, .int iz29), (0, .ref hx)]) hx₀ hb dX11_digest_248 rfl hl (by decide) rfl (fun ls hl => ?_)
                  refine lv_ldc2 (v := 31) hx₀ hb hown (hts (.constantLong RX11 274 (31)) wd_966) dX11_digest_249 ?_
                  refine lv_lload_n hx₀ hb dX11_digest_252 rfl (lv_at hl 0 rfl) ?_
                  refine lv_lmul hx₀ hb dX11_digest_253 ?_
                  refine lv_aload_n hx₀ hb dX11_digest_254 rfl (lv_at hl 2 rfl) ?_
                  refine lv_bipush (v := 7) hx₀ hb dX11_digest_255 (by decide +kernel) ?_
                  refine lv_bipush (v := 30) hx₀ hb dX11_digest_257 (by decide +kernel) ?_
                  refine lv_iconst (v := 0) hx₀ hb dX11_digest_259 (by decide +kernel) ?_
                  obtain ⟨hPc, hDc, hFc, hC⟩ := k_cw (wc := [(kX11 hx aLa aPa aGe aFl aTr aBe aLu aLo vSf vSm vCo vSh xs xl xf), (kX10 aTr aLa aPa aGe gL gR (gp_36 0) (gp_36 1) (g_32 8) (g_32 9) (g_32 10) (g_32 11) (g_32 12) (g_32 13) (g_32 14) (g_32 15) (g_32 16) (g_32 17)), (kX3 gL (g_32 0) (g_32 1) (g_32 2) (g_32 3)), (kX3 gR (g_32 4) (g_32 5) (g_32 6) (g_32 7)), (kX4 aLa vLa l4 a4 n4), (kAI vLa cI 24 f4), (kX7 aPa vPa l7 a7 n7), (kAI vPa cI 39 f7), (kX2 aGe vGe l2 a2 n2), (kAI vGe cI 23 f2), (kX1 aFl vFl xn), (kAI vFl cI 32 ff), (kX6 aLo sd)]) hP hD hS hA [7, 8, 9, 10, 11, 12, 13, 14, 15, 16, 17, 18, 6] (by decide +kernel) rfl
                  refine va_calli (va_runV (As := [.int 7, .int 30, .int 0]) (rest := [.long (31 * ((31 * hhz29) + r_31.toInt64))]) ⟨hx₀, hb, hml, hown, hts⟩ (j_lakes l dC dI cI cJ cQ H.size hx 7 30 0 aLa aPa aGe aFl aTr aBe aLu aLo vSf vSm vCo vSh xs xl xf gL gR (gp_36 0) (gp_36 1) (g_32 8) (g_32 9) (g_32 10) (g_32 11) (g_32 12) (g_32 13) (g_32 14) (g_32 15) (g_32 16) (g_32 17) (g_32 0) (g_32 1) (g_32 2) (g_32 3) (g_32 4) (g_32 5) (g_32 6) (g_32 7) vLa l4 a4 n4 f4 vPa l7 a7 n7 f7 vGe l2 a2 n2 f2 vFl xn ff sd (hh0) (hh1)) (cwV 3 hts (kGV wd_833 wd_985 wd_831 wd_832 wd_2) rfl rfl rfl (by decide +kernel) ⟨Nat.le_of_ble_eq_true rfl, Nat.le_of_ble_eq_true rfl⟩) (k_preV10 (q0 := 0) hK hPc hDc hN rfl) rfl rfl hl.1 rfl (lv_room (Nat.le_of_ble_eq_true rfl)) dX11_digest_260 ⟨by decide +kernel, by decide +kernel⟩) hS (fun q _ h => hFc q h) hFc (fun r_37 u₀ t₀ H1 locs ht hvm hw hB hz1 hk1 hS => ?_)
                  obtain ⟨g_38, ga_39, gl_40, gb_41, gp_42⟩ := u₀
                  obtain ⟨hP1, hK1, hD1⟩ := hB
                  rw [ht] at hP1
                  have hJ := k_jn (wr := [(kX0 aBe y0z29 y1z29 y2z29 y3z29), (kX5 aLu vLu y5z29 y6z29), (kAJ vLu cJ 46 qlz29), (kAI vSf cI 8 sf), (kAI vSm cI 8 sm), (kAI vCo cI 25 qoz25)]) (wt := [(kX0 aBe y0z29 y1z29 y2z29 y3z29), (kX5 aLu vLu y5z29 y6z29), (kAJ vLu cJ 46 qlz29), (kAI vSf cI 8 sf), (kAI vSm cI 8 sm), (kAI vCo cI 25 qoz25), (kX11 hx aLa aPa aGe aFl aTr aBe aLu aLo vSf vSm vCo vSh xs xl xf), (kX10 aTr aLa aPa aGe gL gR (gp_42 0) (gp_42 1) (g_38 8) (g_38 9) (g_38 10) (g_38 11) (g_38 12) (g_38 13) (g_38 14) (g_38 15) (g_38 16) (g_38 17)), (kX3 gL (g_38 0) (g_38 1) (g_38 2) (g_38 3)), (kX3 gR (g_38 4) (g_38 5) (g_38 6) (g_38 7)), (kX4 aLa vLa l4 a4 n4), (kAI vLa cI 24 f4), (kX7 aPa vPa l7 a7 n7), (kAI vPa cI 39 f7), (kX2 aGe vGe l2 a2 n2), (kAI vGe cI 23 f2), (kX1 aFl vFl xn), (kAI vFl cI 32 ff), (kX6 aLo (g_38 18))]) hP hD hC [0, 1, 2, 3, 4, 5] rfl (by decide +kernel) (by decide +kernel) hk1 hFc hP1 hD1 rfl
                  clear hP hD hPc hDc hFc hC hP1 hD1 hK1 hz1 hk1 hvm ht
                  obtain ⟨hP, hD⟩ := hJ
                  generalize H1 = H at hP hS ⊢
                  try dsimp only at hw
                  refine lv_i2l hx₀ hb dX11_digest_263 rfl ?_
                  refine lv_ladd hx₀ hb dX11_digest_264 ?_
                  refine lv_lstore_n (lv' := [(1, .long ((31 * ((31 * hhz29) + r_31.toInt64)) + r_37.toInt64)), (3, .int iz29), (0, .ref hx)]) hx₀ hb dX11_digest_265 rfl hl (by decide) rfl (fun ls hl => ?_)
                  refine lv_ldc2 (v := 31) hx₀ hb hown (hts (.constantLong RX11 274 (31)) wd_966) dX11_digest_266 ?_
                  refine lv_lload_n hx₀ hb dX11_digest_269 rfl (lv_at hl 0 rfl) ?_
                  refine lv_lmul hx₀ hb dX11_digest_270 ?_
                  refine lv_aload_n hx₀ hb dX11_digest_271 rfl (lv_at hl 2 rfl) ?_
                  refine lv_bipush (v := 7) hx₀ hb dX11_digest_272 (by decide +kernel) ?_
                  refine lv_bipush (v := 30) hx₀ hb dX11_digest_274 (by decide +kernel) ?_
                  refine lv_iconst (v := 1) hx₀ hb dX11_digest_276 (by decide +kernel) ?_
                  obtain ⟨hPc, hDc, hFc, hC⟩ := k_cw (wc := [(kX11 hx aLa aPa aGe aFl aTr aBe aLu aLo vSf vSm vCo vSh xs xl xf), (kX10 aTr aLa aPa aGe gL gR (gp_42 0) (gp_42 1) (g_38 8) (g_38 9) (g_38 10) (g_38 11) (g_38 12) (g_38 13) (g_38 14) (g_38 15) (g_38 16) (g_38 17)), (kX3 gL (g_38 0) (g_38 1) (g_38 2) (g_38 3)), (kX3 gR (g_38 4) (g_38 5) (g_38 6) (g_38 7)), (kX4 aLa vLa l4 a4 n4), (kAI vLa cI 24 f4), (kX7 aPa vPa l7 a7 n7), (kAI vPa cI 39 f7), (kX2 aGe vGe l2 a2 n2), (kAI vGe cI 23 f2), (kX1 aFl vFl xn), (kAI vFl cI 32 ff), (kX6 aLo (g_38 18))]) hP hD hS hA [6, 7, 8, 9, 10, 11, 12, 13, 14, 15, 16, 17, 18] (by decide +kernel) rfl
                  refine va_calli (va_runV (As := [.int 7, .int 30, .int 1]) (rest := [.long (31 * ((31 * ((31 * hhz29) + r_31.toInt64)) + r_37.toInt64))]) ⟨hx₀, hb, hml, hown, hts⟩ (j_lakes l dC dI cI cJ cQ H.size hx 7 30 1 aLa aPa aGe aFl aTr aBe aLu aLo vSf vSm vCo vSh xs xl xf gL gR (gp_42 0) (gp_42 1) (g_38 8) (g_38 9) (g_38 10) (g_38 11) (g_38 12) (g_38 13) (g_38 14) (g_38 15) (g_38 16) (g_38 17) (g_38 0) (g_38 1) (g_38 2) (g_38 3) (g_38 4) (g_38 5) (g_38 6) (g_38 7) vLa l4 a4 n4 f4 vPa l7 a7 n7 f7 vGe l2 a2 n2 f2 vFl xn ff (g_38 18) (hh0) (hh1)) (cwV 3 hts (kGV wd_833 wd_985 wd_831 wd_832 wd_2) rfl rfl rfl (by decide +kernel) ⟨Nat.le_of_ble_eq_true rfl, Nat.le_of_ble_eq_true rfl⟩) (k_preV10 (q0 := 0) hK hPc hDc hN rfl) rfl rfl hl.1 rfl (lv_room (Nat.le_of_ble_eq_true rfl)) dX11_digest_277 ⟨by decide +kernel, by decide +kernel⟩) hS (fun q _ h => hFc q h) hFc (fun r_43 u₀ t₀ H1 locs ht hvm hw hB hz1 hk1 hS => ?_)
                  obtain ⟨g_44, ga_45, gl_46, gb_47, gp_48⟩ := u₀
                  obtain ⟨hP1, hK1, hD1⟩ := hB
                  rw [ht] at hP1
                  have hJ := k_jn (wr := [(kX0 aBe y0z29 y1z29 y2z29 y3z29), (kX5 aLu vLu y5z29 y6z29), (kAJ vLu cJ 46 qlz29), (kAI vSf cI 8 sf), (kAI vSm cI 8 sm), (kAI vCo cI 25 qoz25)]) (wt := [(kX0 aBe y0z29 y1z29 y2z29 y3z29), (kX5 aLu vLu y5z29 y6z29), (kAJ vLu cJ 46 qlz29), (kAI vSf cI 8 sf), (kAI vSm cI 8 sm), (kAI vCo cI 25 qoz25), (kX11 hx aLa aPa aGe aFl aTr aBe aLu aLo vSf vSm vCo vSh xs xl xf), (kX10 aTr aLa aPa aGe gL gR (gp_48 0) (gp_48 1) (g_44 8) (g_44 9) (g_44 10) (g_44 11) (g_44 12) (g_44 13) (g_44 14) (g_44 15) (g_44 16) (g_44 17)), (kX3 gL (g_44 0) (g_44 1) (g_44 2) (g_44 3)), (kX3 gR (g_44 4) (g_44 5) (g_44 6) (g_44 7)), (kX4 aLa vLa l4 a4 n4), (kAI vLa cI 24 f4), (kX7 aPa vPa l7 a7 n7), (kAI vPa cI 39 f7), (kX2 aGe vGe l2 a2 n2), (kAI vGe cI 23 f2), (kX1 aFl vFl xn), (kAI vFl cI 32 ff), (kX6 aLo (g_44 18))]) hP hD hC [0, 1, 2, 3, 4, 5] rfl (by decide +kernel) (by decide +kernel) hk1 hFc hP1 hD1 rfl
                  clear hP hD hPc hDc hFc hC hP1 hD1 hK1 hz1 hk1 hvm ht
                  obtain ⟨hP, hD⟩ := hJ
                  generalize H1 = H at hP hS ⊢
                  try dsimp only at hw
                  refine lv_i2l hx₀ hb dX11_digest_280 rfl ?_
                  refine lv_ladd hx₀ hb dX11_digest_281 ?_
                  obtain ⟨hP9, hD9⟩ := k_c2 (wc := [(kX11 hx aLa aPa aGe aFl aTr aBe aLu aLo vSf vSm vCo vSh xs xl xf), (kX10 aTr aLa aPa aGe gL gR (gp_48 0) (gp_48 1) (g_44 8) (g_44 9) (g_44 10) (g_44 11) (g_44 12) (g_44 13) (g_44 14) (g_44 15) (g_44 16) (g_44 17)), (kX3 gL (g_44 0) (g_44 1) (g_44 2) (g_44 3)), (kX3 gR (g_44 4) (g_44 5) (g_44 6) (g_44 7)), (kX4 aLa vLa l4 a4 n4), (kAI vLa cI 24 f4), (kX7 aPa vPa l7 a7 n7), (kAI vPa cI 39 f7), (kX2 aGe vGe l2 a2 n2), (kAI vGe cI 23 f2), (kX1 aFl vFl xn), (kAI vFl cI 32 ff), (kX0 aBe y0z29 y1z29 y2z29 y3z29), (kX5 aLu vLu y5z29 y6z29), (kAJ vLu cJ 46 qlz29), (kAI vSf cI 8 sf), (kAI vSm cI 8 sm), (kAI vCo cI 25 qoz25), (kX6 aLo (g_44 18))]) hP hD [6, 7, 8, 9, 10, 11, 12, 13, 14, 15, 16, 17, 0, 1, 2, 3, 4, 5, 18] (by decide +kernel) rfl
                  exact W.lret (v := (31 * ((31 * ((31 * hhz29) + r_31.toInt64)) + r_37.toInt64)) + r_43.toInt64) hx₀ hb hr (fun t₀ ht hW => ⟨⟨(31 * ((31 * ((31 * hhz29) + r_31.toInt64)) + r_37.toInt64)) + r_43.toInt64, (k_fn [(g_44 0), (g_44 1), (g_44 2), (g_44 3), (g_44 4), (g_44 5), (g_44 6), (g_44 7), (g_44 8), (g_44 9), (g_44 10), (g_44 11), (g_44 12), (g_44 13), (g_44 14), (g_44 15), (g_44 16), (g_44 17), y0z29, y1z29, y2z29, y3z29, (g_44 18)], k_fa [qoz25], k_fl [y5z29, y6z29], k_fL [qlz29], k_fp [(gp_48 0), (gp_48 1)]), rfl, trivial, by rw [ht]; exact hP9, va_K.moved hW.alike hK, hD9⟩, hS.F ht⟩) hS.2.2 dX11_digest_282
                · refine lv_aload_n hx₀ hb dX11_digest_224 rfl (lv_at hl 2 rfl) ?_
                  refine lv_lload_n hx₀ hb dX11_digest_225 rfl (lv_at hl 1 rfl) ?_
                  refine lv_iload_n hx₀ hb dX11_digest_226 rfl (lv_at hl 0 rfl) ?_
                  obtain ⟨hPc, hDc, hFc, hC⟩ := k_cw (wc := [(kX11 hx aLa aPa aGe aFl aTr aBe aLu aLo vSf vSm vCo vSh xs xl xf), (kX10 aTr aLa aPa aGe gL gR pz29 qz29 ygoez29 ycarz29 ykinz29 ysorz29 ybeaz29 yweiz29 yleaz29 yangz29 ycolz29 yendz29), (kX3 gL w0z29 w1z29 w2z29 w3z29), (kX3 gR z0z29 z1z29 z2z29 z3z29), (kX4 aLa vLa l4 a4 n4), (kAI vLa cI 24 f4), (kX7 aPa vPa l7 a7 n7), (kAI vPa cI 39 f7), (kX2 aGe vGe l2 a2 n2), (kAI vGe cI 23 f2), (kX1 aFl vFl xn), (kAI vFl cI 32 ff), (kX0 aBe y0z29 y1z29 y2z29 y3z29), (kX5 aLu vLu y5z29 y6z29), (kAJ vLu cJ 46 qlz29), (kAI vSf cI 8 sf), (kAI vSm cI 8 sm)]) hP hD hS hA [15, 0, 1, 2, 16, 3, 17, 4, 18, 5, 14, 6, 7, 8, 9, 10, 11] (by decide +kernel) rfl
                  refine va_calll (va_runV (As := [.long hhz29, .int iz29]) (rest := []) ⟨hx₀, hb, hml, hown, hts⟩ (j_mixFlight l dC dI cI cJ cQ H.size hx hhz29 iz29 aLa aPa aGe aFl aTr aBe aLu aLo vSf vSm vCo vSh xs xl xf gL gR pz29 qz29 ygoez29 ycarz29 ykinz29 ysorz29 ybeaz29 yweiz29 yleaz29 yangz29 ycolz29 yendz29 w0z29 w1z29 w2z29 w3z29 z0z29 z1z29 z2z29 z3z29 vLa l4 a4 n4 f4 vPa l7 a7 n7 f7 vGe l2 a2 n2 f2 vFl xn ff y0z29 y1z29 y2z29 y3z29 vLu y5z29 y6z29 qlz29 sf sm (hh0) (hh1)) (cwV 2 hts (kGV wd_976 wd_973 wd_974 wd_975 wd_2) rfl rfl rfl (by decide +kernel) ⟨Nat.le_of_ble_eq_true rfl, Nat.le_of_ble_eq_true rfl⟩) (k_preV10 (q0 := 0) hK hPc hDc hN rfl) rfl rfl hl.1 rfl (lv_room (Nat.le_of_ble_eq_true rfl)) dX11_digest_227 ⟨by decide +kernel, by decide +kernel⟩) hS (fun q _ h => hFc q h) hFc (fun r_49 u₀ t₀ H1 locs ht hvm hw hB hz1 hk1 hS => ?_)
                  obtain ⟨g_50, ga_51, gl_52, gb_53, gp_54⟩ := u₀
                  obtain ⟨hP1, hK1, hD1⟩ := hB
                  rw [ht] at hP1
                  have hJ := k_jn (wr := [(kAI vCo cI 25 qoz25), (kX6 aLo sd)]) (wt := [(kAI vCo cI 25 qoz25), (kX6 aLo sd), (kX11 hx aLa aPa aGe aFl aTr aBe aLu aLo vSf vSm vCo vSh xs xl xf), (kX10 aTr aLa aPa aGe gL gR (gp_54 0) (gp_54 1) (g_50 8) (g_50 9) (g_50 10) (g_50 11) (g_50 12) (g_50 13) (g_50 14) (g_50 15) (g_50 16) (g_50 17)), (kX3 gL (g_50 0) (g_50 1) (g_50 2) (g_50 3)), (kX3 gR (g_50 4) (g_50 5) (g_50 6) (g_50 7)), (kX4 aLa vLa l4 a4 n4), (kAI vLa cI 24 f4), (kX7 aPa vPa l7 a7 n7), (kAI vPa cI 39 f7), (kX2 aGe vGe l2 a2 n2), (kAI vGe cI 23 f2), (kX1 aFl vFl xn), (kAI vFl cI 32 ff), (kX0 aBe (g_50 18) (g_50 19) (g_50 20) (g_50 21)), (kX5 aLu vLu (gl_52 0) (gl_52 1)), (kAJ vLu cJ 46 (gb_53 0)), (kAI vSf cI 8 sf), (kAI vSm cI 8 sm)]) hP hD hC [12, 13] rfl (by decide +kernel) (by decide +kernel) hk1 hFc hP1 hD1 rfl
                  clear hP hD hPc hDc hFc hC hP1 hD1 hK1 hz1 hk1 hvm ht
                  obtain ⟨hP, hD⟩ := hJ
                  generalize H1 = H at hP hS ⊢
                  try dsimp only at hw
                  refine lv_lstore_n (lv' := [(1, .long r_49), (3, .int iz29), (0, .ref hx)]) hx₀ hb dX11_digest_230 rfl hl (by decide) rfl (fun ls hl => ?_)
                  refine lv_iinc (v := iz29 + 1) (lv' := [(3, .int (iz29 + 1)), (1, .long r_49), (0, .ref hx)]) hx₀ hb dX11_digest_231 hl (k := 1) rfl rfl (by decide) rfl (fun ls hl => ?_)
                  refine lv_goto (tgt := 213) hx₀ hb dX11_digest_234 (by decide) ?_
                  exact ihz29 _ (lf_j_digest_2 xn iz29 jz29 hh1 hiz29_0 hjz29 c_30) r_49 (iz29 + 1) (g_50 8) (g_50 9) (g_50 10) (g_50 11) (g_50 12) (g_50 13) (g_50 14) (g_50 15) (g_50 16) (g_50 17) (gp_54 0) (gp_54 1) (g_50 0) (g_50 1) (g_50 2) (g_50 3) (g_50 4) (g_50 5) (g_50 6) (g_50 7) (g_50 18) (g_50 19) (g_50 20) (g_50 21) (gl_52 0) (gl_52 1) (gb_53 0) _ _ _ (lf_j_digest_1 xn iz29 jz29 hh1 hiz29_0 hjz29 c_30) rfl (hP.sub [3, 4, 5, 7, 9, 11, 13, 14, 15, 16, 17, 18, 0, 1, 12, 2, 6, 8, 10] rfl) (hD.sub [3, 4, 5, 7, 9, 11, 13, 14, 15, 16, 17, 18, 0, 1, 12, 2, 6, 8, 10] (by decide +kernel) rfl) hS (lv_sub hl [0, 1, 2] rfl)
            · refine lv_ldc2 (v := 31) hx₀ hb hown (hts (.constantLong RX11 274 (31)) wd_966) dX11_digest_177 ?_
              refine lv_lload_n hx₀ hb dX11_digest_180 rfl (lv_at hl 1 rfl) ?_
              refine lv_lmul hx₀ hb dX11_digest_181 ?_
              refine lv_aload_n hx₀ hb dX11_digest_182 rfl (lv_at hl 2 rfl) ?_
              refine lv_iload_n hx₀ hb dX11_digest_183 rfl (lv_at hl 0 rfl) ?_
              refine lv_iconst (v := 0) hx₀ hb dX11_digest_184 (by decide +kernel) ?_
              obtain ⟨hPc, hDc, hFc, hC⟩ := k_cw (wc := [(kX11 hx aLa aPa aGe aFl aTr aBe aLu aLo vSf vSm vCo vSh xs xl xf), (kX2 aGe vGe l2 a2 n2), (kAI vGe cI 23 f2)]) hP hD hS hA [15, 18, 5] (by decide +kernel) rfl
              refine va_calli (va_runV (As := [.int iz27, .int 0]) (rest := [.long (31 * hhz27)]) ⟨hx₀, hb, hml, hown, hts⟩ (j_goose l dC dI cI cJ cQ H.size hx iz27 0 aLa aPa aGe aFl aTr aBe aLu aLo vSf vSm vCo vSh xs xl xf vGe l2 a2 n2 f2) (cwV 2 hts (kGV wd_327 wd_972 wd_325 wd_326 wd_2) rfl rfl rfl (by decide +kernel) ⟨Nat.le_of_ble_eq_true rfl, Nat.le_of_ble_eq_true rfl⟩) (k_preV10 (q0 := 0) hK hPc hDc hN rfl) rfl rfl hl.1 rfl (lv_room (Nat.le_of_ble_eq_true rfl)) dX11_digest_185 ⟨by decide +kernel, by decide +kernel⟩) hS (fun q _ h => hFc q h) hFc (fun r_55 u₀ t₀ H1 locs ht hvm hw hB hz1 hk1 hS => ?_)
              obtain ⟨hP1, hK1, hD1⟩ := hB
              rw [ht] at hP1
              have hJ := k_jn (wr := [(kX10 aTr aLa aPa aGe gL gR pz25 qz25 ygoez25 ycarz25 ykinz25 ysorz25 ybeaz25 yweiz25 yleaz25 yangz25 ycolz25 yendz25), (kX3 gL w0z25 w1z25 w2z25 w3z25), (kX3 gR z0z25 z1z25 z2z25 z3z25), (kAI vLa cI 24 f4), (kAI vPa cI 39 f7), (kAI vFl cI 32 ff), (kX0 aBe k0 k1 k2 k3), (kX5 aLu vLu ab be), (kAJ vLu cJ 46 fl), (kAI vSf cI 8 sf), (kAI vSm cI 8 sm), (kAI vCo cI 25 qoz25), (kX6 aLo sd), (kX1 aFl vFl xn), (kX4 aLa vLa l4 a4 n4), (kX7 aPa vPa l7 a7 n7)]) (wt := [(kX10 aTr aLa aPa aGe gL gR pz25 qz25 ygoez25 ycarz25 ykinz25 ysorz25 ybeaz25 yweiz25 yleaz25 yangz25 ycolz25 yendz25), (kX3 gL w0z25 w1z25 w2z25 w3z25), (kX3 gR z0z25 z1z25 z2z25 z3z25), (kAI vLa cI 24 f4), (kAI vPa cI 39 f7), (kAI vFl cI 32 ff), (kX0 aBe k0 k1 k2 k3), (kX5 aLu vLu ab be), (kAJ vLu cJ 46 fl), (kAI vSf cI 8 sf), (kAI vSm cI 8 sm), (kAI vCo cI 25 qoz25), (kX6 aLo sd), (kX1 aFl vFl xn), (kX4 aLa vLa l4 a4 n4), (kX7 aPa vPa l7 a7 n7), (kX11 hx aLa aPa aGe aFl aTr aBe aLu aLo vSf vSm vCo vSh xs xl xf), (kX2 aGe vGe l2 a2 n2), (kAI vGe cI 23 f2)]) hP hD hC [0, 1, 2, 3, 4, 6, 7, 8, 9, 10, 11, 12, 13, 14, 16, 17] rfl (by decide +kernel) (by decide +kernel) hk1 hFc hP1 hD1 rfl
              clear hP hD hPc hDc hFc hC hP1 hD1 hK1 hz1 hk1 hvm ht
              obtain ⟨hP, hD⟩ := hJ
              generalize H1 = H at hP hS ⊢
              try dsimp only at hw
              have c_56 := hw
              refine lv_i2l hx₀ hb dX11_digest_188 rfl ?_
              refine lv_ladd hx₀ hb dX11_digest_189 ?_
              refine lv_lstore_n (lv' := [(1, .long ((31 * hhz27) + r_55.toInt64)), (3, .int iz27), (0, .ref hx)]) hx₀ hb dX11_digest_190 rfl hl (by decide) rfl (fun ls hl => ?_)
              refine lv_ldc2 (v := 31) hx₀ hb hown (hts (.constantLong RX11 274 (31)) wd_966) dX11_digest_191 ?_
              refine lv_lload_n hx₀ hb dX11_digest_194 rfl (lv_at hl 0 rfl) ?_
              refine lv_lmul hx₀ hb dX11_digest_195 ?_
              refine lv_aload_n hx₀ hb dX11_digest_196 rfl (lv_at hl 2 rfl) ?_
              refine lv_iload_n hx₀ hb dX11_digest_197 rfl (lv_at hl 1 rfl) ?_
              refine lv_iconst (v := 1) hx₀ hb dX11_digest_198 (by decide +kernel) ?_
              obtain ⟨hPc, hDc, hFc, hC⟩ := k_cw (wc := [(kX11 hx aLa aPa aGe aFl aTr aBe aLu aLo vSf vSm vCo vSh xs xl xf), (kX2 aGe vGe l2 a2 n2), (kAI vGe cI 23 f2)]) hP hD hS hA [16, 17, 18] (by decide +kernel) rfl
              refine va_calli (va_runV (As := [.int iz27, .int 1]) (rest := [.long (31 * ((31 * hhz27) + r_55.toInt64))]) ⟨hx₀, hb, hml, hown, hts⟩ (j_goose l dC dI cI cJ cQ H.size hx iz27 1 aLa aPa aGe aFl aTr aBe aLu aLo vSf vSm vCo vSh xs xl xf vGe l2 a2 n2 f2) (cwV 2 hts (kGV wd_327 wd_972 wd_325 wd_326 wd_2) rfl rfl rfl (by decide +kernel) ⟨Nat.le_of_ble_eq_true rfl, Nat.le_of_ble_eq_true rfl⟩) (k_preV10 (q0 := 0) hK hPc hDc hN rfl) rfl rfl hl.1 rfl (lv_room (Nat.le_of_ble_eq_true rfl)) dX11_digest_199 ⟨by decide +kernel, by decide +kernel⟩) hS (fun q _ h => hFc q h) hFc (fun r_57 u₀ t₀ H1 locs ht hvm hw hB hz1 hk1 hS => ?_)
              obtain ⟨hP1, hK1, hD1⟩ := hB
              rw [ht] at hP1
              have hJ := k_jn (wr := [(kX10 aTr aLa aPa aGe gL gR pz25 qz25 ygoez25 ycarz25 ykinz25 ysorz25 ybeaz25 yweiz25 yleaz25 yangz25 ycolz25 yendz25), (kX3 gL w0z25 w1z25 w2z25 w3z25), (kX3 gR z0z25 z1z25 z2z25 z3z25), (kAI vLa cI 24 f4), (kAI vPa cI 39 f7), (kAI vFl cI 32 ff), (kX0 aBe k0 k1 k2 k3), (kX5 aLu vLu ab be), (kAJ vLu cJ 46 fl), (kAI vSf cI 8 sf), (kAI vSm cI 8 sm), (kAI vCo cI 25 qoz25), (kX6 aLo sd), (kX1 aFl vFl xn), (kX4 aLa vLa l4 a4 n4), (kX7 aPa vPa l7 a7 n7)]) (wt := [(kX10 aTr aLa aPa aGe gL gR pz25 qz25 ygoez25 ycarz25 ykinz25 ysorz25 ybeaz25 yweiz25 yleaz25 yangz25 ycolz25 yendz25), (kX3 gL w0z25 w1z25 w2z25 w3z25), (kX3 gR z0z25 z1z25 z2z25 z3z25), (kAI vLa cI 24 f4), (kAI vPa cI 39 f7), (kAI vFl cI 32 ff), (kX0 aBe k0 k1 k2 k3), (kX5 aLu vLu ab be), (kAJ vLu cJ 46 fl), (kAI vSf cI 8 sf), (kAI vSm cI 8 sm), (kAI vCo cI 25 qoz25), (kX6 aLo sd), (kX1 aFl vFl xn), (kX4 aLa vLa l4 a4 n4), (kX7 aPa vPa l7 a7 n7), (kX11 hx aLa aPa aGe aFl aTr aBe aLu aLo vSf vSm vCo vSh xs xl xf), (kX2 aGe vGe l2 a2 n2), (kAI vGe cI 23 f2)]) hP hD hC [0, 1, 2, 3, 4, 5, 6, 7, 8, 9, 10, 11, 12, 13, 14, 15] rfl (by decide +kernel) (by decide +kernel) hk1 hFc hP1 hD1 rfl
              clear hP hD hPc hDc hFc hC hP1 hD1 hK1 hz1 hk1 hvm ht
              obtain ⟨hP, hD⟩ := hJ
              generalize H1 = H at hP hS ⊢
              try dsimp only at hw
              have c_58 := hw
              refine lv_i2l hx₀ hb dX11_digest_202 rfl ?_
              refine lv_ladd hx₀ hb dX11_digest_203 ?_
              refine lv_lstore_n (lv' := [(1, .long ((31 * ((31 * hhz27) + r_55.toInt64)) + r_57.toInt64)), (3, .int iz27), (0, .ref hx)]) hx₀ hb dX11_digest_204 rfl hl (by decide) rfl (fun ls hl => ?_)
              refine lv_iinc (v := iz27 + 1) (lv' := [(3, .int (iz27 + 1)), (1, .long ((31 * ((31 * hhz27) + r_55.toInt64)) + r_57.toInt64)), (0, .ref hx)]) hx₀ hb dX11_digest_205 hl (k := 1) rfl rfl (by decide) rfl (fun ls hl => ?_)
              refine lv_goto (tgt := 166) hx₀ hb dX11_digest_208 (by decide) ?_
              exact ihz27 _ (lf_j_digest_4 iz27 n2 jz27 hiz27_0 hjz27 c_28) ((31 * ((31 * hhz27) + r_55.toInt64)) + r_57.toInt64) (iz27 + 1) _ _ _ (lf_j_digest_3 iz27 n2 jz27 hiz27_0 hjz27 c_28) rfl (hP.sub [0, 1, 2, 3, 4, 18, 5, 6, 7, 8, 9, 10, 11, 12, 13, 16, 14, 15, 17] rfl) (hD.sub [0, 1, 2, 3, 4, 18, 5, 6, 7, 8, 9, 10, 11, 12, 13, 16, 14, 15, 17] (by decide +kernel) rfl) hS (lv_sub hl [0, 1, 2] rfl)
        · refine lv_iconst (v := 0) hx₀ hb dX11_digest_102 (by decide +kernel) ?_
          refine lv_istore (lv' := [(4, .int 0), (3, .int iz25), (1, .long hhz25), (0, .ref hx)]) hx₀ hb dX11_digest_103 hl (by decide) rfl (fun ls hl => ?_)
          refine (?keyz59 : ∀ (jz59 : Nat) (hhz59 : Int64) (kz59 : Int32) (H : Heap) (locs : List Loc) (ls : Array Slot), (0 ≤ kz59 ∧ kz59 ≤ 4) → ((4 - kz59.toInt).toNat = jz59) → va_P (dC, dI) vwCl [(kX10 aTr aLa aPa aGe gL gR pz25 qz25 ygoez25 ycarz25 ykinz25 ysorz25 ybeaz25 yweiz25 yleaz25 yangz25 ycolz25 yendz25), (kX3 gL w0z25 w1z25 w2z25 w3z25), (kX3 gR z0z25 z1z25 z2z25 z3z25), (kAI vLa cI 24 f4), (kAI vPa cI 39 f7), (kAI vGe cI 23 f2), (kAI vFl cI 32 ff), (kX0 aBe k0 k1 k2 k3), (kX5 aLu vLu ab be), (kAJ vLu cJ 46 fl), (kAI vSf cI 8 sf), (kAI vSm cI 8 sm), (kAI vCo cI 25 qoz25), (kX6 aLo sd), (kX1 aFl vFl xn), (kX11 hx aLa aPa aGe aFl aTr aBe aLu aLo vSf vSm vCo vSh xs xl xf), (kX4 aLa vLa l4 a4 n4), (kX7 aPa vPa l7 a7 n7), (kX2 aGe vGe l2 a2 n2)] H → va_D A [(kX10 aTr aLa aPa aGe gL gR pz25 qz25 ygoez25 ycarz25 ykinz25 ysorz25 ybeaz25 yweiz25 yleaz25 yangz25 ycolz25 yendz25), (kX3 gL w0z25 w1z25 w2z25 w3z25), (kX3 gR z0z25 z1z25 z2z25 z3z25), (kAI vLa cI 24 f4), (kAI vPa cI 39 f7), (kAI vGe cI 23 f2), (kAI vFl cI 32 ff), (kX0 aBe k0 k1 k2 k3), (kX5 aLu vLu ab be), (kAJ vLu cJ 46 fl), (kAI vSf cI 8 sf), (kAI vSm cI 8 sm), (kAI vCo cI 25 qoz25), (kX6 aLo sd), (kX1 aFl vFl xn), (kX11 hx aLa aPa aGe aFl aTr aBe aLu aLo vSf vSm vCo vSh xs xl xf), (kX4 aLa vLa l4 a4 n4), (kX7 aPa vPa l7 a7 n7), (kX2 aGe vGe l2 a2 n2)] → va_S A s₀.heap H locs → lv_has ls 5 [(4, .int kz59), (3, .int iz25), (1, .long hhz59), (0, .ref hx)] → W p₀ l e₀ _ s₀ m₀ _ below meth c₀ H locs _ _ _ (F0 m₀ 105 ls [])) _ hhz25 (0 : Int32) H locs ls (show 0 ≤ (0 : Int32) ∧ (0 : Int32) ≤ 4 from ⟨(by decide), (by decide)⟩) rfl hP hD hS hl
          clear hP hD hS hl
          intro jz59
          induction jz59 using Nat.strongRecOn with
          | ind jz59 ihz59 =>
            intro hhz59 kz59 H locs ls hiz59_0 hjz59 hP hD hS hl
            refine lv_iload hx₀ hb dX11_digest_105 (lv_at hl 0 rfl) ?_
            refine lv_iconst (v := 3) hx₀ hb dX11_digest_107 (by decide +kernel) ?_
            refine lv_icmp_gt (tgt := 132) hx₀ hb dX11_digest_108 (by decide) (fun c_60 => ?_) (fun c_60 => ?_)
            · refine lv_ldc2 (v := 31) hx₀ hb hown (hts (.constantLong RX11 274 (31)) wd_966) dX11_digest_132 ?_
              refine lv_lload_n hx₀ hb dX11_digest_135 rfl (lv_at hl 2 rfl) ?_
              refine lv_lmul hx₀ hb dX11_digest_136 ?_
              refine lv_aload_n hx₀ hb dX11_digest_137 rfl (lv_at hl 3 rfl) ?_
              refine lv_iload_n hx₀ hb dX11_digest_138 rfl (lv_at hl 1 rfl) ?_
              obtain ⟨hPc, hDc, hFc, hC⟩ := k_cw (wc := [(kX11 hx aLa aPa aGe aFl aTr aBe aLu aLo vSf vSm vCo vSh xs xl xf), (kX10 aTr aLa aPa aGe gL gR pz25 qz25 ygoez25 ycarz25 ykinz25 ysorz25 ybeaz25 yweiz25 yleaz25 yangz25 ycolz25 yendz25), (kX3 gL w0z25 w1z25 w2z25 w3z25), (kX3 gR z0z25 z1z25 z2z25 z3z25), (kX4 aLa vLa l4 a4 n4), (kAI vLa cI 24 f4), (kX7 aPa vPa l7 a7 n7), (kAI vPa cI 39 f7), (kX2 aGe vGe l2 a2 n2), (kAI vGe cI 23 f2), (kX1 aFl vFl xn), (kAI vFl cI 32 ff), (kAI vSf cI 8 sf), (kAI vSm cI 8 sm)]) hP hD hS hA [15, 0, 1, 2, 16, 3, 17, 4, 18, 5, 14, 6, 10, 11] (by decide +kernel) rfl
              refine va_calli (va_runV (As := [.int iz25]) (rest := [.long (31 * hhz59)]) ⟨hx₀, hb, hml, hown, hts⟩ (j_sores l dC dI cI cJ cQ H.size hx iz25 aLa aPa aGe aFl aTr aBe aLu aLo vSf vSm vCo vSh xs xl xf gL gR pz25 qz25 ygoez25 ycarz25 ykinz25 ysorz25 ybeaz25 yweiz25 yleaz25 yangz25 ycolz25 yendz25 w0z25 w1z25 w2z25 w3z25 z0z25 z1z25 z2z25 z3z25 vLa l4 a4 n4 f4 vPa l7 a7 n7 f7 vGe l2 a2 n2 f2 vFl xn ff sf sm (hh0) (hh1)) (cwV 1 hts (kGV wd_708 wd_742 wd_706 wd_707 wd_2) rfl rfl rfl (by decide +kernel) ⟨Nat.le_of_ble_eq_true rfl, Nat.le_of_ble_eq_true rfl⟩) (k_preV10 (q0 := 0) hK hPc hDc hN rfl) rfl rfl hl.1 rfl (lv_room (Nat.le_of_ble_eq_true rfl)) dX11_digest_139 ⟨by decide +kernel, by decide +kernel⟩) hS (fun q _ h => hFc q h) hFc (fun r_61 u₀ t₀ H1 locs ht hvm hw hB hz1 hk1 hS => ?_)
              obtain ⟨g_62, ga_63, gl_64, gb_65, gp_66⟩ := u₀
              obtain ⟨hP1, hK1, hD1⟩ := hB
              rw [ht] at hP1
              have hJ := k_jn (wr := [(kX0 aBe k0 k1 k2 k3), (kX5 aLu vLu ab be), (kAJ vLu cJ 46 fl), (kAI vCo cI 25 qoz25), (kX6 aLo sd)]) (wt := [(kX0 aBe k0 k1 k2 k3), (kX5 aLu vLu ab be), (kAJ vLu cJ 46 fl), (kAI vCo cI 25 qoz25), (kX6 aLo sd), (kX11 hx aLa aPa aGe aFl aTr aBe aLu aLo vSf vSm vCo vSh xs xl xf), (kX10 aTr aLa aPa aGe gL gR (gp_66 0) (gp_66 1) (g_62 8) (g_62 9) (g_62 10) (g_62 11) (g_62 12) (g_62 13) (g_62 14) (g_62 15) (g_62 16) (g_62 17)), (kX3 gL (g_62 0) (g_62 1) (g_62 2) (g_62 3)), (kX3 gR (g_62 4) (g_62 5) (g_62 6) (g_62 7)), (kX4 aLa vLa l4 a4 n4), (kAI vLa cI 24 f4), (kX7 aPa vPa l7 a7 n7), (kAI vPa cI 39 f7), (kX2 aGe vGe l2 a2 n2), (kAI vGe cI 23 f2), (kX1 aFl vFl xn), (kAI vFl cI 32 ff), (kAI vSf cI 8 sf), (kAI vSm cI 8 sm)]) hP hD hC [7, 8, 9, 12, 13] rfl (by decide +kernel) (by decide +kernel) hk1 hFc hP1 hD1 rfl
              clear hP hD hPc hDc hFc hC hP1 hD1 hK1 hz1 hk1 hvm ht
              obtain ⟨hP, hD⟩ := hJ
              generalize H1 = H at hP hS ⊢
              try dsimp only at hw
              refine lv_i2l hx₀ hb dX11_digest_142 rfl ?_
              refine lv_ladd hx₀ hb dX11_digest_143 ?_
              refine lv_lstore_n (lv' := [(1, .long ((31 * hhz59) + r_61.toInt64)), (4, .int kz59), (3, .int iz25), (0, .ref hx)]) hx₀ hb dX11_digest_144 rfl hl (by decide) rfl (fun ls hl => ?_)
              refine lv_ldc2 (v := 31) hx₀ hb hown (hts (.constantLong RX11 274 (31)) wd_966) dX11_digest_145 ?_
              refine lv_lload_n hx₀ hb dX11_digest_148 rfl (lv_at hl 0 rfl) ?_
              refine lv_lmul hx₀ hb dX11_digest_149 ?_
              refine lv_aload_n hx₀ hb dX11_digest_150 rfl (lv_at hl 3 rfl) ?_
              refine lv_iload_n hx₀ hb dX11_digest_151 rfl (lv_at hl 2 rfl) ?_
              obtain ⟨hPc, hDc, hFc, hC⟩ := k_cw (wc := [(kX11 hx aLa aPa aGe aFl aTr aBe aLu aLo vSf vSm vCo vSh xs xl xf), (kX10 aTr aLa aPa aGe gL gR (gp_66 0) (gp_66 1) (g_62 8) (g_62 9) (g_62 10) (g_62 11) (g_62 12) (g_62 13) (g_62 14) (g_62 15) (g_62 16) (g_62 17)), (kX3 gL (g_62 0) (g_62 1) (g_62 2) (g_62 3)), (kX3 gR (g_62 4) (g_62 5) (g_62 6) (g_62 7)), (kX4 aLa vLa l4 a4 n4), (kAI vLa cI 24 f4), (kX7 aPa vPa l7 a7 n7), (kAI vPa cI 39 f7), (kX2 aGe vGe l2 a2 n2), (kAI vGe cI 23 f2), (kX1 aFl vFl xn), (kAI vFl cI 32 ff), (kAI vSf cI 8 sf), (kAI vSm cI 8 sm), (kAI vCo cI 25 qoz25)]) hP hD hS hA [5, 6, 7, 8, 9, 10, 11, 12, 13, 14, 15, 16, 17, 18, 3] (by decide +kernel) rfl
              refine va_calli (va_runV (As := [.int iz25]) (rest := [.long (31 * ((31 * hhz59) + r_61.toInt64))]) ⟨hx₀, hb, hml, hown, hts⟩ (j_ask l dC dI cI cJ cQ H.size hx iz25 aLa aPa aGe aFl aTr aBe aLu aLo vSf vSm vCo vSh xs xl xf gL gR (gp_66 0) (gp_66 1) (g_62 8) (g_62 9) (g_62 10) (g_62 11) (g_62 12) (g_62 13) (g_62 14) (g_62 15) (g_62 16) (g_62 17) (g_62 0) (g_62 1) (g_62 2) (g_62 3) (g_62 4) (g_62 5) (g_62 6) (g_62 7) vLa l4 a4 n4 f4 vPa l7 a7 n7 f7 vGe l2 a2 n2 f2 vFl xn ff sf sm qoz25 (hh0) (hh1)) (cwV 1 hts (kGV wd_741 wd_971 wd_739 wd_740 wd_2) rfl rfl rfl (by decide +kernel) ⟨Nat.le_of_ble_eq_true rfl, Nat.le_of_ble_eq_true rfl⟩) (k_preV10 (q0 := 0) hK hPc hDc hN rfl) rfl rfl hl.1 rfl (lv_room (Nat.le_of_ble_eq_true rfl)) dX11_digest_152 ⟨by decide +kernel, by decide +kernel⟩) hS (fun q _ h => hFc q h) hFc (fun r_67 u₀ t₀ H1 locs ht hvm hw hB hz1 hk1 hS => ?_)
              obtain ⟨g_68, ga_69, gl_70, gb_71, gp_72⟩ := u₀
              obtain ⟨hP1, hK1, hD1⟩ := hB
              rw [ht] at hP1
              have hJ := k_jn (wr := [(kX0 aBe k0 k1 k2 k3), (kX5 aLu vLu ab be), (kAJ vLu cJ 46 fl), (kX6 aLo sd)]) (wt := [(kX0 aBe k0 k1 k2 k3), (kX5 aLu vLu ab be), (kAJ vLu cJ 46 fl), (kX6 aLo sd), (kX11 hx aLa aPa aGe aFl aTr aBe aLu aLo vSf vSm vCo vSh xs xl xf), (kX10 aTr aLa aPa aGe gL gR (gp_72 0) (gp_72 1) (g_68 8) (g_68 9) (g_68 10) (g_68 11) (g_68 12) (g_68 13) (g_68 14) (g_68 15) (g_68 16) (g_68 17)), (kX3 gL (g_68 0) (g_68 1) (g_68 2) (g_68 3)), (kX3 gR (g_68 4) (g_68 5) (g_68 6) (g_68 7)), (kX4 aLa vLa l4 a4 n4), (kAI vLa cI 24 f4), (kX7 aPa vPa l7 a7 n7), (kAI vPa cI 39 f7), (kX2 aGe vGe l2 a2 n2), (kAI vGe cI 23 f2), (kX1 aFl vFl xn), (kAI vFl cI 32 ff), (kAI vSf cI 8 sf), (kAI vSm cI 8 sm), (kAI vCo cI 25 (ga_69 0))]) hP hD hC [0, 1, 2, 4] rfl (by decide +kernel) (by decide +kernel) hk1 hFc hP1 hD1 rfl
              clear hP hD hPc hDc hFc hC hP1 hD1 hK1 hz1 hk1 hvm ht
              obtain ⟨hP, hD⟩ := hJ
              generalize H1 = H at hP hS ⊢
              try dsimp only at hw
              refine lv_i2l hx₀ hb dX11_digest_155 rfl ?_
              refine lv_ladd hx₀ hb dX11_digest_156 ?_
              refine lv_lstore_n (lv' := [(1, .long ((31 * ((31 * hhz59) + r_61.toInt64)) + r_67.toInt64)), (4, .int kz59), (3, .int iz25), (0, .ref hx)]) hx₀ hb dX11_digest_157 rfl hl (by decide) rfl (fun ls hl => ?_)
              refine lv_iinc (v := iz25 + 1) (lv' := [(3, .int (iz25 + 1)), (1, .long ((31 * ((31 * hhz59) + r_61.toInt64)) + r_67.toInt64)), (4, .int kz59), (0, .ref hx)]) hx₀ hb dX11_digest_158 hl (k := 2) rfl rfl (by decide) rfl (fun ls hl => ?_)
              refine lv_goto (tgt := 91) hx₀ hb dX11_digest_161 (by decide) ?_
              exact ihz25 _ (lf_j_digest_4 iz25 n7 jz25 hiz25_0 hjz25 c_26) ((31 * ((31 * hhz59) + r_61.toInt64)) + r_67.toInt64) (iz25 + 1) (g_68 8) (g_68 9) (g_68 10) (g_68 11) (g_68 12) (g_68 13) (g_68 14) (g_68 15) (g_68 16) (g_68 17) (gp_72 0) (gp_72 1) (g_68 0) (g_68 1) (g_68 2) (g_68 3) (g_68 4) (g_68 5) (g_68 6) (g_68 7) (ga_69 0) _ _ _ (lf_j_digest_3 iz25 n7 jz25 hiz25_0 hjz25 c_26) rfl (hP.sub [5, 6, 7, 9, 11, 13, 15, 0, 1, 2, 16, 17, 18, 3, 14, 4, 8, 10, 12] rfl) (hD.sub [5, 6, 7, 9, 11, 13, 15, 0, 1, 2, 16, 17, 18, 3, 14, 4, 8, 10, 12] (by decide +kernel) rfl) hS (lv_sub hl [0, 1, 3] rfl)
            · refine lv_ldc2 (v := 31) hx₀ hb hown (hts (.constantLong RX11 274 (31)) wd_966) dX11_digest_111 ?_
              refine lv_lload_n hx₀ hb dX11_digest_114 rfl (lv_at hl 2 rfl) ?_
              refine lv_lmul hx₀ hb dX11_digest_115 ?_
              refine lv_aload_n hx₀ hb dX11_digest_116 rfl (lv_at hl 3 rfl) ?_
              refine lv_iload_n hx₀ hb dX11_digest_117 rfl (lv_at hl 1 rfl) ?_
              refine lv_iload hx₀ hb dX11_digest_118 (lv_at hl 0 rfl) ?_
              obtain ⟨hPc, hDc, hFc, hC⟩ := k_cw (wc := [(kX11 hx aLa aPa aGe aFl aTr aBe aLu aLo vSf vSm vCo vSh xs xl xf), (kX7 aPa vPa l7 a7 n7), (kAI vPa cI 39 f7)]) hP hD hS hA [15, 17, 4] (by decide +kernel) rfl
              refine va_calli (va_runV (As := [.int iz25, .int kz59]) (rest := [.long (31 * hhz59)]) ⟨hx₀, hb, hml, hown, hts⟩ (j_passenger l dC dI cI cJ cQ H.size hx iz25 kz59 aLa aPa aGe aFl aTr aBe aLu aLo vSf vSm vCo vSh xs xl xf vPa l7 a7 n7 f7) (cwV 2 hts (kGV wd_302 wd_970 wd_300 wd_301 wd_2) rfl rfl rfl (by decide +kernel) ⟨Nat.le_of_ble_eq_true rfl, Nat.le_of_ble_eq_true rfl⟩) (k_preV10 (q0 := 0) hK hPc hDc hN rfl) rfl rfl hl.1 rfl (lv_room (Nat.le_of_ble_eq_true rfl)) dX11_digest_120 ⟨by decide +kernel, by decide +kernel⟩) hS (fun q _ h => hFc q h) hFc (fun r_73 u₀ t₀ H1 locs ht hvm hw hB hz1 hk1 hS => ?_)
              obtain ⟨hP1, hK1, hD1⟩ := hB
              rw [ht] at hP1
              have hJ := k_jn (wr := [(kX10 aTr aLa aPa aGe gL gR pz25 qz25 ygoez25 ycarz25 ykinz25 ysorz25 ybeaz25 yweiz25 yleaz25 yangz25 ycolz25 yendz25), (kX3 gL w0z25 w1z25 w2z25 w3z25), (kX3 gR z0z25 z1z25 z2z25 z3z25), (kAI vLa cI 24 f4), (kAI vGe cI 23 f2), (kAI vFl cI 32 ff), (kX0 aBe k0 k1 k2 k3), (kX5 aLu vLu ab be), (kAJ vLu cJ 46 fl), (kAI vSf cI 8 sf), (kAI vSm cI 8 sm), (kAI vCo cI 25 qoz25), (kX6 aLo sd), (kX1 aFl vFl xn), (kX4 aLa vLa l4 a4 n4), (kX2 aGe vGe l2 a2 n2)]) (wt := [(kX10 aTr aLa aPa aGe gL gR pz25 qz25 ygoez25 ycarz25 ykinz25 ysorz25 ybeaz25 yweiz25 yleaz25 yangz25 ycolz25 yendz25), (kX3 gL w0z25 w1z25 w2z25 w3z25), (kX3 gR z0z25 z1z25 z2z25 z3z25), (kAI vLa cI 24 f4), (kAI vGe cI 23 f2), (kAI vFl cI 32 ff), (kX0 aBe k0 k1 k2 k3), (kX5 aLu vLu ab be), (kAJ vLu cJ 46 fl), (kAI vSf cI 8 sf), (kAI vSm cI 8 sm), (kAI vCo cI 25 qoz25), (kX6 aLo sd), (kX1 aFl vFl xn), (kX4 aLa vLa l4 a4 n4), (kX2 aGe vGe l2 a2 n2), (kX11 hx aLa aPa aGe aFl aTr aBe aLu aLo vSf vSm vCo vSh xs xl xf), (kX7 aPa vPa l7 a7 n7), (kAI vPa cI 39 f7)]) hP hD hC [0, 1, 2, 3, 5, 6, 7, 8, 9, 10, 11, 12, 13, 14, 16, 18] rfl (by decide +kernel) (by decide +kernel) hk1 hFc hP1 hD1 rfl
              clear hP hD hPc hDc hFc hC hP1 hD1 hK1 hz1 hk1 hvm ht
              obtain ⟨hP, hD⟩ := hJ
              generalize H1 = H at hP hS ⊢
              try dsimp only at hw
              have c_74 := hw
              refine lv_i2l hx₀ hb dX11_digest_123 rfl ?_
              refine lv_ladd hx₀ hb dX11_digest_124 ?_
              refine lv_lstore_n (lv' := [(1, .long ((31 * hhz59) + r_73.toInt64)), (4, .int kz59), (3, .int iz25), (0, .ref hx)]) hx₀ hb dX11_digest_125 rfl hl (by decide) rfl (fun ls hl => ?_)
              refine lv_iinc (v := kz59 + 1) (lv' := [(4, .int (kz59 + 1)), (1, .long ((31 * hhz59) + r_73.toInt64)), (3, .int iz25), (0, .ref hx)]) hx₀ hb dX11_digest_126 hl (k := 1) rfl rfl (by decide) rfl (fun ls hl => ?_)
              refine lv_goto (tgt := 105) hx₀ hb dX11_digest_129 (by decide) ?_
              exact ihz59 _ (lf_j_digest_6 kz59 jz59 hiz59_0 hjz59 c_60) ((31 * hhz59) + r_73.toInt64) (kz59 + 1) _ _ _ (lf_j_digest_5 kz59 jz59 hiz59_0 hjz59 c_60) rfl (hP.sub [0, 1, 2, 3, 18, 4, 5, 6, 7, 8, 9, 10, 11, 12, 13, 16, 14, 17, 15] rfl) (hD.sub [0, 1, 2, 3, 18, 4, 5, 6, 7, 8, 9, 10, 11, 12, 13, 16, 14, 17, 15] (by decide +kernel) rfl) hS (lv_sub hl [0, 2, 1, 3] rfl)
    · refine lv_ldc2 (v := 31) hx₀ hb hown (hts (.constantLong RX11 274 (31)) wd_966) dX11_digest_70 ?_
      refine lv_lload_n hx₀ hb dX11_digest_73 rfl (lv_at hl 1 rfl) ?_
      refine lv_lmul hx₀ hb dX11_digest_74 ?_
      refine lv_aload_n hx₀ hb dX11_digest_75 rfl (lv_at hl 2 rfl) ?_
      refine lv_iload_n hx₀ hb dX11_digest_76 rfl (lv_at hl 0 rfl) ?_
      obtain ⟨hPc, hDc, hFc, hC⟩ := k_cw (wc := [(kX11 hx aLa aPa aGe aFl aTr aBe aLu aLo vSf vSm vCo vSh xs xl xf), (kX4 aLa vLa l4 a4 n4), (kAI vLa cI 24 f4)]) hP hD hS hA [15, 16, 3] (by decide +kernel) rfl
      refine va_calli (va_runV (As := [.int iz23]) (rest := [.long (31 * hhz23)]) ⟨hx₀, hb, hml, hown, hts⟩ (j_mile l dC dI cI cJ cQ H.size hx iz23 aLa aPa aGe aFl aTr aBe aLu aLo vSf vSm vCo vSh xs xl xf vLa l4 a4 n4 f4) (cwV 1 hts (kGV wd_284 wd_969 wd_282 wd_283 wd_2) rfl rfl rfl (by decide +kernel) ⟨Nat.le_of_ble_eq_true rfl, Nat.le_of_ble_eq_true rfl⟩) (k_preV10 (q0 := 0) hK hPc hDc hN rfl) rfl rfl hl.1 rfl (lv_room (Nat.le_of_ble_eq_true rfl)) dX11_digest_77 ⟨by decide +kernel, by decide +kernel⟩) hS (fun q _ h => hFc q h) hFc (fun r_75 u₀ t₀ H1 locs ht hvm hw hB hz1 hk1 hS => ?_)
      obtain ⟨hP1, hK1, hD1⟩ := hB
      rw [ht] at hP1
      have hJ := k_jn (wr := [(kX10 aTr aLa aPa aGe gL gR lf rt tgo tca tki tso tbe twe tle tan tco ten), (kX3 gL u0 u1 u2 u3), (kX3 gR v0 v1 v2 v3), (kAI vPa cI 39 f7), (kAI vGe cI 23 f2), (kAI vFl cI 32 ff), (kX0 aBe k0 k1 k2 k3), (kX5 aLu vLu ab be), (kAJ vLu cJ 46 fl), (kAI vSf cI 8 sf), (kAI vSm cI 8 sm), (kAI vCo cI 25 oo), (kX6 aLo sd), (kX1 aFl vFl xn), (kX7 aPa vPa l7 a7 n7), (kX2 aGe vGe l2 a2 n2)]) (wt := [(kX10 aTr aLa aPa aGe gL gR lf rt tgo tca tki tso tbe twe tle tan tco ten), (kX3 gL u0 u1 u2 u3), (kX3 gR v0 v1 v2 v3), (kAI vPa cI 39 f7), (kAI vGe cI 23 f2), (kAI vFl cI 32 ff), (kX0 aBe k0 k1 k2 k3), (kX5 aLu vLu ab be), (kAJ vLu cJ 46 fl), (kAI vSf cI 8 sf), (kAI vSm cI 8 sm), (kAI vCo cI 25 oo), (kX6 aLo sd), (kX1 aFl vFl xn), (kX7 aPa vPa l7 a7 n7), (kX2 aGe vGe l2 a2 n2), (kX11 hx aLa aPa aGe aFl aTr aBe aLu aLo vSf vSm vCo vSh xs xl xf), (kX4 aLa vLa l4 a4 n4), (kAI vLa cI 24 f4)]) hP hD hC [0, 1, 2, 4, 5, 6, 7, 8, 9, 10, 11, 12, 13, 14, 17, 18] rfl (by decide +kernel) (by decide +kernel) hk1 hFc hP1 hD1 rfl
      clear hP hD hPc hDc hFc hC hP1 hD1 hK1 hz1 hk1 hvm ht
      obtain ⟨hP, hD⟩ := hJ
      generalize H1 = H at hP hS ⊢
      try dsimp only at hw
      have c_76 := hw
      refine lv_i2l hx₀ hb dX11_digest_80 rfl ?_
      refine lv_ladd hx₀ hb dX11_digest_81 ?_
      refine lv_lstore_n (lv' := [(1, .long ((31 * hhz23) + r_75.toInt64)), (3, .int iz23), (0, .ref hx)]) hx₀ hb dX11_digest_82 rfl hl (by decide) rfl (fun ls hl => ?_)
      refine lv_iinc (v := iz23 + 1) (lv' := [(3, .int (iz23 + 1)), (1, .long ((31 * hhz23) + r_75.toInt64)), (0, .ref hx)]) hx₀ hb dX11_digest_83 hl (k := 1) rfl rfl (by decide) rfl (fun ls hl => ?_)
      refine lv_goto (tgt := 59) hx₀ hb dX11_digest_86 (by decide) ?_
      exact ihz23 _ (lf_j_digest_8 n4 iz23 jz23 hh0 hiz23_0 hjz23 c_24) ((31 * hhz23) + r_75.toInt64) (iz23 + 1) _ _ _ (lf_j_digest_7 n4 iz23 jz23 hh0 hiz23_0 hjz23 c_24) rfl (hP.sub [0, 1, 2, 18, 3, 4, 5, 6, 7, 8, 9, 10, 11, 12, 13, 16, 17, 14, 15] rfl) (hD.sub [0, 1, 2, 18, 3, 4, 5, 6, 7, 8, 9, 10, 11, 12, 13, 16, 17, 14, 15] (by decide +kernel) rfl) hS (lv_sub hl [0, 1, 2] rfl)
