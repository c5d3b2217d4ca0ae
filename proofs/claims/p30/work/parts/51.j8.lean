theorem lf_j_mostAlike_1 (a0 : Int32) (h0 : ¬ a0 < 0) (h1 : ¬ 25 ≤ a0) : 0 ≤ a0.toInt ∧ a0.toInt < 25 := by
  first | (first | omega | (have hr0 := Int32.toInt_lt a0; have hs0 := Int32.le_toInt a0; simp only [Int64.toInt_add, Int64.toInt_sub, Int32.toInt_add, Int32.toInt_sub, Int32.toInt_mul, Int64.le_iff_toInt_le, Int64.lt_iff_toInt_lt, Int32.le_iff_toInt_le, Int32.lt_iff_toInt_lt, ← Int32.toInt_inj, ← Int64.toInt_inj, Int32.toInt_toInt64, kc_0, kc_25, true_and, and_true, not_true_eq_false, not_false_eq_true] at * <;> ((first | omega | ((try simp (disch := omega) only [k_bm64] at *); (try simp (disch := omega) only [k_bm] at *); (try simp (disch := omega) only [k_bm] at *); omega) | (simp only [Int.bmod] at *; omega))))) | with_reducible assumption | rfl
theorem lf_j_mostAlike_2 (a0 : Int32) (a1 : Nat) (h0 : 0 ≤ a0 ∧ a0 ≤ 25) (h1 : (25 - a0.toInt).toNat = a1) (h2 : ¬ 25 ≤ a0) : 0 ≤ a0.toInt ∧ a0.toInt < 25 := by
  first | (first | omega | (have hr0 := Int32.toInt_lt a0; have hs0 := Int32.le_toInt a0; simp only [Int64.toInt_add, Int64.toInt_sub, Int32.toInt_add, Int32.toInt_sub, Int32.toInt_mul, Int64.le_iff_toInt_le, Int64.lt_iff_toInt_lt, Int32.le_iff_toInt_le, Int32.lt_iff_toInt_lt, ← Int32.toInt_inj, ← Int64.toInt_inj, Int32.toInt_toInt64, kc_0, kc_25, true_and, and_true, not_true_eq_false, not_false_eq_true] at * <;> ((first | omega | ((try simp (disch := omega) only [k_bm64] at *); (try simp (disch := omega) only [k_bm] at *); (try simp (disch := omega) only [k_bm] at *); omega) | (simp only [Int.bmod] at *; omega))))) | with_reducible assumption | rfl
theorem lf_j_mostAlike_3 (a0 : Int32) (a1 : Nat) (h0 : 0 ≤ a0 ∧ a0 ≤ 25) (h1 : (25 - a0.toInt).toNat = a1) (h2 : ¬ 25 ≤ a0) : 0 ≤ (a0 + 1) ∧ (a0 + 1) ≤ 25 := by
  first | (first | omega | (have hr0 := Int32.toInt_lt a0; have hs0 := Int32.le_toInt a0; simp only [Int64.toInt_add, Int64.toInt_sub, Int32.toInt_add, Int32.toInt_sub, Int32.toInt_mul, Int64.le_iff_toInt_le, Int64.lt_iff_toInt_lt, Int32.le_iff_toInt_le, Int32.lt_iff_toInt_lt, ← Int32.toInt_inj, ← Int64.toInt_inj, Int32.toInt_toInt64, kc_0, kc_1, kc_25, true_and, and_true, not_true_eq_false, not_false_eq_true] at * <;> ((first | omega | ((try simp (disch := omega) only [k_bm64] at *); (try simp (disch := omega) only [k_bm] at *); (try simp (disch := omega) only [k_bm] at *); omega) | (simp only [Int.bmod] at *; omega))))) | with_reducible assumption | rfl
theorem lf_j_mostAlike_4 (a0 : Int32) (a1 : Nat) (h0 : 0 ≤ a0 ∧ a0 ≤ 25) (h1 : (25 - a0.toInt).toNat = a1) (h2 : ¬ 25 ≤ a0) : (25 - (a0 + 1).toInt).toNat < a1 := by
  first | (first | omega | (have hr0 := Int32.toInt_lt a0; have hs0 := Int32.le_toInt a0; simp only [Int64.toInt_add, Int64.toInt_sub, Int32.toInt_add, Int32.toInt_sub, Int32.toInt_mul, Int64.le_iff_toInt_le, Int64.lt_iff_toInt_lt, Int32.le_iff_toInt_le, Int32.lt_iff_toInt_lt, ← Int32.toInt_inj, ← Int64.toInt_inj, Int32.toInt_toInt64, kc_0, kc_1, kc_25, true_and, and_true, not_true_eq_false, not_false_eq_true] at * <;> ((first | omega | ((try simp (disch := omega) only [k_bm64] at *); (try simp (disch := omega) only [k_bm] at *); (try simp (disch := omega) only [k_bm] at *); omega) | (simp only [Int.bmod] at *; omega))))) | with_reducible assumption | rfl
set_option maxHeartbeats 4000000 in
set_option maxRecDepth 100000 in
theorem j_mostAlike (l : Launch) (dC : Nat → ClassId) (dI : Nat → Nat → Nat) (cI cJ cQ : ClassId) (sz : Nat) (hx : Nat) (f1 : Int32) (p1 : Int32) (so : Int32) (aLa : Nat) (aPa : Nat) (aGe : Nat) (aFl : Nat) (aTr : Nat) (aBe : Nat) (aLu : Nat) (aLo : Nat) (vSf : Nat) (vSm : Nat) (vCo : Nat) (vSh : Nat) (xs : Int32) (xl : Int32) (xf : Int32) (gL : Nat) (gR : Nat) (lf : Nat) (rt : Nat) (tgo : Int32) (tca : Int32) (tki : Int32) (tso : Int32) (tbe : Int32) (twe : Int32) (tle : Int32) (tan : Int32) (tco : Int32) (ten : Int32) (u0 : Int32) (u1 : Int32) (u2 : Int32) (u3 : Int32) (v0 : Int32) (v1 : Int32) (v2 : Int32) (v3 : Int32) (vLa : Nat) (l4 : Int32) (a4 : Int32) (n4 : Int32) (f4 : Nat → Int32) (vPa : Nat) (l7 : Int32) (a7 : Int32) (n7 : Int32) (f7 : Nat → Int32) (vGe : Nat) (l2 : Int32) (a2 : Int32) (n2 : Int32) (f2 : Nat → Int32) (vFl : Nat) (xn : Int32) (ff : Nat → Int32) (oo : Nat → Int32) (hh0 : 0 ≤ n4 ∧ n4 ≤ 24) (hh1 : 0 ≤ xn ∧ xn ≤ 8) : Met l yX11_mostAlike (kW yX11_mostAlike cX11_mostAlike 7 (some .int)) { frames := 4, cells := 0, slots := 0, locals := 90 } (kPre dC dI cI cJ cQ sz [.ref hx, .int f1, .int p1, .int so] [(kX11 hx aLa aPa aGe aFl aTr aBe aLu aLo vSf vSm vCo vSh xs xl xf), (kX10 aTr aLa aPa aGe gL gR lf rt tgo tca tki tso tbe twe tle tan tco ten), (kX3 gL u0 u1 u2 u3), (kX3 gR v0 v1 v2 v3), (kX4 aLa vLa l4 a4 n4), (kAI vLa cI 24 f4), (kX7 aPa vPa l7 a7 n7), (kAI vPa cI 39 f7), (kX2 aGe vGe l2 a2 n2), (kAI vGe cI 23 f2), (kX1 aFl vFl xn), (kAI vFl cI 32 ff), (kAI vCo cI 25 oo)]) (va_Qi (fun (r : Int32) (u : kS) => True) (fun (u : kS) t₀ => kB dC dI cI cJ cQ (va_A [(kX11 hx aLa aPa aGe aFl aTr aBe aLu aLo vSf vSm vCo vSh xs xl xf), (kX10 aTr aLa aPa aGe gL gR lf rt tgo tca tki tso tbe twe tle tan tco ten), (kX3 gL u0 u1 u2 u3), (kX3 gR v0 v1 v2 v3), (kX4 aLa vLa l4 a4 n4), (kAI vLa cI 24 f4), (kX7 aPa vPa l7 a7 n7), (kAI vPa cI 39 f7), (kX2 aGe vGe l2 a2 n2), (kAI vGe cI 23 f2), (kX1 aFl vFl xn), (kAI vFl cI 32 ff), (kAI vCo cI 25 oo)] sz) [(kX11 hx aLa aPa aGe aFl aTr aBe aLu aLo vSf vSm vCo vSh xs xl xf), (kX10 aTr aLa aPa aGe gL gR (u.2.2.2.2 0) (u.2.2.2.2 1) (u.1 8) (u.1 9) (u.1 10) (u.1 11) (u.1 12) (u.1 13) (u.1 14) (u.1 15) (u.1 16) (u.1 17)), (kX3 gL (u.1 0) (u.1 1) (u.1 2) (u.1 3)), (kX3 gR (u.1 4) (u.1 5) (u.1 6) (u.1 7)), (kX4 aLa vLa l4 a4 n4), (kAI vLa cI 24 f4), (kX7 aPa vPa l7 a7 n7), (kAI vPa cI 39 f7), (kX2 aGe vGe l2 a2 n2), (kAI vGe cI 23 f2), (kX1 aFl vFl xn), (kAI vFl cI 32 ff), (kAI vCo cI 25 (u.2.1 0))] t₀) (va_A [(kX11 hx aLa aPa aGe aFl aTr aBe aLu aLo vSf vSm vCo vSh xs xl xf), (kX10 aTr aLa aPa aGe gL gR lf rt tgo tca tki tso tbe twe tle tan tco ten), (kX3 gL u0 u1 u2 u3), (kX3 gR v0 v1 v2 v3), (kX4 aLa vLa l4 a4 n4), (kAI vLa cI 24 f4), (kX7 aPa vPa l7 a7 n7), (kAI vPa cI 39 f7), (kX2 aGe vGe l2 a2 n2), (kAI vGe cI 23 f2), (kX1 aFl vFl xn), (kAI vFl cI 32 ff), (kAI vCo cI 25 oo)] sz)) 0 0 (va_A [(kX11 hx aLa aPa aGe aFl aTr aBe aLu aLo vSf vSm vCo vSh xs xl xf), (kX10 aTr aLa aPa aGe gL gR lf rt tgo tca tki tso tbe twe tle tan tco ten), (kX3 gL u0 u1 u2 u3), (kX3 gR v0 v1 v2 v3), (kX4 aLa vLa l4 a4 n4), (kAI vLa cI 24 f4), (kX7 aPa vPa l7 a7 n7), (kAI vPa cI 39 f7), (kX2 aGe vGe l2 a2 n2), (kAI vGe cI 23 f2), (kX1 aFl vFl xn), (kAI vFl cI 32 ff), (kAI vCo cI 25 oo)] sz) := by
  refine Met.ofW (cc := cX11_mostAlike) (maxL := 7) (ret := (some .int)) (by decide) rfl ?_
  intro p₀ e₀ s₀ m₀ args below meth c₀ s₁ B hml hv₀
  obtain ⟨rfl, hsz, hP, hK, hD0, hN⟩ := hv₀
  have hx₀ := B.exec
  have hb := B.bytes
  have hr := B.returns
  have hts := atoms_spec (ws := (kW yX11_mostAlike cX11_mostAlike 7 (some .int))) B.pre
  have hts := fun w h => hts w (List.mem_cons_of_mem _ h)
  have hown : s₀.vm.findClass RX11 = some m₀.cls := findClass_of_methodNamed B.named
  have hlocks := B.notSynchronized
  subst hsz
  have hD := hD0.self (sz := s₀.heap.size)
  generalize hAe : va_A [(kX11 hx aLa aPa aGe aFl aTr aBe aLu aLo vSf vSm vCo vSh xs xl xf), (kX10 aTr aLa aPa aGe gL gR lf rt tgo tca tki tso tbe twe tle tan tco ten), (kX3 gL u0 u1 u2 u3), (kX3 gR v0 v1 v2 v3), (kX4 aLa vLa l4 a4 n4), (kAI vLa cI 24 f4), (kX7 aPa vPa l7 a7 n7), (kAI vPa cI 39 f7), (kX2 aGe vGe l2 a2 n2), (kAI vGe cI 23 f2), (kX1 aFl vFl xn), (kAI vFl cI 32 ff), (kAI vCo cI 25 oo)] s₀.heap.size = A at hD ⊢
  have hA : ∀ q : Nat, s₀.heap.size ≤ q → A q := fun q h => by rw [← hAe]; exact Or.inr h
  have hS : va_S A s₀.heap s₀.heap [] := va_S.rf
  have hP : va_P (dC, dI) vwCl [(kX11 hx aLa aPa aGe aFl aTr aBe aLu aLo vSf vSm vCo vSh xs xl xf), (kX10 aTr aLa aPa aGe gL gR lf rt tgo tca tki tso tbe twe tle tan tco ten), (kX3 gL u0 u1 u2 u3), (kX3 gR v0 v1 v2 v3), (kX4 aLa vLa l4 a4 n4), (kAI vLa cI 24 f4), (kX7 aPa vPa l7 a7 n7), (kAI vPa cI 39 f7), (kX2 aGe vGe l2 a2 n2), (kAI vGe cI 23 f2), (kX1 aFl vFl xn), (kAI vFl cI 32 ff), (kAI vCo cI 25 oo)] s₀.heap := hP
  have hl := lv_entry ([.ref hx, .int f1, .int p1, .int so]) (n := 7) (Nat.le_of_ble_eq_true rfl)
  rw [lg_entry_eq]
  generalize (lg_sl ([.ref hx, .int f1, .int p1, .int so]) ++ List.replicate (7 - (lg_sl ([.ref hx, .int f1, .int p1, .int so])).length) Slot.unset).toArray = ls at hl ⊢
  have hl : lv_has ls 7 [(0, .ref hx), (1, .int f1), (2, .int p1), (3, .int so)] := hl
  obtain ⟨H, hH⟩ : ∃ z : Heap, z = s₀.heap := ⟨_, rfl⟩
  rw [← hH] at hP
  have hS : va_S A s₀.heap H [] := by rw [hH]; exact hS
  refine k_heap hH ?_
  have hD : va_D A [(kX11 hx aLa aPa aGe aFl aTr aBe aLu aLo vSf vSm vCo vSh xs xl xf), (kX10 aTr aLa aPa aGe gL gR lf rt tgo tca tki tso tbe twe tle tan tco ten), (kX3 gL u0 u1 u2 u3), (kX3 gR v0 v1 v2 v3), (kX4 aLa vLa l4 a4 n4), (kAI vLa cI 24 f4), (kX7 aPa vPa l7 a7 n7), (kAI vPa cI 39 f7), (kX2 aGe vGe l2 a2 n2), (kAI vGe cI 23 f2), (kX1 aFl vFl xn), (kAI vFl cI 32 ff), (kAI vCo cI 25 oo)] := hD
  obtain ⟨locs, hlo⟩ : ∃ z : List Loc, z = [] := ⟨_, rfl⟩
  rw [← hlo] at hS ⊢
  clear hlo hH hAe hD0
  refine lv_aload_n hx₀ hb dX11_mostAlike_0 rfl (lv_at hl 0 rfl) ?_
  refine lv_iload_n hx₀ hb dX11_mostAlike_1 rfl (lv_at hl 1 rfl) ?_
  obtain ⟨hPc, hDc, hFc, hC⟩ := k_cw (wc := [(kX11 hx aLa aPa aGe aFl aTr aBe aLu aLo vSf vSm vCo vSh xs xl xf), (kX10 aTr aLa aPa aGe gL gR lf rt tgo tca tki tso tbe twe tle tan tco ten), (kX3 gL u0 u1 u2 u3), (kX3 gR v0 v1 v2 v3), (kX4 aLa vLa l4 a4 n4), (kAI vLa cI 24 f4), (kX7 aPa vPa l7 a7 n7), (kAI vPa cI 39 f7), (kX2 aGe vGe l2 a2 n2), (kAI vGe cI 23 f2), (kX1 aFl vFl xn), (kAI vFl cI 32 ff)]) hP hD hS hA [0, 1, 2, 3, 4, 5, 6, 7, 8, 9, 10, 11] (by decide +kernel) rfl
  refine va_callv (va_runV (As := [.int f1]) (rest := []) ⟨hx₀, hb, hml, hown, hts⟩ (j_prepare l dC dI cI cJ cQ H.size hx f1 aLa aPa aGe aFl aTr aBe aLu aLo vSf vSm vCo vSh xs xl xf gL gR lf rt tgo tca tki tso tbe twe tle tan tco ten u0 u1 u2 u3 v0 v1 v2 v3 vLa l4 a4 n4 f4 vPa l7 a7 n7 f7 vGe l2 a2 n2 f2 vFl xn ff (hh0) (hh1)) (cwV 1 hts (kGV wd_430 wd_427 wd_428 wd_429 wd_2) rfl rfl rfl (by decide +kernel) ⟨Nat.le_of_ble_eq_true rfl, Nat.le_of_ble_eq_true rfl⟩) (k_preV10 (q0 := 0) hK hPc hDc hN rfl) rfl rfl hl.1 rfl (lv_room (Nat.le_of_ble_eq_true rfl)) dX11_mostAlike_2 ⟨by decide +kernel, by decide +kernel⟩) hS (fun q _ h => hFc q h) hFc (fun u₀ t₀ H1 locs ht hvm hw hB hz1 hk1 hS => ?_)
  obtain ⟨g_2, ga_3, gl_4, gb_5, gp_6⟩ := u₀
  obtain ⟨hP1, hK1, hD1⟩ := hB
  rw [ht] at hP1
  have hJ := k_jn (wr := [(kAI vCo cI 25 oo)]) (wt := [(kAI vCo cI 25 oo), (kX11 hx aLa aPa aGe aFl aTr aBe aLu aLo vSf vSm vCo vSh xs xl xf), (kX10 aTr aLa aPa aGe gL gR (gp_6 0) (gp_6 1) (g_2 8) (g_2 9) (g_2 10) (g_2 11) (g_2 12) (g_2 13) (g_2 14) (g_2 15) (g_2 16) (g_2 17)), (kX3 gL (g_2 0) (g_2 1) (g_2 2) (g_2 3)), (kX3 gR (g_2 4) (g_2 5) (g_2 6) (g_2 7)), (kX4 aLa vLa l4 a4 n4), (kAI vLa cI 24 f4), (kX7 aPa vPa l7 a7 n7), (kAI vPa cI 39 f7), (kX2 aGe vGe l2 a2 n2), (kAI vGe cI 23 f2), (kX1 aFl vFl xn), (kAI vFl cI 32 ff)]) hP hD hC [12] rfl (by decide +kernel) (by decide +kernel) hk1 hFc hP1 hD1 rfl
  clear hP hD hPc hDc hFc hC hP1 hD1 hK1 hz1 hk1 hvm ht
  obtain ⟨hP, hD⟩ := hJ
  generalize H1 = H at hP hS ⊢
  try dsimp only at hw
  obtain ⟨c_7, c_8, c_9, c_10, c_11, c_12, c_13⟩ := hw
  refine lv_iconst (v := 0) hx₀ hb dX11_mostAlike_5 (by decide +kernel) ?_
  refine lv_istore (lv' := [(4, .int 0), (0, .ref hx), (1, .int f1), (2, .int p1), (3, .int so)]) hx₀ hb dX11_mostAlike_6 hl (by decide) rfl (fun ls hl => ?_)
  refine (?keyz14 : ∀ (jz14 : Nat) (iz14 : Int32) (qoz14 : Nat → Int32) (H : Heap) (locs : List Loc) (ls : Array Slot), (0 ≤ iz14 ∧ iz14 ≤ 25) → ((25 - iz14.toInt).toNat = jz14) → va_P (dC, dI) vwCl [(kAI vCo cI 25 qoz14), (kX11 hx aLa aPa aGe aFl aTr aBe aLu aLo vSf vSm vCo vSh xs xl xf), (kX10 aTr aLa aPa aGe gL gR (gp_6 0) (gp_6 1) (g_2 8) (g_2 9) (g_2 10) (g_2 11) (g_2 12) (g_2 13) (g_2 14) (g_2 15) (g_2 16) (g_2 17)), (kX3 gL (g_2 0) (g_2 1) (g_2 2) (g_2 3)), (kX3 gR (g_2 4) (g_2 5) (g_2 6) (g_2 7)), (kX4 aLa vLa l4 a4 n4), (kAI vLa cI 24 f4), (kX7 aPa vPa l7 a7 n7), (kAI vPa cI 39 f7), (kX2 aGe vGe l2 a2 n2), (kAI vGe cI 23 f2), (kX1 aFl vFl xn), (kAI vFl cI 32 ff)] H → va_D A [(kAI vCo cI 25 qoz14), (kX11 hx aLa aPa aGe aFl aTr aBe aLu aLo vSf vSm vCo vSh xs xl xf), (kX10 aTr aLa aPa aGe gL gR (gp_6 0) (gp_6 1) (g_2 8) (g_2 9) (g_2 10) (g_2 11) (g_2 12) (g_2 13) (g_2 14) (g_2 15) (g_2 16) (g_2 17)), (kX3 gL (g_2 0) (g_2 1) (g_2 2) (g_2 3)), (kX3 gR (g_2 4) (g_2 5) (g_2 6) (g_2 7)), (kX4 aLa vLa l4 a4 n4), (kAI vLa cI 24 f4), (kX7 aPa vPa l7 a7 n7), (kAI vPa cI 39 f7), (kX2 aGe vGe l2 a2 n2), (kAI vGe cI 23 f2), (kX1 aFl vFl xn), (kAI vFl cI 32 ff)] → va_S A s₀.heap H locs → lv_has ls 7 [(4, .int iz14), (0, .ref hx), (1, .int f1), (2, .int p1), (3, .int so)] → W p₀ l e₀ _ s₀ m₀ _ below meth c₀ H locs _ _ _ (F0 m₀ 8 ls [])) _ (0 : Int32) _ H locs ls (show 0 ≤ (0 : Int32) ∧ (0 : Int32) ≤ 25 from ⟨(by decide), (by decide)⟩) rfl hP hD hS hl
  clear hP hD hS hl
  intro jz14
  induction jz14 using Nat.strongRecOn with
  | ind jz14 ihz14 =>
    intro iz14 qoz14 H locs ls hiz14_0 hjz14 hP hD hS hl
    refine lv_iload hx₀ hb dX11_mostAlike_8 (lv_at hl 0 rfl) ?_
    refine lv_aload_n hx₀ hb dX11_mostAlike_10 rfl (lv_at hl 1 rfl) ?_
    refine va_get (D := (dC, dI)) (ci := 10) (v := .ref vCo) (C := RX11) (T := TX11) (N := 15) hx₀ hb hts inlX11 hown hK hP 1 rfl rfl 10 (by decide) (hts (.fieldLink RX11 74 "BittenStick" "comers" "[I") wd_47) (fun _ h9 => h9) rfl dX11_mostAlike_11 ?_
    refine va_alen (v := 25) hx₀ hb hK hP 0 0 rfl rfl rfl dX11_mostAlike_14 ?_
    refine lv_icmp_ge (tgt := 32) hx₀ hb dX11_mostAlike_15 (by decide) (fun c_15 => ?_) (fun c_15 => ?_)
    · refine lv_iconst (v := 0) hx₀ hb dX11_mostAlike_32 (by decide +kernel) ?_
      refine lv_istore (lv' := [(4, .int 0), (0, .ref hx), (1, .int f1), (2, .int p1), (3, .int so)]) hx₀ hb dX11_mostAlike_33 hl (by decide) rfl (fun ls hl => ?_)
      refine lv_iconst (v := 0) hx₀ hb dX11_mostAlike_35 (by decide +kernel) ?_
      refine lv_istore (lv' := [(5, .int 0), (4, .int 0), (0, .ref hx), (1, .int f1), (2, .int p1), (3, .int so)]) hx₀ hb dX11_mostAlike_36 hl (by decide) rfl (fun ls hl => ?_)
      refine (?keyz16 : ∀ (jz16 : Nat) (moz16 : Int32) (clz16 : Int32) (ygoez16 : Int32) (ycarz16 : Int32) (ykinz16 : Int32) (ysorz16 : Int32) (ybeaz16 : Int32) (yweiz16 : Int32) (yleaz16 : Int32) (yangz16 : Int32) (ycolz16 : Int32) (yendz16 : Int32) (pz16 : Nat) (qz16 : Nat) (w0z16 : Int32) (w1z16 : Int32) (w2z16 : Int32) (w3z16 : Int32) (z0z16 : Int32) (z1z16 : Int32) (z2z16 : Int32) (z3z16 : Int32) (qoz16 : Nat → Int32) (H : Heap) (locs : List Loc) (ls : Array Slot), (0 ≤ clz16 ∧ clz16 ≤ 6) → ((6 - clz16.toInt).toNat = jz16) → va_P (dC, dI) vwCl [(kAI vCo cI 25 qoz16), (kX11 hx aLa aPa aGe aFl aTr aBe aLu aLo vSf vSm vCo vSh xs xl xf), (kX10 aTr aLa aPa aGe gL gR pz16 qz16 ygoez16 ycarz16 ykinz16 ysorz16 ybeaz16 yweiz16 yleaz16 yangz16 ycolz16 yendz16), (kX3 gL w0z16 w1z16 w2z16 w3z16), (kX3 gR z0z16 z1z16 z2z16 z3z16), (kX4 aLa vLa l4 a4 n4), (kAI vLa cI 24 f4), (kX7 aPa vPa l7 a7 n7), (kAI vPa cI 39 f7), (kX2 aGe vGe l2 a2 n2), (kAI vGe cI 23 f2), (kX1 aFl vFl xn), (kAI vFl cI 32 ff)] H → va_D A [(kAI vCo cI 25 qoz16), (kX11 hx aLa aPa aGe aFl aTr aBe aLu aLo vSf vSm vCo vSh xs xl xf), (kX10 aTr aLa aPa aGe gL gR pz16 qz16 ygoez16 ycarz16 ykinz16 ysorz16 ybeaz16 yweiz16 yleaz16 yangz16 ycolz16 yendz16), (kX3 gL w0z16 w1z16 w2z16 w3z16), (kX3 gR z0z16 z1z16 z2z16 z3z16), (kX4 aLa vLa l4 a4 n4), (kAI vLa cI 24 f4), (kX7 aPa vPa l7 a7 n7), (kAI vPa cI 39 f7), (kX2 aGe vGe l2 a2 n2), (kAI vGe cI 23 f2), (kX1 aFl vFl xn), (kAI vFl cI 32 ff)] → va_S A s₀.heap H locs → lv_has ls 7 [(5, .int clz16), (4, .int moz16), (0, .ref hx), (1, .int f1), (2, .int p1), (3, .int so)] → W p₀ l e₀ _ s₀ m₀ _ below meth c₀ H locs _ _ _ (F0 m₀ 38 ls [])) _ (0 : Int32) (0 : Int32) (g_2 8) (g_2 9) (g_2 10) (g_2 11) (g_2 12) (g_2 13) (g_2 14) (g_2 15) (g_2 16) (g_2 17) (gp_6 0) (gp_6 1) (g_2 0) (g_2 1) (g_2 2) (g_2 3) (g_2 4) (g_2 5) (g_2 6) (g_2 7) _ H locs ls (show 0 ≤ (0 : Int32) ∧ (0 : Int32) ≤ 6 from ⟨(by decide), (by decide)⟩) rfl hP hD hS hl
      clear hP hD hS hl
      intro jz16
      induction jz16 using Nat.strongRecOn with
      | ind jz16 ihz16 =>
        intro moz16 clz16 ygoez16 ycarz16 ykinz16 ysorz16 ybeaz16 yweiz16 yleaz16 yangz16 ycolz16 yendz16 pz16 qz16 w0z16 w1z16 w2z16 w3z16 z0z16 z1z16 z2z16 z3z16 qoz16 H locs ls hiz16_0 hjz16 hP hD hS hl
        refine lv_iload hx₀ hb dX11_mostAlike_38 (lv_at hl 0 rfl) ?_
        refine lv_bipush (v := 6) hx₀ hb dX11_mostAlike_40 (by decide +kernel) ?_
        refine lv_icmp_ge (tgt := 139) hx₀ hb dX11_mostAlike_42 (by decide) (fun c_17 => ?_) (fun c_17 => ?_)
        · refine lv_iload hx₀ hb dX11_mostAlike_139 (lv_at hl 1 rfl) ?_
          obtain ⟨hP9, hD9⟩ := k_c2 (wc := [(kX11 hx aLa aPa aGe aFl aTr aBe aLu aLo vSf vSm vCo vSh xs xl xf), (kX10 aTr aLa aPa aGe gL gR pz16 qz16 ygoez16 ycarz16 ykinz16 ysorz16 ybeaz16 yweiz16 yleaz16 yangz16 ycolz16 yendz16), (kX3 gL w0z16 w1z16 w2z16 w3z16), (kX3 gR z0z16 z1z16 z2z16 z3z16), (kX4 aLa vLa l4 a4 n4), (kAI vLa cI 24 f4), (kX7 aPa vPa l7 a7 n7), (kAI vPa cI 39 f7), (kX2 aGe vGe l2 a2 n2), (kAI vGe cI 23 f2), (kX1 aFl vFl xn), (kAI vFl cI 32 ff), (kAI vCo cI 25 qoz16)]) hP hD [1, 2, 3, 4, 5, 6, 7, 8, 9, 10, 11, 12, 0] (by decide +kernel) rfl
          exact W.iret (v := moz16) hx₀ hb hr (fun t₀ ht hW => ⟨⟨moz16, (k_fn [w0z16, w1z16, w2z16, w3z16, z0z16, z1z16, z2z16, z3z16, ygoez16, ycarz16, ykinz16, ysorz16, ybeaz16, yweiz16, yleaz16, yangz16, ycolz16, yendz16], k_fa [qoz16], k_fl [], k_fL [], k_fp [pz16, qz16]), rfl, trivial, by rw [ht]; exact hP9, va_K.moved hW.alike hK, hD9⟩, hS.F ht⟩) hS.2.2 dX11_mostAlike_141
        · refine lv_iload_n hx₀ hb dX11_mostAlike_45 rfl (lv_at hl 5 rfl) ?_
          refine lv_iload hx₀ hb dX11_mostAlike_46 (lv_at hl 0 rfl) ?_
          refine lv_ishr hx₀ hb dX11_mostAlike_48 ?_
          refine lv_iconst (v := 1) hx₀ hb dX11_mostAlike_49 (by decide +kernel) ?_
          refine lv_iand hx₀ hb dX11_mostAlike_50 ?_
          refine lv_iconst (v := 1) hx₀ hb dX11_mostAlike_51 (by decide +kernel) ?_
          refine lv_icmp_ne (tgt := 133) hx₀ hb dX11_mostAlike_52 (by decide) (fun c_18 => ?_) (fun c_18 => ?_)
          · refine lv_iinc (v := clz16 + 1) (lv' := [(5, .int (clz16 + 1)), (4, .int moz16), (0, .ref hx), (1, .int f1), (2, .int p1), (3, .int so)]) hx₀ hb dX11_mostAlike_133 hl (k := 0) rfl rfl (by decide) rfl (fun ls hl => ?_)
            refine lv_goto (tgt := 38) hx₀ hb dX11_mostAlike_136 (by decide) ?_
            exact ihz16 _ (lf_j_sores_2 clz16 jz16 hiz16_0 hjz16 c_17) moz16 (clz16 + 1) ygoez16 ycarz16 ykinz16 ysorz16 ybeaz16 yweiz16 yleaz16 yangz16 ycolz16 yendz16 pz16 qz16 w0z16 w1z16 w2z16 w3z16 z0z16 z1z16 z2z16 z3z16 qoz16 _ _ _ (lf_j_sores_1 clz16 jz16 hiz16_0 hjz16 c_17) rfl (hP.sub [0, 1, 2, 3, 4, 5, 6, 7, 8, 9, 10, 11, 12] rfl) (hD.sub [0, 1, 2, 3, 4, 5, 6, 7, 8, 9, 10, 11, 12] (by decide +kernel) rfl) hS (lv_sub hl [0, 1, 2, 3, 4, 5] rfl)
          · refine lv_aload_n hx₀ hb dX11_mostAlike_55 rfl (lv_at hl 2 rfl) ?_
            refine va_get (D := (dC, dI)) (ci := 10) (v := .ref aFl) (C := RX11) (T := TX11) (N := 15) hx₀ hb hts inlX11 hown hK hP 1 rfl rfl 3 (by decide) (hts (.fieldLink RX11 33 "BittenStick" "flights" "LBittenStick$Flights;") wd_27) (fun _ h9 => h9) rfl dX11_mostAlike_56 ?_
            refine lv_iload_n hx₀ hb dX11_mostAlike_59 rfl (lv_at hl 3 rfl) ?_
            obtain ⟨hPc, hDc, hFc, hC⟩ := k_cw (wc := [(kX1 aFl vFl xn), (kAI vFl cI 32 ff)]) hP hD hS hA [11, 12] (by decide +kernel) rfl
            refine va_calli (va_runV (As := [.int f1]) (rest := []) ⟨hx₀, hb, hml, hown, hts⟩ (j_passengerOf l dC dI cI cJ cQ H.size aFl f1 vFl xn ff (hh1)) (cwV 1 hts (kGV wd_435 wd_432 wd_433 wd_434 wd_26) rfl rfl rfl (by decide +kernel) ⟨Nat.le_of_ble_eq_true rfl, Nat.le_of_ble_eq_true rfl⟩) (k_preV1 (q0 := 0) hK hPc hDc hN rfl) rfl rfl hl.1 rfl (lv_room (Nat.le_of_ble_eq_true rfl)) dX11_mostAlike_60 ⟨by decide +kernel, by decide +kernel⟩) hS (fun q _ h => hFc q h) hFc (fun r_19 u₀ t₀ H1 locs ht hvm hw hB hz1 hk1 hS => ?_)
            obtain ⟨hP1, hK1, hD1⟩ := hB
            rw [ht] at hP1
            have hJ := k_jn (wr := [(kAI vCo cI 25 qoz16), (kX11 hx aLa aPa aGe aFl aTr aBe aLu aLo vSf vSm vCo vSh xs xl xf), (kX10 aTr aLa aPa aGe gL gR pz16 qz16 ygoez16 ycarz16 ykinz16 ysorz16 ybeaz16 yweiz16 yleaz16 yangz16 ycolz16 yendz16), (kX3 gL w0z16 w1z16 w2z16 w3z16), (kX3 gR z0z16 z1z16 z2z16 z3z16), (kX4 aLa vLa l4 a4 n4), (kAI vLa cI 24 f4), (kX7 aPa vPa l7 a7 n7), (kAI vPa cI 39 f7), (kX2 aGe vGe l2 a2 n2), (kAI vGe cI 23 f2)]) (wt := [(kAI vCo cI 25 qoz16), (kX11 hx aLa aPa aGe aFl aTr aBe aLu aLo vSf vSm vCo vSh xs xl xf), (kX10 aTr aLa aPa aGe gL gR pz16 qz16 ygoez16 ycarz16 ykinz16 ysorz16 ybeaz16 yweiz16 yleaz16 yangz16 ycolz16 yendz16), (kX3 gL w0z16 w1z16 w2z16 w3z16), (kX3 gR z0z16 z1z16 z2z16 z3z16), (kX4 aLa vLa l4 a4 n4), (kAI vLa cI 24 f4), (kX7 aPa vPa l7 a7 n7), (kAI vPa cI 39 f7), (kX2 aGe vGe l2 a2 n2), (kAI vGe cI 23 f2), (kX1 aFl vFl xn), (kAI vFl cI 32 ff)]) hP hD hC [0, 1, 2, 3, 4, 5, 6, 7, 8, 9, 10] rfl (by decide +kernel) (by decide +kernel) hk1 hFc hP1 hD1 rfl
            clear hP hD hPc hDc hFc hC hP1 hD1 hK1 hz1 hk1 hvm ht
            obtain ⟨hP, hD⟩ := hJ
            generalize H1 = H at hP hS ⊢
            try dsimp only at hw
            refine k_topi (v := kIt xn ff f1 0) hw ?_
            refine lv_iload_n hx₀ hb dX11_mostAlike_63 rfl (lv_at hl 4 rfl) ?_
            refine lv_icmp_ne (tgt := 76) hx₀ hb dX11_mostAlike_64 (by decide) (fun c_20 => ?_) (fun c_20 => ?_)
            · refine lv_aload_n hx₀ hb dX11_mostAlike_76 rfl (lv_at hl 2 rfl) ?_
              refine va_get (D := (dC, dI)) (ci := 10) (v := .ref aTr) (C := RX11) (T := TX11) (N := 15) hx₀ hb hts inlX11 hown hK hP 1 rfl rfl 4 (by decide) (hts (.fieldLink RX11 42 "BittenStick" "trip" "LBittenStick$Trip;") wd_31) (fun _ h9 => h9) rfl dX11_mostAlike_77 ?_
              refine lv_aload_n hx₀ hb dX11_mostAlike_80 rfl (lv_at hl 2 rfl) ?_
              refine va_get (D := (dC, dI)) (ci := 10) (v := .ref aFl) (C := RX11) (T := TX11) (N := 15) hx₀ hb hts inlX11 hown hK hP 1 rfl rfl 3 (by decide) (hts (.fieldLink RX11 33 "BittenStick" "flights" "LBittenStick$Flights;") wd_27) (fun _ h9 => h9) rfl dX11_mostAlike_81 ?_
              refine lv_iload_n hx₀ hb dX11_mostAlike_84 rfl (lv_at hl 3 rfl) ?_
              obtain ⟨hPc, hDc, hFc, hC⟩ := k_cw (wc := [(kX1 aFl vFl xn), (kAI vFl cI 32 ff)]) hP hD hS hA [11, 12] (by decide +kernel) rfl
              refine va_calli (va_runV (As := [.int f1]) (rest := [.ref aTr]) ⟨hx₀, hb, hml, hown, hts⟩ (j_heightOf l dC dI cI cJ cQ H.size aFl f1 vFl xn ff (hh1)) (cwV 1 hts (kGV wd_491 wd_488 wd_489 wd_490 wd_26) rfl rfl rfl (by decide +kernel) ⟨Nat.le_of_ble_eq_true rfl, Nat.le_of_ble_eq_true rfl⟩) (k_preV1 (q0 := 0) hK hPc hDc hN rfl) rfl rfl hl.1 rfl (lv_room (Nat.le_of_ble_eq_true rfl)) dX11_mostAlike_85 ⟨by decide +kernel, by decide +kernel⟩) hS (fun q _ h => hFc q h) hFc (fun r_21 u₀ t₀ H1 locs ht hvm hw hB hz1 hk1 hS => ?_)
              obtain ⟨hP1, hK1, hD1⟩ := hB
              rw [ht] at hP1
              have hJ := k_jn (wr := [(kAI vCo cI 25 qoz16), (kX11 hx aLa aPa aGe aFl aTr aBe aLu aLo vSf vSm vCo vSh xs xl xf), (kX10 aTr aLa aPa aGe gL gR pz16 qz16 ygoez16 ycarz16 ykinz16 ysorz16 ybeaz16 yweiz16 yleaz16 yangz16 ycolz16 yendz16), (kX3 gL w0z16 w1z16 w2z16 w3z16), (kX3 gR z0z16 z1z16 z2z16 z3z16), (kX4 aLa vLa l4 a4 n4), (kAI vLa cI 24 f4), (kX7 aPa vPa l7 a7 n7), (kAI vPa cI 39 f7), (kX2 aGe vGe l2 a2 n2), (kAI vGe cI 23 f2)]) (wt := [(kAI vCo cI 25 qoz16), (kX11 hx aLa aPa aGe aFl aTr aBe aLu aLo vSf vSm vCo vSh xs xl xf), (kX10 aTr aLa aPa aGe gL gR pz16 qz16 ygoez16 ycarz16 ykinz16 ysorz16 ybeaz16 yweiz16 yleaz16 yangz16 ycolz16 yendz16), (kX3 gL w0z16 w1z16 w2z16 w3z16), (kX3 gR z0z16 z1z16 z2z16 z3z16), (kX4 aLa vLa l4 a4 n4), (kAI vLa cI 24 f4), (kX7 aPa vPa l7 a7 n7), (kAI vPa cI 39 f7), (kX2 aGe vGe l2 a2 n2), (kAI vGe cI 23 f2), (kX1 aFl vFl xn), (kAI vFl cI 32 ff)]) hP hD hC [0, 1, 2, 3, 4, 5, 6, 7, 8, 9, 10] rfl (by decide +kernel) (by decide +kernel) hk1 hFc hP1 hD1 rfl
              clear hP hD hPc hDc hFc hC hP1 hD1 hK1 hz1 hk1 hvm ht
              obtain ⟨hP, hD⟩ := hJ
              generalize H1 = H at hP hS ⊢
              try dsimp only at hw
              refine k_topi (v := kIt xn ff f1 3) hw ?_
              obtain ⟨hPc, hDc, hFc, hC⟩ := k_cw (wc := [(kX10 aTr aLa aPa aGe gL gR pz16 qz16 ygoez16 ycarz16 ykinz16 ysorz16 ybeaz16 yweiz16 yleaz16 yangz16 ycolz16 yendz16), (kX4 aLa vLa l4 a4 n4), (kAI vLa cI 24 f4)]) hP hD hS hA [2, 5, 6] (by decide +kernel) rfl
              refine va_calli (va_runV (As := [.int (kIt xn ff f1 3)]) (rest := []) ⟨hx₀, hb, hml, hown, hts⟩ (j_comesTo l dC dI cI cJ cQ H.size aTr (kIt xn ff f1 3) aLa aPa aGe gL gR pz16 qz16 ygoez16 ycarz16 ykinz16 ysorz16 ybeaz16 yweiz16 yleaz16 yangz16 ycolz16 yendz16 vLa l4 a4 n4 f4 (hh0)) (cwV 1 hts (kGV wd_495 wd_492 wd_493 wd_494 wd_30) rfl rfl rfl (by decide +kernel) ⟨Nat.le_of_ble_eq_true rfl, Nat.le_of_ble_eq_true rfl⟩) (k_preV9 (q0 := 0) hK hPc hDc hN rfl) rfl rfl hl.1 rfl (lv_room (Nat.le_of_ble_eq_true rfl)) dX11_mostAlike_88 ⟨by decide +kernel, by decide +kernel⟩) hS (fun q _ h => hFc q h) hFc (fun r_22 u₀ t₀ H1 locs ht hvm hw hB hz1 hk1 hS => ?_)
              obtain ⟨g_23, ga_24, gl_25, gb_26, gp_27⟩ := u₀
              obtain ⟨hP1, hK1, hD1⟩ := hB
              rw [ht] at hP1
              have hJ := k_jn (wr := [(kAI vCo cI 25 qoz16), (kX11 hx aLa aPa aGe aFl aTr aBe aLu aLo vSf vSm vCo vSh xs xl xf), (kX3 gL w0z16 w1z16 w2z16 w3z16), (kX3 gR z0z16 z1z16 z2z16 z3z16), (kX7 aPa vPa l7 a7 n7), (kAI vPa cI 39 f7), (kX2 aGe vGe l2 a2 n2), (kAI vGe cI 23 f2), (kX1 aFl vFl xn), (kAI vFl cI 32 ff)]) (wt := [(kAI vCo cI 25 qoz16), (kX11 hx aLa aPa aGe aFl aTr aBe aLu aLo vSf vSm vCo vSh xs xl xf), (kX3 gL w0z16 w1z16 w2z16 w3z16), (kX3 gR z0z16 z1z16 z2z16 z3z16), (kX7 aPa vPa l7 a7 n7), (kAI vPa cI 39 f7), (kX2 aGe vGe l2 a2 n2), (kAI vGe cI 23 f2), (kX1 aFl vFl xn), (kAI vFl cI 32 ff), (kX10 aTr aLa aPa aGe gL gR pz16 qz16 ygoez16 ycarz16 ykinz16 ysorz16 ybeaz16 yweiz16 yleaz16 (g_23 0) (g_23 1) (g_23 2)), (kX4 aLa vLa l4 a4 n4), (kAI vLa cI 24 f4)]) hP hD hC [0, 1, 3, 4, 7, 8, 9, 10, 11, 12] rfl (by decide +kernel) (by decide +kernel) hk1 hFc hP1 hD1 rfl
              clear hP hD hPc hDc hFc hC hP1 hD1 hK1 hz1 hk1 hvm ht
              obtain ⟨hP, hD⟩ := hJ
              generalize H1 = H at hP hS ⊢
              try dsimp only at hw
              obtain ⟨c_28, c_29, c_30, c_31⟩ := hw
              refine lv_istore (lv' := [(6, .int r_22), (5, .int clz16), (4, .int moz16), (0, .ref hx), (1, .int f1), (2, .int p1), (3, .int so)]) hx₀ hb dX11_mostAlike_91 hl (by decide) rfl (fun ls hl => ?_)
              refine lv_iload hx₀ hb dX11_mostAlike_93 (lv_at hl 0 rfl) ?_
              refine lv_if_lt (tgt := 133) hx₀ hb dX11_mostAlike_95 (by decide) (fun c_32 => ?_) (fun c_32 => ?_)
              · refine lv_iinc (v := clz16 + 1) (lv' := [(5, .int (clz16 + 1)), (6, .int r_22), (4, .int moz16), (0, .ref hx), (1, .int f1), (2, .int p1), (3, .int so)]) hx₀ hb dX11_mostAlike_133 hl (k := 1) rfl rfl (by decide) rfl (fun ls hl => ?_)
                refine lv_goto (tgt := 38) hx₀ hb dX11_mostAlike_136 (by decide) ?_
                exact ihz16 _ (lf_j_sores_2 clz16 jz16 hiz16_0 hjz16 c_17) moz16 (clz16 + 1) ygoez16 ycarz16 ykinz16 ysorz16 ybeaz16 yweiz16 yleaz16 (g_23 0) (g_23 1) (g_23 2) pz16 qz16 w0z16 w1z16 w2z16 w3z16 z0z16 z1z16 z2z16 z3z16 qoz16 _ _ _ (lf_j_sores_1 clz16 jz16 hiz16_0 hjz16 c_17) rfl (hP.sub [0, 1, 10, 2, 3, 11, 12, 4, 5, 6, 7, 8, 9] rfl) (hD.sub [0, 1, 10, 2, 3, 11, 12, 4, 5, 6, 7, 8, 9] (by decide +kernel) rfl) hS (lv_sub hl [0, 2, 3, 4, 5, 6] rfl)
              · refine lv_iload hx₀ hb dX11_mostAlike_98 (lv_at hl 0 rfl) ?_
                refine lv_aload_n hx₀ hb dX11_mostAlike_100 rfl (lv_at hl 3 rfl) ?_
                refine va_get (D := (dC, dI)) (ci := 10) (v := .ref vCo) (C := RX11) (T := TX11) (N := 15) hx₀ hb hts inlX11 hown hK hP 1 rfl rfl 10 (by decide) (hts (.fieldLink RX11 74 "BittenStick" "comers" "[I") wd_47) (fun _ h9 => h9) rfl dX11_mostAlike_101 ?_
                refine va_alen (v := 25) hx₀ hb hK hP 0 0 rfl rfl rfl dX11_mostAlike_104 ?_
                refine lv_icmp_ge (tgt := 133) hx₀ hb dX11_mostAlike_105 (by decide) (fun c_33 => ?_) (fun c_33 => ?_)
                · refine lv_iinc (v := clz16 + 1) (lv' := [(5, .int (clz16 + 1)), (6, .int r_22), (4, .int moz16), (0, .ref hx), (1, .int f1), (2, .int p1), (3, .int so)]) hx₀ hb dX11_mostAlike_133 hl (k := 1) rfl rfl (by decide) rfl (fun ls hl => ?_)
                  refine lv_goto (tgt := 38) hx₀ hb dX11_mostAlike_136 (by decide) ?_
                  exact ihz16 _ (lf_j_sores_2 clz16 jz16 hiz16_0 hjz16 c_17) moz16 (clz16 + 1) ygoez16 ycarz16 ykinz16 ysorz16 ybeaz16 yweiz16 yleaz16 (g_23 0) (g_23 1) (g_23 2) pz16 qz16 w0z16 w1z16 w2z16 w3z16 z0z16 z1z16 z2z16 z3z16 qoz16 _ _ _ (lf_j_sores_1 clz16 jz16 hiz16_0 hjz16 c_17) rfl (hP.sub [0, 1, 10, 2, 3, 11, 12, 4, 5, 6, 7, 8, 9] rfl) (hD.sub [0, 1, 10, 2, 3, 11, 12, 4, 5, 6, 7, 8, 9] (by decide +kernel) rfl) hS (lv_sub hl [0, 2, 3, 4, 5, 6] rfl)
                · refine lv_aload_n hx₀ hb dX11_mostAlike_108 rfl (lv_at hl 3 rfl) ?_
                  refine va_get (D := (dC, dI)) (ci := 10) (v := .ref vCo) (C := RX11) (T := TX11) (N := 15) hx₀ hb hts inlX11 hown hK hP 1 rfl rfl 10 (by decide) (hts (.fieldLink RX11 74 "BittenStick" "comers" "[I") wd_47) (fun _ h9 => h9) rfl dX11_mostAlike_109 ?_
                  refine lv_iload hx₀ hb dX11_mostAlike_112 (lv_at hl 0 rfl) ?_
                  refine lv_dup2_11 hx₀ hb dX11_mostAlike_114 rfl rfl ?_
                  refine va_iald hx₀ hb hK hP 0 0 rfl rfl (vp_in_iff.mpr (lf_j_mostAlike_1 r_22 c_32 c_33)) dX11_mostAlike_115 ?_
                  refine lv_topi (fun y_34 ey_34 => ?_)
                  refine lv_iconst (v := 1) hx₀ hb dX11_mostAlike_116 (by decide +kernel) ?_
                  refine lv_iadd hx₀ hb dX11_mostAlike_117 ?_
                  refine va_iast hx₀ hb hK hP hD hS 0 0 rfl rfl (vp_in_iff.mpr (lf_j_mostAlike_1 r_22 c_32 c_33)) dX11_mostAlike_118 ?_
                  clear hP hD hS
                  intro H locs hP hD hS
                  obtain ⟨f_35, hf_35⟩ : ∃ z : Nat → Int32, z = upd qoz16 r_22.toNatClampNeg (y_34 + 1) := ⟨_, rfl⟩
                  replace hP : va_P (dC, dI) vwCl [(kAI vCo cI 25 f_35), (kX11 hx aLa aPa aGe aFl aTr aBe aLu aLo vSf vSm vCo vSh xs xl xf), (kX3 gL w0z16 w1z16 w2z16 w3z16), (kX3 gR z0z16 z1z16 z2z16 z3z16), (kX7 aPa vPa l7 a7 n7), (kAI vPa cI 39 f7), (kX2 aGe vGe l2 a2 n2), (kAI vGe cI 23 f2), (kX1 aFl vFl xn), (kAI vFl cI 32 ff), (kX10 aTr aLa aPa aGe gL gR pz16 qz16 ygoez16 ycarz16 ykinz16 ysorz16 ybeaz16 yweiz16 yleaz16 (g_23 0) (g_23 1) (g_23 2)), (kX4 aLa vLa l4 a4 n4), (kAI vLa cI 24 f4)] H := by rw [hf_35]; exact hP
                  replace hD : va_D A [(kAI vCo cI 25 f_35), (kX11 hx aLa aPa aGe aFl aTr aBe aLu aLo vSf vSm vCo vSh xs xl xf), (kX3 gL w0z16 w1z16 w2z16 w3z16), (kX3 gR z0z16 z1z16 z2z16 z3z16), (kX7 aPa vPa l7 a7 n7), (kAI vPa cI 39 f7), (kX2 aGe vGe l2 a2 n2), (kAI vGe cI 23 f2), (kX1 aFl vFl xn), (kAI vFl cI 32 ff), (kX10 aTr aLa aPa aGe gL gR pz16 qz16 ygoez16 ycarz16 ykinz16 ysorz16 ybeaz16 yweiz16 yleaz16 (g_23 0) (g_23 1) (g_23 2)), (kX4 aLa vLa l4 a4 n4), (kAI vLa cI 24 f4)] := by rw [hf_35]; exact hD
                  clear hf_35
                  refine lv_iload hx₀ hb dX11_mostAlike_119 (lv_at hl 2 rfl) ?_
                  refine lv_aload_n hx₀ hb dX11_mostAlike_121 rfl (lv_at hl 3 rfl) ?_
                  refine va_get (D := (dC, dI)) (ci := 10) (v := .ref vCo) (C := RX11) (T := TX11) (N := 15) hx₀ hb hts inlX11 hown hK hP 1 rfl rfl 10 (by decide) (hts (.fieldLink RX11 74 "BittenStick" "comers" "[I") wd_47) (fun _ h9 => h9) rfl dX11_mostAlike_122 ?_
                  refine lv_iload hx₀ hb dX11_mostAlike_125 (lv_at hl 0 rfl) ?_
                  refine va_iald hx₀ hb hK hP 0 0 rfl rfl (vp_in_iff.mpr (lf_j_mostAlike_1 r_22 c_32 c_33)) dX11_mostAlike_127 ?_
                  refine lv_topi (fun y_36 ey_36 => ?_)
                  refine va_mmax hx₀ hb (by rw [hml]; exact hl.1.symm) hown (hts (.methodLink RX11 366 Lib.Math.max.name) wd_747) (hts (.static Lib.Math.max.name) wd_62) (hts (.initialized "java/lang/Math") wd_63) (hts (.code Lib.Math.max.name Lib.Math.max.code 2 (some .int)) wd_64) (by decide) (Nat.le_of_ble_eq_true rfl) (by decide) (by decide) dX11_mostAlike_128 ?_
                  by_cases c_37 : moz16 < y_36
                  · refine k_topi (v := y_36) (if_pos c_37) ?_
                    refine lv_istore (lv' := [(4, .int y_36), (6, .int r_22), (5, .int clz16), (0, .ref hx), (1, .int f1), (2, .int p1), (3, .int so)]) hx₀ hb dX11_mostAlike_131 hl (by decide) rfl (fun ls hl => ?_)
                    refine lv_iinc (v := clz16 + 1) (lv' := [(5, .int (clz16 + 1)), (4, .int y_36), (6, .int r_22), (0, .ref hx), (1, .int f1), (2, .int p1), (3, .int so)]) hx₀ hb dX11_mostAlike_133 hl (k := 2) rfl rfl (by decide) rfl (fun ls hl => ?_)
                    refine lv_goto (tgt := 38) hx₀ hb dX11_mostAlike_136 (by decide) ?_
                    exact ihz16 _ (lf_j_sores_2 clz16 jz16 hiz16_0 hjz16 c_17) y_36 (clz16 + 1) ygoez16 ycarz16 ykinz16 ysorz16 ybeaz16 yweiz16 yleaz16 (g_23 0) (g_23 1) (g_23 2) pz16 qz16 w0z16 w1z16 w2z16 w3z16 z0z16 z1z16 z2z16 z3z16 f_35 _ _ _ (lf_j_sores_1 clz16 jz16 hiz16_0 hjz16 c_17) rfl (hP.sub [0, 1, 10, 2, 3, 11, 12, 4, 5, 6, 7, 8, 9] rfl) (hD.sub [0, 1, 10, 2, 3, 11, 12, 4, 5, 6, 7, 8, 9] (by decide +kernel) rfl) hS (lv_sub hl [0, 1, 3, 4, 5, 6] rfl)
                  refine k_topi (v := moz16) (if_neg c_37) ?_
                  refine lv_istore (lv' := [(4, .int moz16), (6, .int r_22), (5, .int clz16), (0, .ref hx), (1, .int f1), (2, .int p1), (3, .int so)]) hx₀ hb dX11_mostAlike_131 hl (by decide) rfl (fun ls hl => ?_)
                  refine lv_iinc (v := clz16 + 1) (lv' := [(5, .int (clz16 + 1)), (4, .int moz16), (6, .int r_22), (0, .ref hx), (1, .int f1), (2, .int p1), (3, .int so)]) hx₀ hb dX11_mostAlike_133 hl (k := 2) rfl rfl (by decide) rfl (fun ls hl => ?_)
                  refine lv_goto (tgt := 38) hx₀ hb dX11_mostAlike_136 (by decide) ?_
                  exact ihz16 _ (lf_j_sores_2 clz16 jz16 hiz16_0 hjz16 c_17) moz16 (clz16 + 1) ygoez16 ycarz16 ykinz16 ysorz16 ybeaz16 yweiz16 yleaz16 (g_23 0) (g_23 1) (g_23 2) pz16 qz16 w0z16 w1z16 w2z16 w3z16 z0z16 z1z16 z2z16 z3z16 f_35 _ _ _ (lf_j_sores_1 clz16 jz16 hiz16_0 hjz16 c_17) rfl (hP.sub [0, 1, 10, 2, 3, 11, 12, 4, 5, 6, 7, 8, 9] rfl) (hD.sub [0, 1, 10, 2, 3, 11, 12, 4, 5, 6, 7, 8, 9] (by decide +kernel) rfl) hS (lv_sub hl [0, 1, 3, 4, 5, 6] rfl)
            · refine lv_aload_n hx₀ hb dX11_mostAlike_67 rfl (lv_at hl 2 rfl) ?_
              refine va_get (D := (dC, dI)) (ci := 10) (v := .ref aTr) (C := RX11) (T := TX11) (N := 15) hx₀ hb hts inlX11 hown hK hP 1 rfl rfl 4 (by decide) (hts (.fieldLink RX11 42 "BittenStick" "trip" "LBittenStick$Trip;") wd_31) (fun _ h9 => h9) rfl dX11_mostAlike_68 ?_
              refine lv_iload hx₀ hb dX11_mostAlike_71 (lv_at hl 0 rfl) ?_
              refine va_put (D := (dC, dI)) (ci := 9) (v := .int clz16) (ty := .int) (C := RX10) (T := TX10) (N := 17) hx₀ hb hts inlX10 tyX10 tyX10_ok nmX10 hown hK hP hD hS 2 rfl rfl 10 (by decide) (hts (.fieldLink RX11 363 "BittenStick$Trip" "sore" "I") wd_713) (fun _ h9 => h9) rfl (by decide +kernel) rfl rfl (Nat.le_of_ble_eq_true rfl) dX11_mostAlike_73 ?_
              clear hP hD hS
              intro H locs hP hD hS
              replace hP := k_w2 (wt := [(kAI vCo cI 25 qoz16), (kX11 hx aLa aPa aGe aFl aTr aBe aLu aLo vSf vSm vCo vSh xs xl xf), (kX10 aTr aLa aPa aGe gL gR pz16 qz16 ygoez16 ycarz16 ykinz16 clz16 ybeaz16 yweiz16 yleaz16 yangz16 ycolz16 yendz16), (kX3 gL w0z16 w1z16 w2z16 w3z16), (kX3 gR z0z16 z1z16 z2z16 z3z16), (kX4 aLa vLa l4 a4 n4), (kAI vLa cI 24 f4), (kX7 aPa vPa l7 a7 n7), (kAI vPa cI 39 f7), (kX2 aGe vGe l2 a2 n2), (kAI vGe cI 23 f2), (kX1 aFl vFl xn), (kAI vFl cI 32 ff)]) hP hD rfl
              replace hD := hP.2
              replace hP := hP.1
              refine lv_aload_n hx₀ hb dX11_mostAlike_76 rfl (lv_at hl 2 rfl) ?_
              refine va_get (D := (dC, dI)) (ci := 10) (v := .ref aTr) (C := RX11) (T := TX11) (N := 15) hx₀ hb hts inlX11 hown hK hP 1 rfl rfl 4 (by decide) (hts (.fieldLink RX11 42 "BittenStick" "trip" "LBittenStick$Trip;") wd_31) (fun _ h9 => h9) rfl dX11_mostAlike_77 ?_
              refine lv_aload_n hx₀ hb dX11_mostAlike_80 rfl (lv_at hl 2 rfl) ?_
              refine va_get (D := (dC, dI)) (ci := 10) (v := .ref aFl) (C := RX11) (T := TX11) (N := 15) hx₀ hb hts inlX11 hown hK hP 1 rfl rfl 3 (by decide) (hts (.fieldLink RX11 33 "BittenStick" "flights" "LBittenStick$Flights;") wd_27) (fun _ h9 => h9) rfl dX11_mostAlike_81 ?_
              refine lv_iload_n hx₀ hb dX11_mostAlike_84 rfl (lv_at hl 3 rfl) ?_
              obtain ⟨hPc, hDc, hFc, hC⟩ := k_cw (wc := [(kX1 aFl vFl xn), (kAI vFl cI 32 ff)]) hP hD hS hA [11, 12] (by decide +kernel) rfl
              refine va_calli (va_runV (As := [.int f1]) (rest := [.ref aTr]) ⟨hx₀, hb, hml, hown, hts⟩ (j_heightOf l dC dI cI cJ cQ H.size aFl f1 vFl xn ff (hh1)) (cwV 1 hts (kGV wd_491 wd_488 wd_489 wd_490 wd_26) rfl rfl rfl (by decide +kernel) ⟨Nat.le_of_ble_eq_true rfl, Nat.le_of_ble_eq_true rfl⟩) (k_preV1 (q0 := 0) hK hPc hDc hN rfl) rfl rfl hl.1 rfl (lv_room (Nat.le_of_ble_eq_true rfl)) dX11_mostAlike_85 ⟨by decide +kernel, by decide +kernel⟩) hS (fun q _ h => hFc q h) hFc (fun r_38 u₀ t₀ H1 locs ht hvm hw hB hz1 hk1 hS => ?_)
              obtain ⟨hP1, hK1, hD1⟩ := hB
              rw [ht] at hP1
              have hJ := k_jn (wr := [(kAI vCo cI 25 qoz16), (kX11 hx aLa aPa aGe aFl aTr aBe aLu aLo vSf vSm vCo vSh xs xl xf), (kX10 aTr aLa aPa aGe gL gR pz16 qz16 ygoez16 ycarz16 ykinz16 clz16 ybeaz16 yweiz16 yleaz16 yangz16 ycolz16 yendz16), (kX3 gL w0z16 w1z16 w2z16 w3z16), (kX3 gR z0z16 z1z16 z2z16 z3z16), (kX4 aLa vLa l4 a4 n4), (kAI vLa cI 24 f4), (kX7 aPa vPa l7 a7 n7), (kAI vPa cI 39 f7), (kX2 aGe vGe l2 a2 n2), (kAI vGe cI 23 f2)]) (wt := [(kAI vCo cI 25 qoz16), (kX11 hx aLa aPa aGe aFl aTr aBe aLu aLo vSf vSm vCo vSh xs xl xf), (kX10 aTr aLa aPa aGe gL gR pz16 qz16 ygoez16 ycarz16 ykinz16 clz16 ybeaz16 yweiz16 yleaz16 yangz16 ycolz16 yendz16), (kX3 gL w0z16 w1z16 w2z16 w3z16), (kX3 gR z0z16 z1z16 z2z16 z3z16), (kX4 aLa vLa l4 a4 n4), (kAI vLa cI 24 f4), (kX7 aPa vPa l7 a7 n7), (kAI vPa cI 39 f7), (kX2 aGe vGe l2 a2 n2), (kAI vGe cI 23 f2), (kX1 aFl vFl xn), (kAI vFl cI 32 ff)]) hP hD hC [0, 1, 2, 3, 4, 5, 6, 7, 8, 9, 10] rfl (by decide +kernel) (by decide +kernel) hk1 hFc hP1 hD1 rfl
              clear hP hD hPc hDc hFc hC hP1 hD1 hK1 hz1 hk1 hvm ht
              obtain ⟨hP, hD⟩ := hJ
              generalize H1 = H at hP hS ⊢
              try dsimp only at hw
              refine k_topi (v := kIt xn ff f1 3) hw ?_
              obtain ⟨hPc, hDc, hFc, hC⟩ := k_cw (wc := [(kX10 aTr aLa aPa aGe gL gR pz16 qz16 ygoez16 ycarz16 ykinz16 clz16 ybeaz16 yweiz16 yleaz16 yangz16 ycolz16 yendz16), (kX4 aLa vLa l4 a4 n4), (kAI vLa cI 24 f4)]) hP hD hS hA [2, 5, 6] (by decide +kernel) rfl
              refine va_calli (va_runV (As := [.int (kIt xn ff f1 3)]) (rest := []) ⟨hx₀, hb, hml, hown, hts⟩ (j_comesTo l dC dI cI cJ cQ H.size aTr (kIt xn ff f1 3) aLa aPa aGe gL gR pz16 qz16 ygoez16 ycarz16 ykinz16 clz16 ybeaz16 yweiz16 yleaz16 yangz16 ycolz16 yendz16 vLa l4 a4 n4 f4 (hh0)) (cwV 1 hts (kGV wd_495 wd_492 wd_493 wd_494 wd_30) rfl rfl rfl (by decide +kernel) ⟨Nat.le_of_ble_eq_true rfl, Nat.le_of_ble_eq_true rfl⟩) (k_preV9 (q0 := 0) hK hPc hDc hN rfl) rfl rfl hl.1 rfl (lv_room (Nat.le_of_ble_eq_true rfl)) dX11_mostAlike_88 ⟨by decide +kernel, by decide +kernel⟩) hS (fun q _ h => hFc q h) hFc (fun r_39 u₀ t₀ H1 locs ht hvm hw hB hz1 hk1 hS => ?_)
              obtain ⟨g_40, ga_41, gl_42, gb_43, gp_44⟩ := u₀
              obtain ⟨hP1, hK1, hD1⟩ := hB
              rw [ht] at hP1
              have hJ := k_jn (wr := [(kAI vCo cI 25 qoz16), (kX11 hx aLa aPa aGe aFl aTr aBe aLu aLo vSf vSm vCo vSh xs xl xf), (kX3 gL w0z16 w1z16 w2z16 w3z16), (kX3 gR z0z16 z1z16 z2z16 z3z16), (kX7 aPa vPa l7 a7 n7), (kAI vPa cI 39 f7), (kX2 aGe vGe l2 a2 n2), (kAI vGe cI 23 f2), (kX1 aFl vFl xn), (kAI vFl cI 32 ff)]) (wt := [(kAI vCo cI 25 qoz16), (kX11 hx aLa aPa aGe aFl aTr aBe aLu aLo vSf vSm vCo vSh xs xl xf), (kX3 gL w0z16 w1z16 w2z16 w3z16), (kX3 gR z0z16 z1z16 z2z16 z3z16), (kX7 aPa vPa l7 a7 n7), (kAI vPa cI 39 f7), (kX2 aGe vGe l2 a2 n2), (kAI vGe cI 23 f2), (kX1 aFl vFl xn), (kAI vFl cI 32 ff), (kX10 aTr aLa aPa aGe gL gR pz16 qz16 ygoez16 ycarz16 ykinz16 clz16 ybeaz16 yweiz16 yleaz16 (g_40 0) (g_40 1) (g_40 2)), (kX4 aLa vLa l4 a4 n4), (kAI vLa cI 24 f4)]) hP hD hC [0, 1, 3, 4, 7, 8, 9, 10, 11, 12] rfl (by decide +kernel) (by decide +kernel) hk1 hFc hP1 hD1 rfl
              clear hP hD hPc hDc hFc hC hP1 hD1 hK1 hz1 hk1 hvm ht
              obtain ⟨hP, hD⟩ := hJ
              generalize H1 = H at hP hS ⊢
              try dsimp only at hw
              obtain ⟨c_45, c_46, c_47, c_48⟩ := hw
              refine lv_istore (lv' := [(6, .int r_39), (5, .int clz16), (4, .int moz16), (0, .ref hx), (1, .int f1), (2, .int p1), (3, .int so)]) hx₀ hb dX11_mostAlike_91 hl (by decide) rfl (fun ls hl => ?_)
              refine lv_iload hx₀ hb dX11_mostAlike_93 (lv_at hl 0 rfl) ?_
              refine lv_if_lt (tgt := 133) hx₀ hb dX11_mostAlike_95 (by decide) (fun c_49 => ?_) (fun c_49 => ?_)
              · refine lv_iinc (v := clz16 + 1) (lv' := [(5, .int (clz16 + 1)), (6, .int r_39), (4, .int moz16), (0, .ref hx), (1, .int f1), (2, .int p1), (3, .int so)]) hx₀ hb dX11_mostAlike_133 hl (k := 1) rfl rfl (by decide) rfl (fun ls hl => ?_)
                refine lv_goto (tgt := 38) hx₀ hb dX11_mostAlike_136 (by decide) ?_
                exact ihz16 _ (lf_j_sores_2 clz16 jz16 hiz16_0 hjz16 c_17) moz16 (clz16 + 1) ygoez16 ycarz16 ykinz16 clz16 ybeaz16 yweiz16 yleaz16 (g_40 0) (g_40 1) (g_40 2) pz16 qz16 w0z16 w1z16 w2z16 w3z16 z0z16 z1z16 z2z16 z3z16 qoz16 _ _ _ (lf_j_sores_1 clz16 jz16 hiz16_0 hjz16 c_17) rfl (hP.sub [0, 1, 10, 2, 3, 11, 12, 4, 5, 6, 7, 8, 9] rfl) (hD.sub [0, 1, 10, 2, 3, 11, 12, 4, 5, 6, 7, 8, 9] (by decide +kernel) rfl) hS (lv_sub hl [0, 2, 3, 4, 5, 6] rfl)
              · refine lv_iload hx₀ hb dX11_mostAlike_98 (lv_at hl 0 rfl) ?_
                refine lv_aload_n hx₀ hb dX11_mostAlike_100 rfl (lv_at hl 3 rfl) ?_
                refine va_get (D := (dC, dI)) (ci := 10) (v := .ref vCo) (C := RX11) (T := TX11) (N := 15) hx₀ hb hts inlX11 hown hK hP 1 rfl rfl 10 (by decide) (hts (.fieldLink RX11 74 "BittenStick" "comers" "[I") wd_47) (fun _ h9 => h9) rfl dX11_mostAlike_101 ?_
                refine va_alen (v := 25) hx₀ hb hK hP 0 0 rfl rfl rfl dX11_mostAlike_104 ?_
                refine lv_icmp_ge (tgt := 133) hx₀ hb dX11_mostAlike_105 (by decide) (fun c_50 => ?_) (fun c_50 => ?_)
                · refine lv_iinc (v := clz16 + 1) (lv' := [(5, .int (clz16 + 1)), (6, .int r_39), (4, .int moz16), (0, .ref hx), (1, .int f1), (2, .int p1), (3, .int so)]) hx₀ hb dX11_mostAlike_133 hl (k := 1) rfl rfl (by decide) rfl (fun ls hl => ?_)
                  refine lv_goto (tgt := 38) hx₀ hb dX11_mostAlike_136 (by decide) ?_
                  exact ihz16 _ (lf_j_sores_2 clz16 jz16 hiz16_0 hjz16 c_17) moz16 (clz16 + 1) ygoez16 ycarz16 ykinz16 clz16 ybeaz16 yweiz16 yleaz16 (g_40 0) (g_40 1) (g_40 2) pz16 qz16 w0z16 w1z16 w2z16 w3z16 z0z16 z1z16 z2z16 z3z16 qoz16 _ _ _ (lf_j_sores_1 clz16 jz16 hiz16_0 hjz16 c_17) rfl (hP.sub [0, 1, 10, 2, 3, 11, 12, 4, 5, 6, 7, 8, 9] rfl) (hD.sub [0, 1, 10, 2, 3, 11, 12, 4, 5, 6, 7, 8, 9] (by decide +kernel) rfl) hS (lv_sub hl [0, 2, 3, 4, 5, 6] rfl)
                · refine lv_aload_n hx₀ hb dX11_mostAlike_108 rfl (lv_at hl 3 rfl) ?_
                  refine va_get (D := (dC, dI)) (ci := 10) (v := .ref vCo) (C := RX11) (T := TX11) (N := 15) hx₀ hb hts inlX11 hown hK hP 1 rfl rfl 10 (by decide) (hts (.fieldLink RX11 74 "BittenStick" "comers" "[I") wd_47) (fun _ h9 => h9) rfl dX11_mostAlike_109 ?_
                  refine lv_iload hx₀ hb dX11_mostAlike_112 (lv_at hl 0 rfl) ?_
                  refine lv_dup2_11 hx₀ hb dX11_mostAlike_114 rfl rfl ?_
                  refine va_iald hx₀ hb hK hP 0 0 rfl rfl (vp_in_iff.mpr (lf_j_mostAlike_1 r_39 c_49 c_50)) dX11_mostAlike_115 ?_
                  refine lv_topi (fun y_51 ey_51 => ?_)
                  refine lv_iconst (v := 1) hx₀ hb dX11_mostAlike_116 (by decide +kernel) ?_
                  refine lv_iadd hx₀ hb dX11_mostAlike_117 ?_
                  refine va_iast hx₀ hb hK hP hD hS 0 0 rfl rfl (vp_in_iff.mpr (lf_j_mostAlike_1 r_39 c_49 c_50)) dX11_mostAlike_118 ?_
                  clear hP hD hS
                  intro H locs hP hD hS
                  obtain ⟨f_52, hf_52⟩ : ∃ z : Nat → Int32, z = upd qoz16 r_39.toNatClampNeg (y_51 + 1) := ⟨_, rfl⟩
                  replace hP : va_P (dC, dI) vwCl [(kAI vCo cI 25 f_52), (kX11 hx aLa aPa aGe aFl aTr aBe aLu aLo vSf vSm vCo vSh xs xl xf), (kX3 gL w0z16 w1z16 w2z16 w3z16), (kX3 gR z0z16 z1z16 z2z16 z3z16), (kX7 aPa vPa l7 a7 n7), (kAI vPa cI 39 f7), (kX2 aGe vGe l2 a2 n2), (kAI vGe cI 23 f2), (kX1 aFl vFl xn), (kAI vFl cI 32 ff), (kX10 aTr aLa aPa aGe gL gR pz16 qz16 ygoez16 ycarz16 ykinz16 clz16 ybeaz16 yweiz16 yleaz16 (g_40 0) (g_40 1) (g_40 2)), (kX4 aLa vLa l4 a4 n4), (kAI vLa cI 24 f4)] H := by rw [hf_52]; exact hP
                  replace hD : va_D A [(kAI vCo cI 25 f_52), (kX11 hx aLa aPa aGe aFl aTr aBe aLu aLo vSf vSm vCo vSh xs xl xf), (kX3 gL w0z16 w1z16 w2z16 w3z16), (kX3 gR z0z16 z1z16 z2z16 z3z16), (kX7 aPa vPa l7 a7 n7), (kAI vPa cI 39 f7), (kX2 aGe vGe l2 a2 n2), (kAI vGe cI 23 f2), (kX1 aFl vFl xn), (kAI vFl cI 32 ff), (kX10 aTr aLa aPa aGe gL gR pz16 qz16 ygoez16 ycarz16 ykinz16 clz16 ybeaz16 yweiz16 yleaz16 (g_40 0) (g_40 1) (g_40 2)), (kX4 aLa vLa l4 a4 n4), (kAI vLa cI 24 f4)] := by rw [hf_52]; exact hD
                  clear hf_52
                  refine lv_iload hx₀ hb dX11_mostAlike_119 (lv_at hl 2 rfl) ?_
                  refine lv_aload_n hx₀ hb dX11_mostAlike_121 rfl (lv_at hl 3 rfl) ?_
                  refine va_get (D := (dC, dI)) (ci := 10) (v := .ref vCo) (C := RX11) (T := TX11) (N := 15) hx₀ hb hts inlX11 hown hK hP 1 rfl rfl 10 (by decide) (hts (.fieldLink RX11 74 "BittenStick" "comers" "[I") wd_47) (fun _ h9 => h9) rfl dX11_mostAlike_122 ?_
                  refine lv_iload hx₀ hb dX11_mostAlike_125 (lv_at hl 0 rfl) ?_
                  refine va_iald hx₀ hb hK hP 0 0 rfl rfl (vp_in_iff.mpr (lf_j_mostAlike_1 r_39 c_49 c_50)) dX11_mostAlike_127 ?_
                  refine lv_topi (fun y_53 ey_53 => ?_)
                  refine va_mmax hx₀ hb (by rw [hml]; exact hl.1.symm) hown (hts (.methodLink RX11 366 Lib.Math.max.name) wd_747) (hts (.static Lib.Math.max.name) wd_62) (hts (.initialized "java/lang/Math") wd_63) (hts (.code Lib.Math.max.name Lib.Math.max.code 2 (some .int)) wd_64) (by decide) (Nat.le_of_ble_eq_true rfl) (by decide) (by decide) dX11_mostAlike_128 ?_
                  by_cases c_54 : moz16 < y_53
                  · refine k_topi (v := y_53) (if_pos c_54) ?_
                    refine lv_istore (lv' := [(4, .int y_53), (6, .int r_39), (5, .int clz16), (0, .ref hx), (1, .int f1), (2, .int p1), (3, .int so)]) hx₀ hb dX11_mostAlike_131 hl (by decide) rfl (fun ls hl => ?_)
                    refine lv_iinc (v := clz16 + 1) (lv' := [(5, .int (clz16 + 1)), (4, .int y_53), (6, .int r_39), (0, .ref hx), (1, .int f1), (2, .int p1), (3, .int so)]) hx₀ hb dX11_mostAlike_133 hl (k := 2) rfl rfl (by decide) rfl (fun ls hl => ?_)
                    refine lv_goto (tgt := 38) hx₀ hb dX11_mostAlike_136 (by decide) ?_
                    exact ihz16 _ (lf_j_sores_2 clz16 jz16 hiz16_0 hjz16 c_17) y_53 (clz16 + 1) ygoez16 ycarz16 ykinz16 clz16 ybeaz16 yweiz16 yleaz16 (g_40 0) (g_40 1) (g_40 2) pz16 qz16 w0z16 w1z16 w2z16 w3z16 z0z16 z1z16 z2z16 z3z16 f_52 _ _ _ (lf_j_sores_1 clz16 jz16 hiz16_0 hjz16 c_17) rfl (hP.sub [0, 1, 10, 2, 3, 11, 12, 4, 5, 6, 7, 8, 9] rfl) (hD.sub [0, 1, 10, 2, 3, 11, 12, 4, 5, 6, 7, 8, 9] (by decide +kernel) rfl) hS (lv_sub hl [0, 1, 3, 4, 5, 6] rfl)
                  refine k_topi (v := moz16) (if_neg c_54) ?_
                  refine lv_istore (lv' := [(4, .int moz16), (6, .int r_39), (5, .int clz16), (0, .ref hx), (1, .int f1), (2, .int p1), (3, .int so)]) hx₀ hb dX11_mostAlike_131 hl (by decide) rfl (fun ls hl => ?_)
                  refine lv_iinc (v := clz16 + 1) (lv' := [(5, .int (clz16 + 1)), (4, .int moz16), (6, .int r_39), (0, .ref hx), (1, .int f1), (2, .int p1), (3, .int so)]) hx₀ hb dX11_mostAlike_133 hl (k := 2) rfl rfl (by decide) rfl (fun ls hl => ?_)
                  refine lv_goto (tgt := 38) hx₀ hb dX11_mostAlike_136 (by decide) ?_
                  exact ihz16 _ (lf_j_sores_2 clz16 jz16 hiz16_0 hjz16 c_17) moz16 (clz16 + 1) ygoez16 ycarz16 ykinz16 clz16 ybeaz16 yweiz16 yleaz16 (g_40 0) (g_40 1) (g_40 2) pz16 qz16 w0z16 w1z16 w2z16 w3z16 z0z16 z1z16 z2z16 z3z16 f_52 _ _ _ (lf_j_sores_1 clz16 jz16 hiz16_0 hjz16 c_17) rfl (hP.sub [0, 1, 10, 2, 3, 11, 12, 4, 5, 6, 7, 8, 9] rfl) (hD.sub [0, 1, 10, 2, 3, 11, 12, 4, 5, 6, 7, 8, 9] (by decide +kernel) rfl) hS (lv_sub hl [0, 1, 3, 4, 5, 6] rfl)
    · refine lv_aload_n hx₀ hb dX11_mostAlike_18 rfl (lv_at hl 1 rfl) ?_
      refine va_get (D := (dC, dI)) (ci := 10) (v := .ref vCo) (C := RX11) (T := TX11) (N := 15) hx₀ hb hts inlX11 hown hK hP 1 rfl rfl 10 (by decide) (hts (.fieldLink RX11 74 "BittenStick" "comers" "[I") wd_47) (fun _ h9 => h9) rfl dX11_mostAlike_19 ?_
      refine lv_iload hx₀ hb dX11_mostAlike_22 (lv_at hl 0 rfl) ?_
      refine lv_iconst (v := 0) hx₀ hb dX11_mostAlike_24 (by decide +kernel) ?_
      refine va_iast hx₀ hb hK hP hD hS 0 0 rfl rfl (vp_in_iff.mpr (lf_j_mostAlike_2 iz14 jz14 hiz14_0 hjz14 c_15)) dX11_mostAlike_25 ?_
      clear hP hD hS
      intro H locs hP hD hS
      obtain ⟨f_55, hf_55⟩ : ∃ z : Nat → Int32, z = upd qoz14 iz14.toNatClampNeg 0 := ⟨_, rfl⟩
      replace hP : va_P (dC, dI) vwCl [(kAI vCo cI 25 f_55), (kX11 hx aLa aPa aGe aFl aTr aBe aLu aLo vSf vSm vCo vSh xs xl xf), (kX10 aTr aLa aPa aGe gL gR (gp_6 0) (gp_6 1) (g_2 8) (g_2 9) (g_2 10) (g_2 11) (g_2 12) (g_2 13) (g_2 14) (g_2 15) (g_2 16) (g_2 17)), (kX3 gL (g_2 0) (g_2 1) (g_2 2) (g_2 3)), (kX3 gR (g_2 4) (g_2 5) (g_2 6) (g_2 7)), (kX4 aLa vLa l4 a4 n4), (kAI vLa cI 24 f4), (kX7 aPa vPa l7 a7 n7), (kAI vPa cI 39 f7), (kX2 aGe vGe l2 a2 n2), (kAI vGe cI 23 f2), (kX1 aFl vFl xn), (kAI vFl cI 32 ff)] H := by rw [hf_55]; exact hP
      replace hD : va_D A [(kAI vCo cI 25 f_55), (kX11 hx aLa aPa aGe aFl aTr aBe aLu aLo vSf vSm vCo vSh xs xl xf), (kX10 aTr aLa aPa aGe gL gR (gp_6 0) (gp_6 1) (g_2 8) (g_2 9) (g_2 10) (g_2 11) (g_2 12) (g_2 13) (g_2 14) (g_2 15) (g_2 16) (g_2 17)), (kX3 gL (g_2 0) (g_2 1) (g_2 2) (g_2 3)), (kX3 gR (g_2 4) (g_2 5) (g_2 6) (g_2 7)), (kX4 aLa vLa l4 a4 n4), (kAI vLa cI 24 f4), (kX7 aPa vPa l7 a7 n7), (kAI vPa cI 39 f7), (kX2 aGe vGe l2 a2 n2), (kAI vGe cI 23 f2), (kX1 aFl vFl xn), (kAI vFl cI 32 ff)] := by rw [hf_55]; exact hD
      clear hf_55
      refine lv_iinc (v := iz14 + 1) (lv' := [(4, .int (iz14 + 1)), (0, .ref hx), (1, .int f1), (2, .int p1), (3, .int so)]) hx₀ hb dX11_mostAlike_26 hl (k := 0) rfl rfl (by decide) rfl (fun ls hl => ?_)
      refine lv_goto (tgt := 8) hx₀ hb dX11_mostAlike_29 (by decide) ?_
      exact ihz14 _ (lf_j_mostAlike_4 iz14 jz14 hiz14_0 hjz14 c_15) (iz14 + 1) f_55 _ _ _ (lf_j_mostAlike_3 iz14 jz14 hiz14_0 hjz14 c_15) rfl (hP.sub [0, 1, 2, 3, 4, 5, 6, 7, 8, 9, 10, 11, 12] rfl) (hD.sub [0, 1, 2, 3, 4, 5, 6, 7, 8, 9, 10, 11, 12] (by decide +kernel) rfl) hS (lv_sub hl [0, 1, 2, 3, 4] rfl)
set_option maxHeartbeats 4000000 in
set_option maxRecDepth 100000 in
theorem j_ask (l : Launch) (dC : Nat → ClassId) (dI : Nat → Nat → Nat) (cI cJ cQ : ClassId) (sz : Nat) (hx : Nat) (p1 : Int32) (aLa : Nat) (aPa : Nat) (aGe : Nat) (aFl : Nat) (aTr : Nat) (aBe : Nat) (aLu : Nat) (aLo : Nat) (vSf : Nat) (vSm : Nat) (vCo : Nat) (vSh : Nat) (xs : Int32) (xl : Int32) (xf : Int32) (gL : Nat) (gR : Nat) (lf : Nat) (rt : Nat) (tgo : Int32) (tca : Int32) (tki : Int32) (tso : Int32) (tbe : Int32) (twe : Int32) (tle : Int32) (tan : Int32) (tco : Int32) (ten : Int32) (u0 : Int32) (u1 : Int32) (u2 : Int32) (u3 : Int32) (v0 : Int32) (v1 : Int32) (v2 : Int32) (v3 : Int32) (vLa : Nat) (l4 : Int32) (a4 : Int32) (n4 : Int32) (f4 : Nat → Int32) (vPa : Nat) (l7 : Int32) (a7 : Int32) (n7 : Int32) (f7 : Nat → Int32) (vGe : Nat) (l2 : Int32) (a2 : Int32) (n2 : Int32) (f2 : Nat → Int32) (vFl : Nat) (xn : Int32) (ff : Nat → Int32) (sf : Nat → Int32) (sm : Nat → Int32) (oo : Nat → Int32) (hh0 : 0 ≤ n4 ∧ n4 ≤ 24) (hh1 : 0 ≤ xn ∧ xn ≤ 8) : Met l yX11_ask (kW yX11_ask cX11_ask 7 (some .int)) { frames := 5, cells := 0, slots := 0, locals := 121 } (kPre dC dI cI cJ cQ sz [.ref hx, .int p1] [(kX11 hx aLa aPa aGe aFl aTr aBe aLu aLo vSf vSm vCo vSh xs xl xf), (kX10 aTr aLa aPa aGe gL gR lf rt tgo tca tki tso tbe twe tle tan tco ten), (kX3 gL u0 u1 u2 u3), (kX3 gR v0 v1 v2 v3), (kX4 aLa vLa l4 a4 n4), (kAI vLa cI 24 f4), (kX7 aPa vPa l7 a7 n7), (kAI vPa cI 39 f7), (kX2 aGe vGe l2 a2 n2), (kAI vGe cI 23 f2), (kX1 aFl vFl xn), (kAI vFl cI 32 ff), (kAI vSf cI 8 sf), (kAI vSm cI 8 sm), (kAI vCo cI 25 oo)]) (va_Qi (fun (r : Int32) (u : kS) => True) (fun (u : kS) t₀ => kB dC dI cI cJ cQ (va_A [(kX11 hx aLa aPa aGe aFl aTr aBe aLu aLo vSf vSm vCo vSh xs xl xf), (kX10 aTr aLa aPa aGe gL gR lf rt tgo tca tki tso tbe twe tle tan tco ten), (kX3 gL u0 u1 u2 u3), (kX3 gR v0 v1 v2 v3), (kX4 aLa vLa l4 a4 n4), (kAI vLa cI 24 f4), (kX7 aPa vPa l7 a7 n7), (kAI vPa cI 39 f7), (kX2 aGe vGe l2 a2 n2), (kAI vGe cI 23 f2), (kX1 aFl vFl xn), (kAI vFl cI 32 ff), (kAI vSf cI 8 sf), (kAI vSm cI 8 sm), (kAI vCo cI 25 oo)] sz) [(kX11 hx aLa aPa aGe aFl aTr aBe aLu aLo vSf vSm vCo vSh xs xl xf), (kX10 aTr aLa aPa aGe gL gR (u.2.2.2.2 0) (u.2.2.2.2 1) (u.1 8) (u.1 9) (u.1 10) (u.1 11) (u.1 12) (u.1 13) (u.1 14) (u.1 15) (u.1 16) (u.1 17)), (kX3 gL (u.1 0) (u.1 1) (u.1 2) (u.1 3)), (kX3 gR (u.1 4) (u.1 5) (u.1 6) (u.1 7)), (kX4 aLa vLa l4 a4 n4), (kAI vLa cI 24 f4), (kX7 aPa vPa l7 a7 n7), (kAI vPa cI 39 f7), (kX2 aGe vGe l2 a2 n2), (kAI vGe cI 23 f2), (kX1 aFl vFl xn), (kAI vFl cI 32 ff), (kAI vSf cI 8 sf), (kAI vSm cI 8 sm), (kAI vCo cI 25 (u.2.1 0))] t₀) (va_A [(kX11 hx aLa aPa aGe aFl aTr aBe aLu aLo vSf vSm vCo vSh xs xl xf), (kX10 aTr aLa aPa aGe gL gR lf rt tgo tca tki tso tbe twe tle tan tco ten), (kX3 gL u0 u1 u2 u3), (kX3 gR v0 v1 v2 v3), (kX4 aLa vLa l4 a4 n4), (kAI vLa cI 24 f4), (kX7 aPa vPa l7 a7 n7), (kAI vPa cI 39 f7), (kX2 aGe vGe l2 a2 n2), (kAI vGe cI 23 f2), (kX1 aFl vFl xn), (kAI vFl cI 32 ff), (kAI vSf cI 8 sf), (kAI vSm cI 8 sm), (kAI vCo cI 25 oo)] sz)) 0 0 (va_A [(kX11 hx aLa aPa aGe aFl aTr aBe aLu aLo vSf vSm vCo vSh xs xl xf), (kX10 aTr aLa aPa aGe gL gR lf rt tgo tca tki tso tbe twe tle tan tco ten), (kX3 gL u0 u1 u2 u3), (kX3 gR v0 v1 v2 v3), (kX4 aLa vLa l4 a4 n4), (kAI vLa cI 24 f4), (kX7 aPa vPa l7 a7 n7), (kAI vPa cI 39 f7), (kX2 aGe vGe l2 a2 n2), (kAI vGe cI 23 f2), (kX1 aFl vFl xn), (kAI vFl cI 32 ff), (kAI vSf cI 8 sf), (kAI vSm cI 8 sm), (kAI vCo cI 25 oo)] sz) := by
  refine Met.ofW (cc := cX11_ask) (maxL := 7) (ret := (some .int)) (by decide) rfl ?_
  intro p₀ e₀ s₀ m₀ args below meth c₀ s₁ B hml hv₀
  obtain ⟨rfl, hsz, hP, hK, hD0, hN⟩ := hv₀
  have hx₀ := B.exec
  have hb := B.bytes
  have hr := B.returns
  have hts := atoms_spec (ws := (kW yX11_ask cX11_ask 7 (some .int))) B.pre
  have hts := fun w h => hts w (List.mem_cons_of_mem _ h)
  have hown : s₀.vm.findClass RX11 = some m₀.cls := findClass_of_methodNamed B.named
  have hlocks := B.notSynchronized
  subst hsz
  have hD := hD0.self (sz := s₀.heap.size)
  generalize hAe : va_A [(kX11 hx aLa aPa aGe aFl aTr aBe aLu aLo vSf vSm vCo vSh xs xl xf), (kX10 aTr aLa aPa aGe gL gR lf rt tgo tca tki tso tbe twe tle tan tco ten), (kX3 gL u0 u1 u2 u3), (kX3 gR v0 v1 v2 v3), (kX4 aLa vLa l4 a4 n4), (kAI vLa cI 24 f4), (kX7 aPa vPa l7 a7 n7), (kAI vPa cI 39 f7), (kX2 aGe vGe l2 a2 n2), (kAI vGe cI 23 f2), (kX1 aFl vFl xn), (kAI vFl cI 32 ff), (kAI vSf cI 8 sf), (kAI vSm cI 8 sm), (kAI vCo cI 25 oo)] s₀.heap.size = A at hD ⊢
  have hA : ∀ q : Nat, s₀.heap.size ≤ q → A q := fun q h => by rw [← hAe]; exact Or.inr h
  have hS : va_S A s₀.heap s₀.heap [] := va_S.rf
  have hP : va_P (dC, dI) vwCl [(kX11 hx aLa aPa aGe aFl aTr aBe aLu aLo vSf vSm vCo vSh xs xl xf), (kX10 aTr aLa aPa aGe gL gR lf rt tgo tca tki tso tbe twe tle tan tco ten), (kX3 gL u0 u1 u2 u3), (kX3 gR v0 v1 v2 v3), (kX4 aLa vLa l4 a4 n4), (kAI vLa cI 24 f4), (kX7 aPa vPa l7 a7 n7), (kAI vPa cI 39 f7), (kX2 aGe vGe l2 a2 n2), (kAI vGe cI 23 f2), (kX1 aFl vFl xn), (kAI vFl cI 32 ff), (kAI vSf cI 8 sf), (kAI vSm cI 8 sm), (kAI vCo cI 25 oo)] s₀.heap := hP
  have hl := lv_entry ([.ref hx, .int p1]) (n := 7) (Nat.le_of_ble_eq_true rfl)
  rw [lg_entry_eq]
  generalize (lg_sl ([.ref hx, .int p1]) ++ List.replicate (7 - (lg_sl ([.ref hx, .int p1])).length) Slot.unset).toArray = ls at hl ⊢
  have hl : lv_has ls 7 [(0, .ref hx), (1, .int p1)] := hl
  obtain ⟨H, hH⟩ : ∃ z : Heap, z = s₀.heap := ⟨_, rfl⟩
  rw [← hH] at hP
  have hS : va_S A s₀.heap H [] := by rw [hH]; exact hS
  refine k_heap hH ?_
  have hD : va_D A [(kX11 hx aLa aPa aGe aFl aTr aBe aLu aLo vSf vSm vCo vSh xs xl xf), (kX10 aTr aLa aPa aGe gL gR lf rt tgo tca tki tso tbe twe tle tan tco ten), (kX3 gL u0 u1 u2 u3), (kX3 gR v0 v1 v2 v3), (kX4 aLa vLa l4 a4 n4), (kAI vLa cI 24 f4), (kX7 aPa vPa l7 a7 n7), (kAI vPa cI 39 f7), (kX2 aGe vGe l2 a2 n2), (kAI vGe cI 23 f2), (kX1 aFl vFl xn), (kAI vFl cI 32 ff), (kAI vSf cI 8 sf), (kAI vSm cI 8 sm), (kAI vCo cI 25 oo)] := hD
  obtain ⟨locs, hlo⟩ : ∃ z : List Loc, z = [] := ⟨_, rfl⟩
  rw [← hlo] at hS ⊢
  clear hlo hH hAe hD0
  refine lv_aload_n hx₀ hb dX11_ask_0 rfl (lv_at hl 0 rfl) ?_
  refine va_get (D := (dC, dI)) (ci := 10) (v := .ref aPa) (C := RX11) (T := TX11) (N := 15) hx₀ hb hts inlX11 hown hK hP 0 rfl rfl 1 (by decide) (hts (.fieldLink RX11 19 "BittenStick" "passengers" "LBittenStick$Passengers;") wd_19) (fun _ h9 => h9) rfl dX11_ask_1 ?_
  refine lv_iload_n hx₀ hb dX11_ask_4 rfl (lv_at hl 1 rfl) ?_
  obtain ⟨hPc, hDc, hFc, hC⟩ := k_cw (wc := [(kX7 aPa vPa l7 a7 n7)]) hP hD hS hA [6] (by decide +kernel) rfl
  refine va_calli (va_runU (As := [.int p1]) (rest := []) ⟨hx₀, hb, hml, hown, hts⟩ (j_has_X7 l dC dI cI cJ cQ H.size aPa p1 vPa l7 a7 n7) (va_cwU 1 hts (kGU wd_307 wd_303 wd_304 wd_305 wd_306 wd_57) rfl rfl rfl rfl (by decide +kernel) ⟨Nat.le_of_ble_eq_true rfl, Nat.le_of_ble_eq_true rfl⟩) (k_preV7 (q0 := 0) hK hPc hDc hN rfl) rfl rfl hl.1 rfl (lv_room (Nat.le_of_ble_eq_true rfl)) dX11_ask_5 ⟨by decide +kernel, by decide +kernel⟩) hS (fun q _ h => hFc q h) hFc (fun r_1 u₀ t₀ H1 locs ht hvm hw hB hz1 hk1 hS => ?_)
  obtain ⟨hP1, hK1, hD1⟩ := hB
  rw [ht] at hP1
  have hJ := k_jn (wr := [(kX11 hx aLa aPa aGe aFl aTr aBe aLu aLo vSf vSm vCo vSh xs xl xf), (kX10 aTr aLa aPa aGe gL gR lf rt tgo tca tki tso tbe twe tle tan tco ten), (kX3 gL u0 u1 u2 u3), (kX3 gR v0 v1 v2 v3), (kX4 aLa vLa l4 a4 n4), (kAI vLa cI 24 f4), (kAI vPa cI 39 f7), (kX2 aGe vGe l2 a2 n2), (kAI vGe cI 23 f2), (kX1 aFl vFl xn), (kAI vFl cI 32 ff), (kAI vSf cI 8 sf), (kAI vSm cI 8 sm), (kAI vCo cI 25 oo)]) (wt := [(kX11 hx aLa aPa aGe aFl aTr aBe aLu aLo vSf vSm vCo vSh xs xl xf), (kX10 aTr aLa aPa aGe gL gR lf rt tgo tca tki tso tbe twe tle tan tco ten), (kX3 gL u0 u1 u2 u3), (kX3 gR v0 v1 v2 v3), (kX4 aLa vLa l4 a4 n4), (kAI vLa cI 24 f4), (kAI vPa cI 39 f7), (kX2 aGe vGe l2 a2 n2), (kAI vGe cI 23 f2), (kX1 aFl vFl xn), (kAI vFl cI 32 ff), (kAI vSf cI 8 sf), (kAI vSm cI 8 sm), (kAI vCo cI 25 oo), (kX7 aPa vPa l7 a7 n7)]) hP hD hC [0, 1, 2, 3, 4, 5, 7, 8, 9, 10, 11, 12, 13, 14] rfl (by decide +kernel) (by decide +kernel) hk1 hFc hP1 hD1 rfl
  clear hP hD hPc hDc hFc hC hP1 hD1 hK1 hz1 hk1 hvm ht
  obtain ⟨hP, hD⟩ := hJ
  generalize H1 = H at hP hS ⊢
  try dsimp only at hw
  by_cases c_2 : 0 ≤ p1 ∧ p1 < n7
  · rw [if_pos c_2] at hw
    refine k_topi (v := 1) hw ?_
    refine lv_if_ne (tgt := 14) hx₀ hb dX11_ask_8 (by decide) (fun _ => ?_) (fun c9 => absurd c9 (by decide +kernel))
    refine lv_aload_n hx₀ hb dX11_ask_14 rfl (lv_at hl 0 rfl) ?_
    refine lv_iload_n hx₀ hb dX11_ask_15 rfl (lv_at hl 1 rfl) ?_
    obtain ⟨hPc, hDc, hFc, hC⟩ := k_cw (wc := [(kX11 hx aLa aPa aGe aFl aTr aBe aLu aLo vSf vSm vCo vSh xs xl xf), (kX10 aTr aLa aPa aGe gL gR lf rt tgo tca tki tso tbe twe tle tan tco ten), (kX3 gL u0 u1 u2 u3), (kX3 gR v0 v1 v2 v3), (kX4 aLa vLa l4 a4 n4), (kAI vLa cI 24 f4), (kX7 aPa vPa l7 a7 n7), (kAI vPa cI 39 f7), (kX2 aGe vGe l2 a2 n2), (kAI vGe cI 23 f2), (kX1 aFl vFl xn), (kAI vFl cI 32 ff), (kAI vSf cI 8 sf), (kAI vSm cI 8 sm)]) hP hD hS hA [0, 1, 2, 3, 4, 5, 14, 6, 7, 8, 9, 10, 11, 12] (by decide +kernel) rfl
    refine va_calli (va_runV (As := [.int p1]) (rest := []) ⟨hx₀, hb, hml, hown, hts⟩ (j_sores l dC dI cI cJ cQ H.size hx p1 aLa aPa aGe aFl aTr aBe aLu aLo vSf vSm vCo vSh xs xl xf gL gR lf rt tgo tca tki tso tbe twe tle tan tco ten u0 u1 u2 u3 v0 v1 v2 v3 vLa l4 a4 n4 f4 vPa l7 a7 n7 f7 vGe l2 a2 n2 f2 vFl xn ff sf sm (hh0) (hh1)) (cwV 1 hts (kGV wd_708 wd_742 wd_706 wd_707 wd_2) rfl rfl rfl (by decide +kernel) ⟨Nat.le_of_ble_eq_true rfl, Nat.le_of_ble_eq_true rfl⟩) (k_preV10 (q0 := 0) hK hPc hDc hN rfl) rfl rfl hl.1 rfl (lv_room (Nat.le_of_ble_eq_true rfl)) dX11_ask_16 ⟨by decide +kernel, by decide +kernel⟩) hS (fun q _ h => hFc q h) hFc (fun r_3 u₀ t₀ H1 locs ht hvm hw hB hz1 hk1 hS => ?_)
    obtain ⟨g_4, ga_5, gl_6, gb_7, gp_8⟩ := u₀
    obtain ⟨hP1, hK1, hD1⟩ := hB
    rw [ht] at hP1
    have hJ := k_jn (wr := [(kAI vCo cI 25 oo)]) (wt := [(kAI vCo cI 25 oo), (kX11 hx aLa aPa aGe aFl aTr aBe aLu aLo vSf vSm vCo vSh xs xl xf), (kX10 aTr aLa aPa aGe gL gR (gp_8 0) (gp_8 1) (g_4 8) (g_4 9) (g_4 10) (g_4 11) (g_4 12) (g_4 13) (g_4 14) (g_4 15) (g_4 16) (g_4 17)), (kX3 gL (g_4 0) (g_4 1) (g_4 2) (g_4 3)), (kX3 gR (g_4 4) (g_4 5) (g_4 6) (g_4 7)), (kX4 aLa vLa l4 a4 n4), (kAI vLa cI 24 f4), (kX7 aPa vPa l7 a7 n7), (kAI vPa cI 39 f7), (kX2 aGe vGe l2 a2 n2), (kAI vGe cI 23 f2), (kX1 aFl vFl xn), (kAI vFl cI 32 ff), (kAI vSf cI 8 sf), (kAI vSm cI 8 sm)]) hP hD hC [13] rfl (by decide +kernel) (by decide +kernel) hk1 hFc hP1 hD1 rfl
    clear hP hD hPc hDc hFc hC hP1 hD1 hK1 hz1 hk1 hvm ht
    obtain ⟨hP, hD⟩ := hJ
    generalize H1 = H at hP hS ⊢
    try dsimp only at hw
    refine lv_istore_n (lv' := [(2, .int r_3), (0, .ref hx), (1, .int p1)]) hx₀ hb dX11_ask_19 rfl hl (by decide) rfl (fun ls hl => ?_)
    refine lv_iconst (v := (-1)) hx₀ hb dX11_ask_20 (by decide +kernel) ?_
    refine lv_istore_n (lv' := [(3, .int (-1)), (2, .int r_3), (0, .ref hx), (1, .int p1)]) hx₀ hb dX11_ask_21 rfl hl (by decide) rfl (fun ls hl => ?_)
    refine lv_bipush (v := 7) hx₀ hb dX11_ask_22 (by decide +kernel) ?_
    refine lv_istore (lv' := [(4, .int 7), (3, .int (-1)), (2, .int r_3), (0, .ref hx), (1, .int p1)]) hx₀ hb dX11_ask_24 hl (by decide) rfl (fun ls hl => ?_)
    refine lv_iconst (v := 0) hx₀ hb dX11_ask_26 (by decide +kernel) ?_
    refine lv_istore (lv' := [(5, .int 0), (4, .int 7), (3, .int (-1)), (2, .int r_3), (0, .ref hx), (1, .int p1)]) hx₀ hb dX11_ask_27 hl (by decide) rfl (fun ls hl => ?_)
    refine (?keyz9 : ∀ (jz9 : Nat) (asz9 : Int32) (lez9 : Int32) (fz9 : Int32) (ygoez9 : Int32) (ycarz9 : Int32) (ykinz9 : Int32) (ysorz9 : Int32) (ybeaz9 : Int32) (yweiz9 : Int32) (yleaz9 : Int32) (yangz9 : Int32) (ycolz9 : Int32) (yendz9 : Int32) (pz9 : Nat) (qz9 : Nat) (w0z9 : Int32) (w1z9 : Int32) (w2z9 : Int32) (w3z9 : Int32) (z0z9 : Int32) (z1z9 : Int32) (z2z9 : Int32) (z3z9 : Int32) (qoz9 : Nat → Int32) (H : Heap) (locs : List Loc) (ls : Array Slot), (0 ≤ fz9) → ((xn.toInt - fz9.toInt).toNat = jz9) → va_P (dC, dI) vwCl [(kAI vCo cI 25 qoz9), (kX11 hx aLa aPa aGe aFl aTr aBe aLu aLo vSf vSm vCo vSh xs xl xf), (kX10 aTr aLa aPa aGe gL gR pz9 qz9 ygoez9 ycarz9 ykinz9 ysorz9 ybeaz9 yweiz9 yleaz9 yangz9 ycolz9 yendz9), (kX3 gL w0z9 w1z9 w2z9 w3z9), (kX3 gR z0z9 z1z9 z2z9 z3z9), (kX4 aLa vLa l4 a4 n4), (kAI vLa cI 24 f4), (kX7 aPa vPa l7 a7 n7), (kAI vPa cI 39 f7), (kX2 aGe vGe l2 a2 n2), (kAI vGe cI 23 f2), (kX1 aFl vFl xn), (kAI vFl cI 32 ff), (kAI vSf cI 8 sf), (kAI vSm cI 8 sm)] H → va_D A [(kAI vCo cI 25 qoz9), (kX11 hx aLa aPa aGe aFl aTr aBe aLu aLo vSf vSm vCo vSh xs xl xf), (kX10 aTr aLa aPa aGe gL gR pz9 qz9 ygoez9 ycarz9 ykinz9 ysorz9 ybeaz9 yweiz9 yleaz9 yangz9 ycolz9 yendz9), (kX3 gL w0z9 w1z9 w2z9 w3z9), (kX3 gR z0z9 z1z9 z2z9 z3z9), (kX4 aLa vLa l4 a4 n4), (kAI vLa cI 24 f4), (kX7 aPa vPa l7 a7 n7), (kAI vPa cI 39 f7), (kX2 aGe vGe l2 a2 n2), (kAI vGe cI 23 f2), (kX1 aFl vFl xn), (kAI vFl cI 32 ff), (kAI vSf cI 8 sf), (kAI vSm cI 8 sm)] → va_S A s₀.heap H locs → lv_has ls 7 [(5, .int fz9), (4, .int lez9), (3, .int asz9), (2, .int r_3), (0, .ref hx), (1, .int p1)] → W p₀ l e₀ _ s₀ m₀ _ below meth c₀ H locs _ _ _ (F0 m₀ 29 ls [])) _ (-1 : Int32) (7 : Int32) (0 : Int32) (g_4 8) (g_4 9) (g_4 10) (g_4 11) (g_4 12) (g_4 13) (g_4 14) (g_4 15) (g_4 16) (g_4 17) (gp_8 0) (gp_8 1) (g_4 0) (g_4 1) (g_4 2) (g_4 3) (g_4 4) (g_4 5) (g_4 6) (g_4 7) _ H locs ls (show 0 ≤ (0 : Int32) from (by decide)) rfl hP hD hS hl
    clear hP hD hS hl
    intro jz9
    induction jz9 using Nat.strongRecOn with
    | ind jz9 ihz9 =>
      intro asz9 lez9 fz9 ygoez9 ycarz9 ykinz9 ysorz9 ybeaz9 yweiz9 yleaz9 yangz9 ycolz9 yendz9 pz9 qz9 w0z9 w1z9 w2z9 w3z9 z0z9 z1z9 z2z9 z3z9 qoz9 H locs ls hiz9_0 hjz9 hP hD hS hl
      refine lv_iload hx₀ hb dX11_ask_29 (lv_at hl 0 rfl) ?_
      refine lv_aload_n hx₀ hb dX11_ask_31 rfl (lv_at hl 4 rfl) ?_
      refine va_get (D := (dC, dI)) (ci := 10) (v := .ref aFl) (C := RX11) (T := TX11) (N := 15) hx₀ hb hts inlX11 hown hK hP 1 rfl rfl 3 (by decide) (hts (.fieldLink RX11 33 "BittenStick" "flights" "LBittenStick$Flights;") wd_27) (fun _ h9 => h9) rfl dX11_ask_32 ?_
      refine va_get (D := (dC, dI)) (ci := 1) (v := .int xn) (C := RX1) (T := TX1) (N := 2) hx₀ hb hts inlX1 hown hK hP 11 rfl rfl 1 (by decide) (hts (.fieldLink RX11 128 "BittenStick$Flights" "number" "I") wd_369) (fun _ h9 => h9) rfl dX11_ask_35 ?_
      refine lv_icmp_ge (tgt := 71) hx₀ hb dX11_ask_38 (by decide) (fun c_10 => ?_) (fun c_10 => ?_)
      · refine lv_iload_n hx₀ hb dX11_ask_71 rfl (lv_at hl 2 rfl) ?_
        obtain ⟨hP9, hD9⟩ := k_c2 (wc := [(kX11 hx aLa aPa aGe aFl aTr aBe aLu aLo vSf vSm vCo vSh xs xl xf), (kX10 aTr aLa aPa aGe gL gR pz9 qz9 ygoez9 ycarz9 ykinz9 ysorz9 ybeaz9 yweiz9 yleaz9 yangz9 ycolz9 yendz9), (kX3 gL w0z9 w1z9 w2z9 w3z9), (kX3 gR z0z9 z1z9 z2z9 z3z9), (kX4 aLa vLa l4 a4 n4), (kAI vLa cI 24 f4), (kX7 aPa vPa l7 a7 n7), (kAI vPa cI 39 f7), (kX2 aGe vGe l2 a2 n2), (kAI vGe cI 23 f2), (kX1 aFl vFl xn), (kAI vFl cI 32 ff), (kAI vSf cI 8 sf), (kAI vSm cI 8 sm), (kAI vCo cI 25 qoz9)]) hP hD [1, 2, 3, 4, 5, 6, 7, 8, 9, 10, 11, 12, 13, 14, 0] (by decide +kernel) rfl
        exact W.iret (v := asz9) hx₀ hb hr (fun t₀ ht hW => ⟨⟨asz9, (k_fn [w0z9, w1z9, w2z9, w3z9, z0z9, z1z9, z2z9, z3z9, ygoez9, ycarz9, ykinz9, ysorz9, ybeaz9, yweiz9, yleaz9, yangz9, ycolz9, yendz9], k_fa [qoz9], k_fl [], k_fL [], k_fp [pz9, qz9]), rfl, trivial, by rw [ht]; exact hP9, va_K.moved hW.alike hK, hD9⟩, hS.F ht⟩) hS.2.2 dX11_ask_72
      · refine lv_aload_n hx₀ hb dX11_ask_41 rfl (lv_at hl 4 rfl) ?_
        refine lv_iload hx₀ hb dX11_ask_42 (lv_at hl 0 rfl) ?_
        refine lv_iload_n hx₀ hb dX11_ask_44 rfl (lv_at hl 5 rfl) ?_
        refine lv_iload_n hx₀ hb dX11_ask_45 rfl (lv_at hl 3 rfl) ?_
        obtain ⟨hPc, hDc, hFc, hC⟩ := k_cw (wc := [(kX11 hx aLa aPa aGe aFl aTr aBe aLu aLo vSf vSm vCo vSh xs xl xf), (kX10 aTr aLa aPa aGe gL gR pz9 qz9 ygoez9 ycarz9 ykinz9 ysorz9 ybeaz9 yweiz9 yleaz9 yangz9 ycolz9 yendz9), (kX3 gL w0z9 w1z9 w2z9 w3z9), (kX3 gR z0z9 z1z9 z2z9 z3z9), (kX4 aLa vLa l4 a4 n4), (kAI vLa cI 24 f4), (kX7 aPa vPa l7 a7 n7), (kAI vPa cI 39 f7), (kX2 aGe vGe l2 a2 n2), (kAI vGe cI 23 f2), (kX1 aFl vFl xn), (kAI vFl cI 32 ff), (kAI vCo cI 25 qoz9)]) hP hD hS hA [1, 2, 3, 4, 5, 6, 7, 8, 9, 10, 11, 12, 0] (by decide +kernel) rfl
        refine va_calli (va_runV (As := [.int fz9, .int p1, .int r_3]) (rest := []) ⟨hx₀, hb, hml, hown, hts⟩ (j_mostAlike l dC dI cI cJ cQ H.size hx fz9 p1 r_3 aLa aPa aGe aFl aTr aBe aLu aLo vSf vSm vCo vSh xs xl xf gL gR pz9 qz9 ygoez9 ycarz9 ykinz9 ysorz9 ybeaz9 yweiz9 yleaz9 yangz9 ycolz9 yendz9 w0z9 w1z9 w2z9 w3z9 z0z9 z1z9 z2z9 z3z9 vLa l4 a4 n4 f4 vPa l7 a7 n7 f7 vGe l2 a2 n2 f2 vFl xn ff qoz9 (hh0) (hh1)) (cwV 3 hts (kGV wd_746 wd_743 wd_744 wd_745 wd_2) rfl rfl rfl (by decide +kernel) ⟨Nat.le_of_ble_eq_true rfl, Nat.le_of_ble_eq_true rfl⟩) (k_preV10 (q0 := 0) hK hPc hDc hN rfl) rfl rfl hl.1 rfl (lv_room (Nat.le_of_ble_eq_true rfl)) dX11_ask_46 ⟨by decide +kernel, by decide +kernel⟩) hS (fun q _ h => hFc q h) hFc (fun r_11 u₀ t₀ H1 locs ht hvm hw hB hz1 hk1 hS => ?_)
        obtain ⟨g_12, ga_13, gl_14, gb_15, gp_16⟩ := u₀
        obtain ⟨hP1, hK1, hD1⟩ := hB
        rw [ht] at hP1
        have hJ := k_jn (wr := [(kAI vSf cI 8 sf), (kAI vSm cI 8 sm)]) (wt := [(kAI vSf cI 8 sf), (kAI vSm cI 8 sm), (kX11 hx aLa aPa aGe aFl aTr aBe aLu aLo vSf vSm vCo vSh xs xl xf), (kX10 aTr aLa aPa aGe gL gR (gp_16 0) (gp_16 1) (g_12 8) (g_12 9) (g_12 10) (g_12 11) (g_12 12) (g_12 13) (g_12 14) (g_12 15) (g_12 16) (g_12 17)), (kX3 gL (g_12 0) (g_12 1) (g_12 2) (g_12 3)), (kX3 gR (g_12 4) (g_12 5) (g_12 6) (g_12 7)), (kX4 aLa vLa l4 a4 n4), (kAI vLa cI 24 f4), (kX7 aPa vPa l7 a7 n7), (kAI vPa cI 39 f7), (kX2 aGe vGe l2 a2 n2), (kAI vGe cI 23 f2), (kX1 aFl vFl xn), (kAI vFl cI 32 ff), (kAI vCo cI 25 (ga_13 0))]) hP hD hC [13, 14] rfl (by decide +kernel) (by decide +kernel) hk1 hFc hP1 hD1 rfl
        clear hP hD hPc hDc hFc hC hP1 hD1 hK1 hz1 hk1 hvm ht
        obtain ⟨hP, hD⟩ := hJ
        generalize H1 = H at hP hS ⊢
        try dsimp only at hw
        refine lv_istore (lv' := [(6, .int r_11), (5, .int fz9), (4, .int lez9), (3, .int asz9), (2, .int r_3), (0, .ref hx), (1, .int p1)]) hx₀ hb dX11_ask_49 hl (by decide) rfl (fun ls hl => ?_)
        refine lv_iload hx₀ hb dX11_ask_51 (lv_at hl 0 rfl) ?_
        refine lv_iload hx₀ hb dX11_ask_53 (lv_at hl 2 rfl) ?_
        refine lv_icmp_ge (tgt := 65) hx₀ hb dX11_ask_55 (by decide) (fun c_17 => ?_) (fun c_17 => ?_)
        · refine lv_iinc (v := fz9 + 1) (lv' := [(5, .int (fz9 + 1)), (6, .int r_11), (4, .int lez9), (3, .int asz9), (2, .int r_3), (0, .ref hx), (1, .int p1)]) hx₀ hb dX11_ask_65 hl (k := 1) rfl rfl (by decide) rfl (fun ls hl => ?_)
          refine lv_goto (tgt := 29) hx₀ hb dX11_ask_68 (by decide) ?_
          exact ihz9 _ (lf_j_farthest_2 xn fz9 jz9 hh1 hiz9_0 hjz9 c_10) asz9 lez9 (fz9 + 1) (g_12 8) (g_12 9) (g_12 10) (g_12 11) (g_12 12) (g_12 13) (g_12 14) (g_12 15) (g_12 16) (g_12 17) (gp_16 0) (gp_16 1) (g_12 0) (g_12 1) (g_12 2) (g_12 3) (g_12 4) (g_12 5) (g_12 6) (g_12 7) (ga_13 0) _ _ _ (lf_j_farthest_1 xn fz9 jz9 hh1 hiz9_0 hjz9 c_10) rfl (hP.sub [14, 2, 3, 4, 5, 6, 7, 8, 9, 10, 11, 12, 13, 0, 1] rfl) (hD.sub [14, 2, 3, 4, 5, 6, 7, 8, 9, 10, 11, 12, 13, 0, 1] (by decide +kernel) rfl) hS (lv_sub hl [0, 2, 3, 4, 5, 6] rfl)
        · refine lv_iload hx₀ hb dX11_ask_58 (lv_at hl 0 rfl) ?_
          refine lv_istore (lv' := [(4, .int r_11), (6, .int r_11), (5, .int fz9), (3, .int asz9), (2, .int r_3), (0, .ref hx), (1, .int p1)]) hx₀ hb dX11_ask_60 hl (by decide) rfl (fun ls hl => ?_)
          refine lv_iload hx₀ hb dX11_ask_62 (lv_at hl 2 rfl) ?_
          refine lv_istore_n (lv' := [(3, .int fz9), (4, .int r_11), (6, .int r_11), (5, .int fz9), (2, .int r_3), (0, .ref hx), (1, .int p1)]) hx₀ hb dX11_ask_64 rfl hl (by decide) rfl (fun ls hl => ?_)
          refine lv_iinc (v := fz9 + 1) (lv' := [(5, .int (fz9 + 1)), (3, .int fz9), (4, .int r_11), (6, .int r_11), (2, .int r_3), (0, .ref hx), (1, .int p1)]) hx₀ hb dX11_ask_65 hl (k := 3) rfl rfl (by decide) rfl (fun ls hl => ?_)
          refine lv_goto (tgt := 29) hx₀ hb dX11_ask_68 (by decide) ?_
          exact ihz9 _ (lf_j_farthest_2 xn fz9 jz9 hh1 hiz9_0 hjz9 c_10) fz9 r_11 (fz9 + 1) (g_12 8) (g_12 9) (g_12 10) (g_12 11) (g_12 12) (g_12 13) (g_12 14) (g_12 15) (g_12 16) (g_12 17) (gp_16 0) (gp_16 1) (g_12 0) (g_12 1) (g_12 2) (g_12 3) (g_12 4) (g_12 5) (g_12 6) (g_12 7) (ga_13 0) _ _ _ (lf_j_farthest_1 xn fz9 jz9 hh1 hiz9_0 hjz9 c_10) rfl (hP.sub [14, 2, 3, 4, 5, 6, 7, 8, 9, 10, 11, 12, 13, 0, 1] rfl) (hD.sub [14, 2, 3, 4, 5, 6, 7, 8, 9, 10, 11, 12, 13, 0, 1] (by decide +kernel) rfl) hS (lv_sub hl [0, 2, 1, 4, 5, 6] rfl)
  rw [if_neg c_2] at hw
  refine k_topi (v := 0) hw ?_
  refine lv_if_ne (tgt := 14) hx₀ hb dX11_ask_8 (by decide) (fun c9 => absurd (by decide +kernel) c9) (fun _ => ?_)
  refine lv_bipush (v := (-2)) hx₀ hb dX11_ask_11 (by decide +kernel) ?_
  obtain ⟨hP9, hD9⟩ := k_c2 (wc := [(kX11 hx aLa aPa aGe aFl aTr aBe aLu aLo vSf vSm vCo vSh xs xl xf), (kX10 aTr aLa aPa aGe gL gR lf rt tgo tca tki tso tbe twe tle tan tco ten), (kX3 gL u0 u1 u2 u3), (kX3 gR v0 v1 v2 v3), (kX4 aLa vLa l4 a4 n4), (kAI vLa cI 24 f4), (kX7 aPa vPa l7 a7 n7), (kAI vPa cI 39 f7), (kX2 aGe vGe l2 a2 n2), (kAI vGe cI 23 f2), (kX1 aFl vFl xn), (kAI vFl cI 32 ff), (kAI vSf cI 8 sf), (kAI vSm cI 8 sm), (kAI vCo cI 25 oo)]) hP hD [0, 1, 2, 3, 4, 5, 14, 6, 7, 8, 9, 10, 11, 12, 13] (by decide +kernel) rfl
  exact W.iret (v := (-2)) hx₀ hb hr (fun t₀ ht hW => ⟨⟨(-2), (k_fn [u0, u1, u2, u3, v0, v1, v2, v3, tgo, tca, tki, tso, tbe, twe, tle, tan, tco, ten], k_fa [oo], k_fl [], k_fL [], k_fp [lf, rt]), rfl, trivial, by rw [ht]; exact hP9, va_K.moved hW.alike hK, hD9⟩, hS.F ht⟩) hS.2.2 dX11_ask_13
set_option maxHeartbeats 4000000 in
set_option maxRecDepth 100000 in
theorem j_laugh (l : Launch) (dC : Nat → ClassId) (dI : Nat → Nat → Nat) (cI cJ cQ : ClassId) (sz : Nat) (hx : Nat) (c1 : Int32) (f1 : Int32) (w1 : Int32) (aLa : Nat) (aPa : Nat) (aGe : Nat) (aFl : Nat) (aTr : Nat) (aBe : Nat) (aLu : Nat) (aLo : Nat) (vSf : Nat) (vSm : Nat) (vCo : Nat) (vSh : Nat) (xs : Int32) (xl : Int32) (xf : Int32) (gL : Nat) (gR : Nat) (lf : Nat) (rt : Nat) (tgo : Int32) (tca : Int32) (tki : Int32) (tso : Int32) (tbe : Int32) (twe : Int32) (tle : Int32) (tan : Int32) (tco : Int32) (ten : Int32) (u0 : Int32) (u1 : Int32) (u2 : Int32) (u3 : Int32) (v0 : Int32) (v1 : Int32) (v2 : Int32) (v3 : Int32) (vLa : Nat) (l4 : Int32) (a4 : Int32) (n4 : Int32) (f4 : Nat → Int32) (vPa : Nat) (l7 : Int32) (a7 : Int32) (n7 : Int32) (f7 : Nat → Int32) (vGe : Nat) (l2 : Int32) (a2 : Int32) (n2 : Int32) (f2 : Nat → Int32) (vFl : Nat) (xn : Int32) (ff : Nat → Int32) (vLu : Nat) (ab : Int64) (be : Int64) (fl : Nat → Int64) (hh0 : 0 ≤ n4 ∧ n4 ≤ 24) (hh1 : 0 ≤ xn ∧ xn ≤ 8) : Met l yX11_laugh (kW yX11_laugh cX11_laugh 4 (some .long)) { frames := 4, cells := 0, slots := 0, locals := 90 } (kPre dC dI cI cJ cQ sz [.ref hx, .int c1, .int f1, .int w1] [(kX11 hx aLa aPa aGe aFl aTr aBe aLu aLo vSf vSm vCo vSh xs xl xf), (kX10 aTr aLa aPa aGe gL gR lf rt tgo tca tki tso tbe twe tle tan tco ten), (kX3 gL u0 u1 u2 u3), (kX3 gR v0 v1 v2 v3), (kX4 aLa vLa l4 a4 n4), (kAI vLa cI 24 f4), (kX7 aPa vPa l7 a7 n7), (kAI vPa cI 39 f7), (kX2 aGe vGe l2 a2 n2), (kAI vGe cI 23 f2), (kX1 aFl vFl xn), (kAI vFl cI 32 ff), (kX5 aLu vLu ab be), (kAJ vLu cJ 46 fl)]) (va_Ql (fun (r : Int64) (u : kS) => True) (fun (u : kS) t₀ => kB dC dI cI cJ cQ (va_A [(kX11 hx aLa aPa aGe aFl aTr aBe aLu aLo vSf vSm vCo vSh xs xl xf), (kX10 aTr aLa aPa aGe gL gR lf rt tgo tca tki tso tbe twe tle tan tco ten), (kX3 gL u0 u1 u2 u3), (kX3 gR v0 v1 v2 v3), (kX4 aLa vLa l4 a4 n4), (kAI vLa cI 24 f4), (kX7 aPa vPa l7 a7 n7), (kAI vPa cI 39 f7), (kX2 aGe vGe l2 a2 n2), (kAI vGe cI 23 f2), (kX1 aFl vFl xn), (kAI vFl cI 32 ff), (kX5 aLu vLu ab be), (kAJ vLu cJ 46 fl)] sz) [(kX11 hx aLa aPa aGe aFl aTr aBe aLu aLo vSf vSm vCo vSh xs xl xf), (kX10 aTr aLa aPa aGe gL gR (u.2.2.2.2 0) (u.2.2.2.2 1) (u.1 8) (u.1 9) (u.1 10) (u.1 11) (u.1 12) (u.1 13) (u.1 14) (u.1 15) (u.1 16) (u.1 17)), (kX3 gL (u.1 0) (u.1 1) (u.1 2) (u.1 3)), (kX3 gR (u.1 4) (u.1 5) (u.1 6) (u.1 7)), (kX4 aLa vLa l4 a4 n4), (kAI vLa cI 24 f4), (kX7 aPa vPa l7 a7 n7), (kAI vPa cI 39 f7), (kX2 aGe vGe l2 a2 n2), (kAI vGe cI 23 f2), (kX1 aFl vFl xn), (kAI vFl cI 32 ff), (kX5 aLu vLu (u.2.2.1 0) (u.2.2.1 1)), (kAJ vLu cJ 46 (u.2.2.2.1 0))] t₀) (va_A [(kX11 hx aLa aPa aGe aFl aTr aBe aLu aLo vSf vSm vCo vSh xs xl xf), (kX10 aTr aLa aPa aGe gL gR lf rt tgo tca tki tso tbe twe tle tan tco ten), (kX3 gL u0 u1 u2 u3), (kX3 gR v0 v1 v2 v3), (kX4 aLa vLa l4 a4 n4), (kAI vLa cI 24 f4), (kX7 aPa vPa l7 a7 n7), (kAI vPa cI 39 f7), (kX2 aGe vGe l2 a2 n2), (kAI vGe cI 23 f2), (kX1 aFl vFl xn), (kAI vFl cI 32 ff), (kX5 aLu vLu ab be), (kAJ vLu cJ 46 fl)] sz)) 0 0 (va_A [(kX11 hx aLa aPa aGe aFl aTr aBe aLu aLo vSf vSm vCo vSh xs xl xf), (kX10 aTr aLa aPa aGe gL gR lf rt tgo tca tki tso tbe twe tle tan tco ten), (kX3 gL u0 u1 u2 u3), (kX3 gR v0 v1 v2 v3), (kX4 aLa vLa l4 a4 n4), (kAI vLa cI 24 f4), (kX7 aPa vPa l7 a7 n7), (kAI vPa cI 39 f7), (kX2 aGe vGe l2 a2 n2), (kAI vGe cI 23 f2), (kX1 aFl vFl xn), (kAI vFl cI 32 ff), (kX5 aLu vLu ab be), (kAJ vLu cJ 46 fl)] sz) := by
  refine Met.ofW (cc := cX11_laugh) (maxL := 4) (ret := (some .long)) (by decide) rfl ?_
  intro p₀ e₀ s₀ m₀ args below meth c₀ s₁ B hml hv₀
  obtain ⟨rfl, hsz, hP, hK, hD0, hN⟩ := hv₀
  have hx₀ := B.exec
  have hb := B.bytes
  have hr := B.returns
  have hts := atoms_spec (ws := (kW yX11_laugh cX11_laugh 4 (some .long))) B.pre
  have hts := fun w h => hts w (List.mem_cons_of_mem _ h)
  have hown : s₀.vm.findClass RX11 = some m₀.cls := findClass_of_methodNamed B.named
  have hlocks := B.notSynchronized
  subst hsz
  have hD := hD0.self (sz := s₀.heap.size)
  generalize hAe : va_A [(kX11 hx aLa aPa aGe aFl aTr aBe aLu aLo vSf vSm vCo vSh xs xl xf), (kX10 aTr aLa aPa aGe gL gR lf rt tgo tca tki tso tbe twe tle tan tco ten), (kX3 gL u0 u1 u2 u3), (kX3 gR v0 v1 v2 v3), (kX4 aLa vLa l4 a4 n4), (kAI vLa cI 24 f4), (kX7 aPa vPa l7 a7 n7), (kAI vPa cI 39 f7), (kX2 aGe vGe l2 a2 n2), (kAI vGe cI 23 f2), (kX1 aFl vFl xn), (kAI vFl cI 32 ff), (kX5 aLu vLu ab be), (kAJ vLu cJ 46 fl)] s₀.heap.size = A at hD ⊢
  have hA : ∀ q : Nat, s₀.heap.size ≤ q → A q := fun q h => by rw [← hAe]; exact Or.inr h
  have hS : va_S A s₀.heap s₀.heap [] := va_S.rf
  have hP : va_P (dC, dI) vwCl [(kX11 hx aLa aPa aGe aFl aTr aBe aLu aLo vSf vSm vCo vSh xs xl xf), (kX10 aTr aLa aPa aGe gL gR lf rt tgo tca tki tso tbe twe tle tan tco ten), (kX3 gL u0 u1 u2 u3), (kX3 gR v0 v1 v2 v3), (kX4 aLa vLa l4 a4 n4), (kAI vLa cI 24 f4), (kX7 aPa vPa l7 a7 n7), (kAI vPa cI 39 f7), (kX2 aGe vGe l2 a2 n2), (kAI vGe cI 23 f2), (kX1 aFl vFl xn), (kAI vFl cI 32 ff), (kX5 aLu vLu ab be), (kAJ vLu cJ 46 fl)] s₀.heap := hP
  have hl := lv_entry ([.ref hx, .int c1, .int f1, .int w1]) (n := 4) (Nat.le_of_ble_eq_true rfl)
  rw [lg_entry_eq]
  generalize (lg_sl ([.ref hx, .int c1, .int f1, .int w1]) ++ List.replicate (4 - (lg_sl ([.ref hx, .int c1, .int f1, .int w1])).length) Slot.unset).toArray = ls at hl ⊢
  have hl : lv_has ls 4 [(0, .ref hx), (1, .int c1), (2, .int f1), (3, .int w1)] := hl
  obtain ⟨H, hH⟩ : ∃ z : Heap, z = s₀.heap := ⟨_, rfl⟩
  rw [← hH] at hP
  have hS : va_S A s₀.heap H [] := by rw [hH]; exact hS
  refine k_heap hH ?_
  have hD : va_D A [(kX11 hx aLa aPa aGe aFl aTr aBe aLu aLo vSf vSm vCo vSh xs xl xf), (kX10 aTr aLa aPa aGe gL gR lf rt tgo tca tki tso tbe twe tle tan tco ten), (kX3 gL u0 u1 u2 u3), (kX3 gR v0 v1 v2 v3), (kX4 aLa vLa l4 a4 n4), (kAI vLa cI 24 f4), (kX7 aPa vPa l7 a7 n7), (kAI vPa cI 39 f7), (kX2 aGe vGe l2 a2 n2), (kAI vGe cI 23 f2), (kX1 aFl vFl xn), (kAI vFl cI 32 ff), (kX5 aLu vLu ab be), (kAJ vLu cJ 46 fl)] := hD
  obtain ⟨locs, hlo⟩ : ∃ z : List Loc, z = [] := ⟨_, rfl⟩
  rw [← hlo] at hS ⊢
  clear hlo hH hAe hD0
  refine lv_iload_n hx₀ hb dX11_laugh_0 rfl (lv_at hl 1 rfl) ?_
  refine lv_if_lt (tgt := 42) hx₀ hb dX11_laugh_1 (by decide) (fun c_1 => ?_) (fun c_1 => ?_)
  · refine lv_ldc2 (v := (-9223372036854775806)) hx₀ hb hown (hts (.constantLong RX11 210 (-9223372036854775806)) wd_764) dX11_laugh_42 ?_
    obtain ⟨hP9, hD9⟩ := k_c2 (wc := [(kX11 hx aLa aPa aGe aFl aTr aBe aLu aLo vSf vSm vCo vSh xs xl xf), (kX10 aTr aLa aPa aGe gL gR lf rt tgo tca tki tso tbe twe tle tan tco ten), (kX3 gL u0 u1 u2 u3), (kX3 gR v0 v1 v2 v3), (kX4 aLa vLa l4 a4 n4), (kAI vLa cI 24 f4), (kX7 aPa vPa l7 a7 n7), (kAI vPa cI 39 f7), (kX2 aGe vGe l2 a2 n2), (kAI vGe cI 23 f2), (kX1 aFl vFl xn), (kAI vFl cI 32 ff), (kX5 aLu vLu ab be), (kAJ vLu cJ 46 fl)]) hP hD [0, 1, 2, 3, 4, 5, 6, 7, 8, 9, 10, 11, 12, 13] (by decide +kernel) rfl
    exact W.lret (v := (-9223372036854775806)) hx₀ hb hr (fun t₀ ht hW => ⟨⟨(-9223372036854775806), (k_fn [u0, u1, u2, u3, v0, v1, v2, v3, tgo, tca, tki, tso, tbe, twe, tle, tan, tco, ten], k_fa [], k_fl [ab, be], k_fL [fl], k_fp [lf, rt]), rfl, trivial, by rw [ht]; exact hP9, va_K.moved hW.alike hK, hD9⟩, hS.F ht⟩) hS.2.2 dX11_laugh_45
  · refine lv_iload_n hx₀ hb dX11_laugh_4 rfl (lv_at hl 1 rfl) ?_
    refine lv_bipush (v := 16) hx₀ hb dX11_laugh_5 (by decide +kernel) ?_
    refine lv_icmp_gt (tgt := 42) hx₀ hb dX11_laugh_7 (by decide) (fun c_2 => ?_) (fun c_2 => ?_)
    · refine lv_ldc2 (v := (-9223372036854775806)) hx₀ hb hown (hts (.constantLong RX11 210 (-9223372036854775806)) wd_764) dX11_laugh_42 ?_
      obtain ⟨hP9, hD9⟩ := k_c2 (wc := [(kX11 hx aLa aPa aGe aFl aTr aBe aLu aLo vSf vSm vCo vSh xs xl xf), (kX10 aTr aLa aPa aGe gL gR lf rt tgo tca tki tso tbe twe tle tan tco ten), (kX3 gL u0 u1 u2 u3), (kX3 gR v0 v1 v2 v3), (kX4 aLa vLa l4 a4 n4), (kAI vLa cI 24 f4), (kX7 aPa vPa l7 a7 n7), (kAI vPa cI 39 f7), (kX2 aGe vGe l2 a2 n2), (kAI vGe cI 23 f2), (kX1 aFl vFl xn), (kAI vFl cI 32 ff), (kX5 aLu vLu ab be), (kAJ vLu cJ 46 fl)]) hP hD [0, 1, 2, 3, 4, 5, 6, 7, 8, 9, 10, 11, 12, 13] (by decide +kernel) rfl
      exact W.lret (v := (-9223372036854775806)) hx₀ hb hr (fun t₀ ht hW => ⟨⟨(-9223372036854775806), (k_fn [u0, u1, u2, u3, v0, v1, v2, v3, tgo, tca, tki, tso, tbe, twe, tle, tan, tco, ten], k_fa [], k_fl [ab, be], k_fL [fl], k_fp [lf, rt]), rfl, trivial, by rw [ht]; exact hP9, va_K.moved hW.alike hK, hD9⟩, hS.F ht⟩) hS.2.2 dX11_laugh_45
    · refine lv_aload_n hx₀ hb dX11_laugh_10 rfl (lv_at hl 0 rfl) ?_
      refine va_get (D := (dC, dI)) (ci := 10) (v := .ref aFl) (C := RX11) (T := TX11) (N := 15) hx₀ hb hts inlX11 hown hK hP 0 rfl rfl 3 (by decide) (hts (.fieldLink RX11 33 "BittenStick" "flights" "LBittenStick$Flights;") wd_27) (fun _ h9 => h9) rfl dX11_laugh_11 ?_
      refine lv_iload_n hx₀ hb dX11_laugh_14 rfl (lv_at hl 2 rfl) ?_
      obtain ⟨hPc, hDc, hFc, hC⟩ := k_cw (wc := [(kX1 aFl vFl xn)]) hP hD hS hA [10] (by decide +kernel) rfl
      refine va_calli (va_runV (As := [.int f1]) (rest := []) ⟨hx₀, hb, hml, hown, hts⟩ (j_fHas l dC dI cI cJ cQ H.size aFl f1 vFl xn) (cwV 1 hts (kGV wd_426 wd_423 wd_424 wd_425 wd_26) rfl rfl rfl (by decide +kernel) ⟨Nat.le_of_ble_eq_true rfl, Nat.le_of_ble_eq_true rfl⟩) (k_preV1 (q0 := 0) hK hPc hDc hN rfl) rfl rfl hl.1 rfl (lv_room (Nat.le_of_ble_eq_true rfl)) dX11_laugh_15 ⟨by decide +kernel, by decide +kernel⟩) hS (fun q _ h => hFc q h) hFc (fun r_3 u₀ t₀ H1 locs ht hvm hw hB hz1 hk1 hS => ?_)
      obtain ⟨hP1, hK1, hD1⟩ := hB
      rw [ht] at hP1
      have hJ := k_jn (wr := [(kX11 hx aLa aPa aGe aFl aTr aBe aLu aLo vSf vSm vCo vSh xs xl xf), (kX10 aTr aLa aPa aGe gL gR lf rt tgo tca tki tso tbe twe tle tan tco ten), (kX3 gL u0 u1 u2 u3), (kX3 gR v0 v1 v2 v3), (kX4 aLa vLa l4 a4 n4), (kAI vLa cI 24 f4), (kX7 aPa vPa l7 a7 n7), (kAI vPa cI 39 f7), (kX2 aGe vGe l2 a2 n2), (kAI vGe cI 23 f2), (kAI vFl cI 32 ff), (kX5 aLu vLu ab be), (kAJ vLu cJ 46 fl)]) (wt := [(kX11 hx aLa aPa aGe aFl aTr aBe aLu aLo vSf vSm vCo vSh xs xl xf), (kX10 aTr aLa aPa aGe gL gR lf rt tgo tca tki tso tbe twe tle tan tco ten), (kX3 gL u0 u1 u2 u3), (kX3 gR v0 v1 v2 v3), (kX4 aLa vLa l4 a4 n4), (kAI vLa cI 24 f4), (kX7 aPa vPa l7 a7 n7), (kAI vPa cI 39 f7), (kX2 aGe vGe l2 a2 n2), (kAI vGe cI 23 f2), (kAI vFl cI 32 ff), (kX5 aLu vLu ab be), (kAJ vLu cJ 46 fl), (kX1 aFl vFl xn)]) hP hD hC [0, 1, 2, 3, 4, 5, 6, 7, 8, 9, 11, 12, 13] rfl (by decide +kernel) (by decide +kernel) hk1 hFc hP1 hD1 rfl
      clear hP hD hPc hDc hFc hC hP1 hD1 hK1 hz1 hk1 hvm ht
      obtain ⟨hP, hD⟩ := hJ
      generalize H1 = H at hP hS ⊢
      try dsimp only at hw
      by_cases c_4 : 0 ≤ f1 ∧ f1 < xn
      · rw [if_pos c_4] at hw
        refine k_topi (v := 1) hw ?_
        refine lv_if_eq (tgt := 42) hx₀ hb dX11_laugh_18 (by decide) (fun c9 => absurd c9 (by decide +kernel)) (fun _ => ?_)
        refine lv_iload_n hx₀ hb dX11_laugh_21 rfl (lv_at hl 3 rfl) ?_
        refine lv_if_lt (tgt := 42) hx₀ hb dX11_laugh_22 (by decide) (fun c_5 => ?_) (fun c_5 => ?_)
        · refine lv_ldc2 (v := (-9223372036854775806)) hx₀ hb hown (hts (.constantLong RX11 210 (-9223372036854775806)) wd_764) dX11_laugh_42 ?_
          obtain ⟨hP9, hD9⟩ := k_c2 (wc := [(kX11 hx aLa aPa aGe aFl aTr aBe aLu aLo vSf vSm vCo vSh xs xl xf), (kX10 aTr aLa aPa aGe gL gR lf rt tgo tca tki tso tbe twe tle tan tco ten), (kX3 gL u0 u1 u2 u3), (kX3 gR v0 v1 v2 v3), (kX4 aLa vLa l4 a4 n4), (kAI vLa cI 24 f4), (kX7 aPa vPa l7 a7 n7), (kAI vPa cI 39 f7), (kX2 aGe vGe l2 a2 n2), (kAI vGe cI 23 f2), (kX1 aFl vFl xn), (kAI vFl cI 32 ff), (kX5 aLu vLu ab be), (kAJ vLu cJ 46 fl)]) hP hD [0, 1, 2, 3, 4, 5, 6, 7, 8, 9, 13, 10, 11, 12] (by decide +kernel) rfl
          exact W.lret (v := (-9223372036854775806)) hx₀ hb hr (fun t₀ ht hW => ⟨⟨(-9223372036854775806), (k_fn [u0, u1, u2, u3, v0, v1, v2, v3, tgo, tca, tki, tso, tbe, twe, tle, tan, tco, ten], k_fa [], k_fl [ab, be], k_fL [fl], k_fp [lf, rt]), rfl, trivial, by rw [ht]; exact hP9, va_K.moved hW.alike hK, hD9⟩, hS.F ht⟩) hS.2.2 dX11_laugh_45
        · refine lv_iload_n hx₀ hb dX11_laugh_25 rfl (lv_at hl 3 rfl) ?_
          refine lv_iconst (v := 1) hx₀ hb dX11_laugh_26 (by decide +kernel) ?_
          refine lv_icmp_gt (tgt := 42) hx₀ hb dX11_laugh_27 (by decide) (fun c_6 => ?_) (fun c_6 => ?_)
          · refine lv_ldc2 (v := (-9223372036854775806)) hx₀ hb hown (hts (.constantLong RX11 210 (-9223372036854775806)) wd_764) dX11_laugh_42 ?_
            obtain ⟨hP9, hD9⟩ := k_c2 (wc := [(kX11 hx aLa aPa aGe aFl aTr aBe aLu aLo vSf vSm vCo vSh xs xl xf), (kX10 aTr aLa aPa aGe gL gR lf rt tgo tca tki tso tbe twe tle tan tco ten), (kX3 gL u0 u1 u2 u3), (kX3 gR v0 v1 v2 v3), (kX4 aLa vLa l4 a4 n4), (kAI vLa cI 24 f4), (kX7 aPa vPa l7 a7 n7), (kAI vPa cI 39 f7), (kX2 aGe vGe l2 a2 n2), (kAI vGe cI 23 f2), (kX1 aFl vFl xn), (kAI vFl cI 32 ff), (kX5 aLu vLu ab be), (kAJ vLu cJ 46 fl)]) hP hD [0, 1, 2, 3, 4, 5, 6, 7, 8, 9, 13, 10, 11, 12] (by decide +kernel) rfl
            exact W.lret (v := (-9223372036854775806)) hx₀ hb hr (fun t₀ ht hW => ⟨⟨(-9223372036854775806), (k_fn [u0, u1, u2, u3, v0, v1, v2, v3, tgo, tca, tki, tso, tbe, twe, tle, tan, tco, ten], k_fa [], k_fl [ab, be], k_fL [fl], k_fp [lf, rt]), rfl, trivial, by rw [ht]; exact hP9, va_K.moved hW.alike hK, hD9⟩, hS.F ht⟩) hS.2.2 dX11_laugh_45
          · refine lv_aload_n hx₀ hb dX11_laugh_30 rfl (lv_at hl 0 rfl) ?_
            refine va_get (D := (dC, dI)) (ci := 10) (v := .ref aLa) (C := RX11) (T := TX11) (N := 15) hx₀ hb hts inlX11 hown hK hP 0 rfl rfl 0 (by decide) (hts (.fieldLink RX11 10 "BittenStick" "land" "LBittenStick$Land;") wd_15) (fun _ h9 => h9) rfl dX11_laugh_31 ?_
            obtain ⟨hPc, hDc, hFc, hC⟩ := k_cw (wc := [(kX4 aLa vLa l4 a4 n4), (kAI vLa cI 24 f4)]) hP hD hS hA [4, 5] (by decide +kernel) rfl
            refine va_calli (va_runV (As := []) (rest := []) ⟨hx₀, hb, hml, hown, hts⟩ (j_towns l dC dI cI cJ cQ H.size aLa vLa l4 a4 n4 f4) (cwV 0 hts (kGV wd_770 wd_767 wd_768 wd_769 wd_14) rfl rfl rfl (by decide +kernel) ⟨Nat.le_of_ble_eq_true rfl, Nat.le_of_ble_eq_true rfl⟩) (k_preV4 (q0 := 0) hK hPc hDc hN rfl) rfl rfl hl.1 rfl (lv_room (Nat.le_of_ble_eq_true rfl)) dX11_laugh_34 ⟨by decide +kernel, by decide +kernel⟩) hS (fun q _ h => hFc q h) hFc (fun r_7 u₀ t₀ H1 locs ht hvm hw hB hz1 hk1 hS => ?_)
            obtain ⟨hP1, hK1, hD1⟩ := hB
            rw [ht] at hP1
            have hJ := k_jn (wr := [(kX11 hx aLa aPa aGe aFl aTr aBe aLu aLo vSf vSm vCo vSh xs xl xf), (kX10 aTr aLa aPa aGe gL gR lf rt tgo tca tki tso tbe twe tle tan tco ten), (kX3 gL u0 u1 u2 u3), (kX3 gR v0 v1 v2 v3), (kX7 aPa vPa l7 a7 n7), (kAI vPa cI 39 f7), (kX2 aGe vGe l2 a2 n2), (kAI vGe cI 23 f2), (kAI vFl cI 32 ff), (kX5 aLu vLu ab be), (kAJ vLu cJ 46 fl), (kX1 aFl vFl xn)]) (wt := [(kX11 hx aLa aPa aGe aFl aTr aBe aLu aLo vSf vSm vCo vSh xs xl xf), (kX10 aTr aLa aPa aGe gL gR lf rt tgo tca tki tso tbe twe tle tan tco ten), (kX3 gL u0 u1 u2 u3), (kX3 gR v0 v1 v2 v3), (kX7 aPa vPa l7 a7 n7), (kAI vPa cI 39 f7), (kX2 aGe vGe l2 a2 n2), (kAI vGe cI 23 f2), (kAI vFl cI 32 ff), (kX5 aLu vLu ab be), (kAJ vLu cJ 46 fl), (kX1 aFl vFl xn), (kX4 aLa vLa l4 a4 n4), (kAI vLa cI 24 f4)]) hP hD hC [0, 1, 2, 3, 6, 7, 8, 9, 10, 11, 12, 13] rfl (by decide +kernel) (by decide +kernel) hk1 hFc hP1 hD1 rfl
            clear hP hD hPc hDc hFc hC hP1 hD1 hK1 hz1 hk1 hvm ht
            obtain ⟨hP, hD⟩ := hJ
            generalize H1 = H at hP hS ⊢
            try dsimp only at hw
            refine lv_bipush (v := 10) hx₀ hb dX11_laugh_37 (by decide +kernel) ?_
            refine lv_icmp_le (tgt := 46) hx₀ hb dX11_laugh_39 (by decide) (fun c_8 => ?_) (fun c_8 => ?_)
            · refine lv_aload_n hx₀ hb dX11_laugh_46 rfl (lv_at hl 0 rfl) ?_
              refine lv_iload_n hx₀ hb dX11_laugh_47 rfl (lv_at hl 2 rfl) ?_
              obtain ⟨hPc, hDc, hFc, hC⟩ := k_cw (wc := [(kX11 hx aLa aPa aGe aFl aTr aBe aLu aLo vSf vSm vCo vSh xs xl xf), (kX10 aTr aLa aPa aGe gL gR lf rt tgo tca tki tso tbe twe tle tan tco ten), (kX3 gL u0 u1 u2 u3), (kX3 gR v0 v1 v2 v3), (kX4 aLa vLa l4 a4 n4), (kAI vLa cI 24 f4), (kX7 aPa vPa l7 a7 n7), (kAI vPa cI 39 f7), (kX2 aGe vGe l2 a2 n2), (kAI vGe cI 23 f2), (kX1 aFl vFl xn), (kAI vFl cI 32 ff)]) hP hD hS hA [0, 1, 2, 3, 12, 13, 4, 5, 6, 7, 11, 8] (by decide +kernel) rfl
              refine va_callv (va_runV (As := [.int f1]) (rest := []) ⟨hx₀, hb, hml, hown, hts⟩ (j_prepare l dC dI cI cJ cQ H.size hx f1 aLa aPa aGe aFl aTr aBe aLu aLo vSf vSm vCo vSh xs xl xf gL gR lf rt tgo tca tki tso tbe twe tle tan tco ten u0 u1 u2 u3 v0 v1 v2 v3 vLa l4 a4 n4 f4 vPa l7 a7 n7 f7 vGe l2 a2 n2 f2 vFl xn ff (hh0) (hh1)) (cwV 1 hts (kGV wd_430 wd_427 wd_428 wd_429 wd_2) rfl rfl rfl (by decide +kernel) ⟨Nat.le_of_ble_eq_true rfl, Nat.le_of_ble_eq_true rfl⟩) (k_preV10 (q0 := 0) hK hPc hDc hN rfl) rfl rfl hl.1 rfl (lv_room (Nat.le_of_ble_eq_true rfl)) dX11_laugh_48 ⟨by decide +kernel, by decide +kernel⟩) hS (fun q _ h => hFc q h) hFc (fun u₀ t₀ H1 locs ht hvm hw hB hz1 hk1 hS => ?_)
              obtain ⟨g_10, ga_11, gl_12, gb_13, gp_14⟩ := u₀
              obtain ⟨hP1, hK1, hD1⟩ := hB
              rw [ht] at hP1
              have hJ := k_jn (wr := [(kX5 aLu vLu ab be), (kAJ vLu cJ 46 fl)]) (wt := [(kX5 aLu vLu ab be), (kAJ vLu cJ 46 fl), (kX11 hx aLa aPa aGe aFl aTr aBe aLu aLo vSf vSm vCo vSh xs xl xf), (kX10 aTr aLa aPa aGe gL gR (gp_14 0) (gp_14 1) (g_10 8) (g_10 9) (g_10 10) (g_10 11) (g_10 12) (g_10 13) (g_10 14) (g_10 15) (g_10 16) (g_10 17)), (kX3 gL (g_10 0) (g_10 1) (g_10 2) (g_10 3)), (kX3 gR (g_10 4) (g_10 5) (g_10 6) (g_10 7)), (kX4 aLa vLa l4 a4 n4), (kAI vLa cI 24 f4), (kX7 aPa vPa l7 a7 n7), (kAI vPa cI 39 f7), (kX2 aGe vGe l2 a2 n2), (kAI vGe cI 23 f2), (kX1 aFl vFl xn), (kAI vFl cI 32 ff)]) hP hD hC [9, 10] rfl (by decide +kernel) (by decide +kernel) hk1 hFc hP1 hD1 rfl
              clear hP hD hPc hDc hFc hC hP1 hD1 hK1 hz1 hk1 hvm ht
              obtain ⟨hP, hD⟩ := hJ
              generalize H1 = H at hP hS ⊢
              try dsimp only at hw
              obtain ⟨c_15, c_16, c_17, c_18, c_19, c_20, c_21⟩ := hw
              refine lv_aload_n hx₀ hb dX11_laugh_51 rfl (lv_at hl 0 rfl) ?_
              refine va_get (D := (dC, dI)) (ci := 10) (v := .ref aLu) (C := RX11) (T := TX11) (N := 15) hx₀ hb hts inlX11 hown hK hP 2 rfl rfl 6 (by decide) (hts (.fieldLink RX11 56 "BittenStick" "laughter" "LBittenStick$Laughter;") wd_39) (fun _ h9 => h9) rfl dX11_laugh_52 ?_
              refine lv_iload_n hx₀ hb dX11_laugh_55 rfl (lv_at hl 1 rfl) ?_
              refine lv_aload_n hx₀ hb dX11_laugh_56 rfl (lv_at hl 0 rfl) ?_
              refine va_get (D := (dC, dI)) (ci := 10) (v := .ref aTr) (C := RX11) (T := TX11) (N := 15) hx₀ hb hts inlX11 hown hK hP 2 rfl rfl 4 (by decide) (hts (.fieldLink RX11 42 "BittenStick" "trip" "LBittenStick$Trip;") wd_31) (fun _ h9 => h9) rfl dX11_laugh_57 ?_
              refine lv_aload_n hx₀ hb dX11_laugh_60 rfl (lv_at hl 0 rfl) ?_
              refine va_get (D := (dC, dI)) (ci := 10) (v := .ref aFl) (C := RX11) (T := TX11) (N := 15) hx₀ hb hts inlX11 hown hK hP 2 rfl rfl 3 (by decide) (hts (.fieldLink RX11 33 "BittenStick" "flights" "LBittenStick$Flights;") wd_27) (fun _ h9 => h9) rfl dX11_laugh_61 ?_
              refine lv_iload_n hx₀ hb dX11_laugh_64 rfl (lv_at hl 2 rfl) ?_
              obtain ⟨hPc, hDc, hFc, hC⟩ := k_cw (wc := [(kX1 aFl vFl xn), (kAI vFl cI 32 ff)]) hP hD hS hA [12, 13] (by decide +kernel) rfl
              refine va_calli (va_runV (As := [.int f1]) (rest := [.ref aTr, .int c1, .ref aLu]) ⟨hx₀, hb, hml, hown, hts⟩ (j_heightOf l dC dI cI cJ cQ H.size aFl f1 vFl xn ff (hh1)) (cwV 1 hts (kGV wd_491 wd_488 wd_489 wd_490 wd_26) rfl rfl rfl (by decide +kernel) ⟨Nat.le_of_ble_eq_true rfl, Nat.le_of_ble_eq_true rfl⟩) (k_preV1 (q0 := 0) hK hPc hDc hN rfl) rfl rfl hl.1 rfl (lv_room (Nat.le_of_ble_eq_true rfl)) dX11_laugh_65 ⟨by decide +kernel, by decide +kernel⟩) hS (fun q _ h => hFc q h) hFc (fun r_22 u₀ t₀ H1 locs ht hvm hw hB hz1 hk1 hS => ?_)
              obtain ⟨hP1, hK1, hD1⟩ := hB
              rw [ht] at hP1
              have hJ := k_jn (wr := [(kX5 aLu vLu ab be), (kAJ vLu cJ 46 fl), (kX11 hx aLa aPa aGe aFl aTr aBe aLu aLo vSf vSm vCo vSh xs xl xf), (kX10 aTr aLa aPa aGe gL gR (gp_14 0) (gp_14 1) (g_10 8) (g_10 9) (g_10 10) (g_10 11) (g_10 12) (g_10 13) (g_10 14) (g_10 15) (g_10 16) (g_10 17)), (kX3 gL (g_10 0) (g_10 1) (g_10 2) (g_10 3)), (kX3 gR (g_10 4) (g_10 5) (g_10 6) (g_10 7)), (kX4 aLa vLa l4 a4 n4), (kAI vLa cI 24 f4), (kX7 aPa vPa l7 a7 n7), (kAI vPa cI 39 f7), (kX2 aGe vGe l2 a2 n2), (kAI vGe cI 23 f2)]) (wt := [(kX5 aLu vLu ab be), (kAJ vLu cJ 46 fl), (kX11 hx aLa aPa aGe aFl aTr aBe aLu aLo vSf vSm vCo vSh xs xl xf), (kX10 aTr aLa aPa aGe gL gR (gp_14 0) (gp_14 1) (g_10 8) (g_10 9) (g_10 10) (g_10 11) (g_10 12) (g_10 13) (g_10 14) (g_10 15) (g_10 16) (g_10 17)), (kX3 gL (g_10 0) (g_10 1) (g_10 2) (g_10 3)), (kX3 gR (g_10 4) (g_10 5) (g_10 6) (g_10 7)), (kX4 aLa vLa l4 a4 n4), (kAI vLa cI 24 f4), (kX7 aPa vPa l7 a7 n7), (kAI vPa cI 39 f7), (kX2 aGe vGe l2 a2 n2), (kAI vGe cI 23 f2), (kX1 aFl vFl xn), (kAI vFl cI 32 ff)]) hP hD hC [0, 1, 2, 3, 4, 5, 6, 7, 8, 9, 10, 11] rfl (by decide +kernel) (by decide +kernel) hk1 hFc hP1 hD1 rfl
              clear hP hD hPc hDc hFc hC hP1 hD1 hK1 hz1 hk1 hvm ht
              obtain ⟨hP, hD⟩ := hJ
              generalize H1 = H at hP hS ⊢
              try dsimp only at hw
              refine k_topi (v := kIt xn ff f1 3) hw ?_
              obtain ⟨hPc, hDc, hFc, hC⟩ := k_cw (wc := [(kX5 aLu vLu ab be), (kAJ vLu cJ 46 fl), (kX10 aTr aLa aPa aGe gL gR (gp_14 0) (gp_14 1) (g_10 8) (g_10 9) (g_10 10) (g_10 11) (g_10 12) (g_10 13) (g_10 14) (g_10 15) (g_10 16) (g_10 17)), (kX4 aLa vLa l4 a4 n4), (kAI vLa cI 24 f4)]) hP hD hS hA [0, 1, 3, 6, 7] (by decide +kernel) rfl
              refine va_callv (va_runV (As := [.int c1, .ref aTr, .int (kIt xn ff f1 3)]) (rest := []) ⟨hx₀, hb, hml, hown, hts⟩ (j_weigh l dC dI cI cJ cQ H.size aLu c1 aTr (kIt xn ff f1 3) vLu ab be fl aLa aPa aGe gL gR (gp_14 0) (gp_14 1) (g_10 8) (g_10 9) (g_10 10) (g_10 11) (g_10 12) (g_10 13) (g_10 14) (g_10 15) (g_10 16) (g_10 17) vLa l4 a4 n4 f4) (cwV 3 hts (kGV wd_776 wd_773 wd_774 wd_775 wd_38) rfl rfl rfl (by decide +kernel) ⟨Nat.le_of_ble_eq_true rfl, Nat.le_of_ble_eq_true rfl⟩) (k_preV5 (q0 := 0) hK hPc hDc hN rfl) rfl rfl hl.1 rfl (lv_room (Nat.le_of_ble_eq_true rfl)) dX11_laugh_68 ⟨by decide +kernel, by decide +kernel⟩) hS (fun q _ h => hFc q h) hFc (fun u₀ t₀ H1 locs ht hvm hw hB hz1 hk1 hS => ?_)
              obtain ⟨g_24, ga_25, gl_26, gb_27, gp_28⟩ := u₀
              obtain ⟨hP1, hK1, hD1⟩ := hB
              rw [ht] at hP1
              have hJ := k_jn (wr := [(kX11 hx aLa aPa aGe aFl aTr aBe aLu aLo vSf vSm vCo vSh xs xl xf), (kX3 gL (g_10 0) (g_10 1) (g_10 2) (g_10 3)), (kX3 gR (g_10 4) (g_10 5) (g_10 6) (g_10 7)), (kX7 aPa vPa l7 a7 n7), (kAI vPa cI 39 f7), (kX2 aGe vGe l2 a2 n2), (kAI vGe cI 23 f2), (kX1 aFl vFl xn), (kAI vFl cI 32 ff)]) (wt := [(kX11 hx aLa aPa aGe aFl aTr aBe aLu aLo vSf vSm vCo vSh xs xl xf), (kX3 gL (g_10 0) (g_10 1) (g_10 2) (g_10 3)), (kX3 gR (g_10 4) (g_10 5) (g_10 6) (g_10 7)), (kX7 aPa vPa l7 a7 n7), (kAI vPa cI 39 f7), (kX2 aGe vGe l2 a2 n2), (kAI vGe cI 23 f2), (kX1 aFl vFl xn), (kAI vFl cI 32 ff), (kX5 aLu vLu (gl_26 0) (gl_26 1)), (kAJ vLu cJ 46 (gb_27 0)), (kX10 aTr aLa aPa aGe gL gR (gp_14 0) (gp_14 1) (g_10 8) (g_10 9) (g_10 10) (g_10 11) (g_10 12) (g_10 13) (g_10 14) (g_10 15) (g_10 16) (g_10 17)), (kX4 aLa vLa l4 a4 n4), (kAI vLa cI 24 f4)]) hP hD hC [2, 4, 5, 8, 9, 10, 11, 12, 13] rfl (by decide +kernel) (by decide +kernel) hk1 hFc hP1 hD1 rfl
              clear hP hD hPc hDc hFc hC hP1 hD1 hK1 hz1 hk1 hvm ht
              obtain ⟨hP, hD⟩ := hJ
              generalize H1 = H at hP hS ⊢
              refine lv_iload_n hx₀ hb dX11_laugh_71 rfl (lv_at hl 3 rfl) ?_
              refine lv_if_ne (tgt := 85) hx₀ hb dX11_laugh_72 (by decide) (fun c_29 => ?_) (fun c_29 => ?_)
              · refine lv_aload_n hx₀ hb dX11_laugh_85 rfl (lv_at hl 0 rfl) ?_
                refine va_get (D := (dC, dI)) (ci := 10) (v := .ref aLu) (C := RX11) (T := TX11) (N := 15) hx₀ hb hts inlX11 hown hK hP 0 rfl rfl 6 (by decide) (hts (.fieldLink RX11 56 "BittenStick" "laughter" "LBittenStick$Laughter;") wd_39) (fun _ h9 => h9) rfl dX11_laugh_86 ?_
                refine va_get (D := (dC, dI)) (ci := 5) (v := .long (gl_26 1)) (C := RX5) (T := TX5) (N := 3) hx₀ hb hts inlX5 hown hK hP 9 rfl rfl 2 (by decide) (hts (.fieldLink RX11 220 "BittenStick$Laughter" "below" "J") wd_766) (fun _ h9 => h9) rfl dX11_laugh_89 ?_
                obtain ⟨hP9, hD9⟩ := k_c2 (wc := [(kX11 hx aLa aPa aGe aFl aTr aBe aLu aLo vSf vSm vCo vSh xs xl xf), (kX10 aTr aLa aPa aGe gL gR (gp_14 0) (gp_14 1) (g_10 8) (g_10 9) (g_10 10) (g_10 11) (g_10 12) (g_10 13) (g_10 14) (g_10 15) (g_10 16) (g_10 17)), (kX3 gL (g_10 0) (g_10 1) (g_10 2) (g_10 3)), (kX3 gR (g_10 4) (g_10 5) (g_10 6) (g_10 7)), (kX4 aLa vLa l4 a4 n4), (kAI vLa cI 24 f4), (kX7 aPa vPa l7 a7 n7), (kAI vPa cI 39 f7), (kX2 aGe vGe l2 a2 n2), (kAI vGe cI 23 f2), (kX1 aFl vFl xn), (kAI vFl cI 32 ff), (kX5 aLu vLu (gl_26 0) (gl_26 1)), (kAJ vLu cJ 46 (gb_27 0))]) hP hD [0, 11, 1, 2, 12, 13, 3, 4, 5, 6, 7, 8, 9, 10] (by decide +kernel) rfl
                exact W.lret (v := gl_26 1) hx₀ hb hr (fun t₀ ht hW => ⟨⟨gl_26 1, (k_fn [(g_10 0), (g_10 1), (g_10 2), (g_10 3), (g_10 4), (g_10 5), (g_10 6), (g_10 7), (g_10 8), (g_10 9), (g_10 10), (g_10 11), (g_10 12), (g_10 13), (g_10 14), (g_10 15), (g_10 16), (g_10 17)], k_fa [], k_fl [(gl_26 0), (gl_26 1)], k_fL [gb_27 0], k_fp [(gp_14 0), (gp_14 1)]), rfl, trivial, by rw [ht]; exact hP9, va_K.moved hW.alike hK, hD9⟩, hS.F ht⟩) hS.2.2 dX11_laugh_92
              · refine lv_aload_n hx₀ hb dX11_laugh_75 rfl (lv_at hl 0 rfl) ?_
                refine va_get (D := (dC, dI)) (ci := 10) (v := .ref aLu) (C := RX11) (T := TX11) (N := 15) hx₀ hb hts inlX11 hown hK hP 0 rfl rfl 6 (by decide) (hts (.fieldLink RX11 56 "BittenStick" "laughter" "LBittenStick$Laughter;") wd_39) (fun _ h9 => h9) rfl dX11_laugh_76 ?_
                refine va_get (D := (dC, dI)) (ci := 5) (v := .long (gl_26 0)) (C := RX5) (T := TX5) (N := 3) hx₀ hb hts inlX5 hown hK hP 9 rfl rfl 1 (by decide) (hts (.fieldLink RX11 216 "BittenStick$Laughter" "above" "J") wd_765) (fun _ h9 => h9) rfl dX11_laugh_79 ?_
                refine lv_goto (tgt := 92) hx₀ hb dX11_laugh_82 (by decide) ?_
                obtain ⟨hP9, hD9⟩ := k_c2 (wc := [(kX11 hx aLa aPa aGe aFl aTr aBe aLu aLo vSf vSm vCo vSh xs xl xf), (kX10 aTr aLa aPa aGe gL gR (gp_14 0) (gp_14 1) (g_10 8) (g_10 9) (g_10 10) (g_10 11) (g_10 12) (g_10 13) (g_10 14) (g_10 15) (g_10 16) (g_10 17)), (kX3 gL (g_10 0) (g_10 1) (g_10 2) (g_10 3)), (kX3 gR (g_10 4) (g_10 5) (g_10 6) (g_10 7)), (kX4 aLa vLa l4 a4 n4), (kAI vLa cI 24 f4), (kX7 aPa vPa l7 a7 n7), (kAI vPa cI 39 f7), (kX2 aGe vGe l2 a2 n2), (kAI vGe cI 23 f2), (kX1 aFl vFl xn), (kAI vFl cI 32 ff), (kX5 aLu vLu (gl_26 0) (gl_26 1)), (kAJ vLu cJ 46 (gb_27 0))]) hP hD [0, 11, 1, 2, 12, 13, 3, 4, 5, 6, 7, 8, 9, 10] (by decide +kernel) rfl
                exact W.lret (v := gl_26 0) hx₀ hb hr (fun t₀ ht hW => ⟨⟨gl_26 0, (k_fn [(g_10 0), (g_10 1), (g_10 2), (g_10 3), (g_10 4), (g_10 5), (g_10 6), (g_10 7), (g_10 8), (g_10 9), (g_10 10), (g_10 11), (g_10 12), (g_10 13), (g_10 14), (g_10 15), (g_10 16), (g_10 17)], k_fa [], k_fl [(gl_26 0), (gl_26 1)], k_fL [gb_27 0], k_fp [(gp_14 0), (gp_14 1)]), rfl, trivial, by rw [ht]; exact hP9, va_K.moved hW.alike hK, hD9⟩, hS.F ht⟩) hS.2.2 dX11_laugh_92
            · refine lv_ldc2 (v := (-9223372036854775806)) hx₀ hb hown (hts (.constantLong RX11 210 (-9223372036854775806)) wd_764) dX11_laugh_42 ?_
              obtain ⟨hP9, hD9⟩ := k_c2 (wc := [(kX11 hx aLa aPa aGe aFl aTr aBe aLu aLo vSf vSm vCo vSh xs xl xf), (kX10 aTr aLa aPa aGe gL gR lf rt tgo tca tki tso tbe twe tle tan tco ten), (kX3 gL u0 u1 u2 u3), (kX3 gR v0 v1 v2 v3), (kX4 aLa vLa l4 a4 n4), (kAI vLa cI 24 f4), (kX7 aPa vPa l7 a7 n7), (kAI vPa cI 39 f7), (kX2 aGe vGe l2 a2 n2), (kAI vGe cI 23 f2), (kX1 aFl vFl xn), (kAI vFl cI 32 ff), (kX5 aLu vLu ab be), (kAJ vLu cJ 46 fl)]) hP hD [0, 1, 2, 3, 12, 13, 4, 5, 6, 7, 11, 8, 9, 10] (by decide +kernel) rfl
              exact W.lret (v := (-9223372036854775806)) hx₀ hb hr (fun t₀ ht hW => ⟨⟨(-9223372036854775806), (k_fn [u0, u1, u2, u3, v0, v1, v2, v3, tgo, tca, tki, tso, tbe, twe, tle, tan, tco, ten], k_fa [], k_fl [ab, be], k_fL [fl], k_fp [lf, rt]), rfl, trivial, by rw [ht]; exact hP9, va_K.moved hW.alike hK, hD9⟩, hS.F ht⟩) hS.2.2 dX11_laugh_45
      rw [if_neg c_4] at hw
      refine k_topi (v := 0) hw ?_
      refine lv_if_eq (tgt := 42) hx₀ hb dX11_laugh_18 (by decide) (fun _ => ?_) (fun c9 => absurd (by decide +kernel) c9)
      refine lv_ldc2 (v := (-9223372036854775806)) hx₀ hb hown (hts (.constantLong RX11 210 (-9223372036854775806)) wd_764) dX11_laugh_42 ?_
      obtain ⟨hP9, hD9⟩ := k_c2 (wc := [(kX11 hx aLa aPa aGe aFl aTr aBe aLu aLo vSf vSm vCo vSh xs xl xf), (kX10 aTr aLa aPa aGe gL gR lf rt tgo tca tki tso tbe twe tle tan tco ten), (kX3 gL u0 u1 u2 u3), (kX3 gR v0 v1 v2 v3), (kX4 aLa vLa l4 a4 n4), (kAI vLa cI 24 f4), (kX7 aPa vPa l7 a7 n7), (kAI vPa cI 39 f7), (kX2 aGe vGe l2 a2 n2), (kAI vGe cI 23 f2), (kX1 aFl vFl xn), (kAI vFl cI 32 ff), (kX5 aLu vLu ab be), (kAJ vLu cJ 46 fl)]) hP hD [0, 1, 2, 3, 4, 5, 6, 7, 8, 9, 13, 10, 11, 12] (by decide +kernel) rfl
      exact W.lret (v := (-9223372036854775806)) hx₀ hb hr (fun t₀ ht hW => ⟨⟨(-9223372036854775806), (k_fn [u0, u1, u2, u3, v0, v1, v2, v3, tgo, tca, tki, tso, tbe, twe, tle, tan, tco, ten], k_fa [], k_fl [ab, be], k_fL [fl], k_fp [lf, rt]), rfl, trivial, by rw [ht]; exact hP9, va_K.moved hW.alike hK, hD9⟩, hS.F ht⟩) hS.2.2 dX11_laugh_45
theorem lf_j_lakes_1 (a0 : Int32) (a1 : Int32) (a2 : Nat) (h0 : ¬ a0 < 1) (h1 : ¬ 99 < a0) (h2 : 0 ≤ a1) (h3 : (a0.toInt - a1.toInt).toNat = a2) (h4 : ¬ a0 ≤ a1) : 0 ≤ (a1 + 1) := by
  first | (first | omega | (have hr0 := Int32.toInt_lt a0; have hs0 := Int32.le_toInt a0; have hr1 := Int32.toInt_lt a1; have hs1 := Int32.le_toInt a1; simp only [Int64.toInt_add, Int64.toInt_sub, Int32.toInt_add, Int32.toInt_sub, Int32.toInt_mul, Int64.le_iff_toInt_le, Int64.lt_iff_toInt_lt, Int32.le_iff_toInt_le, Int32.lt_iff_toInt_lt, ← Int32.toInt_inj, ← Int64.toInt_inj, Int32.toInt_toInt64, kc_0, kc_1, kc_99, true_and, and_true, not_true_eq_false, not_false_eq_true] at * <;> ((first | omega | ((try simp (disch := omega) only [k_bm64] at *); (try simp (disch := omega) only [k_bm] at *); (try simp (disch := omega) only [k_bm] at *); omega) | (simp only [Int.bmod] at *; omega))))) | with_reducible assumption | rfl
theorem lf_j_lakes_2 (a0 : Int32) (a1 : Int32) (a2 : Nat) (h0 : ¬ a0 < 1) (h1 : ¬ 99 < a0) (h2 : 0 ≤ a1) (h3 : (a0.toInt - a1.toInt).toNat = a2) (h4 : ¬ a0 ≤ a1) : (a0.toInt - (a1 + 1).toInt).toNat < a2 := by
  first | (first | omega | (have hr0 := Int32.toInt_lt a0; have hs0 := Int32.le_toInt a0; have hr1 := Int32.toInt_lt a1; have hs1 := Int32.le_toInt a1; simp only [Int64.toInt_add, Int64.toInt_sub, Int32.toInt_add, Int32.toInt_sub, Int32.toInt_mul, Int64.le_iff_toInt_le, Int64.lt_iff_toInt_lt, Int32.le_iff_toInt_le, Int32.lt_iff_toInt_lt, ← Int32.toInt_inj, ← Int64.toInt_inj, Int32.toInt_toInt64, kc_0, kc_1, kc_99, true_and, and_true, not_true_eq_false, not_false_eq_true] at * <;> ((first | omega | ((try simp (disch := omega) only [k_bm64] at *); (try simp (disch := omega) only [k_bm] at *); (try simp (disch := omega) only [k_bm] at *); omega) | (simp only [Int.bmod] at *; omega))))) | with_reducible assumption | rfl
set_option maxHeartbeats 4000000 in
set_option maxRecDepth 100000 in
theorem j_lakes (l : Launch) (dC : Nat → ClassId) (dI : Nat → Nat → Nat) (cI cJ cQ : ClassId) (sz : Nat) (hx : Nat) (z1 : Int32) (nn : Int32) (w1 : Int32) (aLa : Nat) (aPa : Nat) (aGe : Nat) (aFl : Nat) (aTr : Nat) (aBe : Nat) (aLu : Nat) (aLo : Nat) (vSf : Nat) (vSm : Nat) (vCo : Nat) (vSh : Nat) (xs : Int32) (xl : Int32) (xf : Int32) (gL : Nat) (gR : Nat) (lf : Nat) (rt : Nat) (tgo : Int32) (tca : Int32) (tki : Int32) (tso : Int32) (tbe : Int32) (twe : Int32) (tle : Int32) (tan : Int32) (tco : Int32) (ten : Int32) (u0 : Int32) (u1 : Int32) (u2 : Int32) (u3 : Int32) (v0 : Int32) (v1 : Int32) (v2 : Int32) (v3 : Int32) (vLa : Nat) (l4 : Int32) (a4 : Int32) (n4 : Int32) (f4 : Nat → Int32) (vPa : Nat) (l7 : Int32) (a7 : Int32) (n7 : Int32) (f7 : Nat → Int32) (vGe : Nat) (l2 : Int32) (a2 : Int32) (n2 : Int32) (f2 : Nat → Int32) (vFl : Nat) (xn : Int32) (ff : Nat → Int32) (sd : Int32) (hh0 : 0 ≤ n4 ∧ n4 ≤ 24) (hh1 : 0 ≤ xn ∧ xn ≤ 8) : Met l yX11_lakes (kW yX11_lakes cX11_lakes 10 (some .int)) { frames := 3, cells := 0, slots := 0, locals := 70 } (kPre dC dI cI cJ cQ sz [.ref hx, .int z1, .int nn, .int w1] [(kX11 hx aLa aPa aGe aFl aTr aBe aLu aLo vSf vSm vCo vSh xs xl xf), (kX10 aTr aLa aPa aGe gL gR lf rt tgo tca tki tso tbe twe tle tan tco ten), (kX3 gL u0 u1 u2 u3), (kX3 gR v0 v1 v2 v3), (kX4 aLa vLa l4 a4 n4), (kAI vLa cI 24 f4), (kX7 aPa vPa l7 a7 n7), (kAI vPa cI 39 f7), (kX2 aGe vGe l2 a2 n2), (kAI vGe cI 23 f2), (kX1 aFl vFl xn), (kAI vFl cI 32 ff), (kX6 aLo sd)]) (va_Qi (fun (r : Int32) (u : kS) => True) (fun (u : kS) t₀ => kB dC dI cI cJ cQ (va_A [(kX11 hx aLa aPa aGe aFl aTr aBe aLu aLo vSf vSm vCo vSh xs xl xf), (kX10 aTr aLa aPa aGe gL gR lf rt tgo tca tki tso tbe twe tle tan tco ten), (kX3 gL u0 u1 u2 u3), (kX3 gR v0 v1 v2 v3), (kX4 aLa vLa l4 a4 n4), (kAI vLa cI 24 f4), (kX7 aPa vPa l7 a7 n7), (kAI vPa cI 39 f7), (kX2 aGe vGe l2 a2 n2), (kAI vGe cI 23 f2), (kX1 aFl vFl xn), (kAI vFl cI 32 ff), (kX6 aLo sd)] sz) [(kX11 hx aLa aPa aGe aFl aTr aBe aLu aLo vSf vSm vCo vSh xs xl xf), (kX10 aTr aLa aPa aGe gL gR (u.2.2.2.2 0) (u.2.2.2.2 1) (u.1 8) (u.1 9) (u.1 10) (u.1 11) (u.1 12) (u.1 13) (u.1 14) (u.1 15) (u.1 16) (u.1 17)), (kX3 gL (u.1 0) (u.1 1) (u.1 2) (u.1 3)), (kX3 gR (u.1 4) (u.1 5) (u.1 6) (u.1 7)), (kX4 aLa vLa l4 a4 n4), (kAI vLa cI 24 f4), (kX7 aPa vPa l7 a7 n7), (kAI vPa cI 39 f7), (kX2 aGe vGe l2 a2 n2), (kAI vGe cI 23 f2), (kX1 aFl vFl xn), (kAI vFl cI 32 ff), (kX6 aLo (u.1 18))] t₀) (va_A [(kX11 hx aLa aPa aGe aFl aTr aBe aLu aLo vSf vSm vCo vSh xs xl xf), (kX10 aTr aLa aPa aGe gL gR lf rt tgo tca tki tso tbe twe tle tan tco ten), (kX3 gL u0 u1 u2 u3), (kX3 gR v0 v1 v2 v3), (kX4 aLa vLa l4 a4 n4), (kAI vLa cI 24 f4), (kX7 aPa vPa l7 a7 n7), (kAI vPa cI 39 f7), (kX2 aGe vGe l2 a2 n2), (kAI vGe cI 23 f2), (kX1 aFl vFl xn), (kAI vFl cI 32 ff), (kX6 aLo sd)] sz)) 0 0 (va_A [(kX11 hx aLa aPa aGe aFl aTr aBe aLu aLo vSf vSm vCo vSh xs xl xf), (kX10 aTr aLa aPa aGe gL gR lf rt tgo tca tki tso tbe twe tle tan tco ten), (kX3 gL u0 u1 u2 u3), (kX3 gR v0 v1 v2 v3), (kX4 aLa vLa l4 a4 n4), (kAI vLa cI 24 f4), (kX7 aPa vPa l7 a7 n7), (kAI vPa cI 39 f7), (kX2 aGe vGe l2 a2 n2), (kAI vGe cI 23 f2), (kX1 aFl vFl xn), (kAI vFl cI 32 ff), (kX6 aLo sd)] sz) := by
  refine Met.ofW (cc := cX11_lakes) (maxL := 10) (ret := (some .int)) (by decide) rfl ?_
  intro p₀ e₀ s₀ m₀ args below meth c₀ s₁ B hml hv₀
  obtain ⟨rfl, hsz, hP, hK, hD0, hN⟩ := hv₀
  have hx₀ := B.exec
  have hb := B.bytes
  have hr := B.returns
  have hts := atoms_spec (ws := (kW yX11_lakes cX11_lakes 10 (some .int))) B.pre
  have hts := fun w h => hts w (List.mem_cons_of_mem _ h)
  have hown : s₀.vm.findClass RX11 = some m₀.cls := findClass_of_methodNamed B.named
  have hlocks := B.notSynchronized
  subst hsz
  have hD := hD0.self (sz := s₀.heap.size)
  generalize hAe : va_A [(kX11 hx aLa aPa aGe aFl aTr aBe aLu aLo vSf vSm vCo vSh xs xl xf), (kX10 aTr aLa aPa aGe gL gR lf rt tgo tca tki tso tbe twe tle tan tco ten), (kX3 gL u0 u1 u2 u3), (kX3 gR v0 v1 v2 v3), (kX4 aLa vLa l4 a4 n4), (kAI vLa cI 24 f4), (kX7 aPa vPa l7 a7 n7), (kAI vPa cI 39 f7), (kX2 aGe vGe l2 a2 n2), (kAI vGe cI 23 f2), (kX1 aFl vFl xn), (kAI vFl cI 32 ff), (kX6 aLo sd)] s₀.heap.size = A at hD ⊢
  have hA : ∀ q : Nat, s₀.heap.size ≤ q → A q := fun q h => by rw [← hAe]; exact Or.inr h
  have hS : va_S A s₀.heap s₀.heap [] := va_S.rf
  have hP : va_P (dC, dI) vwCl [(kX11 hx aLa aPa aGe aFl aTr aBe aLu aLo vSf vSm vCo vSh xs xl xf), (kX10 aTr aLa aPa aGe gL gR lf rt tgo tca tki tso tbe twe tle tan tco ten), (kX3 gL u0 u1 u2 u3), (kX3 gR v0 v1 v2 v3), (kX4 aLa vLa l4 a4 n4), (kAI vLa cI 24 f4), (kX7 aPa vPa l7 a7 n7), (kAI vPa cI 39 f7), (kX2 aGe vGe l2 a2 n2), (kAI vGe cI 23 f2), (kX1 aFl vFl xn), (kAI vFl cI 32 ff), (kX6 aLo sd)] s₀.heap := hP
  have hl := lv_entry ([.ref hx, .int z1, .int nn, .int w1]) (n := 10) (Nat.le_of_ble_eq_true rfl)
  rw [lg_entry_eq]
  generalize (lg_sl ([.ref hx, .int z1, .int nn, .int w1]) ++ List.replicate (10 - (lg_sl ([.ref hx, .int z1, .int nn, .int w1])).length) Slot.unset).toArray = ls at hl ⊢
  have hl : lv_has ls 10 [(0, .ref hx), (1, .int z1), (2, .int nn), (3, .int w1)] := hl
  obtain ⟨H, hH⟩ : ∃ z : Heap, z = s₀.heap := ⟨_, rfl⟩
  rw [← hH] at hP
  have hS : va_S A s₀.heap H [] := by rw [hH]; exact hS
  refine k_heap hH ?_
  have hD : va_D A [(kX11 hx aLa aPa aGe aFl aTr aBe aLu aLo vSf vSm vCo vSh xs xl xf), (kX10 aTr aLa aPa aGe gL gR lf rt tgo tca tki tso tbe twe tle tan tco ten), (kX3 gL u0 u1 u2 u3), (kX3 gR v0 v1 v2 v3), (kX4 aLa vLa l4 a4 n4), (kAI vLa cI 24 f4), (kX7 aPa vPa l7 a7 n7), (kAI vPa cI 39 f7), (kX2 aGe vGe l2 a2 n2), (kAI vGe cI 23 f2), (kX1 aFl vFl xn), (kAI vFl cI 32 ff), (kX6 aLo sd)] := hD
  obtain ⟨locs, hlo⟩ : ∃ z : List Loc, z = [] := ⟨_, rfl⟩
  rw [← hlo] at hS ⊢
  clear hlo hH hAe hD0
  refine lv_iload_n hx₀ hb dX11_lakes_0 rfl (lv_at hl 2 rfl) ?_
  refine lv_iconst (v := 1) hx₀ hb dX11_lakes_1 (by decide +kernel) ?_
  refine lv_icmp_lt (tgt := 20) hx₀ hb dX11_lakes_2 (by decide) (fun c_1 => ?_) (fun c_1 => ?_)
  · refine lv_bipush (v := (-2)) hx₀ hb dX11_lakes_20 (by decide +kernel) ?_
    obtain ⟨hP9, hD9⟩ := k_c2 (wc := [(kX11 hx aLa aPa aGe aFl aTr aBe aLu aLo vSf vSm vCo vSh xs xl xf), (kX10 aTr aLa aPa aGe gL gR lf rt tgo tca tki tso tbe twe tle tan tco ten), (kX3 gL u0 u1 u2 u3), (kX3 gR v0 v1 v2 v3), (kX4 aLa vLa l4 a4 n4), (kAI vLa cI 24 f4), (kX7 aPa vPa l7 a7 n7), (kAI vPa cI 39 f7), (kX2 aGe vGe l2 a2 n2), (kAI vGe cI 23 f2), (kX1 aFl vFl xn), (kAI vFl cI 32 ff), (kX6 aLo sd)]) hP hD [0, 1, 2, 3, 4, 5, 6, 7, 8, 9, 10, 11, 12] (by decide +kernel) rfl
    exact W.iret (v := (-2)) hx₀ hb hr (fun t₀ ht hW => ⟨⟨(-2), (k_fn [u0, u1, u2, u3, v0, v1, v2, v3, tgo, tca, tki, tso, tbe, twe, tle, tan, tco, ten, sd], k_fa [], k_fl [], k_fL [], k_fp [lf, rt]), rfl, trivial, by rw [ht]; exact hP9, va_K.moved hW.alike hK, hD9⟩, hS.F ht⟩) hS.2.2 dX11_lakes_22
  · refine lv_iload_n hx₀ hb dX11_lakes_5 rfl (lv_at hl 2 rfl) ?_
    refine lv_bipush (v := 99) hx₀ hb dX11_lakes_6 (by decide +kernel) ?_
    refine lv_icmp_gt (tgt := 20) hx₀ hb dX11_lakes_8 (by decide) (fun c_2 => ?_) (fun c_2 => ?_)
    · refine lv_bipush (v := (-2)) hx₀ hb dX11_lakes_20 (by decide +kernel) ?_
      obtain ⟨hP9, hD9⟩ := k_c2 (wc := [(kX11 hx aLa aPa aGe aFl aTr aBe aLu aLo vSf vSm vCo vSh xs xl xf), (kX10 aTr aLa aPa aGe gL gR lf rt tgo tca tki tso tbe twe tle tan tco ten), (kX3 gL u0 u1 u2 u3), (kX3 gR v0 v1 v2 v3), (kX4 aLa vLa l4 a4 n4), (kAI vLa cI 24 f4), (kX7 aPa vPa l7 a7 n7), (kAI vPa cI 39 f7), (kX2 aGe vGe l2 a2 n2), (kAI vGe cI 23 f2), (kX1 aFl vFl xn), (kAI vFl cI 32 ff), (kX6 aLo sd)]) hP hD [0, 1, 2, 3, 4, 5, 6, 7, 8, 9, 10, 11, 12] (by decide +kernel) rfl
      exact W.iret (v := (-2)) hx₀ hb hr (fun t₀ ht hW => ⟨⟨(-2), (k_fn [u0, u1, u2, u3, v0, v1, v2, v3, tgo, tca, tki, tso, tbe, twe, tle, tan, tco, ten, sd], k_fa [], k_fl [], k_fL [], k_fp [lf, rt]), rfl, trivial, by rw [ht]; exact hP9, va_K.moved hW.alike hK, hD9⟩, hS.F ht⟩) hS.2.2 dX11_lakes_22
    · refine lv_iload_n hx₀ hb dX11_lakes_11 rfl (lv_at hl 3 rfl) ?_
      refine lv_if_lt (tgt := 20) hx₀ hb dX11_lakes_12 (by decide) (fun c_3 => ?_) (fun c_3 => ?_)
      · refine lv_bipush (v := (-2)) hx₀ hb dX11_lakes_20 (by decide +kernel) ?_
        obtain ⟨hP9, hD9⟩ := k_c2 (wc := [(kX11 hx aLa aPa aGe aFl aTr aBe aLu aLo vSf vSm vCo vSh xs xl xf), (kX10 aTr aLa aPa aGe gL gR lf rt tgo tca tki tso tbe twe tle tan tco ten), (kX3 gL u0 u1 u2 u3), (kX3 gR v0 v1 v2 v3), (kX4 aLa vLa l4 a4 n4), (kAI vLa cI 24 f4), (kX7 aPa vPa l7 a7 n7), (kAI vPa cI 39 f7), (kX2 aGe vGe l2 a2 n2), (kAI vGe cI 23 f2), (kX1 aFl vFl xn), (kAI vFl cI 32 ff), (kX6 aLo sd)]) hP hD [0, 1, 2, 3, 4, 5, 6, 7, 8, 9, 10, 11, 12] (by decide +kernel) rfl
        exact W.iret (v := (-2)) hx₀ hb hr (fun t₀ ht hW => ⟨⟨(-2), (k_fn [u0, u1, u2, u3, v0, v1, v2, v3, tgo, tca, tki, tso, tbe, twe, tle, tan, tco, ten, sd], k_fa [], k_fl [], k_fL [], k_fp [lf, rt]), rfl, trivial, by rw [ht]; exact hP9, va_K.moved hW.alike hK, hD9⟩, hS.F ht⟩) hS.2.2 dX11_lakes_22
      · refine lv_iload_n hx₀ hb dX11_lakes_15 rfl (lv_at hl 3 rfl) ?_
        refine lv_iconst (v := 1) hx₀ hb dX11_lakes_16 (by decide +kernel) ?_
        refine lv_icmp_le (tgt := 23) hx₀ hb dX11_lakes_17 (by decide) (fun c_4 => ?_) (fun c_4 => ?_)
        · refine lv_aload_n hx₀ hb dX11_lakes_23 rfl (lv_at hl 0 rfl) ?_
          refine va_get (D := (dC, dI)) (ci := 10) (v := .ref aPa) (C := RX11) (T := TX11) (N := 15) hx₀ hb hts inlX11 hown hK hP 0 rfl rfl 1 (by decide) (hts (.fieldLink RX11 19 "BittenStick" "passengers" "LBittenStick$Passengers;") wd_19) (fun _ h9 => h9) rfl dX11_lakes_24 ?_
          refine va_get (D := (dC, dI)) (ci := 7) (v := .int n7) (C := RX7) (T := TX7) (N := 4) hx₀ hb hts inlX7 hown hK hP 6 rfl rfl 3 (by decide) (hts (.fieldLink RX11 223 "BittenStick$Passengers" "number" "I") wd_834) (fun x9 h9 => u_same (hts (.sameField "BittenStick$Passengers" "BittenStick$Text" "number" "I") wd_835) x9 h9) rfl dX11_lakes_27 ?_
          refine lv_iconst (v := 1) hx₀ hb dX11_lakes_30 (by decide +kernel) ?_
          refine lv_icmp_lt (tgt := 45) hx₀ hb dX11_lakes_31 (by decide) (fun c_5 => ?_) (fun c_5 => ?_)
          · refine lv_iconst (v := 0) hx₀ hb dX11_lakes_45 (by decide +kernel) ?_
            obtain ⟨hP9, hD9⟩ := k_c2 (wc := [(kX11 hx aLa aPa aGe aFl aTr aBe aLu aLo vSf vSm vCo vSh xs xl xf), (kX10 aTr aLa aPa aGe gL gR lf rt tgo tca tki tso tbe twe tle tan tco ten), (kX3 gL u0 u1 u2 u3), (kX3 gR v0 v1 v2 v3), (kX4 aLa vLa l4 a4 n4), (kAI vLa cI 24 f4), (kX7 aPa vPa l7 a7 n7), (kAI vPa cI 39 f7), (kX2 aGe vGe l2 a2 n2), (kAI vGe cI 23 f2), (kX1 aFl vFl xn), (kAI vFl cI 32 ff), (kX6 aLo sd)]) hP hD [0, 1, 2, 3, 4, 5, 6, 7, 8, 9, 10, 11, 12] (by decide +kernel) rfl
            exact W.iret (v := 0) hx₀ hb hr (fun t₀ ht hW => ⟨⟨0, (k_fn [u0, u1, u2, u3, v0, v1, v2, v3, tgo, tca, tki, tso, tbe, twe, tle, tan, tco, ten, sd], k_fa [], k_fl [], k_fL [], k_fp [lf, rt]), rfl, trivial, by rw [ht]; exact hP9, va_K.moved hW.alike hK, hD9⟩, hS.F ht⟩) hS.2.2 dX11_lakes_46
          · refine lv_aload_n hx₀ hb dX11_lakes_34 rfl (lv_at hl 0 rfl) ?_
            refine va_get (D := (dC, dI)) (ci := 10) (v := .ref aGe) (C := RX11) (T := TX11) (N := 15) hx₀ hb hts inlX11 hown hK hP 0 rfl rfl 2 (by decide) (hts (.fieldLink RX11 26 "BittenStick" "geese" "LBittenStick$Geese;") wd_23) (fun _ h9 => h9) rfl dX11_lakes_35 ?_
            refine va_get (D := (dC, dI)) (ci := 2) (v := .int n2) (C := RX2) (T := TX2) (N := 4) hx₀ hb hts inlX2 hown hK hP 8 rfl rfl 3 (by decide) (hts (.fieldLink RX11 185 "BittenStick$Geese" "number" "I") wd_676) (fun x9 h9 => u_same (hts (.sameField "BittenStick$Geese" "BittenStick$Text" "number" "I") wd_677) x9 h9) rfl dX11_lakes_38 ?_
            refine lv_iconst (v := 2) hx₀ hb dX11_lakes_41 (by decide +kernel) ?_
            refine lv_icmp_ge (tgt := 47) hx₀ hb dX11_lakes_42 (by decide) (fun c_6 => ?_) (fun c_6 => ?_)
            · refine lv_aload_n hx₀ hb dX11_lakes_47 rfl (lv_at hl 0 rfl) ?_
              refine va_get (D := (dC, dI)) (ci := 10) (v := .ref aLo) (C := RX11) (T := TX11) (N := 15) hx₀ hb hts inlX11 hown hK hP 0 rfl rfl 7 (by decide) (hts (.fieldLink RX11 63 "BittenStick" "lots" "LBittenStick$Lots;") wd_43) (fun _ h9 => h9) rfl dX11_lakes_48 ?_
              refine lv_iload_n hx₀ hb dX11_lakes_51 rfl (lv_at hl 1 rfl) ?_
              refine va_put (D := (dC, dI)) (ci := 6) (v := .int z1) (ty := .int) (C := RX6) (T := TX6) (N := 1) hx₀ hb hts inlX6 tyX6 tyX6_ok nmX6 hown hK hP hD hS 12 rfl rfl 0 (by decide) (hts (.fieldLink RX11 224 "BittenStick$Lots" "seed" "I") wd_836) (fun _ h9 => h9) rfl (by decide +kernel) rfl rfl (Nat.le_of_ble_eq_true rfl) dX11_lakes_52 ?_
              clear hP hD hS
              intro H locs hP hD hS
              replace hP := k_w2 (wt := [(kX11 hx aLa aPa aGe aFl aTr aBe aLu aLo vSf vSm vCo vSh xs xl xf), (kX10 aTr aLa aPa aGe gL gR lf rt tgo tca tki tso tbe twe tle tan tco ten), (kX3 gL u0 u1 u2 u3), (kX3 gR v0 v1 v2 v3), (kX4 aLa vLa l4 a4 n4), (kAI vLa cI 24 f4), (kX7 aPa vPa l7 a7 n7), (kAI vPa cI 39 f7), (kX2 aGe vGe l2 a2 n2), (kAI vGe cI 23 f2), (kX1 aFl vFl xn), (kAI vFl cI 32 ff), (kX6 aLo z1)]) hP hD rfl
              replace hD := hP.2
              replace hP := hP.1
              refine lv_aload_n hx₀ hb dX11_lakes_55 rfl (lv_at hl 0 rfl) ?_
              refine va_get (D := (dC, dI)) (ci := 10) (v := .ref aTr) (C := RX11) (T := TX11) (N := 15) hx₀ hb hts inlX11 hown hK hP 0 rfl rfl 4 (by decide) (hts (.fieldLink RX11 42 "BittenStick" "trip" "LBittenStick$Trip;") wd_31) (fun _ h9 => h9) rfl dX11_lakes_56 ?_
              refine lv_aload_n hx₀ hb dX11_lakes_59 rfl (lv_at hl 0 rfl) ?_
              refine va_get (D := (dC, dI)) (ci := 10) (v := .int xl) (C := RX11) (T := TX11) (N := 15) hx₀ hb hts inlX11 hown hK hP 0 rfl rfl 13 (by decide) (hts (.fieldLink RX11 146 "BittenStick" "learned" "I") wd_411) (fun _ h9 => h9) rfl dX11_lakes_60 ?_
              refine va_put (D := (dC, dI)) (ci := 9) (v := .int xl) (ty := .int) (C := RX10) (T := TX10) (N := 17) hx₀ hb hts inlX10 tyX10 tyX10_ok nmX10 hown hK hP hD hS 1 rfl rfl 13 (by decide) (hts (.fieldLink RX11 184 "BittenStick$Trip" "learned" "I") wd_431) (fun _ h9 => h9) rfl (by decide +kernel) rfl rfl (Nat.le_of_ble_eq_true rfl) dX11_lakes_63 ?_
              clear hP hD hS
              intro H locs hP hD hS
              replace hP := k_w2 (wt := [(kX11 hx aLa aPa aGe aFl aTr aBe aLu aLo vSf vSm vCo vSh xs xl xf), (kX10 aTr aLa aPa aGe gL gR lf rt tgo tca tki tso tbe twe xl tan tco ten), (kX3 gL u0 u1 u2 u3), (kX3 gR v0 v1 v2 v3), (kX4 aLa vLa l4 a4 n4), (kAI vLa cI 24 f4), (kX7 aPa vPa l7 a7 n7), (kAI vPa cI 39 f7), (kX2 aGe vGe l2 a2 n2), (kAI vGe cI 23 f2), (kX1 aFl vFl xn), (kAI vFl cI 32 ff), (kX6 aLo z1)]) hP hD rfl
              replace hD := hP.2
              replace hP := hP.1
              refine lv_iload_n hx₀ hb dX11_lakes_66 rfl (lv_at hl 3 rfl) ?_
              refine lv_if_ne (tgt := 74) hx₀ hb dX11_lakes_67 (by decide) (fun c_7 => ?_) (fun c_7 => ?_)
              · refine lv_iconst (v := 3) hx₀ hb dX11_lakes_74 (by decide +kernel) ?_
                refine lv_istore (lv' := [(4, .int 3), (0, .ref hx), (1, .int z1), (2, .int nn), (3, .int w1)]) hx₀ hb dX11_lakes_75 hl (by decide) rfl (fun ls hl => ?_)
                refine lv_iconst (v := 0) hx₀ hb dX11_lakes_77 (by decide +kernel) ?_
                refine lv_istore (lv' := [(5, .int 0), (4, .int 3), (0, .ref hx), (1, .int z1), (2, .int nn), (3, .int w1)]) hx₀ hb dX11_lakes_78 hl (by decide) rfl (fun ls hl => ?_)
                refine lv_iconst (v := 0) hx₀ hb dX11_lakes_80 (by decide +kernel) ?_
                refine lv_istore (lv' := [(6, .int 0), (5, .int 0), (4, .int 3), (0, .ref hx), (1, .int z1), (2, .int nn), (3, .int w1)]) hx₀ hb dX11_lakes_81 hl (by decide) rfl (fun ls hl => ?_)
                refine (?keyz8 : ∀ (jz8 : Nat) (nuz8 : Int32) (iz8 : Int32) (ygoez8 : Int32) (ycarz8 : Int32) (ykinz8 : Int32) (ysorz8 : Int32) (ybeaz8 : Int32) (yweiz8 : Int32) (yleaz8 : Int32) (yangz8 : Int32) (ycolz8 : Int32) (yendz8 : Int32) (pz8 : Nat) (qz8 : Nat) (w0z8 : Int32) (w1z8 : Int32) (w2z8 : Int32) (w3z8 : Int32) (z0z8 : Int32) (z1z8 : Int32) (z2z8 : Int32) (z3z8 : Int32) (sdz8 : Int32) (H : Heap) (locs : List Loc) (ls : Array Slot), (0 ≤ iz8) → ((nn.toInt - iz8.toInt).toNat = jz8) → va_P (dC, dI) vwCl [(kX11 hx aLa aPa aGe aFl aTr aBe aLu aLo vSf vSm vCo vSh xs xl xf), (kX10 aTr aLa aPa aGe gL gR pz8 qz8 ygoez8 ycarz8 ykinz8 ysorz8 ybeaz8 yweiz8 yleaz8 yangz8 ycolz8 yendz8), (kX3 gL w0z8 w1z8 w2z8 w3z8), (kX3 gR z0z8 z1z8 z2z8 z3z8), (kX4 aLa vLa l4 a4 n4), (kAI vLa cI 24 f4), (kX7 aPa vPa l7 a7 n7), (kAI vPa cI 39 f7), (kX2 aGe vGe l2 a2 n2), (kAI vGe cI 23 f2), (kX1 aFl vFl xn), (kAI vFl cI 32 ff), (kX6 aLo sdz8)] H → va_D A [(kX11 hx aLa aPa aGe aFl aTr aBe aLu aLo vSf vSm vCo vSh xs xl xf), (kX10 aTr aLa aPa aGe gL gR pz8 qz8 ygoez8 ycarz8 ykinz8 ysorz8 ybeaz8 yweiz8 yleaz8 yangz8 ycolz8 yendz8), (kX3 gL w0z8 w1z8 w2z8 w3z8), (kX3 gR z0z8 z1z8 z2z8 z3z8), (kX4 aLa vLa l4 a4 n4), (kAI vLa cI 24 f4), (kX7 aPa vPa l7 a7 n7), (kAI vPa cI 39 f7), (kX2 aGe vGe l2 a2 n2), (kAI vGe cI 23 f2), (kX1 aFl vFl xn), (kAI vFl cI 32 ff), (kX6 aLo sdz8)] → va_S A s₀.heap H locs → lv_has ls 10 [(6, .int iz8), (5, .int nuz8), (4, .int 3), (0, .ref hx), (1, .int z1), (2, .int nn), (3, .int w1)] → W p₀ l e₀ _ s₀ m₀ _ below meth c₀ H locs _ _ _ (F0 m₀ 83 ls [])) _ (0 : Int32) (0 : Int32) tgo tca tki tso tbe twe xl tan tco ten lf rt u0 u1 u2 u3 v0 v1 v2 v3 z1 H locs ls (show 0 ≤ (0 : Int32) from (by decide)) rfl hP hD hS hl
                clear hP hD hS hl
                intro jz8
                induction jz8 using Nat.strongRecOn with
                | ind jz8 ihz8 =>
                  intro nuz8 iz8 ygoez8 ycarz8 ykinz8 ysorz8 ybeaz8 yweiz8 yleaz8 yangz8 ycolz8 yendz8 pz8 qz8 w0z8 w1z8 w2z8 w3z8 z0z8 z1z8 z2z8 z3z8 sdz8 H locs ls hiz8_0 hjz8 hP hD hS hl
                  refine lv_iload hx₀ hb dX11_lakes_83 (lv_at hl 0 rfl) ?_
                  refine lv_iload_n hx₀ hb dX11_lakes_85 rfl (lv_at hl 5 rfl) ?_
                  refine lv_icmp_ge (tgt := 206) hx₀ hb dX11_lakes_86 (by decide) (fun c_9 => ?_) (fun c_9 => ?_)
                  · refine lv_iload hx₀ hb dX11_lakes_206 (lv_at hl 1 rfl) ?_
                    obtain ⟨hP9, hD9⟩ := k_c2 (wc := [(kX11 hx aLa aPa aGe aFl aTr aBe aLu aLo vSf vSm vCo vSh xs xl xf), (kX10 aTr aLa aPa aGe gL gR pz8 qz8 ygoez8 ycarz8 ykinz8 ysorz8 ybeaz8 yweiz8 yleaz8 yangz8 ycolz8 yendz8), (kX3 gL w0z8 w1z8 w2z8 w3z8), (kX3 gR z0z8 z1z8 z2z8 z3z8), (kX4 aLa vLa l4 a4 n4), (kAI vLa cI 24 f4), (kX7 aPa vPa l7 a7 n7), (kAI vPa cI 39 f7), (kX2 aGe vGe l2 a2 n2), (kAI vGe cI 23 f2), (kX1 aFl vFl xn), (kAI vFl cI 32 ff), (kX6 aLo sdz8)]) hP hD [0, 1, 2, 3, 4, 5, 6, 7, 8, 9, 10, 11, 12] (by decide +kernel) rfl
                    exact W.iret (v := nuz8) hx₀ hb hr (fun t₀ ht hW => ⟨⟨nuz8, (k_fn [w0z8, w1z8, w2z8, w3z8, z0z8, z1z8, z2z8, z3z8, ygoez8, ycarz8, ykinz8, ysorz8, ybeaz8, yweiz8, yleaz8, yangz8, ycolz8, yendz8, sdz8], k_fa [], k_fl [], k_fL [], k_fp [pz8, qz8]), rfl, trivial, by rw [ht]; exact hP9, va_K.moved hW.alike hK, hD9⟩, hS.F ht⟩) hS.2.2 dX11_lakes_208
                  · refine lv_aload_n hx₀ hb dX11_lakes_89 rfl (lv_at hl 3 rfl) ?_
                    refine va_get (D := (dC, dI)) (ci := 10) (v := .ref aLo) (C := RX11) (T := TX11) (N := 15) hx₀ hb hts inlX11 hown hK hP 0 rfl rfl 7 (by decide) (hts (.fieldLink RX11 63 "BittenStick" "lots" "LBittenStick$Lots;") wd_43) (fun _ h9 => h9) rfl dX11_lakes_90 ?_
                    refine lv_aload_n hx₀ hb dX11_lakes_93 rfl (lv_at hl 3 rfl) ?_
                    refine va_get (D := (dC, dI)) (ci := 10) (v := .ref aPa) (C := RX11) (T := TX11) (N := 15) hx₀ hb hts inlX11 hown hK hP 0 rfl rfl 1 (by decide) (hts (.fieldLink RX11 19 "BittenStick" "passengers" "LBittenStick$Passengers;") wd_19) (fun _ h9 => h9) rfl dX11_lakes_94 ?_
                    refine va_get (D := (dC, dI)) (ci := 7) (v := .int n7) (C := RX7) (T := TX7) (N := 4) hx₀ hb hts inlX7 hown hK hP 6 rfl rfl 3 (by decide) (hts (.fieldLink RX11 223 "BittenStick$Passengers" "number" "I") wd_834) (fun x9 h9 => u_same (hts (.sameField "BittenStick$Passengers" "BittenStick$Text" "number" "I") wd_835) x9 h9) rfl dX11_lakes_97 ?_
                    obtain ⟨hPc, hDc, hFc, hC⟩ := k_cw (wc := [(kX6 aLo sdz8)]) hP hD hS hA [12] (by decide +kernel) rfl
                    refine va_calli (va_runV (As := [.int n7]) (rest := []) ⟨hx₀, hb, hml, hown, hts⟩ (j_draw l dC dI cI cJ cQ H.size aLo n7 sdz8) (cwV 1 hts (kGV wd_840 wd_837 wd_838 wd_839 wd_42) rfl rfl rfl (by decide +kernel) ⟨Nat.le_of_ble_eq_true rfl, Nat.le_of_ble_eq_true rfl⟩) (k_preV6 (q0 := 0) hK hPc hDc hN rfl) rfl rfl hl.1 rfl (lv_room (Nat.le_of_ble_eq_true rfl)) dX11_lakes_100 ⟨by decide +kernel, by decide +kernel⟩) hS (fun q _ h => hFc q h) hFc (fun r_10 u₀ t₀ H1 locs ht hvm hw hB hz1 hk1 hS => ?_)
                    obtain ⟨g_11, ga_12, gl_13, gb_14, gp_15⟩ := u₀
                    obtain ⟨hP1, hK1, hD1⟩ := hB
                    rw [ht] at hP1
                    have hJ := k_jn (wr := [(kX11 hx aLa aPa aGe aFl aTr aBe aLu aLo vSf vSm vCo vSh xs xl xf), (kX10 aTr aLa aPa aGe gL gR pz8 qz8 ygoez8 ycarz8 ykinz8 ysorz8 ybeaz8 yweiz8 yleaz8 yangz8 ycolz8 yendz8), (kX3 gL w0z8 w1z8 w2z8 w3z8), (kX3 gR z0z8 z1z8 z2z8 z3z8), (kX4 aLa vLa l4 a4 n4), (kAI vLa cI 24 f4), (kX7 aPa vPa l7 a7 n7), (kAI vPa cI 39 f7), (kX2 aGe vGe l2 a2 n2), (kAI vGe cI 23 f2), (kX1 aFl vFl xn), (kAI vFl cI 32 ff)]) (wt := [(kX11 hx aLa aPa aGe aFl aTr aBe aLu aLo vSf vSm vCo vSh xs xl xf), (kX10 aTr aLa aPa aGe gL gR pz8 qz8 ygoez8 ycarz8 ykinz8 ysorz8 ybeaz8 yweiz8 yleaz8 yangz8 ycolz8 yendz8), (kX3 gL w0z8 w1z8 w2z8 w3z8), (kX3 gR z0z8 z1z8 z2z8 z3z8), (kX4 aLa vLa l4 a4 n4), (kAI vLa cI 24 f4), (kX7 aPa vPa l7 a7 n7), (kAI vPa cI 39 f7), (kX2 aGe vGe l2 a2 n2), (kAI vGe cI 23 f2), (kX1 aFl vFl xn), (kAI vFl cI 32 ff), (kX6 aLo (g_11 0))]) hP hD hC [0, 1, 2, 3, 4, 5, 6, 7, 8, 9, 10, 11] rfl (by decide +kernel) (by decide +kernel) hk1 hFc hP1 hD1 rfl
                    clear hP hD hPc hDc hFc hC hP1 hD1 hK1 hz1 hk1 hvm ht
                    obtain ⟨hP, hD⟩ := hJ
                    generalize H1 = H at hP hS ⊢
                    try dsimp only at hw
                    refine lv_istore (lv' := [(7, .int r_10), (6, .int iz8), (5, .int nuz8), (4, .int 3), (0, .ref hx), (1, .int z1), (2, .int nn), (3, .int w1)]) hx₀ hb dX11_lakes_103 hl (by decide) rfl (fun ls hl => ?_)
                    refine lv_aload_n hx₀ hb dX11_lakes_105 rfl (lv_at hl 4 rfl) ?_
                    refine va_get (D := (dC, dI)) (ci := 10) (v := .ref aLo) (C := RX11) (T := TX11) (N := 15) hx₀ hb hts inlX11 hown hK hP 0 rfl rfl 7 (by decide) (hts (.fieldLink RX11 63 "BittenStick" "lots" "LBittenStick$Lots;") wd_43) (fun _ h9 => h9) rfl dX11_lakes_106 ?_
                    refine lv_aload_n hx₀ hb dX11_lakes_109 rfl (lv_at hl 4 rfl) ?_
                    refine va_get (D := (dC, dI)) (ci := 10) (v := .ref aGe) (C := RX11) (T := TX11) (N := 15) hx₀ hb hts inlX11 hown hK hP 0 rfl rfl 2 (by decide) (hts (.fieldLink RX11 26 "BittenStick" "geese" "LBittenStick$Geese;") wd_23) (fun _ h9 => h9) rfl dX11_lakes_110 ?_
                    refine va_get (D := (dC, dI)) (ci := 2) (v := .int n2) (C := RX2) (T := TX2) (N := 4) hx₀ hb hts inlX2 hown hK hP 8 rfl rfl 3 (by decide) (hts (.fieldLink RX11 185 "BittenStick$Geese" "number" "I") wd_676) (fun x9 h9 => u_same (hts (.sameField "BittenStick$Geese" "BittenStick$Text" "number" "I") wd_677) x9 h9) rfl dX11_lakes_113 ?_
                    obtain ⟨hPc, hDc, hFc, hC⟩ := k_cw (wc := [(kX6 aLo (g_11 0))]) hP hD hS hA [12] (by decide +kernel) rfl
                    refine va_calli (va_runV (As := [.int n2]) (rest := []) ⟨hx₀, hb, hml, hown, hts⟩ (j_draw l dC dI cI cJ cQ H.size aLo n2 (g_11 0)) (cwV 1 hts (kGV wd_840 wd_837 wd_838 wd_839 wd_42) rfl rfl rfl (by decide +kernel) ⟨Nat.le_of_ble_eq_true rfl, Nat.le_of_ble_eq_true rfl⟩) (k_preV6 (q0 := 0) hK hPc hDc hN rfl) rfl rfl hl.1 rfl (lv_room (Nat.le_of_ble_eq_true rfl)) dX11_lakes_116 ⟨by decide +kernel, by decide +kernel⟩) hS (fun q _ h => hFc q h) hFc (fun r_16 u₀ t₀ H1 locs ht hvm hw hB hz1 hk1 hS => ?_)
                    obtain ⟨g_17, ga_18, gl_19, gb_20, gp_21⟩ := u₀
                    obtain ⟨hP1, hK1, hD1⟩ := hB
                    rw [ht] at hP1
                    have hJ := k_jn (wr := [(kX11 hx aLa aPa aGe aFl aTr aBe aLu aLo vSf vSm vCo vSh xs xl xf), (kX10 aTr aLa aPa aGe gL gR pz8 qz8 ygoez8 ycarz8 ykinz8 ysorz8 ybeaz8 yweiz8 yleaz8 yangz8 ycolz8 yendz8), (kX3 gL w0z8 w1z8 w2z8 w3z8), (kX3 gR z0z8 z1z8 z2z8 z3z8), (kX4 aLa vLa l4 a4 n4), (kAI vLa cI 24 f4), (kX7 aPa vPa l7 a7 n7), (kAI vPa cI 39 f7), (kX2 aGe vGe l2 a2 n2), (kAI vGe cI 23 f2), (kX1 aFl vFl xn), (kAI vFl cI 32 ff)]) (wt := [(kX11 hx aLa aPa aGe aFl aTr aBe aLu aLo vSf vSm vCo vSh xs xl xf), (kX10 aTr aLa aPa aGe gL gR pz8 qz8 ygoez8 ycarz8 ykinz8 ysorz8 ybeaz8 yweiz8 yleaz8 yangz8 ycolz8 yendz8), (kX3 gL w0z8 w1z8 w2z8 w3z8), (kX3 gR z0z8 z1z8 z2z8 z3z8), (kX4 aLa vLa l4 a4 n4), (kAI vLa cI 24 f4), (kX7 aPa vPa l7 a7 n7), (kAI vPa cI 39 f7), (kX2 aGe vGe l2 a2 n2), (kAI vGe cI 23 f2), (kX1 aFl vFl xn), (kAI vFl cI 32 ff), (kX6 aLo (g_17 0))]) hP hD hC [0, 1, 2, 3, 4, 5, 6, 7, 8, 9, 10, 11] rfl (by decide +kernel) (by decide +kernel) hk1 hFc hP1 hD1 rfl
                    clear hP hD hPc hDc hFc hC hP1 hD1 hK1 hz1 hk1 hvm ht
                    obtain ⟨hP, hD⟩ := hJ
                    generalize H1 = H at hP hS ⊢
                    try dsimp only at hw
                    refine lv_istore (lv' := [(8, .int r_16), (7, .int r_10), (6, .int iz8), (5, .int nuz8), (4, .int 3), (0, .ref hx), (1, .int z1), (2, .int nn), (3, .int w1)]) hx₀ hb dX11_lakes_119 hl (by decide) rfl (fun ls hl => ?_)
                    refine lv_aload_n hx₀ hb dX11_lakes_121 rfl (lv_at hl 5 rfl) ?_
                    refine va_get (D := (dC, dI)) (ci := 10) (v := .ref aLo) (C := RX11) (T := TX11) (N := 15) hx₀ hb hts inlX11 hown hK hP 0 rfl rfl 7 (by decide) (hts (.fieldLink RX11 63 "BittenStick" "lots" "LBittenStick$Lots;") wd_43) (fun _ h9 => h9) rfl dX11_lakes_122 ?_
                    refine lv_aload_n hx₀ hb dX11_lakes_125 rfl (lv_at hl 5 rfl) ?_
                    refine va_get (D := (dC, dI)) (ci := 10) (v := .ref aGe) (C := RX11) (T := TX11) (N := 15) hx₀ hb hts inlX11 hown hK hP 0 rfl rfl 2 (by decide) (hts (.fieldLink RX11 26 "BittenStick" "geese" "LBittenStick$Geese;") wd_23) (fun _ h9 => h9) rfl dX11_lakes_126 ?_
                    refine va_get (D := (dC, dI)) (ci := 2) (v := .int n2) (C := RX2) (T := TX2) (N := 4) hx₀ hb hts inlX2 hown hK hP 8 rfl rfl 3 (by decide) (hts (.fieldLink RX11 185 "BittenStick$Geese" "number" "I") wd_676) (fun x9 h9 => u_same (hts (.sameField "BittenStick$Geese" "BittenStick$Text" "number" "I") wd_677) x9 h9) rfl dX11_lakes_129 ?_
                    refine lv_iconst (v := 1) hx₀ hb dX11_lakes_132 (by decide +kernel) ?_
                    refine lv_isub hx₀ hb dX11_lakes_133 ?_
                    obtain ⟨hPc, hDc, hFc, hC⟩ := k_cw (wc := [(kX6 aLo (g_17 0))]) hP hD hS hA [12] (by decide +kernel) rfl
                    refine va_calli (va_runV (As := [.int (n2 - 1)]) (rest := []) ⟨hx₀, hb, hml, hown, hts⟩ (j_draw l dC dI cI cJ cQ H.size aLo (n2 - 1) (g_17 0)) (cwV 1 hts (kGV wd_840 wd_837 wd_838 wd_839 wd_42) rfl rfl rfl (by decide +kernel) ⟨Nat.le_of_ble_eq_true rfl, Nat.le_of_ble_eq_true rfl⟩) (k_preV6 (q0 := 0) hK hPc hDc hN rfl) rfl rfl hl.1 rfl (lv_room (Nat.le_of_ble_eq_true rfl)) dX11_lakes_134 ⟨by decide +kernel, by decide +kernel⟩) hS (fun q _ h => hFc q h) hFc (fun r_22 u₀ t₀ H1 locs ht hvm hw hB hz1 hk1 hS => ?_)
                    obtain ⟨g_23, ga_24, gl_25, gb_26, gp_27⟩ := u₀
                    obtain ⟨hP1, hK1, hD1⟩ := hB
                    rw [ht] at hP1
                    have hJ := k_jn (wr := [(kX11 hx aLa aPa aGe aFl aTr aBe aLu aLo vSf vSm vCo vSh xs xl xf), (kX10 aTr aLa aPa aGe gL gR pz8 qz8 ygoez8 ycarz8 ykinz8 ysorz8 ybeaz8 yweiz8 yleaz8 yangz8 ycolz8 yendz8), (kX3 gL w0z8 w1z8 w2z8 w3z8), (kX3 gR z0z8 z1z8 z2z8 z3z8), (kX4 aLa vLa l4 a4 n4), (kAI vLa cI 24 f4), (kX7 aPa vPa l7 a7 n7), (kAI vPa cI 39 f7), (kX2 aGe vGe l2 a2 n2), (kAI vGe cI 23 f2), (kX1 aFl vFl xn), (kAI vFl cI 32 ff)]) (wt := [(kX11 hx aLa aPa aGe aFl aTr aBe aLu aLo vSf vSm vCo vSh xs xl xf), (kX10 aTr aLa aPa aGe gL gR pz8 qz8 ygoez8 ycarz8 ykinz8 ysorz8 ybeaz8 yweiz8 yleaz8 yangz8 ycolz8 yendz8), (kX3 gL w0z8 w1z8 w2z8 w3z8), (kX3 gR z0z8 z1z8 z2z8 z3z8), (kX4 aLa vLa l4 a4 n4), (kAI vLa cI 24 f4), (kX7 aPa vPa l7 a7 n7), (kAI vPa cI 39 f7), (kX2 aGe vGe l2 a2 n2), (kAI vGe cI 23 f2), (kX1 aFl vFl xn), (kAI vFl cI 32 ff), (kX6 aLo (g_23 0))]) hP hD hC [0, 1, 2, 3, 4, 5, 6, 7, 8, 9, 10, 11] rfl (by decide +kernel) (by decide +kernel) hk1 hFc hP1 hD1 rfl
                    clear hP hD hPc hDc hFc hC hP1 hD1 hK1 hz1 hk1 hvm ht
                    obtain ⟨hP, hD⟩ := hJ
                    generalize H1 = H at hP hS ⊢
                    try dsimp only at hw
                    refine lv_istore (lv' := [(9, .int r_22), (8, .int r_16), (7, .int r_10), (6, .int iz8), (5, .int nuz8), (4, .int 3), (0, .ref hx), (1, .int z1), (2, .int nn), (3, .int w1)]) hx₀ hb dX11_lakes_137 hl (by decide) rfl (fun ls hl => ?_)
                    refine lv_aload_n hx₀ hb dX11_lakes_139 rfl (lv_at hl 6 rfl) ?_
                    refine va_get (D := (dC, dI)) (ci := 10) (v := .ref aTr) (C := RX11) (T := TX11) (N := 15) hx₀ hb hts inlX11 hown hK hP 0 rfl rfl 4 (by decide) (hts (.fieldLink RX11 42 "BittenStick" "trip" "LBittenStick$Trip;") wd_31) (fun _ h9 => h9) rfl dX11_lakes_140 ?_
                    refine lv_iload hx₀ hb dX11_lakes_143 (lv_at hl 2 rfl) ?_
                    refine lv_iload hx₀ hb dX11_lakes_145 (lv_at hl 1 rfl) ?_
                    refine lv_iload hx₀ hb dX11_lakes_147 (lv_at hl 0 rfl) ?_
                    refine lv_iload hx₀ hb dX11_lakes_149 (lv_at hl 1 rfl) ?_
                    refine lv_icmp_ge (tgt := 159) hx₀ hb dX11_lakes_151 (by decide) (fun c_28 => ?_) (fun c_28 => ?_)
                    · refine lv_iload hx₀ hb dX11_lakes_159 (lv_at hl 0 rfl) ?_
                      refine lv_iconst (v := 1) hx₀ hb dX11_lakes_161 (by decide +kernel) ?_
                      refine lv_iadd hx₀ hb dX11_lakes_162 ?_
                      obtain ⟨hPc, hDc, hFc, hC⟩ := k_cw (wc := [(kX10 aTr aLa aPa aGe gL gR pz8 qz8 ygoez8 ycarz8 ykinz8 ysorz8 ybeaz8 yweiz8 yleaz8 yangz8 ycolz8 yendz8), (kX3 gL w0z8 w1z8 w2z8 w3z8), (kX3 gR z0z8 z1z8 z2z8 z3z8), (kX4 aLa vLa l4 a4 n4), (kAI vLa cI 24 f4), (kX7 aPa vPa l7 a7 n7), (kAI vPa cI 39 f7), (kX2 aGe vGe l2 a2 n2), (kAI vGe cI 23 f2)]) hP hD hS hA [1, 2, 3, 4, 5, 6, 7, 8, 9] (by decide +kernel) rfl
                      refine va_callv (va_runV (As := [.int r_10, .int r_16, .int (r_22 + 1)]) (rest := []) ⟨hx₀, hb, hml, hown, hts⟩ (j_board l dC dI cI cJ cQ H.size aTr r_10 r_16 (r_22 + 1) aLa aPa aGe gL gR pz8 qz8 ygoez8 ycarz8 ykinz8 ysorz8 ybeaz8 yweiz8 yleaz8 yangz8 ycolz8 yendz8 w0z8 w1z8 w2z8 w3z8 z0z8 z1z8 z2z8 z3z8 vLa l4 a4 n4 f4 vPa l7 a7 n7 f7 vGe l2 a2 n2 f2 (hh0)) (cwV 3 hts (kGV wd_452 wd_449 wd_450 wd_451 wd_30) rfl rfl rfl (by decide +kernel) ⟨Nat.le_of_ble_eq_true rfl, Nat.le_of_ble_eq_true rfl⟩) (k_preV9 (q0 := 0) hK hPc hDc hN rfl) rfl rfl hl.1 rfl (lv_room (Nat.le_of_ble_eq_true rfl)) dX11_lakes_163 ⟨by decide +kernel, by decide +kernel⟩) hS (fun q _ h => hFc q h) hFc (fun u₀ t₀ H1 locs ht hvm hw hB hz1 hk1 hS => ?_)
                      obtain ⟨g_30, ga_31, gl_32, gb_33, gp_34⟩ := u₀
                      obtain ⟨hP1, hK1, hD1⟩ := hB
                      rw [ht] at hP1
                      have hJ := k_jn (wr := [(kX11 hx aLa aPa aGe aFl aTr aBe aLu aLo vSf vSm vCo vSh xs xl xf), (kX1 aFl vFl xn), (kAI vFl cI 32 ff), (kX6 aLo (g_23 0))]) (wt := [(kX11 hx aLa aPa aGe aFl aTr aBe aLu aLo vSf vSm vCo vSh xs xl xf), (kX1 aFl vFl xn), (kAI vFl cI 32 ff), (kX6 aLo (g_23 0)), (kX10 aTr aLa aPa aGe gL gR (gp_34 0) (gp_34 1) (g_30 8) (g_30 9) (g_30 10) (g_30 11) (g_30 12) (g_30 13) yleaz8 yangz8 ycolz8 yendz8), (kX3 gL (g_30 0) (g_30 1) (g_30 2) (g_30 3)), (kX3 gR (g_30 4) (g_30 5) (g_30 6) (g_30 7)), (kX4 aLa vLa l4 a4 n4), (kAI vLa cI 24 f4), (kX7 aPa vPa l7 a7 n7), (kAI vPa cI 39 f7), (kX2 aGe vGe l2 a2 n2), (kAI vGe cI 23 f2)]) hP hD hC [0, 10, 11, 12] rfl (by decide +kernel) (by decide +kernel) hk1 hFc hP1 hD1 rfl
                      clear hP hD hPc hDc hFc hC hP1 hD1 hK1 hz1 hk1 hvm ht
                      obtain ⟨hP, hD⟩ := hJ
                      generalize H1 = H at hP hS ⊢
                      try dsimp only at hw
                      obtain ⟨c_35, c_36, c_37, c_38, c_39, c_40⟩ := hw
                      refine lv_aload_n hx₀ hb dX11_lakes_166 rfl (lv_at hl 6 rfl) ?_
                      refine va_get (D := (dC, dI)) (ci := 10) (v := .ref aTr) (C := RX11) (T := TX11) (N := 15) hx₀ hb hts inlX11 hown hK hP 0 rfl rfl 4 (by decide) (hts (.fieldLink RX11 42 "BittenStick" "trip" "LBittenStick$Trip;") wd_31) (fun _ h9 => h9) rfl dX11_lakes_167 ?_
                      refine lv_aload_n hx₀ hb dX11_lakes_170 rfl (lv_at hl 6 rfl) ?_
                      refine va_get (D := (dC, dI)) (ci := 10) (v := .ref aLo) (C := RX11) (T := TX11) (N := 15) hx₀ hb hts inlX11 hown hK hP 0 rfl rfl 7 (by decide) (hts (.fieldLink RX11 63 "BittenStick" "lots" "LBittenStick$Lots;") wd_43) (fun _ h9 => h9) rfl dX11_lakes_171 ?_
                      refine lv_bipush (v := 9) hx₀ hb dX11_lakes_174 (by decide +kernel) ?_
                      obtain ⟨hPc, hDc, hFc, hC⟩ := k_cw (wc := [(kX6 aLo (g_23 0))]) hP hD hS hA [3] (by decide +kernel) rfl
                      refine va_calli (va_runV (As := [.int 9]) (rest := [.ref aTr]) ⟨hx₀, hb, hml, hown, hts⟩ (j_draw l dC dI cI cJ cQ H.size aLo 9 (g_23 0)) (cwV 1 hts (kGV wd_840 wd_837 wd_838 wd_839 wd_42) rfl rfl rfl (by decide +kernel) ⟨Nat.le_of_ble_eq_true rfl, Nat.le_of_ble_eq_true rfl⟩) (k_preV6 (q0 := 0) hK hPc hDc hN rfl) rfl rfl hl.1 rfl (lv_room (Nat.le_of_ble_eq_true rfl)) dX11_lakes_176 ⟨by decide +kernel, by decide +kernel⟩) hS (fun q _ h => hFc q h) hFc (fun r_41 u₀ t₀ H1 locs ht hvm hw hB hz1 hk1 hS => ?_)
                      obtain ⟨g_42, ga_43, gl_44, gb_45, gp_46⟩ := u₀
                      obtain ⟨hP1, hK1, hD1⟩ := hB
                      rw [ht] at hP1
                      have hJ := k_jn (wr := [(kX11 hx aLa aPa aGe aFl aTr aBe aLu aLo vSf vSm vCo vSh xs xl xf), (kX1 aFl vFl xn), (kAI vFl cI 32 ff), (kX10 aTr aLa aPa aGe gL gR (gp_34 0) (gp_34 1) (g_30 8) (g_30 9) (g_30 10) (g_30 11) (g_30 12) (g_30 13) yleaz8 yangz8 ycolz8 yendz8), (kX3 gL (g_30 0) (g_30 1) (g_30 2) (g_30 3)), (kX3 gR (g_30 4) (g_30 5) (g_30 6) (g_30 7)), (kX4 aLa vLa l4 a4 n4), (kAI vLa cI 24 f4), (kX7 aPa vPa l7 a7 n7), (kAI vPa cI 39 f7), (kX2 aGe vGe l2 a2 n2), (kAI vGe cI 23 f2)]) (wt := [(kX11 hx aLa aPa aGe aFl aTr aBe aLu aLo vSf vSm vCo vSh xs xl xf), (kX1 aFl vFl xn), (kAI vFl cI 32 ff), (kX10 aTr aLa aPa aGe gL gR (gp_34 0) (gp_34 1) (g_30 8) (g_30 9) (g_30 10) (g_30 11) (g_30 12) (g_30 13) yleaz8 yangz8 ycolz8 yendz8), (kX3 gL (g_30 0) (g_30 1) (g_30 2) (g_30 3)), (kX3 gR (g_30 4) (g_30 5) (g_30 6) (g_30 7)), (kX4 aLa vLa l4 a4 n4), (kAI vLa cI 24 f4), (kX7 aPa vPa l7 a7 n7), (kAI vPa cI 39 f7), (kX2 aGe vGe l2 a2 n2), (kAI vGe cI 23 f2), (kX6 aLo (g_42 0))]) hP hD hC [0, 1, 2, 4, 5, 6, 7, 8, 9, 10, 11, 12] rfl (by decide +kernel) (by decide +kernel) hk1 hFc hP1 hD1 rfl
                      clear hP hD hPc hDc hFc hC hP1 hD1 hK1 hz1 hk1 hvm ht
                      obtain ⟨hP, hD⟩ := hJ
                      generalize H1 = H at hP hS ⊢
                      try dsimp only at hw
                      refine lv_iconst (v := 1) hx₀ hb dX11_lakes_179 (by decide +kernel) ?_
                      refine lv_iadd hx₀ hb dX11_lakes_180 ?_
                      obtain ⟨hPc, hDc, hFc, hC⟩ := k_cw (wc := [(kX10 aTr aLa aPa aGe gL gR (gp_34 0) (gp_34 1) (g_30 8) (g_30 9) (g_30 10) (g_30 11) (g_30 12) (g_30 13) yleaz8 yangz8 ycolz8 yendz8), (kX4 aLa vLa l4 a4 n4), (kAI vLa cI 24 f4)]) hP hD hS hA [3, 6, 7] (by decide +kernel) rfl
                      refine va_calli (va_runV (As := [.int (r_41 + 1)]) (rest := []) ⟨hx₀, hb, hml, hown, hts⟩ (j_comesTo l dC dI cI cJ cQ H.size aTr (r_41 + 1) aLa aPa aGe gL gR (gp_34 0) (gp_34 1) (g_30 8) (g_30 9) (g_30 10) (g_30 11) (g_30 12) (g_30 13) yleaz8 yangz8 ycolz8 yendz8 vLa l4 a4 n4 f4 (hh0)) (cwV 1 hts (kGV wd_495 wd_492 wd_493 wd_494 wd_30) rfl rfl rfl (by decide +kernel) ⟨Nat.le_of_ble_eq_true rfl, Nat.le_of_ble_eq_true rfl⟩) (k_preV9 (q0 := 0) hK hPc hDc hN rfl) rfl rfl hl.1 rfl (lv_room (Nat.le_of_ble_eq_true rfl)) dX11_lakes_181 ⟨by decide +kernel, by decide +kernel⟩) hS (fun q _ h => hFc q h) hFc (fun r_47 u₀ t₀ H1 locs ht hvm hw hB hz1 hk1 hS => ?_)
                      obtain ⟨g_48, ga_49, gl_50, gb_51, gp_52⟩ := u₀
                      obtain ⟨hP1, hK1, hD1⟩ := hB
                      rw [ht] at hP1
                      have hJ := k_jn (wr := [(kX11 hx aLa aPa aGe aFl aTr aBe aLu aLo vSf vSm vCo vSh xs xl xf), (kX1 aFl vFl xn), (kAI vFl cI 32 ff), (kX3 gL (g_30 0) (g_30 1) (g_30 2) (g_30 3)), (kX3 gR (g_30 4) (g_30 5) (g_30 6) (g_30 7)), (kX7 aPa vPa l7 a7 n7), (kAI vPa cI 39 f7), (kX2 aGe vGe l2 a2 n2), (kAI vGe cI 23 f2), (kX6 aLo (g_42 0))]) (wt := [(kX11 hx aLa aPa aGe aFl aTr aBe aLu aLo vSf vSm vCo vSh xs xl xf), (kX1 aFl vFl xn), (kAI vFl cI 32 ff), (kX3 gL (g_30 0) (g_30 1) (g_30 2) (g_30 3)), (kX3 gR (g_30 4) (g_30 5) (g_30 6) (g_30 7)), (kX7 aPa vPa l7 a7 n7), (kAI vPa cI 39 f7), (kX2 aGe vGe l2 a2 n2), (kAI vGe cI 23 f2), (kX6 aLo (g_42 0)), (kX10 aTr aLa aPa aGe gL gR (gp_34 0) (gp_34 1) (g_30 8) (g_30 9) (g_30 10) (g_30 11) (g_30 12) (g_30 13) yleaz8 (g_48 0) (g_48 1) (g_48 2)), (kX4 aLa vLa l4 a4 n4), (kAI vLa cI 24 f4)]) hP hD hC [0, 1, 2, 4, 5, 8, 9, 10, 11, 12] rfl (by decide +kernel) (by decide +kernel) hk1 hFc hP1 hD1 rfl
                      clear hP hD hPc hDc hFc hC hP1 hD1 hK1 hz1 hk1 hvm ht
                      obtain ⟨hP, hD⟩ := hJ
                      generalize H1 = H at hP hS ⊢
                      try dsimp only at hw
                      obtain ⟨c_53, c_54, c_55, c_56⟩ := hw
                      refine lv_pop hx₀ hb dX11_lakes_184 rfl ?_
                      refine lv_aload_n hx₀ hb dX11_lakes_185 rfl (lv_at hl 6 rfl) ?_
                      refine va_get (D := (dC, dI)) (ci := 10) (v := .ref aTr) (C := RX11) (T := TX11) (N := 15) hx₀ hb hts inlX11 hown hK hP 0 rfl rfl 4 (by decide) (hts (.fieldLink RX11 42 "BittenStick" "trip" "LBittenStick$Trip;") wd_31) (fun _ h9 => h9) rfl dX11_lakes_186 ?_
                      refine va_get (D := (dC, dI)) (ci := 9) (v := .int (g_48 2)) (C := RX10) (T := TX10) (N := 17) hx₀ hb hts inlX10 hown hK hP 10 rfl rfl 16 (by decide) (hts (.fieldLink RX11 159 "BittenStick$Trip" "end" "I") wd_422) (fun _ h9 => h9) rfl dX11_lakes_189 ?_
                      refine lv_iload hx₀ hb dX11_lakes_192 (lv_at hl 5 rfl) ?_
                      refine lv_icmp_ne (tgt := 200) hx₀ hb dX11_lakes_194 (by decide) (fun c_57 => ?_) (fun c_57 => ?_)
                      · refine lv_iinc (v := iz8 + 1) (lv' := [(6, .int (iz8 + 1)), (9, .int r_22), (8, .int r_16), (7, .int r_10), (5, .int nuz8), (4, .int 3), (0, .ref hx), (1, .int z1), (2, .int nn), (3, .int w1)]) hx₀ hb dX11_lakes_200 hl (k := 3) rfl rfl (by decide) rfl (fun ls hl => ?_)
                        refine lv_goto (tgt := 83) hx₀ hb dX11_lakes_203 (by decide) ?_
                        exact ihz8 _ (lf_j_lakes_2 nn iz8 jz8 c_1 c_2 hiz8_0 hjz8 c_9) nuz8 (iz8 + 1) (g_30 8) (g_30 9) (g_30 10) (g_30 11) (g_30 12) (g_30 13) yleaz8 (g_48 0) (g_48 1) (g_48 2) (gp_34 0) (gp_34 1) (g_30 0) (g_30 1) (g_30 2) (g_30 3) (g_30 4) (g_30 5) (g_30 6) (g_30 7) (g_42 0) _ _ _ (lf_j_lakes_1 nn iz8 jz8 c_1 c_2 hiz8_0 hjz8 c_9) rfl (hP.sub [0, 10, 3, 4, 11, 12, 5, 6, 7, 8, 1, 2, 9] rfl) (hD.sub [0, 10, 3, 4, 11, 12, 5, 6, 7, 8, 1, 2, 9] (by decide +kernel) rfl) hS (lv_sub hl [0, 4, 5, 6, 7, 8, 9] rfl)
                      · refine lv_iinc (v := nuz8 + 1) (lv' := [(5, .int (nuz8 + 1)), (9, .int r_22), (8, .int r_16), (7, .int r_10), (6, .int iz8), (4, .int 3), (0, .ref hx), (1, .int z1), (2, .int nn), (3, .int w1)]) hx₀ hb dX11_lakes_197 hl (k := 4) rfl rfl (by decide) rfl (fun ls hl => ?_)
                        refine lv_iinc (v := iz8 + 1) (lv' := [(6, .int (iz8 + 1)), (5, .int (nuz8 + 1)), (9, .int r_22), (8, .int r_16), (7, .int r_10), (4, .int 3), (0, .ref hx), (1, .int z1), (2, .int nn), (3, .int w1)]) hx₀ hb dX11_lakes_200 hl (k := 4) rfl rfl (by decide) rfl (fun ls hl => ?_)
                        refine lv_goto (tgt := 83) hx₀ hb dX11_lakes_203 (by decide) ?_
                        exact ihz8 _ (lf_j_lakes_2 nn iz8 jz8 c_1 c_2 hiz8_0 hjz8 c_9) (nuz8 + 1) (iz8 + 1) (g_30 8) (g_30 9) (g_30 10) (g_30 11) (g_30 12) (g_30 13) yleaz8 (g_48 0) (g_48 1) (g_48 2) (gp_34 0) (gp_34 1) (g_30 0) (g_30 1) (g_30 2) (g_30 3) (g_30 4) (g_30 5) (g_30 6) (g_30 7) (g_42 0) _ _ _ (lf_j_lakes_1 nn iz8 jz8 c_1 c_2 hiz8_0 hjz8 c_9) rfl (hP.sub [0, 10, 3, 4, 11, 12, 5, 6, 7, 8, 1, 2, 9] rfl) (hD.sub [0, 10, 3, 4, 11, 12, 5, 6, 7, 8, 1, 2, 9] (by decide +kernel) rfl) hS (lv_sub hl [0, 1, 5, 6, 7, 8, 9] rfl)
                    · refine lv_iload hx₀ hb dX11_lakes_154 (lv_at hl 0 rfl) ?_
                      refine lv_goto (tgt := 163) hx₀ hb dX11_lakes_156 (by decide) ?_
                      obtain ⟨hPc, hDc, hFc, hC⟩ := k_cw (wc := [(kX10 aTr aLa aPa aGe gL gR pz8 qz8 ygoez8 ycarz8 ykinz8 ysorz8 ybeaz8 yweiz8 yleaz8 yangz8 ycolz8 yendz8), (kX3 gL w0z8 w1z8 w2z8 w3z8), (kX3 gR z0z8 z1z8 z2z8 z3z8), (kX4 aLa vLa l4 a4 n4), (kAI vLa cI 24 f4), (kX7 aPa vPa l7 a7 n7), (kAI vPa cI 39 f7), (kX2 aGe vGe l2 a2 n2), (kAI vGe cI 23 f2)]) hP hD hS hA [1, 2, 3, 4, 5, 6, 7, 8, 9] (by decide +kernel) rfl
                      refine va_callv (va_runV (As := [.int r_10, .int r_16, .int r_22]) (rest := []) ⟨hx₀, hb, hml, hown, hts⟩ (j_board l dC dI cI cJ cQ H.size aTr r_10 r_16 r_22 aLa aPa aGe gL gR pz8 qz8 ygoez8 ycarz8 ykinz8 ysorz8 ybeaz8 yweiz8 yleaz8 yangz8 ycolz8 yendz8 w0z8 w1z8 w2z8 w3z8 z0z8 z1z8 z2z8 z3z8 vLa l4 a4 n4 f4 vPa l7 a7 n7 f7 vGe l2 a2 n2 f2 (hh0)) (cwV 3 hts (kGV wd_452 wd_449 wd_450 wd_451 wd_30) rfl rfl rfl (by decide +kernel) ⟨Nat.le_of_ble_eq_true rfl, Nat.le_of_ble_eq_true rfl⟩) (k_preV9 (q0 := 0) hK hPc hDc hN rfl) rfl rfl hl.1 rfl (lv_room (Nat.le_of_ble_eq_true rfl)) dX11_lakes_163 ⟨by decide +kernel, by decide +kernel⟩) hS (fun q _ h => hFc q h) hFc (fun u₀ t₀ H1 locs ht hvm hw hB hz1 hk1 hS => ?_)
                      obtain ⟨g_59, ga_60, gl_61, gb_62, gp_63⟩ := u₀
                      obtain ⟨hP1, hK1, hD1⟩ := hB
                      rw [ht] at hP1
                      have hJ := k_jn (wr := [(kX11 hx aLa aPa aGe aFl aTr aBe aLu aLo vSf vSm vCo vSh xs xl xf), (kX1 aFl vFl xn), (kAI vFl cI 32 ff), (kX6 aLo (g_23 0))]) (wt := [(kX11 hx aLa aPa aGe aFl aTr aBe aLu aLo vSf vSm vCo vSh xs xl xf), (kX1 aFl vFl xn), (kAI vFl cI 32 ff), (kX6 aLo (g_23 0)), (kX10 aTr aLa aPa aGe gL gR (gp_63 0) (gp_63 1) (g_59 8) (g_59 9) (g_59 10) (g_59 11) (g_59 12) (g_59 13) yleaz8 yangz8 ycolz8 yendz8), (kX3 gL (g_59 0) (g_59 1) (g_59 2) (g_59 3)), (kX3 gR (g_59 4) (g_59 5) (g_59 6) (g_59 7)), (kX4 aLa vLa l4 a4 n4), (kAI vLa cI 24 f4), (kX7 aPa vPa l7 a7 n7), (kAI vPa cI 39 f7), (kX2 aGe vGe l2 a2 n2), (kAI vGe cI 23 f2)]) hP hD hC [0, 10, 11, 12] rfl (by decide +kernel) (by decide +kernel) hk1 hFc hP1 hD1 rfl
                      clear hP hD hPc hDc hFc hC hP1 hD1 hK1 hz1 hk1 hvm ht
                      obtain ⟨hP, hD⟩ := hJ
                      generalize H1 = H at hP hS ⊢
                      try dsimp only at hw
                      obtain ⟨c_64, c_65, c_66, c_67, c_68, c_69⟩ := hw
                      refine lv_aload_n hx₀ hb dX11_lakes_166 rfl (lv_at hl 6 rfl) ?_
                      refine va_get (D := (dC, dI)) (ci := 10) (v := .ref aTr) (C := RX11) (T := TX11) (N := 15) hx₀ hb hts inlX11 hown hK hP 0 rfl rfl 4 (by decide) (hts (.fieldLink RX11 42 "BittenStick" "trip" "LBittenStick$Trip;") wd_31) (fun _ h9 => h9) rfl dX11_lakes_167 ?_
                      refine lv_aload_n hx₀ hb dX11_lakes_170 rfl (lv_at hl 6 rfl) ?_
                      refine va_get (D := (dC, dI)) (ci := 10) (v := .ref aLo) (C := RX11) (T := TX11) (N := 15) hx₀ hb hts inlX11 hown hK hP 0 rfl rfl 7 (by decide) (hts (.fieldLink RX11 63 "BittenStick" "lots" "LBittenStick$Lots;") wd_43) (fun _ h9 => h9) rfl dX11_lakes_171 ?_
                      refine lv_bipush (v := 9) hx₀ hb dX11_lakes_174 (by decide +kernel) ?_
                      obtain ⟨hPc, hDc, hFc, hC⟩ := k_cw (wc := [(kX6 aLo (g_23 0))]) hP hD hS hA [3] (by decide +kernel) rfl
                      refine va_calli (va_runV (As := [.int 9]) (rest := [.ref aTr]) ⟨hx₀, hb, hml, hown, hts⟩ (j_draw l dC dI cI cJ cQ H.size aLo 9 (g_23 0)) (cwV 1 hts (kGV wd_840 wd_837 wd_838 wd_839 wd_42) rfl rfl rfl (by decide +kernel) ⟨Nat.le_of_ble_eq_true rfl, Nat.le_of_ble_eq_true rfl⟩) (k_preV6 (q0 := 0) hK hPc hDc hN rfl) rfl rfl hl.1 rfl (lv_room (Nat.le_of_ble_eq_true rfl)) dX11_lakes_176 ⟨by decide +kernel, by decide +kernel⟩) hS (fun q _ h => hFc q h) hFc (fun r_70 u₀ t₀ H1 locs ht hvm hw hB hz1 hk1 hS => ?_)
                      obtain ⟨g_71, ga_72, gl_73, gb_74, gp_75⟩ := u₀
                      obtain ⟨hP1, hK1, hD1⟩ := hB
                      rw [ht] at hP1
                      have hJ := k_jn (wr := [(kX11 hx aLa aPa aGe aFl aTr aBe aLu aLo vSf vSm vCo vSh xs xl xf), (kX1 aFl vFl xn), (kAI vFl cI 32 ff), (kX10 aTr aLa aPa aGe gL gR (gp_63 0) (gp_63 1) (g_59 8) (g_59 9) (g_59 10) (g_59 11) (g_59 12) (g_59 13) yleaz8 yangz8 ycolz8 yendz8), (kX3 gL (g_59 0) (g_59 1) (g_59 2) (g_59 3)), (kX3 gR (g_59 4) (g_59 5) (g_59 6) (g_59 7)), (kX4 aLa vLa l4 a4 n4), (kAI vLa cI 24 f4), (kX7 aPa vPa l7 a7 n7), (kAI vPa cI 39 f7), (kX2 aGe vGe l2 a2 n2), (kAI vGe cI 23 f2)]) (wt := [(kX11 hx aLa aPa aGe aFl aTr aBe aLu aLo vSf vSm vCo vSh xs xl xf), (kX1 aFl vFl xn), (kAI vFl cI 32 ff), (kX10 aTr aLa aPa aGe gL gR (gp_63 0) (gp_63 1) (g_59 8) (g_59 9) (g_59 10) (g_59 11) (g_59 12) (g_59 13) yleaz8 yangz8 ycolz8 yendz8), (kX3 gL (g_59 0) (g_59 1) (g_59 2) (g_59 3)), (kX3 gR (g_59 4) (g_59 5) (g_59 6) (g_59 7)), (kX4 aLa vLa l4 a4 n4), (kAI vLa cI 24 f4), (kX7 aPa vPa l7 a7 n7), (kAI vPa cI 39 f7), (kX2 aGe vGe l2 a2 n2), (kAI vGe cI 23 f2), (kX6 aLo (g_71 0))]) hP hD hC [0, 1, 2, 4, 5, 6, 7, 8, 9, 10, 11, 12] rfl (by decide +kernel) (by decide +kernel) hk1 hFc hP1 hD1 rfl
                      clear hP hD hPc hDc hFc hC hP1 hD1 hK1 hz1 hk1 hvm ht
                      obtain ⟨hP, hD⟩ := hJ
                      generalize H1 = H at hP hS ⊢
                      try dsimp only at hw
                      refine lv_iconst (v := 1) hx₀ hb dX11_lakes_179 (by decide +kernel) ?_
                      refine lv_iadd hx₀ hb dX11_lakes_180 ?_
                      obtain ⟨hPc, hDc, hFc, hC⟩ := k_cw (wc := [(kX10 aTr aLa aPa aGe gL gR (gp_63 0) (gp_63 1) (g_59 8) (g_59 9) (g_59 10) (g_59 11) (g_59 12) (g_59 13) yleaz8 yangz8 ycolz8 yendz8), (kX4 aLa vLa l4 a4 n4), (kAI vLa cI 24 f4)]) hP hD hS hA [3, 6, 7] (by decide +kernel) rfl
                      refine va_calli (va_runV (As := [.int (r_70 + 1)]) (rest := []) ⟨hx₀, hb, hml, hown, hts⟩ (j_comesTo l dC dI cI cJ cQ H.size aTr (r_70 + 1) aLa aPa aGe gL gR (gp_63 0) (gp_63 1) (g_59 8) (g_59 9) (g_59 10) (g_59 11) (g_59 12) (g_59 13) yleaz8 yangz8 ycolz8 yendz8 vLa l4 a4 n4 f4 (hh0)) (cwV 1 hts (kGV wd_495 wd_492 wd_493 wd_494 wd_30) rfl rfl rfl (by decide +kernel) ⟨Nat.le_of_ble_eq_true rfl, Nat.le_of_ble_eq_true rfl⟩) (k_preV9 (q0 := 0) hK hPc hDc hN rfl) rfl rfl hl.1 rfl (lv_room (Nat.le_of_ble_eq_true rfl)) dX11_lakes_181 ⟨by decide +kernel, by decide +kernel⟩) hS (fun q _ h => hFc q h) hFc (fun r_76 u₀ t₀ H1 locs ht hvm hw hB hz1 hk1 hS => ?_)
                      obtain ⟨g_77, ga_78, gl_79, gb_80, gp_81⟩ := u₀
                      obtain ⟨hP1, hK1, hD1⟩ := hB
                      rw [ht] at hP1
                      have hJ := k_jn (wr := [(kX11 hx aLa aPa aGe aFl aTr aBe aLu aLo vSf vSm vCo vSh xs xl xf), (kX1 aFl vFl xn), (kAI vFl cI 32 ff), (kX3 gL (g_59 0) (g_59 1) (g_59 2) (g_59 3)), (kX3 gR (g_59 4) (g_59 5) (g_59 6) (g_59 7)), (kX7 aPa vPa l7 a7 n7), (kAI vPa cI 39 f7), (kX2 aGe vGe l2 a2 n2), (kAI vGe cI 23 f2), (kX6 aLo (g_71 0))]) (wt := [(kX11 hx aLa aPa aGe aFl aTr aBe aLu aLo vSf vSm vCo vSh xs xl xf), (kX1 aFl vFl xn), (kAI vFl cI 32 ff), (kX3 gL (g_59 0) (g_59 1) (g_59 2) (g_59 3)), (kX3 gR (g_59 4) (g_59 5) (g_59 6) (g_59 7)), (kX7 aPa vPa l7 a7 n7), (kAI vPa cI 39 f7), (kX2 aGe vGe l2 a2 n2), (kAI vGe cI 23 f2), (kX6 aLo (g_71 0)), (kX10 aTr aLa aPa aGe gL gR (gp_63 0) (gp_63 1) (g_59 8) (g_59 9) (g_59 10) (g_59 11) (g_59 12) (g_59 13) yleaz8 (g_77 0) (g_77 1) (g_77 2)), (kX4 aLa vLa l4 a4 n4), (kAI vLa cI 24 f4)]) hP hD hC [0, 1, 2, 4, 5, 8, 9, 10, 11, 12] rfl (by decide +kernel) (by decide +kernel) hk1 hFc hP1 hD1 rfl
                      clear hP hD hPc hDc hFc hC hP1 hD1 hK1 hz1 hk1 hvm ht
                      obtain ⟨hP, hD⟩ := hJ
                      generalize H1 = H at hP hS ⊢
                      try dsimp only at hw
                      obtain ⟨c_82, c_83, c_84, c_85⟩ := hw
                      refine lv_pop hx₀ hb dX11_lakes_184 rfl ?_
                      refine lv_aload_n hx₀ hb dX11_lakes_185 rfl (lv_at hl 6 rfl) ?_
                      refine va_get (D := (dC, dI)) (ci := 10) (v := .ref aTr) (C := RX11) (T := TX11) (N := 15) hx₀ hb hts inlX11 hown hK hP 0 rfl rfl 4 (by decide) (hts (.fieldLink RX11 42 "BittenStick" "trip" "LBittenStick$Trip;") wd_31) (fun _ h9 => h9) rfl dX11_lakes_186 ?_
                      refine va_get (D := (dC, dI)) (ci := 9) (v := .int (g_77 2)) (C := RX10) (T := TX10) (N := 17) hx₀ hb hts inlX10 hown hK hP 10 rfl rfl 16 (by decide) (hts (.fieldLink RX11 159 "BittenStick$Trip" "end" "I") wd_422) (fun _ h9 => h9) rfl dX11_lakes_189 ?_
                      refine lv_iload hx₀ hb dX11_lakes_192 (lv_at hl 5 rfl) ?_
                      refine lv_icmp_ne (tgt := 200) hx₀ hb dX11_lakes_194 (by decide) (fun c_86 => ?_) (fun c_86 => ?_)
                      · refine lv_iinc (v := iz8 + 1) (lv' := [(6, .int (iz8 + 1)), (9, .int r_22), (8, .int r_16), (7, .int r_10), (5, .int nuz8), (4, .int 3), (0, .ref hx), (1, .int z1), (2, .int nn), (3, .int w1)]) hx₀ hb dX11_lakes_200 hl (k := 3) rfl rfl (by decide) rfl (fun ls hl => ?_)
                        refine lv_goto (tgt := 83) hx₀ hb dX11_lakes_203 (by decide) ?_
                        exact ihz8 _ (lf_j_lakes_2 nn iz8 jz8 c_1 c_2 hiz8_0 hjz8 c_9) nuz8 (iz8 + 1) (g_59 8) (g_59 9) (g_59 10) (g_59 11) (g_59 12) (g_59 13) yleaz8 (g_77 0) (g_77 1) (g_77 2) (gp_63 0) (gp_63 1) (g_59 0) (g_59 1) (g_59 2) (g_59 3) (g_59 4) (g_59 5) (g_59 6) (g_59 7) (g_71 0) _ _ _ (lf_j_lakes_1 nn iz8 jz8 c_1 c_2 hiz8_0 hjz8 c_9) rfl (hP.sub [0, 10, 3, 4, 11, 12, 5, 6, 7, 8, 1, 2, 9] rfl) (hD.sub [0, 10, 3, 4, 11, 12, 5, 6, 7, 8, 1, 2, 9] (by decide +kernel) rfl) hS (lv_sub hl [0, 4, 5, 6, 7, 8, 9] rfl)
                      · refine lv_iinc (v := nuz8 + 1) (lv' := [(5, .int (nuz8 + 1)), (9, .int r_22), (8, .int r_16), (7, .int r_10), (6, .int iz8), (4, .int 3), (0, .ref hx), (1, .int z1), (2, .int nn), (3, .int w1)]) hx₀ hb dX11_lakes_197 hl (k := 4) rfl rfl (by decide) rfl (fun ls hl => ?_)
                        refine lv_iinc (v := iz8 + 1) (lv' := [(6, .int (iz8 + 1)), (5, .int (nuz8 + 1)), (9, .int r_22), (8, .int r_16), (7, .int r_10), (4, .int 3), (0, .ref hx), (1, .int z1), (2, .int nn), (3, .int w1)]) hx₀ hb dX11_lakes_200 hl (k := 4) rfl rfl (by decide) rfl (fun ls hl => ?_)
                        refine lv_goto (tgt := 83) hx₀ hb dX11_lakes_203 (by decide) ?_
                        exact ihz8 _ (lf_j_lakes_2 nn iz8 jz8 c_1 c_2 hiz8_0 hjz8 c_9) (nuz8 + 1) (iz8 + 1) (g_59 8) (g_59 9) (g_59 10) (g_59 11) (g_59 12) (g_59 13) yleaz8 (g_77 0) (g_77 1) (g_77 2) (gp_63 0) (gp_63 1) (g_59 0) (g_59 1) (g_59 2) (g_59 3) (g_59 4) (g_59 5) (g_59 6) (g_59 7) (g_71 0) _ _ _ (lf_j_lakes_1 nn iz8 jz8 c_1 c_2 hiz8_0 hjz8 c_9) rfl (hP.sub [0, 10, 3, 4, 11, 12, 5, 6, 7, 8, 1, 2, 9] rfl) (hD.sub [0, 10, 3, 4, 11, 12, 5, 6, 7, 8, 1, 2, 9] (by decide +kernel) rfl) hS (lv_sub hl [0, 1, 5, 6, 7, 8, 9] rfl)
              · refine lv_iconst (v := 0) hx₀ hb dX11_lakes_70 (by decide +kernel) ?_
                refine lv_goto (tgt := 75) hx₀ hb dX11_lakes_71 (by decide) ?_
                refine lv_istore (lv' := [(4, .int 0), (0, .ref hx), (1, .int z1), (2, .int nn), (3, .int w1)]) hx₀ hb dX11_lakes_75 hl (by decide) rfl (fun ls hl => ?_)
                refine lv_iconst (v := 0) hx₀ hb dX11_lakes_77 (by decide +kernel) ?_
                refine lv_istore (lv' := [(5, .int 0), (4, .int 0), (0, .ref hx), (1, .int z1), (2, .int nn), (3, .int w1)]) hx₀ hb dX11_lakes_78 hl (by decide) rfl (fun ls hl => ?_)
                refine lv_iconst (v := 0) hx₀ hb dX11_lakes_80 (by decide +kernel) ?_
                refine lv_istore (lv' := [(6, .int 0), (5, .int 0), (4, .int 0), (0, .ref hx), (1, .int z1), (2, .int nn), (3, .int w1)]) hx₀ hb dX11_lakes_81 hl (by decide) rfl (fun ls hl => ?_)
                refine (?keyz87 : ∀ (jz87 : Nat) (nuz87 : Int32) (iz87 : Int32) (ygoez87 : Int32) (ycarz87 : Int32) (ykinz87 : Int32) (ysorz87 : Int32) (ybeaz87 : Int32) (yweiz87 : Int32) (yleaz87 : Int32) (yangz87 : Int32) (ycolz87 : Int32) (yendz87 : Int32) (pz87 : Nat) (qz87 : Nat) (w0z87 : Int32) (w1z87 : Int32) (w2z87 : Int32) (w3z87 : Int32) (z0z87 : Int32) (z1z87 : Int32) (z2z87 : Int32) (z3z87 : Int32) (sdz87 : Int32) (H : Heap) (locs : List Loc) (ls : Array Slot), (0 ≤ iz87) → ((nn.toInt - iz87.toInt).toNat = jz87) → va_P (dC, dI) vwCl [(kX11 hx aLa aPa aGe aFl aTr aBe aLu aLo vSf vSm vCo vSh xs xl xf), (kX10 aTr aLa aPa aGe gL gR pz87 qz87 ygoez87 ycarz87 ykinz87 ysorz87 ybeaz87 yweiz87 yleaz87 yangz87 ycolz87 yendz87), (kX3 gL w0z87 w1z87 w2z87 w3z87), (kX3 gR z0z87 z1z87 z2z87 z3z87), (kX4 aLa vLa l4 a4 n4), (kAI vLa cI 24 f4), (kX7 aPa vPa l7 a7 n7), (kAI vPa cI 39 f7), (kX2 aGe vGe l2 a2 n2), (kAI vGe cI 23 f2), (kX1 aFl vFl xn), (kAI vFl cI 32 ff), (kX6 aLo sdz87)] H → va_D A [(kX11 hx aLa aPa aGe aFl aTr aBe aLu aLo vSf vSm vCo vSh xs xl xf), (kX10 aTr aLa aPa aGe gL gR pz87 qz87 ygoez87 ycarz87 ykinz87 ysorz87 ybeaz87 yweiz87 yleaz87 yangz87 ycolz87 yendz87), (kX3 gL w0z87 w1z87 w2z87 w3z87), (kX3 gR z0z87 z1z87 z2z87 z3z87), (kX4 aLa vLa l4 a4 n4), (kAI vLa cI 24 f4), (kX7 aPa vPa l7 a7 n7), (kAI vPa cI 39 f7), (kX2 aGe vGe l2 a2 n2), (kAI vGe cI 23 f2), (kX1 aFl vFl xn), (kAI vFl cI 32 ff), (kX6 aLo sdz87)] → va_S A s₀.heap H locs → lv_has ls 10 [(6, .int iz87), (5, .int nuz87), (4, .int 0), (0, .ref hx), (1, .int z1), (2, .int nn), (3, .int w1)] → W p₀ l e₀ _ s₀ m₀ _ below meth c₀ H locs _ _ _ (F0 m₀ 83 ls [])) _ (0 : Int32) (0 : Int32) tgo tca tki tso tbe twe xl tan tco ten lf rt u0 u1 u2 u3 v0 v1 v2 v3 z1 H locs ls (show 0 ≤ (0 : Int32) from (by decide)) rfl hP hD hS hl
                clear hP hD hS hl
                intro jz87
                induction jz87 using Nat.strongRecOn with
                | ind jz87 ihz87 =>
                  intro nuz87 iz87 ygoez87 ycarz87 ykinz87 ysorz87 ybeaz87 yweiz87 yleaz87 yangz87 ycolz87 yendz87 pz87 qz87 w0z87 w1z87 w2z87 w3z87 z0z87 z1z87 z2z87 z3z87 sdz87 H locs ls hiz87_0 hjz87 hP hD hS hl
                  refine lv_iload hx₀ hb dX11_lakes_83 (lv_at hl 0 rfl) ?_
                  refine lv_iload_n hx₀ hb dX11_lakes_85 rfl (lv_at hl 5 rfl) ?_
                  refine lv_icmp_ge (tgt := 206) hx₀ hb dX11_lakes_86 (by decide) (fun c_88 => ?_) (fun c_88 => ?_)
                  · refine lv_iload hx₀ hb dX11_lakes_206 (lv_at hl 1 rfl) ?_
                    obtain ⟨hP9, hD9⟩ := k_c2 (wc := [(kX11 hx aLa aPa aGe aFl aTr aBe aLu aLo vSf vSm vCo vSh xs xl xf), (kX10 aTr aLa aPa aGe gL gR pz87 qz87 ygoez87 ycarz87 ykinz87 ysorz87 ybeaz87 yweiz87 yleaz87 yangz87 ycolz87 yendz87), (kX3 gL w0z87 w1z87 w2z87 w3z87), (kX3 gR z0z87 z1z87 z2z87 z3z87), (kX4 aLa vLa l4 a4 n4), (kAI vLa cI 24 f4), (kX7 aPa vPa l7 a7 n7), (kAI vPa cI 39 f7), (kX2 aGe vGe l2 a2 n2), (kAI vGe cI 23 f2), (kX1 aFl vFl xn), (kAI vFl cI 32 ff), (kX6 aLo sdz87)]) hP hD [0, 1, 2, 3, 4, 5, 6, 7, 8, 9, 10, 11, 12] (by decide +kernel) rfl
                    exact W.iret (v := nuz87) hx₀ hb hr (fun t₀ ht hW => ⟨⟨nuz87, (k_fn [w0z87, w1z87, w2z87, w3z87, z0z87, z1z87, z2z87, z3z87, ygoez87, ycarz87, ykinz87, ysorz87, ybeaz87, yweiz87, yleaz87, yangz87, ycolz87, yendz87, sdz87], k_fa [], k_fl [], k_fL [], k_fp [pz87, qz87]), rfl, trivial, by rw [ht]; exact hP9, va_K.moved hW.alike hK, hD9⟩, hS.F ht⟩) hS.2.2 dX11_lakes_208
                  · refine lv_aload_n hx₀ hb dX11_lakes_89 rfl (lv_at hl 3 rfl) ?_
                    refine va_get (D := (dC, dI)) (ci := 10) (v := .ref aLo) (C := RX11) (T := TX11) (N := 15) hx₀ hb hts inlX11 hown hK hP 0 rfl rfl 7 (by decide) (hts (.fieldLink RX11 63 "BittenStick" "lots" "LBittenStick$Lots;") wd_43) (fun _ h9 => h9) rfl dX11_lakes_90 ?_
                    refine lv_aload_n hx₀ hb dX11_lakes_93 rfl (lv_at hl 3 rfl) ?_
                    refine va_get (D := (dC, dI)) (ci := 10) (v := .ref aPa) (C := RX11) (T := TX11) (N := 15) hx₀ hb hts inlX11 hown hK hP 0 rfl rfl 1 (by decide) (hts (.fieldLink RX11 19 "BittenStick" "passengers" "LBittenStick$Passengers;") wd_19) (fun _ h9 => h9) rfl dX11_lakes_94 ?_
                    refine va_get (D := (dC, dI)) (ci := 7) (v := .int n7) (C := RX7) (T := TX7) (N := 4) hx₀ hb hts inlX7 hown hK hP 6 rfl rfl 3 (by decide) (hts (.fieldLink RX11 223 "BittenStick$Passengers" "number" "I") wd_834) (fun x9 h9 => u_same (hts (.sameField "BittenStick$Passengers" "BittenStick$Text" "number" "I") wd_835) x9 h9) rfl dX11_lakes_97 ?_
                    obtain ⟨hPc, hDc, hFc, hC⟩ := k_cw (wc := [(kX6 aLo sdz87)]) hP hD hS hA [12] (by decide +kernel) rfl
                    refine va_calli (va_runV (As := [.int n7]) (rest := []) ⟨hx₀, hb, hml, hown, hts⟩ (j_draw l dC dI cI cJ cQ H.size aLo n7 sdz87) (cwV 1 hts (kGV wd_840 wd_837 wd_838 wd_839 wd_42) rfl rfl rfl (by decide +kernel) ⟨Nat.le_of_ble_eq_true rfl, Nat.le_of_ble_eq_true rfl⟩) (k_preV6 (q0 := 0) hK hPc hDc hN rfl) rfl rfl hl.1 rfl (lv_room (Nat.le_of_ble_eq_true rfl)) dX11_lakes_100 ⟨by decide +kernel, by decide +kernel⟩) hS (fun q _ h => hFc q h) hFc (fun r_89 u₀ t₀ H1 locs ht hvm hw hB hz1 hk1 hS => ?_)
                    obtain ⟨g_90, ga_91, gl_92, gb_93, gp_94⟩ := u₀
                    obtain ⟨hP1, hK1, hD1⟩ := hB
                    rw [ht] at hP1
                    have hJ := k_jn (wr := [(kX11 hx aLa aPa aGe aFl aTr aBe aLu aLo vSf vSm vCo vSh xs xl xf), (kX10 aTr aLa aPa aGe gL gR pz87 qz87 ygoez87 ycarz87 ykinz87 ysorz87 ybeaz87 yweiz87 yleaz87 yangz87 ycolz87 yendz87), (kX3 gL w0z87 w1z87 w2z87 w3z87), (kX3 gR z0z87 z1z87 z2z87 z3z87), (kX4 aLa vLa l4 a4 n4), (kAI vLa cI 24 f4), (kX7 aPa vPa l7 a7 n7), (kAI vPa cI 39 f7), (kX2 aGe vGe l2 a2 n2), (kAI vGe cI 23 f2), (kX1 aFl vFl xn), (kAI vFl cI 32 ff)]) (wt := [(kX11 hx aLa aPa aGe aFl aTr aBe aLu aLo vSf vSm vCo vSh xs xl xf), (kX10 aTr aLa aPa aGe gL gR pz87 qz87 ygoez87 ycarz87 ykinz87 ysorz87 ybeaz87 yweiz87 yleaz87 yangz87 ycolz87 yendz87), (kX3 gL w0z87 w1z87 w2z87 w3z87), (kX3 gR z0z87 z1z87 z2z87 z3z87), (kX4 aLa vLa l4 a4 n4), (kAI vLa cI 24 f4), (kX7 aPa vPa l7 a7 n7), (kAI vPa cI 39 f7), (kX2 aGe vGe l2 a2 n2), (kAI vGe cI 23 f2), (kX1 aFl vFl xn), (kAI vFl cI 32 ff), (kX6 aLo (g_90 0))]) hP hD hC [0, 1, 2, 3, 4, 5, 6, 7, 8, 9, 10, 11] rfl (by decide +kernel) (by decide +kernel) hk1 hFc hP1 hD1 rfl
                    clear hP hD hPc hDc hFc hC hP1 hD1 hK1 hz1 hk1 hvm ht
                    obtain ⟨hP, hD⟩ := hJ
                    generalize H1 = H at hP hS ⊢
                    try dsimp only at hw
                    refine lv_istore (lv' := [(7, .int r_89), (6, .int iz87), (5, .int nuz87), (4, .int 0), (0, .ref hx), (1, .int z1), (2, .int nn), (3, .int w1)]) hx₀ hb dX11_lakes_103 hl (by decide) rfl (fun ls hl => ?_)
                    refine lv_aload_n hx₀ hb dX11_lakes_105 rfl (lv_at hl 4 rfl) ?_
                    refine va_get (D := (dC, dI)) (ci := 10) (v := .ref aLo) (C := RX11) (T := TX11) (N := 15) hx₀ hb hts inlX11 hown hK hP 0 rfl rfl 7 (by decide) (hts (.fieldLink RX11 63 "BittenStick" "lots" "LBittenStick$Lots;") wd_43) (fun _ h9 => h9) rfl dX11_lakes_106 ?_
                    refine lv_aload_n hx₀ hb dX11_lakes_109 rfl (lv_at hl 4 rfl) ?_
                    refine va_get (D := (dC, dI)) (ci := 10) (v := .ref aGe) (C := RX11) (T := TX11) (N := 15) hx₀ hb hts inlX11 hown hK hP 0 rfl rfl 2 (by decide) (hts (.fieldLink RX11 26 "BittenStick" "geese" "LBittenStick$Geese;") wd_23) (fun _ h9 => h9) rfl dX11_lakes_110 ?_
                    refine va_get (D := (dC, dI)) (ci := 2) (v := .int n2) (C := RX2) (T := TX2) (N := 4) hx₀ hb hts inlX2 hown hK hP 8 rfl rfl 3 (by decide) (hts (.fieldLink RX11 185 "BittenStick$Geese" "number" "I") wd_676) (fun x9 h9 => u_same (hts (.sameField "BittenStick$Geese" "BittenStick$Text" "number" "I") wd_677) x9 h9) rfl dX11_lakes_113 ?_
                    obtain ⟨hPc, hDc, hFc, hC⟩ := k_cw (wc := [(kX6 aLo (g_90 0))]) hP hD hS hA [12] (by decide +kernel) rfl
                    refine va_calli (va_runV (As := [.int n2]) (rest := []) ⟨hx₀, hb, hml, hown, hts⟩ (j_draw l dC dI cI cJ cQ H.size aLo n2 (g_90 0)) (cwV 1 hts (kGV wd_840 wd_837 wd_838 wd_839 wd_42) rfl rfl rfl (by decide +kernel) ⟨Nat.le_of_ble_eq_true rfl, Nat.le_of_ble_eq_true rfl⟩) (k_preV6 (q0 := 0) hK hPc hDc hN rfl) rfl rfl hl.1 rfl (lv_room (Nat.le_of_ble_eq_true rfl)) dX11_lakes_116 ⟨by decide +kernel, by decide +kernel⟩) hS (fun q _ h => hFc q h) hFc (fun r_95 u₀ t₀ H1 locs ht hvm hw hB hz1 hk1 hS => ?_)
                    obtain ⟨g_96, ga_97, gl_98, gb_99, gp_100⟩ := u₀
                    obtain ⟨hP1, hK1, hD1⟩ := hB
                    rw [ht] at hP1
                    have hJ := k_jn (wr := [(kX11 hx aLa aPa aGe aFl aTr aBe aLu aLo vSf vSm vCo vSh xs xl xf), (kX10 aTr aLa aPa aGe gL gR pz87 qz87 ygoez87 ycarz87 ykinz87 ysorz87 ybeaz87 yweiz87 yleaz87 yangz87 ycolz87 yendz87), (kX3 gL w0z87 w1z87 w2z87 w3z87), (kX3 gR z0z87 z1z87 z2z87 z3z87), (kX4 aLa vLa l4 a4 n4), (kAI vLa cI 24 f4), (kX7 aPa vPa l7 a7 n7), (kAI vPa cI 39 f7), (kX2 aGe vGe l2 a2 n2), (kAI vGe cI 23 f2), (kX1 aFl vFl xn), (kAI vFl cI 32 ff)]) (wt := [(kX11 hx aLa aPa aGe aFl aTr aBe aLu aLo vSf vSm vCo vSh xs xl xf), (kX10 aTr aLa aPa aGe gL gR pz87 qz87 ygoez87 ycarz87 ykinz87 ysorz87 ybeaz87 yweiz87 yleaz87 yangz87 ycolz87 yendz87), (kX3 gL w0z87 w1z87 w2z87 w3z87), (kX3 gR z0z87 z1z87 z2z87 z3z87), (kX4 aLa vLa l4 a4 n4), (kAI vLa cI 24 f4), (kX7 aPa vPa l7 a7 n7), (kAI vPa cI 39 f7), (kX2 aGe vGe l2 a2 n2), (kAI vGe cI 23 f2), (kX1 aFl vFl xn), (kAI vFl cI 32 ff), (kX6 aLo (g_96 0))]) hP hD hC [0, 1, 2, 3, 4, 5, 6, 7, 8, 9, 10, 11] rfl (by decide +kernel) (by decide +kernel) hk1 hFc hP1 hD1 rfl
                    clear hP hD hPc hDc hFc hC hP1 hD1 hK1 hz1 hk1 hvm ht
                    obtain ⟨hP, hD⟩ := hJ
                    generalize H1 = H at hP hS ⊢
                    try dsimp only at hw
                    refine lv_istore (lv' := [(8, .int r_95), (7, .int r_89), (6, .int iz87), (5, .int nuz87), (4, .int 0), (0, .ref hx), (1, .int z1), (2, .int nn), (3, .int w1)]) hx₀ hb dX11_lakes_119 hl (by decide) rfl (fun ls hl => ?_)
                    refine lv_aload_n hx₀ hb dX11_lakes_121 rfl (lv_at hl 5 rfl) ?_
                    refine va_get (D := (dC, dI)) (ci := 10) (v := .ref aLo) (C := RX11) (T := TX11) (N := 15) hx₀ hb hts inlX11 hown hK hP 0 rfl rfl 7 (by decide) (hts (.fieldLink RX11 63 "BittenStick" "lots" "LBittenStick$Lots;") wd_43) (fun _ h9 => h9) rfl dX11_lakes_122 ?_
                    refine lv_aload_n hx₀ hb dX11_lakes_125 rfl (lv_at hl 5 rfl) ?_
                    refine va_get (D := (dC, dI)) (ci := 10) (v := .ref aGe) (C := RX11) (T := TX11) (N := 15) hx₀ hb hts inlX11 hown hK hP 0 rfl rfl 2 (by decide) (hts (.fieldLink RX11 26 "BittenStick" "geese" "LBittenStick$Geese;") wd_23) (fun _ h9 => h9) rfl dX11_lakes_126 ?_
                    refine va_get (D := (dC, dI)) (ci := 2) (v := .int n2) (C := RX2) (T := TX2) (N := 4) hx₀ hb hts inlX2 hown hK hP 8 rfl rfl 3 (by decide) (hts (.fieldLink RX11 185 "BittenStick$Geese" "number" "I") wd_676) (fun x9 h9 => u_same (hts (.sameField "BittenStick$Geese" "BittenStick$Text" "number" "I") wd_677) x9 h9) rfl dX11_lakes_129 ?_
                    refine lv_iconst (v := 1) hx₀ hb dX11_lakes_132 (by decide +kernel) ?_
                    refine lv_isub hx₀ hb dX11_lakes_133 ?_
                    obtain ⟨hPc, hDc, hFc, hC⟩ := k_cw (wc := [(kX6 aLo (g_96 0))]) hP hD hS hA [12] (by decide +kernel) rfl
                    refine va_calli (va_runV (As := [.int (n2 - 1)]) (rest := []) ⟨hx₀, hb, hml, hown, hts⟩ (j_draw l dC dI cI cJ cQ H.size aLo (n2 - 1) (g_96 0)) (cwV 1 hts (kGV wd_840 wd_837 wd_838 wd_839 wd_42) rfl rfl rfl (by decide +kernel) ⟨Nat.le_of_ble_eq_true rfl, Nat.le_of_ble_eq_true rfl⟩) (k_preV6 (q0 := 0) hK hPc hDc hN rfl) rfl rfl hl.1 rfl (lv_room (Nat.le_of_ble_eq_true rfl)) dX11_lakes_134 ⟨by decide +kernel, by decide +kernel⟩) hS (fun q _ h => hFc q h) hFc (fun r_101 u₀ t₀ H1 locs ht hvm hw hB hz1 hk1 hS => ?_)
                    obtain ⟨g_102, ga_103, gl_104, gb_105, gp_106⟩ := u₀
                    obtain ⟨hP1, hK1, hD1⟩ := hB
                    rw [ht] at hP1
                    have hJ := k_jn (wr := [(kX11 hx aLa aPa aGe aFl aTr aBe aLu aLo vSf vSm vCo vSh xs xl xf), (kX10 aTr aLa aPa aGe gL gR pz87 qz87 ygoez87 ycarz87 ykinz87 ysorz87 ybeaz87 yweiz87 yleaz87 yangz87 ycolz87 yendz87), (kX3 gL w0z87 w1z87 w2z87 w3z87), (kX3 gR z0z87 z1z87 z2z87 z3z87), (kX4 aLa vLa l4 a4 n4), (kAI vLa cI 24 f4), (kX7 aPa vPa l7 a7 n7), (kAI vPa cI 39 f7), (kX2 aGe vGe l2 a2 n2), (kAI vGe cI 23 f2), (kX1 aFl vFl xn), (kAI vFl cI 32 ff)]) (wt := [(kX11 hx aLa aPa aGe aFl aTr aBe aLu aLo vSf vSm vCo vSh xs xl xf), (kX10 aTr aLa aPa aGe gL gR pz87 qz87 ygoez87 ycarz87 ykinz87 ysorz87 ybeaz87 yweiz87 yleaz87 yangz87 ycolz87 yendz87), (kX3 gL w0z87 w1z87 w2z87 w3z87), (kX3 gR z0z87 z1z87 z2z87 z3z87), (kX4 aLa vLa l4 a4 n4), (kAI vLa cI 24 f4), (kX7 aPa vPa l7 a7 n7), (kAI vPa cI 39 f7), (kX2 aGe vGe l2 a2 n2), (kAI vGe cI 23 f2), (kX1 aFl vFl xn), (kAI vFl cI 32 ff), (kX6 aLo (g_102 0))]) hP hD hC [0, 1, 2, 3, 4, 5, 6, 7, 8, 9, 10, 11] rfl (by decide +kernel) (by decide +kernel) hk1 hFc hP1 hD1 rfl
                    clear hP hD hPc hDc hFc hC hP1 hD1 hK1 hz1 hk1 hvm ht
                    obtain ⟨hP, hD⟩ := hJ
                    generalize H1 = H at hP hS ⊢
                    try dsimp only at hw
                    refine lv_istore (lv' := [(9, .int r_101), (8, .int r_95), (7, .int r_89), (6, .int iz87), (5, .int nuz87), (4, .int 0), (0, .ref hx), (1, .int z1), (2, .int nn), (3, .int w1)]) hx₀ hb dX11_lakes_137 hl (by decide) rfl (fun ls hl => ?_)
                    refine lv_aload_n hx₀ hb dX11_lakes_139 rfl (lv_at hl 6 rfl) ?_
                    refine va_get (D := (dC, dI)) (ci := 10) (v := .ref aTr) (C := RX11) (T := TX11) (N := 15) hx₀ hb hts inlX11 hown hK hP 0 rfl rfl 4 (by decide) (hts (.fieldLink RX11 42 "BittenStick" "trip" "LBittenStick$Trip;") wd_31) (fun _ h9 => h9) rfl dX11_lakes_140 ?_
                    refine lv_iload hx₀ hb dX11_lakes_143 (lv_at hl 2 rfl) ?_
                    refine lv_iload hx₀ hb dX11_lakes_145 (lv_at hl 1 rfl) ?_
                    refine lv_iload hx₀ hb dX11_lakes_147 (lv_at hl 0 rfl) ?_
                    refine lv_iload hx₀ hb dX11_lakes_149 (lv_at hl 1 rfl) ?_
                    refine lv_icmp_ge (tgt := 159) hx₀ hb dX11_lakes_151 (by decide) (fun c_107 => ?_) (fun c_107 => ?_)
                    · refine lv_iload hx₀ hb dX11_lakes_159 (lv_at hl 0 rfl) ?_
                      refine lv_iconst (v := 1) hx₀ hb dX11_lakes_161 (by decide +kernel) ?_
                      refine lv_iadd hx₀ hb dX11_lakes_162 ?_
                      obtain ⟨hPc, hDc, hFc, hC⟩ := k_cw (wc := [(kX10 aTr aLa aPa aGe gL gR pz87 qz87 ygoez87 ycarz87 ykinz87 ysorz87 ybeaz87 yweiz87 yleaz87 yangz87 ycolz87 yendz87), (kX3 gL w0z87 w1z87 w2z87 w3z87), (kX3 gR z0z87 z1z87 z2z87 z3z87), (kX4 aLa vLa l4 a4 n4), (kAI vLa cI 24 f4), (kX7 aPa vPa l7 a7 n7), (kAI vPa cI 39 f7), (kX2 aGe vGe l2 a2 n2), (kAI vGe cI 23 f2)]) hP hD hS hA [1, 2, 3, 4, 5, 6, 7, 8, 9] (by decide +kernel) rfl
                      refine va_callv (va_runV (As := [.int r_89, .int r_95, .int (r_101 + 1)]) (rest := []) ⟨hx₀, hb, hml, hown, hts⟩ (j_board l dC dI cI cJ cQ H.size aTr r_89 r_95 (r_101 + 1) aLa aPa aGe gL gR pz87 qz87 ygoez87 ycarz87 ykinz87 ysorz87 ybeaz87 yweiz87 yleaz87 yangz87 ycolz87 yendz87 w0z87 w1z87 w2z87 w3z87 z0z87 z1z87 z2z87 z3z87 vLa l4 a4 n4 f4 vPa l7 a7 n7 f7 vGe l2 a2 n2 f2 (hh0)) (cwV 3 hts (kGV wd_452 wd_449 wd_450 wd_451 wd_30) rfl rfl rfl (by decide +kernel) ⟨Nat.le_of_ble_eq_true rfl, Nat.le_of_ble_eq_true rfl⟩) (k_preV9 (q0 := 0) hK hPc hDc hN rfl) rfl rfl hl.1 rfl (lv_room (Nat.le_of_ble_eq_true rfl)) dX11_lakes_163 ⟨by decide +kernel, by decide +kernel⟩) hS (fun q _ h => hFc q h) hFc (fun u₀ t₀ H1 locs ht hvm hw hB hz1 hk1 hS => ?_)
                      obtain ⟨g_109, ga_110, gl_111, gb_112, gp_113⟩ := u₀
                      obtain ⟨hP1, hK1, hD1⟩ := hB
                      rw [ht] at hP1
                      have hJ := k_jn (wr := [(kX11 hx aLa aPa aGe aFl aTr aBe aLu aLo vSf vSm vCo vSh xs xl xf), (kX1 aFl vFl xn), (kAI vFl cI 32 ff), (kX6 aLo (g_102 0))]) (wt := [(kX11 hx aLa aPa aGe aFl aTr aBe aLu aLo vSf vSm vCo vSh xs xl xf), (kX1 aFl vFl xn), (kAI vFl cI 32 ff), (kX6 aLo (g_102 0)), (kX10 aTr aLa aPa aGe gL gR (gp_113 0) (gp_113 1) (g_109 8) (g_109 9) (g_109 10) (g_109 11) (g_109 12) (g_109 13) yleaz87 yangz87 ycolz87 yendz87), (kX3 gL (g_109 0) (g_109 1) (g_109 2) (g_109 3)), (kX3 gR (g_109 4) (g_109 5) (g_109 6) (g_109 7)), (kX4 aLa vLa l4 a4 n4), (kAI vLa cI 24 f4), (kX7 aPa vPa l7 a7 n7), (kAI vPa cI 39 f7), (kX2 aGe vGe l2 a2 n2), (kAI vGe cI 23 f2)]) hP hD hC [0, 10, 11, 12] rfl (by decide +kernel) (by decide +kernel) hk1 hFc hP1 hD1 rfl
                      clear hP hD hPc hDc hFc hC hP1 hD1 hK1 hz1 hk1 hvm ht
                      obtain ⟨hP, hD⟩ := hJ
                      generalize H1 = H at hP hS ⊢
                      try dsimp only at hw
                      obtain ⟨c_114, c_115, c_116, c_117, c_118, c_119⟩ := hw
                      refine lv_aload_n hx₀ hb dX11_lakes_166 rfl (lv_at hl 6 rfl) ?_
                      refine va_get (D := (dC, dI)) (ci := 10) (v := .ref aTr) (C := RX11) (T := TX11) (N := 15) hx₀ hb hts inlX11 hown hK hP 0 rfl rfl 4 (by decide) (hts (.fieldLink RX11 42 "BittenStick" "trip" "LBittenStick$Trip;") wd_31) (fun _ h9 => h9) rfl dX11_lakes_167 ?_
                      refine lv_aload_n hx₀ hb dX11_lakes_170 rfl (lv_at hl 6 rfl) ?_
                      refine va_get (D := (dC, dI)) (ci := 10) (v := .ref aLo) (C := RX11) (T := TX11) (N := 15) hx₀ hb hts inlX11 hown hK hP 0 rfl rfl 7 (by decide) (hts (.fieldLink RX11 63 "BittenStick" "lots" "LBittenStick$Lots;") wd_43) (fun _ h9 => h9) rfl dX11_lakes_171 ?_
                      refine lv_bipush (v := 9) hx₀ hb dX11_lakes_174 (by decide +kernel) ?_
                      obtain ⟨hPc, hDc, hFc, hC⟩ := k_cw (wc := [(kX6 aLo (g_102 0))]) hP hD hS hA [3] (by decide +kernel) rfl
                      refine va_calli (va_runV (As := [.int 9]) (rest := [.ref aTr]) ⟨hx₀, hb, hml, hown, hts⟩ (j_draw l dC dI cI cJ cQ H.size aLo 9 (g_102 0)) (cwV 1 hts (kGV wd_840 wd_837 wd_838 wd_839 wd_42) rfl rfl rfl (by decide +kernel) ⟨Nat.le_of_ble_eq_true rfl, Nat.le_of_ble_eq_true rfl⟩) (k_preV6 (q0 := 0) hK hPc hDc hN rfl) rfl rfl hl.1 rfl (lv_room (Nat.le_of_ble_eq_true rfl)) dX11_lakes_176 ⟨by decide +kernel, by decide +kernel⟩) hS (fun q _ h => hFc q h) hFc (fun r_120 u₀ t₀ H1 locs ht hvm hw hB hz1 hk1 hS => ?_)
                      obtain ⟨g_121, ga_122, gl_123, gb_124, gp_125⟩ := u₀
                      obtain ⟨hP1, hK1, hD1⟩ := hB
                      rw [ht] at hP1
                      have hJ := k_jn (wr := [(kX11 hx aLa aPa aGe aFl aTr aBe aLu aLo vSf vSm vCo vSh xs xl xf), (kX1 aFl vFl xn), (kAI vFl cI 32 ff), (kX10 aTr aLa aPa aGe gL gR (gp_113 0) (gp_113 1) (g_109 8) (g_109 9) (g_109 10) (g_109 11) (g_109 12) (g_109 13) yleaz87 yangz87 ycolz87 yendz87), (kX3 gL (g_109 0) (g_109 1) (g_109 2) (g_109 3)), (kX3 gR (g_109 4) (g_109 5) (g_109 6) (g_109 7)), (kX4 aLa vLa l4 a4 n4), (kAI vLa cI 24 f4), (kX7 aPa vPa l7 a7 n7), (kAI vPa cI 39 f7), (kX2 aGe vGe l2 a2 n2), (kAI vGe cI 23 f2)]) (wt := [(kX11 hx aLa aPa aGe aFl aTr aBe aLu aLo vSf vSm vCo vSh xs xl xf), (kX1 aFl vFl xn), (kAI vFl cI 32 ff), (kX10 aTr aLa aPa aGe gL gR (gp_113 0) (gp_113 1) (g_109 8) (g_109 9) (g_109 10) (g_109 11) (g_109 12) (g_109 13) yleaz87 yangz87 ycolz87 yendz87), (kX3 gL (g_109 0) (g_109 1) (g_109 2) (g_109 3)), (kX3 gR (g_109 4) (g_109 5) (g_109 6) (g_109 7)), (kX4 aLa vLa l4 a4 n4), (kAI vLa cI 24 f4), (kX7 aPa vPa l7 a7 n7), (kAI vPa cI 39 f7), (kX2 aGe vGe l2 a2 n2), (kAI vGe cI 23 f2), (kX6 aLo (g_121 0))]) hP hD hC [0, 1, 2, 4, 5, 6, 7, 8, 9, 10, 11, 12] rfl (by decide +kernel) (by decide +kernel) hk1 hFc hP1 hD1 rfl
                      clear hP hD hPc hDc hFc hC hP1 hD1 hK1 hz1 hk1 hvm ht
                      obtain ⟨hP, hD⟩ := hJ
                      generalize H1 = H at hP hS ⊢
                      try dsimp only at hw
                      refine lv_iconst (v := 1) hx₀ hb dX11_lakes_179 (by decide +kernel) ?_
                      refine lv_iadd hx₀ hb dX11_lakes_180 ?_
                      obtain ⟨hPc, hDc, hFc, hC⟩ := k_cw (wc := [(kX10 aTr aLa aPa aGe gL gR (gp_113 0) (gp_113 1) (g_109 8) (g_109 9) (g_109 10) (g_109 11) (g_109 12) (g_109 13) yleaz87 yangz87 ycolz87 yendz87), (kX4 aLa vLa l4 a4 n4), (kAI vLa cI 24 f4)]) hP hD hS hA [3, 6, 7] (by decide +kernel) rfl
                      refine va_calli (va_runV (As := [.int (r_120 + 1)]) (rest := []) ⟨hx₀, hb, hml, hown, hts⟩ (j_comesTo l dC dI cI cJ cQ H.size aTr (r_120 + 1) aLa aPa aGe gL gR (gp_113 0) (gp_113 1) (g_109 8) (g_109 9) (g_109 10) (g_109 11) (g_109 12) (g_109 13) yleaz87 yangz87 ycolz87 yendz87 vLa l4 a4 n4 f4 (hh0)) (cwV 1 hts (kGV wd_495 wd_492 wd_493 wd_494 wd_30) rfl rfl rfl (by decide +kernel) ⟨Nat.le_of_ble_eq_true rfl, Nat.le_of_ble_eq_true rfl⟩) (k_preV9 (q0 := 0) hK hPc hDc hN rfl) rfl rfl hl.1 rfl (lv_room (Nat.le_of_ble_eq_true rfl)) dX11_lakes_181 ⟨by decide +kernel, by decide +kernel⟩) hS (fun q _ h => hFc q h) hFc (fun r_126 u₀ t₀ H1 locs ht hvm hw hB hz1 hk1 hS => ?_)
                      obtain ⟨g_127, ga_128, gl_129, gb_130, gp_131⟩ := u₀
                      obtain ⟨hP1, hK1, hD1⟩ := hB
                      rw [ht] at hP1
                      have hJ := k_jn (wr := [(kX11 hx aLa aPa aGe aFl aTr aBe aLu aLo vSf vSm vCo vSh xs xl xf), (kX1 aFl vFl xn), (kAI vFl cI 32 ff), (kX3 gL (g_109 0) (g_109 1) (g_109 2) (g_109 3)), (kX3 gR (g_109 4) (g_109 5) (g_109 6) (g_109 7)), (kX7 aPa vPa l7 a7 n7), (kAI vPa cI 39 f7), (kX2 aGe vGe l2 a2 n2), (kAI vGe cI 23 f2), (kX6 aLo (g_121 0))]) (wt := [(kX11 hx aLa aPa aGe aFl aTr aBe aLu aLo vSf vSm vCo vSh xs xl xf), (kX1 aFl vFl xn), (kAI vFl cI 32 ff), (kX3 gL (g_109 0) (g_109 1) (g_109 2) (g_109 3)), (kX3 gR (g_109 4) (g_109 5) (g_109 6) (g_109 7)), (kX7 aPa vPa l7 a7 n7), (kAI vPa cI 39 f7), (kX2 aGe vGe l2 a2 n2), (kAI vGe cI 23 f2), (kX6 aLo (g_121 0)), (kX10 aTr aLa aPa aGe gL gR (gp_113 0) (gp_113 1) (g_109 8) (g_109 9) (g_109 10) (g_109 11) (g_109 12) (g_109 13) yleaz87 (g_127 0) (g_127 1) (g_127 2)), (kX4 aLa vLa l4 a4 n4), (kAI vLa cI 24 f4)]) hP hD hC [0, 1, 2, 4, 5, 8, 9, 10, 11, 12] rfl (by decide +kernel) (by decide +kernel) hk1 hFc hP1 hD1 rfl
                      clear hP hD hPc hDc hFc hC hP1 hD1 hK1 hz1 hk1 hvm ht
                      obtain ⟨hP, hD⟩ := hJ
                      generalize H1 = H at hP hS ⊢
                      try dsimp only at hw
                      obtain ⟨c_132, c_133, c_134, c_135⟩ := hw
                      refine lv_pop hx₀ hb dX11_lakes_184 rfl ?_
                      refine lv_aload_n hx₀ hb dX11_lakes_185 rfl (lv_at hl 6 rfl) ?_
                      refine va_get (D := (dC, dI)) (ci := 10) (v := .ref aTr) (C := RX11) (T := TX11) (N := 15) hx₀ hb hts inlX11 hown hK hP 0 rfl rfl 4 (by decide) (hts (.fieldLink RX11 42 "BittenStick" "trip" "LBittenStick$Trip;") wd_31) (fun _ h9 => h9) rfl dX11_lakes_186 ?_
                      refine va_get (D := (dC, dI)) (ci := 9) (v := .int (g_127 2)) (C := RX10) (T := TX10) (N := 17) hx₀ hb hts inlX10 hown hK hP 10 rfl rfl 16 (by decide) (hts (.fieldLink RX11 159 "BittenStick$Trip" "end" "I") wd_422) (fun _ h9 => h9) rfl dX11_lakes_189 ?_
                      refine lv_iload hx₀ hb dX11_lakes_192 (lv_at hl 5 rfl) ?_
                      refine lv_icmp_ne (tgt := 200) hx₀ hb dX11_lakes_194 (by decide) (fun c_136 => ?_) (fun c_136 => ?_)
                      · refine lv_iinc (v := iz87 + 1) (lv' := [(6, .int (iz87 + 1)), (9, .int r_101), (8, .int r_95), (7, .int r_89), (5, .int nuz87), (4, .int 0), (0, .ref hx), (1, .int z1), (2, .int nn), (3, .int w1)]) hx₀ hb dX11_lakes_200 hl (k := 3) rfl rfl (by decide) rfl (fun ls hl => ?_)
                        refine lv_goto (tgt := 83) hx₀ hb dX11_lakes_203 (by decide) ?_
                        exact ihz87 _ (lf_j_lakes_2 nn iz87 jz87 c_1 c_2 hiz87_0 hjz87 c_88) nuz87 (iz87 + 1) (g_109 8) (g_109 9) (g_109 10) (g_109 11) (g_109 12) (g_109 13) yleaz87 (g_127 0) (g_127 1) (g_127 2) (gp_113 0) (gp_113 1) (g_109 0) (g_109 1) (g_109 2) (g_109 3) (g_109 4) (g_109 5) (g_109 6) (g_109 7) (g_121 0) _ _ _ (lf_j_lakes_1 nn iz87 jz87 c_1 c_2 hiz87_0 hjz87 c_88) rfl (hP.sub [0, 10, 3, 4, 11, 12, 5, 6, 7, 8, 1, 2, 9] rfl) (hD.sub [0, 10, 3, 4, 11, 12, 5, 6, 7, 8, 1, 2, 9] (by decide +kernel) rfl) hS (lv_sub hl [0, 4, 5, 6, 7, 8, 9] rfl)
                      · refine lv_iinc (v := nuz87 + 1) (lv' := [(5, .int (nuz87 + 1)), (9, .int r_101), (8, .int r_95), (7, .int r_89), (6, .int iz87), (4, .int 0), (0, .ref hx), (1, .int z1), (2, .int nn), (3, .int w1)]) hx₀ hb dX11_lakes_197 hl (k := 4) rfl rfl (by decide) rfl (fun ls hl => ?_)
                        refine lv_iinc (v := iz87 + 1) (lv' := [(6, .int (iz87 + 1)), (5, .int (nuz87 + 1)), (9, .int r_101), (8, .int r_95), (7, .int r_89), (4, .int 0), (0, .ref hx), (1, .int z1), (2, .int nn), (3, .int w1)]) hx₀ hb dX11_lakes_200 hl (k := 4) rfl rfl (by decide) rfl (fun ls hl => ?_)
                        refine lv_goto (tgt := 83) hx₀ hb dX11_lakes_203 (by decide) ?_
                        exact ihz87 _ (lf_j_lakes_2 nn iz87 jz87 c_1 c_2 hiz87_0 hjz87 c_88) (nuz87 + 1) (iz87 + 1) (g_109 8) (g_109 9) (g_109 10) (g_109 11) (g_109 12) (g_109 13) yleaz87 (g_127 0) (g_127 1) (g_127 2) (gp_113 0) (gp_113 1) (g_109 0) (g_109 1) (g_109 2) (g_109 3) (g_109 4) (g_109 5) (g_109 6) (g_109 7) (g_121 0) _ _ _ (lf_j_lakes_1 nn iz87 jz87 c_1 c_2 hiz87_0 hjz87 c_88) rfl (hP.sub [0, 10, 3, 4, 11, 12, 5, 6, 7, 8, 1, 2, 9] rfl) (hD.sub [0, 10, 3, 4, 11, 12, 5, 6, 7, 8, 1, 2, 9] (by decide +kernel) rfl) hS (lv_sub hl [0, 1, 5, 6, 7, 8, 9] rfl)
                    · refine lv_iload hx₀ hb dX11_lakes_154 (lv_at hl 0 rfl) ?_
                      refine lv_goto (tgt := 163) hx₀ hb dX11_lakes_156 (by decide) ?_
                      obtain ⟨hPc, hDc, hFc, hC⟩ := k_cw (wc := [(kX10 aTr aLa aPa aGe gL gR pz87 qz87 ygoez87 ycarz87 ykinz87 ysorz87 ybeaz87 yweiz87 yleaz87 yangz87 ycolz87 yendz87), (kX3 gL w0z87 w1z87 w2z87 w3z87), (kX3 gR z0z87 z1z87 z2z87 z3z87), (kX4 aLa vLa l4 a4 n4), (kAI vLa cI 24 f4), (kX7 aPa vPa l7 a7 n7), (kAI vPa cI 39 f7), (kX2 aGe vGe l2 a2 n2), (kAI vGe cI 23 f2)]) hP hD hS hA [1, 2, 3, 4, 5, 6, 7, 8, 9] (by decide +kernel) rfl
                      refine va_callv (va_runV (As := [.int r_89, .int r_95, .int r_101]) (rest := []) ⟨hx₀, hb, hml, hown, hts⟩ (j_board l dC dI cI cJ cQ H.size aTr r_89 r_95 r_101 aLa aPa aGe gL gR pz87 qz87 ygoez87 ycarz87 ykinz87 ysorz87 ybeaz87 yweiz87 yleaz87 yangz87 ycolz87 yendz87 w0z87 w1z87 w2z87 w3z87 z0z87 z1z87 z2z87 z3z87 vLa l4 a4 n4 f4 vPa l7 a7 n7 f7 vGe l2 a2 n2 f2 (hh0)) (cwV 3 hts (kGV wd_452 wd_449 wd_450 wd_451 wd_30) rfl rfl rfl (by decide +kernel) ⟨Nat.le_of_ble_eq_true rfl, Nat.le_of_ble_eq_true rfl⟩) (k_preV9 (q0 := 0) hK hPc hDc hN rfl) rfl rfl hl.1 rfl (lv_room (Nat.le_of_ble_eq_true rfl)) dX11_lakes_163 ⟨by decide +kernel, by decide +kernel⟩) hS (fun q _ h => hFc q h) hFc (fun u₀ t₀ H1 locs ht hvm hw hB hz1 hk1 hS => ?_)
                      obtain ⟨g_138, ga_139, gl_140, gb_141, gp_142⟩ := u₀
                      obtain ⟨hP1, hK1, hD1⟩ := hB
                      rw [ht] at hP1
                      have hJ := k_jn (wr := [(kX11 hx aLa aPa aGe aFl aTr aBe aLu aLo vSf vSm vCo vSh xs xl xf), (kX1 aFl vFl xn), (kAI vFl cI 32 ff), (kX6 aLo (g_102 0))]) (wt := [(kX11 hx aLa aPa aGe aFl aTr aBe aLu aLo vSf vSm vCo vSh xs xl xf), (kX1 aFl vFl xn), (kAI vFl cI 32 ff), (kX6 aLo (g_102 0)), (kX10 aTr aLa aPa aGe gL gR (gp_142 0) (gp_142 1) (g_138 8) (g_138 9) (g_138 10) (g_138 11) (g_138 12) (g_138 13) yleaz87 yangz87 ycolz87 yendz87), (kX3 gL (g_138 0) (g_138 1) (g_138 2) (g_138 3)), (kX3 gR (g_138 4) (g_138 5) (g_138 6) (g_138 7)), (kX4 aLa vLa l4 a4 n4), (kAI vLa cI 24 f4), (kX7 aPa vPa l7 a7 n7), (kAI vPa cI 39 f7), (kX2 aGe vGe l2 a2 n2), (kAI vGe cI 23 f2)]) hP hD hC [0, 10, 11, 12] rfl (by decide +kernel) (by decide +kernel) hk1 hFc hP1 hD1 rfl
                      clear hP hD hPc hDc hFc hC hP1 hD1 hK1 hz1 hk1 hvm ht
                      obtain ⟨hP, hD⟩ := hJ
                      generalize H1 = H at hP hS ⊢
                      try dsimp only at hw
                      obtain ⟨c_143, c_144, c_145, c_146, c_147, c_148⟩ := hw
                      refine lv_aload_n hx₀ hb dX11_lakes_166 rfl (lv_at hl 6 rfl) ?_
                      refine va_get (D := (dC, dI)) (ci := 10) (v := .ref aTr) (C := RX11) (T := TX11) (N := 15) hx₀ hb hts inlX11 hown hK hP 0 rfl rfl 4 (by decide) (hts (.fieldLink RX11 42 "BittenStick" "trip" "LBittenStick$Trip;") wd_31) (fun _ h9 => h9) rfl dX11_lakes_167 ?_
                      refine lv_aload_n hx₀ hb dX11_lakes_170 rfl (lv_at hl 6 rfl) ?_
                      refine va_get (D := (dC, dI)) (ci := 10) (v := .ref aLo) (C := RX11) (T := TX11) (N := 15) hx₀ hb hts inlX11 hown hK hP 0 rfl rfl 7 (by decide) (hts (.fieldLink RX11 63 "BittenStick" "lots" "LBittenStick$Lots;") wd_43) (fun _ h9 => h9) rfl dX11_lakes_171 ?_
                      refine lv_bipush (v := 9) hx₀ hb dX11_lakes_174 (by decide +kernel) ?_
                      obtain ⟨hPc, hDc, hFc, hC⟩ := k_cw (wc := [(kX6 aLo (g_102 0))]) hP hD hS hA [3] (by decide +kernel) rfl
                      refine va_calli (va_runV (As := [.int 9]) (rest := [.ref aTr]) ⟨hx₀, hb, hml, hown, hts⟩ (j_draw l dC dI cI cJ cQ H.size aLo 9 (g_102 0)) (cwV 1 hts (kGV wd_840 wd_837 wd_838 wd_839 wd_42) rfl rfl rfl (by decide +kernel) ⟨Nat.le_of_ble_eq_true rfl, Nat.le_of_ble_eq_true rfl⟩) (k_preV6 (q0 := 0) hK hPc hDc hN rfl) rfl rfl hl.1 rfl (lv_room (Nat.le_of_ble_eq_true rfl)) dX11_lakes_176 ⟨by decide +kernel, by decide +kernel⟩) hS (fun q _ h => hFc q h) hFc (fun r_149 u₀ t₀ H1 locs ht hvm hw hB hz1 hk1 hS => ?_)
                      obtain ⟨g_150, ga_151, gl_152, gb_153, gp_154⟩ := u₀
                      obtain ⟨hP1, hK1, hD1⟩ := hB
                      rw [ht] at hP1
                      have hJ := k_jn (wr := [(kX11 hx aLa aPa aGe aFl aTr aBe aLu aLo vSf vSm vCo vSh xs xl xf), (kX1 aFl vFl xn), (kAI vFl cI 32 ff), (kX10 aTr aLa aPa aGe gL gR (gp_142 0) (gp_142 1) (g_138 8) (g_138 9) (g_138 10) (g_138 11) (g_138 12) (g_138 13) yleaz87 yangz87 ycolz87 yendz87), (kX3 gL (g_138 0) (g_138 1) (g_138 2) (g_138 3)), (kX3 gR (g_138 4) (g_138 5) (g_138 6) (g_138 7)), (kX4 aLa vLa l4 a4 n4), (kAI vLa cI 24 f4), (kX7 aPa vPa l7 a7 n7), (kAI vPa cI 39 f7), (kX2 aGe vGe l2 a2 n2), (kAI vGe cI 23 f2)]) (wt := [(kX11 hx aLa aPa aGe aFl aTr aBe aLu aLo vSf vSm vCo vSh xs xl xf), (kX1 aFl vFl xn), (kAI vFl cI 32 ff), (kX10 aTr aLa aPa aGe gL gR (gp_142 0) (gp_142 1) (g_138 8) (g_138 9) (g_138 10) (g_138 11) (g_138 12) (g_138 13) yleaz87 yangz87 ycolz87 yendz87), (kX3 gL (g_138 0) (g_138 1) (g_138 2) (g_138 3)), (kX3 gR (g_138 4) (g_138 5) (g_138 6) (g_138 7)), (kX4 aLa vLa l4 a4 n4), (kAI vLa cI 24 f4), (kX7 aPa vPa l7 a7 n7), (kAI vPa cI 39 f7), (kX2 aGe vGe l2 a2 n2), (kAI vGe cI 23 f2), (kX6 aLo (g_150 0))]) hP hD hC [0, 1, 2, 4, 5, 6, 7, 8, 9, 10, 11, 12] rfl (by decide +kernel) (by decide +kernel) hk1 hFc hP1 hD1 rfl
                      clear hP hD hPc hDc hFc hC hP1 hD1 hK1 hz1 hk1 hvm ht
                      obtain ⟨hP, hD⟩ := hJ
                      generalize H1 = H at hP hS ⊢
                      try dsimp only at hw
                      refine lv_iconst (v := 1) hx₀ hb dX11_lakes_179 (by decide +kernel) ?_
                      refine lv_iadd hx₀ hb dX11_lakes_180 ?_
                      obtain ⟨hPc, hDc, hFc, hC⟩ := k_cw (wc := [(kX10 aTr aLa aPa aGe gL gR (gp_142 0) (gp_142 1) (g_138 8) (g_138 9) (g_138 10) (g_138 11) (g_138 12) (g_138 13) yleaz87 yangz87 ycolz87 yendz87), (kX4 aLa vLa l4 a4 n4), (kAI vLa cI 24 f4)]) hP hD hS hA [3, 6, 7] (by decide +kernel) rfl
                      refine va_calli (va_runV (As := [.int (r_149 + 1)]) (rest := []) ⟨hx₀, hb, hml, hown, hts⟩ (j_comesTo l dC dI cI cJ cQ H.size aTr (r_149 + 1) aLa aPa aGe gL gR (gp_142 0) (gp_142 1) (g_138 8) (g_138 9) (g_138 10) (g_138 11) (g_138 12) (g_138 13) yleaz87 yangz87 ycolz87 yendz87 vLa l4 a4 n4 f4 (hh0)) (cwV 1 hts (kGV wd_495 wd_492 wd_493 wd_494 wd_30) rfl rfl rfl (by decide +kernel) ⟨Nat.le_of_ble_eq_true rfl, Nat.le_of_ble_eq_true rfl⟩) (k_preV9 (q0 := 0) hK hPc hDc hN rfl) rfl rfl hl.1 rfl (lv_room (Nat.le_of_ble_eq_true rfl)) dX11_lakes_181 ⟨by decide +kernel, by decide +kernel⟩) hS (fun q _ h => hFc q h) hFc (fun r_155 u₀ t₀ H1 locs ht hvm hw hB hz1 hk1 hS => ?_)
                      obtain ⟨g_156, ga_157, gl_158, gb_159, gp_160⟩ := u₀
                      obtain ⟨hP1, hK1, hD1⟩ := hB
                      rw [ht] at hP1
                      have hJ := k_jn (wr := [(kX11 hx aLa aPa aGe aFl aTr aBe aLu aLo vSf vSm vCo vSh xs xl xf), (kX1 aFl vFl xn), (kAI vFl cI 32 ff), (kX3 gL (g_138 0) (g_138 1) (g_138 2) (g_138 3)), (kX3 gR (g_138 4) (g_138 5) (g_138 6) (g_138 7)), (kX7 aPa vPa l7 a7 n7), (kAI vPa cI 39 f7), (kX2 aGe vGe l2 a2 n2), (kAI vGe cI 23 f2), (kX6 aLo (g_150 0))]) (wt := [(kX11 hx aLa aPa aGe aFl aTr aBe aLu aLo vSf vSm vCo vSh xs xl xf), (kX1 aFl vFl xn), (kAI vFl cI 32 ff), (kX3 gL (g_138 0) (g_138 1) (g_138 2) (g_138 3)), (kX3 gR (g_138 4) (g_138 5) (g_138 6) (g_138 7)), (kX7 aPa vPa l7 a7 n7), (kAI vPa cI 39 f7), (kX2 aGe vGe l2 a2 n2), (kAI vGe cI 23 f2), (kX6 aLo (g_150 0)), (kX10 aTr aLa aPa aGe gL gR (gp_142 0) (gp_142 1) (g_138 8) (g_138 9) (g_138 10) (g_138 11) (g_138 12) (g_138 13) yleaz87 (g_156 0) (g_156 1) (g_156 2)), (kX4 aLa vLa l4 a4 n4), (kAI vLa cI 24 f4)]) hP hD hC [0, 1, 2, 4, 5, 8, 9, 10, 11, 12] rfl (by decide +kernel) (by decide +kernel) hk1 hFc hP1 hD1 rfl
                      clear hP hD hPc hDc hFc hC hP1 hD1 hK1 hz1 hk1 hvm ht
                      obtain ⟨hP, hD⟩ := hJ
                      generalize H1 = H at hP hS ⊢
                      try dsimp only at hw
                      obtain ⟨c_161, c_162, c_163, c_164⟩ := hw
                      refine lv_pop hx₀ hb dX11_lakes_184 rfl ?_
                      refine lv_aload_n hx₀ hb dX11_lakes_185 rfl (lv_at hl 6 rfl) ?_
                      refine va_get (D := (dC, dI)) (ci := 10) (v := .ref aTr) (C := RX11) (T := TX11) (N := 15) hx₀ hb hts inlX11 hown hK hP 0 rfl rfl 4 (by decide) (hts (.fieldLink RX11 42 "BittenStick" "trip" "LBittenStick$Trip;") wd_31) (fun _ h9 => h9) rfl dX11_lakes_186 ?_
                      refine va_get (D := (dC, dI)) (ci := 9) (v := .int (g_156 2)) (C := RX10) (T := TX10) (N := 17) hx₀ hb hts inlX10 hown hK hP 10 rfl rfl 16 (by decide) (hts (.fieldLink RX11 159 "BittenStick$Trip" "end" "I") wd_422) (fun _ h9 => h9) rfl dX11_lakes_189 ?_
                      refine lv_iload hx₀ hb dX11_lakes_192 (lv_at hl 5 rfl) ?_
                      refine lv_icmp_ne (tgt := 200) hx₀ hb dX11_lakes_194 (by decide) (fun c_165 => ?_) (fun c_165 => ?_)
                      · refine lv_iinc (v := iz87 + 1) (lv' := [(6, .int (iz87 + 1)), (9, .int r_101), (8, .int r_95), (7, .int r_89), (5, .int nuz87), (4, .int 0), (0, .ref hx), (1, .int z1), (2, .int nn), (3, .int w1)]) hx₀ hb dX11_lakes_200 hl (k := 3) rfl rfl (by decide) rfl (fun ls hl => ?_)
                        refine lv_goto (tgt := 83) hx₀ hb dX11_lakes_203 (by decide) ?_
                        exact ihz87 _ (lf_j_lakes_2 nn iz87 jz87 c_1 c_2 hiz87_0 hjz87 c_88) nuz87 (iz87 + 1) (g_138 8) (g_138 9) (g_138 10) (g_138 11) (g_138 12) (g_138 13) yleaz87 (g_156 0) (g_156 1) (g_156 2) (gp_142 0) (gp_142 1) (g_138 0) (g_138 1) (g_138 2) (g_138 3) (g_138 4) (g_138 5) (g_138 6) (g_138 7) (g_150 0) _ _ _ (lf_j_lakes_1 nn iz87 jz87 c_1 c_2 hiz87_0 hjz87 c_88) rfl (hP.sub [0, 10, 3, 4, 11, 12, 5, 6, 7, 8, 1, 2, 9] rfl) (hD.sub [0, 10, 3, 4, 11, 12, 5, 6, 7, 8, 1, 2, 9] (by decide +kernel) rfl) hS (lv_sub hl [0, 4, 5, 6, 7, 8, 9] rfl)
                      · refine lv_iinc (v := nuz87 + 1) (lv' := [(5, .int (nuz87 + 1)), (9, .int r_101), (8, .int r_95), (7, .int r_89), (6, .int iz87), (4, .int 0), (0, .ref hx), (1, .int z1), (2, .int nn), (3, .int w1)]) hx₀ hb dX11_lakes_197 hl (k := 4) rfl rfl (by decide) rfl (fun ls hl => ?_)
                        refine lv_iinc (v := iz87 + 1) (lv' := [(6, .int (iz87 + 1)), (5, .int (nuz87 + 1)), (9, .int r_101), (8, .int r_95), (7, .int r_89), (4, .int 0), (0, .ref hx), (1, .int z1), (2, .int nn), (3, .int w1)]) hx₀ hb dX11_lakes_200 hl (k := 4) rfl rfl (by decide) rfl (fun ls hl => ?_)
                        refine lv_goto (tgt := 83) hx₀ hb dX11_lakes_203 (by decide) ?_
                        exact ihz87 _ (lf_j_lakes_2 nn iz87 jz87 c_1 c_2 hiz87_0 hjz87 c_88) (nuz87 + 1) (iz87 + 1) (g_138 8) (g_138 9) (g_138 10) (g_138 11) (g_138 12) (g_138 13) yleaz87 (g_156 0) (g_156 1) (g_156 2) (gp_142 0) (gp_142 1) (g_138 0) (g_138 1) (g_138 2) (g_138 3) (g_138 4) (g_138 5) (g_138 6) (g_138 7) (g_150 0) _ _ _ (lf_j_lakes_1 nn iz87 jz87 c_1 c_2 hiz87_0 hjz87 c_88) rfl (hP.sub [0, 10, 3, 4, 11, 12, 5, 6, 7, 8, 1, 2, 9] rfl) (hD.sub [0, 10, 3, 4, 11, 12, 5, 6, 7, 8, 1, 2, 9] (by decide +kernel) rfl) hS (lv_sub hl [0, 1, 5, 6, 7, 8, 9] rfl)
            · refine lv_iconst (v := 0) hx₀ hb dX11_lakes_45 (by decide +kernel) ?_
              obtain ⟨hP9, hD9⟩ := k_c2 (wc := [(kX11 hx aLa aPa aGe aFl aTr aBe aLu aLo vSf vSm vCo vSh xs xl xf), (kX10 aTr aLa aPa aGe gL gR lf rt tgo tca tki tso tbe twe tle tan tco ten), (kX3 gL u0 u1 u2 u3), (kX3 gR v0 v1 v2 v3), (kX4 aLa vLa l4 a4 n4), (kAI vLa cI 24 f4), (kX7 aPa vPa l7 a7 n7), (kAI vPa cI 39 f7), (kX2 aGe vGe l2 a2 n2), (kAI vGe cI 23 f2), (kX1 aFl vFl xn), (kAI vFl cI 32 ff), (kX6 aLo sd)]) hP hD [0, 1, 2, 3, 4, 5, 6, 7, 8, 9, 10, 11, 12] (by decide +kernel) rfl
              exact W.iret (v := 0) hx₀ hb hr (fun t₀ ht hW => ⟨⟨0, (k_fn [u0, u1, u2, u3, v0, v1, v2, v3, tgo, tca, tki, tso, tbe, twe, tle, tan, tco, ten, sd], k_fa [], k_fl [], k_fL [], k_fp [lf, rt]), rfl, trivial, by rw [ht]; exact hP9, va_K.moved hW.alike hK, hD9⟩, hS.F ht⟩) hS.2.2 dX11_lakes_46
        · refine lv_bipush (v := (-2)) hx₀ hb dX11_lakes_20 (by decide +kernel) ?_
          obtain ⟨hP9, hD9⟩ := k_c2 (wc := [(kX11 hx aLa aPa aGe aFl aTr aBe aLu aLo vSf vSm vCo vSh xs xl xf), (kX10 aTr aLa aPa aGe gL gR lf rt tgo tca tki tso tbe twe tle tan tco ten), (kX3 gL u0 u1 u2 u3), (kX3 gR v0 v1 v2 v3), (kX4 aLa vLa l4 a4 n4), (kAI vLa cI 24 f4), (kX7 aPa vPa l7 a7 n7), (kAI vPa cI 39 f7), (kX2 aGe vGe l2 a2 n2), (kAI vGe cI 23 f2), (kX1 aFl vFl xn), (kAI vFl cI 32 ff), (kX6 aLo sd)]) hP hD [0, 1, 2, 3, 4, 5, 6, 7, 8, 9, 10, 11, 12] (by decide +kernel) rfl
          exact W.iret (v := (-2)) hx₀ hb hr (fun t₀ ht hW => ⟨⟨(-2), (k_fn [u0, u1, u2, u3, v0, v1, v2, v3, tgo, tca, tki, tso, tbe, twe, tle, tan, tco, ten, sd], k_fa [], k_fl [], k_fL [], k_fp [lf, rt]), rfl, trivial, by rw [ht]; exact hP9, va_K.moved hW.alike hK, hD9⟩, hS.F ht⟩) hS.2.2 dX11_lakes_22
