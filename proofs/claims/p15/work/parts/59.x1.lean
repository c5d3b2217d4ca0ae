theorem lf_e_farthest_1 (a0 : Int32) (a1 : Int32) (a2 : Nat) (h0 : 0 ≤ a0 ∧ a0 ≤ 8) (h1 : 0 ≤ a1) (h2 : (a0.toInt - a1.toInt).toNat = a2) (h3 : ¬ a0 ≤ a1) : 0 ≤ (a1 + 1) := by
  first | rfl | assumption | decide | exact Or.inl rfl | (first | omega | (have hr0 := Int32.toInt_lt a0; have hs0 := Int32.le_toInt a0; have hr1 := Int32.toInt_lt a1; have hs1 := Int32.le_toInt a1; simp only [Int64.toInt_add, Int64.toInt_sub, Int32.toInt_add, Int32.toInt_sub, Int32.toInt_mul, Int64.le_iff_toInt_le, Int64.lt_iff_toInt_lt, Int32.le_iff_toInt_le, Int32.lt_iff_toInt_lt, ← Int32.toInt_inj, ← Int64.toInt_inj, Int32.toInt_toInt64, kc_0, kc_1, kc_8] at *; (first | omega | ((try simp (disch := omega) only [k_bm64] at *); (try simp (disch := omega) only [k_bm] at *); (try simp (disch := omega) only [k_bm] at *); omega) | (simp only [Int.bmod] at *; omega))))
theorem lf_e_farthest_2 (a0 : Int32) (a1 : Int32) (a2 : Nat) (h0 : 0 ≤ a0 ∧ a0 ≤ 8) (h1 : 0 ≤ a1) (h2 : (a0.toInt - a1.toInt).toNat = a2) (h3 : ¬ a0 ≤ a1) : (a0.toInt - (a1 + 1).toInt).toNat < a2 := by
  first | rfl | assumption | decide | exact Or.inl rfl | (first | omega | (have hr0 := Int32.toInt_lt a0; have hs0 := Int32.le_toInt a0; have hr1 := Int32.toInt_lt a1; have hs1 := Int32.le_toInt a1; simp only [Int64.toInt_add, Int64.toInt_sub, Int32.toInt_add, Int32.toInt_sub, Int32.toInt_mul, Int64.le_iff_toInt_le, Int64.lt_iff_toInt_lt, Int32.le_iff_toInt_le, Int32.lt_iff_toInt_lt, ← Int32.toInt_inj, ← Int64.toInt_inj, Int32.toInt_toInt64, kc_0, kc_1, kc_8] at *; (first | omega | ((try simp (disch := omega) only [k_bm64] at *); (try simp (disch := omega) only [k_bm] at *); (try simp (disch := omega) only [k_bm] at *); omega) | (simp only [Int.bmod] at *; omega))))
set_option maxHeartbeats 4000000 in
set_option maxRecDepth 100000 in
theorem e_farthest (l : Launch) (dC : Nat → ClassId) (dI : Nat → Nat → Nat) (cI cJ cQ : ClassId) (sz : Nat) (hx : Nat) (aLa : Nat) (aPa : Nat) (aGe : Nat) (aFl : Nat) (aTr : Nat) (aBe : Nat) (aLu : Nat) (aLo : Nat) (vSf : Nat) (vSm : Nat) (vCo : Nat) (vSh : Nat) (xs : Int32) (xl : Int32) (xf : Int32) (gL : Nat) (gR : Nat) (lf : Nat) (rt : Nat) (tgo : Int32) (tca : Int32) (tki : Int32) (tso : Int32) (tbe : Int32) (twe : Int32) (tle : Int32) (tan : Int32) (tco : Int32) (ten : Int32) (u0 : Int32) (u1 : Int32) (u2 : Int32) (u3 : Int32) (v0 : Int32) (v1 : Int32) (v2 : Int32) (v3 : Int32) (vLa : Nat) (l4 : Int32) (a4 : Int32) (n4 : Int32) (f4 : Nat → Int32) (vPa : Nat) (l7 : Int32) (a7 : Int32) (n7 : Int32) (f7 : Nat → Int32) (vGe : Nat) (l2 : Int32) (a2 : Int32) (n2 : Int32) (f2 : Nat → Int32) (vFl : Nat) (xn : Int32) (ff : Nat → Int32) (hh0 : 0 ≤ n4 ∧ n4 ≤ 24) (hh1 : 0 ≤ xn ∧ xn ≤ 8) : Met l yX11_farthest (kW yX11_farthest cX11_farthest 6 (some .int)) { frames := 4, cells := 0, slots := 0, locals := 90 } (kPre dC dI cI cJ cQ sz [.ref hx] [(kX11 hx aLa aPa aGe aFl aTr aBe aLu aLo vSf vSm vCo vSh xs xl xf), (kX10 aTr aLa aPa aGe gL gR lf rt tgo tca tki tso tbe twe tle tan tco ten), (kX3 gL u0 u1 u2 u3), (kX3 gR v0 v1 v2 v3), (kX4 aLa vLa l4 a4 n4), (kAI vLa cI 24 f4), (kX7 aPa vPa l7 a7 n7), (kAI vPa cI 39 f7), (kX2 aGe vGe l2 a2 n2), (kAI vGe cI 23 f2), (kX1 aFl vFl xn), (kAI vFl cI 32 ff)]) (va_Qi (fun (r : Int32) (u : kS) => (r = (kFc (fun x9 => kOC f4 f7 f2 n4 n7 n2 xl (kIt xn ff x9 0) (kIt xn ff x9 1) (kIt xn ff x9 2) (kIt xn ff x9 3) (kAt 39 f7 ((5 * (kIt xn ff x9 0)) + 1))) (kfu xn 0) 0 (-1) (-1)))) (fun (u : kS) t₀ => kB dC dI cI cJ cQ (va_A [(kX11 hx aLa aPa aGe aFl aTr aBe aLu aLo vSf vSm vCo vSh xs xl xf), (kX10 aTr aLa aPa aGe gL gR lf rt tgo tca tki tso tbe twe tle tan tco ten), (kX3 gL u0 u1 u2 u3), (kX3 gR v0 v1 v2 v3), (kX4 aLa vLa l4 a4 n4), (kAI vLa cI 24 f4), (kX7 aPa vPa l7 a7 n7), (kAI vPa cI 39 f7), (kX2 aGe vGe l2 a2 n2), (kAI vGe cI 23 f2), (kX1 aFl vFl xn), (kAI vFl cI 32 ff)] sz) [(kX11 hx aLa aPa aGe aFl aTr aBe aLu aLo vSf vSm vCo vSh xs xl xf), (kX10 aTr aLa aPa aGe gL gR (u.2.2.2.2 0) (u.2.2.2.2 1) (u.1 8) (u.1 9) (u.1 10) (u.1 11) (u.1 12) (u.1 13) (u.1 14) (u.1 15) (u.1 16) (u.1 17)), (kX3 gL (u.1 0) (u.1 1) (u.1 2) (u.1 3)), (kX3 gR (u.1 4) (u.1 5) (u.1 6) (u.1 7)), (kX4 aLa vLa l4 a4 n4), (kAI vLa cI 24 f4), (kX7 aPa vPa l7 a7 n7), (kAI vPa cI 39 f7), (kX2 aGe vGe l2 a2 n2), (kAI vGe cI 23 f2), (kX1 aFl vFl xn), (kAI vFl cI 32 ff)] t₀) (va_A [(kX11 hx aLa aPa aGe aFl aTr aBe aLu aLo vSf vSm vCo vSh xs xl xf), (kX10 aTr aLa aPa aGe gL gR lf rt tgo tca tki tso tbe twe tle tan tco ten), (kX3 gL u0 u1 u2 u3), (kX3 gR v0 v1 v2 v3), (kX4 aLa vLa l4 a4 n4), (kAI vLa cI 24 f4), (kX7 aPa vPa l7 a7 n7), (kAI vPa cI 39 f7), (kX2 aGe vGe l2 a2 n2), (kAI vGe cI 23 f2), (kX1 aFl vFl xn), (kAI vFl cI 32 ff)] sz)) 0 0 (va_A [(kX11 hx aLa aPa aGe aFl aTr aBe aLu aLo vSf vSm vCo vSh xs xl xf), (kX10 aTr aLa aPa aGe gL gR lf rt tgo tca tki tso tbe twe tle tan tco ten), (kX3 gL u0 u1 u2 u3), (kX3 gR v0 v1 v2 v3), (kX4 aLa vLa l4 a4 n4), (kAI vLa cI 24 f4), (kX7 aPa vPa l7 a7 n7), (kAI vPa cI 39 f7), (kX2 aGe vGe l2 a2 n2), (kAI vGe cI 23 f2), (kX1 aFl vFl xn), (kAI vFl cI 32 ff)] sz) := by
  refine Met.ofW (cc := cX11_farthest) (maxL := 6) (ret := (some .int)) (by decide) rfl ?_
  intro p₀ e₀ s₀ m₀ args below meth c₀ s₁ B hml hv₀
  obtain ⟨rfl, hsz, hP, hK, hD0, hN⟩ := hv₀
  have hx₀ := B.exec
  have hb := B.bytes
  have hr := B.returns
  have hts := atoms_spec (ws := (kW yX11_farthest cX11_farthest 6 (some .int))) B.pre
  have hts := fun w h => hts w (List.mem_cons_of_mem _ h)
  have hown : s₀.vm.findClass RX11 = some m₀.cls := findClass_of_methodNamed B.named
  have hlocks := B.notSynchronized
  subst hsz
  have hD := hD0.self (sz := s₀.heap.size)
  generalize hAe : va_A [(kX11 hx aLa aPa aGe aFl aTr aBe aLu aLo vSf vSm vCo vSh xs xl xf), (kX10 aTr aLa aPa aGe gL gR lf rt tgo tca tki tso tbe twe tle tan tco ten), (kX3 gL u0 u1 u2 u3), (kX3 gR v0 v1 v2 v3), (kX4 aLa vLa l4 a4 n4), (kAI vLa cI 24 f4), (kX7 aPa vPa l7 a7 n7), (kAI vPa cI 39 f7), (kX2 aGe vGe l2 a2 n2), (kAI vGe cI 23 f2), (kX1 aFl vFl xn), (kAI vFl cI 32 ff)] s₀.heap.size = A at hD ⊢
  have hA : ∀ q : Nat, s₀.heap.size ≤ q → A q := fun q h => by rw [← hAe]; exact Or.inr h
  have hS : va_S A s₀.heap s₀.heap [] := va_S.rf
  have hP : va_P (dC, dI) vwCl [(kX11 hx aLa aPa aGe aFl aTr aBe aLu aLo vSf vSm vCo vSh xs xl xf), (kX10 aTr aLa aPa aGe gL gR lf rt tgo tca tki tso tbe twe tle tan tco ten), (kX3 gL u0 u1 u2 u3), (kX3 gR v0 v1 v2 v3), (kX4 aLa vLa l4 a4 n4), (kAI vLa cI 24 f4), (kX7 aPa vPa l7 a7 n7), (kAI vPa cI 39 f7), (kX2 aGe vGe l2 a2 n2), (kAI vGe cI 23 f2), (kX1 aFl vFl xn), (kAI vFl cI 32 ff)] s₀.heap := hP
  have hl := lv_entry ([.ref hx]) (n := 6) (Nat.le_of_ble_eq_true rfl)
  rw [lg_entry_eq]
  generalize (lg_sl ([.ref hx]) ++ List.replicate (6 - (lg_sl ([.ref hx])).length) Slot.unset).toArray = ls at hl ⊢
  have hl : lv_has ls 6 [(0, .ref hx)] := hl
  obtain ⟨H, hH⟩ : ∃ z : Heap, z = s₀.heap := ⟨_, rfl⟩
  rw [← hH] at hP
  have hS : va_S A s₀.heap H [] := by rw [hH]; exact hS
  refine k_heap hH ?_
  have hD : va_D A [(kX11 hx aLa aPa aGe aFl aTr aBe aLu aLo vSf vSm vCo vSh xs xl xf), (kX10 aTr aLa aPa aGe gL gR lf rt tgo tca tki tso tbe twe tle tan tco ten), (kX3 gL u0 u1 u2 u3), (kX3 gR v0 v1 v2 v3), (kX4 aLa vLa l4 a4 n4), (kAI vLa cI 24 f4), (kX7 aPa vPa l7 a7 n7), (kAI vPa cI 39 f7), (kX2 aGe vGe l2 a2 n2), (kAI vGe cI 23 f2), (kX1 aFl vFl xn), (kAI vFl cI 32 ff)] := hD
  obtain ⟨locs, hlo⟩ : ∃ z : List Loc, z = [] := ⟨_, rfl⟩
  rw [← hlo] at hS ⊢
  clear hlo hH hAe hD0
  refine lv_iconst (v := (-1)) hx₀ hb dX11_farthest_0_a.1 (by decide +kernel) ?_
  refine lv_istore_n (lv' := [(1, .int (-1)), (0, .ref hx)]) hx₀ hb dX11_farthest_0_a.2.1 rfl hl (by decide) rfl (fun ls hl => ?_)
  refine lv_iconst (v := (-1)) hx₀ hb dX11_farthest_0_a.2.2.1 (by decide +kernel) ?_
  refine lv_istore_n (lv' := [(2, .int (-1)), (1, .int (-1)), (0, .ref hx)]) hx₀ hb dX11_farthest_0_a.2.2.2.1 rfl hl (by decide) rfl (fun ls hl => ?_)
  refine lv_iconst (v := 0) hx₀ hb dX11_farthest_0_a.2.2.2.2.1 (by decide +kernel) ?_
  refine lv_istore_n (lv' := [(3, .int 0), (2, .int (-1)), (1, .int (-1)), (0, .ref hx)]) hx₀ hb dX11_farthest_0_a.2.2.2.2.2.1 rfl hl (by decide) rfl (fun ls hl => ?_)
  refine (?keyz1 : ∀ (jz1 : Nat) (faz1 : Int32) (moz1 : Int32) (fz1 : Int32) (ygoez1 : Int32) (ycarz1 : Int32) (ykinz1 : Int32) (ysorz1 : Int32) (ybeaz1 : Int32) (yweiz1 : Int32) (yleaz1 : Int32) (yangz1 : Int32) (ycolz1 : Int32) (yendz1 : Int32) (pz1 : Nat) (qz1 : Nat) (w0z1 : Int32) (w1z1 : Int32) (w2z1 : Int32) (w3z1 : Int32) (z0z1 : Int32) (z1z1 : Int32) (z2z1 : Int32) (z3z1 : Int32) (H : Heap) (locs : List Loc) (ls : Array Slot), (0 ≤ fz1) → (k_fc (fun x9 => kOC f4 f7 f2 n4 n7 n2 xl (kIt xn ff x9 0) (kIt xn ff x9 1) (kIt xn ff x9 2) (kIt xn ff x9 3) (kAt 39 f7 ((5 * (kIt xn ff x9 0)) + 1))) xn fz1 faz1 moz1 (kFc (fun x9 => kOC f4 f7 f2 n4 n7 n2 xl (kIt xn ff x9 0) (kIt xn ff x9 1) (kIt xn ff x9 2) (kIt xn ff x9 3) (kAt 39 f7 ((5 * (kIt xn ff x9 0)) + 1))) (kfu xn 0) 0 (-1) (-1))) → ((xn.toInt - fz1.toInt).toNat = jz1) → va_P (dC, dI) vwCl [(kX11 hx aLa aPa aGe aFl aTr aBe aLu aLo vSf vSm vCo vSh xs xl xf), (kX10 aTr aLa aPa aGe gL gR pz1 qz1 ygoez1 ycarz1 ykinz1 ysorz1 ybeaz1 yweiz1 yleaz1 yangz1 ycolz1 yendz1), (kX3 gL w0z1 w1z1 w2z1 w3z1), (kX3 gR z0z1 z1z1 z2z1 z3z1), (kX4 aLa vLa l4 a4 n4), (kAI vLa cI 24 f4), (kX7 aPa vPa l7 a7 n7), (kAI vPa cI 39 f7), (kX2 aGe vGe l2 a2 n2), (kAI vGe cI 23 f2), (kX1 aFl vFl xn), (kAI vFl cI 32 ff)] H → va_D A [(kX11 hx aLa aPa aGe aFl aTr aBe aLu aLo vSf vSm vCo vSh xs xl xf), (kX10 aTr aLa aPa aGe gL gR pz1 qz1 ygoez1 ycarz1 ykinz1 ysorz1 ybeaz1 yweiz1 yleaz1 yangz1 ycolz1 yendz1), (kX3 gL w0z1 w1z1 w2z1 w3z1), (kX3 gR z0z1 z1z1 z2z1 z3z1), (kX4 aLa vLa l4 a4 n4), (kAI vLa cI 24 f4), (kX7 aPa vPa l7 a7 n7), (kAI vPa cI 39 f7), (kX2 aGe vGe l2 a2 n2), (kAI vGe cI 23 f2), (kX1 aFl vFl xn), (kAI vFl cI 32 ff)] → va_S A s₀.heap H locs → lv_has ls 6 [(3, .int fz1), (2, .int moz1), (1, .int faz1), (0, .ref hx)] → W p₀ l e₀ _ s₀ m₀ _ below meth c₀ H locs _ _ _ (F0 m₀ 6 ls [])) _ (-1 : Int32) (-1 : Int32) (0 : Int32) tgo tca tki tso tbe twe tle tan tco ten lf rt u0 u1 u2 u3 v0 v1 v2 v3 H locs ls (show 0 ≤ (0 : Int32) from (by decide)) (rfl) rfl hP hD hS hl
  clear hP hD hS hl
  intro jz1
  induction jz1 using Nat.strongRecOn with
  | ind jz1 ihz1 =>
    intro faz1 moz1 fz1 ygoez1 ycarz1 ykinz1 ysorz1 ybeaz1 yweiz1 yleaz1 yangz1 ycolz1 yendz1 pz1 qz1 w0z1 w1z1 w2z1 w3z1 z0z1 z1z1 z2z1 z3z1 H locs ls hiz1_0 hiz1_1 hjz1 hP hD hS hl
    refine lv_iload_n hx₀ hb dX11_farthest_0_a.2.2.2.2.2.2.1 rfl (lv_at hl 0 rfl) ?_
    refine lv_aload_n hx₀ hb dX11_farthest_0_a.2.2.2.2.2.2.2.1 rfl (lv_at hl 3 rfl) ?_
    refine va_get (D := (dC, dI)) (ci := 10) (v := .ref aFl) (C := RX11) (T := TX11) (N := 15) hx₀ hb hts inlX11 hown hK hP 0 rfl rfl 3 (by decide) (hts (.fieldLink RX11 33 "BittenStick" "flights" "LBittenStick$Flights;") wd_27) (fun _ h9 => h9) rfl dX11_farthest_0_a.2.2.2.2.2.2.2.2.1 ?_
    refine va_get (D := (dC, dI)) (ci := 1) (v := .int xn) (C := RX1) (T := TX1) (N := 2) hx₀ hb hts inlX1 hown hK hP 10 rfl rfl 1 (by decide) (hts (.fieldLink RX11 128 "BittenStick$Flights" "number" "I") wd_369) (fun _ h9 => h9) rfl dX11_farthest_0_a.2.2.2.2.2.2.2.2.2.1 ?_
    refine lv_icmp_ge (tgt := 78) hx₀ hb dX11_farthest_0_a.2.2.2.2.2.2.2.2.2.2.1 (by decide) (fun c_2 => ?_) (fun c_2 => ?_)
    · refine lv_iload_n hx₀ hb dX11_farthest_58_a.2.2.2.2.2.2.2.2.2.2.2.1 rfl (lv_at hl 2 rfl) ?_
      obtain ⟨hP9, hD9⟩ := k_c2 (wc := [(kX11 hx aLa aPa aGe aFl aTr aBe aLu aLo vSf vSm vCo vSh xs xl xf), (kX10 aTr aLa aPa aGe gL gR pz1 qz1 ygoez1 ycarz1 ykinz1 ysorz1 ybeaz1 yweiz1 yleaz1 yangz1 ycolz1 yendz1), (kX3 gL w0z1 w1z1 w2z1 w3z1), (kX3 gR z0z1 z1z1 z2z1 z3z1), (kX4 aLa vLa l4 a4 n4), (kAI vLa cI 24 f4), (kX7 aPa vPa l7 a7 n7), (kAI vPa cI 39 f7), (kX2 aGe vGe l2 a2 n2), (kAI vGe cI 23 f2), (kX1 aFl vFl xn), (kAI vFl cI 32 ff)]) hP hD [0, 1, 2, 3, 4, 5, 6, 7, 8, 9, 10, 11] (by decide +kernel) rfl
      exact W.iret (v := faz1) hx₀ hb hr (fun t₀ ht hW => ⟨⟨faz1, (k_fn [w0z1, w1z1, w2z1, w3z1, z0z1, z1z1, z2z1, z3z1, ygoez1, ycarz1, ykinz1, ysorz1, ybeaz1, yweiz1, yleaz1, yangz1, ycolz1, yendz1], k_fa [], k_fl [], k_fL [], k_fp [pz1, qz1]), rfl, (kFc_e hiz1_1 c_2), by rw [ht]; exact hP9, va_K.moved hW.alike hK, hD9⟩, hS.F ht⟩) hS.2.2 dX11_farthest_58_a.2.2.2.2.2.2.2.2.2.2.2.2
    · refine lv_aload_n hx₀ hb dX11_farthest_0_a.2.2.2.2.2.2.2.2.2.2.2.1 rfl (lv_at hl 3 rfl) ?_
      refine lv_iload_n hx₀ hb dX11_farthest_0_a.2.2.2.2.2.2.2.2.2.2.2.2.1 rfl (lv_at hl 0 rfl) ?_
      obtain ⟨hPc, hDc, hFc, hC⟩ := k_cw (wc := [(kX11 hx aLa aPa aGe aFl aTr aBe aLu aLo vSf vSm vCo vSh xs xl xf), (kX10 aTr aLa aPa aGe gL gR pz1 qz1 ygoez1 ycarz1 ykinz1 ysorz1 ybeaz1 yweiz1 yleaz1 yangz1 ycolz1 yendz1), (kX3 gL w0z1 w1z1 w2z1 w3z1), (kX3 gR z0z1 z1z1 z2z1 z3z1), (kX4 aLa vLa l4 a4 n4), (kAI vLa cI 24 f4), (kX7 aPa vPa l7 a7 n7), (kAI vPa cI 39 f7), (kX2 aGe vGe l2 a2 n2), (kAI vGe cI 23 f2), (kX1 aFl vFl xn), (kAI vFl cI 32 ff)]) hP hD hS hA [0, 1, 2, 3, 4, 5, 6, 7, 8, 9, 10, 11] (by decide +kernel) rfl
      refine va_callv (va_runV (As := [.int fz1]) (rest := []) ⟨hx₀, hb, hml, hown, hts⟩ (j_prepare l dC dI cI cJ cQ H.size hx fz1 aLa aPa aGe aFl aTr aBe aLu aLo vSf vSm vCo vSh xs xl xf gL gR pz1 qz1 ygoez1 ycarz1 ykinz1 ysorz1 ybeaz1 yweiz1 yleaz1 yangz1 ycolz1 yendz1 w0z1 w1z1 w2z1 w3z1 z0z1 z1z1 z2z1 z3z1 vLa l4 a4 n4 f4 vPa l7 a7 n7 f7 vGe l2 a2 n2 f2 vFl xn ff (hh0) (hh1)) (cwV 1 hts (kGV wd_430 wd_427 wd_428 wd_429 wd_2) rfl rfl rfl (by decide +kernel) ⟨Nat.le_of_ble_eq_true rfl, Nat.le_of_ble_eq_true rfl⟩) (k_preV (ci := 10) (q0 := 0) hK hPc hDc hN rfl rfl) rfl rfl hl.1 rfl (lv_room (Nat.le_of_ble_eq_true rfl)) dX11_farthest_0_a.2.2.2.2.2.2.2.2.2.2.2.2.2.1 ⟨by decide +kernel, by decide +kernel⟩) hS (fun q _ h => hFc q h) hFc (fun u₀ t₀ H1 locs ht hvm hw hB hz1 hk1 hS => ?_)
      obtain ⟨g_4, ga_5, gl_6, gb_7, gp_8⟩ := u₀
      obtain ⟨hP1, hK1, hD1⟩ := hB
      rw [ht] at hP1
      have hJ := k_jn (wr := []) (wt := [(kX11 hx aLa aPa aGe aFl aTr aBe aLu aLo vSf vSm vCo vSh xs xl xf), (kX10 aTr aLa aPa aGe gL gR (gp_8 0) (gp_8 1) (g_4 8) (g_4 9) (g_4 10) (g_4 11) (g_4 12) (g_4 13) (g_4 14) (g_4 15) (g_4 16) (g_4 17)), (kX3 gL (g_4 0) (g_4 1) (g_4 2) (g_4 3)), (kX3 gR (g_4 4) (g_4 5) (g_4 6) (g_4 7)), (kX4 aLa vLa l4 a4 n4), (kAI vLa cI 24 f4), (kX7 aPa vPa l7 a7 n7), (kAI vPa cI 39 f7), (kX2 aGe vGe l2 a2 n2), (kAI vGe cI 23 f2), (kX1 aFl vFl xn), (kAI vFl cI 32 ff)]) hP hD hC [] rfl (by decide +kernel) (by decide +kernel) hk1 hFc hP1 hD1 rfl
      clear hP hD hPc hDc hFc hC hP1 hD1 hK1 hz1 hk1 hvm ht
      obtain ⟨hP, hD⟩ := hJ
      generalize H1 = H at hP hS ⊢
      try dsimp only at hw
      obtain ⟨c_9, c_10, c_11, c_12, c_13, c_14, c_15⟩ := hw
      refine lv_aload_n hx₀ hb dX11_farthest_0_a.2.2.2.2.2.2.2.2.2.2.2.2.2.2.1 rfl (lv_at hl 3 rfl) ?_
      refine va_get (D := (dC, dI)) (ci := 10) (v := .ref aTr) (C := RX11) (T := TX11) (N := 15) hx₀ hb hts inlX11 hown hK hP 0 rfl rfl 4 (by decide) (hts (.fieldLink RX11 42 "BittenStick" "trip" "LBittenStick$Trip;") wd_31) (fun _ h9 => h9) rfl dX11_farthest_0_a.2.2.2.2.2.2.2.2.2.2.2.2.2.2.2 ?_
      refine lv_aload_n hx₀ hb dX11_farthest_26_a.1 rfl (lv_at hl 3 rfl) ?_
      refine va_get (D := (dC, dI)) (ci := 10) (v := .ref aFl) (C := RX11) (T := TX11) (N := 15) hx₀ hb hts inlX11 hown hK hP 0 rfl rfl 3 (by decide) (hts (.fieldLink RX11 33 "BittenStick" "flights" "LBittenStick$Flights;") wd_27) (fun _ h9 => h9) rfl dX11_farthest_26_a.2.1 ?_
      refine lv_iload_n hx₀ hb dX11_farthest_26_a.2.2.1 rfl (lv_at hl 0 rfl) ?_
      obtain ⟨hPc, hDc, hFc, hC⟩ := k_cw (wc := [(kX1 aFl vFl xn), (kAI vFl cI 32 ff)]) hP hD hS hA [10, 11] (by decide +kernel) rfl
      refine va_calli (va_runV (As := [.int fz1]) (rest := [.ref aTr]) ⟨hx₀, hb, hml, hown, hts⟩ (j_heightOf l dC dI cI cJ cQ H.size aFl fz1 vFl xn ff (hh1)) (cwV 1 hts (kGV wd_491 wd_488 wd_489 wd_490 wd_26) rfl rfl rfl (by decide +kernel) ⟨Nat.le_of_ble_eq_true rfl, Nat.le_of_ble_eq_true rfl⟩) (k_preV (ci := 1) (q0 := 0) hK hPc hDc hN rfl rfl) rfl rfl hl.1 rfl (lv_room (Nat.le_of_ble_eq_true rfl)) dX11_farthest_26_a.2.2.2.1 ⟨by decide +kernel, by decide +kernel⟩) hS (fun q _ h => hFc q h) hFc (fun r_16 u₀ t₀ H1 locs ht hvm hw hB hz1 hk1 hS => ?_)
      obtain ⟨hP1, hK1, hD1⟩ := hB
      rw [ht] at hP1
      have hJ := k_jn (wr := [(kX11 hx aLa aPa aGe aFl aTr aBe aLu aLo vSf vSm vCo vSh xs xl xf), (kX10 aTr aLa aPa aGe gL gR (gp_8 0) (gp_8 1) (g_4 8) (g_4 9) (g_4 10) (g_4 11) (g_4 12) (g_4 13) (g_4 14) (g_4 15) (g_4 16) (g_4 17)), (kX3 gL (g_4 0) (g_4 1) (g_4 2) (g_4 3)), (kX3 gR (g_4 4) (g_4 5) (g_4 6) (g_4 7)), (kX4 aLa vLa l4 a4 n4), (kAI vLa cI 24 f4), (kX7 aPa vPa l7 a7 n7), (kAI vPa cI 39 f7), (kX2 aGe vGe l2 a2 n2), (kAI vGe cI 23 f2)]) (wt := [(kX11 hx aLa aPa aGe aFl aTr aBe aLu aLo vSf vSm vCo vSh xs xl xf), (kX10 aTr aLa aPa aGe gL gR (gp_8 0) (gp_8 1) (g_4 8) (g_4 9) (g_4 10) (g_4 11) (g_4 12) (g_4 13) (g_4 14) (g_4 15) (g_4 16) (g_4 17)), (kX3 gL (g_4 0) (g_4 1) (g_4 2) (g_4 3)), (kX3 gR (g_4 4) (g_4 5) (g_4 6) (g_4 7)), (kX4 aLa vLa l4 a4 n4), (kAI vLa cI 24 f4), (kX7 aPa vPa l7 a7 n7), (kAI vPa cI 39 f7), (kX2 aGe vGe l2 a2 n2), (kAI vGe cI 23 f2), (kX1 aFl vFl xn), (kAI vFl cI 32 ff)]) hP hD hC [0, 1, 2, 3, 4, 5, 6, 7, 8, 9] rfl (by decide +kernel) (by decide +kernel) hk1 hFc hP1 hD1 rfl
      clear hP hD hPc hDc hFc hC hP1 hD1 hK1 hz1 hk1 hvm ht
      obtain ⟨hP, hD⟩ := hJ
      generalize H1 = H at hP hS ⊢
      try dsimp only at hw
      refine k_topi (v := kIt xn ff fz1 3) hw ?_
      obtain ⟨hPc, hDc, hFc, hC⟩ := k_cw (wc := [(kX10 aTr aLa aPa aGe gL gR (gp_8 0) (gp_8 1) (g_4 8) (g_4 9) (g_4 10) (g_4 11) (g_4 12) (g_4 13) (g_4 14) (g_4 15) (g_4 16) (g_4 17)), (kX4 aLa vLa l4 a4 n4), (kAI vLa cI 24 f4)]) hP hD hS hA [1, 4, 5] (by decide +kernel) rfl
      refine va_calli (va_runV (As := [.int (kIt xn ff fz1 3)]) (rest := []) ⟨hx₀, hb, hml, hown, hts⟩ (j_comesTo l dC dI cI cJ cQ H.size aTr (kIt xn ff fz1 3) aLa aPa aGe gL gR (gp_8 0) (gp_8 1) (g_4 8) (g_4 9) (g_4 10) (g_4 11) (g_4 12) (g_4 13) (g_4 14) (g_4 15) (g_4 16) (g_4 17) vLa l4 a4 n4 f4 (hh0)) (cwV 1 hts (kGV wd_495 wd_492 wd_493 wd_494 wd_30) rfl rfl rfl (by decide +kernel) ⟨Nat.le_of_ble_eq_true rfl, Nat.le_of_ble_eq_true rfl⟩) (k_preV (ci := 9) (q0 := 0) hK hPc hDc hN rfl rfl) rfl rfl hl.1 rfl (lv_room (Nat.le_of_ble_eq_true rfl)) dX11_farthest_26_a.2.2.2.2.1 ⟨by decide +kernel, by decide +kernel⟩) hS (fun q _ h => hFc q h) hFc (fun r_17 u₀ t₀ H1 locs ht hvm hw hB hz1 hk1 hS => ?_)
      obtain ⟨g_18, ga_19, gl_20, gb_21, gp_22⟩ := u₀
      obtain ⟨hP1, hK1, hD1⟩ := hB
      rw [ht] at hP1
      have hJ := k_jn (wr := [(kX11 hx aLa aPa aGe aFl aTr aBe aLu aLo vSf vSm vCo vSh xs xl xf), (kX3 gL (g_4 0) (g_4 1) (g_4 2) (g_4 3)), (kX3 gR (g_4 4) (g_4 5) (g_4 6) (g_4 7)), (kX7 aPa vPa l7 a7 n7), (kAI vPa cI 39 f7), (kX2 aGe vGe l2 a2 n2), (kAI vGe cI 23 f2), (kX1 aFl vFl xn), (kAI vFl cI 32 ff)]) (wt := [(kX11 hx aLa aPa aGe aFl aTr aBe aLu aLo vSf vSm vCo vSh xs xl xf), (kX3 gL (g_4 0) (g_4 1) (g_4 2) (g_4 3)), (kX3 gR (g_4 4) (g_4 5) (g_4 6) (g_4 7)), (kX7 aPa vPa l7 a7 n7), (kAI vPa cI 39 f7), (kX2 aGe vGe l2 a2 n2), (kAI vGe cI 23 f2), (kX1 aFl vFl xn), (kAI vFl cI 32 ff), (kX10 aTr aLa aPa aGe gL gR (gp_8 0) (gp_8 1) (g_4 8) (g_4 9) (g_4 10) (g_4 11) (g_4 12) (g_4 13) (g_4 14) (g_18 0) (g_18 1) (g_18 2)), (kX4 aLa vLa l4 a4 n4), (kAI vLa cI 24 f4)]) hP hD hC [0, 2, 3, 6, 7, 8, 9, 10, 11] rfl (by decide +kernel) (by decide +kernel) hk1 hFc hP1 hD1 rfl
      clear hP hD hPc hDc hFc hC hP1 hD1 hK1 hz1 hk1 hvm ht
      obtain ⟨hP, hD⟩ := hJ
      generalize H1 = H at hP hS ⊢
      try dsimp only at hw
      obtain ⟨c_23, c_24, c_25, c_26⟩ := hw
      refine lv_istore (lv' := [(4, .int r_17), (3, .int fz1), (2, .int moz1), (1, .int faz1), (0, .ref hx)]) hx₀ hb dX11_farthest_26_a.2.2.2.2.2.1 hl (by decide) rfl (fun ls hl => ?_)
      refine lv_iconst (v := 2) hx₀ hb dX11_farthest_26_a.2.2.2.2.2.2.1 (by decide +kernel) ?_
      refine lv_iload hx₀ hb dX11_farthest_26_a.2.2.2.2.2.2.2.1 (lv_at hl 0 rfl) ?_
      refine lv_imul hx₀ hb dX11_farthest_26_a.2.2.2.2.2.2.2.2.1 ?_
      refine lv_aload_n hx₀ hb dX11_farthest_26_a.2.2.2.2.2.2.2.2.2.1 rfl (lv_at hl 4 rfl) ?_
      refine va_get (D := (dC, dI)) (ci := 10) (v := .ref aTr) (C := RX11) (T := TX11) (N := 15) hx₀ hb hts inlX11 hown hK hP 0 rfl rfl 4 (by decide) (hts (.fieldLink RX11 42 "BittenStick" "trip" "LBittenStick$Trip;") wd_31) (fun _ h9 => h9) rfl dX11_farthest_26_a.2.2.2.2.2.2.2.2.2.2.1 ?_
      refine va_get (D := (dC, dI)) (ci := 9) (v := .int (g_18 2)) (C := RX10) (T := TX10) (N := 17) hx₀ hb hts inlX10 hown hK hP 9 rfl rfl 16 (by decide) (hts (.fieldLink RX11 159 "BittenStick$Trip" "end" "I") wd_422) (fun _ h9 => h9) rfl dX11_farthest_26_a.2.2.2.2.2.2.2.2.2.2.2.1 ?_
      refine lv_if_ne (tgt := 57) hx₀ hb dX11_farthest_26_a.2.2.2.2.2.2.2.2.2.2.2.2.1 (by decide) (fun c_27 => ?_) (fun c_27 => ?_)
      · refine lv_iconst (v := 0) hx₀ hb dX11_farthest_26_a.2.2.2.2.2.2.2.2.2.2.2.2.2.2.2 (by decide +kernel) ?_
        refine lv_iadd hx₀ hb dX11_farthest_58_a.1 ?_
        refine lv_istore (lv' := [(5, .int ((2 * r_17) + 0)), (4, .int r_17), (3, .int fz1), (2, .int moz1), (1, .int faz1), (0, .ref hx)]) hx₀ hb dX11_farthest_58_a.2.1 hl (by decide) rfl (fun ls hl => ?_)
        refine lv_iload hx₀ hb dX11_farthest_58_a.2.2.1 (lv_at hl 0 rfl) ?_
        refine lv_iload_n hx₀ hb dX11_farthest_58_a.2.2.2.1 rfl (lv_at hl 3 rfl) ?_
        refine lv_icmp_le (tgt := 72) hx₀ hb dX11_farthest_58_a.2.2.2.2.1 (by decide) (fun c_28 => ?_) (fun c_28 => ?_)
        · refine lv_iinc (v := fz1 + 1) (lv' := [(3, .int (fz1 + 1)), (5, .int ((2 * r_17) + 0)), (4, .int r_17), (2, .int moz1), (1, .int faz1), (0, .ref hx)]) hx₀ hb dX11_farthest_58_a.2.2.2.2.2.2.2.2.2.1 hl (k := 2) rfl rfl (by decide) rfl (fun ls hl => ?_)
          refine lv_goto (tgt := 6) hx₀ hb dX11_farthest_58_a.2.2.2.2.2.2.2.2.2.2.1 (by decide) ?_
          exact ihz1 _ (lf_e_farthest_2 xn fz1 jz1 hh1 hiz1_0 hjz1 c_2) faz1 moz1 (fz1 + 1) (g_4 8) (g_4 9) (g_4 10) (g_4 11) (g_4 12) (g_4 13) (g_4 14) (g_18 0) (g_18 1) (g_18 2) (gp_8 0) (gp_8 1) (g_4 0) (g_4 1) (g_4 2) (g_4 3) (g_4 4) (g_4 5) (g_4 6) (g_4 7) _ _ _ (lf_e_farthest_1 xn fz1 jz1 hh1 hiz1_0 hjz1 c_2) (kFc_n hiz1_1 c_2 (kMe_n (c_23.trans (congrArg (fun z => z.1) (show ((kGo (kAt 24 f4) (g_4 9) (g_4 14) (g_4 10) (g_4 11) (g_4 12) (fun _ => (kIt xn ff fz1 3))) (kfu n4 (0 : Int32)) (0 : Int32) (0 : Int32) (0 : Int32) (if (g_4 8) = 0 then 1 else 0)) = ((fun x9 => kOC f4 f7 f2 n4 n7 n2 xl (kIt xn ff x9 0) (kIt xn ff x9 1) (kIt xn ff x9 2) (kIt xn ff x9 3) (kAt 39 f7 ((5 * (kIt xn ff x9 0)) + 1))) fz1) from (by rw [c_15]; exact kO_trip hh0.1 c_9 c_10 (fun c => c_11.trans (if_pos c)) (fun c => c_12.trans (if_pos c)) (fun c => c_13.trans (if_pos c)))))) (c_26.trans (congrArg (fun z => z.2.2.2) (show ((kGo (kAt 24 f4) (g_4 9) (g_4 14) (g_4 10) (g_4 11) (g_4 12) (fun _ => (kIt xn ff fz1 3))) (kfu n4 (0 : Int32)) (0 : Int32) (0 : Int32) (0 : Int32) (if (g_4 8) = 0 then 1 else 0)) = ((fun x9 => kOC f4 f7 f2 n4 n7 n2 xl (kIt xn ff x9 0) (kIt xn ff x9 1) (kIt xn ff x9 2) (kIt xn ff x9 3) (kAt 39 f7 ((5 * (kIt xn ff x9 0)) + 1))) fz1) from (by rw [c_15]; exact kO_trip hh0.1 c_9 c_10 (fun c => c_11.trans (if_pos c)) (fun c => c_12.trans (if_pos c)) (fun c => c_13.trans (if_pos c)))))) c_27) (Int32.not_lt.mpr c_28)) rfl (hP.sub [0, 9, 1, 2, 10, 11, 3, 4, 5, 6, 7, 8] rfl) (hD.sub [0, 9, 1, 2, 10, 11, 3, 4, 5, 6, 7, 8] (by decide +kernel) rfl) hS (lv_sub hl [0, 3, 4, 5] rfl)
        · refine lv_iload hx₀ hb dX11_farthest_58_a.2.2.2.2.2.1 (lv_at hl 0 rfl) ?_
          refine lv_istore_n (lv' := [(2, .int ((2 * r_17) + 0)), (5, .int ((2 * r_17) + 0)), (4, .int r_17), (3, .int fz1), (1, .int faz1), (0, .ref hx)]) hx₀ hb dX11_farthest_58_a.2.2.2.2.2.2.1 rfl hl (by decide) rfl (fun ls hl => ?_)
          refine lv_iload_n hx₀ hb dX11_farthest_58_a.2.2.2.2.2.2.2.1 rfl (lv_at hl 3 rfl) ?_
          refine lv_istore_n (lv' := [(1, .int fz1), (2, .int ((2 * r_17) + 0)), (5, .int ((2 * r_17) + 0)), (4, .int r_17), (3, .int fz1), (0, .ref hx)]) hx₀ hb dX11_farthest_58_a.2.2.2.2.2.2.2.2.1 rfl hl (by decide) rfl (fun ls hl => ?_)
          refine lv_iinc (v := fz1 + 1) (lv' := [(3, .int (fz1 + 1)), (1, .int fz1), (2, .int ((2 * r_17) + 0)), (5, .int ((2 * r_17) + 0)), (4, .int r_17), (0, .ref hx)]) hx₀ hb dX11_farthest_58_a.2.2.2.2.2.2.2.2.2.1 hl (k := 4) rfl rfl (by decide) rfl (fun ls hl => ?_)
          refine lv_goto (tgt := 6) hx₀ hb dX11_farthest_58_a.2.2.2.2.2.2.2.2.2.2.1 (by decide) ?_
          exact ihz1 _ (lf_e_farthest_2 xn fz1 jz1 hh1 hiz1_0 hjz1 c_2) fz1 ((2 * r_17) + 0) (fz1 + 1) (g_4 8) (g_4 9) (g_4 10) (g_4 11) (g_4 12) (g_4 13) (g_4 14) (g_18 0) (g_18 1) (g_18 2) (gp_8 0) (gp_8 1) (g_4 0) (g_4 1) (g_4 2) (g_4 3) (g_4 4) (g_4 5) (g_4 6) (g_4 7) _ _ _ (lf_e_farthest_1 xn fz1 jz1 hh1 hiz1_0 hjz1 c_2) (kFc_y hiz1_1 c_2 (kMe_n (c_23.trans (congrArg (fun z => z.1) (show ((kGo (kAt 24 f4) (g_4 9) (g_4 14) (g_4 10) (g_4 11) (g_4 12) (fun _ => (kIt xn ff fz1 3))) (kfu n4 (0 : Int32)) (0 : Int32) (0 : Int32) (0 : Int32) (if (g_4 8) = 0 then 1 else 0)) = ((fun x9 => kOC f4 f7 f2 n4 n7 n2 xl (kIt xn ff x9 0) (kIt xn ff x9 1) (kIt xn ff x9 2) (kIt xn ff x9 3) (kAt 39 f7 ((5 * (kIt xn ff x9 0)) + 1))) fz1) from (by rw [c_15]; exact kO_trip hh0.1 c_9 c_10 (fun c => c_11.trans (if_pos c)) (fun c => c_12.trans (if_pos c)) (fun c => c_13.trans (if_pos c)))))) (c_26.trans (congrArg (fun z => z.2.2.2) (show ((kGo (kAt 24 f4) (g_4 9) (g_4 14) (g_4 10) (g_4 11) (g_4 12) (fun _ => (kIt xn ff fz1 3))) (kfu n4 (0 : Int32)) (0 : Int32) (0 : Int32) (0 : Int32) (if (g_4 8) = 0 then 1 else 0)) = ((fun x9 => kOC f4 f7 f2 n4 n7 n2 xl (kIt xn ff x9 0) (kIt xn ff x9 1) (kIt xn ff x9 2) (kIt xn ff x9 3) (kAt 39 f7 ((5 * (kIt xn ff x9 0)) + 1))) fz1) from (by rw [c_15]; exact kO_trip hh0.1 c_9 c_10 (fun c => c_11.trans (if_pos c)) (fun c => c_12.trans (if_pos c)) (fun c => c_13.trans (if_pos c)))))) c_27) (Int32.not_le.mp c_28)) rfl (hP.sub [0, 9, 1, 2, 10, 11, 3, 4, 5, 6, 7, 8] rfl) (hD.sub [0, 9, 1, 2, 10, 11, 3, 4, 5, 6, 7, 8] (by decide +kernel) rfl) hS (lv_sub hl [0, 2, 1, 5] rfl)
      · refine lv_iconst (v := 1) hx₀ hb dX11_farthest_26_a.2.2.2.2.2.2.2.2.2.2.2.2.2.1 (by decide +kernel) ?_
        refine lv_goto (tgt := 58) hx₀ hb dX11_farthest_26_a.2.2.2.2.2.2.2.2.2.2.2.2.2.2.1 (by decide) ?_
        refine lv_iadd hx₀ hb dX11_farthest_58_a.1 ?_
        refine lv_istore (lv' := [(5, .int ((2 * r_17) + 1)), (4, .int r_17), (3, .int fz1), (2, .int moz1), (1, .int faz1), (0, .ref hx)]) hx₀ hb dX11_farthest_58_a.2.1 hl (by decide) rfl (fun ls hl => ?_)
        refine lv_iload hx₀ hb dX11_farthest_58_a.2.2.1 (lv_at hl 0 rfl) ?_
        refine lv_iload_n hx₀ hb dX11_farthest_58_a.2.2.2.1 rfl (lv_at hl 3 rfl) ?_
        refine lv_icmp_le (tgt := 72) hx₀ hb dX11_farthest_58_a.2.2.2.2.1 (by decide) (fun c_29 => ?_) (fun c_29 => ?_)
        · refine lv_iinc (v := fz1 + 1) (lv' := [(3, .int (fz1 + 1)), (5, .int ((2 * r_17) + 1)), (4, .int r_17), (2, .int moz1), (1, .int faz1), (0, .ref hx)]) hx₀ hb dX11_farthest_58_a.2.2.2.2.2.2.2.2.2.1 hl (k := 2) rfl rfl (by decide) rfl (fun ls hl => ?_)
          refine lv_goto (tgt := 6) hx₀ hb dX11_farthest_58_a.2.2.2.2.2.2.2.2.2.2.1 (by decide) ?_
          exact ihz1 _ (lf_e_farthest_2 xn fz1 jz1 hh1 hiz1_0 hjz1 c_2) faz1 moz1 (fz1 + 1) (g_4 8) (g_4 9) (g_4 10) (g_4 11) (g_4 12) (g_4 13) (g_4 14) (g_18 0) (g_18 1) (g_18 2) (gp_8 0) (gp_8 1) (g_4 0) (g_4 1) (g_4 2) (g_4 3) (g_4 4) (g_4 5) (g_4 6) (g_4 7) _ _ _ (lf_e_farthest_1 xn fz1 jz1 hh1 hiz1_0 hjz1 c_2) (kFc_n hiz1_1 c_2 (kMe_y (c_23.trans (congrArg (fun z => z.1) (show ((kGo (kAt 24 f4) (g_4 9) (g_4 14) (g_4 10) (g_4 11) (g_4 12) (fun _ => (kIt xn ff fz1 3))) (kfu n4 (0 : Int32)) (0 : Int32) (0 : Int32) (0 : Int32) (if (g_4 8) = 0 then 1 else 0)) = ((fun x9 => kOC f4 f7 f2 n4 n7 n2 xl (kIt xn ff x9 0) (kIt xn ff x9 1) (kIt xn ff x9 2) (kIt xn ff x9 3) (kAt 39 f7 ((5 * (kIt xn ff x9 0)) + 1))) fz1) from (by rw [c_15]; exact kO_trip hh0.1 c_9 c_10 (fun c => c_11.trans (if_pos c)) (fun c => c_12.trans (if_pos c)) (fun c => c_13.trans (if_pos c)))))) (c_26.trans (congrArg (fun z => z.2.2.2) (show ((kGo (kAt 24 f4) (g_4 9) (g_4 14) (g_4 10) (g_4 11) (g_4 12) (fun _ => (kIt xn ff fz1 3))) (kfu n4 (0 : Int32)) (0 : Int32) (0 : Int32) (0 : Int32) (if (g_4 8) = 0 then 1 else 0)) = ((fun x9 => kOC f4 f7 f2 n4 n7 n2 xl (kIt xn ff x9 0) (kIt xn ff x9 1) (kIt xn ff x9 2) (kIt xn ff x9 3) (kAt 39 f7 ((5 * (kIt xn ff x9 0)) + 1))) fz1) from (by rw [c_15]; exact kO_trip hh0.1 c_9 c_10 (fun c => c_11.trans (if_pos c)) (fun c => c_12.trans (if_pos c)) (fun c => c_13.trans (if_pos c)))))) c_27) (Int32.not_lt.mpr c_29)) rfl (hP.sub [0, 9, 1, 2, 10, 11, 3, 4, 5, 6, 7, 8] rfl) (hD.sub [0, 9, 1, 2, 10, 11, 3, 4, 5, 6, 7, 8] (by decide +kernel) rfl) hS (lv_sub hl [0, 3, 4, 5] rfl)
        · refine lv_iload hx₀ hb dX11_farthest_58_a.2.2.2.2.2.1 (lv_at hl 0 rfl) ?_
          refine lv_istore_n (lv' := [(2, .int ((2 * r_17) + 1)), (5, .int ((2 * r_17) + 1)), (4, .int r_17), (3, .int fz1), (1, .int faz1), (0, .ref hx)]) hx₀ hb dX11_farthest_58_a.2.2.2.2.2.2.1 rfl hl (by decide) rfl (fun ls hl => ?_)
          refine lv_iload_n hx₀ hb dX11_farthest_58_a.2.2.2.2.2.2.2.1 rfl (lv_at hl 3 rfl) ?_
          refine lv_istore_n (lv' := [(1, .int fz1), (2, .int ((2 * r_17) + 1)), (5, .int ((2 * r_17) + 1)), (4, .int r_17), (3, .int fz1), (0, .ref hx)]) hx₀ hb dX11_farthest_58_a.2.2.2.2.2.2.2.2.1 rfl hl (by decide) rfl (fun ls hl => ?_)
          refine lv_iinc (v := fz1 + 1) (lv' := [(3, .int (fz1 + 1)), (1, .int fz1), (2, .int ((2 * r_17) + 1)), (5, .int ((2 * r_17) + 1)), (4, .int r_17), (0, .ref hx)]) hx₀ hb dX11_farthest_58_a.2.2.2.2.2.2.2.2.2.1 hl (k := 4) rfl rfl (by decide) rfl (fun ls hl => ?_)
          refine lv_goto (tgt := 6) hx₀ hb dX11_farthest_58_a.2.2.2.2.2.2.2.2.2.2.1 (by decide) ?_
          exact ihz1 _ (lf_e_farthest_2 xn fz1 jz1 hh1 hiz1_0 hjz1 c_2) fz1 ((2 * r_17) + 1) (fz1 + 1) (g_4 8) (g_4 9) (g_4 10) (g_4 11) (g_4 12) (g_4 13) (g_4 14) (g_18 0) (g_18 1) (g_18 2) (gp_8 0) (gp_8 1) (g_4 0) (g_4 1) (g_4 2) (g_4 3) (g_4 4) (g_4 5) (g_4 6) (g_4 7) _ _ _ (lf_e_farthest_1 xn fz1 jz1 hh1 hiz1_0 hjz1 c_2) (kFc_y hiz1_1 c_2 (kMe_y (c_23.trans (congrArg (fun z => z.1) (show ((kGo (kAt 24 f4) (g_4 9) (g_4 14) (g_4 10) (g_4 11) (g_4 12) (fun _ => (kIt xn ff fz1 3))) (kfu n4 (0 : Int32)) (0 : Int32) (0 : Int32) (0 : Int32) (if (g_4 8) = 0 then 1 else 0)) = ((fun x9 => kOC f4 f7 f2 n4 n7 n2 xl (kIt xn ff x9 0) (kIt xn ff x9 1) (kIt xn ff x9 2) (kIt xn ff x9 3) (kAt 39 f7 ((5 * (kIt xn ff x9 0)) + 1))) fz1) from (by rw [c_15]; exact kO_trip hh0.1 c_9 c_10 (fun c => c_11.trans (if_pos c)) (fun c => c_12.trans (if_pos c)) (fun c => c_13.trans (if_pos c)))))) (c_26.trans (congrArg (fun z => z.2.2.2) (show ((kGo (kAt 24 f4) (g_4 9) (g_4 14) (g_4 10) (g_4 11) (g_4 12) (fun _ => (kIt xn ff fz1 3))) (kfu n4 (0 : Int32)) (0 : Int32) (0 : Int32) (0 : Int32) (if (g_4 8) = 0 then 1 else 0)) = ((fun x9 => kOC f4 f7 f2 n4 n7 n2 xl (kIt xn ff x9 0) (kIt xn ff x9 1) (kIt xn ff x9 2) (kIt xn ff x9 3) (kAt 39 f7 ((5 * (kIt xn ff x9 0)) + 1))) fz1) from (by rw [c_15]; exact kO_trip hh0.1 c_9 c_10 (fun c => c_11.trans (if_pos c)) (fun c => c_12.trans (if_pos c)) (fun c => c_13.trans (if_pos c)))))) c_27) (Int32.not_le.mp c_29)) rfl (hP.sub [0, 9, 1, 2, 10, 11, 3, 4, 5, 6, 7, 8] rfl) (hD.sub [0, 9, 1, 2, 10, 11, 3, 4, 5, 6, 7, 8] (by decide +kernel) rfl) hS (lv_sub hl [0, 2, 1, 5] rfl)
set_option maxHeartbeats 4000000 in
set_option maxRecDepth 100000 in
theorem e_farthestNow (l : Launch) (dC : Nat → ClassId) (dI : Nat → Nat → Nat) (cI cJ cQ : ClassId) (sz : Nat) (hm : Nat) (vFo : Nat) (vSi : Nat) (vIt : Nat) (vMo : Nat) (la : Int32) (vBy : Nat) (vTy : Nat) (mi : Int32) (vMi : Nat) (pn : Int32) (vPs : Nat) (gn : Int32) (vGs : Nat) (fn : Int32) (vFt : Nat) (le : Int32) (vTo : Nat) (kn : Int32) (fe : Int32) (en : Int32) (ca : Int32) (an : Int32) (co : Int32) (vPr : Nat) (vSt : Nat) (vFn : Nat) (sn : Int32) (vSg : Nat) (vAl : Nat) (dr : Int32) (qMi : Nat → Int32) (qPs : Nat → Int32) (qGs : Nat → Int32) (qTo : Nat → Int32) (qPr : Nat → Int32) (qSt : Nat → Int32) (qFn : Nat → Int32) (qFt : Nat → Int32) (hh0 : 0 ≤ mi ∧ mi ≤ 24) (hh1 : 0 ≤ pn ∧ pn ≤ 8) (hh2 : 0 ≤ gn ∧ gn ≤ 8) (hh3 : k_bd 2 0 7 qPr) (hh4 : 0 ≤ fe ∧ fe ≤ 24) (hh5 : en = 0 ∨ kn = 0 ∨ fe ≤ 23) (hh6 : 0 ≤ kn ∧ kn ≤ 24) (hh7 : 0 ≤ fn ∧ fn ≤ 8) (hh8 : k_tm pn qPs) (hh9 : ca = 16777215) (hh10 : k_bd 32 0 9 qFt) : Met l yX12_farthestNow (kW yX12_farthestNow cX12_farthestNow 6 (some .int)) { frames := 4, cells := 0, slots := 0, locals := 99 } (kPre dC dI cI cJ cQ sz [.ref hm] [(kX12 hm vFo vSi vIt vMo la vBy vTy mi vMi pn vPs gn vGs fn vFt le vTo kn fe en ca an co vPr vSt vFn sn vSg vAl dr), (kAI vMi cI 24 qMi), (kAI vPs cI 32 qPs), (kAI vGs cI 16 qGs), (kAI vTo cI 96 qTo), (kAI vPr cI 2 qPr), (kAI vSt cI 2 qSt), (kAI vFn cI 2 qFn), (kAI vFt cI 32 qFt)]) (va_Qi (fun (r : Int32) (u : kS) => (r = (kFq (fun x9 => kOR qMi qPs qGs mi pn gn le (kP0 qFt x9) (kP1 qFt x9) (kP2 qFt x9) (kP1 qPs (kP0 qFt x9)) (fun x8 => if x8 < (24 : Int32) then (kP3 qFt x9) else (0 : Int32))) (kfu fn 0) 0 (-1) 0)) ∧ (k_bd 2 0 7 (u.2.1 1)) ∧ (0 ≤ (u.1 1) ∧ (u.1 1) ≤ 24) ∧ ((u.1 2) = 0 ∨ (u.1 0) = 0 ∨ (u.1 1) ≤ 23) ∧ (0 ≤ (u.1 0) ∧ (u.1 0) ≤ 24)) (fun (u : kS) t₀ => kB dC dI cI cJ cQ (va_A [(kX12 hm vFo vSi vIt vMo la vBy vTy mi vMi pn vPs gn vGs fn vFt le vTo kn fe en ca an co vPr vSt vFn sn vSg vAl dr), (kAI vMi cI 24 qMi), (kAI vPs cI 32 qPs), (kAI vGs cI 16 qGs), (kAI vTo cI 96 qTo), (kAI vPr cI 2 qPr), (kAI vSt cI 2 qSt), (kAI vFn cI 2 qFn), (kAI vFt cI 32 qFt)] sz) [(kX12 hm vFo vSi vIt vMo la vBy vTy mi vMi pn vPs gn vGs fn vFt le vTo (u.1 0) (u.1 1) (u.1 2) ca (u.1 3) (u.1 4) vPr vSt vFn sn vSg vAl dr), (kAI vMi cI 24 qMi), (kAI vPs cI 32 qPs), (kAI vGs cI 16 qGs), (kAI vTo cI 96 (u.2.1 0)), (kAI vPr cI 2 (u.2.1 1)), (kAI vSt cI 2 (u.2.1 2)), (kAI vFn cI 2 (u.2.1 3)), (kAI vFt cI 32 qFt)] t₀) (va_A [(kX12 hm vFo vSi vIt vMo la vBy vTy mi vMi pn vPs gn vGs fn vFt le vTo kn fe en ca an co vPr vSt vFn sn vSg vAl dr), (kAI vMi cI 24 qMi), (kAI vPs cI 32 qPs), (kAI vGs cI 16 qGs), (kAI vTo cI 96 qTo), (kAI vPr cI 2 qPr), (kAI vSt cI 2 qSt), (kAI vFn cI 2 qFn), (kAI vFt cI 32 qFt)] sz)) 0 0 (va_A [(kX12 hm vFo vSi vIt vMo la vBy vTy mi vMi pn vPs gn vGs fn vFt le vTo kn fe en ca an co vPr vSt vFn sn vSg vAl dr), (kAI vMi cI 24 qMi), (kAI vPs cI 32 qPs), (kAI vGs cI 16 qGs), (kAI vTo cI 96 qTo), (kAI vPr cI 2 qPr), (kAI vSt cI 2 qSt), (kAI vFn cI 2 qFn), (kAI vFt cI 32 qFt)] sz) := by
  refine Met.ofW (cc := cX12_farthestNow) (maxL := 6) (ret := (some .int)) (by decide) rfl ?_
  intro p₀ e₀ s₀ m₀ args below meth c₀ s₁ B hml hv₀
  obtain ⟨rfl, hsz, hP, hK, hD0, hN⟩ := hv₀
  have hx₀ := B.exec
  have hb := B.bytes
  have hr := B.returns
  have hts := atoms_spec (ws := (kW yX12_farthestNow cX12_farthestNow 6 (some .int))) B.pre
  have hts := fun w h => hts w (List.mem_cons_of_mem _ h)
  have hown : s₀.vm.findClass RX12 = some m₀.cls := findClass_of_methodNamed B.named
  have hlocks := B.notSynchronized
  subst hsz
  have hD := hD0.self (sz := s₀.heap.size)
  generalize hAe : va_A [(kX12 hm vFo vSi vIt vMo la vBy vTy mi vMi pn vPs gn vGs fn vFt le vTo kn fe en ca an co vPr vSt vFn sn vSg vAl dr), (kAI vMi cI 24 qMi), (kAI vPs cI 32 qPs), (kAI vGs cI 16 qGs), (kAI vTo cI 96 qTo), (kAI vPr cI 2 qPr), (kAI vSt cI 2 qSt), (kAI vFn cI 2 qFn), (kAI vFt cI 32 qFt)] s₀.heap.size = A at hD ⊢
  have hA : ∀ q : Nat, s₀.heap.size ≤ q → A q := fun q h => by rw [← hAe]; exact Or.inr h
  have hS : va_S A s₀.heap s₀.heap [] := va_S.rf
  have hP : va_P (dC, dI) vwCl [(kX12 hm vFo vSi vIt vMo la vBy vTy mi vMi pn vPs gn vGs fn vFt le vTo kn fe en ca an co vPr vSt vFn sn vSg vAl dr), (kAI vMi cI 24 qMi), (kAI vPs cI 32 qPs), (kAI vGs cI 16 qGs), (kAI vTo cI 96 qTo), (kAI vPr cI 2 qPr), (kAI vSt cI 2 qSt), (kAI vFn cI 2 qFn), (kAI vFt cI 32 qFt)] s₀.heap := hP
  have hl := lv_entry ([.ref hm]) (n := 6) (Nat.le_of_ble_eq_true rfl)
  rw [lg_entry_eq]
  generalize (lg_sl ([.ref hm]) ++ List.replicate (6 - (lg_sl ([.ref hm])).length) Slot.unset).toArray = ls at hl ⊢
  have hl : lv_has ls 6 [(0, .ref hm)] := hl
  obtain ⟨H, hH⟩ : ∃ z : Heap, z = s₀.heap := ⟨_, rfl⟩
  rw [← hH] at hP
  have hS : va_S A s₀.heap H [] := by rw [hH]; exact hS
  refine k_heap hH ?_
  have hD : va_D A [(kX12 hm vFo vSi vIt vMo la vBy vTy mi vMi pn vPs gn vGs fn vFt le vTo kn fe en ca an co vPr vSt vFn sn vSg vAl dr), (kAI vMi cI 24 qMi), (kAI vPs cI 32 qPs), (kAI vGs cI 16 qGs), (kAI vTo cI 96 qTo), (kAI vPr cI 2 qPr), (kAI vSt cI 2 qSt), (kAI vFn cI 2 qFn), (kAI vFt cI 32 qFt)] := hD
  obtain ⟨locs, hlo⟩ : ∃ z : List Loc, z = [] := ⟨_, rfl⟩
  rw [← hlo] at hS ⊢
  clear hlo hH hAe hD0
  refine lv_iconst (v := (-1)) hx₀ hb dX12_farthestNow_0_a.1 (by decide +kernel) ?_
  refine lv_istore_n (lv' := [(1, .int (-1)), (0, .ref hm)]) hx₀ hb dX12_farthestNow_0_a.2.1 rfl hl (by decide) rfl (fun ls hl => ?_)
  refine lv_iconst (v := 0) hx₀ hb dX12_farthestNow_0_a.2.2.1 (by decide +kernel) ?_
  refine lv_istore_n (lv' := [(2, .int 0), (1, .int (-1)), (0, .ref hm)]) hx₀ hb dX12_farthestNow_0_a.2.2.2.1 rfl hl (by decide) rfl (fun ls hl => ?_)
  refine lv_iconst (v := 0) hx₀ hb dX12_farthestNow_0_a.2.2.2.2.1 (by decide +kernel) ?_
  refine lv_istore_n (lv' := [(3, .int 0), (2, .int 0), (1, .int (-1)), (0, .ref hm)]) hx₀ hb dX12_farthestNow_0_a.2.2.2.2.2.1 rfl hl (by decide) rfl (fun ls hl => ?_)
  refine (?keyz1 : ∀ (jz1 : Nat) (bez1 : Int32) (moz1 : Int32) (fz1 : Int32) (knz1 : Int32) (fez1 : Int32) (enz1 : Int32) (anz1 : Int32) (coz1 : Int32) (qtz1 : Nat → Int32) (qpz1 : Nat → Int32) (qsz1 : Nat → Int32) (qfz1 : Nat → Int32) (H : Heap) (locs : List Loc) (ls : Array Slot), (0 ≤ fz1 ∧ fz1 ≤ fn) → (k_fq (fun x9 => kOR qMi qPs qGs mi pn gn le (kP0 qFt x9) (kP1 qFt x9) (kP2 qFt x9) (kP1 qPs (kP0 qFt x9)) (fun x8 => if x8 < (24 : Int32) then (kP3 qFt x9) else (0 : Int32))) fn fz1 bez1 moz1 (kFq (fun x9 => kOR qMi qPs qGs mi pn gn le (kP0 qFt x9) (kP1 qFt x9) (kP2 qFt x9) (kP1 qPs (kP0 qFt x9)) (fun x8 => if x8 < (24 : Int32) then (kP3 qFt x9) else (0 : Int32))) (kfu fn 0) 0 (-1) 0)) → (k_bd 2 0 7 qpz1) → (0 ≤ fez1 ∧ fez1 ≤ 24) → (enz1 = 0 ∨ knz1 = 0 ∨ fez1 ≤ 23) → (0 ≤ knz1 ∧ knz1 ≤ 24) → ((fn.toInt - fz1.toInt).toNat = jz1) → va_P (dC, dI) vwCl [(kX12 hm vFo vSi vIt vMo la vBy vTy mi vMi pn vPs gn vGs fn vFt le vTo knz1 fez1 enz1 ca anz1 coz1 vPr vSt vFn sn vSg vAl dr), (kAI vMi cI 24 qMi), (kAI vPs cI 32 qPs), (kAI vGs cI 16 qGs), (kAI vTo cI 96 qtz1), (kAI vPr cI 2 qpz1), (kAI vSt cI 2 qsz1), (kAI vFn cI 2 qfz1), (kAI vFt cI 32 qFt)] H → va_D A [(kX12 hm vFo vSi vIt vMo la vBy vTy mi vMi pn vPs gn vGs fn vFt le vTo knz1 fez1 enz1 ca anz1 coz1 vPr vSt vFn sn vSg vAl dr), (kAI vMi cI 24 qMi), (kAI vPs cI 32 qPs), (kAI vGs cI 16 qGs), (kAI vTo cI 96 qtz1), (kAI vPr cI 2 qpz1), (kAI vSt cI 2 qsz1), (kAI vFn cI 2 qfz1), (kAI vFt cI 32 qFt)] → va_S A s₀.heap H locs → lv_has ls 6 [(3, .int fz1), (2, .int moz1), (1, .int bez1), (0, .ref hm)] → W p₀ l e₀ _ s₀ m₀ _ below meth c₀ H locs _ _ _ (F0 m₀ 6 ls [])) _ (-1 : Int32) (0 : Int32) (0 : Int32) kn fe en an co _ _ _ _ H locs ls (show 0 ≤ (0 : Int32) ∧ (0 : Int32) ≤ fn from ⟨(by decide), hh7.1⟩) (rfl) (hh3) (hh4) (hh5) (hh6) rfl hP hD hS hl
  clear hP hD hS hl
  intro jz1
  induction jz1 using Nat.strongRecOn with
  | ind jz1 ihz1 =>
    intro bez1 moz1 fz1 knz1 fez1 enz1 anz1 coz1 qtz1 qpz1 qsz1 qfz1 H locs ls hiz1_0 hiz1_1 hiz1_2 hiz1_3 hiz1_4 hiz1_5 hjz1 hP hD hS hl
    refine lv_iload_n hx₀ hb dX12_farthestNow_0_a.2.2.2.2.2.2.1 rfl (lv_at hl 0 rfl) ?_
    refine lv_aload_n hx₀ hb dX12_farthestNow_0_a.2.2.2.2.2.2.2.1 rfl (lv_at hl 3 rfl) ?_
    refine va_get (D := (dC, dI)) (ci := 11) (v := .int fn) (C := RX12) (T := TX12) (N := 30) hx₀ hb hts inlX12 hown hK hP 0 rfl rfl 13 (by decide) (hts (.fieldLink RX12 159 "BittenStickModel" "flights" "I") wd_364) (fun _ h9 => h9) rfl dX12_farthestNow_0_a.2.2.2.2.2.2.2.2.1 ?_
    refine lv_icmp_ge (tgt := 87) hx₀ hb dX12_farthestNow_0_a.2.2.2.2.2.2.2.2.2.1 (by decide) (fun c_2 => ?_) (fun c_2 => ?_)
    · refine lv_iload_n hx₀ hb dX12_farthestNow_84_a.2.1 rfl (lv_at hl 2 rfl) ?_
      obtain ⟨hP9, hD9⟩ := k_c2 (wc := [(kX12 hm vFo vSi vIt vMo la vBy vTy mi vMi pn vPs gn vGs fn vFt le vTo knz1 fez1 enz1 ca anz1 coz1 vPr vSt vFn sn vSg vAl dr), (kAI vMi cI 24 qMi), (kAI vPs cI 32 qPs), (kAI vGs cI 16 qGs), (kAI vTo cI 96 qtz1), (kAI vPr cI 2 qpz1), (kAI vSt cI 2 qsz1), (kAI vFn cI 2 qfz1), (kAI vFt cI 32 qFt)]) hP hD [0, 1, 2, 3, 4, 5, 6, 7, 8] (by decide +kernel) rfl
      exact W.iret (v := bez1) hx₀ hb hr (fun t₀ ht hW => ⟨⟨bez1, (k_fn [knz1, fez1, enz1, anz1, coz1], k_fa [qtz1, qpz1, qsz1, qfz1], k_fl [], k_fL [], k_fp []), rfl, ⟨(kFq_e hiz1_1 c_2), hiz1_2, hiz1_3, hiz1_4, hiz1_5⟩, by rw [ht]; exact hP9, va_K.moved hW.alike hK, hD9⟩, hS.F ht⟩) hS.2.2 dX12_farthestNow_84_a.2.2
    · refine lv_aload_n hx₀ hb dX12_farthestNow_0_a.2.2.2.2.2.2.2.2.2.2.1 rfl (lv_at hl 3 rfl) ?_
      refine lv_iload_n hx₀ hb dX12_farthestNow_0_a.2.2.2.2.2.2.2.2.2.2.2.1 rfl (lv_at hl 0 rfl) ?_
      obtain ⟨hPc, hDc, hFc, hC⟩ := k_cw (wc := [(kX12 hm vFo vSi vIt vMo la vBy vTy mi vMi pn vPs gn vGs fn vFt le vTo knz1 fez1 enz1 ca anz1 coz1 vPr vSt vFn sn vSg vAl dr), (kAI vMi cI 24 qMi), (kAI vPs cI 32 qPs), (kAI vGs cI 16 qGs), (kAI vTo cI 96 qtz1), (kAI vPr cI 2 qpz1), (kAI vSt cI 2 qsz1), (kAI vFn cI 2 qfz1), (kAI vFt cI 32 qFt)]) hP hD hS hA [0, 1, 2, 3, 4, 5, 6, 7, 8] (by decide +kernel) rfl
      refine va_callv (va_runV (As := [.int fz1]) (rest := []) ⟨hx₀, hb, hml, hown, hts⟩ (e_fliesTold l dC dI cI cJ cQ H.size hm fz1 vFo vSi vIt vMo la vBy vTy mi vMi pn vPs gn vGs fn vFt le vTo knz1 fez1 enz1 ca anz1 coz1 vPr vSt vFn sn vSg vAl dr qMi qPs qGs qtz1 qpz1 qsz1 qfz1 qFt (hh0) (hh1) (hh2) (hiz1_2) (lf_g_farthestNow_1 fn fz1 jz1 hh7 hiz1_0 hjz1 c_2) (hh8) (hh9) (hh10)) (cwV 1 hts (kGV wd_536 wd_533 wd_534 wd_535 wd_5) rfl rfl rfl (by decide +kernel) ⟨Nat.le_of_ble_eq_true rfl, Nat.le_of_ble_eq_true rfl⟩) (k_preV (ci := 11) (q0 := 0) hK hPc hDc hN rfl rfl) rfl rfl hl.1 rfl (lv_room (Nat.le_of_ble_eq_true rfl)) dX12_farthestNow_0_a.2.2.2.2.2.2.2.2.2.2.2.2.1 ⟨by decide +kernel, by decide +kernel⟩) hS (fun q _ h => hFc q h) hFc (fun u₀ t₀ H1 locs ht hvm hw hB hz1 hk1 hS => ?_)
      obtain ⟨g_4, ga_5, gl_6, gb_7, gp_8⟩ := u₀
      obtain ⟨hP1, hK1, hD1⟩ := hB
      rw [ht] at hP1
      have hJ := k_jn (wr := []) (wt := [(kX12 hm vFo vSi vIt vMo la vBy vTy mi vMi pn vPs gn vGs fn vFt le vTo (g_4 0) (g_4 1) (g_4 2) ca (g_4 3) (g_4 4) vPr vSt vFn sn vSg vAl dr), (kAI vMi cI 24 qMi), (kAI vPs cI 32 qPs), (kAI vGs cI 16 qGs), (kAI vTo cI 96 (ga_5 0)), (kAI vPr cI 2 (ga_5 1)), (kAI vSt cI 2 (ga_5 2)), (kAI vFn cI 2 (ga_5 3)), (kAI vFt cI 32 qFt)]) hP hD hC [] rfl (by decide +kernel) (by decide +kernel) hk1 hFc hP1 hD1 rfl
      clear hP hD hPc hDc hFc hC hP1 hD1 hK1 hz1 hk1 hvm ht
      obtain ⟨hP, hD⟩ := hJ
      generalize H1 = H at hP hS ⊢
      try dsimp only at hw
      obtain ⟨c_9, c_10, c_11, c_12, c_13⟩ := hw
      refine lv_iconst (v := 2) hx₀ hb dX12_farthestNow_0_a.2.2.2.2.2.2.2.2.2.2.2.2.2.1 (by decide +kernel) ?_
      refine lv_aload_n hx₀ hb dX12_farthestNow_0_a.2.2.2.2.2.2.2.2.2.2.2.2.2.2.1 rfl (lv_at hl 3 rfl) ?_
      refine va_get (D := (dC, dI)) (ci := 11) (v := .int (g_4 1)) (C := RX12) (T := TX12) (N := 30) hx₀ hb hts inlX12 hown hK hP 0 rfl rfl 18 (by decide) (hts (.fieldLink RX12 193 "BittenStickModel" "fell" "I") wd_542) (fun _ h9 => h9) rfl dX12_farthestNow_0_a.2.2.2.2.2.2.2.2.2.2.2.2.2.2.2 ?_
      refine lv_imul hx₀ hb dX12_farthestNow_24_a.1 ?_
      refine lv_aload_n hx₀ hb dX12_farthestNow_24_a.2.1 rfl (lv_at hl 3 rfl) ?_
      refine va_get (D := (dC, dI)) (ci := 11) (v := .int (g_4 2)) (C := RX12) (T := TX12) (N := 30) hx₀ hb hts inlX12 hown hK hP 0 rfl rfl 19 (by decide) (hts (.fieldLink RX12 196 "BittenStickModel" "end" "I") wd_543) (fun _ h9 => h9) rfl dX12_farthestNow_24_a.2.2.1 ?_
      refine lv_if_ne (tgt := 36) hx₀ hb dX12_farthestNow_24_a.2.2.2.1 (by decide) (fun c_14 => ?_) (fun c_14 => ?_)
      · refine lv_iconst (v := 0) hx₀ hb dX12_farthestNow_24_a.2.2.2.2.2.2.1 (by decide +kernel) ?_
        refine lv_iadd hx₀ hb dX12_farthestNow_24_a.2.2.2.2.2.2.2.1 ?_
        refine lv_istore (lv' := [(4, .int ((2 * (g_4 1)) + 0)), (3, .int fz1), (2, .int moz1), (1, .int bez1), (0, .ref hm)]) hx₀ hb dX12_farthestNow_24_a.2.2.2.2.2.2.2.2.1 hl (by decide) rfl (fun ls hl => ?_)
        refine lv_iload_n hx₀ hb dX12_farthestNow_24_a.2.2.2.2.2.2.2.2.2.1 rfl (lv_at hl 3 rfl) ?_
        refine lv_iconst (v := (-1)) hx₀ hb dX12_farthestNow_24_a.2.2.2.2.2.2.2.2.2.2.1 (by decide +kernel) ?_
        refine lv_icmp_eq (tgt := 51) hx₀ hb dX12_farthestNow_24_a.2.2.2.2.2.2.2.2.2.2.2.1 (by decide) (fun c_15 => ?_) (fun c_15 => ?_)
        · refine lv_iconst (v := 1) hx₀ hb dX12_farthestNow_24_a.2.2.2.2.2.2.2.2.2.2.2.2.2.2.2 (by decide +kernel) ?_
          refine lv_goto (tgt := 56) hx₀ hb dX12_farthestNow_52_a.1 (by decide) ?_
          refine lv_istore (lv' := [(5, .int 1), (4, .int ((2 * (g_4 1)) + 0)), (3, .int fz1), (2, .int moz1), (1, .int bez1), (0, .ref hm)]) hx₀ hb dX12_farthestNow_52_a.2.2.1 hl (by decide) rfl (fun ls hl => ?_)
          refine lv_iload hx₀ hb dX12_farthestNow_52_a.2.2.2.1 (lv_at hl 0 rfl) ?_
          refine lv_if_eq (tgt := 67) hx₀ hb dX12_farthestNow_52_a.2.2.2.2.1 (by decide) (fun c9 => absurd c9 (by decide +kernel)) (fun _ => ?_)
          refine lv_iload_n hx₀ hb dX12_farthestNow_52_a.2.2.2.2.2.1 rfl (lv_at hl 2 rfl) ?_
          refine lv_goto (tgt := 68) hx₀ hb dX12_farthestNow_52_a.2.2.2.2.2.2.1 (by decide) ?_
          refine lv_istore_n (lv' := [(1, .int fz1), (5, .int 1), (4, .int ((2 * (g_4 1)) + 0)), (3, .int fz1), (2, .int moz1), (0, .ref hm)]) hx₀ hb dX12_farthestNow_52_a.2.2.2.2.2.2.2.2.1 rfl hl (by decide) rfl (fun ls hl => ?_)
          refine lv_iload hx₀ hb dX12_farthestNow_52_a.2.2.2.2.2.2.2.2.2.1 (lv_at hl 1 rfl) ?_
          refine lv_if_eq (tgt := 79) hx₀ hb dX12_farthestNow_52_a.2.2.2.2.2.2.2.2.2.2.1 (by decide) (fun c9 => absurd c9 (by decide +kernel)) (fun _ => ?_)
          refine lv_iload hx₀ hb dX12_farthestNow_52_a.2.2.2.2.2.2.2.2.2.2.2.1 (lv_at hl 2 rfl) ?_
          refine lv_goto (tgt := 80) hx₀ hb dX12_farthestNow_52_a.2.2.2.2.2.2.2.2.2.2.2.2.1 (by decide) ?_
          refine lv_istore_n (lv' := [(2, .int ((2 * (g_4 1)) + 0)), (1, .int fz1), (5, .int 1), (4, .int ((2 * (g_4 1)) + 0)), (3, .int fz1), (0, .ref hm)]) hx₀ hb dX12_farthestNow_52_a.2.2.2.2.2.2.2.2.2.2.2.2.2.2.1 rfl hl (by decide) rfl (fun ls hl => ?_)
          refine lv_iinc (v := fz1 + 1) (lv' := [(3, .int (fz1 + 1)), (2, .int ((2 * (g_4 1)) + 0)), (1, .int fz1), (5, .int 1), (4, .int ((2 * (g_4 1)) + 0)), (0, .ref hm)]) hx₀ hb dX12_farthestNow_52_a.2.2.2.2.2.2.2.2.2.2.2.2.2.2.2 hl (k := 4) rfl rfl (by decide) rfl (fun ls hl => ?_)
          refine lv_goto (tgt := 6) hx₀ hb dX12_farthestNow_84_a.1 (by decide) ?_
          exact ihz1 _ (lf_g_farthestNow_3 fn fz1 jz1 hh7 hiz1_0 hjz1 c_2) fz1 ((2 * (g_4 1)) + 0) (fz1 + 1) (g_4 0) (g_4 1) (g_4 2) (g_4 3) (g_4 4) (ga_5 0) (ga_5 1) (ga_5 2) (ga_5 3) _ _ _ (lf_g_farthestNow_2 fn fz1 jz1 hh7 hiz1_0 hjz1 c_2) (kFq_y hiz1_1 c_2 (kMe_n (o := (fun x9 => kOR qMi qPs qGs mi pn gn le (kP0 qFt x9) (kP1 qFt x9) (kP2 qFt x9) (kP1 qPs (kP0 qFt x9)) (fun x8 => if x8 < (24 : Int32) then (kP3 qFt x9) else (0 : Int32))) fz1) (kO_done c_13).1 (kO_done c_13).2 c_14) (Or.inl c_15)) (c_9) (c_10) (c_11) (c_12) rfl (hP.sub [0, 1, 2, 3, 4, 5, 6, 7, 8] rfl) (hD.sub [0, 1, 2, 3, 4, 5, 6, 7, 8] (by decide +kernel) rfl) hS (lv_sub hl [0, 1, 2, 5] rfl)
        · refine lv_iload hx₀ hb dX12_farthestNow_24_a.2.2.2.2.2.2.2.2.2.2.2.2.1 (lv_at hl 0 rfl) ?_
          refine lv_iload_n hx₀ hb dX12_farthestNow_24_a.2.2.2.2.2.2.2.2.2.2.2.2.2.1 rfl (lv_at hl 2 rfl) ?_
          refine lv_icmp_le (tgt := 55) hx₀ hb dX12_farthestNow_24_a.2.2.2.2.2.2.2.2.2.2.2.2.2.2.1 (by decide) (fun c_16 => ?_) (fun c_16 => ?_)
          · refine lv_iconst (v := 0) hx₀ hb dX12_farthestNow_52_a.2.1 (by decide +kernel) ?_
            refine lv_istore (lv' := [(5, .int 0), (4, .int ((2 * (g_4 1)) + 0)), (3, .int fz1), (2, .int moz1), (1, .int bez1), (0, .ref hm)]) hx₀ hb dX12_farthestNow_52_a.2.2.1 hl (by decide) rfl (fun ls hl => ?_)
            refine lv_iload hx₀ hb dX12_farthestNow_52_a.2.2.2.1 (lv_at hl 0 rfl) ?_
            refine lv_if_eq (tgt := 67) hx₀ hb dX12_farthestNow_52_a.2.2.2.2.1 (by decide) (fun _ => ?_) (fun c9 => absurd (by decide +kernel) c9)
            refine lv_iload_n hx₀ hb dX12_farthestNow_52_a.2.2.2.2.2.2.2.1 rfl (lv_at hl 4 rfl) ?_
            refine lv_istore_n (lv' := [(1, .int bez1), (5, .int 0), (4, .int ((2 * (g_4 1)) + 0)), (3, .int fz1), (2, .int moz1), (0, .ref hm)]) hx₀ hb dX12_farthestNow_52_a.2.2.2.2.2.2.2.2.1 rfl hl (by decide) rfl (fun ls hl => ?_)
            refine lv_iload hx₀ hb dX12_farthestNow_52_a.2.2.2.2.2.2.2.2.2.1 (lv_at hl 1 rfl) ?_
            refine lv_if_eq (tgt := 79) hx₀ hb dX12_farthestNow_52_a.2.2.2.2.2.2.2.2.2.2.1 (by decide) (fun _ => ?_) (fun c9 => absurd (by decide +kernel) c9)
            refine lv_iload_n hx₀ hb dX12_farthestNow_52_a.2.2.2.2.2.2.2.2.2.2.2.2.2.1 rfl (lv_at hl 4 rfl) ?_
            refine lv_istore_n (lv' := [(2, .int moz1), (1, .int bez1), (5, .int 0), (4, .int ((2 * (g_4 1)) + 0)), (3, .int fz1), (0, .ref hm)]) hx₀ hb dX12_farthestNow_52_a.2.2.2.2.2.2.2.2.2.2.2.2.2.2.1 rfl hl (by decide) rfl (fun ls hl => ?_)
            refine lv_iinc (v := fz1 + 1) (lv' := [(3, .int (fz1 + 1)), (2, .int moz1), (1, .int bez1), (5, .int 0), (4, .int ((2 * (g_4 1)) + 0)), (0, .ref hm)]) hx₀ hb dX12_farthestNow_52_a.2.2.2.2.2.2.2.2.2.2.2.2.2.2.2 hl (k := 4) rfl rfl (by decide) rfl (fun ls hl => ?_)
            refine lv_goto (tgt := 6) hx₀ hb dX12_farthestNow_84_a.1 (by decide) ?_
            exact ihz1 _ (lf_g_farthestNow_3 fn fz1 jz1 hh7 hiz1_0 hjz1 c_2) bez1 moz1 (fz1 + 1) (g_4 0) (g_4 1) (g_4 2) (g_4 3) (g_4 4) (ga_5 0) (ga_5 1) (ga_5 2) (ga_5 3) _ _ _ (lf_g_farthestNow_2 fn fz1 jz1 hh7 hiz1_0 hjz1 c_2) (kFq_n hiz1_1 c_2 (kMe_n (o := (fun x9 => kOR qMi qPs qGs mi pn gn le (kP0 qFt x9) (kP1 qFt x9) (kP2 qFt x9) (kP1 qPs (kP0 qFt x9)) (fun x8 => if x8 < (24 : Int32) then (kP3 qFt x9) else (0 : Int32))) fz1) (kO_done c_13).1 (kO_done c_13).2 c_14) c_15 (Int32.not_lt.mpr c_16)) (c_9) (c_10) (c_11) (c_12) rfl (hP.sub [0, 1, 2, 3, 4, 5, 6, 7, 8] rfl) (hD.sub [0, 1, 2, 3, 4, 5, 6, 7, 8] (by decide +kernel) rfl) hS (lv_sub hl [0, 1, 2, 5] rfl)
          · refine lv_iconst (v := 1) hx₀ hb dX12_farthestNow_24_a.2.2.2.2.2.2.2.2.2.2.2.2.2.2.2 (by decide +kernel) ?_
            refine lv_goto (tgt := 56) hx₀ hb dX12_farthestNow_52_a.1 (by decide) ?_
            refine lv_istore (lv' := [(5, .int 1), (4, .int ((2 * (g_4 1)) + 0)), (3, .int fz1), (2, .int moz1), (1, .int bez1), (0, .ref hm)]) hx₀ hb dX12_farthestNow_52_a.2.2.1 hl (by decide) rfl (fun ls hl => ?_)
            refine lv_iload hx₀ hb dX12_farthestNow_52_a.2.2.2.1 (lv_at hl 0 rfl) ?_
            refine lv_if_eq (tgt := 67) hx₀ hb dX12_farthestNow_52_a.2.2.2.2.1 (by decide) (fun c9 => absurd c9 (by decide +kernel)) (fun _ => ?_)
            refine lv_iload_n hx₀ hb dX12_farthestNow_52_a.2.2.2.2.2.1 rfl (lv_at hl 2 rfl) ?_
            refine lv_goto (tgt := 68) hx₀ hb dX12_farthestNow_52_a.2.2.2.2.2.2.1 (by decide) ?_
            refine lv_istore_n (lv' := [(1, .int fz1), (5, .int 1), (4, .int ((2 * (g_4 1)) + 0)), (3, .int fz1), (2, .int moz1), (0, .ref hm)]) hx₀ hb dX12_farthestNow_52_a.2.2.2.2.2.2.2.2.1 rfl hl (by decide) rfl (fun ls hl => ?_)
            refine lv_iload hx₀ hb dX12_farthestNow_52_a.2.2.2.2.2.2.2.2.2.1 (lv_at hl 1 rfl) ?_
            refine lv_if_eq (tgt := 79) hx₀ hb dX12_farthestNow_52_a.2.2.2.2.2.2.2.2.2.2.1 (by decide) (fun c9 => absurd c9 (by decide +kernel)) (fun _ => ?_)
            refine lv_iload hx₀ hb dX12_farthestNow_52_a.2.2.2.2.2.2.2.2.2.2.2.1 (lv_at hl 2 rfl) ?_
            refine lv_goto (tgt := 80) hx₀ hb dX12_farthestNow_52_a.2.2.2.2.2.2.2.2.2.2.2.2.1 (by decide) ?_
            refine lv_istore_n (lv' := [(2, .int ((2 * (g_4 1)) + 0)), (1, .int fz1), (5, .int 1), (4, .int ((2 * (g_4 1)) + 0)), (3, .int fz1), (0, .ref hm)]) hx₀ hb dX12_farthestNow_52_a.2.2.2.2.2.2.2.2.2.2.2.2.2.2.1 rfl hl (by decide) rfl (fun ls hl => ?_)
            refine lv_iinc (v := fz1 + 1) (lv' := [(3, .int (fz1 + 1)), (2, .int ((2 * (g_4 1)) + 0)), (1, .int fz1), (5, .int 1), (4, .int ((2 * (g_4 1)) + 0)), (0, .ref hm)]) hx₀ hb dX12_farthestNow_52_a.2.2.2.2.2.2.2.2.2.2.2.2.2.2.2 hl (k := 4) rfl rfl (by decide) rfl (fun ls hl => ?_)
            refine lv_goto (tgt := 6) hx₀ hb dX12_farthestNow_84_a.1 (by decide) ?_
            exact ihz1 _ (lf_g_farthestNow_3 fn fz1 jz1 hh7 hiz1_0 hjz1 c_2) fz1 ((2 * (g_4 1)) + 0) (fz1 + 1) (g_4 0) (g_4 1) (g_4 2) (g_4 3) (g_4 4) (ga_5 0) (ga_5 1) (ga_5 2) (ga_5 3) _ _ _ (lf_g_farthestNow_2 fn fz1 jz1 hh7 hiz1_0 hjz1 c_2) (kFq_y hiz1_1 c_2 (kMe_n (o := (fun x9 => kOR qMi qPs qGs mi pn gn le (kP0 qFt x9) (kP1 qFt x9) (kP2 qFt x9) (kP1 qPs (kP0 qFt x9)) (fun x8 => if x8 < (24 : Int32) then (kP3 qFt x9) else (0 : Int32))) fz1) (kO_done c_13).1 (kO_done c_13).2 c_14) (Or.inr (Int32.not_le.mp c_16))) (c_9) (c_10) (c_11) (c_12) rfl (hP.sub [0, 1, 2, 3, 4, 5, 6, 7, 8] rfl) (hD.sub [0, 1, 2, 3, 4, 5, 6, 7, 8] (by decide +kernel) rfl) hS (lv_sub hl [0, 1, 2, 5] rfl)
      · refine lv_iconst (v := 1) hx₀ hb dX12_farthestNow_24_a.2.2.2.2.1 (by decide +kernel) ?_
        refine lv_goto (tgt := 37) hx₀ hb dX12_farthestNow_24_a.2.2.2.2.2.1 (by decide) ?_
        refine lv_iadd hx₀ hb dX12_farthestNow_24_a.2.2.2.2.2.2.2.1 ?_
        refine lv_istore (lv' := [(4, .int ((2 * (g_4 1)) + 1)), (3, .int fz1), (2, .int moz1), (1, .int bez1), (0, .ref hm)]) hx₀ hb dX12_farthestNow_24_a.2.2.2.2.2.2.2.2.1 hl (by decide) rfl (fun ls hl => ?_)
        refine lv_iload_n hx₀ hb dX12_farthestNow_24_a.2.2.2.2.2.2.2.2.2.1 rfl (lv_at hl 3 rfl) ?_
        refine lv_iconst (v := (-1)) hx₀ hb dX12_farthestNow_24_a.2.2.2.2.2.2.2.2.2.2.1 (by decide +kernel) ?_
        refine lv_icmp_eq (tgt := 51) hx₀ hb dX12_farthestNow_24_a.2.2.2.2.2.2.2.2.2.2.2.1 (by decide) (fun c_17 => ?_) (fun c_17 => ?_)
        · refine lv_iconst (v := 1) hx₀ hb dX12_farthestNow_24_a.2.2.2.2.2.2.2.2.2.2.2.2.2.2.2 (by decide +kernel) ?_
          refine lv_goto (tgt := 56) hx₀ hb dX12_farthestNow_52_a.1 (by decide) ?_
          refine lv_istore (lv' := [(5, .int 1), (4, .int ((2 * (g_4 1)) + 1)), (3, .int fz1), (2, .int moz1), (1, .int bez1), (0, .ref hm)]) hx₀ hb dX12_farthestNow_52_a.2.2.1 hl (by decide) rfl (fun ls hl => ?_)
          refine lv_iload hx₀ hb dX12_farthestNow_52_a.2.2.2.1 (lv_at hl 0 rfl) ?_
          refine lv_if_eq (tgt := 67) hx₀ hb dX12_farthestNow_52_a.2.2.2.2.1 (by decide) (fun c9 => absurd c9 (by decide +kernel)) (fun _ => ?_)
          refine lv_iload_n hx₀ hb dX12_farthestNow_52_a.2.2.2.2.2.1 rfl (lv_at hl 2 rfl) ?_
          refine lv_goto (tgt := 68) hx₀ hb dX12_farthestNow_52_a.2.2.2.2.2.2.1 (by decide) ?_
          refine lv_istore_n (lv' := [(1, .int fz1), (5, .int 1), (4, .int ((2 * (g_4 1)) + 1)), (3, .int fz1), (2, .int moz1), (0, .ref hm)]) hx₀ hb dX12_farthestNow_52_a.2.2.2.2.2.2.2.2.1 rfl hl (by decide) rfl (fun ls hl => ?_)
          refine lv_iload hx₀ hb dX12_farthestNow_52_a.2.2.2.2.2.2.2.2.2.1 (lv_at hl 1 rfl) ?_
          refine lv_if_eq (tgt := 79) hx₀ hb dX12_farthestNow_52_a.2.2.2.2.2.2.2.2.2.2.1 (by decide) (fun c9 => absurd c9 (by decide +kernel)) (fun _ => ?_)
          refine lv_iload hx₀ hb dX12_farthestNow_52_a.2.2.2.2.2.2.2.2.2.2.2.1 (lv_at hl 2 rfl) ?_
          refine lv_goto (tgt := 80) hx₀ hb dX12_farthestNow_52_a.2.2.2.2.2.2.2.2.2.2.2.2.1 (by decide) ?_
          refine lv_istore_n (lv' := [(2, .int ((2 * (g_4 1)) + 1)), (1, .int fz1), (5, .int 1), (4, .int ((2 * (g_4 1)) + 1)), (3, .int fz1), (0, .ref hm)]) hx₀ hb dX12_farthestNow_52_a.2.2.2.2.2.2.2.2.2.2.2.2.2.2.1 rfl hl (by decide) rfl (fun ls hl => ?_)
          refine lv_iinc (v := fz1 + 1) (lv' := [(3, .int (fz1 + 1)), (2, .int ((2 * (g_4 1)) + 1)), (1, .int fz1), (5, .int 1), (4, .int ((2 * (g_4 1)) + 1)), (0, .ref hm)]) hx₀ hb dX12_farthestNow_52_a.2.2.2.2.2.2.2.2.2.2.2.2.2.2.2 hl (k := 4) rfl rfl (by decide) rfl (fun ls hl => ?_)
          refine lv_goto (tgt := 6) hx₀ hb dX12_farthestNow_84_a.1 (by decide) ?_
          exact ihz1 _ (lf_g_farthestNow_3 fn fz1 jz1 hh7 hiz1_0 hjz1 c_2) fz1 ((2 * (g_4 1)) + 1) (fz1 + 1) (g_4 0) (g_4 1) (g_4 2) (g_4 3) (g_4 4) (ga_5 0) (ga_5 1) (ga_5 2) (ga_5 3) _ _ _ (lf_g_farthestNow_2 fn fz1 jz1 hh7 hiz1_0 hjz1 c_2) (kFq_y hiz1_1 c_2 (kMe_y (o := (fun x9 => kOR qMi qPs qGs mi pn gn le (kP0 qFt x9) (kP1 qFt x9) (kP2 qFt x9) (kP1 qPs (kP0 qFt x9)) (fun x8 => if x8 < (24 : Int32) then (kP3 qFt x9) else (0 : Int32))) fz1) (kO_done c_13).1 (kO_done c_13).2 c_14) (Or.inl c_17)) (c_9) (c_10) (c_11) (c_12) rfl (hP.sub [0, 1, 2, 3, 4, 5, 6, 7, 8] rfl) (hD.sub [0, 1, 2, 3, 4, 5, 6, 7, 8] (by decide +kernel) rfl) hS (lv_sub hl [0, 1, 2, 5] rfl)
        · refine lv_iload hx₀ hb dX12_farthestNow_24_a.2.2.2.2.2.2.2.2.2.2.2.2.1 (lv_at hl 0 rfl) ?_
          refine lv_iload_n hx₀ hb dX12_farthestNow_24_a.2.2.2.2.2.2.2.2.2.2.2.2.2.1 rfl (lv_at hl 2 rfl) ?_
          refine lv_icmp_le (tgt := 55) hx₀ hb dX12_farthestNow_24_a.2.2.2.2.2.2.2.2.2.2.2.2.2.2.1 (by decide) (fun c_18 => ?_) (fun c_18 => ?_)
          · refine lv_iconst (v := 0) hx₀ hb dX12_farthestNow_52_a.2.1 (by decide +kernel) ?_
            refine lv_istore (lv' := [(5, .int 0), (4, .int ((2 * (g_4 1)) + 1)), (3, .int fz1), (2, .int moz1), (1, .int bez1), (0, .ref hm)]) hx₀ hb dX12_farthestNow_52_a.2.2.1 hl (by decide) rfl (fun ls hl => ?_)
            refine lv_iload hx₀ hb dX12_farthestNow_52_a.2.2.2.1 (lv_at hl 0 rfl) ?_
            refine lv_if_eq (tgt := 67) hx₀ hb dX12_farthestNow_52_a.2.2.2.2.1 (by decide) (fun _ => ?_) (fun c9 => absurd (by decide +kernel) c9)
            refine lv_iload_n hx₀ hb dX12_farthestNow_52_a.2.2.2.2.2.2.2.1 rfl (lv_at hl 4 rfl) ?_
            refine lv_istore_n (lv' := [(1, .int bez1), (5, .int 0), (4, .int ((2 * (g_4 1)) + 1)), (3, .int fz1), (2, .int moz1), (0, .ref hm)]) hx₀ hb dX12_farthestNow_52_a.2.2.2.2.2.2.2.2.1 rfl hl (by decide) rfl (fun ls hl => ?_)
            refine lv_iload hx₀ hb dX12_farthestNow_52_a.2.2.2.2.2.2.2.2.2.1 (lv_at hl 1 rfl) ?_
            refine lv_if_eq (tgt := 79) hx₀ hb dX12_farthestNow_52_a.2.2.2.2.2.2.2.2.2.2.1 (by decide) (fun _ => ?_) (fun c9 => absurd (by decide +kernel) c9)
            refine lv_iload_n hx₀ hb dX12_farthestNow_52_a.2.2.2.2.2.2.2.2.2.2.2.2.2.1 rfl (lv_at hl 4 rfl) ?_
            refine lv_istore_n (lv' := [(2, .int moz1), (1, .int bez1), (5, .int 0), (4, .int ((2 * (g_4 1)) + 1)), (3, .int fz1), (0, .ref hm)]) hx₀ hb dX12_farthestNow_52_a.2.2.2.2.2.2.2.2.2.2.2.2.2.2.1 rfl hl (by decide) rfl (fun ls hl => ?_)
            refine lv_iinc (v := fz1 + 1) (lv' := [(3, .int (fz1 + 1)), (2, .int moz1), (1, .int bez1), (5, .int 0), (4, .int ((2 * (g_4 1)) + 1)), (0, .ref hm)]) hx₀ hb dX12_farthestNow_52_a.2.2.2.2.2.2.2.2.2.2.2.2.2.2.2 hl (k := 4) rfl rfl (by decide) rfl (fun ls hl => ?_)
            refine lv_goto (tgt := 6) hx₀ hb dX12_farthestNow_84_a.1 (by decide) ?_
            exact ihz1 _ (lf_g_farthestNow_3 fn fz1 jz1 hh7 hiz1_0 hjz1 c_2) bez1 moz1 (fz1 + 1) (g_4 0) (g_4 1) (g_4 2) (g_4 3) (g_4 4) (ga_5 0) (ga_5 1) (ga_5 2) (ga_5 3) _ _ _ (lf_g_farthestNow_2 fn fz1 jz1 hh7 hiz1_0 hjz1 c_2) (kFq_n hiz1_1 c_2 (kMe_y (o := (fun x9 => kOR qMi qPs qGs mi pn gn le (kP0 qFt x9) (kP1 qFt x9) (kP2 qFt x9) (kP1 qPs (kP0 qFt x9)) (fun x8 => if x8 < (24 : Int32) then (kP3 qFt x9) else (0 : Int32))) fz1) (kO_done c_13).1 (kO_done c_13).2 c_14) c_17 (Int32.not_lt.mpr c_18)) (c_9) (c_10) (c_11) (c_12) rfl (hP.sub [0, 1, 2, 3, 4, 5, 6, 7, 8] rfl) (hD.sub [0, 1, 2, 3, 4, 5, 6, 7, 8] (by decide +kernel) rfl) hS (lv_sub hl [0, 1, 2, 5] rfl)
          · refine lv_iconst (v := 1) hx₀ hb dX12_farthestNow_24_a.2.2.2.2.2.2.2.2.2.2.2.2.2.2.2 (by decide +kernel) ?_
            refine lv_goto (tgt := 56) hx₀ hb dX12_farthestNow_52_a.1 (by decide) ?_
            refine lv_istore (lv' := [(5, .int 1), (4, .int ((2 * (g_4 1)) + 1)), (3, .int fz1), (2, .int moz1), (1, .int bez1), (0, .ref hm)]) hx₀ hb dX12_farthestNow_52_a.2.2.1 hl (by decide) rfl (fun ls hl => ?_)
            refine lv_iload hx₀ hb dX12_farthestNow_52_a.2.2.2.1 (lv_at hl 0 rfl) ?_
            refine lv_if_eq (tgt := 67) hx₀ hb dX12_farthestNow_52_a.2.2.2.2.1 (by decide) (fun c9 => absurd c9 (by decide +kernel)) (fun _ => ?_)
            refine lv_iload_n hx₀ hb dX12_farthestNow_52_a.2.2.2.2.2.1 rfl (lv_at hl 2 rfl) ?_
            refine lv_goto (tgt := 68) hx₀ hb dX12_farthestNow_52_a.2.2.2.2.2.2.1 (by decide) ?_
            refine lv_istore_n (lv' := [(1, .int fz1), (5, .int 1), (4, .int ((2 * (g_4 1)) + 1)), (3, .int fz1), (2, .int moz1), (0, .ref hm)]) hx₀ hb dX12_farthestNow_52_a.2.2.2.2.2.2.2.2.1 rfl hl (by decide) rfl (fun ls hl => ?_)
            refine lv_iload hx₀ hb dX12_farthestNow_52_a.2.2.2.2.2.2.2.2.2.1 (lv_at hl 1 rfl) ?_
            refine lv_if_eq (tgt := 79) hx₀ hb dX12_farthestNow_52_a.2.2.2.2.2.2.2.2.2.2.1 (by decide) (fun c9 => absurd c9 (by decide +kernel)) (fun _ => ?_)
            refine lv_iload hx₀ hb dX12_farthestNow_52_a.2.2.2.2.2.2.2.2.2.2.2.1 (lv_at hl 2 rfl) ?_
            refine lv_goto (tgt := 80) hx₀ hb dX12_farthestNow_52_a.2.2.2.2.2.2.2.2.2.2.2.2.1 (by decide) ?_
            refine lv_istore_n (lv' := [(2, .int ((2 * (g_4 1)) + 1)), (1, .int fz1), (5, .int 1), (4, .int ((2 * (g_4 1)) + 1)), (3, .int fz1), (0, .ref hm)]) hx₀ hb dX12_farthestNow_52_a.2.2.2.2.2.2.2.2.2.2.2.2.2.2.1 rfl hl (by decide) rfl (fun ls hl => ?_)
            refine lv_iinc (v := fz1 + 1) (lv' := [(3, .int (fz1 + 1)), (2, .int ((2 * (g_4 1)) + 1)), (1, .int fz1), (5, .int 1), (4, .int ((2 * (g_4 1)) + 1)), (0, .ref hm)]) hx₀ hb dX12_farthestNow_52_a.2.2.2.2.2.2.2.2.2.2.2.2.2.2.2 hl (k := 4) rfl rfl (by decide) rfl (fun ls hl => ?_)
            refine lv_goto (tgt := 6) hx₀ hb dX12_farthestNow_84_a.1 (by decide) ?_
            exact ihz1 _ (lf_g_farthestNow_3 fn fz1 jz1 hh7 hiz1_0 hjz1 c_2) fz1 ((2 * (g_4 1)) + 1) (fz1 + 1) (g_4 0) (g_4 1) (g_4 2) (g_4 3) (g_4 4) (ga_5 0) (ga_5 1) (ga_5 2) (ga_5 3) _ _ _ (lf_g_farthestNow_2 fn fz1 jz1 hh7 hiz1_0 hjz1 c_2) (kFq_y hiz1_1 c_2 (kMe_y (o := (fun x9 => kOR qMi qPs qGs mi pn gn le (kP0 qFt x9) (kP1 qFt x9) (kP2 qFt x9) (kP1 qPs (kP0 qFt x9)) (fun x8 => if x8 < (24 : Int32) then (kP3 qFt x9) else (0 : Int32))) fz1) (kO_done c_13).1 (kO_done c_13).2 c_14) (Or.inr (Int32.not_le.mp c_18))) (c_9) (c_10) (c_11) (c_12) rfl (hP.sub [0, 1, 2, 3, 4, 5, 6, 7, 8] rfl) (hD.sub [0, 1, 2, 3, 4, 5, 6, 7, 8] (by decide +kernel) rfl) hS (lv_sub hl [0, 1, 2, 5] rfl)
set_option maxHeartbeats 4000000 in
set_option maxRecDepth 100000 in
theorem m_farthest (l : Launch) (dC : Nat → ClassId) (dI : Nat → Nat → Nat) (cI cJ cQ : ClassId) (sz : Nat) (hm : Nat) (vFo : Nat) (vSi : Nat) (vIt : Nat) (vMo : Nat) (la : Int32) (vBy : Nat) (vTy : Nat) (mi : Int32) (vMi : Nat) (pn : Int32) (vPs : Nat) (gn : Int32) (vGs : Nat) (fn : Int32) (vFt : Nat) (le : Int32) (vTo : Nat) (kn : Int32) (fe : Int32) (en : Int32) (ca : Int32) (an : Int32) (co : Int32) (vPr : Nat) (vSt : Nat) (vFn : Nat) (sn : Int32) (vSg : Nat) (vAl : Nat) (dr : Int32) (qTy : Nat → Int32) (qBy : Nat → Int32) (qMi : Nat → Int32) (qPs : Nat → Int32) (qGs : Nat → Int32) (qTo : Nat → Int32) (qPr : Nat → Int32) (qSt : Nat → Int32) (qFn : Nat → Int32) (qFt : Nat → Int32) (hh0 : 0 ≤ (qTy 0).toInt ∧ (qTy 0).toInt ≤ 24) (hh1 : 0 ≤ (qTy 1).toInt ∧ (qTy 1).toInt ≤ 39) (hh2 : 0 ≤ (qTy 2).toInt ∧ (qTy 2).toInt ≤ 23) (hh3 : k_bd 2 0 7 qPr) (hh4 : 0 ≤ fe ∧ fe ≤ 24) (hh5 : en = 0 ∨ kn = 0 ∨ fe ≤ 23) (hh6 : 0 ≤ kn ∧ kn ≤ 24) (hh7 : 0 ≤ fn ∧ fn ≤ 8) (hh8 : ca = 16777215) (hh9 : k_bd 32 0 9 qFt) : Met l yX12_farthest (kW yX12_farthest cX12_farthest 1 (some .int)) { frames := 5, cells := 0, slots := 0, locals := 124 } (kPre dC dI cI cJ cQ sz [.ref hm] [(kX12 hm vFo vSi vIt vMo la vBy vTy mi vMi pn vPs gn vGs fn vFt le vTo kn fe en ca an co vPr vSt vFn sn vSg vAl dr), (kAI vTy cI 3 qTy), (kAI vBy cI 120 qBy), (kAI vMi cI 24 qMi), (kAI vPs cI 32 qPs), (kAI vGs cI 16 qGs), (kAI vTo cI 96 qTo), (kAI vPr cI 2 qPr), (kAI vSt cI 2 qSt), (kAI vFn cI 2 qFn), (kAI vFt cI 32 qFt)]) (va_Qi (fun (r : Int32) (u : kS) => (r = (kFq (fun x9 => kOR (u.2.1 0) (u.2.1 1) (u.2.1 2) (u.1 0) (u.1 1) (u.1 2) le (kP0 qFt x9) (kP1 qFt x9) (kP2 qFt x9) (kP1 (u.2.1 1) (kP0 qFt x9)) (fun x8 => if x8 < (24 : Int32) then (kP3 qFt x9) else (0 : Int32))) (kfu fn 0) 0 (-1) 0)) ∧ (0 ≤ (u.1 0) ∧ (u.1 0) ≤ 24) ∧ (0 ≤ (u.1 1) ∧ (u.1 1) ≤ 8) ∧ (0 ≤ (u.1 2) ∧ (u.1 2) ≤ 8) ∧ (k_bd 2 0 7 (u.2.1 4)) ∧ (0 ≤ (u.1 4) ∧ (u.1 4) ≤ 24) ∧ ((u.1 5) = 0 ∨ (u.1 3) = 0 ∨ (u.1 4) ≤ 23) ∧ (0 ≤ (u.1 3) ∧ (u.1 3) ≤ 24) ∧ (k_tm (u.1 1) (u.2.1 1)) ∧ ((u.1 0) = kNm (qTy 0) (qTy 0) (kv4 qBy)) ∧ ((u.1 1) = kNm (kTh7 (qTy 1)) (qTy 1) (kv7 qBy)) ∧ ((u.1 2) = kNm (kTh2 (qTy 2)) (qTy 2) (kv2 qBy)) ∧ (k_ml (u.1 0) (u.2.1 0) (kv4 qBy)) ∧ (k_mq 5 4 (u.1 1) (qTy 1) (u.2.1 1) (kv7 qBy)) ∧ (k_mq 3 2 (u.1 2) (qTy 2) (u.2.1 2) (kv2 qBy))) (fun (u : kS) t₀ => kB dC dI cI cJ cQ (va_A [(kX12 hm vFo vSi vIt vMo la vBy vTy mi vMi pn vPs gn vGs fn vFt le vTo kn fe en ca an co vPr vSt vFn sn vSg vAl dr), (kAI vTy cI 3 qTy), (kAI vBy cI 120 qBy), (kAI vMi cI 24 qMi), (kAI vPs cI 32 qPs), (kAI vGs cI 16 qGs), (kAI vTo cI 96 qTo), (kAI vPr cI 2 qPr), (kAI vSt cI 2 qSt), (kAI vFn cI 2 qFn), (kAI vFt cI 32 qFt)] sz) [(kX12 hm vFo vSi vIt vMo la vBy vTy (u.1 0) vMi (u.1 1) vPs (u.1 2) vGs fn vFt le vTo (u.1 3) (u.1 4) (u.1 5) ca (u.1 6) (u.1 7) vPr vSt vFn sn vSg vAl dr), (kAI vTy cI 3 qTy), (kAI vBy cI 120 qBy), (kAI vMi cI 24 (u.2.1 0)), (kAI vPs cI 32 (u.2.1 1)), (kAI vGs cI 16 (u.2.1 2)), (kAI vTo cI 96 (u.2.1 3)), (kAI vPr cI 2 (u.2.1 4)), (kAI vSt cI 2 (u.2.1 5)), (kAI vFn cI 2 (u.2.1 6)), (kAI vFt cI 32 qFt)] t₀) (va_A [(kX12 hm vFo vSi vIt vMo la vBy vTy mi vMi pn vPs gn vGs fn vFt le vTo kn fe en ca an co vPr vSt vFn sn vSg vAl dr), (kAI vTy cI 3 qTy), (kAI vBy cI 120 qBy), (kAI vMi cI 24 qMi), (kAI vPs cI 32 qPs), (kAI vGs cI 16 qGs), (kAI vTo cI 96 qTo), (kAI vPr cI 2 qPr), (kAI vSt cI 2 qSt), (kAI vFn cI 2 qFn), (kAI vFt cI 32 qFt)] sz)) 0 0 (va_A [(kX12 hm vFo vSi vIt vMo la vBy vTy mi vMi pn vPs gn vGs fn vFt le vTo kn fe en ca an co vPr vSt vFn sn vSg vAl dr), (kAI vTy cI 3 qTy), (kAI vBy cI 120 qBy), (kAI vMi cI 24 qMi), (kAI vPs cI 32 qPs), (kAI vGs cI 16 qGs), (kAI vTo cI 96 qTo), (kAI vPr cI 2 qPr), (kAI vSt cI 2 qSt), (kAI vFn cI 2 qFn), (kAI vFt cI 32 qFt)] sz) := by
  refine Met.ofW (cc := cX12_farthest) (maxL := 1) (ret := (some .int)) (by decide) rfl ?_
  intro p₀ e₀ s₀ m₀ args below meth c₀ s₁ B hml hv₀
  obtain ⟨rfl, hsz, hP, hK, hD0, hN⟩ := hv₀
  have hx₀ := B.exec
  have hb := B.bytes
  have hr := B.returns
  have hts := atoms_spec (ws := (kW yX12_farthest cX12_farthest 1 (some .int))) B.pre
  have hts := fun w h => hts w (List.mem_cons_of_mem _ h)
  have hown : s₀.vm.findClass RX12 = some m₀.cls := findClass_of_methodNamed B.named
  have hlocks := B.notSynchronized
  subst hsz
  have hD := hD0.self (sz := s₀.heap.size)
  generalize hAe : va_A [(kX12 hm vFo vSi vIt vMo la vBy vTy mi vMi pn vPs gn vGs fn vFt le vTo kn fe en ca an co vPr vSt vFn sn vSg vAl dr), (kAI vTy cI 3 qTy), (kAI vBy cI 120 qBy), (kAI vMi cI 24 qMi), (kAI vPs cI 32 qPs), (kAI vGs cI 16 qGs), (kAI vTo cI 96 qTo), (kAI vPr cI 2 qPr), (kAI vSt cI 2 qSt), (kAI vFn cI 2 qFn), (kAI vFt cI 32 qFt)] s₀.heap.size = A at hD ⊢
  have hA : ∀ q : Nat, s₀.heap.size ≤ q → A q := fun q h => by rw [← hAe]; exact Or.inr h
  have hS : va_S A s₀.heap s₀.heap [] := va_S.rf
  have hP : va_P (dC, dI) vwCl [(kX12 hm vFo vSi vIt vMo la vBy vTy mi vMi pn vPs gn vGs fn vFt le vTo kn fe en ca an co vPr vSt vFn sn vSg vAl dr), (kAI vTy cI 3 qTy), (kAI vBy cI 120 qBy), (kAI vMi cI 24 qMi), (kAI vPs cI 32 qPs), (kAI vGs cI 16 qGs), (kAI vTo cI 96 qTo), (kAI vPr cI 2 qPr), (kAI vSt cI 2 qSt), (kAI vFn cI 2 qFn), (kAI vFt cI 32 qFt)] s₀.heap := hP
  have hl := lv_entry ([.ref hm]) (n := 1) (Nat.le_of_ble_eq_true rfl)
  rw [lg_entry_eq]
  generalize (lg_sl ([.ref hm]) ++ List.replicate (1 - (lg_sl ([.ref hm])).length) Slot.unset).toArray = ls at hl ⊢
  have hl : lv_has ls 1 [(0, .ref hm)] := hl
  obtain ⟨H, hH⟩ : ∃ z : Heap, z = s₀.heap := ⟨_, rfl⟩
  rw [← hH] at hP
  have hS : va_S A s₀.heap H [] := by rw [hH]; exact hS
  refine k_heap hH ?_
  have hD : va_D A [(kX12 hm vFo vSi vIt vMo la vBy vTy mi vMi pn vPs gn vGs fn vFt le vTo kn fe en ca an co vPr vSt vFn sn vSg vAl dr), (kAI vTy cI 3 qTy), (kAI vBy cI 120 qBy), (kAI vMi cI 24 qMi), (kAI vPs cI 32 qPs), (kAI vGs cI 16 qGs), (kAI vTo cI 96 qTo), (kAI vPr cI 2 qPr), (kAI vSt cI 2 qSt), (kAI vFn cI 2 qFn), (kAI vFt cI 32 qFt)] := hD
  obtain ⟨locs, hlo⟩ : ∃ z : List Loc, z = [] := ⟨_, rfl⟩
  rw [← hlo] at hS ⊢
  clear hlo hH hAe hD0
  refine lv_aload_n hx₀ hb dX12_farthest_0_a.1 rfl (lv_at hl 0 rfl) ?_
  obtain ⟨hPc, hDc, hFc, hC⟩ := k_cw (wc := [(kX12 hm vFo vSi vIt vMo la vBy vTy mi vMi pn vPs gn vGs fn vFt le vTo kn fe en ca an co vPr vSt vFn sn vSg vAl dr), (kAI vTy cI 3 qTy), (kAI vBy cI 120 qBy), (kAI vMi cI 24 qMi), (kAI vPs cI 32 qPs), (kAI vGs cI 16 qGs)]) hP hD hS hA [0, 1, 2, 3, 4, 5] (by decide +kernel) rfl
  refine va_callv (va_runV (As := []) (rest := []) ⟨hx₀, hb, hml, hown, hts⟩ (g_reads l dC dI cI cJ cQ H.size hm vFo vSi vIt vMo la vBy vTy mi vMi pn vPs gn vGs fn vFt le vTo kn fe en ca an co vPr vSt vFn sn vSg vAl dr qTy qBy qMi qPs qGs (hh0) (hh1) (hh2)) (cwV 0 hts (kGV wd_298 wd_295 wd_296 wd_297 wd_5) rfl rfl rfl (by decide +kernel) ⟨Nat.le_of_ble_eq_true rfl, Nat.le_of_ble_eq_true rfl⟩) (k_preV (ci := 11) (q0 := 0) hK hPc hDc hN rfl rfl) rfl rfl hl.1 rfl (lv_room (Nat.le_of_ble_eq_true rfl)) dX12_farthest_0_a.2.1 ⟨by decide +kernel, by decide +kernel⟩) hS (fun q _ h => hFc q h) hFc (fun u₀ t₀ H1 locs ht hvm hw hB hz1 hk1 hS => ?_)
  obtain ⟨g_2, ga_3, gl_4, gb_5, gp_6⟩ := u₀
  obtain ⟨hP1, hK1, hD1⟩ := hB
  rw [ht] at hP1
  have hJ := k_jn (wr := [(kAI vTo cI 96 qTo), (kAI vPr cI 2 qPr), (kAI vSt cI 2 qSt), (kAI vFn cI 2 qFn), (kAI vFt cI 32 qFt)]) (wt := [(kAI vTo cI 96 qTo), (kAI vPr cI 2 qPr), (kAI vSt cI 2 qSt), (kAI vFn cI 2 qFn), (kAI vFt cI 32 qFt), (kX12 hm vFo vSi vIt vMo la vBy vTy (g_2 0) vMi (g_2 1) vPs (g_2 2) vGs fn vFt le vTo kn fe en ca an co vPr vSt vFn sn vSg vAl dr), (kAI vTy cI 3 qTy), (kAI vBy cI 120 qBy), (kAI vMi cI 24 (ga_3 0)), (kAI vPs cI 32 (ga_3 1)), (kAI vGs cI 16 (ga_3 2))]) hP hD hC [6, 7, 8, 9, 10] rfl (by decide +kernel) (by decide +kernel) hk1 hFc hP1 hD1 rfl
  clear hP hD hPc hDc hFc hC hP1 hD1 hK1 hz1 hk1 hvm ht
  obtain ⟨hP, hD⟩ := hJ
  generalize H1 = H at hP hS ⊢
  try dsimp only at hw
  obtain ⟨c_7, c_8, c_9, c_10, c_11, c_12, c_13, c_14, c_15, c_16⟩ := hw
  refine lv_aload_n hx₀ hb dX12_farthest_0_a.2.2.1 rfl (lv_at hl 0 rfl) ?_
  obtain ⟨hPc, hDc, hFc, hC⟩ := k_cw (wc := [(kX12 hm vFo vSi vIt vMo la vBy vTy (g_2 0) vMi (g_2 1) vPs (g_2 2) vGs fn vFt le vTo kn fe en ca an co vPr vSt vFn sn vSg vAl dr), (kAI vMi cI 24 (ga_3 0)), (kAI vPs cI 32 (ga_3 1)), (kAI vGs cI 16 (ga_3 2)), (kAI vTo cI 96 qTo), (kAI vPr cI 2 qPr), (kAI vSt cI 2 qSt), (kAI vFn cI 2 qFn), (kAI vFt cI 32 qFt)]) hP hD hS hA [5, 8, 9, 10, 0, 1, 2, 3, 4] (by decide +kernel) rfl
  refine va_calli (va_runV (As := []) (rest := []) ⟨hx₀, hb, hml, hown, hts⟩ (e_farthestNow l dC dI cI cJ cQ H.size hm vFo vSi vIt vMo la vBy vTy (g_2 0) vMi (g_2 1) vPs (g_2 2) vGs fn vFt le vTo kn fe en ca an co vPr vSt vFn sn vSg vAl dr (ga_3 0) (ga_3 1) (ga_3 2) qTo qPr qSt qFn qFt (c_7) (c_8) (c_9) (hh3) (hh4) (hh5) (hh6) (hh7) (c_10) (hh8) (hh9)) (cwV 0 hts (kGV wd_610 wd_607 wd_608 wd_609 wd_5) rfl rfl rfl (by decide +kernel) ⟨Nat.le_of_ble_eq_true rfl, Nat.le_of_ble_eq_true rfl⟩) (k_preV (ci := 11) (q0 := 0) hK hPc hDc hN rfl rfl) rfl rfl hl.1 rfl (lv_room (Nat.le_of_ble_eq_true rfl)) dX12_farthest_0_a.2.2.2.1 ⟨by decide +kernel, by decide +kernel⟩) hS (fun q _ h => hFc q h) hFc (fun r_17 u₀ t₀ H1 locs ht hvm hw hB hz1 hk1 hS => ?_)
  obtain ⟨g_18, ga_19, gl_20, gb_21, gp_22⟩ := u₀
  obtain ⟨hP1, hK1, hD1⟩ := hB
  rw [ht] at hP1
  have hJ := k_jn (wr := [(kAI vTy cI 3 qTy), (kAI vBy cI 120 qBy)]) (wt := [(kAI vTy cI 3 qTy), (kAI vBy cI 120 qBy), (kX12 hm vFo vSi vIt vMo la vBy vTy (g_2 0) vMi (g_2 1) vPs (g_2 2) vGs fn vFt le vTo (g_18 0) (g_18 1) (g_18 2) ca (g_18 3) (g_18 4) vPr vSt vFn sn vSg vAl dr), (kAI vMi cI 24 (ga_3 0)), (kAI vPs cI 32 (ga_3 1)), (kAI vGs cI 16 (ga_3 2)), (kAI vTo cI 96 (ga_19 0)), (kAI vPr cI 2 (ga_19 1)), (kAI vSt cI 2 (ga_19 2)), (kAI vFn cI 2 (ga_19 3)), (kAI vFt cI 32 qFt)]) hP hD hC [6, 7] rfl (by decide +kernel) (by decide +kernel) hk1 hFc hP1 hD1 rfl
  clear hP hD hPc hDc hFc hC hP1 hD1 hK1 hz1 hk1 hvm ht
  obtain ⟨hP, hD⟩ := hJ
  generalize H1 = H at hP hS ⊢
  try dsimp only at hw
  obtain ⟨c_23, c_24, c_25, c_26, c_27⟩ := hw
  obtain ⟨hP9, hD9⟩ := k_c2 (wc := [(kX12 hm vFo vSi vIt vMo la vBy vTy (g_2 0) vMi (g_2 1) vPs (g_2 2) vGs fn vFt le vTo (g_18 0) (g_18 1) (g_18 2) ca (g_18 3) (g_18 4) vPr vSt vFn sn vSg vAl dr), (kAI vTy cI 3 qTy), (kAI vBy cI 120 qBy), (kAI vMi cI 24 (ga_3 0)), (kAI vPs cI 32 (ga_3 1)), (kAI vGs cI 16 (ga_3 2)), (kAI vTo cI 96 (ga_19 0)), (kAI vPr cI 2 (ga_19 1)), (kAI vSt cI 2 (ga_19 2)), (kAI vFn cI 2 (ga_19 3)), (kAI vFt cI 32 qFt)]) hP hD [2, 0, 1, 3, 4, 5, 6, 7, 8, 9, 10] (by decide +kernel) rfl
  exact W.iret (v := r_17) hx₀ hb hr (fun t₀ ht hW => ⟨⟨r_17, (k_fn [(g_2 0), (g_2 1), (g_2 2), (g_18 0), (g_18 1), (g_18 2), (g_18 3), (g_18 4)], k_fa [(ga_3 0), (ga_3 1), (ga_3 2), ga_19 0, ga_19 1, ga_19 2, ga_19 3], k_fl [], k_fL [], k_fp []), rfl, ⟨c_23, c_7, c_8, c_9, c_24, c_25, c_26, c_27, c_10, c_11, c_12, c_13, c_14, c_15, c_16⟩, by rw [ht]; exact hP9, va_K.moved hW.alike hK, hD9⟩, hS.F ht⟩) hS.2.2 dX12_farthest_0_a.2.2.2.2
