theorem lf_e_goOn16_1 (a0 : Int32) (a1 : Int32) (h0 : a0 ≤ a1) : a0 ≤ a0 ∧ a0 ≤ a1 := by
  first | rfl | assumption | decide | exact Or.inl rfl | (first | omega | (have hr0 := Int32.toInt_lt a0; have hs0 := Int32.le_toInt a0; have hr1 := Int32.toInt_lt a1; have hs1 := Int32.le_toInt a1; simp only [Int64.toInt_add, Int64.toInt_sub, Int32.toInt_add, Int32.toInt_sub, Int32.toInt_mul, Int64.le_iff_toInt_le, Int64.lt_iff_toInt_lt, Int32.le_iff_toInt_le, Int32.lt_iff_toInt_lt, ← Int32.toInt_inj, ← Int64.toInt_inj, Int32.toInt_toInt64] at *; (first | omega | ((try simp (disch := omega) only [k_bm64] at *); (try simp (disch := omega) only [k_bm] at *); (try simp (disch := omega) only [k_bm] at *); omega) | (simp only [Int.bmod] at *; omega))))
theorem lf_e_goOn16_2 (a0 : Int32) (a1 : Int32) (a2 : Int32) (a3 : Nat) (h0 : a0 ≤ a1) (h1 : a0 ≤ a2 ∧ a2 ≤ a1) (h2 : (a1.toInt - a2.toInt).toNat = a3) (h3 : a1 ≤ a2) : a0 ≤ (a1 : Int32) ∧ (a1 : Int32) ≤ a1 := by
  first | rfl | assumption | decide | exact Or.inl rfl | (first | omega | (have hr0 := Int32.toInt_lt a0; have hs0 := Int32.le_toInt a0; have hr1 := Int32.toInt_lt a1; have hs1 := Int32.le_toInt a1; have hr2 := Int32.toInt_lt a2; have hs2 := Int32.le_toInt a2; simp only [Int64.toInt_add, Int64.toInt_sub, Int32.toInt_add, Int32.toInt_sub, Int32.toInt_mul, Int64.le_iff_toInt_le, Int64.lt_iff_toInt_lt, Int32.le_iff_toInt_le, Int32.lt_iff_toInt_lt, ← Int32.toInt_inj, ← Int64.toInt_inj, Int32.toInt_toInt64] at *; (first | omega | ((try simp (disch := omega) only [k_bm64] at *); (try simp (disch := omega) only [k_bm] at *); (try simp (disch := omega) only [k_bm] at *); omega) | (simp only [Int.bmod] at *; omega))))
theorem lf_e_goOn16_3 (a0 : Int32) (a1 : Int32) (a2 : Int32) (a3 : Nat) (a4 : Int32) (h0 : a0 ≤ a1) (h1 : a0 ≤ a2 ∧ a2 ≤ a1) (h2 : (a1.toInt - a2.toInt).toNat = a3) (h3 : ¬ a1 ≤ a2) (h4 : a2 < a4) : a0 ≤ (a2 + 1) ∧ (a2 + 1) ≤ a1 := by
  first | rfl | assumption | decide | exact Or.inl rfl | (first | omega | (have hr0 := Int32.toInt_lt a0; have hs0 := Int32.le_toInt a0; have hr1 := Int32.toInt_lt a1; have hs1 := Int32.le_toInt a1; have hr2 := Int32.toInt_lt a2; have hs2 := Int32.le_toInt a2; have hr3 := Int32.toInt_lt a4; have hs3 := Int32.le_toInt a4; simp only [Int64.toInt_add, Int64.toInt_sub, Int32.toInt_add, Int32.toInt_sub, Int32.toInt_mul, Int64.le_iff_toInt_le, Int64.lt_iff_toInt_lt, Int32.le_iff_toInt_le, Int32.lt_iff_toInt_lt, ← Int32.toInt_inj, ← Int64.toInt_inj, Int32.toInt_toInt64, kc_1] at *; (first | omega | ((try simp (disch := omega) only [k_bm64] at *); (try simp (disch := omega) only [k_bm] at *); (try simp (disch := omega) only [k_bm] at *); omega) | (simp only [Int.bmod] at *; omega))))
theorem lf_e_goOn16_4 (a0 : Int32) (a1 : Int32) (a2 : Int32) (a3 : Nat) (a4 : Int32) (h0 : a0 ≤ a1) (h1 : a0 ≤ a2 ∧ a2 ≤ a1) (h2 : (a1.toInt - a2.toInt).toNat = a3) (h3 : ¬ a1 ≤ a2) (h4 : a2 < a4) : (a1.toInt - (a2 + 1).toInt).toNat < a3 := by
  first | rfl | assumption | decide | exact Or.inl rfl | (first | omega | (have hr0 := Int32.toInt_lt a0; have hs0 := Int32.le_toInt a0; have hr1 := Int32.toInt_lt a1; have hs1 := Int32.le_toInt a1; have hr2 := Int32.toInt_lt a2; have hs2 := Int32.le_toInt a2; have hr3 := Int32.toInt_lt a4; have hs3 := Int32.le_toInt a4; simp only [Int64.toInt_add, Int64.toInt_sub, Int32.toInt_add, Int32.toInt_sub, Int32.toInt_mul, Int64.le_iff_toInt_le, Int64.lt_iff_toInt_lt, Int32.le_iff_toInt_le, Int32.lt_iff_toInt_lt, ← Int32.toInt_inj, ← Int64.toInt_inj, Int32.toInt_toInt64, kc_1] at *; (first | omega | ((try simp (disch := omega) only [k_bm64] at *); (try simp (disch := omega) only [k_bm] at *); (try simp (disch := omega) only [k_bm] at *); omega) | (simp only [Int.bmod] at *; omega))))
set_option maxHeartbeats 4000000 in
set_option maxRecDepth 100000 in
theorem e_goOn16 (l : Launch) (dC : Nat → ClassId) (dI : Nat → Nat → Nat) (cI cJ cQ : ClassId) (sz : Nat) (aTr : Nat) (fr : Int32) (to : Int32) (h1 : Int32) (aLa : Nat) (aPa : Nat) (aGe : Nat) (gL : Nat) (gR : Nat) (lf : Nat) (rt : Nat) (tgo : Int32) (tca : Int32) (tki : Int32) (tso : Int32) (tbe : Int32) (twe : Int32) (tle : Int32) (tan : Int32) (tco : Int32) (ten : Int32) (vLa : Nat) (l4 : Int32) (a4 : Int32) (n4 : Int32) (f4 : Nat → Int32) (hh0 : fr ≤ to) : Met l yX10_goOn (kW yX10_goOn cX10_goOn 7 (some .int)) { frames := 1, cells := 0, slots := 0, locals := 23 } (kPre dC dI cI cJ cQ sz [.ref aTr, .int fr, .int to, .int h1] [(kX10 aTr aLa aPa aGe gL gR lf rt tgo tca tki tso tbe twe tle tan tco ten), (kX4 aLa vLa l4 a4 n4), (kAI vLa cI 24 f4)]) (va_Qi (fun (r : Int32) (u : kS) => (r = ((kGo (kAt 24 f4) tca tle tki tso tbe (fun _ => h1)) (kfu to fr) fr tan tco ten).1) ∧ ((u.1 0) = ((kGo (kAt 24 f4) tca tle tki tso tbe (fun _ => h1)) (kfu to fr) fr tan tco ten).2.1) ∧ ((u.1 1) = ((kGo (kAt 24 f4) tca tle tki tso tbe (fun _ => h1)) (kfu to fr) fr tan tco ten).2.2.1) ∧ ((u.1 2) = ((kGo (kAt 24 f4) tca tle tki tso tbe (fun _ => h1)) (kfu to fr) fr tan tco ten).2.2.2) ∧ (fr ≤ r ∧ r ≤ to)) (fun (u : kS) t₀ => kB dC dI cI cJ cQ (va_A [(kX10 aTr aLa aPa aGe gL gR lf rt tgo tca tki tso tbe twe tle tan tco ten), (kX4 aLa vLa l4 a4 n4), (kAI vLa cI 24 f4)] sz) [(kX10 aTr aLa aPa aGe gL gR lf rt tgo tca tki tso tbe twe tle (u.1 0) (u.1 1) (u.1 2)), (kX4 aLa vLa l4 a4 n4), (kAI vLa cI 24 f4)] t₀) (va_A [(kX10 aTr aLa aPa aGe gL gR lf rt tgo tca tki tso tbe twe tle tan tco ten), (kX4 aLa vLa l4 a4 n4), (kAI vLa cI 24 f4)] sz)) 0 0 (va_A [(kX10 aTr aLa aPa aGe gL gR lf rt tgo tca tki tso tbe twe tle tan tco ten), (kX4 aLa vLa l4 a4 n4), (kAI vLa cI 24 f4)] sz) := by
  refine Met.ofW (cc := cX10_goOn) (maxL := 7) (ret := (some .int)) (by decide) rfl ?_
  intro p₀ e₀ s₀ m₀ args below meth c₀ s₁ B hml hv₀
  obtain ⟨rfl, hsz, hP, hK, hD0, hN⟩ := hv₀
  have hx₀ := B.exec
  have hb := B.bytes
  have hr := B.returns
  have hts := atoms_spec (ws := (kW yX10_goOn cX10_goOn 7 (some .int))) B.pre
  have hts := fun w h => hts w (List.mem_cons_of_mem _ h)
  have hown : s₀.vm.findClass RX10 = some m₀.cls := findClass_of_methodNamed B.named
  have hlocks := B.notSynchronized
  subst hsz
  have hD := hD0.self (sz := s₀.heap.size)
  generalize hAe : va_A [(kX10 aTr aLa aPa aGe gL gR lf rt tgo tca tki tso tbe twe tle tan tco ten), (kX4 aLa vLa l4 a4 n4), (kAI vLa cI 24 f4)] s₀.heap.size = A at hD ⊢
  have hA : ∀ q : Nat, s₀.heap.size ≤ q → A q := fun q h => by rw [← hAe]; exact Or.inr h
  have hS : va_S A s₀.heap s₀.heap [] := va_S.rf
  have hP : va_P (dC, dI) vwCl [(kX10 aTr aLa aPa aGe gL gR lf rt tgo tca tki tso tbe twe tle tan tco ten), (kX4 aLa vLa l4 a4 n4), (kAI vLa cI 24 f4)] s₀.heap := hP
  have hl := lv_entry ([.ref aTr, .int fr, .int to, .int h1]) (n := 7) (Nat.le_of_ble_eq_true rfl)
  rw [lg_entry_eq]
  generalize (lg_sl ([.ref aTr, .int fr, .int to, .int h1]) ++ List.replicate (7 - (lg_sl ([.ref aTr, .int fr, .int to, .int h1])).length) Slot.unset).toArray = ls at hl ⊢
  have hl : lv_has ls 7 [(0, .ref aTr), (1, .int fr), (2, .int to), (3, .int h1)] := hl
  obtain ⟨H, hH⟩ : ∃ z : Heap, z = s₀.heap := ⟨_, rfl⟩
  rw [← hH] at hP
  have hS : va_S A s₀.heap H [] := by rw [hH]; exact hS
  refine k_heap hH ?_
  have hD : va_D A [(kX10 aTr aLa aPa aGe gL gR lf rt tgo tca tki tso tbe twe tle tan tco ten), (kX4 aLa vLa l4 a4 n4), (kAI vLa cI 24 f4)] := hD
  obtain ⟨locs, hlo⟩ : ∃ z : List Loc, z = [] := ⟨_, rfl⟩
  rw [← hlo] at hS ⊢
  clear hlo hH hAe hD0
  refine lv_iconst (v := 0) hx₀ hb dX10_goOn_0 (by decide +kernel) ?_
  refine lv_iload_n hx₀ hb dX10_goOn_1 rfl (lv_at hl 3 rfl) ?_
  refine lv_iconst (v := 5) hx₀ hb dX10_goOn_2 (by decide +kernel) ?_
  refine lv_isub hx₀ hb dX10_goOn_3 ?_
  refine va_mmax hx₀ hb (by rw [hml]; exact hl.1.symm) hown (hts (.methodLink RX10 117 Lib.Math.max.name) wd_507) (hts (.static Lib.Math.max.name) wd_62) (hts (.initialized "java/lang/Math") wd_63) (hts (.code Lib.Math.max.name Lib.Math.max.code 2 (some .int)) wd_64) (by decide) (Nat.le_of_ble_eq_true rfl) (by decide) (by decide) dX10_goOn_4 ?_
  by_cases c_1 : (0 : Int32) < (h1 - 5)
  · refine k_topi (v := h1 - 5) (if_pos c_1) ?_
    refine lv_istore (lv' := [(4, .int (h1 - 5)), (0, .ref aTr), (1, .int fr), (2, .int to), (3, .int h1)]) hx₀ hb dX10_goOn_7 hl (by decide) rfl (fun ls hl => ?_)
    refine lv_iload_n hx₀ hb dX10_goOn_9 rfl (lv_at hl 2 rfl) ?_
    refine lv_istore (lv' := [(5, .int fr), (4, .int (h1 - 5)), (0, .ref aTr), (1, .int fr), (2, .int to), (3, .int h1)]) hx₀ hb dX10_goOn_10 hl (by decide) rfl (fun ls hl => ?_)
    refine (?keyz2 : ∀ (jz2 : Nat) (iz2 : Int32) (x1z2 : Int32) (x2z2 : Int32) (x3z2 : Int32) (H : Heap) (locs : List Loc) (ls : Array Slot), (fr ≤ iz2 ∧ iz2 ≤ to) → (k_go (kGo (kAt 24 f4) tca tle tki tso tbe (fun _ => h1)) to iz2 x1z2 x2z2 x3z2 ((kGo (kAt 24 f4) tca tle tki tso tbe (fun _ => h1)) (kfu to fr) fr tan tco ten)) → ((to.toInt - iz2.toInt).toNat = jz2) → va_P (dC, dI) vwCl [(kX10 aTr aLa aPa aGe gL gR lf rt tgo tca tki tso tbe twe tle x1z2 x2z2 x3z2), (kX4 aLa vLa l4 a4 n4), (kAI vLa cI 24 f4)] H → va_D A [(kX10 aTr aLa aPa aGe gL gR lf rt tgo tca tki tso tbe twe tle x1z2 x2z2 x3z2), (kX4 aLa vLa l4 a4 n4), (kAI vLa cI 24 f4)] → va_S A s₀.heap H locs → lv_has ls 7 [(5, .int iz2), (4, .int (h1 - 5)), (0, .ref aTr), (1, .int fr), (2, .int to), (3, .int h1)] → W p₀ l e₀ _ s₀ m₀ _ below meth c₀ H locs _ _ _ (F0 m₀ 12 ls [])) _ fr tan tco ten H locs ls (lf_e_goOn16_1 fr to hh0) (rfl) rfl hP hD hS hl
    clear hP hD hS hl
    intro jz2
    induction jz2 using Nat.strongRecOn with
    | ind jz2 ihz2 =>
      intro iz2 x1z2 x2z2 x3z2 H locs ls hiz2_0 hiz2_1 hjz2 hP hD hS hl
      refine lv_iload hx₀ hb dX10_goOn_12 (lv_at hl 0 rfl) ?_
      refine lv_iload_n hx₀ hb dX10_goOn_14 rfl (lv_at hl 4 rfl) ?_
      refine lv_icmp_ge (tgt := 139) hx₀ hb dX10_goOn_15 (by decide) (fun c_3 => ?_) (fun c_3 => ?_)
      · refine lv_iload_n hx₀ hb dX10_goOn_139 rfl (lv_at hl 4 rfl) ?_
        obtain ⟨hP9, hD9⟩ := k_c2 (wc := [(kX10 aTr aLa aPa aGe gL gR lf rt tgo tca tki tso tbe twe tle x1z2 x2z2 x3z2), (kX4 aLa vLa l4 a4 n4), (kAI vLa cI 24 f4)]) hP hD [0, 1, 2] (by decide +kernel) rfl
        exact W.iret (v := to) hx₀ hb hr (fun t₀ ht hW => ⟨⟨to, (k_fn [x1z2, x2z2, x3z2], k_fa [], k_fl [], k_fL [], k_fp []), rfl, ⟨((kGo_end hiz2_1 c_3 (hiz2_0.2)).1), ((kGo_end hiz2_1 c_3 (hiz2_0.2)).2.1), ((kGo_end hiz2_1 c_3 (hiz2_0.2)).2.2.1), ((kGo_end hiz2_1 c_3 (hiz2_0.2)).2.2.2), (lf_e_goOn16_2 fr to iz2 jz2 hh0 hiz2_0 hjz2 c_3)⟩, by rw [ht]; exact hP9, va_K.moved hW.alike hK, hD9⟩, hS.F ht⟩) hS.2.2 dX10_goOn_140
      · refine lv_iload hx₀ hb dX10_goOn_18 (lv_at hl 0 rfl) ?_
        refine lv_aload_n hx₀ hb dX10_goOn_20 rfl (lv_at hl 2 rfl) ?_
        refine va_get (D := (dC, dI)) (ci := 9) (v := .int tca) (C := RX10) (T := TX10) (N := 17) hx₀ hb hts inlX10 hown hK hP 0 rfl rfl 8 (by decide) (hts (.fieldLink RX10 52 "BittenStick$Trip" "carriedTo" "I") wd_454) (fun _ h9 => h9) rfl dX10_goOn_21 ?_
        refine lv_icmp_lt (tgt := 35) hx₀ hb dX10_goOn_24 (by decide) (fun c_4 => ?_) (fun c_4 => ?_)
        · refine lv_aload_n hx₀ hb dX10_goOn_35 rfl (lv_at hl 2 rfl) ?_
          refine lv_dup hx₀ hb dX10_goOn_36 rfl ?_
          refine va_get (D := (dC, dI)) (ci := 9) (v := .int x2z2) (C := RX10) (T := TX10) (N := 17) hx₀ hb hts inlX10 hown hK hP 0 rfl rfl 15 (by decide) (hts (.fieldLink RX10 106 "BittenStick$Trip" "cold" "I") wd_501) (fun _ h9 => h9) rfl dX10_goOn_37 ?_
          refine lv_iload hx₀ hb dX10_goOn_40 (lv_at hl 1 rfl) ?_
          refine lv_iadd hx₀ hb dX10_goOn_42 ?_
          refine va_put (D := (dC, dI)) (ci := 9) (v := .int (x2z2 + (h1 - 5))) (ty := .int) (C := RX10) (T := TX10) (N := 17) hx₀ hb hts inlX10 tyX10 tyX10_ok nmX10 hown hK hP hD hS 0 rfl rfl 15 (by decide) (hts (.fieldLink RX10 106 "BittenStick$Trip" "cold" "I") wd_501) (fun _ h9 => h9) rfl (by decide +kernel) rfl rfl (Nat.le_of_ble_eq_true rfl) dX10_goOn_43 ?_
          clear hP hD hS
          intro H locs hP hD hS
          replace hP := k_w2 (wt := [(kX10 aTr aLa aPa aGe gL gR lf rt tgo tca tki tso tbe twe tle x1z2 (x2z2 + (h1 - 5)) x3z2), (kX4 aLa vLa l4 a4 n4), (kAI vLa cI 24 f4)]) hP hD rfl
          replace hD := hP.2
          replace hP := hP.1
          refine lv_aload_n hx₀ hb dX10_goOn_46 rfl (lv_at hl 2 rfl) ?_
          refine va_get (D := (dC, dI)) (ci := 9) (v := .int (x2z2 + (h1 - 5))) (C := RX10) (T := TX10) (N := 17) hx₀ hb hts inlX10 hown hK hP 0 rfl rfl 15 (by decide) (hts (.fieldLink RX10 106 "BittenStick$Trip" "cold" "I") wd_501) (fun _ h9 => h9) rfl dX10_goOn_47 ?_
          refine lv_bipush (v := 20) hx₀ hb dX10_goOn_50 (by decide +kernel) ?_
          refine lv_icmp_le (tgt := 63) hx₀ hb dX10_goOn_52 (by decide) (fun c_5 => ?_) (fun c_5 => ?_)
          · refine lv_aload_n hx₀ hb dX10_goOn_63 rfl (lv_at hl 2 rfl) ?_
            refine va_get (D := (dC, dI)) (ci := 9) (v := .ref aLa) (C := RX10) (T := TX10) (N := 17) hx₀ hb hts inlX10 hown hK hP 0 rfl rfl 0 (by decide) (hts (.fieldLink RX10 27 "BittenStick$Trip" "land" "LBittenStick$Land;") wd_89) (fun _ h9 => h9) rfl dX10_goOn_64 ?_
            refine lv_iload hx₀ hb dX10_goOn_67 (lv_at hl 0 rfl) ?_
            obtain ⟨hPc, hDc, hFc, hC⟩ := k_cw (wc := [(kX4 aLa vLa l4 a4 n4), (kAI vLa cI 24 f4)]) hP hD hS hA [1, 2] (by decide +kernel) rfl
            refine va_calli (va_runU (As := [.int iz2]) (rest := []) ⟨hx₀, hb, hml, hown, hts⟩ (j_valueAt_X4 l dC dI cI cJ cQ H.size aLa iz2 vLa l4 a4 n4 f4) (va_cwU 1 hts (kGU wd_179 wd_478 wd_288 wd_289 wd_178 wd_57) rfl rfl rfl rfl (by decide +kernel) ⟨Nat.le_of_ble_eq_true rfl, Nat.le_of_ble_eq_true rfl⟩) (k_preV4 (q0 := 0) hK hPc hDc hN rfl) rfl rfl hl.1 rfl (lv_room (Nat.le_of_ble_eq_true rfl)) dX10_goOn_69 ⟨by decide +kernel, by decide +kernel⟩) hS (fun q _ h => hFc q h) hFc (fun r_6 u₀ t₀ H1 locs ht hvm hw hB hz1 hk1 hS => ?_)
            obtain ⟨hP1, hK1, hD1⟩ := hB
            rw [ht] at hP1
            have hJ := k_jn (wr := [(kX10 aTr aLa aPa aGe gL gR lf rt tgo tca tki tso tbe twe tle x1z2 (x2z2 + (h1 - 5)) x3z2)]) (wt := [(kX10 aTr aLa aPa aGe gL gR lf rt tgo tca tki tso tbe twe tle x1z2 (x2z2 + (h1 - 5)) x3z2), (kX4 aLa vLa l4 a4 n4), (kAI vLa cI 24 f4)]) hP hD hC [0] rfl (by decide +kernel) (by decide +kernel) hk1 hFc hP1 hD1 rfl
            clear hP hD hPc hDc hFc hC hP1 hD1 hK1 hz1 hk1 hvm ht
            obtain ⟨hP, hD⟩ := hJ
            generalize H1 = H at hP hS ⊢
            try dsimp only at hw
            refine k_topi (v := kAt 24 f4 iz2) hw ?_
            refine lv_istore (lv' := [(6, .int (kAt 24 f4 iz2)), (5, .int iz2), (4, .int (h1 - 5)), (0, .ref aTr), (1, .int fr), (2, .int to), (3, .int h1)]) hx₀ hb dX10_goOn_72 hl (by decide) rfl (fun ls hl => ?_)
            refine lv_iload hx₀ hb dX10_goOn_74 (lv_at hl 0 rfl) ?_
            refine lv_bipush (v := 6) hx₀ hb dX10_goOn_76 (by decide +kernel) ?_
            refine lv_icmp_ge (tgt := 116) hx₀ hb dX10_goOn_78 (by decide) (fun c_7 => ?_) (fun c_7 => ?_)
            · refine lv_iload hx₀ hb dX10_goOn_116 (lv_at hl 0 rfl) ?_
              refine lv_bipush (v := 7) hx₀ hb dX10_goOn_118 (by decide +kernel) ?_
              refine lv_icmp_ne (tgt := 133) hx₀ hb dX10_goOn_120 (by decide) (fun c_8 => ?_) (fun c_8 => ?_)
              · refine lv_iinc (v := iz2 + 1) (lv' := [(5, .int (iz2 + 1)), (6, .int (kAt 24 f4 iz2)), (4, .int (h1 - 5)), (0, .ref aTr), (1, .int fr), (2, .int to), (3, .int h1)]) hx₀ hb dX10_goOn_133 hl (k := 1) rfl rfl (by decide) rfl (fun ls hl => ?_)
                refine lv_goto (tgt := 12) hx₀ hb dX10_goOn_136 (by decide) ?_
                exact ihz2 _ (lf_e_goOn16_4 fr to iz2 jz2 tca hh0 hiz2_0 hjz2 c_3 c_4) (iz2 + 1) x1z2 (x2z2 + (h1 - 5)) x3z2 _ _ _ (lf_e_goOn16_3 fr to iz2 jz2 tca hh0 hiz2_0 hjz2 c_3 c_4) (kGo_o hiz2_1 c_3 (Int32.not_le.mpr c_4) (kCh_p c_1) (Int32.not_lt.mpr c_5) (Int32.not_lt.mpr c_7) c_8) rfl (hP.sub [0, 1, 2] rfl) (hD.sub [0, 1, 2] (by decide +kernel) rfl) hS (lv_sub hl [0, 2, 3, 4, 5, 6] rfl)
              · refine lv_aload_n hx₀ hb dX10_goOn_123 rfl (lv_at hl 3 rfl) ?_
                refine lv_iconst (v := 0) hx₀ hb dX10_goOn_124 (by decide +kernel) ?_
                refine va_put (D := (dC, dI)) (ci := 9) (v := .int 0) (ty := .int) (C := RX10) (T := TX10) (N := 17) hx₀ hb hts inlX10 tyX10 tyX10_ok nmX10 hown hK hP hD hS 0 rfl rfl 14 (by decide) (hts (.fieldLink RX10 103 "BittenStick$Trip" "anger" "I") wd_500) (fun _ h9 => h9) rfl (by decide +kernel) rfl rfl (Nat.le_of_ble_eq_true rfl) dX10_goOn_125 ?_
                clear hP hD hS
                intro H locs hP hD hS
                replace hP := k_w2 (wt := [(kX10 aTr aLa aPa aGe gL gR lf rt tgo tca tki tso tbe twe tle 0 (x2z2 + (h1 - 5)) x3z2), (kX4 aLa vLa l4 a4 n4), (kAI vLa cI 24 f4)]) hP hD rfl
                replace hD := hP.2
                replace hP := hP.1
                refine lv_aload_n hx₀ hb dX10_goOn_128 rfl (lv_at hl 3 rfl) ?_
                refine lv_iconst (v := 0) hx₀ hb dX10_goOn_129 (by decide +kernel) ?_
                refine va_put (D := (dC, dI)) (ci := 9) (v := .int 0) (ty := .int) (C := RX10) (T := TX10) (N := 17) hx₀ hb hts inlX10 tyX10 tyX10_ok nmX10 hown hK hP hD hS 0 rfl rfl 15 (by decide) (hts (.fieldLink RX10 106 "BittenStick$Trip" "cold" "I") wd_501) (fun _ h9 => h9) rfl (by decide +kernel) rfl rfl (Nat.le_of_ble_eq_true rfl) dX10_goOn_130 ?_
                clear hP hD hS
                intro H locs hP hD hS
                replace hP := k_w2 (wt := [(kX10 aTr aLa aPa aGe gL gR lf rt tgo tca tki tso tbe twe tle 0 0 x3z2), (kX4 aLa vLa l4 a4 n4), (kAI vLa cI 24 f4)]) hP hD rfl
                replace hD := hP.2
                replace hP := hP.1
                refine lv_iinc (v := iz2 + 1) (lv' := [(5, .int (iz2 + 1)), (6, .int (kAt 24 f4 iz2)), (4, .int (h1 - 5)), (0, .ref aTr), (1, .int fr), (2, .int to), (3, .int h1)]) hx₀ hb dX10_goOn_133 hl (k := 1) rfl rfl (by decide) rfl (fun ls hl => ?_)
                refine lv_goto (tgt := 12) hx₀ hb dX10_goOn_136 (by decide) ?_
                exact ihz2 _ (lf_e_goOn16_4 fr to iz2 jz2 tca hh0 hiz2_0 hjz2 c_3 c_4) (iz2 + 1) (0 : Int32) (0 : Int32) x3z2 _ _ _ (lf_e_goOn16_3 fr to iz2 jz2 tca hh0 hiz2_0 hjz2 c_3 c_4) (kGo_i hiz2_1 c_3 (Int32.not_le.mpr c_4) (kCh_p c_1) (Int32.not_lt.mpr c_5) (Int32.not_lt.mpr c_7) c_8) rfl (hP.sub [0, 1, 2] rfl) (hD.sub [0, 1, 2] (by decide +kernel) rfl) hS (lv_sub hl [0, 2, 3, 4, 5, 6] rfl)
            · refine lv_aload_n hx₀ hb dX10_goOn_81 rfl (lv_at hl 3 rfl) ?_
              refine lv_dup hx₀ hb dX10_goOn_82 rfl ?_
              refine va_get (D := (dC, dI)) (ci := 9) (v := .int x1z2) (C := RX10) (T := TX10) (N := 17) hx₀ hb hts inlX10 hown hK hP 0 rfl rfl 14 (by decide) (hts (.fieldLink RX10 103 "BittenStick$Trip" "anger" "I") wd_500) (fun _ h9 => h9) rfl dX10_goOn_83 ?_
              refine lv_aload_n hx₀ hb dX10_goOn_86 rfl (lv_at hl 3 rfl) ?_
              refine lv_iload hx₀ hb dX10_goOn_87 (lv_at hl 0 rfl) ?_
              refine lv_iload_n hx₀ hb dX10_goOn_89 rfl (lv_at hl 6 rfl) ?_
              obtain ⟨hPc, hDc, hFc, hC⟩ := k_cw (wc := [(kX10 aTr aLa aPa aGe gL gR lf rt tgo tca tki tso tbe twe tle x1z2 (x2z2 + (h1 - 5)) x3z2)]) hP hD hS hA [0] (by decide +kernel) rfl
              refine va_calli (va_runV (As := [.int (kAt 24 f4 iz2), .int h1]) (rest := [.int x1z2, .ref aTr]) ⟨hx₀, hb, hml, hown, hts⟩ (j_insult l dC dI cI cJ cQ H.size aTr (kAt 24 f4 iz2) h1 aLa aPa aGe gL gR lf rt tgo tca tki tso tbe twe tle x1z2 (x2z2 + (h1 - 5)) x3z2) (cwV 2 hts (kGV wd_511 wd_508 wd_509 wd_510 wd_30) rfl rfl rfl (by decide +kernel) ⟨Nat.le_of_ble_eq_true rfl, Nat.le_of_ble_eq_true rfl⟩) (k_preV9 (q0 := 0) hK hPc hDc hN rfl) rfl rfl hl.1 rfl (lv_room (Nat.le_of_ble_eq_true rfl)) dX10_goOn_90 ⟨by decide +kernel, by decide +kernel⟩) hS (fun q _ h => hFc q h) hFc (fun r_9 u₀ t₀ H1 locs ht hvm hw hB hz1 hk1 hS => ?_)
              obtain ⟨hP1, hK1, hD1⟩ := hB
              rw [ht] at hP1
              have hJ := k_jn (wr := [(kX4 aLa vLa l4 a4 n4), (kAI vLa cI 24 f4)]) (wt := [(kX4 aLa vLa l4 a4 n4), (kAI vLa cI 24 f4), (kX10 aTr aLa aPa aGe gL gR lf rt tgo tca tki tso tbe twe tle x1z2 (x2z2 + (h1 - 5)) x3z2)]) hP hD hC [1, 2] rfl (by decide +kernel) (by decide +kernel) hk1 hFc hP1 hD1 rfl
              clear hP hD hPc hDc hFc hC hP1 hD1 hK1 hz1 hk1 hvm ht
              obtain ⟨hP, hD⟩ := hJ
              generalize H1 = H at hP hS ⊢
              try dsimp only at hw
              refine k_topi (v := kIns ((tle >>> ((kAt 24 f4 iz2) &&& 31)) &&& 1) tki tso (kAt 24 f4 iz2) h1) hw ?_
              refine lv_iadd hx₀ hb dX10_goOn_93 ?_
              refine va_put (D := (dC, dI)) (ci := 9) (v := .int (x1z2 + (kIns ((tle >>> ((kAt 24 f4 iz2) &&& 31)) &&& 1) tki tso (kAt 24 f4 iz2) h1))) (ty := .int) (C := RX10) (T := TX10) (N := 17) hx₀ hb hts inlX10 tyX10 tyX10_ok nmX10 hown hK hP hD hS 2 rfl rfl 14 (by decide) (hts (.fieldLink RX10 103 "BittenStick$Trip" "anger" "I") wd_500) (fun _ h9 => h9) rfl (by decide +kernel) rfl rfl (Nat.le_of_ble_eq_true rfl) dX10_goOn_94 ?_
              clear hP hD hS
              intro H locs hP hD hS
              replace hP := k_w2 (wt := [(kX4 aLa vLa l4 a4 n4), (kAI vLa cI 24 f4), (kX10 aTr aLa aPa aGe gL gR lf rt tgo tca tki tso tbe twe tle (x1z2 + (kIns ((tle >>> ((kAt 24 f4 iz2) &&& 31)) &&& 1) tki tso (kAt 24 f4 iz2) h1)) (x2z2 + (h1 - 5)) x3z2)]) hP hD rfl
              replace hD := hP.2
              replace hP := hP.1
              refine lv_aload_n hx₀ hb dX10_goOn_97 rfl (lv_at hl 3 rfl) ?_
              refine va_get (D := (dC, dI)) (ci := 9) (v := .int (x1z2 + (kIns ((tle >>> ((kAt 24 f4 iz2) &&& 31)) &&& 1) tki tso (kAt 24 f4 iz2) h1))) (C := RX10) (T := TX10) (N := 17) hx₀ hb hts inlX10 hown hK hP 2 rfl rfl 14 (by decide) (hts (.fieldLink RX10 103 "BittenStick$Trip" "anger" "I") wd_500) (fun _ h9 => h9) rfl dX10_goOn_98 ?_
              refine lv_aload_n hx₀ hb dX10_goOn_101 rfl (lv_at hl 3 rfl) ?_
              refine va_get (D := (dC, dI)) (ci := 9) (v := .int tbe) (C := RX10) (T := TX10) (N := 17) hx₀ hb hts inlX10 hown hK hP 2 rfl rfl 11 (by decide) (hts (.fieldLink RX10 66 "BittenStick$Trip" "bears" "I") wd_457) (fun _ h9 => h9) rfl dX10_goOn_102 ?_
              refine lv_icmp_le (tgt := 133) hx₀ hb dX10_goOn_105 (by decide) (fun c_10 => ?_) (fun c_10 => ?_)
              · refine lv_iinc (v := iz2 + 1) (lv' := [(5, .int (iz2 + 1)), (6, .int (kAt 24 f4 iz2)), (4, .int (h1 - 5)), (0, .ref aTr), (1, .int fr), (2, .int to), (3, .int h1)]) hx₀ hb dX10_goOn_133 hl (k := 1) rfl rfl (by decide) rfl (fun ls hl => ?_)
                refine lv_goto (tgt := 12) hx₀ hb dX10_goOn_136 (by decide) ?_
                exact ihz2 _ (lf_e_goOn16_4 fr to iz2 jz2 tca hh0 hiz2_0 hjz2 c_3 c_4) (iz2 + 1) (x1z2 + (kIns ((tle >>> ((kAt 24 f4 iz2) &&& 31)) &&& 1) tki tso (kAt 24 f4 iz2) h1)) (x2z2 + (h1 - 5)) x3z2 _ _ _ (lf_e_goOn16_3 fr to iz2 jz2 tca hh0 hiz2_0 hjz2 c_3 c_4) (kGo_t hiz2_1 c_3 (Int32.not_le.mpr c_4) (kCh_p c_1) (Int32.not_lt.mpr c_5) (Int32.not_le.mp c_7) rfl (Int32.not_lt.mpr c_10)) rfl (hP.sub [2, 0, 1] rfl) (hD.sub [2, 0, 1] (by decide +kernel) rfl) hS (lv_sub hl [0, 2, 3, 4, 5, 6] rfl)
              · refine lv_aload_n hx₀ hb dX10_goOn_108 rfl (lv_at hl 3 rfl) ?_
                refine lv_iconst (v := 3) hx₀ hb dX10_goOn_109 (by decide +kernel) ?_
                refine va_put (D := (dC, dI)) (ci := 9) (v := .int 3) (ty := .int) (C := RX10) (T := TX10) (N := 17) hx₀ hb hts inlX10 tyX10 tyX10_ok nmX10 hown hK hP hD hS 2 rfl rfl 16 (by decide) (hts (.fieldLink RX10 109 "BittenStick$Trip" "end" "I") wd_502) (fun _ h9 => h9) rfl (by decide +kernel) rfl rfl (Nat.le_of_ble_eq_true rfl) dX10_goOn_110 ?_
                clear hP hD hS
                intro H locs hP hD hS
                replace hP := k_w2 (wt := [(kX4 aLa vLa l4 a4 n4), (kAI vLa cI 24 f4), (kX10 aTr aLa aPa aGe gL gR lf rt tgo tca tki tso tbe twe tle (x1z2 + (kIns ((tle >>> ((kAt 24 f4 iz2) &&& 31)) &&& 1) tki tso (kAt 24 f4 iz2) h1)) (x2z2 + (h1 - 5)) 3)]) hP hD rfl
                replace hD := hP.2
                replace hP := hP.1
                refine lv_iload hx₀ hb dX10_goOn_113 (lv_at hl 1 rfl) ?_
                obtain ⟨hP9, hD9⟩ := k_c2 (wc := [(kX10 aTr aLa aPa aGe gL gR lf rt tgo tca tki tso tbe twe tle (x1z2 + (kIns ((tle >>> ((kAt 24 f4 iz2) &&& 31)) &&& 1) tki tso (kAt 24 f4 iz2) h1)) (x2z2 + (h1 - 5)) 3), (kX4 aLa vLa l4 a4 n4), (kAI vLa cI 24 f4)]) hP hD [2, 0, 1] (by decide +kernel) rfl
                exact W.iret (v := iz2) hx₀ hb hr (fun t₀ ht hW => ⟨⟨iz2, (k_fn [(x1z2 + (kIns ((tle >>> ((kAt 24 f4 iz2) &&& 31)) &&& 1) tki tso (kAt 24 f4 iz2) h1)), (x2z2 + (h1 - 5)), (3 : Int32)], k_fa [], k_fl [], k_fL [], k_fp []), rfl, ⟨((kGo_f3 hiz2_1 c_3 (Int32.not_le.mpr c_4) (kCh_p c_1) (Int32.not_lt.mpr c_5) (Int32.not_le.mp c_7) rfl (Int32.not_le.mp c_10)).1), ((kGo_f3 hiz2_1 c_3 (Int32.not_le.mpr c_4) (kCh_p c_1) (Int32.not_lt.mpr c_5) (Int32.not_le.mp c_7) rfl (Int32.not_le.mp c_10)).2.1), ((kGo_f3 hiz2_1 c_3 (Int32.not_le.mpr c_4) (kCh_p c_1) (Int32.not_lt.mpr c_5) (Int32.not_le.mp c_7) rfl (Int32.not_le.mp c_10)).2.2.1), ((kGo_f3 hiz2_1 c_3 (Int32.not_le.mpr c_4) (kCh_p c_1) (Int32.not_lt.mpr c_5) (Int32.not_le.mp c_7) rfl (Int32.not_le.mp c_10)).2.2.2), hiz2_0⟩, by rw [ht]; exact hP9, va_K.moved hW.alike hK, hD9⟩, hS.F ht⟩) hS.2.2 dX10_goOn_115
          · refine lv_aload_n hx₀ hb dX10_goOn_55 rfl (lv_at hl 2 rfl) ?_
            refine lv_iconst (v := 2) hx₀ hb dX10_goOn_56 (by decide +kernel) ?_
            refine va_put (D := (dC, dI)) (ci := 9) (v := .int 2) (ty := .int) (C := RX10) (T := TX10) (N := 17) hx₀ hb hts inlX10 tyX10 tyX10_ok nmX10 hown hK hP hD hS 0 rfl rfl 16 (by decide) (hts (.fieldLink RX10 109 "BittenStick$Trip" "end" "I") wd_502) (fun _ h9 => h9) rfl (by decide +kernel) rfl rfl (Nat.le_of_ble_eq_true rfl) dX10_goOn_57 ?_
            clear hP hD hS
            intro H locs hP hD hS
            replace hP := k_w2 (wt := [(kX10 aTr aLa aPa aGe gL gR lf rt tgo tca tki tso tbe twe tle x1z2 (x2z2 + (h1 - 5)) 2), (kX4 aLa vLa l4 a4 n4), (kAI vLa cI 24 f4)]) hP hD rfl
            replace hD := hP.2
            replace hP := hP.1
            refine lv_iload hx₀ hb dX10_goOn_60 (lv_at hl 0 rfl) ?_
            obtain ⟨hP9, hD9⟩ := k_c2 (wc := [(kX10 aTr aLa aPa aGe gL gR lf rt tgo tca tki tso tbe twe tle x1z2 (x2z2 + (h1 - 5)) 2), (kX4 aLa vLa l4 a4 n4), (kAI vLa cI 24 f4)]) hP hD [0, 1, 2] (by decide +kernel) rfl
            exact W.iret (v := iz2) hx₀ hb hr (fun t₀ ht hW => ⟨⟨iz2, (k_fn [x1z2, (x2z2 + (h1 - 5)), (2 : Int32)], k_fa [], k_fl [], k_fL [], k_fp []), rfl, ⟨((kGo_f2 hiz2_1 c_3 (Int32.not_le.mpr c_4) (kCh_p c_1) (Int32.not_le.mp c_5)).1), ((kGo_f2 hiz2_1 c_3 (Int32.not_le.mpr c_4) (kCh_p c_1) (Int32.not_le.mp c_5)).2.1), ((kGo_f2 hiz2_1 c_3 (Int32.not_le.mpr c_4) (kCh_p c_1) (Int32.not_le.mp c_5)).2.2.1), ((kGo_f2 hiz2_1 c_3 (Int32.not_le.mpr c_4) (kCh_p c_1) (Int32.not_le.mp c_5)).2.2.2), hiz2_0⟩, by rw [ht]; exact hP9, va_K.moved hW.alike hK, hD9⟩, hS.F ht⟩) hS.2.2 dX10_goOn_62
        · refine lv_aload_n hx₀ hb dX10_goOn_27 rfl (lv_at hl 2 rfl) ?_
          refine lv_iconst (v := 1) hx₀ hb dX10_goOn_28 (by decide +kernel) ?_
          refine va_put (D := (dC, dI)) (ci := 9) (v := .int 1) (ty := .int) (C := RX10) (T := TX10) (N := 17) hx₀ hb hts inlX10 tyX10 tyX10_ok nmX10 hown hK hP hD hS 0 rfl rfl 16 (by decide) (hts (.fieldLink RX10 109 "BittenStick$Trip" "end" "I") wd_502) (fun _ h9 => h9) rfl (by decide +kernel) rfl rfl (Nat.le_of_ble_eq_true rfl) dX10_goOn_29 ?_
          clear hP hD hS
          intro H locs hP hD hS
          replace hP := k_w2 (wt := [(kX10 aTr aLa aPa aGe gL gR lf rt tgo tca tki tso tbe twe tle x1z2 x2z2 1), (kX4 aLa vLa l4 a4 n4), (kAI vLa cI 24 f4)]) hP hD rfl
          replace hD := hP.2
          replace hP := hP.1
          refine lv_iload hx₀ hb dX10_goOn_32 (lv_at hl 0 rfl) ?_
          obtain ⟨hP9, hD9⟩ := k_c2 (wc := [(kX10 aTr aLa aPa aGe gL gR lf rt tgo tca tki tso tbe twe tle x1z2 x2z2 1), (kX4 aLa vLa l4 a4 n4), (kAI vLa cI 24 f4)]) hP hD [0, 1, 2] (by decide +kernel) rfl
          exact W.iret (v := iz2) hx₀ hb hr (fun t₀ ht hW => ⟨⟨iz2, (k_fn [x1z2, x2z2, (1 : Int32)], k_fa [], k_fl [], k_fL [], k_fp []), rfl, ⟨((kGo_f1 hiz2_1 c_3 (Int32.not_lt.mp c_4)).1), ((kGo_f1 hiz2_1 c_3 (Int32.not_lt.mp c_4)).2.1), ((kGo_f1 hiz2_1 c_3 (Int32.not_lt.mp c_4)).2.2.1), ((kGo_f1 hiz2_1 c_3 (Int32.not_lt.mp c_4)).2.2.2), hiz2_0⟩, by rw [ht]; exact hP9, va_K.moved hW.alike hK, hD9⟩, hS.F ht⟩) hS.2.2 dX10_goOn_34
  refine k_topi (v := 0) (if_neg c_1) ?_
  refine lv_istore (lv' := [(4, .int 0), (0, .ref aTr), (1, .int fr), (2, .int to), (3, .int h1)]) hx₀ hb dX10_goOn_7 hl (by decide) rfl (fun ls hl => ?_)
  refine lv_iload_n hx₀ hb dX10_goOn_9 rfl (lv_at hl 2 rfl) ?_
  refine lv_istore (lv' := [(5, .int fr), (4, .int 0), (0, .ref aTr), (1, .int fr), (2, .int to), (3, .int h1)]) hx₀ hb dX10_goOn_10 hl (by decide) rfl (fun ls hl => ?_)
  refine (?keyz11 : ∀ (jz11 : Nat) (iz11 : Int32) (x1z11 : Int32) (x2z11 : Int32) (x3z11 : Int32) (H : Heap) (locs : List Loc) (ls : Array Slot), (fr ≤ iz11 ∧ iz11 ≤ to) → (k_go (kGo (kAt 24 f4) tca tle tki tso tbe (fun _ => h1)) to iz11 x1z11 x2z11 x3z11 ((kGo (kAt 24 f4) tca tle tki tso tbe (fun _ => h1)) (kfu to fr) fr tan tco ten)) → ((to.toInt - iz11.toInt).toNat = jz11) → va_P (dC, dI) vwCl [(kX10 aTr aLa aPa aGe gL gR lf rt tgo tca tki tso tbe twe tle x1z11 x2z11 x3z11), (kX4 aLa vLa l4 a4 n4), (kAI vLa cI 24 f4)] H → va_D A [(kX10 aTr aLa aPa aGe gL gR lf rt tgo tca tki tso tbe twe tle x1z11 x2z11 x3z11), (kX4 aLa vLa l4 a4 n4), (kAI vLa cI 24 f4)] → va_S A s₀.heap H locs → lv_has ls 7 [(5, .int iz11), (4, .int 0), (0, .ref aTr), (1, .int fr), (2, .int to), (3, .int h1)] → W p₀ l e₀ _ s₀ m₀ _ below meth c₀ H locs _ _ _ (F0 m₀ 12 ls [])) _ fr tan tco ten H locs ls (lf_e_goOn16_1 fr to hh0) (rfl) rfl hP hD hS hl
  clear hP hD hS hl
  intro jz11
  induction jz11 using Nat.strongRecOn with
  | ind jz11 ihz11 =>
    intro iz11 x1z11 x2z11 x3z11 H locs ls hiz11_0 hiz11_1 hjz11 hP hD hS hl
    refine lv_iload hx₀ hb dX10_goOn_12 (lv_at hl 0 rfl) ?_
    refine lv_iload_n hx₀ hb dX10_goOn_14 rfl (lv_at hl 4 rfl) ?_
    refine lv_icmp_ge (tgt := 139) hx₀ hb dX10_goOn_15 (by decide) (fun c_12 => ?_) (fun c_12 => ?_)
    · refine lv_iload_n hx₀ hb dX10_goOn_139 rfl (lv_at hl 4 rfl) ?_
      obtain ⟨hP9, hD9⟩ := k_c2 (wc := [(kX10 aTr aLa aPa aGe gL gR lf rt tgo tca tki tso tbe twe tle x1z11 x2z11 x3z11), (kX4 aLa vLa l4 a4 n4), (kAI vLa cI 24 f4)]) hP hD [0, 1, 2] (by decide +kernel) rfl
      exact W.iret (v := to) hx₀ hb hr (fun t₀ ht hW => ⟨⟨to, (k_fn [x1z11, x2z11, x3z11], k_fa [], k_fl [], k_fL [], k_fp []), rfl, ⟨((kGo_end hiz11_1 c_12 (hiz11_0.2)).1), ((kGo_end hiz11_1 c_12 (hiz11_0.2)).2.1), ((kGo_end hiz11_1 c_12 (hiz11_0.2)).2.2.1), ((kGo_end hiz11_1 c_12 (hiz11_0.2)).2.2.2), (lf_e_goOn16_2 fr to iz11 jz11 hh0 hiz11_0 hjz11 c_12)⟩, by rw [ht]; exact hP9, va_K.moved hW.alike hK, hD9⟩, hS.F ht⟩) hS.2.2 dX10_goOn_140
    · refine lv_iload hx₀ hb dX10_goOn_18 (lv_at hl 0 rfl) ?_
      refine lv_aload_n hx₀ hb dX10_goOn_20 rfl (lv_at hl 2 rfl) ?_
      refine va_get (D := (dC, dI)) (ci := 9) (v := .int tca) (C := RX10) (T := TX10) (N := 17) hx₀ hb hts inlX10 hown hK hP 0 rfl rfl 8 (by decide) (hts (.fieldLink RX10 52 "BittenStick$Trip" "carriedTo" "I") wd_454) (fun _ h9 => h9) rfl dX10_goOn_21 ?_
      refine lv_icmp_lt (tgt := 35) hx₀ hb dX10_goOn_24 (by decide) (fun c_13 => ?_) (fun c_13 => ?_)
      · refine lv_aload_n hx₀ hb dX10_goOn_35 rfl (lv_at hl 2 rfl) ?_
        refine lv_dup hx₀ hb dX10_goOn_36 rfl ?_
        refine va_get (D := (dC, dI)) (ci := 9) (v := .int x2z11) (C := RX10) (T := TX10) (N := 17) hx₀ hb hts inlX10 hown hK hP 0 rfl rfl 15 (by decide) (hts (.fieldLink RX10 106 "BittenStick$Trip" "cold" "I") wd_501) (fun _ h9 => h9) rfl dX10_goOn_37 ?_
        refine lv_iload hx₀ hb dX10_goOn_40 (lv_at hl 1 rfl) ?_
        refine lv_iadd hx₀ hb dX10_goOn_42 ?_
        refine va_put (D := (dC, dI)) (ci := 9) (v := .int (x2z11 + 0)) (ty := .int) (C := RX10) (T := TX10) (N := 17) hx₀ hb hts inlX10 tyX10 tyX10_ok nmX10 hown hK hP hD hS 0 rfl rfl 15 (by decide) (hts (.fieldLink RX10 106 "BittenStick$Trip" "cold" "I") wd_501) (fun _ h9 => h9) rfl (by decide +kernel) rfl rfl (Nat.le_of_ble_eq_true rfl) dX10_goOn_43 ?_
        clear hP hD hS
        intro H locs hP hD hS
        replace hP := k_w2 (wt := [(kX10 aTr aLa aPa aGe gL gR lf rt tgo tca tki tso tbe twe tle x1z11 (x2z11 + 0) x3z11), (kX4 aLa vLa l4 a4 n4), (kAI vLa cI 24 f4)]) hP hD rfl
        replace hD := hP.2
        replace hP := hP.1
        refine lv_aload_n hx₀ hb dX10_goOn_46 rfl (lv_at hl 2 rfl) ?_
        refine va_get (D := (dC, dI)) (ci := 9) (v := .int (x2z11 + 0)) (C := RX10) (T := TX10) (N := 17) hx₀ hb hts inlX10 hown hK hP 0 rfl rfl 15 (by decide) (hts (.fieldLink RX10 106 "BittenStick$Trip" "cold" "I") wd_501) (fun _ h9 => h9) rfl dX10_goOn_47 ?_
        refine lv_bipush (v := 20) hx₀ hb dX10_goOn_50 (by decide +kernel) ?_
        refine lv_icmp_le (tgt := 63) hx₀ hb dX10_goOn_52 (by decide) (fun c_14 => ?_) (fun c_14 => ?_)
        · refine lv_aload_n hx₀ hb dX10_goOn_63 rfl (lv_at hl 2 rfl) ?_
          refine va_get (D := (dC, dI)) (ci := 9) (v := .ref aLa) (C := RX10) (T := TX10) (N := 17) hx₀ hb hts inlX10 hown hK hP 0 rfl rfl 0 (by decide) (hts (.fieldLink RX10 27 "BittenStick$Trip" "land" "LBittenStick$Land;") wd_89) (fun _ h9 => h9) rfl dX10_goOn_64 ?_
          refine lv_iload hx₀ hb dX10_goOn_67 (lv_at hl 0 rfl) ?_
          obtain ⟨hPc, hDc, hFc, hC⟩ := k_cw (wc := [(kX4 aLa vLa l4 a4 n4), (kAI vLa cI 24 f4)]) hP hD hS hA [1, 2] (by decide +kernel) rfl
          refine va_calli (va_runU (As := [.int iz11]) (rest := []) ⟨hx₀, hb, hml, hown, hts⟩ (j_valueAt_X4 l dC dI cI cJ cQ H.size aLa iz11 vLa l4 a4 n4 f4) (va_cwU 1 hts (kGU wd_179 wd_478 wd_288 wd_289 wd_178 wd_57) rfl rfl rfl rfl (by decide +kernel) ⟨Nat.le_of_ble_eq_true rfl, Nat.le_of_ble_eq_true rfl⟩) (k_preV4 (q0 := 0) hK hPc hDc hN rfl) rfl rfl hl.1 rfl (lv_room (Nat.le_of_ble_eq_true rfl)) dX10_goOn_69 ⟨by decide +kernel, by decide +kernel⟩) hS (fun q _ h => hFc q h) hFc (fun r_15 u₀ t₀ H1 locs ht hvm hw hB hz1 hk1 hS => ?_)
          obtain ⟨hP1, hK1, hD1⟩ := hB
          rw [ht] at hP1
          have hJ := k_jn (wr := [(kX10 aTr aLa aPa aGe gL gR lf rt tgo tca tki tso tbe twe tle x1z11 (x2z11 + 0) x3z11)]) (wt := [(kX10 aTr aLa aPa aGe gL gR lf rt tgo tca tki tso tbe twe tle x1z11 (x2z11 + 0) x3z11), (kX4 aLa vLa l4 a4 n4), (kAI vLa cI 24 f4)]) hP hD hC [0] rfl (by decide +kernel) (by decide +kernel) hk1 hFc hP1 hD1 rfl
          clear hP hD hPc hDc hFc hC hP1 hD1 hK1 hz1 hk1 hvm ht
          obtain ⟨hP, hD⟩ := hJ
          generalize H1 = H at hP hS ⊢
          try dsimp only at hw
          refine k_topi (v := kAt 24 f4 iz11) hw ?_
          refine lv_istore (lv' := [(6, .int (kAt 24 f4 iz11)), (5, .int iz11), (4, .int 0), (0, .ref aTr), (1, .int fr), (2, .int to), (3, .int h1)]) hx₀ hb dX10_goOn_72 hl (by decide) rfl (fun ls hl => ?_)
          refine lv_iload hx₀ hb dX10_goOn_74 (lv_at hl 0 rfl) ?_
          refine lv_bipush (v := 6) hx₀ hb dX10_goOn_76 (by decide +kernel) ?_
          refine lv_icmp_ge (tgt := 116) hx₀ hb dX10_goOn_78 (by decide) (fun c_16 => ?_) (fun c_16 => ?_)
          · refine lv_iload hx₀ hb dX10_goOn_116 (lv_at hl 0 rfl) ?_
            refine lv_bipush (v := 7) hx₀ hb dX10_goOn_118 (by decide +kernel) ?_
            refine lv_icmp_ne (tgt := 133) hx₀ hb dX10_goOn_120 (by decide) (fun c_17 => ?_) (fun c_17 => ?_)
            · refine lv_iinc (v := iz11 + 1) (lv' := [(5, .int (iz11 + 1)), (6, .int (kAt 24 f4 iz11)), (4, .int 0), (0, .ref aTr), (1, .int fr), (2, .int to), (3, .int h1)]) hx₀ hb dX10_goOn_133 hl (k := 1) rfl rfl (by decide) rfl (fun ls hl => ?_)
              refine lv_goto (tgt := 12) hx₀ hb dX10_goOn_136 (by decide) ?_
              exact ihz11 _ (lf_e_goOn16_4 fr to iz11 jz11 tca hh0 hiz11_0 hjz11 c_12 c_13) (iz11 + 1) x1z11 (x2z11 + 0) x3z11 _ _ _ (lf_e_goOn16_3 fr to iz11 jz11 tca hh0 hiz11_0 hjz11 c_12 c_13) (kGo_o hiz11_1 c_12 (Int32.not_le.mpr c_13) (kCh_n c_1) (Int32.not_lt.mpr c_14) (Int32.not_lt.mpr c_16) c_17) rfl (hP.sub [0, 1, 2] rfl) (hD.sub [0, 1, 2] (by decide +kernel) rfl) hS (lv_sub hl [0, 2, 3, 4, 5, 6] rfl)
            · refine lv_aload_n hx₀ hb dX10_goOn_123 rfl (lv_at hl 3 rfl) ?_
              refine lv_iconst (v := 0) hx₀ hb dX10_goOn_124 (by decide +kernel) ?_
              refine va_put (D := (dC, dI)) (ci := 9) (v := .int 0) (ty := .int) (C := RX10) (T := TX10) (N := 17) hx₀ hb hts inlX10 tyX10 tyX10_ok nmX10 hown hK hP hD hS 0 rfl rfl 14 (by decide) (hts (.fieldLink RX10 103 "BittenStick$Trip" "anger" "I") wd_500) (fun _ h9 => h9) rfl (by decide +kernel) rfl rfl (Nat.le_of_ble_eq_true rfl) dX10_goOn_125 ?_
              clear hP hD hS
              intro H locs hP hD hS
              replace hP := k_w2 (wt := [(kX10 aTr aLa aPa aGe gL gR lf rt tgo tca tki tso tbe twe tle 0 (x2z11 + 0) x3z11), (kX4 aLa vLa l4 a4 n4), (kAI vLa cI 24 f4)]) hP hD rfl
              replace hD := hP.2
              replace hP := hP.1
              refine lv_aload_n hx₀ hb dX10_goOn_128 rfl (lv_at hl 3 rfl) ?_
              refine lv_iconst (v := 0) hx₀ hb dX10_goOn_129 (by decide +kernel) ?_
              refine va_put (D := (dC, dI)) (ci := 9) (v := .int 0) (ty := .int) (C := RX10) (T := TX10) (N := 17) hx₀ hb hts inlX10 tyX10 tyX10_ok nmX10 hown hK hP hD hS 0 rfl rfl 15 (by decide) (hts (.fieldLink RX10 106 "BittenStick$Trip" "cold" "I") wd_501) (fun _ h9 => h9) rfl (by decide +kernel) rfl rfl (Nat.le_of_ble_eq_true rfl) dX10_goOn_130 ?_
              clear hP hD hS
              intro H locs hP hD hS
              replace hP := k_w2 (wt := [(kX10 aTr aLa aPa aGe gL gR lf rt tgo tca tki tso tbe twe tle 0 0 x3z11), (kX4 aLa vLa l4 a4 n4), (kAI vLa cI 24 f4)]) hP hD rfl
              replace hD := hP.2
              replace hP := hP.1
              refine lv_iinc (v := iz11 + 1) (lv' := [(5, .int (iz11 + 1)), (6, .int (kAt 24 f4 iz11)), (4, .int 0), (0, .ref aTr), (1, .int fr), (2, .int to), (3, .int h1)]) hx₀ hb dX10_goOn_133 hl (k := 1) rfl rfl (by decide) rfl (fun ls hl => ?_)
              refine lv_goto (tgt := 12) hx₀ hb dX10_goOn_136 (by decide) ?_
              exact ihz11 _ (lf_e_goOn16_4 fr to iz11 jz11 tca hh0 hiz11_0 hjz11 c_12 c_13) (iz11 + 1) (0 : Int32) (0 : Int32) x3z11 _ _ _ (lf_e_goOn16_3 fr to iz11 jz11 tca hh0 hiz11_0 hjz11 c_12 c_13) (kGo_i hiz11_1 c_12 (Int32.not_le.mpr c_13) (kCh_n c_1) (Int32.not_lt.mpr c_14) (Int32.not_lt.mpr c_16) c_17) rfl (hP.sub [0, 1, 2] rfl) (hD.sub [0, 1, 2] (by decide +kernel) rfl) hS (lv_sub hl [0, 2, 3, 4, 5, 6] rfl)
          · refine lv_aload_n hx₀ hb dX10_goOn_81 rfl (lv_at hl 3 rfl) ?_
            refine lv_dup hx₀ hb dX10_goOn_82 rfl ?_
            refine va_get (D := (dC, dI)) (ci := 9) (v := .int x1z11) (C := RX10) (T := TX10) (N := 17) hx₀ hb hts inlX10 hown hK hP 0 rfl rfl 14 (by decide) (hts (.fieldLink RX10 103 "BittenStick$Trip" "anger" "I") wd_500) (fun _ h9 => h9) rfl dX10_goOn_83 ?_
            refine lv_aload_n hx₀ hb dX10_goOn_86 rfl (lv_at hl 3 rfl) ?_
            refine lv_iload hx₀ hb dX10_goOn_87 (lv_at hl 0 rfl) ?_
            refine lv_iload_n hx₀ hb dX10_goOn_89 rfl (lv_at hl 6 rfl) ?_
            obtain ⟨hPc, hDc, hFc, hC⟩ := k_cw (wc := [(kX10 aTr aLa aPa aGe gL gR lf rt tgo tca tki tso tbe twe tle x1z11 (x2z11 + 0) x3z11)]) hP hD hS hA [0] (by decide +kernel) rfl
            refine va_calli (va_runV (As := [.int (kAt 24 f4 iz11), .int h1]) (rest := [.int x1z11, .ref aTr]) ⟨hx₀, hb, hml, hown, hts⟩ (j_insult l dC dI cI cJ cQ H.size aTr (kAt 24 f4 iz11) h1 aLa aPa aGe gL gR lf rt tgo tca tki tso tbe twe tle x1z11 (x2z11 + 0) x3z11) (cwV 2 hts (kGV wd_511 wd_508 wd_509 wd_510 wd_30) rfl rfl rfl (by decide +kernel) ⟨Nat.le_of_ble_eq_true rfl, Nat.le_of_ble_eq_true rfl⟩) (k_preV9 (q0 := 0) hK hPc hDc hN rfl) rfl rfl hl.1 rfl (lv_room (Nat.le_of_ble_eq_true rfl)) dX10_goOn_90 ⟨by decide +kernel, by decide +kernel⟩) hS (fun q _ h => hFc q h) hFc (fun r_18 u₀ t₀ H1 locs ht hvm hw hB hz1 hk1 hS => ?_)
            obtain ⟨hP1, hK1, hD1⟩ := hB
            rw [ht] at hP1
            have hJ := k_jn (wr := [(kX4 aLa vLa l4 a4 n4), (kAI vLa cI 24 f4)]) (wt := [(kX4 aLa vLa l4 a4 n4), (kAI vLa cI 24 f4), (kX10 aTr aLa aPa aGe gL gR lf rt tgo tca tki tso tbe twe tle x1z11 (x2z11 + 0) x3z11)]) hP hD hC [1, 2] rfl (by decide +kernel) (by decide +kernel) hk1 hFc hP1 hD1 rfl
            clear hP hD hPc hDc hFc hC hP1 hD1 hK1 hz1 hk1 hvm ht
            obtain ⟨hP, hD⟩ := hJ
            generalize H1 = H at hP hS ⊢
            try dsimp only at hw
            refine k_topi (v := kIns ((tle >>> ((kAt 24 f4 iz11) &&& 31)) &&& 1) tki tso (kAt 24 f4 iz11) h1) hw ?_
            refine lv_iadd hx₀ hb dX10_goOn_93 ?_
            refine va_put (D := (dC, dI)) (ci := 9) (v := .int (x1z11 + (kIns ((tle >>> ((kAt 24 f4 iz11) &&& 31)) &&& 1) tki tso (kAt 24 f4 iz11) h1))) (ty := .int) (C := RX10) (T := TX10) (N := 17) hx₀ hb hts inlX10 tyX10 tyX10_ok nmX10 hown hK hP hD hS 2 rfl rfl 14 (by decide) (hts (.fieldLink RX10 103 "BittenStick$Trip" "anger" "I") wd_500) (fun _ h9 => h9) rfl (by decide +kernel) rfl rfl (Nat.le_of_ble_eq_true rfl) dX10_goOn_94 ?_
            clear hP hD hS
            intro H locs hP hD hS
            replace hP := k_w2 (wt := [(kX4 aLa vLa l4 a4 n4), (kAI vLa cI 24 f4), (kX10 aTr aLa aPa aGe gL gR lf rt tgo tca tki tso tbe twe tle (x1z11 + (kIns ((tle >>> ((kAt 24 f4 iz11) &&& 31)) &&& 1) tki tso (kAt 24 f4 iz11) h1)) (x2z11 + 0) x3z11)]) hP hD rfl
            replace hD := hP.2
            replace hP := hP.1
            refine lv_aload_n hx₀ hb dX10_goOn_97 rfl (lv_at hl 3 rfl) ?_
            refine va_get (D := (dC, dI)) (ci := 9) (v := .int (x1z11 + (kIns ((tle >>> ((kAt 24 f4 iz11) &&& 31)) &&& 1) tki tso (kAt 24 f4 iz11) h1))) (C := RX10) (T := TX10) (N := 17) hx₀ hb hts inlX10 hown hK hP 2 rfl rfl 14 (by decide) (hts (.fieldLink RX10 103 "BittenStick$Trip" "anger" "I") wd_500) (fun _ h9 => h9) rfl dX10_goOn_98 ?_
            refine lv_aload_n hx₀ hb dX10_goOn_101 rfl (lv_at hl 3 rfl) ?_
            refine va_get (D := (dC, dI)) (ci := 9) (v := .int tbe) (C := RX10) (T := TX10) (N := 17) hx₀ hb hts inlX10 hown hK hP 2 rfl rfl 11 (by decide) (hts (.fieldLink RX10 66 "BittenStick$Trip" "bears" "I") wd_457) (fun _ h9 => h9) rfl dX10_goOn_102 ?_
            refine lv_icmp_le (tgt := 133) hx₀ hb dX10_goOn_105 (by decide) (fun c_19 => ?_) (fun c_19 => ?_)
            · refine lv_iinc (v := iz11 + 1) (lv' := [(5, .int (iz11 + 1)), (6, .int (kAt 24 f4 iz11)), (4, .int 0), (0, .ref aTr), (1, .int fr), (2, .int to), (3, .int h1)]) hx₀ hb dX10_goOn_133 hl (k := 1) rfl rfl (by decide) rfl (fun ls hl => ?_)
              refine lv_goto (tgt := 12) hx₀ hb dX10_goOn_136 (by decide) ?_
              exact ihz11 _ (lf_e_goOn16_4 fr to iz11 jz11 tca hh0 hiz11_0 hjz11 c_12 c_13) (iz11 + 1) (x1z11 + (kIns ((tle >>> ((kAt 24 f4 iz11) &&& 31)) &&& 1) tki tso (kAt 24 f4 iz11) h1)) (x2z11 + 0) x3z11 _ _ _ (lf_e_goOn16_3 fr to iz11 jz11 tca hh0 hiz11_0 hjz11 c_12 c_13) (kGo_t hiz11_1 c_12 (Int32.not_le.mpr c_13) (kCh_n c_1) (Int32.not_lt.mpr c_14) (Int32.not_le.mp c_16) rfl (Int32.not_lt.mpr c_19)) rfl (hP.sub [2, 0, 1] rfl) (hD.sub [2, 0, 1] (by decide +kernel) rfl) hS (lv_sub hl [0, 2, 3, 4, 5, 6] rfl)
            · refine lv_aload_n hx₀ hb dX10_goOn_108 rfl (lv_at hl 3 rfl) ?_
              refine lv_iconst (v := 3) hx₀ hb dX10_goOn_109 (by decide +kernel) ?_
              refine va_put (D := (dC, dI)) (ci := 9) (v := .int 3) (ty := .int) (C := RX10) (T := TX10) (N := 17) hx₀ hb hts inlX10 tyX10 tyX10_ok nmX10 hown hK hP hD hS 2 rfl rfl 16 (by decide) (hts (.fieldLink RX10 109 "BittenStick$Trip" "end" "I") wd_502) (fun _ h9 => h9) rfl (by decide +kernel) rfl rfl (Nat.le_of_ble_eq_true rfl) dX10_goOn_110 ?_
              clear hP hD hS
              intro H locs hP hD hS
              replace hP := k_w2 (wt := [(kX4 aLa vLa l4 a4 n4), (kAI vLa cI 24 f4), (kX10 aTr aLa aPa aGe gL gR lf rt tgo tca tki tso tbe twe tle (x1z11 + (kIns ((tle >>> ((kAt 24 f4 iz11) &&& 31)) &&& 1) tki tso (kAt 24 f4 iz11) h1)) (x2z11 + 0) 3)]) hP hD rfl
              replace hD := hP.2
              replace hP := hP.1
              refine lv_iload hx₀ hb dX10_goOn_113 (lv_at hl 1 rfl) ?_
              obtain ⟨hP9, hD9⟩ := k_c2 (wc := [(kX10 aTr aLa aPa aGe gL gR lf rt tgo tca tki tso tbe twe tle (x1z11 + (kIns ((tle >>> ((kAt 24 f4 iz11) &&& 31)) &&& 1) tki tso (kAt 24 f4 iz11) h1)) (x2z11 + 0) 3), (kX4 aLa vLa l4 a4 n4), (kAI vLa cI 24 f4)]) hP hD [2, 0, 1] (by decide +kernel) rfl
              exact W.iret (v := iz11) hx₀ hb hr (fun t₀ ht hW => ⟨⟨iz11, (k_fn [(x1z11 + (kIns ((tle >>> ((kAt 24 f4 iz11) &&& 31)) &&& 1) tki tso (kAt 24 f4 iz11) h1)), (x2z11 + 0), (3 : Int32)], k_fa [], k_fl [], k_fL [], k_fp []), rfl, ⟨((kGo_f3 hiz11_1 c_12 (Int32.not_le.mpr c_13) (kCh_n c_1) (Int32.not_lt.mpr c_14) (Int32.not_le.mp c_16) rfl (Int32.not_le.mp c_19)).1), ((kGo_f3 hiz11_1 c_12 (Int32.not_le.mpr c_13) (kCh_n c_1) (Int32.not_lt.mpr c_14) (Int32.not_le.mp c_16) rfl (Int32.not_le.mp c_19)).2.1), ((kGo_f3 hiz11_1 c_12 (Int32.not_le.mpr c_13) (kCh_n c_1) (Int32.not_lt.mpr c_14) (Int32.not_le.mp c_16) rfl (Int32.not_le.mp c_19)).2.2.1), ((kGo_f3 hiz11_1 c_12 (Int32.not_le.mpr c_13) (kCh_n c_1) (Int32.not_lt.mpr c_14) (Int32.not_le.mp c_16) rfl (Int32.not_le.mp c_19)).2.2.2), hiz11_0⟩, by rw [ht]; exact hP9, va_K.moved hW.alike hK, hD9⟩, hS.F ht⟩) hS.2.2 dX10_goOn_115
        · refine lv_aload_n hx₀ hb dX10_goOn_55 rfl (lv_at hl 2 rfl) ?_
          refine lv_iconst (v := 2) hx₀ hb dX10_goOn_56 (by decide +kernel) ?_
          refine va_put (D := (dC, dI)) (ci := 9) (v := .int 2) (ty := .int) (C := RX10) (T := TX10) (N := 17) hx₀ hb hts inlX10 tyX10 tyX10_ok nmX10 hown hK hP hD hS 0 rfl rfl 16 (by decide) (hts (.fieldLink RX10 109 "BittenStick$Trip" "end" "I") wd_502) (fun _ h9 => h9) rfl (by decide +kernel) rfl rfl (Nat.le_of_ble_eq_true rfl) dX10_goOn_57 ?_
          clear hP hD hS
          intro H locs hP hD hS
          replace hP := k_w2 (wt := [(kX10 aTr aLa aPa aGe gL gR lf rt tgo tca tki tso tbe twe tle x1z11 (x2z11 + 0) 2), (kX4 aLa vLa l4 a4 n4), (kAI vLa cI 24 f4)]) hP hD rfl
          replace hD := hP.2
          replace hP := hP.1
          refine lv_iload hx₀ hb dX10_goOn_60 (lv_at hl 0 rfl) ?_
          obtain ⟨hP9, hD9⟩ := k_c2 (wc := [(kX10 aTr aLa aPa aGe gL gR lf rt tgo tca tki tso tbe twe tle x1z11 (x2z11 + 0) 2), (kX4 aLa vLa l4 a4 n4), (kAI vLa cI 24 f4)]) hP hD [0, 1, 2] (by decide +kernel) rfl
          exact W.iret (v := iz11) hx₀ hb hr (fun t₀ ht hW => ⟨⟨iz11, (k_fn [x1z11, (x2z11 + 0), (2 : Int32)], k_fa [], k_fl [], k_fL [], k_fp []), rfl, ⟨((kGo_f2 hiz11_1 c_12 (Int32.not_le.mpr c_13) (kCh_n c_1) (Int32.not_le.mp c_14)).1), ((kGo_f2 hiz11_1 c_12 (Int32.not_le.mpr c_13) (kCh_n c_1) (Int32.not_le.mp c_14)).2.1), ((kGo_f2 hiz11_1 c_12 (Int32.not_le.mpr c_13) (kCh_n c_1) (Int32.not_le.mp c_14)).2.2.1), ((kGo_f2 hiz11_1 c_12 (Int32.not_le.mpr c_13) (kCh_n c_1) (Int32.not_le.mp c_14)).2.2.2), hiz11_0⟩, by rw [ht]; exact hP9, va_K.moved hW.alike hK, hD9⟩, hS.F ht⟩) hS.2.2 dX10_goOn_62
      · refine lv_aload_n hx₀ hb dX10_goOn_27 rfl (lv_at hl 2 rfl) ?_
        refine lv_iconst (v := 1) hx₀ hb dX10_goOn_28 (by decide +kernel) ?_
        refine va_put (D := (dC, dI)) (ci := 9) (v := .int 1) (ty := .int) (C := RX10) (T := TX10) (N := 17) hx₀ hb hts inlX10 tyX10 tyX10_ok nmX10 hown hK hP hD hS 0 rfl rfl 16 (by decide) (hts (.fieldLink RX10 109 "BittenStick$Trip" "end" "I") wd_502) (fun _ h9 => h9) rfl (by decide +kernel) rfl rfl (Nat.le_of_ble_eq_true rfl) dX10_goOn_29 ?_
        clear hP hD hS
        intro H locs hP hD hS
        replace hP := k_w2 (wt := [(kX10 aTr aLa aPa aGe gL gR lf rt tgo tca tki tso tbe twe tle x1z11 x2z11 1), (kX4 aLa vLa l4 a4 n4), (kAI vLa cI 24 f4)]) hP hD rfl
        replace hD := hP.2
        replace hP := hP.1
        refine lv_iload hx₀ hb dX10_goOn_32 (lv_at hl 0 rfl) ?_
        obtain ⟨hP9, hD9⟩ := k_c2 (wc := [(kX10 aTr aLa aPa aGe gL gR lf rt tgo tca tki tso tbe twe tle x1z11 x2z11 1), (kX4 aLa vLa l4 a4 n4), (kAI vLa cI 24 f4)]) hP hD [0, 1, 2] (by decide +kernel) rfl
        exact W.iret (v := iz11) hx₀ hb hr (fun t₀ ht hW => ⟨⟨iz11, (k_fn [x1z11, x2z11, (1 : Int32)], k_fa [], k_fl [], k_fL [], k_fp []), rfl, ⟨((kGo_f1 hiz11_1 c_12 (Int32.not_lt.mp c_13)).1), ((kGo_f1 hiz11_1 c_12 (Int32.not_lt.mp c_13)).2.1), ((kGo_f1 hiz11_1 c_12 (Int32.not_lt.mp c_13)).2.2.1), ((kGo_f1 hiz11_1 c_12 (Int32.not_lt.mp c_13)).2.2.2), hiz11_0⟩, by rw [ht]; exact hP9, va_K.moved hW.alike hK, hD9⟩, hS.F ht⟩) hS.2.2 dX10_goOn_34
set_option maxHeartbeats 4000000 in
set_option maxRecDepth 100000 in
theorem e_note (l : Launch) (dC : Nat → ClassId) (dI : Nat → Nat → Nat) (cI cJ cQ : ClassId) (sz : Nat) (aBe : Nat) (t1 : Int32) (h1 : Int32) (m1 : Int32) (o1 : Int32) (k0 : Int32) (k1 : Int32) (k2 : Int32) (k3 : Int32) : Met l yX0_note (kW yX0_note cX0_note 5 none) { frames := 0, cells := 0, slots := 0, locals := 0 } (kPre dC dI cI cJ cQ sz [.ref aBe, .int t1, .int h1, .int m1, .int o1] [(kX0 aBe k0 k1 k2 k3)]) (va_Qv (fun (u : kS) => ((u.1 0) = if k0 < t1 then t1 else k0) ∧ ((u.1 1) = if k0 < t1 then h1 else k1) ∧ ((u.1 2) = if k0 < t1 then m1 else k2) ∧ ((u.1 3) = if k0 < t1 then o1 else k3)) (fun (u : kS) t₀ => kB dC dI cI cJ cQ (va_A [(kX0 aBe k0 k1 k2 k3)] sz) [(kX0 aBe (u.1 0) (u.1 1) (u.1 2) (u.1 3))] t₀) (va_A [(kX0 aBe k0 k1 k2 k3)] sz)) 0 0 (va_A [(kX0 aBe k0 k1 k2 k3)] sz) := by
  refine Met.ofW (cc := cX0_note) (maxL := 5) (ret := none) (by decide) rfl ?_
  intro p₀ e₀ s₀ m₀ args below meth c₀ s₁ B hml hv₀
  obtain ⟨rfl, hsz, hP, hK, hD0, hN⟩ := hv₀
  have hx₀ := B.exec
  have hb := B.bytes
  have hr := B.returns
  have hts := atoms_spec (ws := (kW yX0_note cX0_note 5 none)) B.pre
  have hts := fun w h => hts w (List.mem_cons_of_mem _ h)
  have hown : s₀.vm.findClass RX0 = some m₀.cls := findClass_of_methodNamed B.named
  have hlocks := B.notSynchronized
  subst hsz
  have hD := hD0.self (sz := s₀.heap.size)
  generalize hAe : va_A [(kX0 aBe k0 k1 k2 k3)] s₀.heap.size = A at hD ⊢
  have hA : ∀ q : Nat, s₀.heap.size ≤ q → A q := fun q h => by rw [← hAe]; exact Or.inr h
  have hS : va_S A s₀.heap s₀.heap [] := va_S.rf
  have hP : va_P (dC, dI) vwCl [(kX0 aBe k0 k1 k2 k3)] s₀.heap := hP
  have hl := lv_entry ([.ref aBe, .int t1, .int h1, .int m1, .int o1]) (n := 5) (Nat.le_of_ble_eq_true rfl)
  rw [lg_entry_eq]
  generalize (lg_sl ([.ref aBe, .int t1, .int h1, .int m1, .int o1]) ++ List.replicate (5 - (lg_sl ([.ref aBe, .int t1, .int h1, .int m1, .int o1])).length) Slot.unset).toArray = ls at hl ⊢
  have hl : lv_has ls 5 [(0, .ref aBe), (1, .int t1), (2, .int h1), (3, .int m1), (4, .int o1)] := hl
  obtain ⟨H, hH⟩ : ∃ z : Heap, z = s₀.heap := ⟨_, rfl⟩
  rw [← hH] at hP
  have hS : va_S A s₀.heap H [] := by rw [hH]; exact hS
  refine k_heap hH ?_
  have hD : va_D A [(kX0 aBe k0 k1 k2 k3)] := hD
  obtain ⟨locs, hlo⟩ : ∃ z : List Loc, z = [] := ⟨_, rfl⟩
  rw [← hlo] at hS ⊢
  clear hlo hH hAe hD0
  refine lv_iload_n hx₀ hb dX0_note_0 rfl (lv_at hl 1 rfl) ?_
  refine lv_aload_n hx₀ hb dX0_note_1 rfl (lv_at hl 0 rfl) ?_
  refine va_get (D := (dC, dI)) (ci := 0) (v := .int k0) (C := RX0) (T := TX0) (N := 4) hx₀ hb hts inlX0 hown hK hP 0 rfl rfl 0 (by decide) (hts (.fieldLink RX0 21 "BittenStick$Climb" "far" "I") wd_619) (fun _ h9 => h9) rfl dX0_note_2 ?_
  refine lv_icmp_le (tgt := 29) hx₀ hb dX0_note_5 (by decide) (fun c_1 => ?_) (fun c_1 => ?_)
  · obtain ⟨hP9, hD9⟩ := k_c2 (wc := [(kX0 aBe k0 k1 k2 k3)]) hP hD [0] (by decide +kernel) rfl
    exact W.vret hx₀ hb hr (fun t₀ ht hW => ⟨⟨(k_fn [k0, k1, k2, k3], k_fa [], k_fl [], k_fL [], k_fp []), rfl, ⟨(if_neg (show ¬ (k0 < t1) from (Int32.not_lt.mpr c_1))).symm, (if_neg (show ¬ (k0 < t1) from (Int32.not_lt.mpr c_1))).symm, (if_neg (show ¬ (k0 < t1) from (Int32.not_lt.mpr c_1))).symm, (if_neg (show ¬ (k0 < t1) from (Int32.not_lt.mpr c_1))).symm⟩, by rw [ht]; exact hP9, va_K.moved hW.alike hK, hD9⟩, hS.F ht⟩) hS.2.2 dX0_note_29
  · refine lv_aload_n hx₀ hb dX0_note_8 rfl (lv_at hl 0 rfl) ?_
    refine lv_iload_n hx₀ hb dX0_note_9 rfl (lv_at hl 1 rfl) ?_
    refine va_put (D := (dC, dI)) (ci := 0) (v := .int t1) (ty := .int) (C := RX0) (T := TX0) (N := 4) hx₀ hb hts inlX0 tyX0 tyX0_ok nmX0 hown hK hP hD hS 0 rfl rfl 0 (by decide) (hts (.fieldLink RX0 21 "BittenStick$Climb" "far" "I") wd_619) (fun _ h9 => h9) rfl (by decide +kernel) rfl rfl (Nat.le_of_ble_eq_true rfl) dX0_note_10 ?_
    clear hP hD hS
    intro H locs hP hD hS
    replace hP := k_w2 (wt := [(kX0 aBe t1 k1 k2 k3)]) hP hD rfl
    replace hD := hP.2
    replace hP := hP.1
    refine lv_aload_n hx₀ hb dX0_note_13 rfl (lv_at hl 0 rfl) ?_
    refine lv_iload_n hx₀ hb dX0_note_14 rfl (lv_at hl 2 rfl) ?_
    refine va_put (D := (dC, dI)) (ci := 0) (v := .int h1) (ty := .int) (C := RX0) (T := TX0) (N := 4) hx₀ hb hts inlX0 tyX0 tyX0_ok nmX0 hown hK hP hD hS 0 rfl rfl 1 (by decide) (hts (.fieldLink RX0 9 "BittenStick$Climb" "first" "I") wd_634) (fun _ h9 => h9) rfl (by decide +kernel) rfl rfl (Nat.le_of_ble_eq_true rfl) dX0_note_15 ?_
    clear hP hD hS
    intro H locs hP hD hS
    replace hP := k_w2 (wt := [(kX0 aBe t1 h1 k2 k3)]) hP hD rfl
    replace hD := hP.2
    replace hP := hP.1
    refine lv_aload_n hx₀ hb dX0_note_18 rfl (lv_at hl 0 rfl) ?_
    refine lv_iload_n hx₀ hb dX0_note_19 rfl (lv_at hl 3 rfl) ?_
    refine va_put (D := (dC, dI)) (ci := 0) (v := .int m1) (ty := .int) (C := RX0) (T := TX0) (N := 4) hx₀ hb hts inlX0 tyX0 tyX0_ok nmX0 hown hK hP hD hS 0 rfl rfl 2 (by decide) (hts (.fieldLink RX0 15 "BittenStick$Climb" "turn" "I") wd_635) (fun _ h9 => h9) rfl (by decide +kernel) rfl rfl (Nat.le_of_ble_eq_true rfl) dX0_note_20 ?_
    clear hP hD hS
    intro H locs hP hD hS
    replace hP := k_w2 (wt := [(kX0 aBe t1 h1 m1 k3)]) hP hD rfl
    replace hD := hP.2
    replace hP := hP.1
    refine lv_aload_n hx₀ hb dX0_note_23 rfl (lv_at hl 0 rfl) ?_
    refine lv_iload hx₀ hb dX0_note_24 (lv_at hl 4 rfl) ?_
    refine va_put (D := (dC, dI)) (ci := 0) (v := .int o1) (ty := .int) (C := RX0) (T := TX0) (N := 4) hx₀ hb hts inlX0 tyX0 tyX0_ok nmX0 hown hK hP hD hS 0 rfl rfl 3 (by decide) (hts (.fieldLink RX0 18 "BittenStick$Climb" "second" "I") wd_636) (fun _ h9 => h9) rfl (by decide +kernel) rfl rfl (Nat.le_of_ble_eq_true rfl) dX0_note_26 ?_
    clear hP hD hS
    intro H locs hP hD hS
    replace hP := k_w2 (wt := [(kX0 aBe t1 h1 m1 o1)]) hP hD rfl
    replace hD := hP.2
    replace hP := hP.1
    obtain ⟨hP9, hD9⟩ := k_c2 (wc := [(kX0 aBe t1 h1 m1 o1)]) hP hD [0] (by decide +kernel) rfl
    exact W.vret hx₀ hb hr (fun t₀ ht hW => ⟨⟨(k_fn [t1, h1, m1, o1], k_fa [], k_fl [], k_fL [], k_fp []), rfl, ⟨(if_pos (show k0 < t1 from (Int32.not_le.mp c_1))).symm, (if_pos (show k0 < t1 from (Int32.not_le.mp c_1))).symm, (if_pos (show k0 < t1 from (Int32.not_le.mp c_1))).symm, (if_pos (show k0 < t1 from (Int32.not_le.mp c_1))).symm⟩, by rw [ht]; exact hP9, va_K.moved hW.alike hK, hD9⟩, hS.F ht⟩) hS.2.2 dX0_note_29
set_option maxHeartbeats 4000000 in
set_option maxRecDepth 100000 in
theorem e_cTold (l : Launch) (dC : Nat → ClassId) (dI : Nat → Nat → Nat) (cI cJ cQ : ClassId) (sz : Nat) (aBe : Nat) (i1 : Int32) (k0 : Int32) (k1 : Int32) (k2 : Int32) (k3 : Int32) : Met l yX0_told (kW yX0_told cX0_told 2 (some .int)) { frames := 0, cells := 0, slots := 0, locals := 0 } (kPre dC dI cI cJ cQ sz [.ref aBe, .int i1] [(kX0 aBe k0 k1 k2 k3)]) (va_Qi (fun (r : Int32) (u : Unit) => (r = if i1 = 0 then k1 else if i1 = 1 then k2 else if i1 = 2 then k3 else k0)) (fun (u : Unit) t₀ => kB dC dI cI cJ cQ (va_A [(kX0 aBe k0 k1 k2 k3)] sz) [(kX0 aBe k0 k1 k2 k3)] t₀) (va_A [(kX0 aBe k0 k1 k2 k3)] sz)) 0 0 (va_A [(kX0 aBe k0 k1 k2 k3)] sz) := by
  refine Met.ofW (cc := cX0_told) (maxL := 2) (ret := (some .int)) (by decide) rfl ?_
  intro p₀ e₀ s₀ m₀ args below meth c₀ s₁ B hml hv₀
  obtain ⟨rfl, hsz, hP, hK, hD0, hN⟩ := hv₀
  have hx₀ := B.exec
  have hb := B.bytes
  have hr := B.returns
  have hts := atoms_spec (ws := (kW yX0_told cX0_told 2 (some .int))) B.pre
  have hts := fun w h => hts w (List.mem_cons_of_mem _ h)
  have hown : s₀.vm.findClass RX0 = some m₀.cls := findClass_of_methodNamed B.named
  have hlocks := B.notSynchronized
  subst hsz
  have hD := hD0.self (sz := s₀.heap.size)
  generalize hAe : va_A [(kX0 aBe k0 k1 k2 k3)] s₀.heap.size = A at hD ⊢
  have hA : ∀ q : Nat, s₀.heap.size ≤ q → A q := fun q h => by rw [← hAe]; exact Or.inr h
  have hS : va_S A s₀.heap s₀.heap [] := va_S.rf
  have hP : va_P (dC, dI) vwCl [(kX0 aBe k0 k1 k2 k3)] s₀.heap := hP
  have hl := lv_entry ([.ref aBe, .int i1]) (n := 2) (Nat.le_of_ble_eq_true rfl)
  rw [lg_entry_eq]
  generalize (lg_sl ([.ref aBe, .int i1]) ++ List.replicate (2 - (lg_sl ([.ref aBe, .int i1])).length) Slot.unset).toArray = ls at hl ⊢
  have hl : lv_has ls 2 [(0, .ref aBe), (1, .int i1)] := hl
  obtain ⟨H, hH⟩ : ∃ z : Heap, z = s₀.heap := ⟨_, rfl⟩
  rw [← hH] at hP
  have hS : va_S A s₀.heap H [] := by rw [hH]; exact hS
  refine k_heap hH ?_
  have hD : va_D A [(kX0 aBe k0 k1 k2 k3)] := hD
  obtain ⟨locs, hlo⟩ : ∃ z : List Loc, z = [] := ⟨_, rfl⟩
  rw [← hlo] at hS ⊢
  clear hlo hH hAe hD0
  refine lv_iload_n hx₀ hb dX0_told_0 rfl (lv_at hl 1 rfl) ?_
  by_cases c_1 : i1 = 0
  · subst c_1
    refine lv_tableIn (off := 27) (tgt := 28) hx₀ hb dX0_told_1 (by decide +kernel) (by decide +kernel) (by decide +kernel) (by decide) ?_
    refine lv_aload_n hx₀ hb dX0_told_28 rfl (lv_at hl 0 rfl) ?_
    refine va_get (D := (dC, dI)) (ci := 0) (v := .int k1) (C := RX0) (T := TX0) (N := 4) hx₀ hb hts inlX0 hown hK hP 0 rfl rfl 1 (by decide) (hts (.fieldLink RX0 9 "BittenStick$Climb" "first" "I") wd_634) (fun _ h9 => h9) rfl dX0_told_29 ?_
    obtain ⟨hP9, hD9⟩ := k_c2 (wc := [(kX0 aBe k0 k1 k2 k3)]) hP hD [0] (by decide +kernel) rfl
    exact W.iret (v := k1) hx₀ hb hr (fun t₀ ht hW => ⟨⟨k1, (), rfl, (show (k1 : Int32) = if (0 : Int32) = 0 then k1 else if (0 : Int32) = 1 then k2 else if (0 : Int32) = 2 then k3 else k0 from (if_pos (rfl)).symm), by rw [ht]; exact hP9, va_K.moved hW.alike hK, hD9⟩, hS.F ht⟩) hS.2.2 dX0_told_32
  by_cases c_2 : i1 = 1
  · subst c_2
    refine lv_tableIn (off := 32) (tgt := 33) hx₀ hb dX0_told_1 (by decide +kernel) (by decide +kernel) (by decide +kernel) (by decide) ?_
    refine lv_aload_n hx₀ hb dX0_told_33 rfl (lv_at hl 0 rfl) ?_
    refine va_get (D := (dC, dI)) (ci := 0) (v := .int k2) (C := RX0) (T := TX0) (N := 4) hx₀ hb hts inlX0 hown hK hP 0 rfl rfl 2 (by decide) (hts (.fieldLink RX0 15 "BittenStick$Climb" "turn" "I") wd_635) (fun _ h9 => h9) rfl dX0_told_34 ?_
    obtain ⟨hP9, hD9⟩ := k_c2 (wc := [(kX0 aBe k0 k1 k2 k3)]) hP hD [0] (by decide +kernel) rfl
    exact W.iret (v := k2) hx₀ hb hr (fun t₀ ht hW => ⟨⟨k2, (), rfl, (show (k2 : Int32) = if (1 : Int32) = 0 then k1 else if (1 : Int32) = 1 then k2 else if (1 : Int32) = 2 then k3 else k0 from (((if_pos (rfl)).symm).trans (if_neg (show ¬ ((1 : Int32) = 0) from (fun z => absurd z (by decide)))).symm)), by rw [ht]; exact hP9, va_K.moved hW.alike hK, hD9⟩, hS.F ht⟩) hS.2.2 dX0_told_37
  by_cases c_3 : i1 = 2
  · subst c_3
    refine lv_tableIn (off := 37) (tgt := 38) hx₀ hb dX0_told_1 (by decide +kernel) (by decide +kernel) (by decide +kernel) (by decide) ?_
    refine lv_aload_n hx₀ hb dX0_told_38 rfl (lv_at hl 0 rfl) ?_
    refine va_get (D := (dC, dI)) (ci := 0) (v := .int k3) (C := RX0) (T := TX0) (N := 4) hx₀ hb hts inlX0 hown hK hP 0 rfl rfl 3 (by decide) (hts (.fieldLink RX0 18 "BittenStick$Climb" "second" "I") wd_636) (fun _ h9 => h9) rfl dX0_told_39 ?_
    obtain ⟨hP9, hD9⟩ := k_c2 (wc := [(kX0 aBe k0 k1 k2 k3)]) hP hD [0] (by decide +kernel) rfl
    exact W.iret (v := k3) hx₀ hb hr (fun t₀ ht hW => ⟨⟨k3, (), rfl, (show (k3 : Int32) = if (2 : Int32) = 0 then k1 else if (2 : Int32) = 1 then k2 else if (2 : Int32) = 2 then k3 else k0 from (((((if_pos (rfl)).symm).trans (if_neg (show ¬ ((2 : Int32) = 1) from (fun z => absurd z (by decide)))).symm)).trans (if_neg (show ¬ ((2 : Int32) = 0) from (fun z => absurd z (by decide)))).symm)), by rw [ht]; exact hP9, va_K.moved hW.alike hK, hD9⟩, hS.F ht⟩) hS.2.2 dX0_told_42
  refine lv_tableOut (tgt := 43) hx₀ hb dX0_told_1 (k_out3 c_1 c_2 c_3) (by decide) ?_
  refine lv_aload_n hx₀ hb dX0_told_43 rfl (lv_at hl 0 rfl) ?_
  refine va_get (D := (dC, dI)) (ci := 0) (v := .int k0) (C := RX0) (T := TX0) (N := 4) hx₀ hb hts inlX0 hown hK hP 0 rfl rfl 0 (by decide) (hts (.fieldLink RX0 21 "BittenStick$Climb" "far" "I") wd_619) (fun _ h9 => h9) rfl dX0_told_44 ?_
  obtain ⟨hP9, hD9⟩ := k_c2 (wc := [(kX0 aBe k0 k1 k2 k3)]) hP hD [0] (by decide +kernel) rfl
  exact W.iret (v := k0) hx₀ hb hr (fun t₀ ht hW => ⟨⟨k0, (), rfl, (show (k0 : Int32) = if i1 = 0 then k1 else if i1 = 1 then k2 else if i1 = 2 then k3 else k0 from (((((if_neg (c_3)).symm).trans (if_neg (c_2)).symm)).trans (if_neg (c_1)).symm)), by rw [ht]; exact hP9, va_K.moved hW.alike hK, hD9⟩, hS.F ht⟩) hS.2.2 dX0_told_47
theorem lf_e_trySecond_1 (a0 : Int32) (a1 : Nat) (h0 : 1 ≤ a0 ∧ a0 ≤ 10) (h1 : (10 - a0.toInt).toNat = a1) (h2 : 9 < a0) : (10 : Int32) = a0 := by
  first | rfl | assumption | decide | exact Or.inl rfl | (first | omega | (have hr0 := Int32.toInt_lt a0; have hs0 := Int32.le_toInt a0; simp only [Int64.toInt_add, Int64.toInt_sub, Int32.toInt_add, Int32.toInt_sub, Int32.toInt_mul, Int64.le_iff_toInt_le, Int64.lt_iff_toInt_lt, Int32.le_iff_toInt_le, Int32.lt_iff_toInt_lt, ← Int32.toInt_inj, ← Int64.toInt_inj, Int32.toInt_toInt64, kc_1, kc_9, kc_10] at *; (first | omega | ((try simp (disch := omega) only [k_bm64] at *); (try simp (disch := omega) only [k_bm] at *); (try simp (disch := omega) only [k_bm] at *); omega) | (simp only [Int.bmod] at *; omega))))
theorem lf_e_trySecond_2 (a0 : Int32) (a1 : Int32) (a2 : Int32) (a3 : Int32) (a4 : Nat) (a5 : Int32) (a6 : Int32) (a7 : Int32) (a8 : Int32) (a9 : Int32) (a10 : Int32) (a11 : Int32) (a12 : Int32) (a13 : Int32) (h0 : 1 ≤ a0 ∧ a0 ≤ 9) (h1 : 1 ≤ a1 ∧ a1 ≤ 23) (h2 : 0 ≤ a2 ∧ a2 ≤ 24) (h3 : a1 ≤ a2) (h4 : 1 ≤ a3 ∧ a3 ≤ 10) (h5 : (10 - a3.toInt).toNat = a4) (h6 : ¬ 9 < a3) (h7 : a1 ≤ a5 ∧ a5 ≤ a2) (h8 : (a6) = if a7 < a5 then a5 else a7) (h9 : (a8) = if a7 < a5 then a0 else a9) (h10 : (a10) = if a7 < a5 then a1 else a11) (h11 : (a12) = if a7 < a5 then a3 else a13) : 1 ≤ (a3 + 1) ∧ (a3 + 1) ≤ 10 := by
  first | rfl | assumption | decide | exact Or.inl rfl | (first | omega | (have hr0 := Int32.toInt_lt a0; have hs0 := Int32.le_toInt a0; have hr1 := Int32.toInt_lt a1; have hs1 := Int32.le_toInt a1; have hr2 := Int32.toInt_lt a2; have hs2 := Int32.le_toInt a2; have hr3 := Int32.toInt_lt a3; have hs3 := Int32.le_toInt a3; have hr4 := Int32.toInt_lt a5; have hs4 := Int32.le_toInt a5; have hr5 := Int32.toInt_lt a6; have hs5 := Int32.le_toInt a6; have hr6 := Int32.toInt_lt a7; have hs6 := Int32.le_toInt a7; have hr7 := Int32.toInt_lt a8; have hs7 := Int32.le_toInt a8; have hr8 := Int32.toInt_lt a9; have hs8 := Int32.le_toInt a9; have hr9 := Int32.toInt_lt a10; have hs9 := Int32.le_toInt a10; have hr10 := Int32.toInt_lt a11; have hs10 := Int32.le_toInt a11; have hr11 := Int32.toInt_lt a12; have hs11 := Int32.le_toInt a12; have hr12 := Int32.toInt_lt a13; have hs12 := Int32.le_toInt a13; simp only [Int64.toInt_add, Int64.toInt_sub, Int32.toInt_add, Int32.toInt_sub, Int32.toInt_mul, Int64.le_iff_toInt_le, Int64.lt_iff_toInt_lt, Int32.le_iff_toInt_le, Int32.lt_iff_toInt_lt, ← Int32.toInt_inj, ← Int64.toInt_inj, Int32.toInt_toInt64, kc_0, kc_1, kc_9, kc_10, kc_23, kc_24] at *; (first | omega | ((try simp (disch := omega) only [k_bm64] at *); (try simp (disch := omega) only [k_bm] at *); (try simp (disch := omega) only [k_bm] at *); omega) | (simp only [Int.bmod] at *; omega))))
theorem lf_e_trySecond_3 (a0 : Int32) (a1 : Int32) (a2 : Int32) (a3 : Int32) (a4 : Nat) (a5 : Int32) (a6 : Int32) (a7 : Int32) (a8 : Int32) (a9 : Int32) (a10 : Int32) (a11 : Int32) (a12 : Int32) (a13 : Int32) (h0 : 1 ≤ a0 ∧ a0 ≤ 9) (h1 : 1 ≤ a1 ∧ a1 ≤ 23) (h2 : 0 ≤ a2 ∧ a2 ≤ 24) (h3 : a1 ≤ a2) (h4 : 1 ≤ a3 ∧ a3 ≤ 10) (h5 : (10 - a3.toInt).toNat = a4) (h6 : ¬ 9 < a3) (h7 : a1 ≤ a5 ∧ a5 ≤ a2) (h8 : (a6) = if a7 < a5 then a5 else a7) (h9 : (a8) = if a7 < a5 then a0 else a9) (h10 : (a10) = if a7 < a5 then a1 else a11) (h11 : (a12) = if a7 < a5 then a3 else a13) : (10 - (a3 + 1).toInt).toNat < a4 := by
  first | rfl | assumption | decide | exact Or.inl rfl | (first | omega | (have hr0 := Int32.toInt_lt a0; have hs0 := Int32.le_toInt a0; have hr1 := Int32.toInt_lt a1; have hs1 := Int32.le_toInt a1; have hr2 := Int32.toInt_lt a2; have hs2 := Int32.le_toInt a2; have hr3 := Int32.toInt_lt a3; have hs3 := Int32.le_toInt a3; have hr4 := Int32.toInt_lt a5; have hs4 := Int32.le_toInt a5; have hr5 := Int32.toInt_lt a6; have hs5 := Int32.le_toInt a6; have hr6 := Int32.toInt_lt a7; have hs6 := Int32.le_toInt a7; have hr7 := Int32.toInt_lt a8; have hs7 := Int32.le_toInt a8; have hr8 := Int32.toInt_lt a9; have hs8 := Int32.le_toInt a9; have hr9 := Int32.toInt_lt a10; have hs9 := Int32.le_toInt a10; have hr10 := Int32.toInt_lt a11; have hs10 := Int32.le_toInt a11; have hr11 := Int32.toInt_lt a12; have hs11 := Int32.le_toInt a12; have hr12 := Int32.toInt_lt a13; have hs12 := Int32.le_toInt a13; simp only [Int64.toInt_add, Int64.toInt_sub, Int32.toInt_add, Int32.toInt_sub, Int32.toInt_mul, Int64.le_iff_toInt_le, Int64.lt_iff_toInt_lt, Int32.le_iff_toInt_le, Int32.lt_iff_toInt_lt, ← Int32.toInt_inj, ← Int64.toInt_inj, Int32.toInt_toInt64, kc_0, kc_1, kc_9, kc_10, kc_23, kc_24] at *; (first | omega | ((try simp (disch := omega) only [k_bm64] at *); (try simp (disch := omega) only [k_bm] at *); (try simp (disch := omega) only [k_bm] at *); omega) | (simp only [Int.bmod] at *; omega))))
set_option maxHeartbeats 4000000 in
set_option maxRecDepth 100000 in
theorem e_trySecond (l : Launch) (dC : Nat → ClassId) (dI : Nat → Nat → Nat) (cI cJ cQ : ClassId) (sz : Nat) (aBe : Nat) (aTr : Nat) (mi : Int32) (h1 : Int32) (m1 : Int32) (k0 : Int32) (k1 : Int32) (k2 : Int32) (k3 : Int32) (aLa : Nat) (aPa : Nat) (aGe : Nat) (gL : Nat) (gR : Nat) (lf : Nat) (rt : Nat) (tgo : Int32) (tca : Int32) (tki : Int32) (tso : Int32) (tbe : Int32) (twe : Int32) (tle : Int32) (tan : Int32) (tco : Int32) (ten : Int32) (vLa : Nat) (l4 : Int32) (a4 : Int32) (n4 : Int32) (f4 : Nat → Int32) (hh0 : 1 ≤ h1 ∧ h1 ≤ 9) (hh1 : 1 ≤ m1 ∧ m1 ≤ 23) (hh2 : 0 ≤ mi ∧ mi ≤ 24) (hh3 : m1 ≤ mi) (hh4 : k_ss (kAt 24 f4) tca tle tki tso tbe h1 m1 tan tco) : Met l yX0_trySecond (kW yX0_trySecond cX0_trySecond 8 none) { frames := 2, cells := 0, slots := 0, locals := 49 } (kPre dC dI cI cJ cQ sz [.ref aBe, .ref aTr, .int mi, .int h1, .int m1] [(kX0 aBe k0 k1 k2 k3), (kX10 aTr aLa aPa aGe gL gR lf rt tgo tca tki tso tbe twe tle tan tco ten), (kX4 aLa vLa l4 a4 n4), (kAI vLa cI 24 f4)]) (va_Qv (fun (u : kS) => (kV (kFx (kAt 24 f4) tca tle tki tso tbe mi) h1 m1 10 ((u.1 0), (u.1 1), (u.1 2), (u.1 3)) = kV (kFx (kAt 24 f4) tca tle tki tso tbe mi) h1 m1 1 (k0, k1, k2, k3)) ∧ ((u.1 4) = tan) ∧ ((u.1 5) = tco)) (fun (u : kS) t₀ => kB dC dI cI cJ cQ (va_A [(kX0 aBe k0 k1 k2 k3), (kX10 aTr aLa aPa aGe gL gR lf rt tgo tca tki tso tbe twe tle tan tco ten), (kX4 aLa vLa l4 a4 n4), (kAI vLa cI 24 f4)] sz) [(kX0 aBe (u.1 0) (u.1 1) (u.1 2) (u.1 3)), (kX10 aTr aLa aPa aGe gL gR lf rt tgo tca tki tso tbe twe tle (u.1 4) (u.1 5) (u.1 6)), (kX4 aLa vLa l4 a4 n4), (kAI vLa cI 24 f4)] t₀) (va_A [(kX0 aBe k0 k1 k2 k3), (kX10 aTr aLa aPa aGe gL gR lf rt tgo tca tki tso tbe twe tle tan tco ten), (kX4 aLa vLa l4 a4 n4), (kAI vLa cI 24 f4)] sz)) 0 0 (va_A [(kX0 aBe k0 k1 k2 k3), (kX10 aTr aLa aPa aGe gL gR lf rt tgo tca tki tso tbe twe tle tan tco ten), (kX4 aLa vLa l4 a4 n4), (kAI vLa cI 24 f4)] sz) := by
  refine Met.ofW (cc := cX0_trySecond) (maxL := 8) (ret := none) (by decide) rfl ?_
  intro p₀ e₀ s₀ m₀ args below meth c₀ s₁ B hml hv₀
  obtain ⟨rfl, hsz, hP, hK, hD0, hN⟩ := hv₀
  have hx₀ := B.exec
  have hb := B.bytes
  have hr := B.returns
  have hts := atoms_spec (ws := (kW yX0_trySecond cX0_trySecond 8 none)) B.pre
  have hts := fun w h => hts w (List.mem_cons_of_mem _ h)
  have hown : s₀.vm.findClass RX0 = some m₀.cls := findClass_of_methodNamed B.named
  have hlocks := B.notSynchronized
  subst hsz
  have hD := hD0.self (sz := s₀.heap.size)
  generalize hAe : va_A [(kX0 aBe k0 k1 k2 k3), (kX10 aTr aLa aPa aGe gL gR lf rt tgo tca tki tso tbe twe tle tan tco ten), (kX4 aLa vLa l4 a4 n4), (kAI vLa cI 24 f4)] s₀.heap.size = A at hD ⊢
  have hA : ∀ q : Nat, s₀.heap.size ≤ q → A q := fun q h => by rw [← hAe]; exact Or.inr h
  have hS : va_S A s₀.heap s₀.heap [] := va_S.rf
  have hP : va_P (dC, dI) vwCl [(kX0 aBe k0 k1 k2 k3), (kX10 aTr aLa aPa aGe gL gR lf rt tgo tca tki tso tbe twe tle tan tco ten), (kX4 aLa vLa l4 a4 n4), (kAI vLa cI 24 f4)] s₀.heap := hP
  have hl := lv_entry ([.ref aBe, .ref aTr, .int mi, .int h1, .int m1]) (n := 8) (Nat.le_of_ble_eq_true rfl)
  rw [lg_entry_eq]
  generalize (lg_sl ([.ref aBe, .ref aTr, .int mi, .int h1, .int m1]) ++ List.replicate (8 - (lg_sl ([.ref aBe, .ref aTr, .int mi, .int h1, .int m1])).length) Slot.unset).toArray = ls at hl ⊢
  have hl : lv_has ls 8 [(0, .ref aBe), (1, .ref aTr), (2, .int mi), (3, .int h1), (4, .int m1)] := hl
  obtain ⟨H, hH⟩ : ∃ z : Heap, z = s₀.heap := ⟨_, rfl⟩
  rw [← hH] at hP
  have hS : va_S A s₀.heap H [] := by rw [hH]; exact hS
  refine k_heap hH ?_
  have hD : va_D A [(kX0 aBe k0 k1 k2 k3), (kX10 aTr aLa aPa aGe gL gR lf rt tgo tca tki tso tbe twe tle tan tco ten), (kX4 aLa vLa l4 a4 n4), (kAI vLa cI 24 f4)] := hD
  obtain ⟨locs, hlo⟩ : ∃ z : List Loc, z = [] := ⟨_, rfl⟩
  rw [← hlo] at hS ⊢
  clear hlo hH hAe hD0
  refine lv_aload_n hx₀ hb dX0_trySecond_0 rfl (lv_at hl 1 rfl) ?_
  refine va_get (D := (dC, dI)) (ci := 9) (v := .int tan) (C := RX10) (T := TX10) (N := 17) hx₀ hb hts inlX10 hown hK hP 1 rfl rfl 14 (by decide) (hts (.fieldLink RX0 50 "BittenStick$Trip" "anger" "I") wd_628) (fun _ h9 => h9) rfl dX0_trySecond_1 ?_
  refine lv_istore (lv' := [(5, .int tan), (0, .ref aBe), (1, .ref aTr), (2, .int mi), (3, .int h1), (4, .int m1)]) hx₀ hb dX0_trySecond_4 hl (by decide) rfl (fun ls hl => ?_)
  refine lv_aload_n hx₀ hb dX0_trySecond_6 rfl (lv_at hl 2 rfl) ?_
  refine va_get (D := (dC, dI)) (ci := 9) (v := .int tco) (C := RX10) (T := TX10) (N := 17) hx₀ hb hts inlX10 hown hK hP 1 rfl rfl 15 (by decide) (hts (.fieldLink RX0 53 "BittenStick$Trip" "cold" "I") wd_629) (fun _ h9 => h9) rfl dX0_trySecond_7 ?_
  refine lv_istore (lv' := [(6, .int tco), (5, .int tan), (0, .ref aBe), (1, .ref aTr), (2, .int mi), (3, .int h1), (4, .int m1)]) hx₀ hb dX0_trySecond_10 hl (by decide) rfl (fun ls hl => ?_)
  refine lv_iconst (v := 1) hx₀ hb dX0_trySecond_12 (by decide +kernel) ?_
  refine lv_istore (lv' := [(7, .int 1), (6, .int tco), (5, .int tan), (0, .ref aBe), (1, .ref aTr), (2, .int mi), (3, .int h1), (4, .int m1)]) hx₀ hb dX0_trySecond_13 hl (by decide) rfl (fun ls hl => ?_)
  refine (?keyz1 : ∀ (jz1 : Nat) (oz1 : Int32) (y0z1 : Int32) (y1z1 : Int32) (y2z1 : Int32) (y3z1 : Int32) (x1z1 : Int32) (x2z1 : Int32) (x3z1 : Int32) (H : Heap) (locs : List Loc) (ls : Array Slot), (1 ≤ oz1 ∧ oz1 ≤ 10) → (x1z1 = tan) → (x2z1 = tco) → (kV (kFx (kAt 24 f4) tca tle tki tso tbe mi) h1 m1 oz1 (y0z1, y1z1, y2z1, y3z1) = kV (kFx (kAt 24 f4) tca tle tki tso tbe mi) h1 m1 1 (k0, k1, k2, k3)) → ((10 - oz1.toInt).toNat = jz1) → va_P (dC, dI) vwCl [(kX0 aBe y0z1 y1z1 y2z1 y3z1), (kX10 aTr aLa aPa aGe gL gR lf rt tgo tca tki tso tbe twe tle x1z1 x2z1 x3z1), (kX4 aLa vLa l4 a4 n4), (kAI vLa cI 24 f4)] H → va_D A [(kX0 aBe y0z1 y1z1 y2z1 y3z1), (kX10 aTr aLa aPa aGe gL gR lf rt tgo tca tki tso tbe twe tle x1z1 x2z1 x3z1), (kX4 aLa vLa l4 a4 n4), (kAI vLa cI 24 f4)] → va_S A s₀.heap H locs → lv_has ls 8 [(7, .int oz1), (6, .int tco), (5, .int tan), (0, .ref aBe), (1, .ref aTr), (2, .int mi), (3, .int h1), (4, .int m1)] → W p₀ l e₀ _ s₀ m₀ _ below meth c₀ H locs _ _ _ (F0 m₀ 15 ls [])) _ (1 : Int32) k0 k1 k2 k3 tan tco ten H locs ls (show 1 ≤ (1 : Int32) ∧ (1 : Int32) ≤ 10 from ⟨(by decide), (by decide)⟩) (rfl) (rfl) (rfl) rfl hP hD hS hl
  clear hP hD hS hl
  intro jz1
  induction jz1 using Nat.strongRecOn with
  | ind jz1 ihz1 =>
    intro oz1 y0z1 y1z1 y2z1 y3z1 x1z1 x2z1 x3z1 H locs ls hiz1_0 hiz1_1 hiz1_2 hiz1_3 hjz1 hP hD hS hl
    refine lv_iload hx₀ hb dX0_trySecond_15 (lv_at hl 0 rfl) ?_
    refine lv_bipush (v := 9) hx₀ hb dX0_trySecond_17 (by decide +kernel) ?_
    refine lv_icmp_gt (tgt := 58) hx₀ hb dX0_trySecond_19 (by decide) (fun c_2 => ?_) (fun c_2 => ?_)
    · obtain ⟨hP9, hD9⟩ := k_c2 (wc := [(kX0 aBe y0z1 y1z1 y2z1 y3z1), (kX10 aTr aLa aPa aGe gL gR lf rt tgo tca tki tso tbe twe tle x1z1 x2z1 x3z1), (kX4 aLa vLa l4 a4 n4), (kAI vLa cI 24 f4)]) hP hD [0, 1, 2, 3] (by decide +kernel) rfl
      exact W.vret hx₀ hb hr (fun t₀ ht hW => ⟨⟨(k_fn [y0z1, y1z1, y2z1, y3z1, x1z1, x2z1, x3z1], k_fa [], k_fl [], k_fL [], k_fp []), rfl, ⟨(by rw [show (10 : Int32) = oz1 from lf_e_trySecond_1 oz1 jz1 hiz1_0 hjz1 c_2]; exact hiz1_3), hiz1_1, hiz1_2⟩, by rw [ht]; exact hP9, va_K.moved hW.alike hK, hD9⟩, hS.F ht⟩) hS.2.2 dX0_trySecond_58
    · refine lv_aload_n hx₀ hb dX0_trySecond_22 rfl (lv_at hl 3 rfl) ?_
      refine lv_aload_n hx₀ hb dX0_trySecond_23 rfl (lv_at hl 4 rfl) ?_
      refine lv_iload hx₀ hb dX0_trySecond_24 (lv_at hl 7 rfl) ?_
      refine lv_iload_n hx₀ hb dX0_trySecond_26 rfl (lv_at hl 5 rfl) ?_
      refine lv_iload hx₀ hb dX0_trySecond_27 (lv_at hl 0 rfl) ?_
      obtain ⟨hPc, hDc, hFc, hC⟩ := k_cw (wc := [(kX10 aTr aLa aPa aGe gL gR lf rt tgo tca tki tso tbe twe tle x1z1 x2z1 x3z1), (kX4 aLa vLa l4 a4 n4), (kAI vLa cI 24 f4)]) hP hD hS hA [1, 2, 3] (by decide +kernel) rfl
      refine va_calli (va_runV (As := [.int m1, .int mi, .int oz1]) (rest := [.ref aBe]) ⟨hx₀, hb, hml, hown, hts⟩ (e_goOn16 l dC dI cI cJ cQ H.size aTr m1 mi oz1 aLa aPa aGe gL gR lf rt tgo tca tki tso tbe twe tle x1z1 x2z1 x3z1 vLa l4 a4 n4 f4 (hh3)) (cwV 3 hts (kGV wd_506 wd_623 wd_504 wd_505 wd_30) rfl rfl rfl (by decide +kernel) ⟨Nat.le_of_ble_eq_true rfl, Nat.le_of_ble_eq_true rfl⟩) (k_preV9 (q0 := 0) hK hPc hDc hN rfl) rfl rfl hl.1 rfl (lv_room (Nat.le_of_ble_eq_true rfl)) dX0_trySecond_29 ⟨by decide +kernel, by decide +kernel⟩) hS (fun q _ h => hFc q h) hFc (fun r_3 u₀ t₀ H1 locs ht hvm hw hB hz1 hk1 hS => ?_)
      obtain ⟨g_4, ga_5, gl_6, gb_7, gp_8⟩ := u₀
      obtain ⟨hP1, hK1, hD1⟩ := hB
      rw [ht] at hP1
      have hJ := k_jn (wr := [(kX0 aBe y0z1 y1z1 y2z1 y3z1)]) (wt := [(kX0 aBe y0z1 y1z1 y2z1 y3z1), (kX10 aTr aLa aPa aGe gL gR lf rt tgo tca tki tso tbe twe tle (g_4 0) (g_4 1) (g_4 2)), (kX4 aLa vLa l4 a4 n4), (kAI vLa cI 24 f4)]) hP hD hC [0] rfl (by decide +kernel) (by decide +kernel) hk1 hFc hP1 hD1 rfl
      clear hP hD hPc hDc hFc hC hP1 hD1 hK1 hz1 hk1 hvm ht
      obtain ⟨hP, hD⟩ := hJ
      generalize H1 = H at hP hS ⊢
      try dsimp only at hw
      obtain ⟨c_9, c_10, c_11, c_12, c_13⟩ := hw
      refine lv_iload_n hx₀ hb dX0_trySecond_32 rfl (lv_at hl 6 rfl) ?_
      refine lv_iload hx₀ hb dX0_trySecond_33 (lv_at hl 7 rfl) ?_
      refine lv_iload hx₀ hb dX0_trySecond_35 (lv_at hl 0 rfl) ?_
      obtain ⟨hPc, hDc, hFc, hC⟩ := k_cw (wc := [(kX0 aBe y0z1 y1z1 y2z1 y3z1)]) hP hD hS hA [0] (by decide +kernel) rfl
      refine va_callv (va_runV (As := [.int r_3, .int h1, .int m1, .int oz1]) (rest := []) ⟨hx₀, hb, hml, hown, hts⟩ (e_note l dC dI cI cJ cQ H.size aBe r_3 h1 m1 oz1 y0z1 y1z1 y2z1 y3z1) (cwV 4 hts (kGV wd_633 wd_630 wd_631 wd_632 wd_34) rfl rfl rfl (by decide +kernel) ⟨Nat.le_of_ble_eq_true rfl, Nat.le_of_ble_eq_true rfl⟩) (k_preV0 (q0 := 0) hK hPc hDc hN rfl) rfl rfl hl.1 rfl (lv_room (Nat.le_of_ble_eq_true rfl)) dX0_trySecond_37 ⟨by decide +kernel, by decide +kernel⟩) hS (fun q _ h => hFc q h) hFc (fun u₀ t₀ H1 locs ht hvm hw hB hz1 hk1 hS => ?_)
      obtain ⟨g_15, ga_16, gl_17, gb_18, gp_19⟩ := u₀
      obtain ⟨hP1, hK1, hD1⟩ := hB
      rw [ht] at hP1
      have hJ := k_jn (wr := [(kX10 aTr aLa aPa aGe gL gR lf rt tgo tca tki tso tbe twe tle (g_4 0) (g_4 1) (g_4 2)), (kX4 aLa vLa l4 a4 n4), (kAI vLa cI 24 f4)]) (wt := [(kX10 aTr aLa aPa aGe gL gR lf rt tgo tca tki tso tbe twe tle (g_4 0) (g_4 1) (g_4 2)), (kX4 aLa vLa l4 a4 n4), (kAI vLa cI 24 f4), (kX0 aBe (g_15 0) (g_15 1) (g_15 2) (g_15 3))]) hP hD hC [1, 2, 3] rfl (by decide +kernel) (by decide +kernel) hk1 hFc hP1 hD1 rfl
      clear hP hD hPc hDc hFc hC hP1 hD1 hK1 hz1 hk1 hvm ht
      obtain ⟨hP, hD⟩ := hJ
      generalize H1 = H at hP hS ⊢
      try dsimp only at hw
      obtain ⟨c_20, c_21, c_22, c_23⟩ := hw
      refine lv_aload_n hx₀ hb dX0_trySecond_40 rfl (lv_at hl 4 rfl) ?_
      refine lv_iload hx₀ hb dX0_trySecond_41 (lv_at hl 2 rfl) ?_
      refine va_put (D := (dC, dI)) (ci := 9) (v := .int tan) (ty := .int) (C := RX10) (T := TX10) (N := 17) hx₀ hb hts inlX10 tyX10 tyX10_ok nmX10 hown hK hP hD hS 0 rfl rfl 14 (by decide) (hts (.fieldLink RX0 50 "BittenStick$Trip" "anger" "I") wd_628) (fun _ h9 => h9) rfl (by decide +kernel) rfl rfl (Nat.le_of_ble_eq_true rfl) dX0_trySecond_43 ?_
      clear hP hD hS
      intro H locs hP hD hS
      replace hP := k_w2 (wt := [(kX10 aTr aLa aPa aGe gL gR lf rt tgo tca tki tso tbe twe tle tan (g_4 1) (g_4 2)), (kX4 aLa vLa l4 a4 n4), (kAI vLa cI 24 f4), (kX0 aBe (g_15 0) (g_15 1) (g_15 2) (g_15 3))]) hP hD rfl
      replace hD := hP.2
      replace hP := hP.1
      refine lv_aload_n hx₀ hb dX0_trySecond_46 rfl (lv_at hl 4 rfl) ?_
      refine lv_iload hx₀ hb dX0_trySecond_47 (lv_at hl 1 rfl) ?_
      refine va_put (D := (dC, dI)) (ci := 9) (v := .int tco) (ty := .int) (C := RX10) (T := TX10) (N := 17) hx₀ hb hts inlX10 tyX10 tyX10_ok nmX10 hown hK hP hD hS 0 rfl rfl 15 (by decide) (hts (.fieldLink RX0 53 "BittenStick$Trip" "cold" "I") wd_629) (fun _ h9 => h9) rfl (by decide +kernel) rfl rfl (Nat.le_of_ble_eq_true rfl) dX0_trySecond_49 ?_
      clear hP hD hS
      intro H locs hP hD hS
      replace hP := k_w2 (wt := [(kX10 aTr aLa aPa aGe gL gR lf rt tgo tca tki tso tbe twe tle tan tco (g_4 2)), (kX4 aLa vLa l4 a4 n4), (kAI vLa cI 24 f4), (kX0 aBe (g_15 0) (g_15 1) (g_15 2) (g_15 3))]) hP hD rfl
      replace hD := hP.2
      replace hP := hP.1
      refine lv_iinc (v := oz1 + 1) (lv' := [(7, .int (oz1 + 1)), (6, .int tco), (5, .int tan), (0, .ref aBe), (1, .ref aTr), (2, .int mi), (3, .int h1), (4, .int m1)]) hx₀ hb dX0_trySecond_52 hl (k := 0) rfl rfl (by decide) rfl (fun ls hl => ?_)
      refine lv_goto (tgt := 15) hx₀ hb dX0_trySecond_55 (by decide) ?_
      exact ihz1 _ (lf_e_trySecond_3 h1 m1 mi oz1 jz1 r_3 (g_15 0) y0z1 (g_15 1) y1z1 (g_15 2) y2z1 (g_15 3) y3z1 hh0 hh1 hh2 hh3 hiz1_0 hjz1 c_2 c_13 c_20 c_21 c_22 c_23) (oz1 + 1) (g_15 0) (g_15 1) (g_15 2) (g_15 3) tan tco (g_4 2) _ _ _ (lf_e_trySecond_2 h1 m1 mi oz1 jz1 r_3 (g_15 0) y0z1 (g_15 1) y1z1 (g_15 2) y2z1 (g_15 3) y3z1 hh0 hh1 hh2 hh3 hiz1_0 hjz1 c_2 c_13 c_20 c_21 c_22 c_23) (rfl) (rfl) ((kV_note hh0 hh1 (show 1 ≤ oz1 ∧ oz1 ≤ 9 from ⟨hiz1_0.1, (Int32.not_lt.mp c_2)⟩) (kFx_fly hh0 hh1 (show 1 ≤ oz1 ∧ oz1 ≤ 9 from ⟨hiz1_0.1, (Int32.not_lt.mp c_2)⟩) hh2 hh3 hh4 (by have h9 := c_9; rw [hiz1_1, hiz1_2] at h9; exact h9)) c_20 c_21 c_22 c_23).trans hiz1_3) rfl (hP.sub [3, 0, 1, 2] rfl) (hD.sub [3, 0, 1, 2] (by decide +kernel) rfl) hS (lv_sub hl [0, 1, 2, 3, 4, 5, 6, 7] rfl)
theorem lf_e_plan_1 (a0 : Int32) (a1 : Nat) (h0 : 1 ≤ a0 ∧ a0 ≤ 10) (h1 : (10 - a0.toInt).toNat = a1) (h2 : 9 < a0) : a0 = 10 := by
  first | rfl | assumption | decide | exact Or.inl rfl | (first | omega | (have hr0 := Int32.toInt_lt a0; have hs0 := Int32.le_toInt a0; simp only [Int64.toInt_add, Int64.toInt_sub, Int32.toInt_add, Int32.toInt_sub, Int32.toInt_mul, Int64.le_iff_toInt_le, Int64.lt_iff_toInt_lt, Int32.le_iff_toInt_le, Int32.lt_iff_toInt_lt, ← Int32.toInt_inj, ← Int64.toInt_inj, Int32.toInt_toInt64, kc_1, kc_9, kc_10] at *; (first | omega | ((try simp (disch := omega) only [k_bm64] at *); (try simp (disch := omega) only [k_bm] at *); (try simp (disch := omega) only [k_bm] at *); omega) | (simp only [Int.bmod] at *; omega))))
theorem lf_e_plan_2 (a0 : Int32) (a1 : Nat) (h0 : 1 ≤ a0 ∧ a0 ≤ 10) (h1 : (10 - a0.toInt).toNat = a1) (h2 : ¬ 9 < a0) : 1 ≤ (a0 + 1) ∧ (a0 + 1) ≤ 10 := by
  first | rfl | assumption | decide | exact Or.inl rfl | (first | omega | (have hr0 := Int32.toInt_lt a0; have hs0 := Int32.le_toInt a0; simp only [Int64.toInt_add, Int64.toInt_sub, Int32.toInt_add, Int32.toInt_sub, Int32.toInt_mul, Int64.le_iff_toInt_le, Int64.lt_iff_toInt_lt, Int32.le_iff_toInt_le, Int32.lt_iff_toInt_lt, ← Int32.toInt_inj, ← Int64.toInt_inj, Int32.toInt_toInt64, kc_1, kc_9, kc_10] at *; (first | omega | ((try simp (disch := omega) only [k_bm64] at *); (try simp (disch := omega) only [k_bm] at *); (try simp (disch := omega) only [k_bm] at *); omega) | (simp only [Int.bmod] at *; omega))))
theorem lf_e_plan_3 (a0 : Int32) (a1 : Nat) (h0 : 1 ≤ a0 ∧ a0 ≤ 10) (h1 : (10 - a0.toInt).toNat = a1) (h2 : ¬ 9 < a0) : (10 - (a0 + 1).toInt).toNat < a1 := by
  first | rfl | assumption | decide | exact Or.inl rfl | (first | omega | (have hr0 := Int32.toInt_lt a0; have hs0 := Int32.le_toInt a0; simp only [Int64.toInt_add, Int64.toInt_sub, Int32.toInt_add, Int32.toInt_sub, Int32.toInt_mul, Int64.le_iff_toInt_le, Int64.lt_iff_toInt_lt, Int32.le_iff_toInt_le, Int32.lt_iff_toInt_lt, ← Int32.toInt_inj, ← Int64.toInt_inj, Int32.toInt_toInt64, kc_1, kc_9, kc_10] at *; (first | omega | ((try simp (disch := omega) only [k_bm64] at *); (try simp (disch := omega) only [k_bm] at *); (try simp (disch := omega) only [k_bm] at *); omega) | (simp only [Int.bmod] at *; omega))))
theorem lf_e_plan_4 (a0 : Int32) (a1 : Int32) (a2 : Int32) (a3 : Nat) (a4 : Int32) (a5 : Int32) (a6 : Int32) (a7 : Int32) (a8 : Nat) (a9 : Int32) (a10 : Int32) (a11 : Int32) (h0 : 0 ≤ a0 ∧ a0 ≤ 24) (h1 : 0 ≤ a1) (h2 : 1 ≤ a2 ∧ a2 ≤ 10) (h3 : (10 - a2.toInt).toNat = a3) (h4 : ¬ 9 < a2) (h5 : ¬ a1 ≤ a4) (h6 : (a5) = if a6 = 0 then 1 else 0) (h7 : 1 ≤ a7 ∧ a7 ≤ 24) (h8 : (24 - a7.toInt).toNat = a8) (h9 : ¬ 24 ≤ a7) (h10 : ¬ a9 = 0) (h11 : ¬ a1 ≤ a10) (h12 : a0 < a7) (h13 : (a7 - 1) ≤ a11 ∧ a11 ≤ a0) (h14 : a11 = a7) : False := by
  first | rfl | assumption | decide | exact Or.inl rfl | (first | omega | (have hr0 := Int32.toInt_lt a0; have hs0 := Int32.le_toInt a0; have hr1 := Int32.toInt_lt a1; have hs1 := Int32.le_toInt a1; have hr2 := Int32.toInt_lt a2; have hs2 := Int32.le_toInt a2; have hr3 := Int32.toInt_lt a4; have hs3 := Int32.le_toInt a4; have hr4 := Int32.toInt_lt a5; have hs4 := Int32.le_toInt a5; have hr5 := Int32.toInt_lt a6; have hs5 := Int32.le_toInt a6; have hr6 := Int32.toInt_lt a7; have hs6 := Int32.le_toInt a7; have hr7 := Int32.toInt_lt a9; have hs7 := Int32.le_toInt a9; have hr8 := Int32.toInt_lt a10; have hs8 := Int32.le_toInt a10; have hr9 := Int32.toInt_lt a11; have hs9 := Int32.le_toInt a11; simp only [Int64.toInt_add, Int64.toInt_sub, Int32.toInt_add, Int32.toInt_sub, Int32.toInt_mul, Int64.le_iff_toInt_le, Int64.lt_iff_toInt_lt, Int32.le_iff_toInt_le, Int32.lt_iff_toInt_lt, ← Int32.toInt_inj, ← Int64.toInt_inj, Int32.toInt_toInt64, kc_0, kc_1, kc_9, kc_10, kc_24] at *; (first | omega | ((try simp (disch := omega) only [k_bm64] at *); (try simp (disch := omega) only [k_bm] at *); (try simp (disch := omega) only [k_bm] at *); omega) | (simp only [Int.bmod] at *; omega))))
theorem lf_e_plan_5 (a0 : Int32) (a1 : Int32) (a2 : Int32) (a3 : Nat) (a4 : Int32) (a5 : Int32) (a6 : Nat) (a7 : Int32) (a8 : Int32) (a9 : Int32) (a10 : Int32) (a11 : Int32) (a12 : Int32) (a13 : Int32) (a14 : Int32) (a15 : Int32) (h0 : 0 ≤ a0 ∧ a0 ≤ 24) (h1 : 0 ≤ a1) (h2 : 1 ≤ a2 ∧ a2 ≤ 10) (h3 : (10 - a2.toInt).toNat = a3) (h4 : ¬ 9 < a2) (h5 : ¬ a1 ≤ a4) (h6 : 1 ≤ a5 ∧ a5 ≤ 24) (h7 : (24 - a5.toInt).toNat = a6) (h8 : ¬ 24 ≤ a5) (h9 : ¬ a1 ≤ a7) (h10 : a0 < a5) (h11 : (a5 - 1) ≤ a8 ∧ a8 ≤ a0) (h12 : ¬ a8 = a5) (h13 : (a9) = if a7 < a8 then a8 else a7) (h14 : (a10) = if a7 < a8 then a2 else a11) (h15 : (a12) = if a7 < a8 then a5 else a13) (h16 : (a14) = if a7 < a8 then (1 : Int32) else a15) : 1 ≤ (a5 + 1) ∧ (a5 + 1) ≤ 24 := by
  first | rfl | assumption | decide | exact Or.inl rfl | (first | omega | (have hr0 := Int32.toInt_lt a0; have hs0 := Int32.le_toInt a0; have hr1 := Int32.toInt_lt a1; have hs1 := Int32.le_toInt a1; have hr2 := Int32.toInt_lt a2; have hs2 := Int32.le_toInt a2; have hr3 := Int32.toInt_lt a4; have hs3 := Int32.le_toInt a4; have hr4 := Int32.toInt_lt a5; have hs4 := Int32.le_toInt a5; have hr5 := Int32.toInt_lt a7; have hs5 := Int32.le_toInt a7; have hr6 := Int32.toInt_lt a8; have hs6 := Int32.le_toInt a8; have hr7 := Int32.toInt_lt a9; have hs7 := Int32.le_toInt a9; have hr8 := Int32.toInt_lt a10; have hs8 := Int32.le_toInt a10; have hr9 := Int32.toInt_lt a11; have hs9 := Int32.le_toInt a11; have hr10 := Int32.toInt_lt a12; have hs10 := Int32.le_toInt a12; have hr11 := Int32.toInt_lt a13; have hs11 := Int32.le_toInt a13; have hr12 := Int32.toInt_lt a14; have hs12 := Int32.le_toInt a14; have hr13 := Int32.toInt_lt a15; have hs13 := Int32.le_toInt a15; simp only [Int64.toInt_add, Int64.toInt_sub, Int32.toInt_add, Int32.toInt_sub, Int32.toInt_mul, Int64.le_iff_toInt_le, Int64.lt_iff_toInt_lt, Int32.le_iff_toInt_le, Int32.lt_iff_toInt_lt, ← Int32.toInt_inj, ← Int64.toInt_inj, Int32.toInt_toInt64, kc_0, kc_1, kc_9, kc_10, kc_24] at *; (first | omega | ((try simp (disch := omega) only [k_bm64] at *); (try simp (disch := omega) only [k_bm] at *); (try simp (disch := omega) only [k_bm] at *); omega) | (simp only [Int.bmod] at *; omega))))
theorem lf_e_plan_6 (a0 : Int32) (a1 : Int32) (a2 : Int32) (a3 : Nat) (a4 : Int32) (a5 : Int32) (a6 : Nat) (a7 : Int32) (a8 : Int32) (a9 : Int32) (a10 : Int32) (a11 : Int32) (a12 : Int32) (a13 : Int32) (a14 : Int32) (a15 : Int32) (h0 : 0 ≤ a0 ∧ a0 ≤ 24) (h1 : 0 ≤ a1) (h2 : 1 ≤ a2 ∧ a2 ≤ 10) (h3 : (10 - a2.toInt).toNat = a3) (h4 : ¬ 9 < a2) (h5 : ¬ a1 ≤ a4) (h6 : 1 ≤ a5 ∧ a5 ≤ 24) (h7 : (24 - a5.toInt).toNat = a6) (h8 : ¬ 24 ≤ a5) (h9 : ¬ a1 ≤ a7) (h10 : a0 < a5) (h11 : (a5 - 1) ≤ a8 ∧ a8 ≤ a0) (h12 : ¬ a8 = a5) (h13 : (a9) = if a7 < a8 then a8 else a7) (h14 : (a10) = if a7 < a8 then a2 else a11) (h15 : (a12) = if a7 < a8 then a5 else a13) (h16 : (a14) = if a7 < a8 then (1 : Int32) else a15) : 1 ≤ a5 ∧ a5 ≤ 23 := by
  first | rfl | assumption | decide | exact Or.inl rfl | (first | omega | (have hr0 := Int32.toInt_lt a0; have hs0 := Int32.le_toInt a0; have hr1 := Int32.toInt_lt a1; have hs1 := Int32.le_toInt a1; have hr2 := Int32.toInt_lt a2; have hs2 := Int32.le_toInt a2; have hr3 := Int32.toInt_lt a4; have hs3 := Int32.le_toInt a4; have hr4 := Int32.toInt_lt a5; have hs4 := Int32.le_toInt a5; have hr5 := Int32.toInt_lt a7; have hs5 := Int32.le_toInt a7; have hr6 := Int32.toInt_lt a8; have hs6 := Int32.le_toInt a8; have hr7 := Int32.toInt_lt a9; have hs7 := Int32.le_toInt a9; have hr8 := Int32.toInt_lt a10; have hs8 := Int32.le_toInt a10; have hr9 := Int32.toInt_lt a11; have hs9 := Int32.le_toInt a11; have hr10 := Int32.toInt_lt a12; have hs10 := Int32.le_toInt a12; have hr11 := Int32.toInt_lt a13; have hs11 := Int32.le_toInt a13; have hr12 := Int32.toInt_lt a14; have hs12 := Int32.le_toInt a14; have hr13 := Int32.toInt_lt a15; have hs13 := Int32.le_toInt a15; simp only [Int64.toInt_add, Int64.toInt_sub, Int32.toInt_add, Int32.toInt_sub, Int32.toInt_mul, Int64.le_iff_toInt_le, Int64.lt_iff_toInt_lt, Int32.le_iff_toInt_le, Int32.lt_iff_toInt_lt, ← Int32.toInt_inj, ← Int64.toInt_inj, Int32.toInt_toInt64, kc_0, kc_1, kc_9, kc_10, kc_23, kc_24] at *; (first | omega | ((try simp (disch := omega) only [k_bm64] at *); (try simp (disch := omega) only [k_bm] at *); (try simp (disch := omega) only [k_bm] at *); omega) | (simp only [Int.bmod] at *; omega))))
theorem lf_e_plan_7 (a0 : Int32) (a1 : Int32) (a2 : Int32) (a3 : Nat) (a4 : Int32) (a5 : Int32) (a6 : Nat) (a7 : Int32) (a8 : Int32) (a9 : Int32) (a10 : Int32) (a11 : Int32) (a12 : Int32) (a13 : Int32) (a14 : Int32) (a15 : Int32) (h0 : 0 ≤ a0 ∧ a0 ≤ 24) (h1 : 0 ≤ a1) (h2 : 1 ≤ a2 ∧ a2 ≤ 10) (h3 : (10 - a2.toInt).toNat = a3) (h4 : ¬ 9 < a2) (h5 : ¬ a1 ≤ a4) (h6 : 1 ≤ a5 ∧ a5 ≤ 24) (h7 : (24 - a5.toInt).toNat = a6) (h8 : ¬ 24 ≤ a5) (h9 : ¬ a1 ≤ a7) (h10 : a0 < a5) (h11 : (a5 - 1) ≤ a8 ∧ a8 ≤ a0) (h12 : ¬ a8 = a5) (h13 : (a9) = if a7 < a8 then a8 else a7) (h14 : (a10) = if a7 < a8 then a2 else a11) (h15 : (a12) = if a7 < a8 then a5 else a13) (h16 : (a14) = if a7 < a8 then (1 : Int32) else a15) : (24 - (a5 + 1).toInt).toNat < a6 := by
  first | rfl | assumption | decide | exact Or.inl rfl | (first | omega | (have hr0 := Int32.toInt_lt a0; have hs0 := Int32.le_toInt a0; have hr1 := Int32.toInt_lt a1; have hs1 := Int32.le_toInt a1; have hr2 := Int32.toInt_lt a2; have hs2 := Int32.le_toInt a2; have hr3 := Int32.toInt_lt a4; have hs3 := Int32.le_toInt a4; have hr4 := Int32.toInt_lt a5; have hs4 := Int32.le_toInt a5; have hr5 := Int32.toInt_lt a7; have hs5 := Int32.le_toInt a7; have hr6 := Int32.toInt_lt a8; have hs6 := Int32.le_toInt a8; have hr7 := Int32.toInt_lt a9; have hs7 := Int32.le_toInt a9; have hr8 := Int32.toInt_lt a10; have hs8 := Int32.le_toInt a10; have hr9 := Int32.toInt_lt a11; have hs9 := Int32.le_toInt a11; have hr10 := Int32.toInt_lt a12; have hs10 := Int32.le_toInt a12; have hr11 := Int32.toInt_lt a13; have hs11 := Int32.le_toInt a13; have hr12 := Int32.toInt_lt a14; have hs12 := Int32.le_toInt a14; have hr13 := Int32.toInt_lt a15; have hs13 := Int32.le_toInt a15; simp only [Int64.toInt_add, Int64.toInt_sub, Int32.toInt_add, Int32.toInt_sub, Int32.toInt_mul, Int64.le_iff_toInt_le, Int64.lt_iff_toInt_lt, Int32.le_iff_toInt_le, Int32.lt_iff_toInt_lt, ← Int32.toInt_inj, ← Int64.toInt_inj, Int32.toInt_toInt64, kc_0, kc_1, kc_9, kc_10, kc_24] at *; (first | omega | ((try simp (disch := omega) only [k_bm64] at *); (try simp (disch := omega) only [k_bm] at *); (try simp (disch := omega) only [k_bm] at *); omega) | (simp only [Int.bmod] at *; omega))))
theorem lf_e_plan_8 (a0 : Int32) (a1 : Int32) (a2 : Nat) (h0 : 0 ≤ a0 ∧ a0 ≤ 24) (h1 : 1 ≤ a1 ∧ a1 ≤ 24) (h2 : (24 - a1.toInt).toNat = a2) (h3 : ¬ 24 ≤ a1) (h4 : ¬ a0 < a1) : (a1 - 1) ≤ a1 := by
  first | rfl | assumption | decide | exact Or.inl rfl | (first | omega | (have hr0 := Int32.toInt_lt a0; have hs0 := Int32.le_toInt a0; have hr1 := Int32.toInt_lt a1; have hs1 := Int32.le_toInt a1; simp only [Int64.toInt_add, Int64.toInt_sub, Int32.toInt_add, Int32.toInt_sub, Int32.toInt_mul, Int64.le_iff_toInt_le, Int64.lt_iff_toInt_lt, Int32.le_iff_toInt_le, Int32.lt_iff_toInt_lt, ← Int32.toInt_inj, ← Int64.toInt_inj, Int32.toInt_toInt64, kc_0, kc_1, kc_24] at *; (first | omega | ((try simp (disch := omega) only [k_bm64] at *); (try simp (disch := omega) only [k_bm] at *); (try simp (disch := omega) only [k_bm] at *); omega) | (simp only [Int.bmod] at *; omega))))
theorem lf_e_plan_9 (a0 : Int32) (a1 : Int32) (a2 : Int32) (a3 : Nat) (a4 : Int32) (a5 : Int32) (a6 : Nat) (a7 : Int32) (a8 : Int32) (a9 : Int32) (a10 : Int32) (a11 : Int32) (a12 : Int32) (a13 : Int32) (a14 : Int32) (a15 : Int32) (h0 : 0 ≤ a0 ∧ a0 ≤ 24) (h1 : 0 ≤ a1) (h2 : 1 ≤ a2 ∧ a2 ≤ 10) (h3 : (10 - a2.toInt).toNat = a3) (h4 : ¬ 9 < a2) (h5 : ¬ a1 ≤ a4) (h6 : 1 ≤ a5 ∧ a5 ≤ 24) (h7 : (24 - a5.toInt).toNat = a6) (h8 : ¬ 24 ≤ a5) (h9 : ¬ a1 ≤ a7) (h10 : ¬ a0 < a5) (h11 : (a5 - 1) ≤ a8 ∧ a8 ≤ a5) (h12 : ¬ a8 = a5) (h13 : (a9) = if a7 < a8 then a8 else a7) (h14 : (a10) = if a7 < a8 then a2 else a11) (h15 : (a12) = if a7 < a8 then a5 else a13) (h16 : (a14) = if a7 < a8 then (1 : Int32) else a15) : 1 ≤ (a5 + 1) ∧ (a5 + 1) ≤ 24 := by
  first | rfl | assumption | decide | exact Or.inl rfl | (first | omega | (have hr0 := Int32.toInt_lt a0; have hs0 := Int32.le_toInt a0; have hr1 := Int32.toInt_lt a1; have hs1 := Int32.le_toInt a1; have hr2 := Int32.toInt_lt a2; have hs2 := Int32.le_toInt a2; have hr3 := Int32.toInt_lt a4; have hs3 := Int32.le_toInt a4; have hr4 := Int32.toInt_lt a5; have hs4 := Int32.le_toInt a5; have hr5 := Int32.toInt_lt a7; have hs5 := Int32.le_toInt a7; have hr6 := Int32.toInt_lt a8; have hs6 := Int32.le_toInt a8; have hr7 := Int32.toInt_lt a9; have hs7 := Int32.le_toInt a9; have hr8 := Int32.toInt_lt a10; have hs8 := Int32.le_toInt a10; have hr9 := Int32.toInt_lt a11; have hs9 := Int32.le_toInt a11; have hr10 := Int32.toInt_lt a12; have hs10 := Int32.le_toInt a12; have hr11 := Int32.toInt_lt a13; have hs11 := Int32.le_toInt a13; have hr12 := Int32.toInt_lt a14; have hs12 := Int32.le_toInt a14; have hr13 := Int32.toInt_lt a15; have hs13 := Int32.le_toInt a15; simp only [Int64.toInt_add, Int64.toInt_sub, Int32.toInt_add, Int32.toInt_sub, Int32.toInt_mul, Int64.le_iff_toInt_le, Int64.lt_iff_toInt_lt, Int32.le_iff_toInt_le, Int32.lt_iff_toInt_lt, ← Int32.toInt_inj, ← Int64.toInt_inj, Int32.toInt_toInt64, kc_0, kc_1, kc_9, kc_10, kc_24] at *; (first | omega | ((try simp (disch := omega) only [k_bm64] at *); (try simp (disch := omega) only [k_bm] at *); (try simp (disch := omega) only [k_bm] at *); omega) | (simp only [Int.bmod] at *; omega))))
theorem lf_e_plan_10 (a0 : Int32) (a1 : Int32) (a2 : Int32) (a3 : Nat) (a4 : Int32) (a5 : Int32) (a6 : Nat) (a7 : Int32) (a8 : Int32) (a9 : Int32) (a10 : Int32) (a11 : Int32) (a12 : Int32) (a13 : Int32) (a14 : Int32) (a15 : Int32) (h0 : 0 ≤ a0 ∧ a0 ≤ 24) (h1 : 0 ≤ a1) (h2 : 1 ≤ a2 ∧ a2 ≤ 10) (h3 : (10 - a2.toInt).toNat = a3) (h4 : ¬ 9 < a2) (h5 : ¬ a1 ≤ a4) (h6 : 1 ≤ a5 ∧ a5 ≤ 24) (h7 : (24 - a5.toInt).toNat = a6) (h8 : ¬ 24 ≤ a5) (h9 : ¬ a1 ≤ a7) (h10 : ¬ a0 < a5) (h11 : (a5 - 1) ≤ a8 ∧ a8 ≤ a5) (h12 : ¬ a8 = a5) (h13 : (a9) = if a7 < a8 then a8 else a7) (h14 : (a10) = if a7 < a8 then a2 else a11) (h15 : (a12) = if a7 < a8 then a5 else a13) (h16 : (a14) = if a7 < a8 then (1 : Int32) else a15) : 1 ≤ a5 ∧ a5 ≤ 23 := by
  first | rfl | assumption | decide | exact Or.inl rfl | (first | omega | (have hr0 := Int32.toInt_lt a0; have hs0 := Int32.le_toInt a0; have hr1 := Int32.toInt_lt a1; have hs1 := Int32.le_toInt a1; have hr2 := Int32.toInt_lt a2; have hs2 := Int32.le_toInt a2; have hr3 := Int32.toInt_lt a4; have hs3 := Int32.le_toInt a4; have hr4 := Int32.toInt_lt a5; have hs4 := Int32.le_toInt a5; have hr5 := Int32.toInt_lt a7; have hs5 := Int32.le_toInt a7; have hr6 := Int32.toInt_lt a8; have hs6 := Int32.le_toInt a8; have hr7 := Int32.toInt_lt a9; have hs7 := Int32.le_toInt a9; have hr8 := Int32.toInt_lt a10; have hs8 := Int32.le_toInt a10; have hr9 := Int32.toInt_lt a11; have hs9 := Int32.le_toInt a11; have hr10 := Int32.toInt_lt a12; have hs10 := Int32.le_toInt a12; have hr11 := Int32.toInt_lt a13; have hs11 := Int32.le_toInt a13; have hr12 := Int32.toInt_lt a14; have hs12 := Int32.le_toInt a14; have hr13 := Int32.toInt_lt a15; have hs13 := Int32.le_toInt a15; simp only [Int64.toInt_add, Int64.toInt_sub, Int32.toInt_add, Int32.toInt_sub, Int32.toInt_mul, Int64.le_iff_toInt_le, Int64.lt_iff_toInt_lt, Int32.le_iff_toInt_le, Int32.lt_iff_toInt_lt, ← Int32.toInt_inj, ← Int64.toInt_inj, Int32.toInt_toInt64, kc_0, kc_1, kc_9, kc_10, kc_23, kc_24] at *; (first | omega | ((try simp (disch := omega) only [k_bm64] at *); (try simp (disch := omega) only [k_bm] at *); (try simp (disch := omega) only [k_bm] at *); omega) | (simp only [Int.bmod] at *; omega))))
theorem lf_e_plan_11 (a0 : Int32) (a1 : Int32) (a2 : Int32) (a3 : Nat) (a4 : Int32) (a5 : Int32) (a6 : Nat) (a7 : Int32) (a8 : Int32) (a9 : Int32) (a10 : Int32) (a11 : Int32) (a12 : Int32) (a13 : Int32) (a14 : Int32) (a15 : Int32) (h0 : 0 ≤ a0 ∧ a0 ≤ 24) (h1 : 0 ≤ a1) (h2 : 1 ≤ a2 ∧ a2 ≤ 10) (h3 : (10 - a2.toInt).toNat = a3) (h4 : ¬ 9 < a2) (h5 : ¬ a1 ≤ a4) (h6 : 1 ≤ a5 ∧ a5 ≤ 24) (h7 : (24 - a5.toInt).toNat = a6) (h8 : ¬ 24 ≤ a5) (h9 : ¬ a1 ≤ a7) (h10 : ¬ a0 < a5) (h11 : (a5 - 1) ≤ a8 ∧ a8 ≤ a5) (h12 : ¬ a8 = a5) (h13 : (a9) = if a7 < a8 then a8 else a7) (h14 : (a10) = if a7 < a8 then a2 else a11) (h15 : (a12) = if a7 < a8 then a5 else a13) (h16 : (a14) = if a7 < a8 then (1 : Int32) else a15) : (24 - (a5 + 1).toInt).toNat < a6 := by
  first | rfl | assumption | decide | exact Or.inl rfl | (first | omega | (have hr0 := Int32.toInt_lt a0; have hs0 := Int32.le_toInt a0; have hr1 := Int32.toInt_lt a1; have hs1 := Int32.le_toInt a1; have hr2 := Int32.toInt_lt a2; have hs2 := Int32.le_toInt a2; have hr3 := Int32.toInt_lt a4; have hs3 := Int32.le_toInt a4; have hr4 := Int32.toInt_lt a5; have hs4 := Int32.le_toInt a5; have hr5 := Int32.toInt_lt a7; have hs5 := Int32.le_toInt a7; have hr6 := Int32.toInt_lt a8; have hs6 := Int32.le_toInt a8; have hr7 := Int32.toInt_lt a9; have hs7 := Int32.le_toInt a9; have hr8 := Int32.toInt_lt a10; have hs8 := Int32.le_toInt a10; have hr9 := Int32.toInt_lt a11; have hs9 := Int32.le_toInt a11; have hr10 := Int32.toInt_lt a12; have hs10 := Int32.le_toInt a12; have hr11 := Int32.toInt_lt a13; have hs11 := Int32.le_toInt a13; have hr12 := Int32.toInt_lt a14; have hs12 := Int32.le_toInt a14; have hr13 := Int32.toInt_lt a15; have hs13 := Int32.le_toInt a15; simp only [Int64.toInt_add, Int64.toInt_sub, Int32.toInt_add, Int32.toInt_sub, Int32.toInt_mul, Int64.le_iff_toInt_le, Int64.lt_iff_toInt_lt, Int32.le_iff_toInt_le, Int32.lt_iff_toInt_lt, ← Int32.toInt_inj, ← Int64.toInt_inj, Int32.toInt_toInt64, kc_0, kc_1, kc_9, kc_10, kc_24] at *; (first | omega | ((try simp (disch := omega) only [k_bm64] at *); (try simp (disch := omega) only [k_bm] at *); (try simp (disch := omega) only [k_bm] at *); omega) | (simp only [Int.bmod] at *; omega))))
theorem lf_e_plan_12 (a0 : Int32) (a1 : Int32) (a2 : Nat) (a3 : Int32) (h0 : 0 ≤ a0 ∧ a0 ≤ 24) (h1 : 1 ≤ a1 ∧ a1 ≤ 24) (h2 : (24 - a1.toInt).toNat = a2) (h3 : ¬ 24 ≤ a1) (h4 : ¬ a0 < a1) (h5 : (a1 - 1) ≤ a3 ∧ a3 ≤ a1) (h6 : a3 = a1) : 1 ≤ a1 ∧ a1 ≤ 23 := by
  first | rfl | assumption | decide | exact Or.inl rfl | (first | omega | (have hr0 := Int32.toInt_lt a0; have hs0 := Int32.le_toInt a0; have hr1 := Int32.toInt_lt a1; have hs1 := Int32.le_toInt a1; have hr2 := Int32.toInt_lt a3; have hs2 := Int32.le_toInt a3; simp only [Int64.toInt_add, Int64.toInt_sub, Int32.toInt_add, Int32.toInt_sub, Int32.toInt_mul, Int64.le_iff_toInt_le, Int64.lt_iff_toInt_lt, Int32.le_iff_toInt_le, Int32.lt_iff_toInt_lt, ← Int32.toInt_inj, ← Int64.toInt_inj, Int32.toInt_toInt64, kc_0, kc_1, kc_23, kc_24] at *; (first | omega | ((try simp (disch := omega) only [k_bm64] at *); (try simp (disch := omega) only [k_bm] at *); (try simp (disch := omega) only [k_bm] at *); omega) | (simp only [Int.bmod] at *; omega))))
theorem lf_e_plan_13 (a0 : Int32) (a1 : Int32) (a2 : Nat) (a3 : Int32) (h0 : 0 ≤ a0 ∧ a0 ≤ 24) (h1 : 1 ≤ a1 ∧ a1 ≤ 24) (h2 : (24 - a1.toInt).toNat = a2) (h3 : ¬ 24 ≤ a1) (h4 : ¬ a0 < a1) (h5 : (a1 - 1) ≤ a3 ∧ a3 ≤ a1) (h6 : a3 = a1) : 1 ≤ (a1 + 1) ∧ (a1 + 1) ≤ 24 := by
  first | rfl | assumption | decide | exact Or.inl rfl | (first | omega | (have hr0 := Int32.toInt_lt a0; have hs0 := Int32.le_toInt a0; have hr1 := Int32.toInt_lt a1; have hs1 := Int32.le_toInt a1; have hr2 := Int32.toInt_lt a3; have hs2 := Int32.le_toInt a3; simp only [Int64.toInt_add, Int64.toInt_sub, Int32.toInt_add, Int32.toInt_sub, Int32.toInt_mul, Int64.le_iff_toInt_le, Int64.lt_iff_toInt_lt, Int32.le_iff_toInt_le, Int32.lt_iff_toInt_lt, ← Int32.toInt_inj, ← Int64.toInt_inj, Int32.toInt_toInt64, kc_0, kc_1, kc_24] at *; (first | omega | ((try simp (disch := omega) only [k_bm64] at *); (try simp (disch := omega) only [k_bm] at *); (try simp (disch := omega) only [k_bm] at *); omega) | (simp only [Int.bmod] at *; omega))))
theorem lf_e_plan_14 (a0 : Int32) (a1 : Int32) (a2 : Nat) (a3 : Int32) (h0 : 0 ≤ a0 ∧ a0 ≤ 24) (h1 : 1 ≤ a1 ∧ a1 ≤ 24) (h2 : (24 - a1.toInt).toNat = a2) (h3 : ¬ 24 ≤ a1) (h4 : ¬ a0 < a1) (h5 : (a1 - 1) ≤ a3 ∧ a3 ≤ a1) (h6 : a3 = a1) : (24 - (a1 + 1).toInt).toNat < a2 := by
  first | rfl | assumption | decide | exact Or.inl rfl | (first | omega | (have hr0 := Int32.toInt_lt a0; have hs0 := Int32.le_toInt a0; have hr1 := Int32.toInt_lt a1; have hs1 := Int32.le_toInt a1; have hr2 := Int32.toInt_lt a3; have hs2 := Int32.le_toInt a3; simp only [Int64.toInt_add, Int64.toInt_sub, Int32.toInt_add, Int32.toInt_sub, Int32.toInt_mul, Int64.le_iff_toInt_le, Int64.lt_iff_toInt_lt, Int32.le_iff_toInt_le, Int32.lt_iff_toInt_lt, ← Int32.toInt_inj, ← Int64.toInt_inj, Int32.toInt_toInt64, kc_0, kc_1, kc_24] at *; (first | omega | ((try simp (disch := omega) only [k_bm64] at *); (try simp (disch := omega) only [k_bm] at *); (try simp (disch := omega) only [k_bm] at *); omega) | (simp only [Int.bmod] at *; omega))))
set_option maxHeartbeats 4000000 in
set_option maxRecDepth 100000 in
theorem e_plan (l : Launch) (dC : Nat → ClassId) (dI : Nat → Nat → Nat) (cI cJ cQ : ClassId) (sz : Nat) (aBe : Nat) (aTr : Nat) (mi : Int32) (k0 : Int32) (k1 : Int32) (k2 : Int32) (k3 : Int32) (aLa : Nat) (aPa : Nat) (aGe : Nat) (gL : Nat) (gR : Nat) (lf : Nat) (rt : Nat) (tgo : Int32) (tca : Int32) (tki : Int32) (tso : Int32) (tbe : Int32) (twe : Int32) (tle : Int32) (tan : Int32) (tco : Int32) (ten : Int32) (vLa : Nat) (l4 : Int32) (a4 : Int32) (n4 : Int32) (f4 : Nat → Int32) (hh0 : 0 ≤ mi ∧ mi ≤ 24) (hh1 : 0 ≤ tca) : Met l yX0_plan (kW yX0_plan cX0_plan 7 none) { frames := 3, cells := 0, slots := 0, locals := 76 } (kPre dC dI cI cJ cQ sz [.ref aBe, .ref aTr, .int mi] [(kX0 aBe k0 k1 k2 k3), (kX10 aTr aLa aPa aGe gL gR lf rt tgo tca tki tso tbe twe tle tan tco ten), (kX4 aLa vLa l4 a4 n4), (kAI vLa cI 24 f4)]) (va_Qv (fun (u : kS) => (k_q4 (u.1 0) (u.1 1) (u.1 2) (u.1 3) (kV (kFx (kAt 24 f4) tca tle tki tso tbe mi) 1 1 1 (-1, 1, 1, 1)))) (fun (u : kS) t₀ => kB dC dI cI cJ cQ (va_A [(kX0 aBe k0 k1 k2 k3), (kX10 aTr aLa aPa aGe gL gR lf rt tgo tca tki tso tbe twe tle tan tco ten), (kX4 aLa vLa l4 a4 n4), (kAI vLa cI 24 f4)] sz) [(kX0 aBe (u.1 0) (u.1 1) (u.1 2) (u.1 3)), (kX10 aTr aLa aPa aGe gL gR lf rt tgo tca tki tso tbe twe tle (u.1 4) (u.1 5) (u.1 6)), (kX4 aLa vLa l4 a4 n4), (kAI vLa cI 24 f4)] t₀) (va_A [(kX0 aBe k0 k1 k2 k3), (kX10 aTr aLa aPa aGe gL gR lf rt tgo tca tki tso tbe twe tle tan tco ten), (kX4 aLa vLa l4 a4 n4), (kAI vLa cI 24 f4)] sz)) 0 0 (va_A [(kX0 aBe k0 k1 k2 k3), (kX10 aTr aLa aPa aGe gL gR lf rt tgo tca tki tso tbe twe tle tan tco ten), (kX4 aLa vLa l4 a4 n4), (kAI vLa cI 24 f4)] sz) := by
  refine Met.ofW (cc := cX0_plan) (maxL := 7) (ret := none) (by decide) rfl ?_
  intro p₀ e₀ s₀ m₀ args below meth c₀ s₁ B hml hv₀
  obtain ⟨rfl, hsz, hP, hK, hD0, hN⟩ := hv₀
  have hx₀ := B.exec
  have hb := B.bytes
  have hr := B.returns
  have hts := atoms_spec (ws := (kW yX0_plan cX0_plan 7 none)) B.pre
  have hts := fun w h => hts w (List.mem_cons_of_mem _ h)
  have hown : s₀.vm.findClass RX0 = some m₀.cls := findClass_of_methodNamed B.named
  have hlocks := B.notSynchronized
  subst hsz
  have hD := hD0.self (sz := s₀.heap.size)
  generalize hAe : va_A [(kX0 aBe k0 k1 k2 k3), (kX10 aTr aLa aPa aGe gL gR lf rt tgo tca tki tso tbe twe tle tan tco ten), (kX4 aLa vLa l4 a4 n4), (kAI vLa cI 24 f4)] s₀.heap.size = A at hD ⊢
  have hA : ∀ q : Nat, s₀.heap.size ≤ q → A q := fun q h => by rw [← hAe]; exact Or.inr h
  have hS : va_S A s₀.heap s₀.heap [] := va_S.rf
  have hP : va_P (dC, dI) vwCl [(kX0 aBe k0 k1 k2 k3), (kX10 aTr aLa aPa aGe gL gR lf rt tgo tca tki tso tbe twe tle tan tco ten), (kX4 aLa vLa l4 a4 n4), (kAI vLa cI 24 f4)] s₀.heap := hP
  have hl := lv_entry ([.ref aBe, .ref aTr, .int mi]) (n := 7) (Nat.le_of_ble_eq_true rfl)
  rw [lg_entry_eq]
  generalize (lg_sl ([.ref aBe, .ref aTr, .int mi]) ++ List.replicate (7 - (lg_sl ([.ref aBe, .ref aTr, .int mi])).length) Slot.unset).toArray = ls at hl ⊢
  have hl : lv_has ls 7 [(0, .ref aBe), (1, .ref aTr), (2, .int mi)] := hl
  obtain ⟨H, hH⟩ : ∃ z : Heap, z = s₀.heap := ⟨_, rfl⟩
  rw [← hH] at hP
  have hS : va_S A s₀.heap H [] := by rw [hH]; exact hS
  refine k_heap hH ?_
  have hD : va_D A [(kX0 aBe k0 k1 k2 k3), (kX10 aTr aLa aPa aGe gL gR lf rt tgo tca tki tso tbe twe tle tan tco ten), (kX4 aLa vLa l4 a4 n4), (kAI vLa cI 24 f4)] := hD
  obtain ⟨locs, hlo⟩ : ∃ z : List Loc, z = [] := ⟨_, rfl⟩
  rw [← hlo] at hS ⊢
  clear hlo hH hAe hD0
  refine lv_aload_n hx₀ hb dX0_plan_0 rfl (lv_at hl 0 rfl) ?_
  refine lv_iconst (v := (-1)) hx₀ hb dX0_plan_1 (by decide +kernel) ?_
  refine va_put (D := (dC, dI)) (ci := 0) (v := .int (-1)) (ty := .int) (C := RX0) (T := TX0) (N := 4) hx₀ hb hts inlX0 tyX0 tyX0_ok nmX0 hown hK hP hD hS 0 rfl rfl 0 (by decide) (hts (.fieldLink RX0 21 "BittenStick$Climb" "far" "I") wd_619) (fun _ h9 => h9) rfl (by decide +kernel) rfl rfl (Nat.le_of_ble_eq_true rfl) dX0_plan_2 ?_
  clear hP hD hS
  intro H locs hP hD hS
  replace hP := k_w2 (wt := [(kX0 aBe (-1) k1 k2 k3), (kX10 aTr aLa aPa aGe gL gR lf rt tgo tca tki tso tbe twe tle tan tco ten), (kX4 aLa vLa l4 a4 n4), (kAI vLa cI 24 f4)]) hP hD rfl
  replace hD := hP.2
  replace hP := hP.1
  refine lv_iconst (v := 1) hx₀ hb dX0_plan_5 (by decide +kernel) ?_
  refine lv_istore_n (lv' := [(3, .int 1), (0, .ref aBe), (1, .ref aTr), (2, .int mi)]) hx₀ hb dX0_plan_6 rfl hl (by decide) rfl (fun ls hl => ?_)
  refine (?keyz1 : ∀ (jz1 : Nat) (egz1 : Int32) (y0z1 : Int32) (y1z1 : Int32) (y2z1 : Int32) (y3z1 : Int32) (x1z1 : Int32) (x2z1 : Int32) (x3z1 : Int32) (H : Heap) (locs : List Loc) (ls : Array Slot), (1 ≤ egz1 ∧ egz1 ≤ 10) → (kV (kFx (kAt 24 f4) tca tle tki tso tbe mi) egz1 1 1 (y0z1, y1z1, y2z1, y3z1) = (kV (kFx (kAt 24 f4) tca tle tki tso tbe mi) 1 1 1 (-1, 1, 1, 1))) → ((10 - egz1.toInt).toNat = jz1) → va_P (dC, dI) vwCl [(kX0 aBe y0z1 y1z1 y2z1 y3z1), (kX10 aTr aLa aPa aGe gL gR lf rt tgo tca tki tso tbe twe tle x1z1 x2z1 x3z1), (kX4 aLa vLa l4 a4 n4), (kAI vLa cI 24 f4)] H → va_D A [(kX0 aBe y0z1 y1z1 y2z1 y3z1), (kX10 aTr aLa aPa aGe gL gR lf rt tgo tca tki tso tbe twe tle x1z1 x2z1 x3z1), (kX4 aLa vLa l4 a4 n4), (kAI vLa cI 24 f4)] → va_S A s₀.heap H locs → lv_has ls 7 [(3, .int egz1), (0, .ref aBe), (1, .ref aTr), (2, .int mi)] → W p₀ l e₀ _ s₀ m₀ _ below meth c₀ H locs _ _ _ (F0 m₀ 7 ls [])) _ (1 : Int32) (-1 : Int32) k1 k2 k3 tan tco ten H locs ls (show 1 ≤ (1 : Int32) ∧ (1 : Int32) ≤ 10 from ⟨(by decide), (by decide)⟩) (kV_first (kFx_0 hh0 0)) rfl hP hD hS hl
  clear hP hD hS hl
  intro jz1
  induction jz1 using Nat.strongRecOn with
  | ind jz1 ihz1 =>
    intro egz1 y0z1 y1z1 y2z1 y3z1 x1z1 x2z1 x3z1 H locs ls hiz1_0 hiz1_1 hjz1 hP hD hS hl
    refine lv_iload_n hx₀ hb dX0_plan_7 rfl (lv_at hl 0 rfl) ?_
    refine lv_bipush (v := 9) hx₀ hb dX0_plan_8 (by decide +kernel) ?_
    refine lv_icmp_gt (tgt := 127) hx₀ hb dX0_plan_10 (by decide) (fun c_2 => ?_) (fun c_2 => ?_)
    · obtain ⟨hP9, hD9⟩ := k_c2 (wc := [(kX0 aBe y0z1 y1z1 y2z1 y3z1), (kX10 aTr aLa aPa aGe gL gR lf rt tgo tca tki tso tbe twe tle x1z1 x2z1 x3z1), (kX4 aLa vLa l4 a4 n4), (kAI vLa cI 24 f4)]) hP hD [0, 1, 2, 3] (by decide +kernel) rfl
      exact W.vret hx₀ hb hr (fun t₀ ht hW => ⟨⟨(k_fn [y0z1, y1z1, y2z1, y3z1, x1z1, x2z1, x3z1], k_fa [], k_fl [], k_fL [], k_fp []), rfl, (by have h9 := hiz1_1; rw [show egz1 = 10 from lf_e_plan_1 egz1 jz1 hiz1_0 hjz1 c_2, kV_end] at h9; exact h9), by rw [ht]; exact hP9, va_K.moved hW.alike hK, hD9⟩, hS.F ht⟩) hS.2.2 dX0_plan_127
    · refine lv_aload_n hx₀ hb dX0_plan_13 rfl (lv_at hl 1 rfl) ?_
      refine va_get (D := (dC, dI)) (ci := 0) (v := .int y0z1) (C := RX0) (T := TX0) (N := 4) hx₀ hb hts inlX0 hown hK hP 0 rfl rfl 0 (by decide) (hts (.fieldLink RX0 21 "BittenStick$Climb" "far" "I") wd_619) (fun _ h9 => h9) rfl dX0_plan_14 ?_
      refine lv_aload_n hx₀ hb dX0_plan_17 rfl (lv_at hl 2 rfl) ?_
      refine va_get (D := (dC, dI)) (ci := 9) (v := .int tca) (C := RX10) (T := TX10) (N := 17) hx₀ hb hts inlX10 hown hK hP 1 rfl rfl 8 (by decide) (hts (.fieldLink RX0 24 "BittenStick$Trip" "carriedTo" "I") wd_620) (fun _ h9 => h9) rfl dX0_plan_18 ?_
      refine lv_icmp_ge (tgt := 127) hx₀ hb dX0_plan_21 (by decide) (fun c_3 => ?_) (fun c_3 => ?_)
      · obtain ⟨hP9, hD9⟩ := k_c2 (wc := [(kX0 aBe y0z1 y1z1 y2z1 y3z1), (kX10 aTr aLa aPa aGe gL gR lf rt tgo tca tki tso tbe twe tle x1z1 x2z1 x3z1), (kX4 aLa vLa l4 a4 n4), (kAI vLa cI 24 f4)]) hP hD [0, 1, 2, 3] (by decide +kernel) rfl
        exact W.vret hx₀ hb hr (fun t₀ ht hW => ⟨⟨(k_fn [y0z1, y1z1, y2z1, y3z1, x1z1, x2z1, x3z1], k_fa [], k_fl [], k_fL [], k_fp []), rfl, (by have h9 := hiz1_1; rw [kV_stop (fun j z => (Int32.not_lt.mpr c_3) (Int32.lt_of_lt_of_le z (Int32.not_lt.mp (kFx_le hh1 (nI j)))))] at h9; exact h9), by rw [ht]; exact hP9, va_K.moved hW.alike hK, hD9⟩, hS.F ht⟩) hS.2.2 dX0_plan_127
      · refine lv_aload_n hx₀ hb dX0_plan_24 rfl (lv_at hl 2 rfl) ?_
        obtain ⟨hPc, hDc, hFc, hC⟩ := k_cw (wc := [(kX10 aTr aLa aPa aGe gL gR lf rt tgo tca tki tso tbe twe tle x1z1 x2z1 x3z1)]) hP hD hS hA [1] (by decide +kernel) rfl
        refine va_callv (va_runV (As := []) (rest := []) ⟨hx₀, hb, hml, hown, hts⟩ (j_tSet l dC dI cI cJ cQ H.size aTr aLa aPa aGe gL gR lf rt tgo tca tki tso tbe twe tle x1z1 x2z1 x3z1) (cwV 0 hts (kGV wd_499 wd_622 wd_497 wd_498 wd_30) rfl rfl rfl (by decide +kernel) ⟨Nat.le_of_ble_eq_true rfl, Nat.le_of_ble_eq_true rfl⟩) (k_preV9 (q0 := 0) hK hPc hDc hN rfl) rfl rfl hl.1 rfl (lv_room (Nat.le_of_ble_eq_true rfl)) dX0_plan_25 ⟨by decide +kernel, by decide +kernel⟩) hS (fun q _ h => hFc q h) hFc (fun u₀ t₀ H1 locs ht hvm hw hB hz1 hk1 hS => ?_)
        obtain ⟨g_5, ga_6, gl_7, gb_8, gp_9⟩ := u₀
        obtain ⟨hP1, hK1, hD1⟩ := hB
        rw [ht] at hP1
        have hJ := k_jn (wr := [(kX0 aBe y0z1 y1z1 y2z1 y3z1), (kX4 aLa vLa l4 a4 n4), (kAI vLa cI 24 f4)]) (wt := [(kX0 aBe y0z1 y1z1 y2z1 y3z1), (kX4 aLa vLa l4 a4 n4), (kAI vLa cI 24 f4), (kX10 aTr aLa aPa aGe gL gR lf rt tgo tca tki tso tbe twe tle 0 0 (g_5 0))]) hP hD hC [0, 2, 3] rfl (by decide +kernel) (by decide +kernel) hk1 hFc hP1 hD1 rfl
        clear hP hD hPc hDc hFc hC hP1 hD1 hK1 hz1 hk1 hvm ht
        obtain ⟨hP, hD⟩ := hJ
        generalize H1 = H at hP hS ⊢
        try dsimp only at hw
        have c_10 := hw
        rw [c_10] at hP hD
        replace hP := k_w2 (wt := [(kX0 aBe y0z1 y1z1 y2z1 y3z1), (kX4 aLa vLa l4 a4 n4), (kAI vLa cI 24 f4), (kX10 aTr aLa aPa aGe gL gR lf rt tgo tca tki tso tbe twe tle 0 0 (if tgo = 0 then 1 else 0))]) hP hD rfl
        replace hD := hP.2
        replace hP := hP.1
        refine lv_iconst (v := 1) hx₀ hb dX0_plan_28 (by decide +kernel) ?_
        refine lv_istore (lv' := [(4, .int 1), (3, .int egz1), (0, .ref aBe), (1, .ref aTr), (2, .int mi)]) hx₀ hb dX0_plan_29 hl (by decide) rfl (fun ls hl => ?_)
        refine lv_iconst (v := 1) hx₀ hb dX0_plan_31 (by decide +kernel) ?_
        refine lv_istore (lv' := [(5, .int 1), (4, .int 1), (3, .int egz1), (0, .ref aBe), (1, .ref aTr), (2, .int mi)]) hx₀ hb dX0_plan_32 hl (by decide) rfl (fun ls hl => ?_)
        refine (?keyz11 : ∀ (jz11 : Nat) (flz11 : Int32) (mz11 : Int32) (y0z11 : Int32) (y1z11 : Int32) (y2z11 : Int32) (y3z11 : Int32) (x1z11 : Int32) (x2z11 : Int32) (x3z11 : Int32) (H : Heap) (locs : List Loc) (ls : Array Slot), (1 ≤ mz11 ∧ mz11 ≤ 24) → (k_pn flz11 (kAt 24 f4) tca tle tki tso tbe mi egz1 mz11 x1z11 x2z11 (y0z11, y1z11, y2z11, y3z11) (kV (kFx (kAt 24 f4) tca tle tki tso tbe mi) 1 1 1 (-1, 1, 1, 1))) → ((24 - mz11.toInt).toNat = jz11) → va_P (dC, dI) vwCl [(kX0 aBe y0z11 y1z11 y2z11 y3z11), (kX4 aLa vLa l4 a4 n4), (kAI vLa cI 24 f4), (kX10 aTr aLa aPa aGe gL gR lf rt tgo tca tki tso tbe twe tle x1z11 x2z11 x3z11)] H → va_D A [(kX0 aBe y0z11 y1z11 y2z11 y3z11), (kX4 aLa vLa l4 a4 n4), (kAI vLa cI 24 f4), (kX10 aTr aLa aPa aGe gL gR lf rt tgo tca tki tso tbe twe tle x1z11 x2z11 x3z11)] → va_S A s₀.heap H locs → lv_has ls 7 [(5, .int mz11), (4, .int flz11), (3, .int egz1), (0, .ref aBe), (1, .ref aTr), (2, .int mi)] → W p₀ l e₀ _ s₀ m₀ _ below meth c₀ H locs _ _ _ (F0 m₀ 34 ls [])) _ (1 : Int32) (1 : Int32) y0z1 y1z1 y2z1 y3z1 (0 : Int32) (0 : Int32) (if tgo = 0 then 1 else 0) H locs ls (show 1 ≤ (1 : Int32) ∧ (1 : Int32) ≤ 24 from ⟨(by decide), (by decide)⟩) (k_pn_0 hh0.1 hiz1_1) rfl hP hD hS hl
        clear hP hD hS hl
        intro jz11
        induction jz11 using Nat.strongRecOn with
        | ind jz11 ihz11 =>
          intro flz11 mz11 y0z11 y1z11 y2z11 y3z11 x1z11 x2z11 x3z11 H locs ls hiz11_0 hiz11_1 hjz11 hP hD hS hl
          refine lv_iload hx₀ hb dX0_plan_34 (lv_at hl 0 rfl) ?_
          refine lv_bipush (v := 24) hx₀ hb dX0_plan_36 (by decide +kernel) ?_
          refine lv_icmp_ge (tgt := 121) hx₀ hb dX0_plan_38 (by decide) (fun c_12 => ?_) (fun c_12 => ?_)
          · refine lv_iinc (v := egz1 + 1) (lv' := [(3, .int (egz1 + 1)), (5, .int mz11), (4, .int flz11), (0, .ref aBe), (1, .ref aTr), (2, .int mi)]) hx₀ hb dX0_plan_121 hl (k := 2) rfl rfl (by decide) rfl (fun ls hl => ?_)
            refine lv_goto (tgt := 7) hx₀ hb dX0_plan_124 (by decide) ?_
            exact ihz1 _ (lf_e_plan_3 egz1 jz1 hiz1_0 hjz1 c_2) (egz1 + 1) y0z11 y1z11 y2z11 y3z11 x1z11 x2z11 x3z11 _ _ _ (lf_e_plan_2 egz1 jz1 hiz1_0 hjz1 c_2) (k_pn_e (show 1 ≤ egz1 ∧ egz1 ≤ 9 from ⟨hiz1_0.1, (Int32.not_lt.mp c_2)⟩) (hiz11_0) hh1 hiz11_1 (Or.inl c_12)) rfl (hP.sub [0, 3, 1, 2] rfl) (hD.sub [0, 3, 1, 2] (by decide +kernel) rfl) hS (lv_sub hl [0, 3, 4, 5] rfl)
          · refine lv_iload hx₀ hb dX0_plan_41 (lv_at hl 1 rfl) ?_
            refine lv_if_eq (tgt := 121) hx₀ hb dX0_plan_43 (by decide) (fun c_13 => ?_) (fun c_13 => ?_)
            · refine lv_iinc (v := egz1 + 1) (lv' := [(3, .int (egz1 + 1)), (5, .int mz11), (4, .int flz11), (0, .ref aBe), (1, .ref aTr), (2, .int mi)]) hx₀ hb dX0_plan_121 hl (k := 2) rfl rfl (by decide) rfl (fun ls hl => ?_)
              refine lv_goto (tgt := 7) hx₀ hb dX0_plan_124 (by decide) ?_
              exact ihz1 _ (lf_e_plan_3 egz1 jz1 hiz1_0 hjz1 c_2) (egz1 + 1) y0z11 y1z11 y2z11 y3z11 x1z11 x2z11 x3z11 _ _ _ (lf_e_plan_2 egz1 jz1 hiz1_0 hjz1 c_2) (k_pn_e (show 1 ≤ egz1 ∧ egz1 ≤ 9 from ⟨hiz1_0.1, (Int32.not_lt.mp c_2)⟩) (hiz11_0) hh1 hiz11_1 (Or.inr (Or.inl c_13))) rfl (hP.sub [0, 3, 1, 2] rfl) (hD.sub [0, 3, 1, 2] (by decide +kernel) rfl) hS (lv_sub hl [0, 3, 4, 5] rfl)
            · refine lv_aload_n hx₀ hb dX0_plan_46 rfl (lv_at hl 3 rfl) ?_
              refine va_get (D := (dC, dI)) (ci := 0) (v := .int y0z11) (C := RX0) (T := TX0) (N := 4) hx₀ hb hts inlX0 hown hK hP 0 rfl rfl 0 (by decide) (hts (.fieldLink RX0 21 "BittenStick$Climb" "far" "I") wd_619) (fun _ h9 => h9) rfl dX0_plan_47 ?_
              refine lv_aload_n hx₀ hb dX0_plan_50 rfl (lv_at hl 4 rfl) ?_
              refine va_get (D := (dC, dI)) (ci := 9) (v := .int tca) (C := RX10) (T := TX10) (N := 17) hx₀ hb hts inlX10 hown hK hP 3 rfl rfl 8 (by decide) (hts (.fieldLink RX0 24 "BittenStick$Trip" "carriedTo" "I") wd_620) (fun _ h9 => h9) rfl dX0_plan_51 ?_
              refine lv_icmp_ge (tgt := 121) hx₀ hb dX0_plan_54 (by decide) (fun c_14 => ?_) (fun c_14 => ?_)
              · refine lv_iinc (v := egz1 + 1) (lv' := [(3, .int (egz1 + 1)), (5, .int mz11), (4, .int flz11), (0, .ref aBe), (1, .ref aTr), (2, .int mi)]) hx₀ hb dX0_plan_121 hl (k := 2) rfl rfl (by decide) rfl (fun ls hl => ?_)
                refine lv_goto (tgt := 7) hx₀ hb dX0_plan_124 (by decide) ?_
                exact ihz1 _ (lf_e_plan_3 egz1 jz1 hiz1_0 hjz1 c_2) (egz1 + 1) y0z11 y1z11 y2z11 y3z11 x1z11 x2z11 x3z11 _ _ _ (lf_e_plan_2 egz1 jz1 hiz1_0 hjz1 c_2) (k_pn_e (show 1 ≤ egz1 ∧ egz1 ≤ 9 from ⟨hiz1_0.1, (Int32.not_lt.mp c_2)⟩) (hiz11_0) hh1 hiz11_1 (Or.inr (Or.inr (Int32.not_lt.mpr c_14)))) rfl (hP.sub [0, 3, 1, 2] rfl) (hD.sub [0, 3, 1, 2] (by decide +kernel) rfl) hS (lv_sub hl [0, 3, 4, 5] rfl)
              · refine lv_aload_n hx₀ hb dX0_plan_57 rfl (lv_at hl 4 rfl) ?_
                refine lv_iload hx₀ hb dX0_plan_58 (lv_at hl 0 rfl) ?_
                refine lv_iconst (v := 1) hx₀ hb dX0_plan_60 (by decide +kernel) ?_
                refine lv_isub hx₀ hb dX0_plan_61 ?_
                refine lv_iload hx₀ hb dX0_plan_62 (lv_at hl 0 rfl) ?_
                refine lv_iload_n hx₀ hb dX0_plan_64 rfl (lv_at hl 5 rfl) ?_
                refine va_mmin hx₀ hb (by rw [hml]; exact hl.1.symm) hown (hts (.methodLink RX0 32 Lib.Math.min.name) wd_621) (hts (.static Lib.Math.min.name) wd_219) (hts (.initialized "java/lang/Math") wd_63) (hts (.code Lib.Math.min.name Lib.Math.min.code 2 (some .int)) wd_220) (by decide) (Nat.le_of_ble_eq_true rfl) (by decide) (by decide) dX0_plan_65 ?_
                by_cases c_15 : mi < mz11
                · refine k_topi (v := mi) (if_pos c_15) ?_
                  refine lv_iload_n hx₀ hb dX0_plan_68 rfl (lv_at hl 2 rfl) ?_
                  obtain ⟨hPc, hDc, hFc, hC⟩ := k_cw (wc := [(kX10 aTr aLa aPa aGe gL gR lf rt tgo tca tki tso tbe twe tle x1z11 x2z11 x3z11), (kX4 aLa vLa l4 a4 n4), (kAI vLa cI 24 f4)]) hP hD hS hA [3, 1, 2] (by decide +kernel) rfl
                  refine va_calli (va_runV (As := [.int (mz11 - 1), .int mi, .int egz1]) (rest := []) ⟨hx₀, hb, hml, hown, hts⟩ (e_goOn16 l dC dI cI cJ cQ H.size aTr (mz11 - 1) mi egz1 aLa aPa aGe gL gR lf rt tgo tca tki tso tbe twe tle x1z11 x2z11 x3z11 vLa l4 a4 n4 f4 ((k_pn_l hiz11_1 c_13).2.2)) (cwV 3 hts (kGV wd_506 wd_623 wd_504 wd_505 wd_30) rfl rfl rfl (by decide +kernel) ⟨Nat.le_of_ble_eq_true rfl, Nat.le_of_ble_eq_true rfl⟩) (k_preV9 (q0 := 0) hK hPc hDc hN rfl) rfl rfl hl.1 rfl (lv_room (Nat.le_of_ble_eq_true rfl)) dX0_plan_69 ⟨by decide +kernel, by decide +kernel⟩) hS (fun q _ h => hFc q h) hFc (fun r_16 u₀ t₀ H1 locs ht hvm hw hB hz1 hk1 hS => ?_)
                  obtain ⟨g_17, ga_18, gl_19, gb_20, gp_21⟩ := u₀
                  obtain ⟨hP1, hK1, hD1⟩ := hB
                  rw [ht] at hP1
                  have hJ := k_jn (wr := [(kX0 aBe y0z11 y1z11 y2z11 y3z11)]) (wt := [(kX0 aBe y0z11 y1z11 y2z11 y3z11), (kX10 aTr aLa aPa aGe gL gR lf rt tgo tca tki tso tbe twe tle (g_17 0) (g_17 1) (g_17 2)), (kX4 aLa vLa l4 a4 n4), (kAI vLa cI 24 f4)]) hP hD hC [0] rfl (by decide +kernel) (by decide +kernel) hk1 hFc hP1 hD1 rfl
                  clear hP hD hPc hDc hFc hC hP1 hD1 hK1 hz1 hk1 hvm ht
                  obtain ⟨hP, hD⟩ := hJ
                  generalize H1 = H at hP hS ⊢
                  try dsimp only at hw
                  obtain ⟨c_22, c_23, c_24, c_25, c_26⟩ := hw
                  refine lv_istore (lv' := [(6, .int r_16), (5, .int mz11), (4, .int flz11), (3, .int egz1), (0, .ref aBe), (1, .ref aTr), (2, .int mi)]) hx₀ hb dX0_plan_72 hl (by decide) rfl (fun ls hl => ?_)
                  refine lv_iload hx₀ hb dX0_plan_74 (lv_at hl 0 rfl) ?_
                  refine lv_iload hx₀ hb dX0_plan_76 (lv_at hl 1 rfl) ?_
                  refine lv_icmp_ne (tgt := 85) hx₀ hb dX0_plan_78 (by decide) (fun c_27 => ?_) (fun c9 => (lf_e_plan_4 mi tca egz1 jz1 y0z1 (g_5 0) tgo mz11 jz11 flz11 y0z11 r_16 hh0 hh1 hiz1_0 hjz1 c_2 c_3 c_10 hiz11_0 hjz11 c_12 c_13 c_14 c_15 c_26 c9).elim)
                  refine lv_iconst (v := 0) hx₀ hb dX0_plan_85 (by decide +kernel) ?_
                  refine lv_istore (lv' := [(4, .int 0), (6, .int r_16), (5, .int mz11), (3, .int egz1), (0, .ref aBe), (1, .ref aTr), (2, .int mi)]) hx₀ hb dX0_plan_86 hl (by decide) rfl (fun ls hl => ?_)
                  refine lv_iload hx₀ hb dX0_plan_88 (lv_at hl 0 rfl) ?_
                  refine lv_if_eq (tgt := 105) hx₀ hb dX0_plan_90 (by decide) (fun _ => ?_) (fun c9 => absurd (by decide +kernel) c9)
                  refine lv_aload_n hx₀ hb dX0_plan_105 rfl (lv_at hl 4 rfl) ?_
                  refine lv_iload hx₀ hb dX0_plan_106 (lv_at hl 1 rfl) ?_
                  refine lv_iload_n hx₀ hb dX0_plan_108 rfl (lv_at hl 3 rfl) ?_
                  refine lv_iload hx₀ hb dX0_plan_109 (lv_at hl 2 rfl) ?_
                  refine lv_iconst (v := 1) hx₀ hb dX0_plan_111 (by decide +kernel) ?_
                  obtain ⟨hPc, hDc, hFc, hC⟩ := k_cw (wc := [(kX0 aBe y0z11 y1z11 y2z11 y3z11)]) hP hD hS hA [0] (by decide +kernel) rfl
                  refine va_callv (va_runV (As := [.int r_16, .int egz1, .int mz11, .int 1]) (rest := []) ⟨hx₀, hb, hml, hown, hts⟩ (e_note l dC dI cI cJ cQ H.size aBe r_16 egz1 mz11 1 y0z11 y1z11 y2z11 y3z11) (cwV 4 hts (kGV wd_633 wd_630 wd_631 wd_632 wd_34) rfl rfl rfl (by decide +kernel) ⟨Nat.le_of_ble_eq_true rfl, Nat.le_of_ble_eq_true rfl⟩) (k_preV0 (q0 := 0) hK hPc hDc hN rfl) rfl rfl hl.1 rfl (lv_room (Nat.le_of_ble_eq_true rfl)) dX0_plan_112 ⟨by decide +kernel, by decide +kernel⟩) hS (fun q _ h => hFc q h) hFc (fun u₀ t₀ H1 locs ht hvm hw hB hz1 hk1 hS => ?_)
                  obtain ⟨g_29, ga_30, gl_31, gb_32, gp_33⟩ := u₀
                  obtain ⟨hP1, hK1, hD1⟩ := hB
                  rw [ht] at hP1
                  have hJ := k_jn (wr := [(kX10 aTr aLa aPa aGe gL gR lf rt tgo tca tki tso tbe twe tle (g_17 0) (g_17 1) (g_17 2)), (kX4 aLa vLa l4 a4 n4), (kAI vLa cI 24 f4)]) (wt := [(kX10 aTr aLa aPa aGe gL gR lf rt tgo tca tki tso tbe twe tle (g_17 0) (g_17 1) (g_17 2)), (kX4 aLa vLa l4 a4 n4), (kAI vLa cI 24 f4), (kX0 aBe (g_29 0) (g_29 1) (g_29 2) (g_29 3))]) hP hD hC [1, 2, 3] rfl (by decide +kernel) (by decide +kernel) hk1 hFc hP1 hD1 rfl
                  clear hP hD hPc hDc hFc hC hP1 hD1 hK1 hz1 hk1 hvm ht
                  obtain ⟨hP, hD⟩ := hJ
                  generalize H1 = H at hP hS ⊢
                  try dsimp only at hw
                  obtain ⟨c_34, c_35, c_36, c_37⟩ := hw
                  refine lv_iinc (v := mz11 + 1) (lv' := [(5, .int (mz11 + 1)), (4, .int 0), (6, .int r_16), (3, .int egz1), (0, .ref aBe), (1, .ref aTr), (2, .int mi)]) hx₀ hb dX0_plan_115 hl (k := 2) rfl rfl (by decide) rfl (fun ls hl => ?_)
                  refine lv_goto (tgt := 34) hx₀ hb dX0_plan_118 (by decide) ?_
                  exact ihz11 _ (lf_e_plan_7 mi tca egz1 jz1 y0z1 mz11 jz11 y0z11 r_16 (g_29 0) (g_29 1) y1z11 (g_29 2) y2z11 (g_29 3) y3z11 hh0 hh1 hiz1_0 hjz1 c_2 c_3 hiz11_0 hjz11 c_12 c_14 c_15 c_26 c_27 c_34 c_35 c_36 c_37) (0 : Int32) (mz11 + 1) (g_29 0) (g_29 1) (g_29 2) (g_29 3) (g_17 0) (g_17 1) (g_17 2) _ _ _ (lf_e_plan_5 mi tca egz1 jz1 y0z1 mz11 jz11 y0z11 r_16 (g_29 0) (g_29 1) y1z11 (g_29 2) y2z11 (g_29 3) y3z11 hh0 hh1 hiz1_0 hjz1 c_2 c_3 hiz11_0 hjz11 c_12 c_14 c_15 c_26 c_27 c_34 c_35 c_36 c_37) (Or.inr ⟨rfl, (kV_fall (show 1 ≤ egz1 ∧ egz1 ≤ 9 from ⟨hiz1_0.1, (Int32.not_lt.mp c_2)⟩) (lf_e_plan_6 mi tca egz1 jz1 y0z1 mz11 jz11 y0z11 r_16 (g_29 0) (g_29 1) y1z11 (g_29 2) y2z11 (g_29 3) y3z11 hh0 hh1 hiz1_0 hjz1 c_2 c_3 hiz11_0 hjz11 c_12 c_14 c_15 c_26 c_27 c_34 c_35 c_36 c_37) hh0 (k_pn_l hiz11_1 c_13).2.2 (k_pn_l hiz11_1 c_13).2.1 ((if_pos c_15).symm) c_22 c_27 c_34 c_35 c_36 c_37).trans (k_pn_l hiz11_1 c_13).1⟩) rfl (hP.sub [3, 1, 2, 0] rfl) (hD.sub [3, 1, 2, 0] (by decide +kernel) rfl) hS (lv_sub hl [0, 1, 3, 4, 5, 6] rfl)
                refine k_topi (v := mz11) (if_neg c_15) ?_
                refine lv_iload_n hx₀ hb dX0_plan_68 rfl (lv_at hl 2 rfl) ?_
                obtain ⟨hPc, hDc, hFc, hC⟩ := k_cw (wc := [(kX10 aTr aLa aPa aGe gL gR lf rt tgo tca tki tso tbe twe tle x1z11 x2z11 x3z11), (kX4 aLa vLa l4 a4 n4), (kAI vLa cI 24 f4)]) hP hD hS hA [3, 1, 2] (by decide +kernel) rfl
                refine va_calli (va_runV (As := [.int (mz11 - 1), .int mz11, .int egz1]) (rest := []) ⟨hx₀, hb, hml, hown, hts⟩ (e_goOn16 l dC dI cI cJ cQ H.size aTr (mz11 - 1) mz11 egz1 aLa aPa aGe gL gR lf rt tgo tca tki tso tbe twe tle x1z11 x2z11 x3z11 vLa l4 a4 n4 f4 (lf_e_plan_8 mi mz11 jz11 hh0 hiz11_0 hjz11 c_12 c_15)) (cwV 3 hts (kGV wd_506 wd_623 wd_504 wd_505 wd_30) rfl rfl rfl (by decide +kernel) ⟨Nat.le_of_ble_eq_true rfl, Nat.le_of_ble_eq_true rfl⟩) (k_preV9 (q0 := 0) hK hPc hDc hN rfl) rfl rfl hl.1 rfl (lv_room (Nat.le_of_ble_eq_true rfl)) dX0_plan_69 ⟨by decide +kernel, by decide +kernel⟩) hS (fun q _ h => hFc q h) hFc (fun r_38 u₀ t₀ H1 locs ht hvm hw hB hz1 hk1 hS => ?_)
                obtain ⟨g_39, ga_40, gl_41, gb_42, gp_43⟩ := u₀
                obtain ⟨hP1, hK1, hD1⟩ := hB
                rw [ht] at hP1
                have hJ := k_jn (wr := [(kX0 aBe y0z11 y1z11 y2z11 y3z11)]) (wt := [(kX0 aBe y0z11 y1z11 y2z11 y3z11), (kX10 aTr aLa aPa aGe gL gR lf rt tgo tca tki tso tbe twe tle (g_39 0) (g_39 1) (g_39 2)), (kX4 aLa vLa l4 a4 n4), (kAI vLa cI 24 f4)]) hP hD hC [0] rfl (by decide +kernel) (by decide +kernel) hk1 hFc hP1 hD1 rfl
                clear hP hD hPc hDc hFc hC hP1 hD1 hK1 hz1 hk1 hvm ht
                obtain ⟨hP, hD⟩ := hJ
                generalize H1 = H at hP hS ⊢
                try dsimp only at hw
                obtain ⟨c_44, c_45, c_46, c_47, c_48⟩ := hw
                refine lv_istore (lv' := [(6, .int r_38), (5, .int mz11), (4, .int flz11), (3, .int egz1), (0, .ref aBe), (1, .ref aTr), (2, .int mi)]) hx₀ hb dX0_plan_72 hl (by decide) rfl (fun ls hl => ?_)
                refine lv_iload hx₀ hb dX0_plan_74 (lv_at hl 0 rfl) ?_
                refine lv_iload hx₀ hb dX0_plan_76 (lv_at hl 1 rfl) ?_
                refine lv_icmp_ne (tgt := 85) hx₀ hb dX0_plan_78 (by decide) (fun c_49 => ?_) (fun c_49 => ?_)
                · refine lv_iconst (v := 0) hx₀ hb dX0_plan_85 (by decide +kernel) ?_
                  refine lv_istore (lv' := [(4, .int 0), (6, .int r_38), (5, .int mz11), (3, .int egz1), (0, .ref aBe), (1, .ref aTr), (2, .int mi)]) hx₀ hb dX0_plan_86 hl (by decide) rfl (fun ls hl => ?_)
                  refine lv_iload hx₀ hb dX0_plan_88 (lv_at hl 0 rfl) ?_
                  refine lv_if_eq (tgt := 105) hx₀ hb dX0_plan_90 (by decide) (fun _ => ?_) (fun c9 => absurd (by decide +kernel) c9)
                  refine lv_aload_n hx₀ hb dX0_plan_105 rfl (lv_at hl 4 rfl) ?_
                  refine lv_iload hx₀ hb dX0_plan_106 (lv_at hl 1 rfl) ?_
                  refine lv_iload_n hx₀ hb dX0_plan_108 rfl (lv_at hl 3 rfl) ?_
                  refine lv_iload hx₀ hb dX0_plan_109 (lv_at hl 2 rfl) ?_
                  refine lv_iconst (v := 1) hx₀ hb dX0_plan_111 (by decide +kernel) ?_
                  obtain ⟨hPc, hDc, hFc, hC⟩ := k_cw (wc := [(kX0 aBe y0z11 y1z11 y2z11 y3z11)]) hP hD hS hA [0] (by decide +kernel) rfl
                  refine va_callv (va_runV (As := [.int r_38, .int egz1, .int mz11, .int 1]) (rest := []) ⟨hx₀, hb, hml, hown, hts⟩ (e_note l dC dI cI cJ cQ H.size aBe r_38 egz1 mz11 1 y0z11 y1z11 y2z11 y3z11) (cwV 4 hts (kGV wd_633 wd_630 wd_631 wd_632 wd_34) rfl rfl rfl (by decide +kernel) ⟨Nat.le_of_ble_eq_true rfl, Nat.le_of_ble_eq_true rfl⟩) (k_preV0 (q0 := 0) hK hPc hDc hN rfl) rfl rfl hl.1 rfl (lv_room (Nat.le_of_ble_eq_true rfl)) dX0_plan_112 ⟨by decide +kernel, by decide +kernel⟩) hS (fun q _ h => hFc q h) hFc (fun u₀ t₀ H1 locs ht hvm hw hB hz1 hk1 hS => ?_)
                  obtain ⟨g_51, ga_52, gl_53, gb_54, gp_55⟩ := u₀
                  obtain ⟨hP1, hK1, hD1⟩ := hB
                  rw [ht] at hP1
                  have hJ := k_jn (wr := [(kX10 aTr aLa aPa aGe gL gR lf rt tgo tca tki tso tbe twe tle (g_39 0) (g_39 1) (g_39 2)), (kX4 aLa vLa l4 a4 n4), (kAI vLa cI 24 f4)]) (wt := [(kX10 aTr aLa aPa aGe gL gR lf rt tgo tca tki tso tbe twe tle (g_39 0) (g_39 1) (g_39 2)), (kX4 aLa vLa l4 a4 n4), (kAI vLa cI 24 f4), (kX0 aBe (g_51 0) (g_51 1) (g_51 2) (g_51 3))]) hP hD hC [1, 2, 3] rfl (by decide +kernel) (by decide +kernel) hk1 hFc hP1 hD1 rfl
                  clear hP hD hPc hDc hFc hC hP1 hD1 hK1 hz1 hk1 hvm ht
                  obtain ⟨hP, hD⟩ := hJ
                  generalize H1 = H at hP hS ⊢
                  try dsimp only at hw
                  obtain ⟨c_56, c_57, c_58, c_59⟩ := hw
                  refine lv_iinc (v := mz11 + 1) (lv' := [(5, .int (mz11 + 1)), (4, .int 0), (6, .int r_38), (3, .int egz1), (0, .ref aBe), (1, .ref aTr), (2, .int mi)]) hx₀ hb dX0_plan_115 hl (k := 2) rfl rfl (by decide) rfl (fun ls hl => ?_)
                  refine lv_goto (tgt := 34) hx₀ hb dX0_plan_118 (by decide) ?_
                  exact ihz11 _ (lf_e_plan_11 mi tca egz1 jz1 y0z1 mz11 jz11 y0z11 r_38 (g_51 0) (g_51 1) y1z11 (g_51 2) y2z11 (g_51 3) y3z11 hh0 hh1 hiz1_0 hjz1 c_2 c_3 hiz11_0 hjz11 c_12 c_14 c_15 c_48 c_49 c_56 c_57 c_58 c_59) (0 : Int32) (mz11 + 1) (g_51 0) (g_51 1) (g_51 2) (g_51 3) (g_39 0) (g_39 1) (g_39 2) _ _ _ (lf_e_plan_9 mi tca egz1 jz1 y0z1 mz11 jz11 y0z11 r_38 (g_51 0) (g_51 1) y1z11 (g_51 2) y2z11 (g_51 3) y3z11 hh0 hh1 hiz1_0 hjz1 c_2 c_3 hiz11_0 hjz11 c_12 c_14 c_15 c_48 c_49 c_56 c_57 c_58 c_59) (Or.inr ⟨rfl, (kV_fall (show 1 ≤ egz1 ∧ egz1 ≤ 9 from ⟨hiz1_0.1, (Int32.not_lt.mp c_2)⟩) (lf_e_plan_10 mi tca egz1 jz1 y0z1 mz11 jz11 y0z11 r_38 (g_51 0) (g_51 1) y1z11 (g_51 2) y2z11 (g_51 3) y3z11 hh0 hh1 hiz1_0 hjz1 c_2 c_3 hiz11_0 hjz11 c_12 c_14 c_15 c_48 c_49 c_56 c_57 c_58 c_59) hh0 (k_pn_l hiz11_1 c_13).2.2 (k_pn_l hiz11_1 c_13).2.1 ((if_neg c_15).symm) c_44 c_49 c_56 c_57 c_58 c_59).trans (k_pn_l hiz11_1 c_13).1⟩) rfl (hP.sub [3, 1, 2, 0] rfl) (hD.sub [3, 1, 2, 0] (by decide +kernel) rfl) hS (lv_sub hl [0, 1, 3, 4, 5, 6] rfl)
                · refine lv_iconst (v := 1) hx₀ hb dX0_plan_81 (by decide +kernel) ?_
                  refine lv_goto (tgt := 86) hx₀ hb dX0_plan_82 (by decide) ?_
                  refine lv_istore (lv' := [(4, .int 1), (6, .int r_38), (5, .int mz11), (3, .int egz1), (0, .ref aBe), (1, .ref aTr), (2, .int mi)]) hx₀ hb dX0_plan_86 hl (by decide) rfl (fun ls hl => ?_)
                  refine lv_iload hx₀ hb dX0_plan_88 (lv_at hl 0 rfl) ?_
                  refine lv_if_eq (tgt := 105) hx₀ hb dX0_plan_90 (by decide) (fun c9 => absurd c9 (by decide +kernel)) (fun _ => ?_)
                  refine lv_aload_n hx₀ hb dX0_plan_93 rfl (lv_at hl 4 rfl) ?_
                  refine lv_aload_n hx₀ hb dX0_plan_94 rfl (lv_at hl 5 rfl) ?_
                  refine lv_iload_n hx₀ hb dX0_plan_95 rfl (lv_at hl 6 rfl) ?_
                  refine lv_iload_n hx₀ hb dX0_plan_96 rfl (lv_at hl 3 rfl) ?_
                  refine lv_iload hx₀ hb dX0_plan_97 (lv_at hl 2 rfl) ?_
                  obtain ⟨hPc, hDc, hFc, hC⟩ := k_cw (wc := [(kX0 aBe y0z11 y1z11 y2z11 y3z11), (kX10 aTr aLa aPa aGe gL gR lf rt tgo tca tki tso tbe twe tle (g_39 0) (g_39 1) (g_39 2)), (kX4 aLa vLa l4 a4 n4), (kAI vLa cI 24 f4)]) hP hD hS hA [0, 1, 2, 3] (by decide +kernel) rfl
                  refine va_callv (va_runV (As := [.ref aTr, .int mi, .int egz1, .int mz11]) (rest := []) ⟨hx₀, hb, hml, hown, hts⟩ (e_trySecond l dC dI cI cJ cQ H.size aBe aTr mi egz1 mz11 y0z11 y1z11 y2z11 y3z11 aLa aPa aGe gL gR lf rt tgo tca tki tso tbe twe tle (g_39 0) (g_39 1) (g_39 2) vLa l4 a4 n4 f4 (show 1 ≤ egz1 ∧ egz1 ≤ 9 from ⟨hiz1_0.1, (Int32.not_lt.mp c_2)⟩) (lf_e_plan_12 mi mz11 jz11 r_38 hh0 hiz11_0 hjz11 c_12 c_15 c_48 c_49) (hh0) (show mz11 ≤ mi from (Int32.not_lt.mp c_15)) (k_ss_s (lf_e_plan_12 mi mz11 jz11 r_38 hh0 hiz11_0 hjz11 c_12 c_15 c_48 c_49) (k_pn_l hiz11_1 c_13).2.1 c_44 c_49 c_45 c_46)) (cwV 4 hts (kGV wd_627 wd_624 wd_625 wd_626 wd_34) rfl rfl rfl (by decide +kernel) ⟨Nat.le_of_ble_eq_true rfl, Nat.le_of_ble_eq_true rfl⟩) (k_preV0 (q0 := 0) hK hPc hDc hN rfl) rfl rfl hl.1 rfl (lv_room (Nat.le_of_ble_eq_true rfl)) dX0_plan_99 ⟨by decide +kernel, by decide +kernel⟩) hS (fun q _ h => hFc q h) hFc (fun u₀ t₀ H1 locs ht hvm hw hB hz1 hk1 hS => ?_)
                  obtain ⟨g_61, ga_62, gl_63, gb_64, gp_65⟩ := u₀
                  obtain ⟨hP1, hK1, hD1⟩ := hB
                  rw [ht] at hP1
                  have hJ := k_jn (wr := []) (wt := [(kX0 aBe (g_61 0) (g_61 1) (g_61 2) (g_61 3)), (kX10 aTr aLa aPa aGe gL gR lf rt tgo tca tki tso tbe twe tle (g_61 4) (g_61 5) (g_61 6)), (kX4 aLa vLa l4 a4 n4), (kAI vLa cI 24 f4)]) hP hD hC [] rfl (by decide +kernel) (by decide +kernel) hk1 hFc hP1 hD1 rfl
                  clear hP hD hPc hDc hFc hC hP1 hD1 hK1 hz1 hk1 hvm ht
                  obtain ⟨hP, hD⟩ := hJ
                  generalize H1 = H at hP hS ⊢
                  try dsimp only at hw
                  obtain ⟨c_66, c_67, c_68⟩ := hw
                  refine lv_goto (tgt := 115) hx₀ hb dX0_plan_102 (by decide) ?_
                  refine lv_iinc (v := mz11 + 1) (lv' := [(5, .int (mz11 + 1)), (4, .int 1), (6, .int r_38), (3, .int egz1), (0, .ref aBe), (1, .ref aTr), (2, .int mi)]) hx₀ hb dX0_plan_115 hl (k := 2) rfl rfl (by decide) rfl (fun ls hl => ?_)
                  refine lv_goto (tgt := 34) hx₀ hb dX0_plan_118 (by decide) ?_
                  exact ihz11 _ (lf_e_plan_14 mi mz11 jz11 r_38 hh0 hiz11_0 hjz11 c_12 c_15 c_48 c_49) (1 : Int32) (mz11 + 1) (g_61 0) (g_61 1) (g_61 2) (g_61 3) (g_61 4) (g_61 5) (g_61 6) _ _ _ (lf_e_plan_13 mi mz11 jz11 r_38 hh0 hiz11_0 hjz11 c_12 c_15 c_48 c_49) (Or.inl ⟨rfl, ((kV_o10 (lf_e_plan_12 mi mz11 jz11 r_38 hh0 hiz11_0 hjz11 c_12 c_15 c_48 c_49)).symm.trans c_66).trans (k_pn_l hiz11_1 c_13).1, by rw [Int32.add_sub_cancel, c_67, c_68]; exact k_ss_s (lf_e_plan_12 mi mz11 jz11 r_38 hh0 hiz11_0 hjz11 c_12 c_15 c_48 c_49) (k_pn_l hiz11_1 c_13).2.1 c_44 c_49 c_45 c_46, by rw [Int32.add_sub_cancel]; exact show mz11 ≤ mi from (Int32.not_lt.mp c_15)⟩) rfl (hP.sub [0, 2, 3, 1] rfl) (hD.sub [0, 2, 3, 1] (by decide +kernel) rfl) hS (lv_sub hl [0, 1, 3, 4, 5, 6] rfl)
set_option maxHeartbeats 4000000 in
set_option maxRecDepth 100000 in
theorem e_climb_ (l : Launch) (dC : Nat → ClassId) (dI : Nat → Nat → Nat) (cI cJ cQ : ClassId) (sz : Nat) (hx : Nat) (f1 : Int32) (i1 : Int32) (aLa : Nat) (aPa : Nat) (aGe : Nat) (aFl : Nat) (aTr : Nat) (aBe : Nat) (aLu : Nat) (aLo : Nat) (vSf : Nat) (vSm : Nat) (vCo : Nat) (vSh : Nat) (xs : Int32) (xl : Int32) (xf : Int32) (gL : Nat) (gR : Nat) (lf : Nat) (rt : Nat) (tgo : Int32) (tca : Int32) (tki : Int32) (tso : Int32) (tbe : Int32) (twe : Int32) (tle : Int32) (tan : Int32) (tco : Int32) (ten : Int32) (u0 : Int32) (u1 : Int32) (u2 : Int32) (u3 : Int32) (v0 : Int32) (v1 : Int32) (v2 : Int32) (v3 : Int32) (vLa : Nat) (l4 : Int32) (a4 : Int32) (n4 : Int32) (f4 : Nat → Int32) (vPa : Nat) (l7 : Int32) (a7 : Int32) (n7 : Int32) (f7 : Nat → Int32) (vGe : Nat) (l2 : Int32) (a2 : Int32) (n2 : Int32) (f2 : Nat → Int32) (vFl : Nat) (xn : Int32) (ff : Nat → Int32) (k0 : Int32) (k1 : Int32) (k2 : Int32) (k3 : Int32) (hh0 : 0 ≤ n4 ∧ n4 ≤ 24) (hh1 : 0 ≤ xn ∧ xn ≤ 8) : Met l yX11_climb (kW yX11_climb cX11_climb 3 (some .int)) { frames := 4, cells := 0, slots := 0, locals := 102 } (kPre dC dI cI cJ cQ sz [.ref hx, .int f1, .int i1] [(kX11 hx aLa aPa aGe aFl aTr aBe aLu aLo vSf vSm vCo vSh xs xl xf), (kX10 aTr aLa aPa aGe gL gR lf rt tgo tca tki tso tbe twe tle tan tco ten), (kX3 gL u0 u1 u2 u3), (kX3 gR v0 v1 v2 v3), (kX4 aLa vLa l4 a4 n4), (kAI vLa cI 24 f4), (kX7 aPa vPa l7 a7 n7), (kAI vPa cI 39 f7), (kX2 aGe vGe l2 a2 n2), (kAI vGe cI 23 f2), (kX1 aFl vFl xn), (kAI vFl cI 32 ff), (kX0 aBe k0 k1 k2 k3)]) (va_Qi (fun (r : Int32) (u : kS) => (r = if (0 ≤ f1 ∧ f1 < xn) ∧ (-1) ≤ i1 ∧ i1 ≤ 2 then (if i1 = 0 then (kV (fun x1 => (kOH f4 f7 f2 n4 n7 n2 xl (kIt xn ff f1 0) (kIt xn ff f1 1) (kIt xn ff f1 2) (kAt 39 f7 ((5 * (kIt xn ff f1 0)) + 1)) (kHc x1)).1) 1 1 1 (-1, 1, 1, 1)).2.1 else if i1 = 1 then (kV (fun x1 => (kOH f4 f7 f2 n4 n7 n2 xl (kIt xn ff f1 0) (kIt xn ff f1 1) (kIt xn ff f1 2) (kAt 39 f7 ((5 * (kIt xn ff f1 0)) + 1)) (kHc x1)).1) 1 1 1 (-1, 1, 1, 1)).2.2.1 else if i1 = 2 then (kV (fun x1 => (kOH f4 f7 f2 n4 n7 n2 xl (kIt xn ff f1 0) (kIt xn ff f1 1) (kIt xn ff f1 2) (kAt 39 f7 ((5 * (kIt xn ff f1 0)) + 1)) (kHc x1)).1) 1 1 1 (-1, 1, 1, 1)).2.2.2 else (kV (fun x1 => (kOH f4 f7 f2 n4 n7 n2 xl (kIt xn ff f1 0) (kIt xn ff f1 1) (kIt xn ff f1 2) (kAt 39 f7 ((5 * (kIt xn ff f1 0)) + 1)) (kHc x1)).1) 1 1 1 (-1, 1, 1, 1)).1) else -2)) (fun (u : kS) t₀ => kB dC dI cI cJ cQ (va_A [(kX11 hx aLa aPa aGe aFl aTr aBe aLu aLo vSf vSm vCo vSh xs xl xf), (kX10 aTr aLa aPa aGe gL gR lf rt tgo tca tki tso tbe twe tle tan tco ten), (kX3 gL u0 u1 u2 u3), (kX3 gR v0 v1 v2 v3), (kX4 aLa vLa l4 a4 n4), (kAI vLa cI 24 f4), (kX7 aPa vPa l7 a7 n7), (kAI vPa cI 39 f7), (kX2 aGe vGe l2 a2 n2), (kAI vGe cI 23 f2), (kX1 aFl vFl xn), (kAI vFl cI 32 ff), (kX0 aBe k0 k1 k2 k3)] sz) [(kX11 hx aLa aPa aGe aFl aTr aBe aLu aLo vSf vSm vCo vSh xs xl xf), (kX10 aTr aLa aPa aGe gL gR (u.2.2.2.2 0) (u.2.2.2.2 1) (u.1 8) (u.1 9) (u.1 10) (u.1 11) (u.1 12) (u.1 13) (u.1 14) (u.1 15) (u.1 16) (u.1 17)), (kX3 gL (u.1 0) (u.1 1) (u.1 2) (u.1 3)), (kX3 gR (u.1 4) (u.1 5) (u.1 6) (u.1 7)), (kX4 aLa vLa l4 a4 n4), (kAI vLa cI 24 f4), (kX7 aPa vPa l7 a7 n7), (kAI vPa cI 39 f7), (kX2 aGe vGe l2 a2 n2), (kAI vGe cI 23 f2), (kX1 aFl vFl xn), (kAI vFl cI 32 ff), (kX0 aBe (u.1 18) (u.1 19) (u.1 20) (u.1 21))] t₀) (va_A [(kX11 hx aLa aPa aGe aFl aTr aBe aLu aLo vSf vSm vCo vSh xs xl xf), (kX10 aTr aLa aPa aGe gL gR lf rt tgo tca tki tso tbe twe tle tan tco ten), (kX3 gL u0 u1 u2 u3), (kX3 gR v0 v1 v2 v3), (kX4 aLa vLa l4 a4 n4), (kAI vLa cI 24 f4), (kX7 aPa vPa l7 a7 n7), (kAI vPa cI 39 f7), (kX2 aGe vGe l2 a2 n2), (kAI vGe cI 23 f2), (kX1 aFl vFl xn), (kAI vFl cI 32 ff), (kX0 aBe k0 k1 k2 k3)] sz)) 0 0 (va_A [(kX11 hx aLa aPa aGe aFl aTr aBe aLu aLo vSf vSm vCo vSh xs xl xf), (kX10 aTr aLa aPa aGe gL gR lf rt tgo tca tki tso tbe twe tle tan tco ten), (kX3 gL u0 u1 u2 u3), (kX3 gR v0 v1 v2 v3), (kX4 aLa vLa l4 a4 n4), (kAI vLa cI 24 f4), (kX7 aPa vPa l7 a7 n7), (kAI vPa cI 39 f7), (kX2 aGe vGe l2 a2 n2), (kAI vGe cI 23 f2), (kX1 aFl vFl xn), (kAI vFl cI 32 ff), (kX0 aBe k0 k1 k2 k3)] sz) := by
  refine Met.ofW (cc := cX11_climb) (maxL := 3) (ret := (some .int)) (by decide) rfl ?_
  intro p₀ e₀ s₀ m₀ args below meth c₀ s₁ B hml hv₀
  obtain ⟨rfl, hsz, hP, hK, hD0, hN⟩ := hv₀
  have hx₀ := B.exec
  have hb := B.bytes
  have hr := B.returns
  have hts := atoms_spec (ws := (kW yX11_climb cX11_climb 3 (some .int))) B.pre
  have hts := fun w h => hts w (List.mem_cons_of_mem _ h)
  have hown : s₀.vm.findClass RX11 = some m₀.cls := findClass_of_methodNamed B.named
  have hlocks := B.notSynchronized
  subst hsz
  have hD := hD0.self (sz := s₀.heap.size)
  generalize hAe : va_A [(kX11 hx aLa aPa aGe aFl aTr aBe aLu aLo vSf vSm vCo vSh xs xl xf), (kX10 aTr aLa aPa aGe gL gR lf rt tgo tca tki tso tbe twe tle tan tco ten), (kX3 gL u0 u1 u2 u3), (kX3 gR v0 v1 v2 v3), (kX4 aLa vLa l4 a4 n4), (kAI vLa cI 24 f4), (kX7 aPa vPa l7 a7 n7), (kAI vPa cI 39 f7), (kX2 aGe vGe l2 a2 n2), (kAI vGe cI 23 f2), (kX1 aFl vFl xn), (kAI vFl cI 32 ff), (kX0 aBe k0 k1 k2 k3)] s₀.heap.size = A at hD ⊢
  have hA : ∀ q : Nat, s₀.heap.size ≤ q → A q := fun q h => by rw [← hAe]; exact Or.inr h
  have hS : va_S A s₀.heap s₀.heap [] := va_S.rf
  have hP : va_P (dC, dI) vwCl [(kX11 hx aLa aPa aGe aFl aTr aBe aLu aLo vSf vSm vCo vSh xs xl xf), (kX10 aTr aLa aPa aGe gL gR lf rt tgo tca tki tso tbe twe tle tan tco ten), (kX3 gL u0 u1 u2 u3), (kX3 gR v0 v1 v2 v3), (kX4 aLa vLa l4 a4 n4), (kAI vLa cI 24 f4), (kX7 aPa vPa l7 a7 n7), (kAI vPa cI 39 f7), (kX2 aGe vGe l2 a2 n2), (kAI vGe cI 23 f2), (kX1 aFl vFl xn), (kAI vFl cI 32 ff), (kX0 aBe k0 k1 k2 k3)] s₀.heap := hP
  have hl := lv_entry ([.ref hx, .int f1, .int i1]) (n := 3) (Nat.le_of_ble_eq_true rfl)
  rw [lg_entry_eq]
  generalize (lg_sl ([.ref hx, .int f1, .int i1]) ++ List.replicate (3 - (lg_sl ([.ref hx, .int f1, .int i1])).length) Slot.unset).toArray = ls at hl ⊢
  have hl : lv_has ls 3 [(0, .ref hx), (1, .int f1), (2, .int i1)] := hl
  obtain ⟨H, hH⟩ : ∃ z : Heap, z = s₀.heap := ⟨_, rfl⟩
  rw [← hH] at hP
  have hS : va_S A s₀.heap H [] := by rw [hH]; exact hS
  refine k_heap hH ?_
  have hD : va_D A [(kX11 hx aLa aPa aGe aFl aTr aBe aLu aLo vSf vSm vCo vSh xs xl xf), (kX10 aTr aLa aPa aGe gL gR lf rt tgo tca tki tso tbe twe tle tan tco ten), (kX3 gL u0 u1 u2 u3), (kX3 gR v0 v1 v2 v3), (kX4 aLa vLa l4 a4 n4), (kAI vLa cI 24 f4), (kX7 aPa vPa l7 a7 n7), (kAI vPa cI 39 f7), (kX2 aGe vGe l2 a2 n2), (kAI vGe cI 23 f2), (kX1 aFl vFl xn), (kAI vFl cI 32 ff), (kX0 aBe k0 k1 k2 k3)] := hD
  obtain ⟨locs, hlo⟩ : ∃ z : List Loc, z = [] := ⟨_, rfl⟩
  rw [← hlo] at hS ⊢
  clear hlo hH hAe hD0
  refine lv_aload_n hx₀ hb dX11_climb_0 rfl (lv_at hl 0 rfl) ?_
  refine va_get (D := (dC, dI)) (ci := 10) (v := .ref aFl) (C := RX11) (T := TX11) (N := 15) hx₀ hb hts inlX11 hown hK hP 0 rfl rfl 3 (by decide) (hts (.fieldLink RX11 33 "BittenStick" "flights" "LBittenStick$Flights;") wd_27) (fun _ h9 => h9) rfl dX11_climb_1 ?_
  refine lv_iload_n hx₀ hb dX11_climb_4 rfl (lv_at hl 1 rfl) ?_
  obtain ⟨hPc, hDc, hFc, hC⟩ := k_cw (wc := [(kX1 aFl vFl xn)]) hP hD hS hA [10] (by decide +kernel) rfl
  refine va_calli (va_runV (As := [.int f1]) (rest := []) ⟨hx₀, hb, hml, hown, hts⟩ (j_fHas l dC dI cI cJ cQ H.size aFl f1 vFl xn) (cwV 1 hts (kGV wd_426 wd_423 wd_424 wd_425 wd_26) rfl rfl rfl (by decide +kernel) ⟨Nat.le_of_ble_eq_true rfl, Nat.le_of_ble_eq_true rfl⟩) (k_preV1 (q0 := 0) hK hPc hDc hN rfl) rfl rfl hl.1 rfl (lv_room (Nat.le_of_ble_eq_true rfl)) dX11_climb_5 ⟨by decide +kernel, by decide +kernel⟩) hS (fun q _ h => hFc q h) hFc (fun r_1 u₀ t₀ H1 locs ht hvm hw hB hz1 hk1 hS => ?_)
  obtain ⟨hP1, hK1, hD1⟩ := hB
  rw [ht] at hP1
  have hJ := k_jn (wr := [(kX11 hx aLa aPa aGe aFl aTr aBe aLu aLo vSf vSm vCo vSh xs xl xf), (kX10 aTr aLa aPa aGe gL gR lf rt tgo tca tki tso tbe twe tle tan tco ten), (kX3 gL u0 u1 u2 u3), (kX3 gR v0 v1 v2 v3), (kX4 aLa vLa l4 a4 n4), (kAI vLa cI 24 f4), (kX7 aPa vPa l7 a7 n7), (kAI vPa cI 39 f7), (kX2 aGe vGe l2 a2 n2), (kAI vGe cI 23 f2), (kAI vFl cI 32 ff), (kX0 aBe k0 k1 k2 k3)]) (wt := [(kX11 hx aLa aPa aGe aFl aTr aBe aLu aLo vSf vSm vCo vSh xs xl xf), (kX10 aTr aLa aPa aGe gL gR lf rt tgo tca tki tso tbe twe tle tan tco ten), (kX3 gL u0 u1 u2 u3), (kX3 gR v0 v1 v2 v3), (kX4 aLa vLa l4 a4 n4), (kAI vLa cI 24 f4), (kX7 aPa vPa l7 a7 n7), (kAI vPa cI 39 f7), (kX2 aGe vGe l2 a2 n2), (kAI vGe cI 23 f2), (kAI vFl cI 32 ff), (kX0 aBe k0 k1 k2 k3), (kX1 aFl vFl xn)]) hP hD hC [0, 1, 2, 3, 4, 5, 6, 7, 8, 9, 11, 12] rfl (by decide +kernel) (by decide +kernel) hk1 hFc hP1 hD1 rfl
  clear hP hD hPc hDc hFc hC hP1 hD1 hK1 hz1 hk1 hvm ht
  obtain ⟨hP, hD⟩ := hJ
  generalize H1 = H at hP hS ⊢
  try dsimp only at hw
  by_cases c_2 : 0 ≤ f1 ∧ f1 < xn
  · rw [if_pos c_2] at hw
    refine k_topi (v := 1) hw ?_
    refine lv_if_eq (tgt := 21) hx₀ hb dX11_climb_8 (by decide) (fun c9 => absurd c9 (by decide +kernel)) (fun _ => ?_)
    refine lv_iload_n hx₀ hb dX11_climb_11 rfl (lv_at hl 2 rfl) ?_
    refine lv_iconst (v := (-1)) hx₀ hb dX11_climb_12 (by decide +kernel) ?_
    refine lv_icmp_lt (tgt := 21) hx₀ hb dX11_climb_13 (by decide) (fun c_3 => ?_) (fun c_3 => ?_)
    · refine lv_bipush (v := (-2)) hx₀ hb dX11_climb_21 (by decide +kernel) ?_
      obtain ⟨hP9, hD9⟩ := k_c2 (wc := [(kX11 hx aLa aPa aGe aFl aTr aBe aLu aLo vSf vSm vCo vSh xs xl xf), (kX10 aTr aLa aPa aGe gL gR lf rt tgo tca tki tso tbe twe tle tan tco ten), (kX3 gL u0 u1 u2 u3), (kX3 gR v0 v1 v2 v3), (kX4 aLa vLa l4 a4 n4), (kAI vLa cI 24 f4), (kX7 aPa vPa l7 a7 n7), (kAI vPa cI 39 f7), (kX2 aGe vGe l2 a2 n2), (kAI vGe cI 23 f2), (kX1 aFl vFl xn), (kAI vFl cI 32 ff), (kX0 aBe k0 k1 k2 k3)]) hP hD [0, 1, 2, 3, 4, 5, 6, 7, 8, 9, 12, 10, 11] (by decide +kernel) rfl
      exact W.iret (v := (-2)) hx₀ hb hr (fun t₀ ht hW => ⟨⟨(-2), (k_fn [u0, u1, u2, u3, v0, v1, v2, v3, tgo, tca, tki, tso, tbe, twe, tle, tan, tco, ten, k0, k1, k2, k3], k_fa [], k_fl [], k_fL [], k_fp [lf, rt]), rfl, (if_neg (show ¬ ((0 ≤ f1 ∧ f1 < xn) ∧ (-1) ≤ i1 ∧ i1 ≤ 2) from (fun z => (Int32.not_le.mpr c_3) z.2.1))).symm, by rw [ht]; exact hP9, va_K.moved hW.alike hK, hD9⟩, hS.F ht⟩) hS.2.2 dX11_climb_23
    · refine lv_iload_n hx₀ hb dX11_climb_16 rfl (lv_at hl 2 rfl) ?_
      refine lv_iconst (v := 2) hx₀ hb dX11_climb_17 (by decide +kernel) ?_
      refine lv_icmp_le (tgt := 24) hx₀ hb dX11_climb_18 (by decide) (fun c_4 => ?_) (fun c_4 => ?_)
      · refine lv_aload_n hx₀ hb dX11_climb_24 rfl (lv_at hl 0 rfl) ?_
        refine lv_iload_n hx₀ hb dX11_climb_25 rfl (lv_at hl 1 rfl) ?_
        obtain ⟨hPc, hDc, hFc, hC⟩ := k_cw (wc := [(kX11 hx aLa aPa aGe aFl aTr aBe aLu aLo vSf vSm vCo vSh xs xl xf), (kX10 aTr aLa aPa aGe gL gR lf rt tgo tca tki tso tbe twe tle tan tco ten), (kX3 gL u0 u1 u2 u3), (kX3 gR v0 v1 v2 v3), (kX4 aLa vLa l4 a4 n4), (kAI vLa cI 24 f4), (kX7 aPa vPa l7 a7 n7), (kAI vPa cI 39 f7), (kX2 aGe vGe l2 a2 n2), (kAI vGe cI 23 f2), (kX1 aFl vFl xn), (kAI vFl cI 32 ff)]) hP hD hS hA [0, 1, 2, 3, 4, 5, 6, 7, 8, 9, 12, 10] (by decide +kernel) rfl
        refine va_callv (va_runV (As := [.int f1]) (rest := []) ⟨hx₀, hb, hml, hown, hts⟩ (j_prepare l dC dI cI cJ cQ H.size hx f1 aLa aPa aGe aFl aTr aBe aLu aLo vSf vSm vCo vSh xs xl xf gL gR lf rt tgo tca tki tso tbe twe tle tan tco ten u0 u1 u2 u3 v0 v1 v2 v3 vLa l4 a4 n4 f4 vPa l7 a7 n7 f7 vGe l2 a2 n2 f2 vFl xn ff (hh0) (hh1)) (cwV 1 hts (kGV wd_430 wd_427 wd_428 wd_429 wd_2) rfl rfl rfl (by decide +kernel) ⟨Nat.le_of_ble_eq_true rfl, Nat.le_of_ble_eq_true rfl⟩) (k_preV10 (q0 := 0) hK hPc hDc hN rfl) rfl rfl hl.1 rfl (lv_room (Nat.le_of_ble_eq_true rfl)) dX11_climb_26 ⟨by decide +kernel, by decide +kernel⟩) hS (fun q _ h => hFc q h) hFc (fun u₀ t₀ H1 locs ht hvm hw hB hz1 hk1 hS => ?_)
        obtain ⟨g_6, ga_7, gl_8, gb_9, gp_10⟩ := u₀
        obtain ⟨hP1, hK1, hD1⟩ := hB
        rw [ht] at hP1
        have hJ := k_jn (wr := [(kX0 aBe k0 k1 k2 k3)]) (wt := [(kX0 aBe k0 k1 k2 k3), (kX11 hx aLa aPa aGe aFl aTr aBe aLu aLo vSf vSm vCo vSh xs xl xf), (kX10 aTr aLa aPa aGe gL gR (gp_10 0) (gp_10 1) (g_6 8) (g_6 9) (g_6 10) (g_6 11) (g_6 12) (g_6 13) (g_6 14) (g_6 15) (g_6 16) (g_6 17)), (kX3 gL (g_6 0) (g_6 1) (g_6 2) (g_6 3)), (kX3 gR (g_6 4) (g_6 5) (g_6 6) (g_6 7)), (kX4 aLa vLa l4 a4 n4), (kAI vLa cI 24 f4), (kX7 aPa vPa l7 a7 n7), (kAI vPa cI 39 f7), (kX2 aGe vGe l2 a2 n2), (kAI vGe cI 23 f2), (kX1 aFl vFl xn), (kAI vFl cI 32 ff)]) hP hD hC [11] rfl (by decide +kernel) (by decide +kernel) hk1 hFc hP1 hD1 rfl
        clear hP hD hPc hDc hFc hC hP1 hD1 hK1 hz1 hk1 hvm ht
        obtain ⟨hP, hD⟩ := hJ
        generalize H1 = H at hP hS ⊢
        try dsimp only at hw
        obtain ⟨c_11, c_12, c_13, c_14, c_15, c_16, c_17⟩ := hw
        refine lv_aload_n hx₀ hb dX11_climb_29 rfl (lv_at hl 0 rfl) ?_
        refine va_get (D := (dC, dI)) (ci := 10) (v := .ref aBe) (C := RX11) (T := TX11) (N := 15) hx₀ hb hts inlX11 hown hK hP 1 rfl rfl 5 (by decide) (hts (.fieldLink RX11 49 "BittenStick" "best" "LBittenStick$Climb;") wd_35) (fun _ h9 => h9) rfl dX11_climb_30 ?_
        refine lv_aload_n hx₀ hb dX11_climb_33 rfl (lv_at hl 0 rfl) ?_
        refine va_get (D := (dC, dI)) (ci := 10) (v := .ref aTr) (C := RX11) (T := TX11) (N := 15) hx₀ hb hts inlX11 hown hK hP 1 rfl rfl 4 (by decide) (hts (.fieldLink RX11 42 "BittenStick" "trip" "LBittenStick$Trip;") wd_31) (fun _ h9 => h9) rfl dX11_climb_34 ?_
        refine lv_aload_n hx₀ hb dX11_climb_37 rfl (lv_at hl 0 rfl) ?_
        refine va_get (D := (dC, dI)) (ci := 10) (v := .ref aLa) (C := RX11) (T := TX11) (N := 15) hx₀ hb hts inlX11 hown hK hP 1 rfl rfl 0 (by decide) (hts (.fieldLink RX11 10 "BittenStick" "land" "LBittenStick$Land;") wd_15) (fun _ h9 => h9) rfl dX11_climb_38 ?_
        refine va_get (D := (dC, dI)) (ci := 4) (v := .int n4) (C := RX4) (T := TX4) (N := 4) hx₀ hb hts inlX4 hown hK hP 5 rfl rfl 3 (by decide) (hts (.fieldLink RX11 108 "BittenStick$Land" "number" "I") wd_285) (fun x9 h9 => u_same (hts (.sameField "BittenStick$Land" "BittenStick$Text" "number" "I") wd_286) x9 h9) rfl dX11_climb_41 ?_
        obtain ⟨hPc, hDc, hFc, hC⟩ := k_cw (wc := [(kX0 aBe k0 k1 k2 k3), (kX10 aTr aLa aPa aGe gL gR (gp_10 0) (gp_10 1) (g_6 8) (g_6 9) (g_6 10) (g_6 11) (g_6 12) (g_6 13) (g_6 14) (g_6 15) (g_6 16) (g_6 17)), (kX4 aLa vLa l4 a4 n4), (kAI vLa cI 24 f4)]) hP hD hS hA [0, 2, 5, 6] (by decide +kernel) rfl
        refine va_callv (va_runV (As := [.ref aTr, .int n4]) (rest := []) ⟨hx₀, hb, hml, hown, hts⟩ (e_plan l dC dI cI cJ cQ H.size aBe aTr n4 k0 k1 k2 k3 aLa aPa aGe gL gR (gp_10 0) (gp_10 1) (g_6 8) (g_6 9) (g_6 10) (g_6 11) (g_6 12) (g_6 13) (g_6 14) (g_6 15) (g_6 16) (g_6 17) vLa l4 a4 n4 f4 (hh0) (kct_0 hh0 c_12)) (cwV 2 hts (kGV wd_618 wd_615 wd_616 wd_617 wd_34) rfl rfl rfl (by decide +kernel) ⟨Nat.le_of_ble_eq_true rfl, Nat.le_of_ble_eq_true rfl⟩) (k_preV0 (q0 := 0) hK hPc hDc hN rfl) rfl rfl hl.1 rfl (lv_room (Nat.le_of_ble_eq_true rfl)) dX11_climb_44 ⟨by decide +kernel, by decide +kernel⟩) hS (fun q _ h => hFc q h) hFc (fun u₀ t₀ H1 locs ht hvm hw hB hz1 hk1 hS => ?_)
        obtain ⟨g_19, ga_20, gl_21, gb_22, gp_23⟩ := u₀
        obtain ⟨hP1, hK1, hD1⟩ := hB
        rw [ht] at hP1
        have hJ := k_jn (wr := [(kX11 hx aLa aPa aGe aFl aTr aBe aLu aLo vSf vSm vCo vSh xs xl xf), (kX3 gL (g_6 0) (g_6 1) (g_6 2) (g_6 3)), (kX3 gR (g_6 4) (g_6 5) (g_6 6) (g_6 7)), (kX7 aPa vPa l7 a7 n7), (kAI vPa cI 39 f7), (kX2 aGe vGe l2 a2 n2), (kAI vGe cI 23 f2), (kX1 aFl vFl xn), (kAI vFl cI 32 ff)]) (wt := [(kX11 hx aLa aPa aGe aFl aTr aBe aLu aLo vSf vSm vCo vSh xs xl xf), (kX3 gL (g_6 0) (g_6 1) (g_6 2) (g_6 3)), (kX3 gR (g_6 4) (g_6 5) (g_6 6) (g_6 7)), (kX7 aPa vPa l7 a7 n7), (kAI vPa cI 39 f7), (kX2 aGe vGe l2 a2 n2), (kAI vGe cI 23 f2), (kX1 aFl vFl xn), (kAI vFl cI 32 ff), (kX0 aBe (g_19 0) (g_19 1) (g_19 2) (g_19 3)), (kX10 aTr aLa aPa aGe gL gR (gp_10 0) (gp_10 1) (g_6 8) (g_6 9) (g_6 10) (g_6 11) (g_6 12) (g_6 13) (g_6 14) (g_19 4) (g_19 5) (g_19 6)), (kX4 aLa vLa l4 a4 n4), (kAI vLa cI 24 f4)]) hP hD hC [1, 3, 4, 7, 8, 9, 10, 11, 12] rfl (by decide +kernel) (by decide +kernel) hk1 hFc hP1 hD1 rfl
        clear hP hD hPc hDc hFc hC hP1 hD1 hK1 hz1 hk1 hvm ht
        obtain ⟨hP, hD⟩ := hJ
        generalize H1 = H at hP hS ⊢
        try dsimp only at hw
        have c_24 := hw
        refine lv_aload_n hx₀ hb dX11_climb_47 rfl (lv_at hl 0 rfl) ?_
        refine va_get (D := (dC, dI)) (ci := 10) (v := .ref aBe) (C := RX11) (T := TX11) (N := 15) hx₀ hb hts inlX11 hown hK hP 0 rfl rfl 5 (by decide) (hts (.fieldLink RX11 49 "BittenStick" "best" "LBittenStick$Climb;") wd_35) (fun _ h9 => h9) rfl dX11_climb_48 ?_
        refine lv_iload_n hx₀ hb dX11_climb_51 rfl (lv_at hl 2 rfl) ?_
        obtain ⟨hPc, hDc, hFc, hC⟩ := k_cw (wc := [(kX0 aBe (g_19 0) (g_19 1) (g_19 2) (g_19 3))]) hP hD hS hA [9] (by decide +kernel) rfl
        refine va_calli (va_runV (As := [.int i1]) (rest := []) ⟨hx₀, hb, hml, hown, hts⟩ (e_cTold l dC dI cI cJ cQ H.size aBe i1 (g_19 0) (g_19 1) (g_19 2) (g_19 3)) (cwV 1 hts (kGV wd_640 wd_637 wd_638 wd_639 wd_34) rfl rfl rfl (by decide +kernel) ⟨Nat.le_of_ble_eq_true rfl, Nat.le_of_ble_eq_true rfl⟩) (k_preV0 (q0 := 0) hK hPc hDc hN rfl) rfl rfl hl.1 rfl (lv_room (Nat.le_of_ble_eq_true rfl)) dX11_climb_52 ⟨by decide +kernel, by decide +kernel⟩) hS (fun q _ h => hFc q h) hFc (fun r_25 u₀ t₀ H1 locs ht hvm hw hB hz1 hk1 hS => ?_)
        obtain ⟨hP1, hK1, hD1⟩ := hB
        rw [ht] at hP1
        have hJ := k_jn (wr := [(kX11 hx aLa aPa aGe aFl aTr aBe aLu aLo vSf vSm vCo vSh xs xl xf), (kX3 gL (g_6 0) (g_6 1) (g_6 2) (g_6 3)), (kX3 gR (g_6 4) (g_6 5) (g_6 6) (g_6 7)), (kX7 aPa vPa l7 a7 n7), (kAI vPa cI 39 f7), (kX2 aGe vGe l2 a2 n2), (kAI vGe cI 23 f2), (kX1 aFl vFl xn), (kAI vFl cI 32 ff), (kX10 aTr aLa aPa aGe gL gR (gp_10 0) (gp_10 1) (g_6 8) (g_6 9) (g_6 10) (g_6 11) (g_6 12) (g_6 13) (g_6 14) (g_19 4) (g_19 5) (g_19 6)), (kX4 aLa vLa l4 a4 n4), (kAI vLa cI 24 f4)]) (wt := [(kX11 hx aLa aPa aGe aFl aTr aBe aLu aLo vSf vSm vCo vSh xs xl xf), (kX3 gL (g_6 0) (g_6 1) (g_6 2) (g_6 3)), (kX3 gR (g_6 4) (g_6 5) (g_6 6) (g_6 7)), (kX7 aPa vPa l7 a7 n7), (kAI vPa cI 39 f7), (kX2 aGe vGe l2 a2 n2), (kAI vGe cI 23 f2), (kX1 aFl vFl xn), (kAI vFl cI 32 ff), (kX10 aTr aLa aPa aGe gL gR (gp_10 0) (gp_10 1) (g_6 8) (g_6 9) (g_6 10) (g_6 11) (g_6 12) (g_6 13) (g_6 14) (g_19 4) (g_19 5) (g_19 6)), (kX4 aLa vLa l4 a4 n4), (kAI vLa cI 24 f4), (kX0 aBe (g_19 0) (g_19 1) (g_19 2) (g_19 3))]) hP hD hC [0, 1, 2, 3, 4, 5, 6, 7, 8, 10, 11, 12] rfl (by decide +kernel) (by decide +kernel) hk1 hFc hP1 hD1 rfl
        clear hP hD hPc hDc hFc hC hP1 hD1 hK1 hz1 hk1 hvm ht
        obtain ⟨hP, hD⟩ := hJ
        generalize H1 = H at hP hS ⊢
        try dsimp only at hw
        have c_26 := hw
        obtain ⟨hP9, hD9⟩ := k_c2 (wc := [(kX11 hx aLa aPa aGe aFl aTr aBe aLu aLo vSf vSm vCo vSh xs xl xf), (kX10 aTr aLa aPa aGe gL gR (gp_10 0) (gp_10 1) (g_6 8) (g_6 9) (g_6 10) (g_6 11) (g_6 12) (g_6 13) (g_6 14) (g_19 4) (g_19 5) (g_19 6)), (kX3 gL (g_6 0) (g_6 1) (g_6 2) (g_6 3)), (kX3 gR (g_6 4) (g_6 5) (g_6 6) (g_6 7)), (kX4 aLa vLa l4 a4 n4), (kAI vLa cI 24 f4), (kX7 aPa vPa l7 a7 n7), (kAI vPa cI 39 f7), (kX2 aGe vGe l2 a2 n2), (kAI vGe cI 23 f2), (kX1 aFl vFl xn), (kAI vFl cI 32 ff), (kX0 aBe (g_19 0) (g_19 1) (g_19 2) (g_19 3))]) hP hD [0, 9, 1, 2, 10, 11, 3, 4, 5, 6, 7, 8, 12] (by decide +kernel) rfl
        exact W.iret (v := r_25) hx₀ hb hr (fun t₀ ht hW => ⟨⟨r_25, (k_fn [(g_6 0), (g_6 1), (g_6 2), (g_6 3), (g_6 4), (g_6 5), (g_6 6), (g_6 7), (g_6 8), (g_6 9), (g_6 10), (g_6 11), (g_6 12), (g_6 13), (g_6 14), (g_19 4), (g_19 5), (g_19 6), (g_19 0), (g_19 1), (g_19 2), (g_19 3)], k_fa [], k_fl [], k_fL [], k_fp [(gp_10 0), (gp_10 1)]), rfl, (by rw [if_pos (show (0 ≤ f1 ∧ f1 < xn) ∧ (-1) ≤ i1 ∧ i1 ≤ 2 from ⟨⟨c_2.1, c_2.2⟩, (Int32.not_lt.mp c_3), c_4⟩)]; have h8 := c_24; unfold k_q4 at h8; rw [c_17, show kFx (kAt 24 f4) (g_6 9) xl (g_6 10) (g_6 11) (g_6 12) n4 = (fun x1 => (kOH f4 f7 f2 n4 n7 n2 xl (kIt xn ff f1 0) (kIt xn ff f1 1) (kIt xn ff f1 2) (kAt 39 f7 ((5 * (kIt xn ff f1 0)) + 1)) (kHc x1)).1) from kFx_trip hh0.1 c_11 c_12 (fun c => c_13.trans (if_pos c)) (fun c => c_14.trans (if_pos c)) (fun c => c_15.trans (if_pos c))] at h8; rw [← h8]; exact c_26), by rw [ht]; exact hP9, va_K.moved hW.alike hK, hD9⟩, hS.F ht⟩) hS.2.2 dX11_climb_55
      · refine lv_bipush (v := (-2)) hx₀ hb dX11_climb_21 (by decide +kernel) ?_
        obtain ⟨hP9, hD9⟩ := k_c2 (wc := [(kX11 hx aLa aPa aGe aFl aTr aBe aLu aLo vSf vSm vCo vSh xs xl xf), (kX10 aTr aLa aPa aGe gL gR lf rt tgo tca tki tso tbe twe tle tan tco ten), (kX3 gL u0 u1 u2 u3), (kX3 gR v0 v1 v2 v3), (kX4 aLa vLa l4 a4 n4), (kAI vLa cI 24 f4), (kX7 aPa vPa l7 a7 n7), (kAI vPa cI 39 f7), (kX2 aGe vGe l2 a2 n2), (kAI vGe cI 23 f2), (kX1 aFl vFl xn), (kAI vFl cI 32 ff), (kX0 aBe k0 k1 k2 k3)]) hP hD [0, 1, 2, 3, 4, 5, 6, 7, 8, 9, 12, 10, 11] (by decide +kernel) rfl
        exact W.iret (v := (-2)) hx₀ hb hr (fun t₀ ht hW => ⟨⟨(-2), (k_fn [u0, u1, u2, u3, v0, v1, v2, v3, tgo, tca, tki, tso, tbe, twe, tle, tan, tco, ten, k0, k1, k2, k3], k_fa [], k_fl [], k_fL [], k_fp [lf, rt]), rfl, (if_neg (show ¬ ((0 ≤ f1 ∧ f1 < xn) ∧ (-1) ≤ i1 ∧ i1 ≤ 2) from (fun z => c_4 z.2.2))).symm, by rw [ht]; exact hP9, va_K.moved hW.alike hK, hD9⟩, hS.F ht⟩) hS.2.2 dX11_climb_23
  rw [if_neg c_2] at hw
  refine k_topi (v := 0) hw ?_
  refine lv_if_eq (tgt := 21) hx₀ hb dX11_climb_8 (by decide) (fun _ => ?_) (fun c9 => absurd (by decide +kernel) c9)
  refine lv_bipush (v := (-2)) hx₀ hb dX11_climb_21 (by decide +kernel) ?_
  obtain ⟨hP9, hD9⟩ := k_c2 (wc := [(kX11 hx aLa aPa aGe aFl aTr aBe aLu aLo vSf vSm vCo vSh xs xl xf), (kX10 aTr aLa aPa aGe gL gR lf rt tgo tca tki tso tbe twe tle tan tco ten), (kX3 gL u0 u1 u2 u3), (kX3 gR v0 v1 v2 v3), (kX4 aLa vLa l4 a4 n4), (kAI vLa cI 24 f4), (kX7 aPa vPa l7 a7 n7), (kAI vPa cI 39 f7), (kX2 aGe vGe l2 a2 n2), (kAI vGe cI 23 f2), (kX1 aFl vFl xn), (kAI vFl cI 32 ff), (kX0 aBe k0 k1 k2 k3)]) hP hD [0, 1, 2, 3, 4, 5, 6, 7, 8, 9, 12, 10, 11] (by decide +kernel) rfl
  exact W.iret (v := (-2)) hx₀ hb hr (fun t₀ ht hW => ⟨⟨(-2), (k_fn [u0, u1, u2, u3, v0, v1, v2, v3, tgo, tca, tki, tso, tbe, twe, tle, tan, tco, ten, k0, k1, k2, k3], k_fa [], k_fl [], k_fL [], k_fp [lf, rt]), rfl, (if_neg (show ¬ ((0 ≤ f1 ∧ f1 < xn) ∧ (-1) ≤ i1 ∧ i1 ≤ 2) from (fun z => c_2 z.1))).symm, by rw [ht]; exact hP9, va_K.moved hW.alike hK, hD9⟩, hS.F ht⟩) hS.2.2 dX11_climb_23
theorem lf_e_climbOf_1 (a0 : Int32) (a1 : Nat) (h0 : 0 ≤ a0 ∧ a0 ≤ 1863) (h1 : (1863 - a0.toInt).toNat = a1) (h2 : ¬ 1863 ≤ a0) : 0 ≤ a0 ∧ a0 ≤ 1862 := by
  first | rfl | assumption | decide | exact Or.inl rfl | (first | omega | (have hr0 := Int32.toInt_lt a0; have hs0 := Int32.le_toInt a0; simp only [Int64.toInt_add, Int64.toInt_sub, Int32.toInt_add, Int32.toInt_sub, Int32.toInt_mul, Int64.le_iff_toInt_le, Int64.lt_iff_toInt_lt, Int32.le_iff_toInt_le, Int32.lt_iff_toInt_lt, ← Int32.toInt_inj, ← Int64.toInt_inj, Int32.toInt_toInt64, kc_0, kc_1862, kc_1863] at *; (first | omega | ((try simp (disch := omega) only [k_bm64] at *); (try simp (disch := omega) only [k_bm] at *); (try simp (disch := omega) only [k_bm] at *); omega) | (simp only [Int.bmod] at *; omega))))
set_option maxHeartbeats 4000000 in
set_option maxRecDepth 100000 in
theorem e_climbOf (l : Launch) (dC : Nat → ClassId) (dI : Nat → Nat → Nat) (cI cJ cQ : ClassId) (sz : Nat) (hm : Nat) (f1 : Int32) (i1 : Int32) (vFo : Nat) (vSi : Nat) (vIt : Nat) (vMo : Nat) (la : Int32) (vBy : Nat) (vTy : Nat) (mi : Int32) (vMi : Nat) (pn : Int32) (vPs : Nat) (gn : Int32) (vGs : Nat) (fn : Int32) (vFt : Nat) (le : Int32) (vTo : Nat) (kn : Int32) (fe : Int32) (en : Int32) (ca : Int32) (an : Int32) (co : Int32) (vPr : Nat) (vSt : Nat) (vFn : Nat) (sn : Int32) (vSg : Nat) (vAl : Nat) (dr : Int32) (qMi : Nat → Int32) (qPs : Nat → Int32) (qGs : Nat → Int32) (qTo : Nat → Int32) (qPr : Nat → Int32) (qSt : Nat → Int32) (qFn : Nat → Int32) (qFt : Nat → Int32) (hh0 : 0 ≤ mi ∧ mi ≤ 24) (hh1 : 0 ≤ pn ∧ pn ≤ 8) (hh2 : 0 ≤ gn ∧ gn ≤ 8) (hh3 : k_bd 2 0 7 qPr) (hh4 : 0 ≤ fe ∧ fe ≤ 24) (hh5 : en = 0 ∨ kn = 0 ∨ fe ≤ 23) (hh6 : 0 ≤ kn ∧ kn ≤ 24) (hh7 : 0 ≤ f1 ∧ f1 ≤ 7) (hh8 : k_tm pn qPs) (hh9 : ca = 16777215) (hh10 : k_bd 32 0 9 qFt) : Met l yX12_climbOf (kW yX12_climbOf cX12_climbOf 8 (some .int)) { frames := 3, cells := 0, slots := 0, locals := 78 } (kPre dC dI cI cJ cQ sz [.ref hm, .int f1, .int i1] [(kX12 hm vFo vSi vIt vMo la vBy vTy mi vMi pn vPs gn vGs fn vFt le vTo kn fe en ca an co vPr vSt vFn sn vSg vAl dr), (kAI vMi cI 24 qMi), (kAI vPs cI 32 qPs), (kAI vGs cI 16 qGs), (kAI vTo cI 96 qTo), (kAI vPr cI 2 qPr), (kAI vSt cI 2 qSt), (kAI vFn cI 2 qFn), (kAI vFt cI 32 qFt)]) (va_Qi (fun (r : Int32) (u : kS) => (r = if i1 = -1 then (kCz (fun x1 => (kOR qMi qPs qGs mi pn gn le (kP0 qFt f1) (kP1 qFt f1) (kP2 qFt f1) (kP1 qPs (kP0 qFt f1)) (kHc x1)).1) (kfu 1863 0) 0 (-1) 0).1 else if i1 = 0 then (kCz (fun x1 => (kOR qMi qPs qGs mi pn gn le (kP0 qFt f1) (kP1 qFt f1) (kP2 qFt f1) (kP1 qPs (kP0 qFt f1)) (kHc x1)).1) (kfu 1863 0) 0 (-1) 0).2 / 207 + 1 else if i1 = 1 then (((kCz (fun x1 => (kOR qMi qPs qGs mi pn gn le (kP0 qFt f1) (kP1 qFt f1) (kP2 qFt f1) (kP1 qPs (kP0 qFt f1)) (kHc x1)).1) (kfu 1863 0) 0 (-1) 0).2 / 9) - ((kCz (fun x1 => (kOR qMi qPs qGs mi pn gn le (kP0 qFt f1) (kP1 qFt f1) (kP2 qFt f1) (kP1 qPs (kP0 qFt f1)) (kHc x1)).1) (kfu 1863 0) 0 (-1) 0).2 / 9) / 23 * 23) + 1 else ((kCz (fun x1 => (kOR qMi qPs qGs mi pn gn le (kP0 qFt f1) (kP1 qFt f1) (kP2 qFt f1) (kP1 qPs (kP0 qFt f1)) (kHc x1)).1) (kfu 1863 0) 0 (-1) 0).2 - (kCz (fun x1 => (kOR qMi qPs qGs mi pn gn le (kP0 qFt f1) (kP1 qFt f1) (kP2 qFt f1) (kP1 qPs (kP0 qFt f1)) (kHc x1)).1) (kfu 1863 0) 0 (-1) 0).2 / 9 * 9) + 1) ∧ (k_bd 2 0 7 (u.2.1 1)) ∧ (0 ≤ (u.1 1) ∧ (u.1 1) ≤ 24) ∧ ((u.1 2) = 0 ∨ (u.1 0) = 0 ∨ (u.1 1) ≤ 23) ∧ (0 ≤ (u.1 0) ∧ (u.1 0) ≤ 24)) (fun (u : kS) t₀ => kB dC dI cI cJ cQ (va_A [(kX12 hm vFo vSi vIt vMo la vBy vTy mi vMi pn vPs gn vGs fn vFt le vTo kn fe en ca an co vPr vSt vFn sn vSg vAl dr), (kAI vMi cI 24 qMi), (kAI vPs cI 32 qPs), (kAI vGs cI 16 qGs), (kAI vTo cI 96 qTo), (kAI vPr cI 2 qPr), (kAI vSt cI 2 qSt), (kAI vFn cI 2 qFn), (kAI vFt cI 32 qFt)] sz) [(kX12 hm vFo vSi vIt vMo la vBy vTy mi vMi pn vPs gn vGs fn vFt le vTo (u.1 0) (u.1 1) (u.1 2) ca (u.1 3) (u.1 4) vPr vSt vFn sn vSg vAl dr), (kAI vMi cI 24 qMi), (kAI vPs cI 32 qPs), (kAI vGs cI 16 qGs), (kAI vTo cI 96 (u.2.1 0)), (kAI vPr cI 2 (u.2.1 1)), (kAI vSt cI 2 (u.2.1 2)), (kAI vFn cI 2 (u.2.1 3)), (kAI vFt cI 32 qFt)] t₀) (va_A [(kX12 hm vFo vSi vIt vMo la vBy vTy mi vMi pn vPs gn vGs fn vFt le vTo kn fe en ca an co vPr vSt vFn sn vSg vAl dr), (kAI vMi cI 24 qMi), (kAI vPs cI 32 qPs), (kAI vGs cI 16 qGs), (kAI vTo cI 96 qTo), (kAI vPr cI 2 qPr), (kAI vSt cI 2 qSt), (kAI vFn cI 2 qFn), (kAI vFt cI 32 qFt)] sz)) 0 0 (va_A [(kX12 hm vFo vSi vIt vMo la vBy vTy mi vMi pn vPs gn vGs fn vFt le vTo kn fe en ca an co vPr vSt vFn sn vSg vAl dr), (kAI vMi cI 24 qMi), (kAI vPs cI 32 qPs), (kAI vGs cI 16 qGs), (kAI vTo cI 96 qTo), (kAI vPr cI 2 qPr), (kAI vSt cI 2 qSt), (kAI vFn cI 2 qFn), (kAI vFt cI 32 qFt)] sz) := by
  refine Met.ofW (cc := cX12_climbOf) (maxL := 8) (ret := (some .int)) (by decide) rfl ?_
  intro p₀ e₀ s₀ m₀ args below meth c₀ s₁ B hml hv₀
  obtain ⟨rfl, hsz, hP, hK, hD0, hN⟩ := hv₀
  have hx₀ := B.exec
  have hb := B.bytes
  have hr := B.returns
  have hts := atoms_spec (ws := (kW yX12_climbOf cX12_climbOf 8 (some .int))) B.pre
  have hts := fun w h => hts w (List.mem_cons_of_mem _ h)
  have hown : s₀.vm.findClass RX12 = some m₀.cls := findClass_of_methodNamed B.named
  have hlocks := B.notSynchronized
  subst hsz
  have hD := hD0.self (sz := s₀.heap.size)
  generalize hAe : va_A [(kX12 hm vFo vSi vIt vMo la vBy vTy mi vMi pn vPs gn vGs fn vFt le vTo kn fe en ca an co vPr vSt vFn sn vSg vAl dr), (kAI vMi cI 24 qMi), (kAI vPs cI 32 qPs), (kAI vGs cI 16 qGs), (kAI vTo cI 96 qTo), (kAI vPr cI 2 qPr), (kAI vSt cI 2 qSt), (kAI vFn cI 2 qFn), (kAI vFt cI 32 qFt)] s₀.heap.size = A at hD ⊢
  have hA : ∀ q : Nat, s₀.heap.size ≤ q → A q := fun q h => by rw [← hAe]; exact Or.inr h
  have hS : va_S A s₀.heap s₀.heap [] := va_S.rf
  have hP : va_P (dC, dI) vwCl [(kX12 hm vFo vSi vIt vMo la vBy vTy mi vMi pn vPs gn vGs fn vFt le vTo kn fe en ca an co vPr vSt vFn sn vSg vAl dr), (kAI vMi cI 24 qMi), (kAI vPs cI 32 qPs), (kAI vGs cI 16 qGs), (kAI vTo cI 96 qTo), (kAI vPr cI 2 qPr), (kAI vSt cI 2 qSt), (kAI vFn cI 2 qFn), (kAI vFt cI 32 qFt)] s₀.heap := hP
  have hl := lv_entry ([.ref hm, .int f1, .int i1]) (n := 8) (Nat.le_of_ble_eq_true rfl)
  rw [lg_entry_eq]
  generalize (lg_sl ([.ref hm, .int f1, .int i1]) ++ List.replicate (8 - (lg_sl ([.ref hm, .int f1, .int i1])).length) Slot.unset).toArray = ls at hl ⊢
  have hl : lv_has ls 8 [(0, .ref hm), (1, .int f1), (2, .int i1)] := hl
  obtain ⟨H, hH⟩ : ∃ z : Heap, z = s₀.heap := ⟨_, rfl⟩
  rw [← hH] at hP
  have hS : va_S A s₀.heap H [] := by rw [hH]; exact hS
  refine k_heap hH ?_
  have hD : va_D A [(kX12 hm vFo vSi vIt vMo la vBy vTy mi vMi pn vPs gn vGs fn vFt le vTo kn fe en ca an co vPr vSt vFn sn vSg vAl dr), (kAI vMi cI 24 qMi), (kAI vPs cI 32 qPs), (kAI vGs cI 16 qGs), (kAI vTo cI 96 qTo), (kAI vPr cI 2 qPr), (kAI vSt cI 2 qSt), (kAI vFn cI 2 qFn), (kAI vFt cI 32 qFt)] := hD
  obtain ⟨locs, hlo⟩ : ∃ z : List Loc, z = [] := ⟨_, rfl⟩
  rw [← hlo] at hS ⊢
  clear hlo hH hAe hD0
  refine lv_iconst (v := (-1)) hx₀ hb dX12_climbOf_0 (by decide +kernel) ?_
  refine lv_istore_n (lv' := [(3, .int (-1)), (0, .ref hm), (1, .int f1), (2, .int i1)]) hx₀ hb dX12_climbOf_1 rfl hl (by decide) rfl (fun ls hl => ?_)
  refine lv_iconst (v := 0) hx₀ hb dX12_climbOf_2 (by decide +kernel) ?_
  refine lv_istore (lv' := [(4, .int 0), (3, .int (-1)), (0, .ref hm), (1, .int f1), (2, .int i1)]) hx₀ hb dX12_climbOf_3 hl (by decide) rfl (fun ls hl => ?_)
  refine lv_iconst (v := 0) hx₀ hb dX12_climbOf_5 (by decide +kernel) ?_
  refine lv_istore (lv' := [(5, .int 0), (4, .int 0), (3, .int (-1)), (0, .ref hm), (1, .int f1), (2, .int i1)]) hx₀ hb dX12_climbOf_6 hl (by decide) rfl (fun ls hl => ?_)
  refine (?keyz1 : ∀ (jz1 : Nat) (faz1 : Int32) (bez1 : Int32) (cdz1 : Int32) (knz1 : Int32) (fez1 : Int32) (enz1 : Int32) (anz1 : Int32) (coz1 : Int32) (qtz1 : Nat → Int32) (qpz1 : Nat → Int32) (qsz1 : Nat → Int32) (qfz1 : Nat → Int32) (H : Heap) (locs : List Loc) (ls : Array Slot), (0 ≤ cdz1 ∧ cdz1 ≤ 1863) → (k_cz (fun x1 => (kOR qMi qPs qGs mi pn gn le (kP0 qFt f1) (kP1 qFt f1) (kP2 qFt f1) (kP1 qPs (kP0 qFt f1)) (kHc x1)).1) cdz1 faz1 bez1 (kCz (fun x1 => (kOR qMi qPs qGs mi pn gn le (kP0 qFt f1) (kP1 qFt f1) (kP2 qFt f1) (kP1 qPs (kP0 qFt f1)) (kHc x1)).1) (kfu 1863 0) 0 (-1) 0)) → (k_bd 2 0 7 qpz1) → (0 ≤ fez1 ∧ fez1 ≤ 24) → (enz1 = 0 ∨ knz1 = 0 ∨ fez1 ≤ 23) → (0 ≤ knz1 ∧ knz1 ≤ 24) → ((1863 - cdz1.toInt).toNat = jz1) → va_P (dC, dI) vwCl [(kX12 hm vFo vSi vIt vMo la vBy vTy mi vMi pn vPs gn vGs fn vFt le vTo knz1 fez1 enz1 ca anz1 coz1 vPr vSt vFn sn vSg vAl dr), (kAI vMi cI 24 qMi), (kAI vPs cI 32 qPs), (kAI vGs cI 16 qGs), (kAI vTo cI 96 qtz1), (kAI vPr cI 2 qpz1), (kAI vSt cI 2 qsz1), (kAI vFn cI 2 qfz1), (kAI vFt cI 32 qFt)] H → va_D A [(kX12 hm vFo vSi vIt vMo la vBy vTy mi vMi pn vPs gn vGs fn vFt le vTo knz1 fez1 enz1 ca anz1 coz1 vPr vSt vFn sn vSg vAl dr), (kAI vMi cI 24 qMi), (kAI vPs cI 32 qPs), (kAI vGs cI 16 qGs), (kAI vTo cI 96 qtz1), (kAI vPr cI 2 qpz1), (kAI vSt cI 2 qsz1), (kAI vFn cI 2 qfz1), (kAI vFt cI 32 qFt)] → va_S A s₀.heap H locs → lv_has ls 8 [(5, .int cdz1), (4, .int bez1), (3, .int faz1), (0, .ref hm), (1, .int f1), (2, .int i1)] → W p₀ l e₀ _ s₀ m₀ _ below meth c₀ H locs _ _ _ (F0 m₀ 8 ls [])) _ (-1 : Int32) (0 : Int32) (0 : Int32) kn fe en an co _ _ _ _ H locs ls (show 0 ≤ (0 : Int32) ∧ (0 : Int32) ≤ 1863 from ⟨(by decide), (by decide)⟩) (rfl) (hh3) (hh4) (hh5) (hh6) rfl hP hD hS hl
  clear hP hD hS hl
  intro jz1
  induction jz1 using Nat.strongRecOn with
  | ind jz1 ihz1 =>
    intro faz1 bez1 cdz1 knz1 fez1 enz1 anz1 coz1 qtz1 qpz1 qsz1 qfz1 H locs ls hiz1_0 hiz1_1 hiz1_2 hiz1_3 hiz1_4 hiz1_5 hjz1 hP hD hS hl
    refine lv_iload hx₀ hb dX12_climbOf_8 (lv_at hl 0 rfl) ?_
    refine lv_sipush (v := 1863) hx₀ hb dX12_climbOf_10 (by decide +kernel) ?_
    refine lv_icmp_ge (tgt := 121) hx₀ hb dX12_climbOf_13 (by decide) (fun c_2 => ?_) (fun c_2 => ?_)
    · refine lv_iload_n hx₀ hb dX12_climbOf_121 rfl (lv_at hl 5 rfl) ?_
      refine lv_iconst (v := (-1)) hx₀ hb dX12_climbOf_122 (by decide +kernel) ?_
      refine lv_icmp_ne (tgt := 130) hx₀ hb dX12_climbOf_123 (by decide) (fun c_3 => ?_) (fun c_3 => ?_)
      · refine lv_iload_n hx₀ hb dX12_climbOf_130 rfl (lv_at hl 5 rfl) ?_
        refine lv_if_ne (tgt := 145) hx₀ hb dX12_climbOf_131 (by decide) (fun c_4 => ?_) (fun c_4 => ?_)
        · refine lv_iload_n hx₀ hb dX12_climbOf_145 rfl (lv_at hl 5 rfl) ?_
          refine lv_iconst (v := 1) hx₀ hb dX12_climbOf_146 (by decide +kernel) ?_
          refine lv_icmp_ne (tgt := 163) hx₀ hb dX12_climbOf_147 (by decide) (fun c_5 => ?_) (fun c_5 => ?_)
          · refine lv_iload hx₀ hb dX12_climbOf_163 (lv_at hl 1 rfl) ?_
            refine lv_bipush (v := 9) hx₀ hb dX12_climbOf_165 (by decide +kernel) ?_
            refine lv_irem hx₀ hb dX12_climbOf_167 (by decide +kernel) ?_
            refine lv_iconst (v := 1) hx₀ hb dX12_climbOf_168 (by decide +kernel) ?_
            refine lv_iadd hx₀ hb dX12_climbOf_169 ?_
            obtain ⟨hP9, hD9⟩ := k_c2 (wc := [(kX12 hm vFo vSi vIt vMo la vBy vTy mi vMi pn vPs gn vGs fn vFt le vTo knz1 fez1 enz1 ca anz1 coz1 vPr vSt vFn sn vSg vAl dr), (kAI vMi cI 24 qMi), (kAI vPs cI 32 qPs), (kAI vGs cI 16 qGs), (kAI vTo cI 96 qtz1), (kAI vPr cI 2 qpz1), (kAI vSt cI 2 qsz1), (kAI vFn cI 2 qfz1), (kAI vFt cI 32 qFt)]) hP hD [0, 1, 2, 3, 4, 5, 6, 7, 8] (by decide +kernel) rfl
            exact W.iret (v := (bez1 - bez1 / 9 * 9) + 1) hx₀ hb hr (fun t₀ ht hW => ⟨⟨(bez1 - bez1 / 9 * 9) + 1, (k_fn [knz1, fez1, enz1, anz1, coz1], k_fa [qtz1, qpz1, qsz1, qfz1], k_fl [], k_fL [], k_fp []), rfl, ⟨(by rw [if_neg c_3, if_neg c_4, if_neg c_5, ← (kCz_e hiz1_1 c_2).2]), hiz1_2, hiz1_3, hiz1_4, hiz1_5⟩, by rw [ht]; exact hP9, va_K.moved hW.alike hK, hD9⟩, hS.F ht⟩) hS.2.2 dX12_climbOf_170
          · refine lv_iload hx₀ hb dX12_climbOf_150 (lv_at hl 1 rfl) ?_
            refine lv_bipush (v := 9) hx₀ hb dX12_climbOf_152 (by decide +kernel) ?_
            refine lv_idiv hx₀ hb dX12_climbOf_154 (by decide +kernel) ?_
            refine lv_bipush (v := 23) hx₀ hb dX12_climbOf_155 (by decide +kernel) ?_
            refine lv_irem hx₀ hb dX12_climbOf_157 (by decide +kernel) ?_
            refine lv_iconst (v := 1) hx₀ hb dX12_climbOf_158 (by decide +kernel) ?_
            refine lv_iadd hx₀ hb dX12_climbOf_159 ?_
            refine lv_goto (tgt := 170) hx₀ hb dX12_climbOf_160 (by decide) ?_
            obtain ⟨hP9, hD9⟩ := k_c2 (wc := [(kX12 hm vFo vSi vIt vMo la vBy vTy mi vMi pn vPs gn vGs fn vFt le vTo knz1 fez1 enz1 ca anz1 coz1 vPr vSt vFn sn vSg vAl dr), (kAI vMi cI 24 qMi), (kAI vPs cI 32 qPs), (kAI vGs cI 16 qGs), (kAI vTo cI 96 qtz1), (kAI vPr cI 2 qpz1), (kAI vSt cI 2 qsz1), (kAI vFn cI 2 qfz1), (kAI vFt cI 32 qFt)]) hP hD [0, 1, 2, 3, 4, 5, 6, 7, 8] (by decide +kernel) rfl
            exact W.iret (v := ((bez1 / 9) - (bez1 / 9) / 23 * 23) + 1) hx₀ hb hr (fun t₀ ht hW => ⟨⟨((bez1 / 9) - (bez1 / 9) / 23 * 23) + 1, (k_fn [knz1, fez1, enz1, anz1, coz1], k_fa [qtz1, qpz1, qsz1, qfz1], k_fl [], k_fL [], k_fp []), rfl, ⟨(by rw [if_neg c_3, if_neg c_4, if_pos c_5, ← (kCz_e hiz1_1 c_2).2]), hiz1_2, hiz1_3, hiz1_4, hiz1_5⟩, by rw [ht]; exact hP9, va_K.moved hW.alike hK, hD9⟩, hS.F ht⟩) hS.2.2 dX12_climbOf_170
        · refine lv_iload hx₀ hb dX12_climbOf_134 (lv_at hl 1 rfl) ?_
          refine lv_sipush (v := 207) hx₀ hb dX12_climbOf_136 (by decide +kernel) ?_
          refine lv_idiv hx₀ hb dX12_climbOf_139 (by decide +kernel) ?_
          refine lv_iconst (v := 1) hx₀ hb dX12_climbOf_140 (by decide +kernel) ?_
          refine lv_iadd hx₀ hb dX12_climbOf_141 ?_
          refine lv_goto (tgt := 170) hx₀ hb dX12_climbOf_142 (by decide) ?_
          obtain ⟨hP9, hD9⟩ := k_c2 (wc := [(kX12 hm vFo vSi vIt vMo la vBy vTy mi vMi pn vPs gn vGs fn vFt le vTo knz1 fez1 enz1 ca anz1 coz1 vPr vSt vFn sn vSg vAl dr), (kAI vMi cI 24 qMi), (kAI vPs cI 32 qPs), (kAI vGs cI 16 qGs), (kAI vTo cI 96 qtz1), (kAI vPr cI 2 qpz1), (kAI vSt cI 2 qsz1), (kAI vFn cI 2 qfz1), (kAI vFt cI 32 qFt)]) hP hD [0, 1, 2, 3, 4, 5, 6, 7, 8] (by decide +kernel) rfl
          exact W.iret (v := (bez1 / 207) + 1) hx₀ hb hr (fun t₀ ht hW => ⟨⟨(bez1 / 207) + 1, (k_fn [knz1, fez1, enz1, anz1, coz1], k_fa [qtz1, qpz1, qsz1, qfz1], k_fl [], k_fL [], k_fp []), rfl, ⟨(by rw [if_neg c_3, if_pos c_4, ← (kCz_e hiz1_1 c_2).2]), hiz1_2, hiz1_3, hiz1_4, hiz1_5⟩, by rw [ht]; exact hP9, va_K.moved hW.alike hK, hD9⟩, hS.F ht⟩) hS.2.2 dX12_climbOf_170
      · refine lv_iload_n hx₀ hb dX12_climbOf_126 rfl (lv_at hl 2 rfl) ?_
        refine lv_goto (tgt := 170) hx₀ hb dX12_climbOf_127 (by decide) ?_
        obtain ⟨hP9, hD9⟩ := k_c2 (wc := [(kX12 hm vFo vSi vIt vMo la vBy vTy mi vMi pn vPs gn vGs fn vFt le vTo knz1 fez1 enz1 ca anz1 coz1 vPr vSt vFn sn vSg vAl dr), (kAI vMi cI 24 qMi), (kAI vPs cI 32 qPs), (kAI vGs cI 16 qGs), (kAI vTo cI 96 qtz1), (kAI vPr cI 2 qpz1), (kAI vSt cI 2 qsz1), (kAI vFn cI 2 qfz1), (kAI vFt cI 32 qFt)]) hP hD [0, 1, 2, 3, 4, 5, 6, 7, 8] (by decide +kernel) rfl
        exact W.iret (v := faz1) hx₀ hb hr (fun t₀ ht hW => ⟨⟨faz1, (k_fn [knz1, fez1, enz1, anz1, coz1], k_fa [qtz1, qpz1, qsz1, qfz1], k_fl [], k_fL [], k_fp []), rfl, ⟨(by rw [if_pos c_3]; exact (kCz_e hiz1_1 c_2).1), hiz1_2, hiz1_3, hiz1_4, hiz1_5⟩, by rw [ht]; exact hP9, va_K.moved hW.alike hK, hD9⟩, hS.F ht⟩) hS.2.2 dX12_climbOf_170
    · refine lv_iload hx₀ hb dX12_climbOf_16 (lv_at hl 0 rfl) ?_
      refine lv_sipush (v := 207) hx₀ hb dX12_climbOf_18 (by decide +kernel) ?_
      refine lv_idiv hx₀ hb dX12_climbOf_21 (by decide +kernel) ?_
      refine lv_iconst (v := 1) hx₀ hb dX12_climbOf_22 (by decide +kernel) ?_
      refine lv_iadd hx₀ hb dX12_climbOf_23 ?_
      refine lv_istore (lv' := [(6, .int ((cdz1 / 207) + 1)), (5, .int cdz1), (4, .int bez1), (3, .int faz1), (0, .ref hm), (1, .int f1), (2, .int i1)]) hx₀ hb dX12_climbOf_24 hl (by decide) rfl (fun ls hl => ?_)
      refine lv_iload hx₀ hb dX12_climbOf_26 (lv_at hl 1 rfl) ?_
      refine lv_bipush (v := 9) hx₀ hb dX12_climbOf_28 (by decide +kernel) ?_
      refine lv_idiv hx₀ hb dX12_climbOf_30 (by decide +kernel) ?_
      refine lv_bipush (v := 23) hx₀ hb dX12_climbOf_31 (by decide +kernel) ?_
      refine lv_irem hx₀ hb dX12_climbOf_33 (by decide +kernel) ?_
      refine lv_iconst (v := 1) hx₀ hb dX12_climbOf_34 (by decide +kernel) ?_
      refine lv_iadd hx₀ hb dX12_climbOf_35 ?_
      refine lv_istore (lv' := [(7, .int (((cdz1 / 9) - (cdz1 / 9) / 23 * 23) + 1)), (6, .int ((cdz1 / 207) + 1)), (5, .int cdz1), (4, .int bez1), (3, .int faz1), (0, .ref hm), (1, .int f1), (2, .int i1)]) hx₀ hb dX12_climbOf_36 hl (by decide) rfl (fun ls hl => ?_)
      refine lv_aload_n hx₀ hb dX12_climbOf_38 rfl (lv_at hl 5 rfl) ?_
      refine lv_aload_n hx₀ hb dX12_climbOf_39 rfl (lv_at hl 5 rfl) ?_
      refine va_get (D := (dC, dI)) (ci := 11) (v := .ref vFt) (C := RX12) (T := TX12) (N := 30) hx₀ hb hts inlX12 hown hK hP 0 rfl rfl 14 (by decide) (hts (.fieldLink RX12 37 "BittenStickModel" "flight" "[I") wd_124) (fun _ h9 => h9) rfl dX12_climbOf_40 ?_
      refine lv_iconst (v := 4) hx₀ hb dX12_climbOf_43 (by decide +kernel) ?_
      refine lv_iload_n hx₀ hb dX12_climbOf_44 rfl (lv_at hl 6 rfl) ?_
      refine lv_imul hx₀ hb dX12_climbOf_45 ?_
      refine va_iald hx₀ hb hK hP 8 0 rfl rfl (vp_in_iff.mpr (lf_g_fliesTold_1 f1 hh7)) dX12_climbOf_46 ?_
      refine k_topi (v := kP0 qFt f1) rfl ?_
      refine lv_aload_n hx₀ hb dX12_climbOf_47 rfl (lv_at hl 5 rfl) ?_
      refine va_get (D := (dC, dI)) (ci := 11) (v := .ref vFt) (C := RX12) (T := TX12) (N := 30) hx₀ hb hts inlX12 hown hK hP 0 rfl rfl 14 (by decide) (hts (.fieldLink RX12 37 "BittenStickModel" "flight" "[I") wd_124) (fun _ h9 => h9) rfl dX12_climbOf_48 ?_
      refine lv_iconst (v := 4) hx₀ hb dX12_climbOf_51 (by decide +kernel) ?_
      refine lv_iload_n hx₀ hb dX12_climbOf_52 rfl (lv_at hl 6 rfl) ?_
      refine lv_imul hx₀ hb dX12_climbOf_53 ?_
      refine lv_iconst (v := 1) hx₀ hb dX12_climbOf_54 (by decide +kernel) ?_
      refine lv_iadd hx₀ hb dX12_climbOf_55 ?_
      refine va_iald hx₀ hb hK hP 8 0 rfl rfl (vp_in_iff.mpr (lf_g_fliesTold_2 f1 hh7)) dX12_climbOf_56 ?_
      refine k_topi (v := kP1 qFt f1) rfl ?_
      refine lv_aload_n hx₀ hb dX12_climbOf_57 rfl (lv_at hl 5 rfl) ?_
      refine va_get (D := (dC, dI)) (ci := 11) (v := .ref vFt) (C := RX12) (T := TX12) (N := 30) hx₀ hb hts inlX12 hown hK hP 0 rfl rfl 14 (by decide) (hts (.fieldLink RX12 37 "BittenStickModel" "flight" "[I") wd_124) (fun _ h9 => h9) rfl dX12_climbOf_58 ?_
      refine lv_iconst (v := 4) hx₀ hb dX12_climbOf_61 (by decide +kernel) ?_
      refine lv_iload_n hx₀ hb dX12_climbOf_62 rfl (lv_at hl 6 rfl) ?_
      refine lv_imul hx₀ hb dX12_climbOf_63 ?_
      refine lv_iconst (v := 2) hx₀ hb dX12_climbOf_64 (by decide +kernel) ?_
      refine lv_iadd hx₀ hb dX12_climbOf_65 ?_
      refine va_iald hx₀ hb hK hP 8 0 rfl rfl (vp_in_iff.mpr (lf_g_goes_3 f1 hh7)) dX12_climbOf_66 ?_
      refine k_topi (v := kP2 qFt f1) rfl ?_
      refine lv_iload hx₀ hb dX12_climbOf_67 (lv_at hl 1 rfl) ?_
      refine lv_iload hx₀ hb dX12_climbOf_69 (lv_at hl 0 rfl) ?_
      refine lv_iload hx₀ hb dX12_climbOf_71 (lv_at hl 2 rfl) ?_
      refine lv_bipush (v := 9) hx₀ hb dX12_climbOf_73 (by decide +kernel) ?_
      refine lv_irem hx₀ hb dX12_climbOf_75 (by decide +kernel) ?_
      refine lv_iconst (v := 1) hx₀ hb dX12_climbOf_76 (by decide +kernel) ?_
      refine lv_iadd hx₀ hb dX12_climbOf_77 ?_
      obtain ⟨hPc, hDc, hFc, hC⟩ := k_cw (wc := [(kX12 hm vFo vSi vIt vMo la vBy vTy mi vMi pn vPs gn vGs fn vFt le vTo knz1 fez1 enz1 ca anz1 coz1 vPr vSt vFn sn vSg vAl dr), (kAI vMi cI 24 qMi), (kAI vPs cI 32 qPs), (kAI vGs cI 16 qGs), (kAI vTo cI 96 qtz1), (kAI vPr cI 2 qpz1), (kAI vSt cI 2 qsz1), (kAI vFn cI 2 qfz1)]) hP hD hS hA [0, 1, 2, 3, 4, 5, 6, 7] (by decide +kernel) rfl
      refine va_callv (va_runV (As := [.int (kP0 qFt f1), .int (kP1 qFt f1), .int (kP2 qFt f1), .int ((cdz1 / 207) + 1), .int (((cdz1 / 9) - (cdz1 / 9) / 23 * 23) + 1), .int ((cdz1 - cdz1 / 9 * 9) + 1)]) (rest := []) ⟨hx₀, hb, hml, hown, hts⟩ (e_flies l dC dI cI cJ cQ H.size hm (kP0 qFt f1) (kP1 qFt f1) (kP2 qFt f1) ((cdz1 / 207) + 1) (((cdz1 / 9) - (cdz1 / 9) / 23 * 23) + 1) ((cdz1 - cdz1 / 9 * 9) + 1) vFo vSi vIt vMo la vBy vTy mi vMi pn vPs gn vGs fn vFt le vTo knz1 fez1 enz1 ca anz1 coz1 vPr vSt vFn sn vSg vAl dr qMi qPs qGs qtz1 qpz1 qsz1 qfz1 (hh0) (hh1) (hh2) (hiz1_2) ((k_h16 (lf_e_climbOf_1 cdz1 jz1 hiz1_0 hjz1 c_2)).1) ((k_h16 (lf_e_climbOf_1 cdz1 jz1 hiz1_0 hjz1 c_2)).2) (hh8) (hh9)) (cwV 6 hts (kGV wd_540 wd_537 wd_538 wd_539 wd_5) rfl rfl rfl (by decide +kernel) ⟨Nat.le_of_ble_eq_true rfl, Nat.le_of_ble_eq_true rfl⟩) (k_preV11 (q0 := 0) hK hPc hDc hN rfl) rfl rfl hl.1 rfl (lv_room (Nat.le_of_ble_eq_true rfl)) dX12_climbOf_78 ⟨by decide +kernel, by decide +kernel⟩) hS (fun q _ h => hFc q h) hFc (fun u₀ t₀ H1 locs ht hvm hw hB hz1 hk1 hS => ?_)
      obtain ⟨g_7, ga_8, gl_9, gb_10, gp_11⟩ := u₀
      obtain ⟨hP1, hK1, hD1⟩ := hB
      rw [ht] at hP1
      have hJ := k_jn (wr := [(kAI vFt cI 32 qFt)]) (wt := [(kAI vFt cI 32 qFt), (kX12 hm vFo vSi vIt vMo la vBy vTy mi vMi pn vPs gn vGs fn vFt le vTo (g_7 0) (g_7 1) (g_7 2) ca (g_7 3) (g_7 4) vPr vSt vFn sn vSg vAl dr), (kAI vMi cI 24 qMi), (kAI vPs cI 32 qPs), (kAI vGs cI 16 qGs), (kAI vTo cI 96 (ga_8 0)), (kAI vPr cI 2 (ga_8 1)), (kAI vSt cI 2 (ga_8 2)), (kAI vFn cI 2 (ga_8 3))]) hP hD hC [8] rfl (by decide +kernel) (by decide +kernel) hk1 hFc hP1 hD1 rfl
      clear hP hD hPc hDc hFc hC hP1 hD1 hK1 hz1 hk1 hvm ht
      obtain ⟨hP, hD⟩ := hJ
      generalize H1 = H at hP hS ⊢
      try dsimp only at hw
      obtain ⟨c_12, c_13, c_14, c_15, c_16⟩ := hw
      refine lv_aload_n hx₀ hb dX12_climbOf_81 rfl (lv_at hl 5 rfl) ?_
      refine va_get (D := (dC, dI)) (ci := 11) (v := .int (g_7 1)) (C := RX12) (T := TX12) (N := 30) hx₀ hb hts inlX12 hown hK hP 1 rfl rfl 18 (by decide) (hts (.fieldLink RX12 193 "BittenStickModel" "fell" "I") wd_542) (fun _ h9 => h9) rfl dX12_climbOf_82 ?_
      refine lv_iload_n hx₀ hb dX12_climbOf_85 rfl (lv_at hl 4 rfl) ?_
      refine lv_icmp_le (tgt := 94) hx₀ hb dX12_climbOf_86 (by decide) (fun c_17 => ?_) (fun c_17 => ?_)
      · refine lv_iload hx₀ hb dX12_climbOf_94 (lv_at hl 3 rfl) ?_
        refine lv_istore (lv' := [(4, .int bez1), (7, .int (((cdz1 / 9) - (cdz1 / 9) / 23 * 23) + 1)), (6, .int ((cdz1 / 207) + 1)), (5, .int cdz1), (3, .int faz1), (0, .ref hm), (1, .int f1), (2, .int i1)]) hx₀ hb dX12_climbOf_96 hl (by decide) rfl (fun ls hl => ?_)
        refine lv_aload_n hx₀ hb dX12_climbOf_98 rfl (lv_at hl 5 rfl) ?_
        refine va_get (D := (dC, dI)) (ci := 11) (v := .int (g_7 1)) (C := RX12) (T := TX12) (N := 30) hx₀ hb hts inlX12 hown hK hP 1 rfl rfl 18 (by decide) (hts (.fieldLink RX12 193 "BittenStickModel" "fell" "I") wd_542) (fun _ h9 => h9) rfl dX12_climbOf_99 ?_
        refine lv_iload_n hx₀ hb dX12_climbOf_102 rfl (lv_at hl 4 rfl) ?_
        refine lv_icmp_le (tgt := 113) hx₀ hb dX12_climbOf_103 (by decide) (fun _ => ?_) (fun c9 => absurd c_17 c9)
        refine lv_iload_n hx₀ hb dX12_climbOf_113 rfl (lv_at hl 4 rfl) ?_
        refine lv_istore_n (lv' := [(3, .int faz1), (4, .int bez1), (7, .int (((cdz1 / 9) - (cdz1 / 9) / 23 * 23) + 1)), (6, .int ((cdz1 / 207) + 1)), (5, .int cdz1), (0, .ref hm), (1, .int f1), (2, .int i1)]) hx₀ hb dX12_climbOf_114 rfl hl (by decide) rfl (fun ls hl => ?_)
        refine lv_iinc (v := cdz1 + 1) (lv' := [(5, .int (cdz1 + 1)), (3, .int faz1), (4, .int bez1), (7, .int (((cdz1 / 9) - (cdz1 / 9) / 23 * 23) + 1)), (6, .int ((cdz1 / 207) + 1)), (0, .ref hm), (1, .int f1), (2, .int i1)]) hx₀ hb dX12_climbOf_115 hl (k := 4) rfl rfl (by decide) rfl (fun ls hl => ?_)
        refine lv_goto (tgt := 8) hx₀ hb dX12_climbOf_118 (by decide) ?_
        exact ihz1 _ (lf_g_climbOf_2 cdz1 jz1 hiz1_0 hjz1 c_2) faz1 bez1 (cdz1 + 1) (g_7 0) (g_7 1) (g_7 2) (g_7 3) (g_7 4) (ga_8 0) (ga_8 1) (ga_8 2) (ga_8 3) _ _ _ (lf_g_climbOf_1 cdz1 jz1 hiz1_0 hjz1 c_2) (kCz_n hiz1_1 c_2 (kO_done c_16).1 (Int32.not_lt.mpr c_17)) (c_12) (c_13) (c_14) (c_15) rfl (hP.sub [1, 2, 3, 4, 5, 6, 7, 8, 0] rfl) (hD.sub [1, 2, 3, 4, 5, 6, 7, 8, 0] (by decide +kernel) rfl) hS (lv_sub hl [0, 2, 1, 5, 6, 7] rfl)
      · refine lv_iload hx₀ hb dX12_climbOf_89 (lv_at hl 2 rfl) ?_
        refine lv_goto (tgt := 96) hx₀ hb dX12_climbOf_91 (by decide) ?_
        refine lv_istore (lv' := [(4, .int cdz1), (7, .int (((cdz1 / 9) - (cdz1 / 9) / 23 * 23) + 1)), (6, .int ((cdz1 / 207) + 1)), (5, .int cdz1), (3, .int faz1), (0, .ref hm), (1, .int f1), (2, .int i1)]) hx₀ hb dX12_climbOf_96 hl (by decide) rfl (fun ls hl => ?_)
        refine lv_aload_n hx₀ hb dX12_climbOf_98 rfl (lv_at hl 5 rfl) ?_
        refine va_get (D := (dC, dI)) (ci := 11) (v := .int (g_7 1)) (C := RX12) (T := TX12) (N := 30) hx₀ hb hts inlX12 hown hK hP 1 rfl rfl 18 (by decide) (hts (.fieldLink RX12 193 "BittenStickModel" "fell" "I") wd_542) (fun _ h9 => h9) rfl dX12_climbOf_99 ?_
        refine lv_iload_n hx₀ hb dX12_climbOf_102 rfl (lv_at hl 4 rfl) ?_
        refine lv_icmp_le (tgt := 113) hx₀ hb dX12_climbOf_103 (by decide) (fun c9 => absurd c9 c_17) (fun _ => ?_)
        refine lv_aload_n hx₀ hb dX12_climbOf_106 rfl (lv_at hl 5 rfl) ?_
        refine va_get (D := (dC, dI)) (ci := 11) (v := .int (g_7 1)) (C := RX12) (T := TX12) (N := 30) hx₀ hb hts inlX12 hown hK hP 1 rfl rfl 18 (by decide) (hts (.fieldLink RX12 193 "BittenStickModel" "fell" "I") wd_542) (fun _ h9 => h9) rfl dX12_climbOf_107 ?_
        refine lv_goto (tgt := 114) hx₀ hb dX12_climbOf_110 (by decide) ?_
        refine lv_istore_n (lv' := [(3, .int (g_7 1)), (4, .int cdz1), (7, .int (((cdz1 / 9) - (cdz1 / 9) / 23 * 23) + 1)), (6, .int ((cdz1 / 207) + 1)), (5, .int cdz1), (0, .ref hm), (1, .int f1), (2, .int i1)]) hx₀ hb dX12_climbOf_114 rfl hl (by decide) rfl (fun ls hl => ?_)
        refine lv_iinc (v := cdz1 + 1) (lv' := [(5, .int (cdz1 + 1)), (3, .int (g_7 1)), (4, .int cdz1), (7, .int (((cdz1 / 9) - (cdz1 / 9) / 23 * 23) + 1)), (6, .int ((cdz1 / 207) + 1)), (0, .ref hm), (1, .int f1), (2, .int i1)]) hx₀ hb dX12_climbOf_115 hl (k := 4) rfl rfl (by decide) rfl (fun ls hl => ?_)
        refine lv_goto (tgt := 8) hx₀ hb dX12_climbOf_118 (by decide) ?_
        exact ihz1 _ (lf_g_climbOf_2 cdz1 jz1 hiz1_0 hjz1 c_2) (g_7 1) cdz1 (cdz1 + 1) (g_7 0) (g_7 1) (g_7 2) (g_7 3) (g_7 4) (ga_8 0) (ga_8 1) (ga_8 2) (ga_8 3) _ _ _ (lf_g_climbOf_1 cdz1 jz1 hiz1_0 hjz1 c_2) (kCz_y hiz1_1 c_2 (kO_done c_16).1 (Int32.not_le.mp c_17)) (c_12) (c_13) (c_14) (c_15) rfl (hP.sub [1, 2, 3, 4, 5, 6, 7, 8, 0] rfl) (hD.sub [1, 2, 3, 4, 5, 6, 7, 8, 0] (by decide +kernel) rfl) hS (lv_sub hl [0, 2, 1, 5, 6, 7] rfl)
set_option maxHeartbeats 4000000 in
set_option maxRecDepth 100000 in
theorem m_climb (l : Launch) (dC : Nat → ClassId) (dI : Nat → Nat → Nat) (cI cJ cQ : ClassId) (sz : Nat) (hm : Nat) (f1 : Int32) (i1 : Int32) (vFo : Nat) (vSi : Nat) (vIt : Nat) (vMo : Nat) (la : Int32) (vBy : Nat) (vTy : Nat) (mi : Int32) (vMi : Nat) (pn : Int32) (vPs : Nat) (gn : Int32) (vGs : Nat) (fn : Int32) (vFt : Nat) (le : Int32) (vTo : Nat) (kn : Int32) (fe : Int32) (en : Int32) (ca : Int32) (an : Int32) (co : Int32) (vPr : Nat) (vSt : Nat) (vFn : Nat) (sn : Int32) (vSg : Nat) (vAl : Nat) (dr : Int32) (qTy : Nat → Int32) (qBy : Nat → Int32) (qMi : Nat → Int32) (qPs : Nat → Int32) (qGs : Nat → Int32) (qTo : Nat → Int32) (qPr : Nat → Int32) (qSt : Nat → Int32) (qFn : Nat → Int32) (qFt : Nat → Int32) (hh0 : 0 ≤ (qTy 0).toInt ∧ (qTy 0).toInt ≤ 24) (hh1 : 0 ≤ (qTy 1).toInt ∧ (qTy 1).toInt ≤ 39) (hh2 : 0 ≤ (qTy 2).toInt ∧ (qTy 2).toInt ≤ 23) (hh3 : k_bd 2 0 7 qPr) (hh4 : 0 ≤ fe ∧ fe ≤ 24) (hh5 : en = 0 ∨ kn = 0 ∨ fe ≤ 23) (hh6 : 0 ≤ kn ∧ kn ≤ 24) (hh7 : 0 ≤ fn ∧ fn ≤ 8) (hh8 : ca = 16777215) (hh9 : k_bd 32 0 9 qFt) : Met l yX12_climb (kW yX12_climb cX12_climb 3 (some .int)) { frames := 5, cells := 0, slots := 0, locals := 111 } (kPre dC dI cI cJ cQ sz [.ref hm, .int f1, .int i1] [(kX12 hm vFo vSi vIt vMo la vBy vTy mi vMi pn vPs gn vGs fn vFt le vTo kn fe en ca an co vPr vSt vFn sn vSg vAl dr), (kAI vTy cI 3 qTy), (kAI vBy cI 120 qBy), (kAI vMi cI 24 qMi), (kAI vPs cI 32 qPs), (kAI vGs cI 16 qGs), (kAI vTo cI 96 qTo), (kAI vPr cI 2 qPr), (kAI vSt cI 2 qSt), (kAI vFn cI 2 qFn), (kAI vFt cI 32 qFt)]) (va_Qi (fun (r : Int32) (u : kS) => (r = if (0 ≤ f1 ∧ f1 < fn) ∧ (-1) ≤ i1 ∧ i1 ≤ 2 then (if i1 = -1 then (kCz (fun x1 => (kOR (u.2.1 0) (u.2.1 1) (u.2.1 2) (u.1 0) (u.1 1) (u.1 2) le (kP0 qFt f1) (kP1 qFt f1) (kP2 qFt f1) (kP1 (u.2.1 1) (kP0 qFt f1)) (kHc x1)).1) (kfu 1863 0) 0 (-1) 0).1 else if i1 = 0 then (kCz (fun x1 => (kOR (u.2.1 0) (u.2.1 1) (u.2.1 2) (u.1 0) (u.1 1) (u.1 2) le (kP0 qFt f1) (kP1 qFt f1) (kP2 qFt f1) (kP1 (u.2.1 1) (kP0 qFt f1)) (kHc x1)).1) (kfu 1863 0) 0 (-1) 0).2 / 207 + 1 else if i1 = 1 then (((kCz (fun x1 => (kOR (u.2.1 0) (u.2.1 1) (u.2.1 2) (u.1 0) (u.1 1) (u.1 2) le (kP0 qFt f1) (kP1 qFt f1) (kP2 qFt f1) (kP1 (u.2.1 1) (kP0 qFt f1)) (kHc x1)).1) (kfu 1863 0) 0 (-1) 0).2 / 9) - ((kCz (fun x1 => (kOR (u.2.1 0) (u.2.1 1) (u.2.1 2) (u.1 0) (u.1 1) (u.1 2) le (kP0 qFt f1) (kP1 qFt f1) (kP2 qFt f1) (kP1 (u.2.1 1) (kP0 qFt f1)) (kHc x1)).1) (kfu 1863 0) 0 (-1) 0).2 / 9) / 23 * 23) + 1 else ((kCz (fun x1 => (kOR (u.2.1 0) (u.2.1 1) (u.2.1 2) (u.1 0) (u.1 1) (u.1 2) le (kP0 qFt f1) (kP1 qFt f1) (kP2 qFt f1) (kP1 (u.2.1 1) (kP0 qFt f1)) (kHc x1)).1) (kfu 1863 0) 0 (-1) 0).2 - (kCz (fun x1 => (kOR (u.2.1 0) (u.2.1 1) (u.2.1 2) (u.1 0) (u.1 1) (u.1 2) le (kP0 qFt f1) (kP1 qFt f1) (kP2 qFt f1) (kP1 (u.2.1 1) (kP0 qFt f1)) (kHc x1)).1) (kfu 1863 0) 0 (-1) 0).2 / 9 * 9) + 1) else -2) ∧ (0 ≤ (u.1 0) ∧ (u.1 0) ≤ 24) ∧ (0 ≤ (u.1 1) ∧ (u.1 1) ≤ 8) ∧ (0 ≤ (u.1 2) ∧ (u.1 2) ≤ 8) ∧ (k_bd 2 0 7 (u.2.1 4)) ∧ (0 ≤ (u.1 4) ∧ (u.1 4) ≤ 24) ∧ ((u.1 5) = 0 ∨ (u.1 3) = 0 ∨ (u.1 4) ≤ 23) ∧ (0 ≤ (u.1 3) ∧ (u.1 3) ≤ 24) ∧ (k_tm (u.1 1) (u.2.1 1)) ∧ ((u.1 0) = kNm (qTy 0) (qTy 0) (kv4 qBy)) ∧ ((u.1 1) = kNm (kTh7 (qTy 1)) (qTy 1) (kv7 qBy)) ∧ ((u.1 2) = kNm (kTh2 (qTy 2)) (qTy 2) (kv2 qBy)) ∧ (k_ml (u.1 0) (u.2.1 0) (kv4 qBy)) ∧ (k_mq 5 4 (u.1 1) (qTy 1) (u.2.1 1) (kv7 qBy)) ∧ (k_mq 3 2 (u.1 2) (qTy 2) (u.2.1 2) (kv2 qBy))) (fun (u : kS) t₀ => kB dC dI cI cJ cQ (va_A [(kX12 hm vFo vSi vIt vMo la vBy vTy mi vMi pn vPs gn vGs fn vFt le vTo kn fe en ca an co vPr vSt vFn sn vSg vAl dr), (kAI vTy cI 3 qTy), (kAI vBy cI 120 qBy), (kAI vMi cI 24 qMi), (kAI vPs cI 32 qPs), (kAI vGs cI 16 qGs), (kAI vTo cI 96 qTo), (kAI vPr cI 2 qPr), (kAI vSt cI 2 qSt), (kAI vFn cI 2 qFn), (kAI vFt cI 32 qFt)] sz) [(kX12 hm vFo vSi vIt vMo la vBy vTy (u.1 0) vMi (u.1 1) vPs (u.1 2) vGs fn vFt le vTo (u.1 3) (u.1 4) (u.1 5) ca (u.1 6) (u.1 7) vPr vSt vFn sn vSg vAl dr), (kAI vTy cI 3 qTy), (kAI vBy cI 120 qBy), (kAI vMi cI 24 (u.2.1 0)), (kAI vPs cI 32 (u.2.1 1)), (kAI vGs cI 16 (u.2.1 2)), (kAI vTo cI 96 (u.2.1 3)), (kAI vPr cI 2 (u.2.1 4)), (kAI vSt cI 2 (u.2.1 5)), (kAI vFn cI 2 (u.2.1 6)), (kAI vFt cI 32 qFt)] t₀) (va_A [(kX12 hm vFo vSi vIt vMo la vBy vTy mi vMi pn vPs gn vGs fn vFt le vTo kn fe en ca an co vPr vSt vFn sn vSg vAl dr), (kAI vTy cI 3 qTy), (kAI vBy cI 120 qBy), (kAI vMi cI 24 qMi), (kAI vPs cI 32 qPs), (kAI vGs cI 16 qGs), (kAI vTo cI 96 qTo), (kAI vPr cI 2 qPr), (kAI vSt cI 2 qSt), (kAI vFn cI 2 qFn), (kAI vFt cI 32 qFt)] sz)) 0 0 (va_A [(kX12 hm vFo vSi vIt vMo la vBy vTy mi vMi pn vPs gn vGs fn vFt le vTo kn fe en ca an co vPr vSt vFn sn vSg vAl dr), (kAI vTy cI 3 qTy), (kAI vBy cI 120 qBy), (kAI vMi cI 24 qMi), (kAI vPs cI 32 qPs), (kAI vGs cI 16 qGs), (kAI vTo cI 96 qTo), (kAI vPr cI 2 qPr), (kAI vSt cI 2 qSt), (kAI vFn cI 2 qFn), (kAI vFt cI 32 qFt)] sz) := by
  refine Met.ofW (cc := cX12_climb) (maxL := 3) (ret := (some .int)) (by decide) rfl ?_
  intro p₀ e₀ s₀ m₀ args below meth c₀ s₁ B hml hv₀
  obtain ⟨rfl, hsz, hP, hK, hD0, hN⟩ := hv₀
  have hx₀ := B.exec
  have hb := B.bytes
  have hr := B.returns
  have hts := atoms_spec (ws := (kW yX12_climb cX12_climb 3 (some .int))) B.pre
  have hts := fun w h => hts w (List.mem_cons_of_mem _ h)
  have hown : s₀.vm.findClass RX12 = some m₀.cls := findClass_of_methodNamed B.named
  have hlocks := B.notSynchronized
  subst hsz
  have hD := hD0.self (sz := s₀.heap.size)
  generalize hAe : va_A [(kX12 hm vFo vSi vIt vMo la vBy vTy mi vMi pn vPs gn vGs fn vFt le vTo kn fe en ca an co vPr vSt vFn sn vSg vAl dr), (kAI vTy cI 3 qTy), (kAI vBy cI 120 qBy), (kAI vMi cI 24 qMi), (kAI vPs cI 32 qPs), (kAI vGs cI 16 qGs), (kAI vTo cI 96 qTo), (kAI vPr cI 2 qPr), (kAI vSt cI 2 qSt), (kAI vFn cI 2 qFn), (kAI vFt cI 32 qFt)] s₀.heap.size = A at hD ⊢
  have hA : ∀ q : Nat, s₀.heap.size ≤ q → A q := fun q h => by rw [← hAe]; exact Or.inr h
  have hS : va_S A s₀.heap s₀.heap [] := va_S.rf
  have hP : va_P (dC, dI) vwCl [(kX12 hm vFo vSi vIt vMo la vBy vTy mi vMi pn vPs gn vGs fn vFt le vTo kn fe en ca an co vPr vSt vFn sn vSg vAl dr), (kAI vTy cI 3 qTy), (kAI vBy cI 120 qBy), (kAI vMi cI 24 qMi), (kAI vPs cI 32 qPs), (kAI vGs cI 16 qGs), (kAI vTo cI 96 qTo), (kAI vPr cI 2 qPr), (kAI vSt cI 2 qSt), (kAI vFn cI 2 qFn), (kAI vFt cI 32 qFt)] s₀.heap := hP
  have hl := lv_entry ([.ref hm, .int f1, .int i1]) (n := 3) (Nat.le_of_ble_eq_true rfl)
  rw [lg_entry_eq]
  generalize (lg_sl ([.ref hm, .int f1, .int i1]) ++ List.replicate (3 - (lg_sl ([.ref hm, .int f1, .int i1])).length) Slot.unset).toArray = ls at hl ⊢
  have hl : lv_has ls 3 [(0, .ref hm), (1, .int f1), (2, .int i1)] := hl
  obtain ⟨H, hH⟩ : ∃ z : Heap, z = s₀.heap := ⟨_, rfl⟩
  rw [← hH] at hP
  have hS : va_S A s₀.heap H [] := by rw [hH]; exact hS
  refine k_heap hH ?_
  have hD : va_D A [(kX12 hm vFo vSi vIt vMo la vBy vTy mi vMi pn vPs gn vGs fn vFt le vTo kn fe en ca an co vPr vSt vFn sn vSg vAl dr), (kAI vTy cI 3 qTy), (kAI vBy cI 120 qBy), (kAI vMi cI 24 qMi), (kAI vPs cI 32 qPs), (kAI vGs cI 16 qGs), (kAI vTo cI 96 qTo), (kAI vPr cI 2 qPr), (kAI vSt cI 2 qSt), (kAI vFn cI 2 qFn), (kAI vFt cI 32 qFt)] := hD
  obtain ⟨locs, hlo⟩ : ∃ z : List Loc, z = [] := ⟨_, rfl⟩
  rw [← hlo] at hS ⊢
  clear hlo hH hAe hD0
  refine lv_aload_n hx₀ hb dX12_climb_0 rfl (lv_at hl 0 rfl) ?_
  obtain ⟨hPc, hDc, hFc, hC⟩ := k_cw (wc := [(kX12 hm vFo vSi vIt vMo la vBy vTy mi vMi pn vPs gn vGs fn vFt le vTo kn fe en ca an co vPr vSt vFn sn vSg vAl dr), (kAI vTy cI 3 qTy), (kAI vBy cI 120 qBy), (kAI vMi cI 24 qMi), (kAI vPs cI 32 qPs), (kAI vGs cI 16 qGs)]) hP hD hS hA [0, 1, 2, 3, 4, 5] (by decide +kernel) rfl
  refine va_callv (va_runV (As := []) (rest := []) ⟨hx₀, hb, hml, hown, hts⟩ (g_reads l dC dI cI cJ cQ H.size hm vFo vSi vIt vMo la vBy vTy mi vMi pn vPs gn vGs fn vFt le vTo kn fe en ca an co vPr vSt vFn sn vSg vAl dr qTy qBy qMi qPs qGs (hh0) (hh1) (hh2)) (cwV 0 hts (kGV wd_298 wd_295 wd_296 wd_297 wd_5) rfl rfl rfl (by decide +kernel) ⟨Nat.le_of_ble_eq_true rfl, Nat.le_of_ble_eq_true rfl⟩) (k_preV11 (q0 := 0) hK hPc hDc hN rfl) rfl rfl hl.1 rfl (lv_room (Nat.le_of_ble_eq_true rfl)) dX12_climb_1 ⟨by decide +kernel, by decide +kernel⟩) hS (fun q _ h => hFc q h) hFc (fun u₀ t₀ H1 locs ht hvm hw hB hz1 hk1 hS => ?_)
  obtain ⟨g_2, ga_3, gl_4, gb_5, gp_6⟩ := u₀
  obtain ⟨hP1, hK1, hD1⟩ := hB
  rw [ht] at hP1
  have hJ := k_jn (wr := [(kAI vTo cI 96 qTo), (kAI vPr cI 2 qPr), (kAI vSt cI 2 qSt), (kAI vFn cI 2 qFn), (kAI vFt cI 32 qFt)]) (wt := [(kAI vTo cI 96 qTo), (kAI vPr cI 2 qPr), (kAI vSt cI 2 qSt), (kAI vFn cI 2 qFn), (kAI vFt cI 32 qFt), (kX12 hm vFo vSi vIt vMo la vBy vTy (g_2 0) vMi (g_2 1) vPs (g_2 2) vGs fn vFt le vTo kn fe en ca an co vPr vSt vFn sn vSg vAl dr), (kAI vTy cI 3 qTy), (kAI vBy cI 120 qBy), (kAI vMi cI 24 (ga_3 0)), (kAI vPs cI 32 (ga_3 1)), (kAI vGs cI 16 (ga_3 2))]) hP hD hC [6, 7, 8, 9, 10] rfl (by decide +kernel) (by decide +kernel) hk1 hFc hP1 hD1 rfl
  clear hP hD hPc hDc hFc hC hP1 hD1 hK1 hz1 hk1 hvm ht
  obtain ⟨hP, hD⟩ := hJ
  generalize H1 = H at hP hS ⊢
  try dsimp only at hw
  obtain ⟨c_7, c_8, c_9, c_10, c_11, c_12, c_13, c_14, c_15, c_16⟩ := hw
  refine lv_aload_n hx₀ hb dX12_climb_4 rfl (lv_at hl 0 rfl) ?_
  refine lv_iload_n hx₀ hb dX12_climb_5 rfl (lv_at hl 1 rfl) ?_
  obtain ⟨hPc, hDc, hFc, hC⟩ := k_cw (wc := [(kX12 hm vFo vSi vIt vMo la vBy vTy (g_2 0) vMi (g_2 1) vPs (g_2 2) vGs fn vFt le vTo kn fe en ca an co vPr vSt vFn sn vSg vAl dr)]) hP hD hS hA [5] (by decide +kernel) rfl
  refine va_calli (va_runV (As := [.int f1]) (rest := []) ⟨hx₀, hb, hml, hown, hts⟩ (g_isFlight l dC dI cI cJ cQ H.size hm f1 vFo vSi vIt vMo la vBy vTy (g_2 0) vMi (g_2 1) vPs (g_2 2) vGs fn vFt le vTo kn fe en ca an co vPr vSt vFn sn vSg vAl dr (hh7)) (cwV 1 hts (kGV wd_528 wd_525 wd_526 wd_527 wd_5) rfl rfl rfl (by decide +kernel) ⟨Nat.le_of_ble_eq_true rfl, Nat.le_of_ble_eq_true rfl⟩) (k_preV11 (q0 := 0) hK hPc hDc hN rfl) rfl rfl hl.1 rfl (lv_room (Nat.le_of_ble_eq_true rfl)) dX12_climb_6 ⟨by decide +kernel, by decide +kernel⟩) hS (fun q _ h => hFc q h) hFc (fun r_17 u₀ t₀ H1 locs ht hvm hw hB hz1 hk1 hS => ?_)
  obtain ⟨hP1, hK1, hD1⟩ := hB
  rw [ht] at hP1
  have hJ := k_jn (wr := [(kAI vTo cI 96 qTo), (kAI vPr cI 2 qPr), (kAI vSt cI 2 qSt), (kAI vFn cI 2 qFn), (kAI vFt cI 32 qFt), (kAI vTy cI 3 qTy), (kAI vBy cI 120 qBy), (kAI vMi cI 24 (ga_3 0)), (kAI vPs cI 32 (ga_3 1)), (kAI vGs cI 16 (ga_3 2))]) (wt := [(kAI vTo cI 96 qTo), (kAI vPr cI 2 qPr), (kAI vSt cI 2 qSt), (kAI vFn cI 2 qFn), (kAI vFt cI 32 qFt), (kAI vTy cI 3 qTy), (kAI vBy cI 120 qBy), (kAI vMi cI 24 (ga_3 0)), (kAI vPs cI 32 (ga_3 1)), (kAI vGs cI 16 (ga_3 2)), (kX12 hm vFo vSi vIt vMo la vBy vTy (g_2 0) vMi (g_2 1) vPs (g_2 2) vGs fn vFt le vTo kn fe en ca an co vPr vSt vFn sn vSg vAl dr)]) hP hD hC [0, 1, 2, 3, 4, 6, 7, 8, 9, 10] rfl (by decide +kernel) (by decide +kernel) hk1 hFc hP1 hD1 rfl
  clear hP hD hPc hDc hFc hC hP1 hD1 hK1 hz1 hk1 hvm ht
  obtain ⟨hP, hD⟩ := hJ
  generalize H1 = H at hP hS ⊢
  try dsimp only at hw
  by_cases c_18 : 0 ≤ f1 ∧ f1 < fn
  · rw [if_pos c_18] at hw
    refine k_topi (v := 1) hw ?_
    refine lv_if_eq (tgt := 35) hx₀ hb dX12_climb_9 (by decide) (fun c9 => absurd c9 (by decide +kernel)) (fun _ => ?_)
    refine lv_iload_n hx₀ hb dX12_climb_12 rfl (lv_at hl 2 rfl) ?_
    refine lv_i2l hx₀ hb dX12_climb_13 rfl ?_
    refine lv_ldc2 (v := (-1)) hx₀ hb hown (hts (.constantLong RX12 224 (-1)) wd_645) dX12_climb_14 ?_
    refine lv_ldc2 (v := 2) hx₀ hb hown (hts (.constantLong RX12 78 (2)) wd_205) dX12_climb_17 ?_
    obtain ⟨hPc, hDc, hFc, hC⟩ := k_cw (wc := []) hP hD hS hA [] (by decide +kernel) rfl
    refine va_calli (va_runS (As := [.long i1.toInt64, .long (-1), .long 2]) (rest := []) ⟨hx₀, hb, hml, hown, hts⟩ (c_in l dC dI cI cJ cQ H.size i1.toInt64 (-1) 2) (va_cwS 3 hts (kGS wd_208 wd_206 wd_207 wd_5) rfl rfl rfl (by decide +kernel) ⟨Nat.le_of_ble_eq_true rfl, Nat.le_of_ble_eq_true rfl⟩) (k_preS hK hPc hDc hN) rfl rfl hl.1 rfl (lv_room (Nat.le_of_ble_eq_true rfl)) dX12_climb_20 ⟨by decide +kernel, by decide +kernel⟩) hS (fun q _ h => hFc q h) hFc (fun r_19 u₀ t₀ H1 locs ht hvm hw hB hz1 hk1 hS => ?_)
    obtain ⟨hP1, hK1, hD1⟩ := hB
    rw [ht] at hP1
    have hJ := k_jn (wr := [(kAI vTo cI 96 qTo), (kAI vPr cI 2 qPr), (kAI vSt cI 2 qSt), (kAI vFn cI 2 qFn), (kAI vFt cI 32 qFt), (kAI vTy cI 3 qTy), (kAI vBy cI 120 qBy), (kAI vMi cI 24 (ga_3 0)), (kAI vPs cI 32 (ga_3 1)), (kAI vGs cI 16 (ga_3 2)), (kX12 hm vFo vSi vIt vMo la vBy vTy (g_2 0) vMi (g_2 1) vPs (g_2 2) vGs fn vFt le vTo kn fe en ca an co vPr vSt vFn sn vSg vAl dr)]) (wt := [(kAI vTo cI 96 qTo), (kAI vPr cI 2 qPr), (kAI vSt cI 2 qSt), (kAI vFn cI 2 qFn), (kAI vFt cI 32 qFt), (kAI vTy cI 3 qTy), (kAI vBy cI 120 qBy), (kAI vMi cI 24 (ga_3 0)), (kAI vPs cI 32 (ga_3 1)), (kAI vGs cI 16 (ga_3 2)), (kX12 hm vFo vSi vIt vMo la vBy vTy (g_2 0) vMi (g_2 1) vPs (g_2 2) vGs fn vFt le vTo kn fe en ca an co vPr vSt vFn sn vSg vAl dr)]) hP hD hC [0, 1, 2, 3, 4, 5, 6, 7, 8, 9, 10] rfl (by decide +kernel) (by decide +kernel) hk1 hFc hP1 hD1 rfl
    clear hP hD hPc hDc hFc hC hP1 hD1 hK1 hz1 hk1 hvm ht
    obtain ⟨hP, hD⟩ := hJ
    generalize H1 = H at hP hS ⊢
    try dsimp only at hw
    by_cases c_20 : (-1 : Int64) ≤ i1.toInt64 ∧ i1.toInt64 ≤ (2 : Int64)
    · rw [if_pos c_20] at hw
      refine k_topi (v := 1) hw ?_
      refine lv_if_eq (tgt := 35) hx₀ hb dX12_climb_23 (by decide) (fun c9 => absurd c9 (by decide +kernel)) (fun _ => ?_)
      refine lv_aload_n hx₀ hb dX12_climb_26 rfl (lv_at hl 0 rfl) ?_
      refine lv_iload_n hx₀ hb dX12_climb_27 rfl (lv_at hl 1 rfl) ?_
      refine lv_iload_n hx₀ hb dX12_climb_28 rfl (lv_at hl 2 rfl) ?_
      obtain ⟨hPc, hDc, hFc, hC⟩ := k_cw (wc := [(kX12 hm vFo vSi vIt vMo la vBy vTy (g_2 0) vMi (g_2 1) vPs (g_2 2) vGs fn vFt le vTo kn fe en ca an co vPr vSt vFn sn vSg vAl dr), (kAI vMi cI 24 (ga_3 0)), (kAI vPs cI 32 (ga_3 1)), (kAI vGs cI 16 (ga_3 2)), (kAI vTo cI 96 qTo), (kAI vPr cI 2 qPr), (kAI vSt cI 2 qSt), (kAI vFn cI 2 qFn), (kAI vFt cI 32 qFt)]) hP hD hS hA [10, 7, 8, 9, 0, 1, 2, 3, 4] (by decide +kernel) rfl
      refine va_calli (va_runV (As := [.int f1, .int i1]) (rest := []) ⟨hx₀, hb, hml, hown, hts⟩ (e_climbOf l dC dI cI cJ cQ H.size hm f1 i1 vFo vSi vIt vMo la vBy vTy (g_2 0) vMi (g_2 1) vPs (g_2 2) vGs fn vFt le vTo kn fe en ca an co vPr vSt vFn sn vSg vAl dr (ga_3 0) (ga_3 1) (ga_3 2) qTo qPr qSt qFn qFt (c_7) (c_8) (c_9) (hh3) (hh4) (hh5) (hh6) (lf_g_flies_3 fn f1 hh7 c_18) (c_10) (hh8) (hh9)) (cwV 2 hts (kGV wd_649 wd_646 wd_647 wd_648 wd_5) rfl rfl rfl (by decide +kernel) ⟨Nat.le_of_ble_eq_true rfl, Nat.le_of_ble_eq_true rfl⟩) (k_preV11 (q0 := 0) hK hPc hDc hN rfl) rfl rfl hl.1 rfl (lv_room (Nat.le_of_ble_eq_true rfl)) dX12_climb_29 ⟨by decide +kernel, by decide +kernel⟩) hS (fun q _ h => hFc q h) hFc (fun r_21 u₀ t₀ H1 locs ht hvm hw hB hz1 hk1 hS => ?_)
      obtain ⟨g_22, ga_23, gl_24, gb_25, gp_26⟩ := u₀
      obtain ⟨hP1, hK1, hD1⟩ := hB
      rw [ht] at hP1
      have hJ := k_jn (wr := [(kAI vTy cI 3 qTy), (kAI vBy cI 120 qBy)]) (wt := [(kAI vTy cI 3 qTy), (kAI vBy cI 120 qBy), (kX12 hm vFo vSi vIt vMo la vBy vTy (g_2 0) vMi (g_2 1) vPs (g_2 2) vGs fn vFt le vTo (g_22 0) (g_22 1) (g_22 2) ca (g_22 3) (g_22 4) vPr vSt vFn sn vSg vAl dr), (kAI vMi cI 24 (ga_3 0)), (kAI vPs cI 32 (ga_3 1)), (kAI vGs cI 16 (ga_3 2)), (kAI vTo cI 96 (ga_23 0)), (kAI vPr cI 2 (ga_23 1)), (kAI vSt cI 2 (ga_23 2)), (kAI vFn cI 2 (ga_23 3)), (kAI vFt cI 32 qFt)]) hP hD hC [5, 6] rfl (by decide +kernel) (by decide +kernel) hk1 hFc hP1 hD1 rfl
      clear hP hD hPc hDc hFc hC hP1 hD1 hK1 hz1 hk1 hvm ht
      obtain ⟨hP, hD⟩ := hJ
      generalize H1 = H at hP hS ⊢
      try dsimp only at hw
      obtain ⟨c_27, c_28, c_29, c_30, c_31⟩ := hw
      refine lv_goto (tgt := 37) hx₀ hb dX12_climb_32 (by decide) ?_
      obtain ⟨hP9, hD9⟩ := k_c2 (wc := [(kX12 hm vFo vSi vIt vMo la vBy vTy (g_2 0) vMi (g_2 1) vPs (g_2 2) vGs fn vFt le vTo (g_22 0) (g_22 1) (g_22 2) ca (g_22 3) (g_22 4) vPr vSt vFn sn vSg vAl dr), (kAI vTy cI 3 qTy), (kAI vBy cI 120 qBy), (kAI vMi cI 24 (ga_3 0)), (kAI vPs cI 32 (ga_3 1)), (kAI vGs cI 16 (ga_3 2)), (kAI vTo cI 96 (ga_23 0)), (kAI vPr cI 2 (ga_23 1)), (kAI vSt cI 2 (ga_23 2)), (kAI vFn cI 2 (ga_23 3)), (kAI vFt cI 32 qFt)]) hP hD [2, 0, 1, 3, 4, 5, 6, 7, 8, 9, 10] (by decide +kernel) rfl
      exact W.iret (v := r_21) hx₀ hb hr (fun t₀ ht hW => ⟨⟨r_21, (k_fn [(g_2 0), (g_2 1), (g_2 2), (g_22 0), (g_22 1), (g_22 2), (g_22 3), (g_22 4)], k_fa [(ga_3 0), (ga_3 1), (ga_3 2), ga_23 0, ga_23 1, ga_23 2, ga_23 3], k_fl [], k_fL [], k_fp []), rfl, ⟨(c_27.trans (if_pos (show (0 ≤ f1 ∧ f1 < fn) ∧ (-1) ≤ i1 ∧ i1 ≤ 2 from ⟨⟨c_18.1, c_18.2⟩, ((k_64 (a := i1) (l := (-1)) (h := 2) (by decide) (by decide)).mp c_20).1, ((k_64 (a := i1) (l := (-1)) (h := 2) (by decide) (by decide)).mp c_20).2⟩)).symm), c_7, c_8, c_9, c_28, c_29, c_30, c_31, c_10, c_11, c_12, c_13, c_14, c_15, c_16⟩, by rw [ht]; exact hP9, va_K.moved hW.alike hK, hD9⟩, hS.F ht⟩) hS.2.2 dX12_climb_37
    rw [if_neg c_20] at hw
    refine k_topi (v := 0) hw ?_
    refine lv_if_eq (tgt := 35) hx₀ hb dX12_climb_23 (by decide) (fun _ => ?_) (fun c9 => absurd (by decide +kernel) c9)
    refine lv_bipush (v := (-2)) hx₀ hb dX12_climb_35 (by decide +kernel) ?_
    obtain ⟨hP9, hD9⟩ := k_c2 (wc := [(kX12 hm vFo vSi vIt vMo la vBy vTy (g_2 0) vMi (g_2 1) vPs (g_2 2) vGs fn vFt le vTo kn fe en ca an co vPr vSt vFn sn vSg vAl dr), (kAI vTy cI 3 qTy), (kAI vBy cI 120 qBy), (kAI vMi cI 24 (ga_3 0)), (kAI vPs cI 32 (ga_3 1)), (kAI vGs cI 16 (ga_3 2)), (kAI vTo cI 96 qTo), (kAI vPr cI 2 qPr), (kAI vSt cI 2 qSt), (kAI vFn cI 2 qFn), (kAI vFt cI 32 qFt)]) hP hD [10, 5, 6, 7, 8, 9, 0, 1, 2, 3, 4] (by decide +kernel) rfl
    exact W.iret (v := (-2)) hx₀ hb hr (fun t₀ ht hW => ⟨⟨(-2), (k_fn [(g_2 0), (g_2 1), (g_2 2), kn, fe, en, an, co], k_fa [ga_3 0, ga_3 1, ga_3 2, qTo, qPr, qSt, qFn], k_fl [], k_fL [], k_fp []), rfl, ⟨(if_neg (show ¬ ((0 ≤ f1 ∧ f1 < fn) ∧ (-1) ≤ i1 ∧ i1 ≤ 2) from (fun z => (fun z => c_20 ((k_64 (a := i1) (l := (-1)) (h := 2) (by decide) (by decide)).mpr z)) (And.intro z.2.1 z.2.2)))).symm, c_7, c_8, c_9, hh3, hh4, hh5, hh6, c_10, c_11, c_12, c_13, c_14, c_15, c_16⟩, by rw [ht]; exact hP9, va_K.moved hW.alike hK, hD9⟩, hS.F ht⟩) hS.2.2 dX12_climb_37
  rw [if_neg c_18] at hw
  refine k_topi (v := 0) hw ?_
  refine lv_if_eq (tgt := 35) hx₀ hb dX12_climb_9 (by decide) (fun _ => ?_) (fun c9 => absurd (by decide +kernel) c9)
  refine lv_bipush (v := (-2)) hx₀ hb dX12_climb_35 (by decide +kernel) ?_
  obtain ⟨hP9, hD9⟩ := k_c2 (wc := [(kX12 hm vFo vSi vIt vMo la vBy vTy (g_2 0) vMi (g_2 1) vPs (g_2 2) vGs fn vFt le vTo kn fe en ca an co vPr vSt vFn sn vSg vAl dr), (kAI vTy cI 3 qTy), (kAI vBy cI 120 qBy), (kAI vMi cI 24 (ga_3 0)), (kAI vPs cI 32 (ga_3 1)), (kAI vGs cI 16 (ga_3 2)), (kAI vTo cI 96 qTo), (kAI vPr cI 2 qPr), (kAI vSt cI 2 qSt), (kAI vFn cI 2 qFn), (kAI vFt cI 32 qFt)]) hP hD [10, 5, 6, 7, 8, 9, 0, 1, 2, 3, 4] (by decide +kernel) rfl
  exact W.iret (v := (-2)) hx₀ hb hr (fun t₀ ht hW => ⟨⟨(-2), (k_fn [(g_2 0), (g_2 1), (g_2 2), kn, fe, en, an, co], k_fa [ga_3 0, ga_3 1, ga_3 2, qTo, qPr, qSt, qFn], k_fl [], k_fL [], k_fp []), rfl, ⟨(if_neg (show ¬ ((0 ≤ f1 ∧ f1 < fn) ∧ (-1) ≤ i1 ∧ i1 ≤ 2) from (fun z => c_18 z.1))).symm, c_7, c_8, c_9, hh3, hh4, hh5, hh6, c_10, c_11, c_12, c_13, c_14, c_15, c_16⟩, by rw [ht]; exact hP9, va_K.moved hW.alike hK, hD9⟩, hS.F ht⟩) hS.2.2 dX12_climb_37
