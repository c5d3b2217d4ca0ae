set_option maxHeartbeats 4000000 in
set_option maxRecDepth 100000 in
theorem c_again0_X4 (l : Launch) (dC : Nat → ClassId) (dI : Nat → Nat → Nat) (cI cJ cQ : ClassId) (sz : Nat) (h : Nat) (hv : Nat) (fa : Int32) (nu : Int32) : Met l yX9_readAgain (kW yX9_readAgain cX9_readAgain 2 none) { frames := 1, cells := 0, slots := 0, locals := 21 } (kPre dC dI cI cJ cQ sz [.ref h] [(h, .inr (4, [.ref hv, .int 0, .int fa, .int nu]))]) (va_Qv (fun (_ : Unit) => True) (fun _ t₀ => kB dC dI cI cJ cQ (va_A [(h, .inr (4, [.ref hv, .int 0, .int fa, .int nu]))] sz) [(h, .inr (4, [.ref hv, .int 0, .int (-1), .int 0]))] t₀) (va_A [(h, .inr (4, [.ref hv, .int 0, .int fa, .int nu]))] sz)) 0 0 (va_A [(h, .inr (4, [.ref hv, .int 0, .int fa, .int nu]))] sz) := by
  refine Met.ofW (cc := cX9_readAgain) (maxL := 2) (ret := none) (by decide) rfl ?_
  intro p₀ e₀ s₀ m₀ args below meth c₀ s₁ B hml hv₀
  obtain ⟨rfl, hsz, hP, hK, hD0, hN⟩ := hv₀
  have hx₀ := B.exec
  have hb := B.bytes
  have hr := B.returns
  have hts := atoms_spec (ws := (kW yX9_readAgain cX9_readAgain 2 none)) B.pre
  have hts := fun w h => hts w (List.mem_cons_of_mem _ h)
  have hown : s₀.vm.findClass RX9 = some m₀.cls := findClass_of_methodNamed B.named
  have hlocks := B.notSynchronized
  subst hsz
  have hD := hD0.self (sz := s₀.heap.size)
  generalize hAe : va_A [(h, .inr (4, [.ref hv, .int 0, .int fa, .int nu]))] s₀.heap.size = A at hD ⊢
  have hA : ∀ q : Nat, s₀.heap.size ≤ q → A q := fun q h => by rw [← hAe]; exact Or.inr h
  have hS : va_S A s₀.heap s₀.heap [] := va_S.rf
  have hP : va_P (dC, dI) vwCl [(h, .inr (4, [.ref hv, .int 0, .int fa, .int nu]))] s₀.heap := hP
  have hl := lv_entry ([.ref h]) (n := 2) (Nat.le_of_ble_eq_true rfl)
  rw [lg_entry_eq]
  generalize (lg_sl ([.ref h]) ++ List.replicate (2 - (lg_sl ([.ref h])).length) Slot.unset).toArray = ls at hl ⊢
  have hl : lv_has ls 2 [(0, .ref h)] := hl
  obtain ⟨H, hH⟩ : ∃ z : Heap, z = s₀.heap := ⟨_, rfl⟩
  rw [← hH] at hP
  have hS : va_S A s₀.heap H [] := by rw [hH]; exact hS
  refine k_heap hH ?_
  have hD : va_D A [(h, .inr (4, [.ref hv, .int 0, .int fa, .int nu]))] := hD
  obtain ⟨locs, hlo⟩ : ∃ z : List Loc, z = [] := ⟨_, rfl⟩
  rw [← hlo] at hS ⊢
  clear hlo hH hAe hD0
  refine lv_aload_n hx₀ hb dX9_readAgain_0 rfl (lv_at hl 0 rfl) ?_
  refine lv_iconst (v := (-1)) hx₀ hb dX9_readAgain_1 (by decide +kernel) ?_
  refine va_put (D := (dC, dI)) (ci := 4) (v := .int (-1)) (ty := .int) (C := RX4) (T := TX4) (N := 4) hx₀ hb hts inlX4 tyX4 tyX4_ok nmX4 hown hK hP hD hS 0 rfl rfl 2 (by decide) (hts (.fieldLink RX9 9 "BittenStick$Text" "faultAt" "I") wd_60) (fun _ h9 => h9) rfl (by decide +kernel) rfl rfl (Nat.le_of_ble_eq_true rfl) dX9_readAgain_2 (fun H locs hP hD hS => ?_)
  have hP : va_P (dC, dI) vwCl [(h, .inr (4, [.ref hv, .int 0, .int (-1), .int nu]))] H := hP
  have hD : va_D A [(h, .inr (4, [.ref hv, .int 0, .int (-1), .int nu]))] := hD
  refine lv_iconst (v := 0) hx₀ hb dX9_readAgain_5 (by decide +kernel) ?_
  refine lv_istore_n (lv' := [(1, .int 0), (0, .ref h)]) hx₀ hb dX9_readAgain_6 rfl hl (by decide) rfl (fun ls hl => ?_)
  refine lv_iload_n hx₀ hb dX9_readAgain_7 rfl (lv_at hl 0 rfl) ?_
  refine lv_aload_n hx₀ hb dX9_readAgain_8 rfl (lv_at hl 1 rfl) ?_
  refine va_get (D := (dC, dI)) (ci := 4) (v := .int 0) (C := RX4) (T := TX4) (N := 4) hx₀ hb hts inlX4 hown hK hP 0 rfl rfl 1 (by decide) (hts (.fieldLink RX9 25 "BittenStick$Text" "length" "I") wd_147) (fun _ h9 => h9) rfl dX9_readAgain_9 ?_
  refine lv_icmp_ge (tgt := 43) hx₀ hb dX9_readAgain_12 (by decide) (fun _ => ?_) (fun c9 => absurd (by decide +kernel) c9)
  refine lv_aload_n hx₀ hb dX9_readAgain_43 rfl (lv_at hl 1 rfl) ?_
  refine lv_aload_n hx₀ hb dX9_readAgain_44 rfl (lv_at hl 1 rfl) ?_
  refine va_get (D := (dC, dI)) (ci := 4) (v := .int 0) (C := RX4) (T := TX4) (N := 4) hx₀ hb hts inlX4 hown hK hP 0 rfl rfl 1 (by decide) (hts (.fieldLink RX9 25 "BittenStick$Text" "length" "I") wd_147) (fun _ h9 => h9) rfl dX9_readAgain_45 ?_
  have hPc := hP.sub (ws' := [(h, .inr (4, [.ref hv, .int 0, .int (-1), .int nu]))]) [0] rfl
  have hDc := hD.sub (ws' := [(h, .inr (4, [.ref hv, .int 0, .int (-1), .int nu]))]) [0] (by decide) rfl
  have hFc := va_free (wc := [(h, .inr (4, [.ref hv, .int 0, .int (-1), .int nu]))]) hD hS hA [0] rfl
  refine va_calli (va_runU (As := [.int 0]) (rest := []) ⟨hx₀, hb, hml, hown, hts⟩ (c_things0_X4 l dC dI cI cJ cQ H.size h hv 0 (-1) nu) (va_cwA 1 hts (kGU wd_189 wd_182 wd_183 wd_187 wd_188 wd_14) rfl rfl rfl hN.2.1 (by decide +kernel) ⟨Nat.le_of_ble_eq_true rfl, Nat.le_of_ble_eq_true rfl⟩) (k_preV (ci := 4) (q0 := 0) hK hPc hDc hN rfl rfl) rfl rfl hl.1 rfl (lv_room (Nat.le_of_ble_eq_true rfl)) dX9_readAgain_48 ⟨by decide +kernel, by decide +kernel⟩) hS (fun q _ h => hFc q h) hFc (fun r_1 u₀ t₀ H1 locs ht hvm hw hB hz1 hk1 hS => ?_)
  obtain ⟨hP1, hK1, hD1⟩ := hB
  rw [ht] at hP1
  obtain ⟨hP, hD⟩ := va_join (wr := []) (w1 := [(h, .inr (4, [.ref hv, .int 0, .int (-1), .int nu]))]) hP hD [0] [] rfl rfl (by decide) (by decide) hk1 hFc hP1 hD1
  generalize H1 = H at hP hS ⊢
  have hP : va_P (dC, dI) vwCl [(h, .inr (4, [.ref hv, .int 0, .int (-1), .int nu]))] H := hP
  have hD : va_D A [(h, .inr (4, [.ref hv, .int 0, .int (-1), .int nu]))] := hD
  try dsimp only at hw
  refine k_topi (v := 0) hw ?_
  refine lv_istore_n (lv' := [(1, .int 0), (0, .ref h)]) hx₀ hb dX9_readAgain_51 rfl hl (by decide) rfl (fun ls hl => ?_)
  refine lv_aload_n hx₀ hb dX9_readAgain_52 rfl (lv_at hl 1 rfl) ?_
  refine va_get (D := (dC, dI)) (ci := 4) (v := .int (-1)) (C := RX4) (T := TX4) (N := 4) hx₀ hb hts inlX4 hown hK hP 0 rfl rfl 2 (by decide) (hts (.fieldLink RX9 9 "BittenStick$Text" "faultAt" "I") wd_60) (fun _ h9 => h9) rfl dX9_readAgain_53 ?_
  refine lv_iconst (v := (-1)) hx₀ hb dX9_readAgain_56 (by decide +kernel) ?_
  refine lv_icmp_ne (tgt := 73) hx₀ hb dX9_readAgain_57 (by decide) (fun c9 => absurd (by decide +kernel) c9) (fun _ => ?_)
  refine lv_iload_n hx₀ hb dX9_readAgain_60 rfl (lv_at hl 0 rfl) ?_
  refine lv_iconst (v := (-1)) hx₀ hb dX9_readAgain_61 (by decide +kernel) ?_
  refine lv_icmp_ne (tgt := 73) hx₀ hb dX9_readAgain_62 (by decide) (fun _ => ?_) (fun c9 => absurd c9 (by decide +kernel))
  refine lv_aload_n hx₀ hb dX9_readAgain_73 rfl (lv_at hl 1 rfl) ?_
  refine lv_aload_n hx₀ hb dX9_readAgain_74 rfl (lv_at hl 1 rfl) ?_
  refine va_get (D := (dC, dI)) (ci := 4) (v := .int (-1)) (C := RX4) (T := TX4) (N := 4) hx₀ hb hts inlX4 hown hK hP 0 rfl rfl 2 (by decide) (hts (.fieldLink RX9 9 "BittenStick$Text" "faultAt" "I") wd_60) (fun _ h9 => h9) rfl dX9_readAgain_75 ?_
  refine lv_iconst (v := (-1)) hx₀ hb dX9_readAgain_78 (by decide +kernel) ?_
  refine lv_icmp_ne (tgt := 86) hx₀ hb dX9_readAgain_79 (by decide) (fun c9 => absurd (by decide +kernel) c9) (fun _ => ?_)
  refine lv_iload_n hx₀ hb dX9_readAgain_82 rfl (lv_at hl 0 rfl) ?_
  refine lv_goto (tgt := 87) hx₀ hb dX9_readAgain_83 (by decide) ?_
  refine va_put (D := (dC, dI)) (ci := 4) (v := .int 0) (ty := .int) (C := RX4) (T := TX4) (N := 4) hx₀ hb hts inlX4 tyX4 tyX4_ok nmX4 hown hK hP hD hS 0 rfl rfl 3 (by decide) (hts (.fieldLink RX9 37 "BittenStick$Text" "number" "I") wd_174) (fun _ h9 => h9) rfl (by decide +kernel) rfl rfl (Nat.le_of_ble_eq_true rfl) dX9_readAgain_87 (fun H locs hP hD hS => ?_)
  have hP : va_P (dC, dI) vwCl [(h, .inr (4, [.ref hv, .int 0, .int (-1), .int 0]))] H := hP
  have hD : va_D A [(h, .inr (4, [.ref hv, .int 0, .int (-1), .int 0]))] := hD
  have hP9 := hP.sub (ws' := [(h, .inr (4, [.ref hv, .int 0, .int (-1), .int 0]))]) [0] rfl
  have hD9 := hD.sub (ws' := [(h, .inr (4, [.ref hv, .int 0, .int (-1), .int 0]))]) [0] (by decide) rfl
  exact W.vret hx₀ hb hr (fun t₀ ht hW => ⟨⟨(), rfl, trivial, by rw [ht]; exact hP9, va_K.moved hW.alike hK, hD9⟩, hS.F ht⟩) hS.2.2 dX9_readAgain_90
theorem lf_c_again1_X4_1  (c9 : ¬ (0 ≤ (0 : Int32) ∧ (0 : Int32) < 24)) : False := by
  (first | omega | (simp only [Int64.le_iff_toInt_le, Int64.lt_iff_toInt_lt, Int32.le_iff_toInt_le, Int32.lt_iff_toInt_lt, ← Int32.toInt_inj, ← Int64.toInt_inj, Int32.toInt_toInt64, (show (0 : Int32).toInt = 0 from by decide), (show (0 : Int64).toInt = 0 from by decide), (show (24 : Int32).toInt = 24 from by decide), (show (24 : Int64).toInt = 24 from by decide)] at *; omega))
set_option maxHeartbeats 4000000 in
set_option maxRecDepth 100000 in
theorem c_again1_X4 (l : Launch) (dC : Nat → ClassId) (dI : Nat → Nat → Nat) (cI cJ cQ : ClassId) (sz : Nat) (h : Nat) (hv : Nat) (fa : Int32) (nu : Int32) (f : Nat → Int32) : Met l yX9_readAgain (kW yX9_readAgain cX9_readAgain 2 none) { frames := 1, cells := 0, slots := 0, locals := 21 } (kPre dC dI cI cJ cQ sz [.ref h] [(h, .inr (4, [.ref hv, .int 1, .int fa, .int nu])), (hv, .inl (cI, 24, .inl f))]) (va_Qv (fun (_ : Int32 × Int32) => True) (fun (u : Int32 × Int32) t₀ => kB dC dI cI cJ cQ (va_A [(h, .inr (4, [.ref hv, .int 1, .int fa, .int nu])), (hv, .inl (cI, 24, .inl f))] sz) [(h, .inr (4, [.ref hv, .int 1, .int u.1, .int u.2]))] t₀) (va_A [(h, .inr (4, [.ref hv, .int 1, .int fa, .int nu])), (hv, .inl (cI, 24, .inl f))] sz)) 0 0 (va_A [(h, .inr (4, [.ref hv, .int 1, .int fa, .int nu])), (hv, .inl (cI, 24, .inl f))] sz) := by
  refine Met.ofW (cc := cX9_readAgain) (maxL := 2) (ret := none) (by decide) rfl ?_
  intro p₀ e₀ s₀ m₀ args below meth c₀ s₁ B hml hv₀
  obtain ⟨rfl, hsz, hP, hK, hD0, hN⟩ := hv₀
  have hx₀ := B.exec
  have hb := B.bytes
  have hr := B.returns
  have hts := atoms_spec (ws := (kW yX9_readAgain cX9_readAgain 2 none)) B.pre
  have hts := fun w h => hts w (List.mem_cons_of_mem _ h)
  have hown : s₀.vm.findClass RX9 = some m₀.cls := findClass_of_methodNamed B.named
  have hlocks := B.notSynchronized
  subst hsz
  have hD := hD0.self (sz := s₀.heap.size)
  generalize hAe : va_A [(h, .inr (4, [.ref hv, .int 1, .int fa, .int nu])), (hv, .inl (cI, 24, .inl f))] s₀.heap.size = A at hD ⊢
  have hA : ∀ q : Nat, s₀.heap.size ≤ q → A q := fun q h => by rw [← hAe]; exact Or.inr h
  have hS : va_S A s₀.heap s₀.heap [] := va_S.rf
  have hP : va_P (dC, dI) vwCl [(h, .inr (4, [.ref hv, .int 1, .int fa, .int nu])), (hv, .inl (cI, 24, .inl f))] s₀.heap := hP
  have hl := lv_entry ([.ref h]) (n := 2) (Nat.le_of_ble_eq_true rfl)
  rw [lg_entry_eq]
  generalize (lg_sl ([.ref h]) ++ List.replicate (2 - (lg_sl ([.ref h])).length) Slot.unset).toArray = ls at hl ⊢
  have hl : lv_has ls 2 [(0, .ref h)] := hl
  obtain ⟨H, hH⟩ : ∃ z : Heap, z = s₀.heap := ⟨_, rfl⟩
  rw [← hH] at hP
  have hS : va_S A s₀.heap H [] := by rw [hH]; exact hS
  refine k_heap hH ?_
  have hD : va_D A [(h, .inr (4, [.ref hv, .int 1, .int fa, .int nu])), (hv, .inl (cI, 24, .inl f))] := hD
  obtain ⟨locs, hlo⟩ : ∃ z : List Loc, z = [] := ⟨_, rfl⟩
  rw [← hlo] at hS ⊢
  clear hlo hH hAe hD0
  refine lv_aload_n hx₀ hb dX9_readAgain_0 rfl (lv_at hl 0 rfl) ?_
  refine lv_iconst (v := (-1)) hx₀ hb dX9_readAgain_1 (by decide +kernel) ?_
  refine va_put (D := (dC, dI)) (ci := 4) (v := .int (-1)) (ty := .int) (C := RX4) (T := TX4) (N := 4) hx₀ hb hts inlX4 tyX4 tyX4_ok nmX4 hown hK hP hD hS 0 rfl rfl 2 (by decide) (hts (.fieldLink RX9 9 "BittenStick$Text" "faultAt" "I") wd_60) (fun _ h9 => h9) rfl (by decide +kernel) rfl rfl (Nat.le_of_ble_eq_true rfl) dX9_readAgain_2 (fun H locs hP hD hS => ?_)
  have hP : va_P (dC, dI) vwCl [(h, .inr (4, [.ref hv, .int 1, .int (-1), .int nu])), (hv, .inl (cI, 24, .inl f))] H := hP
  have hD : va_D A [(h, .inr (4, [.ref hv, .int 1, .int (-1), .int nu])), (hv, .inl (cI, 24, .inl f))] := hD
  refine lv_iconst (v := 0) hx₀ hb dX9_readAgain_5 (by decide +kernel) ?_
  refine lv_istore_n (lv' := [(1, .int 0), (0, .ref h)]) hx₀ hb dX9_readAgain_6 rfl hl (by decide) rfl (fun ls hl => ?_)
  refine lv_iload_n hx₀ hb dX9_readAgain_7 rfl (lv_at hl 0 rfl) ?_
  refine lv_aload_n hx₀ hb dX9_readAgain_8 rfl (lv_at hl 1 rfl) ?_
  refine va_get (D := (dC, dI)) (ci := 4) (v := .int 1) (C := RX4) (T := TX4) (N := 4) hx₀ hb hts inlX4 hown hK hP 0 rfl rfl 1 (by decide) (hts (.fieldLink RX9 25 "BittenStick$Text" "length" "I") wd_147) (fun _ h9 => h9) rfl dX9_readAgain_9 ?_
  refine lv_icmp_ge (tgt := 43) hx₀ hb dX9_readAgain_12 (by decide) (fun c9 => absurd c9 (by decide +kernel)) (fun _ => ?_)
  refine lv_aload_n hx₀ hb dX9_readAgain_15 rfl (lv_at hl 1 rfl) ?_
  refine va_get (D := (dC, dI)) (ci := 4) (v := .int (-1)) (C := RX4) (T := TX4) (N := 4) hx₀ hb hts inlX4 hown hK hP 0 rfl rfl 2 (by decide) (hts (.fieldLink RX9 9 "BittenStick$Text" "faultAt" "I") wd_60) (fun _ h9 => h9) rfl dX9_readAgain_16 ?_
  refine lv_iconst (v := (-1)) hx₀ hb dX9_readAgain_19 (by decide +kernel) ?_
  refine lv_icmp_ne (tgt := 43) hx₀ hb dX9_readAgain_20 (by decide) (fun c9 => absurd (by decide +kernel) c9) (fun _ => ?_)
  refine lv_aload_n hx₀ hb dX9_readAgain_23 rfl (lv_at hl 1 rfl) ?_
  refine lv_iload_n hx₀ hb dX9_readAgain_24 rfl (lv_at hl 0 rfl) ?_
  have hPc := hP.sub (ws' := [(h, .inr (4, [.ref hv, .int 1, .int (-1), .int nu])), (hv, .inl (cI, 24, .inl f))]) [0, 1] rfl
  have hDc := hD.sub (ws' := [(h, .inr (4, [.ref hv, .int 1, .int (-1), .int nu])), (hv, .inl (cI, 24, .inl f))]) [0, 1] (by decide) rfl
  have hFc := va_free (wc := [(h, .inr (4, [.ref hv, .int 1, .int (-1), .int nu])), (hv, .inl (cI, 24, .inl f))]) hD hS hA [0, 1] rfl
  refine va_calli (va_runU (As := [.int 0]) (rest := []) ⟨hx₀, hb, hml, hown, hts⟩ (c_valueAt_X4 l dC dI cI cJ cQ H.size h 0 hv 1 (-1) nu f) (va_cwU 1 hts (kGU wd_179 wd_175 wd_176 wd_180 wd_178 wd_57) rfl rfl rfl rfl (by decide +kernel) ⟨Nat.le_of_ble_eq_true rfl, Nat.le_of_ble_eq_true rfl⟩) (k_preV (ci := 4) (q0 := 0) hK hPc hDc hN rfl rfl) rfl rfl hl.1 rfl (lv_room (Nat.le_of_ble_eq_true rfl)) dX9_readAgain_25 ⟨by decide +kernel, by decide +kernel⟩) hS (fun q _ h => hFc q h) hFc (fun r_1 u₀ t₀ H1 locs ht hvm hw hB hz1 hk1 hS => ?_)
  obtain ⟨hP1, hK1, hD1⟩ := hB
  rw [ht] at hP1
  obtain ⟨hP, hD⟩ := va_join (wr := []) (w1 := [(h, .inr (4, [.ref hv, .int 1, .int (-1), .int nu])), (hv, .inl (cI, 24, .inl f))]) hP hD [0, 1] [] rfl rfl (by decide) (by decide) hk1 hFc hP1 hD1
  generalize H1 = H at hP hS ⊢
  have hP : va_P (dC, dI) vwCl [(h, .inr (4, [.ref hv, .int 1, .int (-1), .int nu])), (hv, .inl (cI, 24, .inl f))] H := hP
  have hD : va_D A [(h, .inr (4, [.ref hv, .int 1, .int (-1), .int nu])), (hv, .inl (cI, 24, .inl f))] := hD
  try dsimp only at hw
  rw [if_pos (Classical.byContradiction (fun c9 => lf_c_again1_X4_1  c9))] at hw
  refine k_topi (v := f (0 : Int32).toNatClampNeg) hw ?_
  refine lv_iconst (v := (-1)) hx₀ hb dX9_readAgain_28 (by decide +kernel) ?_
  refine lv_icmp_ne (tgt := 37) hx₀ hb dX9_readAgain_29 (by decide) (fun c_3 => ?_) (fun c_3 => ?_)
  · refine lv_iinc (v := 1) (lv' := [(1, .int 1), (0, .ref h)]) hx₀ hb dX9_readAgain_37 hl (k := 0) rfl (by decide +kernel) (by decide) rfl (fun ls hl => ?_)
    refine lv_goto (tgt := 7) hx₀ hb dX9_readAgain_40 (by decide) ?_
    refine lv_iload_n hx₀ hb dX9_readAgain_7 rfl (lv_at hl 0 rfl) ?_
    refine lv_aload_n hx₀ hb dX9_readAgain_8 rfl (lv_at hl 1 rfl) ?_
    refine va_get (D := (dC, dI)) (ci := 4) (v := .int 1) (C := RX4) (T := TX4) (N := 4) hx₀ hb hts inlX4 hown hK hP 0 rfl rfl 1 (by decide) (hts (.fieldLink RX9 25 "BittenStick$Text" "length" "I") wd_147) (fun _ h9 => h9) rfl dX9_readAgain_9 ?_
    refine lv_icmp_ge (tgt := 43) hx₀ hb dX9_readAgain_12 (by decide) (fun _ => ?_) (fun c9 => absurd (by decide +kernel) c9)
    refine lv_aload_n hx₀ hb dX9_readAgain_43 rfl (lv_at hl 1 rfl) ?_
    refine lv_aload_n hx₀ hb dX9_readAgain_44 rfl (lv_at hl 1 rfl) ?_
    refine va_get (D := (dC, dI)) (ci := 4) (v := .int 1) (C := RX4) (T := TX4) (N := 4) hx₀ hb hts inlX4 hown hK hP 0 rfl rfl 1 (by decide) (hts (.fieldLink RX9 25 "BittenStick$Text" "length" "I") wd_147) (fun _ h9 => h9) rfl dX9_readAgain_45 ?_
    have hPc := hP.sub (ws' := [(h, .inr (4, [.ref hv, .int 1, .int (-1), .int nu]))]) [0] rfl
    have hDc := hD.sub (ws' := [(h, .inr (4, [.ref hv, .int 1, .int (-1), .int nu]))]) [0] (by decide) rfl
    have hFc := va_free (wc := [(h, .inr (4, [.ref hv, .int 1, .int (-1), .int nu]))]) hD hS hA [0] rfl
    refine va_calli (va_runU (As := [.int 1]) (rest := []) ⟨hx₀, hb, hml, hown, hts⟩ (c_things1_X4 l dC dI cI cJ cQ H.size h hv 1 (-1) nu) (va_cwA 1 hts (kGU wd_189 wd_182 wd_183 wd_187 wd_188 wd_14) rfl rfl rfl hN.2.1 (by decide +kernel) ⟨Nat.le_of_ble_eq_true rfl, Nat.le_of_ble_eq_true rfl⟩) (k_preV (ci := 4) (q0 := 0) hK hPc hDc hN rfl rfl) rfl rfl hl.1 rfl (lv_room (Nat.le_of_ble_eq_true rfl)) dX9_readAgain_48 ⟨by decide +kernel, by decide +kernel⟩) hS (fun q _ h => hFc q h) hFc (fun r_4 u₀ t₀ H1 locs ht hvm hw hB hz1 hk1 hS => ?_)
    obtain ⟨hP1, hK1, hD1⟩ := hB
    rw [ht] at hP1
    obtain ⟨hP, hD⟩ := va_join (wr := [(hv, .inl (cI, 24, .inl f))]) (w1 := [(h, .inr (4, [.ref hv, .int 1, .int (-1), .int nu]))]) hP hD [0] [1] rfl rfl (by decide) (by decide) hk1 hFc hP1 hD1
    generalize H1 = H at hP hS ⊢
    have hP : va_P (dC, dI) vwCl [(hv, .inl (cI, 24, .inl f)), (h, .inr (4, [.ref hv, .int 1, .int (-1), .int nu]))] H := hP
    have hD : va_D A [(hv, .inl (cI, 24, .inl f)), (h, .inr (4, [.ref hv, .int 1, .int (-1), .int nu]))] := hD
    try dsimp only at hw
    refine k_topi (v := 1) hw ?_
    refine lv_istore_n (lv' := [(1, .int 1), (0, .ref h)]) hx₀ hb dX9_readAgain_51 rfl hl (by decide) rfl (fun ls hl => ?_)
    refine lv_aload_n hx₀ hb dX9_readAgain_52 rfl (lv_at hl 1 rfl) ?_
    refine va_get (D := (dC, dI)) (ci := 4) (v := .int (-1)) (C := RX4) (T := TX4) (N := 4) hx₀ hb hts inlX4 hown hK hP 1 rfl rfl 2 (by decide) (hts (.fieldLink RX9 9 "BittenStick$Text" "faultAt" "I") wd_60) (fun _ h9 => h9) rfl dX9_readAgain_53 ?_
    refine lv_iconst (v := (-1)) hx₀ hb dX9_readAgain_56 (by decide +kernel) ?_
    refine lv_icmp_ne (tgt := 73) hx₀ hb dX9_readAgain_57 (by decide) (fun c9 => absurd (by decide +kernel) c9) (fun _ => ?_)
    refine lv_iload_n hx₀ hb dX9_readAgain_60 rfl (lv_at hl 0 rfl) ?_
    refine lv_iconst (v := (-1)) hx₀ hb dX9_readAgain_61 (by decide +kernel) ?_
    refine lv_icmp_ne (tgt := 73) hx₀ hb dX9_readAgain_62 (by decide) (fun _ => ?_) (fun c9 => absurd c9 (by decide +kernel))
    refine lv_aload_n hx₀ hb dX9_readAgain_73 rfl (lv_at hl 1 rfl) ?_
    refine lv_aload_n hx₀ hb dX9_readAgain_74 rfl (lv_at hl 1 rfl) ?_
    refine va_get (D := (dC, dI)) (ci := 4) (v := .int (-1)) (C := RX4) (T := TX4) (N := 4) hx₀ hb hts inlX4 hown hK hP 1 rfl rfl 2 (by decide) (hts (.fieldLink RX9 9 "BittenStick$Text" "faultAt" "I") wd_60) (fun _ h9 => h9) rfl dX9_readAgain_75 ?_
    refine lv_iconst (v := (-1)) hx₀ hb dX9_readAgain_78 (by decide +kernel) ?_
    refine lv_icmp_ne (tgt := 86) hx₀ hb dX9_readAgain_79 (by decide) (fun c9 => absurd (by decide +kernel) c9) (fun _ => ?_)
    refine lv_iload_n hx₀ hb dX9_readAgain_82 rfl (lv_at hl 0 rfl) ?_
    refine lv_goto (tgt := 87) hx₀ hb dX9_readAgain_83 (by decide) ?_
    refine va_put (D := (dC, dI)) (ci := 4) (v := .int 1) (ty := .int) (C := RX4) (T := TX4) (N := 4) hx₀ hb hts inlX4 tyX4 tyX4_ok nmX4 hown hK hP hD hS 1 rfl rfl 3 (by decide) (hts (.fieldLink RX9 37 "BittenStick$Text" "number" "I") wd_174) (fun _ h9 => h9) rfl (by decide +kernel) rfl rfl (Nat.le_of_ble_eq_true rfl) dX9_readAgain_87 (fun H locs hP hD hS => ?_)
    have hP : va_P (dC, dI) vwCl [(hv, .inl (cI, 24, .inl f)), (h, .inr (4, [.ref hv, .int 1, .int (-1), .int 1]))] H := hP
    have hD : va_D A [(hv, .inl (cI, 24, .inl f)), (h, .inr (4, [.ref hv, .int 1, .int (-1), .int 1]))] := hD
    have hP9 := hP.sub (ws' := [(h, .inr (4, [.ref hv, .int 1, .int (-1), .int 1]))]) [1] rfl
    have hD9 := hD.sub (ws' := [(h, .inr (4, [.ref hv, .int 1, .int (-1), .int 1]))]) [1] (by decide) rfl
    exact W.vret hx₀ hb hr (fun t₀ ht hW => ⟨⟨((-1), 1), rfl, trivial, by rw [ht]; exact hP9, va_K.moved hW.alike hK, hD9⟩, hS.F ht⟩) hS.2.2 dX9_readAgain_90
  · refine lv_aload_n hx₀ hb dX9_readAgain_32 rfl (lv_at hl 1 rfl) ?_
    refine lv_iload_n hx₀ hb dX9_readAgain_33 rfl (lv_at hl 0 rfl) ?_
    refine va_put (D := (dC, dI)) (ci := 4) (v := .int 0) (ty := .int) (C := RX4) (T := TX4) (N := 4) hx₀ hb hts inlX4 tyX4 tyX4_ok nmX4 hown hK hP hD hS 0 rfl rfl 2 (by decide) (hts (.fieldLink RX9 9 "BittenStick$Text" "faultAt" "I") wd_60) (fun _ h9 => h9) rfl (by decide +kernel) rfl rfl (Nat.le_of_ble_eq_true rfl) dX9_readAgain_34 (fun H locs hP hD hS => ?_)
    have hP : va_P (dC, dI) vwCl [(h, .inr (4, [.ref hv, .int 1, .int 0, .int nu])), (hv, .inl (cI, 24, .inl f))] H := hP
    have hD : va_D A [(h, .inr (4, [.ref hv, .int 1, .int 0, .int nu])), (hv, .inl (cI, 24, .inl f))] := hD
    refine lv_iinc (v := 1) (lv' := [(1, .int 1), (0, .ref h)]) hx₀ hb dX9_readAgain_37 hl (k := 0) rfl (by decide +kernel) (by decide) rfl (fun ls hl => ?_)
    refine lv_goto (tgt := 7) hx₀ hb dX9_readAgain_40 (by decide) ?_
    refine lv_iload_n hx₀ hb dX9_readAgain_7 rfl (lv_at hl 0 rfl) ?_
    refine lv_aload_n hx₀ hb dX9_readAgain_8 rfl (lv_at hl 1 rfl) ?_
    refine va_get (D := (dC, dI)) (ci := 4) (v := .int 1) (C := RX4) (T := TX4) (N := 4) hx₀ hb hts inlX4 hown hK hP 0 rfl rfl 1 (by decide) (hts (.fieldLink RX9 25 "BittenStick$Text" "length" "I") wd_147) (fun _ h9 => h9) rfl dX9_readAgain_9 ?_
    refine lv_icmp_ge (tgt := 43) hx₀ hb dX9_readAgain_12 (by decide) (fun _ => ?_) (fun c9 => absurd (by decide +kernel) c9)
    refine lv_aload_n hx₀ hb dX9_readAgain_43 rfl (lv_at hl 1 rfl) ?_
    refine lv_aload_n hx₀ hb dX9_readAgain_44 rfl (lv_at hl 1 rfl) ?_
    refine va_get (D := (dC, dI)) (ci := 4) (v := .int 1) (C := RX4) (T := TX4) (N := 4) hx₀ hb hts inlX4 hown hK hP 0 rfl rfl 1 (by decide) (hts (.fieldLink RX9 25 "BittenStick$Text" "length" "I") wd_147) (fun _ h9 => h9) rfl dX9_readAgain_45 ?_
    have hPc := hP.sub (ws' := [(h, .inr (4, [.ref hv, .int 1, .int 0, .int nu]))]) [0] rfl
    have hDc := hD.sub (ws' := [(h, .inr (4, [.ref hv, .int 1, .int 0, .int nu]))]) [0] (by decide) rfl
    have hFc := va_free (wc := [(h, .inr (4, [.ref hv, .int 1, .int 0, .int nu]))]) hD hS hA [0] rfl
    refine va_calli (va_runU (As := [.int 1]) (rest := []) ⟨hx₀, hb, hml, hown, hts⟩ (c_things1_X4 l dC dI cI cJ cQ H.size h hv 1 0 nu) (va_cwA 1 hts (kGU wd_189 wd_182 wd_183 wd_187 wd_188 wd_14) rfl rfl rfl hN.2.1 (by decide +kernel) ⟨Nat.le_of_ble_eq_true rfl, Nat.le_of_ble_eq_true rfl⟩) (k_preV (ci := 4) (q0 := 0) hK hPc hDc hN rfl rfl) rfl rfl hl.1 rfl (lv_room (Nat.le_of_ble_eq_true rfl)) dX9_readAgain_48 ⟨by decide +kernel, by decide +kernel⟩) hS (fun q _ h => hFc q h) hFc (fun r_5 u₀ t₀ H1 locs ht hvm hw hB hz1 hk1 hS => ?_)
    obtain ⟨hP1, hK1, hD1⟩ := hB
    rw [ht] at hP1
    obtain ⟨hP, hD⟩ := va_join (wr := [(hv, .inl (cI, 24, .inl f))]) (w1 := [(h, .inr (4, [.ref hv, .int 1, .int 0, .int nu]))]) hP hD [0] [1] rfl rfl (by decide) (by decide) hk1 hFc hP1 hD1
    generalize H1 = H at hP hS ⊢
    have hP : va_P (dC, dI) vwCl [(hv, .inl (cI, 24, .inl f)), (h, .inr (4, [.ref hv, .int 1, .int 0, .int nu]))] H := hP
    have hD : va_D A [(hv, .inl (cI, 24, .inl f)), (h, .inr (4, [.ref hv, .int 1, .int 0, .int nu]))] := hD
    try dsimp only at hw
    refine k_topi (v := 1) hw ?_
    refine lv_istore_n (lv' := [(1, .int 1), (0, .ref h)]) hx₀ hb dX9_readAgain_51 rfl hl (by decide) rfl (fun ls hl => ?_)
    refine lv_aload_n hx₀ hb dX9_readAgain_52 rfl (lv_at hl 1 rfl) ?_
    refine va_get (D := (dC, dI)) (ci := 4) (v := .int 0) (C := RX4) (T := TX4) (N := 4) hx₀ hb hts inlX4 hown hK hP 1 rfl rfl 2 (by decide) (hts (.fieldLink RX9 9 "BittenStick$Text" "faultAt" "I") wd_60) (fun _ h9 => h9) rfl dX9_readAgain_53 ?_
    refine lv_iconst (v := (-1)) hx₀ hb dX9_readAgain_56 (by decide +kernel) ?_
    refine lv_icmp_ne (tgt := 73) hx₀ hb dX9_readAgain_57 (by decide) (fun _ => ?_) (fun c9 => absurd c9 (by decide +kernel))
    refine lv_aload_n hx₀ hb dX9_readAgain_73 rfl (lv_at hl 1 rfl) ?_
    refine lv_aload_n hx₀ hb dX9_readAgain_74 rfl (lv_at hl 1 rfl) ?_
    refine va_get (D := (dC, dI)) (ci := 4) (v := .int 0) (C := RX4) (T := TX4) (N := 4) hx₀ hb hts inlX4 hown hK hP 1 rfl rfl 2 (by decide) (hts (.fieldLink RX9 9 "BittenStick$Text" "faultAt" "I") wd_60) (fun _ h9 => h9) rfl dX9_readAgain_75 ?_
    refine lv_iconst (v := (-1)) hx₀ hb dX9_readAgain_78 (by decide +kernel) ?_
    refine lv_icmp_ne (tgt := 86) hx₀ hb dX9_readAgain_79 (by decide) (fun _ => ?_) (fun c9 => absurd c9 (by decide +kernel))
    refine lv_iconst (v := 0) hx₀ hb dX9_readAgain_86 (by decide +kernel) ?_
    refine va_put (D := (dC, dI)) (ci := 4) (v := .int 0) (ty := .int) (C := RX4) (T := TX4) (N := 4) hx₀ hb hts inlX4 tyX4 tyX4_ok nmX4 hown hK hP hD hS 1 rfl rfl 3 (by decide) (hts (.fieldLink RX9 37 "BittenStick$Text" "number" "I") wd_174) (fun _ h9 => h9) rfl (by decide +kernel) rfl rfl (Nat.le_of_ble_eq_true rfl) dX9_readAgain_87 (fun H locs hP hD hS => ?_)
    have hP : va_P (dC, dI) vwCl [(hv, .inl (cI, 24, .inl f)), (h, .inr (4, [.ref hv, .int 1, .int 0, .int 0]))] H := hP
    have hD : va_D A [(hv, .inl (cI, 24, .inl f)), (h, .inr (4, [.ref hv, .int 1, .int 0, .int 0]))] := hD
    have hP9 := hP.sub (ws' := [(h, .inr (4, [.ref hv, .int 1, .int 0, .int 0]))]) [1] rfl
    have hD9 := hD.sub (ws' := [(h, .inr (4, [.ref hv, .int 1, .int 0, .int 0]))]) [1] (by decide) rfl
    exact W.vret hx₀ hb hr (fun t₀ ht hW => ⟨⟨(0, 0), rfl, trivial, by rw [ht]; exact hP9, va_K.moved hW.alike hK, hD9⟩, hS.F ht⟩) hS.2.2 dX9_readAgain_90
set_option maxHeartbeats 4000000 in
set_option maxRecDepth 100000 in
theorem c_again0_X7 (l : Launch) (dC : Nat → ClassId) (dI : Nat → Nat → Nat) (cI cJ cQ : ClassId) (sz : Nat) (h : Nat) (hv : Nat) (fa : Int32) (nu : Int32) : Met l yX9_readAgain (kW yX9_readAgain cX9_readAgain 2 none) { frames := 1, cells := 0, slots := 0, locals := 21 } (kPre dC dI cI cJ cQ sz [.ref h] [(h, .inr (7, [.ref hv, .int 0, .int fa, .int nu]))]) (va_Qv (fun (_ : Unit) => True) (fun _ t₀ => kB dC dI cI cJ cQ (va_A [(h, .inr (7, [.ref hv, .int 0, .int fa, .int nu]))] sz) [(h, .inr (7, [.ref hv, .int 0, .int (-1), .int 0]))] t₀) (va_A [(h, .inr (7, [.ref hv, .int 0, .int fa, .int nu]))] sz)) 0 0 (va_A [(h, .inr (7, [.ref hv, .int 0, .int fa, .int nu]))] sz) := by
  refine Met.ofW (cc := cX9_readAgain) (maxL := 2) (ret := none) (by decide) rfl ?_
  intro p₀ e₀ s₀ m₀ args below meth c₀ s₁ B hml hv₀
  obtain ⟨rfl, hsz, hP, hK, hD0, hN⟩ := hv₀
  have hx₀ := B.exec
  have hb := B.bytes
  have hr := B.returns
  have hts := atoms_spec (ws := (kW yX9_readAgain cX9_readAgain 2 none)) B.pre
  have hts := fun w h => hts w (List.mem_cons_of_mem _ h)
  have hown : s₀.vm.findClass RX9 = some m₀.cls := findClass_of_methodNamed B.named
  have hlocks := B.notSynchronized
  subst hsz
  have hD := hD0.self (sz := s₀.heap.size)
  generalize hAe : va_A [(h, .inr (7, [.ref hv, .int 0, .int fa, .int nu]))] s₀.heap.size = A at hD ⊢
  have hA : ∀ q : Nat, s₀.heap.size ≤ q → A q := fun q h => by rw [← hAe]; exact Or.inr h
  have hS : va_S A s₀.heap s₀.heap [] := va_S.rf
  have hP : va_P (dC, dI) vwCl [(h, .inr (7, [.ref hv, .int 0, .int fa, .int nu]))] s₀.heap := hP
  have hl := lv_entry ([.ref h]) (n := 2) (Nat.le_of_ble_eq_true rfl)
  rw [lg_entry_eq]
  generalize (lg_sl ([.ref h]) ++ List.replicate (2 - (lg_sl ([.ref h])).length) Slot.unset).toArray = ls at hl ⊢
  have hl : lv_has ls 2 [(0, .ref h)] := hl
  obtain ⟨H, hH⟩ : ∃ z : Heap, z = s₀.heap := ⟨_, rfl⟩
  rw [← hH] at hP
  have hS : va_S A s₀.heap H [] := by rw [hH]; exact hS
  refine k_heap hH ?_
  have hD : va_D A [(h, .inr (7, [.ref hv, .int 0, .int fa, .int nu]))] := hD
  obtain ⟨locs, hlo⟩ : ∃ z : List Loc, z = [] := ⟨_, rfl⟩
  rw [← hlo] at hS ⊢
  clear hlo hH hAe hD0
  refine lv_aload_n hx₀ hb dX9_readAgain_0 rfl (lv_at hl 0 rfl) ?_
  refine lv_iconst (v := (-1)) hx₀ hb dX9_readAgain_1 (by decide +kernel) ?_
  refine va_put (D := (dC, dI)) (ci := 7) (v := .int (-1)) (ty := .int) (C := RX7) (T := TX7) (N := 4) hx₀ hb hts inlX7 tyX7 tyX7_ok nmX7 hown hK hP hD hS 0 rfl rfl 2 (by decide) (hts (.fieldLink RX9 9 "BittenStick$Text" "faultAt" "I") wd_60) (fun _ h9 => h9) rfl (by decide +kernel) rfl rfl (Nat.le_of_ble_eq_true rfl) dX9_readAgain_2 (fun H locs hP hD hS => ?_)
  have hP : va_P (dC, dI) vwCl [(h, .inr (7, [.ref hv, .int 0, .int (-1), .int nu]))] H := hP
  have hD : va_D A [(h, .inr (7, [.ref hv, .int 0, .int (-1), .int nu]))] := hD
  refine lv_iconst (v := 0) hx₀ hb dX9_readAgain_5 (by decide +kernel) ?_
  refine lv_istore_n (lv' := [(1, .int 0), (0, .ref h)]) hx₀ hb dX9_readAgain_6 rfl hl (by decide) rfl (fun ls hl => ?_)
  refine lv_iload_n hx₀ hb dX9_readAgain_7 rfl (lv_at hl 0 rfl) ?_
  refine lv_aload_n hx₀ hb dX9_readAgain_8 rfl (lv_at hl 1 rfl) ?_
  refine va_get (D := (dC, dI)) (ci := 7) (v := .int 0) (C := RX7) (T := TX7) (N := 4) hx₀ hb hts inlX7 hown hK hP 0 rfl rfl 1 (by decide) (hts (.fieldLink RX9 25 "BittenStick$Text" "length" "I") wd_147) (fun _ h9 => h9) rfl dX9_readAgain_9 ?_
  refine lv_icmp_ge (tgt := 43) hx₀ hb dX9_readAgain_12 (by decide) (fun _ => ?_) (fun c9 => absurd (by decide +kernel) c9)
  refine lv_aload_n hx₀ hb dX9_readAgain_43 rfl (lv_at hl 1 rfl) ?_
  refine lv_aload_n hx₀ hb dX9_readAgain_44 rfl (lv_at hl 1 rfl) ?_
  refine va_get (D := (dC, dI)) (ci := 7) (v := .int 0) (C := RX7) (T := TX7) (N := 4) hx₀ hb hts inlX7 hown hK hP 0 rfl rfl 1 (by decide) (hts (.fieldLink RX9 25 "BittenStick$Text" "length" "I") wd_147) (fun _ h9 => h9) rfl dX9_readAgain_45 ?_
  have hPc := hP.sub (ws' := [(h, .inr (7, [.ref hv, .int 0, .int (-1), .int nu]))]) [0] rfl
  have hDc := hD.sub (ws' := [(h, .inr (7, [.ref hv, .int 0, .int (-1), .int nu]))]) [0] (by decide) rfl
  have hFc := va_free (wc := [(h, .inr (7, [.ref hv, .int 0, .int (-1), .int nu]))]) hD hS hA [0] rfl
  refine va_calli (va_runU (As := [.int 0]) (rest := []) ⟨hx₀, hb, hml, hown, hts⟩ (c_things0_X7 l dC dI cI cJ cQ H.size h hv 0 (-1) nu) (va_cwA 1 hts (kGU wd_192 wd_182 wd_183 wd_190 wd_191 wd_18) rfl rfl rfl hN.2.1 (by decide +kernel) ⟨Nat.le_of_ble_eq_true rfl, Nat.le_of_ble_eq_true rfl⟩) (k_preV (ci := 7) (q0 := 0) hK hPc hDc hN rfl rfl) rfl rfl hl.1 rfl (lv_room (Nat.le_of_ble_eq_true rfl)) dX9_readAgain_48 ⟨by decide +kernel, by decide +kernel⟩) hS (fun q _ h => hFc q h) hFc (fun r_1 u₀ t₀ H1 locs ht hvm hw hB hz1 hk1 hS => ?_)
  obtain ⟨hP1, hK1, hD1⟩ := hB
  rw [ht] at hP1
  obtain ⟨hP, hD⟩ := va_join (wr := []) (w1 := [(h, .inr (7, [.ref hv, .int 0, .int (-1), .int nu]))]) hP hD [0] [] rfl rfl (by decide) (by decide) hk1 hFc hP1 hD1
  generalize H1 = H at hP hS ⊢
  have hP : va_P (dC, dI) vwCl [(h, .inr (7, [.ref hv, .int 0, .int (-1), .int nu]))] H := hP
  have hD : va_D A [(h, .inr (7, [.ref hv, .int 0, .int (-1), .int nu]))] := hD
  try dsimp only at hw
  refine k_topi (v := 0) hw ?_
  refine lv_istore_n (lv' := [(1, .int 0), (0, .ref h)]) hx₀ hb dX9_readAgain_51 rfl hl (by decide) rfl (fun ls hl => ?_)
  refine lv_aload_n hx₀ hb dX9_readAgain_52 rfl (lv_at hl 1 rfl) ?_
  refine va_get (D := (dC, dI)) (ci := 7) (v := .int (-1)) (C := RX7) (T := TX7) (N := 4) hx₀ hb hts inlX7 hown hK hP 0 rfl rfl 2 (by decide) (hts (.fieldLink RX9 9 "BittenStick$Text" "faultAt" "I") wd_60) (fun _ h9 => h9) rfl dX9_readAgain_53 ?_
  refine lv_iconst (v := (-1)) hx₀ hb dX9_readAgain_56 (by decide +kernel) ?_
  refine lv_icmp_ne (tgt := 73) hx₀ hb dX9_readAgain_57 (by decide) (fun c9 => absurd (by decide +kernel) c9) (fun _ => ?_)
  refine lv_iload_n hx₀ hb dX9_readAgain_60 rfl (lv_at hl 0 rfl) ?_
  refine lv_iconst (v := (-1)) hx₀ hb dX9_readAgain_61 (by decide +kernel) ?_
  refine lv_icmp_ne (tgt := 73) hx₀ hb dX9_readAgain_62 (by decide) (fun _ => ?_) (fun c9 => absurd c9 (by decide +kernel))
  refine lv_aload_n hx₀ hb dX9_readAgain_73 rfl (lv_at hl 1 rfl) ?_
  refine lv_aload_n hx₀ hb dX9_readAgain_74 rfl (lv_at hl 1 rfl) ?_
  refine va_get (D := (dC, dI)) (ci := 7) (v := .int (-1)) (C := RX7) (T := TX7) (N := 4) hx₀ hb hts inlX7 hown hK hP 0 rfl rfl 2 (by decide) (hts (.fieldLink RX9 9 "BittenStick$Text" "faultAt" "I") wd_60) (fun _ h9 => h9) rfl dX9_readAgain_75 ?_
  refine lv_iconst (v := (-1)) hx₀ hb dX9_readAgain_78 (by decide +kernel) ?_
  refine lv_icmp_ne (tgt := 86) hx₀ hb dX9_readAgain_79 (by decide) (fun c9 => absurd (by decide +kernel) c9) (fun _ => ?_)
  refine lv_iload_n hx₀ hb dX9_readAgain_82 rfl (lv_at hl 0 rfl) ?_
  refine lv_goto (tgt := 87) hx₀ hb dX9_readAgain_83 (by decide) ?_
  refine va_put (D := (dC, dI)) (ci := 7) (v := .int 0) (ty := .int) (C := RX7) (T := TX7) (N := 4) hx₀ hb hts inlX7 tyX7 tyX7_ok nmX7 hown hK hP hD hS 0 rfl rfl 3 (by decide) (hts (.fieldLink RX9 37 "BittenStick$Text" "number" "I") wd_174) (fun _ h9 => h9) rfl (by decide +kernel) rfl rfl (Nat.le_of_ble_eq_true rfl) dX9_readAgain_87 (fun H locs hP hD hS => ?_)
  have hP : va_P (dC, dI) vwCl [(h, .inr (7, [.ref hv, .int 0, .int (-1), .int 0]))] H := hP
  have hD : va_D A [(h, .inr (7, [.ref hv, .int 0, .int (-1), .int 0]))] := hD
  have hP9 := hP.sub (ws' := [(h, .inr (7, [.ref hv, .int 0, .int (-1), .int 0]))]) [0] rfl
  have hD9 := hD.sub (ws' := [(h, .inr (7, [.ref hv, .int 0, .int (-1), .int 0]))]) [0] (by decide) rfl
  exact W.vret hx₀ hb hr (fun t₀ ht hW => ⟨⟨(), rfl, trivial, by rw [ht]; exact hP9, va_K.moved hW.alike hK, hD9⟩, hS.F ht⟩) hS.2.2 dX9_readAgain_90
theorem lf_c_again1_X7_1  (c9 : ¬ (0 ≤ (0 : Int32) ∧ (0 : Int32) < 39)) : False := by
  (first | omega | (simp only [Int64.le_iff_toInt_le, Int64.lt_iff_toInt_lt, Int32.le_iff_toInt_le, Int32.lt_iff_toInt_lt, ← Int32.toInt_inj, ← Int64.toInt_inj, Int32.toInt_toInt64, (show (0 : Int32).toInt = 0 from by decide), (show (0 : Int64).toInt = 0 from by decide), (show (39 : Int32).toInt = 39 from by decide), (show (39 : Int64).toInt = 39 from by decide)] at *; omega))
set_option maxHeartbeats 4000000 in
set_option maxRecDepth 100000 in
theorem c_again1_X7 (l : Launch) (dC : Nat → ClassId) (dI : Nat → Nat → Nat) (cI cJ cQ : ClassId) (sz : Nat) (h : Nat) (hv : Nat) (fa : Int32) (nu : Int32) (f : Nat → Int32) : Met l yX9_readAgain (kW yX9_readAgain cX9_readAgain 2 none) { frames := 1, cells := 0, slots := 0, locals := 21 } (kPre dC dI cI cJ cQ sz [.ref h] [(h, .inr (7, [.ref hv, .int 1, .int fa, .int nu])), (hv, .inl (cI, 39, .inl f))]) (va_Qv (fun (_ : Int32 × Int32) => True) (fun (u : Int32 × Int32) t₀ => kB dC dI cI cJ cQ (va_A [(h, .inr (7, [.ref hv, .int 1, .int fa, .int nu])), (hv, .inl (cI, 39, .inl f))] sz) [(h, .inr (7, [.ref hv, .int 1, .int u.1, .int u.2]))] t₀) (va_A [(h, .inr (7, [.ref hv, .int 1, .int fa, .int nu])), (hv, .inl (cI, 39, .inl f))] sz)) 0 0 (va_A [(h, .inr (7, [.ref hv, .int 1, .int fa, .int nu])), (hv, .inl (cI, 39, .inl f))] sz) := by
  refine Met.ofW (cc := cX9_readAgain) (maxL := 2) (ret := none) (by decide) rfl ?_
  intro p₀ e₀ s₀ m₀ args below meth c₀ s₁ B hml hv₀
  obtain ⟨rfl, hsz, hP, hK, hD0, hN⟩ := hv₀
  have hx₀ := B.exec
  have hb := B.bytes
  have hr := B.returns
  have hts := atoms_spec (ws := (kW yX9_readAgain cX9_readAgain 2 none)) B.pre
  have hts := fun w h => hts w (List.mem_cons_of_mem _ h)
  have hown : s₀.vm.findClass RX9 = some m₀.cls := findClass_of_methodNamed B.named
  have hlocks := B.notSynchronized
  subst hsz
  have hD := hD0.self (sz := s₀.heap.size)
  generalize hAe : va_A [(h, .inr (7, [.ref hv, .int 1, .int fa, .int nu])), (hv, .inl (cI, 39, .inl f))] s₀.heap.size = A at hD ⊢
  have hA : ∀ q : Nat, s₀.heap.size ≤ q → A q := fun q h => by rw [← hAe]; exact Or.inr h
  have hS : va_S A s₀.heap s₀.heap [] := va_S.rf
  have hP : va_P (dC, dI) vwCl [(h, .inr (7, [.ref hv, .int 1, .int fa, .int nu])), (hv, .inl (cI, 39, .inl f))] s₀.heap := hP
  have hl := lv_entry ([.ref h]) (n := 2) (Nat.le_of_ble_eq_true rfl)
  rw [lg_entry_eq]
  generalize (lg_sl ([.ref h]) ++ List.replicate (2 - (lg_sl ([.ref h])).length) Slot.unset).toArray = ls at hl ⊢
  have hl : lv_has ls 2 [(0, .ref h)] := hl
  obtain ⟨H, hH⟩ : ∃ z : Heap, z = s₀.heap := ⟨_, rfl⟩
  rw [← hH] at hP
  have hS : va_S A s₀.heap H [] := by rw [hH]; exact hS
  refine k_heap hH ?_
  have hD : va_D A [(h, .inr (7, [.ref hv, .int 1, .int fa, .int nu])), (hv, .inl (cI, 39, .inl f))] := hD
  obtain ⟨locs, hlo⟩ : ∃ z : List Loc, z = [] := ⟨_, rfl⟩
  rw [← hlo] at hS ⊢
  clear hlo hH hAe hD0
  refine lv_aload_n hx₀ hb dX9_readAgain_0 rfl (lv_at hl 0 rfl) ?_
  refine lv_iconst (v := (-1)) hx₀ hb dX9_readAgain_1 (by decide +kernel) ?_
  refine va_put (D := (dC, dI)) (ci := 7) (v := .int (-1)) (ty := .int) (C := RX7) (T := TX7) (N := 4) hx₀ hb hts inlX7 tyX7 tyX7_ok nmX7 hown hK hP hD hS 0 rfl rfl 2 (by decide) (hts (.fieldLink RX9 9 "BittenStick$Text" "faultAt" "I") wd_60) (fun _ h9 => h9) rfl (by decide +kernel) rfl rfl (Nat.le_of_ble_eq_true rfl) dX9_readAgain_2 (fun H locs hP hD hS => ?_)
  have hP : va_P (dC, dI) vwCl [(h, .inr (7, [.ref hv, .int 1, .int (-1), .int nu])), (hv, .inl (cI, 39, .inl f))] H := hP
  have hD : va_D A [(h, .inr (7, [.ref hv, .int 1, .int (-1), .int nu])), (hv, .inl (cI, 39, .inl f))] := hD
  refine lv_iconst (v := 0) hx₀ hb dX9_readAgain_5 (by decide +kernel) ?_
  refine lv_istore_n (lv' := [(1, .int 0), (0, .ref h)]) hx₀ hb dX9_readAgain_6 rfl hl (by decide) rfl (fun ls hl => ?_)
  refine lv_iload_n hx₀ hb dX9_readAgain_7 rfl (lv_at hl 0 rfl) ?_
  refine lv_aload_n hx₀ hb dX9_readAgain_8 rfl (lv_at hl 1 rfl) ?_
  refine va_get (D := (dC, dI)) (ci := 7) (v := .int 1) (C := RX7) (T := TX7) (N := 4) hx₀ hb hts inlX7 hown hK hP 0 rfl rfl 1 (by decide) (hts (.fieldLink RX9 25 "BittenStick$Text" "length" "I") wd_147) (fun _ h9 => h9) rfl dX9_readAgain_9 ?_
  refine lv_icmp_ge (tgt := 43) hx₀ hb dX9_readAgain_12 (by decide) (fun c9 => absurd c9 (by decide +kernel)) (fun _ => ?_)
  refine lv_aload_n hx₀ hb dX9_readAgain_15 rfl (lv_at hl 1 rfl) ?_
  refine va_get (D := (dC, dI)) (ci := 7) (v := .int (-1)) (C := RX7) (T := TX7) (N := 4) hx₀ hb hts inlX7 hown hK hP 0 rfl rfl 2 (by decide) (hts (.fieldLink RX9 9 "BittenStick$Text" "faultAt" "I") wd_60) (fun _ h9 => h9) rfl dX9_readAgain_16 ?_
  refine lv_iconst (v := (-1)) hx₀ hb dX9_readAgain_19 (by decide +kernel) ?_
  refine lv_icmp_ne (tgt := 43) hx₀ hb dX9_readAgain_20 (by decide) (fun c9 => absurd (by decide +kernel) c9) (fun _ => ?_)
  refine lv_aload_n hx₀ hb dX9_readAgain_23 rfl (lv_at hl 1 rfl) ?_
  refine lv_iload_n hx₀ hb dX9_readAgain_24 rfl (lv_at hl 0 rfl) ?_
  have hPc := hP.sub (ws' := [(h, .inr (7, [.ref hv, .int 1, .int (-1), .int nu])), (hv, .inl (cI, 39, .inl f))]) [0, 1] rfl
  have hDc := hD.sub (ws' := [(h, .inr (7, [.ref hv, .int 1, .int (-1), .int nu])), (hv, .inl (cI, 39, .inl f))]) [0, 1] (by decide) rfl
  have hFc := va_free (wc := [(h, .inr (7, [.ref hv, .int 1, .int (-1), .int nu])), (hv, .inl (cI, 39, .inl f))]) hD hS hA [0, 1] rfl
  refine va_calli (va_runU (As := [.int 0]) (rest := []) ⟨hx₀, hb, hml, hown, hts⟩ (c_valueAt_X7 l dC dI cI cJ cQ H.size h 0 hv 1 (-1) nu f) (va_cwU 1 hts (kGU wd_179 wd_175 wd_176 wd_181 wd_178 wd_57) rfl rfl rfl rfl (by decide +kernel) ⟨Nat.le_of_ble_eq_true rfl, Nat.le_of_ble_eq_true rfl⟩) (k_preV (ci := 7) (q0 := 0) hK hPc hDc hN rfl rfl) rfl rfl hl.1 rfl (lv_room (Nat.le_of_ble_eq_true rfl)) dX9_readAgain_25 ⟨by decide +kernel, by decide +kernel⟩) hS (fun q _ h => hFc q h) hFc (fun r_1 u₀ t₀ H1 locs ht hvm hw hB hz1 hk1 hS => ?_)
  obtain ⟨hP1, hK1, hD1⟩ := hB
  rw [ht] at hP1
  obtain ⟨hP, hD⟩ := va_join (wr := []) (w1 := [(h, .inr (7, [.ref hv, .int 1, .int (-1), .int nu])), (hv, .inl (cI, 39, .inl f))]) hP hD [0, 1] [] rfl rfl (by decide) (by decide) hk1 hFc hP1 hD1
  generalize H1 = H at hP hS ⊢
  have hP : va_P (dC, dI) vwCl [(h, .inr (7, [.ref hv, .int 1, .int (-1), .int nu])), (hv, .inl (cI, 39, .inl f))] H := hP
  have hD : va_D A [(h, .inr (7, [.ref hv, .int 1, .int (-1), .int nu])), (hv, .inl (cI, 39, .inl f))] := hD
  try dsimp only at hw
  rw [if_pos (Classical.byContradiction (fun c9 => lf_c_again1_X7_1  c9))] at hw
  refine k_topi (v := f (0 : Int32).toNatClampNeg) hw ?_
  refine lv_iconst (v := (-1)) hx₀ hb dX9_readAgain_28 (by decide +kernel) ?_
  refine lv_icmp_ne (tgt := 37) hx₀ hb dX9_readAgain_29 (by decide) (fun c_3 => ?_) (fun c_3 => ?_)
  · refine lv_iinc (v := 1) (lv' := [(1, .int 1), (0, .ref h)]) hx₀ hb dX9_readAgain_37 hl (k := 0) rfl (by decide +kernel) (by decide) rfl (fun ls hl => ?_)
    refine lv_goto (tgt := 7) hx₀ hb dX9_readAgain_40 (by decide) ?_
    refine lv_iload_n hx₀ hb dX9_readAgain_7 rfl (lv_at hl 0 rfl) ?_
    refine lv_aload_n hx₀ hb dX9_readAgain_8 rfl (lv_at hl 1 rfl) ?_
    refine va_get (D := (dC, dI)) (ci := 7) (v := .int 1) (C := RX7) (T := TX7) (N := 4) hx₀ hb hts inlX7 hown hK hP 0 rfl rfl 1 (by decide) (hts (.fieldLink RX9 25 "BittenStick$Text" "length" "I") wd_147) (fun _ h9 => h9) rfl dX9_readAgain_9 ?_
    refine lv_icmp_ge (tgt := 43) hx₀ hb dX9_readAgain_12 (by decide) (fun _ => ?_) (fun c9 => absurd (by decide +kernel) c9)
    refine lv_aload_n hx₀ hb dX9_readAgain_43 rfl (lv_at hl 1 rfl) ?_
    refine lv_aload_n hx₀ hb dX9_readAgain_44 rfl (lv_at hl 1 rfl) ?_
    refine va_get (D := (dC, dI)) (ci := 7) (v := .int 1) (C := RX7) (T := TX7) (N := 4) hx₀ hb hts inlX7 hown hK hP 0 rfl rfl 1 (by decide) (hts (.fieldLink RX9 25 "BittenStick$Text" "length" "I") wd_147) (fun _ h9 => h9) rfl dX9_readAgain_45 ?_
    have hPc := hP.sub (ws' := [(h, .inr (7, [.ref hv, .int 1, .int (-1), .int nu]))]) [0] rfl
    have hDc := hD.sub (ws' := [(h, .inr (7, [.ref hv, .int 1, .int (-1), .int nu]))]) [0] (by decide) rfl
    have hFc := va_free (wc := [(h, .inr (7, [.ref hv, .int 1, .int (-1), .int nu]))]) hD hS hA [0] rfl
    refine va_calli (va_runU (As := [.int 1]) (rest := []) ⟨hx₀, hb, hml, hown, hts⟩ (c_things1_X7 l dC dI cI cJ cQ H.size h hv 1 (-1) nu) (va_cwA 1 hts (kGU wd_192 wd_182 wd_183 wd_190 wd_191 wd_18) rfl rfl rfl hN.2.1 (by decide +kernel) ⟨Nat.le_of_ble_eq_true rfl, Nat.le_of_ble_eq_true rfl⟩) (k_preV (ci := 7) (q0 := 0) hK hPc hDc hN rfl rfl) rfl rfl hl.1 rfl (lv_room (Nat.le_of_ble_eq_true rfl)) dX9_readAgain_48 ⟨by decide +kernel, by decide +kernel⟩) hS (fun q _ h => hFc q h) hFc (fun r_4 u₀ t₀ H1 locs ht hvm hw hB hz1 hk1 hS => ?_)
    obtain ⟨hP1, hK1, hD1⟩ := hB
    rw [ht] at hP1
    obtain ⟨hP, hD⟩ := va_join (wr := [(hv, .inl (cI, 39, .inl f))]) (w1 := [(h, .inr (7, [.ref hv, .int 1, .int (-1), .int nu]))]) hP hD [0] [1] rfl rfl (by decide) (by decide) hk1 hFc hP1 hD1
    generalize H1 = H at hP hS ⊢
    have hP : va_P (dC, dI) vwCl [(hv, .inl (cI, 39, .inl f)), (h, .inr (7, [.ref hv, .int 1, .int (-1), .int nu]))] H := hP
    have hD : va_D A [(hv, .inl (cI, 39, .inl f)), (h, .inr (7, [.ref hv, .int 1, .int (-1), .int nu]))] := hD
    try dsimp only at hw
    refine k_topi (v := (-1)) hw ?_
    refine lv_istore_n (lv' := [(1, .int (-1)), (0, .ref h)]) hx₀ hb dX9_readAgain_51 rfl hl (by decide) rfl (fun ls hl => ?_)
    refine lv_aload_n hx₀ hb dX9_readAgain_52 rfl (lv_at hl 1 rfl) ?_
    refine va_get (D := (dC, dI)) (ci := 7) (v := .int (-1)) (C := RX7) (T := TX7) (N := 4) hx₀ hb hts inlX7 hown hK hP 1 rfl rfl 2 (by decide) (hts (.fieldLink RX9 9 "BittenStick$Text" "faultAt" "I") wd_60) (fun _ h9 => h9) rfl dX9_readAgain_53 ?_
    refine lv_iconst (v := (-1)) hx₀ hb dX9_readAgain_56 (by decide +kernel) ?_
    refine lv_icmp_ne (tgt := 73) hx₀ hb dX9_readAgain_57 (by decide) (fun c9 => absurd (by decide +kernel) c9) (fun _ => ?_)
    refine lv_iload_n hx₀ hb dX9_readAgain_60 rfl (lv_at hl 0 rfl) ?_
    refine lv_iconst (v := (-1)) hx₀ hb dX9_readAgain_61 (by decide +kernel) ?_
    refine lv_icmp_ne (tgt := 73) hx₀ hb dX9_readAgain_62 (by decide) (fun c9 => absurd (by decide +kernel) c9) (fun _ => ?_)
    refine lv_aload_n hx₀ hb dX9_readAgain_65 rfl (lv_at hl 1 rfl) ?_
    refine lv_aload_n hx₀ hb dX9_readAgain_66 rfl (lv_at hl 1 rfl) ?_
    refine va_get (D := (dC, dI)) (ci := 7) (v := .int 1) (C := RX7) (T := TX7) (N := 4) hx₀ hb hts inlX7 hown hK hP 1 rfl rfl 1 (by decide) (hts (.fieldLink RX9 25 "BittenStick$Text" "length" "I") wd_147) (fun _ h9 => h9) rfl dX9_readAgain_67 ?_
    refine va_put (D := (dC, dI)) (ci := 7) (v := .int 1) (ty := .int) (C := RX7) (T := TX7) (N := 4) hx₀ hb hts inlX7 tyX7 tyX7_ok nmX7 hown hK hP hD hS 1 rfl rfl 2 (by decide) (hts (.fieldLink RX9 9 "BittenStick$Text" "faultAt" "I") wd_60) (fun _ h9 => h9) rfl (by decide +kernel) rfl rfl (Nat.le_of_ble_eq_true rfl) dX9_readAgain_70 (fun H locs hP hD hS => ?_)
    have hP : va_P (dC, dI) vwCl [(hv, .inl (cI, 39, .inl f)), (h, .inr (7, [.ref hv, .int 1, .int 1, .int nu]))] H := hP
    have hD : va_D A [(hv, .inl (cI, 39, .inl f)), (h, .inr (7, [.ref hv, .int 1, .int 1, .int nu]))] := hD
    refine lv_aload_n hx₀ hb dX9_readAgain_73 rfl (lv_at hl 1 rfl) ?_
    refine lv_aload_n hx₀ hb dX9_readAgain_74 rfl (lv_at hl 1 rfl) ?_
    refine va_get (D := (dC, dI)) (ci := 7) (v := .int 1) (C := RX7) (T := TX7) (N := 4) hx₀ hb hts inlX7 hown hK hP 1 rfl rfl 2 (by decide) (hts (.fieldLink RX9 9 "BittenStick$Text" "faultAt" "I") wd_60) (fun _ h9 => h9) rfl dX9_readAgain_75 ?_
    refine lv_iconst (v := (-1)) hx₀ hb dX9_readAgain_78 (by decide +kernel) ?_
    refine lv_icmp_ne (tgt := 86) hx₀ hb dX9_readAgain_79 (by decide) (fun _ => ?_) (fun c9 => absurd c9 (by decide +kernel))
    refine lv_iconst (v := 0) hx₀ hb dX9_readAgain_86 (by decide +kernel) ?_
    refine va_put (D := (dC, dI)) (ci := 7) (v := .int 0) (ty := .int) (C := RX7) (T := TX7) (N := 4) hx₀ hb hts inlX7 tyX7 tyX7_ok nmX7 hown hK hP hD hS 1 rfl rfl 3 (by decide) (hts (.fieldLink RX9 37 "BittenStick$Text" "number" "I") wd_174) (fun _ h9 => h9) rfl (by decide +kernel) rfl rfl (Nat.le_of_ble_eq_true rfl) dX9_readAgain_87 (fun H locs hP hD hS => ?_)
    have hP : va_P (dC, dI) vwCl [(hv, .inl (cI, 39, .inl f)), (h, .inr (7, [.ref hv, .int 1, .int 1, .int 0]))] H := hP
    have hD : va_D A [(hv, .inl (cI, 39, .inl f)), (h, .inr (7, [.ref hv, .int 1, .int 1, .int 0]))] := hD
    have hP9 := hP.sub (ws' := [(h, .inr (7, [.ref hv, .int 1, .int 1, .int 0]))]) [1] rfl
    have hD9 := hD.sub (ws' := [(h, .inr (7, [.ref hv, .int 1, .int 1, .int 0]))]) [1] (by decide) rfl
    exact W.vret hx₀ hb hr (fun t₀ ht hW => ⟨⟨(1, 0), rfl, trivial, by rw [ht]; exact hP9, va_K.moved hW.alike hK, hD9⟩, hS.F ht⟩) hS.2.2 dX9_readAgain_90
  · refine lv_aload_n hx₀ hb dX9_readAgain_32 rfl (lv_at hl 1 rfl) ?_
    refine lv_iload_n hx₀ hb dX9_readAgain_33 rfl (lv_at hl 0 rfl) ?_
    refine va_put (D := (dC, dI)) (ci := 7) (v := .int 0) (ty := .int) (C := RX7) (T := TX7) (N := 4) hx₀ hb hts inlX7 tyX7 tyX7_ok nmX7 hown hK hP hD hS 0 rfl rfl 2 (by decide) (hts (.fieldLink RX9 9 "BittenStick$Text" "faultAt" "I") wd_60) (fun _ h9 => h9) rfl (by decide +kernel) rfl rfl (Nat.le_of_ble_eq_true rfl) dX9_readAgain_34 (fun H locs hP hD hS => ?_)
    have hP : va_P (dC, dI) vwCl [(h, .inr (7, [.ref hv, .int 1, .int 0, .int nu])), (hv, .inl (cI, 39, .inl f))] H := hP
    have hD : va_D A [(h, .inr (7, [.ref hv, .int 1, .int 0, .int nu])), (hv, .inl (cI, 39, .inl f))] := hD
    refine lv_iinc (v := 1) (lv' := [(1, .int 1), (0, .ref h)]) hx₀ hb dX9_readAgain_37 hl (k := 0) rfl (by decide +kernel) (by decide) rfl (fun ls hl => ?_)
    refine lv_goto (tgt := 7) hx₀ hb dX9_readAgain_40 (by decide) ?_
    refine lv_iload_n hx₀ hb dX9_readAgain_7 rfl (lv_at hl 0 rfl) ?_
    refine lv_aload_n hx₀ hb dX9_readAgain_8 rfl (lv_at hl 1 rfl) ?_
    refine va_get (D := (dC, dI)) (ci := 7) (v := .int 1) (C := RX7) (T := TX7) (N := 4) hx₀ hb hts inlX7 hown hK hP 0 rfl rfl 1 (by decide) (hts (.fieldLink RX9 25 "BittenStick$Text" "length" "I") wd_147) (fun _ h9 => h9) rfl dX9_readAgain_9 ?_
    refine lv_icmp_ge (tgt := 43) hx₀ hb dX9_readAgain_12 (by decide) (fun _ => ?_) (fun c9 => absurd (by decide +kernel) c9)
    refine lv_aload_n hx₀ hb dX9_readAgain_43 rfl (lv_at hl 1 rfl) ?_
    refine lv_aload_n hx₀ hb dX9_readAgain_44 rfl (lv_at hl 1 rfl) ?_
    refine va_get (D := (dC, dI)) (ci := 7) (v := .int 1) (C := RX7) (T := TX7) (N := 4) hx₀ hb hts inlX7 hown hK hP 0 rfl rfl 1 (by decide) (hts (.fieldLink RX9 25 "BittenStick$Text" "length" "I") wd_147) (fun _ h9 => h9) rfl dX9_readAgain_45 ?_
    have hPc := hP.sub (ws' := [(h, .inr (7, [.ref hv, .int 1, .int 0, .int nu]))]) [0] rfl
    have hDc := hD.sub (ws' := [(h, .inr (7, [.ref hv, .int 1, .int 0, .int nu]))]) [0] (by decide) rfl
    have hFc := va_free (wc := [(h, .inr (7, [.ref hv, .int 1, .int 0, .int nu]))]) hD hS hA [0] rfl
    refine va_calli (va_runU (As := [.int 1]) (rest := []) ⟨hx₀, hb, hml, hown, hts⟩ (c_things1_X7 l dC dI cI cJ cQ H.size h hv 1 0 nu) (va_cwA 1 hts (kGU wd_192 wd_182 wd_183 wd_190 wd_191 wd_18) rfl rfl rfl hN.2.1 (by decide +kernel) ⟨Nat.le_of_ble_eq_true rfl, Nat.le_of_ble_eq_true rfl⟩) (k_preV (ci := 7) (q0 := 0) hK hPc hDc hN rfl rfl) rfl rfl hl.1 rfl (lv_room (Nat.le_of_ble_eq_true rfl)) dX9_readAgain_48 ⟨by decide +kernel, by decide +kernel⟩) hS (fun q _ h => hFc q h) hFc (fun r_5 u₀ t₀ H1 locs ht hvm hw hB hz1 hk1 hS => ?_)
    obtain ⟨hP1, hK1, hD1⟩ := hB
    rw [ht] at hP1
    obtain ⟨hP, hD⟩ := va_join (wr := [(hv, .inl (cI, 39, .inl f))]) (w1 := [(h, .inr (7, [.ref hv, .int 1, .int 0, .int nu]))]) hP hD [0] [1] rfl rfl (by decide) (by decide) hk1 hFc hP1 hD1
    generalize H1 = H at hP hS ⊢
    have hP : va_P (dC, dI) vwCl [(hv, .inl (cI, 39, .inl f)), (h, .inr (7, [.ref hv, .int 1, .int 0, .int nu]))] H := hP
    have hD : va_D A [(hv, .inl (cI, 39, .inl f)), (h, .inr (7, [.ref hv, .int 1, .int 0, .int nu]))] := hD
    try dsimp only at hw
    refine k_topi (v := (-1)) hw ?_
    refine lv_istore_n (lv' := [(1, .int (-1)), (0, .ref h)]) hx₀ hb dX9_readAgain_51 rfl hl (by decide) rfl (fun ls hl => ?_)
    refine lv_aload_n hx₀ hb dX9_readAgain_52 rfl (lv_at hl 1 rfl) ?_
    refine va_get (D := (dC, dI)) (ci := 7) (v := .int 0) (C := RX7) (T := TX7) (N := 4) hx₀ hb hts inlX7 hown hK hP 1 rfl rfl 2 (by decide) (hts (.fieldLink RX9 9 "BittenStick$Text" "faultAt" "I") wd_60) (fun _ h9 => h9) rfl dX9_readAgain_53 ?_
    refine lv_iconst (v := (-1)) hx₀ hb dX9_readAgain_56 (by decide +kernel) ?_
    refine lv_icmp_ne (tgt := 73) hx₀ hb dX9_readAgain_57 (by decide) (fun _ => ?_) (fun c9 => absurd c9 (by decide +kernel))
    refine lv_aload_n hx₀ hb dX9_readAgain_73 rfl (lv_at hl 1 rfl) ?_
    refine lv_aload_n hx₀ hb dX9_readAgain_74 rfl (lv_at hl 1 rfl) ?_
    refine va_get (D := (dC, dI)) (ci := 7) (v := .int 0) (C := RX7) (T := TX7) (N := 4) hx₀ hb hts inlX7 hown hK hP 1 rfl rfl 2 (by decide) (hts (.fieldLink RX9 9 "BittenStick$Text" "faultAt" "I") wd_60) (fun _ h9 => h9) rfl dX9_readAgain_75 ?_
    refine lv_iconst (v := (-1)) hx₀ hb dX9_readAgain_78 (by decide +kernel) ?_
    refine lv_icmp_ne (tgt := 86) hx₀ hb dX9_readAgain_79 (by decide) (fun _ => ?_) (fun c9 => absurd c9 (by decide +kernel))
    refine lv_iconst (v := 0) hx₀ hb dX9_readAgain_86 (by decide +kernel) ?_
    refine va_put (D := (dC, dI)) (ci := 7) (v := .int 0) (ty := .int) (C := RX7) (T := TX7) (N := 4) hx₀ hb hts inlX7 tyX7 tyX7_ok nmX7 hown hK hP hD hS 1 rfl rfl 3 (by decide) (hts (.fieldLink RX9 37 "BittenStick$Text" "number" "I") wd_174) (fun _ h9 => h9) rfl (by decide +kernel) rfl rfl (Nat.le_of_ble_eq_true rfl) dX9_readAgain_87 (fun H locs hP hD hS => ?_)
    have hP : va_P (dC, dI) vwCl [(hv, .inl (cI, 39, .inl f)), (h, .inr (7, [.ref hv, .int 1, .int 0, .int 0]))] H := hP
    have hD : va_D A [(hv, .inl (cI, 39, .inl f)), (h, .inr (7, [.ref hv, .int 1, .int 0, .int 0]))] := hD
    have hP9 := hP.sub (ws' := [(h, .inr (7, [.ref hv, .int 1, .int 0, .int 0]))]) [1] rfl
    have hD9 := hD.sub (ws' := [(h, .inr (7, [.ref hv, .int 1, .int 0, .int 0]))]) [1] (by decide) rfl
    exact W.vret hx₀ hb hr (fun t₀ ht hW => ⟨⟨(0, 0), rfl, trivial, by rw [ht]; exact hP9, va_K.moved hW.alike hK, hD9⟩, hS.F ht⟩) hS.2.2 dX9_readAgain_90
set_option maxHeartbeats 4000000 in
set_option maxRecDepth 100000 in
theorem c_again0_X2 (l : Launch) (dC : Nat → ClassId) (dI : Nat → Nat → Nat) (cI cJ cQ : ClassId) (sz : Nat) (h : Nat) (hv : Nat) (fa : Int32) (nu : Int32) : Met l yX9_readAgain (kW yX9_readAgain cX9_readAgain 2 none) { frames := 1, cells := 0, slots := 0, locals := 21 } (kPre dC dI cI cJ cQ sz [.ref h] [(h, .inr (2, [.ref hv, .int 0, .int fa, .int nu]))]) (va_Qv (fun (_ : Unit) => True) (fun _ t₀ => kB dC dI cI cJ cQ (va_A [(h, .inr (2, [.ref hv, .int 0, .int fa, .int nu]))] sz) [(h, .inr (2, [.ref hv, .int 0, .int (-1), .int 0]))] t₀) (va_A [(h, .inr (2, [.ref hv, .int 0, .int fa, .int nu]))] sz)) 0 0 (va_A [(h, .inr (2, [.ref hv, .int 0, .int fa, .int nu]))] sz) := by
  refine Met.ofW (cc := cX9_readAgain) (maxL := 2) (ret := none) (by decide) rfl ?_
  intro p₀ e₀ s₀ m₀ args below meth c₀ s₁ B hml hv₀
  obtain ⟨rfl, hsz, hP, hK, hD0, hN⟩ := hv₀
  have hx₀ := B.exec
  have hb := B.bytes
  have hr := B.returns
  have hts := atoms_spec (ws := (kW yX9_readAgain cX9_readAgain 2 none)) B.pre
  have hts := fun w h => hts w (List.mem_cons_of_mem _ h)
  have hown : s₀.vm.findClass RX9 = some m₀.cls := findClass_of_methodNamed B.named
  have hlocks := B.notSynchronized
  subst hsz
  have hD := hD0.self (sz := s₀.heap.size)
  generalize hAe : va_A [(h, .inr (2, [.ref hv, .int 0, .int fa, .int nu]))] s₀.heap.size = A at hD ⊢
  have hA : ∀ q : Nat, s₀.heap.size ≤ q → A q := fun q h => by rw [← hAe]; exact Or.inr h
  have hS : va_S A s₀.heap s₀.heap [] := va_S.rf
  have hP : va_P (dC, dI) vwCl [(h, .inr (2, [.ref hv, .int 0, .int fa, .int nu]))] s₀.heap := hP
  have hl := lv_entry ([.ref h]) (n := 2) (Nat.le_of_ble_eq_true rfl)
  rw [lg_entry_eq]
  generalize (lg_sl ([.ref h]) ++ List.replicate (2 - (lg_sl ([.ref h])).length) Slot.unset).toArray = ls at hl ⊢
  have hl : lv_has ls 2 [(0, .ref h)] := hl
  obtain ⟨H, hH⟩ : ∃ z : Heap, z = s₀.heap := ⟨_, rfl⟩
  rw [← hH] at hP
  have hS : va_S A s₀.heap H [] := by rw [hH]; exact hS
  refine k_heap hH ?_
  have hD : va_D A [(h, .inr (2, [.ref hv, .int 0, .int fa, .int nu]))] := hD
  obtain ⟨locs, hlo⟩ : ∃ z : List Loc, z = [] := ⟨_, rfl⟩
  rw [← hlo] at hS ⊢
  clear hlo hH hAe hD0
  refine lv_aload_n hx₀ hb dX9_readAgain_0 rfl (lv_at hl 0 rfl) ?_
  refine lv_iconst (v := (-1)) hx₀ hb dX9_readAgain_1 (by decide +kernel) ?_
  refine va_put (D := (dC, dI)) (ci := 2) (v := .int (-1)) (ty := .int) (C := RX2) (T := TX2) (N := 4) hx₀ hb hts inlX2 tyX2 tyX2_ok nmX2 hown hK hP hD hS 0 rfl rfl 2 (by decide) (hts (.fieldLink RX9 9 "BittenStick$Text" "faultAt" "I") wd_60) (fun _ h9 => h9) rfl (by decide +kernel) rfl rfl (Nat.le_of_ble_eq_true rfl) dX9_readAgain_2 (fun H locs hP hD hS => ?_)
  have hP : va_P (dC, dI) vwCl [(h, .inr (2, [.ref hv, .int 0, .int (-1), .int nu]))] H := hP
  have hD : va_D A [(h, .inr (2, [.ref hv, .int 0, .int (-1), .int nu]))] := hD
  refine lv_iconst (v := 0) hx₀ hb dX9_readAgain_5 (by decide +kernel) ?_
  refine lv_istore_n (lv' := [(1, .int 0), (0, .ref h)]) hx₀ hb dX9_readAgain_6 rfl hl (by decide) rfl (fun ls hl => ?_)
  refine lv_iload_n hx₀ hb dX9_readAgain_7 rfl (lv_at hl 0 rfl) ?_
  refine lv_aload_n hx₀ hb dX9_readAgain_8 rfl (lv_at hl 1 rfl) ?_
  refine va_get (D := (dC, dI)) (ci := 2) (v := .int 0) (C := RX2) (T := TX2) (N := 4) hx₀ hb hts inlX2 hown hK hP 0 rfl rfl 1 (by decide) (hts (.fieldLink RX9 25 "BittenStick$Text" "length" "I") wd_147) (fun _ h9 => h9) rfl dX9_readAgain_9 ?_
  refine lv_icmp_ge (tgt := 43) hx₀ hb dX9_readAgain_12 (by decide) (fun _ => ?_) (fun c9 => absurd (by decide +kernel) c9)
  refine lv_aload_n hx₀ hb dX9_readAgain_43 rfl (lv_at hl 1 rfl) ?_
  refine lv_aload_n hx₀ hb dX9_readAgain_44 rfl (lv_at hl 1 rfl) ?_
  refine va_get (D := (dC, dI)) (ci := 2) (v := .int 0) (C := RX2) (T := TX2) (N := 4) hx₀ hb hts inlX2 hown hK hP 0 rfl rfl 1 (by decide) (hts (.fieldLink RX9 25 "BittenStick$Text" "length" "I") wd_147) (fun _ h9 => h9) rfl dX9_readAgain_45 ?_
  have hPc := hP.sub (ws' := [(h, .inr (2, [.ref hv, .int 0, .int (-1), .int nu]))]) [0] rfl
  have hDc := hD.sub (ws' := [(h, .inr (2, [.ref hv, .int 0, .int (-1), .int nu]))]) [0] (by decide) rfl
  have hFc := va_free (wc := [(h, .inr (2, [.ref hv, .int 0, .int (-1), .int nu]))]) hD hS hA [0] rfl
  refine va_calli (va_runU (As := [.int 0]) (rest := []) ⟨hx₀, hb, hml, hown, hts⟩ (c_things0_X2 l dC dI cI cJ cQ H.size h hv 0 (-1) nu) (va_cwA 1 hts (kGU wd_186 wd_182 wd_183 wd_184 wd_185 wd_22) rfl rfl rfl hN.2.1 (by decide +kernel) ⟨Nat.le_of_ble_eq_true rfl, Nat.le_of_ble_eq_true rfl⟩) (k_preV (ci := 2) (q0 := 0) hK hPc hDc hN rfl rfl) rfl rfl hl.1 rfl (lv_room (Nat.le_of_ble_eq_true rfl)) dX9_readAgain_48 ⟨by decide +kernel, by decide +kernel⟩) hS (fun q _ h => hFc q h) hFc (fun r_1 u₀ t₀ H1 locs ht hvm hw hB hz1 hk1 hS => ?_)
  obtain ⟨hP1, hK1, hD1⟩ := hB
  rw [ht] at hP1
  obtain ⟨hP, hD⟩ := va_join (wr := []) (w1 := [(h, .inr (2, [.ref hv, .int 0, .int (-1), .int nu]))]) hP hD [0] [] rfl rfl (by decide) (by decide) hk1 hFc hP1 hD1
  generalize H1 = H at hP hS ⊢
  have hP : va_P (dC, dI) vwCl [(h, .inr (2, [.ref hv, .int 0, .int (-1), .int nu]))] H := hP
  have hD : va_D A [(h, .inr (2, [.ref hv, .int 0, .int (-1), .int nu]))] := hD
  try dsimp only at hw
  refine k_topi (v := 0) hw ?_
  refine lv_istore_n (lv' := [(1, .int 0), (0, .ref h)]) hx₀ hb dX9_readAgain_51 rfl hl (by decide) rfl (fun ls hl => ?_)
  refine lv_aload_n hx₀ hb dX9_readAgain_52 rfl (lv_at hl 1 rfl) ?_
  refine va_get (D := (dC, dI)) (ci := 2) (v := .int (-1)) (C := RX2) (T := TX2) (N := 4) hx₀ hb hts inlX2 hown hK hP 0 rfl rfl 2 (by decide) (hts (.fieldLink RX9 9 "BittenStick$Text" "faultAt" "I") wd_60) (fun _ h9 => h9) rfl dX9_readAgain_53 ?_
  refine lv_iconst (v := (-1)) hx₀ hb dX9_readAgain_56 (by decide +kernel) ?_
  refine lv_icmp_ne (tgt := 73) hx₀ hb dX9_readAgain_57 (by decide) (fun c9 => absurd (by decide +kernel) c9) (fun _ => ?_)
  refine lv_iload_n hx₀ hb dX9_readAgain_60 rfl (lv_at hl 0 rfl) ?_
  refine lv_iconst (v := (-1)) hx₀ hb dX9_readAgain_61 (by decide +kernel) ?_
  refine lv_icmp_ne (tgt := 73) hx₀ hb dX9_readAgain_62 (by decide) (fun _ => ?_) (fun c9 => absurd c9 (by decide +kernel))
  refine lv_aload_n hx₀ hb dX9_readAgain_73 rfl (lv_at hl 1 rfl) ?_
  refine lv_aload_n hx₀ hb dX9_readAgain_74 rfl (lv_at hl 1 rfl) ?_
  refine va_get (D := (dC, dI)) (ci := 2) (v := .int (-1)) (C := RX2) (T := TX2) (N := 4) hx₀ hb hts inlX2 hown hK hP 0 rfl rfl 2 (by decide) (hts (.fieldLink RX9 9 "BittenStick$Text" "faultAt" "I") wd_60) (fun _ h9 => h9) rfl dX9_readAgain_75 ?_
  refine lv_iconst (v := (-1)) hx₀ hb dX9_readAgain_78 (by decide +kernel) ?_
  refine lv_icmp_ne (tgt := 86) hx₀ hb dX9_readAgain_79 (by decide) (fun c9 => absurd (by decide +kernel) c9) (fun _ => ?_)
  refine lv_iload_n hx₀ hb dX9_readAgain_82 rfl (lv_at hl 0 rfl) ?_
  refine lv_goto (tgt := 87) hx₀ hb dX9_readAgain_83 (by decide) ?_
  refine va_put (D := (dC, dI)) (ci := 2) (v := .int 0) (ty := .int) (C := RX2) (T := TX2) (N := 4) hx₀ hb hts inlX2 tyX2 tyX2_ok nmX2 hown hK hP hD hS 0 rfl rfl 3 (by decide) (hts (.fieldLink RX9 37 "BittenStick$Text" "number" "I") wd_174) (fun _ h9 => h9) rfl (by decide +kernel) rfl rfl (Nat.le_of_ble_eq_true rfl) dX9_readAgain_87 (fun H locs hP hD hS => ?_)
  have hP : va_P (dC, dI) vwCl [(h, .inr (2, [.ref hv, .int 0, .int (-1), .int 0]))] H := hP
  have hD : va_D A [(h, .inr (2, [.ref hv, .int 0, .int (-1), .int 0]))] := hD
  have hP9 := hP.sub (ws' := [(h, .inr (2, [.ref hv, .int 0, .int (-1), .int 0]))]) [0] rfl
  have hD9 := hD.sub (ws' := [(h, .inr (2, [.ref hv, .int 0, .int (-1), .int 0]))]) [0] (by decide) rfl
  exact W.vret hx₀ hb hr (fun t₀ ht hW => ⟨⟨(), rfl, trivial, by rw [ht]; exact hP9, va_K.moved hW.alike hK, hD9⟩, hS.F ht⟩) hS.2.2 dX9_readAgain_90
theorem lf_c_again1_X2_1  (c9 : ¬ (0 ≤ (0 : Int32) ∧ (0 : Int32) < 23)) : False := by
  (first | omega | (simp only [Int64.le_iff_toInt_le, Int64.lt_iff_toInt_lt, Int32.le_iff_toInt_le, Int32.lt_iff_toInt_lt, ← Int32.toInt_inj, ← Int64.toInt_inj, Int32.toInt_toInt64, (show (0 : Int32).toInt = 0 from by decide), (show (0 : Int64).toInt = 0 from by decide), (show (23 : Int32).toInt = 23 from by decide), (show (23 : Int64).toInt = 23 from by decide)] at *; omega))
set_option maxHeartbeats 4000000 in
set_option maxRecDepth 100000 in
theorem c_again1_X2 (l : Launch) (dC : Nat → ClassId) (dI : Nat → Nat → Nat) (cI cJ cQ : ClassId) (sz : Nat) (h : Nat) (hv : Nat) (fa : Int32) (nu : Int32) (f : Nat → Int32) : Met l yX9_readAgain (kW yX9_readAgain cX9_readAgain 2 none) { frames := 1, cells := 0, slots := 0, locals := 21 } (kPre dC dI cI cJ cQ sz [.ref h] [(h, .inr (2, [.ref hv, .int 1, .int fa, .int nu])), (hv, .inl (cI, 23, .inl f))]) (va_Qv (fun (_ : Int32 × Int32) => True) (fun (u : Int32 × Int32) t₀ => kB dC dI cI cJ cQ (va_A [(h, .inr (2, [.ref hv, .int 1, .int fa, .int nu])), (hv, .inl (cI, 23, .inl f))] sz) [(h, .inr (2, [.ref hv, .int 1, .int u.1, .int u.2]))] t₀) (va_A [(h, .inr (2, [.ref hv, .int 1, .int fa, .int nu])), (hv, .inl (cI, 23, .inl f))] sz)) 0 0 (va_A [(h, .inr (2, [.ref hv, .int 1, .int fa, .int nu])), (hv, .inl (cI, 23, .inl f))] sz) := by
  refine Met.ofW (cc := cX9_readAgain) (maxL := 2) (ret := none) (by decide) rfl ?_
  intro p₀ e₀ s₀ m₀ args below meth c₀ s₁ B hml hv₀
  obtain ⟨rfl, hsz, hP, hK, hD0, hN⟩ := hv₀
  have hx₀ := B.exec
  have hb := B.bytes
  have hr := B.returns
  have hts := atoms_spec (ws := (kW yX9_readAgain cX9_readAgain 2 none)) B.pre
  have hts := fun w h => hts w (List.mem_cons_of_mem _ h)
  have hown : s₀.vm.findClass RX9 = some m₀.cls := findClass_of_methodNamed B.named
  have hlocks := B.notSynchronized
  subst hsz
  have hD := hD0.self (sz := s₀.heap.size)
  generalize hAe : va_A [(h, .inr (2, [.ref hv, .int 1, .int fa, .int nu])), (hv, .inl (cI, 23, .inl f))] s₀.heap.size = A at hD ⊢
  have hA : ∀ q : Nat, s₀.heap.size ≤ q → A q := fun q h => by rw [← hAe]; exact Or.inr h
  have hS : va_S A s₀.heap s₀.heap [] := va_S.rf
  have hP : va_P (dC, dI) vwCl [(h, .inr (2, [.ref hv, .int 1, .int fa, .int nu])), (hv, .inl (cI, 23, .inl f))] s₀.heap := hP
  have hl := lv_entry ([.ref h]) (n := 2) (Nat.le_of_ble_eq_true rfl)
  rw [lg_entry_eq]
  generalize (lg_sl ([.ref h]) ++ List.replicate (2 - (lg_sl ([.ref h])).length) Slot.unset).toArray = ls at hl ⊢
  have hl : lv_has ls 2 [(0, .ref h)] := hl
  obtain ⟨H, hH⟩ : ∃ z : Heap, z = s₀.heap := ⟨_, rfl⟩
  rw [← hH] at hP
  have hS : va_S A s₀.heap H [] := by rw [hH]; exact hS
  refine k_heap hH ?_
  have hD : va_D A [(h, .inr (2, [.ref hv, .int 1, .int fa, .int nu])), (hv, .inl (cI, 23, .inl f))] := hD
  obtain ⟨locs, hlo⟩ : ∃ z : List Loc, z = [] := ⟨_, rfl⟩
  rw [← hlo] at hS ⊢
  clear hlo hH hAe hD0
  refine lv_aload_n hx₀ hb dX9_readAgain_0 rfl (lv_at hl 0 rfl) ?_
  refine lv_iconst (v := (-1)) hx₀ hb dX9_readAgain_1 (by decide +kernel) ?_
  refine va_put (D := (dC, dI)) (ci := 2) (v := .int (-1)) (ty := .int) (C := RX2) (T := TX2) (N := 4) hx₀ hb hts inlX2 tyX2 tyX2_ok nmX2 hown hK hP hD hS 0 rfl rfl 2 (by decide) (hts (.fieldLink RX9 9 "BittenStick$Text" "faultAt" "I") wd_60) (fun _ h9 => h9) rfl (by decide +kernel) rfl rfl (Nat.le_of_ble_eq_true rfl) dX9_readAgain_2 (fun H locs hP hD hS => ?_)
  have hP : va_P (dC, dI) vwCl [(h, .inr (2, [.ref hv, .int 1, .int (-1), .int nu])), (hv, .inl (cI, 23, .inl f))] H := hP
  have hD : va_D A [(h, .inr (2, [.ref hv, .int 1, .int (-1), .int nu])), (hv, .inl (cI, 23, .inl f))] := hD
  refine lv_iconst (v := 0) hx₀ hb dX9_readAgain_5 (by decide +kernel) ?_
  refine lv_istore_n (lv' := [(1, .int 0), (0, .ref h)]) hx₀ hb dX9_readAgain_6 rfl hl (by decide) rfl (fun ls hl => ?_)
  refine lv_iload_n hx₀ hb dX9_readAgain_7 rfl (lv_at hl 0 rfl) ?_
  refine lv_aload_n hx₀ hb dX9_readAgain_8 rfl (lv_at hl 1 rfl) ?_
  refine va_get (D := (dC, dI)) (ci := 2) (v := .int 1) (C := RX2) (T := TX2) (N := 4) hx₀ hb hts inlX2 hown hK hP 0 rfl rfl 1 (by decide) (hts (.fieldLink RX9 25 "BittenStick$Text" "length" "I") wd_147) (fun _ h9 => h9) rfl dX9_readAgain_9 ?_
  refine lv_icmp_ge (tgt := 43) hx₀ hb dX9_readAgain_12 (by decide) (fun c9 => absurd c9 (by decide +kernel)) (fun _ => ?_)
  refine lv_aload_n hx₀ hb dX9_readAgain_15 rfl (lv_at hl 1 rfl) ?_
  refine va_get (D := (dC, dI)) (ci := 2) (v := .int (-1)) (C := RX2) (T := TX2) (N := 4) hx₀ hb hts inlX2 hown hK hP 0 rfl rfl 2 (by decide) (hts (.fieldLink RX9 9 "BittenStick$Text" "faultAt" "I") wd_60) (fun _ h9 => h9) rfl dX9_readAgain_16 ?_
  refine lv_iconst (v := (-1)) hx₀ hb dX9_readAgain_19 (by decide +kernel) ?_
  refine lv_icmp_ne (tgt := 43) hx₀ hb dX9_readAgain_20 (by decide) (fun c9 => absurd (by decide +kernel) c9) (fun _ => ?_)
  refine lv_aload_n hx₀ hb dX9_readAgain_23 rfl (lv_at hl 1 rfl) ?_
  refine lv_iload_n hx₀ hb dX9_readAgain_24 rfl (lv_at hl 0 rfl) ?_
  have hPc := hP.sub (ws' := [(h, .inr (2, [.ref hv, .int 1, .int (-1), .int nu])), (hv, .inl (cI, 23, .inl f))]) [0, 1] rfl
  have hDc := hD.sub (ws' := [(h, .inr (2, [.ref hv, .int 1, .int (-1), .int nu])), (hv, .inl (cI, 23, .inl f))]) [0, 1] (by decide) rfl
  have hFc := va_free (wc := [(h, .inr (2, [.ref hv, .int 1, .int (-1), .int nu])), (hv, .inl (cI, 23, .inl f))]) hD hS hA [0, 1] rfl
  refine va_calli (va_runU (As := [.int 0]) (rest := []) ⟨hx₀, hb, hml, hown, hts⟩ (c_valueAt_X2 l dC dI cI cJ cQ H.size h 0 hv 1 (-1) nu f) (va_cwU 1 hts (kGU wd_179 wd_175 wd_176 wd_177 wd_178 wd_57) rfl rfl rfl rfl (by decide +kernel) ⟨Nat.le_of_ble_eq_true rfl, Nat.le_of_ble_eq_true rfl⟩) (k_preV (ci := 2) (q0 := 0) hK hPc hDc hN rfl rfl) rfl rfl hl.1 rfl (lv_room (Nat.le_of_ble_eq_true rfl)) dX9_readAgain_25 ⟨by decide +kernel, by decide +kernel⟩) hS (fun q _ h => hFc q h) hFc (fun r_1 u₀ t₀ H1 locs ht hvm hw hB hz1 hk1 hS => ?_)
  obtain ⟨hP1, hK1, hD1⟩ := hB
  rw [ht] at hP1
  obtain ⟨hP, hD⟩ := va_join (wr := []) (w1 := [(h, .inr (2, [.ref hv, .int 1, .int (-1), .int nu])), (hv, .inl (cI, 23, .inl f))]) hP hD [0, 1] [] rfl rfl (by decide) (by decide) hk1 hFc hP1 hD1
  generalize H1 = H at hP hS ⊢
  have hP : va_P (dC, dI) vwCl [(h, .inr (2, [.ref hv, .int 1, .int (-1), .int nu])), (hv, .inl (cI, 23, .inl f))] H := hP
  have hD : va_D A [(h, .inr (2, [.ref hv, .int 1, .int (-1), .int nu])), (hv, .inl (cI, 23, .inl f))] := hD
  try dsimp only at hw
  rw [if_pos (Classical.byContradiction (fun c9 => lf_c_again1_X2_1  c9))] at hw
  refine k_topi (v := f (0 : Int32).toNatClampNeg) hw ?_
  refine lv_iconst (v := (-1)) hx₀ hb dX9_readAgain_28 (by decide +kernel) ?_
  refine lv_icmp_ne (tgt := 37) hx₀ hb dX9_readAgain_29 (by decide) (fun c_3 => ?_) (fun c_3 => ?_)
  · refine lv_iinc (v := 1) (lv' := [(1, .int 1), (0, .ref h)]) hx₀ hb dX9_readAgain_37 hl (k := 0) rfl (by decide +kernel) (by decide) rfl (fun ls hl => ?_)
    refine lv_goto (tgt := 7) hx₀ hb dX9_readAgain_40 (by decide) ?_
    refine lv_iload_n hx₀ hb dX9_readAgain_7 rfl (lv_at hl 0 rfl) ?_
    refine lv_aload_n hx₀ hb dX9_readAgain_8 rfl (lv_at hl 1 rfl) ?_
    refine va_get (D := (dC, dI)) (ci := 2) (v := .int 1) (C := RX2) (T := TX2) (N := 4) hx₀ hb hts inlX2 hown hK hP 0 rfl rfl 1 (by decide) (hts (.fieldLink RX9 25 "BittenStick$Text" "length" "I") wd_147) (fun _ h9 => h9) rfl dX9_readAgain_9 ?_
    refine lv_icmp_ge (tgt := 43) hx₀ hb dX9_readAgain_12 (by decide) (fun _ => ?_) (fun c9 => absurd (by decide +kernel) c9)
    refine lv_aload_n hx₀ hb dX9_readAgain_43 rfl (lv_at hl 1 rfl) ?_
    refine lv_aload_n hx₀ hb dX9_readAgain_44 rfl (lv_at hl 1 rfl) ?_
    refine va_get (D := (dC, dI)) (ci := 2) (v := .int 1) (C := RX2) (T := TX2) (N := 4) hx₀ hb hts inlX2 hown hK hP 0 rfl rfl 1 (by decide) (hts (.fieldLink RX9 25 "BittenStick$Text" "length" "I") wd_147) (fun _ h9 => h9) rfl dX9_readAgain_45 ?_
    have hPc := hP.sub (ws' := [(h, .inr (2, [.ref hv, .int 1, .int (-1), .int nu]))]) [0] rfl
    have hDc := hD.sub (ws' := [(h, .inr (2, [.ref hv, .int 1, .int (-1), .int nu]))]) [0] (by decide) rfl
    have hFc := va_free (wc := [(h, .inr (2, [.ref hv, .int 1, .int (-1), .int nu]))]) hD hS hA [0] rfl
    refine va_calli (va_runU (As := [.int 1]) (rest := []) ⟨hx₀, hb, hml, hown, hts⟩ (c_things1_X2 l dC dI cI cJ cQ H.size h hv 1 (-1) nu) (va_cwA 1 hts (kGU wd_186 wd_182 wd_183 wd_184 wd_185 wd_22) rfl rfl rfl hN.2.1 (by decide +kernel) ⟨Nat.le_of_ble_eq_true rfl, Nat.le_of_ble_eq_true rfl⟩) (k_preV (ci := 2) (q0 := 0) hK hPc hDc hN rfl rfl) rfl rfl hl.1 rfl (lv_room (Nat.le_of_ble_eq_true rfl)) dX9_readAgain_48 ⟨by decide +kernel, by decide +kernel⟩) hS (fun q _ h => hFc q h) hFc (fun r_4 u₀ t₀ H1 locs ht hvm hw hB hz1 hk1 hS => ?_)
    obtain ⟨hP1, hK1, hD1⟩ := hB
    rw [ht] at hP1
    obtain ⟨hP, hD⟩ := va_join (wr := [(hv, .inl (cI, 23, .inl f))]) (w1 := [(h, .inr (2, [.ref hv, .int 1, .int (-1), .int nu]))]) hP hD [0] [1] rfl rfl (by decide) (by decide) hk1 hFc hP1 hD1
    generalize H1 = H at hP hS ⊢
    have hP : va_P (dC, dI) vwCl [(hv, .inl (cI, 23, .inl f)), (h, .inr (2, [.ref hv, .int 1, .int (-1), .int nu]))] H := hP
    have hD : va_D A [(hv, .inl (cI, 23, .inl f)), (h, .inr (2, [.ref hv, .int 1, .int (-1), .int nu]))] := hD
    try dsimp only at hw
    refine k_topi (v := (-1)) hw ?_
    refine lv_istore_n (lv' := [(1, .int (-1)), (0, .ref h)]) hx₀ hb dX9_readAgain_51 rfl hl (by decide) rfl (fun ls hl => ?_)
    refine lv_aload_n hx₀ hb dX9_readAgain_52 rfl (lv_at hl 1 rfl) ?_
    refine va_get (D := (dC, dI)) (ci := 2) (v := .int (-1)) (C := RX2) (T := TX2) (N := 4) hx₀ hb hts inlX2 hown hK hP 1 rfl rfl 2 (by decide) (hts (.fieldLink RX9 9 "BittenStick$Text" "faultAt" "I") wd_60) (fun _ h9 => h9) rfl dX9_readAgain_53 ?_
    refine lv_iconst (v := (-1)) hx₀ hb dX9_readAgain_56 (by decide +kernel) ?_
    refine lv_icmp_ne (tgt := 73) hx₀ hb dX9_readAgain_57 (by decide) (fun c9 => absurd (by decide +kernel) c9) (fun _ => ?_)
    refine lv_iload_n hx₀ hb dX9_readAgain_60 rfl (lv_at hl 0 rfl) ?_
    refine lv_iconst (v := (-1)) hx₀ hb dX9_readAgain_61 (by decide +kernel) ?_
    refine lv_icmp_ne (tgt := 73) hx₀ hb dX9_readAgain_62 (by decide) (fun c9 => absurd (by decide +kernel) c9) (fun _ => ?_)
    refine lv_aload_n hx₀ hb dX9_readAgain_65 rfl (lv_at hl 1 rfl) ?_
    refine lv_aload_n hx₀ hb dX9_readAgain_66 rfl (lv_at hl 1 rfl) ?_
    refine va_get (D := (dC, dI)) (ci := 2) (v := .int 1) (C := RX2) (T := TX2) (N := 4) hx₀ hb hts inlX2 hown hK hP 1 rfl rfl 1 (by decide) (hts (.fieldLink RX9 25 "BittenStick$Text" "length" "I") wd_147) (fun _ h9 => h9) rfl dX9_readAgain_67 ?_
    refine va_put (D := (dC, dI)) (ci := 2) (v := .int 1) (ty := .int) (C := RX2) (T := TX2) (N := 4) hx₀ hb hts inlX2 tyX2 tyX2_ok nmX2 hown hK hP hD hS 1 rfl rfl 2 (by decide) (hts (.fieldLink RX9 9 "BittenStick$Text" "faultAt" "I") wd_60) (fun _ h9 => h9) rfl (by decide +kernel) rfl rfl (Nat.le_of_ble_eq_true rfl) dX9_readAgain_70 (fun H locs hP hD hS => ?_)
    have hP : va_P (dC, dI) vwCl [(hv, .inl (cI, 23, .inl f)), (h, .inr (2, [.ref hv, .int 1, .int 1, .int nu]))] H := hP
    have hD : va_D A [(hv, .inl (cI, 23, .inl f)), (h, .inr (2, [.ref hv, .int 1, .int 1, .int nu]))] := hD
    refine lv_aload_n hx₀ hb dX9_readAgain_73 rfl (lv_at hl 1 rfl) ?_
    refine lv_aload_n hx₀ hb dX9_readAgain_74 rfl (lv_at hl 1 rfl) ?_
    refine va_get (D := (dC, dI)) (ci := 2) (v := .int 1) (C := RX2) (T := TX2) (N := 4) hx₀ hb hts inlX2 hown hK hP 1 rfl rfl 2 (by decide) (hts (.fieldLink RX9 9 "BittenStick$Text" "faultAt" "I") wd_60) (fun _ h9 => h9) rfl dX9_readAgain_75 ?_
    refine lv_iconst (v := (-1)) hx₀ hb dX9_readAgain_78 (by decide +kernel) ?_
    refine lv_icmp_ne (tgt := 86) hx₀ hb dX9_readAgain_79 (by decide) (fun _ => ?_) (fun c9 => absurd c9 (by decide +kernel))
    refine lv_iconst (v := 0) hx₀ hb dX9_readAgain_86 (by decide +kernel) ?_
    refine va_put (D := (dC, dI)) (ci := 2) (v := .int 0) (ty := .int) (C := RX2) (T := TX2) (N := 4) hx₀ hb hts inlX2 tyX2 tyX2_ok nmX2 hown hK hP hD hS 1 rfl rfl 3 (by decide) (hts (.fieldLink RX9 37 "BittenStick$Text" "number" "I") wd_174) (fun _ h9 => h9) rfl (by decide +kernel) rfl rfl (Nat.le_of_ble_eq_true rfl) dX9_readAgain_87 (fun H locs hP hD hS => ?_)
    have hP : va_P (dC, dI) vwCl [(hv, .inl (cI, 23, .inl f)), (h, .inr (2, [.ref hv, .int 1, .int 1, .int 0]))] H := hP
    have hD : va_D A [(hv, .inl (cI, 23, .inl f)), (h, .inr (2, [.ref hv, .int 1, .int 1, .int 0]))] := hD
    have hP9 := hP.sub (ws' := [(h, .inr (2, [.ref hv, .int 1, .int 1, .int 0]))]) [1] rfl
    have hD9 := hD.sub (ws' := [(h, .inr (2, [.ref hv, .int 1, .int 1, .int 0]))]) [1] (by decide) rfl
    exact W.vret hx₀ hb hr (fun t₀ ht hW => ⟨⟨(1, 0), rfl, trivial, by rw [ht]; exact hP9, va_K.moved hW.alike hK, hD9⟩, hS.F ht⟩) hS.2.2 dX9_readAgain_90
  · refine lv_aload_n hx₀ hb dX9_readAgain_32 rfl (lv_at hl 1 rfl) ?_
    refine lv_iload_n hx₀ hb dX9_readAgain_33 rfl (lv_at hl 0 rfl) ?_
    refine va_put (D := (dC, dI)) (ci := 2) (v := .int 0) (ty := .int) (C := RX2) (T := TX2) (N := 4) hx₀ hb hts inlX2 tyX2 tyX2_ok nmX2 hown hK hP hD hS 0 rfl rfl 2 (by decide) (hts (.fieldLink RX9 9 "BittenStick$Text" "faultAt" "I") wd_60) (fun _ h9 => h9) rfl (by decide +kernel) rfl rfl (Nat.le_of_ble_eq_true rfl) dX9_readAgain_34 (fun H locs hP hD hS => ?_)
    have hP : va_P (dC, dI) vwCl [(h, .inr (2, [.ref hv, .int 1, .int 0, .int nu])), (hv, .inl (cI, 23, .inl f))] H := hP
    have hD : va_D A [(h, .inr (2, [.ref hv, .int 1, .int 0, .int nu])), (hv, .inl (cI, 23, .inl f))] := hD
    refine lv_iinc (v := 1) (lv' := [(1, .int 1), (0, .ref h)]) hx₀ hb dX9_readAgain_37 hl (k := 0) rfl (by decide +kernel) (by decide) rfl (fun ls hl => ?_)
    refine lv_goto (tgt := 7) hx₀ hb dX9_readAgain_40 (by decide) ?_
    refine lv_iload_n hx₀ hb dX9_readAgain_7 rfl (lv_at hl 0 rfl) ?_
    refine lv_aload_n hx₀ hb dX9_readAgain_8 rfl (lv_at hl 1 rfl) ?_
    refine va_get (D := (dC, dI)) (ci := 2) (v := .int 1) (C := RX2) (T := TX2) (N := 4) hx₀ hb hts inlX2 hown hK hP 0 rfl rfl 1 (by decide) (hts (.fieldLink RX9 25 "BittenStick$Text" "length" "I") wd_147) (fun _ h9 => h9) rfl dX9_readAgain_9 ?_
    refine lv_icmp_ge (tgt := 43) hx₀ hb dX9_readAgain_12 (by decide) (fun _ => ?_) (fun c9 => absurd (by decide +kernel) c9)
    refine lv_aload_n hx₀ hb dX9_readAgain_43 rfl (lv_at hl 1 rfl) ?_
    refine lv_aload_n hx₀ hb dX9_readAgain_44 rfl (lv_at hl 1 rfl) ?_
    refine va_get (D := (dC, dI)) (ci := 2) (v := .int 1) (C := RX2) (T := TX2) (N := 4) hx₀ hb hts inlX2 hown hK hP 0 rfl rfl 1 (by decide) (hts (.fieldLink RX9 25 "BittenStick$Text" "length" "I") wd_147) (fun _ h9 => h9) rfl dX9_readAgain_45 ?_
    have hPc := hP.sub (ws' := [(h, .inr (2, [.ref hv, .int 1, .int 0, .int nu]))]) [0] rfl
    have hDc := hD.sub (ws' := [(h, .inr (2, [.ref hv, .int 1, .int 0, .int nu]))]) [0] (by decide) rfl
    have hFc := va_free (wc := [(h, .inr (2, [.ref hv, .int 1, .int 0, .int nu]))]) hD hS hA [0] rfl
    refine va_calli (va_runU (As := [.int 1]) (rest := []) ⟨hx₀, hb, hml, hown, hts⟩ (c_things1_X2 l dC dI cI cJ cQ H.size h hv 1 0 nu) (va_cwA 1 hts (kGU wd_186 wd_182 wd_183 wd_184 wd_185 wd_22) rfl rfl rfl hN.2.1 (by decide +kernel) ⟨Nat.le_of_ble_eq_true rfl, Nat.le_of_ble_eq_true rfl⟩) (k_preV (ci := 2) (q0 := 0) hK hPc hDc hN rfl rfl) rfl rfl hl.1 rfl (lv_room (Nat.le_of_ble_eq_true rfl)) dX9_readAgain_48 ⟨by decide +kernel, by decide +kernel⟩) hS (fun q _ h => hFc q h) hFc (fun r_5 u₀ t₀ H1 locs ht hvm hw hB hz1 hk1 hS => ?_)
    obtain ⟨hP1, hK1, hD1⟩ := hB
    rw [ht] at hP1
    obtain ⟨hP, hD⟩ := va_join (wr := [(hv, .inl (cI, 23, .inl f))]) (w1 := [(h, .inr (2, [.ref hv, .int 1, .int 0, .int nu]))]) hP hD [0] [1] rfl rfl (by decide) (by decide) hk1 hFc hP1 hD1
    generalize H1 = H at hP hS ⊢
    have hP : va_P (dC, dI) vwCl [(hv, .inl (cI, 23, .inl f)), (h, .inr (2, [.ref hv, .int 1, .int 0, .int nu]))] H := hP
    have hD : va_D A [(hv, .inl (cI, 23, .inl f)), (h, .inr (2, [.ref hv, .int 1, .int 0, .int nu]))] := hD
    try dsimp only at hw
    refine k_topi (v := (-1)) hw ?_
    refine lv_istore_n (lv' := [(1, .int (-1)), (0, .ref h)]) hx₀ hb dX9_readAgain_51 rfl hl (by decide) rfl (fun ls hl => ?_)
    refine lv_aload_n hx₀ hb dX9_readAgain_52 rfl (lv_at hl 1 rfl) ?_
    refine va_get (D := (dC, dI)) (ci := 2) (v := .int 0) (C := RX2) (T := TX2) (N := 4) hx₀ hb hts inlX2 hown hK hP 1 rfl rfl 2 (by decide) (hts (.fieldLink RX9 9 "BittenStick$Text" "faultAt" "I") wd_60) (fun _ h9 => h9) rfl dX9_readAgain_53 ?_
    refine lv_iconst (v := (-1)) hx₀ hb dX9_readAgain_56 (by decide +kernel) ?_
    refine lv_icmp_ne (tgt := 73) hx₀ hb dX9_readAgain_57 (by decide) (fun _ => ?_) (fun c9 => absurd c9 (by decide +kernel))
    refine lv_aload_n hx₀ hb dX9_readAgain_73 rfl (lv_at hl 1 rfl) ?_
    refine lv_aload_n hx₀ hb dX9_readAgain_74 rfl (lv_at hl 1 rfl) ?_
    refine va_get (D := (dC, dI)) (ci := 2) (v := .int 0) (C := RX2) (T := TX2) (N := 4) hx₀ hb hts inlX2 hown hK hP 1 rfl rfl 2 (by decide) (hts (.fieldLink RX9 9 "BittenStick$Text" "faultAt" "I") wd_60) (fun _ h9 => h9) rfl dX9_readAgain_75 ?_
    refine lv_iconst (v := (-1)) hx₀ hb dX9_readAgain_78 (by decide +kernel) ?_
    refine lv_icmp_ne (tgt := 86) hx₀ hb dX9_readAgain_79 (by decide) (fun _ => ?_) (fun c9 => absurd c9 (by decide +kernel))
    refine lv_iconst (v := 0) hx₀ hb dX9_readAgain_86 (by decide +kernel) ?_
    refine va_put (D := (dC, dI)) (ci := 2) (v := .int 0) (ty := .int) (C := RX2) (T := TX2) (N := 4) hx₀ hb hts inlX2 tyX2 tyX2_ok nmX2 hown hK hP hD hS 1 rfl rfl 3 (by decide) (hts (.fieldLink RX9 37 "BittenStick$Text" "number" "I") wd_174) (fun _ h9 => h9) rfl (by decide +kernel) rfl rfl (Nat.le_of_ble_eq_true rfl) dX9_readAgain_87 (fun H locs hP hD hS => ?_)
    have hP : va_P (dC, dI) vwCl [(hv, .inl (cI, 23, .inl f)), (h, .inr (2, [.ref hv, .int 1, .int 0, .int 0]))] H := hP
    have hD : va_D A [(hv, .inl (cI, 23, .inl f)), (h, .inr (2, [.ref hv, .int 1, .int 0, .int 0]))] := hD
    have hP9 := hP.sub (ws' := [(h, .inr (2, [.ref hv, .int 1, .int 0, .int 0]))]) [1] rfl
    have hD9 := hD.sub (ws' := [(h, .inr (2, [.ref hv, .int 1, .int 0, .int 0]))]) [1] (by decide) rfl
    exact W.vret hx₀ hb hr (fun t₀ ht hW => ⟨⟨(0, 0), rfl, trivial, by rw [ht]; exact hP9, va_K.moved hW.alike hK, hD9⟩, hS.F ht⟩) hS.2.2 dX9_readAgain_90
set_option maxHeartbeats 4000000 in
set_option maxRecDepth 100000 in
theorem c_append0_X4 (l : Launch) (dC : Nat → ClassId) (dI : Nat → Nat → Nat) (cI cJ cQ : ClassId) (sz : Nat) (h : Nat) (b : Int32) (hv : Nat) (fa : Int32) (nu : Int32) (f : Nat → Int32) : Met l yX9_append (kW yX9_append cX9_append 2 none) { frames := 2, cells := 0, slots := 0, locals := 42 } (kPre dC dI cI cJ cQ sz [.ref h, .int b] [(h, .inr (4, [.ref hv, .int 0, .int fa, .int nu])), (hv, .inl (cI, 24, .inl f))]) (va_Qv (fun (_ : Int32 × Int32) => True) (fun (u : Int32 × Int32) t₀ => kB dC dI cI cJ cQ (va_A [(h, .inr (4, [.ref hv, .int 0, .int fa, .int nu])), (hv, .inl (cI, 24, .inl f))] sz) [(h, .inr (4, [.ref hv, .int 1, .int u.1, .int u.2]))] t₀) (va_A [(h, .inr (4, [.ref hv, .int 0, .int fa, .int nu])), (hv, .inl (cI, 24, .inl f))] sz)) 0 0 (va_A [(h, .inr (4, [.ref hv, .int 0, .int fa, .int nu])), (hv, .inl (cI, 24, .inl f))] sz) := by
  refine Met.ofW (cc := cX9_append) (maxL := 2) (ret := none) (by decide) rfl ?_
  intro p₀ e₀ s₀ m₀ args below meth c₀ s₁ B hml hv₀
  obtain ⟨rfl, hsz, hP, hK, hD0, hN⟩ := hv₀
  have hx₀ := B.exec
  have hb := B.bytes
  have hr := B.returns
  have hts := atoms_spec (ws := (kW yX9_append cX9_append 2 none)) B.pre
  have hts := fun w h => hts w (List.mem_cons_of_mem _ h)
  have hown : s₀.vm.findClass RX9 = some m₀.cls := findClass_of_methodNamed B.named
  have hlocks := B.notSynchronized
  subst hsz
  have hD := hD0.self (sz := s₀.heap.size)
  generalize hAe : va_A [(h, .inr (4, [.ref hv, .int 0, .int fa, .int nu])), (hv, .inl (cI, 24, .inl f))] s₀.heap.size = A at hD ⊢
  have hA : ∀ q : Nat, s₀.heap.size ≤ q → A q := fun q h => by rw [← hAe]; exact Or.inr h
  have hS : va_S A s₀.heap s₀.heap [] := va_S.rf
  have hP : va_P (dC, dI) vwCl [(h, .inr (4, [.ref hv, .int 0, .int fa, .int nu])), (hv, .inl (cI, 24, .inl f))] s₀.heap := hP
  have hl := lv_entry ([.ref h, .int b]) (n := 2) (Nat.le_of_ble_eq_true rfl)
  rw [lg_entry_eq]
  generalize (lg_sl ([.ref h, .int b]) ++ List.replicate (2 - (lg_sl ([.ref h, .int b])).length) Slot.unset).toArray = ls at hl ⊢
  have hl : lv_has ls 2 [(0, .ref h), (1, .int b)] := hl
  obtain ⟨H, hH⟩ : ∃ z : Heap, z = s₀.heap := ⟨_, rfl⟩
  rw [← hH] at hP
  have hS : va_S A s₀.heap H [] := by rw [hH]; exact hS
  refine k_heap hH ?_
  have hD : va_D A [(h, .inr (4, [.ref hv, .int 0, .int fa, .int nu])), (hv, .inl (cI, 24, .inl f))] := hD
  obtain ⟨locs, hlo⟩ : ∃ z : List Loc, z = [] := ⟨_, rfl⟩
  rw [← hlo] at hS ⊢
  clear hlo hH hAe hD0
  refine lv_aload_n hx₀ hb dX9_append_0 rfl (lv_at hl 0 rfl) ?_
  refine va_get (D := (dC, dI)) (ci := 4) (v := .int 0) (C := RX4) (T := TX4) (N := 4) hx₀ hb hts inlX4 hown hK hP 0 rfl rfl 1 (by decide) (hts (.fieldLink RX9 25 "BittenStick$Text" "length" "I") wd_147) (fun _ h9 => h9) rfl dX9_append_1 ?_
  refine lv_if_lt (tgt := 51) hx₀ hb dX9_append_4 (by decide) (fun c9 => absurd c9 (by decide +kernel)) (fun _ => ?_)
  refine lv_aload_n hx₀ hb dX9_append_7 rfl (lv_at hl 0 rfl) ?_
  refine va_get (D := (dC, dI)) (ci := 4) (v := .int 0) (C := RX4) (T := TX4) (N := 4) hx₀ hb hts inlX4 hown hK hP 0 rfl rfl 1 (by decide) (hts (.fieldLink RX9 25 "BittenStick$Text" "length" "I") wd_147) (fun _ h9 => h9) rfl dX9_append_8 ?_
  refine lv_aload_n hx₀ hb dX9_append_11 rfl (lv_at hl 0 rfl) ?_
  refine va_get (D := (dC, dI)) (ci := 4) (v := .ref hv) (C := RX4) (T := TX4) (N := 4) hx₀ hb hts inlX4 hown hK hP 0 rfl rfl 0 (by decide) (hts (.fieldLink RX9 21 "BittenStick$Text" "values" "[I") wd_65) (fun _ h9 => h9) rfl dX9_append_12 ?_
  refine va_alen (v := 24) hx₀ hb hK hP 1 0 rfl rfl rfl dX9_append_15 ?_
  refine lv_icmp_ge (tgt := 51) hx₀ hb dX9_append_16 (by decide) (fun c9 => absurd c9 (by decide +kernel)) (fun _ => ?_)
  refine lv_aload_n hx₀ hb dX9_append_19 rfl (lv_at hl 0 rfl) ?_
  refine va_get (D := (dC, dI)) (ci := 4) (v := .ref hv) (C := RX4) (T := TX4) (N := 4) hx₀ hb hts inlX4 hown hK hP 0 rfl rfl 0 (by decide) (hts (.fieldLink RX9 21 "BittenStick$Text" "values" "[I") wd_65) (fun _ h9 => h9) rfl dX9_append_20 ?_
  refine lv_aload_n hx₀ hb dX9_append_23 rfl (lv_at hl 0 rfl) ?_
  refine va_get (D := (dC, dI)) (ci := 4) (v := .int 0) (C := RX4) (T := TX4) (N := 4) hx₀ hb hts inlX4 hown hK hP 0 rfl rfl 1 (by decide) (hts (.fieldLink RX9 25 "BittenStick$Text" "length" "I") wd_147) (fun _ h9 => h9) rfl dX9_append_24 ?_
  refine lv_aload_n hx₀ hb dX9_append_27 rfl (lv_at hl 0 rfl) ?_
  refine lv_aload_n hx₀ hb dX9_append_28 rfl (lv_at hl 0 rfl) ?_
  refine va_get (D := (dC, dI)) (ci := 4) (v := .int 0) (C := RX4) (T := TX4) (N := 4) hx₀ hb hts inlX4 hown hK hP 0 rfl rfl 1 (by decide) (hts (.fieldLink RX9 25 "BittenStick$Text" "length" "I") wd_147) (fun _ h9 => h9) rfl dX9_append_29 ?_
  refine lv_iload_n hx₀ hb dX9_append_32 rfl (lv_at hl 1 rfl) ?_
  have hPc := hP.sub (ws' := [(h, .inr (4, [.ref hv, .int 0, .int fa, .int nu]))]) [0] rfl
  have hDc := hD.sub (ws' := [(h, .inr (4, [.ref hv, .int 0, .int fa, .int nu]))]) [0] (by decide) rfl
  have hFc := va_free (wc := [(h, .inr (4, [.ref hv, .int 0, .int fa, .int nu]))]) hD hS hA [0] rfl
  refine va_calli (va_runU (As := [.int 0, .int b]) (rest := [.int 0, .ref hv]) ⟨hx₀, hb, hml, hown, hts⟩ (c_worth0_X4 l dC dI cI cJ cQ H.size h b hv 0 fa nu) (va_cwA 2 hts (kGU wd_162 wd_155 wd_156 wd_160 wd_161 wd_14) rfl rfl rfl hN.1 (by decide +kernel) ⟨Nat.le_of_ble_eq_true rfl, Nat.le_of_ble_eq_true rfl⟩) (k_preV (ci := 4) (q0 := 0) hK hPc hDc hN rfl rfl) rfl rfl hl.1 rfl (lv_room (Nat.le_of_ble_eq_true rfl)) dX9_append_33 ⟨by decide +kernel, by decide +kernel⟩) hS (fun q _ h => hFc q h) hFc (fun r_1 u₀ t₀ H1 locs ht hvm hw hB hz1 hk1 hS => ?_)
  obtain ⟨hP1, hK1, hD1⟩ := hB
  rw [ht] at hP1
  obtain ⟨hP, hD⟩ := va_join (wr := [(hv, .inl (cI, 24, .inl f))]) (w1 := [(h, .inr (4, [.ref hv, .int 0, .int fa, .int nu]))]) hP hD [0] [1] rfl rfl (by decide) (by decide) hk1 hFc hP1 hD1
  generalize H1 = H at hP hS ⊢
  have hP : va_P (dC, dI) vwCl [(hv, .inl (cI, 24, .inl f)), (h, .inr (4, [.ref hv, .int 0, .int fa, .int nu]))] H := hP
  have hD : va_D A [(hv, .inl (cI, 24, .inl f)), (h, .inr (4, [.ref hv, .int 0, .int fa, .int nu]))] := hD
  try dsimp only at hw
  refine va_iast hx₀ hb hK hP hD hS 0 0 rfl rfl (by unfold vp_in; decide +kernel) dX9_append_36 (fun H locs hP hD hS => ?_)
  have hP : va_P (dC, dI) vwCl [(hv, .inl (cI, 24, .inl (upd f (0 : Int32).toNatClampNeg r_1))), (h, .inr (4, [.ref hv, .int 0, .int fa, .int nu]))] H := hP
  have hD : va_D A [(hv, .inl (cI, 24, .inl (upd f (0 : Int32).toNatClampNeg r_1))), (h, .inr (4, [.ref hv, .int 0, .int fa, .int nu]))] := hD
  refine lv_aload_n hx₀ hb dX9_append_37 rfl (lv_at hl 0 rfl) ?_
  refine lv_dup hx₀ hb dX9_append_38 rfl ?_
  refine va_get (D := (dC, dI)) (ci := 4) (v := .int 0) (C := RX4) (T := TX4) (N := 4) hx₀ hb hts inlX4 hown hK hP 1 rfl rfl 1 (by decide) (hts (.fieldLink RX9 25 "BittenStick$Text" "length" "I") wd_147) (fun _ h9 => h9) rfl dX9_append_39 ?_
  refine lv_iconst (v := 1) hx₀ hb dX9_append_42 (by decide +kernel) ?_
  refine lv_iadd hx₀ hb dX9_append_43 ?_
  refine k_topi (v := 1) (by decide +kernel) ?_
  refine va_put (D := (dC, dI)) (ci := 4) (v := .int 1) (ty := .int) (C := RX4) (T := TX4) (N := 4) hx₀ hb hts inlX4 tyX4 tyX4_ok nmX4 hown hK hP hD hS 1 rfl rfl 1 (by decide) (hts (.fieldLink RX9 25 "BittenStick$Text" "length" "I") wd_147) (fun _ h9 => h9) rfl (by decide +kernel) rfl rfl (Nat.le_of_ble_eq_true rfl) dX9_append_44 (fun H locs hP hD hS => ?_)
  have hP : va_P (dC, dI) vwCl [(hv, .inl (cI, 24, .inl (upd f (0 : Int32).toNatClampNeg r_1))), (h, .inr (4, [.ref hv, .int 1, .int fa, .int nu]))] H := hP
  have hD : va_D A [(hv, .inl (cI, 24, .inl (upd f (0 : Int32).toNatClampNeg r_1))), (h, .inr (4, [.ref hv, .int 1, .int fa, .int nu]))] := hD
  refine lv_aload_n hx₀ hb dX9_append_47 rfl (lv_at hl 0 rfl) ?_
  have hPc := hP.sub (ws' := [(h, .inr (4, [.ref hv, .int 1, .int fa, .int nu])), (hv, .inl (cI, 24, .inl (upd f (0 : Int32).toNatClampNeg r_1)))]) [1, 0] rfl
  have hDc := hD.sub (ws' := [(h, .inr (4, [.ref hv, .int 1, .int fa, .int nu])), (hv, .inl (cI, 24, .inl (upd f (0 : Int32).toNatClampNeg r_1)))]) [1, 0] (by decide) rfl
  have hFc := va_free (wc := [(h, .inr (4, [.ref hv, .int 1, .int fa, .int nu])), (hv, .inl (cI, 24, .inl (upd f (0 : Int32).toNatClampNeg r_1)))]) hD hS hA [1, 0] rfl
  refine va_callv (va_runU (As := []) (rest := []) ⟨hx₀, hb, hml, hown, hts⟩ (c_again1_X4 l dC dI cI cJ cQ H.size h hv fa nu (upd f (0 : Int32).toNatClampNeg r_1)) (va_cwU 0 hts (kGU wd_173 wd_169 wd_170 wd_193 wd_172 wd_57) rfl rfl rfl rfl (by decide +kernel) ⟨Nat.le_of_ble_eq_true rfl, Nat.le_of_ble_eq_true rfl⟩) (k_preV (ci := 4) (q0 := 0) hK hPc hDc hN rfl rfl) rfl rfl hl.1 rfl (lv_room (Nat.le_of_ble_eq_true rfl)) dX9_append_48 ⟨by decide +kernel, by decide +kernel⟩) hS (fun q _ h => hFc q h) hFc (fun u₀ t₀ H1 locs ht hvm hw hB hz1 hk1 hS => ?_)
  obtain ⟨qn_3, qn_4⟩ := u₀
  obtain ⟨hP1, hK1, hD1⟩ := hB
  rw [ht] at hP1
  obtain ⟨hP, hD⟩ := va_join (wr := []) (w1 := [(h, .inr (4, [.ref hv, .int 1, .int qn_3, .int qn_4]))]) hP hD [1, 0] [] rfl rfl (by decide) (by decide) hk1 hFc hP1 hD1
  generalize H1 = H at hP hS ⊢
  have hP : va_P (dC, dI) vwCl [(h, .inr (4, [.ref hv, .int 1, .int qn_3, .int qn_4]))] H := hP
  have hD : va_D A [(h, .inr (4, [.ref hv, .int 1, .int qn_3, .int qn_4]))] := hD
  have hP9 := hP.sub (ws' := [(h, .inr (4, [.ref hv, .int 1, .int qn_3, .int qn_4]))]) [0] rfl
  have hD9 := hD.sub (ws' := [(h, .inr (4, [.ref hv, .int 1, .int qn_3, .int qn_4]))]) [0] (by decide) rfl
  exact W.vret hx₀ hb hr (fun t₀ ht hW => ⟨⟨(qn_3, qn_4), rfl, trivial, by rw [ht]; exact hP9, va_K.moved hW.alike hK, hD9⟩, hS.F ht⟩) hS.2.2 dX9_append_51
set_option maxHeartbeats 4000000 in
set_option maxRecDepth 100000 in
theorem c_shorten0_X4 (l : Launch) (dC : Nat → ClassId) (dI : Nat → Nat → Nat) (cI cJ cQ : ClassId) (sz : Nat) (h : Nat) (hv : Nat) (fa : Int32) (nu : Int32) : Met l yX9_shorten (kW yX9_shorten cX9_shorten 2 none) { frames := 2, cells := 0, slots := 0, locals := 42 } (kPre dC dI cI cJ cQ sz [.ref h, .int 0] [(h, .inr (4, [.ref hv, .int 0, .int fa, .int nu]))]) (va_Qv (fun (_ : Unit) => True) (fun _ t₀ => kB dC dI cI cJ cQ (va_A [(h, .inr (4, [.ref hv, .int 0, .int fa, .int nu]))] sz) [(h, .inr (4, [.ref hv, .int 0, .int (-1), .int 0]))] t₀) (va_A [(h, .inr (4, [.ref hv, .int 0, .int fa, .int nu]))] sz)) 0 0 (va_A [(h, .inr (4, [.ref hv, .int 0, .int fa, .int nu]))] sz) := by
  refine Met.ofW (cc := cX9_shorten) (maxL := 2) (ret := none) (by decide) rfl ?_
  intro p₀ e₀ s₀ m₀ args below meth c₀ s₁ B hml hv₀
  obtain ⟨rfl, hsz, hP, hK, hD0, hN⟩ := hv₀
  have hx₀ := B.exec
  have hb := B.bytes
  have hr := B.returns
  have hts := atoms_spec (ws := (kW yX9_shorten cX9_shorten 2 none)) B.pre
  have hts := fun w h => hts w (List.mem_cons_of_mem _ h)
  have hown : s₀.vm.findClass RX9 = some m₀.cls := findClass_of_methodNamed B.named
  have hlocks := B.notSynchronized
  subst hsz
  have hD := hD0.self (sz := s₀.heap.size)
  generalize hAe : va_A [(h, .inr (4, [.ref hv, .int 0, .int fa, .int nu]))] s₀.heap.size = A at hD ⊢
  have hA : ∀ q : Nat, s₀.heap.size ≤ q → A q := fun q h => by rw [← hAe]; exact Or.inr h
  have hS : va_S A s₀.heap s₀.heap [] := va_S.rf
  have hP : va_P (dC, dI) vwCl [(h, .inr (4, [.ref hv, .int 0, .int fa, .int nu]))] s₀.heap := hP
  have hl := lv_entry ([.ref h, .int 0]) (n := 2) (Nat.le_of_ble_eq_true rfl)
  rw [lg_entry_eq]
  generalize (lg_sl ([.ref h, .int 0]) ++ List.replicate (2 - (lg_sl ([.ref h, .int 0])).length) Slot.unset).toArray = ls at hl ⊢
  have hl : lv_has ls 2 [(0, .ref h), (1, .int 0)] := hl
  obtain ⟨H, hH⟩ : ∃ z : Heap, z = s₀.heap := ⟨_, rfl⟩
  rw [← hH] at hP
  have hS : va_S A s₀.heap H [] := by rw [hH]; exact hS
  refine k_heap hH ?_
  have hD : va_D A [(h, .inr (4, [.ref hv, .int 0, .int fa, .int nu]))] := hD
  obtain ⟨locs, hlo⟩ : ∃ z : List Loc, z = [] := ⟨_, rfl⟩
  rw [← hlo] at hS ⊢
  clear hlo hH hAe hD0
  refine lv_aload_n hx₀ hb dX9_shorten_0 rfl (lv_at hl 0 rfl) ?_
  refine lv_iconst (v := 0) hx₀ hb dX9_shorten_1 (by decide +kernel) ?_
  refine lv_iload_n hx₀ hb dX9_shorten_2 rfl (lv_at hl 1 rfl) ?_
  refine lv_aload_n hx₀ hb dX9_shorten_3 rfl (lv_at hl 0 rfl) ?_
  refine va_get (D := (dC, dI)) (ci := 4) (v := .int 0) (C := RX4) (T := TX4) (N := 4) hx₀ hb hts inlX4 hown hK hP 0 rfl rfl 1 (by decide) (hts (.fieldLink RX9 25 "BittenStick$Text" "length" "I") wd_147) (fun _ h9 => h9) rfl dX9_shorten_4 ?_
  refine va_mmin hx₀ hb (by rw [hml]; exact hl.1.symm) hown (hts (.methodLink RX9 34 Lib.Math.min.name) wd_218) (hts (.static Lib.Math.min.name) wd_219) (hts (.initialized "java/lang/Math") wd_63) (hts (.code Lib.Math.min.name Lib.Math.min.code 2 (some .int)) wd_220) (by decide) (Nat.le_of_ble_eq_true rfl) (by decide) (by decide) dX9_shorten_7 ?_
  refine k_topi (v := 0) (by decide +kernel) ?_
  refine va_mmax hx₀ hb (by rw [hml]; exact hl.1.symm) hown (hts (.methodLink RX9 15 Lib.Math.max.name) wd_61) (hts (.static Lib.Math.max.name) wd_62) (hts (.initialized "java/lang/Math") wd_63) (hts (.code Lib.Math.max.name Lib.Math.max.code 2 (some .int)) wd_64) (by decide) (Nat.le_of_ble_eq_true rfl) (by decide) (by decide) dX9_shorten_10 ?_
  refine k_topi (v := 0) (by decide +kernel) ?_
  refine va_put (D := (dC, dI)) (ci := 4) (v := .int 0) (ty := .int) (C := RX4) (T := TX4) (N := 4) hx₀ hb hts inlX4 tyX4 tyX4_ok nmX4 hown hK hP hD hS 0 rfl rfl 1 (by decide) (hts (.fieldLink RX9 25 "BittenStick$Text" "length" "I") wd_147) (fun _ h9 => h9) rfl (by decide +kernel) rfl rfl (Nat.le_of_ble_eq_true rfl) dX9_shorten_13 (fun H locs hP hD hS => ?_)
  have hP : va_P (dC, dI) vwCl [(h, .inr (4, [.ref hv, .int 0, .int fa, .int nu]))] H := hP
  have hD : va_D A [(h, .inr (4, [.ref hv, .int 0, .int fa, .int nu]))] := hD
  refine lv_aload_n hx₀ hb dX9_shorten_16 rfl (lv_at hl 0 rfl) ?_
  have hPc := hP.sub (ws' := [(h, .inr (4, [.ref hv, .int 0, .int fa, .int nu]))]) [0] rfl
  have hDc := hD.sub (ws' := [(h, .inr (4, [.ref hv, .int 0, .int fa, .int nu]))]) [0] (by decide) rfl
  have hFc := va_free (wc := [(h, .inr (4, [.ref hv, .int 0, .int fa, .int nu]))]) hD hS hA [0] rfl
  refine va_callv (va_runU (As := []) (rest := []) ⟨hx₀, hb, hml, hown, hts⟩ (c_again0_X4 l dC dI cI cJ cQ H.size h hv fa nu) (va_cwU 0 hts (kGU wd_173 wd_169 wd_170 wd_193 wd_172 wd_57) rfl rfl rfl rfl (by decide +kernel) ⟨Nat.le_of_ble_eq_true rfl, Nat.le_of_ble_eq_true rfl⟩) (k_preV (ci := 4) (q0 := 0) hK hPc hDc hN rfl rfl) rfl rfl hl.1 rfl (lv_room (Nat.le_of_ble_eq_true rfl)) dX9_shorten_17 ⟨by decide +kernel, by decide +kernel⟩) hS (fun q _ h => hFc q h) hFc (fun u₀ t₀ H1 locs ht hvm hw hB hz1 hk1 hS => ?_)
  obtain ⟨hP1, hK1, hD1⟩ := hB
  rw [ht] at hP1
  obtain ⟨hP, hD⟩ := va_join (wr := []) (w1 := [(h, .inr (4, [.ref hv, .int 0, .int (-1), .int 0]))]) hP hD [0] [] rfl rfl (by decide) (by decide) hk1 hFc hP1 hD1
  generalize H1 = H at hP hS ⊢
  have hP : va_P (dC, dI) vwCl [(h, .inr (4, [.ref hv, .int 0, .int (-1), .int 0]))] H := hP
  have hD : va_D A [(h, .inr (4, [.ref hv, .int 0, .int (-1), .int 0]))] := hD
  have hP9 := hP.sub (ws' := [(h, .inr (4, [.ref hv, .int 0, .int (-1), .int 0]))]) [0] rfl
  have hD9 := hD.sub (ws' := [(h, .inr (4, [.ref hv, .int 0, .int (-1), .int 0]))]) [0] (by decide) rfl
  exact W.vret hx₀ hb hr (fun t₀ ht hW => ⟨⟨(), rfl, trivial, by rw [ht]; exact hP9, va_K.moved hW.alike hK, hD9⟩, hS.F ht⟩) hS.2.2 dX9_shorten_20
set_option maxHeartbeats 4000000 in
set_option maxRecDepth 100000 in
theorem c_append0_X7 (l : Launch) (dC : Nat → ClassId) (dI : Nat → Nat → Nat) (cI cJ cQ : ClassId) (sz : Nat) (h : Nat) (b : Int32) (hv : Nat) (fa : Int32) (nu : Int32) (f : Nat → Int32) : Met l yX9_append (kW yX9_append cX9_append 2 none) { frames := 2, cells := 0, slots := 0, locals := 42 } (kPre dC dI cI cJ cQ sz [.ref h, .int b] [(h, .inr (7, [.ref hv, .int 0, .int fa, .int nu])), (hv, .inl (cI, 39, .inl f))]) (va_Qv (fun (_ : Int32 × Int32) => True) (fun (u : Int32 × Int32) t₀ => kB dC dI cI cJ cQ (va_A [(h, .inr (7, [.ref hv, .int 0, .int fa, .int nu])), (hv, .inl (cI, 39, .inl f))] sz) [(h, .inr (7, [.ref hv, .int 1, .int u.1, .int u.2]))] t₀) (va_A [(h, .inr (7, [.ref hv, .int 0, .int fa, .int nu])), (hv, .inl (cI, 39, .inl f))] sz)) 0 0 (va_A [(h, .inr (7, [.ref hv, .int 0, .int fa, .int nu])), (hv, .inl (cI, 39, .inl f))] sz) := by
  refine Met.ofW (cc := cX9_append) (maxL := 2) (ret := none) (by decide) rfl ?_
  intro p₀ e₀ s₀ m₀ args below meth c₀ s₁ B hml hv₀
  obtain ⟨rfl, hsz, hP, hK, hD0, hN⟩ := hv₀
  have hx₀ := B.exec
  have hb := B.bytes
  have hr := B.returns
  have hts := atoms_spec (ws := (kW yX9_append cX9_append 2 none)) B.pre
  have hts := fun w h => hts w (List.mem_cons_of_mem _ h)
  have hown : s₀.vm.findClass RX9 = some m₀.cls := findClass_of_methodNamed B.named
  have hlocks := B.notSynchronized
  subst hsz
  have hD := hD0.self (sz := s₀.heap.size)
  generalize hAe : va_A [(h, .inr (7, [.ref hv, .int 0, .int fa, .int nu])), (hv, .inl (cI, 39, .inl f))] s₀.heap.size = A at hD ⊢
  have hA : ∀ q : Nat, s₀.heap.size ≤ q → A q := fun q h => by rw [← hAe]; exact Or.inr h
  have hS : va_S A s₀.heap s₀.heap [] := va_S.rf
  have hP : va_P (dC, dI) vwCl [(h, .inr (7, [.ref hv, .int 0, .int fa, .int nu])), (hv, .inl (cI, 39, .inl f))] s₀.heap := hP
  have hl := lv_entry ([.ref h, .int b]) (n := 2) (Nat.le_of_ble_eq_true rfl)
  rw [lg_entry_eq]
  generalize (lg_sl ([.ref h, .int b]) ++ List.replicate (2 - (lg_sl ([.ref h, .int b])).length) Slot.unset).toArray = ls at hl ⊢
  have hl : lv_has ls 2 [(0, .ref h), (1, .int b)] := hl
  obtain ⟨H, hH⟩ : ∃ z : Heap, z = s₀.heap := ⟨_, rfl⟩
  rw [← hH] at hP
  have hS : va_S A s₀.heap H [] := by rw [hH]; exact hS
  refine k_heap hH ?_
  have hD : va_D A [(h, .inr (7, [.ref hv, .int 0, .int fa, .int nu])), (hv, .inl (cI, 39, .inl f))] := hD
  obtain ⟨locs, hlo⟩ : ∃ z : List Loc, z = [] := ⟨_, rfl⟩
  rw [← hlo] at hS ⊢
  clear hlo hH hAe hD0
  refine lv_aload_n hx₀ hb dX9_append_0 rfl (lv_at hl 0 rfl) ?_
  refine va_get (D := (dC, dI)) (ci := 7) (v := .int 0) (C := RX7) (T := TX7) (N := 4) hx₀ hb hts inlX7 hown hK hP 0 rfl rfl 1 (by decide) (hts (.fieldLink RX9 25 "BittenStick$Text" "length" "I") wd_147) (fun _ h9 => h9) rfl dX9_append_1 ?_
  refine lv_if_lt (tgt := 51) hx₀ hb dX9_append_4 (by decide) (fun c9 => absurd c9 (by decide +kernel)) (fun _ => ?_)
  refine lv_aload_n hx₀ hb dX9_append_7 rfl (lv_at hl 0 rfl) ?_
  refine va_get (D := (dC, dI)) (ci := 7) (v := .int 0) (C := RX7) (T := TX7) (N := 4) hx₀ hb hts inlX7 hown hK hP 0 rfl rfl 1 (by decide) (hts (.fieldLink RX9 25 "BittenStick$Text" "length" "I") wd_147) (fun _ h9 => h9) rfl dX9_append_8 ?_
  refine lv_aload_n hx₀ hb dX9_append_11 rfl (lv_at hl 0 rfl) ?_
  refine va_get (D := (dC, dI)) (ci := 7) (v := .ref hv) (C := RX7) (T := TX7) (N := 4) hx₀ hb hts inlX7 hown hK hP 0 rfl rfl 0 (by decide) (hts (.fieldLink RX9 21 "BittenStick$Text" "values" "[I") wd_65) (fun _ h9 => h9) rfl dX9_append_12 ?_
  refine va_alen (v := 39) hx₀ hb hK hP 1 0 rfl rfl rfl dX9_append_15 ?_
  refine lv_icmp_ge (tgt := 51) hx₀ hb dX9_append_16 (by decide) (fun c9 => absurd c9 (by decide +kernel)) (fun _ => ?_)
  refine lv_aload_n hx₀ hb dX9_append_19 rfl (lv_at hl 0 rfl) ?_
  refine va_get (D := (dC, dI)) (ci := 7) (v := .ref hv) (C := RX7) (T := TX7) (N := 4) hx₀ hb hts inlX7 hown hK hP 0 rfl rfl 0 (by decide) (hts (.fieldLink RX9 21 "BittenStick$Text" "values" "[I") wd_65) (fun _ h9 => h9) rfl dX9_append_20 ?_
  refine lv_aload_n hx₀ hb dX9_append_23 rfl (lv_at hl 0 rfl) ?_
  refine va_get (D := (dC, dI)) (ci := 7) (v := .int 0) (C := RX7) (T := TX7) (N := 4) hx₀ hb hts inlX7 hown hK hP 0 rfl rfl 1 (by decide) (hts (.fieldLink RX9 25 "BittenStick$Text" "length" "I") wd_147) (fun _ h9 => h9) rfl dX9_append_24 ?_
  refine lv_aload_n hx₀ hb dX9_append_27 rfl (lv_at hl 0 rfl) ?_
  refine lv_aload_n hx₀ hb dX9_append_28 rfl (lv_at hl 0 rfl) ?_
  refine va_get (D := (dC, dI)) (ci := 7) (v := .int 0) (C := RX7) (T := TX7) (N := 4) hx₀ hb hts inlX7 hown hK hP 0 rfl rfl 1 (by decide) (hts (.fieldLink RX9 25 "BittenStick$Text" "length" "I") wd_147) (fun _ h9 => h9) rfl dX9_append_29 ?_
  refine lv_iload_n hx₀ hb dX9_append_32 rfl (lv_at hl 1 rfl) ?_
  have hPc := hP.sub (ws' := [(h, .inr (7, [.ref hv, .int 0, .int fa, .int nu]))]) [0] rfl
  have hDc := hD.sub (ws' := [(h, .inr (7, [.ref hv, .int 0, .int fa, .int nu]))]) [0] (by decide) rfl
  have hFc := va_free (wc := [(h, .inr (7, [.ref hv, .int 0, .int fa, .int nu]))]) hD hS hA [0] rfl
  refine va_calli (va_runU (As := [.int 0, .int b]) (rest := [.int 0, .ref hv]) ⟨hx₀, hb, hml, hown, hts⟩ (c_worth0_X7 l dC dI cI cJ cQ H.size h b hv 0 fa nu) (va_cwA 2 hts (kGU wd_165 wd_155 wd_156 wd_163 wd_164 wd_18) rfl rfl rfl hN.1 (by decide +kernel) ⟨Nat.le_of_ble_eq_true rfl, Nat.le_of_ble_eq_true rfl⟩) (k_preV (ci := 7) (q0 := 0) hK hPc hDc hN rfl rfl) rfl rfl hl.1 rfl (lv_room (Nat.le_of_ble_eq_true rfl)) dX9_append_33 ⟨by decide +kernel, by decide +kernel⟩) hS (fun q _ h => hFc q h) hFc (fun r_1 u₀ t₀ H1 locs ht hvm hw hB hz1 hk1 hS => ?_)
  obtain ⟨hP1, hK1, hD1⟩ := hB
  rw [ht] at hP1
  obtain ⟨hP, hD⟩ := va_join (wr := [(hv, .inl (cI, 39, .inl f))]) (w1 := [(h, .inr (7, [.ref hv, .int 0, .int fa, .int nu]))]) hP hD [0] [1] rfl rfl (by decide) (by decide) hk1 hFc hP1 hD1
  generalize H1 = H at hP hS ⊢
  have hP : va_P (dC, dI) vwCl [(hv, .inl (cI, 39, .inl f)), (h, .inr (7, [.ref hv, .int 0, .int fa, .int nu]))] H := hP
  have hD : va_D A [(hv, .inl (cI, 39, .inl f)), (h, .inr (7, [.ref hv, .int 0, .int fa, .int nu]))] := hD
  try dsimp only at hw
  refine va_iast hx₀ hb hK hP hD hS 0 0 rfl rfl (by unfold vp_in; decide +kernel) dX9_append_36 (fun H locs hP hD hS => ?_)
  have hP : va_P (dC, dI) vwCl [(hv, .inl (cI, 39, .inl (upd f (0 : Int32).toNatClampNeg r_1))), (h, .inr (7, [.ref hv, .int 0, .int fa, .int nu]))] H := hP
  have hD : va_D A [(hv, .inl (cI, 39, .inl (upd f (0 : Int32).toNatClampNeg r_1))), (h, .inr (7, [.ref hv, .int 0, .int fa, .int nu]))] := hD
  refine lv_aload_n hx₀ hb dX9_append_37 rfl (lv_at hl 0 rfl) ?_
  refine lv_dup hx₀ hb dX9_append_38 rfl ?_
  refine va_get (D := (dC, dI)) (ci := 7) (v := .int 0) (C := RX7) (T := TX7) (N := 4) hx₀ hb hts inlX7 hown hK hP 1 rfl rfl 1 (by decide) (hts (.fieldLink RX9 25 "BittenStick$Text" "length" "I") wd_147) (fun _ h9 => h9) rfl dX9_append_39 ?_
  refine lv_iconst (v := 1) hx₀ hb dX9_append_42 (by decide +kernel) ?_
  refine lv_iadd hx₀ hb dX9_append_43 ?_
  refine k_topi (v := 1) (by decide +kernel) ?_
  refine va_put (D := (dC, dI)) (ci := 7) (v := .int 1) (ty := .int) (C := RX7) (T := TX7) (N := 4) hx₀ hb hts inlX7 tyX7 tyX7_ok nmX7 hown hK hP hD hS 1 rfl rfl 1 (by decide) (hts (.fieldLink RX9 25 "BittenStick$Text" "length" "I") wd_147) (fun _ h9 => h9) rfl (by decide +kernel) rfl rfl (Nat.le_of_ble_eq_true rfl) dX9_append_44 (fun H locs hP hD hS => ?_)
  have hP : va_P (dC, dI) vwCl [(hv, .inl (cI, 39, .inl (upd f (0 : Int32).toNatClampNeg r_1))), (h, .inr (7, [.ref hv, .int 1, .int fa, .int nu]))] H := hP
  have hD : va_D A [(hv, .inl (cI, 39, .inl (upd f (0 : Int32).toNatClampNeg r_1))), (h, .inr (7, [.ref hv, .int 1, .int fa, .int nu]))] := hD
  refine lv_aload_n hx₀ hb dX9_append_47 rfl (lv_at hl 0 rfl) ?_
  have hPc := hP.sub (ws' := [(h, .inr (7, [.ref hv, .int 1, .int fa, .int nu])), (hv, .inl (cI, 39, .inl (upd f (0 : Int32).toNatClampNeg r_1)))]) [1, 0] rfl
  have hDc := hD.sub (ws' := [(h, .inr (7, [.ref hv, .int 1, .int fa, .int nu])), (hv, .inl (cI, 39, .inl (upd f (0 : Int32).toNatClampNeg r_1)))]) [1, 0] (by decide) rfl
  have hFc := va_free (wc := [(h, .inr (7, [.ref hv, .int 1, .int fa, .int nu])), (hv, .inl (cI, 39, .inl (upd f (0 : Int32).toNatClampNeg r_1)))]) hD hS hA [1, 0] rfl
  refine va_callv (va_runU (As := []) (rest := []) ⟨hx₀, hb, hml, hown, hts⟩ (c_again1_X7 l dC dI cI cJ cQ H.size h hv fa nu (upd f (0 : Int32).toNatClampNeg r_1)) (va_cwU 0 hts (kGU wd_173 wd_169 wd_170 wd_194 wd_172 wd_57) rfl rfl rfl rfl (by decide +kernel) ⟨Nat.le_of_ble_eq_true rfl, Nat.le_of_ble_eq_true rfl⟩) (k_preV (ci := 7) (q0 := 0) hK hPc hDc hN rfl rfl) rfl rfl hl.1 rfl (lv_room (Nat.le_of_ble_eq_true rfl)) dX9_append_48 ⟨by decide +kernel, by decide +kernel⟩) hS (fun q _ h => hFc q h) hFc (fun u₀ t₀ H1 locs ht hvm hw hB hz1 hk1 hS => ?_)
  obtain ⟨qn_3, qn_4⟩ := u₀
  obtain ⟨hP1, hK1, hD1⟩ := hB
  rw [ht] at hP1
  obtain ⟨hP, hD⟩ := va_join (wr := []) (w1 := [(h, .inr (7, [.ref hv, .int 1, .int qn_3, .int qn_4]))]) hP hD [1, 0] [] rfl rfl (by decide) (by decide) hk1 hFc hP1 hD1
  generalize H1 = H at hP hS ⊢
  have hP : va_P (dC, dI) vwCl [(h, .inr (7, [.ref hv, .int 1, .int qn_3, .int qn_4]))] H := hP
  have hD : va_D A [(h, .inr (7, [.ref hv, .int 1, .int qn_3, .int qn_4]))] := hD
  have hP9 := hP.sub (ws' := [(h, .inr (7, [.ref hv, .int 1, .int qn_3, .int qn_4]))]) [0] rfl
  have hD9 := hD.sub (ws' := [(h, .inr (7, [.ref hv, .int 1, .int qn_3, .int qn_4]))]) [0] (by decide) rfl
  exact W.vret hx₀ hb hr (fun t₀ ht hW => ⟨⟨(qn_3, qn_4), rfl, trivial, by rw [ht]; exact hP9, va_K.moved hW.alike hK, hD9⟩, hS.F ht⟩) hS.2.2 dX9_append_51
set_option maxHeartbeats 4000000 in
set_option maxRecDepth 100000 in
theorem c_shorten0_X7 (l : Launch) (dC : Nat → ClassId) (dI : Nat → Nat → Nat) (cI cJ cQ : ClassId) (sz : Nat) (h : Nat) (hv : Nat) (fa : Int32) (nu : Int32) : Met l yX9_shorten (kW yX9_shorten cX9_shorten 2 none) { frames := 2, cells := 0, slots := 0, locals := 42 } (kPre dC dI cI cJ cQ sz [.ref h, .int 0] [(h, .inr (7, [.ref hv, .int 0, .int fa, .int nu]))]) (va_Qv (fun (_ : Unit) => True) (fun _ t₀ => kB dC dI cI cJ cQ (va_A [(h, .inr (7, [.ref hv, .int 0, .int fa, .int nu]))] sz) [(h, .inr (7, [.ref hv, .int 0, .int (-1), .int 0]))] t₀) (va_A [(h, .inr (7, [.ref hv, .int 0, .int fa, .int nu]))] sz)) 0 0 (va_A [(h, .inr (7, [.ref hv, .int 0, .int fa, .int nu]))] sz) := by
  refine Met.ofW (cc := cX9_shorten) (maxL := 2) (ret := none) (by decide) rfl ?_
  intro p₀ e₀ s₀ m₀ args below meth c₀ s₁ B hml hv₀
  obtain ⟨rfl, hsz, hP, hK, hD0, hN⟩ := hv₀
  have hx₀ := B.exec
  have hb := B.bytes
  have hr := B.returns
  have hts := atoms_spec (ws := (kW yX9_shorten cX9_shorten 2 none)) B.pre
  have hts := fun w h => hts w (List.mem_cons_of_mem _ h)
  have hown : s₀.vm.findClass RX9 = some m₀.cls := findClass_of_methodNamed B.named
  have hlocks := B.notSynchronized
  subst hsz
  have hD := hD0.self (sz := s₀.heap.size)
  generalize hAe : va_A [(h, .inr (7, [.ref hv, .int 0, .int fa, .int nu]))] s₀.heap.size = A at hD ⊢
  have hA : ∀ q : Nat, s₀.heap.size ≤ q → A q := fun q h => by rw [← hAe]; exact Or.inr h
  have hS : va_S A s₀.heap s₀.heap [] := va_S.rf
  have hP : va_P (dC, dI) vwCl [(h, .inr (7, [.ref hv, .int 0, .int fa, .int nu]))] s₀.heap := hP
  have hl := lv_entry ([.ref h, .int 0]) (n := 2) (Nat.le_of_ble_eq_true rfl)
  rw [lg_entry_eq]
  generalize (lg_sl ([.ref h, .int 0]) ++ List.replicate (2 - (lg_sl ([.ref h, .int 0])).length) Slot.unset).toArray = ls at hl ⊢
  have hl : lv_has ls 2 [(0, .ref h), (1, .int 0)] := hl
  obtain ⟨H, hH⟩ : ∃ z : Heap, z = s₀.heap := ⟨_, rfl⟩
  rw [← hH] at hP
  have hS : va_S A s₀.heap H [] := by rw [hH]; exact hS
  refine k_heap hH ?_
  have hD : va_D A [(h, .inr (7, [.ref hv, .int 0, .int fa, .int nu]))] := hD
  obtain ⟨locs, hlo⟩ : ∃ z : List Loc, z = [] := ⟨_, rfl⟩
  rw [← hlo] at hS ⊢
  clear hlo hH hAe hD0
  refine lv_aload_n hx₀ hb dX9_shorten_0 rfl (lv_at hl 0 rfl) ?_
  refine lv_iconst (v := 0) hx₀ hb dX9_shorten_1 (by decide +kernel) ?_
  refine lv_iload_n hx₀ hb dX9_shorten_2 rfl (lv_at hl 1 rfl) ?_
  refine lv_aload_n hx₀ hb dX9_shorten_3 rfl (lv_at hl 0 rfl) ?_
  refine va_get (D := (dC, dI)) (ci := 7) (v := .int 0) (C := RX7) (T := TX7) (N := 4) hx₀ hb hts inlX7 hown hK hP 0 rfl rfl 1 (by decide) (hts (.fieldLink RX9 25 "BittenStick$Text" "length" "I") wd_147) (fun _ h9 => h9) rfl dX9_shorten_4 ?_
  refine va_mmin hx₀ hb (by rw [hml]; exact hl.1.symm) hown (hts (.methodLink RX9 34 Lib.Math.min.name) wd_218) (hts (.static Lib.Math.min.name) wd_219) (hts (.initialized "java/lang/Math") wd_63) (hts (.code Lib.Math.min.name Lib.Math.min.code 2 (some .int)) wd_220) (by decide) (Nat.le_of_ble_eq_true rfl) (by decide) (by decide) dX9_shorten_7 ?_
  refine k_topi (v := 0) (by decide +kernel) ?_
  refine va_mmax hx₀ hb (by rw [hml]; exact hl.1.symm) hown (hts (.methodLink RX9 15 Lib.Math.max.name) wd_61) (hts (.static Lib.Math.max.name) wd_62) (hts (.initialized "java/lang/Math") wd_63) (hts (.code Lib.Math.max.name Lib.Math.max.code 2 (some .int)) wd_64) (by decide) (Nat.le_of_ble_eq_true rfl) (by decide) (by decide) dX9_shorten_10 ?_
  refine k_topi (v := 0) (by decide +kernel) ?_
  refine va_put (D := (dC, dI)) (ci := 7) (v := .int 0) (ty := .int) (C := RX7) (T := TX7) (N := 4) hx₀ hb hts inlX7 tyX7 tyX7_ok nmX7 hown hK hP hD hS 0 rfl rfl 1 (by decide) (hts (.fieldLink RX9 25 "BittenStick$Text" "length" "I") wd_147) (fun _ h9 => h9) rfl (by decide +kernel) rfl rfl (Nat.le_of_ble_eq_true rfl) dX9_shorten_13 (fun H locs hP hD hS => ?_)
  have hP : va_P (dC, dI) vwCl [(h, .inr (7, [.ref hv, .int 0, .int fa, .int nu]))] H := hP
  have hD : va_D A [(h, .inr (7, [.ref hv, .int 0, .int fa, .int nu]))] := hD
  refine lv_aload_n hx₀ hb dX9_shorten_16 rfl (lv_at hl 0 rfl) ?_
  have hPc := hP.sub (ws' := [(h, .inr (7, [.ref hv, .int 0, .int fa, .int nu]))]) [0] rfl
  have hDc := hD.sub (ws' := [(h, .inr (7, [.ref hv, .int 0, .int fa, .int nu]))]) [0] (by decide) rfl
  have hFc := va_free (wc := [(h, .inr (7, [.ref hv, .int 0, .int fa, .int nu]))]) hD hS hA [0] rfl
  refine va_callv (va_runU (As := []) (rest := []) ⟨hx₀, hb, hml, hown, hts⟩ (c_again0_X7 l dC dI cI cJ cQ H.size h hv fa nu) (va_cwU 0 hts (kGU wd_173 wd_169 wd_170 wd_194 wd_172 wd_57) rfl rfl rfl rfl (by decide +kernel) ⟨Nat.le_of_ble_eq_true rfl, Nat.le_of_ble_eq_true rfl⟩) (k_preV (ci := 7) (q0 := 0) hK hPc hDc hN rfl rfl) rfl rfl hl.1 rfl (lv_room (Nat.le_of_ble_eq_true rfl)) dX9_shorten_17 ⟨by decide +kernel, by decide +kernel⟩) hS (fun q _ h => hFc q h) hFc (fun u₀ t₀ H1 locs ht hvm hw hB hz1 hk1 hS => ?_)
  obtain ⟨hP1, hK1, hD1⟩ := hB
  rw [ht] at hP1
  obtain ⟨hP, hD⟩ := va_join (wr := []) (w1 := [(h, .inr (7, [.ref hv, .int 0, .int (-1), .int 0]))]) hP hD [0] [] rfl rfl (by decide) (by decide) hk1 hFc hP1 hD1
  generalize H1 = H at hP hS ⊢
  have hP : va_P (dC, dI) vwCl [(h, .inr (7, [.ref hv, .int 0, .int (-1), .int 0]))] H := hP
  have hD : va_D A [(h, .inr (7, [.ref hv, .int 0, .int (-1), .int 0]))] := hD
  have hP9 := hP.sub (ws' := [(h, .inr (7, [.ref hv, .int 0, .int (-1), .int 0]))]) [0] rfl
  have hD9 := hD.sub (ws' := [(h, .inr (7, [.ref hv, .int 0, .int (-1), .int 0]))]) [0] (by decide) rfl
  exact W.vret hx₀ hb hr (fun t₀ ht hW => ⟨⟨(), rfl, trivial, by rw [ht]; exact hP9, va_K.moved hW.alike hK, hD9⟩, hS.F ht⟩) hS.2.2 dX9_shorten_20
set_option maxHeartbeats 4000000 in
set_option maxRecDepth 100000 in
theorem c_append0_X2 (l : Launch) (dC : Nat → ClassId) (dI : Nat → Nat → Nat) (cI cJ cQ : ClassId) (sz : Nat) (h : Nat) (b : Int32) (hv : Nat) (fa : Int32) (nu : Int32) (f : Nat → Int32) : Met l yX9_append (kW yX9_append cX9_append 2 none) { frames := 2, cells := 0, slots := 0, locals := 42 } (kPre dC dI cI cJ cQ sz [.ref h, .int b] [(h, .inr (2, [.ref hv, .int 0, .int fa, .int nu])), (hv, .inl (cI, 23, .inl f))]) (va_Qv (fun (_ : Int32 × Int32) => True) (fun (u : Int32 × Int32) t₀ => kB dC dI cI cJ cQ (va_A [(h, .inr (2, [.ref hv, .int 0, .int fa, .int nu])), (hv, .inl (cI, 23, .inl f))] sz) [(h, .inr (2, [.ref hv, .int 1, .int u.1, .int u.2]))] t₀) (va_A [(h, .inr (2, [.ref hv, .int 0, .int fa, .int nu])), (hv, .inl (cI, 23, .inl f))] sz)) 0 0 (va_A [(h, .inr (2, [.ref hv, .int 0, .int fa, .int nu])), (hv, .inl (cI, 23, .inl f))] sz) := by
  refine Met.ofW (cc := cX9_append) (maxL := 2) (ret := none) (by decide) rfl ?_
  intro p₀ e₀ s₀ m₀ args below meth c₀ s₁ B hml hv₀
  obtain ⟨rfl, hsz, hP, hK, hD0, hN⟩ := hv₀
  have hx₀ := B.exec
  have hb := B.bytes
  have hr := B.returns
  have hts := atoms_spec (ws := (kW yX9_append cX9_append 2 none)) B.pre
  have hts := fun w h => hts w (List.mem_cons_of_mem _ h)
  have hown : s₀.vm.findClass RX9 = some m₀.cls := findClass_of_methodNamed B.named
  have hlocks := B.notSynchronized
  subst hsz
  have hD := hD0.self (sz := s₀.heap.size)
  generalize hAe : va_A [(h, .inr (2, [.ref hv, .int 0, .int fa, .int nu])), (hv, .inl (cI, 23, .inl f))] s₀.heap.size = A at hD ⊢
  have hA : ∀ q : Nat, s₀.heap.size ≤ q → A q := fun q h => by rw [← hAe]; exact Or.inr h
  have hS : va_S A s₀.heap s₀.heap [] := va_S.rf
  have hP : va_P (dC, dI) vwCl [(h, .inr (2, [.ref hv, .int 0, .int fa, .int nu])), (hv, .inl (cI, 23, .inl f))] s₀.heap := hP
  have hl := lv_entry ([.ref h, .int b]) (n := 2) (Nat.le_of_ble_eq_true rfl)
  rw [lg_entry_eq]
  generalize (lg_sl ([.ref h, .int b]) ++ List.replicate (2 - (lg_sl ([.ref h, .int b])).length) Slot.unset).toArray = ls at hl ⊢
  have hl : lv_has ls 2 [(0, .ref h), (1, .int b)] := hl
  obtain ⟨H, hH⟩ : ∃ z : Heap, z = s₀.heap := ⟨_, rfl⟩
  rw [← hH] at hP
  have hS : va_S A s₀.heap H [] := by rw [hH]; exact hS
  refine k_heap hH ?_
  have hD : va_D A [(h, .inr (2, [.ref hv, .int 0, .int fa, .int nu])), (hv, .inl (cI, 23, .inl f))] := hD
  obtain ⟨locs, hlo⟩ : ∃ z : List Loc, z = [] := ⟨_, rfl⟩
  rw [← hlo] at hS ⊢
  clear hlo hH hAe hD0
  refine lv_aload_n hx₀ hb dX9_append_0 rfl (lv_at hl 0 rfl) ?_
  refine va_get (D := (dC, dI)) (ci := 2) (v := .int 0) (C := RX2) (T := TX2) (N := 4) hx₀ hb hts inlX2 hown hK hP 0 rfl rfl 1 (by decide) (hts (.fieldLink RX9 25 "BittenStick$Text" "length" "I") wd_147) (fun _ h9 => h9) rfl dX9_append_1 ?_
  refine lv_if_lt (tgt := 51) hx₀ hb dX9_append_4 (by decide) (fun c9 => absurd c9 (by decide +kernel)) (fun _ => ?_)
  refine lv_aload_n hx₀ hb dX9_append_7 rfl (lv_at hl 0 rfl) ?_
  refine va_get (D := (dC, dI)) (ci := 2) (v := .int 0) (C := RX2) (T := TX2) (N := 4) hx₀ hb hts inlX2 hown hK hP 0 rfl rfl 1 (by decide) (hts (.fieldLink RX9 25 "BittenStick$Text" "length" "I") wd_147) (fun _ h9 => h9) rfl dX9_append_8 ?_
  refine lv_aload_n hx₀ hb dX9_append_11 rfl (lv_at hl 0 rfl) ?_
  refine va_get (D := (dC, dI)) (ci := 2) (v := .ref hv) (C := RX2) (T := TX2) (N := 4) hx₀ hb hts inlX2 hown hK hP 0 rfl rfl 0 (by decide) (hts (.fieldLink RX9 21 "BittenStick$Text" "values" "[I") wd_65) (fun _ h9 => h9) rfl dX9_append_12 ?_
  refine va_alen (v := 23) hx₀ hb hK hP 1 0 rfl rfl rfl dX9_append_15 ?_
  refine lv_icmp_ge (tgt := 51) hx₀ hb dX9_append_16 (by decide) (fun c9 => absurd c9 (by decide +kernel)) (fun _ => ?_)
  refine lv_aload_n hx₀ hb dX9_append_19 rfl (lv_at hl 0 rfl) ?_
  refine va_get (D := (dC, dI)) (ci := 2) (v := .ref hv) (C := RX2) (T := TX2) (N := 4) hx₀ hb hts inlX2 hown hK hP 0 rfl rfl 0 (by decide) (hts (.fieldLink RX9 21 "BittenStick$Text" "values" "[I") wd_65) (fun _ h9 => h9) rfl dX9_append_20 ?_
  refine lv_aload_n hx₀ hb dX9_append_23 rfl (lv_at hl 0 rfl) ?_
  refine va_get (D := (dC, dI)) (ci := 2) (v := .int 0) (C := RX2) (T := TX2) (N := 4) hx₀ hb hts inlX2 hown hK hP 0 rfl rfl 1 (by decide) (hts (.fieldLink RX9 25 "BittenStick$Text" "length" "I") wd_147) (fun _ h9 => h9) rfl dX9_append_24 ?_
  refine lv_aload_n hx₀ hb dX9_append_27 rfl (lv_at hl 0 rfl) ?_
  refine lv_aload_n hx₀ hb dX9_append_28 rfl (lv_at hl 0 rfl) ?_
  refine va_get (D := (dC, dI)) (ci := 2) (v := .int 0) (C := RX2) (T := TX2) (N := 4) hx₀ hb hts inlX2 hown hK hP 0 rfl rfl 1 (by decide) (hts (.fieldLink RX9 25 "BittenStick$Text" "length" "I") wd_147) (fun _ h9 => h9) rfl dX9_append_29 ?_
  refine lv_iload_n hx₀ hb dX9_append_32 rfl (lv_at hl 1 rfl) ?_
  have hPc := hP.sub (ws' := [(h, .inr (2, [.ref hv, .int 0, .int fa, .int nu]))]) [0] rfl
  have hDc := hD.sub (ws' := [(h, .inr (2, [.ref hv, .int 0, .int fa, .int nu]))]) [0] (by decide) rfl
  have hFc := va_free (wc := [(h, .inr (2, [.ref hv, .int 0, .int fa, .int nu]))]) hD hS hA [0] rfl
  refine va_calli (va_runU (As := [.int 0, .int b]) (rest := [.int 0, .ref hv]) ⟨hx₀, hb, hml, hown, hts⟩ (c_worth0_X2 l dC dI cI cJ cQ H.size h b hv 0 fa nu) (va_cwA 2 hts (kGU wd_159 wd_155 wd_156 wd_157 wd_158 wd_22) rfl rfl rfl hN.1 (by decide +kernel) ⟨Nat.le_of_ble_eq_true rfl, Nat.le_of_ble_eq_true rfl⟩) (k_preV (ci := 2) (q0 := 0) hK hPc hDc hN rfl rfl) rfl rfl hl.1 rfl (lv_room (Nat.le_of_ble_eq_true rfl)) dX9_append_33 ⟨by decide +kernel, by decide +kernel⟩) hS (fun q _ h => hFc q h) hFc (fun r_1 u₀ t₀ H1 locs ht hvm hw hB hz1 hk1 hS => ?_)
  obtain ⟨hP1, hK1, hD1⟩ := hB
  rw [ht] at hP1
  obtain ⟨hP, hD⟩ := va_join (wr := [(hv, .inl (cI, 23, .inl f))]) (w1 := [(h, .inr (2, [.ref hv, .int 0, .int fa, .int nu]))]) hP hD [0] [1] rfl rfl (by decide) (by decide) hk1 hFc hP1 hD1
  generalize H1 = H at hP hS ⊢
  have hP : va_P (dC, dI) vwCl [(hv, .inl (cI, 23, .inl f)), (h, .inr (2, [.ref hv, .int 0, .int fa, .int nu]))] H := hP
  have hD : va_D A [(hv, .inl (cI, 23, .inl f)), (h, .inr (2, [.ref hv, .int 0, .int fa, .int nu]))] := hD
  try dsimp only at hw
  refine va_iast hx₀ hb hK hP hD hS 0 0 rfl rfl (by unfold vp_in; decide +kernel) dX9_append_36 (fun H locs hP hD hS => ?_)
  have hP : va_P (dC, dI) vwCl [(hv, .inl (cI, 23, .inl (upd f (0 : Int32).toNatClampNeg r_1))), (h, .inr (2, [.ref hv, .int 0, .int fa, .int nu]))] H := hP
  have hD : va_D A [(hv, .inl (cI, 23, .inl (upd f (0 : Int32).toNatClampNeg r_1))), (h, .inr (2, [.ref hv, .int 0, .int fa, .int nu]))] := hD
  refine lv_aload_n hx₀ hb dX9_append_37 rfl (lv_at hl 0 rfl) ?_
  refine lv_dup hx₀ hb dX9_append_38 rfl ?_
  refine va_get (D := (dC, dI)) (ci := 2) (v := .int 0) (C := RX2) (T := TX2) (N := 4) hx₀ hb hts inlX2 hown hK hP 1 rfl rfl 1 (by decide) (hts (.fieldLink RX9 25 "BittenStick$Text" "length" "I") wd_147) (fun _ h9 => h9) rfl dX9_append_39 ?_
  refine lv_iconst (v := 1) hx₀ hb dX9_append_42 (by decide +kernel) ?_
  refine lv_iadd hx₀ hb dX9_append_43 ?_
  refine k_topi (v := 1) (by decide +kernel) ?_
  refine va_put (D := (dC, dI)) (ci := 2) (v := .int 1) (ty := .int) (C := RX2) (T := TX2) (N := 4) hx₀ hb hts inlX2 tyX2 tyX2_ok nmX2 hown hK hP hD hS 1 rfl rfl 1 (by decide) (hts (.fieldLink RX9 25 "BittenStick$Text" "length" "I") wd_147) (fun _ h9 => h9) rfl (by decide +kernel) rfl rfl (Nat.le_of_ble_eq_true rfl) dX9_append_44 (fun H locs hP hD hS => ?_)
  have hP : va_P (dC, dI) vwCl [(hv, .inl (cI, 23, .inl (upd f (0 : Int32).toNatClampNeg r_1))), (h, .inr (2, [.ref hv, .int 1, .int fa, .int nu]))] H := hP
  have hD : va_D A [(hv, .inl (cI, 23, .inl (upd f (0 : Int32).toNatClampNeg r_1))), (h, .inr (2, [.ref hv, .int 1, .int fa, .int nu]))] := hD
  refine lv_aload_n hx₀ hb dX9_append_47 rfl (lv_at hl 0 rfl) ?_
  have hPc := hP.sub (ws' := [(h, .inr (2, [.ref hv, .int 1, .int fa, .int nu])), (hv, .inl (cI, 23, .inl (upd f (0 : Int32).toNatClampNeg r_1)))]) [1, 0] rfl
  have hDc := hD.sub (ws' := [(h, .inr (2, [.ref hv, .int 1, .int fa, .int nu])), (hv, .inl (cI, 23, .inl (upd f (0 : Int32).toNatClampNeg r_1)))]) [1, 0] (by decide) rfl
  have hFc := va_free (wc := [(h, .inr (2, [.ref hv, .int 1, .int fa, .int nu])), (hv, .inl (cI, 23, .inl (upd f (0 : Int32).toNatClampNeg r_1)))]) hD hS hA [1, 0] rfl
  refine va_callv (va_runU (As := []) (rest := []) ⟨hx₀, hb, hml, hown, hts⟩ (c_again1_X2 l dC dI cI cJ cQ H.size h hv fa nu (upd f (0 : Int32).toNatClampNeg r_1)) (va_cwU 0 hts (kGU wd_173 wd_169 wd_170 wd_171 wd_172 wd_57) rfl rfl rfl rfl (by decide +kernel) ⟨Nat.le_of_ble_eq_true rfl, Nat.le_of_ble_eq_true rfl⟩) (k_preV (ci := 2) (q0 := 0) hK hPc hDc hN rfl rfl) rfl rfl hl.1 rfl (lv_room (Nat.le_of_ble_eq_true rfl)) dX9_append_48 ⟨by decide +kernel, by decide +kernel⟩) hS (fun q _ h => hFc q h) hFc (fun u₀ t₀ H1 locs ht hvm hw hB hz1 hk1 hS => ?_)
  obtain ⟨qn_3, qn_4⟩ := u₀
  obtain ⟨hP1, hK1, hD1⟩ := hB
  rw [ht] at hP1
  obtain ⟨hP, hD⟩ := va_join (wr := []) (w1 := [(h, .inr (2, [.ref hv, .int 1, .int qn_3, .int qn_4]))]) hP hD [1, 0] [] rfl rfl (by decide) (by decide) hk1 hFc hP1 hD1
  generalize H1 = H at hP hS ⊢
  have hP : va_P (dC, dI) vwCl [(h, .inr (2, [.ref hv, .int 1, .int qn_3, .int qn_4]))] H := hP
  have hD : va_D A [(h, .inr (2, [.ref hv, .int 1, .int qn_3, .int qn_4]))] := hD
  have hP9 := hP.sub (ws' := [(h, .inr (2, [.ref hv, .int 1, .int qn_3, .int qn_4]))]) [0] rfl
  have hD9 := hD.sub (ws' := [(h, .inr (2, [.ref hv, .int 1, .int qn_3, .int qn_4]))]) [0] (by decide) rfl
  exact W.vret hx₀ hb hr (fun t₀ ht hW => ⟨⟨(qn_3, qn_4), rfl, trivial, by rw [ht]; exact hP9, va_K.moved hW.alike hK, hD9⟩, hS.F ht⟩) hS.2.2 dX9_append_51
set_option maxHeartbeats 4000000 in
set_option maxRecDepth 100000 in
theorem c_shorten0_X2 (l : Launch) (dC : Nat → ClassId) (dI : Nat → Nat → Nat) (cI cJ cQ : ClassId) (sz : Nat) (h : Nat) (hv : Nat) (fa : Int32) (nu : Int32) : Met l yX9_shorten (kW yX9_shorten cX9_shorten 2 none) { frames := 2, cells := 0, slots := 0, locals := 42 } (kPre dC dI cI cJ cQ sz [.ref h, .int 0] [(h, .inr (2, [.ref hv, .int 0, .int fa, .int nu]))]) (va_Qv (fun (_ : Unit) => True) (fun _ t₀ => kB dC dI cI cJ cQ (va_A [(h, .inr (2, [.ref hv, .int 0, .int fa, .int nu]))] sz) [(h, .inr (2, [.ref hv, .int 0, .int (-1), .int 0]))] t₀) (va_A [(h, .inr (2, [.ref hv, .int 0, .int fa, .int nu]))] sz)) 0 0 (va_A [(h, .inr (2, [.ref hv, .int 0, .int fa, .int nu]))] sz) := by
  refine Met.ofW (cc := cX9_shorten) (maxL := 2) (ret := none) (by decide) rfl ?_
  intro p₀ e₀ s₀ m₀ args below meth c₀ s₁ B hml hv₀
  obtain ⟨rfl, hsz, hP, hK, hD0, hN⟩ := hv₀
  have hx₀ := B.exec
  have hb := B.bytes
  have hr := B.returns
  have hts := atoms_spec (ws := (kW yX9_shorten cX9_shorten 2 none)) B.pre
  have hts := fun w h => hts w (List.mem_cons_of_mem _ h)
  have hown : s₀.vm.findClass RX9 = some m₀.cls := findClass_of_methodNamed B.named
  have hlocks := B.notSynchronized
  subst hsz
  have hD := hD0.self (sz := s₀.heap.size)
  generalize hAe : va_A [(h, .inr (2, [.ref hv, .int 0, .int fa, .int nu]))] s₀.heap.size = A at hD ⊢
  have hA : ∀ q : Nat, s₀.heap.size ≤ q → A q := fun q h => by rw [← hAe]; exact Or.inr h
  have hS : va_S A s₀.heap s₀.heap [] := va_S.rf
  have hP : va_P (dC, dI) vwCl [(h, .inr (2, [.ref hv, .int 0, .int fa, .int nu]))] s₀.heap := hP
  have hl := lv_entry ([.ref h, .int 0]) (n := 2) (Nat.le_of_ble_eq_true rfl)
  rw [lg_entry_eq]
  generalize (lg_sl ([.ref h, .int 0]) ++ List.replicate (2 - (lg_sl ([.ref h, .int 0])).length) Slot.unset).toArray = ls at hl ⊢
  have hl : lv_has ls 2 [(0, .ref h), (1, .int 0)] := hl
  obtain ⟨H, hH⟩ : ∃ z : Heap, z = s₀.heap := ⟨_, rfl⟩
  rw [← hH] at hP
  have hS : va_S A s₀.heap H [] := by rw [hH]; exact hS
  refine k_heap hH ?_
  have hD : va_D A [(h, .inr (2, [.ref hv, .int 0, .int fa, .int nu]))] := hD
  obtain ⟨locs, hlo⟩ : ∃ z : List Loc, z = [] := ⟨_, rfl⟩
  rw [← hlo] at hS ⊢
  clear hlo hH hAe hD0
  refine lv_aload_n hx₀ hb dX9_shorten_0 rfl (lv_at hl 0 rfl) ?_
  refine lv_iconst (v := 0) hx₀ hb dX9_shorten_1 (by decide +kernel) ?_
  refine lv_iload_n hx₀ hb dX9_shorten_2 rfl (lv_at hl 1 rfl) ?_
  refine lv_aload_n hx₀ hb dX9_shorten_3 rfl (lv_at hl 0 rfl) ?_
  refine va_get (D := (dC, dI)) (ci := 2) (v := .int 0) (C := RX2) (T := TX2) (N := 4) hx₀ hb hts inlX2 hown hK hP 0 rfl rfl 1 (by decide) (hts (.fieldLink RX9 25 "BittenStick$Text" "length" "I") wd_147) (fun _ h9 => h9) rfl dX9_shorten_4 ?_
  refine va_mmin hx₀ hb (by rw [hml]; exact hl.1.symm) hown (hts (.methodLink RX9 34 Lib.Math.min.name) wd_218) (hts (.static Lib.Math.min.name) wd_219) (hts (.initialized "java/lang/Math") wd_63) (hts (.code Lib.Math.min.name Lib.Math.min.code 2 (some .int)) wd_220) (by decide) (Nat.le_of_ble_eq_true rfl) (by decide) (by decide) dX9_shorten_7 ?_
  refine k_topi (v := 0) (by decide +kernel) ?_
  refine va_mmax hx₀ hb (by rw [hml]; exact hl.1.symm) hown (hts (.methodLink RX9 15 Lib.Math.max.name) wd_61) (hts (.static Lib.Math.max.name) wd_62) (hts (.initialized "java/lang/Math") wd_63) (hts (.code Lib.Math.max.name Lib.Math.max.code 2 (some .int)) wd_64) (by decide) (Nat.le_of_ble_eq_true rfl) (by decide) (by decide) dX9_shorten_10 ?_
  refine k_topi (v := 0) (by decide +kernel) ?_
  refine va_put (D := (dC, dI)) (ci := 2) (v := .int 0) (ty := .int) (C := RX2) (T := TX2) (N := 4) hx₀ hb hts inlX2 tyX2 tyX2_ok nmX2 hown hK hP hD hS 0 rfl rfl 1 (by decide) (hts (.fieldLink RX9 25 "BittenStick$Text" "length" "I") wd_147) (fun _ h9 => h9) rfl (by decide +kernel) rfl rfl (Nat.le_of_ble_eq_true rfl) dX9_shorten_13 (fun H locs hP hD hS => ?_)
  have hP : va_P (dC, dI) vwCl [(h, .inr (2, [.ref hv, .int 0, .int fa, .int nu]))] H := hP
  have hD : va_D A [(h, .inr (2, [.ref hv, .int 0, .int fa, .int nu]))] := hD
  refine lv_aload_n hx₀ hb dX9_shorten_16 rfl (lv_at hl 0 rfl) ?_
  have hPc := hP.sub (ws' := [(h, .inr (2, [.ref hv, .int 0, .int fa, .int nu]))]) [0] rfl
  have hDc := hD.sub (ws' := [(h, .inr (2, [.ref hv, .int 0, .int fa, .int nu]))]) [0] (by decide) rfl
  have hFc := va_free (wc := [(h, .inr (2, [.ref hv, .int 0, .int fa, .int nu]))]) hD hS hA [0] rfl
  refine va_callv (va_runU (As := []) (rest := []) ⟨hx₀, hb, hml, hown, hts⟩ (c_again0_X2 l dC dI cI cJ cQ H.size h hv fa nu) (va_cwU 0 hts (kGU wd_173 wd_169 wd_170 wd_171 wd_172 wd_57) rfl rfl rfl rfl (by decide +kernel) ⟨Nat.le_of_ble_eq_true rfl, Nat.le_of_ble_eq_true rfl⟩) (k_preV (ci := 2) (q0 := 0) hK hPc hDc hN rfl rfl) rfl rfl hl.1 rfl (lv_room (Nat.le_of_ble_eq_true rfl)) dX9_shorten_17 ⟨by decide +kernel, by decide +kernel⟩) hS (fun q _ h => hFc q h) hFc (fun u₀ t₀ H1 locs ht hvm hw hB hz1 hk1 hS => ?_)
  obtain ⟨hP1, hK1, hD1⟩ := hB
  rw [ht] at hP1
  obtain ⟨hP, hD⟩ := va_join (wr := []) (w1 := [(h, .inr (2, [.ref hv, .int 0, .int (-1), .int 0]))]) hP hD [0] [] rfl rfl (by decide) (by decide) hk1 hFc hP1 hD1
  generalize H1 = H at hP hS ⊢
  have hP : va_P (dC, dI) vwCl [(h, .inr (2, [.ref hv, .int 0, .int (-1), .int 0]))] H := hP
  have hD : va_D A [(h, .inr (2, [.ref hv, .int 0, .int (-1), .int 0]))] := hD
  have hP9 := hP.sub (ws' := [(h, .inr (2, [.ref hv, .int 0, .int (-1), .int 0]))]) [0] rfl
  have hD9 := hD.sub (ws' := [(h, .inr (2, [.ref hv, .int 0, .int (-1), .int 0]))]) [0] (by decide) rfl
  exact W.vret hx₀ hb hr (fun t₀ ht hW => ⟨⟨(), rfl, trivial, by rw [ht]; exact hP9, va_K.moved hW.alike hK, hD9⟩, hS.F ht⟩) hS.2.2 dX9_shorten_20
