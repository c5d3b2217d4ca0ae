set_option maxHeartbeats 4000000 in
set_option maxRecDepth 100000 in
theorem e_part (l : Launch) (dC : Nat → ClassId) (dI : Nat → Nat → Nat) (cI cJ cQ : ClassId) (sz : Nat) (ab : Int64) (be : Int64) (w1 : Int32) (hh0 : ¬ be = 0) : Met l yX12_part (kW yX12_part cX12_part 11 (some .long)) { frames := 0, cells := 0, slots := 0, locals := 0 } (kPre dC dI cI cJ cQ sz [.long ab, .long be, .int w1] []) (va_Ql (fun (r : Int64) (u : Unit) => (k_pz ab be w1 r)) (fun (u : Unit) t₀ => kB dC dI cI cJ cQ (va_A [] sz) [] t₀) (va_A [] sz)) 0 0 (va_A [] sz) := by
  refine Met.ofW (cc := cX12_part) (maxL := 11) (ret := (some .long)) (by decide) rfl ?_
  intro p₀ e₀ s₀ m₀ args below meth c₀ s₁ B hml hv₀
  obtain ⟨rfl, hsz, hP, hK, hD0, hN⟩ := hv₀
  have hx₀ := B.exec
  have hb := B.bytes
  have hr := B.returns
  have hts := atoms_spec (ws := (kW yX12_part cX12_part 11 (some .long))) B.pre
  have hts := fun w h => hts w (List.mem_cons_of_mem _ h)
  have hown : s₀.vm.findClass RX12 = some m₀.cls := findClass_of_methodNamed B.named
  have hlocks := B.notSynchronized
  subst hsz
  have hD := hD0.self (sz := s₀.heap.size)
  generalize hAe : va_A [] s₀.heap.size = A at hD ⊢
  have hA : ∀ q : Nat, s₀.heap.size ≤ q → A q := fun q h => by rw [← hAe]; exact Or.inr h
  have hS : va_S A s₀.heap s₀.heap [] := va_S.rf
  have hP : va_P (dC, dI) vwCl [] s₀.heap := hP
  have hl := lv_entry ([.long ab, .long be, .int w1]) (n := 11) (Nat.le_of_ble_eq_true rfl)
  rw [lg_entry_eq]
  generalize (lg_sl ([.long ab, .long be, .int w1]) ++ List.replicate (11 - (lg_sl ([.long ab, .long be, .int w1])).length) Slot.unset).toArray = ls at hl ⊢
  have hl : lv_has ls 11 [(0, .long ab), (2, .long be), (4, .int w1)] := hl
  obtain ⟨H, hH⟩ : ∃ z : Heap, z = s₀.heap := ⟨_, rfl⟩
  rw [← hH] at hP
  have hS : va_S A s₀.heap H [] := by rw [hH]; exact hS
  refine k_heap hH ?_
  have hD : va_D A [] := hD
  obtain ⟨locs, hlo⟩ : ∃ z : List Loc, z = [] := ⟨_, rfl⟩
  rw [← hlo] at hS ⊢
  clear hlo hH hAe hD0
  refine lv_lload_n hx₀ hb dX12_part_0 rfl (lv_at hl 0 rfl) ?_
  refine lv_lstore (lv' := [(5, .long ab), (0, .long ab), (2, .long be), (4, .int w1)]) hx₀ hb dX12_part_1 hl (by decide) rfl (fun ls hl => ?_)
  refine lv_lload_n hx₀ hb dX12_part_3 rfl (lv_at hl 2 rfl) ?_
  refine lv_lstore (lv' := [(7, .long be), (5, .long ab), (0, .long ab), (2, .long be), (4, .int w1)]) hx₀ hb dX12_part_4 hl (by decide) rfl (fun ls hl => ?_)
  refine (?keyz1 : ∀ (jz1 : Nat) (az1 : Int64) (bz1 : Int64) (H : Heap) (locs : List Loc) (ls : Array Slot), (¬ az1 = 0 ∨ ¬ bz1 = 0) → (k_pt ab be az1 bz1) → (bz1.toInt.natAbs = jz1) → va_P (dC, dI) vwCl [] H → va_D A [] → va_S A s₀.heap H locs → lv_has ls 11 [(7, .long bz1), (5, .long az1), (0, .long ab), (2, .long be), (4, .int w1)] → W p₀ l e₀ _ s₀ m₀ _ below meth c₀ H locs _ _ _ (F0 m₀ 6 ls [])) _ ab be H locs ls (lf_g_part_1 be ab hh0) (k_pt_0) rfl hP hD hS hl
  clear hP hD hS hl
  intro jz1
  induction jz1 using Nat.strongRecOn with
  | ind jz1 ihz1 =>
    intro az1 bz1 H locs ls hiz1_0 hiz1_1 hjz1 hP hD hS hl
    refine lv_lload hx₀ hb dX12_part_6 (lv_at hl 0 rfl) ?_
    refine lv_lconst (v := 0) hx₀ hb dX12_part_8 (by decide +kernel) ?_
    refine W.lcmp hx₀ hb dX12_part_9 ?_
    refine lv_if_eq (tgt := 31) hx₀ hb dX12_part_10 (by decide) (fun c_2 => ?_) (fun c_2 => ?_)
    · refine lv_iload hx₀ hb dX12_part_31 (lv_at hl 4 rfl) ?_
      refine lv_if_ne (tgt := 40) hx₀ hb dX12_part_33 (by decide) (fun c_3 => ?_) (fun c_3 => ?_)
      · refine lv_lload_n hx₀ hb dX12_part_40 rfl (lv_at hl 3 rfl) ?_
        refine lv_lload hx₀ hb dX12_part_41 (lv_at hl 1 rfl) ?_
        refine lv_ldiv hx₀ hb dX12_part_43 (lf_g_part_2 az1 bz1 jz1 hiz1_0 hjz1 c_2) ?_
        obtain ⟨hP9, hD9⟩ := k_c2 (wc := []) hP hD [] (by decide +kernel) rfl
        exact W.lret (v := be / az1) hx₀ hb hr (fun t₀ ht hW => ⟨⟨be / az1, (), rfl, (k_pt_e hiz1_1 (k_ceq.mp c_2) _ (by rw [if_neg c_3])), by rw [ht]; exact hP9, va_K.moved hW.alike hK, hD9⟩, hS.F ht⟩) hS.2.2 dX12_part_44
      · refine lv_lload_n hx₀ hb dX12_part_36 rfl (lv_at hl 2 rfl) ?_
        refine lv_goto (tgt := 41) hx₀ hb dX12_part_37 (by decide) ?_
        refine lv_lload hx₀ hb dX12_part_41 (lv_at hl 1 rfl) ?_
        refine lv_ldiv hx₀ hb dX12_part_43 (lf_g_part_2 az1 bz1 jz1 hiz1_0 hjz1 c_2) ?_
        obtain ⟨hP9, hD9⟩ := k_c2 (wc := []) hP hD [] (by decide +kernel) rfl
        exact W.lret (v := ab / az1) hx₀ hb hr (fun t₀ ht hW => ⟨⟨ab / az1, (), rfl, (k_pt_e hiz1_1 (k_ceq.mp c_2) _ (by rw [if_pos c_3])), by rw [ht]; exact hP9, va_K.moved hW.alike hK, hD9⟩, hS.F ht⟩) hS.2.2 dX12_part_44
    · refine lv_lload hx₀ hb dX12_part_13 (lv_at hl 1 rfl) ?_
      refine lv_lload hx₀ hb dX12_part_15 (lv_at hl 0 rfl) ?_
      refine lv_lrem hx₀ hb dX12_part_17 (lf_g_part_3 az1 bz1 jz1 hiz1_0 hjz1 c_2) ?_
      refine lv_lstore (lv' := [(9, .long (az1 - az1 / bz1 * bz1)), (7, .long bz1), (5, .long az1), (0, .long ab), (2, .long be), (4, .int w1)]) hx₀ hb dX12_part_18 hl (by decide) rfl (fun ls hl => ?_)
      refine lv_lload hx₀ hb dX12_part_20 (lv_at hl 1 rfl) ?_
      refine lv_lstore (lv' := [(5, .long bz1), (9, .long (az1 - az1 / bz1 * bz1)), (7, .long bz1), (0, .long ab), (2, .long be), (4, .int w1)]) hx₀ hb dX12_part_22 hl (by decide) rfl (fun ls hl => ?_)
      refine lv_lload hx₀ hb dX12_part_24 (lv_at hl 1 rfl) ?_
      refine lv_lstore (lv' := [(7, .long (az1 - az1 / bz1 * bz1)), (5, .long bz1), (9, .long (az1 - az1 / bz1 * bz1)), (0, .long ab), (2, .long be), (4, .int w1)]) hx₀ hb dX12_part_26 hl (by decide) rfl (fun ls hl => ?_)
      refine lv_goto (tgt := 6) hx₀ hb dX12_part_28 (by decide) ?_
      exact ihz1 _ (k_rem_lt (a := az1) hjz1 (lf_g_part_3 az1 bz1 jz1 hiz1_0 hjz1 c_2)) bz1 (az1 - az1 / bz1 * bz1) _ _ _ (Or.inl (lf_g_part_3 az1 bz1 jz1 hiz1_0 hjz1 c_2)) (k_pt_s hiz1_1 (fun z => c_2 (k_ceq.mpr z))) rfl (hP.sub [] rfl) (hD.sub [] (by decide +kernel) rfl) hS (lv_sub hl [0, 1, 3, 4, 5] rfl)
