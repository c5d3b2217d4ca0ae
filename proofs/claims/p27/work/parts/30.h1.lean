set_option maxHeartbeats 4000000 in
set_option maxRecDepth 100000 in
theorem g_isIn (l : Launch) (dC : Nat → ClassId) (dI : Nat → Nat → Nat) (cI cJ cQ : ClassId) (sz : Nat) (bi : Int32) (kk : Int32) : Met l yX12_isIn (kW yX12_isIn cX12_isIn 2 (some .boolean)) { frames := 0, cells := 0, slots := 0, locals := 0 } (kPre dC dI cI cJ cQ sz [.int bi, .int kk] []) (va_Qi (fun (r : Int32) (u : Unit) => True) (fun (u : Unit) t₀ => kB dC dI cI cJ cQ (va_A [] sz) [] t₀) (va_A [] sz)) 0 0 (va_A [] sz) := by
  refine Met.ofW (cc := cX12_isIn) (maxL := 2) (ret := (some .boolean)) (by decide) rfl ?_
  intro p₀ e₀ s₀ m₀ args below meth c₀ s₁ B hml hv₀
  obtain ⟨rfl, hsz, hP, hK, hD0, hN⟩ := hv₀
  have hx₀ := B.exec
  have hb := B.bytes
  have hr := B.returns
  have hts := atoms_spec (ws := (kW yX12_isIn cX12_isIn 2 (some .boolean))) B.pre
  have hts := fun w h => hts w (List.mem_cons_of_mem _ h)
  have hown : s₀.vm.findClass RX12 = some m₀.cls := findClass_of_methodNamed B.named
  have hlocks := B.notSynchronized
  subst hsz
  have hD := hD0.self (sz := s₀.heap.size)
  generalize hAe : va_A [] s₀.heap.size = A at hD ⊢
  have hA : ∀ q : Nat, s₀.heap.size ≤ q → A q := fun q h => by rw [← hAe]; exact Or.inr h
  have hS : va_S A s₀.heap s₀.heap [] := va_S.rf
  have hP : va_P (dC, dI) vwCl [] s₀.heap := hP
  have hl := lv_entry ([.int bi, .int kk]) (n := 2) (Nat.le_of_ble_eq_true rfl)
  rw [lg_entry_eq]
  generalize (lg_sl ([.int bi, .int kk]) ++ List.replicate (2 - (lg_sl ([.int bi, .int kk])).length) Slot.unset).toArray = ls at hl ⊢
  have hl : lv_has ls 2 [(0, .int bi), (1, .int kk)] := hl
  obtain ⟨H, hH⟩ : ∃ z : Heap, z = s₀.heap := ⟨_, rfl⟩
  rw [← hH] at hP
  have hS : va_S A s₀.heap H [] := by rw [hH]; exact hS
  refine k_heap hH ?_
  have hD : va_D A [] := hD
  obtain ⟨locs, hlo⟩ : ∃ z : List Loc, z = [] := ⟨_, rfl⟩
  rw [← hlo] at hS ⊢
  clear hlo hH hAe hD0
  refine lv_iload_n hx₀ hb dX12_isIn_0 rfl (lv_at hl 0 rfl) ?_
  refine lv_iload_n hx₀ hb dX12_isIn_1 rfl (lv_at hl 1 rfl) ?_
  refine lv_ishr hx₀ hb dX12_isIn_2 ?_
  refine lv_iconst (v := 1) hx₀ hb dX12_isIn_3 (by decide +kernel) ?_
  refine lv_iand hx₀ hb dX12_isIn_4 ?_
  refine lv_iconst (v := 1) hx₀ hb dX12_isIn_5 (by decide +kernel) ?_
  refine lv_icmp_ne (tgt := 13) hx₀ hb dX12_isIn_6 (by decide) (fun c_1 => ?_) (fun c_1 => ?_)
  · refine lv_iconst (v := 0) hx₀ hb dX12_isIn_13 (by decide +kernel) ?_
    have hP9 := hP.sub (ws' := []) [] rfl
    have hD9 := hD.sub (ws' := []) [] (by decide) rfl
    exact W.zret (v := 0) hx₀ hb hr (by decide +kernel) (fun t₀ ht hW => ⟨⟨0, (), rfl, trivial, by rw [ht]; exact hP9, va_K.moved hW.alike hK, hD9⟩, hS.F ht⟩) hS.2.2 dX12_isIn_14
  · refine lv_iconst (v := 1) hx₀ hb dX12_isIn_9 (by decide +kernel) ?_
    refine lv_goto (tgt := 14) hx₀ hb dX12_isIn_10 (by decide) ?_
    have hP9 := hP.sub (ws' := []) [] rfl
    have hD9 := hD.sub (ws' := []) [] (by decide) rfl
    exact W.zret (v := 1) hx₀ hb hr (by decide +kernel) (fun t₀ ht hW => ⟨⟨1, (), rfl, trivial, by rw [ht]; exact hP9, va_K.moved hW.alike hK, hD9⟩, hS.F ht⟩) hS.2.2 dX12_isIn_14
theorem lf_g_lesser_1 (a0 : Int32) (a1 : Int32) (h0 : a0 ≤ a1) : (a0 : Int32) = if a1 < a0 then a1 else a0 := by
  repeat first | rfl | rw [if_pos (by (first | omega | (have hr0 := Int32.toInt_lt a0; have hs0 := Int32.le_toInt a0; have hr1 := Int32.toInt_lt a1; have hs1 := Int32.le_toInt a1; simp only [Int64.toInt_add, Int64.toInt_sub, Int32.toInt_add, Int32.toInt_sub, Int32.toInt_mul, Int32.toInt_neg, Int64.le_iff_toInt_le, Int64.lt_iff_toInt_lt, Int32.le_iff_toInt_le, Int32.lt_iff_toInt_lt, ← Int32.toInt_inj, ← Int64.toInt_inj, Int32.toInt_toInt64] at *; (first | omega | ((try simp (disch := omega) only [k_bm64] at *); (try simp (disch := omega) only [k_bm] at *); (try simp (disch := omega) only [k_bm] at *); omega) | (simp only [Int.bmod] at *; omega)))))] | rw [if_neg (by (first | omega | (have hr0 := Int32.toInt_lt a0; have hs0 := Int32.le_toInt a0; have hr1 := Int32.toInt_lt a1; have hs1 := Int32.le_toInt a1; simp only [Int64.toInt_add, Int64.toInt_sub, Int32.toInt_add, Int32.toInt_sub, Int32.toInt_mul, Int32.toInt_neg, Int64.le_iff_toInt_le, Int64.lt_iff_toInt_lt, Int32.le_iff_toInt_le, Int32.lt_iff_toInt_lt, ← Int32.toInt_inj, ← Int64.toInt_inj, Int32.toInt_toInt64] at *; (first | omega | ((try simp (disch := omega) only [k_bm64] at *); (try simp (disch := omega) only [k_bm] at *); (try simp (disch := omega) only [k_bm] at *); omega) | (simp only [Int.bmod] at *; omega)))))]
theorem lf_g_lesser_2 (a0 : Int32) (a1 : Int32) (h0 : ¬ a0 ≤ a1) : (a1 : Int32) = if a1 < a0 then a1 else a0 := by
  repeat first | rfl | rw [if_pos (by (first | omega | (have hr0 := Int32.toInt_lt a0; have hs0 := Int32.le_toInt a0; have hr1 := Int32.toInt_lt a1; have hs1 := Int32.le_toInt a1; simp only [Int64.toInt_add, Int64.toInt_sub, Int32.toInt_add, Int32.toInt_sub, Int32.toInt_mul, Int32.toInt_neg, Int64.le_iff_toInt_le, Int64.lt_iff_toInt_lt, Int32.le_iff_toInt_le, Int32.lt_iff_toInt_lt, ← Int32.toInt_inj, ← Int64.toInt_inj, Int32.toInt_toInt64] at *; (first | omega | ((try simp (disch := omega) only [k_bm64] at *); (try simp (disch := omega) only [k_bm] at *); (try simp (disch := omega) only [k_bm] at *); omega) | (simp only [Int.bmod] at *; omega)))))] | rw [if_neg (by (first | omega | (have hr0 := Int32.toInt_lt a0; have hs0 := Int32.le_toInt a0; have hr1 := Int32.toInt_lt a1; have hs1 := Int32.le_toInt a1; simp only [Int64.toInt_add, Int64.toInt_sub, Int32.toInt_add, Int32.toInt_sub, Int32.toInt_mul, Int32.toInt_neg, Int64.le_iff_toInt_le, Int64.lt_iff_toInt_lt, Int32.le_iff_toInt_le, Int32.lt_iff_toInt_lt, ← Int32.toInt_inj, ← Int64.toInt_inj, Int32.toInt_toInt64] at *; (first | omega | ((try simp (disch := omega) only [k_bm64] at *); (try simp (disch := omega) only [k_bm] at *); (try simp (disch := omega) only [k_bm] at *); omega) | (simp only [Int.bmod] at *; omega)))))]
set_option maxHeartbeats 4000000 in
set_option maxRecDepth 100000 in
theorem g_lesser (l : Launch) (dC : Nat → ClassId) (dI : Nat → Nat → Nat) (cI cJ cQ : ClassId) (sz : Nat) (x1 : Int32) (x2 : Int32) : Met l yX12_lesser (kW yX12_lesser cX12_lesser 2 (some .int)) { frames := 0, cells := 0, slots := 0, locals := 0 } (kPre dC dI cI cJ cQ sz [.int x1, .int x2] []) (va_Qi (fun (r : Int32) (u : Unit) => (r = if x1 < x2 then x1 else x2)) (fun (u : Unit) t₀ => kB dC dI cI cJ cQ (va_A [] sz) [] t₀) (va_A [] sz)) 0 0 (va_A [] sz) := by
  refine Met.ofW (cc := cX12_lesser) (maxL := 2) (ret := (some .int)) (by decide) rfl ?_
  intro p₀ e₀ s₀ m₀ args below meth c₀ s₁ B hml hv₀
  obtain ⟨rfl, hsz, hP, hK, hD0, hN⟩ := hv₀
  have hx₀ := B.exec
  have hb := B.bytes
  have hr := B.returns
  have hts := atoms_spec (ws := (kW yX12_lesser cX12_lesser 2 (some .int))) B.pre
  have hts := fun w h => hts w (List.mem_cons_of_mem _ h)
  have hown : s₀.vm.findClass RX12 = some m₀.cls := findClass_of_methodNamed B.named
  have hlocks := B.notSynchronized
  subst hsz
  have hD := hD0.self (sz := s₀.heap.size)
  generalize hAe : va_A [] s₀.heap.size = A at hD ⊢
  have hA : ∀ q : Nat, s₀.heap.size ≤ q → A q := fun q h => by rw [← hAe]; exact Or.inr h
  have hS : va_S A s₀.heap s₀.heap [] := va_S.rf
  have hP : va_P (dC, dI) vwCl [] s₀.heap := hP
  have hl := lv_entry ([.int x1, .int x2]) (n := 2) (Nat.le_of_ble_eq_true rfl)
  rw [lg_entry_eq]
  generalize (lg_sl ([.int x1, .int x2]) ++ List.replicate (2 - (lg_sl ([.int x1, .int x2])).length) Slot.unset).toArray = ls at hl ⊢
  have hl : lv_has ls 2 [(0, .int x1), (1, .int x2)] := hl
  obtain ⟨H, hH⟩ : ∃ z : Heap, z = s₀.heap := ⟨_, rfl⟩
  rw [← hH] at hP
  have hS : va_S A s₀.heap H [] := by rw [hH]; exact hS
  refine k_heap hH ?_
  have hD : va_D A [] := hD
  obtain ⟨locs, hlo⟩ : ∃ z : List Loc, z = [] := ⟨_, rfl⟩
  rw [← hlo] at hS ⊢
  clear hlo hH hAe hD0
  refine lv_iload_n hx₀ hb dX12_lesser_0 rfl (lv_at hl 0 rfl) ?_
  refine lv_iload_n hx₀ hb dX12_lesser_1 rfl (lv_at hl 1 rfl) ?_
  refine lv_icmp_ge (tgt := 9) hx₀ hb dX12_lesser_2 (by decide) (fun c_1 => ?_) (fun c_1 => ?_)
  · refine lv_iload_n hx₀ hb dX12_lesser_9 rfl (lv_at hl 1 rfl) ?_
    have hP9 := hP.sub (ws' := []) [] rfl
    have hD9 := hD.sub (ws' := []) [] (by decide) rfl
    exact W.iret (v := x2) hx₀ hb hr (fun t₀ ht hW => ⟨⟨x2, (), rfl, (lf_g_lesser_1 x2 x1 c_1), by rw [ht]; exact hP9, va_K.moved hW.alike hK, hD9⟩, hS.F ht⟩) hS.2.2 dX12_lesser_10
  · refine lv_iload_n hx₀ hb dX12_lesser_5 rfl (lv_at hl 0 rfl) ?_
    refine lv_goto (tgt := 10) hx₀ hb dX12_lesser_6 (by decide) ?_
    have hP9 := hP.sub (ws' := []) [] rfl
    have hD9 := hD.sub (ws' := []) [] (by decide) rfl
    exact W.iret (v := x1) hx₀ hb hr (fun t₀ ht hW => ⟨⟨x1, (), rfl, (lf_g_lesser_2 x2 x1 c_1), by rw [ht]; exact hP9, va_K.moved hW.alike hK, hD9⟩, hS.F ht⟩) hS.2.2 dX12_lesser_10
set_option maxHeartbeats 4000000 in
set_option maxRecDepth 100000 in
theorem g_finds1 (l : Launch) (dC : Nat → ClassId) (dI : Nat → Nat → Nat) (cI cJ cQ : ClassId) (sz : Nat) (hm : Nat) (vFo : Nat) (vSi : Nat) (vIt : Nat) (vMo : Nat) (la : Int32) (vBy : Nat) (vTy : Nat) (mi : Int32) (vMi : Nat) (pn : Int32) (vPs : Nat) (gn : Int32) (vGs : Nat) (fn : Int32) (vFt : Nat) (le : Int32) (vTo : Nat) (kn : Int32) (fe : Int32) (en : Int32) (ca : Int32) (an : Int32) (co : Int32) (vPr : Nat) (vSt : Nat) (vFn : Nat) (sn : Int32) (vSg : Nat) (vAl : Nat) (dr : Int32) : Met l yX12_finds (kW yX12_finds cX12_finds 2 (some .int)) { frames := 0, cells := 0, slots := 0, locals := 0 } (kPre dC dI cI cJ cQ sz [.ref hm, .int 1] [(hm, .inr (11, [.ref vFo, .ref vSi, .ref vIt, .ref vMo, .int la, .ref vBy, .ref vTy, .int mi, .ref vMi, .int pn, .ref vPs, .int gn, .ref vGs, .int fn, .ref vFt, .int le, .ref vTo, .int kn, .int fe, .int en, .int ca, .int an, .int co, .ref vPr, .ref vSt, .ref vFn, .int sn, .ref vSg, .ref vAl, .int dr]))]) (va_Qi (fun (r : Int32) (u : Unit) => (r = (-11))) (fun (u : Unit) t₀ => kB dC dI cI cJ cQ (va_A [(hm, .inr (11, [.ref vFo, .ref vSi, .ref vIt, .ref vMo, .int la, .ref vBy, .ref vTy, .int mi, .ref vMi, .int pn, .ref vPs, .int gn, .ref vGs, .int fn, .ref vFt, .int le, .ref vTo, .int kn, .int fe, .int en, .int ca, .int an, .int co, .ref vPr, .ref vSt, .ref vFn, .int sn, .ref vSg, .ref vAl, .int dr]))] sz) [(hm, .inr (11, [.ref vFo, .ref vSi, .ref vIt, .ref vMo, .int 1, .ref vBy, .ref vTy, .int mi, .ref vMi, .int pn, .ref vPs, .int gn, .ref vGs, .int fn, .ref vFt, .int le, .ref vTo, .int kn, .int fe, .int en, .int ca, .int an, .int co, .ref vPr, .ref vSt, .ref vFn, .int sn, .ref vSg, .ref vAl, .int dr]))] t₀) (va_A [(hm, .inr (11, [.ref vFo, .ref vSi, .ref vIt, .ref vMo, .int la, .ref vBy, .ref vTy, .int mi, .ref vMi, .int pn, .ref vPs, .int gn, .ref vGs, .int fn, .ref vFt, .int le, .ref vTo, .int kn, .int fe, .int en, .int ca, .int an, .int co, .ref vPr, .ref vSt, .ref vFn, .int sn, .ref vSg, .ref vAl, .int dr]))] sz)) 0 0 (va_A [(hm, .inr (11, [.ref vFo, .ref vSi, .ref vIt, .ref vMo, .int la, .ref vBy, .ref vTy, .int mi, .ref vMi, .int pn, .ref vPs, .int gn, .ref vGs, .int fn, .ref vFt, .int le, .ref vTo, .int kn, .int fe, .int en, .int ca, .int an, .int co, .ref vPr, .ref vSt, .ref vFn, .int sn, .ref vSg, .ref vAl, .int dr]))] sz) := by
  refine Met.ofW (cc := cX12_finds) (maxL := 2) (ret := (some .int)) (by decide) rfl ?_
  intro p₀ e₀ s₀ m₀ args below meth c₀ s₁ B hml hv₀
  obtain ⟨rfl, hsz, hP, hK, hD0, hN⟩ := hv₀
  have hx₀ := B.exec
  have hb := B.bytes
  have hr := B.returns
  have hts := atoms_spec (ws := (kW yX12_finds cX12_finds 2 (some .int))) B.pre
  have hts := fun w h => hts w (List.mem_cons_of_mem _ h)
  have hown : s₀.vm.findClass RX12 = some m₀.cls := findClass_of_methodNamed B.named
  have hlocks := B.notSynchronized
  subst hsz
  have hD := hD0.self (sz := s₀.heap.size)
  generalize hAe : va_A [(hm, .inr (11, [.ref vFo, .ref vSi, .ref vIt, .ref vMo, .int la, .ref vBy, .ref vTy, .int mi, .ref vMi, .int pn, .ref vPs, .int gn, .ref vGs, .int fn, .ref vFt, .int le, .ref vTo, .int kn, .int fe, .int en, .int ca, .int an, .int co, .ref vPr, .ref vSt, .ref vFn, .int sn, .ref vSg, .ref vAl, .int dr]))] s₀.heap.size = A at hD ⊢
  have hA : ∀ q : Nat, s₀.heap.size ≤ q → A q := fun q h => by rw [← hAe]; exact Or.inr h
  have hS : va_S A s₀.heap s₀.heap [] := va_S.rf
  have hP : va_P (dC, dI) vwCl [(hm, .inr (11, [.ref vFo, .ref vSi, .ref vIt, .ref vMo, .int la, .ref vBy, .ref vTy, .int mi, .ref vMi, .int pn, .ref vPs, .int gn, .ref vGs, .int fn, .ref vFt, .int le, .ref vTo, .int kn, .int fe, .int en, .int ca, .int an, .int co, .ref vPr, .ref vSt, .ref vFn, .int sn, .ref vSg, .ref vAl, .int dr]))] s₀.heap := hP
  have hl := lv_entry ([.ref hm, .int 1]) (n := 2) (Nat.le_of_ble_eq_true rfl)
  rw [lg_entry_eq]
  generalize (lg_sl ([.ref hm, .int 1]) ++ List.replicate (2 - (lg_sl ([.ref hm, .int 1])).length) Slot.unset).toArray = ls at hl ⊢
  have hl : lv_has ls 2 [(0, .ref hm), (1, .int 1)] := hl
  obtain ⟨H, hH⟩ : ∃ z : Heap, z = s₀.heap := ⟨_, rfl⟩
  rw [← hH] at hP
  have hS : va_S A s₀.heap H [] := by rw [hH]; exact hS
  refine k_heap hH ?_
  have hD : va_D A [(hm, .inr (11, [.ref vFo, .ref vSi, .ref vIt, .ref vMo, .int la, .ref vBy, .ref vTy, .int mi, .ref vMi, .int pn, .ref vPs, .int gn, .ref vGs, .int fn, .ref vFt, .int le, .ref vTo, .int kn, .int fe, .int en, .int ca, .int an, .int co, .ref vPr, .ref vSt, .ref vFn, .int sn, .ref vSg, .ref vAl, .int dr]))] := hD
  obtain ⟨locs, hlo⟩ : ∃ z : List Loc, z = [] := ⟨_, rfl⟩
  rw [← hlo] at hS ⊢
  clear hlo hH hAe hD0
  refine lv_aload_n hx₀ hb dX12_finds_0 rfl (lv_at hl 0 rfl) ?_
  refine lv_iload_n hx₀ hb dX12_finds_1 rfl (lv_at hl 1 rfl) ?_
  refine va_put (D := (dC, dI)) (ci := 11) (v := .int 1) (ty := .int) (C := RX12) (T := TX12) (N := 30) hx₀ hb hts inlX12 tyX12 tyX12_ok nmX12 hown hK hP hD hS 0 rfl rfl 4 (by decide) (hts (.fieldLink RX12 69 "BittenStickModel" "latest" "I") wd_405) (fun _ h9 => h9) rfl (by decide +kernel) rfl rfl (Nat.le_of_ble_eq_true rfl) dX12_finds_2 (fun H locs hP hD hS => ?_)
  have hP : va_P (dC, dI) vwCl [(hm, .inr (11, [.ref vFo, .ref vSi, .ref vIt, .ref vMo, .int 1, .ref vBy, .ref vTy, .int mi, .ref vMi, .int pn, .ref vPs, .int gn, .ref vGs, .int fn, .ref vFt, .int le, .ref vTo, .int kn, .int fe, .int en, .int ca, .int an, .int co, .ref vPr, .ref vSt, .ref vFn, .int sn, .ref vSg, .ref vAl, .int dr]))] H := hP
  have hD : va_D A [(hm, .inr (11, [.ref vFo, .ref vSi, .ref vIt, .ref vMo, .int 1, .ref vBy, .ref vTy, .int mi, .ref vMi, .int pn, .ref vPs, .int gn, .ref vGs, .int fn, .ref vFt, .int le, .ref vTo, .int kn, .int fe, .int en, .int ca, .int an, .int co, .ref vPr, .ref vSt, .ref vFn, .int sn, .ref vSg, .ref vAl, .int dr]))] := hD
  refine lv_bipush (v := (-10)) hx₀ hb dX12_finds_5 (by decide +kernel) ?_
  refine lv_iload_n hx₀ hb dX12_finds_7 rfl (lv_at hl 1 rfl) ?_
  refine lv_isub hx₀ hb dX12_finds_8 ?_
  refine k_topi (v := (-11)) (by decide +kernel) ?_
  have hP9 := hP.sub (ws' := [(hm, .inr (11, [.ref vFo, .ref vSi, .ref vIt, .ref vMo, .int 1, .ref vBy, .ref vTy, .int mi, .ref vMi, .int pn, .ref vPs, .int gn, .ref vGs, .int fn, .ref vFt, .int le, .ref vTo, .int kn, .int fe, .int en, .int ca, .int an, .int co, .ref vPr, .ref vSt, .ref vFn, .int sn, .ref vSg, .ref vAl, .int dr]))]) [0] rfl
  have hD9 := hD.sub (ws' := [(hm, .inr (11, [.ref vFo, .ref vSi, .ref vIt, .ref vMo, .int 1, .ref vBy, .ref vTy, .int mi, .ref vMi, .int pn, .ref vPs, .int gn, .ref vGs, .int fn, .ref vFt, .int le, .ref vTo, .int kn, .int fe, .int en, .int ca, .int an, .int co, .ref vPr, .ref vSt, .ref vFn, .int sn, .ref vSg, .ref vAl, .int dr]))]) [0] (by decide) rfl
  exact W.iret (v := (-11)) hx₀ hb hr (fun t₀ ht hW => ⟨⟨(-11), (), rfl, rfl, by rw [ht]; exact hP9, va_K.moved hW.alike hK, hD9⟩, hS.F ht⟩) hS.2.2 dX12_finds_9
set_option maxHeartbeats 4000000 in
set_option maxRecDepth 100000 in
theorem g_finds2 (l : Launch) (dC : Nat → ClassId) (dI : Nat → Nat → Nat) (cI cJ cQ : ClassId) (sz : Nat) (hm : Nat) (vFo : Nat) (vSi : Nat) (vIt : Nat) (vMo : Nat) (la : Int32) (vBy : Nat) (vTy : Nat) (mi : Int32) (vMi : Nat) (pn : Int32) (vPs : Nat) (gn : Int32) (vGs : Nat) (fn : Int32) (vFt : Nat) (le : Int32) (vTo : Nat) (kn : Int32) (fe : Int32) (en : Int32) (ca : Int32) (an : Int32) (co : Int32) (vPr : Nat) (vSt : Nat) (vFn : Nat) (sn : Int32) (vSg : Nat) (vAl : Nat) (dr : Int32) : Met l yX12_finds (kW yX12_finds cX12_finds 2 (some .int)) { frames := 0, cells := 0, slots := 0, locals := 0 } (kPre dC dI cI cJ cQ sz [.ref hm, .int 2] [(hm, .inr (11, [.ref vFo, .ref vSi, .ref vIt, .ref vMo, .int la, .ref vBy, .ref vTy, .int mi, .ref vMi, .int pn, .ref vPs, .int gn, .ref vGs, .int fn, .ref vFt, .int le, .ref vTo, .int kn, .int fe, .int en, .int ca, .int an, .int co, .ref vPr, .ref vSt, .ref vFn, .int sn, .ref vSg, .ref vAl, .int dr]))]) (va_Qi (fun (r : Int32) (u : Unit) => (r = (-12))) (fun (u : Unit) t₀ => kB dC dI cI cJ cQ (va_A [(hm, .inr (11, [.ref vFo, .ref vSi, .ref vIt, .ref vMo, .int la, .ref vBy, .ref vTy, .int mi, .ref vMi, .int pn, .ref vPs, .int gn, .ref vGs, .int fn, .ref vFt, .int le, .ref vTo, .int kn, .int fe, .int en, .int ca, .int an, .int co, .ref vPr, .ref vSt, .ref vFn, .int sn, .ref vSg, .ref vAl, .int dr]))] sz) [(hm, .inr (11, [.ref vFo, .ref vSi, .ref vIt, .ref vMo, .int 2, .ref vBy, .ref vTy, .int mi, .ref vMi, .int pn, .ref vPs, .int gn, .ref vGs, .int fn, .ref vFt, .int le, .ref vTo, .int kn, .int fe, .int en, .int ca, .int an, .int co, .ref vPr, .ref vSt, .ref vFn, .int sn, .ref vSg, .ref vAl, .int dr]))] t₀) (va_A [(hm, .inr (11, [.ref vFo, .ref vSi, .ref vIt, .ref vMo, .int la, .ref vBy, .ref vTy, .int mi, .ref vMi, .int pn, .ref vPs, .int gn, .ref vGs, .int fn, .ref vFt, .int le, .ref vTo, .int kn, .int fe, .int en, .int ca, .int an, .int co, .ref vPr, .ref vSt, .ref vFn, .int sn, .ref vSg, .ref vAl, .int dr]))] sz)) 0 0 (va_A [(hm, .inr (11, [.ref vFo, .ref vSi, .ref vIt, .ref vMo, .int la, .ref vBy, .ref vTy, .int mi, .ref vMi, .int pn, .ref vPs, .int gn, .ref vGs, .int fn, .ref vFt, .int le, .ref vTo, .int kn, .int fe, .int en, .int ca, .int an, .int co, .ref vPr, .ref vSt, .ref vFn, .int sn, .ref vSg, .ref vAl, .int dr]))] sz) := by
  refine Met.ofW (cc := cX12_finds) (maxL := 2) (ret := (some .int)) (by decide) rfl ?_
  intro p₀ e₀ s₀ m₀ args below meth c₀ s₁ B hml hv₀
  obtain ⟨rfl, hsz, hP, hK, hD0, hN⟩ := hv₀
  have hx₀ := B.exec
  have hb := B.bytes
  have hr := B.returns
  have hts := atoms_spec (ws := (kW yX12_finds cX12_finds 2 (some .int))) B.pre
  have hts := fun w h => hts w (List.mem_cons_of_mem _ h)
  have hown : s₀.vm.findClass RX12 = some m₀.cls := findClass_of_methodNamed B.named
  have hlocks := B.notSynchronized
  subst hsz
  have hD := hD0.self (sz := s₀.heap.size)
  generalize hAe : va_A [(hm, .inr (11, [.ref vFo, .ref vSi, .ref vIt, .ref vMo, .int la, .ref vBy, .ref vTy, .int mi, .ref vMi, .int pn, .ref vPs, .int gn, .ref vGs, .int fn, .ref vFt, .int le, .ref vTo, .int kn, .int fe, .int en, .int ca, .int an, .int co, .ref vPr, .ref vSt, .ref vFn, .int sn, .ref vSg, .ref vAl, .int dr]))] s₀.heap.size = A at hD ⊢
  have hA : ∀ q : Nat, s₀.heap.size ≤ q → A q := fun q h => by rw [← hAe]; exact Or.inr h
  have hS : va_S A s₀.heap s₀.heap [] := va_S.rf
  have hP : va_P (dC, dI) vwCl [(hm, .inr (11, [.ref vFo, .ref vSi, .ref vIt, .ref vMo, .int la, .ref vBy, .ref vTy, .int mi, .ref vMi, .int pn, .ref vPs, .int gn, .ref vGs, .int fn, .ref vFt, .int le, .ref vTo, .int kn, .int fe, .int en, .int ca, .int an, .int co, .ref vPr, .ref vSt, .ref vFn, .int sn, .ref vSg, .ref vAl, .int dr]))] s₀.heap := hP
  have hl := lv_entry ([.ref hm, .int 2]) (n := 2) (Nat.le_of_ble_eq_true rfl)
  rw [lg_entry_eq]
  generalize (lg_sl ([.ref hm, .int 2]) ++ List.replicate (2 - (lg_sl ([.ref hm, .int 2])).length) Slot.unset).toArray = ls at hl ⊢
  have hl : lv_has ls 2 [(0, .ref hm), (1, .int 2)] := hl
  obtain ⟨H, hH⟩ : ∃ z : Heap, z = s₀.heap := ⟨_, rfl⟩
  rw [← hH] at hP
  have hS : va_S A s₀.heap H [] := by rw [hH]; exact hS
  refine k_heap hH ?_
  have hD : va_D A [(hm, .inr (11, [.ref vFo, .ref vSi, .ref vIt, .ref vMo, .int la, .ref vBy, .ref vTy, .int mi, .ref vMi, .int pn, .ref vPs, .int gn, .ref vGs, .int fn, .ref vFt, .int le, .ref vTo, .int kn, .int fe, .int en, .int ca, .int an, .int co, .ref vPr, .ref vSt, .ref vFn, .int sn, .ref vSg, .ref vAl, .int dr]))] := hD
  obtain ⟨locs, hlo⟩ : ∃ z : List Loc, z = [] := ⟨_, rfl⟩
  rw [← hlo] at hS ⊢
  clear hlo hH hAe hD0
  refine lv_aload_n hx₀ hb dX12_finds_0 rfl (lv_at hl 0 rfl) ?_
  refine lv_iload_n hx₀ hb dX12_finds_1 rfl (lv_at hl 1 rfl) ?_
  refine va_put (D := (dC, dI)) (ci := 11) (v := .int 2) (ty := .int) (C := RX12) (T := TX12) (N := 30) hx₀ hb hts inlX12 tyX12 tyX12_ok nmX12 hown hK hP hD hS 0 rfl rfl 4 (by decide) (hts (.fieldLink RX12 69 "BittenStickModel" "latest" "I") wd_405) (fun _ h9 => h9) rfl (by decide +kernel) rfl rfl (Nat.le_of_ble_eq_true rfl) dX12_finds_2 (fun H locs hP hD hS => ?_)
  have hP : va_P (dC, dI) vwCl [(hm, .inr (11, [.ref vFo, .ref vSi, .ref vIt, .ref vMo, .int 2, .ref vBy, .ref vTy, .int mi, .ref vMi, .int pn, .ref vPs, .int gn, .ref vGs, .int fn, .ref vFt, .int le, .ref vTo, .int kn, .int fe, .int en, .int ca, .int an, .int co, .ref vPr, .ref vSt, .ref vFn, .int sn, .ref vSg, .ref vAl, .int dr]))] H := hP
  have hD : va_D A [(hm, .inr (11, [.ref vFo, .ref vSi, .ref vIt, .ref vMo, .int 2, .ref vBy, .ref vTy, .int mi, .ref vMi, .int pn, .ref vPs, .int gn, .ref vGs, .int fn, .ref vFt, .int le, .ref vTo, .int kn, .int fe, .int en, .int ca, .int an, .int co, .ref vPr, .ref vSt, .ref vFn, .int sn, .ref vSg, .ref vAl, .int dr]))] := hD
  refine lv_bipush (v := (-10)) hx₀ hb dX12_finds_5 (by decide +kernel) ?_
  refine lv_iload_n hx₀ hb dX12_finds_7 rfl (lv_at hl 1 rfl) ?_
  refine lv_isub hx₀ hb dX12_finds_8 ?_
  refine k_topi (v := (-12)) (by decide +kernel) ?_
  have hP9 := hP.sub (ws' := [(hm, .inr (11, [.ref vFo, .ref vSi, .ref vIt, .ref vMo, .int 2, .ref vBy, .ref vTy, .int mi, .ref vMi, .int pn, .ref vPs, .int gn, .ref vGs, .int fn, .ref vFt, .int le, .ref vTo, .int kn, .int fe, .int en, .int ca, .int an, .int co, .ref vPr, .ref vSt, .ref vFn, .int sn, .ref vSg, .ref vAl, .int dr]))]) [0] rfl
  have hD9 := hD.sub (ws' := [(hm, .inr (11, [.ref vFo, .ref vSi, .ref vIt, .ref vMo, .int 2, .ref vBy, .ref vTy, .int mi, .ref vMi, .int pn, .ref vPs, .int gn, .ref vGs, .int fn, .ref vFt, .int le, .ref vTo, .int kn, .int fe, .int en, .int ca, .int an, .int co, .ref vPr, .ref vSt, .ref vFn, .int sn, .ref vSg, .ref vAl, .int dr]))]) [0] (by decide) rfl
  exact W.iret (v := (-12)) hx₀ hb hr (fun t₀ ht hW => ⟨⟨(-12), (), rfl, rfl, by rw [ht]; exact hP9, va_K.moved hW.alike hK, hD9⟩, hS.F ht⟩) hS.2.2 dX12_finds_9
set_option maxHeartbeats 4000000 in
set_option maxRecDepth 100000 in
theorem g_finds3 (l : Launch) (dC : Nat → ClassId) (dI : Nat → Nat → Nat) (cI cJ cQ : ClassId) (sz : Nat) (hm : Nat) (vFo : Nat) (vSi : Nat) (vIt : Nat) (vMo : Nat) (la : Int32) (vBy : Nat) (vTy : Nat) (mi : Int32) (vMi : Nat) (pn : Int32) (vPs : Nat) (gn : Int32) (vGs : Nat) (fn : Int32) (vFt : Nat) (le : Int32) (vTo : Nat) (kn : Int32) (fe : Int32) (en : Int32) (ca : Int32) (an : Int32) (co : Int32) (vPr : Nat) (vSt : Nat) (vFn : Nat) (sn : Int32) (vSg : Nat) (vAl : Nat) (dr : Int32) : Met l yX12_finds (kW yX12_finds cX12_finds 2 (some .int)) { frames := 0, cells := 0, slots := 0, locals := 0 } (kPre dC dI cI cJ cQ sz [.ref hm, .int 3] [(hm, .inr (11, [.ref vFo, .ref vSi, .ref vIt, .ref vMo, .int la, .ref vBy, .ref vTy, .int mi, .ref vMi, .int pn, .ref vPs, .int gn, .ref vGs, .int fn, .ref vFt, .int le, .ref vTo, .int kn, .int fe, .int en, .int ca, .int an, .int co, .ref vPr, .ref vSt, .ref vFn, .int sn, .ref vSg, .ref vAl, .int dr]))]) (va_Qi (fun (r : Int32) (u : Unit) => (r = (-13))) (fun (u : Unit) t₀ => kB dC dI cI cJ cQ (va_A [(hm, .inr (11, [.ref vFo, .ref vSi, .ref vIt, .ref vMo, .int la, .ref vBy, .ref vTy, .int mi, .ref vMi, .int pn, .ref vPs, .int gn, .ref vGs, .int fn, .ref vFt, .int le, .ref vTo, .int kn, .int fe, .int en, .int ca, .int an, .int co, .ref vPr, .ref vSt, .ref vFn, .int sn, .ref vSg, .ref vAl, .int dr]))] sz) [(hm, .inr (11, [.ref vFo, .ref vSi, .ref vIt, .ref vMo, .int 3, .ref vBy, .ref vTy, .int mi, .ref vMi, .int pn, .ref vPs, .int gn, .ref vGs, .int fn, .ref vFt, .int le, .ref vTo, .int kn, .int fe, .int en, .int ca, .int an, .int co, .ref vPr, .ref vSt, .ref vFn, .int sn, .ref vSg, .ref vAl, .int dr]))] t₀) (va_A [(hm, .inr (11, [.ref vFo, .ref vSi, .ref vIt, .ref vMo, .int la, .ref vBy, .ref vTy, .int mi, .ref vMi, .int pn, .ref vPs, .int gn, .ref vGs, .int fn, .ref vFt, .int le, .ref vTo, .int kn, .int fe, .int en, .int ca, .int an, .int co, .ref vPr, .ref vSt, .ref vFn, .int sn, .ref vSg, .ref vAl, .int dr]))] sz)) 0 0 (va_A [(hm, .inr (11, [.ref vFo, .ref vSi, .ref vIt, .ref vMo, .int la, .ref vBy, .ref vTy, .int mi, .ref vMi, .int pn, .ref vPs, .int gn, .ref vGs, .int fn, .ref vFt, .int le, .ref vTo, .int kn, .int fe, .int en, .int ca, .int an, .int co, .ref vPr, .ref vSt, .ref vFn, .int sn, .ref vSg, .ref vAl, .int dr]))] sz) := by
  refine Met.ofW (cc := cX12_finds) (maxL := 2) (ret := (some .int)) (by decide) rfl ?_
  intro p₀ e₀ s₀ m₀ args below meth c₀ s₁ B hml hv₀
  obtain ⟨rfl, hsz, hP, hK, hD0, hN⟩ := hv₀
  have hx₀ := B.exec
  have hb := B.bytes
  have hr := B.returns
  have hts := atoms_spec (ws := (kW yX12_finds cX12_finds 2 (some .int))) B.pre
  have hts := fun w h => hts w (List.mem_cons_of_mem _ h)
  have hown : s₀.vm.findClass RX12 = some m₀.cls := findClass_of_methodNamed B.named
  have hlocks := B.notSynchronized
  subst hsz
  have hD := hD0.self (sz := s₀.heap.size)
  generalize hAe : va_A [(hm, .inr (11, [.ref vFo, .ref vSi, .ref vIt, .ref vMo, .int la, .ref vBy, .ref vTy, .int mi, .ref vMi, .int pn, .ref vPs, .int gn, .ref vGs, .int fn, .ref vFt, .int le, .ref vTo, .int kn, .int fe, .int en, .int ca, .int an, .int co, .ref vPr, .ref vSt, .ref vFn, .int sn, .ref vSg, .ref vAl, .int dr]))] s₀.heap.size = A at hD ⊢
  have hA : ∀ q : Nat, s₀.heap.size ≤ q → A q := fun q h => by rw [← hAe]; exact Or.inr h
  have hS : va_S A s₀.heap s₀.heap [] := va_S.rf
  have hP : va_P (dC, dI) vwCl [(hm, .inr (11, [.ref vFo, .ref vSi, .ref vIt, .ref vMo, .int la, .ref vBy, .ref vTy, .int mi, .ref vMi, .int pn, .ref vPs, .int gn, .ref vGs, .int fn, .ref vFt, .int le, .ref vTo, .int kn, .int fe, .int en, .int ca, .int an, .int co, .ref vPr, .ref vSt, .ref vFn, .int sn, .ref vSg, .ref vAl, .int dr]))] s₀.heap := hP
  have hl := lv_entry ([.ref hm, .int 3]) (n := 2) (Nat.le_of_ble_eq_true rfl)
  rw [lg_entry_eq]
  generalize (lg_sl ([.ref hm, .int 3]) ++ List.replicate (2 - (lg_sl ([.ref hm, .int 3])).length) Slot.unset).toArray = ls at hl ⊢
  have hl : lv_has ls 2 [(0, .ref hm), (1, .int 3)] := hl
  obtain ⟨H, hH⟩ : ∃ z : Heap, z = s₀.heap := ⟨_, rfl⟩
  rw [← hH] at hP
  have hS : va_S A s₀.heap H [] := by rw [hH]; exact hS
  refine k_heap hH ?_
  have hD : va_D A [(hm, .inr (11, [.ref vFo, .ref vSi, .ref vIt, .ref vMo, .int la, .ref vBy, .ref vTy, .int mi, .ref vMi, .int pn, .ref vPs, .int gn, .ref vGs, .int fn, .ref vFt, .int le, .ref vTo, .int kn, .int fe, .int en, .int ca, .int an, .int co, .ref vPr, .ref vSt, .ref vFn, .int sn, .ref vSg, .ref vAl, .int dr]))] := hD
  obtain ⟨locs, hlo⟩ : ∃ z : List Loc, z = [] := ⟨_, rfl⟩
  rw [← hlo] at hS ⊢
  clear hlo hH hAe hD0
  refine lv_aload_n hx₀ hb dX12_finds_0 rfl (lv_at hl 0 rfl) ?_
  refine lv_iload_n hx₀ hb dX12_finds_1 rfl (lv_at hl 1 rfl) ?_
  refine va_put (D := (dC, dI)) (ci := 11) (v := .int 3) (ty := .int) (C := RX12) (T := TX12) (N := 30) hx₀ hb hts inlX12 tyX12 tyX12_ok nmX12 hown hK hP hD hS 0 rfl rfl 4 (by decide) (hts (.fieldLink RX12 69 "BittenStickModel" "latest" "I") wd_405) (fun _ h9 => h9) rfl (by decide +kernel) rfl rfl (Nat.le_of_ble_eq_true rfl) dX12_finds_2 (fun H locs hP hD hS => ?_)
  have hP : va_P (dC, dI) vwCl [(hm, .inr (11, [.ref vFo, .ref vSi, .ref vIt, .ref vMo, .int 3, .ref vBy, .ref vTy, .int mi, .ref vMi, .int pn, .ref vPs, .int gn, .ref vGs, .int fn, .ref vFt, .int le, .ref vTo, .int kn, .int fe, .int en, .int ca, .int an, .int co, .ref vPr, .ref vSt, .ref vFn, .int sn, .ref vSg, .ref vAl, .int dr]))] H := hP
  have hD : va_D A [(hm, .inr (11, [.ref vFo, .ref vSi, .ref vIt, .ref vMo, .int 3, .ref vBy, .ref vTy, .int mi, .ref vMi, .int pn, .ref vPs, .int gn, .ref vGs, .int fn, .ref vFt, .int le, .ref vTo, .int kn, .int fe, .int en, .int ca, .int an, .int co, .ref vPr, .ref vSt, .ref vFn, .int sn, .ref vSg, .ref vAl, .int dr]))] := hD
  refine lv_bipush (v := (-10)) hx₀ hb dX12_finds_5 (by decide +kernel) ?_
  refine lv_iload_n hx₀ hb dX12_finds_7 rfl (lv_at hl 1 rfl) ?_
  refine lv_isub hx₀ hb dX12_finds_8 ?_
  refine k_topi (v := (-13)) (by decide +kernel) ?_
  have hP9 := hP.sub (ws' := [(hm, .inr (11, [.ref vFo, .ref vSi, .ref vIt, .ref vMo, .int 3, .ref vBy, .ref vTy, .int mi, .ref vMi, .int pn, .ref vPs, .int gn, .ref vGs, .int fn, .ref vFt, .int le, .ref vTo, .int kn, .int fe, .int en, .int ca, .int an, .int co, .ref vPr, .ref vSt, .ref vFn, .int sn, .ref vSg, .ref vAl, .int dr]))]) [0] rfl
  have hD9 := hD.sub (ws' := [(hm, .inr (11, [.ref vFo, .ref vSi, .ref vIt, .ref vMo, .int 3, .ref vBy, .ref vTy, .int mi, .ref vMi, .int pn, .ref vPs, .int gn, .ref vGs, .int fn, .ref vFt, .int le, .ref vTo, .int kn, .int fe, .int en, .int ca, .int an, .int co, .ref vPr, .ref vSt, .ref vFn, .int sn, .ref vSg, .ref vAl, .int dr]))]) [0] (by decide) rfl
  exact W.iret (v := (-13)) hx₀ hb hr (fun t₀ ht hW => ⟨⟨(-13), (), rfl, rfl, by rw [ht]; exact hP9, va_K.moved hW.alike hK, hD9⟩, hS.F ht⟩) hS.2.2 dX12_finds_9
set_option maxHeartbeats 4000000 in
set_option maxRecDepth 100000 in
theorem g_finds4 (l : Launch) (dC : Nat → ClassId) (dI : Nat → Nat → Nat) (cI cJ cQ : ClassId) (sz : Nat) (hm : Nat) (vFo : Nat) (vSi : Nat) (vIt : Nat) (vMo : Nat) (la : Int32) (vBy : Nat) (vTy : Nat) (mi : Int32) (vMi : Nat) (pn : Int32) (vPs : Nat) (gn : Int32) (vGs : Nat) (fn : Int32) (vFt : Nat) (le : Int32) (vTo : Nat) (kn : Int32) (fe : Int32) (en : Int32) (ca : Int32) (an : Int32) (co : Int32) (vPr : Nat) (vSt : Nat) (vFn : Nat) (sn : Int32) (vSg : Nat) (vAl : Nat) (dr : Int32) : Met l yX12_finds (kW yX12_finds cX12_finds 2 (some .int)) { frames := 0, cells := 0, slots := 0, locals := 0 } (kPre dC dI cI cJ cQ sz [.ref hm, .int 4] [(hm, .inr (11, [.ref vFo, .ref vSi, .ref vIt, .ref vMo, .int la, .ref vBy, .ref vTy, .int mi, .ref vMi, .int pn, .ref vPs, .int gn, .ref vGs, .int fn, .ref vFt, .int le, .ref vTo, .int kn, .int fe, .int en, .int ca, .int an, .int co, .ref vPr, .ref vSt, .ref vFn, .int sn, .ref vSg, .ref vAl, .int dr]))]) (va_Qi (fun (r : Int32) (u : Unit) => (r = (-14))) (fun (u : Unit) t₀ => kB dC dI cI cJ cQ (va_A [(hm, .inr (11, [.ref vFo, .ref vSi, .ref vIt, .ref vMo, .int la, .ref vBy, .ref vTy, .int mi, .ref vMi, .int pn, .ref vPs, .int gn, .ref vGs, .int fn, .ref vFt, .int le, .ref vTo, .int kn, .int fe, .int en, .int ca, .int an, .int co, .ref vPr, .ref vSt, .ref vFn, .int sn, .ref vSg, .ref vAl, .int dr]))] sz) [(hm, .inr (11, [.ref vFo, .ref vSi, .ref vIt, .ref vMo, .int 4, .ref vBy, .ref vTy, .int mi, .ref vMi, .int pn, .ref vPs, .int gn, .ref vGs, .int fn, .ref vFt, .int le, .ref vTo, .int kn, .int fe, .int en, .int ca, .int an, .int co, .ref vPr, .ref vSt, .ref vFn, .int sn, .ref vSg, .ref vAl, .int dr]))] t₀) (va_A [(hm, .inr (11, [.ref vFo, .ref vSi, .ref vIt, .ref vMo, .int la, .ref vBy, .ref vTy, .int mi, .ref vMi, .int pn, .ref vPs, .int gn, .ref vGs, .int fn, .ref vFt, .int le, .ref vTo, .int kn, .int fe, .int en, .int ca, .int an, .int co, .ref vPr, .ref vSt, .ref vFn, .int sn, .ref vSg, .ref vAl, .int dr]))] sz)) 0 0 (va_A [(hm, .inr (11, [.ref vFo, .ref vSi, .ref vIt, .ref vMo, .int la, .ref vBy, .ref vTy, .int mi, .ref vMi, .int pn, .ref vPs, .int gn, .ref vGs, .int fn, .ref vFt, .int le, .ref vTo, .int kn, .int fe, .int en, .int ca, .int an, .int co, .ref vPr, .ref vSt, .ref vFn, .int sn, .ref vSg, .ref vAl, .int dr]))] sz) := by
  refine Met.ofW (cc := cX12_finds) (maxL := 2) (ret := (some .int)) (by decide) rfl ?_
  intro p₀ e₀ s₀ m₀ args below meth c₀ s₁ B hml hv₀
  obtain ⟨rfl, hsz, hP, hK, hD0, hN⟩ := hv₀
  have hx₀ := B.exec
  have hb := B.bytes
  have hr := B.returns
  have hts := atoms_spec (ws := (kW yX12_finds cX12_finds 2 (some .int))) B.pre
  have hts := fun w h => hts w (List.mem_cons_of_mem _ h)
  have hown : s₀.vm.findClass RX12 = some m₀.cls := findClass_of_methodNamed B.named
  have hlocks := B.notSynchronized
  subst hsz
  have hD := hD0.self (sz := s₀.heap.size)
  generalize hAe : va_A [(hm, .inr (11, [.ref vFo, .ref vSi, .ref vIt, .ref vMo, .int la, .ref vBy, .ref vTy, .int mi, .ref vMi, .int pn, .ref vPs, .int gn, .ref vGs, .int fn, .ref vFt, .int le, .ref vTo, .int kn, .int fe, .int en, .int ca, .int an, .int co, .ref vPr, .ref vSt, .ref vFn, .int sn, .ref vSg, .ref vAl, .int dr]))] s₀.heap.size = A at hD ⊢
  have hA : ∀ q : Nat, s₀.heap.size ≤ q → A q := fun q h => by rw [← hAe]; exact Or.inr h
  have hS : va_S A s₀.heap s₀.heap [] := va_S.rf
  have hP : va_P (dC, dI) vwCl [(hm, .inr (11, [.ref vFo, .ref vSi, .ref vIt, .ref vMo, .int la, .ref vBy, .ref vTy, .int mi, .ref vMi, .int pn, .ref vPs, .int gn, .ref vGs, .int fn, .ref vFt, .int le, .ref vTo, .int kn, .int fe, .int en, .int ca, .int an, .int co, .ref vPr, .ref vSt, .ref vFn, .int sn, .ref vSg, .ref vAl, .int dr]))] s₀.heap := hP
  have hl := lv_entry ([.ref hm, .int 4]) (n := 2) (Nat.le_of_ble_eq_true rfl)
  rw [lg_entry_eq]
  generalize (lg_sl ([.ref hm, .int 4]) ++ List.replicate (2 - (lg_sl ([.ref hm, .int 4])).length) Slot.unset).toArray = ls at hl ⊢
  have hl : lv_has ls 2 [(0, .ref hm), (1, .int 4)] := hl
  obtain ⟨H, hH⟩ : ∃ z : Heap, z = s₀.heap := ⟨_, rfl⟩
  rw [← hH] at hP
  have hS : va_S A s₀.heap H [] := by rw [hH]; exact hS
  refine k_heap hH ?_
  have hD : va_D A [(hm, .inr (11, [.ref vFo, .ref vSi, .ref vIt, .ref vMo, .int la, .ref vBy, .ref vTy, .int mi, .ref vMi, .int pn, .ref vPs, .int gn, .ref vGs, .int fn, .ref vFt, .int le, .ref vTo, .int kn, .int fe, .int en, .int ca, .int an, .int co, .ref vPr, .ref vSt, .ref vFn, .int sn, .ref vSg, .ref vAl, .int dr]))] := hD
  obtain ⟨locs, hlo⟩ : ∃ z : List Loc, z = [] := ⟨_, rfl⟩
  rw [← hlo] at hS ⊢
  clear hlo hH hAe hD0
  refine lv_aload_n hx₀ hb dX12_finds_0 rfl (lv_at hl 0 rfl) ?_
  refine lv_iload_n hx₀ hb dX12_finds_1 rfl (lv_at hl 1 rfl) ?_
  refine va_put (D := (dC, dI)) (ci := 11) (v := .int 4) (ty := .int) (C := RX12) (T := TX12) (N := 30) hx₀ hb hts inlX12 tyX12 tyX12_ok nmX12 hown hK hP hD hS 0 rfl rfl 4 (by decide) (hts (.fieldLink RX12 69 "BittenStickModel" "latest" "I") wd_405) (fun _ h9 => h9) rfl (by decide +kernel) rfl rfl (Nat.le_of_ble_eq_true rfl) dX12_finds_2 (fun H locs hP hD hS => ?_)
  have hP : va_P (dC, dI) vwCl [(hm, .inr (11, [.ref vFo, .ref vSi, .ref vIt, .ref vMo, .int 4, .ref vBy, .ref vTy, .int mi, .ref vMi, .int pn, .ref vPs, .int gn, .ref vGs, .int fn, .ref vFt, .int le, .ref vTo, .int kn, .int fe, .int en, .int ca, .int an, .int co, .ref vPr, .ref vSt, .ref vFn, .int sn, .ref vSg, .ref vAl, .int dr]))] H := hP
  have hD : va_D A [(hm, .inr (11, [.ref vFo, .ref vSi, .ref vIt, .ref vMo, .int 4, .ref vBy, .ref vTy, .int mi, .ref vMi, .int pn, .ref vPs, .int gn, .ref vGs, .int fn, .ref vFt, .int le, .ref vTo, .int kn, .int fe, .int en, .int ca, .int an, .int co, .ref vPr, .ref vSt, .ref vFn, .int sn, .ref vSg, .ref vAl, .int dr]))] := hD
  refine lv_bipush (v := (-10)) hx₀ hb dX12_finds_5 (by decide +kernel) ?_
  refine lv_iload_n hx₀ hb dX12_finds_7 rfl (lv_at hl 1 rfl) ?_
  refine lv_isub hx₀ hb dX12_finds_8 ?_
  refine k_topi (v := (-14)) (by decide +kernel) ?_
  have hP9 := hP.sub (ws' := [(hm, .inr (11, [.ref vFo, .ref vSi, .ref vIt, .ref vMo, .int 4, .ref vBy, .ref vTy, .int mi, .ref vMi, .int pn, .ref vPs, .int gn, .ref vGs, .int fn, .ref vFt, .int le, .ref vTo, .int kn, .int fe, .int en, .int ca, .int an, .int co, .ref vPr, .ref vSt, .ref vFn, .int sn, .ref vSg, .ref vAl, .int dr]))]) [0] rfl
  have hD9 := hD.sub (ws' := [(hm, .inr (11, [.ref vFo, .ref vSi, .ref vIt, .ref vMo, .int 4, .ref vBy, .ref vTy, .int mi, .ref vMi, .int pn, .ref vPs, .int gn, .ref vGs, .int fn, .ref vFt, .int le, .ref vTo, .int kn, .int fe, .int en, .int ca, .int an, .int co, .ref vPr, .ref vSt, .ref vFn, .int sn, .ref vSg, .ref vAl, .int dr]))]) [0] (by decide) rfl
  exact W.iret (v := (-14)) hx₀ hb hr (fun t₀ ht hW => ⟨⟨(-14), (), rfl, rfl, by rw [ht]; exact hP9, va_K.moved hW.alike hK, hD9⟩, hS.F ht⟩) hS.2.2 dX12_finds_9
set_option maxHeartbeats 4000000 in
set_option maxRecDepth 100000 in
theorem g_finds5 (l : Launch) (dC : Nat → ClassId) (dI : Nat → Nat → Nat) (cI cJ cQ : ClassId) (sz : Nat) (hm : Nat) (vFo : Nat) (vSi : Nat) (vIt : Nat) (vMo : Nat) (la : Int32) (vBy : Nat) (vTy : Nat) (mi : Int32) (vMi : Nat) (pn : Int32) (vPs : Nat) (gn : Int32) (vGs : Nat) (fn : Int32) (vFt : Nat) (le : Int32) (vTo : Nat) (kn : Int32) (fe : Int32) (en : Int32) (ca : Int32) (an : Int32) (co : Int32) (vPr : Nat) (vSt : Nat) (vFn : Nat) (sn : Int32) (vSg : Nat) (vAl : Nat) (dr : Int32) : Met l yX12_finds (kW yX12_finds cX12_finds 2 (some .int)) { frames := 0, cells := 0, slots := 0, locals := 0 } (kPre dC dI cI cJ cQ sz [.ref hm, .int 5] [(hm, .inr (11, [.ref vFo, .ref vSi, .ref vIt, .ref vMo, .int la, .ref vBy, .ref vTy, .int mi, .ref vMi, .int pn, .ref vPs, .int gn, .ref vGs, .int fn, .ref vFt, .int le, .ref vTo, .int kn, .int fe, .int en, .int ca, .int an, .int co, .ref vPr, .ref vSt, .ref vFn, .int sn, .ref vSg, .ref vAl, .int dr]))]) (va_Qi (fun (r : Int32) (u : Unit) => (r = (-15))) (fun (u : Unit) t₀ => kB dC dI cI cJ cQ (va_A [(hm, .inr (11, [.ref vFo, .ref vSi, .ref vIt, .ref vMo, .int la, .ref vBy, .ref vTy, .int mi, .ref vMi, .int pn, .ref vPs, .int gn, .ref vGs, .int fn, .ref vFt, .int le, .ref vTo, .int kn, .int fe, .int en, .int ca, .int an, .int co, .ref vPr, .ref vSt, .ref vFn, .int sn, .ref vSg, .ref vAl, .int dr]))] sz) [(hm, .inr (11, [.ref vFo, .ref vSi, .ref vIt, .ref vMo, .int 5, .ref vBy, .ref vTy, .int mi, .ref vMi, .int pn, .ref vPs, .int gn, .ref vGs, .int fn, .ref vFt, .int le, .ref vTo, .int kn, .int fe, .int en, .int ca, .int an, .int co, .ref vPr, .ref vSt, .ref vFn, .int sn, .ref vSg, .ref vAl, .int dr]))] t₀) (va_A [(hm, .inr (11, [.ref vFo, .ref vSi, .ref vIt, .ref vMo, .int la, .ref vBy, .ref vTy, .int mi, .ref vMi, .int pn, .ref vPs, .int gn, .ref vGs, .int fn, .ref vFt, .int le, .ref vTo, .int kn, .int fe, .int en, .int ca, .int an, .int co, .ref vPr, .ref vSt, .ref vFn, .int sn, .ref vSg, .ref vAl, .int dr]))] sz)) 0 0 (va_A [(hm, .inr (11, [.ref vFo, .ref vSi, .ref vIt, .ref vMo, .int la, .ref vBy, .ref vTy, .int mi, .ref vMi, .int pn, .ref vPs, .int gn, .ref vGs, .int fn, .ref vFt, .int le, .ref vTo, .int kn, .int fe, .int en, .int ca, .int an, .int co, .ref vPr, .ref vSt, .ref vFn, .int sn, .ref vSg, .ref vAl, .int dr]))] sz) := by
  refine Met.ofW (cc := cX12_finds) (maxL := 2) (ret := (some .int)) (by decide) rfl ?_
  intro p₀ e₀ s₀ m₀ args below meth c₀ s₁ B hml hv₀
  obtain ⟨rfl, hsz, hP, hK, hD0, hN⟩ := hv₀
  have hx₀ := B.exec
  have hb := B.bytes
  have hr := B.returns
  have hts := atoms_spec (ws := (kW yX12_finds cX12_finds 2 (some .int))) B.pre
  have hts := fun w h => hts w (List.mem_cons_of_mem _ h)
  have hown : s₀.vm.findClass RX12 = some m₀.cls := findClass_of_methodNamed B.named
  have hlocks := B.notSynchronized
  subst hsz
  have hD := hD0.self (sz := s₀.heap.size)
  generalize hAe : va_A [(hm, .inr (11, [.ref vFo, .ref vSi, .ref vIt, .ref vMo, .int la, .ref vBy, .ref vTy, .int mi, .ref vMi, .int pn, .ref vPs, .int gn, .ref vGs, .int fn, .ref vFt, .int le, .ref vTo, .int kn, .int fe, .int en, .int ca, .int an, .int co, .ref vPr, .ref vSt, .ref vFn, .int sn, .ref vSg, .ref vAl, .int dr]))] s₀.heap.size = A at hD ⊢
  have hA : ∀ q : Nat, s₀.heap.size ≤ q → A q := fun q h => by rw [← hAe]; exact Or.inr h
  have hS : va_S A s₀.heap s₀.heap [] := va_S.rf
  have hP : va_P (dC, dI) vwCl [(hm, .inr (11, [.ref vFo, .ref vSi, .ref vIt, .ref vMo, .int la, .ref vBy, .ref vTy, .int mi, .ref vMi, .int pn, .ref vPs, .int gn, .ref vGs, .int fn, .ref vFt, .int le, .ref vTo, .int kn, .int fe, .int en, .int ca, .int an, .int co, .ref vPr, .ref vSt, .ref vFn, .int sn, .ref vSg, .ref vAl, .int dr]))] s₀.heap := hP
  have hl := lv_entry ([.ref hm, .int 5]) (n := 2) (Nat.le_of_ble_eq_true rfl)
  rw [lg_entry_eq]
  generalize (lg_sl ([.ref hm, .int 5]) ++ List.replicate (2 - (lg_sl ([.ref hm, .int 5])).length) Slot.unset).toArray = ls at hl ⊢
  have hl : lv_has ls 2 [(0, .ref hm), (1, .int 5)] := hl
  obtain ⟨H, hH⟩ : ∃ z : Heap, z = s₀.heap := ⟨_, rfl⟩
  rw [← hH] at hP
  have hS : va_S A s₀.heap H [] := by rw [hH]; exact hS
  refine k_heap hH ?_
  have hD : va_D A [(hm, .inr (11, [.ref vFo, .ref vSi, .ref vIt, .ref vMo, .int la, .ref vBy, .ref vTy, .int mi, .ref vMi, .int pn, .ref vPs, .int gn, .ref vGs, .int fn, .ref vFt, .int le, .ref vTo, .int kn, .int fe, .int en, .int ca, .int an, .int co, .ref vPr, .ref vSt, .ref vFn, .int sn, .ref vSg, .ref vAl, .int dr]))] := hD
  obtain ⟨locs, hlo⟩ : ∃ z : List Loc, z = [] := ⟨_, rfl⟩
  rw [← hlo] at hS ⊢
  clear hlo hH hAe hD0
  refine lv_aload_n hx₀ hb dX12_finds_0 rfl (lv_at hl 0 rfl) ?_
  refine lv_iload_n hx₀ hb dX12_finds_1 rfl (lv_at hl 1 rfl) ?_
  refine va_put (D := (dC, dI)) (ci := 11) (v := .int 5) (ty := .int) (C := RX12) (T := TX12) (N := 30) hx₀ hb hts inlX12 tyX12 tyX12_ok nmX12 hown hK hP hD hS 0 rfl rfl 4 (by decide) (hts (.fieldLink RX12 69 "BittenStickModel" "latest" "I") wd_405) (fun _ h9 => h9) rfl (by decide +kernel) rfl rfl (Nat.le_of_ble_eq_true rfl) dX12_finds_2 (fun H locs hP hD hS => ?_)
  have hP : va_P (dC, dI) vwCl [(hm, .inr (11, [.ref vFo, .ref vSi, .ref vIt, .ref vMo, .int 5, .ref vBy, .ref vTy, .int mi, .ref vMi, .int pn, .ref vPs, .int gn, .ref vGs, .int fn, .ref vFt, .int le, .ref vTo, .int kn, .int fe, .int en, .int ca, .int an, .int co, .ref vPr, .ref vSt, .ref vFn, .int sn, .ref vSg, .ref vAl, .int dr]))] H := hP
  have hD : va_D A [(hm, .inr (11, [.ref vFo, .ref vSi, .ref vIt, .ref vMo, .int 5, .ref vBy, .ref vTy, .int mi, .ref vMi, .int pn, .ref vPs, .int gn, .ref vGs, .int fn, .ref vFt, .int le, .ref vTo, .int kn, .int fe, .int en, .int ca, .int an, .int co, .ref vPr, .ref vSt, .ref vFn, .int sn, .ref vSg, .ref vAl, .int dr]))] := hD
  refine lv_bipush (v := (-10)) hx₀ hb dX12_finds_5 (by decide +kernel) ?_
  refine lv_iload_n hx₀ hb dX12_finds_7 rfl (lv_at hl 1 rfl) ?_
  refine lv_isub hx₀ hb dX12_finds_8 ?_
  refine k_topi (v := (-15)) (by decide +kernel) ?_
  have hP9 := hP.sub (ws' := [(hm, .inr (11, [.ref vFo, .ref vSi, .ref vIt, .ref vMo, .int 5, .ref vBy, .ref vTy, .int mi, .ref vMi, .int pn, .ref vPs, .int gn, .ref vGs, .int fn, .ref vFt, .int le, .ref vTo, .int kn, .int fe, .int en, .int ca, .int an, .int co, .ref vPr, .ref vSt, .ref vFn, .int sn, .ref vSg, .ref vAl, .int dr]))]) [0] rfl
  have hD9 := hD.sub (ws' := [(hm, .inr (11, [.ref vFo, .ref vSi, .ref vIt, .ref vMo, .int 5, .ref vBy, .ref vTy, .int mi, .ref vMi, .int pn, .ref vPs, .int gn, .ref vGs, .int fn, .ref vFt, .int le, .ref vTo, .int kn, .int fe, .int en, .int ca, .int an, .int co, .ref vPr, .ref vSt, .ref vFn, .int sn, .ref vSg, .ref vAl, .int dr]))]) [0] (by decide) rfl
  exact W.iret (v := (-15)) hx₀ hb hr (fun t₀ ht hW => ⟨⟨(-15), (), rfl, rfl, by rw [ht]; exact hP9, va_K.moved hW.alike hK, hD9⟩, hS.F ht⟩) hS.2.2 dX12_finds_9
set_option maxHeartbeats 4000000 in
set_option maxRecDepth 100000 in
theorem g_callOf (l : Launch) (dC : Nat → ClassId) (dI : Nat → Nat → Nat) (cI cJ cQ : ClassId) (sz : Nat) (b1 : Int32) : Met l yX12_callOf (kW yX12_callOf cX12_callOf 1 (some .int)) { frames := 1, cells := 0, slots := 0, locals := 25 } (kPre dC dI cI cJ cQ sz [.int b1] []) (va_Qi (fun (r : Int32) (u : Unit) => True) (fun (u : Unit) t₀ => kB dC dI cI cJ cQ (va_A [] sz) [] t₀) (va_A [] sz)) 0 0 (va_A [] sz) := by
  refine Met.ofW (cc := cX12_callOf) (maxL := 1) (ret := (some .int)) (by decide) rfl ?_
  intro p₀ e₀ s₀ m₀ args below meth c₀ s₁ B hml hv₀
  obtain ⟨rfl, hsz, hP, hK, hD0, hN⟩ := hv₀
  have hx₀ := B.exec
  have hb := B.bytes
  have hr := B.returns
  have hts := atoms_spec (ws := (kW yX12_callOf cX12_callOf 1 (some .int))) B.pre
  have hts := fun w h => hts w (List.mem_cons_of_mem _ h)
  have hown : s₀.vm.findClass RX12 = some m₀.cls := findClass_of_methodNamed B.named
  have hlocks := B.notSynchronized
  subst hsz
  have hD := hD0.self (sz := s₀.heap.size)
  generalize hAe : va_A [] s₀.heap.size = A at hD ⊢
  have hA : ∀ q : Nat, s₀.heap.size ≤ q → A q := fun q h => by rw [← hAe]; exact Or.inr h
  have hS : va_S A s₀.heap s₀.heap [] := va_S.rf
  have hP : va_P (dC, dI) vwCl [] s₀.heap := hP
  have hl := lv_entry ([.int b1]) (n := 1) (Nat.le_of_ble_eq_true rfl)
  rw [lg_entry_eq]
  generalize (lg_sl ([.int b1]) ++ List.replicate (1 - (lg_sl ([.int b1])).length) Slot.unset).toArray = ls at hl ⊢
  have hl : lv_has ls 1 [(0, .int b1)] := hl
  obtain ⟨H, hH⟩ : ∃ z : Heap, z = s₀.heap := ⟨_, rfl⟩
  rw [← hH] at hP
  have hS : va_S A s₀.heap H [] := by rw [hH]; exact hS
  refine k_heap hH ?_
  have hD : va_D A [] := hD
  obtain ⟨locs, hlo⟩ : ∃ z : List Loc, z = [] := ⟨_, rfl⟩
  rw [← hlo] at hS ⊢
  clear hlo hH hAe hD0
  refine lv_iload_n hx₀ hb dX12_callOf_0 rfl (lv_at hl 0 rfl) ?_
  refine lv_i2l hx₀ hb dX12_callOf_1 rfl ?_
  refine lv_ldc2 (v := 97) hx₀ hb hown (hts (.constantLong RX12 98 (97)) wd_259) dX12_callOf_2 ?_
  refine lv_ldc2 (v := 102) hx₀ hb hown (hts (.constantLong RX12 100 (102)) wd_260) dX12_callOf_5 ?_
  have hPc := hP.sub (ws' := []) [] rfl
  have hDc := hD.sub (ws' := []) [] (by decide) rfl
  have hFc := va_free (wc := []) hD hS hA [] rfl
  refine va_calli (va_runS (As := [.long b1.toInt64, .long 97, .long 102]) (rest := []) ⟨hx₀, hb, hml, hown, hts⟩ (c_in l dC dI cI cJ cQ H.size b1.toInt64 97 102) (va_cwS 3 hts (kGS wd_208 wd_206 wd_207 wd_5) rfl rfl rfl (by decide +kernel) ⟨Nat.le_of_ble_eq_true rfl, Nat.le_of_ble_eq_true rfl⟩) (k_preS hK hPc hDc hN) rfl rfl hl.1 rfl (lv_room (Nat.le_of_ble_eq_true rfl)) dX12_callOf_8 ⟨by decide +kernel, by decide +kernel⟩) hS (fun q _ h => hFc q h) hFc (fun r_1 u₀ t₀ H1 locs ht hvm hw hB hz1 hk1 hS => ?_)
  obtain ⟨hP1, hK1, hD1⟩ := hB
  rw [ht] at hP1
  obtain ⟨hP, hD⟩ := va_join (wr := []) (w1 := []) hP hD [] [] rfl rfl (by decide) (by decide) hk1 hFc hP1 hD1
  generalize H1 = H at hP hS ⊢
  have hP : va_P (dC, dI) vwCl [] H := hP
  have hD : va_D A [] := hD
  try dsimp only at hw
  by_cases c_2 : (97 : Int64) ≤ b1.toInt64 ∧ b1.toInt64 ≤ (102 : Int64)
  · rw [if_pos c_2] at hw
    refine k_topi (v := 1) hw ?_
    refine lv_if_eq (tgt := 21) hx₀ hb dX12_callOf_11 (by decide) (fun c9 => absurd c9 (by decide +kernel)) (fun _ => ?_)
    refine lv_iload_n hx₀ hb dX12_callOf_14 rfl (lv_at hl 0 rfl) ?_
    refine lv_bipush (v := 97) hx₀ hb dX12_callOf_15 (by decide +kernel) ?_
    refine lv_isub hx₀ hb dX12_callOf_17 ?_
    refine lv_goto (tgt := 23) hx₀ hb dX12_callOf_18 (by decide) ?_
    have hP9 := hP.sub (ws' := []) [] rfl
    have hD9 := hD.sub (ws' := []) [] (by decide) rfl
    exact W.iret (v := b1 - 97) hx₀ hb hr (fun t₀ ht hW => ⟨⟨b1 - 97, (), rfl, trivial, by rw [ht]; exact hP9, va_K.moved hW.alike hK, hD9⟩, hS.F ht⟩) hS.2.2 dX12_callOf_23
  rw [if_neg c_2] at hw
  refine k_topi (v := 0) hw ?_
  refine lv_if_eq (tgt := 21) hx₀ hb dX12_callOf_11 (by decide) (fun _ => ?_) (fun c9 => absurd (by decide +kernel) c9)
  refine lv_bipush (v := (-9)) hx₀ hb dX12_callOf_21 (by decide +kernel) ?_
  have hP9 := hP.sub (ws' := []) [] rfl
  have hD9 := hD.sub (ws' := []) [] (by decide) rfl
  exact W.iret (v := (-9)) hx₀ hb hr (fun t₀ ht hW => ⟨⟨(-9), (), rfl, trivial, by rw [ht]; exact hP9, va_K.moved hW.alike hK, hD9⟩, hS.F ht⟩) hS.2.2 dX12_callOf_23
set_option maxHeartbeats 4000000 in
set_option maxRecDepth 100000 in
theorem g_figureOf (l : Launch) (dC : Nat → ClassId) (dI : Nat → Nat → Nat) (cI cJ cQ : ClassId) (sz : Nat) (b1 : Int32) (ls1 : Int32) : Met l yX12_figureOf (kW yX12_figureOf cX12_figureOf 2 (some .int)) { frames := 1, cells := 0, slots := 0, locals := 25 } (kPre dC dI cI cJ cQ sz [.int b1, .int ls1] []) (va_Qi (fun (r : Int32) (u : Unit) => True) (fun (u : Unit) t₀ => kB dC dI cI cJ cQ (va_A [] sz) [] t₀) (va_A [] sz)) 0 0 (va_A [] sz) := by
  refine Met.ofW (cc := cX12_figureOf) (maxL := 2) (ret := (some .int)) (by decide) rfl ?_
  intro p₀ e₀ s₀ m₀ args below meth c₀ s₁ B hml hv₀
  obtain ⟨rfl, hsz, hP, hK, hD0, hN⟩ := hv₀
  have hx₀ := B.exec
  have hb := B.bytes
  have hr := B.returns
  have hts := atoms_spec (ws := (kW yX12_figureOf cX12_figureOf 2 (some .int))) B.pre
  have hts := fun w h => hts w (List.mem_cons_of_mem _ h)
  have hown : s₀.vm.findClass RX12 = some m₀.cls := findClass_of_methodNamed B.named
  have hlocks := B.notSynchronized
  subst hsz
  have hD := hD0.self (sz := s₀.heap.size)
  generalize hAe : va_A [] s₀.heap.size = A at hD ⊢
  have hA : ∀ q : Nat, s₀.heap.size ≤ q → A q := fun q h => by rw [← hAe]; exact Or.inr h
  have hS : va_S A s₀.heap s₀.heap [] := va_S.rf
  have hP : va_P (dC, dI) vwCl [] s₀.heap := hP
  have hl := lv_entry ([.int b1, .int ls1]) (n := 2) (Nat.le_of_ble_eq_true rfl)
  rw [lg_entry_eq]
  generalize (lg_sl ([.int b1, .int ls1]) ++ List.replicate (2 - (lg_sl ([.int b1, .int ls1])).length) Slot.unset).toArray = ls at hl ⊢
  have hl : lv_has ls 2 [(0, .int b1), (1, .int ls1)] := hl
  obtain ⟨H, hH⟩ : ∃ z : Heap, z = s₀.heap := ⟨_, rfl⟩
  rw [← hH] at hP
  have hS : va_S A s₀.heap H [] := by rw [hH]; exact hS
  refine k_heap hH ?_
  have hD : va_D A [] := hD
  obtain ⟨locs, hlo⟩ : ∃ z : List Loc, z = [] := ⟨_, rfl⟩
  rw [← hlo] at hS ⊢
  clear hlo hH hAe hD0
  refine lv_iload_n hx₀ hb dX12_figureOf_0 rfl (lv_at hl 0 rfl) ?_
  refine lv_i2l hx₀ hb dX12_figureOf_1 rfl ?_
  refine lv_bipush (v := 48) hx₀ hb dX12_figureOf_2 (by decide +kernel) ?_
  refine lv_iload_n hx₀ hb dX12_figureOf_4 rfl (lv_at hl 1 rfl) ?_
  refine lv_iadd hx₀ hb dX12_figureOf_5 ?_
  refine lv_i2l hx₀ hb dX12_figureOf_6 rfl ?_
  refine lv_ldc2 (v := 57) hx₀ hb hown (hts (.constantLong RX12 102 (57)) wd_272) dX12_figureOf_7 ?_
  have hPc := hP.sub (ws' := []) [] rfl
  have hDc := hD.sub (ws' := []) [] (by decide) rfl
  have hFc := va_free (wc := []) hD hS hA [] rfl
  refine va_calli (va_runS (As := [.long b1.toInt64, .long ((48 + ls1).toInt64), .long 57]) (rest := []) ⟨hx₀, hb, hml, hown, hts⟩ (c_in l dC dI cI cJ cQ H.size b1.toInt64 ((48 + ls1).toInt64) 57) (va_cwS 3 hts (kGS wd_208 wd_206 wd_207 wd_5) rfl rfl rfl (by decide +kernel) ⟨Nat.le_of_ble_eq_true rfl, Nat.le_of_ble_eq_true rfl⟩) (k_preS hK hPc hDc hN) rfl rfl hl.1 rfl (lv_room (Nat.le_of_ble_eq_true rfl)) dX12_figureOf_10 ⟨by decide +kernel, by decide +kernel⟩) hS (fun q _ h => hFc q h) hFc (fun r_1 u₀ t₀ H1 locs ht hvm hw hB hz1 hk1 hS => ?_)
  obtain ⟨hP1, hK1, hD1⟩ := hB
  rw [ht] at hP1
  obtain ⟨hP, hD⟩ := va_join (wr := []) (w1 := []) hP hD [] [] rfl rfl (by decide) (by decide) hk1 hFc hP1 hD1
  generalize H1 = H at hP hS ⊢
  have hP : va_P (dC, dI) vwCl [] H := hP
  have hD : va_D A [] := hD
  try dsimp only at hw
  by_cases c_2 : ((48 + ls1).toInt64) ≤ b1.toInt64 ∧ b1.toInt64 ≤ (57 : Int64)
  · rw [if_pos c_2] at hw
    refine k_topi (v := 1) hw ?_
    refine lv_if_eq (tgt := 23) hx₀ hb dX12_figureOf_13 (by decide) (fun c9 => absurd c9 (by decide +kernel)) (fun _ => ?_)
    refine lv_iload_n hx₀ hb dX12_figureOf_16 rfl (lv_at hl 0 rfl) ?_
    refine lv_bipush (v := 48) hx₀ hb dX12_figureOf_17 (by decide +kernel) ?_
    refine lv_isub hx₀ hb dX12_figureOf_19 ?_
    refine lv_goto (tgt := 25) hx₀ hb dX12_figureOf_20 (by decide) ?_
    have hP9 := hP.sub (ws' := []) [] rfl
    have hD9 := hD.sub (ws' := []) [] (by decide) rfl
    exact W.iret (v := b1 - 48) hx₀ hb hr (fun t₀ ht hW => ⟨⟨b1 - 48, (), rfl, trivial, by rw [ht]; exact hP9, va_K.moved hW.alike hK, hD9⟩, hS.F ht⟩) hS.2.2 dX12_figureOf_25
  rw [if_neg c_2] at hw
  refine k_topi (v := 0) hw ?_
  refine lv_if_eq (tgt := 23) hx₀ hb dX12_figureOf_13 (by decide) (fun _ => ?_) (fun c9 => absurd (by decide +kernel) c9)
  refine lv_bipush (v := (-9)) hx₀ hb dX12_figureOf_23 (by decide +kernel) ?_
  have hP9 := hP.sub (ws' := []) [] rfl
  have hD9 := hD.sub (ws' := []) [] (by decide) rfl
  exact W.iret (v := (-9)) hx₀ hb hr (fun t₀ ht hW => ⟨⟨(-9), (), rfl, trivial, by rw [ht]; exact hP9, va_K.moved hW.alike hK, hD9⟩, hS.F ht⟩) hS.2.2 dX12_figureOf_25
set_option maxHeartbeats 4000000 in
set_option maxRecDepth 100000 in
theorem g_mileOf (l : Launch) (dC : Nat → ClassId) (dI : Nat → Nat → Nat) (cI cJ cQ : ClassId) (sz : Nat) (b1 : Int32) : Met l yX12_mileOf (kW yX12_mileOf cX12_mileOf 1 (some .int)) { frames := 2, cells := 0, slots := 0, locals := 45 } (kPre dC dI cI cJ cQ sz [.int b1] []) (va_Qi (fun (r : Int32) (u : Unit) => True) (fun (u : Unit) t₀ => kB dC dI cI cJ cQ (va_A [] sz) [] t₀) (va_A [] sz)) 0 0 (va_A [] sz) := by
  refine Met.ofW (cc := cX12_mileOf) (maxL := 1) (ret := (some .int)) (by decide) rfl ?_
  intro p₀ e₀ s₀ m₀ args below meth c₀ s₁ B hml hv₀
  obtain ⟨rfl, hsz, hP, hK, hD0, hN⟩ := hv₀
  have hx₀ := B.exec
  have hb := B.bytes
  have hr := B.returns
  have hts := atoms_spec (ws := (kW yX12_mileOf cX12_mileOf 1 (some .int))) B.pre
  have hts := fun w h => hts w (List.mem_cons_of_mem _ h)
  have hown : s₀.vm.findClass RX12 = some m₀.cls := findClass_of_methodNamed B.named
  have hlocks := B.notSynchronized
  subst hsz
  have hD := hD0.self (sz := s₀.heap.size)
  generalize hAe : va_A [] s₀.heap.size = A at hD ⊢
  have hA : ∀ q : Nat, s₀.heap.size ≤ q → A q := fun q h => by rw [← hAe]; exact Or.inr h
  have hS : va_S A s₀.heap s₀.heap [] := va_S.rf
  have hP : va_P (dC, dI) vwCl [] s₀.heap := hP
  have hl := lv_entry ([.int b1]) (n := 1) (Nat.le_of_ble_eq_true rfl)
  rw [lg_entry_eq]
  generalize (lg_sl ([.int b1]) ++ List.replicate (1 - (lg_sl ([.int b1])).length) Slot.unset).toArray = ls at hl ⊢
  have hl : lv_has ls 1 [(0, .int b1)] := hl
  obtain ⟨H, hH⟩ : ∃ z : Heap, z = s₀.heap := ⟨_, rfl⟩
  rw [← hH] at hP
  have hS : va_S A s₀.heap H [] := by rw [hH]; exact hS
  refine k_heap hH ?_
  have hD : va_D A [] := hD
  obtain ⟨locs, hlo⟩ : ∃ z : List Loc, z = [] := ⟨_, rfl⟩
  rw [← hlo] at hS ⊢
  clear hlo hH hAe hD0
  refine lv_iload_n hx₀ hb dX12_mileOf_0 rfl (lv_at hl 0 rfl) ?_
  refine lv_bipush (v := 111) hx₀ hb dX12_mileOf_1 (by decide +kernel) ?_
  refine lv_icmp_ne (tgt := 11) hx₀ hb dX12_mileOf_3 (by decide) (fun c_1 => ?_) (fun c_1 => ?_)
  · refine lv_iload_n hx₀ hb dX12_mileOf_11 rfl (lv_at hl 0 rfl) ?_
    refine lv_bipush (v := 105) hx₀ hb dX12_mileOf_12 (by decide +kernel) ?_
    refine lv_icmp_ne (tgt := 22) hx₀ hb dX12_mileOf_14 (by decide) (fun c_2 => ?_) (fun c_2 => ?_)
    · refine lv_iload_n hx₀ hb dX12_mileOf_22 rfl (lv_at hl 0 rfl) ?_
      refine lv_bipush (v := 119) hx₀ hb dX12_mileOf_23 (by decide +kernel) ?_
      refine lv_icmp_ne (tgt := 33) hx₀ hb dX12_mileOf_25 (by decide) (fun c_3 => ?_) (fun c_3 => ?_)
      · refine lv_iload_n hx₀ hb dX12_mileOf_33 rfl (lv_at hl 0 rfl) ?_
        have hPc := hP.sub (ws' := []) [] rfl
        have hDc := hD.sub (ws' := []) [] (by decide) rfl
        have hFc := va_free (wc := []) hD hS hA [] rfl
        refine va_calli (va_runS (As := [.int b1]) (rest := []) ⟨hx₀, hb, hml, hown, hts⟩ (g_callOf l dC dI cI cJ cQ H.size b1) (va_cwS 1 hts (kGS wd_258 wd_256 wd_257 wd_5) rfl rfl rfl (by decide +kernel) ⟨Nat.le_of_ble_eq_true rfl, Nat.le_of_ble_eq_true rfl⟩) (k_preS hK hPc hDc hN) rfl rfl hl.1 rfl (lv_room (Nat.le_of_ble_eq_true rfl)) dX12_mileOf_34 ⟨by decide +kernel, by decide +kernel⟩) hS (fun q _ h => hFc q h) hFc (fun r_4 u₀ t₀ H1 locs ht hvm hw hB hz1 hk1 hS => ?_)
        obtain ⟨hP1, hK1, hD1⟩ := hB
        rw [ht] at hP1
        obtain ⟨hP, hD⟩ := va_join (wr := []) (w1 := []) hP hD [] [] rfl rfl (by decide) (by decide) hk1 hFc hP1 hD1
        generalize H1 = H at hP hS ⊢
        have hP : va_P (dC, dI) vwCl [] H := hP
        have hD : va_D A [] := hD
        try dsimp only at hw
        have hP9 := hP.sub (ws' := []) [] rfl
        have hD9 := hD.sub (ws' := []) [] (by decide) rfl
        exact W.iret (v := r_4) hx₀ hb hr (fun t₀ ht hW => ⟨⟨r_4, (), rfl, trivial, by rw [ht]; exact hP9, va_K.moved hW.alike hK, hD9⟩, hS.F ht⟩) hS.2.2 dX12_mileOf_37
      · refine lv_bipush (v := 8) hx₀ hb dX12_mileOf_28 (by decide +kernel) ?_
        refine lv_goto (tgt := 37) hx₀ hb dX12_mileOf_30 (by decide) ?_
        have hP9 := hP.sub (ws' := []) [] rfl
        have hD9 := hD.sub (ws' := []) [] (by decide) rfl
        exact W.iret (v := 8) hx₀ hb hr (fun t₀ ht hW => ⟨⟨8, (), rfl, trivial, by rw [ht]; exact hP9, va_K.moved hW.alike hK, hD9⟩, hS.F ht⟩) hS.2.2 dX12_mileOf_37
    · refine lv_bipush (v := 7) hx₀ hb dX12_mileOf_17 (by decide +kernel) ?_
      refine lv_goto (tgt := 37) hx₀ hb dX12_mileOf_19 (by decide) ?_
      have hP9 := hP.sub (ws' := []) [] rfl
      have hD9 := hD.sub (ws' := []) [] (by decide) rfl
      exact W.iret (v := 7) hx₀ hb hr (fun t₀ ht hW => ⟨⟨7, (), rfl, trivial, by rw [ht]; exact hP9, va_K.moved hW.alike hK, hD9⟩, hS.F ht⟩) hS.2.2 dX12_mileOf_37
  · refine lv_bipush (v := 6) hx₀ hb dX12_mileOf_6 (by decide +kernel) ?_
    refine lv_goto (tgt := 37) hx₀ hb dX12_mileOf_8 (by decide) ?_
    have hP9 := hP.sub (ws' := []) [] rfl
    have hD9 := hD.sub (ws' := []) [] (by decide) rfl
    exact W.iret (v := 6) hx₀ hb hr (fun t₀ ht hW => ⟨⟨6, (), rfl, trivial, by rw [ht]; exact hP9, va_K.moved hW.alike hK, hD9⟩, hS.F ht⟩) hS.2.2 dX12_mileOf_37
set_option maxHeartbeats 4000000 in
set_option maxRecDepth 100000 in
theorem g_passengerOf (l : Launch) (dC : Nat → ClassId) (dI : Nat → Nat → Nat) (cI cJ cQ : ClassId) (sz : Nat) (k1 : Int32) (b1 : Int32) : Met l yX12_passengerOf (kW yX12_passengerOf cX12_passengerOf 2 (some .int)) { frames := 2, cells := 0, slots := 0, locals := 46 } (kPre dC dI cI cJ cQ sz [.int k1, .int b1] []) (va_Qi (fun (r : Int32) (u : Unit) => True) (fun (u : Unit) t₀ => kB dC dI cI cJ cQ (va_A [] sz) [] t₀) (va_A [] sz)) 0 0 (va_A [] sz) := by
  refine Met.ofW (cc := cX12_passengerOf) (maxL := 2) (ret := (some .int)) (by decide) rfl ?_
  intro p₀ e₀ s₀ m₀ args below meth c₀ s₁ B hml hv₀
  obtain ⟨rfl, hsz, hP, hK, hD0, hN⟩ := hv₀
  have hx₀ := B.exec
  have hb := B.bytes
  have hr := B.returns
  have hts := atoms_spec (ws := (kW yX12_passengerOf cX12_passengerOf 2 (some .int))) B.pre
  have hts := fun w h => hts w (List.mem_cons_of_mem _ h)
  have hown : s₀.vm.findClass RX12 = some m₀.cls := findClass_of_methodNamed B.named
  have hlocks := B.notSynchronized
  subst hsz
  have hD := hD0.self (sz := s₀.heap.size)
  generalize hAe : va_A [] s₀.heap.size = A at hD ⊢
  have hA : ∀ q : Nat, s₀.heap.size ≤ q → A q := fun q h => by rw [← hAe]; exact Or.inr h
  have hS : va_S A s₀.heap s₀.heap [] := va_S.rf
  have hP : va_P (dC, dI) vwCl [] s₀.heap := hP
  have hl := lv_entry ([.int k1, .int b1]) (n := 2) (Nat.le_of_ble_eq_true rfl)
  rw [lg_entry_eq]
  generalize (lg_sl ([.int k1, .int b1]) ++ List.replicate (2 - (lg_sl ([.int k1, .int b1])).length) Slot.unset).toArray = ls at hl ⊢
  have hl : lv_has ls 2 [(0, .int k1), (1, .int b1)] := hl
  obtain ⟨H, hH⟩ : ∃ z : Heap, z = s₀.heap := ⟨_, rfl⟩
  rw [← hH] at hP
  have hS : va_S A s₀.heap H [] := by rw [hH]; exact hS
  refine k_heap hH ?_
  have hD : va_D A [] := hD
  obtain ⟨locs, hlo⟩ : ∃ z : List Loc, z = [] := ⟨_, rfl⟩
  rw [← hlo] at hS ⊢
  clear hlo hH hAe hD0
  refine lv_iload_n hx₀ hb dX12_passengerOf_0 rfl (lv_at hl 0 rfl) ?_
  by_cases c_1 : k1 = 0
  · subst c_1
    refine lv_tableIn (off := 35) (tgt := 36) hx₀ hb dX12_passengerOf_1 (by decide +kernel) (by decide +kernel) (by decide +kernel) (by decide) ?_
    refine lv_iload_n hx₀ hb dX12_passengerOf_36 rfl (lv_at hl 1 rfl) ?_
    refine lv_bipush (v := 116) hx₀ hb dX12_passengerOf_37 (by decide +kernel) ?_
    refine lv_icmp_ne (tgt := 46) hx₀ hb dX12_passengerOf_39 (by decide) (fun c_2 => ?_) (fun c_2 => ?_)
    · refine lv_iload_n hx₀ hb dX12_passengerOf_46 rfl (lv_at hl 1 rfl) ?_
      refine lv_bipush (v := 100) hx₀ hb dX12_passengerOf_47 (by decide +kernel) ?_
      refine lv_icmp_ne (tgt := 56) hx₀ hb dX12_passengerOf_49 (by decide) (fun c_3 => ?_) (fun c_3 => ?_)
      · refine lv_iload_n hx₀ hb dX12_passengerOf_56 rfl (lv_at hl 1 rfl) ?_
        refine lv_bipush (v := 112) hx₀ hb dX12_passengerOf_57 (by decide +kernel) ?_
        refine lv_icmp_ne (tgt := 66) hx₀ hb dX12_passengerOf_59 (by decide) (fun c_4 => ?_) (fun c_4 => ?_)
        · refine lv_iload_n hx₀ hb dX12_passengerOf_66 rfl (lv_at hl 1 rfl) ?_
          refine lv_bipush (v := 115) hx₀ hb dX12_passengerOf_67 (by decide +kernel) ?_
          refine lv_icmp_ne (tgt := 76) hx₀ hb dX12_passengerOf_69 (by decide) (fun c_5 => ?_) (fun c_5 => ?_)
          · refine lv_bipush (v := (-9)) hx₀ hb dX12_passengerOf_76 (by decide +kernel) ?_
            have hP9 := hP.sub (ws' := []) [] rfl
            have hD9 := hD.sub (ws' := []) [] (by decide) rfl
            exact W.iret (v := (-9)) hx₀ hb hr (fun t₀ ht hW => ⟨⟨(-9), (), rfl, trivial, by rw [ht]; exact hP9, va_K.moved hW.alike hK, hD9⟩, hS.F ht⟩) hS.2.2 dX12_passengerOf_78
          · refine lv_iconst (v := 3) hx₀ hb dX12_passengerOf_72 (by decide +kernel) ?_
            refine lv_goto (tgt := 78) hx₀ hb dX12_passengerOf_73 (by decide) ?_
            have hP9 := hP.sub (ws' := []) [] rfl
            have hD9 := hD.sub (ws' := []) [] (by decide) rfl
            exact W.iret (v := 3) hx₀ hb hr (fun t₀ ht hW => ⟨⟨3, (), rfl, trivial, by rw [ht]; exact hP9, va_K.moved hW.alike hK, hD9⟩, hS.F ht⟩) hS.2.2 dX12_passengerOf_78
        · refine lv_iconst (v := 2) hx₀ hb dX12_passengerOf_62 (by decide +kernel) ?_
          refine lv_goto (tgt := 78) hx₀ hb dX12_passengerOf_63 (by decide) ?_
          have hP9 := hP.sub (ws' := []) [] rfl
          have hD9 := hD.sub (ws' := []) [] (by decide) rfl
          exact W.iret (v := 2) hx₀ hb hr (fun t₀ ht hW => ⟨⟨2, (), rfl, trivial, by rw [ht]; exact hP9, va_K.moved hW.alike hK, hD9⟩, hS.F ht⟩) hS.2.2 dX12_passengerOf_78
      · refine lv_iconst (v := 1) hx₀ hb dX12_passengerOf_52 (by decide +kernel) ?_
        refine lv_goto (tgt := 78) hx₀ hb dX12_passengerOf_53 (by decide) ?_
        have hP9 := hP.sub (ws' := []) [] rfl
        have hD9 := hD.sub (ws' := []) [] (by decide) rfl
        exact W.iret (v := 1) hx₀ hb hr (fun t₀ ht hW => ⟨⟨1, (), rfl, trivial, by rw [ht]; exact hP9, va_K.moved hW.alike hK, hD9⟩, hS.F ht⟩) hS.2.2 dX12_passengerOf_78
    · refine lv_iconst (v := 0) hx₀ hb dX12_passengerOf_42 (by decide +kernel) ?_
      refine lv_goto (tgt := 78) hx₀ hb dX12_passengerOf_43 (by decide) ?_
      have hP9 := hP.sub (ws' := []) [] rfl
      have hD9 := hD.sub (ws' := []) [] (by decide) rfl
      exact W.iret (v := 0) hx₀ hb hr (fun t₀ ht hW => ⟨⟨0, (), rfl, trivial, by rw [ht]; exact hP9, va_K.moved hW.alike hK, hD9⟩, hS.F ht⟩) hS.2.2 dX12_passengerOf_78
  by_cases c_6 : k1 = 1
  · subst c_6
    refine lv_tableIn (off := 78) (tgt := 79) hx₀ hb dX12_passengerOf_1 (by decide +kernel) (by decide +kernel) (by decide +kernel) (by decide) ?_
    refine lv_iload_n hx₀ hb dX12_passengerOf_79 rfl (lv_at hl 1 rfl) ?_
    have hPc := hP.sub (ws' := []) [] rfl
    have hDc := hD.sub (ws' := []) [] (by decide) rfl
    have hFc := va_free (wc := []) hD hS hA [] rfl
    refine va_calli (va_runS (As := [.int b1]) (rest := []) ⟨hx₀, hb, hml, hown, hts⟩ (g_callOf l dC dI cI cJ cQ H.size b1) (va_cwS 1 hts (kGS wd_258 wd_256 wd_257 wd_5) rfl rfl rfl (by decide +kernel) ⟨Nat.le_of_ble_eq_true rfl, Nat.le_of_ble_eq_true rfl⟩) (k_preS hK hPc hDc hN) rfl rfl hl.1 rfl (lv_room (Nat.le_of_ble_eq_true rfl)) dX12_passengerOf_80 ⟨by decide +kernel, by decide +kernel⟩) hS (fun q _ h => hFc q h) hFc (fun r_7 u₀ t₀ H1 locs ht hvm hw hB hz1 hk1 hS => ?_)
    obtain ⟨hP1, hK1, hD1⟩ := hB
    rw [ht] at hP1
    obtain ⟨hP, hD⟩ := va_join (wr := []) (w1 := []) hP hD [] [] rfl rfl (by decide) (by decide) hk1 hFc hP1 hD1
    generalize H1 = H at hP hS ⊢
    have hP : va_P (dC, dI) vwCl [] H := hP
    have hD : va_D A [] := hD
    try dsimp only at hw
    have hP9 := hP.sub (ws' := []) [] rfl
    have hD9 := hD.sub (ws' := []) [] (by decide) rfl
    exact W.iret (v := r_7) hx₀ hb hr (fun t₀ ht hW => ⟨⟨r_7, (), rfl, trivial, by rw [ht]; exact hP9, va_K.moved hW.alike hK, hD9⟩, hS.F ht⟩) hS.2.2 dX12_passengerOf_83
  by_cases c_8 : k1 = 2
  · subst c_8
    refine lv_tableIn (off := 96) (tgt := 97) hx₀ hb dX12_passengerOf_1 (by decide +kernel) (by decide +kernel) (by decide +kernel) (by decide) ?_
    refine lv_iload_n hx₀ hb dX12_passengerOf_97 rfl (lv_at hl 1 rfl) ?_
    refine lv_iconst (v := 1) hx₀ hb dX12_passengerOf_98 (by decide +kernel) ?_
    have hPc := hP.sub (ws' := []) [] rfl
    have hDc := hD.sub (ws' := []) [] (by decide) rfl
    have hFc := va_free (wc := []) hD hS hA [] rfl
    refine va_calli (va_runS (As := [.int b1, .int 1]) (rest := []) ⟨hx₀, hb, hml, hown, hts⟩ (g_figureOf l dC dI cI cJ cQ H.size b1 1) (va_cwS 2 hts (kGS wd_271 wd_269 wd_270 wd_5) rfl rfl rfl (by decide +kernel) ⟨Nat.le_of_ble_eq_true rfl, Nat.le_of_ble_eq_true rfl⟩) (k_preS hK hPc hDc hN) rfl rfl hl.1 rfl (lv_room (Nat.le_of_ble_eq_true rfl)) dX12_passengerOf_99 ⟨by decide +kernel, by decide +kernel⟩) hS (fun q _ h => hFc q h) hFc (fun r_9 u₀ t₀ H1 locs ht hvm hw hB hz1 hk1 hS => ?_)
    obtain ⟨hP1, hK1, hD1⟩ := hB
    rw [ht] at hP1
    obtain ⟨hP, hD⟩ := va_join (wr := []) (w1 := []) hP hD [] [] rfl rfl (by decide) (by decide) hk1 hFc hP1 hD1
    generalize H1 = H at hP hS ⊢
    have hP : va_P (dC, dI) vwCl [] H := hP
    have hD : va_D A [] := hD
    try dsimp only at hw
    have hP9 := hP.sub (ws' := []) [] rfl
    have hD9 := hD.sub (ws' := []) [] (by decide) rfl
    exact W.iret (v := r_9) hx₀ hb hr (fun t₀ ht hW => ⟨⟨r_9, (), rfl, trivial, by rw [ht]; exact hP9, va_K.moved hW.alike hK, hD9⟩, hS.F ht⟩) hS.2.2 dX12_passengerOf_102
  by_cases c_10 : k1 = 3
  · subst c_10
    refine lv_tableIn (off := 96) (tgt := 97) hx₀ hb dX12_passengerOf_1 (by decide +kernel) (by decide +kernel) (by decide +kernel) (by decide) ?_
    refine lv_iload_n hx₀ hb dX12_passengerOf_97 rfl (lv_at hl 1 rfl) ?_
    refine lv_iconst (v := 1) hx₀ hb dX12_passengerOf_98 (by decide +kernel) ?_
    have hPc := hP.sub (ws' := []) [] rfl
    have hDc := hD.sub (ws' := []) [] (by decide) rfl
    have hFc := va_free (wc := []) hD hS hA [] rfl
    refine va_calli (va_runS (As := [.int b1, .int 1]) (rest := []) ⟨hx₀, hb, hml, hown, hts⟩ (g_figureOf l dC dI cI cJ cQ H.size b1 1) (va_cwS 2 hts (kGS wd_271 wd_269 wd_270 wd_5) rfl rfl rfl (by decide +kernel) ⟨Nat.le_of_ble_eq_true rfl, Nat.le_of_ble_eq_true rfl⟩) (k_preS hK hPc hDc hN) rfl rfl hl.1 rfl (lv_room (Nat.le_of_ble_eq_true rfl)) dX12_passengerOf_99 ⟨by decide +kernel, by decide +kernel⟩) hS (fun q _ h => hFc q h) hFc (fun r_11 u₀ t₀ H1 locs ht hvm hw hB hz1 hk1 hS => ?_)
    obtain ⟨hP1, hK1, hD1⟩ := hB
    rw [ht] at hP1
    obtain ⟨hP, hD⟩ := va_join (wr := []) (w1 := []) hP hD [] [] rfl rfl (by decide) (by decide) hk1 hFc hP1 hD1
    generalize H1 = H at hP hS ⊢
    have hP : va_P (dC, dI) vwCl [] H := hP
    have hD : va_D A [] := hD
    try dsimp only at hw
    have hP9 := hP.sub (ws' := []) [] rfl
    have hD9 := hD.sub (ws' := []) [] (by decide) rfl
    exact W.iret (v := r_11) hx₀ hb hr (fun t₀ ht hW => ⟨⟨r_11, (), rfl, trivial, by rw [ht]; exact hP9, va_K.moved hW.alike hK, hD9⟩, hS.F ht⟩) hS.2.2 dX12_passengerOf_102
  by_cases c_12 : k1 = 4
  · subst c_12
    refine lv_tableIn (off := 83) (tgt := 84) hx₀ hb dX12_passengerOf_1 (by decide +kernel) (by decide +kernel) (by decide +kernel) (by decide) ?_
    refine lv_iload_n hx₀ hb dX12_passengerOf_84 rfl (lv_at hl 1 rfl) ?_
    refine lv_bipush (v := 59) hx₀ hb dX12_passengerOf_85 (by decide +kernel) ?_
    refine lv_icmp_ne (tgt := 94) hx₀ hb dX12_passengerOf_87 (by decide) (fun c_13 => ?_) (fun c_13 => ?_)
    · refine lv_bipush (v := (-9)) hx₀ hb dX12_passengerOf_94 (by decide +kernel) ?_
      have hP9 := hP.sub (ws' := []) [] rfl
      have hD9 := hD.sub (ws' := []) [] (by decide) rfl
      exact W.iret (v := (-9)) hx₀ hb hr (fun t₀ ht hW => ⟨⟨(-9), (), rfl, trivial, by rw [ht]; exact hP9, va_K.moved hW.alike hK, hD9⟩, hS.F ht⟩) hS.2.2 dX12_passengerOf_96
    · refine lv_iconst (v := 0) hx₀ hb dX12_passengerOf_90 (by decide +kernel) ?_
      refine lv_goto (tgt := 96) hx₀ hb dX12_passengerOf_91 (by decide) ?_
      have hP9 := hP.sub (ws' := []) [] rfl
      have hD9 := hD.sub (ws' := []) [] (by decide) rfl
      exact W.iret (v := 0) hx₀ hb hr (fun t₀ ht hW => ⟨⟨0, (), rfl, trivial, by rw [ht]; exact hP9, va_K.moved hW.alike hK, hD9⟩, hS.F ht⟩) hS.2.2 dX12_passengerOf_96
  refine lv_tableOut (tgt := 97) hx₀ hb dX12_passengerOf_1 (k_out5 c_1 c_6 c_8 c_10 c_12) (by decide) ?_
  refine lv_iload_n hx₀ hb dX12_passengerOf_97 rfl (lv_at hl 1 rfl) ?_
  refine lv_iconst (v := 1) hx₀ hb dX12_passengerOf_98 (by decide +kernel) ?_
  have hPc := hP.sub (ws' := []) [] rfl
  have hDc := hD.sub (ws' := []) [] (by decide) rfl
  have hFc := va_free (wc := []) hD hS hA [] rfl
  refine va_calli (va_runS (As := [.int b1, .int 1]) (rest := []) ⟨hx₀, hb, hml, hown, hts⟩ (g_figureOf l dC dI cI cJ cQ H.size b1 1) (va_cwS 2 hts (kGS wd_271 wd_269 wd_270 wd_5) rfl rfl rfl (by decide +kernel) ⟨Nat.le_of_ble_eq_true rfl, Nat.le_of_ble_eq_true rfl⟩) (k_preS hK hPc hDc hN) rfl rfl hl.1 rfl (lv_room (Nat.le_of_ble_eq_true rfl)) dX12_passengerOf_99 ⟨by decide +kernel, by decide +kernel⟩) hS (fun q _ h => hFc q h) hFc (fun r_14 u₀ t₀ H1 locs ht hvm hw hB hz1 hk1 hS => ?_)
  obtain ⟨hP1, hK1, hD1⟩ := hB
  rw [ht] at hP1
  obtain ⟨hP, hD⟩ := va_join (wr := []) (w1 := []) hP hD [] [] rfl rfl (by decide) (by decide) hk1 hFc hP1 hD1
  generalize H1 = H at hP hS ⊢
  have hP : va_P (dC, dI) vwCl [] H := hP
  have hD : va_D A [] := hD
  try dsimp only at hw
  have hP9 := hP.sub (ws' := []) [] rfl
  have hD9 := hD.sub (ws' := []) [] (by decide) rfl
  exact W.iret (v := r_14) hx₀ hb hr (fun t₀ ht hW => ⟨⟨r_14, (), rfl, trivial, by rw [ht]; exact hP9, va_K.moved hW.alike hK, hD9⟩, hS.F ht⟩) hS.2.2 dX12_passengerOf_102
set_option maxHeartbeats 4000000 in
set_option maxRecDepth 100000 in
theorem g_gooseOf (l : Launch) (dC : Nat → ClassId) (dI : Nat → Nat → Nat) (cI cJ cQ : ClassId) (sz : Nat) (k1 : Int32) (b1 : Int32) : Met l yX12_gooseOf (kW yX12_gooseOf cX12_gooseOf 2 (some .int)) { frames := 2, cells := 0, slots := 0, locals := 46 } (kPre dC dI cI cJ cQ sz [.int k1, .int b1] []) (va_Qi (fun (r : Int32) (u : Unit) => True) (fun (u : Unit) t₀ => kB dC dI cI cJ cQ (va_A [] sz) [] t₀) (va_A [] sz)) 0 0 (va_A [] sz) := by
  refine Met.ofW (cc := cX12_gooseOf) (maxL := 2) (ret := (some .int)) (by decide) rfl ?_
  intro p₀ e₀ s₀ m₀ args below meth c₀ s₁ B hml hv₀
  obtain ⟨rfl, hsz, hP, hK, hD0, hN⟩ := hv₀
  have hx₀ := B.exec
  have hb := B.bytes
  have hr := B.returns
  have hts := atoms_spec (ws := (kW yX12_gooseOf cX12_gooseOf 2 (some .int))) B.pre
  have hts := fun w h => hts w (List.mem_cons_of_mem _ h)
  have hown : s₀.vm.findClass RX12 = some m₀.cls := findClass_of_methodNamed B.named
  have hlocks := B.notSynchronized
  subst hsz
  have hD := hD0.self (sz := s₀.heap.size)
  generalize hAe : va_A [] s₀.heap.size = A at hD ⊢
  have hA : ∀ q : Nat, s₀.heap.size ≤ q → A q := fun q h => by rw [← hAe]; exact Or.inr h
  have hS : va_S A s₀.heap s₀.heap [] := va_S.rf
  have hP : va_P (dC, dI) vwCl [] s₀.heap := hP
  have hl := lv_entry ([.int k1, .int b1]) (n := 2) (Nat.le_of_ble_eq_true rfl)
  rw [lg_entry_eq]
  generalize (lg_sl ([.int k1, .int b1]) ++ List.replicate (2 - (lg_sl ([.int k1, .int b1])).length) Slot.unset).toArray = ls at hl ⊢
  have hl : lv_has ls 2 [(0, .int k1), (1, .int b1)] := hl
  obtain ⟨H, hH⟩ : ∃ z : Heap, z = s₀.heap := ⟨_, rfl⟩
  rw [← hH] at hP
  have hS : va_S A s₀.heap H [] := by rw [hH]; exact hS
  refine k_heap hH ?_
  have hD : va_D A [] := hD
  obtain ⟨locs, hlo⟩ : ∃ z : List Loc, z = [] := ⟨_, rfl⟩
  rw [← hlo] at hS ⊢
  clear hlo hH hAe hD0
  refine lv_iload_n hx₀ hb dX12_gooseOf_0 rfl (lv_at hl 0 rfl) ?_
  refine lv_iconst (v := 2) hx₀ hb dX12_gooseOf_1 (by decide +kernel) ?_
  refine lv_icmp_ne (tgt := 20) hx₀ hb dX12_gooseOf_2 (by decide) (fun c_1 => ?_) (fun c_1 => ?_)
  · refine lv_iload_n hx₀ hb dX12_gooseOf_20 rfl (lv_at hl 1 rfl) ?_
    refine lv_iconst (v := 1) hx₀ hb dX12_gooseOf_21 (by decide +kernel) ?_
    refine lv_iload_n hx₀ hb dX12_gooseOf_22 rfl (lv_at hl 0 rfl) ?_
    refine lv_isub hx₀ hb dX12_gooseOf_23 ?_
    have hPc := hP.sub (ws' := []) [] rfl
    have hDc := hD.sub (ws' := []) [] (by decide) rfl
    have hFc := va_free (wc := []) hD hS hA [] rfl
    refine va_calli (va_runS (As := [.int b1, .int (1 - k1)]) (rest := []) ⟨hx₀, hb, hml, hown, hts⟩ (g_figureOf l dC dI cI cJ cQ H.size b1 (1 - k1)) (va_cwS 2 hts (kGS wd_271 wd_269 wd_270 wd_5) rfl rfl rfl (by decide +kernel) ⟨Nat.le_of_ble_eq_true rfl, Nat.le_of_ble_eq_true rfl⟩) (k_preS hK hPc hDc hN) rfl rfl hl.1 rfl (lv_room (Nat.le_of_ble_eq_true rfl)) dX12_gooseOf_24 ⟨by decide +kernel, by decide +kernel⟩) hS (fun q _ h => hFc q h) hFc (fun r_2 u₀ t₀ H1 locs ht hvm hw hB hz1 hk1 hS => ?_)
    obtain ⟨hP1, hK1, hD1⟩ := hB
    rw [ht] at hP1
    obtain ⟨hP, hD⟩ := va_join (wr := []) (w1 := []) hP hD [] [] rfl rfl (by decide) (by decide) hk1 hFc hP1 hD1
    generalize H1 = H at hP hS ⊢
    have hP : va_P (dC, dI) vwCl [] H := hP
    have hD : va_D A [] := hD
    try dsimp only at hw
    have hP9 := hP.sub (ws' := []) [] rfl
    have hD9 := hD.sub (ws' := []) [] (by decide) rfl
    exact W.iret (v := r_2) hx₀ hb hr (fun t₀ ht hW => ⟨⟨r_2, (), rfl, trivial, by rw [ht]; exact hP9, va_K.moved hW.alike hK, hD9⟩, hS.F ht⟩) hS.2.2 dX12_gooseOf_27
  · refine lv_iload_n hx₀ hb dX12_gooseOf_5 rfl (lv_at hl 1 rfl) ?_
    refine lv_bipush (v := 59) hx₀ hb dX12_gooseOf_6 (by decide +kernel) ?_
    refine lv_icmp_ne (tgt := 15) hx₀ hb dX12_gooseOf_8 (by decide) (fun c_3 => ?_) (fun c_3 => ?_)
    · refine lv_bipush (v := (-9)) hx₀ hb dX12_gooseOf_15 (by decide +kernel) ?_
      refine lv_goto (tgt := 27) hx₀ hb dX12_gooseOf_17 (by decide) ?_
      have hP9 := hP.sub (ws' := []) [] rfl
      have hD9 := hD.sub (ws' := []) [] (by decide) rfl
      exact W.iret (v := (-9)) hx₀ hb hr (fun t₀ ht hW => ⟨⟨(-9), (), rfl, trivial, by rw [ht]; exact hP9, va_K.moved hW.alike hK, hD9⟩, hS.F ht⟩) hS.2.2 dX12_gooseOf_27
    · refine lv_iconst (v := 0) hx₀ hb dX12_gooseOf_11 (by decide +kernel) ?_
      refine lv_goto (tgt := 27) hx₀ hb dX12_gooseOf_12 (by decide) ?_
      have hP9 := hP.sub (ws' := []) [] rfl
      have hD9 := hD.sub (ws' := []) [] (by decide) rfl
      exact W.iret (v := 0) hx₀ hb hr (fun t₀ ht hW => ⟨⟨0, (), rfl, trivial, by rw [ht]; exact hP9, va_K.moved hW.alike hK, hD9⟩, hS.F ht⟩) hS.2.2 dX12_gooseOf_27
set_option maxHeartbeats 4000000 in
set_option maxRecDepth 100000 in
theorem g_cut (l : Launch) (dC : Nat → ClassId) (dI : Nat → Nat → Nat) (cI cJ cQ : ClassId) (sz : Nat) (fo : Int32) (v1 : Int32) : Met l yX12_cut (kW yX12_cut cX12_cut 2 (some .int)) { frames := 0, cells := 0, slots := 0, locals := 0 } (kPre dC dI cI cJ cQ sz [.int fo, .int v1] []) (va_Qi (fun (r : Int32) (u : Unit) => True) (fun (u : Unit) t₀ => kB dC dI cI cJ cQ (va_A [] sz) [] t₀) (va_A [] sz)) 0 0 (va_A [] sz) := by
  refine Met.ofW (cc := cX12_cut) (maxL := 2) (ret := (some .int)) (by decide) rfl ?_
  intro p₀ e₀ s₀ m₀ args below meth c₀ s₁ B hml hv₀
  obtain ⟨rfl, hsz, hP, hK, hD0, hN⟩ := hv₀
  have hx₀ := B.exec
  have hb := B.bytes
  have hr := B.returns
  have hts := atoms_spec (ws := (kW yX12_cut cX12_cut 2 (some .int))) B.pre
  have hts := fun w h => hts w (List.mem_cons_of_mem _ h)
  have hown : s₀.vm.findClass RX12 = some m₀.cls := findClass_of_methodNamed B.named
  have hlocks := B.notSynchronized
  subst hsz
  have hD := hD0.self (sz := s₀.heap.size)
  generalize hAe : va_A [] s₀.heap.size = A at hD ⊢
  have hA : ∀ q : Nat, s₀.heap.size ≤ q → A q := fun q h => by rw [← hAe]; exact Or.inr h
  have hS : va_S A s₀.heap s₀.heap [] := va_S.rf
  have hP : va_P (dC, dI) vwCl [] s₀.heap := hP
  have hl := lv_entry ([.int fo, .int v1]) (n := 2) (Nat.le_of_ble_eq_true rfl)
  rw [lg_entry_eq]
  generalize (lg_sl ([.int fo, .int v1]) ++ List.replicate (2 - (lg_sl ([.int fo, .int v1])).length) Slot.unset).toArray = ls at hl ⊢
  have hl : lv_has ls 2 [(0, .int fo), (1, .int v1)] := hl
  obtain ⟨H, hH⟩ : ∃ z : Heap, z = s₀.heap := ⟨_, rfl⟩
  rw [← hH] at hP
  have hS : va_S A s₀.heap H [] := by rw [hH]; exact hS
  refine k_heap hH ?_
  have hD : va_D A [] := hD
  obtain ⟨locs, hlo⟩ : ∃ z : List Loc, z = [] := ⟨_, rfl⟩
  rw [← hlo] at hS ⊢
  clear hlo hH hAe hD0
  refine lv_iload_n hx₀ hb dX12_cut_0 rfl (lv_at hl 0 rfl) ?_
  refine lv_if_ne (tgt := 9) hx₀ hb dX12_cut_1 (by decide) (fun c_1 => ?_) (fun c_1 => ?_)
  · refine lv_iload_n hx₀ hb dX12_cut_9 rfl (lv_at hl 0 rfl) ?_
    refine lv_iconst (v := 1) hx₀ hb dX12_cut_10 (by decide +kernel) ?_
    refine lv_icmp_ne (tgt := 19) hx₀ hb dX12_cut_11 (by decide) (fun c_2 => ?_) (fun c_2 => ?_)
    · refine lv_iload_n hx₀ hb dX12_cut_19 rfl (lv_at hl 1 rfl) ?_
      have hP9 := hP.sub (ws' := []) [] rfl
      have hD9 := hD.sub (ws' := []) [] (by decide) rfl
      exact W.iret (v := v1) hx₀ hb hr (fun t₀ ht hW => ⟨⟨v1, (), rfl, trivial, by rw [ht]; exact hP9, va_K.moved hW.alike hK, hD9⟩, hS.F ht⟩) hS.2.2 dX12_cut_20
    · refine lv_iload_n hx₀ hb dX12_cut_14 rfl (lv_at hl 1 rfl) ?_
      refine lv_i2s hx₀ hb dX12_cut_15 rfl ?_
      refine lv_goto (tgt := 20) hx₀ hb dX12_cut_16 (by decide) ?_
      have hP9 := hP.sub (ws' := []) [] rfl
      have hD9 := hD.sub (ws' := []) [] (by decide) rfl
      exact W.iret (v := v1.toInt16.toInt32) hx₀ hb hr (fun t₀ ht hW => ⟨⟨v1.toInt16.toInt32, (), rfl, trivial, by rw [ht]; exact hP9, va_K.moved hW.alike hK, hD9⟩, hS.F ht⟩) hS.2.2 dX12_cut_20
  · refine lv_iload_n hx₀ hb dX12_cut_4 rfl (lv_at hl 1 rfl) ?_
    refine lv_i2b hx₀ hb dX12_cut_5 rfl ?_
    refine lv_goto (tgt := 20) hx₀ hb dX12_cut_6 (by decide) ?_
    have hP9 := hP.sub (ws' := []) [] rfl
    have hD9 := hD.sub (ws' := []) [] (by decide) rfl
    exact W.iret (v := v1.toInt8.toInt32) hx₀ hb hr (fun t₀ ht hW => ⟨⟨v1.toInt8.toInt32, (), rfl, trivial, by rw [ht]; exact hP9, va_K.moved hW.alike hK, hD9⟩, hS.F ht⟩) hS.2.2 dX12_cut_20
theorem lf_g_isPassenger_1 (a0 : Int32) (a1 : Int32) (h0 : 0 ≤ a0 ∧ a0 ≤ 8) (h1 : (0 : Int64) ≤ a1.toInt64 ∧ a1.toInt64 ≤ ((a0 - 1).toInt64)) : (1 : Int32) = if 0 ≤ a1 ∧ a1 < a0 then 1 else 0 := by
  repeat first | rfl | rw [if_pos (by (first | omega | (have hr0 := Int32.toInt_lt a0; have hs0 := Int32.le_toInt a0; have hr1 := Int32.toInt_lt a1; have hs1 := Int32.le_toInt a1; simp only [Int64.toInt_add, Int64.toInt_sub, Int32.toInt_add, Int32.toInt_sub, Int32.toInt_mul, Int32.toInt_neg, Int64.le_iff_toInt_le, Int64.lt_iff_toInt_lt, Int32.le_iff_toInt_le, Int32.lt_iff_toInt_lt, ← Int32.toInt_inj, ← Int64.toInt_inj, Int32.toInt_toInt64, (show (0 : Int32).toInt = 0 from by decide), (show (0 : Int64).toInt = 0 from by decide), (show (1 : Int32).toInt = 1 from by decide), (show (1 : Int64).toInt = 1 from by decide), (show (8 : Int32).toInt = 8 from by decide), (show (8 : Int64).toInt = 8 from by decide)] at *; (first | omega | ((try simp (disch := omega) only [k_bm64] at *); (try simp (disch := omega) only [k_bm] at *); (try simp (disch := omega) only [k_bm] at *); omega) | (simp only [Int.bmod] at *; omega)))))] | rw [if_neg (by (first | omega | (have hr0 := Int32.toInt_lt a0; have hs0 := Int32.le_toInt a0; have hr1 := Int32.toInt_lt a1; have hs1 := Int32.le_toInt a1; simp only [Int64.toInt_add, Int64.toInt_sub, Int32.toInt_add, Int32.toInt_sub, Int32.toInt_mul, Int32.toInt_neg, Int64.le_iff_toInt_le, Int64.lt_iff_toInt_lt, Int32.le_iff_toInt_le, Int32.lt_iff_toInt_lt, ← Int32.toInt_inj, ← Int64.toInt_inj, Int32.toInt_toInt64, (show (0 : Int32).toInt = 0 from by decide), (show (0 : Int64).toInt = 0 from by decide), (show (1 : Int32).toInt = 1 from by decide), (show (1 : Int64).toInt = 1 from by decide), (show (8 : Int32).toInt = 8 from by decide), (show (8 : Int64).toInt = 8 from by decide)] at *; (first | omega | ((try simp (disch := omega) only [k_bm64] at *); (try simp (disch := omega) only [k_bm] at *); (try simp (disch := omega) only [k_bm] at *); omega) | (simp only [Int.bmod] at *; omega)))))]
theorem lf_g_isPassenger_2 (a0 : Int32) (a1 : Int32) (h0 : 0 ≤ a0 ∧ a0 ≤ 8) (h1 : ¬ ((0 : Int64) ≤ a1.toInt64 ∧ a1.toInt64 ≤ ((a0 - 1).toInt64))) : (0 : Int32) = if 0 ≤ a1 ∧ a1 < a0 then 1 else 0 := by
  repeat first | rfl | rw [if_pos (by (first | omega | (have hr0 := Int32.toInt_lt a0; have hs0 := Int32.le_toInt a0; have hr1 := Int32.toInt_lt a1; have hs1 := Int32.le_toInt a1; simp only [Int64.toInt_add, Int64.toInt_sub, Int32.toInt_add, Int32.toInt_sub, Int32.toInt_mul, Int32.toInt_neg, Int64.le_iff_toInt_le, Int64.lt_iff_toInt_lt, Int32.le_iff_toInt_le, Int32.lt_iff_toInt_lt, ← Int32.toInt_inj, ← Int64.toInt_inj, Int32.toInt_toInt64, (show (0 : Int32).toInt = 0 from by decide), (show (0 : Int64).toInt = 0 from by decide), (show (1 : Int32).toInt = 1 from by decide), (show (1 : Int64).toInt = 1 from by decide), (show (8 : Int32).toInt = 8 from by decide), (show (8 : Int64).toInt = 8 from by decide)] at *; (first | omega | ((try simp (disch := omega) only [k_bm64] at *); (try simp (disch := omega) only [k_bm] at *); (try simp (disch := omega) only [k_bm] at *); omega) | (simp only [Int.bmod] at *; omega)))))] | rw [if_neg (by (first | omega | (have hr0 := Int32.toInt_lt a0; have hs0 := Int32.le_toInt a0; have hr1 := Int32.toInt_lt a1; have hs1 := Int32.le_toInt a1; simp only [Int64.toInt_add, Int64.toInt_sub, Int32.toInt_add, Int32.toInt_sub, Int32.toInt_mul, Int32.toInt_neg, Int64.le_iff_toInt_le, Int64.lt_iff_toInt_lt, Int32.le_iff_toInt_le, Int32.lt_iff_toInt_lt, ← Int32.toInt_inj, ← Int64.toInt_inj, Int32.toInt_toInt64, (show (0 : Int32).toInt = 0 from by decide), (show (0 : Int64).toInt = 0 from by decide), (show (1 : Int32).toInt = 1 from by decide), (show (1 : Int64).toInt = 1 from by decide), (show (8 : Int32).toInt = 8 from by decide), (show (8 : Int64).toInt = 8 from by decide)] at *; (first | omega | ((try simp (disch := omega) only [k_bm64] at *); (try simp (disch := omega) only [k_bm] at *); (try simp (disch := omega) only [k_bm] at *); omega) | (simp only [Int.bmod] at *; omega)))))]
set_option maxHeartbeats 4000000 in
set_option maxRecDepth 100000 in
theorem g_isPassenger (l : Launch) (dC : Nat → ClassId) (dI : Nat → Nat → Nat) (cI cJ cQ : ClassId) (sz : Nat) (hm : Nat) (k1 : Int32) (vFo : Nat) (vSi : Nat) (vIt : Nat) (vMo : Nat) (la : Int32) (vBy : Nat) (vTy : Nat) (mi : Int32) (vMi : Nat) (pn : Int32) (vPs : Nat) (gn : Int32) (vGs : Nat) (fn : Int32) (vFt : Nat) (le : Int32) (vTo : Nat) (kn : Int32) (fe : Int32) (en : Int32) (ca : Int32) (an : Int32) (co : Int32) (vPr : Nat) (vSt : Nat) (vFn : Nat) (sn : Int32) (vSg : Nat) (vAl : Nat) (dr : Int32) (hh0 : 0 ≤ pn ∧ pn ≤ 8) : Met l yX12_isPassenger (kW yX12_isPassenger cX12_isPassenger 2 (some .boolean)) { frames := 1, cells := 0, slots := 0, locals := 25 } (kPre dC dI cI cJ cQ sz [.ref hm, .int k1] [(hm, .inr (11, [.ref vFo, .ref vSi, .ref vIt, .ref vMo, .int la, .ref vBy, .ref vTy, .int mi, .ref vMi, .int pn, .ref vPs, .int gn, .ref vGs, .int fn, .ref vFt, .int le, .ref vTo, .int kn, .int fe, .int en, .int ca, .int an, .int co, .ref vPr, .ref vSt, .ref vFn, .int sn, .ref vSg, .ref vAl, .int dr]))]) (va_Qi (fun (r : Int32) (u : Unit) => (r = if 0 ≤ k1 ∧ k1 < pn then 1 else 0)) (fun (u : Unit) t₀ => kB dC dI cI cJ cQ (va_A [(hm, .inr (11, [.ref vFo, .ref vSi, .ref vIt, .ref vMo, .int la, .ref vBy, .ref vTy, .int mi, .ref vMi, .int pn, .ref vPs, .int gn, .ref vGs, .int fn, .ref vFt, .int le, .ref vTo, .int kn, .int fe, .int en, .int ca, .int an, .int co, .ref vPr, .ref vSt, .ref vFn, .int sn, .ref vSg, .ref vAl, .int dr]))] sz) [(hm, .inr (11, [.ref vFo, .ref vSi, .ref vIt, .ref vMo, .int la, .ref vBy, .ref vTy, .int mi, .ref vMi, .int pn, .ref vPs, .int gn, .ref vGs, .int fn, .ref vFt, .int le, .ref vTo, .int kn, .int fe, .int en, .int ca, .int an, .int co, .ref vPr, .ref vSt, .ref vFn, .int sn, .ref vSg, .ref vAl, .int dr]))] t₀) (va_A [(hm, .inr (11, [.ref vFo, .ref vSi, .ref vIt, .ref vMo, .int la, .ref vBy, .ref vTy, .int mi, .ref vMi, .int pn, .ref vPs, .int gn, .ref vGs, .int fn, .ref vFt, .int le, .ref vTo, .int kn, .int fe, .int en, .int ca, .int an, .int co, .ref vPr, .ref vSt, .ref vFn, .int sn, .ref vSg, .ref vAl, .int dr]))] sz)) 0 0 (va_A [(hm, .inr (11, [.ref vFo, .ref vSi, .ref vIt, .ref vMo, .int la, .ref vBy, .ref vTy, .int mi, .ref vMi, .int pn, .ref vPs, .int gn, .ref vGs, .int fn, .ref vFt, .int le, .ref vTo, .int kn, .int fe, .int en, .int ca, .int an, .int co, .ref vPr, .ref vSt, .ref vFn, .int sn, .ref vSg, .ref vAl, .int dr]))] sz) := by
  refine Met.ofW (cc := cX12_isPassenger) (maxL := 2) (ret := (some .boolean)) (by decide) rfl ?_
  intro p₀ e₀ s₀ m₀ args below meth c₀ s₁ B hml hv₀
  obtain ⟨rfl, hsz, hP, hK, hD0, hN⟩ := hv₀
  have hx₀ := B.exec
  have hb := B.bytes
  have hr := B.returns
  have hts := atoms_spec (ws := (kW yX12_isPassenger cX12_isPassenger 2 (some .boolean))) B.pre
  have hts := fun w h => hts w (List.mem_cons_of_mem _ h)
  have hown : s₀.vm.findClass RX12 = some m₀.cls := findClass_of_methodNamed B.named
  have hlocks := B.notSynchronized
  subst hsz
  have hD := hD0.self (sz := s₀.heap.size)
  generalize hAe : va_A [(hm, .inr (11, [.ref vFo, .ref vSi, .ref vIt, .ref vMo, .int la, .ref vBy, .ref vTy, .int mi, .ref vMi, .int pn, .ref vPs, .int gn, .ref vGs, .int fn, .ref vFt, .int le, .ref vTo, .int kn, .int fe, .int en, .int ca, .int an, .int co, .ref vPr, .ref vSt, .ref vFn, .int sn, .ref vSg, .ref vAl, .int dr]))] s₀.heap.size = A at hD ⊢
  have hA : ∀ q : Nat, s₀.heap.size ≤ q → A q := fun q h => by rw [← hAe]; exact Or.inr h
  have hS : va_S A s₀.heap s₀.heap [] := va_S.rf
  have hP : va_P (dC, dI) vwCl [(hm, .inr (11, [.ref vFo, .ref vSi, .ref vIt, .ref vMo, .int la, .ref vBy, .ref vTy, .int mi, .ref vMi, .int pn, .ref vPs, .int gn, .ref vGs, .int fn, .ref vFt, .int le, .ref vTo, .int kn, .int fe, .int en, .int ca, .int an, .int co, .ref vPr, .ref vSt, .ref vFn, .int sn, .ref vSg, .ref vAl, .int dr]))] s₀.heap := hP
  have hl := lv_entry ([.ref hm, .int k1]) (n := 2) (Nat.le_of_ble_eq_true rfl)
  rw [lg_entry_eq]
  generalize (lg_sl ([.ref hm, .int k1]) ++ List.replicate (2 - (lg_sl ([.ref hm, .int k1])).length) Slot.unset).toArray = ls at hl ⊢
  have hl : lv_has ls 2 [(0, .ref hm), (1, .int k1)] := hl
  obtain ⟨H, hH⟩ : ∃ z : Heap, z = s₀.heap := ⟨_, rfl⟩
  rw [← hH] at hP
  have hS : va_S A s₀.heap H [] := by rw [hH]; exact hS
  refine k_heap hH ?_
  have hD : va_D A [(hm, .inr (11, [.ref vFo, .ref vSi, .ref vIt, .ref vMo, .int la, .ref vBy, .ref vTy, .int mi, .ref vMi, .int pn, .ref vPs, .int gn, .ref vGs, .int fn, .ref vFt, .int le, .ref vTo, .int kn, .int fe, .int en, .int ca, .int an, .int co, .ref vPr, .ref vSt, .ref vFn, .int sn, .ref vSg, .ref vAl, .int dr]))] := hD
  obtain ⟨locs, hlo⟩ : ∃ z : List Loc, z = [] := ⟨_, rfl⟩
  rw [← hlo] at hS ⊢
  clear hlo hH hAe hD0
  refine lv_iload_n hx₀ hb dX12_isPassenger_0 rfl (lv_at hl 1 rfl) ?_
  refine lv_i2l hx₀ hb dX12_isPassenger_1 rfl ?_
  refine lv_lconst (v := 0) hx₀ hb dX12_isPassenger_2 (by decide +kernel) ?_
  refine lv_aload_n hx₀ hb dX12_isPassenger_3 rfl (lv_at hl 0 rfl) ?_
  refine va_get (D := (dC, dI)) (ci := 11) (v := .int pn) (C := RX12) (T := TX12) (N := 30) hx₀ hb hts inlX12 hown hK hP 0 rfl rfl 9 (by decide) (hts (.fieldLink RX12 116 "BittenStickModel" "passengers" "I") wd_265) (fun _ h9 => h9) rfl dX12_isPassenger_4 ?_
  refine lv_iconst (v := 1) hx₀ hb dX12_isPassenger_7 (by decide +kernel) ?_
  refine lv_isub hx₀ hb dX12_isPassenger_8 ?_
  refine lv_i2l hx₀ hb dX12_isPassenger_9 rfl ?_
  have hPc := hP.sub (ws' := []) [] rfl
  have hDc := hD.sub (ws' := []) [] (by decide) rfl
  have hFc := va_free (wc := []) hD hS hA [] rfl
  refine va_calli (va_runS (As := [.long k1.toInt64, .long 0, .long ((pn - 1).toInt64)]) (rest := []) ⟨hx₀, hb, hml, hown, hts⟩ (c_in l dC dI cI cJ cQ H.size k1.toInt64 0 ((pn - 1).toInt64)) (va_cwS 3 hts (kGS wd_208 wd_206 wd_207 wd_5) rfl rfl rfl (by decide +kernel) ⟨Nat.le_of_ble_eq_true rfl, Nat.le_of_ble_eq_true rfl⟩) (k_preS hK hPc hDc hN) rfl rfl hl.1 rfl (lv_room (Nat.le_of_ble_eq_true rfl)) dX12_isPassenger_10 ⟨by decide +kernel, by decide +kernel⟩) hS (fun q _ h => hFc q h) hFc (fun r_1 u₀ t₀ H1 locs ht hvm hw hB hz1 hk1 hS => ?_)
  obtain ⟨hP1, hK1, hD1⟩ := hB
  rw [ht] at hP1
  obtain ⟨hP, hD⟩ := va_join (wr := [(hm, .inr (11, [.ref vFo, .ref vSi, .ref vIt, .ref vMo, .int la, .ref vBy, .ref vTy, .int mi, .ref vMi, .int pn, .ref vPs, .int gn, .ref vGs, .int fn, .ref vFt, .int le, .ref vTo, .int kn, .int fe, .int en, .int ca, .int an, .int co, .ref vPr, .ref vSt, .ref vFn, .int sn, .ref vSg, .ref vAl, .int dr]))]) (w1 := []) hP hD [] [0] rfl rfl (by decide) (by decide) hk1 hFc hP1 hD1
  generalize H1 = H at hP hS ⊢
  have hP : va_P (dC, dI) vwCl [(hm, .inr (11, [.ref vFo, .ref vSi, .ref vIt, .ref vMo, .int la, .ref vBy, .ref vTy, .int mi, .ref vMi, .int pn, .ref vPs, .int gn, .ref vGs, .int fn, .ref vFt, .int le, .ref vTo, .int kn, .int fe, .int en, .int ca, .int an, .int co, .ref vPr, .ref vSt, .ref vFn, .int sn, .ref vSg, .ref vAl, .int dr]))] H := hP
  have hD : va_D A [(hm, .inr (11, [.ref vFo, .ref vSi, .ref vIt, .ref vMo, .int la, .ref vBy, .ref vTy, .int mi, .ref vMi, .int pn, .ref vPs, .int gn, .ref vGs, .int fn, .ref vFt, .int le, .ref vTo, .int kn, .int fe, .int en, .int ca, .int an, .int co, .ref vPr, .ref vSt, .ref vFn, .int sn, .ref vSg, .ref vAl, .int dr]))] := hD
  try dsimp only at hw
  by_cases c_2 : (0 : Int64) ≤ k1.toInt64 ∧ k1.toInt64 ≤ ((pn - 1).toInt64)
  · rw [if_pos c_2] at hw
    refine k_topi (v := 1) hw ?_
    have hP9 := hP.sub (ws' := [(hm, .inr (11, [.ref vFo, .ref vSi, .ref vIt, .ref vMo, .int la, .ref vBy, .ref vTy, .int mi, .ref vMi, .int pn, .ref vPs, .int gn, .ref vGs, .int fn, .ref vFt, .int le, .ref vTo, .int kn, .int fe, .int en, .int ca, .int an, .int co, .ref vPr, .ref vSt, .ref vFn, .int sn, .ref vSg, .ref vAl, .int dr]))]) [0] rfl
    have hD9 := hD.sub (ws' := [(hm, .inr (11, [.ref vFo, .ref vSi, .ref vIt, .ref vMo, .int la, .ref vBy, .ref vTy, .int mi, .ref vMi, .int pn, .ref vPs, .int gn, .ref vGs, .int fn, .ref vFt, .int le, .ref vTo, .int kn, .int fe, .int en, .int ca, .int an, .int co, .ref vPr, .ref vSt, .ref vFn, .int sn, .ref vSg, .ref vAl, .int dr]))]) [0] (by decide) rfl
    exact W.zret (v := 1) hx₀ hb hr (by decide +kernel) (fun t₀ ht hW => ⟨⟨1, (), rfl, (lf_g_isPassenger_1 pn k1 hh0 c_2), by rw [ht]; exact hP9, va_K.moved hW.alike hK, hD9⟩, hS.F ht⟩) hS.2.2 dX12_isPassenger_13
  rw [if_neg c_2] at hw
  refine k_topi (v := 0) hw ?_
  have hP9 := hP.sub (ws' := [(hm, .inr (11, [.ref vFo, .ref vSi, .ref vIt, .ref vMo, .int la, .ref vBy, .ref vTy, .int mi, .ref vMi, .int pn, .ref vPs, .int gn, .ref vGs, .int fn, .ref vFt, .int le, .ref vTo, .int kn, .int fe, .int en, .int ca, .int an, .int co, .ref vPr, .ref vSt, .ref vFn, .int sn, .ref vSg, .ref vAl, .int dr]))]) [0] rfl
  have hD9 := hD.sub (ws' := [(hm, .inr (11, [.ref vFo, .ref vSi, .ref vIt, .ref vMo, .int la, .ref vBy, .ref vTy, .int mi, .ref vMi, .int pn, .ref vPs, .int gn, .ref vGs, .int fn, .ref vFt, .int le, .ref vTo, .int kn, .int fe, .int en, .int ca, .int an, .int co, .ref vPr, .ref vSt, .ref vFn, .int sn, .ref vSg, .ref vAl, .int dr]))]) [0] (by decide) rfl
  exact W.zret (v := 0) hx₀ hb hr (by decide +kernel) (fun t₀ ht hW => ⟨⟨0, (), rfl, (lf_g_isPassenger_2 pn k1 hh0 c_2), by rw [ht]; exact hP9, va_K.moved hW.alike hK, hD9⟩, hS.F ht⟩) hS.2.2 dX12_isPassenger_13
set_option maxHeartbeats 4000000 in
set_option maxRecDepth 100000 in
theorem g_isGoose (l : Launch) (dC : Nat → ClassId) (dI : Nat → Nat → Nat) (cI cJ cQ : ClassId) (sz : Nat) (hm : Nat) (k1 : Int32) (vFo : Nat) (vSi : Nat) (vIt : Nat) (vMo : Nat) (la : Int32) (vBy : Nat) (vTy : Nat) (mi : Int32) (vMi : Nat) (pn : Int32) (vPs : Nat) (gn : Int32) (vGs : Nat) (fn : Int32) (vFt : Nat) (le : Int32) (vTo : Nat) (kn : Int32) (fe : Int32) (en : Int32) (ca : Int32) (an : Int32) (co : Int32) (vPr : Nat) (vSt : Nat) (vFn : Nat) (sn : Int32) (vSg : Nat) (vAl : Nat) (dr : Int32) (hh0 : 0 ≤ gn ∧ gn ≤ 8) : Met l yX12_isGoose (kW yX12_isGoose cX12_isGoose 2 (some .boolean)) { frames := 1, cells := 0, slots := 0, locals := 25 } (kPre dC dI cI cJ cQ sz [.ref hm, .int k1] [(hm, .inr (11, [.ref vFo, .ref vSi, .ref vIt, .ref vMo, .int la, .ref vBy, .ref vTy, .int mi, .ref vMi, .int pn, .ref vPs, .int gn, .ref vGs, .int fn, .ref vFt, .int le, .ref vTo, .int kn, .int fe, .int en, .int ca, .int an, .int co, .ref vPr, .ref vSt, .ref vFn, .int sn, .ref vSg, .ref vAl, .int dr]))]) (va_Qi (fun (r : Int32) (u : Unit) => (r = if 0 ≤ k1 ∧ k1 < gn then 1 else 0)) (fun (u : Unit) t₀ => kB dC dI cI cJ cQ (va_A [(hm, .inr (11, [.ref vFo, .ref vSi, .ref vIt, .ref vMo, .int la, .ref vBy, .ref vTy, .int mi, .ref vMi, .int pn, .ref vPs, .int gn, .ref vGs, .int fn, .ref vFt, .int le, .ref vTo, .int kn, .int fe, .int en, .int ca, .int an, .int co, .ref vPr, .ref vSt, .ref vFn, .int sn, .ref vSg, .ref vAl, .int dr]))] sz) [(hm, .inr (11, [.ref vFo, .ref vSi, .ref vIt, .ref vMo, .int la, .ref vBy, .ref vTy, .int mi, .ref vMi, .int pn, .ref vPs, .int gn, .ref vGs, .int fn, .ref vFt, .int le, .ref vTo, .int kn, .int fe, .int en, .int ca, .int an, .int co, .ref vPr, .ref vSt, .ref vFn, .int sn, .ref vSg, .ref vAl, .int dr]))] t₀) (va_A [(hm, .inr (11, [.ref vFo, .ref vSi, .ref vIt, .ref vMo, .int la, .ref vBy, .ref vTy, .int mi, .ref vMi, .int pn, .ref vPs, .int gn, .ref vGs, .int fn, .ref vFt, .int le, .ref vTo, .int kn, .int fe, .int en, .int ca, .int an, .int co, .ref vPr, .ref vSt, .ref vFn, .int sn, .ref vSg, .ref vAl, .int dr]))] sz)) 0 0 (va_A [(hm, .inr (11, [.ref vFo, .ref vSi, .ref vIt, .ref vMo, .int la, .ref vBy, .ref vTy, .int mi, .ref vMi, .int pn, .ref vPs, .int gn, .ref vGs, .int fn, .ref vFt, .int le, .ref vTo, .int kn, .int fe, .int en, .int ca, .int an, .int co, .ref vPr, .ref vSt, .ref vFn, .int sn, .ref vSg, .ref vAl, .int dr]))] sz) := by
  refine Met.ofW (cc := cX12_isGoose) (maxL := 2) (ret := (some .boolean)) (by decide) rfl ?_
  intro p₀ e₀ s₀ m₀ args below meth c₀ s₁ B hml hv₀
  obtain ⟨rfl, hsz, hP, hK, hD0, hN⟩ := hv₀
  have hx₀ := B.exec
  have hb := B.bytes
  have hr := B.returns
  have hts := atoms_spec (ws := (kW yX12_isGoose cX12_isGoose 2 (some .boolean))) B.pre
  have hts := fun w h => hts w (List.mem_cons_of_mem _ h)
  have hown : s₀.vm.findClass RX12 = some m₀.cls := findClass_of_methodNamed B.named
  have hlocks := B.notSynchronized
  subst hsz
  have hD := hD0.self (sz := s₀.heap.size)
  generalize hAe : va_A [(hm, .inr (11, [.ref vFo, .ref vSi, .ref vIt, .ref vMo, .int la, .ref vBy, .ref vTy, .int mi, .ref vMi, .int pn, .ref vPs, .int gn, .ref vGs, .int fn, .ref vFt, .int le, .ref vTo, .int kn, .int fe, .int en, .int ca, .int an, .int co, .ref vPr, .ref vSt, .ref vFn, .int sn, .ref vSg, .ref vAl, .int dr]))] s₀.heap.size = A at hD ⊢
  have hA : ∀ q : Nat, s₀.heap.size ≤ q → A q := fun q h => by rw [← hAe]; exact Or.inr h
  have hS : va_S A s₀.heap s₀.heap [] := va_S.rf
  have hP : va_P (dC, dI) vwCl [(hm, .inr (11, [.ref vFo, .ref vSi, .ref vIt, .ref vMo, .int la, .ref vBy, .ref vTy, .int mi, .ref vMi, .int pn, .ref vPs, .int gn, .ref vGs, .int fn, .ref vFt, .int le, .ref vTo, .int kn, .int fe, .int en, .int ca, .int an, .int co, .ref vPr, .ref vSt, .ref vFn, .int sn, .ref vSg, .ref vAl, .int dr]))] s₀.heap := hP
  have hl := lv_entry ([.ref hm, .int k1]) (n := 2) (Nat.le_of_ble_eq_true rfl)
  rw [lg_entry_eq]
  generalize (lg_sl ([.ref hm, .int k1]) ++ List.replicate (2 - (lg_sl ([.ref hm, .int k1])).length) Slot.unset).toArray = ls at hl ⊢
  have hl : lv_has ls 2 [(0, .ref hm), (1, .int k1)] := hl
  obtain ⟨H, hH⟩ : ∃ z : Heap, z = s₀.heap := ⟨_, rfl⟩
  rw [← hH] at hP
  have hS : va_S A s₀.heap H [] := by rw [hH]; exact hS
  refine k_heap hH ?_
  have hD : va_D A [(hm, .inr (11, [.ref vFo, .ref vSi, .ref vIt, .ref vMo, .int la, .ref vBy, .ref vTy, .int mi, .ref vMi, .int pn, .ref vPs, .int gn, .ref vGs, .int fn, .ref vFt, .int le, .ref vTo, .int kn, .int fe, .int en, .int ca, .int an, .int co, .ref vPr, .ref vSt, .ref vFn, .int sn, .ref vSg, .ref vAl, .int dr]))] := hD
  obtain ⟨locs, hlo⟩ : ∃ z : List Loc, z = [] := ⟨_, rfl⟩
  rw [← hlo] at hS ⊢
  clear hlo hH hAe hD0
  refine lv_iload_n hx₀ hb dX12_isGoose_0 rfl (lv_at hl 1 rfl) ?_
  refine lv_i2l hx₀ hb dX12_isGoose_1 rfl ?_
  refine lv_lconst (v := 0) hx₀ hb dX12_isGoose_2 (by decide +kernel) ?_
  refine lv_aload_n hx₀ hb dX12_isGoose_3 rfl (lv_at hl 0 rfl) ?_
  refine va_get (D := (dC, dI)) (ci := 11) (v := .int gn) (C := RX12) (T := TX12) (N := 30) hx₀ hb hts inlX12 hown hK hP 0 rfl rfl 11 (by decide) (hts (.fieldLink RX12 122 "BittenStickModel" "geese" "I") wd_277) (fun _ h9 => h9) rfl dX12_isGoose_4 ?_
  refine lv_iconst (v := 1) hx₀ hb dX12_isGoose_7 (by decide +kernel) ?_
  refine lv_isub hx₀ hb dX12_isGoose_8 ?_
  refine lv_i2l hx₀ hb dX12_isGoose_9 rfl ?_
  have hPc := hP.sub (ws' := []) [] rfl
  have hDc := hD.sub (ws' := []) [] (by decide) rfl
  have hFc := va_free (wc := []) hD hS hA [] rfl
  refine va_calli (va_runS (As := [.long k1.toInt64, .long 0, .long ((gn - 1).toInt64)]) (rest := []) ⟨hx₀, hb, hml, hown, hts⟩ (c_in l dC dI cI cJ cQ H.size k1.toInt64 0 ((gn - 1).toInt64)) (va_cwS 3 hts (kGS wd_208 wd_206 wd_207 wd_5) rfl rfl rfl (by decide +kernel) ⟨Nat.le_of_ble_eq_true rfl, Nat.le_of_ble_eq_true rfl⟩) (k_preS hK hPc hDc hN) rfl rfl hl.1 rfl (lv_room (Nat.le_of_ble_eq_true rfl)) dX12_isGoose_10 ⟨by decide +kernel, by decide +kernel⟩) hS (fun q _ h => hFc q h) hFc (fun r_1 u₀ t₀ H1 locs ht hvm hw hB hz1 hk1 hS => ?_)
  obtain ⟨hP1, hK1, hD1⟩ := hB
  rw [ht] at hP1
  obtain ⟨hP, hD⟩ := va_join (wr := [(hm, .inr (11, [.ref vFo, .ref vSi, .ref vIt, .ref vMo, .int la, .ref vBy, .ref vTy, .int mi, .ref vMi, .int pn, .ref vPs, .int gn, .ref vGs, .int fn, .ref vFt, .int le, .ref vTo, .int kn, .int fe, .int en, .int ca, .int an, .int co, .ref vPr, .ref vSt, .ref vFn, .int sn, .ref vSg, .ref vAl, .int dr]))]) (w1 := []) hP hD [] [0] rfl rfl (by decide) (by decide) hk1 hFc hP1 hD1
  generalize H1 = H at hP hS ⊢
  have hP : va_P (dC, dI) vwCl [(hm, .inr (11, [.ref vFo, .ref vSi, .ref vIt, .ref vMo, .int la, .ref vBy, .ref vTy, .int mi, .ref vMi, .int pn, .ref vPs, .int gn, .ref vGs, .int fn, .ref vFt, .int le, .ref vTo, .int kn, .int fe, .int en, .int ca, .int an, .int co, .ref vPr, .ref vSt, .ref vFn, .int sn, .ref vSg, .ref vAl, .int dr]))] H := hP
  have hD : va_D A [(hm, .inr (11, [.ref vFo, .ref vSi, .ref vIt, .ref vMo, .int la, .ref vBy, .ref vTy, .int mi, .ref vMi, .int pn, .ref vPs, .int gn, .ref vGs, .int fn, .ref vFt, .int le, .ref vTo, .int kn, .int fe, .int en, .int ca, .int an, .int co, .ref vPr, .ref vSt, .ref vFn, .int sn, .ref vSg, .ref vAl, .int dr]))] := hD
  try dsimp only at hw
  by_cases c_2 : (0 : Int64) ≤ k1.toInt64 ∧ k1.toInt64 ≤ ((gn - 1).toInt64)
  · rw [if_pos c_2] at hw
    refine k_topi (v := 1) hw ?_
    have hP9 := hP.sub (ws' := [(hm, .inr (11, [.ref vFo, .ref vSi, .ref vIt, .ref vMo, .int la, .ref vBy, .ref vTy, .int mi, .ref vMi, .int pn, .ref vPs, .int gn, .ref vGs, .int fn, .ref vFt, .int le, .ref vTo, .int kn, .int fe, .int en, .int ca, .int an, .int co, .ref vPr, .ref vSt, .ref vFn, .int sn, .ref vSg, .ref vAl, .int dr]))]) [0] rfl
    have hD9 := hD.sub (ws' := [(hm, .inr (11, [.ref vFo, .ref vSi, .ref vIt, .ref vMo, .int la, .ref vBy, .ref vTy, .int mi, .ref vMi, .int pn, .ref vPs, .int gn, .ref vGs, .int fn, .ref vFt, .int le, .ref vTo, .int kn, .int fe, .int en, .int ca, .int an, .int co, .ref vPr, .ref vSt, .ref vFn, .int sn, .ref vSg, .ref vAl, .int dr]))]) [0] (by decide) rfl
    exact W.zret (v := 1) hx₀ hb hr (by decide +kernel) (fun t₀ ht hW => ⟨⟨1, (), rfl, (lf_g_isPassenger_1 gn k1 hh0 c_2), by rw [ht]; exact hP9, va_K.moved hW.alike hK, hD9⟩, hS.F ht⟩) hS.2.2 dX12_isGoose_13
  rw [if_neg c_2] at hw
  refine k_topi (v := 0) hw ?_
  have hP9 := hP.sub (ws' := [(hm, .inr (11, [.ref vFo, .ref vSi, .ref vIt, .ref vMo, .int la, .ref vBy, .ref vTy, .int mi, .ref vMi, .int pn, .ref vPs, .int gn, .ref vGs, .int fn, .ref vFt, .int le, .ref vTo, .int kn, .int fe, .int en, .int ca, .int an, .int co, .ref vPr, .ref vSt, .ref vFn, .int sn, .ref vSg, .ref vAl, .int dr]))]) [0] rfl
  have hD9 := hD.sub (ws' := [(hm, .inr (11, [.ref vFo, .ref vSi, .ref vIt, .ref vMo, .int la, .ref vBy, .ref vTy, .int mi, .ref vMi, .int pn, .ref vPs, .int gn, .ref vGs, .int fn, .ref vFt, .int le, .ref vTo, .int kn, .int fe, .int en, .int ca, .int an, .int co, .ref vPr, .ref vSt, .ref vFn, .int sn, .ref vSg, .ref vAl, .int dr]))]) [0] (by decide) rfl
  exact W.zret (v := 0) hx₀ hb hr (by decide +kernel) (fun t₀ ht hW => ⟨⟨0, (), rfl, (lf_g_isPassenger_2 gn k1 hh0 c_2), by rw [ht]; exact hP9, va_K.moved hW.alike hK, hD9⟩, hS.F ht⟩) hS.2.2 dX12_isGoose_13
set_option maxHeartbeats 4000000 in
set_option maxRecDepth 100000 in
theorem g_isFlight (l : Launch) (dC : Nat → ClassId) (dI : Nat → Nat → Nat) (cI cJ cQ : ClassId) (sz : Nat) (hm : Nat) (k1 : Int32) (vFo : Nat) (vSi : Nat) (vIt : Nat) (vMo : Nat) (la : Int32) (vBy : Nat) (vTy : Nat) (mi : Int32) (vMi : Nat) (pn : Int32) (vPs : Nat) (gn : Int32) (vGs : Nat) (fn : Int32) (vFt : Nat) (le : Int32) (vTo : Nat) (kn : Int32) (fe : Int32) (en : Int32) (ca : Int32) (an : Int32) (co : Int32) (vPr : Nat) (vSt : Nat) (vFn : Nat) (sn : Int32) (vSg : Nat) (vAl : Nat) (dr : Int32) (hh0 : 0 ≤ fn ∧ fn ≤ 8) : Met l yX12_isFlight (kW yX12_isFlight cX12_isFlight 2 (some .boolean)) { frames := 1, cells := 0, slots := 0, locals := 25 } (kPre dC dI cI cJ cQ sz [.ref hm, .int k1] [(hm, .inr (11, [.ref vFo, .ref vSi, .ref vIt, .ref vMo, .int la, .ref vBy, .ref vTy, .int mi, .ref vMi, .int pn, .ref vPs, .int gn, .ref vGs, .int fn, .ref vFt, .int le, .ref vTo, .int kn, .int fe, .int en, .int ca, .int an, .int co, .ref vPr, .ref vSt, .ref vFn, .int sn, .ref vSg, .ref vAl, .int dr]))]) (va_Qi (fun (r : Int32) (u : Unit) => (r = if 0 ≤ k1 ∧ k1 < fn then 1 else 0)) (fun (u : Unit) t₀ => kB dC dI cI cJ cQ (va_A [(hm, .inr (11, [.ref vFo, .ref vSi, .ref vIt, .ref vMo, .int la, .ref vBy, .ref vTy, .int mi, .ref vMi, .int pn, .ref vPs, .int gn, .ref vGs, .int fn, .ref vFt, .int le, .ref vTo, .int kn, .int fe, .int en, .int ca, .int an, .int co, .ref vPr, .ref vSt, .ref vFn, .int sn, .ref vSg, .ref vAl, .int dr]))] sz) [(hm, .inr (11, [.ref vFo, .ref vSi, .ref vIt, .ref vMo, .int la, .ref vBy, .ref vTy, .int mi, .ref vMi, .int pn, .ref vPs, .int gn, .ref vGs, .int fn, .ref vFt, .int le, .ref vTo, .int kn, .int fe, .int en, .int ca, .int an, .int co, .ref vPr, .ref vSt, .ref vFn, .int sn, .ref vSg, .ref vAl, .int dr]))] t₀) (va_A [(hm, .inr (11, [.ref vFo, .ref vSi, .ref vIt, .ref vMo, .int la, .ref vBy, .ref vTy, .int mi, .ref vMi, .int pn, .ref vPs, .int gn, .ref vGs, .int fn, .ref vFt, .int le, .ref vTo, .int kn, .int fe, .int en, .int ca, .int an, .int co, .ref vPr, .ref vSt, .ref vFn, .int sn, .ref vSg, .ref vAl, .int dr]))] sz)) 0 0 (va_A [(hm, .inr (11, [.ref vFo, .ref vSi, .ref vIt, .ref vMo, .int la, .ref vBy, .ref vTy, .int mi, .ref vMi, .int pn, .ref vPs, .int gn, .ref vGs, .int fn, .ref vFt, .int le, .ref vTo, .int kn, .int fe, .int en, .int ca, .int an, .int co, .ref vPr, .ref vSt, .ref vFn, .int sn, .ref vSg, .ref vAl, .int dr]))] sz) := by
  refine Met.ofW (cc := cX12_isFlight) (maxL := 2) (ret := (some .boolean)) (by decide) rfl ?_
  intro p₀ e₀ s₀ m₀ args below meth c₀ s₁ B hml hv₀
  obtain ⟨rfl, hsz, hP, hK, hD0, hN⟩ := hv₀
  have hx₀ := B.exec
  have hb := B.bytes
  have hr := B.returns
  have hts := atoms_spec (ws := (kW yX12_isFlight cX12_isFlight 2 (some .boolean))) B.pre
  have hts := fun w h => hts w (List.mem_cons_of_mem _ h)
  have hown : s₀.vm.findClass RX12 = some m₀.cls := findClass_of_methodNamed B.named
  have hlocks := B.notSynchronized
  subst hsz
  have hD := hD0.self (sz := s₀.heap.size)
  generalize hAe : va_A [(hm, .inr (11, [.ref vFo, .ref vSi, .ref vIt, .ref vMo, .int la, .ref vBy, .ref vTy, .int mi, .ref vMi, .int pn, .ref vPs, .int gn, .ref vGs, .int fn, .ref vFt, .int le, .ref vTo, .int kn, .int fe, .int en, .int ca, .int an, .int co, .ref vPr, .ref vSt, .ref vFn, .int sn, .ref vSg, .ref vAl, .int dr]))] s₀.heap.size = A at hD ⊢
  have hA : ∀ q : Nat, s₀.heap.size ≤ q → A q := fun q h => by rw [← hAe]; exact Or.inr h
  have hS : va_S A s₀.heap s₀.heap [] := va_S.rf
  have hP : va_P (dC, dI) vwCl [(hm, .inr (11, [.ref vFo, .ref vSi, .ref vIt, .ref vMo, .int la, .ref vBy, .ref vTy, .int mi, .ref vMi, .int pn, .ref vPs, .int gn, .ref vGs, .int fn, .ref vFt, .int le, .ref vTo, .int kn, .int fe, .int en, .int ca, .int an, .int co, .ref vPr, .ref vSt, .ref vFn, .int sn, .ref vSg, .ref vAl, .int dr]))] s₀.heap := hP
  have hl := lv_entry ([.ref hm, .int k1]) (n := 2) (Nat.le_of_ble_eq_true rfl)
  rw [lg_entry_eq]
  generalize (lg_sl ([.ref hm, .int k1]) ++ List.replicate (2 - (lg_sl ([.ref hm, .int k1])).length) Slot.unset).toArray = ls at hl ⊢
  have hl : lv_has ls 2 [(0, .ref hm), (1, .int k1)] := hl
  obtain ⟨H, hH⟩ : ∃ z : Heap, z = s₀.heap := ⟨_, rfl⟩
  rw [← hH] at hP
  have hS : va_S A s₀.heap H [] := by rw [hH]; exact hS
  refine k_heap hH ?_
  have hD : va_D A [(hm, .inr (11, [.ref vFo, .ref vSi, .ref vIt, .ref vMo, .int la, .ref vBy, .ref vTy, .int mi, .ref vMi, .int pn, .ref vPs, .int gn, .ref vGs, .int fn, .ref vFt, .int le, .ref vTo, .int kn, .int fe, .int en, .int ca, .int an, .int co, .ref vPr, .ref vSt, .ref vFn, .int sn, .ref vSg, .ref vAl, .int dr]))] := hD
  obtain ⟨locs, hlo⟩ : ∃ z : List Loc, z = [] := ⟨_, rfl⟩
  rw [← hlo] at hS ⊢
  clear hlo hH hAe hD0
  refine lv_iload_n hx₀ hb dX12_isFlight_0 rfl (lv_at hl 1 rfl) ?_
  refine lv_i2l hx₀ hb dX12_isFlight_1 rfl ?_
  refine lv_lconst (v := 0) hx₀ hb dX12_isFlight_2 (by decide +kernel) ?_
  refine lv_aload_n hx₀ hb dX12_isFlight_3 rfl (lv_at hl 0 rfl) ?_
  refine va_get (D := (dC, dI)) (ci := 11) (v := .int fn) (C := RX12) (T := TX12) (N := 30) hx₀ hb hts inlX12 hown hK hP 0 rfl rfl 13 (by decide) (hts (.fieldLink RX12 159 "BittenStickModel" "flights" "I") wd_364) (fun _ h9 => h9) rfl dX12_isFlight_4 ?_
  refine lv_iconst (v := 1) hx₀ hb dX12_isFlight_7 (by decide +kernel) ?_
  refine lv_isub hx₀ hb dX12_isFlight_8 ?_
  refine lv_i2l hx₀ hb dX12_isFlight_9 rfl ?_
  have hPc := hP.sub (ws' := []) [] rfl
  have hDc := hD.sub (ws' := []) [] (by decide) rfl
  have hFc := va_free (wc := []) hD hS hA [] rfl
  refine va_calli (va_runS (As := [.long k1.toInt64, .long 0, .long ((fn - 1).toInt64)]) (rest := []) ⟨hx₀, hb, hml, hown, hts⟩ (c_in l dC dI cI cJ cQ H.size k1.toInt64 0 ((fn - 1).toInt64)) (va_cwS 3 hts (kGS wd_208 wd_206 wd_207 wd_5) rfl rfl rfl (by decide +kernel) ⟨Nat.le_of_ble_eq_true rfl, Nat.le_of_ble_eq_true rfl⟩) (k_preS hK hPc hDc hN) rfl rfl hl.1 rfl (lv_room (Nat.le_of_ble_eq_true rfl)) dX12_isFlight_10 ⟨by decide +kernel, by decide +kernel⟩) hS (fun q _ h => hFc q h) hFc (fun r_1 u₀ t₀ H1 locs ht hvm hw hB hz1 hk1 hS => ?_)
  obtain ⟨hP1, hK1, hD1⟩ := hB
  rw [ht] at hP1
  obtain ⟨hP, hD⟩ := va_join (wr := [(hm, .inr (11, [.ref vFo, .ref vSi, .ref vIt, .ref vMo, .int la, .ref vBy, .ref vTy, .int mi, .ref vMi, .int pn, .ref vPs, .int gn, .ref vGs, .int fn, .ref vFt, .int le, .ref vTo, .int kn, .int fe, .int en, .int ca, .int an, .int co, .ref vPr, .ref vSt, .ref vFn, .int sn, .ref vSg, .ref vAl, .int dr]))]) (w1 := []) hP hD [] [0] rfl rfl (by decide) (by decide) hk1 hFc hP1 hD1
  generalize H1 = H at hP hS ⊢
  have hP : va_P (dC, dI) vwCl [(hm, .inr (11, [.ref vFo, .ref vSi, .ref vIt, .ref vMo, .int la, .ref vBy, .ref vTy, .int mi, .ref vMi, .int pn, .ref vPs, .int gn, .ref vGs, .int fn, .ref vFt, .int le, .ref vTo, .int kn, .int fe, .int en, .int ca, .int an, .int co, .ref vPr, .ref vSt, .ref vFn, .int sn, .ref vSg, .ref vAl, .int dr]))] H := hP
  have hD : va_D A [(hm, .inr (11, [.ref vFo, .ref vSi, .ref vIt, .ref vMo, .int la, .ref vBy, .ref vTy, .int mi, .ref vMi, .int pn, .ref vPs, .int gn, .ref vGs, .int fn, .ref vFt, .int le, .ref vTo, .int kn, .int fe, .int en, .int ca, .int an, .int co, .ref vPr, .ref vSt, .ref vFn, .int sn, .ref vSg, .ref vAl, .int dr]))] := hD
  try dsimp only at hw
  by_cases c_2 : (0 : Int64) ≤ k1.toInt64 ∧ k1.toInt64 ≤ ((fn - 1).toInt64)
  · rw [if_pos c_2] at hw
    refine k_topi (v := 1) hw ?_
    have hP9 := hP.sub (ws' := [(hm, .inr (11, [.ref vFo, .ref vSi, .ref vIt, .ref vMo, .int la, .ref vBy, .ref vTy, .int mi, .ref vMi, .int pn, .ref vPs, .int gn, .ref vGs, .int fn, .ref vFt, .int le, .ref vTo, .int kn, .int fe, .int en, .int ca, .int an, .int co, .ref vPr, .ref vSt, .ref vFn, .int sn, .ref vSg, .ref vAl, .int dr]))]) [0] rfl
    have hD9 := hD.sub (ws' := [(hm, .inr (11, [.ref vFo, .ref vSi, .ref vIt, .ref vMo, .int la, .ref vBy, .ref vTy, .int mi, .ref vMi, .int pn, .ref vPs, .int gn, .ref vGs, .int fn, .ref vFt, .int le, .ref vTo, .int kn, .int fe, .int en, .int ca, .int an, .int co, .ref vPr, .ref vSt, .ref vFn, .int sn, .ref vSg, .ref vAl, .int dr]))]) [0] (by decide) rfl
    exact W.zret (v := 1) hx₀ hb hr (by decide +kernel) (fun t₀ ht hW => ⟨⟨1, (), rfl, (lf_g_isPassenger_1 fn k1 hh0 c_2), by rw [ht]; exact hP9, va_K.moved hW.alike hK, hD9⟩, hS.F ht⟩) hS.2.2 dX12_isFlight_13
  rw [if_neg c_2] at hw
  refine k_topi (v := 0) hw ?_
  have hP9 := hP.sub (ws' := [(hm, .inr (11, [.ref vFo, .ref vSi, .ref vIt, .ref vMo, .int la, .ref vBy, .ref vTy, .int mi, .ref vMi, .int pn, .ref vPs, .int gn, .ref vGs, .int fn, .ref vFt, .int le, .ref vTo, .int kn, .int fe, .int en, .int ca, .int an, .int co, .ref vPr, .ref vSt, .ref vFn, .int sn, .ref vSg, .ref vAl, .int dr]))]) [0] rfl
  have hD9 := hD.sub (ws' := [(hm, .inr (11, [.ref vFo, .ref vSi, .ref vIt, .ref vMo, .int la, .ref vBy, .ref vTy, .int mi, .ref vMi, .int pn, .ref vPs, .int gn, .ref vGs, .int fn, .ref vFt, .int le, .ref vTo, .int kn, .int fe, .int en, .int ca, .int an, .int co, .ref vPr, .ref vSt, .ref vFn, .int sn, .ref vSg, .ref vAl, .int dr]))]) [0] (by decide) rfl
  exact W.zret (v := 0) hx₀ hb hr (by decide +kernel) (fun t₀ ht hW => ⟨⟨0, (), rfl, (lf_g_isPassenger_2 fn k1 hh0 c_2), by rw [ht]; exact hP9, va_K.moved hW.alike hK, hD9⟩, hS.F ht⟩) hS.2.2 dX12_isFlight_13
