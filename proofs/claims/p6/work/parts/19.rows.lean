/-! rows of our own: the worlds' fixed classes, the contracts' form, calls -/
abbrev kT (cI cJ cQ : ClassId) : List (ClassId × FieldType) := [(cI, .int), (cJ, .long), (cQ, .object "BittenStick$Sheet")]
def kwW : MethodName := ⟨"BittenStick$Text", "worth", "(II)I"⟩
def kwT : MethodName := ⟨"BittenStick$Text", "thingsIn", "(I)I"⟩
/-- what links of nest mates and abstract methods the tables say -/
def kN (U : State) : Prop := va_Nw (.declares kwW) U ∧ va_Nw (.declares kwT) U ∧ va_Nw (.methodLinkNest RX10 11 yX3_init "BittenStick") U ∧ va_Nw (.methodLinkNest RX11 32 yX1_init "BittenStick") U ∧ va_Nw (.methodLinkNest RX11 48 yX0_init "BittenStick") U ∧ va_Nw (.methodLinkNest RX11 55 yX5_init "BittenStick") U ∧ va_Nw (.methodLinkNest RX11 62 yX6_init "BittenStick") U ∧ va_Nw (.methodLinkNest RX11 83 yX8_init "BittenStick") U ∧ va_AO "BittenStick$Sheet" U
theorem kN.warm {s U : State} (hW : s.WarmedH U.vm) (h : kN s) : kN U := ⟨va_Nw.warmD hW h.1, va_Nw.warmD hW h.2.1, va_Nw.warmM hW h.2.2.1, va_Nw.warmM hW h.2.2.2.1, va_Nw.warmM hW h.2.2.2.2.1, va_Nw.warmM hW h.2.2.2.2.2.1, va_Nw.warmM hW h.2.2.2.2.2.2.1, va_Nw.warmM hW h.2.2.2.2.2.2.2.1, va_AO.moved hW.alike h.2.2.2.2.2.2.2.2⟩
theorem kN.same {u U : State} (e : u.vm = U.vm) (h : kN u) : kN U := ⟨va_Nw.same rfl e h.1, va_Nw.same rfl e h.2.1, va_Nw.same rfl e h.2.2.1, va_Nw.same rfl e h.2.2.2.1, va_Nw.same rfl e h.2.2.2.2.1, va_Nw.same rfl e h.2.2.2.2.2.1, va_Nw.same rfl e h.2.2.2.2.2.2.1, va_Nw.same rfl e h.2.2.2.2.2.2.2.1, va_AO.moved (by rw [e]; exact Vm.Alike.refl U.vm) h.2.2.2.2.2.2.2.2⟩
/-- a contract's start: the arguments, the cells -/
abbrev kPre (dC : Nat → ClassId) (dI : Nat → Nat → Nat) (cI cJ cQ : ClassId) (sz : Nat) (av : List Value) (ws : va_W) : Array Value → State → Prop := va_Pc av (fun U => U.heap.size = sz ∧ va_P (dC, dI) vwCl ws U.heap ∧ va_K (dC, dI) vwCl (kT cI cJ cQ) U ∧ va_D (fun _ => True) ws ∧ kN U)
/-- the cells behind it -/
abbrev kB (dC : Nat → ClassId) (dI : Nat → Nat → Nat) (cI cJ cQ : ClassId) (A : Nat → Prop) (ws : va_W) (t : State) : Prop := va_P (dC, dI) vwCl ws t.heap ∧ va_K (dC, dI) vwCl (kT cI cJ cQ) t ∧ va_D A ws
theorem k_nilP {D : va_G} {cl : List vw_C} (H : Heap) : va_P D cl [] H := fun k q h => by simp at h
theorem k_nilD (A : Nat → Prop) : va_D A [] := ⟨fun i j p q h => by simp at h, fun k q h => by simp at h⟩
theorem k_blind {dC : Nat → ClassId} {dI : Nat → Nat → Nat} {cI cJ cQ : ClassId} {sz : Nat} {av : List Value} {ws : va_W} : FrameBlind (kPre dC dI cI cJ cQ sz av ws) := fun a U g mk q => by
  obtain ⟨q0, q1, qP, qK, qD, qN⟩ := q
  exact ⟨q0, q1, qP, va_K.moved (u := U) (U := U.calling g mk a) (Vm.Alike.refl U.vm) qK, qD, kN.same (u := U) (U := U.calling g mk a) rfl qN⟩
theorem k_preS {dC : Nat → ClassId} {dI : Nat → Nat → Nat} {cI cJ cQ : ClassId} {s : State} {H : Heap} {A : Nat → Prop} {As : List Value} {ws : va_W} (hK : va_K (dC, dI) vwCl (kT cI cJ cQ) s) (hP : va_P (dC, dI) vwCl ws H) (hD : va_D A ws) (hN : kN s) : PreS s H (kPre dC dI cI cJ cQ H.size As ws) As :=
  ⟨k_blind, fun U hU hW => ⟨rfl, by rw [hU], by rw [hU]; exact hP, va_K.moved hW.alike hK, hD.weaken (fun _ _ _ _ => trivial), kN.warm hW hN⟩⟩
theorem k_preV {dC : Nat → ClassId} {dI : Nat → Nat → Nat} {cI cJ cQ : ClassId} {s : State} {H : Heap} {A : Nat → Prop} {b : Nat} {As : List Value} {ws : va_W} {ci q0 : Nat} {q : vw_C} {fs : List Value} (hK : va_K (dC, dI) vwCl (kT cI cJ cQ) s) (hP : va_P (dC, dI) vwCl ws H) (hD : va_D A ws) (hN : kN s) (hc : vwCl[ci]? = some q) (he : ws[q0]? = some (b, .inr (ci, fs))) : PreV s H q.1 b (kPre dC dI cI cJ cQ H.size (.ref b :: As) ws) As :=
  ⟨k_blind, va_recv hK hP hc he, fun U hU hW => ⟨rfl, by rw [hU], by rw [hU]; exact hP, va_K.moved hW.alike hK, hD.weaken (fun _ _ _ _ => trivial), kN.warm hW hN⟩⟩
section KR
variable {p : Program} {l : Launch} {e : Env} {R : Room} {s : State} {m : MethodId} {args : Array Value} {below : List Frame} {meth : Method} {c : Code} {H : Heap} {locs : List Loc} {cells slots : Nat} {Q : State → Prop}
variable {cc : ByteArray} {pc : Nat} {ls : Array Slot} {rest : List Value} {D : va_G} {cl : List vw_C} {ws : va_W} {A : Nat → Prop} {H0 : Heap} {cI cJ cQ : ClassId}
theorem k_topi {x v : Int32} (h : x = v) (k : W p l e R s m args below meth c H locs cells slots Q (F0 m pc ls (.int v :: rest))) : W p l e R s m args below meth c H locs cells slots Q (F0 m pc ls (.int x :: rest)) := by rw [h]; exact k
theorem k_topl {x v : Int64} (h : x = v) (k : W p l e R s m args below meth c H locs cells slots Q (F0 m pc ls (.long v :: rest))) : W p l e R s m args below meth c H locs cells slots Q (F0 m pc ls (.long x :: rest)) := by rw [h]; exact k
theorem k_heap {g : JFrame} (h : H = s.heap) (k : W p l e R s m args below meth c H locs cells slots Q g) : W p l e R s m args below meth c s.heap locs cells slots Q g := h ▸ k
/-- a new array of ints: its class is the known one -/
theorem k_newaI (hexec : p.tables.exec = Jvm.exec) (hb : c.code = cc) (harr : (Cond.arrayClass .int).before args s = true) (hK : va_K D cl (kT cI cJ cQ) s) (hP : va_P D cl ws H) (hD : va_D A ws) (hS : va_S A H0 H locs) (hA : ∀ q, H0.size ≤ q → A q)
    {n : Int32} {N' : Nat} (hn : ¬ n < 0) (hN : n.toNatClampNeg = N') (hbytes : N' * componentBytes .int ≤ 536870912) (hcells : cells + 1 ≤ R.cells) (hslots : slots + N' ≤ R.slots) (hdg : decode cc pc = .ok (.newarray .int, 2))
    (kk : ∀ (q : Nat) (H1 : Heap), va_P D cl (ws ++ [(q, .inl (cI, N', .inl (fun _ => 0)))]) H1 → va_D A (ws ++ [(q, .inl (cI, N', .inl (fun _ => 0)))]) → va_S A H0 H1 locs →
      W p l e R s m args below meth c H1 locs (cells + 1) (slots + N') Q (F0 m (pc + 2) ls (.ref q :: rest))) : W p l e R s m args below meth c H locs cells slots Q (F0 m pc ls (.int n :: rest)) := by
  refine va_newa (atype := .int) (ty := .int) (a0 := (N', .inl (fun _ => 0))) hexec hb harr rfl hK hP hD hS hA (fun _ => rfl) hn hN hbytes hcells hslots hdg (fun q cA H1 hK1 hP1 hD1 hS1 => ?_)
  have e1 : s.vm.findClass ("[" ++ FieldType.int.toString) = some cA := (hK1.2 3 (cA, .int) rfl).2
  have e2 : s.vm.findClass ("[" ++ FieldType.int.toString) = some cI := (hK.2 0 (cI, .int) rfl).2
  cases e1.symm.trans e2
  exact kk q H1 hP1 hD1 hS1
theorem k_newaJ (hexec : p.tables.exec = Jvm.exec) (hb : c.code = cc) (harr : (Cond.arrayClass .long).before args s = true) (hK : va_K D cl (kT cI cJ cQ) s) (hP : va_P D cl ws H) (hD : va_D A ws) (hS : va_S A H0 H locs) (hA : ∀ q, H0.size ≤ q → A q)
    {n : Int32} {N' : Nat} (hn : ¬ n < 0) (hN : n.toNatClampNeg = N') (hbytes : N' * componentBytes .long ≤ 536870912) (hcells : cells + 1 ≤ R.cells) (hslots : slots + N' ≤ R.slots) (hdg : decode cc pc = .ok (.newarray .long, 2))
    (kk : ∀ (q : Nat) (H1 : Heap), va_P D cl (ws ++ [(q, .inl (cJ, N', .inr (.inl (fun _ => 0))))]) H1 → va_D A (ws ++ [(q, .inl (cJ, N', .inr (.inl (fun _ => 0))))]) → va_S A H0 H1 locs →
      W p l e R s m args below meth c H1 locs (cells + 1) (slots + N') Q (F0 m (pc + 2) ls (.ref q :: rest))) : W p l e R s m args below meth c H locs cells slots Q (F0 m pc ls (.int n :: rest)) := by
  refine va_newa (atype := .long) (ty := .long) (a0 := (N', .inr (.inl (fun _ => 0)))) hexec hb harr rfl hK hP hD hS hA (fun _ => rfl) hn hN hbytes hcells hslots hdg (fun q cA H1 hK1 hP1 hD1 hS1 => ?_)
  have e1 : s.vm.findClass ("[" ++ FieldType.long.toString) = some cA := (hK1.2 3 (cA, .long) rfl).2
  have e2 : s.vm.findClass ("[" ++ FieldType.long.toString) = some cJ := (hK.2 1 (cJ, .long) rfl).2
  cases e1.symm.trans e2
  exact kk q H1 hP1 hD1 hS1
theorem k_newq (hexec : p.tables.exec = Jvm.exec) (hb : c.code = cc) {own : String} {index : Nat} (hown : s.vm.findClass own = some m.cls) (hclink : (Cond.classLink own index "BittenStick$Sheet").before args s = true) (hover : va_AO "BittenStick$Sheet" s) (hK : va_K D cl (kT cI cJ cQ) s) (hP : va_P D cl ws H) (hD : va_D A ws) (hS : va_S A H0 H locs) (hA : ∀ q, H0.size ≤ q → A q)
    {n : Int32} {N' : Nat} (hn : ¬ n < 0) (hN : n.toNatClampNeg = N') (hbytes : N' * 4 ≤ 536870912) (hcells : cells + 1 ≤ R.cells) (hslots : slots + N' ≤ R.slots) (hdg : decode cc pc = .ok (.anewarray index, 3))
    (kk : ∀ (q : Nat) (H1 : Heap), va_P D cl (ws ++ [(q, .inl (cQ, N', .inr (.inr (.inr (.inr (fun _ => none))))))]) H1 → va_D A (ws ++ [(q, .inl (cQ, N', .inr (.inr (.inr (.inr (fun _ => none))))))]) → va_S A H0 H1 locs →
      W p l e R s m args below meth c H1 locs (cells + 1) (slots + N') Q (F0 m (pc + 3) ls (.ref q :: rest))) : W p l e R s m args below meth c H locs cells slots Q (F0 m pc ls (.int n :: rest)) := by
  refine va_newq hexec hb hown hclink hover hK hP hD hS hA hn hN hbytes hcells hslots hdg (fun q cA H1 hK1 hP1 hD1 hS1 => ?_)
  obtain ⟨_, _, _, _, _, e1⟩ := (hK1.2 3 (cA, .object "BittenStick$Sheet") rfl).2
  obtain ⟨_, _, _, _, _, e2⟩ := (hK.2 2 (cQ, .object "BittenStick$Sheet") rfl).2
  cases e1.symm.trans e2
  exact kk q H1 hP1 hD1 hS1
end KR
theorem k_out3 {x : Int32} (h0 : ¬ x = 0) (h1 : ¬ x = 1) (h2 : ¬ x = 2) : x.toInt < 0 ∨ 2 < x.toInt := by
  have a0 := lv_neT (a := 0) h0 rfl
  have a1 := lv_neT (a := 1) h1 rfl
  have a2 := lv_neT (a := 2) h2 rfl
  omega
theorem k_out9 {x : Int32} (h0 : ¬ x = 0) (h1 : ¬ x = 1) (h2 : ¬ x = 2) (h3 : ¬ x = 3) (h4 : ¬ x = 4) (h5 : ¬ x = 5) (h6 : ¬ x = 6) (h7 : ¬ x = 7) (h8 : ¬ x = 8) : x.toInt < 0 ∨ 8 < x.toInt := by
  have a0 := lv_neT (a := 0) h0 rfl
  have a1 := lv_neT (a := 1) h1 rfl
  have a2 := lv_neT (a := 2) h2 rfl
  have a3 := lv_neT (a := 3) h3 rfl
  have a4 := lv_neT (a := 4) h4 rfl
  have a5 := lv_neT (a := 5) h5 rfl
  have a6 := lv_neT (a := 6) h6 rfl
  have a7 := lv_neT (a := 7) h7 rfl
  have a8 := lv_neT (a := 8) h8 rfl
  omega
theorem k_cmp_cases (x y : Int64) : (lg_cmp x y = 1 ∧ y.toInt < x.toInt) ∨ (lg_cmp x y = 0 ∧ x.toInt = y.toInt) ∨ (lg_cmp x y = -1 ∧ x.toInt < y.toInt) := by
  unfold lg_cmp
  by_cases h : x > y
  · exact Or.inl ⟨if_pos h, Int64.lt_iff_toInt_lt.mp h⟩
  · have h' : ¬ y.toInt < x.toInt := fun q => h (Int64.lt_iff_toInt_lt.mpr q)
    by_cases h2 : x = y
    · exact Or.inr (Or.inl ⟨by rw [if_neg h, if_pos h2], by rw [h2]⟩)
    · have h3 : ¬ x.toInt = y.toInt := fun q => h2 (Int64.toInt_inj.mp q)
      exact Or.inr (Or.inr ⟨by rw [if_neg h, if_neg h2], by omega⟩)
theorem k_clt {x y : Int64} : lg_cmp x y < 0 ↔ x < y := by
  rw [Int64.lt_iff_toInt_lt]
  rcases k_cmp_cases x y with ⟨e, h⟩ | ⟨e, h⟩ | ⟨e, h⟩
  · rw [e]; exact ⟨fun q => absurd q (by decide), fun q => absurd q (by omega)⟩
  · rw [e]; exact ⟨fun q => absurd q (by decide), fun q => absurd q (by omega)⟩
  · rw [e]; exact ⟨fun _ => h, fun _ => by decide⟩
theorem k_cgt {x y : Int64} : 0 < lg_cmp x y ↔ y < x := by
  rw [Int64.lt_iff_toInt_lt]
  rcases k_cmp_cases x y with ⟨e, h⟩ | ⟨e, h⟩ | ⟨e, h⟩
  · rw [e]; exact ⟨fun _ => h, fun _ => by decide⟩
  · rw [e]; exact ⟨fun q => absurd q (by decide), fun q => absurd q (by omega)⟩
  · rw [e]; exact ⟨fun q => absurd q (by decide), fun q => absurd q (by omega)⟩
theorem k_ceq {x y : Int64} : lg_cmp x y = 0 ↔ x = y := by
  rw [← Int64.toInt_inj]
  rcases k_cmp_cases x y with ⟨e, h⟩ | ⟨e, h⟩ | ⟨e, h⟩
  · rw [e]; exact ⟨fun q => absurd q (by decide), fun q => absurd q (by omega)⟩
  · rw [e]; exact ⟨fun _ => h, fun _ => rfl⟩
  · rw [e]; exact ⟨fun q => absurd q (by decide), fun q => absurd q (by omega)⟩
def fSh (a b c d : Nat) : Nat → Option Nat := va_up (va_up (va_up (va_up (fun _ => none) (0 : Int32).toNatClampNeg (some a)) (1 : Int32).toNatClampNeg (some b)) (2 : Int32).toNatClampNeg (some c)) (3 : Int32).toNatClampNeg (some d)
theorem fSh_0 (a b c d : Nat) : fSh a b c d (0 : Int32).toNatClampNeg = some a := rfl
theorem fSh_1 (a b c d : Nat) : fSh a b c d (1 : Int32).toNatClampNeg = some b := rfl
theorem fSh_2 (a b c d : Nat) : fSh a b c d (2 : Int32).toNatClampNeg = some c := rfl
theorem fSh_3 (a b c d : Nat) : fSh a b c d (3 : Int32).toNatClampNeg = some d := rfl
def fFo : Nat → Int32 := upd (upd (upd (upd (fun _ => 0) (0 : Int32).toNatClampNeg (-1)) (1 : Int32).toNatClampNeg (-1)) (2 : Int32).toNatClampNeg (-1)) (3 : Int32).toNatClampNeg (-1)
theorem fFo_lt : ∀ k, k < 4 → fFo k = -1 := by decide +kernel
theorem fFo_at {s : Int32} (h : 0 ≤ s ∧ s ≤ 3) : fFo s.toNatClampNeg = -1 := by
  have h0 : ¬ s < 0 := Int32.not_lt.mpr h.1
  obtain ⟨j, hj, rfl⟩ := nI_of2 (n := 3) (M := 3) (by decide) h0 h.2
  rw [nI_clamp (by omega)]
  exact fFo_lt j (by omega)
theorem k_in3 {s : Int32} (h : 0 ≤ s ∧ s ≤ 3) : vp_in s 4 := by
  have h0 : ¬ s < 0 := Int32.not_lt.mpr h.1
  obtain ⟨j, hj, rfl⟩ := nI_of2 (n := 3) (M := 3) (by decide) h0 h.2
  exact vp_in_nI (by omega) (by omega)
theorem k_in2 {s : Int32} (h : 0 ≤ s ∧ s ≤ 2) : vp_in s 3 := by
  have h0 : ¬ s < 0 := Int32.not_lt.mpr h.1
  obtain ⟨j, hj, rfl⟩ := nI_of2 (n := 2) (M := 2) (by decide) h0 h.2
  exact vp_in_nI (by omega) (by omega)
theorem k_in40 {s : Int32} (h : 0 ≤ s ∧ s ≤ 2) : vp_in (40 * s + 0) 120 := by
  have h0 : ¬ s < 0 := Int32.not_lt.mpr h.1
  obtain ⟨j, hj, rfl⟩ := nI_of2 (n := 2) (M := 2) (by decide) h0 h.2
  have e : (40 * nI j + 0 : Int32) = nI (40 * j) := by
    rw [show (40 : Int32) = nI 40 from rfl, show (0 : Int32) = nI 0 from rfl, pk_mul, nI_add, Nat.add_zero]
  rw [e]
  exact vp_in_nI (by omega) (by omega)
/-- a place of a sheet's item among all items -/
theorem k_in60 {s n : Int32} {k : Nat} (h : 0 ≤ s ∧ s ≤ 3) (hn : n ≤ 60) (hk : k < n.toInt.toNat) : vp_in (60 * s + nI k) 240 := by
  have h0 : ¬ s < 0 := Int32.not_lt.mpr h.1
  obtain ⟨j, hj, rfl⟩ := nI_of2 (n := 3) (M := 3) (by decide) h0 h.2
  have hn2 : n.toInt ≤ 60 := by have := Int32.le_iff_toInt_le.mp hn; simpa using this
  rw [show (60 : Int32) = nI 60 from rfl, pk_mul, nI_add]
  exact vp_in_nI (by omega) (by omega)
theorem k_ltN {k n : Nat} {x : Int32} (hx : x = nI n) (hk : k < 2 ^ 31) (hn : n < 2 ^ 31) (h : ¬ x ≤ nI k) : k < n := by
  rw [hx] at h
  rcases Nat.lt_or_ge k n with q | q
  · exact q
  · exact absurd (nI_le q hk) h
theorem k_ltT {k : Nat} {n : Int32} (hk : k < 2 ^ 31) (h : ¬ n ≤ nI k) : k < n.toInt.toNat := by
  have h1 : ¬ n.toInt ≤ (nI k).toInt := fun q => h (Int32.le_iff_toInt_le.mpr q)
  rw [nI_toInt hk] at h1
  omega
theorem k_le60 {n : Int32} (h : n ≤ 60) : n.toInt ≤ 60 := by
  have := Int32.le_iff_toInt_le.mp h
  simpa using this
abbrev kS : Type := (Nat → Int32) × (Nat → Nat → Int32) × (Nat → Int64) × (Nat → Nat → Int64) × (Nat → Nat)
def k_fn (l : List Int32) : Nat → Int32 := fun i => l.getD i 0
def k_fa (l : List (Nat → Int32)) : Nat → Nat → Int32 := fun i => l.getD i (fun _ => 0)
def k_fl (l : List Int64) : Nat → Int64 := fun i => l.getD i 0
def k_fL (l : List (Nat → Int64)) : Nat → Nat → Int64 := fun i => l.getD i (fun _ => 0)
def k_fp (l : List Nat) : Nat → Nat := fun i => l.getD i 0
def k_bd (n : Nat) (lo hi : Int) (f : Nat → Int32) : Prop := ∀ k, k < n → lo ≤ (f k).toInt ∧ (f k).toInt ≤ hi
theorem k_bd_at {n : Nat} {lo hi : Int} {f : Nat → Int32} (h : k_bd n lo hi f) {i : Int32} (hv : vp_in i n) : lo ≤ (f i.toNatClampNeg).toInt ∧ (f i.toNatClampNeg).toInt ≤ hi := h _ (by
  unfold vp_in at hv
  omega)
theorem k_bd_upd {n : Nat} {lo hi : Int} {f : Nat → Int32} (h : k_bd n lo hi f) {k : Nat} {x : Int32} (hx : lo ≤ x.toInt ∧ x.toInt ≤ hi) : k_bd n lo hi (upd f k x) := fun j hj => by
  by_cases e : j = k
  · subst e; rw [pk_us]; exact hx
  · rw [pk_un e]; exact h j hj
def kshl (n : Int32) : Int32 := 1 <<< (n &&& 31)
def klsh (n : Int32) : Int64 := 1 <<< ((4 * n).toInt64 &&& 63)
def kpop (x : Int32) : Nat := x.toBitVec.toNat
theorem k_kshl {n : Int32} (h : 0 ≤ n ∧ n ≤ 10) : 1 ≤ kshl n ∧ kshl n ≤ 1024 := by
  have h0 : ¬ n < 0 := Int32.not_lt.mpr h.1
  obtain ⟨j, hj, rfl⟩ := nI_of2 (n := 10) (M := 10) (by decide) h0 h.2
  have : ∀ k, k < 11 → 1 ≤ kshl (nI k) ∧ kshl (nI k) ≤ 1024 := by decide +kernel
  exact this j (by omega)
theorem k_klsh {n : Int32} (h : 0 ≤ n ∧ n ≤ 10) : ¬ klsh n = 0 := by
  have h0 : ¬ n < 0 := Int32.not_lt.mpr h.1
  obtain ⟨j, hj, rfl⟩ := nI_of2 (n := 10) (M := 10) (by decide) h0 h.2
  have : ∀ k, k < 11 → ¬ klsh (nI k) = 0 := by decide +kernel
  exact this j (by omega)
theorem k_pop_lt {x : Int32} {j : Nat} (hj : kpop x = j) (h : ¬ x = 0) : kpop (x &&& (x - 1)) < j := by
  subst hj
  unfold kpop
  have h1 : (x &&& (x - 1)).toBitVec.toNat ≤ (x - 1).toBitVec.toNat := by
    rw [Int32.toBitVec_and, BitVec.toNat_and]
    exact Nat.and_le_right
  have h2 : ¬ x.toBitVec.toNat = 0 := fun q => h (Int32.toBitVec_inj.mp (BitVec.eq_of_toNat_eq (by rw [q]; rfl)))
  have h3 : (x - 1).toBitVec.toNat = x.toBitVec.toNat - 1 := by
    rw [Int32.toBitVec_sub, BitVec.toNat_sub]
    have : (1 : Int32).toBitVec.toNat = 1 := rfl
    have h4 := x.toBitVec.isLt
    omega
  omega
theorem k_rem_lt {a b : Int64} {j : Nat} (hj : b.toInt.natAbs = j) (h : ¬ b = 0) : (a - a / b * b).toInt.natAbs < j := by
  subst hj
  have hb : b.toInt ≠ 0 := fun q => h (Int64.toInt_inj.mp (by rw [q]; rfl))
  have e : (a - a / b * b).toInt = a.toInt.tmod b.toInt := by
    have h1 := Int64.le_toInt b
    have h2 := Int64.toInt_lt b
    have h3 : (a.toInt.tmod b.toInt).natAbs < b.toInt.natAbs := by
      rw [Int.natAbs_tmod]
      exact Nat.mod_lt _ (by omega)
    rw [Int64.toInt_sub, Int64.toInt_mul, Int64.toInt_div, Int.bmod_mul_bmod, Int.sub_bmod_bmod]
    have h4 : a.toInt - a.toInt.tdiv b.toInt * b.toInt = a.toInt.tmod b.toInt := by rw [Int.tmod_def, Int.mul_comm]
    rw [h4]
    generalize a.toInt.tmod b.toInt = t at h3 ⊢
    simp only [Int.bmod]
    omega
  rw [e, Int.natAbs_tmod]
  exact Nat.mod_lt _ (by omega)
theorem k_out5 {x : Int32} (h0 : ¬ x = 0) (h1 : ¬ x = 1) (h2 : ¬ x = 2) (h3 : ¬ x = 3) (h4 : ¬ x = 4) : x.toInt < 0 ∨ 4 < x.toInt := by
  have a0 := lv_neT (a := 0) h0 rfl
  have a1 := lv_neT (a := 1) h1 rfl
  have a2 := lv_neT (a := 2) h2 rfl
  have a3 := lv_neT (a := 3) h3 rfl
  have a4 := lv_neT (a := 4) h4 rfl
  omega
theorem k_bm {x : Int} (h1 : -2147483648 ≤ x) (h2 : x ≤ 2147483647) : x.bmod (2 ^ 32) = x := by
  simp only [Int.bmod]
  omega
theorem k_bm64 {x : Int} (h1 : -9223372036854775808 ≤ x) (h2 : x ≤ 9223372036854775807) : x.bmod (2 ^ 64) = x := by
  simp only [Int.bmod]
  omega
theorem k_cle {x y : Int64} : lg_cmp x y ≤ 0 ↔ ¬ y < x := by
  rw [Int64.lt_iff_toInt_lt]
  rcases k_cmp_cases x y with ⟨e, h⟩ | ⟨e, h⟩ | ⟨e, h⟩
  · rw [e]; exact ⟨fun q => absurd q (by decide), fun q => absurd h q⟩
  · rw [e]; exact ⟨fun _ => by omega, fun _ => by decide⟩
  · rw [e]; exact ⟨fun _ => by omega, fun _ => by decide⟩
theorem k_cge {x y : Int64} : 0 ≤ lg_cmp x y ↔ ¬ x < y := by
  rw [Int64.lt_iff_toInt_lt]
  rcases k_cmp_cases x y with ⟨e, h⟩ | ⟨e, h⟩ | ⟨e, h⟩
  · rw [e]; exact ⟨fun _ => by omega, fun _ => by decide⟩
  · rw [e]; exact ⟨fun _ => by omega, fun _ => by decide⟩
  · rw [e]; exact ⟨fun q => absurd q (by decide), fun q => absurd h q⟩
theorem k_nar01 {x : Int32} (h : x = 0 ∨ x = 1) : narrow .boolean (.int x) = .int x := by
  rcases h with h | h
  · rw [h]; decide +kernel
  · rw [h]; decide +kernel
/-- the latest finding behind an answer -/
def kFd (r x : Int32) : Int32 := if r < -10 then -10 - r else x
theorem kFd_ge {r x : Int32} (h : ¬ r < -10) : kFd r x = x := if_neg h
theorem kFd_11 {x : Int32} : kFd (-11) x = 1 := by unfold kFd; rw [if_pos (by decide)]; decide
theorem kFd_12 {x : Int32} : kFd (-12) x = 2 := by unfold kFd; rw [if_pos (by decide)]; decide
theorem kFd_13 {x : Int32} : kFd (-13) x = 3 := by unfold kFd; rw [if_pos (by decide)]; decide
theorem kFd_14 {x : Int32} : kFd (-14) x = 4 := by unfold kFd; rw [if_pos (by decide)]; decide
theorem kFd_15 {x : Int32} : kFd (-15) x = 5 := by unfold kFd; rw [if_pos (by decide)]; decide
/-! texts: what each byte is worth at its place, the first that is worth nothing -/
def wCall (b : Int32) : Int32 := if 97 ≤ b ∧ b ≤ 102 then b - 97 else -1
def wFig (lo b : Int32) : Int32 := if lo ≤ b ∧ b ≤ 57 then b - 48 else -1
def wL (b : Int32) : Int32 := if b = 111 then 6 else if b = 105 then 7 else if b = 119 then 8 else wCall b
def wK (b : Int32) : Int32 := if b = 116 then 0 else if b = 100 then 1 else if b = 112 then 2 else if b = 115 then 3 else -1
def wS (b : Int32) : Int32 := if b = 59 then 0 else -1
def wP (k b : Int32) : Int32 := if k = 0 then wK b else if k = 1 then wCall b else if k = 4 then wS b else wFig 49 b
def wG (k b : Int32) : Int32 := if k = 0 then wFig 49 b else if k = 1 then wFig 48 b else wS b
def kTh7 (n : Int32) : Int32 := if n = 0 then 0 else if n - n / 5 * 5 = 4 then (n + 1) / 5 else -1
def kTh2 (n : Int32) : Int32 := if n = 0 then 0 else if n - n / 3 * 3 = 2 then (n + 1) / 3 else -1
def kBad (f : Nat → Int32) : Nat → Nat → Int32
  | 0, _ => -1
  | k + 1, i => if f i = -1 then nI i else kBad f k (i + 1)
def kFt (th n : Int32) (f : Nat → Int32) : Int32 := if kBad f n.toNatClampNeg 0 = -1 then (if th = -1 then n else -1) else kBad f n.toNatClampNeg 0
def kNm (th n : Int32) (f : Nat → Int32) : Int32 := if kFt th n f = -1 then th else 0
def kv4 (f : Nat → Int32) : Nat → Int32 := fun i => wL (f i)
def kv7 (f : Nat → Int32) : Nat → Int32 := fun i => wP (nI i - nI i / 5 * 5) (f (40 + i))
def kv2 (f : Nat → Int32) : Nat → Int32 := fun i => wG (nI i - nI i / 3 * 3) (f (80 + i))
theorem k_nat {x : Int32} (h : 0 ≤ x) : ∃ j : Nat, j < 2 ^ 31 ∧ x = nI j := nI_of (Int32.not_lt.mpr h)
theorem kBad_le (f : Nat → Int32) : ∀ (m j : Nat), (∀ i, j ≤ i → i < j + m → ¬ f i = -1) → kBad f m j = -1
  | 0, _, _ => rfl
  | m + 1, j, h => by
    rw [kBad, if_neg (h j (Nat.le_refl j) (by omega))]
    exact kBad_le f m (j + 1) (fun i h1 h2 => h i (by omega) (by omega))
theorem kBad_hit (f : Nat → Int32) : ∀ (m j i : Nat), j ≤ i → i < j + m → (∀ q, j ≤ q → q < i → ¬ f q = -1) → f i = -1 → kBad f m j = nI i
  | 0, j, i, h1, h2, _, _ => absurd h2 (by omega)
  | m + 1, j, i, h1, h2, h3, h4 => by
    rw [kBad]
    rcases Nat.lt_or_ge j i with q | q
    · rw [if_neg (h3 j (Nat.le_refl j) q)]
      exact kBad_hit f m (j + 1) i q (by omega) (fun z z1 z2 => h3 z (by omega) z2) h4
    · have e : j = i := by omega
      rw [e, if_pos h4]
theorem kBad_congr {f g : Nat → Int32} : ∀ (m j : Nat), (∀ i, j ≤ i → i < j + m → f i = g i) → kBad f m j = kBad g m j
  | 0, _, _ => rfl
  | m + 1, j, h => by
    rw [kBad, kBad, h j (Nat.le_refl j) (by omega), kBad_congr m (j + 1) (fun i h1 h2 => h i (by omega) (by omega))]
/-- none of the first bytes is bad -/
def k_nb (f : Nat → Int32) (i : Int32) : Prop := ∀ j, j < i.toNatClampNeg → ¬ f j = -1
theorem k_nb_0 {f : Nat → Int32} : k_nb f 0 := fun j h => absurd h (by rw [show (0 : Int32).toNatClampNeg = 0 from rfl]; omega)
theorem k_nb_s {f : Nat → Int32} {i m : Int32} (h0 : 0 ≤ i ∧ i.toInt ≤ m.toInt) (h1 : ¬ m ≤ i) (h : k_nb f i) (hv : ¬ f i.toNatClampNeg = -1) : k_nb f (i + 1) := by
  obtain ⟨a, ha, rfl⟩ := k_nat h0.1
  have hm := Int32.toInt_lt m
  have h2 : ¬ m.toInt ≤ (nI a).toInt := fun q => h1 (Int32.le_iff_toInt_le.mpr q)
  rw [nI_toInt ha] at h2
  intro j hj
  rw [nI_1, nI_clamp (by omega)] at hj
  rcases Nat.lt_or_ge j a with q | q
  · exact h j (by rw [nI_clamp ha]; exact q)
  · rw [nI_clamp ha] at hv
    rw [show j = a by omega]
    exact hv
theorem k_nI_ne {a : Nat} (h : a < 2 ^ 31) : ¬ nI a = -1 := fun q => by
  have := nI_toInt h
  rw [q] at this
  exact absurd this (by rw [show (-1 : Int32).toInt = -1 from rfl]; omega)
/-- the first bad one is here -/
theorem k_ft_bad {f : Nat → Int32} {i m th : Int32} (h0 : 0 ≤ i) (h1 : ¬ m ≤ i) (hm : 0 ≤ m) (h : k_nb f i) (hv : f i.toNatClampNeg = -1) : i = kFt th m f ∧ 0 = kNm th m f := by
  obtain ⟨a, ha, rfl⟩ := k_nat h0
  obtain ⟨n, hn, rfl⟩ := k_nat hm
  have h2 : a < n := by
    rcases Nat.lt_or_ge a n with q | q
    · exact q
    · exact absurd (nI_le q ha) h1
  rw [nI_clamp ha] at hv
  have e : kBad f (nI n).toNatClampNeg 0 = nI a := by
    rw [nI_clamp hn]
    exact kBad_hit f n 0 a (Nat.zero_le a) (by omega) (fun q _ hq => h q (by rw [nI_clamp ha]; exact hq)) hv
  have e2 : kFt th (nI n) f = nI a := by
    unfold kFt
    rw [e, if_neg (k_nI_ne ha)]
  refine ⟨e2.symm, ?_⟩
  unfold kNm
  rw [e2, if_neg (k_nI_ne ha)]
/-- there is no bad one -/
theorem k_ft_good {f : Nat → Int32} {i m th : Int32} (h1 : m ≤ i) (hm : 0 ≤ m) (h : k_nb f i) : kFt th m f = (if th = -1 then m else -1) ∧ kNm th m f = (if th = -1 then 0 else th) := by
  obtain ⟨n, hn, rfl⟩ := k_nat hm
  obtain ⟨a, ha, rfl⟩ := k_nat (Int32.le_trans hm h1)
  have h2 : n ≤ a := (nI_leI hn ha).mp h1
  have e : kBad f (nI n).toNatClampNeg 0 = -1 := by
    rw [nI_clamp hn]
    exact kBad_le f n 0 (fun q _ hq => h q (by rw [nI_clamp ha]; omega))
  have e2 : kFt th (nI n) f = (if th = -1 then nI n else -1) := by
    unfold kFt
    rw [if_pos e]
  refine ⟨e2, ?_⟩
  unfold kNm
  rw [e2]
  by_cases c : th = -1
  · rw [if_pos c, if_pos c, if_neg (k_nI_ne hn)]
  · rw [if_neg c, if_neg c, if_pos rfl]
/-- the class's search: the fault that is known so far -/
def k_ra (f : Nat → Int32) (n i fa : Int32) : Prop := (fa = -1 ∧ k_nb f i) ∨ (¬ fa = -1 ∧ 0 ≤ fa ∧ ¬ n ≤ fa ∧ k_nb f fa ∧ f fa.toNatClampNeg = -1)
theorem k_ra_0 {f : Nat → Int32} {n : Int32} : k_ra f n 0 (-1) := Or.inl ⟨rfl, k_nb_0⟩
theorem k_ra_s {f : Nat → Int32} {n i fa : Int32} (h : k_ra f n i fa) (hf : fa = -1) (h0 : 0 ≤ i) (h1 : ¬ n ≤ i) (hv : ¬ f i.toNatClampNeg = -1) : k_ra f n (i + 1) fa := by
  rcases h with ⟨_, h⟩ | ⟨c, _⟩
  · have q : ¬ n.toInt ≤ i.toInt := fun q => h1 (Int32.le_iff_toInt_le.mpr q)
    exact Or.inl ⟨hf, k_nb_s ⟨h0, by omega⟩ h1 h hv⟩
  · exact absurd hf c
theorem k_ra_b {f : Nat → Int32} {n i fa : Int32} (h : k_ra f n i fa) (hf : fa = -1) (h0 : 0 ≤ i) (h1 : ¬ n ≤ i) (hv : f i.toNatClampNeg = -1) : k_ra f n (i + 1) i := by
  rcases h with ⟨_, h⟩ | ⟨c, _⟩
  · refine Or.inr ⟨fun q => ?_, h0, h1, h, hv⟩
    rw [q] at h0
    exact absurd h0 (by decide)
  · exact absurd hf c
theorem k_ra_C {f : Nat → Int32} {n i fa th : Int32} (h : k_ra f n i fa) (hf : ¬ fa = -1) (hn : 0 ≤ n) : fa = kFt th n f ∧ 0 = kNm th n f := by
  rcases h with ⟨c, _⟩ | ⟨_, h1, h2, h3, h4⟩
  · exact absurd c hf
  · exact k_ft_bad h1 h2 hn h3 h4
theorem k_ra_G {f : Nat → Int32} {n i fa th : Int32} (h : k_ra f n i fa) (hf : fa = -1) (hn : 0 ≤ n) (hi : n ≤ i) : kFt th n f = (if th = -1 then n else -1) ∧ kNm th n f = (if th = -1 then 0 else th) := by
  rcases h with ⟨_, h⟩ | ⟨c, _⟩
  · exact k_ft_good hi hn h
  · exact absurd hf c
theorem k_ra_A {f : Nat → Int32} {n i fa th : Int32} (h : k_ra f n i fa) (hf : fa = -1) (hn : 0 ≤ n) (hi : n ≤ i) (ht : th = -1) : n = kFt th n f ∧ 0 = kNm th n f := by
  have g := k_ra_G (th := th) h hf hn hi
  rw [if_pos ht, if_pos ht] at g
  exact ⟨g.1.symm, g.2.symm⟩
theorem k_ra_B {f : Nat → Int32} {n i fa th : Int32} (h : k_ra f n i fa) (hf : fa = -1) (hn : 0 ≤ n) (hi : n ≤ i) (ht : ¬ th = -1) : fa = kFt th n f ∧ th = kNm th n f := by
  have g := k_ra_G (th := th) h hf hn hi
  rw [if_neg ht, if_neg ht] at g
  exact ⟨hf.trans g.1.symm, g.2.symm⟩
/-- the first things that were read are as they are worth -/
def k_ml (n : Int32) (f g : Nat → Int32) : Prop := ∀ j, j < n.toNatClampNeg → f j = g j
theorem k_ml_0 {f g : Nat → Int32} : k_ml 0 f g := fun j h => absurd h (by rw [show (0 : Int32).toNatClampNeg = 0 from rfl]; omega)
theorem k_ml_s {f g : Nat → Int32} {i m r : Int32} (h0 : 0 ≤ i ∧ i.toInt ≤ m.toInt) (h1 : ¬ m ≤ i) (h : k_ml i f g) (hv : r = g i.toNatClampNeg) : k_ml (i + 1) (upd f i.toNatClampNeg r) g := by
  obtain ⟨a, ha, rfl⟩ := k_nat h0.1
  have hm := Int32.toInt_lt m
  have h2 : ¬ m.toInt ≤ (nI a).toInt := fun q => h1 (Int32.le_iff_toInt_le.mpr q)
  rw [nI_toInt ha] at h2
  intro j hj
  rw [nI_1, nI_clamp (by omega)] at hj
  rw [nI_clamp ha] at hv ⊢
  by_cases e : j = a
  · rw [e, pk_us, hv]
  · rw [pk_un e]
    exact h j (by rw [nI_clamp ha]; omega)
/-- of things with c bytes each, of which the first d are kept: what has been read of them -/
def k_mp (c d : Nat) (n : Int32) (f g : Nat → Int32) : Prop := ∀ j, j < n.toNatClampNeg → j % c < d → f (d * (j / c) + j % c) = g j
theorem k_mp_0 {c d : Nat} {f g : Nat → Int32} : k_mp c d 0 f g := fun j h => absurd h (by rw [show (0 : Int32).toNatClampNeg = 0 from rfl]; omega)
theorem k_mp_n {c d : Nat} {f g : Nat → Int32} {i m k : Int32} (h0 : 0 ≤ i ∧ i.toInt ≤ m.toInt) (h1 : ¬ m ≤ i) (hc : 0 < c) (hc2 : c < 2 ^ 31) (hd : d < 2 ^ 31) (hk : k = i - i / nI c * nI c) (h : k_mp c d i f g) (hv : nI d ≤ k) : k_mp c d (i + 1) f g := by
  obtain ⟨a, ha, rfl⟩ := k_nat h0.1
  have hm := Int32.toInt_lt m
  have h2 : ¬ m.toInt ≤ (nI a).toInt := fun q => h1 (Int32.le_iff_toInt_le.mpr q)
  rw [nI_toInt ha] at h2
  rw [hk, pk_rem ha hc hc2] at hv
  have h3 : d ≤ a % c := (nI_leI hd (by have := Nat.mod_le a c; omega)).mp hv
  intro j hj hq
  rw [nI_1, nI_clamp (by omega)] at hj
  rcases Nat.lt_or_ge j a with q | q
  · exact h j (by rw [nI_clamp ha]; exact q) hq
  · have e : j = a := by omega
    rw [e] at hq
    exact absurd hq (by omega)
theorem k_mp_k {c d : Nat} {f g : Nat → Int32} {i m k r : Int32} (h0 : 0 ≤ i ∧ i.toInt ≤ m.toInt) (h1 : ¬ m ≤ i) (hm1 : m.toInt ≤ 1000) (hc : 0 < c) (hc2 : c ≤ 5) (hdc : d ≤ c) (hk : k = i - i / nI c * nI c) (h : k_mp c d i f g) (hv : r = g i.toNatClampNeg) (hkd : ¬ nI d ≤ k) : k_mp c d (i + 1) (upd f (nI d * (i / nI c) + k).toNatClampNeg r) g := by
  obtain ⟨a, ha, rfl⟩ := k_nat h0.1
  have h2 : ¬ m.toInt ≤ (nI a).toInt := fun q => h1 (Int32.le_iff_toInt_le.mpr q)
  have h0' := h0.2
  rw [nI_toInt ha] at h2 h0'
  rw [hk, pk_rem ha hc (by omega)] at hkd ⊢
  have h3 : a % c < d := by
    rcases Nat.lt_or_ge (a % c) d with q | q
    · exact q
    · exact absurd (nI_le q (by have := Nat.mod_le a c; omega)) hkd
  have h4 : a / c ≤ a := Nat.div_le_self a c
  have h5 : d * (a / c) ≤ 5 * a := Nat.mul_le_mul (by omega) h4
  rw [pk_div ha hc (by omega), pk_mul, nI_add, nI_clamp (by omega)]
  rw [nI_clamp ha] at hv
  intro j hj hq
  rw [nI_1, nI_clamp (by omega)] at hj
  rcases Nat.lt_or_ge j a with q | q
  · have hne : d * (j / c) + j % c ≠ d * (a / c) + a % c := by
      intro e
      have e1 : j / c ≤ a / c := Nat.div_le_div_right (by omega)
      rcases Nat.lt_or_ge (j / c) (a / c) with z | z
      · have : d * (j / c + 1) ≤ d * (a / c) := Nat.mul_le_mul (Nat.le_refl d) z
        rw [Nat.mul_add] at this
        omega
      · have e2 : j / c = a / c := by omega
        rw [e2] at e
        have e3 : j % c = a % c := by omega
        have := Nat.div_add_mod j c
        have := Nat.div_add_mod a c
        rw [e2, e3] at *
        omega
    rw [pk_un hne]
    exact h j (by rw [nI_clamp ha]; exact q) hq
  · have e : j = a := by omega
    rw [e, pk_us, hv]
/-- what stands at a place of a text of the class -/
def kAt (n : Int32) (f : Nat → Int32) (k : Int32) : Int32 := if 0 ≤ k ∧ k < n then f k.toNatClampNeg else -1
theorem kAt_eq {n : Int32} {f : Nat → Int32} {k : Int32} (h : 0 ≤ k ∧ k < n) : kAt n f k = f k.toNatClampNeg := if_pos h
/-! the reference's reading of bytes: -9 where one is worth nothing -/
def k_D (r v : Int32) : Prop := (r = -9 ∧ v = -1) ∨ (¬ r = -9 ∧ ¬ r = -1 ∧ r = v)
theorem k_D_bad {v : Int32} (h : v = -1) : k_D (-9) v := Or.inl ⟨rfl, h⟩
theorem k_D_mk {r v : Int32} (h : r = v) (h1 : ¬ r = -9) (h2 : ¬ r = -1) : k_D r v := Or.inr ⟨h1, h2, h⟩
theorem k_D_ok {r v : Int32} (h : k_D r v) (c : ¬ r = -9) : r = v ∧ ¬ v = -1 := by
  rcases h with h | ⟨_, h1, h2⟩
  · exact absurd h.1 c
  · exact ⟨h2, fun q => h1 (h2.trans q)⟩
theorem k_D_no {r v : Int32} (h : k_D r v) (c : r = -9) : v = -1 := by
  rcases h with h | ⟨h, _, _⟩
  · exact h.2
  · exact absurd c h
theorem d_mile {b r : Int32} (h1 : ¬ b = 111) (h2 : ¬ b = 105) (h3 : ¬ b = 119) (h : k_D r (wCall b)) : k_D r (wL b) := by
  unfold wL
  rw [if_neg h1, if_neg h2, if_neg h3]
  exact h
theorem d_p1 {b r : Int32} (h : k_D r (wCall b)) : k_D r (wP 1 b) := by
  unfold wP
  rw [if_neg (by decide), if_pos rfl]
  exact h
theorem d_pf {k b r : Int32} (h0 : ¬ k = 0) (h1 : ¬ k = 1) (h4 : ¬ k = 4) (h : k_D r (wFig (48 + 1) b)) : k_D r (wP k b) := by
  unfold wP
  rw [if_neg h0, if_neg h1, if_neg h4]
  exact h
theorem d_g {k b r : Int32} (hk : 0 ≤ k ∧ k ≤ 2) (h2 : ¬ k = 2) (h : k_D r (wFig (48 + (1 - k)) b)) : k_D r (wG k b) := by
  have h0 : ¬ k < 0 := Int32.not_lt.mpr hk.1
  obtain ⟨j, hj, rfl⟩ := nI_of2 (n := 2) (M := 2) (by decide) h0 hk.2
  unfold wG
  match j, hj with
  | 0, _ => rw [if_pos (by decide)]; exact h
  | 1, _ => rw [if_neg (by decide), if_pos (by decide)]; exact h
  | 2, _ => exact absurd rfl h2
theorem kv7_at {f : Nat → Int32} {i : Int32} (h : 0 ≤ i ∧ i.toInt ≤ 100) : kv7 f i.toNatClampNeg = wP (i - i / 5 * 5) (f (40 + i).toNatClampNeg) := by
  obtain ⟨a, ha, rfl⟩ := k_nat h.1
  have h2 := h.2
  rw [nI_toInt ha] at h2
  unfold kv7
  rw [nI_clamp ha, show (40 : Int32) = nI 40 from rfl, nI_add, nI_clamp (by omega)]
theorem kv2_at {f : Nat → Int32} {i : Int32} (h : 0 ≤ i ∧ i.toInt ≤ 100) : kv2 f i.toNatClampNeg = wG (i - i / 3 * 3) (f (80 + i).toNatClampNeg) := by
  obtain ⟨a, ha, rfl⟩ := k_nat h.1
  have h2 := h.2
  rw [nI_toInt ha] at h2
  unfold kv2
  rw [nI_clamp ha, show (80 : Int32) = nI 80 from rfl, nI_add, nI_clamp (by omega)]
theorem k_th7 {n p : Int32} (h : 0 ≤ n ∧ n.toInt ≤ 100) (hr : n - n / 5 * 5 = 4) (hp : 5 * p.toInt ≤ n.toInt + 1 ∧ n.toInt + 1 < 5 * p.toInt + 5) : p = kTh7 n := by
  obtain ⟨a, ha, rfl⟩ := k_nat h.1
  have h2 := h.2
  rw [nI_toInt ha] at h2 hp
  rw [show (5 : Int32) = nI 5 from rfl, pk_rem ha (by decide) (by decide)] at hr
  have hr2 : a % 5 = 4 := (nI_eq (by omega) (by decide)).mp hr
  unfold kTh7
  rw [if_neg (nI_ne0 (by omega) ha), show (5 : Int32) = nI 5 from rfl, pk_rem ha (by decide) (by decide), if_pos (by rw [hr2]; rfl), nI_1, pk_div (by omega) (by decide) (by decide)]
  have e : p.toInt = ((a + 1) / 5 : Nat) := by omega
  exact Int32.toInt_inj.mp (by rw [e, nI_toInt (by omega)])
theorem k_th2 {n p : Int32} (h : 0 ≤ n ∧ n.toInt ≤ 100) (hr : n - n / 3 * 3 = 2) (hp : 3 * p.toInt ≤ n.toInt + 1 ∧ n.toInt + 1 < 3 * p.toInt + 3) : p = kTh2 n := by
  obtain ⟨a, ha, rfl⟩ := k_nat h.1
  have h2 := h.2
  rw [nI_toInt ha] at h2 hp
  rw [show (3 : Int32) = nI 3 from rfl, pk_rem ha (by decide) (by decide)] at hr
  have hr2 : a % 3 = 2 := (nI_eq (by omega) (by decide)).mp hr
  unfold kTh2
  rw [if_neg (nI_ne0 (by omega) ha), show (3 : Int32) = nI 3 from rfl, pk_rem ha (by decide) (by decide), if_pos (by rw [hr2]; rfl), nI_1, pk_div (by omega) (by decide) (by decide)]
  have e : p.toInt = ((a + 1) / 3 : Nat) := by omega
  exact Int32.toInt_inj.mp (by rw [e, nI_toInt (by omega)])
theorem k_ml_at {n : Int32} {f g : Nat → Int32} (h : k_ml n f g) {i : Int32} (hi : 0 ≤ i ∧ i < n) : f i.toNatClampNeg = g i.toNatClampNeg := by
  obtain ⟨a, ha, rfl⟩ := k_nat hi.1
  obtain ⟨m, hm, rfl⟩ := k_nat (Int32.le_of_lt (Int32.lt_of_le_of_lt hi.1 hi.2))
  exact h _ (by rw [nI_clamp ha, nI_clamp hm]; exact (nI_ltI ha hm).mp hi.2)
/-- a thing's part, as it was read -/
theorem k_mp_at {c d : Nat} {n p w : Int32} {f g : Nat → Int32} (hc : 0 < c) (hc5 : c ≤ 5) (hdc : d ≤ c) (h : k_mp c d n f g) (hp : 0 ≤ p ∧ p.toInt ≤ 8) (hw : 0 ≤ w ∧ w < nI d) (hn : c * p.toInt + w.toInt < n.toInt) : f (nI d * p + w).toNatClampNeg = g (nI c * p + w).toNatClampNeg := by
  obtain ⟨a, ha, rfl⟩ := k_nat hp.1
  obtain ⟨b, hb, rfl⟩ := k_nat hw.1
  have hp2 := hp.2
  rw [nI_toInt ha] at hp2 hn
  rw [nI_toInt hb] at hn
  have hn1 := Int32.toInt_lt n
  have hb2 : b < d := (nI_ltI hb (by omega)).mp hw.2
  obtain ⟨m, hm, rfl⟩ := k_nat (x := n) (Int32.le_iff_toInt_le.mpr (by rw [show (0 : Int32).toInt = 0 from rfl]; have : (0 : Int) ≤ c * a := Int.mul_nonneg (by omega) (by omega); omega))
  rw [nI_toInt hm] at hn
  have hca : c * a ≤ 5 * 8 := Nat.mul_le_mul hc5 (by omega)
  have hda : d * a ≤ 5 * 8 := Nat.mul_le_mul (by omega) (by omega)
  have hn2 : c * a + b < m := by
    have : ((c * a + b : Nat) : Int) < m := by rw [Int.natCast_add, Int.natCast_mul]; exact hn
    omega
  rw [pk_mul, nI_add, nI_clamp (by omega), pk_mul, nI_add, nI_clamp (by omega)]
  have e1 : (c * a + b) / c = a := by rw [Nat.mul_add_div hc, Nat.div_eq_of_lt (by omega), Nat.add_zero]
  have e2 : (c * a + b) % c = b := by rw [Nat.mul_add_mod, Nat.mod_eq_of_lt (by omega)]
  have := h (c * a + b) (by rw [nI_clamp hm]; exact hn2) (by rw [e2]; exact hb2)
  rw [e1, e2] at this
  exact this
/-- how many things there are: none, or as many as the bytes tell -/
theorem k_nm {th n : Int32} {f : Nat → Int32} (hn : 0 ≤ n) (P : Int32 → Prop) (h0 : P 0) (h1 : ¬ th = -1 → P th) : P (kNm th n f) := by
  unfold kNm
  by_cases c : kFt th n f = -1
  · rw [if_pos c]
    refine h1 (fun q => ?_)
    unfold kFt at c
    by_cases d : kBad f n.toNatClampNeg 0 = -1
    · rw [if_pos d, if_pos q] at c
      rw [c] at hn
      exact absurd hn (by decide)
    · rw [if_neg d] at c
      exact d c
  · rw [if_neg c]
    exact h0
/-- what was read of things with several bytes each; nothing is said where there are none -/
def k_mq (c d : Nat) (v n : Int32) (f g : Nat → Int32) : Prop := v = 0 ∨ k_mp c d n f g
theorem k_mq_mp {c d : Nat} {v n : Int32} {f g : Nat → Int32} (h : k_mq c d v n f g) (hv : ¬ v = 0) : k_mp c d n f g := by
  rcases h with h | h
  · exact absurd h hv
  · exact h
theorem k_lt4 {n p : Int32} {f : Nat → Int32} (hn : 0 ≤ n) (hp : 0 ≤ p ∧ p < kNm n n f) : p < n := by
  refine k_nm (th := n) (n := n) (f := f) hn (fun v => 0 ≤ p ∧ p < v → p < n) (fun q => absurd q.2 (Int32.not_lt.mpr q.1)) (fun _ q => q.2) hp
theorem k_lt7 {n p : Int32} {f : Nat → Int32} (hn : 0 ≤ n ∧ n.toInt ≤ 100) (hp : 0 ≤ p ∧ p < kNm (kTh7 n) n f) : 5 * p.toInt + 4 ≤ n.toInt := by
  refine k_nm (th := kTh7 n) (n := n) (f := f) hn.1 (fun v => 0 ≤ p ∧ p < v → 5 * p.toInt + 4 ≤ n.toInt) (fun q => absurd q.2 (Int32.not_lt.mpr q.1)) (fun ht q => ?_) hp
  obtain ⟨a, ha, rfl⟩ := k_nat hn.1
  obtain ⟨b, hb, rfl⟩ := k_nat q.1
  have h2 := hn.2
  rw [nI_toInt ha] at h2 ⊢
  rw [nI_toInt hb]
  have q2 := q.2
  unfold kTh7 at ht q2
  by_cases c : nI a = 0
  · rw [if_pos c] at q2
    exact absurd q2 (nI_pos hb)
  · rw [if_neg c] at ht q2
    by_cases d : nI a - nI a / 5 * 5 = 4
    · rw [if_pos d, show (5 : Int32) = nI 5 from rfl, nI_1, pk_div (by omega) (by decide) (by decide)] at q2
      rw [show (5 : Int32) = nI 5 from rfl, pk_rem ha (by decide) (by decide)] at d
      have d2 : a % 5 = 4 := (nI_eq (by omega) (by decide)).mp d
      have q3 : b < (a + 1) / 5 := (nI_ltI hb (by omega)).mp q2
      omega
    · rw [if_neg d] at ht
      exact absurd rfl ht
theorem k_lt2 {n p : Int32} {f : Nat → Int32} (hn : 0 ≤ n ∧ n.toInt ≤ 100) (hp : 0 ≤ p ∧ p < kNm (kTh2 n) n f) : 3 * p.toInt + 2 ≤ n.toInt := by
  refine k_nm (th := kTh2 n) (n := n) (f := f) hn.1 (fun v => 0 ≤ p ∧ p < v → 3 * p.toInt + 2 ≤ n.toInt) (fun q => absurd q.2 (Int32.not_lt.mpr q.1)) (fun ht q => ?_) hp
  obtain ⟨a, ha, rfl⟩ := k_nat hn.1
  obtain ⟨b, hb, rfl⟩ := k_nat q.1
  have h2 := hn.2
  rw [nI_toInt ha] at h2 ⊢
  rw [nI_toInt hb]
  have q2 := q.2
  unfold kTh2 at ht q2
  by_cases c : nI a = 0
  · rw [if_pos c] at q2
    exact absurd q2 (nI_pos hb)
  · rw [if_neg c] at ht q2
    by_cases d : nI a - nI a / 3 * 3 = 2
    · rw [if_pos d, show (3 : Int32) = nI 3 from rfl, nI_1, pk_div (by omega) (by decide) (by decide)] at q2
      rw [show (3 : Int32) = nI 3 from rfl, pk_rem ha (by decide) (by decide)] at d
      have d2 : a % 3 = 2 := (nI_eq (by omega) (by decide)).mp d
      have q3 : b < (a + 1) / 3 := (nI_ltI hb (by omega)).mp q2
      omega
    · rw [if_neg d] at ht
      exact absurd rfl ht
/-- where a byte comes to -/
def kIx (t : Int32) (f : Nat → Int32) : Nat := if t = 0 then (f 0).toNatClampNeg else if t = 1 then 40 + (f 1).toNatClampNeg else 80 + (f 2).toNatClampNeg
theorem kIx_0 {f : Nat → Int32} : (0 + f 0).toNatClampNeg = kIx 0 f := by
  unfold kIx
  rw [if_pos rfl, Int32.zero_add]
theorem kIx_1 {f : Nat → Int32} (h : 0 ≤ (f 1).toInt ∧ (f 1).toInt ≤ 39) : (40 + f 1).toNatClampNeg = kIx 1 f := by
  unfold kIx
  rw [if_neg (by decide), if_pos rfl]
  obtain ⟨a, ha, e⟩ := k_nat (x := f 1) (Int32.le_iff_toInt_le.mpr (by rw [show (0 : Int32).toInt = 0 from rfl]; exact h.1))
  rw [e] at h ⊢
  rw [nI_toInt ha] at h
  rw [show (40 : Int32) = nI 40 from rfl, nI_add, nI_clamp (by omega), nI_clamp ha]
theorem kIx_2 {f : Nat → Int32} (h : 0 ≤ (f 2).toInt ∧ (f 2).toInt ≤ 23) : (80 + f 2).toNatClampNeg = kIx 2 f := by
  unfold kIx
  rw [if_neg (by decide), if_neg (by decide)]
  obtain ⟨a, ha, e⟩ := k_nat (x := f 2) (Int32.le_iff_toInt_le.mpr (by rw [show (0 : Int32).toInt = 0 from rfl]; exact h.1))
  rw [e] at h ⊢
  rw [nI_toInt ha] at h
  rw [show (80 : Int32) = nI 80 from rfl, nI_add, nI_clamp (by omega), nI_clamp ha]

