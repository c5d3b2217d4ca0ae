abbrev kAI (a : Nat) (c : ClassId) (n : Nat) (f : Nat → Int32) : Nat × va_E := (a, .inl (c, n, .inl f))
abbrev kAJ (a : Nat) (c : ClassId) (n : Nat) (f : Nat → Int64) : Nat × va_E := (a, .inl (c, n, .inr (.inl f)))
abbrev kAQ (a : Nat) (c : ClassId) (n : Nat) (f : Nat → Option Nat) : Nat × va_E := (a, .inl (c, n, .inr (.inr (.inr (.inr f)))))
abbrev kX0 (a : Nat) (f0 : Int32) (f1 : Int32) (f2 : Int32) (f3 : Int32) : Nat × va_E := (a, .inr (0, [.int f0, .int f1, .int f2, .int f3]))
abbrev kX1 (a : Nat) (f0 : Nat) (f1 : Int32) : Nat × va_E := (a, .inr (1, [.ref f0, .int f1]))
abbrev kX2 (a : Nat) (f0 : Nat) (f1 : Int32) (f2 : Int32) (f3 : Int32) : Nat × va_E := (a, .inr (2, [.ref f0, .int f1, .int f2, .int f3]))
abbrev kX3 (a : Nat) (f0 : Int32) (f1 : Int32) (f2 : Int32) (f3 : Int32) : Nat × va_E := (a, .inr (3, [.int f0, .int f1, .int f2, .int f3]))
abbrev kX4 (a : Nat) (f0 : Nat) (f1 : Int32) (f2 : Int32) (f3 : Int32) : Nat × va_E := (a, .inr (4, [.ref f0, .int f1, .int f2, .int f3]))
abbrev kX5 (a : Nat) (f0 : Nat) (f1 : Int64) (f2 : Int64) : Nat × va_E := (a, .inr (5, [.ref f0, .long f1, .long f2]))
abbrev kX6 (a : Nat) (f0 : Int32) : Nat × va_E := (a, .inr (6, [.int f0]))
abbrev kX7 (a : Nat) (f0 : Nat) (f1 : Int32) (f2 : Int32) (f3 : Int32) : Nat × va_E := (a, .inr (7, [.ref f0, .int f1, .int f2, .int f3]))
abbrev kX8 (a : Nat) (f0 : Nat) (f1 : Int32) (f2 : Int32) (f3 : Int32) : Nat × va_E := (a, .inr (8, [.ref f0, .int f1, .int f2, .int f3]))
abbrev kX10 (a : Nat) (f0 : Nat) (f1 : Nat) (f2 : Nat) (f3 : Nat) (f4 : Nat) (f5 : Nat) (f6 : Nat) (f7 : Int32) (f8 : Int32) (f9 : Int32) (f10 : Int32) (f11 : Int32) (f12 : Int32) (f13 : Int32) (f14 : Int32) (f15 : Int32) (f16 : Int32) : Nat × va_E := (a, .inr (9, [.ref f0, .ref f1, .ref f2, .ref f3, .ref f4, .ref f5, .ref f6, .int f7, .int f8, .int f9, .int f10, .int f11, .int f12, .int f13, .int f14, .int f15, .int f16]))
abbrev kX11 (a : Nat) (f0 : Nat) (f1 : Nat) (f2 : Nat) (f3 : Nat) (f4 : Nat) (f5 : Nat) (f6 : Nat) (f7 : Nat) (f8 : Nat) (f9 : Nat) (f10 : Nat) (f11 : Nat) (f12 : Int32) (f13 : Int32) (f14 : Int32) : Nat × va_E := (a, .inr (10, [.ref f0, .ref f1, .ref f2, .ref f3, .ref f4, .ref f5, .ref f6, .ref f7, .ref f8, .ref f9, .ref f10, .ref f11, .int f12, .int f13, .int f14]))
abbrev kX12 (a : Nat) (f0 : Nat) (f1 : Nat) (f2 : Nat) (f3 : Nat) (f4 : Int32) (f5 : Nat) (f6 : Nat) (f7 : Int32) (f8 : Nat) (f9 : Int32) (f10 : Nat) (f11 : Int32) (f12 : Nat) (f13 : Int32) (f14 : Nat) (f15 : Int32) (f16 : Nat) (f17 : Int32) (f18 : Int32) (f19 : Int32) (f20 : Int32) (f21 : Int32) (f22 : Int32) (f23 : Nat) (f24 : Nat) (f25 : Nat) (f26 : Int32) (f27 : Nat) (f28 : Nat) (f29 : Int32) : Nat × va_E := (a, .inr (11, [.ref f0, .ref f1, .ref f2, .ref f3, .int f4, .ref f5, .ref f6, .int f7, .ref f8, .int f9, .ref f10, .int f11, .ref f12, .int f13, .ref f14, .int f15, .ref f16, .int f17, .int f18, .int f19, .int f20, .int f21, .int f22, .ref f23, .ref f24, .ref f25, .int f26, .ref f27, .ref f28, .int f29]))
theorem k_subP {D : va_G} {cl : List vw_C} {ws ws' : va_W} {H : Heap} (h : va_P D cl ws H) (is : List Nat) (hs : is.map (fun i => ws[i]?) = ws'.map some) : va_P D cl ws' H := by
  refine h.sub is ?_
  have e : is.filterMap (fun i => ws[i]?) = (is.map (fun i => ws[i]?)).filterMap id := by rw [List.filterMap_map]; rfl
  rw [e, hs, List.filterMap_map]
  show List.filterMap some ws' = ws'
  exact List.filterMap_some
theorem k_cw {A0 : Nat → Prop} {D : va_G} {cl : List vw_C} {ws wc : va_W} {H0 H : Heap} {locs : List Loc} (hP : va_P D cl ws H) (hD : va_D A0 ws) (hS : va_S A0 H0 H locs) (hA : ∀ q, H0.size ≤ q → A0 q) (isC : List Nat) (hn : va_nd isC = true) (hC : isC.map (fun i => ws[i]?) = wc.map some) : va_P D cl wc H ∧ va_D A0 wc ∧ (∀ q, va_A wc H.size q → A0 q) ∧ isC.map (fun i => ws[i]?) = wc.map some :=
  ⟨k_subP hP isC hC, hD.sub isC hn hC, va_free hD hS hA isC hC, hC⟩
theorem k_jn {A0 : Nat → Prop} {D : va_G} {cl : List vw_C} {ws wc wr w1 wt : va_W} {H H1 : Heap} {isC : List Nat} (hP : va_P D cl ws H) (hD : va_D A0 ws) (hC : isC.map (fun i => ws[i]?) = wc.map some) (isR : List Nat) (hR : isR.map (fun i => ws[i]?) = wr.map some) (hn : va_nd isR = true) (hdis : ∀ i ∈ isR, i ∉ isC) (hk : ∀ q : Nat, q < H.size → ¬ va_A wc H.size q → H1[q]? = H[q]?) (hF : ∀ q, va_A wc H.size q → A0 q) (hP1 : va_P D cl w1 H1) (hD1 : va_D (va_A wc H.size) w1) (he : wr ++ w1 = wt) : va_P D cl wt H1 ∧ va_D A0 wt := by
  subst he
  exact va_join hP hD isC isR hC hR hn hdis hk hF hP1 hD1
theorem k_w2 {A0 : Nat → Prop} {D : va_G} {cl : List vw_C} {ws wt : va_W} {H : Heap} (hP : va_P D cl ws H) (hD : va_D A0 ws) (he : ws = wt) : va_P D cl wt H ∧ va_D A0 wt := by
  subst he
  exact ⟨hP, hD⟩
theorem k_c2 {A0 : Nat → Prop} {D : va_G} {cl : List vw_C} {ws wc : va_W} {H : Heap} (hP : va_P D cl ws H) (hD : va_D A0 ws) (isC : List Nat) (hn : va_nd isC = true) (hC : isC.map (fun i => ws[i]?) = wc.map some) : va_P D cl wc H ∧ va_D A0 wc :=
  ⟨k_subP hP isC hC, hD.sub isC hn hC⟩
theorem k_64 {a l h : Int32} {L U : Int64} (hl : L = l.toInt64) (hu : U = h.toInt64) : (L ≤ a.toInt64 ∧ a.toInt64 ≤ U) ↔ (l ≤ a ∧ a ≤ h) := by
  rw [hl, hu, Int64.le_iff_toInt_le, Int64.le_iff_toInt_le, Int32.le_iff_toInt_le, Int32.le_iff_toInt_le, Int32.toInt_toInt64, Int32.toInt_toInt64, Int32.toInt_toInt64]
/-! rows of our own: the worlds' fixed classes, the contracts' form, calls -/
abbrev kT (cI cJ cQ : ClassId) : List (ClassId × FieldType) := [(cI, .int), (cJ, .long), (cQ, .object "BittenStick$Sheet")]
def kwW : MethodName := ⟨"BittenStick$Text", "worth", "(II)I"⟩
def kwT : MethodName := ⟨"BittenStick$Text", "thingsIn", "(I)I"⟩
/-- what links of nest mates and abstract methods the tables say -/
def kN (U : State) : Prop := va_Nw (.declares kwW) U ∧ va_Nw (.declares kwT) U ∧ va_Nw (.methodLinkNest RX10 11 yX3_init "BittenStick") U ∧ va_Nw (.methodLinkNest RX11 32 yX1_init "BittenStick") U ∧ va_Nw (.methodLinkNest RX11 48 yX0_init "BittenStick") U ∧ va_Nw (.methodLinkNest RX11 55 yX5_init "BittenStick") U ∧ va_Nw (.methodLinkNest RX11 62 yX6_init "BittenStick") U ∧ va_Nw (.methodLinkNest RX11 83 yX8_init "BittenStick") U ∧ va_AO "BittenStick$Sheet" U
theorem kN.warm {s U : State} (hW : s.WarmedH U.vm) (h : kN s) : kN U := ⟨va_Nw.warmD hW h.1, va_Nw.warmD hW h.2.1, va_Nw.warmM hW h.2.2.1, va_Nw.warmM hW h.2.2.2.1, va_Nw.warmM hW h.2.2.2.2.1, va_Nw.warmM hW h.2.2.2.2.2.1, va_Nw.warmM hW h.2.2.2.2.2.2.1, va_Nw.warmM hW h.2.2.2.2.2.2.2.1, va_AO.moved hW.alike h.2.2.2.2.2.2.2.2⟩
theorem kN.same {u U : State} (e : u.vm = U.vm) (h : kN u) : kN U := ⟨va_Nw.same rfl e h.1, va_Nw.same rfl e h.2.1, va_Nw.same rfl e h.2.2.1, va_Nw.same rfl e h.2.2.2.1, va_Nw.same rfl e h.2.2.2.2.1, va_Nw.same rfl e h.2.2.2.2.2.1, va_Nw.same rfl e h.2.2.2.2.2.2.1, va_Nw.same rfl e h.2.2.2.2.2.2.2.1, va_AO.moved (by rw [e]; exact Vm.Alike.refl U.vm) h.2.2.2.2.2.2.2.2⟩
/-- a contract's start: the arguments, the cells -/
abbrev kPre (dC : Nat → ClassId) (dI : Nat → Nat → Nat) (cI cJ cQ : ClassId) (sz : Nat) (av : List Value) (ws : va_W) : Array Value → State → Prop := va_Pc av (fun U => U.heap.size = sz ∧ va_P (dC, dI) vwCl ws U.heap ∧ va_K (dC, dI) vwCl (kT cI cJ cQ) U ∧ va_D (fun _ => True) ws ∧ kN U)
/-- the cells behind it -/
abbrev kB (dC : Nat → ClassId) (dI : Nat → Nat → Nat) (cI cJ cQ : ClassId) (A : Nat → Prop) (ws : va_W) (t : State) : Prop := va_P (dC, dI) vwCl ws t.heap ∧ va_K (dC, dI) vwCl (kT cI cJ cQ) t ∧ va_D A ws
theorem k_nilP {D : va_G} {cl : List vw_C} (H : Heap) : va_P D cl [] H := fun k q h => by simp at h
theorem k_nilD (A : Nat → Prop) : va_D A [] := ⟨fun i j p q h => by simp at h, fun k q h => by simp at h⟩
theorem k_blind {dC : Nat → ClassId} {dI : Nat → Nat → Nat} {cI cJ cQ : ClassId} {sz : Nat} {av : List Value} {ws : va_W} : FrameBlind (kPre dC dI cI cJ cQ sz av ws) := fun a U g mk q => by
  obtain ⟨q0, q1, qP, qK, qD, qN⟩ := q
  exact ⟨q0, q1, qP, va_K.moved (u := U) (U := U.calling g mk a) (Vm.Alike.refl U.vm) qK, qD, kN.same (u := U) (U := U.calling g mk a) rfl qN⟩
theorem k_preS {dC : Nat → ClassId} {dI : Nat → Nat → Nat} {cI cJ cQ : ClassId} {s : State} {H : Heap} {A : Nat → Prop} {As : List Value} {ws : va_W} (hK : va_K (dC, dI) vwCl (kT cI cJ cQ) s) (hP : va_P (dC, dI) vwCl ws H) (hD : va_D A ws) (hN : kN s) : PreS s H (kPre dC dI cI cJ cQ H.size As ws) As :=
  ⟨k_blind, fun U hU hW => ⟨rfl, by rw [hU], by rw [hU]; exact hP, va_K.moved hW.alike hK, hD.weaken (fun _ _ _ _ => trivial), kN.warm hW hN⟩⟩
theorem k_preV {dC : Nat → ClassId} {dI : Nat → Nat → Nat} {cI cJ cQ : ClassId} {s : State} {H : Heap} {A : Nat → Prop} {b : Nat} {As : List Value} {ws : va_W} {ci q0 : Nat} {q : vw_C} {fs : List Value} (hK : va_K (dC, dI) vwCl (kT cI cJ cQ) s) (hP : va_P (dC, dI) vwCl ws H) (hD : va_D A ws) (hN : kN s) (hc : vwCl[ci]? = some q) (he : ws[q0]? = some (b, .inr (ci, fs))) : PreV s H q.1 b (kPre dC dI cI cJ cQ H.size (.ref b :: As) ws) As :=
  ⟨k_blind, va_recv hK hP hc he, fun U hU hW => ⟨rfl, by rw [hU], by rw [hU]; exact hP, va_K.moved hW.alike hK, hD.weaken (fun _ _ _ _ => trivial), kN.warm hW hN⟩⟩
section KR
variable {p : Program} {l : Launch} {e : Env} {R : Room} {s : State} {m : MethodId} {args : Array Value} {below : List Frame} {meth : Method} {c : Code} {H : Heap} {locs : List Loc} {cells slots : Nat} {Q : State → Prop}
variable {cc : ByteArray} {pc : Nat} {ls : Array Slot} {rest : List Value} {D : va_G} {cl : List vw_C} {ws : va_W} {A : Nat → Prop} {H0 : Heap} {cI cJ cQ : ClassId}
theorem k_topi {x v : Int32} (h : x = v) (k : W p l e R s m args below meth c H locs cells slots Q (F0 m pc ls (.int v :: rest))) : W p l e R s m args below meth c H locs cells slots Q (F0 m pc ls (.int x :: rest)) := by rw [h]; exact k
theorem k_topl {x v : Int64} (h : x = v) (k : W p l e R s m args below meth c H locs cells slots Q (F0 m pc ls (.long v :: rest))) : W p l e R s m args below meth c H locs cells slots Q (F0 m pc ls (.long x :: rest)) := by rw [h]; exact k
theorem k_heap {g : JFrame} (h : H = s.heap) (k : W p l e R s m args below meth c H locs cells slots Q g) : W p l e R s m args below meth c s.heap locs cells slots Q g := h ▸ k
/-- a new array of ints: its class is the known one -/
theorem k_newaI (hexec : p.tables.exec = Jvm.exec) (hb : c.code = cc) (harr : (Cond.arrayClass .int).before args s = true) (hK : va_K D cl (kT cI cJ cQ) s) (hP : va_P D cl ws H) (hD : va_D A ws) (hS : va_S A H0 H locs) (hA : ∀ q, H0.size ≤ q → A q)
    {n : Int32} {N' : Nat} (hn : ¬ n < 0) (hN : n.toNatClampNeg = N') (hbytes : N' * componentBytes .int ≤ 536870912) (hcells : cells + 1 ≤ R.cells) (hslots : slots + N' ≤ R.slots) (hdg : decode cc pc = .ok (.newarray .int, 2))
    (kk : ∀ (q : Nat) (H1 : Heap), va_P D cl (ws ++ [(q, .inl (cI, N', .inl (fun _ => 0)))]) H1 → va_D A (ws ++ [(q, .inl (cI, N', .inl (fun _ => 0)))]) → va_S A H0 H1 locs →
      W p l e R s m args below meth c H1 locs (cells + 1) (slots + N') Q (F0 m (pc + 2) ls (.ref q :: rest))) : W p l e R s m args below meth c H locs cells slots Q (F0 m pc ls (.int n :: rest)) := by
  refine va_newa (atype := .int) (ty := .int) (a0 := (N', .inl (fun _ => 0))) hexec hb harr rfl hK hP hD hS hA (fun _ => rfl) hn hN hbytes hcells hslots hdg (fun q cA H1 hK1 hP1 hD1 hS1 => ?_)
  have e1 : s.vm.findClass ("[" ++ FieldType.int.toString) = some cA := (hK1.2 3 (cA, .int) rfl).2
  have e2 : s.vm.findClass ("[" ++ FieldType.int.toString) = some cI := (hK.2 0 (cI, .int) rfl).2
  cases e1.symm.trans e2
  exact kk q H1 hP1 hD1 hS1
theorem k_newaJ (hexec : p.tables.exec = Jvm.exec) (hb : c.code = cc) (harr : (Cond.arrayClass .long).before args s = true) (hK : va_K D cl (kT cI cJ cQ) s) (hP : va_P D cl ws H) (hD : va_D A ws) (hS : va_S A H0 H locs) (hA : ∀ q, H0.size ≤ q → A q)
    {n : Int32} {N' : Nat} (hn : ¬ n < 0) (hN : n.toNatClampNeg = N') (hbytes : N' * componentBytes .long ≤ 536870912) (hcells : cells + 1 ≤ R.cells) (hslots : slots + N' ≤ R.slots) (hdg : decode cc pc = .ok (.newarray .long, 2))
    (kk : ∀ (q : Nat) (H1 : Heap), va_P D cl (ws ++ [(q, .inl (cJ, N', .inr (.inl (fun _ => 0))))]) H1 → va_D A (ws ++ [(q, .inl (cJ, N', .inr (.inl (fun _ => 0))))]) → va_S A H0 H1 locs →
      W p l e R s m args below meth c H1 locs (cells + 1) (slots + N') Q (F0 m (pc + 2) ls (.ref q :: rest))) : W p l e R s m args below meth c H locs cells slots Q (F0 m pc ls (.int n :: rest)) := by
  refine va_newa (atype := .long) (ty := .long) (a0 := (N', .inr (.inl (fun _ => 0)))) hexec hb harr rfl hK hP hD hS hA (fun _ => rfl) hn hN hbytes hcells hslots hdg (fun q cA H1 hK1 hP1 hD1 hS1 => ?_)
  have e1 : s.vm.findClass ("[" ++ FieldType.long.toString) = some cA := (hK1.2 3 (cA, .long) rfl).2
  have e2 : s.vm.findClass ("[" ++ FieldType.long.toString) = some cJ := (hK.2 1 (cJ, .long) rfl).2
  cases e1.symm.trans e2
  exact kk q H1 hP1 hD1 hS1
theorem k_newq (hexec : p.tables.exec = Jvm.exec) (hb : c.code = cc) {own : String} {index : Nat} (hown : s.vm.findClass own = some m.cls) (hclink : (Cond.classLink own index "BittenStick$Sheet").before args s = true) (hover : va_AO "BittenStick$Sheet" s) (hK : va_K D cl (kT cI cJ cQ) s) (hP : va_P D cl ws H) (hD : va_D A ws) (hS : va_S A H0 H locs) (hA : ∀ q, H0.size ≤ q → A q)
    {n : Int32} {N' : Nat} (hn : ¬ n < 0) (hN : n.toNatClampNeg = N') (hbytes : N' * 4 ≤ 536870912) (hcells : cells + 1 ≤ R.cells) (hslots : slots + N' ≤ R.slots) (hdg : decode cc pc = .ok (.anewarray index, 3))
    (kk : ∀ (q : Nat) (H1 : Heap), va_P D cl (ws ++ [(q, .inl (cQ, N', .inr (.inr (.inr (.inr (fun _ => none))))))]) H1 → va_D A (ws ++ [(q, .inl (cQ, N', .inr (.inr (.inr (.inr (fun _ => none))))))]) → va_S A H0 H1 locs →
      W p l e R s m args below meth c H1 locs (cells + 1) (slots + N') Q (F0 m (pc + 3) ls (.ref q :: rest))) : W p l e R s m args below meth c H locs cells slots Q (F0 m pc ls (.int n :: rest)) := by
  refine va_newq hexec hb hown hclink hover hK hP hD hS hA hn hN hbytes hcells hslots hdg (fun q cA H1 hK1 hP1 hD1 hS1 => ?_)
  obtain ⟨_, _, _, _, _, e1⟩ := (hK1.2 3 (cA, .object "BittenStick$Sheet") rfl).2
  obtain ⟨_, _, _, _, _, e2⟩ := (hK.2 2 (cQ, .object "BittenStick$Sheet") rfl).2
  cases e1.symm.trans e2
  exact kk q H1 hP1 hD1 hS1
end KR
theorem k_out3 {x : Int32} (h0 : ¬ x = 0) (h1 : ¬ x = 1) (h2 : ¬ x = 2) : x.toInt < 0 ∨ 2 < x.toInt := by
  have a0 := lv_neT (a := 0) h0 rfl
  have a1 := lv_neT (a := 1) h1 rfl
  have a2 := lv_neT (a := 2) h2 rfl
  omega
theorem k_out9 {x : Int32} (h0 : ¬ x = 0) (h1 : ¬ x = 1) (h2 : ¬ x = 2) (h3 : ¬ x = 3) (h4 : ¬ x = 4) (h5 : ¬ x = 5) (h6 : ¬ x = 6) (h7 : ¬ x = 7) (h8 : ¬ x = 8) : x.toInt < 0 ∨ 8 < x.toInt := by
  have a0 := lv_neT (a := 0) h0 rfl
  have a1 := lv_neT (a := 1) h1 rfl
  have a2 := lv_neT (a := 2) h2 rfl
  have a3 := lv_neT (a := 3) h3 rfl
  have a4 := lv_neT (a := 4) h4 rfl
  have a5 := lv_neT (a := 5) h5 rfl
  have a6 := lv_neT (a := 6) h6 rfl
  have a7 := lv_neT (a := 7) h7 rfl
  have a8 := lv_neT (a := 8) h8 rfl
  omega
theorem k_cmp_cases (x y : Int64) : (lg_cmp x y = 1 ∧ y.toInt < x.toInt) ∨ (lg_cmp x y = 0 ∧ x.toInt = y.toInt) ∨ (lg_cmp x y = -1 ∧ x.toInt < y.toInt) := by
  unfold lg_cmp
  by_cases h : x > y
  · exact Or.inl ⟨if_pos h, Int64.lt_iff_toInt_lt.mp h⟩
  · have h' : ¬ y.toInt < x.toInt := fun q => h (Int64.lt_iff_toInt_lt.mpr q)
    by_cases h2 : x = y
    · exact Or.inr (Or.inl ⟨by rw [if_neg h, if_pos h2], by rw [h2]⟩)
    · have h3 : ¬ x.toInt = y.toInt := fun q => h2 (Int64.toInt_inj.mp q)
      exact Or.inr (Or.inr ⟨by rw [if_neg h, if_neg h2], by omega⟩)
theorem k_clt {x y : Int64} : lg_cmp x y < 0 ↔ x < y := by
  rw [Int64.lt_iff_toInt_lt]
  rcases k_cmp_cases x y with ⟨e, h⟩ | ⟨e, h⟩ | ⟨e, h⟩
  · rw [e]; exact ⟨fun q => absurd q (by decide), fun q => absurd q (by omega)⟩
  · rw [e]; exact ⟨fun q => absurd q (by decide), fun q => absurd q (by omega)⟩
  · rw [e]; exact ⟨fun _ => h, fun _ => by decide⟩
theorem k_cgt {x y : Int64} : 0 < lg_cmp x y ↔ y < x := by
  rw [Int64.lt_iff_toInt_lt]
  rcases k_cmp_cases x y with ⟨e, h⟩ | ⟨e, h⟩ | ⟨e, h⟩
  · rw [e]; exact ⟨fun _ => h, fun _ => by decide⟩
  · rw [e]; exact ⟨fun q => absurd q (by decide), fun q => absurd q (by omega)⟩
  · rw [e]; exact ⟨fun q => absurd q (by decide), fun q => absurd q (by omega)⟩
theorem k_ceq {x y : Int64} : lg_cmp x y = 0 ↔ x = y := by
  rw [← Int64.toInt_inj]
  rcases k_cmp_cases x y with ⟨e, h⟩ | ⟨e, h⟩ | ⟨e, h⟩
  · rw [e]; exact ⟨fun q => absurd q (by decide), fun q => absurd q (by omega)⟩
  · rw [e]; exact ⟨fun _ => h, fun _ => rfl⟩
  · rw [e]; exact ⟨fun q => absurd q (by decide), fun q => absurd q (by omega)⟩
def fSh (a b c d : Nat) : Nat → Option Nat := va_up (va_up (va_up (va_up (fun _ => none) (0 : Int32).toNatClampNeg (some a)) (1 : Int32).toNatClampNeg (some b)) (2 : Int32).toNatClampNeg (some c)) (3 : Int32).toNatClampNeg (some d)
theorem fSh_0 (a b c d : Nat) : fSh a b c d (0 : Int32).toNatClampNeg = some a := rfl
theorem fSh_1 (a b c d : Nat) : fSh a b c d (1 : Int32).toNatClampNeg = some b := rfl
theorem fSh_2 (a b c d : Nat) : fSh a b c d (2 : Int32).toNatClampNeg = some c := rfl
theorem fSh_3 (a b c d : Nat) : fSh a b c d (3 : Int32).toNatClampNeg = some d := rfl
def fFo : Nat → Int32 := upd (upd (upd (upd (fun _ => 0) (0 : Int32).toNatClampNeg (-1)) (1 : Int32).toNatClampNeg (-1)) (2 : Int32).toNatClampNeg (-1)) (3 : Int32).toNatClampNeg (-1)
theorem fFo_lt : ∀ k, k < 4 → fFo k = -1 := by decide +kernel
theorem fFo_at {s : Int32} (h : 0 ≤ s ∧ s ≤ 3) : fFo s.toNatClampNeg = -1 := by
  have h0 : ¬ s < 0 := Int32.not_lt.mpr h.1
  obtain ⟨j, hj, rfl⟩ := nI_of2 (n := 3) (M := 3) (by decide) h0 h.2
  rw [nI_clamp (by omega)]
  exact fFo_lt j (by omega)
theorem k_in3 {s : Int32} (h : 0 ≤ s ∧ s ≤ 3) : vp_in s 4 := by
  have h0 : ¬ s < 0 := Int32.not_lt.mpr h.1
  obtain ⟨j, hj, rfl⟩ := nI_of2 (n := 3) (M := 3) (by decide) h0 h.2
  exact vp_in_nI (by omega) (by omega)
theorem k_in2 {s : Int32} (h : 0 ≤ s ∧ s ≤ 2) : vp_in s 3 := by
  have h0 : ¬ s < 0 := Int32.not_lt.mpr h.1
  obtain ⟨j, hj, rfl⟩ := nI_of2 (n := 2) (M := 2) (by decide) h0 h.2
  exact vp_in_nI (by omega) (by omega)
theorem k_in40 {s : Int32} (h : 0 ≤ s ∧ s ≤ 2) : vp_in (40 * s + 0) 120 := by
  have h0 : ¬ s < 0 := Int32.not_lt.mpr h.1
  obtain ⟨j, hj, rfl⟩ := nI_of2 (n := 2) (M := 2) (by decide) h0 h.2
  have e : (40 * nI j + 0 : Int32) = nI (40 * j) := by
    rw [show (40 : Int32) = nI 40 from rfl, show (0 : Int32) = nI 0 from rfl, pk_mul, nI_add, Nat.add_zero]
  rw [e]
  exact vp_in_nI (by omega) (by omega)
/-- a place of a sheet's item among all items -/
theorem k_in60 {s n : Int32} {k : Nat} (h : 0 ≤ s ∧ s ≤ 3) (hn : n ≤ 60) (hk : k < n.toInt.toNat) : vp_in (60 * s + nI k) 240 := by
  have h0 : ¬ s < 0 := Int32.not_lt.mpr h.1
  obtain ⟨j, hj, rfl⟩ := nI_of2 (n := 3) (M := 3) (by decide) h0 h.2
  have hn2 : n.toInt ≤ 60 := by have := Int32.le_iff_toInt_le.mp hn; simpa using this
  rw [show (60 : Int32) = nI 60 from rfl, pk_mul, nI_add]
  exact vp_in_nI (by omega) (by omega)
theorem k_ltN {k n : Nat} {x : Int32} (hx : x = nI n) (hk : k < 2 ^ 31) (hn : n < 2 ^ 31) (h : ¬ x ≤ nI k) : k < n := by
  rw [hx] at h
  rcases Nat.lt_or_ge k n with q | q
  · exact q
  · exact absurd (nI_le q hk) h
theorem k_ltT {k : Nat} {n : Int32} (hk : k < 2 ^ 31) (h : ¬ n ≤ nI k) : k < n.toInt.toNat := by
  have h1 : ¬ n.toInt ≤ (nI k).toInt := fun q => h (Int32.le_iff_toInt_le.mpr q)
  rw [nI_toInt hk] at h1
  omega
theorem k_leq {a b : Int32} (h : a = b) : a ≤ b := h ▸ Int32.le_refl a
theorem k_le60 {n : Int32} (h : n ≤ 60) : n.toInt ≤ 60 := by
  have := Int32.le_iff_toInt_le.mp h
  simpa using this
abbrev kS : Type := (Nat → Int32) × (Nat → Nat → Int32) × (Nat → Int64) × (Nat → Nat → Int64) × (Nat → Nat)
def k_fn (l : List Int32) : Nat → Int32 := fun i => l.getD i 0
def k_fa (l : List (Nat → Int32)) : Nat → Nat → Int32 := fun i => l.getD i (fun _ => 0)
def k_fl (l : List Int64) : Nat → Int64 := fun i => l.getD i 0
def k_fL (l : List (Nat → Int64)) : Nat → Nat → Int64 := fun i => l.getD i (fun _ => 0)
def k_fp (l : List Nat) : Nat → Nat := fun i => l.getD i 0
def k_bd (n : Nat) (lo hi : Int) (f : Nat → Int32) : Prop := ∀ k, k < n → lo ≤ (f k).toInt ∧ (f k).toInt ≤ hi
theorem k_bd_at {n : Nat} {lo hi : Int} {f : Nat → Int32} (h : k_bd n lo hi f) {i : Int32} (hv : vp_in i n) : lo ≤ (f i.toNatClampNeg).toInt ∧ (f i.toNatClampNeg).toInt ≤ hi := h _ (by
  unfold vp_in at hv
  omega)
theorem k_bd_upd {n : Nat} {lo hi : Int} {f : Nat → Int32} (h : k_bd n lo hi f) {k : Nat} {x : Int32} (hx : lo ≤ x.toInt ∧ x.toInt ≤ hi) : k_bd n lo hi (upd f k x) := fun j hj => by
  by_cases e : j = k
  · subst e; rw [pk_us]; exact hx
  · rw [pk_un e]; exact h j hj
def kshl (n : Int32) : Int32 := 1 <<< (n &&& 31)
def klsh (n : Int32) : Int64 := 1 <<< ((4 * n).toInt64 &&& 63)
def kpop (x : Int32) : Nat := x.toBitVec.toNat
theorem k_kshl {n : Int32} (h : 0 ≤ n ∧ n ≤ 10) : 1 ≤ kshl n ∧ kshl n ≤ 1024 := by
  have h0 : ¬ n < 0 := Int32.not_lt.mpr h.1
  obtain ⟨j, hj, rfl⟩ := nI_of2 (n := 10) (M := 10) (by decide) h0 h.2
  have : ∀ k, k < 11 → 1 ≤ kshl (nI k) ∧ kshl (nI k) ≤ 1024 := by decide +kernel
  exact this j (by omega)
theorem k_klsh {n : Int32} (h : 0 ≤ n ∧ n ≤ 10) : ¬ klsh n = 0 := by
  have h0 : ¬ n < 0 := Int32.not_lt.mpr h.1
  obtain ⟨j, hj, rfl⟩ := nI_of2 (n := 10) (M := 10) (by decide) h0 h.2
  have : ∀ k, k < 11 → ¬ klsh (nI k) = 0 := by decide +kernel
  exact this j (by omega)
theorem k_pop_lt {x : Int32} {j : Nat} (hj : kpop x = j) (h : ¬ x = 0) : kpop (x &&& (x - 1)) < j := by
  subst hj
  unfold kpop
  have h1 : (x &&& (x - 1)).toBitVec.toNat ≤ (x - 1).toBitVec.toNat := by
    rw [Int32.toBitVec_and, BitVec.toNat_and]
    exact Nat.and_le_right
  have h2 : ¬ x.toBitVec.toNat = 0 := fun q => h (Int32.toBitVec_inj.mp (BitVec.eq_of_toNat_eq (by rw [q]; rfl)))
  have h3 : (x - 1).toBitVec.toNat = x.toBitVec.toNat - 1 := by
    rw [Int32.toBitVec_sub, BitVec.toNat_sub]
    have : (1 : Int32).toBitVec.toNat = 1 := rfl
    have h4 := x.toBitVec.isLt
    omega
  omega
theorem k_rem_lt {a b : Int64} {j : Nat} (hj : b.toInt.natAbs = j) (h : ¬ b = 0) : (a - a / b * b).toInt.natAbs < j := by
  subst hj
  have hb : b.toInt ≠ 0 := fun q => h (Int64.toInt_inj.mp (by rw [q]; rfl))
  have e : (a - a / b * b).toInt = a.toInt.tmod b.toInt := by
    have h1 := Int64.le_toInt b
    have h2 := Int64.toInt_lt b
    have h3 : (a.toInt.tmod b.toInt).natAbs < b.toInt.natAbs := by
      rw [Int.natAbs_tmod]
      exact Nat.mod_lt _ (by omega)
    rw [Int64.toInt_sub, Int64.toInt_mul, Int64.toInt_div, Int.bmod_mul_bmod, Int.sub_bmod_bmod]
    have h4 : a.toInt - a.toInt.tdiv b.toInt * b.toInt = a.toInt.tmod b.toInt := by rw [Int.tmod_def, Int.mul_comm]
    rw [h4]
    generalize a.toInt.tmod b.toInt = t at h3 ⊢
    simp only [Int.bmod]
    omega
  rw [e, Int.natAbs_tmod]
  exact Nat.mod_lt _ (by omega)
theorem k_out5 {x : Int32} (h0 : ¬ x = 0) (h1 : ¬ x = 1) (h2 : ¬ x = 2) (h3 : ¬ x = 3) (h4 : ¬ x = 4) : x.toInt < 0 ∨ 4 < x.toInt := by
  have a0 := lv_neT (a := 0) h0 rfl
  have a1 := lv_neT (a := 1) h1 rfl
  have a2 := lv_neT (a := 2) h2 rfl
  have a3 := lv_neT (a := 3) h3 rfl
  have a4 := lv_neT (a := 4) h4 rfl
  omega
theorem k_bm {x : Int} (h1 : -2147483648 ≤ x) (h2 : x ≤ 2147483647) : x.bmod (2 ^ 32) = x := by
  simp only [Int.bmod]
  omega
theorem k_bm64 {x : Int} (h1 : -9223372036854775808 ≤ x) (h2 : x ≤ 9223372036854775807) : x.bmod (2 ^ 64) = x := by
  simp only [Int.bmod]
  omega
theorem k_cle {x y : Int64} : lg_cmp x y ≤ 0 ↔ ¬ y < x := by
  rw [Int64.lt_iff_toInt_lt]
  rcases k_cmp_cases x y with ⟨e, h⟩ | ⟨e, h⟩ | ⟨e, h⟩
  · rw [e]; exact ⟨fun q => absurd q (by decide), fun q => absurd h q⟩
  · rw [e]; exact ⟨fun _ => by omega, fun _ => by decide⟩
  · rw [e]; exact ⟨fun _ => by omega, fun _ => by decide⟩
theorem k_cge {x y : Int64} : 0 ≤ lg_cmp x y ↔ ¬ x < y := by
  rw [Int64.lt_iff_toInt_lt]
  rcases k_cmp_cases x y with ⟨e, h⟩ | ⟨e, h⟩ | ⟨e, h⟩
  · rw [e]; exact ⟨fun _ => by omega, fun _ => by decide⟩
  · rw [e]; exact ⟨fun _ => by omega, fun _ => by decide⟩
  · rw [e]; exact ⟨fun q => absurd q (by decide), fun q => absurd h q⟩
theorem k_nar01 {x : Int32} (h : x = 0 ∨ x = 1) : narrow .boolean (.int x) = .int x := by
  rcases h with h | h
  · rw [h]; decide +kernel
  · rw [h]; decide +kernel
/-- the latest finding behind an answer -/
def kFd (r x : Int32) : Int32 := if r < -10 then -10 - r else x
theorem kFd_ge {r x : Int32} (h : ¬ r < -10) : kFd r x = x := if_neg h
theorem kFd_11 {x : Int32} : kFd (-11) x = 1 := by unfold kFd; rw [if_pos (by decide)]; decide
theorem kFd_12 {x : Int32} : kFd (-12) x = 2 := by unfold kFd; rw [if_pos (by decide)]; decide
theorem kFd_13 {x : Int32} : kFd (-13) x = 3 := by unfold kFd; rw [if_pos (by decide)]; decide
theorem kFd_14 {x : Int32} : kFd (-14) x = 4 := by unfold kFd; rw [if_pos (by decide)]; decide
theorem kFd_15 {x : Int32} : kFd (-15) x = 5 := by unfold kFd; rw [if_pos (by decide)]; decide
/-! texts: what each byte is worth at its place, the first that is worth nothing -/
def wCall (b : Int32) : Int32 := if 97 ≤ b ∧ b ≤ 102 then b - 97 else -1
def wFig (lo b : Int32) : Int32 := if lo ≤ b ∧ b ≤ 57 then b - 48 else -1
def wL (b : Int32) : Int32 := if b = 111 then 6 else if b = 105 then 7 else if b = 119 then 8 else wCall b
def wK (b : Int32) : Int32 := if b = 116 then 0 else if b = 100 then 1 else if b = 112 then 2 else if b = 115 then 3 else -1
def wS (b : Int32) : Int32 := if b = 59 then 0 else -1
def wP (k b : Int32) : Int32 := if k = 0 then wK b else if k = 1 then wCall b else if k = 4 then wS b else wFig 49 b
def wG (k b : Int32) : Int32 := if k = 0 then wFig 49 b else if k = 1 then wFig 48 b else wS b
def kTh7 (n : Int32) : Int32 := if n = 0 then 0 else if n - n / 5 * 5 = 4 then (n + 1) / 5 else -1
def kTh2 (n : Int32) : Int32 := if n = 0 then 0 else if n - n / 3 * 3 = 2 then (n + 1) / 3 else -1
def kBad (f : Nat → Int32) : Nat → Nat → Int32
  | 0, _ => -1
  | k + 1, i => if f i = -1 then nI i else kBad f k (i + 1)
def kFt (th n : Int32) (f : Nat → Int32) : Int32 := if kBad f n.toNatClampNeg 0 = -1 then (if th = -1 then n else -1) else kBad f n.toNatClampNeg 0
def kNm (th n : Int32) (f : Nat → Int32) : Int32 := if kFt th n f = -1 then th else 0
def kv4 (f : Nat → Int32) : Nat → Int32 := fun i => wL (f i)
def kv7 (f : Nat → Int32) : Nat → Int32 := fun i => wP (nI i - nI i / 5 * 5) (f (40 + i))
def kv2 (f : Nat → Int32) : Nat → Int32 := fun i => wG (nI i - nI i / 3 * 3) (f (80 + i))
theorem k_nat {x : Int32} (h : 0 ≤ x) : ∃ j : Nat, j < 2 ^ 31 ∧ x = nI j := nI_of (Int32.not_lt.mpr h)
theorem kBad_le (f : Nat → Int32) : ∀ (m j : Nat), (∀ i, j ≤ i → i < j + m → ¬ f i = -1) → kBad f m j = -1
  | 0, _, _ => rfl
  | m + 1, j, h => by
    rw [kBad, if_neg (h j (Nat.le_refl j) (by omega))]
    exact kBad_le f m (j + 1) (fun i h1 h2 => h i (by omega) (by omega))
theorem kBad_hit (f : Nat → Int32) : ∀ (m j i : Nat), j ≤ i → i < j + m → (∀ q, j ≤ q → q < i → ¬ f q = -1) → f i = -1 → kBad f m j = nI i
  | 0, j, i, h1, h2, _, _ => absurd h2 (by omega)
  | m + 1, j, i, h1, h2, h3, h4 => by
    rw [kBad]
    rcases Nat.lt_or_ge j i with q | q
    · rw [if_neg (h3 j (Nat.le_refl j) q)]
      exact kBad_hit f m (j + 1) i q (by omega) (fun z z1 z2 => h3 z (by omega) z2) h4
    · have e : j = i := by omega
      rw [e, if_pos h4]
theorem kBad_congr {f g : Nat → Int32} : ∀ (m j : Nat), (∀ i, j ≤ i → i < j + m → f i = g i) → kBad f m j = kBad g m j
  | 0, _, _ => rfl
  | m + 1, j, h => by
    rw [kBad, kBad, h j (Nat.le_refl j) (by omega), kBad_congr m (j + 1) (fun i h1 h2 => h i (by omega) (by omega))]
/-- none of the first bytes is bad -/
def k_nb (f : Nat → Int32) (i : Int32) : Prop := ∀ j, j < i.toNatClampNeg → ¬ f j = -1
theorem k_nb_0 {f : Nat → Int32} : k_nb f 0 := fun j h => absurd h (by rw [show (0 : Int32).toNatClampNeg = 0 from rfl]; omega)
theorem k_nb_s {f : Nat → Int32} {i m : Int32} (h0 : 0 ≤ i ∧ i.toInt ≤ m.toInt) (h1 : ¬ m ≤ i) (h : k_nb f i) (hv : ¬ f i.toNatClampNeg = -1) : k_nb f (i + 1) := by
  obtain ⟨a, ha, rfl⟩ := k_nat h0.1
  have hm := Int32.toInt_lt m
  have h2 : ¬ m.toInt ≤ (nI a).toInt := fun q => h1 (Int32.le_iff_toInt_le.mpr q)
  rw [nI_toInt ha] at h2
  intro j hj
  rw [nI_1, nI_clamp (by omega)] at hj
  rcases Nat.lt_or_ge j a with q | q
  · exact h j (by rw [nI_clamp ha]; exact q)
  · rw [nI_clamp ha] at hv
    rw [show j = a by omega]
    exact hv
theorem k_nI_ne {a : Nat} (h : a < 2 ^ 31) : ¬ nI a = -1 := fun q => by
  have := nI_toInt h
  rw [q] at this
  exact absurd this (by rw [show (-1 : Int32).toInt = -1 from rfl]; omega)
/-- the first bad one is here -/
theorem k_ft_bad {f : Nat → Int32} {i m th : Int32} (h0 : 0 ≤ i) (h1 : ¬ m ≤ i) (hm : 0 ≤ m) (h : k_nb f i) (hv : f i.toNatClampNeg = -1) : i = kFt th m f ∧ 0 = kNm th m f := by
  obtain ⟨a, ha, rfl⟩ := k_nat h0
  obtain ⟨n, hn, rfl⟩ := k_nat hm
  have h2 : a < n := by
    rcases Nat.lt_or_ge a n with q | q
    · exact q
    · exact absurd (nI_le q ha) h1
  rw [nI_clamp ha] at hv
  have e : kBad f (nI n).toNatClampNeg 0 = nI a := by
    rw [nI_clamp hn]
    exact kBad_hit f n 0 a (Nat.zero_le a) (by omega) (fun q _ hq => h q (by rw [nI_clamp ha]; exact hq)) hv
  have e2 : kFt th (nI n) f = nI a := by
    unfold kFt
    rw [e, if_neg (k_nI_ne ha)]
  refine ⟨e2.symm, ?_⟩
  unfold kNm
  rw [e2, if_neg (k_nI_ne ha)]
/-- there is no bad one -/
theorem k_ft_good {f : Nat → Int32} {i m th : Int32} (h1 : m ≤ i) (hm : 0 ≤ m) (h : k_nb f i) : kFt th m f = (if th = -1 then m else -1) ∧ kNm th m f = (if th = -1 then 0 else th) := by
  obtain ⟨n, hn, rfl⟩ := k_nat hm
  obtain ⟨a, ha, rfl⟩ := k_nat (Int32.le_trans hm h1)
  have h2 : n ≤ a := (nI_leI hn ha).mp h1
  have e : kBad f (nI n).toNatClampNeg 0 = -1 := by
    rw [nI_clamp hn]
    exact kBad_le f n 0 (fun q _ hq => h q (by rw [nI_clamp ha]; omega))
  have e2 : kFt th (nI n) f = (if th = -1 then nI n else -1) := by
    unfold kFt
    rw [if_pos e]
  refine ⟨e2, ?_⟩
  unfold kNm
  rw [e2]
  by_cases c : th = -1
  · rw [if_pos c, if_pos c, if_neg (k_nI_ne hn)]
  · rw [if_neg c, if_neg c, if_pos rfl]
/-- the class's search: the fault that is known so far -/
def k_ra (f : Nat → Int32) (n i fa : Int32) : Prop := (fa = -1 ∧ k_nb f i) ∨ (¬ fa = -1 ∧ 0 ≤ fa ∧ ¬ n ≤ fa ∧ k_nb f fa ∧ f fa.toNatClampNeg = -1)
theorem k_ra_0 {f : Nat → Int32} {n : Int32} : k_ra f n 0 (-1) := Or.inl ⟨rfl, k_nb_0⟩
theorem k_ra_s {f : Nat → Int32} {n i fa : Int32} (h : k_ra f n i fa) (hf : fa = -1) (h0 : 0 ≤ i) (h1 : ¬ n ≤ i) (hv : ¬ f i.toNatClampNeg = -1) : k_ra f n (i + 1) fa := by
  rcases h with ⟨_, h⟩ | ⟨c, _⟩
  · have q : ¬ n.toInt ≤ i.toInt := fun q => h1 (Int32.le_iff_toInt_le.mpr q)
    exact Or.inl ⟨hf, k_nb_s ⟨h0, by omega⟩ h1 h hv⟩
  · exact absurd hf c
theorem k_ra_b {f : Nat → Int32} {n i fa : Int32} (h : k_ra f n i fa) (hf : fa = -1) (h0 : 0 ≤ i) (h1 : ¬ n ≤ i) (hv : f i.toNatClampNeg = -1) : k_ra f n (i + 1) i := by
  rcases h with ⟨_, h⟩ | ⟨c, _⟩
  · refine Or.inr ⟨fun q => ?_, h0, h1, h, hv⟩
    rw [q] at h0
    exact absurd h0 (by decide)
  · exact absurd hf c
theorem k_ra_C {f : Nat → Int32} {n i fa th : Int32} (h : k_ra f n i fa) (hf : ¬ fa = -1) (hn : 0 ≤ n) : fa = kFt th n f ∧ 0 = kNm th n f := by
  rcases h with ⟨c, _⟩ | ⟨_, h1, h2, h3, h4⟩
  · exact absurd c hf
  · exact k_ft_bad h1 h2 hn h3 h4
theorem k_ra_G {f : Nat → Int32} {n i fa th : Int32} (h : k_ra f n i fa) (hf : fa = -1) (hn : 0 ≤ n) (hi : n ≤ i) : kFt th n f = (if th = -1 then n else -1) ∧ kNm th n f = (if th = -1 then 0 else th) := by
  rcases h with ⟨_, h⟩ | ⟨c, _⟩
  · exact k_ft_good hi hn h
  · exact absurd hf c
theorem k_ra_A {f : Nat → Int32} {n i fa th : Int32} (h : k_ra f n i fa) (hf : fa = -1) (hn : 0 ≤ n) (hi : n ≤ i) (ht : th = -1) : n = kFt th n f ∧ 0 = kNm th n f := by
  have g := k_ra_G (th := th) h hf hn hi
  rw [if_pos ht, if_pos ht] at g
  exact ⟨g.1.symm, g.2.symm⟩
theorem k_ra_B {f : Nat → Int32} {n i fa th : Int32} (h : k_ra f n i fa) (hf : fa = -1) (hn : 0 ≤ n) (hi : n ≤ i) (ht : ¬ th = -1) : fa = kFt th n f ∧ th = kNm th n f := by
  have g := k_ra_G (th := th) h hf hn hi
  rw [if_neg ht, if_neg ht] at g
  exact ⟨hf.trans g.1.symm, g.2.symm⟩
/-- the first things that were read are as they are worth -/
def k_ml (n : Int32) (f g : Nat → Int32) : Prop := ∀ j, j < n.toNatClampNeg → f j = g j
theorem k_ml_0 {f g : Nat → Int32} : k_ml 0 f g := fun j h => absurd h (by rw [show (0 : Int32).toNatClampNeg = 0 from rfl]; omega)
theorem k_ml_s {f g : Nat → Int32} {i m r : Int32} (h0 : 0 ≤ i ∧ i.toInt ≤ m.toInt) (h1 : ¬ m ≤ i) (h : k_ml i f g) (hv : r = g i.toNatClampNeg) : k_ml (i + 1) (upd f i.toNatClampNeg r) g := by
  obtain ⟨a, ha, rfl⟩ := k_nat h0.1
  have hm := Int32.toInt_lt m
  have h2 : ¬ m.toInt ≤ (nI a).toInt := fun q => h1 (Int32.le_iff_toInt_le.mpr q)
  rw [nI_toInt ha] at h2
  intro j hj
  rw [nI_1, nI_clamp (by omega)] at hj
  rw [nI_clamp ha] at hv ⊢
  by_cases e : j = a
  · rw [e, pk_us, hv]
  · rw [pk_un e]
    exact h j (by rw [nI_clamp ha]; omega)
/-- of things with c bytes each, of which the first d are kept: what has been read of them -/
def k_mp (c d : Nat) (n : Int32) (f g : Nat → Int32) : Prop := ∀ j, j < n.toNatClampNeg → j % c < d → f (d * (j / c) + j % c) = g j
theorem k_mp_0 {c d : Nat} {f g : Nat → Int32} : k_mp c d 0 f g := fun j h => absurd h (by rw [show (0 : Int32).toNatClampNeg = 0 from rfl]; omega)
theorem k_mp_n {c d : Nat} {f g : Nat → Int32} {i m k : Int32} (h0 : 0 ≤ i ∧ i.toInt ≤ m.toInt) (h1 : ¬ m ≤ i) (hc : 0 < c) (hc2 : c < 2 ^ 31) (hd : d < 2 ^ 31) (hk : k = i - i / nI c * nI c) (h : k_mp c d i f g) (hv : nI d ≤ k) : k_mp c d (i + 1) f g := by
  obtain ⟨a, ha, rfl⟩ := k_nat h0.1
  have hm := Int32.toInt_lt m
  have h2 : ¬ m.toInt ≤ (nI a).toInt := fun q => h1 (Int32.le_iff_toInt_le.mpr q)
  rw [nI_toInt ha] at h2
  rw [hk, pk_rem ha hc hc2] at hv
  have h3 : d ≤ a % c := (nI_leI hd (by have := Nat.mod_le a c; omega)).mp hv
  intro j hj hq
  rw [nI_1, nI_clamp (by omega)] at hj
  rcases Nat.lt_or_ge j a with q | q
  · exact h j (by rw [nI_clamp ha]; exact q) hq
  · have e : j = a := by omega
    rw [e] at hq
    exact absurd hq (by omega)
theorem k_mp_k {c d : Nat} {f g : Nat → Int32} {i m k r : Int32} (h0 : 0 ≤ i ∧ i.toInt ≤ m.toInt) (h1 : ¬ m ≤ i) (hm1 : m.toInt ≤ 1000) (hc : 0 < c) (hc2 : c ≤ 5) (hdc : d ≤ c) (hk : k = i - i / nI c * nI c) (h : k_mp c d i f g) (hv : r = g i.toNatClampNeg) (hkd : ¬ nI d ≤ k) : k_mp c d (i + 1) (upd f (nI d * (i / nI c) + k).toNatClampNeg r) g := by
  obtain ⟨a, ha, rfl⟩ := k_nat h0.1
  have h2 : ¬ m.toInt ≤ (nI a).toInt := fun q => h1 (Int32.le_iff_toInt_le.mpr q)
  have h0' := h0.2
  rw [nI_toInt ha] at h2 h0'
  rw [hk, pk_rem ha hc (by omega)] at hkd ⊢
  have h3 : a % c < d := by
    rcases Nat.lt_or_ge (a % c) d with q | q
    · exact q
    · exact absurd (nI_le q (by have := Nat.mod_le a c; omega)) hkd
  have h4 : a / c ≤ a := Nat.div_le_self a c
  have h5 : d * (a / c) ≤ 5 * a := Nat.mul_le_mul (by omega) h4
  rw [pk_div ha hc (by omega), pk_mul, nI_add, nI_clamp (by omega)]
  rw [nI_clamp ha] at hv
  intro j hj hq
  rw [nI_1, nI_clamp (by omega)] at hj
  rcases Nat.lt_or_ge j a with q | q
  · have hne : d * (j / c) + j % c ≠ d * (a / c) + a % c := by
      intro e
      have e1 : j / c ≤ a / c := Nat.div_le_div_right (by omega)
      rcases Nat.lt_or_ge (j / c) (a / c) with z | z
      · have : d * (j / c + 1) ≤ d * (a / c) := Nat.mul_le_mul (Nat.le_refl d) z
        rw [Nat.mul_add] at this
        omega
      · have e2 : j / c = a / c := by omega
        rw [e2] at e
        have e3 : j % c = a % c := by omega
        have := Nat.div_add_mod j c
        have := Nat.div_add_mod a c
        rw [e2, e3] at *
        omega
    rw [pk_un hne]
    exact h j (by rw [nI_clamp ha]; exact q) hq
  · have e : j = a := by omega
    rw [e, pk_us, hv]
/-- what stands at a place of a text of the class -/
def kAt (n : Int32) (f : Nat → Int32) (k : Int32) : Int32 := if 0 ≤ k ∧ k < n then f k.toNatClampNeg else -1
theorem kAt_eq {n : Int32} {f : Nat → Int32} {k : Int32} (h : 0 ≤ k ∧ k < n) : kAt n f k = f k.toNatClampNeg := if_pos h
/-! the reference's reading of bytes: -9 where one is worth nothing -/
def k_D (r v : Int32) : Prop := (r = -9 ∧ v = -1) ∨ (¬ r = -9 ∧ ¬ r = -1 ∧ r = v)
theorem k_D_bad {v : Int32} (h : v = -1) : k_D (-9) v := Or.inl ⟨rfl, h⟩
theorem k_D_mk {r v : Int32} (h : r = v) (h1 : ¬ r = -9) (h2 : ¬ r = -1) : k_D r v := Or.inr ⟨h1, h2, h⟩
theorem k_D_ok {r v : Int32} (h : k_D r v) (c : ¬ r = -9) : r = v ∧ ¬ v = -1 := by
  rcases h with h | ⟨_, h1, h2⟩
  · exact absurd h.1 c
  · exact ⟨h2, fun q => h1 (h2.trans q)⟩
theorem k_D_no {r v : Int32} (h : k_D r v) (c : r = -9) : v = -1 := by
  rcases h with h | ⟨h, _, _⟩
  · exact h.2
  · exact absurd c h
theorem d_mile {b r : Int32} (h1 : ¬ b = 111) (h2 : ¬ b = 105) (h3 : ¬ b = 119) (h : k_D r (wCall b)) : k_D r (wL b) := by
  unfold wL
  rw [if_neg h1, if_neg h2, if_neg h3]
  exact h
theorem d_p1 {b r : Int32} (h : k_D r (wCall b)) : k_D r (wP 1 b) := by
  unfold wP
  rw [if_neg (by decide), if_pos rfl]
  exact h
theorem d_pf {k b r : Int32} (h0 : ¬ k = 0) (h1 : ¬ k = 1) (h4 : ¬ k = 4) (h : k_D r (wFig (48 + 1) b)) : k_D r (wP k b) := by
  unfold wP
  rw [if_neg h0, if_neg h1, if_neg h4]
  exact h
theorem d_g {k b r : Int32} (hk : 0 ≤ k ∧ k ≤ 2) (h2 : ¬ k = 2) (h : k_D r (wFig (48 + (1 - k)) b)) : k_D r (wG k b) := by
  have h0 : ¬ k < 0 := Int32.not_lt.mpr hk.1
  obtain ⟨j, hj, rfl⟩ := nI_of2 (n := 2) (M := 2) (by decide) h0 hk.2
  unfold wG
  match j, hj with
  | 0, _ => rw [if_pos (by decide)]; exact h
  | 1, _ => rw [if_neg (by decide), if_pos (by decide)]; exact h
  | 2, _ => exact absurd rfl h2
theorem kv7_at {f : Nat → Int32} {i : Int32} (h : 0 ≤ i ∧ i.toInt ≤ 100) : kv7 f i.toNatClampNeg = wP (i - i / 5 * 5) (f (40 + i).toNatClampNeg) := by
  obtain ⟨a, ha, rfl⟩ := k_nat h.1
  have h2 := h.2
  rw [nI_toInt ha] at h2
  unfold kv7
  rw [nI_clamp ha, show (40 : Int32) = nI 40 from rfl, nI_add, nI_clamp (by omega)]
theorem kv2_at {f : Nat → Int32} {i : Int32} (h : 0 ≤ i ∧ i.toInt ≤ 100) : kv2 f i.toNatClampNeg = wG (i - i / 3 * 3) (f (80 + i).toNatClampNeg) := by
  obtain ⟨a, ha, rfl⟩ := k_nat h.1
  have h2 := h.2
  rw [nI_toInt ha] at h2
  unfold kv2
  rw [nI_clamp ha, show (80 : Int32) = nI 80 from rfl, nI_add, nI_clamp (by omega)]
theorem k_th7 {n p : Int32} (h : 0 ≤ n ∧ n.toInt ≤ 100) (hr : n - n / 5 * 5 = 4) (hp : 5 * p.toInt ≤ n.toInt + 1 ∧ n.toInt + 1 < 5 * p.toInt + 5) : p = kTh7 n := by
  obtain ⟨a, ha, rfl⟩ := k_nat h.1
  have h2 := h.2
  rw [nI_toInt ha] at h2 hp
  rw [show (5 : Int32) = nI 5 from rfl, pk_rem ha (by decide) (by decide)] at hr
  have hr2 : a % 5 = 4 := (nI_eq (by omega) (by decide)).mp hr
  unfold kTh7
  rw [if_neg (nI_ne0 (by omega) ha), show (5 : Int32) = nI 5 from rfl, pk_rem ha (by decide) (by decide), if_pos (by rw [hr2]; rfl), nI_1, pk_div (by omega) (by decide) (by decide)]
  have e : p.toInt = ((a + 1) / 5 : Nat) := by omega
  exact Int32.toInt_inj.mp (by rw [e, nI_toInt (by omega)])
theorem k_th2 {n p : Int32} (h : 0 ≤ n ∧ n.toInt ≤ 100) (hr : n - n / 3 * 3 = 2) (hp : 3 * p.toInt ≤ n.toInt + 1 ∧ n.toInt + 1 < 3 * p.toInt + 3) : p = kTh2 n := by
  obtain ⟨a, ha, rfl⟩ := k_nat h.1
  have h2 := h.2
  rw [nI_toInt ha] at h2 hp
  rw [show (3 : Int32) = nI 3 from rfl, pk_rem ha (by decide) (by decide)] at hr
  have hr2 : a % 3 = 2 := (nI_eq (by omega) (by decide)).mp hr
  unfold kTh2
  rw [if_neg (nI_ne0 (by omega) ha), show (3 : Int32) = nI 3 from rfl, pk_rem ha (by decide) (by decide), if_pos (by rw [hr2]; rfl), nI_1, pk_div (by omega) (by decide) (by decide)]
  have e : p.toInt = ((a + 1) / 3 : Nat) := by omega
  exact Int32.toInt_inj.mp (by rw [e, nI_toInt (by omega)])
theorem k_ml_at {n : Int32} {f g : Nat → Int32} (h : k_ml n f g) {i : Int32} (hi : 0 ≤ i ∧ i < n) : f i.toNatClampNeg = g i.toNatClampNeg := by
  obtain ⟨a, ha, rfl⟩ := k_nat hi.1
  obtain ⟨m, hm, rfl⟩ := k_nat (Int32.le_of_lt (Int32.lt_of_le_of_lt hi.1 hi.2))
  exact h _ (by rw [nI_clamp ha, nI_clamp hm]; exact (nI_ltI ha hm).mp hi.2)
/-- a thing's part, as it was read -/
theorem k_mp_at {c d : Nat} {n p w : Int32} {f g : Nat → Int32} (hc : 0 < c) (hc5 : c ≤ 5) (hdc : d ≤ c) (h : k_mp c d n f g) (hp : 0 ≤ p ∧ p.toInt ≤ 8) (hw : 0 ≤ w ∧ w < nI d) (hn : c * p.toInt + w.toInt < n.toInt) : f (nI d * p + w).toNatClampNeg = g (nI c * p + w).toNatClampNeg := by
  obtain ⟨a, ha, rfl⟩ := k_nat hp.1
  obtain ⟨b, hb, rfl⟩ := k_nat hw.1
  have hp2 := hp.2
  rw [nI_toInt ha] at hp2 hn
  rw [nI_toInt hb] at hn
  have hn1 := Int32.toInt_lt n
  have hb2 : b < d := (nI_ltI hb (by omega)).mp hw.2
  obtain ⟨m, hm, rfl⟩ := k_nat (x := n) (Int32.le_iff_toInt_le.mpr (by rw [show (0 : Int32).toInt = 0 from rfl]; have : (0 : Int) ≤ c * a := Int.mul_nonneg (by omega) (by omega); omega))
  rw [nI_toInt hm] at hn
  have hca : c * a ≤ 5 * 8 := Nat.mul_le_mul hc5 (by omega)
  have hda : d * a ≤ 5 * 8 := Nat.mul_le_mul (by omega) (by omega)
  have hn2 : c * a + b < m := by
    have : ((c * a + b : Nat) : Int) < m := by rw [Int.natCast_add, Int.natCast_mul]; exact hn
    omega
  rw [pk_mul, nI_add, nI_clamp (by omega), pk_mul, nI_add, nI_clamp (by omega)]
  have e1 : (c * a + b) / c = a := by rw [Nat.mul_add_div hc, Nat.div_eq_of_lt (by omega), Nat.add_zero]
  have e2 : (c * a + b) % c = b := by rw [Nat.mul_add_mod, Nat.mod_eq_of_lt (by omega)]
  have := h (c * a + b) (by rw [nI_clamp hm]; exact hn2) (by rw [e2]; exact hb2)
  rw [e1, e2] at this
  exact this
/-- how many things there are: none, or as many as the bytes tell -/
theorem k_nm {th n : Int32} {f : Nat → Int32} (hn : 0 ≤ n) (P : Int32 → Prop) (h0 : P 0) (h1 : ¬ th = -1 → P th) : P (kNm th n f) := by
  unfold kNm
  by_cases c : kFt th n f = -1
  · rw [if_pos c]
    refine h1 (fun q => ?_)
    unfold kFt at c
    by_cases d : kBad f n.toNatClampNeg 0 = -1
    · rw [if_pos d, if_pos q] at c
      rw [c] at hn
      exact absurd hn (by decide)
    · rw [if_neg d] at c
      exact d c
  · rw [if_neg c]
    exact h0
/-- what was read of things with several bytes each; nothing is said where there are none -/
def k_mq (c d : Nat) (v n : Int32) (f g : Nat → Int32) : Prop := v = 0 ∨ k_mp c d n f g
theorem k_mq_mp {c d : Nat} {v n : Int32} {f g : Nat → Int32} (h : k_mq c d v n f g) (hv : ¬ v = 0) : k_mp c d n f g := by
  rcases h with h | h
  · exact absurd h hv
  · exact h
theorem k_lt4 {n p : Int32} {f : Nat → Int32} (hn : 0 ≤ n) (hp : 0 ≤ p ∧ p < kNm n n f) : p < n := by
  refine k_nm (th := n) (n := n) (f := f) hn (fun v => 0 ≤ p ∧ p < v → p < n) (fun q => absurd q.2 (Int32.not_lt.mpr q.1)) (fun _ q => q.2) hp
theorem k_lt7 {n p : Int32} {f : Nat → Int32} (hn : 0 ≤ n ∧ n.toInt ≤ 100) (hp : 0 ≤ p ∧ p < kNm (kTh7 n) n f) : 5 * p.toInt + 4 ≤ n.toInt := by
  refine k_nm (th := kTh7 n) (n := n) (f := f) hn.1 (fun v => 0 ≤ p ∧ p < v → 5 * p.toInt + 4 ≤ n.toInt) (fun q => absurd q.2 (Int32.not_lt.mpr q.1)) (fun ht q => ?_) hp
  obtain ⟨a, ha, rfl⟩ := k_nat hn.1
  obtain ⟨b, hb, rfl⟩ := k_nat q.1
  have h2 := hn.2
  rw [nI_toInt ha] at h2 ⊢
  rw [nI_toInt hb]
  have q2 := q.2
  unfold kTh7 at ht q2
  by_cases c : nI a = 0
  · rw [if_pos c] at q2
    exact absurd q2 (nI_pos hb)
  · rw [if_neg c] at ht q2
    by_cases d : nI a - nI a / 5 * 5 = 4
    · rw [if_pos d, show (5 : Int32) = nI 5 from rfl, nI_1, pk_div (by omega) (by decide) (by decide)] at q2
      rw [show (5 : Int32) = nI 5 from rfl, pk_rem ha (by decide) (by decide)] at d
      have d2 : a % 5 = 4 := (nI_eq (by omega) (by decide)).mp d
      have q3 : b < (a + 1) / 5 := (nI_ltI hb (by omega)).mp q2
      omega
    · rw [if_neg d] at ht
      exact absurd rfl ht
theorem k_lt2 {n p : Int32} {f : Nat → Int32} (hn : 0 ≤ n ∧ n.toInt ≤ 100) (hp : 0 ≤ p ∧ p < kNm (kTh2 n) n f) : 3 * p.toInt + 2 ≤ n.toInt := by
  refine k_nm (th := kTh2 n) (n := n) (f := f) hn.1 (fun v => 0 ≤ p ∧ p < v → 3 * p.toInt + 2 ≤ n.toInt) (fun q => absurd q.2 (Int32.not_lt.mpr q.1)) (fun ht q => ?_) hp
  obtain ⟨a, ha, rfl⟩ := k_nat hn.1
  obtain ⟨b, hb, rfl⟩ := k_nat q.1
  have h2 := hn.2
  rw [nI_toInt ha] at h2 ⊢
  rw [nI_toInt hb]
  have q2 := q.2
  unfold kTh2 at ht q2
  by_cases c : nI a = 0
  · rw [if_pos c] at q2
    exact absurd q2 (nI_pos hb)
  · rw [if_neg c] at ht q2
    by_cases d : nI a - nI a / 3 * 3 = 2
    · rw [if_pos d, show (3 : Int32) = nI 3 from rfl, nI_1, pk_div (by omega) (by decide) (by decide)] at q2
      rw [show (3 : Int32) = nI 3 from rfl, pk_rem ha (by decide) (by decide)] at d
      have d2 : a % 3 = 2 := (nI_eq (by omega) (by decide)).mp d
      have q3 : b < (a + 1) / 3 := (nI_ltI hb (by omega)).mp q2
      omega
    · rw [if_neg d] at ht
      exact absurd rfl ht
/-- where a byte comes to -/
def kIx (t : Int32) (f : Nat → Int32) : Nat := if t = 0 then (f 0).toNatClampNeg else if t = 1 then 40 + (f 1).toNatClampNeg else 80 + (f 2).toNatClampNeg
theorem kIx_0 {f : Nat → Int32} : (0 + f 0).toNatClampNeg = kIx 0 f := by
  unfold kIx
  rw [if_pos rfl, Int32.zero_add]
theorem kIx_1 {f : Nat → Int32} (h : 0 ≤ (f 1).toInt ∧ (f 1).toInt ≤ 39) : (40 + f 1).toNatClampNeg = kIx 1 f := by
  unfold kIx
  rw [if_neg (by decide), if_pos rfl]
  obtain ⟨a, ha, e⟩ := k_nat (x := f 1) (Int32.le_iff_toInt_le.mpr (by rw [show (0 : Int32).toInt = 0 from rfl]; exact h.1))
  rw [e] at h ⊢
  rw [nI_toInt ha] at h
  rw [show (40 : Int32) = nI 40 from rfl, nI_add, nI_clamp (by omega), nI_clamp ha]
theorem kIx_2 {f : Nat → Int32} (h : 0 ≤ (f 2).toInt ∧ (f 2).toInt ≤ 23) : (80 + f 2).toNatClampNeg = kIx 2 f := by
  unfold kIx
  rw [if_neg (by decide), if_neg (by decide)]
  obtain ⟨a, ha, e⟩ := k_nat (x := f 2) (Int32.le_iff_toInt_le.mpr (by rw [show (0 : Int32).toInt = 0 from rfl]; exact h.1))
  rw [e] at h ⊢
  rw [nI_toInt ha] at h
  rw [show (80 : Int32) = nI 80 from rfl, nI_add, nI_clamp (by omega), nI_clamp ha]
/-! flights: geese, moods -/
abbrev kGT : Type := Int32 × Int32 × Int32 × Int32
def kfu (b a : Int32) : Nat := (b.toInt - a.toInt).toNat
def kCh (h : Int32) : Int32 := if 0 < h - 5 then h - 5 else 0
def kIns (kb ki so c h : Int32) : Int32 := if kb = 1 ∨ ki = 1 ∨ (ki = 3 ∧ 7 ≤ h) then 0 else if ki = 2 then (if c = so then 2 * (10 - h) else 10 - h) + 1 else (if c = so then 2 * (10 - h) else 10 - h)
def kBt (le c : Int32) : Int32 := (le >>> (c &&& 31)) &&& 1
def gTire (g : kGT) : kGT := (g.1, g.2.1, (if g.2.2.2 + 1 = g.2.1 then g.2.2.1 - 1 else g.2.2.1), (if g.2.2.2 + 1 = g.2.1 then 0 else g.2.2.2 + 1))
def gRest (g : kGT) : kGT := (g.1, g.2.1, (if g.2.2.1 < g.1 then g.2.2.1 + 1 else g.2.2.1), g.2.2.2)
def gMile (ov : Int32) (P : kGT × kGT) : kGT × kGT := if ov = 8 then (gTire P.2, gTire P.1) else (gTire P.1, gTire P.2)
def gIsl (ov : Int32) (P : kGT × kGT) : kGT × kGT := if ov = 7 then (gRest P.1, gRest P.2) else P
abbrev gFail (w : Int32) (P : kGT × kGT) : Prop := P.1.2.2.1 < (w + 1) / 2 ∨ P.2.2.2.1 < w / 2
/-- the mile on which they no longer carry, or the last but one -/
def kCt (ov : Int32 → Int32) (w : Int32) : Nat → Int32 → kGT × kGT → Int32
  | 0, i, _ => i
  | k + 1, i, P => if gFail w (gMile (ov i) P) then i else kCt ov w k (i + 1) (gIsl (ov i) (gMile (ov i) P))
/-- he flies on: the mile, anger, cold, how it ends -/
def kGo (ov : Int32 → Int32) (ct le ki so be : Int32) (hf : Int32 → Int32) : Nat → Int32 → Int32 → Int32 → Int32 → Int32 × Int32 × Int32 × Int32
  | 0, i, a, c, e => (i, a, c, e)
  | k + 1, i, a, c, e =>
    if ct ≤ i then (i, a, c, 1)
    else if 20 < c + kCh (hf i) then (i, a, c + kCh (hf i), 2)
    else if ov i < 6 then
      (if be < a + kIns (kBt le (ov i)) ki so (ov i) (hf i) then (i, a + kIns (kBt le (ov i)) ki so (ov i) (hf i), c + kCh (hf i), 3)
       else kGo ov ct le ki so be hf k (i + 1) (a + kIns (kBt le (ov i)) ki so (ov i) (hf i)) (c + kCh (hf i)) e)
    else if ov i = 7 then kGo ov ct le ki so be hf k (i + 1) 0 0 e
    else kGo ov ct le ki so be hf k (i + 1) a (c + kCh (hf i)) e
theorem kfu_s {b i : Int32} (h : ¬ b ≤ i) : kfu b i = kfu b (i + 1) + 1 := by
  have h1 : ¬ b.toInt ≤ i.toInt := fun q => h (Int32.le_iff_toInt_le.mpr q)
  have h2 := Int32.toInt_lt b
  have h3 := Int32.le_toInt i
  have e : (i + 1).toInt = i.toInt + 1 := by
    rw [Int32.toInt_add, show (1 : Int32).toInt = 1 from rfl, k_bm (by omega) (by omega)]
  unfold kfu
  rw [e]
  omega
theorem kfu_0 {b i : Int32} (h : b ≤ i) : kfu b i = 0 := by
  have h1 := Int32.le_iff_toInt_le.mp h
  unfold kfu
  omega
/-- so far he flew as told -/
def k_go (F : Nat → Int32 → Int32 → Int32 → Int32 → Int32 × Int32 × Int32 × Int32) (to i a c e : Int32) (r : Int32 × Int32 × Int32 × Int32) : Prop := F (kfu to i) i a c e = r
section KGO
variable {ov : Int32 → Int32} {ct le ki so be : Int32} {hf : Int32 → Int32} {to i a c e ch q : Int32} {r : Int32 × Int32 × Int32 × Int32}
theorem kGo_end (h : k_go (kGo ov ct le ki so be hf) to i a c e r) (hl : to ≤ i) (hi : i ≤ to) : to = r.1 ∧ a = r.2.1 ∧ c = r.2.2.1 ∧ e = r.2.2.2 := by
  unfold k_go at h
  rw [kfu_0 hl, kGo] at h
  have e1 : i = to := Int32.toInt_inj.mp (by have := Int32.le_iff_toInt_le.mp hl; have := Int32.le_iff_toInt_le.mp hi; omega)
  rw [← h, e1]
  exact ⟨rfl, rfl, rfl, rfl⟩
theorem kGo_f1 (h : k_go (kGo ov ct le ki so be hf) to i a c e r) (hl : ¬ to ≤ i) (c1 : ct ≤ i) : i = r.1 ∧ a = r.2.1 ∧ c = r.2.2.1 ∧ 1 = r.2.2.2 := by
  unfold k_go at h
  rw [kfu_s hl, kGo, if_pos c1] at h
  rw [← h]
  exact ⟨rfl, rfl, rfl, rfl⟩
theorem kGo_f2 (h : k_go (kGo ov ct le ki so be hf) to i a c e r) (hl : ¬ to ≤ i) (c1 : ¬ ct ≤ i) (hc : kCh (hf i) = ch) (c2 : 20 < c + ch) : i = r.1 ∧ a = r.2.1 ∧ c + ch = r.2.2.1 ∧ 2 = r.2.2.2 := by
  unfold k_go at h
  rw [kfu_s hl, kGo, if_neg c1, hc, if_pos c2] at h
  rw [← h]
  exact ⟨rfl, rfl, rfl, rfl⟩
theorem kGo_f3 (h : k_go (kGo ov ct le ki so be hf) to i a c e r) (hl : ¬ to ≤ i) (c1 : ¬ ct ≤ i) (hc : kCh (hf i) = ch) (c2 : ¬ 20 < c + ch) (c3 : ov i < 6) (hq : kIns (kBt le (ov i)) ki so (ov i) (hf i) = q) (c4 : be < a + q) : i = r.1 ∧ a + q = r.2.1 ∧ c + ch = r.2.2.1 ∧ 3 = r.2.2.2 := by
  unfold k_go at h
  rw [kfu_s hl, kGo, if_neg c1, hc, if_neg c2, if_pos c3, hq, if_pos c4] at h
  rw [← h]
  exact ⟨rfl, rfl, rfl, rfl⟩
theorem kGo_t (h : k_go (kGo ov ct le ki so be hf) to i a c e r) (hl : ¬ to ≤ i) (c1 : ¬ ct ≤ i) (hc : kCh (hf i) = ch) (c2 : ¬ 20 < c + ch) (c3 : ov i < 6) (hq : kIns (kBt le (ov i)) ki so (ov i) (hf i) = q) (c4 : ¬ be < a + q) : k_go (kGo ov ct le ki so be hf) to (i + 1) (a + q) (c + ch) e r := by
  unfold k_go at h ⊢
  rw [kfu_s hl, kGo, if_neg c1, hc, if_neg c2, if_pos c3, hq, if_neg c4] at h
  exact h
theorem kGo_i (h : k_go (kGo ov ct le ki so be hf) to i a c e r) (hl : ¬ to ≤ i) (c1 : ¬ ct ≤ i) (hc : kCh (hf i) = ch) (c2 : ¬ 20 < c + ch) (c3 : ¬ ov i < 6) (c4 : ov i = 7) : k_go (kGo ov ct le ki so be hf) to (i + 1) 0 0 e r := by
  unfold k_go at h ⊢
  rw [kfu_s hl, kGo, if_neg c1, hc, if_neg c2, if_neg c3, if_pos c4] at h
  exact h
theorem kGo_o (h : k_go (kGo ov ct le ki so be hf) to i a c e r) (hl : ¬ to ≤ i) (c1 : ¬ ct ≤ i) (hc : kCh (hf i) = ch) (c2 : ¬ 20 < c + ch) (c3 : ¬ ov i < 6) (c4 : ¬ ov i = 7) : k_go (kGo ov ct le ki so be hf) to (i + 1) a (c + ch) e r := by
  unfold k_go at h ⊢
  rw [kfu_s hl, kGo, if_neg c1, hc, if_neg c2, if_neg c3, if_neg c4] at h
  exact h
end KGO
/-- so far the geese flew as told -/
def k_ct (ov : Int32 → Int32) (w b i : Int32) (g d : kGT) (r : Int32) : Prop := kCt ov w (kfu b i) i (g, d) = r
section KCT
variable {ov : Int32 → Int32} {w b i r o t s f o' t' s' f' s1 f1 s1' f1' s2 s2' : Int32}
theorem kCt_end (h : k_ct ov w b i (o, t, s, f) (o', t', s', f') r) (hl : b ≤ i) (hi : i ≤ b) : b = r := by
  unfold k_ct at h
  rw [kfu_0 hl, kCt] at h
  rw [← h]
  exact Int32.toInt_inj.mp (by have := Int32.le_iff_toInt_le.mp hl; have := Int32.le_iff_toInt_le.mp hi; omega)
/-- a mile without wind -/
theorem kCt_f (h : k_ct ov w b i (o, t, s, f) (o', t', s', f') r) (hl : ¬ b ≤ i) (c8 : ¬ ov i = 8) (e1 : s1 = if f + 1 = t then s - 1 else s) (e3 : s1' = if f' + 1 = t' then s' - 1 else s') (c : s1 < (w + 1) / 2 ∨ s1' < w / 2) : i = r := by
  unfold k_ct at h
  rw [kfu_s hl, kCt] at h
  simp only [gMile, if_neg c8, gTire, gFail, ← e1, ← e3] at h
  rw [if_pos c] at h
  exact h
theorem kCt_fw (h : k_ct ov w b i (o, t, s, f) (o', t', s', f') r) (hl : ¬ b ≤ i) (c8 : ov i = 8) (e1 : s1 = if f' + 1 = t' then s' - 1 else s') (e3 : s1' = if f + 1 = t then s - 1 else s) (c : s1 < (w + 1) / 2 ∨ s1' < w / 2) : i = r := by
  unfold k_ct at h
  rw [kfu_s hl, kCt] at h
  simp only [gMile, if_pos c8, gTire, gFail, ← e1, ← e3] at h
  rw [if_pos c] at h
  exact h
theorem kCt_o (h : k_ct ov w b i (o, t, s, f) (o', t', s', f') r) (hl : ¬ b ≤ i) (c8 : ¬ ov i = 8) (c7 : ¬ ov i = 7) (e1 : s1 = if f + 1 = t then s - 1 else s) (e2 : f1 = if f + 1 = t then 0 else f + 1) (e3 : s1' = if f' + 1 = t' then s' - 1 else s') (e4 : f1' = if f' + 1 = t' then 0 else f' + 1) (ca : ¬ s1 < (w + 1) / 2) (cb : ¬ s1' < w / 2) : k_ct ov w b (i + 1) (o, t, s1, f1) (o', t', s1', f1') r := by
  unfold k_ct at h ⊢
  rw [kfu_s hl, kCt] at h
  simp only [gMile, if_neg c8, gTire, gFail, gIsl, if_neg c7, ← e1, ← e2, ← e3, ← e4] at h
  rw [if_neg (fun z => z.elim ca cb)] at h
  exact h
theorem kCt_w (h : k_ct ov w b i (o, t, s, f) (o', t', s', f') r) (hl : ¬ b ≤ i) (c8 : ov i = 8) (e1 : s1 = if f' + 1 = t' then s' - 1 else s') (e2 : f1 = if f' + 1 = t' then 0 else f' + 1) (e3 : s1' = if f + 1 = t then s - 1 else s) (e4 : f1' = if f + 1 = t then 0 else f + 1) (ca : ¬ s1 < (w + 1) / 2) (cb : ¬ s1' < w / 2) : k_ct ov w b (i + 1) (o', t', s1, f1) (o, t, s1', f1') r := by
  have c7 : ¬ ov i = 7 := by rw [c8]; decide
  unfold k_ct at h ⊢
  rw [kfu_s hl, kCt] at h
  simp only [gMile, if_pos c8, gTire, gFail, gIsl, if_neg c7, ← e1, ← e2, ← e3, ← e4] at h
  rw [if_neg (fun z => z.elim ca cb)] at h
  exact h
theorem kCt_i (h : k_ct ov w b i (o, t, s, f) (o', t', s', f') r) (hl : ¬ b ≤ i) (c7 : ov i = 7) (e1 : s1 = if f + 1 = t then s - 1 else s) (e2 : f1 = if f + 1 = t then 0 else f + 1) (e3 : s1' = if f' + 1 = t' then s' - 1 else s') (e4 : f1' = if f' + 1 = t' then 0 else f' + 1) (ca : ¬ s1 < (w + 1) / 2) (cb : ¬ s1' < w / 2) (r1 : s2 = if s1 < o then s1 + 1 else s1) (r2 : s2' = if s1' < o' then s1' + 1 else s1') : k_ct ov w b (i + 1) (o, t, s2, f1) (o', t', s2', f1') r := by
  have c8 : ¬ ov i = 8 := by rw [c7]; decide
  unfold k_ct at h ⊢
  rw [kfu_s hl, kCt] at h
  simp only [gMile, if_neg c8, gTire, gFail, gIsl, gRest, if_pos c7, ← e1, ← e2, ← e3, ← e4, ← r1, ← r2] at h
  rw [if_neg (fun z => z.elim ca cb)] at h
  exact h
/-- the last mile is an island, and nobody rests there -/
theorem kCt_l {G D : kGT} (h : k_ct ov w b i (o, t, s, f) (o', t', s', f') r) (hl : ¬ b ≤ i) (c7 : ov i = 7) (e1 : s1 = if f + 1 = t then s - 1 else s) (e3 : s1' = if f' + 1 = t' then s' - 1 else s') (ca : ¬ s1 < (w + 1) / 2) (cb : ¬ s1' < w / 2) (hb : b ≤ i + 1) : k_ct ov w b (i + 1) G D r := by
  have c8 : ¬ ov i = 8 := by rw [c7]; decide
  unfold k_ct at h ⊢
  rw [kfu_s hl, kCt] at h
  simp only [gMile, if_neg c8, gTire, gFail, ← e1, ← e3] at h
  rw [if_neg (fun z => z.elim ca cb), kfu_0 hb, kCt] at h
  rw [kfu_0 hb, kCt]
  exact h
end KCT
theorem kCh_p {h : Int32} (c : 0 < h - 5) : kCh h = h - 5 := if_pos c
theorem kCh_n {h : Int32} (c : ¬ 0 < h - 5) : kCh h = 0 := if_neg c
/-- a flight's part, in the class -/
def kIt (n : Int32) (f : Nat → Int32) (k i : Int32) : Int32 := if 0 ≤ k ∧ k < n then f (4 * k + i).toNatClampNeg else -1
/-! the reference's flights -/
def kG0 (g : Nat → Int32) (p : Int32) : Int32 := g (2 * p).toNatClampNeg
def kG1 (g : Nat → Int32) (p : Int32) : Int32 := g ((2 * p) + 1).toNatClampNeg
def kP0 (f : Nat → Int32) (p : Int32) : Int32 := f (4 * p).toNatClampNeg
def kP1 (f : Nat → Int32) (p : Int32) : Int32 := f ((4 * p) + 1).toNatClampNeg
def kP2 (f : Nat → Int32) (p : Int32) : Int32 := f ((4 * p) + 2).toNatClampNeg
def kP3 (f : Nat → Int32) (p : Int32) : Int32 := f ((4 * p) + 3).toNatClampNeg
def kM (f : Nat → Int32) (m : Int32) : Int32 := f m.toNatClampNeg
def kPS (g p s f : Nat → Int32) : kGT × kGT := ((kG0 g (p 0), kG1 g (p 0), s 0, f 0), (kG0 g (p 1), kG1 g (p 1), s 1, f 1))
def kAn (ki so c h : Int32) : Int32 := if ki = 1 ∨ (ki = 3 ∧ 6 < h) then 0 else if ki = 2 then (if so = c then 2 * (10 - h) else 10 - h) + 1 else (if so = c then 2 * (10 - h) else 10 - h)
def kAd (ov le ca m ki so h : Int32) : Int32 := if ov < 6 ∧ ¬ kBt le ov = 1 ∧ kBt ca m = 1 then kAn ki so ov h else 0
/-- one mile: how it ends, anger, cold, the geese -/
def kRs (ov w be h an co ad : Int32) (P : kGT × kGT) : Int32 × Int32 × Int32 × (kGT × kGT) :=
  if gFail w (gMile ov P) then (1, an, co, gMile ov P)
  else if 20 < co + kCh h then (2, an, co + kCh h, gMile ov P)
  else if be < an + ad then (3, an + ad, co + kCh h, gMile ov P)
  else if ov = 7 then (0, 0, 0, gIsl ov (gMile ov P)) else (0, an + ad, co + kCh h, gMile ov P)
def k_rs (r a c : Int32) (P : kGT × kGT) (T : Int32 × Int32 × Int32 × (kGT × kGT)) : Prop := T = (r, a, c, P)
theorem k_ps0 {g p s f : Nat → Int32} {l r a b c d : Int32} : kPS g (upd (upd p (0 : Int32).toNatClampNeg l) (1 : Int32).toNatClampNeg r) (upd (upd s (0 : Int32).toNatClampNeg a) (1 : Int32).toNatClampNeg b) (upd (upd f (0 : Int32).toNatClampNeg c) (1 : Int32).toNatClampNeg d) = ((kG0 g l, kG1 g l, a, c), (kG0 g r, kG1 g r, b, d)) := rfl
theorem kW_o {ov : Int32} {P : kGT × kGT} (c8 : ¬ ov = 8) : gMile ov P = (gTire P.1, gTire P.2) := if_neg c8
theorem kW_w {ov : Int32} {g pr st fn pr2 st2 fn2 : Nat → Int32} (c8 : ov = 8) (p0 : pr2 0 = pr 1) (p1 : pr2 1 = pr 0) (s0 : st2 0 = st 1) (s1 : st2 1 = st 0) (f0 : fn2 0 = fn 1) (f1 : fn2 1 = fn 0) : gMile ov (kPS g pr st fn) = (gTire (kPS g pr2 st2 fn2).1, gTire (kPS g pr2 st2 fn2).2) := by
  unfold gMile
  rw [if_pos c8]
  unfold kPS
  rw [p0, p1, s0, s1, f0, f1]
theorem kT2 {g pr st fn st2 fn2 : Nat → Int32} (e1 : st2 0 = if fn 0 + 1 = kG1 g (pr 0) then st 0 - 1 else st 0) (e2 : fn2 0 = if fn 0 + 1 = kG1 g (pr 0) then 0 else fn 0 + 1) (e3 : st2 1 = if fn 1 + 1 = kG1 g (pr 1) then st 1 - 1 else st 1) (e4 : fn2 1 = if fn 1 + 1 = kG1 g (pr 1) then 0 else fn 1 + 1) : (gTire (kPS g pr st fn).1, gTire (kPS g pr st fn).2) = kPS g pr st2 fn2 := by
  unfold kPS gTire
  rw [e1, e2, e3, e4]
theorem kIs {ov : Int32} {g pr st fn st2 : Nat → Int32} (c7 : ov = 7) (e1 : st2 0 = if st 0 < kG0 g (pr 0) then st 0 + 1 else st 0) (e3 : st2 1 = if st 1 < kG0 g (pr 1) then st 1 + 1 else st 1) : gIsl ov (kPS g pr st fn) = kPS g pr st2 fn := by
  unfold gIsl
  rw [if_pos c7]
  unfold kPS gRest
  rw [e1, e3]
section KRS
variable {ov w be h an co ad ch A : Int32} {P Q : kGT × kGT}
theorem kRs_1 (hQ : gMile ov P = Q) (c : gFail w Q) : k_rs 1 an co Q (kRs ov w be h an co ad P) := by
  unfold k_rs kRs
  rw [hQ, if_pos c]
theorem kRs_2 (hQ : gMile ov P = Q) (c : ¬ gFail w Q) (hc : kCh h = ch) (c2 : 20 < co + ch) : k_rs 2 an (co + ch) Q (kRs ov w be h an co ad P) := by
  unfold k_rs kRs
  rw [hQ, if_neg c, hc, if_pos c2]
theorem kRs_3 (hQ : gMile ov P = Q) (c : ¬ gFail w Q) (hc : kCh h = ch) (c2 : ¬ 20 < co + ch) (hA : an + ad = A) (c3 : be < A) : k_rs 3 A (co + ch) Q (kRs ov w be h an co ad P) := by
  unfold k_rs kRs
  rw [hQ, if_neg c, hc, if_neg c2, hA, if_pos c3]
theorem kRs_i {Q2 : kGT × kGT} (hQ : gMile ov P = Q) (c : ¬ gFail w Q) (hc : kCh h = ch) (c2 : ¬ 20 < co + ch) (hA : an + ad = A) (c3 : ¬ be < A) (c7 : ov = 7) (hI : gIsl ov Q = Q2) : k_rs 0 0 0 Q2 (kRs ov w be h an co ad P) := by
  unfold k_rs kRs
  rw [hQ, if_neg c, hc, if_neg c2, hA, if_neg c3, if_pos c7, hI]
theorem kRs_0 (hQ : gMile ov P = Q) (c : ¬ gFail w Q) (hc : kCh h = ch) (c2 : ¬ 20 < co + ch) (hA : an + ad = A) (c3 : ¬ be < A) (c7 : ¬ ov = 7) : k_rs 0 A (co + ch) Q (kRs ov w be h an co ad P) := by
  unfold k_rs kRs
  rw [hQ, if_neg c, hc, if_neg c2, hA, if_neg c3, if_neg c7]
end KRS
section KAD
variable {ov le ca m ki so h an : Int32}
theorem kAd_y (c1 : ov < 6) (c2 : ¬ kBt le ov = 1) (c3 : kBt ca m = 1) : an + kAd ov le ca m ki so h = an + kAn ki so ov h := by
  unfold kAd
  rw [if_pos ⟨c1, c2, c3⟩]
theorem kAd_n (c : ¬ (ov < 6 ∧ ¬ kBt le ov = 1 ∧ kBt ca m = 1)) : an + kAd ov le ca m ki so h = an := by
  unfold kAd
  rw [if_neg c, Int32.add_zero]
end KAD
/-- with all towns calling: what he hears is what the class counts -/
theorem kAn_ins {kb ki so c h : Int32} (hb : ¬ kb = 1) : kIns kb ki so c h = kAn ki so c h := by
  unfold kIns kAn
  have e : (kb = 1 ∨ ki = 1 ∨ (ki = 3 ∧ 7 ≤ h)) ↔ (ki = 1 ∨ (ki = 3 ∧ 6 < h)) := by
    have q : (7 ≤ h) ↔ (6 < h) := by
      rw [Int32.le_iff_toInt_le, Int32.lt_iff_toInt_lt, show (7 : Int32).toInt = 7 from rfl, show (6 : Int32).toInt = 6 from rfl]
      omega
    constructor
    · rintro (z | z | z)
      · exact absurd z hb
      · exact Or.inl z
      · exact Or.inr ⟨z.1, q.mp z.2⟩
    · rintro (z | z)
      · exact Or.inr (Or.inl z)
      · exact Or.inr (Or.inr ⟨z.1, q.mpr z.2⟩)
  have s : (c = so) ↔ (so = c) := ⟨Eq.symm, Eq.symm⟩
  by_cases d : ki = 1 ∨ (ki = 3 ∧ 6 < h)
  · rw [if_pos (e.mpr d), if_pos d]
  · rw [if_neg (fun z => d (e.mp z)), if_neg d]
    by_cases x : so = c
    · rw [if_pos x, if_pos (s.mpr x)]
    · rw [if_neg x, if_neg (fun z => x (s.mp z))]
theorem kIns_1 {kb ki so c h : Int32} (hb : kb = 1) : kIns kb ki so c h = 0 := if_pos (Or.inl hb)
theorem kBt_all {m : Int32} (h : 0 ≤ m ∧ m ≤ 23) : kBt 16777215 m = 1 := by
  have h0 : ¬ m < 0 := Int32.not_lt.mpr h.1
  obtain ⟨j, hj, rfl⟩ := nI_of2 (n := 23) (M := 23) (by decide) h0 h.2
  have : ∀ k, k < 24 → kBt 16777215 (nI k) = 1 := by decide +kernel
  exact this j (by omega)
theorem kCh_5p {h : Int32} (hh : 0 ≤ h ∧ h ≤ 100) (c : ¬ h ≤ 5) : kCh h = h - 5 := by
  refine if_pos ?_
  have h1 := Int32.le_iff_toInt_le.mp hh.1
  have h2 := Int32.le_iff_toInt_le.mp hh.2
  have h3 : ¬ h.toInt ≤ (5 : Int32).toInt := fun q => c (Int32.le_iff_toInt_le.mpr q)
  rw [show (0 : Int32).toInt = 0 from rfl] at h1
  rw [show (100 : Int32).toInt = 100 from rfl] at h2
  rw [show (5 : Int32).toInt = 5 from rfl] at h3
  rw [Int32.lt_iff_toInt_lt, Int32.toInt_sub, show (5 : Int32).toInt = 5 from rfl, k_bm (by omega) (by omega), show (0 : Int32).toInt = 0 from rfl]
  omega
theorem kCh_5n {h : Int32} (hh : 0 ≤ h ∧ h ≤ 100) (c : h ≤ 5) : kCh h = 0 := by
  refine if_neg ?_
  have h1 := Int32.le_iff_toInt_le.mp hh.1
  have h3 := Int32.le_iff_toInt_le.mp c
  rw [show (0 : Int32).toInt = 0 from rfl] at h1
  rw [show (5 : Int32).toInt = 5 from rfl] at h3
  rw [Int32.lt_iff_toInt_lt, Int32.toInt_sub, show (5 : Int32).toInt = 5 from rfl, k_bm (by omega) (by omega), show (0 : Int32).toInt = 0 from rfl]
  omega
/-- what every passenger that there is bears is no less than nothing -/
def k_tm (n : Int32) (f : Nat → Int32) : Prop := ∀ p : Int32, 0 ≤ p ∧ p < n → ¬ 5 * (kP2 f p) < 0
/-- a flight, or none -/
def k_fd (C D : Prop) (kn fe en : Int32) : Prop := (C → D) ∧ (¬ C → kn = 0 ∧ fe = 0 ∧ en = 1)
theorem k_fd_y {C D : Prop} {kn fe en : Int32} (c : C) (d : D) : k_fd C D kn fe en := ⟨fun _ => d, fun q => absurd c q⟩
theorem k_fd_n {C D : Prop} (c : ¬ C) : k_fd C D 0 0 1 := ⟨fun q => absurd q c, fun _ => ⟨rfl, rfl, rfl⟩⟩
theorem k_bd2 {f : Nat → Int32} {a b : Int32} (ha : 0 ≤ a.toInt ∧ a.toInt ≤ 7) (hb : 0 ≤ b.toInt ∧ b.toInt ≤ 7) : k_bd 2 0 7 (upd (upd f (0 : Int32).toNatClampNeg a) (1 : Int32).toNatClampNeg b) := fun k hk => by
  match k, hk with
  | 0, _ => exact ha
  | 1, _ => exact hb
/-! a whole flight of the reference is one of the class -/
abbrev kR4 : Type := Int32 × Int32 × Int32 × Int32
section KFL
variable {ov : Int32 → Int32} {ct le ki so be : Int32} {hf : Int32 → Int32}
theorem kGo_app : ∀ (a : Nat) (i x y : Int32), (kGo ov ct le ki so be hf a i x y 0).2.2.2 = 0 → ∀ b, kGo ov ct le ki so be hf (a + b) i x y 0 = kGo ov ct le ki so be hf b (kGo ov ct le ki so be hf a i x y 0).1 (kGo ov ct le ki so be hf a i x y 0).2.1 (kGo ov ct le ki so be hf a i x y 0).2.2.1 0
  | 0, i, x, y, _, b => by rw [Nat.zero_add, kGo]
  | a + 1, i, x, y, h, b => by
    rw [show a + 1 + b = (a + b) + 1 by omega, kGo]
    rw [kGo] at h ⊢
    by_cases c1 : ct ≤ i
    · rw [if_pos c1] at h
      exact absurd h (show ¬ (1 : Int32) = 0 by decide)
    · rw [if_neg c1] at h
      rw [if_neg c1, if_neg c1]
      by_cases c2 : 20 < y + kCh (hf i)
      · rw [if_pos c2] at h
        exact absurd h (show ¬ (2 : Int32) = 0 by decide)
      · rw [if_neg c2] at h
        rw [if_neg c2, if_neg c2]
        by_cases c3 : ov i < 6
        · rw [if_pos c3] at h
          rw [if_pos c3, if_pos c3]
          by_cases c4 : be < x + kIns (kBt le (ov i)) ki so (ov i) (hf i)
          · rw [if_pos c4] at h
            exact absurd h (show ¬ (3 : Int32) = 0 by decide)
          · rw [if_neg c4] at h
            rw [if_neg c4, if_neg c4]
            exact kGo_app a _ _ _ h b
        · rw [if_neg c3] at h
          rw [if_neg c3, if_neg c3]
          by_cases c4 : ov i = 7
          · rw [if_pos c4] at h
            rw [if_pos c4, if_pos c4]
            exact kGo_app a _ _ _ h b
          · rw [if_neg c4] at h
            rw [if_neg c4, if_neg c4]
            exact kGo_app a _ _ _ h b
end KFL
theorem kfu_nat {a b : Nat} (ha : a < 2 ^ 31) (hb : b < 2 ^ 31) : kfu (nI b) (nI a) = b - a := by
  unfold kfu
  rw [nI_toInt ha, nI_toInt hb]
  omega
/-- the mile on which they no longer carry isn't ahead of this one -/
theorem kCt_ge {ov : Int32 → Int32} {w : Int32} : ∀ (k a : Nat) (P : kGT × kGT), a + k < 2 ^ 31 → ∃ j, a ≤ j ∧ j ≤ a + k ∧ kCt ov w k (nI a) P = nI j
  | 0, a, P, _ => ⟨a, Nat.le_refl a, Nat.le_refl a, rfl⟩
  | k + 1, a, P, h => by
    rw [kCt]
    by_cases c : gFail w (gMile (ov (nI a)) P)
    · rw [if_pos c]
      exact ⟨a, Nat.le_refl a, by omega, rfl⟩
    · rw [if_neg c, nI_1]
      obtain ⟨j, h1, h2, h3⟩ := kCt_ge k (a + 1) (gIsl (ov (nI a)) (gMile (ov (nI a)) P)) (by omega)
      exact ⟨j, by omega, by omega, h3⟩
/-- the flight from its start to a mile -/
def kGG (ov : Int32 → Int32) (ct le ki so be : Int32) (hf : Int32 → Int32) (k : Int32) : kR4 := kGo ov ct le ki so be hf (kfu k 0) 0 0 0 0
def k_told (G : Int32 → kR4) (qt : Nat → Int32) (m : Int32) : Prop := ∀ j : Int32, 0 ≤ j → j < m → ¬ (G (j + 1)).1 < j ∧ (G (j + 1)).2.1 = qt (4 * j).toNatClampNeg ∧ (G (j + 1)).2.2.1 = qt ((4 * j) + 1).toNatClampNeg
def k_fr (ov : Int32 → Int32) (w n le ki so be : Int32) (hf : Int32 → Int32) (ct m kn fe en an co : Int32) (qt : Nat → Int32) (P : kGT × kGT) : Prop :=
  (en = 0 ∧ kn = m ∧ fe = m ∧ kCt ov w (kfu n m) m P = ct ∧ kGG ov ct le ki so be hf m = (m, an, co, 0) ∧ ¬ be < an ∧ k_told (kGG ov ct le ki so be hf) qt m) ∨
  (¬ en = 0 ∧ m = fe + 1 ∧ kn = fe + 1 ∧ 0 ≤ fe ∧ fe < n ∧ (∀ k : Int32, fe < k → k ≤ n → kGG ov ct le ki so be hf k = (fe, an, co, en)) ∧ k_told (kGG ov ct le ki so be hf) qt (fe + 1))
section KFL2
variable {ov : Int32 → Int32} {ct le ki so be : Int32} {hf : Int32 → Int32} {w : Int32} {qt : Nat → Int32}
theorem k_told_0 {G : Int32 → kR4} : k_told G qt 0 := fun j h1 h2 => absurd h2 (Int32.not_lt.mpr h1)
theorem k_fr_0 {n : Int32} {P : kGT × kGT} (hb : ¬ be < 0) (hc : kCt ov w (kfu n 0) 0 P = ct) : k_fr ov w n le ki so be hf ct 0 0 0 0 0 0 qt P :=
  Or.inl ⟨rfl, rfl, rfl, hc, rfl, hb, k_told_0⟩
/-- one mile of the run, as the class counts it -/
theorem kGo_rs {r an co a' c' : Int32} {a b : Nat} {P P' : kGT × kGT} (hn : a + b + 1 < 2 ^ 31) (ha : a ≤ 23) (hct : kCt ov w (b + 1) (nI a) P = ct) (hbe : ¬ be < an) (hb0 : ¬ be < 0) (hr : k_rs r a' c' P' (kRs (ov (nI a)) w be (hf (nI a)) an co (kAd (ov (nI a)) le 16777215 (nI a) ki so (hf (nI a))) P)) :
    (¬ r = 0 ∧ (∀ q, kGo ov ct le ki so be hf (q + 1) (nI a) an co 0 = (nI a, a', c', r))) ∨ (r = 0 ∧ (∀ q, kGo ov ct le ki so be hf (q + 1) (nI a) an co 0 = kGo ov ct le ki so be hf q (nI (a + 1)) a' c' 0) ∧ kCt ov w b (nI (a + 1)) P' = ct ∧ ¬ be < a') := by
  unfold k_rs kRs at hr
  rw [kCt] at hct
  have hbit : kBt 16777215 (nI a) = 1 := kBt_all ⟨nI_pos' (by omega), by rw [show (23 : Int32) = nI 23 from rfl]; exact nI_le ha (by decide)⟩
  by_cases c1 : gFail w (gMile (ov (nI a)) P)
  · rw [if_pos c1] at hr hct
    obtain ⟨rfl, rfl, rfl, rfl⟩ : 1 = r ∧ an = a' ∧ co = c' ∧ gMile (ov (nI a)) P = P' := by
      simpa only [Prod.mk.injEq] using hr
    refine Or.inl ⟨by decide, fun q => ?_⟩
    rw [kGo, if_pos (by rw [← hct]; exact Int32.le_refl _)]
  · rw [if_neg c1] at hr hct
    have hge : ¬ ct ≤ nI a := by
      obtain ⟨j, h1, h2, h3⟩ := kCt_ge (ov := ov) (w := w) b (a + 1) (gIsl (ov (nI a)) (gMile (ov (nI a)) P)) (by omega)
      rw [← hct, nI_1, h3]
      exact nI_ge (by omega) (by omega)
    rw [nI_1] at hct
    by_cases c2 : 20 < co + kCh (hf (nI a))
    · rw [if_pos c2] at hr
      obtain ⟨rfl, rfl, rfl, rfl⟩ : 2 = r ∧ an = a' ∧ co + kCh (hf (nI a)) = c' ∧ gMile (ov (nI a)) P = P' := by
        simpa only [Prod.mk.injEq] using hr
      refine Or.inl ⟨by decide, fun q => ?_⟩
      rw [kGo, if_neg hge, if_pos c2]
    · rw [if_neg c2] at hr
      by_cases c3 : ov (nI a) < 6
      · have had : kIns (kBt le (ov (nI a))) ki so (ov (nI a)) (hf (nI a)) = kAd (ov (nI a)) le 16777215 (nI a) ki so (hf (nI a)) := by
          unfold kAd
          by_cases d : kBt le (ov (nI a)) = 1
          · rw [kIns_1 d, if_neg (fun z => z.2.1 d)]
          · rw [kAn_ins d, if_pos ⟨c3, d, hbit⟩]
        have c7 : ¬ ov (nI a) = 7 := fun z => absurd (z ▸ c3) (by decide)
        have hi : gIsl (ov (nI a)) (gMile (ov (nI a)) P) = gMile (ov (nI a)) P := if_neg c7
        rw [hi] at hct
        by_cases c4 : be < an + kAd (ov (nI a)) le 16777215 (nI a) ki so (hf (nI a))
        · rw [if_pos c4] at hr
          obtain ⟨rfl, rfl, rfl, rfl⟩ : 3 = r ∧ an + kAd (ov (nI a)) le 16777215 (nI a) ki so (hf (nI a)) = a' ∧ co + kCh (hf (nI a)) = c' ∧ gMile (ov (nI a)) P = P' := by
            simpa only [Prod.mk.injEq] using hr
          refine Or.inl ⟨by decide, fun q => ?_⟩
          rw [kGo, if_neg hge, if_neg c2, if_pos c3, had, if_pos c4]
        · rw [if_neg c4, if_neg c7] at hr
          obtain ⟨rfl, rfl, rfl, rfl⟩ : 0 = r ∧ an + kAd (ov (nI a)) le 16777215 (nI a) ki so (hf (nI a)) = a' ∧ co + kCh (hf (nI a)) = c' ∧ gMile (ov (nI a)) P = P' := by
            simpa only [Prod.mk.injEq] using hr
          refine Or.inr ⟨rfl, fun q => ?_, hct, c4⟩
          rw [kGo, if_neg hge, if_neg c2, if_pos c3, had, if_neg c4, nI_1]
      · have had : an + kAd (ov (nI a)) le 16777215 (nI a) ki so (hf (nI a)) = an := kAd_n (fun z => c3 z.1)
        rw [had, if_neg hbe] at hr
        by_cases c7 : ov (nI a) = 7
        · rw [if_pos c7] at hr
          obtain ⟨rfl, rfl, rfl, rfl⟩ : 0 = r ∧ 0 = a' ∧ 0 = c' ∧ gIsl (ov (nI a)) (gMile (ov (nI a)) P) = P' := by
            simpa only [Prod.mk.injEq] using hr
          refine Or.inr ⟨rfl, fun q => ?_, hct, hb0⟩
          rw [kGo, if_neg hge, if_neg c2, if_neg c3, if_pos c7, nI_1]
        · rw [if_neg c7] at hr
          have hi : gIsl (ov (nI a)) (gMile (ov (nI a)) P) = gMile (ov (nI a)) P := if_neg c7
          rw [hi] at hct
          obtain ⟨rfl, rfl, rfl, rfl⟩ : 0 = r ∧ an = a' ∧ co + kCh (hf (nI a)) = c' ∧ gMile (ov (nI a)) P = P' := by
            simpa only [Prod.mk.injEq] using hr
          refine Or.inr ⟨rfl, fun q => ?_, hct, hbe⟩
          rw [kGo, if_neg hge, if_neg c2, if_neg c3, if_neg c7, nI_1]
theorem k_told_s {G : Int32 → kR4} {a : Nat} {x y u v : Int32} (ha : a ≤ 23) (h : k_told G qt (nI a)) (h1 : ¬ (G (nI (a + 1))).1 < nI a) (h2 : (G (nI (a + 1))).2.1 = x) (h3 : (G (nI (a + 1))).2.2.1 = y) : k_told G (upd (upd (upd (upd qt (4 * nI a).toNatClampNeg x) ((4 * nI a) + 1).toNatClampNeg y) ((4 * nI a) + 2).toNatClampNeg u) ((4 * nI a) + 3).toNatClampNeg v) (nI a + 1) := by
  intro j j1 j2
  obtain ⟨b, hb, rfl⟩ := k_nat j1
  rw [nI_1] at j2 ⊢
  have hlt : b < a + 1 := (nI_ltI hb (by omega)).mp j2
  have e0 : ∀ k : Nat, k ≤ 3 → (4 * nI a + nI k).toNatClampNeg = 4 * a + k := fun k hk => by
    rw [show (4 : Int32) = nI 4 from rfl, pk_mul, nI_add, nI_clamp (by omega)]
  have e00 : (4 * nI a).toNatClampNeg = 4 * a := by rw [show (4 : Int32) = nI 4 from rfl, pk_mul, nI_clamp (by omega)]
  have f0 : (4 * nI b).toNatClampNeg = 4 * b := by rw [show (4 : Int32) = nI 4 from rfl, pk_mul, nI_clamp (by omega)]
  have f1 : ((4 * nI b) + 1).toNatClampNeg = 4 * b + 1 := by rw [show (4 : Int32) = nI 4 from rfl, pk_mul, nI_1, nI_clamp (by omega)]
  have e1 : ((4 * nI a) + 1).toNatClampNeg = 4 * a + 1 := e0 1 (by omega)
  have e2 : ((4 * nI a) + 2).toNatClampNeg = 4 * a + 2 := e0 2 (by omega)
  have e3 : ((4 * nI a) + 3).toNatClampNeg = 4 * a + 3 := e0 3 (by omega)
  rw [e00, e1, e2, e3, f0, f1]
  rcases Nat.lt_or_ge b a with q | q
  · have z := h (nI b) j1 (nI_lt q (by omega))
    rw [nI_1, f0, f1] at z
    rw [pk_un (by omega), pk_un (by omega), pk_un (by omega), pk_un (by omega), pk_un (by omega), pk_un (by omega), pk_un (by omega), pk_un (by omega)]
    exact z
  · have e : b = a := by omega
    subst e
    refine ⟨h1, ?_, ?_⟩
    · rw [pk_un (by omega), pk_un (by omega), pk_un (by omega), pk_us, h2]
    · rw [pk_un (by omega), pk_un (by omega), pk_us, h3]
theorem k_fr_s {n m kn fe en an co r a' c' u v : Int32} {P P' : kGT × kGT} (h : k_fr ov w n le ki so be hf ct m kn fe en an co qt P) (he : en = 0) (hm : 0 ≤ m) (hmn : ¬ n ≤ m) (hn : n ≤ 24) (hb0 : ¬ be < 0) (hr : k_rs r a' c' P' (kRs (ov m) w be (hf m) an co (kAd (ov m) le 16777215 m ki so (hf m)) P)) : k_fr ov w n le ki so be hf ct (m + 1) (kn + 1) (if r = 0 then m + 1 else m) r a' c' (upd (upd (upd (upd qt (4 * m).toNatClampNeg a') ((4 * m) + 1).toNatClampNeg c') ((4 * m) + 2).toNatClampNeg u) ((4 * m) + 3).toNatClampNeg v) P' := by
  rcases h with ⟨_, h1, h2, h3, h4, h5, h6⟩ | ⟨q, _⟩
  · obtain ⟨a, ha, rfl⟩ := k_nat hm
    obtain ⟨b, hb, rfl⟩ := k_nat (x := n) (Int32.le_trans hm (Int32.le_of_lt (Int32.not_le.mp hmn)))
    have hab : a < b := by
      rcases Nat.lt_or_ge a b with z | z
      · exact z
      · exact absurd (nI_le z ha) hmn
    have hb24 : b ≤ 24 := (nI_leI hb (by decide)).mp hn
    rw [kfu_nat ha hb, show b - a = (b - a - 1) + 1 by omega] at h3
    have run : ∀ q, q ≤ 24 → a < q → kGG ov ct le ki so be hf (nI q) = kGo ov ct le ki so be hf ((q - a - 1) + 1) (nI a) an co 0 := fun q hq haq => by
      unfold kGG at h4 ⊢
      rw [show (0 : Int32) = nI 0 from rfl] at h4 ⊢
      rw [kfu_nat (by decide) ha, Nat.sub_zero] at h4
      rw [kfu_nat (by decide) (by omega), Nat.sub_zero, show q = a + ((q - a - 1) + 1) by omega]
      have z := kGo_app (ov := ov) (ct := ct) (le := le) (ki := ki) (so := so) (be := be) (hf := hf) a (nI 0) (nI 0) (nI 0) (by rw [show (0 : Int32) = nI 0 from rfl, h4]) ((q - a - 1) + 1)
      rw [show (0 : Int32) = nI 0 from rfl] at z
      rw [z, h4, show a + (q - a - 1 + 1) - a - 1 + 1 = q - a - 1 + 1 by omega]
    rcases kGo_rs (a := a) (b := b - a - 1) (by omega) (by omega) h3 h5 hb0 hr with ⟨r0, g⟩ | ⟨r0, g, k3, k5⟩
    · rw [if_neg r0]
      refine Or.inr ⟨r0, rfl, by rw [h1], nI_pos' ha, nI_lt hab hb, fun k k1 k2 => ?_, ?_⟩
      · obtain ⟨q, hq, rfl⟩ := k_nat (x := k) (Int32.le_trans (nI_pos' ha) (Int32.le_of_lt k1))
        rw [run q (by have := (nI_leI hq hb).mp k2; omega) ((nI_ltI ha hq).mp k1)]
        exact g _
      · have e := (run (a + 1) (by omega) (by omega)).trans (g _)
        exact k_told_s (by omega) h6 (by rw [e]; exact fun z => Int32.lt_irrefl z) (by rw [e]) (by rw [e])
    · rw [if_pos r0]
      have e := (run (a + 1) (by omega) (by omega)).trans (g _)
      rw [show a + 1 - a - 1 = 0 by omega, kGo] at e
      refine Or.inl ⟨r0, by rw [h1], rfl, ?_, ?_, k5, ?_⟩
      · rw [nI_1, kfu_nat (by omega) hb, show b - (a + 1) = b - a - 1 by omega]
        exact k3
      · rw [nI_1]
        exact e
      · exact k_told_s (by omega) h6 (by rw [e]; exact Int32.not_lt.mpr (nI_le (by omega) (by omega))) (by rw [e]) (by rw [e])
  · exact absurd he q
/-- what a flight that goes leaves behind -/
def k_done (ov : Int32 → Int32) (ct le ki so be : Int32) (hf : Int32 → Int32) (n kn fe en : Int32) (qt : Nat → Int32) : Prop :=
  fe = (kGG ov ct le ki so be hf n).1 ∧ en = (kGG ov ct le ki so be hf n).2.2.2 ∧ ∀ j : Int32, 0 ≤ j → j < n → (j < kn → ¬ (kGG ov ct le ki so be hf (j + 1)).1 < j ∧ (kGG ov ct le ki so be hf (j + 1)).2.1 = qt (4 * j).toNatClampNeg ∧ (kGG ov ct le ki so be hf (j + 1)).2.2.1 = qt ((4 * j) + 1).toNatClampNeg) ∧ (¬ j < kn → (kGG ov ct le ki so be hf (j + 1)).1 < j)
theorem k_fr_end {n m kn fe en an co : Int32} {P : kGT × kGT} (h : k_fr ov w n le ki so be hf ct m kn fe en an co qt P) (hm : m ≤ n) (hn : n ≤ 24) (hx : n ≤ m ∨ ¬ en = 0) : k_done ov ct le ki so be hf n kn fe en qt := by
  rcases h with ⟨h0, h1, h2, h3, h4, h5, h6⟩ | ⟨h0, h1, h2, h3, h4, h5, h6⟩
  · have e : m = n := by
      rcases hx with z | z
      · exact Int32.toInt_inj.mp (by have := Int32.le_iff_toInt_le.mp hm; have := Int32.le_iff_toInt_le.mp z; omega)
      · exact absurd h0 z
    subst e
    refine ⟨by rw [h4, h2], by rw [h4, h0], fun j j1 j2 => ⟨fun _ => h6 j j1 j2, fun z => absurd (by rw [h1]; exact j2) z⟩⟩
  · refine ⟨by rw [h5 n h4 (Int32.le_refl n)], by rw [h5 n h4 (Int32.le_refl n)], fun j j1 j2 => ⟨fun z => h6 j j1 (by rw [h2] at z; exact z), fun z => ?_⟩⟩
    obtain ⟨a, ha, rfl⟩ := k_nat h3
    obtain ⟨b, hb, rfl⟩ := k_nat j1
    obtain ⟨c, hc, rfl⟩ := k_nat (x := n) (Int32.le_trans h3 (Int32.le_of_lt h4))
    have hc24 : c ≤ 24 := (nI_leI hc (by decide)).mp hn
    have hbc : b < c := (nI_ltI hb hc).mp j2
    have hac : a < c := (nI_ltI ha hc).mp h4
    rw [h2, nI_1] at z
    have hab : a < b := by
      rcases Nat.lt_or_ge a b with q | q
      · exact q
      · exact absurd (nI_lt (show b < a + 1 by omega) (by omega)) z
    rw [nI_1, h5 (nI (b + 1)) (nI_lt (by omega) (by omega)) (nI_le (by omega) hc)]
    exact nI_lt hab hb
theorem k_fr_t {n m kn fe en an co r a' c' u v hv fe' : Int32} {P P' : kGT × kGT} (h : k_fr ov w n le ki so be hf ct m kn fe en an co qt P) (he : en = 0) (hm : 0 ≤ m) (hmn : ¬ n ≤ m) (hn : n ≤ 24) (hb0 : ¬ be < 0) (hh : hf m = hv) (hfe : fe' = if r = 0 then m + 1 else m) (hr : k_rs r a' c' P' (kRs (ov m) w be hv an co (kAd (ov m) le 16777215 m ki so hv) P)) : k_fr ov w n le ki so be hf ct (m + 1) (kn + 1) fe' r a' c' (upd (upd (upd (upd qt (4 * m).toNatClampNeg a') ((4 * m) + 1).toNatClampNeg c') ((4 * m) + 2).toNatClampNeg u) ((4 * m) + 3).toNatClampNeg v) P' := by
  rw [hfe]
  rw [← hh] at hr
  exact k_fr_s h he hm hmn hn hb0 hr
end KFL2
/-! items of sheets -/
def kCut (fo v : Int32) : Int32 := if fo = 0 then v.toInt8.toInt32 else if fo = 1 then v.toInt16.toInt32 else v
theorem kCut_0 {fo v : Int32} (h : fo = 0) : kCut fo v = v.toInt8.toInt32 := if_pos h
theorem kCut_1 {fo v : Int32} (h : ¬ fo = 0) (h1 : fo = 1) : kCut fo v = v.toInt16.toInt32 := by unfold kCut; rw [if_neg h, if_pos h1]
theorem kCut_2 {fo v : Int32} (h : ¬ fo = 0) (h1 : ¬ fo = 1) : kCut fo v = v := by unfold kCut; rw [if_neg h, if_neg h1]
def k_zr (n : Int32) (f : Nat → Int32) : Prop := ∀ j, j < n.toNatClampNeg → f j = 0
theorem k_zr_0 {f : Nat → Int32} : k_zr 0 f := fun j h => absurd h (by rw [show (0 : Int32).toNatClampNeg = 0 from rfl]; omega)
theorem k_zr_s {f : Nat → Int32} {i : Int32} (h0 : 0 ≤ i ∧ i.toInt ≤ 1000) (h : k_zr i f) : k_zr (i + 1) (upd f i.toNatClampNeg 0) := by
  obtain ⟨a, ha, rfl⟩ := k_nat h0.1
  have h2 := h0.2
  rw [nI_toInt ha] at h2
  intro j hj
  rw [nI_1, nI_clamp (by omega)] at hj
  rw [nI_clamp ha]
  by_cases e : j = a
  · rw [e, pk_us]
  · rw [pk_un e]
    exact h j (by rw [nI_clamp ha]; omega)
/-- the row of a sheet -/
def kG4 (a b c d : Nat → Int32) (k : Nat) : Nat → Int32 := if k = 0 then a else if k = 1 then b else if k = 2 then c else d
def kIm (si : Int32) (f : Nat → Int32) (i : Int32) : Int32 := if 0 ≤ i ∧ i < si then f i.toNatClampNeg else 0
/-- a sheet's row is new, or as it was -/
def k_sh (P : Prop) (g f : Nat → Int32) : Prop := (P → k_zr 60 g) ∧ (¬ P → g = f)
theorem k_sh_y {P : Prop} {g f : Nat → Int32} (p : P) (h : k_zr 60 g) : k_sh P g f := ⟨fun _ => h, fun q => absurd p q⟩
theorem k_sh_n {P : Prop} {f : Nat → Int32} (p : ¬ P) : k_sh P f f := ⟨fun q => absurd q p, fun _ => rfl⟩
def k_im (C D : Prop) : Prop := C → D
/-! flights told -/
abbrev kFok (p l r h : Int32) : Prop := 0 ≤ p ∧ p ≤ 7 ∧ 0 ≤ l ∧ l ≤ 7 ∧ 0 ≤ r ∧ r ≤ 7 ∧ ¬ l = r ∧ 1 ≤ h ∧ h ≤ 9
def kFa (f : Nat → Int32) (n p l r h : Int32) : Nat → Int32 := upd (upd (upd (upd f (4 * n).toNatClampNeg p) ((4 * n) + 1).toNatClampNeg l) ((4 * n) + 2).toNatClampNeg r) ((4 * n) + 3).toNatClampNeg h
/-- flights out of a row: how many, how many there are then, their table -/
def kRd (it : Int32 → Int32) (sz : Int32) : Nat → Int32 → Int32 → (Nat → Int32) → Int32 × Int32 × (Nat → Int32)
  | 0, n, fn, f => (n, fn, f)
  | k + 1, n, fn, f =>
    if (4 * n) + 4 ≤ sz ∧ kFok (it (4 * n)) (it ((4 * n) + 1)) (it ((4 * n) + 2)) (it ((4 * n) + 3)) ∧ ¬ fn = 8 then kRd it sz k (n + 1) (fn + 1) (kFa f fn (it (4 * n)) (it ((4 * n) + 1)) (it ((4 * n) + 2)) (it ((4 * n) + 3))) else (n, fn, f)
def kRf (n : Int32) : Nat := (16 - n.toInt).toNat
def k_rd (it : Int32 → Int32) (sz n fn : Int32) (f : Nat → Int32) (r : Int32 × Int32 × (Nat → Int32)) : Prop := kRd it sz (kRf n) n fn f = r
section KRD
variable {it : Int32 → Int32} {sz n fn a b c d : Int32} {f : Nat → Int32} {r : Int32 × Int32 × (Nat → Int32)}
theorem kRf_s (h : 0 ≤ n ∧ n.toInt ≤ 15) : kRf n = kRf (n + 1) + 1 := by
  obtain ⟨a, ha, rfl⟩ := k_nat h.1
  have h2 := h.2
  rw [nI_toInt ha] at h2
  unfold kRf
  rw [nI_1, nI_toInt ha, nI_toInt (by omega)]
  omega
theorem kRd_s (h : k_rd it sz n fn f r) (hn : 0 ≤ n ∧ n.toInt ≤ 15) (ha : it (4 * n) = a) (hb : it ((4 * n) + 1) = b) (hc : it ((4 * n) + 2) = c) (hd : it ((4 * n) + 3) = d) (c1 : (4 * n) + 4 ≤ sz) (c2 : kFok a b c d) (c3 : ¬ fn = 8) : k_rd it sz (n + 1) (fn + 1) (kFa f fn a b c d) r := by
  unfold k_rd at h ⊢
  rw [kRf_s hn, kRd, ha, hb, hc, hd, if_pos ⟨c1, c2, c3⟩] at h
  exact h
theorem kRd_e (h : k_rd it sz n fn f r) (hn : 0 ≤ n ∧ n.toInt ≤ 15) (ha : it (4 * n) = a) (hb : it ((4 * n) + 1) = b) (hc : it ((4 * n) + 2) = c) (hd : it ((4 * n) + 3) = d) (c1 : ¬ (kFok a b c d ∧ ¬ fn = 8)) : n = r.1 ∧ fn = r.2.1 ∧ f = r.2.2 := by
  unfold k_rd at h
  rw [kRf_s hn, kRd, ha, hb, hc, hd, if_neg (fun q => c1 q.2)] at h
  rw [← h]
  exact ⟨rfl, rfl, rfl⟩
theorem kRd_x (h : k_rd it sz n fn f r) (hn : 0 ≤ n ∧ n.toInt ≤ 15) (c1 : ¬ (4 * n) + 4 ≤ sz) : n = r.1 ∧ fn = r.2.1 ∧ f = r.2.2 := by
  unfold k_rd at h
  rw [kRf_s hn, kRd, if_neg (fun q => c1 q.1)] at h
  rw [← h]
  exact ⟨rfl, rfl, rfl⟩
end KRD
theorem kRd_cg {it it' : Int32 → Int32} {sz : Int32} (hs : sz ≤ 60) (h : ∀ j : Int32, 0 ≤ j → j < sz → it j = it' j) : ∀ (k a : Nat) (fn : Int32) (f : Nat → Int32), a + k ≤ 16 → kRd it sz k (nI a) fn f = kRd it' sz k (nI a) fn f
  | 0, _, _, _, _ => rfl
  | k + 1, a, fn, f, hk => by
    rw [kRd, kRd]
    have e : ∀ i : Nat, i ≤ 4 → (4 * nI a + nI i : Int32) = nI (4 * a + i) := fun i _ => by
      rw [show (4 : Int32) = nI 4 from rfl, pk_mul, nI_add]
    have e0 : (4 * nI a : Int32) = nI (4 * a) := by rw [show (4 : Int32) = nI 4 from rfl, pk_mul]
    have e1 : (4 * nI a + 1 : Int32) = nI (4 * a + 1) := e 1 (by omega)
    have e2 : (4 * nI a + 2 : Int32) = nI (4 * a + 2) := e 2 (by omega)
    have e3 : (4 * nI a + 3 : Int32) = nI (4 * a + 3) := e 3 (by omega)
    have e4 : (4 * nI a + 4 : Int32) = nI (4 * a + 4) := e 4 (by omega)
    rw [e1, e2, e3, e4, e0]
    by_cases c : nI (4 * a + 4) ≤ sz
    · have hi : ∀ i : Nat, i ≤ 3 → it (nI (4 * a + i)) = it' (nI (4 * a + i)) := fun i hi => h _ (nI_pos' (by omega)) (Int32.lt_of_lt_of_le (nI_lt (by omega) (by omega)) c)
      rw [show nI (4 * a) = nI (4 * a + 0) from rfl, hi 0 (by omega), hi 1 (by omega), hi 2 (by omega), hi 3 (by omega), nI_1]
      by_cases d : nI (4 * a + 4) ≤ sz ∧ kFok (it' (nI (4 * a + 0))) (it' (nI (4 * a + 1))) (it' (nI (4 * a + 2))) (it' (nI (4 * a + 3))) ∧ ¬ fn = 8
      · rw [if_pos d, if_pos d]
        exact kRd_cg hs h k (a + 1) _ _ (by omega)
      · rw [if_neg d, if_neg d]
    · rw [if_neg (fun q => c q.1), if_neg (fun q => c q.1)]
/-- the reference's reading: it goes on, or has ended -/
def k_rm (mo : Int32) (it : Int32 → Int32) (sz n fn : Int32) (f : Nat → Int32) (r : Int32 × Int32 × (Nat → Int32)) : Prop := (mo = 1 ∧ k_rd it sz n fn f r) ∨ (mo = 0 ∧ n = r.1 ∧ fn = r.2.1 ∧ f = r.2.2)
section KRM
variable {mo : Int32} {it : Int32 → Int32} {sz n fn a b c d : Int32} {f : Nat → Int32} {r : Int32 × Int32 × (Nat → Int32)}
theorem k_rm_l (h : k_rm mo it sz n fn f r) (hm : ¬ mo = 0) : k_rd it sz n fn f r := by
  rcases h with h | h
  · exact h.2
  · exact absurd h.1 hm
theorem k_rm_r (h : k_rm mo it sz n fn f r) (hm : mo = 0) : n = r.1 ∧ fn = r.2.1 ∧ f = r.2.2 := by
  rcases h with h | h
  · exact absurd (h.1.symm.trans hm) (by decide)
  · exact h.2
theorem k_rm_s (h : k_rd it sz n fn f r) (hn : 0 ≤ n ∧ n.toInt ≤ 15) (ha : it (4 * n) = a) (hb : it ((4 * n) + 1) = b) (hc : it ((4 * n) + 2) = c) (hd : it ((4 * n) + 3) = d) (c1 : (4 * n) + 4 ≤ sz) (c2 : kFok a b c d) (c3 : ¬ fn = 8) : k_rm 1 it sz (n + 1) (fn + 1) (kFa f fn a b c d) r := Or.inl ⟨rfl, kRd_s h hn ha hb hc hd c1 c2 c3⟩
theorem k_rm_e (h : k_rd it sz n fn f r) (hn : 0 ≤ n ∧ n.toInt ≤ 15) (ha : it (4 * n) = a) (hb : it ((4 * n) + 1) = b) (hc : it ((4 * n) + 2) = c) (hd : it ((4 * n) + 3) = d) (c1 : ¬ (kFok a b c d ∧ ¬ fn = 8)) : k_rm 0 it sz (n + 0) fn f r := by
  have e := kRd_e h hn ha hb hc hd c1
  exact Or.inr ⟨rfl, (Int32.add_zero n).trans e.1, e.2.1, e.2.2⟩
end KRM
/-! what is written into rows -/
def kWr (fo : Int32) (V : Int32 → Int32) (f : Nat → Int32) (n : Int32) : Nat → Int32 := fun j => if j < n.toNatClampNeg then kCut fo (V (nI j)) else f j
theorem kWr_0 {fo : Int32} {V : Int32 → Int32} {f : Nat → Int32} : f = kWr fo V f 0 := funext fun j => (if_neg (by rw [show (0 : Int32).toNatClampNeg = 0 from rfl]; omega)).symm
theorem kWr_s {fo i v : Int32} {V : Int32 → Int32} {f g : Nat → Int32} (h0 : 0 ≤ i ∧ i.toInt ≤ 1000) (hg : g = kWr fo V f i) (hv : v = V i) : upd g i.toNatClampNeg (kCut fo v) = kWr fo V f (i + 1) := by
  obtain ⟨a, ha, rfl⟩ := k_nat h0.1
  have h2 := h0.2
  rw [nI_toInt ha] at h2
  rw [hg, hv, nI_clamp ha, nI_1]
  refine funext fun j => ?_
  by_cases e : j = a
  · rw [e, pk_us]
    unfold kWr
    rw [if_pos (by rw [nI_clamp (by omega)]; omega)]
  · rw [pk_un e]
    unfold kWr
    rw [nI_clamp ha, nI_clamp (by omega)]
    by_cases c : j < a
    · rw [if_pos c, if_pos (by omega)]
    · rw [if_neg c, if_neg (by omega)]
/-- the reference's rows lie one behind another -/
def kWq (fo : Int32) (V : Int32 → Int32) (f : Nat → Int32) (s n : Int32) : Nat → Int32 := fun q => if 60 * s.toNatClampNeg ≤ q ∧ q < 60 * s.toNatClampNeg + n.toNatClampNeg then kCut fo (V (nI (q - 60 * s.toNatClampNeg))) else f q
theorem kWq_0 {fo s : Int32} {V : Int32 → Int32} {f : Nat → Int32} : f = kWq fo V f s 0 := funext fun j => (if_neg (by rw [show (0 : Int32).toNatClampNeg = 0 from rfl]; omega)).symm
theorem kWq_s {fo s i v : Int32} {V : Int32 → Int32} {f g : Nat → Int32} (hs : 0 ≤ s ∧ s ≤ 3) (h0 : 0 ≤ i ∧ i.toInt ≤ 1000) (hg : g = kWq fo V f s i) (hv : v = V i) : upd g ((60 * s) + i).toNatClampNeg (kCut fo v) = kWq fo V f s (i + 1) := by
  obtain ⟨a, ha, rfl⟩ := k_nat h0.1
  obtain ⟨b, hb, rfl⟩ := nI_of2 (n := 3) (M := 3) (by decide) (Int32.not_lt.mpr hs.1) hs.2
  have h2 := h0.2
  rw [nI_toInt ha] at h2
  have e0 : ((60 * nI b) + nI a : Int32).toNatClampNeg = 60 * b + a := by rw [show (60 : Int32) = nI 60 from rfl, pk_mul, nI_add, nI_clamp (by omega)]
  rw [hg, hv, e0, nI_1]
  refine funext fun j => ?_
  by_cases e : j = 60 * b + a
  · rw [e, pk_us]
    unfold kWq
    rw [nI_clamp (show b < 2 ^ 31 by omega), nI_clamp (show a + 1 < 2 ^ 31 by omega), if_pos (by omega), show 60 * b + a - 60 * b = a by omega]
  · rw [pk_un e]
    unfold kWq
    rw [nI_clamp (show b < 2 ^ 31 by omega), nI_clamp ha, nI_clamp (show a + 1 < 2 ^ 31 by omega)]
    by_cases c : 60 * b ≤ j ∧ j < 60 * b + a
    · rw [if_pos c, if_pos (by omega)]
    · rw [if_neg c, if_neg (by omega)]
/-- zeros into a row of the reference -/
def kZq (f : Nat → Int32) (s n : Int32) : Nat → Int32 := fun q => if 60 * s.toNatClampNeg ≤ q ∧ q < 60 * s.toNatClampNeg + n.toNatClampNeg then 0 else f q
theorem kZq_0 {s : Int32} {f : Nat → Int32} : f = kZq f s 0 := funext fun j => (if_neg (by rw [show (0 : Int32).toNatClampNeg = 0 from rfl]; omega)).symm
theorem kZq_s {s i : Int32} {f g : Nat → Int32} (hs : 0 ≤ s ∧ s ≤ 3) (h0 : 0 ≤ i ∧ i.toInt ≤ 1000) (hg : g = kZq f s i) : upd g ((60 * s) + i).toNatClampNeg 0 = kZq f s (i + 1) := by
  obtain ⟨a, ha, rfl⟩ := k_nat h0.1
  obtain ⟨b, hb, rfl⟩ := nI_of2 (n := 3) (M := 3) (by decide) (Int32.not_lt.mpr hs.1) hs.2
  have h2 := h0.2
  rw [nI_toInt ha] at h2
  have e0 : ((60 * nI b) + nI a : Int32).toNatClampNeg = 60 * b + a := by rw [show (60 : Int32) = nI 60 from rfl, pk_mul, nI_add, nI_clamp (by omega)]
  rw [hg, e0, nI_1]
  refine funext fun j => ?_
  by_cases e : j = 60 * b + a
  · rw [e, pk_us]
    unfold kZq
    rw [nI_clamp (show b < 2 ^ 31 by omega), nI_clamp (show a + 1 < 2 ^ 31 by omega), if_pos (by omega)]
  · rw [pk_un e]
    unfold kZq
    rw [nI_clamp (show b < 2 ^ 31 by omega), nI_clamp ha, nI_clamp (show a + 1 < 2 ^ 31 by omega)]
    by_cases c : 60 * b ≤ j ∧ j < 60 * b + a
    · rw [if_pos c, if_pos (by omega)]
    · rw [if_neg c, if_neg (by omega)]
/-- the reference's copy, by way of the row that is moved -/
def k_mv (f g : Nat → Int32) (s i n : Int32) : Prop := ∀ a, a < n.toNatClampNeg → g a = f ((60 * s) + i + nI a).toNatClampNeg
theorem k_mv_0 {f g : Nat → Int32} {s i : Int32} : k_mv f g s i 0 := fun a h => absurd h (by rw [show (0 : Int32).toNatClampNeg = 0 from rfl]; omega)
theorem k_mv_s {f g : Nat → Int32} {s i n v : Int32} (h0 : 0 ≤ n ∧ n.toInt ≤ 1000) (h : k_mv f g s i n) (hv : v = f (((60 * s) + i) + n).toNatClampNeg) : k_mv f (upd g n.toNatClampNeg v) s i (n + 1) := by
  obtain ⟨a, ha, rfl⟩ := k_nat h0.1
  have h2 := h0.2
  rw [nI_toInt ha] at h2
  intro j hj
  rw [nI_1, nI_clamp (by omega)] at hj
  rw [nI_clamp ha]
  by_cases e : j = a
  · rw [e, pk_us, hv]
  · rw [pk_un e]
    exact h j (by rw [nI_clamp ha]; omega)
def kCq (f g : Nat → Int32) (t j n : Int32) : Nat → Int32 := fun q => if 60 * t.toNatClampNeg + j.toNatClampNeg ≤ q ∧ q < 60 * t.toNatClampNeg + j.toNatClampNeg + n.toNatClampNeg then g (q - (60 * t.toNatClampNeg + j.toNatClampNeg)) else f q
theorem kCq_0 {f g : Nat → Int32} {t j : Int32} : f = kCq f g t j 0 := funext fun q => (if_neg (by rw [show (0 : Int32).toNatClampNeg = 0 from rfl]; omega)).symm
theorem kCq_s {f g h : Nat → Int32} {t j n v : Int32} (ht : 0 ≤ t ∧ t ≤ 3) (hj : 0 ≤ j ∧ j.toInt ≤ 1000) (h0 : 0 ≤ n ∧ n.toInt ≤ 1000) (hh : h = kCq f g t j n) (hv : v = g n.toNatClampNeg) : upd h (((60 * t) + j) + n).toNatClampNeg v = kCq f g t j (n + 1) := by
  obtain ⟨a, ha, rfl⟩ := k_nat h0.1
  obtain ⟨c, hc, rfl⟩ := k_nat hj.1
  obtain ⟨b, hb, rfl⟩ := nI_of2 (n := 3) (M := 3) (by decide) (Int32.not_lt.mpr ht.1) ht.2
  have h2 := h0.2
  have h3 := hj.2
  rw [nI_toInt ha] at h2
  rw [nI_toInt hc] at h3
  have e0 : (((60 * nI b) + nI c) + nI a : Int32).toNatClampNeg = 60 * b + c + a := by rw [show (60 : Int32) = nI 60 from rfl, pk_mul, nI_add, nI_add, nI_clamp (by omega)]
  rw [hh, hv, e0, nI_1, nI_clamp ha]
  refine funext fun q => ?_
  by_cases e : q = 60 * b + c + a
  · rw [e, pk_us]
    unfold kCq
    rw [nI_clamp (show b < 2 ^ 31 by omega), nI_clamp hc, nI_clamp (show a + 1 < 2 ^ 31 by omega), if_pos (by omega), show 60 * b + c + a - (60 * b + c) = a by omega]
  · rw [pk_un e]
    unfold kCq
    rw [nI_clamp (show b < 2 ^ 31 by omega), nI_clamp hc, nI_clamp ha, nI_clamp (show a + 1 < 2 ^ 31 by omega)]
    by_cases d : 60 * b + c ≤ q ∧ q < 60 * b + c + a
    · rw [if_pos d, if_pos (by omega)]
    · rw [if_neg d, if_neg (by omega)]
theorem k_bdP3 {f : Nat → Int32} {p : Int32} (h : k_bd 32 0 9 f) (hp : 0 ≤ p ∧ p ≤ 7) : 0 ≤ kP3 f p ∧ kP3 f p ≤ 100 := by
  obtain ⟨b, hb, rfl⟩ := nI_of2 (n := 7) (M := 7) (by decide) (Int32.not_lt.mpr hp.1) hp.2
  have e : ((4 * nI b) + 3 : Int32).toNatClampNeg = 4 * b + 3 := by rw [show (4 : Int32) = nI 4 from rfl, pk_mul, show (3 : Int32) = nI 3 from rfl, nI_add, nI_clamp (by omega)]
  have q := h (4 * b + 3) (by omega)
  unfold kP3
  rw [e, Int32.le_iff_toInt_le, Int32.le_iff_toInt_le, show (0 : Int32).toInt = 0 from rfl, show (100 : Int32).toInt = 100 from rfl]
  omega
/-- an array is another one but for one place -/
def k_of (f g : Nat → Int32) (i : Int32) : Prop := ∀ j, j ≠ i.toNatClampNeg → g j = f j
theorem k_of_0 {f : Nat → Int32} {i : Int32} : k_of f f i := fun _ _ => rfl
theorem k_of_s {f g : Nat → Int32} {i x : Int32} (h : k_of f g i) : k_of f (upd g i.toNatClampNeg x) i := fun j hj => by rw [pk_un hj]; exact h j hj
theorem k_of_e {f g : Nat → Int32} {i : Int32} (h : k_of f g i) : upd g i.toNatClampNeg (f i.toNatClampNeg) = f := funext fun j => by
  by_cases e : j = i.toNatClampNeg
  · rw [e, pk_us]
  · rw [pk_un e]; exact h j e
/-- none of the bytes is bad where there are things -/
def k_nq (v : Int32) (f : Nat → Int32) (n : Int32) : Prop := v = 0 ∨ k_nb f n
theorem wFig_pos {b : Int32} (h : ¬ wFig 49 b = -1) : 1 ≤ (wFig 49 b).toInt ∧ (wFig 49 b).toInt ≤ 9 := by
  unfold wFig at h ⊢
  by_cases c : 49 ≤ b ∧ b ≤ 57
  · rw [if_pos c]
    have h1 := Int32.le_iff_toInt_le.mp c.1
    have h2 := Int32.le_iff_toInt_le.mp c.2
    rw [show (49 : Int32).toInt = 49 from rfl] at h1
    rw [show (57 : Int32).toInt = 57 from rfl] at h2
    rw [Int32.toInt_sub, show (48 : Int32).toInt = 48 from rfl, k_bm (by omega) (by omega)]
    omega
  · rw [if_neg c] at h
    exact absurd rfl h
theorem k_tm_mk {n v : Int32} {f by4 : Nat → Int32} (hn : 0 ≤ n ∧ n.toInt ≤ 39) (hv : v = kNm (kTh7 n) n (kv7 by4)) (hq : k_mq 5 4 v n f (kv7 by4)) (hb : k_nq v (kv7 by4) n) : k_tm v f := by
  intro p hp
  have hlt := k_lt7 (f := kv7 by4) ⟨hn.1, by have := hn.2; omega⟩ (by rw [← hv]; exact hp)
  have hv0 : ¬ v = 0 := fun q => absurd (q ▸ hp.2) (Int32.not_lt.mpr hp.1)
  have hnb : k_nb (kv7 by4) n := hb.resolve_left hv0
  have hmp := k_mq_mp hq hv0
  obtain ⟨a, ha, rfl⟩ := k_nat hp.1
  obtain ⟨m, hm, rfl⟩ := k_nat hn.1
  have hn2 := hn.2
  rw [nI_toInt ha, nI_toInt hm] at hlt
  rw [nI_toInt hm] at hn2
  have e : f (nI 4 * nI a + nI 2).toNatClampNeg = kv7 by4 (nI 5 * nI a + nI 2).toNatClampNeg := k_mp_at (c := 5) (d := 4) (by decide) (by decide) (by decide) hmp ⟨nI_pos' ha, by rw [nI_toInt ha]; omega⟩ ⟨by decide, by decide⟩ (by rw [nI_toInt ha, nI_toInt hm, nI_toInt (by decide)]; omega)
  have e2 : (nI 5 * nI a + nI 2).toNatClampNeg = 5 * a + 2 := by rw [pk_mul, nI_add, nI_clamp (by omega)]
  have e3 : kv7 by4 (5 * a + 2) = wFig 49 (by4 (40 + (5 * a + 2))) := by
    unfold kv7
    rw [show (5 : Int32) = nI 5 from rfl, pk_rem (by omega) (by decide) (by decide), show (5 * a + 2) % 5 = 2 by omega]
    rfl
  have h1 := hnb (5 * a + 2) (by rw [nI_clamp hm]; omega)
  rw [e2, e3] at e
  rw [e3] at h1
  have h2 := wFig_pos h1
  have e4 : kP2 f (nI a) = wFig 49 (by4 (40 + (5 * a + 2))) := e
  rw [e4]
  intro q
  have q2 := Int32.lt_iff_toInt_lt.mp q
  rw [Int32.toInt_mul, show (5 : Int32).toInt = 5 from rfl, show (0 : Int32).toInt = 0 from rfl, k_bm (by omega) (by omega)] at q2
  omega
theorem k_fk {r n p l q h : Int32} (h0 : 0 ≤ n ∧ n ≤ 8) (h1 : r = if kFok p l q h then (if n = 8 then -4 else n + 1) else -2) : (¬ r < 0 → kFok p l q h ∧ ¬ n = 8) ∧ (r < 0 → ¬ (kFok p l q h ∧ ¬ n = 8)) := by
  by_cases c : kFok p l q h
  · rw [if_pos c] at h1
    by_cases d : n = 8
    · rw [if_pos d] at h1
      exact ⟨fun z => absurd (by rw [h1]; decide) z, fun _ z => z.2 d⟩
    · rw [if_neg d] at h1
      refine ⟨fun _ => ⟨c, d⟩, fun z => ?_⟩
      obtain ⟨a, ha, rfl⟩ := nI_of2 (n := 8) (M := 8) (by decide) (Int32.not_lt.mpr h0.1) h0.2
      rw [h1, nI_1] at z
      exact absurd z (nI_pos (by omega))
  · rw [if_neg c] at h1
    exact ⟨fun z => absurd (by rw [h1]; decide) z, fun _ z => c z.1⟩

theorem k_preV0 {dC : Nat → ClassId} {dI : Nat → Nat → Nat} {cI cJ cQ : ClassId} {s : State} {H : Heap} {A : Nat → Prop} {b : Nat} {As : List Value} {ws : va_W} {q0 : Nat} {fs : List Value} (hK : va_K (dC, dI) vwCl (kT cI cJ cQ) s) (hP : va_P (dC, dI) vwCl ws H) (hD : va_D A ws) (hN : kN s) (he : ws[q0]? = some (b, .inr (0, fs))) : PreV s H RX0 b (kPre dC dI cI cJ cQ H.size (.ref b :: As) ws) As := k_preV (ci := 0) (q0 := q0) hK hP hD hN rfl he
theorem k_preV1 {dC : Nat → ClassId} {dI : Nat → Nat → Nat} {cI cJ cQ : ClassId} {s : State} {H : Heap} {A : Nat → Prop} {b : Nat} {As : List Value} {ws : va_W} {q0 : Nat} {fs : List Value} (hK : va_K (dC, dI) vwCl (kT cI cJ cQ) s) (hP : va_P (dC, dI) vwCl ws H) (hD : va_D A ws) (hN : kN s) (he : ws[q0]? = some (b, .inr (1, fs))) : PreV s H RX1 b (kPre dC dI cI cJ cQ H.size (.ref b :: As) ws) As := k_preV (ci := 1) (q0 := q0) hK hP hD hN rfl he
theorem k_preV2 {dC : Nat → ClassId} {dI : Nat → Nat → Nat} {cI cJ cQ : ClassId} {s : State} {H : Heap} {A : Nat → Prop} {b : Nat} {As : List Value} {ws : va_W} {q0 : Nat} {fs : List Value} (hK : va_K (dC, dI) vwCl (kT cI cJ cQ) s) (hP : va_P (dC, dI) vwCl ws H) (hD : va_D A ws) (hN : kN s) (he : ws[q0]? = some (b, .inr (2, fs))) : PreV s H RX2 b (kPre dC dI cI cJ cQ H.size (.ref b :: As) ws) As := k_preV (ci := 2) (q0 := q0) hK hP hD hN rfl he
theorem k_preV3 {dC : Nat → ClassId} {dI : Nat → Nat → Nat} {cI cJ cQ : ClassId} {s : State} {H : Heap} {A : Nat → Prop} {b : Nat} {As : List Value} {ws : va_W} {q0 : Nat} {fs : List Value} (hK : va_K (dC, dI) vwCl (kT cI cJ cQ) s) (hP : va_P (dC, dI) vwCl ws H) (hD : va_D A ws) (hN : kN s) (he : ws[q0]? = some (b, .inr (3, fs))) : PreV s H RX3 b (kPre dC dI cI cJ cQ H.size (.ref b :: As) ws) As := k_preV (ci := 3) (q0 := q0) hK hP hD hN rfl he
theorem k_preV4 {dC : Nat → ClassId} {dI : Nat → Nat → Nat} {cI cJ cQ : ClassId} {s : State} {H : Heap} {A : Nat → Prop} {b : Nat} {As : List Value} {ws : va_W} {q0 : Nat} {fs : List Value} (hK : va_K (dC, dI) vwCl (kT cI cJ cQ) s) (hP : va_P (dC, dI) vwCl ws H) (hD : va_D A ws) (hN : kN s) (he : ws[q0]? = some (b, .inr (4, fs))) : PreV s H RX4 b (kPre dC dI cI cJ cQ H.size (.ref b :: As) ws) As := k_preV (ci := 4) (q0 := q0) hK hP hD hN rfl he
theorem k_preV5 {dC : Nat → ClassId} {dI : Nat → Nat → Nat} {cI cJ cQ : ClassId} {s : State} {H : Heap} {A : Nat → Prop} {b : Nat} {As : List Value} {ws : va_W} {q0 : Nat} {fs : List Value} (hK : va_K (dC, dI) vwCl (kT cI cJ cQ) s) (hP : va_P (dC, dI) vwCl ws H) (hD : va_D A ws) (hN : kN s) (he : ws[q0]? = some (b, .inr (5, fs))) : PreV s H RX5 b (kPre dC dI cI cJ cQ H.size (.ref b :: As) ws) As := k_preV (ci := 5) (q0 := q0) hK hP hD hN rfl he
theorem k_preV6 {dC : Nat → ClassId} {dI : Nat → Nat → Nat} {cI cJ cQ : ClassId} {s : State} {H : Heap} {A : Nat → Prop} {b : Nat} {As : List Value} {ws : va_W} {q0 : Nat} {fs : List Value} (hK : va_K (dC, dI) vwCl (kT cI cJ cQ) s) (hP : va_P (dC, dI) vwCl ws H) (hD : va_D A ws) (hN : kN s) (he : ws[q0]? = some (b, .inr (6, fs))) : PreV s H RX6 b (kPre dC dI cI cJ cQ H.size (.ref b :: As) ws) As := k_preV (ci := 6) (q0 := q0) hK hP hD hN rfl he
theorem k_preV7 {dC : Nat → ClassId} {dI : Nat → Nat → Nat} {cI cJ cQ : ClassId} {s : State} {H : Heap} {A : Nat → Prop} {b : Nat} {As : List Value} {ws : va_W} {q0 : Nat} {fs : List Value} (hK : va_K (dC, dI) vwCl (kT cI cJ cQ) s) (hP : va_P (dC, dI) vwCl ws H) (hD : va_D A ws) (hN : kN s) (he : ws[q0]? = some (b, .inr (7, fs))) : PreV s H RX7 b (kPre dC dI cI cJ cQ H.size (.ref b :: As) ws) As := k_preV (ci := 7) (q0 := q0) hK hP hD hN rfl he
theorem k_preV8 {dC : Nat → ClassId} {dI : Nat → Nat → Nat} {cI cJ cQ : ClassId} {s : State} {H : Heap} {A : Nat → Prop} {b : Nat} {As : List Value} {ws : va_W} {q0 : Nat} {fs : List Value} (hK : va_K (dC, dI) vwCl (kT cI cJ cQ) s) (hP : va_P (dC, dI) vwCl ws H) (hD : va_D A ws) (hN : kN s) (he : ws[q0]? = some (b, .inr (8, fs))) : PreV s H RX8 b (kPre dC dI cI cJ cQ H.size (.ref b :: As) ws) As := k_preV (ci := 8) (q0 := q0) hK hP hD hN rfl he
theorem k_preV9 {dC : Nat → ClassId} {dI : Nat → Nat → Nat} {cI cJ cQ : ClassId} {s : State} {H : Heap} {A : Nat → Prop} {b : Nat} {As : List Value} {ws : va_W} {q0 : Nat} {fs : List Value} (hK : va_K (dC, dI) vwCl (kT cI cJ cQ) s) (hP : va_P (dC, dI) vwCl ws H) (hD : va_D A ws) (hN : kN s) (he : ws[q0]? = some (b, .inr (9, fs))) : PreV s H RX10 b (kPre dC dI cI cJ cQ H.size (.ref b :: As) ws) As := k_preV (ci := 9) (q0 := q0) hK hP hD hN rfl he
theorem k_preV10 {dC : Nat → ClassId} {dI : Nat → Nat → Nat} {cI cJ cQ : ClassId} {s : State} {H : Heap} {A : Nat → Prop} {b : Nat} {As : List Value} {ws : va_W} {q0 : Nat} {fs : List Value} (hK : va_K (dC, dI) vwCl (kT cI cJ cQ) s) (hP : va_P (dC, dI) vwCl ws H) (hD : va_D A ws) (hN : kN s) (he : ws[q0]? = some (b, .inr (10, fs))) : PreV s H RX11 b (kPre dC dI cI cJ cQ H.size (.ref b :: As) ws) As := k_preV (ci := 10) (q0 := q0) hK hP hD hN rfl he
theorem k_preV11 {dC : Nat → ClassId} {dI : Nat → Nat → Nat} {cI cJ cQ : ClassId} {s : State} {H : Heap} {A : Nat → Prop} {b : Nat} {As : List Value} {ws : va_W} {q0 : Nat} {fs : List Value} (hK : va_K (dC, dI) vwCl (kT cI cJ cQ) s) (hP : va_P (dC, dI) vwCl ws H) (hD : va_D A ws) (hN : kN s) (he : ws[q0]? = some (b, .inr (11, fs))) : PreV s H RX12 b (kPre dC dI cI cJ cQ H.size (.ref b :: As) ws) As := k_preV (ci := 11) (q0 := q0) hK hP hD hN rfl he
theorem kc_m13 : (-13 : Int32).toInt = -13 := by decide
theorem kc_m12 : (-12 : Int32).toInt = -12 := by decide
theorem kc_m11 : (-11 : Int32).toInt = -11 := by decide
theorem kc_m10 : (-10 : Int32).toInt = -10 := by decide
theorem kc_m9 : (-9 : Int32).toInt = -9 := by decide
theorem kc_m3 : (-3 : Int32).toInt = -3 := by decide
theorem kc_m2 : (-2 : Int32).toInt = -2 := by decide
theorem kc_m1 : (-1 : Int32).toInt = -1 := by decide
theorem kc_0 : (0 : Int32).toInt = 0 := by decide
theorem kc_1 : (1 : Int32).toInt = 1 := by decide
theorem kc_2 : (2 : Int32).toInt = 2 := by decide
theorem kc_3 : (3 : Int32).toInt = 3 := by decide
theorem kc_4 : (4 : Int32).toInt = 4 := by decide
theorem kc_5 : (5 : Int32).toInt = 5 := by decide
theorem kc_6 : (6 : Int32).toInt = 6 := by decide
theorem kc_7 : (7 : Int32).toInt = 7 := by decide
theorem kc_8 : (8 : Int32).toInt = 8 := by decide
theorem kc_9 : (9 : Int32).toInt = 9 := by decide
theorem kc_10 : (10 : Int32).toInt = 10 := by decide
theorem kc_11 : (11 : Int32).toInt = 11 := by decide
theorem kc_12 : (12 : Int32).toInt = 12 := by decide
theorem kc_13 : (13 : Int32).toInt = 13 := by decide
theorem kc_15 : (15 : Int32).toInt = 15 := by decide
theorem kc_16 : (16 : Int32).toInt = 16 := by decide
theorem kc_20 : (20 : Int32).toInt = 20 := by decide
theorem kc_23 : (23 : Int32).toInt = 23 := by decide
theorem kc_24 : (24 : Int32).toInt = 24 := by decide
theorem kc_25 : (25 : Int32).toInt = 25 := by decide
theorem kc_32 : (32 : Int32).toInt = 32 := by decide
theorem kc_39 : (39 : Int32).toInt = 39 := by decide
theorem kc_40 : (40 : Int32).toInt = 40 := by decide
theorem kc_45 : (45 : Int32).toInt = 45 := by decide
theorem kc_46 : (46 : Int32).toInt = 46 := by decide
theorem kc_48 : (48 : Int32).toInt = 48 := by decide
theorem kc_49 : (49 : Int32).toInt = 49 := by decide
theorem kc_57 : (57 : Int32).toInt = 57 := by decide
theorem kc_59 : (59 : Int32).toInt = 59 := by decide
theorem kc_60 : (60 : Int32).toInt = 60 := by decide
theorem kc_63 : (63 : Int32).toInt = 63 := by decide
theorem kc_64 : (64 : Int32).toInt = 64 := by decide
theorem kc_80 : (80 : Int32).toInt = 80 := by decide
theorem kc_96 : (96 : Int32).toInt = 96 := by decide
theorem kc_97 : (97 : Int32).toInt = 97 := by decide
theorem kc_99 : (99 : Int32).toInt = 99 := by decide
theorem kc_100 : (100 : Int32).toInt = 100 := by decide
theorem kc_102 : (102 : Int32).toInt = 102 := by decide
theorem kc_105 : (105 : Int32).toInt = 105 := by decide
theorem kc_111 : (111 : Int32).toInt = 111 := by decide
theorem kc_112 : (112 : Int32).toInt = 112 := by decide
theorem kc_115 : (115 : Int32).toInt = 115 := by decide
theorem kc_116 : (116 : Int32).toInt = 116 := by decide
theorem kc_119 : (119 : Int32).toInt = 119 := by decide
theorem kc_120 : (120 : Int32).toInt = 120 := by decide
theorem kc_240 : (240 : Int32).toInt = 240 := by decide
theorem kc_255 : (255 : Int32).toInt = 255 := by decide
theorem kc_1000 : (1000 : Int32).toInt = 1000 := by decide
theorem kc_1024 : (1024 : Int32).toInt = 1024 := by decide
theorem kc_1863 : (1863 : Int32).toInt = 1863 := by decide
theorem kc_2147483647 : (2147483647 : Int32).toInt = 2147483647 := by decide
theorem kd_m12 : (-12 : Int64).toInt = -12 := by decide
theorem kd_m9 : (-9 : Int64).toInt = -9 := by decide
theorem kd_m1 : (-1 : Int64).toInt = -1 := by decide
theorem kd_0 : (0 : Int64).toInt = 0 := by decide
theorem kd_1 : (1 : Int64).toInt = 1 := by decide
theorem kd_2 : (2 : Int64).toInt = 2 := by decide
theorem kd_3 : (3 : Int64).toInt = 3 := by decide
theorem kd_4 : (4 : Int64).toInt = 4 := by decide
theorem kd_5 : (5 : Int64).toInt = 5 := by decide
theorem kd_6 : (6 : Int64).toInt = 6 := by decide
theorem kd_7 : (7 : Int64).toInt = 7 := by decide
theorem kd_8 : (8 : Int64).toInt = 8 := by decide
theorem kd_9 : (9 : Int64).toInt = 9 := by decide
theorem kd_10 : (10 : Int64).toInt = 10 := by decide
theorem kd_12 : (12 : Int64).toInt = 12 := by decide
theorem kd_23 : (23 : Int64).toInt = 23 := by decide
theorem kd_24 : (24 : Int64).toInt = 24 := by decide
theorem kd_32 : (32 : Int64).toInt = 32 := by decide
theorem kd_39 : (39 : Int64).toInt = 39 := by decide
theorem kd_48 : (48 : Int64).toInt = 48 := by decide
theorem kd_49 : (49 : Int64).toInt = 49 := by decide
theorem kd_57 : (57 : Int64).toInt = 57 := by decide
theorem kd_59 : (59 : Int64).toInt = 59 := by decide
theorem kd_60 : (60 : Int64).toInt = 60 := by decide
theorem kd_97 : (97 : Int64).toInt = 97 := by decide
theorem kd_100 : (100 : Int64).toInt = 100 := by decide
theorem kd_102 : (102 : Int64).toInt = 102 := by decide
theorem kd_105 : (105 : Int64).toInt = 105 := by decide
theorem kd_111 : (111 : Int64).toInt = 111 := by decide
theorem kd_112 : (112 : Int64).toInt = 112 := by decide
theorem kd_115 : (115 : Int64).toInt = 115 := by decide
theorem kd_116 : (116 : Int64).toInt = 116 := by decide
theorem kd_119 : (119 : Int64).toInt = 119 := by decide
theorem kd_240 : (240 : Int64).toInt = 240 := by decide
theorem kd_255 : (255 : Int64).toInt = 255 := by decide
theorem kd_1000 : (1000 : Int64).toInt = 1000 := by decide
