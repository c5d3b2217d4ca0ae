-- ===== end of PART A; then your names; then what follows =====
/-! THE CLAIM OUT OF ONE WALK OF THE LAW'S BODY. Your part is whole_start (and what it stands on); all else here is the same for every law, but numbers. -/
def R_law : String := "BittenStickLaw"
def lw_P (b : Addr) (xs : List Int32) (args : Array Value) (s : State) : Prop := args = #[.ref b] ∧ s.IntsAt b xs ∧ xs.length ≤ 384 ∧ (Jvm.Cond.and given_1 narrow_1).before args s = true
def lw_Q (_ : Array Value) (s : State) (o : Outcome) (t : State) : Prop := o = .returned (some (.int 1)) ∧ Framed s o t [] 600000 7302249
def lw_Z (below : List Frame) (a : Array Value) (s : State) : State → Prop := fun t => ∃ o, t.status = .running ∧ Ended t below o ∧ lw_Q a s o t
/-- the law's own end, with 1 on the stack, nothing written that was there before, its room as the claim has it -/
theorem lw_ret {p : Program} {l : Launch} {e : Env} {s : State} {m : MethodId} {below : List Frame} {meth : Method} {c : Code} {b : Nat} (hx : p.tables.exec = Jvm.exec) (hb : c.code = code) (hr : meth.sig.returnType = ret) (hlocks : meth.locks = false) {pc : Nat} {H : Heap} {ls : Array Slot} (hdg : decode code pc = .ok (.ireturn, 1)) : W p l e room_1 s m #[Value.ref b] below meth c H [] 600000 7302249 (lw_Z below #[Value.ref b] s) (F0 m pc ls [.int 1]) := by
  intro T hT X
  obtain ⟨fs, hret, hrun, hended, hW, hframe⟩ := X.leave (v := some (.int 1)) (hlocks := hlocks) (fun h => by rw [hr] at h; cases h)
  have hmeth' : T.vm.method? m = some meth := X.method'
  refine ⟨T.setFrames fs, ?_, .returned (some (.int 1)), hrun, hended, rfl, ⟨_, rfl⟩, hW, hframe⟩
  jvm_step X.here [X.here.top, hx, hb, hdg, hmeth', hr, ret, narrow_b1]
  (try refine ⟨rfl, ?_⟩); (try refine ⟨rfl, ?_⟩)
  first | (intro acts; rw [hret _ acts rfl rfl rfl]) | rw [hret _ _ rfl rfl rfl]
  exact Steps.refl _
/-- what holds at the law's entry: the machine, the code, the tables' words (any of lw_tbl by 'hts w (by decide +kernel)'), the script of L ints xs at the cell b, what the Statement gives of the start (any of its parts by flat_of_before) -/
def lw_At (p : Program) (s : State) (m : MethodId) (meth : Method) (c : Code) (b L : Nat) (xs : Nat → Int32) : Prop :=
  p.tables.exec = Jvm.exec ∧ c.code = code ∧ meth.sig.returnType = ret ∧ c.maxLocals = 4 ∧ s.vm.findClass R_law = some m.cls ∧ (∀ w ∈ lw_tbl, w.before #[Value.ref b] s = true) ∧ va_X b L xs s s.heap ∧ b < s.heap.size ∧ meth.locks = false ∧ (Jvm.Cond.and given_1 narrow_1).before #[Value.ref b] s = true

theorem k_sx {k L j : Nat} (hk : k + 6 ≤ L) (hL : L ≤ 384) (hj : j < 6) : vp_in (nI k + nI j) L := by
  rw [nI_add]
  exact vp_in_nI (by omega) (by omega)
theorem k_s0 {k L : Nat} (hk : k + 6 ≤ L) (hL : L ≤ 384) : vp_in (nI k) L := vp_in_nI (by omega) (by omega)
theorem k_hd {k L : Nat} (hL : L ≤ 384) (hk : k ≤ 400) (h : ¬ nI L - nI 6 < nI k) : k + 6 ≤ L := by
  have h1 : ¬ (nI L - nI 6).toInt < (nI k).toInt := fun q => h (Int32.lt_iff_toInt_lt.mpr q)
  rw [pk_sub_toInt (by omega) (by omega), nI_toInt (by omega)] at h1
  omega
theorem k_hx {k L : Nat} (hL : L ≤ 384) (hk : k ≤ 400) (h : k + 6 ≤ L) : ¬ nI L - nI 6 < nI k := by
  intro q
  have h1 := Int32.lt_iff_toInt_lt.mp q
  rw [pk_sub_toInt (by omega) (by omega), nI_toInt (by omega)] at h1
  omega

/-- the sheets of class and reference: lost, or of one form -/
def k_lf (qFo sLo sFo : Nat → Int32) : Prop := ∀ k, k < 4 → (qFo k < 0 ∧ sLo k = 1) ∨ (¬ qFo k < 0 ∧ sLo k = 0 ∧ sFo k = qFo k)
theorem k_c4 {s : Int32} (h : 0 ≤ s ∧ s ≤ 3) : s.toNatClampNeg < 4 := by
  have h0 : ¬ s < 0 := Int32.not_lt.mpr h.1
  obtain ⟨j, hj, rfl⟩ := nI_of2 (n := 3) (M := 3) (by decide) h0 h.2
  rw [nI_clamp (by omega)]
  omega
theorem k_lf_at {qFo sLo sFo : Nat → Int32} (h : k_lf qFo sLo sFo) {s : Int32} (hs : 0 ≤ s ∧ s ≤ 3) : (sLo s.toNatClampNeg = 0 ↔ ¬ qFo s.toNatClampNeg < 0) ∧ (sLo s.toNatClampNeg = 0 → sFo s.toNatClampNeg = qFo s.toNatClampNeg) := by
  rcases h _ (k_c4 hs) with ⟨h1, h2⟩ | ⟨h1, h2, h3⟩
  · refine ⟨⟨fun q => absurd (h2.symm.trans q) (by decide), fun q => absurd h1 q⟩, fun q => absurd (h2.symm.trans q) (by decide)⟩
  · exact ⟨⟨fun _ => h1, fun _ => h2⟩, fun _ => h3⟩
theorem k_lf_sheet {qFo sLo sFo : Nat → Int32} (h : k_lf qFo sLo sFo) {ss fm nn : Int32} : k_lf (if 0 ≤ ss ∧ ss ≤ 3 ∧ 0 ≤ fm ∧ fm ≤ 2 ∧ nn ≤ 60 ∧ ¬ nn < 0 then upd qFo ss.toNatClampNeg fm else qFo) (if 0 ≤ ss ∧ ss ≤ 3 ∧ 0 ≤ fm ∧ fm ≤ 2 ∧ nn ≤ 60 ∧ ¬ nn < 0 then upd sLo ss.toNatClampNeg 0 else sLo) (if 0 ≤ ss ∧ ss ≤ 3 ∧ 0 ≤ fm ∧ fm ≤ 2 ∧ nn ≤ 60 ∧ ¬ nn < 0 then upd sFo ss.toNatClampNeg fm else sFo) := by
  by_cases c : 0 ≤ ss ∧ ss ≤ 3 ∧ 0 ≤ fm ∧ fm ≤ 2 ∧ nn ≤ 60 ∧ ¬ nn < 0
  · rw [if_pos c, if_pos c, if_pos c]
    intro k hk
    by_cases e : k = ss.toNatClampNeg
    · subst e
      rw [pk_us, pk_us, pk_us]
      exact Or.inr ⟨Int32.not_lt.mpr c.2.2.1, rfl, rfl⟩
    · rw [pk_un e, pk_un e, pk_un e]
      exact h k hk
  · rw [if_neg c, if_neg c, if_neg c]
    exact h
theorem k_lf_lose {qFo sLo sFo : Nat → Int32} (h : k_lf qFo sLo sFo) {ss : Int32} : k_lf (if 0 ≤ ss ∧ ss ≤ 3 ∧ ¬ qFo ss.toNatClampNeg < 0 then upd qFo ss.toNatClampNeg (-1) else qFo) (if 0 ≤ ss ∧ ss ≤ 3 ∧ sLo ss.toNatClampNeg = 0 then upd sLo ss.toNatClampNeg 1 else sLo) sFo := by
  by_cases c : 0 ≤ ss ∧ ss ≤ 3 ∧ sLo ss.toNatClampNeg = 0
  · have a := k_lf_at h ⟨c.1, c.2.1⟩
    rw [if_pos c, if_pos ⟨c.1, c.2.1, a.1.mp c.2.2⟩]
    intro k hk
    by_cases e : k = ss.toNatClampNeg
    · subst e
      rw [pk_us, pk_us]
      exact Or.inl ⟨by decide, rfl⟩
    · rw [pk_un e, pk_un e]
      exact h k hk
  · have c2 : ¬ (0 ≤ ss ∧ ss ≤ 3 ∧ ¬ qFo ss.toNatClampNeg < 0) := fun q => c ⟨q.1, q.2.1, (k_lf_at h ⟨q.1, q.2.1⟩).1.mpr q.2.2⟩
    rw [if_neg c, if_neg c2]
    exact h
theorem k_ifc {α : Type} {P Q : Prop} [Decidable P] [Decidable Q] {a b a2 b2 : α} (h : P ↔ Q) (h1 : P → a = a2) (h2 : ¬ P → b = b2) : (if P then a else b) = if Q then a2 else b2 := by
  by_cases c : P
  · rw [if_pos c, if_pos (h.mp c)]; exact h1 c
  · rw [if_neg c, if_neg (fun q => c (h.mpr q))]; exact h2 c
theorem e_lose {qFo sLo sFo qSi : Nat → Int32} (h : k_lf qFo sLo sFo) {ss : Int32} : (if 0 ≤ ss ∧ ss ≤ 3 then (if sLo ss.toNatClampNeg = 0 then qSi ss.toNatClampNeg else -11) else -2) = (if 0 ≤ ss ∧ ss ≤ 3 then (if qFo ss.toNatClampNeg < 0 then -11 else qSi ss.toNatClampNeg) else -2) := by
  refine k_ifc Iff.rfl (fun c => ?_) (fun _ => rfl)
  have a := (k_lf_at h c).1
  by_cases d : qFo ss.toNatClampNeg < 0
  · rw [if_pos d, if_neg (fun q => a.mp q d)]
  · rw [if_neg d, if_pos (a.mpr d)]
theorem e_lay {qFo sLo sFo qSi : Nat → Int32} (h : k_lf qFo sLo sFo) {ss fm i1 : Int32} : (if 0 ≤ ss ∧ ss ≤ 3 ∧ 0 ≤ fm ∧ fm ≤ 2 then (if sLo ss.toNatClampNeg = 0 ∧ sFo ss.toNatClampNeg = fm ∧ 0 ≤ i1 ∧ i1 < qSi ss.toNatClampNeg then (1 : Int32) else if sLo ss.toNatClampNeg = 0 ∧ sFo ss.toNatClampNeg = fm then -12 else if sLo ss.toNatClampNeg = 0 then -13 else -11) else -2) = (if 0 ≤ ss ∧ ss ≤ 3 ∧ 0 ≤ fm ∧ fm ≤ 2 then (if ¬ qFo ss.toNatClampNeg < 0 ∧ qFo ss.toNatClampNeg = fm ∧ 0 ≤ i1 ∧ i1 < qSi ss.toNatClampNeg then 1 else if ¬ qFo ss.toNatClampNeg < 0 ∧ qFo ss.toNatClampNeg = fm then -12 else if ¬ qFo ss.toNatClampNeg < 0 then -13 else -11) else -2) := by
  refine k_ifc Iff.rfl (fun c => ?_) (fun _ => rfl)
  obtain ⟨a, b⟩ := k_lf_at h ⟨c.1, c.2.1⟩
  refine k_ifc ⟨fun q => ⟨a.mp q.1, (b q.1).symm.trans q.2.1, q.2.2⟩, fun q => ⟨a.mpr q.1, (b (a.mpr q.1)).trans q.2.1, q.2.2⟩⟩ (fun _ => rfl) (fun _ => ?_)
  refine k_ifc ⟨fun q => ⟨a.mp q.1, (b q.1).symm.trans q.2⟩, fun q => ⟨a.mpr q.1, (b (a.mpr q.1)).trans q.2⟩⟩ (fun _ => rfl) (fun _ => ?_)
  exact k_ifc a (fun _ => rfl) (fun _ => rfl)
theorem e_copy {qFo sLo sFo qSi : Nat → Int32} (h : k_lf qFo sLo sFo) {ss s5 ix jx nn : Int32} : (if 0 ≤ ss ∧ ss ≤ 3 ∧ 0 ≤ s5 ∧ s5 ≤ 3 then (if sLo ss.toNatClampNeg = 0 ∧ sLo s5.toNatClampNeg = 0 then (if sFo ss.toNatClampNeg = sFo s5.toNatClampNeg then (if 0 ≤ ix ∧ 0 ≤ jx ∧ 0 ≤ nn ∧ ix.toInt + nn.toInt ≤ (qSi ss.toNatClampNeg).toInt ∧ jx.toInt + nn.toInt ≤ (qSi s5.toNatClampNeg).toInt then (1 : Int32) else -12) else -14) else -11) else -2) = (if 0 ≤ ss ∧ ss ≤ 3 ∧ 0 ≤ s5 ∧ s5 ≤ 3 then (if ¬ qFo ss.toNatClampNeg < 0 ∧ ¬ qFo s5.toNatClampNeg < 0 then (if qFo ss.toNatClampNeg = qFo s5.toNatClampNeg then (if 0 ≤ ix ∧ 0 ≤ jx ∧ 0 ≤ nn ∧ ix.toInt + nn.toInt ≤ (qSi ss.toNatClampNeg).toInt ∧ jx.toInt + nn.toInt ≤ (qSi s5.toNatClampNeg).toInt then 1 else -12) else -14) else -11) else -2) := by
  refine k_ifc Iff.rfl (fun c => ?_) (fun _ => rfl)
  obtain ⟨a, b⟩ := k_lf_at h ⟨c.1, c.2.1⟩
  obtain ⟨a2, b2⟩ := k_lf_at h ⟨c.2.2.1, c.2.2.2⟩
  refine k_ifc ⟨fun q => ⟨a.mp q.1, a2.mp q.2⟩, fun q => ⟨a.mpr q.1, a2.mpr q.2⟩⟩ (fun q => ?_) (fun _ => rfl)
  rw [b q.1, b2 q.2]

theorem k_ml_app {n v : Int32} {f g g' : Nat → Int32} (hn : 0 ≤ n ∧ n.toInt ≤ 100) (h : k_ml n f g) (hg : ∀ j, j < n.toNatClampNeg → g' j = g j) (hv : g' n.toNatClampNeg = v) : k_ml (n + 1) (upd f n.toNatClampNeg v) g' := by
  obtain ⟨a, ha, rfl⟩ := k_nat hn.1
  have h2 := hn.2
  rw [nI_toInt ha] at h2
  intro j hj
  rw [nI_1, nI_clamp (by omega)] at hj
  by_cases e : j = (nI a).toNatClampNeg
  · rw [e, pk_us, hv]
  · rw [pk_un e]
    have q : j < (nI a).toNatClampNeg := by rw [nI_clamp ha] at e ⊢; omega
    rw [hg j q]
    exact h j q
theorem k_ml_cg {n : Int32} {f g g' : Nat → Int32} (h : k_ml n f g) (hg : ∀ j, j < n.toNatClampNeg → g' j = g j) : k_ml n f g' := fun j hj => (h j hj).trans (hg j hj).symm
theorem k_ml_le {n m : Int32} {f g : Nat → Int32} (h : k_ml n f g) (hm : 0 ≤ m ∧ m ≤ n) : k_ml m f g := by
  obtain ⟨a, ha, rfl⟩ := k_nat hm.1
  obtain ⟨b, hb, rfl⟩ := k_nat (Int32.le_trans hm.1 hm.2)
  have := (nI_leI ha hb).mp hm.2
  intro j hj
  rw [nI_clamp ha] at hj
  exact h j (by rw [nI_clamp hb]; omega)
theorem k_cl {x : Int32} {m : Nat} (h : 0 ≤ x.toInt ∧ x.toInt ≤ m) : x.toNatClampNeg ≤ m ∧ 0 ≤ x := by
  have h0 : 0 ≤ x := Int32.le_iff_toInt_le.mpr (by rw [show (0 : Int32).toInt = 0 from rfl]; exact h.1)
  obtain ⟨a, ha, rfl⟩ := k_nat h0
  rw [nI_toInt ha] at h
  exact ⟨by rw [nI_clamp ha]; omega, h0⟩
section KT
variable {q by4 : Nat → Int32} {tt b : Int32}
theorem k_ty_bd (h0 : 0 ≤ (q 0).toInt ∧ (q 0).toInt ≤ 24) (h1 : 0 ≤ (q 1).toInt ∧ (q 1).toInt ≤ 39) (c : (tt = 0 ∧ ¬ q 0 = 24 ∨ tt = 1 ∧ ¬ q 1 = 39 ∨ tt = 2 ∧ ¬ q 2 = 23) ∧ 0 ≤ b ∧ b ≤ 255) : (tt = 0 ∧ kIx tt q = (q 0).toNatClampNeg ∧ kIx tt q ≤ 24) ∨ (tt = 1 ∧ kIx tt q = 40 + (q 1).toNatClampNeg ∧ kIx tt q ≤ 79) ∨ (tt = 2 ∧ kIx tt q = 80 + (q 2).toNatClampNeg) := by
  rcases c.1 with ⟨e, _⟩ | ⟨e, _⟩ | ⟨e, _⟩
  · refine Or.inl ⟨e, ?_⟩
    unfold kIx
    rw [if_pos e]
    exact ⟨rfl, (k_cl (m := 24) h0).1⟩
  · refine Or.inr (Or.inl ⟨e, ?_⟩)
    unfold kIx
    rw [if_neg (by rw [e]; decide), if_pos e]
    have := (k_cl (m := 39) h1).1
    exact ⟨rfl, by omega⟩
  · refine Or.inr (Or.inr ⟨e, ?_⟩)
    unfold kIx
    rw [if_neg (by rw [e]; decide), if_neg (by rw [e]; decide)]
theorem k_ml_t4 {f : Nat → Int32} (h : k_ml (q 0) f (kv4 by4)) (h0 : 0 ≤ (q 0).toInt ∧ (q 0).toInt ≤ 24) (h1 : 0 ≤ (q 1).toInt ∧ (q 1).toInt ≤ 39) : k_ml (if tt = 0 ∧ 0 ≤ b ∧ b ≤ 255 ∧ ¬ q 0 = 24 then q 0 + 1 else q 0) (if tt = 0 ∧ 0 ≤ b ∧ b ≤ 255 ∧ ¬ q 0 = 24 then upd f (q 0).toNatClampNeg (wL b) else f) (kv4 (if (tt = 0 ∧ ¬ q 0 = 24 ∨ tt = 1 ∧ ¬ q 1 = 39 ∨ tt = 2 ∧ ¬ q 2 = 23) ∧ 0 ≤ b ∧ b ≤ 255 then upd by4 (kIx tt q) b else by4)) := by
  have hc := k_cl (m := 24) h0
  by_cases c : tt = 0 ∧ 0 ≤ b ∧ b ≤ 255 ∧ ¬ q 0 = 24
  · have c2 : (tt = 0 ∧ ¬ q 0 = 24 ∨ tt = 1 ∧ ¬ q 1 = 39 ∨ tt = 2 ∧ ¬ q 2 = 23) ∧ 0 ≤ b ∧ b ≤ 255 := ⟨Or.inl ⟨c.1, c.2.2.2⟩, c.2.1, c.2.2.1⟩
    rw [if_pos c, if_pos c, if_pos c2]
    have e : kIx tt q = (q 0).toNatClampNeg := by unfold kIx; rw [if_pos c.1]
    refine k_ml_app ⟨hc.2, by omega⟩ h (fun j hj => ?_) ?_
    · unfold kv4
      rw [pk_un (by omega)]
    · unfold kv4
      rw [e, pk_us]
  · rw [if_neg c, if_neg c]
    refine k_ml_cg h (fun j hj => ?_)
    by_cases c2 : (tt = 0 ∧ ¬ q 0 = 24 ∨ tt = 1 ∧ ¬ q 1 = 39 ∨ tt = 2 ∧ ¬ q 2 = 23) ∧ 0 ≤ b ∧ b ≤ 255
    · rw [if_pos c2]
      unfold kv4
      rcases k_ty_bd h0 h1 c2 with ⟨e, _⟩ | ⟨_, e, _⟩ | ⟨_, e⟩
      · refine absurd ?_ c
        rcases c2.1 with z | z | z
        · exact ⟨e, c2.2.1, c2.2.2, z.2⟩
        · exact absurd (e.symm.trans z.1) (by decide)
        · exact absurd (e.symm.trans z.1) (by decide)
      · rw [pk_un (by omega)]
      · rw [pk_un (by omega)]
    · rw [if_neg c2]
theorem k_ml_t7 {f : Nat → Int32} (h : k_ml (q 1) f (kv7 by4)) (h0 : 0 ≤ (q 0).toInt ∧ (q 0).toInt ≤ 24) (h1 : 0 ≤ (q 1).toInt ∧ (q 1).toInt ≤ 39) : k_ml (if tt = 1 ∧ 0 ≤ b ∧ b ≤ 255 ∧ ¬ q 1 = 39 then q 1 + 1 else q 1) (if tt = 1 ∧ 0 ≤ b ∧ b ≤ 255 ∧ ¬ q 1 = 39 then upd f (q 1).toNatClampNeg (wP (q 1 - q 1 / 5 * 5) b) else f) (kv7 (if (tt = 0 ∧ ¬ q 0 = 24 ∨ tt = 1 ∧ ¬ q 1 = 39 ∨ tt = 2 ∧ ¬ q 2 = 23) ∧ 0 ≤ b ∧ b ≤ 255 then upd by4 (kIx tt q) b else by4)) := by
  have hc := k_cl (m := 39) h1
  by_cases c : tt = 1 ∧ 0 ≤ b ∧ b ≤ 255 ∧ ¬ q 1 = 39
  · have c2 : (tt = 0 ∧ ¬ q 0 = 24 ∨ tt = 1 ∧ ¬ q 1 = 39 ∨ tt = 2 ∧ ¬ q 2 = 23) ∧ 0 ≤ b ∧ b ≤ 255 := ⟨Or.inr (Or.inl ⟨c.1, c.2.2.2⟩), c.2.1, c.2.2.1⟩
    rw [if_pos c, if_pos c, if_pos c2]
    have e : kIx tt q = 40 + (q 1).toNatClampNeg := by unfold kIx; rw [if_neg (by rw [c.1]; decide), if_pos c.1]
    refine k_ml_app ⟨hc.2, by omega⟩ h (fun j hj => ?_) ?_
    · unfold kv7
      rw [pk_un (by omega)]
    · obtain ⟨a, ha, ea⟩ := k_nat hc.2
      unfold kv7
      rw [e, pk_us, ea, nI_clamp ha]
  · rw [if_neg c, if_neg c]
    refine k_ml_cg h (fun j hj => ?_)
    by_cases c2 : (tt = 0 ∧ ¬ q 0 = 24 ∨ tt = 1 ∧ ¬ q 1 = 39 ∨ tt = 2 ∧ ¬ q 2 = 23) ∧ 0 ≤ b ∧ b ≤ 255
    · rw [if_pos c2]
      unfold kv7
      rcases k_ty_bd h0 h1 c2 with ⟨_, e, e2⟩ | ⟨e, _⟩ | ⟨_, e⟩
      · rw [pk_un (by omega)]
      · refine absurd ?_ c
        rcases c2.1 with z | z | z
        · exact absurd (e.symm.trans z.1) (by decide)
        · exact ⟨e, c2.2.1, c2.2.2, z.2⟩
        · exact absurd (e.symm.trans z.1) (by decide)
      · rw [pk_un (by omega)]
    · rw [if_neg c2]
theorem k_ml_t2 {f : Nat → Int32} (h : k_ml (q 2) f (kv2 by4)) (h0 : 0 ≤ (q 0).toInt ∧ (q 0).toInt ≤ 24) (h1 : 0 ≤ (q 1).toInt ∧ (q 1).toInt ≤ 39) (h2 : 0 ≤ (q 2).toInt ∧ (q 2).toInt ≤ 23) : k_ml (if tt = 2 ∧ 0 ≤ b ∧ b ≤ 255 ∧ ¬ q 2 = 23 then q 2 + 1 else q 2) (if tt = 2 ∧ 0 ≤ b ∧ b ≤ 255 ∧ ¬ q 2 = 23 then upd f (q 2).toNatClampNeg (wG (q 2 - q 2 / 3 * 3) b) else f) (kv2 (if (tt = 0 ∧ ¬ q 0 = 24 ∨ tt = 1 ∧ ¬ q 1 = 39 ∨ tt = 2 ∧ ¬ q 2 = 23) ∧ 0 ≤ b ∧ b ≤ 255 then upd by4 (kIx tt q) b else by4)) := by
  have hc := k_cl (m := 23) h2
  by_cases c : tt = 2 ∧ 0 ≤ b ∧ b ≤ 255 ∧ ¬ q 2 = 23
  · have c2 : (tt = 0 ∧ ¬ q 0 = 24 ∨ tt = 1 ∧ ¬ q 1 = 39 ∨ tt = 2 ∧ ¬ q 2 = 23) ∧ 0 ≤ b ∧ b ≤ 255 := ⟨Or.inr (Or.inr ⟨c.1, c.2.2.2⟩), c.2.1, c.2.2.1⟩
    rw [if_pos c, if_pos c, if_pos c2]
    have e : kIx tt q = 80 + (q 2).toNatClampNeg := by unfold kIx; rw [if_neg (by rw [c.1]; decide), if_neg (by rw [c.1]; decide)]
    refine k_ml_app ⟨hc.2, by omega⟩ h (fun j hj => ?_) ?_
    · unfold kv2
      rw [pk_un (by omega)]
    · obtain ⟨a, ha, ea⟩ := k_nat hc.2
      unfold kv2
      rw [e, pk_us, ea, nI_clamp ha]
  · rw [if_neg c, if_neg c]
    refine k_ml_cg h (fun j hj => ?_)
    by_cases c2 : (tt = 0 ∧ ¬ q 0 = 24 ∨ tt = 1 ∧ ¬ q 1 = 39 ∨ tt = 2 ∧ ¬ q 2 = 23) ∧ 0 ≤ b ∧ b ≤ 255
    · rw [if_pos c2]
      unfold kv2
      rcases k_ty_bd h0 h1 c2 with ⟨_, e, e2⟩ | ⟨_, e, e2⟩ | ⟨e, _⟩
      · rw [pk_un (by omega)]
      · rw [pk_un (by omega)]
      · refine absurd ?_ c
        rcases c2.1 with z | z | z
        · exact absurd (e.symm.trans z.1) (by decide)
        · exact absurd (e.symm.trans z.1) (by decide)
        · exact ⟨e, c2.2.1, c2.2.2, z.2⟩
    · rw [if_neg c2]
end KT
theorem kFt_cg {th n : Int32} {f g : Nat → Int32} (h : k_ml n f g) : kFt th n f = kFt th n g := by
  unfold kFt
  rw [kBad_congr n.toNatClampNeg 0 (fun i _ hi => h i (by omega))]
theorem kNm_cg {th n : Int32} {f g : Nat → Int32} (h : k_ml n f g) : kNm th n f = kNm th n g := by
  unfold kNm
  rw [kFt_cg h]
theorem e_fault {q f4 f7 f2 by4 : Nat → Int32} {a4 a7 a2 tt : Int32} (h4 : k_ml (q 0) f4 (kv4 by4)) (h7 : k_ml (q 1) f7 (kv7 by4)) (h2 : k_ml (q 2) f2 (kv2 by4)) (e4 : a4 = kFt (q 0) (q 0) f4) (e7 : a7 = kFt (kTh7 (q 1)) (q 1) f7) (e2 : a2 = kFt (kTh2 (q 2)) (q 2) f2) : (if tt = 0 then a4 else if tt = 1 then a7 else if tt = 2 then a2 else -2) = (if 0 ≤ tt ∧ tt ≤ 2 then (if tt = 0 then kFt (q 0) (q 0) (kv4 by4) else if tt = 1 then kFt (kTh7 (q 1)) (q 1) (kv7 by4) else kFt (kTh2 (q 2)) (q 2) (kv2 by4)) else -2) := by
  rw [e4, e7, e2, kFt_cg h4, kFt_cg h7, kFt_cg h2]
  by_cases c : 0 ≤ tt ∧ tt ≤ 2
  · rw [if_pos c]
    have h0 : ¬ tt < 0 := Int32.not_lt.mpr c.1
    obtain ⟨j, hj, rfl⟩ := nI_of2 (n := 2) (M := 2) (by decide) h0 c.2
    match j, hj with
    | 0, _ => rw [if_pos (by decide), if_pos (by decide)]
    | 1, _ => rw [if_neg (by decide), if_pos (by decide), if_neg (by decide), if_pos (by decide)]
    | 2, _ => rw [if_neg (by decide), if_neg (by decide), if_pos (by decide), if_neg (by decide), if_neg (by decide)]
  · rw [if_neg c, if_neg (fun e => c (by rw [e]; decide)), if_neg (fun e => c (by rw [e]; decide)), if_neg (fun e => c (by rw [e]; decide))]
theorem e_mile {q f4 by4 : Nat → Int32} {n4 m : Int32} (hq : 0 ≤ (q 0).toInt ∧ (q 0).toInt ≤ 24) (h4 : k_ml (q 0) f4 (kv4 by4)) (e4 : n4 = kNm (q 0) (q 0) f4) : (if 0 ≤ m ∧ m < 24 then (if m < n4 then kAt 24 f4 m else -1) else -2) = (if 0 ≤ m ∧ m ≤ 23 then (if m < kNm (q 0) (q 0) (kv4 by4) then kv4 by4 m.toNatClampNeg else -1) else -2) := by
  refine k_ifc ⟨fun c => ⟨c.1, ?_⟩, fun c => ⟨c.1, ?_⟩⟩ (fun c => ?_) (fun _ => rfl)
  · exact Int32.le_iff_toInt_le.mpr (by have := Int32.lt_iff_toInt_lt.mp c.2; rw [show (24 : Int32).toInt = 24 from rfl] at this; rw [show (23 : Int32).toInt = 23 from rfl]; omega)
  · exact Int32.lt_iff_toInt_lt.mpr (by have := Int32.le_iff_toInt_le.mp c.2; rw [show (23 : Int32).toInt = 23 from rfl] at this; rw [show (24 : Int32).toInt = 24 from rfl]; omega)
  · rw [e4, kNm_cg h4]
    refine k_ifc Iff.rfl (fun d => ?_) (fun _ => rfl)
    rw [kAt_eq c]
    exact k_ml_at h4 ⟨c.1, k_lt4 (k_cl (m := 24) hq).2 ⟨c.1, d⟩⟩
theorem e_pass {q f7 by4 : Nat → Int32} {n7 p w : Int32} (hq : 0 ≤ (q 1).toInt ∧ (q 1).toInt ≤ 39) (h7 : k_ml (q 1) f7 (kv7 by4)) (e7 : n7 = kNm (kTh7 (q 1)) (q 1) f7) : (if (0 ≤ p ∧ p < n7) ∧ 0 ≤ w ∧ w ≤ 3 then kAt 39 f7 ((5 * p) + w) else -2) = (if (0 ≤ p ∧ p < kNm (kTh7 (q 1)) (q 1) (kv7 by4)) ∧ 0 ≤ w ∧ w ≤ 3 then kv7 by4 ((5 * p) + w).toNatClampNeg else -2) := by
  rw [e7, kNm_cg h7]
  refine k_ifc Iff.rfl (fun c => ?_) (fun _ => rfl)
  have hl := k_lt7 ⟨(k_cl (m := 39) hq).2, by omega⟩ c.1
  obtain ⟨a, ha, rfl⟩ := k_nat c.1.1
  obtain ⟨b, hb, rfl⟩ := k_nat c.2.1
  have hw := Int32.le_iff_toInt_le.mp c.2.2
  rw [show (3 : Int32).toInt = 3 from rfl, nI_toInt hb] at hw
  rw [nI_toInt ha] at hl
  obtain ⟨m, hm, em⟩ := k_nat (k_cl (m := 39) hq).2
  rw [em, nI_toInt hm] at hl hq
  rw [show (5 : Int32) = nI 5 from rfl, pk_mul, nI_add]
  rw [kAt_eq ⟨nI_pos' (by omega), by rw [show (39 : Int32) = nI 39 from rfl]; exact nI_lt (by omega) (by decide)⟩]
  exact k_ml_at h7 ⟨nI_pos' (by omega), by rw [em]; exact nI_lt (by omega) hm⟩
theorem e_goose {q f2 by4 : Nat → Int32} {n2 p w : Int32} (hq : 0 ≤ (q 2).toInt ∧ (q 2).toInt ≤ 23) (h2 : k_ml (q 2) f2 (kv2 by4)) (e2 : n2 = kNm (kTh2 (q 2)) (q 2) f2) : (if (0 ≤ p ∧ p < n2) ∧ 0 ≤ w ∧ w ≤ 1 then kAt 23 f2 ((3 * p) + w) else -2) = (if (0 ≤ p ∧ p < kNm (kTh2 (q 2)) (q 2) (kv2 by4)) ∧ 0 ≤ w ∧ w ≤ 1 then kv2 by4 ((3 * p) + w).toNatClampNeg else -2) := by
  rw [e2, kNm_cg h2]
  refine k_ifc Iff.rfl (fun c => ?_) (fun _ => rfl)
  have hl := k_lt2 ⟨(k_cl (m := 23) hq).2, by omega⟩ c.1
  obtain ⟨a, ha, rfl⟩ := k_nat c.1.1
  obtain ⟨b, hb, rfl⟩ := k_nat c.2.1
  have hw := Int32.le_iff_toInt_le.mp c.2.2
  rw [show (1 : Int32).toInt = 1 from rfl, nI_toInt hb] at hw
  rw [nI_toInt ha] at hl
  obtain ⟨m, hm, em⟩ := k_nat (k_cl (m := 23) hq).2
  rw [em, nI_toInt hm] at hl hq
  rw [show (3 : Int32) = nI 3 from rfl, pk_mul, nI_add]
  rw [kAt_eq ⟨nI_pos' (by omega), by rw [show (23 : Int32) = nI 23 from rfl]; exact nI_lt (by omega) (by decide)⟩]
  exact k_ml_at h2 ⟨nI_pos' (by omega), by rw [em]; exact nI_lt (by omega) hm⟩
theorem k_le_w {D : Prop} [Decidable D] {x y : Int32} {n : Int} (h : x = if D then 0 else y) (hy : 0 ≤ y.toInt ∧ y.toInt ≤ n) : 0 ≤ x ∧ x ≤ y := by
  have h0 : 0 ≤ y := Int32.le_iff_toInt_le.mpr (by rw [show (0 : Int32).toInt = 0 from rfl]; exact hy.1)
  by_cases c : D
  · rw [if_pos c] at h
    rw [h]
    exact ⟨Int32.le_refl 0, h0⟩
  · rw [if_neg c] at h
    rw [h]
    exact ⟨h0, Int32.le_refl y⟩
theorem k_le_u {D : Prop} [Decidable D] {x y : Int32} {n : Int} (h : x = if D then y - 1 else y) (hD : D → ¬ y = 0) (hy : 0 ≤ y.toInt ∧ y.toInt ≤ n) : 0 ≤ x ∧ x ≤ y := by
  have h0 : 0 ≤ y := Int32.le_iff_toInt_le.mpr (by rw [show (0 : Int32).toInt = 0 from rfl]; exact hy.1)
  by_cases c : D
  · rw [if_pos c] at h
    have y0 : ¬ y.toInt = 0 := fun z => hD c (Int32.toInt_inj.mp (by rw [z]; rfl))
    have y1 := Int32.toInt_lt y
    rw [h, Int32.le_iff_toInt_le, Int32.le_iff_toInt_le, Int32.toInt_sub, show (1 : Int32).toInt = 1 from rfl, show (0 : Int32).toInt = 0 from rfl, k_bm (by omega) (by omega)]
    omega
  · rw [if_neg c] at h
    rw [h]
    exact ⟨h0, Int32.le_refl y⟩

/-! the moods of a flight are the same on both sides -/
theorem kGo_cg {ov ov' hf hf' : Int32 → Int32} {ct le ki so be : Int32} {n : Nat} (hn : n < 2 ^ 31) (h : ∀ j : Nat, j < n → ov (nI j) = ov' (nI j)) (hh : ∀ j : Nat, j < n → hf (nI j) = hf' (nI j)) : ∀ (k a : Nat) (x y e : Int32), a + k ≤ n → kGo ov ct le ki so be hf k (nI a) x y e = kGo ov' ct le ki so be hf' k (nI a) x y e
  | 0, _, _, _, _, _ => rfl
  | k + 1, a, x, y, e, hk => by
    rw [kGo, kGo, h a (by omega), hh a (by omega), nI_1]
    rw [kGo_cg hn h hh k (a + 1) _ _ _ (by omega), kGo_cg hn h hh k (a + 1) _ _ _ (by omega), kGo_cg hn h hh k (a + 1) _ _ _ (by omega)]
theorem kCt_cg {ov ov' : Int32 → Int32} {w : Int32} {n : Nat} (hn : n < 2 ^ 31) (h : ∀ j : Nat, j < n → ov (nI j) = ov' (nI j)) : ∀ (k a : Nat) (P : kGT × kGT), a + k ≤ n → kCt ov w k (nI a) P = kCt ov' w k (nI a) P
  | 0, _, _, _ => rfl
  | k + 1, a, P, hk => by
    rw [kCt, kCt, h a (by omega), nI_1, kCt_cg hn h k (a + 1) _ (by omega)]
/-- values of class and reference at one place of a text -/
theorem v_p {q f7 by4 ps : Nat → Int32} {v p : Int32} {w : Nat} (hq : 0 ≤ (q 1).toInt ∧ (q 1).toInt ≤ 39) (h7 : k_ml (q 1) f7 (kv7 by4)) (hv : v = kNm (kTh7 (q 1)) (q 1) (kv7 by4)) (hm : k_mq 5 4 v (q 1) ps (kv7 by4)) (hp : 0 ≤ p ∧ p < v) (hw : w < 4) : kAt 39 f7 ((5 * p) + nI w) = ps ((4 * p) + nI w).toNatClampNeg := by
  have hc := k_cl (m := 39) hq
  have hlt := k_lt7 (f := kv7 by4) ⟨hc.2, by omega⟩ (by rw [← hv]; exact hp)
  have hv0 : ¬ v = 0 := fun z => absurd (z ▸ hp.2) (Int32.not_lt.mpr hp.1)
  have hmp := k_mq_mp hm hv0
  obtain ⟨a, ha, rfl⟩ := k_nat hp.1
  obtain ⟨m, hm2, em⟩ := k_nat hc.2
  rw [em] at hlt hq h7 hmp
  rw [nI_toInt ha, nI_toInt hm2] at hlt
  rw [nI_toInt hm2] at hq
  have e1 : (5 * nI a + nI w : Int32) = nI (5 * a + w) := by rw [show (5 : Int32) = nI 5 from rfl, pk_mul, nI_add]
  have e := k_mp_at (c := 5) (d := 4) (p := nI a) (w := nI w) (by decide) (by decide) (by decide) hmp ⟨nI_pos' ha, by rw [nI_toInt ha]; omega⟩ ⟨nI_pos' (by omega), nI_lt hw (by decide)⟩ (by rw [nI_toInt ha, nI_toInt hm2, nI_toInt (by omega)]; omega)
  have e2 : ps ((4 * nI a) + nI w).toNatClampNeg = kv7 by4 (nI 5 * nI a + nI w).toNatClampNeg := e
  rw [e2, e1, kAt_eq ⟨nI_pos' (by omega), by rw [show (39 : Int32) = nI 39 from rfl]; exact nI_lt (by omega) (by decide)⟩, pk_mul, nI_add]
  exact k_ml_at h7 ⟨nI_pos' (by omega), nI_lt (by omega) hm2⟩
theorem v_g {q f2 by4 gs : Nat → Int32} {v p : Int32} {w : Nat} (hq : 0 ≤ (q 2).toInt ∧ (q 2).toInt ≤ 23) (h2 : k_ml (q 2) f2 (kv2 by4)) (hv : v = kNm (kTh2 (q 2)) (q 2) (kv2 by4)) (hm : k_mq 3 2 v (q 2) gs (kv2 by4)) (hp : 0 ≤ p ∧ p < v) (hw : w < 2) : kAt 23 f2 ((3 * p) + nI w) = gs ((2 * p) + nI w).toNatClampNeg := by
  have hc := k_cl (m := 23) hq
  have hlt := k_lt2 (f := kv2 by4) ⟨hc.2, by omega⟩ (by rw [← hv]; exact hp)
  have hv0 : ¬ v = 0 := fun z => absurd (z ▸ hp.2) (Int32.not_lt.mpr hp.1)
  have hmp := k_mq_mp hm hv0
  obtain ⟨a, ha, rfl⟩ := k_nat hp.1
  obtain ⟨m, hm2, em⟩ := k_nat hc.2
  rw [em] at hlt hq h2 hmp
  rw [nI_toInt ha, nI_toInt hm2] at hlt
  rw [nI_toInt hm2] at hq
  have e1 : (3 * nI a + nI w : Int32) = nI (3 * a + w) := by rw [show (3 : Int32) = nI 3 from rfl, pk_mul, nI_add]
  have e := k_mp_at (c := 3) (d := 2) (p := nI a) (w := nI w) (by decide) (by decide) (by decide) hmp ⟨nI_pos' ha, by rw [nI_toInt ha]; omega⟩ ⟨nI_pos' (by omega), nI_lt hw (by decide)⟩ (by rw [nI_toInt ha, nI_toInt hm2, nI_toInt (by omega)]; omega)
  have e2 : gs ((2 * nI a) + nI w).toNatClampNeg = kv2 by4 (nI 3 * nI a + nI w).toNatClampNeg := e
  rw [e2, e1, kAt_eq ⟨nI_pos' (by omega), by rw [show (23 : Int32) = nI 23 from rfl]; exact nI_lt (by omega) (by decide)⟩, pk_mul, nI_add]
  exact k_ml_at h2 ⟨nI_pos' (by omega), nI_lt (by omega) hm2⟩
theorem v_m {q f4 by4 mi : Nat → Int32} {v : Int32} (hq : 0 ≤ (q 0).toInt ∧ (q 0).toInt ≤ 24) (h4 : k_ml (q 0) f4 (kv4 by4)) (hv : v = kNm (q 0) (q 0) (kv4 by4)) (hm : k_ml v mi (kv4 by4)) {n : Nat} (hn : v = nI n) (hn2 : n < 2 ^ 31) (j : Nat) (hj : j < n) : kAt 24 f4 (nI j) = kM mi (nI j) := by
  have hc := k_cl (m := 24) hq
  have hlt : nI j < v := by rw [hn]; exact nI_lt hj hn2
  have hl := k_lt4 (f := kv4 by4) hc.2 ⟨nI_pos' (show j < 2 ^ 31 by omega), by rw [← hv]; exact hlt⟩
  obtain ⟨m, hm2, em⟩ := k_nat hc.2
  rw [em] at hl hq h4
  rw [nI_toInt hm2] at hq
  have hjm : j < m := (nI_ltI (by omega) hm2).mp hl
  rw [kAt_eq ⟨nI_pos' (by omega), by rw [show (24 : Int32) = nI 24 from rfl]; exact nI_lt (by omega) (by decide)⟩]
  rw [k_ml_at h4 ⟨nI_pos' (by omega), hl⟩]
  exact (k_ml_at hm ⟨nI_pos' (by omega), hlt⟩).symm

theorem e_mood {q f4 f7 f2 by4 qMi qPs qGs qTo ft : Nat → Int32} {n4 n7 n2 mi pn gn fn f1 w kn fe en le tgo tca tle tki tso tbe twe tki0 tso0 tbe0 twe0 : Int32}
    (t0 : 0 ≤ (q 0).toInt ∧ (q 0).toInt ≤ 24) (t1 : 0 ≤ (q 1).toInt ∧ (q 1).toInt ≤ 39) (t2 : 0 ≤ (q 2).toInt ∧ (q 2).toInt ≤ 23)
    (m4 : k_ml (q 0) f4 (kv4 by4)) (m7 : k_ml (q 1) f7 (kv7 by4)) (m2 : k_ml (q 2) f2 (kv2 by4))
    (e4 : n4 = kNm (q 0) (q 0) f4) (e7 : n7 = kNm (kTh7 (q 1)) (q 1) f7) (e2 : n2 = kNm (kTh2 (q 2)) (q 2) f2) (hn4 : 0 ≤ n4 ∧ n4 ≤ 24)
    (hf : 0 ≤ f1 ∧ f1 < fn) (hw : 0 ≤ w ∧ w ≤ 1)
    (hc : (tgo = if (0 ≤ (kIt fn ft f1 0) ∧ (kIt fn ft f1 0) < n7) ∧ (0 ≤ (kIt fn ft f1 1) ∧ (kIt fn ft f1 1) < n2) ∧ 0 ≤ (kIt fn ft f1 2) ∧ (kIt fn ft f1 2) < n2 then 1 else 0) ∧ (tca = if (0 ≤ (kIt fn ft f1 0) ∧ (kIt fn ft f1 0) < n7) ∧ (0 ≤ (kIt fn ft f1 1) ∧ (kIt fn ft f1 1) < n2) ∧ 0 ≤ (kIt fn ft f1 2) ∧ (kIt fn ft f1 2) < n2 then kCt (kAt 24 f4) (kAt 39 f7 ((5 * (kIt fn ft f1 0)) + 3)) (kfu n4 0) 0 ((kAt 23 f2 ((3 * (kIt fn ft f1 1)) + 0), kAt 23 f2 ((3 * (kIt fn ft f1 1)) + 1), kAt 23 f2 ((3 * (kIt fn ft f1 1)) + 0), 0), (kAt 23 f2 ((3 * (kIt fn ft f1 2)) + 0), kAt 23 f2 ((3 * (kIt fn ft f1 2)) + 1), kAt 23 f2 ((3 * (kIt fn ft f1 2)) + 0), 0)) else 0) ∧ (tki = if (0 ≤ (kIt fn ft f1 0) ∧ (kIt fn ft f1 0) < n7) ∧ (0 ≤ (kIt fn ft f1 1) ∧ (kIt fn ft f1 1) < n2) ∧ 0 ≤ (kIt fn ft f1 2) ∧ (kIt fn ft f1 2) < n2 then kAt 39 f7 ((5 * (kIt fn ft f1 0)) + 0) else tki0) ∧ (tso = if (0 ≤ (kIt fn ft f1 0) ∧ (kIt fn ft f1 0) < n7) ∧ (0 ≤ (kIt fn ft f1 1) ∧ (kIt fn ft f1 1) < n2) ∧ 0 ≤ (kIt fn ft f1 2) ∧ (kIt fn ft f1 2) < n2 then kAt 39 f7 ((5 * (kIt fn ft f1 0)) + 1) else tso0) ∧ (tbe = if (0 ≤ (kIt fn ft f1 0) ∧ (kIt fn ft f1 0) < n7) ∧ (0 ≤ (kIt fn ft f1 1) ∧ (kIt fn ft f1 1) < n2) ∧ 0 ≤ (kIt fn ft f1 2) ∧ (kIt fn ft f1 2) < n2 then 5 * (kAt 39 f7 ((5 * (kIt fn ft f1 0)) + 2)) else tbe0) ∧ (twe = if (0 ≤ (kIt fn ft f1 0) ∧ (kIt fn ft f1 0) < n7) ∧ (0 ≤ (kIt fn ft f1 1) ∧ (kIt fn ft f1 1) < n2) ∧ 0 ≤ (kIt fn ft f1 2) ∧ (kIt fn ft f1 2) < n2 then kAt 39 f7 ((5 * (kIt fn ft f1 0)) + 3) else twe0) ∧ (tle = le))
    (hr : (mi = kNm (q 0) (q 0) (kv4 by4)) ∧ (pn = kNm (kTh7 (q 1)) (q 1) (kv7 by4)) ∧ (gn = kNm (kTh2 (q 2)) (q 2) (kv2 by4)) ∧ (k_ml mi qMi (kv4 by4)) ∧ (k_mq 5 4 pn (q 1) qPs (kv7 by4)) ∧ (k_mq 3 2 gn (q 2) qGs (kv2 by4)) ∧ (k_fd ((0 ≤ (kP0 ft f1) ∧ (kP0 ft f1) < pn) ∧ (0 ≤ (kP1 ft f1) ∧ (kP1 ft f1) < gn) ∧ 0 ≤ (kP2 ft f1) ∧ (kP2 ft f1) < gn) (k_done (kM qMi) (kCt (kM qMi) (kP3 qPs (kP0 ft f1)) (kfu mi 0) 0 ((kG0 qGs (kP1 ft f1), kG1 qGs (kP1 ft f1), kG0 qGs (kP1 ft f1), 0), (kG0 qGs (kP2 ft f1), kG1 qGs (kP2 ft f1), kG0 qGs (kP2 ft f1), 0))) le (kP0 qPs (kP0 ft f1)) (kP1 qPs (kP0 ft f1)) (5 * (kP2 qPs (kP0 ft f1))) (fun x9 => if x9 < (24 : Int32) then (kP3 ft f1) else (0 : Int32)) mi kn fe en qTo) kn fe en))
    (j : Int32) (hj : 0 ≤ j ∧ j < n4) : (if tgo = 0 ∨ (kGo (kAt 24 f4) tca tle tki tso tbe (fun _ => (kIt fn ft f1 3)) (kfu (j + 1) (0 : Int32)) (0 : Int32) (0 : Int32) (0 : Int32) (if tgo = 0 then 1 else 0)).1 < j then -1 else if w = 0 then (kGo (kAt 24 f4) tca tle tki tso tbe (fun _ => (kIt fn ft f1 3)) (kfu (j + 1) (0 : Int32)) (0 : Int32) (0 : Int32) (0 : Int32) (if tgo = 0 then 1 else 0)).2.1 else (kGo (kAt 24 f4) tca tle tki tso tbe (fun _ => (kIt fn ft f1 3)) (kfu (j + 1) (0 : Int32)) (0 : Int32) (0 : Int32) (0 : Int32) (if tgo = 0 then 1 else 0)).2.2.1) = (if j < kn then qTo ((4 * j) + w).toNatClampNeg else -1) := by
  obtain ⟨c1, c2, c3, c4, c5, c6, c7⟩ := hc
  obtain ⟨r1, r2, r3, r4, r5, r6, r7⟩ := hr
  have N4 : n4 = mi := e4.trans ((kNm_cg m4).trans r1.symm)
  have N7 : n7 = pn := e7.trans ((kNm_cg m7).trans r2.symm)
  have N2 : n2 = gn := e2.trans ((kNm_cg m2).trans r3.symm)
  have P0 : kIt fn ft f1 0 = kP0 ft f1 := by unfold kIt kP0; rw [if_pos hf, Int32.add_zero]
  have P1 : kIt fn ft f1 1 = kP1 ft f1 := if_pos hf
  have P2 : kIt fn ft f1 2 = kP2 ft f1 := if_pos hf
  have P3 : kIt fn ft f1 3 = kP3 ft f1 := if_pos hf
  rw [P0, P1, P2, N7, N2] at c1 c2 c3 c4 c5
  rw [P3]
  by_cases hC : (0 ≤ (kP0 ft f1) ∧ (kP0 ft f1) < pn) ∧ (0 ≤ (kP1 ft f1) ∧ (kP1 ft f1) < gn) ∧ 0 ≤ (kP2 ft f1) ∧ (kP2 ft f1) < gn
  · rw [if_pos hC] at c1 c2 c3 c4 c5
    have D := r7.1 hC
    obtain ⟨n, hn, en⟩ := k_nat (x := mi) (by rw [← N4]; exact hn4.1)
    have hn24 : n ≤ 24 := by have := hn4.2; rw [N4, en] at this; exact (nI_leI hn (by decide)).mp this
    have hov := v_m t0 m4 r1 r4 en hn
    have K0 : kAt 39 f7 ((5 * (kP0 ft f1)) + 0) = kP0 qPs (kP0 ft f1) := (v_p (w := 0) t1 m7 r2 r5 hC.1 (by decide)).trans (by unfold kP0; rw [show (nI 0 : Int32) = 0 from rfl, Int32.add_zero])
    have K1 : kAt 39 f7 ((5 * (kP0 ft f1)) + 1) = kP1 qPs (kP0 ft f1) := v_p (w := 1) t1 m7 r2 r5 hC.1 (by decide)
    have K2 : kAt 39 f7 ((5 * (kP0 ft f1)) + 2) = kP2 qPs (kP0 ft f1) := v_p (w := 2) t1 m7 r2 r5 hC.1 (by decide)
    have K3 : kAt 39 f7 ((5 * (kP0 ft f1)) + 3) = kP3 qPs (kP0 ft f1) := v_p (w := 3) t1 m7 r2 r5 hC.1 (by decide)
    have L0 : kAt 23 f2 ((3 * (kP1 ft f1)) + 0) = kG0 qGs (kP1 ft f1) := (v_g (w := 0) t2 m2 r3 r6 hC.2.1 (by decide)).trans (by unfold kG0; rw [show (nI 0 : Int32) = 0 from rfl, Int32.add_zero])
    have L1 : kAt 23 f2 ((3 * (kP1 ft f1)) + 1) = kG1 qGs (kP1 ft f1) := v_g (w := 1) t2 m2 r3 r6 hC.2.1 (by decide)
    have M0 : kAt 23 f2 ((3 * (kP2 ft f1)) + 0) = kG0 qGs (kP2 ft f1) := (v_g (w := 0) t2 m2 r3 r6 hC.2.2 (by decide)).trans (by unfold kG0; rw [show (nI 0 : Int32) = 0 from rfl, Int32.add_zero])
    have M1 : kAt 23 f2 ((3 * (kP2 ft f1)) + 1) = kG1 qGs (kP2 ft f1) := v_g (w := 1) t2 m2 r3 r6 hC.2.2 (by decide)
    rw [K3, L0, L1, M0, M1, N4] at c2
    rw [K0] at c3
    rw [K1] at c4
    rw [K2] at c5
    have CT : tca = (kCt (kM qMi) (kP3 qPs (kP0 ft f1)) (kfu mi 0) 0 ((kG0 qGs (kP1 ft f1), kG1 qGs (kP1 ft f1), kG0 qGs (kP1 ft f1), 0), (kG0 qGs (kP2 ft f1), kG1 qGs (kP2 ft f1), kG0 qGs (kP2 ft f1), 0))) := by
      rw [c2, en, show (0 : Int32) = nI 0 from rfl, kfu_nat (by decide) hn]
      exact kCt_cg hn hov _ 0 _ (by omega)
    obtain ⟨b, hb, rfl⟩ := k_nat hj.1
    have hbn : b < n := by have := hj.2; rw [N4, en] at this; exact (nI_ltI hb hn).mp this
    have E : (kGo (kAt 24 f4) tca tle tki tso tbe (fun _ => (kP3 ft f1)) (kfu (nI b + 1) (0 : Int32)) (0 : Int32) (0 : Int32) (0 : Int32) (if tgo = 0 then 1 else 0)) = kGG (kM qMi) (kCt (kM qMi) (kP3 qPs (kP0 ft f1)) (kfu mi 0) 0 ((kG0 qGs (kP1 ft f1), kG1 qGs (kP1 ft f1), kG0 qGs (kP1 ft f1), 0), (kG0 qGs (kP2 ft f1), kG1 qGs (kP2 ft f1), kG0 qGs (kP2 ft f1), 0))) le (kP0 qPs (kP0 ft f1)) (kP1 qPs (kP0 ft f1)) (5 * (kP2 qPs (kP0 ft f1))) (fun x9 => if x9 < (24 : Int32) then (kP3 ft f1) else (0 : Int32)) (nI b + 1) := by
      rw [c1, if_neg (by decide), c7, c3, c4, c5, CT]
      unfold kGG
      rw [nI_1, show (0 : Int32) = nI 0 from rfl, kfu_nat (by decide) (by omega)]
      refine kGo_cg (n := n) hn hov (fun i hi => ?_) _ 0 _ _ _ (by omega)
      show kP3 ft f1 = if nI i < (24 : Int32) then kP3 ft f1 else (nI 0 : Int32)
      rw [if_pos (by rw [show (24 : Int32) = nI 24 from rfl]; exact nI_lt (by omega) (by decide))]
    rw [E]
    have g := D.2.2 (nI b) hj.1 (by rw [← N4]; exact hj.2)
    have t1' : ¬ tgo = 0 := by rw [c1]; decide
    by_cases hk : nI b < kn
    · obtain ⟨g1, g2, g3⟩ := g.1 hk
      rw [if_neg (fun z => z.elim t1' g1), if_pos hk]
      by_cases w0 : w = 0
      · rw [if_pos w0, w0, Int32.add_zero]
        exact g2
      · rw [if_neg w0]
        have w1 : w = 1 := by
          have h0 := Int32.le_iff_toInt_le.mp hw.1
          have h1 := Int32.le_iff_toInt_le.mp hw.2
          have h2 : ¬ w.toInt = (0 : Int32).toInt := fun z => w0 (Int32.toInt_inj.mp z)
          rw [show (0 : Int32).toInt = 0 from rfl] at h0 h2
          rw [show (1 : Int32).toInt = 1 from rfl] at h1
          exact Int32.toInt_inj.mp (by rw [show (1 : Int32).toInt = 1 from rfl]; omega)
        rw [w1]
        exact g3
    · rw [if_pos (Or.inr (g.2 hk)), if_neg hk]
  · rw [if_neg hC] at c1
    obtain ⟨k0, _, _⟩ := r7.2 hC
    rw [if_pos (Or.inl c1), if_neg (by rw [k0]; exact Int32.not_lt.mpr hj.1)]

/-! rows of class and reference -/
def k_it (k : Nat) (si g f : Nat → Int32) : Prop := ∀ j, j < (si k).toNatClampNeg → g j = f (60 * k + j)
theorem k_s4 {s : Int32} (h : 0 ≤ s ∧ s ≤ 3) : ∃ a : Nat, a ≤ 3 ∧ s = nI a := nI_of2 (n := 3) (M := 3) (by decide) (Int32.not_lt.mpr h.1) h.2
theorem k_si {si : Nat → Int32} (h : k_bd 4 0 60 si) {k : Nat} (hk : k < 4) : (si k).toNatClampNeg ≤ 60 ∧ 0 ≤ si k := k_cl (m := 60) (h k hk)
theorem k_it_sheet {k : Nat} {si g g2 f : Nat → Int32} {ss fm nn kk : Int32} (hkk : kk = nI k) (hk : k < 4) (hb : k_bd 4 0 60 si) (h : k_it k si g f) (hg : k_sh ((0 ≤ ss ∧ ss ≤ 3 ∧ 0 ≤ fm ∧ fm ≤ 2 ∧ nn ≤ 60 ∧ ¬ nn < 0) ∧ ss = kk) g2 g) : k_it k (if 0 ≤ ss ∧ ss ≤ 3 ∧ 0 ≤ fm ∧ fm ≤ 2 ∧ nn ≤ 60 ∧ ¬ nn < 0 then upd si ss.toNatClampNeg nn else si) g2 (if 0 ≤ ss ∧ ss ≤ 3 ∧ 0 ≤ fm ∧ fm ≤ 2 ∧ nn ≤ 60 ∧ ¬ nn < 0 then kZq f ss nn else f) := by
  by_cases c : 0 ≤ ss ∧ ss ≤ 3 ∧ 0 ≤ fm ∧ fm ≤ 2 ∧ nn ≤ 60 ∧ ¬ nn < 0
  · rw [if_pos c, if_pos c]
    obtain ⟨a, ha, rfl⟩ := k_s4 ⟨c.1, c.2.1⟩
    obtain ⟨n, hn, rfl⟩ := nI_of2 (n := 60) (M := 60) (by decide) c.2.2.2.2.2 c.2.2.2.2.1
    subst hkk
    by_cases e : a = k
    · subst e
      have hz := hg.1 ⟨c, rfl⟩
      intro j hj
      rw [nI_clamp (by omega), pk_us, nI_clamp (by omega)] at hj
      rw [hz j (by rw [show (60 : Int32).toNatClampNeg = 60 from rfl]; omega)]
      unfold kZq
      rw [if_pos (by rw [nI_clamp (show a < 2 ^ 31 by omega), nI_clamp (show n < 2 ^ 31 by omega)]; omega)]
    · have e1 : g2 = g := hg.2 (fun z => e ((nI_eq (by omega) (by omega)).mp z.2))
      intro j hj
      rw [nI_clamp (by omega), pk_un (show k ≠ a from fun z => e z.symm)] at hj
      have hs := (k_si hb hk).1
      rw [e1, h j hj]
      unfold kZq
      rw [if_neg (by rw [nI_clamp (show a < 2 ^ 31 by omega), nI_clamp (show n < 2 ^ 31 by omega)]; omega)]
  · rw [if_neg c, if_neg c, hg.2 (fun z => c z.1)]
    exact h
theorem k_it_upd {k : Nat} {si g f : Nat → Int32} {ss ix v v' : Int32} {A B : Prop} [Decidable A] [Decidable B] {kk : Int32} (hkk : kk = nI k) (hk : k < 4) (hb : k_bd 4 0 60 si) (h : k_it k si g f) (hab : A ↔ B) (hA : A → (0 ≤ ss ∧ ss ≤ 3) ∧ 0 ≤ ix ∧ ix < si ss.toNatClampNeg) (hv : A → ss = kk → v = v') : k_it k si (if A ∧ ss = kk then upd g ix.toNatClampNeg v else g) (if B then upd f ((60 * ss) + ix).toNatClampNeg v' else f) := by
  subst hkk
  by_cases c : A
  · rw [if_pos (hab.mp c)]
    obtain ⟨hs, hi⟩ := hA c
    obtain ⟨a, ha, rfl⟩ := k_s4 hs
    obtain ⟨i, hi2, rfl⟩ := k_nat hi.1
    rw [nI_clamp (by omega)] at hi
    have hsa := k_si hb (show a < 4 by omega)
    obtain ⟨m, hm, em⟩ := k_nat hsa.2
    rw [em] at hi hsa
    rw [nI_clamp hm] at hsa
    have him : i < m := (nI_ltI hi2 hm).mp hi.2
    have e0 : ((60 * nI a) + nI i : Int32).toNatClampNeg = 60 * a + i := by rw [show (60 : Int32) = nI 60 from rfl, pk_mul, nI_add, nI_clamp (by omega)]
    rw [e0]
    have hsk := (k_si hb hk).1
    by_cases e : a = k
    · subst e
      rw [if_pos ⟨c, rfl⟩, nI_clamp hi2, hv c rfl]
      intro j hj
      by_cases z : j = i
      · rw [z, pk_us, pk_us]
      · rw [pk_un z, pk_un (by omega)]
        exact h j hj
    · rw [if_neg (fun z => e ((nI_eq (by omega) (by omega)).mp z.2))]
      intro j hj
      rw [pk_un (by omega)]
      exact h j hj
  · rw [if_neg (fun z => c z.1), if_neg (fun z => c (hab.mpr z))]
    exact h
theorem k_it_write {k : Nat} {si g f : Nat → Int32} {ss fo fo' n : Int32} {V V' : Int32 → Int32} {A B : Prop} [Decidable A] [Decidable B] {kk : Int32} (hkk : kk = nI k) (hk : k < 4) (hb : k_bd 4 0 60 si) (h : k_it k si g f) (hab : A ↔ B) (hA : A → (0 ≤ ss ∧ ss ≤ 3) ∧ 0 ≤ n ∧ n ≤ 60) (hfo : A → ss = kk → fo = fo') (hv : A → ∀ j : Int32, 0 ≤ j → j < n → V j = V' j) : k_it k si (if A ∧ ss = kk then kWr fo V g n else g) (if B then kWq fo' V' f ss n else f) := by
  subst hkk
  by_cases c : A
  · rw [if_pos (hab.mp c)]
    obtain ⟨hs, hn⟩ := hA c
    obtain ⟨a, ha, rfl⟩ := k_s4 hs
    obtain ⟨m, hm, rfl⟩ := nI_of2 (n := 60) (M := 60) (by decide) (Int32.not_lt.mpr hn.1) hn.2
    have hsk := (k_si hb hk).1
    by_cases e : a = k
    · subst e
      rw [if_pos ⟨c, rfl⟩, hfo c rfl]
      intro j hj
      unfold kWr kWq
      rw [nI_clamp (show m < 2 ^ 31 by omega), nI_clamp (show a < 2 ^ 31 by omega)]
      by_cases z : j < m
      · rw [if_pos z, if_pos (by omega), show 60 * a + j - 60 * a = j by omega, hv c (nI j) (nI_pos' (by omega)) (nI_lt z (by omega))]
      · rw [if_neg z, if_neg (by omega)]
        exact h j hj
    · rw [if_neg (fun z => e ((nI_eq (by omega) (by omega)).mp z.2))]
      intro j hj
      unfold kWq
      rw [nI_clamp (show m < 2 ^ 31 by omega), nI_clamp (show a < 2 ^ 31 by omega), if_neg (by omega)]
      exact h j hj
  · rw [if_neg (fun z => c z.1), if_neg (fun z => c (hab.mpr z))]
    exact h
theorem k_it4 {si g0 g1 g2 g3 f : Nat → Int32} (h0 : k_it 0 si g0 f) (h1 : k_it 1 si g1 f) (h2 : k_it 2 si g2 f) (h3 : k_it 3 si g3 f) {a : Nat} (ha : a ≤ 3) : k_it a si (kG4 g0 g1 g2 g3 a) f := by
  match a, ha with
  | 0, _ => exact h0
  | 1, _ => exact h1
  | 2, _ => exact h2
  | 3, _ => exact h3
theorem k_it_copy {k : Nat} {si g g0 g1 g2 g3 f mv : Nat → Int32} {ss s5 ix jx nn : Int32} {A B : Prop} [Decidable A] [Decidable B] {kk : Int32} (hkk : kk = nI k) (hk : k < 4) (hb : k_bd 4 0 60 si) (h : k_it k si g f) (h0 : k_it 0 si g0 f) (h1 : k_it 1 si g1 f) (h2 : k_it 2 si g2 f) (h3 : k_it 3 si g3 f) (hab : A ↔ B) (hmv : k_im B (k_mv f mv ss ix nn)) (hA : A → (0 ≤ ss ∧ ss ≤ 3) ∧ (0 ≤ s5 ∧ s5 ≤ 3) ∧ 0 ≤ ix ∧ 0 ≤ jx ∧ 0 ≤ nn ∧ ix.toInt + nn.toInt ≤ (si ss.toNatClampNeg).toInt ∧ jx.toInt + nn.toInt ≤ (si s5.toNatClampNeg).toInt) : k_it k si (if A ∧ s5 = kk then va_cpy (kG4 g0 g1 g2 g3 ss.toNatClampNeg) g ix.toNatClampNeg jx.toNatClampNeg nn.toNatClampNeg else g) (if B then kCq f mv s5 jx nn else f) := by
  subst hkk
  by_cases c : A
  · rw [if_pos (hab.mp c)]
    obtain ⟨hs, ht, i0, j0, n0, hi, hj2⟩ := hA c
    have hm := hmv (hab.mp c)
    obtain ⟨a, ha, rfl⟩ := k_s4 hs
    obtain ⟨b, hb4, rfl⟩ := k_s4 ht
    obtain ⟨i, hi2, rfl⟩ := k_nat i0
    obtain ⟨d, hd2, rfl⟩ := k_nat j0
    obtain ⟨n, hn2, rfl⟩ := k_nat n0
    have hsa := k_si hb (show a < 4 by omega)
    have hsb := k_si hb (show b < 4 by omega)
    have hsk := (k_si hb hk).1
    rw [nI_clamp (show a < 2 ^ 31 by omega), nI_toInt hi2, nI_toInt hn2] at hi
    rw [nI_clamp (show b < 2 ^ 31 by omega), nI_toInt hd2, nI_toInt hn2] at hj2
    obtain ⟨p, hp, ep⟩ := k_nat hsa.2
    obtain ⟨r, hr, er⟩ := k_nat hsb.2
    rw [ep, nI_toInt hp] at hi
    rw [er, nI_toInt hr] at hj2
    rw [ep, nI_clamp hp] at hsa
    rw [er, nI_clamp hr] at hsb
    have hsrc := k_it4 h0 h1 h2 h3 ha
    rw [nI_clamp (show a < 2 ^ 31 by omega), nI_clamp hi2, nI_clamp hd2, nI_clamp hn2]
    by_cases e : b = k
    · subst e
      rw [if_pos ⟨c, rfl⟩]
      intro q hq
      unfold va_cpy kCq
      rw [nI_clamp (show b < 2 ^ 31 by omega), nI_clamp hd2, nI_clamp hn2]
      by_cases z : d ≤ q ∧ q < d + n
      · rw [if_pos z, if_pos (by omega), show 60 * b + q - (60 * b + d) = q - d by omega]
        rw [hm (q - d) (by rw [nI_clamp hn2]; omega), show (60 : Int32) = nI 60 from rfl, pk_mul, nI_add, nI_add, nI_clamp (by omega)]
        rw [hsrc (i + (q - d)) (by rw [ep, nI_clamp hp]; omega), Nat.add_assoc]
      · rw [if_neg z, if_neg (by omega)]
        exact h q hq
    · rw [if_neg (fun z => e ((nI_eq (by omega) (by omega)).mp z.2))]
      intro q hq
      unfold kCq
      rw [nI_clamp (show b < 2 ^ 31 by omega), nI_clamp hd2, nI_clamp hn2, if_neg (by omega)]
      exact h q hq
  · rw [if_neg (fun z => c z.1), if_neg (fun z => c (hab.mpr z))]
    exact h
/-- reading flights out of a row -/
theorem e_rd {qFo sLo sFo si g0 g1 g2 g3 f ft : Nat → Int32} {ss fn : Int32} (hs : 0 ≤ ss ∧ ss ≤ 3) (hb : k_bd 4 0 60 si) (h0 : k_it 0 si g0 f) (h1 : k_it 1 si g1 f) (h2 : k_it 2 si g2 f) (h3 : k_it 3 si g3 f) : kRd (kIm (si ss.toNatClampNeg) (kG4 g0 g1 g2 g3 ss.toNatClampNeg)) (si ss.toNatClampNeg) (kRf 0) 0 fn ft = kRd (fun x9 => f ((60 * ss) + x9).toNatClampNeg) (si ss.toNatClampNeg) (kRf 0) 0 fn ft := by
  obtain ⟨a, ha, rfl⟩ := k_s4 hs
  rw [nI_clamp (show a < 2 ^ 31 by omega)]
  have hsa := k_si hb (show a < 4 by omega)
  have hsrc := k_it4 h0 h1 h2 h3 ha
  obtain ⟨p, hp, ep⟩ := k_nat hsa.2
  have hs60 : si a ≤ 60 := by
    have := hsa.1
    rw [ep, nI_clamp hp] at this
    rw [ep, show (60 : Int32) = nI 60 from rfl]
    exact nI_le this (by decide)
  refine kRd_cg hs60 (fun j j0 j1 => ?_) _ 0 _ _ (by decide)
  unfold kIm
  rw [if_pos ⟨j0, j1⟩]
  obtain ⟨b, hb2, rfl⟩ := k_nat j0
  rw [ep] at j1
  have hbp : b < p := (nI_ltI hb2 hp).mp j1
  have hp60 : p ≤ 60 := by have := hsa.1; rw [ep, nI_clamp hp] at this; exact this
  rw [hsrc (nI b).toNatClampNeg (by rw [ep, nI_clamp hb2, nI_clamp hp]; exact hbp), nI_clamp hb2]
  show f (60 * a + b) = f ((60 * nI a) + nI b).toNatClampNeg
  rw [show (60 : Int32) = nI 60 from rfl, pk_mul, nI_add, nI_clamp (by omega)]

theorem e_lyc {qFo sLo sFo qSi : Nat → Int32} {ss fm ix : Int32} (h : k_lf qFo sLo sFo) : (0 ≤ ss ∧ ss ≤ 3 ∧ 0 ≤ fm ∧ fm ≤ 2 ∧ sLo ss.toNatClampNeg = 0 ∧ sFo ss.toNatClampNeg = fm ∧ 0 ≤ ix ∧ ix < qSi ss.toNatClampNeg) ↔ (0 ≤ ss ∧ ss ≤ 3 ∧ 0 ≤ fm ∧ fm ≤ 2 ∧ ¬ qFo ss.toNatClampNeg < 0 ∧ qFo ss.toNatClampNeg = fm ∧ 0 ≤ ix ∧ ix < qSi ss.toNatClampNeg) := by
  constructor
  · rintro ⟨a, b, c, d, e, f, g⟩
    obtain ⟨x, y⟩ := k_lf_at h ⟨a, b⟩
    exact ⟨a, b, c, d, x.mp e, (y e).symm.trans f, g⟩
  · rintro ⟨a, b, c, d, e, f, g⟩
    obtain ⟨x, y⟩ := k_lf_at h ⟨a, b⟩
    exact ⟨a, b, c, d, x.mpr e, (y (x.mpr e)).trans f, g⟩
theorem k_sk {s : Int32} {k : Nat} (hk : k < 4) (e : s = nI k) : s.toNatClampNeg = k := by rw [e, nI_clamp (by omega)]
theorem k_it_lay {qFo sLo sFo qSi qIt gq : Nat → Int32} {ss fm ix v1 kk : Int32} {k : Nat} (hkk : kk = nI k) (hk : k < 4) (hb : k_bd 4 0 60 qSi) (h : k_it k qSi gq qIt) (hl : k_lf qFo sLo sFo) : k_it k qSi (if (0 ≤ ss ∧ ss ≤ 3 ∧ 0 ≤ fm ∧ fm ≤ 2 ∧ sLo ss.toNatClampNeg = 0 ∧ sFo ss.toNatClampNeg = fm ∧ 0 ≤ ix ∧ ix < qSi ss.toNatClampNeg) ∧ ss = kk then upd gq ix.toNatClampNeg (kCut (sFo k) v1) else gq) (if 0 ≤ ss ∧ ss ≤ 3 ∧ 0 ≤ fm ∧ fm ≤ 2 ∧ ¬ qFo ss.toNatClampNeg < 0 ∧ qFo ss.toNatClampNeg = fm ∧ 0 ≤ ix ∧ ix < qSi ss.toNatClampNeg then upd qIt ((60 * ss) + ix).toNatClampNeg (kCut fm v1) else qIt) := by
  refine k_it_upd hkk hk hb h (e_lyc hl) (fun c => ⟨⟨c.1, c.2.1⟩, c.2.2.2.2.2.2⟩) (fun c e => ?_)
  have z := c.2.2.2.2.2.1
  rw [k_sk hk (e.trans hkk)] at z
  rw [z]
theorem e_cpc {qFo sLo sFo qSi : Nat → Int32} {ss s5 ix jx nn : Int32} (h : k_lf qFo sLo sFo) : (0 ≤ ss ∧ ss ≤ 3 ∧ 0 ≤ s5 ∧ s5 ≤ 3 ∧ sLo ss.toNatClampNeg = 0 ∧ sLo s5.toNatClampNeg = 0 ∧ sFo ss.toNatClampNeg = sFo s5.toNatClampNeg ∧ 0 ≤ ix ∧ 0 ≤ jx ∧ 0 ≤ nn ∧ ix.toInt + nn.toInt ≤ (qSi ss.toNatClampNeg).toInt ∧ jx.toInt + nn.toInt ≤ (qSi s5.toNatClampNeg).toInt) ↔ (0 ≤ ss ∧ ss ≤ 3 ∧ 0 ≤ s5 ∧ s5 ≤ 3 ∧ ¬ qFo ss.toNatClampNeg < 0 ∧ ¬ qFo s5.toNatClampNeg < 0 ∧ qFo ss.toNatClampNeg = qFo s5.toNatClampNeg ∧ 0 ≤ ix ∧ 0 ≤ jx ∧ 0 ≤ nn ∧ ix.toInt + nn.toInt ≤ (qSi ss.toNatClampNeg).toInt ∧ jx.toInt + nn.toInt ≤ (qSi s5.toNatClampNeg).toInt) := by
  constructor
  · rintro ⟨a, b, c, d, e, f, g, i⟩
    obtain ⟨x, y⟩ := k_lf_at h ⟨a, b⟩
    obtain ⟨x2, y2⟩ := k_lf_at h ⟨c, d⟩
    exact ⟨a, b, c, d, x.mp e, x2.mp f, (y e).symm.trans (g.trans (y2 f)), i⟩
  · rintro ⟨a, b, c, d, e, f, g, i⟩
    obtain ⟨x, y⟩ := k_lf_at h ⟨a, b⟩
    obtain ⟨x2, y2⟩ := k_lf_at h ⟨c, d⟩
    exact ⟨a, b, c, d, x.mpr e, x2.mpr f, (y (x.mpr e)).trans (g.trans (y2 (x2.mpr f)).symm), i⟩
theorem k_it_cp {qFo sLo sFo qSi qIt gq0 gq1 gq2 gq3 gq mv : Nat → Int32} {ss s5 ix jx nn kk : Int32} {k : Nat} (hkk : kk = nI k) (hk : k < 4) (hb : k_bd 4 0 60 qSi) (h : k_it k qSi gq qIt) (h0 : k_it 0 qSi gq0 qIt) (h1 : k_it 1 qSi gq1 qIt) (h2 : k_it 2 qSi gq2 qIt) (h3 : k_it 3 qSi gq3 qIt) (hl : k_lf qFo sLo sFo) (hm : k_im (0 ≤ ss ∧ ss ≤ 3 ∧ 0 ≤ s5 ∧ s5 ≤ 3 ∧ ¬ qFo ss.toNatClampNeg < 0 ∧ ¬ qFo s5.toNatClampNeg < 0 ∧ qFo ss.toNatClampNeg = qFo s5.toNatClampNeg ∧ 0 ≤ ix ∧ 0 ≤ jx ∧ 0 ≤ nn ∧ ix.toInt + nn.toInt ≤ (qSi ss.toNatClampNeg).toInt ∧ jx.toInt + nn.toInt ≤ (qSi s5.toNatClampNeg).toInt) (k_mv qIt mv ss ix nn)) : k_it k qSi (if (0 ≤ ss ∧ ss ≤ 3 ∧ 0 ≤ s5 ∧ s5 ≤ 3 ∧ sLo ss.toNatClampNeg = 0 ∧ sLo s5.toNatClampNeg = 0 ∧ sFo ss.toNatClampNeg = sFo s5.toNatClampNeg ∧ 0 ≤ ix ∧ 0 ≤ jx ∧ 0 ≤ nn ∧ ix.toInt + nn.toInt ≤ (qSi ss.toNatClampNeg).toInt ∧ jx.toInt + nn.toInt ≤ (qSi s5.toNatClampNeg).toInt) ∧ s5 = kk then va_cpy (kG4 gq0 gq1 gq2 gq3 ss.toNatClampNeg) gq ix.toNatClampNeg jx.toNatClampNeg nn.toNatClampNeg else gq) (if 0 ≤ ss ∧ ss ≤ 3 ∧ 0 ≤ s5 ∧ s5 ≤ 3 ∧ ¬ qFo ss.toNatClampNeg < 0 ∧ ¬ qFo s5.toNatClampNeg < 0 ∧ qFo ss.toNatClampNeg = qFo s5.toNatClampNeg ∧ 0 ≤ ix ∧ 0 ≤ jx ∧ 0 ≤ nn ∧ ix.toInt + nn.toInt ≤ (qSi ss.toNatClampNeg).toInt ∧ jx.toInt + nn.toInt ≤ (qSi s5.toNatClampNeg).toInt then kCq qIt mv s5 jx nn else qIt) :=
  k_it_copy hkk hk hb h h0 h1 h2 h3 (e_cpc hl) hm (fun c => ⟨⟨c.1, c.2.1⟩, ⟨c.2.2.1, c.2.2.2.1⟩, c.2.2.2.2.2.2.2⟩)
theorem e_wrc {qFo sLo sFo : Nat → Int32} {ss fn f1 w1 : Int32} (h : k_lf qFo sLo sFo) : ((0 ≤ f1 ∧ f1 < fn) ∧ (0 ≤ w1 ∧ w1 ≤ 1) ∧ (0 ≤ ss ∧ ss ≤ 3) ∧ sLo ss.toNatClampNeg = 0) ↔ ((0 ≤ f1 ∧ f1 < fn) ∧ (0 ≤ w1 ∧ w1 ≤ 1) ∧ (0 ≤ ss ∧ ss ≤ 3) ∧ ¬ qFo ss.toNatClampNeg < 0) := by
  constructor
  · rintro ⟨a, b, c, d⟩
    exact ⟨a, b, c, (k_lf_at h c).1.mp d⟩
  · rintro ⟨a, b, c, d⟩
    exact ⟨a, b, c, (k_lf_at h c).1.mpr d⟩
theorem e_nn {qSi : Nat → Int32} {ss n4 mi2 : Int32} (e : n4 = mi2) : (if n4 < qSi ss.toNatClampNeg then n4 else qSi ss.toNatClampNeg) = (if qSi ss.toNatClampNeg < mi2 then qSi ss.toNatClampNeg else mi2) := by
  subst e
  by_cases c : qSi ss.toNatClampNeg < n4
  · rw [if_pos c, if_neg (fun z => Int32.lt_irrefl (Int32.lt_trans c z))]
  · rw [if_neg c]
    by_cases d : n4 < qSi ss.toNatClampNeg
    · rw [if_pos d]
    · rw [if_neg d]
      exact Int32.toInt_inj.mp (by have := Int32.le_iff_toInt_le.mp (Int32.not_lt.mp c); have := Int32.le_iff_toInt_le.mp (Int32.not_lt.mp d); omega)
theorem e_wra {qFo sLo sFo qSi : Nat → Int32} {ss fn f1 w1 n4 mi2 : Int32} (hl : k_lf qFo sLo sFo) (e : k_im ((0 ≤ f1 ∧ f1 < fn) ∧ (0 ≤ w1 ∧ w1 ≤ 1) ∧ (0 ≤ ss ∧ ss ≤ 3) ∧ ¬ qFo ss.toNatClampNeg < 0) (n4 = mi2)) : (if (0 ≤ f1 ∧ f1 < fn) ∧ (0 ≤ w1 ∧ w1 ≤ 1) ∧ 0 ≤ ss ∧ ss ≤ 3 then (if sLo ss.toNatClampNeg = 0 then (if n4 < qSi ss.toNatClampNeg then n4 else qSi ss.toNatClampNeg) else -11) else -2) = (if (0 ≤ f1 ∧ f1 < fn) ∧ (0 ≤ w1 ∧ w1 ≤ 1) ∧ 0 ≤ ss ∧ ss ≤ 3 then (if qFo ss.toNatClampNeg < 0 then -11 else (if qSi ss.toNatClampNeg < mi2 then qSi ss.toNatClampNeg else mi2)) else -2) := by
  refine k_ifc Iff.rfl (fun c => ?_) (fun _ => rfl)
  have a := (k_lf_at hl c.2.2).1
  by_cases d : qFo ss.toNatClampNeg < 0
  · rw [if_pos d, if_neg (fun q => a.mp q d)]
  · rw [if_neg d, if_pos (a.mpr d)]
    exact e_nn (e ⟨c.1, c.2.1, c.2.2, d⟩)
theorem k_it_wr {qFo sLo sFo qSi qIt gq : Nat → Int32} {ss fn f1 w1 kk n4 mi2 : Int32} {V V2 : Int32 → Int32} {k : Nat} (hkk : kk = nI k) (hk : k < 4) (hb : k_bd 4 0 60 qSi) (h : k_it k qSi gq qIt) (hl : k_lf qFo sLo sFo) (hn : 0 ≤ n4 ∧ n4 ≤ 24) (e : k_im ((0 ≤ f1 ∧ f1 < fn) ∧ (0 ≤ w1 ∧ w1 ≤ 1) ∧ (0 ≤ ss ∧ ss ≤ 3) ∧ ¬ qFo ss.toNatClampNeg < 0) (n4 = mi2)) (hv : ((0 ≤ f1 ∧ f1 < fn) ∧ (0 ≤ w1 ∧ w1 ≤ 1) ∧ (0 ≤ ss ∧ ss ≤ 3) ∧ sLo ss.toNatClampNeg = 0) → ∀ j : Int32, 0 ≤ j ∧ j < n4 → V j = V2 j) : k_it k qSi (if ((0 ≤ f1 ∧ f1 < fn) ∧ (0 ≤ w1 ∧ w1 ≤ 1) ∧ (0 ≤ ss ∧ ss ≤ 3) ∧ sLo ss.toNatClampNeg = 0) ∧ ss = kk then kWr (sFo k) V gq (if n4 < qSi ss.toNatClampNeg then n4 else qSi ss.toNatClampNeg) else gq) (if (0 ≤ f1 ∧ f1 < fn) ∧ (0 ≤ w1 ∧ w1 ≤ 1) ∧ (0 ≤ ss ∧ ss ≤ 3) ∧ ¬ qFo ss.toNatClampNeg < 0 then kWq (qFo ss.toNatClampNeg) V2 qIt ss (if qSi ss.toNatClampNeg < mi2 then qSi ss.toNatClampNeg else mi2) else qIt) := by
  by_cases c : (0 ≤ f1 ∧ f1 < fn) ∧ (0 ≤ w1 ∧ w1 ≤ 1) ∧ (0 ≤ ss ∧ ss ≤ 3) ∧ sLo ss.toNatClampNeg = 0
  · rw [← e_nn (e ((e_wrc hl).mp c))]
    have hs := c.2.2.1
    have q := k_lf_at hl hs
    refine k_it_write hkk hk hb h (e_wrc hl) (fun c => ⟨hs, ?_⟩) (fun c z => ?_) (fun c j j0 j1 => hv c j ⟨j0, ?_⟩)
    · obtain ⟨a, ha, rfl⟩ := k_s4 hs
      have s := k_si hb (show a < 4 by omega)
      rw [nI_clamp (show a < 2 ^ 31 by omega)]
      by_cases d : n4 < qSi a
      · rw [if_pos d]
        exact ⟨hn.1, Int32.le_trans hn.2 (by decide)⟩
      · rw [if_neg d]
        refine ⟨s.2, ?_⟩
        obtain ⟨p, hp, ep⟩ := k_nat s.2
        have s1 := s.1
        rw [ep, nI_clamp hp] at s1
        rw [ep, show (60 : Int32) = nI 60 from rfl]
        exact nI_le s1 (by decide)
    · have y := q.2 c.2.2.2
      rw [k_sk hk (z.trans hkk)] at y ⊢
      exact y
    · by_cases d : n4 < qSi ss.toNatClampNeg
      · rw [if_pos d] at j1
        exact j1
      · rw [if_neg d] at j1
        exact Int32.lt_of_lt_of_le j1 (Int32.not_lt.mp d)
  · rw [if_neg (fun z => c z.1), if_neg (fun z => c ((e_wrc hl).mpr z))]
    exact h
theorem e_rdn {qFo sLo sFo qSi qIt gq0 gq1 gq2 gq3 qFt : Nat → Int32} {ss fn : Int32} (hl : k_lf qFo sLo sFo) (hb : k_bd 4 0 60 qSi) (h0 : k_it 0 qSi gq0 qIt) (h1 : k_it 1 qSi gq1 qIt) (h2 : k_it 2 qSi gq2 qIt) (h3 : k_it 3 qSi gq3 qIt) : (if 0 ≤ ss ∧ ss ≤ 3 ∧ sLo ss.toNatClampNeg = 0 then (kRd (kIm (qSi ss.toNatClampNeg) (kG4 gq0 gq1 gq2 gq3 ss.toNatClampNeg)) (qSi ss.toNatClampNeg) (kRf 0) 0 fn qFt).2.1 else fn) = (if 0 ≤ ss ∧ ss ≤ 3 ∧ ¬ qFo ss.toNatClampNeg < 0 then (kRd (fun x9 => qIt ((60 * ss) + x9).toNatClampNeg) (qSi ss.toNatClampNeg) (kRf 0) 0 fn qFt).2.1 else fn) := by
  refine k_ifc ⟨fun c => ⟨c.1, c.2.1, (k_lf_at hl ⟨c.1, c.2.1⟩).1.mp c.2.2⟩, fun c => ⟨c.1, c.2.1, (k_lf_at hl ⟨c.1, c.2.1⟩).1.mpr c.2.2⟩⟩ (fun c => ?_) (fun _ => rfl)
  rw [e_rd (qFo := qFo) (sLo := sLo) (sFo := sFo) ⟨c.1, c.2.1⟩ hb h0 h1 h2 h3]
theorem e_rdf {qFo sLo sFo qSi qIt gq0 gq1 gq2 gq3 qFt : Nat → Int32} {ss fn : Int32} (hl : k_lf qFo sLo sFo) (hb : k_bd 4 0 60 qSi) (h0 : k_it 0 qSi gq0 qIt) (h1 : k_it 1 qSi gq1 qIt) (h2 : k_it 2 qSi gq2 qIt) (h3 : k_it 3 qSi gq3 qIt) : (if 0 ≤ ss ∧ ss ≤ 3 ∧ sLo ss.toNatClampNeg = 0 then (kRd (kIm (qSi ss.toNatClampNeg) (kG4 gq0 gq1 gq2 gq3 ss.toNatClampNeg)) (qSi ss.toNatClampNeg) (kRf 0) 0 fn qFt).2.2 else qFt) = (if 0 ≤ ss ∧ ss ≤ 3 ∧ ¬ qFo ss.toNatClampNeg < 0 then (kRd (fun x9 => qIt ((60 * ss) + x9).toNatClampNeg) (qSi ss.toNatClampNeg) (kRf 0) 0 fn qFt).2.2 else qFt) := by
  refine k_ifc ⟨fun c => ⟨c.1, c.2.1, (k_lf_at hl ⟨c.1, c.2.1⟩).1.mp c.2.2⟩, fun c => ⟨c.1, c.2.1, (k_lf_at hl ⟨c.1, c.2.1⟩).1.mpr c.2.2⟩⟩ (fun c => ?_) (fun _ => rfl)
  rw [e_rd (qFo := qFo) (sLo := sLo) (sFo := sFo) ⟨c.1, c.2.1⟩ hb h0 h1 h2 h3]
theorem e_rda {qFo sLo sFo qSi qIt gq0 gq1 gq2 gq3 qFt : Nat → Int32} {ss fn : Int32} (hl : k_lf qFo sLo sFo) (hb : k_bd 4 0 60 qSi) (h0 : k_it 0 qSi gq0 qIt) (h1 : k_it 1 qSi gq1 qIt) (h2 : k_it 2 qSi gq2 qIt) (h3 : k_it 3 qSi gq3 qIt) : (if 0 ≤ ss ∧ ss ≤ 3 then (if sLo ss.toNatClampNeg = 0 then (kRd (kIm (qSi ss.toNatClampNeg) (kG4 gq0 gq1 gq2 gq3 ss.toNatClampNeg)) (qSi ss.toNatClampNeg) (kRf 0) 0 fn qFt).1 else -11) else -2) = (if 0 ≤ ss ∧ ss ≤ 3 then (if qFo ss.toNatClampNeg < 0 then -11 else (kRd (fun x9 => qIt ((60 * ss) + x9).toNatClampNeg) (qSi ss.toNatClampNeg) (kRf 0) 0 fn qFt).1) else -2) := by
  refine k_ifc Iff.rfl (fun c => ?_) (fun _ => rfl)
  have a := (k_lf_at hl c).1
  by_cases d : qFo ss.toNatClampNeg < 0
  · rw [if_pos d, if_neg (fun q => a.mp q d)]
  · rw [if_neg d, if_pos (a.mpr d), e_rd (qFo := qFo) (sLo := sLo) (sFo := sFo) c hb h0 h1 h2 h3]
theorem e_get {qFo sLo sFo qSi qIt gq0 gq1 gq2 gq3 : Nat → Int32} {ss fm ix : Int32} (hl : k_lf qFo sLo sFo) (hb : k_bd 4 0 60 qSi) (h0 : k_it 0 qSi gq0 qIt) (h1 : k_it 1 qSi gq1 qIt) (h2 : k_it 2 qSi gq2 qIt) (h3 : k_it 3 qSi gq3 qIt) : (if 0 ≤ ss ∧ ss ≤ 3 ∧ 0 ≤ fm ∧ fm ≤ 2 ∧ sLo ss.toNatClampNeg = 0 ∧ sFo ss.toNatClampNeg = fm ∧ 0 ≤ ix ∧ ix < qSi ss.toNatClampNeg then kG4 gq0 gq1 gq2 gq3 ss.toNatClampNeg ix.toNatClampNeg else -2147483648) = (if 0 ≤ ss ∧ ss ≤ 3 ∧ 0 ≤ fm ∧ fm ≤ 2 ∧ ¬ qFo ss.toNatClampNeg < 0 ∧ qFo ss.toNatClampNeg = fm ∧ 0 ≤ ix ∧ ix < qSi ss.toNatClampNeg then qIt ((60 * ss) + ix).toNatClampNeg else -2147483648) := by
  refine k_ifc (e_lyc hl) (fun c => ?_) (fun _ => rfl)
  obtain ⟨a, ha, rfl⟩ := k_s4 ⟨c.1, c.2.1⟩
  obtain ⟨i, hi, rfl⟩ := k_nat c.2.2.2.2.2.2.1
  have hx := c.2.2.2.2.2.2.2
  rw [nI_clamp (show a < 2 ^ 31 by omega)] at hx ⊢
  have s := k_si hb (show a < 4 by omega)
  obtain ⟨p, hp, ep⟩ := k_nat s.2
  have s1 := s.1
  rw [ep, nI_clamp hp] at s1
  rw [ep] at hx
  have hip : i < p := (nI_ltI hi hp).mp hx
  rw [nI_clamp hi, k_it4 h0 h1 h2 h3 ha i (by rw [ep, nI_clamp hp]; exact hip), show (60 : Int32) = nI 60 from rfl, pk_mul, nI_add, nI_clamp (by omega)]
theorem e_gx {qFo sLo sFo qSi : Nat → Int32} {ss fm ix la : Int32} (hl : k_lf qFo sLo sFo) : (if 0 ≤ ss ∧ ss ≤ 3 ∧ 0 ≤ fm ∧ fm ≤ 2 then kFd (if sLo ss.toNatClampNeg = 0 ∧ sFo ss.toNatClampNeg = fm ∧ 0 ≤ ix ∧ ix < qSi ss.toNatClampNeg then 0 else if sLo ss.toNatClampNeg = 0 ∧ sFo ss.toNatClampNeg = fm then -12 else if sLo ss.toNatClampNeg = 0 then -13 else -11) la else la) = (if 0 ≤ ss ∧ ss ≤ 3 ∧ 0 ≤ fm ∧ fm ≤ 2 then kFd (if ¬ qFo ss.toNatClampNeg < 0 ∧ qFo ss.toNatClampNeg = fm ∧ 0 ≤ ix ∧ ix < qSi ss.toNatClampNeg then 0 else if ¬ qFo ss.toNatClampNeg < 0 ∧ qFo ss.toNatClampNeg = fm then -12 else if ¬ qFo ss.toNatClampNeg < 0 then -13 else -11) la else la) := by
  refine k_ifc Iff.rfl (fun c => ?_) (fun _ => rfl)
  obtain ⟨a, b⟩ := k_lf_at hl ⟨c.1, c.2.1⟩
  refine congrArg (fun z => kFd z la) ?_
  refine k_ifc ⟨fun q => ⟨a.mp q.1, (b q.1).symm.trans q.2.1, q.2.2⟩, fun q => ⟨a.mpr q.1, (b (a.mpr q.1)).trans q.2.1, q.2.2⟩⟩ (fun _ => rfl) (fun _ => ?_)
  refine k_ifc ⟨fun q => ⟨a.mp q.1, (b q.1).symm.trans q.2⟩, fun q => ⟨a.mpr q.1, (b (a.mpr q.1)).trans q.2⟩⟩ (fun _ => rfl) (fun _ => ?_)
  exact k_ifc a (fun _ => rfl) (fun _ => rfl)
theorem e_count {q f4 f7 f2 by4 : Nat → Int32} {n4 n7 n2 fn sn la w1 : Int32} (m4 : k_ml (q 0) f4 (kv4 by4)) (m7 : k_ml (q 1) f7 (kv7 by4)) (m2 : k_ml (q 2) f2 (kv2 by4)) (e4 : n4 = kNm (q 0) (q 0) f4) (e7 : n7 = kNm (kTh7 (q 1)) (q 1) f7) (e2 : n2 = kNm (kTh2 (q 2)) (q 2) f2) : (if w1 = 0 then n4 else if w1 = 1 then n7 else if w1 = 2 then n2 else if w1 = 3 then q 0 else if w1 = 4 then q 1 else if w1 = 5 then q 2 else if w1 = 6 then fn else if w1 = 7 then sn else if w1 = 8 then la else -2) = (if w1 = 0 then kNm (q 0) (q 0) (kv4 by4) else if w1 = 1 then kNm (kTh7 (q 1)) (q 1) (kv7 by4) else if w1 = 2 then kNm (kTh2 (q 2)) (q 2) (kv2 by4) else if w1 = 3 then q 0 else if w1 = 4 then q 1 else if w1 = 5 then q 2 else if w1 = 6 then fn else if w1 = 7 then sn else if w1 = 8 then la else -2) := by
  rw [e4, e7, e2, kNm_cg m4, kNm_cg m7, kNm_cg m2]

/-! outcomes of flights -/
def kO (C : Prop) [Decidable C] (ov : Int32 → Int32) (n w : Int32) (P : kGT × kGT) (le ki so be : Int32) (hf : Int32 → Int32) : kR4 := if C then kGG ov (kCt ov w (kfu n 0) 0 P) le ki so be hf n else (0, 0, 0, 1)
/-- the class: a passenger, two geese, a height, a sore, what is learned -/
def kOC (f4 f7 f2 : Nat → Int32) (n4 n7 n2 le p l r h so : Int32) : kR4 := kO ((0 ≤ p ∧ p < n7) ∧ (0 ≤ l ∧ l < n2) ∧ 0 ≤ r ∧ r < n2) (kAt 24 f4) n4 (kAt 39 f7 ((5 * p) + 3)) ((kAt 23 f2 ((3 * l) + 0), kAt 23 f2 ((3 * l) + 1), kAt 23 f2 ((3 * l) + 0), 0), (kAt 23 f2 ((3 * r) + 0), kAt 23 f2 ((3 * r) + 1), kAt 23 f2 ((3 * r) + 0), 0)) le (kAt 39 f7 ((5 * p) + 0)) so (5 * (kAt 39 f7 ((5 * p) + 2))) (fun _ => h)
/-- the reference -/
def kOR (qMi qPs qGs : Nat → Int32) (mi pn gn le p l r so : Int32) (hf : Int32 → Int32) : kR4 := kO ((0 ≤ p ∧ p < pn) ∧ (0 ≤ l ∧ l < gn) ∧ 0 ≤ r ∧ r < gn) (kM qMi) mi (kP3 qPs p) ((kG0 qGs l, kG1 qGs l, kG0 qGs l, 0), (kG0 qGs r, kG1 qGs r, kG0 qGs r, 0)) le (kP0 qPs p) so (5 * (kP2 qPs p)) hf
/-- a trip that was boarded comes to this -/
theorem kO_trip {C : Prop} [Decidable C] {ov hf : Int32 → Int32} {n w le ki so be KI SO BE tgo tca : Int32} {P : kGT × kGT} (hn : 0 ≤ n) (h1 : tgo = if C then 1 else 0) (h2 : tca = if C then kCt ov w (kfu n 0) 0 P else 0) (h3 : C → ki = KI) (h4 : C → so = SO) (h5 : C → be = BE) : kGo ov tca le ki so be hf (kfu n (0 : Int32)) (0 : Int32) (0 : Int32) (0 : Int32) (if tgo = 0 then 1 else 0) = kO C ov n w P le KI SO BE hf := by
  unfold kO
  by_cases c : C
  · rw [if_pos c] at h1 h2
    rw [if_pos c, h1, if_neg (by decide), h2, h3 c, h4 c, h5 c]
    rfl
  · rw [if_neg c] at h1 h2
    rw [if_neg c, h1, if_pos rfl, h2]
    by_cases d : n ≤ 0
    · rw [kfu_0 d, kGo]
    · rw [kfu_s d, kGo, if_pos (Int32.le_refl 0)]
/-- a flight of the reference comes to this -/
theorem kO_done {C : Prop} [Decidable C] {ov hf : Int32 → Int32} {n w le ki so be kn fe en : Int32} {P : kGT × kGT} {qt : Nat → Int32} (h : k_fd C (k_done ov (kCt ov w (kfu n 0) 0 P) le ki so be hf n kn fe en qt) kn fe en) : fe = (kO C ov n w P le ki so be hf).1 ∧ en = (kO C ov n w P le ki so be hf).2.2.2 := by
  unfold kO
  by_cases c : C
  · rw [if_pos c]
    exact ⟨(h.1 c).1, (h.1 c).2.1⟩
  · rw [if_neg c]
    exact ⟨(h.2 c).2.1, (h.2 c).2.2⟩
theorem kO_cg {q f4 f7 f2 by4 qMi qPs qGs : Nat → Int32} {n4 n7 n2 mi pn gn le p l r h so so' : Int32} {hf : Int32 → Int32}
    (t0 : 0 ≤ (q 0).toInt ∧ (q 0).toInt ≤ 24) (t1 : 0 ≤ (q 1).toInt ∧ (q 1).toInt ≤ 39) (t2 : 0 ≤ (q 2).toInt ∧ (q 2).toInt ≤ 23)
    (m4 : k_ml (q 0) f4 (kv4 by4)) (m7 : k_ml (q 1) f7 (kv7 by4)) (m2 : k_ml (q 2) f2 (kv2 by4))
    (e4 : n4 = kNm (q 0) (q 0) f4) (e7 : n7 = kNm (kTh7 (q 1)) (q 1) f7) (e2 : n2 = kNm (kTh2 (q 2)) (q 2) f2) (hn4 : 0 ≤ n4 ∧ n4 ≤ 24)
    (r1 : mi = kNm (q 0) (q 0) (kv4 by4)) (r2 : pn = kNm (kTh7 (q 1)) (q 1) (kv7 by4)) (r3 : gn = kNm (kTh2 (q 2)) (q 2) (kv2 by4)) (r4 : k_ml mi qMi (kv4 by4)) (r5 : ∀ w : Nat, w < 4 → w ≠ 1 → (0 ≤ p ∧ p < pn) → kAt 39 f7 ((5 * p) + nI w) = qPs ((4 * p) + nI w).toNatClampNeg) (r6 : k_mq 3 2 gn (q 2) qGs (kv2 by4))
    (hs : (0 ≤ p ∧ p < pn) → so = so') (hh : ∀ i : Nat, i < 24 → h = hf (nI i)) : kOC f4 f7 f2 n4 n7 n2 le p l r h so = kOR qMi qPs qGs mi pn gn le p l r so' hf := by
  have N4 : n4 = mi := e4.trans ((kNm_cg m4).trans r1.symm)
  have N7 : n7 = pn := e7.trans ((kNm_cg m7).trans r2.symm)
  have N2 : n2 = gn := e2.trans ((kNm_cg m2).trans r3.symm)
  unfold kOC kOR kO
  rw [N7, N2]
  by_cases hC : (0 ≤ p ∧ p < pn) ∧ (0 ≤ l ∧ l < gn) ∧ 0 ≤ r ∧ r < gn
  · rw [if_pos hC, if_pos hC]
    obtain ⟨n, hn, en⟩ := k_nat (x := mi) (by rw [← N4]; exact hn4.1)
    have hn24 : n ≤ 24 := by have := hn4.2; rw [N4, en] at this; exact (nI_leI hn (by decide)).mp this
    have hov := v_m t0 m4 r1 r4 en hn
    have K0 : kAt 39 f7 ((5 * p) + 0) = kP0 qPs p := (r5 0 (by decide) (by decide) hC.1).trans (by unfold kP0; rw [show (nI 0 : Int32) = 0 from rfl, Int32.add_zero])
    have K2 : kAt 39 f7 ((5 * p) + 2) = kP2 qPs p := r5 2 (by decide) (by decide) hC.1
    have K3 : kAt 39 f7 ((5 * p) + 3) = kP3 qPs p := r5 3 (by decide) (by decide) hC.1
    have L0 : kAt 23 f2 ((3 * l) + 0) = kG0 qGs l := (v_g (w := 0) t2 m2 r3 r6 hC.2.1 (by decide)).trans (by unfold kG0; rw [show (nI 0 : Int32) = 0 from rfl, Int32.add_zero])
    have L1 : kAt 23 f2 ((3 * l) + 1) = kG1 qGs l := v_g (w := 1) t2 m2 r3 r6 hC.2.1 (by decide)
    have M0 : kAt 23 f2 ((3 * r) + 0) = kG0 qGs r := (v_g (w := 0) t2 m2 r3 r6 hC.2.2 (by decide)).trans (by unfold kG0; rw [show (nI 0 : Int32) = 0 from rfl, Int32.add_zero])
    have M1 : kAt 23 f2 ((3 * r) + 1) = kG1 qGs r := v_g (w := 1) t2 m2 r3 r6 hC.2.2 (by decide)
    rw [K0, K2, K3, L0, L1, M0, M1, N4, hs hC.1, en]
    unfold kGG
    rw [show (0 : Int32) = nI 0 from rfl, kfu_nat (by decide) hn]
    rw [kCt_cg (ov := kAt 24 f4) (ov' := kM qMi) hn hov _ 0 _ (by omega)]
    exact kGo_cg (n := n) hn hov (fun i hi => hh i (by omega)) _ 0 _ _ _ (by omega)
  · rw [if_neg hC, if_neg hC]

/-! the farthest flight -/
def kMe (o : kR4) : Int32 := (2 * o.1) + (if o.2.2.2 = 0 then 1 else 0)
theorem kMe_y {o : kR4} {r e : Int32} (h1 : r = o.1) (h2 : e = o.2.2.2) (c : e = 0) : (2 * r) + 1 = kMe o := by
  unfold kMe
  rw [← h1, ← h2, if_pos c]
theorem kMe_n {o : kR4} {r e : Int32} (h1 : r = o.1) (h2 : e = o.2.2.2) (c : ¬ e = 0) : (2 * r) + 0 = kMe o := by
  unfold kMe
  rw [← h1, ← h2, if_neg c]
def kFc (O : Int32 → kR4) : Nat → Int32 → Int32 → Int32 → Int32
  | 0, _, b, _ => b
  | k + 1, f, b, m => if m < kMe (O f) then kFc O k (f + 1) f (kMe (O f)) else kFc O k (f + 1) b m
def kFq (O : Int32 → kR4) : Nat → Int32 → Int32 → Int32 → Int32
  | 0, _, b, _ => b
  | k + 1, f, b, m => if b = -1 ∨ m < kMe (O f) then kFq O k (f + 1) f (kMe (O f)) else kFq O k (f + 1) b m
def k_fc (O : Int32 → kR4) (n f b m r : Int32) : Prop := kFc O (kfu n f) f b m = r
def k_fq (O : Int32 → kR4) (n f b m r : Int32) : Prop := kFq O (kfu n f) f b m = r
section KFA
variable {O : Int32 → kR4} {n f b m r me : Int32}
theorem kFc_y (h : k_fc O n f b m r) (hl : ¬ n ≤ f) (hm : me = kMe (O f)) (c : m < me) : k_fc O n (f + 1) f me r := by
  unfold k_fc at h ⊢
  rw [kfu_s hl, kFc, ← hm, if_pos c] at h
  exact h
theorem kFc_n (h : k_fc O n f b m r) (hl : ¬ n ≤ f) (hm : me = kMe (O f)) (c : ¬ m < me) : k_fc O n (f + 1) b m r := by
  unfold k_fc at h ⊢
  rw [kfu_s hl, kFc, ← hm, if_neg c] at h
  exact h
theorem kFc_e (h : k_fc O n f b m r) (hl : n ≤ f) : b = r := by
  unfold k_fc at h
  rw [kfu_0 hl, kFc] at h
  exact h
theorem kFq_y (h : k_fq O n f b m r) (hl : ¬ n ≤ f) (hm : me = kMe (O f)) (c : b = -1 ∨ m < me) : k_fq O n (f + 1) f me r := by
  unfold k_fq at h ⊢
  rw [kfu_s hl, kFq, ← hm, if_pos c] at h
  exact h
theorem kFq_n (h : k_fq O n f b m r) (hl : ¬ n ≤ f) (hm : me = kMe (O f)) (c : ¬ b = -1) (c2 : ¬ m < me) : k_fq O n (f + 1) b m r := by
  unfold k_fq at h ⊢
  rw [kfu_s hl, kFq, ← hm, if_neg (fun z => z.elim c c2)] at h
  exact h
theorem kFq_e (h : k_fq O n f b m r) (hl : n ≤ f) : b = r := by
  unfold k_fq at h
  rw [kfu_0 hl, kFq] at h
  exact h
end KFA
theorem kF_eq {O O' : Int32 → kR4} {n : Nat} (hn : n ≤ 8) (h : ∀ a : Nat, a < n → O (nI a) = O' (nI a)) (hp : ∀ a : Nat, a < n → 0 ≤ kMe (O (nI a))) : ∀ (k a : Nat) (b m : Int32), a + k ≤ n → ¬ b = -1 → kFc O k (nI a) b m = kFq O' k (nI a) b m
  | 0, _, _, _, _, _ => rfl
  | k + 1, a, b, m, hk, hb => by
    rw [kFc, kFq, ← h a (by omega), nI_1]
    by_cases c : m < kMe (O (nI a))
    · rw [if_pos c, if_pos (Or.inr c)]
      exact kF_eq hn h hp k (a + 1) _ _ (by omega) (k_nI_ne (by omega))
    · rw [if_neg c, if_neg (fun z => z.elim hb c)]
      exact kF_eq hn h hp k (a + 1) _ _ (by omega) hb
theorem kF_eq0 {O O' : Int32 → kR4} {n : Nat} (hn : n ≤ 8) (h : ∀ a : Nat, a < n → O (nI a) = O' (nI a)) (hp : ∀ a : Nat, a < n → 0 ≤ kMe (O (nI a))) : kFc O n (nI 0) (-1) (-1) = kFq O' n (nI 0) (-1) 0 := by
  match n, hn, h, hp with
  | 0, _, _, _ => rfl
  | n + 1, hn, h, hp =>
    have q := Int32.le_iff_toInt_le.mp (hp 0 (by omega))
    rw [show (0 : Int32).toInt = 0 from rfl] at q
    rw [kFc, kFq, ← h 0 (by omega), nI_1, if_pos (Int32.lt_iff_toInt_lt.mpr (by rw [show (-1 : Int32).toInt = -1 from rfl]; omega)), if_pos (Or.inl rfl)]
    exact kF_eq hn h hp n 1 _ _ (by omega) (by decide)
theorem kGo_rng {ov hf : Int32 → Int32} {ct le ki so be : Int32} : ∀ (k a : Nat) (x y e : Int32), ∃ j : Nat, a ≤ j ∧ j ≤ a + k ∧ (kGo ov ct le ki so be hf k (nI a) x y e).1 = nI j
  | 0, a, _, _, _ => ⟨a, Nat.le_refl a, Nat.le_refl a, rfl⟩
  | k + 1, a, x, y, e => by
    rw [kGo, nI_1]
    by_cases c1 : ct ≤ nI a
    · rw [if_pos c1]
      exact ⟨a, Nat.le_refl a, by omega, rfl⟩
    · rw [if_neg c1]
      by_cases c2 : 20 < y + kCh (hf (nI a))
      · rw [if_pos c2]
        exact ⟨a, Nat.le_refl a, by omega, rfl⟩
      · rw [if_neg c2]
        by_cases c3 : ov (nI a) < 6
        · rw [if_pos c3]
          by_cases c4 : be < x + kIns (kBt le (ov (nI a))) ki so (ov (nI a)) (hf (nI a))
          · rw [if_pos c4]
            exact ⟨a, Nat.le_refl a, by omega, rfl⟩
          · rw [if_neg c4]
            obtain ⟨j, h1, h2, h3⟩ := kGo_rng (ov := ov) (hf := hf) (ct := ct) (le := le) (ki := ki) (so := so) (be := be) k (a + 1) (x + kIns (kBt le (ov (nI a))) ki so (ov (nI a)) (hf (nI a))) (y + kCh (hf (nI a))) e
            exact ⟨j, by omega, by omega, h3⟩
        · rw [if_neg c3]
          by_cases c4 : ov (nI a) = 7
          · rw [if_pos c4]
            obtain ⟨j, h1, h2, h3⟩ := kGo_rng (ov := ov) (hf := hf) (ct := ct) (le := le) (ki := ki) (so := so) (be := be) k (a + 1) 0 0 e
            exact ⟨j, by omega, by omega, h3⟩
          · rw [if_neg c4]
            obtain ⟨j, h1, h2, h3⟩ := kGo_rng (ov := ov) (hf := hf) (ct := ct) (le := le) (ki := ki) (so := so) (be := be) k (a + 1) x (y + kCh (hf (nI a))) e
            exact ⟨j, by omega, by omega, h3⟩
theorem kO_rng {C : Prop} [Decidable C] {ov hf : Int32 → Int32} {n w le ki so be : Int32} {P : kGT × kGT} (hn : 0 ≤ n ∧ n ≤ 24) : ∃ j : Nat, j ≤ 24 ∧ (kO C ov n w P le ki so be hf).1 = nI j := by
  unfold kO
  by_cases c : C
  · rw [if_pos c]
    obtain ⟨a, ha, rfl⟩ := nI_of2 (n := 24) (M := 24) (by decide) (Int32.not_lt.mpr hn.1) hn.2
    unfold kGG
    rw [show (0 : Int32) = nI 0 from rfl, kfu_nat (by decide) (by omega)]
    obtain ⟨j, h1, h2, h3⟩ := kGo_rng (ov := ov) (hf := hf) (ct := kCt ov w (a - 0) (nI 0) P) (le := le) (ki := ki) (so := so) (be := be) (a - 0) 0 (nI 0) (nI 0) (nI 0)
    exact ⟨j, by omega, h3⟩
  · rw [if_neg c]
    exact ⟨0, by omega, rfl⟩
theorem kMe_pos {o : kR4} {j : Nat} (hj : j ≤ 24) (h : o.1 = nI j) : 0 ≤ kMe o := by
  unfold kMe
  rw [h, show (2 : Int32) = nI 2 from rfl, pk_mul]
  by_cases c : o.2.2.2 = 0
  · rw [if_pos c, nI_1]
    exact nI_pos' (by omega)
  · rw [if_neg c, Int32.add_zero]
    exact nI_pos' (by omega)

/-! what binds both sides' texts, as one word -/
def kRel (q f4 f7 f2 by4 qMi qPs qGs : Nat → Int32) (n4 n7 n2 mi pn gn : Int32) : Prop :=
  ((0 ≤ (q 0).toInt ∧ (q 0).toInt ≤ 24) ∧ (0 ≤ (q 1).toInt ∧ (q 1).toInt ≤ 39) ∧ (0 ≤ (q 2).toInt ∧ (q 2).toInt ≤ 23)) ∧
  (k_ml (q 0) f4 (kv4 by4) ∧ k_ml (q 1) f7 (kv7 by4) ∧ k_ml (q 2) f2 (kv2 by4)) ∧
  (n4 = kNm (q 0) (q 0) f4 ∧ n7 = kNm (kTh7 (q 1)) (q 1) f7 ∧ n2 = kNm (kTh2 (q 2)) (q 2) f2) ∧ (0 ≤ n4 ∧ n4 ≤ 24) ∧
  (mi = kNm (q 0) (q 0) (kv4 by4) ∧ pn = kNm (kTh7 (q 1)) (q 1) (kv7 by4) ∧ gn = kNm (kTh2 (q 2)) (q 2) (kv2 by4)) ∧
  (k_ml mi qMi (kv4 by4) ∧ k_mq 5 4 pn (q 1) qPs (kv7 by4) ∧ k_mq 3 2 gn (q 2) qGs (kv2 by4))
section KREL
variable {q f4 f7 f2 by4 qMi qPs qGs : Nat → Int32} {n4 n7 n2 mi pn gn : Int32}
theorem kRel_mk (t0 : 0 ≤ (q 0).toInt ∧ (q 0).toInt ≤ 24) (t1 : 0 ≤ (q 1).toInt ∧ (q 1).toInt ≤ 39) (t2 : 0 ≤ (q 2).toInt ∧ (q 2).toInt ≤ 23)
    (m4 : k_ml (q 0) f4 (kv4 by4)) (m7 : k_ml (q 1) f7 (kv7 by4)) (m2 : k_ml (q 2) f2 (kv2 by4))
    (e4 : n4 = kNm (q 0) (q 0) f4) (e7 : n7 = kNm (kTh7 (q 1)) (q 1) f7) (e2 : n2 = kNm (kTh2 (q 2)) (q 2) f2) (hn4 : 0 ≤ n4 ∧ n4 ≤ 24)
    (r1 : mi = kNm (q 0) (q 0) (kv4 by4)) (r2 : pn = kNm (kTh7 (q 1)) (q 1) (kv7 by4)) (r3 : gn = kNm (kTh2 (q 2)) (q 2) (kv2 by4)) (r4 : k_ml mi qMi (kv4 by4)) (r5 : k_mq 5 4 pn (q 1) qPs (kv7 by4)) (r6 : k_mq 3 2 gn (q 2) qGs (kv2 by4)) : kRel q f4 f7 f2 by4 qMi qPs qGs n4 n7 n2 mi pn gn :=
  ⟨⟨t0, t1, t2⟩, ⟨m4, m7, m2⟩, ⟨e4, e7, e2⟩, hn4, ⟨r1, r2, r3⟩, r4, r5, r6⟩
theorem kRel_n (R : kRel q f4 f7 f2 by4 qMi qPs qGs n4 n7 n2 mi pn gn) : n4 = mi ∧ n7 = pn ∧ n2 = gn := by
  obtain ⟨⟨t0, t1, t2⟩, ⟨m4, m7, m2⟩, ⟨e4, e7, e2⟩, hn4, ⟨r1, r2, r3⟩, r4, r5, r6⟩ := R
  exact ⟨e4.trans ((kNm_cg m4).trans r1.symm), e7.trans ((kNm_cg m7).trans r2.symm), e2.trans ((kNm_cg m2).trans r3.symm)⟩
theorem kRel_4 (R : kRel q f4 f7 f2 by4 qMi qPs qGs n4 n7 n2 mi pn gn) : 0 ≤ n4 ∧ n4 ≤ 24 := R.2.2.2.1
/-- what a passenger is, on both sides -/
theorem kRel_p (R : kRel q f4 f7 f2 by4 qMi qPs qGs n4 n7 n2 mi pn gn) {p : Int32} {w : Nat} (hw : w < 4) (hp : 0 ≤ p ∧ p < pn) : kAt 39 f7 ((5 * p) + nI w) = qPs ((4 * p) + nI w).toNatClampNeg := by
  obtain ⟨⟨t0, t1, t2⟩, ⟨m4, m7, m2⟩, ⟨e4, e7, e2⟩, hn4, ⟨r1, r2, r3⟩, r4, r5, r6⟩ := R
  exact v_p t1 m7 r2 r5 hp hw
/-- a flight comes to the same on both sides, with the same sore and the same height -/
theorem kRel_o (R : kRel q f4 f7 f2 by4 qMi qPs qGs n4 n7 n2 mi pn gn) {le p l r h so so' : Int32} {hf : Int32 → Int32} (hs : (0 ≤ p ∧ p < pn) → so = so') (hh : ∀ i : Nat, i < 24 → h = hf (nI i)) : kOC f4 f7 f2 n4 n7 n2 le p l r h so = kOR qMi qPs qGs mi pn gn le p l r so' hf := by
  obtain ⟨⟨t0, t1, t2⟩, ⟨m4, m7, m2⟩, ⟨e4, e7, e2⟩, hn4, ⟨r1, r2, r3⟩, r4, r5, r6⟩ := R
  exact kO_cg t0 t1 t2 m4 m7 m2 e4 e7 e2 hn4 r1 r2 r3 r4 (fun w hw _ hp => v_p t1 m7 r2 r5 hp hw) r6 hs hh
/-- the same of a reference whose passengers have another sore -/
theorem kRel_o' (R : kRel q f4 f7 f2 by4 qMi qPs qGs n4 n7 n2 mi pn gn) {le p l r h so so' : Int32} {hf : Int32 → Int32} {qw : Nat → Int32} (hq : ∀ w : Nat, w < 4 → w ≠ 1 → (0 ≤ p ∧ p < pn) → qw ((4 * p) + nI w).toNatClampNeg = qPs ((4 * p) + nI w).toNatClampNeg) (hs : (0 ≤ p ∧ p < pn) → so = so') (hh : ∀ i : Nat, i < 24 → h = hf (nI i)) : kOC f4 f7 f2 n4 n7 n2 le p l r h so = kOR qMi qw qGs mi pn gn le p l r so' hf := by
  obtain ⟨⟨t0, t1, t2⟩, ⟨m4, m7, m2⟩, ⟨e4, e7, e2⟩, hn4, ⟨r1, r2, r3⟩, r4, r5, r6⟩ := R
  exact kO_cg t0 t1 t2 m4 m7 m2 e4 e7 e2 hn4 r1 r2 r3 r4 (fun w hw h1 hp => (v_p t1 m7 r2 r5 hp hw).trans (hq w hw h1 hp).symm) r6 hs hh
/-- a passenger's own sore -/
theorem kRel_s (R : kRel q f4 f7 f2 by4 qMi qPs qGs n4 n7 n2 mi pn gn) {p : Int32} (hp : 0 ≤ p ∧ p < pn) : kAt 39 f7 ((5 * p) + 1) = kP1 qPs p := kRel_p R (w := 1) (by decide) hp
end KREL
theorem kIt_P {fn f : Int32} {ft : Nat → Int32} (hf : 0 ≤ f ∧ f < fn) : kIt fn ft f 0 = kP0 ft f ∧ kIt fn ft f 1 = kP1 ft f ∧ kIt fn ft f 2 = kP2 ft f ∧ kIt fn ft f 3 = kP3 ft f :=
  ⟨by unfold kIt kP0; rw [if_pos hf, Int32.add_zero], if_pos hf, if_pos hf, if_pos hf⟩
theorem k_h24 {h : Int32} (i : Nat) (hi : i < 24) : h = (fun x8 : Int32 => if x8 < (24 : Int32) then h else (0 : Int32)) (nI i) := by
  show h = if nI i < (24 : Int32) then h else (0 : Int32)
  rw [if_pos (by rw [show (24 : Int32) = nI 24 from rfl]; exact nI_lt hi (by decide))]

/-! climbs -/
section KG16
variable {ov : Int32 → Int32} {ct le ki so be : Int32}
/-- how he comes doesn't hang on the word that says how it ends -/
theorem kGo_e {hf : Int32 → Int32} : ∀ (k : Nat) (i x y e e' : Int32), (kGo ov ct le ki so be hf k i x y e).1 = (kGo ov ct le ki so be hf k i x y e').1 ∧ (kGo ov ct le ki so be hf k i x y e).2.1 = (kGo ov ct le ki so be hf k i x y e').2.1 ∧ (kGo ov ct le ki so be hf k i x y e).2.2.1 = (kGo ov ct le ki so be hf k i x y e').2.2.1
  | 0, _, _, _, _, _ => ⟨rfl, rfl, rfl⟩
  | k + 1, i, x, y, e, e' => by
    rw [kGo, kGo]
    by_cases c1 : ct ≤ i
    · rw [if_pos c1, if_pos c1]; exact ⟨rfl, rfl, rfl⟩
    · rw [if_neg c1, if_neg c1]
      by_cases c2 : 20 < y + kCh (hf i)
      · rw [if_pos c2, if_pos c2]; exact ⟨rfl, rfl, rfl⟩
      · rw [if_neg c2, if_neg c2]
        by_cases c3 : ov i < 6
        · rw [if_pos c3, if_pos c3]
          by_cases c4 : be < x + kIns (kBt le (ov i)) ki so (ov i) (hf i)
          · rw [if_pos c4, if_pos c4]; exact ⟨rfl, rfl, rfl⟩
          · rw [if_neg c4, if_neg c4]; exact kGo_e k _ _ _ _ _
        · rw [if_neg c3, if_neg c3]
          by_cases c4 : ov i = 7
          · rw [if_pos c4, if_pos c4]; exact kGo_e k _ _ _ _ _
          · rw [if_neg c4, if_neg c4]; exact kGo_e k _ _ _ _ _
theorem kGo_cg2 {hf hf' : Int32 → Int32} : ∀ (k a : Nat) (x y e : Int32), (∀ j : Nat, a ≤ j → j < a + k → hf (nI j) = hf' (nI j)) → kGo ov ct le ki so be hf k (nI a) x y e = kGo ov ct le ki so be hf' k (nI a) x y e
  | 0, _, _, _, _, _ => rfl
  | k + 1, a, x, y, e, h => by
    have ih := fun x y e => kGo_cg2 k (a + 1) x y e (fun j h1 h2 => h j (by omega) (by omega))
    rw [kGo, kGo, h a (Nat.le_refl a) (by omega), nI_1, ih, ih, ih]
/-- one mile: he falls on it, or he is behind it -/
theorem kGo_1 {hf : Int32 → Int32} {a : Nat} {x y : Int32} (ha : a < 2 ^ 31 - 1) : ((kGo ov ct le ki so be hf 1 (nI a) x y 0).1 = nI (a + 1) ∧ (kGo ov ct le ki so be hf 1 (nI a) x y 0).2.2.2 = 0) ∨ ((kGo ov ct le ki so be hf 1 (nI a) x y 0).1 = nI a ∧ ∀ (k : Nat) (hg : Int32 → Int32), hg (nI a) = hf (nI a) → (kGo ov ct le ki so be hg (k + 1) (nI a) x y 0).1 = nI a) := by
  have e1 : kGo ov ct le ki so be hf 1 (nI a) x y 0 = kGo ov ct le ki so be hf (0 + 1) (nI a) x y 0 := rfl
  rw [e1, kGo]
  by_cases c1 : ct ≤ nI a
  · rw [if_pos c1]
    refine Or.inr ⟨rfl, fun k hg h => ?_⟩
    rw [kGo, if_pos c1]
  · rw [if_neg c1]
    by_cases c2 : 20 < y + kCh (hf (nI a))
    · rw [if_pos c2]
      refine Or.inr ⟨rfl, fun k hg h => ?_⟩
      rw [kGo, if_neg c1, h, if_pos c2]
    · rw [if_neg c2]
      by_cases c3 : ov (nI a) < 6
      · rw [if_pos c3]
        by_cases c4 : be < x + kIns (kBt le (ov (nI a))) ki so (ov (nI a)) (hf (nI a))
        · rw [if_pos c4]
          refine Or.inr ⟨rfl, fun k hg h => ?_⟩
          rw [kGo, if_neg c1, h, if_neg c2, if_pos c3, if_pos c4]
        · rw [if_neg c4, kGo, nI_1]
          exact Or.inl ⟨rfl, rfl⟩
      · rw [if_neg c3]
        by_cases c4 : ov (nI a) = 7
        · rw [if_pos c4, kGo, nI_1]
          exact Or.inl ⟨rfl, rfl⟩
        · rw [if_neg c4, kGo, nI_1]
          exact Or.inl ⟨rfl, rfl⟩
/-- nobody comes farther than the geese carry -/
theorem kGo_le {hf : Int32 → Int32} {c : Nat} (hc : c < 2 ^ 31) (ec : ct = nI c) : ∀ (k a : Nat) (x y e : Int32), a ≤ c → ∃ j : Nat, j ≤ c ∧ (kGo ov ct le ki so be hf k (nI a) x y e).1 = nI j
  | 0, a, _, _, _, h => ⟨a, h, rfl⟩
  | k + 1, a, x, y, e, h => by
    rw [kGo, nI_1]
    by_cases c1 : ct ≤ nI a
    · rw [if_pos c1]; exact ⟨a, h, rfl⟩
    · have hac : a + 1 ≤ c := by
        rcases Nat.lt_or_ge a c with z | z
        · exact z
        · exact absurd (by rw [ec]; exact nI_le z (by omega)) c1
      rw [if_neg c1]
      by_cases c2 : 20 < y + kCh (hf (nI a))
      · rw [if_pos c2]; exact ⟨a, h, rfl⟩
      · rw [if_neg c2]
        by_cases c3 : ov (nI a) < 6
        · rw [if_pos c3]
          by_cases c4 : be < x + kIns (kBt le (ov (nI a))) ki so (ov (nI a)) (hf (nI a))
          · rw [if_pos c4]; exact ⟨a, h, rfl⟩
          · rw [if_neg c4]; exact kGo_le hc ec k (a + 1) _ _ _ hac
        · rw [if_neg c3]
          by_cases c4 : ov (nI a) = 7
          · rw [if_pos c4]; exact kGo_le hc ec k (a + 1) _ _ _ hac
          · rw [if_neg c4]; exact kGo_le hc ec k (a + 1) _ _ _ hac
end KG16
/-- the heights of a row, by its number -/
def kHc (c : Int32) : Int32 → Int32 := fun x9 => if x9 < ((c / 9) - (c / 9) / 23 * 23) + 1 then c / 207 + 1 else (c - c / 9 * 9) + 1
theorem kdec {H M O : Nat} (hH : H ≤ 8) (hM : M ≤ 22) (hO : O ≤ 8) : nI (207 * H + 9 * M + O) / 207 + 1 = nI (H + 1) ∧ ((nI (207 * H + 9 * M + O) / 9) - (nI (207 * H + 9 * M + O) / 9) / 23 * 23) + 1 = nI (M + 1) ∧ (nI (207 * H + 9 * M + O) - nI (207 * H + 9 * M + O) / 9 * 9) + 1 = nI (O + 1) := by
  have e9 : nI (207 * H + 9 * M + O) / 9 = nI (23 * H + M) := by rw [show (9 : Int32) = nI 9 from rfl, pk_div (by omega) (by decide) (by decide), show (207 * H + 9 * M + O) / 9 = 23 * H + M by omega]
  refine ⟨?_, ?_, ?_⟩
  · rw [show (207 : Int32) = nI 207 from rfl, pk_div (by omega) (by decide) (by decide), show (207 * H + 9 * M + O) / 207 = H by omega, nI_1]
  · rw [e9]
    have q := pk_rem (a := 23 * H + M) (d := 23) (by omega) (by decide) (by decide)
    rw [show (23 * H + M) % 23 = M by omega] at q
    rw [show (23 : Int32) = nI 23 from rfl, q, nI_1]
  · have q := pk_rem (a := 207 * H + 9 * M + O) (d := 9) (by omega) (by decide) (by decide)
    rw [show (207 * H + 9 * M + O) % 9 = O by omega] at q
    rw [show (9 : Int32) = nI 9 from rfl, q, nI_1]
/-- the rows in their order: how far, the row -/
def kCl (Fx : Int32 → Int32) : Nat → Int32 → kR4 → kR4
  | 0, _, s => s
  | k + 1, c, s => kCl Fx k (c + 1) (if s.1 < Fx c then (Fx c, c / 207 + 1, ((c / 9) - (c / 9) / 23 * 23) + 1, (c - c / 9 * 9) + 1) else s)
def kCz (Fx : Int32 → Int32) : Nat → Int32 → Int32 → Int32 → Int32 × Int32
  | 0, _, fa, b => (fa, b)
  | k + 1, c, fa, b => if fa < Fx c then kCz Fx k (c + 1) (Fx c) c else kCz Fx k (c + 1) fa b
def kDq (fa b : Int32) : kR4 := (fa, b / 207 + 1, ((b / 9) - (b / 9) / 23 * 23) + 1, (b - b / 9 * 9) + 1)
theorem kC_eq {Fx Fy : Int32 → Int32} : ∀ (k a : Nat) (fa b : Int32), (∀ j : Nat, a ≤ j → j < a + k → Fx (nI j) = Fy (nI j)) → kCl Fx k (nI a) (kDq fa b) = kDq (kCz Fy k (nI a) fa b).1 (kCz Fy k (nI a) fa b).2
  | 0, _, _, _, _ => rfl
  | k + 1, a, fa, b, h => by
    have ih := fun fa b => kC_eq (Fx := Fx) (Fy := Fy) k (a + 1) fa b (fun j h1 h2 => h j (by omega) (by omega))
    rw [kCl, kCz, h a (Nat.le_refl a) (by omega), nI_1]
    by_cases c : fa < Fy (nI a)
    · rw [if_pos (show (kDq fa b).1 < Fy (nI a) from c), if_pos c]
      exact ih (Fy (nI a)) (nI a)
    · rw [if_neg (show ¬ (kDq fa b).1 < Fy (nI a) from c), if_neg c]
      exact ih fa b
theorem kCl_app {Fx : Int32 → Int32} : ∀ (a b c : Nat) (s : kR4), kCl Fx (a + b) (nI c) s = kCl Fx b (nI (c + a)) (kCl Fx a (nI c) s)
  | 0, b, c, s => by rw [Nat.zero_add]; rfl
  | a + 1, b, c, s => by
    rw [show a + 1 + b = (a + b) + 1 by omega, kCl, nI_1, kCl_app a b (c + 1) _, show c + 1 + a = c + (a + 1) by omega]
    conv => rhs; rw [kCl, nI_1]
theorem kCl_id {Fx : Int32 → Int32} : ∀ (k c : Nat) (s : kR4), (∀ j : Nat, c ≤ j → j < c + k → ¬ s.1 < Fx (nI j)) → kCl Fx k (nI c) s = s
  | 0, _, _, _ => rfl
  | k + 1, c, s, h => by
    rw [kCl, if_neg (h c (Nat.le_refl c) (by omega)), nI_1]
    exact kCl_id k (c + 1) s (fun j h1 h2 => h j (by omega) (by omega))
def kcd (h m o : Int32) : Nat := 207 * (h.toNatClampNeg - 1) + 9 * (m.toNatClampNeg - 1) + (o.toNatClampNeg - 1)
def kV (Fx : Int32 → Int32) (h m o : Int32) (s : kR4) : kR4 := kCl Fx (1863 - kcd h m o) (nI (kcd h m o)) s
theorem kcd_n {H M O : Nat} (hH : H ≤ 100) (hM : M ≤ 100) (hO : O ≤ 100) : kcd (nI (H + 1)) (nI (M + 1)) (nI (O + 1)) = 207 * H + 9 * M + O := by
  unfold kcd
  rw [nI_clamp (by omega), nI_clamp (by omega), nI_clamp (by omega), Nat.add_sub_cancel, Nat.add_sub_cancel, Nat.add_sub_cancel]
theorem k_r1 {x : Int32} {n : Nat} (hn : n ≤ 100) (h : 1 ≤ x ∧ x ≤ nI n) : ∃ j : Nat, j + 1 ≤ n ∧ x = nI (j + 1) := by
  have h1 := Int32.le_iff_toInt_le.mp h.1
  rw [show (1 : Int32).toInt = 1 from rfl] at h1
  obtain ⟨a, ha, ea⟩ := k_nat (x := x) (Int32.le_iff_toInt_le.mpr (by rw [show (0 : Int32).toInt = 0 from rfl]; omega))
  rw [ea, nI_toInt ha] at h1
  have h2 := h.2
  rw [ea] at h2
  have h3 := (nI_leI ha (by omega)).mp h2
  exact ⟨a - 1, by omega, by rw [ea, show a - 1 + 1 = a by omega]⟩
section KV16
variable {Fx : Int32 → Int32} {h m o t a b c d a' b' c' d' : Int32} {s : kR4}
theorem kV_note (hh : 1 ≤ h ∧ h ≤ 9) (hm : 1 ≤ m ∧ m ≤ 23) (ho : 1 ≤ o ∧ o ≤ 9) (ht : t = Fx (nI (kcd h m o))) (e0 : a' = if a < t then t else a) (e1 : b' = if a < t then h else b) (e2 : c' = if a < t then m else c) (e3 : d' = if a < t then o else d) : kV Fx h m (o + 1) (a', b', c', d') = kV Fx h m o (a, b, c, d) := by
  obtain ⟨H, hH, rfl⟩ := k_r1 (n := 9) (by decide) hh
  obtain ⟨M, hM, rfl⟩ := k_r1 (n := 23) (by decide) hm
  obtain ⟨O, hO, rfl⟩ := k_r1 (n := 9) (by decide) ho
  obtain ⟨q1, q2, q3⟩ := kdec (H := H) (M := M) (O := O) (by omega) (by omega) (by omega)
  unfold kV
  rw [nI_1, kcd_n (by omega) (by omega) (by omega), kcd_n (by omega) (by omega) (by omega)]
  rw [kcd_n (by omega) (by omega) (by omega)] at ht
  rw [show 1863 - (207 * H + 9 * M + O) = (1863 - (207 * H + 9 * M + (O + 1))) + 1 by omega]
  conv => rhs; rw [kCl]
  rw [← ht, q1, q2, q3, nI_1, show 207 * H + 9 * M + O + 1 = 207 * H + 9 * M + (O + 1) by omega, e0, e1, e2, e3]
  by_cases z : a < t
  · rw [if_pos z, if_pos z, if_pos z, if_pos z, if_pos (show ((a, b, c, d) : kR4).1 < t from z)]
  · rw [if_neg z, if_neg z, if_neg z, if_neg z, if_neg (show ¬ ((a, b, c, d) : kR4).1 < t from z)]
theorem kV_o10 (hm : 1 ≤ m ∧ m ≤ 23) : kV Fx h m 10 s = kV Fx h (m + 1) 1 s := by
  obtain ⟨M, hM, rfl⟩ := k_r1 (n := 23) (by decide) hm
  have e : kcd h (nI (M + 1)) 10 = kcd h (nI (M + 1) + 1) 1 := by
    unfold kcd
    rw [nI_1, nI_clamp (by omega), nI_clamp (by omega), show (10 : Int32).toNatClampNeg = 10 from rfl, show (1 : Int32).toNatClampNeg = 1 from rfl]
    omega
  unfold kV
  rw [e]
theorem kV_m24 (hh : 1 ≤ h ∧ h ≤ 9) : kV Fx h 24 1 s = kV Fx (h + 1) 1 1 s := by
  obtain ⟨H, hH, rfl⟩ := k_r1 (n := 9) (by decide) hh
  have e : kcd (nI (H + 1)) 24 1 = kcd (nI (H + 1) + 1) 1 1 := by
    unfold kcd
    rw [nI_1, nI_clamp (by omega), nI_clamp (by omega), show (24 : Int32).toNatClampNeg = 24 from rfl, show (1 : Int32).toNatClampNeg = 1 from rfl]
    omega
  unfold kV
  rw [e]
theorem kV_end : kV Fx 10 1 1 s = s := by
  unfold kV
  rw [show kcd 10 1 1 = 1863 from by decide +kernel]
  rfl
theorem kV_skip {h' m' o' : Int32} (hle : kcd h m o ≤ kcd h' m' o') (h18 : kcd h' m' o' ≤ 1863) (hs : ∀ j : Nat, kcd h m o ≤ j → j < kcd h' m' o' → ¬ s.1 < Fx (nI j)) : kV Fx h m o s = kV Fx h' m' o' s := by
  unfold kV
  have q := kCl_app (Fx := Fx) (kcd h' m' o' - kcd h m o) (1863 - kcd h' m' o') (kcd h m o) s
  rw [kCl_id (kcd h' m' o' - kcd h m o) (kcd h m o) s (fun j h1 h2 => hs j h1 (by omega)), show kcd h m o + (kcd h' m' o' - kcd h m o) = kcd h' m' o' by omega, show kcd h' m' o' - kcd h m o + (1863 - kcd h' m' o') = 1863 - kcd h m o by omega] at q
  exact q
theorem kV_stop (hs : ∀ j : Nat, ¬ s.1 < Fx (nI j)) : kV Fx h m o s = s := by
  unfold kV
  exact kCl_id _ _ _ (fun j _ _ => hs j)
/-- he who comes to a mile at all is farther than nobody -/
theorem kV_first (h0 : 0 ≤ Fx 0) : kV Fx 1 1 1 (-1, b, c, d) = kV Fx 1 1 1 (-1, 1, 1, 1) := by
  have q : (-1 : Int32) < Fx 0 := Int32.lt_iff_toInt_lt.mpr (by have := Int32.le_iff_toInt_le.mp h0; rw [show (0 : Int32).toInt = 0 from rfl] at this; rw [show (-1 : Int32).toInt = -1 from rfl]; omega)
  have e : ∀ s : kR4, kCl Fx (1862 + 1) 0 s = kCl Fx 1862 (0 + 1) (if s.1 < Fx 0 then (Fx 0, 0 / 207 + 1, ((0 / 9) - (0 / 9) / 23 * 23) + 1, (0 - 0 / 9 * 9) + 1) else s) := fun s => by rw [kCl]
  unfold kV
  rw [show kcd 1 1 1 = 0 from by decide +kernel, show 1863 - 0 = 1862 + 1 from rfl, show (nI 0 : Int32) = 0 from rfl, e, e]
  rw [if_pos (show ((-1, b, c, d) : kR4).1 < Fx 0 from q), if_pos (show ((-1, 1, 1, 1) : kR4).1 < Fx 0 from q)]
end KV16
/-- where he falls, by the row's number -/
def kFx (ov : Int32 → Int32) (ct le ki so be n : Int32) : Int32 → Int32 := fun c => (kGo ov ct le ki so be (kHc c) (kfu n 0) 0 0 0 0).1
def k_ss (ov : Int32 → Int32) (ct le ki so be h m an co : Int32) : Prop := kGo ov ct le ki so be (fun _ => h) (kfu m 0) 0 0 0 0 = (m, an, co, 0)
section KF16
variable {ov : Int32 → Int32} {ct le ki so be n h m o an co e r t : Int32}
theorem kFx_le (hct : 0 ≤ ct) (c : Int32) : ¬ ct < kFx ov ct le ki so be n c := by
  obtain ⟨k, hk, ek⟩ := k_nat hct
  unfold kFx
  obtain ⟨j, hj, ej⟩ := kGo_le (ov := ov) (le := le) (ki := ki) (so := so) (be := be) (hf := kHc c) hk ek (kfu n 0) 0 0 0 0 (by omega)
  rw [show (0 : Int32) = nI 0 from rfl] at ej ⊢
  rw [ej, ek]
  exact nI_nlt hj (by omega)
theorem kFx_0 (hn : 0 ≤ n ∧ n ≤ 24) (c : Int32) : 0 ≤ kFx ov ct le ki so be n c := by
  obtain ⟨a, ha, rfl⟩ := nI_of2 (n := 24) (M := 24) (by decide) (Int32.not_lt.mpr hn.1) hn.2
  unfold kFx
  obtain ⟨j, h1, h2, h3⟩ := kGo_rng (ov := ov) (hf := kHc c) (ct := ct) (le := le) (ki := ki) (so := so) (be := be) (kfu (nI a) 0) 0 0 0 0
  rw [show (0 : Int32) = nI 0 from rfl] at h3 ⊢
  rw [show (0 : Int32) = nI 0 from rfl, kfu_nat (by decide) (by omega)] at h2
  rw [h3]
  exact nI_pos' (by omega)
theorem kHc_at {H M O : Nat} (hH : H ≤ 8) (hM : M ≤ 22) (hO : O ≤ 8) : kHc (nI (207 * H + 9 * M + O)) = fun x9 => if x9 < nI (M + 1) then nI (H + 1) else nI (O + 1) := by
  obtain ⟨q1, q2, q3⟩ := kdec hH hM hO
  unfold kHc
  rw [q1, q2, q3]
theorem k_ss_0 : k_ss ov ct le ki so be h 0 0 0 := by
  unfold k_ss
  rw [kfu_0 (Int32.le_refl 0), kGo]
/-- he flies one mile more, by the same height -/
theorem k_ss_s {an' co' : Int32} (hm : 1 ≤ m ∧ m ≤ 23) (hs : k_ss ov ct le ki so be h (m - 1) an co) (h1 : r = (kGo ov ct le ki so be (fun _ => h) (kfu m (m - 1)) (m - 1) an co e).1) (hr : r = m) (h2 : an' = (kGo ov ct le ki so be (fun _ => h) (kfu m (m - 1)) (m - 1) an co e).2.1) (h3 : co' = (kGo ov ct le ki so be (fun _ => h) (kfu m (m - 1)) (m - 1) an co e).2.2.1) : k_ss ov ct le ki so be h m an' co' := by
  obtain ⟨M, hM, rfl⟩ := k_r1 (n := 23) (by decide) hm
  have em : nI (M + 1) - 1 = nI M := by rw [← nI_1, Int32.add_sub_cancel]
  rw [em] at hs h1 h2 h3
  rw [kfu_nat (by omega) (by omega), show M + 1 - M = 1 by omega] at h1 h2 h3
  obtain ⟨q1, q2, q3⟩ := kGo_e (ov := ov) (ct := ct) (le := le) (ki := ki) (so := so) (be := be) (hf := fun _ => h) 1 (nI M) an co e 0
  rw [q1] at h1
  rw [q2] at h2
  rw [q3] at h3
  unfold k_ss at hs ⊢
  rw [show (0 : Int32) = nI 0 from rfl, kfu_nat (by decide) (by omega), Nat.sub_zero] at hs
  have run := kGo_app (ov := ov) (ct := ct) (le := le) (ki := ki) (so := so) (be := be) (hf := fun _ => h) M 0 0 0 (by rw [show (0 : Int32) = nI 0 from rfl, hs]) 1
  rw [show (0 : Int32) = nI 0 from rfl] at run
  rw [hs] at run
  rw [show (0 : Int32) = nI 0 from rfl, kfu_nat (by decide) (by omega), Nat.sub_zero, run]
  rcases kGo_1 (ov := ov) (ct := ct) (le := le) (ki := ki) (so := so) (be := be) (hf := fun _ => h) (a := M) (x := an) (y := co) (by omega) with ⟨z1, z2⟩ | ⟨z1, _⟩
  · have : kGo ov ct le ki so be (fun _ => h) 1 (nI M) an co 0 = ((kGo ov ct le ki so be (fun _ => h) 1 (nI M) an co 0).1, (kGo ov ct le ki so be (fun _ => h) 1 (nI M) an co 0).2.1, (kGo ov ct le ki so be (fun _ => h) 1 (nI M) an co 0).2.2.1, (kGo ov ct le ki so be (fun _ => h) 1 (nI M) an co 0).2.2.2) := rfl
    show kGo ov ct le ki so be (fun _ => h) 1 (nI M) an co 0 = _
    rw [this, z1, z2, ← h2, ← h3]
    rfl
  · rw [z1, hr] at h1
    exact absurd ((nI_eq (by omega) (by omega)).mp h1) (by omega)
/-- another height from a mile on that he comes to -/
theorem kFx_fly (hh : 1 ≤ h ∧ h ≤ 9) (hm : 1 ≤ m ∧ m ≤ 23) (ho : 1 ≤ o ∧ o ≤ 9) (hn : 0 ≤ n ∧ n ≤ 24) (hmn : m ≤ n) (hs : k_ss ov ct le ki so be h m an co) (ht : t = (kGo ov ct le ki so be (fun _ => o) (kfu n m) m an co e).1) : t = kFx ov ct le ki so be n (nI (kcd h m o)) := by
  obtain ⟨H, hH, rfl⟩ := k_r1 (n := 9) (by decide) hh
  obtain ⟨M, hM, rfl⟩ := k_r1 (n := 23) (by decide) hm
  obtain ⟨O, hO, rfl⟩ := k_r1 (n := 9) (by decide) ho
  obtain ⟨N, hN, rfl⟩ := nI_of2 (n := 24) (M := 24) (by decide) (Int32.not_lt.mpr hn.1) hn.2
  have hMN : M + 1 ≤ N := (nI_leI (by omega) (by omega)).mp hmn
  rw [(kGo_e (ov := ov) (ct := ct) (le := le) (ki := ki) (so := so) (be := be) (hf := fun _ => nI (O + 1)) (kfu (nI N) (nI (M + 1))) (nI (M + 1)) an co e 0).1, kfu_nat (by omega) (by omega)] at ht
  unfold kFx k_ss at *
  rw [kcd_n (by omega) (by omega) (by omega), kHc_at (by omega) (by omega) (by omega), show (0 : Int32) = nI 0 from rfl, kfu_nat (by decide) (by omega), Nat.sub_zero]
  rw [show (0 : Int32) = nI 0 from rfl, kfu_nat (by decide) (by omega), Nat.sub_zero] at hs
  have first : kGo ov ct le ki so be (fun x9 => if x9 < nI (M + 1) then nI (H + 1) else nI (O + 1)) (M + 1) (nI 0) (nI 0) (nI 0) (nI 0) = (nI (M + 1), an, co, nI 0) := by
    rw [kGo_cg2 (hf := fun x9 => if x9 < nI (M + 1) then nI (H + 1) else nI (O + 1)) (hf' := fun _ => nI (H + 1)) (M + 1) 0 _ _ _ (fun j _ h2 => if_pos (nI_lt (by omega) (by omega)))]
    exact hs
  have run := kGo_app (ov := ov) (ct := ct) (le := le) (ki := ki) (so := so) (be := be) (hf := fun x9 => if x9 < nI (M + 1) then nI (H + 1) else nI (O + 1)) (M + 1) (nI 0) (nI 0) (nI 0) (by rw [show (0 : Int32) = nI 0 from rfl, first]) (N - (M + 1))
  rw [show (0 : Int32) = nI 0 from rfl, first, show M + 1 + (N - (M + 1)) = N by omega] at run
  rw [run, ht]
  rw [kGo_cg2 (hf := fun x9 => if x9 < nI (M + 1) then nI (H + 1) else nI (O + 1)) (hf' := fun _ => nI (O + 1)) (N - (M + 1)) (M + 1) _ _ _ (fun j h1 h2 => if_neg (nI_nlt (by omega) (by omega)))]
  rfl
/-- he never comes to that mile: the height from there on changes nothing -/
theorem kFx_fall {m' : Int32} (hh : 1 ≤ h ∧ h ≤ 9) (hm : 1 ≤ m ∧ m ≤ 23) (hm' : m ≤ m' ∧ m' ≤ 23) (ho : 1 ≤ o ∧ o ≤ 9) (hn : 0 ≤ n ∧ n ≤ 24) (hmn : m - 1 ≤ n) (hs : k_ss ov ct le ki so be h (m - 1) an co) (ht : t = if n < m then n else m) (h1 : r = (kGo ov ct le ki so be (fun _ => h) (kfu t (m - 1)) (m - 1) an co e).1) (hr : ¬ r = m) : kFx ov ct le ki so be n (nI (kcd h m' o)) = r := by
  obtain ⟨H, hH, rfl⟩ := k_r1 (n := 9) (by decide) hh
  have hmm : 1 ≤ m' ∧ m' ≤ 23 := ⟨Int32.le_trans hm.1 hm'.1, hm'.2⟩
  obtain ⟨M, hM, rfl⟩ := k_r1 (n := 23) (by decide) hm
  obtain ⟨M', hM', rfl⟩ := k_r1 (n := 23) (by decide) hmm
  obtain ⟨O, hO, rfl⟩ := k_r1 (n := 9) (by decide) ho
  obtain ⟨N, hN, rfl⟩ := nI_of2 (n := 24) (M := 24) (by decide) (Int32.not_lt.mpr hn.1) hn.2
  have hMM : M ≤ M' := by have := (nI_leI (by omega) (by omega)).mp hm'.1; omega
  have em : nI (M + 1) - 1 = nI M := by rw [← nI_1, Int32.add_sub_cancel]
  rw [em] at hs h1 hmn
  have hMN : M ≤ N := (nI_leI (by omega) (by omega)).mp hmn
  rw [(kGo_e (ov := ov) (ct := ct) (le := le) (ki := ki) (so := so) (be := be) (hf := fun _ => nI (H + 1)) (kfu t (nI M)) (nI M) an co e 0).1] at h1
  unfold k_ss at hs
  unfold kFx
  rw [kcd_n (by omega) (by omega) (by omega), kHc_at (by omega) (by omega) (by omega), show (0 : Int32) = nI 0 from rfl, kfu_nat (by decide) (by omega), Nat.sub_zero]
  rw [show (0 : Int32) = nI 0 from rfl, kfu_nat (by decide) (by omega), Nat.sub_zero] at hs
  have first : kGo ov ct le ki so be (fun x9 => if x9 < nI (M' + 1) then nI (H + 1) else nI (O + 1)) M (nI 0) (nI 0) (nI 0) (nI 0) = (nI M, an, co, nI 0) := by
    rw [kGo_cg2 (hf := fun x9 => if x9 < nI (M' + 1) then nI (H + 1) else nI (O + 1)) (hf' := fun _ => nI (H + 1)) M 0 _ _ _ (fun j _ h2 => if_pos (nI_lt (by omega) (by omega)))]
    exact hs
  have run := kGo_app (ov := ov) (ct := ct) (le := le) (ki := ki) (so := so) (be := be) (hf := fun x9 => if x9 < nI (M' + 1) then nI (H + 1) else nI (O + 1)) M (nI 0) (nI 0) (nI 0) (by rw [show (0 : Int32) = nI 0 from rfl, first]) (N - M)
  rw [show (0 : Int32) = nI 0 from rfl, first, show M + (N - M) = N by omega] at run
  rw [run]
  by_cases q : nI N < nI (M + 1)
  · have hNM : N = M := by have := (nI_ltI (by omega) (by omega)).mp q; omega
    rw [if_pos q] at ht
    rw [ht, hNM, kfu_nat (by omega) (by omega), Nat.sub_self, kGo] at h1
    rw [h1, hNM, Nat.sub_self, kGo]
  · have hNM : M + 1 ≤ N := by
      rcases Nat.lt_or_ge N (M + 1) with z | z
      · exact absurd (nI_lt z (by omega)) q
      · exact z
    rw [if_neg q] at ht
    rw [ht, kfu_nat (by omega) (by omega), show M + 1 - M = 1 by omega] at h1
    rcases kGo_1 (ov := ov) (ct := ct) (le := le) (ki := ki) (so := so) (be := be) (hf := fun _ => nI (H + 1)) (a := M) (x := an) (y := co) (by omega) with ⟨z1, _⟩ | ⟨z1, z2⟩
    · exact absurd (h1.trans z1) hr
    · rw [h1, z1, show N - M = (N - M - 1) + 1 by omega]
      exact z2 (N - M - 1) _ (if_pos (nI_lt (by omega) (by omega)))
/-- so the rest of that height is done with -/
theorem kV_fall {a b c d a' b' c' d' : Int32} (hh : 1 ≤ h ∧ h ≤ 9) (hm : 1 ≤ m ∧ m ≤ 23) (hn : 0 ≤ n ∧ n ≤ 24) (hmn : m - 1 ≤ n) (hs : k_ss ov ct le ki so be h (m - 1) an co) (ht : t = if n < m then n else m) (h1 : r = (kGo ov ct le ki so be (fun _ => h) (kfu t (m - 1)) (m - 1) an co e).1) (hr : ¬ r = m) (e0 : a' = if a < r then r else a) (e1 : b' = if a < r then h else b) (e2 : c' = if a < r then m else c) (e3 : d' = if a < r then 1 else d) : kV (kFx ov ct le ki so be n) (h + 1) 1 1 (a', b', c', d') = kV (kFx ov ct le ki so be n) h m 1 (a, b, c, d) := by
  have o1 : (1 : Int32) ≤ 1 ∧ (1 : Int32) ≤ 9 := by decide
  have f := fun (m' o : Int32) (hm' : m ≤ m' ∧ m' ≤ 23) (ho : 1 ≤ o ∧ o ≤ 9) => kFx_fall (m' := m') (o := o) hh hm hm' ho hn hmn hs ht h1 hr
  have nt := kV_note (Fx := kFx ov ct le ki so be n) hh hm o1 (f m 1 ⟨Int32.le_refl m, hm.2⟩ o1).symm e0 e1 e2 e3
  rw [← nt]
  have ge : ¬ a' < r := by
    rw [e0]
    by_cases z : a < r
    · rw [if_pos z]; exact fun q => Int32.lt_irrefl q
    · rw [if_neg z]; exact z
  obtain ⟨H, hH, rfl⟩ := k_r1 (n := 9) (by decide) hh
  obtain ⟨M, hM, rfl⟩ := k_r1 (n := 23) (by decide) hm
  have k1 : kcd (nI (H + 1)) (nI (M + 1)) (1 + 1) = 207 * H + 9 * M + 1 := kcd_n (O := 1) (by omega) (by omega) (by omega)
  have k2 : kcd (nI (H + 1) + 1) 1 1 = 207 * (H + 1) + 9 * 0 + 0 := by rw [nI_1]; exact kcd_n (H := H + 1) (M := 0) (O := 0) (by omega) (by omega) (by omega)
  refine (kV_skip (by rw [k1, k2]; omega) (by rw [k2]; omega) (fun j j1 j2 => ?_)).symm
  rw [k1] at j1
  rw [k2] at j2
  have q := f (nI ((j - 207 * H) / 9 + 1)) (nI ((j - 207 * H) % 9 + 1)) ⟨nI_le (by omega) (by omega), by rw [show (23 : Int32) = nI 23 from rfl]; exact nI_le (by omega) (by decide)⟩ ⟨by rw [show (1 : Int32) = nI 1 from rfl]; exact nI_le (by omega) (by omega), by rw [show (9 : Int32) = nI 9 from rfl]; exact nI_le (by omega) (by decide)⟩
  rw [kcd_n (by omega) (by omega) (by omega), show 207 * H + 9 * ((j - 207 * H) / 9) + (j - 207 * H) % 9 = j by omega] at q
  rw [q]
  exact ge
end KF16
/-- within one height: still flying, or done with it -/
def k_pn (fl : Int32) (ov : Int32 → Int32) (ct le ki so be n h m an co : Int32) (s R : kR4) : Prop := (fl = 1 ∧ kV (kFx ov ct le ki so be n) h m 1 s = R ∧ k_ss ov ct le ki so be h (m - 1) an co ∧ m - 1 ≤ n) ∨ (fl = 0 ∧ kV (kFx ov ct le ki so be n) (h + 1) 1 1 s = R)
section KP16
variable {ov : Int32 → Int32} {fl ct le ki so be n h m an co : Int32} {s R : kR4}
theorem k_pn_0 (hn : 0 ≤ n) (h1 : kV (kFx ov ct le ki so be n) h 1 1 s = R) : k_pn 1 ov ct le ki so be n h 1 0 0 s R := Or.inl ⟨rfl, h1, k_ss_0, hn⟩
theorem k_pn_l (g : k_pn fl ov ct le ki so be n h m an co s R) (c : ¬ fl = 0) : kV (kFx ov ct le ki so be n) h m 1 s = R ∧ k_ss ov ct le ki so be h (m - 1) an co ∧ m - 1 ≤ n := by
  rcases g with ⟨_, g⟩ | ⟨z, _⟩
  · exact g
  · exact absurd z c
/-- the height is done with: behind its last mile, or he doesn't fly on, or the geese carry no farther -/
theorem k_pn_e (hh : 1 ≤ h ∧ h ≤ 9) (hm : 1 ≤ m ∧ m ≤ 24) (hct : 0 ≤ ct) (g : k_pn fl ov ct le ki so be n h m an co s R) (x : 24 ≤ m ∨ fl = 0 ∨ ¬ s.1 < ct) : kV (kFx ov ct le ki so be n) (h + 1) 1 1 s = R := by
  rcases g with ⟨f1, g1, _⟩ | ⟨_, g⟩
  · rcases x with x | x | x
    · have e : m = 24 := Int32.toInt_inj.mp (by have := Int32.le_iff_toInt_le.mp hm.2; have := Int32.le_iff_toInt_le.mp x; omega)
      rw [e, kV_m24 hh] at g1
      exact g1
    · exact absurd (f1.symm.trans x) (by decide)
    · have st : ∀ j : Nat, ¬ s.1 < kFx ov ct le ki so be n (nI j) := fun j z => x (Int32.lt_of_lt_of_le z (Int32.not_lt.mp (kFx_le hct (nI j))))
      rw [kV_stop st] at g1 ⊢
      exact g1
  · exact g
end KP16
def k_q4 (a b c d : Int32) (R : kR4) : Prop := (a, b, c, d) = R
def kOH (f4 f7 f2 : Nat → Int32) (n4 n7 n2 le p l r so : Int32) (hf : Int32 → Int32) : kR4 := kO ((0 ≤ p ∧ p < n7) ∧ (0 ≤ l ∧ l < n2) ∧ 0 ≤ r ∧ r < n2) (kAt 24 f4) n4 (kAt 39 f7 ((5 * p) + 3)) ((kAt 23 f2 ((3 * l) + 0), kAt 23 f2 ((3 * l) + 1), kAt 23 f2 ((3 * l) + 0), 0), (kAt 23 f2 ((3 * r) + 0), kAt 23 f2 ((3 * r) + 1), kAt 23 f2 ((3 * r) + 0), 0)) le (kAt 39 f7 ((5 * p) + 0)) so (5 * (kAt 39 f7 ((5 * p) + 2))) hf
theorem kFx_trip {C : Prop} [Decidable C] {ov : Int32 → Int32} {n w le ki so be KI SO BE tgo tca : Int32} {P : kGT × kGT} (hn : 0 ≤ n) (h1 : tgo = if C then 1 else 0) (h2 : tca = if C then kCt ov w (kfu n 0) 0 P else 0) (h3 : C → ki = KI) (h4 : C → so = SO) (h5 : C → be = BE) : kFx ov tca le ki so be n = fun x1 => (kO C ov n w P le KI SO BE (kHc x1)).1 := funext fun c => by
  unfold kFx
  rw [(kGo_e (ov := ov) (ct := tca) (le := le) (ki := ki) (so := so) (be := be) (hf := kHc c) (kfu n 0) 0 0 0 0 (if tgo = 0 then 1 else 0)).1, kO_trip hn h1 h2 h3 h4 h5]
theorem kct_0 {C : Prop} [Decidable C] {ov : Int32 → Int32} {n w tca : Int32} {P : kGT × kGT} (hn : 0 ≤ n ∧ n ≤ 24) (h2 : tca = if C then kCt ov w (kfu n 0) 0 P else 0) : 0 ≤ tca := by
  rw [h2]
  by_cases c : C
  · rw [if_pos c]
    obtain ⟨a, ha, rfl⟩ := nI_of2 (n := 24) (M := 24) (by decide) (Int32.not_lt.mpr hn.1) hn.2
    rw [show (0 : Int32) = nI 0 from rfl, kfu_nat (by decide) (by omega)]
    obtain ⟨j, h1, h2, h3⟩ := kCt_ge (ov := ov) (w := w) (a - 0) 0 P (by omega)
    rw [h3]
    exact nI_pos' (by omega)
  · rw [if_neg c]
    exact Int32.le_refl 0
def k_cz (Fx : Int32 → Int32) (c fa b : Int32) (R : Int32 × Int32) : Prop := kCz Fx (kfu 1863 c) c fa b = R
section KCZ
variable {Fx : Int32 → Int32} {c fa b t : Int32} {R : Int32 × Int32}
theorem kCz_e (h : k_cz Fx c fa b R) (hl : 1863 ≤ c) : fa = R.1 ∧ b = R.2 := by
  unfold k_cz at h
  rw [kfu_0 hl, kCz] at h
  rw [← h]
  exact ⟨rfl, rfl⟩
theorem kCz_y (h : k_cz Fx c fa b R) (hl : ¬ 1863 ≤ c) (ht : t = Fx c) (d : fa < t) : k_cz Fx (c + 1) t c R := by
  unfold k_cz at h ⊢
  rw [kfu_s hl, kCz, ← ht, if_pos d] at h
  exact h
theorem kCz_n (h : k_cz Fx c fa b R) (hl : ¬ 1863 ≤ c) (ht : t = Fx c) (d : ¬ fa < t) : k_cz Fx (c + 1) fa b R := by
  unfold k_cz at h ⊢
  rw [kfu_s hl, kCz, ← ht, if_neg d] at h
  exact h
end KCZ
theorem k_h16 {c : Int32} (h : 0 ≤ c ∧ c ≤ 1862) : (0 ≤ (c / 207) + 1 ∧ (c / 207) + 1 ≤ 100) ∧ (0 ≤ (c - c / 9 * 9) + 1 ∧ (c - c / 9 * 9) + 1 ≤ 100) := by
  obtain ⟨a, ha, rfl⟩ := nI_of2 (n := 1862) (M := 1862) (by decide) (Int32.not_lt.mpr h.1) h.2
  have q := pk_rem (a := a) (d := 9) (by omega) (by decide) (by decide)
  rw [show (207 : Int32) = nI 207 from rfl, pk_div (by omega) (by decide) (by decide), nI_1, show (9 : Int32) = nI 9 from rfl, q, nI_1, show (100 : Int32) = nI 100 from rfl]
  exact ⟨⟨nI_pos' (by omega), nI_le (by omega) (by decide)⟩, nI_pos' (by omega), nI_le (by omega) (by decide)⟩

def lwGo (p₀ : Program) (l : Launch) (e₀ : Env) (s₀ : State) (m₀ : MethodId) (below : List Frame) (meth : Method) (c₀ : Code) (dC : Nat → ClassId) (dI : Nat → Nat → Nat) (cI cJ cQ : ClassId) (b : Nat) (hx aLa vLa aPa vPa aGe vGe aFl vFl aTr gL gR aBe aLu vLu aLo vSf vSm vCo vSh s0 i0 s1 i1 s2 i2 s3 i3 hm vFo vSi vIt vMo vBy vTy vMi vPs vGs vFt vTo vPr vSt vFn vSg vAl : Nat) (k : Nat) : Prop := ∀ (sn : Int32) (le : Int32) (la : Int32) (qTy : Nat → Int32) (a4 : Int32) (n4 : Int32) (f4 : Nat → Int32) (a7 : Int32) (n7 : Int32) (f7 : Nat → Int32) (a2 : Int32) (n2 : Int32) (f2 : Nat → Int32) (fn : Int32) (qFt : Nat → Int32) (lf : Nat) (rt : Nat) (tgo : Int32) (tca : Int32) (tki : Int32) (tso : Int32) (tbe : Int32) (twe : Int32) (tle : Int32) (tan : Int32) (tco : Int32) (ten : Int32) (u0 : Int32) (u1 : Int32) (u2 : Int32) (u3 : Int32) (v0 : Int32) (v1 : Int32) (v2 : Int32) (v3 : Int32) (k0 : Int32) (k1 : Int32) (k2 : Int32) (k3 : Int32) (ab : Int64) (be : Int64) (fl : Nat → Int64) (sd : Int32) (sf : Nat → Int32) (sm : Nat → Int32) (oo : Nat → Int32) (sLo : Nat → Int32) (sFo : Nat → Int32) (qSi : Nat → Int32) (gq0 : Nat → Int32) (gq1 : Nat → Int32) (gq2 : Nat → Int32) (gq3 : Nat → Int32) (mi : Int32) (pn : Int32) (gn : Int32) (kn : Int32) (fe : Int32) (en : Int32) (ca : Int32) (an : Int32) (co : Int32) (dr : Int32) (qFo : Nat → Int32) (qIt : Nat → Int32) (qMv : Nat → Int32) (qBy : Nat → Int32) (qMi : Nat → Int32) (qPs : Nat → Int32) (qGs : Nat → Int32) (qTo : Nat → Int32) (qPr : Nat → Int32) (qSt : Nat → Int32) (qFn : Nat → Int32) (qSg : Nat → Int32) (qAl : Nat → Int32), (0 ≤ n4 ∧ n4 ≤ 24) → (k_lf qFo sLo sFo) → (a4 = kFt (qTy 0) (qTy 0) f4) → (n4 = kNm (qTy 0) (qTy 0) f4) → (a7 = kFt (kTh7 (qTy 1)) (qTy 1) f7) → (n7 = kNm (kTh7 (qTy 1)) (qTy 1) f7) → (a2 = kFt (kTh2 (qTy 2)) (qTy 2) f2) → (n2 = kNm (kTh2 (qTy 2)) (qTy 2) f2) → (k_ml (qTy 0) f4 (kv4 qBy)) → (k_ml (qTy 1) f7 (kv7 qBy)) → (k_ml (qTy 2) f2 (kv2 qBy)) → (k_it 0 qSi gq0 qIt) → (k_it 1 qSi gq1 qIt) → (k_it 2 qSi gq2 qIt) → (k_it 3 qSi gq3 qIt) → (k_bd 32 0 9 qFt) → (ca = 16777215) → (0 ≤ (qTy 0).toInt ∧ (qTy 0).toInt ≤ 24) → (0 ≤ (qTy 1).toInt ∧ (qTy 1).toInt ≤ 39) → (0 ≤ (qTy 2).toInt ∧ (qTy 2).toInt ≤ 23) → (k_bd 4 0 60 qSi) → (0 ≤ fn ∧ fn ≤ 8) → (0 ≤ sn ∧ sn ≤ 8) → (0 ≤ mi ∧ mi ≤ 24) → (0 ≤ pn ∧ pn ≤ 8) → (0 ≤ gn ∧ gn ≤ 8) → (k_bd 2 0 7 qPr) → (0 ≤ fe ∧ fe ≤ 24) → (en = 0 ∨ kn = 0 ∨ fe ≤ 23) → (0 ≤ kn ∧ kn ≤ 24) → ∀ (H : Heap) (locs : List Loc) (ls : Array Slot), va_P (dC, dI) vwCl [(kX11 hx aLa aPa aGe aFl aTr aBe aLu aLo vSf vSm vCo vSh sn le la), (kX4 aLa vLa (qTy 0) a4 n4), (kAI vLa cI 24 f4), (kX7 aPa vPa (qTy 1) a7 n7), (kAI vPa cI 39 f7), (kX2 aGe vGe (qTy 2) a2 n2), (kAI vGe cI 23 f2), (kX1 aFl vFl fn), (kAI vFl cI 32 qFt), (kX10 aTr aLa aPa aGe gL gR lf rt tgo tca tki tso tbe twe tle tan tco ten), (kX3 gL u0 u1 u2 u3), (kX3 gR v0 v1 v2 v3), (kX0 aBe k0 k1 k2 k3), (kX5 aLu vLu ab be), (kAJ vLu cJ 46 fl), (kX6 aLo sd), (kAI vSf cI 8 sf), (kAI vSm cI 8 sm), (kAI vCo cI 25 oo), (kAQ vSh cQ 4 (fSh s0 s1 s2 s3)), (kX8 s0 i0 (sLo 0) (sFo 0) (qSi 0)), (kAI i0 cI 60 gq0), (kX8 s1 i1 (sLo 1) (sFo 1) (qSi 1)), (kAI i1 cI 60 gq1), (kX8 s2 i2 (sLo 2) (sFo 2) (qSi 2)), (kAI i2 cI 60 gq2), (kX8 s3 i3 (sLo 3) (sFo 3) (qSi 3)), (kAI i3 cI 60 gq3), (kX12 hm vFo vSi vIt vMo la vBy vTy mi vMi pn vPs gn vGs fn vFt le vTo kn fe en ca an co vPr vSt vFn sn vSg vAl dr), (kAI vFo cI 4 qFo), (kAI vSi cI 4 qSi), (kAI vIt cI 240 qIt), (kAI vMo cI 60 qMv), (kAI vBy cI 120 qBy), (kAI vTy cI 3 qTy), (kAI vMi cI 24 qMi), (kAI vPs cI 32 qPs), (kAI vGs cI 16 qGs), (kAI vFt cI 32 qFt), (kAI vTo cI 96 qTo), (kAI vPr cI 2 qPr), (kAI vSt cI 2 qSt), (kAI vFn cI 2 qFn), (kAI vSg cI 16 qSg), (kAI vAl cI 25 qAl)] H → va_D (fun q : Nat => s₀.heap.size ≤ q) [(kX11 hx aLa aPa aGe aFl aTr aBe aLu aLo vSf vSm vCo vSh sn le la), (kX4 aLa vLa (qTy 0) a4 n4), (kAI vLa cI 24 f4), (kX7 aPa vPa (qTy 1) a7 n7), (kAI vPa cI 39 f7), (kX2 aGe vGe (qTy 2) a2 n2), (kAI vGe cI 23 f2), (kX1 aFl vFl fn), (kAI vFl cI 32 qFt), (kX10 aTr aLa aPa aGe gL gR lf rt tgo tca tki tso tbe twe tle tan tco ten), (kX3 gL u0 u1 u2 u3), (kX3 gR v0 v1 v2 v3), (kX0 aBe k0 k1 k2 k3), (kX5 aLu vLu ab be), (kAJ vLu cJ 46 fl), (kX6 aLo sd), (kAI vSf cI 8 sf), (kAI vSm cI 8 sm), (kAI vCo cI 25 oo), (kAQ vSh cQ 4 (fSh s0 s1 s2 s3)), (kX8 s0 i0 (sLo 0) (sFo 0) (qSi 0)), (kAI i0 cI 60 gq0), (kX8 s1 i1 (sLo 1) (sFo 1) (qSi 1)), (kAI i1 cI 60 gq1), (kX8 s2 i2 (sLo 2) (sFo 2) (qSi 2)), (kAI i2 cI 60 gq2), (kX8 s3 i3 (sLo 3) (sFo 3) (qSi 3)), (kAI i3 cI 60 gq3), (kX12 hm vFo vSi vIt vMo la vBy vTy mi vMi pn vPs gn vGs fn vFt le vTo kn fe en ca an co vPr vSt vFn sn vSg vAl dr), (kAI vFo cI 4 qFo), (kAI vSi cI 4 qSi), (kAI vIt cI 240 qIt), (kAI vMo cI 60 qMv), (kAI vBy cI 120 qBy), (kAI vTy cI 3 qTy), (kAI vMi cI 24 qMi), (kAI vPs cI 32 qPs), (kAI vGs cI 16 qGs), (kAI vFt cI 32 qFt), (kAI vTo cI 96 qTo), (kAI vPr cI 2 qPr), (kAI vSt cI 2 qSt), (kAI vFn cI 2 qFn), (kAI vSg cI 16 qSg), (kAI vAl cI 25 qAl)] → va_S (fun q : Nat => s₀.heap.size ≤ q) s₀.heap H locs → lv_has ls 4 [(3, .int (nI k)), (2, .ref hm), (1, .ref hx), (0, .ref b)] → W p₀ l e₀ room_1 s₀ m₀ #[Value.ref b] below meth c₀ H locs 45 1235 (lw_Z below #[Value.ref b] s₀) (F0 m₀ 18 ls [])
theorem law_end {p₀ : Program} {l : Launch} {e₀ : Env} {s₀ : State} {m₀ : MethodId} {below : List Frame} {meth : Method} {c₀ : Code} {b L : Nat} {sc : Nat → Int32} (C0 : lw_At p₀ s₀ m₀ meth c₀ b L sc) {H : Heap} {locs : List Loc} (hS : va_S (fun q : Nat => s₀.heap.size ≤ q) s₀.heap H locs) (ls : Array Slot) {k n : Nat} (hk : k ≤ 600000 := by decide) (hn : n ≤ 7302249 := by decide) : W p₀ l e₀ room_1 s₀ m₀ #[Value.ref b] below meth c₀ H locs k n (lw_Z below #[Value.ref b] s₀) (F0 m₀ 1178 ls []) := by
  obtain ⟨hx₀, hb, hr, hml, hown, hts, hX, hbl, hlocks, hgv⟩ := id C0
  refine lv_iconst (v := 1) hx₀ hb dL_law_1178 (by decide +kernel) ?_
  refine va_forget (fun q hq => hS.2.2 q hq) ?_
  refine W.widen (k := 600000) (n := 7302249) hk hn ?_
  exact lw_ret hx₀ hb hr hlocks dL_law_1179
