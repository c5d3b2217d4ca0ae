-- ===== end of PART A; then your names; then what follows =====
/-! THE CLAIM OUT OF ONE WALK OF THE LAW'S BODY. Your part is whole_start (and what it stands on); all else here is the same for every law, but numbers. -/
def R_law : String := "BittenStickLaw"
def lw_P (b : Addr) (xs : List Int32) (args : Array Value) (s : State) : Prop := args = #[.ref b] ∧ s.IntsAt b xs ∧ xs.length ≤ 384 ∧ (Jvm.Cond.and given_1 narrow_1).before args s = true
def lw_Q (_ : Array Value) (s : State) (o : Outcome) (t : State) : Prop := o = .returned (some (.int 1)) ∧ Framed s o t [] 600000 7302249
def lw_Z (below : List Frame) (a : Array Value) (s : State) : State → Prop := fun t => ∃ o, t.status = .running ∧ Ended t below o ∧ lw_Q a s o t
/-- the law's own end, with 1 on the stack, nothing written that was there before, its room as the claim has it -/
theorem lw_ret {p : Program} {l : Launch} {e : Env} {s : State} {m : MethodId} {below : List Frame} {meth : Method} {c : Code} {b : Nat} (hx : p.tables.exec = Jvm.exec) (hb : c.code = code) (hr : meth.sig.returnType = ret) (hlocks : meth.locks = false) {pc : Nat} {H : Heap} {ls : Array Slot} (hdg : decode code pc = .ok (.ireturn, 1)) : W p l e room_1 s m #[Value.ref b] below meth c H [] 600000 7302249 (lw_Z below #[Value.ref b] s) (F0 m pc ls [.int 1]) := by
  intro T hT X
  obtain ⟨fs, hret, hrun, hended, hW, hframe⟩ := X.leave (v := some (.int 1)) (hlocks := hlocks) (fun h => by rw [hr] at h; cases h)
  have hmeth' : T.vm.method? m = some meth := X.method'
  refine ⟨T.setFrames fs, ?_, .returned (some (.int 1)), hrun, hended, rfl, ⟨_, rfl⟩, hW, hframe⟩
  jvm_step X.here [X.here.top, hx, hb, hdg, hmeth', hr, ret, narrow_b1]
  (try refine ⟨rfl, ?_⟩); (try refine ⟨rfl, ?_⟩)
  first | (intro acts; rw [hret _ acts rfl rfl rfl]) | rw [hret _ _ rfl rfl rfl]
  exact Steps.refl _
/-- what holds at the law's entry: the machine, the code, the tables' words (any of lw_tbl by 'hts w (by decide +kernel)'), the script of L ints xs at the cell b, what the Statement gives of the start (any of its parts by flat_of_before) -/
def lw_At (p : Program) (s : State) (m : MethodId) (meth : Method) (c : Code) (b L : Nat) (xs : Nat → Int32) : Prop :=
  p.tables.exec = Jvm.exec ∧ c.code = code ∧ meth.sig.returnType = ret ∧ c.maxLocals = 4 ∧ s.vm.findClass R_law = some m.cls ∧ (∀ w ∈ lw_tbl, w.before #[Value.ref b] s = true) ∧ va_X b L xs s s.heap ∧ b < s.heap.size ∧ meth.locks = false ∧ (Jvm.Cond.and given_1 narrow_1).before #[Value.ref b] s = true

theorem k_sx {k L j : Nat} (hk : k + 6 ≤ L) (hL : L ≤ 384) (hj : j < 6) : vp_in (nI k + nI j) L := by
  rw [nI_add]
  exact vp_in_nI (by omega) (by omega)
theorem k_s0 {k L : Nat} (hk : k + 6 ≤ L) (hL : L ≤ 384) : vp_in (nI k) L := vp_in_nI (by omega) (by omega)
theorem k_hd {k L : Nat} (hL : L ≤ 384) (hk : k ≤ 400) (h : ¬ nI L - nI 6 < nI k) : k + 6 ≤ L := by
  have h1 : ¬ (nI L - nI 6).toInt < (nI k).toInt := fun q => h (Int32.lt_iff_toInt_lt.mpr q)
  rw [pk_sub_toInt (by omega) (by omega), nI_toInt (by omega)] at h1
  omega
theorem k_hx {k L : Nat} (hL : L ≤ 384) (hk : k ≤ 400) (h : k + 6 ≤ L) : ¬ nI L - nI 6 < nI k := by
  intro q
  have h1 := Int32.lt_iff_toInt_lt.mp q
  rw [pk_sub_toInt (by omega) (by omega), nI_toInt (by omega)] at h1
  omega

/-- the sheets of class and reference: lost, or of one form -/
def k_lf (qFo sLo sFo : Nat → Int32) : Prop := ∀ k, k < 4 → (qFo k < 0 ∧ sLo k = 1) ∨ (¬ qFo k < 0 ∧ sLo k = 0 ∧ sFo k = qFo k)
theorem k_c4 {s : Int32} (h : 0 ≤ s ∧ s ≤ 3) : s.toNatClampNeg < 4 := by
  have h0 : ¬ s < 0 := Int32.not_lt.mpr h.1
  obtain ⟨j, hj, rfl⟩ := nI_of2 (n := 3) (M := 3) (by decide) h0 h.2
  rw [nI_clamp (by omega)]
  omega
theorem k_lf_at {qFo sLo sFo : Nat → Int32} (h : k_lf qFo sLo sFo) {s : Int32} (hs : 0 ≤ s ∧ s ≤ 3) : (sLo s.toNatClampNeg = 0 ↔ ¬ qFo s.toNatClampNeg < 0) ∧ (sLo s.toNatClampNeg = 0 → sFo s.toNatClampNeg = qFo s.toNatClampNeg) := by
  rcases h _ (k_c4 hs) with ⟨h1, h2⟩ | ⟨h1, h2, h3⟩
  · refine ⟨⟨fun q => absurd (h2.symm.trans q) (by decide), fun q => absurd h1 q⟩, fun q => absurd (h2.symm.trans q) (by decide)⟩
  · exact ⟨⟨fun _ => h1, fun _ => h2⟩, fun _ => h3⟩
theorem k_lf_sheet {qFo sLo sFo : Nat → Int32} (h : k_lf qFo sLo sFo) {ss fm nn : Int32} : k_lf (if 0 ≤ ss ∧ ss ≤ 3 ∧ 0 ≤ fm ∧ fm ≤ 2 ∧ nn ≤ 60 ∧ ¬ nn < 0 then upd qFo ss.toNatClampNeg fm else qFo) (if 0 ≤ ss ∧ ss ≤ 3 ∧ 0 ≤ fm ∧ fm ≤ 2 ∧ nn ≤ 60 ∧ ¬ nn < 0 then upd sLo ss.toNatClampNeg 0 else sLo) (if 0 ≤ ss ∧ ss ≤ 3 ∧ 0 ≤ fm ∧ fm ≤ 2 ∧ nn ≤ 60 ∧ ¬ nn < 0 then upd sFo ss.toNatClampNeg fm else sFo) := by
  by_cases c : 0 ≤ ss ∧ ss ≤ 3 ∧ 0 ≤ fm ∧ fm ≤ 2 ∧ nn ≤ 60 ∧ ¬ nn < 0
  · rw [if_pos c, if_pos c, if_pos c]
    intro k hk
    by_cases e : k = ss.toNatClampNeg
    · subst e
      rw [pk_us, pk_us, pk_us]
      exact Or.inr ⟨Int32.not_lt.mpr c.2.2.1, rfl, rfl⟩
    · rw [pk_un e, pk_un e, pk_un e]
      exact h k hk
  · rw [if_neg c, if_neg c, if_neg c]
    exact h
theorem k_lf_lose {qFo sLo sFo : Nat → Int32} (h : k_lf qFo sLo sFo) {ss : Int32} : k_lf (if 0 ≤ ss ∧ ss ≤ 3 ∧ ¬ qFo ss.toNatClampNeg < 0 then upd qFo ss.toNatClampNeg (-1) else qFo) (if 0 ≤ ss ∧ ss ≤ 3 ∧ sLo ss.toNatClampNeg = 0 then upd sLo ss.toNatClampNeg 1 else sLo) sFo := by
  by_cases c : 0 ≤ ss ∧ ss ≤ 3 ∧ sLo ss.toNatClampNeg = 0
  · have a := k_lf_at h ⟨c.1, c.2.1⟩
    rw [if_pos c, if_pos ⟨c.1, c.2.1, a.1.mp c.2.2⟩]
    intro k hk
    by_cases e : k = ss.toNatClampNeg
    · subst e
      rw [pk_us, pk_us]
      exact Or.inl ⟨by decide, rfl⟩
    · rw [pk_un e, pk_un e]
      exact h k hk
  · have c2 : ¬ (0 ≤ ss ∧ ss ≤ 3 ∧ ¬ qFo ss.toNatClampNeg < 0) := fun q => c ⟨q.1, q.2.1, (k_lf_at h ⟨q.1, q.2.1⟩).1.mpr q.2.2⟩
    rw [if_neg c, if_neg c2]
    exact h
theorem k_ifc {α : Type} {P Q : Prop} [Decidable P] [Decidable Q] {a b a2 b2 : α} (h : P ↔ Q) (h1 : P → a = a2) (h2 : ¬ P → b = b2) : (if P then a else b) = if Q then a2 else b2 := by
  by_cases c : P
  · rw [if_pos c, if_pos (h.mp c)]; exact h1 c
  · rw [if_neg c, if_neg (fun q => c (h.mpr q))]; exact h2 c
theorem e_lose {qFo sLo sFo qSi : Nat → Int32} (h : k_lf qFo sLo sFo) {ss : Int32} : (if 0 ≤ ss ∧ ss ≤ 3 then (if sLo ss.toNatClampNeg = 0 then qSi ss.toNatClampNeg else -11) else -2) = (if 0 ≤ ss ∧ ss ≤ 3 then (if qFo ss.toNatClampNeg < 0 then -11 else qSi ss.toNatClampNeg) else -2) := by
  refine k_ifc Iff.rfl (fun c => ?_) (fun _ => rfl)
  have a := (k_lf_at h c).1
  by_cases d : qFo ss.toNatClampNeg < 0
  · rw [if_pos d, if_neg (fun q => a.mp q d)]
  · rw [if_neg d, if_pos (a.mpr d)]
theorem e_lay {qFo sLo sFo qSi : Nat → Int32} (h : k_lf qFo sLo sFo) {ss fm i1 : Int32} : (if 0 ≤ ss ∧ ss ≤ 3 ∧ 0 ≤ fm ∧ fm ≤ 2 then (if sLo ss.toNatClampNeg = 0 ∧ sFo ss.toNatClampNeg = fm ∧ 0 ≤ i1 ∧ i1 < qSi ss.toNatClampNeg then (1 : Int32) else if sLo ss.toNatClampNeg = 0 ∧ sFo ss.toNatClampNeg = fm then -12 else if sLo ss.toNatClampNeg = 0 then -13 else -11) else -2) = (if 0 ≤ ss ∧ ss ≤ 3 ∧ 0 ≤ fm ∧ fm ≤ 2 then (if ¬ qFo ss.toNatClampNeg < 0 ∧ qFo ss.toNatClampNeg = fm ∧ 0 ≤ i1 ∧ i1 < qSi ss.toNatClampNeg then 1 else if ¬ qFo ss.toNatClampNeg < 0 ∧ qFo ss.toNatClampNeg = fm then -12 else if ¬ qFo ss.toNatClampNeg < 0 then -13 else -11) else -2) := by
  refine k_ifc Iff.rfl (fun c => ?_) (fun _ => rfl)
  obtain ⟨a, b⟩ := k_lf_at h ⟨c.1, c.2.1⟩
  refine k_ifc ⟨fun q => ⟨a.mp q.1, (b q.1).symm.trans q.2.1, q.2.2⟩, fun q => ⟨a.mpr q.1, (b (a.mpr q.1)).trans q.2.1, q.2.2⟩⟩ (fun _ => rfl) (fun _ => ?_)
  refine k_ifc ⟨fun q => ⟨a.mp q.1, (b q.1).symm.trans q.2⟩, fun q => ⟨a.mpr q.1, (b (a.mpr q.1)).trans q.2⟩⟩ (fun _ => rfl) (fun _ => ?_)
  exact k_ifc a (fun _ => rfl) (fun _ => rfl)
theorem e_copy {qFo sLo sFo qSi : Nat → Int32} (h : k_lf qFo sLo sFo) {ss s5 ix jx nn : Int32} : (if 0 ≤ ss ∧ ss ≤ 3 ∧ 0 ≤ s5 ∧ s5 ≤ 3 then (if sLo ss.toNatClampNeg = 0 ∧ sLo s5.toNatClampNeg = 0 then (if sFo ss.toNatClampNeg = sFo s5.toNatClampNeg then (if 0 ≤ ix ∧ 0 ≤ jx ∧ 0 ≤ nn ∧ ix.toInt + nn.toInt ≤ (qSi ss.toNatClampNeg).toInt ∧ jx.toInt + nn.toInt ≤ (qSi s5.toNatClampNeg).toInt then (1 : Int32) else -12) else -14) else -11) else -2) = (if 0 ≤ ss ∧ ss ≤ 3 ∧ 0 ≤ s5 ∧ s5 ≤ 3 then (if ¬ qFo ss.toNatClampNeg < 0 ∧ ¬ qFo s5.toNatClampNeg < 0 then (if qFo ss.toNatClampNeg = qFo s5.toNatClampNeg then (if 0 ≤ ix ∧ 0 ≤ jx ∧ 0 ≤ nn ∧ ix.toInt + nn.toInt ≤ (qSi ss.toNatClampNeg).toInt ∧ jx.toInt + nn.toInt ≤ (qSi s5.toNatClampNeg).toInt then 1 else -12) else -14) else -11) else -2) := by
  refine k_ifc Iff.rfl (fun c => ?_) (fun _ => rfl)
  obtain ⟨a, b⟩ := k_lf_at h ⟨c.1, c.2.1⟩
  obtain ⟨a2, b2⟩ := k_lf_at h ⟨c.2.2.1, c.2.2.2⟩
  refine k_ifc ⟨fun q => ⟨a.mp q.1, a2.mp q.2⟩, fun q => ⟨a.mpr q.1, a2.mpr q.2⟩⟩ (fun q => ?_) (fun _ => rfl)
  rw [b q.1, b2 q.2]

theorem k_ml_app {n v : Int32} {f g g' : Nat → Int32} (hn : 0 ≤ n ∧ n.toInt ≤ 100) (h : k_ml n f g) (hg : ∀ j, j < n.toNatClampNeg → g' j = g j) (hv : g' n.toNatClampNeg = v) : k_ml (n + 1) (upd f n.toNatClampNeg v) g' := by
  obtain ⟨a, ha, rfl⟩ := k_nat hn.1
  have h2 := hn.2
  rw [nI_toInt ha] at h2
  intro j hj
  rw [nI_1, nI_clamp (by omega)] at hj
  by_cases e : j = (nI a).toNatClampNeg
  · rw [e, pk_us, hv]
  · rw [pk_un e]
    have q : j < (nI a).toNatClampNeg := by rw [nI_clamp ha] at e ⊢; omega
    rw [hg j q]
    exact h j q
theorem k_ml_cg {n : Int32} {f g g' : Nat → Int32} (h : k_ml n f g) (hg : ∀ j, j < n.toNatClampNeg → g' j = g j) : k_ml n f g' := fun j hj => (h j hj).trans (hg j hj).symm
theorem k_ml_le {n m : Int32} {f g : Nat → Int32} (h : k_ml n f g) (hm : 0 ≤ m ∧ m ≤ n) : k_ml m f g := by
  obtain ⟨a, ha, rfl⟩ := k_nat hm.1
  obtain ⟨b, hb, rfl⟩ := k_nat (Int32.le_trans hm.1 hm.2)
  have := (nI_leI ha hb).mp hm.2
  intro j hj
  rw [nI_clamp ha] at hj
  exact h j (by rw [nI_clamp hb]; omega)
theorem k_cl {x : Int32} {m : Nat} (h : 0 ≤ x.toInt ∧ x.toInt ≤ m) : x.toNatClampNeg ≤ m ∧ 0 ≤ x := by
  have h0 : 0 ≤ x := Int32.le_iff_toInt_le.mpr (by rw [show (0 : Int32).toInt = 0 from rfl]; exact h.1)
  obtain ⟨a, ha, rfl⟩ := k_nat h0
  rw [nI_toInt ha] at h
  exact ⟨by rw [nI_clamp ha]; omega, h0⟩
section KT
variable {q by4 : Nat → Int32} {tt b : Int32}
theorem k_ty_bd (h0 : 0 ≤ (q 0).toInt ∧ (q 0).toInt ≤ 24) (h1 : 0 ≤ (q 1).toInt ∧ (q 1).toInt ≤ 39) (c : (tt = 0 ∧ ¬ q 0 = 24 ∨ tt = 1 ∧ ¬ q 1 = 39 ∨ tt = 2 ∧ ¬ q 2 = 23) ∧ 0 ≤ b ∧ b ≤ 255) : (tt = 0 ∧ kIx tt q = (q 0).toNatClampNeg ∧ kIx tt q ≤ 24) ∨ (tt = 1 ∧ kIx tt q = 40 + (q 1).toNatClampNeg ∧ kIx tt q ≤ 79) ∨ (tt = 2 ∧ kIx tt q = 80 + (q 2).toNatClampNeg) := by
  rcases c.1 with ⟨e, _⟩ | ⟨e, _⟩ | ⟨e, _⟩
  · refine Or.inl ⟨e, ?_⟩
    unfold kIx
    rw [if_pos e]
    exact ⟨rfl, (k_cl (m := 24) h0).1⟩
  · refine Or.inr (Or.inl ⟨e, ?_⟩)
    unfold kIx
    rw [if_neg (by rw [e]; decide), if_pos e]
    have := (k_cl (m := 39) h1).1
    exact ⟨rfl, by omega⟩
  · refine Or.inr (Or.inr ⟨e, ?_⟩)
    unfold kIx
    rw [if_neg (by rw [e]; decide), if_neg (by rw [e]; decide)]
theorem k_ml_t4 {f : Nat → Int32} (h : k_ml (q 0) f (kv4 by4)) (h0 : 0 ≤ (q 0).toInt ∧ (q 0).toInt ≤ 24) (h1 : 0 ≤ (q 1).toInt ∧ (q 1).toInt ≤ 39) : k_ml (if tt = 0 ∧ 0 ≤ b ∧ b ≤ 255 ∧ ¬ q 0 = 24 then q 0 + 1 else q 0) (if tt = 0 ∧ 0 ≤ b ∧ b ≤ 255 ∧ ¬ q 0 = 24 then upd f (q 0).toNatClampNeg (wL b) else f) (kv4 (if (tt = 0 ∧ ¬ q 0 = 24 ∨ tt = 1 ∧ ¬ q 1 = 39 ∨ tt = 2 ∧ ¬ q 2 = 23) ∧ 0 ≤ b ∧ b ≤ 255 then upd by4 (kIx tt q) b else by4)) := by
  have hc := k_cl (m := 24) h0
  by_cases c : tt = 0 ∧ 0 ≤ b ∧ b ≤ 255 ∧ ¬ q 0 = 24
  · have c2 : (tt = 0 ∧ ¬ q 0 = 24 ∨ tt = 1 ∧ ¬ q 1 = 39 ∨ tt = 2 ∧ ¬ q 2 = 23) ∧ 0 ≤ b ∧ b ≤ 255 := ⟨Or.inl ⟨c.1, c.2.2.2⟩, c.2.1, c.2.2.1⟩
    rw [if_pos c, if_pos c, if_pos c2]
    have e : kIx tt q = (q 0).toNatClampNeg := by unfold kIx; rw [if_pos c.1]
    refine k_ml_app ⟨hc.2, by omega⟩ h (fun j hj => ?_) ?_
    · unfold kv4
      rw [pk_un (by omega)]
    · unfold kv4
      rw [e, pk_us]
  · rw [if_neg c, if_neg c]
    refine k_ml_cg h (fun j hj => ?_)
    by_cases c2 : (tt = 0 ∧ ¬ q 0 = 24 ∨ tt = 1 ∧ ¬ q 1 = 39 ∨ tt = 2 ∧ ¬ q 2 = 23) ∧ 0 ≤ b ∧ b ≤ 255
    · rw [if_pos c2]
      unfold kv4
      rcases k_ty_bd h0 h1 c2 with ⟨e, _⟩ | ⟨_, e, _⟩ | ⟨_, e⟩
      · refine absurd ?_ c
        rcases c2.1 with z | z | z
        · exact ⟨e, c2.2.1, c2.2.2, z.2⟩
        · exact absurd (e.symm.trans z.1) (by decide)
        · exact absurd (e.symm.trans z.1) (by decide)
      · rw [pk_un (by omega)]
      · rw [pk_un (by omega)]
    · rw [if_neg c2]
theorem k_ml_t7 {f : Nat → Int32} (h : k_ml (q 1) f (kv7 by4)) (h0 : 0 ≤ (q 0).toInt ∧ (q 0).toInt ≤ 24) (h1 : 0 ≤ (q 1).toInt ∧ (q 1).toInt ≤ 39) : k_ml (if tt = 1 ∧ 0 ≤ b ∧ b ≤ 255 ∧ ¬ q 1 = 39 then q 1 + 1 else q 1) (if tt = 1 ∧ 0 ≤ b ∧ b ≤ 255 ∧ ¬ q 1 = 39 then upd f (q 1).toNatClampNeg (wP (q 1 - q 1 / 5 * 5) b) else f) (kv7 (if (tt = 0 ∧ ¬ q 0 = 24 ∨ tt = 1 ∧ ¬ q 1 = 39 ∨ tt = 2 ∧ ¬ q 2 = 23) ∧ 0 ≤ b ∧ b ≤ 255 then upd by4 (kIx tt q) b else by4)) := by
  have hc := k_cl (m := 39) h1
  by_cases c : tt = 1 ∧ 0 ≤ b ∧ b ≤ 255 ∧ ¬ q 1 = 39
  · have c2 : (tt = 0 ∧ ¬ q 0 = 24 ∨ tt = 1 ∧ ¬ q 1 = 39 ∨ tt = 2 ∧ ¬ q 2 = 23) ∧ 0 ≤ b ∧ b ≤ 255 := ⟨Or.inr (Or.inl ⟨c.1, c.2.2.2⟩), c.2.1, c.2.2.1⟩
    rw [if_pos c, if_pos c, if_pos c2]
    have e : kIx tt q = 40 + (q 1).toNatClampNeg := by unfold kIx; rw [if_neg (by rw [c.1]; decide), if_pos c.1]
    refine k_ml_app ⟨hc.2, by omega⟩ h (fun j hj => ?_) ?_
    · unfold kv7
      rw [pk_un (by omega)]
    · obtain ⟨a, ha, ea⟩ := k_nat hc.2
      unfold kv7
      rw [e, pk_us, ea, nI_clamp ha]
  · rw [if_neg c, if_neg c]
    refine k_ml_cg h (fun j hj => ?_)
    by_cases c2 : (tt = 0 ∧ ¬ q 0 = 24 ∨ tt = 1 ∧ ¬ q 1 = 39 ∨ tt = 2 ∧ ¬ q 2 = 23) ∧ 0 ≤ b ∧ b ≤ 255
    · rw [if_pos c2]
      unfold kv7
      rcases k_ty_bd h0 h1 c2 with ⟨_, e, e2⟩ | ⟨e, _⟩ | ⟨_, e⟩
      · rw [pk_un (by omega)]
      · refine absurd ?_ c
        rcases c2.1 with z | z | z
        · exact absurd (e.symm.trans z.1) (by decide)
        · exact ⟨e, c2.2.1, c2.2.2, z.2⟩
        · exact absurd (e.symm.trans z.1) (by decide)
      · rw [pk_un (by omega)]
    · rw [if_neg c2]
theorem k_ml_t2 {f : Nat → Int32} (h : k_ml (q 2) f (kv2 by4)) (h0 : 0 ≤ (q 0).toInt ∧ (q 0).toInt ≤ 24) (h1 : 0 ≤ (q 1).toInt ∧ (q 1).toInt ≤ 39) (h2 : 0 ≤ (q 2).toInt ∧ (q 2).toInt ≤ 23) : k_ml (if tt = 2 ∧ 0 ≤ b ∧ b ≤ 255 ∧ ¬ q 2 = 23 then q 2 + 1 else q 2) (if tt = 2 ∧ 0 ≤ b ∧ b ≤ 255 ∧ ¬ q 2 = 23 then upd f (q 2).toNatClampNeg (wG (q 2 - q 2 / 3 * 3) b) else f) (kv2 (if (tt = 0 ∧ ¬ q 0 = 24 ∨ tt = 1 ∧ ¬ q 1 = 39 ∨ tt = 2 ∧ ¬ q 2 = 23) ∧ 0 ≤ b ∧ b ≤ 255 then upd by4 (kIx tt q) b else by4)) := by
  have hc := k_cl (m := 23) h2
  by_cases c : tt = 2 ∧ 0 ≤ b ∧ b ≤ 255 ∧ ¬ q 2 = 23
  · have c2 : (tt = 0 ∧ ¬ q 0 = 24 ∨ tt = 1 ∧ ¬ q 1 = 39 ∨ tt = 2 ∧ ¬ q 2 = 23) ∧ 0 ≤ b ∧ b ≤ 255 := ⟨Or.inr (Or.inr ⟨c.1, c.2.2.2⟩), c.2.1, c.2.2.1⟩
    rw [if_pos c, if_pos c, if_pos c2]
    have e : kIx tt q = 80 + (q 2).toNatClampNeg := by unfold kIx; rw [if_neg (by rw [c.1]; decide), if_neg (by rw [c.1]; decide)]
    refine k_ml_app ⟨hc.2, by omega⟩ h (fun j hj => ?_) ?_
    · unfold kv2
      rw [pk_un (by omega)]
    · obtain ⟨a, ha, ea⟩ := k_nat hc.2
      unfold kv2
      rw [e, pk_us, ea, nI_clamp ha]
  · rw [if_neg c, if_neg c]
    refine k_ml_cg h (fun j hj => ?_)
    by_cases c2 : (tt = 0 ∧ ¬ q 0 = 24 ∨ tt = 1 ∧ ¬ q 1 = 39 ∨ tt = 2 ∧ ¬ q 2 = 23) ∧ 0 ≤ b ∧ b ≤ 255
    · rw [if_pos c2]
      unfold kv2
      rcases k_ty_bd h0 h1 c2 with ⟨_, e, e2⟩ | ⟨_, e, e2⟩ | ⟨e, _⟩
      · rw [pk_un (by omega)]
      · rw [pk_un (by omega)]
      · refine absurd ?_ c
        rcases c2.1 with z | z | z
        · exact absurd (e.symm.trans z.1) (by decide)
        · exact absurd (e.symm.trans z.1) (by decide)
        · exact ⟨e, c2.2.1, c2.2.2, z.2⟩
    · rw [if_neg c2]
end KT
theorem kFt_cg {th n : Int32} {f g : Nat → Int32} (h : k_ml n f g) : kFt th n f = kFt th n g := by
  unfold kFt
  rw [kBad_congr n.toNatClampNeg 0 (fun i _ hi => h i (by omega))]
theorem kNm_cg {th n : Int32} {f g : Nat → Int32} (h : k_ml n f g) : kNm th n f = kNm th n g := by
  unfold kNm
  rw [kFt_cg h]
theorem e_fault {q f4 f7 f2 by4 : Nat → Int32} {a4 a7 a2 tt : Int32} (h4 : k_ml (q 0) f4 (kv4 by4)) (h7 : k_ml (q 1) f7 (kv7 by4)) (h2 : k_ml (q 2) f2 (kv2 by4)) (e4 : a4 = kFt (q 0) (q 0) f4) (e7 : a7 = kFt (kTh7 (q 1)) (q 1) f7) (e2 : a2 = kFt (kTh2 (q 2)) (q 2) f2) : (if tt = 0 then a4 else if tt = 1 then a7 else if tt = 2 then a2 else -2) = (if 0 ≤ tt ∧ tt ≤ 2 then (if tt = 0 then kFt (q 0) (q 0) (kv4 by4) else if tt = 1 then kFt (kTh7 (q 1)) (q 1) (kv7 by4) else kFt (kTh2 (q 2)) (q 2) (kv2 by4)) else -2) := by
  rw [e4, e7, e2, kFt_cg h4, kFt_cg h7, kFt_cg h2]
  by_cases c : 0 ≤ tt ∧ tt ≤ 2
  · rw [if_pos c]
    have h0 : ¬ tt < 0 := Int32.not_lt.mpr c.1
    obtain ⟨j, hj, rfl⟩ := nI_of2 (n := 2) (M := 2) (by decide) h0 c.2
    match j, hj with
    | 0, _ => rw [if_pos (by decide), if_pos (by decide)]
    | 1, _ => rw [if_neg (by decide), if_pos (by decide), if_neg (by decide), if_pos (by decide)]
    | 2, _ => rw [if_neg (by decide), if_neg (by decide), if_pos (by decide), if_neg (by decide), if_neg (by decide)]
  · rw [if_neg c, if_neg (fun e => c (by rw [e]; decide)), if_neg (fun e => c (by rw [e]; decide)), if_neg (fun e => c (by rw [e]; decide))]
theorem e_mile {q f4 by4 : Nat → Int32} {n4 m : Int32} (hq : 0 ≤ (q 0).toInt ∧ (q 0).toInt ≤ 24) (h4 : k_ml (q 0) f4 (kv4 by4)) (e4 : n4 = kNm (q 0) (q 0) f4) : (if 0 ≤ m ∧ m < 24 then (if m < n4 then kAt 24 f4 m else -1) else -2) = (if 0 ≤ m ∧ m ≤ 23 then (if m < kNm (q 0) (q 0) (kv4 by4) then kv4 by4 m.toNatClampNeg else -1) else -2) := by
  refine k_ifc ⟨fun c => ⟨c.1, ?_⟩, fun c => ⟨c.1, ?_⟩⟩ (fun c => ?_) (fun _ => rfl)
  · exact Int32.le_iff_toInt_le.mpr (by have := Int32.lt_iff_toInt_lt.mp c.2; rw [show (24 : Int32).toInt = 24 from rfl] at this; rw [show (23 : Int32).toInt = 23 from rfl]; omega)
  · exact Int32.lt_iff_toInt_lt.mpr (by have := Int32.le_iff_toInt_le.mp c.2; rw [show (23 : Int32).toInt = 23 from rfl] at this; rw [show (24 : Int32).toInt = 24 from rfl]; omega)
  · rw [e4, kNm_cg h4]
    refine k_ifc Iff.rfl (fun d => ?_) (fun _ => rfl)
    rw [kAt_eq c]
    exact k_ml_at h4 ⟨c.1, k_lt4 (k_cl (m := 24) hq).2 ⟨c.1, d⟩⟩
theorem e_pass {q f7 by4 : Nat → Int32} {n7 p w : Int32} (hq : 0 ≤ (q 1).toInt ∧ (q 1).toInt ≤ 39) (h7 : k_ml (q 1) f7 (kv7 by4)) (e7 : n7 = kNm (kTh7 (q 1)) (q 1) f7) : (if (0 ≤ p ∧ p < n7) ∧ 0 ≤ w ∧ w ≤ 3 then kAt 39 f7 ((5 * p) + w) else -2) = (if (0 ≤ p ∧ p < kNm (kTh7 (q 1)) (q 1) (kv7 by4)) ∧ 0 ≤ w ∧ w ≤ 3 then kv7 by4 ((5 * p) + w).toNatClampNeg else -2) := by
  rw [e7, kNm_cg h7]
  refine k_ifc Iff.rfl (fun c => ?_) (fun _ => rfl)
  have hl := k_lt7 ⟨(k_cl (m := 39) hq).2, by omega⟩ c.1
  obtain ⟨a, ha, rfl⟩ := k_nat c.1.1
  obtain ⟨b, hb, rfl⟩ := k_nat c.2.1
  have hw := Int32.le_iff_toInt_le.mp c.2.2
  rw [show (3 : Int32).toInt = 3 from rfl, nI_toInt hb] at hw
  rw [nI_toInt ha] at hl
  obtain ⟨m, hm, em⟩ := k_nat (k_cl (m := 39) hq).2
  rw [em, nI_toInt hm] at hl hq
  rw [show (5 : Int32) = nI 5 from rfl, pk_mul, nI_add]
  rw [kAt_eq ⟨nI_pos' (by omega), by rw [show (39 : Int32) = nI 39 from rfl]; exact nI_lt (by omega) (by decide)⟩]
  exact k_ml_at h7 ⟨nI_pos' (by omega), by rw [em]; exact nI_lt (by omega) hm⟩
theorem e_goose {q f2 by4 : Nat → Int32} {n2 p w : Int32} (hq : 0 ≤ (q 2).toInt ∧ (q 2).toInt ≤ 23) (h2 : k_ml (q 2) f2 (kv2 by4)) (e2 : n2 = kNm (kTh2 (q 2)) (q 2) f2) : (if (0 ≤ p ∧ p < n2) ∧ 0 ≤ w ∧ w ≤ 1 then kAt 23 f2 ((3 * p) + w) else -2) = (if (0 ≤ p ∧ p < kNm (kTh2 (q 2)) (q 2) (kv2 by4)) ∧ 0 ≤ w ∧ w ≤ 1 then kv2 by4 ((3 * p) + w).toNatClampNeg else -2) := by
  rw [e2, kNm_cg h2]
  refine k_ifc Iff.rfl (fun c => ?_) (fun _ => rfl)
  have hl := k_lt2 ⟨(k_cl (m := 23) hq).2, by omega⟩ c.1
  obtain ⟨a, ha, rfl⟩ := k_nat c.1.1
  obtain ⟨b, hb, rfl⟩ := k_nat c.2.1
  have hw := Int32.le_iff_toInt_le.mp c.2.2
  rw [show (1 : Int32).toInt = 1 from rfl, nI_toInt hb] at hw
  rw [nI_toInt ha] at hl
  obtain ⟨m, hm, em⟩ := k_nat (k_cl (m := 23) hq).2
  rw [em, nI_toInt hm] at hl hq
  rw [show (3 : Int32) = nI 3 from rfl, pk_mul, nI_add]
  rw [kAt_eq ⟨nI_pos' (by omega), by rw [show (23 : Int32) = nI 23 from rfl]; exact nI_lt (by omega) (by decide)⟩]
  exact k_ml_at h2 ⟨nI_pos' (by omega), by rw [em]; exact nI_lt (by omega) hm⟩

/-! the moods of a flight are the same on both sides -/
theorem kGo_cg {ov ov' hf hf' : Int32 → Int32} {ct le ki so be : Int32} {n : Nat} (hn : n < 2 ^ 31) (h : ∀ j : Nat, j < n → ov (nI j) = ov' (nI j)) (hh : ∀ j : Nat, j < n → hf (nI j) = hf' (nI j)) : ∀ (k a : Nat) (x y e : Int32), a + k ≤ n → kGo ov ct le ki so be hf k (nI a) x y e = kGo ov' ct le ki so be hf' k (nI a) x y e
  | 0, _, _, _, _, _ => rfl
  | k + 1, a, x, y, e, hk => by
    rw [kGo, kGo, h a (by omega), hh a (by omega), nI_1]
    rw [kGo_cg hn h hh k (a + 1) _ _ _ (by omega), kGo_cg hn h hh k (a + 1) _ _ _ (by omega), kGo_cg hn h hh k (a + 1) _ _ _ (by omega)]
theorem kCt_cg {ov ov' : Int32 → Int32} {w : Int32} {n : Nat} (hn : n < 2 ^ 31) (h : ∀ j : Nat, j < n → ov (nI j) = ov' (nI j)) : ∀ (k a : Nat) (P : kGT × kGT), a + k ≤ n → kCt ov w k (nI a) P = kCt ov' w k (nI a) P
  | 0, _, _, _ => rfl
  | k + 1, a, P, hk => by
    rw [kCt, kCt, h a (by omega), nI_1, kCt_cg hn h k (a + 1) _ (by omega)]
/-- values of class and reference at one place of a text -/
theorem v_p {q f7 by4 ps : Nat → Int32} {v p : Int32} {w : Nat} (hq : 0 ≤ (q 1).toInt ∧ (q 1).toInt ≤ 39) (h7 : k_ml (q 1) f7 (kv7 by4)) (hv : v = kNm (kTh7 (q 1)) (q 1) (kv7 by4)) (hm : k_mq 5 4 v (q 1) ps (kv7 by4)) (hp : 0 ≤ p ∧ p < v) (hw : w < 4) : kAt 39 f7 ((5 * p) + nI w) = ps ((4 * p) + nI w).toNatClampNeg := by
  have hc := k_cl (m := 39) hq
  have hlt := k_lt7 (f := kv7 by4) ⟨hc.2, by omega⟩ (by rw [← hv]; exact hp)
  have hv0 : ¬ v = 0 := fun z => absurd (z ▸ hp.2) (Int32.not_lt.mpr hp.1)
  have hmp := k_mq_mp hm hv0
  obtain ⟨a, ha, rfl⟩ := k_nat hp.1
  obtain ⟨m, hm2, em⟩ := k_nat hc.2
  rw [em] at hlt hq h7 hmp
  rw [nI_toInt ha, nI_toInt hm2] at hlt
  rw [nI_toInt hm2] at hq
  have e1 : (5 * nI a + nI w : Int32) = nI (5 * a + w) := by rw [show (5 : Int32) = nI 5 from rfl, pk_mul, nI_add]
  have e := k_mp_at (c := 5) (d := 4) (p := nI a) (w := nI w) (by decide) (by decide) (by decide) hmp ⟨nI_pos' ha, by rw [nI_toInt ha]; omega⟩ ⟨nI_pos' (by omega), nI_lt hw (by decide)⟩ (by rw [nI_toInt ha, nI_toInt hm2, nI_toInt (by omega)]; omega)
  have e2 : ps ((4 * nI a) + nI w).toNatClampNeg = kv7 by4 (nI 5 * nI a + nI w).toNatClampNeg := e
  rw [e2, e1, kAt_eq ⟨nI_pos' (by omega), by rw [show (39 : Int32) = nI 39 from rfl]; exact nI_lt (by omega) (by decide)⟩, pk_mul, nI_add]
  exact k_ml_at h7 ⟨nI_pos' (by omega), nI_lt (by omega) hm2⟩
theorem v_g {q f2 by4 gs : Nat → Int32} {v p : Int32} {w : Nat} (hq : 0 ≤ (q 2).toInt ∧ (q 2).toInt ≤ 23) (h2 : k_ml (q 2) f2 (kv2 by4)) (hv : v = kNm (kTh2 (q 2)) (q 2) (kv2 by4)) (hm : k_mq 3 2 v (q 2) gs (kv2 by4)) (hp : 0 ≤ p ∧ p < v) (hw : w < 2) : kAt 23 f2 ((3 * p) + nI w) = gs ((2 * p) + nI w).toNatClampNeg := by
  have hc := k_cl (m := 23) hq
  have hlt := k_lt2 (f := kv2 by4) ⟨hc.2, by omega⟩ (by rw [← hv]; exact hp)
  have hv0 : ¬ v = 0 := fun z => absurd (z ▸ hp.2) (Int32.not_lt.mpr hp.1)
  have hmp := k_mq_mp hm hv0
  obtain ⟨a, ha, rfl⟩ := k_nat hp.1
  obtain ⟨m, hm2, em⟩ := k_nat hc.2
  rw [em] at hlt hq h2 hmp
  rw [nI_toInt ha, nI_toInt hm2] at hlt
  rw [nI_toInt hm2] at hq
  have e1 : (3 * nI a + nI w : Int32) = nI (3 * a + w) := by rw [show (3 : Int32) = nI 3 from rfl, pk_mul, nI_add]
  have e := k_mp_at (c := 3) (d := 2) (p := nI a) (w := nI w) (by decide) (by decide) (by decide) hmp ⟨nI_pos' ha, by rw [nI_toInt ha]; omega⟩ ⟨nI_pos' (by omega), nI_lt hw (by decide)⟩ (by rw [nI_toInt ha, nI_toInt hm2, nI_toInt (by omega)]; omega)
  have e2 : gs ((2 * nI a) + nI w).toNatClampNeg = kv2 by4 (nI 3 * nI a + nI w).toNatClampNeg := e
  rw [e2, e1, kAt_eq ⟨nI_pos' (by omega), by rw [show (23 : Int32) = nI 23 from rfl]; exact nI_lt (by omega) (by decide)⟩, pk_mul, nI_add]
  exact k_ml_at h2 ⟨nI_pos' (by omega), nI_lt (by omega) hm2⟩
theorem v_m {q f4 by4 mi : Nat → Int32} {v : Int32} (hq : 0 ≤ (q 0).toInt ∧ (q 0).toInt ≤ 24) (h4 : k_ml (q 0) f4 (kv4 by4)) (hv : v = kNm (q 0) (q 0) (kv4 by4)) (hm : k_ml v mi (kv4 by4)) {n : Nat} (hn : v = nI n) (hn2 : n < 2 ^ 31) (j : Nat) (hj : j < n) : kAt 24 f4 (nI j) = kM mi (nI j) := by
  have hc := k_cl (m := 24) hq
  have hlt : nI j < v := by rw [hn]; exact nI_lt hj hn2
  have hl := k_lt4 (f := kv4 by4) hc.2 ⟨nI_pos' (show j < 2 ^ 31 by omega), by rw [← hv]; exact hlt⟩
  obtain ⟨m, hm2, em⟩ := k_nat hc.2
  rw [em] at hl hq h4
  rw [nI_toInt hm2] at hq
  have hjm : j < m := (nI_ltI (by omega) hm2).mp hl
  rw [kAt_eq ⟨nI_pos' (by omega), by rw [show (24 : Int32) = nI 24 from rfl]; exact nI_lt (by omega) (by decide)⟩]
  rw [k_ml_at h4 ⟨nI_pos' (by omega), hl⟩]
  exact (k_ml_at hm ⟨nI_pos' (by omega), hlt⟩).symm

theorem e_mood {q f4 f7 f2 by4 qMi qPs qGs qTo ft : Nat → Int32} {n4 n7 n2 mi pn gn fn f1 w kn fe en le tgo tca tle tki tso tbe twe tki0 tso0 tbe0 twe0 : Int32}
    (t0 : 0 ≤ (q 0).toInt ∧ (q 0).toInt ≤ 24) (t1 : 0 ≤ (q 1).toInt ∧ (q 1).toInt ≤ 39) (t2 : 0 ≤ (q 2).toInt ∧ (q 2).toInt ≤ 23)
    (m4 : k_ml (q 0) f4 (kv4 by4)) (m7 : k_ml (q 1) f7 (kv7 by4)) (m2 : k_ml (q 2) f2 (kv2 by4))
    (e4 : n4 = kNm (q 0) (q 0) f4) (e7 : n7 = kNm (kTh7 (q 1)) (q 1) f7) (e2 : n2 = kNm (kTh2 (q 2)) (q 2) f2) (hn4 : 0 ≤ n4 ∧ n4 ≤ 24)
    (hf : 0 ≤ f1 ∧ f1 < fn) (hw : 0 ≤ w ∧ w ≤ 1)
    (hc : (tgo = if (0 ≤ (kIt fn ft f1 0) ∧ (kIt fn ft f1 0) < n7) ∧ (0 ≤ (kIt fn ft f1 1) ∧ (kIt fn ft f1 1) < n2) ∧ 0 ≤ (kIt fn ft f1 2) ∧ (kIt fn ft f1 2) < n2 then 1 else 0) ∧ (tca = if (0 ≤ (kIt fn ft f1 0) ∧ (kIt fn ft f1 0) < n7) ∧ (0 ≤ (kIt fn ft f1 1) ∧ (kIt fn ft f1 1) < n2) ∧ 0 ≤ (kIt fn ft f1 2) ∧ (kIt fn ft f1 2) < n2 then kCt (kAt 24 f4) (kAt 39 f7 ((5 * (kIt fn ft f1 0)) + 3)) (kfu n4 0) 0 ((kAt 23 f2 ((3 * (kIt fn ft f1 1)) + 0), kAt 23 f2 ((3 * (kIt fn ft f1 1)) + 1), kAt 23 f2 ((3 * (kIt fn ft f1 1)) + 0), 0), (kAt 23 f2 ((3 * (kIt fn ft f1 2)) + 0), kAt 23 f2 ((3 * (kIt fn ft f1 2)) + 1), kAt 23 f2 ((3 * (kIt fn ft f1 2)) + 0), 0)) else 0) ∧ (tki = if (0 ≤ (kIt fn ft f1 0) ∧ (kIt fn ft f1 0) < n7) ∧ (0 ≤ (kIt fn ft f1 1) ∧ (kIt fn ft f1 1) < n2) ∧ 0 ≤ (kIt fn ft f1 2) ∧ (kIt fn ft f1 2) < n2 then kAt 39 f7 ((5 * (kIt fn ft f1 0)) + 0) else tki0) ∧ (tso = if (0 ≤ (kIt fn ft f1 0) ∧ (kIt fn ft f1 0) < n7) ∧ (0 ≤ (kIt fn ft f1 1) ∧ (kIt fn ft f1 1) < n2) ∧ 0 ≤ (kIt fn ft f1 2) ∧ (kIt fn ft f1 2) < n2 then kAt 39 f7 ((5 * (kIt fn ft f1 0)) + 1) else tso0) ∧ (tbe = if (0 ≤ (kIt fn ft f1 0) ∧ (kIt fn ft f1 0) < n7) ∧ (0 ≤ (kIt fn ft f1 1) ∧ (kIt fn ft f1 1) < n2) ∧ 0 ≤ (kIt fn ft f1 2) ∧ (kIt fn ft f1 2) < n2 then 5 * (kAt 39 f7 ((5 * (kIt fn ft f1 0)) + 2)) else tbe0) ∧ (twe = if (0 ≤ (kIt fn ft f1 0) ∧ (kIt fn ft f1 0) < n7) ∧ (0 ≤ (kIt fn ft f1 1) ∧ (kIt fn ft f1 1) < n2) ∧ 0 ≤ (kIt fn ft f1 2) ∧ (kIt fn ft f1 2) < n2 then kAt 39 f7 ((5 * (kIt fn ft f1 0)) + 3) else twe0) ∧ (tle = le))
    (hr : (mi = kNm (q 0) (q 0) (kv4 by4)) ∧ (pn = kNm (kTh7 (q 1)) (q 1) (kv7 by4)) ∧ (gn = kNm (kTh2 (q 2)) (q 2) (kv2 by4)) ∧ (k_ml mi qMi (kv4 by4)) ∧ (k_mq 5 4 pn (q 1) qPs (kv7 by4)) ∧ (k_mq 3 2 gn (q 2) qGs (kv2 by4)) ∧ (k_fd ((0 ≤ (kP0 ft f1) ∧ (kP0 ft f1) < pn) ∧ (0 ≤ (kP1 ft f1) ∧ (kP1 ft f1) < gn) ∧ 0 ≤ (kP2 ft f1) ∧ (kP2 ft f1) < gn) (k_done (kM qMi) (kCt (kM qMi) (kP3 qPs (kP0 ft f1)) (kfu mi 0) 0 ((kG0 qGs (kP1 ft f1), kG1 qGs (kP1 ft f1), kG0 qGs (kP1 ft f1), 0), (kG0 qGs (kP2 ft f1), kG1 qGs (kP2 ft f1), kG0 qGs (kP2 ft f1), 0))) le (kP0 qPs (kP0 ft f1)) (kP1 qPs (kP0 ft f1)) (5 * (kP2 qPs (kP0 ft f1))) (fun x9 => if x9 < (24 : Int32) then (kP3 ft f1) else (0 : Int32)) mi kn fe en qTo) kn fe en))
    (j : Int32) (hj : 0 ≤ j ∧ j < n4) : (if tgo = 0 ∨ (kGo (kAt 24 f4) tca tle tki tso tbe (fun _ => (kIt fn ft f1 3)) (kfu (j + 1) (0 : Int32)) (0 : Int32) (0 : Int32) (0 : Int32) (if tgo = 0 then 1 else 0)).1 < j then -1 else if w = 0 then (kGo (kAt 24 f4) tca tle tki tso tbe (fun _ => (kIt fn ft f1 3)) (kfu (j + 1) (0 : Int32)) (0 : Int32) (0 : Int32) (0 : Int32) (if tgo = 0 then 1 else 0)).2.1 else (kGo (kAt 24 f4) tca tle tki tso tbe (fun _ => (kIt fn ft f1 3)) (kfu (j + 1) (0 : Int32)) (0 : Int32) (0 : Int32) (0 : Int32) (if tgo = 0 then 1 else 0)).2.2.1) = (if j < kn then qTo ((4 * j) + w).toNatClampNeg else -1) := by
  obtain ⟨c1, c2, c3, c4, c5, c6, c7⟩ := hc
  obtain ⟨r1, r2, r3, r4, r5, r6, r7⟩ := hr
  have N4 : n4 = mi := e4.trans ((kNm_cg m4).trans r1.symm)
  have N7 : n7 = pn := e7.trans ((kNm_cg m7).trans r2.symm)
  have N2 : n2 = gn := e2.trans ((kNm_cg m2).trans r3.symm)
  have P0 : kIt fn ft f1 0 = kP0 ft f1 := by unfold kIt kP0; rw [if_pos hf, Int32.add_zero]
  have P1 : kIt fn ft f1 1 = kP1 ft f1 := if_pos hf
  have P2 : kIt fn ft f1 2 = kP2 ft f1 := if_pos hf
  have P3 : kIt fn ft f1 3 = kP3 ft f1 := if_pos hf
  rw [P0, P1, P2, N7, N2] at c1 c2 c3 c4 c5
  rw [P3]
  by_cases hC : (0 ≤ (kP0 ft f1) ∧ (kP0 ft f1) < pn) ∧ (0 ≤ (kP1 ft f1) ∧ (kP1 ft f1) < gn) ∧ 0 ≤ (kP2 ft f1) ∧ (kP2 ft f1) < gn
  · rw [if_pos hC] at c1 c2 c3 c4 c5
    have D := r7.1 hC
    obtain ⟨n, hn, en⟩ := k_nat (x := mi) (by rw [← N4]; exact hn4.1)
    have hn24 : n ≤ 24 := by have := hn4.2; rw [N4, en] at this; exact (nI_leI hn (by decide)).mp this
    have hov := v_m t0 m4 r1 r4 en hn
    have K0 : kAt 39 f7 ((5 * (kP0 ft f1)) + 0) = kP0 qPs (kP0 ft f1) := (v_p (w := 0) t1 m7 r2 r5 hC.1 (by decide)).trans (by unfold kP0; rw [show (nI 0 : Int32) = 0 from rfl, Int32.add_zero])
    have K1 : kAt 39 f7 ((5 * (kP0 ft f1)) + 1) = kP1 qPs (kP0 ft f1) := v_p (w := 1) t1 m7 r2 r5 hC.1 (by decide)
    have K2 : kAt 39 f7 ((5 * (kP0 ft f1)) + 2) = kP2 qPs (kP0 ft f1) := v_p (w := 2) t1 m7 r2 r5 hC.1 (by decide)
    have K3 : kAt 39 f7 ((5 * (kP0 ft f1)) + 3) = kP3 qPs (kP0 ft f1) := v_p (w := 3) t1 m7 r2 r5 hC.1 (by decide)
    have L0 : kAt 23 f2 ((3 * (kP1 ft f1)) + 0) = kG0 qGs (kP1 ft f1) := (v_g (w := 0) t2 m2 r3 r6 hC.2.1 (by decide)).trans (by unfold kG0; rw [show (nI 0 : Int32) = 0 from rfl, Int32.add_zero])
    have L1 : kAt 23 f2 ((3 * (kP1 ft f1)) + 1) = kG1 qGs (kP1 ft f1) := v_g (w := 1) t2 m2 r3 r6 hC.2.1 (by decide)
    have M0 : kAt 23 f2 ((3 * (kP2 ft f1)) + 0) = kG0 qGs (kP2 ft f1) := (v_g (w := 0) t2 m2 r3 r6 hC.2.2 (by decide)).trans (by unfold kG0; rw [show (nI 0 : Int32) = 0 from rfl, Int32.add_zero])
    have M1 : kAt 23 f2 ((3 * (kP2 ft f1)) + 1) = kG1 qGs (kP2 ft f1) := v_g (w := 1) t2 m2 r3 r6 hC.2.2 (by decide)
    rw [K3, L0, L1, M0, M1, N4] at c2
    rw [K0] at c3
    rw [K1] at c4
    rw [K2] at c5
    have CT : tca = (kCt (kM qMi) (kP3 qPs (kP0 ft f1)) (kfu mi 0) 0 ((kG0 qGs (kP1 ft f1), kG1 qGs (kP1 ft f1), kG0 qGs (kP1 ft f1), 0), (kG0 qGs (kP2 ft f1), kG1 qGs (kP2 ft f1), kG0 qGs (kP2 ft f1), 0))) := by
      rw [c2, en, show (0 : Int32) = nI 0 from rfl, kfu_nat (by decide) hn]
      exact kCt_cg hn hov _ 0 _ (by omega)
    obtain ⟨b, hb, rfl⟩ := k_nat hj.1
    have hbn : b < n := by have := hj.2; rw [N4, en] at this; exact (nI_ltI hb hn).mp this
    have E : (kGo (kAt 24 f4) tca tle tki tso tbe (fun _ => (kP3 ft f1)) (kfu (nI b + 1) (0 : Int32)) (0 : Int32) (0 : Int32) (0 : Int32) (if tgo = 0 then 1 else 0)) = kGG (kM qMi) (kCt (kM qMi) (kP3 qPs (kP0 ft f1)) (kfu mi 0) 0 ((kG0 qGs (kP1 ft f1), kG1 qGs (kP1 ft f1), kG0 qGs (kP1 ft f1), 0), (kG0 qGs (kP2 ft f1), kG1 qGs (kP2 ft f1), kG0 qGs (kP2 ft f1), 0))) le (kP0 qPs (kP0 ft f1)) (kP1 qPs (kP0 ft f1)) (5 * (kP2 qPs (kP0 ft f1))) (fun x9 => if x9 < (24 : Int32) then (kP3 ft f1) else (0 : Int32)) (nI b + 1) := by
      rw [c1, if_neg (by decide), c7, c3, c4, c5, CT]
      unfold kGG
      rw [nI_1, show (0 : Int32) = nI 0 from rfl, kfu_nat (by decide) (by omega)]
      refine kGo_cg (n := n) hn hov (fun i hi => ?_) _ 0 _ _ _ (by omega)
      show kP3 ft f1 = if nI i < (24 : Int32) then kP3 ft f1 else (nI 0 : Int32)
      rw [if_pos (by rw [show (24 : Int32) = nI 24 from rfl]; exact nI_lt (by omega) (by decide))]
    rw [E]
    have g := D.2.2 (nI b) hj.1 (by rw [← N4]; exact hj.2)
    have t1' : ¬ tgo = 0 := by rw [c1]; decide
    by_cases hk : nI b < kn
    · obtain ⟨g1, g2, g3⟩ := g.1 hk
      rw [if_neg (fun z => z.elim t1' g1), if_pos hk]
      by_cases w0 : w = 0
      · rw [if_pos w0, w0, Int32.add_zero]
        exact g2
      · rw [if_neg w0]
        have w1 : w = 1 := by
          have h0 := Int32.le_iff_toInt_le.mp hw.1
          have h1 := Int32.le_iff_toInt_le.mp hw.2
          have h2 : ¬ w.toInt = (0 : Int32).toInt := fun z => w0 (Int32.toInt_inj.mp z)
          rw [show (0 : Int32).toInt = 0 from rfl] at h0 h2
          rw [show (1 : Int32).toInt = 1 from rfl] at h1
          exact Int32.toInt_inj.mp (by rw [show (1 : Int32).toInt = 1 from rfl]; omega)
        rw [w1]
        exact g3
    · rw [if_pos (Or.inr (g.2 hk)), if_neg hk]
  · rw [if_neg hC] at c1
    obtain ⟨k0, _, _⟩ := r7.2 hC
    rw [if_pos (Or.inl c1), if_neg (by rw [k0]; exact Int32.not_lt.mpr hj.1)]

/-! rows of class and reference -/
def k_it (k : Nat) (si g f : Nat → Int32) : Prop := ∀ j, j < (si k).toNatClampNeg → g j = f (60 * k + j)
theorem k_s4 {s : Int32} (h : 0 ≤ s ∧ s ≤ 3) : ∃ a : Nat, a ≤ 3 ∧ s = nI a := nI_of2 (n := 3) (M := 3) (by decide) (Int32.not_lt.mpr h.1) h.2
theorem k_si {si : Nat → Int32} (h : k_bd 4 0 60 si) {k : Nat} (hk : k < 4) : (si k).toNatClampNeg ≤ 60 ∧ 0 ≤ si k := k_cl (m := 60) (h k hk)
theorem k_it_sheet {k : Nat} {si g g2 f : Nat → Int32} {ss fm nn kk : Int32} (hkk : kk = nI k) (hk : k < 4) (hb : k_bd 4 0 60 si) (h : k_it k si g f) (hg : k_sh ((0 ≤ ss ∧ ss ≤ 3 ∧ 0 ≤ fm ∧ fm ≤ 2 ∧ nn ≤ 60 ∧ ¬ nn < 0) ∧ ss = kk) g2 g) : k_it k (if 0 ≤ ss ∧ ss ≤ 3 ∧ 0 ≤ fm ∧ fm ≤ 2 ∧ nn ≤ 60 ∧ ¬ nn < 0 then upd si ss.toNatClampNeg nn else si) g2 (if 0 ≤ ss ∧ ss ≤ 3 ∧ 0 ≤ fm ∧ fm ≤ 2 ∧ nn ≤ 60 ∧ ¬ nn < 0 then kZq f ss nn else f) := by
  by_cases c : 0 ≤ ss ∧ ss ≤ 3 ∧ 0 ≤ fm ∧ fm ≤ 2 ∧ nn ≤ 60 ∧ ¬ nn < 0
  · rw [if_pos c, if_pos c]
    obtain ⟨a, ha, rfl⟩ := k_s4 ⟨c.1, c.2.1⟩
    obtain ⟨n, hn, rfl⟩ := nI_of2 (n := 60) (M := 60) (by decide) c.2.2.2.2.2 c.2.2.2.2.1
    subst hkk
    by_cases e : a = k
    · subst e
      have hz := hg.1 ⟨c, rfl⟩
      intro j hj
      rw [nI_clamp (by omega), pk_us, nI_clamp (by omega)] at hj
      rw [hz j (by rw [show (60 : Int32).toNatClampNeg = 60 from rfl]; omega)]
      unfold kZq
      rw [if_pos (by rw [nI_clamp (show a < 2 ^ 31 by omega), nI_clamp (show n < 2 ^ 31 by omega)]; omega)]
    · have e1 : g2 = g := hg.2 (fun z => e ((nI_eq (by omega) (by omega)).mp z.2))
      intro j hj
      rw [nI_clamp (by omega), pk_un (show k ≠ a from fun z => e z.symm)] at hj
      have hs := (k_si hb hk).1
      rw [e1, h j hj]
      unfold kZq
      rw [if_neg (by rw [nI_clamp (show a < 2 ^ 31 by omega), nI_clamp (show n < 2 ^ 31 by omega)]; omega)]
  · rw [if_neg c, if_neg c, hg.2 (fun z => c z.1)]
    exact h
theorem k_it_upd {k : Nat} {si g f : Nat → Int32} {ss ix v v' : Int32} {A B : Prop} [Decidable A] [Decidable B] {kk : Int32} (hkk : kk = nI k) (hk : k < 4) (hb : k_bd 4 0 60 si) (h : k_it k si g f) (hab : A ↔ B) (hA : A → (0 ≤ ss ∧ ss ≤ 3) ∧ 0 ≤ ix ∧ ix < si ss.toNatClampNeg) (hv : A → ss = kk → v = v') : k_it k si (if A ∧ ss = kk then upd g ix.toNatClampNeg v else g) (if B then upd f ((60 * ss) + ix).toNatClampNeg v' else f) := by
  subst hkk
  by_cases c : A
  · rw [if_pos (hab.mp c)]
    obtain ⟨hs, hi⟩ := hA c
    obtain ⟨a, ha, rfl⟩ := k_s4 hs
    obtain ⟨i, hi2, rfl⟩ := k_nat hi.1
    rw [nI_clamp (by omega)] at hi
    have hsa := k_si hb (show a < 4 by omega)
    obtain ⟨m, hm, em⟩ := k_nat hsa.2
    rw [em] at hi hsa
    rw [nI_clamp hm] at hsa
    have him : i < m := (nI_ltI hi2 hm).mp hi.2
    have e0 : ((60 * nI a) + nI i : Int32).toNatClampNeg = 60 * a + i := by rw [show (60 : Int32) = nI 60 from rfl, pk_mul, nI_add, nI_clamp (by omega)]
    rw [e0]
    have hsk := (k_si hb hk).1
    by_cases e : a = k
    · subst e
      rw [if_pos ⟨c, rfl⟩, nI_clamp hi2, hv c rfl]
      intro j hj
      by_cases z : j = i
      · rw [z, pk_us, pk_us]
      · rw [pk_un z, pk_un (by omega)]
        exact h j hj
    · rw [if_neg (fun z => e ((nI_eq (by omega) (by omega)).mp z.2))]
      intro j hj
      rw [pk_un (by omega)]
      exact h j hj
  · rw [if_neg (fun z => c z.1), if_neg (fun z => c (hab.mpr z))]
    exact h
theorem k_it_write {k : Nat} {si g f : Nat → Int32} {ss fo fo' n : Int32} {V V' : Int32 → Int32} {A B : Prop} [Decidable A] [Decidable B] {kk : Int32} (hkk : kk = nI k) (hk : k < 4) (hb : k_bd 4 0 60 si) (h : k_it k si g f) (hab : A ↔ B) (hA : A → (0 ≤ ss ∧ ss ≤ 3) ∧ 0 ≤ n ∧ n ≤ 60) (hfo : A → ss = kk → fo = fo') (hv : A → ∀ j : Int32, 0 ≤ j → j < n → V j = V' j) : k_it k si (if A ∧ ss = kk then kWr fo V g n else g) (if B then kWq fo' V' f ss n else f) := by
  subst hkk
  by_cases c : A
  · rw [if_pos (hab.mp c)]
    obtain ⟨hs, hn⟩ := hA c
    obtain ⟨a, ha, rfl⟩ := k_s4 hs
    obtain ⟨m, hm, rfl⟩ := nI_of2 (n := 60) (M := 60) (by decide) (Int32.not_lt.mpr hn.1) hn.2
    have hsk := (k_si hb hk).1
    by_cases e : a = k
    · subst e
      rw [if_pos ⟨c, rfl⟩, hfo c rfl]
      intro j hj
      unfold kWr kWq
      rw [nI_clamp (show m < 2 ^ 31 by omega), nI_clamp (show a < 2 ^ 31 by omega)]
      by_cases z : j < m
      · rw [if_pos z, if_pos (by omega), show 60 * a + j - 60 * a = j by omega, hv c (nI j) (nI_pos' (by omega)) (nI_lt z (by omega))]
      · rw [if_neg z, if_neg (by omega)]
        exact h j hj
    · rw [if_neg (fun z => e ((nI_eq (by omega) (by omega)).mp z.2))]
      intro j hj
      unfold kWq
      rw [nI_clamp (show m < 2 ^ 31 by omega), nI_clamp (show a < 2 ^ 31 by omega), if_neg (by omega)]
      exact h j hj
  · rw [if_neg (fun z => c z.1), if_neg (fun z => c (hab.mpr z))]
    exact h
theorem k_it4 {si g0 g1 g2 g3 f : Nat → Int32} (h0 : k_it 0 si g0 f) (h1 : k_it 1 si g1 f) (h2 : k_it 2 si g2 f) (h3 : k_it 3 si g3 f) {a : Nat} (ha : a ≤ 3) : k_it a si (kG4 g0 g1 g2 g3 a) f := by
  match a, ha with
  | 0, _ => exact h0
  | 1, _ => exact h1
  | 2, _ => exact h2
  | 3, _ => exact h3
theorem k_it_copy {k : Nat} {si g g0 g1 g2 g3 f mv : Nat → Int32} {ss s5 ix jx nn : Int32} {A B : Prop} [Decidable A] [Decidable B] {kk : Int32} (hkk : kk = nI k) (hk : k < 4) (hb : k_bd 4 0 60 si) (h : k_it k si g f) (h0 : k_it 0 si g0 f) (h1 : k_it 1 si g1 f) (h2 : k_it 2 si g2 f) (h3 : k_it 3 si g3 f) (hab : A ↔ B) (hmv : k_im B (k_mv f mv ss ix nn)) (hA : A → (0 ≤ ss ∧ ss ≤ 3) ∧ (0 ≤ s5 ∧ s5 ≤ 3) ∧ 0 ≤ ix ∧ 0 ≤ jx ∧ 0 ≤ nn ∧ ix.toInt + nn.toInt ≤ (si ss.toNatClampNeg).toInt ∧ jx.toInt + nn.toInt ≤ (si s5.toNatClampNeg).toInt) : k_it k si (if A ∧ s5 = kk then va_cpy (kG4 g0 g1 g2 g3 ss.toNatClampNeg) g ix.toNatClampNeg jx.toNatClampNeg nn.toNatClampNeg else g) (if B then kCq f mv s5 jx nn else f) := by
  subst hkk
  by_cases c : A
  · rw [if_pos (hab.mp c)]
    obtain ⟨hs, ht, i0, j0, n0, hi, hj2⟩ := hA c
    have hm := hmv (hab.mp c)
    obtain ⟨a, ha, rfl⟩ := k_s4 hs
    obtain ⟨b, hb4, rfl⟩ := k_s4 ht
    obtain ⟨i, hi2, rfl⟩ := k_nat i0
    obtain ⟨d, hd2, rfl⟩ := k_nat j0
    obtain ⟨n, hn2, rfl⟩ := k_nat n0
    have hsa := k_si hb (show a < 4 by omega)
    have hsb := k_si hb (show b < 4 by omega)
    have hsk := (k_si hb hk).1
    rw [nI_clamp (show a < 2 ^ 31 by omega), nI_toInt hi2, nI_toInt hn2] at hi
    rw [nI_clamp (show b < 2 ^ 31 by omega), nI_toInt hd2, nI_toInt hn2] at hj2
    obtain ⟨p, hp, ep⟩ := k_nat hsa.2
    obtain ⟨r, hr, er⟩ := k_nat hsb.2
    rw [ep, nI_toInt hp] at hi
    rw [er, nI_toInt hr] at hj2
    rw [ep, nI_clamp hp] at hsa
    rw [er, nI_clamp hr] at hsb
    have hsrc := k_it4 h0 h1 h2 h3 ha
    rw [nI_clamp (show a < 2 ^ 31 by omega), nI_clamp hi2, nI_clamp hd2, nI_clamp hn2]
    by_cases e : b = k
    · subst e
      rw [if_pos ⟨c, rfl⟩]
      intro q hq
      unfold va_cpy kCq
      rw [nI_clamp (show b < 2 ^ 31 by omega), nI_clamp hd2, nI_clamp hn2]
      by_cases z : d ≤ q ∧ q < d + n
      · rw [if_pos z, if_pos (by omega), show 60 * b + q - (60 * b + d) = q - d by omega]
        rw [hm (q - d) (by rw [nI_clamp hn2]; omega), show (60 : Int32) = nI 60 from rfl, pk_mul, nI_add, nI_add, nI_clamp (by omega)]
        rw [hsrc (i + (q - d)) (by rw [ep, nI_clamp hp]; omega), Nat.add_assoc]
      · rw [if_neg z, if_neg (by omega)]
        exact h q hq
    · rw [if_neg (fun z => e ((nI_eq (by omega) (by omega)).mp z.2))]
      intro q hq
      unfold kCq
      rw [nI_clamp (show b < 2 ^ 31 by omega), nI_clamp hd2, nI_clamp hn2, if_neg (by omega)]
      exact h q hq
  · rw [if_neg (fun z => c z.1), if_neg (fun z => c (hab.mpr z))]
    exact h
/-- reading flights out of a row -/
theorem e_rd {qFo sLo sFo si g0 g1 g2 g3 f ft : Nat → Int32} {ss fn : Int32} (hs : 0 ≤ ss ∧ ss ≤ 3) (hb : k_bd 4 0 60 si) (h0 : k_it 0 si g0 f) (h1 : k_it 1 si g1 f) (h2 : k_it 2 si g2 f) (h3 : k_it 3 si g3 f) : kRd (kIm (si ss.toNatClampNeg) (kG4 g0 g1 g2 g3 ss.toNatClampNeg)) (si ss.toNatClampNeg) (kRf 0) 0 fn ft = kRd (fun x9 => f ((60 * ss) + x9).toNatClampNeg) (si ss.toNatClampNeg) (kRf 0) 0 fn ft := by
  obtain ⟨a, ha, rfl⟩ := k_s4 hs
  rw [nI_clamp (show a < 2 ^ 31 by omega)]
  have hsa := k_si hb (show a < 4 by omega)
  have hsrc := k_it4 h0 h1 h2 h3 ha
  obtain ⟨p, hp, ep⟩ := k_nat hsa.2
  have hs60 : si a ≤ 60 := by
    have := hsa.1
    rw [ep, nI_clamp hp] at this
    rw [ep, show (60 : Int32) = nI 60 from rfl]
    exact nI_le this (by decide)
  refine kRd_cg hs60 (fun j j0 j1 => ?_) _ 0 _ _ (by decide)
  unfold kIm
  rw [if_pos ⟨j0, j1⟩]
  obtain ⟨b, hb2, rfl⟩ := k_nat j0
  rw [ep] at j1
  have hbp : b < p := (nI_ltI hb2 hp).mp j1
  have hp60 : p ≤ 60 := by have := hsa.1; rw [ep, nI_clamp hp] at this; exact this
  rw [hsrc (nI b).toNatClampNeg (by rw [ep, nI_clamp hb2, nI_clamp hp]; exact hbp), nI_clamp hb2]
  show f (60 * a + b) = f ((60 * nI a) + nI b).toNatClampNeg
  rw [show (60 : Int32) = nI 60 from rfl, pk_mul, nI_add, nI_clamp (by omega)]

theorem e_lyc {qFo sLo sFo qSi : Nat → Int32} {ss fm ix : Int32} (h : k_lf qFo sLo sFo) : (0 ≤ ss ∧ ss ≤ 3 ∧ 0 ≤ fm ∧ fm ≤ 2 ∧ sLo ss.toNatClampNeg = 0 ∧ sFo ss.toNatClampNeg = fm ∧ 0 ≤ ix ∧ ix < qSi ss.toNatClampNeg) ↔ (0 ≤ ss ∧ ss ≤ 3 ∧ 0 ≤ fm ∧ fm ≤ 2 ∧ ¬ qFo ss.toNatClampNeg < 0 ∧ qFo ss.toNatClampNeg = fm ∧ 0 ≤ ix ∧ ix < qSi ss.toNatClampNeg) := by
  constructor
  · rintro ⟨a, b, c, d, e, f, g⟩
    obtain ⟨x, y⟩ := k_lf_at h ⟨a, b⟩
    exact ⟨a, b, c, d, x.mp e, (y e).symm.trans f, g⟩
  · rintro ⟨a, b, c, d, e, f, g⟩
    obtain ⟨x, y⟩ := k_lf_at h ⟨a, b⟩
    exact ⟨a, b, c, d, x.mpr e, (y (x.mpr e)).trans f, g⟩
theorem k_sk {s : Int32} {k : Nat} (hk : k < 4) (e : s = nI k) : s.toNatClampNeg = k := by rw [e, nI_clamp (by omega)]
theorem k_it_lay {qFo sLo sFo qSi qIt gq : Nat → Int32} {ss fm ix v1 kk : Int32} {k : Nat} (hkk : kk = nI k) (hk : k < 4) (hb : k_bd 4 0 60 qSi) (h : k_it k qSi gq qIt) (hl : k_lf qFo sLo sFo) : k_it k qSi (if (0 ≤ ss ∧ ss ≤ 3 ∧ 0 ≤ fm ∧ fm ≤ 2 ∧ sLo ss.toNatClampNeg = 0 ∧ sFo ss.toNatClampNeg = fm ∧ 0 ≤ ix ∧ ix < qSi ss.toNatClampNeg) ∧ ss = kk then upd gq ix.toNatClampNeg (kCut (sFo k) v1) else gq) (if 0 ≤ ss ∧ ss ≤ 3 ∧ 0 ≤ fm ∧ fm ≤ 2 ∧ ¬ qFo ss.toNatClampNeg < 0 ∧ qFo ss.toNatClampNeg = fm ∧ 0 ≤ ix ∧ ix < qSi ss.toNatClampNeg then upd qIt ((60 * ss) + ix).toNatClampNeg (kCut fm v1) else qIt) := by
  refine k_it_upd hkk hk hb h (e_lyc hl) (fun c => ⟨⟨c.1, c.2.1⟩, c.2.2.2.2.2.2⟩) (fun c e => ?_)
  have z := c.2.2.2.2.2.1
  rw [k_sk hk (e.trans hkk)] at z
  rw [z]
theorem e_cpc {qFo sLo sFo qSi : Nat → Int32} {ss s5 ix jx nn : Int32} (h : k_lf qFo sLo sFo) : (0 ≤ ss ∧ ss ≤ 3 ∧ 0 ≤ s5 ∧ s5 ≤ 3 ∧ sLo ss.toNatClampNeg = 0 ∧ sLo s5.toNatClampNeg = 0 ∧ sFo ss.toNatClampNeg = sFo s5.toNatClampNeg ∧ 0 ≤ ix ∧ 0 ≤ jx ∧ 0 ≤ nn ∧ ix.toInt + nn.toInt ≤ (qSi ss.toNatClampNeg).toInt ∧ jx.toInt + nn.toInt ≤ (qSi s5.toNatClampNeg).toInt) ↔ (0 ≤ ss ∧ ss ≤ 3 ∧ 0 ≤ s5 ∧ s5 ≤ 3 ∧ ¬ qFo ss.toNatClampNeg < 0 ∧ ¬ qFo s5.toNatClampNeg < 0 ∧ qFo ss.toNatClampNeg = qFo s5.toNatClampNeg ∧ 0 ≤ ix ∧ 0 ≤ jx ∧ 0 ≤ nn ∧ ix.toInt + nn.toInt ≤ (qSi ss.toNatClampNeg).toInt ∧ jx.toInt + nn.toInt ≤ (qSi s5.toNatClampNeg).toInt) := by
  constructor
  · rintro ⟨a, b, c, d, e, f, g, i⟩
    obtain ⟨x, y⟩ := k_lf_at h ⟨a, b⟩
    obtain ⟨x2, y2⟩ := k_lf_at h ⟨c, d⟩
    exact ⟨a, b, c, d, x.mp e, x2.mp f, (y e).symm.trans (g.trans (y2 f)), i⟩
  · rintro ⟨a, b, c, d, e, f, g, i⟩
    obtain ⟨x, y⟩ := k_lf_at h ⟨a, b⟩
    obtain ⟨x2, y2⟩ := k_lf_at h ⟨c, d⟩
    exact ⟨a, b, c, d, x.mpr e, x2.mpr f, (y (x.mpr e)).trans (g.trans (y2 (x2.mpr f)).symm), i⟩
theorem k_it_cp {qFo sLo sFo qSi qIt gq0 gq1 gq2 gq3 gq mv : Nat → Int32} {ss s5 ix jx nn kk : Int32} {k : Nat} (hkk : kk = nI k) (hk : k < 4) (hb : k_bd 4 0 60 qSi) (h : k_it k qSi gq qIt) (h0 : k_it 0 qSi gq0 qIt) (h1 : k_it 1 qSi gq1 qIt) (h2 : k_it 2 qSi gq2 qIt) (h3 : k_it 3 qSi gq3 qIt) (hl : k_lf qFo sLo sFo) (hm : k_im (0 ≤ ss ∧ ss ≤ 3 ∧ 0 ≤ s5 ∧ s5 ≤ 3 ∧ ¬ qFo ss.toNatClampNeg < 0 ∧ ¬ qFo s5.toNatClampNeg < 0 ∧ qFo ss.toNatClampNeg = qFo s5.toNatClampNeg ∧ 0 ≤ ix ∧ 0 ≤ jx ∧ 0 ≤ nn ∧ ix.toInt + nn.toInt ≤ (qSi ss.toNatClampNeg).toInt ∧ jx.toInt + nn.toInt ≤ (qSi s5.toNatClampNeg).toInt) (k_mv qIt mv ss ix nn)) : k_it k qSi (if (0 ≤ ss ∧ ss ≤ 3 ∧ 0 ≤ s5 ∧ s5 ≤ 3 ∧ sLo ss.toNatClampNeg = 0 ∧ sLo s5.toNatClampNeg = 0 ∧ sFo ss.toNatClampNeg = sFo s5.toNatClampNeg ∧ 0 ≤ ix ∧ 0 ≤ jx ∧ 0 ≤ nn ∧ ix.toInt + nn.toInt ≤ (qSi ss.toNatClampNeg).toInt ∧ jx.toInt + nn.toInt ≤ (qSi s5.toNatClampNeg).toInt) ∧ s5 = kk then va_cpy (kG4 gq0 gq1 gq2 gq3 ss.toNatClampNeg) gq ix.toNatClampNeg jx.toNatClampNeg nn.toNatClampNeg else gq) (if 0 ≤ ss ∧ ss ≤ 3 ∧ 0 ≤ s5 ∧ s5 ≤ 3 ∧ ¬ qFo ss.toNatClampNeg < 0 ∧ ¬ qFo s5.toNatClampNeg < 0 ∧ qFo ss.toNatClampNeg = qFo s5.toNatClampNeg ∧ 0 ≤ ix ∧ 0 ≤ jx ∧ 0 ≤ nn ∧ ix.toInt + nn.toInt ≤ (qSi ss.toNatClampNeg).toInt ∧ jx.toInt + nn.toInt ≤ (qSi s5.toNatClampNeg).toInt then kCq qIt mv s5 jx nn else qIt) :=
  k_it_copy hkk hk hb h h0 h1 h2 h3 (e_cpc hl) hm (fun c => ⟨⟨c.1, c.2.1⟩, ⟨c.2.2.1, c.2.2.2.1⟩, c.2.2.2.2.2.2.2⟩)
theorem e_wrc {qFo sLo sFo : Nat → Int32} {ss fn f1 w1 : Int32} (h : k_lf qFo sLo sFo) : ((0 ≤ f1 ∧ f1 < fn) ∧ (0 ≤ w1 ∧ w1 ≤ 1) ∧ (0 ≤ ss ∧ ss ≤ 3) ∧ sLo ss.toNatClampNeg = 0) ↔ ((0 ≤ f1 ∧ f1 < fn) ∧ (0 ≤ w1 ∧ w1 ≤ 1) ∧ (0 ≤ ss ∧ ss ≤ 3) ∧ ¬ qFo ss.toNatClampNeg < 0) := by
  constructor
  · rintro ⟨a, b, c, d⟩
    exact ⟨a, b, c, (k_lf_at h c).1.mp d⟩
  · rintro ⟨a, b, c, d⟩
    exact ⟨a, b, c, (k_lf_at h c).1.mpr d⟩
theorem e_nn {qSi : Nat → Int32} {ss n4 mi2 : Int32} (e : n4 = mi2) : (if n4 < qSi ss.toNatClampNeg then n4 else qSi ss.toNatClampNeg) = (if qSi ss.toNatClampNeg < mi2 then qSi ss.toNatClampNeg else mi2) := by
  subst e
  by_cases c : qSi ss.toNatClampNeg < n4
  · rw [if_pos c, if_neg (fun z => Int32.lt_irrefl (Int32.lt_trans c z))]
  · rw [if_neg c]
    by_cases d : n4 < qSi ss.toNatClampNeg
    · rw [if_pos d]
    · rw [if_neg d]
      exact Int32.toInt_inj.mp (by have := Int32.le_iff_toInt_le.mp (Int32.not_lt.mp c); have := Int32.le_iff_toInt_le.mp (Int32.not_lt.mp d); omega)
theorem e_wra {qFo sLo sFo qSi : Nat → Int32} {ss fn f1 w1 n4 mi2 : Int32} (hl : k_lf qFo sLo sFo) (e : k_im ((0 ≤ f1 ∧ f1 < fn) ∧ (0 ≤ w1 ∧ w1 ≤ 1) ∧ (0 ≤ ss ∧ ss ≤ 3) ∧ ¬ qFo ss.toNatClampNeg < 0) (n4 = mi2)) : (if (0 ≤ f1 ∧ f1 < fn) ∧ (0 ≤ w1 ∧ w1 ≤ 1) ∧ 0 ≤ ss ∧ ss ≤ 3 then (if sLo ss.toNatClampNeg = 0 then (if n4 < qSi ss.toNatClampNeg then n4 else qSi ss.toNatClampNeg) else -11) else -2) = (if (0 ≤ f1 ∧ f1 < fn) ∧ (0 ≤ w1 ∧ w1 ≤ 1) ∧ 0 ≤ ss ∧ ss ≤ 3 then (if qFo ss.toNatClampNeg < 0 then -11 else (if qSi ss.toNatClampNeg < mi2 then qSi ss.toNatClampNeg else mi2)) else -2) := by
  refine k_ifc Iff.rfl (fun c => ?_) (fun _ => rfl)
  have a := (k_lf_at hl c.2.2).1
  by_cases d : qFo ss.toNatClampNeg < 0
  · rw [if_pos d, if_neg (fun q => a.mp q d)]
  · rw [if_neg d, if_pos (a.mpr d)]
    exact e_nn (e ⟨c.1, c.2.1, c.2.2, d⟩)
theorem k_it_wr {qFo sLo sFo qSi qIt gq : Nat → Int32} {ss fn f1 w1 kk n4 mi2 : Int32} {V V2 : Int32 → Int32} {k : Nat} (hkk : kk = nI k) (hk : k < 4) (hb : k_bd 4 0 60 qSi) (h : k_it k qSi gq qIt) (hl : k_lf qFo sLo sFo) (hn : 0 ≤ n4 ∧ n4 ≤ 24) (e : k_im ((0 ≤ f1 ∧ f1 < fn) ∧ (0 ≤ w1 ∧ w1 ≤ 1) ∧ (0 ≤ ss ∧ ss ≤ 3) ∧ ¬ qFo ss.toNatClampNeg < 0) (n4 = mi2)) (hv : ((0 ≤ f1 ∧ f1 < fn) ∧ (0 ≤ w1 ∧ w1 ≤ 1) ∧ (0 ≤ ss ∧ ss ≤ 3) ∧ sLo ss.toNatClampNeg = 0) → ∀ j : Int32, 0 ≤ j ∧ j < n4 → V j = V2 j) : k_it k qSi (if ((0 ≤ f1 ∧ f1 < fn) ∧ (0 ≤ w1 ∧ w1 ≤ 1) ∧ (0 ≤ ss ∧ ss ≤ 3) ∧ sLo ss.toNatClampNeg = 0) ∧ ss = kk then kWr (sFo k) V gq (if n4 < qSi ss.toNatClampNeg then n4 else qSi ss.toNatClampNeg) else gq) (if (0 ≤ f1 ∧ f1 < fn) ∧ (0 ≤ w1 ∧ w1 ≤ 1) ∧ (0 ≤ ss ∧ ss ≤ 3) ∧ ¬ qFo ss.toNatClampNeg < 0 then kWq (qFo ss.toNatClampNeg) V2 qIt ss (if qSi ss.toNatClampNeg < mi2 then qSi ss.toNatClampNeg else mi2) else qIt) := by
  by_cases c : (0 ≤ f1 ∧ f1 < fn) ∧ (0 ≤ w1 ∧ w1 ≤ 1) ∧ (0 ≤ ss ∧ ss ≤ 3) ∧ sLo ss.toNatClampNeg = 0
  · rw [← e_nn (e ((e_wrc hl).mp c))]
    have hs := c.2.2.1
    have q := k_lf_at hl hs
    refine k_it_write hkk hk hb h (e_wrc hl) (fun c => ⟨hs, ?_⟩) (fun c z => ?_) (fun c j j0 j1 => hv c j ⟨j0, ?_⟩)
    · obtain ⟨a, ha, rfl⟩ := k_s4 hs
      have s := k_si hb (show a < 4 by omega)
      rw [nI_clamp (show a < 2 ^ 31 by omega)]
      by_cases d : n4 < qSi a
      · rw [if_pos d]
        exact ⟨hn.1, Int32.le_trans hn.2 (by decide)⟩
      · rw [if_neg d]
        refine ⟨s.2, ?_⟩
        obtain ⟨p, hp, ep⟩ := k_nat s.2
        have s1 := s.1
        rw [ep, nI_clamp hp] at s1
        rw [ep, show (60 : Int32) = nI 60 from rfl]
        exact nI_le s1 (by decide)
    · have y := q.2 c.2.2.2
      rw [k_sk hk (z.trans hkk)] at y ⊢
      exact y
    · by_cases d : n4 < qSi ss.toNatClampNeg
      · rw [if_pos d] at j1
        exact j1
      · rw [if_neg d] at j1
        exact Int32.lt_of_lt_of_le j1 (Int32.not_lt.mp d)
  · rw [if_neg (fun z => c z.1), if_neg (fun z => c ((e_wrc hl).mpr z))]
    exact h
theorem e_rdn {qFo sLo sFo qSi qIt gq0 gq1 gq2 gq3 qFt : Nat → Int32} {ss fn : Int32} (hl : k_lf qFo sLo sFo) (hb : k_bd 4 0 60 qSi) (h0 : k_it 0 qSi gq0 qIt) (h1 : k_it 1 qSi gq1 qIt) (h2 : k_it 2 qSi gq2 qIt) (h3 : k_it 3 qSi gq3 qIt) : (if 0 ≤ ss ∧ ss ≤ 3 ∧ sLo ss.toNatClampNeg = 0 then (kRd (kIm (qSi ss.toNatClampNeg) (kG4 gq0 gq1 gq2 gq3 ss.toNatClampNeg)) (qSi ss.toNatClampNeg) (kRf 0) 0 fn qFt).2.1 else fn) = (if 0 ≤ ss ∧ ss ≤ 3 ∧ ¬ qFo ss.toNatClampNeg < 0 then (kRd (fun x9 => qIt ((60 * ss) + x9).toNatClampNeg) (qSi ss.toNatClampNeg) (kRf 0) 0 fn qFt).2.1 else fn) := by
  refine k_ifc ⟨fun c => ⟨c.1, c.2.1, (k_lf_at hl ⟨c.1, c.2.1⟩).1.mp c.2.2⟩, fun c => ⟨c.1, c.2.1, (k_lf_at hl ⟨c.1, c.2.1⟩).1.mpr c.2.2⟩⟩ (fun c => ?_) (fun _ => rfl)
  rw [e_rd (qFo := qFo) (sLo := sLo) (sFo := sFo) ⟨c.1, c.2.1⟩ hb h0 h1 h2 h3]
theorem e_rdf {qFo sLo sFo qSi qIt gq0 gq1 gq2 gq3 qFt : Nat → Int32} {ss fn : Int32} (hl : k_lf qFo sLo sFo) (hb : k_bd 4 0 60 qSi) (h0 : k_it 0 qSi gq0 qIt) (h1 : k_it 1 qSi gq1 qIt) (h2 : k_it 2 qSi gq2 qIt) (h3 : k_it 3 qSi gq3 qIt) : (if 0 ≤ ss ∧ ss ≤ 3 ∧ sLo ss.toNatClampNeg = 0 then (kRd (kIm (qSi ss.toNatClampNeg) (kG4 gq0 gq1 gq2 gq3 ss.toNatClampNeg)) (qSi ss.toNatClampNeg) (kRf 0) 0 fn qFt).2.2 else qFt) = (if 0 ≤ ss ∧ ss ≤ 3 ∧ ¬ qFo ss.toNatClampNeg < 0 then (kRd (fun x9 => qIt ((60 * ss) + x9).toNatClampNeg) (qSi ss.toNatClampNeg) (kRf 0) 0 fn qFt).2.2 else qFt) := by
  refine k_ifc ⟨fun c => ⟨c.1, c.2.1, (k_lf_at hl ⟨c.1, c.2.1⟩).1.mp c.2.2⟩, fun c => ⟨c.1, c.2.1, (k_lf_at hl ⟨c.1, c.2.1⟩).1.mpr c.2.2⟩⟩ (fun c => ?_) (fun _ => rfl)
  rw [e_rd (qFo := qFo) (sLo := sLo) (sFo := sFo) ⟨c.1, c.2.1⟩ hb h0 h1 h2 h3]
theorem e_rda {qFo sLo sFo qSi qIt gq0 gq1 gq2 gq3 qFt : Nat → Int32} {ss fn : Int32} (hl : k_lf qFo sLo sFo) (hb : k_bd 4 0 60 qSi) (h0 : k_it 0 qSi gq0 qIt) (h1 : k_it 1 qSi gq1 qIt) (h2 : k_it 2 qSi gq2 qIt) (h3 : k_it 3 qSi gq3 qIt) : (if 0 ≤ ss ∧ ss ≤ 3 then (if sLo ss.toNatClampNeg = 0 then (kRd (kIm (qSi ss.toNatClampNeg) (kG4 gq0 gq1 gq2 gq3 ss.toNatClampNeg)) (qSi ss.toNatClampNeg) (kRf 0) 0 fn qFt).1 else -11) else -2) = (if 0 ≤ ss ∧ ss ≤ 3 then (if qFo ss.toNatClampNeg < 0 then -11 else (kRd (fun x9 => qIt ((60 * ss) + x9).toNatClampNeg) (qSi ss.toNatClampNeg) (kRf 0) 0 fn qFt).1) else -2) := by
  refine k_ifc Iff.rfl (fun c => ?_) (fun _ => rfl)
  have a := (k_lf_at hl c).1
  by_cases d : qFo ss.toNatClampNeg < 0
  · rw [if_pos d, if_neg (fun q => a.mp q d)]
  · rw [if_neg d, if_pos (a.mpr d), e_rd (qFo := qFo) (sLo := sLo) (sFo := sFo) c hb h0 h1 h2 h3]
theorem e_get {qFo sLo sFo qSi qIt gq0 gq1 gq2 gq3 : Nat → Int32} {ss fm ix : Int32} (hl : k_lf qFo sLo sFo) (hb : k_bd 4 0 60 qSi) (h0 : k_it 0 qSi gq0 qIt) (h1 : k_it 1 qSi gq1 qIt) (h2 : k_it 2 qSi gq2 qIt) (h3 : k_it 3 qSi gq3 qIt) : (if 0 ≤ ss ∧ ss ≤ 3 ∧ 0 ≤ fm ∧ fm ≤ 2 ∧ sLo ss.toNatClampNeg = 0 ∧ sFo ss.toNatClampNeg = fm ∧ 0 ≤ ix ∧ ix < qSi ss.toNatClampNeg then kG4 gq0 gq1 gq2 gq3 ss.toNatClampNeg ix.toNatClampNeg else -2147483648) = (if 0 ≤ ss ∧ ss ≤ 3 ∧ 0 ≤ fm ∧ fm ≤ 2 ∧ ¬ qFo ss.toNatClampNeg < 0 ∧ qFo ss.toNatClampNeg = fm ∧ 0 ≤ ix ∧ ix < qSi ss.toNatClampNeg then qIt ((60 * ss) + ix).toNatClampNeg else -2147483648) := by
  refine k_ifc (e_lyc hl) (fun c => ?_) (fun _ => rfl)
  obtain ⟨a, ha, rfl⟩ := k_s4 ⟨c.1, c.2.1⟩
  obtain ⟨i, hi, rfl⟩ := k_nat c.2.2.2.2.2.2.1
  have hx := c.2.2.2.2.2.2.2
  rw [nI_clamp (show a < 2 ^ 31 by omega)] at hx ⊢
  have s := k_si hb (show a < 4 by omega)
  obtain ⟨p, hp, ep⟩ := k_nat s.2
  have s1 := s.1
  rw [ep, nI_clamp hp] at s1
  rw [ep] at hx
  have hip : i < p := (nI_ltI hi hp).mp hx
  rw [nI_clamp hi, k_it4 h0 h1 h2 h3 ha i (by rw [ep, nI_clamp hp]; exact hip), show (60 : Int32) = nI 60 from rfl, pk_mul, nI_add, nI_clamp (by omega)]
theorem e_gx {qFo sLo sFo qSi : Nat → Int32} {ss fm ix la : Int32} (hl : k_lf qFo sLo sFo) : (if 0 ≤ ss ∧ ss ≤ 3 ∧ 0 ≤ fm ∧ fm ≤ 2 then kFd (if sLo ss.toNatClampNeg = 0 ∧ sFo ss.toNatClampNeg = fm ∧ 0 ≤ ix ∧ ix < qSi ss.toNatClampNeg then 0 else if sLo ss.toNatClampNeg = 0 ∧ sFo ss.toNatClampNeg = fm then -12 else if sLo ss.toNatClampNeg = 0 then -13 else -11) la else la) = (if 0 ≤ ss ∧ ss ≤ 3 ∧ 0 ≤ fm ∧ fm ≤ 2 then kFd (if ¬ qFo ss.toNatClampNeg < 0 ∧ qFo ss.toNatClampNeg = fm ∧ 0 ≤ ix ∧ ix < qSi ss.toNatClampNeg then 0 else if ¬ qFo ss.toNatClampNeg < 0 ∧ qFo ss.toNatClampNeg = fm then -12 else if ¬ qFo ss.toNatClampNeg < 0 then -13 else -11) la else la) := by
  refine k_ifc Iff.rfl (fun c => ?_) (fun _ => rfl)
  obtain ⟨a, b⟩ := k_lf_at hl ⟨c.1, c.2.1⟩
  refine congrArg (fun z => kFd z la) ?_
  refine k_ifc ⟨fun q => ⟨a.mp q.1, (b q.1).symm.trans q.2.1, q.2.2⟩, fun q => ⟨a.mpr q.1, (b (a.mpr q.1)).trans q.2.1, q.2.2⟩⟩ (fun _ => rfl) (fun _ => ?_)
  refine k_ifc ⟨fun q => ⟨a.mp q.1, (b q.1).symm.trans q.2⟩, fun q => ⟨a.mpr q.1, (b (a.mpr q.1)).trans q.2⟩⟩ (fun _ => rfl) (fun _ => ?_)
  exact k_ifc a (fun _ => rfl) (fun _ => rfl)
theorem e_count {q f4 f7 f2 by4 : Nat → Int32} {n4 n7 n2 fn sn la w1 : Int32} (m4 : k_ml (q 0) f4 (kv4 by4)) (m7 : k_ml (q 1) f7 (kv7 by4)) (m2 : k_ml (q 2) f2 (kv2 by4)) (e4 : n4 = kNm (q 0) (q 0) f4) (e7 : n7 = kNm (kTh7 (q 1)) (q 1) f7) (e2 : n2 = kNm (kTh2 (q 2)) (q 2) f2) : (if w1 = 0 then n4 else if w1 = 1 then n7 else if w1 = 2 then n2 else if w1 = 3 then q 0 else if w1 = 4 then q 1 else if w1 = 5 then q 2 else if w1 = 6 then fn else if w1 = 7 then sn else if w1 = 8 then la else -2) = (if w1 = 0 then kNm (q 0) (q 0) (kv4 by4) else if w1 = 1 then kNm (kTh7 (q 1)) (q 1) (kv7 by4) else if w1 = 2 then kNm (kTh2 (q 2)) (q 2) (kv2 by4) else if w1 = 3 then q 0 else if w1 = 4 then q 1 else if w1 = 5 then q 2 else if w1 = 6 then fn else if w1 = 7 then sn else if w1 = 8 then la else -2) := by
  rw [e4, e7, e2, kNm_cg m4, kNm_cg m7, kNm_cg m2]

/-! outcomes of flights -/
def kO (C : Prop) [Decidable C] (ov : Int32 → Int32) (n w : Int32) (P : kGT × kGT) (le ki so be : Int32) (hf : Int32 → Int32) : kR4 := if C then kGG ov (kCt ov w (kfu n 0) 0 P) le ki so be hf n else (0, 0, 0, 1)
/-- the class: a passenger, two geese, a height, a sore, what is learned -/
def kOC (f4 f7 f2 : Nat → Int32) (n4 n7 n2 le p l r h so : Int32) : kR4 := kO ((0 ≤ p ∧ p < n7) ∧ (0 ≤ l ∧ l < n2) ∧ 0 ≤ r ∧ r < n2) (kAt 24 f4) n4 (kAt 39 f7 ((5 * p) + 3)) ((kAt 23 f2 ((3 * l) + 0), kAt 23 f2 ((3 * l) + 1), kAt 23 f2 ((3 * l) + 0), 0), (kAt 23 f2 ((3 * r) + 0), kAt 23 f2 ((3 * r) + 1), kAt 23 f2 ((3 * r) + 0), 0)) le (kAt 39 f7 ((5 * p) + 0)) so (5 * (kAt 39 f7 ((5 * p) + 2))) (fun _ => h)
/-- the reference -/
def kOR (qMi qPs qGs : Nat → Int32) (mi pn gn le p l r so : Int32) (hf : Int32 → Int32) : kR4 := kO ((0 ≤ p ∧ p < pn) ∧ (0 ≤ l ∧ l < gn) ∧ 0 ≤ r ∧ r < gn) (kM qMi) mi (kP3 qPs p) ((kG0 qGs l, kG1 qGs l, kG0 qGs l, 0), (kG0 qGs r, kG1 qGs r, kG0 qGs r, 0)) le (kP0 qPs p) so (5 * (kP2 qPs p)) hf
/-- a trip that was boarded comes to this -/
theorem kO_trip {C : Prop} [Decidable C] {ov hf : Int32 → Int32} {n w le ki so be KI SO BE tgo tca : Int32} {P : kGT × kGT} (hn : 0 ≤ n) (h1 : tgo = if C then 1 else 0) (h2 : tca = if C then kCt ov w (kfu n 0) 0 P else 0) (h3 : C → ki = KI) (h4 : C → so = SO) (h5 : C → be = BE) : kGo ov tca le ki so be hf (kfu n (0 : Int32)) (0 : Int32) (0 : Int32) (0 : Int32) (if tgo = 0 then 1 else 0) = kO C ov n w P le KI SO BE hf := by
  unfold kO
  by_cases c : C
  · rw [if_pos c] at h1 h2
    rw [if_pos c, h1, if_neg (by decide), h2, h3 c, h4 c, h5 c]
    rfl
  · rw [if_neg c] at h1 h2
    rw [if_neg c, h1, if_pos rfl, h2]
    by_cases d : n ≤ 0
    · rw [kfu_0 d, kGo]
    · rw [kfu_s d, kGo, if_pos (Int32.le_refl 0)]
/-- a flight of the reference comes to this -/
theorem kO_done {C : Prop} [Decidable C] {ov hf : Int32 → Int32} {n w le ki so be kn fe en : Int32} {P : kGT × kGT} {qt : Nat → Int32} (h : k_fd C (k_done ov (kCt ov w (kfu n 0) 0 P) le ki so be hf n kn fe en qt) kn fe en) : fe = (kO C ov n w P le ki so be hf).1 ∧ en = (kO C ov n w P le ki so be hf).2.2.2 := by
  unfold kO
  by_cases c : C
  · rw [if_pos c]
    exact ⟨(h.1 c).1, (h.1 c).2.1⟩
  · rw [if_neg c]
    exact ⟨(h.2 c).2.1, (h.2 c).2.2⟩
theorem kO_cg {q f4 f7 f2 by4 qMi qPs qGs : Nat → Int32} {n4 n7 n2 mi pn gn le p l r h so so' : Int32} {hf : Int32 → Int32}
    (t0 : 0 ≤ (q 0).toInt ∧ (q 0).toInt ≤ 24) (t1 : 0 ≤ (q 1).toInt ∧ (q 1).toInt ≤ 39) (t2 : 0 ≤ (q 2).toInt ∧ (q 2).toInt ≤ 23)
    (m4 : k_ml (q 0) f4 (kv4 by4)) (m7 : k_ml (q 1) f7 (kv7 by4)) (m2 : k_ml (q 2) f2 (kv2 by4))
    (e4 : n4 = kNm (q 0) (q 0) f4) (e7 : n7 = kNm (kTh7 (q 1)) (q 1) f7) (e2 : n2 = kNm (kTh2 (q 2)) (q 2) f2) (hn4 : 0 ≤ n4 ∧ n4 ≤ 24)
    (r1 : mi = kNm (q 0) (q 0) (kv4 by4)) (r2 : pn = kNm (kTh7 (q 1)) (q 1) (kv7 by4)) (r3 : gn = kNm (kTh2 (q 2)) (q 2) (kv2 by4)) (r4 : k_ml mi qMi (kv4 by4)) (r5 : ∀ w : Nat, w < 4 → w ≠ 1 → (0 ≤ p ∧ p < pn) → kAt 39 f7 ((5 * p) + nI w) = qPs ((4 * p) + nI w).toNatClampNeg) (r6 : k_mq 3 2 gn (q 2) qGs (kv2 by4))
    (hs : (0 ≤ p ∧ p < pn) → so = so') (hh : ∀ i : Nat, i < 24 → h = hf (nI i)) : kOC f4 f7 f2 n4 n7 n2 le p l r h so = kOR qMi qPs qGs mi pn gn le p l r so' hf := by
  have N4 : n4 = mi := e4.trans ((kNm_cg m4).trans r1.symm)
  have N7 : n7 = pn := e7.trans ((kNm_cg m7).trans r2.symm)
  have N2 : n2 = gn := e2.trans ((kNm_cg m2).trans r3.symm)
  unfold kOC kOR kO
  rw [N7, N2]
  by_cases hC : (0 ≤ p ∧ p < pn) ∧ (0 ≤ l ∧ l < gn) ∧ 0 ≤ r ∧ r < gn
  · rw [if_pos hC, if_pos hC]
    obtain ⟨n, hn, en⟩ := k_nat (x := mi) (by rw [← N4]; exact hn4.1)
    have hn24 : n ≤ 24 := by have := hn4.2; rw [N4, en] at this; exact (nI_leI hn (by decide)).mp this
    have hov := v_m t0 m4 r1 r4 en hn
    have K0 : kAt 39 f7 ((5 * p) + 0) = kP0 qPs p := (r5 0 (by decide) (by decide) hC.1).trans (by unfold kP0; rw [show (nI 0 : Int32) = 0 from rfl, Int32.add_zero])
    have K2 : kAt 39 f7 ((5 * p) + 2) = kP2 qPs p := r5 2 (by decide) (by decide) hC.1
    have K3 : kAt 39 f7 ((5 * p) + 3) = kP3 qPs p := r5 3 (by decide) (by decide) hC.1
    have L0 : kAt 23 f2 ((3 * l) + 0) = kG0 qGs l := (v_g (w := 0) t2 m2 r3 r6 hC.2.1 (by decide)).trans (by unfold kG0; rw [show (nI 0 : Int32) = 0 from rfl, Int32.add_zero])
    have L1 : kAt 23 f2 ((3 * l) + 1) = kG1 qGs l := v_g (w := 1) t2 m2 r3 r6 hC.2.1 (by decide)
    have M0 : kAt 23 f2 ((3 * r) + 0) = kG0 qGs r := (v_g (w := 0) t2 m2 r3 r6 hC.2.2 (by decide)).trans (by unfold kG0; rw [show (nI 0 : Int32) = 0 from rfl, Int32.add_zero])
    have M1 : kAt 23 f2 ((3 * r) + 1) = kG1 qGs r := v_g (w := 1) t2 m2 r3 r6 hC.2.2 (by decide)
    rw [K0, K2, K3, L0, L1, M0, M1, N4, hs hC.1, en]
    unfold kGG
    rw [show (0 : Int32) = nI 0 from rfl, kfu_nat (by decide) hn]
    rw [kCt_cg (ov := kAt 24 f4) (ov' := kM qMi) hn hov _ 0 _ (by omega)]
    exact kGo_cg (n := n) hn hov (fun i hi => hh i (by omega)) _ 0 _ _ _ (by omega)
  · rw [if_neg hC, if_neg hC]

/-! the farthest flight -/
def kMe (o : kR4) : Int32 := (2 * o.1) + (if o.2.2.2 = 0 then 1 else 0)
theorem kMe_y {o : kR4} {r e : Int32} (h1 : r = o.1) (h2 : e = o.2.2.2) (c : e = 0) : (2 * r) + 1 = kMe o := by
  unfold kMe
  rw [← h1, ← h2, if_pos c]
theorem kMe_n {o : kR4} {r e : Int32} (h1 : r = o.1) (h2 : e = o.2.2.2) (c : ¬ e = 0) : (2 * r) + 0 = kMe o := by
  unfold kMe
  rw [← h1, ← h2, if_neg c]
def kFc (O : Int32 → kR4) : Nat → Int32 → Int32 → Int32 → Int32
  | 0, _, b, _ => b
  | k + 1, f, b, m => if m < kMe (O f) then kFc O k (f + 1) f (kMe (O f)) else kFc O k (f + 1) b m
def kFq (O : Int32 → kR4) : Nat → Int32 → Int32 → Int32 → Int32
  | 0, _, b, _ => b
  | k + 1, f, b, m => if b = -1 ∨ m < kMe (O f) then kFq O k (f + 1) f (kMe (O f)) else kFq O k (f + 1) b m
def k_fc (O : Int32 → kR4) (n f b m r : Int32) : Prop := kFc O (kfu n f) f b m = r
def k_fq (O : Int32 → kR4) (n f b m r : Int32) : Prop := kFq O (kfu n f) f b m = r
section KFA
variable {O : Int32 → kR4} {n f b m r me : Int32}
theorem kFc_y (h : k_fc O n f b m r) (hl : ¬ n ≤ f) (hm : me = kMe (O f)) (c : m < me) : k_fc O n (f + 1) f me r := by
  unfold k_fc at h ⊢
  rw [kfu_s hl, kFc, ← hm, if_pos c] at h
  exact h
theorem kFc_n (h : k_fc O n f b m r) (hl : ¬ n ≤ f) (hm : me = kMe (O f)) (c : ¬ m < me) : k_fc O n (f + 1) b m r := by
  unfold k_fc at h ⊢
  rw [kfu_s hl, kFc, ← hm, if_neg c] at h
  exact h
theorem kFc_e (h : k_fc O n f b m r) (hl : n ≤ f) : b = r := by
  unfold k_fc at h
  rw [kfu_0 hl, kFc] at h
  exact h
theorem kFq_y (h : k_fq O n f b m r) (hl : ¬ n ≤ f) (hm : me = kMe (O f)) (c : b = -1 ∨ m < me) : k_fq O n (f + 1) f me r := by
  unfold k_fq at h ⊢
  rw [kfu_s hl, kFq, ← hm, if_pos c] at h
  exact h
theorem kFq_n (h : k_fq O n f b m r) (hl : ¬ n ≤ f) (hm : me = kMe (O f)) (c : ¬ b = -1) (c2 : ¬ m < me) : k_fq O n (f + 1) b m r := by
  unfold k_fq at h ⊢
  rw [kfu_s hl, kFq, ← hm, if_neg (fun z => z.elim c c2)] at h
  exact h
theorem kFq_e (h : k_fq O n f b m r) (hl : n ≤ f) : b = r := by
  unfold k_fq at h
  rw [kfu_0 hl, kFq] at h
  exact h
end KFA
theorem kF_eq {O O' : Int32 → kR4} {n : Nat} (hn : n ≤ 8) (h : ∀ a : Nat, a < n → O (nI a) = O' (nI a)) (hp : ∀ a : Nat, a < n → 0 ≤ kMe (O (nI a))) : ∀ (k a : Nat) (b m : Int32), a + k ≤ n → ¬ b = -1 → kFc O k (nI a) b m = kFq O' k (nI a) b m
  | 0, _, _, _, _, _ => rfl
  | k + 1, a, b, m, hk, hb => by
    rw [kFc, kFq, ← h a (by omega), nI_1]
    by_cases c : m < kMe (O (nI a))
    · rw [if_pos c, if_pos (Or.inr c)]
      exact kF_eq hn h hp k (a + 1) _ _ (by omega) (k_nI_ne (by omega))
    · rw [if_neg c, if_neg (fun z => z.elim hb c)]
      exact kF_eq hn h hp k (a + 1) _ _ (by omega) hb
theorem kF_eq0 {O O' : Int32 → kR4} {n : Nat} (hn : n ≤ 8) (h : ∀ a : Nat, a < n → O (nI a) = O' (nI a)) (hp : ∀ a : Nat, a < n → 0 ≤ kMe (O (nI a))) : kFc O n (nI 0) (-1) (-1) = kFq O' n (nI 0) (-1) 0 := by
  match n, hn, h, hp with
  | 0, _, _, _ => rfl
  | n + 1, hn, h, hp =>
    have q := Int32.le_iff_toInt_le.mp (hp 0 (by omega))
    rw [show (0 : Int32).toInt = 0 from rfl] at q
    rw [kFc, kFq, ← h 0 (by omega), nI_1, if_pos (Int32.lt_iff_toInt_lt.mpr (by rw [show (-1 : Int32).toInt = -1 from rfl]; omega)), if_pos (Or.inl rfl)]
    exact kF_eq hn h hp n 1 _ _ (by omega) (by decide)
theorem kGo_rng {ov hf : Int32 → Int32} {ct le ki so be : Int32} : ∀ (k a : Nat) (x y e : Int32), ∃ j : Nat, a ≤ j ∧ j ≤ a + k ∧ (kGo ov ct le ki so be hf k (nI a) x y e).1 = nI j
  | 0, a, _, _, _ => ⟨a, Nat.le_refl a, Nat.le_refl a, rfl⟩
  | k + 1, a, x, y, e => by
    rw [kGo, nI_1]
    by_cases c1 : ct ≤ nI a
    · rw [if_pos c1]
      exact ⟨a, Nat.le_refl a, by omega, rfl⟩
    · rw [if_neg c1]
      by_cases c2 : 20 < y + kCh (hf (nI a))
      · rw [if_pos c2]
        exact ⟨a, Nat.le_refl a, by omega, rfl⟩
      · rw [if_neg c2]
        by_cases c3 : ov (nI a) < 6
        · rw [if_pos c3]
          by_cases c4 : be < x + kIns (kBt le (ov (nI a))) ki so (ov (nI a)) (hf (nI a))
          · rw [if_pos c4]
            exact ⟨a, Nat.le_refl a, by omega, rfl⟩
          · rw [if_neg c4]
            obtain ⟨j, h1, h2, h3⟩ := kGo_rng (ov := ov) (hf := hf) (ct := ct) (le := le) (ki := ki) (so := so) (be := be) k (a + 1) (x + kIns (kBt le (ov (nI a))) ki so (ov (nI a)) (hf (nI a))) (y + kCh (hf (nI a))) e
            exact ⟨j, by omega, by omega, h3⟩
        · rw [if_neg c3]
          by_cases c4 : ov (nI a) = 7
          · rw [if_pos c4]
            obtain ⟨j, h1, h2, h3⟩ := kGo_rng (ov := ov) (hf := hf) (ct := ct) (le := le) (ki := ki) (so := so) (be := be) k (a + 1) 0 0 e
            exact ⟨j, by omega, by omega, h3⟩
          · rw [if_neg c4]
            obtain ⟨j, h1, h2, h3⟩ := kGo_rng (ov := ov) (hf := hf) (ct := ct) (le := le) (ki := ki) (so := so) (be := be) k (a + 1) x (y + kCh (hf (nI a))) e
            exact ⟨j, by omega, by omega, h3⟩
theorem kO_rng {C : Prop} [Decidable C] {ov hf : Int32 → Int32} {n w le ki so be : Int32} {P : kGT × kGT} (hn : 0 ≤ n ∧ n ≤ 24) : ∃ j : Nat, j ≤ 24 ∧ (kO C ov n w P le ki so be hf).1 = nI j := by
  unfold kO
  by_cases c : C
  · rw [if_pos c]
    obtain ⟨a, ha, rfl⟩ := nI_of2 (n := 24) (M := 24) (by decide) (Int32.not_lt.mpr hn.1) hn.2
    unfold kGG
    rw [show (0 : Int32) = nI 0 from rfl, kfu_nat (by decide) (by omega)]
    obtain ⟨j, h1, h2, h3⟩ := kGo_rng (ov := ov) (hf := hf) (ct := kCt ov w (a - 0) (nI 0) P) (le := le) (ki := ki) (so := so) (be := be) (a - 0) 0 (nI 0) (nI 0) (nI 0)
    exact ⟨j, by omega, h3⟩
  · rw [if_neg c]
    exact ⟨0, by omega, rfl⟩
theorem kMe_pos {o : kR4} {j : Nat} (hj : j ≤ 24) (h : o.1 = nI j) : 0 ≤ kMe o := by
  unfold kMe
  rw [h, show (2 : Int32) = nI 2 from rfl, pk_mul]
  by_cases c : o.2.2.2 = 0
  · rw [if_pos c, nI_1]
    exact nI_pos' (by omega)
  · rw [if_neg c, Int32.add_zero]
    exact nI_pos' (by omega)

/-! what binds both sides' texts, as one word -/
def kRel (q f4 f7 f2 by4 qMi qPs qGs : Nat → Int32) (n4 n7 n2 mi pn gn : Int32) : Prop :=
  ((0 ≤ (q 0).toInt ∧ (q 0).toInt ≤ 24) ∧ (0 ≤ (q 1).toInt ∧ (q 1).toInt ≤ 39) ∧ (0 ≤ (q 2).toInt ∧ (q 2).toInt ≤ 23)) ∧
  (k_ml (q 0) f4 (kv4 by4) ∧ k_ml (q 1) f7 (kv7 by4) ∧ k_ml (q 2) f2 (kv2 by4)) ∧
  (n4 = kNm (q 0) (q 0) f4 ∧ n7 = kNm (kTh7 (q 1)) (q 1) f7 ∧ n2 = kNm (kTh2 (q 2)) (q 2) f2) ∧ (0 ≤ n4 ∧ n4 ≤ 24) ∧
  (mi = kNm (q 0) (q 0) (kv4 by4) ∧ pn = kNm (kTh7 (q 1)) (q 1) (kv7 by4) ∧ gn = kNm (kTh2 (q 2)) (q 2) (kv2 by4)) ∧
  (k_ml mi qMi (kv4 by4) ∧ k_mq 5 4 pn (q 1) qPs (kv7 by4) ∧ k_mq 3 2 gn (q 2) qGs (kv2 by4))
section KREL
variable {q f4 f7 f2 by4 qMi qPs qGs : Nat → Int32} {n4 n7 n2 mi pn gn : Int32}
theorem kRel_mk (t0 : 0 ≤ (q 0).toInt ∧ (q 0).toInt ≤ 24) (t1 : 0 ≤ (q 1).toInt ∧ (q 1).toInt ≤ 39) (t2 : 0 ≤ (q 2).toInt ∧ (q 2).toInt ≤ 23)
    (m4 : k_ml (q 0) f4 (kv4 by4)) (m7 : k_ml (q 1) f7 (kv7 by4)) (m2 : k_ml (q 2) f2 (kv2 by4))
    (e4 : n4 = kNm (q 0) (q 0) f4) (e7 : n7 = kNm (kTh7 (q 1)) (q 1) f7) (e2 : n2 = kNm (kTh2 (q 2)) (q 2) f2) (hn4 : 0 ≤ n4 ∧ n4 ≤ 24)
    (r1 : mi = kNm (q 0) (q 0) (kv4 by4)) (r2 : pn = kNm (kTh7 (q 1)) (q 1) (kv7 by4)) (r3 : gn = kNm (kTh2 (q 2)) (q 2) (kv2 by4)) (r4 : k_ml mi qMi (kv4 by4)) (r5 : k_mq 5 4 pn (q 1) qPs (kv7 by4)) (r6 : k_mq 3 2 gn (q 2) qGs (kv2 by4)) : kRel q f4 f7 f2 by4 qMi qPs qGs n4 n7 n2 mi pn gn :=
  ⟨⟨t0, t1, t2⟩, ⟨m4, m7, m2⟩, ⟨e4, e7, e2⟩, hn4, ⟨r1, r2, r3⟩, r4, r5, r6⟩
theorem kRel_n (R : kRel q f4 f7 f2 by4 qMi qPs qGs n4 n7 n2 mi pn gn) : n4 = mi ∧ n7 = pn ∧ n2 = gn := by
  obtain ⟨⟨t0, t1, t2⟩, ⟨m4, m7, m2⟩, ⟨e4, e7, e2⟩, hn4, ⟨r1, r2, r3⟩, r4, r5, r6⟩ := R
  exact ⟨e4.trans ((kNm_cg m4).trans r1.symm), e7.trans ((kNm_cg m7).trans r2.symm), e2.trans ((kNm_cg m2).trans r3.symm)⟩
theorem kRel_4 (R : kRel q f4 f7 f2 by4 qMi qPs qGs n4 n7 n2 mi pn gn) : 0 ≤ n4 ∧ n4 ≤ 24 := R.2.2.2.1
/-- what a passenger is, on both sides -/
theorem kRel_p (R : kRel q f4 f7 f2 by4 qMi qPs qGs n4 n7 n2 mi pn gn) {p : Int32} {w : Nat} (hw : w < 4) (hp : 0 ≤ p ∧ p < pn) : kAt 39 f7 ((5 * p) + nI w) = qPs ((4 * p) + nI w).toNatClampNeg := by
  obtain ⟨⟨t0, t1, t2⟩, ⟨m4, m7, m2⟩, ⟨e4, e7, e2⟩, hn4, ⟨r1, r2, r3⟩, r4, r5, r6⟩ := R
  exact v_p t1 m7 r2 r5 hp hw
/-- a flight comes to the same on both sides, with the same sore and the same height -/
theorem kRel_o (R : kRel q f4 f7 f2 by4 qMi qPs qGs n4 n7 n2 mi pn gn) {le p l r h so so' : Int32} {hf : Int32 → Int32} (hs : (0 ≤ p ∧ p < pn) → so = so') (hh : ∀ i : Nat, i < 24 → h = hf (nI i)) : kOC f4 f7 f2 n4 n7 n2 le p l r h so = kOR qMi qPs qGs mi pn gn le p l r so' hf := by
  obtain ⟨⟨t0, t1, t2⟩, ⟨m4, m7, m2⟩, ⟨e4, e7, e2⟩, hn4, ⟨r1, r2, r3⟩, r4, r5, r6⟩ := R
  exact kO_cg t0 t1 t2 m4 m7 m2 e4 e7 e2 hn4 r1 r2 r3 r4 (fun w hw _ hp => v_p t1 m7 r2 r5 hp hw) r6 hs hh
/-- the same of a reference whose passengers have another sore -/
theorem kRel_o' (R : kRel q f4 f7 f2 by4 qMi qPs qGs n4 n7 n2 mi pn gn) {le p l r h so so' : Int32} {hf : Int32 → Int32} {qw : Nat → Int32} (hq : ∀ w : Nat, w < 4 → w ≠ 1 → (0 ≤ p ∧ p < pn) → qw ((4 * p) + nI w).toNatClampNeg = qPs ((4 * p) + nI w).toNatClampNeg) (hs : (0 ≤ p ∧ p < pn) → so = so') (hh : ∀ i : Nat, i < 24 → h = hf (nI i)) : kOC f4 f7 f2 n4 n7 n2 le p l r h so = kOR qMi qw qGs mi pn gn le p l r so' hf := by
  obtain ⟨⟨t0, t1, t2⟩, ⟨m4, m7, m2⟩, ⟨e4, e7, e2⟩, hn4, ⟨r1, r2, r3⟩, r4, r5, r6⟩ := R
  exact kO_cg t0 t1 t2 m4 m7 m2 e4 e7 e2 hn4 r1 r2 r3 r4 (fun w hw h1 hp => (v_p t1 m7 r2 r5 hp hw).trans (hq w hw h1 hp).symm) r6 hs hh
/-- a passenger's own sore -/
theorem kRel_s (R : kRel q f4 f7 f2 by4 qMi qPs qGs n4 n7 n2 mi pn gn) {p : Int32} (hp : 0 ≤ p ∧ p < pn) : kAt 39 f7 ((5 * p) + 1) = kP1 qPs p := kRel_p R (w := 1) (by decide) hp
end KREL
theorem kIt_P {fn f : Int32} {ft : Nat → Int32} (hf : 0 ≤ f ∧ f < fn) : kIt fn ft f 0 = kP0 ft f ∧ kIt fn ft f 1 = kP1 ft f ∧ kIt fn ft f 2 = kP2 ft f ∧ kIt fn ft f 3 = kP3 ft f :=
  ⟨by unfold kIt kP0; rw [if_pos hf, Int32.add_zero], if_pos hf, if_pos hf, if_pos hf⟩
theorem k_h24 {h : Int32} (i : Nat) (hi : i < 24) : h = (fun x8 : Int32 => if x8 < (24 : Int32) then h else (0 : Int32)) (nI i) := by
  show h = if nI i < (24 : Int32) then h else (0 : Int32)
  rw [if_pos (by rw [show (24 : Int32) = nI 24 from rfl]; exact nI_lt hi (by decide))]

/-! laughter: sums of natural numbers -/
def kSn (f : Nat → Nat) : Nat → Nat
  | 0 => 0
  | k + 1 => kSn f k + f k
theorem kSn_cg {f g : Nat → Nat} : ∀ (n : Nat), (∀ j, j < n → f j = g j) → kSn f n = kSn g n
  | 0, _ => rfl
  | n + 1, h => by rw [kSn, kSn, kSn_cg n (fun j hj => h j (by omega)), h n (by omega)]
theorem kSn_add {f g : Nat → Nat} : ∀ n : Nat, kSn (fun j => f j + g j) n = kSn f n + kSn g n
  | 0 => rfl
  | n + 1 => by rw [kSn, kSn, kSn, kSn_add n]; omega
theorem kSn_mul {f : Nat → Nat} {c : Nat} : ∀ n : Nat, kSn (fun j => c * f j) n = c * kSn f n
  | 0 => by rw [kSn, kSn, Nat.mul_zero]
  | n + 1 => by rw [kSn, kSn, kSn_mul n, Nat.mul_add]
theorem kSn_0 : ∀ n : Nat, kSn (fun _ => 0) n = 0
  | 0 => rfl
  | n + 1 => by rw [kSn, kSn_0 n]
theorem kSn_two {f : Nat → Nat} : ∀ n : Nat, kSn f (2 * n) = kSn (fun r => f (2 * r) + f (2 * r + 1)) n
  | 0 => rfl
  | n + 1 => by
    rw [show 2 * (n + 1) = 2 * n + 1 + 1 by omega, kSn, kSn, kSn, kSn_two n]
    omega
/-- a sum that begins later -/
theorem kSn_sh {g : Nat → Nat} (s : Nat) : ∀ n : Nat, kSn (fun j => if s ≤ j then g (j - s) else 0) n = kSn g (n - s)
  | 0 => by rw [show 0 - s = 0 by omega]; rfl
  | n + 1 => by
    rw [kSn, kSn_sh s n]
    by_cases c : s ≤ n
    · rw [if_pos c, show n + 1 - s = (n - s) + 1 by omega, kSn]
    · rw [if_neg c, show n + 1 - s = 0 by omega, show n - s = 0 by omega, Nat.add_zero]
/-- ends ahead -/
theorem kSn_cut {g : Nat → Nat} (m : Nat) : ∀ n : Nat, m ≤ n → kSn (fun j => if j < m then g j else 0) n = kSn g m
  | 0, h => by rw [show m = 0 by omega]; rfl
  | n + 1, h => by
    by_cases c : m ≤ n
    · rw [kSn, kSn_cut m n c, if_neg (by omega), Nat.add_zero]
    · have e : m = n + 1 := by omega
      rw [e]
      refine kSn_cg (n + 1) (fun j hj => if_pos hj)
/-- one alone -/
theorem kSn_one {w : Nat} : ∀ n : Nat, kSn (fun j => if j = 0 then w else 0) (n + 1) = w
  | 0 => by rw [kSn, kSn, if_pos rfl, Nat.zero_add]
  | n + 1 => by rw [kSn, kSn_one n, if_neg (by omega), Nat.add_zero]
/-- what may befall on a mile: 0 nothing, 1 rest, 2 the end, 3 a town that doesn't matter, from 4 on a town whose call counts three less -/
def kWt (kd : Nat → Nat) (b c u : Nat) : Nat → Nat → Nat → Nat
  | 0, _, _ => 1
  | k + 1, i, a => if kd i = 0 then kWt kd b c u k (i + 1) a else if kd i = 1 then kWt kd b c u k (i + 1) 0 else if kd i = 2 then 0 else if kd i = 3 then u * kWt kd b c u k (i + 1) a else (16 - c) * kWt kd b c u k (i + 1) a + (if a + (kd i - 3) ≤ b then c * kWt kd b c u k (i + 1) (a + (kd i - 3)) else 0)
/-- how many miles are such -/
def kNo (p : Nat → Bool) : Nat → Nat → Nat
  | 0, _ => 0
  | k + 1, i => (if p i then 1 else 0) + kNo p k (i + 1)
theorem kWt_u {kd : Nat → Nat} {b c : Nat} : ∀ (k i a : Nat), kWt kd b c 16 k i a = 16 ^ kNo (fun j => kd j == 3) k i * kWt kd b c 1 k i a
  | 0, _, _ => by rw [kWt, kWt, kNo, Nat.pow_zero, Nat.one_mul]
  | k + 1, i, a => by
    have ih := fun a => kWt_u (kd := kd) (b := b) (c := c) k (i + 1) a
    rw [kWt, kWt, kNo]
    by_cases c0 : kd i = 0
    · rw [if_pos c0, if_pos c0, if_neg (by rw [c0]; decide), Nat.zero_add]; exact ih a
    · rw [if_neg c0, if_neg c0]
      by_cases c1 : kd i = 1
      · rw [if_pos c1, if_pos c1, if_neg (by rw [c1]; decide), Nat.zero_add]; exact ih 0
      · rw [if_neg c1, if_neg c1]
        by_cases c2 : kd i = 2
        · rw [if_pos c2, if_pos c2, Nat.mul_zero]
        · rw [if_neg c2, if_neg c2]
          by_cases c3 : kd i = 3
          · rw [if_pos c3, if_pos c3, if_pos (by rw [c3]; decide), Nat.one_mul, ih a, Nat.pow_add, Nat.pow_one, Nat.mul_assoc]
          · have b3 : ¬ (kd i == 3) = true := by simpa using c3
            rw [if_neg c3, if_neg c3, if_neg b3, Nat.zero_add]
            by_cases d : a + (kd i - 3) ≤ b
            · rw [if_pos d, if_pos d, ih a, ih (a + (kd i - 3)), Nat.mul_add, ← Nat.mul_assoc, ← Nat.mul_assoc, ← Nat.mul_assoc, ← Nat.mul_assoc, Nat.mul_comm (16 - c), Nat.mul_comm c]
            · rw [if_neg d, if_neg d, ih a]
              simp only [Nat.add_zero]
              rw [← Nat.mul_assoc, ← Nat.mul_assoc, Nat.mul_comm (16 - c)]
/-- whether he arrives, by the bits of those that call -/
def kSv (kd : Nat → Nat) (b : Nat) : Nat → Nat → Nat → Nat → Nat
  | 0, _, _, _ => 1
  | k + 1, i, a, s => if kd i = 0 then kSv kd b k (i + 1) a s else if kd i = 1 then kSv kd b k (i + 1) 0 s else if kd i = 2 then 0 else if kd i = 3 then kSv kd b k (i + 1) a (s / 2) else if s % 2 = 1 then (if a + (kd i - 3) ≤ b then kSv kd b k (i + 1) (a + (kd i - 3)) (s / 2) else 0) else kSv kd b k (i + 1) a (s / 2)
def kWg (c : Nat) : Nat → Nat → Nat
  | 0, _ => 1
  | n + 1, s => (if s % 2 = 1 then c else 16 - c) * kWg c n (s / 2)
/-- all that call by chance, told one by one -/
theorem kSv_sum {kd : Nat → Nat} {b c : Nat} (hc : c ≤ 16) : ∀ (k i a : Nat), kSn (fun s => kSv kd b k i a s * kWg c (kNo (fun j => decide (3 ≤ kd j)) k i) s) (2 ^ kNo (fun j => decide (3 ≤ kd j)) k i) = kWt kd b c 16 k i a
  | 0, _, _ => by rw [kNo, Nat.pow_zero, kSn, kSn, kSv, kWg, kWt]
  | k + 1, i, a => by
    have ih := fun a => kSv_sum (kd := kd) (b := b) hc k (i + 1) a
    rw [kWt, kNo]
    by_cases c0 : kd i = 0
    · rw [if_pos c0, if_neg (by rw [c0]; decide), Nat.zero_add, ← ih a]
      exact kSn_cg _ (fun s _ => by rw [kSv, if_pos c0])
    · rw [if_neg c0]
      by_cases c1 : kd i = 1
      · rw [if_pos c1, if_neg (by rw [c1]; decide), Nat.zero_add, ← ih 0]
        exact kSn_cg _ (fun s _ => by rw [kSv, if_neg c0, if_pos c1])
      · rw [if_neg c1]
        by_cases c2 : kd i = 2
        · rw [if_pos c2]
          exact (kSn_cg (g := fun _ => 0) _ (fun s _ => by rw [kSv, if_neg c0, if_neg c1, if_pos c2, Nat.zero_mul])).trans (kSn_0 _)
        · rw [if_neg c2]
          have h3 : 3 ≤ kd i := by omega
          rw [if_pos (by simpa using h3), Nat.add_comm 1, Nat.pow_succ, Nat.mul_comm _ 2, kSn_two]
          have e0 : ∀ r : Nat, 2 * r % 2 = 0 := fun r => by omega
          have e1 : ∀ r : Nat, (2 * r + 1) % 2 = 1 := fun r => by omega
          have d0 : ∀ r : Nat, 2 * r / 2 = r := fun r => by omega
          have d1 : ∀ r : Nat, (2 * r + 1) / 2 = r := fun r => by omega
          by_cases c3 : kd i = 3
          · rw [if_pos c3, ← ih a, ← kSn_mul]
            refine kSn_cg _ (fun r _ => ?_)
            rw [kSv, kSv, if_neg c0, if_neg c1, if_neg c2, if_pos c3, if_neg c0, if_neg c1, if_neg c2, if_pos c3, kWg, kWg, e0, e1, d0, d1, if_neg (by decide), if_pos rfl]
            have q : (16 - c) + c = 16 := by omega
            rw [Nat.mul_left_comm, Nat.mul_left_comm _ c, ← Nat.add_mul, q]
          · rw [if_neg c3, kSn_add, ← ih a, ← kSn_mul]
            have left : kSn (fun r => kSv kd b (k + 1) i a (2 * r) * kWg c (kNo (fun j => decide (3 ≤ kd j)) k (i + 1) + 1) (2 * r)) (2 ^ kNo (fun j => decide (3 ≤ kd j)) k (i + 1)) = kSn (fun j => (16 - c) * (kSv kd b k (i + 1) a j * kWg c (kNo (fun j => decide (3 ≤ kd j)) k (i + 1)) j)) (2 ^ kNo (fun j => decide (3 ≤ kd j)) k (i + 1)) := kSn_cg _ (fun r _ => by
              rw [kSv, if_neg c0, if_neg c1, if_neg c2, if_neg c3, kWg, e0, d0, if_neg (by decide), if_neg (by decide), Nat.mul_left_comm])
            rw [left]
            by_cases d : a + (kd i - 3) ≤ b
            · rw [if_pos d, ← ih (a + (kd i - 3)), ← kSn_mul]
              refine congrArg _ (kSn_cg _ (fun r _ => ?_))
              rw [kSv, if_neg c0, if_neg c1, if_neg c2, if_neg c3, kWg, e1, d1, if_pos rfl, if_pos rfl, if_pos d, Nat.mul_left_comm]
            · rw [if_neg d, ← kSn_0 (2 ^ kNo (fun j => decide (3 ≤ kd j)) k (i + 1))]
              refine congrArg _ (kSn_cg _ (fun r _ => ?_))
              rw [kSv, if_neg c0, if_neg c1, if_neg c2, if_neg c3, e1, if_pos rfl, if_neg d, Nat.zero_mul]
/-! the class's weights, mile by mile -/
def kHe (b c s : Nat) (V : Nat → Nat) : Nat → Nat := fun j => if j ≤ b then V j * (16 - c) + (if s ≤ j then V (j - s) * c else 0) else V j
def kDp (kd : Nat → Nat) (b c : Nat) : Nat → Nat → (Nat → Nat) → Nat
  | 0, _, V => kSn V (b + 1)
  | k + 1, i, V => if kd i = 1 then kDp kd b c k (i + 1) (fun j => if j = 0 then kSn V (b + 1) else 0) else if kd i = 2 then 0 else if 4 ≤ kd i then kDp kd b c k (i + 1) (kHe b c (kd i - 3) V) else kDp kd b c k (i + 1) V
theorem kDp_eq {kd : Nat → Nat} {b c : Nat} : ∀ (k i : Nat) (V : Nat → Nat), kDp kd b c k i V = kSn (fun a => V a * kWt kd b c 1 k i a) (b + 1)
  | 0, i, V => by
    rw [kDp]
    exact kSn_cg _ (fun j _ => by rw [kWt, Nat.mul_one])
  | k + 1, i, V => by
    have ih := fun V => kDp_eq (kd := kd) (b := b) (c := c) k (i + 1) V
    rw [kDp]
    by_cases c1 : kd i = 1
    · rw [if_pos c1, ih]
      have e : kSn (fun a => V a * kWt kd b c 1 (k + 1) i a) (b + 1) = kSn (fun a => kWt kd b c 1 k (i + 1) 0 * V a) (b + 1) := kSn_cg _ (fun a _ => by rw [kWt, if_neg (by omega), if_pos c1, Nat.mul_comm])
      rw [e, kSn_mul, ← kSn_one (w := kWt kd b c 1 k (i + 1) 0 * kSn V (b + 1)) b]
      refine kSn_cg _ (fun a _ => ?_)
      by_cases z : a = 0
      · rw [if_pos z, if_pos z, z, Nat.mul_comm]
      · rw [if_neg z, if_neg z, Nat.zero_mul]
    · rw [if_neg c1]
      by_cases c2 : kd i = 2
      · rw [if_pos c2, ← kSn_0 (b + 1)]
        exact kSn_cg _ (fun a _ => by rw [kWt, if_neg (by omega), if_neg c1, if_pos c2, Nat.mul_zero])
      · rw [if_neg c2]
        by_cases c4 : 4 ≤ kd i
        · rw [if_pos c4, ih]
          have e : kSn (fun a => V a * kWt kd b c 1 (k + 1) i a) (b + 1) = kSn (fun a => V a * (16 - c) * kWt kd b c 1 k (i + 1) a) (b + 1) + kSn (fun a => if a < b + 1 - (kd i - 3) then V a * c * kWt kd b c 1 k (i + 1) (a + (kd i - 3)) else 0) (b + 1) := by
            rw [← kSn_add]
            refine kSn_cg _ (fun a _ => ?_)
            rw [kWt, if_neg (by omega), if_neg c1, if_neg c2, if_neg (by omega), Nat.mul_add, Nat.mul_assoc]
            by_cases d : a + (kd i - 3) ≤ b
            · rw [if_pos d, if_pos (by omega), Nat.mul_assoc]
            · rw [if_neg d, if_neg (by omega), Nat.mul_zero]
          rw [e, kSn_cut _ _ (by omega), ← kSn_sh (kd i - 3) (b + 1), ← kSn_add]
          refine kSn_cg _ (fun j hj => ?_)
          show kHe b c (kd i - 3) V j * kWt kd b c 1 k (i + 1) j = _
          unfold kHe
          rw [if_pos (by omega), Nat.add_mul]
          by_cases d : kd i - 3 ≤ j
          · rw [if_pos d, if_pos d, show j - (kd i - 3) + (kd i - 3) = j by omega]
          · rw [if_neg d, if_neg d, Nat.zero_mul]
        · rw [if_neg c4, ih]
          refine kSn_cg _ (fun a _ => ?_)
          rw [kWt.eq_def kd b c 1 (k + 1)]
          show _ = V a * (if kd i = 0 then kWt kd b c 1 k (i + 1) a else if kd i = 1 then kWt kd b c 1 k (i + 1) 0 else if kd i = 2 then 0 else if kd i = 3 then 1 * kWt kd b c 1 k (i + 1) a else (16 - c) * kWt kd b c 1 k (i + 1) a + (if a + (kd i - 3) ≤ b then c * kWt kd b c 1 k (i + 1) (a + (kd i - 3)) else 0))
          by_cases c0 : kd i = 0
          · rw [if_pos c0]
          · rw [if_neg c0, if_neg c1, if_neg c2, if_pos (by omega), Nat.one_mul]
/-! lowest terms -/
theorem k_gcd_u {A e u : Nat} : A * 16 ^ u / Nat.gcd (A * 16 ^ u) (16 ^ (e + u)) = A / Nat.gcd A (16 ^ e) ∧ 16 ^ (e + u) / Nat.gcd (A * 16 ^ u) (16 ^ (e + u)) = 16 ^ e / Nat.gcd A (16 ^ e) := by
  have p : 0 < 16 ^ u := Nat.pow_pos (by decide)
  rw [Nat.pow_add, Nat.gcd_mul_right]
  exact ⟨Nat.mul_div_mul_right _ _ p, Nat.mul_div_mul_right _ _ p⟩
theorem k_gcd_2 {x j : Nat} (h : x % 2 = 0) : x / Nat.gcd x (2 ^ (j + 1)) = (x / 2) / Nat.gcd (x / 2) (2 ^ j) ∧ 2 ^ (j + 1) / Nat.gcd x (2 ^ (j + 1)) = 2 ^ j / Nat.gcd (x / 2) (2 ^ j) := by
  have e : x = x / 2 * 2 := by omega
  have g : Nat.gcd x (2 ^ (j + 1)) = Nat.gcd (x / 2) (2 ^ j) * 2 := by
    conv => lhs; rw [e]
    rw [Nat.pow_succ, Nat.gcd_mul_right]
  rw [g]
  constructor
  · have q := Nat.mul_div_mul_right (x / 2) (Nat.gcd (x / 2) (2 ^ j)) (show 0 < 2 by decide)
    rw [← e] at q
    exact q
  · rw [Nat.pow_succ]
    exact Nat.mul_div_mul_right _ _ (show 0 < 2 by decide)
theorem k_gcd_o : ∀ {x : Nat} (j : Nat), x % 2 = 1 → Nat.gcd x (2 ^ j) = 1
  | x, 0, _ => by rw [Nat.pow_zero, Nat.gcd_one_right]
  | x, j + 1, h => by
    rw [Nat.pow_succ]
    have a : Nat.Coprime x (2 ^ j) := k_gcd_o j h
    have b : Nat.Coprime x 2 := by
      unfold Nat.Coprime
      rw [Nat.gcd_comm, Nat.gcd_rec, h]
      decide
    exact Nat.Coprime.mul_right a b

/-! longs that are natural numbers -/
theorem lJ_toInt {n : Nat} (h : n < 2 ^ 62) : (lN n).toInt = (n : Int) := Int64.toInt_ofNat_of_lt (by omega)
theorem lJ_eq {a b : Nat} (ha : a < 2 ^ 62) (hb : b < 2 ^ 62) : lN a = lN b ↔ a = b := by
  rw [← Int64.toInt_inj, lJ_toInt ha, lJ_toInt hb]; omega
theorem lJ_lt {a b : Nat} (ha : a < 2 ^ 62) (hb : b < 2 ^ 62) : lN a < lN b ↔ a < b := by
  rw [Int64.lt_iff_toInt_lt, lJ_toInt ha, lJ_toInt hb]; omega
theorem lJ_div {a d : Nat} (ha : a < 2 ^ 62) (h0 : 0 < d) (hd : d < 2 ^ 62) : lN a / lN d = lN (a / d) := by
  have hq : a / d < 2 ^ 62 := Nat.lt_of_le_of_lt (Nat.div_le_self a d) ha
  have ne : lN d ≠ -1 := fun z => by
    have q := congrArg Int64.toInt z
    rw [lJ_toInt hd, show (-1 : Int64).toInt = -1 from rfl] at q
    omega
  refine Int64.toInt_inj.mp ?_
  rw [Int64.toInt_div_of_ne_right _ _ ne, lJ_toInt ha, lJ_toInt hd, lJ_toInt hq]
  exact (Int.ofNat_tdiv a d).symm
theorem lJ_rem {a d : Nat} (ha : a < 2 ^ 62) (h0 : 0 < d) (hd : d < 2 ^ 62) : lN a - lN a / lN d * lN d = lN (a % d) := by
  have q := Nat.div_add_mod a d
  rw [lJ_div ha h0 hd, lN_mul, lN_sub (by rw [Nat.mul_comm]; omega), show a - a / d * d = a % d by rw [Nat.mul_comm]; omega]
/-! the class's rows of weights -/
def kSJ (f : Nat → Int64) : Nat → Int64
  | 0 => 0
  | k + 1 => kSJ f k + f k
theorem kSJ_n {f : Nat → Int64} {V : Nat → Nat} : ∀ n : Nat, (∀ j, j < n → f j = lN (V j)) → kSJ f n = lN (kSn V n)
  | 0, _ => rfl
  | n + 1, h => by rw [kSJ, kSn, kSJ_n n (fun j hj => h j (by omega)), h n (by omega), lN_add]
theorem kSJ_s {f : Nat → Int64} {i : Int32} {su : Int64} (h0 : 0 ≤ i ∧ i.toInt ≤ 1000) (h : su = kSJ f i.toNatClampNeg) : su + f i.toNatClampNeg = kSJ f (i + 1).toNatClampNeg := by
  obtain ⟨a, ha, rfl⟩ := k_nat h0.1
  rw [nI_toInt ha] at h0
  rw [nI_1, nI_clamp (by omega), nI_clamp (by omega)] at *
  rw [h, kSJ]
def k_cm (f : Nat → Int64) (w : Int64) : Prop := f 0 = w ∧ ∀ j : Nat, 0 < j → j < 46 → f j = 0
def k_c0 (i : Int32) (f : Nat → Int64) : Prop := ∀ j : Nat, 0 < j → j < i.toNatClampNeg → f j = 0
theorem k_c0_1 {f : Nat → Int64} : k_c0 1 f := fun j h1 h2 => absurd h2 (by rw [show (1 : Int32).toNatClampNeg = 1 from rfl]; omega)
theorem k_c0_s {f : Nat → Int64} {i : Int32} (h0 : 0 ≤ i ∧ i.toInt ≤ 1000) (h : k_c0 i f) : k_c0 (i + 1) (vp_updL f i.toNatClampNeg 0) := by
  obtain ⟨a, ha, rfl⟩ := k_nat h0.1
  rw [nI_toInt ha] at h0
  intro j h1 h2
  rw [nI_1, nI_clamp (by omega)] at h2
  unfold k_c0 at h
  rw [nI_clamp (by omega)] at h ⊢
  by_cases e : j = a
  · rw [e, pk_uLs]
  · rw [pk_uLn e]; exact h j h1 (by omega)
theorem k_c0_e {f : Nat → Int64} {i : Int32} {w : Int64} (hi : i = 46) (h : k_c0 i f) : k_cm (vp_updL f (0 : Int32).toNatClampNeg w) w := by
  rw [hi] at h
  refine ⟨pk_uLs, fun j h1 h2 => ?_⟩
  rw [show (0 : Int32).toNatClampNeg = 0 from rfl, pk_uLn (by omega)]
  exact h j h1 (by rw [show (46 : Int32).toNatClampNeg = 46 from rfl]; exact h2)
/-- one call heard -/
def kNw (c s : Int32) (f : Nat → Int64) (j : Nat) : Int64 := f j * (16 - c).toInt64 + (if s ≤ nI j then f (nI j - s).toNatClampNeg * c.toInt64 else 0)
def k_hi (c s br g : Int32) (f q : Nat → Int64) : Prop := ∀ j : Nat, j < 46 → q j = if g < nI j ∧ nI j ≤ br then kNw c s f j else f j
section KHI
variable {c s br g : Int32} {f q : Nat → Int64}
theorem k_hi_0 (h : g = if 45 < br then 45 else br) : k_hi c s br g f f := fun j hj => by
  rw [if_neg (fun z => ?_)]
  have z1 := z.1
  rw [h] at z1
  by_cases d : (45 : Int32) < br
  · rw [if_pos d] at z1
    exact absurd z1 (by rw [show (45 : Int32) = nI 45 from rfl]; exact nI_nlt (by omega) (by decide))
  · rw [if_neg d] at z1
    exact absurd z.2 (Int32.not_le.mpr z1)
theorem k_hi_e (h : k_hi c s br g f q) (hg : g < 0) (j : Nat) (hj : j < 46) : q j = if nI j ≤ br then kNw c s f j else f j := by
  rw [h j hj]
  have lt : g < nI j := Int32.lt_of_lt_of_le hg (nI_pos' (by omega))
  by_cases d : nI j ≤ br
  · rw [if_pos ⟨lt, d⟩, if_pos d]
  · rw [if_neg (fun z => d z.2), if_neg d]
/-- the old weights stand where it hasn't come to -/
theorem k_hi_o (h : k_hi c s br g f q) {x : Int32} (hx : 0 ≤ x ∧ x ≤ g) (hg : g ≤ 45) : q x.toNatClampNeg = f x.toNatClampNeg := by
  obtain ⟨a, ha, rfl⟩ := nI_of2 (n := 45) (M := 45) (by decide) (Int32.not_lt.mpr hx.1) (Int32.le_trans hx.2 hg)
  rw [nI_clamp (by omega), h a (by omega), if_neg (fun z => absurd z.1 (Int32.not_lt.mpr hx.2))]
theorem k_hi_s {v : Int64} (h : k_hi c s br g f q) (hg : 0 ≤ g ∧ g ≤ 45) (hb : g ≤ br) (hv : v = kNw c s f g.toNatClampNeg) : k_hi c s br (g - 1) f (vp_updL q g.toNatClampNeg v) := by
  obtain ⟨a, ha, rfl⟩ := nI_of2 (n := 45) (M := 45) (by decide) (Int32.not_lt.mpr hg.1) hg.2
  rw [nI_clamp (by omega)] at hv ⊢
  have m1 : ∀ j : Nat, j < 46 → (nI a - 1 < nI j ↔ a ≤ j) := fun j hj => by
    rw [Int32.lt_iff_toInt_lt, Int32.toInt_sub, nI_toInt (by omega), nI_toInt (by omega), show (1 : Int32).toInt = 1 from rfl, k_bm (by omega) (by omega)]
    omega
  intro j hj
  by_cases e : j = a
  · rw [e, pk_uLs, if_pos ⟨(m1 a (by omega)).mpr (Nat.le_refl a), hb⟩, hv]
  · rw [pk_uLn e, h j hj]
    have q1 : nI a < nI j ↔ nI a - 1 < nI j := by rw [m1 j hj, nI_ltI (by omega) (by omega)]; omega
    by_cases d : nI a < nI j ∧ nI j ≤ br
    · rw [if_pos d, if_pos ⟨q1.mp d.1, d.2⟩]
    · rw [if_neg d, if_neg (fun z => d ⟨q1.mpr z.1, z.2⟩)]
end KHI
/-- in numbers -/
theorem kNw_n {C S B : Nat} {f : Nat → Int64} {V : Nat → Nat} (hC : C ≤ 16) (hS : S ≤ 100) (h : ∀ j, j < 46 → f j = lN (V j)) (j : Nat) (hj : j < 46) : (if nI j ≤ nI B then kNw (nI C) (nI S) f j else f j) = lN (if j ≤ B then V j * (16 - C) + (if S ≤ j then V (j - S) * C else 0) else V j) ∨ ¬ B < 2 ^ 31 := by
  by_cases hB : B < 2 ^ 31
  · refine Or.inl ?_
    have e16 : ((16 : Int32) - nI C).toInt64 = lN (16 - C) := by
      have : (16 : Int32) - nI C = nI (16 - C) := by
        rw [show (16 : Int32) = nI (16 - C) + nI C by rw [nI_add, Nat.sub_add_cancel hC]; rfl, Int32.add_sub_cancel]
      rw [this, nI_l (by omega)]
    have eC : (nI C).toInt64 = lN C := nI_l (by omega)
    by_cases d : j ≤ B
    · rw [if_pos (nI_le d hB), if_pos d]
      unfold kNw
      rw [e16, eC, h j hj, lN_mul]
      by_cases z : S ≤ j
      · have e : (nI j - nI S : Int32).toNatClampNeg = j - S := by
          have : nI j - nI S = nI (j - S) := by
            rw [show nI j = nI (j - S) + nI S by rw [nI_add, Nat.sub_add_cancel z], Int32.add_sub_cancel]
          rw [this, nI_clamp (by omega)]
        rw [if_pos (nI_le z (by omega)), if_pos z, e, h (j - S) (by omega), lN_mul, lN_add]
      · rw [if_neg (fun q => z ((nI_leI (by omega) (by omega)).mp q)), if_neg z, show (0 : Int64) = lN 0 from rfl, lN_add]
    · rw [if_neg (fun q => d ((nI_leI (by omega) hB).mp q)), if_neg d]
      exact h j hj
  · exact Or.inr hB

/-! lowest terms, in the class and in the reference -/
def k_re (ab bl : Int64) (i : Int32) (y1 y2 : Int64) : Prop := ∀ A k : Nat, ab = lN A → A < 2 ^ 61 → bl = lN (2 ^ k) → k ≤ 60 → ∃ x j : Nat, y1 = lN x ∧ x ≤ A ∧ y2 = lN (2 ^ j) ∧ j ≤ k ∧ i = nI (k - j) ∧ x / Nat.gcd x (2 ^ j) = A / Nat.gcd A (2 ^ k) ∧ 2 ^ j / Nat.gcd x (2 ^ j) = 2 ^ k / Nat.gcd A (2 ^ k)
def k_rz (ab bl y1 y2 : Int64) : Prop := ∀ A k : Nat, ab = lN A → A < 2 ^ 61 → bl = lN (2 ^ k) → k ≤ 60 → y1 = lN (A / Nat.gcd A (2 ^ k)) ∧ y2 = lN (2 ^ k / Nat.gcd A (2 ^ k))
theorem k_p2 {j : Nat} (h : j ≤ 60) : 2 ^ j < 2 ^ 62 := Nat.pow_lt_pow_right (by decide) (by omega)
section KRE
variable {ab bl y1 y2 : Int64} {i : Int32}
theorem k_re_0 : k_re ab bl 0 ab bl := fun A k h1 h2 h3 h4 => ⟨A, k, h1, Nat.le_refl A, h3, Nat.le_refl k, by rw [Nat.sub_self]; rfl, rfl, rfl⟩
theorem k_re_s (h : k_re ab bl i y1 y2) (c1 : 1 < y2) (c2 : y1 - y1 / 2 * 2 = 0) : k_re ab bl (i + 1) (y1 / 2) (y2 / 2) := fun A k h1 h2 h3 h4 => by
  obtain ⟨x, j, e1, e2, e3, e4, e5, e6, e7⟩ := h A k h1 h2 h3 h4
  have hx : x < 2 ^ 62 := Nat.lt_of_le_of_lt e2 (Nat.lt_trans h2 (by decide))
  have hj : 2 ^ j < 2 ^ 62 := k_p2 (by omega)
  rw [e3, show (1 : Int64) = lN 1 from rfl] at c1
  have j1 : 1 < 2 ^ j := (lJ_lt (by decide) hj).mp c1
  have jp : j ≠ 0 := fun z => by rw [z] at j1; exact absurd j1 (by decide)
  obtain ⟨m, rfl⟩ : ∃ m, j = m + 1 := ⟨j - 1, by omega⟩
  rw [e1, show (2 : Int64) = lN 2 from rfl, lJ_rem hx (by decide) (by decide), show (0 : Int64) = lN 0 from rfl] at c2
  have ev : x % 2 = 0 := (lJ_eq (Nat.lt_of_lt_of_le (Nat.mod_lt x (by decide)) (by decide)) (by decide)).mp c2
  obtain ⟨g1, g2⟩ := k_gcd_2 (j := m) ev
  refine ⟨x / 2, m, ?_, by omega, ?_, by omega, ?_, ?_, ?_⟩
  · rw [e1, show (2 : Int64) = lN 2 from rfl, lJ_div hx (by decide) (by decide)]
  · rw [e3, show (2 : Int64) = lN 2 from rfl, lJ_div hj (by decide) (by decide), Nat.pow_succ, Nat.mul_div_cancel _ (by decide)]
  · rw [e5, nI_1, show k - (m + 1) + 1 = k - m by omega]
  · rw [← g1]; exact e6
  · rw [← g2]; exact e7
theorem k_re_e1 (h : k_re ab bl i y1 y2) (c1 : ¬ 1 < y2) : k_rz ab bl y1 y2 := fun A k h1 h2 h3 h4 => by
  obtain ⟨x, j, e1, e2, e3, e4, e5, e6, e7⟩ := h A k h1 h2 h3 h4
  have hj : 2 ^ j < 2 ^ 62 := k_p2 (by omega)
  have j0 : 2 ^ j = 1 := by
    have : ¬ 1 < 2 ^ j := fun z => c1 (by rw [e3, show (1 : Int64) = lN 1 from rfl]; exact (lJ_lt (by decide) hj).mpr z)
    have : 0 < 2 ^ j := Nat.pow_pos (by decide)
    omega
  rw [j0, Nat.gcd_one_right, Nat.div_one] at e6 e7
  exact ⟨by rw [← e6, e1], by rw [← e7, e3, j0]⟩
theorem k_re_e2 (h : k_re ab bl i y1 y2) (c2 : ¬ y1 - y1 / 2 * 2 = 0) : k_rz ab bl y1 y2 := fun A k h1 h2 h3 h4 => by
  obtain ⟨x, j, e1, e2, e3, e4, e5, e6, e7⟩ := h A k h1 h2 h3 h4
  have hx : x < 2 ^ 62 := Nat.lt_of_le_of_lt e2 (Nat.lt_trans h2 (by decide))
  rw [e1, show (2 : Int64) = lN 2 from rfl, lJ_rem hx (by decide) (by decide), show (0 : Int64) = lN 0 from rfl] at c2
  have od : x % 2 = 1 := by
    have : ¬ x % 2 = 0 := fun z => c2 (by rw [z])
    omega
  rw [k_gcd_o j od, Nat.div_one] at e6 e7
  exact ⟨by rw [← e6, e1], by rw [← e7, e3]⟩
theorem k_re_e3 (h : k_re ab bl i y1 y2) (c3 : 63 ≤ i) : k_rz ab bl y1 y2 := fun A k h1 h2 h3 h4 => by
  obtain ⟨x, j, e1, e2, e3, e4, e5, e6, e7⟩ := h A k h1 h2 h3 h4
  rw [e5, show (63 : Int32) = nI 63 from rfl] at c3
  have := (nI_leI (by decide) (by omega)).mp c3
  omega
end KRE
def k_pt (ab bl a b : Int64) : Prop := ∀ A B : Nat, ab = lN A → bl = lN B → A < 2 ^ 62 → B < 2 ^ 62 → 0 < B → ∃ x y : Nat, a = lN x ∧ b = lN y ∧ x < 2 ^ 62 ∧ y < 2 ^ 62 ∧ Nat.gcd x y = Nat.gcd A B
def k_pz (ab bl : Int64) (w : Int32) (r : Int64) : Prop := ∀ A B : Nat, ab = lN A → bl = lN B → A < 2 ^ 62 → B < 2 ^ 62 → 0 < B → r = if w = 0 then lN (A / Nat.gcd A B) else lN (B / Nat.gcd A B)
section KPT
variable {ab bl a b : Int64} {w : Int32}
theorem k_pt_0 : k_pt ab bl ab bl := fun A B h1 h2 h3 h4 _ => ⟨A, B, h1, h2, h3, h4, rfl⟩
theorem k_pt_s (h : k_pt ab bl a b) (c : ¬ b = 0) : k_pt ab bl b (a - a / b * b) := fun A B h1 h2 h3 h4 h5 => by
  obtain ⟨x, y, e1, e2, e3, e4, e5⟩ := h A B h1 h2 h3 h4 h5
  have y0 : 0 < y := by
    rcases Nat.eq_zero_or_pos y with z | z
    · exact absurd (by rw [e2, z]; rfl) c
    · exact z
  refine ⟨y, x % y, e2, ?_, e4, Nat.lt_trans (Nat.mod_lt x y0) e4, ?_⟩
  · rw [e1, e2, lJ_rem e3 y0 e4]
  · rw [← e5, Nat.gcd_comm x y, Nat.gcd_rec y x, Nat.gcd_comm]
theorem k_pt_e (h : k_pt ab bl a b) (c : b = 0) (r : Int64) (hr : r = (if w = 0 then ab else bl) / a) : k_pz ab bl w r := fun A B h1 h2 h3 h4 h5 => by
  obtain ⟨x, y, e1, e2, e3, e4, e5⟩ := h A B h1 h2 h3 h4 h5
  have y0 : y = 0 := (lJ_eq e4 (by decide)).mp (by rw [← e2, c]; rfl)
  rw [y0, Nat.gcd_zero_right] at e5
  have gp : 0 < Nat.gcd A B := Nat.gcd_pos_of_pos_right A h5
  rw [hr, e1, e5]
  have gl : Nat.gcd A B < 2 ^ 62 := by rw [← e5]; exact e3
  by_cases z : w = 0
  · rw [if_pos z, if_pos z, h1, lJ_div h3 gp gl]
  · rw [if_neg z, if_neg z, h2, lJ_div h4 gp gl]
end KPT
/-! bits -/
theorem nI_and (a b : Nat) : nI a &&& nI b = nI (a &&& b) := Int32.toBitVec_inj.mp (BitVec.ofNat_and (w := 32)).symm
theorem nI_or (a b : Nat) : nI a ||| nI b = nI (a ||| b) := Int32.toBitVec_inj.mp (BitVec.ofNat_or (w := 32)).symm
theorem kBt_n {s m : Nat} (hs : s < 2 ^ 31) (hm : m < 24) : kBt (nI s) (nI m) = nI (s / 2 ^ m % 2) := by
  have e : ∀ k, k < 24 → ((nI k &&& 31).toBitVec.smod 32).toNat = k := by decide +kernel
  unfold kBt
  rw [pk_shrN hs (nI m &&& 31) m (e m hm), show (1 : Int32) = nI 1 from rfl, nI_and, Nat.and_one_is_mod]
theorem kBt_1 {s m : Nat} (hs : s < 2 ^ 31) (hm : m < 24) : kBt (nI s) (nI m) = 1 ↔ s / 2 ^ m % 2 = 1 := by
  rw [kBt_n hs hm, show (1 : Int32) = nI 1 from rfl]
  exact nI_eq (by omega) (by decide)
theorem kshl_n {m : Nat} (hm : m < 24) : kshl (nI m) = nI (2 ^ m) := by
  have e : ∀ k, k < 24 → kshl (nI k) = nI (2 ^ k) := by decide +kernel
  exact e m hm
theorem kor_n {B m : Nat} (hB : B < 2 ^ m) (hm : m < 24) : nI B ||| nI (2 ^ m) = nI (B + 2 ^ m) := by
  have q := Nat.two_pow_add_eq_or_of_lt hB 1
  rw [Nat.mul_one] at q
  rw [nI_or, Nat.or_comm, ← q, Nat.add_comm]

/-! flights over towns that call by chance -/
def kMc (ov : Int32 → Int32) (ca : Int32) : Int32 → Int32 := fun x => if ov x < 6 ∧ ¬ kBt ca x = 1 then 6 else ov x
section KMC
variable {ov : Int32 → Int32} {ca : Int32}
theorem kMc_g {x : Int32} {P : kGT × kGT} : gMile (kMc ov ca x) P = gMile (ov x) P ∧ gIsl (kMc ov ca x) P = gIsl (ov x) P := by
  unfold kMc
  by_cases c : ov x < 6 ∧ ¬ kBt ca x = 1
  · have n8 : ¬ ov x = 8 := fun z => absurd (z ▸ c.1) (by decide)
    have n7 : ¬ ov x = 7 := fun z => absurd (z ▸ c.1) (by decide)
    rw [if_pos c]
    unfold gMile gIsl
    rw [if_neg n8, if_neg n7, if_neg (show ¬ (6 : Int32) = 8 by decide), if_neg (show ¬ (6 : Int32) = 7 by decide)]
    exact ⟨rfl, rfl⟩
  · rw [if_neg c]
    exact ⟨rfl, rfl⟩
theorem kCt_mc {w : Int32} : ∀ (k : Nat) (i : Int32) (P : kGT × kGT), kCt (kMc ov ca) w k i P = kCt ov w k i P
  | 0, _, _ => rfl
  | k + 1, i, P => by rw [kCt, kCt, kMc_g.1, kMc_g.2, kCt_mc k]
theorem kRs_ca {w be h an co le ki so m : Int32} {P : kGT × kGT} (hm : 0 ≤ m ∧ m ≤ 23) : kRs (ov m) w be h an co (kAd (ov m) le ca m ki so h) P = kRs (kMc ov ca m) w be h an co (kAd (kMc ov ca m) le 16777215 m ki so h) P := by
  by_cases c : ov m < 6 ∧ ¬ kBt ca m = 1
  · have e6 : kMc ov ca m = 6 := if_pos c
    have n7 : ¬ ov m = 7 := fun z => absurd (z ▸ c.1) (by decide)
    have a1 : kAd (ov m) le ca m ki so h = 0 := if_neg (fun z => c.2 z.2.2)
    have a2 : kAd (kMc ov ca m) le 16777215 m ki so h = 0 := by rw [e6]; exact if_neg (fun z => absurd z.1 (by decide))
    unfold kRs
    rw [a1, a2, kMc_g.1, if_neg n7, if_neg (show ¬ kMc ov ca m = 7 by rw [e6]; decide)]
  · have e : kMc ov ca m = ov m := if_neg c
    have a : kAd (ov m) le ca m ki so h = kAd (ov m) le 16777215 m ki so h := by
      unfold kAd
      refine k_ifc ⟨fun z => ⟨z.1, z.2.1, kBt_all hm⟩, fun z => ⟨z.1, z.2.1, Classical.byContradiction (fun q => c ⟨z.1, q⟩)⟩⟩ (fun _ => rfl) (fun _ => rfl)
    rw [e, a]
end KMC
/-- the cold ahead of a mile -/
def kCo (ov : Int32 → Int32) (h : Int32) : Nat → Nat
  | 0 => 0
  | i + 1 => if ov (nI i) = 7 then 0 else kCo ov h i + (kCh h).toNatClampNeg
/-- what may befall on a mile -/
def kKd (ov : Int32 → Int32) (ct le ki so h : Int32) (i : Nat) : Nat := if ct ≤ nI i ∨ 20 < kCo ov h i + (kCh h).toNatClampNeg then 2 else if ov (nI i) = 7 then 1 else if ov (nI i) < 6 then 3 + (kIns (kBt le (ov (nI i))) ki so (ov (nI i)) h).toNatClampNeg else 0
theorem kCh_n9 {h : Int32} (hh : 0 ≤ h ∧ h ≤ 9) : kCh h = nI (kCh h).toNatClampNeg ∧ (kCh h).toNatClampNeg ≤ 4 := by
  obtain ⟨j, hj, rfl⟩ := nI_of2 (n := 9) (M := 9) (by decide) (Int32.not_lt.mpr hh.1) hh.2
  have q : ∀ k, k < 10 → kCh (nI k) = nI (kCh (nI k)).toNatClampNeg ∧ (kCh (nI k)).toNatClampNeg ≤ 4 := by decide +kernel
  exact q j (by omega)
theorem kIns_n {kb ki so c h : Int32} (hh : 0 ≤ h ∧ h ≤ 9) : kIns kb ki so c h = nI (kIns kb ki so c h).toNatClampNeg ∧ (kIns kb ki so c h).toNatClampNeg ≤ 21 := by
  obtain ⟨j, hj, rfl⟩ := nI_of2 (n := 9) (M := 9) (by decide) (Int32.not_lt.mpr hh.1) hh.2
  have q : ∀ k, k < 10 → (2 * (10 - nI k) = nI (2 * (10 - k))) ∧ 10 - nI k = nI (10 - k) := by decide +kernel
  obtain ⟨q1, q2⟩ := q j (by omega)
  unfold kIns
  by_cases c1 : kb = 1 ∨ ki = 1 ∨ (ki = 3 ∧ 7 ≤ nI j)
  · rw [if_pos c1]
    exact ⟨by decide, by decide⟩
  · rw [if_neg c1, q1, q2]
    by_cases c2 : ki = 2
    · rw [if_pos c2]
      by_cases c3 : c = so
      · rw [if_pos c3, nI_1, nI_clamp (by omega)]; exact ⟨rfl, by omega⟩
      · rw [if_neg c3, nI_1, nI_clamp (by omega)]; exact ⟨rfl, by omega⟩
    · rw [if_neg c2]
      by_cases c3 : c = so
      · rw [if_pos c3, nI_clamp (by omega)]; exact ⟨rfl, by omega⟩
      · rw [if_neg c3, nI_clamp (by omega)]; exact ⟨rfl, by omega⟩
/-- towns ahead of a mile -/
def kTw (ov : Int32 → Int32) (i : Nat) : Nat := kNo (fun j => decide (ov (nI j) < 6)) i 0
theorem kNo_s {p : Nat → Bool} : ∀ (k i : Nat), kNo p (k + 1) i = kNo p k i + (if p (i + k) then 1 else 0)
  | 0, i => by
    show (if p i then 1 else 0) + 0 = 0 + (if p i then 1 else 0)
    exact Nat.add_comm _ _
  | k + 1, i => by
    rw [kNo, kNo_s k (i + 1), kNo, show i + 1 + k = i + (k + 1) by omega, Nat.add_assoc]
theorem kTw_s (ov : Int32 → Int32) (i : Nat) : kTw ov (i + 1) = kTw ov i + (if ov (nI i) < 6 then 1 else 0) := by
  unfold kTw
  rw [kNo_s, Nat.zero_add]
  by_cases c : ov (nI i) < 6
  · rw [if_pos (by simpa using c), if_pos c]
  · rw [if_neg (by simpa using c), if_neg c]
section KSVG
variable {ov : Int32 → Int32} {ct le ki so be h ca : Int32}
theorem kGo_sv {n b s : Nat} (hn : n ≤ 24) (hb : b ≤ 45) (ebe : be = nI b) (hh : 0 ≤ h ∧ h ≤ 9) (hbits : ∀ m : Nat, m < n → ov (nI m) < 6 → (kBt ca (nI m) = 1 ↔ s / 2 ^ kTw ov m % 2 = 1)) : ∀ (k i a : Nat), i + k = n → a ≤ b → kCo ov h i ≤ 20 → ((kGo (kMc ov ca) ct le ki so be (fun _ => h) k (nI i) (nI a) (nI (kCo ov h i)) 0).2.2.2 = 0 ↔ kSv (kKd ov ct le ki so h) b k i a (s / 2 ^ kTw ov i) = 1)
  | 0, i, a, _, _, _ => by
    rw [kGo, kSv]
    exact ⟨fun _ => rfl, fun _ => rfl⟩
  | k + 1, i, a, hi, ha, hco => by
    obtain ⟨ch1, ch2⟩ := kCh_n9 hh
    have ih := fun a ha hc => kGo_sv hn hb ebe hh hbits k (i + 1) a (by omega) ha hc
    have hcold : (20 < nI (kCo ov h i) + kCh h) ↔ 20 < kCo ov h i + (kCh h).toNatClampNeg := by
      rw [ch1, nI_add, show (20 : Int32) = nI 20 from rfl, nI_clamp (by omega)]
      exact nI_ltI (by decide) (by omega)
    have hcs : nI (kCo ov h i) + kCh h = nI (kCo ov h i + (kCh h).toNatClampNeg) := by
      conv => lhs; rw [ch1]
      rw [nI_add]
    rw [kGo, kSv, nI_1]
    by_cases c1 : ct ≤ nI i
    · have k2 : kKd ov ct le ki so h i = 2 := if_pos (Or.inl c1)
      rw [if_pos c1, k2, if_neg (by decide), if_neg (by decide), if_pos rfl]
      exact ⟨fun z => absurd z (show ¬ (1 : Int32) = 0 by decide), fun z => absurd z (by decide)⟩
    · rw [if_neg c1]
      by_cases c2 : 20 < nI (kCo ov h i) + kCh h
      · have k2 : kKd ov ct le ki so h i = 2 := if_pos (Or.inr (hcold.mp c2))
        rw [if_pos c2, k2, if_neg (by decide), if_neg (by decide), if_pos rfl]
        exact ⟨fun z => absurd z (show ¬ (2 : Int32) = 0 by decide), fun z => absurd z (by decide)⟩
      · have nst : ¬ (ct ≤ nI i ∨ 20 < kCo ov h i + (kCh h).toNatClampNeg) := fun z => z.elim c1 (fun q => c2 (hcold.mpr q))
        have hc20 : kCo ov h i + (kCh h).toNatClampNeg ≤ 20 := by
          have : ¬ 20 < kCo ov h i + (kCh h).toNatClampNeg := fun q => c2 (hcold.mpr q)
          omega
        rw [if_neg c2]
        by_cases t : ov (nI i) < 6
        · have n7 : ¬ ov (nI i) = 7 := fun z => absurd (z ▸ t) (by decide)
          obtain ⟨i1, i2⟩ := kIns_n (kb := kBt le (ov (nI i))) (ki := ki) (so := so) (c := ov (nI i)) hh
          have kk : kKd ov ct le ki so h i = 3 + (kIns (kBt le (ov (nI i))) ki so (ov (nI i)) h).toNatClampNeg := by
            unfold kKd
            rw [if_neg nst, if_neg n7, if_pos t]
          have co1 : kCo ov h (i + 1) = kCo ov h i + (kCh h).toNatClampNeg := by rw [kCo, if_neg n7]
          have tw1 : s / 2 ^ kTw ov (i + 1) = s / 2 ^ kTw ov i / 2 := by rw [kTw_s, if_pos t, Nat.pow_succ, Nat.div_div_eq_div_mul]
          rw [kk, if_neg (show ¬ 3 + (kIns (kBt le (ov (nI i))) ki so (ov (nI i)) h).toNatClampNeg = 0 by omega), if_neg (show ¬ 3 + (kIns (kBt le (ov (nI i))) ki so (ov (nI i)) h).toNatClampNeg = 1 by omega), if_neg (show ¬ 3 + (kIns (kBt le (ov (nI i))) ki so (ov (nI i)) h).toNatClampNeg = 2 by omega)]
          rw [hcs, ← co1]
          by_cases bt : kBt ca (nI i) = 1
          · have s1 : s / 2 ^ kTw ov i % 2 = 1 := (hbits i (by omega) t).mp bt
            have e : kMc ov ca (nI i) = ov (nI i) := if_neg (fun z => z.2 bt)
            rw [e, if_pos t, show nI a + kIns (kBt le (ov (nI i))) ki so (ov (nI i)) h = nI (a + (kIns (kBt le (ov (nI i))) ki so (ov (nI i)) h).toNatClampNeg) by (conv => lhs; rw [i1]); rw [nI_add], ebe]
            by_cases z0 : (kIns (kBt le (ov (nI i))) ki so (ov (nI i)) h).toNatClampNeg = 0
            · rw [if_pos (show 3 + (kIns (kBt le (ov (nI i))) ki so (ov (nI i)) h).toNatClampNeg = 3 by omega), z0, Nat.add_zero, if_neg (nI_nlt ha (by omega)), ← tw1, ← ebe]
              exact ih a ha (by omega)
            · rw [if_neg (show ¬ 3 + (kIns (kBt le (ov (nI i))) ki so (ov (nI i)) h).toNatClampNeg = 3 by omega), if_pos s1, show 3 + (kIns (kBt le (ov (nI i))) ki so (ov (nI i)) h).toNatClampNeg - 3 = (kIns (kBt le (ov (nI i))) ki so (ov (nI i)) h).toNatClampNeg by omega]
              by_cases o : a + (kIns (kBt le (ov (nI i))) ki so (ov (nI i)) h).toNatClampNeg ≤ b
              · rw [if_pos o, if_neg (nI_nlt o (by omega)), ← tw1, ← ebe]
                exact ih _ o (by omega)
              · rw [if_neg o, if_pos (nI_lt (by omega) (by omega))]
                exact ⟨fun z => absurd z (show ¬ (3 : Int32) = 0 by decide), fun z => absurd z (by decide)⟩
          · have s0 : ¬ s / 2 ^ kTw ov i % 2 = 1 := fun z => bt ((hbits i (by omega) t).mpr z)
            have e : kMc ov ca (nI i) = 6 := if_pos ⟨t, bt⟩
            rw [e, if_neg (show ¬ (6 : Int32) < 6 by decide), if_neg (show ¬ (6 : Int32) = 7 by decide)]
            by_cases z0 : (kIns (kBt le (ov (nI i))) ki so (ov (nI i)) h).toNatClampNeg = 0
            · rw [if_pos (show 3 + (kIns (kBt le (ov (nI i))) ki so (ov (nI i)) h).toNatClampNeg = 3 by omega), ← tw1]
              exact ih a ha (by omega)
            · rw [if_neg (show ¬ 3 + (kIns (kBt le (ov (nI i))) ki so (ov (nI i)) h).toNatClampNeg = 3 by omega), if_neg s0, ← tw1]
              exact ih a ha (by omega)
        · have e : kMc ov ca (nI i) = ov (nI i) := if_neg (fun z => t z.1)
          have tw1 : kTw ov (i + 1) = kTw ov i := by rw [kTw_s, if_neg t, Nat.add_zero]
          rw [e, if_neg t]
          by_cases c7 : ov (nI i) = 7
          · have kk : kKd ov ct le ki so h i = 1 := by unfold kKd; rw [if_neg nst, if_pos c7]
            have co1 : kCo ov h (i + 1) = 0 := by rw [kCo, if_pos c7]
            rw [if_pos c7, kk, if_neg (by decide), if_pos rfl, ← tw1]
            have q := ih 0 (Nat.zero_le b) (by omega)
            rw [co1] at q
            exact q
          · have kk : kKd ov ct le ki so h i = 0 := by unfold kKd; rw [if_neg nst, if_neg c7, if_neg t]
            have co1 : kCo ov h (i + 1) = kCo ov h i + (kCh h).toNatClampNeg := by rw [kCo, if_neg c7]
            rw [if_neg c7, kk, if_pos rfl, hcs, ← co1, ← tw1]
            exact ih a ha (by omega)
end KSVG
/-- where it ends for sure nothing is left -/
theorem kWt_stop {kd : Nat → Nat} {b c u : Nat} {j : Nat} (hj : kd j = 2) : ∀ (k i a : Nat), i ≤ j → j < i + k → kWt kd b c u k i a = 0
  | 0, i, _, h1, h2 => by omega
  | k + 1, i, a, h1, h2 => by
    rw [kWt]
    by_cases e : i = j
    · rw [e, hj, if_neg (by decide), if_neg (by decide), if_pos rfl]
    · have ih := fun a => kWt_stop (b := b) (c := c) (u := u) hj k (i + 1) a (by omega) (by omega)
      rw [ih, ih, Nat.mul_zero, Nat.mul_zero, ih]
      by_cases c0 : kd i = 0
      · rw [if_pos c0]
      · rw [if_neg c0]
        by_cases c1 : kd i = 1
        · rw [if_pos c1]
        · rw [if_neg c1]
          by_cases c2 : kd i = 2
          · rw [if_pos c2]
          · rw [if_neg c2]
            by_cases c3 : kd i = 3
            · rw [if_pos c3]
            · rw [if_neg c3, Nat.mul_zero]
              by_cases d : a + (kd i - 3) ≤ b
              · rw [if_pos d]
              · rw [if_neg d]
theorem kSv_stop {kd : Nat → Nat} {b : Nat} {j : Nat} (hj : kd j = 2) : ∀ (k i a s : Nat), i ≤ j → j < i + k → kSv kd b k i a s = 0
  | 0, i, _, _, h1, h2 => by omega
  | k + 1, i, a, s, h1, h2 => by
    rw [kSv]
    by_cases e : i = j
    · rw [e, hj, if_neg (by decide), if_neg (by decide), if_pos rfl]
    · have ih := fun a s => kSv_stop (b := b) hj k (i + 1) a s (by omega) (by omega)
      rw [ih, ih, ih, ih]
      by_cases c0 : kd i = 0
      · rw [if_pos c0]
      · rw [if_neg c0]
        by_cases c1 : kd i = 1
        · rw [if_pos c1]
        · rw [if_neg c1]
          by_cases c2 : kd i = 2
          · rw [if_pos c2]
          · rw [if_neg c2]
            by_cases c3 : kd i = 3
            · rw [if_pos c3]
            · rw [if_neg c3]
              by_cases d : s % 2 = 1
              · rw [if_pos d]
                by_cases d2 : a + (kd i - 3) ≤ b
                · rw [if_pos d2]
                · rw [if_neg d2]
              · rw [if_neg d]
/-- no more than all -/
theorem kWt_le {kd : Nat → Nat} {b c : Nat} (hc : c ≤ 16) : ∀ (k i a : Nat), kWt kd b c 16 k i a ≤ 16 ^ kNo (fun j => decide (3 ≤ kd j)) k i
  | 0, _, _ => by rw [kWt, kNo]; exact Nat.le_refl 1
  | k + 1, i, a => by
    have ih := fun a => kWt_le (kd := kd) (b := b) hc k (i + 1) a
    rw [kWt, kNo]
    by_cases c0 : kd i = 0
    · rw [if_pos c0, if_neg (by rw [c0]; decide), Nat.zero_add]; exact ih a
    · rw [if_neg c0]
      by_cases c1 : kd i = 1
      · rw [if_pos c1, if_neg (by rw [c1]; decide), Nat.zero_add]; exact ih 0
      · rw [if_neg c1]
        by_cases c2 : kd i = 2
        · rw [if_pos c2]; exact Nat.zero_le _
        · have b3 : decide (3 ≤ kd i) = true := by simpa using (show 3 ≤ kd i by omega)
          rw [if_neg c2, if_pos b3, Nat.pow_add, Nat.pow_one]
          by_cases c3 : kd i = 3
          · rw [if_pos c3]; exact Nat.mul_le_mul_left 16 (ih a)
          · rw [if_neg c3]
            have q1 := Nat.mul_le_mul_left (16 - c) (ih a)
            by_cases d : a + (kd i - 3) ≤ b
            · rw [if_pos d]
              have q2 := Nat.mul_le_mul_left c (ih (a + (kd i - 3)))
              have e : (16 - c) * 16 ^ kNo (fun j => decide (3 ≤ kd j)) k (i + 1) + c * 16 ^ kNo (fun j => decide (3 ≤ kd j)) k (i + 1) = 16 * 16 ^ kNo (fun j => decide (3 ≤ kd j)) k (i + 1) := by rw [← Nat.add_mul, Nat.sub_add_cancel hc]
              omega
            · rw [if_neg d, Nat.add_zero]
              exact Nat.le_trans q1 (Nat.mul_le_mul_right _ (by omega))

/-! the class's laughter, mile by mile -/
def kDl : Nat → Nat := fun j => if j = 0 then 1 else 0
def k_wi (ov : Int32 → Int32) (ct le ki so be h c n i cd : Int32) (y2 : Int64) (qf : Nat → Int64) : Prop := ∃ (I B C N : Nat) (V : Nat → Nat), (i = nI I ∧ be = nI B ∧ B ≤ 45 ∧ c = nI C ∧ C ≤ 16 ∧ n = nI N ∧ N ≤ 24 ∧ I ≤ N) ∧ (∀ j, j < 46 → qf j = lN (V j)) ∧ (∀ j, B < j → j < 46 → V j = 0) ∧ cd = nI (kCo ov h I) ∧ kCo ov h I ≤ 20 ∧ y2 = lN (16 ^ kNo (fun j => decide (4 ≤ kKd ov ct le ki so h j)) I 0) ∧ kDp (kKd ov ct le ki so h) B C (N - I) I V = kDp (kKd ov ct le ki so h) B C N 0 kDl
/-- above and below in lowest terms -/
def k_la (A e : Nat) (y1 y2 : Int64) : Prop := y1 = lN (A / Nat.gcd A (16 ^ e)) ∧ y2 = lN (16 ^ e / Nat.gcd A (16 ^ e))
theorem k_la_0 {e : Nat} : k_la 0 e 0 1 := by
  have p : 0 < 16 ^ e := Nat.pow_pos (by decide)
  unfold k_la
  rw [Nat.gcd_zero_left, Nat.zero_div, Nat.div_self p]
  exact ⟨rfl, rfl⟩
theorem kDp_0 {kd : Nat → Nat} {b c k : Nat} : kDp kd b c k 0 kDl = kWt kd b c 1 k 0 0 := by
  rw [kDp_eq, ← kSn_one (w := kWt kd b c 1 k 0 0) b]
  refine kSn_cg _ (fun a _ => ?_)
  show (if a = 0 then 1 else 0) * kWt kd b c 1 k 0 a = _
  by_cases z : a = 0
  · rw [if_pos z, if_pos z, z, Nat.one_mul]
  · rw [if_neg z, if_neg z, Nat.zero_mul]
theorem kSn_46 {V : Nat → Nat} {B : Nat} (hB : B ≤ 45) (hV : ∀ j, B < j → j < 46 → V j = 0) : kSn V 46 = kSn V (B + 1) := by
  rw [← kSn_cut (g := V) (B + 1) 46 (by omega)]
  refine kSn_cg _ (fun j hj => ?_)
  by_cases z : j < B + 1
  · rw [if_pos z]
  · rw [if_neg z]; exact hV j (by omega) hj
section KWI
variable {ov : Int32 → Int32} {ct le ki so be h c n i cd : Int32} {y1 y2 : Int64} {qf qg : Nat → Int64}
theorem k_wi_0 (hb : 0 ≤ be ∧ be ≤ 45) (hc : 0 ≤ c ∧ c ≤ 16) (hn : 0 ≤ n ∧ n ≤ 24) (hq : k_cm qf 1) : k_wi ov ct le ki so be h c n 0 0 1 qf := by
  obtain ⟨B, hB, eB⟩ := nI_of2 (n := 45) (M := 45) (by decide) (Int32.not_lt.mpr hb.1) hb.2
  obtain ⟨C, hC, eC⟩ := nI_of2 (n := 16) (M := 16) (by decide) (Int32.not_lt.mpr hc.1) hc.2
  obtain ⟨N, hN, eN⟩ := nI_of2 (n := 24) (M := 24) (by decide) (Int32.not_lt.mpr hn.1) hn.2
  refine ⟨0, B, C, N, kDl, ⟨rfl, eB, hB, eC, hC, eN, hN, Nat.zero_le N⟩, fun j hj => ?_, fun j h1 h2 => if_neg (by omega), rfl, Nat.zero_le 20, rfl, by rw [Nat.sub_zero]⟩
  unfold kDl
  by_cases z : j = 0
  · rw [if_pos z, z, hq.1]; rfl
  · rw [if_neg z, hq.2 j (by omega) hj]; rfl
/-- too cold: nobody arrives -/
theorem k_wi_f (hh : 0 ≤ h ∧ h ≤ 9) (g : k_wi ov ct le ki so be h c n i cd y2 qf) (hl : ¬ n ≤ i) (hc : 20 < cd + kCh h) : kWt (kKd ov ct le ki so h) be.toNatClampNeg c.toNatClampNeg 1 n.toNatClampNeg 0 0 = 0 := by
  obtain ⟨I, B, C, N, V, ⟨rfl, rfl, hB, rfl, hC, rfl, hN, hI⟩, q1, q2, q3, q4, q5, q6⟩ := g
  have hIN : I < N := by
    rcases Nat.lt_or_ge I N with z | z
    · exact z
    · exact absurd (nI_le z (by omega)) hl
  obtain ⟨ch1, ch2⟩ := kCh_n9 hh
  have hcold : 20 < kCo ov h I + (kCh h).toNatClampNeg := by
    rw [q3, ch1, nI_add, show (20 : Int32) = nI 20 from rfl] at hc
    exact (nI_ltI (by decide) (by omega)).mp hc
  rw [nI_clamp (by omega), nI_clamp (by omega), nI_clamp (by omega)]
  exact kWt_stop (j := I) (show kKd ov ct le ki so h I = 2 from if_pos (Or.inr hcold)) N 0 0 (Nat.zero_le I) (by omega)
theorem k_wi_s (hh : 0 ≤ h ∧ h ≤ 9) (g : k_wi ov ct le ki so be h c n i cd y2 qf) (hl : ¬ n ≤ i) (hct : ¬ ct < n) (hc : ¬ 20 < cd + kCh h) : ∃ (I B C N : Nat) (V : Nat → Nat), (i = nI I ∧ be = nI B ∧ B ≤ 45 ∧ c = nI C ∧ C ≤ 16 ∧ n = nI N ∧ N ≤ 24 ∧ I + 1 ≤ N) ∧ (∀ j, j < 46 → qf j = lN (V j)) ∧ (∀ j, B < j → j < 46 → V j = 0) ∧ cd + kCh h = nI (kCo ov h I + (kCh h).toNatClampNeg) ∧ kCo ov h I + (kCh h).toNatClampNeg ≤ 20 ∧ y2 = lN (16 ^ kNo (fun j => decide (4 ≤ kKd ov ct le ki so h j)) I 0) ∧ kDp (kKd ov ct le ki so h) B C (N - (I + 1) + 1) I V = kDp (kKd ov ct le ki so h) B C N 0 kDl ∧ ¬ (ct ≤ nI I ∨ 20 < kCo ov h I + (kCh h).toNatClampNeg) := by
  obtain ⟨I, B, C, N, V, ⟨rfl, rfl, hB, rfl, hC, rfl, hN, hI⟩, q1, q2, q3, q4, q5, q6⟩ := g
  have hIN : I < N := by
    rcases Nat.lt_or_ge I N with z | z
    · exact z
    · exact absurd (nI_le z (by omega)) hl
  obtain ⟨ch1, ch2⟩ := kCh_n9 hh
  have hcs : nI (kCo ov h I) + kCh h = nI (kCo ov h I + (kCh h).toNatClampNeg) := by
    conv => lhs; rw [ch1]
    rw [nI_add]
  have hcold : ¬ 20 < kCo ov h I + (kCh h).toNatClampNeg := fun z => hc (by rw [q3, hcs, show (20 : Int32) = nI 20 from rfl]; exact nI_lt z (by omega))
  refine ⟨I, B, C, N, V, ⟨rfl, rfl, hB, rfl, hC, rfl, hN, by omega⟩, q1, q2, by rw [q3, hcs], by omega, q5, by rw [show N - (I + 1) + 1 = N - I by omega]; exact q6, fun z => z.elim (fun y => hct ?_) hcold⟩
  exact Int32.lt_of_le_of_lt y (nI_lt hIN (by omega))
/-- an island -/
theorem k_wi_i {sm : Int64} (hh : 0 ≤ h ∧ h ≤ 9) (g : k_wi ov ct le ki so be h c n i cd y2 qf) (hl : ¬ n ≤ i) (hct : ¬ ct < n) (hc : ¬ 20 < cd + kCh h) (c7 : ov i = 7) (hs : sm = kSJ qf 46) (hq : k_cm qg sm) : k_wi ov ct le ki so be h c n (i + 1) 0 y2 qg := by
  obtain ⟨I, B, C, N, V, ⟨rfl, rfl, hB, rfl, hC, rfl, hN, hI⟩, q1, q2, q3, q4, q5, q6, nst⟩ := k_wi_s hh g hl hct hc
  have kk : kKd ov ct le ki so h I = 1 := by unfold kKd; rw [if_neg nst, if_pos c7]
  have co1 : kCo ov h (I + 1) = 0 := by rw [kCo, if_pos c7]
  have esm : sm = lN (kSn V (B + 1)) := by rw [hs, kSJ_n 46 q1, kSn_46 hB q2]
  rw [kDp, if_pos kk] at q6
  refine ⟨I + 1, B, C, N, fun j => if j = 0 then kSn V (B + 1) else 0, ⟨nI_1 I, rfl, hB, rfl, hC, rfl, hN, hI⟩, fun j hj => ?_, fun j h1 h2 => if_neg (by omega), by rw [co1]; rfl, by omega, ?_, q6⟩
  · show qg j = lN (if j = 0 then kSn V (B + 1) else 0)
    by_cases z : j = 0
    · rw [if_pos z, z, hq.1, esm]
    · rw [if_neg z, hq.2 j (by omega) hj]; rfl
  · rw [q5, kNo_s, Nat.zero_add, if_neg (by simp [kk]), Nat.add_zero]
/-- nothing that counts -/
theorem k_wi_n (hh : 0 ≤ h ∧ h ≤ 9) (g : k_wi ov ct le ki so be h c n i cd y2 qf) (hl : ¬ n ≤ i) (hct : ¬ ct < n) (hc : ¬ 20 < cd + kCh h) (c7 : ¬ ov i = 7) (ht : ¬ ov i < 6 ∨ ¬ 0 < kIns (kBt le (ov i)) ki so (ov i) h) : k_wi ov ct le ki so be h c n (i + 1) (cd + kCh h) y2 qf := by
  obtain ⟨I, B, C, N, V, ⟨rfl, rfl, hB, rfl, hC, rfl, hN, hI⟩, q1, q2, q3, q4, q5, q6, nst⟩ := k_wi_s hh g hl hct hc
  have co1 : kCo ov h (I + 1) = kCo ov h I + (kCh h).toNatClampNeg := by rw [kCo, if_neg c7]
  have kk : kKd ov ct le ki so h I = 0 ∨ kKd ov ct le ki so h I = 3 := by
    unfold kKd
    rw [if_neg nst, if_neg c7]
    by_cases t : ov (nI I) < 6
    · rw [if_pos t]
      obtain ⟨i1, i2⟩ := kIns_n (kb := kBt le (ov (nI I))) (ki := ki) (so := so) (c := ov (nI I)) hh
      have z : ¬ 0 < kIns (kBt le (ov (nI I))) ki so (ov (nI I)) h := ht.elim (fun q => absurd t q) id
      rw [i1, show (0 : Int32) = nI 0 from rfl] at z
      have : ¬ 0 < (kIns (kBt le (ov (nI I))) ki so (ov (nI I)) h).toNatClampNeg := fun y => z (nI_lt y (by omega))
      exact Or.inr (by omega)
    · rw [if_neg t]
      exact Or.inl rfl
  rw [kDp, if_neg (by omega), if_neg (by omega), if_neg (by omega)] at q6
  refine ⟨I + 1, B, C, N, V, ⟨nI_1 I, rfl, hB, rfl, hC, rfl, hN, hI⟩, q1, q2, by rw [q3, co1], by omega, ?_, q6⟩
  rw [q5, kNo_s, Nat.zero_add, if_neg (by simp; omega), Nat.add_zero]
/-- a call that counts -/
theorem k_wi_h (hh : 0 ≤ h ∧ h ≤ 9) (g : k_wi ov ct le ki so be h c n i cd y2 qf) (hl : ¬ n ≤ i) (hct : ¬ ct < n) (hc : ¬ 20 < cd + kCh h) (t : ov i < 6) (hi : 0 < kIns (kBt le (ov i)) ki so (ov i) h) (hy : y1 = y2 * 16) (hq : ∀ j : Nat, j < 46 → qg j = if nI j ≤ be then kNw c (kIns (kBt le (ov i)) ki so (ov i) h) qf j else qf j) : k_wi ov ct le ki so be h c n (i + 1) (cd + kCh h) y1 qg := by
  obtain ⟨I, B, C, N, V, ⟨rfl, rfl, hB, rfl, hC, rfl, hN, hI⟩, q1, q2, q3, q4, q5, q6, nst⟩ := k_wi_s hh g hl hct hc
  have c7 : ¬ ov (nI I) = 7 := fun z => absurd (z ▸ t) (by decide)
  have co1 : kCo ov h (I + 1) = kCo ov h I + (kCh h).toNatClampNeg := by rw [kCo, if_neg c7]
  obtain ⟨i1, i2⟩ := kIns_n (kb := kBt le (ov (nI I))) (ki := ki) (so := so) (c := ov (nI I)) hh
  have kk : kKd ov ct le ki so h I = 3 + (kIns (kBt le (ov (nI I))) ki so (ov (nI I)) h).toNatClampNeg := by
    unfold kKd
    rw [if_neg nst, if_neg c7, if_pos t]
  have sp : 0 < (kIns (kBt le (ov (nI I))) ki so (ov (nI I)) h).toNatClampNeg := by
    rw [i1, show (0 : Int32) = nI 0 from rfl] at hi
    exact (nI_ltI (by decide) (by omega)).mp hi
  have e3 : kKd ov ct le ki so h I - 3 = (kIns (kBt le (ov (nI I))) ki so (ov (nI I)) h).toNatClampNeg := by omega
  rw [kDp, if_neg (by omega), if_neg (by omega), if_pos (by omega), e3] at q6
  refine ⟨I + 1, B, C, N, kHe B C (kIns (kBt le (ov (nI I))) ki so (ov (nI I)) h).toNatClampNeg V, ⟨nI_1 I, rfl, hB, rfl, hC, rfl, hN, hI⟩, fun j hj => ?_, fun j h1 h2 => ?_, by rw [q3, co1], by omega, ?_, q6⟩
  · rw [hq j hj]
    rcases kNw_n (B := B) hC (show (kIns (kBt le (ov (nI I))) ki so (ov (nI I)) h).toNatClampNeg ≤ 100 by omega) q1 j hj with z | z
    · rw [← i1] at z; exact z
    · exact absurd (by omega) z
  · unfold kHe
    rw [if_neg (by omega)]
    exact q2 j h1 h2
  · rw [hy, q5, kNo_s, Nat.zero_add, if_pos (by simp; omega), Nat.pow_succ, ← lN_mul]
    rfl
/-- behind the last mile -/
theorem k_wi_e {z1 z2 : Int64} (g : k_wi ov ct le ki so be h c n i cd y2 qf) (hl : n ≤ i) (ht : kTw ov n.toNatClampNeg ≤ 10) (hr : k_rz (kSJ qf 46) y2 z1 z2) : k_la (kWt (kKd ov ct le ki so h) be.toNatClampNeg c.toNatClampNeg 1 n.toNatClampNeg 0 0) (kNo (fun j => decide (4 ≤ kKd ov ct le ki so h j)) n.toNatClampNeg 0) z1 z2 := by
  obtain ⟨I, B, C, N, V, ⟨rfl, rfl, hB, rfl, hC, rfl, hN, hI⟩, q1, q2, q3, q4, q5, q6⟩ := g
  have e : I = N := by have := (nI_leI (by omega) (by omega)).mp hl; omega
  subst e
  rw [nI_clamp (by omega)] at ht
  rw [nI_clamp (by omega), nI_clamp (by omega), nI_clamp (by omega)]
  rw [Nat.sub_self, kDp, kDp_0] at q6
  have es : kSJ qf 46 = lN (kWt (kKd ov ct le ki so h) B C 1 I 0 0) := by rw [kSJ_n 46 q1, kSn_46 hB q2, q6]
  have cnt : ∀ (k a : Nat), kNo (fun j => decide (3 ≤ kKd ov ct le ki so h j)) k a ≤ kNo (fun j => decide (ov (nI j) < 6)) k a ∧ kNo (fun j => decide (4 ≤ kKd ov ct le ki so h j)) k a ≤ kNo (fun j => decide (ov (nI j) < 6)) k a := by
    intro k
    induction k with
    | zero => intro a; exact ⟨Nat.le_refl _, Nat.le_refl _⟩
    | succ k ih =>
      intro a
      obtain ⟨g1, g2⟩ := ih (a + 1)
      have tw : 3 ≤ kKd ov ct le ki so h a → ov (nI a) < 6 := fun z => by
        unfold kKd at z
        by_cases c1 : ct ≤ nI a ∨ 20 < kCo ov h a + (kCh h).toNatClampNeg
        · rw [if_pos c1] at z; omega
        · rw [if_neg c1] at z
          by_cases c2 : ov (nI a) = 7
          · rw [if_pos c2] at z; omega
          · rw [if_neg c2] at z
            by_cases c3 : ov (nI a) < 6
            · exact c3
            · rw [if_neg c3] at z; omega
      rw [kNo, kNo, kNo]
      by_cases t : ov (nI a) < 6
      · rw [if_pos (show decide (ov (nI a) < 6) = true by simpa using t)]
        constructor
        · by_cases d : 3 ≤ kKd ov ct le ki so h a
          · rw [if_pos (by simpa using d)]; omega
          · rw [if_neg (by simpa using d)]; omega
        · by_cases d : 4 ≤ kKd ov ct le ki so h a
          · rw [if_pos (by simpa using d)]; omega
          · rw [if_neg (by simpa using d)]; omega
      · rw [if_neg (show ¬ decide (ov (nI a) < 6) = true by simpa using t), if_neg (show ¬ decide (3 ≤ kKd ov ct le ki so h a) = true from fun z => t (tw (of_decide_eq_true z))), if_neg (show ¬ decide (4 ≤ kKd ov ct le ki so h a) = true from fun z => t (tw (Nat.le_trans (by decide) (of_decide_eq_true z))))]
        omega
  have hE := (cnt I 0).2
  have h3 := (cnt I 0).1
  unfold kTw at ht
  have le1 : kWt (kKd ov ct le ki so h) B C 1 I 0 0 ≤ 16 ^ 10 := by
    have u := kWt_u (kd := kKd ov ct le ki so h) (b := B) (c := C) I 0 0
    have l := kWt_le (kd := kKd ov ct le ki so h) (b := B) hC I 0 0
    have p : 0 < 16 ^ kNo (fun j => kKd ov ct le ki so h j == 3) I 0 := Nat.pow_pos (by decide)
    have m : kWt (kKd ov ct le ki so h) B C 1 I 0 0 ≤ 16 ^ kNo (fun j => kKd ov ct le ki so h j == 3) I 0 * kWt (kKd ov ct le ki so h) B C 1 I 0 0 := Nat.le_mul_of_pos_left _ p
    rw [← u] at m
    exact Nat.le_trans (Nat.le_trans m l) (Nat.pow_le_pow_right (by decide) (by omega))
  have hA : kWt (kKd ov ct le ki so h) B C 1 I 0 0 < 2 ^ 61 := Nat.lt_of_le_of_lt le1 (by decide)
  have e2 : 16 ^ kNo (fun j => decide (4 ≤ kKd ov ct le ki so h j)) I 0 = 2 ^ (4 * kNo (fun j => decide (4 ≤ kKd ov ct le ki so h j)) I 0) := by rw [Nat.pow_mul]
  have r := hr _ (4 * kNo (fun j => decide (4 ≤ kKd ov ct le ki so h j)) I 0) es hA (by rw [q5, e2]) (by omega)
  unfold k_la
  rw [e2]
  exact r
end KWI
/-! the same, with the chill as it stands in the code -/
section KWX
variable {ov : Int32 → Int32} {ct le ki so be h c n i cd x : Int32} {y1 y2 : Int64} {qf qg : Nat → Int64}
theorem k_wx_f (hx : kCh h = x) (hh : 0 ≤ h ∧ h ≤ 9) (g : k_wi ov ct le ki so be h c n i cd y2 qf) (hl : ¬ n ≤ i) (hc : 20 < cd + x) : kWt (kKd ov ct le ki so h) be.toNatClampNeg c.toNatClampNeg 1 n.toNatClampNeg 0 0 = 0 := by
  subst hx
  exact k_wi_f hh g hl hc
theorem k_wx_i {sm : Int64} (hx : kCh h = x) (hh : 0 ≤ h ∧ h ≤ 9) (g : k_wi ov ct le ki so be h c n i cd y2 qf) (hl : ¬ n ≤ i) (hct : ¬ ct < n) (hc : ¬ 20 < cd + x) (c7 : ov i = 7) (hs : sm = kSJ qf 46) (hq : k_cm qg sm) : k_wi ov ct le ki so be h c n (i + 1) 0 y2 qg := by
  subst hx
  exact k_wi_i hh g hl hct hc c7 hs hq
theorem k_wx_n (hx : kCh h = x) (hh : 0 ≤ h ∧ h ≤ 9) (g : k_wi ov ct le ki so be h c n i cd y2 qf) (hl : ¬ n ≤ i) (hct : ¬ ct < n) (hc : ¬ 20 < cd + x) (c7 : ¬ ov i = 7) (ht : ¬ ov i < 6 ∨ ¬ 0 < kIns (kBt le (ov i)) ki so (ov i) h) : k_wi ov ct le ki so be h c n (i + 1) (cd + x) y2 qf := by
  subst hx
  exact k_wi_n hh g hl hct hc c7 ht
theorem k_wx_h (hx : kCh h = x) (hh : 0 ≤ h ∧ h ≤ 9) (g : k_wi ov ct le ki so be h c n i cd y2 qf) (hl : ¬ n ≤ i) (hct : ¬ ct < n) (hc : ¬ 20 < cd + x) (t : ov i < 6) (hi : 0 < kIns (kBt le (ov i)) ki so (ov i) h) (hy : y1 = y2 * 16) (hq : ∀ j : Nat, j < 46 → qg j = if nI j ≤ be then kNw c (kIns (kBt le (ov i)) ki so (ov i) h) qf j else qf j) : k_wi ov ct le ki so be h c n (i + 1) (cd + x) y1 qg := by
  subst hx
  exact k_wi_h hh g hl hct hc t hi hy hq
end KWX
/-- a call heard, or none -/
def k_hq (c s br : Int32) (f g : Nat → Int64) : Prop := (0 < s → ∀ j : Nat, j < 46 → g j = if nI j ≤ br then kNw c s f j else f j) ∧ (¬ 0 < s → g = f)
section KHV
variable {c s br g : Int32} {f q : Nat → Int64}
theorem kNw_y (h : k_hi c s br g f q) (hg : 0 ≤ g ∧ g ≤ 45) (hs : 0 < s) (d : s ≤ g) : q g.toNatClampNeg * (16 - c).toInt64 + q (g - s).toNatClampNeg * c.toInt64 = kNw c s f g.toNatClampNeg := by
  have e1 := k_hi_o h ⟨hg.1, Int32.le_refl g⟩ hg.2
  have gs : 0 ≤ g - s ∧ g - s ≤ g := by
    have a1 := Int32.lt_iff_toInt_lt.mp hs
    have a2 := Int32.le_iff_toInt_le.mp d
    have a3 := Int32.le_iff_toInt_le.mp hg.2
    rw [show (0 : Int32).toInt = 0 from rfl] at a1
    rw [show (45 : Int32).toInt = 45 from rfl] at a3
    have e : (g - s).toInt = g.toInt - s.toInt := by rw [Int32.toInt_sub, k_bm (by omega) (by omega)]
    exact ⟨Int32.le_iff_toInt_le.mpr (by rw [e, show (0 : Int32).toInt = 0 from rfl]; omega), Int32.le_iff_toInt_le.mpr (by rw [e]; omega)⟩
  have e2 := k_hi_o h gs hg.2
  have en : nI g.toNatClampNeg = g := by
    obtain ⟨a, ha, rfl⟩ := nI_of2 (n := 45) (M := 45) (by decide) (Int32.not_lt.mpr hg.1) hg.2
    rw [nI_clamp (by omega)]
  unfold kNw
  rw [e1, e2, en, if_pos d]
theorem kNw_z (h : k_hi c s br g f q) (hg : 0 ≤ g ∧ g ≤ 45) (d : ¬ s ≤ g) : q g.toNatClampNeg * (16 - c).toInt64 + 0 = kNw c s f g.toNatClampNeg := by
  have e1 := k_hi_o h ⟨hg.1, Int32.le_refl g⟩ hg.2
  have en : nI g.toNatClampNeg = g := by
    obtain ⟨a, ha, rfl⟩ := nI_of2 (n := 45) (M := 45) (by decide) (Int32.not_lt.mpr hg.1) hg.2
    rw [nI_clamp (by omega)]
  unfold kNw
  rw [e1, en, if_neg d]
end KHV
theorem k_hi_t {c s br g : Int32} {f q : Nat → Int64} {v : Int64} (h : k_hi c s br g f q) (hg : 0 ≤ g ∧ g ≤ 45) (hb : g ≤ br) (hv : v = kNw c s f g.toNatClampNeg) : k_hi c s br (g + (-1)) f (vp_updL q g.toNatClampNeg v) := by
  have e : g - 1 = g + (-1) := Int32.sub_eq_add_neg g 1
  rw [← e]
  exact k_hi_s h hg hb hv
theorem k_i46 {i : Int32} (h : 1 ≤ i ∧ i ≤ 46) : 0 ≤ i ∧ i.toInt ≤ 1000 := by
  have a := Int32.le_iff_toInt_le.mp h.1
  have b := Int32.le_iff_toInt_le.mp h.2
  rw [show (1 : Int32).toInt = 1 from rfl] at a
  rw [show (46 : Int32).toInt = 46 from rfl] at b
  exact ⟨Int32.le_iff_toInt_le.mpr (by rw [show (0 : Int32).toInt = 0 from rfl]; omega), by omega⟩
theorem k_i47 {i : Int32} (h : 0 ≤ i ∧ i ≤ 46) : 0 ≤ i ∧ i.toInt ≤ 1000 := by
  have b := Int32.le_iff_toInt_le.mp h.2
  rw [show (46 : Int32).toInt = 46 from rfl] at b
  exact ⟨h.1, by omega⟩
theorem k_wk {ov : Int32 → Int32} {ct le ki so be h c n i cd x : Int32} {y1 y2 : Int64} {qf qg : Nat → Int64} (hx : kCh h = x) (hh : 0 ≤ h ∧ h ≤ 9) (g : k_wi ov ct le ki so be h c n i cd y2 qf) (hl : ¬ n ≤ i) (hct : ¬ ct < n) (hc : ¬ 20 < cd + x) (n7 : ¬ ov i = 7) (t : ov i < 6) (hy : y1 = if 0 < kIns (kBt le (ov i)) ki so (ov i) h then y2 * 16 else y2) (hq : k_hq c (kIns (kBt le (ov i)) ki so (ov i) h) be qf qg) : k_wi ov ct le ki so be h c n (i + 1) (cd + x) y1 qg := by
  by_cases z : 0 < kIns (kBt le (ov i)) ki so (ov i) h
  · exact k_wx_h hx hh g hl hct hc t z (hy.trans (if_pos z)) (hq.1 z)
  · rw [hy.trans (if_neg z), hq.2 z]
    exact k_wx_n hx hh g hl hct hc n7 (Or.inr z)
theorem k_tw_y {ov : Int32 → Int32} {i tw : Int32} (h0 : 0 ≤ i ∧ i ≤ 24) (h : tw = nI (kTw ov i.toNatClampNeg)) (t : ov i < 6) : tw + 1 = nI (kTw ov (i + 1).toNatClampNeg) := by
  obtain ⟨a, ha, rfl⟩ := nI_of2 (n := 24) (M := 24) (by decide) (Int32.not_lt.mpr h0.1) h0.2
  rw [nI_1, nI_clamp (by omega), kTw_s, if_pos t, h, nI_clamp (by omega), nI_1]
theorem k_tw_n {ov : Int32 → Int32} {i tw : Int32} (h0 : 0 ≤ i ∧ i ≤ 24) (h : tw = nI (kTw ov i.toNatClampNeg)) (t : ¬ ov i < 6) : tw = nI (kTw ov (i + 1).toNatClampNeg) := by
  obtain ⟨a, ha, rfl⟩ := nI_of2 (n := 24) (M := 24) (by decide) (Int32.not_lt.mpr h0.1) h0.2
  rw [nI_1, nI_clamp (by omega), kTw_s, if_neg t, h, nI_clamp (by omega), Nat.add_zero]
theorem k_b0 {C : Prop} [Decidable C] {r : Int32} (h : r = if C then 1 else 0) (z : r = 0) : ¬ C := fun c => by
  rw [h, if_pos c] at z
  exact absurd z (by decide)
theorem k_b1 {C : Prop} [Decidable C] {r : Int32} (h : r = if C then 1 else 0) (z : ¬ r = 0) : C := Classical.byContradiction (fun c => z (h.trans (if_neg c)))

/-! the reference's laughter: who calls, bit by bit -/
def k_cb (ov : Int32 → Int32) (so i k bi : Int32) : Prop := ∃ I s B : Nat, i = nI I ∧ I ≤ 24 ∧ so = nI s ∧ s < 2 ^ 30 ∧ k = nI (kTw ov I) ∧ bi = nI B ∧ B < 2 ^ I ∧ ∀ m : Nat, m < I → (B / 2 ^ m % 2 = 1 ↔ ov (nI m) < 6 ∧ s / 2 ^ kTw ov m % 2 = 1)
/-- the calling bits of some -/
def k_ca (ov : Int32 → Int32) (so n r : Int32) : Prop := ∀ s N : Nat, so = nI s → s < 2 ^ 30 → n = nI N → N ≤ 24 → ∀ m : Nat, m < N → ov (nI m) < 6 → (kBt r (nI m) = 1 ↔ s / 2 ^ kTw ov m % 2 = 1)
theorem kTw_le (ov : Int32 → Int32) : ∀ i : Nat, kTw ov i ≤ i
  | 0 => Nat.le_refl 0
  | i + 1 => by
    have := kTw_le ov i
    rw [kTw_s]
    by_cases c : ov (nI i) < 6
    · rw [if_pos c]; omega
    · rw [if_neg c]; omega
section KCB
variable {ov : Int32 → Int32} {so i k bi n : Int32}
theorem k_cb_0 (hs : 0 ≤ so ∧ so.toInt < 1000000) : k_cb ov so 0 0 0 := by
  obtain ⟨s, h, e⟩ := k_nat hs.1
  rw [e, nI_toInt h] at hs
  exact ⟨0, s, 0, rfl, by omega, e, by omega, rfl, rfl, by decide, fun m hm => absurd hm (by omega)⟩
theorem k_cb_n (h : k_cb ov so i k bi) (hn : n ≤ 24) (hl : ¬ n ≤ i) (c : ¬ ov i < 6) : k_cb ov so (i + 1) k bi := by
  obtain ⟨I, s, B, rfl, h2, rfl, h4, rfl, rfl, h7, h8⟩ := h
  have hI : I < 24 := by
    have := Int32.lt_of_lt_of_le (Int32.not_le.mp hl) hn
    rw [show (24 : Int32) = nI 24 from rfl] at this
    exact (nI_ltI (by omega) (by decide)).mp this
  refine ⟨I + 1, s, B, nI_1 I, by omega, rfl, h4, by rw [kTw_s, if_neg c, Nat.add_zero], rfl, Nat.lt_trans h7 (Nat.pow_lt_pow_right (by decide) (by omega)), fun m hm => ?_⟩
  by_cases e : m = I
  · rw [e, Nat.div_eq_of_lt h7]
    exact ⟨fun z => absurd z (by decide), fun z => absurd z.1 c⟩
  · exact h8 m (by omega)
theorem k_cb_t (h : k_cb ov so i k bi) (hn : n ≤ 24) (hl : ¬ n ≤ i) (c : ov i < 6) : (kBt so k = 1 → k_cb ov so (i + 1) (k + 1) (bi ||| kshl i)) ∧ (¬ kBt so k = 1 → k_cb ov so (i + 1) (k + 1) (bi ||| 0)) := by
  obtain ⟨I, s, B, rfl, h2, rfl, h4, rfl, rfl, h7, h8⟩ := h
  have hI : I < 24 := by
    have := Int32.lt_of_lt_of_le (Int32.not_le.mp hl) hn
    rw [show (24 : Int32) = nI 24 from rfl] at this
    exact (nI_ltI (by omega) (by decide)).mp this
  have hk := kTw_le ov I
  have eb := kBt_1 (s := s) (m := kTw ov I) (by omega) (by omega)
  have ek : nI (kTw ov I) + 1 = nI (kTw ov (I + 1)) := by rw [kTw_s, if_pos c, nI_1]
  constructor
  · intro b
    refine ⟨I + 1, s, B + 2 ^ I, nI_1 I, by omega, rfl, h4, ek, by rw [kshl_n hI, kor_n h7 hI], by rw [Nat.pow_succ]; omega, fun m hm => ?_⟩
    by_cases e : m = I
    · rw [e]
      have : (B + 2 ^ I) / 2 ^ I = 1 := by rw [Nat.add_div_right B (Nat.pow_pos (by decide)), Nat.div_eq_of_lt h7]
      rw [this]
      exact ⟨fun _ => ⟨c, eb.mp b⟩, fun _ => rfl⟩
    · have e2 : 2 ^ I = 2 ^ (I - m - 1) * 2 * 2 ^ m := by rw [← Nat.pow_succ, ← Nat.pow_add, show I - m - 1 + 1 + m = I by omega]
      have q : (B + 2 ^ I) / 2 ^ m = B / 2 ^ m + 2 ^ (I - m - 1) * 2 := by rw [e2, Nat.add_mul_div_right _ _ (Nat.pow_pos (by decide))]
      rw [q, show (B / 2 ^ m + 2 ^ (I - m - 1) * 2) % 2 = B / 2 ^ m % 2 by omega]
      exact h8 m (by omega)
  · intro b
    refine ⟨I + 1, s, B, nI_1 I, by omega, rfl, h4, ek, Int32.or_zero, Nat.lt_trans h7 (Nat.pow_lt_pow_right (by decide) (by omega)), fun m hm => ?_⟩
    by_cases e : m = I
    · rw [e, Nat.div_eq_of_lt h7]
      exact ⟨fun z => absurd z (by decide), fun z => absurd (eb.mpr z.2) b⟩
    · exact h8 m (by omega)
theorem k_cb_e (h : k_cb ov so i k bi) (hi : i = n) : k_ca ov so n bi := by
  obtain ⟨I, s, B, h1, h2, h3, h4, h5, rfl, h7, h8⟩ := h
  intro s' N e1 e2 e3 e4 m hm t
  have es : s' = s := (nI_eq (by omega) (by omega)).mp (e1.symm.trans h3)
  have eN : N = I := (nI_eq (by omega) (by omega)).mp (e3.symm.trans (hi.symm.trans h1))
  rw [es]
  rw [eN] at hm
  have hB : B < 2 ^ 31 := Nat.lt_of_lt_of_le h7 (Nat.pow_le_pow_right (by decide) (by omega))
  rw [kBt_1 hB (by omega), h8 m hm]
  exact ⟨fun z => z.2, fun z => ⟨t, z⟩⟩
end KCB
/-- the weight of some, bit by bit -/
def kWp (c s : Nat) : Nat → Nat
  | 0 => 1
  | k + 1 => kWp c s k * (if s / 2 ^ k % 2 = 1 then c else 16 - c)
theorem kWp_s (c s : Nat) : ∀ n : Nat, kWp c s (n + 1) = (if s % 2 = 1 then c else 16 - c) * kWp c (s / 2) n
  | 0 => by rw [kWp, kWp, kWp, Nat.one_mul, Nat.mul_one, Nat.pow_zero, Nat.div_one]
  | n + 1 => by
    rw [kWp, kWp_s c s n, kWp, Nat.mul_assoc, Nat.div_div_eq_div_mul, Nat.pow_succ, Nat.mul_comm 2]
theorem kWp_g (c : Nat) : ∀ n s : Nat, kWp c s n = kWg c n s
  | 0, _ => rfl
  | n + 1, s => by rw [kWp_s, kWg, kWp_g c n]
def k_wp (c so k : Int32) (we : Int64) : Prop := ∃ C s K : Nat, c = nI C ∧ C ≤ 16 ∧ so = nI s ∧ s < 2 ^ 30 ∧ k = nI K ∧ K ≤ 10 ∧ we = lN (kWp C s K)
section KWP
variable {c so k : Int32} {we : Int64}
theorem k_wp_0 (hc : 0 ≤ c ∧ c ≤ 16) (hs : 0 ≤ so ∧ so.toInt < 1000000) : k_wp c so 0 1 := by
  obtain ⟨C, hC, eC⟩ := nI_of2 (n := 16) (M := 16) (by decide) (Int32.not_lt.mpr hc.1) hc.2
  obtain ⟨s, h, e⟩ := k_nat hs.1
  rw [e, nI_toInt h] at hs
  exact ⟨C, s, 0, eC, hC, e, by omega, rfl, by omega, rfl⟩
theorem k_wp_s (h : k_wp c so k we) (hk : k < 10) : (kBt so k = 1 → k_wp c so (k + 1) (we * c.toInt64)) ∧ (¬ kBt so k = 1 → k_wp c so (k + 1) (we * (16 - c).toInt64)) := by
  obtain ⟨C, s, K, rfl, h2, rfl, h4, rfl, h6, rfl⟩ := h
  have hK : K < 10 := by
    rw [show (10 : Int32) = nI 10 from rfl] at hk
    exact (nI_ltI (by omega) (by decide)).mp hk
  have eb := kBt_1 (s := s) (m := K) (by omega) (by omega)
  have e16 : ((16 : Int32) - nI C).toInt64 = lN (16 - C) := by
    have : (16 : Int32) - nI C = nI (16 - C) := by
      rw [show (16 : Int32) = nI (16 - C) + nI C by rw [nI_add, Nat.sub_add_cancel h2]; rfl, Int32.add_sub_cancel]
    rw [this, nI_l (by omega)]
  constructor
  · intro b
    refine ⟨C, s, K + 1, rfl, h2, rfl, h4, nI_1 K, by omega, ?_⟩
    rw [kWp, if_pos (eb.mp b), nI_l (by omega), lN_mul]
  · intro b
    refine ⟨C, s, K + 1, rfl, h2, rfl, h4, nI_1 K, by omega, ?_⟩
    rw [kWp, if_neg (fun z => b (eb.mpr z)), e16, lN_mul]
end KWP
/-- all that is summed -/
def kFs (D : Prop) [Decidable D] (kd : Nat → Nat) (b c n N : Nat) (s : Nat) : Nat := if D then kSv kd b N 0 0 s * kWg c n s else 0
theorem kSv_01 {kd : Nat → Nat} {b : Nat} : ∀ (k i a s : Nat), kSv kd b k i a s = 0 ∨ kSv kd b k i a s = 1
  | 0, _, _, _ => Or.inr rfl
  | k + 1, i, a, s => by
    have ih := fun a s => kSv_01 (kd := kd) (b := b) k (i + 1) a s
    rw [kSv]
    by_cases c0 : kd i = 0
    · rw [if_pos c0]; exact ih a s
    · rw [if_neg c0]
      by_cases c1 : kd i = 1
      · rw [if_pos c1]; exact ih 0 s
      · rw [if_neg c1]
        by_cases c2 : kd i = 2
        · rw [if_pos c2]; exact Or.inl rfl
        · rw [if_neg c2]
          by_cases c3 : kd i = 3
          · rw [if_pos c3]; exact ih a (s / 2)
          · rw [if_neg c3]
            by_cases d : s % 2 = 1
            · rw [if_pos d]
              by_cases d2 : a + (kd i - 3) ≤ b
              · rw [if_pos d2]; exact ih _ _
              · rw [if_neg d2]; exact Or.inl rfl
            · rw [if_neg d]; exact ih a (s / 2)
/-- the reference's sum over all subsets -/
theorem kFs_sum {D : Prop} [Decidable D] {kd : Nat → Nat} {b c N n : Nat} (hc : c ≤ 16) (hn : (∀ j, j < N → ¬ kd j = 2) → n = kNo (fun j => decide (3 ≤ kd j)) N 0) : kSn (kFs D kd b c n N) (2 ^ n) = if D then kWt kd b c 16 N 0 0 else 0 := by
  by_cases d : D
  · rw [if_pos d]
    by_cases st : ∃ j, j < N ∧ kd j = 2
    · obtain ⟨j, hj, ej⟩ := st
      rw [kWt_stop ej N 0 0 (Nat.zero_le j) (by omega), ← kSn_0 (2 ^ n)]
      refine kSn_cg _ (fun s _ => ?_)
      unfold kFs
      rw [if_pos d, kSv_stop ej N 0 0 s (Nat.zero_le j) (by omega), Nat.zero_mul]
    · have e := hn (fun j hj z => st ⟨j, hj, z⟩)
      rw [e, ← kSv_sum hc N 0 0]
      refine kSn_cg _ (fun s _ => ?_)
      unfold kFs
      rw [if_pos d]
  · rw [if_neg d, ← kSn_0 (2 ^ n)]
    refine kSn_cg _ (fun s _ => ?_)
    unfold kFs
    rw [if_neg d]

/-! what the class's laughter comes to -/
def kLC0 (ov : Int32 → Int32) (ct le ki so be h c n : Int32) : Int64 × Int64 := if ct < n then (0, 1) else (lN (kWt (kKd ov ct le ki so h) be.toNatClampNeg c.toNatClampNeg 1 n.toNatClampNeg 0 0 / Nat.gcd (kWt (kKd ov ct le ki so h) be.toNatClampNeg c.toNatClampNeg 1 n.toNatClampNeg 0 0) (16 ^ kNo (fun j => decide (4 ≤ kKd ov ct le ki so h j)) n.toNatClampNeg 0)), lN (16 ^ kNo (fun j => decide (4 ≤ kKd ov ct le ki so h j)) n.toNatClampNeg 0 / Nat.gcd (kWt (kKd ov ct le ki so h) be.toNatClampNeg c.toNatClampNeg 1 n.toNatClampNeg 0 0) (16 ^ kNo (fun j => decide (4 ≤ kKd ov ct le ki so h j)) n.toNatClampNeg 0)))
def kLC (C : Prop) [Decidable C] (ov : Int32 → Int32) (n w : Int32) (P : kGT × kGT) (le ki so be h c : Int32) : Int64 × Int64 := if C then kLC0 ov (kCt ov w (kfu n 0) 0 P) le ki so be h c n else (0, 1)
theorem kLC_t {C : Prop} [Decidable C] {ov : Int32 → Int32} {n w le ki so be KI SO BE tgo tca h c : Int32} {y1 y2 : Int64} {P : kGT × kGT} (h1 : tgo = if C then 1 else 0) (h2 : tca = if C then kCt ov w (kfu n 0) 0 P else 0) (h3 : C → ki = KI) (h4 : C → so = SO) (h5 : C → be = BE) (f1 : tgo = 0 → y1 = 0 ∧ y2 = 1) (f2 : ¬ tgo = 0 → tca < n → y1 = 0 ∧ y2 = 1) (f3 : ¬ tgo = 0 → ¬ tca < n → k_la (kWt (kKd ov tca le ki so h) be.toNatClampNeg c.toNatClampNeg 1 n.toNatClampNeg 0 0) (kNo (fun j => decide (4 ≤ (kKd ov tca le ki so h) j)) n.toNatClampNeg 0) y1 y2) : y1 = (kLC C ov n w P le KI SO BE h c).1 ∧ y2 = (kLC C ov n w P le KI SO BE h c).2 := by
  unfold kLC
  by_cases cc : C
  · rw [if_pos cc] at h1 h2
    have g : ¬ tgo = 0 := by rw [h1]; decide
    rw [if_pos cc, ← h2, ← h3 cc, ← h4 cc, ← h5 cc]
    unfold kLC0
    by_cases z : tca < n
    · rw [if_pos z]; exact f2 g z
    · rw [if_neg z]; exact f3 g z
  · rw [if_neg cc] at h1 ⊢
    exact f1 h1
theorem k_it9 {xn f1 : Int32} {ff : Nat → Int32} (hb : k_bd 32 0 9 ff) (hx : 0 ≤ xn ∧ xn ≤ 8) (hf : 0 ≤ f1 ∧ f1 < xn) : 0 ≤ kIt xn ff f1 3 ∧ kIt xn ff f1 3 ≤ 9 := by
  obtain ⟨a, ha, e⟩ := nI_of2 (n := 8) (M := 8) (by decide) (Int32.not_lt.mpr hf.1) (Int32.le_trans (Int32.le_of_lt hf.2) hx.2)
  have a7 : a < 8 := by
    have q := Int32.lt_of_lt_of_le hf.2 hx.2
    rw [e, show (8 : Int32) = nI 8 from rfl] at q
    exact (nI_ltI (by omega) (by decide)).mp q
  unfold kIt
  rw [if_pos hf, e, show (4 : Int32) * nI a + 3 = nI (4 * a + 3) by rw [show (4 : Int32) = nI 4 from rfl, show (3 : Int32) = nI 3 from rfl, pk_mul, nI_add], nI_clamp (by omega)]
  obtain ⟨b1, b2⟩ := hb (4 * a + 3) (by omega)
  exact ⟨Int32.le_iff_toInt_le.mpr b1, Int32.le_iff_toInt_le.mpr b2⟩
/-- what may be borne -/
def k_t9 (n7 : Int32) (f7 : Nat → Int32) : Prop := ∀ p : Int32, 0 ≤ p ∧ p < n7 → 0 ≤ 5 * (kAt 39 f7 ((5 * p) + 2)) ∧ 5 * (kAt 39 f7 ((5 * p) + 2)) ≤ 45
theorem k_t9_b {n7 p tgo tbe t : Int32} {f7 : Nat → Int32} {D : Prop} [Decidable ((0 ≤ p ∧ p < n7) ∧ D)] (h : k_t9 n7 f7) (h1 : tgo = if (0 ≤ p ∧ p < n7) ∧ D then 1 else 0) (h5 : tbe = if (0 ≤ p ∧ p < n7) ∧ D then 5 * (kAt 39 f7 ((5 * p) + 2)) else t) : tgo = 0 ∨ (0 ≤ tbe ∧ tbe ≤ 45) := by
  by_cases c : (0 ≤ p ∧ p < n7) ∧ D
  · rw [if_pos c] at h5
    rw [h5]
    exact Or.inr (h p c.1)
  · rw [if_neg c] at h1
    exact Or.inl h1
theorem kTw_10 {ov : Int32 → Int32} {n r : Int32} (hn : 0 ≤ n ∧ n ≤ 24) (h : r = nI (kTw ov n.toNatClampNeg)) (h10 : r ≤ 10) : kTw ov n.toNatClampNeg ≤ 10 := by
  obtain ⟨a, ha, e⟩ := nI_of2 (n := 24) (M := 24) (by decide) (Int32.not_lt.mpr hn.1) hn.2
  have l := kTw_le ov n.toNatClampNeg
  rw [e, nI_clamp (by omega)] at l h ⊢
  rw [h, show (10 : Int32) = nI 10 from rfl] at h10
  exact (nI_leI (by omega) (by decide)).mp h10
theorem kTw_11 {ov : Int32 → Int32} {n r : Int32} (hn : 0 ≤ n ∧ n ≤ 24) (h : r = nI (kTw ov n.toNatClampNeg)) (h10 : ¬ r ≤ 10) : ¬ kTw ov n.toNatClampNeg ≤ 10 := fun z => h10 (by
  rw [h, show (10 : Int32) = nI 10 from rfl]
  exact nI_le z (by decide))

/-! laughter: the reference's sum over the towns that call -/
theorem kNo_cg {p q : Nat → Bool} : ∀ (k i : Nat), (∀ j, i ≤ j → j < i + k → p j = q j) → kNo p k i = kNo q k i
  | 0, _, _ => rfl
  | k + 1, i, h => by rw [kNo, kNo, h i (Nat.le_refl i) (by omega), kNo_cg k (i + 1) (fun j h1 h2 => h j (by omega) (by omega))]
theorem kNo_mn {p q : Nat → Bool} : ∀ (k i : Nat), (∀ j, p j = true → q j = true) → kNo p k i ≤ kNo q k i
  | 0, _, _ => Nat.le_refl 0
  | k + 1, i, h => by
    have e := kNo_mn k (i + 1) h
    rw [kNo, kNo]
    by_cases c : p i = true
    · rw [if_pos c, if_pos (h i c)]
      omega
    · rw [if_neg c]
      omega
theorem kNo_34 {kd : Nat → Nat} : ∀ (k i : Nat), kNo (fun j => decide (3 ≤ kd j)) k i = kNo (fun j => decide (4 ≤ kd j)) k i + kNo (fun j => kd j == 3) k i
  | 0, _ => rfl
  | k + 1, i => by
    rw [kNo, kNo, kNo, kNo_34 k (i + 1)]
    by_cases a : 4 ≤ kd i
    · rw [if_pos (decide_eq_true (show 3 ≤ kd i by omega)), if_pos (decide_eq_true a), if_neg (show ¬ (kd i == 3) = true from fun z => by have := beq_iff_eq.mp z; omega)]
      omega
    · by_cases b : kd i = 3
      · rw [if_pos (decide_eq_true (show 3 ≤ kd i by omega)), if_neg (fun z => a (of_decide_eq_true z)), if_pos (beq_iff_eq.mpr b)]
        omega
      · rw [if_neg (fun z => absurd (of_decide_eq_true z) (show ¬ 3 ≤ kd i by omega)), if_neg (fun z => a (of_decide_eq_true z)), if_neg (show ¬ (kd i == 3) = true from fun z => b (beq_iff_eq.mp z))]
        omega
theorem kWt_cg {kd kd' : Nat → Nat} {b c u : Nat} : ∀ (k i a : Nat), (∀ j, i ≤ j → j < i + k → kd j = kd' j) → kWt kd b c u k i a = kWt kd' b c u k i a
  | 0, _, _, _ => rfl
  | k + 1, i, a, h => by
    have ih := fun a => kWt_cg (b := b) (c := c) (u := u) k (i + 1) a (fun j h1 h2 => h j (by omega) (by omega))
    rw [kWt, kWt, h i (Nat.le_refl i) (by omega), ih a, ih 0, ih (a + (kd' i - 3))]
theorem kCo_cg {ov ov' : Int32 → Int32} {h : Int32} : ∀ (i : Nat), (∀ j, j < i → ov (nI j) = ov' (nI j)) → kCo ov h i = kCo ov' h i
  | 0, _ => rfl
  | i + 1, e => by rw [kCo, kCo, e i (by omega), kCo_cg i (fun j hj => e j (by omega))]
theorem kKd_cg {ov ov' : Int32 → Int32} {ct le ki so h : Int32} {n : Nat} (e : ∀ j, j < n → ov (nI j) = ov' (nI j)) (i : Nat) (hi : i < n) : kKd ov ct le ki so h i = kKd ov' ct le ki so h i := by
  unfold kKd
  rw [kCo_cg i (fun j hj => e j (by omega)), e i hi]
theorem kTw_cg {ov ov' : Int32 → Int32} {n : Nat} (e : ∀ j, j < n → ov (nI j) = ov' (nI j)) : kTw ov n = kTw ov' n := by
  unfold kTw
  exact kNo_cg n 0 (fun j _ h2 => congrArg (fun z : Int32 => decide (z < 6)) (e j (by omega)))
/-- a town is a mile of kind three or more, or the end -/
theorem kKd_3 {ov : Int32 → Int32} {ct le ki so h : Int32} {j : Nat} : (3 ≤ kKd ov ct le ki so h j → ov (nI j) < 6) ∧ (¬ kKd ov ct le ki so h j = 2 → ov (nI j) < 6 → 3 ≤ kKd ov ct le ki so h j) := by
  unfold kKd
  by_cases a : ct ≤ nI j ∨ 20 < kCo ov h j + (kCh h).toNatClampNeg
  · rw [if_pos a]
    exact ⟨fun z => absurd z (by decide), fun z => absurd rfl z⟩
  · rw [if_neg a]
    by_cases b : ov (nI j) = 7
    · rw [if_pos b]
      exact ⟨fun z => absurd z (by decide), fun _ z => absurd (b ▸ z) (by decide)⟩
    · rw [if_neg b]
      by_cases c : ov (nI j) < 6
      · rw [if_pos c]
        exact ⟨fun _ => c, fun _ _ => Nat.le_add_right 3 _⟩
      · rw [if_neg c]
        exact ⟨fun z => absurd z (by decide), fun _ z => absurd z c⟩
theorem kKd_le {ov : Int32 → Int32} {ct le ki so h : Int32} {n : Nat} : kNo (fun j => decide (3 ≤ kKd ov ct le ki so h j)) n 0 ≤ kTw ov n := by
  unfold kTw
  exact kNo_mn n 0 (fun _ z => decide_eq_true (kKd_3.1 (of_decide_eq_true z)))
theorem kKd_no {ov : Int32 → Int32} {ct le ki so h : Int32} {n : Nat} (e : ∀ j, j < n → ¬ kKd ov ct le ki so h j = 2) : kTw ov n = kNo (fun j => decide (3 ≤ kKd ov ct le ki so h j)) n 0 := by
  unfold kTw
  refine kNo_cg n 0 (fun j _ h2 => ?_)
  show decide (ov (nI j) < 6) = decide (3 ≤ kKd ov ct le ki so h j)
  · by_cases c : ov (nI j) < 6
    · rw [decide_eq_true c, decide_eq_true (kKd_3.2 (e j (by omega)) c)]
    · rw [decide_eq_false c, decide_eq_false (fun z => c (kKd_3.1 z))]
/-- what a set of towns that call adds to the sum -/
def kLf (D : Prop) [Decidable D] (ov : Int32 → Int32) (n w : Int32) (P : kGT × kGT) (le ki so be h c : Int32) : Nat → Nat := kFs D (kKd ov (kCt ov w (kfu n 0) 0 P) le ki so h) be.toNatClampNeg c.toNatClampNeg (kTw ov n.toNatClampNeg) n.toNatClampNeg
/-- the sum so far -/
def k_ls (D : Prop) [Decidable D] (ov : Int32 → Int32) (n w : Int32) (P : kGT × kGT) (le ki so be h c sm : Int32) (ab : Int64) : Prop := ∃ s : Nat, sm = nI s ∧ s ≤ 1024 ∧ ab = lN (kSn (kLf D ov n w P le ki so be h c) s)
def kLA (D : Prop) [Decidable D] (ov : Int32 → Int32) (n w : Int32) (P : kGT × kGT) (le ki so be h c : Int32) : Nat := if D then kWt (kKd ov (kCt ov w (kfu n 0) 0 P) le ki so h) be.toNatClampNeg c.toNatClampNeg 16 n.toNatClampNeg 0 0 else 0
/-- the reference's two answers -/
def kLR (D : Prop) [Decidable D] (ov : Int32 → Int32) (n w : Int32) (P : kGT × kGT) (le ki so be h c : Int32) : Int64 × Int64 := (lN (kLA D ov n w P le ki so be h c / Nat.gcd (kLA D ov n w P le ki so be h c) (16 ^ kTw ov n.toNatClampNeg)), lN (16 ^ kTw ov n.toNatClampNeg / Nat.gcd (kLA D ov n w P le ki so be h c) (16 ^ kTw ov n.toNatClampNeg)))
/-- what may be borne, on the reference's side -/
def k_u9 (n : Int32) (f : Nat → Int32) : Prop := ∀ p : Int32, 0 ≤ p ∧ p < n → 0 ≤ 5 * (kP2 f p) ∧ 5 * (kP2 f p) ≤ 45
theorem k_bdP9 {f : Nat → Int32} {p : Int32} (h : k_bd 32 0 9 f) (hp : 0 ≤ p ∧ p ≤ 7) : 0 ≤ kP3 f p ∧ kP3 f p ≤ 9 := by
  obtain ⟨b, hb, rfl⟩ := nI_of2 (n := 7) (M := 7) (by decide) (Int32.not_lt.mpr hp.1) hp.2
  have e : ((4 * nI b) + 3 : Int32).toNatClampNeg = 4 * b + 3 := by rw [show (4 : Int32) = nI 4 from rfl, pk_mul, show (3 : Int32) = nI 3 from rfl, nI_add, nI_clamp (by omega)]
  have q := h (4 * b + 3) (by omega)
  unfold kP3
  rw [e, Int32.le_iff_toInt_le, Int32.le_iff_toInt_le, show (0 : Int32).toInt = 0 from rfl, show (9 : Int32).toInt = 9 from rfl]
  omega
section KLS
variable {ov : Int32 → Int32} {n w le ki so be h c ca kn fe en sm nn w1 : Int32} {P : kGT × kGT} {qt : Nat → Int32} {ab we r : Int64}
theorem k_ls_0 {D : Prop} [Decidable D] : k_ls D ov n w P le ki so be h c 0 0 := ⟨0, rfl, by decide, rfl⟩
theorem k_len {D : Prop} [Decidable D] {s : Nat} (hn : 0 ≤ n ∧ n ≤ 24) (hh : 0 ≤ h ∧ h ≤ 9) (hb : D → 0 ≤ be ∧ be ≤ 45) (hs : s < 2 ^ 30) (hca : k_ca ov (nI s) n ca) (hd : k_fd D (k_done (kMc ov ca) (kCt (kMc ov ca) w (kfu n 0) 0 P) le ki so be (fun x9 => if x9 < (24 : Int32) then h else (0 : Int32)) n kn fe en qt) kn fe en) : en = 0 ↔ D ∧ kSv (kKd ov (kCt ov w (kfu n 0) 0 P) le ki so h) be.toNatClampNeg n.toNatClampNeg 0 0 s = 1 := by
  by_cases d : D
  · obtain ⟨N, hN, rfl⟩ := nI_of2 (n := 24) (M := 24) (by decide) (Int32.not_lt.mpr hn.1) hn.2
    obtain ⟨B, hB, rfl⟩ := nI_of2 (n := 45) (M := 45) (by decide) (Int32.not_lt.mpr (hb d).1) (hb d).2
    have e := (hd.1 d).2.1
    rw [kCt_mc] at e
    have k0 : kfu (nI N) (0 : Int32) = N := (kfu_nat (a := 0) (b := N) (by decide) (by omega)).trans (Nat.sub_zero N)
    have g : kGG (kMc ov ca) (kCt ov w (kfu (nI N) 0) 0 P) le ki so (nI B) (fun x9 => if x9 < (24 : Int32) then h else (0 : Int32)) (nI N) = kGo (kMc ov ca) (kCt ov w (kfu (nI N) 0) 0 P) le ki so (nI B) (fun _ => h) N (nI 0) (nI 0) (nI (kCo ov h 0)) 0 := by
      unfold kGG
      rw [k0]
      exact kGo_cg (n := N) (by omega) (fun _ _ => rfl) (fun j hj => (k_h24 (h := h) j (by omega)).symm) N 0 0 0 0 (by omega)
    rw [g] at e
    have q := kGo_sv (ov := ov) (ct := kCt ov w (kfu (nI N) 0) 0 P) (le := le) (ki := ki) (so := so) (n := N) (b := B) (s := s) hN hB rfl hh (hca s N rfl hs rfl hN) N 0 0 (by omega) (Nat.zero_le B) (Nat.zero_le 20)
    rw [show kTw ov 0 = 0 from rfl, Nat.pow_zero, Nat.div_one] at q
    rw [nI_clamp (n := B) (by omega), nI_clamp (n := N) (by omega), e]
    exact ⟨fun z => ⟨d, q.mp z⟩, fun z => q.mpr z.2⟩
  · have e := (hd.2 d).2.2
    rw [e]
    exact ⟨fun z => absurd z (by decide), fun z => absurd z.1 d⟩
theorem k_slt {T s : Nat} (hT : T ≤ 10) (hs : s ≤ 1024) (hl : ¬ kshl (nI T) ≤ nI s) : s < 2 ^ T := by
  have p : 2 ^ T ≤ 2 ^ 10 := Nat.pow_le_pow_right (by decide) hT
  rw [kshl_n (by omega)] at hl
  have q : ¬ 2 ^ T ≤ s := fun z => hl ((nI_leI (by omega) (by omega)).mpr z)
  omega
theorem k_T10 (hn : 0 ≤ n ∧ n ≤ 24) (hnn : nn = nI (kTw ov n.toNatClampNeg)) (h10 : nn ≤ 10) : kTw ov n.toNatClampNeg ≤ 10 := kTw_10 hn hnn h10
theorem k_ls_y {D : Prop} [Decidable D] (hn : 0 ≤ n ∧ n ≤ 24) (hh : 0 ≤ h ∧ h ≤ 9) (hb : D → 0 ≤ be ∧ be ≤ 45) (hnn : nn = nI (kTw ov n.toNatClampNeg)) (h10 : nn ≤ 10) (g : k_ls D ov n w P le ki so be h c sm ab) (hl : ¬ kshl nn ≤ sm) (hca : k_ca ov sm n ca) (hd : k_fd D (k_done (kMc ov ca) (kCt (kMc ov ca) w (kfu n 0) 0 P) le ki so be (fun x9 => if x9 < (24 : Int32) then h else (0 : Int32)) n kn fe en qt) kn fe en) (z : en = 0) (hw : k_wp c sm nn we) : k_ls D ov n w P le ki so be h c (sm + 1) (ab + we) := by
  have T10 := k_T10 hn hnn h10
  obtain ⟨s, rfl, hs, rfl⟩ := g
  obtain ⟨C, s', K, rfl, hC, e1, h4, e2, hK, rfl⟩ := hw
  have es : s' = s := (nI_eq (by omega) (by omega)).mp e1.symm
  have eK : K = kTw ov n.toNatClampNeg := (nI_eq (by omega) (by omega)).mp (e2.symm.trans hnn)
  have p : 2 ^ kTw ov n.toNatClampNeg ≤ 2 ^ 10 := Nat.pow_le_pow_right (by decide) T10
  have s1 := k_slt T10 hs (by rw [← hnn]; exact hl)
  have q := (k_len hn hh hb (s := s) (by omega) hca hd).mp z
  refine ⟨s + 1, nI_1 s, by omega, ?_⟩
  rw [lN_add, kSn]
  refine congrArg (fun z => lN (kSn (kLf D ov n w P le ki so be h (nI C)) s + z)) ?_
  unfold kLf kFs
  rw [if_pos q.1, q.2, Nat.one_mul, kWp_g, es, eK, nI_clamp (n := C) (by omega)]
theorem k_ls_n {D : Prop} [Decidable D] (hn : 0 ≤ n ∧ n ≤ 24) (hh : 0 ≤ h ∧ h ≤ 9) (hb : D → 0 ≤ be ∧ be ≤ 45) (hnn : nn = nI (kTw ov n.toNatClampNeg)) (h10 : nn ≤ 10) (g : k_ls D ov n w P le ki so be h c sm ab) (hl : ¬ kshl nn ≤ sm) (hca : k_ca ov sm n ca) (hd : k_fd D (k_done (kMc ov ca) (kCt (kMc ov ca) w (kfu n 0) 0 P) le ki so be (fun x9 => if x9 < (24 : Int32) then h else (0 : Int32)) n kn fe en qt) kn fe en) (z : ¬ en = 0) : k_ls D ov n w P le ki so be h c (sm + 1) ab := by
  have T10 := k_T10 hn hnn h10
  obtain ⟨s, rfl, hs, rfl⟩ := g
  have p : 2 ^ kTw ov n.toNatClampNeg ≤ 2 ^ 10 := Nat.pow_le_pow_right (by decide) T10
  have s1 := k_slt T10 hs (by rw [← hnn]; exact hl)
  have q := k_len hn hh hb (s := s) (by omega) hca hd
  refine ⟨s + 1, nI_1 s, by omega, ?_⟩
  have e : kLf D ov n w P le ki so be h c s = 0 := by
    unfold kLf kFs
    by_cases d : D
    · rw [if_pos d]
      rcases kSv_01 (kd := kKd ov (kCt ov w (kfu n 0) 0 P) le ki so h) (b := be.toNatClampNeg) n.toNatClampNeg 0 0 s with h0 | h1
      · rw [h0, Nat.zero_mul]
      · exact absurd (q.mpr ⟨d, h1⟩) z
    · rw [if_neg d]
  rw [kSn, e, Nat.add_zero]
theorem klsh_n {T : Nat} (h : T ≤ 10) : klsh (nI T) = lN (16 ^ T) := by
  have e : ∀ k, k < 11 → klsh (nI k) = lN (16 ^ k) := by decide +kernel
  exact e T (by omega)
theorem kLA_le {D : Prop} [Decidable D] (hc : 0 ≤ c ∧ c ≤ 16) : kLA D ov n w P le ki so be h c ≤ 16 ^ kTw ov n.toNatClampNeg := by
  obtain ⟨C, hC, rfl⟩ := nI_of2 (n := 16) (M := 16) (by decide) (Int32.not_lt.mpr hc.1) hc.2
  unfold kLA
  by_cases d : D
  · rw [if_pos d, nI_clamp (n := C) (by omega)]
    exact Nat.le_trans (kWt_le hC n.toNatClampNeg 0 0) (Nat.pow_le_pow_right (by decide) kKd_le)
  · rw [if_neg d]
    exact Nat.zero_le _
theorem k_ls_e {D : Prop} [Decidable D] (hn : 0 ≤ n ∧ n ≤ 24) (hc : 0 ≤ c ∧ c ≤ 16) (hnn : nn = nI (kTw ov n.toNatClampNeg)) (h10 : nn ≤ 10) (g : k_ls D ov n w P le ki so be h c sm ab) (hl : sm = kshl nn) (hp : k_pz ab (klsh nn) w1 r) : r = if w1 = 0 then (kLR D ov n w P le ki so be h c).1 else (kLR D ov n w P le ki so be h c).2 := by
  have T10 := k_T10 hn hnn h10
  have p : 2 ^ kTw ov n.toNatClampNeg ≤ 2 ^ 10 := Nat.pow_le_pow_right (by decide) T10
  have p6 : 16 ^ kTw ov n.toNatClampNeg ≤ 16 ^ 10 := Nat.pow_le_pow_right (by decide) T10
  have p0 : 0 < 16 ^ kTw ov n.toNatClampNeg := Nat.pow_pos (by decide)
  obtain ⟨s, rfl, hs, rfl⟩ := g
  have es : s = 2 ^ kTw ov n.toNatClampNeg := by
    rw [hnn, kshl_n (by omega)] at hl
    exact (nI_eq (by omega) (by omega)).mp hl
  have hA : kSn (kLf D ov n w P le ki so be h c) s = kLA D ov n w P le ki so be h c := by
    obtain ⟨C, hC, eC⟩ := nI_of2 (n := 16) (M := 16) (by decide) (Int32.not_lt.mpr hc.1) hc.2
    rw [es]
    exact kFs_sum (by rw [eC, nI_clamp (n := C) (by omega)]; exact hC) (fun z => kKd_no z)
  have l := kLA_le (D := D) (ov := ov) (n := n) (w := w) (P := P) (le := le) (ki := ki) (so := so) (be := be) (h := h) hc
  rw [hnn, klsh_n T10, hA] at hp
  have q := hp _ _ rfl rfl (by omega) (by omega) p0
  exact q
end KLS
theorem k_g0 (e : Nat) : (lN (0 / Nat.gcd 0 (16 ^ e)), lN (16 ^ e / Nat.gcd 0 (16 ^ e))) = ((0 : Int64), (1 : Int64)) := by
  rw [Nat.gcd_zero_left, Nat.zero_div, Nat.div_self (Nat.pow_pos (by decide))]
  rfl
/-- the class's two answers are the reference's -/
theorem kLC_R {D : Prop} [Decidable D] {ov : Int32 → Int32} {n w le ki so be h c : Int32} {P : kGT × kGT} (hn : 0 ≤ n ∧ n ≤ 24) : kLC D ov n w P le ki so be h c = kLR D ov n w P le ki so be h c := by
  unfold kLC kLR kLA
  by_cases d : D
  · rw [if_pos d, if_pos d]
    unfold kLC0
    obtain ⟨N, hN, rfl⟩ := nI_of2 (n := 24) (M := 24) (by decide) (Int32.not_lt.mpr hn.1) hn.2
    have k0 : kfu (nI N) (0 : Int32) = N := (kfu_nat (a := 0) (b := N) (by decide) (by omega)).trans (Nat.sub_zero N)
    obtain ⟨J, _, hJ, eJ⟩ := kCt_ge (ov := ov) (w := w) N 0 P (by omega)
    have eJ : kCt ov w (kfu (nI N) 0) 0 P = nI J := by rw [k0]; exact eJ
    generalize kCt ov w (kfu (nI N) 0) 0 P = ct at eJ ⊢
    rw [nI_clamp (n := N) (by omega)]
    by_cases st : ∃ j, j < N ∧ kKd ov ct le ki so h j = 2
    · obtain ⟨j, hj, ej⟩ := st
      rw [kWt_stop ej N 0 0 (Nat.zero_le j) (by omega), kWt_stop ej N 0 0 (Nat.zero_le j) (by omega), k_g0, k_g0]
      by_cases t : ct < nI N
      · rw [if_pos t]
      · rw [if_neg t]
    · have no : ∀ j, j < N → ¬ kKd ov ct le ki so h j = 2 := fun j hj z => st ⟨j, hj, z⟩
      have t : ¬ ct < nI N := fun z => by
        have z1 := Int32.lt_iff_toInt_lt.mp z
        rw [nI_toInt (by omega)] at z1
        by_cases N0 : N = 0
        · rw [eJ, nI_toInt (by omega)] at z1
          omega
        · refine no (N - 1) (by omega) (if_pos (Or.inl (Int32.le_iff_toInt_le.mpr ?_)))
          rw [nI_toInt (by omega)]
          omega
      rw [if_neg t, kKd_no no, kNo_34 (kd := kKd ov ct le ki so h), kWt_u (kd := kKd ov ct le ki so h), Nat.mul_comm (16 ^ kNo (fun j => kKd ov ct le ki so h j == 3) N 0)]
      rw [(k_gcd_u (A := kWt (kKd ov ct le ki so h) be.toNatClampNeg c.toNatClampNeg 1 N 0 0) (e := kNo (fun j => decide (4 ≤ kKd ov ct le ki so h j)) N 0) (u := kNo (fun j => kKd ov ct le ki so h j == 3) N 0)).1, (k_gcd_u (A := kWt (kKd ov ct le ki so h) be.toNatClampNeg c.toNatClampNeg 1 N 0 0) (e := kNo (fun j => decide (4 ≤ kKd ov ct le ki so h j)) N 0) (u := kNo (fun j => kKd ov ct le ki so h j == 3) N 0)).2]
  · rw [if_neg d, if_neg d, k_g0]

/-! laughter: what may be borne is a figure -/
theorem kBad_all (f : Nat → Int32) : ∀ (m j : Nat), kBad f m j = -1 → j + m < 2 ^ 31 → ∀ i, j ≤ i → i < j + m → ¬ f i = -1
  | 0, j, _, _, i, h1, h2 => absurd h2 (by omega)
  | m + 1, j, h, hb, i, h1, h2 => by
    rw [kBad] at h
    by_cases c : f j = -1
    · rw [if_pos c] at h
      exact absurd h (k_nI_ne (by omega))
    · rw [if_neg c] at h
      by_cases e : i = j
      · rw [e]
        exact c
      · exact kBad_all f m (j + 1) h (by omega) i (by omega) (by omega)
theorem k_nb_mk {n p th : Int32} {f : Nat → Int32} (hn : 0 ≤ n) (hp : 0 ≤ p ∧ p < kNm th n f) : k_nb f n := by
  have e : kFt th n f = -1 := Classical.byContradiction (fun z => by
    have q := hp.2
    unfold kNm at q
    rw [if_neg z] at q
    exact absurd q (Int32.not_lt.mpr hp.1))
  have b : kBad f n.toNatClampNeg 0 = -1 := Classical.byContradiction (fun z => by
    unfold kFt at e
    rw [if_neg z] at e
    exact z e)
  obtain ⟨N, hN, rfl⟩ := k_nat hn
  rw [nI_clamp hN] at b
  intro j hj
  rw [nI_clamp hN] at hj
  exact kBad_all f N 0 b (by omega) j (Nat.zero_le j) (by omega)
theorem k_w9 {by4 : Nat → Int32} {a : Nat} (ha : a < 1000) (h : ¬ kv7 by4 (5 * a + 2) = -1) : 0 ≤ 5 * kv7 by4 (5 * a + 2) ∧ 5 * kv7 by4 (5 * a + 2) ≤ 45 := by
  have e3 : kv7 by4 (5 * a + 2) = wFig 49 (by4 (40 + (5 * a + 2))) := by
    unfold kv7
    rw [show (5 : Int32) = nI 5 from rfl, pk_rem (by omega) (by decide) (by decide), show (5 * a + 2) % 5 = 2 by omega]
    rfl
  rw [e3] at h ⊢
  have h2 := wFig_pos h
  generalize wFig 49 (by4 (40 + (5 * a + 2))) = x at h2 ⊢
  rw [Int32.le_iff_toInt_le, Int32.le_iff_toInt_le, Int32.toInt_mul, show (5 : Int32).toInt = 5 from rfl, show (0 : Int32).toInt = 0 from rfl, show (45 : Int32).toInt = 45 from rfl, k_bm (by omega) (by omega)]
  omega
theorem k_t9_mk {q f7 by4 : Nat → Int32} {n7 : Int32} (t1 : 0 ≤ (q 1).toInt ∧ (q 1).toInt ≤ 39) (m7 : k_ml (q 1) f7 (kv7 by4)) (e7 : n7 = kNm (kTh7 (q 1)) (q 1) f7) : k_t9 n7 f7 := by
  intro p hp
  have hc := k_cl (m := 39) t1
  have hlt := k_lt7 (f := f7) ⟨hc.2, by omega⟩ (by rw [← e7]; exact hp)
  have nb : k_nb f7 (q 1) := k_nb_mk (th := kTh7 (q 1)) hc.2 (by rw [← e7]; exact hp)
  obtain ⟨a, ha, rfl⟩ := k_nat hp.1
  obtain ⟨m, hm2, em⟩ := k_nat hc.2
  rw [em] at hlt t1 m7 nb
  rw [nI_toInt ha, nI_toInt hm2] at hlt
  rw [nI_toInt hm2] at t1
  have e1 : (5 * nI a + 2 : Int32) = nI (5 * a + 2) := by rw [show (5 : Int32) = nI 5 from rfl, pk_mul, show (2 : Int32) = nI 2 from rfl, nI_add]
  have f := m7 (5 * a + 2) (by rw [nI_clamp hm2]; omega)
  have g := nb (5 * a + 2) (by rw [nI_clamp hm2]; omega)
  rw [e1, kAt_eq ⟨nI_pos' (by omega), by rw [show (39 : Int32) = nI 39 from rfl]; exact nI_lt (by omega) (by decide)⟩, nI_clamp (by omega), f]
  exact k_w9 (by omega) (by rw [← f]; exact g)
theorem k_u9_mk {n v : Int32} {f by4 : Nat → Int32} (t1 : 0 ≤ n.toInt ∧ n.toInt ≤ 39) (hv : v = kNm (kTh7 n) n (kv7 by4)) (hq : k_mq 5 4 v n f (kv7 by4)) : k_u9 v f := by
  intro p hp
  have hc := k_cl (m := 39) t1
  have hlt := k_lt7 (f := kv7 by4) ⟨hc.2, by omega⟩ (by rw [← hv]; exact hp)
  have hv0 : ¬ v = 0 := fun q => absurd (q ▸ hp.2) (Int32.not_lt.mpr hp.1)
  have nb : k_nb (kv7 by4) n := k_nb_mk (th := kTh7 n) hc.2 (by rw [← hv]; exact hp)
  have hmp := k_mq_mp hq hv0
  obtain ⟨a, ha, rfl⟩ := k_nat hp.1
  obtain ⟨m, hm, rfl⟩ := k_nat hc.2
  rw [nI_toInt ha, nI_toInt hm] at hlt
  rw [nI_toInt hm] at t1
  have e : f (nI 4 * nI a + nI 2).toNatClampNeg = kv7 by4 (nI 5 * nI a + nI 2).toNatClampNeg := k_mp_at (c := 5) (d := 4) (by decide) (by decide) (by decide) hmp ⟨nI_pos' ha, by rw [nI_toInt ha]; omega⟩ ⟨by decide, by decide⟩ (by rw [nI_toInt ha, nI_toInt hm, nI_toInt (by decide)]; omega)
  have e2 : (nI 5 * nI a + nI 2).toNatClampNeg = 5 * a + 2 := by rw [pk_mul, nI_add, nI_clamp (by omega)]
  have h1 := nb (5 * a + 2) (by rw [nI_clamp hm]; omega)
  rw [e2] at e
  have e4 : kP2 f (nI a) = kv7 by4 (5 * a + 2) := e
  rw [e4]
  exact k_w9 (by omega) h1

def lwGo (p₀ : Program) (l : Launch) (e₀ : Env) (s₀ : State) (m₀ : MethodId) (below : List Frame) (meth : Method) (c₀ : Code) (dC : Nat → ClassId) (dI : Nat → Nat → Nat) (cI cJ cQ : ClassId) (b : Nat) (hx aLa vLa aPa vPa aGe vGe aFl vFl aTr gL gR aBe aLu vLu aLo vSf vSm vCo vSh s0 i0 s1 i1 s2 i2 s3 i3 hm vFo vSi vIt vMo vBy vTy vMi vPs vGs vFt vTo vPr vSt vFn vSg vAl : Nat) (k : Nat) : Prop := ∀ (sn : Int32) (le : Int32) (la : Int32) (qTy : Nat → Int32) (a4 : Int32) (n4 : Int32) (f4 : Nat → Int32) (a7 : Int32) (n7 : Int32) (f7 : Nat → Int32) (a2 : Int32) (n2 : Int32) (f2 : Nat → Int32) (fn : Int32) (qFt : Nat → Int32) (lf : Nat) (rt : Nat) (tgo : Int32) (tca : Int32) (tki : Int32) (tso : Int32) (tbe : Int32) (twe : Int32) (tle : Int32) (tan : Int32) (tco : Int32) (ten : Int32) (u0 : Int32) (u1 : Int32) (u2 : Int32) (u3 : Int32) (v0 : Int32) (v1 : Int32) (v2 : Int32) (v3 : Int32) (k0 : Int32) (k1 : Int32) (k2 : Int32) (k3 : Int32) (ab : Int64) (be : Int64) (fl : Nat → Int64) (sd : Int32) (sf : Nat → Int32) (sm : Nat → Int32) (oo : Nat → Int32) (sLo : Nat → Int32) (sFo : Nat → Int32) (qSi : Nat → Int32) (gq0 : Nat → Int32) (gq1 : Nat → Int32) (gq2 : Nat → Int32) (gq3 : Nat → Int32) (mi : Int32) (pn : Int32) (gn : Int32) (kn : Int32) (fe : Int32) (en : Int32) (ca : Int32) (an : Int32) (co : Int32) (dr : Int32) (qFo : Nat → Int32) (qIt : Nat → Int32) (qMv : Nat → Int32) (qBy : Nat → Int32) (qMi : Nat → Int32) (qPs : Nat → Int32) (qGs : Nat → Int32) (qTo : Nat → Int32) (qPr : Nat → Int32) (qSt : Nat → Int32) (qFn : Nat → Int32) (qSg : Nat → Int32) (qAl : Nat → Int32), (0 ≤ n4 ∧ n4 ≤ 24) → (k_lf qFo sLo sFo) → (a4 = kFt (qTy 0) (qTy 0) f4) → (n4 = kNm (qTy 0) (qTy 0) f4) → (a7 = kFt (kTh7 (qTy 1)) (qTy 1) f7) → (n7 = kNm (kTh7 (qTy 1)) (qTy 1) f7) → (a2 = kFt (kTh2 (qTy 2)) (qTy 2) f2) → (n2 = kNm (kTh2 (qTy 2)) (qTy 2) f2) → (k_ml (qTy 0) f4 (kv4 qBy)) → (k_ml (qTy 1) f7 (kv7 qBy)) → (k_ml (qTy 2) f2 (kv2 qBy)) → (k_it 0 qSi gq0 qIt) → (k_it 1 qSi gq1 qIt) → (k_it 2 qSi gq2 qIt) → (k_it 3 qSi gq3 qIt) → (k_bd 32 0 9 qFt) → (ca = 16777215) → (0 ≤ (qTy 0).toInt ∧ (qTy 0).toInt ≤ 24) → (0 ≤ (qTy 1).toInt ∧ (qTy 1).toInt ≤ 39) → (0 ≤ (qTy 2).toInt ∧ (qTy 2).toInt ≤ 23) → (k_bd 4 0 60 qSi) → (0 ≤ fn ∧ fn ≤ 8) → (0 ≤ sn ∧ sn ≤ 8) → (0 ≤ mi ∧ mi ≤ 24) → (0 ≤ pn ∧ pn ≤ 8) → (0 ≤ gn ∧ gn ≤ 8) → (k_bd 2 0 7 qPr) → (0 ≤ fe ∧ fe ≤ 24) → (en = 0 ∨ kn = 0 ∨ fe ≤ 23) → (0 ≤ kn ∧ kn ≤ 24) → ∀ (H : Heap) (locs : List Loc) (ls : Array Slot), va_P (dC, dI) vwCl [(kX11 hx aLa aPa aGe aFl aTr aBe aLu aLo vSf vSm vCo vSh sn le la), (kX4 aLa vLa (qTy 0) a4 n4), (kAI vLa cI 24 f4), (kX7 aPa vPa (qTy 1) a7 n7), (kAI vPa cI 39 f7), (kX2 aGe vGe (qTy 2) a2 n2), (kAI vGe cI 23 f2), (kX1 aFl vFl fn), (kAI vFl cI 32 qFt), (kX10 aTr aLa aPa aGe gL gR lf rt tgo tca tki tso tbe twe tle tan tco ten), (kX3 gL u0 u1 u2 u3), (kX3 gR v0 v1 v2 v3), (kX0 aBe k0 k1 k2 k3), (kX5 aLu vLu ab be), (kAJ vLu cJ 46 fl), (kX6 aLo sd), (kAI vSf cI 8 sf), (kAI vSm cI 8 sm), (kAI vCo cI 25 oo), (kAQ vSh cQ 4 (fSh s0 s1 s2 s3)), (kX8 s0 i0 (sLo 0) (sFo 0) (qSi 0)), (kAI i0 cI 60 gq0), (kX8 s1 i1 (sLo 1) (sFo 1) (qSi 1)), (kAI i1 cI 60 gq1), (kX8 s2 i2 (sLo 2) (sFo 2) (qSi 2)), (kAI i2 cI 60 gq2), (kX8 s3 i3 (sLo 3) (sFo 3) (qSi 3)), (kAI i3 cI 60 gq3), (kX12 hm vFo vSi vIt vMo la vBy vTy mi vMi pn vPs gn vGs fn vFt le vTo kn fe en ca an co vPr vSt vFn sn vSg vAl dr), (kAI vFo cI 4 qFo), (kAI vSi cI 4 qSi), (kAI vIt cI 240 qIt), (kAI vMo cI 60 qMv), (kAI vBy cI 120 qBy), (kAI vTy cI 3 qTy), (kAI vMi cI 24 qMi), (kAI vPs cI 32 qPs), (kAI vGs cI 16 qGs), (kAI vFt cI 32 qFt), (kAI vTo cI 96 qTo), (kAI vPr cI 2 qPr), (kAI vSt cI 2 qSt), (kAI vFn cI 2 qFn), (kAI vSg cI 16 qSg), (kAI vAl cI 25 qAl)] H → va_D (fun q : Nat => s₀.heap.size ≤ q) [(kX11 hx aLa aPa aGe aFl aTr aBe aLu aLo vSf vSm vCo vSh sn le la), (kX4 aLa vLa (qTy 0) a4 n4), (kAI vLa cI 24 f4), (kX7 aPa vPa (qTy 1) a7 n7), (kAI vPa cI 39 f7), (kX2 aGe vGe (qTy 2) a2 n2), (kAI vGe cI 23 f2), (kX1 aFl vFl fn), (kAI vFl cI 32 qFt), (kX10 aTr aLa aPa aGe gL gR lf rt tgo tca tki tso tbe twe tle tan tco ten), (kX3 gL u0 u1 u2 u3), (kX3 gR v0 v1 v2 v3), (kX0 aBe k0 k1 k2 k3), (kX5 aLu vLu ab be), (kAJ vLu cJ 46 fl), (kX6 aLo sd), (kAI vSf cI 8 sf), (kAI vSm cI 8 sm), (kAI vCo cI 25 oo), (kAQ vSh cQ 4 (fSh s0 s1 s2 s3)), (kX8 s0 i0 (sLo 0) (sFo 0) (qSi 0)), (kAI i0 cI 60 gq0), (kX8 s1 i1 (sLo 1) (sFo 1) (qSi 1)), (kAI i1 cI 60 gq1), (kX8 s2 i2 (sLo 2) (sFo 2) (qSi 2)), (kAI i2 cI 60 gq2), (kX8 s3 i3 (sLo 3) (sFo 3) (qSi 3)), (kAI i3 cI 60 gq3), (kX12 hm vFo vSi vIt vMo la vBy vTy mi vMi pn vPs gn vGs fn vFt le vTo kn fe en ca an co vPr vSt vFn sn vSg vAl dr), (kAI vFo cI 4 qFo), (kAI vSi cI 4 qSi), (kAI vIt cI 240 qIt), (kAI vMo cI 60 qMv), (kAI vBy cI 120 qBy), (kAI vTy cI 3 qTy), (kAI vMi cI 24 qMi), (kAI vPs cI 32 qPs), (kAI vGs cI 16 qGs), (kAI vFt cI 32 qFt), (kAI vTo cI 96 qTo), (kAI vPr cI 2 qPr), (kAI vSt cI 2 qSt), (kAI vFn cI 2 qFn), (kAI vSg cI 16 qSg), (kAI vAl cI 25 qAl)] → va_S (fun q : Nat => s₀.heap.size ≤ q) s₀.heap H locs → lv_has ls 4 [(3, .int (nI k)), (2, .ref hm), (1, .ref hx), (0, .ref b)] → W p₀ l e₀ room_1 s₀ m₀ #[Value.ref b] below meth c₀ H locs 45 1235 (lw_Z below #[Value.ref b] s₀) (F0 m₀ 18 ls [])
theorem law_end {p₀ : Program} {l : Launch} {e₀ : Env} {s₀ : State} {m₀ : MethodId} {below : List Frame} {meth : Method} {c₀ : Code} {b L : Nat} {sc : Nat → Int32} (C0 : lw_At p₀ s₀ m₀ meth c₀ b L sc) {H : Heap} {locs : List Loc} (hS : va_S (fun q : Nat => s₀.heap.size ≤ q) s₀.heap H locs) (ls : Array Slot) {k n : Nat} (hk : k ≤ 600000 := by decide) (hn : n ≤ 7302249 := by decide) : W p₀ l e₀ room_1 s₀ m₀ #[Value.ref b] below meth c₀ H locs k n (lw_Z below #[Value.ref b] s₀) (F0 m₀ 1179 ls []) := by
  obtain ⟨hx₀, hb, hr, hml, hown, hts, hX, hbl, hlocks, hgv⟩ := id C0
  refine lv_iconst (v := 1) hx₀ hb dL_law_1179 (by decide +kernel) ?_
  refine va_forget (fun q hq => hS.2.2 q hq) ?_
  refine W.widen (k := 600000) (n := 7302249) hk hn ?_
  exact lw_ret hx₀ hb hr hlocks dL_law_1180
