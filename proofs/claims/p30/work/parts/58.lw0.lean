-- ===== end of PART A; then your names; then what follows =====
/-! THE CLAIM OUT OF ONE WALK OF THE LAW'S BODY. Your part is whole_start (and what it stands on); all else here is the same for every law, but numbers. -/
def R_law : String := "BittenStickLaw"
def lw_P (b : Addr) (xs : List Int32) (args : Array Value) (s : State) : Prop := args = #[.ref b] ∧ s.IntsAt b xs ∧ xs.length ≤ 384 ∧ (Jvm.Cond.and given_1 narrow_1).before args s = true
def lw_Q (_ : Array Value) (s : State) (o : Outcome) (t : State) : Prop := o = .returned (some (.int 1)) ∧ Framed s o t [] 600000 7302249
def lw_Z (below : List Frame) (a : Array Value) (s : State) : State → Prop := fun t => ∃ o, t.status = .running ∧ Ended t below o ∧ lw_Q a s o t
/-- the law's own end, with 1 on the stack, nothing written that was there before, its room as the claim has it -/
theorem lw_ret {p : Program} {l : Launch} {e : Env} {s : State} {m : MethodId} {below : List Frame} {meth : Method} {c : Code} {b : Nat} (hx : p.tables.exec = Jvm.exec) (hb : c.code = code) (hr : meth.sig.returnType = ret) (hlocks : meth.locks = false) {pc : Nat} {H : Heap} {ls : Array Slot} (hdg : decode code pc = .ok (.ireturn, 1)) : W p l e room_1 s m #[Value.ref b] below meth c H [] 600000 7302249 (lw_Z below #[Value.ref b] s) (F0 m pc ls [.int 1]) := by
  intro T hT X
  obtain ⟨fs, hret, hrun, hended, hW, hframe⟩ := X.leave (v := some (.int 1)) (hlocks := hlocks) (fun h => by rw [hr] at h; cases h)
  have hmeth' : T.vm.method? m = some meth := X.method'
  refine ⟨T.setFrames fs, ?_, .returned (some (.int 1)), hrun, hended, rfl, ⟨_, rfl⟩, hW, hframe⟩
  jvm_step X.here [X.here.top, hx, hb, hdg, hmeth', hr, ret, narrow_b1]
  (try refine ⟨rfl, ?_⟩); (try refine ⟨rfl, ?_⟩)
  first | (intro acts; rw [hret _ acts rfl rfl rfl]) | rw [hret _ _ rfl rfl rfl]
  exact Steps.refl _
/-- what holds at the law's entry: the machine, the code, the tables' words (any of lw_tbl by 'hts w (by decide +kernel)'), the script of L ints xs at the cell b, what the Statement gives of the start (any of its parts by flat_of_before) -/
def lw_At (p : Program) (s : State) (m : MethodId) (meth : Method) (c : Code) (b L : Nat) (xs : Nat → Int32) : Prop :=
  p.tables.exec = Jvm.exec ∧ c.code = code ∧ meth.sig.returnType = ret ∧ c.maxLocals = 4 ∧ s.vm.findClass R_law = some m.cls ∧ (∀ w ∈ lw_tbl, w.before #[Value.ref b] s = true) ∧ va_X b L xs s s.heap ∧ b < s.heap.size ∧ meth.locks = false ∧ (Jvm.Cond.and given_1 narrow_1).before #[Value.ref b] s = true

theorem k_sx {k L j : Nat} (hk : k + 6 ≤ L) (hL : L ≤ 384) (hj : j < 6) : vp_in (nI k + nI j) L := by
  rw [nI_add]
  exact vp_in_nI (by omega) (by omega)
theorem k_s0 {k L : Nat} (hk : k + 6 ≤ L) (hL : L ≤ 384) : vp_in (nI k) L := vp_in_nI (by omega) (by omega)
theorem k_hd {k L : Nat} (hL : L ≤ 384) (hk : k ≤ 400) (h : ¬ nI L - nI 6 < nI k) : k + 6 ≤ L := by
  have h1 : ¬ (nI L - nI 6).toInt < (nI k).toInt := fun q => h (Int32.lt_iff_toInt_lt.mpr q)
  rw [pk_sub_toInt (by omega) (by omega), nI_toInt (by omega)] at h1
  omega
theorem k_hx {k L : Nat} (hL : L ≤ 384) (hk : k ≤ 400) (h : k + 6 ≤ L) : ¬ nI L - nI 6 < nI k := by
  intro q
  have h1 := Int32.lt_iff_toInt_lt.mp q
  rw [pk_sub_toInt (by omega) (by omega), nI_toInt (by omega)] at h1
  omega

/-- the sheets of class and reference: lost, or of one form -/
def k_lf (qFo sLo sFo : Nat → Int32) : Prop := ∀ k, k < 4 → (qFo k < 0 ∧ sLo k = 1) ∨ (¬ qFo k < 0 ∧ sLo k = 0 ∧ sFo k = qFo k)
theorem k_c4 {s : Int32} (h : 0 ≤ s ∧ s ≤ 3) : s.toNatClampNeg < 4 := by
  have h0 : ¬ s < 0 := Int32.not_lt.mpr h.1
  obtain ⟨j, hj, rfl⟩ := nI_of2 (n := 3) (M := 3) (by decide) h0 h.2
  rw [nI_clamp (by omega)]
  omega
theorem k_lf_at {qFo sLo sFo : Nat → Int32} (h : k_lf qFo sLo sFo) {s : Int32} (hs : 0 ≤ s ∧ s ≤ 3) : (sLo s.toNatClampNeg = 0 ↔ ¬ qFo s.toNatClampNeg < 0) ∧ (sLo s.toNatClampNeg = 0 → sFo s.toNatClampNeg = qFo s.toNatClampNeg) := by
  rcases h _ (k_c4 hs) with ⟨h1, h2⟩ | ⟨h1, h2, h3⟩
  · refine ⟨⟨fun q => absurd (h2.symm.trans q) (by decide), fun q => absurd h1 q⟩, fun q => absurd (h2.symm.trans q) (by decide)⟩
  · exact ⟨⟨fun _ => h1, fun _ => h2⟩, fun _ => h3⟩
theorem k_lf_sheet {qFo sLo sFo : Nat → Int32} (h : k_lf qFo sLo sFo) {ss fm nn : Int32} : k_lf (if 0 ≤ ss ∧ ss ≤ 3 ∧ 0 ≤ fm ∧ fm ≤ 2 ∧ nn ≤ 60 ∧ ¬ nn < 0 then upd qFo ss.toNatClampNeg fm else qFo) (if 0 ≤ ss ∧ ss ≤ 3 ∧ 0 ≤ fm ∧ fm ≤ 2 ∧ nn ≤ 60 ∧ ¬ nn < 0 then upd sLo ss.toNatClampNeg 0 else sLo) (if 0 ≤ ss ∧ ss ≤ 3 ∧ 0 ≤ fm ∧ fm ≤ 2 ∧ nn ≤ 60 ∧ ¬ nn < 0 then upd sFo ss.toNatClampNeg fm else sFo) := by
  by_cases c : 0 ≤ ss ∧ ss ≤ 3 ∧ 0 ≤ fm ∧ fm ≤ 2 ∧ nn ≤ 60 ∧ ¬ nn < 0
  · rw [if_pos c, if_pos c, if_pos c]
    intro k hk
    by_cases e : k = ss.toNatClampNeg
    · subst e
      rw [pk_us, pk_us, pk_us]
      exact Or.inr ⟨Int32.not_lt.mpr c.2.2.1, rfl, rfl⟩
    · rw [pk_un e, pk_un e, pk_un e]
      exact h k hk
  · rw [if_neg c, if_neg c, if_neg c]
    exact h
theorem k_lf_lose {qFo sLo sFo : Nat → Int32} (h : k_lf qFo sLo sFo) {ss : Int32} : k_lf (if 0 ≤ ss ∧ ss ≤ 3 ∧ ¬ qFo ss.toNatClampNeg < 0 then upd qFo ss.toNatClampNeg (-1) else qFo) (if 0 ≤ ss ∧ ss ≤ 3 ∧ sLo ss.toNatClampNeg = 0 then upd sLo ss.toNatClampNeg 1 else sLo) sFo := by
  by_cases c : 0 ≤ ss ∧ ss ≤ 3 ∧ sLo ss.toNatClampNeg = 0
  · have a := k_lf_at h ⟨c.1, c.2.1⟩
    rw [if_pos c, if_pos ⟨c.1, c.2.1, a.1.mp c.2.2⟩]
    intro k hk
    by_cases e : k = ss.toNatClampNeg
    · subst e
      rw [pk_us, pk_us]
      exact Or.inl ⟨by decide, rfl⟩
    · rw [pk_un e, pk_un e]
      exact h k hk
  · have c2 : ¬ (0 ≤ ss ∧ ss ≤ 3 ∧ ¬ qFo ss.toNatClampNeg < 0) := fun q => c ⟨q.1, q.2.1, (k_lf_at h ⟨q.1, q.2.1⟩).1.mpr q.2.2⟩
    rw [if_neg c, if_neg c2]
    exact h
theorem k_ifc {α : Type} {P Q : Prop} [Decidable P] [Decidable Q] {a b a2 b2 : α} (h : P ↔ Q) (h1 : P → a = a2) (h2 : ¬ P → b = b2) : (if P then a else b) = if Q then a2 else b2 := by
  by_cases c : P
  · rw [if_pos c, if_pos (h.mp c)]; exact h1 c
  · rw [if_neg c, if_neg (fun q => c (h.mpr q))]; exact h2 c
theorem e_lose {qFo sLo sFo qSi : Nat → Int32} (h : k_lf qFo sLo sFo) {ss : Int32} : (if 0 ≤ ss ∧ ss ≤ 3 then (if sLo ss.toNatClampNeg = 0 then qSi ss.toNatClampNeg else -11) else -2) = (if 0 ≤ ss ∧ ss ≤ 3 then (if qFo ss.toNatClampNeg < 0 then -11 else qSi ss.toNatClampNeg) else -2) := by
  refine k_ifc Iff.rfl (fun c => ?_) (fun _ => rfl)
  have a := (k_lf_at h c).1
  by_cases d : qFo ss.toNatClampNeg < 0
  · rw [if_pos d, if_neg (fun q => a.mp q d)]
  · rw [if_neg d, if_pos (a.mpr d)]
theorem e_lay {qFo sLo sFo qSi : Nat → Int32} (h : k_lf qFo sLo sFo) {ss fm i1 : Int32} : (if 0 ≤ ss ∧ ss ≤ 3 ∧ 0 ≤ fm ∧ fm ≤ 2 then (if sLo ss.toNatClampNeg = 0 ∧ sFo ss.toNatClampNeg = fm ∧ 0 ≤ i1 ∧ i1 < qSi ss.toNatClampNeg then (1 : Int32) else if sLo ss.toNatClampNeg = 0 ∧ sFo ss.toNatClampNeg = fm then -12 else if sLo ss.toNatClampNeg = 0 then -13 else -11) else -2) = (if 0 ≤ ss ∧ ss ≤ 3 ∧ 0 ≤ fm ∧ fm ≤ 2 then (if ¬ qFo ss.toNatClampNeg < 0 ∧ qFo ss.toNatClampNeg = fm ∧ 0 ≤ i1 ∧ i1 < qSi ss.toNatClampNeg then 1 else if ¬ qFo ss.toNatClampNeg < 0 ∧ qFo ss.toNatClampNeg = fm then -12 else if ¬ qFo ss.toNatClampNeg < 0 then -13 else -11) else -2) := by
  refine k_ifc Iff.rfl (fun c => ?_) (fun _ => rfl)
  obtain ⟨a, b⟩ := k_lf_at h ⟨c.1, c.2.1⟩
  refine k_ifc ⟨fun q => ⟨a.mp q.1, (b q.1).symm.trans q.2.1, q.2.2⟩, fun q => ⟨a.mpr q.1, (b (a.mpr q.1)).trans q.2.1, q.2.2⟩⟩ (fun _ => rfl) (fun _ => ?_)
  refine k_ifc ⟨fun q => ⟨a.mp q.1, (b q.1).symm.trans q.2⟩, fun q => ⟨a.mpr q.1, (b (a.mpr q.1)).trans q.2⟩⟩ (fun _ => rfl) (fun _ => ?_)
  exact k_ifc a (fun _ => rfl) (fun _ => rfl)
theorem e_copy {qFo sLo sFo qSi : Nat → Int32} (h : k_lf qFo sLo sFo) {ss s5 ix jx nn : Int32} : (if 0 ≤ ss ∧ ss ≤ 3 ∧ 0 ≤ s5 ∧ s5 ≤ 3 then (if sLo ss.toNatClampNeg = 0 ∧ sLo s5.toNatClampNeg = 0 then (if sFo ss.toNatClampNeg = sFo s5.toNatClampNeg then (if 0 ≤ ix ∧ 0 ≤ jx ∧ 0 ≤ nn ∧ ix.toInt + nn.toInt ≤ (qSi ss.toNatClampNeg).toInt ∧ jx.toInt + nn.toInt ≤ (qSi s5.toNatClampNeg).toInt then (1 : Int32) else -12) else -14) else -11) else -2) = (if 0 ≤ ss ∧ ss ≤ 3 ∧ 0 ≤ s5 ∧ s5 ≤ 3 then (if ¬ qFo ss.toNatClampNeg < 0 ∧ ¬ qFo s5.toNatClampNeg < 0 then (if qFo ss.toNatClampNeg = qFo s5.toNatClampNeg then (if 0 ≤ ix ∧ 0 ≤ jx ∧ 0 ≤ nn ∧ ix.toInt + nn.toInt ≤ (qSi ss.toNatClampNeg).toInt ∧ jx.toInt + nn.toInt ≤ (qSi s5.toNatClampNeg).toInt then 1 else -12) else -14) else -11) else -2) := by
  refine k_ifc Iff.rfl (fun c => ?_) (fun _ => rfl)
  obtain ⟨a, b⟩ := k_lf_at h ⟨c.1, c.2.1⟩
  obtain ⟨a2, b2⟩ := k_lf_at h ⟨c.2.2.1, c.2.2.2⟩
  refine k_ifc ⟨fun q => ⟨a.mp q.1, a2.mp q.2⟩, fun q => ⟨a.mpr q.1, a2.mpr q.2⟩⟩ (fun q => ?_) (fun _ => rfl)
  rw [b q.1, b2 q.2]

theorem k_ml_app {n v : Int32} {f g g' : Nat → Int32} (hn : 0 ≤ n ∧ n.toInt ≤ 100) (h : k_ml n f g) (hg : ∀ j, j < n.toNatClampNeg → g' j = g j) (hv : g' n.toNatClampNeg = v) : k_ml (n + 1) (upd f n.toNatClampNeg v) g' := by
  obtain ⟨a, ha, rfl⟩ := k_nat hn.1
  have h2 := hn.2
  rw [nI_toInt ha] at h2
  intro j hj
  rw [nI_1, nI_clamp (by omega)] at hj
  by_cases e : j = (nI a).toNatClampNeg
  · rw [e, pk_us, hv]
  · rw [pk_un e]
    have q : j < (nI a).toNatClampNeg := by rw [nI_clamp ha] at e ⊢; omega
    rw [hg j q]
    exact h j q
theorem k_ml_cg {n : Int32} {f g g' : Nat → Int32} (h : k_ml n f g) (hg : ∀ j, j < n.toNatClampNeg → g' j = g j) : k_ml n f g' := fun j hj => (h j hj).trans (hg j hj).symm
theorem k_ml_le {n m : Int32} {f g : Nat → Int32} (h : k_ml n f g) (hm : 0 ≤ m ∧ m ≤ n) : k_ml m f g := by
  obtain ⟨a, ha, rfl⟩ := k_nat hm.1
  obtain ⟨b, hb, rfl⟩ := k_nat (Int32.le_trans hm.1 hm.2)
  have := (nI_leI ha hb).mp hm.2
  intro j hj
  rw [nI_clamp ha] at hj
  exact h j (by rw [nI_clamp hb]; omega)
theorem k_cl {x : Int32} {m : Nat} (h : 0 ≤ x.toInt ∧ x.toInt ≤ m) : x.toNatClampNeg ≤ m ∧ 0 ≤ x := by
  have h0 : 0 ≤ x := Int32.le_iff_toInt_le.mpr (by rw [show (0 : Int32).toInt = 0 from rfl]; exact h.1)
  obtain ⟨a, ha, rfl⟩ := k_nat h0
  rw [nI_toInt ha] at h
  exact ⟨by rw [nI_clamp ha]; omega, h0⟩
section KT
variable {q by4 : Nat → Int32} {tt b : Int32}
theorem k_ty_bd (h0 : 0 ≤ (q 0).toInt ∧ (q 0).toInt ≤ 24) (h1 : 0 ≤ (q 1).toInt ∧ (q 1).toInt ≤ 39) (c : (tt = 0 ∧ ¬ q 0 = 24 ∨ tt = 1 ∧ ¬ q 1 = 39 ∨ tt = 2 ∧ ¬ q 2 = 23) ∧ 0 ≤ b ∧ b ≤ 255) : (tt = 0 ∧ kIx tt q = (q 0).toNatClampNeg ∧ kIx tt q ≤ 24) ∨ (tt = 1 ∧ kIx tt q = 40 + (q 1).toNatClampNeg ∧ kIx tt q ≤ 79) ∨ (tt = 2 ∧ kIx tt q = 80 + (q 2).toNatClampNeg) := by
  rcases c.1 with ⟨e, _⟩ | ⟨e, _⟩ | ⟨e, _⟩
  · refine Or.inl ⟨e, ?_⟩
    unfold kIx
    rw [if_pos e]
    exact ⟨rfl, (k_cl (m := 24) h0).1⟩
  · refine Or.inr (Or.inl ⟨e, ?_⟩)
    unfold kIx
    rw [if_neg (by rw [e]; decide), if_pos e]
    have := (k_cl (m := 39) h1).1
    exact ⟨rfl, by omega⟩
  · refine Or.inr (Or.inr ⟨e, ?_⟩)
    unfold kIx
    rw [if_neg (by rw [e]; decide), if_neg (by rw [e]; decide)]
theorem k_ml_t4 {f : Nat → Int32} (h : k_ml (q 0) f (kv4 by4)) (h0 : 0 ≤ (q 0).toInt ∧ (q 0).toInt ≤ 24) (h1 : 0 ≤ (q 1).toInt ∧ (q 1).toInt ≤ 39) : k_ml (if tt = 0 ∧ 0 ≤ b ∧ b ≤ 255 ∧ ¬ q 0 = 24 then q 0 + 1 else q 0) (if tt = 0 ∧ 0 ≤ b ∧ b ≤ 255 ∧ ¬ q 0 = 24 then upd f (q 0).toNatClampNeg (wL b) else f) (kv4 (if (tt = 0 ∧ ¬ q 0 = 24 ∨ tt = 1 ∧ ¬ q 1 = 39 ∨ tt = 2 ∧ ¬ q 2 = 23) ∧ 0 ≤ b ∧ b ≤ 255 then upd by4 (kIx tt q) b else by4)) := by
  have hc := k_cl (m := 24) h0
  by_cases c : tt = 0 ∧ 0 ≤ b ∧ b ≤ 255 ∧ ¬ q 0 = 24
  · have c2 : (tt = 0 ∧ ¬ q 0 = 24 ∨ tt = 1 ∧ ¬ q 1 = 39 ∨ tt = 2 ∧ ¬ q 2 = 23) ∧ 0 ≤ b ∧ b ≤ 255 := ⟨Or.inl ⟨c.1, c.2.2.2⟩, c.2.1, c.2.2.1⟩
    rw [if_pos c, if_pos c, if_pos c2]
    have e : kIx tt q = (q 0).toNatClampNeg := by unfold kIx; rw [if_pos c.1]
    refine k_ml_app ⟨hc.2, by omega⟩ h (fun j hj => ?_) ?_
    · unfold kv4
      rw [pk_un (by omega)]
    · unfold kv4
      rw [e, pk_us]
  · rw [if_neg c, if_neg c]
    refine k_ml_cg h (fun j hj => ?_)
    by_cases c2 : (tt = 0 ∧ ¬ q 0 = 24 ∨ tt = 1 ∧ ¬ q 1 = 39 ∨ tt = 2 ∧ ¬ q 2 = 23) ∧ 0 ≤ b ∧ b ≤ 255
    · rw [if_pos c2]
      unfold kv4
      rcases k_ty_bd h0 h1 c2 with ⟨e, _⟩ | ⟨_, e, _⟩ | ⟨_, e⟩
      · refine absurd ?_ c
        rcases c2.1 with z | z | z
        · exact ⟨e, c2.2.1, c2.2.2, z.2⟩
        · exact absurd (e.symm.trans z.1) (by decide)
        · exact absurd (e.symm.trans z.1) (by decide)
      · rw [pk_un (by omega)]
      · rw [pk_un (by omega)]
    · rw [if_neg c2]
theorem k_ml_t7 {f : Nat → Int32} (h : k_ml (q 1) f (kv7 by4)) (h0 : 0 ≤ (q 0).toInt ∧ (q 0).toInt ≤ 24) (h1 : 0 ≤ (q 1).toInt ∧ (q 1).toInt ≤ 39) : k_ml (if tt = 1 ∧ 0 ≤ b ∧ b ≤ 255 ∧ ¬ q 1 = 39 then q 1 + 1 else q 1) (if tt = 1 ∧ 0 ≤ b ∧ b ≤ 255 ∧ ¬ q 1 = 39 then upd f (q 1).toNatClampNeg (wP (q 1 - q 1 / 5 * 5) b) else f) (kv7 (if (tt = 0 ∧ ¬ q 0 = 24 ∨ tt = 1 ∧ ¬ q 1 = 39 ∨ tt = 2 ∧ ¬ q 2 = 23) ∧ 0 ≤ b ∧ b ≤ 255 then upd by4 (kIx tt q) b else by4)) := by
  have hc := k_cl (m := 39) h1
  by_cases c : tt = 1 ∧ 0 ≤ b ∧ b ≤ 255 ∧ ¬ q 1 = 39
  · have c2 : (tt = 0 ∧ ¬ q 0 = 24 ∨ tt = 1 ∧ ¬ q 1 = 39 ∨ tt = 2 ∧ ¬ q 2 = 23) ∧ 0 ≤ b ∧ b ≤ 255 := ⟨Or.inr (Or.inl ⟨c.1, c.2.2.2⟩), c.2.1, c.2.2.1⟩
    rw [if_pos c, if_pos c, if_pos c2]
    have e : kIx tt q = 40 + (q 1).toNatClampNeg := by unfold kIx; rw [if_neg (by rw [c.1]; decide), if_pos c.1]
    refine k_ml_app ⟨hc.2, by omega⟩ h (fun j hj => ?_) ?_
    · unfold kv7
      rw [pk_un (by omega)]
    · obtain ⟨a, ha, ea⟩ := k_nat hc.2
      unfold kv7
      rw [e, pk_us, ea, nI_clamp ha]
  · rw [if_neg c, if_neg c]
    refine k_ml_cg h (fun j hj => ?_)
    by_cases c2 : (tt = 0 ∧ ¬ q 0 = 24 ∨ tt = 1 ∧ ¬ q 1 = 39 ∨ tt = 2 ∧ ¬ q 2 = 23) ∧ 0 ≤ b ∧ b ≤ 255
    · rw [if_pos c2]
      unfold kv7
      rcases k_ty_bd h0 h1 c2 with ⟨_, e, e2⟩ | ⟨e, _⟩ | ⟨_, e⟩
      · rw [pk_un (by omega)]
      · refine absurd ?_ c
        rcases c2.1 with z | z | z
        · exact absurd (e.symm.trans z.1) (by decide)
        · exact ⟨e, c2.2.1, c2.2.2, z.2⟩
        · exact absurd (e.symm.trans z.1) (by decide)
      · rw [pk_un (by omega)]
    · rw [if_neg c2]
theorem k_ml_t2 {f : Nat → Int32} (h : k_ml (q 2) f (kv2 by4)) (h0 : 0 ≤ (q 0).toInt ∧ (q 0).toInt ≤ 24) (h1 : 0 ≤ (q 1).toInt ∧ (q 1).toInt ≤ 39) (h2 : 0 ≤ (q 2).toInt ∧ (q 2).toInt ≤ 23) : k_ml (if tt = 2 ∧ 0 ≤ b ∧ b ≤ 255 ∧ ¬ q 2 = 23 then q 2 + 1 else q 2) (if tt = 2 ∧ 0 ≤ b ∧ b ≤ 255 ∧ ¬ q 2 = 23 then upd f (q 2).toNatClampNeg (wG (q 2 - q 2 / 3 * 3) b) else f) (kv2 (if (tt = 0 ∧ ¬ q 0 = 24 ∨ tt = 1 ∧ ¬ q 1 = 39 ∨ tt = 2 ∧ ¬ q 2 = 23) ∧ 0 ≤ b ∧ b ≤ 255 then upd by4 (kIx tt q) b else by4)) := by
  have hc := k_cl (m := 23) h2
  by_cases c : tt = 2 ∧ 0 ≤ b ∧ b ≤ 255 ∧ ¬ q 2 = 23
  · have c2 : (tt = 0 ∧ ¬ q 0 = 24 ∨ tt = 1 ∧ ¬ q 1 = 39 ∨ tt = 2 ∧ ¬ q 2 = 23) ∧ 0 ≤ b ∧ b ≤ 255 := ⟨Or.inr (Or.inr ⟨c.1, c.2.2.2⟩), c.2.1, c.2.2.1⟩
    rw [if_pos c, if_pos c, if_pos c2]
    have e : kIx tt q = 80 + (q 2).toNatClampNeg := by unfold kIx; rw [if_neg (by rw [c.1]; decide), if_neg (by rw [c.1]; decide)]
    refine k_ml_app ⟨hc.2, by omega⟩ h (fun j hj => ?_) ?_
    · unfold kv2
      rw [pk_un (by omega)]
    · obtain ⟨a, ha, ea⟩ := k_nat hc.2
      unfold kv2
      rw [e, pk_us, ea, nI_clamp ha]
  · rw [if_neg c, if_neg c]
    refine k_ml_cg h (fun j hj => ?_)
    by_cases c2 : (tt = 0 ∧ ¬ q 0 = 24 ∨ tt = 1 ∧ ¬ q 1 = 39 ∨ tt = 2 ∧ ¬ q 2 = 23) ∧ 0 ≤ b ∧ b ≤ 255
    · rw [if_pos c2]
      unfold kv2
      rcases k_ty_bd h0 h1 c2 with ⟨_, e, e2⟩ | ⟨_, e, e2⟩ | ⟨e, _⟩
      · rw [pk_un (by omega)]
      · rw [pk_un (by omega)]
      · refine absurd ?_ c
        rcases c2.1 with z | z | z
        · exact absurd (e.symm.trans z.1) (by decide)
        · exact absurd (e.symm.trans z.1) (by decide)
        · exact ⟨e, c2.2.1, c2.2.2, z.2⟩
    · rw [if_neg c2]
end KT
theorem kFt_cg {th n : Int32} {f g : Nat → Int32} (h : k_ml n f g) : kFt th n f = kFt th n g := by
  unfold kFt
  rw [kBad_congr n.toNatClampNeg 0 (fun i _ hi => h i (by omega))]
theorem kNm_cg {th n : Int32} {f g : Nat → Int32} (h : k_ml n f g) : kNm th n f = kNm th n g := by
  unfold kNm
  rw [kFt_cg h]
theorem e_fault {q f4 f7 f2 by4 : Nat → Int32} {a4 a7 a2 tt : Int32} (h4 : k_ml (q 0) f4 (kv4 by4)) (h7 : k_ml (q 1) f7 (kv7 by4)) (h2 : k_ml (q 2) f2 (kv2 by4)) (e4 : a4 = kFt (q 0) (q 0) f4) (e7 : a7 = kFt (kTh7 (q 1)) (q 1) f7) (e2 : a2 = kFt (kTh2 (q 2)) (q 2) f2) : (if tt = 0 then a4 else if tt = 1 then a7 else if tt = 2 then a2 else -2) = (if 0 ≤ tt ∧ tt ≤ 2 then (if tt = 0 then kFt (q 0) (q 0) (kv4 by4) else if tt = 1 then kFt (kTh7 (q 1)) (q 1) (kv7 by4) else kFt (kTh2 (q 2)) (q 2) (kv2 by4)) else -2) := by
  rw [e4, e7, e2, kFt_cg h4, kFt_cg h7, kFt_cg h2]
  by_cases c : 0 ≤ tt ∧ tt ≤ 2
  · rw [if_pos c]
    have h0 : ¬ tt < 0 := Int32.not_lt.mpr c.1
    obtain ⟨j, hj, rfl⟩ := nI_of2 (n := 2) (M := 2) (by decide) h0 c.2
    match j, hj with
    | 0, _ => rw [if_pos (by decide), if_pos (by decide)]
    | 1, _ => rw [if_neg (by decide), if_pos (by decide), if_neg (by decide), if_pos (by decide)]
    | 2, _ => rw [if_neg (by decide), if_neg (by decide), if_pos (by decide), if_neg (by decide), if_neg (by decide)]
  · rw [if_neg c, if_neg (fun e => c (by rw [e]; decide)), if_neg (fun e => c (by rw [e]; decide)), if_neg (fun e => c (by rw [e]; decide))]
theorem e_mile {q f4 by4 : Nat → Int32} {n4 m : Int32} (hq : 0 ≤ (q 0).toInt ∧ (q 0).toInt ≤ 24) (h4 : k_ml (q 0) f4 (kv4 by4)) (e4 : n4 = kNm (q 0) (q 0) f4) : (if 0 ≤ m ∧ m < 24 then (if m < n4 then kAt 24 f4 m else -1) else -2) = (if 0 ≤ m ∧ m ≤ 23 then (if m < kNm (q 0) (q 0) (kv4 by4) then kv4 by4 m.toNatClampNeg else -1) else -2) := by
  refine k_ifc ⟨fun c => ⟨c.1, ?_⟩, fun c => ⟨c.1, ?_⟩⟩ (fun c => ?_) (fun _ => rfl)
  · exact Int32.le_iff_toInt_le.mpr (by have := Int32.lt_iff_toInt_lt.mp c.2; rw [show (24 : Int32).toInt = 24 from rfl] at this; rw [show (23 : Int32).toInt = 23 from rfl]; omega)
  · exact Int32.lt_iff_toInt_lt.mpr (by have := Int32.le_iff_toInt_le.mp c.2; rw [show (23 : Int32).toInt = 23 from rfl] at this; rw [show (24 : Int32).toInt = 24 from rfl]; omega)
  · rw [e4, kNm_cg h4]
    refine k_ifc Iff.rfl (fun d => ?_) (fun _ => rfl)
    rw [kAt_eq c]
    exact k_ml_at h4 ⟨c.1, k_lt4 (k_cl (m := 24) hq).2 ⟨c.1, d⟩⟩
theorem e_pass {q f7 by4 : Nat → Int32} {n7 p w : Int32} (hq : 0 ≤ (q 1).toInt ∧ (q 1).toInt ≤ 39) (h7 : k_ml (q 1) f7 (kv7 by4)) (e7 : n7 = kNm (kTh7 (q 1)) (q 1) f7) : (if (0 ≤ p ∧ p < n7) ∧ 0 ≤ w ∧ w ≤ 3 then kAt 39 f7 ((5 * p) + w) else -2) = (if (0 ≤ p ∧ p < kNm (kTh7 (q 1)) (q 1) (kv7 by4)) ∧ 0 ≤ w ∧ w ≤ 3 then kv7 by4 ((5 * p) + w).toNatClampNeg else -2) := by
  rw [e7, kNm_cg h7]
  refine k_ifc Iff.rfl (fun c => ?_) (fun _ => rfl)
  have hl := k_lt7 ⟨(k_cl (m := 39) hq).2, by omega⟩ c.1
  obtain ⟨a, ha, rfl⟩ := k_nat c.1.1
  obtain ⟨b, hb, rfl⟩ := k_nat c.2.1
  have hw := Int32.le_iff_toInt_le.mp c.2.2
  rw [show (3 : Int32).toInt = 3 from rfl, nI_toInt hb] at hw
  rw [nI_toInt ha] at hl
  obtain ⟨m, hm, em⟩ := k_nat (k_cl (m := 39) hq).2
  rw [em, nI_toInt hm] at hl hq
  rw [show (5 : Int32) = nI 5 from rfl, pk_mul, nI_add]
  rw [kAt_eq ⟨nI_pos' (by omega), by rw [show (39 : Int32) = nI 39 from rfl]; exact nI_lt (by omega) (by decide)⟩]
  exact k_ml_at h7 ⟨nI_pos' (by omega), by rw [em]; exact nI_lt (by omega) hm⟩
theorem e_goose {q f2 by4 : Nat → Int32} {n2 p w : Int32} (hq : 0 ≤ (q 2).toInt ∧ (q 2).toInt ≤ 23) (h2 : k_ml (q 2) f2 (kv2 by4)) (e2 : n2 = kNm (kTh2 (q 2)) (q 2) f2) : (if (0 ≤ p ∧ p < n2) ∧ 0 ≤ w ∧ w ≤ 1 then kAt 23 f2 ((3 * p) + w) else -2) = (if (0 ≤ p ∧ p < kNm (kTh2 (q 2)) (q 2) (kv2 by4)) ∧ 0 ≤ w ∧ w ≤ 1 then kv2 by4 ((3 * p) + w).toNatClampNeg else -2) := by
  rw [e2, kNm_cg h2]
  refine k_ifc Iff.rfl (fun c => ?_) (fun _ => rfl)
  have hl := k_lt2 ⟨(k_cl (m := 23) hq).2, by omega⟩ c.1
  obtain ⟨a, ha, rfl⟩ := k_nat c.1.1
  obtain ⟨b, hb, rfl⟩ := k_nat c.2.1
  have hw := Int32.le_iff_toInt_le.mp c.2.2
  rw [show (1 : Int32).toInt = 1 from rfl, nI_toInt hb] at hw
  rw [nI_toInt ha] at hl
  obtain ⟨m, hm, em⟩ := k_nat (k_cl (m := 23) hq).2
  rw [em, nI_toInt hm] at hl hq
  rw [show (3 : Int32) = nI 3 from rfl, pk_mul, nI_add]
  rw [kAt_eq ⟨nI_pos' (by omega), by rw [show (23 : Int32) = nI 23 from rfl]; exact nI_lt (by omega) (by decide)⟩]
  exact k_ml_at h2 ⟨nI_pos' (by omega), by rw [em]; exact nI_lt (by omega) hm⟩
theorem k_le_w {D : Prop} [Decidable D] {x y : Int32} {n : Int} (h : x = if D then 0 else y) (hy : 0 ≤ y.toInt ∧ y.toInt ≤ n) : 0 ≤ x ∧ x ≤ y := by
  have h0 : 0 ≤ y := Int32.le_iff_toInt_le.mpr (by rw [show (0 : Int32).toInt = 0 from rfl]; exact hy.1)
  by_cases c : D
  · rw [if_pos c] at h
    rw [h]
    exact ⟨Int32.le_refl 0, h0⟩
  · rw [if_neg c] at h
    rw [h]
    exact ⟨h0, Int32.le_refl y⟩
theorem k_le_u {D : Prop} [Decidable D] {x y : Int32} {n : Int} (h : x = if D then y - 1 else y) (hD : D → ¬ y = 0) (hy : 0 ≤ y.toInt ∧ y.toInt ≤ n) : 0 ≤ x ∧ x ≤ y := by
  have h0 : 0 ≤ y := Int32.le_iff_toInt_le.mpr (by rw [show (0 : Int32).toInt = 0 from rfl]; exact hy.1)
  by_cases c : D
  · rw [if_pos c] at h
    have y0 : ¬ y.toInt = 0 := fun z => hD c (Int32.toInt_inj.mp (by rw [z]; rfl))
    have y1 := Int32.toInt_lt y
    rw [h, Int32.le_iff_toInt_le, Int32.le_iff_toInt_le, Int32.toInt_sub, show (1 : Int32).toInt = 1 from rfl, show (0 : Int32).toInt = 0 from rfl, k_bm (by omega) (by omega)]
    omega
  · rw [if_neg c] at h
    rw [h]
    exact ⟨h0, Int32.le_refl y⟩

/-! the moods of a flight are the same on both sides -/
theorem kGo_cg {ov ov' hf hf' : Int32 → Int32} {ct le ki so be : Int32} {n : Nat} (hn : n < 2 ^ 31) (h : ∀ j : Nat, j < n → ov (nI j) = ov' (nI j)) (hh : ∀ j : Nat, j < n → hf (nI j) = hf' (nI j)) : ∀ (k a : Nat) (x y e : Int32), a + k ≤ n → kGo ov ct le ki so be hf k (nI a) x y e = kGo ov' ct le ki so be hf' k (nI a) x y e
  | 0, _, _, _, _, _ => rfl
  | k + 1, a, x, y, e, hk => by
    rw [kGo, kGo, h a (by omega), hh a (by omega), nI_1]
    rw [kGo_cg hn h hh k (a + 1) _ _ _ (by omega), kGo_cg hn h hh k (a + 1) _ _ _ (by omega), kGo_cg hn h hh k (a + 1) _ _ _ (by omega)]
theorem kCt_cg {ov ov' : Int32 → Int32} {w : Int32} {n : Nat} (hn : n < 2 ^ 31) (h : ∀ j : Nat, j < n → ov (nI j) = ov' (nI j)) : ∀ (k a : Nat) (P : kGT × kGT), a + k ≤ n → kCt ov w k (nI a) P = kCt ov' w k (nI a) P
  | 0, _, _, _ => rfl
  | k + 1, a, P, hk => by
    rw [kCt, kCt, h a (by omega), nI_1, kCt_cg hn h k (a + 1) _ (by omega)]
/-- values of class and reference at one place of a text -/
theorem v_p {q f7 by4 ps : Nat → Int32} {v p : Int32} {w : Nat} (hq : 0 ≤ (q 1).toInt ∧ (q 1).toInt ≤ 39) (h7 : k_ml (q 1) f7 (kv7 by4)) (hv : v = kNm (kTh7 (q 1)) (q 1) (kv7 by4)) (hm : k_mq 5 4 v (q 1) ps (kv7 by4)) (hp : 0 ≤ p ∧ p < v) (hw : w < 4) : kAt 39 f7 ((5 * p) + nI w) = ps ((4 * p) + nI w).toNatClampNeg := by
  have hc := k_cl (m := 39) hq
  have hlt := k_lt7 (f := kv7 by4) ⟨hc.2, by omega⟩ (by rw [← hv]; exact hp)
  have hv0 : ¬ v = 0 := fun z => absurd (z ▸ hp.2) (Int32.not_lt.mpr hp.1)
  have hmp := k_mq_mp hm hv0
  obtain ⟨a, ha, rfl⟩ := k_nat hp.1
  obtain ⟨m, hm2, em⟩ := k_nat hc.2
  rw [em] at hlt hq h7 hmp
  rw [nI_toInt ha, nI_toInt hm2] at hlt
  rw [nI_toInt hm2] at hq
  have e1 : (5 * nI a + nI w : Int32) = nI (5 * a + w) := by rw [show (5 : Int32) = nI 5 from rfl, pk_mul, nI_add]
  have e := k_mp_at (c := 5) (d := 4) (p := nI a) (w := nI w) (by decide) (by decide) (by decide) hmp ⟨nI_pos' ha, by rw [nI_toInt ha]; omega⟩ ⟨nI_pos' (by omega), nI_lt hw (by decide)⟩ (by rw [nI_toInt ha, nI_toInt hm2, nI_toInt (by omega)]; omega)
  have e2 : ps ((4 * nI a) + nI w).toNatClampNeg = kv7 by4 (nI 5 * nI a + nI w).toNatClampNeg := e
  rw [e2, e1, kAt_eq ⟨nI_pos' (by omega), by rw [show (39 : Int32) = nI 39 from rfl]; exact nI_lt (by omega) (by decide)⟩, pk_mul, nI_add]
  exact k_ml_at h7 ⟨nI_pos' (by omega), nI_lt (by omega) hm2⟩
theorem v_g {q f2 by4 gs : Nat → Int32} {v p : Int32} {w : Nat} (hq : 0 ≤ (q 2).toInt ∧ (q 2).toInt ≤ 23) (h2 : k_ml (q 2) f2 (kv2 by4)) (hv : v = kNm (kTh2 (q 2)) (q 2) (kv2 by4)) (hm : k_mq 3 2 v (q 2) gs (kv2 by4)) (hp : 0 ≤ p ∧ p < v) (hw : w < 2) : kAt 23 f2 ((3 * p) + nI w) = gs ((2 * p) + nI w).toNatClampNeg := by
  have hc := k_cl (m := 23) hq
  have hlt := k_lt2 (f := kv2 by4) ⟨hc.2, by omega⟩ (by rw [← hv]; exact hp)
  have hv0 : ¬ v = 0 := fun z => absurd (z ▸ hp.2) (Int32.not_lt.mpr hp.1)
  have hmp := k_mq_mp hm hv0
  obtain ⟨a, ha, rfl⟩ := k_nat hp.1
  obtain ⟨m, hm2, em⟩ := k_nat hc.2
  rw [em] at hlt hq h2 hmp
  rw [nI_toInt ha, nI_toInt hm2] at hlt
  rw [nI_toInt hm2] at hq
  have e1 : (3 * nI a + nI w : Int32) = nI (3 * a + w) := by rw [show (3 : Int32) = nI 3 from rfl, pk_mul, nI_add]
  have e := k_mp_at (c := 3) (d := 2) (p := nI a) (w := nI w) (by decide) (by decide) (by decide) hmp ⟨nI_pos' ha, by rw [nI_toInt ha]; omega⟩ ⟨nI_pos' (by omega), nI_lt hw (by decide)⟩ (by rw [nI_toInt ha, nI_toInt hm2, nI_toInt (by omega)]; omega)
  have e2 : gs ((2 * nI a) + nI w).toNatClampNeg = kv2 by4 (nI 3 * nI a + nI w).toNatClampNeg := e
  rw [e2, e1, kAt_eq ⟨nI_pos' (by omega), by rw [show (23 : Int32) = nI 23 from rfl]; exact nI_lt (by omega) (by decide)⟩, pk_mul, nI_add]
  exact k_ml_at h2 ⟨nI_pos' (by omega), nI_lt (by omega) hm2⟩
theorem v_m {q f4 by4 mi : Nat → Int32} {v : Int32} (hq : 0 ≤ (q 0).toInt ∧ (q 0).toInt ≤ 24) (h4 : k_ml (q 0) f4 (kv4 by4)) (hv : v = kNm (q 0) (q 0) (kv4 by4)) (hm : k_ml v mi (kv4 by4)) {n : Nat} (hn : v = nI n) (hn2 : n < 2 ^ 31) (j : Nat) (hj : j < n) : kAt 24 f4 (nI j) = kM mi (nI j) := by
  have hc := k_cl (m := 24) hq
  have hlt : nI j < v := by rw [hn]; exact nI_lt hj hn2
  have hl := k_lt4 (f := kv4 by4) hc.2 ⟨nI_pos' (show j < 2 ^ 31 by omega), by rw [← hv]; exact hlt⟩
  obtain ⟨m, hm2, em⟩ := k_nat hc.2
  rw [em] at hl hq h4
  rw [nI_toInt hm2] at hq
  have hjm : j < m := (nI_ltI (by omega) hm2).mp hl
  rw [kAt_eq ⟨nI_pos' (by omega), by rw [show (24 : Int32) = nI 24 from rfl]; exact nI_lt (by omega) (by decide)⟩]
  rw [k_ml_at h4 ⟨nI_pos' (by omega), hl⟩]
  exact (k_ml_at hm ⟨nI_pos' (by omega), hlt⟩).symm

theorem e_mood {q f4 f7 f2 by4 qMi qPs qGs qTo ft : Nat → Int32} {n4 n7 n2 mi pn gn fn f1 w kn fe en le tgo tca tle tki tso tbe twe tki0 tso0 tbe0 twe0 : Int32}
    (t0 : 0 ≤ (q 0).toInt ∧ (q 0).toInt ≤ 24) (t1 : 0 ≤ (q 1).toInt ∧ (q 1).toInt ≤ 39) (t2 : 0 ≤ (q 2).toInt ∧ (q 2).toInt ≤ 23)
    (m4 : k_ml (q 0) f4 (kv4 by4)) (m7 : k_ml (q 1) f7 (kv7 by4)) (m2 : k_ml (q 2) f2 (kv2 by4))
    (e4 : n4 = kNm (q 0) (q 0) f4) (e7 : n7 = kNm (kTh7 (q 1)) (q 1) f7) (e2 : n2 = kNm (kTh2 (q 2)) (q 2) f2) (hn4 : 0 ≤ n4 ∧ n4 ≤ 24)
    (hf : 0 ≤ f1 ∧ f1 < fn) (hw : 0 ≤ w ∧ w ≤ 1)
    (hc : (tgo = if (0 ≤ (kIt fn ft f1 0) ∧ (kIt fn ft f1 0) < n7) ∧ (0 ≤ (kIt fn ft f1 1) ∧ (kIt fn ft f1 1) < n2) ∧ 0 ≤ (kIt fn ft f1 2) ∧ (kIt fn ft f1 2) < n2 then 1 else 0) ∧ (tca = if (0 ≤ (kIt fn ft f1 0) ∧ (kIt fn ft f1 0) < n7) ∧ (0 ≤ (kIt fn ft f1 1) ∧ (kIt fn ft f1 1) < n2) ∧ 0 ≤ (kIt fn ft f1 2) ∧ (kIt fn ft f1 2) < n2 then kCt (kAt 24 f4) (kAt 39 f7 ((5 * (kIt fn ft f1 0)) + 3)) (kfu n4 0) 0 ((kAt 23 f2 ((3 * (kIt fn ft f1 1)) + 0), kAt 23 f2 ((3 * (kIt fn ft f1 1)) + 1), kAt 23 f2 ((3 * (kIt fn ft f1 1)) + 0), 0), (kAt 23 f2 ((3 * (kIt fn ft f1 2)) + 0), kAt 23 f2 ((3 * (kIt fn ft f1 2)) + 1), kAt 23 f2 ((3 * (kIt fn ft f1 2)) + 0), 0)) else 0) ∧ (tki = if (0 ≤ (kIt fn ft f1 0) ∧ (kIt fn ft f1 0) < n7) ∧ (0 ≤ (kIt fn ft f1 1) ∧ (kIt fn ft f1 1) < n2) ∧ 0 ≤ (kIt fn ft f1 2) ∧ (kIt fn ft f1 2) < n2 then kAt 39 f7 ((5 * (kIt fn ft f1 0)) + 0) else tki0) ∧ (tso = if (0 ≤ (kIt fn ft f1 0) ∧ (kIt fn ft f1 0) < n7) ∧ (0 ≤ (kIt fn ft f1 1) ∧ (kIt fn ft f1 1) < n2) ∧ 0 ≤ (kIt fn ft f1 2) ∧ (kIt fn ft f1 2) < n2 then kAt 39 f7 ((5 * (kIt fn ft f1 0)) + 1) else tso0) ∧ (tbe = if (0 ≤ (kIt fn ft f1 0) ∧ (kIt fn ft f1 0) < n7) ∧ (0 ≤ (kIt fn ft f1 1) ∧ (kIt fn ft f1 1) < n2) ∧ 0 ≤ (kIt fn ft f1 2) ∧ (kIt fn ft f1 2) < n2 then 5 * (kAt 39 f7 ((5 * (kIt fn ft f1 0)) + 2)) else tbe0) ∧ (twe = if (0 ≤ (kIt fn ft f1 0) ∧ (kIt fn ft f1 0) < n7) ∧ (0 ≤ (kIt fn ft f1 1) ∧ (kIt fn ft f1 1) < n2) ∧ 0 ≤ (kIt fn ft f1 2) ∧ (kIt fn ft f1 2) < n2 then kAt 39 f7 ((5 * (kIt fn ft f1 0)) + 3) else twe0) ∧ (tle = le))
    (hr : (mi = kNm (q 0) (q 0) (kv4 by4)) ∧ (pn = kNm (kTh7 (q 1)) (q 1) (kv7 by4)) ∧ (gn = kNm (kTh2 (q 2)) (q 2) (kv2 by4)) ∧ (k_ml mi qMi (kv4 by4)) ∧ (k_mq 5 4 pn (q 1) qPs (kv7 by4)) ∧ (k_mq 3 2 gn (q 2) qGs (kv2 by4)) ∧ (k_fd ((0 ≤ (kP0 ft f1) ∧ (kP0 ft f1) < pn) ∧ (0 ≤ (kP1 ft f1) ∧ (kP1 ft f1) < gn) ∧ 0 ≤ (kP2 ft f1) ∧ (kP2 ft f1) < gn) (k_done (kM qMi) (kCt (kM qMi) (kP3 qPs (kP0 ft f1)) (kfu mi 0) 0 ((kG0 qGs (kP1 ft f1), kG1 qGs (kP1 ft f1), kG0 qGs (kP1 ft f1), 0), (kG0 qGs (kP2 ft f1), kG1 qGs (kP2 ft f1), kG0 qGs (kP2 ft f1), 0))) le (kP0 qPs (kP0 ft f1)) (kP1 qPs (kP0 ft f1)) (5 * (kP2 qPs (kP0 ft f1))) (fun x9 => if x9 < (24 : Int32) then (kP3 ft f1) else (0 : Int32)) mi kn fe en qTo) kn fe en))
    (j : Int32) (hj : 0 ≤ j ∧ j < n4) : (if tgo = 0 ∨ (kGo (kAt 24 f4) tca tle tki tso tbe (fun _ => (kIt fn ft f1 3)) (kfu (j + 1) (0 : Int32)) (0 : Int32) (0 : Int32) (0 : Int32) (if tgo = 0 then 1 else 0)).1 < j then -1 else if w = 0 then (kGo (kAt 24 f4) tca tle tki tso tbe (fun _ => (kIt fn ft f1 3)) (kfu (j + 1) (0 : Int32)) (0 : Int32) (0 : Int32) (0 : Int32) (if tgo = 0 then 1 else 0)).2.1 else (kGo (kAt 24 f4) tca tle tki tso tbe (fun _ => (kIt fn ft f1 3)) (kfu (j + 1) (0 : Int32)) (0 : Int32) (0 : Int32) (0 : Int32) (if tgo = 0 then 1 else 0)).2.2.1) = (if j < kn then qTo ((4 * j) + w).toNatClampNeg else -1) := by
  obtain ⟨c1, c2, c3, c4, c5, c6, c7⟩ := hc
  obtain ⟨r1, r2, r3, r4, r5, r6, r7⟩ := hr
  have N4 : n4 = mi := e4.trans ((kNm_cg m4).trans r1.symm)
  have N7 : n7 = pn := e7.trans ((kNm_cg m7).trans r2.symm)
  have N2 : n2 = gn := e2.trans ((kNm_cg m2).trans r3.symm)
  have P0 : kIt fn ft f1 0 = kP0 ft f1 := by unfold kIt kP0; rw [if_pos hf, Int32.add_zero]
  have P1 : kIt fn ft f1 1 = kP1 ft f1 := if_pos hf
  have P2 : kIt fn ft f1 2 = kP2 ft f1 := if_pos hf
  have P3 : kIt fn ft f1 3 = kP3 ft f1 := if_pos hf
  rw [P0, P1, P2, N7, N2] at c1 c2 c3 c4 c5
  rw [P3]
  by_cases hC : (0 ≤ (kP0 ft f1) ∧ (kP0 ft f1) < pn) ∧ (0 ≤ (kP1 ft f1) ∧ (kP1 ft f1) < gn) ∧ 0 ≤ (kP2 ft f1) ∧ (kP2 ft f1) < gn
  · rw [if_pos hC] at c1 c2 c3 c4 c5
    have D := r7.1 hC
    obtain ⟨n, hn, en⟩ := k_nat (x := mi) (by rw [← N4]; exact hn4.1)
    have hn24 : n ≤ 24 := by have := hn4.2; rw [N4, en] at this; exact (nI_leI hn (by decide)).mp this
    have hov := v_m t0 m4 r1 r4 en hn
    have K0 : kAt 39 f7 ((5 * (kP0 ft f1)) + 0) = kP0 qPs (kP0 ft f1) := (v_p (w := 0) t1 m7 r2 r5 hC.1 (by decide)).trans (by unfold kP0; rw [show (nI 0 : Int32) = 0 from rfl, Int32.add_zero])
    have K1 : kAt 39 f7 ((5 * (kP0 ft f1)) + 1) = kP1 qPs (kP0 ft f1) := v_p (w := 1) t1 m7 r2 r5 hC.1 (by decide)
    have K2 : kAt 39 f7 ((5 * (kP0 ft f1)) + 2) = kP2 qPs (kP0 ft f1) := v_p (w := 2) t1 m7 r2 r5 hC.1 (by decide)
    have K3 : kAt 39 f7 ((5 * (kP0 ft f1)) + 3) = kP3 qPs (kP0 ft f1) := v_p (w := 3) t1 m7 r2 r5 hC.1 (by decide)
    have L0 : kAt 23 f2 ((3 * (kP1 ft f1)) + 0) = kG0 qGs (kP1 ft f1) := (v_g (w := 0) t2 m2 r3 r6 hC.2.1 (by decide)).trans (by unfold kG0; rw [show (nI 0 : Int32) = 0 from rfl, Int32.add_zero])
    have L1 : kAt 23 f2 ((3 * (kP1 ft f1)) + 1) = kG1 qGs (kP1 ft f1) := v_g (w := 1) t2 m2 r3 r6 hC.2.1 (by decide)
    have M0 : kAt 23 f2 ((3 * (kP2 ft f1)) + 0) = kG0 qGs (kP2 ft f1) := (v_g (w := 0) t2 m2 r3 r6 hC.2.2 (by decide)).trans (by unfold kG0; rw [show (nI 0 : Int32) = 0 from rfl, Int32.add_zero])
    have M1 : kAt 23 f2 ((3 * (kP2 ft f1)) + 1) = kG1 qGs (kP2 ft f1) := v_g (w := 1) t2 m2 r3 r6 hC.2.2 (by decide)
    rw [K3, L0, L1, M0, M1, N4] at c2
    rw [K0] at c3
    rw [K1] at c4
    rw [K2] at c5
    have CT : tca = (kCt (kM qMi) (kP3 qPs (kP0 ft f1)) (kfu mi 0) 0 ((kG0 qGs (kP1 ft f1), kG1 qGs (kP1 ft f1), kG0 qGs (kP1 ft f1), 0), (kG0 qGs (kP2 ft f1), kG1 qGs (kP2 ft f1), kG0 qGs (kP2 ft f1), 0))) := by
      rw [c2, en, show (0 : Int32) = nI 0 from rfl, kfu_nat (by decide) hn]
      exact kCt_cg hn hov _ 0 _ (by omega)
    obtain ⟨b, hb, rfl⟩ := k_nat hj.1
    have hbn : b < n := by have := hj.2; rw [N4, en] at this; exact (nI_ltI hb hn).mp this
    have E : (kGo (kAt 24 f4) tca tle tki tso tbe (fun _ => (kP3 ft f1)) (kfu (nI b + 1) (0 : Int32)) (0 : Int32) (0 : Int32) (0 : Int32) (if tgo = 0 then 1 else 0)) = kGG (kM qMi) (kCt (kM qMi) (kP3 qPs (kP0 ft f1)) (kfu mi 0) 0 ((kG0 qGs (kP1 ft f1), kG1 qGs (kP1 ft f1), kG0 qGs (kP1 ft f1), 0), (kG0 qGs (kP2 ft f1), kG1 qGs (kP2 ft f1), kG0 qGs (kP2 ft f1), 0))) le (kP0 qPs (kP0 ft f1)) (kP1 qPs (kP0 ft f1)) (5 * (kP2 qPs (kP0 ft f1))) (fun x9 => if x9 < (24 : Int32) then (kP3 ft f1) else (0 : Int32)) (nI b + 1) := by
      rw [c1, if_neg (by decide), c7, c3, c4, c5, CT]
      unfold kGG
      rw [nI_1, show (0 : Int32) = nI 0 from rfl, kfu_nat (by decide) (by omega)]
      refine kGo_cg (n := n) hn hov (fun i hi => ?_) _ 0 _ _ _ (by omega)
      show kP3 ft f1 = if nI i < (24 : Int32) then kP3 ft f1 else (nI 0 : Int32)
      rw [if_pos (by rw [show (24 : Int32) = nI 24 from rfl]; exact nI_lt (by omega) (by decide))]
    rw [E]
    have g := D.2.2 (nI b) hj.1 (by rw [← N4]; exact hj.2)
    have t1' : ¬ tgo = 0 := by rw [c1]; decide
    by_cases hk : nI b < kn
    · obtain ⟨g1, g2, g3⟩ := g.1 hk
      rw [if_neg (fun z => z.elim t1' g1), if_pos hk]
      by_cases w0 : w = 0
      · rw [if_pos w0, w0, Int32.add_zero]
        exact g2
      · rw [if_neg w0]
        have w1 : w = 1 := by
          have h0 := Int32.le_iff_toInt_le.mp hw.1
          have h1 := Int32.le_iff_toInt_le.mp hw.2
          have h2 : ¬ w.toInt = (0 : Int32).toInt := fun z => w0 (Int32.toInt_inj.mp z)
          rw [show (0 : Int32).toInt = 0 from rfl] at h0 h2
          rw [show (1 : Int32).toInt = 1 from rfl] at h1
          exact Int32.toInt_inj.mp (by rw [show (1 : Int32).toInt = 1 from rfl]; omega)
        rw [w1]
        exact g3
    · rw [if_pos (Or.inr (g.2 hk)), if_neg hk]
  · rw [if_neg hC] at c1
    obtain ⟨k0, _, _⟩ := r7.2 hC
    rw [if_pos (Or.inl c1), if_neg (by rw [k0]; exact Int32.not_lt.mpr hj.1)]

/-! rows of class and reference -/
def k_it (k : Nat) (si g f : Nat → Int32) : Prop := ∀ j, j < (si k).toNatClampNeg → g j = f (60 * k + j)
theorem k_s4 {s : Int32} (h : 0 ≤ s ∧ s ≤ 3) : ∃ a : Nat, a ≤ 3 ∧ s = nI a := nI_of2 (n := 3) (M := 3) (by decide) (Int32.not_lt.mpr h.1) h.2
theorem k_si {si : Nat → Int32} (h : k_bd 4 0 60 si) {k : Nat} (hk : k < 4) : (si k).toNatClampNeg ≤ 60 ∧ 0 ≤ si k := k_cl (m := 60) (h k hk)
theorem k_it_sheet {k : Nat} {si g g2 f : Nat → Int32} {ss fm nn kk : Int32} (hkk : kk = nI k) (hk : k < 4) (hb : k_bd 4 0 60 si) (h : k_it k si g f) (hg : k_sh ((0 ≤ ss ∧ ss ≤ 3 ∧ 0 ≤ fm ∧ fm ≤ 2 ∧ nn ≤ 60 ∧ ¬ nn < 0) ∧ ss = kk) g2 g) : k_it k (if 0 ≤ ss ∧ ss ≤ 3 ∧ 0 ≤ fm ∧ fm ≤ 2 ∧ nn ≤ 60 ∧ ¬ nn < 0 then upd si ss.toNatClampNeg nn else si) g2 (if 0 ≤ ss ∧ ss ≤ 3 ∧ 0 ≤ fm ∧ fm ≤ 2 ∧ nn ≤ 60 ∧ ¬ nn < 0 then kZq f ss nn else f) := by
  by_cases c : 0 ≤ ss ∧ ss ≤ 3 ∧ 0 ≤ fm ∧ fm ≤ 2 ∧ nn ≤ 60 ∧ ¬ nn < 0
  · rw [if_pos c, if_pos c]
    obtain ⟨a, ha, rfl⟩ := k_s4 ⟨c.1, c.2.1⟩
    obtain ⟨n, hn, rfl⟩ := nI_of2 (n := 60) (M := 60) (by decide) c.2.2.2.2.2 c.2.2.2.2.1
    subst hkk
    by_cases e : a = k
    · subst e
      have hz := hg.1 ⟨c, rfl⟩
      intro j hj
      rw [nI_clamp (by omega), pk_us, nI_clamp (by omega)] at hj
      rw [hz j (by rw [show (60 : Int32).toNatClampNeg = 60 from rfl]; omega)]
      unfold kZq
      rw [if_pos (by rw [nI_clamp (show a < 2 ^ 31 by omega), nI_clamp (show n < 2 ^ 31 by omega)]; omega)]
    · have e1 : g2 = g := hg.2 (fun z => e ((nI_eq (by omega) (by omega)).mp z.2))
      intro j hj
      rw [nI_clamp (by omega), pk_un (show k ≠ a from fun z => e z.symm)] at hj
      have hs := (k_si hb hk).1
      rw [e1, h j hj]
      unfold kZq
      rw [if_neg (by rw [nI_clamp (show a < 2 ^ 31 by omega), nI_clamp (show n < 2 ^ 31 by omega)]; omega)]
  · rw [if_neg c, if_neg c, hg.2 (fun z => c z.1)]
    exact h
theorem k_it_upd {k : Nat} {si g f : Nat → Int32} {ss ix v v' : Int32} {A B : Prop} [Decidable A] [Decidable B] {kk : Int32} (hkk : kk = nI k) (hk : k < 4) (hb : k_bd 4 0 60 si) (h : k_it k si g f) (hab : A ↔ B) (hA : A → (0 ≤ ss ∧ ss ≤ 3) ∧ 0 ≤ ix ∧ ix < si ss.toNatClampNeg) (hv : A → ss = kk → v = v') : k_it k si (if A ∧ ss = kk then upd g ix.toNatClampNeg v else g) (if B then upd f ((60 * ss) + ix).toNatClampNeg v' else f) := by
  subst hkk
  by_cases c : A
  · rw [if_pos (hab.mp c)]
    obtain ⟨hs, hi⟩ := hA c
    obtain ⟨a, ha, rfl⟩ := k_s4 hs
    obtain ⟨i, hi2, rfl⟩ := k_nat hi.1
    rw [nI_clamp (by omega)] at hi
    have hsa := k_si hb (show a < 4 by omega)
    obtain ⟨m, hm, em⟩ := k_nat hsa.2
    rw [em] at hi hsa
    rw [nI_clamp hm] at hsa
    have him : i < m := (nI_ltI hi2 hm).mp hi.2
    have e0 : ((60 * nI a) + nI i : Int32).toNatClampNeg = 60 * a + i := by rw [show (60 : Int32) = nI 60 from rfl, pk_mul, nI_add, nI_clamp (by omega)]
    rw [e0]
    have hsk := (k_si hb hk).1
    by_cases e : a = k
    · subst e
      rw [if_pos ⟨c, rfl⟩, nI_clamp hi2, hv c rfl]
      intro j hj
      by_cases z : j = i
      · rw [z, pk_us, pk_us]
      · rw [pk_un z, pk_un (by omega)]
        exact h j hj
    · rw [if_neg (fun z => e ((nI_eq (by omega) (by omega)).mp z.2))]
      intro j hj
      rw [pk_un (by omega)]
      exact h j hj
  · rw [if_neg (fun z => c z.1), if_neg (fun z => c (hab.mpr z))]
    exact h
theorem k_it_write {k : Nat} {si g f : Nat → Int32} {ss fo fo' n : Int32} {V V' : Int32 → Int32} {A B : Prop} [Decidable A] [Decidable B] {kk : Int32} (hkk : kk = nI k) (hk : k < 4) (hb : k_bd 4 0 60 si) (h : k_it k si g f) (hab : A ↔ B) (hA : A → (0 ≤ ss ∧ ss ≤ 3) ∧ 0 ≤ n ∧ n ≤ 60) (hfo : A → ss = kk → fo = fo') (hv : A → ∀ j : Int32, 0 ≤ j → j < n → V j = V' j) : k_it k si (if A ∧ ss = kk then kWr fo V g n else g) (if B then kWq fo' V' f ss n else f) := by
  subst hkk
  by_cases c : A
  · rw [if_pos (hab.mp c)]
    obtain ⟨hs, hn⟩ := hA c
    obtain ⟨a, ha, rfl⟩ := k_s4 hs
    obtain ⟨m, hm, rfl⟩ := nI_of2 (n := 60) (M := 60) (by decide) (Int32.not_lt.mpr hn.1) hn.2
    have hsk := (k_si hb hk).1
    by_cases e : a = k
    · subst e
      rw [if_pos ⟨c, rfl⟩, hfo c rfl]
      intro j hj
      unfold kWr kWq
      rw [nI_clamp (show m < 2 ^ 31 by omega), nI_clamp (show a < 2 ^ 31 by omega)]
      by_cases z : j < m
      · rw [if_pos z, if_pos (by omega), show 60 * a + j - 60 * a = j by omega, hv c (nI j) (nI_pos' (by omega)) (nI_lt z (by omega))]
      · rw [if_neg z, if_neg (by omega)]
        exact h j hj
    · rw [if_neg (fun z => e ((nI_eq (by omega) (by omega)).mp z.2))]
      intro j hj
      unfold kWq
      rw [nI_clamp (show m < 2 ^ 31 by omega), nI_clamp (show a < 2 ^ 31 by omega), if_neg (by omega)]
      exact h j hj
  · rw [if_neg (fun z => c z.1), if_neg (fun z => c (hab.mpr z))]
    exact h
theorem k_it4 {si g0 g1 g2 g3 f : Nat → Int32} (h0 : k_it 0 si g0 f) (h1 : k_it 1 si g1 f) (h2 : k_it 2 si g2 f) (h3 : k_it 3 si g3 f) {a : Nat} (ha : a ≤ 3) : k_it a si (kG4 g0 g1 g2 g3 a) f := by
  match a, ha with
  | 0, _ => exact h0
  | 1, _ => exact h1
  | 2, _ => exact h2
  | 3, _ => exact h3
theorem k_it_copy {k : Nat} {si g g0 g1 g2 g3 f mv : Nat → Int32} {ss s5 ix jx nn : Int32} {A B : Prop} [Decidable A] [Decidable B] {kk : Int32} (hkk : kk = nI k) (hk : k < 4) (hb : k_bd 4 0 60 si) (h : k_it k si g f) (h0 : k_it 0 si g0 f) (h1 : k_it 1 si g1 f) (h2 : k_it 2 si g2 f) (h3 : k_it 3 si g3 f) (hab : A ↔ B) (hmv : k_im B (k_mv f mv ss ix nn)) (hA : A → (0 ≤ ss ∧ ss ≤ 3) ∧ (0 ≤ s5 ∧ s5 ≤ 3) ∧ 0 ≤ ix ∧ 0 ≤ jx ∧ 0 ≤ nn ∧ ix.toInt + nn.toInt ≤ (si ss.toNatClampNeg).toInt ∧ jx.toInt + nn.toInt ≤ (si s5.toNatClampNeg).toInt) : k_it k si (if A ∧ s5 = kk then va_cpy (kG4 g0 g1 g2 g3 ss.toNatClampNeg) g ix.toNatClampNeg jx.toNatClampNeg nn.toNatClampNeg else g) (if B then kCq f mv s5 jx nn else f) := by
  subst hkk
  by_cases c : A
  · rw [if_pos (hab.mp c)]
    obtain ⟨hs, ht, i0, j0, n0, hi, hj2⟩ := hA c
    have hm := hmv (hab.mp c)
    obtain ⟨a, ha, rfl⟩ := k_s4 hs
    obtain ⟨b, hb4, rfl⟩ := k_s4 ht
    obtain ⟨i, hi2, rfl⟩ := k_nat i0
    obtain ⟨d, hd2, rfl⟩ := k_nat j0
    obtain ⟨n, hn2, rfl⟩ := k_nat n0
    have hsa := k_si hb (show a < 4 by omega)
    have hsb := k_si hb (show b < 4 by omega)
    have hsk := (k_si hb hk).1
    rw [nI_clamp (show a < 2 ^ 31 by omega), nI_toInt hi2, nI_toInt hn2] at hi
    rw [nI_clamp (show b < 2 ^ 31 by omega), nI_toInt hd2, nI_toInt hn2] at hj2
    obtain ⟨p, hp, ep⟩ := k_nat hsa.2
    obtain ⟨r, hr, er⟩ := k_nat hsb.2
    rw [ep, nI_toInt hp] at hi
    rw [er, nI_toInt hr] at hj2
    rw [ep, nI_clamp hp] at hsa
    rw [er, nI_clamp hr] at hsb
    have hsrc := k_it4 h0 h1 h2 h3 ha
    rw [nI_clamp (show a < 2 ^ 31 by omega), nI_clamp hi2, nI_clamp hd2, nI_clamp hn2]
    by_cases e : b = k
    · subst e
      rw [if_pos ⟨c, rfl⟩]
      intro q hq
      unfold va_cpy kCq
      rw [nI_clamp (show b < 2 ^ 31 by omega), nI_clamp hd2, nI_clamp hn2]
      by_cases z : d ≤ q ∧ q < d + n
      · rw [if_pos z, if_pos (by omega), show 60 * b + q - (60 * b + d) = q - d by omega]
        rw [hm (q - d) (by rw [nI_clamp hn2]; omega), show (60 : Int32) = nI 60 from rfl, pk_mul, nI_add, nI_add, nI_clamp (by omega)]
        rw [hsrc (i + (q - d)) (by rw [ep, nI_clamp hp]; omega), Nat.add_assoc]
      · rw [if_neg z, if_neg (by omega)]
        exact h q hq
    · rw [if_neg (fun z => e ((nI_eq (by omega) (by omega)).mp z.2))]
      intro q hq
      unfold kCq
      rw [nI_clamp (show b < 2 ^ 31 by omega), nI_clamp hd2, nI_clamp hn2, if_neg (by omega)]
      exact h q hq
  · rw [if_neg (fun z => c z.1), if_neg (fun z => c (hab.mpr z))]
    exact h
/-- reading flights out of a row -/
theorem e_rd {qFo sLo sFo si g0 g1 g2 g3 f ft : Nat → Int32} {ss fn : Int32} (hs : 0 ≤ ss ∧ ss ≤ 3) (hb : k_bd 4 0 60 si) (h0 : k_it 0 si g0 f) (h1 : k_it 1 si g1 f) (h2 : k_it 2 si g2 f) (h3 : k_it 3 si g3 f) : kRd (kIm (si ss.toNatClampNeg) (kG4 g0 g1 g2 g3 ss.toNatClampNeg)) (si ss.toNatClampNeg) (kRf 0) 0 fn ft = kRd (fun x9 => f ((60 * ss) + x9).toNatClampNeg) (si ss.toNatClampNeg) (kRf 0) 0 fn ft := by
  obtain ⟨a, ha, rfl⟩ := k_s4 hs
  rw [nI_clamp (show a < 2 ^ 31 by omega)]
  have hsa := k_si hb (show a < 4 by omega)
  have hsrc := k_it4 h0 h1 h2 h3 ha
  obtain ⟨p, hp, ep⟩ := k_nat hsa.2
  have hs60 : si a ≤ 60 := by
    have := hsa.1
    rw [ep, nI_clamp hp] at this
    rw [ep, show (60 : Int32) = nI 60 from rfl]
    exact nI_le this (by decide)
  refine kRd_cg hs60 (fun j j0 j1 => ?_) _ 0 _ _ (by decide)
  unfold kIm
  rw [if_pos ⟨j0, j1⟩]
  obtain ⟨b, hb2, rfl⟩ := k_nat j0
  rw [ep] at j1
  have hbp : b < p := (nI_ltI hb2 hp).mp j1
  have hp60 : p ≤ 60 := by have := hsa.1; rw [ep, nI_clamp hp] at this; exact this
  rw [hsrc (nI b).toNatClampNeg (by rw [ep, nI_clamp hb2, nI_clamp hp]; exact hbp), nI_clamp hb2]
  show f (60 * a + b) = f ((60 * nI a) + nI b).toNatClampNeg
  rw [show (60 : Int32) = nI 60 from rfl, pk_mul, nI_add, nI_clamp (by omega)]

theorem e_lyc {qFo sLo sFo qSi : Nat → Int32} {ss fm ix : Int32} (h : k_lf qFo sLo sFo) : (0 ≤ ss ∧ ss ≤ 3 ∧ 0 ≤ fm ∧ fm ≤ 2 ∧ sLo ss.toNatClampNeg = 0 ∧ sFo ss.toNatClampNeg = fm ∧ 0 ≤ ix ∧ ix < qSi ss.toNatClampNeg) ↔ (0 ≤ ss ∧ ss ≤ 3 ∧ 0 ≤ fm ∧ fm ≤ 2 ∧ ¬ qFo ss.toNatClampNeg < 0 ∧ qFo ss.toNatClampNeg = fm ∧ 0 ≤ ix ∧ ix < qSi ss.toNatClampNeg) := by
  constructor
  · rintro ⟨a, b, c, d, e, f, g⟩
    obtain ⟨x, y⟩ := k_lf_at h ⟨a, b⟩
    exact ⟨a, b, c, d, x.mp e, (y e).symm.trans f, g⟩
  · rintro ⟨a, b, c, d, e, f, g⟩
    obtain ⟨x, y⟩ := k_lf_at h ⟨a, b⟩
    exact ⟨a, b, c, d, x.mpr e, (y (x.mpr e)).trans f, g⟩
theorem k_sk {s : Int32} {k : Nat} (hk : k < 4) (e : s = nI k) : s.toNatClampNeg = k := by rw [e, nI_clamp (by omega)]
theorem k_it_lay {qFo sLo sFo qSi qIt gq : Nat → Int32} {ss fm ix v1 kk : Int32} {k : Nat} (hkk : kk = nI k) (hk : k < 4) (hb : k_bd 4 0 60 qSi) (h : k_it k qSi gq qIt) (hl : k_lf qFo sLo sFo) : k_it k qSi (if (0 ≤ ss ∧ ss ≤ 3 ∧ 0 ≤ fm ∧ fm ≤ 2 ∧ sLo ss.toNatClampNeg = 0 ∧ sFo ss.toNatClampNeg = fm ∧ 0 ≤ ix ∧ ix < qSi ss.toNatClampNeg) ∧ ss = kk then upd gq ix.toNatClampNeg (kCut (sFo k) v1) else gq) (if 0 ≤ ss ∧ ss ≤ 3 ∧ 0 ≤ fm ∧ fm ≤ 2 ∧ ¬ qFo ss.toNatClampNeg < 0 ∧ qFo ss.toNatClampNeg = fm ∧ 0 ≤ ix ∧ ix < qSi ss.toNatClampNeg then upd qIt ((60 * ss) + ix).toNatClampNeg (kCut fm v1) else qIt) := by
  refine k_it_upd hkk hk hb h (e_lyc hl) (fun c => ⟨⟨c.1, c.2.1⟩, c.2.2.2.2.2.2⟩) (fun c e => ?_)
  have z := c.2.2.2.2.2.1
  rw [k_sk hk (e.trans hkk)] at z
  rw [z]
theorem e_cpc {qFo sLo sFo qSi : Nat → Int32} {ss s5 ix jx nn : Int32} (h : k_lf qFo sLo sFo) : (0 ≤ ss ∧ ss ≤ 3 ∧ 0 ≤ s5 ∧ s5 ≤ 3 ∧ sLo ss.toNatClampNeg = 0 ∧ sLo s5.toNatClampNeg = 0 ∧ sFo ss.toNatClampNeg = sFo s5.toNatClampNeg ∧ 0 ≤ ix ∧ 0 ≤ jx ∧ 0 ≤ nn ∧ ix.toInt + nn.toInt ≤ (qSi ss.toNatClampNeg).toInt ∧ jx.toInt + nn.toInt ≤ (qSi s5.toNatClampNeg).toInt) ↔ (0 ≤ ss ∧ ss ≤ 3 ∧ 0 ≤ s5 ∧ s5 ≤ 3 ∧ ¬ qFo ss.toNatClampNeg < 0 ∧ ¬ qFo s5.toNatClampNeg < 0 ∧ qFo ss.toNatClampNeg = qFo s5.toNatClampNeg ∧ 0 ≤ ix ∧ 0 ≤ jx ∧ 0 ≤ nn ∧ ix.toInt + nn.toInt ≤ (qSi ss.toNatClampNeg).toInt ∧ jx.toInt + nn.toInt ≤ (qSi s5.toNatClampNeg).toInt) := by
  constructor
  · rintro ⟨a, b, c, d, e, f, g, i⟩
    obtain ⟨x, y⟩ := k_lf_at h ⟨a, b⟩
    obtain ⟨x2, y2⟩ := k_lf_at h ⟨c, d⟩
    exact ⟨a, b, c, d, x.mp e, x2.mp f, (y e).symm.trans (g.trans (y2 f)), i⟩
  · rintro ⟨a, b, c, d, e, f, g, i⟩
    obtain ⟨x, y⟩ := k_lf_at h ⟨a, b⟩
    obtain ⟨x2, y2⟩ := k_lf_at h ⟨c, d⟩
    exact ⟨a, b, c, d, x.mpr e, x2.mpr f, (y (x.mpr e)).trans (g.trans (y2 (x2.mpr f)).symm), i⟩
theorem k_it_cp {qFo sLo sFo qSi qIt gq0 gq1 gq2 gq3 gq mv : Nat → Int32} {ss s5 ix jx nn kk : Int32} {k : Nat} (hkk : kk = nI k) (hk : k < 4) (hb : k_bd 4 0 60 qSi) (h : k_it k qSi gq qIt) (h0 : k_it 0 qSi gq0 qIt) (h1 : k_it 1 qSi gq1 qIt) (h2 : k_it 2 qSi gq2 qIt) (h3 : k_it 3 qSi gq3 qIt) (hl : k_lf qFo sLo sFo) (hm : k_im (0 ≤ ss ∧ ss ≤ 3 ∧ 0 ≤ s5 ∧ s5 ≤ 3 ∧ ¬ qFo ss.toNatClampNeg < 0 ∧ ¬ qFo s5.toNatClampNeg < 0 ∧ qFo ss.toNatClampNeg = qFo s5.toNatClampNeg ∧ 0 ≤ ix ∧ 0 ≤ jx ∧ 0 ≤ nn ∧ ix.toInt + nn.toInt ≤ (qSi ss.toNatClampNeg).toInt ∧ jx.toInt + nn.toInt ≤ (qSi s5.toNatClampNeg).toInt) (k_mv qIt mv ss ix nn)) : k_it k qSi (if (0 ≤ ss ∧ ss ≤ 3 ∧ 0 ≤ s5 ∧ s5 ≤ 3 ∧ sLo ss.toNatClampNeg = 0 ∧ sLo s5.toNatClampNeg = 0 ∧ sFo ss.toNatClampNeg = sFo s5.toNatClampNeg ∧ 0 ≤ ix ∧ 0 ≤ jx ∧ 0 ≤ nn ∧ ix.toInt + nn.toInt ≤ (qSi ss.toNatClampNeg).toInt ∧ jx.toInt + nn.toInt ≤ (qSi s5.toNatClampNeg).toInt) ∧ s5 = kk then va_cpy (kG4 gq0 gq1 gq2 gq3 ss.toNatClampNeg) gq ix.toNatClampNeg jx.toNatClampNeg nn.toNatClampNeg else gq) (if 0 ≤ ss ∧ ss ≤ 3 ∧ 0 ≤ s5 ∧ s5 ≤ 3 ∧ ¬ qFo ss.toNatClampNeg < 0 ∧ ¬ qFo s5.toNatClampNeg < 0 ∧ qFo ss.toNatClampNeg = qFo s5.toNatClampNeg ∧ 0 ≤ ix ∧ 0 ≤ jx ∧ 0 ≤ nn ∧ ix.toInt + nn.toInt ≤ (qSi ss.toNatClampNeg).toInt ∧ jx.toInt + nn.toInt ≤ (qSi s5.toNatClampNeg).toInt then kCq qIt mv s5 jx nn else qIt) :=
  k_it_copy hkk hk hb h h0 h1 h2 h3 (e_cpc hl) hm (fun c => ⟨⟨c.1, c.2.1⟩, ⟨c.2.2.1, c.2.2.2.1⟩, c.2.2.2.2.2.2.2⟩)
theorem e_wrc {qFo sLo sFo : Nat → Int32} {ss fn f1 w1 : Int32} (h : k_lf qFo sLo sFo) : ((0 ≤ f1 ∧ f1 < fn) ∧ (0 ≤ w1 ∧ w1 ≤ 1) ∧ (0 ≤ ss ∧ ss ≤ 3) ∧ sLo ss.toNatClampNeg = 0) ↔ ((0 ≤ f1 ∧ f1 < fn) ∧ (0 ≤ w1 ∧ w1 ≤ 1) ∧ (0 ≤ ss ∧ ss ≤ 3) ∧ ¬ qFo ss.toNatClampNeg < 0) := by
  constructor
  · rintro ⟨a, b, c, d⟩
    exact ⟨a, b, c, (k_lf_at h c).1.mp d⟩
  · rintro ⟨a, b, c, d⟩
    exact ⟨a, b, c, (k_lf_at h c).1.mpr d⟩
theorem e_nn {qSi : Nat → Int32} {ss n4 mi2 : Int32} (e : n4 = mi2) : (if n4 < qSi ss.toNatClampNeg then n4 else qSi ss.toNatClampNeg) = (if qSi ss.toNatClampNeg < mi2 then qSi ss.toNatClampNeg else mi2) := by
  subst e
  by_cases c : qSi ss.toNatClampNeg < n4
  · rw [if_pos c, if_neg (fun z => Int32.lt_irrefl (Int32.lt_trans c z))]
  · rw [if_neg c]
    by_cases d : n4 < qSi ss.toNatClampNeg
    · rw [if_pos d]
    · rw [if_neg d]
      exact Int32.toInt_inj.mp (by have := Int32.le_iff_toInt_le.mp (Int32.not_lt.mp c); have := Int32.le_iff_toInt_le.mp (Int32.not_lt.mp d); omega)
theorem e_wra {qFo sLo sFo qSi : Nat → Int32} {ss fn f1 w1 n4 mi2 : Int32} (hl : k_lf qFo sLo sFo) (e : k_im ((0 ≤ f1 ∧ f1 < fn) ∧ (0 ≤ w1 ∧ w1 ≤ 1) ∧ (0 ≤ ss ∧ ss ≤ 3) ∧ ¬ qFo ss.toNatClampNeg < 0) (n4 = mi2)) : (if (0 ≤ f1 ∧ f1 < fn) ∧ (0 ≤ w1 ∧ w1 ≤ 1) ∧ 0 ≤ ss ∧ ss ≤ 3 then (if sLo ss.toNatClampNeg = 0 then (if n4 < qSi ss.toNatClampNeg then n4 else qSi ss.toNatClampNeg) else -11) else -2) = (if (0 ≤ f1 ∧ f1 < fn) ∧ (0 ≤ w1 ∧ w1 ≤ 1) ∧ 0 ≤ ss ∧ ss ≤ 3 then (if qFo ss.toNatClampNeg < 0 then -11 else (if qSi ss.toNatClampNeg < mi2 then qSi ss.toNatClampNeg else mi2)) else -2) := by
  refine k_ifc Iff.rfl (fun c => ?_) (fun _ => rfl)
  have a := (k_lf_at hl c.2.2).1
  by_cases d : qFo ss.toNatClampNeg < 0
  · rw [if_pos d, if_neg (fun q => a.mp q d)]
  · rw [if_neg d, if_pos (a.mpr d)]
    exact e_nn (e ⟨c.1, c.2.1, c.2.2, d⟩)
theorem k_it_wr {qFo sLo sFo qSi qIt gq : Nat → Int32} {ss fn f1 w1 kk n4 mi2 : Int32} {V V2 : Int32 → Int32} {k : Nat} (hkk : kk = nI k) (hk : k < 4) (hb : k_bd 4 0 60 qSi) (h : k_it k qSi gq qIt) (hl : k_lf qFo sLo sFo) (hn : 0 ≤ n4 ∧ n4 ≤ 24) (e : k_im ((0 ≤ f1 ∧ f1 < fn) ∧ (0 ≤ w1 ∧ w1 ≤ 1) ∧ (0 ≤ ss ∧ ss ≤ 3) ∧ ¬ qFo ss.toNatClampNeg < 0) (n4 = mi2)) (hv : ((0 ≤ f1 ∧ f1 < fn) ∧ (0 ≤ w1 ∧ w1 ≤ 1) ∧ (0 ≤ ss ∧ ss ≤ 3) ∧ sLo ss.toNatClampNeg = 0) → ∀ j : Int32, 0 ≤ j ∧ j < n4 → V j = V2 j) : k_it k qSi (if ((0 ≤ f1 ∧ f1 < fn) ∧ (0 ≤ w1 ∧ w1 ≤ 1) ∧ (0 ≤ ss ∧ ss ≤ 3) ∧ sLo ss.toNatClampNeg = 0) ∧ ss = kk then kWr (sFo k) V gq (if n4 < qSi ss.toNatClampNeg then n4 else qSi ss.toNatClampNeg) else gq) (if (0 ≤ f1 ∧ f1 < fn) ∧ (0 ≤ w1 ∧ w1 ≤ 1) ∧ (0 ≤ ss ∧ ss ≤ 3) ∧ ¬ qFo ss.toNatClampNeg < 0 then kWq (qFo ss.toNatClampNeg) V2 qIt ss (if qSi ss.toNatClampNeg < mi2 then qSi ss.toNatClampNeg else mi2) else qIt) := by
  by_cases c : (0 ≤ f1 ∧ f1 < fn) ∧ (0 ≤ w1 ∧ w1 ≤ 1) ∧ (0 ≤ ss ∧ ss ≤ 3) ∧ sLo ss.toNatClampNeg = 0
  · rw [← e_nn (e ((e_wrc hl).mp c))]
    have hs := c.2.2.1
    have q := k_lf_at hl hs
    refine k_it_write hkk hk hb h (e_wrc hl) (fun c => ⟨hs, ?_⟩) (fun c z => ?_) (fun c j j0 j1 => hv c j ⟨j0, ?_⟩)
    · obtain ⟨a, ha, rfl⟩ := k_s4 hs
      have s := k_si hb (show a < 4 by omega)
      rw [nI_clamp (show a < 2 ^ 31 by omega)]
      by_cases d : n4 < qSi a
      · rw [if_pos d]
        exact ⟨hn.1, Int32.le_trans hn.2 (by decide)⟩
      · rw [if_neg d]
        refine ⟨s.2, ?_⟩
        obtain ⟨p, hp, ep⟩ := k_nat s.2
        have s1 := s.1
        rw [ep, nI_clamp hp] at s1
        rw [ep, show (60 : Int32) = nI 60 from rfl]
        exact nI_le s1 (by decide)
    · have y := q.2 c.2.2.2
      rw [k_sk hk (z.trans hkk)] at y ⊢
      exact y
    · by_cases d : n4 < qSi ss.toNatClampNeg
      · rw [if_pos d] at j1
        exact j1
      · rw [if_neg d] at j1
        exact Int32.lt_of_lt_of_le j1 (Int32.not_lt.mp d)
  · rw [if_neg (fun z => c z.1), if_neg (fun z => c ((e_wrc hl).mpr z))]
    exact h
theorem e_rdn {qFo sLo sFo qSi qIt gq0 gq1 gq2 gq3 qFt : Nat → Int32} {ss fn : Int32} (hl : k_lf qFo sLo sFo) (hb : k_bd 4 0 60 qSi) (h0 : k_it 0 qSi gq0 qIt) (h1 : k_it 1 qSi gq1 qIt) (h2 : k_it 2 qSi gq2 qIt) (h3 : k_it 3 qSi gq3 qIt) : (if 0 ≤ ss ∧ ss ≤ 3 ∧ sLo ss.toNatClampNeg = 0 then (kRd (kIm (qSi ss.toNatClampNeg) (kG4 gq0 gq1 gq2 gq3 ss.toNatClampNeg)) (qSi ss.toNatClampNeg) (kRf 0) 0 fn qFt).2.1 else fn) = (if 0 ≤ ss ∧ ss ≤ 3 ∧ ¬ qFo ss.toNatClampNeg < 0 then (kRd (fun x9 => qIt ((60 * ss) + x9).toNatClampNeg) (qSi ss.toNatClampNeg) (kRf 0) 0 fn qFt).2.1 else fn) := by
  refine k_ifc ⟨fun c => ⟨c.1, c.2.1, (k_lf_at hl ⟨c.1, c.2.1⟩).1.mp c.2.2⟩, fun c => ⟨c.1, c.2.1, (k_lf_at hl ⟨c.1, c.2.1⟩).1.mpr c.2.2⟩⟩ (fun c => ?_) (fun _ => rfl)
  rw [e_rd (qFo := qFo) (sLo := sLo) (sFo := sFo) ⟨c.1, c.2.1⟩ hb h0 h1 h2 h3]
theorem e_rdf {qFo sLo sFo qSi qIt gq0 gq1 gq2 gq3 qFt : Nat → Int32} {ss fn : Int32} (hl : k_lf qFo sLo sFo) (hb : k_bd 4 0 60 qSi) (h0 : k_it 0 qSi gq0 qIt) (h1 : k_it 1 qSi gq1 qIt) (h2 : k_it 2 qSi gq2 qIt) (h3 : k_it 3 qSi gq3 qIt) : (if 0 ≤ ss ∧ ss ≤ 3 ∧ sLo ss.toNatClampNeg = 0 then (kRd (kIm (qSi ss.toNatClampNeg) (kG4 gq0 gq1 gq2 gq3 ss.toNatClampNeg)) (qSi ss.toNatClampNeg) (kRf 0) 0 fn qFt).2.2 else qFt) = (if 0 ≤ ss ∧ ss ≤ 3 ∧ ¬ qFo ss.toNatClampNeg < 0 then (kRd (fun x9 => qIt ((60 * ss) + x9).toNatClampNeg) (qSi ss.toNatClampNeg) (kRf 0) 0 fn qFt).2.2 else qFt) := by
  refine k_ifc ⟨fun c => ⟨c.1, c.2.1, (k_lf_at hl ⟨c.1, c.2.1⟩).1.mp c.2.2⟩, fun c => ⟨c.1, c.2.1, (k_lf_at hl ⟨c.1, c.2.1⟩).1.mpr c.2.2⟩⟩ (fun c => ?_) (fun _ => rfl)
  rw [e_rd (qFo := qFo) (sLo := sLo) (sFo := sFo) ⟨c.1, c.2.1⟩ hb h0 h1 h2 h3]
theorem e_rda {qFo sLo sFo qSi qIt gq0 gq1 gq2 gq3 qFt : Nat → Int32} {ss fn : Int32} (hl : k_lf qFo sLo sFo) (hb : k_bd 4 0 60 qSi) (h0 : k_it 0 qSi gq0 qIt) (h1 : k_it 1 qSi gq1 qIt) (h2 : k_it 2 qSi gq2 qIt) (h3 : k_it 3 qSi gq3 qIt) : (if 0 ≤ ss ∧ ss ≤ 3 then (if sLo ss.toNatClampNeg = 0 then (kRd (kIm (qSi ss.toNatClampNeg) (kG4 gq0 gq1 gq2 gq3 ss.toNatClampNeg)) (qSi ss.toNatClampNeg) (kRf 0) 0 fn qFt).1 else -11) else -2) = (if 0 ≤ ss ∧ ss ≤ 3 then (if qFo ss.toNatClampNeg < 0 then -11 else (kRd (fun x9 => qIt ((60 * ss) + x9).toNatClampNeg) (qSi ss.toNatClampNeg) (kRf 0) 0 fn qFt).1) else -2) := by
  refine k_ifc Iff.rfl (fun c => ?_) (fun _ => rfl)
  have a := (k_lf_at hl c).1
  by_cases d : qFo ss.toNatClampNeg < 0
  · rw [if_pos d, if_neg (fun q => a.mp q d)]
  · rw [if_neg d, if_pos (a.mpr d), e_rd (qFo := qFo) (sLo := sLo) (sFo := sFo) c hb h0 h1 h2 h3]
theorem e_get {qFo sLo sFo qSi qIt gq0 gq1 gq2 gq3 : Nat → Int32} {ss fm ix : Int32} (hl : k_lf qFo sLo sFo) (hb : k_bd 4 0 60 qSi) (h0 : k_it 0 qSi gq0 qIt) (h1 : k_it 1 qSi gq1 qIt) (h2 : k_it 2 qSi gq2 qIt) (h3 : k_it 3 qSi gq3 qIt) : (if 0 ≤ ss ∧ ss ≤ 3 ∧ 0 ≤ fm ∧ fm ≤ 2 ∧ sLo ss.toNatClampNeg = 0 ∧ sFo ss.toNatClampNeg = fm ∧ 0 ≤ ix ∧ ix < qSi ss.toNatClampNeg then kG4 gq0 gq1 gq2 gq3 ss.toNatClampNeg ix.toNatClampNeg else -2147483648) = (if 0 ≤ ss ∧ ss ≤ 3 ∧ 0 ≤ fm ∧ fm ≤ 2 ∧ ¬ qFo ss.toNatClampNeg < 0 ∧ qFo ss.toNatClampNeg = fm ∧ 0 ≤ ix ∧ ix < qSi ss.toNatClampNeg then qIt ((60 * ss) + ix).toNatClampNeg else -2147483648) := by
  refine k_ifc (e_lyc hl) (fun c => ?_) (fun _ => rfl)
  obtain ⟨a, ha, rfl⟩ := k_s4 ⟨c.1, c.2.1⟩
  obtain ⟨i, hi, rfl⟩ := k_nat c.2.2.2.2.2.2.1
  have hx := c.2.2.2.2.2.2.2
  rw [nI_clamp (show a < 2 ^ 31 by omega)] at hx ⊢
  have s := k_si hb (show a < 4 by omega)
  obtain ⟨p, hp, ep⟩ := k_nat s.2
  have s1 := s.1
  rw [ep, nI_clamp hp] at s1
  rw [ep] at hx
  have hip : i < p := (nI_ltI hi hp).mp hx
  rw [nI_clamp hi, k_it4 h0 h1 h2 h3 ha i (by rw [ep, nI_clamp hp]; exact hip), show (60 : Int32) = nI 60 from rfl, pk_mul, nI_add, nI_clamp (by omega)]
theorem e_gx {qFo sLo sFo qSi : Nat → Int32} {ss fm ix la : Int32} (hl : k_lf qFo sLo sFo) : (if 0 ≤ ss ∧ ss ≤ 3 ∧ 0 ≤ fm ∧ fm ≤ 2 then kFd (if sLo ss.toNatClampNeg = 0 ∧ sFo ss.toNatClampNeg = fm ∧ 0 ≤ ix ∧ ix < qSi ss.toNatClampNeg then 0 else if sLo ss.toNatClampNeg = 0 ∧ sFo ss.toNatClampNeg = fm then -12 else if sLo ss.toNatClampNeg = 0 then -13 else -11) la else la) = (if 0 ≤ ss ∧ ss ≤ 3 ∧ 0 ≤ fm ∧ fm ≤ 2 then kFd (if ¬ qFo ss.toNatClampNeg < 0 ∧ qFo ss.toNatClampNeg = fm ∧ 0 ≤ ix ∧ ix < qSi ss.toNatClampNeg then 0 else if ¬ qFo ss.toNatClampNeg < 0 ∧ qFo ss.toNatClampNeg = fm then -12 else if ¬ qFo ss.toNatClampNeg < 0 then -13 else -11) la else la) := by
  refine k_ifc Iff.rfl (fun c => ?_) (fun _ => rfl)
  obtain ⟨a, b⟩ := k_lf_at hl ⟨c.1, c.2.1⟩
  refine congrArg (fun z => kFd z la) ?_
  refine k_ifc ⟨fun q => ⟨a.mp q.1, (b q.1).symm.trans q.2.1, q.2.2⟩, fun q => ⟨a.mpr q.1, (b (a.mpr q.1)).trans q.2.1, q.2.2⟩⟩ (fun _ => rfl) (fun _ => ?_)
  refine k_ifc ⟨fun q => ⟨a.mp q.1, (b q.1).symm.trans q.2⟩, fun q => ⟨a.mpr q.1, (b (a.mpr q.1)).trans q.2⟩⟩ (fun _ => rfl) (fun _ => ?_)
  exact k_ifc a (fun _ => rfl) (fun _ => rfl)
theorem e_count {q f4 f7 f2 by4 : Nat → Int32} {n4 n7 n2 fn sn la w1 : Int32} (m4 : k_ml (q 0) f4 (kv4 by4)) (m7 : k_ml (q 1) f7 (kv7 by4)) (m2 : k_ml (q 2) f2 (kv2 by4)) (e4 : n4 = kNm (q 0) (q 0) f4) (e7 : n7 = kNm (kTh7 (q 1)) (q 1) f7) (e2 : n2 = kNm (kTh2 (q 2)) (q 2) f2) : (if w1 = 0 then n4 else if w1 = 1 then n7 else if w1 = 2 then n2 else if w1 = 3 then q 0 else if w1 = 4 then q 1 else if w1 = 5 then q 2 else if w1 = 6 then fn else if w1 = 7 then sn else if w1 = 8 then la else -2) = (if w1 = 0 then kNm (q 0) (q 0) (kv4 by4) else if w1 = 1 then kNm (kTh7 (q 1)) (q 1) (kv7 by4) else if w1 = 2 then kNm (kTh2 (q 2)) (q 2) (kv2 by4) else if w1 = 3 then q 0 else if w1 = 4 then q 1 else if w1 = 5 then q 2 else if w1 = 6 then fn else if w1 = 7 then sn else if w1 = 8 then la else -2) := by
  rw [e4, e7, e2, kNm_cg m4, kNm_cg m7, kNm_cg m2]

def lwGo (p₀ : Program) (l : Launch) (e₀ : Env) (s₀ : State) (m₀ : MethodId) (below : List Frame) (meth : Method) (c₀ : Code) (dC : Nat → ClassId) (dI : Nat → Nat → Nat) (cI cJ cQ : ClassId) (b : Nat) (hx aLa vLa aPa vPa aGe vGe aFl vFl aTr gL gR aBe aLu vLu aLo vSf vSm vCo vSh s0 i0 s1 i1 s2 i2 s3 i3 hm vFo vSi vIt vMo vBy vTy vMi vPs vGs vFt vTo vPr vSt vFn vSg vAl : Nat) (k : Nat) : Prop := ∀ (sn : Int32) (le : Int32) (la : Int32) (qTy : Nat → Int32) (a4 : Int32) (n4 : Int32) (f4 : Nat → Int32) (a7 : Int32) (n7 : Int32) (f7 : Nat → Int32) (a2 : Int32) (n2 : Int32) (f2 : Nat → Int32) (fn : Int32) (qFt : Nat → Int32) (lf : Nat) (rt : Nat) (tgo : Int32) (tca : Int32) (tki : Int32) (tso : Int32) (tbe : Int32) (twe : Int32) (tle : Int32) (tan : Int32) (tco : Int32) (ten : Int32) (u0 : Int32) (u1 : Int32) (u2 : Int32) (u3 : Int32) (v0 : Int32) (v1 : Int32) (v2 : Int32) (v3 : Int32) (k0 : Int32) (k1 : Int32) (k2 : Int32) (k3 : Int32) (ab : Int64) (be : Int64) (fl : Nat → Int64) (sd : Int32) (sf : Nat → Int32) (sm : Nat → Int32) (oo : Nat → Int32) (sLo : Nat → Int32) (sFo : Nat → Int32) (qSi : Nat → Int32) (gq0 : Nat → Int32) (gq1 : Nat → Int32) (gq2 : Nat → Int32) (gq3 : Nat → Int32) (mi : Int32) (pn : Int32) (gn : Int32) (kn : Int32) (fe : Int32) (en : Int32) (ca : Int32) (an : Int32) (co : Int32) (dr : Int32) (qFo : Nat → Int32) (qIt : Nat → Int32) (qMv : Nat → Int32) (qBy : Nat → Int32) (qMi : Nat → Int32) (qPs : Nat → Int32) (qGs : Nat → Int32) (qTo : Nat → Int32) (qPr : Nat → Int32) (qSt : Nat → Int32) (qFn : Nat → Int32) (qSg : Nat → Int32) (qAl : Nat → Int32), (0 ≤ n4 ∧ n4 ≤ 24) → (k_lf qFo sLo sFo) → (a4 = kFt (qTy 0) (qTy 0) f4) → (n4 = kNm (qTy 0) (qTy 0) f4) → (a7 = kFt (kTh7 (qTy 1)) (qTy 1) f7) → (n7 = kNm (kTh7 (qTy 1)) (qTy 1) f7) → (a2 = kFt (kTh2 (qTy 2)) (qTy 2) f2) → (n2 = kNm (kTh2 (qTy 2)) (qTy 2) f2) → (k_ml (qTy 0) f4 (kv4 qBy)) → (k_ml (qTy 1) f7 (kv7 qBy)) → (k_ml (qTy 2) f2 (kv2 qBy)) → (k_it 0 qSi gq0 qIt) → (k_it 1 qSi gq1 qIt) → (k_it 2 qSi gq2 qIt) → (k_it 3 qSi gq3 qIt) → (k_bd 32 0 9 qFt) → (ca = 16777215) → (0 ≤ (qTy 0).toInt ∧ (qTy 0).toInt ≤ 24) → (0 ≤ (qTy 1).toInt ∧ (qTy 1).toInt ≤ 39) → (0 ≤ (qTy 2).toInt ∧ (qTy 2).toInt ≤ 23) → (k_bd 4 0 60 qSi) → (0 ≤ fn ∧ fn ≤ 8) → (0 ≤ sn ∧ sn ≤ 8) → (0 ≤ mi ∧ mi ≤ 24) → (0 ≤ pn ∧ pn ≤ 8) → (0 ≤ gn ∧ gn ≤ 8) → (k_bd 2 0 7 qPr) → (0 ≤ fe ∧ fe ≤ 24) → (en = 0 ∨ kn = 0 ∨ fe ≤ 23) → (0 ≤ kn ∧ kn ≤ 24) → ∀ (H : Heap) (locs : List Loc) (ls : Array Slot), va_P (dC, dI) vwCl [(kX11 hx aLa aPa aGe aFl aTr aBe aLu aLo vSf vSm vCo vSh sn le la), (kX4 aLa vLa (qTy 0) a4 n4), (kAI vLa cI 24 f4), (kX7 aPa vPa (qTy 1) a7 n7), (kAI vPa cI 39 f7), (kX2 aGe vGe (qTy 2) a2 n2), (kAI vGe cI 23 f2), (kX1 aFl vFl fn), (kAI vFl cI 32 qFt), (kX10 aTr aLa aPa aGe gL gR lf rt tgo tca tki tso tbe twe tle tan tco ten), (kX3 gL u0 u1 u2 u3), (kX3 gR v0 v1 v2 v3), (kX0 aBe k0 k1 k2 k3), (kX5 aLu vLu ab be), (kAJ vLu cJ 46 fl), (kX6 aLo sd), (kAI vSf cI 8 sf), (kAI vSm cI 8 sm), (kAI vCo cI 25 oo), (kAQ vSh cQ 4 (fSh s0 s1 s2 s3)), (kX8 s0 i0 (sLo 0) (sFo 0) (qSi 0)), (kAI i0 cI 60 gq0), (kX8 s1 i1 (sLo 1) (sFo 1) (qSi 1)), (kAI i1 cI 60 gq1), (kX8 s2 i2 (sLo 2) (sFo 2) (qSi 2)), (kAI i2 cI 60 gq2), (kX8 s3 i3 (sLo 3) (sFo 3) (qSi 3)), (kAI i3 cI 60 gq3), (kX12 hm vFo vSi vIt vMo la vBy vTy mi vMi pn vPs gn vGs fn vFt le vTo kn fe en ca an co vPr vSt vFn sn vSg vAl dr), (kAI vFo cI 4 qFo), (kAI vSi cI 4 qSi), (kAI vIt cI 240 qIt), (kAI vMo cI 60 qMv), (kAI vBy cI 120 qBy), (kAI vTy cI 3 qTy), (kAI vMi cI 24 qMi), (kAI vPs cI 32 qPs), (kAI vGs cI 16 qGs), (kAI vFt cI 32 qFt), (kAI vTo cI 96 qTo), (kAI vPr cI 2 qPr), (kAI vSt cI 2 qSt), (kAI vFn cI 2 qFn), (kAI vSg cI 16 qSg), (kAI vAl cI 25 qAl)] H → va_D (fun q : Nat => s₀.heap.size ≤ q) [(kX11 hx aLa aPa aGe aFl aTr aBe aLu aLo vSf vSm vCo vSh sn le la), (kX4 aLa vLa (qTy 0) a4 n4), (kAI vLa cI 24 f4), (kX7 aPa vPa (qTy 1) a7 n7), (kAI vPa cI 39 f7), (kX2 aGe vGe (qTy 2) a2 n2), (kAI vGe cI 23 f2), (kX1 aFl vFl fn), (kAI vFl cI 32 qFt), (kX10 aTr aLa aPa aGe gL gR lf rt tgo tca tki tso tbe twe tle tan tco ten), (kX3 gL u0 u1 u2 u3), (kX3 gR v0 v1 v2 v3), (kX0 aBe k0 k1 k2 k3), (kX5 aLu vLu ab be), (kAJ vLu cJ 46 fl), (kX6 aLo sd), (kAI vSf cI 8 sf), (kAI vSm cI 8 sm), (kAI vCo cI 25 oo), (kAQ vSh cQ 4 (fSh s0 s1 s2 s3)), (kX8 s0 i0 (sLo 0) (sFo 0) (qSi 0)), (kAI i0 cI 60 gq0), (kX8 s1 i1 (sLo 1) (sFo 1) (qSi 1)), (kAI i1 cI 60 gq1), (kX8 s2 i2 (sLo 2) (sFo 2) (qSi 2)), (kAI i2 cI 60 gq2), (kX8 s3 i3 (sLo 3) (sFo 3) (qSi 3)), (kAI i3 cI 60 gq3), (kX12 hm vFo vSi vIt vMo la vBy vTy mi vMi pn vPs gn vGs fn vFt le vTo kn fe en ca an co vPr vSt vFn sn vSg vAl dr), (kAI vFo cI 4 qFo), (kAI vSi cI 4 qSi), (kAI vIt cI 240 qIt), (kAI vMo cI 60 qMv), (kAI vBy cI 120 qBy), (kAI vTy cI 3 qTy), (kAI vMi cI 24 qMi), (kAI vPs cI 32 qPs), (kAI vGs cI 16 qGs), (kAI vFt cI 32 qFt), (kAI vTo cI 96 qTo), (kAI vPr cI 2 qPr), (kAI vSt cI 2 qSt), (kAI vFn cI 2 qFn), (kAI vSg cI 16 qSg), (kAI vAl cI 25 qAl)] → va_S (fun q : Nat => s₀.heap.size ≤ q) s₀.heap H locs → lv_has ls 4 [(3, .int (nI k)), (2, .ref hm), (1, .ref hx), (0, .ref b)] → W p₀ l e₀ room_1 s₀ m₀ #[Value.ref b] below meth c₀ H locs 45 1235 (lw_Z below #[Value.ref b] s₀) (F0 m₀ 18 ls [])
theorem law_end {p₀ : Program} {l : Launch} {e₀ : Env} {s₀ : State} {m₀ : MethodId} {below : List Frame} {meth : Method} {c₀ : Code} {b L : Nat} {sc : Nat → Int32} (C0 : lw_At p₀ s₀ m₀ meth c₀ b L sc) {H : Heap} {locs : List Loc} (hS : va_S (fun q : Nat => s₀.heap.size ≤ q) s₀.heap H locs) (ls : Array Slot) {k n : Nat} (hk : k ≤ 600000 := by decide) (hn : n ≤ 7302249 := by decide) : W p₀ l e₀ room_1 s₀ m₀ #[Value.ref b] below meth c₀ H locs k n (lw_Z below #[Value.ref b] s₀) (F0 m₀ 1178 ls []) := by
  obtain ⟨hx₀, hb, hr, hml, hown, hts, hX, hbl, hlocks, hgv⟩ := id C0
  refine lv_iconst (v := 1) hx₀ hb dL_law_1178 (by decide +kernel) ?_
  refine va_forget (fun q hq => hS.2.2 q hq) ?_
  refine W.widen (k := 600000) (n := 7302249) hk hn ?_
  exact lw_ret hx₀ hb hr hlocks dL_law_1179
