-- ===== end of PART A; then your names; then what follows =====
/-! THE CLAIM OUT OF ONE WALK OF THE LAW'S BODY. Your part is whole_start (and what it stands on); all else here is the same for every law, but numbers. -/
def R_law : String := "BittenStickLaw"
def lw_P (b : Addr) (xs : List Int32) (args : Array Value) (s : State) : Prop := args = #[.ref b] ∧ s.IntsAt b xs ∧ xs.length ≤ 384 ∧ (Jvm.Cond.and given_1 narrow_1).before args s = true
def lw_Q (_ : Array Value) (s : State) (o : Outcome) (t : State) : Prop := o = .returned (some (.int 1)) ∧ Framed s o t [] 600000 7302249
def lw_Z (below : List Frame) (a : Array Value) (s : State) : State → Prop := fun t => ∃ o, t.status = .running ∧ Ended t below o ∧ lw_Q a s o t
/-- the law's own end, with 1 on the stack, nothing written that was there before, its room as the claim has it -/
theorem lw_ret {p : Program} {l : Launch} {e : Env} {s : State} {m : MethodId} {below : List Frame} {meth : Method} {c : Code} {b : Nat} (hx : p.tables.exec = Jvm.exec) (hb : c.code = code) (hr : meth.sig.returnType = ret) (hlocks : meth.locks = false) {pc : Nat} {H : Heap} {ls : Array Slot} (hdg : decode code pc = .ok (.ireturn, 1)) : W p l e room_1 s m #[Value.ref b] below meth c H [] 600000 7302249 (lw_Z below #[Value.ref b] s) (F0 m pc ls [.int 1]) := by
  intro T hT X
  obtain ⟨fs, hret, hrun, hended, hW, hframe⟩ := X.leave (v := some (.int 1)) (hlocks := hlocks) (fun h => by rw [hr] at h; cases h)
  have hmeth' : T.vm.method? m = some meth := X.method'
  refine ⟨T.setFrames fs, ?_, .returned (some (.int 1)), hrun, hended, rfl, ⟨_, rfl⟩, hW, hframe⟩
  jvm_step X.here [X.here.top, hx, hb, hdg, hmeth', hr, ret, narrow_b1]
  (try refine ⟨rfl, ?_⟩); (try refine ⟨rfl, ?_⟩)
  first | (intro acts; rw [hret _ acts rfl rfl rfl]) | rw [hret _ _ rfl rfl rfl]
  exact Steps.refl _
/-- what holds at the law's entry: the machine, the code, the tables' words (any of lw_tbl by 'hts w (by decide +kernel)'), the script of L ints xs at the cell b, what the Statement gives of the start (any of its parts by flat_of_before) -/
def lw_At (p : Program) (s : State) (m : MethodId) (meth : Method) (c : Code) (b L : Nat) (xs : Nat → Int32) : Prop :=
  p.tables.exec = Jvm.exec ∧ c.code = code ∧ meth.sig.returnType = ret ∧ c.maxLocals = 4 ∧ s.vm.findClass R_law = some m.cls ∧ (∀ w ∈ lw_tbl, w.before #[Value.ref b] s = true) ∧ va_X b L xs s s.heap ∧ b < s.heap.size ∧ meth.locks = false ∧ (Jvm.Cond.and given_1 narrow_1).before #[Value.ref b] s = true

theorem k_sx {k L j : Nat} (hk : k + 6 ≤ L) (hL : L ≤ 384) (hj : j < 6) : vp_in (nI k + nI j) L := by
  rw [nI_add]
  exact vp_in_nI (by omega) (by omega)
theorem k_s0 {k L : Nat} (hk : k + 6 ≤ L) (hL : L ≤ 384) : vp_in (nI k) L := vp_in_nI (by omega) (by omega)
theorem k_hd {k L : Nat} (hL : L ≤ 384) (hk : k ≤ 400) (h : ¬ nI L - nI 6 < nI k) : k + 6 ≤ L := by
  have h1 : ¬ (nI L - nI 6).toInt < (nI k).toInt := fun q => h (Int32.lt_iff_toInt_lt.mpr q)
  rw [pk_sub_toInt (by omega) (by omega), nI_toInt (by omega)] at h1
  omega
theorem k_hx {k L : Nat} (hL : L ≤ 384) (hk : k ≤ 400) (h : k + 6 ≤ L) : ¬ nI L - nI 6 < nI k := by
  intro q
  have h1 := Int32.lt_iff_toInt_lt.mp q
  rw [pk_sub_toInt (by omega) (by omega), nI_toInt (by omega)] at h1
  omega

/-- the sheets of class and reference: lost, or of one form -/
def k_lf (qFo sLo sFo : Nat → Int32) : Prop := ∀ k, k < 4 → (qFo k < 0 ∧ sLo k = 1) ∨ (¬ qFo k < 0 ∧ sLo k = 0 ∧ sFo k = qFo k)
theorem k_c4 {s : Int32} (h : 0 ≤ s ∧ s ≤ 3) : s.toNatClampNeg < 4 := by
  have h0 : ¬ s < 0 := Int32.not_lt.mpr h.1
  obtain ⟨j, hj, rfl⟩ := nI_of2 (n := 3) (M := 3) (by decide) h0 h.2
  rw [nI_clamp (by omega)]
  omega
theorem k_lf_at {qFo sLo sFo : Nat → Int32} (h : k_lf qFo sLo sFo) {s : Int32} (hs : 0 ≤ s ∧ s ≤ 3) : (sLo s.toNatClampNeg = 0 ↔ ¬ qFo s.toNatClampNeg < 0) ∧ (sLo s.toNatClampNeg = 0 → sFo s.toNatClampNeg = qFo s.toNatClampNeg) := by
  rcases h _ (k_c4 hs) with ⟨h1, h2⟩ | ⟨h1, h2, h3⟩
  · refine ⟨⟨fun q => absurd (h2.symm.trans q) (by decide), fun q => absurd h1 q⟩, fun q => absurd (h2.symm.trans q) (by decide)⟩
  · exact ⟨⟨fun _ => h1, fun _ => h2⟩, fun _ => h3⟩
theorem k_lf_sheet {qFo sLo sFo : Nat → Int32} (h : k_lf qFo sLo sFo) {ss fm nn : Int32} : k_lf (if 0 ≤ ss ∧ ss ≤ 3 ∧ 0 ≤ fm ∧ fm ≤ 2 ∧ nn ≤ 60 ∧ ¬ nn < 0 then upd qFo ss.toNatClampNeg fm else qFo) (if 0 ≤ ss ∧ ss ≤ 3 ∧ 0 ≤ fm ∧ fm ≤ 2 ∧ nn ≤ 60 ∧ ¬ nn < 0 then upd sLo ss.toNatClampNeg 0 else sLo) (if 0 ≤ ss ∧ ss ≤ 3 ∧ 0 ≤ fm ∧ fm ≤ 2 ∧ nn ≤ 60 ∧ ¬ nn < 0 then upd sFo ss.toNatClampNeg fm else sFo) := by
  by_cases c : 0 ≤ ss ∧ ss ≤ 3 ∧ 0 ≤ fm ∧ fm ≤ 2 ∧ nn ≤ 60 ∧ ¬ nn < 0
  · rw [if_pos c, if_pos c, if_pos c]
    intro k hk
    by_cases e : k = ss.toNatClampNeg
    · subst e
      rw [pk_us, pk_us, pk_us]
      exact Or.inr ⟨Int32.not_lt.mpr c.2.2.1, rfl, rfl⟩
    · rw [pk_un e, pk_un e, pk_un e]
      exact h k hk
  · rw [if_neg c, if_neg c, if_neg c]
    exact h
theorem k_lf_lose {qFo sLo sFo : Nat → Int32} (h : k_lf qFo sLo sFo) {ss : Int32} : k_lf (if 0 ≤ ss ∧ ss ≤ 3 ∧ ¬ qFo ss.toNatClampNeg < 0 then upd qFo ss.toNatClampNeg (-1) else qFo) (if 0 ≤ ss ∧ ss ≤ 3 ∧ sLo ss.toNatClampNeg = 0 then upd sLo ss.toNatClampNeg 1 else sLo) sFo := by
  by_cases c : 0 ≤ ss ∧ ss ≤ 3 ∧ sLo ss.toNatClampNeg = 0
  · have a := k_lf_at h ⟨c.1, c.2.1⟩
    rw [if_pos c, if_pos ⟨c.1, c.2.1, a.1.mp c.2.2⟩]
    intro k hk
    by_cases e : k = ss.toNatClampNeg
    · subst e
      rw [pk_us, pk_us]
      exact Or.inl ⟨by decide, rfl⟩
    · rw [pk_un e, pk_un e]
      exact h k hk
  · have c2 : ¬ (0 ≤ ss ∧ ss ≤ 3 ∧ ¬ qFo ss.toNatClampNeg < 0) := fun q => c ⟨q.1, q.2.1, (k_lf_at h ⟨q.1, q.2.1⟩).1.mpr q.2.2⟩
    rw [if_neg c, if_neg c2]
    exact h
theorem k_ifc {α : Type} {P Q : Prop} [Decidable P] [Decidable Q] {a b a2 b2 : α} (h : P ↔ Q) (h1 : P → a = a2) (h2 : ¬ P → b = b2) : (if P then a else b) = if Q then a2 else b2 := by
  by_cases c : P
  · rw [if_pos c, if_pos (h.mp c)]; exact h1 c
  · rw [if_neg c, if_neg (fun q => c (h.mpr q))]; exact h2 c
theorem e_lose {qFo sLo sFo qSi : Nat → Int32} (h : k_lf qFo sLo sFo) {ss : Int32} : (if 0 ≤ ss ∧ ss ≤ 3 then (if sLo ss.toNatClampNeg = 0 then qSi ss.toNatClampNeg else -11) else -2) = (if 0 ≤ ss ∧ ss ≤ 3 then (if qFo ss.toNatClampNeg < 0 then -11 else qSi ss.toNatClampNeg) else -2) := by
  refine k_ifc Iff.rfl (fun c => ?_) (fun _ => rfl)
  have a := (k_lf_at h c).1
  by_cases d : qFo ss.toNatClampNeg < 0
  · rw [if_pos d, if_neg (fun q => a.mp q d)]
  · rw [if_neg d, if_pos (a.mpr d)]
theorem e_lay {qFo sLo sFo qSi : Nat → Int32} (h : k_lf qFo sLo sFo) {ss fm i1 : Int32} : (if 0 ≤ ss ∧ ss ≤ 3 ∧ 0 ≤ fm ∧ fm ≤ 2 then (if sLo ss.toNatClampNeg = 0 ∧ sFo ss.toNatClampNeg = fm ∧ 0 ≤ i1 ∧ i1 < qSi ss.toNatClampNeg then (1 : Int32) else if sLo ss.toNatClampNeg = 0 ∧ sFo ss.toNatClampNeg = fm then -12 else if sLo ss.toNatClampNeg = 0 then -13 else -11) else -2) = (if 0 ≤ ss ∧ ss ≤ 3 ∧ 0 ≤ fm ∧ fm ≤ 2 then (if ¬ qFo ss.toNatClampNeg < 0 ∧ qFo ss.toNatClampNeg = fm ∧ 0 ≤ i1 ∧ i1 < qSi ss.toNatClampNeg then 1 else if ¬ qFo ss.toNatClampNeg < 0 ∧ qFo ss.toNatClampNeg = fm then -12 else if ¬ qFo ss.toNatClampNeg < 0 then -13 else -11) else -2) := by
  refine k_ifc Iff.rfl (fun c => ?_) (fun _ => rfl)
  obtain ⟨a, b⟩ := k_lf_at h ⟨c.1, c.2.1⟩
  refine k_ifc ⟨fun q => ⟨a.mp q.1, (b q.1).symm.trans q.2.1, q.2.2⟩, fun q => ⟨a.mpr q.1, (b (a.mpr q.1)).trans q.2.1, q.2.2⟩⟩ (fun _ => rfl) (fun _ => ?_)
  refine k_ifc ⟨fun q => ⟨a.mp q.1, (b q.1).symm.trans q.2⟩, fun q => ⟨a.mpr q.1, (b (a.mpr q.1)).trans q.2⟩⟩ (fun _ => rfl) (fun _ => ?_)
  exact k_ifc a (fun _ => rfl) (fun _ => rfl)
theorem e_copy {qFo sLo sFo qSi : Nat → Int32} (h : k_lf qFo sLo sFo) {ss s5 ix jx nn : Int32} : (if 0 ≤ ss ∧ ss ≤ 3 ∧ 0 ≤ s5 ∧ s5 ≤ 3 then (if sLo ss.toNatClampNeg = 0 ∧ sLo s5.toNatClampNeg = 0 then (if sFo ss.toNatClampNeg = sFo s5.toNatClampNeg then (if 0 ≤ ix ∧ 0 ≤ jx ∧ 0 ≤ nn ∧ ix.toInt + nn.toInt ≤ (qSi ss.toNatClampNeg).toInt ∧ jx.toInt + nn.toInt ≤ (qSi s5.toNatClampNeg).toInt then (1 : Int32) else -12) else -14) else -11) else -2) = (if 0 ≤ ss ∧ ss ≤ 3 ∧ 0 ≤ s5 ∧ s5 ≤ 3 then (if ¬ qFo ss.toNatClampNeg < 0 ∧ ¬ qFo s5.toNatClampNeg < 0 then (if qFo ss.toNatClampNeg = qFo s5.toNatClampNeg then (if 0 ≤ ix ∧ 0 ≤ jx ∧ 0 ≤ nn ∧ ix.toInt + nn.toInt ≤ (qSi ss.toNatClampNeg).toInt ∧ jx.toInt + nn.toInt ≤ (qSi s5.toNatClampNeg).toInt then 1 else -12) else -14) else -11) else -2) := by
  refine k_ifc Iff.rfl (fun c => ?_) (fun _ => rfl)
  obtain ⟨a, b⟩ := k_lf_at h ⟨c.1, c.2.1⟩
  obtain ⟨a2, b2⟩ := k_lf_at h ⟨c.2.2.1, c.2.2.2⟩
  refine k_ifc ⟨fun q => ⟨a.mp q.1, a2.mp q.2⟩, fun q => ⟨a.mpr q.1, a2.mpr q.2⟩⟩ (fun q => ?_) (fun _ => rfl)
  rw [b q.1, b2 q.2]

theorem k_ml_app {n v : Int32} {f g g' : Nat → Int32} (hn : 0 ≤ n ∧ n.toInt ≤ 100) (h : k_ml n f g) (hg : ∀ j, j < n.toNatClampNeg → g' j = g j) (hv : g' n.toNatClampNeg = v) : k_ml (n + 1) (upd f n.toNatClampNeg v) g' := by
  obtain ⟨a, ha, rfl⟩ := k_nat hn.1
  have h2 := hn.2
  rw [nI_toInt ha] at h2
  intro j hj
  rw [nI_1, nI_clamp (by omega)] at hj
  by_cases e : j = (nI a).toNatClampNeg
  · rw [e, pk_us, hv]
  · rw [pk_un e]
    have q : j < (nI a).toNatClampNeg := by rw [nI_clamp ha] at e ⊢; omega
    rw [hg j q]
    exact h j q
theorem k_ml_cg {n : Int32} {f g g' : Nat → Int32} (h : k_ml n f g) (hg : ∀ j, j < n.toNatClampNeg → g' j = g j) : k_ml n f g' := fun j hj => (h j hj).trans (hg j hj).symm
theorem k_ml_le {n m : Int32} {f g : Nat → Int32} (h : k_ml n f g) (hm : 0 ≤ m ∧ m ≤ n) : k_ml m f g := by
  obtain ⟨a, ha, rfl⟩ := k_nat hm.1
  obtain ⟨b, hb, rfl⟩ := k_nat (Int32.le_trans hm.1 hm.2)
  have := (nI_leI ha hb).mp hm.2
  intro j hj
  rw [nI_clamp ha] at hj
  exact h j (by rw [nI_clamp hb]; omega)
theorem k_cl {x : Int32} {m : Nat} (h : 0 ≤ x.toInt ∧ x.toInt ≤ m) : x.toNatClampNeg ≤ m ∧ 0 ≤ x := by
  have h0 : 0 ≤ x := Int32.le_iff_toInt_le.mpr (by rw [show (0 : Int32).toInt = 0 from rfl]; exact h.1)
  obtain ⟨a, ha, rfl⟩ := k_nat h0
  rw [nI_toInt ha] at h
  exact ⟨by rw [nI_clamp ha]; omega, h0⟩
section KT
variable {q by4 : Nat → Int32} {tt b : Int32}
theorem k_ty_bd (h0 : 0 ≤ (q 0).toInt ∧ (q 0).toInt ≤ 24) (h1 : 0 ≤ (q 1).toInt ∧ (q 1).toInt ≤ 39) (c : (tt = 0 ∧ ¬ q 0 = 24 ∨ tt = 1 ∧ ¬ q 1 = 39 ∨ tt = 2 ∧ ¬ q 2 = 23) ∧ 0 ≤ b ∧ b ≤ 255) : (tt = 0 ∧ kIx tt q = (q 0).toNatClampNeg ∧ kIx tt q ≤ 24) ∨ (tt = 1 ∧ kIx tt q = 40 + (q 1).toNatClampNeg ∧ kIx tt q ≤ 79) ∨ (tt = 2 ∧ kIx tt q = 80 + (q 2).toNatClampNeg) := by
  rcases c.1 with ⟨e, _⟩ | ⟨e, _⟩ | ⟨e, _⟩
  · refine Or.inl ⟨e, ?_⟩
    unfold kIx
    rw [if_pos e]
    exact ⟨rfl, (k_cl (m := 24) h0).1⟩
  · refine Or.inr (Or.inl ⟨e, ?_⟩)
    unfold kIx
    rw [if_neg (by rw [e]; decide), if_pos e]
    have := (k_cl (m := 39) h1).1
    exact ⟨rfl, by omega⟩
  · refine Or.inr (Or.inr ⟨e, ?_⟩)
    unfold kIx
    rw [if_neg (by rw [e]; decide), if_neg (by rw [e]; decide)]
theorem k_ml_t4 {f : Nat → Int32} (h : k_ml (q 0) f (kv4 by4)) (h0 : 0 ≤ (q 0).toInt ∧ (q 0).toInt ≤ 24) (h1 : 0 ≤ (q 1).toInt ∧ (q 1).toInt ≤ 39) : k_ml (if tt = 0 ∧ 0 ≤ b ∧ b ≤ 255 ∧ ¬ q 0 = 24 then q 0 + 1 else q 0) (if tt = 0 ∧ 0 ≤ b ∧ b ≤ 255 ∧ ¬ q 0 = 24 then upd f (q 0).toNatClampNeg (wL b) else f) (kv4 (if (tt = 0 ∧ ¬ q 0 = 24 ∨ tt = 1 ∧ ¬ q 1 = 39 ∨ tt = 2 ∧ ¬ q 2 = 23) ∧ 0 ≤ b ∧ b ≤ 255 then upd by4 (kIx tt q) b else by4)) := by
  have hc := k_cl (m := 24) h0
  by_cases c : tt = 0 ∧ 0 ≤ b ∧ b ≤ 255 ∧ ¬ q 0 = 24
  · have c2 : (tt = 0 ∧ ¬ q 0 = 24 ∨ tt = 1 ∧ ¬ q 1 = 39 ∨ tt = 2 ∧ ¬ q 2 = 23) ∧ 0 ≤ b ∧ b ≤ 255 := ⟨Or.inl ⟨c.1, c.2.2.2⟩, c.2.1, c.2.2.1⟩
    rw [if_pos c, if_pos c, if_pos c2]
    have e : kIx tt q = (q 0).toNatClampNeg := by unfold kIx; rw [if_pos c.1]
    refine k_ml_app ⟨hc.2, by omega⟩ h (fun j hj => ?_) ?_
    · unfold kv4
      rw [pk_un (by omega)]
    · unfold kv4
      rw [e, pk_us]
  · rw [if_neg c, if_neg c]
    refine k_ml_cg h (fun j hj => ?_)
    by_cases c2 : (tt = 0 ∧ ¬ q 0 = 24 ∨ tt = 1 ∧ ¬ q 1 = 39 ∨ tt = 2 ∧ ¬ q 2 = 23) ∧ 0 ≤ b ∧ b ≤ 255
    · rw [if_pos c2]
      unfold kv4
      rcases k_ty_bd h0 h1 c2 with ⟨e, _⟩ | ⟨_, e, _⟩ | ⟨_, e⟩
      · refine absurd ?_ c
        rcases c2.1 with z | z | z
        · exact ⟨e, c2.2.1, c2.2.2, z.2⟩
        · exact absurd (e.symm.trans z.1) (by decide)
        · exact absurd (e.symm.trans z.1) (by decide)
      · rw [pk_un (by omega)]
      · rw [pk_un (by omega)]
    · rw [if_neg c2]
theorem k_ml_t7 {f : Nat → Int32} (h : k_ml (q 1) f (kv7 by4)) (h0 : 0 ≤ (q 0).toInt ∧ (q 0).toInt ≤ 24) (h1 : 0 ≤ (q 1).toInt ∧ (q 1).toInt ≤ 39) : k_ml (if tt = 1 ∧ 0 ≤ b ∧ b ≤ 255 ∧ ¬ q 1 = 39 then q 1 + 1 else q 1) (if tt = 1 ∧ 0 ≤ b ∧ b ≤ 255 ∧ ¬ q 1 = 39 then upd f (q 1).toNatClampNeg (wP (q 1 - q 1 / 5 * 5) b) else f) (kv7 (if (tt = 0 ∧ ¬ q 0 = 24 ∨ tt = 1 ∧ ¬ q 1 = 39 ∨ tt = 2 ∧ ¬ q 2 = 23) ∧ 0 ≤ b ∧ b ≤ 255 then upd by4 (kIx tt q) b else by4)) := by
  have hc := k_cl (m := 39) h1
  by_cases c : tt = 1 ∧ 0 ≤ b ∧ b ≤ 255 ∧ ¬ q 1 = 39
  · have c2 : (tt = 0 ∧ ¬ q 0 = 24 ∨ tt = 1 ∧ ¬ q 1 = 39 ∨ tt = 2 ∧ ¬ q 2 = 23) ∧ 0 ≤ b ∧ b ≤ 255 := ⟨Or.inr (Or.inl ⟨c.1, c.2.2.2⟩), c.2.1, c.2.2.1⟩
    rw [if_pos c, if_pos c, if_pos c2]
    have e : kIx tt q = 40 + (q 1).toNatClampNeg := by unfold kIx; rw [if_neg (by rw [c.1]; decide), if_pos c.1]
    refine k_ml_app ⟨hc.2, by omega⟩ h (fun j hj => ?_) ?_
    · unfold kv7
      rw [pk_un (by omega)]
    · obtain ⟨a, ha, ea⟩ := k_nat hc.2
      unfold kv7
      rw [e, pk_us, ea, nI_clamp ha]
  · rw [if_neg c, if_neg c]
    refine k_ml_cg h (fun j hj => ?_)
    by_cases c2 : (tt = 0 ∧ ¬ q 0 = 24 ∨ tt = 1 ∧ ¬ q 1 = 39 ∨ tt = 2 ∧ ¬ q 2 = 23) ∧ 0 ≤ b ∧ b ≤ 255
    · rw [if_pos c2]
      unfold kv7
      rcases k_ty_bd h0 h1 c2 with ⟨_, e, e2⟩ | ⟨e, _⟩ | ⟨_, e⟩
      · rw [pk_un (by omega)]
      · refine absurd ?_ c
        rcases c2.1 with z | z | z
        · exact absurd (e.symm.trans z.1) (by decide)
        · exact ⟨e, c2.2.1, c2.2.2, z.2⟩
        · exact absurd (e.symm.trans z.1) (by decide)
      · rw [pk_un (by omega)]
    · rw [if_neg c2]
theorem k_ml_t2 {f : Nat → Int32} (h : k_ml (q 2) f (kv2 by4)) (h0 : 0 ≤ (q 0).toInt ∧ (q 0).toInt ≤ 24) (h1 : 0 ≤ (q 1).toInt ∧ (q 1).toInt ≤ 39) (h2 : 0 ≤ (q 2).toInt ∧ (q 2).toInt ≤ 23) : k_ml (if tt = 2 ∧ 0 ≤ b ∧ b ≤ 255 ∧ ¬ q 2 = 23 then q 2 + 1 else q 2) (if tt = 2 ∧ 0 ≤ b ∧ b ≤ 255 ∧ ¬ q 2 = 23 then upd f (q 2).toNatClampNeg (wG (q 2 - q 2 / 3 * 3) b) else f) (kv2 (if (tt = 0 ∧ ¬ q 0 = 24 ∨ tt = 1 ∧ ¬ q 1 = 39 ∨ tt = 2 ∧ ¬ q 2 = 23) ∧ 0 ≤ b ∧ b ≤ 255 then upd by4 (kIx tt q) b else by4)) := by
  have hc := k_cl (m := 23) h2
  by_cases c : tt = 2 ∧ 0 ≤ b ∧ b ≤ 255 ∧ ¬ q 2 = 23
  · have c2 : (tt = 0 ∧ ¬ q 0 = 24 ∨ tt = 1 ∧ ¬ q 1 = 39 ∨ tt = 2 ∧ ¬ q 2 = 23) ∧ 0 ≤ b ∧ b ≤ 255 := ⟨Or.inr (Or.inr ⟨c.1, c.2.2.2⟩), c.2.1, c.2.2.1⟩
    rw [if_pos c, if_pos c, if_pos c2]
    have e : kIx tt q = 80 + (q 2).toNatClampNeg := by unfold kIx; rw [if_neg (by rw [c.1]; decide), if_neg (by rw [c.1]; decide)]
    refine k_ml_app ⟨hc.2, by omega⟩ h (fun j hj => ?_) ?_
    · unfold kv2
      rw [pk_un (by omega)]
    · obtain ⟨a, ha, ea⟩ := k_nat hc.2
      unfold kv2
      rw [e, pk_us, ea, nI_clamp ha]
  · rw [if_neg c, if_neg c]
    refine k_ml_cg h (fun j hj => ?_)
    by_cases c2 : (tt = 0 ∧ ¬ q 0 = 24 ∨ tt = 1 ∧ ¬ q 1 = 39 ∨ tt = 2 ∧ ¬ q 2 = 23) ∧ 0 ≤ b ∧ b ≤ 255
    · rw [if_pos c2]
      unfold kv2
      rcases k_ty_bd h0 h1 c2 with ⟨_, e, e2⟩ | ⟨_, e, e2⟩ | ⟨e, _⟩
      · rw [pk_un (by omega)]
      · rw [pk_un (by omega)]
      · refine absurd ?_ c
        rcases c2.1 with z | z | z
        · exact absurd (e.symm.trans z.1) (by decide)
        · exact absurd (e.symm.trans z.1) (by decide)
        · exact ⟨e, c2.2.1, c2.2.2, z.2⟩
    · rw [if_neg c2]
end KT
theorem kFt_cg {th n : Int32} {f g : Nat → Int32} (h : k_ml n f g) : kFt th n f = kFt th n g := by
  unfold kFt
  rw [kBad_congr n.toNatClampNeg 0 (fun i _ hi => h i (by omega))]
theorem kNm_cg {th n : Int32} {f g : Nat → Int32} (h : k_ml n f g) : kNm th n f = kNm th n g := by
  unfold kNm
  rw [kFt_cg h]
theorem e_fault {q f4 f7 f2 by4 : Nat → Int32} {a4 a7 a2 tt : Int32} (h4 : k_ml (q 0) f4 (kv4 by4)) (h7 : k_ml (q 1) f7 (kv7 by4)) (h2 : k_ml (q 2) f2 (kv2 by4)) (e4 : a4 = kFt (q 0) (q 0) f4) (e7 : a7 = kFt (kTh7 (q 1)) (q 1) f7) (e2 : a2 = kFt (kTh2 (q 2)) (q 2) f2) : (if tt = 0 then a4 else if tt = 1 then a7 else if tt = 2 then a2 else -2) = (if 0 ≤ tt ∧ tt ≤ 2 then (if tt = 0 then kFt (q 0) (q 0) (kv4 by4) else if tt = 1 then kFt (kTh7 (q 1)) (q 1) (kv7 by4) else kFt (kTh2 (q 2)) (q 2) (kv2 by4)) else -2) := by
  rw [e4, e7, e2, kFt_cg h4, kFt_cg h7, kFt_cg h2]
  by_cases c : 0 ≤ tt ∧ tt ≤ 2
  · rw [if_pos c]
    have h0 : ¬ tt < 0 := Int32.not_lt.mpr c.1
    obtain ⟨j, hj, rfl⟩ := nI_of2 (n := 2) (M := 2) (by decide) h0 c.2
    match j, hj with
    | 0, _ => rw [if_pos (by decide), if_pos (by decide)]
    | 1, _ => rw [if_neg (by decide), if_pos (by decide), if_neg (by decide), if_pos (by decide)]
    | 2, _ => rw [if_neg (by decide), if_neg (by decide), if_pos (by decide), if_neg (by decide), if_neg (by decide)]
  · rw [if_neg c, if_neg (fun e => c (by rw [e]; decide)), if_neg (fun e => c (by rw [e]; decide)), if_neg (fun e => c (by rw [e]; decide))]
theorem e_mile {q f4 by4 : Nat → Int32} {n4 m : Int32} (hq : 0 ≤ (q 0).toInt ∧ (q 0).toInt ≤ 24) (h4 : k_ml (q 0) f4 (kv4 by4)) (e4 : n4 = kNm (q 0) (q 0) f4) : (if 0 ≤ m ∧ m < 24 then (if m < n4 then kAt 24 f4 m else -1) else -2) = (if 0 ≤ m ∧ m ≤ 23 then (if m < kNm (q 0) (q 0) (kv4 by4) then kv4 by4 m.toNatClampNeg else -1) else -2) := by
  refine k_ifc ⟨fun c => ⟨c.1, ?_⟩, fun c => ⟨c.1, ?_⟩⟩ (fun c => ?_) (fun _ => rfl)
  · exact Int32.le_iff_toInt_le.mpr (by have := Int32.lt_iff_toInt_lt.mp c.2; rw [show (24 : Int32).toInt = 24 from rfl] at this; rw [show (23 : Int32).toInt = 23 from rfl]; omega)
  · exact Int32.lt_iff_toInt_lt.mpr (by have := Int32.le_iff_toInt_le.mp c.2; rw [show (23 : Int32).toInt = 23 from rfl] at this; rw [show (24 : Int32).toInt = 24 from rfl]; omega)
  · rw [e4, kNm_cg h4]
    refine k_ifc Iff.rfl (fun d => ?_) (fun _ => rfl)
    rw [kAt_eq c]
    exact k_ml_at h4 ⟨c.1, k_lt4 (k_cl (m := 24) hq).2 ⟨c.1, d⟩⟩
theorem e_pass {q f7 by4 : Nat → Int32} {n7 p w : Int32} (hq : 0 ≤ (q 1).toInt ∧ (q 1).toInt ≤ 39) (h7 : k_ml (q 1) f7 (kv7 by4)) (e7 : n7 = kNm (kTh7 (q 1)) (q 1) f7) : (if (0 ≤ p ∧ p < n7) ∧ 0 ≤ w ∧ w ≤ 3 then kAt 39 f7 ((5 * p) + w) else -2) = (if (0 ≤ p ∧ p < kNm (kTh7 (q 1)) (q 1) (kv7 by4)) ∧ 0 ≤ w ∧ w ≤ 3 then kv7 by4 ((5 * p) + w).toNatClampNeg else -2) := by
  rw [e7, kNm_cg h7]
  refine k_ifc Iff.rfl (fun c => ?_) (fun _ => rfl)
  have hl := k_lt7 ⟨(k_cl (m := 39) hq).2, by omega⟩ c.1
  obtain ⟨a, ha, rfl⟩ := k_nat c.1.1
  obtain ⟨b, hb, rfl⟩ := k_nat c.2.1
  have hw := Int32.le_iff_toInt_le.mp c.2.2
  rw [show (3 : Int32).toInt = 3 from rfl, nI_toInt hb] at hw
  rw [nI_toInt ha] at hl
  obtain ⟨m, hm, em⟩ := k_nat (k_cl (m := 39) hq).2
  rw [em, nI_toInt hm] at hl hq
  rw [show (5 : Int32) = nI 5 from rfl, pk_mul, nI_add]
  rw [kAt_eq ⟨nI_pos' (by omega), by rw [show (39 : Int32) = nI 39 from rfl]; exact nI_lt (by omega) (by decide)⟩]
  exact k_ml_at h7 ⟨nI_pos' (by omega), by rw [em]; exact nI_lt (by omega) hm⟩
theorem e_goose {q f2 by4 : Nat → Int32} {n2 p w : Int32} (hq : 0 ≤ (q 2).toInt ∧ (q 2).toInt ≤ 23) (h2 : k_ml (q 2) f2 (kv2 by4)) (e2 : n2 = kNm (kTh2 (q 2)) (q 2) f2) : (if (0 ≤ p ∧ p < n2) ∧ 0 ≤ w ∧ w ≤ 1 then kAt 23 f2 ((3 * p) + w) else -2) = (if (0 ≤ p ∧ p < kNm (kTh2 (q 2)) (q 2) (kv2 by4)) ∧ 0 ≤ w ∧ w ≤ 1 then kv2 by4 ((3 * p) + w).toNatClampNeg else -2) := by
  rw [e2, kNm_cg h2]
  refine k_ifc Iff.rfl (fun c => ?_) (fun _ => rfl)
  have hl := k_lt2 ⟨(k_cl (m := 23) hq).2, by omega⟩ c.1
  obtain ⟨a, ha, rfl⟩ := k_nat c.1.1
  obtain ⟨b, hb, rfl⟩ := k_nat c.2.1
  have hw := Int32.le_iff_toInt_le.mp c.2.2
  rw [show (1 : Int32).toInt = 1 from rfl, nI_toInt hb] at hw
  rw [nI_toInt ha] at hl
  obtain ⟨m, hm, em⟩ := k_nat (k_cl (m := 23) hq).2
  rw [em, nI_toInt hm] at hl hq
  rw [show (3 : Int32) = nI 3 from rfl, pk_mul, nI_add]
  rw [kAt_eq ⟨nI_pos' (by omega), by rw [show (23 : Int32) = nI 23 from rfl]; exact nI_lt (by omega) (by decide)⟩]
  exact k_ml_at h2 ⟨nI_pos' (by omega), by rw [em]; exact nI_lt (by omega) hm⟩

def lwGo (p₀ : Program) (l : Launch) (e₀ : Env) (s₀ : State) (m₀ : MethodId) (below : List Frame) (meth : Method) (c₀ : Code) (dC : Nat → ClassId) (dI : Nat → Nat → Nat) (cI cJ cQ : ClassId) (b : Nat) (hx aLa vLa aPa vPa aGe vGe aFl vFl aTr gL gR aBe aLu vLu aLo vSf vSm vCo vSh s0 i0 s1 i1 s2 i2 s3 i3 hm vFo vSi vIt vMo vBy vTy vMi vPs vGs vFt vTo vPr vSt vFn vSg vAl : Nat) (k : Nat) : Prop := ∀ (sn : Int32) (le : Int32) (xf : Int32) (qTy : Nat → Int32) (a4 : Int32) (n4 : Int32) (f4 : Nat → Int32) (a7 : Int32) (n7 : Int32) (f7 : Nat → Int32) (a2 : Int32) (n2 : Int32) (f2 : Nat → Int32) (xn : Int32) (ff : Nat → Int32) (lf : Nat) (rt : Nat) (tgo : Int32) (tca : Int32) (tki : Int32) (tso : Int32) (tbe : Int32) (twe : Int32) (tle : Int32) (tan : Int32) (tco : Int32) (ten : Int32) (u0 : Int32) (u1 : Int32) (u2 : Int32) (u3 : Int32) (v0 : Int32) (v1 : Int32) (v2 : Int32) (v3 : Int32) (k0 : Int32) (k1 : Int32) (k2 : Int32) (k3 : Int32) (ab : Int64) (be : Int64) (fl : Nat → Int64) (sd : Int32) (sf : Nat → Int32) (sm : Nat → Int32) (oo : Nat → Int32) (sLo : Nat → Int32) (sFo : Nat → Int32) (qSi : Nat → Int32) (gq0 : Nat → Int32) (gq1 : Nat → Int32) (gq2 : Nat → Int32) (gq3 : Nat → Int32) (la : Int32) (mi : Int32) (pn : Int32) (gn : Int32) (fn : Int32) (kn : Int32) (fe : Int32) (en : Int32) (ca : Int32) (an : Int32) (co : Int32) (dr : Int32) (qFo : Nat → Int32) (qIt : Nat → Int32) (qMv : Nat → Int32) (qBy : Nat → Int32) (qMi : Nat → Int32) (qPs : Nat → Int32) (qGs : Nat → Int32) (qFt : Nat → Int32) (qTo : Nat → Int32) (qPr : Nat → Int32) (qSt : Nat → Int32) (qFn : Nat → Int32) (qSg : Nat → Int32) (qAl : Nat → Int32), (0 ≤ n4 ∧ n4 ≤ 24) → (0 ≤ xn ∧ xn ≤ 8) → (k_lf qFo sLo sFo) → (a4 = kFt (qTy 0) (qTy 0) f4) → (n4 = kNm (qTy 0) (qTy 0) f4) → (a7 = kFt (kTh7 (qTy 1)) (qTy 1) f7) → (n7 = kNm (kTh7 (qTy 1)) (qTy 1) f7) → (a2 = kFt (kTh2 (qTy 2)) (qTy 2) f2) → (n2 = kNm (kTh2 (qTy 2)) (qTy 2) f2) → (k_ml (qTy 0) f4 (kv4 qBy)) → (k_ml (qTy 1) f7 (kv7 qBy)) → (k_ml (qTy 2) f2 (kv2 qBy)) → (0 ≤ (qTy 0).toInt ∧ (qTy 0).toInt ≤ 24) → (0 ≤ (qTy 1).toInt ∧ (qTy 1).toInt ≤ 39) → (0 ≤ (qTy 2).toInt ∧ (qTy 2).toInt ≤ 23) → (k_bd 4 0 60 qSi) → (0 ≤ fn ∧ fn ≤ 8) → (0 ≤ sn ∧ sn ≤ 8) → (0 ≤ mi ∧ mi ≤ 24) → (0 ≤ pn ∧ pn ≤ 8) → (0 ≤ gn ∧ gn ≤ 8) → (k_bd 2 0 7 qPr) → (0 ≤ fe ∧ fe ≤ 24) → (en = 0 ∨ kn = 0 ∨ fe ≤ 23) → (0 ≤ kn ∧ kn ≤ 24) → ∀ (H : Heap) (locs : List Loc) (ls : Array Slot), va_P (dC, dI) vwCl [(hx, .inr (10, [.ref aLa, .ref aPa, .ref aGe, .ref aFl, .ref aTr, .ref aBe, .ref aLu, .ref aLo, .ref vSf, .ref vSm, .ref vCo, .ref vSh, .int sn, .int le, .int xf])), (aLa, .inr (4, [.ref vLa, .int (qTy 0), .int a4, .int n4])), (vLa, .inl (cI, 24, .inl f4)), (aPa, .inr (7, [.ref vPa, .int (qTy 1), .int a7, .int n7])), (vPa, .inl (cI, 39, .inl f7)), (aGe, .inr (2, [.ref vGe, .int (qTy 2), .int a2, .int n2])), (vGe, .inl (cI, 23, .inl f2)), (aFl, .inr (1, [.ref vFl, .int xn])), (vFl, .inl (cI, 32, .inl ff)), (aTr, .inr (9, [.ref aLa, .ref aPa, .ref aGe, .ref gL, .ref gR, .ref lf, .ref rt, .int tgo, .int tca, .int tki, .int tso, .int tbe, .int twe, .int tle, .int tan, .int tco, .int ten])), (gL, .inr (3, [.int u0, .int u1, .int u2, .int u3])), (gR, .inr (3, [.int v0, .int v1, .int v2, .int v3])), (aBe, .inr (0, [.int k0, .int k1, .int k2, .int k3])), (aLu, .inr (5, [.ref vLu, .long ab, .long be])), (vLu, .inl (cJ, 46, .inr (.inl fl))), (aLo, .inr (6, [.int sd])), (vSf, .inl (cI, 8, .inl sf)), (vSm, .inl (cI, 8, .inl sm)), (vCo, .inl (cI, 25, .inl oo)), (vSh, .inl (cQ, 4, .inr (.inr (.inr (.inr (fSh s0 s1 s2 s3)))))), (s0, .inr (8, [.ref i0, .int (sLo 0), .int (sFo 0), .int (qSi 0)])), (i0, .inl (cI, 60, .inl gq0)), (s1, .inr (8, [.ref i1, .int (sLo 1), .int (sFo 1), .int (qSi 1)])), (i1, .inl (cI, 60, .inl gq1)), (s2, .inr (8, [.ref i2, .int (sLo 2), .int (sFo 2), .int (qSi 2)])), (i2, .inl (cI, 60, .inl gq2)), (s3, .inr (8, [.ref i3, .int (sLo 3), .int (sFo 3), .int (qSi 3)])), (i3, .inl (cI, 60, .inl gq3)), (hm, .inr (11, [.ref vFo, .ref vSi, .ref vIt, .ref vMo, .int la, .ref vBy, .ref vTy, .int mi, .ref vMi, .int pn, .ref vPs, .int gn, .ref vGs, .int fn, .ref vFt, .int le, .ref vTo, .int kn, .int fe, .int en, .int ca, .int an, .int co, .ref vPr, .ref vSt, .ref vFn, .int sn, .ref vSg, .ref vAl, .int dr])), (vFo, .inl (cI, 4, .inl qFo)), (vSi, .inl (cI, 4, .inl qSi)), (vIt, .inl (cI, 240, .inl qIt)), (vMo, .inl (cI, 60, .inl qMv)), (vBy, .inl (cI, 120, .inl qBy)), (vTy, .inl (cI, 3, .inl qTy)), (vMi, .inl (cI, 24, .inl qMi)), (vPs, .inl (cI, 32, .inl qPs)), (vGs, .inl (cI, 16, .inl qGs)), (vFt, .inl (cI, 32, .inl qFt)), (vTo, .inl (cI, 96, .inl qTo)), (vPr, .inl (cI, 2, .inl qPr)), (vSt, .inl (cI, 2, .inl qSt)), (vFn, .inl (cI, 2, .inl qFn)), (vSg, .inl (cI, 16, .inl qSg)), (vAl, .inl (cI, 25, .inl qAl))] H → va_D (fun q : Nat => s₀.heap.size ≤ q) [(hx, .inr (10, [.ref aLa, .ref aPa, .ref aGe, .ref aFl, .ref aTr, .ref aBe, .ref aLu, .ref aLo, .ref vSf, .ref vSm, .ref vCo, .ref vSh, .int sn, .int le, .int xf])), (aLa, .inr (4, [.ref vLa, .int (qTy 0), .int a4, .int n4])), (vLa, .inl (cI, 24, .inl f4)), (aPa, .inr (7, [.ref vPa, .int (qTy 1), .int a7, .int n7])), (vPa, .inl (cI, 39, .inl f7)), (aGe, .inr (2, [.ref vGe, .int (qTy 2), .int a2, .int n2])), (vGe, .inl (cI, 23, .inl f2)), (aFl, .inr (1, [.ref vFl, .int xn])), (vFl, .inl (cI, 32, .inl ff)), (aTr, .inr (9, [.ref aLa, .ref aPa, .ref aGe, .ref gL, .ref gR, .ref lf, .ref rt, .int tgo, .int tca, .int tki, .int tso, .int tbe, .int twe, .int tle, .int tan, .int tco, .int ten])), (gL, .inr (3, [.int u0, .int u1, .int u2, .int u3])), (gR, .inr (3, [.int v0, .int v1, .int v2, .int v3])), (aBe, .inr (0, [.int k0, .int k1, .int k2, .int k3])), (aLu, .inr (5, [.ref vLu, .long ab, .long be])), (vLu, .inl (cJ, 46, .inr (.inl fl))), (aLo, .inr (6, [.int sd])), (vSf, .inl (cI, 8, .inl sf)), (vSm, .inl (cI, 8, .inl sm)), (vCo, .inl (cI, 25, .inl oo)), (vSh, .inl (cQ, 4, .inr (.inr (.inr (.inr (fSh s0 s1 s2 s3)))))), (s0, .inr (8, [.ref i0, .int (sLo 0), .int (sFo 0), .int (qSi 0)])), (i0, .inl (cI, 60, .inl gq0)), (s1, .inr (8, [.ref i1, .int (sLo 1), .int (sFo 1), .int (qSi 1)])), (i1, .inl (cI, 60, .inl gq1)), (s2, .inr (8, [.ref i2, .int (sLo 2), .int (sFo 2), .int (qSi 2)])), (i2, .inl (cI, 60, .inl gq2)), (s3, .inr (8, [.ref i3, .int (sLo 3), .int (sFo 3), .int (qSi 3)])), (i3, .inl (cI, 60, .inl gq3)), (hm, .inr (11, [.ref vFo, .ref vSi, .ref vIt, .ref vMo, .int la, .ref vBy, .ref vTy, .int mi, .ref vMi, .int pn, .ref vPs, .int gn, .ref vGs, .int fn, .ref vFt, .int le, .ref vTo, .int kn, .int fe, .int en, .int ca, .int an, .int co, .ref vPr, .ref vSt, .ref vFn, .int sn, .ref vSg, .ref vAl, .int dr])), (vFo, .inl (cI, 4, .inl qFo)), (vSi, .inl (cI, 4, .inl qSi)), (vIt, .inl (cI, 240, .inl qIt)), (vMo, .inl (cI, 60, .inl qMv)), (vBy, .inl (cI, 120, .inl qBy)), (vTy, .inl (cI, 3, .inl qTy)), (vMi, .inl (cI, 24, .inl qMi)), (vPs, .inl (cI, 32, .inl qPs)), (vGs, .inl (cI, 16, .inl qGs)), (vFt, .inl (cI, 32, .inl qFt)), (vTo, .inl (cI, 96, .inl qTo)), (vPr, .inl (cI, 2, .inl qPr)), (vSt, .inl (cI, 2, .inl qSt)), (vFn, .inl (cI, 2, .inl qFn)), (vSg, .inl (cI, 16, .inl qSg)), (vAl, .inl (cI, 25, .inl qAl))] → va_S (fun q : Nat => s₀.heap.size ≤ q) s₀.heap H locs → lv_has ls 4 [(3, .int (nI k)), (2, .ref hm), (1, .ref hx), (0, .ref b)] → W p₀ l e₀ room_1 s₀ m₀ #[Value.ref b] below meth c₀ H locs 45 1235 (lw_Z below #[Value.ref b] s₀) (F0 m₀ 18 ls [])
theorem law_end {p₀ : Program} {l : Launch} {e₀ : Env} {s₀ : State} {m₀ : MethodId} {below : List Frame} {meth : Method} {c₀ : Code} {b L : Nat} {sc : Nat → Int32} (C0 : lw_At p₀ s₀ m₀ meth c₀ b L sc) {H : Heap} {locs : List Loc} (hS : va_S (fun q : Nat => s₀.heap.size ≤ q) s₀.heap H locs) (ls : Array Slot) {k n : Nat} (hk : k ≤ 600000 := by decide) (hn : n ≤ 7302249 := by decide) : W p₀ l e₀ room_1 s₀ m₀ #[Value.ref b] below meth c₀ H locs k n (lw_Z below #[Value.ref b] s₀) (F0 m₀ 1178 ls []) := by
  obtain ⟨hx₀, hb, hr, hml, hown, hts, hX, hbl, hlocks, hgv⟩ := id C0
  refine lv_iconst (v := 1) hx₀ hb dL_law_1178 (by decide +kernel) ?_
  refine va_forget (fun q hq => hS.2.2 q hq) ?_
  refine W.widen (k := 600000) (n := 7302249) hk hn ?_
  exact lw_ret hx₀ hb hr hlocks dL_law_1179
