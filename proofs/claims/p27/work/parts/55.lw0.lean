-- ===== end of PART A; then your names; then what follows =====
/-! THE CLAIM OUT OF ONE WALK OF THE LAW'S BODY. Your part is whole_start (and what it stands on); all else here is the same for every law, but numbers. -/
def R_law : String := "BittenStickLaw"
def lw_P (b : Addr) (xs : List Int32) (args : Array Value) (s : State) : Prop := args = #[.ref b] ∧ s.IntsAt b xs ∧ xs.length ≤ 384 ∧ (Jvm.Cond.and given_1 narrow_1).before args s = true
def lw_Q (_ : Array Value) (s : State) (o : Outcome) (t : State) : Prop := o = .returned (some (.int 1)) ∧ Framed s o t [] 600000 7302249
def lw_Z (below : List Frame) (a : Array Value) (s : State) : State → Prop := fun t => ∃ o, t.status = .running ∧ Ended t below o ∧ lw_Q a s o t
/-- the law's own end, with 1 on the stack, nothing written that was there before, its room as the claim has it -/
theorem lw_ret {p : Program} {l : Launch} {e : Env} {s : State} {m : MethodId} {below : List Frame} {meth : Method} {c : Code} {b : Nat} (hx : p.tables.exec = Jvm.exec) (hb : c.code = code) (hr : meth.sig.returnType = ret) (hlocks : meth.locks = false) {pc : Nat} {H : Heap} {ls : Array Slot} (hdg : decode code pc = .ok (.ireturn, 1)) : W p l e room_1 s m #[Value.ref b] below meth c H [] 600000 7302249 (lw_Z below #[Value.ref b] s) (F0 m pc ls [.int 1]) := by
  intro T hT X
  obtain ⟨fs, hret, hrun, hended, hW, hframe⟩ := X.leave (v := some (.int 1)) (hlocks := hlocks) (fun h => by rw [hr] at h; cases h)
  have hmeth' : T.vm.method? m = some meth := X.method'
  refine ⟨T.setFrames fs, ?_, .returned (some (.int 1)), hrun, hended, rfl, ⟨_, rfl⟩, hW, hframe⟩
  jvm_step X.here [X.here.top, hx, hb, hdg, hmeth', hr, ret, narrow_b1]
  (try refine ⟨rfl, ?_⟩); (try refine ⟨rfl, ?_⟩)
  first | (intro acts; rw [hret _ acts rfl rfl rfl]) | rw [hret _ _ rfl rfl rfl]
  exact Steps.refl _
/-- what holds at the law's entry: the machine, the code, the tables' words (any of lw_tbl by 'hts w (by decide +kernel)'), the script of L ints xs at the cell b, what the Statement gives of the start (any of its parts by flat_of_before) -/
def lw_At (p : Program) (s : State) (m : MethodId) (meth : Method) (c : Code) (b L : Nat) (xs : Nat → Int32) : Prop :=
  p.tables.exec = Jvm.exec ∧ c.code = code ∧ meth.sig.returnType = ret ∧ c.maxLocals = 4 ∧ s.vm.findClass R_law = some m.cls ∧ (∀ w ∈ lw_tbl, w.before #[Value.ref b] s = true) ∧ va_X b L xs s s.heap ∧ b < s.heap.size ∧ meth.locks = false ∧ (Jvm.Cond.and given_1 narrow_1).before #[Value.ref b] s = true

theorem k_sx {k L j : Nat} (hk : k + 6 ≤ L) (hL : L ≤ 384) (hj : j < 6) : vp_in (nI k + nI j) L := by
  rw [nI_add]
  exact vp_in_nI (by omega) (by omega)
theorem k_s0 {k L : Nat} (hk : k + 6 ≤ L) (hL : L ≤ 384) : vp_in (nI k) L := vp_in_nI (by omega) (by omega)
theorem k_hd {k L : Nat} (hL : L ≤ 384) (hk : k ≤ 400) (h : ¬ nI L - nI 6 < nI k) : k + 6 ≤ L := by
  have h1 : ¬ (nI L - nI 6).toInt < (nI k).toInt := fun q => h (Int32.lt_iff_toInt_lt.mpr q)
  rw [pk_sub_toInt (by omega) (by omega), nI_toInt (by omega)] at h1
  omega
theorem k_hx {k L : Nat} (hL : L ≤ 384) (hk : k ≤ 400) (h : k + 6 ≤ L) : ¬ nI L - nI 6 < nI k := by
  intro q
  have h1 := Int32.lt_iff_toInt_lt.mp q
  rw [pk_sub_toInt (by omega) (by omega), nI_toInt (by omega)] at h1
  omega

/-- the sheets of class and reference: lost, or of one form -/
def k_lf (qFo sLo sFo : Nat → Int32) : Prop := ∀ k, k < 4 → (qFo k < 0 ∧ sLo k = 1) ∨ (¬ qFo k < 0 ∧ sLo k = 0 ∧ sFo k = qFo k)
theorem k_c4 {s : Int32} (h : 0 ≤ s ∧ s ≤ 3) : s.toNatClampNeg < 4 := by
  have h0 : ¬ s < 0 := Int32.not_lt.mpr h.1
  obtain ⟨j, hj, rfl⟩ := nI_of2 (n := 3) (M := 3) (by decide) h0 h.2
  rw [nI_clamp (by omega)]
  omega
theorem k_lf_at {qFo sLo sFo : Nat → Int32} (h : k_lf qFo sLo sFo) {s : Int32} (hs : 0 ≤ s ∧ s ≤ 3) : (sLo s.toNatClampNeg = 0 ↔ ¬ qFo s.toNatClampNeg < 0) ∧ (sLo s.toNatClampNeg = 0 → sFo s.toNatClampNeg = qFo s.toNatClampNeg) := by
  rcases h _ (k_c4 hs) with ⟨h1, h2⟩ | ⟨h1, h2, h3⟩
  · refine ⟨⟨fun q => absurd (h2.symm.trans q) (by decide), fun q => absurd h1 q⟩, fun q => absurd (h2.symm.trans q) (by decide)⟩
  · exact ⟨⟨fun _ => h1, fun _ => h2⟩, fun _ => h3⟩
theorem k_lf_sheet {qFo sLo sFo : Nat → Int32} (h : k_lf qFo sLo sFo) {ss fm nn : Int32} : k_lf (if 0 ≤ ss ∧ ss ≤ 3 ∧ 0 ≤ fm ∧ fm ≤ 2 ∧ nn ≤ 60 ∧ ¬ nn < 0 then upd qFo ss.toNatClampNeg fm else qFo) (if 0 ≤ ss ∧ ss ≤ 3 ∧ 0 ≤ fm ∧ fm ≤ 2 ∧ nn ≤ 60 ∧ ¬ nn < 0 then upd sLo ss.toNatClampNeg 0 else sLo) (if 0 ≤ ss ∧ ss ≤ 3 ∧ 0 ≤ fm ∧ fm ≤ 2 ∧ nn ≤ 60 ∧ ¬ nn < 0 then upd sFo ss.toNatClampNeg fm else sFo) := by
  by_cases c : 0 ≤ ss ∧ ss ≤ 3 ∧ 0 ≤ fm ∧ fm ≤ 2 ∧ nn ≤ 60 ∧ ¬ nn < 0
  · rw [if_pos c, if_pos c, if_pos c]
    intro k hk
    by_cases e : k = ss.toNatClampNeg
    · subst e
      rw [pk_us, pk_us, pk_us]
      exact Or.inr ⟨Int32.not_lt.mpr c.2.2.1, rfl, rfl⟩
    · rw [pk_un e, pk_un e, pk_un e]
      exact h k hk
  · rw [if_neg c, if_neg c, if_neg c]
    exact h
theorem k_lf_lose {qFo sLo sFo : Nat → Int32} (h : k_lf qFo sLo sFo) {ss : Int32} : k_lf (if 0 ≤ ss ∧ ss ≤ 3 ∧ ¬ qFo ss.toNatClampNeg < 0 then upd qFo ss.toNatClampNeg (-1) else qFo) (if 0 ≤ ss ∧ ss ≤ 3 ∧ sLo ss.toNatClampNeg = 0 then upd sLo ss.toNatClampNeg 1 else sLo) sFo := by
  by_cases c : 0 ≤ ss ∧ ss ≤ 3 ∧ sLo ss.toNatClampNeg = 0
  · have a := k_lf_at h ⟨c.1, c.2.1⟩
    rw [if_pos c, if_pos ⟨c.1, c.2.1, a.1.mp c.2.2⟩]
    intro k hk
    by_cases e : k = ss.toNatClampNeg
    · subst e
      rw [pk_us, pk_us]
      exact Or.inl ⟨by decide, rfl⟩
    · rw [pk_un e, pk_un e]
      exact h k hk
  · have c2 : ¬ (0 ≤ ss ∧ ss ≤ 3 ∧ ¬ qFo ss.toNatClampNeg < 0) := fun q => c ⟨q.1, q.2.1, (k_lf_at h ⟨q.1, q.2.1⟩).1.mpr q.2.2⟩
    rw [if_neg c, if_neg c2]
    exact h
theorem k_ifc {α : Type} {P Q : Prop} [Decidable P] [Decidable Q] {a b a2 b2 : α} (h : P ↔ Q) (h1 : P → a = a2) (h2 : ¬ P → b = b2) : (if P then a else b) = if Q then a2 else b2 := by
  by_cases c : P
  · rw [if_pos c, if_pos (h.mp c)]; exact h1 c
  · rw [if_neg c, if_neg (fun q => c (h.mpr q))]; exact h2 c
theorem e_lose {qFo sLo sFo qSi : Nat → Int32} (h : k_lf qFo sLo sFo) {ss : Int32} : (if 0 ≤ ss ∧ ss ≤ 3 then (if sLo ss.toNatClampNeg = 0 then qSi ss.toNatClampNeg else -11) else -2) = (if 0 ≤ ss ∧ ss ≤ 3 then (if qFo ss.toNatClampNeg < 0 then -11 else qSi ss.toNatClampNeg) else -2) := by
  refine k_ifc Iff.rfl (fun c => ?_) (fun _ => rfl)
  have a := (k_lf_at h c).1
  by_cases d : qFo ss.toNatClampNeg < 0
  · rw [if_pos d, if_neg (fun q => a.mp q d)]
  · rw [if_neg d, if_pos (a.mpr d)]
theorem e_lay {qFo sLo sFo qSi : Nat → Int32} (h : k_lf qFo sLo sFo) {ss fm i1 : Int32} : (if 0 ≤ ss ∧ ss ≤ 3 ∧ 0 ≤ fm ∧ fm ≤ 2 then (if sLo ss.toNatClampNeg = 0 ∧ sFo ss.toNatClampNeg = fm ∧ 0 ≤ i1 ∧ i1 < qSi ss.toNatClampNeg then (1 : Int32) else if sLo ss.toNatClampNeg = 0 ∧ sFo ss.toNatClampNeg = fm then -12 else if sLo ss.toNatClampNeg = 0 then -13 else -11) else -2) = (if 0 ≤ ss ∧ ss ≤ 3 ∧ 0 ≤ fm ∧ fm ≤ 2 then (if ¬ qFo ss.toNatClampNeg < 0 ∧ qFo ss.toNatClampNeg = fm ∧ 0 ≤ i1 ∧ i1 < qSi ss.toNatClampNeg then 1 else if ¬ qFo ss.toNatClampNeg < 0 ∧ qFo ss.toNatClampNeg = fm then -12 else if ¬ qFo ss.toNatClampNeg < 0 then -13 else -11) else -2) := by
  refine k_ifc Iff.rfl (fun c => ?_) (fun _ => rfl)
  obtain ⟨a, b⟩ := k_lf_at h ⟨c.1, c.2.1⟩
  refine k_ifc ⟨fun q => ⟨a.mp q.1, (b q.1).symm.trans q.2.1, q.2.2⟩, fun q => ⟨a.mpr q.1, (b (a.mpr q.1)).trans q.2.1, q.2.2⟩⟩ (fun _ => rfl) (fun _ => ?_)
  refine k_ifc ⟨fun q => ⟨a.mp q.1, (b q.1).symm.trans q.2⟩, fun q => ⟨a.mpr q.1, (b (a.mpr q.1)).trans q.2⟩⟩ (fun _ => rfl) (fun _ => ?_)
  exact k_ifc a (fun _ => rfl) (fun _ => rfl)
theorem e_copy {qFo sLo sFo qSi : Nat → Int32} (h : k_lf qFo sLo sFo) {ss s5 ix jx nn : Int32} : (if 0 ≤ ss ∧ ss ≤ 3 ∧ 0 ≤ s5 ∧ s5 ≤ 3 then (if sLo ss.toNatClampNeg = 0 ∧ sLo s5.toNatClampNeg = 0 then (if sFo ss.toNatClampNeg = sFo s5.toNatClampNeg then (if 0 ≤ ix ∧ 0 ≤ jx ∧ 0 ≤ nn ∧ ix.toInt + nn.toInt ≤ (qSi ss.toNatClampNeg).toInt ∧ jx.toInt + nn.toInt ≤ (qSi s5.toNatClampNeg).toInt then (1 : Int32) else -12) else -14) else -11) else -2) = (if 0 ≤ ss ∧ ss ≤ 3 ∧ 0 ≤ s5 ∧ s5 ≤ 3 then (if ¬ qFo ss.toNatClampNeg < 0 ∧ ¬ qFo s5.toNatClampNeg < 0 then (if qFo ss.toNatClampNeg = qFo s5.toNatClampNeg then (if 0 ≤ ix ∧ 0 ≤ jx ∧ 0 ≤ nn ∧ ix.toInt + nn.toInt ≤ (qSi ss.toNatClampNeg).toInt ∧ jx.toInt + nn.toInt ≤ (qSi s5.toNatClampNeg).toInt then 1 else -12) else -14) else -11) else -2) := by
  refine k_ifc Iff.rfl (fun c => ?_) (fun _ => rfl)
  obtain ⟨a, b⟩ := k_lf_at h ⟨c.1, c.2.1⟩
  obtain ⟨a2, b2⟩ := k_lf_at h ⟨c.2.2.1, c.2.2.2⟩
  refine k_ifc ⟨fun q => ⟨a.mp q.1, a2.mp q.2⟩, fun q => ⟨a.mpr q.1, a2.mpr q.2⟩⟩ (fun q => ?_) (fun _ => rfl)
  rw [b q.1, b2 q.2]

def lwGo (p₀ : Program) (l : Launch) (e₀ : Env) (s₀ : State) (m₀ : MethodId) (below : List Frame) (meth : Method) (c₀ : Code) (dC : Nat → ClassId) (dI : Nat → Nat → Nat) (cI cJ cQ : ClassId) (b : Nat) (hx aLa vLa aPa vPa aGe vGe aFl vFl aTr gL gR aBe aLu vLu aLo vSf vSm vCo vSh s0 i0 s1 i1 s2 i2 s3 i3 hm vFo vSi vIt vMo vBy vTy vMi vPs vGs vFt vTo vPr vSt vFn vSg vAl : Nat) (k : Nat) : Prop := ∀ (sn : Int32) (le : Int32) (xf : Int32) (qTy : Nat → Int32) (a4 : Int32) (n4 : Int32) (f4 : Nat → Int32) (a7 : Int32) (n7 : Int32) (f7 : Nat → Int32) (a2 : Int32) (n2 : Int32) (f2 : Nat → Int32) (xn : Int32) (ff : Nat → Int32) (lf : Nat) (rt : Nat) (tgo : Int32) (tca : Int32) (tki : Int32) (tso : Int32) (tbe : Int32) (twe : Int32) (tle : Int32) (tan : Int32) (tco : Int32) (ten : Int32) (u0 : Int32) (u1 : Int32) (u2 : Int32) (u3 : Int32) (v0 : Int32) (v1 : Int32) (v2 : Int32) (v3 : Int32) (k0 : Int32) (k1 : Int32) (k2 : Int32) (k3 : Int32) (ab : Int64) (be : Int64) (fl : Nat → Int64) (sd : Int32) (sf : Nat → Int32) (sm : Nat → Int32) (oo : Nat → Int32) (sLo : Nat → Int32) (sFo : Nat → Int32) (qSi : Nat → Int32) (gq0 : Nat → Int32) (gq1 : Nat → Int32) (gq2 : Nat → Int32) (gq3 : Nat → Int32) (la : Int32) (mi : Int32) (pn : Int32) (gn : Int32) (fn : Int32) (kn : Int32) (fe : Int32) (en : Int32) (ca : Int32) (an : Int32) (co : Int32) (dr : Int32) (qFo : Nat → Int32) (qIt : Nat → Int32) (qMv : Nat → Int32) (qBy : Nat → Int32) (qMi : Nat → Int32) (qPs : Nat → Int32) (qGs : Nat → Int32) (qFt : Nat → Int32) (qTo : Nat → Int32) (qPr : Nat → Int32) (qSt : Nat → Int32) (qFn : Nat → Int32) (qSg : Nat → Int32) (qAl : Nat → Int32), (0 ≤ n4 ∧ n4 ≤ 24) → (0 ≤ xn ∧ xn ≤ 8) → (k_lf qFo sLo sFo) → (a4 = kFt (qTy 0) (qTy 0) f4) → (n4 = kNm (qTy 0) (qTy 0) f4) → (a7 = kFt (kTh7 (qTy 1)) (qTy 1) f7) → (n7 = kNm (kTh7 (qTy 1)) (qTy 1) f7) → (a2 = kFt (kTh2 (qTy 2)) (qTy 2) f2) → (n2 = kNm (kTh2 (qTy 2)) (qTy 2) f2) → (0 ≤ (qTy 0).toInt ∧ (qTy 0).toInt ≤ 24) → (0 ≤ (qTy 1).toInt ∧ (qTy 1).toInt ≤ 39) → (0 ≤ (qTy 2).toInt ∧ (qTy 2).toInt ≤ 23) → (k_bd 4 0 60 qSi) → (0 ≤ fn ∧ fn ≤ 8) → (0 ≤ sn ∧ sn ≤ 8) → (0 ≤ mi ∧ mi ≤ 24) → (0 ≤ pn ∧ pn ≤ 8) → (0 ≤ gn ∧ gn ≤ 8) → (k_bd 2 0 7 qPr) → (0 ≤ fe ∧ fe ≤ 24) → (en = 0 ∨ kn = 0 ∨ fe ≤ 23) → (0 ≤ kn ∧ kn ≤ 24) → ∀ (H : Heap) (locs : List Loc) (ls : Array Slot), va_P (dC, dI) vwCl [(hx, .inr (10, [.ref aLa, .ref aPa, .ref aGe, .ref aFl, .ref aTr, .ref aBe, .ref aLu, .ref aLo, .ref vSf, .ref vSm, .ref vCo, .ref vSh, .int sn, .int le, .int xf])), (aLa, .inr (4, [.ref vLa, .int (qTy 0), .int a4, .int n4])), (vLa, .inl (cI, 24, .inl f4)), (aPa, .inr (7, [.ref vPa, .int (qTy 1), .int a7, .int n7])), (vPa, .inl (cI, 39, .inl f7)), (aGe, .inr (2, [.ref vGe, .int (qTy 2), .int a2, .int n2])), (vGe, .inl (cI, 23, .inl f2)), (aFl, .inr (1, [.ref vFl, .int xn])), (vFl, .inl (cI, 32, .inl ff)), (aTr, .inr (9, [.ref aLa, .ref aPa, .ref aGe, .ref gL, .ref gR, .ref lf, .ref rt, .int tgo, .int tca, .int tki, .int tso, .int tbe, .int twe, .int tle, .int tan, .int tco, .int ten])), (gL, .inr (3, [.int u0, .int u1, .int u2, .int u3])), (gR, .inr (3, [.int v0, .int v1, .int v2, .int v3])), (aBe, .inr (0, [.int k0, .int k1, .int k2, .int k3])), (aLu, .inr (5, [.ref vLu, .long ab, .long be])), (vLu, .inl (cJ, 46, .inr (.inl fl))), (aLo, .inr (6, [.int sd])), (vSf, .inl (cI, 8, .inl sf)), (vSm, .inl (cI, 8, .inl sm)), (vCo, .inl (cI, 25, .inl oo)), (vSh, .inl (cQ, 4, .inr (.inr (.inr (.inr (fSh s0 s1 s2 s3)))))), (s0, .inr (8, [.ref i0, .int (sLo 0), .int (sFo 0), .int (qSi 0)])), (i0, .inl (cI, 60, .inl gq0)), (s1, .inr (8, [.ref i1, .int (sLo 1), .int (sFo 1), .int (qSi 1)])), (i1, .inl (cI, 60, .inl gq1)), (s2, .inr (8, [.ref i2, .int (sLo 2), .int (sFo 2), .int (qSi 2)])), (i2, .inl (cI, 60, .inl gq2)), (s3, .inr (8, [.ref i3, .int (sLo 3), .int (sFo 3), .int (qSi 3)])), (i3, .inl (cI, 60, .inl gq3)), (hm, .inr (11, [.ref vFo, .ref vSi, .ref vIt, .ref vMo, .int la, .ref vBy, .ref vTy, .int mi, .ref vMi, .int pn, .ref vPs, .int gn, .ref vGs, .int fn, .ref vFt, .int le, .ref vTo, .int kn, .int fe, .int en, .int ca, .int an, .int co, .ref vPr, .ref vSt, .ref vFn, .int sn, .ref vSg, .ref vAl, .int dr])), (vFo, .inl (cI, 4, .inl qFo)), (vSi, .inl (cI, 4, .inl qSi)), (vIt, .inl (cI, 240, .inl qIt)), (vMo, .inl (cI, 60, .inl qMv)), (vBy, .inl (cI, 120, .inl qBy)), (vTy, .inl (cI, 3, .inl qTy)), (vMi, .inl (cI, 24, .inl qMi)), (vPs, .inl (cI, 32, .inl qPs)), (vGs, .inl (cI, 16, .inl qGs)), (vFt, .inl (cI, 32, .inl qFt)), (vTo, .inl (cI, 96, .inl qTo)), (vPr, .inl (cI, 2, .inl qPr)), (vSt, .inl (cI, 2, .inl qSt)), (vFn, .inl (cI, 2, .inl qFn)), (vSg, .inl (cI, 16, .inl qSg)), (vAl, .inl (cI, 25, .inl qAl))] H → va_D (fun q : Nat => s₀.heap.size ≤ q) [(hx, .inr (10, [.ref aLa, .ref aPa, .ref aGe, .ref aFl, .ref aTr, .ref aBe, .ref aLu, .ref aLo, .ref vSf, .ref vSm, .ref vCo, .ref vSh, .int sn, .int le, .int xf])), (aLa, .inr (4, [.ref vLa, .int (qTy 0), .int a4, .int n4])), (vLa, .inl (cI, 24, .inl f4)), (aPa, .inr (7, [.ref vPa, .int (qTy 1), .int a7, .int n7])), (vPa, .inl (cI, 39, .inl f7)), (aGe, .inr (2, [.ref vGe, .int (qTy 2), .int a2, .int n2])), (vGe, .inl (cI, 23, .inl f2)), (aFl, .inr (1, [.ref vFl, .int xn])), (vFl, .inl (cI, 32, .inl ff)), (aTr, .inr (9, [.ref aLa, .ref aPa, .ref aGe, .ref gL, .ref gR, .ref lf, .ref rt, .int tgo, .int tca, .int tki, .int tso, .int tbe, .int twe, .int tle, .int tan, .int tco, .int ten])), (gL, .inr (3, [.int u0, .int u1, .int u2, .int u3])), (gR, .inr (3, [.int v0, .int v1, .int v2, .int v3])), (aBe, .inr (0, [.int k0, .int k1, .int k2, .int k3])), (aLu, .inr (5, [.ref vLu, .long ab, .long be])), (vLu, .inl (cJ, 46, .inr (.inl fl))), (aLo, .inr (6, [.int sd])), (vSf, .inl (cI, 8, .inl sf)), (vSm, .inl (cI, 8, .inl sm)), (vCo, .inl (cI, 25, .inl oo)), (vSh, .inl (cQ, 4, .inr (.inr (.inr (.inr (fSh s0 s1 s2 s3)))))), (s0, .inr (8, [.ref i0, .int (sLo 0), .int (sFo 0), .int (qSi 0)])), (i0, .inl (cI, 60, .inl gq0)), (s1, .inr (8, [.ref i1, .int (sLo 1), .int (sFo 1), .int (qSi 1)])), (i1, .inl (cI, 60, .inl gq1)), (s2, .inr (8, [.ref i2, .int (sLo 2), .int (sFo 2), .int (qSi 2)])), (i2, .inl (cI, 60, .inl gq2)), (s3, .inr (8, [.ref i3, .int (sLo 3), .int (sFo 3), .int (qSi 3)])), (i3, .inl (cI, 60, .inl gq3)), (hm, .inr (11, [.ref vFo, .ref vSi, .ref vIt, .ref vMo, .int la, .ref vBy, .ref vTy, .int mi, .ref vMi, .int pn, .ref vPs, .int gn, .ref vGs, .int fn, .ref vFt, .int le, .ref vTo, .int kn, .int fe, .int en, .int ca, .int an, .int co, .ref vPr, .ref vSt, .ref vFn, .int sn, .ref vSg, .ref vAl, .int dr])), (vFo, .inl (cI, 4, .inl qFo)), (vSi, .inl (cI, 4, .inl qSi)), (vIt, .inl (cI, 240, .inl qIt)), (vMo, .inl (cI, 60, .inl qMv)), (vBy, .inl (cI, 120, .inl qBy)), (vTy, .inl (cI, 3, .inl qTy)), (vMi, .inl (cI, 24, .inl qMi)), (vPs, .inl (cI, 32, .inl qPs)), (vGs, .inl (cI, 16, .inl qGs)), (vFt, .inl (cI, 32, .inl qFt)), (vTo, .inl (cI, 96, .inl qTo)), (vPr, .inl (cI, 2, .inl qPr)), (vSt, .inl (cI, 2, .inl qSt)), (vFn, .inl (cI, 2, .inl qFn)), (vSg, .inl (cI, 16, .inl qSg)), (vAl, .inl (cI, 25, .inl qAl))] → va_S (fun q : Nat => s₀.heap.size ≤ q) s₀.heap H locs → lv_has ls 4 [(3, .int (nI k)), (2, .ref hm), (1, .ref hx), (0, .ref b)] → W p₀ l e₀ room_1 s₀ m₀ #[Value.ref b] below meth c₀ H locs 45 1235 (lw_Z below #[Value.ref b] s₀) (F0 m₀ 18 ls [])
theorem law_end {p₀ : Program} {l : Launch} {e₀ : Env} {s₀ : State} {m₀ : MethodId} {below : List Frame} {meth : Method} {c₀ : Code} {b L : Nat} {sc : Nat → Int32} (C0 : lw_At p₀ s₀ m₀ meth c₀ b L sc) {H : Heap} {locs : List Loc} (hS : va_S (fun q : Nat => s₀.heap.size ≤ q) s₀.heap H locs) (ls : Array Slot) {k n : Nat} (hk : k ≤ 600000 := by decide) (hn : n ≤ 7302249 := by decide) : W p₀ l e₀ room_1 s₀ m₀ #[Value.ref b] below meth c₀ H locs k n (lw_Z below #[Value.ref b] s₀) (F0 m₀ 1178 ls []) := by
  obtain ⟨hx₀, hb, hr, hml, hown, hts, hX, hbl, hlocks, hgv⟩ := id C0
  refine lv_iconst (v := 1) hx₀ hb dL_law_1178 (by decide +kernel) ?_
  refine va_forget (fun q hq => hS.2.2 q hq) ?_
  refine W.widen (k := 600000) (n := 7302249) hk hn ?_
  exact lw_ret hx₀ hb hr hlocks dL_law_1179
