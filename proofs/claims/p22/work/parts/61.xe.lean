theorem kP_u {ft : Nat → Int32} {f f1 x : Int32} (hf : 0 ≤ f ∧ f ≤ 8) (h1 : 0 ≤ f1 ∧ f1 ≤ 8) : kP0 (upd ft ((4 * f1) + 3).toNatClampNeg x) f = kP0 ft f ∧ kP1 (upd ft ((4 * f1) + 3).toNatClampNeg x) f = kP1 ft f ∧ kP2 (upd ft ((4 * f1) + 3).toNatClampNeg x) f = kP2 ft f ∧ kP3 (upd ft ((4 * f1) + 3).toNatClampNeg x) f = if f = f1 then x else kP3 ft f := by
  obtain ⟨a, ha, ea, ia⟩ := k_ix4 (w := 3) h1 (by decide)
  have ia' : ((4 * f1) + 3 : Int32).toNatClampNeg = 4 * a + 3 := ia
  obtain ⟨b, hb, eb, i0⟩ := k_ix4 (w := 0) hf (by decide)
  have i0' : (4 * f : Int32).toNatClampNeg = 4 * b := by rw [← Nat.add_zero (4 * b), ← i0, show (nI 0 : Int32) = 0 from rfl, Int32.add_zero]
  have ix : ∀ w : Nat, w < 4 → ((4 * f) + nI w : Int32).toNatClampNeg = 4 * b + w := fun w hw => by rw [eb, show (4 : Int32) = nI 4 from rfl, pk_mul, nI_add, nI_clamp (by omega)]
  have i1 : ((4 * f) + 1 : Int32).toNatClampNeg = 4 * b + 1 := ix 1 (by decide)
  have i2 : ((4 * f) + 2 : Int32).toNatClampNeg = 4 * b + 2 := ix 2 (by decide)
  have i3 : ((4 * f) + 3 : Int32).toNatClampNeg = 4 * b + 3 := ix 3 (by decide)
  unfold kP0 kP1 kP2 kP3
  rw [ia', i0', i1, i2, i3]
  refine ⟨pk_un (by omega), pk_un (by omega), pk_un (by omega), ?_⟩
  by_cases e : f = f1
  · have hab : b = a := by
      have z : nI b = nI a := by rw [← eb, ← ea, e]
      exact (nI_eq (by omega) (by omega)).mp z
    rw [if_pos e, hab, pk_us]
  · have hab : ¬ b = a := fun z => e (by rw [eb, ea, z])
    rw [if_neg e, pk_un (by omega)]
theorem e_high {q f4 f7 f2 by4 qMi qPs qGs ft sf sm sg : Nat → Int32} {n4 n7 n2 mi pn gn fn sn le f1 : Int32} (R : kRel q f4 f7 f2 by4 qMi qPs qGs n4 n7 n2 mi pn gn) (hs : k_sn sn sf sm sg) (hsn : 0 ≤ sn ∧ sn ≤ 8) (hfn : 0 ≤ fn ∧ fn ≤ 8) : (if 0 ≤ f1 ∧ f1 < fn then (kSo (fun x1 => (kAl fn (fun x9 => kOC f4 f7 f2 n4 n7 n2 le (kIt fn ft x9 0) (kIt fn ft x9 1) (kIt fn ft x9 2) (if x9 = f1 then x1 else (kIt fn ft x9 3)) (if (kIt fn ft x9 0) = (-1 : Int32) then (-1 : Int32) else (kAt 39 f7 ((5 * (kIt fn ft x9 0)) + 1)))) (fun x9 => sf x9.toNatClampNeg) (fun x9 => sm x9.toNatClampNeg) (kfu sn 0) 0)) (kfu 10 1) 1 0) else -2) = (if 0 ≤ f1 ∧ f1 < fn then (kSo (fun x1 => (kAl fn (fun x9 => kOR qMi qPs qGs mi pn gn le (kP0 (upd ft ((4 * f1) + 3).toNatClampNeg x1) x9) (kP1 (upd ft ((4 * f1) + 3).toNatClampNeg x1) x9) (kP2 (upd ft ((4 * f1) + 3).toNatClampNeg x1) x9) (kP1 qPs (kP0 (upd ft ((4 * f1) + 3).toNatClampNeg x1) x9)) (fun x8 => if x8 < (24 : Int32) then (kP3 (upd ft ((4 * f1) + 3).toNatClampNeg x1) x9) else (0 : Int32))) (fun x9 => sg (2 * x9).toNatClampNeg) (fun x9 => sg ((2 * x9) + 1).toNatClampNeg) (kfu sn 0) 0)) (kfu 10 1) 1 0) else -2) := by
  refine k_ifc Iff.rfl (fun c => ?_) (fun _ => rfl)
  have E : (fun x1 => (kAl fn (fun x9 => kOC f4 f7 f2 n4 n7 n2 le (kIt fn ft x9 0) (kIt fn ft x9 1) (kIt fn ft x9 2) (if x9 = f1 then x1 else (kIt fn ft x9 3)) (if (kIt fn ft x9 0) = (-1 : Int32) then (-1 : Int32) else (kAt 39 f7 ((5 * (kIt fn ft x9 0)) + 1)))) (fun x9 => sf x9.toNatClampNeg) (fun x9 => sm x9.toNatClampNeg) (kfu sn 0) 0)) = (fun x1 => (kAl fn (fun x9 => kOR qMi qPs qGs mi pn gn le (kP0 (upd ft ((4 * f1) + 3).toNatClampNeg x1) x9) (kP1 (upd ft ((4 * f1) + 3).toNatClampNeg x1) x9) (kP2 (upd ft ((4 * f1) + 3).toNatClampNeg x1) x9) (kP1 qPs (kP0 (upd ft ((4 * f1) + 3).toNatClampNeg x1) x9)) (fun x8 => if x8 < (24 : Int32) then (kP3 (upd ft ((4 * f1) + 3).toNatClampNeg x1) x9) else (0 : Int32))) (fun x9 => sg (2 * x9).toNatClampNeg) (fun x9 => sg ((2 * x9) + 1).toNatClampNeg) (kfu sn 0) 0)) := funext fun x => by
    show (kAl fn (fun x9 => kOC f4 f7 f2 n4 n7 n2 le (kIt fn ft x9 0) (kIt fn ft x9 1) (kIt fn ft x9 2) (if x9 = f1 then x else (kIt fn ft x9 3)) (if (kIt fn ft x9 0) = (-1 : Int32) then (-1 : Int32) else (kAt 39 f7 ((5 * (kIt fn ft x9 0)) + 1)))) (fun x9 => sf x9.toNatClampNeg) (fun x9 => sm x9.toNatClampNeg) (kfu sn 0) 0) = (kAl fn (fun x9 => kOR qMi qPs qGs mi pn gn le (kP0 (upd ft ((4 * f1) + 3).toNatClampNeg x) x9) (kP1 (upd ft ((4 * f1) + 3).toNatClampNeg x) x9) (kP2 (upd ft ((4 * f1) + 3).toNatClampNeg x) x9) (kP1 qPs (kP0 (upd ft ((4 * f1) + 3).toNatClampNeg x) x9)) (fun x8 => if x8 < (24 : Int32) then (kP3 (upd ft ((4 * f1) + 3).toNatClampNeg x) x9) else (0 : Int32))) (fun x9 => sg (2 * x9).toNatClampNeg) (fun x9 => sg ((2 * x9) + 1).toNatClampNeg) (kfu sn 0) 0)
    obtain ⟨s, hs8, es⟩ := nI_of2 (n := 8) (M := 8) (by decide) (Int32.not_lt.mpr hsn.1) hsn.2
    have ek : kfu sn 0 = s := by rw [es, show (0 : Int32) = nI 0 from rfl, kfu_nat (by decide) (by omega), Nat.sub_zero]
    have S1 : ∀ a : Nat, a < s → (fun x9 : Int32 => sf x9.toNatClampNeg) (nI a) = (fun x9 : Int32 => sg (2 * x9).toNatClampNeg) (nI a) := fun a ha => by
      show sf (nI a).toNatClampNeg = sg (2 * nI a).toNatClampNeg
      rw [nI_clamp (by omega), show (2 : Int32) = nI 2 from rfl, pk_mul, nI_clamp (by omega)]
      exact (hs a (by rw [es]; exact nI_lt ha (by omega)) (by omega)).1
    have S2 : ∀ a : Nat, a < s → (fun x9 : Int32 => sm x9.toNatClampNeg) (nI a) = (fun x9 : Int32 => sg ((2 * x9) + 1).toNatClampNeg) (nI a) := fun a ha => by
      show sm (nI a).toNatClampNeg = sg ((2 * nI a) + 1).toNatClampNeg
      rw [nI_clamp (by omega), show (2 : Int32) = nI 2 from rfl, pk_mul, nI_1, nI_clamp (by omega)]
      exact (hs a (by rw [es]; exact nI_lt ha (by omega)) (by omega)).2
    rw [ek]
    refine kAl_cg (s := s) (fun f hf => ?_) S1 S2 s 0 (by omega)
    obtain ⟨P0, P1, P2, P3⟩ := kIt_P (ft := ft) hf
    obtain ⟨U0, U1, U2, U3⟩ := kP_u (ft := ft) (f := f) (f1 := f1) (x := x) ⟨hf.1, Int32.le_trans (Int32.le_of_lt hf.2) hfn.2⟩ ⟨c.1, Int32.le_trans (Int32.le_of_lt c.2) hfn.2⟩
    show kOC f4 f7 f2 n4 n7 n2 le (kIt fn ft f 0) (kIt fn ft f 1) (kIt fn ft f 2) (if f = f1 then x else (kIt fn ft f 3)) (if (kIt fn ft f 0) = (-1 : Int32) then (-1 : Int32) else (kAt 39 f7 ((5 * (kIt fn ft f 0)) + 1))) = kOR qMi qPs qGs mi pn gn le (kP0 (upd ft ((4 * f1) + 3).toNatClampNeg x) f) (kP1 (upd ft ((4 * f1) + 3).toNatClampNeg x) f) (kP2 (upd ft ((4 * f1) + 3).toNatClampNeg x) f) (kP1 qPs (kP0 (upd ft ((4 * f1) + 3).toNatClampNeg x) f)) (fun x8 => if x8 < (24 : Int32) then (kP3 (upd ft ((4 * f1) + 3).toNatClampNeg x) f) else (0 : Int32))
    rw [P0, P1, P2, P3, U0, U1, U2, U3]
    exact kRel_o R (fun hp => (if_neg (show ¬ kP0 ft f = -1 from fun z => absurd (z ▸ hp.1) (by decide))).trans (kRel_s R hp)) k_h24
  rw [E]

