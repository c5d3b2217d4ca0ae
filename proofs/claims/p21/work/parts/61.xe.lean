/-- a flight with another sore of a passenger -/
theorem e_osore {q f4 f7 f2 by4 qMi qPs qGs ft : Nat → Int32} {n4 n7 n2 mi pn gn le p1 f : Int32} (R : kRel q f4 f7 f2 by4 qMi qPs qGs n4 n7 n2 mi pn gn) (hpn : 0 ≤ pn ∧ pn ≤ 8) (c : 0 ≤ p1 ∧ p1 < pn) (x : Int32) : kOC f4 f7 f2 n4 n7 n2 le (kP0 ft f) (kP1 ft f) (kP2 ft f) (kP3 ft f) (if (kP0 ft f) = p1 then x else (kAt 39 f7 ((5 * (kP0 ft f)) + 1))) = kOR qMi (upd qPs ((4 * p1) + 1).toNatClampNeg x) qGs mi pn gn le (kP0 ft f) (kP1 ft f) (kP2 ft f) (kP1 (upd qPs ((4 * p1) + 1).toNatClampNeg x) (kP0 ft f)) (fun x8 => if x8 < (24 : Int32) then (kP3 ft f) else (0 : Int32)) := by
  obtain ⟨a, ha, ea, ia⟩ := k_ix4 (p := p1) (w := 1) ⟨c.1, Int32.le_trans (Int32.le_of_lt c.2) hpn.2⟩ (by decide)
  have ia' : ((4 * p1) + 1 : Int32).toNatClampNeg = 4 * a + 1 := ia
  refine kRel_o' R (fun w hw h1 hp => ?_) (fun hp => ?_) k_h24
  · obtain ⟨b, hb, eb, ib⟩ := k_ix4 (p := kP0 ft f) (w := w) ⟨hp.1, Int32.le_trans (Int32.le_of_lt hp.2) hpn.2⟩ hw
    rw [ia', ib, pk_un (by omega)]
  · obtain ⟨b, hb, eb, ib⟩ := k_ix4 (p := kP0 ft f) (w := 1) ⟨hp.1, Int32.le_trans (Int32.le_of_lt hp.2) hpn.2⟩ (by decide)
    have ib' : ((4 * (kP0 ft f)) + 1 : Int32).toNatClampNeg = 4 * b + 1 := ib
    by_cases e : kP0 ft f = p1
    · rw [if_pos e, e]
      unfold kP1
      rw [pk_us]
    · have hab : ¬ b = a := fun z => e (by rw [eb, ea, z])
      rw [if_neg e, kRel_s R hp]
      unfold kP1
      rw [ia', ib', pk_un (by omega)]
theorem e_test {q f4 f7 f2 by4 qMi qPs qGs ft sf sm sg : Nat → Int32} {n4 n7 n2 mi pn gn fn sn le p1 : Int32} (R : kRel q f4 f7 f2 by4 qMi qPs qGs n4 n7 n2 mi pn gn) (hs : k_sn sn sf sm sg) (hsn : 0 ≤ sn ∧ sn ≤ 8) (hpn : 0 ≤ pn ∧ pn ≤ 8) (c : 0 ≤ p1 ∧ p1 < pn) (x : Int32) : (kAl fn (fun x9 => kOC f4 f7 f2 n4 n7 n2 le (kIt fn ft x9 0) (kIt fn ft x9 1) (kIt fn ft x9 2) (if x9 = (-1 : Int32) then (-1 : Int32) else (kIt fn ft x9 3)) (if (kIt fn ft x9 0) = p1 then x else (kAt 39 f7 ((5 * (kIt fn ft x9 0)) + 1)))) (fun x9 => sf x9.toNatClampNeg) (fun x9 => sm x9.toNatClampNeg) (kfu sn 0) 0) = (kAl fn (fun x9 => kOR qMi (upd qPs ((4 * p1) + 1).toNatClampNeg x) qGs mi pn gn le (kP0 ft x9) (kP1 ft x9) (kP2 ft x9) (kP1 (upd qPs ((4 * p1) + 1).toNatClampNeg x) (kP0 ft x9)) (fun x8 => if x8 < (24 : Int32) then (kP3 ft x9) else (0 : Int32))) (fun x9 => sg (2 * x9).toNatClampNeg) (fun x9 => sg ((2 * x9) + 1).toNatClampNeg) (kfu sn 0) 0) := by
    obtain ⟨s, hs8, es⟩ := nI_of2 (n := 8) (M := 8) (by decide) (Int32.not_lt.mpr hsn.1) hsn.2
    have ek : kfu sn 0 = s := by rw [es, show (0 : Int32) = nI 0 from rfl, kfu_nat (by decide) (by omega), Nat.sub_zero]
    have S1 : ∀ a : Nat, a < s → (fun x9 : Int32 => sf x9.toNatClampNeg) (nI a) = (fun x9 : Int32 => sg (2 * x9).toNatClampNeg) (nI a) := fun a ha => by
      show sf (nI a).toNatClampNeg = sg (2 * nI a).toNatClampNeg
      rw [nI_clamp (by omega), show (2 : Int32) = nI 2 from rfl, pk_mul, nI_clamp (by omega)]
      exact (hs a (by rw [es]; exact nI_lt ha (by omega)) (by omega)).1
    have S2 : ∀ a : Nat, a < s → (fun x9 : Int32 => sm x9.toNatClampNeg) (nI a) = (fun x9 : Int32 => sg ((2 * x9) + 1).toNatClampNeg) (nI a) := fun a ha => by
      show sm (nI a).toNatClampNeg = sg ((2 * nI a) + 1).toNatClampNeg
      rw [nI_clamp (by omega), show (2 : Int32) = nI 2 from rfl, pk_mul, nI_1, nI_clamp (by omega)]
      exact (hs a (by rw [es]; exact nI_lt ha (by omega)) (by omega)).2
    rw [ek]
    refine kAl_cg (s := s) (fun f hf => ?_) S1 S2 s 0 (by omega)
    obtain ⟨P0, P1, P2, P3⟩ := kIt_P (ft := ft) hf
    show kOC f4 f7 f2 n4 n7 n2 le (kIt fn ft f 0) (kIt fn ft f 1) (kIt fn ft f 2) (if f = (-1 : Int32) then (-1 : Int32) else (kIt fn ft f 3)) (if (kIt fn ft f 0) = p1 then x else (kAt 39 f7 ((5 * (kIt fn ft f 0)) + 1))) = kOR qMi (upd qPs ((4 * p1) + 1).toNatClampNeg x) qGs mi pn gn le (kP0 ft f) (kP1 ft f) (kP2 ft f) (kP1 (upd qPs ((4 * p1) + 1).toNatClampNeg x) (kP0 ft f)) (fun x8 => if x8 < (24 : Int32) then (kP3 ft f) else (0 : Int32))
    rw [P0, P1, P2, P3, if_neg (show ¬ f = -1 from fun z => absurd (z ▸ hf.1) (by decide))]
    exact e_osore R hpn c x
theorem e_sores {q f4 f7 f2 by4 qMi qPs qGs ft sf sm sg : Nat → Int32} {n4 n7 n2 mi pn gn fn sn le p1 : Int32} (R : kRel q f4 f7 f2 by4 qMi qPs qGs n4 n7 n2 mi pn gn) (hs : k_sn sn sf sm sg) (hsn : 0 ≤ sn ∧ sn ≤ 8) (hpn : 0 ≤ pn ∧ pn ≤ 8) : (if 0 ≤ p1 ∧ p1 < n7 then (kSo (fun x1 => (kAl fn (fun x9 => kOC f4 f7 f2 n4 n7 n2 le (kIt fn ft x9 0) (kIt fn ft x9 1) (kIt fn ft x9 2) (if x9 = (-1 : Int32) then (-1 : Int32) else (kIt fn ft x9 3)) (if (kIt fn ft x9 0) = p1 then x1 else (kAt 39 f7 ((5 * (kIt fn ft x9 0)) + 1)))) (fun x9 => sf x9.toNatClampNeg) (fun x9 => sm x9.toNatClampNeg) (kfu sn 0) 0)) (kfu 6 0) 0 0) else -2) = (if 0 ≤ p1 ∧ p1 < pn then (kSo (fun x1 => (kAl fn (fun x9 => kOR qMi (upd qPs ((4 * p1) + 1).toNatClampNeg x1) qGs mi pn gn le (kP0 ft x9) (kP1 ft x9) (kP2 ft x9) (kP1 (upd qPs ((4 * p1) + 1).toNatClampNeg x1) (kP0 ft x9)) (fun x8 => if x8 < (24 : Int32) then (kP3 ft x9) else (0 : Int32))) (fun x9 => sg (2 * x9).toNatClampNeg) (fun x9 => sg ((2 * x9) + 1).toNatClampNeg) (kfu sn 0) 0)) (kfu 6 0) 0 0) else -2) := by
  obtain ⟨N4, N7, N2⟩ := kRel_n R
  refine k_ifc (by rw [N7]) (fun c => ?_) (fun _ => rfl)
  have E : (fun x1 => (kAl fn (fun x9 => kOC f4 f7 f2 n4 n7 n2 le (kIt fn ft x9 0) (kIt fn ft x9 1) (kIt fn ft x9 2) (if x9 = (-1 : Int32) then (-1 : Int32) else (kIt fn ft x9 3)) (if (kIt fn ft x9 0) = p1 then x1 else (kAt 39 f7 ((5 * (kIt fn ft x9 0)) + 1)))) (fun x9 => sf x9.toNatClampNeg) (fun x9 => sm x9.toNatClampNeg) (kfu sn 0) 0)) = (fun x1 => (kAl fn (fun x9 => kOR qMi (upd qPs ((4 * p1) + 1).toNatClampNeg x1) qGs mi pn gn le (kP0 ft x9) (kP1 ft x9) (kP2 ft x9) (kP1 (upd qPs ((4 * p1) + 1).toNatClampNeg x1) (kP0 ft x9)) (fun x8 => if x8 < (24 : Int32) then (kP3 ft x9) else (0 : Int32))) (fun x9 => sg (2 * x9).toNatClampNeg) (fun x9 => sg ((2 * x9) + 1).toNatClampNeg) (kfu sn 0) 0)) := funext fun x => e_test R hs hsn hpn (by rw [← N7]; exact c) x
  rw [E]

