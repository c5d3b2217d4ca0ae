theorem e_pair {q f4 f7 f2 by4 qMi qPs qGs ft : Nat → Int32} {n4 n7 n2 mi pn gn fn f1 w1 le : Int32} (R : kRel q f4 f7 f2 by4 qMi qPs qGs n4 n7 n2 mi pn gn) (hg : 0 ≤ gn ∧ gn ≤ 8) :
    (if (0 ≤ f1 ∧ f1 < fn) ∧ 0 ≤ w1 ∧ w1 ≤ 1 then (if w1 = 0 then (kPo (fun x1 x2 => kOC f4 f7 f2 n4 n7 n2 le (kIt fn ft f1 0) x1 x2 (kIt fn ft f1 3) (kAt 39 f7 ((5 * (kIt fn ft f1 0)) + 1))) n2 (kfu n2 0) 0 (-1) (-1)).2 else (kPo (fun x1 x2 => kOC f4 f7 f2 n4 n7 n2 le (kIt fn ft f1 0) x1 x2 (kIt fn ft f1 3) (kAt 39 f7 ((5 * (kIt fn ft f1 0)) + 1))) n2 (kfu n2 0) 0 (-1) (-1)).1) else -2)
    = (if (0 ≤ f1 ∧ f1 < fn) ∧ 0 ≤ w1 ∧ w1 ≤ 1 then (if w1 = 0 then (kPq (fun x1 x2 => kOR qMi qPs qGs mi pn gn le (kP0 ft f1) x1 x2 (kP1 qPs (kP0 ft f1)) (fun x8 => if x8 < (24 : Int32) then (kP3 ft f1) else (0 : Int32))) gn (kfu 64 0) 0 (-1) (-1)).2 else (kPq (fun x1 x2 => kOR qMi qPs qGs mi pn gn le (kP0 ft f1) x1 x2 (kP1 qPs (kP0 ft f1)) (fun x8 => if x8 < (24 : Int32) then (kP3 ft f1) else (0 : Int32))) gn (kfu 64 0) 0 (-1) (-1)).1) else -2) := by
  refine k_ifc Iff.rfl (fun c => ?_) (fun _ => rfl)
  obtain ⟨P0, P1, P2, P3⟩ := kIt_P (ft := ft) c.1
  obtain ⟨N4, N7, N2⟩ := kRel_n R
  obtain ⟨n, hn, en⟩ := nI_of2 (n := 8) (M := 8) (by decide) (Int32.not_lt.mpr hg.1) hg.2
  have H : ∀ a b : Nat, a < n → b < n → (fun x1 x2 => kOC f4 f7 f2 n4 n7 n2 le (kIt fn ft f1 0) x1 x2 (kIt fn ft f1 3) (kAt 39 f7 ((5 * (kIt fn ft f1 0)) + 1))) (nI a) (nI b) = (fun x1 x2 => kOR qMi qPs qGs mi pn gn le (kP0 ft f1) x1 x2 (kP1 qPs (kP0 ft f1)) (fun x8 => if x8 < (24 : Int32) then (kP3 ft f1) else (0 : Int32))) (nI a) (nI b) := fun a b _ _ => by
    show kOC f4 f7 f2 n4 n7 n2 le (kIt fn ft f1 0) (nI a) (nI b) (kIt fn ft f1 3) (kAt 39 f7 ((5 * (kIt fn ft f1 0)) + 1)) = kOR qMi qPs qGs mi pn gn le (kP0 ft f1) (nI a) (nI b) (kP1 qPs (kP0 ft f1)) (fun x8 => if x8 < (24 : Int32) then (kP3 ft f1) else (0 : Int32))
    rw [P0, P3]
    exact kRel_o R (fun hp => kRel_s R hp) k_h24
  have e1 : kfu n2 0 = n := by rw [N2, en, show (0 : Int32) = nI 0 from rfl, kfu_nat (by decide) (by omega), Nat.sub_zero]
  have e2 : kfu 64 0 = 64 := by decide +kernel
  have K := kP_all (O := (fun x1 x2 => kOC f4 f7 f2 n4 n7 n2 le (kIt fn ft f1 0) x1 x2 (kIt fn ft f1 3) (kAt 39 f7 ((5 * (kIt fn ft f1 0)) + 1)))) (O' := (fun x1 x2 => kOR qMi qPs qGs mi pn gn le (kP0 ft f1) x1 x2 (kP1 qPs (kP0 ft f1)) (fun x8 => if x8 < (24 : Int32) then (kP3 ft f1) else (0 : Int32)))) hn H 8 0 (-1) (-1) (by omega)
  rw [← en] at K
  have E : (kPo (fun x1 x2 => kOC f4 f7 f2 n4 n7 n2 le (kIt fn ft f1 0) x1 x2 (kIt fn ft f1 3) (kAt 39 f7 ((5 * (kIt fn ft f1 0)) + 1))) n2 (kfu n2 0) 0 (-1) (-1)) = (kPq (fun x1 x2 => kOR qMi qPs qGs mi pn gn le (kP0 ft f1) x1 x2 (kP1 qPs (kP0 ft f1)) (fun x8 => if x8 < (24 : Int32) then (kP3 ft f1) else (0 : Int32))) gn (kfu 64 0) 0 (-1) (-1)) := by
    rw [e1, e2]
    refine Eq.trans ?_ K.symm
    exact congrArg (fun z => kPo (fun x1 x2 => kOC f4 f7 f2 n4 n7 n2 le (kIt fn ft f1 0) x1 x2 (kIt fn ft f1 3) (kAt 39 f7 ((5 * (kIt fn ft f1 0)) + 1))) z n 0 (-1) (-1)) N2
  rw [E]

