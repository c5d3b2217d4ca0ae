theorem kOH_cg {q f4 f7 f2 by4 qMi qPs qGs : Nat → Int32} {n4 n7 n2 mi pn gn le p l r so so' : Int32} {hf hf' : Int32 → Int32} (R : kRel q f4 f7 f2 by4 qMi qPs qGs n4 n7 n2 mi pn gn) (hs : (0 ≤ p ∧ p < pn) → so = so') (hh : ∀ i : Nat, i < 24 → hf (nI i) = hf' (nI i)) : kOH f4 f7 f2 n4 n7 n2 le p l r so hf = kOR qMi qPs qGs mi pn gn le p l r so' hf' := by
  obtain ⟨N4, N7, N2⟩ := kRel_n R
  have hn4 := kRel_4 R
  obtain ⟨⟨t0, t1, t2⟩, ⟨m4, m7, m2⟩, ⟨e4, e7, e2⟩, _, ⟨r1, r2, r3⟩, r4, r5, r6⟩ := R
  unfold kOH kOR kO
  rw [N7, N2]
  by_cases hC : (0 ≤ p ∧ p < pn) ∧ (0 ≤ l ∧ l < gn) ∧ 0 ≤ r ∧ r < gn
  · rw [if_pos hC, if_pos hC]
    obtain ⟨n, hn, en⟩ := k_nat (x := mi) (by rw [← N4]; exact hn4.1)
    have hn24 : n ≤ 24 := by have := hn4.2; rw [N4, en] at this; exact (nI_leI hn (by decide)).mp this
    have hov := v_m t0 m4 r1 r4 en hn
    have K0 : kAt 39 f7 ((5 * p) + 0) = kP0 qPs p := (v_p (w := 0) t1 m7 r2 r5 hC.1 (by decide)).trans (by unfold kP0; rw [show (nI 0 : Int32) = 0 from rfl, Int32.add_zero])
    have K2 : kAt 39 f7 ((5 * p) + 2) = kP2 qPs p := v_p (w := 2) t1 m7 r2 r5 hC.1 (by decide)
    have K3 : kAt 39 f7 ((5 * p) + 3) = kP3 qPs p := v_p (w := 3) t1 m7 r2 r5 hC.1 (by decide)
    have L0 : kAt 23 f2 ((3 * l) + 0) = kG0 qGs l := (v_g (w := 0) t2 m2 r3 r6 hC.2.1 (by decide)).trans (by unfold kG0; rw [show (nI 0 : Int32) = 0 from rfl, Int32.add_zero])
    have L1 : kAt 23 f2 ((3 * l) + 1) = kG1 qGs l := v_g (w := 1) t2 m2 r3 r6 hC.2.1 (by decide)
    have M0 : kAt 23 f2 ((3 * r) + 0) = kG0 qGs r := (v_g (w := 0) t2 m2 r3 r6 hC.2.2 (by decide)).trans (by unfold kG0; rw [show (nI 0 : Int32) = 0 from rfl, Int32.add_zero])
    have M1 : kAt 23 f2 ((3 * r) + 1) = kG1 qGs r := v_g (w := 1) t2 m2 r3 r6 hC.2.2 (by decide)
    rw [K0, K2, K3, L0, L1, M0, M1, N4, hs hC.1, en]
    unfold kGG
    rw [show (0 : Int32) = nI 0 from rfl, kfu_nat (by decide) hn]
    rw [kCt_cg (ov := kAt 24 f4) (ov' := kM qMi) hn hov _ 0 _ (by omega)]
    exact kGo_cg (n := n) hn hov (fun i hi => hh i (by omega)) _ 0 _ _ _ (by omega)
  · rw [if_neg hC, if_neg hC]
theorem e_climb {q f4 f7 f2 by4 qMi qPs qGs ft : Nat → Int32} {n4 n7 n2 mi pn gn fn f1 i1 le : Int32} (R : kRel q f4 f7 f2 by4 qMi qPs qGs n4 n7 n2 mi pn gn) :
    (if (0 ≤ f1 ∧ f1 < fn) ∧ (-1) ≤ i1 ∧ i1 ≤ 2 then (if i1 = 0 then (kV (fun x1 => (kOH f4 f7 f2 n4 n7 n2 le (kIt fn ft f1 0) (kIt fn ft f1 1) (kIt fn ft f1 2) (kAt 39 f7 ((5 * (kIt fn ft f1 0)) + 1)) (kHc x1)).1) 1 1 1 (-1, 1, 1, 1)).2.1 else if i1 = 1 then (kV (fun x1 => (kOH f4 f7 f2 n4 n7 n2 le (kIt fn ft f1 0) (kIt fn ft f1 1) (kIt fn ft f1 2) (kAt 39 f7 ((5 * (kIt fn ft f1 0)) + 1)) (kHc x1)).1) 1 1 1 (-1, 1, 1, 1)).2.2.1 else if i1 = 2 then (kV (fun x1 => (kOH f4 f7 f2 n4 n7 n2 le (kIt fn ft f1 0) (kIt fn ft f1 1) (kIt fn ft f1 2) (kAt 39 f7 ((5 * (kIt fn ft f1 0)) + 1)) (kHc x1)).1) 1 1 1 (-1, 1, 1, 1)).2.2.2 else (kV (fun x1 => (kOH f4 f7 f2 n4 n7 n2 le (kIt fn ft f1 0) (kIt fn ft f1 1) (kIt fn ft f1 2) (kAt 39 f7 ((5 * (kIt fn ft f1 0)) + 1)) (kHc x1)).1) 1 1 1 (-1, 1, 1, 1)).1) else -2)
    = (if (0 ≤ f1 ∧ f1 < fn) ∧ (-1) ≤ i1 ∧ i1 ≤ 2 then (if i1 = -1 then (kCz (fun x1 => (kOR qMi qPs qGs mi pn gn le (kP0 ft f1) (kP1 ft f1) (kP2 ft f1) (kP1 qPs (kP0 ft f1)) (kHc x1)).1) (kfu 1863 0) 0 (-1) 0).1 else if i1 = 0 then (kCz (fun x1 => (kOR qMi qPs qGs mi pn gn le (kP0 ft f1) (kP1 ft f1) (kP2 ft f1) (kP1 qPs (kP0 ft f1)) (kHc x1)).1) (kfu 1863 0) 0 (-1) 0).2 / 207 + 1 else if i1 = 1 then (((kCz (fun x1 => (kOR qMi qPs qGs mi pn gn le (kP0 ft f1) (kP1 ft f1) (kP2 ft f1) (kP1 qPs (kP0 ft f1)) (kHc x1)).1) (kfu 1863 0) 0 (-1) 0).2 / 9) - ((kCz (fun x1 => (kOR qMi qPs qGs mi pn gn le (kP0 ft f1) (kP1 ft f1) (kP2 ft f1) (kP1 qPs (kP0 ft f1)) (kHc x1)).1) (kfu 1863 0) 0 (-1) 0).2 / 9) / 23 * 23) + 1 else ((kCz (fun x1 => (kOR qMi qPs qGs mi pn gn le (kP0 ft f1) (kP1 ft f1) (kP2 ft f1) (kP1 qPs (kP0 ft f1)) (kHc x1)).1) (kfu 1863 0) 0 (-1) 0).2 - (kCz (fun x1 => (kOR qMi qPs qGs mi pn gn le (kP0 ft f1) (kP1 ft f1) (kP2 ft f1) (kP1 qPs (kP0 ft f1)) (kHc x1)).1) (kfu 1863 0) 0 (-1) 0).2 / 9 * 9) + 1) else -2) := by
  refine k_ifc Iff.rfl (fun c => ?_) (fun _ => rfl)
  obtain ⟨P0, P1, P2, P3⟩ := kIt_P (ft := ft) c.1
  rw [P0, P1, P2]
  have H : ∀ j : Nat, 0 ≤ j → j < 0 + 1863 → (fun x1 => (kOH f4 f7 f2 n4 n7 n2 le (kP0 ft f1) (kP1 ft f1) (kP2 ft f1) (kAt 39 f7 ((5 * (kP0 ft f1)) + 1)) (kHc x1)).1) (nI j) = (fun x1 => (kOR qMi qPs qGs mi pn gn le (kP0 ft f1) (kP1 ft f1) (kP2 ft f1) (kP1 qPs (kP0 ft f1)) (kHc x1)).1) (nI j) := fun j _ _ => by
    show (kOH f4 f7 f2 n4 n7 n2 le (kP0 ft f1) (kP1 ft f1) (kP2 ft f1) (kAt 39 f7 ((5 * (kP0 ft f1)) + 1)) (kHc (nI j))).1 = (kOR qMi qPs qGs mi pn gn le (kP0 ft f1) (kP1 ft f1) (kP2 ft f1) (kP1 qPs (kP0 ft f1)) (kHc (nI j))).1
    rw [kOH_cg R (fun hp => kRel_s R hp) (fun _ _ => rfl)]
  have K := kC_eq (Fx := fun x1 => (kOH f4 f7 f2 n4 n7 n2 le (kP0 ft f1) (kP1 ft f1) (kP2 ft f1) (kAt 39 f7 ((5 * (kP0 ft f1)) + 1)) (kHc x1)).1) (Fy := fun x1 => (kOR qMi qPs qGs mi pn gn le (kP0 ft f1) (kP1 ft f1) (kP2 ft f1) (kP1 qPs (kP0 ft f1)) (kHc x1)).1) 1863 0 (-1) 0 H
  have V : kV (fun x1 => (kOH f4 f7 f2 n4 n7 n2 le (kP0 ft f1) (kP1 ft f1) (kP2 ft f1) (kAt 39 f7 ((5 * (kP0 ft f1)) + 1)) (kHc x1)).1) 1 1 1 (-1, 1, 1, 1) = kDq (kCz (fun x1 => (kOR qMi qPs qGs mi pn gn le (kP0 ft f1) (kP1 ft f1) (kP2 ft f1) (kP1 qPs (kP0 ft f1)) (kHc x1)).1) (kfu 1863 0) 0 (-1) 0).1 (kCz (fun x1 => (kOR qMi qPs qGs mi pn gn le (kP0 ft f1) (kP1 ft f1) (kP2 ft f1) (kP1 qPs (kP0 ft f1)) (kHc x1)).1) (kfu 1863 0) 0 (-1) 0).2 := by
    unfold kV
    rw [show kcd 1 1 1 = 0 from by decide +kernel, show kfu 1863 0 = 1863 from by decide +kernel, Nat.sub_zero, show ((-1, 1, 1, 1) : kR4) = kDq (-1) 0 from by decide +kernel]
    exact K
  rw [V]
  by_cases c0 : i1 = 0
  · rw [if_pos c0, if_neg (show ¬ i1 = -1 from fun z => absurd (c0.symm.trans z) (by decide)), if_pos c0]
    rfl
  · rw [if_neg c0]
    by_cases c1 : i1 = 1
    · rw [if_pos c1, if_neg (show ¬ i1 = -1 from fun z => absurd (c1.symm.trans z) (by decide)), if_neg c0, if_pos c1]
      rfl
    · rw [if_neg c1]
      by_cases c2 : i1 = 2
      · rw [if_pos c2, if_neg (show ¬ i1 = -1 from fun z => absurd (c2.symm.trans z) (by decide)), if_neg c0, if_neg c1]
        rfl
      · have cm : i1 = -1 := by
          have h1 := Int32.le_iff_toInt_le.mp c.2.1
          have h2 := Int32.le_iff_toInt_le.mp c.2.2
          have g0 : ¬ i1.toInt = (0 : Int32).toInt := fun z => c0 (Int32.toInt_inj.mp z)
          have g1 : ¬ i1.toInt = (1 : Int32).toInt := fun z => c1 (Int32.toInt_inj.mp z)
          have g2 : ¬ i1.toInt = (2 : Int32).toInt := fun z => c2 (Int32.toInt_inj.mp z)
          rw [show (0 : Int32).toInt = 0 from rfl] at g0
          rw [show (1 : Int32).toInt = 1 from rfl] at g1
          rw [show (2 : Int32).toInt = 2 from rfl] at g2 h2
          rw [show (-1 : Int32).toInt = -1 from rfl] at h1
          exact Int32.toInt_inj.mp (by rw [show (-1 : Int32).toInt = -1 from rfl]; omega)
        rw [if_neg c2, if_pos cm]
        rfl

