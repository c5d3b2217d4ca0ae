theorem e_beh {q f4 f7 f2 by4 qMi qPs qGs ft : Nat → Int32} {n4 n7 n2 mi pn gn fn f1 m1 w1 le : Int32} (R : kRel q f4 f7 f2 by4 qMi qPs qGs n4 n7 n2 mi pn gn) :
    (if (0 ≤ f1 ∧ f1 < fn) ∧ (0 ≤ m1 ∧ m1 < n4) ∧ 0 ≤ w1 ∧ w1 ≤ 3 then kBC f4 f7 f2 n4 n7 n2 le (kIt fn ft f1 0) (kIt fn ft f1 1) (kIt fn ft f1 2) (kIt fn ft f1 3) (kAt 39 f7 ((5 * (kIt fn ft f1 0)) + 1)) m1 w1 else -2)
    = (if (0 ≤ f1 ∧ f1 < fn) ∧ (0 ≤ m1 ∧ m1 < mi) ∧ 0 ≤ w1 ∧ w1 ≤ 3 then kBR qMi qPs qGs mi pn gn le (kP0 ft f1) (kP1 ft f1) (kP2 ft f1) (kP1 qPs (kP0 ft f1)) (fun x8 => if x8 < (24 : Int32) then (kP3 ft f1) else (0 : Int32)) m1 w1 else -2) := by
  obtain ⟨N4, N7, N2⟩ := kRel_n R
  refine k_ifc (by rw [N4]) (fun c => ?_) (fun _ => rfl)
  obtain ⟨P0, P1, P2, P3⟩ := kIt_P (ft := ft) c.1
  rw [P0, P1, P2, P3]
  have hn4 := kRel_4 R
  obtain ⟨⟨t0, t1, t2⟩, ⟨m4, m7, m2⟩, ⟨e4, e7, e2⟩, _, ⟨r1, r2, r3⟩, r4, r5, r6⟩ := R
  unfold kBC kBR kBh
  rw [N7, N2]
  by_cases hC : (0 ≤ kP0 ft f1 ∧ kP0 ft f1 < pn) ∧ (0 ≤ kP1 ft f1 ∧ kP1 ft f1 < gn) ∧ 0 ≤ kP2 ft f1 ∧ kP2 ft f1 < gn
  · rw [if_pos hC, if_pos hC]
    obtain ⟨n, hn, en⟩ := k_nat (x := mi) (by rw [← N4]; exact hn4.1)
    have hn24 : n ≤ 24 := by have := hn4.2; rw [N4, en] at this; exact (nI_leI hn (by decide)).mp this
    have hov := v_m t0 m4 r1 r4 en hn
    have K0 : kAt 39 f7 ((5 * (kP0 ft f1)) + 0) = kP0 qPs (kP0 ft f1) := (v_p (w := 0) t1 m7 r2 r5 hC.1 (by decide)).trans (by unfold kP0; rw [show (nI 0 : Int32) = 0 from rfl, Int32.add_zero])
    have K1 : kAt 39 f7 ((5 * (kP0 ft f1)) + 1) = kP1 qPs (kP0 ft f1) := v_p (w := 1) t1 m7 r2 r5 hC.1 (by decide)
    have K2 : kAt 39 f7 ((5 * (kP0 ft f1)) + 2) = kP2 qPs (kP0 ft f1) := v_p (w := 2) t1 m7 r2 r5 hC.1 (by decide)
    have K3 : kAt 39 f7 ((5 * (kP0 ft f1)) + 3) = kP3 qPs (kP0 ft f1) := v_p (w := 3) t1 m7 r2 r5 hC.1 (by decide)
    have L0 : kAt 23 f2 ((3 * (kP1 ft f1)) + 0) = kG0 qGs (kP1 ft f1) := (v_g (w := 0) t2 m2 r3 r6 hC.2.1 (by decide)).trans (by unfold kG0; rw [show (nI 0 : Int32) = 0 from rfl, Int32.add_zero])
    have L1 : kAt 23 f2 ((3 * (kP1 ft f1)) + 1) = kG1 qGs (kP1 ft f1) := v_g (w := 1) t2 m2 r3 r6 hC.2.1 (by decide)
    have M0 : kAt 23 f2 ((3 * (kP2 ft f1)) + 0) = kG0 qGs (kP2 ft f1) := (v_g (w := 0) t2 m2 r3 r6 hC.2.2 (by decide)).trans (by unfold kG0; rw [show (nI 0 : Int32) = 0 from rfl, Int32.add_zero])
    have M1 : kAt 23 f2 ((3 * (kP2 ft f1)) + 1) = kG1 qGs (kP2 ft f1) := v_g (w := 1) t2 m2 r3 r6 hC.2.2 (by decide)
    obtain ⟨b, hb, eb⟩ := k_nat c.2.1.1
    have hbn : b < n := by have := c.2.1.2; rw [N4, en, eb] at this; exact (nI_ltI hb hn).mp this
    rw [K0, K1, K2, K3, L0, L1, M0, M1, N4]
    have hCT : ∀ P : kGT × kGT, kCt (kAt 24 f4) (kP3 qPs (kP0 ft f1)) (kfu mi 0) 0 P = kCt (kM qMi) (kP3 qPs (kP0 ft f1)) (kfu mi 0) 0 P := fun P => by
      rw [en, show (0 : Int32) = nI 0 from rfl, kfu_nat (by decide) hn]
      exact kCt_cg hn hov _ 0 _ (by omega)
    have hG : ∀ (ct k : Int32) (j : Nat), k = nI j → j ≤ n → kGG (kAt 24 f4) ct le (kP0 qPs (kP0 ft f1)) (kP1 qPs (kP0 ft f1)) (5 * kP2 qPs (kP0 ft f1)) (fun _ => kP3 ft f1) k = kGG (kM qMi) ct le (kP0 qPs (kP0 ft f1)) (kP1 qPs (kP0 ft f1)) (5 * kP2 qPs (kP0 ft f1)) (fun x8 => if x8 < (24 : Int32) then (kP3 ft f1) else (0 : Int32)) k := fun ct k j ek hj => by
      unfold kGG
      rw [ek, show (0 : Int32) = nI 0 from rfl, kfu_nat (by decide) (by omega)]
      refine kGo_cg (n := n) hn hov (fun i hi => ?_) _ 0 _ _ _ (by omega)
      show kP3 ft f1 = if nI i < (24 : Int32) then kP3 ft f1 else (nI 0 : Int32)
      rw [if_pos (by rw [show (24 : Int32) = nI 24 from rfl]; exact nI_lt (by omega) (by decide))]
    have hS : ∀ (ro : Int32) (P : kGT × kGT), kGz (kAt 24 f4) (kP3 qPs (kP0 ft f1)) ro (kfu (m1 + 1) 0) 0 P = kGz (kM qMi) (kP3 qPs (kP0 ft f1)) ro (kfu (m1 + 1) 0) 0 P := fun ro P => by
      rw [eb, nI_1, show (0 : Int32) = nI 0 from rfl, kfu_nat (by decide) (by omega)]
      exact kGz_cg hov _ 0 _ (by omega)
    rw [hCT, hG _ (m1 + 1) (b + 1) (by rw [eb, nI_1]) (by omega), hG _ mi n en (Nat.le_refl n), hS]
  · rw [if_neg hC, if_neg hC]

