/-! laughter: what both sides answer -/
theorem kLC_cg {D : Prop} [Decidable D] {ov ov' : Int32 → Int32} {w le ki so be h c : Int32} {P : kGT × kGT} {N : Nat} (hN : N ≤ 24) (e : ∀ j, j < N → ov (nI j) = ov' (nI j)) : kLC D ov (nI N) w P le ki so be h c = kLC D ov' (nI N) w P le ki so be h c := by
  have k0 : kfu (nI N) (0 : Int32) = N := (kfu_nat (a := 0) (b := N) (by decide) (by omega)).trans (Nat.sub_zero N)
  have ec : kCt ov w (kfu (nI N) 0) 0 P = kCt ov' w (kfu (nI N) 0) 0 P := by
    rw [k0]
    exact kCt_cg (n := N) (by omega) e N 0 P (by omega)
  unfold kLC
  rw [ec]
  generalize kCt ov' w (kfu (nI N) 0) 0 P = ct
  have ek : ∀ j, 0 ≤ j → j < 0 + N → kKd ov ct le ki so h j = kKd ov' ct le ki so h j := fun j _ hj => kKd_cg e j (by omega)
  have ew : kWt (kKd ov ct le ki so h) be.toNatClampNeg c.toNatClampNeg 1 N 0 0 = kWt (kKd ov' ct le ki so h) be.toNatClampNeg c.toNatClampNeg 1 N 0 0 := kWt_cg N 0 0 ek
  have en : kNo (fun j => decide (4 ≤ kKd ov ct le ki so h j)) N 0 = kNo (fun j => decide (4 ≤ kKd ov' ct le ki so h j)) N 0 := kNo_cg N 0 (fun j h1 h2 => congrArg (fun z : Nat => decide (4 ≤ z)) (ek j h1 h2))
  unfold kLC0
  rw [nI_clamp (n := N) (by omega), ew, en]
theorem kLC_E {q f4 f7 f2 by4 qMi qPs qGs : Nat → Int32} {n4 n7 n2 mi pn gn le p l r h cx : Int32} (R : kRel q f4 f7 f2 by4 qMi qPs qGs n4 n7 n2 mi pn gn) :
    kLC ((0 ≤ p ∧ p < n7) ∧ (0 ≤ l ∧ l < n2) ∧ 0 ≤ r ∧ r < n2) (kAt 24 f4) n4 (kAt 39 f7 ((5 * p) + 3)) ((kAt 23 f2 ((3 * l) + 0), kAt 23 f2 ((3 * l) + 1), kAt 23 f2 ((3 * l) + 0), 0), (kAt 23 f2 ((3 * r) + 0), kAt 23 f2 ((3 * r) + 1), kAt 23 f2 ((3 * r) + 0), 0)) le (kAt 39 f7 ((5 * p) + 0)) (kAt 39 f7 ((5 * p) + 1)) (5 * (kAt 39 f7 ((5 * p) + 2))) h cx
    = kLR ((0 ≤ p ∧ p < pn) ∧ (0 ≤ l ∧ l < gn) ∧ 0 ≤ r ∧ r < gn) (kM qMi) mi (kP3 qPs p) ((kG0 qGs l, kG1 qGs l, kG0 qGs l, 0), (kG0 qGs r, kG1 qGs r, kG0 qGs r, 0)) le (kP0 qPs p) (kP1 qPs p) (5 * (kP2 qPs p)) h cx := by
  obtain ⟨N4, N7, N2⟩ := kRel_n R
  have h4 := kRel_4 R
  obtain ⟨N, hN, en⟩ := nI_of2 (n := 24) (M := 24) (by decide) (Int32.not_lt.mpr h4.1) h4.2
  have em : mi = nI N := N4.symm.trans en
  rw [← kLC_R (by rw [← N4]; exact h4), N7, N2]
  by_cases hC : (0 ≤ p ∧ p < pn) ∧ (0 ≤ l ∧ l < gn) ∧ 0 ≤ r ∧ r < gn
  · have K0 : kAt 39 f7 ((5 * p) + 0) = kP0 qPs p := (kRel_p R (w := 0) (by decide) hC.1).trans (by unfold kP0; rw [show (nI 0 : Int32) = 0 from rfl, Int32.add_zero])
    have K1 : kAt 39 f7 ((5 * p) + 1) = kP1 qPs p := kRel_p R (w := 1) (by decide) hC.1
    have K2 : kAt 39 f7 ((5 * p) + 2) = kP2 qPs p := kRel_p R (w := 2) (by decide) hC.1
    have K3 : kAt 39 f7 ((5 * p) + 3) = kP3 qPs p := kRel_p R (w := 3) (by decide) hC.1
    obtain ⟨⟨t0, t1, t2⟩, ⟨m4, m7, m2⟩, ⟨e4, e7, e2⟩, hn4, ⟨r1, r2, r3⟩, r4, r5, r6⟩ := R
    have L0 : kAt 23 f2 ((3 * l) + 0) = kG0 qGs l := (v_g (w := 0) t2 m2 r3 r6 hC.2.1 (by decide)).trans (by unfold kG0; rw [show (nI 0 : Int32) = 0 from rfl, Int32.add_zero])
    have L1 : kAt 23 f2 ((3 * l) + 1) = kG1 qGs l := v_g (w := 1) t2 m2 r3 r6 hC.2.1 (by decide)
    have M0 : kAt 23 f2 ((3 * r) + 0) = kG0 qGs r := (v_g (w := 0) t2 m2 r3 r6 hC.2.2 (by decide)).trans (by unfold kG0; rw [show (nI 0 : Int32) = 0 from rfl, Int32.add_zero])
    have M1 : kAt 23 f2 ((3 * r) + 1) = kG1 qGs r := v_g (w := 1) t2 m2 r3 r6 hC.2.2 (by decide)
    have hov := v_m t0 m4 r1 r4 em (by omega)
    rw [K0, K1, K2, K3, L0, L1, M0, M1, N4, em]
    exact kLC_cg hN hov
  · unfold kLC
    rw [if_neg hC, if_neg hC]
theorem e_laugh {q f4 f7 f2 by4 qMi qPs qGs ft : Nat → Int32} {n4 n7 n2 mi pn gn fn f1 w1 le cx : Int32} (R : kRel q f4 f7 f2 by4 qMi qPs qGs n4 n7 n2 mi pn gn) :
    (if ((0 ≤ cx ∧ cx ≤ 16) ∧ (0 ≤ f1 ∧ f1 < fn) ∧ 0 ≤ w1 ∧ w1 ≤ 1) ∧ kTw (kAt 24 f4) n4.toNatClampNeg ≤ 10 then (if w1 = 0 then (kLC ((0 ≤ (kIt fn ft f1 0) ∧ (kIt fn ft f1 0) < n7) ∧ (0 ≤ (kIt fn ft f1 1) ∧ (kIt fn ft f1 1) < n2) ∧ 0 ≤ (kIt fn ft f1 2) ∧ (kIt fn ft f1 2) < n2) (kAt 24 f4) n4 (kAt 39 f7 ((5 * (kIt fn ft f1 0)) + 3)) ((kAt 23 f2 ((3 * (kIt fn ft f1 1)) + 0), kAt 23 f2 ((3 * (kIt fn ft f1 1)) + 1), kAt 23 f2 ((3 * (kIt fn ft f1 1)) + 0), 0), (kAt 23 f2 ((3 * (kIt fn ft f1 2)) + 0), kAt 23 f2 ((3 * (kIt fn ft f1 2)) + 1), kAt 23 f2 ((3 * (kIt fn ft f1 2)) + 0), 0)) le (kAt 39 f7 ((5 * (kIt fn ft f1 0)) + 0)) (kAt 39 f7 ((5 * (kIt fn ft f1 0)) + 1)) (5 * (kAt 39 f7 ((5 * (kIt fn ft f1 0)) + 2))) (kIt fn ft f1 3) cx).1 else (kLC ((0 ≤ (kIt fn ft f1 0) ∧ (kIt fn ft f1 0) < n7) ∧ (0 ≤ (kIt fn ft f1 1) ∧ (kIt fn ft f1 1) < n2) ∧ 0 ≤ (kIt fn ft f1 2) ∧ (kIt fn ft f1 2) < n2) (kAt 24 f4) n4 (kAt 39 f7 ((5 * (kIt fn ft f1 0)) + 3)) ((kAt 23 f2 ((3 * (kIt fn ft f1 1)) + 0), kAt 23 f2 ((3 * (kIt fn ft f1 1)) + 1), kAt 23 f2 ((3 * (kIt fn ft f1 1)) + 0), 0), (kAt 23 f2 ((3 * (kIt fn ft f1 2)) + 0), kAt 23 f2 ((3 * (kIt fn ft f1 2)) + 1), kAt 23 f2 ((3 * (kIt fn ft f1 2)) + 0), 0)) le (kAt 39 f7 ((5 * (kIt fn ft f1 0)) + 0)) (kAt 39 f7 ((5 * (kIt fn ft f1 0)) + 1)) (5 * (kAt 39 f7 ((5 * (kIt fn ft f1 0)) + 2))) (kIt fn ft f1 3) cx).2) else (-9223372036854775806 : Int64))
    = (if ((0 ≤ cx ∧ cx ≤ 16) ∧ (0 ≤ f1 ∧ f1 < fn) ∧ 0 ≤ w1 ∧ w1 ≤ 1) ∧ kTw (kM qMi) mi.toNatClampNeg ≤ 10 then (if w1 = 0 then (kLR ((0 ≤ (kP0 ft f1) ∧ (kP0 ft f1) < pn) ∧ (0 ≤ (kP1 ft f1) ∧ (kP1 ft f1) < gn) ∧ 0 ≤ (kP2 ft f1) ∧ (kP2 ft f1) < gn) (kM qMi) mi (kP3 qPs (kP0 ft f1)) ((kG0 qGs (kP1 ft f1), kG1 qGs (kP1 ft f1), kG0 qGs (kP1 ft f1), 0), (kG0 qGs (kP2 ft f1), kG1 qGs (kP2 ft f1), kG0 qGs (kP2 ft f1), 0)) le (kP0 qPs (kP0 ft f1)) (kP1 qPs (kP0 ft f1)) (5 * (kP2 qPs (kP0 ft f1))) (kP3 ft f1) cx).1 else (kLR ((0 ≤ (kP0 ft f1) ∧ (kP0 ft f1) < pn) ∧ (0 ≤ (kP1 ft f1) ∧ (kP1 ft f1) < gn) ∧ 0 ≤ (kP2 ft f1) ∧ (kP2 ft f1) < gn) (kM qMi) mi (kP3 qPs (kP0 ft f1)) ((kG0 qGs (kP1 ft f1), kG1 qGs (kP1 ft f1), kG0 qGs (kP1 ft f1), 0), (kG0 qGs (kP2 ft f1), kG1 qGs (kP2 ft f1), kG0 qGs (kP2 ft f1), 0)) le (kP0 qPs (kP0 ft f1)) (kP1 qPs (kP0 ft f1)) (5 * (kP2 qPs (kP0 ft f1))) (kP3 ft f1) cx).2) else (-9223372036854775806 : Int64)) := by
  obtain ⟨N4, N7, N2⟩ := kRel_n R
  have h4 := kRel_4 R
  obtain ⟨N, hN, en⟩ := nI_of2 (n := 24) (M := 24) (by decide) (Int32.not_lt.mpr h4.1) h4.2
  have em : mi = nI N := N4.symm.trans en
  have et : kTw (kAt 24 f4) n4.toNatClampNeg = kTw (kM qMi) mi.toNatClampNeg := by
    obtain ⟨⟨t0, t1, t2⟩, ⟨m4, m7, m2⟩, ⟨e4, e7, e2⟩, hn4, ⟨r1, r2, r3⟩, r4, r5, r6⟩ := R
    have hov := v_m t0 m4 r1 r4 em (by omega)
    rw [N4, em, nI_clamp (n := N) (by omega)]
    exact kTw_cg hov
  refine k_ifc (by rw [et]) (fun c => ?_) (fun _ => rfl)
  obtain ⟨P0, P1, P2, P3⟩ := kIt_P (ft := ft) c.1.2.1
  have E : (kLC ((0 ≤ (kIt fn ft f1 0) ∧ (kIt fn ft f1 0) < n7) ∧ (0 ≤ (kIt fn ft f1 1) ∧ (kIt fn ft f1 1) < n2) ∧ 0 ≤ (kIt fn ft f1 2) ∧ (kIt fn ft f1 2) < n2) (kAt 24 f4) n4 (kAt 39 f7 ((5 * (kIt fn ft f1 0)) + 3)) ((kAt 23 f2 ((3 * (kIt fn ft f1 1)) + 0), kAt 23 f2 ((3 * (kIt fn ft f1 1)) + 1), kAt 23 f2 ((3 * (kIt fn ft f1 1)) + 0), 0), (kAt 23 f2 ((3 * (kIt fn ft f1 2)) + 0), kAt 23 f2 ((3 * (kIt fn ft f1 2)) + 1), kAt 23 f2 ((3 * (kIt fn ft f1 2)) + 0), 0)) le (kAt 39 f7 ((5 * (kIt fn ft f1 0)) + 0)) (kAt 39 f7 ((5 * (kIt fn ft f1 0)) + 1)) (5 * (kAt 39 f7 ((5 * (kIt fn ft f1 0)) + 2))) (kIt fn ft f1 3) cx) = (kLR ((0 ≤ (kP0 ft f1) ∧ (kP0 ft f1) < pn) ∧ (0 ≤ (kP1 ft f1) ∧ (kP1 ft f1) < gn) ∧ 0 ≤ (kP2 ft f1) ∧ (kP2 ft f1) < gn) (kM qMi) mi (kP3 qPs (kP0 ft f1)) ((kG0 qGs (kP1 ft f1), kG1 qGs (kP1 ft f1), kG0 qGs (kP1 ft f1), 0), (kG0 qGs (kP2 ft f1), kG1 qGs (kP2 ft f1), kG0 qGs (kP2 ft f1), 0)) le (kP0 qPs (kP0 ft f1)) (kP1 qPs (kP0 ft f1)) (5 * (kP2 qPs (kP0 ft f1))) (kP3 ft f1) cx) := by
    rw [P0, P1, P2, P3]
    exact kLC_E R
  rw [E]

