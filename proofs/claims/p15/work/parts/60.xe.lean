theorem e_out {q f4 f7 f2 by4 qMi qPs qGs ft : Nat → Int32} {n4 n7 n2 mi pn gn fn le : Int32}
    (t0 : 0 ≤ (q 0).toInt ∧ (q 0).toInt ≤ 24) (t1 : 0 ≤ (q 1).toInt ∧ (q 1).toInt ≤ 39) (t2 : 0 ≤ (q 2).toInt ∧ (q 2).toInt ≤ 23)
    (m4 : k_ml (q 0) f4 (kv4 by4)) (m7 : k_ml (q 1) f7 (kv7 by4)) (m2 : k_ml (q 2) f2 (kv2 by4))
    (e4 : n4 = kNm (q 0) (q 0) f4) (e7 : n7 = kNm (kTh7 (q 1)) (q 1) f7) (e2 : n2 = kNm (kTh2 (q 2)) (q 2) f2) (hn4 : 0 ≤ n4 ∧ n4 ≤ 24) (hfn : 0 ≤ fn ∧ fn ≤ 8)
    (r1 : mi = kNm (q 0) (q 0) (kv4 by4)) (r2 : pn = kNm (kTh7 (q 1)) (q 1) (kv7 by4)) (r3 : gn = kNm (kTh2 (q 2)) (q 2) (kv2 by4)) (r4 : k_ml mi qMi (kv4 by4)) (r5 : k_mq 5 4 pn (q 1) qPs (kv7 by4)) (r6 : k_mq 3 2 gn (q 2) qGs (kv2 by4))
    (f : Int32) (hf : 0 ≤ f ∧ f < fn) : (fun x9 => kOC f4 f7 f2 n4 n7 n2 le (kIt fn ft x9 0) (kIt fn ft x9 1) (kIt fn ft x9 2) (kIt fn ft x9 3) (kAt 39 f7 ((5 * (kIt fn ft x9 0)) + 1))) f = (fun x9 => kOR qMi qPs qGs mi pn gn le (kP0 ft x9) (kP1 ft x9) (kP2 ft x9) (kP1 qPs (kP0 ft x9)) (fun x8 => if x8 < (24 : Int32) then (kP3 ft x9) else (0 : Int32))) f := by
  have P0 : kIt fn ft f 0 = kP0 ft f := by unfold kIt kP0; rw [if_pos hf, Int32.add_zero]
  have P1 : kIt fn ft f 1 = kP1 ft f := if_pos hf
  have P2 : kIt fn ft f 2 = kP2 ft f := if_pos hf
  have P3 : kIt fn ft f 3 = kP3 ft f := if_pos hf
  show kOC f4 f7 f2 n4 n7 n2 le (kIt fn ft f 0) (kIt fn ft f 1) (kIt fn ft f 2) (kIt fn ft f 3) (kAt 39 f7 ((5 * (kIt fn ft f 0)) + 1)) = kOR qMi qPs qGs mi pn gn le (kP0 ft f) (kP1 ft f) (kP2 ft f) (kP1 qPs (kP0 ft f)) (fun x8 => if x8 < (24 : Int32) then (kP3 ft f) else (0 : Int32))
  rw [P0, P1, P2, P3]
  refine kO_cg t0 t1 t2 m4 m7 m2 e4 e7 e2 hn4 r1 r2 r3 r4 (fun w hw _ hp => v_p t1 m7 r2 r5 hp hw) r6 (fun hp => v_p (w := 1) t1 m7 r2 r5 hp (by decide)) (fun i hi => ?_)
  show kP3 ft f = if nI i < (24 : Int32) then kP3 ft f else (0 : Int32)
  rw [if_pos (by rw [show (24 : Int32) = nI 24 from rfl]; exact nI_lt hi (by decide))]
theorem e_far {q f4 f7 f2 by4 qMi qPs qGs ft : Nat → Int32} {n4 n7 n2 mi pn gn fn le : Int32}
    (t0 : 0 ≤ (q 0).toInt ∧ (q 0).toInt ≤ 24) (t1 : 0 ≤ (q 1).toInt ∧ (q 1).toInt ≤ 39) (t2 : 0 ≤ (q 2).toInt ∧ (q 2).toInt ≤ 23)
    (m4 : k_ml (q 0) f4 (kv4 by4)) (m7 : k_ml (q 1) f7 (kv7 by4)) (m2 : k_ml (q 2) f2 (kv2 by4))
    (e4 : n4 = kNm (q 0) (q 0) f4) (e7 : n7 = kNm (kTh7 (q 1)) (q 1) f7) (e2 : n2 = kNm (kTh2 (q 2)) (q 2) f2) (hn4 : 0 ≤ n4 ∧ n4 ≤ 24) (hfn : 0 ≤ fn ∧ fn ≤ 8)
    (r1 : mi = kNm (q 0) (q 0) (kv4 by4)) (r2 : pn = kNm (kTh7 (q 1)) (q 1) (kv7 by4)) (r3 : gn = kNm (kTh2 (q 2)) (q 2) (kv2 by4)) (r4 : k_ml mi qMi (kv4 by4)) (r5 : k_mq 5 4 pn (q 1) qPs (kv7 by4)) (r6 : k_mq 3 2 gn (q 2) qGs (kv2 by4)) : (kFc (fun x9 => kOC f4 f7 f2 n4 n7 n2 le (kIt fn ft x9 0) (kIt fn ft x9 1) (kIt fn ft x9 2) (kIt fn ft x9 3) (kAt 39 f7 ((5 * (kIt fn ft x9 0)) + 1))) (kfu fn 0) 0 (-1) (-1)) = (kFq (fun x9 => kOR qMi qPs qGs mi pn gn le (kP0 ft x9) (kP1 ft x9) (kP2 ft x9) (kP1 qPs (kP0 ft x9)) (fun x8 => if x8 < (24 : Int32) then (kP3 ft x9) else (0 : Int32))) (kfu fn 0) 0 (-1) 0) := by
  obtain ⟨n, hn, en⟩ := nI_of2 (n := 8) (M := 8) (by decide) (Int32.not_lt.mpr hfn.1) hfn.2
  have hO := e_out (ft := ft) (le := le) t0 t1 t2 m4 m7 m2 e4 e7 e2 hn4 hfn r1 r2 r3 r4 r5 r6
  have ek : kfu fn 0 = n := by rw [en, show (0 : Int32) = nI 0 from rfl, kfu_nat (by decide) (by omega), Nat.sub_zero]
  rw [ek]
  refine kF_eq0 hn (fun a ha => hO (nI a) ⟨nI_pos' (by omega), by rw [en]; exact nI_lt ha (by omega)⟩) (fun a ha => ?_)
  obtain ⟨j, hj, ej⟩ := kO_rng (C := (0 ≤ (kIt fn ft (nI a) 0) ∧ (kIt fn ft (nI a) 0) < n7) ∧ (0 ≤ (kIt fn ft (nI a) 1) ∧ (kIt fn ft (nI a) 1) < n2) ∧ 0 ≤ (kIt fn ft (nI a) 2) ∧ (kIt fn ft (nI a) 2) < n2) hn4
  exact kMe_pos hj ej

