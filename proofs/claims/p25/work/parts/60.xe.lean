theorem e_lakes {q f4 f7 f2 by4 qMi qPs qGs : Nat → Int32} {n4 n7 n2 mi pn gn fn le nn w1 z1 : Int32}
    (t0 : 0 ≤ (q 0).toInt ∧ (q 0).toInt ≤ 24) (t1 : 0 ≤ (q 1).toInt ∧ (q 1).toInt ≤ 39) (t2 : 0 ≤ (q 2).toInt ∧ (q 2).toInt ≤ 23)
    (m4 : k_ml (q 0) f4 (kv4 by4)) (m7 : k_ml (q 1) f7 (kv7 by4)) (m2 : k_ml (q 2) f2 (kv2 by4))
    (e4 : n4 = kNm (q 0) (q 0) f4) (e7 : n7 = kNm (kTh7 (q 1)) (q 1) f7) (e2 : n2 = kNm (kTh2 (q 2)) (q 2) f2) (hn4 : 0 ≤ n4 ∧ n4 ≤ 24) (hfn : 0 ≤ fn ∧ fn ≤ 8)
    (r1 : mi = kNm (q 0) (q 0) (kv4 by4)) (r2 : pn = kNm (kTh7 (q 1)) (q 1) (kv7 by4)) (r3 : gn = kNm (kTh2 (q 2)) (q 2) (kv2 by4)) (r4 : k_ml mi qMi (kv4 by4)) (r5 : k_mq 5 4 pn (q 1) qPs (kv7 by4)) (r6 : k_mq 3 2 gn (q 2) qGs (kv2 by4)) : (if 1 ≤ nn ∧ nn ≤ 99 ∧ 0 ≤ w1 ∧ w1 ≤ 1 then (if n7 < 1 ∨ n2 < 2 then 0 else (kLk (fun x1 x2 x3 x4 => kOC f4 f7 f2 n4 n7 n2 le x1 x2 x3 x4 (kAt 39 f7 ((5 * x1) + 1))) n7 n2 (if w1 = 0 then 0 else 3) (kfu nn 0) z1 0)) else -2) = (if 1 ≤ nn ∧ nn ≤ 99 ∧ 0 ≤ w1 ∧ w1 ≤ 1 then (if 0 < pn ∧ 1 < gn then (kLk (fun x1 x2 x3 x4 => kOR qMi qPs qGs mi pn gn le x1 x2 x3 (kP1 qPs x1) (fun x8 => if x8 < (24 : Int32) then x4 else (0 : Int32))) pn gn (if w1 = 0 then 0 else 3) (kfu nn 0) z1 0) else 0) else -2) := by
  have N7 : n7 = pn := e7.trans ((kNm_cg m7).trans r2.symm)
  have N2 : n2 = gn := e2.trans ((kNm_cg m2).trans r3.symm)
  refine k_ifc Iff.rfl (fun c => ?_) (fun _ => rfl)
  have l1 : ∀ x : Int32, x < 1 ↔ ¬ 0 < x := fun x => by
    rw [Int32.lt_iff_toInt_lt, Int32.lt_iff_toInt_lt, show (0 : Int32).toInt = 0 from rfl, show (1 : Int32).toInt = 1 from rfl]
    omega
  have l2 : ∀ x : Int32, x < 2 ↔ ¬ 1 < x := fun x => by
    rw [Int32.lt_iff_toInt_lt, Int32.lt_iff_toInt_lt, show (2 : Int32).toInt = 2 from rfl, show (1 : Int32).toInt = 1 from rfl]
    omega
  by_cases d : 0 < pn ∧ 1 < gn
  · rw [if_pos d, if_neg (fun z => z.elim (fun y => (l1 n7).mp y (by rw [N7]; exact d.1)) (fun y => (l2 n2).mp y (by rw [N2]; exact d.2)))]
    have hO : ∀ p l r s : Int32, (fun x1 x2 x3 x4 => kOC f4 f7 f2 n4 n7 n2 le x1 x2 x3 x4 (kAt 39 f7 ((5 * x1) + 1))) p l r (kLt s 9 + 1) = (fun x1 x2 x3 x4 => kOR qMi qPs qGs mi pn gn le x1 x2 x3 (kP1 qPs x1) (fun x8 => if x8 < (24 : Int32) then x4 else (0 : Int32))) p l r (kLt s 9 + 1) := fun p l r s => by
      refine kO_cg t0 t1 t2 m4 m7 m2 e4 e7 e2 hn4 r1 r2 r3 r4 (fun w hw _ hp => v_p t1 m7 r2 r5 hp hw) r6 (fun hp => v_p (w := 1) t1 m7 r2 r5 hp (by decide)) (fun i hi => ?_)
      show kLt s 9 + 1 = if nI i < (24 : Int32) then kLt s 9 + 1 else (0 : Int32)
      rw [if_pos (by rw [show (24 : Int32) = nI 24 from rfl]; exact nI_lt hi (by decide))]
    rw [kLk_cg (O := (fun x1 x2 x3 x4 => kOC f4 f7 f2 n4 n7 n2 le x1 x2 x3 x4 (kAt 39 f7 ((5 * x1) + 1)))) (O' := (fun x1 x2 x3 x4 => kOR qMi qPs qGs mi pn gn le x1 x2 x3 (kP1 qPs x1) (fun x8 => if x8 < (24 : Int32) then x4 else (0 : Int32)))) hO, N7, N2]
  · rw [if_neg d]
    by_cases y : n7 < 1 ∨ n2 < 2
    · rw [if_pos y]
    · refine absurd ⟨?_, ?_⟩ d
      · rw [← N7]; exact Classical.byContradiction (fun z => y (Or.inl ((l1 n7).mpr z)))
      · rw [← N2]; exact Classical.byContradiction (fun z => y (Or.inr ((l2 n2).mpr z)))

