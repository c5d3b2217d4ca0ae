theorem k_fk {r n p l q h : Int32} (h0 : 0 ≤ n ∧ n ≤ 8) (h1 : r = if kFok p l q h then (if n = 8 then -4 else n + 1) else -2) : (¬ r < 0 → kFok p l q h ∧ ¬ n = 8) ∧ (r < 0 → ¬ (kFok p l q h ∧ ¬ n = 8)) := by
  by_cases c : kFok p l q h
  · rw [if_pos c] at h1
    by_cases d : n = 8
    · rw [if_pos d] at h1
      exact ⟨fun z => absurd (by rw [h1]; decide) z, fun _ z => z.2 d⟩
    · rw [if_neg d] at h1
      refine ⟨fun _ => ⟨c, d⟩, fun z => ?_⟩
      obtain ⟨a, ha, rfl⟩ := nI_of2 (n := 8) (M := 8) (by decide) (Int32.not_lt.mpr h0.1) h0.2
      rw [h1, nI_1] at z
      exact absurd z (nI_pos (by omega))
  · rw [if_neg c] at h1
    exact ⟨fun z => absurd (by rw [h1]; decide) z, fun _ z => c z.1⟩

