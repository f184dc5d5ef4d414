/-! both sides: slips -/
theorem eq_slips0 : ∀ q : Fin 11, ∀ n : Fin 7, ∀ k : Fin 7, ∀ p : Fin 2, f_slips (nI q.val) (nI n.val) (nI k.val) (nI p.val) = g_slips (nI q.val) (nI n.val) (nI k.val) (nI p.val) := by decide +kernel
theorem eq_slips (q n k p : Int32) : f_slips q n k p = g_slips q n k p := by
  by_cases hz : inB q 0 10 = true ∧ inB n 0 6 = true ∧ inB k 0 6 = true ∧ inB p 0 1 = true
  · obtain ⟨z1, z2, z3, z4⟩ := hz
    simp only [inB, Bool.and_eq_true, decide_eq_true_eq] at z1 z2 z3 z4
    obtain ⟨qq, hq, rfl⟩ := le_ex 10 rfl (by decide) z1.1 z1.2
    obtain ⟨nn, hn, rfl⟩ := le_ex 6 rfl (by decide) z2.1 z2.2
    obtain ⟨kk, hk, rfl⟩ := le_ex 6 rfl (by decide) z3.1 z3.2
    obtain ⟨pp, hp, rfl⟩ := le_ex 1 rfl (by decide) z4.1 z4.2
    exact eq_slips0 ⟨qq, by omega⟩ ⟨nn, by omega⟩ ⟨kk, by omega⟩ ⟨pp, by omega⟩
  · have a : slZ q n k p = true := by
      simp only [inB] at hz
      simp only [slZ]
      (try simp only [i_nlt, i_nle] at *)
      grind
    rw [f_slips, if_pos a, g_slips, if_pos (by grind)]
