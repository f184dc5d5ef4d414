/-! both sides: kinds -/
section EQ5
variable {α β : xm_M}
theorem und_eq : ∀ a, a < 5 → ∀ y, y ≤ 5 → undX (nI a + 1) (nI y) 6 = decide (nI y = 0 ∨ (nI y = 1 ∧ ¬ nI a = 3) ∨ (¬ nI y = 1 ∧ nI a = nI y - 1)) := by decide +kernel
theorem eq_as (hi : Inv α β) (x y : Int32) : f_as α x y = g_as β x y := by
  obtain ⟨hc, ⟨-, -, -, hd⟩, -⟩ := hi
  unfold f_as g_as
  rw [eq_isT hc]
  by_cases c : isTm β x = false
  · rw [if_pos c, if_pos c]
  · rw [if_neg c, if_neg c]
    obtain ⟨t, ht, rfl⟩ := isT_ex hc (by rw [Bool.not_eq_false] at c; exact c)
    have n8 := hc.1.2
    have ei := ixN_nI (i := t) (by omega)
    obtain ⟨a1, -, -, -, ⟨a, a5, ea⟩, -⟩ := hc.2.2.2.2.2.2.2.2 t ht
    by_cases cy : inB y 0 5 = true
    · have cy' := cy
      simp only [inB, Bool.and_eq_true, decide_eq_true_eq] at cy'
      obtain ⟨j, hj, rfl⟩ := le_ex 5 (by decide) (by decide) cy'.1 cy'.2
      rw [if_neg (fun q => q.elim (fun z => absurd cy'.1 (by rw [i_nle]; exact z)) (fun z => by have := (nI_leI (a := 6) (by decide) (by omega)).mp z; omega)), if_neg (c := inB (nI j) 0 5 = false) (by rw [cy]; decide), ei, a1, ea, und_eq a a5 j hj, eq_w hc hd ht]
      by_cases z : nI j = 0 ∨ (nI j = 1 ∧ ¬ nI a = 3) ∨ (¬ nI j = 1 ∧ nI a = nI j - 1)
      · rw [if_pos (decide_eq_true z), if_pos z]
      · rw [if_neg (by rw [decide_eq_false z]; decide), if_neg z]
    · rw [if_pos (by rw [Bool.not_eq_true] at cy; exact cy) (c := inB y 0 5 = false), if_pos]
      simp only [inB, Bool.and_eq_true, decide_eq_true_eq] at cy
      by_cases z : 0 ≤ y
      · right
        rw [← i_nlt]
        intro q
        obtain ⟨e, b⟩ := nI_ex z
        rw [e] at q
        have q' := (nI_ltI (b := 6) b (by decide)).mp q
        exact cy ⟨z, by rw [e]; exact nI_le (b := 5) (by omega) (by decide)⟩
      · left
        rw [← i_nle]
        exact z
end EQ5
