/-! both sides: answers that change nothing -/
section EQ4
variable {α β : xm_M}
theorem isT_ex (hc : iCo α β) {x : Int32} (h : isTm β x = true) : ∃ t, t < nX α ∧ x = nI t := by
  obtain ⟨t, ht, e⟩ := isTm_of (iCo_vXm hc) h
  exact ⟨t, nM_nX hc ▸ ht, e⟩
theorem eq_handP (hi : Inv α β) (x : Int32) : f_hand α x = g_hand β x := by
  obtain ⟨hc, ⟨-, -, -, hd⟩, -⟩ := hi
  have e11 : β.1 41 11 = α.1 16 1 := hd.2.1
  unfold f_hand g_hand
  by_cases c : inB x 0 99 = true
  · rw [if_pos c]
    simp only [inB, Bool.and_eq_true, decide_eq_true_eq] at c
    obtain ⟨i, hi, rfl⟩ := le_ex 99 (by decide) (by decide) c.1 c.2
    rw [if_neg (fun q => q.elim (fun z => absurd c.1 (by rw [i_nle]; exact z)) (fun z => absurd c.2 (by rw [i_nle]; exact z))), e11]
    exact eq_hand hc _ (by omega)
  · rw [if_neg c, if_pos]
    simp only [inB, Bool.and_eq_true, decide_eq_true_eq] at c
    by_cases z : 0 ≤ x
    · right
      rw [← i_nle]
      exact fun q => c ⟨z, q⟩
    · left
      rw [← i_nle]
      exact z
theorem eq_thing (hi : Inv α β) (x y : Int32) : f_thing α x y = g_thing β x y := by
  obtain ⟨hc, ⟨-, -, -, hd⟩, -⟩ := hi
  unfold f_thing g_thing
  rw [eq_isT hc]
  by_cases c : isTm β x = false
  · rw [if_pos c, if_pos c]
  · rw [if_neg c, if_neg c]
    obtain ⟨t, ht, rfl⟩ := isT_ex hc (by rw [Bool.not_eq_false] at c; exact c)
    have n8 := hc.1.2
    have ei := ixN_nI (i := t) (by omega)
    obtain ⟨a1, a2, a3, a4, -⟩ := hc.2.2.2.2.2.2.2.2 t ht
    have e8 : β.1 41 8 = α.1 16 4 := hd.2.2.1
    have eg := dy_g hc hd ht
    have ep := eq_pr hc hd ht
    rw [ei, a1, a2, a3, a4, e8, ep, eg]
end EQ4
