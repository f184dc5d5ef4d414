/-! both sides: the hand -/
theorem ago_spec (bt : Int32) (mm : Nat) (hm : mm < 1000) : ∀ n, n ≤ 24 → ((∀ b, b < n → b < mm → hb bt (nI b) = false) ∧ agoR bt (nI mm) n = 99) ∨ ∃ L, L < n ∧ L < mm ∧ hb bt (nI L) = true ∧ (∀ b, L < b → b < n → b < mm → hb bt (nI b) = false) ∧ agoR bt (nI mm) n = nI (mm - L)
  | 0, _ => Or.inl ⟨fun b h => by omega, rfl⟩
  | n + 1, h => by
    have el : nI n < nI mm ↔ n < mm := nI_ltI (by omega) (by omega)
    rw [agoR]
    by_cases c : hb bt (nI n) = true ∧ nI n < nI mm
    · rw [if_pos c]
      have hn := el.mp c.2
      exact Or.inr ⟨n, by omega, hn, c.1, fun b h1 h2 => by omega, pk_sub (by omega)⟩
    · rw [if_neg c]
      have nn : n < mm → hb bt (nI n) = false := fun q => by
        by_cases z : hb bt (nI n) = true
        · exact absurd ⟨z, el.mpr q⟩ c
        · exact Bool.not_eq_true _ ▸ z
      rcases ago_spec bt mm hm n (by omega) with ⟨a, e⟩ | ⟨L, l1, l2, l3, l4, l5⟩
      · refine Or.inl ⟨fun b h1 h2 => ?_, e⟩
        by_cases z : b = n
        · rw [z]; exact nn (by omega)
        · exact a b (by omega) h2
      · refine Or.inr ⟨L, by omega, l2, l3, fun b h1 h2 h3 => ?_, l5⟩
        by_cases z : b = n
        · rw [z]; exact nn (by omega)
        · exact l4 b h1 (by omega) h3
theorem neg_sub : ∀ j, j ≤ 8 → ∀ m, m < j → ¬ (0 : Int32) ≤ nI m - nI j := by decide
theorem hxp {bt : Int32} {mm j : Nat} (hm : mm < 1000) (hj : j ≤ 8) : (0 ≤ nI mm - nI j ∧ nI mm - nI j < 24 ∧ hb bt (nI mm - nI j) = true) ↔ (j ≤ mm ∧ mm - j < 24 ∧ hb bt (nI (mm - j)) = true) := by
  by_cases c : j ≤ mm
  · rw [pk_sub c, show (24 : Int32) = nI 24 by decide, nI_ltI (by omega) (by omega)]
    exact ⟨fun q => ⟨c, q.2⟩, fun q => ⟨nI_le (a := 0) (Nat.zero_le _) (by omega), q.2⟩⟩
  · exact ⟨fun q => absurd q.1 (neg_sub j hj mm (by omega)), fun q => absurd q.1 c⟩
theorem hxf_no {w mm : Nat} {bt : Int32} (hm : mm < 1000) : ∀ k g, g + k ≤ 9 → (∀ j, g ≤ j → j < g + k → ¬ (j ≤ mm ∧ mm - j < 24 ∧ hb bt (nI (mm - j)) = true)) → hXf w bt (nI mm) k g = 2
  | 0, _, _, _ => rfl
  | k + 1, g, h, hn => by
    rw [hXf, if_neg (fun q => hn g (by omega) (by omega) ((hxp hm (by omega)).mp q))]
    exact hxf_no hm k (g + 1) (by omega) (fun j a b => hn j (by omega) (by omega))
theorem hxf_at {w mm : Nat} {bt : Int32} (hm : mm < 1000) {a : Nat} (ha : a ≤ mm ∧ mm - a < 24 ∧ hb bt (nI (mm - a)) = true) : ∀ k g, g + k ≤ 9 → g ≤ a → a < g + k → (∀ j, g ≤ j → j < a → ¬ (j ≤ mm ∧ mm - j < 24 ∧ hb bt (nI (mm - j)) = true)) → hXf w bt (nI mm) k g = if a ≤ w then 0 else 1
  | 0, _, _, _, _, _ => by omega
  | k + 1, g, h, h1, h2, hn => by
    rw [hXf]
    by_cases e : g = a
    · rw [if_pos ((hxp hm (by omega)).mpr (e ▸ ha)), e]
    · rw [if_neg (fun q => hn g (by omega) (by omega) ((hxp hm (by omega)).mp q))]
      exact hxf_at hm ha k (g + 1) (by omega) (by omega) (by omega) (fun j a b => hn j (by omega) (by omega))
theorem eq_hand {α β : xm_M} (hc : iCo α β) (bt : Int32) {mm : Nat} (hm : mm < 1000) : hX α bt (nI mm) = hM β bt (nI mm) := by
  obtain ⟨-, ⟨w1, w4, c1, c4⟩, -, e3, e4, -⟩ := hc
  unfold hX hM hbM
  rw [e3, e4, w1, c1, nI_add]
  rcases ago_spec bt mm hm 24 (by decide) with ⟨a, e⟩ | ⟨L, l1, l2, l3, l4, l5⟩
  · rw [e, show (99 : Int32) = nI 99 by decide, if_neg (fun q => by have := (nI_leI (a := 99) (by decide) (by omega)).mp q; omega), if_neg (fun q => by have := (nI_leI (a := 99) (by decide) (by omega)).mp q; omega)]
    refine hxf_no hm _ _ (by omega) (fun j h1 h2 q => ?_)
    rw [a (mm - j) q.2.1 (by omega)] at q
    exact absurd q.2.2 (by decide)
  · rw [l5]
    have q1 : nI (mm - L) ≤ nI (wX α) ↔ mm - L ≤ wX α := nI_leI (by omega) (by omega)
    have q2 : nI (mm - L) ≤ nI (wX α + cX α) ↔ mm - L ≤ wX α + cX α := nI_leI (by omega) (by omega)
    have no : ∀ j, 1 ≤ j → j < mm - L → ¬ (j ≤ mm ∧ mm - j < 24 ∧ hb bt (nI (mm - j)) = true) := fun j h1 h2 q => by
      rw [l4 (mm - j) (by omega) q.2.1 (by omega)] at q
      exact absurd q.2.2 (by decide)
    by_cases c : mm - L ≤ wX α + cX α
    · rw [hxf_at hm (a := mm - L) ⟨by omega, by omega, by rw [show mm - (mm - L) = L by omega]; exact l3⟩ _ _ (by omega) (by omega) (by omega) no, if_pos (q2.mpr c)]
      by_cases z : mm - L ≤ wX α
      · rw [if_pos z, if_pos (q1.mpr z)]
      · rw [if_neg z, if_neg (fun q => z (q1.mp q))]
    · rw [hxf_no hm _ _ (by omega) (fun j h1 h2 => no j h1 (by omega)), if_neg (fun q => c (by have := q1.mp q; omega)), if_neg (fun q => c (q2.mp q))]
