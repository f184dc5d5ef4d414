/-! both sides: numbers of a line -/
/-- the numbers of a line, as the reference reads them -/
def nkM (w : Int32) : Nat → Nat → Nat → xm_M → Bool × xm_M
  | 0, _, _, τ => (true, τ)
  | k + 1, i, p, τ => andM (inM τ p (leX w i) (moX w (nI i))) (nkM w k (i + 1) (p + 1))
theorem andM_id (r : Bool × xm_M) : andM r (fun τ => (true, τ)) = r := by
  obtain ⟨b, τ⟩ := r
  cases b <;> rfl
theorem le_m1 (w : Int32) (i : Nat) : (-1 : Int32) < leX w i := by
  unfold leX
  split <;> decide
section LINE1
variable {σ τ : xm_M}
theorem RT_set {i p : Nat} {u v : Int32} (h : RT σ τ) : RT (xm_set σ 15 i u) (xm_set τ 40 p v) := by
  obtain ⟨hr, hp, hl, hpo, ht⟩ := h
  have e13 : (xm_set σ 15 i u).1 13 = σ.1 13 := funext fun k => xs_ne (by decide)
  have e14 : (xm_set σ 15 i u).1 14 = σ.1 14 := funext fun k => xs_ne (by decide)
  have e36 : (xm_set τ 40 p v).1 36 = τ.1 36 := funext fun k => xs_ne (by decide)
  have e39 : (xm_set τ 40 p v).1 39 = τ.1 39 := funext fun k => xs_ne (by decide)
  refine ⟨vRd_set (by decide) (by decide) hr, (s40_ok hp).1, ?_, ?_, ?_⟩
  · unfold lM b3; rw [e36, e13]; exact hl
  · unfold poM teN; rw [e36, e13]; exact hpo
  · unfold b3; rw [e13, e14, e39]; exact ht
theorem RT_M {τ' : xm_M} (h : RT σ τ) (hv : vPo τ') (e6 : τ'.1 36 6 = τ.1 36 6) (e8 : τ'.1 36 8 = τ.1 36 8) (e39 : τ'.1 39 = τ.1 39) : RT σ τ' := by
  obtain ⟨hr, hp, hl, hpo, ht⟩ := h
  refine ⟨hr, hv, ?_, ?_, ?_⟩
  · unfold lM; rw [e6]; exact hl
  · unfold poM; rw [e8]; exact hpo
  · rw [e39]; exact ht
theorem nums_eq {w : Int32} : ∀ (k i p : Nat) (σ τ : xm_M), RT σ τ →
    (rcN w k i σ).1 = (nkM w k i p τ).1 ∧ ((rcN w k i σ).1 = false → (∃ s, s ≤ 160 ∧ (rcN w k i σ).2.1 13 3 = nI s) ∧ (rcN w k i σ).2.1 13 3 = (nkM w k i p τ).2.1 36 13) ∧
    ((rcN w k i σ).1 = true → RT (rcN w k i σ).2 (nkM w k i p τ).2 ∧ ∀ j, j < k → ∃ x, x ≤ 99 ∧ (rcN w k i σ).2.1 15 (i + j) = nI x ∧ leX w (i + j) ≤ nI x ∧ nI x ≤ moX w (nI (i + j)) ∧ (nkM w k i p τ).2.1 40 (p + j) = nI x) ∧
    (∀ j, j < i → (rcN w k i σ).2.1 15 j = σ.1 15 j) ∧ (∀ j, j < p → (nkM w k i p τ).2.1 40 j = τ.1 40 j) ∧ (nkM w k i p τ).2.1 36 15 = τ.1 36 15 ∧ vPo (nkM w k i p τ).2 ∧ smR τ (nkM w k i p τ).2
  | 0, i, p, σ, τ, h => ⟨rfl, fun q => absurd (show true = false from q) (by decide), fun _ => ⟨h, fun j hj => by omega⟩, fun _ _ => rfl, fun _ _ => rfl, rfl, h.2.1, smR_rf⟩
  | k + 1, i, p, σ, τ, h => by
    obtain ⟨r1, ⟨s, s160, es⟩, t9, -, -, -, n1, n2⟩ := tk_step h
    have e40 : (ntM τ).1 40 = τ.1 40 := by
      obtain ⟨e, dg, nu, t, q, -, -⟩ := ntS_lp τ (tkS (τ.1 39) (lM τ) (poM τ)) (tkS_in h.2.1.2.2).2
      unfold ntM
      rw [q]
      exact lp_ne (by decide)
    have e15 : (ntM τ).1 36 15 = τ.1 36 15 := by
      obtain ⟨e, dg, nu, t, q, -, -⟩ := ntS_lp τ (tkS (τ.1 39) (lM τ) (poM τ)) (tkS_in h.2.1.2.2).2
      unfold ntM
      rw [q]
      exact lp_k (by decide) (by decide) (by decide) (by decide)
    have e15x : (ntX σ (teN σ)).1 15 = σ.1 15 := ntX_ne (by decide)
    have sm1 := (nt_ok h.2.1)
    rw [rcN, nkM, inM]
    by_cases c : nuX (ntX σ (teN σ)) < leX w i ∨ moX w (nI i) < nuX (ntX σ (teN σ))
    · have c2 : ¬ ((ntM τ).2 = -1 ∧ inB ((ntM τ).1 36 12) (leX w i) (moX w (nI i)) = true) := fun q => by
        obtain ⟨x, hx, x1, x2⟩ := n1 q.1
        rw [x2] at c
        have := inB_f.mpr c
        rw [← x1, q.2] at this
        exact absurd this (by decide)
      rw [if_pos c, if_neg c2]
      refine ⟨rfl, fun _ => ⟨⟨s, s160, es⟩, ?_⟩, fun q => absurd (show false = true from q) (by decide), fun j hj => congrFun e15x j, fun j hj => ?_, ?_, (fl_ok r1.2.1).1, smR_tr sm1.2 (fl_ok r1.2.1).2⟩
      · show (ntX σ (teN σ)).1 13 3 = (flM (ntM τ)).1 36 13
        unfold flM
        rw [xs_eq, t9]
      · show (flM (ntM τ)).1 40 j = _
        unfold flM
        rw [xs_ne (by decide), e40]
      · show (flM (ntM τ)).1 36 15 = _
        unfold flM
        rw [xs_nk (by decide), e15]
    · have t1 : (ntM τ).2 = -1 := by
        by_cases z : (ntM τ).2 = -1
        · exact z
        · rw [n2 z] at c
          exact absurd (Or.inl (le_m1 w i)) c
      obtain ⟨x, hx, x1, x2⟩ := n1 t1
      rw [x2] at c ⊢
      have ci : inB (nI x) (leX w i) (moX w (nI i)) = true := by
        rw [← Bool.not_eq_false]
        exact fun q => c (inB_f.mp q)
      rw [x1, if_neg c, if_pos ⟨t1, ci⟩]
      show _ = (nkM w k (i + 1) (p + 1) (xm_set (ntM τ) 40 p (nI x))).1 ∧ (_ → _ ∧ _ = (nkM w k (i + 1) (p + 1) (xm_set (ntM τ) 40 p (nI x))).2.1 36 13) ∧ (_ → RT _ (nkM w k (i + 1) (p + 1) (xm_set (ntM τ) 40 p (nI x))).2 ∧ ∀ j, _ → ∃ x', _ ∧ _ ∧ _ ∧ _ ∧ (nkM w k (i + 1) (p + 1) (xm_set (ntM τ) 40 p (nI x))).2.1 40 (p + j) = nI x') ∧ _ ∧ (∀ j, j < p → (nkM w k (i + 1) (p + 1) (xm_set (ntM τ) 40 p (nI x))).2.1 40 j = τ.1 40 j) ∧ (nkM w k (i + 1) (p + 1) (xm_set (ntM τ) 40 p (nI x))).2.1 36 15 = τ.1 36 15 ∧ vPo (nkM w k (i + 1) (p + 1) (xm_set (ntM τ) 40 p (nI x))).2 ∧ smR τ (nkM w k (i + 1) (p + 1) (xm_set (ntM τ) 40 p (nI x))).2
      obtain ⟨i1, i2, i3, i4, i5, i6, i7, i8⟩ := nums_eq (w := w) k (i + 1) (p + 1) _ _ (RT_set (i := i) (p := p) (u := nI x) (v := nI x) r1)
      refine ⟨i1, i2, fun q => ⟨(i3 q).1, fun j hj => ?_⟩, fun j hj => ?_, fun j hj => ?_, ?_, i7, smR_tr sm1.2 (smR_tr (s40_ok r1.2.1).2 i8)⟩
      · by_cases e : j = 0
        · subst e
          refine ⟨x, hx, ?_, ?_, ?_, ?_⟩
          · exact (i4 i (by omega)).trans xs_eq
          · rw [Nat.add_zero, ← i_nlt]; exact fun q => c (Or.inl q)
          · rw [Nat.add_zero, ← i_nlt]; exact fun q => c (Or.inr q)
          · exact (i5 p (by omega)).trans xs_eq
        · obtain ⟨x', y1, y2, y3, y4, y5⟩ := (i3 q).2 (j - 1) (by omega)
          rw [show i + 1 + (j - 1) = i + j by omega] at y2 y3 y4
          rw [show p + 1 + (j - 1) = p + j by omega] at y5
          exact ⟨x', y1, y2, y3, y4, y5⟩
      · rw [i4 j (by omega), xs_nk (by omega), e15x]
      · rw [i5 j (by omega), xs_nk (by omega), e40]
      · rw [i6, xs_ne (by decide), e15]
end LINE1
/-! the line behind its word -/
def lk3 (w : Nat) (τ : xm_M) : xm_M := if w ≤ 4 then xm_set τ 36 15 (τ.1 36 15 + 1) else if w = 9 ∨ w = 10 then xm_set τ 36 15 0 else τ
theorem lk_eq {τ : xm_M} {p : Nat} : ∀ w, w < 11 → lkM τ (piW (nI w)) p = if w ≤ 4 ∧ τ.1 36 15 = 8 then (false, flM τ) else nkM (nI w) (nnW (nI w)) 0 (p + 1) (lk3 w τ) := by
  have kd : ∀ w, w ≤ 4 → ∀ τ : xm_M, nkM (nI w) (nnW (nI w)) 0 (p + 1) τ = itN τ p := by
    intro w hw τ
    have e : nnW (nI w) = 3 ∧ leX (nI w) 0 = 1 ∧ leX (nI w) 1 = 0 ∧ leX (nI w) 2 = 0 ∧ moX (nI w) (nI 0) = 20 ∧ moX (nI w) (nI 1) = 40 ∧ moX (nI w) (nI 2) = 2 := by
      have : ∀ w, w ≤ 4 → nnW (nI w) = 3 ∧ leX (nI w) 0 = 1 ∧ leX (nI w) 1 = 0 ∧ leX (nI w) 2 = 0 ∧ moX (nI w) (nI 0) = 20 ∧ moX (nI w) (nI 1) = 40 ∧ moX (nI w) (nI 2) = 2 := by decide +kernel
      exact this w hw
    obtain ⟨e0, e1, e2, e3, e4, e5, e6⟩ := e
    rw [e0, nkM, e1, e4]
    unfold itN
    congr 1
    funext τ
    rw [nkM, e2, e5]
    congr 1
    funext τ
    rw [nkM, e3, e6]
    exact andM_id _
  have low : ∀ w, w ≤ 4 → lkM τ (piW (nI w)) p = itM τ p := by
    intro w hw
    have : ∀ w, w ≤ 4 → (piW (nI w) = 0 ∨ piW (nI w) = 1 ∨ piW (nI w) = 2 ∨ piW (nI w) = 3 ∨ piW (nI w) = 4) := by decide +kernel
    rw [lkM, if_pos (this w hw)]
  intro w hw
  by_cases w4 : w ≤ 4
  · rw [low w w4, itM, kd w w4]
    unfold lk3
    rw [if_pos w4]
    by_cases c : τ.1 36 15 = 8
    · rw [if_pos c, if_pos ⟨w4, c⟩]
    · rw [if_neg c, if_neg (fun q => c q.2)]
  · rw [if_neg (fun q => w4 q.1)]
    unfold lk3
    rw [if_neg w4]
    have hw5 : w = 5 ∨ w = 6 ∨ w = 7 ∨ w = 8 ∨ w = 9 ∨ w = 10 := by omega
    rcases hw5 with rfl | rfl | rfl | rfl | rfl | rfl
    · rw [if_neg (by decide), show piW (nI 5) = 6 by decide +kernel, show nnW (nI 5) = 2 by decide +kernel, lkM, if_neg (by decide), if_neg (by decide), if_pos rfl, beM, nkM, show leX (nI 5) 0 = 0 by decide +kernel, show moX (nI 5) (nI 0) = 2 by decide +kernel]
      congr 1
      funext τ
      rw [nkM, show leX (nI 5) (0 + 1) = 0 by decide +kernel, show moX (nI 5) (nI (0 + 1)) = 99 by decide +kernel]
      exact (andM_id _).symm
    · rw [if_neg (by decide), show piW (nI 6) = 7 by decide +kernel, show nnW (nI 6) = 1 by decide +kernel, lkM, if_neg (by decide), if_neg (by decide), if_neg (by decide), if_pos (by decide), nkM, show leX (nI 6) 0 = 0 by decide +kernel, show moX (nI 6) (nI 0) = 4 by decide +kernel]
      exact (andM_id _).symm
    · rw [if_neg (by decide), show piW (nI 7) = 8 by decide +kernel, show nnW (nI 7) = 1 by decide +kernel, lkM, if_neg (by decide), if_neg (by decide), if_neg (by decide), if_pos (by decide), nkM, show leX (nI 7) 0 = 0 by decide +kernel, show moX (nI 7) (nI 0) = 4 by decide +kernel]
      exact (andM_id _).symm
    · rw [if_neg (by decide), show piW (nI 8) = 9 by decide +kernel, show nnW (nI 8) = 1 by decide +kernel, lkM, if_neg (by decide), if_neg (by decide), if_neg (by decide), if_neg (by decide), if_pos (by decide), nkM, show leX (nI 8) 0 = 0 by decide +kernel, show moX (nI 8) (nI 0) = 24 by decide +kernel]
      exact (andM_id _).symm
    · rw [if_pos (by decide), show piW (nI 9) = 5 by decide +kernel, show nnW (nI 9) = 0 by decide +kernel, lkM, if_neg (by decide), if_pos (by decide)]
      rfl
    · rw [if_pos (by decide), show piW (nI 10) = 10 by decide +kernel, show nnW (nI 10) = 0 by decide +kernel, lkM, if_neg (by decide), if_pos (by decide)]
      rfl
