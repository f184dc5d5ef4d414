/-! both sides: floors, counts -/
theorem inB_f {x a b : Int32} : (inB x a b = false) ↔ (x < a ∨ b < x) := by
  unfold inB
  rw [← i_nle (a := a), ← i_nle (b := b)]
  by_cases p : a ≤ x <;> by_cases q : x ≤ b <;> simp [p, q]
theorem lt_su {x : Int32} {k : Nat} (hk : k + 1 < 2 ^ 31) : (nI k < x) ↔ (nI (k + 1) ≤ x) := by
  rw [Int32.lt_iff_toInt_lt, Int32.le_iff_toInt_le, nI_toInt (by omega), nI_toInt (by omega)]
  omega
theorem i_pos {x : Int32} (h : ¬ x < 0) : 0 ≤ x := by rw [i_nlt] at h; exact h
section EQ7
variable {α β : xm_M}
theorem vG_bt {e t : Int32} {u : Nat} (hu : u < 32) : vG e t (nI u) = if bt e u = true then 2 else if bt t u = true then 1 else 0 := by
  unfold vG
  rw [hb_bt hu, hb_bt hu]
theorem rk_eq (hc : iCo α β) (hd : iDz (nX α) (α.1 16) (β.1 41)) {i : Nat} (hi : i < nX α) : rkM β i = if hb (α.1 16 3) (nI i) = true then 0 else α.1 3 i := by
  have g : β.1 41 i = gX α 16 i := dy_g hc hd hi
  have ew : β.1 37 (4 * i + 1) = α.1 3 i := (hc.2.2.2.2.2.2.2.2 i hi).2.1
  have h12 : ¬ (1 : Int32) = 2 := by decide
  have h02 : ¬ (0 : Int32) = 2 := by decide
  unfold rkM
  rw [g, ew]
  unfold gX vG
  by_cases c : hb (α.1 16 3) (nI i) = true
  · simp [c]
  · by_cases e : hb (α.1 16 2) (nI i) = true <;> simp [c, e, h12, h02]
theorem rk_99 (hc : iCo α β) (hd : iDz (nX α) (α.1 16) (β.1 41)) {i : Nat} (hi : i < nX α) : rkM β i < 99 := by
  rw [rk_eq hc hd hi]
  obtain ⟨-, -, -, -, -, ⟨w, w1, w2, ew⟩, -⟩ := hc.2.2.2.2.2.2.2.2 i hi
  split
  · decide
  · rw [ew]
    exact nI_lt (b := 99) (by omega) (by decide)
theorem tl_eq (hc : iCo α β) (hd : iDz (nX α) (α.1 16) (β.1 41)) (ht : iTa α β) (f : Int32) : ∀ n, n ≤ nX α → (tlX α 16 f (α.1 0 11) n).1 = tlM β f n ∧ (¬ tlM β f n = -1 → (tlX α 16 f (α.1 0 11) n).2 = rkM β (ixN (tlM β f n)))
  | 0, _ => ⟨rfl, fun h => absurd rfl h⟩
  | i + 1, hn => by
    obtain ⟨ih1, ih2⟩ := tl_eq hc hd ht f i (by omega)
    have n8 := hc.1.2
    have hi : i < nX α := by omega
    obtain ⟨a1, -, -, a4, -⟩ := hc.2.2.2.2.2.2.2.2 i hi
    have hk := ht.2.2.2.2.2 i (by omega)
    have hl := eq_th hc hd hi
    have er := rk_eq hc hd hi
    have r99 := rk_99 hc hd hi
    have ex : ixN (nI i) = i := ixN_nI (by omega)
    unfold tlX at *
    rw [vTl, tlM]
    by_cases c : α.1 2 i = 1 ∧ α.1 5 i = f ∧ hb (α.1 0 11) (nI i) = false ∧ loX α 16 i = false
    · have cm : β.1 37 (4 * i) = 1 ∧ β.1 37 (4 * i + 3) = f ∧ isK β (nI i) (tkMm β) = false ∧ thM β 41 i = true := by
        rw [a1, a4, ← hk, hl, c.2.2.2]
        exact ⟨c.1, c.2.1, c.2.2.1, rfl⟩
      rw [if_pos c, if_pos cm, ← er]
      by_cases z : tlM β f i = -1
      · rw [if_pos (Or.inl (ih1.trans z)), if_pos z, if_pos r99]
        exact ⟨rfl, fun _ => by rw [ex]⟩
      · rw [if_neg z, ih1, ih2 z]
        by_cases y : rkM β i < rkM β (ixN (tlM β f i))
        · rw [if_pos (Or.inr y), if_pos y]
          exact ⟨rfl, fun _ => by rw [ex]⟩
        · rw [if_neg (fun q => q.elim z y), if_neg y]
          exact ⟨ih1, ih2⟩
    · have cm : ¬ (β.1 37 (4 * i) = 1 ∧ β.1 37 (4 * i + 3) = f ∧ isK β (nI i) (tkMm β) = false ∧ thM β 41 i = true) := by
        rw [a1, a4, ← hk, hl]
        intro q
        refine c ⟨q.1, q.2.1, q.2.2.1, ?_⟩
        have := q.2.2.2
        revert this
        cases loX α 16 i <;> simp
      rw [if_neg c, if_neg cm]
      exact ⟨ih1, ih2⟩
theorem eq_floor (hi : Inv α β) (x y : Int32) : f_floor α x y = g_floor β x y := by
  obtain ⟨hc, ⟨-, -, -, hd⟩, -, -, -, ht, -⟩ := hi
  unfold f_floor g_floor
  by_cases c : inB x 0 2 = false
  · rw [if_pos c, if_pos]
    exact (inB_f.mp c).imp id (fun q => (lt_su (k := 2) (by decide)).mp q)
  · rw [if_neg c, if_neg (fun q => c (inB_f.mpr (q.imp id (fun q => (lt_su (k := 2) (by decide)).mpr q))))]
    obtain ⟨f, hf, rfl⟩ := inB2_ex (by rw [Bool.not_eq_false] at c; exact c)
    rw [ixN_nI (by omega), (hc.2.2.2.2.2.2.2.1 f hf).1, eq_ld hc hd, (tl_eq hc hd ht (nI f) (nX α) (Nat.le_refl _)).1, nM_nX hc, hd.2.2.2.1]
theorem go_bt (hc : iCo α β) (hd : iDz (nX α) (α.1 16) (β.1 41)) {j : Nat} (hj : j < 32) : ∀ k, k ≤ nX α → bt (goM β k) j = (decide (j < k) && (bt (α.1 16 3) j || bt (α.1 16 2) j))
  | 0, _ => by
    rw [goM, b_0, decide_eq_false (by omega)]; rfl
  | k + 1, hk => by
    have ih := go_bt hc hd hj k (by omega)
    have n8 := hc.1.2
    have g := dy_g hc hd (t := k) (by omega)
    unfold gX at g
    rw [vG_bt (by omega)] at g
    rw [goM]
    by_cases e : j = k
    · subst e
      rw [decide_eq_true (Nat.lt_succ_self j), Bool.true_and]
      rw [decide_eq_false (Nat.lt_irrefl j), Bool.false_and] at ih
      rw [g]
      by_cases p : bt (α.1 16 3) j = true
      · rw [if_pos p, if_pos (by decide), b_set hj, p, decide_eq_true rfl]; simp
      · rw [if_neg p]
        by_cases q : bt (α.1 16 2) j = true
        · rw [if_pos q, if_pos (by decide), b_set hj, q, decide_eq_true rfl]; simp
        · rw [if_neg q, if_neg (by decide), or0, ih]
          rw [Bool.not_eq_true] at p q
          rw [p, q]; rfl
    · have ed : decide (j < k + 1) = decide (j < k) := decide_eq_decide.mpr (by omega)
      rw [ed, ← ih]
      split
      · rw [b_set (by omega), decide_eq_false e, Bool.or_false]
      · rw [or0]
theorem go_eq (hc : iCo α β) (hd : iDy (nX α) (α.1 16) (β.1 41)) : goM β (nX α) = α.1 16 3 ||| α.1 16 2 := by
  refine b_ext (fun j hj => ?_)
  rw [go_bt hc hd.2.2.2 hj _ (Nat.le_refl _), b_or]
  by_cases c : j < nX α
  · rw [decide_eq_true c, Bool.true_and]
  · rw [decide_eq_false c, Bool.false_and, hd.2.1 j (by omega), hd.2.2.1 j (by omega)]; rfl
theorem eq_count (hi : Inv α β) (y : Int32) : f_count α y = g_count β y := by
  obtain ⟨hc, hd, hp, -, hr, ht, hs, hT⟩ := hi
  have hz := hd.2.2.2
  have e5 := go_eq hc hd
  rw [← nM_nX hc] at e5
  unfold f_count g_count
  rw [hc.2.2.1, hc.2.2.2.1, hc.2.2.2.2.1, hc.2.2.2.2.2.1, hz.1, e5, hz.2.2.1, hz.2.2.2.1, hr.2.1, ← ht.2.2.1, hs.2.1, hp.2.2.1, hT.2.1]
end EQ7
