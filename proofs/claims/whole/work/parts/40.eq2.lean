/-! both sides: what a thing is -/
section EQ2
variable {α β : xm_M}
theorem eq_isT (h : iCo α β) (x : Int32) : isT α x = isTm β x := by
  obtain ⟨⟨hn, hn8⟩, -, e0, -⟩ := h
  unfold isT isTm inB
  rw [e0, hn]
  by_cases h0 : 0 ≤ x
  · rw [decide_eq_true h0, Bool.true_and, Bool.true_and]
    obtain ⟨e, hx⟩ := nI_ex h0
    rw [e]
    by_cases z : nX α = 0
    · rw [z]
      have a : ¬ nI (ixN x) < nI 0 := nI_nlt (Nat.zero_le _) (by omega)
      have b : ¬ nI (ixN x) ≤ nI 0 - 1 := fun q => by
        have := Int32.le_trans (e ▸ h0) q
        exact absurd this (by decide)
      rw [decide_eq_false a, decide_eq_false b]
    · rw [show (1 : Int32) = nI 1 by decide, pk_sub (by omega)]
      apply decide_eq_decide.mpr
      rw [nI_ltI (by omega) (by omega), nI_leI (by omega) (by omega)]
      omega
  · rw [decide_eq_false h0, Bool.false_and, Bool.false_and]
variable {a s : Nat}
theorem dy_g (hc : iCo α β) (hd : iDz (nX α) (α.1 a) (β.1 s)) {t : Nat} (ht : t < nX α) : β.1 s t = gX α a t := hd.2.2.2.2 t ht
theorem vG_le (e t x : Int32) : (vG e t x ≤ 0) = (vG e t x = 0) := by
  unfold vG
  split
  · decide
  · split <;> decide
theorem eq_w (hc : iCo α β) (hd : iDz (nX α) (α.1 a) (β.1 s)) {t : Nat} (ht : t < nX α) : wM β s t = vW (α.1 3) (gX α a) (α.1 a 4) t := by
  have g := dy_g hc hd ht
  have e8 : β.1 s 8 = α.1 a 4 := hd.2.2.1
  have ew : β.1 37 (4 * t + 1) = α.1 3 t := (hc.2.2.2.2.2.2.2.2 t ht).2.1
  unfold wM vW
  rw [e8, ew, g]
  by_cases c : hb (α.1 a 4) (nI t) = true
  · rw [if_pos c, if_pos c]
  · rw [if_neg c, if_neg c]
    by_cases z : gX α a t = 0
    · rw [if_pos z, if_pos (by rw [z]; decide)]
    · rw [if_neg z, if_neg (by rw [gX, vG_le]; exact z)]
theorem eq_th (hc : iCo α β) (hd : iDz (nX α) (α.1 a) (β.1 s)) {t : Nat} (ht : t < nX α) : thM β s t = !loX α a t := by
  have e8 : β.1 s 8 = α.1 a 4 := hd.2.2.1
  have e9 : β.1 s 9 = α.1 a 5 := hd.2.2.2.1
  have ef : β.1 37 (4 * t + 3) = α.1 5 t := (hc.2.2.2.2.2.2.2.2 t ht).2.2.2.1
  unfold thM loX vL
  rw [e8, e9, ef, Bool.not_or]
theorem eq_ld (hc : iCo α β) (hd : iDz (nX α) (α.1 a) (β.1 s)) (f : Int32) : ldM β s f (nM β) = ldX α a f := by
  rw [nM_nX hc]
  unfold ldM ldX vLoad
  refine sumI_congr (fun i hi => ?_)
  rw [eq_w hc hd hi, (hc.2.2.2.2.2.2.2.2 i hi).2.2.2.1]
theorem eq_pr (hc : iCo α β) (hd : iDz (nX α) (α.1 a) (β.1 s)) {t : Nat} (ht : t < nX α) : prM β s t = prX α a t := by
  have g := dy_g hc hd ht
  have h1 : β.1 37 (4 * t + 1) = α.1 3 t := (hc.2.2.2.2.2.2.2.2 t ht).2.1
  have h2 : β.1 37 (4 * t + 2) = α.1 4 t := (hc.2.2.2.2.2.2.2.2 t ht).2.2.1
  unfold prM prX vP
  rw [eq_th hc hd ht, g, h1, h2]
  show _ = if loX α a t = true then 0 else _
  by_cases c : loX α a t = true
  · rw [if_pos c, if_pos (by rw [c]; decide)]
  · rw [if_neg c, if_neg (by rw [Bool.not_eq_true] at c; rw [c]; decide)]
    by_cases z : gX α a t = 0
    · rw [if_pos z, if_pos (by rw [z]; decide)]
    · rw [if_neg z, if_neg (by rw [gX, vG_le]; exact z)]
end EQ2
