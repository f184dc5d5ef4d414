/-! both sides: what can be undone -/
section EQ8
variable {α β : xm_M}
theorem rot_pa (hn8 : nX α ≤ 8) (h : iPa α β) : iPa (rotA α) (rotM β) ∧ pcX (rotA α) < 8 := by
  have hv := rotA_pa h.1
  refine ⟨?_, hv.2⟩
  obtain ⟨v, inj, e22, hd⟩ := h
  have en : nX (rotA α) = nX α := nX_of (rotA_ne (by decide) (by decide))
  have v8 := v.2.2
  by_cases c : 8 ≤ α.1 0 6
  · have e8 : pcX α = 8 := by
      have c' := c
      rw [v.2.1] at c'
      have := (nI_leI (a := 8) (by decide) (by omega)).mp c'
      omega
    have ep : ∀ i, i < 8 → pdX (rotA α) i = pdX α (if i = 7 then 0 else i + 1) := by
      intro i hi
      unfold pdX rotA
      rw [if_pos c, xs_ne (by decide)]
      by_cases e7 : i = 7
      · subst e7; rw [xs_eq, if_pos rfl]
      · rw [xs_nk e7, if_neg e7]
        exact congrArg Int32.toNatClampNeg (if_pos ⟨rfl, by omega⟩)
    have e0 : (rotA α).1 0 6 = 7 := by unfold rotA; rw [if_pos c, xs_eq]
    have ec : pcX (rotA α) = 7 := by unfold pcX; rw [e0]; decide
    have b8 : β.1 36 22 = 8 := by rw [e22, v.2.1, e8]; decide
    refine ⟨hv.1, ?_, ?_, ?_⟩
    · intro i j hi hj q
      rw [ep i hi, ep j hj] at q
      have z := inj _ _ (by split <;> omega) (by split <;> omega) q
      split at z <;> split at z <;> omega
    · rw [e0]; unfold rotM; rw [if_pos b8, xs_eq, b8]; decide
    · intro i hi
      rw [ec] at hi
      have range := v.1 (i + 1) (by omega)
      rw [ep i (by omega), if_neg (by omega), en, show (rotA α).1 (pdX α (i + 1)) = α.1 (pdX α (i + 1)) from rotA_ne (by omega) (by omega)]
      refine iDy_cg hn8 (fun _ _ => rfl) (fun k hk => ?_) (hd (i + 1) (by omega))
      show (rotM β).1 45 (12 * i + k) = β.1 45 (12 * (i + 1) + k)
      unfold rotM
      rw [if_pos b8, xs_ne (by decide)]
      refine (if_pos ⟨rfl, by omega⟩).trans ?_
      rw [show 12 * (i + 1) + k = 12 * i + k + 12 by omega]
  · have ea : rotA α = α := by rw [rotA, if_neg c]
    have c8 : ¬ β.1 36 22 = 8 := fun q => c (by rw [← e22, q]; decide)
    have em : rotM β = β := by rw [rotM, if_neg c8]
    rw [ea, em]
    exact ⟨v, inj, e22, hd⟩
theorem rem_pa (hn8 : nX α ≤ 8) (hd : iDy (nX α) (α.1 16) (β.1 41)) (h : iPa α β) : iPa (remX α) (notM β) := by
  obtain ⟨h', h8⟩ := rot_pa hn8 h
  have en : nX (remX α) = nX α := nX_of (remX_ne h.1 (by decide) (by decide) (by decide))
  obtain ⟨v, inj, e22, hd'⟩ := h'
  have enr : nX (rotA α) = nX α := nX_of (rotA_ne (by decide) (by decide))
  have e16 : (rotA α).1 16 = α.1 16 := rotA_ne (by decide) (by decide)
  have e41 : (rotM β).1 41 = β.1 41 := rotM_ne (by decide) (by decide)
  have eb : bkM (rotM β) = pcX (rotA α) := by unfold bkM pcX; rw [e22]
  have vp := v.1 _ h8
  have e18 : (remX α).1 18 = (rotA α).1 18 := by
    unfold remX
    funext k
    rw [xs_ne (by decide), dcp_ne (by omega)]
  have ep : pdX (remX α) = pdX (rotA α) := funext fun i => by unfold pdX; rw [e18]
  have e06 : (remX α).1 0 6 = (rotA α).1 0 6 + 1 := by unfold remX; exact xs_eq
  have ec : pcX (remX α) = pcX (rotA α) + 1 := by
    show ((remX α).1 0 6).toNatClampNeg = _
    rw [e06, v.2.1, nI_1, nI_clamp (by omega)]
  have r45 : ∀ j, (notM β).1 45 j = if 12 * pcX (rotA α) ≤ j ∧ j < 12 * pcX (rotA α) + 12 then β.1 41 (j - 12 * pcX (rotA α)) else (rotM β).1 45 j := by
    intro j
    unfold notM
    rw [xs_ne (by decide), eb]
    unfold cpM
    by_cases c : 12 * pcX (rotA α) ≤ j ∧ j < 12 * pcX (rotA α) + 12
    · rw [if_pos c]
      refine (if_pos ⟨rfl, c⟩).trans ?_
      rw [e41, Nat.zero_add]
    · rw [if_neg c]
      exact if_neg (fun q => c q.2)
  refine ⟨⟨?_, ?_, ?_⟩, ?_, ?_, ?_⟩
  · intro i hi
    rw [ep, e18]
    exact v.1 i hi
  · rw [ec, e06, v.2.1, nI_1]
  · rw [ec]; omega
  · rw [ep]; exact inj
  · rw [e06, ← e22]; unfold notM; rw [xs_eq]
  · intro i hi
    rw [ec] at hi
    rw [ep, en]
    rcases Nat.lt_or_ge i (pcX (rotA α)) with z | z
    · have vi := v.1 i (by omega)
      have hne : pdX (rotA α) i ≠ pdX (rotA α) (pcX (rotA α)) := fun q => by have := inj _ _ (by omega) h8 q; omega
      have e : (remX α).1 (pdX (rotA α) i) = (rotA α).1 (pdX (rotA α) i) := by
        unfold remX
        funext k
        rw [xs_ne (by omega), dcp_ne hne]
      rw [e]
      have q := hd' i z
      rw [enr] at q
      refine iDy_cg hn8 (fun _ _ => rfl) (fun k hk => ?_) q
      show (notM β).1 45 (12 * i + k) = (rotM β).1 45 (12 * i + k)
      rw [r45, if_neg (by omega)]
    · have ei : i = pcX (rotA α) := by omega
      rw [ei]
      have e : ∀ k, k < 6 → (remX α).1 (pdX (rotA α) (pcX (rotA α))) k = α.1 16 k := by
        intro k hk
        unfold remX
        rw [xs_ne (by omega)]
        exact (if_pos rfl).trans ((if_pos hk).trans (congrFun e16 k))
      refine iDy_cg hn8 e (fun k hk => ?_) hd
      show (notM β).1 45 (12 * pcX (rotA α) + k) = β.1 41 k
      rw [r45, if_pos (by omega), Nat.add_sub_cancel_left]
theorem remX_k (h : vPa α) {k : Nat} (hk : k ≠ 6) : (remX α).1 0 k = α.1 0 k := by
  obtain ⟨⟨h1, h2, h3⟩, h4⟩ := rotA_pa h
  have := h1 _ h4
  unfold remX
  rw [xs_nk hk, dcp_ne (by omega)]
  unfold rotA
  split
  · rw [xs_nk hk, xs_ne (by decide), rotX_ne (by decide)]
  · rfl
theorem rem_Inv (hi : Inv α β) : Inv (remX α) (notM β) := by
  obtain ⟨hc, hd, hp, hk, hr, ht, hs, hT⟩ := hi
  have hv := hp.1
  have hn : nX (remX α) = nX α := nX_of (remX_ne hv (by decide) (by decide) (by decide))
  refine ⟨iCo_cg (fun c a b => remX_ne hv (by omega) (by omega) (by omega)) (notM_k (by decide)) (notM_k (by decide)) (notM_k (by decide)) (notM_k (by decide)) (notM_ne (by decide) (by decide)) (notM_ne (by decide) (by decide)) hc, ?_, rem_pa hc.1.2 hd hp, iKp_cg (remX_ne hv (by decide) (by decide) (by decide)) (remX_k hv (by decide)) hn (fun c a b => remX_ne hv (by omega) (by omega) (by omega)) (notM_ne (by decide) (by decide)) (notM_ne (by decide) (by decide)) hk, iRo_cg (remX_k hv (by decide)) (remX_ne hv (by decide) (by decide) (by decide)) hn (notM_k (by decide)) (notM_ne (by decide) (by decide)) hr, iTa_cg (remX_k hv (by decide)) hn (notM_k (by decide)) (notM_ne (by decide) (by decide)) ht, iSe_cg (remX_k hv (by decide)) (remX_ne hv (by decide) (by decide) (by decide)) (remX_ne hv (by decide) (by decide) (by decide)) (remX_ne hv (by decide) (by decide) (by decide)) (notM_k (by decide)) (notM_ne (by decide) (by decide)) hs, iTx_cg (congrFun (remX_ne hv (by decide) (by decide) (by decide)) 1) (remX_ne hv (by decide) (by decide) (by decide)) (notM_k (by decide)) (notM_ne (by decide) (by decide)) hT⟩
  rw [hn, remX_ne hv (by decide) (by decide) (by decide), notM_ne (by decide) (by decide)]
  exact hd
end EQ8
