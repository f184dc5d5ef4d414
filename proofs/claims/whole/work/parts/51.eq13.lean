/-! both sides: undone, kept, back -/
section EQ13
variable {α β : xm_M}
theorem dcp_at {σ : xm_M} {a b k : Nat} (hk : k < 6) : (dcp σ a b).1 a k = σ.1 b k := (if_pos rfl).trans (if_pos hk)
theorem cp_at {σ : xm_M} {a f b t n j : Nat} (h1 : t ≤ j) (h2 : j < t + n) : (cpM σ a f b t n).1 b j = σ.1 a (f + (j - t)) := if_pos ⟨rfl, h1, h2⟩
theorem cp_no {σ : xm_M} {a f b t n j : Nat} (h : ¬ (t ≤ j ∧ j < t + n)) : (cpM σ a f b t n).1 b j = σ.1 b j := if_neg (fun q => h q.2)
theorem eq_undo (hi : Inv α β) : (f_undo α).1 = (g_undo β).1 ∧ Inv (f_undo α).2 (g_undo β).2 := by
  have hc := hi.1
  obtain ⟨v, inj, e22, hd'⟩ := hi.2.2.1
  have v8 := v.2.2
  unfold f_undo g_undo
  by_cases c : α.1 0 6 ≤ 0
  · have c2 : β.1 36 22 = 0 := by
      rw [e22, v.2.1]
      rw [v.2.1] at c
      have := (nI_leI (b := 0) (by omega) (by decide)).mp c
      rw [show pcX α = 0 by omega]; rfl
    rw [if_pos c, if_pos c2]; exact ⟨rfl, hi⟩
  · have p1 : 1 ≤ pcX α := by
      rcases Nat.eq_zero_or_pos (pcX α) with z | z
      · exact absurd (by rw [v.2.1, z]; decide) c
      · exact z
    have c2 : ¬ β.1 36 22 = 0 := fun q => c (by rw [← e22, q]; decide)
    rw [if_neg c, if_neg c2]
    have eb : bkM β = pcX α := by unfold bkM pcX; rw [e22]
    rw [eb, e22]
    dsimp only
    have vp := v.1 (pcX α - 1) (by omega)
    have em : α.1 0 6 - 1 = nI (pcX α - 1) := by rw [v.2.1, show (1 : Int32) = nI 1 from rfl, pk_sub p1]
    rw [em]
    have f16 : ∀ k, k < 6 → (dcp (xm_set α 0 6 (nI (pcX α - 1))) 16 (pdX α (pcX α - 1))).1 16 k = α.1 (pdX α (pcX α - 1)) k := fun k hk => by rw [dcp_at hk, xs_ne (by omega)]
    have f41 : ∀ k, k < 12 → (cpM (xm_set β 36 22 (nI (pcX α - 1))) 45 (12 * (pcX α - 1)) 41 0 12).1 41 k = β.1 45 (12 * (pcX α - 1) + k) := fun k hk => by rw [cp_at (by omega) (by omega), xs_ne (by decide), Nat.sub_zero]
    have hx : ∀ c, c ≠ 16 → c ≠ 0 → (dcp (xm_set α 0 6 (nI (pcX α - 1))) 16 (pdX α (pcX α - 1))).1 c = α.1 c := fun c a b => by rw [dcp_ne a]; funext k; exact xs_ne b
    have h0 : ∀ k, k ≠ 6 → (dcp (xm_set α 0 6 (nI (pcX α - 1))) 16 (pdX α (pcX α - 1))).1 0 k = α.1 0 k := fun k hk => by rw [dcp_ne (by decide), xs_nk hk]
    have h06 : (dcp (xm_set α 0 6 (nI (pcX α - 1))) 16 (pdX α (pcX α - 1))).1 0 6 = nI (pcX α - 1) := by rw [dcp_ne (by decide), xs_eq]
    have hm : ∀ c, c ≠ 41 → c ≠ 36 → (cpM (xm_set β 36 22 (nI (pcX α - 1))) 45 (12 * (pcX α - 1)) 41 0 12).1 c = β.1 c := fun c a b => by rw [cpM_ne a]; funext k; exact xs_ne b
    have h36 : ∀ k, k ≠ 22 → (cpM (xm_set β 36 22 (nI (pcX α - 1))) 45 (12 * (pcX α - 1)) 41 0 12).1 36 k = β.1 36 k := fun k hk => by rw [cpM_ne (by decide), xs_nk hk]
    have h22 : (cpM (xm_set β 36 22 (nI (pcX α - 1))) 45 (12 * (pcX α - 1)) 41 0 12).1 36 22 = nI (pcX α - 1) := by rw [cpM_ne (by decide), xs_eq]
    generalize dcp (xm_set α 0 6 (nI (pcX α - 1))) 16 (pdX α (pcX α - 1)) = A at *
    generalize cpM (xm_set β 36 22 (nI (pcX α - 1))) 45 (12 * (pcX α - 1)) 41 0 12 = B at *
    refine ⟨rfl, Inv_un hx h0 hm h36 (iDy_cg hc.1.2 f16 f41 (hd' (pcX α - 1) (by omega))) ?_ hi⟩
    have ep : pdX A = pdX α := funext fun i => by unfold pdX; rw [hx 18 (by decide) (by decide)]
    have ec : pcX A = pcX α - 1 := by
      show (A.1 0 6).toNatClampNeg = _
      rw [h06, nI_clamp (by omega)]
    refine ⟨⟨?_, by rw [ec]; exact h06, by rw [ec]; omega⟩, by rw [ep]; exact inj, by rw [h22, h06], fun i hi' => ?_⟩
    · rw [ep, hx 18 (by decide) (by decide)]; exact v.1
    · rw [ec] at hi'
      have vi := v.1 i (by omega)
      rw [ep, nX_of (hx 1 (by decide) (by decide)), hx _ (by omega) (by omega), hm 45 (by decide) (by decide)]
      exact hd' i (by omega)
theorem x01 {x : Int32} (h : ¬ (x < 0 ∨ 2 ≤ x)) : ∃ k, k < 2 ∧ x = nI k := by
  have h0 : 0 ≤ x := i_pos (fun q => h (Or.inl q))
  have h1 : x < nI 2 := by rw [← i_nle]; exact fun q => h (Or.inr q)
  exact lt_nI (by decide) h0 h1
theorem x01_c {x : Int32} : (x < 0 ∨ 2 ≤ x) ↔ inB x 0 1 = false := by
  rw [inB_f]
  exact or_congr Iff.rfl (lt_su (k := 1) (by decide)).symm
theorem eq_keep (hi : Inv α β) (x : Int32) : (f_keep α x).1 = (g_keep β x).1 ∧ Inv (f_keep α x).2 (g_keep β x).2 := by
  have hc := hi.1
  have hd := hi.2.1
  obtain ⟨v, hk⟩ := hi.2.2.2.1
  unfold f_keep g_keep
  by_cases c : x < 0 ∨ 2 ≤ x
  · rw [if_pos c, if_pos (x01_c.mp c)]; exact ⟨rfl, hi⟩
  · rw [if_neg c, if_neg (fun q => c (x01_c.mpr q))]
    obtain ⟨k, k2, rfl⟩ := x01 c
    rw [ixN_nI (by omega)]
    dsimp only
    have r10 := hd.2.2.2.1
    have hx : ∀ c, c ≠ 34 → c ≠ 35 → c ≠ 0 → (xm_set (dcp α (34 + k) 16) 0 8 (α.1 0 8 ||| (1 <<< (nI k &&& 31)))).1 c = α.1 c := fun c a b e => by
      funext j
      rw [xs_ne e, dcp_ne (by omega)]
    have h0 : ∀ j, j ≠ 8 → (xm_set (dcp α (34 + k) 16) 0 8 (α.1 0 8 ||| (1 <<< (nI k &&& 31)))).1 0 j = α.1 0 j := fun j hj => by rw [xs_nk hj, dcp_ne (by omega)]
    have h8 : (xm_set (dcp α (34 + k) 16) 0 8 (α.1 0 8 ||| (1 <<< (nI k &&& 31)))).1 0 8 = α.1 0 8 ||| (1 <<< (nI k &&& 31)) := xs_eq
    have fa : ∀ j, j < 6 → (xm_set (dcp α (34 + k) 16) 0 8 (α.1 0 8 ||| (1 <<< (nI k &&& 31)))).1 (34 + k) j = α.1 16 j := fun j hj => by rw [xs_ne (by omega), dcp_at hj]
    have fo : ∀ u, u < 2 → u ≠ k → (xm_set (dcp α (34 + k) 16) 0 8 (α.1 0 8 ||| (1 <<< (nI k &&& 31)))).1 (34 + u) = α.1 (34 + u) := fun u hu e => by
      funext j
      rw [xs_ne (by omega), dcp_ne (by omega)]
    have hm : ∀ c, c ≠ 43 → c ≠ 44 → c ≠ 36 → (xm_set (cpM β 41 0 43 (12 * k) 12) 44 k 1).1 c = β.1 c := fun c a b e => by
      funext j
      rw [xs_ne b, cpM_ne a]
    have h36 : ∀ j, (xm_set (cpM β 41 0 43 (12 * k) 12) 44 k 1).1 36 j = β.1 36 j := fun j => by rw [xs_ne (by decide), cpM_ne (by decide)]
    have h44 : ∀ u, (xm_set (cpM β 41 0 43 (12 * k) 12) 44 k 1).1 44 u = if u = k then 1 else β.1 44 u := fun u => by
      by_cases e : u = k
      · rw [if_pos e, e, xs_eq]
      · rw [if_neg e, xs_nk e, cpM_ne (by decide)]
    have g1 : ∀ j, j < 12 → (xm_set (cpM β 41 0 43 (12 * k) 12) 44 k 1).1 43 (12 * k + j) = β.1 41 j := fun j hj => by
      rw [xs_ne (by decide), cp_at (by omega) (by omega)]
      rw [show 0 + (12 * k + j - 12 * k) = j by omega]
    have g2 : ∀ u, u < 2 → u ≠ k → ∀ j, j < 12 → (xm_set (cpM β 41 0 43 (12 * k) 12) 44 k 1).1 43 (12 * u + j) = β.1 43 (12 * u + j) := fun u hu e j hj => by
      rw [xs_ne (by decide), cp_no (by omega)]
    generalize xm_set (dcp α (34 + k) 16) 0 8 (α.1 0 8 ||| (1 <<< (nI k &&& 31))) = A at *
    generalize xm_set (cpM β 41 0 43 (12 * k) 12) 44 k 1 = B at *
    refine ⟨r10.symm, Inv_kp hx h0 hm h36 ?_ hi⟩
    have en : nX A = nX α := nX_of (hx 1 (by decide) (by decide) (by decide))
    refine ⟨by unfold vKp; rw [hx 19 (by decide) (by decide) (by decide)]; exact v, fun u hu => ?_⟩
    rw [h8, h44, en, hb_bt (by omega), b_set (by omega)]
    by_cases e : u = k
    · subst e
      rw [if_pos rfl, decide_eq_true rfl, Bool.or_true]
      exact ⟨rfl, fun _ => iDy_cg hc.1.2 fa g1 hd⟩
    · rw [if_neg e, decide_eq_false e, Bool.or_false, fo u hu e, ← hb_bt (by omega)]
      exact ⟨(hk u hu).1, fun q => iDy_cg hc.1.2 (fun _ _ => rfl) (g2 u hu e) ((hk u hu).2 q)⟩
theorem eq_back (hi : Inv α β) (x : Int32) : (f_back α x).1 = (g_back β x).1 ∧ Inv (f_back α x).2 (g_back β x).2 := by
  have hc := hi.1
  obtain ⟨v, hk⟩ := hi.2.2.2.1
  obtain ⟨vp, inj, -, -⟩ := hi.2.2.1
  unfold f_back g_back
  by_cases c : x < 0 ∨ 2 ≤ x
  · rw [if_pos c, if_pos (x01_c.mp c)]; exact ⟨rfl, hi⟩
  · rw [if_neg c, if_neg (fun q => c (x01_c.mpr q))]
    obtain ⟨k, k2, rfl⟩ := x01 c
    rw [ixN_nI (by omega)]
    obtain ⟨e44, hk2⟩ := hk k k2
    rw [e44]
    by_cases z : hb (α.1 0 8) (nI k) = false
    · rw [if_pos z, if_pos (by rw [z]; rfl)]; exact ⟨rfl, hi⟩
    · rw [if_neg z]
      rw [Bool.not_eq_false] at z
      rw [z, if_neg (c := b2i true = 0) (by decide)]
      dsimp only
      have hq := hk2 z
      have f16 : ∀ j, j < 6 → (xm_set (dcp α 16 (34 + k)) 0 6 0).1 16 j = α.1 (34 + k) j := fun j hj => by rw [xs_ne (by decide), dcp_at hj]
      have hx : ∀ c, c ≠ 16 → c ≠ 0 → (xm_set (dcp α 16 (34 + k)) 0 6 0).1 c = α.1 c := fun c a b => by
        funext j
        rw [xs_ne b, dcp_ne a]
      have h0 : ∀ j, j ≠ 6 → (xm_set (dcp α 16 (34 + k)) 0 6 0).1 0 j = α.1 0 j := fun j hj => by rw [xs_nk hj, dcp_ne (by decide)]
      have h06 : (xm_set (dcp α 16 (34 + k)) 0 6 0).1 0 6 = 0 := xs_eq
      have f41 : ∀ j, j < 12 → (bakM β k).1 41 j = β.1 43 (12 * k + j) := fun j hj => by
        unfold bakM
        rw [xs_ne (by decide), cp_at (by omega) (by omega), Nat.sub_zero]
      have hm : ∀ c, c ≠ 41 → c ≠ 36 → (bakM β k).1 c = β.1 c := fun c a b => by
        unfold bakM
        funext j
        rw [xs_ne b, cpM_ne a]
      have h36 : ∀ j, j ≠ 22 → (bakM β k).1 36 j = β.1 36 j := fun j hj => by
        unfold bakM
        rw [xs_nk hj, cpM_ne (by decide)]
      have h22 : (bakM β k).1 36 22 = 0 := by unfold bakM; exact xs_eq
      generalize xm_set (dcp α 16 (34 + k)) 0 6 0 = A at *
      generalize bakM β k = B at *
      have hd' := iDy_cg hc.1.2 f16 f41 hq
      refine ⟨by rw [f41 10 (by decide)]; exact hq.2.2.2.1.symm, Inv_un hx h0 hm h36 hd' ?_ hi⟩
      have ep : pdX A = pdX α := funext fun i => by unfold pdX; rw [hx 18 (by decide) (by decide)]
      have ec : pcX A = 0 := by
        show (A.1 0 6).toNatClampNeg = _
        rw [h06]; decide
      refine ⟨⟨?_, by rw [ec, h06]; decide, by rw [ec]; omega⟩, by rw [ep]; exact inj, by rw [h22, h06], fun i hi' => ?_⟩
      · rw [ep, hx 18 (by decide) (by decide)]; exact vp.1
      · rw [ec] at hi'
        omega
end EQ13
