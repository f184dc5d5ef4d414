/-! both sides: more deeds -/
section EQ10
variable {α β : xm_M}
theorem by_eq (hc : iCo α β) (hd : iDz (nX α) (α.1 16) (β.1 41)) {t i : Nat} (ht : t < nX α) (hi : i < nX α) : byM β t i = (svX α t i && !loX α 16 i) := by
  obtain ⟨a1, -, -, a4, -⟩ := hc.2.2.2.2.2.2.2.2 t ht
  obtain ⟨-, -, -, b4, -⟩ := hc.2.2.2.2.2.2.2.2 i hi
  unfold byM svX
  rw [a1, a4, b4, eq_th hc hd ht, eq_th hc hd hi]
  cases decide (α.1 2 t = 1) <;> cases decide (α.1 5 t = α.1 5 i) <;> cases loX α 16 t <;> cases loX α 16 i <;> rfl
theorem eq_by (hi : Inv α β) (x y : Int32) : (f_by α x y).1 = (g_by β x y).1 ∧ Inv (f_by α x y).2 (g_by β x y).2 := by
  have hc := hi.1
  have hd := hi.2.1
  unfold f_by g_by
  rw [eq_isT hc, eq_isT hc]
  by_cases c : isTm β x = false ∨ isTm β y = false ∨ x = y
  · rw [if_pos c, if_pos c]; exact ⟨rfl, hi⟩
  · rw [if_neg c, if_neg c]
    have c1 : isTm β x = true := by rw [← Bool.not_eq_false]; exact fun q => c (Or.inl q)
    have c2 : isTm β y = true := by rw [← Bool.not_eq_false]; exact fun q => c (Or.inr (Or.inl q))
    clear c
    obtain ⟨t, ht, rfl⟩ := isT_ex hc c1
    obtain ⟨i, hi', rfl⟩ := isT_ex hc c2
    have n8 := hc.1.2
    rw [ixN_nI (by omega), ixN_nI (by omega), by_eq hc hd.2.2.2 ht hi']
    by_cases l : loX α 16 i = true ∨ svX α t i = false
    · rw [if_pos l, if_pos (c := (svX α t i && !loX α 16 i) = false)]
      · exact ⟨rfl, hi⟩
      · rcases l with l | l
        · rw [l]; simp
        · rw [l]; simp
    · rw [if_neg l, if_neg (c := (svX α t i && !loX α 16 i) = false)]
      · by_cases f : 24 ≤ α.1 16 0
        · rw [if_pos f, if_pos ((full_eq hd).mp f)]; exact ⟨rfl, hi⟩
        · rw [if_neg f, if_neg (fun q => f ((full_eq hd).mpr q))]
          obtain ⟨m, hm, e0⟩ := full_no hd f
          exact tch_eq hi hm e0 ht
      · intro q
        apply l
        revert q
        cases loX α 16 i <;> cases svX α t i <;> simp
theorem sh0 : ∀ i, i < 8 → (0 : Int32) <<< (nI i &&& 31) = 0 := by decide
theorem eat_fin {A B : xm_M} (h2 : Inv A B) {m : Nat} (hm : m < 24) (e0 : A.1 16 0 = nI m) {i : Nat} : Inv (pasX (xm_set A 16 4 (A.1 16 4 ||| (1 <<< (nI i &&& 31)))) 16) (psM (xm_set B 41 8 (B.1 41 8 ||| (1 <<< (nI i &&& 31)))) 41) := by
  have n8 := h2.1.1.2
  have h : Inv (xm_set A 16 4 (A.1 16 4 ||| (1 <<< (nI i &&& 31)))) (xm_set B 41 8 (B.1 41 8 ||| (1 <<< (nI i &&& 31)))) := by
    refine Inv_day (fun c h => funext fun k => xs_ne h) (fun c h => funext fun k => xs_ne h) ?_ h2
    obtain ⟨⟨m', hm', em, hb1⟩, q2, q3, r10, r11, r8, r9, hg⟩ := h2.2.1
    refine ⟨⟨m', hm', em, hb1⟩, q2, q3, r10, r11, ?_, r9, fun u hu => ?_⟩
    · rw [xs_eq, xs_eq, r8]
    · rw [xs_nk (by omega)]
      exact hg u hu
  exact pas_Inv h hm ((xs_nk (by decide)).trans e0)
theorem eat_eq (hi : Inv α β) {m : Nat} (hm : m < 24) (e0 : α.1 16 0 = nI m) {i t : Nat} (hi' : i < nX α) (ht : t < nX α) : (eatX α (nI i) (nI t)).1 = (eatM β i t).1 ∧ Inv (eatX α (nI i) (nI t)).2 (eatM β i t).2 := by
  have h1 := rem_Inv hi
  have hv := hi.2.2.1.1
  have n8 := hi.1.1.2
  have hn : nX (remX α) = nX α := nX_of (remX_ne hv (by decide) (by decide) (by decide))
  have hd2 := gld_dy h1.1 h1.2.1 (t := t) (by omega)
  have h2 : Inv (gldX (remX α) 16 (nI t)) (tcM (notM β) t) := Inv_day (fun c h => gldX_ne h) (fun c h => tcM_ne h) hd2 h1
  have e0' : (gldX (remX α) 16 (nI t)).1 16 0 = nI m := by rw [gldX_0, remX_ne hv (by decide) (by decide) (by decide)]; exact e0
  have g := hd2.2.2.2.2.2.2.2 i (by omega)
  unfold eatX eatM eatA
  generalize gldX (remX α) 16 (nI t) = A at *
  generalize tcM (notM β) t = B at *
  rw [g]
  by_cases z : vG (A.1 16 3) (A.1 16 2) (nI i) = 0
  · rw [if_pos z, if_pos z]
    dsimp only
    exact ⟨rfl, eat_fin h2 hm e0'⟩
  · rw [if_neg z, if_neg z, sh0 i (by omega), or0, xs_self (σ := B) rfl]
    dsimp only
    exact ⟨rfl, pas_Inv h2 hm e0'⟩
theorem eq_eat (hi : Inv α β) (x y : Int32) : (f_eat α x y).1 = (g_eat β x y).1 ∧ Inv (f_eat α x y).2 (g_eat β x y).2 := by
  have hc := hi.1
  have hd := hi.2.1
  have n8 := hc.1.2
  unfold f_eat g_eat
  rw [eq_isT hc, eq_isT hc]
  by_cases c : isTm β x = false ∨ (¬ y = -1 ∧ (isTm β y = false ∨ y = x))
  · rw [if_pos c, if_pos c]; exact ⟨rfl, hi⟩
  · rw [if_neg c, if_neg c]
    have c1 : isTm β x = true := by rw [← Bool.not_eq_false]; exact fun q => c (Or.inl q)
    have c2 : ¬ y = -1 → isTm β y = true := fun z => by rw [← Bool.not_eq_false]; exact fun q => c (Or.inr ⟨z, Or.inl q⟩)
    clear c
    obtain ⟨i, hi', rfl⟩ := isT_ex hc c1
    obtain ⟨a1, -⟩ := hc.2.2.2.2.2.2.2.2 i hi'
    rw [ixN_nI (i := i) (by omega), a1, eq_th hc hd.2.2.2 hi']
    by_cases y1 : y = -1
    · simp only [y1, not_true, false_and, or_false, if_true]
      by_cases l : ¬ α.1 2 i = 4 ∨ loX α 16 i = true
      · rw [if_pos l, if_pos (l.imp id (fun q => by rw [q]; rfl))]; exact ⟨rfl, hi⟩
      · rw [if_neg l, if_neg (c := ¬ α.1 2 i = 4 ∨ (!loX α 16 i) = false) (fun q => l (q.imp id (fun q => by revert q; cases loX α 16 i <;> simp)))]
        by_cases f : 24 ≤ α.1 16 0
        · rw [if_pos f, if_pos ((full_eq hd).mp f)]; exact ⟨rfl, hi⟩
        · rw [if_neg f, if_neg (fun q => f ((full_eq hd).mpr q))]
          obtain ⟨m, hm, e0⟩ := full_no hd f
          exact eat_eq hi hm e0 hi' hi'
    · obtain ⟨t, ht, rfl⟩ := isT_ex hc (c2 y1)
      rw [ixN_nI (by omega), by_eq hc hd.2.2.2 ht hi']
      by_cases l : ¬ α.1 2 i = 4 ∨ loX α 16 i = true ∨ (¬ nI t = -1 ∧ svX α t i = false)
      · rw [if_pos l, if_pos (c := ¬ α.1 2 i = 4 ∨ (!loX α 16 i) = false ∨ (¬ nI t = -1 ∧ (svX α t i && !loX α 16 i) = false))]
        · exact ⟨rfl, hi⟩
        · rcases l with l | l | l
          · exact Or.inl l
          · exact Or.inr (Or.inl (by rw [l]; rfl))
          · exact Or.inr (Or.inr ⟨l.1, by rw [l.2]; rfl⟩)
      · rw [if_neg l, if_neg (c := ¬ α.1 2 i = 4 ∨ (!loX α 16 i) = false ∨ (¬ nI t = -1 ∧ (svX α t i && !loX α 16 i) = false))]
        · by_cases f : 24 ≤ α.1 16 0
          · rw [if_pos f, if_pos ((full_eq hd).mp f)]; exact ⟨rfl, hi⟩
          · rw [if_neg f, if_neg (fun q => f ((full_eq hd).mpr q)), if_neg y1, if_neg y1]
            obtain ⟨m, hm, e0⟩ := full_no hd f
            exact eat_eq hi hm e0 hi' ht
        · intro q
          apply l
          rcases q with q | q | q
          · exact Or.inl q
          · exact Or.inr (Or.inl (by revert q; cases loX α 16 i <;> simp))
          · have := q.2
            cases e : loX α 16 i
            · rw [e] at this
              exact Or.inr (Or.inr ⟨q.1, by revert this; cases svX α t i <;> simp⟩)
            · exact Or.inr (Or.inl rfl)
theorem eq_idle (hi : Inv α β) : (f_idle α).1 = (g_idle β).1 ∧ Inv (f_idle α).2 (g_idle β).2 := by
  have hd := hi.2.1
  have hv := hi.2.2.1.1
  unfold f_idle g_idle
  by_cases f : 24 ≤ α.1 16 0
  · rw [if_pos f, if_pos ((full_eq hd).mp f)]; exact ⟨rfl, hi⟩
  · rw [if_neg f, if_neg (fun q => f ((full_eq hd).mpr q))]
    obtain ⟨m, hm, e0⟩ := full_no hd f
    have h := pas_Inv (rem_Inv hi) hm (by rw [remX_ne hv (by decide) (by decide) (by decide)]; exact e0)
    have g := h.2.1.2.2.2.1
    dsimp only
    exact ⟨g.symm, h⟩
theorem bth_fin {A B : xm_M} (h1 : Inv A B) {m : Nat} (hm : m < 24) (e0 : A.1 16 0 = nI m) : Inv (pasX (xm_set A 16 1 (A.1 16 1 ||| (1 <<< (A.1 16 0 &&& 31)))) 16) (psM (bthM B) 41) := by
  have hs1 : ∀ c, c ≠ 16 → (xm_set A 16 1 (A.1 16 1 ||| (1 <<< (A.1 16 0 &&& 31)))).1 c = A.1 c := fun c h => funext fun k => xs_ne h
  have hs2 : ∀ c, c ≠ 41 → (bthM B).1 c = B.1 c := fun c h => funext fun k => xs_ne h
  have hn : nX (xm_set A 16 1 (A.1 16 1 ||| (1 <<< (A.1 16 0 &&& 31)))) = nX A := nX_of (hs1 1 (by decide))
  have hc' : iCo (xm_set A 16 1 (A.1 16 1 ||| (1 <<< (A.1 16 0 &&& 31)))) (bthM B) :=
    iCo_cg (fun c a b => hs1 c (by omega)) (congrFun (hs2 36 (by decide)) _) (congrFun (hs2 36 (by decide)) _) (congrFun (hs2 36 (by decide)) _) (congrFun (hs2 36 (by decide)) _) (hs2 37 (by decide)) (hs2 38 (by decide)) h1.1
  refine Inv_day (fun c h => (pasX_ne h).trans (hs1 c h)) (fun c h => (psM_ne h).trans (hs2 c h)) ?_ h1
  rw [← hn]
  obtain ⟨⟨m', hm', em, hb1⟩, q2, q3, r10, r11, r8, r9, hg⟩ := h1.2.1
  have : m' = m := (nI_eq (by omega) (by omega)).mp (em.symm.trans e0)
  subst this
  refine pas_dy (m := m') (Or.inl rfl) hc' ?_ (by rw [hn]; exact q2) (by rw [hn]; exact q3) hm e0 ?_
  · rw [hn]
    refine ⟨r10, ?_, r8, r9, fun u hu => ?_⟩
    · unfold bthM
      rw [xs_eq, xs_eq, r10, r11]
    · unfold bthM
      rw [xs_nk (by have := h1.1.1.2; omega)]
      exact hg u hu
  · rw [xs_eq, e0]
    exact iBt_set (iBt_mono hb1 (by omega)) (by omega) (by omega)
theorem eq_bathe (hi : Inv α β) : (f_bathe α).1 = (g_bathe β).1 ∧ Inv (f_bathe α).2 (g_bathe β).2 := by
  have hd := hi.2.1
  have hv := hi.2.2.1.1
  unfold f_bathe g_bathe
  by_cases f : 24 ≤ α.1 16 0
  · rw [if_pos f, if_pos ((full_eq hd).mp f)]; exact ⟨rfl, hi⟩
  · rw [if_neg f, if_neg (fun q => f ((full_eq hd).mpr q))]
    obtain ⟨m, hm, e0⟩ := full_no hd f
    have h := bth_fin (rem_Inv hi) hm (by rw [remX_ne hv (by decide) (by decide) (by decide)]; exact e0)
    have g := h.2.1.2.2.2.1
    dsimp only
    exact ⟨g.symm, h⟩
end EQ10
