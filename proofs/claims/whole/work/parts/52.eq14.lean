/-! both sides: what is foretold of floors and prices -/
section EQ14
variable {α β : xm_M} {a s : Nat}
theorem ov_eq (hc : iCo α β) (hz : iDz (nX α) (α.1 a) (β.1 s)) {f : Nat} (hf : f < 3) : (ovX α a f = true) ↔ (hb (β.1 s 9) (nI f) = false ∧ β.1 38 f < ldM β s (nI f) (nM β)) := by
  unfold ovX
  rw [eq_ld hc hz, hz.2.2.2.1, (hc.2.2.2.2.2.2.2.1 f hf).1, Bool.and_eq_true, decide_eq_true_eq]
  cases hb (α.1 a 5) (nI f) <;> simp
theorem lo_eq (hc : iCo α β) (hz : iDz (nX α) (α.1 a) (β.1 s)) : vFO (ovX α a) 3 0 = loM β s 3 := by
  have e0 := ov_eq hc hz (f := 0) (by decide)
  have e1 := ov_eq hc hz (f := 1) (by decide)
  have e2 := ov_eq hc hz (f := 2) (by decide)
  show (if ovX α a 0 = true then nI 0 else if ovX α a 1 = true then nI 1 else if ovX α a 2 = true then nI 2 else -1) = (if hb (β.1 s 9) (nI 0) = false ∧ β.1 38 0 < ldM β s (nI 0) (nM β) then nI 0 else if hb (β.1 s 9) (nI 1) = false ∧ β.1 38 1 < ldM β s (nI 1) (nM β) then nI 1 else if hb (β.1 s 9) (nI 2) = false ∧ β.1 38 2 < ldM β s (nI 2) (nM β) then nI 2 else -1)
  simp only [e0, e1, e2]
/-- more gold for ever -/
theorem dz_ever {n : Nat} {D R D' R' : Nat → Int32} {t : Nat} (hn : n ≤ 8) (ht : t < n) (h : iDz n D R) (hD : ∀ k, k < 6 → k ≠ 3 → D' k = D k) (d3 : D' 3 = D 3 ||| (1 <<< (nI t &&& 31))) (hR : ∀ k, R' k = if k = t then 2 else R k) : iDz n D' R' := by
  obtain ⟨r10, r11, r8, r9, hg⟩ := h
  refine ⟨?_, ?_, ?_, ?_, ?_⟩
  · rw [hR, if_neg (by omega), hD 0 (by decide) (by decide), r10]
  · rw [hR, if_neg (by omega), hD 1 (by decide) (by decide), r11]
  · rw [hR, if_neg (by omega), hD 4 (by decide) (by decide), r8]
  · rw [hR, if_neg (by omega), hD 5 (by decide) (by decide), r9]
  · intro u hu
    rw [hR, d3, hD 2 (by decide) (by decide), vG_bt (by omega), b_set (by omega)]
    by_cases e : u = t
    · rw [if_pos e, decide_eq_true e, Bool.or_true, if_pos rfl]
    · rw [if_neg e, decide_eq_false e, Bool.or_false, hg u hu, vG_bt (by omega)]
theorem ah_k {ev : Int32} {k : Nat} (hk : k < 6) (h3 : k ≠ 3) : (ahd α ev).1 17 k = α.1 16 k := by
  unfold ahd
  rw [xs_nk h3, dcp_at hk]
theorem ah_3 {ev : Int32} : (ahd α ev).1 17 3 = ev := xs_eq
theorem t0_k {k : Nat} (hk : k < 12) : (tr0 β).1 42 k = β.1 41 k := by
  unfold tr0
  rw [cp_at (by omega) (by omega), Nat.zero_add, Nat.sub_zero]
theorem dz_0 {n : Nat} (hn : n ≤ 8) {D : Nat → Int32} (hz : iDz n (α.1 16) (β.1 41)) (hD : ∀ k, k < 6 → D k = α.1 16 k) : iDz n D ((tr0 β).1 42) := by
  obtain ⟨r10, r11, r8, r9, hg⟩ := hz
  refine ⟨?_, ?_, ?_, ?_, ?_⟩
  · rw [t0_k (by decide), hD 0 (by decide), r10]
  · rw [t0_k (by decide), hD 1 (by decide), r11]
  · rw [t0_k (by decide), hD 4 (by decide), r8]
  · rw [t0_k (by decide), hD 5 (by decide), r9]
  · intro u hu
    rw [t0_k (by omega), hD 2 (by decide), hD 3 (by decide)]
    exact hg u hu
/-- the court beside the days ahead -/
theorem co_sm {α' β' : xm_M} (hx : sm17 α α') (hm : smF β β') (hc : iCo α β) : iCo α' β' :=
  iCo_cg (fun c a b => hx c (by omega)) (congrFun (smF_ne hm (by decide)) _) (congrFun (smF_ne hm (by decide)) _) (congrFun (smF_ne hm (by decide)) _) (congrFun (smF_ne hm (by decide)) _) (smF_ne hm (by decide)) (smF_ne hm (by decide)) hc
theorem n_sm {α' : xm_M} (hx : sm17 α α') : nX α' = nX α := nX_of (hx 1 (by decide))
theorem tr_dz (hi : Inv α β) : ∀ k, k ≤ rcX α → iDz (nX α) ((ahd α (evR α k)).1 17) ((trM β k).1 42)
  | 0, _ => dz_0 hi.1.1.2 hi.2.1.2.2.2 (fun k hk => by
      by_cases e : k = 3
      · subst e; exact ah_3
      · exact ah_k hk e)
  | k + 1, h => by
    have ih := tr_dz hi k (by omega)
    have n8 := hi.1.1.2
    obtain ⟨e46, t, ht, et⟩ := hi.2.2.2.2.1.2.2 k (by omega)
    refine dz_ever (t := t) n8 ht ih (fun j hj h3 => by rw [ah_k hj h3, ah_k hj h3]) ?_ (fun j => ?_)
    · rw [ah_3, ah_3, evR, et]
    · rw [trM, e46, et, ixN_nI (by omega)]
      simp [xm_set]
theorem go_eqK (hi : Inv α β) (y : Int32) : ∀ n k, k + n = rcX α → goR α y n k = goK β y n k
  | 0, _, _ => rfl
  | n + 1, k, h => by
    have ih := go_eqK hi y n (k + 1) (by omega)
    have hrow : ∀ k, k < rmM β → ∃ t, t < 8 ∧ β.1 46 k = nI t := by
      intro k hk
      have erm : rmM β = rcX α := by unfold rmM rcX; rw [hi.2.2.2.2.1.2.1]
      obtain ⟨e46, t, ht, et⟩ := hi.2.2.2.2.1.2.2 k (by omega)
      exact ⟨t, by have := hi.1.1.2; omega, e46.trans et⟩
    have erm : rmM β = rcX α := by unfold rmM rcX; rw [hi.2.2.2.2.1.2.1]
    have sx : sm17 α (ahd α (evR α (k + 1))) := ahd_sm
    have hz := tr_dz hi (k + 1) (by omega)
    rw [← n_sm sx] at hz
    have e := lo_eq (co_sm sx (trM_sm hrow (k + 1) (by omega)) hi.1) hz
    rw [goR, goK, ih, e]
theorem y01_c {x : Int32} : (x < 0 ∨ 1 < x) ↔ inB x 0 1 = false := inB_f.symm
theorem eq_goes (hi : Inv α β) (y : Int32) : f_goes α y = g_goes β y := by
  have erm : rmM β = rcX α := by unfold rmM rcX; rw [hi.2.2.2.2.1.2.1]
  unfold f_goes g_goes
  by_cases c : y < 0 ∨ 1 < y
  · rw [if_pos c, if_pos (y01_c.mp c)]
  · rw [if_neg c, if_neg (fun q => c (y01_c.mpr q)), erm, go_eqK hi y _ _ (Nat.zero_add _)]
theorem ps_dy (hi : Inv α β) {m : Nat} (e0 : α.1 16 0 = nI m) : ∀ k, m + k ≤ 24 → iDy (nX α) ((psR α k).1 17) ((pnM β k).1 42) ∧ (psR α k).1 17 0 = nI (m + k)
  | 0, _ => by
    obtain ⟨⟨m', hm', em, hb1⟩, q2, q3, hz⟩ := hi.2.1
    have n8 := hi.1.1.2
    have e : ∀ k, k < 6 → (psR α 0).1 17 k = α.1 16 k := fun k hk => by rw [psR, dcp_at hk]
    refine ⟨⟨⟨m', hm', by rw [e 0 (by decide)]; exact em, by rw [e 1 (by decide)]; exact hb1⟩, by rw [e 2 (by decide)]; exact q2, by rw [e 3 (by decide)]; exact q3, dz_0 n8 hz e⟩, by rw [e 0 (by decide)]; exact e0⟩
  | k + 1, h => by
    obtain ⟨⟨⟨m', hm', em, hb1⟩, q2, q3, hz⟩, e1⟩ := ps_dy hi e0 k (by omega)
    have : m' = m + k := (nI_eq (by omega) (by omega)).mp (em.symm.trans e1)
    subst this
    have sx := psR_sm (σ := α) k
    have sf := pnM_sm (σ := β) (iCo_vXm hi.1) k
    have hn := n_sm sx
    rw [← hn] at hz q2 q3
    have hd := pas_dy (a := 17) (s := 42) (m := m + k) (Or.inr rfl) (co_sm sx sf hi.1) hz q2 q3 (by omega) e1 (iBt_mono hb1 (by omega))
    rw [hn] at hd
    refine ⟨hd, ?_⟩
    show (pasX (psR α k) 17).1 17 0 = _
    unfold pasX
    split
    · rw [xs_nk (by decide), xs_eq, e1, nI_1]; rfl
    · rw [xs_eq, e1, nI_1]; rfl
theorem pr_eqK (hi : Inv α β) {m : Nat} (e0 : α.1 16 0 = nI m) {k : Nat} (hk : m + k ≤ 24) : prK α k = prN β k := by
  have hd := (ps_dy hi e0 k hk).1
  have sx := psR_sm (σ := α) k
  have sf := pnM_sm (σ := β) (iCo_vXm hi.1) k
  have hc := co_sm sx sf hi.1
  have hz := hd.2.2.2
  rw [← n_sm sx] at hz
  unfold prK prN
  rw [nM_nX hc]
  exact sumI_congr (fun i hi' => (eq_pr hc hz hi').symm)
theorem mi_ex (hi : Inv α β) : ∃ m, m ≤ 24 ∧ α.1 16 0 = nI m ∧ miX α = m ∧ miM β = m ∧ β.1 41 10 = nI m := by
  obtain ⟨⟨m, hm, em, hb1⟩, -, -, r10, -⟩ := hi.2.1
  refine ⟨m, hm, em, ?_, ?_, by rw [r10, em]⟩
  · unfold miX; rw [em, nI_clamp (by omega)]
  · unfold miM; rw [r10, em, nI_clamp (by omega)]
theorem eq_price (hi : Inv α β) (x : Int32) : f_price α x = g_price β x := by
  obtain ⟨m, hm, em, ex, eM, er⟩ := mi_ex hi
  unfold f_price g_price
  by_cases c : x < α.1 16 0 ∨ 24 < x
  · rw [if_pos c, if_pos (inB_f.mpr (by rw [er, ← em]; exact c))]
  · rw [if_neg c, if_neg (fun q => c (by have := inB_f.mp q; rw [er, ← em] at this; exact this)), ex, eM]
    rw [em] at c
    have c1 : nI m ≤ x := by rw [← i_nlt]; exact fun q => c (Or.inl q)
    have c2 : x ≤ 24 := by rw [← i_nlt]; exact fun q => c (Or.inr q)
    obtain ⟨j, hj, rfl⟩ := le_ex 24 (by decide) (by decide) (Int32.le_trans (nI_pos' (by omega)) c1) c2
    have := (nI_leI (by omega) (by omega)).mp c1
    rw [ixN_nI (by omega)]
    exact pr_eqK hi em (by omega)
theorem pr_60 (hc : iCo α β) {t : Nat} (ht : t < nX α) : ∃ v, v ≤ 60 ∧ prX α a t = nI v := by
  obtain ⟨-, -, -, -, -, ⟨w, w1, w2, ew⟩, ⟨v, v4, ev⟩, -⟩ := hc.2.2.2.2.2.2.2.2 t ht
  unfold prX vP
  split
  · exact ⟨0, by omega, rfl⟩
  · split
    · exact ⟨v, by omega, ev⟩
    · exact ⟨3 * w, by omega, by rw [ew]; exact pk_mul 3 w⟩
theorem sum_60 {f : Nat → Int32} : ∀ {n : Nat}, (∀ t, t < n → ∃ v, v ≤ 60 ∧ f t = nI v) → ∃ v, v ≤ 60 * n ∧ sumI n f = nI v
  | 0, _ => ⟨0, by omega, rfl⟩
  | n + 1, h => by
    obtain ⟨v, hv, e⟩ := sum_60 (n := n) (fun t ht => h t (by omega))
    obtain ⟨u, hu, eu⟩ := h n (by omega)
    exact ⟨v + u, by omega, by rw [sumI, e, eu, nI_add]⟩
theorem prK_nn (hi : Inv α β) {k : Nat} : ∃ v, v ≤ 480 ∧ prK α k = nI v := by
  have sx := psR_sm (σ := α) k
  have sf := pnM_sm (σ := β) (iCo_vXm hi.1) k
  have hc := co_sm sx sf hi.1
  obtain ⟨v, hv, e⟩ := sum_60 (n := nX (psR α k)) (f := prX (psR α k) 17) (fun t ht => pr_60 hc ht)
  exact ⟨v, by have := hc.1.2; omega, e⟩
theorem sl_eq (hi : Inv α β) {m : Nat} (em : α.1 16 0 = nI m) (ex : miX α = m) : ∀ k, m + k ≤ 24 → slR α (k + 1) = (nI (m + seM β (k + 1)), prK α (seM β (k + 1)))
  | 0, _ => by
    obtain ⟨v, hv, e⟩ := prK_nn hi (k := 0)
    have s1 : seM β 1 = 0 := by
      rw [seM, seM]
      split <;> rfl
    rw [slR, slR, if_pos (by rw [e]; exact Int32.lt_of_lt_of_le (by decide : (-1 : Int32) < 0) (nI_pos' (by omega))), s1, ex]
  | k + 1, h => by
    have ih := sl_eq hi em ex k (by omega)
    have l := seM_le (σ := β) k
    have es : seM β (k + 1 + 1) = if prN β (seM β (k + 1)) < prN β (k + 1) then k + 1 else seM β (k + 1) := rfl
    rw [slR, ih, es, ex]
    dsimp only
    rw [pr_eqK hi em (k := seM β (k + 1)) (by omega), pr_eqK hi em (k := k + 1) (by omega)]
    by_cases c : prN β (seM β (k + 1)) < prN β (k + 1)
    · rw [if_pos c, if_pos c, pr_eqK hi em (k := k + 1) (by omega)]
    · rw [if_neg c, if_neg c, pr_eqK hi em (k := seM β (k + 1)) (by omega)]
theorem eq_sell (hi : Inv α β) (y : Int32) : f_sell α y = g_sell β y := by
  obtain ⟨m, hm, em, ex, eM, er⟩ := mi_ex hi
  unfold f_sell g_sell
  by_cases c : y < 0 ∨ 1 < y
  · rw [if_pos c, if_pos (y01_c.mp c)]
  · have l := seM_le (σ := β) (24 - m)
    rw [if_neg c, if_neg (fun q => c (y01_c.mpr q)), ex, eM, show 25 - m = 24 - m + 1 by omega, sl_eq hi em ex (24 - m) (by omega), pr_eqK hi em (by omega)]
theorem lot_eq (hi : Inv α β) {t : Nat} (ht : t < nX α) (f : Int32) : gnX α t f = lotM β t f := by
  have hz := hi.2.1.2.2.2
  obtain ⟨-, a2, -, a4, -⟩ := hi.1.2.2.2.2.2.2.2.2 t ht
  unfold gnX lotM
  rw [a2, a4, eq_pr hi.1 hz ht, hz.2.2.1]
  generalize 3 * α.1 3 t - prX α 16 t = v
  by_cases p : hb (α.1 16 4) (nI t) = true ∨ α.1 5 t = f
  · rw [if_pos p, if_pos (by rcases p with p | p; exact Or.inr (Or.inl p); exact Or.inl p)]
  · rw [if_neg p]
    by_cases q : v < 0
    · rw [if_pos (Or.inr (Or.inr q)), if_neg]
      intro z
      exact absurd (Int32.lt_trans z q) (by rw [i_nlt]; exact Int32.le_refl _)
    · rw [if_neg (c := α.1 5 t = f ∨ hb (α.1 16 4) (nI t) = true ∨ v < 0) (fun z => by rcases z with z | z | z; exact p (Or.inr z); exact p (Or.inl z); exact q z)]
      split
      · rfl
      · rename_i w
        rw [i_nlt] at w q
        exact (Int32.le_antisymm w q).symm
theorem allN_cg {p q : Nat → Bool} : ∀ {n : Nat}, (∀ i, i < n → p i = q i) → allN p n = allN q n
  | 0, _ => rfl
  | n + 1, h => by rw [allN, allN, allN_cg (fun i hi => h i (by omega)), h n (by omega)]
theorem thI_cg {r r' : Nat → Nat → Bool} {t : Nat} {p : Int32 × Int32 × Int32} : ∀ f, (∀ g, g < f → r t g = r' t g) → thI r t p f = thI r' t p f
  | 0, _ => rfl
  | f + 1, h => by rw [thI, thI, thI_cg f (fun g hg => h g (by omega)), h f (by omega)]
theorem thO_cg {r r' : Nat → Nat → Bool} : ∀ n, (∀ t, t < n → ∀ f, f < 3 → r t f = r' t f) → thO r n = thO r' n
  | 0, _ => rfl
  | n + 1, h => by rw [thO, thO, thO_cg n (fun t ht => h t (by omega)), thI_cg 3 (h n (by omega))]
theorem eq_thief (hi : Inv α β) (y : Int32) : f_thief α y = g_thief β y := by
  have e : thO (rsX α) (nX α) = thO (rsM β) (nM β) := by
    rw [nM_nX hi.1]
    refine thO_cg _ (fun t ht f hf => ?_)
    unfold rsX rsM
    rw [nM_nX hi.1]
    congr 1
    · exact allN_cg (fun u hu => by rw [lot_eq hi hu, lot_eq hi ht])
    · exact allN_cg (fun g hg => by rw [lot_eq hi ht, lot_eq hi ht])
  unfold f_thief g_thief
  by_cases c : y < 0 ∨ 2 < y
  · rw [if_pos c, if_pos (inB_f.mpr c)]
  · rw [if_neg c, if_neg (fun q => c (inB_f.mp q)), e]
end EQ14
