/-! both sides: when he touched it; the town -/
section EQ15
variable {α β : xm_M}
theorem ig_eq (hi : Inv α β) {i j : Nat} (hi24 : i < 24) (hj : j < 24) : decide (nI i ≤ nI j ∧ nI j < geX α (nI i)) = igM β (nI i) (nI j) := by
  obtain ⟨nn, hnn, enn⟩ := hi.1.2.2.2.2.2.2.1
  have e5 : β.1 36 5 = α.1 1 8 := hi.1.2.2.2.2.2.1
  have r11 : β.1 41 11 = α.1 16 1 := hi.2.1.2.2.2.2.1
  have eh := eq_hand hi.1 (α.1 16 1) (mm := i) (by omega)
  have l1 : nI i ≤ nI j ↔ i ≤ j := nI_leI (by omega) (by omega)
  have l2 : nI j < nI i ↔ j < i := nI_ltI (by omega) (by omega)
  have l3 : nI i < nI nn ↔ i < nn := nI_ltI (by omega) (by omega)
  have l4 : nI nn ≤ nI i ↔ nn ≤ i := nI_leI (by omega) (by omega)
  have l5 : nI j < nI nn ↔ j < nn := nI_ltI (by omega) (by omega)
  have l6 : nI j < 24 ↔ j < 24 := nI_ltI (b := 24) (by omega) (by decide)
  have l7 : nI i = 24 ↔ i = 24 := nI_eq (b := 24) (by omega) (by decide)
  have n10 : ¬ (1 : Int32) = 0 := by decide
  have n20 : ¬ (2 : Int32) = 0 := by decide
  have n21 : ¬ (2 : Int32) = 1 := by decide
  have n12 : ¬ (1 : Int32) = 2 := by decide
  have n02 : ¬ (0 : Int32) = 2 := by decide
  have n01 : ¬ (0 : Int32) = 1 := by decide
  unfold geX igM
  rw [e5, enn, r11, eh]
  by_cases c : i = 24 ∨ j < i
  · rw [if_pos (c := nI i = 24 ∨ nI j < nI i) (c.imp l7.mpr l2.mpr)]
    refine decide_eq_false (fun q => ?_)
    have := l1.mp q.1
    omega
  · rw [if_neg (c := nI i = 24 ∨ nI j < nI i) (fun q => c (q.imp l7.mp l2.mp))]
    have l1' : nI i ≤ nI j := l1.mpr (by omega)
    apply decide_eq_decide.mpr
    rcases h012 (β := β) (α.1 16 1) (nI i) with e | e | e
    · rw [e, if_pos rfl, l2]
      simp only [n02, n01, false_and, or_false, iff_false]
      intro q
      omega
    · rw [e, if_neg n10]
      simp only [n12, true_and, false_or, l4, l5]
      by_cases z : i < nn
      · rw [if_pos (l3.mpr z), l5]
        refine ⟨fun q => Or.inr q.2, fun q => ⟨l1', by omega⟩⟩
      · rw [if_neg (fun q => z (l3.mp q)), l6]
        exact ⟨fun _ => Or.inl (by omega), fun _ => ⟨l1', hj⟩⟩
    · rw [e, if_neg n20, if_neg (fun q => n21 q.1), l6]
      exact ⟨fun _ => Or.inl rfl, fun _ => ⟨l1', hj⟩⟩
theorem fs_eq (hi : Inv α β) (x : Int32) {i : Nat} (hi24 : i < 24) {k : Nat} (hk : k < scX α) : fsX α x (nI i) (geX α (nI i)) k = fsM β x i k := by
  obtain ⟨a1, a2, a3, ⟨m, hm, em⟩, -⟩ := hi.2.2.2.2.2.2.1.2.2 k hk
  unfold fsX fsM
  rw [a1, a2, a3, em, ig_eq hi hi24 hm]
theorem fs_no (hi : Inv α β) (x : Int32) {k : Nat} (hk : k < scX α) : fsX α x 0 0 k = fsM β x 24 k := by
  obtain ⟨a1, a2, a3, ⟨m, hm, em⟩, -⟩ := hi.2.2.2.2.2.2.1.2.2 k hk
  unfold fsX fsM igM
  rw [a1, a2, a3, if_pos (c := nI 24 = 24 ∨ α.1 24 k < nI 24) (Or.inl rfl)]
  congr 2
  refine decide_eq_false (fun q => ?_)
  exact absurd (Int32.lt_of_le_of_lt q.1 q.2) (by decide)
theorem eq_fit (hi : Inv α β) (x : Int32) : f_fit α x = g_fit β x := by
  obtain ⟨m, hm, em, ex, eM, er⟩ := mi_ex hi
  have esm : smM β = scX α := by unfold smM scX; rw [hi.2.2.2.2.2.2.1.2.1]
  have h1 : ∀ k, k ≤ m → fiM β x k = ftR α x k := by
    intro k
    induction k with
    | zero => intro _; rfl
    | succ k ih =>
      intro hk
      have e0 : f0M β k = true := decide_eq_true (Or.inl (by rw [er]; exact nI_lt (by omega) (by omega)))
      have ea : allN (fsM β x k) (smM β) = allN (fsX α x (nI k) (geX α (nI k))) (scX α) := by
        rw [esm]
        exact allN_cg (fun j hj => (fs_eq hi x (by omega) hj).symm)
      rw [fiM, ftR, ih (by omega), e0, Bool.true_and, ea]
      split
      · rfl
      · rw [or0]
  have h2 : ∀ k, m + k ≤ 24 → fiM β x (m + k) = ftR α x m := by
    intro k
    induction k with
    | zero => intro _; exact h1 m (Nat.le_refl _)
    | succ k ih =>
      intro hk
      have e0 : f0M β (m + k) = false := decide_eq_false (fun q => by
        rw [er] at q
        rcases q with q | q
        · have := (nI_ltI (by omega) (by omega)).mp q
          omega
        · have := (nI_eq (b := 24) (by omega) (by decide)).mp q
          omega)
      rw [← Nat.add_assoc, fiM, ih (by omega), e0, Bool.false_and, if_neg (by decide), or0]
  have h3 := h2 (24 - m) (by omega)
  rw [show m + (24 - m) = 24 by omega] at h3
  have e24 : f0M β 24 = true := decide_eq_true (Or.inr rfl)
  have ea : allN (fsM β x 24) (smM β) = allN (fsX α x 0 0) (scX α) := by
    rw [esm]
    exact allN_cg (fun j hj => (fs_no hi x hj).symm)
  unfold f_fit g_fit
  rw [eq_isT hi.1, ex]
  by_cases c : isTm β x = false
  · rw [if_pos c, if_pos c]
  · rw [if_neg c, if_neg c, fiM, h3, e24, Bool.true_and, ea]
    split
    · rfl
    · rw [or0]
theorem twt_at {s : Nat} {j : Nat} : ∀ k, (twt β s k).1 42 j = if j < k ∧ hb (nI s) (nI j) = true then 2 else (tr0 β).1 42 j
  | 0 => by rw [twt, if_neg (by omega)]
  | k + 1 => by
    have ih := twt_at (s := s) (j := j) k
    rw [twt]
    by_cases e : j = k
    · subst e
      by_cases c : hb (nI s) (nI j) = true
      · rw [if_pos c, xs_eq, if_pos ⟨Nat.lt_succ_self _, c⟩]
      · rw [if_neg c, ih, if_neg (fun q => c q.2), if_neg (fun q => c q.2)]
    · have q : (if hb (nI s) (nI k) = true then xm_set (twt β s k) 42 k 2 else twt β s k).1 42 j = (twt β s k).1 42 j := by
        split
        · exact xs_nk e
        · rfl
      rw [q, ih]
      by_cases c : j < k ∧ hb (nI s) (nI j) = true
      · rw [if_pos c, if_pos ⟨by omega, c.2⟩]
      · rw [if_neg c, if_neg (fun q => c ⟨by omega, q.2⟩)]
theorem tw_dz (hi : Inv α β) (s : Nat) : iDz (nX α) ((twA α s).1 17) ((twt β s (nX α)).1 42) := by
  have n8 := hi.1.1.2
  obtain ⟨r10, r11, r8, r9, hg⟩ := hi.2.1.2.2.2
  unfold twA
  refine ⟨?_, ?_, ?_, ?_, ?_⟩
  · rw [twt_at, if_neg (by omega), t0_k (by decide), ah_k (by decide) (by decide), r10]
  · rw [twt_at, if_neg (by omega), t0_k (by decide), ah_k (by decide) (by decide), r11]
  · rw [twt_at, if_neg (by omega), t0_k (by decide), ah_k (by decide) (by decide), r8]
  · rw [twt_at, if_neg (by omega), t0_k (by decide), ah_k (by decide) (by decide), r9]
  · intro u hu
    rw [twt_at, t0_k (by omega), ah_3, ah_k (by decide) (by decide), vG_bt (by omega), b_or, hg u hu, vG_bt (by omega), hb_bt (by omega)]
    cases bt (nI s) u
    · rw [Bool.or_false, if_neg (fun q => absurd q.2 (by decide))]
    · rw [Bool.or_true, if_pos ⟨hu, rfl⟩, if_pos rfl]
theorem fr_bt {j : Nat} (hj : j < 32) : ∀ k, k ≤ 8 → bt (frX α k) j = (decide (j < k) && decide (¬ (α.1 2 j = 3 ∨ hb (α.1 16 3) (nI j) = true ∨ loX α 16 j = true)))
  | 0, _ => by rw [frX, b_0, decide_eq_false (by omega)]; rfl
  | k + 1, hk => by
    have ih := fr_bt hj k (by omega)
    rw [frX]
    by_cases e : j = k
    · subst e
      rw [decide_eq_false (Nat.lt_irrefl j), Bool.false_and] at ih
      rw [decide_eq_true (Nat.lt_succ_self j), Bool.true_and]
      by_cases c : α.1 2 j = 3 ∨ hb (α.1 16 3) (nI j) = true ∨ loX α 16 j = true
      · rw [if_pos c, ih, decide_eq_false (fun q => q c)]
      · rw [if_neg c, b_set hj, ih, decide_eq_true rfl, decide_eq_true c]; rfl
    · rw [show decide (j < k + 1) = decide (j < k) from decide_eq_decide.mpr (by omega), ← ih]
      split
      · rfl
      · rw [b_set (by omega), decide_eq_false e, Bool.or_false]
theorem sub_iff {x y : Int32} : (x &&& (y ^^^ (-1)) = 0) ↔ ∀ j, j < 32 → bt x j = true → bt y j = true := by
  refine ⟨fun h j hj q => ?_, fun h => b_ext (fun j hj => ?_)⟩
  · have := congrArg (fun v => bt v j) h
    simp only [b_and, b_xor, b_m1 j hj, b_0, q] at this
    revert this
    cases bt y j <;> simp
  · rw [b_and, b_xor, b_m1 j hj, b_0]
    have := h j hj
    revert this
    cases bt x j <;> cases bt y j <;> simp
theorem tw_sub (hi : Inv α β) {s : Nat} (hs : s < 2 ^ nX α) : decide (nI s &&& (frX α (nX α) ^^^ (-1)) = 0) = allN (twa β s) (nM β) := by
  have n8 := hi.1.1.2
  have hz := hi.2.1.2.2.2
  have tw : ∀ t, t < nX α → (twa β s t = true ↔ (bt (nI s) t = true → ¬ (α.1 2 t = 3 ∨ hb (α.1 16 3) (nI t) = true ∨ loX α 16 t = true))) := by
    intro t ht
    have g := hz.2.2.2.2 t ht
    have a1 := (hi.1.2.2.2.2.2.2.2.2 t ht).1
    have l2 : ¬ (2 : Int32) < 2 := by decide
    have l1 : (1 : Int32) < 2 := by decide
    have l0 : (0 : Int32) < 2 := by decide
    unfold twa
    rw [eq_th hi.1 hz ht, a1, g, hb_bt (by omega), vG_bt (by omega), hb_bt (by omega)]
    cases bt (nI s) t
    · simp
    · cases bt (α.1 16 3) t
      · cases bt (α.1 16 2) t <;> cases loX α 16 t <;> by_cases z : α.1 2 t = 3 <;> simp [z, l1, l0]
      · simp [l2]
  rw [nM_nX hi.1]
  rw [Bool.eq_iff_iff, decide_eq_true_eq, sub_iff, allN_true]
  refine ⟨fun h t ht => (tw t ht).mpr (fun q => ?_), fun h j hj q => ?_⟩
  · have := h t (by omega) q
    rw [fr_bt (by omega) _ n8, decide_eq_true ht, Bool.true_and, decide_eq_true_eq] at this
    exact this
  · have jn : j < nX α := by
      rcases Nat.lt_or_ge j (nX α) with z | z
      · exact z
      · rw [b_nI hj, Nat.testBit_lt_two_pow (Nat.lt_of_lt_of_le hs (Nat.pow_le_pow_right (by decide) z))] at q
        exact absurd q (by decide)
    rw [fr_bt hj _ n8, decide_eq_true jn, Bool.true_and, decide_eq_true_eq]
    exact (tw j jn).mp (h j jn) q
theorem tw_hi {g : Int32} {s : Nat} (n8 : nX α ≤ 8) (hs : s < 256) (h : twO α g s = true) : s < 2 ^ nX α := by
  unfold twO at h
  rw [Bool.and_eq_true, decide_eq_true_eq, sub_iff] at h
  apply Nat.lt_pow_two_of_testBit
  intro j hj
  rcases Nat.lt_or_ge j 8 with z | z
  · by_cases q : s.testBit j = true
    · have := h.1 j (by omega) (by rw [b_nI (by omega)]; exact q)
      rw [fr_bt (by omega) _ n8, decide_eq_false (by omega), Bool.false_and] at this
      exact absurd this (by decide)
    · rw [Bool.not_eq_true] at q; exact q
  · exact Nat.testBit_lt_two_pow (Nat.lt_of_lt_of_le hs (Nat.pow_le_pow_right (n := 2) (by decide) z))
theorem tw_one (hi : Inv α β) (g : Int32) {s : Nat} (hs : s < 2 ^ nX α) : twO α g s = twm β g s ∧ twP α s = twp β s := by
  have n8 := hi.1.1.2
  have sx : sm17 α (twA α s) := ahd_sm
  have sf : smF β (twt β s (nM β)) := twt_sm _ (by rw [nM_nX hi.1]; exact n8)
  have hz := tw_dz hi s
  have hc := co_sm sx sf hi.1
  have en := n_sm sx
  rw [← nM_nX hi.1] at hz
  have hz' : iDz (nX (twA α s)) ((twA α s).1 17) ((twt β s (nM β)).1 42) := by rw [en, ← nM_nX hi.1]; exact hz
  have lost : ∀ t, loX (twA α s) 17 t = loX α 16 t := fun t => by
    unfold loX vL
    rw [show (twA α s).1 17 4 = α.1 16 4 from ah_k (by decide) (by decide), show (twA α s).1 17 5 = α.1 16 5 from ah_k (by decide) (by decide), sx 5 (by decide)]
  have og : sumI (nX (twA α s)) (ogX (twA α s) 17) = sumI (nM β) (two β s) := by
    rw [en, nM_nX hi.1]
    refine sumI_congr (fun t ht => ?_)
    have a1 := (hi.1.2.2.2.2.2.2.2.2 t ht).1
    have g1 : (twt β s (nM β)).1 42 t = gX (twA α s) 17 t := hz'.2.2.2.2 t (by omega)
    have g2 : (twt β s (t + 1)).1 42 t = (twt β s (nM β)).1 42 t := by
      rw [twt_at, twt_at, nM_nX hi.1]
      by_cases c : hb (nI s) (nI t) = true
      · rw [if_pos ⟨by omega, c⟩, if_pos ⟨ht, c⟩]
      · rw [if_neg (fun q => c q.2), if_neg (fun q => c q.2)]
    unfold ogX two
    rw [g2, g1, a1, eq_th hi.1 hi.2.1.2.2.2 ht, lost, sx 2 (by decide)]
    cases loX α 16 t <;> simp
  refine ⟨?_, ?_⟩
  · unfold twO twm
    rw [tw_sub hi hs, lo_eq hc hz', og, Bool.and_comm (decide (loM _ _ _ = -1))]
  · unfold twP twp
    rw [nM_nX hc]
    exact sumI_congr (fun i hi' => (eq_pr hc hz' hi').symm)
theorem eq_town (hi : Inv α β) (g y : Int32) : f_town α g y = g_town β g y := by
  have n8 := hi.1.1.2
  have h1 : ∀ s, s ≤ 2 ^ nX α → twR α g s = twk β g s := by
    intro s
    induction s with
    | zero => intro _; rfl
    | succ s ih =>
      intro hs
      obtain ⟨a, b⟩ := tw_one hi g (s := s) (by omega)
      rw [twR, twk, ih (by omega), a, b]
  have h2 : ∀ k, 2 ^ nX α + k ≤ 256 → twR α g (2 ^ nX α + k) = twR α g (2 ^ nX α) := by
    intro k
    induction k with
    | zero => intro _; rfl
    | succ k ih =>
      intro hk
      rw [← Nat.add_assoc, twR, ih (by omega), if_neg]
      intro q
      have := tw_hi n8 (by omega) q.1
      omega
  have p8 := pow_le (nX α) n8
  have h3 := h2 (256 - 2 ^ nX α) (by omega)
  rw [show 2 ^ nX α + (256 - 2 ^ nX α) = 256 by omega, h1 _ (Nat.le_refl _)] at h3
  unfold f_town g_town
  rw [nM_nX hi.1, h3]
  by_cases c : g < 0 ∨ 8 < g ∨ y < 0 ∨ 1 < y
  · rw [if_pos c, if_pos (by rw [inB_f, inB_f, or_assoc]; exact c)]
  · rw [if_neg c, if_neg (c := inB g 0 8 = false ∨ inB y 0 1 = false) (by rw [inB_f, inB_f, or_assoc]; exact c)]
end EQ15
