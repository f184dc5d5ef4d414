/-! both sides: the next token -/
/-- both read the same text from the same place -/
def RT (σ τ : xm_M) : Prop := vRd σ ∧ vPo τ ∧ lM τ = b3 σ ∧ poM τ = teN σ ∧ ∀ j, j < b3 σ → τ.1 39 j = σ.1 14 j
/-- the same token is in hand -/
def TkR (σ τ : xm_M) : Prop := (∃ s, s ≤ 160 ∧ σ.1 13 3 = nI s) ∧ τ.1 36 9 = σ.1 13 3 ∧ (τ.2 = -2 ↔ b3 σ ≤ tsN σ) ∧ (τ.2 = -3 ↔ (tsN σ < b3 σ ∧ σ.1 14 (tsN σ) = 59)) ∧ kdM τ.2 = piW (wdX σ) ∧ (τ.2 = -1 → ∃ x, x ≤ 99 ∧ τ.1 36 12 = nI x ∧ nuX σ = nI x) ∧ (¬ τ.2 = -1 → nuX σ = -1)
theorem m64 : (-1 : Int64) = lN (2 ^ 64 - 1) ∧ (-2 : Int64) = lN (2 ^ 64 - 2) ∧ (-3 : Int64) = lN (2 ^ 64 - 3) := by decide +kernel
section TOK2
variable {σ τ : xm_M}
theorem ntS_cg {s : Nat} {L : Nat → Int32} {n : Nat} (hn : lM τ = n) (hs : s ≤ n) (h : ∀ j, j < n → τ.1 39 j = L j) : ntS τ s = (if s = n then lpM τ s s 0 0 (-2) else if smL (L s) = true then lpM τ s (leM L n s) 0 0 (if nI (leM L n s - s) ≤ 9 then wcM L s (leM L n s - s) else -4) else if dgL (L s) = true then lpM τ s (deM L n s) (nI (deM L n s - s)) (nuM L s (deM L n s - s)) (if nI (deM L n s - s) ≤ 2 then -1 else -4) else lpM τ s (s + 1) 0 0 (if L s = 59 then -3 else -4)) := by
  unfold ntS
  rw [hn]
  by_cases c : s = n
  · rw [if_pos c, if_pos c]
  · have sl := h s (by omega)
    have l1 : leM (τ.1 39) n s = leM L n s := rnE_cg h _ _
    have l2 : deM (τ.1 39) n s = deM L n s := rnE_cg h _ _
    have i1 := rnE_in (L := L) (n := n) (p := smL) (n - s) s (by omega)
    have i2 := rnE_in (L := L) (n := n) (p := dgL) (n - s) s (by omega)
    have i1' : leM L n s ≤ n := i1.2
    have i2' : deM L n s ≤ n := i2.2
    rw [if_neg c, if_neg c, sl, l1, l2, wcM_cg _ (fun i hi => h (s + i) (by omega)), nuM_cg _ (fun i hi => h (s + i) (by omega))]
theorem tk_step (h : RT σ τ) : RT (ntX σ (teN σ)) (ntM τ) ∧ TkR (ntX σ (teN σ)) (ntM τ) := by
  obtain ⟨hr, hp, hl, hpo, ht⟩ := h
  obtain ⟨r1, r2, t3, t4⟩ := ntX_vK hr
  obtain ⟨n1, n2⟩ := nt_ok hp
  have e14 : (ntX σ (teN σ)).1 14 = σ.1 14 := ntX_ne (by decide)
  have eb : b3 (ntX σ (teN σ)) = b3 σ := ntX_b3
  have n160 := hr.1.2
  obtain ⟨s1, s2⟩ := tkS_in (L := σ.1 14) hr.2.2.2
  have e3 : (ntX σ (teN σ)).1 13 3 = nI (tsN (ntX σ (teN σ))) := r2.2.1
  have et : tkS (τ.1 39) (lM τ) (poM τ) = tkS (σ.1 14) (b3 σ) (teN σ) := by
    unfold tkS
    rw [hl, hpo]
    exact skB_cg ht _ _
  have en : ntM τ = ntS τ (tkS (σ.1 14) (b3 σ) (teN σ)) := by unfold ntM; rw [et]
  rw [ntS_cg hl s2 ht] at en
  have lm : lM (ntM τ) = lM τ := by unfold lM; rw [n2.2 6 (by decide) (by decide) (by decide) (by decide) (by decide) (by decide)]
  have l39 : (ntM τ).1 39 = τ.1 39 := n2.1 39 (by decide) (by decide)
  have ew : wdX (ntX σ (teN σ)) = vFO (isTk (σ.1 14) (tsN (ntX σ (teN σ))) (teN (ntX σ (teN σ)))) 11 0 := by unfold wdX; rw [e14]
  have eu : nuX (ntX σ (teN σ)) = rdN (σ.1 14) (tsN (ntX σ (teN σ))) (teN (ntX σ (teN σ))) := by unfold nuX; rw [e14]
  have key : poM (ntM τ) = teN (ntX σ (teN σ)) ∧ TkR (ntX σ (teN σ)) (ntM τ) := by
    unfold TkR
    rw [ew, eu, e3, eb, e14]
    rw [← t3] at en t4 s2
    generalize ntX σ (teN σ) = σ1 at *
    generalize tsN σ1 = s at *
    generalize teN σ1 = e at *
    generalize σ.1 14 = L at *
    generalize b3 σ = n at *
    generalize ntM τ = τ1 at *
    subst t4
    by_cases c : s = n
    · have ee : tkE L n s = s := by unfold tkE; rw [if_neg (by omega)]
      rw [if_pos c] at en
      rw [ee, en]
      refine ⟨by unfold poM; rw [lq8, nI_clamp (by omega)], ⟨s, by omega, rfl⟩, lq9, ⟨fun _ => by omega, fun _ => rfl⟩, ⟨fun q => absurd q (by show ¬ (-2 : Int64) = -3; decide), fun q => by omega⟩, ?_, fun q => absurd q (by show ¬ (-2 : Int64) = -1; decide), fun _ => ?_⟩
      · rw [vFO_no 11 0 (fun w _ hw => isTk_no (by omega) (Or.inl (by omega)))]
        show kdM (-2) = _
        decide
      · unfold rdN; rw [if_pos (Or.inl (Nat.le_refl _))]
    · rw [if_neg c] at en
      have sn : s < n := by omega
      by_cases c1 : smL (L s) = true
      · obtain ⟨te, tl⟩ := tkE_s sn c1
        rw [if_pos c1, ← te] at en
        rw [← te] at tl
        have ti := (tkE_in (L := L) (n := n) (s := s) (by omega)).2
        have all : ∀ i, i < tkE L n s - s → smL (L (s + i)) = true := fun i hi => by
          rw [te] at hi
          exact rnE_all (L := L) (n := n) (p := smL) (n - s) s (s + i) (by omega) (by show s + i < leM L n s; omega)
        generalize tkE L n s = e at *
        have nd : ¬ L s = 59 := fun q => by rw [q] at c1; exact absurd c1 (by decide)
        have er : rdN L s e = -1 := by
          unfold rdN
          by_cases z : e ≤ s ∨ s + 2 < e
          · rw [if_pos z]
          · rw [if_neg z, if_neg]
            rw [allN_no (i := 0) (by omega) (by rw [Nat.add_zero]; exact sd_no c1)]
            decide
        by_cases l9 : e - s ≤ 9
        · rw [if_pos (c := nI (e - s) ≤ 9) (nI_le (b := 9) l9 (by decide)), wc_cN _ l9 all] at en
          have hN : cN (fun i => ixN (L (s + i)) - 96) (e - s) < 2 ^ 63 := by
            have a := cN_lt (f := fun i => ixN (L (s + i)) - 96) (e - s) (fun i hi => by
              obtain ⟨c, c1, c2, ec⟩ := sm_ex (all i hi)
              show ixN (L (s + i)) - 96 ≤ 26
              rw [ec, ixN_nI (by omega)]
              omega)
            have b := Nat.pow_le_pow_right (n := 27) (by decide) l9
            have d : (27 : Nat) ^ 9 < 2 ^ 63 := by decide
            omega
          rw [en]
          have x1 : ¬ lN (cN (fun i => ixN (L (s + i)) - 96) (e - s)) = -1 := fun q => by
            have := lN_inj (by omega) (by decide) (q.trans m64.1)
            omega
          have x2 : ¬ lN (cN (fun i => ixN (L (s + i)) - 96) (e - s)) = -2 := fun q => by
            have := lN_inj (by omega) (by decide) (q.trans m64.2.1)
            omega
          have x3 : ¬ lN (cN (fun i => ixN (L (s + i)) - 96) (e - s)) = -3 := fun q => by
            have := lN_inj (by omega) (by decide) (q.trans m64.2.2)
            omega
          refine ⟨by unfold poM; rw [lq8, nI_clamp (by omega)], ⟨s, by omega, rfl⟩, lq9, ⟨fun q => absurd q x2, fun q => by omega⟩, ⟨fun q => absurd q x3, fun q => absurd q.2 nd⟩, ?_, fun q => absurd q x1, fun _ => er⟩
          rw [vFO_cg 11 0 (fun w _ hw => isTk_code (by omega) all)]
          exact kd_code hN
        · rw [if_neg (c := nI (e - s) ≤ 9) (fun q => l9 ((nI_leI (b := 9) (by omega) (by decide)).mp q))] at en
          rw [en]
          refine ⟨by unfold poM; rw [lq8, nI_clamp (by omega)], ⟨s, by omega, rfl⟩, lq9, ⟨fun q => absurd q (by show ¬ (-4 : Int64) = -2; decide), fun q => by omega⟩, ⟨fun q => absurd q (by show ¬ (-4 : Int64) = -3; decide), fun q => absurd q.2 nd⟩, ?_, fun q => absurd q (by show ¬ (-4 : Int64) = -1; decide), fun _ => er⟩
          rw [vFO_no 11 0 (fun w _ hw => isTk_no (by omega) (Or.inr (Or.inl (by omega))))]
          show kdM (-4) = _
          decide
      · rw [if_neg c1] at en
        rw [Bool.not_eq_true] at c1
        have ewn : ∀ e, vFO (isTk L s e) 11 0 = -1 := fun e => vFO_no 11 0 (fun w _ hw => isTk_no (by omega) (Or.inr (Or.inr c1)))
        by_cases c2 : dgL (L s) = true
        · obtain ⟨te, tl⟩ := tkE_d sn c2
          rw [if_pos c2, ← te] at en
          rw [← te] at tl
          have ti := (tkE_in (L := L) (n := n) (s := s) (by omega)).2
          have all : ∀ i, i < tkE L n s - s → dgL (L (s + i)) = true := fun i hi => by
            rw [te] at hi
            exact rnE_all (L := L) (n := n) (p := dgL) (n - s) s (s + i) (by omega) (by show s + i < deM L n s; omega)
          generalize tkE L n s = e at *
          have nd : ¬ L s = 59 := fun q => by rw [q] at c2; exact absurd c2 (by decide)
          rw [ewn]
          by_cases l2 : e - s ≤ 2
          · rw [if_pos (c := nI (e - s) ≤ 2) (nI_le (b := 2) l2 (by decide))] at en
            obtain ⟨x, hx, x1, x2⟩ := num_eq (L := L) (s := s) (k := e - s) (by omega) all
            rw [en]
            refine ⟨by unfold poM; rw [lq8, nI_clamp (by omega)], ⟨s, by omega, rfl⟩, lq9, ⟨fun q => absurd q (by show ¬ (-1 : Int64) = -2; decide), fun q => by omega⟩, ⟨fun q => absurd q (by show ¬ (-1 : Int64) = -3; decide), fun q => absurd q.2 nd⟩, by show kdM (-1) = _; decide, fun _ => ⟨x, hx, by rw [lq12]; exact x2, ?_⟩, fun q => absurd rfl q⟩
            unfold rdN
            rw [if_neg (by omega), if_pos (allN_true.mpr all), x1]
          · rw [if_neg (c := nI (e - s) ≤ 2) (fun q => l2 ((nI_leI (b := 2) (by omega) (by decide)).mp q))] at en
            rw [en]
            refine ⟨by unfold poM; rw [lq8, nI_clamp (by omega)], ⟨s, by omega, rfl⟩, lq9, ⟨fun q => absurd q (by show ¬ (-4 : Int64) = -2; decide), fun q => by omega⟩, ⟨fun q => absurd q (by show ¬ (-4 : Int64) = -3; decide), fun q => absurd q.2 nd⟩, by show kdM (-4) = _; decide, fun q => absurd q (by show ¬ (-4 : Int64) = -1; decide), fun _ => ?_⟩
            unfold rdN
            rw [if_pos (by omega)]
        · rw [if_neg c2] at en
          rw [Bool.not_eq_true] at c2
          have ee : tkE L n s = s + 1 := by unfold tkE; rw [if_pos sn, if_neg (by rw [c1, c2]; decide)]
          have er : rdN L s (s + 1) = -1 := by
            unfold rdN
            rw [if_neg (by omega), if_neg]
            rw [allN_no (i := 0) (by omega) (by rw [Nat.add_zero]; exact c2)]
            decide
          rw [ewn, ee, en]
          by_cases z : L s = 59
          · rw [if_pos z]
            exact ⟨by unfold poM; rw [lq8, nI_clamp (by omega)], ⟨s, by omega, rfl⟩, lq9, ⟨fun q => absurd q (by show ¬ (-3 : Int64) = -2; decide), fun q => by omega⟩, ⟨fun _ => ⟨sn, z⟩, fun _ => rfl⟩, by show kdM (-3) = _; decide, fun q => absurd q (by show ¬ (-3 : Int64) = -1; decide), fun _ => er⟩
          · rw [if_neg z]
            exact ⟨by unfold poM; rw [lq8, nI_clamp (by omega)], ⟨s, by omega, rfl⟩, lq9, ⟨fun q => absurd q (by show ¬ (-4 : Int64) = -2; decide), fun q => by omega⟩, ⟨fun q => absurd q (by show ¬ (-4 : Int64) = -3; decide), fun q => absurd q.2 z⟩, by show kdM (-4) = _; decide, fun q => absurd q (by show ¬ (-4 : Int64) = -1; decide), fun _ => er⟩
  exact ⟨⟨r1, n1, by rw [lm, eb]; exact hl, key.1, fun j hj => by rw [l39, e14]; exact ht j (by omega)⟩, key.2⟩
end TOK2
