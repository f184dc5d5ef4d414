/-! both sides: a clause, a text -/
section READ
variable {σ τ : xm_M}
theorem nt_40 (h : vPo τ) : (ntM τ).1 40 = τ.1 40 ∧ ∀ k, k ≠ 8 → k ≠ 9 → k ≠ 11 → k ≠ 12 → (ntM τ).1 36 k = τ.1 36 k := by
  obtain ⟨e, dg, nu, t, q, -, -⟩ := ntS_lp τ (tkS (τ.1 39) (lM τ) (poM τ)) (tkS_in h.2.2).2
  unfold ntM
  rw [q]
  exact ⟨lp_ne (by decide), fun k a b c d => lp_k a b c d⟩
theorem sCo_of {τ' : xm_M} (h : smR τ τ') : sCo τ τ' := ⟨h.2 0 (by decide) (by decide) (by decide) (by decide) (by decide) (by decide), h.2 3 (by decide) (by decide) (by decide) (by decide) (by decide) (by decide), h.2 4 (by decide) (by decide) (by decide) (by decide) (by decide) (by decide), h.2 5 (by decide) (by decide) (by decide) (by decide) (by decide) (by decide), h.1 37 (by decide) (by decide), h.1 38 (by decide) (by decide)⟩
theorem RT_dc {w : Int32} (h : RT σ τ) : RT (dcX σ w) τ := by
  obtain ⟨⟨hT, hD, h4, hp⟩, hv, hl, hpo, ht⟩ := h
  have e13 : (dcX σ w).1 13 = σ.1 13 := dcX_13 (by decide)
  have e14 : (dcX σ w).1 14 = σ.1 14 := dcX_13 (by decide)
  refine ⟨⟨?_, vD_dcX hD, ?_, ?_⟩, hv, ?_, ?_, ?_⟩
  · unfold vT b3 at *; rw [e13]; exact hT
  · unfold teN at *; rw [e13]; exact h4
  · unfold teN b3 at *; rw [e13]; exact hp
  · unfold b3 at *; rw [e13]; exact hl
  · unfold teN at *; rw [e13]; exact hpo
  · unfold b3 at *; rw [e13, e14]; exact ht
theorem lk3_ok {w : Nat} (h : vPo τ) : vPo (lk3 w τ) ∧ smR τ (lk3 w τ) := by
  unfold lk3
  split
  · exact s15_ok h
  · split
    · exact s15_ok h
    · exact ⟨h, smR_rf⟩
theorem lk3_40 {w : Nat} : (lk3 w τ).1 40 = τ.1 40 ∧ (∀ k, k ≠ 15 → (lk3 w τ).1 36 k = τ.1 36 k) ∧ (lk3 w τ).1 36 15 = (if w ≤ 4 then τ.1 36 15 + 1 else if w = 9 ∨ w = 10 then 0 else τ.1 36 15) := by
  unfold lk3
  split
  · exact ⟨funext fun k => xs_ne (by decide), fun k hk => xs_nk hk, xs_eq⟩
  · split
    · exact ⟨funext fun k => xs_ne (by decide), fun k hk => xs_nk hk, xs_eq⟩
    · exact ⟨rfl, fun k hk => rfl, rfl⟩
theorem lk_no {p : Nat} : lkM τ (-1) p = (false, flM τ) := by
  unfold lkM
  rw [if_neg (by decide), if_neg (by decide), if_neg (by decide), if_neg (by decide), if_neg (by decide)]
theorem line_eq {q : Nat} (hR : RT σ τ) (hC : iCd σ (coM τ q)) (hT : τ.1 36 15 = σ.1 7 5) (hP : ∀ i, i < q → dlP (coM τ i) (5 * i)) :
    (clX (ntX σ (teN σ))).1 = (lnM τ (5 * q)).1 ∧ ((clX (ntX σ (teN σ))).1 = false → (∃ s, s ≤ 160 ∧ (clX (ntX σ (teN σ))).2.1 13 3 = nI s) ∧ (clX (ntX σ (teN σ))).2.1 13 3 = (lnM τ (5 * q)).2.1 36 13) ∧
    ((clX (ntX σ (teN σ))).1 = true → RT (clX (ntX σ (teN σ))).2 (lnM τ (5 * q)).2 ∧ iCd (clX (ntX σ (teN σ))).2 (coM (lnM τ (5 * q)).2 (q + 1)) ∧ (lnM τ (5 * q)).2.1 36 15 = (clX (ntX σ (teN σ))).2.1 7 5 ∧ ∀ i, i < q + 1 → dlP (coM (lnM τ (5 * q)).2 i) (5 * i)) ∧
    (∀ k, ¬ (7 ≤ k ∧ k ≤ 13) → k ≠ 15 → (clX (ntX σ (teN σ))).2.1 k = σ.1 k) ∧ (clX (ntX σ (teN σ))).2.1 13 1 = σ.1 13 1 ∧ (clX (ntX σ (teN σ))).2.1 13 2 = σ.1 13 2 := by
  obtain ⟨r1, ⟨s, s160, es⟩, t9, -, -, tk, -, -⟩ := tk_step hR
  obtain ⟨n40, n36⟩ := nt_40 hR.2.1
  have nsm := (nt_ok hR.2.1).2
  have fx : ∀ c, c ≠ 13 → (ntX σ (teN σ)).1 c = σ.1 c := fun c h => ntX_ne h
  have f1 : (ntX σ (teN σ)).1 13 1 = σ.1 13 1 := ntX_k (by decide) (by decide)
  have f2 : (ntX σ (teN σ)).1 13 2 = σ.1 13 2 := ntX_k (by decide) (by decide)
  have hwd : wdX (ntX σ (teN σ)) = -1 ∨ ∃ w, w < 11 ∧ wdX (ntX σ (teN σ)) = nI w := by
    rcases wd_in (p := isTk ((ntX σ (teN σ)).1 14) (tsN (ntX σ (teN σ))) (teN (ntX σ (teN σ)))) (k := 11) (i := 0) with e | ⟨w, -, hw, e, -⟩
    · exact Or.inl e
    · exact Or.inr ⟨w, by omega, e⟩
  have vd : vD σ := hR.1.2.1
  unfold lnM clX
  rw [tk]
  generalize ntX σ (teN σ) = σ1 at *
  generalize ntM τ = τ1 at *
  generalize wdX σ1 = W at *
  have r2 : RT σ1 (xm_set τ1 40 (5 * q) (piW (W))) := RT_M r1 (s40_ok r1.2.1).1 (xs_ne (by decide)) (xs_ne (by decide)) (funext fun k => xs_ne (by decide))
  have s2 : smR τ1 (xm_set τ1 40 (5 * q) (piW (W))) := (s40_ok r1.2.1).2
  have g40 : ∀ j, j ≠ 5 * q → (xm_set τ1 40 (5 * q) (piW (W))).1 40 j = τ.1 40 j := fun j hj => by rw [xs_nk hj, n40]
  have g40' : (xm_set τ1 40 (5 * q) (piW (W))).1 40 (5 * q) = piW (W) := xs_eq
  have g15 : (xm_set τ1 40 (5 * q) (piW (W))).1 36 15 = σ.1 7 5 := by rw [xs_ne (by decide), n36 15 (by decide) (by decide) (by decide) (by decide), hT]
  have g9 : (xm_set τ1 40 (5 * q) (piW (W))).1 36 9 = σ1.1 13 3 := by rw [xs_ne (by decide), t9]
  rcases hwd with rfl | ⟨w, hw, rfl⟩
  · rw [show piW (-1) = -1 by decide] at g9 ⊢
    rw [if_pos (Or.inl rfl), lk_no]
    generalize xm_set τ1 40 (5 * q) (-1) = τ2 at *
    refine ⟨rfl, fun _ => ⟨⟨s, s160, es⟩, ?_⟩, fun q => absurd (show false = true from q) (by decide), fun k a b => fx k (by omega), f1, f2⟩
    show σ1.1 13 3 = (flM τ2).1 36 13
    unfold flM
    rw [xs_eq, g9]
  · generalize xm_set τ1 40 (5 * q) (piW (nI w)) = τ2 at *
    rw [lk_eq w hw]
    have c0 : ¬ nI w = -1 := nI_nm (by omega)
    have c4 : nI w ≤ 4 ↔ w ≤ 4 := nI_leI (b := 4) (by omega) (by decide)
    have c8 : 8 ≤ σ1.1 7 5 ↔ τ2.1 36 15 = 8 := by
      rw [g15, fx 7 (by decide)]
      exact cap vd.1 vd.2 (by decide)
    by_cases g : w ≤ 4 ∧ τ2.1 36 15 = 8
    · rw [if_pos g, if_pos (Or.inr ⟨c4.mpr g.1, c8.mpr g.2⟩)]
      refine ⟨rfl, fun _ => ⟨⟨s, s160, es⟩, ?_⟩, fun q => absurd (show false = true from q) (by decide), fun k a b => fx k (by omega), f1, f2⟩
      show σ1.1 13 3 = (flM τ2).1 36 13
      unfold flM
      rw [xs_eq, g9]
    · rw [if_neg g, if_neg (c := nI w = -1 ∨ (nI w ≤ 4 ∧ 8 ≤ σ1.1 7 5)) (fun z => z.elim c0 (fun z => g ⟨c4.mp z.1, c8.mp z.2⟩))]
      obtain ⟨l40, l36, l15⟩ := lk3_40 (τ := τ2) (w := w)
      have l3 := lk3_ok (w := w) r2.2.1
      have r3 : RT σ1 (lk3 w τ2) := RT_M r2 l3.1 (l36 6 (by decide)) (l36 8 (by decide)) (l3.2.1 39 (by decide) (by decide))
      obtain ⟨i1, i2, i3, i4, i5, i6, i7, i8⟩ := nums_eq (w := nI w) (nnW (nI w)) 0 (5 * q + 1) σ1 (lk3 w τ2) r3
      have fA : ∀ c, c ≠ 13 → c ≠ 15 → (rcN (nI w) (nnW (nI w)) 0 σ1).2.1 c = σ.1 c := fun c a b => (rcN_13 a b).trans (fx c a)
      have fA1 : (rcN (nI w) (nnW (nI w)) 0 σ1).2.1 13 1 = σ.1 13 1 := (rcN_k (by decide) (by decide)).trans f1
      have fA2 : (rcN (nI w) (nnW (nI w)) 0 σ1).2.1 13 2 = σ.1 13 2 := (rcN_k (by decide) (by decide)).trans f2
      have smB : smR τ (nkM (nI w) (nnW (nI w)) 0 (5 * q + 1) (lk3 w τ2)).2 := smR_tr nsm (smR_tr s2 (smR_tr l3.2 i8))
      have nn3 := (nnW_ok w hw).2
      generalize rcN (nI w) (nnW (nI w)) 0 σ1 = A at *
      generalize nkM (nI w) (nnW (nI w)) 0 (5 * q + 1) (lk3 w τ2) = B at *
      by_cases a1 : A.1 = false
      · rw [if_pos a1]
        exact ⟨i1, fun _ => i2 a1, fun z => by rw [a1] at z; exact absurd z (by decide), fun k a b => fA k (by omega) b, fA1, fA2⟩
      · rw [if_neg a1]
        rw [Bool.not_eq_false] at a1
        obtain ⟨rB, hnum⟩ := i3 a1
        have B40 : ∀ j, j < 5 * q → B.2.1 40 j = τ.1 40 j := fun j hj => by rw [i5 j (by omega), l40, g40 j (by omega)]
        have hC' : iCd A.2 (coM B.2 q) := iCd_cg (fun c a b => fA c (by omega) (by omega)) (co_cg (sCo_of smB) B40 q (Nat.le_refl _)) hC
        have hd := dc_dl (σ := A.2) (τ := coM B.2 q) (w := w) (p := 5 * q) hw hC' (by rw [co_40, i5 _ (by omega), l40, g40']) (fun j hj => by
          obtain ⟨x, x1, x2, x3, x4, x5⟩ := hnum j hj
          rw [Nat.zero_add] at x2 x3 x4
          obtain ⟨m1, m2, m3⟩ := le_mo w hw j (by omega)
          rw [m1] at x3
          rw [m2] at x4
          have lt99 : leT w j ≤ 1 := by unfold leT; split <;> omega
          exact ⟨x, (nI_leI (by omega) (by omega)).mp x3, (nI_leI (by omega) (by omega)).mp x4, x2, by rw [co_40]; exact x5⟩) (fun w4 z => by
          rw [fA 7 (by decide) (by decide)] at z
          exact g ⟨w4, c8.mp (by rw [fx 7 (by decide)]; exact z)⟩)
        refine ⟨by rw [← i1, a1], fun z => absurd (show true = false from z) (by decide), fun _ => ⟨RT_dc rB, hd.1, ?_, fun i hi => ?_⟩, fun k a b => ?_, ?_, ?_⟩
        · show B.2.1 36 15 = (dcX A.2 (nI w)).1 7 5
          rw [hd.2.2, i6, l15, g15, fA 7 (by decide) (by decide)]
        · by_cases z : i = q
          · rw [z]; exact hd.2.1
          · exact coP_cg (sCo_of smB) B40 hP i (by omega)
        · show (dcX A.2 (nI w)).1 k = _
          rw [dcX_13 (by omega), fA k (by omega) b]
        · show (dcX A.2 (nI w)).1 13 1 = _
          rw [dcX_13 (by decide), fA1]
        · show (dcX A.2 (nI w)).1 13 2 = _
          rw [dcX_13 (by decide), fA2]
/-- all but what reading changes -/
def smW (σ τ : xm_M) : Prop := (∀ c, c ≠ 36 → c ≠ 40 → τ.1 c = σ.1 c) ∧ ∀ k, k ≠ 8 → k ≠ 9 → k ≠ 11 → k ≠ 12 → k ≠ 13 → k ≠ 14 → k ≠ 15 → τ.1 36 k = σ.1 36 k
theorem smW_tr {σ τ ρ : xm_M} (h : smW σ τ) (g : smW τ ρ) : smW σ ρ := ⟨fun c a b => (g.1 c a b).trans (h.1 c a b), fun k a b c d e f i => (g.2 k a b c d e f i).trans (h.2 k a b c d e f i)⟩
theorem smW_R {σ τ : xm_M} (h : smR σ τ) : smW σ τ := ⟨h.1, fun k a b c d e _ f => h.2 k a b c d e f⟩
theorem smW_14 {σ : xm_M} {v : Int32} : smW σ (xm_set σ 36 14 v) := ⟨fun c a _ => funext fun k => xs_ne a, fun k _ _ _ _ _ a _ => xs_nk a⟩
set_option maxHeartbeats 2000000 in
theorem read_eq : ∀ (k q : Nat) (σ τ : xm_M), q + (k + 1) = 14 → RT σ τ → iCd σ (coM τ q) → τ.1 36 15 = σ.1 7 5 → σ.1 13 2 = nI q → τ.1 36 14 = nI q → (∀ i, i < q → dlP (coM τ i) (5 * i)) →
    (((roX (k + 1) σ).1 = -1 ∧ (rdF (k + 1) τ).1 = true ∧ ∃ z, z ≤ 14 ∧ (roX (k + 1) σ).2.1 13 2 = nI z ∧ (rdF (k + 1) τ).2.1 36 14 = nI z ∧ iCd (roX (k + 1) σ).2 (coM (rdF (k + 1) τ).2 z) ∧ ∀ i, i < z → dlP (coM (rdF (k + 1) τ).2 i) (5 * i)) ∨
     (¬ (roX (k + 1) σ).1 = -1 ∧ (rdF (k + 1) τ).1 = false ∧ (roX (k + 1) σ).1 = (rdF (k + 1) τ).2.1 36 13)) ∧
    (∀ c, ¬ (7 ≤ c ∧ c ≤ 13) → c ≠ 15 → (roX (k + 1) σ).2.1 c = σ.1 c) ∧ (roX (k + 1) σ).2.1 13 1 = σ.1 13 1 ∧ smW τ (rdF (k + 1) τ).2 := by
  intro k
  induction k with
  | zero => ?_
  | succ k ih => ?_
  all_goals intro q σ τ hq hR hC hT h2 h14 hP
  all_goals
    have hW : rdW τ = 5 * q := by unfold rdW; rw [h14, nI_clamp (by omega)]
    obtain ⟨l1, l2, l3, l4, l5, l6⟩ := line_eq hR hC hT hP
    have lsm := ln_ok (w := 5 * q) hR.2.1
    have ebR : b3 (clX (ntX σ (teN σ))).2 = b3 σ := by unfold b3; rw [l5]
    rw [roX, rdF, rdB, hW]
    unfold roX.roN
    generalize clX (ntX σ (teN σ)) = c at *
    generalize lnM τ (5 * q) = l at *
    by_cases c1 : c.1 = false
    · rw [if_pos c1, if_pos (l1.symm.trans c1)]
      obtain ⟨⟨s, s160, es⟩, el⟩ := l2 c1
      exact ⟨Or.inr ⟨by rw [es]; exact nI_nm (by omega), rfl, el⟩, l4, l5, smW_R lsm.2⟩
    · rw [if_neg c1, if_neg (fun z => c1 (l1.trans z))]
      rw [Bool.not_eq_false] at c1
      obtain ⟨m1, m2, m3, m4⟩ := l3 c1
      have l14 : l.2.1 36 14 = nI q := by rw [lsm.2.2 14 (by decide) (by decide) (by decide) (by decide) (by decide) (by decide)]; exact h14
      have RT2 : RT (xm_set c.2 13 2 (c.2.1 13 2 + 1)) (xm_set l.2 36 14 (l.2.1 36 14 + 1)) := by
        obtain ⟨⟨a1, a2, a3, a4⟩, b1, b2, b3', b4⟩ := m1
        refine ⟨⟨vT_set (by decide) a1, ?_, ?_, ?_⟩, vPo_of b1 (xs_nk (by decide)) (xs_nk (by decide)), ?_, ?_, ?_⟩
        · unfold vD nD at *; rw [xs_ne (by decide)]; exact a2
        · unfold teN at *; rw [xs_nk (by decide)]; exact a3
        · rw [b3_set (by decide)]; unfold teN at *; rw [xs_nk (by decide)]; exact a4
        · rw [b3_set (by decide)]; unfold lM at *; rw [xs_nk (by decide)]; exact b2
        · unfold teN poM at *; rw [xs_nk (by decide), xs_nk (by decide)]; exact b3'
        · rw [b3_set (by decide)]
          intro j hj
          rw [xs_ne (by decide), xs_ne (by decide)]
          exact b4 j hj
      have te : teN (xm_set c.2 13 2 (c.2.1 13 2 + 1)) = teN c.2 := by unfold teN; rw [xs_nk (by decide)]
      obtain ⟨r1, ⟨s, s160, es⟩, t9, tm2, tm3, -, -, -⟩ := tk_step RT2
      obtain ⟨n40, n36⟩ := nt_40 RT2.2.1
      have nsm := nt_ok RT2.2.1
      rw [te] at r1 es t9 tm2 tm3
      have bN : b3 (ntX (xm_set c.2 13 2 (c.2.1 13 2 + 1)) (teN c.2)) = b3 σ := by rw [ntX_b3, b3_set (by decide), ebR]
      have x2 : (ntX (xm_set c.2 13 2 (c.2.1 13 2 + 1)) (teN c.2)).1 13 2 = nI (q + 1) := by rw [ntX_k (by decide) (by decide), xs_eq, l6, h2, nI_1]
      have x1 : (ntX (xm_set c.2 13 2 (c.2.1 13 2 + 1)) (teN c.2)).1 13 1 = σ.1 13 1 := by rw [ntX_k (by decide) (by decide), xs_nk (by decide), l5]
      have xc : ∀ d, d ≠ 13 → (ntX (xm_set c.2 13 2 (c.2.1 13 2 + 1)) (teN c.2)).1 d = c.2.1 d := fun d hd => by
        rw [ntX_ne hd]
        funext j
        exact xs_ne hd
      have y14 : (ntM (xm_set l.2 36 14 (l.2.1 36 14 + 1))).1 36 14 = nI (q + 1) := by rw [n36 14 (by decide) (by decide) (by decide) (by decide), xs_eq, l14, nI_1]
      have y15 : (ntM (xm_set l.2 36 14 (l.2.1 36 14 + 1))).1 36 15 = c.2.1 7 5 := by rw [n36 15 (by decide) (by decide) (by decide) (by decide), xs_nk (by decide), m3]
      have y40 : ∀ j, (ntM (xm_set l.2 36 14 (l.2.1 36 14 + 1))).1 40 j = l.2.1 40 j := fun j => by rw [n40, xs_ne (by decide)]
      have yS : smW τ (ntM (xm_set l.2 36 14 (l.2.1 36 14 + 1))) := smW_tr (smW_R lsm.2) (smW_tr smW_14 (smW_R nsm.2))
      have yC : sCo l.2 (ntM (xm_set l.2 36 14 (l.2.1 36 14 + 1))) := ⟨by rw [n36 0 (by decide) (by decide) (by decide) (by decide), xs_nk (by decide)], by rw [n36 3 (by decide) (by decide) (by decide) (by decide), xs_nk (by decide)], by rw [n36 4 (by decide) (by decide) (by decide) (by decide), xs_nk (by decide)], by rw [n36 5 (by decide) (by decide) (by decide) (by decide), xs_nk (by decide)], (nsm.2.1 37 (by decide) (by decide)).trans (funext fun j => xs_ne (by decide)), (nsm.2.1 38 (by decide) (by decide)).trans (funext fun j => xs_ne (by decide))⟩
      have zC : iCd (ntX (xm_set c.2 13 2 (c.2.1 13 2 + 1)) (teN c.2)) (coM (ntM (xm_set l.2 36 14 (l.2.1 36 14 + 1))) (q + 1)) := iCd_cg (fun d a b => xc d (by omega)) (co_cg yC (q := q + 1) (fun j _ => y40 j) (q + 1) (Nat.le_refl _)) m2
      have zP : ∀ i, i < q + 1 → dlP (coM (ntM (xm_set l.2 36 14 (l.2.1 36 14 + 1))) i) (5 * i) := coP_cg yC (q := q + 1) (fun j _ => y40 j) m4
      have xF : ∀ d, ¬ (7 ≤ d ∧ d ≤ 13) → d ≠ 15 → (ntX (xm_set c.2 13 2 (c.2.1 13 2 + 1)) (teN c.2)).1 d = σ.1 d := fun d a b => (xc d (by omega)).trans (l4 d a b)
      generalize ntX (xm_set c.2 13 2 (c.2.1 13 2 + 1)) (teN c.2) = S at *
      generalize ntM (xm_set l.2 36 14 (l.2.1 36 14 + 1)) = T at *
      rw [bN] at tm2 tm3
      by_cases e1 : b3 σ ≤ tsN S
      · have q2 := tm2.mpr e1
        rw [if_pos e1, if_neg (fun z => absurd (q2.symm.trans z.1) (by decide)), rdE, if_pos q2]
        exact ⟨Or.inl ⟨rfl, rfl, q + 1, by omega, x2, y14, zC, zP⟩, xF, x1, yS⟩
      · have q2 : ¬ T.2 = -2 := fun z => e1 (tm2.mp z)
        rw [if_neg e1]
        have bad : ((¬ S.1 13 3 = -1) ∧ S.1 13 3 = (flM T).1 36 13) ∧ smW τ (flM T) := by
          refine ⟨⟨by rw [es]; exact nI_nm (by omega), ?_⟩, smW_tr yS (smW_R (fl_ok r1.2.1).2)⟩
          unfold flM
          rw [xs_eq, t9]
        by_cases e2 : S.1 14 (tsN S) = 59
        · have q3 := tm3.mpr ⟨by omega, e2⟩
          rw [if_pos e2]
          first
          | (rw [if_neg (fun z => z.2 (by rw [y14, show q + 1 = 14 by omega]; decide)), rdE, if_neg q2, roX]
             exact ⟨Or.inr ⟨bad.1.1, rfl, bad.1.2⟩, xF, x1, bad.2⟩)
          | (rw [if_pos ⟨q3, by rw [y14]; exact fun z => by have := (nI_leI (a := 14) (by decide) (by omega)).mp z; omega⟩]
             obtain ⟨o1, o2, o3, o4⟩ := ih (q + 1) S T (by omega) r1 zC (by rw [y15, xc 7 (by decide)]) x2 y14 zP
             exact ⟨o1, fun d a b => (o2 d a b).trans (xF d a b), o3.trans x1, smW_tr yS o4⟩)
        · rw [if_neg e2, if_neg (fun z => e2 (tm3.mp z.1).2), rdE, if_neg q2]
          exact ⟨Or.inr ⟨bad.1.1, rfl, bad.1.2⟩, xF, x1, bad.2⟩
end READ
