/-! both sides: fault, court -/
section EQ17
variable {α β σ τ : xm_M}
theorem cc_5 {a b k : Nat} (h1 : 5 ≤ k) (h2 : k ≤ 8) : (ccp σ a b).1 a k = σ.1 b k := if_pos ⟨rfl, h1, h2⟩
theorem cc_t {a b c k : Nat} (h1 : 1 ≤ c) (h2 : c ≤ 4) (hk : k < 8) : (ccp σ a b).1 (a + c) k = σ.1 (b + c) k := by
  unfold ccp ccq
  refine (if_neg (fun q => by omega)).trans ((if_pos ⟨by omega, by omega, hk⟩).trans ?_)
  rw [show a + c - a + b = b + c by omega]
theorem cc_b {a b k : Nat} (hk : k < 3) : (ccp σ a b).1 (a + 5) k = σ.1 (b + 5) k := by
  unfold ccp ccq
  exact (if_neg (fun q => by omega)).trans ((if_neg (fun q => by omega)).trans (if_pos ⟨rfl, hk⟩))
theorem cc_ne {a b c : Nat} (h : ¬ (a ≤ c ∧ c ≤ a + 5)) : (ccp σ a b).1 c = σ.1 c := by
  funext k
  unfold ccp ccq
  exact (if_neg (fun q => by omega)).trans ((if_neg (fun q => by omega)).trans (if_neg (fun q => by omega)))
theorem iCo_iCd (h : iCd σ τ) (h1 : ∀ k, 5 ≤ k → k ≤ 8 → α.1 1 k = σ.1 7 k) (h2 : ∀ c, 1 ≤ c → c ≤ 4 → ∀ k, k < 8 → α.1 (1 + c) k = σ.1 (7 + c) k) (h6 : ∀ k, k < 3 → α.1 6 k = σ.1 12 k) (hm : sCo τ β) : iCo α β := by
  obtain ⟨⟨n, n8, e5, m0, ht⟩, ⟨w, w4, ew, mw⟩, ⟨c, c4, ec, mc⟩, ⟨o, o24, eo, mo⟩, hB⟩ := h
  obtain ⟨s0, s3, s4, s5, s37, s38⟩ := hm
  have q5 : α.1 1 5 = nI n := (h1 5 (by decide) (by decide)).trans e5
  have q6 : α.1 1 6 = nI w := (h1 6 (by decide) (by decide)).trans ew
  have q7 : α.1 1 7 = nI c := (h1 7 (by decide) (by decide)).trans ec
  have q8 : α.1 1 8 = nI o := (h1 8 (by decide) (by decide)).trans eo
  have en : nX α = n := by unfold nX; rw [q5, nI_clamp (by omega)]
  have ewx : wX α = w := by unfold wX; rw [q6, nI_clamp (by omega)]
  have ecx : cX α = c := by unfold cX; rw [q7, nI_clamp (by omega)]
  refine ⟨⟨by rw [en]; exact q5, by rw [en]; exact n8⟩, ⟨by rw [ewx]; exact q6, by rw [ewx]; exact w4, by rw [ecx]; exact q7, by rw [ecx]; exact c4⟩, by rw [s0, m0, q5], by rw [s3, mw, q6], by rw [s4, mc, q7], by rw [s5, mo, q8], ⟨o, o24, q8⟩, fun f hf => by rw [s38, h6 f hf]; exact hB f hf, fun t htn => ?_⟩
  rw [en] at htn
  have k8 : t < 8 := by omega
  have a2 : α.1 2 t = σ.1 8 t := h2 1 (by decide) (by decide) t k8
  have a3 : α.1 3 t = σ.1 9 t := h2 2 (by decide) (by decide) t k8
  have a4 : α.1 4 t = σ.1 10 t := h2 3 (by decide) (by decide) t k8
  have a5 : α.1 5 t = σ.1 11 t := h2 4 (by decide) (by decide) t k8
  unfold iTh
  rw [a2, a3, a4, a5, s37]
  exact ht t htn
theorem iCd_iCo (h : iCo α β) (h1 : ∀ k, 5 ≤ k → k ≤ 8 → σ.1 7 k = α.1 1 k) (h2 : ∀ c, 1 ≤ c → c ≤ 4 → ∀ k, k < 8 → σ.1 (7 + c) k = α.1 (1 + c) k) (h6 : ∀ k, k < 3 → σ.1 12 k = α.1 6 k) (hm : sCo β τ) : iCd σ τ := by
  obtain ⟨⟨n1, n2⟩, ⟨w1, w2, c1, c2⟩, e0, e3, e4, e5, ⟨o, o24, eo⟩, hB, ht⟩ := h
  obtain ⟨s0, s3, s4, s5, s37, s38⟩ := hm
  refine ⟨⟨nX α, n2, (h1 5 (by decide) (by decide)).trans n1, by rw [s0, e0]; exact n1, fun t htn => ?_⟩, ⟨wX α, w2, (h1 6 (by decide) (by decide)).trans w1, by rw [s3, e3]; exact w1⟩, ⟨cX α, c2, (h1 7 (by decide) (by decide)).trans c1, by rw [s4, e4]; exact c1⟩, ⟨o, o24, (h1 8 (by decide) (by decide)).trans eo, by rw [s5, e5]; exact eo⟩, fun f hf => by rw [s38, h6 f hf]; exact hB f hf⟩
  have k8 : t < 8 := by omega
  have a2 : σ.1 8 t = α.1 2 t := h2 1 (by decide) (by decide) t k8
  have a3 : σ.1 9 t = α.1 3 t := h2 2 (by decide) (by decide) t k8
  have a4 : σ.1 10 t = α.1 4 t := h2 3 (by decide) (by decide) t k8
  have a5 : σ.1 11 t = α.1 5 t := h2 4 (by decide) (by decide) t k8
  unfold iTd
  rw [a2, a3, a4, a5, s37]
  exact ht t htn
theorem rd_st (hi : Inv α β) : ∃ S T, S = xm_set (xm_set (ccp α 7 1) 13 2 0) 13 4 0 ∧ T = rd0 β ∧ RT S T ∧ iCd S (coM T 0) ∧ T.1 36 15 = S.1 7 5 ∧ S.1 13 2 = nI 0 ∧ T.1 36 14 = nI 0 ∧ (∀ c, c ≠ 13 → S.1 c = (ccp α 7 1).1 c) ∧ S.1 13 1 = α.1 13 1 ∧ smW β T := by
  have hc := hi.1
  obtain ⟨vt, e6, hl⟩ := hi.2.2.2.2.2.2.2
  obtain ⟨v1, v2⟩ := ccp_v vt hc.1
  have s13 : ∀ k, k ≠ 2 → k ≠ 4 → (xm_set (xm_set (ccp α 7 1) 13 2 0) 13 4 0).1 13 k = α.1 13 k := fun k a b => by rw [xs_nk b, xs_nk a, cc_ne (by decide)]
  have s14 : (xm_set (xm_set (ccp α 7 1) 13 2 0) 13 4 0).1 13 4 = 0 := xs_eq
  have s12 : (xm_set (xm_set (ccp α 7 1) 13 2 0) 13 4 0).1 13 2 = 0 := by rw [xs_nk (by decide), xs_eq]
  have sc : ∀ c, c ≠ 13 → (xm_set (xm_set (ccp α 7 1) 13 2 0) 13 4 0).1 c = (ccp α 7 1).1 c := fun c h => by funext k; rw [xs_ne h, xs_ne h]
  have r6 : (rd0 β).1 36 6 = β.1 36 6 := by unfold rd0; rw [xs_nk (by decide), xs_nk (by decide), xs_nk (by decide)]
  have r8 : (rd0 β).1 36 8 = 0 := by unfold rd0; rw [xs_nk (by decide), xs_nk (by decide), xs_eq]
  have r14 : (rd0 β).1 36 14 = 0 := by unfold rd0; rw [xs_nk (by decide), xs_eq]
  have r15 : (rd0 β).1 36 15 = β.1 36 0 := by unfold rd0; rw [xs_eq]
  have rk : ∀ k, k ≠ 8 → k ≠ 14 → k ≠ 15 → (rd0 β).1 36 k = β.1 36 k := fun k a b c => by unfold rd0; rw [xs_nk c, xs_nk b, xs_nk a]
  have rc : ∀ c, c ≠ 36 → (rd0 β).1 c = β.1 c := fun c h => by unfold rd0; funext k; rw [xs_ne h, xs_ne h, xs_ne h]
  have vm : vTm β := by
    have el : lM β = b3 α := by unfold lM b3; rw [e6]
    unfold vTm
    rw [el, e6]
    exact vt
  have hpo := rd0_ok vm
  have sC : sCo β (rd0 β) := ⟨rk 0 (by decide) (by decide) (by decide), rk 3 (by decide) (by decide) (by decide), rk 4 (by decide) (by decide) (by decide), rk 5 (by decide) (by decide) (by decide), rc 37 (by decide), rc 38 (by decide)⟩
  have hC : iCd (xm_set (xm_set (ccp α 7 1) 13 2 0) 13 4 0) (coM (rd0 β) 0) := iCd_iCo hc (fun k a b => by rw [sc 7 (by decide)]; exact cc_5 a b) (fun c a b k hk => by rw [sc (7 + c) (by omega)]; exact cc_t a b hk) (fun k hk => by rw [sc 12 (by decide)]; exact cc_b (a := 7) (b := 1) hk) sC
  have b3e : b3 (xm_set (xm_set (ccp α 7 1) 13 2 0) 13 4 0) = b3 α := by unfold b3; rw [s13 1 (by decide) (by decide)]
  have tee : teN (xm_set (xm_set (ccp α 7 1) 13 2 0) 13 4 0) = 0 := by unfold teN; rw [s14]; decide
  have hR : RT (xm_set (xm_set (ccp α 7 1) 13 2 0) 13 4 0) (rd0 β) := by
    refine ⟨⟨?_, ?_, ?_, ?_⟩, hpo, ?_, ?_, ?_⟩
    · unfold vT; rw [b3e, s13 1 (by decide) (by decide)]; exact vt
    · unfold vD nD at *; rw [sc 7 (by decide)]; exact v2
    · rw [tee, s14]; rfl
    · rw [tee]; exact Nat.zero_le _
    · rw [b3e]; unfold lM b3; rw [r6, e6]
    · rw [tee]; unfold poM; rw [r8]; decide
    · rw [b3e]
      intro j hj
      rw [rc 39 (by decide), sc 14 (by decide), cc_ne (by decide)]
      exact (hl j hj).1
  have h75 : (rd0 β).1 36 15 = (xm_set (xm_set (ccp α 7 1) 13 2 0) 13 4 0).1 7 5 := by
    rw [r15, hc.2.2.1, sc 7 (by decide)]
    exact (cc_5 (by decide) (by decide)).symm
  exact ⟨_, _, rfl, rfl, hR, hC, h75, s12, r14, sc, s13 1 (by decide) (by decide), ⟨fun c a _ => rc c a, fun k a _ _ _ _ b c => rk k a b c⟩⟩
theorem rd_all (hi : Inv α β) :
    (((f_fault α).1 = -1 ∧ (rdM β).1 = true ∧ ∃ z, z ≤ 14 ∧ (f_fault α).2.1 13 2 = nI z ∧ (rdM β).2.1 36 14 = nI z ∧ iCd (f_fault α).2 (coM (rdM β).2 z) ∧ ∀ i, i < z → dlP (coM (rdM β).2 i) (5 * i)) ∨
     (¬ (f_fault α).1 = -1 ∧ (rdM β).1 = false ∧ (f_fault α).1 = (rdM β).2.1 36 13)) ∧
    (∀ c, ¬ (7 ≤ c ∧ c ≤ 13) → c ≠ 15 → (f_fault α).2.1 c = α.1 c) ∧ (f_fault α).2.1 13 1 = α.1 13 1 ∧ smW β (rdM β).2 := by
  obtain ⟨S, T, eS, eT, hR, hC, h75, s12, r14, sc, s13, sw⟩ := rd_st hi
  unfold f_fault rdM
  rw [← eS, ← eT]
  clear eS eT
  obtain ⟨o1, o2, o3, o4⟩ := read_eq 13 0 S T (by decide) hR hC h75 s12 r14 (fun i hi => by omega)
  exact ⟨o1, fun c a b => (o2 c a b).trans ((sc c (by omega)).trans (cc_ne (by omega))), o3.trans s13, smW_tr sw o4⟩
theorem rd_Inv (hi : Inv α β) : Inv (f_fault α).2 (rdM β).2 := by
  obtain ⟨-, o2, o3, o4⟩ := rd_all hi
  exact Inv_cg (fun c h => o2 c (by omega) (by omega)) o3 (fun c h => o4.1 c (by omega) (by omega)) (fun k h => o4.2 k (by omega) (by omega) (by omega) (by omega) (by omega) (by omega) (by omega)) hi
theorem eq_fault (hi : Inv α β) : (f_fault α).1 = (g_fault β).1 ∧ Inv (f_fault α).2 (g_fault β).2 := by
  have hI := rd_Inv hi
  obtain ⟨o1, -⟩ := rd_all hi
  unfold g_fault
  generalize f_fault α = F at *
  generalize rdM β = R at *
  rcases o1 with ⟨a, b, -⟩ | ⟨a, b, c⟩
  · rw [if_pos b]
    exact ⟨a, hI⟩
  · rw [if_neg (by rw [b]; decide)]
    exact ⟨c, hI⟩
theorem court_pre (hi : Inv α β) : (rdM β).1 = true → rnN (rdM β).2 ≤ 14 ∧ (rdM β).2.1 36 14 = nI (rnN (rdM β).2) ∧ ∀ k, k < rnN (rdM β).2 → dlP (coM (rdM β).2 k) (5 * k) := by
  intro h
  obtain ⟨o1, -⟩ := rd_all hi
  rcases o1 with ⟨-, -, z, z14, -, e, -, hP⟩ | ⟨-, b, -⟩
  · have ez : rnN (rdM β).2 = z := by unfold rnN; rw [e, nI_clamp (by omega)]
    rw [ez]
    exact ⟨z14, e, hP⟩
  · rw [b] at h
    exact absurd h (by decide)
theorem eq_court (hi : Inv α β) : (f_court α).1 = (g_court β).1 ∧ Inv (f_court α).2 (g_court β).2 := by
  have hI := rd_Inv hi
  obtain ⟨o1, o2, o3, o4⟩ := rd_all hi
  unfold f_court g_court
  generalize f_fault α = F at *
  generalize rdM β = R at *
  rcases o1 with ⟨a, b, z, z14, x2, y14, hC, hP⟩ | ⟨a, b, c⟩
  · rw [if_pos a, if_pos b]
    have ez : rnN R.2 = z := by unfold rnN; rw [y14, nI_clamp (by omega)]
    unfold coE
    rw [ez, x2]
    have c14 : (coM R.2 z).1 36 14 = nI z := by rw [co_14, y14]
    have v18 := hI.2.2.1
    have v19 := hI.2.2.2.1.1
    clear hI o2 o3 o4 hP a b x2 y14 hi
    generalize F.2 = A at *
    generalize coM R.2 z = B at *
    dsimp only
    have bk : ∀ k, k ≠ 22 → k ≠ 24 → k ≠ 26 → k ≠ 28 → k ≠ 6 → (begM (xm_set B 36 6 0)).1 36 k = B.1 36 k := fun k a b c d e => by
      unfold begM
      rw [xs_nk d, xs_nk c, xs_nk b, xs_nk a, xs_ne (by decide), xs_ne (by decide)]
      show (if 36 = 41 ∧ k < 12 then 0 else (xm_set B 36 6 0).1 36 k) = _
      rw [if_neg (fun q => absurd q.1 (by decide)), xs_nk e]
    have b41 : ∀ k, k < 12 → (begM (xm_set B 36 6 0)).1 41 k = 0 := fun k hk => by
      unfold begM
      rw [xs_ne (by decide), xs_ne (by decide), xs_ne (by decide), xs_ne (by decide), xs_ne (by decide), xs_ne (by decide)]
      exact if_pos ⟨rfl, hk⟩
    have bc : ∀ c, c ≠ 36 → c ≠ 41 → c ≠ 44 → (begM (xm_set B 36 6 0)).1 c = B.1 c := fun c a b d => by
      unfold begM
      funext k
      rw [xs_ne a, xs_ne a, xs_ne a, xs_ne a, xs_ne d, xs_ne d]
      exact (if_neg (fun q => b q.1)).trans (xs_ne a)
    have sC : sCo B (begM (xm_set B 36 6 0)) := ⟨bk 0 (by decide) (by decide) (by decide) (by decide) (by decide), bk 3 (by decide) (by decide) (by decide) (by decide) (by decide), bk 4 (by decide) (by decide) (by decide) (by decide) (by decide), bk 5 (by decide) (by decide) (by decide) (by decide) (by decide), bc 37 (by decide) (by decide) (by decide), bc 38 (by decide) (by decide) (by decide)⟩
    have xa : ∀ c, c ≠ 0 → c ≠ 16 → c ≠ 13 → (stdX (xm_set (ccp A 1 7) 13 1 0)).1 c = (ccp A 1 7).1 c := fun c a b d => by
      unfold stdX
      funext k
      rw [xs_ne a, xs_ne a, xs_ne a, xs_ne a, xs_ne a, xs_ne b, xs_ne b, xs_ne b, xs_ne b, xs_ne b, xs_ne b, xs_ne d]
    have hco : iCo (stdX (xm_set (ccp A 1 7) 13 1 0)) (begM (xm_set B 36 6 0)) := iCo_iCd hC (fun k a b => by rw [xa 1 (by decide) (by decide) (by decide)]; exact cc_5 a b) (fun c a b k hk => by rw [xa (1 + c) (by omega) (by omega) (by omega)]; exact cc_t a b hk) (fun k hk => by rw [xa 6 (by decide) (by decide) (by decide)]; exact cc_b (a := 1) (b := 7) hk) sC
    have x18 : (stdX (xm_set (ccp A 1 7) 13 1 0)).1 18 = A.1 18 := (xa 18 (by decide) (by decide) (by decide)).trans (cc_ne (by decide))
    have x19 : (stdX (xm_set (ccp A 1 7) 13 1 0)).1 19 = A.1 19 := (xa 19 (by decide) (by decide) (by decide)).trans (cc_ne (by decide))
    have x0 : (stdX (xm_set (ccp A 1 7) 13 1 0)).1 0 6 = 0 ∧ (stdX (xm_set (ccp A 1 7) 13 1 0)).1 0 8 = 0 ∧ (stdX (xm_set (ccp A 1 7) 13 1 0)).1 0 10 = 0 ∧ (stdX (xm_set (ccp A 1 7) 13 1 0)).1 0 11 = 0 ∧ (stdX (xm_set (ccp A 1 7) 13 1 0)).1 0 16 = 0 := ⟨rfl, rfl, rfl, rfl, rfl⟩
    have x16 : (stdX (xm_set (ccp A 1 7) 13 1 0)).1 16 0 = 0 ∧ (stdX (xm_set (ccp A 1 7) 13 1 0)).1 16 1 = 0 ∧ (stdX (xm_set (ccp A 1 7) 13 1 0)).1 16 2 = 0 ∧ (stdX (xm_set (ccp A 1 7) 13 1 0)).1 16 3 = 0 ∧ (stdX (xm_set (ccp A 1 7) 13 1 0)).1 16 4 = 0 ∧ (stdX (xm_set (ccp A 1 7) 13 1 0)).1 16 5 = 0 := ⟨rfl, rfl, rfl, rfl, rfl, rfl⟩
    have x13 : (stdX (xm_set (ccp A 1 7) 13 1 0)).1 13 1 = 0 := rfl
    have y0 : (begM (xm_set B 36 6 0)).1 36 22 = 0 ∧ (begM (xm_set B 36 6 0)).1 36 24 = 0 ∧ (begM (xm_set B 36 6 0)).1 36 26 = 0 ∧ (begM (xm_set B 36 6 0)).1 36 28 = 0 ∧ (begM (xm_set B 36 6 0)).1 36 6 = 0 ∧ (begM (xm_set B 36 6 0)).1 44 0 = 0 ∧ (begM (xm_set B 36 6 0)).1 44 1 = 0 := ⟨rfl, rfl, rfl, rfl, rfl, rfl, rfl⟩
    have y14 : (begM (xm_set B 36 6 0)).1 36 14 = nI z := (bk 14 (by decide) (by decide) (by decide) (by decide) (by decide)).trans c14
    generalize stdX (xm_set (ccp A 1 7) 13 1 0) = X at *
    generalize begM (xm_set B 36 6 0) = Y at *
    obtain ⟨x06, x08, x010, x011, x016⟩ := x0
    obtain ⟨d0, d1, d2, d3, d4, d5⟩ := x16
    obtain ⟨y22, y24, y26, y28, y6, y440, y441⟩ := y0
    refine ⟨y14.symm, hco, ?_, ?_, ?_, ?_, ?_, ?_, ?_⟩
    · refine ⟨⟨0, by omega, d0, by rw [d1]; exact iBt_0 _⟩, by rw [d2]; exact iBt_0 _, by rw [d3]; exact iBt_0 _, by rw [b41 10 (by decide), d0], by rw [b41 11 (by decide), d1], by rw [b41 8 (by decide), d4], by rw [b41 9 (by decide), d5], fun t ht => ?_⟩
      have n8 := hco.1.2
      rw [b41 t (by omega), d2, d3, vG_bt (by omega), b_0, if_neg (by decide), if_neg (by decide)]
    · have ep : pdX X = pdX A := funext fun i => by unfold pdX; rw [x18]
      have ec : pcX X = 0 := by unfold pcX; rw [x06]; decide
      refine ⟨⟨by rw [ep, x18]; exact v18.1.1, by rw [ec, x06]; decide, by rw [ec]; omega⟩, by rw [ep]; exact v18.2.1, by rw [y22, x06], fun i hi => ?_⟩
      rw [ec] at hi
      omega
    · refine ⟨by unfold vKp; rw [x19]; exact v19, fun k hk => ?_⟩
      have k2 : k = 0 ∨ k = 1 := by omega
      have hb0 : hb (X.1 0 8) (nI k) = false := by rw [x08, hb_bt (by omega), b_0]
      rw [hb0]
      refine ⟨?_, fun q => absurd q (by decide)⟩
      rcases k2 with rfl | rfl
      · rw [y440]; rfl
      · rw [y441]; rfl
    · have ec : rcX X = 0 := by unfold rcX; rw [x010]; decide
      refine ⟨⟨by rw [ec, x010]; decide, by rw [ec]; omega⟩, by rw [y24, x010], fun k hk => ?_⟩
      rw [ec] at hk
      omega
    · have ec : tkMm Y = 0 := by unfold tkMm; rw [y26]; decide
      refine ⟨⟨by rw [ec, y26]; decide, by rw [ec]; omega⟩, by rw [x011]; exact iBt_0 _, by rw [x011, y26]; decide, fun k hk => ?_, fun i j a b => ?_, fun u hu => ?_⟩
      · rw [ec] at hk; omega
      · rw [ec] at b; omega
      · rw [ec, x011, hb_bt (by omega), b_0]; rfl
    · have ec : scX X = 0 := by unfold scX; rw [x016]; decide
      refine ⟨⟨by rw [ec, x016]; decide, by rw [ec]; omega⟩, by rw [y28, x016], fun k hk => ?_⟩
      rw [ec] at hk
      omega
    · have ec : b3 X = 0 := by unfold b3; rw [x13]; decide
      refine ⟨⟨by rw [ec, x13]; decide, by rw [ec]; omega⟩, by rw [y6, x13], fun k hk => ?_⟩
      rw [ec] at hk
      omega
  · rw [if_neg a, if_neg (by rw [b]; decide)]
    exact ⟨rfl, hI⟩
end EQ17
