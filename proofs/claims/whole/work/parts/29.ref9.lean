/-! the reference: lines -/
def flM (σ : xm_M) : xm_M := xm_set σ 36 13 (σ.1 36 9)
def inM (σ : xm_M) (w : Nat) (a b : Int32) : Bool × xm_M := if (ntM σ).2 = -1 ∧ inB ((ntM σ).1 36 12) a b = true then (true, xm_set (ntM σ) 40 w ((ntM σ).1 36 12)) else (false, flM (ntM σ))
def andM (r : Bool × xm_M) (f : xm_M → Bool × xm_M) : Bool × xm_M := if r.1 = false then (false, r.2) else f r.2
def itN (σ : xm_M) (w : Nat) : Bool × xm_M := andM (inM σ (w + 1) 1 20) (fun τ => andM (inM τ (w + 2) 0 40) (fun τ => inM τ (w + 3) 0 2))
def itM (σ : xm_M) (w : Nat) : Bool × xm_M := if σ.1 36 15 = 8 then (false, flM σ) else itN (xm_set σ 36 15 (σ.1 36 15 + 1)) w
def kaM (t : Int64) : Int32 := if t = 82408 then 0 else if t = 405012 then 1 else if t = 139055 then 2 else if t = 1168243 then 3 else if t = 129442 then 4 else if t = 1905383 then 5 else -1
def kbM (t : Int64) : Int32 := if t = 1162531 then 6 else if t = 453959 then 7 else if t = 1758684 then 8 else if t = 286916 then 9 else if t = 40586 then 10 else -1
def kdM (t : Int64) : Int32 := if kaM t = -1 then kbM t else kaM t
def beM (σ : xm_M) (w : Nat) : Bool × xm_M := andM (inM σ (w + 1) 0 2) (fun τ => inM τ (w + 2) 0 99)
def lkM (σ : xm_M) (k : Int32) (w : Nat) : Bool × xm_M := if k = 0 ∨ k = 1 ∨ k = 2 ∨ k = 3 ∨ k = 4 then itM σ w else if k = 5 ∨ k = 10 then (true, xm_set σ 36 15 0) else if k = 6 then beM σ w else if k = 7 ∨ k = 8 then inM σ (w + 1) 0 4 else if k = 9 then inM σ (w + 1) 0 24 else (false, flM σ)
def lnM (σ : xm_M) (w : Nat) : Bool × xm_M := lkM (xm_set (ntM σ) 40 w (kdM (ntM σ).2)) (kdM (ntM σ).2) w
theorem ntS_lp (σ : xm_M) (s : Nat) (hs : s ≤ lM σ) : ∃ e dg nu t, ntS σ s = lpM σ s e dg nu t ∧ s ≤ e ∧ e ≤ lM σ := by
  unfold ntS
  split
  · exact ⟨_, _, _, _, rfl, by omega, by omega⟩
  · split
    · have := rnE_in (L := σ.1 39) (n := lM σ) (p := smL) (lM σ - s) s (by omega)
      exact ⟨_, _, _, _, rfl, this.1, this.2⟩
    · split
      · have := rnE_in (L := σ.1 39) (n := lM σ) (p := dgL) (lM σ - s) s (by omega)
        exact ⟨_, _, _, _, rfl, this.1, this.2⟩
      · exact ⟨_, _, _, _, rfl, by omega, by omega⟩
/-- what reading leaves as it was -/
def smR (σ τ : xm_M) : Prop := (∀ c, c ≠ 36 → c ≠ 40 → τ.1 c = σ.1 c) ∧ ∀ k, k ≠ 8 → k ≠ 9 → k ≠ 11 → k ≠ 12 → k ≠ 13 → k ≠ 15 → τ.1 36 k = σ.1 36 k
theorem smR_rf {σ : xm_M} : smR σ σ := ⟨fun _ _ _ => rfl, fun _ _ _ _ _ _ _ => rfl⟩
theorem smR_tr {σ τ ρ : xm_M} (h : smR σ τ) (g : smR τ ρ) : smR σ ρ := ⟨fun c a b => (g.1 c a b).trans (h.1 c a b), fun k a b c d e f => (g.2 k a b c d e f).trans (h.2 k a b c d e f)⟩
theorem vPo_lp {σ : xm_M} {s e : Nat} {dg nu : Int32} {t : Int64} (h : vTm σ) (he : e ≤ lM σ) : vPo (lpM σ s e dg nu t) := by
  have h160 := h.2
  have e1 : lM (lpM σ s e dg nu t) = lM σ := by unfold lM; rw [lq6]
  have e2 : poM (lpM σ s e dg nu t) = e := by unfold poM; rw [lq8, nI_clamp (by omega)]
  refine ⟨?_, ?_, ?_⟩
  · unfold vTm; rw [e1, lq6]; exact h
  · rw [e2, lq8]
  · rw [e1, e2]; exact he
theorem nt_ok {σ : xm_M} (h : vPo σ) : vPo (ntM σ) ∧ smR σ (ntM σ) := by
  obtain ⟨h1, h2, h3⟩ := h
  obtain ⟨e, dg, nu, t, q, a, b⟩ := ntS_lp σ (tkS (σ.1 39) (lM σ) (poM σ)) (tkS_in h3).2
  unfold ntM
  rw [q]
  exact ⟨vPo_lp h1 b, fun c hc _ => lp_ne hc, fun k a b c d _ _ => lp_k a b c d⟩
theorem vPo_of {σ τ : xm_M} (h : vPo σ) (e6 : τ.1 36 6 = σ.1 36 6) (e8 : τ.1 36 8 = σ.1 36 8) : vPo τ := by
  unfold vPo vTm lM poM at *
  rw [e6, e8]
  exact h
theorem fl_ok {σ : xm_M} (h : vPo σ) : vPo (flM σ) ∧ smR σ (flM σ) := ⟨vPo_of h (xs_nk (by decide)) (xs_nk (by decide)), fun c hc _ => funext fun k => xs_ne hc, fun k _ _ _ _ a _ => xs_nk a⟩
theorem s40_ok {σ : xm_M} {w : Nat} {v : Int32} (h : vPo σ) : vPo (xm_set σ 40 w v) ∧ smR σ (xm_set σ 40 w v) := ⟨vPo_of h (xs_ne (by decide)) (xs_ne (by decide)), fun c _ hc => funext fun k => xs_ne hc, fun k _ _ _ _ _ _ => xs_ne (by decide)⟩
theorem s15_ok {σ : xm_M} {v : Int32} (h : vPo σ) : vPo (xm_set σ 36 15 v) ∧ smR σ (xm_set σ 36 15 v) := ⟨vPo_of h (xs_nk (by decide)) (xs_nk (by decide)), fun c hc _ => funext fun k => xs_ne hc, fun k _ _ _ _ _ a => xs_nk a⟩
theorem ok_tr {σ τ ρ : xm_M} (h : smR σ τ) (g : vPo ρ ∧ smR τ ρ) : vPo ρ ∧ smR σ ρ := ⟨g.1, smR_tr h g.2⟩
theorem in_ok {σ : xm_M} {w : Nat} {a b : Int32} (h : vPo σ) : vPo (inM σ w a b).2 ∧ smR σ (inM σ w a b).2 := by
  have q := nt_ok h
  unfold inM
  split
  · exact ok_tr q.2 (s40_ok q.1)
  · exact ok_tr q.2 (fl_ok q.1)
theorem and_ok {σ : xm_M} {r : Bool × xm_M} {f : xm_M → Bool × xm_M} (h : vPo r.2 ∧ smR σ r.2) (hf : ∀ τ, vPo τ → vPo (f τ).2 ∧ smR τ (f τ).2) : vPo (andM r f).2 ∧ smR σ (andM r f).2 := by
  unfold andM
  by_cases c : r.1 = false
  · rw [if_pos c]
    exact h
  · rw [if_neg c]
    exact ok_tr h.2 (hf _ h.1)
theorem itN_ok {σ : xm_M} {w : Nat} (h : vPo σ) : vPo (itN σ w).2 ∧ smR σ (itN σ w).2 := and_ok (in_ok h) (fun τ ht => and_ok (in_ok ht) (fun τ ht => in_ok ht))
theorem beM_ok {σ : xm_M} {w : Nat} (h : vPo σ) : vPo (beM σ w).2 ∧ smR σ (beM σ w).2 := and_ok (in_ok h) (fun τ ht => in_ok ht)
theorem it_ok {σ : xm_M} {w : Nat} (h : vPo σ) : vPo (itM σ w).2 ∧ smR σ (itM σ w).2 := by
  unfold itM
  by_cases c : σ.1 36 15 = 8
  · rw [if_pos c]
    exact fl_ok h
  · rw [if_neg c]
    have q0 := s15_ok (v := σ.1 36 15 + 1) h
    exact ok_tr q0.2 (itN_ok q0.1)
theorem lk_ok {σ : xm_M} {k : Int32} {w : Nat} (h : vPo σ) : vPo (lkM σ k w).2 ∧ smR σ (lkM σ k w).2 := by
  have a1 := it_ok (w := w) h
  have a2 := s15_ok (v := 0) h
  have a3 := beM_ok (w := w) h
  have a4 := in_ok (w := w + 1) (a := 0) (b := 4) h
  have a5 := in_ok (w := w + 1) (a := 0) (b := 24) h
  have a6 := fl_ok h
  unfold lkM
  generalize itM σ w = r1 at *
  generalize xm_set σ 36 15 0 = r2 at *
  generalize beM σ w = r3 at *
  generalize inM σ (w + 1) 0 4 = r4 at *
  generalize inM σ (w + 1) 0 24 = r5 at *
  generalize flM σ = r6 at *
  repeat' split
  all_goals assumption
theorem ln_ok {σ : xm_M} {w : Nat} (h : vPo σ) : vPo (lnM σ w).2 ∧ smR σ (lnM σ w).2 := by
  have q := nt_ok h
  have q2 := s40_ok (w := w) (v := kdM (ntM σ).2) q.1
  exact ok_tr q.2 (ok_tr q2.2 (lk_ok q2.1))
def rdE (σ : xm_M) : Bool × xm_M := if σ.2 = -2 then (true, σ) else (false, flM σ)
def rdW (σ : xm_M) : Nat := 5 * (σ.1 36 14).toNatClampNeg
def rdB (σ : xm_M) : xm_M := ntM (xm_set (lnM σ (rdW σ)).2 36 14 ((lnM σ (rdW σ)).2.1 36 14 + 1))
def rdF : Nat → xm_M → Bool × xm_M
  | 0, σ => rdE σ
  | n + 1, σ => if (lnM σ (rdW σ)).1 = false then (false, (lnM σ (rdW σ)).2) else if (rdB σ).2 = -3 ∧ ¬ 14 ≤ (rdB σ).1 36 14 then rdF n (rdB σ) else rdE (rdB σ)
def rd0 (σ : xm_M) : xm_M := xm_set (xm_set (xm_set σ 36 8 0) 36 14 0) 36 15 (σ.1 36 0)
def rdM (σ : xm_M) : Bool × xm_M := rdF 14 (rd0 σ)
def g_fault (σ : xm_M) : Int32 × xm_M := if (rdM σ).1 = true then (-1, (rdM σ).2) else ((rdM σ).2.1 36 13, (rdM σ).2)
theorem rd0_ok {σ : xm_M} (h : vTm σ) : vPo (rd0 σ) := by
  have e6 : (rd0 σ).1 36 6 = σ.1 36 6 := by unfold rd0; rw [xs_nk (by decide), xs_nk (by decide), xs_nk (by decide)]
  have e8 : (rd0 σ).1 36 8 = 0 := by unfold rd0; rw [xs_nk (by decide), xs_nk (by decide), xs_eq]
  unfold vPo vTm lM poM at *
  rw [e6, e8]
  exact ⟨h, by decide, Nat.zero_le _⟩
section REF9
variable {d : Nat} {σ : xm_M} {Q : Option Value → xm_M → Prop}
theorem S_X5_fails (h : Q (some (.int 0)) (flM σ)) : xg_C d mX5_fails [.ref 36] σ Q := by
  refine xg_C_of py_X5_fails (Nat.le_of_ble_eq_true rfl) ?_
  show xg_X none d mX5_fails 0 [(0, .ref 36)] [] σ Q
  refine X_aldn0 1 dX5_fails_0 rfl rfl ?_
  refine X_aldn0 2 dX5_fails_1 rfl rfl ?_
  refine X_getI 5 dX5_fails_2 fl_X5_97 rfl rfl ?_
  refine X_putI 8 dX5_fails_5 fp_X5_122 rfl rfl ?_
  refine X_iconst 0 9 dX5_fails_8 (by decide) rfl ?_
  refine X_zret dX5_fails_9 rfl (by first | exact Or.inl rfl | exact Or.inr rfl) ?_
  exact h
theorem S_X5_isNumber {w : Nat} {a b : Int32} (hv : vPo σ) (hw : w < 70) (h : Q (some (.int (b2i (inM σ w a b).1))) (inM σ w a b).2) : xg_C (d + 2) mX5_isNumber [.ref 36, .int (nI w), .int a, .int b] σ Q := by
  refine xg_C_of py_X5_isNumber (Nat.le_of_ble_eq_true rfl) ?_
  show xg_X none (d + 2) mX5_isNumber 0 [(0, .ref 36), (1, .int (nI w)), (2, .int a), (3, .int b)] [] σ Q
  refine X_aldn0 1 dX5_isNumber_0 rfl rfl ?_
  refine X_callV0 5 4 dX5_isNumber_1 cw_X5_125 zk_X5_nextToken ⟨rfl, rfl⟩ rfl rfl rfl (S_X5_nextToken hv ?_)
  refine X_pn ?_
  refine X_aldn0 5 dX5_isNumber_4 rfl rfl ?_
  refine X_getL 8 dX5_isNumber_5 fl_X5_108 rfl rfl ?_
  refine X_ldc2 (-1) 11 dX5_isNumber_8 cl_X5_118 rfl ?_
  refine X_lcmp 12 dX5_isNumber_11 rfl ?_
  refine X_ifne 27 15 dX5_isNumber_12 (by decide) rfl (fun c12 => ?_) (fun c12 => ?_)
  · rw [lcmp_0] at c12
    refine X_aldn0 28 dX5_isNumber_27 rfl rfl ?_
    refine X_callV0 5 31 dX5_isNumber_28 cw_X5_128 zk_X5_fails ⟨rfl, rfl⟩ rfl rfl rfl (S_X5_fails ?_)
    refine X_pu ?_
    refine X_zret dX5_isNumber_31 rfl (by first | exact Or.inl rfl | exact Or.inr rfl) ?_
    rw [inM] at h
    grind [b2i]
  · rw [lcmp_0] at c12
    refine X_aldn0 16 dX5_isNumber_15 rfl rfl ?_
    refine X_getI 19 dX5_isNumber_16 fl_X5_103 rfl rfl ?_
    refine X_ildn2 20 dX5_isNumber_19 rfl rfl ?_
    refine X_ildn3 21 dX5_isNumber_20 rfl rfl ?_
    refine X_callS3 24 dX5_isNumber_21 cw_X5_87 zk_X5_in rfl rfl (S_X5_in ?_)
    refine X_pu ?_
    refine X_ifne 32 27 dX5_isNumber_24 (by decide) rfl (fun c24 => ?_) (fun c24 => ?_)
    · rw [b2i_n] at c24
      refine X_aldn0 33 dX5_isNumber_32 rfl rfl ?_
      refine X_getA 40 36 dX5_isNumber_33 fl_X5_29 rfl rfl ?_
      refine X_ildn1 37 dX5_isNumber_36 rfl rfl ?_
      refine X_aldn0 38 dX5_isNumber_37 rfl rfl ?_
      refine X_getI 41 dX5_isNumber_38 fl_X5_103 rfl rfl ?_
      refine X_iask w 42 dX5_isNumber_41 rfl rfl rfl hw ?_
      refine X_iconst 1 43 dX5_isNumber_42 (by decide) rfl ?_
      refine X_zret dX5_isNumber_43 rfl (by first | exact Or.inl rfl | exact Or.inr rfl) ?_
      rw [inM] at h
      grind [b2i]
    · rw [b2i_0] at c24
      refine X_aldn0 28 dX5_isNumber_27 rfl rfl ?_
      refine X_callV0 5 31 dX5_isNumber_28 cw_X5_128 zk_X5_fails ⟨rfl, rfl⟩ rfl rfl rfl (S_X5_fails ?_)
      refine X_pu ?_
      refine X_zret dX5_isNumber_31 rfl (by first | exact Or.inl rfl | exact Or.inr rfl) ?_
      rw [inM] at h
      grind [b2i]
theorem S_X5_isThingLine {w : Nat} (hv : vPo σ) (hw : w + 3 < 70) (h : Q (some (.int (b2i (itM σ w).1))) (itM σ w).2) : xg_C (d + 3) mX5_isThingLine [.ref 36, .int (nI w)] σ Q := by
  refine xg_C_of py_X5_isThingLine (Nat.le_of_ble_eq_true rfl) ?_
  show xg_X none (d + 3) mX5_isThingLine 0 [(0, .ref 36), (1, .int (nI w))] [] σ Q
  unfold itM at h
  have q0 := s15_ok (v := σ.1 36 15 + 1) hv
  unfold itN at h
  refine X_aldn0 1 dX5_isThingLine_0 rfl rfl ?_
  refine X_getI 4 dX5_isThingLine_1 fl_X5_132 rfl rfl ?_
  refine X_bipush 8 6 dX5_isThingLine_4 (by decide) rfl ?_
  refine X_icne 14 9 dX5_isThingLine_6 (by decide) rfl (fun c6 => ?_) (fun c6 => ?_)
  · rw [if_neg c6] at h
    refine X_aldn0 15 dX5_isThingLine_14 rfl rfl ?_
    refine X_dup 16 dX5_isThingLine_15 rfl rfl ?_
    refine X_getI 19 dX5_isThingLine_16 fl_X5_132 rfl rfl ?_
    refine X_iconst 1 20 dX5_isThingLine_19 (by decide) rfl ?_
    refine X_iadd 21 dX5_isThingLine_20 rfl ?_
    refine X_putI 24 dX5_isThingLine_21 fp_X5_132 rfl rfl ?_
    generalize xm_set σ 36 15 (σ.1 36 15 + 1) = τ at *
    have q1 := in_ok (w := w + 1) (a := 1) (b := 20) q0.1
    refine X_aldn0 25 dX5_isThingLine_24 rfl rfl ?_
    refine X_ildn1 26 dX5_isThingLine_25 rfl rfl ?_
    refine X_iconst 1 27 dX5_isThingLine_26 (by decide) rfl ?_
    refine X_iadd 28 dX5_isThingLine_27 rfl ?_
    refine X_iconst 1 29 dX5_isThingLine_28 (by decide) rfl ?_
    refine X_bipush 20 31 dX5_isThingLine_29 (by decide) rfl ?_
    rw [show nI w + 1 = nI (w + 1) from nI_add w 1]
    refine X_callV3 5 34 dX5_isThingLine_31 cw_X5_135 zk_X5_isNumber ⟨rfl, rfl⟩ rfl rfl rfl (S_X5_isNumber q0.1 (by omega) ?_)
    refine X_pu ?_
    refine X_ifeq 66 37 dX5_isThingLine_34 (by decide) rfl (fun c34 => ?_) (fun c34 => ?_)
    · refine X_iconst 0 67 dX5_isThingLine_66 (by decide) rfl ?_
      refine X_zret dX5_isThingLine_67 rfl (by first | exact Or.inl rfl | exact Or.inr rfl) ?_
      (try unfold andM at h)
      grind [b2i, andM]
    · refine X_aldn0 38 dX5_isThingLine_37 rfl rfl ?_
      refine X_ildn1 39 dX5_isThingLine_38 rfl rfl ?_
      refine X_iconst 2 40 dX5_isThingLine_39 (by decide) rfl ?_
      refine X_iadd 41 dX5_isThingLine_40 rfl ?_
      refine X_iconst 0 42 dX5_isThingLine_41 (by decide) rfl ?_
      refine X_bipush 40 44 dX5_isThingLine_42 (by decide) rfl ?_
      rw [show nI w + 2 = nI (w + 2) from nI_add w 2]
      refine X_callV3 5 47 dX5_isThingLine_44 cw_X5_135 zk_X5_isNumber ⟨rfl, rfl⟩ rfl rfl rfl (S_X5_isNumber q1.1 (by omega) ?_)
      have q2 := in_ok (w := w + 2) (a := 0) (b := 40) q1.1
      refine X_pu ?_
      refine X_ifeq 66 50 dX5_isThingLine_47 (by decide) rfl (fun c47 => ?_) (fun c47 => ?_)
      · refine X_iconst 0 67 dX5_isThingLine_66 (by decide) rfl ?_
        refine X_zret dX5_isThingLine_67 rfl (by first | exact Or.inl rfl | exact Or.inr rfl) ?_
        (try unfold andM at h)
        grind [b2i, andM]
      · refine X_aldn0 51 dX5_isThingLine_50 rfl rfl ?_
        refine X_ildn1 52 dX5_isThingLine_51 rfl rfl ?_
        refine X_iconst 3 53 dX5_isThingLine_52 (by decide) rfl ?_
        refine X_iadd 54 dX5_isThingLine_53 rfl ?_
        refine X_iconst 0 55 dX5_isThingLine_54 (by decide) rfl ?_
        refine X_iconst 2 56 dX5_isThingLine_55 (by decide) rfl ?_
        rw [show nI w + 3 = nI (w + 3) from nI_add w 3]
        refine X_callV3 5 59 dX5_isThingLine_56 cw_X5_135 zk_X5_isNumber ⟨rfl, rfl⟩ rfl rfl rfl (S_X5_isNumber q2.1 (by omega) ?_)
        refine X_pu ?_
        refine X_ifeq 66 62 dX5_isThingLine_59 (by decide) rfl (fun c59 => ?_) (fun c59 => ?_)
        · refine X_iconst 0 67 dX5_isThingLine_66 (by decide) rfl ?_
          refine X_zret dX5_isThingLine_67 rfl (by first | exact Or.inl rfl | exact Or.inr rfl) ?_
          (try unfold andM at h)
          grind [b2i, andM]
        · refine X_iconst 1 63 dX5_isThingLine_62 (by decide) rfl ?_
          refine X_goto 67 dX5_isThingLine_63 (by decide) ?_
          refine X_zret dX5_isThingLine_67 rfl (by first | exact Or.inl rfl | exact Or.inr rfl) ?_
          (try unfold andM at h)
          grind [b2i, andM]
  · rw [if_pos c6] at h
    refine X_aldn0 10 dX5_isThingLine_9 rfl rfl ?_
    refine X_callV0 5 13 dX5_isThingLine_10 cw_X5_128 zk_X5_fails ⟨rfl, rfl⟩ rfl rfl rfl (S_X5_fails ?_)
    refine X_pu ?_
    refine X_zret dX5_isThingLine_13 rfl (by first | exact Or.inl rfl | exact Or.inr rfl) ?_
    (try unfold andM at h)
    grind [b2i, andM]
end REF9
