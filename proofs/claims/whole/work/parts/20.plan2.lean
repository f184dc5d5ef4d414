/-! findWay() and plan() -/
theorem vTl_in {ki pl wt : Nat → Int32} {lost : Nat → Bool} {ev tk f : Int32} : ∀ n, (vTl ki pl wt lost ev tk f n).1 = -1 ∨ ∃ t, t < n ∧ (vTl ki pl wt lost ev tk f n).1 = nI t
  | 0 => Or.inl rfl
  | n + 1 => by
    have ih := vTl_in (ki := ki) (pl := pl) (wt := wt) (lost := lost) (ev := ev) (tk := tk) (f := f) n
    have old : (vTl ki pl wt lost ev tk f n).1 = -1 ∨ ∃ t, t < n + 1 ∧ (vTl ki pl wt lost ev tk f n).1 = nI t := ih.imp id (fun ⟨t, h1, h2⟩ => ⟨t, by omega, h2⟩)
    rw [vTl]
    generalize (if hb ev (nI n) = true then (0 : Int32) else wt n) = r
    split
    · split
      · exact Or.inr ⟨n, by omega, rfl⟩
      · exact old
    · exact old
def toM (σ : xm_M) (tk : Int32) : xm_M := xm_set (xm_set (xm_set σ 22 0 (tlX σ 16 0 tk (nX σ)).1) 22 1 (tlX σ 16 1 tk (nX σ)).1) 22 2 (tlX σ 16 2 tk (nX σ)).1
theorem toM_ne {σ : xm_M} {tk : Int32} {c : Nat} (h : c ≠ 22) : (toM σ tk).1 c = σ.1 c := by funext k; rw [toM, xs_ne h, xs_ne h, xs_ne h]
def noW : Int32 := 1048576
def anyL (σ : xm_M) (tk : Int32) (n : Nat) : Bool := allN (fun t => !(hb tk (nI t) && loX σ 16 t)) n
def bstP (σ : xm_M) (tk : Int32) : plP := srX (toM σ tk) 25 (σ.1 16 0) (σ.1 16 1) tk (σ.1 16 3) 0 (-1) (σ.1 21 0, σ.1 21 1, σ.1 21 2, noW)
def f_plan (σ : xm_M) (y : Int32) : Int32 := if y < 0 ∨ 2 < y then -3 else if σ.1 0 11 = 0 then (if y = 0 then 0 else -1) else if anyL σ (σ.1 0 11) (nX σ) = false then -1 else if (bstP σ (σ.1 0 11)).2.2.2 = noW then -1 else if y = 0 then (bstP σ (σ.1 0 11)).1 else if y = 1 then (bstP σ (σ.1 0 11)).2.1 else (bstP σ (σ.1 0 11)).2.2.1
def smP (σ τ : xm_M) : Prop := ∀ c, c ≠ 21 → c ≠ 22 → τ.1 c = σ.1 c
theorem toM_eq {σ : xm_M} {tk : Int32} : xm_set (xm_set (xm_set (xm_set σ 21 3 noW) 22 0 (tlX σ 16 0 tk (nX σ)).1) 22 1 (tlX σ 16 1 tk (nX σ)).1) 22 2 (tlX σ 16 2 tk (nX σ)).1 = plM (toM σ tk) (σ.1 21 0, σ.1 21 1, σ.1 21 2, noW) := by
  apply Prod.ext
  · funext x k
    simp only [plM, toM, xm_set]
    grind
  · rfl
section PLAN2
variable {d : Nat} {σ : xm_M} {Q : Option Value → xm_M → Prop}
theorem S_X2_findWay {tk : Int32} (hv : vX σ) (hh : vH σ) (hm : vM σ) (hpl : ∀ t, t < nX σ → ∃ p, p < 3 ∧ σ.1 5 t = nI p)
    (h0 : anyL σ tk (nX σ) = false → Q (some (.int 0)) (xm_set σ 21 3 noW)) (h1 : anyL σ tk (nX σ) = true → Q (some (.int (b2i (decide (¬ (bstP σ tk).2.2.2 = noW))))) (plM (toM σ tk) (bstP σ tk))) : xg_C (30 + d) mX2_findWay [.ref 21, .ref 1, .ref 16, .int tk] σ Q := by
  refine xg_C_of py_X2_findWay (Nat.le_of_ble_eq_true rfl) ?_
  show xg_X none (30 + d) mX2_findWay 0 [(0, .ref 21), (1, .ref 1), (2, .ref 16), (3, .int tk)] [] σ Q
  rw [show 30 + d = (d + 2) + 28 by omega]
  obtain ⟨hn, hn8⟩ := hv
  have hv : vX σ := ⟨hn, hn8⟩
  have vs : ∀ (k : Nat) (v : Int32) τ, vX τ → vX (xm_set τ 22 k v) := fun k v τ h => vX_set (by decide) h
  have tail : anyL σ tk (nX σ) = true → ∀ l4, xg_X none (d + 2 + 28) mX2_findWay 75 (l4 ++ [(0, .ref 21), (1, .ref 1), (2, .ref 16), (3, .int tk)]) [] (plM (toM σ tk) (σ.1 21 0, σ.1 21 1, σ.1 21 2, noW)) Q := by
    intro ha l4
    refine xg_sub (lw := [(0, .ref 21), (1, .ref 1), (2, .ref 16), (3, .int tk)]) (fun q hq => List.mem_append_right _ hq) ?_
    have e16 : ∀ P : plP, (plM (toM σ tk) P).1 16 = σ.1 16 := fun P => (plM_ne (by decide)).trans (toM_ne (by decide))
    have e1 : (toM σ tk).1 1 = σ.1 1 := toM_ne (by decide)
    have hvl : vPl (toM σ tk) := by
      refine ⟨fun t ht => ?_, fun f hf => ?_⟩
      · rw [toM_ne (by decide)]
        unfold nX at ht
        rw [e1] at ht
        exact hpl t ht
      · have key : ∀ z : Int32, (tlX σ 16 z tk (nX σ)).1 = -1 ∨ ∃ t, t < 8 ∧ (tlX σ 16 z tk (nX σ)).1 = nI t := fun z => (vTl_in (nX σ)).imp id (fun ⟨t, h1, h2⟩ => ⟨t, by omega, h2⟩)
        unfold toM
        rcases (by omega : f = 0 ∨ f = 1 ∨ f = 2) with rfl | rfl | rfl
        · rw [xs_nk (by decide), xs_nk (by decide), xs_eq]; exact key 0
        · rw [xs_nk (by decide), xs_eq]; exact key 1
        · rw [xs_eq]; exact key 2
    have srch := S_X2_search (d := d + 2) (vX_of e1 hv) (vH_of e1 hh) hvl 25 (miX σ)
    rw [show 25 + (d + 2) + 2 = d + 29 by omega] at srch
    refine X_aldn0 76 dX2_findWay_75 rfl rfl ?_
    refine X_aldn1 77 dX2_findWay_76 rfl rfl ?_
    refine X_aldn2 78 dX2_findWay_77 rfl rfl ?_
    refine X_getI 81 dX2_findWay_78 fl_X2_39 rfl rfl ?_
    refine X_aldn2 82 dX2_findWay_81 rfl rfl ?_
    refine X_getI 85 dX2_findWay_82 fl_X2_42 rfl rfl ?_
    refine X_ildn3 86 dX2_findWay_85 rfl rfl ?_
    refine X_aldn2 87 dX2_findWay_86 rfl rfl ?_
    refine X_getI 90 dX2_findWay_87 fl_X2_45 rfl rfl ?_
    refine X_iconst 0 91 dX2_findWay_90 (by decide) rfl ?_
    refine X_iconst (-1) 92 dX2_findWay_91 (by decide) rfl ?_
    rw [e16, hm.1]
    refine X_callV7 2 95 dX2_findWay_92 cw_X2_48 zk_X2_search ⟨rfl, rfl⟩ rfl rfl rfl (srch _ _ _ _ _ _ _ hm.2 (by omega) ?_)
    rw [← hm.1, show srX (toM σ tk) 25 (σ.1 16 0) (σ.1 16 1) tk (σ.1 16 3) 0 (-1) (σ.1 21 0, σ.1 21 1, σ.1 21 2, noW) = bstP σ tk from rfl]
    refine X_pn ?_
    refine X_aldn0 96 dX2_findWay_95 rfl rfl ?_
    refine X_getI 99 dX2_findWay_96 fl_X2_16 rfl rfl ?_
    refine X_ldc 1048576 101 dX2_findWay_99 ci_X2_15 rfl ?_
    rw [plM_3]
    refine X_iceq 108 104 dX2_findWay_101 (by decide) rfl (fun c101 => ?_) (fun c101 => ?_)
    · refine X_iconst 0 109 dX2_findWay_108 (by decide) rfl ?_
      refine X_zret dX2_findWay_109 rfl (by first | exact Or.inl rfl | exact Or.inr rfl) ?_
      refine Qi (h1 ha) ?_
      grind [b2i, noW]
    · refine X_iconst 1 105 dX2_findWay_104 (by decide) rfl ?_
      refine X_goto 109 dX2_findWay_105 (by decide) ?_
      refine X_zret dX2_findWay_109 rfl (by first | exact Or.inl rfl | exact Or.inr rfl) ?_
      refine Qi (h1 ha) ?_
      grind [b2i, noW]
  have tools : anyL σ tk (nX σ) = true → ∀ l4, xg_X none (d + 2 + 28) mX2_findWay 45 (l4 ++ [(0, .ref 21), (1, .ref 1), (2, .ref 16), (3, .int tk)]) [] (xm_set σ 21 3 noW) Q := by
    intro ha l4
    refine xg_sub (lw := [(0, .ref 21), (1, .ref 1), (2, .ref 16), (3, .int tk)]) (fun q hq => List.mem_append_right _ hq) ?_
    have tl : ∀ (τ : xm_M) (z : Int32), (∀ c, c ≠ 21 → c ≠ 22 → τ.1 c = σ.1 c) → (tlX τ 16 z tk (nX τ)).1 = (tlX σ 16 z tk (nX σ)).1 := by
      intro τ z h
      unfold tlX nX loX
      rw [h 1 (by decide) (by decide), h 2 (by decide) (by decide), h 3 (by decide) (by decide), h 5 (by decide) (by decide), h 16 (by decide) (by decide)]
    have s0 : ∀ c, c ≠ 21 → c ≠ 22 → (xm_set σ 21 3 noW).1 c = σ.1 c := fun c a b => funext fun k => xs_ne a
    have s1 : ∀ (τ : xm_M) (k : Nat) (v : Int32), (∀ c, c ≠ 21 → c ≠ 22 → τ.1 c = σ.1 c) → ∀ c, c ≠ 21 → c ≠ 22 → (xm_set τ 22 k v).1 c = σ.1 c := fun τ k v h c a b => (funext fun k => xs_ne b).trans (h c a b)
    refine X_iconst 0 46 dX2_findWay_45 (by decide) rfl ?_
    refine X_istN 48 dX2_findWay_46 rfl rfl rfl ?_
    refine X_ild0 50 dX2_findWay_48 rfl ?_
    refine X_iconst 3 51 dX2_findWay_50 (by decide) rfl ?_
    refine X_icge 75 54 dX2_findWay_51 (by decide) rfl (fun c51 => ?_) (fun c51 => ?_)
    · exact absurd c51 (by decide)
    · skip
      refine X_aldn1 55 dX2_findWay_54 rfl rfl ?_
      refine X_getA 22 58 dX2_findWay_55 fl_X2_9 rfl rfl ?_
      refine X_ild0 60 dX2_findWay_58 rfl ?_
      refine X_aldn3 61 dX2_findWay_60 rfl rfl ?_
      refine X_aldn2 62 dX2_findWay_61 rfl rfl ?_
      refine X_ild0 64 dX2_findWay_62 rfl ?_
      refine X_ildn4 65 dX2_findWay_64 rfl rfl ?_
      refine X_callV3 1 68 dX2_findWay_65 cw_X2_35 zk_X1_toolOf ⟨rfl, rfl⟩ rfl rfl rfl (S_X1_toolOf (Or.inl rfl) (vX_of (s0 1 (by decide) (by decide)) hv) ?_)
      rw [tl _ _ s0]
      refine X_pu ?_
      refine X_iask 0 69 dX2_findWay_68 rfl rfl (by decide) (by decide) ?_
      refine X_inc0 1 72 dX2_findWay_69 (by decide) rfl rfl rfl ?_
      refine X_goto 48 dX2_findWay_72 (by decide) ?_
      refine X_ild0 50 dX2_findWay_48 rfl ?_
      refine X_iconst 3 51 dX2_findWay_50 (by decide) rfl ?_
      refine X_icge 75 54 dX2_findWay_51 (by decide) rfl (fun c51 => ?_) (fun c51 => ?_)
      · exact absurd c51 (by decide)
      · skip
        refine X_aldn1 55 dX2_findWay_54 rfl rfl ?_
        refine X_getA 22 58 dX2_findWay_55 fl_X2_9 rfl rfl ?_
        refine X_ild0 60 dX2_findWay_58 rfl ?_
        refine X_aldn3 61 dX2_findWay_60 rfl rfl ?_
        refine X_aldn2 62 dX2_findWay_61 rfl rfl ?_
        refine X_ild0 64 dX2_findWay_62 rfl ?_
        refine X_ildn4 65 dX2_findWay_64 rfl rfl ?_
        refine X_callV3 1 68 dX2_findWay_65 cw_X2_35 zk_X1_toolOf ⟨rfl, rfl⟩ rfl rfl rfl (S_X1_toolOf (Or.inl rfl) (vX_of (s1 _ _ _ s0 1 (by decide) (by decide)) hv) ?_)
        rw [tl _ _ (s1 _ _ _ s0)]
        refine X_pu ?_
        refine X_iask 1 69 dX2_findWay_68 rfl rfl (by decide) (by decide) ?_
        refine X_inc0 1 72 dX2_findWay_69 (by decide) rfl rfl rfl ?_
        refine X_goto 48 dX2_findWay_72 (by decide) ?_
        refine X_ild0 50 dX2_findWay_48 rfl ?_
        refine X_iconst 3 51 dX2_findWay_50 (by decide) rfl ?_
        refine X_icge 75 54 dX2_findWay_51 (by decide) rfl (fun c51 => ?_) (fun c51 => ?_)
        · exact absurd c51 (by decide)
        · skip
          refine X_aldn1 55 dX2_findWay_54 rfl rfl ?_
          refine X_getA 22 58 dX2_findWay_55 fl_X2_9 rfl rfl ?_
          refine X_ild0 60 dX2_findWay_58 rfl ?_
          refine X_aldn3 61 dX2_findWay_60 rfl rfl ?_
          refine X_aldn2 62 dX2_findWay_61 rfl rfl ?_
          refine X_ild0 64 dX2_findWay_62 rfl ?_
          refine X_ildn4 65 dX2_findWay_64 rfl rfl ?_
          refine X_callV3 1 68 dX2_findWay_65 cw_X2_35 zk_X1_toolOf ⟨rfl, rfl⟩ rfl rfl rfl (S_X1_toolOf (Or.inl rfl) (vX_of (s1 _ _ _ (s1 _ _ _ s0) 1 (by decide) (by decide)) hv) ?_)
          rw [tl _ _ (s1 _ _ _ (s1 _ _ _ s0))]
          refine X_pu ?_
          refine X_iask 2 69 dX2_findWay_68 rfl rfl (by decide) (by decide) ?_
          refine X_inc0 1 72 dX2_findWay_69 (by decide) rfl rfl rfl ?_
          refine X_goto 48 dX2_findWay_72 (by decide) ?_
          refine X_ild0 50 dX2_findWay_48 rfl ?_
          refine X_iconst 3 51 dX2_findWay_50 (by decide) rfl ?_
          refine X_icge 75 54 dX2_findWay_51 (by decide) rfl (fun c51 => ?_) (fun c51 => ?_)
          · skip
            have e := toM_eq (σ := σ) (tk := tk)
            rw [show (0 + 1 : Int32) = 1 by decide, show (1 + 1 : Int32) = 2 by decide, e]
            exact tail ha [_]
          · exact absurd (by decide) c51
  have loop : ∀ k t, t + k = nX σ → anyL σ tk t = true → xg_X none (d + 2 + 28) mX2_findWay 9 [(4, .int (nI t)), (0, .ref 21), (1, .ref 1), (2, .ref 16), (3, .int tk)] [] (xm_set σ 21 3 noW) Q := by
    intro k
    have e1 : (xm_set σ 21 3 noW).1 1 5 = nI (nX σ) := (xs_ne (by decide)).trans hn
    have el : loX (xm_set σ 21 3 noW) 16 = loX σ 16 := by
      unfold loX
      rw [xs_ne (by decide), xs_ne (by decide), show (xm_set σ 21 3 noW).1 5 = σ.1 5 from funext fun k => xs_ne (by decide)]
    induction k with
    | zero =>
      intro t h2 hb
      obtain rfl : t = nX σ := by omega
      refine X_ild0 11 dX2_findWay_9 rfl ?_
      refine X_aldn2 12 dX2_findWay_11 rfl rfl ?_
      refine X_getI 15 dX2_findWay_12 fl_X2_20 rfl rfl ?_
      rw [e1]
      refine X_icge 45 18 dX2_findWay_15 (by decide) rfl (fun c15 => ?_) (fun c15 => ?_)
      · exact tools hb [_]
      · exact absurd (nI_le (Nat.le_refl _) (by omega)) c15
    | succ k ih =>
      intro t h2 hb
      refine X_ild0 11 dX2_findWay_9 rfl ?_
      refine X_aldn2 12 dX2_findWay_11 rfl rfl ?_
      refine X_getI 15 dX2_findWay_12 fl_X2_20 rfl rfl ?_
      rw [e1]
      refine X_icge 45 18 dX2_findWay_15 (by decide) rfl (fun c15 => ?_) (fun c15 => ?_)
      · have c15 := leq c15 rfl (by omega) (by omega)
        omega
      · refine X_ildn4 19 dX2_findWay_18 rfl rfl ?_
        refine X_ild0 21 dX2_findWay_19 rfl ?_
        refine X_callN2 24 dX2_findWay_21 cn_X2_25 cw_X2_25 zk_X4_hasBit rfl rfl (S_X4_hasBit ?_)
        refine X_pu ?_
        refine X_ifeq 39 27 dX2_findWay_24 (by decide) rfl (fun c24 => ?_) (fun c24 => ?_)
        · refine X_inc0 1 42 dX2_findWay_39 (by decide) rfl rfl rfl ?_
          refine X_goto 9 dX2_findWay_42 (by decide) ?_
          refine xg_lv (by rw [nI_succ]) (ih (t + 1) (by omega) ?_)
          unfold anyL at hb ⊢
          rw [allN, hb]
          grind [b2i]
        · refine X_aldn3 28 dX2_findWay_27 rfl rfl ?_
          refine X_aldn2 29 dX2_findWay_28 rfl rfl ?_
          refine X_ild0 31 dX2_findWay_29 rfl ?_
          refine X_callV2 1 34 dX2_findWay_31 cw_X2_29 zk_X1_isLost ⟨rfl, rfl⟩ rfl rfl rfl (S_X1_isLost (Or.inl rfl) (by omega) ?_)
          rw [el]
          refine X_pu ?_
          refine X_ifeq 39 37 dX2_findWay_34 (by decide) rfl (fun c34 => ?_) (fun c34 => ?_)
          · refine X_inc0 1 42 dX2_findWay_39 (by decide) rfl rfl rfl ?_
            refine X_goto 9 dX2_findWay_42 (by decide) ?_
            refine xg_lv (by rw [nI_succ]) (ih (t + 1) (by omega) ?_)
            unfold anyL at hb ⊢
            rw [allN, hb]
            grind [b2i]
          · refine X_iconst 0 38 dX2_findWay_37 (by decide) rfl ?_
            refine X_zret dX2_findWay_38 rfl (by first | exact Or.inl rfl | exact Or.inr rfl) ?_
            refine h0 (allN_no (i := t) (by omega) ?_)
            rw [b2i_n.mp c24, b2i_n.mp c34]
            rfl
  refine X_aldn0 1 dX2_findWay_0 rfl rfl ?_
  refine X_ldc 1048576 3 dX2_findWay_1 ci_X2_15 rfl ?_
  refine X_putI 6 dX2_findWay_3 fp_X2_16 rfl rfl ?_
  refine X_iconst 0 7 dX2_findWay_6 (by decide) rfl ?_
  refine X_istN 9 dX2_findWay_7 rfl rfl rfl ?_
  exact loop (nX σ) 0 (by omega) rfl
theorem S_X4_plan {y : Int32} (hv : vX σ) (hh : vH σ) (hm : vM σ) (hpl : ∀ t, t < nX σ → ∃ p, p < 3 ∧ σ.1 5 t = nI p) (h : ∀ τ, smP σ τ → Q (some (.int (f_plan σ y))) τ) : xg_C (31 + d) mX4_plan [.ref 0, .int y] σ Q := by
  refine xg_C_of py_X4_plan (Nat.le_of_ble_eq_true rfl) ?_
  show xg_X none (31 + d) mX4_plan 0 [(0, .ref 0), (1, .int y)] [] σ Q
  rw [show 31 + d = (30 + d) + 1 by omega]
  have sm0 : smP σ (xm_set σ 21 3 noW) := fun c a b => funext fun k => xs_ne a
  have sm1 : ∀ P, smP σ (plM (toM σ (σ.1 0 11)) P) := fun P c a b => (plM_ne a).trans (toM_ne b)
  have tail : ¬ (y < 0 ∨ 2 < y) → ¬ σ.1 0 11 = 0 → anyL σ (σ.1 0 11) (nX σ) = true → xg_X none (30 + d + 1) mX4_plan 48 [(0, .ref 0), (1, .int y)] [.int (b2i (decide (¬ (bstP σ (σ.1 0 11)).2.2.2 = noW)))] (plM (toM σ (σ.1 0 11)) (bstP σ (σ.1 0 11))) Q := by
    intro cy c0 ha
    have hf : f_plan σ y = if (bstP σ (σ.1 0 11)).2.2.2 = noW then -1 else if y = 0 then (bstP σ (σ.1 0 11)).1 else if y = 1 then (bstP σ (σ.1 0 11)).2.1 else (bstP σ (σ.1 0 11)).2.2.1 := by
      rw [f_plan, if_neg cy, if_neg c0, if_neg (by rw [ha]; decide)]
    rw [hf] at h
    generalize bstP σ (σ.1 0 11) = P at *
    refine X_ifne 53 51 dX4_plan_48 (by decide) rfl (fun c48 => ?_) (fun c48 => ?_)
    · refine X_ildn1 54 dX4_plan_53 rfl rfl ?_
      by_cases y54_0 : y = 0
      · refine X_lsw 80 dX4_plan_54 (by decide) (by rw [y54_0]; decide) ?_
        refine X_aldn0 81 dX4_plan_80 rfl rfl ?_
        refine X_getA 21 84 dX4_plan_81 fl_X4_50 rfl rfl ?_
        refine X_getI 87 dX4_plan_84 fl_X4_206 rfl rfl ?_
        refine X_iret dX4_plan_87 rfl ?_
        refine Qi (h _ (sm1 _)) ?_
        rw [plM_0]
        grind [b2i]
      by_cases y54_1 : y = 1
      · refine X_lsw 88 dX4_plan_54 (by decide) (by rw [y54_1]; decide) ?_
        refine X_aldn0 89 dX4_plan_88 rfl rfl ?_
        refine X_getA 21 92 dX4_plan_89 fl_X4_50 rfl rfl ?_
        refine X_getI 95 dX4_plan_92 fl_X4_209 rfl rfl ?_
        refine X_iret dX4_plan_95 rfl ?_
        refine Qi (h _ (sm1 _)) ?_
        rw [plM_1]
        grind [b2i]
      refine X_lsw 96 dX4_plan_54 (by decide) (by show (_ : Int) + Op.lookupswitch.offset [(0, 26), (1, 34)] 42 _ = _; rw [lv_osw y54_0 (by decide), lv_osw y54_1 (by decide)]; rfl) ?_
      refine X_aldn0 97 dX4_plan_96 rfl rfl ?_
      refine X_getA 21 100 dX4_plan_97 fl_X4_50 rfl rfl ?_
      refine X_getI 103 dX4_plan_100 fl_X4_212 rfl rfl ?_
      refine X_iret dX4_plan_103 rfl ?_
      refine Qi (h _ (sm1 _)) ?_
      rw [plM_2]
      grind [b2i]
    · refine X_iconst (-1) 52 dX4_plan_51 (by decide) rfl ?_
      refine X_iret dX4_plan_52 rfl ?_
      refine Qi (h _ (sm1 _)) ?_
      grind [b2i]
  refine X_ildn1 1 dX4_plan_0 rfl rfl ?_
  refine X_iflt 9 4 dX4_plan_1 (by decide) rfl (fun c1 => ?_) (fun c1 => ?_)
  · refine X_bipush (-3) 11 dX4_plan_9 (by decide) rfl ?_
    refine X_iret dX4_plan_11 rfl ?_
    refine Qi (h _ (fun _ _ _ => rfl)) ?_
    (try simp only [i_nlt, i_nle] at *)
    grind [f_plan]
  · refine X_ildn1 5 dX4_plan_4 rfl rfl ?_
    refine X_iconst 2 6 dX4_plan_5 (by decide) rfl ?_
    refine X_icle 12 9 dX4_plan_6 (by decide) rfl (fun c6 => ?_) (fun c6 => ?_)
    · refine X_aldn0 13 dX4_plan_12 rfl rfl ?_
      refine X_getI 16 dX4_plan_13 fl_X4_133 rfl rfl ?_
      refine X_ifne 29 19 dX4_plan_16 (by decide) rfl (fun c16 => ?_) (fun c16 => ?_)
      · refine X_aldn0 30 dX4_plan_29 rfl rfl ?_
        refine X_getA 21 33 dX4_plan_30 fl_X4_50 rfl rfl ?_
        refine X_aldn0 34 dX4_plan_33 rfl rfl ?_
        refine X_getA 1 37 dX4_plan_34 fl_X4_10 rfl rfl ?_
        refine X_aldn0 38 dX4_plan_37 rfl rfl ?_
        refine X_getA 16 41 dX4_plan_38 fl_X4_29 rfl rfl ?_
        refine X_aldn0 42 dX4_plan_41 rfl rfl ?_
        refine X_getI 45 dX4_plan_42 fl_X4_133 rfl rfl ?_
        have cy : ¬ (y < 0 ∨ 2 < y) := by
          (try simp only [i_nlt, i_nle] at *)
          grind
        refine X_callV3 2 48 dX4_plan_45 cw_X4_202 zk_X2_findWay ⟨rfl, rfl⟩ rfl rfl rfl (S_X2_findWay hv hh hm hpl (fun ha => ?_) (fun ha => ?_))
        · refine X_pu ?_
          refine X_ifne 53 51 dX4_plan_48 (by decide) rfl (fun c => absurd rfl c) (fun c => ?_)
          refine X_iconst (-1) 52 dX4_plan_51 (by decide) rfl ?_
          refine X_iret dX4_plan_52 rfl ?_
          refine Qi (h _ sm0) ?_
          rw [f_plan, if_neg cy, if_neg c16, if_pos ha]
        · refine X_pu ?_
          exact tail cy c16 ha --stop
      · refine X_ildn1 20 dX4_plan_19 rfl rfl ?_
        refine X_ifne 27 23 dX4_plan_20 (by decide) rfl (fun c20 => ?_) (fun c20 => ?_)
        · refine X_iconst (-1) 28 dX4_plan_27 (by decide) rfl ?_
          refine X_iret dX4_plan_28 rfl ?_
          refine Qi (h _ (fun _ _ _ => rfl)) ?_
          (try simp only [i_nlt, i_nle] at *)
          grind [f_plan]
        · refine X_iconst 0 24 dX4_plan_23 (by decide) rfl ?_
          refine X_goto 28 dX4_plan_24 (by decide) ?_
          refine X_iret dX4_plan_28 rfl ?_
          refine Qi (h _ (fun _ _ _ => rfl)) ?_
          (try simp only [i_nlt, i_nle] at *)
          grind [f_plan]
    · refine X_bipush (-3) 11 dX4_plan_9 (by decide) rfl ?_
      refine X_iret dX4_plan_11 rfl ?_
      refine Qi (h _ (fun _ _ _ => rfl)) ?_
      (try simp only [i_nlt, i_nle] at *)
      grind [f_plan]
end PLAN2
