theorem xs_self {σ : xm_M} {a k : Nat} {v : Int32} (h : σ.1 a k = v) : xm_set σ a k v = σ := by
  apply Prod.ext
  · funext b j
    simp only [xm_set]
    by_cases e : b = a ∧ j = k
    · rw [if_pos e, e.1, e.2, h]
    · rw [if_neg e]
  · rfl
theorem xs_xs {σ : xm_M} {a k : Nat} {v w : Int32} : xm_set (xm_set σ a k v) a k w = xm_set σ a k w := by
  apply Prod.ext
  · funext b j
    simp only [xm_set]
    by_cases e : b = a ∧ j = k
    · rw [if_pos e, if_pos e]
    · rw [if_neg e, if_neg e, if_neg e]
  · rfl
theorem leq {x : Int32} {n i : Nat} (c : x ≤ nI i) (hx : x = nI n) (hn : n < 2 ^ 31) (hi : i < 2 ^ 31) : n ≤ i := by rw [le_nI hx hn hi] at c; exact c
theorem nleq {x : Int32} {n i : Nat} (c : ¬ x ≤ nI i) (hx : x = nI n) (hn : n < 2 ^ 31) (hi : i < 2 ^ 31) : i < n := by rw [le_nI hx hn hi] at c; omega
theorem xg_lv {xs : Option (Nat × (Nat → Int32))} {d : Nat} {M : xg_Y} {pc : Nat} {lv lw : List (Nat × Value)} {st : List Value} {σ : xm_M} {Q : Option Value → xm_M → Prop} (e : lw = lv) (h : xg_X xs d M pc lw st σ Q) : xg_X xs d M pc lv st σ Q := e ▸ h
theorem xg_sub {xs : Option (Nat × (Nat → Int32))} {d : Nat} {M : xg_Y} {pc : Nat} {lv lw : List (Nat × Value)} {st : List Value} {σ : xm_M} {Q : Option Value → xm_M → Prop} (hs : ∀ q ∈ lw, q ∈ lv) (h : xg_X xs d M pc lw st σ Q) : xg_X xs d M pc lv st σ Q := by
  intro p l e R s m args below meth c cells slots ad G cA Z hT hR H locs ls hP hS hl
  refine h p l e R s m args below meth c cells slots ad G cA Z hT hR H locs ls hP hS ⟨hl.1, hl.2.1, fun q hq => hl.2.2 q ?_⟩
  obtain ⟨q0, h0, rfl⟩ := List.mem_map.mp hq
  exact List.mem_map.mpr ⟨q0, hs q0 h0, rfl⟩
theorem X_drop {xs : Option (Nat × (Nat → Int32))} {d : Nat} {M : xg_Y} {pc : Nat} {q : Nat × Value} {lv : List (Nat × Value)} {st : List Value} {σ : xm_M} {Q : Option Value → xm_M → Prop} (h : xg_X xs d M pc lv st σ Q) : xg_X xs d M pc (q :: lv) st σ Q := xg_sub (fun _ h => List.mem_cons_of_mem _ h) h
theorem xg_mm {xs : Option (Nat × (Nat → Int32))} {d : Nat} {M : xg_Y} {pc : Nat} {lv : List (Nat × Value)} {st : List Value} {σ τ : xm_M} {Q : Option Value → xm_M → Prop} (e : τ = σ) (h : xg_X xs d M pc lv st τ Q) : xg_X xs d M pc lv st σ Q := e ▸ h
/-- the first floor from i on, of k, that is over -/
def vFO (ov : Nat → Bool) : Nat → Nat → Int32
  | 0, _ => -1
  | k + 1, i => if ov i then nI i else vFO ov k (i + 1)
def ovX (σ : xm_M) (a : Nat) (f : Nat) : Bool := !hb (σ.1 a 5) (nI f) && decide (σ.1 6 f < ldX σ a (nI f))
def ogX (σ : xm_M) (a : Nat) : Nat → Int32 := fun i => if σ.1 2 i = 2 ∧ gX σ a i = 0 ∧ loX σ a i = false then 1 else 0
/-- THE TOOL: of the first n things, and its rank -/
def vTl (ki pl wt : Nat → Int32) (lost : Nat → Bool) (ev tk f : Int32) : Nat → Int32 × Int32
  | 0 => (-1, 0)
  | i + 1 => if ki i = 1 ∧ pl i = f ∧ hb tk (nI i) = false ∧ lost i = false then (if (vTl ki pl wt lost ev tk f i).1 = -1 ∨ (if hb ev (nI i) then 0 else wt i) < (vTl ki pl wt lost ev tk f i).2 then (nI i, if hb ev (nI i) then 0 else wt i) else vTl ki pl wt lost ev tk f i) else vTl ki pl wt lost ev tk f i
def tlX (σ : xm_M) (a : Nat) (f tk : Int32) (n : Nat) : Int32 × Int32 := vTl (σ.1 2) (σ.1 5) (σ.1 3) (loX σ a) (σ.1 a 3) tk f n
def hXf (w : Nat) (b m : Int32) : Nat → Nat → Int32
  | 0, _ => 2
  | k + 1, g => if 0 ≤ m - nI g ∧ m - nI g < 24 ∧ hb b (m - nI g) = true then (if g ≤ w then 0 else 1) else hXf w b m k (g + 1)
def wX (σ : xm_M) : Nat := (σ.1 1 6).toNatClampNeg
def cX (σ : xm_M) : Nat := (σ.1 1 7).toNatClampNeg
/-- wash and chill are small -/
def vH (σ : xm_M) : Prop := σ.1 1 6 = nI (wX σ) ∧ wX σ ≤ 4 ∧ σ.1 1 7 = nI (cX σ) ∧ cX σ ≤ 4
def hX (σ : xm_M) (b m : Int32) : Int32 := hXf (wX σ) b m (wX σ + cX σ) 1
def gldX (σ : xm_M) (a : Nat) (x : Int32) : xm_M :=
  if hX σ (σ.1 a 1) (σ.1 a 0) = 0 ∨ hb (σ.1 a 3) x = true then σ
  else if hX σ (σ.1 a 1) (σ.1 a 0) = 1 ∧ σ.1 a 0 < σ.1 1 8 then xm_set σ a 2 (σ.1 a 2 ||| (1 <<< (x &&& 31)))
  else xm_set (xm_set σ a 2 (σ.1 a 2 &&& ((1 <<< (x &&& 31)) ^^^ (-1)))) a 3 (σ.1 a 3 ||| (1 <<< (x &&& 31)))
def brX (σ : xm_M) (a : Nat) (k : Nat) : Int32 := vBrk (σ.1 a 5) (fun f => ldX σ a (nI f)) (σ.1 6) k
def pasX (σ : xm_M) (a : Nat) : xm_M :=
  if σ.1 a 0 + 1 = σ.1 1 8 then xm_set (xm_set (xm_set σ a 5 (brX σ a 3)) a 0 (σ.1 a 0 + 1)) a 2 0 else xm_set (xm_set σ a 5 (brX σ a 3)) a 0 (σ.1 a 0 + 1)
theorem isD_ne {a : Nat} (h : isD a) : a ≠ 1 ∧ a ≠ 2 ∧ a ≠ 3 ∧ a ≠ 4 ∧ a ≠ 5 ∧ a ≠ 6 ∧ a ≠ 0 := by unfold isD at h; omega
theorem ldX_br {σ : xm_M} {a : Nat} {v f : Int32} (ha : isD a) : ldX (xm_set σ a 5 v) a f = ldX σ a f := by
  obtain ⟨h1, h2, h3, h4, h5, h6, h0⟩ := isD_ne ha
  have e3 : (xm_set σ a 5 v).1 3 = σ.1 3 := funext fun j => xs_ne (Ne.symm h3)
  have e5 : (xm_set σ a 5 v).1 5 = σ.1 5 := funext fun j => xs_ne (Ne.symm h5)
  unfold ldX nX gX
  rw [e3, e5, xs_ne (Ne.symm h1), xs_nk (by decide), xs_nk (by decide), xs_nk (by decide)]
theorem vX_set {σ : xm_M} {a k : Nat} {v : Int32} (h : a ≠ 1) (hv : vX σ) : vX (xm_set σ a k v) := by
  unfold vX nX at *
  rw [xs_ne (Ne.symm h)]
  exact hv
section DAY
variable {d : Nat} {σ : xm_M} {Q : Option Value → xm_M → Prop}
theorem S_X1_firstOverloaded {a : Nat} (ha : isD a) (hv : vX σ) (h : Q (some (.int (vFO (ovX σ a) 3 0))) σ) : xg_C (d + 4) mX1_firstOverloaded [.ref a, .ref 1] σ Q := by
  refine xg_C_of py_X1_firstOverloaded (Nat.le_of_ble_eq_true rfl) ?_
  show xg_X none (d + 4) mX1_firstOverloaded 0 [(0, .ref a), (1, .ref 1)] [] σ Q
  have loop : ∀ k i, i + k = 3 → Q (some (.int (vFO (ovX σ a) k i))) σ → xg_X none (d + 4) mX1_firstOverloaded 2 [(2, .int (nI i)), (0, .ref a), (1, .ref 1)] [] σ Q := by
    intro k
    induction k with
    | zero =>
      intro i h1 h
      obtain rfl : i = 3 := by omega
      refine X_ildn0 3 dX1_firstOverloaded_2 rfl rfl ?_
      refine X_iconst 3 4 dX1_firstOverloaded_3 (by decide) rfl ?_
      refine X_icge 41 7 dX1_firstOverloaded_4 (by decide) rfl (fun c4 => ?_) (fun c4 => ?_)
      · refine X_iconst (-1) 42 dX1_firstOverloaded_41 (by decide) rfl ?_
        refine X_iret dX1_firstOverloaded_42 rfl ?_
        exact h
      · exact absurd (by decide) c4
    | succ k ih =>
      intro i h1 h
      refine X_ildn0 3 dX1_firstOverloaded_2 rfl rfl ?_
      refine X_iconst 3 4 dX1_firstOverloaded_3 (by decide) rfl ?_
      refine X_icge 41 7 dX1_firstOverloaded_4 (by decide) rfl (fun c4 => ?_) (fun c4 => ?_)
      · have c4 := leq c4 (n := 3) (by decide) (by decide) (by omega)
        omega
      · refine X_aldn1 8 dX1_firstOverloaded_7 rfl rfl ?_
        refine X_getI 11 dX1_firstOverloaded_8 fl_X1_27 (ob_day ha (by decide)) rfl ?_
        refine X_ildn0 12 dX1_firstOverloaded_11 rfl rfl ?_
        refine X_callN2 15 dX1_firstOverloaded_12 cn_X1_30 cw_X1_30 zk_X4_hasBit rfl rfl (S_X4_hasBit ?_)
        refine X_pu ?_
        refine X_ifne 35 18 dX1_firstOverloaded_15 (by decide) rfl (fun c15 => ?_) (fun c15 => ?_)
        · refine X_inc0 1 38 dX1_firstOverloaded_35 (by decide) rfl rfl rfl ?_
          refine X_goto 2 dX1_firstOverloaded_38 (by decide) ?_
          have e : vFO (ovX σ a) (k + 1) i = vFO (ovX σ a) k (i + 1) := by grind [vFO, ovX, b2i]
          rw [e] at h
          exact xg_lv (by simp [nI_succ]) (ih (i + 1) (by omega) h)
        · refine X_aldn1 19 dX1_firstOverloaded_18 rfl rfl ?_
          refine X_aldn2 20 dX1_firstOverloaded_19 rfl rfl ?_
          refine X_ildn0 21 dX1_firstOverloaded_20 rfl rfl ?_
          refine X_callV2 1 24 dX1_firstOverloaded_21 cw_X1_54 zk_X1_loadOf ⟨rfl, rfl⟩ (oc_day ha) rfl rfl (S_X1_loadOf ha hv ?_)
          refine X_pu ?_
          refine X_aldn2 25 dX1_firstOverloaded_24 rfl rfl ?_
          refine X_getA 6 28 dX1_firstOverloaded_25 fl_X1_57 rfl rfl ?_
          refine X_ildn0 29 dX1_firstOverloaded_28 rfl rfl ?_
          refine X_ialk i 30 dX1_firstOverloaded_29 rfl rfl rfl (show i < 3 by omega) ?_
          refine X_icle 35 33 dX1_firstOverloaded_30 (by decide) rfl (fun c30 => ?_) (fun c30 => ?_)
          · refine X_inc0 1 38 dX1_firstOverloaded_35 (by decide) rfl rfl rfl ?_
            refine X_goto 2 dX1_firstOverloaded_38 (by decide) ?_
            have e : vFO (ovX σ a) (k + 1) i = vFO (ovX σ a) k (i + 1) := by grind [vFO, ovX, b2i]
            rw [e] at h
            exact xg_lv (by simp [nI_succ]) (ih (i + 1) (by omega) h)
          · refine X_ildn0 34 dX1_firstOverloaded_33 rfl rfl ?_
            refine X_iret dX1_firstOverloaded_34 rfl ?_
            exact Qi h (by simp only [i_nle, b2i_0] at *; simp_all [vFO, ovX])
  refine X_iconst 0 1 dX1_firstOverloaded_0 (by decide) rfl ?_
  refine X_istnN 2 dX1_firstOverloaded_1 rfl rfl rfl rfl ?_
  exact loop 3 0 rfl h
theorem S_X1_priceOf {a i : Nat} (ha : isD a) (hi : i < 8) (h : Q (some (.int (prX σ a i))) σ) : xg_C (d + 2) mX1_priceOf [.ref a, .ref 1, .int (nI i)] σ Q := by
  refine xg_C_of py_X1_priceOf (Nat.le_of_ble_eq_true rfl) ?_
  show xg_X none (d + 2) mX1_priceOf 0 [(0, .ref a), (1, .ref 1), (2, .int (nI i))] [] σ Q
  refine X_aldn0 1 dX1_priceOf_0 rfl rfl ?_
  refine X_aldn1 2 dX1_priceOf_1 rfl rfl ?_
  refine X_ildn2 3 dX1_priceOf_2 rfl rfl ?_
  refine X_callV2 1 6 dX1_priceOf_3 cw_X1_60 zk_X1_isLost ⟨rfl, rfl⟩ (oc_day ha) rfl rfl (S_X1_isLost ha hi ?_)
  refine X_pu ?_
  refine X_ifeq 11 9 dX1_priceOf_6 (by decide) rfl (fun c6 => ?_) (fun c6 => ?_)
  · refine X_aldn0 12 dX1_priceOf_11 rfl rfl ?_
    refine X_ildn2 13 dX1_priceOf_12 rfl rfl ?_
    refine X_callV1 1 16 dX1_priceOf_13 cw_X1_40 zk_X1_goldOf ⟨rfl, rfl⟩ (oc_day ha) rfl rfl (S_X1_goldOf ha ?_)
    refine X_pu ?_
    refine X_ifeq 30 19 dX1_priceOf_16 (by decide) rfl (fun c16 => ?_) (fun c16 => ?_)
    · refine X_aldn1 31 dX1_priceOf_30 rfl rfl ?_
      refine X_getA 4 34 dX1_priceOf_31 fl_X1_64 rfl rfl ?_
      refine X_ildn2 35 dX1_priceOf_34 rfl rfl ?_
      refine X_ialk _ 36 dX1_priceOf_35 rfl rfl rfl (by first | assumption | omega | decide) ?_
      refine X_iret dX1_priceOf_36 rfl ?_
      exact Qi h (by simp_all [prX, vP, loX, gX, b2i_0])
    · refine X_iconst 3 20 dX1_priceOf_19 (by decide) rfl ?_
      refine X_aldn1 21 dX1_priceOf_20 rfl rfl ?_
      refine X_getA 3 24 dX1_priceOf_21 fl_X1_44 rfl rfl ?_
      refine X_ildn2 25 dX1_priceOf_24 rfl rfl ?_
      refine X_ialk _ 26 dX1_priceOf_25 rfl rfl rfl (by first | assumption | omega | decide) ?_
      refine X_imul 27 dX1_priceOf_26 rfl ?_
      refine X_goto 36 dX1_priceOf_27 (by decide) ?_
      refine X_iret dX1_priceOf_36 rfl ?_
      exact Qi h (by simp_all [prX, vP, loX, gX, b2i_0])
  · refine X_iconst 0 10 dX1_priceOf_9 (by decide) rfl ?_
    refine X_iret dX1_priceOf_10 rfl ?_
    exact Qi h (by simp_all [prX, vP, loX, gX, b2i_0])
theorem S_X1_prices {a : Nat} (ha : isD a) (hv : vX σ) (h : Q (some (.int (sumI (nX σ) (prX σ a)))) σ) : xg_C (d + 3) mX1_prices [.ref a, .ref 1] σ Q := by
  refine xg_C_of py_X1_prices (Nat.le_of_ble_eq_true rfl) ?_
  show xg_X none (d + 3) mX1_prices 0 [(0, .ref a), (1, .ref 1)] [] σ Q
  obtain ⟨hn, hn8⟩ := hv
  have loop : ∀ k i, nX σ < i + k → i ≤ nX σ → xg_X none (d + 3) mX1_prices 4 [(3, .int (nI i)), (2, .int (sumI i (prX σ a))), (0, .ref a), (1, .ref 1)] [] σ Q := by
    intro k
    induction k with
    | zero => intro i h1 h2; omega
    | succ k ih =>
      intro i h1 h2
      refine X_ildn0 5 dX1_prices_4 rfl rfl ?_
      refine X_aldn3 6 dX1_prices_5 rfl rfl ?_
      refine X_getI 9 dX1_prices_6 fl_X1_47 rfl rfl ?_
      try rw [hn]
      refine X_icge 27 12 dX1_prices_9 (by decide) rfl (fun c9 => ?_) (fun c9 => ?_)
      · rw [le_nI rfl (by omega) (by omega)] at c9
        have e : i = nX σ := by omega
        subst e
        refine X_ildn1 28 dX1_prices_27 rfl rfl ?_
        refine X_iret dX1_prices_28 rfl ?_
        exact h
      · rw [le_nI rfl (by omega) (by omega)] at c9
        refine X_ildn1 13 dX1_prices_12 rfl rfl ?_
        refine X_aldn2 14 dX1_prices_13 rfl rfl ?_
        refine X_aldn3 15 dX1_prices_14 rfl rfl ?_
        refine X_ildn0 16 dX1_prices_15 rfl rfl ?_
        refine X_callV2 1 19 dX1_prices_16 cw_X1_67 zk_X1_priceOf ⟨rfl, rfl⟩ (oc_day ha) rfl rfl (S_X1_priceOf ha (by omega) ?_)
        refine X_pu ?_
        refine X_iadd 20 dX1_prices_19 rfl ?_
        refine X_istn1 21 dX1_prices_20 rfl rfl rfl rfl ?_
        refine X_inc0 1 24 dX1_prices_21 (by decide) rfl rfl rfl ?_
        refine X_goto 4 dX1_prices_24 (by decide) ?_
        have := ih (i + 1) (by omega) (by omega)
        simpa [nI_succ, sumI] using this
  refine X_iconst 0 1 dX1_prices_0 (by decide) rfl ?_
  refine X_istnN 2 dX1_prices_1 rfl rfl rfl rfl ?_
  refine X_iconst 0 3 dX1_prices_2 (by decide) rfl ?_
  refine X_istnN 4 dX1_prices_3 rfl rfl rfl rfl ?_
  exact loop (nX σ + 1) 0 (by omega) (by omega)
theorem S_X1_openGates {a : Nat} (ha : isD a) (hv : vX σ) (h : Q (some (.int (sumI (nX σ) (ogX σ a)))) σ) : xg_C (d + 3) mX1_openGates [.ref a, .ref 1] σ Q := by
  refine xg_C_of py_X1_openGates (Nat.le_of_ble_eq_true rfl) ?_
  show xg_X none (d + 3) mX1_openGates 0 [(0, .ref a), (1, .ref 1)] [] σ Q
  obtain ⟨hn, hn8⟩ := hv
  have loop : ∀ k i, nX σ < i + k → i ≤ nX σ → xg_X none (d + 3) mX1_openGates 4 [(3, .int (nI i)), (2, .int (sumI i (ogX σ a))), (0, .ref a), (1, .ref 1)] [] σ Q := by
    intro k
    induction k with
    | zero => intro i h1 h2; omega
    | succ k ih =>
      intro i h1 h2
      refine X_ildn0 5 dX1_openGates_4 rfl rfl ?_
      refine X_aldn3 6 dX1_openGates_5 rfl rfl ?_
      refine X_getI 9 dX1_openGates_6 fl_X1_47 rfl rfl ?_
      try rw [hn]
      refine X_icge 48 12 dX1_openGates_9 (by decide) rfl (fun c9 => ?_) (fun c9 => ?_)
      · rw [le_nI rfl (by omega) (by omega)] at c9
        have e : i = nX σ := by omega
        subst e
        refine X_ildn1 49 dX1_openGates_48 rfl rfl ?_
        refine X_iret dX1_openGates_49 rfl ?_
        exact h
      · rw [le_nI rfl (by omega) (by omega)] at c9
        refine X_aldn3 13 dX1_openGates_12 rfl rfl ?_
        refine X_getA 2 16 dX1_openGates_13 fl_X1_70 rfl rfl ?_
        refine X_ildn0 17 dX1_openGates_16 rfl rfl ?_
        refine X_ialk i 18 dX1_openGates_17 rfl rfl rfl (show i < 8 by omega) ?_
        refine X_iconst 2 19 dX1_openGates_18 (by decide) rfl ?_
        refine X_icne 42 22 dX1_openGates_19 (by decide) rfl (fun c19 => ?_) (fun c19 => ?_)
        · refine X_inc0 1 45 dX1_openGates_42 (by decide) rfl rfl rfl ?_
          refine X_goto 4 dX1_openGates_45 (by decide) ?_
          refine xg_lv ?_ (ih (i + 1) (by omega) (by omega))
          grind [nI_succ, sumI, ogX, gX, b2i]
        · refine X_aldn2 23 dX1_openGates_22 rfl rfl ?_
          refine X_ildn0 24 dX1_openGates_23 rfl rfl ?_
          refine X_callV1 1 27 dX1_openGates_24 cw_X1_40 zk_X1_goldOf ⟨rfl, rfl⟩ (oc_day ha) rfl rfl (S_X1_goldOf ha ?_)
          refine X_pu ?_
          refine X_ifne 42 30 dX1_openGates_27 (by decide) rfl (fun c27 => ?_) (fun c27 => ?_)
          · refine X_inc0 1 45 dX1_openGates_42 (by decide) rfl rfl rfl ?_
            refine X_goto 4 dX1_openGates_45 (by decide) ?_
            refine xg_lv ?_ (ih (i + 1) (by omega) (by omega))
            grind [nI_succ, sumI, ogX, gX, b2i]
          · refine X_aldn2 31 dX1_openGates_30 rfl rfl ?_
            refine X_aldn3 32 dX1_openGates_31 rfl rfl ?_
            refine X_ildn0 33 dX1_openGates_32 rfl rfl ?_
            refine X_callV2 1 36 dX1_openGates_33 cw_X1_60 zk_X1_isLost ⟨rfl, rfl⟩ (oc_day ha) rfl rfl (S_X1_isLost ha (by omega) ?_)
            refine X_pu ?_
            refine X_ifne 42 39 dX1_openGates_36 (by decide) rfl (fun c36 => ?_) (fun c36 => ?_)
            · refine X_inc0 1 45 dX1_openGates_42 (by decide) rfl rfl rfl ?_
              refine X_goto 4 dX1_openGates_45 (by decide) ?_
              refine xg_lv ?_ (ih (i + 1) (by omega) (by omega))
              grind [nI_succ, sumI, ogX, gX, b2i]
            · refine X_inc1 1 42 dX1_openGates_39 (by decide) rfl rfl rfl ?_
              refine X_inc0 1 45 dX1_openGates_42 (by decide) rfl rfl rfl ?_
              refine X_goto 4 dX1_openGates_45 (by decide) ?_
              refine xg_lv ?_ (ih (i + 1) (by omega) (by omega))
              grind [nI_succ, sumI, ogX, gX, b2i]
  refine X_iconst 0 1 dX1_openGates_0 (by decide) rfl ?_
  refine X_istnN 2 dX1_openGates_1 rfl rfl rfl rfl ?_
  refine X_iconst 0 3 dX1_openGates_2 (by decide) rfl ?_
  refine X_istnN 4 dX1_openGates_3 rfl rfl rfl rfl ?_
  exact loop (nX σ + 1) 0 (by omega) (by omega)
theorem S_X1_toolOf {a : Nat} {f tk : Int32} (ha : isD a) (hv : vX σ) (h : Q (some (.int (tlX σ a f tk (nX σ)).1)) σ) : xg_C (d + 3) mX1_toolOf [.ref a, .ref 1, .int f, .int tk] σ Q := by
  refine xg_C_of py_X1_toolOf (Nat.le_of_ble_eq_true rfl) ?_
  show xg_X none (d + 3) mX1_toolOf 0 [(0, .ref a), (1, .ref 1), (2, .int f), (3, .int tk)] [] σ Q
  obtain ⟨hn, hn8⟩ := hv
  have loop : ∀ k i, nX σ < i + k → i ≤ nX σ → xg_X none (d + 3) mX1_toolOf 9 [(6, .int (nI i)), (5, .int (tlX σ a f tk i).2), (4, .int (tlX σ a f tk i).1), (0, .ref a), (1, .ref 1), (2, .int f), (3, .int tk)] [] σ Q := by
    intro k
    induction k with
    | zero => intro i h1 h2; omega
    | succ k ih =>
      intro i h1 h2
      have nxt : i < nX σ → ∀ b l : Int32, (tlX σ a f tk (i + 1)) = (b, l) → xg_X none (d + 3) mX1_toolOf 108 [(6, .int (nI i)), (5, .int l), (4, .int b), (0, .ref a), (1, .ref 1), (2, .int f), (3, .int tk)] [] σ Q := by
        intro hi b l e
        refine X_inc0 1 111 dX1_toolOf_108 (by decide) rfl rfl rfl ?_
        refine X_goto 9 dX1_toolOf_111 (by decide) ?_
        refine xg_lv ?_ (ih (i + 1) (by omega) (by omega))
        rw [e, nI_succ]
      have rnk : i < nX σ → ∀ r : Int32, r = (if hb (σ.1 a 3) (nI i) then 0 else σ.1 3 i) → (σ.1 2 i = 1 ∧ σ.1 5 i = f ∧ hb tk (nI i) = false ∧ loX σ a i = false) → xg_X none (d + 3) mX1_toolOf 85 [(6, .int (nI i)), (5, .int (tlX σ a f tk i).2), (4, .int (tlX σ a f tk i).1), (0, .ref a), (1, .ref 1), (2, .int f), (3, .int tk)] [.int r] σ Q := by
        intro hi r er ec
        refine X_istN 87 dX1_toolOf_85 rfl rfl rfl ?_
        refine X_ild3 89 dX1_toolOf_87 rfl ?_
        refine X_iconst (-1) 90 dX1_toolOf_89 (by decide) rfl ?_
        refine X_iceq 100 93 dX1_toolOf_90 (by decide) rfl (fun c90 => ?_) (fun c90 => ?_)
        · refine X_ild1 102 dX1_toolOf_100 rfl ?_
          refine X_ist3 104 dX1_toolOf_102 rfl rfl rfl ?_
          refine X_ild0 106 dX1_toolOf_104 rfl ?_
          refine X_ist2 108 dX1_toolOf_106 rfl rfl rfl ?_
          refine X_drop (nxt hi _ _ ?_)
          grind [tlX, vTl]
        · refine X_ild0 95 dX1_toolOf_93 rfl ?_
          refine X_ild2 97 dX1_toolOf_95 rfl ?_
          refine X_icge 108 100 dX1_toolOf_97 (by decide) rfl (fun c97 => ?_) (fun c97 => ?_)
          · refine X_drop (nxt hi _ _ ?_)
            grind [tlX, vTl]
          · refine X_ild1 102 dX1_toolOf_100 rfl ?_
            refine X_ist3 104 dX1_toolOf_102 rfl rfl rfl ?_
            refine X_ild0 106 dX1_toolOf_104 rfl ?_
            refine X_ist2 108 dX1_toolOf_106 rfl rfl rfl ?_
            refine X_drop (nxt hi _ _ ?_)
            grind [tlX, vTl]
      refine X_ild0 11 dX1_toolOf_9 rfl ?_
      refine X_aldn4 12 dX1_toolOf_11 rfl rfl ?_
      refine X_getI 15 dX1_toolOf_12 fl_X1_47 rfl rfl ?_
      try rw [hn]
      refine X_icge 114 18 dX1_toolOf_15 (by decide) rfl (fun c15 => ?_) (fun c15 => ?_)
      · rw [le_nI rfl (by omega) (by omega)] at c15
        have e : i = nX σ := by omega
        subst e
        refine X_ild2 116 dX1_toolOf_114 rfl ?_
        refine X_iret dX1_toolOf_116 rfl ?_
        exact h
      · rw [le_nI rfl (by omega) (by omega)] at c15
        refine X_aldn4 19 dX1_toolOf_18 rfl rfl ?_
        refine X_getA 2 22 dX1_toolOf_19 fl_X1_70 rfl rfl ?_
        refine X_ild0 24 dX1_toolOf_22 rfl ?_
        refine X_ialk i 25 dX1_toolOf_24 rfl rfl rfl (show i < 8 by omega) ?_
        refine X_iconst 1 26 dX1_toolOf_25 (by decide) rfl ?_
        refine X_icne 108 29 dX1_toolOf_26 (by decide) rfl (fun c26 => ?_) (fun c26 => ?_)
        · refine nxt (by omega) _ _ ?_
          grind [tlX, vTl, b2i]
        · refine X_aldn4 30 dX1_toolOf_29 rfl rfl ?_
          refine X_getA 5 33 dX1_toolOf_30 fl_X1_34 rfl rfl ?_
          refine X_ild0 35 dX1_toolOf_33 rfl ?_
          refine X_ialk i 36 dX1_toolOf_35 rfl rfl rfl (show i < 8 by omega) ?_
          refine X_ildn5 37 dX1_toolOf_36 rfl rfl ?_
          refine X_icne 108 40 dX1_toolOf_37 (by decide) rfl (fun c37 => ?_) (fun c37 => ?_)
          · refine nxt (by omega) _ _ ?_
            grind [tlX, vTl, b2i]
          · refine X_ildn6 41 dX1_toolOf_40 rfl rfl ?_
            refine X_ild0 43 dX1_toolOf_41 rfl ?_
            refine X_callN2 46 dX1_toolOf_43 cn_X1_30 cw_X1_30 zk_X4_hasBit rfl rfl (S_X4_hasBit ?_)
            refine X_pu ?_
            refine X_ifne 108 49 dX1_toolOf_46 (by decide) rfl (fun c46 => ?_) (fun c46 => ?_)
            · refine nxt (by omega) _ _ ?_
              grind [tlX, vTl, b2i]
            · refine X_aldn3 50 dX1_toolOf_49 rfl rfl ?_
              refine X_aldn4 51 dX1_toolOf_50 rfl rfl ?_
              refine X_ild0 53 dX1_toolOf_51 rfl ?_
              refine X_callV2 1 56 dX1_toolOf_53 cw_X1_60 zk_X1_isLost ⟨rfl, rfl⟩ (oc_day ha) rfl rfl (S_X1_isLost ha (by omega) ?_)
              refine X_pu ?_
              refine X_ifeq 62 59 dX1_toolOf_56 (by decide) rfl (fun c56 => ?_) (fun c56 => ?_)
              · refine X_aldn3 63 dX1_toolOf_62 rfl rfl ?_
                refine X_getI 66 dX1_toolOf_63 fl_X1_21 (ob_day ha (by decide)) rfl ?_
                refine X_ild0 68 dX1_toolOf_66 rfl ?_
                refine X_callN2 71 dX1_toolOf_68 cn_X1_30 cw_X1_30 zk_X4_hasBit rfl rfl (S_X4_hasBit ?_)
                refine X_pu ?_
                refine X_ifeq 78 74 dX1_toolOf_71 (by decide) rfl (fun c71 => ?_) (fun c71 => ?_)
                · refine X_aldn4 79 dX1_toolOf_78 rfl rfl ?_
                  refine X_getA 3 82 dX1_toolOf_79 fl_X1_44 rfl rfl ?_
                  refine X_ild0 84 dX1_toolOf_82 rfl ?_
                  refine X_ialk i 85 dX1_toolOf_84 rfl rfl rfl (show i < 8 by omega) ?_
                  refine rnk (by omega) _ ?_ ?_
                  · grind [b2i]
                  · grind [b2i]
                · refine X_iconst 0 75 dX1_toolOf_74 (by decide) rfl ?_
                  refine X_goto 85 dX1_toolOf_75 (by decide) ?_
                  refine rnk (by omega) _ ?_ ?_
                  · grind [b2i]
                  · grind [b2i]
              · refine X_goto 108 dX1_toolOf_59 (by decide) ?_
                refine nxt (by omega) _ _ ?_
                grind [tlX, vTl, b2i]
  refine X_iconst (-1) 1 dX1_toolOf_0 (by decide) rfl ?_
  refine X_istN 3 dX1_toolOf_1 rfl rfl rfl ?_
  refine X_iconst 0 4 dX1_toolOf_3 (by decide) rfl ?_
  refine X_istN 6 dX1_toolOf_4 rfl rfl rfl ?_
  refine X_iconst 0 7 dX1_toolOf_6 (by decide) rfl ?_
  refine X_istN 9 dX1_toolOf_7 rfl rfl rfl ?_
  exact loop (nX σ + 1) 0 (by omega) (by omega)
theorem S_X4_handIn {b m : Int32} (hv : vH σ) (h : Q (some (.int (hX σ b m))) σ) : xg_C (d + 1) mX4_handIn [.ref 1, .int b, .int m] σ Q := by
  refine xg_C_of py_X4_handIn (Nat.le_of_ble_eq_true rfl) ?_
  show xg_X none (d + 1) mX4_handIn 0 [(0, .ref 1), (1, .int b), (2, .int m)] [] σ Q
  obtain ⟨h6, w4, h7, c4⟩ := hv
  have hs : σ.1 1 6 + σ.1 1 7 = nI (wX σ + cX σ) := by rw [h6, h7, nI_add]
  have loop : ∀ k g, g + k = wX σ + cX σ + 1 → Q (some (.int (hXf (wX σ) b m k g))) σ → xg_X none (d + 1) mX4_handIn 2 [(3, .int (nI g)), (0, .ref 1), (1, .int b), (2, .int m)] [] σ Q := by
    intro k
    induction k with
    | zero =>
      intro g hg h
      refine X_ildn0 3 dX4_handIn_2 rfl rfl ?_
      refine X_aldn1 4 dX4_handIn_3 rfl rfl ?_
      refine X_getI 7 dX4_handIn_4 fl_X4_248 rfl rfl ?_
      refine X_aldn1 8 dX4_handIn_7 rfl rfl ?_
      refine X_getI 11 dX4_handIn_8 fl_X4_251 rfl rfl ?_
      refine X_iadd 12 dX4_handIn_11 rfl ?_
      try rw [hs]
      refine X_icgt 61 15 dX4_handIn_12 (by decide) rfl (fun c12 => ?_) (fun c12 => ?_)
      · refine X_iconst 2 62 dX4_handIn_61 (by decide) rfl ?_
        refine X_iret dX4_handIn_62 rfl ?_
        exact h
      · exact absurd (nI_lt (by omega) (by omega)) c12
    | succ k ih =>
      intro g hg h
      refine X_ildn0 3 dX4_handIn_2 rfl rfl ?_
      refine X_aldn1 4 dX4_handIn_3 rfl rfl ?_
      refine X_getI 7 dX4_handIn_4 fl_X4_248 rfl rfl ?_
      refine X_aldn1 8 dX4_handIn_7 rfl rfl ?_
      refine X_getI 11 dX4_handIn_8 fl_X4_251 rfl rfl ?_
      refine X_iadd 12 dX4_handIn_11 rfl ?_
      try rw [hs]
      refine X_icgt 61 15 dX4_handIn_12 (by decide) rfl (fun c12 => ?_) (fun c12 => ?_)
      · exact absurd c12 (nI_nlt (by omega) (by omega))
      · refine X_ildn3 16 dX4_handIn_15 rfl rfl ?_
        refine X_ildn0 17 dX4_handIn_16 rfl rfl ?_
        refine X_isub 18 dX4_handIn_17 rfl ?_
        refine X_istN 20 dX4_handIn_18 rfl rfl rfl ?_
        refine X_ild0 22 dX4_handIn_20 rfl ?_
        refine X_iflt 55 25 dX4_handIn_22 (by decide) rfl (fun c22 => ?_) (fun c22 => ?_)
        · refine X_inc1 1 58 dX4_handIn_55 (by decide) rfl rfl rfl ?_
          refine X_goto 2 dX4_handIn_58 (by decide) ?_
          refine X_drop (xg_lv ?_ (ih (g + 1) (by omega) ?_))
          · simp [nI_succ]
          · refine Qi h ?_
            (try simp only [i_nlt, i_nle] at *)
            grind [hXf, b2i]
        · refine X_ild0 27 dX4_handIn_25 rfl ?_
          refine X_bipush 24 29 dX4_handIn_27 (by decide) rfl ?_
          refine X_icge 55 32 dX4_handIn_29 (by decide) rfl (fun c29 => ?_) (fun c29 => ?_)
          · refine X_inc1 1 58 dX4_handIn_55 (by decide) rfl rfl rfl ?_
            refine X_goto 2 dX4_handIn_58 (by decide) ?_
            refine X_drop (xg_lv ?_ (ih (g + 1) (by omega) ?_))
            · simp [nI_succ]
            · refine Qi h ?_
              (try simp only [i_nlt, i_nle] at *)
              grind [hXf, b2i]
          · refine X_ildn3 33 dX4_handIn_32 rfl rfl ?_
            refine X_ild0 35 dX4_handIn_33 rfl ?_
            refine X_callS2 38 dX4_handIn_35 cw_X4_107 zk_X4_hasBit rfl rfl (S_X4_hasBit ?_)
            refine X_pu ?_
            refine X_ifeq 55 41 dX4_handIn_38 (by decide) rfl (fun c38 => ?_) (fun c38 => ?_)
            · refine X_inc1 1 58 dX4_handIn_55 (by decide) rfl rfl rfl ?_
              refine X_goto 2 dX4_handIn_58 (by decide) ?_
              refine X_drop (xg_lv ?_ (ih (g + 1) (by omega) ?_))
              · simp [nI_succ]
              · refine Qi h ?_
                (try simp only [i_nlt, i_nle] at *)
                grind [hXf, b2i]
            · refine X_ildn1 42 dX4_handIn_41 rfl rfl ?_
              refine X_aldn2 43 dX4_handIn_42 rfl rfl ?_
              refine X_getI 46 dX4_handIn_43 fl_X4_248 rfl rfl ?_
              refine X_icgt 53 49 dX4_handIn_46 (by decide) rfl (fun c46 => ?_) (fun c46 => ?_)
              · refine X_iconst 1 54 dX4_handIn_53 (by decide) rfl ?_
                refine X_iret dX4_handIn_54 rfl ?_
                have e : (g ≤ wX σ) = ¬ (σ.1 1 6 < nI g) := by rw [h6, i_nlt, le_nI rfl (by omega) (by omega)]
                refine Qi h ?_
                grind [hXf, b2i]
              · refine X_iconst 0 50 dX4_handIn_49 (by decide) rfl ?_
                refine X_goto 54 dX4_handIn_50 (by decide) ?_
                refine X_iret dX4_handIn_54 rfl ?_
                have e : (g ≤ wX σ) = ¬ (σ.1 1 6 < nI g) := by rw [h6, i_nlt, le_nI rfl (by omega) (by omega)]
                refine Qi h ?_
                grind [hXf, b2i]
  refine X_iconst 1 1 dX4_handIn_0 (by decide) rfl ?_
  refine X_istnN 2 dX4_handIn_1 rfl rfl rfl rfl ?_
  exact loop (wX σ + cX σ) 1 (by omega) h
theorem S_X1_gild {a : Nat} {x : Int32} (ha : isD a) (hv : vH σ) (h : Q none (gldX σ a x)) : xg_C (d + 2) mX1_gild [.ref a, .ref 1, .int x] σ Q := by
  refine xg_C_of py_X1_gild (Nat.le_of_ble_eq_true rfl) ?_
  show xg_X none (d + 2) mX1_gild 0 [(0, .ref a), (1, .ref 1), (2, .int x)] [] σ Q
  obtain ⟨n1, n2, n3, n4, n5, n6, n0⟩ := isD_ne ha
  refine X_aldn1 1 dX1_gild_0 rfl rfl ?_
  refine X_aldn0 2 dX1_gild_1 rfl rfl ?_
  refine X_getI 5 dX1_gild_2 fl_X1_15 (ob_day ha (by decide)) rfl ?_
  refine X_aldn0 6 dX1_gild_5 rfl rfl ?_
  refine X_getI 9 dX1_gild_6 fl_X1_9 (ob_day ha (by decide)) rfl ?_
  refine X_callN3 12 dX1_gild_9 cn_X1_73 cw_X1_73 zk_X4_handIn rfl rfl (S_X4_handIn hv ?_)
  refine X_pu ?_
  refine X_istnN 13 dX1_gild_12 rfl rfl rfl rfl ?_
  refine X_ildn0 14 dX1_gild_13 rfl rfl ?_
  refine X_ifeq 28 17 dX1_gild_14 (by decide) rfl (fun c14 => ?_) (fun c14 => ?_)
  · refine X_vret dX1_gild_28 rfl ?_
    refine Qs h ?_
    grind [gldX, b2i]
  · refine X_aldn1 18 dX1_gild_17 rfl rfl ?_
    refine X_getI 21 dX1_gild_18 fl_X1_21 (ob_day ha (by decide)) rfl ?_
    refine X_ildn3 22 dX1_gild_21 rfl rfl ?_
    refine X_callN2 25 dX1_gild_22 cn_X1_30 cw_X1_30 zk_X4_hasBit rfl rfl (S_X4_hasBit ?_)
    refine X_pu ?_
    refine X_ifeq 29 28 dX1_gild_25 (by decide) rfl (fun c25 => ?_) (fun c25 => ?_)
    · refine X_ildn0 30 dX1_gild_29 rfl rfl ?_
      refine X_iconst 1 31 dX1_gild_30 (by decide) rfl ?_
      refine X_icne 58 34 dX1_gild_31 (by decide) rfl (fun c31 => ?_) (fun c31 => ?_)
      · refine X_aldn1 59 dX1_gild_58 rfl rfl ?_
        refine X_dup 60 dX1_gild_59 rfl rfl ?_
        refine X_getI 63 dX1_gild_60 fl_X1_18 (ob_day ha (by decide)) rfl ?_
        refine X_iconst 1 64 dX1_gild_63 (by decide) rfl ?_
        refine X_ildn3 65 dX1_gild_64 rfl rfl ?_
        refine X_ishl 66 dX1_gild_65 rfl ?_
        refine X_iconst (-1) 67 dX1_gild_66 (by decide) rfl ?_
        refine X_ixor 68 dX1_gild_67 rfl ?_
        refine X_iand 69 dX1_gild_68 rfl ?_
        refine X_putI 72 dX1_gild_69 fp_X1_18 (ob_day ha (by decide)) rfl ?_
        refine X_aldn1 73 dX1_gild_72 rfl rfl ?_
        refine X_dup 74 dX1_gild_73 rfl rfl ?_
        refine X_getI 77 dX1_gild_74 fl_X1_21 (ob_day ha (by decide)) rfl ?_
        refine X_iconst 1 78 dX1_gild_77 (by decide) rfl ?_
        refine X_ildn3 79 dX1_gild_78 rfl rfl ?_
        refine X_ishl 80 dX1_gild_79 rfl ?_
        refine X_ior 81 dX1_gild_80 rfl ?_
        refine X_putI 84 dX1_gild_81 fp_X1_21 (ob_day ha (by decide)) rfl ?_
        refine X_vret dX1_gild_84 rfl ?_
        refine Qs h ?_
        rw [xs_nk (by decide)]
        grind [gldX, b2i]
      · refine X_aldn1 35 dX1_gild_34 rfl rfl ?_
        refine X_getI 38 dX1_gild_35 fl_X1_9 (ob_day ha (by decide)) rfl ?_
        refine X_aldn2 39 dX1_gild_38 rfl rfl ?_
        refine X_getI 42 dX1_gild_39 fl_X1_77 rfl rfl ?_
        refine X_icge 58 45 dX1_gild_42 (by decide) rfl (fun c42 => ?_) (fun c42 => ?_)
        · refine X_aldn1 59 dX1_gild_58 rfl rfl ?_
          refine X_dup 60 dX1_gild_59 rfl rfl ?_
          refine X_getI 63 dX1_gild_60 fl_X1_18 (ob_day ha (by decide)) rfl ?_
          refine X_iconst 1 64 dX1_gild_63 (by decide) rfl ?_
          refine X_ildn3 65 dX1_gild_64 rfl rfl ?_
          refine X_ishl 66 dX1_gild_65 rfl ?_
          refine X_iconst (-1) 67 dX1_gild_66 (by decide) rfl ?_
          refine X_ixor 68 dX1_gild_67 rfl ?_
          refine X_iand 69 dX1_gild_68 rfl ?_
          refine X_putI 72 dX1_gild_69 fp_X1_18 (ob_day ha (by decide)) rfl ?_
          refine X_aldn1 73 dX1_gild_72 rfl rfl ?_
          refine X_dup 74 dX1_gild_73 rfl rfl ?_
          refine X_getI 77 dX1_gild_74 fl_X1_21 (ob_day ha (by decide)) rfl ?_
          refine X_iconst 1 78 dX1_gild_77 (by decide) rfl ?_
          refine X_ildn3 79 dX1_gild_78 rfl rfl ?_
          refine X_ishl 80 dX1_gild_79 rfl ?_
          refine X_ior 81 dX1_gild_80 rfl ?_
          refine X_putI 84 dX1_gild_81 fp_X1_21 (ob_day ha (by decide)) rfl ?_
          refine X_vret dX1_gild_84 rfl ?_
          refine Qs h ?_
          rw [xs_nk (by decide)]
          grind [gldX, b2i]
        · refine X_aldn1 46 dX1_gild_45 rfl rfl ?_
          refine X_dup 47 dX1_gild_46 rfl rfl ?_
          refine X_getI 50 dX1_gild_47 fl_X1_18 (ob_day ha (by decide)) rfl ?_
          refine X_iconst 1 51 dX1_gild_50 (by decide) rfl ?_
          refine X_ildn3 52 dX1_gild_51 rfl rfl ?_
          refine X_ishl 53 dX1_gild_52 rfl ?_
          refine X_ior 54 dX1_gild_53 rfl ?_
          refine X_putI 57 dX1_gild_54 fp_X1_18 (ob_day ha (by decide)) rfl ?_
          refine X_vret dX1_gild_57 rfl ?_
          refine Qs h ?_
          grind [gldX, b2i]
    · refine X_vret dX1_gild_28 rfl ?_
      refine Qs h ?_
      grind [gldX, b2i]
theorem S_X1_pass {a : Nat} (ha : isD a) (hv : vX σ) (h : Q none (pasX σ a)) : xg_C (d + 4) mX1_pass [.ref a, .ref 1] σ Q := by
  refine xg_C_of py_X1_pass (Nat.le_of_ble_eq_true rfl) ?_
  show xg_X none (d + 4) mX1_pass 0 [(0, .ref a), (1, .ref 1)] [] σ Q
  obtain ⟨n1, n2, n3, n4, n5, n6, n0⟩ := isD_ne ha
  have tail : xg_X none (d + 4) mX1_pass 40 [(2, .int (nI 3)), (0, .ref a), (1, .ref 1)] [] (xm_set σ a 5 (brX σ a 3)) Q := by
    refine X_aldn1 41 dX1_pass_40 rfl rfl ?_
    refine X_dup 42 dX1_pass_41 rfl rfl ?_
    refine X_getI 45 dX1_pass_42 fl_X1_9 (ob_day ha (by decide)) rfl ?_
    refine X_iconst 1 46 dX1_pass_45 (by decide) rfl ?_
    refine X_iadd 47 dX1_pass_46 rfl ?_
    refine X_putI 50 dX1_pass_47 fp_X1_9 (ob_day ha (by decide)) rfl ?_
    refine X_aldn1 51 dX1_pass_50 rfl rfl ?_
    refine X_getI 54 dX1_pass_51 fl_X1_9 (ob_day ha (by decide)) rfl ?_
    refine X_aldn2 55 dX1_pass_54 rfl rfl ?_
    refine X_getI 58 dX1_pass_55 fl_X1_77 rfl rfl ?_
    refine X_icne 66 61 dX1_pass_58 (by decide) rfl (fun c58 => ?_) (fun c58 => ?_)
    · refine X_vret dX1_pass_66 rfl ?_
      refine Qs h ?_
      simp only [xs_eq, xs_nk (show (0 : Nat) ≠ 5 by decide), xs_ne (Ne.symm n1)] at *
      simp [pasX, *]
    · refine X_aldn1 62 dX1_pass_61 rfl rfl ?_
      refine X_iconst 0 63 dX1_pass_62 (by decide) rfl ?_
      refine X_putI 66 dX1_pass_63 fp_X1_18 (ob_day ha (by decide)) rfl ?_
      refine X_vret dX1_pass_66 rfl ?_
      refine Qs h ?_
      simp only [xs_eq, xs_nk (show (0 : Nat) ≠ 5 by decide), xs_ne (Ne.symm n1)] at *
      simp [pasX, *]
  have loop : ∀ k i, i + k = 3 → xg_X none (d + 4) mX1_pass 2 [(2, .int (nI i)), (0, .ref a), (1, .ref 1)] [] (xm_set σ a 5 (brX σ a i)) Q := by
    intro k
    induction k with
    | zero =>
      intro i h1
      obtain rfl : i = 3 := by omega
      refine X_ildn0 3 dX1_pass_2 rfl rfl ?_
      refine X_iconst 3 4 dX1_pass_3 (by decide) rfl ?_
      refine X_icge 40 7 dX1_pass_4 (by decide) rfl (fun c4 => ?_) (fun c4 => ?_)
      · exact tail
      · exact absurd (by decide) c4
    | succ k ih =>
      intro i h1
      refine X_ildn0 3 dX1_pass_2 rfl rfl ?_
      refine X_iconst 3 4 dX1_pass_3 (by decide) rfl ?_
      refine X_icge 40 7 dX1_pass_4 (by decide) rfl (fun c4 => ?_) (fun c4 => ?_)
      · have c4 := leq c4 (n := 3) (by decide) (by decide) (by omega)
        omega
      · refine X_aldn1 8 dX1_pass_7 rfl rfl ?_
        refine X_aldn2 9 dX1_pass_8 rfl rfl ?_
        refine X_ildn0 10 dX1_pass_9 rfl rfl ?_
        refine X_callV2 1 13 dX1_pass_10 cw_X1_54 zk_X1_loadOf ⟨rfl, rfl⟩ (oc_day ha) rfl rfl (S_X1_loadOf ha (vX_set n1 hv) ?_)
        refine X_pu ?_
        refine X_aldn2 14 dX1_pass_13 rfl rfl ?_
        refine X_getA 6 17 dX1_pass_14 fl_X1_57 rfl rfl ?_
        refine X_ildn0 18 dX1_pass_17 rfl rfl ?_
        refine X_ialk i 19 dX1_pass_18 rfl rfl rfl (show i < 3 by omega) ?_
        rw [ldX_br ha, xs_ne (Ne.symm n6)]
        refine X_icle 34 22 dX1_pass_19 (by decide) rfl (fun c19 => ?_) (fun c19 => ?_)
        · refine X_inc0 1 37 dX1_pass_34 (by decide) rfl rfl rfl ?_
          refine X_goto 2 dX1_pass_37 (by decide) ?_
          refine xg_lv (by simp [nI_succ]) (xg_mm ?_ (ih (i + 1) (by omega)))
          rw [show brX σ a (i + 1) = brX σ a i by unfold brX; rw [vBrk, if_neg (by rw [i_nlt]; exact c19)]]
        · refine X_aldn1 23 dX1_pass_22 rfl rfl ?_
          refine X_dup 24 dX1_pass_23 rfl rfl ?_
          refine X_getI 27 dX1_pass_24 fl_X1_27 (ob_day ha (by decide)) rfl ?_
          refine X_iconst 1 28 dX1_pass_27 (by decide) rfl ?_
          refine X_ildn0 29 dX1_pass_28 rfl rfl ?_
          refine X_ishl 30 dX1_pass_29 rfl ?_
          refine X_ior 31 dX1_pass_30 rfl ?_
          refine X_putI 34 dX1_pass_31 fp_X1_27 (ob_day ha (by decide)) rfl ?_
          refine X_inc0 1 37 dX1_pass_34 (by decide) rfl rfl rfl ?_
          refine X_goto 2 dX1_pass_37 (by decide) ?_
          refine xg_lv (by simp [nI_succ]) (xg_mm ?_ (ih (i + 1) (by omega)))
          rw [xs_xs, xs_eq, show brX σ a (i + 1) = brX σ a i ||| (1 <<< (nI i &&& 31)) by unfold brX; rw [vBrk, if_pos (by rw [i_nle] at c19; exact c19)]]
  refine X_iconst 0 1 dX1_pass_0 (by decide) rfl ?_
  refine X_istnN 2 dX1_pass_1 rfl rfl rfl rfl ?_
  have := loop 3 0 rfl
  rw [xs_self (by rfl)] at this
  exact this
end DAY
