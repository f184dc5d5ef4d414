/-! pure words of both sides -/
def hb (b p : Int32) : Bool := !decide ((b >>> (p &&& 31)) &&& 1 = 0)
def b2i (b : Bool) : Int32 := if b then 1 else 0
theorem b2i_t : b2i true = 1 := rfl
theorem b2i_f : b2i false = 0 := rfl
theorem b2i_0 {b : Bool} : (b2i b = 0) ↔ b = false := by cases b <;> simp [b2i]
theorem b2i_n {b : Bool} : (¬ b2i b = 0) ↔ b = true := by cases b <;> simp [b2i]
theorem b2i_01 (b : Bool) : b2i b = 0 ∨ b2i b = 1 := by cases b <;> simp [b2i]
theorem Qi {Q : Option Value → xm_M → Prop} {σ : xm_M} {v w : Int32} (h : Q (some (.int w)) σ) (e : w = v) : Q (some (.int v)) σ := e ▸ h
theorem Qs {Q : Option Value → xm_M → Prop} {σ τ : xm_M} {r : Option Value} (h : Q r σ) (e : σ = τ) : Q r τ := e ▸ h
theorem i_nlt {a b : Int32} : (¬ a < b) = (b ≤ a) := by rw [Int32.not_lt]
theorem i_nle {a b : Int32} : (¬ a ≤ b) = (b < a) := by rw [Int32.not_le]
theorem le_nI {x : Int32} {n i : Nat} (hx : x = nI n) (hn : n < 2 ^ 31) (hi : i < 2 ^ 31) : (x ≤ nI i) = (n ≤ i) := propext (by subst hx; exact nI_leI hn hi)
def vG (e t x : Int32) : Int32 := if hb e x then 2 else if hb t x then 1 else 0
def vW (w g : Nat → Int32) (ea : Int32) (i : Nat) : Int32 := if hb ea (nI i) then 0 else if g i = 0 then w i else 3 * w i
def vL (ea br : Int32) (pl : Nat → Int32) (i : Nat) : Bool := hb ea (nI i) || hb br (pl i)
def sumI : Nat → (Nat → Int32) → Int32
  | 0, _ => 0
  | n + 1, f => sumI n f + f n
def vLoad (n : Nat) (pl w g : Nat → Int32) (ea f : Int32) : Int32 := sumI n (fun i => if pl i = f then vW w g ea i else 0)
def vP (wg wo g : Nat → Int32) (ea br : Int32) (pl : Nat → Int32) (i : Nat) : Int32 := if vL ea br pl i then 0 else if g i = 0 then wo i else 3 * wg i
def vBrk (br : Int32) (ld be : Nat → Int32) : Nat → Int32
  | 0 => br
  | f + 1 => if be f < ld f then vBrk br ld be f ||| (1 <<< (nI f &&& 31)) else vBrk br ld be f
theorem sumI_congr {f g : Nat → Int32} : ∀ {n : Nat}, (∀ i, i < n → f i = g i) → sumI n f = sumI n g
  | 0, _ => rfl
  | n + 1, h => by rw [sumI, sumI, sumI_congr (fun i hi => h i (by omega)), h n (by omega)]
/-! GoldTouch's own words, by its cells -/
def isD (a : Nat) : Prop := a = 16 ∨ a = 17 ∨ (26 ≤ a ∧ a ≤ 35)
theorem isD_cl {a : Nat} (h : isD a) : a < 52 ∧ sh_cl a = 1 ∧ sh_f a = [0, 0, 0, 0, 0, 0] := by
  rcases h with rfl | rfl | h
  · decide
  · decide
  · refine ⟨by omega, ?_, ?_⟩
    · unfold sh_cl
      repeat rw [if_neg (by omega)]
      rw [if_pos (by omega)]
    · unfold sh_f
      repeat rw [if_neg (by omega)]
theorem ob_day {a : Nat} (h : isD a) {k : Nat} (hk : k < 6) : xg_ob a 1 k 0 = true := by
  obtain ⟨h1, h2, h3⟩ := isD_cl h
  unfold xg_ob
  rw [h2, h3]
  have : Nat.ble (a + 1) 52 = true := Nat.ble_eq.mpr h1
  rw [this]
  revert k
  decide
theorem oc_day {a : Nat} (h : isD a) : xg_oc a 1 = true := by
  obtain ⟨h1, h2, h3⟩ := isD_cl h
  unfold xg_oc
  rw [h2]
  have : Nat.ble (a + 1) 52 = true := Nat.ble_eq.mpr h1
  rw [this]
  decide
def nX (σ : xm_M) : Nat := (σ.1 1 5).toNatClampNeg
def vX (σ : xm_M) : Prop := σ.1 1 5 = nI (nX σ) ∧ nX σ ≤ 8
def gX (σ : xm_M) (a : Nat) : Nat → Int32 := fun i => vG (σ.1 a 3) (σ.1 a 2) (nI i)
def ldX (σ : xm_M) (a : Nat) (f : Int32) : Int32 := vLoad (nX σ) (σ.1 5) (σ.1 3) (gX σ a) (σ.1 a 4) f
def prX (σ : xm_M) (a : Nat) : Nat → Int32 := vP (σ.1 3) (σ.1 4) (gX σ a) (σ.1 a 4) (σ.1 a 5) (σ.1 5)
def loX (σ : xm_M) (a : Nat) : Nat → Bool := vL (σ.1 a 4) (σ.1 a 5) (σ.1 5)
section LEAF
variable {d : Nat} {σ : xm_M} {Q : Option Value → xm_M → Prop}
theorem S_X4_hasBit {a b : Int32} (h : Q (some (.int (b2i (hb a b)))) σ) : xg_C d mX4_hasBit [.int a, .int b] σ Q := by
  refine xg_C_of py_X4_hasBit (Nat.le_of_ble_eq_true rfl) ?_
  show xg_X none d mX4_hasBit 0 [(0, .int a), (1, .int b)] [] σ Q
  refine X_ildn0 1 dX4_hasBit_0 rfl rfl ?_
  refine X_ildn1 2 dX4_hasBit_1 rfl rfl ?_
  refine X_ishr 3 dX4_hasBit_2 rfl ?_
  refine X_iconst 1 4 dX4_hasBit_3 (by decide) rfl ?_
  refine X_iand 5 dX4_hasBit_4 rfl ?_
  refine X_ifeq 12 8 dX4_hasBit_5 (by decide) rfl (fun c5 => ?_) (fun c5 => ?_)
  · refine X_iconst 0 13 dX4_hasBit_12 (by decide) rfl ?_
    refine X_zret dX4_hasBit_13 rfl (by first | exact Or.inl rfl | exact Or.inr rfl) ?_
    exact Qi h (by simp [hb, b2i, *])
  · refine X_iconst 1 9 dX4_hasBit_8 (by decide) rfl ?_
    refine X_goto 13 dX4_hasBit_9 (by decide) ?_
    refine X_zret dX4_hasBit_13 rfl (by first | exact Or.inl rfl | exact Or.inr rfl) ?_
    exact Qi h (by simp [hb, b2i, *])
theorem S_X4_isThing {x : Int32} (h : Q (some (.int (b2i (decide (0 ≤ x) && decide (x < σ.1 1 5))))) σ) : xg_C d mX4_isThing [.ref 0, .int x] σ Q := by
  refine xg_C_of py_X4_isThing (Nat.le_of_ble_eq_true rfl) ?_
  show xg_X none d mX4_isThing 0 [(0, .ref 0), (1, .int x)] [] σ Q
  refine X_ildn1 1 dX4_isThing_0 rfl rfl ?_
  refine X_iflt 19 4 dX4_isThing_1 (by decide) rfl (fun c1 => ?_) (fun c1 => ?_)
  · refine X_iconst 0 20 dX4_isThing_19 (by decide) rfl ?_
    refine X_zret dX4_isThing_20 rfl (by first | exact Or.inl rfl | exact Or.inr rfl) ?_
    exact Qi h (by (try simp only [i_nlt, i_nle] at *); grind [b2i])
  · refine X_ildn1 5 dX4_isThing_4 rfl rfl ?_
    refine X_aldn0 6 dX4_isThing_5 rfl rfl ?_
    refine X_getA 1 9 dX4_isThing_6 fl_X4_10 rfl rfl ?_
    refine X_getI 12 dX4_isThing_9 fl_X4_215 rfl rfl ?_
    refine X_icge 19 15 dX4_isThing_12 (by decide) rfl (fun c12 => ?_) (fun c12 => ?_)
    · refine X_iconst 0 20 dX4_isThing_19 (by decide) rfl ?_
      refine X_zret dX4_isThing_20 rfl (by first | exact Or.inl rfl | exact Or.inr rfl) ?_
      exact Qi h (by (try simp only [i_nlt, i_nle] at *); grind [b2i])
    · refine X_iconst 1 16 dX4_isThing_15 (by decide) rfl ?_
      refine X_goto 20 dX4_isThing_16 (by decide) ?_
      refine X_zret dX4_isThing_20 rfl (by first | exact Or.inl rfl | exact Or.inr rfl) ?_
      exact Qi h (by (try simp only [i_nlt, i_nle] at *); grind [b2i])
theorem S_X1_clear {a : Nat} (ha : isD a) (h : Q none (xm_set (xm_set (xm_set (xm_set (xm_set (xm_set σ a 0 0) a 1 0) a 2 0) a 3 0) a 4 0) a 5 0)) : xg_C d mX1_clear [.ref a] σ Q := by
  refine xg_C_of py_X1_clear (Nat.le_of_ble_eq_true rfl) ?_
  show xg_X none d mX1_clear 0 [(0, .ref a)] [] σ Q
  refine X_aldn0 1 dX1_clear_0 rfl rfl ?_
  refine X_iconst 0 2 dX1_clear_1 (by decide) rfl ?_
  refine X_putI 5 dX1_clear_2 fp_X1_9 (ob_day ha (by decide)) rfl ?_
  refine X_aldn0 6 dX1_clear_5 rfl rfl ?_
  refine X_iconst 0 7 dX1_clear_6 (by decide) rfl ?_
  refine X_putI 10 dX1_clear_7 fp_X1_15 (ob_day ha (by decide)) rfl ?_
  refine X_aldn0 11 dX1_clear_10 rfl rfl ?_
  refine X_iconst 0 12 dX1_clear_11 (by decide) rfl ?_
  refine X_putI 15 dX1_clear_12 fp_X1_18 (ob_day ha (by decide)) rfl ?_
  refine X_aldn0 16 dX1_clear_15 rfl rfl ?_
  refine X_iconst 0 17 dX1_clear_16 (by decide) rfl ?_
  refine X_putI 20 dX1_clear_17 fp_X1_21 (ob_day ha (by decide)) rfl ?_
  refine X_aldn0 21 dX1_clear_20 rfl rfl ?_
  refine X_iconst 0 22 dX1_clear_21 (by decide) rfl ?_
  refine X_putI 25 dX1_clear_22 fp_X1_24 (ob_day ha (by decide)) rfl ?_
  refine X_aldn0 26 dX1_clear_25 rfl rfl ?_
  refine X_iconst 0 27 dX1_clear_26 (by decide) rfl ?_
  refine X_putI 30 dX1_clear_27 fp_X1_27 (ob_day ha (by decide)) rfl ?_
  refine X_vret dX1_clear_30 rfl ?_
  exact h
/-- a copy of a day -/
def dcp (σ : xm_M) (a b : Nat) : xm_M := (fun c k => if c = a then (if k < 6 then σ.1 b k else σ.1 c k) else σ.1 c k, σ.2)
theorem dcp_eq {a b : Nat} (hab : a ≠ b) : xm_set (xm_set (xm_set (xm_set (xm_set (xm_set σ a 0 (σ.1 b 0)) a 1 (σ.1 b 1)) a 2 (σ.1 b 2)) a 3 (σ.1 b 3)) a 4 (σ.1 b 4)) a 5 (σ.1 b 5) = dcp σ a b := by
  apply Prod.ext
  · funext c k
    simp only [xm_set, dcp]
    by_cases hc : c = a
    · subst hc
      simp only [true_and]
      by_cases h6 : k < 6
      · rw [if_pos h6]
        rcases (by omega : k = 0 ∨ k = 1 ∨ k = 2 ∨ k = 3 ∨ k = 4 ∨ k = 5) with rfl | rfl | rfl | rfl | rfl | rfl <;> simp
      · rw [if_neg h6]
        simp only [show ¬ k = 0 by omega, show ¬ k = 1 by omega, show ¬ k = 2 by omega, show ¬ k = 3 by omega, show ¬ k = 4 by omega, show ¬ k = 5 by omega, if_false, if_true]
    · simp only [hc, false_and, if_false]
  · rfl
theorem S_X1_copyFrom {a b : Nat} (ha : isD a) (hb : isD b) (hab : a ≠ b) (h : Q none (dcp σ a b)) : xg_C d mX1_copyFrom [.ref a, .ref b] σ Q := by
  refine xg_C_of py_X1_copyFrom (Nat.le_of_ble_eq_true rfl) ?_
  show xg_X none d mX1_copyFrom 0 [(0, .ref a), (1, .ref b)] [] σ Q
  refine X_aldn0 1 dX1_copyFrom_0 rfl rfl ?_
  refine X_aldn1 2 dX1_copyFrom_1 rfl rfl ?_
  refine X_getI 5 dX1_copyFrom_2 fl_X1_9 (ob_day hb (by decide)) rfl ?_
  refine X_putI 8 dX1_copyFrom_5 fp_X1_9 (ob_day ha (by decide)) rfl ?_
  refine X_aldn0 9 dX1_copyFrom_8 rfl rfl ?_
  refine X_aldn1 10 dX1_copyFrom_9 rfl rfl ?_
  refine X_getI 13 dX1_copyFrom_10 fl_X1_15 (ob_day hb (by decide)) rfl ?_
  refine X_putI 16 dX1_copyFrom_13 fp_X1_15 (ob_day ha (by decide)) rfl ?_
  refine X_aldn0 17 dX1_copyFrom_16 rfl rfl ?_
  refine X_aldn1 18 dX1_copyFrom_17 rfl rfl ?_
  refine X_getI 21 dX1_copyFrom_18 fl_X1_18 (ob_day hb (by decide)) rfl ?_
  refine X_putI 24 dX1_copyFrom_21 fp_X1_18 (ob_day ha (by decide)) rfl ?_
  refine X_aldn0 25 dX1_copyFrom_24 rfl rfl ?_
  refine X_aldn1 26 dX1_copyFrom_25 rfl rfl ?_
  refine X_getI 29 dX1_copyFrom_26 fl_X1_21 (ob_day hb (by decide)) rfl ?_
  refine X_putI 32 dX1_copyFrom_29 fp_X1_21 (ob_day ha (by decide)) rfl ?_
  refine X_aldn0 33 dX1_copyFrom_32 rfl rfl ?_
  refine X_aldn1 34 dX1_copyFrom_33 rfl rfl ?_
  refine X_getI 37 dX1_copyFrom_34 fl_X1_24 (ob_day hb (by decide)) rfl ?_
  refine X_putI 40 dX1_copyFrom_37 fp_X1_24 (ob_day ha (by decide)) rfl ?_
  refine X_aldn0 41 dX1_copyFrom_40 rfl rfl ?_
  refine X_aldn1 42 dX1_copyFrom_41 rfl rfl ?_
  refine X_getI 45 dX1_copyFrom_42 fl_X1_27 (ob_day hb (by decide)) rfl ?_
  refine X_putI 48 dX1_copyFrom_45 fp_X1_27 (ob_day ha (by decide)) rfl ?_
  refine X_vret dX1_copyFrom_48 rfl ?_
  refine Qs h (Eq.trans (dcp_eq hab).symm ?_)
  simp only [xs_ne (Ne.symm hab)]
theorem S_X1_goldOf {a : Nat} {x : Int32} (ha : isD a) (h : Q (some (.int (vG (σ.1 a 3) (σ.1 a 2) x))) σ) : xg_C (d + 1) mX1_goldOf [.ref a, .int x] σ Q := by
  refine xg_C_of py_X1_goldOf (Nat.le_of_ble_eq_true rfl) ?_
  show xg_X none (d + 1) mX1_goldOf 0 [(0, .ref a), (1, .int x)] [] σ Q
  refine X_aldn0 1 dX1_goldOf_0 rfl rfl ?_
  refine X_getI 4 dX1_goldOf_1 fl_X1_21 (ob_day ha (by decide)) rfl ?_
  refine X_ildn1 5 dX1_goldOf_4 rfl rfl ?_
  refine X_callN2 8 dX1_goldOf_5 cn_X1_30 cw_X1_30 zk_X4_hasBit rfl rfl (S_X4_hasBit ?_)
  refine X_pu ?_
  refine X_ifeq 13 11 dX1_goldOf_8 (by decide) rfl (fun c8 => ?_) (fun c8 => ?_)
  · refine X_aldn0 14 dX1_goldOf_13 rfl rfl ?_
    refine X_getI 17 dX1_goldOf_14 fl_X1_18 (ob_day ha (by decide)) rfl ?_
    refine X_ildn1 18 dX1_goldOf_17 rfl rfl ?_
    refine X_callN2 21 dX1_goldOf_18 cn_X1_30 cw_X1_30 zk_X4_hasBit rfl rfl (S_X4_hasBit ?_)
    refine X_pu ?_
    refine X_ifeq 28 24 dX1_goldOf_21 (by decide) rfl (fun c21 => ?_) (fun c21 => ?_)
    · refine X_iconst 0 29 dX1_goldOf_28 (by decide) rfl ?_
      refine X_iret dX1_goldOf_29 rfl ?_
      exact Qi h (by simp_all [vG, b2i_0])
    · refine X_iconst 1 25 dX1_goldOf_24 (by decide) rfl ?_
      refine X_goto 29 dX1_goldOf_25 (by decide) ?_
      refine X_iret dX1_goldOf_29 rfl ?_
      exact Qi h (by simp_all [vG, b2i_0])
  · refine X_iconst 2 12 dX1_goldOf_11 (by decide) rfl ?_
    refine X_iret dX1_goldOf_12 rfl ?_
    exact Qi h (by simp_all [vG, b2i_0])
theorem S_X1_isLost {a i : Nat} (ha : isD a) (hi : i < 8) (h : Q (some (.int (b2i (loX σ a i)))) σ) : xg_C (d + 1) mX1_isLost [.ref a, .ref 1, .int (nI i)] σ Q := by
  refine xg_C_of py_X1_isLost (Nat.le_of_ble_eq_true rfl) ?_
  show xg_X none (d + 1) mX1_isLost 0 [(0, .ref a), (1, .ref 1), (2, .int (nI i))] [] σ Q
  refine X_aldn0 1 dX1_isLost_0 rfl rfl ?_
  refine X_getI 4 dX1_isLost_1 fl_X1_24 (ob_day ha (by decide)) rfl ?_
  refine X_ildn2 5 dX1_isLost_4 rfl rfl ?_
  refine X_callN2 8 dX1_isLost_5 cn_X1_30 cw_X1_30 zk_X4_hasBit rfl rfl (S_X4_hasBit ?_)
  refine X_pu ?_
  refine X_ifne 27 11 dX1_isLost_8 (by decide) rfl (fun c8 => ?_) (fun c8 => ?_)
  · refine X_iconst 1 28 dX1_isLost_27 (by decide) rfl ?_
    refine X_goto 32 dX1_isLost_28 (by decide) ?_
    refine X_zret dX1_isLost_32 rfl (by first | exact Or.inl rfl | exact Or.inr rfl) ?_
    exact Qi h (by simp_all [loX, vL, b2i_0, b2i_t, b2i_f])
  · refine X_aldn0 12 dX1_isLost_11 rfl rfl ?_
    refine X_getI 15 dX1_isLost_12 fl_X1_27 (ob_day ha (by decide)) rfl ?_
    refine X_aldn1 16 dX1_isLost_15 rfl rfl ?_
    refine X_getA 5 19 dX1_isLost_16 fl_X1_34 rfl rfl ?_
    refine X_ildn2 20 dX1_isLost_19 rfl rfl ?_
    refine X_ialk _ 21 dX1_isLost_20 rfl rfl rfl (by first | assumption | omega | decide) ?_
    refine X_callN2 24 dX1_isLost_21 cn_X1_30 cw_X1_30 zk_X4_hasBit rfl rfl (S_X4_hasBit ?_)
    refine X_pu ?_
    refine X_ifeq 31 27 dX1_isLost_24 (by decide) rfl (fun c24 => ?_) (fun c24 => ?_)
    · refine X_iconst 0 32 dX1_isLost_31 (by decide) rfl ?_
      refine X_zret dX1_isLost_32 rfl (by first | exact Or.inl rfl | exact Or.inr rfl) ?_
      exact Qi h (by simp_all [loX, vL, b2i_0, b2i_t, b2i_f])
    · refine X_iconst 1 28 dX1_isLost_27 (by decide) rfl ?_
      refine X_goto 32 dX1_isLost_28 (by decide) ?_
      refine X_zret dX1_isLost_32 rfl (by first | exact Or.inl rfl | exact Or.inr rfl) ?_
      exact Qi h (by simp_all [loX, vL, b2i_0, b2i_t, b2i_f])
theorem S_X1_weighs {a i : Nat} (ha : isD a) (hi : i < 8) (h : Q (some (.int (vW (σ.1 3) (gX σ a) (σ.1 a 4) i))) σ) : xg_C (d + 2) mX1_weighs [.ref a, .ref 1, .int (nI i)] σ Q := by
  refine xg_C_of py_X1_weighs (Nat.le_of_ble_eq_true rfl) ?_
  show xg_X none (d + 2) mX1_weighs 0 [(0, .ref a), (1, .ref 1), (2, .int (nI i))] [] σ Q
  refine X_aldn0 1 dX1_weighs_0 rfl rfl ?_
  refine X_getI 4 dX1_weighs_1 fl_X1_24 (ob_day ha (by decide)) rfl ?_
  refine X_ildn2 5 dX1_weighs_4 rfl rfl ?_
  refine X_callN2 8 dX1_weighs_5 cn_X1_30 cw_X1_30 zk_X4_hasBit rfl rfl (S_X4_hasBit ?_)
  refine X_pu ?_
  refine X_ifeq 13 11 dX1_weighs_8 (by decide) rfl (fun c8 => ?_) (fun c8 => ?_)
  · refine X_aldn0 14 dX1_weighs_13 rfl rfl ?_
    refine X_ildn2 15 dX1_weighs_14 rfl rfl ?_
    refine X_callV1 1 18 dX1_weighs_15 cw_X1_40 zk_X1_goldOf ⟨rfl, rfl⟩ (oc_day ha) rfl rfl (S_X1_goldOf ha ?_)
    refine X_pu ?_
    refine X_ifeq 32 21 dX1_weighs_18 (by decide) rfl (fun c18 => ?_) (fun c18 => ?_)
    · refine X_aldn1 33 dX1_weighs_32 rfl rfl ?_
      refine X_getA 3 36 dX1_weighs_33 fl_X1_44 rfl rfl ?_
      refine X_ildn2 37 dX1_weighs_36 rfl rfl ?_
      refine X_ialk _ 38 dX1_weighs_37 rfl rfl rfl (by first | assumption | omega | decide) ?_
      refine X_iret dX1_weighs_38 rfl ?_
      exact Qi h (by simp_all [vW, gX, b2i_0])
    · refine X_iconst 3 22 dX1_weighs_21 (by decide) rfl ?_
      refine X_aldn1 23 dX1_weighs_22 rfl rfl ?_
      refine X_getA 3 26 dX1_weighs_23 fl_X1_44 rfl rfl ?_
      refine X_ildn2 27 dX1_weighs_26 rfl rfl ?_
      refine X_ialk _ 28 dX1_weighs_27 rfl rfl rfl (by first | assumption | omega | decide) ?_
      refine X_imul 29 dX1_weighs_28 rfl ?_
      refine X_goto 38 dX1_weighs_29 (by decide) ?_
      refine X_iret dX1_weighs_38 rfl ?_
      exact Qi h (by simp_all [vW, gX, b2i_0])
  · refine X_iconst 0 12 dX1_weighs_11 (by decide) rfl ?_
    refine X_iret dX1_weighs_12 rfl ?_
    exact Qi h (by simp_all [vW, gX, b2i_0])
theorem S_X1_loadOf {a : Nat} {f : Int32} (ha : isD a) (hv : vX σ) (h : Q (some (.int (ldX σ a f))) σ) : xg_C (d + 3) mX1_loadOf [.ref a, .ref 1, .int f] σ Q := by
  refine xg_C_of py_X1_loadOf (Nat.le_of_ble_eq_true rfl) ?_
  show xg_X none (d + 3) mX1_loadOf 0 [(0, .ref a), (1, .ref 1), (2, .int f)] [] σ Q
  obtain ⟨hn, hn8⟩ := hv
  have loop : ∀ k i, nX σ < i + k → i ≤ nX σ → xg_X none (d + 3) mX1_loadOf 5 [(4, .int (nI i)), (3, .int (vLoad i (σ.1 5) (σ.1 3) (gX σ a) (σ.1 a 4) f)), (0, .ref a), (1, .ref 1), (2, .int f)] [] σ Q := by
    intro k
    induction k with
    | zero => intro i h1 h2; omega
    | succ k ih =>
      intro i h1 h2
      refine X_ild0 7 dX1_loadOf_5 rfl ?_
      refine X_aldn3 8 dX1_loadOf_7 rfl rfl ?_
      refine X_getI 11 dX1_loadOf_8 fl_X1_47 rfl rfl ?_
      try rw [hn]
      refine X_icge 41 14 dX1_loadOf_11 (by decide) rfl (fun c11 => ?_) (fun c11 => ?_)
      · rw [le_nI rfl (by omega) (by omega)] at c11
        have e : i = nX σ := by omega
        subst e
        refine X_ildn1 42 dX1_loadOf_41 rfl rfl ?_
        refine X_iret dX1_loadOf_42 rfl ?_
        exact h
      · rw [le_nI rfl (by omega) (by omega)] at c11
        refine X_aldn3 15 dX1_loadOf_14 rfl rfl ?_
        refine X_getA 5 18 dX1_loadOf_15 fl_X1_34 rfl rfl ?_
        refine X_ild0 20 dX1_loadOf_18 rfl ?_
        refine X_ialk i 21 dX1_loadOf_20 rfl rfl rfl (show i < 8 by omega) ?_
        refine X_ildn4 22 dX1_loadOf_21 rfl rfl ?_
        refine X_icne 35 25 dX1_loadOf_22 (by decide) rfl (fun c22 => ?_) (fun c22 => ?_)
        · refine X_inc0 1 38 dX1_loadOf_35 (by decide) rfl rfl rfl ?_
          refine X_goto 5 dX1_loadOf_38 (by decide) ?_
          have := ih (i + 1) (by omega) (by omega)
          simpa [nI_succ, vLoad, sumI, *] using this
        · refine X_ildn1 26 dX1_loadOf_25 rfl rfl ?_
          refine X_aldn2 27 dX1_loadOf_26 rfl rfl ?_
          refine X_aldn3 28 dX1_loadOf_27 rfl rfl ?_
          refine X_ild0 30 dX1_loadOf_28 rfl ?_
          refine X_callV2 1 33 dX1_loadOf_30 cw_X1_50 zk_X1_weighs ⟨rfl, rfl⟩ (oc_day ha) rfl rfl (S_X1_weighs ha (by omega) ?_)
          refine X_pu ?_
          refine X_iadd 34 dX1_loadOf_33 rfl ?_
          refine X_istn1 35 dX1_loadOf_34 rfl rfl rfl rfl ?_
          refine X_inc0 1 38 dX1_loadOf_35 (by decide) rfl rfl rfl ?_
          refine X_goto 5 dX1_loadOf_38 (by decide) ?_
          have := ih (i + 1) (by omega) (by omega)
          simpa [nI_succ, vLoad, sumI, *] using this
  refine X_iconst 0 1 dX1_loadOf_0 (by decide) rfl ?_
  refine X_istnN 2 dX1_loadOf_1 rfl rfl rfl rfl ?_
  refine X_iconst 0 3 dX1_loadOf_2 (by decide) rfl ?_
  refine X_istN 5 dX1_loadOf_3 rfl rfl rfl ?_
  exact loop (nX σ + 1) 0 (by omega) (by omega)
end LEAF
