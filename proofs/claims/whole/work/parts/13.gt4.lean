/-! towns, thieves, what was seen, baths, slips -/
def allN (p : Nat → Bool) : Nat → Bool
  | 0 => true
  | n + 1 => allN p n && p n
theorem allN_true {p : Nat → Bool} : ∀ {n : Nat}, allN p n = true ↔ ∀ i, i < n → p i = true
  | 0 => by simp [allN]
  | n + 1 => by
    simp only [allN, Bool.and_eq_true, allN_true]
    constructor
    · rintro ⟨h1, h2⟩ i hi
      rcases Nat.lt_succ_iff_lt_or_eq.mp hi with h | rfl
      · exact h1 i h
      · exact h2
    · exact fun h => ⟨fun i hi => h i (by omega), h n (by omega)⟩
theorem allN_no {p : Nat → Bool} {n i : Nat} (hi : i < n) (h : p i = false) : allN p n = false := by
  cases e : allN p n
  · rfl
  · rw [allN_true] at e
    rw [e i hi] at h
    cases h
def frX (σ : xm_M) : Nat → Int32
  | 0 => 0
  | i + 1 => if σ.1 2 i = 3 ∨ hb (σ.1 16 3) (nI i) = true ∨ loX σ 16 i = true then frX σ i else frX σ i ||| (1 <<< (nI i &&& 31))
def twA (σ : xm_M) (s : Nat) : xm_M := ahd σ (σ.1 16 3 ||| nI s)
def twO (σ : xm_M) (g : Int32) (s : Nat) : Bool := decide (nI s &&& (frX σ (nX σ) ^^^ (-1)) = 0) && (decide (vFO (ovX (twA σ s) 17) 3 0 = -1) && decide (g ≤ sumI (nX (twA σ s)) (ogX (twA σ s) 17)))
def twP (σ : xm_M) (s : Nat) : Int32 := sumI (nX (twA σ s)) (prX (twA σ s) 17)
def twR (σ : xm_M) (g : Int32) : Nat → Int32 × Int32
  | 0 => (-1, -1)
  | s + 1 => if twO σ g s = true ∧ (twR σ g s).1 < twP σ s then (twP σ s, nI s) else twR σ g s
def f_town (σ : xm_M) (g y : Int32) : Int32 := if g < 0 ∨ 8 < g ∨ y < 0 ∨ 1 < y then -3 else if y = 0 then (twR σ g 256).1 else (twR σ g 256).2
/-- all but the day ahead, its six places -/
def smE (σ τ : xm_M) : Prop := (∀ c k, (c = 17 → 6 ≤ k) → τ.1 c k = σ.1 c k) ∧ τ.2 = σ.2
theorem smE_dcp {σ τ : xm_M} (h : smE σ τ) : dcp τ 17 16 = dcp σ 17 16 := by
  apply Prod.ext
  · funext c k
    simp only [dcp]
    by_cases e : c = 17
    · rw [if_pos e, if_pos e]
      by_cases e6 : k < 6
      · rw [if_pos e6, if_pos e6, h.1 _ _ (by omega)]
      · rw [if_neg e6, if_neg e6, h.1 _ _ (by omega)]
    · rw [if_neg e, if_neg e, h.1 _ _ (fun q => absurd q e)]
  · exact h.2
theorem smE_ahd {σ : xm_M} {ev : Int32} : smE σ (ahd σ ev) := by
  refine ⟨fun c k h => ?_, rfl⟩
  by_cases e : c = 17
  · have := h e
    unfold ahd
    rw [xs_nk (by omega)]
    simp only [dcp]
    rw [if_pos e, if_neg (by omega)]
  · exact congrFun (ahd_sm c e) k
theorem smE_17 {σ τ : xm_M} (h : smE σ τ) : sm17 σ τ := fun c hc => funext fun k => h.1 c k (fun q => absurd q hc)
theorem smE_rf {σ : xm_M} : smE σ σ := ⟨fun _ _ _ => rfl, rfl⟩
def gnX (σ : xm_M) (t : Nat) (f : Int32) : Int32 := if hb (σ.1 16 4) (nI t) = true ∨ σ.1 5 t = f then 0 else if 0 < 3 * σ.1 3 t - prX σ 16 t then 3 * σ.1 3 t - prX σ 16 t else 0
def rsX (σ : xm_M) (t f : Nat) : Bool := allN (fun u => decide (gnX σ u (nI f) ≤ gnX σ t (nI f))) (nX σ) && allN (fun g => decide (gnX σ t (nI f) ≤ gnX σ t (nI g))) 3
def thI (rs : Nat → Nat → Bool) (t : Nat) (p : Int32 × Int32 × Int32) : Nat → Int32 × Int32 × Int32
  | 0 => p
  | f + 1 => if rs t f then (if (thI rs t p f).1 = 0 then ((thI rs t p f).1 + 1, nI t, nI f) else ((thI rs t p f).1 + 1, (thI rs t p f).2.1, (thI rs t p f).2.2)) else thI rs t p f
def thO (rs : Nat → Nat → Bool) : Nat → Int32 × Int32 × Int32
  | 0 => (0, -1, -1)
  | t + 1 => thI rs t (thO rs t) 3
def f_thief (σ : xm_M) (y : Int32) : Int32 := if y < 0 ∨ 2 < y then -3 else if y = 0 then (thO (rsX σ) (nX σ)).1 else if y = 1 then (thO (rsX σ) (nX σ)).2.1 else (thO (rsX σ) (nX σ)).2.2
def geX (σ : xm_M) (m : Int32) : Int32 := if hX σ (σ.1 16 1) m = 0 then m else if hX σ (σ.1 16 1) m = 1 ∧ m < σ.1 1 8 then σ.1 1 8 else 24
def fsX (σ : xm_M) (x a b : Int32) : Nat → Bool := fun i => decide (¬ σ.1 23 i = x) || (decide (a ≤ σ.1 24 i ∧ σ.1 24 i < b) == decide (σ.1 25 i = 1))
def ftR (σ : xm_M) (x : Int32) : Nat → Int32
  | 0 => 0
  | m + 1 => if allN (fsX σ x (nI m) (geX σ (nI m))) (scX σ) then ftR σ x m ||| (1 <<< (nI m &&& 31)) else ftR σ x m
def f_fit (σ : xm_M) (x : Int32) : Int32 := if isT σ x = false then -2 else if allN (fsX σ x 0 0) (scX σ) then ftR σ x (miX σ) ||| 16777216 else ftR σ x (miX σ)
def caX (σ : xm_M) : Nat → Int32
  | 0 => 0
  | i + 1 => if hX σ (σ.1 16 1) (σ.1 16 0 + nI i) = 0 then caX σ i ||| (1 <<< (nI i &&& 31)) else caX σ i
def cbX (b : Int32) : Nat → Int32
  | 0 => 0
  | i + 1 => cbX b i ||| (b <<< (nI (i + 1) &&& 31))
def btR (σ : xm_M) (set : Int32) : Nat → Int32 × Int32
  | 0 => (-1, -1)
  | s + 1 => if (nI s &&& set) = 0 ∧ ((btR σ set s).1 = -1 ∨ bcJ (nI s) < (btR σ set s).1) ∧ ((set &&& (caX σ 12 ^^^ (-1))) &&& (cbX (nI s) (wX σ) ^^^ (-1))) = 0 then (bcJ (nI s), nI s) else btR σ set s
def f_baths (σ : xm_M) (x y : Int32) : Int32 := if x < 0 ∨ 4096 ≤ x ∨ y < 0 ∨ 1 < y then -3 else if y = 0 then (btR σ x 4096).1 else (btR σ x 4096).2
section GT4
variable {d : Nat} {σ : xm_M} {Q : Option Value → xm_M → Prop}
theorem S_X4_townThings (hv : vX σ) (h : Q (some (.int (frX σ (nX σ)))) σ) : xg_C (d + 2) mX4_townThings [.ref 0] σ Q := by
  refine xg_C_of py_X4_townThings (Nat.le_of_ble_eq_true rfl) ?_
  show xg_X none (d + 2) mX4_townThings 0 [(0, .ref 0)] [] σ Q
  obtain ⟨hn, hn8⟩ := hv
  have loop : ∀ k i, i + k = nX σ → xg_X none (d + 2) mX4_townThings 4 [(2, .int (nI i)), (1, .int (frX σ i)), (0, .ref 0)] [] σ Q := by
    intro k
    induction k with
    | zero =>
      intro i h2
      obtain rfl : i = nX σ := by omega
      refine X_ildn0 5 dX4_townThings_4 rfl rfl ?_
      refine X_aldn2 6 dX4_townThings_5 rfl rfl ?_
      refine X_getA 1 9 dX4_townThings_6 fl_X4_10 rfl rfl ?_
      refine X_getI 12 dX4_townThings_9 fl_X4_215 rfl rfl ?_
      refine X_icge 69 15 dX4_townThings_12 (by decide) rfl (fun c12 => ?_) (fun c12 => ?_)
      · refine X_ildn1 70 dX4_townThings_69 rfl rfl ?_
        refine X_iret dX4_townThings_70 rfl ?_
        exact h
      · exact absurd (by rw [hn]; exact nI_le (Nat.le_refl _) (by omega)) c12
    | succ k ih =>
      intro i h2
      refine X_ildn0 5 dX4_townThings_4 rfl rfl ?_
      refine X_aldn2 6 dX4_townThings_5 rfl rfl ?_
      refine X_getA 1 9 dX4_townThings_6 fl_X4_10 rfl rfl ?_
      refine X_getI 12 dX4_townThings_9 fl_X4_215 rfl rfl ?_
      refine X_icge 69 15 dX4_townThings_12 (by decide) rfl (fun c12 => ?_) (fun c12 => ?_)
      · have c12 := leq c12 hn (by omega) (by omega)
        omega
      · refine X_aldn2 16 dX4_townThings_15 rfl rfl ?_
        refine X_getA 1 19 dX4_townThings_16 fl_X4_10 rfl rfl ?_
        refine X_getA 2 22 dX4_townThings_19 fl_X4_88 rfl rfl ?_
        refine X_ildn0 23 dX4_townThings_22 rfl rfl ?_
        refine X_ialk i 24 dX4_townThings_23 rfl rfl rfl (show i < 8 by omega) ?_
        refine X_iconst 3 25 dX4_townThings_24 (by decide) rfl ?_
        refine X_iceq 63 28 dX4_townThings_25 (by decide) rfl (fun c25 => ?_) (fun c25 => ?_)
        · refine X_inc0 1 66 dX4_townThings_63 (by decide) rfl rfl rfl ?_
          refine X_goto 4 dX4_townThings_66 (by decide) ?_
          refine xg_lv ?_ (ih (i + 1) (by omega))
          grind [nI_succ, frX, b2i]
        · refine X_aldn2 29 dX4_townThings_28 rfl rfl ?_
          refine X_getA 16 32 dX4_townThings_29 fl_X4_29 rfl rfl ?_
          refine X_getI 35 dX4_townThings_32 fl_X4_182 rfl rfl ?_
          refine X_ildn0 36 dX4_townThings_35 rfl rfl ?_
          refine X_callS2 39 dX4_townThings_36 cw_X4_107 zk_X4_hasBit rfl rfl (S_X4_hasBit ?_)
          refine X_pu ?_
          refine X_ifne 63 42 dX4_townThings_39 (by decide) rfl (fun c39 => ?_) (fun c39 => ?_)
          · refine X_inc0 1 66 dX4_townThings_63 (by decide) rfl rfl rfl ?_
            refine X_goto 4 dX4_townThings_66 (by decide) ?_
            refine xg_lv ?_ (ih (i + 1) (by omega))
            grind [nI_succ, frX, b2i]
          · refine X_aldn2 43 dX4_townThings_42 rfl rfl ?_
            refine X_getA 16 46 dX4_townThings_43 fl_X4_29 rfl rfl ?_
            refine X_aldn2 47 dX4_townThings_46 rfl rfl ?_
            refine X_getA 1 50 dX4_townThings_47 fl_X4_10 rfl rfl ?_
            refine X_ildn0 51 dX4_townThings_50 rfl rfl ?_
            refine X_callV2 1 54 dX4_townThings_51 cw_X4_146 zk_X1_isLost ⟨rfl, rfl⟩ rfl rfl rfl (S_X1_isLost (Or.inl rfl) (by omega) ?_)
            refine X_pu ?_
            refine X_ifne 63 57 dX4_townThings_54 (by decide) rfl (fun c54 => ?_) (fun c54 => ?_)
            · refine X_inc0 1 66 dX4_townThings_63 (by decide) rfl rfl rfl ?_
              refine X_goto 4 dX4_townThings_66 (by decide) ?_
              refine xg_lv ?_ (ih (i + 1) (by omega))
              grind [nI_succ, frX, b2i]
            · refine X_ildn1 58 dX4_townThings_57 rfl rfl ?_
              refine X_iconst 1 59 dX4_townThings_58 (by decide) rfl ?_
              refine X_ildn0 60 dX4_townThings_59 rfl rfl ?_
              refine X_ishl 61 dX4_townThings_60 rfl ?_
              refine X_ior 62 dX4_townThings_61 rfl ?_
              refine X_istn1 63 dX4_townThings_62 rfl rfl rfl rfl ?_
              refine X_inc0 1 66 dX4_townThings_63 (by decide) rfl rfl rfl ?_
              refine X_goto 4 dX4_townThings_66 (by decide) ?_
              refine xg_lv ?_ (ih (i + 1) (by omega))
              grind [nI_succ, frX, b2i]
  refine X_iconst 0 1 dX4_townThings_0 (by decide) rfl ?_
  refine X_istnN 2 dX4_townThings_1 rfl rfl rfl rfl ?_
  refine X_iconst 0 3 dX4_townThings_2 (by decide) rfl ?_
  refine X_istnN 4 dX4_townThings_3 rfl rfl rfl rfl ?_
  exact loop (nX σ) 0 (by omega)
theorem S_X4_town {g y : Int32} (hv : vX σ) (h : ∀ τ, sm17 σ τ → Q (some (.int (f_town σ g y))) τ) : xg_C (d + 5) mX4_town [.ref 0, .int g, .int y] σ Q := by
  refine xg_C_of py_X4_town (Nat.le_of_ble_eq_true rfl) ?_
  show xg_X none (d + 5) mX4_town 0 [(0, .ref 0), (1, .int g), (2, .int y)] [] σ Q
  have loop : ¬ (g < 0 ∨ 8 < g ∨ y < 0 ∨ 1 < y) → ∀ k s τ, s + k = 256 → smE σ τ → xg_X none (d + 5) mX4_town 36 [(6, .int (nI s)), (5, .int (twR σ g s).2), (4, .int (twR σ g s).1), (3, .int (frX σ (nX σ))), (0, .ref 0), (1, .int g), (2, .int y)] [] τ Q := by
    intro cy k
    induction k with
    | zero =>
      intro s τ h2 hτ
      obtain rfl : s = 256 := by omega
      refine X_ild0 38 dX4_town_36 rfl ?_
      refine X_sipush 256 41 dX4_town_38 (by decide) rfl ?_
      refine X_icge 148 44 dX4_town_41 (by decide) rfl (fun c41 => ?_) (fun c41 => ?_)
      · refine X_ildn6 149 dX4_town_148 rfl rfl ?_
        refine X_ifne 157 152 dX4_town_149 (by decide) rfl (fun c149 => ?_) (fun c149 => ?_)
        · refine X_ild1 159 dX4_town_157 rfl ?_
          refine X_iret dX4_town_159 rfl ?_
          refine Qi (h _ (smE_17 hτ)) ?_
          grind [f_town]
        · refine X_ild2 154 dX4_town_152 rfl ?_
          refine X_goto 159 dX4_town_154 (by decide) ?_
          refine X_iret dX4_town_159 rfl ?_
          refine Qi (h _ (smE_17 hτ)) ?_
          grind [f_town]
      · exact absurd (by decide) c41
    | succ k ih =>
      intro s τ h2 hτ
      have nxt : ∀ (p : Int32 × Int32) τ, smE σ τ → twR σ g (s + 1) = p → xg_X none (d + 5) mX4_town 142 [(6, .int (nI s)), (5, .int p.2), (4, .int p.1), (3, .int (frX σ (nX σ))), (0, .ref 0), (1, .int g), (2, .int y)] [] τ Q := by
        intro p τ hτ e
        refine X_inc0 1 145 dX4_town_142 (by decide) rfl rfl rfl ?_
        refine X_goto 36 dX4_town_145 (by decide) ?_
        exact xg_lv (by rw [nI_succ, e]) (ih (s + 1) τ (by omega) hτ)
      have ea : xm_set (dcp σ 17 16) 17 3 ((dcp σ 17 16).1 17 3 ||| nI s) = twA σ s := rfl
      refine X_ild0 38 dX4_town_36 rfl ?_
      refine X_sipush 256 41 dX4_town_38 (by decide) rfl ?_
      refine X_icge 148 44 dX4_town_41 (by decide) rfl (fun c41 => ?_) (fun c41 => ?_)
      · have c41 := leq c41 (n := 256) (by decide) (by decide) (by omega)
        omega
      · refine X_ild0 46 dX4_town_44 rfl ?_
        refine X_ildn3 47 dX4_town_46 rfl rfl ?_
        refine X_iconst (-1) 48 dX4_town_47 (by decide) rfl ?_
        refine X_ixor 49 dX4_town_48 rfl ?_
        refine X_iand 50 dX4_town_49 rfl ?_
        refine X_ifeq 56 53 dX4_town_50 (by decide) rfl (fun c50 => ?_) (fun c50 => ?_)
        · refine X_aldn4 57 dX4_town_56 rfl rfl ?_
          refine X_getA 17 60 dX4_town_57 fl_X4_33 rfl rfl ?_
          refine X_aldn4 61 dX4_town_60 rfl rfl ?_
          refine X_getA 16 64 dX4_town_61 fl_X4_29 rfl rfl ?_
          refine X_callV1 1 67 dX4_town_64 cw_X4_172 zk_X1_copyFrom ⟨rfl, rfl⟩ rfl rfl rfl (S_X1_copyFrom (Or.inr (Or.inl rfl)) (Or.inl rfl) (by decide) ?_)
          refine X_pn ?_
          rw [smE_dcp hτ]
          refine X_aldn4 68 dX4_town_67 rfl rfl ?_
          refine X_getA 17 71 dX4_town_68 fl_X4_33 rfl rfl ?_
          refine X_dup 72 dX4_town_71 rfl rfl ?_
          refine X_getI 75 dX4_town_72 fl_X4_182 rfl rfl ?_
          refine X_ild0 77 dX4_town_75 rfl ?_
          refine X_ior 78 dX4_town_77 rfl ?_
          refine X_putI 81 dX4_town_78 fp_X4_182 rfl rfl ?_
          rw [ea]
          refine X_aldn4 82 dX4_town_81 rfl rfl ?_
          refine X_getA 17 85 dX4_town_82 fl_X4_33 rfl rfl ?_
          refine X_aldn4 86 dX4_town_85 rfl rfl ?_
          refine X_getA 1 89 dX4_town_86 fl_X4_10 rfl rfl ?_
          refine X_callV1 1 92 dX4_town_89 cw_X4_185 zk_X1_firstOverloaded ⟨rfl, rfl⟩ rfl rfl rfl (S_X1_firstOverloaded (Or.inr (Or.inl rfl)) (vX_of (ahd_sm 1 (by decide)) hv) ?_)
          refine X_pu ?_
          refine X_iconst (-1) 93 dX4_town_92 (by decide) rfl ?_
          refine X_icne 142 96 dX4_town_93 (by decide) rfl (fun c93 => ?_) (fun c93 => ?_)
          · refine nxt (twR σ g s) _ smE_ahd ?_
            rw [twR, if_neg]
            simp [twO, c93]
          · refine X_aldn4 97 dX4_town_96 rfl rfl ?_
            refine X_getA 17 100 dX4_town_97 fl_X4_33 rfl rfl ?_
            refine X_aldn4 101 dX4_town_100 rfl rfl ?_
            refine X_getA 1 104 dX4_town_101 fl_X4_10 rfl rfl ?_
            refine X_callV1 1 107 dX4_town_104 cw_X4_188 zk_X1_openGates ⟨rfl, rfl⟩ rfl rfl rfl (S_X1_openGates (Or.inr (Or.inl rfl)) (vX_of (ahd_sm 1 (by decide)) hv) ?_)
            refine X_pu ?_
            refine X_ildn5 108 dX4_town_107 rfl rfl ?_
            refine X_icge 114 111 dX4_town_108 (by decide) rfl (fun c108 => ?_) (fun c108 => ?_)
            · refine X_aldn4 115 dX4_town_114 rfl rfl ?_
              refine X_getA 17 118 dX4_town_115 fl_X4_33 rfl rfl ?_
              refine X_aldn4 119 dX4_town_118 rfl rfl ?_
              refine X_getA 1 122 dX4_town_119 fl_X4_10 rfl rfl ?_
              refine X_callV1 1 125 dX4_town_122 cw_X4_191 zk_X1_prices ⟨rfl, rfl⟩ rfl rfl rfl (S_X1_prices (Or.inr (Or.inl rfl)) (vX_of (ahd_sm 1 (by decide)) hv) ?_)
              refine X_pu ?_
              refine X_istN 127 dX4_town_125 rfl rfl rfl ?_
              refine X_ild0 129 dX4_town_127 rfl ?_
              refine X_ild3 131 dX4_town_129 rfl ?_
              refine X_icle 142 134 dX4_town_131 (by decide) rfl (fun c131 => ?_) (fun c131 => ?_)
              · refine X_drop (nxt (twR σ g s) _ smE_ahd ?_)
                rw [twR, if_neg]
                intro q
                exact absurd q.2 (by rw [i_nlt]; exact c131)
              · refine X_ild0 136 dX4_town_134 rfl ?_
                refine X_ist3 138 dX4_town_136 rfl rfl rfl ?_
                refine X_ild1 140 dX4_town_138 rfl ?_
                refine X_ist2 142 dX4_town_140 rfl rfl rfl ?_
                refine X_drop (nxt (twP σ s, nI s) _ smE_ahd ?_)
                rw [twR, if_pos]
                exact ⟨by rw [twO, decide_eq_true c50, decide_eq_true c93, decide_eq_true c108]; rfl, by rw [i_nle] at c131; exact c131⟩
            · refine X_goto 142 dX4_town_111 (by decide) ?_
              refine nxt (twR σ g s) _ smE_ahd ?_
              rw [twR, if_neg]
              simp [twO, c108]
        · refine X_goto 142 dX4_town_53 (by decide) ?_
          refine nxt (twR σ g s) _ hτ ?_
          rw [twR, if_neg]
          intro q
          have q1 := q.1
          rw [twO, decide_eq_false c50] at q1
          cases q1
  refine X_ildn1 1 dX4_town_0 rfl rfl ?_
  refine X_iflt 19 4 dX4_town_1 (by decide) rfl (fun c1 => ?_) (fun c1 => ?_)
  · refine X_bipush (-3) 21 dX4_town_19 (by decide) rfl ?_
    refine X_iret dX4_town_21 rfl ?_
    refine Qi (h _ (fun _ _ => rfl)) ?_
    (try simp only [i_nlt, i_nle] at *)
    grind [f_town]
  · refine X_ildn1 5 dX4_town_4 rfl rfl ?_
    refine X_bipush 8 7 dX4_town_5 (by decide) rfl ?_
    refine X_icgt 19 10 dX4_town_7 (by decide) rfl (fun c7 => ?_) (fun c7 => ?_)
    · refine X_bipush (-3) 21 dX4_town_19 (by decide) rfl ?_
      refine X_iret dX4_town_21 rfl ?_
      refine Qi (h _ (fun _ _ => rfl)) ?_
      (try simp only [i_nlt, i_nle] at *)
      grind [f_town]
    · refine X_ildn2 11 dX4_town_10 rfl rfl ?_
      refine X_iflt 19 14 dX4_town_11 (by decide) rfl (fun c11 => ?_) (fun c11 => ?_)
      · refine X_bipush (-3) 21 dX4_town_19 (by decide) rfl ?_
        refine X_iret dX4_town_21 rfl ?_
        refine Qi (h _ (fun _ _ => rfl)) ?_
        (try simp only [i_nlt, i_nle] at *)
        grind [f_town]
      · refine X_ildn2 15 dX4_town_14 rfl rfl ?_
        refine X_iconst 1 16 dX4_town_15 (by decide) rfl ?_
        refine X_icle 22 19 dX4_town_16 (by decide) rfl (fun c16 => ?_) (fun c16 => ?_)
        · refine X_aldn0 23 dX4_town_22 rfl rfl ?_
          refine X_callV0 4 26 dX4_town_23 cw_X4_178 zk_X4_townThings ⟨rfl, rfl⟩ rfl rfl rfl (S_X4_townThings hv ?_)
          refine X_pu ?_
          refine X_istnN 27 dX4_town_26 rfl rfl rfl rfl ?_
          refine X_iconst (-1) 28 dX4_town_27 (by decide) rfl ?_
          refine X_istN 30 dX4_town_28 rfl rfl rfl ?_
          refine X_iconst (-1) 31 dX4_town_30 (by decide) rfl ?_
          refine X_istN 33 dX4_town_31 rfl rfl rfl ?_
          refine X_iconst 0 34 dX4_town_33 (by decide) rfl ?_
          refine X_istN 36 dX4_town_34 rfl rfl rfl ?_
          exact loop (by (try simp only [i_nlt, i_nle] at *); grind) 256 0 σ rfl smE_rf
        · refine X_bipush (-3) 21 dX4_town_19 (by decide) rfl ?_
          refine X_iret dX4_town_21 rfl ?_
          refine Qi (h _ (fun _ _ => rfl)) ?_
          (try simp only [i_nlt, i_nle] at *)
          grind [f_town]
theorem S_X4_thiefGain {t : Nat} {f : Int32} (ht : t < 8) (h : Q (some (.int (gnX σ t f))) σ) : xg_C (d + 3) mX4_thiefGain [.ref 0, .int (nI t), .int f] σ Q := by
  refine xg_C_of py_X4_thiefGain (Nat.le_of_ble_eq_true rfl) ?_
  show xg_X none (d + 3) mX4_thiefGain 0 [(0, .ref 0), (1, .int (nI t)), (2, .int f)] [] σ Q
  refine X_aldn0 1 dX4_thiefGain_0 rfl rfl ?_
  refine X_getA 16 4 dX4_thiefGain_1 fl_X4_29 rfl rfl ?_
  refine X_getI 7 dX4_thiefGain_4 fl_X4_104 rfl rfl ?_
  refine X_ildn1 8 dX4_thiefGain_7 rfl rfl ?_
  refine X_callS2 11 dX4_thiefGain_8 cw_X4_107 zk_X4_hasBit rfl rfl (S_X4_hasBit ?_)
  refine X_pu ?_
  refine X_ifne 27 14 dX4_thiefGain_11 (by decide) rfl (fun c11 => ?_) (fun c11 => ?_)
  · refine X_iconst 0 28 dX4_thiefGain_27 (by decide) rfl ?_
    refine X_iret dX4_thiefGain_28 rfl ?_
    refine Qi h ?_
    grind [gnX, b2i]
  · refine X_aldn0 15 dX4_thiefGain_14 rfl rfl ?_
    refine X_getA 1 18 dX4_thiefGain_15 fl_X4_10 rfl rfl ?_
    refine X_getA 5 21 dX4_thiefGain_18 fl_X4_97 rfl rfl ?_
    refine X_ildn1 22 dX4_thiefGain_21 rfl rfl ?_
    refine X_ialk t 23 dX4_thiefGain_22 rfl rfl rfl (show t < 8 by omega) ?_
    refine X_ildn2 24 dX4_thiefGain_23 rfl rfl ?_
    refine X_icne 29 27 dX4_thiefGain_24 (by decide) rfl (fun c24 => ?_) (fun c24 => ?_)
    · refine X_iconst 0 30 dX4_thiefGain_29 (by decide) rfl ?_
      refine X_iconst 3 31 dX4_thiefGain_30 (by decide) rfl ?_
      refine X_aldn0 32 dX4_thiefGain_31 rfl rfl ?_
      refine X_getA 1 35 dX4_thiefGain_32 fl_X4_10 rfl rfl ?_
      refine X_getA 3 38 dX4_thiefGain_35 fl_X4_91 rfl rfl ?_
      refine X_ildn1 39 dX4_thiefGain_38 rfl rfl ?_
      refine X_ialk t 40 dX4_thiefGain_39 rfl rfl rfl (show t < 8 by omega) ?_
      refine X_imul 41 dX4_thiefGain_40 rfl ?_
      refine X_aldn0 42 dX4_thiefGain_41 rfl rfl ?_
      refine X_getA 16 45 dX4_thiefGain_42 fl_X4_29 rfl rfl ?_
      refine X_aldn0 46 dX4_thiefGain_45 rfl rfl ?_
      refine X_getA 1 49 dX4_thiefGain_46 fl_X4_10 rfl rfl ?_
      refine X_ildn1 50 dX4_thiefGain_49 rfl rfl ?_
      refine X_callV2 1 53 dX4_thiefGain_50 cw_X4_111 zk_X1_priceOf ⟨rfl, rfl⟩ rfl rfl rfl (S_X1_priceOf (Or.inl rfl) ht ?_)
      refine X_pu ?_
      refine X_isub 54 dX4_thiefGain_53 rfl ?_
      refine X_max 57 dX4_thiefGain_54 cw_X4_267 rfl rfl ?_
      refine X_iret dX4_thiefGain_57 rfl ?_
      refine Qi h ?_
      grind [gnX, b2i]
    · refine X_iconst 0 28 dX4_thiefGain_27 (by decide) rfl ?_
      refine X_iret dX4_thiefGain_28 rfl ?_
      refine Qi h ?_
      grind [gnX, b2i]
theorem S_X4_isRest {t f : Nat} (hv : vX σ) (ht : t < 8) (hf : f < 3) (h : Q (some (.int (b2i (rsX σ t f)))) σ) : xg_C (d + 4) mX4_isRest [.ref 0, .int (nI t), .int (nI f)] σ Q := by
  refine xg_C_of py_X4_isRest (Nat.le_of_ble_eq_true rfl) ?_
  show xg_X none (d + 4) mX4_isRest 0 [(0, .ref 0), (1, .int (nI t)), (2, .int (nI f))] [] σ Q
  obtain ⟨hn, hn8⟩ := hv
  have loop2 : allN (fun u => decide (gnX σ u (nI f) ≤ gnX σ t (nI f))) (nX σ) = true → ∀ k i, i + k = 3 → allN (fun g => decide (gnX σ t (nI f) ≤ gnX σ t (nI g))) i = true → xg_X none (d + 4) mX4_isRest 44 [(4, .int (nI i)), (3, .int (gnX σ t (nI f))), (0, .ref 0), (1, .int (nI t)), (2, .int (nI f))] [] σ Q := by
    intro ha k
    induction k with
    | zero =>
      intro i h2 hb
      obtain rfl : i = 3 := by omega
      refine X_ild0 46 dX4_isRest_44 rfl ?_
      refine X_iconst 3 47 dX4_isRest_46 (by decide) rfl ?_
      refine X_icge 69 50 dX4_isRest_47 (by decide) rfl (fun c47 => ?_) (fun c47 => ?_)
      · refine X_iconst 1 70 dX4_isRest_69 (by decide) rfl ?_
        refine X_zret dX4_isRest_70 rfl (by first | exact Or.inl rfl | exact Or.inr rfl) ?_
        refine Qi h ?_
        rw [rsX, ha, hb]
        rfl
      · exact absurd (by decide) c47
    | succ k ih =>
      intro i h2 hb
      refine X_ild0 46 dX4_isRest_44 rfl ?_
      refine X_iconst 3 47 dX4_isRest_46 (by decide) rfl ?_
      refine X_icge 69 50 dX4_isRest_47 (by decide) rfl (fun c47 => ?_) (fun c47 => ?_)
      · have c47 := leq c47 (n := 3) (by decide) (by decide) (by omega)
        omega
      · refine X_aldn2 51 dX4_isRest_50 rfl rfl ?_
        refine X_ildn3 52 dX4_isRest_51 rfl rfl ?_
        refine X_ild0 54 dX4_isRest_52 rfl ?_
        refine X_callV2 4 57 dX4_isRest_54 cw_X4_272 zk_X4_thiefGain ⟨rfl, rfl⟩ rfl rfl rfl (S_X4_thiefGain ht ?_)
        refine X_pu ?_
        refine X_ildn1 58 dX4_isRest_57 rfl rfl ?_
        refine X_icge 63 61 dX4_isRest_58 (by decide) rfl (fun c58 => ?_) (fun c58 => ?_)
        · refine X_inc0 1 66 dX4_isRest_63 (by decide) rfl rfl rfl ?_
          refine X_goto 44 dX4_isRest_66 (by decide) ?_
          refine xg_lv (by rw [nI_succ]) (ih (i + 1) (by omega) ?_)
          simp [allN, hb, c58]
        · refine X_iconst 0 62 dX4_isRest_61 (by decide) rfl ?_
          refine X_zret dX4_isRest_62 rfl (by first | exact Or.inl rfl | exact Or.inr rfl) ?_
          refine Qi h ?_
          rw [rsX, allN_no (p := fun g => decide (gnX σ t (nI f) ≤ gnX σ t (nI g))) (i := i) (by omega) (by simp [c58]), Bool.and_false]
          rfl
  have loop : ∀ k i, i + k = nX σ → allN (fun u => decide (gnX σ u (nI f) ≤ gnX σ t (nI f))) i = true → xg_X none (d + 4) mX4_isRest 10 [(4, .int (nI i)), (3, .int (gnX σ t (nI f))), (0, .ref 0), (1, .int (nI t)), (2, .int (nI f))] [] σ Q := by
    intro k
    induction k with
    | zero =>
      intro i h2 hb
      obtain rfl : i = nX σ := by omega
      refine X_ild0 12 dX4_isRest_10 rfl ?_
      refine X_aldn2 13 dX4_isRest_12 rfl rfl ?_
      refine X_getA 1 16 dX4_isRest_13 fl_X4_10 rfl rfl ?_
      refine X_getI 19 dX4_isRest_16 fl_X4_215 rfl rfl ?_
      refine X_icge 41 22 dX4_isRest_19 (by decide) rfl (fun c19 => ?_) (fun c19 => ?_)
      · refine X_iconst 0 42 dX4_isRest_41 (by decide) rfl ?_
        refine X_ist0 44 dX4_isRest_42 rfl rfl rfl ?_
        exact loop2 hb 3 0 rfl rfl
      · exact absurd (by rw [hn]; exact nI_le (Nat.le_refl _) (by omega)) c19
    | succ k ih =>
      intro i h2 hb
      refine X_ild0 12 dX4_isRest_10 rfl ?_
      refine X_aldn2 13 dX4_isRest_12 rfl rfl ?_
      refine X_getA 1 16 dX4_isRest_13 fl_X4_10 rfl rfl ?_
      refine X_getI 19 dX4_isRest_16 fl_X4_215 rfl rfl ?_
      refine X_icge 41 22 dX4_isRest_19 (by decide) rfl (fun c19 => ?_) (fun c19 => ?_)
      · have c19 := leq c19 hn (by omega) (by omega)
        omega
      · refine X_aldn2 23 dX4_isRest_22 rfl rfl ?_
        refine X_ild0 25 dX4_isRest_23 rfl ?_
        refine X_ildn4 26 dX4_isRest_25 rfl rfl ?_
        refine X_callV2 4 29 dX4_isRest_26 cw_X4_272 zk_X4_thiefGain ⟨rfl, rfl⟩ rfl rfl rfl (S_X4_thiefGain (by omega) ?_)
        refine X_pu ?_
        refine X_ildn1 30 dX4_isRest_29 rfl rfl ?_
        refine X_icle 35 33 dX4_isRest_30 (by decide) rfl (fun c30 => ?_) (fun c30 => ?_)
        · refine X_inc0 1 38 dX4_isRest_35 (by decide) rfl rfl rfl ?_
          refine X_goto 10 dX4_isRest_38 (by decide) ?_
          refine xg_lv (by rw [nI_succ]) (ih (i + 1) (by omega) ?_)
          simp [allN, hb, c30]
        · refine X_iconst 0 34 dX4_isRest_33 (by decide) rfl ?_
          refine X_zret dX4_isRest_34 rfl (by first | exact Or.inl rfl | exact Or.inr rfl) ?_
          refine Qi h ?_
          rw [rsX, allN_no (p := fun u => decide (gnX σ u (nI f) ≤ gnX σ t (nI f))) (i := i) (by omega) (by simp [c30]), Bool.false_and]
          rfl
  refine X_aldn0 1 dX4_isRest_0 rfl rfl ?_
  refine X_ildn1 2 dX4_isRest_1 rfl rfl ?_
  refine X_ildn2 3 dX4_isRest_2 rfl rfl ?_
  refine X_callV2 4 6 dX4_isRest_3 cw_X4_272 zk_X4_thiefGain ⟨rfl, rfl⟩ rfl rfl rfl (S_X4_thiefGain ht ?_)
  refine X_pu ?_
  refine X_istnN 7 dX4_isRest_6 rfl rfl rfl rfl ?_
  refine X_iconst 0 8 dX4_isRest_7 (by decide) rfl ?_
  refine X_istN 10 dX4_isRest_8 rfl rfl rfl ?_
  exact loop (nX σ) 0 (by omega) rfl
theorem S_X4_thief {y : Int32} (hv : vX σ) (h : Q (some (.int (f_thief σ y))) σ) : xg_C (d + 5) mX4_thief [.ref 0, .int y] σ Q := by
  refine xg_C_of py_X4_thief (Nat.le_of_ble_eq_true rfl) ?_
  show xg_X none (d + 5) mX4_thief 0 [(0, .ref 0), (1, .int y)] [] σ Q
  have hv' := hv
  obtain ⟨hn, hn8⟩ := hv
  have outer : ¬ (y < 0 ∨ 2 < y) → ∀ k t, t + k = nX σ → ∀ l6, (l6 = [] ∨ ∃ z, l6 = [(6, Value.int z)]) → xg_X none (d + 5) mX4_thief 22 (l6 ++ [(5, .int (nI t)), (4, .int (thO (rsX σ) t).2.2), (3, .int (thO (rsX σ) t).2.1), (2, .int (thO (rsX σ) t).1), (0, .ref 0), (1, .int y)]) [] σ Q := by
    intro cy k
    induction k with
    | zero =>
      intro t h2 l6 h6
      obtain rfl : t = nX σ := by omega
      refine xg_sub (lw := [(5, .int (nI (nX σ))), (4, .int (thO (rsX σ) (nX σ)).2.2), (3, .int (thO (rsX σ) (nX σ)).2.1), (2, .int (thO (rsX σ) (nX σ)).1), (0, .ref 0), (1, .int y)]) (fun q hq => List.mem_append_right _ hq) ?_
      refine X_ild0 24 dX4_thief_22 rfl ?_
      refine X_aldn4 25 dX4_thief_24 rfl rfl ?_
      refine X_getA 1 28 dX4_thief_25 fl_X4_10 rfl rfl ?_
      refine X_getI 31 dX4_thief_28 fl_X4_215 rfl rfl ?_
      refine X_icge 83 34 dX4_thief_31 (by decide) rfl (fun c31 => ?_) (fun c31 => ?_)
      · refine X_ildn5 84 dX4_thief_83 rfl rfl ?_
        by_cases y84_0 : y = 0
        · refine X_lsw 112 dX4_thief_84 (by decide) (by rw [y84_0]; decide) ?_
          refine X_ildn3 113 dX4_thief_112 rfl rfl ?_
          refine X_iret dX4_thief_113 rfl ?_
          refine Qi h ?_
          grind [f_thief]
        by_cases y84_1 : y = 1
        · refine X_lsw 114 dX4_thief_84 (by decide) (by rw [y84_1]; decide) ?_
          refine X_ildn2 115 dX4_thief_114 rfl rfl ?_
          refine X_iret dX4_thief_115 rfl ?_
          refine Qi h ?_
          grind [f_thief]
        refine X_lsw 116 dX4_thief_84 (by decide) (by show (_ : Int) + Op.lookupswitch.offset [(0, 28), (1, 30)] 32 _ = _; rw [lv_osw y84_0 (by decide), lv_osw y84_1 (by decide)]; rfl) ?_
        refine X_ild1 118 dX4_thief_116 rfl ?_
        refine X_iret dX4_thief_118 rfl ?_
        refine Qi h ?_
        grind [f_thief]
      · exact absurd (by rw [hn]; exact nI_le (Nat.le_refl _) (by omega)) c31
    | succ k ih =>
      intro t h2 l6 h6
      have inner : ∀ n f, f + n = 3 → xg_X none (d + 5) mX4_thief 37 [(6, .int (nI f)), (5, .int (nI t)), (4, .int (thI (rsX σ) t (thO (rsX σ) t) f).2.2), (3, .int (thI (rsX σ) t (thO (rsX σ) t) f).2.1), (2, .int (thI (rsX σ) t (thO (rsX σ) t) f).1), (0, .ref 0), (1, .int y)] [] σ Q := by
        intro n
        induction n with
        | zero =>
          intro f h3
          obtain rfl : f = 3 := by omega
          refine X_ild0 39 dX4_thief_37 rfl ?_
          refine X_iconst 3 40 dX4_thief_39 (by decide) rfl ?_
          refine X_icge 77 43 dX4_thief_40 (by decide) rfl (fun c40 => ?_) (fun c40 => ?_)
          · refine X_inc1 1 80 dX4_thief_77 (by decide) rfl rfl rfl ?_
            refine X_goto 22 dX4_thief_80 (by decide) ?_
            exact xg_lv (by simp [nI_succ, thO]) (ih (t + 1) (by omega) [(6, .int (nI 3))] (Or.inr ⟨_, rfl⟩))
          · exact absurd (by decide) c40
        | succ n ih2 =>
          intro f h3
          refine X_ild0 39 dX4_thief_37 rfl ?_
          refine X_iconst 3 40 dX4_thief_39 (by decide) rfl ?_
          refine X_icge 77 43 dX4_thief_40 (by decide) rfl (fun c40 => ?_) (fun c40 => ?_)
          · have c40 := leq c40 (n := 3) (by decide) (by decide) (by omega)
            omega
          · refine X_aldn5 44 dX4_thief_43 rfl rfl ?_
            refine X_ild1 46 dX4_thief_44 rfl ?_
            refine X_ild0 48 dX4_thief_46 rfl ?_
            refine X_callV2 4 51 dX4_thief_48 cw_X4_218 zk_X4_isRest ⟨rfl, rfl⟩ rfl rfl rfl (S_X4_isRest hv' (by omega) (by omega) ?_)
            refine X_pu ?_
            refine X_ifne 57 54 dX4_thief_51 (by decide) rfl (fun c51 => ?_) (fun c51 => ?_)
            · refine X_ildn4 58 dX4_thief_57 rfl rfl ?_
              refine X_ifne 68 61 dX4_thief_58 (by decide) rfl (fun c58 => ?_) (fun c58 => ?_)
              · refine X_inc4 1 71 dX4_thief_68 (by decide) rfl rfl rfl ?_
                refine X_inc0 1 74 dX4_thief_71 (by decide) rfl rfl rfl ?_
                refine X_goto 37 dX4_thief_74 (by decide) ?_
                refine xg_lv ?_ (ih2 (f + 1) (by omega))
                rw [nI_succ]
                grind [thI, b2i]
              · refine X_ild1 63 dX4_thief_61 rfl ?_
                refine X_istn3 64 dX4_thief_63 rfl rfl rfl rfl ?_
                refine X_ild0 66 dX4_thief_64 rfl ?_
                refine X_ist2 68 dX4_thief_66 rfl rfl rfl ?_
                refine X_inc4 1 71 dX4_thief_68 (by decide) rfl rfl rfl ?_
                refine X_inc0 1 74 dX4_thief_71 (by decide) rfl rfl rfl ?_
                refine X_goto 37 dX4_thief_74 (by decide) ?_
                refine xg_lv ?_ (ih2 (f + 1) (by omega))
                rw [nI_succ]
                grind [thI, b2i]
            · refine X_goto 71 dX4_thief_54 (by decide) ?_
              refine X_inc0 1 74 dX4_thief_71 (by decide) rfl rfl rfl ?_
              refine X_goto 37 dX4_thief_74 (by decide) ?_
              refine xg_lv ?_ (ih2 (f + 1) (by omega))
              rw [nI_succ]
              grind [thI, b2i]
      refine xg_sub (lw := [(5, .int (nI t)), (4, .int (thO (rsX σ) t).2.2), (3, .int (thO (rsX σ) t).2.1), (2, .int (thO (rsX σ) t).1), (0, .ref 0), (1, .int y)]) (fun q hq => List.mem_append_right _ hq) ?_
      refine X_ild0 24 dX4_thief_22 rfl ?_
      refine X_aldn4 25 dX4_thief_24 rfl rfl ?_
      refine X_getA 1 28 dX4_thief_25 fl_X4_10 rfl rfl ?_
      refine X_getI 31 dX4_thief_28 fl_X4_215 rfl rfl ?_
      refine X_icge 83 34 dX4_thief_31 (by decide) rfl (fun c31 => ?_) (fun c31 => ?_)
      · have c31 := leq c31 hn (by omega) (by omega)
        omega
      · refine X_iconst 0 35 dX4_thief_34 (by decide) rfl ?_
        refine X_istN 37 dX4_thief_35 rfl rfl rfl ?_
        exact inner 3 0 rfl
  refine X_ildn1 1 dX4_thief_0 rfl rfl ?_
  refine X_iflt 9 4 dX4_thief_1 (by decide) rfl (fun c1 => ?_) (fun c1 => ?_)
  · refine X_bipush (-3) 11 dX4_thief_9 (by decide) rfl ?_
    refine X_iret dX4_thief_11 rfl ?_
    refine Qi h ?_
    (try simp only [i_nlt, i_nle] at *)
    grind [f_thief]
  · refine X_ildn1 5 dX4_thief_4 rfl rfl ?_
    refine X_iconst 2 6 dX4_thief_5 (by decide) rfl ?_
    refine X_icle 12 9 dX4_thief_6 (by decide) rfl (fun c6 => ?_) (fun c6 => ?_)
    · refine X_iconst 0 13 dX4_thief_12 (by decide) rfl ?_
      refine X_istnN 14 dX4_thief_13 rfl rfl rfl rfl ?_
      refine X_iconst (-1) 15 dX4_thief_14 (by decide) rfl ?_
      refine X_istnN 16 dX4_thief_15 rfl rfl rfl rfl ?_
      refine X_iconst (-1) 17 dX4_thief_16 (by decide) rfl ?_
      refine X_istN 19 dX4_thief_17 rfl rfl rfl ?_
      refine X_iconst 0 20 dX4_thief_19 (by decide) rfl ?_
      refine X_istN 22 dX4_thief_20 rfl rfl rfl ?_
      exact outer (by (try simp only [i_nlt, i_nle] at *); grind) (nX σ) 0 (by omega) [] (Or.inl rfl)
    · refine X_bipush (-3) 11 dX4_thief_9 (by decide) rfl ?_
      refine X_iret dX4_thief_11 rfl ?_
      refine Qi h ?_
      (try simp only [i_nlt, i_nle] at *)
      grind [f_thief]
theorem S_X4_goldEnd {m : Int32} (hh : vH σ) (h : Q (some (.int (geX σ m))) σ) : xg_C (d + 2) mX4_goldEnd [.ref 0, .int m] σ Q := by
  refine xg_C_of py_X4_goldEnd (Nat.le_of_ble_eq_true rfl) ?_
  show xg_X none (d + 2) mX4_goldEnd 0 [(0, .ref 0), (1, .int m)] [] σ Q
  refine X_aldn0 1 dX4_goldEnd_0 rfl rfl ?_
  refine X_getA 1 4 dX4_goldEnd_1 fl_X4_10 rfl rfl ?_
  refine X_aldn0 5 dX4_goldEnd_4 rfl rfl ?_
  refine X_getA 16 8 dX4_goldEnd_5 fl_X4_29 rfl rfl ?_
  refine X_getI 11 dX4_goldEnd_8 fl_X4_140 rfl rfl ?_
  refine X_ildn1 12 dX4_goldEnd_11 rfl rfl ?_
  refine X_callS3 15 dX4_goldEnd_12 cw_X4_143 zk_X4_handIn rfl rfl (S_X4_handIn hh ?_)
  refine X_pu ?_
  refine X_istnN 16 dX4_goldEnd_15 rfl rfl rfl rfl ?_
  refine X_ildn0 17 dX4_goldEnd_16 rfl rfl ?_
  refine X_ifne 22 20 dX4_goldEnd_17 (by decide) rfl (fun c17 => ?_) (fun c17 => ?_)
  · refine X_ildn0 23 dX4_goldEnd_22 rfl rfl ?_
    refine X_iconst 1 24 dX4_goldEnd_23 (by decide) rfl ?_
    refine X_icne 48 27 dX4_goldEnd_24 (by decide) rfl (fun c24 => ?_) (fun c24 => ?_)
    · refine X_bipush 24 50 dX4_goldEnd_48 (by decide) rfl ?_
      refine X_iret dX4_goldEnd_50 rfl ?_
      refine Qi h ?_
      (try simp only [i_nlt, i_nle] at *)
      grind [geX]
    · refine X_ildn2 28 dX4_goldEnd_27 rfl rfl ?_
      refine X_aldn1 29 dX4_goldEnd_28 rfl rfl ?_
      refine X_getA 1 32 dX4_goldEnd_29 fl_X4_10 rfl rfl ?_
      refine X_getI 35 dX4_goldEnd_32 fl_X4_254 rfl rfl ?_
      refine X_icge 48 38 dX4_goldEnd_35 (by decide) rfl (fun c35 => ?_) (fun c35 => ?_)
      · refine X_bipush 24 50 dX4_goldEnd_48 (by decide) rfl ?_
        refine X_iret dX4_goldEnd_50 rfl ?_
        refine Qi h ?_
        (try simp only [i_nlt, i_nle] at *)
        grind [geX]
      · refine X_aldn1 39 dX4_goldEnd_38 rfl rfl ?_
        refine X_getA 1 42 dX4_goldEnd_39 fl_X4_10 rfl rfl ?_
        refine X_getI 45 dX4_goldEnd_42 fl_X4_254 rfl rfl ?_
        refine X_goto 50 dX4_goldEnd_45 (by decide) ?_
        refine X_iret dX4_goldEnd_50 rfl ?_
        refine Qi h ?_
        (try simp only [i_nlt, i_nle] at *)
        grind [geX]
  · refine X_ildn2 21 dX4_goldEnd_20 rfl rfl ?_
    refine X_iret dX4_goldEnd_21 rfl ?_
    refine Qi h ?_
    (try simp only [i_nlt, i_nle] at *)
    grind [geX]
theorem S_X4_fitsSeen {x a b : Int32} (hs : vS σ) (h : Q (some (.int (b2i (allN (fsX σ x a b) (scX σ))))) σ) : xg_C d mX4_fitsSeen [.ref 0, .int x, .int a, .int b] σ Q := by
  refine xg_C_of py_X4_fitsSeen (Nat.le_of_ble_eq_true rfl) ?_
  show xg_X none d mX4_fitsSeen 0 [(0, .ref 0), (1, .int x), (2, .int a), (3, .int b)] [] σ Q
  obtain ⟨hn, hn6⟩ := hs
  have loop : ∀ k i, i + k = scX σ → allN (fsX σ x a b) i = true → ∀ l5, xg_X none d mX4_fitsSeen 3 (l5 ++ [(4, .int (nI i)), (0, .ref 0), (1, .int x), (2, .int a), (3, .int b)]) [] σ Q := by
    intro k
    induction k with
    | zero =>
      intro i h2 hb l5
      obtain rfl : i = scX σ := by omega
      refine xg_sub (lw := [(4, .int (nI (scX σ))), (0, .ref 0), (1, .int x), (2, .int a), (3, .int b)]) (fun q hq => List.mem_append_right _ hq) ?_
      refine X_ild0 5 dX4_fitsSeen_3 rfl ?_
      refine X_aldn1 6 dX4_fitsSeen_5 rfl rfl ?_
      refine X_getI 9 dX4_fitsSeen_6 fl_X4_221 rfl rfl ?_
      refine X_icge 84 12 dX4_fitsSeen_9 (by decide) rfl (fun c9 => ?_) (fun c9 => ?_)
      · refine X_iconst 1 85 dX4_fitsSeen_84 (by decide) rfl ?_
        refine X_zret dX4_fitsSeen_85 rfl (by first | exact Or.inl rfl | exact Or.inr rfl) ?_
        refine Qi h ?_
        rw [hb]
        rfl
      · exact absurd (by rw [hn]; exact nI_le (Nat.le_refl _) (by omega)) c9
    | succ k ih =>
      intro i h2 hb l5
      refine xg_sub (lw := [(4, .int (nI i)), (0, .ref 0), (1, .int x), (2, .int a), (3, .int b)]) (fun q hq => List.mem_append_right _ hq) ?_
      have cmp : σ.1 23 i = x → ∀ w : Int32, w = b2i (decide (a ≤ σ.1 24 i ∧ σ.1 24 i < b)) → xg_X none d mX4_fitsSeen 53 [(4, .int (nI i)), (0, .ref 0), (1, .int x), (2, .int a), (3, .int b)] [.int w] σ Q := by
        intro e23 w ew
        refine X_istN 55 dX4_fitsSeen_53 rfl rfl rfl ?_
        refine X_ild0 57 dX4_fitsSeen_55 rfl ?_
        refine X_aldn2 58 dX4_fitsSeen_57 rfl rfl ?_
        refine X_getA 25 61 dX4_fitsSeen_58 fl_X4_60 rfl rfl ?_
        refine X_ild1 63 dX4_fitsSeen_61 rfl ?_
        refine X_ialk i 64 dX4_fitsSeen_63 rfl rfl rfl (show i < 6 by omega) ?_
        refine X_iconst 1 65 dX4_fitsSeen_64 (by decide) rfl ?_
        refine X_icne 72 68 dX4_fitsSeen_65 (by decide) rfl (fun c65 => ?_) (fun c65 => ?_)
        · refine X_iconst 0 73 dX4_fitsSeen_72 (by decide) rfl ?_
          refine X_iceq 78 76 dX4_fitsSeen_73 (by decide) rfl (fun c73 => ?_) (fun c73 => ?_)
          · refine X_inc1 1 81 dX4_fitsSeen_78 (by decide) rfl rfl rfl ?_
            refine X_goto 3 dX4_fitsSeen_81 (by decide) ?_
            refine xg_lv ?_ (ih (i + 1) (by omega) ?_ [(5, .int w)])
            · rw [nI_succ]
              rfl
            · rw [allN, hb]
              grind [fsX, b2i]
          · refine X_iconst 0 77 dX4_fitsSeen_76 (by decide) rfl ?_
            refine X_zret dX4_fitsSeen_77 rfl (by first | exact Or.inl rfl | exact Or.inr rfl) ?_
            refine Qi h ?_
            rw [allN_no (i := i) (by omega) (by grind [fsX, b2i])]
            rfl
        · refine X_iconst 1 69 dX4_fitsSeen_68 (by decide) rfl ?_
          refine X_goto 73 dX4_fitsSeen_69 (by decide) ?_
          refine X_iceq 78 76 dX4_fitsSeen_73 (by decide) rfl (fun c73 => ?_) (fun c73 => ?_)
          · refine X_inc1 1 81 dX4_fitsSeen_78 (by decide) rfl rfl rfl ?_
            refine X_goto 3 dX4_fitsSeen_81 (by decide) ?_
            refine xg_lv ?_ (ih (i + 1) (by omega) ?_ [(5, .int w)])
            · rw [nI_succ]
              rfl
            · rw [allN, hb]
              grind [fsX, b2i]
          · refine X_iconst 0 77 dX4_fitsSeen_76 (by decide) rfl ?_
            refine X_zret dX4_fitsSeen_77 rfl (by first | exact Or.inl rfl | exact Or.inr rfl) ?_
            refine Qi h ?_
            rw [allN_no (i := i) (by omega) (by grind [fsX, b2i])]
            rfl
      refine X_ild0 5 dX4_fitsSeen_3 rfl ?_
      refine X_aldn1 6 dX4_fitsSeen_5 rfl rfl ?_
      refine X_getI 9 dX4_fitsSeen_6 fl_X4_221 rfl rfl ?_
      refine X_icge 84 12 dX4_fitsSeen_9 (by decide) rfl (fun c9 => ?_) (fun c9 => ?_)
      · have c9 := leq c9 hn (by omega) (by omega)
        omega
      · refine X_aldn1 13 dX4_fitsSeen_12 rfl rfl ?_
        refine X_getA 23 16 dX4_fitsSeen_13 fl_X4_54 rfl rfl ?_
        refine X_ild0 18 dX4_fitsSeen_16 rfl ?_
        refine X_ialk i 19 dX4_fitsSeen_18 rfl rfl rfl (show i < 6 by omega) ?_
        refine X_ildn2 20 dX4_fitsSeen_19 rfl rfl ?_
        refine X_iceq 26 23 dX4_fitsSeen_20 (by decide) rfl (fun c20 => ?_) (fun c20 => ?_)
        · refine X_aldn1 27 dX4_fitsSeen_26 rfl rfl ?_
          refine X_getA 24 30 dX4_fitsSeen_27 fl_X4_57 rfl rfl ?_
          refine X_ild0 32 dX4_fitsSeen_30 rfl ?_
          refine X_ialk i 33 dX4_fitsSeen_32 rfl rfl rfl (show i < 6 by omega) ?_
          refine X_ildn3 34 dX4_fitsSeen_33 rfl rfl ?_
          refine X_iclt 52 37 dX4_fitsSeen_34 (by decide) rfl (fun c34 => ?_) (fun c34 => ?_)
          · refine X_iconst 0 53 dX4_fitsSeen_52 (by decide) rfl ?_
            refine cmp c20 _ ?_
            (try simp only [i_nlt, i_nle] at *)
            grind [b2i]
          · refine X_aldn1 38 dX4_fitsSeen_37 rfl rfl ?_
            refine X_getA 24 41 dX4_fitsSeen_38 fl_X4_57 rfl rfl ?_
            refine X_ild0 43 dX4_fitsSeen_41 rfl ?_
            refine X_ialk i 44 dX4_fitsSeen_43 rfl rfl rfl (show i < 6 by omega) ?_
            refine X_ildn4 45 dX4_fitsSeen_44 rfl rfl ?_
            refine X_icge 52 48 dX4_fitsSeen_45 (by decide) rfl (fun c45 => ?_) (fun c45 => ?_)
            · refine X_iconst 0 53 dX4_fitsSeen_52 (by decide) rfl ?_
              refine cmp c20 _ ?_
              (try simp only [i_nlt, i_nle] at *)
              grind [b2i]
            · refine X_iconst 1 49 dX4_fitsSeen_48 (by decide) rfl ?_
              refine X_goto 53 dX4_fitsSeen_49 (by decide) ?_
              refine cmp c20 _ ?_
              (try simp only [i_nlt, i_nle] at *)
              grind [b2i]
        · refine X_goto 78 dX4_fitsSeen_23 (by decide) ?_
          refine X_inc0 1 81 dX4_fitsSeen_78 (by decide) rfl rfl rfl ?_
          refine X_goto 3 dX4_fitsSeen_81 (by decide) ?_
          refine xg_lv ?_ (ih (i + 1) (by omega) ?_ [])
          · rw [nI_succ]
            rfl
          · rw [allN, hb]
            grind [fsX]
  refine X_iconst 0 1 dX4_fitsSeen_0 (by decide) rfl ?_
  refine X_istN 3 dX4_fitsSeen_1 rfl rfl rfl ?_
  exact loop (scX σ) 0 (by omega) rfl []
theorem S_X4_fit {x : Int32} (hh : vH σ) (hm : vM σ) (hs : vS σ) (h : Q (some (.int (f_fit σ x))) σ) : xg_C (d + 3) mX4_fit [.ref 0, .int x] σ Q := by
  refine xg_C_of py_X4_fit (Nat.le_of_ble_eq_true rfl) ?_
  show xg_X none (d + 3) mX4_fit 0 [(0, .ref 0), (1, .int x)] [] σ Q
  obtain ⟨hm1, hm2⟩ := hm
  have loop : isT σ x = true → ∀ k i, i + k = miX σ → xg_X none (d + 3) mX4_fit 15 [(3, .int (nI i)), (2, .int (ftR σ x i)), (0, .ref 0), (1, .int x)] [] σ Q := by
    intro hT k
    induction k with
    | zero =>
      intro i h2
      obtain rfl : i = miX σ := by omega
      refine X_ildn0 16 dX4_fit_15 rfl rfl ?_
      refine X_aldn2 17 dX4_fit_16 rfl rfl ?_
      refine X_getA 16 20 dX4_fit_17 fl_X4_29 rfl rfl ?_
      refine X_getI 23 dX4_fit_20 fl_X4_150 rfl rfl ?_
      refine X_icge 52 26 dX4_fit_23 (by decide) rfl (fun c23 => ?_) (fun c23 => ?_)
      · refine X_aldn2 53 dX4_fit_52 rfl rfl ?_
        refine X_ildn3 54 dX4_fit_53 rfl rfl ?_
        refine X_iconst 0 55 dX4_fit_54 (by decide) rfl ?_
        refine X_iconst 0 56 dX4_fit_55 (by decide) rfl ?_
        refine X_callV3 4 59 dX4_fit_56 cw_X4_227 zk_X4_fitsSeen ⟨rfl, rfl⟩ rfl rfl rfl (S_X4_fitsSeen hs ?_)
        refine X_pu ?_
        refine X_ifeq 67 62 dX4_fit_59 (by decide) rfl (fun c59 => ?_) (fun c59 => ?_)
        · refine X_ildn1 68 dX4_fit_67 rfl rfl ?_
          refine X_iret dX4_fit_68 rfl ?_
          refine Qi h ?_
          grind [f_fit, b2i]
        · refine X_ildn1 63 dX4_fit_62 rfl rfl ?_
          refine X_ldc 16777216 65 dX4_fit_63 ci_X4_231 rfl ?_
          refine X_ior 66 dX4_fit_65 rfl ?_
          refine X_istn1 67 dX4_fit_66 rfl rfl rfl rfl ?_
          refine X_ildn1 68 dX4_fit_67 rfl rfl ?_
          refine X_iret dX4_fit_68 rfl ?_
          refine Qi h ?_
          grind [f_fit, b2i]
      · exact absurd (by rw [hm1]; exact nI_le (Nat.le_refl _) (by omega)) c23
    | succ k ih =>
      intro i h2
      refine X_ildn0 16 dX4_fit_15 rfl rfl ?_
      refine X_aldn2 17 dX4_fit_16 rfl rfl ?_
      refine X_getA 16 20 dX4_fit_17 fl_X4_29 rfl rfl ?_
      refine X_getI 23 dX4_fit_20 fl_X4_150 rfl rfl ?_
      refine X_icge 52 26 dX4_fit_23 (by decide) rfl (fun c23 => ?_) (fun c23 => ?_)
      · have c23 := leq c23 hm1 (by omega) (by omega)
        omega
      · refine X_aldn2 27 dX4_fit_26 rfl rfl ?_
        refine X_ildn3 28 dX4_fit_27 rfl rfl ?_
        refine X_ildn0 29 dX4_fit_28 rfl rfl ?_
        refine X_aldn2 30 dX4_fit_29 rfl rfl ?_
        refine X_ildn0 31 dX4_fit_30 rfl rfl ?_
        refine X_callV1 4 34 dX4_fit_31 cw_X4_224 zk_X4_goldEnd ⟨rfl, rfl⟩ rfl rfl rfl (S_X4_goldEnd hh ?_)
        refine X_pu ?_
        refine X_callV3 4 37 dX4_fit_34 cw_X4_227 zk_X4_fitsSeen ⟨rfl, rfl⟩ rfl rfl rfl (S_X4_fitsSeen hs ?_)
        refine X_pu ?_
        refine X_ifeq 46 40 dX4_fit_37 (by decide) rfl (fun c37 => ?_) (fun c37 => ?_)
        · refine X_inc0 1 49 dX4_fit_46 (by decide) rfl rfl rfl ?_
          refine X_goto 15 dX4_fit_49 (by decide) ?_
          refine xg_lv ?_ (ih (i + 1) (by omega))
          rw [nI_succ]
          grind [ftR, b2i]
        · refine X_ildn1 41 dX4_fit_40 rfl rfl ?_
          refine X_iconst 1 42 dX4_fit_41 (by decide) rfl ?_
          refine X_ildn0 43 dX4_fit_42 rfl rfl ?_
          refine X_ishl 44 dX4_fit_43 rfl ?_
          refine X_ior 45 dX4_fit_44 rfl ?_
          refine X_istn1 46 dX4_fit_45 rfl rfl rfl rfl ?_
          refine X_inc0 1 49 dX4_fit_46 (by decide) rfl rfl rfl ?_
          refine X_goto 15 dX4_fit_49 (by decide) ?_
          refine xg_lv ?_ (ih (i + 1) (by omega))
          rw [nI_succ]
          grind [ftR, b2i]
  refine X_aldn0 1 dX4_fit_0 rfl rfl ?_
  refine X_ildn1 2 dX4_fit_1 rfl rfl ?_
  refine X_callV1 4 5 dX4_fit_2 cw_X4_84 zk_X4_isThing ⟨rfl, rfl⟩ rfl rfl rfl (S_isT ?_)
  refine X_pu ?_
  refine X_ifne 11 8 dX4_fit_5 (by decide) rfl (fun c5 => ?_) (fun c5 => ?_)
  · refine X_iconst 0 12 dX4_fit_11 (by decide) rfl ?_
    refine X_istnN 13 dX4_fit_12 rfl rfl rfl rfl ?_
    refine X_iconst 0 14 dX4_fit_13 (by decide) rfl ?_
    refine X_istnN 15 dX4_fit_14 rfl rfl rfl rfl ?_
    exact loop (b2i_n.mp c5) (miX σ) 0 (by omega)
  · refine X_bipush (-2) 10 dX4_fit_8 (by decide) rfl ?_
    refine X_iret dX4_fit_10 rfl ?_
    refine Qi h ?_
    grind [f_fit, b2i]
theorem S_X4_cleanAnyway (hh : vH σ) (h : Q (some (.int (caX σ 12))) σ) : xg_C (d + 2) mX4_cleanAnyway [.ref 0] σ Q := by
  refine xg_C_of py_X4_cleanAnyway (Nat.le_of_ble_eq_true rfl) ?_
  show xg_X none (d + 2) mX4_cleanAnyway 0 [(0, .ref 0)] [] σ Q
  have loop : ∀ k i, i + k = 12 → xg_X none (d + 2) mX4_cleanAnyway 4 [(2, .int (nI i)), (1, .int (caX σ i)), (0, .ref 0)] [] σ Q := by
    intro k
    induction k with
    | zero =>
      intro i h2
      obtain rfl : i = 12 := by omega
      refine X_ildn0 5 dX4_cleanAnyway_4 rfl rfl ?_
      refine X_bipush 12 7 dX4_cleanAnyway_5 (by decide) rfl ?_
      refine X_icge 48 10 dX4_cleanAnyway_7 (by decide) rfl (fun c7 => ?_) (fun c7 => ?_)
      · refine X_ildn1 49 dX4_cleanAnyway_48 rfl rfl ?_
        refine X_iret dX4_cleanAnyway_49 rfl ?_
        exact h
      · exact absurd (by decide) c7
    | succ k ih =>
      intro i h2
      refine X_ildn0 5 dX4_cleanAnyway_4 rfl rfl ?_
      refine X_bipush 12 7 dX4_cleanAnyway_5 (by decide) rfl ?_
      refine X_icge 48 10 dX4_cleanAnyway_7 (by decide) rfl (fun c7 => ?_) (fun c7 => ?_)
      · have c7 := leq c7 (n := 12) (by decide) (by decide) (by omega)
        omega
      · refine X_aldn2 11 dX4_cleanAnyway_10 rfl rfl ?_
        refine X_getA 1 14 dX4_cleanAnyway_11 fl_X4_10 rfl rfl ?_
        refine X_aldn2 15 dX4_cleanAnyway_14 rfl rfl ?_
        refine X_getA 16 18 dX4_cleanAnyway_15 fl_X4_29 rfl rfl ?_
        refine X_getI 21 dX4_cleanAnyway_18 fl_X4_140 rfl rfl ?_
        refine X_aldn2 22 dX4_cleanAnyway_21 rfl rfl ?_
        refine X_getA 16 25 dX4_cleanAnyway_22 fl_X4_29 rfl rfl ?_
        refine X_getI 28 dX4_cleanAnyway_25 fl_X4_150 rfl rfl ?_
        refine X_ildn0 29 dX4_cleanAnyway_28 rfl rfl ?_
        refine X_iadd 30 dX4_cleanAnyway_29 rfl ?_
        refine X_callS3 33 dX4_cleanAnyway_30 cw_X4_143 zk_X4_handIn rfl rfl (S_X4_handIn hh ?_)
        refine X_pu ?_
        refine X_ifne 42 36 dX4_cleanAnyway_33 (by decide) rfl (fun c33 => ?_) (fun c33 => ?_)
        · refine X_inc0 1 45 dX4_cleanAnyway_42 (by decide) rfl rfl rfl ?_
          refine X_goto 4 dX4_cleanAnyway_45 (by decide) ?_
          refine xg_lv ?_ (ih (i + 1) (by omega))
          rw [nI_succ]
          grind [caX]
        · refine X_ildn1 37 dX4_cleanAnyway_36 rfl rfl ?_
          refine X_iconst 1 38 dX4_cleanAnyway_37 (by decide) rfl ?_
          refine X_ildn0 39 dX4_cleanAnyway_38 rfl rfl ?_
          refine X_ishl 40 dX4_cleanAnyway_39 rfl ?_
          refine X_ior 41 dX4_cleanAnyway_40 rfl ?_
          refine X_istn1 42 dX4_cleanAnyway_41 rfl rfl rfl rfl ?_
          refine X_inc0 1 45 dX4_cleanAnyway_42 (by decide) rfl rfl rfl ?_
          refine X_goto 4 dX4_cleanAnyway_45 (by decide) ?_
          refine xg_lv ?_ (ih (i + 1) (by omega))
          rw [nI_succ]
          grind [caX]
  refine X_iconst 0 1 dX4_cleanAnyway_0 (by decide) rfl ?_
  refine X_istnN 2 dX4_cleanAnyway_1 rfl rfl rfl rfl ?_
  refine X_iconst 0 3 dX4_cleanAnyway_2 (by decide) rfl ?_
  refine X_istnN 4 dX4_cleanAnyway_3 rfl rfl rfl rfl ?_
  exact loop 12 0 rfl
theorem S_X4_cleanBehind {b : Int32} (hh : vH σ) (h : Q (some (.int (cbX b (wX σ)))) σ) : xg_C d mX4_cleanBehind [.ref 0, .int b] σ Q := by
  refine xg_C_of py_X4_cleanBehind (Nat.le_of_ble_eq_true rfl) ?_
  show xg_X none d mX4_cleanBehind 0 [(0, .ref 0), (1, .int b)] [] σ Q
  obtain ⟨h6, w4, -, -⟩ := hh
  have loop : ∀ k i, i + k = wX σ → xg_X none d mX4_cleanBehind 4 [(3, .int (nI (i + 1))), (2, .int (cbX b i)), (0, .ref 0), (1, .int b)] [] σ Q := by
    intro k
    induction k with
    | zero =>
      intro i h2
      obtain rfl : i = wX σ := by omega
      refine X_ildn0 5 dX4_cleanBehind_4 rfl rfl ?_
      refine X_aldn2 6 dX4_cleanBehind_5 rfl rfl ?_
      refine X_getA 1 9 dX4_cleanBehind_6 fl_X4_10 rfl rfl ?_
      refine X_getI 12 dX4_cleanBehind_9 fl_X4_248 rfl rfl ?_
      refine X_icgt 27 15 dX4_cleanBehind_12 (by decide) rfl (fun c12 => ?_) (fun c12 => ?_)
      · refine X_ildn1 28 dX4_cleanBehind_27 rfl rfl ?_
        refine X_iret dX4_cleanBehind_28 rfl ?_
        exact h
      · exact absurd (by rw [h6]; exact nI_lt (by omega) (by omega)) c12
    | succ k ih =>
      intro i h2
      refine X_ildn0 5 dX4_cleanBehind_4 rfl rfl ?_
      refine X_aldn2 6 dX4_cleanBehind_5 rfl rfl ?_
      refine X_getA 1 9 dX4_cleanBehind_6 fl_X4_10 rfl rfl ?_
      refine X_getI 12 dX4_cleanBehind_9 fl_X4_248 rfl rfl ?_
      refine X_icgt 27 15 dX4_cleanBehind_12 (by decide) rfl (fun c12 => ?_) (fun c12 => ?_)
      · rw [h6] at c12
        exact absurd c12 (nI_nlt (by omega) (by omega))
      · refine X_ildn1 16 dX4_cleanBehind_15 rfl rfl ?_
        refine X_ildn3 17 dX4_cleanBehind_16 rfl rfl ?_
        refine X_ildn0 18 dX4_cleanBehind_17 rfl rfl ?_
        refine X_ishl 19 dX4_cleanBehind_18 rfl ?_
        refine X_ior 20 dX4_cleanBehind_19 rfl ?_
        refine X_istn1 21 dX4_cleanBehind_20 rfl rfl rfl rfl ?_
        refine X_inc0 1 24 dX4_cleanBehind_21 (by decide) rfl rfl rfl ?_
        refine X_goto 4 dX4_cleanBehind_24 (by decide) ?_
        exact xg_lv (by rw [nI_succ (i + 1), cbX]) (ih (i + 1) (by omega))
  refine X_iconst 0 1 dX4_cleanBehind_0 (by decide) rfl ?_
  refine X_istnN 2 dX4_cleanBehind_1 rfl rfl rfl rfl ?_
  refine X_iconst 1 3 dX4_cleanBehind_2 (by decide) rfl ?_
  refine X_istnN 4 dX4_cleanBehind_3 rfl rfl rfl rfl ?_
  exact loop (wX σ) 0 (by omega)
theorem S_X4_baths {x y : Int32} (hh : vH σ) (h : Q (some (.int (f_baths σ x y))) σ) : xg_C (d + 3) mX4_baths [.ref 0, .int x, .int y] σ Q := by
  refine xg_C_of py_X4_baths (Nat.le_of_ble_eq_true rfl) ?_
  show xg_X none (d + 3) mX4_baths 0 [(0, .ref 0), (1, .int x), (2, .int y)] [] σ Q
  have loop : ¬ (x < 0 ∨ 4096 ≤ x ∨ y < 0 ∨ 1 < y) → ∀ k s, s + k = 4096 → ∀ l7, xg_X none (d + 3) mX4_baths 41 (l7 ++ [(6, .int (nI s)), (5, .int (btR σ x s).2), (4, .int (btR σ x s).1), (3, .int (x &&& (caX σ 12 ^^^ (-1)))), (0, .ref 0), (1, .int x), (2, .int y)]) [] σ Q := by
    intro cy k
    induction k with
    | zero =>
      intro s h2 l7
      obtain rfl : s = 4096 := by omega
      refine xg_sub (lw := [(6, .int (nI 4096)), (5, .int (btR σ x 4096).2), (4, .int (btR σ x 4096).1), (3, .int (x &&& (caX σ 12 ^^^ (-1)))), (0, .ref 0), (1, .int x), (2, .int y)]) (fun q hq => List.mem_append_right _ hq) ?_
      have hf : f_baths σ x y = if y = 0 then (btR σ x 4096).1 else (btR σ x 4096).2 := by rw [f_baths, if_neg cy]
      rw [hf] at h
      generalize btR σ x 4096 = p at h ⊢
      refine X_ild0 43 dX4_baths_41 rfl ?_
      refine X_sipush 4096 46 dX4_baths_43 (by decide) rfl ?_
      refine X_icge 106 49 dX4_baths_46 (by decide) rfl (fun c46 => ?_) (fun c46 => ?_)
      · refine X_ildn6 107 dX4_baths_106 rfl rfl ?_
        refine X_ifne 115 110 dX4_baths_107 (by decide) rfl (fun c107 => ?_) (fun c107 => ?_)
        · refine X_ild1 117 dX4_baths_115 rfl ?_
          refine X_iret dX4_baths_117 rfl ?_
          exact Qi h (by grind)
        · refine X_ild2 112 dX4_baths_110 rfl ?_
          refine X_goto 117 dX4_baths_112 (by decide) ?_
          refine X_iret dX4_baths_117 rfl ?_
          exact Qi h (by grind)
      · exact absurd (by decide) c46
    | succ k ih =>
      intro s h2 l7
      refine xg_sub (lw := [(6, .int (nI s)), (5, .int (btR σ x s).2), (4, .int (btR σ x s).1), (3, .int (x &&& (caX σ 12 ^^^ (-1)))), (0, .ref 0), (1, .int x), (2, .int y)]) (fun q hq => List.mem_append_right _ hq) ?_
      refine X_ild0 43 dX4_baths_41 rfl ?_
      refine X_sipush 4096 46 dX4_baths_43 (by decide) rfl ?_
      refine X_icge 106 49 dX4_baths_46 (by decide) rfl (fun c46 => ?_) (fun c46 => ?_)
      · have c46 := leq c46 (n := 4096) (by decide) (by decide) (by omega)
        omega
      · refine X_ild0 51 dX4_baths_49 rfl ?_
        refine X_callS1 54 dX4_baths_51 cw_X4_197 zk_J6_bitCount_0f7a4 rfl rfl (S_J6_bitCount_0f7a4 ?_)
        refine X_pu ?_
        refine X_istN 56 dX4_baths_54 rfl rfl rfl ?_
        refine X_ild1 58 dX4_baths_56 rfl ?_
        refine X_ildn6 59 dX4_baths_58 rfl rfl ?_
        refine X_iand 60 dX4_baths_59 rfl ?_
        refine X_ifne 100 63 dX4_baths_60 (by decide) rfl (fun c60 => ?_) (fun c60 => ?_)
        · refine X_inc1 1 103 dX4_baths_100 (by decide) rfl rfl rfl ?_
          refine X_goto 41 dX4_baths_103 (by decide) ?_
          refine xg_lv ?_ (ih (s + 1) (by omega) [(7, .int (bcJ (nI s)))])
          rw [nI_succ, btR]
          (try simp only [i_nlt, i_nle] at *)
          grind
        · refine X_ild3 65 dX4_baths_63 rfl ?_
          refine X_iconst (-1) 66 dX4_baths_65 (by decide) rfl ?_
          refine X_iceq 79 69 dX4_baths_66 (by decide) rfl (fun c66 => ?_) (fun c66 => ?_)
          · refine X_ildn4 80 dX4_baths_79 rfl rfl ?_
            refine X_aldn5 81 dX4_baths_80 rfl rfl ?_
            refine X_ild1 83 dX4_baths_81 rfl ?_
            refine X_callV1 4 86 dX4_baths_83 cw_X4_235 zk_X4_cleanBehind ⟨rfl, rfl⟩ rfl rfl rfl (S_X4_cleanBehind hh ?_)
            refine X_pu ?_
            refine X_iconst (-1) 87 dX4_baths_86 (by decide) rfl ?_
            refine X_ixor 88 dX4_baths_87 rfl ?_
            refine X_iand 89 dX4_baths_88 rfl ?_
            refine X_ifne 100 92 dX4_baths_89 (by decide) rfl (fun c89 => ?_) (fun c89 => ?_)
            · refine X_inc1 1 103 dX4_baths_100 (by decide) rfl rfl rfl ?_
              refine X_goto 41 dX4_baths_103 (by decide) ?_
              refine xg_lv ?_ (ih (s + 1) (by omega) [(7, .int (bcJ (nI s)))])
              rw [nI_succ, btR]
              (try simp only [i_nlt, i_nle] at *)
              grind
            · refine X_ild0 94 dX4_baths_92 rfl ?_
              refine X_ist3 96 dX4_baths_94 rfl rfl rfl ?_
              refine X_ild1 98 dX4_baths_96 rfl ?_
              refine X_ist2 100 dX4_baths_98 rfl rfl rfl ?_
              refine X_inc1 1 103 dX4_baths_100 (by decide) rfl rfl rfl ?_
              refine X_goto 41 dX4_baths_103 (by decide) ?_
              refine xg_lv ?_ (ih (s + 1) (by omega) [(7, .int (bcJ (nI s)))])
              rw [nI_succ, btR]
              (try simp only [i_nlt, i_nle] at *)
              grind
          · refine X_ild0 71 dX4_baths_69 rfl ?_
            refine X_ild3 73 dX4_baths_71 rfl ?_
            refine X_iclt 79 76 dX4_baths_73 (by decide) rfl (fun c73 => ?_) (fun c73 => ?_)
            · refine X_ildn4 80 dX4_baths_79 rfl rfl ?_
              refine X_aldn5 81 dX4_baths_80 rfl rfl ?_
              refine X_ild1 83 dX4_baths_81 rfl ?_
              refine X_callV1 4 86 dX4_baths_83 cw_X4_235 zk_X4_cleanBehind ⟨rfl, rfl⟩ rfl rfl rfl (S_X4_cleanBehind hh ?_)
              refine X_pu ?_
              refine X_iconst (-1) 87 dX4_baths_86 (by decide) rfl ?_
              refine X_ixor 88 dX4_baths_87 rfl ?_
              refine X_iand 89 dX4_baths_88 rfl ?_
              refine X_ifne 100 92 dX4_baths_89 (by decide) rfl (fun c89 => ?_) (fun c89 => ?_)
              · refine X_inc1 1 103 dX4_baths_100 (by decide) rfl rfl rfl ?_
                refine X_goto 41 dX4_baths_103 (by decide) ?_
                refine xg_lv ?_ (ih (s + 1) (by omega) [(7, .int (bcJ (nI s)))])
                rw [nI_succ, btR]
                (try simp only [i_nlt, i_nle] at *)
                grind
              · refine X_ild0 94 dX4_baths_92 rfl ?_
                refine X_ist3 96 dX4_baths_94 rfl rfl rfl ?_
                refine X_ild1 98 dX4_baths_96 rfl ?_
                refine X_ist2 100 dX4_baths_98 rfl rfl rfl ?_
                refine X_inc1 1 103 dX4_baths_100 (by decide) rfl rfl rfl ?_
                refine X_goto 41 dX4_baths_103 (by decide) ?_
                refine xg_lv ?_ (ih (s + 1) (by omega) [(7, .int (bcJ (nI s)))])
                rw [nI_succ, btR]
                (try simp only [i_nlt, i_nle] at *)
                grind
            · refine X_goto 100 dX4_baths_76 (by decide) ?_
              refine X_inc1 1 103 dX4_baths_100 (by decide) rfl rfl rfl ?_
              refine X_goto 41 dX4_baths_103 (by decide) ?_
              refine xg_lv ?_ (ih (s + 1) (by omega) [(7, .int (bcJ (nI s)))])
              rw [nI_succ, btR]
              (try simp only [i_nlt, i_nle] at *)
              grind
  refine X_ildn1 1 dX4_baths_0 rfl rfl ?_
  refine X_iflt 20 4 dX4_baths_1 (by decide) rfl (fun c1 => ?_) (fun c1 => ?_)
  · refine X_bipush (-3) 22 dX4_baths_20 (by decide) rfl ?_
    refine X_iret dX4_baths_22 rfl ?_
    refine Qi h ?_
    (try simp only [i_nlt, i_nle] at *)
    grind [f_baths]
  · refine X_ildn1 5 dX4_baths_4 rfl rfl ?_
    refine X_sipush 4096 8 dX4_baths_5 (by decide) rfl ?_
    refine X_icge 20 11 dX4_baths_8 (by decide) rfl (fun c8 => ?_) (fun c8 => ?_)
    · refine X_bipush (-3) 22 dX4_baths_20 (by decide) rfl ?_
      refine X_iret dX4_baths_22 rfl ?_
      refine Qi h ?_
      (try simp only [i_nlt, i_nle] at *)
      grind [f_baths]
    · refine X_ildn2 12 dX4_baths_11 rfl rfl ?_
      refine X_iflt 20 15 dX4_baths_12 (by decide) rfl (fun c12 => ?_) (fun c12 => ?_)
      · refine X_bipush (-3) 22 dX4_baths_20 (by decide) rfl ?_
        refine X_iret dX4_baths_22 rfl ?_
        refine Qi h ?_
        (try simp only [i_nlt, i_nle] at *)
        grind [f_baths]
      · refine X_ildn2 16 dX4_baths_15 rfl rfl ?_
        refine X_iconst 1 17 dX4_baths_16 (by decide) rfl ?_
        refine X_icle 23 20 dX4_baths_17 (by decide) rfl (fun c17 => ?_) (fun c17 => ?_)
        · refine X_ildn1 24 dX4_baths_23 rfl rfl ?_
          refine X_aldn0 25 dX4_baths_24 rfl rfl ?_
          refine X_callV0 4 28 dX4_baths_25 cw_X4_232 zk_X4_cleanAnyway ⟨rfl, rfl⟩ rfl rfl rfl (S_X4_cleanAnyway hh ?_)
          refine X_pu ?_
          refine X_iconst (-1) 29 dX4_baths_28 (by decide) rfl ?_
          refine X_ixor 30 dX4_baths_29 rfl ?_
          refine X_iand 31 dX4_baths_30 rfl ?_
          refine X_istnN 32 dX4_baths_31 rfl rfl rfl rfl ?_
          refine X_iconst (-1) 33 dX4_baths_32 (by decide) rfl ?_
          refine X_istN 35 dX4_baths_33 rfl rfl rfl ?_
          refine X_iconst (-1) 36 dX4_baths_35 (by decide) rfl ?_
          refine X_istN 38 dX4_baths_36 rfl rfl rfl ?_
          refine X_iconst 0 39 dX4_baths_38 (by decide) rfl ?_
          refine X_istN 41 dX4_baths_39 rfl rfl rfl ?_
          exact loop (by (try simp only [i_nlt, i_nle] at *); grind) 4096 0 rfl []
        · refine X_bipush (-3) 22 dX4_baths_20 (by decide) rfl ?_
          refine X_iret dX4_baths_22 rfl ?_
          refine Qi h ?_
          (try simp only [i_nlt, i_nle] at *)
          grind [f_baths]
end GT4
