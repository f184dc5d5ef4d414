/-! the reference: deeds -/
theorem isTm_of {σ : xm_M} {x : Int32} (hv : vXm σ) (h : isTm σ x = true) : ∃ i, i < nM σ ∧ x = nI i := by
  simp only [isTm, inB, Bool.and_eq_true, decide_eq_true_eq] at h
  obtain ⟨h0, h1⟩ := h
  obtain ⟨hn, hn8⟩ := hv
  rw [hn] at h1
  by_cases z : nM σ = 0
  · rw [z] at h1
    exact absurd (Int32.le_trans h0 h1) (by decide)
  · rw [show (1 : Int32) = nI 1 by decide, pk_sub (by omega)] at h1
    obtain ⟨i, hi, e⟩ := le_ex (nM σ - 1) rfl (by omega) h0 h1
    exact ⟨i, by omega, e⟩
def rkM (σ : xm_M) (i : Nat) : Int32 := if σ.1 41 i = 2 then 0 else σ.1 37 (4 * i + 1)
def tlM (σ : xm_M) (f : Int32) : Nat → Int32
  | 0 => -1
  | i + 1 => if σ.1 37 (4 * i) = 1 ∧ σ.1 37 (4 * i + 3) = f ∧ isK σ (nI i) (tkMm σ) = false ∧ thM σ 41 i = true then (if rkM σ i < (if tlM σ f i = -1 then 99 else rkM σ (ixN (tlM σ f i))) then nI i else tlM σ f i) else tlM σ f i
theorem tlM_in {σ : xm_M} {f : Int32} : ∀ n, tlM σ f n = -1 ∨ ∃ t, t < n ∧ tlM σ f n = nI t
  | 0 => Or.inl rfl
  | n + 1 => by
    have ih := tlM_in (σ := σ) (f := f) n
    have old : tlM σ f n = -1 ∨ ∃ t, t < n + 1 ∧ tlM σ f n = nI t := ih.imp id (fun ⟨t, h1, h2⟩ => ⟨t, by omega, h2⟩)
    rw [tlM]
    generalize (if tlM σ f n = -1 then (99 : Int32) else rkM σ (ixN (tlM σ f n))) = r
    split
    · split
      · exact Or.inr ⟨n, by omega, rfl⟩
      · exact old
    · exact old
def g_thing (σ : xm_M) (x y : Int32) : Int32 := if isTm σ x = false then -2 else if y = 0 then σ.1 37 (4 * ixN x) else if y = 1 then σ.1 37 (4 * ixN x + 1) else if y = 2 then σ.1 37 (4 * ixN x + 2) else if y = 3 then σ.1 37 (4 * ixN x + 3) else if y = 4 then σ.1 41 (ixN x) else if y = 5 then b2i (hb (σ.1 41 8) x) else if y = 6 then prM σ 41 (ixN x) else -3
def g_as (σ : xm_M) (x y : Int32) : Int32 := if isTm σ x = false then -2 else if inB y 0 5 = false then -3 else if y = 0 ∨ (y = 1 ∧ ¬ σ.1 37 (4 * ixN x) = 3) ∨ (¬ y = 1 ∧ σ.1 37 (4 * ixN x) = y - 1) then wM σ 41 (ixN x) else -4
def g_floor (σ : xm_M) (x y : Int32) : Int32 := if inB x 0 2 = false then -2 else if y = 0 then σ.1 38 (ixN x) else if y = 1 then ldM σ 41 x (nM σ) else if y = 2 then b2i (hb (σ.1 41 9) x) else if y = 3 then tlM σ x (nM σ) else -3
def g_hand (σ : xm_M) (x : Int32) : Int32 := if inB x 0 99 then hM σ (σ.1 41 11) x else -3
def lM (σ : xm_M) : Nat := (σ.1 36 6).toNatClampNeg
def vTm (σ : xm_M) : Prop := σ.1 36 6 = nI (lM σ) ∧ lM σ ≤ 160
def g_write (σ : xm_M) (x : Int32) : Int32 × xm_M := if inB x 0 255 = false then (-3, σ) else if σ.1 36 6 = 160 then (-5, σ) else (σ.1 36 6 + 1, xm_set (xm_set σ 39 (lM σ) x) 36 6 (σ.1 36 6 + 1))
def bkM (σ : xm_M) : Nat := (σ.1 36 22).toNatClampNeg
def vBk (σ : xm_M) : Prop := σ.1 36 22 = nI (bkM σ) ∧ bkM σ ≤ 8
def shM (σ : xm_M) (n : Nat) : xm_M := (fun c j => if c = 45 ∧ j < n then σ.1 45 (j + 12) else σ.1 c j, σ.2)
def rotM (σ : xm_M) : xm_M := if σ.1 36 22 = 8 then xm_set (shM σ 84) 36 22 (σ.1 36 22 - 1) else σ
def notM (σ : xm_M) : xm_M := xm_set (cpM (rotM σ) 41 0 45 (12 * bkM (rotM σ)) 12) 36 22 ((rotM σ).1 36 22 + 1)
def tcM (σ : xm_M) (t : Nat) : xm_M :=
  if hM σ (σ.1 41 11) (σ.1 41 10) = 2 ∨ (hM σ (σ.1 41 11) (σ.1 41 10) = 1 ∧ σ.1 36 5 ≤ σ.1 41 10) then xm_set σ 41 t 2
  else if hM σ (σ.1 41 11) (σ.1 41 10) = 1 ∧ σ.1 41 t = 0 then xm_set σ 41 t 1 else σ
def brM (σ : xm_M) (s k : Nat) : Int32 := vBrk (σ.1 s 9) (fun f => ldM σ s (nI f) (nM σ)) (σ.1 38) k
def noM (σ : xm_M) (s n : Nat) : xm_M := (fun c j => if c = s ∧ j < n ∧ σ.1 s j = 1 then 0 else σ.1 c j, σ.2)
def ps1 (σ : xm_M) (s : Nat) : xm_M := xm_set (xm_set σ s 9 (brM σ s 3)) s 10 (σ.1 s 10 + 1)
def psM (σ : xm_M) (s : Nat) : xm_M := if σ.1 s 10 + 1 = σ.1 36 5 then noM (ps1 σ s) s (nM σ) else ps1 σ s
section REF2
variable {d : Nat} {σ : xm_M} {Q : Option Value → xm_M → Prop}
theorem S_X5_toolOf {f : Int32} (hv : vXm σ) (hk : vTk σ) (h : Q (some (.int (tlM σ f (nM σ)))) σ) : xg_C (d + 2) mX5_toolOf [.ref 36, .int f] σ Q := by
  refine xg_C_of py_X5_toolOf (Nat.le_of_ble_eq_true rfl) ?_
  show xg_X none (d + 2) mX5_toolOf 0 [(0, .ref 36), (1, .int f)] [] σ Q
  obtain ⟨hn, hn8⟩ := hv
  have loop : ∀ k i, i + k = nM σ → ∀ lx, xg_X none (d + 2) mX5_toolOf 4 (lx ++ [(3, .int (nI i)), (2, .int (tlM σ f i)), (0, .ref 36), (1, .int f)]) [] σ Q := by
    intro k
    induction k with
    | zero =>
      intro i h2 lx
      obtain rfl : i = nM σ := by omega
      refine xg_sub (lw := [(3, .int (nI (nM σ))), (2, .int (tlM σ f (nM σ))), (0, .ref 36), (1, .int f)]) (fun q hq => List.mem_append_right _ hq) ?_
      refine X_ildn0 5 dX5_toolOf_4 rfl rfl ?_
      refine X_aldn2 6 dX5_toolOf_5 rfl rfl ?_
      refine X_getI 9 dX5_toolOf_6 fl_X5_72 rfl rfl ?_
      refine X_icge 143 12 dX5_toolOf_9 (by decide) rfl (fun c9 => ?_) (fun c9 => ?_)
      · refine X_ildn1 144 dX5_toolOf_143 rfl rfl ?_
        refine X_iret dX5_toolOf_144 rfl ?_
        exact h
      · exact absurd (by rw [hn]; exact nI_le (Nat.le_refl _) (by omega)) c9
    | succ k ih =>
      intro i h2 lx
      refine xg_sub (lw := [(3, .int (nI i)), (2, .int (tlM σ f i)), (0, .ref 36), (1, .int f)]) (fun q hq => List.mem_append_right _ hq) ?_
      have hi8 : i < 8 := by omega
      have nxt : ∀ (v : Int32) lx, tlM σ f (i + 1) = v → xg_X none (d + 2) mX5_toolOf 137 (lx ++ [(3, .int (nI i)), (2, .int v), (0, .ref 36), (1, .int f)]) [] σ Q := by
        intro v lx e
        refine xg_sub (lw := [(3, .int (nI i)), (2, .int v), (0, .ref 36), (1, .int f)]) (fun q hq => List.mem_append_right _ hq) ?_
        refine X_inc0 1 140 dX5_toolOf_137 (by decide) rfl rfl rfl ?_
        refine X_goto 4 dX5_toolOf_140 (by decide) ?_
        exact xg_lv (by rw [nI_succ, e]; rfl) (ih (i + 1) (by omega) [])
      rw [tlM] at nxt
      have cmp : (σ.1 37 (4 * i) = 1 ∧ σ.1 37 (4 * i + 3) = f ∧ isK σ (nI i) (tkMm σ) = false ∧ thM σ 41 i = true) → ∀ r w : Int32, r = rkM σ i → w = (if tlM σ f i = -1 then 99 else rkM σ (ixN (tlM σ f i))) → ∀ z, xg_X none (d + 2) mX5_toolOf 122 [(5, .int r), (4, .int z), (3, .int (nI i)), (2, .int (tlM σ f i)), (0, .ref 36), (1, .int f)] [.int w] σ Q := by
        intro ec r w er ew z
        rw [if_pos ec] at nxt
        refine X_istN 124 dX5_toolOf_122 rfl rfl rfl ?_
        refine X_ild1 126 dX5_toolOf_124 rfl ?_
        refine X_ild0 128 dX5_toolOf_126 rfl ?_
        refine X_icge 135 131 dX5_toolOf_128 (by decide) rfl (fun c128 => ?_) (fun c128 => ?_)
        · refine X_ildn4 136 dX5_toolOf_135 rfl rfl ?_
          refine X_istn4 137 dX5_toolOf_136 rfl rfl rfl rfl ?_
          refine nxt _ [_, _, _] ?_
          rw [← er, ← ew, if_neg (by rw [i_nlt]; exact c128)]
        · refine X_ildn3 132 dX5_toolOf_131 rfl rfl ?_
          refine X_goto 136 dX5_toolOf_132 (by decide) ?_
          refine X_istn4 137 dX5_toolOf_136 rfl rfl rfl rfl ?_
          refine nxt _ [_, _, _] ?_
          rw [← er, ← ew, if_pos (by rw [i_nle] at c128; exact c128)]
      have rnk : (σ.1 37 (4 * i) = 1 ∧ σ.1 37 (4 * i + 3) = f ∧ isK σ (nI i) (tkMm σ) = false ∧ thM σ 41 i = true) → ∀ r : Int32, r = rkM σ i → ∀ z, xg_X none (d + 2) mX5_toolOf 86 [(4, .int z), (3, .int (nI i)), (2, .int (tlM σ f i)), (0, .ref 36), (1, .int f)] [.int r] σ Q := by
        intro ec r er z
        refine X_istN 88 dX5_toolOf_86 rfl rfl rfl ?_
        refine X_ildn3 89 dX5_toolOf_88 rfl rfl ?_
        refine X_iconst (-1) 90 dX5_toolOf_89 (by decide) rfl ?_
        refine X_icne 98 93 dX5_toolOf_90 (by decide) rfl (fun c90 => ?_) (fun c90 => ?_)
        · obtain ⟨t, ht, et⟩ := (tlM_in i).resolve_left c90
          have e2 : ixN (tlM σ f i) = t := by rw [et, ixN_nI (by omega)]
          refine X_aldn4 99 dX5_toolOf_98 rfl rfl ?_
          refine X_getA 41 102 dX5_toolOf_99 fl_X5_32 rfl rfl ?_
          refine X_ildn3 103 dX5_toolOf_102 rfl rfl ?_
          refine X_ialk t 104 dX5_toolOf_103 rfl rfl et (show t < 12 by omega) ?_
          refine X_iconst 2 105 dX5_toolOf_104 (by decide) rfl ?_
          refine X_icne 112 108 dX5_toolOf_105 (by decide) rfl (fun c105 => ?_) (fun c105 => ?_)
          · refine X_aldn4 113 dX5_toolOf_112 rfl rfl ?_
            refine X_getA 37 116 dX5_toolOf_113 fl_X5_7 rfl rfl ?_
            refine X_iconst 4 117 dX5_toolOf_116 (by decide) rfl ?_
            refine X_ildn3 118 dX5_toolOf_117 rfl rfl ?_
            refine X_imul 119 dX5_toolOf_118 rfl ?_
            refine X_iconst 1 120 dX5_toolOf_119 (by decide) rfl ?_
            refine X_iadd 121 dX5_toolOf_120 rfl ?_
            refine X_ialk (4 * t + 1) 122 dX5_toolOf_121 rfl rfl (by rw [et]; exact i41 t) (show 4 * t + 1 < 32 by omega) ?_
            refine cmp ec r _ er ?_ z
            rw [if_neg c90, e2, rkM, if_neg c105]
          · refine X_iconst 0 109 dX5_toolOf_108 (by decide) rfl ?_
            refine X_goto 122 dX5_toolOf_109 (by decide) ?_
            refine cmp ec r _ er ?_ z
            rw [if_neg c90, e2, rkM, if_pos c105]
        · refine X_bipush 99 95 dX5_toolOf_93 (by decide) rfl ?_
          refine X_goto 122 dX5_toolOf_95 (by decide) ?_
          refine cmp ec r _ er ?_ z
          rw [if_pos c90]
      have may : ∀ w : Int32, w = b2i (decide (σ.1 37 (4 * i) = 1 ∧ σ.1 37 (4 * i + 3) = f ∧ isK σ (nI i) (tkMm σ) = false ∧ thM σ 41 i = true)) → xg_X none (d + 2) mX5_toolOf 55 [(3, .int (nI i)), (2, .int (tlM σ f i)), (0, .ref 36), (1, .int f)] [.int w] σ Q := by
        intro w ew
        refine X_istN 57 dX5_toolOf_55 rfl rfl rfl ?_
        refine X_ild0 59 dX5_toolOf_57 rfl ?_
        refine X_ifeq 137 62 dX5_toolOf_59 (by decide) rfl (fun c59 => ?_) (fun c59 => ?_)
        · rw [ew, b2i_0, decide_eq_false_iff_not] at c59
          refine nxt _ [_] ?_
          rw [if_neg c59]
        · rw [ew, b2i_n, decide_eq_true_eq] at c59
          refine X_aldn3 63 dX5_toolOf_62 rfl rfl ?_
          refine X_getA 41 66 dX5_toolOf_63 fl_X5_32 rfl rfl ?_
          refine X_ildn1 67 dX5_toolOf_66 rfl rfl ?_
          refine X_ialk i 68 dX5_toolOf_67 rfl rfl rfl (show i < 12 by omega) ?_
          refine X_iconst 2 69 dX5_toolOf_68 (by decide) rfl ?_
          refine X_icne 76 72 dX5_toolOf_69 (by decide) rfl (fun c69 => ?_) (fun c69 => ?_)
          · refine X_aldn3 77 dX5_toolOf_76 rfl rfl ?_
            refine X_getA 37 80 dX5_toolOf_77 fl_X5_7 rfl rfl ?_
            refine X_iconst 4 81 dX5_toolOf_80 (by decide) rfl ?_
            refine X_ildn1 82 dX5_toolOf_81 rfl rfl ?_
            refine X_imul 83 dX5_toolOf_82 rfl ?_
            refine X_iconst 1 84 dX5_toolOf_83 (by decide) rfl ?_
            refine X_iadd 85 dX5_toolOf_84 rfl ?_
            refine X_ialk (4 * i + 1) 86 dX5_toolOf_85 rfl rfl (i41 i) (show 4 * i + 1 < 32 by omega) ?_
            exact rnk c59 _ (by rw [rkM, if_neg c69]) _
          · refine X_iconst 0 73 dX5_toolOf_72 (by decide) rfl ?_
            refine X_goto 86 dX5_toolOf_73 (by decide) ?_
            exact rnk c59 _ (by rw [rkM, if_pos c69]) _
      refine X_ildn0 5 dX5_toolOf_4 rfl rfl ?_
      refine X_aldn2 6 dX5_toolOf_5 rfl rfl ?_
      refine X_getI 9 dX5_toolOf_6 fl_X5_72 rfl rfl ?_
      refine X_icge 143 12 dX5_toolOf_9 (by decide) rfl (fun c9 => ?_) (fun c9 => ?_)
      · have c9 := leq c9 hn (by omega) (by omega)
        omega
      · refine X_aldn2 13 dX5_toolOf_12 rfl rfl ?_
        refine X_ildn0 14 dX5_toolOf_13 rfl rfl ?_
        refine X_callV1 5 17 dX5_toolOf_14 cw_X5_199 zk_X5_kindOf ⟨rfl, rfl⟩ rfl rfl rfl (S_X5_kindOf hi8 ?_)
        refine X_pu ?_
        refine X_iconst 1 18 dX5_toolOf_17 (by decide) rfl ?_
        refine X_icne 54 21 dX5_toolOf_18 (by decide) rfl (fun c18 => ?_) (fun c18 => ?_)
        · refine X_iconst 0 55 dX5_toolOf_54 (by decide) rfl ?_
          refine may _ ?_
          grind [b2i]
        · refine X_aldn2 22 dX5_toolOf_21 rfl rfl ?_
          refine X_ildn0 23 dX5_toolOf_22 rfl rfl ?_
          refine X_callV1 5 26 dX5_toolOf_23 cw_X5_181 zk_X5_floorOf ⟨rfl, rfl⟩ rfl rfl rfl (S_X5_floorOf hi8 ?_)
          refine X_pu ?_
          refine X_ildn3 27 dX5_toolOf_26 rfl rfl ?_
          refine X_icne 54 30 dX5_toolOf_27 (by decide) rfl (fun c27 => ?_) (fun c27 => ?_)
          · refine X_iconst 0 55 dX5_toolOf_54 (by decide) rfl ?_
            refine may _ ?_
            grind [b2i]
          · refine X_aldn2 31 dX5_toolOf_30 rfl rfl ?_
            refine X_ildn0 32 dX5_toolOf_31 rfl rfl ?_
            refine X_callV1 5 35 dX5_toolOf_32 cw_X5_202 zk_X5_isTask ⟨rfl, rfl⟩ rfl rfl rfl (S_X5_isTask hk ?_)
            refine X_pu ?_
            refine X_ifne 54 38 dX5_toolOf_35 (by decide) rfl (fun c35 => ?_) (fun c35 => ?_)
            · refine X_iconst 0 55 dX5_toolOf_54 (by decide) rfl ?_
              refine may _ ?_
              grind [b2i]
            · refine X_aldn2 39 dX5_toolOf_38 rfl rfl ?_
              refine X_aldn2 40 dX5_toolOf_39 rfl rfl ?_
              refine X_getA 41 43 dX5_toolOf_40 fl_X5_32 rfl rfl ?_
              refine X_ildn0 44 dX5_toolOf_43 rfl rfl ?_
              refine X_callV2 5 47 dX5_toolOf_44 cw_X5_189 zk_X5_isThere ⟨rfl, rfl⟩ rfl rfl rfl (S_X5_isThere (Or.inl rfl) hi8 ?_)
              refine X_pu ?_
              refine X_ifeq 54 50 dX5_toolOf_47 (by decide) rfl (fun c47 => ?_) (fun c47 => ?_)
              · refine X_iconst 0 55 dX5_toolOf_54 (by decide) rfl ?_
                refine may _ ?_
                grind [b2i]
              · refine X_iconst 1 51 dX5_toolOf_50 (by decide) rfl ?_
                refine X_goto 55 dX5_toolOf_51 (by decide) ?_
                refine may _ ?_
                grind [b2i]
  refine X_iconst (-1) 1 dX5_toolOf_0 (by decide) rfl ?_
  refine X_istnN 2 dX5_toolOf_1 rfl rfl rfl rfl ?_
  refine X_iconst 0 3 dX5_toolOf_2 (by decide) rfl ?_
  refine X_istnN 4 dX5_toolOf_3 rfl rfl rfl rfl ?_
  exact loop (nM σ) 0 (by omega) []
theorem S_X5_thing {x y : Int32} (hv : vXm σ) (h : Q (some (.int (g_thing σ x y))) σ) : xg_C (d + 3) mX5_thing [.ref 36, .int x, .int y] σ Q := by
  refine xg_C_of py_X5_thing (Nat.le_of_ble_eq_true rfl) ?_
  show xg_X none (d + 3) mX5_thing 0 [(0, .ref 36), (1, .int x), (2, .int y)] [] σ Q
  have hn8 := hv.2
  refine X_aldn0 1 dX5_thing_0 rfl rfl ?_
  refine X_ildn1 2 dX5_thing_1 rfl rfl ?_
  refine X_callV1 5 5 dX5_thing_2 cw_X5_196 zk_X5_isThing ⟨rfl, rfl⟩ rfl rfl rfl (S_X5_isThing ?_)
  refine X_pu ?_
  refine X_ifne 11 8 dX5_thing_5 (by decide) rfl (fun c5 => ?_) (fun c5 => ?_)
  · rw [b2i_n] at c5
    obtain ⟨i, hi, rfl⟩ := isTm_of hv c5
    have e := ixN_nI (i := i) (by omega)
    refine X_ildn2 12 dX5_thing_11 rfl rfl ?_
    by_cases y12_0 : y = 0
    · refine X_tsw 56 dX5_thing_12 (Or.inr (by rw [y12_0]; exact ⟨by decide, by decide, 44, by decide, by decide⟩)) ?_
      refine X_aldn0 57 dX5_thing_56 rfl rfl ?_
      refine X_getA 37 60 dX5_thing_57 fl_X5_7 rfl rfl ?_
      refine X_iconst 4 61 dX5_thing_60 (by decide) rfl ?_
      refine X_ildn1 62 dX5_thing_61 rfl rfl ?_
      refine X_imul 63 dX5_thing_62 rfl ?_
      refine X_ildn2 64 dX5_thing_63 rfl rfl ?_
      refine X_iadd 65 dX5_thing_64 rfl ?_
      refine X_ialk (4 * i) 66 dX5_thing_65 rfl rfl (by rw [y12_0, i40]; exact nI_add _ 0) (show 4 * i < 32 by omega) ?_
      refine X_iret dX5_thing_66 rfl ?_
      refine Qi h ?_
      grind [g_thing, b2i]
    by_cases y12_1 : y = 1
    · refine X_tsw 56 dX5_thing_12 (Or.inr (by rw [y12_1]; exact ⟨by decide, by decide, 44, by decide, by decide⟩)) ?_
      refine X_aldn0 57 dX5_thing_56 rfl rfl ?_
      refine X_getA 37 60 dX5_thing_57 fl_X5_7 rfl rfl ?_
      refine X_iconst 4 61 dX5_thing_60 (by decide) rfl ?_
      refine X_ildn1 62 dX5_thing_61 rfl rfl ?_
      refine X_imul 63 dX5_thing_62 rfl ?_
      refine X_ildn2 64 dX5_thing_63 rfl rfl ?_
      refine X_iadd 65 dX5_thing_64 rfl ?_
      refine X_ialk (4 * i + 1) 66 dX5_thing_65 rfl rfl (by rw [y12_1, i41]) (show 4 * i + 1 < 32 by omega) ?_
      refine X_iret dX5_thing_66 rfl ?_
      refine Qi h ?_
      grind [g_thing, b2i]
    by_cases y12_2 : y = 2
    · refine X_tsw 56 dX5_thing_12 (Or.inr (by rw [y12_2]; exact ⟨by decide, by decide, 44, by decide, by decide⟩)) ?_
      refine X_aldn0 57 dX5_thing_56 rfl rfl ?_
      refine X_getA 37 60 dX5_thing_57 fl_X5_7 rfl rfl ?_
      refine X_iconst 4 61 dX5_thing_60 (by decide) rfl ?_
      refine X_ildn1 62 dX5_thing_61 rfl rfl ?_
      refine X_imul 63 dX5_thing_62 rfl ?_
      refine X_ildn2 64 dX5_thing_63 rfl rfl ?_
      refine X_iadd 65 dX5_thing_64 rfl ?_
      refine X_ialk (4 * i + 2) 66 dX5_thing_65 rfl rfl (by rw [y12_2, i42]) (show 4 * i + 2 < 32 by omega) ?_
      refine X_iret dX5_thing_66 rfl ?_
      refine Qi h ?_
      grind [g_thing, b2i]
    by_cases y12_3 : y = 3
    · refine X_tsw 56 dX5_thing_12 (Or.inr (by rw [y12_3]; exact ⟨by decide, by decide, 44, by decide, by decide⟩)) ?_
      refine X_aldn0 57 dX5_thing_56 rfl rfl ?_
      refine X_getA 37 60 dX5_thing_57 fl_X5_7 rfl rfl ?_
      refine X_iconst 4 61 dX5_thing_60 (by decide) rfl ?_
      refine X_ildn1 62 dX5_thing_61 rfl rfl ?_
      refine X_imul 63 dX5_thing_62 rfl ?_
      refine X_ildn2 64 dX5_thing_63 rfl rfl ?_
      refine X_iadd 65 dX5_thing_64 rfl ?_
      refine X_ialk (4 * i + 3) 66 dX5_thing_65 rfl rfl (by rw [y12_3, i43]) (show 4 * i + 3 < 32 by omega) ?_
      refine X_iret dX5_thing_66 rfl ?_
      refine Qi h ?_
      grind [g_thing, b2i]
    by_cases y12_4 : y = 4
    · refine X_tsw 67 dX5_thing_12 (Or.inr (by rw [y12_4]; exact ⟨by decide, by decide, 55, by decide, by decide⟩)) ?_
      refine X_aldn0 68 dX5_thing_67 rfl rfl ?_
      refine X_getA 41 71 dX5_thing_68 fl_X5_32 rfl rfl ?_
      refine X_ildn1 72 dX5_thing_71 rfl rfl ?_
      refine X_ialk i 73 dX5_thing_72 rfl rfl rfl (show i < 12 by omega) ?_
      refine X_iret dX5_thing_73 rfl ?_
      refine Qi h ?_
      grind [g_thing, b2i]
    by_cases y12_5 : y = 5
    · refine X_tsw 74 dX5_thing_12 (Or.inr (by rw [y12_5]; exact ⟨by decide, by decide, 62, by decide, by decide⟩)) ?_
      refine X_aldn0 75 dX5_thing_74 rfl rfl ?_
      refine X_getA 41 78 dX5_thing_75 fl_X5_32 rfl rfl ?_
      refine X_bipush 8 80 dX5_thing_78 (by decide) rfl ?_
      refine X_ialk 8 81 dX5_thing_80 rfl rfl (by decide) (by decide) ?_
      refine X_ildn1 82 dX5_thing_81 rfl rfl ?_
      refine X_ishr 83 dX5_thing_82 rfl ?_
      refine X_iconst 1 84 dX5_thing_83 (by decide) rfl ?_
      refine X_iand 85 dX5_thing_84 rfl ?_
      rw [hb_and]
      refine X_iret dX5_thing_85 rfl ?_
      refine Qi h ?_
      grind [g_thing, b2i]
    by_cases y12_6 : y = 6
    · refine X_tsw 86 dX5_thing_12 (Or.inr (by rw [y12_6]; exact ⟨by decide, by decide, 74, by decide, by decide⟩)) ?_
      refine X_aldn0 87 dX5_thing_86 rfl rfl ?_
      refine X_aldn0 88 dX5_thing_87 rfl rfl ?_
      refine X_getA 41 91 dX5_thing_88 fl_X5_32 rfl rfl ?_
      refine X_ildn1 92 dX5_thing_91 rfl rfl ?_
      refine X_callV2 5 95 dX5_thing_92 cw_X5_193 zk_X5_priceOf ⟨rfl, rfl⟩ rfl rfl rfl (S_X5_priceOf (Or.inl rfl) (by omega) ?_)
      refine X_pu ?_
      refine X_iret dX5_thing_95 rfl ?_
      refine Qi h ?_
      grind [g_thing, b2i]
    refine X_tsw 96 dX5_thing_12 (Or.inl ⟨by have z0 := lv_neT y12_0 (a := 0) (by decide); have z1 := lv_neT y12_1 (a := 1) (by decide); have z2 := lv_neT y12_2 (a := 2) (by decide); have z3 := lv_neT y12_3 (a := 3) (by decide); have z4 := lv_neT y12_4 (a := 4) (by decide); have z5 := lv_neT y12_5 (a := 5) (by decide); have z6 := lv_neT y12_6 (a := 6) (by decide); omega, by decide⟩) ?_
    refine X_bipush (-3) 98 dX5_thing_96 (by decide) rfl ?_
    refine X_iret dX5_thing_98 rfl ?_
    refine Qi h ?_
    grind [g_thing, b2i]
  · rw [b2i_0] at c5
    refine X_bipush (-2) 10 dX5_thing_8 (by decide) rfl ?_
    refine X_iret dX5_thing_10 rfl ?_
    refine Qi h ?_
    grind [g_thing, b2i]
theorem S_X5_as {x y : Int32} (hv : vXm σ) (h : Q (some (.int (g_as σ x y))) σ) : xg_C (d + 2) mX5_as [.ref 36, .int x, .int y] σ Q := by
  refine xg_C_of py_X5_as (Nat.le_of_ble_eq_true rfl) ?_
  show xg_X none (d + 2) mX5_as 0 [(0, .ref 36), (1, .int x), (2, .int y)] [] σ Q
  have hn8 := hv.2
  have tail : ∀ (i : Nat) (w k : Int32), i < 8 → Q (some (.int (if w = 0 then -4 else wM σ 41 i))) σ → xg_X none (d + 2) mX5_as 58 [(3, .int k), (0, .ref 36), (1, .int (nI i)), (2, .int y)] [.int w] σ Q := by
    intro i w k hi h
    refine X_istN 60 dX5_as_58 rfl rfl rfl ?_
    refine X_ild0 62 dX5_as_60 rfl ?_
    refine X_ifeq 77 65 dX5_as_62 (by decide) rfl (fun c62 => ?_) (fun c62 => ?_)
    · refine X_bipush (-4) 79 dX5_as_77 (by decide) rfl ?_
      refine X_iret dX5_as_79 rfl ?_
      refine Qi h ?_
      grind
    · refine X_aldn2 66 dX5_as_65 rfl rfl ?_
      refine X_aldn2 67 dX5_as_66 rfl rfl ?_
      refine X_getA 41 70 dX5_as_67 fl_X5_32 rfl rfl ?_
      refine X_ildn3 71 dX5_as_70 rfl rfl ?_
      refine X_callV2 5 74 dX5_as_71 cw_X5_185 zk_X5_weighs ⟨rfl, rfl⟩ rfl rfl rfl (S_X5_weighs (Or.inl rfl) hi ?_)
      refine X_pu ?_
      refine X_goto 79 dX5_as_74 (by decide) ?_
      refine X_iret dX5_as_79 rfl ?_
      refine Qi h ?_
      grind
  refine X_aldn0 1 dX5_as_0 rfl rfl ?_
  refine X_ildn1 2 dX5_as_1 rfl rfl ?_
  refine X_callV1 5 5 dX5_as_2 cw_X5_196 zk_X5_isThing ⟨rfl, rfl⟩ rfl rfl rfl (S_X5_isThing ?_)
  refine X_pu ?_
  refine X_ifne 11 8 dX5_as_5 (by decide) rfl (fun c5 => ?_) (fun c5 => ?_)
  · rw [b2i_n] at c5
    obtain ⟨i, hi, rfl⟩ := isTm_of hv c5
    have e := ixN_nI (i := i) (by omega)
    refine X_ildn2 12 dX5_as_11 rfl rfl ?_
    refine X_iconst 0 13 dX5_as_12 (by decide) rfl ?_
    refine X_iconst 5 14 dX5_as_13 (by decide) rfl ?_
    refine X_callS3 17 dX5_as_14 cw_X5_87 zk_X5_in rfl rfl (S_X5_in ?_)
    refine X_pu ?_
    refine X_ifne 23 20 dX5_as_17 (by decide) rfl (fun c17 => ?_) (fun c17 => ?_)
    · refine X_aldn0 24 dX5_as_23 rfl rfl ?_
      refine X_ildn1 25 dX5_as_24 rfl rfl ?_
      refine X_callV1 5 28 dX5_as_25 cw_X5_199 zk_X5_kindOf ⟨rfl, rfl⟩ rfl rfl rfl (S_X5_kindOf (by omega) ?_)
      refine X_pu ?_
      refine X_istnN 29 dX5_as_28 rfl rfl rfl rfl ?_
      refine X_ildn3 30 dX5_as_29 rfl rfl ?_
      refine X_ifeq 53 33 dX5_as_30 (by decide) rfl (fun c30 => ?_) (fun c30 => ?_)
      · refine X_iconst 1 54 dX5_as_53 (by decide) rfl ?_
        refine X_goto 58 dX5_as_54 (by decide) ?_
        refine tail i _ _ (by omega) (Qi h ?_)
        grind [g_as, b2i]
      · refine X_ildn3 34 dX5_as_33 rfl rfl ?_
        refine X_iconst 1 35 dX5_as_34 (by decide) rfl ?_
        refine X_icne 46 38 dX5_as_35 (by decide) rfl (fun c35 => ?_) (fun c35 => ?_)
        · refine X_ildn0 47 dX5_as_46 rfl rfl ?_
          refine X_ildn3 48 dX5_as_47 rfl rfl ?_
          refine X_iconst 1 49 dX5_as_48 (by decide) rfl ?_
          refine X_isub 50 dX5_as_49 rfl ?_
          refine X_icne 57 53 dX5_as_50 (by decide) rfl (fun c50 => ?_) (fun c50 => ?_)
          · refine X_iconst 0 58 dX5_as_57 (by decide) rfl ?_
            refine tail i _ _ (by omega) (Qi h ?_)
            grind [g_as, b2i]
          · refine X_iconst 1 54 dX5_as_53 (by decide) rfl ?_
            refine X_goto 58 dX5_as_54 (by decide) ?_
            refine tail i _ _ (by omega) (Qi h ?_)
            grind [g_as, b2i]
        · refine X_ildn0 39 dX5_as_38 rfl rfl ?_
          refine X_iconst 3 40 dX5_as_39 (by decide) rfl ?_
          refine X_iceq 57 43 dX5_as_40 (by decide) rfl (fun c40 => ?_) (fun c40 => ?_)
          · refine X_iconst 0 58 dX5_as_57 (by decide) rfl ?_
            refine tail i _ _ (by omega) (Qi h ?_)
            grind [g_as, b2i]
          · refine X_goto 53 dX5_as_43 (by decide) ?_
            refine X_iconst 1 54 dX5_as_53 (by decide) rfl ?_
            refine X_goto 58 dX5_as_54 (by decide) ?_
            refine tail i _ _ (by omega) (Qi h ?_)
            grind [g_as, b2i]
    · refine X_bipush (-3) 22 dX5_as_20 (by decide) rfl ?_
      refine X_iret dX5_as_22 rfl ?_
      refine Qi h ?_
      grind [g_as, b2i]
  · rw [b2i_0] at c5
    refine X_bipush (-2) 10 dX5_as_8 (by decide) rfl ?_
    refine X_iret dX5_as_10 rfl ?_
    refine Qi h ?_
    grind [g_as, b2i]
theorem S_X5_floor {x y : Int32} (hv : vXm σ) (hk : vTk σ) (h : Q (some (.int (g_floor σ x y))) σ) : xg_C (d + 3) mX5_floor [.ref 36, .int x, .int y] σ Q := by
  refine xg_C_of py_X5_floor (Nat.le_of_ble_eq_true rfl) ?_
  show xg_X none (d + 3) mX5_floor 0 [(0, .ref 36), (1, .int x), (2, .int y)] [] σ Q
  refine X_ildn1 1 dX5_floor_0 rfl rfl ?_
  refine X_iconst 0 2 dX5_floor_1 (by decide) rfl ?_
  refine X_iconst 2 3 dX5_floor_2 (by decide) rfl ?_
  refine X_callS3 6 dX5_floor_3 cw_X5_87 zk_X5_in rfl rfl (S_X5_in ?_)
  refine X_pu ?_
  refine X_ifne 12 9 dX5_floor_6 (by decide) rfl (fun c6 => ?_) (fun c6 => ?_)
  · rw [b2i_n] at c6
    have c6' := c6
    simp only [inB, Bool.and_eq_true, decide_eq_true_eq] at c6'
    obtain ⟨i, hi, rfl⟩ := le_ex 2 rfl (by decide) c6'.1 c6'.2
    have e := ixN_nI (i := i) (by omega)
    refine X_ildn2 13 dX5_floor_12 rfl rfl ?_
    by_cases y13_0 : y = 0
    · refine X_tsw 44 dX5_floor_13 (Or.inr (by rw [y13_0]; exact ⟨by decide, by decide, 31, by decide, by decide⟩)) ?_
      refine X_aldn0 45 dX5_floor_44 rfl rfl ?_
      refine X_getA 38 48 dX5_floor_45 fl_X5_13 rfl rfl ?_
      refine X_ildn1 49 dX5_floor_48 rfl rfl ?_
      refine X_ialk i 50 dX5_floor_49 rfl rfl rfl (show i < 3 by omega) ?_
      refine X_iret dX5_floor_50 rfl ?_
      refine Qi h ?_
      grind [g_floor]
    by_cases y13_1 : y = 1
    · refine X_tsw 51 dX5_floor_13 (Or.inr (by rw [y13_1]; exact ⟨by decide, by decide, 38, by decide, by decide⟩)) ?_
      refine X_aldn0 52 dX5_floor_51 rfl rfl ?_
      refine X_aldn0 53 dX5_floor_52 rfl rfl ?_
      refine X_getA 41 56 dX5_floor_53 fl_X5_32 rfl rfl ?_
      refine X_ildn1 57 dX5_floor_56 rfl rfl ?_
      refine X_callV2 5 60 dX5_floor_57 cw_X5_205 zk_X5_loadOf ⟨rfl, rfl⟩ rfl rfl rfl (S_X5_loadOf (Or.inl rfl) hv ?_)
      refine X_pu ?_
      refine X_iret dX5_floor_60 rfl ?_
      refine Qi h ?_
      grind [g_floor]
    by_cases y13_2 : y = 2
    · refine X_tsw 61 dX5_floor_13 (Or.inr (by rw [y13_2]; exact ⟨by decide, by decide, 48, by decide, by decide⟩)) ?_
      refine X_aldn0 62 dX5_floor_61 rfl rfl ?_
      refine X_getA 41 65 dX5_floor_62 fl_X5_32 rfl rfl ?_
      refine X_bipush 9 67 dX5_floor_65 (by decide) rfl ?_
      refine X_ialk 9 68 dX5_floor_67 rfl rfl (by decide) (by decide) ?_
      refine X_ildn1 69 dX5_floor_68 rfl rfl ?_
      refine X_ishr 70 dX5_floor_69 rfl ?_
      refine X_iconst 1 71 dX5_floor_70 (by decide) rfl ?_
      refine X_iand 72 dX5_floor_71 rfl ?_
      rw [hb_and]
      refine X_iret dX5_floor_72 rfl ?_
      refine Qi h ?_
      grind [g_floor]
    by_cases y13_3 : y = 3
    · refine X_tsw 73 dX5_floor_13 (Or.inr (by rw [y13_3]; exact ⟨by decide, by decide, 60, by decide, by decide⟩)) ?_
      refine X_aldn0 74 dX5_floor_73 rfl rfl ?_
      refine X_ildn1 75 dX5_floor_74 rfl rfl ?_
      refine X_callV1 5 78 dX5_floor_75 cw_X5_208 zk_X5_toolOf ⟨rfl, rfl⟩ rfl rfl rfl (S_X5_toolOf hv hk ?_)
      refine X_pu ?_
      refine X_iret dX5_floor_78 rfl ?_
      refine Qi h ?_
      grind [g_floor]
    refine X_tsw 79 dX5_floor_13 (Or.inl ⟨by have z0 := lv_neT y13_0 (a := 0) (by decide); have z1 := lv_neT y13_1 (a := 1) (by decide); have z2 := lv_neT y13_2 (a := 2) (by decide); have z3 := lv_neT y13_3 (a := 3) (by decide); omega, by decide⟩) ?_
    refine X_bipush (-3) 81 dX5_floor_79 (by decide) rfl ?_
    refine X_iret dX5_floor_81 rfl ?_
    refine Qi h ?_
    grind [g_floor]
  · rw [b2i_0] at c6
    refine X_bipush (-2) 11 dX5_floor_9 (by decide) rfl ?_
    refine X_iret dX5_floor_11 rfl ?_
    refine Qi h ?_
    grind [g_floor]
theorem S_X5_hand {x : Int32} (h : Q (some (.int (g_hand σ x))) σ) : xg_C (d + 2) mX5_hand [.ref 36, .int x] σ Q := by
  refine xg_C_of py_X5_hand (Nat.le_of_ble_eq_true rfl) ?_
  show xg_X none (d + 2) mX5_hand 0 [(0, .ref 36), (1, .int x)] [] σ Q
  refine X_ildn1 1 dX5_hand_0 rfl rfl ?_
  refine X_iconst 0 2 dX5_hand_1 (by decide) rfl ?_
  refine X_bipush 99 4 dX5_hand_2 (by decide) rfl ?_
  refine X_callS3 7 dX5_hand_4 cw_X5_87 zk_X5_in rfl rfl (S_X5_in ?_)
  refine X_pu ?_
  refine X_ifeq 25 10 dX5_hand_7 (by decide) rfl (fun c7 => ?_) (fun c7 => ?_)
  · refine X_bipush (-3) 27 dX5_hand_25 (by decide) rfl ?_
    refine X_iret dX5_hand_27 rfl ?_
    refine Qi h ?_
    grind [g_hand, b2i]
  · refine X_aldn0 11 dX5_hand_10 rfl rfl ?_
    refine X_aldn0 12 dX5_hand_11 rfl rfl ?_
    refine X_getA 41 15 dX5_hand_12 fl_X5_32 rfl rfl ?_
    refine X_bipush 11 17 dX5_hand_15 (by decide) rfl ?_
    refine X_ialk 11 18 dX5_hand_17 rfl rfl (by decide) (by decide) ?_
    refine X_ildn1 19 dX5_hand_18 rfl rfl ?_
    refine X_callV2 5 22 dX5_hand_19 cw_X5_214 zk_X5_handIn ⟨rfl, rfl⟩ rfl rfl rfl (S_X5_handIn ?_)
    refine X_pu ?_
    refine X_goto 27 dX5_hand_22 (by decide) ?_
    refine X_iret dX5_hand_27 rfl ?_
    refine Qi h ?_
    grind [g_hand, b2i]
theorem S_X5_write {x : Int32} (hv : vTm σ) (h : Q (some (.int (g_write σ x).1)) (g_write σ x).2) : xg_C (d + 1) mX5_write [.ref 36, .int x] σ Q := by
  refine xg_C_of py_X5_write (Nat.le_of_ble_eq_true rfl) ?_
  show xg_X none (d + 1) mX5_write 0 [(0, .ref 36), (1, .int x)] [] σ Q
  obtain ⟨h1, h2⟩ := hv
  refine X_ildn1 1 dX5_write_0 rfl rfl ?_
  refine X_iconst 0 2 dX5_write_1 (by decide) rfl ?_
  refine X_sipush 255 5 dX5_write_2 (by decide) rfl ?_
  refine X_callS3 8 dX5_write_5 cw_X5_87 zk_X5_in rfl rfl (S_X5_in ?_)
  refine X_pu ?_
  refine X_ifne 14 11 dX5_write_8 (by decide) rfl (fun c8 => ?_) (fun c8 => ?_)
  · refine X_aldn0 15 dX5_write_14 rfl rfl ?_
    refine X_getI 18 dX5_write_15 fl_X5_91 rfl rfl ?_
    refine X_sipush 160 21 dX5_write_18 (by decide) rfl ?_
    refine X_icne 27 24 dX5_write_21 (by decide) rfl (fun c21 => ?_) (fun c21 => ?_)
    · refine X_aldn0 28 dX5_write_27 rfl rfl ?_
      refine X_getA 39 31 dX5_write_28 fl_X5_26 rfl rfl ?_
      refine X_aldn0 32 dX5_write_31 rfl rfl ?_
      refine X_getI 35 dX5_write_32 fl_X5_91 rfl rfl ?_
      refine X_ildn1 36 dX5_write_35 rfl rfl ?_
      refine X_iask (lM σ) 37 dX5_write_36 rfl rfl h1 (by have : lM σ ≠ 160 := fun z => c21 (by rw [h1, z]; rfl); show lM σ < 160; omega) ?_
      refine X_aldn0 38 dX5_write_37 rfl rfl ?_
      refine X_dup 39 dX5_write_38 rfl rfl ?_
      refine X_getI 42 dX5_write_39 fl_X5_91 rfl rfl ?_
      refine X_iconst 1 43 dX5_write_42 (by decide) rfl ?_
      refine X_iadd 44 dX5_write_43 rfl ?_
      refine X_putI 47 dX5_write_44 fp_X5_91 rfl rfl ?_
      refine X_aldn0 48 dX5_write_47 rfl rfl ?_
      refine X_getI 51 dX5_write_48 fl_X5_91 rfl rfl ?_
      refine X_iret dX5_write_51 rfl ?_
      refine Qp h ?_
      rw [xs_eq, xs_ne (by decide)]
      grind [g_write, b2i]
    · refine X_bipush (-5) 26 dX5_write_24 (by decide) rfl ?_
      refine X_iret dX5_write_26 rfl ?_
      refine Qp h ?_
      grind [g_write, b2i]
  · refine X_bipush (-3) 13 dX5_write_11 (by decide) rfl ?_
    refine X_iret dX5_write_13 rfl ?_
    refine Qp h ?_
    grind [g_write, b2i]
theorem S_X5_erase (h : Q (some (.int (σ.1 36 6))) (xm_set σ 36 6 0)) : xg_C d mX5_erase [.ref 36] σ Q := by
  refine xg_C_of py_X5_erase (Nat.le_of_ble_eq_true rfl) ?_
  show xg_X none d mX5_erase 0 [(0, .ref 36)] [] σ Q
  refine X_aldn0 1 dX5_erase_0 rfl rfl ?_
  refine X_getI 4 dX5_erase_1 fl_X5_91 rfl rfl ?_
  refine X_istnN 5 dX5_erase_4 rfl rfl rfl rfl ?_
  refine X_aldn1 6 dX5_erase_5 rfl rfl ?_
  refine X_iconst 0 7 dX5_erase_6 (by decide) rfl ?_
  refine X_putI 10 dX5_erase_7 fp_X5_91 rfl rfl ?_
  refine X_ildn0 11 dX5_erase_10 rfl rfl ?_
  refine X_iret dX5_erase_11 rfl ?_
  exact h
end REF2
