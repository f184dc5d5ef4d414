/-! the reference: deeds, rows, what is kept -/
theorem shM_ne {σ : xm_M} {n c : Nat} (h : c ≠ 45) : (shM σ n).1 c = σ.1 c := by funext j; exact if_neg (fun e => h e.1)
theorem rotM_bk {σ : xm_M} (h : vBk σ) : vBk (rotM σ) ∧ bkM (rotM σ) < 8 := by
  obtain ⟨h1, h2⟩ := h
  unfold rotM
  split
  · rename_i c
    have e : (xm_set (shM σ 84) 36 22 (σ.1 36 22 - 1)).1 36 22 = nI 7 := by rw [xs_eq, c]; decide
    unfold vBk bkM
    rw [e]
    decide
  · rename_i c
    refine ⟨⟨h1, h2⟩, ?_⟩
    have : bkM σ ≠ 8 := fun z => c (by rw [h1, z]; rfl)
    omega
theorem rotM_ne {σ : xm_M} {c : Nat} (h45 : c ≠ 45) (h36 : c ≠ 36) : (rotM σ).1 c = σ.1 c := by
  unfold rotM
  split
  · funext k
    rw [xs_ne h36]
    exact if_neg (fun e => h45 e.1)
  · rfl
theorem rotM_k {σ : xm_M} {k : Nat} (h : k ≠ 22) : (rotM σ).1 36 k = σ.1 36 k := by
  unfold rotM
  split
  · rw [xs_nk h, shM_ne (by decide)]
  · rfl
theorem cpM_ne {σ : xm_M} {a f b t n c : Nat} (h : c ≠ b) : (cpM σ a f b t n).1 c = σ.1 c := by funext j; exact if_neg (fun e => h e.1)
theorem notM_ne {σ : xm_M} {c : Nat} (h45 : c ≠ 45) (h36 : c ≠ 36) : (notM σ).1 c = σ.1 c := by
  unfold notM
  funext k
  rw [xs_ne h36, cpM_ne h45, rotM_ne h45 h36]
theorem notM_k {σ : xm_M} {k : Nat} (h : k ≠ 22) : (notM σ).1 36 k = σ.1 36 k := by
  unfold notM
  rw [xs_nk h, cpM_ne (by decide), rotM_k h]
theorem vXm_of {σ τ : xm_M} (h : τ.1 36 0 = σ.1 36 0) (hv : vXm σ) : vXm τ := by unfold vXm nM at *; rw [h]; exact hv
theorem tcM_ne {σ : xm_M} {t c : Nat} (h : c ≠ 41) : (tcM σ t).1 c = σ.1 c := by
  unfold tcM
  split
  · funext k; exact xs_ne h
  · split
    · funext k; exact xs_ne h
    · rfl
theorem psM_ne {σ : xm_M} {s c : Nat} (h : c ≠ s) : (psM σ s).1 c = σ.1 c := by
  have e : (ps1 σ s).1 c = σ.1 c := by funext k; rw [ps1, xs_ne h, xs_ne h]
  unfold psM
  split
  · funext k
    rw [← e]
    exact if_neg (fun q => h q.1)
  · exact e
theorem or0 (x : Int32) : x ||| 0 = x := by simp
section REF3
variable {d : Nat} {σ : xm_M} {Q : Option Value → xm_M → Prop}
theorem S_X5_note (hv : vBk σ) (h : Q none (notM σ)) : xg_C (d + 1) mX5_note [.ref 36] σ Q := by
  refine xg_C_of py_X5_note (Nat.le_of_ble_eq_true rfl) ?_
  show xg_X none (d + 1) mX5_note 0 [(0, .ref 36)] [] σ Q
  have hr := rotM_bk hv
  have tail : ∀ lx, xg_X none (d + 1) mX5_note 48 (lx ++ [(0, .ref 36)]) [] (rotM σ) Q := by
    intro lx
    refine xg_sub (lw := [(0, .ref 36)]) (fun q hq => List.mem_append_right _ hq) ?_
    obtain ⟨⟨r1, r2⟩, r3⟩ := hr
    refine X_aldn0 49 dX5_note_48 rfl rfl ?_
    refine X_getA 41 52 dX5_note_49 fl_X5_32 rfl rfl ?_
    refine X_iconst 0 53 dX5_note_52 (by decide) rfl ?_
    refine X_aldn0 54 dX5_note_53 rfl rfl ?_
    refine X_getA 45 57 dX5_note_54 fl_X5_45 rfl rfl ?_
    refine X_bipush 12 59 dX5_note_57 (by decide) rfl ?_
    refine X_aldn0 60 dX5_note_59 rfl rfl ?_
    refine X_getI 63 dX5_note_60 fl_X5_75 rfl rfl ?_
    refine X_imul 64 dX5_note_63 rfl ?_
    rw [r1, show (12 : Int32) = nI 12 by decide, pk_mul, show (0 : Int32) = nI 0 by decide]
    refine X_callS4 67 dX5_note_64 cw_X5_218 zk_X5_copy rfl rfl (S_X5_copy (by decide) rfl rfl (by decide) (by show 12 * bkM (rotM σ) + 12 ≤ 96; omega) ?_)
    refine X_pn ?_
    refine X_aldn0 68 dX5_note_67 rfl rfl ?_
    refine X_dup 69 dX5_note_68 rfl rfl ?_
    refine X_getI 72 dX5_note_69 fl_X5_75 rfl rfl ?_
    refine X_iconst 1 73 dX5_note_72 (by decide) rfl ?_
    refine X_iadd 74 dX5_note_73 rfl ?_
    refine X_putI 77 dX5_note_74 fp_X5_75 rfl rfl ?_
    refine X_vret dX5_note_77 rfl ?_
    rw [cpM_ne (by decide)]
    exact h
  have loop : σ.1 36 22 = 8 → ∀ k i, i + k = 84 → xg_X none (d + 1) mX5_note 11 [(1, .int (nI i)), (0, .ref 36)] [] (shM σ i) Q := by
    intro c8 k
    induction k with
    | zero =>
      intro i h2
      obtain rfl : i = 84 := by omega
      have e : (shM σ 84).1 36 22 = σ.1 36 22 := by rw [shM_ne (by decide)]
      refine X_ildn0 12 dX5_note_11 rfl rfl ?_
      refine X_bipush 84 14 dX5_note_12 (by decide) rfl ?_
      refine X_icge 38 17 dX5_note_14 (by decide) rfl (fun c14 => ?_) (fun c14 => ?_)
      · refine X_aldn1 39 dX5_note_38 rfl rfl ?_
        refine X_dup 40 dX5_note_39 rfl rfl ?_
        refine X_getI 43 dX5_note_40 fl_X5_75 rfl rfl ?_
        refine X_iconst 1 44 dX5_note_43 (by decide) rfl ?_
        refine X_isub 45 dX5_note_44 rfl ?_
        refine X_putI 48 dX5_note_45 fp_X5_75 rfl rfl ?_
        have t := tail [(1, .int (nI 84))]
        rw [rotM, if_pos c8] at t
        rw [e]
        exact t
      · exact absurd (by decide) c14
    | succ k ih =>
      intro i h2
      refine X_ildn0 12 dX5_note_11 rfl rfl ?_
      refine X_bipush 84 14 dX5_note_12 (by decide) rfl ?_
      refine X_icge 38 17 dX5_note_14 (by decide) rfl (fun c14 => ?_) (fun c14 => ?_)
      · have c14 := leq c14 (n := 84) (by decide) (by decide) (by omega)
        omega
      · refine X_aldn1 18 dX5_note_17 rfl rfl ?_
        refine X_getA 45 21 dX5_note_18 fl_X5_45 rfl rfl ?_
        refine X_ildn0 22 dX5_note_21 rfl rfl ?_
        refine X_aldn1 23 dX5_note_22 rfl rfl ?_
        refine X_getA 45 26 dX5_note_23 fl_X5_45 rfl rfl ?_
        refine X_ildn0 27 dX5_note_26 rfl rfl ?_
        refine X_bipush 12 29 dX5_note_27 (by decide) rfl ?_
        refine X_iadd 30 dX5_note_29 rfl ?_
        refine X_ialk (i + 12) 31 dX5_note_30 rfl rfl (nI_add i 12) (show i + 12 < 96 by omega) ?_
        refine X_iask i 32 dX5_note_31 rfl rfl rfl (show i < 96 by omega) ?_
        refine X_inc0 1 35 dX5_note_32 (by decide) rfl rfl rfl ?_
        refine X_goto 11 dX5_note_35 (by decide) ?_
        refine xg_lv (by rw [nI_succ]) (xg_mm ?_ (ih (i + 1) (by omega)))
        apply Prod.ext
        · funext c j
          simp only [shM, xm_set]
          by_cases e : c = 45 ∧ j = i
          · rw [if_pos e, if_pos ⟨e.1, by omega⟩, if_neg (fun q => by omega), e.2]
          · rw [if_neg e]
            by_cases e2 : c = 45 ∧ j < i
            · rw [if_pos e2, if_pos ⟨e2.1, by omega⟩]
            · rw [if_neg e2, if_neg (fun q => by omega)]
        · rfl
  refine X_aldn0 1 dX5_note_0 rfl rfl ?_
  refine X_getI 4 dX5_note_1 fl_X5_75 rfl rfl ?_
  refine X_bipush 8 6 dX5_note_4 (by decide) rfl ?_
  refine X_icne 48 9 dX5_note_6 (by decide) rfl (fun c6 => ?_) (fun c6 => ?_)
  · have t := tail []
    rw [rotM, if_neg c6] at t
    exact t
  · refine X_iconst 0 10 dX5_note_9 (by decide) rfl ?_
    refine X_istnN 11 dX5_note_10 rfl rfl rfl rfl ?_
    refine xg_mm ?_ (loop c6 84 0 rfl)
    apply Prod.ext
    · funext c j
      exact if_neg (fun e => by omega)
    · rfl
theorem S_X5_touches {t : Nat} (ht : t < 8) (h : Q none (tcM σ t)) : xg_C (d + 2) mX5_touches [.ref 36, .int (nI t)] σ Q := by
  refine xg_C_of py_X5_touches (Nat.le_of_ble_eq_true rfl) ?_
  show xg_X none (d + 2) mX5_touches 0 [(0, .ref 36), (1, .int (nI t))] [] σ Q
  refine X_aldn0 1 dX5_touches_0 rfl rfl ?_
  refine X_aldn0 2 dX5_touches_1 rfl rfl ?_
  refine X_getA 41 5 dX5_touches_2 fl_X5_32 rfl rfl ?_
  refine X_bipush 11 7 dX5_touches_5 (by decide) rfl ?_
  refine X_ialk 11 8 dX5_touches_7 rfl rfl (by decide) (by decide) ?_
  refine X_aldn0 9 dX5_touches_8 rfl rfl ?_
  refine X_getA 41 12 dX5_touches_9 fl_X5_32 rfl rfl ?_
  refine X_bipush 10 14 dX5_touches_12 (by decide) rfl ?_
  refine X_ialk 10 15 dX5_touches_14 rfl rfl (by decide) (by decide) ?_
  refine X_callV2 5 18 dX5_touches_15 cw_X5_214 zk_X5_handIn ⟨rfl, rfl⟩ rfl rfl rfl (S_X5_handIn ?_)
  refine X_pu ?_
  refine X_istnN 19 dX5_touches_18 rfl rfl rfl rfl ?_
  refine X_ildn0 20 dX5_touches_19 rfl rfl ?_
  refine X_iconst 2 21 dX5_touches_20 (by decide) rfl ?_
  refine X_iceq 43 24 dX5_touches_21 (by decide) rfl (fun c21 => ?_) (fun c21 => ?_)
  · refine X_aldn1 44 dX5_touches_43 rfl rfl ?_
    refine X_getA 41 47 dX5_touches_44 fl_X5_32 rfl rfl ?_
    refine X_ildn2 48 dX5_touches_47 rfl rfl ?_
    refine X_iconst 2 49 dX5_touches_48 (by decide) rfl ?_
    refine X_iask t 50 dX5_touches_49 rfl rfl rfl (show t < 12 by omega) ?_
    refine X_goto 74 dX5_touches_50 (by decide) ?_
    refine X_vret dX5_touches_74 rfl ?_
    refine Qs h ?_
    (try simp only [i_nlt, i_nle] at *)
    grind [tcM]
  · refine X_ildn0 25 dX5_touches_24 rfl rfl ?_
    refine X_iconst 1 26 dX5_touches_25 (by decide) rfl ?_
    refine X_icne 53 29 dX5_touches_26 (by decide) rfl (fun c26 => ?_) (fun c26 => ?_)
    · refine X_ildn0 54 dX5_touches_53 rfl rfl ?_
      refine X_iconst 1 55 dX5_touches_54 (by decide) rfl ?_
      refine X_icne 74 58 dX5_touches_55 (by decide) rfl (fun c55 => ?_) (fun c55 => ?_)
      · refine X_vret dX5_touches_74 rfl ?_
        refine Qs h ?_
        (try simp only [i_nlt, i_nle] at *)
        grind [tcM]
      · refine X_aldn1 59 dX5_touches_58 rfl rfl ?_
        refine X_getA 41 62 dX5_touches_59 fl_X5_32 rfl rfl ?_
        refine X_ildn2 63 dX5_touches_62 rfl rfl ?_
        refine X_ialk t 64 dX5_touches_63 rfl rfl rfl (show t < 12 by omega) ?_
        refine X_ifne 74 67 dX5_touches_64 (by decide) rfl (fun c64 => ?_) (fun c64 => ?_)
        · refine X_vret dX5_touches_74 rfl ?_
          refine Qs h ?_
          (try simp only [i_nlt, i_nle] at *)
          grind [tcM]
        · refine X_aldn1 68 dX5_touches_67 rfl rfl ?_
          refine X_getA 41 71 dX5_touches_68 fl_X5_32 rfl rfl ?_
          refine X_ildn2 72 dX5_touches_71 rfl rfl ?_
          refine X_iconst 1 73 dX5_touches_72 (by decide) rfl ?_
          refine X_iask t 74 dX5_touches_73 rfl rfl rfl (show t < 12 by omega) ?_
          refine X_vret dX5_touches_74 rfl ?_
          refine Qs h ?_
          (try simp only [i_nlt, i_nle] at *)
          grind [tcM]
    · refine X_aldn1 30 dX5_touches_29 rfl rfl ?_
      refine X_getA 41 33 dX5_touches_30 fl_X5_32 rfl rfl ?_
      refine X_bipush 10 35 dX5_touches_33 (by decide) rfl ?_
      refine X_ialk 10 36 dX5_touches_35 rfl rfl (by decide) (by decide) ?_
      refine X_aldn1 37 dX5_touches_36 rfl rfl ?_
      refine X_getI 40 dX5_touches_37 fl_X5_23 rfl rfl ?_
      refine X_iclt 53 43 dX5_touches_40 (by decide) rfl (fun c40 => ?_) (fun c40 => ?_)
      · refine X_ildn0 54 dX5_touches_53 rfl rfl ?_
        refine X_iconst 1 55 dX5_touches_54 (by decide) rfl ?_
        refine X_icne 74 58 dX5_touches_55 (by decide) rfl (fun c55 => ?_) (fun c55 => ?_)
        · refine X_vret dX5_touches_74 rfl ?_
          refine Qs h ?_
          (try simp only [i_nlt, i_nle] at *)
          grind [tcM]
        · refine X_aldn1 59 dX5_touches_58 rfl rfl ?_
          refine X_getA 41 62 dX5_touches_59 fl_X5_32 rfl rfl ?_
          refine X_ildn2 63 dX5_touches_62 rfl rfl ?_
          refine X_ialk t 64 dX5_touches_63 rfl rfl rfl (show t < 12 by omega) ?_
          refine X_ifne 74 67 dX5_touches_64 (by decide) rfl (fun c64 => ?_) (fun c64 => ?_)
          · refine X_vret dX5_touches_74 rfl ?_
            refine Qs h ?_
            (try simp only [i_nlt, i_nle] at *)
            grind [tcM]
          · refine X_aldn1 68 dX5_touches_67 rfl rfl ?_
            refine X_getA 41 71 dX5_touches_68 fl_X5_32 rfl rfl ?_
            refine X_ildn2 72 dX5_touches_71 rfl rfl ?_
            refine X_iconst 1 73 dX5_touches_72 (by decide) rfl ?_
            refine X_iask t 74 dX5_touches_73 rfl rfl rfl (show t < 12 by omega) ?_
            refine X_vret dX5_touches_74 rfl ?_
            refine Qs h ?_
            (try simp only [i_nlt, i_nle] at *)
            grind [tcM]
      · refine X_aldn1 44 dX5_touches_43 rfl rfl ?_
        refine X_getA 41 47 dX5_touches_44 fl_X5_32 rfl rfl ?_
        refine X_ildn2 48 dX5_touches_47 rfl rfl ?_
        refine X_iconst 2 49 dX5_touches_48 (by decide) rfl ?_
        refine X_iask t 50 dX5_touches_49 rfl rfl rfl (show t < 12 by omega) ?_
        refine X_goto 74 dX5_touches_50 (by decide) ?_
        refine X_vret dX5_touches_74 rfl ?_
        refine Qs h ?_
        (try simp only [i_nlt, i_nle] at *)
        grind [tcM]
theorem ldM_9 {s : Nat} {v f : Int32} {n : Nat} (hs : isN s) (hn : n ≤ 8) : ldM (xm_set σ s 9 v) s f n = ldM σ s f n := by
  have e37 : (xm_set σ s 9 v).1 37 = σ.1 37 := funext fun k => xs_ne (by rcases hs with rfl | rfl <;> decide)
  unfold ldM wM
  rw [e37]
  refine sumI_congr (fun i hi => ?_)
  rw [xs_nk (by decide), xs_nk (by omega)]
theorem S_X5_pass {s : Nat} (hs : isN s) (hv : vXm σ) (h : Q none (psM σ s)) : xg_C (d + 3) mX5_pass [.ref 36, .ref s] σ Q := by
  refine xg_C_of py_X5_pass (Nat.le_of_ble_eq_true rfl) ?_
  show xg_X none (d + 3) mX5_pass 0 [(0, .ref 36), (1, .ref s)] [] σ Q
  have hv' := hv
  obtain ⟨hn, hn8⟩ := hv
  have n36 : (36 : Nat) ≠ s := by rcases hs with rfl | rfl <;> decide
  have n38 : (38 : Nat) ≠ s := by rcases hs with rfl | rfl <;> decide
  have e36 : ∀ k, (ps1 σ s).1 36 k = σ.1 36 k := fun k => by rw [ps1, xs_ne n36, xs_ne n36]
  have e10 : (ps1 σ s).1 s 10 = σ.1 s 10 + 1 := by rw [ps1, xs_eq]
  have fin : σ.1 s 10 + 1 = σ.1 36 5 → ∀ k i, i + k = nM σ → xg_X none (d + 3) mX5_pass 54 [(2, .int (nI i)), (0, .ref 36), (1, .ref s)] [] (noM (ps1 σ s) s i) Q := by
    intro c5 k
    have f36 : ∀ i k, (noM (ps1 σ s) s i).1 36 k = σ.1 36 k := fun i k => (if_neg (fun q => n36 q.1)).trans (e36 k)
    have f10 : ∀ i, i ≤ 8 → (noM (ps1 σ s) s i).1 s 10 = σ.1 s 10 + 1 := fun i hi => (if_neg (fun q => by omega)).trans e10
    induction k with
    | zero =>
      intro i h2
      obtain rfl : i = nM σ := by omega
      refine X_ildn0 55 dX5_pass_54 rfl rfl ?_
      refine X_aldn1 56 dX5_pass_55 rfl rfl ?_
      refine X_getI 59 dX5_pass_56 fl_X5_72 rfl rfl ?_
      rw [f36, hn]
      refine X_icge 96 62 dX5_pass_59 (by decide) rfl (fun c59 => ?_) (fun c59 => ?_)
      · refine X_vret dX5_pass_96 rfl ?_
        rw [psM, if_pos c5] at h
        exact h
      · exact absurd (nI_le (Nat.le_refl _) (by omega)) c59
    | succ k ih =>
      intro i h2
      have fi : (noM (ps1 σ s) s i).1 s i = (ps1 σ s).1 s i := if_neg (fun q => by omega)
      refine X_ildn0 55 dX5_pass_54 rfl rfl ?_
      refine X_aldn1 56 dX5_pass_55 rfl rfl ?_
      refine X_getI 59 dX5_pass_56 fl_X5_72 rfl rfl ?_
      rw [f36, hn]
      refine X_icge 96 62 dX5_pass_59 (by decide) rfl (fun c59 => ?_) (fun c59 => ?_)
      · have c59 := leq c59 rfl (by omega) (by omega)
        omega
      · refine X_aldn2 63 dX5_pass_62 rfl rfl ?_
        refine X_bipush 10 65 dX5_pass_63 (by decide) rfl ?_
        refine X_ialk 10 66 dX5_pass_65 (ar_N hs) rfl (by decide) (by rw [sn_N hs]; decide) ?_
        refine X_aldn1 67 dX5_pass_66 rfl rfl ?_
        refine X_getI 70 dX5_pass_67 fl_X5_23 rfl rfl ?_
        rw [f36, f10 _ (by omega)]
        refine X_icne 96 73 dX5_pass_70 (by decide) rfl (fun c70 => ?_) (fun c70 => ?_)
        · exact absurd c5 c70
        · refine X_aldn2 74 dX5_pass_73 rfl rfl ?_
          refine X_ildn0 75 dX5_pass_74 rfl rfl ?_
          refine X_aldn2 76 dX5_pass_75 rfl rfl ?_
          refine X_ildn0 77 dX5_pass_76 rfl rfl ?_
          refine X_ialk i 78 dX5_pass_77 (ar_N hs) rfl rfl (by rw [sn_N hs]; omega) ?_
          refine X_iconst 1 79 dX5_pass_78 (by decide) rfl ?_
          refine X_icne 86 82 dX5_pass_79 (by decide) rfl (fun c79 => ?_) (fun c79 => ?_)
          · refine X_aldn2 87 dX5_pass_86 rfl rfl ?_
            refine X_ildn0 88 dX5_pass_87 rfl rfl ?_
            refine X_ialk i 89 dX5_pass_88 (ar_N hs) rfl rfl (by rw [sn_N hs]; omega) ?_
            refine X_iask i 90 dX5_pass_89 (ar_N hs) rfl rfl (by rw [sn_N hs]; omega) ?_
            refine X_inc0 1 93 dX5_pass_90 (by decide) rfl rfl rfl ?_
            refine X_goto 54 dX5_pass_93 (by decide) ?_
            refine xg_lv (by rw [nI_succ]) (xg_mm ?_ (ih (i + 1) (by omega)))
            rw [fi] at c79
            (try rw [fi])
            apply Prod.ext
            · funext c j
              simp only [noM, xm_set]
              grind
            · rfl
          · refine X_iconst 0 83 dX5_pass_82 (by decide) rfl ?_
            refine X_goto 89 dX5_pass_83 (by decide) ?_
            refine X_iask i 90 dX5_pass_89 (ar_N hs) rfl rfl (by rw [sn_N hs]; omega) ?_
            refine X_inc0 1 93 dX5_pass_90 (by decide) rfl rfl rfl ?_
            refine X_goto 54 dX5_pass_93 (by decide) ?_
            refine xg_lv (by rw [nI_succ]) (xg_mm ?_ (ih (i + 1) (by omega)))
            rw [fi] at c79
            (try rw [fi])
            apply Prod.ext
            · funext c j
              simp only [noM, xm_set]
              grind
            · rfl
  have mid : xg_X none (d + 3) mX5_pass 44 [(2, .int (nI 3)), (0, .ref 36), (1, .ref s)] [] (xm_set σ s 9 (brM σ s 3)) Q := by
    refine X_aldn2 45 dX5_pass_44 rfl rfl ?_
    refine X_bipush 10 47 dX5_pass_45 (by decide) rfl ?_
    refine X_dup2 48 dX5_pass_47 rfl rfl rfl ?_
    refine X_ialk 10 49 dX5_pass_48 (ar_N hs) rfl (by decide) (by rw [sn_N hs]; decide) ?_
    refine X_iconst 1 50 dX5_pass_49 (by decide) rfl ?_
    refine X_iadd 51 dX5_pass_50 rfl ?_
    refine X_iask 10 52 dX5_pass_51 (ar_N hs) rfl (by decide) (by rw [sn_N hs]; decide) ?_
    refine X_iconst 0 53 dX5_pass_52 (by decide) rfl ?_
    refine X_istn0 54 dX5_pass_53 rfl rfl rfl rfl ?_
    rw [xs_nk (show (10 : Nat) ≠ 9 by decide)]
    rw [show xm_set (xm_set σ s 9 (brM σ s 3)) s 10 (σ.1 s 10 + 1) = ps1 σ s from rfl]
    by_cases c5 : σ.1 s 10 + 1 = σ.1 36 5
    · refine xg_mm ?_ (fin c5 (nM σ) 0 (by omega))
      apply Prod.ext
      · funext c j
        exact if_neg (fun e => by omega)
      · rfl
    · rw [psM, if_neg c5] at h
      refine X_ildn0 55 dX5_pass_54 rfl rfl ?_
      refine X_aldn1 56 dX5_pass_55 rfl rfl ?_
      refine X_getI 59 dX5_pass_56 fl_X5_72 rfl rfl ?_
      refine X_icge 96 62 dX5_pass_59 (by decide) rfl (fun c59 => ?_) (fun c59 => ?_)
      · exact X_vret dX5_pass_96 rfl h
      · refine X_aldn2 63 dX5_pass_62 rfl rfl ?_
        refine X_bipush 10 65 dX5_pass_63 (by decide) rfl ?_
        refine X_ialk 10 66 dX5_pass_65 (ar_N hs) rfl (by decide) (by rw [sn_N hs]; decide) ?_
        refine X_aldn1 67 dX5_pass_66 rfl rfl ?_
        refine X_getI 70 dX5_pass_67 fl_X5_23 rfl rfl ?_
        rw [e36, e10]
        refine X_icne 96 73 dX5_pass_70 (by decide) rfl (fun c70 => ?_) (fun c70 => absurd c70 c5)
        exact X_vret dX5_pass_96 rfl h
  have loop : ∀ k i, i + k = 3 → xg_X none (d + 3) mX5_pass 2 [(2, .int (nI i)), (0, .ref 36), (1, .ref s)] [] (xm_set σ s 9 (brM σ s i)) Q := by
    intro k
    have g36 : ∀ (v : Int32) k, (xm_set σ s 9 v).1 36 k = σ.1 36 k := fun v k => xs_ne n36
    have gn : ∀ v : Int32, nM (xm_set σ s 9 v) = nM σ := fun v => by unfold nM; rw [g36]
    induction k with
    | zero =>
      intro i h2
      obtain rfl : i = 3 := by omega
      refine X_ildn0 3 dX5_pass_2 rfl rfl ?_
      refine X_iconst 3 4 dX5_pass_3 (by decide) rfl ?_
      refine X_icge 44 7 dX5_pass_4 (by decide) rfl (fun c4 => ?_) (fun c4 => ?_)
      · exact mid
      · exact absurd (by decide) c4
    | succ k ih =>
      intro i h2
      refine X_ildn0 3 dX5_pass_2 rfl rfl ?_
      refine X_iconst 3 4 dX5_pass_3 (by decide) rfl ?_
      refine X_icge 44 7 dX5_pass_4 (by decide) rfl (fun c4 => ?_) (fun c4 => ?_)
      · have c4 := leq c4 (n := 3) (by decide) (by decide) (by omega)
        omega
      · refine X_aldn2 8 dX5_pass_7 rfl rfl ?_
        refine X_bipush 9 10 dX5_pass_8 (by decide) rfl ?_
        refine X_aldn2 11 dX5_pass_10 rfl rfl ?_
        refine X_bipush 9 13 dX5_pass_11 (by decide) rfl ?_
        refine X_ialk 9 14 dX5_pass_13 (ar_N hs) rfl (by decide) (by rw [sn_N hs]; decide) ?_
        refine X_aldn1 15 dX5_pass_14 rfl rfl ?_
        refine X_aldn2 16 dX5_pass_15 rfl rfl ?_
        refine X_ildn0 17 dX5_pass_16 rfl rfl ?_
        refine X_callV2 5 20 dX5_pass_17 cw_X5_205 zk_X5_loadOf ⟨rfl, rfl⟩ rfl rfl rfl (S_X5_loadOf hs (vXm_of (g36 _ 0) hv') ?_)
        rw [gn, ldM_9 hs hn8]
        refine X_pu ?_
        refine X_aldn1 21 dX5_pass_20 rfl rfl ?_
        refine X_getA 38 24 dX5_pass_21 fl_X5_13 rfl rfl ?_
        refine X_ildn0 25 dX5_pass_24 rfl rfl ?_
        refine X_ialk i 26 dX5_pass_25 rfl rfl rfl (show i < 3 by omega) ?_
        rw [xs_ne n38]
        refine X_icle 35 29 dX5_pass_26 (by decide) rfl (fun c26 => ?_) (fun c26 => ?_)
        · refine X_iconst 0 36 dX5_pass_35 (by decide) rfl ?_
          refine X_ior 37 dX5_pass_36 rfl ?_
          refine X_iask 9 38 dX5_pass_37 (ar_N hs) rfl (by decide) (by rw [sn_N hs]; decide) ?_
          refine X_inc0 1 41 dX5_pass_38 (by decide) rfl rfl rfl ?_
          refine X_goto 2 dX5_pass_41 (by decide) ?_
          refine xg_lv (by rw [nI_succ]) (xg_mm ?_ (ih (i + 1) (by omega)))
          rw [xs_eq, xs_xs, or0, show brM σ s (i + 1) = brM σ s i by unfold brM; rw [vBrk, if_neg (by rw [i_nlt]; exact c26)]]
        · refine X_iconst 1 30 dX5_pass_29 (by decide) rfl ?_
          refine X_ildn0 31 dX5_pass_30 rfl rfl ?_
          refine X_ishl 32 dX5_pass_31 rfl ?_
          refine X_goto 36 dX5_pass_32 (by decide) ?_
          refine X_ior 37 dX5_pass_36 rfl ?_
          refine X_iask 9 38 dX5_pass_37 (ar_N hs) rfl (by decide) (by rw [sn_N hs]; decide) ?_
          refine X_inc0 1 41 dX5_pass_38 (by decide) rfl rfl rfl ?_
          refine X_goto 2 dX5_pass_41 (by decide) ?_
          refine xg_lv (by rw [nI_succ]) (xg_mm ?_ (ih (i + 1) (by omega)))
          rw [xs_eq, xs_xs, show brM σ s (i + 1) = brM σ s i ||| (1 <<< (nI i &&& 31)) by unfold brM; rw [vBrk, if_pos (by rw [i_nle] at c26; exact c26)]]
  refine X_iconst 0 1 dX5_pass_0 (by decide) rfl ?_
  refine X_istnN 2 dX5_pass_1 rfl rfl rfl rfl ?_
  have := loop 3 0 rfl
  rw [xs_self (by rfl)] at this
  exact this
def tchM (σ : xm_M) (t : Nat) : Int32 × xm_M := ((tcM (notM σ) t).1 41 t, psM (tcM (notM σ) t) 41)
def g_touch (σ : xm_M) (x : Int32) : Int32 × xm_M := if isTm σ x = false then (-2, σ) else if thM σ 41 (ixN x) = false then (-4, σ) else if σ.1 41 10 = 24 then (-5, σ) else tchM σ (ixN x)
def byM (σ : xm_M) (t i : Nat) : Bool := decide (σ.1 37 (4 * t) = 1) && (decide (σ.1 37 (4 * t + 3) = σ.1 37 (4 * i + 3)) && (thM σ 41 t && thM σ 41 i))
def g_by (σ : xm_M) (x y : Int32) : Int32 × xm_M := if isTm σ x = false ∨ isTm σ y = false ∨ x = y then (-2, σ) else if byM σ (ixN x) (ixN y) = false then (-4, σ) else if σ.1 41 10 = 24 then (-5, σ) else tchM σ (ixN x)
theorem tc_vX {t : Nat} (hv : vXm σ) : vXm (tcM (notM σ) t) := vXm_of (by rw [tcM_ne (by decide), notM_k (by decide)]) hv
theorem S_X5_touch {x : Int32} (hv : vXm σ) (hb : vBk σ) (h : Q (some (.int (g_touch σ x).1)) (g_touch σ x).2) : xg_C (d + 4) mX5_touch [.ref 36, .int x] σ Q := by
  refine xg_C_of py_X5_touch (Nat.le_of_ble_eq_true rfl) ?_
  show xg_X none (d + 4) mX5_touch 0 [(0, .ref 36), (1, .int x)] [] σ Q
  have hn8 := hv.2
  refine X_aldn0 1 dX5_touch_0 rfl rfl ?_
  refine X_ildn1 2 dX5_touch_1 rfl rfl ?_
  refine X_callV1 5 5 dX5_touch_2 cw_X5_196 zk_X5_isThing ⟨rfl, rfl⟩ rfl rfl rfl (S_X5_isThing ?_)
  refine X_pu ?_
  refine X_ifne 11 8 dX5_touch_5 (by decide) rfl (fun c5 => ?_) (fun c5 => ?_)
  · rw [b2i_n] at c5
    obtain ⟨i, hi, rfl⟩ := isTm_of hv c5
    have e := ixN_nI (i := i) (by omega)
    refine X_aldn0 12 dX5_touch_11 rfl rfl ?_
    refine X_aldn0 13 dX5_touch_12 rfl rfl ?_
    refine X_getA 41 16 dX5_touch_13 fl_X5_32 rfl rfl ?_
    refine X_ildn1 17 dX5_touch_16 rfl rfl ?_
    refine X_callV2 5 20 dX5_touch_17 cw_X5_189 zk_X5_isThere ⟨rfl, rfl⟩ rfl rfl rfl (S_X5_isThere (Or.inl rfl) (by omega) ?_)
    refine X_pu ?_
    refine X_ifne 26 23 dX5_touch_20 (by decide) rfl (fun c20 => ?_) (fun c20 => ?_)
    · refine X_aldn0 27 dX5_touch_26 rfl rfl ?_
      refine X_getA 41 30 dX5_touch_27 fl_X5_32 rfl rfl ?_
      refine X_bipush 10 32 dX5_touch_30 (by decide) rfl ?_
      refine X_ialk 10 33 dX5_touch_32 rfl rfl (by decide) (by decide) ?_
      refine X_bipush 24 35 dX5_touch_33 (by decide) rfl ?_
      refine X_icne 41 38 dX5_touch_35 (by decide) rfl (fun c35 => ?_) (fun c35 => ?_)
      · refine X_aldn0 42 dX5_touch_41 rfl rfl ?_
        refine X_callV0 5 45 dX5_touch_42 cw_X5_222 zk_X5_note ⟨rfl, rfl⟩ rfl rfl rfl (S_X5_note hb ?_)
        refine X_pn ?_
        refine X_aldn0 46 dX5_touch_45 rfl rfl ?_
        refine X_ildn1 47 dX5_touch_46 rfl rfl ?_
        refine X_callV1 5 50 dX5_touch_47 cw_X5_225 zk_X5_touches ⟨rfl, rfl⟩ rfl rfl rfl (S_X5_touches (by omega) ?_)
        refine X_pn ?_
        refine X_aldn0 51 dX5_touch_50 rfl rfl ?_
        refine X_getA 41 54 dX5_touch_51 fl_X5_32 rfl rfl ?_
        refine X_ildn1 55 dX5_touch_54 rfl rfl ?_
        refine X_ialk i 56 dX5_touch_55 rfl rfl rfl (show i < 12 by omega) ?_
        refine X_istnN 57 dX5_touch_56 rfl rfl rfl rfl ?_
        refine X_aldn1 58 dX5_touch_57 rfl rfl ?_
        refine X_aldn1 59 dX5_touch_58 rfl rfl ?_
        refine X_getA 41 62 dX5_touch_59 fl_X5_32 rfl rfl ?_
        refine X_callV1 5 65 dX5_touch_62 cw_X5_228 zk_X5_pass ⟨rfl, rfl⟩ rfl rfl rfl (S_X5_pass (Or.inl rfl) (tc_vX hv) ?_)
        refine X_pn ?_
        refine X_ildn0 66 dX5_touch_65 rfl rfl ?_
        refine X_iret dX5_touch_66 rfl ?_
        refine Qp h ?_
        grind [g_touch, b2i, tchM]
      · refine X_bipush (-5) 40 dX5_touch_38 (by decide) rfl ?_
        refine X_iret dX5_touch_40 rfl ?_
        refine Qp h ?_
        grind [g_touch, b2i, tchM]
    · refine X_bipush (-4) 25 dX5_touch_23 (by decide) rfl ?_
      refine X_iret dX5_touch_25 rfl ?_
      refine Qp h ?_
      grind [g_touch, b2i, tchM]
  · rw [b2i_0] at c5
    refine X_bipush (-2) 10 dX5_touch_8 (by decide) rfl ?_
    refine X_iret dX5_touch_10 rfl ?_
    refine Qp h ?_
    grind [g_touch, b2i, tchM]
theorem S_X5_isBy {t i : Nat} (ht : t < 8) (hi : i < 8) (h : Q (some (.int (b2i (byM σ t i)))) σ) : xg_C (d + 2) mX5_isBy [.ref 36, .int (nI t), .int (nI i)] σ Q := by
  refine xg_C_of py_X5_isBy (Nat.le_of_ble_eq_true rfl) ?_
  show xg_X none (d + 2) mX5_isBy 0 [(0, .ref 36), (1, .int (nI t)), (2, .int (nI i))] [] σ Q
  refine X_aldn0 1 dX5_isBy_0 rfl rfl ?_
  refine X_ildn1 2 dX5_isBy_1 rfl rfl ?_
  refine X_callV1 5 5 dX5_isBy_2 cw_X5_199 zk_X5_kindOf ⟨rfl, rfl⟩ rfl rfl rfl (S_X5_kindOf ht ?_)
  refine X_pu ?_
  refine X_iconst 1 6 dX5_isBy_5 (by decide) rfl ?_
  refine X_icne 50 9 dX5_isBy_6 (by decide) rfl (fun c6 => ?_) (fun c6 => ?_)
  · refine X_iconst 0 51 dX5_isBy_50 (by decide) rfl ?_
    refine X_zret dX5_isBy_51 rfl (by first | exact Or.inl rfl | exact Or.inr rfl) ?_
    refine Qi h ?_
    grind [byM, b2i]
  · refine X_aldn0 10 dX5_isBy_9 rfl rfl ?_
    refine X_ildn1 11 dX5_isBy_10 rfl rfl ?_
    refine X_callV1 5 14 dX5_isBy_11 cw_X5_181 zk_X5_floorOf ⟨rfl, rfl⟩ rfl rfl rfl (S_X5_floorOf ht ?_)
    refine X_pu ?_
    refine X_aldn0 15 dX5_isBy_14 rfl rfl ?_
    refine X_ildn2 16 dX5_isBy_15 rfl rfl ?_
    refine X_callV1 5 19 dX5_isBy_16 cw_X5_181 zk_X5_floorOf ⟨rfl, rfl⟩ rfl rfl rfl (S_X5_floorOf hi ?_)
    refine X_pu ?_
    refine X_icne 50 22 dX5_isBy_19 (by decide) rfl (fun c19 => ?_) (fun c19 => ?_)
    · refine X_iconst 0 51 dX5_isBy_50 (by decide) rfl ?_
      refine X_zret dX5_isBy_51 rfl (by first | exact Or.inl rfl | exact Or.inr rfl) ?_
      refine Qi h ?_
      grind [byM, b2i]
    · refine X_aldn0 23 dX5_isBy_22 rfl rfl ?_
      refine X_aldn0 24 dX5_isBy_23 rfl rfl ?_
      refine X_getA 41 27 dX5_isBy_24 fl_X5_32 rfl rfl ?_
      refine X_ildn1 28 dX5_isBy_27 rfl rfl ?_
      refine X_callV2 5 31 dX5_isBy_28 cw_X5_189 zk_X5_isThere ⟨rfl, rfl⟩ rfl rfl rfl (S_X5_isThere (Or.inl rfl) ht ?_)
      refine X_pu ?_
      refine X_ifeq 50 34 dX5_isBy_31 (by decide) rfl (fun c31 => ?_) (fun c31 => ?_)
      · refine X_iconst 0 51 dX5_isBy_50 (by decide) rfl ?_
        refine X_zret dX5_isBy_51 rfl (by first | exact Or.inl rfl | exact Or.inr rfl) ?_
        refine Qi h ?_
        grind [byM, b2i]
      · refine X_aldn0 35 dX5_isBy_34 rfl rfl ?_
        refine X_aldn0 36 dX5_isBy_35 rfl rfl ?_
        refine X_getA 41 39 dX5_isBy_36 fl_X5_32 rfl rfl ?_
        refine X_ildn2 40 dX5_isBy_39 rfl rfl ?_
        refine X_callV2 5 43 dX5_isBy_40 cw_X5_189 zk_X5_isThere ⟨rfl, rfl⟩ rfl rfl rfl (S_X5_isThere (Or.inl rfl) hi ?_)
        refine X_pu ?_
        refine X_ifeq 50 46 dX5_isBy_43 (by decide) rfl (fun c43 => ?_) (fun c43 => ?_)
        · refine X_iconst 0 51 dX5_isBy_50 (by decide) rfl ?_
          refine X_zret dX5_isBy_51 rfl (by first | exact Or.inl rfl | exact Or.inr rfl) ?_
          refine Qi h ?_
          grind [byM, b2i]
        · refine X_iconst 1 47 dX5_isBy_46 (by decide) rfl ?_
          refine X_goto 51 dX5_isBy_47 (by decide) ?_
          refine X_zret dX5_isBy_51 rfl (by first | exact Or.inl rfl | exact Or.inr rfl) ?_
          refine Qi h ?_
          grind [byM, b2i]
theorem S_X5_by {x y : Int32} (hv : vXm σ) (hb : vBk σ) (h : Q (some (.int (g_by σ x y).1)) (g_by σ x y).2) : xg_C (d + 4) mX5_by [.ref 36, .int x, .int y] σ Q := by
  refine xg_C_of py_X5_by (Nat.le_of_ble_eq_true rfl) ?_
  show xg_X none (d + 4) mX5_by 0 [(0, .ref 36), (1, .int x), (2, .int y)] [] σ Q
  have hn8 := hv.2
  refine X_aldn0 1 dX5_by_0 rfl rfl ?_
  refine X_ildn1 2 dX5_by_1 rfl rfl ?_
  refine X_callV1 5 5 dX5_by_2 cw_X5_196 zk_X5_isThing ⟨rfl, rfl⟩ rfl rfl rfl (S_X5_isThing ?_)
  refine X_pu ?_
  refine X_ifeq 21 8 dX5_by_5 (by decide) rfl (fun c5 => ?_) (fun c5 => ?_)
  · rw [b2i_0] at c5
    refine X_bipush (-2) 23 dX5_by_21 (by decide) rfl ?_
    refine X_iret dX5_by_23 rfl ?_
    refine Qp h ?_
    grind [g_by, b2i, tchM]
  · rw [b2i_n] at c5
    refine X_aldn0 9 dX5_by_8 rfl rfl ?_
    refine X_ildn2 10 dX5_by_9 rfl rfl ?_
    refine X_callV1 5 13 dX5_by_10 cw_X5_196 zk_X5_isThing ⟨rfl, rfl⟩ rfl rfl rfl (S_X5_isThing ?_)
    refine X_pu ?_
    refine X_ifeq 21 16 dX5_by_13 (by decide) rfl (fun c13 => ?_) (fun c13 => ?_)
    · rw [b2i_0] at c13
      refine X_bipush (-2) 23 dX5_by_21 (by decide) rfl ?_
      refine X_iret dX5_by_23 rfl ?_
      refine Qp h ?_
      grind [g_by, b2i, tchM]
    · rw [b2i_n] at c13
      refine X_ildn1 17 dX5_by_16 rfl rfl ?_
      refine X_ildn2 18 dX5_by_17 rfl rfl ?_
      refine X_icne 24 21 dX5_by_18 (by decide) rfl (fun c18 => ?_) (fun c18 => ?_)
      · obtain ⟨i, hi, rfl⟩ := isTm_of hv c5
        obtain ⟨j, hj, rfl⟩ := isTm_of hv c13
        have e := ixN_nI (i := i) (by omega)
        have e2 := ixN_nI (i := j) (by omega)
        refine X_aldn0 25 dX5_by_24 rfl rfl ?_
        refine X_ildn1 26 dX5_by_25 rfl rfl ?_
        refine X_ildn2 27 dX5_by_26 rfl rfl ?_
        refine X_callV2 5 30 dX5_by_27 cw_X5_232 zk_X5_isBy ⟨rfl, rfl⟩ rfl rfl rfl (S_X5_isBy (by omega) (by omega) ?_)
        refine X_pu ?_
        refine X_ifne 36 33 dX5_by_30 (by decide) rfl (fun c30 => ?_) (fun c30 => ?_)
        · refine X_aldn0 37 dX5_by_36 rfl rfl ?_
          refine X_getA 41 40 dX5_by_37 fl_X5_32 rfl rfl ?_
          refine X_bipush 10 42 dX5_by_40 (by decide) rfl ?_
          refine X_ialk 10 43 dX5_by_42 rfl rfl (by decide) (by decide) ?_
          refine X_bipush 24 45 dX5_by_43 (by decide) rfl ?_
          refine X_icne 51 48 dX5_by_45 (by decide) rfl (fun c45 => ?_) (fun c45 => ?_)
          · refine X_aldn0 52 dX5_by_51 rfl rfl ?_
            refine X_callV0 5 55 dX5_by_52 cw_X5_222 zk_X5_note ⟨rfl, rfl⟩ rfl rfl rfl (S_X5_note hb ?_)
            refine X_pn ?_
            refine X_aldn0 56 dX5_by_55 rfl rfl ?_
            refine X_ildn1 57 dX5_by_56 rfl rfl ?_
            refine X_callV1 5 60 dX5_by_57 cw_X5_225 zk_X5_touches ⟨rfl, rfl⟩ rfl rfl rfl (S_X5_touches (by omega) ?_)
            refine X_pn ?_
            refine X_aldn0 61 dX5_by_60 rfl rfl ?_
            refine X_getA 41 64 dX5_by_61 fl_X5_32 rfl rfl ?_
            refine X_ildn1 65 dX5_by_64 rfl rfl ?_
            refine X_ialk i 66 dX5_by_65 rfl rfl rfl (show i < 12 by omega) ?_
            refine X_istnN 67 dX5_by_66 rfl rfl rfl rfl ?_
            refine X_aldn1 68 dX5_by_67 rfl rfl ?_
            refine X_aldn1 69 dX5_by_68 rfl rfl ?_
            refine X_getA 41 72 dX5_by_69 fl_X5_32 rfl rfl ?_
            refine X_callV1 5 75 dX5_by_72 cw_X5_228 zk_X5_pass ⟨rfl, rfl⟩ rfl rfl rfl (S_X5_pass (Or.inl rfl) (tc_vX hv) ?_)
            refine X_pn ?_
            refine X_ildn0 76 dX5_by_75 rfl rfl ?_
            refine X_iret dX5_by_76 rfl ?_
            refine Qp h ?_
            grind [g_by, b2i, tchM]
          · refine X_bipush (-5) 50 dX5_by_48 (by decide) rfl ?_
            refine X_iret dX5_by_50 rfl ?_
            refine Qp h ?_
            grind [g_by, b2i, tchM]
        · refine X_bipush (-4) 35 dX5_by_33 (by decide) rfl ?_
          refine X_iret dX5_by_35 rfl ?_
          refine Qp h ?_
          grind [g_by, b2i, tchM]
      · refine X_bipush (-2) 23 dX5_by_21 (by decide) rfl ?_
        refine X_iret dX5_by_23 rfl ?_
        refine Qp h ?_
        grind [g_by, b2i, tchM]
/-- a meal: food i, what is touched t -/
def eatM (σ : xm_M) (i t : Nat) : Int32 × xm_M :=
  if (tcM (notM σ) t).1 41 i = 0 then (1, psM (xm_set (tcM (notM σ) t) 41 8 ((tcM (notM σ) t).1 41 8 ||| (1 <<< (nI i &&& 31)))) 41) else (0, psM (xm_set (tcM (notM σ) t) 41 8 ((tcM (notM σ) t).1 41 8 ||| (0 <<< (nI i &&& 31)))) 41)
def g_eat (σ : xm_M) (x y : Int32) : Int32 × xm_M := if isTm σ x = false ∨ (¬ y = -1 ∧ (isTm σ y = false ∨ y = x)) then (-2, σ) else if ¬ σ.1 37 (4 * ixN x) = 4 ∨ thM σ 41 (ixN x) = false ∨ (¬ y = -1 ∧ byM σ (ixN y) (ixN x) = false) then (-4, σ) else if σ.1 41 10 = 24 then (-5, σ) else if y = -1 then eatM σ (ixN x) (ixN x) else eatM σ (ixN x) (ixN y)
theorem S_X5_eat {x y : Int32} (hv : vXm σ) (hb : vBk σ) (h : Q (some (.int (g_eat σ x y).1)) (g_eat σ x y).2) : xg_C (d + 4) mX5_eat [.ref 36, .int x, .int y] σ Q := by
  refine xg_C_of py_X5_eat (Nat.le_of_ble_eq_true rfl) ?_
  show xg_X none (d + 4) mX5_eat 0 [(0, .ref 36), (1, .int x), (2, .int y)] [] σ Q
  have hn8 := hv.2
  have fin : ∀ (i t : Nat) (y : Int32), i < 8 → t < 8 → Q (some (.int (eatM σ i t).1)) (eatM σ i t).2 → xg_X none (d + 4) mX5_eat 97 [(0, .ref 36), (1, .int (nI i)), (2, .int y)] [.int (nI t), .ref 36] (notM σ) Q := by
    intro i t y hi ht h
    refine X_callV1 5 100 dX5_eat_97 cw_X5_225 zk_X5_touches ⟨rfl, rfl⟩ rfl rfl rfl (S_X5_touches ht ?_)
    refine X_pn ?_
    refine X_aldn0 101 dX5_eat_100 rfl rfl ?_
    refine X_getA 41 104 dX5_eat_101 fl_X5_32 rfl rfl ?_
    refine X_ildn1 105 dX5_eat_104 rfl rfl ?_
    refine X_ialk i 106 dX5_eat_105 rfl rfl rfl (show i < 12 by omega) ?_
    refine X_ifne 113 109 dX5_eat_106 (by decide) rfl (fun c106 => ?_) (fun c106 => ?_)
    · refine X_iconst 0 114 dX5_eat_113 (by decide) rfl ?_
      refine X_istnN 115 dX5_eat_114 rfl rfl rfl rfl ?_
      refine X_aldn1 116 dX5_eat_115 rfl rfl ?_
      refine X_getA 41 119 dX5_eat_116 fl_X5_32 rfl rfl ?_
      refine X_bipush 8 121 dX5_eat_119 (by decide) rfl ?_
      refine X_aldn1 122 dX5_eat_121 rfl rfl ?_
      refine X_getA 41 125 dX5_eat_122 fl_X5_32 rfl rfl ?_
      refine X_bipush 8 127 dX5_eat_125 (by decide) rfl ?_
      refine X_ialk 8 128 dX5_eat_127 rfl rfl (by decide) (by decide) ?_
      refine X_ildn0 129 dX5_eat_128 rfl rfl ?_
      refine X_ildn2 130 dX5_eat_129 rfl rfl ?_
      refine X_ishl 131 dX5_eat_130 rfl ?_
      refine X_ior 132 dX5_eat_131 rfl ?_
      refine X_iask 8 133 dX5_eat_132 rfl rfl (by decide) (by decide) ?_
      refine X_aldn1 134 dX5_eat_133 rfl rfl ?_
      refine X_aldn1 135 dX5_eat_134 rfl rfl ?_
      refine X_getA 41 138 dX5_eat_135 fl_X5_32 rfl rfl ?_
      refine X_callV1 5 141 dX5_eat_138 cw_X5_228 zk_X5_pass ⟨rfl, rfl⟩ rfl rfl rfl (S_X5_pass (Or.inl rfl) (vXm_of (xs_ne (by decide)) (tc_vX hv)) ?_)
      refine X_pn ?_
      refine X_ildn0 142 dX5_eat_141 rfl rfl ?_
      refine X_iret dX5_eat_142 rfl ?_
      refine Qp h ?_
      rw [eatM, if_neg c106]
    · refine X_iconst 1 110 dX5_eat_109 (by decide) rfl ?_
      refine X_goto 114 dX5_eat_110 (by decide) ?_
      refine X_istnN 115 dX5_eat_114 rfl rfl rfl rfl ?_
      refine X_aldn1 116 dX5_eat_115 rfl rfl ?_
      refine X_getA 41 119 dX5_eat_116 fl_X5_32 rfl rfl ?_
      refine X_bipush 8 121 dX5_eat_119 (by decide) rfl ?_
      refine X_aldn1 122 dX5_eat_121 rfl rfl ?_
      refine X_getA 41 125 dX5_eat_122 fl_X5_32 rfl rfl ?_
      refine X_bipush 8 127 dX5_eat_125 (by decide) rfl ?_
      refine X_ialk 8 128 dX5_eat_127 rfl rfl (by decide) (by decide) ?_
      refine X_ildn0 129 dX5_eat_128 rfl rfl ?_
      refine X_ildn2 130 dX5_eat_129 rfl rfl ?_
      refine X_ishl 131 dX5_eat_130 rfl ?_
      refine X_ior 132 dX5_eat_131 rfl ?_
      refine X_iask 8 133 dX5_eat_132 rfl rfl (by decide) (by decide) ?_
      refine X_aldn1 134 dX5_eat_133 rfl rfl ?_
      refine X_aldn1 135 dX5_eat_134 rfl rfl ?_
      refine X_getA 41 138 dX5_eat_135 fl_X5_32 rfl rfl ?_
      refine X_callV1 5 141 dX5_eat_138 cw_X5_228 zk_X5_pass ⟨rfl, rfl⟩ rfl rfl rfl (S_X5_pass (Or.inl rfl) (vXm_of (xs_ne (by decide)) (tc_vX hv)) ?_)
      refine X_pn ?_
      refine X_ildn0 142 dX5_eat_141 rfl rfl ?_
      refine X_iret dX5_eat_142 rfl ?_
      refine Qp h ?_
      rw [eatM, if_pos c106]
  have mid : ∀ i, i < nM σ → isTm σ (nI i) = true → (¬ y = -1 → isTm σ y = true ∧ ¬ y = nI i) → Q (some (.int (g_eat σ (nI i) y).1)) (g_eat σ (nI i) y).2 → xg_X none (d + 4) mX5_eat 29 [(0, .ref 36), (1, .int (nI i)), (2, .int y)] [] σ Q := by
    intro i hi hT hy h
    have e := ixN_nI (i := i) (by omega)
    by_cases ey : y = -1
    · subst ey
      refine X_aldn0 30 dX5_eat_29 rfl rfl ?_
      refine X_ildn1 31 dX5_eat_30 rfl rfl ?_
      refine X_callV1 5 34 dX5_eat_31 cw_X5_199 zk_X5_kindOf ⟨rfl, rfl⟩ rfl rfl rfl (S_X5_kindOf (by omega) ?_)
      refine X_pu ?_
      refine X_iconst 4 35 dX5_eat_34 (by decide) rfl ?_
      refine X_icne 64 38 dX5_eat_35 (by decide) rfl (fun c35 => ?_) (fun c35 => ?_)
      · refine X_bipush (-4) 66 dX5_eat_64 (by decide) rfl ?_
        refine X_iret dX5_eat_66 rfl ?_
        refine Qp h ?_
        grind [g_eat, b2i]
      · refine X_aldn0 39 dX5_eat_38 rfl rfl ?_
        refine X_aldn0 40 dX5_eat_39 rfl rfl ?_
        refine X_getA 41 43 dX5_eat_40 fl_X5_32 rfl rfl ?_
        refine X_ildn1 44 dX5_eat_43 rfl rfl ?_
        refine X_callV2 5 47 dX5_eat_44 cw_X5_189 zk_X5_isThere ⟨rfl, rfl⟩ rfl rfl rfl (S_X5_isThere (Or.inl rfl) (by omega) ?_)
        refine X_pu ?_
        refine X_ifeq 64 50 dX5_eat_47 (by decide) rfl (fun c47 => ?_) (fun c47 => ?_)
        · refine X_bipush (-4) 66 dX5_eat_64 (by decide) rfl ?_
          refine X_iret dX5_eat_66 rfl ?_
          refine Qp h ?_
          grind [g_eat, b2i]
        · refine X_ildn2 51 dX5_eat_50 rfl rfl ?_
          refine X_iconst (-1) 52 dX5_eat_51 (by decide) rfl ?_
          refine X_iceq 67 55 dX5_eat_52 (by decide) rfl (fun c52 => ?_) (fun c52 => ?_)
          · refine X_aldn0 68 dX5_eat_67 rfl rfl ?_
            refine X_getA 41 71 dX5_eat_68 fl_X5_32 rfl rfl ?_
            refine X_bipush 10 73 dX5_eat_71 (by decide) rfl ?_
            refine X_ialk 10 74 dX5_eat_73 rfl rfl (by decide) (by decide) ?_
            refine X_bipush 24 76 dX5_eat_74 (by decide) rfl ?_
            refine X_icne 82 79 dX5_eat_76 (by decide) rfl (fun c76 => ?_) (fun c76 => ?_)
            · refine X_aldn0 83 dX5_eat_82 rfl rfl ?_
              refine X_callV0 5 86 dX5_eat_83 cw_X5_222 zk_X5_note ⟨rfl, rfl⟩ rfl rfl rfl (S_X5_note hb ?_)
              refine X_pn ?_
              refine X_aldn0 87 dX5_eat_86 rfl rfl ?_
              refine X_ildn2 88 dX5_eat_87 rfl rfl ?_
              refine X_iconst (-1) 89 dX5_eat_88 (by decide) rfl ?_
              refine X_icne 96 92 dX5_eat_89 (by decide) rfl (fun c89 => ?_) (fun c89 => ?_)
              · exact absurd rfl c89
              · refine X_ildn1 93 dX5_eat_92 rfl rfl ?_
                refine X_goto 97 dX5_eat_93 (by decide) ?_
                refine fin i i _ (by omega) (by omega) ?_
                have q : g_eat σ (nI i) (-1) = eatM σ i i := by grind [g_eat, b2i]
                rw [q] at h
                exact h
            · refine X_bipush (-5) 81 dX5_eat_79 (by decide) rfl ?_
              refine X_iret dX5_eat_81 rfl ?_
              refine Qp h ?_
              grind [g_eat, b2i]
          · exact absurd rfl c52
    · obtain ⟨hyT, hyi⟩ := hy ey
      obtain ⟨j, hj, rfl⟩ := isTm_of hv hyT
      have e2 := ixN_nI (i := j) (by omega)
      refine X_aldn0 30 dX5_eat_29 rfl rfl ?_
      refine X_ildn1 31 dX5_eat_30 rfl rfl ?_
      refine X_callV1 5 34 dX5_eat_31 cw_X5_199 zk_X5_kindOf ⟨rfl, rfl⟩ rfl rfl rfl (S_X5_kindOf (by omega) ?_)
      refine X_pu ?_
      refine X_iconst 4 35 dX5_eat_34 (by decide) rfl ?_
      refine X_icne 64 38 dX5_eat_35 (by decide) rfl (fun c35 => ?_) (fun c35 => ?_)
      · refine X_bipush (-4) 66 dX5_eat_64 (by decide) rfl ?_
        refine X_iret dX5_eat_66 rfl ?_
        refine Qp h ?_
        grind [g_eat, b2i]
      · refine X_aldn0 39 dX5_eat_38 rfl rfl ?_
        refine X_aldn0 40 dX5_eat_39 rfl rfl ?_
        refine X_getA 41 43 dX5_eat_40 fl_X5_32 rfl rfl ?_
        refine X_ildn1 44 dX5_eat_43 rfl rfl ?_
        refine X_callV2 5 47 dX5_eat_44 cw_X5_189 zk_X5_isThere ⟨rfl, rfl⟩ rfl rfl rfl (S_X5_isThere (Or.inl rfl) (by omega) ?_)
        refine X_pu ?_
        refine X_ifeq 64 50 dX5_eat_47 (by decide) rfl (fun c47 => ?_) (fun c47 => ?_)
        · refine X_bipush (-4) 66 dX5_eat_64 (by decide) rfl ?_
          refine X_iret dX5_eat_66 rfl ?_
          refine Qp h ?_
          grind [g_eat, b2i]
        · refine X_ildn2 51 dX5_eat_50 rfl rfl ?_
          refine X_iconst (-1) 52 dX5_eat_51 (by decide) rfl ?_
          refine X_iceq 67 55 dX5_eat_52 (by decide) rfl (fun c52 => ?_) (fun c52 => ?_)
          · exact absurd c52 ey
          · refine X_aldn0 56 dX5_eat_55 rfl rfl ?_
            refine X_ildn2 57 dX5_eat_56 rfl rfl ?_
            refine X_ildn1 58 dX5_eat_57 rfl rfl ?_
            refine X_callV2 5 61 dX5_eat_58 cw_X5_232 zk_X5_isBy ⟨rfl, rfl⟩ rfl rfl rfl (S_X5_isBy (by omega) (by omega) ?_)
            refine X_pu ?_
            refine X_ifne 67 64 dX5_eat_61 (by decide) rfl (fun c61 => ?_) (fun c61 => ?_)
            · refine X_aldn0 68 dX5_eat_67 rfl rfl ?_
              refine X_getA 41 71 dX5_eat_68 fl_X5_32 rfl rfl ?_
              refine X_bipush 10 73 dX5_eat_71 (by decide) rfl ?_
              refine X_ialk 10 74 dX5_eat_73 rfl rfl (by decide) (by decide) ?_
              refine X_bipush 24 76 dX5_eat_74 (by decide) rfl ?_
              refine X_icne 82 79 dX5_eat_76 (by decide) rfl (fun c76 => ?_) (fun c76 => ?_)
              · refine X_aldn0 83 dX5_eat_82 rfl rfl ?_
                refine X_callV0 5 86 dX5_eat_83 cw_X5_222 zk_X5_note ⟨rfl, rfl⟩ rfl rfl rfl (S_X5_note hb ?_)
                refine X_pn ?_
                refine X_aldn0 87 dX5_eat_86 rfl rfl ?_
                refine X_ildn2 88 dX5_eat_87 rfl rfl ?_
                refine X_iconst (-1) 89 dX5_eat_88 (by decide) rfl ?_
                refine X_icne 96 92 dX5_eat_89 (by decide) rfl (fun c89 => ?_) (fun c89 => ?_)
                · refine X_ildn2 97 dX5_eat_96 rfl rfl ?_
                  refine fin i j _ (by omega) (by omega) ?_
                  have q : g_eat σ (nI i) (nI j) = eatM σ i j := by grind [g_eat, b2i]
                  rw [q] at h
                  exact h
                · exact absurd c89 ey
              · refine X_bipush (-5) 81 dX5_eat_79 (by decide) rfl ?_
                refine X_iret dX5_eat_81 rfl ?_
                refine Qp h ?_
                grind [g_eat, b2i]
            · refine X_bipush (-4) 66 dX5_eat_64 (by decide) rfl ?_
              refine X_iret dX5_eat_66 rfl ?_
              refine Qp h ?_
              grind [g_eat, b2i]
  refine X_aldn0 1 dX5_eat_0 rfl rfl ?_
  refine X_ildn1 2 dX5_eat_1 rfl rfl ?_
  refine X_callV1 5 5 dX5_eat_2 cw_X5_196 zk_X5_isThing ⟨rfl, rfl⟩ rfl rfl rfl (S_X5_isThing ?_)
  refine X_pu ?_
  refine X_ifeq 26 8 dX5_eat_5 (by decide) rfl (fun c5 => ?_) (fun c5 => ?_)
  · rw [b2i_0] at c5
    refine X_bipush (-2) 28 dX5_eat_26 (by decide) rfl ?_
    refine X_iret dX5_eat_28 rfl ?_
    refine Qp h ?_
    grind [g_eat]
  · rw [b2i_n] at c5
    refine X_ildn2 9 dX5_eat_8 rfl rfl ?_
    refine X_iconst (-1) 10 dX5_eat_9 (by decide) rfl ?_
    refine X_iceq 29 13 dX5_eat_10 (by decide) rfl (fun c10 => ?_) (fun c10 => ?_)
    · obtain ⟨i, hi, rfl⟩ := isTm_of hv c5
      exact mid i hi c5 (by grind) h
    · refine X_aldn0 14 dX5_eat_13 rfl rfl ?_
      refine X_ildn2 15 dX5_eat_14 rfl rfl ?_
      refine X_callV1 5 18 dX5_eat_15 cw_X5_196 zk_X5_isThing ⟨rfl, rfl⟩ rfl rfl rfl (S_X5_isThing ?_)
      refine X_pu ?_
      refine X_ifeq 26 21 dX5_eat_18 (by decide) rfl (fun c18 => ?_) (fun c18 => ?_)
      · rw [b2i_0] at c18
        refine X_bipush (-2) 28 dX5_eat_26 (by decide) rfl ?_
        refine X_iret dX5_eat_28 rfl ?_
        refine Qp h ?_
        grind [g_eat]
      · rw [b2i_n] at c18
        refine X_ildn2 22 dX5_eat_21 rfl rfl ?_
        refine X_ildn1 23 dX5_eat_22 rfl rfl ?_
        refine X_icne 29 26 dX5_eat_23 (by decide) rfl (fun c23 => ?_) (fun c23 => ?_)
        · obtain ⟨i, hi, rfl⟩ := isTm_of hv c5
          exact mid i hi c5 (by grind) h
        · refine X_bipush (-2) 28 dX5_eat_26 (by decide) rfl ?_
          refine X_iret dX5_eat_28 rfl ?_
          refine Qp h ?_
          grind [g_eat]
end REF3
