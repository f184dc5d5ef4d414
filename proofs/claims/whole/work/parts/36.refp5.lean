/-! the reference: layPlans -/
def laM (σ : xm_M) : xm_M := tabM (la1 σ 3) (25 - miM σ)
theorem mi_end : ∀ mi, mi ≤ 24 → (24 : Int32) - nI (25 - mi) < nI mi := by decide
theorem mi_nI : ∀ n, n ≤ 24 → (24 : Int32) - nI n = nI (24 - n) := by decide
theorem mi_nx : ∀ n, n ≤ 24 → nI (24 - n) + (-1) = (24 : Int32) - nI (n + 1) := by decide
section REFP5
variable {d : Nat} {Q : Option Value → xm_M → Prop}
theorem lay_row {B τ : xm_M} {m : Nat} (hv : vTf B) (ho : vTo B) (hs : sm4 B τ) (hm : m ≤ 24)
    (h : ∀ lx, xg_X none (d + 3) mX5_layPlans 347 (lx ++ [(2, .int (nI m)), (1, .int (alM B)), (0, .ref 36)]) [] (rowM B τ m 1280) Q) :
    ∀ r p, p + r = 1280 → ∀ lx, xg_X none (d + 3) mX5_layPlans 95 (lx ++ [(3, .int (nI p)), (2, .int (nI m)), (1, .int (alM B)), (0, .ref 36)]) [] (rowM B τ m p) Q := by
  intro r
  induction r with
  | zero =>
    intro p hp lx
    obtain rfl : p = 1280 := by omega
    refine xg_sub (lw := [(3, .int (nI 1280)), (2, .int (nI m)), (1, .int (alM B)), (0, .ref 36)]) (fun q hq => List.mem_append_right _ hq) ?_
    refine X_ildn0 96 dX5_layPlans_95 rfl rfl ?_
    refine X_sipush 1280 99 dX5_layPlans_96 (by decide) rfl ?_
    refine X_icge 347 102 dX5_layPlans_99 (by decide) rfl (fun c99 => ?_) (fun c99 => ?_)
    · exact h [_]
    · exact absurd (by decide) c99
  | succ r ih =>
    intro p hp lx
    refine xg_sub (lw := [(3, .int (nI p)), (2, .int (nI m)), (1, .int (alM B)), (0, .ref 36)]) (fun q hq => List.mem_append_right _ hq) ?_
    obtain ⟨e1, e2, e3⟩ := pdq p (by omega)
    have e4 : (1280 : Int32) * nI m + nI p = nI (1280 * m + p) := by rw [show (1280 : Int32) = nI 1280 by decide, pk_mul, nI_add]
    have hl := lay_place (d := d) (Q := Q) hv ho hs hm (show p < 1280 by omega) (ih (p + 1) (by omega)) []
    clear ih
    rw [atM, stK] at hl
    refine X_ildn0 96 dX5_layPlans_95 rfl rfl ?_
    refine X_sipush 1280 99 dX5_layPlans_96 (by decide) rfl ?_
    refine X_icge 347 102 dX5_layPlans_99 (by decide) rfl (fun c99 => ?_) (fun c99 => ?_)
    · have c99 := leq c99 (n := 1280) (by decide) (by decide) (by omega)
      omega
    · refine X_ildn0 103 dX5_layPlans_102 rfl rfl ?_
      refine X_sipush 128 106 dX5_layPlans_103 (by decide) rfl ?_
      refine X_idiv 107 dX5_layPlans_106 rfl (by decide) ?_
      rw [e1]
      refine X_istN 109 dX5_layPlans_107 rfl rfl rfl ?_
      refine X_ildn1 110 dX5_layPlans_109 rfl rfl ?_
      refine X_bipush 8 112 dX5_layPlans_110 (by decide) rfl ?_
      refine X_idiv 113 dX5_layPlans_112 rfl (by decide) ?_
      refine X_bipush 16 115 dX5_layPlans_113 (by decide) rfl ?_
      refine X_irem 116 dX5_layPlans_115 rfl (by decide) ?_
      rw [e2]
      refine X_istN 118 dX5_layPlans_116 rfl rfl rfl ?_
      refine X_ildn2 119 dX5_layPlans_118 rfl rfl ?_
      refine X_bipush 8 121 dX5_layPlans_119 (by decide) rfl ?_
      refine X_irem 122 dX5_layPlans_121 rfl (by decide) ?_
      rw [e3]
      refine X_istN 124 dX5_layPlans_122 rfl rfl rfl ?_
      refine X_sipush 1280 127 dX5_layPlans_124 (by decide) rfl ?_
      refine X_ildn4 128 dX5_layPlans_127 rfl rfl ?_
      refine X_imul 129 dX5_layPlans_128 rfl ?_
      refine X_ildn3 130 dX5_layPlans_129 rfl rfl ?_
      refine X_iadd 131 dX5_layPlans_130 rfl ?_
      rw [e4]
      refine X_istN 133 dX5_layPlans_131 rfl rfl rfl ?_
      refine X_aldn7 134 dX5_layPlans_133 rfl rfl ?_
      refine X_getA 49 137 dX5_layPlans_134 fl_X5_57 rfl rfl ?_
      refine X_ild0 139 dX5_layPlans_137 rfl ?_
      refine X_ild2 141 dX5_layPlans_139 rfl ?_
      refine X_ildn6 142 dX5_layPlans_141 rfl rfl ?_
      refine X_icne 149 145 dX5_layPlans_142 (by decide) rfl (fun c142 => ?_) (fun c142 => ?_)
      · refine X_sipush 9999 152 dX5_layPlans_149 (by decide) rfl ?_
        refine X_iask (1280 * m + p) 153 dX5_layPlans_152 rfl rfl rfl (show 1280 * m + p < 32000 by omega) ?_
        refine X_aldn7 154 dX5_layPlans_153 rfl rfl ?_
        refine X_getA 50 157 dX5_layPlans_154 fl_X5_60 rfl rfl ?_
        refine X_ild0 159 dX5_layPlans_157 rfl ?_
        refine X_ild2 161 dX5_layPlans_159 rfl ?_
        refine X_ildn6 162 dX5_layPlans_161 rfl rfl ?_
        refine X_icne 171 165 dX5_layPlans_162 (by decide) rfl (fun c162 => ?_) (fun c162 => ?_)
        · skip
          refine X_sipush 9999 174 dX5_layPlans_171 (by decide) rfl ?_
          refine X_iask (1280 * m + p) 175 dX5_layPlans_174 rfl rfl rfl (show 1280 * m + p < 32000 by omega) ?_
          refine X_iconst 0 176 dX5_layPlans_175 (by decide) rfl ?_
          refine X_istN 178 dX5_layPlans_176 rfl rfl rfl ?_
          rw [if_neg c142] at hl
          exact hl
        · exact absurd c162 c142
      · refine X_iconst 0 146 dX5_layPlans_145 (by decide) rfl ?_
        refine X_goto 152 dX5_layPlans_146 (by decide) ?_
        refine X_iask (1280 * m + p) 153 dX5_layPlans_152 rfl rfl rfl (show 1280 * m + p < 32000 by omega) ?_
        refine X_aldn7 154 dX5_layPlans_153 rfl rfl ?_
        refine X_getA 50 157 dX5_layPlans_154 fl_X5_60 rfl rfl ?_
        refine X_ild0 159 dX5_layPlans_157 rfl ?_
        refine X_ild2 161 dX5_layPlans_159 rfl ?_
        refine X_ildn6 162 dX5_layPlans_161 rfl rfl ?_
        refine X_icne 171 165 dX5_layPlans_162 (by decide) rfl (fun c162 => ?_) (fun c162 => ?_)
        · exact absurd c142 c162
        · skip
          refine X_ildn5 166 dX5_layPlans_165 rfl rfl ?_
          refine X_iconst 1 167 dX5_layPlans_166 (by decide) rfl ?_
          refine X_isub 168 dX5_layPlans_167 rfl ?_
          refine X_goto 174 dX5_layPlans_168 (by decide) ?_
          refine X_iask (1280 * m + p) 175 dX5_layPlans_174 rfl rfl rfl (show 1280 * m + p < 32000 by omega) ?_
          refine X_iconst 0 176 dX5_layPlans_175 (by decide) rfl ?_
          refine X_istN 178 dX5_layPlans_176 rfl rfl rfl ?_
          rw [if_pos c142] at hl
          exact hl
theorem lay_all {B : xm_M} (hv : vTf B) (ho : vTo B) (hm : vMm B) (h : Q none (tabM B (25 - miM B))) :
    ∀ r n, n + r = 25 - miM B → ∀ lx, xg_X none (d + 3) mX5_layPlans 82 (lx ++ [(2, .int ((24 : Int32) - nI n)), (1, .int (alM B)), (0, .ref 36)]) [] (tabM B n) Q := by
  obtain ⟨hm1, hm2⟩ := hm
  intro r
  induction r with
  | zero =>
    intro n hn lx
    obtain rfl : n = 25 - miM B := by omega
    have s4 := tabM_sm (B := B) (25 - miM B)
    refine xg_sub (lw := [(2, .int ((24 : Int32) - nI (25 - miM B))), (1, .int (alM B)), (0, .ref 36)]) (fun q hq => List.mem_append_right _ hq) ?_
    generalize tabM B (25 - miM B) = τ at *
    refine X_ildn0 83 dX5_layPlans_82 rfl rfl ?_
    refine X_aldn2 84 dX5_layPlans_83 rfl rfl ?_
    refine X_getA 41 87 dX5_layPlans_84 fl_X5_32 rfl rfl ?_
    refine X_bipush 10 89 dX5_layPlans_87 (by decide) rfl ?_
    refine X_ialk 10 90 dX5_layPlans_89 rfl rfl (by decide) (by decide) ?_
    rw [s4 41 (by decide) (by decide), hm1]
    refine X_iclt 353 93 dX5_layPlans_90 (by decide) rfl (fun c90 => ?_) (fun c90 => ?_)
    · refine X_vret dX5_layPlans_353 rfl ?_
      exact h
    · exact absurd (mi_end _ hm2) c90
  | succ r ih =>
    intro n hn lx
    have s4 := tabM_sm (B := B) n
    have e1 := mi_nI n (by omega)
    have e2 := mi_nx n (by omega)
    have ihn := ih (n + 1) (by omega) []
    clear ih
    rw [tabM, ← e2] at ihn
    rw [e1]
    refine xg_sub (lw := [(2, .int (nI (24 - n))), (1, .int (alM B)), (0, .ref 36)]) (fun q hq => List.mem_append_right _ hq) ?_
    have hl := lay_row (d := d) (Q := Q) hv ho s4 (show 24 - n ≤ 24 by omega) (by
      intro lx
      refine xg_sub (lw := [(2, .int (nI (24 - n))), (1, .int (alM B)), (0, .ref 36)]) (fun q hq => List.mem_append_right _ hq) ?_
      generalize rowM B (tabM B n) (24 - n) 1280 = ρ at *
      refine X_inc0 (-1) 350 dX5_layPlans_347 (by decide) rfl rfl rfl ?_
      refine X_goto 82 dX5_layPlans_350 (by decide) ?_
      exact ihn
      ) 1280 0 rfl []
    clear ihn
    have e0 : rowM B (tabM B n) (24 - n) 0 = tabM B n := by
      apply Prod.ext
      · funext c j
        simp only [rowM]
        rw [if_neg (by omega), if_neg (by omega)]
      · rfl
    rw [e0] at hl
    generalize tabM B n = τ at *
    refine X_ildn0 83 dX5_layPlans_82 rfl rfl ?_
    refine X_aldn2 84 dX5_layPlans_83 rfl rfl ?_
    refine X_getA 41 87 dX5_layPlans_84 fl_X5_32 rfl rfl ?_
    refine X_bipush 10 89 dX5_layPlans_87 (by decide) rfl ?_
    refine X_ialk 10 90 dX5_layPlans_89 rfl rfl (by decide) (by decide) ?_
    rw [s4 41 (by decide) (by decide), hm1]
    refine X_iclt 353 93 dX5_layPlans_90 (by decide) rfl (fun c90 => ?_) (fun c90 => ?_)
    · exact absurd c90 (nI_nlt (by omega) (by omega))
    · refine X_iconst 0 94 dX5_layPlans_93 (by decide) rfl ?_
      refine X_istnN 95 dX5_layPlans_94 rfl rfl rfl rfl ?_
      exact hl
theorem S_X5_layPlans {σ : xm_M} (hx : vXm σ) (hv : vTf σ) (hm : vMm σ) (h : Q none (laM σ)) : xg_C (d + 3) mX5_layPlans [.ref 36] σ Q := by
  refine xg_C_of py_X5_layPlans (Nat.le_of_ble_eq_true rfl) ?_
  show xg_X none (d + 3) mX5_layPlans 0 [(0, .ref 36)] [] σ Q
  refine lay_tools hx hv.1 ?_
  have v1 : vTf (la1 σ 3) := by
    unfold vTf vTk tkMm at *
    rw [la1_k (by decide), la1_ne (by decide) (by decide), la1_ne (by decide) (by decide)]
    exact hv
  have m1 : miM (la1 σ 3) = miM σ := by unfold miM; rw [la1_ne (by decide) (by decide)]
  have v2 : vMm (la1 σ 3) := by
    unfold vMm
    rw [m1, la1_ne (by decide) (by decide)]
    exact hm
  have v3 : vTo (la1 σ 3) := by
    intro f hf
    have e : (la1 σ 3).1 51 f = tuM σ f := if_pos ⟨rfl, hf⟩
    rw [e]
    by_cases c : tuM σ f = -1
    · exact Or.inl c
    · exact Or.inr (tuM_in hx c)
  have hl := lay_all (d := d) (Q := Q) v1 v3 v2 (by rw [m1]; exact h) (25 - miM (la1 σ 3)) 0 (by omega) []
  rw [tabM, alM] at hl
  generalize la1 σ 3 = B at *
  refine X_iconst 1 71 dX5_layPlans_70 (by decide) rfl ?_
  refine X_aldn1 72 dX5_layPlans_71 rfl rfl ?_
  refine X_getI 75 dX5_layPlans_72 fl_X5_81 rfl rfl ?_
  refine X_ishl 76 dX5_layPlans_75 rfl ?_
  refine X_iconst 1 77 dX5_layPlans_76 (by decide) rfl ?_
  refine X_isub 78 dX5_layPlans_77 rfl ?_
  refine X_istn0 79 dX5_layPlans_78 rfl rfl rfl rfl ?_
  refine X_bipush 24 81 dX5_layPlans_79 (by decide) rfl ?_
  refine X_istnN 82 dX5_layPlans_81 rfl rfl rfl rfl ?_
  exact hl
end REFP5
