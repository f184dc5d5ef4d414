/-! the reference: the text read -/
section REF10
variable {d : Nat} {σ : xm_M} {Q : Option Value → xm_M → Prop}
theorem S_X5_isLine {w : Nat} (hv : vPo σ) (hw : w + 3 < 70) (h : Q (some (.int (b2i (lnM σ w).1))) (lnM σ w).2) : xg_C (d + 4) mX5_isLine [.ref 36, .int (nI w)] σ Q := by
  refine xg_C_of py_X5_isLine (Nat.le_of_ble_eq_true rfl) ?_
  show xg_X none (d + 4) mX5_isLine 0 [(0, .ref 36), (1, .int (nI w))] [] σ Q
  have q := nt_ok hv
  unfold lnM at h
  have mid3 : ∀ a b v, v = kdM (ntM σ).2 → xg_X none (d + 4) mX5_isLine 193 [(3, .int b), (2, .int a), (0, .ref 36), (1, .int (nI w))] [.int v, .int (nI w), .ref 40] (ntM σ) Q := by
    intro a b v ev
    subst ev
    have q2 := (s40_ok (w := w) (v := kdM (ntM σ).2) q.1).1
    have e40 : (xm_set (ntM σ) 40 w (kdM (ntM σ).2)).1 40 w = kdM (ntM σ).2 := xs_eq
    generalize kdM (ntM σ).2 = k at *
    refine X_iask w 194 dX5_isLine_193 rfl rfl rfl (show w < 70 by omega) ?_
    generalize xm_set (ntM σ) 40 w k = ρ at *
    refine X_aldn2 195 dX5_isLine_194 rfl rfl ?_
    refine X_getA 40 198 dX5_isLine_195 fl_X5_29 rfl rfl ?_
    refine X_ildn3 199 dX5_isLine_198 rfl rfl ?_
    refine X_ialk w 200 dX5_isLine_199 rfl rfl rfl (show w < 70 by omega) ?_
    rw [e40]
    by_cases y200_0 : k = 0
    · refine X_tsw 260 dX5_isLine_200 (Or.inr (by rw [y200_0]; exact ⟨by decide, by decide, 60, by decide, by decide⟩)) ?_
      refine X_aldn2 261 dX5_isLine_260 rfl rfl ?_
      refine X_ildn3 262 dX5_isLine_261 rfl rfl ?_
      refine X_callV1 5 265 dX5_isLine_262 cw_X5_160 zk_X5_isThingLine ⟨rfl, rfl⟩ rfl rfl rfl (S_X5_isThingLine q2 hw ?_)
      refine X_pu ?_
      refine X_zret dX5_isLine_265 rfl (b2i_01 _) ?_
      grind [lkM, beM, andM, b2i]
    by_cases y200_1 : k = 1
    · refine X_tsw 260 dX5_isLine_200 (Or.inr (by rw [y200_1]; exact ⟨by decide, by decide, 60, by decide, by decide⟩)) ?_
      refine X_aldn2 261 dX5_isLine_260 rfl rfl ?_
      refine X_ildn3 262 dX5_isLine_261 rfl rfl ?_
      refine X_callV1 5 265 dX5_isLine_262 cw_X5_160 zk_X5_isThingLine ⟨rfl, rfl⟩ rfl rfl rfl (S_X5_isThingLine q2 hw ?_)
      refine X_pu ?_
      refine X_zret dX5_isLine_265 rfl (b2i_01 _) ?_
      grind [lkM, beM, andM, b2i]
    by_cases y200_2 : k = 2
    · refine X_tsw 260 dX5_isLine_200 (Or.inr (by rw [y200_2]; exact ⟨by decide, by decide, 60, by decide, by decide⟩)) ?_
      refine X_aldn2 261 dX5_isLine_260 rfl rfl ?_
      refine X_ildn3 262 dX5_isLine_261 rfl rfl ?_
      refine X_callV1 5 265 dX5_isLine_262 cw_X5_160 zk_X5_isThingLine ⟨rfl, rfl⟩ rfl rfl rfl (S_X5_isThingLine q2 hw ?_)
      refine X_pu ?_
      refine X_zret dX5_isLine_265 rfl (b2i_01 _) ?_
      grind [lkM, beM, andM, b2i]
    by_cases y200_3 : k = 3
    · refine X_tsw 260 dX5_isLine_200 (Or.inr (by rw [y200_3]; exact ⟨by decide, by decide, 60, by decide, by decide⟩)) ?_
      refine X_aldn2 261 dX5_isLine_260 rfl rfl ?_
      refine X_ildn3 262 dX5_isLine_261 rfl rfl ?_
      refine X_callV1 5 265 dX5_isLine_262 cw_X5_160 zk_X5_isThingLine ⟨rfl, rfl⟩ rfl rfl rfl (S_X5_isThingLine q2 hw ?_)
      refine X_pu ?_
      refine X_zret dX5_isLine_265 rfl (b2i_01 _) ?_
      grind [lkM, beM, andM, b2i]
    by_cases y200_4 : k = 4
    · refine X_tsw 260 dX5_isLine_200 (Or.inr (by rw [y200_4]; exact ⟨by decide, by decide, 60, by decide, by decide⟩)) ?_
      refine X_aldn2 261 dX5_isLine_260 rfl rfl ?_
      refine X_ildn3 262 dX5_isLine_261 rfl rfl ?_
      refine X_callV1 5 265 dX5_isLine_262 cw_X5_160 zk_X5_isThingLine ⟨rfl, rfl⟩ rfl rfl rfl (S_X5_isThingLine q2 hw ?_)
      refine X_pu ?_
      refine X_zret dX5_isLine_265 rfl (b2i_01 _) ?_
      grind [lkM, beM, andM, b2i]
    by_cases y200_5 : k = 5
    · refine X_tsw 266 dX5_isLine_200 (Or.inr (by rw [y200_5]; exact ⟨by decide, by decide, 66, by decide, by decide⟩)) ?_
      refine X_aldn2 267 dX5_isLine_266 rfl rfl ?_
      refine X_iconst 0 268 dX5_isLine_267 (by decide) rfl ?_
      refine X_putI 271 dX5_isLine_268 fp_X5_132 rfl rfl ?_
      refine X_iconst 1 272 dX5_isLine_271 (by decide) rfl ?_
      refine X_zret dX5_isLine_272 rfl (by first | exact Or.inl rfl | exact Or.inr rfl) ?_
      grind [lkM, beM, andM, b2i]
    by_cases y200_6 : k = 6
    · refine X_tsw 273 dX5_isLine_200 (Or.inr (by rw [y200_6]; exact ⟨by decide, by decide, 73, by decide, by decide⟩)) ?_
      refine X_aldn2 274 dX5_isLine_273 rfl rfl ?_
      refine X_ildn3 275 dX5_isLine_274 rfl rfl ?_
      refine X_iconst 1 276 dX5_isLine_275 (by decide) rfl ?_
      refine X_iadd 277 dX5_isLine_276 rfl ?_
      refine X_iconst 0 278 dX5_isLine_277 (by decide) rfl ?_
      refine X_iconst 2 279 dX5_isLine_278 (by decide) rfl ?_
      rw [show nI w + 1 = nI (w + 1) from nI_add w 1]
      refine X_callV3 5 282 dX5_isLine_279 cw_X5_135 zk_X5_isNumber ⟨rfl, rfl⟩ rfl rfl rfl (S_X5_isNumber q2 (by omega) ?_)
      refine X_pu ?_
      refine X_ifeq 302 285 dX5_isLine_282 (by decide) rfl (fun c282 => ?_) (fun c282 => ?_)
      · refine X_iconst 0 303 dX5_isLine_302 (by decide) rfl ?_
        refine X_zret dX5_isLine_303 rfl (by first | exact Or.inl rfl | exact Or.inr rfl) ?_
        grind [lkM, beM, andM, b2i]
      · refine X_aldn2 286 dX5_isLine_285 rfl rfl ?_
        refine X_ildn3 287 dX5_isLine_286 rfl rfl ?_
        refine X_iconst 2 288 dX5_isLine_287 (by decide) rfl ?_
        refine X_iadd 289 dX5_isLine_288 rfl ?_
        refine X_iconst 0 290 dX5_isLine_289 (by decide) rfl ?_
        refine X_bipush 99 292 dX5_isLine_290 (by decide) rfl ?_
        rw [show nI w + 2 = nI (w + 2) from nI_add w 2]
        refine X_callV3 5 295 dX5_isLine_292 cw_X5_135 zk_X5_isNumber ⟨rfl, rfl⟩ rfl rfl rfl (S_X5_isNumber (in_ok q2).1 (by omega) ?_)
        refine X_pu ?_
        refine X_ifeq 302 298 dX5_isLine_295 (by decide) rfl (fun c295 => ?_) (fun c295 => ?_)
        · refine X_iconst 0 303 dX5_isLine_302 (by decide) rfl ?_
          refine X_zret dX5_isLine_303 rfl (by first | exact Or.inl rfl | exact Or.inr rfl) ?_
          grind [lkM, beM, andM, b2i]
        · refine X_iconst 1 299 dX5_isLine_298 (by decide) rfl ?_
          refine X_goto 303 dX5_isLine_299 (by decide) ?_
          refine X_zret dX5_isLine_303 rfl (by first | exact Or.inl rfl | exact Or.inr rfl) ?_
          grind [lkM, beM, andM, b2i]
    by_cases y200_7 : k = 7
    · refine X_tsw 304 dX5_isLine_200 (Or.inr (by rw [y200_7]; exact ⟨by decide, by decide, 104, by decide, by decide⟩)) ?_
      refine X_aldn2 305 dX5_isLine_304 rfl rfl ?_
      refine X_ildn3 306 dX5_isLine_305 rfl rfl ?_
      refine X_iconst 1 307 dX5_isLine_306 (by decide) rfl ?_
      refine X_iadd 308 dX5_isLine_307 rfl ?_
      refine X_iconst 0 309 dX5_isLine_308 (by decide) rfl ?_
      refine X_iconst 4 310 dX5_isLine_309 (by decide) rfl ?_
      rw [show nI w + 1 = nI (w + 1) from nI_add w 1]
      refine X_callV3 5 313 dX5_isLine_310 cw_X5_135 zk_X5_isNumber ⟨rfl, rfl⟩ rfl rfl rfl (S_X5_isNumber q2 (by omega) ?_)
      refine X_pu ?_
      refine X_zret dX5_isLine_313 rfl (b2i_01 _) ?_
      grind [lkM, beM, andM, b2i]
    by_cases y200_8 : k = 8
    · refine X_tsw 304 dX5_isLine_200 (Or.inr (by rw [y200_8]; exact ⟨by decide, by decide, 104, by decide, by decide⟩)) ?_
      refine X_aldn2 305 dX5_isLine_304 rfl rfl ?_
      refine X_ildn3 306 dX5_isLine_305 rfl rfl ?_
      refine X_iconst 1 307 dX5_isLine_306 (by decide) rfl ?_
      refine X_iadd 308 dX5_isLine_307 rfl ?_
      refine X_iconst 0 309 dX5_isLine_308 (by decide) rfl ?_
      refine X_iconst 4 310 dX5_isLine_309 (by decide) rfl ?_
      rw [show nI w + 1 = nI (w + 1) from nI_add w 1]
      refine X_callV3 5 313 dX5_isLine_310 cw_X5_135 zk_X5_isNumber ⟨rfl, rfl⟩ rfl rfl rfl (S_X5_isNumber q2 (by omega) ?_)
      refine X_pu ?_
      refine X_zret dX5_isLine_313 rfl (b2i_01 _) ?_
      grind [lkM, beM, andM, b2i]
    by_cases y200_9 : k = 9
    · refine X_tsw 314 dX5_isLine_200 (Or.inr (by rw [y200_9]; exact ⟨by decide, by decide, 114, by decide, by decide⟩)) ?_
      refine X_aldn2 315 dX5_isLine_314 rfl rfl ?_
      refine X_ildn3 316 dX5_isLine_315 rfl rfl ?_
      refine X_iconst 1 317 dX5_isLine_316 (by decide) rfl ?_
      refine X_iadd 318 dX5_isLine_317 rfl ?_
      refine X_iconst 0 319 dX5_isLine_318 (by decide) rfl ?_
      refine X_bipush 24 321 dX5_isLine_319 (by decide) rfl ?_
      rw [show nI w + 1 = nI (w + 1) from nI_add w 1]
      refine X_callV3 5 324 dX5_isLine_321 cw_X5_135 zk_X5_isNumber ⟨rfl, rfl⟩ rfl rfl rfl (S_X5_isNumber q2 (by omega) ?_)
      refine X_pu ?_
      refine X_zret dX5_isLine_324 rfl (b2i_01 _) ?_
      grind [lkM, beM, andM, b2i]
    by_cases y200_10 : k = 10
    · refine X_tsw 266 dX5_isLine_200 (Or.inr (by rw [y200_10]; exact ⟨by decide, by decide, 66, by decide, by decide⟩)) ?_
      refine X_aldn2 267 dX5_isLine_266 rfl rfl ?_
      refine X_iconst 0 268 dX5_isLine_267 (by decide) rfl ?_
      refine X_putI 271 dX5_isLine_268 fp_X5_132 rfl rfl ?_
      refine X_iconst 1 272 dX5_isLine_271 (by decide) rfl ?_
      refine X_zret dX5_isLine_272 rfl (by first | exact Or.inl rfl | exact Or.inr rfl) ?_
      grind [lkM, beM, andM, b2i]
    refine X_tsw 325 dX5_isLine_200 (Or.inl ⟨by have z0 := lv_neT y200_0 (a := 0) (by decide); have z1 := lv_neT y200_1 (a := 1) (by decide); have z2 := lv_neT y200_2 (a := 2) (by decide); have z3 := lv_neT y200_3 (a := 3) (by decide); have z4 := lv_neT y200_4 (a := 4) (by decide); have z5 := lv_neT y200_5 (a := 5) (by decide); have z6 := lv_neT y200_6 (a := 6) (by decide); have z7 := lv_neT y200_7 (a := 7) (by decide); have z8 := lv_neT y200_8 (a := 8) (by decide); have z9 := lv_neT y200_9 (a := 9) (by decide); have z10 := lv_neT y200_10 (a := 10) (by decide); omega, by decide⟩) ?_
    refine X_aldn2 326 dX5_isLine_325 rfl rfl ?_
    refine X_callV0 5 329 dX5_isLine_326 cw_X5_128 zk_X5_fails ⟨rfl, rfl⟩ rfl rfl rfl (S_X5_fails ?_)
    refine X_pu ?_
    refine X_zret dX5_isLine_329 rfl (by first | exact Or.inl rfl | exact Or.inr rfl) ?_
    grind [lkM, beM, andM, b2i]
  have mid2 : ∀ b, b = kbM (ntM σ).2 → xg_X none (d + 4) mX5_isLine 177 [(2, .int (kaM (ntM σ).2)), (0, .ref 36), (1, .int (nI w))] [.int b] (ntM σ) Q := by
    intro b eb
    subst eb
    refine X_istnN 178 dX5_isLine_177 rfl rfl rfl rfl ?_
    refine X_aldn2 179 dX5_isLine_178 rfl rfl ?_
    refine X_getA 40 182 dX5_isLine_179 fl_X5_29 rfl rfl ?_
    refine X_ildn3 183 dX5_isLine_182 rfl rfl ?_
    refine X_ildn1 184 dX5_isLine_183 rfl rfl ?_
    refine X_iconst (-1) 185 dX5_isLine_184 (by decide) rfl ?_
    refine X_icne 192 188 dX5_isLine_185 (by decide) rfl (fun c185 => ?_) (fun c185 => ?_)
    · refine X_ildn1 193 dX5_isLine_192 rfl rfl ?_
      refine mid3 _ _ _ ?_
      rw [kdM, if_neg c185]
    · refine X_ildn0 189 dX5_isLine_188 rfl rfl ?_
      refine X_goto 193 dX5_isLine_189 (by decide) ?_
      refine mid3 _ _ _ ?_
      rw [kdM, if_pos c185]
  have mid1 : ∀ a, a = kaM (ntM σ).2 → xg_X none (d + 4) mX5_isLine 95 [(0, .ref 36), (1, .int (nI w))] [.int a] (ntM σ) Q := by
    intro a ea
    subst ea
    refine X_istnN 96 dX5_isLine_95 rfl rfl rfl rfl ?_
    refine X_aldn1 97 dX5_isLine_96 rfl rfl ?_
    refine X_getL 100 dX5_isLine_97 fl_X5_108 rfl rfl ?_
    refine X_ldc2 1162531 103 dX5_isLine_100 cl_X5_150 rfl ?_
    refine X_lcmp 104 dX5_isLine_103 rfl ?_
    refine X_ifne 112 107 dX5_isLine_104 (by decide) rfl (fun c104 => ?_) (fun c104 => ?_)
    · refine X_aldn1 113 dX5_isLine_112 rfl rfl ?_
      refine X_getL 116 dX5_isLine_113 fl_X5_108 rfl rfl ?_
      refine X_ldc2 453959 119 dX5_isLine_116 cl_X5_152 rfl ?_
      refine X_lcmp 120 dX5_isLine_119 rfl ?_
      refine X_ifne 128 123 dX5_isLine_120 (by decide) rfl (fun c120 => ?_) (fun c120 => ?_)
      · refine X_aldn1 129 dX5_isLine_128 rfl rfl ?_
        refine X_getL 132 dX5_isLine_129 fl_X5_108 rfl rfl ?_
        refine X_ldc2 1758684 135 dX5_isLine_132 cl_X5_154 rfl ?_
        refine X_lcmp 136 dX5_isLine_135 rfl ?_
        refine X_ifne 144 139 dX5_isLine_136 (by decide) rfl (fun c136 => ?_) (fun c136 => ?_)
        · refine X_aldn1 145 dX5_isLine_144 rfl rfl ?_
          refine X_getL 148 dX5_isLine_145 fl_X5_108 rfl rfl ?_
          refine X_ldc2 286916 151 dX5_isLine_148 cl_X5_156 rfl ?_
          refine X_lcmp 152 dX5_isLine_151 rfl ?_
          refine X_ifne 160 155 dX5_isLine_152 (by decide) rfl (fun c152 => ?_) (fun c152 => ?_)
          · refine X_aldn1 161 dX5_isLine_160 rfl rfl ?_
            refine X_getL 164 dX5_isLine_161 fl_X5_108 rfl rfl ?_
            refine X_ldc2 40586 167 dX5_isLine_164 cl_X5_158 rfl ?_
            refine X_lcmp 168 dX5_isLine_167 rfl ?_
            refine X_ifne 176 171 dX5_isLine_168 (by decide) rfl (fun c168 => ?_) (fun c168 => ?_)
            · refine X_iconst (-1) 177 dX5_isLine_176 (by decide) rfl ?_
              refine mid2 _ ?_
              simp only [lcmp_0] at *
              grind [kbM]
            · refine X_bipush 10 173 dX5_isLine_171 (by decide) rfl ?_
              refine X_goto 177 dX5_isLine_173 (by decide) ?_
              refine mid2 _ ?_
              simp only [lcmp_0] at *
              grind [kbM]
          · refine X_bipush 9 157 dX5_isLine_155 (by decide) rfl ?_
            refine X_goto 177 dX5_isLine_157 (by decide) ?_
            refine mid2 _ ?_
            simp only [lcmp_0] at *
            grind [kbM]
        · refine X_bipush 8 141 dX5_isLine_139 (by decide) rfl ?_
          refine X_goto 177 dX5_isLine_141 (by decide) ?_
          refine mid2 _ ?_
          simp only [lcmp_0] at *
          grind [kbM]
      · refine X_bipush 7 125 dX5_isLine_123 (by decide) rfl ?_
        refine X_goto 177 dX5_isLine_125 (by decide) ?_
        refine mid2 _ ?_
        simp only [lcmp_0] at *
        grind [kbM]
    · refine X_bipush 6 109 dX5_isLine_107 (by decide) rfl ?_
      refine X_goto 177 dX5_isLine_109 (by decide) ?_
      refine mid2 _ ?_
      simp only [lcmp_0] at *
      grind [kbM]
  refine X_aldn0 1 dX5_isLine_0 rfl rfl ?_
  refine X_callV0 5 4 dX5_isLine_1 cw_X5_125 zk_X5_nextToken ⟨rfl, rfl⟩ rfl rfl rfl (S_X5_nextToken hv ?_)
  refine X_pn ?_
  refine X_aldn0 5 dX5_isLine_4 rfl rfl ?_
  refine X_getL 8 dX5_isLine_5 fl_X5_108 rfl rfl ?_
  refine X_ldc2 82408 11 dX5_isLine_8 cl_X5_138 rfl ?_
  refine X_lcmp 12 dX5_isLine_11 rfl ?_
  refine X_ifne 19 15 dX5_isLine_12 (by decide) rfl (fun c12 => ?_) (fun c12 => ?_)
  · refine X_aldn0 20 dX5_isLine_19 rfl rfl ?_
    refine X_getL 23 dX5_isLine_20 fl_X5_108 rfl rfl ?_
    refine X_ldc2 405012 26 dX5_isLine_23 cl_X5_140 rfl ?_
    refine X_lcmp 27 dX5_isLine_26 rfl ?_
    refine X_ifne 34 30 dX5_isLine_27 (by decide) rfl (fun c27 => ?_) (fun c27 => ?_)
    · refine X_aldn0 35 dX5_isLine_34 rfl rfl ?_
      refine X_getL 38 dX5_isLine_35 fl_X5_108 rfl rfl ?_
      refine X_ldc2 139055 41 dX5_isLine_38 cl_X5_142 rfl ?_
      refine X_lcmp 42 dX5_isLine_41 rfl ?_
      refine X_ifne 49 45 dX5_isLine_42 (by decide) rfl (fun c42 => ?_) (fun c42 => ?_)
      · refine X_aldn0 50 dX5_isLine_49 rfl rfl ?_
        refine X_getL 53 dX5_isLine_50 fl_X5_108 rfl rfl ?_
        refine X_ldc2 1168243 56 dX5_isLine_53 cl_X5_144 rfl ?_
        refine X_lcmp 57 dX5_isLine_56 rfl ?_
        refine X_ifne 64 60 dX5_isLine_57 (by decide) rfl (fun c57 => ?_) (fun c57 => ?_)
        · refine X_aldn0 65 dX5_isLine_64 rfl rfl ?_
          refine X_getL 68 dX5_isLine_65 fl_X5_108 rfl rfl ?_
          refine X_ldc2 129442 71 dX5_isLine_68 cl_X5_146 rfl ?_
          refine X_lcmp 72 dX5_isLine_71 rfl ?_
          refine X_ifne 79 75 dX5_isLine_72 (by decide) rfl (fun c72 => ?_) (fun c72 => ?_)
          · refine X_aldn0 80 dX5_isLine_79 rfl rfl ?_
            refine X_getL 83 dX5_isLine_80 fl_X5_108 rfl rfl ?_
            refine X_ldc2 1905383 86 dX5_isLine_83 cl_X5_148 rfl ?_
            refine X_lcmp 87 dX5_isLine_86 rfl ?_
            refine X_ifne 94 90 dX5_isLine_87 (by decide) rfl (fun c87 => ?_) (fun c87 => ?_)
            · refine X_iconst (-1) 95 dX5_isLine_94 (by decide) rfl ?_
              refine mid1 _ ?_
              simp only [lcmp_0] at *
              grind [kaM]
            · refine X_iconst 5 91 dX5_isLine_90 (by decide) rfl ?_
              refine X_goto 95 dX5_isLine_91 (by decide) ?_
              refine mid1 _ ?_
              simp only [lcmp_0] at *
              grind [kaM]
          · refine X_iconst 4 76 dX5_isLine_75 (by decide) rfl ?_
            refine X_goto 95 dX5_isLine_76 (by decide) ?_
            refine mid1 _ ?_
            simp only [lcmp_0] at *
            grind [kaM]
        · refine X_iconst 3 61 dX5_isLine_60 (by decide) rfl ?_
          refine X_goto 95 dX5_isLine_61 (by decide) ?_
          refine mid1 _ ?_
          simp only [lcmp_0] at *
          grind [kaM]
      · refine X_iconst 2 46 dX5_isLine_45 (by decide) rfl ?_
        refine X_goto 95 dX5_isLine_46 (by decide) ?_
        refine mid1 _ ?_
        simp only [lcmp_0] at *
        grind [kaM]
    · refine X_iconst 1 31 dX5_isLine_30 (by decide) rfl ?_
      refine X_goto 95 dX5_isLine_31 (by decide) ?_
      refine mid1 _ ?_
      simp only [lcmp_0] at *
      grind [kaM]
  · refine X_iconst 0 16 dX5_isLine_15 (by decide) rfl ?_
    refine X_goto 95 dX5_isLine_16 (by decide) ?_
    refine mid1 _ ?_
    simp only [lcmp_0] at *
    grind [kaM]
theorem S_X5_isRead (hv : vTm σ) (h : Q (some (.int (b2i (rdM σ).1))) (rdM σ).2) : xg_C (d + 5) mX5_isRead [.ref 36] σ Q := by
  refine xg_C_of py_X5_isRead (Nat.le_of_ble_eq_true rfl) ?_
  show xg_X none (d + 5) mX5_isRead 0 [(0, .ref 36)] [] σ Q
  have fin : ∀ τ, Q (some (.int (b2i (rdE τ).1))) (rdE τ).2 → xg_X none (d + 5) mX5_isRead 20 [(1, .int 0), (0, .ref 36)] [] τ Q := by
    intro τ h
    unfold rdE at h
    refine X_ildn0 21 dX5_isRead_20 rfl rfl ?_
    refine X_ifeq 82 24 dX5_isRead_21 (by decide) rfl (fun c21 => ?_) (fun c21 => ?_)
    · refine X_aldn1 83 dX5_isRead_82 rfl rfl ?_
      refine X_getL 86 dX5_isRead_83 fl_X5_108 rfl rfl ?_
      refine X_ldc2 (-2) 89 dX5_isRead_86 cl_X5_106 rfl ?_
      refine X_lcmp 90 dX5_isRead_89 rfl ?_
      refine X_ifeq 100 93 dX5_isRead_90 (by decide) rfl (fun c90 => ?_) (fun c90 => ?_)
      · refine X_iconst 1 101 dX5_isRead_100 (by decide) rfl ?_
        refine X_goto 105 dX5_isRead_101 (by decide) ?_
        refine X_zret dX5_isRead_105 rfl (by first | exact Or.inl rfl | exact Or.inr rfl) ?_
        rw [lcmp_0] at c90
        grind [b2i]
      · refine X_aldn1 94 dX5_isRead_93 rfl rfl ?_
        refine X_callV0 5 97 dX5_isRead_94 cw_X5_128 zk_X5_fails ⟨rfl, rfl⟩ rfl rfl rfl (S_X5_fails ?_)
        refine X_pu ?_
        refine X_ifeq 104 100 dX5_isRead_97 (by decide) rfl (fun c97 => ?_) (fun c97 => ?_)
        · refine X_iconst 0 105 dX5_isRead_104 (by decide) rfl ?_
          refine X_zret dX5_isRead_105 rfl (by first | exact Or.inl rfl | exact Or.inr rfl) ?_
          rw [lcmp_0] at c90
          grind [b2i]
        · exact absurd rfl c97
    · exact absurd rfl c21
  have loop : ∀ n τ, vPo τ → 0 < n → n ≤ 14 → τ.1 36 14 = nI (14 - n) → Q (some (.int (b2i (rdF n τ).1))) (rdF n τ).2 → xg_X none (d + 5) mX5_isRead 20 [(1, .int 1), (0, .ref 36)] [] τ Q := by
    intro n
    induction n with
    | zero =>
      intro τ _ h0
      exact absurd h0 (by decide)
    | succ n ih =>
      intro τ hp _ hn h14 h
      have ew : rdW τ = 5 * (14 - (n + 1)) := by unfold rdW; rw [h14, nI_clamp (by omega)]
      obtain ⟨l, el⟩ : ∃ l, l = lnM τ (rdW τ) := ⟨_, rfl⟩
      obtain ⟨β, eb⟩ : ∃ β, β = ntM (xm_set l.2 36 14 (l.2.1 36 14 + 1)) := ⟨_, rfl⟩
      have hB : rdB τ = β := by rw [eb, el, rdB]
      have q : vPo l.2 ∧ smR τ l.2 := by rw [el]; exact ln_ok hp
      have e14 : l.2.1 36 14 = nI (14 - (n + 1)) := by rw [q.2.2 14 (by decide) (by decide) (by decide) (by decide) (by decide) (by decide), h14]
      have q1 : vPo (xm_set l.2 36 14 (l.2.1 36 14 + 1)) := vPo_of q.1 (xs_nk (by decide)) (xs_nk (by decide))
      have q2 := nt_ok q1
      have f14 : β.1 36 14 = nI (14 - n) := by
        rw [eb, q2.2.2 14 (by decide) (by decide) (by decide) (by decide) (by decide) (by decide), xs_eq, e14, ← nI_succ, show 14 - (n + 1) + 1 = 14 - n by omega]
      have f1 : vPo β := by rw [eb]; exact q2.1
      rw [rdF, hB, ← el] at h
      refine X_ildn0 21 dX5_isRead_20 rfl rfl ?_
      refine X_ifeq 82 24 dX5_isRead_21 (by decide) rfl (fun c21 => ?_) (fun c21 => ?_)
      · exact absurd c21 (by decide)
      · refine X_aldn1 25 dX5_isRead_24 rfl rfl ?_
        refine X_iconst 5 26 dX5_isRead_25 (by decide) rfl ?_
        refine X_aldn1 27 dX5_isRead_26 rfl rfl ?_
        refine X_getI 30 dX5_isRead_27 fl_X5_164 rfl rfl ?_
        refine X_imul 31 dX5_isRead_30 rfl ?_
        rw [h14, show (5 : Int32) = nI 5 by decide, pk_mul, ← ew]
        refine X_callV1 5 34 dX5_isRead_31 cw_X5_167 zk_X5_isLine ⟨rfl, rfl⟩ rfl rfl rfl (S_X5_isLine hp (by omega) ?_)
        rw [← el]
        refine X_pu ?_
        refine X_ifne 39 37 dX5_isRead_34 (by decide) rfl (fun c34 => ?_) (fun c34 => ?_)
        · rw [b2i_n] at c34
          rw [if_neg (by rw [c34]; decide)] at h
          refine X_aldn1 40 dX5_isRead_39 rfl rfl ?_
          refine X_dup 41 dX5_isRead_40 rfl rfl ?_
          refine X_getI 44 dX5_isRead_41 fl_X5_164 rfl rfl ?_
          refine X_iconst 1 45 dX5_isRead_44 (by decide) rfl ?_
          refine X_iadd 46 dX5_isRead_45 rfl ?_
          refine X_putI 49 dX5_isRead_46 fp_X5_164 rfl rfl ?_
          refine X_aldn1 50 dX5_isRead_49 rfl rfl ?_
          refine X_callV0 5 53 dX5_isRead_50 cw_X5_125 zk_X5_nextToken ⟨rfl, rfl⟩ rfl rfl rfl (S_X5_nextToken q1 ?_)
          rw [← eb]
          refine X_pn ?_
          refine X_aldn1 54 dX5_isRead_53 rfl rfl ?_
          refine X_getL 57 dX5_isRead_54 fl_X5_108 rfl rfl ?_
          refine X_ldc2 (-3) 60 dX5_isRead_57 cl_X5_120 rfl ?_
          refine X_lcmp 61 dX5_isRead_60 rfl ?_
          refine X_ifne 77 64 dX5_isRead_61 (by decide) rfl (fun c61 => ?_) (fun c61 => ?_)
          · refine X_iconst 0 78 dX5_isRead_77 (by decide) rfl ?_
            refine X_istn0 79 dX5_isRead_78 rfl rfl rfl rfl ?_
            refine X_goto 20 dX5_isRead_79 (by decide) ?_
            rw [lcmp_0] at c61
            rw [if_neg (fun z => c61 z.1)] at h
            exact fin _ h
          · refine X_aldn1 65 dX5_isRead_64 rfl rfl ?_
            refine X_getI 68 dX5_isRead_65 fl_X5_164 rfl rfl ?_
            refine X_bipush 14 70 dX5_isRead_68 (by decide) rfl ?_
            refine X_icge 77 73 dX5_isRead_70 (by decide) rfl (fun c70 => ?_) (fun c70 => ?_)
            · refine X_iconst 0 78 dX5_isRead_77 (by decide) rfl ?_
              refine X_istn0 79 dX5_isRead_78 rfl rfl rfl rfl ?_
              refine X_goto 20 dX5_isRead_79 (by decide) ?_
              rw [if_neg (fun z => z.2 c70)] at h
              exact fin _ h
            · refine X_iconst 1 74 dX5_isRead_73 (by decide) rfl ?_
              refine X_goto 78 dX5_isRead_74 (by decide) ?_
              refine X_istn0 79 dX5_isRead_78 rfl rfl rfl rfl ?_
              refine X_goto 20 dX5_isRead_79 (by decide) ?_
              rw [lcmp_0] at c61
              rw [if_pos ⟨c61, c70⟩] at h
              refine ih _ f1 ?_ (by omega) f14 h
              rw [f14] at c70
              by_cases z : n = 0
              · rw [z] at c70
                exact absurd (by decide) c70
              · omega
        · rw [b2i_0] at c34
          rw [if_pos c34] at h
          refine X_iconst 0 38 dX5_isRead_37 (by decide) rfl ?_
          refine X_zret dX5_isRead_38 rfl (by first | exact Or.inl rfl | exact Or.inr rfl) ?_
          exact h
  refine X_aldn0 1 dX5_isRead_0 rfl rfl ?_
  refine X_iconst 0 2 dX5_isRead_1 (by decide) rfl ?_
  refine X_putI 5 dX5_isRead_2 fp_X5_94 rfl rfl ?_
  refine X_aldn0 6 dX5_isRead_5 rfl rfl ?_
  refine X_iconst 0 7 dX5_isRead_6 (by decide) rfl ?_
  refine X_putI 10 dX5_isRead_7 fp_X5_164 rfl rfl ?_
  refine X_aldn0 11 dX5_isRead_10 rfl rfl ?_
  refine X_aldn0 12 dX5_isRead_11 rfl rfl ?_
  refine X_getI 15 dX5_isRead_12 fl_X5_72 rfl rfl ?_
  refine X_putI 18 dX5_isRead_15 fp_X5_132 rfl rfl ?_
  rw [xs_nk (show (0 : Nat) ≠ 14 by decide), xs_nk (show (0 : Nat) ≠ 8 by decide)]
  refine X_iconst 1 19 dX5_isRead_18 (by decide) rfl ?_
  refine X_istnN 20 dX5_isRead_19 rfl rfl rfl rfl ?_
  refine loop 14 (rd0 σ) (rd0_ok hv) (by decide) (by decide) ?_ h
  unfold rd0
  rw [xs_nk (by decide), xs_eq]
  rfl
theorem S_X5_fault (hv : vTm σ) (h : Q (some (.int (g_fault σ).1)) (g_fault σ).2) : xg_C (d + 6) mX5_fault [.ref 36] σ Q := by
  refine xg_C_of py_X5_fault (Nat.le_of_ble_eq_true rfl) ?_
  show xg_X none (d + 6) mX5_fault 0 [(0, .ref 36)] [] σ Q
  unfold g_fault at h
  refine X_aldn0 1 dX5_fault_0 rfl rfl ?_
  refine X_callV0 5 4 dX5_fault_1 cw_X5_170 zk_X5_isRead ⟨rfl, rfl⟩ rfl rfl rfl (S_X5_isRead hv ?_)
  refine X_pu ?_
  refine X_ifeq 11 7 dX5_fault_4 (by decide) rfl (fun c4 => ?_) (fun c4 => ?_)
  · refine X_aldn0 12 dX5_fault_11 rfl rfl ?_
    refine X_getI 15 dX5_fault_12 fl_X5_122 rfl rfl ?_
    refine X_iret dX5_fault_15 rfl ?_
    grind [b2i]
  · refine X_iconst (-1) 8 dX5_fault_7 (by decide) rfl ?_
    refine X_goto 15 dX5_fault_8 (by decide) ?_
    refine X_iret dX5_fault_15 rfl ?_
    grind [b2i]
end REF10
