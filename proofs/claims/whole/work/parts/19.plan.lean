/-! the planner: cost, end, first deed, rank of the best way so far -/
abbrev plP : Type := Int32 × Int32 × Int32 × Int32
def plM (σ : xm_M) (P : plP) : xm_M := xm_set (xm_set (xm_set (xm_set σ 21 0 P.1) 21 1 P.2.1) 21 2 P.2.2.1) 21 3 P.2.2.2
theorem plM_ne {σ : xm_M} {P : plP} {c : Nat} (h : c ≠ 21) : (plM σ P).1 c = σ.1 c := by funext k; rw [plM, xs_ne h, xs_ne h, xs_ne h, xs_ne h]
theorem plM_3 {σ : xm_M} {P : plP} : (plM σ P).1 21 3 = P.2.2.2 := xs_eq
theorem plM_2 {σ : xm_M} {P : plP} : (plM σ P).1 21 2 = P.2.2.1 := by rw [plM, xs_nk (by decide), xs_eq]
theorem plM_1 {σ : xm_M} {P : plP} : (plM σ P).1 21 1 = P.2.1 := by rw [plM, xs_nk (by decide), xs_nk (by decide), xs_eq]
theorem plM_0 {σ : xm_M} {P : plP} : (plM σ P).1 21 0 = P.1 := by rw [plM, xs_nk (by decide), xs_nk (by decide), xs_nk (by decide), xs_eq]
theorem plM_set {σ : xm_M} {P : plP} {a b c e : Int32} : xm_set (xm_set (xm_set (xm_set (plM σ P) 21 3 a) 21 0 b) 21 1 c) 21 2 e = plM σ (b, c, e, a) := by
  apply Prod.ext
  · funext x k
    simp only [plM, xm_set]
    grind
  · rfl
def foX (a b : Int32) : Int32 := if a = -1 then b else a
def slX (σ : xm_M) (rec : Int32 → Int32 → Int32 → Int32 → Int32 → plP → plP) (m b l g s dd h : Int32) : Nat → plP → plP
  | 0, P => P
  | t + 1, P =>
    if hb l (nI t) = false then slX σ rec m b l g s dd h t P
    else if h = 0 then rec b (l &&& ((1 <<< (nI t &&& 31)) ^^^ (-1))) g s (foX dd (10 + nI t)) (slX σ rec m b l g s dd h t P)
    else if σ.1 22 (ixN (σ.1 5 t)) = -1 then slX σ rec m b l g s dd h t P
    else if hb g (σ.1 22 (ixN (σ.1 5 t))) = true ∨ (h = 1 ∧ m < σ.1 1 8) then rec b (l &&& ((1 <<< (nI t &&& 31)) ^^^ (-1))) g s (foX dd (20 + nI t)) (slX σ rec m b l g s dd h t P)
    else rec b (l &&& ((1 <<< (nI t &&& 31)) ^^^ (-1))) (g ||| (1 <<< (σ.1 22 (ixN (σ.1 5 t)) &&& 31))) (s + σ.1 3 (ixN (σ.1 22 (ixN (σ.1 5 t))))) (foX dd (20 + nI t)) (slX σ rec m b l g s dd h t P)
def srX (σ : xm_M) : Nat → Int32 → Int32 → Int32 → Int32 → Int32 → Int32 → plP → plP
  | 0, _, _, _, _, _, _, P => P
  | f + 1, m, b, l, g, s, dd, P =>
    if P.2.2.2 ≤ s * 64 + (m + bcJ l - 1) then P
    else if l = 0 then (s, m - 1, dd, s * 64 + (m - 1))
    else if 24 ≤ m then P
    else slX σ (srX σ f (m + 1)) m b l g s dd (hX σ b m) (nX σ) (if m = 0 ∨ hb b (m - 1) = false then srX σ f (m + 1) (b ||| (1 <<< (m &&& 31))) l g s (foX dd 2) P else P)
/-- places and tools are such -/
def vPl (σ : xm_M) : Prop := (∀ t, t < nX σ → ∃ p, p < 3 ∧ σ.1 5 t = nI p) ∧ ∀ f, f < 3 → (σ.1 22 f = -1 ∨ ∃ t, t < 8 ∧ σ.1 22 f = nI t)
section PLAN
variable {d : Nat} {σ : xm_M} {Q : Option Value → xm_M → Prop}
theorem S_X2_firstOf {a b : Int32} (h : Q (some (.int (foX a b))) σ) : xg_C d mX2_firstOf [.int a, .int b] σ Q := by
  refine xg_C_of py_X2_firstOf (Nat.le_of_ble_eq_true rfl) ?_
  show xg_X none d mX2_firstOf 0 [(0, .int a), (1, .int b)] [] σ Q
  refine X_ildn0 1 dX2_firstOf_0 rfl rfl ?_
  refine X_iconst (-1) 2 dX2_firstOf_1 (by decide) rfl ?_
  refine X_icne 9 5 dX2_firstOf_2 (by decide) rfl (fun c2 => ?_) (fun c2 => ?_)
  · refine X_ildn0 10 dX2_firstOf_9 rfl rfl ?_
    refine X_iret dX2_firstOf_10 rfl ?_
    refine Qi h ?_
    grind [foX]
  · refine X_ildn1 6 dX2_firstOf_5 rfl rfl ?_
    refine X_goto 10 dX2_firstOf_6 (by decide) ?_
    refine X_iret dX2_firstOf_10 rfl ?_
    refine Qi h ?_
    grind [foX]
theorem S_X2_rankOf {a b : Int32} (h : Q (some (.int (a * 64 + b))) σ) : xg_C d mX2_rankOf [.int a, .int b] σ Q := by
  refine xg_C_of py_X2_rankOf (Nat.le_of_ble_eq_true rfl) ?_
  show xg_X none d mX2_rankOf 0 [(0, .int a), (1, .int b)] [] σ Q
  refine X_ildn0 1 dX2_rankOf_0 rfl rfl ?_
  refine X_bipush 64 3 dX2_rankOf_1 (by decide) rfl ?_
  refine X_imul 4 dX2_rankOf_3 rfl ?_
  refine X_ildn1 5 dX2_rankOf_4 rfl rfl ?_
  refine X_iadd 6 dX2_rankOf_5 rfl ?_
  refine X_iret dX2_rankOf_6 rfl ?_
  exact h
theorem S_X2_take {P : plP} {a b c : Int32} (h : Q none (plM σ (a, b, c, a * 64 + b))) : xg_C (d + 1) mX2_take [.ref 21, .int a, .int b, .int c] (plM σ P) Q := by
  refine xg_C_of py_X2_take (Nat.le_of_ble_eq_true rfl) ?_
  show xg_X none (d + 1) mX2_take 0 [(0, .ref 21), (1, .int a), (2, .int b), (3, .int c)] [] (plM σ P) Q
  refine X_aldn0 1 dX2_take_0 rfl rfl ?_
  refine X_ildn1 2 dX2_take_1 rfl rfl ?_
  refine X_ildn2 3 dX2_take_2 rfl rfl ?_
  refine X_callS2 6 dX2_take_3 cw_X2_58 zk_X2_rankOf rfl rfl (S_X2_rankOf ?_)
  refine X_pu ?_
  refine X_putI 9 dX2_take_6 fp_X2_16 rfl rfl ?_
  refine X_aldn0 10 dX2_take_9 rfl rfl ?_
  refine X_ildn1 11 dX2_take_10 rfl rfl ?_
  refine X_putI 14 dX2_take_11 fp_X2_81 rfl rfl ?_
  refine X_aldn0 15 dX2_take_14 rfl rfl ?_
  refine X_ildn2 16 dX2_take_15 rfl rfl ?_
  refine X_putI 19 dX2_take_16 fp_X2_84 rfl rfl ?_
  refine X_aldn0 20 dX2_take_19 rfl rfl ?_
  refine X_ildn3 21 dX2_take_20 rfl rfl ?_
  refine X_putI 24 dX2_take_21 fp_X2_87 rfl rfl ?_
  refine X_vret dX2_take_24 rfl ?_
  rw [plM_set]
  exact h
theorem S_X2_search (hv : vX σ) (hh : vH σ) (hp : vPl σ) : ∀ (f mi : Nat) (b l g s dd : Int32) (P : plP) (Q : Option Value → xm_M → Prop), mi ≤ 24 → 25 ≤ mi + f → Q none (plM σ (srX σ f (nI mi) b l g s dd P)) → xg_C (f + d + 2) mX2_search [.ref 21, .ref 1, .int (nI mi), .int b, .int l, .int g, .int s, .int dd] (plM σ P) Q := by
  intro f
  induction f with
  | zero => intro mi b l g s dd P Q h1 h2; omega
  | succ f ihf =>
    intro mi b l g s dd P Q h1 h2 h
    have e1 : ∀ P : plP, (plM σ P).1 1 = σ.1 1 := fun P => plM_ne (by decide)
    have vv : ∀ P : plP, vX (plM σ P) := fun P => vX_of (e1 P) hv
    have vh : ∀ P : plP, vH (plM σ P) := fun P => vH_of (e1 P) hh
    have eh : ∀ (P : plP) (x y : Int32), hX (plM σ P) x y = hX σ x y := fun P x y => by unfold hX wX cX; rw [e1]
    have hn := hv.1
    have hn8 := hv.2
    rw [srX] at h
    refine xg_C_of py_X2_search (Nat.le_of_ble_eq_true rfl) ?_
    show xg_X none (f + 1 + d + 2) mX2_search 0 [(0, .ref 21), (1, .ref 1), (2, .int (nI mi)), (3, .int b), (4, .int l), (5, .int g), (6, .int s), (7, .int dd)] [] (plM σ P) Q
    have rck : mi < 24 → ∀ (b l g s dd : Int32) (P : plP) (Q : Option Value → xm_M → Prop), Q none (plM σ (srX σ f (nI mi + 1) b l g s dd P)) → xg_C (f + 1 + d + 1) mX2_search [.ref 21, .ref 1, .int (nI mi + 1), .int b, .int l, .int g, .int s, .int dd] (plM σ P) Q := by
      intro hm b l g s dd P Q h
      have := ihf (mi + 1) b l g s dd P Q (by omega) (by omega) (by rw [nI_succ]; exact h)
      rw [nI_succ, show f + d + 2 = f + 1 + d + 1 by omega] at this
      exact this
    have loop : mi < 24 → ∀ P0, Q none (plM σ (slX σ (srX σ f (nI mi + 1)) (nI mi) b l g s dd (hX σ b (nI mi)) (nX σ) P0)) → ∀ k t, t + k = nX σ → ∀ lx, xg_X none (f + 1 + d + 2) mX2_search 100 (lx ++ [(10, .int (nI t)), (9, .int (hX σ b (nI mi))), (8, .int (nI mi + 1)), (0, .ref 21), (1, .ref 1), (2, .int (nI mi)), (3, .int b), (4, .int l), (5, .int g), (6, .int s), (7, .int dd)]) [] (plM σ (slX σ (srX σ f (nI mi + 1)) (nI mi) b l g s dd (hX σ b (nI mi)) t P0)) Q := by
      intro hm P0 h k
      induction k with
      | zero =>
        intro t h2 lx
        obtain rfl : t = nX σ := by omega
        refine xg_sub (lw := [(10, .int (nI (nX σ))), (1, .ref 1)]) (fun q hq => List.mem_append_right _ (by simp at hq ⊢; rcases hq with rfl | rfl <;> simp)) ?_
        refine X_ild0 102 dX2_search_100 rfl ?_
        refine X_aldn1 103 dX2_search_102 rfl rfl ?_
        refine X_getI 106 dX2_search_103 fl_X2_20 rfl rfl ?_
        rw [e1, hn]
        refine X_icge 285 109 dX2_search_106 (by decide) rfl (fun c106 => ?_) (fun c106 => ?_)
        · refine X_vret dX2_search_285 rfl ?_
          exact h
        · exact absurd (nI_le (Nat.le_refl _) (by omega)) c106
      | succ k ih =>
        intro t h2 lx
        refine xg_sub (lw := [(10, .int (nI t)), (9, .int (hX σ b (nI mi))), (8, .int (nI mi + 1)), (0, .ref 21), (1, .ref 1), (2, .int (nI mi)), (3, .int b), (4, .int l), (5, .int g), (6, .int s), (7, .int dd)]) (fun q hq => List.mem_append_right _ hq) ?_
        obtain ⟨p, hp3, ep⟩ := hp.1 t (by omega)
        have ht8 : t < 8 := by omega
        have nxt : ∀ P' lx, slX σ (srX σ f (nI mi + 1)) (nI mi) b l g s dd (hX σ b (nI mi)) (t + 1) P0 = P' → xg_X none (f + 1 + d + 2) mX2_search 279 (lx ++ [(10, .int (nI t)), (9, .int (hX σ b (nI mi))), (8, .int (nI mi + 1)), (0, .ref 21), (1, .ref 1), (2, .int (nI mi)), (3, .int b), (4, .int l), (5, .int g), (6, .int s), (7, .int dd)]) [] (plM σ P') Q := by
          intro P' lx e
          refine xg_sub (lw := [(10, .int (nI t)), (9, .int (hX σ b (nI mi))), (8, .int (nI mi + 1)), (0, .ref 21), (1, .ref 1), (2, .int (nI mi)), (3, .int b), (4, .int l), (5, .int g), (6, .int s), (7, .int dd)]) (fun q hq => List.mem_append_right _ hq) ?_
          refine X_inc0 1 282 dX2_search_279 (by decide) rfl rfl rfl ?_
          refine X_goto 100 dX2_search_282 (by decide) ?_
          rw [← e]
          exact xg_lv (by rw [nI_succ]; rfl) (ih (t + 1) (by omega) [])
        rw [slX] at nxt
        refine X_ild0 102 dX2_search_100 rfl ?_
        refine X_aldn4 103 dX2_search_102 rfl rfl ?_
        refine X_getI 106 dX2_search_103 fl_X2_20 rfl rfl ?_
        rw [e1, hn]
        refine X_icge 285 109 dX2_search_106 (by decide) rfl (fun c106 => ?_) (fun c106 => ?_)
        · have c106 := leq c106 rfl (by omega) (by omega)
          omega
        · refine X_ild7 111 dX2_search_109 rfl ?_
          refine X_ild0 113 dX2_search_111 rfl ?_
          refine X_callN2 116 dX2_search_113 cn_X2_25 cw_X2_25 zk_X4_hasBit rfl rfl (S_X4_hasBit ?_)
          refine X_pu ?_
          refine X_ifne 122 119 dX2_search_116 (by decide) rfl (fun c116 => ?_) (fun c116 => ?_)
          · rw [b2i_n] at c116
            rw [if_neg (by rw [c116]; decide)] at nxt
            have ep2 : ixN (σ.1 5 t) = p := by rw [ep, ixN_nI (by omega)]
            rw [ep2] at nxt
            refine X_ild7 124 dX2_search_122 rfl ?_
            refine X_iconst 1 125 dX2_search_124 (by decide) rfl ?_
            refine X_ild0 127 dX2_search_125 rfl ?_
            refine X_ishl 128 dX2_search_127 rfl ?_
            refine X_iconst (-1) 129 dX2_search_128 (by decide) rfl ?_
            refine X_ixor 130 dX2_search_129 rfl ?_
            refine X_iand 131 dX2_search_130 rfl ?_
            refine X_istN 133 dX2_search_131 rfl rfl rfl ?_
            refine X_aldn4 134 dX2_search_133 rfl rfl ?_
            refine X_getA 22 137 dX2_search_134 fl_X2_9 rfl rfl ?_
            refine X_aldn5 138 dX2_search_137 rfl rfl ?_
            refine X_getA 5 141 dX2_search_138 fl_X2_72 rfl rfl ?_
            refine X_ild1 143 dX2_search_141 rfl ?_
            refine X_ialk t 144 dX2_search_143 rfl rfl rfl ht8 ?_
            refine X_ialk p 145 dX2_search_144 rfl rfl (by rw [plM_ne (by decide)]; exact ep) hp3 ?_
            rw [plM_ne (by decide)]
            refine X_istN 147 dX2_search_145 rfl rfl rfl ?_
            refine X_ild3 149 dX2_search_147 rfl ?_
            refine X_ifne 179 152 dX2_search_149 (by decide) rfl (fun c149 => ?_) (fun c149 => ?_)
            · refine X_ild0 181 dX2_search_179 rfl ?_
              refine X_iconst (-1) 182 dX2_search_181 (by decide) rfl ?_
              refine X_iceq 236 185 dX2_search_182 (by decide) rfl (fun c182 => ?_) (fun c182 => ?_)
              · refine X_ild0 238 dX2_search_236 rfl ?_
                refine X_iconst (-1) 239 dX2_search_238 (by decide) rfl ?_
                refine X_iceq 279 242 dX2_search_239 (by decide) rfl (fun c239 => ?_) (fun c239 => ?_)
                · skip
                  refine nxt _ [_, _] ?_
                  rw [if_neg c149, if_pos c239]
                · exact absurd c182 c239
              · obtain ⟨tt, htt, ett⟩ := (hp.2 p hp3).resolve_left c182
                refine X_ild10 187 dX2_search_185 rfl ?_
                refine X_ild0 189 dX2_search_187 rfl ?_
                refine X_callN2 192 dX2_search_189 cn_X2_25 cw_X2_25 zk_X4_hasBit rfl rfl (S_X4_hasBit ?_)
                refine X_pu ?_
                refine X_ifne 209 195 dX2_search_192 (by decide) rfl (fun c192 => ?_) (fun c192 => ?_)
                · refine X_aldn5 210 dX2_search_209 rfl rfl ?_
                  refine X_aldn6 211 dX2_search_210 rfl rfl ?_
                  refine X_ild4 213 dX2_search_211 rfl ?_
                  refine X_ildn8 214 dX2_search_213 rfl rfl ?_
                  refine X_ild1 216 dX2_search_214 rfl ?_
                  refine X_ild10 218 dX2_search_216 rfl ?_
                  refine X_ild11 220 dX2_search_218 rfl ?_
                  refine X_ild12 222 dX2_search_220 rfl ?_
                  refine X_bipush 20 224 dX2_search_222 (by decide) rfl ?_
                  refine X_ild2 226 dX2_search_224 rfl ?_
                  refine X_iadd 227 dX2_search_226 rfl ?_
                  refine X_callS2 230 dX2_search_227 cw_X2_66 zk_X2_firstOf rfl rfl (S_X2_firstOf ?_)
                  refine X_pu ?_
                  refine X_callV7 2 233 dX2_search_230 cw_X2_48 zk_X2_search ⟨rfl, rfl⟩ rfl rfl rfl (rck hm _ _ _ _ _ _ _ ?_)
                  refine X_pn ?_
                  refine X_goto 279 dX2_search_233 (by decide) ?_
                  refine nxt _ [_, _] ?_
                  rw [if_neg c149, if_neg c182, if_pos (Or.inl (b2i_n.mp c192))]
                · refine X_ild3 197 dX2_search_195 rfl ?_
                  refine X_iconst 1 198 dX2_search_197 (by decide) rfl ?_
                  refine X_icne 236 201 dX2_search_198 (by decide) rfl (fun c198 => ?_) (fun c198 => ?_)
                  · refine X_ild0 238 dX2_search_236 rfl ?_
                    refine X_iconst (-1) 239 dX2_search_238 (by decide) rfl ?_
                    refine X_iceq 279 242 dX2_search_239 (by decide) rfl (fun c239 => ?_) (fun c239 => ?_)
                    · exact absurd c239 c182
                    · skip
                      refine X_aldn5 243 dX2_search_242 rfl rfl ?_
                      refine X_aldn6 244 dX2_search_243 rfl rfl ?_
                      refine X_ild4 246 dX2_search_244 rfl ?_
                      refine X_ildn8 247 dX2_search_246 rfl rfl ?_
                      refine X_ild1 249 dX2_search_247 rfl ?_
                      refine X_ild10 251 dX2_search_249 rfl ?_
                      refine X_iconst 1 252 dX2_search_251 (by decide) rfl ?_
                      refine X_ild0 254 dX2_search_252 rfl ?_
                      refine X_ishl 255 dX2_search_254 rfl ?_
                      refine X_ior 256 dX2_search_255 rfl ?_
                      refine X_ild11 258 dX2_search_256 rfl ?_
                      refine X_aldn6 259 dX2_search_258 rfl rfl ?_
                      refine X_getA 3 262 dX2_search_259 fl_X2_78 rfl rfl ?_
                      refine X_ild0 264 dX2_search_262 rfl ?_
                      refine X_ialk tt 265 dX2_search_264 rfl rfl ett htt ?_
                      rw [plM_ne (by decide)]
                      refine X_iadd 266 dX2_search_265 rfl ?_
                      refine X_ild12 268 dX2_search_266 rfl ?_
                      refine X_bipush 20 270 dX2_search_268 (by decide) rfl ?_
                      refine X_ild2 272 dX2_search_270 rfl ?_
                      refine X_iadd 273 dX2_search_272 rfl ?_
                      refine X_callS2 276 dX2_search_273 cw_X2_66 zk_X2_firstOf rfl rfl (S_X2_firstOf ?_)
                      refine X_pu ?_
                      refine X_callV7 2 279 dX2_search_276 cw_X2_48 zk_X2_search ⟨rfl, rfl⟩ rfl rfl rfl (rck hm _ _ _ _ _ _ _ ?_)
                      refine X_pn ?_
                      refine nxt _ [_, _] ?_
                      rw [if_neg c149, if_neg c182, if_neg (fun q => q.elim (fun q => by rw [b2i_0.mp c192] at q; cases q) (fun q => c198 q.1)), ett, ixN_nI (by omega)]
                  · refine X_ildn7 202 dX2_search_201 rfl rfl ?_
                    refine X_aldn6 203 dX2_search_202 rfl rfl ?_
                    refine X_getI 206 dX2_search_203 fl_X2_75 rfl rfl ?_
                    rw [e1]
                    refine X_icge 236 209 dX2_search_206 (by decide) rfl (fun c206 => ?_) (fun c206 => ?_)
                    · refine X_ild0 238 dX2_search_236 rfl ?_
                      refine X_iconst (-1) 239 dX2_search_238 (by decide) rfl ?_
                      refine X_iceq 279 242 dX2_search_239 (by decide) rfl (fun c239 => ?_) (fun c239 => ?_)
                      · exact absurd c239 c182
                      · skip
                        refine X_aldn5 243 dX2_search_242 rfl rfl ?_
                        refine X_aldn6 244 dX2_search_243 rfl rfl ?_
                        refine X_ild4 246 dX2_search_244 rfl ?_
                        refine X_ildn8 247 dX2_search_246 rfl rfl ?_
                        refine X_ild1 249 dX2_search_247 rfl ?_
                        refine X_ild10 251 dX2_search_249 rfl ?_
                        refine X_iconst 1 252 dX2_search_251 (by decide) rfl ?_
                        refine X_ild0 254 dX2_search_252 rfl ?_
                        refine X_ishl 255 dX2_search_254 rfl ?_
                        refine X_ior 256 dX2_search_255 rfl ?_
                        refine X_ild11 258 dX2_search_256 rfl ?_
                        refine X_aldn6 259 dX2_search_258 rfl rfl ?_
                        refine X_getA 3 262 dX2_search_259 fl_X2_78 rfl rfl ?_
                        refine X_ild0 264 dX2_search_262 rfl ?_
                        refine X_ialk tt 265 dX2_search_264 rfl rfl ett htt ?_
                        rw [plM_ne (by decide)]
                        refine X_iadd 266 dX2_search_265 rfl ?_
                        refine X_ild12 268 dX2_search_266 rfl ?_
                        refine X_bipush 20 270 dX2_search_268 (by decide) rfl ?_
                        refine X_ild2 272 dX2_search_270 rfl ?_
                        refine X_iadd 273 dX2_search_272 rfl ?_
                        refine X_callS2 276 dX2_search_273 cw_X2_66 zk_X2_firstOf rfl rfl (S_X2_firstOf ?_)
                        refine X_pu ?_
                        refine X_callV7 2 279 dX2_search_276 cw_X2_48 zk_X2_search ⟨rfl, rfl⟩ rfl rfl rfl (rck hm _ _ _ _ _ _ _ ?_)
                        refine X_pn ?_
                        refine nxt _ [_, _] ?_
                        rw [if_neg c149, if_neg c182, if_neg (fun q => q.elim (fun q => by rw [b2i_0.mp c192] at q; cases q) (fun q => absurd c206 (by rw [i_nle]; exact q.2))), ett, ixN_nI (by omega)]
                    · refine X_aldn5 210 dX2_search_209 rfl rfl ?_
                      refine X_aldn6 211 dX2_search_210 rfl rfl ?_
                      refine X_ild4 213 dX2_search_211 rfl ?_
                      refine X_ildn8 214 dX2_search_213 rfl rfl ?_
                      refine X_ild1 216 dX2_search_214 rfl ?_
                      refine X_ild10 218 dX2_search_216 rfl ?_
                      refine X_ild11 220 dX2_search_218 rfl ?_
                      refine X_ild12 222 dX2_search_220 rfl ?_
                      refine X_bipush 20 224 dX2_search_222 (by decide) rfl ?_
                      refine X_ild2 226 dX2_search_224 rfl ?_
                      refine X_iadd 227 dX2_search_226 rfl ?_
                      refine X_callS2 230 dX2_search_227 cw_X2_66 zk_X2_firstOf rfl rfl (S_X2_firstOf ?_)
                      refine X_pu ?_
                      refine X_callV7 2 233 dX2_search_230 cw_X2_48 zk_X2_search ⟨rfl, rfl⟩ rfl rfl rfl (rck hm _ _ _ _ _ _ _ ?_)
                      refine X_pn ?_
                      refine X_goto 279 dX2_search_233 (by decide) ?_
                      refine nxt _ [_, _] ?_
                      rw [if_neg c149, if_neg c182, if_pos (Or.inr ⟨c198, by rw [i_nle] at c206; exact c206⟩)]
            · refine X_aldn5 153 dX2_search_152 rfl rfl ?_
              refine X_aldn6 154 dX2_search_153 rfl rfl ?_
              refine X_ild4 156 dX2_search_154 rfl ?_
              refine X_ildn8 157 dX2_search_156 rfl rfl ?_
              refine X_ild1 159 dX2_search_157 rfl ?_
              refine X_ild10 161 dX2_search_159 rfl ?_
              refine X_ild11 163 dX2_search_161 rfl ?_
              refine X_ild12 165 dX2_search_163 rfl ?_
              refine X_bipush 10 167 dX2_search_165 (by decide) rfl ?_
              refine X_ild2 169 dX2_search_167 rfl ?_
              refine X_iadd 170 dX2_search_169 rfl ?_
              refine X_callS2 173 dX2_search_170 cw_X2_66 zk_X2_firstOf rfl rfl (S_X2_firstOf ?_)
              refine X_pu ?_
              refine X_callV7 2 176 dX2_search_173 cw_X2_48 zk_X2_search ⟨rfl, rfl⟩ rfl rfl rfl (rck hm _ _ _ _ _ _ _ ?_)
              refine X_pn ?_
              refine X_goto 279 dX2_search_176 (by decide) ?_
              refine nxt _ [_, _] ?_
              rw [if_pos c149]
          · rw [b2i_0] at c116
            refine X_goto 279 dX2_search_119 (by decide) ?_
            refine nxt _ [] ?_
            rw [if_pos c116]
    have e21 : (plM σ P).1 21 3 = P.2.2.2 := plM_3
    have mid : mi < 24 → ∀ P0, Q none (plM σ (slX σ (srX σ f (nI mi + 1)) (nI mi) b l g s dd (hX σ b (nI mi)) (nX σ) P0)) → xg_X none (f + 1 + d + 2) mX2_search 89 [(8, .int (nI mi + 1)), (0, .ref 21), (1, .ref 1), (2, .int (nI mi)), (3, .int b), (4, .int l), (5, .int g), (6, .int s), (7, .int dd)] [] (plM σ P0) Q := by
      intro hm P0 h
      refine X_aldn2 90 dX2_search_89 rfl rfl ?_
      refine X_ildn4 91 dX2_search_90 rfl rfl ?_
      refine X_ildn3 92 dX2_search_91 rfl rfl ?_
      refine X_callN3 95 dX2_search_92 cn_X2_69 cw_X2_69 zk_X4_handIn rfl rfl (S_X4_handIn (vh _) ?_)
      rw [eh]
      refine X_pu ?_
      refine X_istN 97 dX2_search_95 rfl rfl rfl ?_
      refine X_iconst 0 98 dX2_search_97 (by decide) rfl ?_
      refine X_istN 100 dX2_search_98 rfl rfl rfl ?_
      exact loop hm P0 h (nX σ) 0 (by omega) []
    refine X_ild6 2 dX2_search_0 rfl ?_
    refine X_ildn2 3 dX2_search_2 rfl rfl ?_
    refine X_ild4 5 dX2_search_3 rfl ?_
    refine X_callS1 8 dX2_search_5 cw_X2_52 zk_J6_bitCount_0f7a4 rfl rfl (S_J6_bitCount_0f7a4 ?_)
    refine X_pu ?_
    refine X_iadd 9 dX2_search_8 rfl ?_
    refine X_iconst 1 10 dX2_search_9 (by decide) rfl ?_
    refine X_isub 11 dX2_search_10 rfl ?_
    refine X_callS2 14 dX2_search_11 cw_X2_58 zk_X2_rankOf rfl rfl (S_X2_rankOf ?_)
    refine X_pu ?_
    refine X_aldn0 15 dX2_search_14 rfl rfl ?_
    refine X_getI 18 dX2_search_15 fl_X2_16 rfl rfl ?_
    rw [e21]
    refine X_iclt 22 21 dX2_search_18 (by decide) rfl (fun c18 => ?_) (fun c18 => ?_)
    · rw [if_neg (by rw [i_nle]; exact c18)] at h
      refine X_ild4 24 dX2_search_22 rfl ?_
      refine X_ifne 39 27 dX2_search_24 (by decide) rfl (fun c24 => ?_) (fun c24 => ?_)
      · rw [if_neg c24] at h
        refine X_ildn2 40 dX2_search_39 rfl rfl ?_
        refine X_bipush 24 42 dX2_search_40 (by decide) rfl ?_
        refine X_iclt 46 45 dX2_search_42 (by decide) rfl (fun c42 => ?_) (fun c42 => ?_)
        · have hm : mi < 24 := (nI_ltI (b := 24) (by omega) (by decide)).mp c42
          rw [if_neg (by rw [i_nle]; exact c42)] at h
          refine X_ildn2 47 dX2_search_46 rfl rfl ?_
          refine X_iconst 1 48 dX2_search_47 (by decide) rfl ?_
          refine X_iadd 49 dX2_search_48 rfl ?_
          refine X_istN 51 dX2_search_49 rfl rfl rfl ?_
          refine X_ildn3 52 dX2_search_51 rfl rfl ?_
          refine X_ifeq 65 55 dX2_search_52 (by decide) rfl (fun c52 => ?_) (fun c52 => ?_)
          · refine X_aldn1 66 dX2_search_65 rfl rfl ?_
            refine X_aldn2 67 dX2_search_66 rfl rfl ?_
            refine X_ild0 69 dX2_search_67 rfl ?_
            refine X_ildn4 70 dX2_search_69 rfl rfl ?_
            refine X_iconst 1 71 dX2_search_70 (by decide) rfl ?_
            refine X_ildn3 72 dX2_search_71 rfl rfl ?_
            refine X_ishl 73 dX2_search_72 rfl ?_
            refine X_ior 74 dX2_search_73 rfl ?_
            refine X_ild5 76 dX2_search_74 rfl ?_
            refine X_ild6 78 dX2_search_76 rfl ?_
            refine X_ild7 80 dX2_search_78 rfl ?_
            refine X_ild8 82 dX2_search_80 rfl ?_
            refine X_iconst 2 83 dX2_search_82 (by decide) rfl ?_
            refine X_callS2 86 dX2_search_83 cw_X2_66 zk_X2_firstOf rfl rfl (S_X2_firstOf ?_)
            refine X_pu ?_
            refine X_callV7 2 89 dX2_search_86 cw_X2_48 zk_X2_search ⟨rfl, rfl⟩ rfl rfl rfl (rck hm _ _ _ _ _ _ _ ?_)
            refine X_pn ?_
            rw [if_pos (Or.inl c52)] at h
            exact mid hm _ h
          · refine X_ildn4 56 dX2_search_55 rfl rfl ?_
            refine X_ildn3 57 dX2_search_56 rfl rfl ?_
            refine X_iconst 1 58 dX2_search_57 (by decide) rfl ?_
            refine X_isub 59 dX2_search_58 rfl ?_
            refine X_callN2 62 dX2_search_59 cn_X2_25 cw_X2_25 zk_X4_hasBit rfl rfl (S_X4_hasBit ?_)
            refine X_pu ?_
            refine X_ifne 89 65 dX2_search_62 (by decide) rfl (fun c62 => ?_) (fun c62 => ?_)
            · rw [if_neg (fun q => q.elim c52 (fun q => c62 (by rw [q]; rfl)))] at h
              exact mid hm _ h
            · refine X_aldn1 66 dX2_search_65 rfl rfl ?_
              refine X_aldn2 67 dX2_search_66 rfl rfl ?_
              refine X_ild0 69 dX2_search_67 rfl ?_
              refine X_ildn4 70 dX2_search_69 rfl rfl ?_
              refine X_iconst 1 71 dX2_search_70 (by decide) rfl ?_
              refine X_ildn3 72 dX2_search_71 rfl rfl ?_
              refine X_ishl 73 dX2_search_72 rfl ?_
              refine X_ior 74 dX2_search_73 rfl ?_
              refine X_ild5 76 dX2_search_74 rfl ?_
              refine X_ild6 78 dX2_search_76 rfl ?_
              refine X_ild7 80 dX2_search_78 rfl ?_
              refine X_ild8 82 dX2_search_80 rfl ?_
              refine X_iconst 2 83 dX2_search_82 (by decide) rfl ?_
              refine X_callS2 86 dX2_search_83 cw_X2_66 zk_X2_firstOf rfl rfl (S_X2_firstOf ?_)
              refine X_pu ?_
              refine X_callV7 2 89 dX2_search_86 cw_X2_48 zk_X2_search ⟨rfl, rfl⟩ rfl rfl rfl (rck hm _ _ _ _ _ _ _ ?_)
              refine X_pn ?_
              rw [if_pos (Or.inr (b2i_0.mp c62))] at h
              exact mid hm _ h
        · refine X_vret dX2_search_45 rfl ?_
          rw [if_pos (by rw [i_nlt] at c42; exact c42)] at h
          exact h
      · refine X_aldn0 28 dX2_search_27 rfl rfl ?_
        refine X_ild6 30 dX2_search_28 rfl ?_
        refine X_ildn2 31 dX2_search_30 rfl rfl ?_
        refine X_iconst 1 32 dX2_search_31 (by decide) rfl ?_
        refine X_isub 33 dX2_search_32 rfl ?_
        refine X_ild7 35 dX2_search_33 rfl ?_
        refine X_callV3 2 38 dX2_search_35 cw_X2_62 zk_X2_take ⟨rfl, rfl⟩ rfl rfl rfl (S_X2_take ?_)
        refine X_pn ?_
        refine X_vret dX2_search_38 rfl ?_
        rw [if_pos c24] at h
        exact h
    · refine X_vret dX2_search_21 rfl ?_
      rw [if_pos (by rw [i_nlt] at c18; exact c18)] at h
      exact h
end PLAN
