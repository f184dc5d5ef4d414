/-! the reference: plan -/
def agN (σ : xm_M) : Nat → Nat
  | 0 => 9
  | b + 1 => if hb (σ.1 41 11) (nI b) = true then miM σ - b else agN σ b
def agC (σ : xm_M) : Nat := min (agN σ (miM σ)) 9
def tr3 (σ : xm_M) : Nat := ixN (trn σ 3)
def plQ (σ : xm_M) : Nat := 128 * agC σ + tr3 σ
def plB (σ : xm_M) : Nat := 1280 * miM σ + plQ σ
def tdI (σ : xm_M) (e : Nat) : Int32 := if e < 3 then nI e else nI e / 10 * 10 + σ.1 47 (e % 10)
def isB (σ : xm_M) (k : Nat) : Bool := decide (smK (la1 σ 3) (laM σ) (miM σ) (plQ σ) k = (laM σ).1 49 (plB σ)) && decide ((laM σ).1 50 (toA (la1 σ 3) (miM σ) (plQ σ) k) = (laM σ).1 50 (plB σ))
def plE (σ : xm_M) : Nat → Int32
  | 0 => 9999
  | k + 1 => if cdI (la1 σ 3) (dN k) (nI (agC σ)) 0 = true ∧ isB σ k = true ∧ ¬ plE σ k ≤ tdI σ (dN k) then tdI σ (dN k) else plE σ k
def g_plan (σ : xm_M) (y : Int32) : Int32 := if inB y 0 2 = false then -3 else if σ.1 36 26 = 0 then (if y = 0 then 0 else -1) else if (laM σ).1 49 (plB σ) = 9999 then -1 else if 2 ≤ y then plE σ 10 else if y = 0 then (laM σ).1 49 (plB σ) else (laM σ).1 50 (plB σ)
/-- all but the plans -/
def smT (σ τ : xm_M) : Prop := (∀ c, c ≠ 36 → c ≠ 49 → c ≠ 50 → c ≠ 51 → τ.1 c = σ.1 c) ∧ ∀ k, k ≠ 32 → τ.1 36 k = σ.1 36 k
theorem smP_la {σ : xm_M} : smT σ (laM σ) := by
  have s := tabM_sm (B := la1 σ 3) (25 - miM σ)
  exact ⟨fun c a b e f => (s c b e).trans (la1_ne f a), fun k hk => (congrFun (s 36 (by decide) (by decide)) k).trans (la1_k hk)⟩
theorem trn_8 (σ : xm_M) : ∃ x, x < 8 ∧ trn σ 3 = nI x := by
  simp only [trn]
  split <;> split <;> split
  all_goals first | exact ⟨0, by decide, by decide⟩ | exact ⟨1, by decide, by decide⟩ | exact ⟨2, by decide, by decide⟩ | exact ⟨3, by decide, by decide⟩ | exact ⟨4, by decide, by decide⟩ | exact ⟨5, by decide, by decide⟩ | exact ⟨6, by decide, by decide⟩ | exact ⟨7, by decide, by decide⟩
theorem tr3_8 (σ : xm_M) : tr3 σ < 8 ∧ trn σ 3 = nI (tr3 σ) := by
  obtain ⟨x, hx, e⟩ := trn_8 σ
  have : tr3 σ = x := by unfold tr3; rw [e, ixN_nI (by omega)]
  rw [this]
  exact ⟨hx, e⟩
theorem agN_in {σ : xm_M} (hm : miM σ ≤ 24) : ∀ b, b ≤ miM σ → 1 ≤ agN σ b ∧ agN σ b ≤ 24
  | 0, _ => ⟨by show 1 ≤ 9; decide, by show 9 ≤ 24; decide⟩
  | b + 1, h => by
    have := agN_in hm b (by omega)
    rw [agN]
    split <;> omega
theorem al_nz : ∀ k, k ≤ 4 → 1 ≤ k → ¬ nI 0 = ((1 : Int32) <<< (nI k &&& 31)) - 1 := by decide
/-- at the day's end no task is left to a plan -/
theorem la_24 {σ : xm_M} (hk : vTk σ) (h0 : ¬ σ.1 36 26 = 0) (hm : miM σ = 24) : (laM σ).1 49 (plB σ) = 9999 := by
  obtain ⟨k1, k4⟩ := hk
  have t8 := (tr3_8 σ).1
  have a9 : agC σ ≤ 9 := Nat.min_le_right _ _
  have hp : plQ σ < 1280 := by unfold plQ; omega
  have eh : plQ σ / 8 % 16 = 0 := by unfold plQ; omega
  have e26 : (la1 σ 3).1 36 26 = nI (tkMm σ) := by rw [la1_k (by decide), k1]
  have z : ¬ tkMm σ = 0 := fun q => h0 (by rw [k1, q]; rfl)
  unfold laM plB
  rw [hm]
  show (rowM (la1 σ 3) (la1 σ 3) 24 1280).1 49 (1280 * 24 + plQ σ) = 9999
  simp only [rowM]
  rw [if_pos ⟨trivial, by omega, by omega⟩, show 1280 * 24 + plQ σ - 1280 * 24 = plQ σ by omega, fnV, if_neg (fun q => absurd q.1 (by decide)), stK, eh, alM, e26, if_neg (al_nz _ k4 (by omega))]
section REFP6
variable {d : Nat} {σ : xm_M} {Q : Option Value → xm_M → Prop}
theorem S_X5_plan {y : Int32} (hx : vXm σ) (hv : vTf σ) (hm : vMm σ) (h : ∀ τ, smT σ τ → Q (some (.int (g_plan σ y))) τ) : xg_C (d + 4) mX5_plan [.ref 36, .int y] σ Q := by
  refine xg_C_of py_X5_plan (Nat.le_of_ble_eq_true rfl) ?_
  show xg_X none (d + 4) mX5_plan 0 [(0, .ref 36), (1, .int y)] [] σ Q
  obtain ⟨hm1, hm2⟩ := id hm
  have hk4 := hv.1.2
  have s4 := tabM_sm (B := la1 σ 3) (25 - miM σ)
  have sL := smP_la (σ := σ)
  have h24 := la_24 hv.1
  obtain ⟨t8, tt⟩ := tr3_8 σ
  have hag := agN_in hm2 (miM σ) (Nat.le_refl _)
  have a9 : agC σ ≤ 9 := Nat.min_le_right _ _
  have a1 : 1 ≤ agC σ := by unfold agC; omega
  have hp : plQ σ < 1280 := by unfold plQ; omega
  have p1 : plQ σ / 128 = agC σ := by unfold plQ; omega
  have p2 : plQ σ / 8 % 16 = 0 := by unfold plQ; omega
  have p3 : plQ σ % 8 = tr3 σ := by unfold plQ; omega
  have v1 : vTf (la1 σ 3) := by
    unfold vTf vTk tkMm at *
    rw [la1_k (by decide), la1_ne (by decide) (by decide), la1_ne (by decide) (by decide)]
    exact hv
  have v3 : vTo (la1 σ 3) := by
    intro f hf
    have e : (la1 σ 3).1 51 f = tuM σ f := if_pos ⟨rfl, hf⟩
    rw [e]
    by_cases c : tuM σ f = -1
    · exact Or.inl c
    · exact Or.inr (tuM_in hx c)
  have e32 : (laM σ).1 36 32 = nI (tr3 σ) := by rw [← tt, ← la1_32 (f := 3)]; exact congrFun (s4 36 (by decide) (by decide)) 32
  have e10 : (laM σ).1 41 10 = nI (miM σ) := by rw [sL.1 41 (by decide) (by decide) (by decide) (by decide)]; exact hm1
  have e11 : (laM σ).1 41 11 = σ.1 41 11 := by rw [sL.1 41 (by decide) (by decide) (by decide) (by decide)]
  have e47 : (laM σ).1 47 = σ.1 47 := sL.1 47 (by decide) (by decide) (by decide) (by decide)
  change sm4 (la1 σ 3) (laM σ) at s4
  have vk := vTf_sm s4 v1
  have mid : inB y 0 2 = true → ¬ σ.1 36 26 = 0 → ∀ r b, b + r = miM σ → xg_X none (d + 4) mX5_plan 47 [(4, .int (nI b)), (3, .int (nI (agN σ b))), (2, .int (nI (miM σ))), (0, .ref 36), (1, .int y)] [] (laM σ) Q := by
    intro cy c0 r
    induction r with
    | zero =>
      intro b hb
      obtain rfl : b = miM σ := by omega
      have ecap : (if nI (agN σ (miM σ)) ≤ 9 then nI (agN σ (miM σ)) else 9) = nI (agC σ) := (by decide : ∀ a, a ≤ 24 → (if nI a ≤ 9 then nI a else 9) = nI (min a 9)) _ hag.2
      have epl : plI (nI (miM σ)) (nI (agC σ)) 0 (nI (tr3 σ)) = nI (plB σ) := by
        have := plI_nI (m := miM σ) (a := agC σ) (h := 0) (g := tr3 σ) (by omega) (by omega) (by decide) t8
        rw [show 1280 * miM σ + (128 * min (agC σ) 9 + 8 * 0 + tr3 σ) = plB σ by unfold plB plQ; omega] at this
        exact this
      have hB : plB σ < 32000 := by unfold plB; omega
      have lst : ∀ z a, a = nI (agC σ) → xg_X none (d + 4) mX5_plan 95 [(4, .int z), (3, .int (nI (agN σ (miM σ)))), (2, .int (nI (miM σ))), (0, .ref 36), (1, .int y)] [.int a] (laM σ) Q := by
        intro z a ea
        subst ea
        have kl : ¬ (laM σ).1 49 (plB σ) = 9999 → 2 ≤ y → ∀ r k, k + r = 10 → ∀ lx, xg_X none (d + 4) mX5_plan 158 (lx ++ [(6, .int (nI k)), (5, .int (plE σ k)), (4, .int (nI (plB σ))), (3, .int (nI (agC σ))), (2, .int (nI (miM σ))), (0, .ref 36), (1, .int y)]) [] (laM σ) Q := by
          intro c9 c2 r
          have hlt : miM σ < 24 := by
            by_cases q : miM σ = 24
            · exact absurd (h24 c0 q) c9
            · omega
          induction r with
          | zero =>
            intro k hk lx
            obtain rfl : k = 10 := by omega
            refine xg_sub (lw := [(6, .int (nI 10)), (5, .int (plE σ 10)), (0, .ref 36), (1, .int y)]) (fun q hq => List.mem_append_right _ (by simp only [List.mem_cons] at hq ⊢; grind)) ?_
            have hq := h _ sL
            rw [g_plan, if_neg (by rw [cy]; decide), if_neg c0, if_neg c9, if_pos c2] at hq
            generalize plE σ 10 = v at *
            refine X_ild0 160 dX5_plan_158 rfl ?_
            refine X_bipush 10 162 dX5_plan_160 (by decide) rfl ?_
            refine X_icge 311 165 dX5_plan_162 (by decide) rfl (fun c162 => ?_) (fun c162 => ?_)
            · refine X_ild1 313 dX5_plan_311 rfl ?_
              refine X_iret dX5_plan_313 rfl ?_
              exact hq
            · exact absurd (by decide) c162
          | succ r ih =>
            intro k hk lx
            refine xg_sub (lw := [(6, .int (nI k)), (5, .int (plE σ k)), (4, .int (nI (plB σ))), (3, .int (nI (agC σ))), (2, .int (nI (miM σ))), (0, .ref 36), (1, .int y)]) (fun q hq => List.mem_append_right _ hq) ?_
            obtain ⟨dk, d24, d4⟩ := daI_dN k (by omega)
            have esm : smK (la1 σ 3) (laM σ) (miM σ) (plQ σ) k = (laM σ).1 49 (toA (la1 σ 3) (miM σ) (plQ σ) k) + csI (la1 σ 3) (dN k) (nI (miM σ)) (nI (agC σ)) (nI (tr3 σ)) := by rw [smK, p1, p3]
            have ih' := ih (k + 1) (by omega)
            clear ih
            rw [nI_succ, plE] at ih'
            have e3 : (3 : Int32) ≤ nI (dN k) ↔ ¬ dN k < 3 := by
              rw [show (3 : Int32) = nI 3 by decide, nI_leI (by decide) (by omega)]
              omega
            have fin : ∀ l10 l9 l8 w v, cdI (la1 σ 3) (dN k) (nI (agC σ)) 0 = true → w = b2i (isB σ k) → v = tdI σ (dN k) → xg_X none (d + 4) mX5_plan 282 (l10 ++ [(9, .int w), (8, .int l8), (7, .int l9), (6, .int (nI k)), (5, .int (plE σ k)), (4, .int (nI (plB σ))), (3, .int (nI (agC σ))), (2, .int (nI (miM σ))), (0, .ref 36), (1, .int y)]) [.int v] (laM σ) Q := by
              intro l10 l9 l8 w v hc ew ev
              subst ev
              refine xg_sub (lw := [(9, .int w), (8, .int l8), (7, .int l9), (6, .int (nI k)), (5, .int (plE σ k)), (4, .int (nI (plB σ))), (3, .int (nI (agC σ))), (2, .int (nI (miM σ))), (0, .ref 36), (1, .int y)]) (fun q hq => List.mem_append_right _ hq) ?_
              refine X_istN 284 dX5_plan_282 rfl rfl rfl ?_
              refine X_ild1 286 dX5_plan_284 rfl ?_
              refine X_ifeq 301 289 dX5_plan_286 (by decide) rfl (fun c286 => ?_) (fun c286 => ?_)
              · rw [ew, b2i_0] at c286
                refine X_ild5 303 dX5_plan_301 rfl ?_
                refine X_ist5 305 dX5_plan_303 rfl rfl rfl ?_
                refine X_inc4 1 308 dX5_plan_305 (by decide) rfl rfl rfl ?_
                refine X_goto 158 dX5_plan_308 (by decide) ?_
                rw [if_neg (fun q => by rw [q.2.1] at c286; exact absurd c286 (by decide))] at ih'
                exact ih' [_, _, _, _]
              · rw [ew, b2i_n] at c286
                refine X_ild0 291 dX5_plan_289 rfl ?_
                refine X_ild5 293 dX5_plan_291 rfl ?_
                refine X_icge 301 296 dX5_plan_293 (by decide) rfl (fun c293 => ?_) (fun c293 => ?_)
                · refine X_ild5 303 dX5_plan_301 rfl ?_
                  refine X_ist5 305 dX5_plan_303 rfl rfl rfl ?_
                  refine X_inc4 1 308 dX5_plan_305 (by decide) rfl rfl rfl ?_
                  refine X_goto 158 dX5_plan_308 (by decide) ?_
                  rw [if_neg (fun q => q.2.2 c293)] at ih'
                  exact ih' [_, _, _, _]
                · refine X_ild0 298 dX5_plan_296 rfl ?_
                  refine X_goto 303 dX5_plan_298 (by decide) ?_
                  refine X_ist5 305 dX5_plan_303 rfl rfl rfl ?_
                  refine X_inc4 1 308 dX5_plan_305 (by decide) rfl rfl rfl ?_
                  refine X_goto 158 dX5_plan_308 (by decide) ?_
                  rw [if_pos ⟨hc, c286, c293⟩] at ih'
                  exact ih' [_, _, _, _]
            have tel : ∀ l8 w, cdI (la1 σ 3) (dN k) (nI (agC σ)) 0 = true → w = b2i (isB σ k) → xg_X none (d + 4) mX5_plan 250 [(8, .int l8), (7, .int (nI (dN k))), (6, .int (nI k)), (5, .int (plE σ k)), (4, .int (nI (plB σ))), (3, .int (nI (agC σ))), (2, .int (nI (miM σ))), (0, .ref 36), (1, .int y)] [.int w] (laM σ) Q := by
              intro l8 w hc ew
              refine X_istN 252 dX5_plan_250 rfl rfl rfl ?_
              refine X_ild2 254 dX5_plan_252 rfl ?_
              refine X_iconst 3 255 dX5_plan_254 (by decide) rfl ?_
              refine X_icge 263 258 dX5_plan_255 (by decide) rfl (fun c255 => ?_) (fun c255 => ?_)
              · rw [e3] at c255
                refine X_ild2 265 dX5_plan_263 rfl ?_
                refine X_bipush 10 267 dX5_plan_265 (by decide) rfl ?_
                refine X_idiv 268 dX5_plan_267 rfl (by decide) ?_
                refine X_bipush 10 270 dX5_plan_268 (by decide) rfl ?_
                refine X_imul 271 dX5_plan_270 rfl ?_
                refine X_aldn8 272 dX5_plan_271 rfl rfl ?_
                refine X_getA 47 275 dX5_plan_272 fl_X5_51 rfl rfl ?_
                refine X_ild2 277 dX5_plan_275 rfl ?_
                refine X_bipush 10 279 dX5_plan_277 (by decide) rfl ?_
                refine X_irem 280 dX5_plan_279 rfl (by decide) ?_
                refine X_ialk (dN k % 10) 281 dX5_plan_280 rfl rfl (rem10 _ d24) (show dN k % 10 < 4 from d4 (by omega)) ?_
                rw [e47]
                refine X_iadd 282 dX5_plan_281 rfl ?_
                exact fin [] _ _ _ _ hc ew (by rw [tdI, if_neg c255])
              · rw [e3] at c255
                refine X_ild2 260 dX5_plan_258 rfl ?_
                refine X_goto 282 dX5_plan_260 (by decide) ?_
                exact fin [] _ _ _ _ hc ew (by rw [tdI, if_pos (by omega)])
            refine X_ild0 160 dX5_plan_158 rfl ?_
            refine X_bipush 10 162 dX5_plan_160 (by decide) rfl ?_
            refine X_icge 311 165 dX5_plan_162 (by decide) rfl (fun c162 => ?_) (fun c162 => ?_)
            · have c162 := leq c162 (n := 10) (by decide) (by decide) (by omega)
              omega
            · refine X_ild0 167 dX5_plan_165 rfl ?_
              refine X_callS1 170 dX5_plan_167 cw_X5_256 zk_X5_deedAt rfl rfl (S_X5_deedAt ?_)
              rw [dk]
              refine X_pu ?_
              refine X_istN 172 dX5_plan_170 rfl rfl rfl ?_
              refine X_aldn6 173 dX5_plan_172 rfl rfl ?_
              refine X_ild0 175 dX5_plan_173 rfl ?_
              refine X_ildn4 176 dX5_plan_175 rfl rfl ?_
              refine X_iconst 0 177 dX5_plan_176 (by decide) rfl ?_
              refine X_callV3 5 180 dX5_plan_177 cw_X5_259 zk_X5_canDo ⟨rfl, rfl⟩ rfl rfl rfl (S_X5_canDo vk d24 ?_)
              rw [cdI_sm s4]
              refine X_pu ?_
              refine X_ifeq 305 183 dX5_plan_180 (by decide) rfl (fun c180 => ?_) (fun c180 => ?_)
              · rw [b2i_0] at c180
                refine X_inc1 1 308 dX5_plan_305 (by decide) rfl rfl rfl ?_
                refine X_goto 158 dX5_plan_308 (by decide) ?_
                rw [if_neg (fun q => by rw [q.1] at c180; exact absurd c180 (by decide))] at ih'
                exact ih' [_]
              · rw [b2i_n] at c180
                have ti := to_in (p := plQ σ) v1 hlt hp (show k < 10 by omega) (by rw [p1, p2]; exact c180)
                rw [p1, p2, p3, show nI 0 = (0 : Int32) from rfl] at ti
                obtain ⟨eto, l1, l2⟩ := ti
                obtain ⟨u1, u2⟩ := cd_use c180
                refine X_aldn6 184 dX5_plan_183 rfl rfl ?_
                refine X_ild0 186 dX5_plan_184 rfl ?_
                refine X_ildn5 187 dX5_plan_186 rfl rfl ?_
                refine X_ildn4 188 dX5_plan_187 rfl rfl ?_
                refine X_iconst 0 189 dX5_plan_188 (by decide) rfl ?_
                refine X_aldn6 190 dX5_plan_189 rfl rfl ?_
                refine X_getI 193 dX5_plan_190 fl_X5_253 rfl rfl ?_
                rw [e32]
                refine X_callV5 5 196 dX5_plan_193 cw_X5_262 zk_X5_behind ⟨rfl, rfl⟩ rfl rfl rfl (S_X5_behind vk d24 (fun q => by rw [tk_sm s4]; exact u1 q) ?_)
                rw [bnI_sm s4, eto]
                refine X_pu ?_
                refine X_istN 198 dX5_plan_196 rfl rfl rfl ?_
                refine X_aldn7 199 dX5_plan_198 rfl rfl ?_
                refine X_getA 49 202 dX5_plan_199 fl_X5_57 rfl rfl ?_
                refine X_ild0 204 dX5_plan_202 rfl ?_
                refine X_ialk (toA (la1 σ 3) (miM σ) (plQ σ) k) 205 dX5_plan_204 rfl rfl rfl (show toA (la1 σ 3) (miM σ) (plQ σ) k < 32000 by omega) ?_
                refine X_aldn7 206 dX5_plan_205 rfl rfl ?_
                refine X_ild1 208 dX5_plan_206 rfl ?_
                refine X_ildn6 209 dX5_plan_208 rfl rfl ?_
                refine X_ildn5 210 dX5_plan_209 rfl rfl ?_
                refine X_aldn7 211 dX5_plan_210 rfl rfl ?_
                refine X_getI 214 dX5_plan_211 fl_X5_253 rfl rfl ?_
                rw [e32]
                refine X_callV4 5 217 dX5_plan_214 cw_X5_266 zk_X5_costOf ⟨rfl, rfl⟩ rfl rfl rfl (S_X5_costOf vk d24 (fun q => by rw [tk_sm s4, fo_sm s4, s4 51 (by decide) (by decide)]; exact ⟨u1 (by omega), (v3 _ (vTf_at v1 (u1 (by omega))).2.2.1).resolve_left (u2 q)⟩) ?_)
                rw [csI_sm s4]
                refine X_pu ?_
                refine X_iadd 218 dX5_plan_217 rfl ?_
                rw [← esm]
                refine X_aldn7 219 dX5_plan_218 rfl rfl ?_
                refine X_getA 49 222 dX5_plan_219 fl_X5_57 rfl rfl ?_
                refine X_ild4 224 dX5_plan_222 rfl ?_
                refine X_ialk (plB σ) 225 dX5_plan_224 rfl rfl rfl hB ?_
                refine X_icne 249 228 dX5_plan_225 (by decide) rfl (fun c225 => ?_) (fun c225 => ?_)
                · refine X_iconst 0 250 dX5_plan_249 (by decide) rfl ?_
                  refine tel _ _ c180 ?_
                  grind [isB, b2i]
                · refine X_aldn7 229 dX5_plan_228 rfl rfl ?_
                  refine X_getA 50 232 dX5_plan_229 fl_X5_60 rfl rfl ?_
                  refine X_ild0 234 dX5_plan_232 rfl ?_
                  refine X_ialk (toA (la1 σ 3) (miM σ) (plQ σ) k) 235 dX5_plan_234 rfl rfl rfl (show toA (la1 σ 3) (miM σ) (plQ σ) k < 32000 by omega) ?_
                  refine X_aldn7 236 dX5_plan_235 rfl rfl ?_
                  refine X_getA 50 239 dX5_plan_236 fl_X5_60 rfl rfl ?_
                  refine X_ild4 241 dX5_plan_239 rfl ?_
                  refine X_ialk (plB σ) 242 dX5_plan_241 rfl rfl rfl hB ?_
                  refine X_icne 249 245 dX5_plan_242 (by decide) rfl (fun c242 => ?_) (fun c242 => ?_)
                  · refine X_iconst 0 250 dX5_plan_249 (by decide) rfl ?_
                    refine tel _ _ c180 ?_
                    grind [isB, b2i]
                  · refine X_iconst 1 246 dX5_plan_245 (by decide) rfl ?_
                    refine X_goto 250 dX5_plan_246 (by decide) ?_
                    refine tel _ _ c180 ?_
                    grind [isB, b2i]
        have hq := h _ sL
        rw [g_plan, if_neg (by rw [cy]; decide), if_neg c0] at hq
        refine X_istn1 96 dX5_plan_95 rfl rfl rfl rfl ?_
        refine X_ildn2 97 dX5_plan_96 rfl rfl ?_
        refine X_ildn1 98 dX5_plan_97 rfl rfl ?_
        refine X_iconst 0 99 dX5_plan_98 (by decide) rfl ?_
        refine X_aldn3 100 dX5_plan_99 rfl rfl ?_
        refine X_getI 103 dX5_plan_100 fl_X5_253 rfl rfl ?_
        rw [e32]
        refine X_callS4 106 dX5_plan_103 cw_X5_246 zk_X5_placeOf rfl rfl (S_X5_placeOf ?_)
        rw [epl]
        refine X_pu ?_
        refine X_ist0 108 dX5_plan_106 rfl rfl rfl ?_
        refine X_aldn3 109 dX5_plan_108 rfl rfl ?_
        refine X_getA 49 112 dX5_plan_109 fl_X5_57 rfl rfl ?_
        refine X_ild0 114 dX5_plan_112 rfl ?_
        refine X_ialk (plB σ) 115 dX5_plan_114 rfl rfl rfl hB ?_
        refine X_sipush 9999 118 dX5_plan_115 (by decide) rfl ?_
        refine X_icne 123 121 dX5_plan_118 (by decide) rfl (fun c118 => ?_) (fun c118 => ?_)
        · refine X_ildn4 124 dX5_plan_123 rfl rfl ?_
          refine X_iconst 2 125 dX5_plan_124 (by decide) rfl ?_
          refine X_icge 150 128 dX5_plan_125 (by decide) rfl (fun c125 => ?_) (fun c125 => ?_)
          · refine X_sipush 9999 153 dX5_plan_150 (by decide) rfl ?_
            refine X_istN 155 dX5_plan_153 rfl rfl rfl ?_
            refine X_iconst 0 156 dX5_plan_155 (by decide) rfl ?_
            refine X_istN 158 dX5_plan_156 rfl rfl rfl ?_
            exact kl c118 c125 10 0 rfl []
          · refine X_ildn4 129 dX5_plan_128 rfl rfl ?_
            refine X_ifne 142 132 dX5_plan_129 (by decide) rfl (fun c129 => ?_) (fun c129 => ?_)
            · refine X_aldn3 143 dX5_plan_142 rfl rfl ?_
              refine X_getA 50 146 dX5_plan_143 fl_X5_60 rfl rfl ?_
              refine X_ild0 148 dX5_plan_146 rfl ?_
              refine X_ialk (plB σ) 149 dX5_plan_148 rfl rfl rfl hB ?_
              refine X_iret dX5_plan_149 rfl ?_
              rw [if_neg c118, if_neg c125] at hq
              grind
            · refine X_aldn3 133 dX5_plan_132 rfl rfl ?_
              refine X_getA 49 136 dX5_plan_133 fl_X5_57 rfl rfl ?_
              refine X_ild0 138 dX5_plan_136 rfl ?_
              refine X_ialk (plB σ) 139 dX5_plan_138 rfl rfl rfl hB ?_
              refine X_goto 149 dX5_plan_139 (by decide) ?_
              refine X_iret dX5_plan_149 rfl ?_
              rw [if_neg c118, if_neg c125] at hq
              grind
        · refine X_iconst (-1) 122 dX5_plan_121 (by decide) rfl ?_
          refine X_iret dX5_plan_122 rfl ?_
          rw [if_pos c118] at hq
          exact hq
      refine X_ild0 49 dX5_plan_47 rfl ?_
      refine X_ildn2 50 dX5_plan_49 rfl rfl ?_
      refine X_icge 83 53 dX5_plan_50 (by decide) rfl (fun c50 => ?_) (fun c50 => ?_)
      · refine X_ildn1 84 dX5_plan_83 rfl rfl ?_
        refine X_bipush 9 86 dX5_plan_84 (by decide) rfl ?_
        refine X_icle 94 89 dX5_plan_86 (by decide) rfl (fun c86 => ?_) (fun c86 => ?_)
        · refine X_ildn1 95 dX5_plan_94 rfl rfl ?_
          rw [if_pos c86] at ecap
          exact lst _ _ ecap
        · refine X_bipush 9 91 dX5_plan_89 (by decide) rfl ?_
          refine X_goto 95 dX5_plan_91 (by decide) ?_
          rw [if_neg c86] at ecap
          exact lst _ _ ecap
      · exact absurd (nI_le (Nat.le_refl _) (by omega)) c50
    | succ r ih =>
      intro b hb
      have ih' := ih (b + 1) (by omega)
      clear ih
      rw [nI_succ, agN] at ih'
      refine X_ild0 49 dX5_plan_47 rfl ?_
      refine X_ildn2 50 dX5_plan_49 rfl rfl ?_
      refine X_icge 83 53 dX5_plan_50 (by decide) rfl (fun c50 => ?_) (fun c50 => ?_)
      · have c50 := leq c50 rfl (by omega) (by omega)
        omega
      · refine X_aldn3 54 dX5_plan_53 rfl rfl ?_
        refine X_getA 41 57 dX5_plan_54 fl_X5_32 rfl rfl ?_
        refine X_bipush 11 59 dX5_plan_57 (by decide) rfl ?_
        refine X_ialk 11 60 dX5_plan_59 rfl rfl (by decide) (by decide) ?_
        refine X_ild0 62 dX5_plan_60 rfl ?_
        rw [e11]
        refine X_callS2 65 dX5_plan_62 cw_X5_177 zk_X5_has rfl rfl (S_X5_has ?_)
        refine X_pu ?_
        refine X_ifeq 75 68 dX5_plan_65 (by decide) rfl (fun c65 => ?_) (fun c65 => ?_)
        · rw [b2i_0] at c65
          refine X_ildn1 76 dX5_plan_75 rfl rfl ?_
          refine X_istn1 77 dX5_plan_76 rfl rfl rfl rfl ?_
          refine X_inc0 1 80 dX5_plan_77 (by decide) rfl rfl rfl ?_
          refine X_goto 47 dX5_plan_80 (by decide) ?_
          rw [if_neg (by rw [c65]; decide)] at ih'
          exact ih'
        · rw [b2i_n] at c65
          refine X_ildn2 69 dX5_plan_68 rfl rfl ?_
          refine X_ild0 71 dX5_plan_69 rfl ?_
          refine X_isub 72 dX5_plan_71 rfl ?_
          refine X_goto 76 dX5_plan_72 (by decide) ?_
          refine X_istn1 77 dX5_plan_76 rfl rfl rfl rfl ?_
          refine X_inc0 1 80 dX5_plan_77 (by decide) rfl rfl rfl ?_
          refine X_goto 47 dX5_plan_80 (by decide) ?_
          rw [if_pos c65] at ih'
          rw [pk_sub (by omega)]
          exact ih'
  refine X_ildn1 1 dX5_plan_0 rfl rfl ?_
  refine X_iconst 0 2 dX5_plan_1 (by decide) rfl ?_
  refine X_iconst 2 3 dX5_plan_2 (by decide) rfl ?_
  refine X_callS3 6 dX5_plan_3 cw_X5_87 zk_X5_in rfl rfl (S_X5_in ?_)
  refine X_pu ?_
  refine X_ifne 12 9 dX5_plan_6 (by decide) rfl (fun c6 => ?_) (fun c6 => ?_)
  · rw [b2i_n] at c6
    refine X_aldn0 13 dX5_plan_12 rfl rfl ?_
    refine X_getI 16 dX5_plan_13 fl_X5_81 rfl rfl ?_
    refine X_ifne 29 19 dX5_plan_16 (by decide) rfl (fun c16 => ?_) (fun c16 => ?_)
    · refine X_aldn0 30 dX5_plan_29 rfl rfl ?_
      refine X_callV0 5 33 dX5_plan_30 cw_X5_269 zk_X5_layPlans ⟨rfl, rfl⟩ rfl rfl rfl (S_X5_layPlans hx hv hm ?_)
      refine X_pn ?_
      refine X_aldn0 34 dX5_plan_33 rfl rfl ?_
      refine X_getA 41 37 dX5_plan_34 fl_X5_32 rfl rfl ?_
      refine X_bipush 10 39 dX5_plan_37 (by decide) rfl ?_
      refine X_ialk 10 40 dX5_plan_39 rfl rfl (by decide) (by decide) ?_
      rw [e10]
      refine X_istnN 41 dX5_plan_40 rfl rfl rfl rfl ?_
      refine X_bipush 9 43 dX5_plan_41 (by decide) rfl ?_
      refine X_istnN 44 dX5_plan_43 rfl rfl rfl rfl ?_
      refine X_iconst 0 45 dX5_plan_44 (by decide) rfl ?_
      refine X_istN 47 dX5_plan_45 rfl rfl rfl ?_
      exact mid c6 c16 (miM σ) 0 (by omega)
    · refine X_ildn1 20 dX5_plan_19 rfl rfl ?_
      refine X_ifne 27 23 dX5_plan_20 (by decide) rfl (fun c20 => ?_) (fun c20 => ?_)
      · refine X_iconst (-1) 28 dX5_plan_27 (by decide) rfl ?_
        refine X_iret dX5_plan_28 rfl ?_
        refine Qi (h _ ⟨fun _ _ _ _ _ => rfl, fun _ _ => rfl⟩) ?_
        grind [g_plan]
      · refine X_iconst 0 24 dX5_plan_23 (by decide) rfl ?_
        refine X_goto 28 dX5_plan_24 (by decide) ?_
        refine X_iret dX5_plan_28 rfl ?_
        refine Qi (h _ ⟨fun _ _ _ _ _ => rfl, fun _ _ => rfl⟩) ?_
        grind [g_plan]
  · rw [b2i_0] at c6
    refine X_bipush (-3) 11 dX5_plan_9 (by decide) rfl ?_
    refine X_iret dX5_plan_11 rfl ?_
    refine Qi (h _ ⟨fun _ _ _ _ _ => rfl, fun _ _ => rfl⟩) ?_
    grind [g_plan]
end REFP6
