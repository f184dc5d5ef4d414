/-! what is left alone is kept -/
section CG
variable {α β α' β' : xm_M}
theorem nX_of {σ τ : xm_M} (h : τ.1 1 = σ.1 1) : nX τ = nX σ := by unfold nX; rw [h]
theorem isK_of {σ τ : xm_M} (h : τ.1 47 = σ.1 47) (x : Int32) : ∀ n, isK τ x n = isK σ x n
  | 0 => rfl
  | n + 1 => by rw [isK, isK, isK_of h x n, h]
theorem iDy_cg {n : Nat} {D R D' R' : Nat → Int32} (hn : n ≤ 8) (hD : ∀ k, k < 6 → D' k = D k) (hR : ∀ k, k < 12 → R' k = R k) (h : iDy n D R) : iDy n D' R' := by
  obtain ⟨h1, h2, h3, r10, r11, r8, r9, hg⟩ := h
  unfold iDy iDz
  rw [hD 0 (by decide), hD 1 (by decide), hD 2 (by decide), hD 3 (by decide), hD 4 (by decide), hD 5 (by decide), hR 10 (by decide), hR 11 (by decide), hR 8 (by decide), hR 9 (by decide)]
  exact ⟨h1, h2, h3, r10, r11, r8, r9, fun t ht => by rw [hR t (by omega)]; exact hg t ht⟩
theorem iCo_cg (hx : ∀ c, 1 ≤ c → c ≤ 6 → α'.1 c = α.1 c) (h0 : β'.1 36 0 = β.1 36 0) (h3 : β'.1 36 3 = β.1 36 3) (h4 : β'.1 36 4 = β.1 36 4) (h5 : β'.1 36 5 = β.1 36 5) (h37 : β'.1 37 = β.1 37) (h38 : β'.1 38 = β.1 38) (h : iCo α β) : iCo α' β' := by
  have e1 := hx 1 (by decide) (by decide)
  have e2 := hx 2 (by decide) (by decide)
  have e3 := hx 3 (by decide) (by decide)
  have e4 := hx 4 (by decide) (by decide)
  have e5 := hx 5 (by decide) (by decide)
  have e6 := hx 6 (by decide) (by decide)
  unfold iCo iTh vX vH nX wX cX at *
  simp only [e1, e2, e3, e4, e5, e6, h0, h3, h4, h5, h37, h38]
  exact h
theorem iPa_cg (h18 : α'.1 18 = α.1 18) (h06 : α'.1 0 6 = α.1 0 6) (hn : nX α' = nX α) (hd : ∀ c, 26 ≤ c → c ≤ 33 → α'.1 c = α.1 c) (h22 : β'.1 36 22 = β.1 36 22) (h45 : β'.1 45 = β.1 45) (h : iPa α β) : iPa α' β' := by
  obtain ⟨v, inj, e22, hd'⟩ := h
  have ep : pdX α' = pdX α := funext fun i => by unfold pdX; rw [h18]
  have ec : pcX α' = pcX α := by unfold pcX; rw [h06]
  refine ⟨?_, ?_, ?_, ?_⟩
  · unfold vPa; rw [ep, ec, h18, h06]; exact v
  · rw [ep]; exact inj
  · rw [h22, h06]; exact e22
  · intro i hi
    rw [ec] at hi
    have q := v.1 i (by have := v.2.2; omega)
    rw [ep, hn, h45, hd _ q.2.1 q.2.2]
    exact hd' i hi
theorem iKp_cg (h19 : α'.1 19 = α.1 19) (h8 : α'.1 0 8 = α.1 0 8) (hn : nX α' = nX α) (hd : ∀ c, 34 ≤ c → c ≤ 35 → α'.1 c = α.1 c) (h43 : β'.1 43 = β.1 43) (h44 : β'.1 44 = β.1 44) (h : iKp α β) : iKp α' β' := by
  unfold iKp vKp at *
  rw [h19, h8, hn, h43, h44]
  exact ⟨h.1, fun k hk => ⟨(h.2 k hk).1, fun q => by rw [hd _ (by omega) (by omega)]; exact (h.2 k hk).2 q⟩⟩
theorem iRo_cg (h10 : α'.1 0 10 = α.1 0 10) (h20 : α'.1 20 = α.1 20) (hn : nX α' = nX α) (h24 : β'.1 36 24 = β.1 36 24) (h46 : β'.1 46 = β.1 46) (h : iRo α β) : iRo α' β' := by
  unfold iRo vR rcX at *
  rw [h10, h20, hn, h24, h46]
  exact h
theorem iTa_cg (h11 : α'.1 0 11 = α.1 0 11) (hn : nX α' = nX α) (h26 : β'.1 36 26 = β.1 36 26) (h47 : β'.1 47 = β.1 47) (h : iTa α β) : iTa α' β' := by
  unfold iTa vTk tkMm at *
  simp only [isK_of h47]
  rw [h11, hn, h26, h47]
  exact h
theorem iSe_cg (h16 : α'.1 0 16 = α.1 0 16) (h23 : α'.1 23 = α.1 23) (h24 : α'.1 24 = α.1 24) (h25 : α'.1 25 = α.1 25) (h28 : β'.1 36 28 = β.1 36 28) (h48 : β'.1 48 = β.1 48) (h : iSe α β) : iSe α' β' := by
  unfold iSe vS scX at *
  rw [h16, h23, h24, h25, h28, h48]
  exact h
theorem iTx_cg (h1 : α'.1 13 1 = α.1 13 1) (h14 : α'.1 14 = α.1 14) (h6 : β'.1 36 6 = β.1 36 6) (h39 : β'.1 39 = β.1 39) (h : iTx α β) : iTx α' β' := by
  unfold iTx vT b3 at *
  rw [h1, h14, h6, h39]
  exact h
/-- all is kept where only scratch has changed -/
theorem Inv_cg (hx : ∀ c, c ≤ 6 ∨ c = 14 ∨ c = 16 ∨ (18 ≤ c ∧ c ≤ 20) ∨ (23 ≤ c ∧ c ≤ 35) → α'.1 c = α.1 c) (h13 : α'.1 13 1 = α.1 13 1) (hm : ∀ c, (37 ≤ c ∧ c ≤ 39) ∨ c = 41 ∨ (43 ≤ c ∧ c ≤ 48) → β'.1 c = β.1 c) (h36 : ∀ k, k ≤ 6 ∨ k = 22 ∨ k = 24 ∨ k = 26 ∨ k = 28 → β'.1 36 k = β.1 36 k) (h : Inv α β) : Inv α' β' := by
  obtain ⟨hc, hd, hp, hk, hr, ht, hs, hT⟩ := h
  have hn : nX α' = nX α := nX_of (hx 1 (by decide))
  have e0 := hx 0 (by decide)
  refine ⟨iCo_cg (fun c a b => hx c (by omega)) (h36 _ (by decide)) (h36 _ (by decide)) (h36 _ (by decide)) (h36 _ (by decide)) (hm _ (by decide)) (hm _ (by decide)) hc, ?_, iPa_cg (hx _ (by decide)) (by rw [e0]) hn (fun c a b => hx c (by omega)) (h36 _ (by decide)) (hm _ (by decide)) hp, iKp_cg (hx _ (by decide)) (by rw [e0]) hn (fun c a b => hx c (by omega)) (hm _ (by decide)) (hm _ (by decide)) hk, iRo_cg (by rw [e0]) (hx _ (by decide)) hn (h36 _ (by decide)) (hm _ (by decide)) hr, iTa_cg (by rw [e0]) hn (h36 _ (by decide)) (hm _ (by decide)) ht, iSe_cg (by rw [e0]) (hx _ (by decide)) (hx _ (by decide)) (hx _ (by decide)) (h36 _ (by decide)) (hm _ (by decide)) hs, iTx_cg h13 (hx _ (by decide)) (h36 _ (by decide)) (hm _ (by decide)) hT⟩
  rw [hn, hx 16 (by decide), hm 41 (by decide)]
  exact hd
/-- the day alone has changed -/
theorem Inv_day (hx : ∀ c, c ≠ 16 → α'.1 c = α.1 c) (hm : ∀ c, c ≠ 41 → β'.1 c = β.1 c) (hd' : iDy (nX α) (α'.1 16) (β'.1 41)) (h : Inv α β) : Inv α' β' := by
  obtain ⟨hc, hd, hp, hk, hr, ht, hs, hT⟩ := h
  have hn : nX α' = nX α := nX_of (hx 1 (by decide))
  have e0 := hx 0 (by decide)
  have e36 := hm 36 (by decide)
  have e13 := hx 13 (by decide)
  refine ⟨iCo_cg (fun c a b => hx c (by omega)) (by rw [e36]) (by rw [e36]) (by rw [e36]) (by rw [e36]) (hm _ (by decide)) (hm _ (by decide)) hc, ?_, iPa_cg (hx _ (by decide)) (by rw [e0]) hn (fun c a b => hx c (by omega)) (by rw [e36]) (hm _ (by decide)) hp, iKp_cg (hx _ (by decide)) (by rw [e0]) hn (fun c a b => hx c (by omega)) (hm _ (by decide)) (hm _ (by decide)) hk, iRo_cg (by rw [e0]) (hx _ (by decide)) hn (by rw [e36]) (hm _ (by decide)) hr, iTa_cg (by rw [e0]) hn (by rw [e36]) (hm _ (by decide)) ht, iSe_cg (by rw [e0]) (hx _ (by decide)) (hx _ (by decide)) (hx _ (by decide)) (by rw [e36]) (hm _ (by decide)) hs, iTx_cg (by rw [e13]) (hx _ (by decide)) (by rw [e36]) (hm _ (by decide)) hT⟩
  rw [hn]
  exact hd'
end CG
