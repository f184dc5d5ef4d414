/-! both sides: small changes -/
theorem cap {x : Int32} {n k : Nat} (hx : x = nI n) (hn : n ≤ k) (hk : k < 2 ^ 31) : (nI k ≤ x) ↔ (x = nI k) := by
  rw [hx, nI_leI hk (by omega), nI_eq (by omega) hk]
  omega
theorem bc_set : ∀ a, a < 256 → ∀ t, t < 8 → a.testBit t = false → bcJ (nI a ||| (1 <<< (nI t &&& 31))) = bcJ (nI a) + 1 := by decide +kernel
theorem isK_no {σ : xm_M} {x : Int32} : ∀ {n : Nat}, isK σ x n = false → ∀ k, k < n → ¬ σ.1 47 k = x
  | 0, _ => fun k hk => by omega
  | n + 1, h => fun k hk => by
    rw [isK, Bool.or_eq_false_iff] at h
    by_cases e : k = n
    · rw [e]; exact of_decide_eq_false h.2
    · exact isK_no h.1 k (by omega)
theorem isK_cg {σ τ : xm_M} {x : Int32} : ∀ {n : Nat}, (∀ k, k < n → τ.1 47 k = σ.1 47 k) → isK τ x n = isK σ x n
  | 0, _ => rfl
  | n + 1, h => by rw [isK, isK, isK_cg (fun k hk => h k (by omega)), h n (by omega)]
section EQ12
variable {α β : xm_M}
theorem eq_put (hi : Inv α β) (x : Int32) : (f_put α x).1 = (g_put β x).1 ∧ Inv (f_put α x).2 (g_put β x).2 := by
  have hc := hi.1
  obtain ⟨⟨v1, v2⟩, e24, hrow⟩ := hi.2.2.2.2.1
  unfold f_put g_put
  rw [eq_isT hc]
  by_cases c : isTm β x = false
  · rw [if_pos c, if_pos c]; exact ⟨rfl, hi⟩
  · rw [if_neg c, if_neg c]
    obtain ⟨t, ht, rfl⟩ := isT_ex hc (by rw [Bool.not_eq_false] at c; exact c)
    by_cases f : 8 ≤ α.1 0 10
    · rw [if_pos f, if_pos (by rw [e24]; exact (cap v1 v2 (by decide)).mp f)]; exact ⟨rfl, hi⟩
    · rw [if_neg f, if_neg (fun q => f ((cap v1 v2 (by decide)).mpr (by rw [← e24]; exact q)))]
      have lt8 : rcX α < 8 := by
        rw [v1, i_nle] at f
        exact (nI_ltI (by omega) (by decide)).mp f
      have erm : rmM β = rcX α := by unfold rmM rcX; rw [e24]
      dsimp only
      refine ⟨by rw [e24], Inv_ro (fun c a b => by funext k; rw [xs_ne b, xs_ne a]) (fun k hk => by rw [xs_nk hk, xs_ne (by decide)]) (fun c a b => by funext k; rw [xs_ne b, xs_ne a]) (fun k hk => by rw [xs_nk hk, xs_ne (by decide)]) ?_ hi⟩
      rw [erm]
      have e10 : (xm_set (xm_set α 20 (rcX α) (nI t)) 0 10 (α.1 0 10 + 1)).1 0 10 = nI (rcX α + 1) := by rw [xs_eq, v1, nI_1]
      have ec : rcX (xm_set (xm_set α 20 (rcX α) (nI t)) 0 10 (α.1 0 10 + 1)) = rcX α + 1 := by
        show ((xm_set (xm_set α 20 (rcX α) (nI t)) 0 10 (α.1 0 10 + 1)).1 0 10).toNatClampNeg = _
        rw [e10, nI_clamp (by omega)]
      refine ⟨⟨by rw [ec]; exact e10, by rw [ec]; omega⟩, by rw [xs_eq, xs_eq, e24], fun k hk => ?_⟩
      rw [ec] at hk
      have en : nX (xm_set (xm_set α 20 (rcX α) (nI t)) 0 10 (α.1 0 10 + 1)) = nX α := nX_of (by funext k; rw [xs_ne (by decide), xs_ne (by decide)])
      have e46 : (xm_set (xm_set β 46 (rcX α) (nI t)) 36 24 (β.1 36 24 + 1)).1 46 k = if k = rcX α then nI t else β.1 46 k := by
        rw [xs_ne (by decide)]
        by_cases e : k = rcX α
        · rw [if_pos e, e, xs_eq]
        · rw [if_neg e, xs_nk e]
      have e20 : (xm_set (xm_set α 20 (rcX α) (nI t)) 0 10 (α.1 0 10 + 1)).1 20 k = if k = rcX α then nI t else α.1 20 k := by
        rw [xs_ne (by decide)]
        by_cases e : k = rcX α
        · rw [if_pos e, e, xs_eq]
        · rw [if_neg e, xs_nk e]
      rw [en, e46, e20]
      by_cases e : k = rcX α
      · rw [if_pos e, if_pos e]
        exact ⟨rfl, t, ht, rfl⟩
      · rw [if_neg e, if_neg e]
        exact hrow k (by omega)
theorem eq_wipe (hi : Inv α β) : α.1 0 10 = β.1 36 24 ∧ Inv (xm_set α 0 10 0) (xm_set β 36 24 0) := by
  refine ⟨hi.2.2.2.2.1.2.1.symm, Inv_ro (fun c a b => funext fun k => xs_ne b) (fun k hk => xs_nk hk) (fun c a b => funext fun k => xs_ne b) (fun k hk => xs_nk hk) ?_ hi⟩
  have ec : rcX (xm_set α 0 10 0) = 0 := by
    show ((xm_set α 0 10 0).1 0 10).toNatClampNeg = 0
    rw [xs_eq]; decide
  refine ⟨⟨by rw [ec, xs_eq]; decide, by rw [ec]; omega⟩, by rw [xs_eq, xs_eq], fun k hk => ?_⟩
  rw [ec] at hk
  omega
theorem eq_task (hi : Inv α β) (x : Int32) : (f_task α x).1 = (g_task β x).1 ∧ Inv (f_task α x).2 (g_task β x).2 := by
  have hc := hi.1
  have n8 := hc.1.2
  obtain ⟨⟨v1, v2⟩, hB, ebc, hin, hdis, hK⟩ := hi.2.2.2.2.2.1
  unfold f_task g_task
  rw [eq_isT hc]
  by_cases c : isTm β x = false
  · rw [if_pos c, if_pos c]; exact ⟨rfl, hi⟩
  · rw [if_neg c, if_neg c]
    obtain ⟨t, ht, rfl⟩ := isT_ex hc (by rw [Bool.not_eq_false] at c; exact c)
    have hk := hK t (by omega)
    by_cases z : isK β (nI t) (tkMm β) = true
    · rw [if_pos z, if_pos (hk.trans z)]; exact ⟨rfl, hi⟩
    · rw [if_neg z, if_neg (by rw [hk]; exact z)]
      rw [Bool.not_eq_true] at z
      rw [ebc]
      by_cases f : 4 ≤ β.1 36 26
      · rw [if_pos f, if_pos (show β.1 36 26 = 4 from (cap v1 v2 (by decide)).mp f)]; exact ⟨rfl, hi⟩
      · rw [if_neg f, if_neg (c := β.1 36 26 = 4) (fun q => f ((cap v1 v2 (by decide)).mpr q))]
        have lt4 : tkMm β < 4 := by
          rw [v1, i_nle] at f
          exact (nI_ltI (by omega) (by decide)).mp f
        have ebc' : bcJ (α.1 0 11 ||| (1 <<< (nI t &&& 31))) = β.1 36 26 + 1 := by
          obtain ⟨a, ha, ea⟩ := iBt_ex (iBt_mono hB n8) (by decide)
          have hbf : a.testBit t = false := by
            rw [← b_nI (by omega), ← ea, ← hb_bt (by omega), hk, z]
          rw [← ebc, ea]
          exact bc_set a ha t (by omega) hbf
        dsimp only
        refine ⟨ebc', Inv_ta (fun c a => funext fun k => xs_ne a) (fun k hk => xs_nk hk) (fun c a b => by funext k; rw [xs_ne b, xs_ne a]) (fun k hk => by rw [xs_nk hk, xs_ne (by decide)]) ?_ hi⟩
        have e26 : (xm_set (xm_set β 47 (tkMm β) (nI t)) 36 26 (β.1 36 26 + 1)).1 36 26 = nI (tkMm β + 1) := by rw [xs_eq, v1, nI_1]
        have ec : tkMm (xm_set (xm_set β 47 (tkMm β) (nI t)) 36 26 (β.1 36 26 + 1)) = tkMm β + 1 := by
          show ((xm_set (xm_set β 47 (tkMm β) (nI t)) 36 26 (β.1 36 26 + 1)).1 36 26).toNatClampNeg = _
          rw [e26, nI_clamp (by omega)]
        have en : nX (xm_set α 0 11 (α.1 0 11 ||| (1 <<< (nI t &&& 31)))) = nX α := nX_of (funext fun k => xs_ne (by decide))
        have e47 : ∀ k, (xm_set (xm_set β 47 (tkMm β) (nI t)) 36 26 (β.1 36 26 + 1)).1 47 k = if k = tkMm β then nI t else β.1 47 k := fun k => by
          rw [xs_ne (by decide)]
          by_cases e : k = tkMm β
          · rw [if_pos e, e, xs_eq]
          · rw [if_neg e, xs_nk e]
        refine ⟨⟨by rw [ec]; exact e26, by rw [ec]; omega⟩, by rw [en, xs_eq]; exact iBt_set hB ht (by omega), by rw [xs_eq, xs_eq]; exact ebc', ?_, ?_, ?_⟩
        · intro k hk'
          rw [ec] at hk'
          rw [en, e47]
          split
          · exact ⟨t, ht, rfl⟩
          · exact hin k (by omega)
        · intro i j hij hj
          rw [ec] at hj
          rw [e47, e47, if_neg (by omega)]
          split
          · exact isK_no z i (by omega)
          · exact hdis i j hij (by omega)
        · intro u hu
          rw [ec, isK, e47, if_pos rfl, xs_eq, hb_bt (by omega), b_set (by omega), isK_cg (σ := β) (fun k hk' => by rw [e47, if_neg (by omega)]), ← hK u hu, hb_bt (by omega)]
          congr 1
          exact decide_eq_decide.mpr (by rw [nI_eq (by omega) (by omega)]; omega)
theorem eq_drop (hi : Inv α β) : bcJ (α.1 0 11) = β.1 36 26 ∧ Inv (xm_set α 0 11 0) (xm_set β 36 26 0) := by
  refine ⟨hi.2.2.2.2.2.1.2.2.1, Inv_ta (fun c a => funext fun k => xs_ne a) (fun k hk => xs_nk hk) (fun c a b => funext fun k => xs_ne b) (fun k hk => xs_nk hk) ?_ hi⟩
  have ec : tkMm (xm_set β 36 26 0) = 0 := by
    show ((xm_set β 36 26 0).1 36 26).toNatClampNeg = 0
    rw [xs_eq]; decide
  refine ⟨⟨by rw [ec, xs_eq]; decide, by rw [ec]; omega⟩, by rw [xs_eq]; exact iBt_0 _, by rw [xs_eq, xs_eq]; decide, fun k hk => ?_, fun i j a b => ?_, fun u hu => ?_⟩
  · rw [ec] at hk; omega
  · rw [ec] at b; omega
  · rw [ec, xs_eq, hb_bt (by omega), b_0]; rfl
theorem lt_m1 {m : Nat} (hm : m < 2 ^ 30) {y : Int32} : (nI m - 1 < y) ↔ (nI m ≤ y) := by
  rw [Int32.lt_iff_toInt_lt, Int32.le_iff_toInt_le, show (1 : Int32) = nI 1 from rfl, pk_sub_toInt hm (by decide), nI_toInt (by omega)]
  omega
theorem eq_look (hi : Inv α β) (x y z : Int32) : (f_look α x y z).1 = (g_look β x y z).1 ∧ Inv (f_look α x y z).2 (g_look β x y z).2 := by
  have hc := hi.1
  obtain ⟨⟨m, hm, e0, hb1⟩, -, -, r10, -⟩ := hi.2.1
  obtain ⟨⟨v1, v2⟩, e28, hs⟩ := hi.2.2.2.2.2.2.1
  unfold f_look g_look
  rw [eq_isT hc]
  by_cases c : isTm β x = false
  · rw [if_pos c, if_pos c]; exact ⟨rfl, hi⟩
  · rw [if_neg c, if_neg c]
    have cc : (y < 0 ∨ α.1 16 0 ≤ y ∨ z < 0 ∨ 1 < z) ↔ (inB y 0 (β.1 41 10 - 1) = false ∨ inB z 0 1 = false) := by
      rw [inB_f, inB_f, r10, e0, lt_m1 (by omega), or_assoc]
    by_cases w : y < 0 ∨ α.1 16 0 ≤ y ∨ z < 0 ∨ 1 < z
    · rw [if_pos w, if_pos (cc.mp w)]; exact ⟨rfl, hi⟩
    · rw [if_neg w, if_neg (fun q => w (cc.mpr q))]
      by_cases f : 6 ≤ α.1 0 16
      · rw [if_pos f, if_pos (by rw [e28]; exact (cap v1 v2 (by decide)).mp f)]; exact ⟨rfl, hi⟩
      · rw [if_neg f, if_neg (fun q => f ((cap v1 v2 (by decide)).mpr (by rw [← e28]; exact q)))]
        have lt6 : scX α < 6 := by
          rw [v1, i_nle] at f
          exact (nI_ltI (by omega) (by decide)).mp f
        have esm : smM β = scX α := by unfold smM scX; rw [e28]
        have hy : ∃ j, j < 24 ∧ y = nI j := by
          have y0 : 0 ≤ y := i_pos (fun q => w (Or.inl q))
          have y1 : y < nI m := by rw [← i_nle, ← e0]; exact fun q => w (Or.inr (Or.inl q))
          obtain ⟨j, hj, e⟩ := lt_nI (by omega) y0 y1
          exact ⟨j, by omega, e⟩
        have hz : ∃ g, g < 2 ∧ z = nI g := by
          obtain ⟨g, hg, e⟩ := le_ex 1 (M := 1) (by decide) (by decide) (i_pos (fun q => w (Or.inr (Or.inr (Or.inl q))))) (by rw [← i_nlt]; exact fun q => w (Or.inr (Or.inr (Or.inr q))))
          exact ⟨g, by omega, e⟩
        dsimp only
        refine ⟨by rw [e28], Inv_se (fun c a b d e => by funext k; rw [xs_ne e, xs_ne d, xs_ne b, xs_ne a]) (fun k hk => by rw [xs_nk hk, xs_ne (by decide), xs_ne (by decide), xs_ne (by decide)]) (fun c a b => by unfold lokM; funext k; rw [xs_ne b, xs_ne a, xs_ne a, xs_ne a]) (fun k hk => by unfold lokM; rw [xs_nk hk, xs_ne (by decide), xs_ne (by decide), xs_ne (by decide)]) ?_ hi⟩
        obtain ⟨γ, eγ⟩ : ∃ γ, γ = xm_set (xm_set (xm_set (xm_set α 23 (scX α) x) 24 (scX α) y) 25 (scX α) z) 0 16 (α.1 0 16 + 1) := ⟨_, rfl⟩
        rw [← eγ]
        have e16 : γ.1 0 16 = nI (scX α + 1) := by rw [eγ, xs_eq, v1, nI_1]
        have ec : scX γ = scX α + 1 := by
          show (γ.1 0 16).toNatClampNeg = _
          rw [e16, nI_clamp (by omega)]
        have e23 : ∀ k, γ.1 23 k = if k = scX α then x else α.1 23 k := fun k => by
          rw [eγ, xs_ne (by decide), xs_ne (by decide), xs_ne (by decide)]
          by_cases e : k = scX α
          · rw [if_pos e, e, xs_eq]
          · rw [if_neg e, xs_nk e]
        have e24 : ∀ k, γ.1 24 k = if k = scX α then y else α.1 24 k := fun k => by
          rw [eγ, xs_ne (by decide), xs_ne (by decide)]
          by_cases e : k = scX α
          · rw [if_pos e, e, xs_eq]
          · rw [if_neg e, xs_nk e, xs_ne (by decide)]
        have e25 : ∀ k, γ.1 25 k = if k = scX α then z else α.1 25 k := fun k => by
          rw [eγ, xs_ne (by decide)]
          by_cases e : k = scX α
          · rw [if_pos e, e, xs_eq]
          · rw [if_neg e, xs_nk e, xs_ne (by decide), xs_ne (by decide)]
        have e48 : ∀ j, (lokM β x y z).1 48 j = if j = 3 * scX α + 2 then z else if j = 3 * scX α + 1 then y else if j = 3 * scX α then x else β.1 48 j := fun j => by
          unfold lokM
          rw [esm, xs_ne (by decide)]
          by_cases a : j = 3 * scX α + 2
          · rw [if_pos a, a, xs_eq]
          · rw [if_neg a, xs_nk a]
            by_cases b : j = 3 * scX α + 1
            · rw [if_pos b, b, xs_eq]
            · rw [if_neg b, xs_nk b]
              by_cases d : j = 3 * scX α
              · rw [if_pos d, d, xs_eq]
              · rw [if_neg d, xs_nk d]
        refine ⟨⟨by rw [ec]; exact e16, by rw [ec]; omega⟩, by rw [e16]; unfold lokM; rw [xs_eq, e28, v1, nI_1], fun k hk => ?_⟩
        rw [ec] at hk
        rw [e23, e24, e25, e48, e48, e48]
        by_cases e : k = scX α
        · subst e
          rw [if_pos rfl, if_pos rfl, if_pos rfl, if_neg (by omega), if_neg (by omega), if_pos rfl, if_neg (by omega), if_pos rfl, if_pos rfl]
          exact ⟨rfl, rfl, rfl, hy, hz⟩
        · rw [if_neg e, if_neg e, if_neg e, if_neg (by omega), if_neg (by omega), if_neg (by omega), if_neg (by omega), if_neg (by omega), if_neg (by omega), if_neg (by omega), if_neg (by omega), if_neg (by omega)]
          exact hs k (by omega)
theorem eq_forget (hi : Inv α β) : α.1 0 16 = β.1 36 28 ∧ Inv (xm_set α 0 16 0) (xm_set β 36 28 0) := by
  refine ⟨hi.2.2.2.2.2.2.1.2.1.symm, Inv_se (fun c a b d e => funext fun k => xs_ne e) (fun k hk => xs_nk hk) (fun c a b => funext fun k => xs_ne b) (fun k hk => xs_nk hk) ?_ hi⟩
  have ec : scX (xm_set α 0 16 0) = 0 := by
    show ((xm_set α 0 16 0).1 0 16).toNatClampNeg = 0
    rw [xs_eq]; decide
  refine ⟨⟨by rw [ec, xs_eq]; decide, by rw [ec]; omega⟩, by rw [xs_eq, xs_eq], fun k hk => ?_⟩
  rw [ec] at hk
  omega
theorem eq_write (hi : Inv α β) (x : Int32) : (f_write α x).1 = (g_write β x).1 ∧ Inv (f_write α x).2 (g_write β x).2 := by
  obtain ⟨⟨v1, v2⟩, e6, hl⟩ := hi.2.2.2.2.2.2.2
  unfold f_write g_write
  by_cases w : x < 0 ∨ 255 < x
  · rw [if_pos w, if_pos (inB_f.mpr w)]; exact ⟨rfl, hi⟩
  · rw [if_neg w, if_neg (fun q => w (inB_f.mp q))]
    by_cases f : 160 ≤ α.1 13 1
    · rw [if_pos f, if_pos (by rw [e6]; exact (cap v1 v2 (by decide)).mp f)]; exact ⟨rfl, hi⟩
    · rw [if_neg f, if_neg (fun q => f ((cap v1 v2 (by decide)).mpr (by rw [← e6]; exact q)))]
      have lt : b3 α < 160 := by
        rw [v1, i_nle] at f
        exact (nI_ltI (by omega) (by decide)).mp f
      have el : lM β = b3 α := by unfold lM b3; rw [e6]
      have hx : ∃ c, c < 256 ∧ x = nI c := by
        obtain ⟨g, hg, e⟩ := le_ex 255 (M := 255) (by decide) (by decide) (i_pos (fun q => w (Or.inl q))) (by rw [← i_nlt]; exact fun q => w (Or.inr q))
        exact ⟨g, by omega, e⟩
      dsimp only
      refine ⟨by rw [e6], Inv_tx (fun c a b => by funext k; rw [xs_ne b, xs_ne a]) (fun k hk => by rw [xs_nk hk, xs_ne (by decide)]) (fun c a b => by funext k; rw [xs_ne b, xs_ne a]) (fun k hk => by rw [xs_nk hk, xs_ne (by decide)]) ?_ hi⟩
      rw [el]
      have e1 : (xm_set (xm_set α 14 (b3 α) x) 13 1 (α.1 13 1 + 1)).1 13 1 = nI (b3 α + 1) := by rw [xs_eq, v1, nI_1]
      have ec : b3 (xm_set (xm_set α 14 (b3 α) x) 13 1 (α.1 13 1 + 1)) = b3 α + 1 := by
        show ((xm_set (xm_set α 14 (b3 α) x) 13 1 (α.1 13 1 + 1)).1 13 1).toNatClampNeg = _
        rw [e1, nI_clamp (by omega)]
      refine ⟨⟨by rw [ec]; exact e1, by rw [ec]; omega⟩, by rw [xs_eq, xs_eq, e6], fun k hk => ?_⟩
      rw [ec] at hk
      have e39 : (xm_set (xm_set β 39 (b3 α) x) 36 6 (β.1 36 6 + 1)).1 39 k = if k = b3 α then x else β.1 39 k := by
        rw [xs_ne (by decide)]
        by_cases e : k = b3 α
        · rw [if_pos e, e, xs_eq]
        · rw [if_neg e, xs_nk e]
      have e14 : (xm_set (xm_set α 14 (b3 α) x) 13 1 (α.1 13 1 + 1)).1 14 k = if k = b3 α then x else α.1 14 k := by
        rw [xs_ne (by decide)]
        by_cases e : k = b3 α
        · rw [if_pos e, e, xs_eq]
        · rw [if_neg e, xs_nk e]
      rw [e39, e14]
      by_cases e : k = b3 α
      · rw [if_pos e, if_pos e]
        exact ⟨rfl, hx⟩
      · rw [if_neg e, if_neg e]
        exact hl k (by omega)
theorem eq_erase (hi : Inv α β) : α.1 13 1 = β.1 36 6 ∧ Inv (xm_set α 13 1 0) (xm_set β 36 6 0) := by
  refine ⟨hi.2.2.2.2.2.2.2.2.1.symm, Inv_tx (fun c a b => funext fun k => xs_ne b) (fun k hk => xs_nk hk) (fun c a b => funext fun k => xs_ne b) (fun k hk => xs_nk hk) ?_ hi⟩
  have ec : b3 (xm_set α 13 1 0) = 0 := by
    show ((xm_set α 13 1 0).1 13 1).toNatClampNeg = 0
    rw [xs_eq]; decide
  refine ⟨⟨by rw [ec, xs_eq]; decide, by rw [ec]; omega⟩, by rw [xs_eq, xs_eq], fun k hk => ?_⟩
  rw [ec] at hk
  omega
end EQ12
