/-! both sides: deeds -/
section DY
variable {n : Nat} {D R D' R' : Nat → Int32} {t : Nat}
theorem dy_ever (hn : n ≤ 8) (ht : t < n) (h : iDy n D R) (d0 : D' 0 = D 0) (d1 : D' 1 = D 1) (d2 : D' 2 = D 2 &&& ((1 <<< (nI t &&& 31)) ^^^ (-1))) (d3 : D' 3 = D 3 ||| (1 <<< (nI t &&& 31))) (d4 : D' 4 = D 4) (d5 : D' 5 = D 5) (hR : ∀ k, R' k = if k = t then 2 else R k) : iDy n D' R' := by
  obtain ⟨⟨m, hm, e0, hb1⟩, h2, h3, r10, r11, r8, r9, hg⟩ := h
  refine ⟨⟨m, hm, by rw [d0]; exact e0, by rw [d1]; exact hb1⟩, by rw [d2]; exact iBt_clr h2 (by omega), by rw [d3]; exact iBt_set h3 ht (by omega), ?_, ?_, ?_, ?_, ?_⟩
  · rw [hR, if_neg (by omega), d0, r10]
  · rw [hR, if_neg (by omega), d1, r11]
  · rw [hR, if_neg (by omega), d4, r8]
  · rw [hR, if_neg (by omega), d5, r9]
  · intro u hu
    rw [hR, d2, d3, vG_bt (by omega), b_set (by omega), b_clr (by omega)]
    by_cases e : u = t
    · rw [if_pos e, decide_eq_true e, Bool.or_true, if_pos rfl]
    · rw [if_neg e, decide_eq_false e, Bool.or_false, Bool.not_false, Bool.and_true, hg u hu, vG_bt (by omega)]
theorem dy_noon (hn : n ≤ 8) (ht : t < n) (h : iDy n D R) (hb3 : bt (D 3) t = false) (d0 : D' 0 = D 0) (d1 : D' 1 = D 1) (d2 : D' 2 = D 2 ||| (1 <<< (nI t &&& 31))) (d3 : D' 3 = D 3) (d4 : D' 4 = D 4) (d5 : D' 5 = D 5) (hR : ∀ k, R' k = if k = t then 1 else R k) : iDy n D' R' := by
  obtain ⟨⟨m, hm, e0, hb1⟩, h2, h3, r10, r11, r8, r9, hg⟩ := h
  refine ⟨⟨m, hm, by rw [d0]; exact e0, by rw [d1]; exact hb1⟩, by rw [d2]; exact iBt_set h2 ht (by omega), by rw [d3]; exact h3, ?_, ?_, ?_, ?_, ?_⟩
  · rw [hR, if_neg (by omega), d0, r10]
  · rw [hR, if_neg (by omega), d1, r11]
  · rw [hR, if_neg (by omega), d4, r8]
  · rw [hR, if_neg (by omega), d5, r9]
  · intro u hu
    rw [hR, d2, d3, vG_bt (by omega), b_set (by omega)]
    by_cases e : u = t
    · rw [if_pos e, decide_eq_true e, Bool.or_true, e, hb3, if_neg (by decide), if_pos rfl]
    · rw [if_neg e, decide_eq_false e, Bool.or_false, hg u hu, vG_bt (by omega)]
end DY
section EQ9
variable {α β : xm_M}
theorem h012 (b m : Int32) : hM β b m = 0 ∨ hM β b m = 1 ∨ hM β b m = 2 := by
  unfold hM hbM
  split
  · exact Or.inl rfl
  · split
    · exact Or.inr (Or.inl rfl)
    · exact Or.inr (Or.inr rfl)
theorem set41 {t : Nat} {v : Int32} (k : Nat) : (xm_set β 41 t v).1 41 k = if k = t then v else β.1 41 k := by simp [xm_set]
theorem gld_dy (hc : iCo α β) (hd : iDy (nX α) (α.1 16) (β.1 41)) {t : Nat} (ht : t < nX α) : iDy (nX α) ((gldX α 16 (nI t)).1 16) ((tcM β t).1 41) := by
  have hd0 := hd
  obtain ⟨⟨m, hm, e0, hb1⟩, h2, h3, r10, r11, r8, r9, hg⟩ := hd
  have n8 := hc.1.2
  have eh : hX α (α.1 16 1) (α.1 16 0) = hM β (β.1 41 11) (β.1 41 10) := by rw [r10, r11, e0]; exact eq_hand hc _ (by omega)
  have e5 : β.1 36 5 = α.1 1 8 := hc.2.2.2.2.2.1
  have g := hg t ht
  rw [vG_bt (by omega)] at g
  have sm2 : bt (α.1 16 3) t = true → iDy (nX α) (α.1 16) ((xm_set β 41 t 2).1 41) := by
    intro z
    have e : (xm_set β 41 t 2).1 41 = β.1 41 := by
      funext k
      rw [set41]
      split
      · rename_i e; rw [e, g, if_pos z]
      · rfl
    rw [e]; exact hd0
  have ev : iDy (nX α) ((xm_set (xm_set α 16 2 (α.1 16 2 &&& ((1 <<< (nI t &&& 31)) ^^^ (-1)))) 16 3 (α.1 16 3 ||| (1 <<< (nI t &&& 31)))).1 16) ((xm_set β 41 t 2).1 41) :=
    dy_ever n8 ht hd0 rfl rfl rfl rfl rfl rfl (fun k => set41 k)
  have no : bt (α.1 16 3) t = false → iDy (nX α) ((xm_set α 16 2 (α.1 16 2 ||| (1 <<< (nI t &&& 31)))).1 16) ((xm_set β 41 t 1).1 41) := fun z =>
    dy_noon n8 ht hd0 z rfl rfl rfl rfl rfl rfl (fun k => set41 k)
  unfold gldX tcM
  rw [eh, e5, hb_bt (by omega)]
  have h3' := h012 (β := β) (β.1 41 11) (β.1 41 10)
  rw [r10] at *
  generalize hM β (β.1 41 11) (α.1 16 0) = h at *
  rcases h3' with rfl | rfl | rfl
  · rw [if_pos (Or.inl rfl), if_neg (fun q => q.elim (fun y => absurd y (by decide)) (fun y => absurd y.1 (by decide))), if_neg (fun q => absurd q.1 (by decide))]
    exact hd0
  · by_cases z : bt (α.1 16 3) t = true
    · rw [if_pos (Or.inr z)]
      by_cases c : α.1 1 8 ≤ α.1 16 0
      · rw [if_pos (Or.inr ⟨rfl, c⟩)]
        exact sm2 z
      · rw [if_neg (fun q => q.elim (fun y => absurd y (by decide)) (fun y => c y.2)), if_neg]
        · exact hd0
        · intro q
          rw [g, if_pos z] at q
          exact absurd q.2 (by decide)
    · rw [if_neg (fun q => q.elim (fun y => absurd y (by decide)) z)]
      rw [Bool.not_eq_true] at z
      by_cases c : α.1 1 8 ≤ α.1 16 0
      · rw [if_neg (fun q => absurd c (by rw [i_nle]; exact q.2)), if_pos (Or.inr ⟨rfl, c⟩)]
        exact ev
      · rw [if_pos ⟨rfl, by rw [← i_nle]; exact c⟩, if_neg (fun q => q.elim (fun y => absurd y (by decide)) (fun y => c y.2))]
        by_cases y : β.1 41 t = 0
        · rw [if_pos ⟨rfl, y⟩]
          exact no z
        · rw [if_neg (fun q => y q.2)]
          have e : (xm_set β 41 t 1).1 41 = β.1 41 := by
            funext k
            rw [set41]
            split
            · rename_i e
              rw [e]
              rw [g, z, if_neg (by decide)] at y ⊢
              split
              · rfl
              · rename_i w
                rw [if_neg w] at y
                exact absurd rfl y
            · rfl
          have := no z
          rw [e] at this
          exact this
  · rw [if_pos (c := (2 : Int32) = 2 ∨ _) (Or.inl rfl)]
    by_cases z : bt (α.1 16 3) t = true
    · rw [if_pos (Or.inr z)]
      exact sm2 z
    · rw [if_neg (fun q => q.elim (fun y => absurd y (by decide)) z), if_neg (fun q => absurd q.1 (by decide))]
      exact ev
theorem gldX_0 {a : Nat} {x : Int32} : (gldX α a x).1 a 0 = α.1 a 0 := by
  unfold gldX
  split
  · rfl
  · split
    · exact xs_nk (by decide)
    · rw [xs_nk (by decide), xs_nk (by decide)]
theorem vBrk_cg {br : Int32} {l l' b b' : Nat → Int32} : ∀ k, (∀ f, f < k → l' f = l f) → (∀ f, f < k → b' f = b f) → vBrk br l' b' k = vBrk br l b k
  | 0, _, _ => rfl
  | k + 1, h1, h2 => by rw [vBrk, vBrk, vBrk_cg k (fun f hf => h1 f (by omega)) (fun f hf => h2 f (by omega)), h1 k (by omega), h2 k (by omega)]
theorem pas_dy {a s m : Nat} (hs : isN s) (hc : iCo α β) (hz : iDz (nX α) (α.1 a) (β.1 s)) (h2 : iBt (nX α) (α.1 a 2)) (h3 : iBt (nX α) (α.1 a 3)) (hm : m < 24) (e0 : α.1 a 0 = nI m) (hb1 : iBt (m + 1) (α.1 a 1)) : iDy (nX α) ((pasX α a).1 a) ((psM β s).1 s) := by
  have n8 := hc.1.2
  have eb : brM β s 3 = brX α a 3 := by
    unfold brM brX
    rw [hz.2.2.2.1]
    exact vBrk_cg 3 (fun f _ => eq_ld hc hz (nI f)) (fun f hf => (hc.2.2.2.2.2.2.2.1 f hf).1)
  have e5 : β.1 36 5 = α.1 1 8 := hc.2.2.2.2.2.1
  have en := nM_nX hc
  obtain ⟨r10, r11, r8, r9, hg⟩ := hz
  have em : α.1 a 0 + 1 = nI (m + 1) := by rw [e0, nI_1]
  unfold pasX psM
  rw [r10, e5]
  have q10 : (ps1 β s).1 s 10 = α.1 a 0 + 1 := by unfold ps1; rw [xs_eq, r10]
  have q9 : (ps1 β s).1 s 9 = brX α a 3 := by unfold ps1; rw [xs_nk (by decide), xs_eq, eb]
  have qk : ∀ k, k ≠ 9 → k ≠ 10 → (ps1 β s).1 s k = β.1 s k := fun k a b => by unfold ps1; rw [xs_nk b, xs_nk a]
  by_cases c : α.1 a 0 + 1 = α.1 1 8
  · rw [if_pos c, if_pos c, en]
    have w : ∀ k, nX α ≤ k → (noM (ps1 β s) s (nX α)).1 s k = (ps1 β s).1 s k := fun k hk => if_neg (fun q => by omega)
    refine ⟨⟨m + 1, by omega, by rw [xs_nk (by decide), xs_eq]; exact em, by rw [xs_nk (by decide), xs_nk (by decide), xs_nk (by decide)]; exact hb1⟩, by rw [xs_eq]; exact iBt_0 _, by rw [xs_nk (by decide), xs_nk (by decide), xs_nk (by decide)]; exact h3, ?_, ?_, ?_, ?_, ?_⟩
    · rw [w 10 (by omega), q10, xs_nk (by decide), xs_eq]
    · rw [w 11 (by omega), qk 11 (by decide) (by decide), r11, xs_nk (by decide), xs_nk (by decide), xs_nk (by decide)]
    · rw [w 8 (by omega), qk 8 (by decide) (by decide), r8, xs_nk (by decide), xs_nk (by decide), xs_nk (by decide)]
    · rw [w 9 (by omega), q9, xs_nk (by decide), xs_nk (by decide), xs_eq]
    · intro t ht
      rw [xs_eq, xs_nk (by decide), xs_nk (by decide), xs_nk (by decide), vG_bt (by omega), b_0, if_neg (c := false = true) (by decide)]
      have g := hg t ht
      rw [vG_bt (by omega)] at g
      by_cases y : (ps1 β s).1 s t = 1
      · refine (if_pos ⟨rfl, ht, y⟩).trans ?_
        rw [qk t (by omega) (by omega), g] at y
        by_cases z : bt (α.1 a 3) t = true
        · rw [if_pos z] at y
          exact absurd y (by decide)
        · rw [if_neg z]
      · refine (if_neg (fun q => y q.2.2)).trans ?_
        rw [qk t (by omega) (by omega), g] at y ⊢
        by_cases z : bt (α.1 a 3) t = true
        · rw [if_pos z, if_pos z]
        · rw [if_neg z] at y ⊢
          rw [if_neg z]
          split
          · rename_i w
            rw [if_pos w] at y
            exact absurd rfl y
          · rfl
  · rw [if_neg c, if_neg c]
    refine ⟨⟨m + 1, by omega, by rw [xs_eq]; exact em, by rw [xs_nk (by decide), xs_nk (by decide)]; exact hb1⟩, by rw [xs_nk (by decide), xs_nk (by decide)]; exact h2, by rw [xs_nk (by decide), xs_nk (by decide)]; exact h3, ?_, ?_, ?_, ?_, ?_⟩
    · rw [q10, xs_eq]
    · rw [qk 11 (by decide) (by decide), r11, xs_nk (by decide), xs_nk (by decide)]
    · rw [qk 8 (by decide) (by decide), r8, xs_nk (by decide), xs_nk (by decide)]
    · rw [q9, xs_nk (by decide), xs_eq]
    · intro t ht
      rw [xs_nk (by decide), xs_nk (by decide), xs_nk (by decide), xs_nk (by decide), qk t (by omega) (by omega)]
      exact hg t ht
theorem pas_Inv (hi : Inv α β) {m : Nat} (hm : m < 24) (e0 : α.1 16 0 = nI m) : Inv (pasX α 16) (psM β 41) := by
  refine Inv_day (fun c h => pasX_ne h) (fun c h => psM_ne h) ?_ hi
  obtain ⟨hc, ⟨⟨m', hm', e0', hb1⟩, h2, h3, hz⟩, -⟩ := hi
  have : m = m' := (nI_eq (by omega) (by omega)).mp (e0.symm.trans e0')
  subst this
  exact pas_dy (Or.inl rfl) hc hz h2 h3 hm e0 (iBt_mono hb1 (by omega))
theorem tch_eq (hi : Inv α β) {m : Nat} (hm : m < 24) (e0 : α.1 16 0 = nI m) {t : Nat} (ht : t < nX α) : (tchX α (nI t)).1 = (tchM β t).1 ∧ Inv (tchX α (nI t)).2 (tchM β t).2 := by
  have h1 := rem_Inv hi
  have hv := hi.2.2.1.1
  have hn : nX (remX α) = nX α := nX_of (remX_ne hv (by decide) (by decide) (by decide))
  have ht' : t < nX (remX α) := by omega
  have hd2 := gld_dy h1.1 h1.2.1 ht'
  have h2 : Inv (gldX (remX α) 16 (nI t)) (tcM (notM β) t) := Inv_day (fun c h => gldX_ne h) (fun c h => tcM_ne h) hd2 h1
  have e0' : (gldX (remX α) 16 (nI t)).1 16 0 = nI m := by rw [gldX_0, remX_ne hv (by decide) (by decide) (by decide)]; exact e0
  have g := hd2.2.2.2.2.2.2.2 t ht'
  unfold tchX tchM
  dsimp only
  exact ⟨g.symm, pas_Inv h2 hm e0'⟩
theorem full_eq {n : Nat} {D R : Nat → Int32} (hd : iDy n D R) : (24 ≤ D 0) ↔ (R 10 = 24) := by
  obtain ⟨⟨m, hm, e0, hb1⟩, h2, h3, r10, -⟩ := hd
  rw [r10, e0]
  refine ⟨fun q => ?_, fun q => ?_⟩
  · have := (nI_leI (a := 24) (by decide) (by omega)).mp q
    obtain rfl : m = 24 := by omega
    rfl
  · rw [q]; decide
theorem full_no {n : Nat} {D R : Nat → Int32} (hd : iDy n D R) (h : ¬ 24 ≤ D 0) : ∃ m, m < 24 ∧ D 0 = nI m := by
  obtain ⟨⟨m, hm, e0, hb1⟩, -⟩ := hd
  refine ⟨m, ?_, e0⟩
  rw [e0] at h
  by_cases e : m = 24
  · subst e; exact absurd (by decide) h
  · omega
theorem eq_touch (hi : Inv α β) (x : Int32) : (f_touch α x).1 = (g_touch β x).1 ∧ Inv (f_touch α x).2 (g_touch β x).2 := by
  have hc := hi.1
  have hd := hi.2.1
  unfold f_touch g_touch
  rw [eq_isT hc]
  by_cases c : isTm β x = false
  · rw [if_pos c, if_pos c]; exact ⟨rfl, hi⟩
  · rw [if_neg c, if_neg c]
    obtain ⟨t, ht, rfl⟩ := isT_ex hc (by rw [Bool.not_eq_false] at c; exact c)
    have n8 := hc.1.2
    rw [ixN_nI (by omega), eq_th hc hd.2.2.2 ht]
    by_cases l : loX α 16 t = true
    · rw [if_pos l, l, if_pos (by decide)]; exact ⟨rfl, hi⟩
    · rw [if_neg l]
      rw [Bool.not_eq_true] at l
      rw [l, if_neg (c := (!false) = false) (by decide)]
      by_cases f : 24 ≤ α.1 16 0
      · rw [if_pos f, if_pos ((full_eq hd).mp f)]; exact ⟨rfl, hi⟩
      · rw [if_neg f, if_neg (fun q => f ((full_eq hd).mpr q))]
        obtain ⟨m, hm, e0⟩ := full_no hd f
        exact tch_eq hi hm e0 ht
end EQ9
