/-! the reference's table of plans, by numbers -/
def plP0 (α β : xm_M) : pM := (fun a => if a ≤ wX α then 0 else if a ≤ wX α + cX α then 1 else 2, (α.1 1 8).toNatClampNeg, tkMm β, fun k => foM β k % 3, fun f => min 20 (ixN (β.1 37 (4 * ixN (tuM β f) + 1))), fun k => thM β 41 (taM β k), fun f => decide (¬ tuM β f = -1))
theorem plP0_ok {α β : xm_M} (hi : Inv α β) : okP (plP0 α β) := by
  refine ⟨fun a b h => ?_, fun a => ?_, fun k => Nat.mod_lt _ (by decide), fun f => Nat.min_le_left _ _, hi.2.2.2.2.2.1.1.2⟩
  · show (if a ≤ wX α then 0 else if a ≤ wX α + cX α then 1 else 2) ≤ (if b ≤ wX α then 0 else if b ≤ wX α + cX α then 1 else 2)
    repeat' split
    all_goals omega
  · show (if a ≤ wX α then 0 else if a ≤ wX α + cX α then 1 else 2) ≤ 2
    split
    · omega
    · split <;> omega
theorem or_pow {a t : Nat} (ht : t < 31) : nI a ||| (1 <<< (nI t &&& 31)) = nI (a ||| 2 ^ t) := by
  refine b_ext (fun j hj => ?_)
  rw [b_set (by omega), b_nI hj, b_nI hj, tb_or]
  congr 1
  exact decide_eq_decide.mpr (by omega)
/-- a pair of the table, and its number -/
def EN (n : Nat) (v : Int32 × Int32) (r : Nat) : Prop := (v = (nI 9999, nI 9999) ∧ r = INF) ∨ ∃ c l, c ≤ 20 * n ∧ l ≤ 23 ∧ v = (nI c, nI l) ∧ r = 64 * c + (l + 1)
theorem rw_49 {B τ : xm_M} {m q j : Nat} : (rowM B τ m q).1 49 j = if 1280 * m ≤ j ∧ j < 1280 * m + q then (fnV B τ m (j - 1280 * m)).1 else τ.1 49 j := by
  unfold rowM
  dsimp only
  by_cases c : 1280 * m ≤ j ∧ j < 1280 * m + q
  · rw [if_pos c, if_pos ⟨rfl, c⟩]
  · rw [if_neg c, if_neg (fun z => c z.2), if_neg (fun z => absurd z.1 (by decide))]
theorem rw_50 {B τ : xm_M} {m q j : Nat} : (rowM B τ m q).1 50 j = if 1280 * m ≤ j ∧ j < 1280 * m + q then (fnV B τ m (j - 1280 * m)).2 else τ.1 50 j := by
  unfold rowM
  dsimp only
  rw [if_neg (c := 50 = 49 ∧ _) (fun z => absurd z.1 (by decide))]
  by_cases c : 1280 * m ≤ j ∧ j < 1280 * m + q
  · rw [if_pos c, if_pos ⟨rfl, c⟩]
  · rw [if_neg c, if_neg (fun z => c z.2)]
theorem tab_at {B : xm_M} {m p : Nat} (hp : p < 1280) (hm : m ≤ 24) : ∀ n, n ≤ 25 → 25 - n ≤ m → (tabM B n).1 49 (1280 * m + p) = (fnV B (tabM B (24 - m)) m p).1 ∧ (tabM B n).1 50 (1280 * m + p) = (fnV B (tabM B (24 - m)) m p).2
  | 0, _, h => by omega
  | n + 1, hn, h => by
    rw [tabM]
    by_cases e : m = 24 - n
    · have e' : 24 - m = n := by omega
      rw [e', ← e, rw_49, rw_50, if_pos ⟨by omega, by omega⟩, if_pos ⟨by omega, by omega⟩, show 1280 * m + p - 1280 * m = p by omega]
      exact ⟨rfl, rfl⟩
    · have ih := tab_at (B := B) hp hm n (by omega) (by omega)
      rw [rw_49, rw_50, if_neg (by omega), if_neg (by omega)]
      exact ih
section TABLE
variable {α β : xm_M}
theorem task_at (hi : Inv α β) {k : Nat} (hk : k < tkMm β) : taM β k < nX α ∧ β.1 47 k = nI (taM β k) ∧ foM β k < 3 ∧ α.1 5 (taM β k) = nI (foM β k) := by
  have n8 := hi.1.1.2
  obtain ⟨t, ht, et⟩ := hi.2.2.2.2.2.1.2.2.2.1 k hk
  have e1 : taM β k = t := by unfold taM; rw [et, ixN_nI (by omega)]
  obtain ⟨-, -, -, a4, -, -, -, f, hf, ef⟩ := hi.1.2.2.2.2.2.2.2.2 t ht
  have e2 : foM β k = f := by unfold foM; rw [e1, a4, ef, ixN_nI (by omega)]
  rw [e2, e1]
  exact ⟨ht, et, hf, ef⟩
theorem tool_at (hi : Inv α β) {f : Nat} (h : ¬ tuM β f = -1) : ∃ u w, u < nX α ∧ tuM β f = nI u ∧ 1 ≤ w ∧ w ≤ 20 ∧ α.1 3 u = nI w ∧ β.1 37 (4 * u + 1) = nI w ∧ pWt (plP0 α β) f = w := by
  have n8 := hi.1.1.2
  rcases tlM_in (σ := β) (f := nI f) (nM β) with e | ⟨u, hu, e⟩
  · exact absurd e h
  · rw [nM_nX hi.1] at hu
    obtain ⟨-, a2, -, -, -, ⟨w, w1, w2, ew⟩, -⟩ := hi.1.2.2.2.2.2.2.2.2 u hu
    have e' : tuM β f = nI u := e
    refine ⟨u, w, hu, e', w1, w2, ew, a2.trans ew, ?_⟩
    show min 20 (ixN (β.1 37 (4 * ixN (tuM β f) + 1))) = w
    rw [e', ixN_nI (by omega), a2, ew, ixN_nI (by omega)]
    omega
theorem hb_hd (hi : Inv α β) {a : Nat} (ha : a < 2 ^ 31) : hbM β (nI a) = nI (pHd (plP0 α β) a) := by
  obtain ⟨-, ⟨w1, w4, c1, c4⟩, -, e3, e4, -⟩ := hi.1
  show hbM β (nI a) = nI (if a ≤ wX α then 0 else if a ≤ wX α + cX α then 1 else 2)
  unfold hbM
  rw [e3, e4, w1, c1, nI_add]
  by_cases c : a ≤ wX α
  · rw [if_pos c, if_pos ((nI_leI ha (by omega)).mpr c)]; rfl
  · rw [if_neg c, if_neg (fun q => c ((nI_leI ha (by omega)).mp q))]
    by_cases d : a ≤ wX α + cX α
    · rw [if_pos d, if_pos ((nI_leI ha (by omega)).mpr d)]; rfl
    · rw [if_neg d, if_neg (fun q => d ((nI_leI ha (by omega)).mp q))]; rfl
theorem hd_c (hi : Inv α β) {a : Nat} (ha : a < 2 ^ 31) : (hbM β (nI a) = 0 ↔ pHd (plP0 α β) a = 0) ∧ (hbM β (nI a) = 1 ↔ pHd (plP0 α β) a = 1) ∧ (hbM β (nI a) = 2 ↔ pHd (plP0 α β) a = 2) := by
  rw [hb_hd hi ha]
  have l := (plP0_ok hi).2.1 a
  exact ⟨nI_eq (b := 0) (by omega) (by decide), nI_eq (b := 1) (by omega) (by decide), nI_eq (b := 2) (by omega) (by decide)⟩
theorem nn_at (hi : Inv α β) : pNn (plP0 α β) ≤ 24 ∧ β.1 36 5 = nI (pNn (plP0 α β)) ∧ α.1 1 8 = nI (pNn (plP0 α β)) := by
  obtain ⟨n, hn, e⟩ := hi.1.2.2.2.2.2.2.1
  have e5 : β.1 36 5 = α.1 1 8 := hi.1.2.2.2.2.2.1
  have : pNn (plP0 α β) = n := by
    show (α.1 1 8).toNatClampNeg = n
    rw [e, nI_clamp (by omega)]
  rw [this, e5]
  exact ⟨hn, e, e⟩
theorem la_f {c : Nat} (h51 : c ≠ 51) (h36 : c ≠ 36) : (la1 β 3).1 c = β.1 c := la1_ne h51 h36
theorem la_51 {f : Nat} (hf : f < 3) : (la1 β 3).1 51 f = tuM β f := if_pos ⟨rfl, hf⟩
theorem la_ta {k : Nat} : taM (la1 β 3) k = taM β k := by unfold taM; rw [la_f (by decide) (by decide)]
theorem la_fo {k : Nat} : foM (la1 β 3) k = foM β k := by unfold foM; rw [la_ta, la_f (by decide) (by decide)]
theorem la_tk : tkMm (la1 β 3) = tkMm β := by unfold tkMm; rw [la1_k (by decide)]
theorem la_hb (x : Int32) : hbM (la1 β 3) x = hbM β x := by unfold hbM; rw [la1_k (by decide), la1_k (by decide)]
theorem la_th {t : Nat} : thM (la1 β 3) 41 t = thM β 41 t := by unfold thM; rw [la_f (by decide) (by decide), la_f (by decide) (by decide)]
theorem dN_v : ∀ k, k < 10 → (k < 2 → dN k < 3) ∧ (2 ≤ k → ¬ dN k < 3 ∧ dN k % 10 = (k - 2) % 4) ∧ (k < 6 → dN k < 20) ∧ (6 ≤ k → ¬ dN k < 20) ∧ (dN k = 2 ↔ k = 1) := by decide
theorem cd_ok (hi : Inv α β) {k a H : Nat} (hk : k < 10) (ha : a ≤ 9) (hH : H < 16) : cdI (la1 β 3) (dN k) (nI a) (nI H) = okN (plP0 α β) k a H := by
  obtain ⟨v1, v2, v3, v4, -⟩ := dN_v k hk
  unfold cdI okN
  by_cases k2 : k < 2
  · rw [if_pos (v1 k2), if_pos k2]
  · obtain ⟨w1, w2⟩ := v2 (by omega)
    rw [if_neg w1, if_neg k2, w2, la_tk, la_ta, la_th, la_hb, la_fo, hb_bt (by omega), b_nI (by omega)]
    have j4 : (k - 2) % 4 < 4 := Nat.mod_lt _ (by decide)
    generalize (k - 2) % 4 = j at *
    show _ = (decide (j < tkMm β) && (!H.testBit j && (thM β 41 (taM β j) && (if k < 6 then decide (pHd (plP0 α β) a = 0) else decide (¬ tuM β (foM β j % 3) = -1)))))
    by_cases c : j < tkMm β
    · rw [decide_eq_true c, Bool.true_and]
      obtain ⟨-, -, f3, -⟩ := task_at hi c
      rw [Nat.mod_eq_of_lt f3, la_51 f3]
      cases hb' : H.testBit j
      · cases ht : thM β 41 (taM β j)
        · rw [if_pos (Or.inr (Or.inr rfl))]; rfl
        · rw [if_neg (fun q => by rcases q with q | q | q; omega; exact absurd q (by decide); exact absurd q (by decide))]
          by_cases k6 : k < 6
          · rw [if_pos (v3 k6), if_pos k6]
            exact decide_eq_decide.mpr (hd_c hi (by omega)).1
          · rw [if_neg (v4 (by omega)), if_neg k6]; rfl
      · rw [if_pos (Or.inr (Or.inl rfl))]; rfl
    · rw [if_pos (Or.inl (by omega)), decide_eq_false c]; rfl
theorem gb_eq (hi : Inv α β) {m a f G : Nat} (hm : m ≤ 24) (ha : a ≤ 9) (hf : f < 3) : gbI (la1 β 3) (nI m) (nI a) (nI f) (nI G) = nI (gbN (plP0 α β) m a f G) := by
  obtain ⟨n24, e5, -⟩ := nn_at hi
  obtain ⟨h0, h1, h2⟩ := hd_c hi (a := a) (by omega)
  unfold gbI gbN
  rw [la_hb, la1_k (by decide), e5, or_pow (by omega)]
  have l : (¬ nI m < nI (pNn (plP0 α β))) ↔ pNn (plP0 α β) ≤ m := by
    rw [nI_ltI (by omega) (by omega)]
    omega
  by_cases c : pHd (plP0 α β) a = 2 ∨ (pHd (plP0 α β) a = 1 ∧ pNn (plP0 α β) ≤ m)
  · rw [if_pos c, if_pos (c.imp h2.mpr (fun q => ⟨h1.mpr q.1, l.mpr q.2⟩))]
  · rw [if_neg c, if_neg (fun q => c (q.imp h2.mp (fun q => ⟨h1.mp q.1, l.mp q.2⟩)))]
theorem gb_8 {P : pM} {m a f G : Nat} (hf : f < 3) (hG : G < 8) : gbN P m a f G < 8 := by
  unfold gbN
  split
  · exact Nat.or_lt_two_pow (n := 3) hG (Nat.pow_lt_pow_right (by decide) hf)
  · exact hG
theorem to_eq (hi : Inv α β) {m a H G k : Nat} (hm : m < 24) (ha : a ≤ 9) (hH : H < 16) (hG : G < 8) (hk : k < 10) (ho : okN (plP0 α β) k a H = true) :
    toA (la1 β 3) m (128 * a + 8 * H + G) k = 1280 * (m + 1) + (128 * naN k a + 8 * nhN k H + ngN (plP0 α β) k m a G) ∧ nhN k H < 16 ∧ ngN (plP0 α β) k m a G < 8 ∧ (H < 2 ^ tkMm β → nhN k H < 2 ^ tkMm β) := by
  obtain ⟨v1, v2, v3, v4, v5⟩ := dN_v k hk
  have p1 : (128 * a + 8 * H + G) / 128 = a := by omega
  have p2 : (128 * a + 8 * H + G) / 8 % 16 = H := by omega
  have p3 : (128 * a + 8 * H + G) % 8 = G := by omega
  have jK : ¬ k < 2 → (k - 2) % 4 < tkMm β := fun k2 => by
    unfold okN at ho
    rw [if_neg k2, Bool.and_eq_true, decide_eq_true_eq] at ho
    exact ho.1
  have k4 := hi.2.2.2.2.2.1.1.2
  have hh : (if dN k < 3 then nI H else nI H ||| (1 <<< (nI (dN k % 10) &&& 31))) = nI (nhN k H) ∧ nhN k H < 16 ∧ (H < 2 ^ tkMm β → nhN k H < 2 ^ tkMm β) := by
    unfold nhN
    by_cases k2 : k < 2
    · rw [if_pos (v1 k2), if_pos k2]
      exact ⟨rfl, hH, id⟩
    · obtain ⟨w1, w2⟩ := v2 (by omega)
      have j4 : (k - 2) % 4 < 4 := Nat.mod_lt _ (by decide)
      rw [if_neg w1, if_neg k2, w2, or_pow (by omega)]
      have jk := jK k2
      refine ⟨rfl, Nat.or_lt_two_pow (n := 4) hH (Nat.pow_lt_pow_right (by decide) j4), fun q => Nat.or_lt_two_pow q (Nat.pow_lt_pow_right (by decide) jk)⟩
  have hg : (if dN k < 20 then nI G else gbI (la1 β 3) (nI m) (nI a) (nI (foM (la1 β 3) (dN k % 10))) (nI G)) = nI (ngN (plP0 α β) k m a G) ∧ ngN (plP0 α β) k m a G < 8 := by
    unfold ngN
    by_cases k6 : k < 6
    · rw [if_pos (v3 k6), if_pos k6]
      exact ⟨rfl, hG⟩
    · obtain ⟨w1, w2⟩ := v2 (by omega)
      obtain ⟨-, -, f3, -⟩ := task_at hi (jK (by omega))
      have ef : pFl (plP0 α β) ((k - 2) % 4) = foM β ((k - 2) % 4) := Nat.mod_eq_of_lt f3
      rw [if_neg (v4 (by omega)), if_neg k6, w2, la_fo, ef, gb_eq hi (by omega) ha f3]
      exact ⟨rfl, gb_8 f3 hG⟩
  have e1 : (if dN k = 2 then (1 : Int32) else nI a + 1) = nI (if k = 1 then 1 else a + 1) := by
    by_cases c : k = 1
    · rw [if_pos (v5.mpr c), if_pos c]; rfl
    · rw [if_neg (fun q => c (v5.mp q)), if_neg c, nI_1]
  refine ⟨?_, hh.2.1, hg.2, hh.2.2⟩
  unfold toA bnI
  rw [p1, p2, p3, hh.1, hg.1, e1, nI_1, plI_nI (by omega) (by split <;> omega) hh.2.1 hg.2, ixN_nI (by omega)]
  congr 3
  unfold naN
  split <;> omega
theorem cs_eq (hi : Inv α β) {m a H G k : Nat} (hm : m < 24) (ha : a ≤ 9) (hG : G < 8) (hk : k < 10) (ho : okN (plP0 α β) k a H = true) : csI (la1 β 3) (dN k) (nI m) (nI a) (nI G) = nI (coN (plP0 α β) k m a G) ∧ coN (plP0 α β) k m a G ≤ 20 := by
  obtain ⟨v1, v2, v3, v4, v5⟩ := dN_v k hk
  unfold csI coN
  by_cases k6 : k < 6
  · rw [if_pos (v3 k6), if_pos k6]
    exact ⟨rfl, by omega⟩
  · obtain ⟨w1, w2⟩ := v2 (by omega)
    unfold okN at ho
    rw [if_neg (by omega), if_neg k6] at ho
    simp only [Bool.and_eq_true, decide_eq_true_eq] at ho
    obtain ⟨-, -, f3, -⟩ := task_at hi ho.1
    have ef : pFl (plP0 α β) ((k - 2) % 4) = foM β ((k - 2) % 4) := Nat.mod_eq_of_lt f3
    have ht : ¬ tuM β (foM β ((k - 2) % 4)) = -1 := by
      have := ho.2.2.2
      rw [ef] at this
      exact of_decide_eq_true this
    obtain ⟨u, w, hu, eu, w1', w20, ew, ew2, ep⟩ := tool_at hi ht
    rw [if_neg (v4 (by omega)), if_neg k6, w2, la_fo, ef, gb_eq hi (by omega) ha f3]
    have g8 := gb_8 (P := plP0 α β) (m := m) (a := a) f3 hG
    unfold cbI csN
    rw [la_51 f3, eu, la_f (by decide) (by decide), ixN_nI (by have := hi.1.1.2; omega), ew2, ep, hb_bt (by omega), hb_bt (by omega), b_nI (by omega), b_nI (by omega)]
    split
    · exact ⟨rfl, w20⟩
    · exact ⟨rfl, by omega⟩
theorem al_eq (hi : Inv α β) : alM (la1 β 3) = nI (2 ^ tkMm β - 1) := by
  have v := hi.2.2.2.2.2.1.1
  have : ∀ k, k ≤ 4 → ((1 : Int32) <<< (nI k &&& 31)) - 1 = nI (2 ^ k - 1) := by decide
  unfold alM
  rw [la1_k (by decide), v.1]
  exact this _ v.2
theorem EN_step {n : Nat} {v v' : Int32 × Int32} {r r' co : Nat} (hn : n < 24) (h : EN (n + 1) v r) (h' : EN n v' r') (hc : co ≤ 20) :
    EN (n + 1) (if ¬ 9999 ≤ v'.1 ∧ (v'.1 + nI co < v.1 ∨ (v'.1 + nI co = v.1 ∧ ¬ v.2 ≤ v'.2)) then (v'.1 + nI co, v'.2) else v) (min r (64 * co + r')) := by
  rcases h' with ⟨rfl, rfl⟩ | ⟨c', l', hc', hl', rfl, rfl⟩
  · rw [if_neg (fun q => q.1 (by decide))]
    have : r ≤ INF := by
      rcases h with ⟨-, rfl⟩ | ⟨c, l, hc, hl, -, rfl⟩
      · exact Nat.le_refl _
      · unfold INF; omega
    rw [Nat.min_eq_left (by omega)]
    exact h
  · dsimp only
    have n1 : ¬ (9999 : Int32) ≤ nI c' := fun q => by
      have := (nI_leI (a := 9999) (by decide) (by omega)).mp q
      omega
    rw [nI_add]
    rcases h with ⟨rfl, rfl⟩ | ⟨c, l, hc, hl, rfl, rfl⟩
    · dsimp only
      rw [if_pos ⟨n1, Or.inl (nI_lt (by omega) (by decide))⟩, Nat.min_eq_right (by unfold INF; omega)]
      exact Or.inr ⟨c' + co, l', by omega, hl', rfl, by omega⟩
    · dsimp only
      by_cases z : c' + co < c ∨ (c' + co = c ∧ l' < l)
      · rw [if_pos ⟨n1, z.imp (fun q => nI_lt q (by omega)) (fun q => ⟨by rw [q.1], fun y => by have := (nI_leI (by omega) (by omega)).mp y; omega⟩)⟩, Nat.min_eq_right (by omega)]
        exact Or.inr ⟨c' + co, l', by omega, hl', rfl, by omega⟩
      · rw [if_neg, Nat.min_eq_left (by omega)]
        · exact Or.inr ⟨c, l, hc, hl, rfl, rfl⟩
        · intro q
          apply z
          refine q.2.imp (fun y => (nI_ltI (by omega) (by omega)).mp y) (fun y => ⟨(nI_eq (by omega) (by omega)).mp y.1, ?_⟩)
          have := y.2
          rw [nI_leI (by omega) (by omega)] at this
          omega
theorem tab_EN (hi : Inv α β) : ∀ n, n ≤ 24 → ∀ a H G, 1 ≤ a → a ≤ 9 → H < 2 ^ tkMm β → G < 8 → (n < 24 ∨ ¬ H = 2 ^ tkMm β - 1) → EN n (fnV (la1 β 3) (tabM (la1 β 3) n) (24 - n) (128 * a + 8 * H + G)) (RN (plP0 α β) n a H G) := by
  have k4 := hi.2.2.2.2.2.1.1.2
  have h16 : 2 ^ tkMm β ≤ 16 := Nat.pow_le_pow_right (n := 2) (j := 4) (by decide) k4
  have pp : 0 < 2 ^ tkMm β := Nat.two_pow_pos _
  intro n
  induction n with
  | zero =>
    intro _ a H G a1 a9 hH hG _
    have p2 : (128 * a + 8 * H + G) / 8 % 16 = H := by omega
    unfold fnV
    rw [if_neg (by omega), stK, p2, al_eq hi, RN]
    by_cases c : H = 2 ^ tkMm β - 1
    · rw [if_pos (by rw [c]), if_pos (show H = 2 ^ pK (plP0 α β) - 1 from c)]
      exact Or.inr ⟨0, 23, by omega, by omega, rfl, by omega⟩
    · rw [if_neg (fun q => c ((nI_eq (by omega) (by omega)).mp q)), if_neg (show ¬ H = 2 ^ pK (plP0 α β) - 1 from c)]
      exact Or.inl ⟨rfl, rfl⟩
  | succ n ih =>
    intro hn a H G a1 a9 hH hG hor
    have p1 : (128 * a + 8 * H + G) / 128 = a := by omega
    have p2 : (128 * a + 8 * H + G) / 8 % 16 = H := by omega
    have p3 : (128 * a + 8 * H + G) % 8 = G := by omega
    rw [show 24 - (n + 1) = 23 - n by omega]
    have lt : nI H < nI (2 ^ tkMm β - 1) ↔ H < 2 ^ tkMm β - 1 := nI_ltI (by omega) (by omega)
    by_cases c : H = 2 ^ tkMm β - 1
    · unfold fnV
      rw [p2, al_eq hi, if_neg (fun q => by have := lt.mp q.2.2; omega), stK, p2, al_eq hi, if_pos (by rw [c]), RN_all hn c, show (1 : Int32) = nI 1 from rfl, pk_sub (by omega)]
      exact Or.inr ⟨0, 22 - n, by omega, by omega, by rw [show 23 - n - 1 = 22 - n by omega]; rfl, by omega⟩
    · rw [RN_s (show ¬ H = 2 ^ pK (plP0 α β) - 1 from c)]
      have fold : ∀ k, k ≤ 10 → EN (n + 1) (stK (la1 β 3) (tabM (la1 β 3) (n + 1)) (23 - n) (128 * a + 8 * H + G) k) (minN (cdN (plP0 α β) n a H G) k) := by
        intro k
        induction k with
        | zero =>
          intro _
          rw [stK, p2, al_eq hi, if_neg (fun q => c ((nI_eq (by omega) (by omega)).mp q)), minN]
          exact Or.inl ⟨rfl, rfl⟩
        | succ k ihk =>
          intro hk
          have ihk' := ihk (by omega)
          rw [stK, minN]
          unfold smK
          rw [p1, p2, p3, cd_ok hi (by omega) a9 (by omega)]
          by_cases o : okN (plP0 α β) k a H = true
          · obtain ⟨t1, t2, t3, t4⟩ := to_eq hi (m := 23 - n) (a := a) (H := H) (G := G) (k := k) (by omega) a9 (by omega) hG (by omega) o
            obtain ⟨c1, c2⟩ := cs_eq hi (m := 23 - n) (a := a) (H := H) (G := G) (k := k) (by omega) a9 hG (by omega) o
            have na1 : 1 ≤ naN k a ∧ naN k a ≤ 9 := by unfold naN; split <;> omega
            rw [show 23 - n + 1 = 24 - n by omega] at t1
            have ta := tab_at (B := la1 β 3) (m := 24 - n) (p := 128 * naN k a + 8 * nhN k H + ngN (plP0 α β) k (23 - n) a G) (by omega) (by omega) (n + 1) (by omega) (by omega)
            rw [show 24 - (24 - n) = n by omega] at ta
            rw [t1, c1, ta.1, ta.2]
            have q := ih (by omega) (naN k a) (nhN k H) (ngN (plP0 α β) k (23 - n) a G) na1.1 na1.2 (t4 hH) t3 (Or.inl (by omega))
            have e := EN_step (by omega) ihk' q c2
            have ec : cdN (plP0 α β) n a H G k = 64 * coN (plP0 α β) k (23 - n) a G + RN (plP0 α β) n (naN k a) (nhN k H) (ngN (plP0 α β) k (23 - n) a G) := by unfold cdN; rw [if_pos o]
            rw [ec]
            generalize fnV (la1 β 3) (tabM (la1 β 3) n) (24 - n) (128 * naN k a + 8 * nhN k H + ngN (plP0 α β) k (23 - n) a G) = V at *
            generalize stK (la1 β 3) (tabM (la1 β 3) (n + 1)) (23 - n) (128 * a + 8 * H + G) k = S at *
            simp only [o, true_and]
            exact e
          · have ec : cdN (plP0 α β) n a H G k = INF := by unfold cdN; rw [if_neg o]
            rw [if_neg (fun q => o q.1), ec, Nat.min_eq_left (minN_inf _)]
            exact ihk'
      unfold fnV
      rw [p1, p2, al_eq hi, if_pos ⟨by omega, by omega, lt.mpr (by omega)⟩]
      exact fold 10 (Nat.le_refl _)
end TABLE
