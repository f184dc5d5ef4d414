/-! both sides: the plan -/
section EQ19
variable {α β : xm_M}
theorem isK_iff {σ : xm_M} {x : Int32} : ∀ {n : Nat}, isK σ x n = true ↔ ∃ k, k < n ∧ σ.1 47 k = x
  | 0 => ⟨fun h => absurd h (by rw [isK]; decide), fun ⟨k, hk, _⟩ => by omega⟩
  | n + 1 => by
    rw [isK, Bool.or_eq_true, isK_iff (n := n), decide_eq_true_eq]
    refine ⟨fun q => ?_, fun ⟨k, hk, e⟩ => ?_⟩
    · rcases q with ⟨k, hk, e⟩ | q
      · exact ⟨k, by omega, e⟩
      · exact ⟨n, by omega, q⟩
    · by_cases z : k = n
      · subst z; exact Or.inr e
      · exact Or.inl ⟨k, by omega, e⟩
theorem LR_st (hi : Inv α β) : LR β (α.1 0 11) 0 := by
  obtain ⟨-, hB, -, -, -, hK⟩ := hi.2.2.2.2.2.1
  have n8 := hi.1.1.2
  refine ⟨iBt_mono hB n8, Nat.two_pow_pos _, fun t ht => ?_⟩
  rw [← hb_bt (by omega), hK t ht, isK_iff]
  refine ⟨fun ⟨k, hk, e⟩ => ⟨k, hk, ?_, Nat.zero_testBit k⟩, fun ⟨k, hk, e, _⟩ => ⟨k, hk, ?_⟩⟩
  · unfold taM; rw [e, ixN_nI (by omega)]
  · rw [(task_at hi hk).2.1, e]
theorem trn_bt {j : Nat} (hj : j < 32) : ∀ k, k ≤ 3 → (bt (trn β k) j = true ↔ j < k ∧ ¬ tuM β j = -1 ∧ β.1 41 (ixN (tuM β j)) = 2)
  | 0, _ => by
    rw [trn, b_0]
    exact ⟨fun q => absurd q (by decide), fun q => by omega⟩
  | k + 1, hk => by
    have ih := trn_bt hj k (by omega)
    rw [trn]
    by_cases e : j = k
    · subst e
      by_cases c : ¬ tuM β j = -1 ∧ β.1 41 (ixN (tuM β j)) = 2
      · rw [if_pos c, b_set hj, decide_eq_true rfl, Bool.or_true]
        exact ⟨fun _ => ⟨by omega, c⟩, fun _ => rfl⟩
      · rw [if_neg c, or0, ih]
        exact ⟨fun q => by omega, fun q => absurd q.2 c⟩
    · have q : bt (trn β k ||| (if ¬ tuM β k = -1 ∧ β.1 41 (ixN (tuM β k)) = 2 then 1 <<< (nI k &&& 31) else 0)) j = bt (trn β k) j := by
        split
        · rw [b_set (by omega), decide_eq_false e, Bool.or_false]
        · rw [or0]
      rw [q, ih]
      exact ⟨fun q => ⟨by omega, q.2⟩, fun q => ⟨by omega, q.2⟩⟩
theorem GR_st (hi : Inv α β) : GR β (α.1 16 3) (tr3 β) := by
  obtain ⟨t8, et⟩ := tr3_8 β
  refine ⟨t8, fun f hf u hu e => ?_⟩
  obtain ⟨un, -⟩ := tool_fl hi hu e
  have g := hi.2.1.2.2.2.2.2.2.2 u un
  rw [vG_bt (by omega)] at g
  rw [← b_nI (by omega), ← et, Bool.eq_iff_iff, trn_bt (by omega) 3 (by decide), e, ixN_nI (by omega), g]
  refine ⟨fun q => ⟨hf, nI_nm (by omega), by rw [if_pos q]⟩, fun q => ?_⟩
  by_cases z : bt (α.1 16 3) u = true
  · exact z
  · have := q.2.2
    rw [if_neg z] at this
    revert this
    split
    · intro w; exact absurd w (by decide)
    · intro w; exact absurd w (by decide)
theorem agN_no {σ : xm_M} : ∀ n, (∀ j, j < n → hb (σ.1 41 11) (nI j) = false) → agN σ n = 9
  | 0, _ => rfl
  | n + 1, h => by rw [agN, h n (by omega), if_neg (by decide), agN_no n (fun j hj => h j (by omega))]
theorem agN_at {σ : xm_M} {L : Nat} (hL : hb (σ.1 41 11) (nI L) = true) : ∀ n, L < n → (∀ j, L < j → j < n → hb (σ.1 41 11) (nI j) = false) → agN σ n = miM σ - L
  | 0, h, _ => by omega
  | n + 1, h, hn => by
    rw [agN]
    by_cases e : L = n
    · subst e; rw [if_pos hL]
    · rw [hn n (by omega) (by omega), if_neg (by decide), agN_at hL n (by omega) (fun j a b => hn j a (by omega))]
theorem agC_eq (hi : Inv α β) {m : Nat} (hm : m ≤ 24) (eM : miM β = m) : agC β = agX (α.1 16 1) m := by
  have r11 : β.1 41 11 = α.1 16 1 := hi.2.1.2.2.2.2.1
  unfold agC
  rw [eM]
  rcases ago_spec (α.1 16 1) m (by omega) m (by omega) with ⟨a, -⟩ | ⟨L, l1, l2, l3, l4, -⟩
  · rw [agN_no m (fun j hj => by rw [r11]; exact a j hj hj), agX_no m (fun j hj => by rw [← hb_bt (by omega)]; exact a j hj hj)]
    rfl
  · rw [agN_at (L := L) (by rw [r11]; exact l3) m l2 (fun j h1 h2 => by rw [r11]; exact l4 j h1 h2 h2), eM, agX_at (L := L) (by rw [← hb_bt (by omega)]; exact l3) m l2 (fun j h1 h2 => by rw [← hb_bt (by omega)]; exact l4 j h1 h2 h2)]
theorem vTT_st (hi : Inv α β) : vTT α β (toM α (α.1 0 11)) := by
  have e1 : (toM α (α.1 0 11)).1 1 = α.1 1 := toM_ne (by decide)
  refine ⟨nX_of e1, fun b m => by unfold hX wX cX; rw [e1], toM_ne (by decide), toM_ne (by decide), by rw [e1], fun f hf => ?_⟩
  have tl := (tl_eq hi.1 hi.2.1.2.2.2 hi.2.2.2.2.2.1 (nI f) (nX α) (Nat.le_refl _)).1
  have eu : tuM β f = tlM β (nI f) (nX α) := by unfold tuM; rw [nM_nX hi.1]
  rw [eu, ← tl]
  have f3 : f = 0 ∨ f = 1 ∨ f = 2 := by omega
  unfold toM
  rcases f3 with rfl | rfl | rfl
  · rw [xs_nk (by decide), xs_nk (by decide), xs_eq]; rfl
  · rw [xs_nk (by decide), xs_eq]; rfl
  · rw [xs_eq]; rfl
def tdN (β : xm_M) (k : Nat) : Nat := if k < 2 then 1 + k else (if k < 6 then 10 else 20) + taM β ((k - 2) % 4)
theorem td_v : ∀ k, k < 10 → (k < 2 → nI (dN k) = nI (1 + k)) ∧ (2 ≤ k → nI (dN k) / 10 * 10 = nI (if k < 6 then 10 else 20)) := by decide
theorem td_eq (hi : Inv α β) {k : Nat} (hk : k < 10) (h : 2 ≤ k → (k - 2) % 4 < tkMm β) : tdI β (dN k) = nI (tdN β k) := by
  obtain ⟨v1, v2, -⟩ := dN_v k hk
  obtain ⟨w1, w2⟩ := td_v k hk
  unfold tdI tdN
  by_cases k2 : k < 2
  · rw [if_pos (v1 k2), if_pos k2, w1 k2]
  · obtain ⟨x1, x2⟩ := v2 (by omega)
    rw [if_neg x1, if_neg k2, w2 (by omega), x2, (task_at hi (h (by omega))).2.1, nI_add]
/-- a deed with which a best way begins -/
def attN (P : pM) (n a G k : Nat) : Prop := okN P k a 0 = true ∧ cdN P n a 0 G k = RN P (n + 1) a 0 G
theorem ok_K {P : pM} {k a H : Nat} (h : okN P k a H = true) (k2 : 2 ≤ k) : (k - 2) % 4 < pK P ∧ H.testBit ((k - 2) % 4) = false ∧ (k < 6 → pHd P a = 0) := by
  unfold okN at h
  rw [if_neg (by omega), Bool.and_eq_true, Bool.and_eq_true, Bool.and_eq_true, decide_eq_true_eq] at h
  refine ⟨h.1, ?_, fun k6 => ?_⟩
  · have := h.2.1
    revert this
    cases H.testBit ((k - 2) % 4) <;> simp
  · have := h.2.2.2
    rw [if_pos k6] at this
    exact of_decide_eq_true this
theorem la_at (hi : Inv α β) {m p : Nat} (hm : m ≤ 24) (h : miM β ≤ m) (hp : p < 1280) : (laM β).1 49 (1280 * m + p) = (fnV (la1 β 3) (tabM (la1 β 3) (24 - m)) m p).1 ∧ (laM β).1 50 (1280 * m + p) = (fnV (la1 β 3) (tabM (la1 β 3) (24 - m)) m p).2 :=
  tab_at hp hm (25 - miM β) (by omega) (by omega)
theorem att_eq (hi : Inv α β) {m n a G : Nat} (hm : m + (n + 1) = 24) (eM : miM β = m) (a1 : 1 ≤ a) (a9 : a ≤ 9) (hG : G < 8) (eq : plQ β = 128 * a + 8 * 0 + G) (ea : agC β = a) {c l : Nat} (hc : c ≤ 20 * (n + 1)) (hl : l ≤ 23) (e49 : (laM β).1 49 (plB β) = nI c) (e50 : (laM β).1 50 (plB β) = nI l) (eR : RN (plP0 α β) (n + 1) a 0 G = 64 * c + (l + 1)) {k : Nat} (hk : k < 10) :
    (cdI (la1 β 3) (dN k) (nI (agC β)) 0 = true ∧ isB β k = true) ↔ attN (plP0 α β) n a G k := by
  have cd := cd_ok hi hk a9 (H := 0) (by decide)
  rw [ea, show (0 : Int32) = nI 0 from rfl, cd]
  unfold attN
  refine and_congr_right (fun o => ?_)
  obtain ⟨t1, t2, t3, t4⟩ := to_eq hi (m := m) (a := a) (H := 0) (G := G) (k := k) (by omega) a9 (by decide) hG hk o
  obtain ⟨c1, c2⟩ := cs_eq hi (m := m) (a := a) (H := 0) (G := G) (k := k) (by omega) a9 hG hk o
  have na1 : 1 ≤ naN k a ∧ naN k a ≤ 9 := by unfold naN; split <;> omega
  have p1 : (128 * a + 8 * 0 + G) / 128 = a := by omega
  have p3 : (128 * a + 8 * 0 + G) % 8 = G := by omega
  have la := la_at hi (m := m + 1) (p := 128 * naN k a + 8 * nhN k 0 + ngN (plP0 α β) k m a G) (by omega) (by omega) (by omega)
  have q := tab_EN hi n (by omega) (naN k a) (nhN k 0) (ngN (plP0 α β) k m a G) na1.1 na1.2 (t4 (Nat.two_pow_pos _)) t3 (Or.inl (by omega))
  rw [show 24 - (m + 1) = n by omega] at la
  rw [show 24 - n = m + 1 by omega] at q
  unfold isB smK
  rw [Bool.and_eq_true, decide_eq_true_eq, decide_eq_true_eq, eM, eq, t1, e49, e50, p1, p3, c1, la.1, la.2]
  unfold cdN
  rw [if_pos o, show 23 - n = m by omega, eR]
  rcases q with ⟨v, r⟩ | ⟨c', l', hc', hl', v, r⟩
  · rw [v, r, nI_add, nI_eq (by omega) (by omega)]
    refine ⟨fun z => ?_, fun z => ?_⟩
    · omega
    · unfold INF at z; omega
  · rw [v, r, nI_add, nI_eq (by omega) (by omega), nI_eq (by omega) (by omega)]
    omega
theorem plE_spec (hi : Inv α β) {n a G : Nat} (hatt : ∀ k, k < 10 → ((cdI (la1 β 3) (dN k) (nI (agC β)) 0 = true ∧ isB β k = true) ↔ attN (plP0 α β) n a G k)) : ∀ j, j ≤ 10 → (plE β j = nI 9999 ∧ ∀ k, k < j → ¬ attN (plP0 α β) n a G k) ∨ ∃ k, k < j ∧ attN (plP0 α β) n a G k ∧ plE β j = nI (tdN β k) ∧ ∀ i, i < j → attN (plP0 α β) n a G i → tdN β k ≤ tdN β i
  | 0, _ => Or.inl ⟨rfl, fun k hk => by omega⟩
  | j + 1, hj => by
    have ih := plE_spec hi hatt j (by omega)
    have n8 := hi.1.1.2
    rw [plE]
    by_cases c : attN (plP0 α β) n a G j
    · have hK : 2 ≤ j → (j - 2) % 4 < tkMm β := fun j2 => (ok_K c.1 j2).1
      have bnd : ∀ i, i < 10 → attN (plP0 α β) n a G i → tdN β i ≤ 40 := fun i hi' hc => by
        unfold tdN
        split
        · omega
        · rename_i i2
          have := (task_at hi (ok_K hc.1 (by omega)).1).1
          split <;> omega
      rw [td_eq hi (by omega) hK]
      have cc := (hatt j (by omega)).mpr c
      rcases ih with ⟨e, no⟩ | ⟨k, hk, ak, e, mn⟩
      · rw [e, if_pos ⟨cc.1, cc.2, fun q => by have := (nI_leI (by decide) (by have := bnd j (by omega) c; omega)).mp q; have := bnd j (by omega) c; omega⟩]
        refine Or.inr ⟨j, by omega, c, rfl, fun i hi' hc => ?_⟩
        by_cases z : i = j
        · rw [z]; exact Nat.le_refl _
        · exact absurd hc (no i (by omega))
      · have b1 := bnd j (by omega) c
        have b2 := bnd k (by omega) ak
        by_cases z : tdN β k ≤ tdN β j
        · rw [e, if_neg (fun q => q.2.2 (nI_le z (by omega)))]
          refine Or.inr ⟨k, by omega, ak, rfl, fun i hi' hc => ?_⟩
          by_cases y : i = j
          · rw [y]; exact z
          · exact mn i (by omega) hc
        · rw [e, if_pos ⟨cc.1, cc.2, fun q => z ((nI_leI (by omega) (by omega)).mp q)⟩]
          refine Or.inr ⟨j, by omega, c, rfl, fun i hi' hc => ?_⟩
          by_cases y : i = j
          · rw [y]; exact Nat.le_refl _
          · have := mn i (by omega) hc
            omega
    · rw [if_neg (fun q => c ((hatt j (by omega)).mp ⟨q.1, q.2.1⟩))]
      rcases ih with ⟨e, no⟩ | ⟨k, hk, ak, e, mn⟩
      · refine Or.inl ⟨e, fun k hk => ?_⟩
        by_cases z : k = j
        · rw [z]; exact c
        · exact no k (by omega)
      · refine Or.inr ⟨k, by omega, ak, e, fun i hi' hc => ?_⟩
        by_cases y : i = j
        · rw [y] at hc; exact absurd hc c
        · exact mn i (by omega) hc
theorem any_eq (hi : Inv α β) : anyL α (α.1 0 11) (nX α) = true ↔ ∀ k, k < tkMm β → pOk (plP0 α β) k = true := by
  have hL := LR_st hi
  have n8 := hi.1.1.2
  have hz := hi.2.1.2.2.2
  have ok : ∀ k, k < tkMm β → pOk (plP0 α β) k = !loX α 16 (taM β k) := fun k hk => eq_th hi.1 hz (task_at hi hk).1
  unfold anyL
  rw [allN_true]
  refine ⟨fun h k hk => ?_, fun h t ht => ?_⟩
  · obtain ⟨t8, tb⟩ := LR_ta hi hL hk (Nat.zero_testBit k)
    have := h (taM β k) (task_at hi hk).1
    rw [hb_bt (by omega), tb, Bool.true_and] at this
    rw [ok k hk]; exact this
  · cases c : hb (α.1 0 11) (nI t)
    · rfl
    · obtain ⟨k, hk, et, -⟩ := t_task hi hL ht c
      have := h k hk
      rw [ok k hk, et] at this
      rw [Bool.true_and]; exact this
theorem eq_plan (hi : Inv α β) (y : Int32) : f_plan α y = g_plan β y := by
  obtain ⟨m, hm, em, ex, eM, er⟩ := mi_ex hi
  have n8 := hi.1.1.2
  have hL := LR_st hi
  have hG := GR_st hi
  have vk := hi.2.2.2.2.2.1.1
  have k4 := vk.2
  obtain ⟨⟨m', hm', em', hb1⟩, -⟩ := hi.2.1
  have : m' = m := (nI_eq (by omega) (by omega)).mp (em'.symm.trans em)
  subst this
  unfold f_plan g_plan
  by_cases cy : y < 0 ∨ 2 < y
  · rw [if_pos cy, if_pos (inB_f.mpr cy)]
  · rw [if_neg cy, if_neg (c := inB y 0 2 = false) (fun q => cy (inB_f.mp q))]
    have k0 : α.1 0 11 = 0 ↔ β.1 36 26 = 0 := by
      rw [LR_0 hi hL, vk.1]
      refine ⟨fun q => ?_, fun q => ?_⟩
      · have : tkMm β = 0 := by
          rcases Nat.eq_zero_or_pos (tkMm β) with z | z
          · exact z
          · have := Nat.pow_le_pow_right (n := 2) (i := 1) (by decide) z
            omega
        rw [this]; rfl
      · have : tkMm β = 0 := (nI_eq (b := 0) (by omega) (by decide)).mp q
        rw [this]
    by_cases c0 : α.1 0 11 = 0
    · rw [if_pos c0, if_pos (k0.mp c0)]
    · rw [if_neg c0, if_neg (c := β.1 36 26 = 0) (fun q => c0 (k0.mpr q))]
      have hH : ¬ 0 = 2 ^ tkMm β - 1 := fun q => c0 ((LR_0 hi hL).mpr q)
      have aC := agC_eq hi hm eM
      have a9 := agX_in (b := α.1 16 1) m'
      have eQ : plQ β = 128 * agX (α.1 16 1) m' + 8 * 0 + tr3 β := by unfold plQ; rw [aC]; omega
      have la := la_at hi (m := m') (p := plQ β) hm (by omega) (by have := hG.1; omega)
      have q := tab_EN hi (24 - m') (by omega) (agX (α.1 16 1) m') 0 (tr3 β) a9.1 a9.2 (Nat.two_pow_pos _) hG.1 (Or.inr hH)
      rw [show 24 - (24 - m') = m' by omega, ← eQ] at q
      have eB : plB β = 1280 * m' + plQ β := by unfold plB; rw [eM]
      have e49 : (laM β).1 49 (plB β) = (fnV (la1 β 3) (tabM (la1 β 3) (24 - m')) m' (plQ β)).1 := by rw [eB]; exact la.1
      have e50 : (laM β).1 50 (plB β) = (fnV (la1 β 3) (tabM (la1 β 3) (24 - m')) m' (plQ β)).2 := by rw [eB]; exact la.2
      by_cases ca : anyL α (α.1 0 11) (nX α) = false
      · rw [if_pos ca]
        have lost : RN (plP0 α β) (24 - m') (agX (α.1 16 1) m') 0 (tr3 β) = INF := by
          by_cases z : ∃ k, k < tkMm β ∧ pOk (plP0 α β) k = false
          · obtain ⟨k, hk, hk2⟩ := z
            exact RN_lost (P := plP0 α β) hk k4 hk2 _ _ _ _ (by omega) (Nat.zero_testBit k)
          · exfalso
            have := (any_eq hi).mpr (fun k hk => by
              rw [← Bool.not_eq_false]
              exact fun y => z ⟨k, hk, y⟩)
            rw [ca] at this
            exact absurd this (by decide)
        rcases q with ⟨v, -⟩ | ⟨c, l, hc, hl, -, r⟩
        · rw [e49, v, if_pos (c := (nI 9999, nI 9999).1 = (9999 : Int32)) rfl]
        · rw [lost] at r
          unfold INF at r
          omega
      · rw [if_neg ca]
        rw [Bool.not_eq_false] at ca
        have hok := (any_eq hi).mp ca
        have hTT := vTT_st hi
        unfold bstP
        rw [em]
        by_cases m24 : m' = 24
        · subst m24
          have eS : srX (toM α (α.1 0 11)) 25 (nI 24) (α.1 16 1) (α.1 0 11) (α.1 16 3) 0 (-1) (α.1 21 0, α.1 21 1, α.1 21 2, noW) = (α.1 21 0, α.1 21 1, α.1 21 2, noW) := by
            rw [srX]
            split
            · rfl
            · rw [if_pos (by decide)]
          rw [eS, if_pos rfl]
          rcases q with ⟨v, -⟩ | ⟨c, l, hc, hl, -, r⟩
          · rw [e49, v, if_pos (c := (nI 9999, nI 9999).1 = (9999 : Int32)) rfl]
          · rw [show 24 - 24 = 0 from rfl, RN, if_neg (show ¬ 0 = 2 ^ pK (plP0 α β) - 1 from hH)] at r
            unfold INF at r
            omega
        · obtain ⟨n, hn⟩ : ∃ n, m' + (n + 1) = 24 := ⟨23 - m', by omega⟩
          have e25 : 25 = n + 1 + m' + 1 := by omega
          have e24 : 24 - m' = n + 1 := by omega
          rw [e24] at q e49 e50
          obtain ⟨fd, eS, hfd⟩ := sr_root (Q0 := (α.1 21 0, α.1 21 1, α.1 21 2, noW)) hi hTT hok (e := m') hn hb1 hL hG hH rfl
          rw [e25, eS]
          rcases q with ⟨v, r⟩ | ⟨c, l, hc, hl, v, r⟩
          · rw [r, if_neg (Nat.lt_irrefl _), if_pos rfl, e49, v, if_pos (c := (nI 9999, nI 9999).1 = (9999 : Int32)) rfl]
          · have rf : RN (plP0 α β) (n + 1) (agX (α.1 16 1) m') 0 (tr3 β) < INF := by rw [r]; unfold INF; omega
            have hfd' := hfd rf
            have d1 : (64 * c + (l + 1) - 1) / 64 = c := by omega
            have d2 : (64 * c + (l + 1) - 1) % 64 = l := by omega
            rw [if_pos rf]
            unfold pkP
            dsimp only
            rw [v] at e49 e50
            dsimp only at e49 e50
            rw [if_neg (c := nI (RN (plP0 α β) (n + 1) (agX (α.1 16 1) m') 0 (tr3 β) - 1) = noW) (fun q => by
              have := (nI_eq (b := 1048576) (by omega) (by decide)).mp q
              omega), e49, e50, if_neg (c := nI c = 9999) (fun q => by
              have := (nI_eq (b := 9999) (by omega) (by decide)).mp q
              omega)]
            obtain ⟨i, hi2, rfl⟩ := le_ex 2 (x := y) (M := 2) (by decide) (by decide) (i_pos (fun q => cy (Or.inl q))) (by rw [← i_nlt]; exact fun q => cy (Or.inr q))
            have i3 : i = 0 ∨ i = 1 ∨ i = 2 := by omega
            rcases i3 with rfl | rfl | rfl
            · rw [if_pos (c := nI 0 = 0) rfl, if_neg (c := 2 ≤ nI 0) (by decide), if_pos (c := nI 0 = 0) rfl, r, d1]
            · rw [if_neg (c := nI 1 = 0) (by decide), if_pos (c := nI 1 = 1) rfl, if_neg (c := 2 ≤ nI 1) (by decide), if_neg (c := nI 1 = 0) (by decide), r, d2]
            · rw [if_neg (c := nI 2 = 0) (by decide), if_neg (c := nI 2 = 1) (by decide), if_pos (c := 2 ≤ nI 2) (by decide)]
              have hatt : ∀ k, k < 10 → ((cdI (la1 β 3) (dN k) (nI (agC β)) 0 = true ∧ isB β k = true) ↔ attN (plP0 α β) n (agX (α.1 16 1) m') (tr3 β) k) := fun k hk => att_eq hi hn eM a9.1 a9.2 hG.1 eQ aC hc hl e49 e50 r hk
              have sp := plE_spec hi hatt 10 (Nat.le_refl _)
              have att0 : ¬ attN (plP0 α β) n (agX (α.1 16 1) m') (tr3 β) 0 := fun z => by
                have := no_rest (plP0_ok hi) (n := n) (by omega) a9.2 rf hH
                rw [z.2] at this
                omega
              have c1 : cdN (plP0 α β) n (agX (α.1 16 1) m') 0 (tr3 β) 1 = RN (plP0 α β) n 1 0 (tr3 β) := by
                unfold cdN
                rw [if_pos (by unfold okN; rw [if_pos (by decide)])]
                show 64 * 0 + RN (plP0 α β) n 1 0 (tr3 β) = _
                omega
              have ok1 : okN (plP0 α β) 1 (agX (α.1 16 1) m') 0 = true := by unfold okN; rw [if_pos (by decide)]
              rcases hfd' with ⟨f1, f2, f3⟩ | ⟨f1, k, hk, hHk, f2, f3, f4⟩
              · have att1 : attN (plP0 α β) n (agX (α.1 16 1) m') (tr3 β) 1 := ⟨ok1, by rw [c1]; exact f3⟩
                rcases sp with ⟨-, no⟩ | ⟨j, hj, aj, ej, mj⟩
                · exact absurd att1 (no 1 (by decide))
                · rw [f1, ej]
                  have h1 := mj 1 (by decide) att1
                  have e1 : tdN β 1 = 2 := by unfold tdN; rw [if_pos (by decide)]
                  have j0 : j ≠ 0 := fun z => by rw [z] at aj; exact att0 aj
                  have : tdN β j = 2 := by
                    rw [e1] at h1
                    by_cases j1 : j = 1
                    · rw [j1, e1]
                    · unfold tdN at h1 ⊢
                      rw [if_neg (by omega)] at h1
                      split at h1 <;> omega
                  rw [this]
              · have natt1 : ¬ attN (plP0 α β) n (agX (α.1 16 1) m') (tr3 β) 1 := fun z => by
                  have z2 := z.2
                  rcases f1 with g1 | g1
                  · rw [g1] at z2 rf
                    have := no_bath (plP0_ok hi) (n := n) (by omega) rf hH
                    rw [z2] at this
                    omega
                  · rw [c1] at z2
                    omega
                have hkt := (task_at hi hk).1
                have k4' : k < 4 := by omega
                have attk : attN (plP0 α β) n (agX (α.1 16 1) m') (tr3 β) (if pHd (plP0 α β) (agX (α.1 16 1) m') = 0 then 2 + k else 6 + k) := by
                  refine ⟨?_, f2⟩
                  by_cases o : okN (plP0 α β) (if pHd (plP0 α β) (agX (α.1 16 1) m') = 0 then 2 + k else 6 + k) (agX (α.1 16 1) m') 0 = true
                  · exact o
                  · have f2' := f2
                    unfold cdH cdN at f2'
                    rw [if_neg o] at f2'
                    omega
                have tdk : tdN β (if pHd (plP0 α β) (agX (α.1 16 1) m') = 0 then 2 + k else 6 + k) = tdH (plP0 α β) (agX (α.1 16 1) m') (taM β k) := by
                  unfold tdN tdH
                  by_cases h0 : pHd (plP0 α β) (agX (α.1 16 1) m') = 0
                  · rw [if_pos h0, if_pos h0, if_neg (by omega), if_pos (by omega), show (2 + k - 2) % 4 = k by omega]
                  · rw [if_neg h0, if_neg h0, if_neg (by omega), if_neg (by omega), show (6 + k - 2) % 4 = k by omega]
                rcases sp with ⟨-, no⟩ | ⟨j, hj, aj, ej, mj⟩
                · exact absurd attk (no _ (by split <;> omega))
                · rw [f3, ej]
                  have h1 := mj _ (by split <;> omega) attk
                  rw [tdk] at h1
                  have j2 : 2 ≤ j := by
                    rcases Nat.lt_or_ge j 2 with z | z
                    · have : j = 0 ∨ j = 1 := by omega
                      rcases this with rfl | rfl
                      · exact absurd aj att0
                      · exact absurd aj natt1
                    · exact z
                  obtain ⟨jK, jH, j6⟩ := ok_K aj.1 j2
                  have jt := (task_at hi jK).1
                  have ge : tdH (plP0 α β) (agX (α.1 16 1) m') (taM β k) ≤ tdN β j := by
                    unfold tdH tdN
                    rw [if_neg (c := j < 2) (by omega)]
                    by_cases h0 : pHd (plP0 α β) (agX (α.1 16 1) m') = 0
                    · rw [if_pos h0]
                      by_cases j6' : j < 6
                      · rw [if_pos j6']
                        rcases Nat.lt_or_ge (taM β ((j - 2) % 4)) (taM β k) with z | z
                        · have := f4 _ jK jH z
                          unfold cdH at this
                          rw [if_pos h0, show 2 + (j - 2) % 4 = j by omega, aj.2] at this
                          omega
                        · omega
                      · rw [if_neg j6']
                        omega
                    · rw [if_neg h0]
                      have j6' : ¬ j < 6 := fun z => h0 (j6 z)
                      rw [if_neg j6']
                      rcases Nat.lt_or_ge (taM β ((j - 2) % 4)) (taM β k) with z | z
                      · have := f4 _ jK jH z
                        unfold cdH at this
                        rw [if_neg h0, show 6 + (j - 2) % 4 = j by omega, aj.2] at this
                        omega
                      · omega
                  rw [show tdH (plP0 α β) (agX (α.1 16 1) m') (taM β k) = tdN β j by omega]
end EQ19
