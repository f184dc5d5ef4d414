/-! GoldTouch's search: the whole tree -/
section SEARCH3
variable {α β T : xm_M}
theorem RN_pos {P : pM} : ∀ n, n ≤ 23 → ∀ a H G, 1 ≤ RN P n a H G := by
  intro n
  induction n with
  | zero =>
    intro _ a H G
    rw [RN]
    split
    · omega
    · unfold INF; omega
  | succ n ih =>
    intro hn a H G
    by_cases c : H = 2 ^ pK P - 1
    · rw [RN_all (by omega) c]; omega
    · rw [RN_s c]
      rcases minN_ex (f := cdN P n a H G) 10 with e | ⟨k, hk, e⟩
      · rw [e]; unfold INF; omega
      · rw [e]
        unfold cdN
        split
        · have := ih (by omega) (naN k a) (nhN k H) (ngN P k (23 - n) a G)
          omega
        · unfold INF; omega
theorem ag_1 {b : Int32} {m : Nat} (hm : m ≤ 24) : (nI m = 0 ∨ hb b (nI m - 1) = false) ↔ ¬ agX b m = 1 := by
  cases m with
  | zero => exact ⟨fun _ => by rw [agX]; decide, fun _ => Or.inl rfl⟩
  | succ m =>
    rw [nI_pred, hb_bt (by omega), agX]
    have := agX_in (b := b) m
    have nz : ¬ nI (m + 1) = 0 := nI_ne0 (by omega) (by omega)
    cases bt b m
    · rw [if_neg (by decide)]
      exact ⟨fun _ => by omega, fun _ => Or.inr rfl⟩
    · rw [if_pos rfl]
      exact ⟨fun q => q.elim (fun q => absurd q nz) (fun q => absurd q (by decide)), fun q => absurd rfl q⟩
theorem ag_b {b : Int32} {m : Nat} (hm : m < 32) : agX (b ||| (1 <<< (nI m &&& 31))) (m + 1) = 1 := by
  rw [agX, if_pos (by rw [b_set hm, decide_eq_true rfl, Bool.or_true])]
theorem ag_n {b : Int32} {m : Nat} (hb1 : iBt m b) : agX b (m + 1) = min (agX b m + 1) 9 := by
  rw [agX, if_neg (by rw [hb1 m (Nat.le_refl _)]; decide)]
theorem fo_n {dd x : Int32} (h : ¬ dd = -1) : foX dd x = dd := by unfold foX; rw [if_neg h]
/-- a task of the search is one of ours -/
theorem t_task (hi : Inv α β) {l : Int32} {H t : Nat} (h : LR β l H) (ht : t < nX α) (hb' : hb l (nI t) = true) : ∃ k, k < tkMm β ∧ taM β k = t ∧ H.testBit k = false := by
  have n8 := hi.1.1.2
  rw [hb_bt (by omega)] at hb'
  exact (h.2.2 t (by omega)).mp hb'
theorem no_task (hi : Inv α β) {l : Int32} {H t k : Nat} (h : LR β l H) (ht : t < nX α) (hb' : hb l (nI t) = false) (hk : k < tkMm β) (hH : H.testBit k = false) : ¬ taM β k = t := fun e => by
  have := (LR_ta hi h hk hH).2
  have n8 := hi.1.1.2
  rw [hb_bt (by omega), ← e, this] at hb'
  exact absurd hb' (by decide)
theorem sr_pr (hi : Inv α β) {m H s : Nat} {l : Int32} (hL : LR β l H) (hor : 1 ≤ m ∨ ¬ H = 2 ^ tkMm β - 1) : nI s * 64 + (nI m + bcJ l - 1) = nI (64 * s + (m + pcl l - 1)) ∧ 1 ≤ m + pcl l := by
  obtain ⟨pc1, pc8, pcn, -⟩ := LR_pc hL
  have l0 := LR_0 hi hL
  have m1 : 1 ≤ m + pcl l := by
    rcases hor with z | z
    · omega
    · have := pcn (fun q => z (l0.mp q))
      omega
  refine ⟨?_, m1⟩
  rw [pc1, nI_add, show (1 : Int32) = nI 1 from rfl, pk_sub m1, show (64 : Int32) = nI 64 from rfl, pk_mul, nI_add, Nat.mul_comm s 64]
theorem sr_top (hi : Inv α β) {n f m H G s : Nat} {b l g dd : Int32} {Q : plP} (hm : m + n = 24) (hL : LR β l H) (hs : s ≤ 20 * m) (hQ : vB Q) (hor : 1 ≤ m ∨ ¬ H = 2 ^ tkMm β - 1) :
    srX T (f + 1) (nI m) b l g (nI s) dd Q = uP Q (64 * s + RN (plP0 α β) n (agX b m) H G - 1) dd ∨
    (¬ H = 2 ^ tkMm β - 1 ∧ srX T (f + 1) (nI m) b l g (nI s) dd Q = if 24 ≤ nI m then Q else slX T (srX T f (nI m + 1)) (nI m) b l g (nI s) dd (hX T b (nI m)) (nX T) (if nI m = 0 ∨ hb b (nI m - 1) = false then srX T f (nI m + 1) (b ||| (1 <<< (nI m &&& 31))) l g (nI s) (foX dd 2) Q else Q)) := by
  have hRi := RN_inf (P := plP0 α β) (a := agX b m) (H := H) (G := G) (n := n) (by omega)
  obtain ⟨pr, m1⟩ := sr_pr hi (s := s) hL hor
  obtain ⟨pc1, pc8, pcn, -⟩ := LR_pc hL
  obtain ⟨B, hB, eB⟩ := hQ
  have l0 := LR_0 hi hL
  have lb := RN_lb hi n (by omega) (agX b m) H G l hL
  rw [srX, pr, eB]
  by_cases c : B ≤ 64 * s + (m + pcl l - 1)
  · left
    rw [if_pos (nI_le c (by omega))]
    unfold uP
    rw [eB, if_neg]
    refine nI_nlt ?_ (by unfold INF at hRi; omega)
    by_cases f : RN (plP0 α β) n (agX b m) H G < INF
    · have := lb f
      omega
    · unfold INF at *
      omega
  · rw [if_neg (fun q => c ((nI_leI (by omega) (by omega)).mp q))]
    by_cases z : l = 0
    · left
      have eH := l0.mp z
      have p0 : pcl l = 0 := by rw [z]; decide
      rw [if_pos z, RN_all (P := plP0 α β) (by omega) eH]
      rw [p0] at c m1
      unfold uP
      rw [eB, if_pos (nI_lt (by omega) (by omega)), show (1 : Int32) = nI 1 from rfl, pk_sub (by omega), show (64 : Int32) = nI 64 from rfl, pk_mul, nI_add]
      rw [show (64 * s + (24 - n) - 1) / 64 = s by omega, show (64 * s + (24 - n) - 1) % 64 = m - 1 by omega, show s * 64 + (m - 1) = 64 * s + (24 - n) - 1 by omega]
    · right
      rw [if_neg z]
      exact ⟨fun q => z (l0.mpr q), rfl⟩
set_option maxHeartbeats 2000000 in
theorem sr_eq (hi : Inv α β) (hT : vTT α β T) (hok : ∀ k, k < tkMm β → pOk (plP0 α β) k = true) : ∀ (n e m H G s : Nat) (b l g dd : Int32) (Q : plP), m + n = 24 → iBt m b → LR β l H → GR β g G → s ≤ 20 * m → ¬ dd = -1 → vB Q → (1 ≤ m ∨ ¬ H = 2 ^ tkMm β - 1) →
    srX T (n + e + 1) (nI m) b l g (nI s) dd Q = uP Q (64 * s + RN (plP0 α β) n (agX b m) H G - 1) dd := by
  intro n
  induction n with
  | zero =>
    intro e m H G s b l g dd Q hm hb1 hL hG hs hdd hQ hor
    rcases sr_top (T := T) hi (f := 0 + e) (b := b) (g := g) (dd := dd) (G := G) hm hL hs hQ hor with h | ⟨eH, h⟩
    · exact h
    · rw [h, if_pos (by rw [show m = 24 by omega]; decide), RN, if_neg (show ¬ H = 2 ^ pK (plP0 α β) - 1 from eH)]
      exact (uP_no hQ (by unfold INF; omega) (by unfold INF; omega)).symm
  | succ n ih =>
  intro e m H G s b l g dd Q hm hb1 hL hG hs hdd hQ hor
  rcases sr_top (T := T) hi (f := n + 1 + e) (b := b) (g := g) (dd := dd) (G := G) hm hL hs hQ hor with h | ⟨eH, h⟩
  · exact h
  rw [h]
  clear h
  obtain ⟨B, hB, eB⟩ := hQ
  rw [if_neg (fun q => by have := (nI_leI (a := 24) (by decide) (by omega)).mp q; omega), nI_1, show n + 1 + e = n + e + 1 by omega]
  have a9 := agX_in (b := b) m
  have hh : hX T b (nI m) = nI (pHd (plP0 α β) (agX b m)) := by rw [hT.2.1, hX_hd hi (by omega) hb1]
  have hd2 := (plP0_ok hi).2.1 (agX b m)
  have hd0 : nI (pHd (plP0 α β) (agX b m)) = 0 ↔ pHd (plP0 α β) (agX b m) = 0 := nI_eq (b := 0) (by omega) (by decide)
  have hrec : ∀ (H' G' s' : Nat) (b' l' g' : Int32) (Q' : plP), iBt (m + 1) b' → LR β l' H' → GR β g' G' → s' ≤ 20 * (m + 1) → vB Q' → srX T (n + e + 1) (nI (m + 1)) b' l' g' (nI s') dd Q' = uP Q' (64 * s' + RN (plP0 α β) n (agX b' (m + 1)) H' G' - 1) dd := fun H' G' s' b' l' g' Q' x1 x2 x3 x4 x5 => ih e (m + 1) H' G' s' b' l' g' dd Q' (by omega) x1 x2 x3 x4 hdd x5 (Or.inl (by omega))
  have hRn : ∀ a H G, RN (plP0 α β) n a H G ≤ 1048577 := fun a H G => RN_inf (P := plP0 α β) (by omega)
  have bRi : (if agX b m = 1 then INF else RN (plP0 α β) n 1 H G) ≤ 1048577 := by
    split
    · exact Nat.le_refl _
    · exact hRn _ _ _
  have hq1 : (if nI m = 0 ∨ hb b (nI m - 1) = false then srX T (n + e + 1) (nI (m + 1)) (b ||| (1 <<< (nI m &&& 31))) l g (nI s) (foX dd 2) Q else Q) = uP Q (64 * s + (if agX b m = 1 then INF else RN (plP0 α β) n 1 H G) - 1) dd := by
    by_cases a1 : agX b m = 1
    · rw [if_neg (fun q => (ag_1 (by omega)).mp q a1), if_pos a1]
      exact (uP_no ⟨B, hB, eB⟩ (by unfold INF; omega) (by unfold INF; omega)).symm
    · rw [if_pos ((ag_1 (by omega)).mpr a1), if_neg a1, fo_n hdd, hrec H G s _ l g Q (iBt_set (iBt_mono hb1 (by omega)) (by omega) (by omega)) hL hG (by omega) ⟨B, hB, eB⟩, ag_b (by omega)]
  rw [hq1, hT.1, hh]
  have hQ1 : vB (uP Q (64 * s + (if agX b m = 1 then INF else RN (plP0 α β) n 1 H G) - 1) dd) := uP_ok ⟨B, hB, eB⟩ (by omega)
  have fold : ∀ t, t ≤ nX α → ∃ M, M ≤ INF ∧ slX T (srX T (n + e + 1) (nI (m + 1))) (nI m) b l g (nI s) dd (nI (pHd (plP0 α β) (agX b m))) t (uP Q (64 * s + (if agX b m = 1 then INF else RN (plP0 α β) n 1 H G) - 1) dd) = uP (uP Q (64 * s + (if agX b m = 1 then INF else RN (plP0 α β) n 1 H G) - 1) dd) (64 * s + M - 1) dd ∧ (∀ k, k < tkMm β → H.testBit k = false → taM β k < t → M ≤ cdH (plP0 α β) n (agX b m) H G k) ∧ (M = INF ∨ ∃ k, k < tkMm β ∧ M = cdH (plP0 α β) n (agX b m) H G k) := by
    generalize uP Q (64 * s + (if agX b m = 1 then INF else RN (plP0 α β) n 1 H G) - 1) dd = Q1 at *
    intro t
    induction t with
    | zero =>
      intro _
      refine ⟨INF, Nat.le_refl _, ?_, fun k _ _ h => by omega, Or.inl rfl⟩
      rw [slX]
      exact (uP_no hQ1 (by unfold INF; omega) (by unfold INF; omega)).symm
    | succ t iht =>
      intro ht
      obtain ⟨M, hM, eM, f1, f2⟩ := iht (by omega)
      rw [slX, eM]
      have hQ2 : vB (uP Q1 (64 * s + M - 1) dd) := uP_ok hQ1 (by unfold INF at hM; omega)
      by_cases cl : hb l (nI t) = false
      · rw [if_pos cl]
        exact ⟨M, hM, rfl, fun k hk hH h => f1 k hk hH (by have := no_task hi hL (by omega) cl hk hH; omega), f2⟩
      · rw [if_neg cl]
        rw [Bool.not_eq_false] at cl
        obtain ⟨k, hk, et, hH⟩ := t_task hi hL (by omega) cl
        obtain ⟨ch0, ch1, ch2⟩ := child hi hT (n := n) (m := m) (a := agX b m) (by omega) hG hk hH (hok k hk)
        have uniq : ∀ j, j < tkMm β → taM β j < t + 1 → j = k ∨ taM β j < t := fun j hj h => by
          by_cases z : taM β j = t
          · exact Or.inl (task_inj hi hj hk (by rw [z, et]))
          · exact Or.inr (by omega)
        have hL' := LR_step hi hL hk
        rw [et] at hL' ch1 ch2
        have fin : ∀ (x : Nat), x ≤ 64 * 20 + 1048577 → cdH (plP0 α β) n (agX b m) H G k = x → ∃ M', M' ≤ INF ∧ uP (uP Q1 (64 * s + M - 1) dd) (64 * s + x - 1) dd = uP Q1 (64 * s + M' - 1) dd ∧ (∀ j, j < tkMm β → H.testBit j = false → taM β j < t + 1 → M' ≤ cdH (plP0 α β) n (agX b m) H G j) ∧ (M' = INF ∨ ∃ j, j < tkMm β ∧ M' = cdH (plP0 α β) n (agX b m) H G j) := by
          intro x hx ex
          refine ⟨min M x, by omega, ?_, fun j hj hHj h => ?_, ?_⟩
          · rw [uP_uP hQ1 (by unfold INF at hM; omega) (by omega), show min (64 * s + M - 1) (64 * s + x - 1) = 64 * s + min M x - 1 by omega]
          · rcases uniq j hj h with z | z
            · rw [z, ex]; exact Nat.min_le_right _ _
            · exact Nat.le_trans (Nat.min_le_left _ _) (f1 j hj hHj z)
          · rcases Nat.lt_or_ge x M with z | z
            · exact Or.inr ⟨k, hk, by rw [ex]; omega⟩
            · rw [Nat.min_eq_left z]; exact f2
        have hb1' := iBt_mono (m := m + 1) hb1 (by omega)
        have an := ag_n hb1
        by_cases h0 : pHd (plP0 α β) (agX b m) = 0
        · rw [if_pos (hd0.mpr h0), fo_n hdd, hrec _ G s b _ g _ hb1' hL' hG (by omega) hQ2, an]
          exact fin _ (by have := hRn (min (agX b m + 1) 9) (H ||| 2 ^ k) G; omega) (ch0 h0)
        · rw [if_neg (fun q => h0 (hd0.mp q))]
          by_cases tz : T.1 22 (ixN (T.1 5 t)) = -1
          · rw [if_pos tz]
            refine ⟨M, hM, rfl, fun j hj hHj h => ?_, f2⟩
            rcases uniq j hj h with z | z
            · rw [z, ch1 h0 tz]; exact hM
            · exact f1 j hj hHj z
          · rw [if_neg tz]
            obtain ⟨u, w, hu, hw, eu, ew, x1, x2⟩ := ch2 h0 tz
            rw [eu]
            by_cases y : hb g (nI u) = true ∨ (nI (pHd (plP0 α β) (agX b m)) = 1 ∧ nI m < T.1 1 8)
            · rw [if_pos y, fo_n hdd, hrec _ G s b _ g _ hb1' hL' hG (by omega) hQ2, an]
              exact fin _ (by have := hRn (min (agX b m + 1) 9) (H ||| 2 ^ k) G; omega) (x1 y)
            · rw [if_neg y]
              obtain ⟨G', eG, hG'⟩ := x2 y
              rw [fo_n hdd, ixN_nI (by omega), ew, nI_add, hrec _ G' (s + w) b _ _ _ hb1' hL' hG' (by omega) hQ2, an]
              have q := fin _ (by have := hRn (min (agX b m + 1) 9) (H ||| 2 ^ k) G'; omega) eG
              rw [show 64 * (s + w) + RN (plP0 α β) n (min (agX b m + 1) 9) (H ||| 2 ^ k) G' - 1 = 64 * s + (64 * w + RN (plP0 α β) n (min (agX b m + 1) 9) (H ||| 2 ^ k) G') - 1 by omega]
              exact q
  obtain ⟨M, hM, eM, f1, f2⟩ := fold (nX α) (Nat.le_refl _)
  rw [eM, uP_uP ⟨B, hB, eB⟩ (by omega) (by unfold INF at hM; omega)]
  have q := res_min hi (n := n) (a := agX b m) (G := G) (M := M) (by omega) a9.2 eH hM (fun k hk hHk => f1 k hk hHk (task_at hi hk).1) f2
  rw [← q]
  congr 1
  omega
end SEARCH3
