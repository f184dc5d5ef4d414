/-! both sides: the first deed of the plan -/
def pkP (M : Nat) (fd : Int32) : plP := (nI ((M - 1) / 64), nI ((M - 1) % 64), fd, nI (M - 1))
/-- the deed of a task, as the hand is -/
def tdH (P : pM) (a t : Nat) : Nat := (if pHd P a = 0 then 10 else 20) + t
section ROOT
variable {α β T : xm_M}
theorem uP_pk {M x : Nat} {fd dd : Int32} {Q0 : plP} (h0 : Q0.2.2.2 = nI 1048576) (hM1 : 1 ≤ M) (hx1 : 1 ≤ x) (hM : M ≤ INF) (hx : x < 2 ^ 30) : uP (if M < INF then pkP M fd else Q0) (x - 1) dd = if x < M then pkP x dd else if M < INF then pkP M fd else Q0 := by
  unfold INF at *
  have b : (if M < 1048577 then pkP M fd else Q0).2.2.2 = nI (M - 1) := by
    split
    · rfl
    · rw [h0, show M - 1 = 1048576 by omega]
  unfold uP
  rw [b]
  by_cases c : x < M
  · rw [if_pos c, if_pos (nI_lt (by omega) (by omega))]; rfl
  · rw [if_neg c, if_neg (nI_nlt (by omega) (by omega))]
set_option maxHeartbeats 2000000 in
theorem sr_root (hi : Inv α β) (hT : vTT α β T) (hok : ∀ k, k < tkMm β → pOk (plP0 α β) k = true) {n e m H G : Nat} {b l g : Int32} {Q0 : plP} (hm : m + (n + 1) = 24) (hb1 : iBt m b) (hL : LR β l H) (hG : GR β g G) (hH : ¬ H = 2 ^ tkMm β - 1) (h0 : Q0.2.2.2 = nI 1048576) :
    ∃ fd, srX T (n + 1 + e + 1) (nI m) b l g 0 (-1) Q0 = (if RN (plP0 α β) (n + 1) (agX b m) H G < INF then pkP (RN (plP0 α β) (n + 1) (agX b m) H G) fd else Q0) ∧
      (RN (plP0 α β) (n + 1) (agX b m) H G < INF → (fd = nI 2 ∧ ¬ agX b m = 1 ∧ RN (plP0 α β) n 1 H G = RN (plP0 α β) (n + 1) (agX b m) H G) ∨
        ((agX b m = 1 ∨ RN (plP0 α β) (n + 1) (agX b m) H G < RN (plP0 α β) n 1 H G) ∧ ∃ k, k < tkMm β ∧ H.testBit k = false ∧ cdH (plP0 α β) n (agX b m) H G k = RN (plP0 α β) (n + 1) (agX b m) H G ∧ fd = nI (tdH (plP0 α β) (agX b m) (taM β k)) ∧ ∀ j, j < tkMm β → H.testBit j = false → taM β j < taM β k → RN (plP0 α β) (n + 1) (agX b m) H G < cdH (plP0 α β) n (agX b m) H G j)) := by
  have hQ0 : vB Q0 := ⟨1048576, Nat.le_refl _, h0⟩
  obtain ⟨pr, m1⟩ := sr_pr hi (s := 0) (m := m) hL (Or.inr hH)
  obtain ⟨pc1, pc8, pcn, -⟩ := LR_pc hL
  have z : ¬ l = 0 := fun q => hH ((LR_0 hi hL).mp q)
  rw [srX, show (0 : Int32) = nI 0 from rfl, pr, h0, if_neg (fun q => by have := (nI_leI (by decide) (by omega)).mp q; omega), if_neg (show ¬ l = nI 0 from z), if_neg (fun q => by have := (nI_leI (a := 24) (by decide) (by omega)).mp q; omega), nI_1, show n + 1 + e = n + e + 1 by omega]
  have a9 := agX_in (b := b) m
  have hh : hX T b (nI m) = nI (pHd (plP0 α β) (agX b m)) := by rw [hT.2.1, hX_hd hi (by omega) hb1]
  have hd2 := (plP0_ok hi).2.1 (agX b m)
  have hd0 : nI (pHd (plP0 α β) (agX b m)) = 0 ↔ pHd (plP0 α β) (agX b m) = 0 := nI_eq (b := 0) (by omega) (by decide)
  have hrec : ∀ (H' G' s' : Nat) (b' l' g' dd : Int32) (Q' : plP), iBt (m + 1) b' → LR β l' H' → GR β g' G' → s' ≤ 20 * (m + 1) → ¬ dd = -1 → vB Q' → srX T (n + e + 1) (nI (m + 1)) b' l' g' (nI s') dd Q' = uP Q' (64 * s' + RN (plP0 α β) n (agX b' (m + 1)) H' G' - 1) dd := fun H' G' s' b' l' g' dd Q' x1 x2 x3 x4 hdd x5 => sr_eq hi hT hok n e (m + 1) H' G' s' b' l' g' dd Q' (by omega) x1 x2 x3 x4 hdd x5 (Or.inl (by omega))
  have hRn : ∀ a H G, RN (plP0 α β) n a H G ≤ 1048577 := fun a H G => RN_inf (P := plP0 α β) (by omega)
  have hR1 : ∀ a H G, 1 ≤ RN (plP0 α β) n a H G := fun a H G => RN_pos n (by omega) a H G
  have f2d : foX (-1) 2 = nI 2 := by decide
  have ft : ∀ (c t : Nat), foX (-1) (nI c + nI t) = nI (c + t) := fun c t => by unfold foX; rw [if_pos rfl, nI_add]
  have hq1 : (if nI m = nI 0 ∨ hb b (nI m - 1) = false then srX T (n + e + 1) (nI (m + 1)) (b ||| (1 <<< (nI m &&& 31))) l g (nI 0) (foX (-1) 2) Q0 else Q0) = (if (if agX b m = 1 then INF else RN (plP0 α β) n 1 H G) < INF then pkP (if agX b m = 1 then INF else RN (plP0 α β) n 1 H G) (nI 2) else Q0) := by
    by_cases a1 : agX b m = 1
    · rw [if_neg (c := nI m = nI 0 ∨ hb b (nI m - 1) = false) (fun q => (ag_1 (by omega)).mp q a1), if_pos a1, if_neg (Nat.lt_irrefl _)]
    · rw [if_pos (c := nI m = nI 0 ∨ hb b (nI m - 1) = false) ((ag_1 (by omega)).mpr a1), if_neg a1, f2d, hrec H G 0 _ l g (nI 2) Q0 (iBt_set (iBt_mono hb1 (by omega)) (by omega) (by omega)) hL hG (by omega) (by decide) hQ0, ag_b (by omega)]
      have r1 := hR1 1 H G
      have rn := hRn 1 H G
      have u := uP_pk (M := INF) (x := RN (plP0 α β) n 1 H G) (fd := 0) (dd := nI 2) h0 (by unfold INF; omega) r1 (Nat.le_refl _) (by omega)
      rw [if_neg (Nat.lt_irrefl _)] at u
      rw [show 64 * 0 + RN (plP0 α β) n 1 H G - 1 = RN (plP0 α β) n 1 H G - 1 by omega]
      exact u
  have bRi : (if agX b m = 1 then INF else RN (plP0 α β) n 1 H G) ≤ INF ∧ 1 ≤ (if agX b m = 1 then INF else RN (plP0 α β) n 1 H G) := by
    split
    · exact ⟨Nat.le_refl _, by unfold INF; omega⟩
    · exact ⟨hRn _ _ _, hR1 _ _ _⟩
  rw [show (m : Nat) = m from rfl, hT.1, hh]
  rw [hq1]
  have bRs : (if agX b m = 1 then INF else RN (plP0 α β) n 1 H G) < INF → ¬ agX b m = 1 ∧ (if agX b m = 1 then INF else RN (plP0 α β) n 1 H G) = RN (plP0 α β) n 1 H G := by
    intro q
    by_cases a1 : agX b m = 1
    · rw [if_pos a1] at q
      omega
    · exact ⟨a1, if_neg a1⟩
  have fold : ∀ t, t ≤ nX α → ∃ M fd, M ≤ INF ∧ 1 ≤ M ∧ M ≤ (if agX b m = 1 then INF else RN (plP0 α β) n 1 H G) ∧
      slX T (srX T (n + e + 1) (nI (m + 1))) (nI m) b l g (nI 0) (-1) (nI (pHd (plP0 α β) (agX b m))) t (if (if agX b m = 1 then INF else RN (plP0 α β) n 1 H G) < INF then pkP (if agX b m = 1 then INF else RN (plP0 α β) n 1 H G) (nI 2) else Q0) = (if M < INF then pkP M fd else Q0) ∧ (∀ k, k < tkMm β → H.testBit k = false → taM β k < t → M ≤ cdH (plP0 α β) n (agX b m) H G k) ∧
      ((M = (if agX b m = 1 then INF else RN (plP0 α β) n 1 H G) ∧ fd = nI 2) ∨ (M < (if agX b m = 1 then INF else RN (plP0 α β) n 1 H G) ∧ ∃ k, k < tkMm β ∧ H.testBit k = false ∧ M = cdH (plP0 α β) n (agX b m) H G k ∧ fd = nI (tdH (plP0 α β) (agX b m) (taM β k)) ∧ ∀ j, j < tkMm β → H.testBit j = false → taM β j < taM β k → M < cdH (plP0 α β) n (agX b m) H G j)) := by
    generalize (if agX b m = 1 then INF else RN (plP0 α β) n 1 H G) = bR at *
    intro t
    induction t with
    | zero =>
      intro _
      exact ⟨bR, nI 2, bRi.1, bRi.2, Nat.le_refl _, rfl, fun k _ _ h => by omega, Or.inl ⟨rfl, rfl⟩⟩
    | succ t iht =>
      intro ht
      have n8 := hi.1.1.2
      obtain ⟨M, fd, hM, hM1, hMb, eM, f1, f2⟩ := iht (by omega)
      rw [slX, eM]
      by_cases cl : hb l (nI t) = false
      · rw [if_pos cl]
        exact ⟨M, fd, hM, hM1, hMb, rfl, fun k hk hH h => f1 k hk hH (by have := no_task hi hL (by omega) cl hk hH; omega), f2⟩
      · rw [if_neg cl]
        rw [Bool.not_eq_false] at cl
        obtain ⟨k, hk, et, hH⟩ := t_task hi hL (by omega) cl
        obtain ⟨ch0, ch1, ch2⟩ := child hi hT (n := n) (m := m) (a := agX b m) (by omega) hG hk hH (hok k hk)
        have uniq : ∀ j, j < tkMm β → taM β j < t + 1 → j = k ∨ taM β j < t := fun j hj h => by
          by_cases z : taM β j = t
          · exact Or.inl (task_inj hi hj hk (by rw [z, et]))
          · exact Or.inr (by omega)
        have hL' := LR_step hi hL hk
        rw [et] at hL' ch1 ch2
        have hQ2 : vB (if M < INF then pkP M fd else Q0) := by
          split
          · exact ⟨M - 1, by unfold INF at hM; omega, rfl⟩
          · exact hQ0
        have fin : ∀ (x c : Nat), 1 ≤ x → x ≤ 64 * 20 + 1048577 → cdH (plP0 α β) n (agX b m) H G k = x → c + t = tdH (plP0 α β) (agX b m) t → ∃ M' fd', M' ≤ INF ∧ 1 ≤ M' ∧ M' ≤ bR ∧ uP (if M < INF then pkP M fd else Q0) (x - 1) (nI (c + t)) = (if M' < INF then pkP M' fd' else Q0) ∧ (∀ j, j < tkMm β → H.testBit j = false → taM β j < t + 1 → M' ≤ cdH (plP0 α β) n (agX b m) H G j) ∧
            ((M' = bR ∧ fd' = nI 2) ∨ (M' < bR ∧ ∃ k, k < tkMm β ∧ H.testBit k = false ∧ M' = cdH (plP0 α β) n (agX b m) H G k ∧ fd' = nI (tdH (plP0 α β) (agX b m) (taM β k)) ∧ ∀ j, j < tkMm β → H.testBit j = false → taM β j < taM β k → M' < cdH (plP0 α β) n (agX b m) H G j)) := by
          intro x c x1 hx ex ec
          rw [uP_pk h0 hM1 x1 hM (by omega)]
          by_cases q : x < M
          · refine ⟨x, nI (c + t), by omega, x1, by omega, by rw [if_pos q, if_pos (by omega)], fun j hj hHj h => ?_, Or.inr ⟨by omega, k, hk, hH, ex.symm, by rw [ec, et], fun j hj hHj h => ?_⟩⟩
            · rcases uniq j hj h with z | z
              · rw [z, ex]; exact Nat.le_refl _
              · have := f1 j hj hHj z
                omega
            · have := f1 j hj hHj (by omega)
              omega
          · refine ⟨M, fd, hM, hM1, hMb, by rw [if_neg q], fun j hj hHj h => ?_, f2⟩
            rcases uniq j hj h with z | z
            · rw [z, ex]; omega
            · exact f1 j hj hHj z
        have hb1' := iBt_mono (m := m + 1) hb1 (by omega)
        have an := ag_n hb1
        by_cases h0' : pHd (plP0 α β) (agX b m) = 0
        · rw [if_pos (hd0.mpr h0'), show (10 : Int32) = nI 10 from rfl, ft, hrec _ G 0 b _ g _ _ hb1' hL' hG (by omega) (nI_nm (by omega)) hQ2, an, show 64 * 0 + RN (plP0 α β) n (min (agX b m + 1) 9) (H ||| 2 ^ k) G - 1 = RN (plP0 α β) n (min (agX b m + 1) 9) (H ||| 2 ^ k) G - 1 by omega]
          exact fin _ 10 (hR1 _ _ _) (by have := hRn (min (agX b m + 1) 9) (H ||| 2 ^ k) G; omega) (ch0 h0') (by unfold tdH; rw [if_pos h0'])
        · have e20 : 20 + t = tdH (plP0 α β) (agX b m) t := by unfold tdH; rw [if_neg h0']
          rw [if_neg (fun q => h0' (hd0.mp q))]
          by_cases tz : T.1 22 (ixN (T.1 5 t)) = -1
          · rw [if_pos tz]
            refine ⟨M, fd, hM, hM1, hMb, rfl, fun j hj hHj h => ?_, f2⟩
            rcases uniq j hj h with z | z
            · rw [z, ch1 h0' tz]; exact hM
            · exact f1 j hj hHj z
          · rw [if_neg tz]
            obtain ⟨u, w, hu, hw, eu, ew, x1, x2⟩ := ch2 h0' tz
            rw [eu]
            by_cases y : hb g (nI u) = true ∨ (nI (pHd (plP0 α β) (agX b m)) = 1 ∧ nI m < T.1 1 8)
            · rw [if_pos y, show (20 : Int32) = nI 20 from rfl, ft, hrec _ G 0 b _ g _ _ hb1' hL' hG (by omega) (nI_nm (by omega)) hQ2, an, show 64 * 0 + RN (plP0 α β) n (min (agX b m + 1) 9) (H ||| 2 ^ k) G - 1 = RN (plP0 α β) n (min (agX b m + 1) 9) (H ||| 2 ^ k) G - 1 by omega]
              exact fin _ 20 (hR1 _ _ _) (by have := hRn (min (agX b m + 1) 9) (H ||| 2 ^ k) G; omega) (x1 y) e20
            · rw [if_neg y]
              obtain ⟨G', eG, hG'⟩ := x2 y
              rw [show (20 : Int32) = nI 20 from rfl, ft, ixN_nI (by omega), ew, nI_add, hrec _ G' (0 + w) b _ _ _ _ hb1' hL' hG' (by omega) (nI_nm (by omega)) hQ2, an, show 64 * (0 + w) + RN (plP0 α β) n (min (agX b m + 1) 9) (H ||| 2 ^ k) G' - 1 = 64 * w + RN (plP0 α β) n (min (agX b m + 1) 9) (H ||| 2 ^ k) G' - 1 by omega]
              exact fin _ 20 (by have := hR1 (min (agX b m + 1) 9) (H ||| 2 ^ k) G'; omega) (by have := hRn (min (agX b m + 1) 9) (H ||| 2 ^ k) G'; omega) eG e20
  obtain ⟨M, fd, hM, hM1, hMb, eM, f1, f2⟩ := fold (nX α) (Nat.le_refl _)
  have f1' : ∀ k, k < tkMm β → H.testBit k = false → M ≤ cdH (plP0 α β) n (agX b m) H G k := fun k hk hHk => f1 k hk hHk (task_at hi hk).1
  have q : M = RN (plP0 α β) (n + 1) (agX b m) H G := by
    rcases f2 with ⟨e1, -⟩ | ⟨e1, k, hk, hHk, e2, -⟩
    · have q := res_min hi (n := n) (a := agX b m) (G := G) (M := minN (fun k => if k < tkMm β ∧ H.testBit k = false then cdH (plP0 α β) n (agX b m) H G k else INF) 4) (by omega) a9.2 hH (minN_inf _) (fun k hk hHk => by
        have := minN_le (f := fun k => if k < tkMm β ∧ H.testBit k = false then cdH (plP0 α β) n (agX b m) H G k else INF) (j := 4) (k := k) (by have := hi.2.2.2.2.2.1.1.2; omega)
        rw [if_pos ⟨hk, hHk⟩] at this
        exact this) (by
        rcases minN_ex (f := fun k => if k < tkMm β ∧ H.testBit k = false then cdH (plP0 α β) n (agX b m) H G k else INF) 4 with e | ⟨k, hk, e⟩
        · exact Or.inl e
        · by_cases c : k < tkMm β ∧ H.testBit k = false
          · rw [if_pos c] at e
            exact Or.inr ⟨k, c.1, e⟩
          · rw [if_neg c] at e
            exact Or.inl e)
      rw [← q, ← e1]
      have : M ≤ minN (fun k => if k < tkMm β ∧ H.testBit k = false then cdH (plP0 α β) n (agX b m) H G k else INF) 4 := by
        rcases minN_ex (f := fun k => if k < tkMm β ∧ H.testBit k = false then cdH (plP0 α β) n (agX b m) H G k else INF) 4 with e | ⟨k, hk, e⟩
        · rw [e]; exact hM
        · rw [e]
          split
          · rename_i c
            exact f1' k c.1 c.2
          · exact hM
      omega
    · have q := res_min hi (n := n) (a := agX b m) (G := G) (M := M) (by omega) a9.2 hH hM f1' (Or.inr ⟨k, hk, e2⟩)
      rw [← q]
      omega
  rw [eM]
  subst q
  refine ⟨fd, rfl, fun hf => ?_⟩
  rcases f2 with ⟨e1, e2⟩ | ⟨e1, k, hk, hHk, e2, e3, e4⟩
  · left
    obtain ⟨c1, c2⟩ := bRs (by rw [← e1]; exact hf)
    exact ⟨e2, c1, by rw [c2] at e1; exact e1.symm⟩
  · right
    refine ⟨?_, k, hk, hHk, e2.symm, e3, e4⟩
    by_cases a1 : agX b m = 1
    · exact Or.inl a1
    · rw [if_neg a1] at e1
      exact Or.inr e1
end ROOT
