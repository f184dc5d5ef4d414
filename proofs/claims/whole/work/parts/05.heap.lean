section HEAP
variable {xs : Option (Nat × (Nat → Int32))} {d : Nat} {M : xg_Y} {pc : Nat} {lv : List (Nat × Value)} {st : List Value} {σ : xm_M} {Q : Option Value → xm_M → Prop}
/-- a link of a field: the class ci, its place k -/
def xg_fl (own : String) (idx ci k : Nat) : Prop := ∃ (C : String) (T : u_T) (N : Nat), vwCl[ci]? = some (C, T, N) ∧ k < N ∧ (∀ w ∈ u_ws C T N, w ∈ xg_tb) ∧ Cond.fieldLink own idx (T k).1 (T k).2.1 (T k).2.2.1 ∈ xg_tb
/-- one that may be written: of this type -/
def xg_fp (own : String) (idx ci k : Nat) (ty : FieldType) : Prop := ∃ (C : String) (T : u_T) (N : Nat) (ty0 : Nat → FieldType), vwCl[ci]? = some (C, T, N) ∧ k < N ∧ (∀ w ∈ u_ws C T N, w ∈ xg_tb) ∧ Cond.fieldLink own idx (T k).1 (T k).2.1 (T k).2.2.1 ∈ xg_tb ∧
  (∀ k, k < N → parseFieldDescriptor (T k).2.2.1 = some (ty0 k)) ∧ (∀ a, a < N → ∀ b, b < N → a ≠ b → (T a).2.1 ≠ (T b).2.1) ∧ (T k).2.2.2 = false ∧ parseFieldDescriptor (T k).2.2.1 = some ty
def xg_ob (a ci k c : Nat) : Bool := Nat.ble (a + 1) 52 && (Nat.beq (sh_cl a) ci && (Nat.ble (ci + 1) 9 && (Nat.ble (k + 1) (sh_f a).length && Nat.beq ((sh_f a).getD k 0) c)))
theorem xg_ob_of {a ci k c : Nat} (h : xg_ob a ci k c = true) : a < 52 ∧ sh_cl a = ci ∧ ci < 9 ∧ k < (sh_f a).length ∧ (sh_f a).getD k 0 = c := by
  simp only [xg_ob, Bool.and_eq_true] at h
  exact ⟨Nat.le_of_ble_eq_true h.1, Nat.eq_of_beq_eq_true h.2.1, Nat.le_of_ble_eq_true h.2.2.1, Nat.le_of_ble_eq_true h.2.2.2.1, Nat.eq_of_beq_eq_true h.2.2.2.2⟩
theorem xg_ob_cell {ad : Nat → Nat} {cA : Nat → ClassId} {σ : xm_M} {a ci : Nat} (h1 : a < 52) (h2 : sh_cl a = ci) (h3 : ci < 9) : (xw_w ad cA σ)[a]? = some (ad a, .inr (ci, xw_f ad σ a)) := by
  rw [xw_at h1]
  unfold xw_e
  rw [if_pos (by omega), h2]
theorem xg_f_at {ad : Nat → Nat} {σ : xm_M} {a k c : Nat} (h4 : k < (sh_f a).length) (h5 : (sh_f a).getD k 0 = c) : (xw_f ad σ a)[k]? = some (xw_v ad σ a k c) := by
  unfold xw_f
  simp [List.getElem?_map, List.getElem?_range, h4, ← h5]
theorem X_getI {idx ci k : Nat} {a : Nat} (pd : Nat) (hd : decode M.2.1 pc = .ok (.getfield idx, 3)) (hf : xg_fl M.1.cls idx ci k) (ho : xg_ob a ci k 0 = true) (hn : pc + 3 = pd) (kk : xg_X xs d M pd lv (.int (σ.1 a k) :: st) σ Q) : xg_X xs d M pc lv (.ref a :: st) σ Q := by
  intro p l e R s m args below meth c cells slots ad G cA Z hT hR H locs ls hP hS hl
  subst hn
  obtain ⟨C, T, N, hc, hk, hin, hlk⟩ := hf
  obtain ⟨h1, h2, h3, h4, h5⟩ := xg_ob_of ho
  exact va_get hT.1 hT.2.1 hT.2.2.2.2.1 hin hT.2.2.2.1 hT.2.2.2.2.2.2.1 hP a (xg_ob_cell h1 h2 h3) hc k hk (hT.2.2.2.2.1 _ hlk) (fun _ h => h) (xg_f_at h4 h5) hd (kk p l e R s m args below meth c cells slots ad G cA Z hT hR H locs ls hP hS hl)
theorem X_getL {idx ci k : Nat} {a : Nat} (pd : Nat) (hd : decode M.2.1 pc = .ok (.getfield idx, 3)) (hf : xg_fl M.1.cls idx ci k) (ho : xg_ob a ci k 1 = true) (hn : pc + 3 = pd) (kk : xg_X xs d M pd lv (.long σ.2 :: st) σ Q) : xg_X xs d M pc lv (.ref a :: st) σ Q := by
  intro p l e R s m args below meth c cells slots ad G cA Z hT hR H locs ls hP hS hl
  subst hn
  obtain ⟨C, T, N, hc, hk, hin, hlk⟩ := hf
  obtain ⟨h1, h2, h3, h4, h5⟩ := xg_ob_of ho
  exact va_get hT.1 hT.2.1 hT.2.2.2.2.1 hin hT.2.2.2.1 hT.2.2.2.2.2.2.1 hP a (xg_ob_cell h1 h2 h3) hc k hk (hT.2.2.2.2.1 _ hlk) (fun _ h => h) (xg_f_at h4 h5) hd (kk p l e R s m args below meth c cells slots ad G cA Z hT hR H locs ls hP hS hl)
theorem X_getA {idx ci k : Nat} {a : Nat} (j : Nat) (pd : Nat) (hd : decode M.2.1 pc = .ok (.getfield idx, 3)) (hf : xg_fl M.1.cls idx ci k) (ho : xg_ob a ci k (j + 2) = true) (hn : pc + 3 = pd) (kk : xg_X xs d M pd lv (.ref j :: st) σ Q) : xg_X xs d M pc lv (.ref a :: st) σ Q := by
  intro p l e R s m args below meth c cells slots ad G cA Z hT hR H locs ls hP hS hl
  subst hn
  obtain ⟨C, T, N, hc, hk, hin, hlk⟩ := hf
  obtain ⟨h1, h2, h3, h4, h5⟩ := xg_ob_of ho
  exact va_get hT.1 hT.2.1 hT.2.2.2.2.1 hin hT.2.2.2.1 hT.2.2.2.2.2.2.1 hP a (xg_ob_cell h1 h2 h3) hc k hk (hT.2.2.2.2.1 _ hlk) (fun _ h => h) (xg_f_at h4 h5) hd (kk p l e R s m args below meth c cells slots ad G cA Z hT hR H locs ls hP hS hl)
theorem xw_f_set {ad : Nat → Nat} {σ : xm_M} {a k : Nat} {v : Int32} (h4 : k < (sh_f a).length) (h5 : (sh_f a).getD k 0 = 0) : (xw_f ad σ a).set k (.int v) = xw_f ad (xm_set σ a k v) a := by
  apply List.ext_getElem?
  intro j
  by_cases hj : j < (sh_f a).length
  · rw [xg_f_at (σ := xm_set σ a k v) hj rfl]
    by_cases e : j = k
    · subst e
      rw [List.getElem?_set_self (by simp [xw_f]; exact h4), h5]
      simp [xw_v, xm_set]
    · rw [List.getElem?_set_ne (Ne.symm e), xg_f_at hj rfl]
      simp [xw_v, xm_set, e]
  · rw [List.getElem?_eq_none (by simp [xw_f]; omega), List.getElem?_eq_none (by simp [xw_f]; omega)]
theorem X_putI {idx ci k : Nat} {a : Nat} {v : Int32} (pd : Nat) (hd : decode M.2.1 pc = .ok (.putfield idx, 3)) (hf : xg_fp M.1.cls idx ci k .int) (ho : xg_ob a ci k 0 = true) (hn : pc + 3 = pd) (kk : xg_X xs d M pd lv st (xm_set σ a k v) Q) : xg_X xs d M pc lv (.int v :: .ref a :: st) σ Q := by
  intro p l e R s m args below meth c cells slots ad G cA Z hT hR H locs ls hP hS hl
  subst hn
  obtain ⟨C, T, N, ty0, hc, hk, hin, hlk, hty, hnm, hfin, hpt⟩ := hf
  obtain ⟨h1, h2, h3, h4, h5⟩ := xg_ob_of ho
  have hE : xw_e ad cA (xm_set σ a k v) a = .inr (ci, (xw_f ad σ a).set k (xv ad (.int v))) := by
    show _ = Sum.inr (ci, (xw_f ad σ a).set k (Value.int v))
    rw [xw_f_set h4 h5]; unfold xw_e; rw [if_pos (by omega), h2]
  refine va_put hT.1 hT.2.1 hT.2.2.2.2.1 hin ty0 hty hnm hT.2.2.2.1 hT.2.2.2.2.2.2.1 hP (xg_D hT.2.2.2.2.2.2.2.1) hS a (xg_ob_cell h1 h2 h3) hc k hk (hT.2.2.2.2.1 _ hlk) (fun _ h => h) hfin hpt rfl rfl (by simp [xw_f]; exact h4) hd (fun H1 locs1 hP1 hD1 hS1 => ?_)
  rw [← hE, xw_set h1 (fun b hb => xm_set_e hb)] at hP1
  exact kk p l e R s m args below meth c cells slots ad G cA Z hT hR H1 locs1 ls hP1 hS1 hl
theorem xw_tok_f {ad : Nat → Nat} {σ : xm_M} {t : Int64} : (xw_f ad σ 36).set 10 (.long t) = xw_f ad (xm_tok σ t) 36 := by
  apply List.ext_getElem?
  intro j
  by_cases hj : j < (sh_f 36).length
  · rw [xg_f_at (σ := xm_tok σ t) hj rfl]
    by_cases e : j = 10
    · subst e
      rw [List.getElem?_set_self (by simp [xw_f, sh_f])]
      simp [xw_v, xm_tok, sh_f]
    · rw [List.getElem?_set_ne (Ne.symm e), xg_f_at hj rfl]
      have hne : (sh_f 36).getD j 0 ≠ 1 := by
        have hj' : j < 33 := hj
        revert e
        revert j
        decide
      simp only [xw_v, xm_tok, if_neg hne]
  · rw [List.getElem?_eq_none (by simp [xw_f]; omega), List.getElem?_eq_none (by simp [xw_f]; omega)]
theorem X_putL {idx : Nat} {v : Int64} (pd : Nat) (hd : decode M.2.1 pc = .ok (.putfield idx, 3)) (hf : xg_fp M.1.cls idx 5 10 .long) (hn : pc + 3 = pd) (kk : xg_X xs d M pd lv st (xm_tok σ v) Q) : xg_X xs d M pc lv (.long v :: .ref 36 :: st) σ Q := by
  intro p l e R s m args below meth c cells slots ad G cA Z hT hR H locs ls hP hS hl
  subst hn
  obtain ⟨C, T, N, ty0, hc, hk, hin, hlk, hty, hnm, hfin, hpt⟩ := hf
  have hE : xw_e ad cA (xm_tok σ v) 36 = .inr (5, (xw_f ad σ 36).set 10 (xv ad (.long v))) := by
    show _ = Sum.inr (5, (xw_f ad σ 36).set 10 (Value.long v))
    rw [xw_tok_f]; unfold xw_e; rw [if_pos (by decide)]; rfl
  refine va_put hT.1 hT.2.1 hT.2.2.2.2.1 hin ty0 hty hnm hT.2.2.2.1 hT.2.2.2.2.2.2.1 hP (xg_D hT.2.2.2.2.2.2.2.1) hS 36 (xg_ob_cell (by decide) (by decide) (by decide)) hc 10 hk (hT.2.2.2.2.1 _ hlk) (fun _ h => h) hfin hpt rfl rfl (by simp [xw_f, sh_f]) hd (fun H1 locs1 hP1 hD1 hS1 => ?_)
  rw [← hE, xw_set (σ := σ) (σ' := xm_tok σ v) (by decide) (fun b hb => xw_e_same (fun _ => rfl) (Or.inr hb))] at hP1
  exact kk p l e R s m args below meth c cells slots ad G cA Z hT hR H1 locs1 ls hP1 hS1 hl
/-- an array of ints (t 0) or booleans (t 1) of n places -/
def xg_ar (a t n : Nat) : Bool := Nat.ble (a + 1) 52 && (Nat.beq (sh_cl a) 9 && (Nat.beq (sh_t a) t && Nat.beq (sh_n a) n))
theorem xg_ar_of {a t n : Nat} (h : xg_ar a t n = true) : a < 52 ∧ sh_cl a = 9 ∧ sh_t a = t ∧ sh_n a = n := by
  simp only [xg_ar, Bool.and_eq_true] at h
  exact ⟨Nat.le_of_ble_eq_true h.1, Nat.eq_of_beq_eq_true h.2.1, Nat.eq_of_beq_eq_true h.2.2.1, Nat.eq_of_beq_eq_true h.2.2.2⟩
theorem xg_ar_cell {ad : Nat → Nat} {cA : Nat → ClassId} {σ : xm_M} {a t n : Nat} (h1 : a < 52) (h2 : sh_cl a = 9) (h3 : sh_t a = t) (h4 : sh_n a = n) (ht : t ≠ 2) : (xw_w ad cA σ)[a]? = some (ad a, .inl (cA t, n, .inl (σ.1 a))) := by
  rw [xw_at h1]
  unfold xw_e
  rw [if_neg (by omega), if_neg (by omega), h3, h4]
theorem xg_ar_cellq {ad : Nat → Nat} {cA : Nat → ClassId} {σ : xm_M} {a n : Nat} (h1 : a < 52) (h2 : sh_cl a = 9) (h3 : sh_t a = 2) (h4 : sh_n a = n) : (xw_w ad cA σ)[a]? = some (ad a, .inl (cA 2, n, .inr (.inr (.inr (.inr (fun k => some (ad (σ.1 a k).toNatClampNeg))))))) := by
  rw [xw_at h1]
  unfold xw_e
  rw [if_neg (by omega), if_pos h3, h4]
theorem xm_set_row {σ : xm_M} {a k : Nat} {v : Int32} : (xm_set σ a k v).1 a = upd (σ.1 a) k v := by
  funext j
  simp [xm_set, upd]
theorem X_iald {a : Nat} {i : Int32} (n : Nat) (pd : Nat) (hd : decode M.2.1 pc = .ok (.iaload, 1)) (ha : xg_ar a 0 n = true) (hn : pc + 1 = pd) (hi : vp_in i n) (kk : xg_X xs d M pd lv (.int (σ.1 a i.toNatClampNeg) :: st) σ Q) : xg_X xs d M pc lv (.int i :: .ref a :: st) σ Q := by
  intro p l e R s m args below meth c cells slots ad G cA Z hT hR H locs ls hP hS hl
  subst hn
  obtain ⟨h1, h2, h3, h4⟩ := xg_ar_of ha
  exact va_iald hT.1 hT.2.1 hT.2.2.2.2.2.2.1 hP a 0 (xg_ar_cell h1 h2 h3 h4 (by decide)) rfl hi hd (kk p l e R s m args below meth c cells slots ad G cA Z hT hR H locs ls hP hS hl)
theorem X_iast {a : Nat} {i v : Int32} (n : Nat) (pd : Nat) (hd : decode M.2.1 pc = .ok (.iastore, 1)) (ha : xg_ar a 0 n = true) (hn : pc + 1 = pd) (hi : vp_in i n) (kk : xg_X xs d M pd lv st (xm_set σ a i.toNatClampNeg v) Q) : xg_X xs d M pc lv (.int v :: .int i :: .ref a :: st) σ Q := by
  intro p l e R s m args below meth c cells slots ad G cA Z hT hR H locs ls hP hS hl
  subst hn
  obtain ⟨h1, h2, h3, h4⟩ := xg_ar_of ha
  refine va_iast hT.1 hT.2.1 hT.2.2.2.2.2.2.1 hP (xg_D hT.2.2.2.2.2.2.2.1) hS a 0 (xg_ar_cell h1 h2 h3 h4 (by decide)) rfl hi hd (fun H1 locs1 hP1 hD1 hS1 => ?_)
  have hE : xw_e ad cA (xm_set σ a i.toNatClampNeg v) a = .inl (cA 0, n, .inl (upd (σ.1 a) i.toNatClampNeg v)) := by
    unfold xw_e; rw [if_neg (by omega), if_neg (by omega), h3, h4, xm_set_row]
  rw [← hE, xw_set h1 (fun b hb => xm_set_e hb)] at hP1
  exact kk p l e R s m args below meth c cells slots ad G cA Z hT hR H1 locs1 ls hP1 hS1 hl
theorem X_zald {a : Nat} {i : Int32} (n : Nat) (pd : Nat) (hd : decode M.2.1 pc = .ok (.baload, 1)) (ha : xg_ar a 1 n = true) (hn : pc + 1 = pd) (hi : vp_in i n) (kk : xg_X xs d M pd lv (.int (σ.1 a i.toNatClampNeg) :: st) σ Q) : xg_X xs d M pc lv (.int i :: .ref a :: st) σ Q := by
  intro p l e R s m args below meth c cells slots ad G cA Z hT hR H locs ls hP hS hl
  subst hn
  obtain ⟨h1, h2, h3, h4⟩ := xg_ar_of ha
  exact va_zald hT.1 hT.2.1 hT.2.2.2.2.2.2.1 hP a 1 (xg_ar_cell h1 h2 h3 h4 (by decide)) rfl hi hd (kk p l e R s m args below meth c cells slots ad G cA Z hT hR H locs ls hP hS hl)
theorem X_zast {a : Nat} {i v : Int32} (n : Nat) (pd : Nat) (hd : decode M.2.1 pc = .ok (.bastore, 1)) (ha : xg_ar a 1 n = true) (hv : vp_nar .boolean v = v) (hn : pc + 1 = pd) (hi : vp_in i n) (kk : xg_X xs d M pd lv st (xm_set σ a i.toNatClampNeg v) Q) : xg_X xs d M pc lv (.int v :: .int i :: .ref a :: st) σ Q := by
  intro p l e R s m args below meth c cells slots ad G cA Z hT hR H locs ls hP hS hl
  subst hn
  obtain ⟨h1, h2, h3, h4⟩ := xg_ar_of ha
  refine va_zast hT.1 hT.2.1 hT.2.2.2.2.2.2.1 hP (xg_D hT.2.2.2.2.2.2.2.1) hS a 1 (xg_ar_cell h1 h2 h3 h4 (by decide)) rfl hi hd (fun H1 locs1 hP1 hD1 hS1 => ?_)
  have hE : xw_e ad cA (xm_set σ a i.toNatClampNeg v) a = .inl (cA 1, n, .inl (upd (σ.1 a) i.toNatClampNeg (vp_nar .boolean v))) := by
    unfold xw_e; rw [if_neg (by omega), if_neg (by omega), h3, h4, xm_set_row, hv]
  rw [← hE, xw_set h1 (fun b hb => xm_set_e hb)] at hP1
  exact kk p l e R s m args below meth c cells slots ad G cA Z hT hR H1 locs1 ls hP1 hS1 hl
theorem X_aald {a : Nat} {i : Int32} (n : Nat) (pd : Nat) (hd : decode M.2.1 pc = .ok (.aaload, 1)) (ha : xg_ar a 2 n = true) (hn : pc + 1 = pd) (hi : vp_in i n) (kk : xg_X xs d M pd lv (.ref (σ.1 a i.toNatClampNeg).toNatClampNeg :: st) σ Q) : xg_X xs d M pc lv (.int i :: .ref a :: st) σ Q := by
  intro p l e R s m args below meth c cells slots ad G cA Z hT hR H locs ls hP hS hl
  subst hn
  obtain ⟨h1, h2, h3, h4⟩ := xg_ar_of ha
  exact va_aldq (C := RX1) hT.1 hT.2.1 hT.2.2.2.2.2.2.1 hP a 2 (xg_ar_cellq h1 h2 h3 h4) rfl hi hd (kk p l e R s m args below meth c cells slots ad G cA Z hT hR H locs ls hP hS hl)
theorem X_aast {a b : Nat} {i : Int32} (n : Nat) (pd : Nat) (hd : decode M.2.1 pc = .ok (.aastore, 1)) (ha : xg_ar a 2 n = true) (hb : b < 52 ∧ sh_cl b = 1) (hn : pc + 1 = pd) (hi : vp_in i n) (kk : xg_X xs d M pd lv st (xm_set σ a i.toNatClampNeg (nI b)) Q) : xg_X xs d M pc lv (.ref b :: .int i :: .ref a :: st) σ Q := by
  intro p l e R s m args below meth c cells slots ad G cA Z hT hR H locs ls hP hS hl
  subst hn
  obtain ⟨h1, h2, h3, h4⟩ := xg_ar_of ha
  refine va_astq (r := (RX1, TX1, 6)) hT.1 hT.2.1 hT.2.2.2.2.2.2.1 hP (xg_D hT.2.2.2.2.2.2.2.1) hS a 2 b 1 (xg_ar_cellq h1 h2 h3 h4) rfl (xg_ob_cell hb.1 hb.2 (by decide)) rfl hi hd (fun H1 locs1 hP1 hD1 hS1 => ?_)
  have hE : xw_e ad cA (xm_set σ a i.toNatClampNeg (nI b)) a = .inl (cA 2, n, .inr (.inr (.inr (.inr (va_up (fun k => some (ad (σ.1 a k).toNatClampNeg)) i.toNatClampNeg (some (ad b))))))) := by
    unfold xw_e; rw [if_neg (by omega), if_pos h3, h4]
    congr 7
    funext j
    simp only [xm_set, va_up, true_and]
    by_cases e : j = i.toNatClampNeg
    · rw [if_pos e, if_pos e, nI_clamp (by omega)]
    · rw [if_neg e, if_neg e]
  rw [← hE, xw_set h1 (fun b hb => xm_set_e hb)] at hP1
  exact kk p l e R s m args below meth c cells slots ad G cA Z hT hR H1 locs1 ls hP1 hS1 hl
theorem X_alen {a t n : Nat} (v : Int32) (pd : Nat) (hd : decode M.2.1 pc = .ok (.arraylength, 1)) (ha : xg_ar a t n = true) (ht : t = 0) (hv : Int32.ofNat n = v) (hn : pc + 1 = pd) (kk : xg_X xs d M pd lv (.int v :: st) σ Q) : xg_X xs d M pc lv (.ref a :: st) σ Q := by
  intro p l e R s m args below meth c cells slots ad G cA Z hT hR H locs ls hP hS hl
  subst hn; subst ht
  obtain ⟨h1, h2, h3, h4⟩ := xg_ar_of ha
  exact va_alen hT.1 hT.2.1 hT.2.2.2.2.2.2.1 hP a 0 (xg_ar_cell h1 h2 h3 h4 (by decide)) rfl hv hd (kk p l e R s m args below meth c cells slots ad G cA Z hT hR H locs ls hP hS hl)
/-! tables and words -/
theorem X_gsA {idx : Nat} (pd : Nat) (hd : decode M.2.1 pc = .ok (.getstatic idx, 3)) (hw : Cond.fieldLink M.1.cls idx RX4 "KIND_ABOVE" "[I" ∈ xg_tb) (hn : pc + 3 = pd) (kk : xg_X xs d M pd lv (.ref 60 :: st) σ Q) : xg_X xs d M pc lv st σ Q := by
  intro p l e R s m args below meth c cells slots ad G cA Z hT hR H locs ls hP hS hl
  subst hn
  exact va_gets hT.1 hT.2.1 hT.2.2.2.2.2.2.2.2.1.1 hS hT.2.2.2.1 (hT.2.2.2.2.1 _ hw) (fun _ h => h) hd (kk p l e R s m args below meth c cells slots ad G cA Z hT hR H locs ls hP hS hl)
theorem X_gsN {idx : Nat} (pd : Nat) (hd : decode M.2.1 pc = .ok (.getstatic idx, 3)) (hw : Cond.fieldLink M.1.cls idx RX3 "NUMBERS" "[I" ∈ xg_tb) (hn : pc + 3 = pd) (kk : xg_X xs d M pd lv (.ref 61 :: st) σ Q) : xg_X xs d M pc lv st σ Q := by
  intro p l e R s m args below meth c cells slots ad G cA Z hT hR H locs ls hP hS hl
  subst hn
  exact va_gets hT.1 hT.2.1 hT.2.2.2.2.2.2.2.2.1.2.2.1 hS hT.2.2.2.1 (hT.2.2.2.2.1 _ hw) (fun _ h => h) hd (kk p l e R s m args below meth c cells slots ad G cA Z hT hR H locs ls hP hS hl)
theorem X_gsC {idx : Nat} (pd : Nat) (hd : decode M.2.1 pc = .ok (.getstatic idx, 3)) (hw : Cond.fieldLink M.1.cls idx RJ0 "COMPACT_STRINGS" "Z" ∈ xg_tb) (hn : pc + 3 = pd) (kk : xg_X xs d M pd lv (.int 1 :: st) σ Q) : xg_X xs d M pc lv st σ Q := by
  intro p l e R s m args below meth c cells slots ad G cA Z hT hR H locs ls hP hS hl
  subst hn
  exact va_gets hT.1 hT.2.1 hT.2.2.2.2.2.2.2.2.1.2.2.2.2.1 hS hT.2.2.2.1 (hT.2.2.2.2.1 _ hw) (fun _ h => h) hd (kk p l e R s m args below meth c cells slots ad G cA Z hT hR H locs ls hP hS hl)
theorem X_ialdA {i : Int32} (pd : Nat) (hd : decode M.2.1 pc = .ok (.iaload, 1)) (hn : pc + 1 = pd) (hi : vp_in i 6) (kk : xg_X xs d M pd lv (.int (xk_above.getD i.toNatClampNeg 0) :: st) σ Q) : xg_X xs d M pc lv (.int i :: .ref 60 :: st) σ Q := by
  intro p l e R s m args below meth c cells slots ad G cA Z hT hR H locs ls hP hS hl
  subst hn
  exact va_ti hT.1 hT.2.1 hT.2.2.2.2.2.2.2.2.1.2.1 hS hi rfl hd (kk p l e R s m args below meth c cells slots ad G cA Z hT hR H locs ls hP hS hl)
theorem X_ialdN {i : Int32} (pd : Nat) (hd : decode M.2.1 pc = .ok (.iaload, 1)) (hn : pc + 1 = pd) (hi : vp_in i 11) (kk : xg_X xs d M pd lv (.int (xk_nums.getD i.toNatClampNeg 0) :: st) σ Q) : xg_X xs d M pc lv (.int i :: .ref 61 :: st) σ Q := by
  intro p l e R s m args below meth c cells slots ad G cA Z hT hR H locs ls hP hS hl
  subst hn
  exact va_ti hT.1 hT.2.1 hT.2.2.2.2.2.2.2.2.1.2.2.2.1 hS hi rfl hd (kk p l e R s m args below meth c cells slots ad G cA Z hT hR H locs ls hP hS hl)
theorem X_alenA (pd : Nat) (hd : decode M.2.1 pc = .ok (.arraylength, 1)) (hn : pc + 1 = pd) (kk : xg_X xs d M pd lv (.int 6 :: st) σ Q) : xg_X xs d M pc lv (.ref 60 :: st) σ Q := by
  intro p l e R s m args below meth c cells slots ad G cA Z hT hR H locs ls hP hS hl
  subst hn
  exact va_tlen hT.1 hT.2.1 hT.2.2.2.2.2.2.2.2.1.2.1 hS (by decide) hd (kk p l e R s m args below meth c cells slots ad G cA Z hT hR H locs ls hP hS hl)
/-- a word's bytes -/
theorem X_getB {idx : Nat} (i : Nat) (pd : Nat) (hd : decode M.2.1 pc = .ok (.getfield idx, 3)) (hi : i < 11) (hw : Cond.fieldLink M.1.cls idx RJ0 "value" "[B" ∈ xg_tb) (hn : pc + 3 = pd) (kk : xg_X xs d M pd lv (.ref (90 + i) :: st) σ Q) : xg_X xs d M pc lv (.ref (70 + i) :: st) σ Q := by
  intro p l e R s m args below meth c cells slots ad G cA Z hT hR H locs ls hP hS hl
  subst hn
  exact vk_getf hT.1 hT.2.1 (hT.2.2.2.2.2.2.2.2.1.2.2.2.2.2.1.1 i hi).2.2.1 hS hT.2.2.2.1 (hT.2.2.2.2.1 _ hw) (fun _ h => h) hd (kk p l e R s m args below meth c cells slots ad G cA Z hT hR H locs ls hP hS hl)
theorem X_getC {idx : Nat} (i : Nat) (pd : Nat) (hd : decode M.2.1 pc = .ok (.getfield idx, 3)) (hi : i < 11) (hw : Cond.fieldLink M.1.cls idx RJ0 "coder" "B" ∈ xg_tb) (hn : pc + 3 = pd) (kk : xg_X xs d M pd lv (.int 0 :: st) σ Q) : xg_X xs d M pc lv (.ref (70 + i) :: st) σ Q := by
  intro p l e R s m args below meth c cells slots ad G cA Z hT hR H locs ls hP hS hl
  subst hn
  exact vk_getf hT.1 hT.2.1 (hT.2.2.2.2.2.2.2.2.1.2.2.2.2.2.1.1 i hi).2.1 hS hT.2.2.2.1 (hT.2.2.2.2.1 _ hw) (fun _ h => h) hd (kk p l e R s m args below meth c cells slots ad G cA Z hT hR H locs ls hP hS hl)
theorem X_alenB (i : Nat) (pd : Nat) (hd : decode M.2.1 pc = .ok (.arraylength, 1)) (hi : i < 11) (hn : pc + 1 = pd) (kk : xg_X xs d M pd lv (.int (nI (xk_lens.getD i 0)) :: st) σ Q) : xg_X xs d M pc lv (.ref (90 + i) :: st) σ Q := by
  intro p l e R s m args below meth c cells slots ad G cA Z hT hR H locs ls hP hS hl
  subst hn
  exact va_tlen hT.1 hT.2.1 (hT.2.2.2.2.2.2.2.2.1.2.2.2.2.2.1.1 i hi).2.2.2 hS rfl hd (kk p l e R s m args below meth c cells slots ad G cA Z hT hR H locs ls hP hS hl)
theorem X_baldB {j : Int32} (i : Nat) (pd : Nat) (hd : decode M.2.1 pc = .ok (.baload, 1)) (hi : i < 11) (hn : pc + 1 = pd) (hj : vp_in j (xk_lens.getD i 0)) (kk : xg_X xs d M pd lv (.int ((xk_bytes.getD i []).getD j.toNatClampNeg 0) :: st) σ Q) : xg_X xs d M pc lv (.int j :: .ref (90 + i) :: st) σ Q := by
  intro p l e R s m args below meth c cells slots ad G cA Z hT hR H locs ls hP hS hl
  subst hn
  exact va_tb hT.1 hT.2.1 (hT.2.2.2.2.2.2.2.2.1.2.2.2.2.2.1.1 i hi).2.2.2 hS hj rfl hd (kk p l e R s m args below meth c cells slots ad G cA Z hT hR H locs ls hP hS hl)
/-- a formatter that is only carried -/
theorem X_gsF {idx : Nat} (pd : Nat) (hd : decode M.2.1 pc = .ok (.getstatic idx, 3)) (hw : Cond.fieldLink M.1.cls idx RJ3 "SIOOBE_FORMATTER" "Ljava/util/function/BiFunction;" ∈ xg_tb) (hn : pc + 3 = pd) (k0 : xg_X xs d M pd lv (.null :: st) σ Q) (k1 : xg_X xs d M pd lv (.ref 120 :: st) σ Q) : xg_X xs d M pc lv st σ Q := by
  intro p l e R s m args below meth c cells slots ad G cA Z hT hR H locs ls hP hS hl
  subst hn
  rcases hT.2.2.2.2.2.2.2.2.1.2.2.2.2.2.2 with hz | hz
  · exact va_gets hT.1 hT.2.1 hz hS hT.2.2.2.1 (hT.2.2.2.2.1 _ hw) (fun _ h => h) hd (k0 p l e R s m args below meth c cells slots ad G cA Z hT hR H locs ls hP hS hl)
  · exact va_gets hT.1 hT.2.1 hz hS hT.2.2.2.1 (hT.2.2.2.2.1 _ hw) (fun _ h => h) hd (k1 p l e R s m args below meth c cells slots ad G cA Z hT hR H locs ls hP hS hl)
theorem X_pop {v : Value} (pd : Nat) (hd : decode M.2.1 pc = .ok (.pop, 1)) (hv : v.category = 1) (hn : pc + 1 = pd) (k : xg_X xs d M pd lv st σ Q) : xg_X xs d M pc lv (v :: st) σ Q := by
  intro p l e R s m args below meth c cells slots ad G cA Z hT hR H locs ls hP hS hl
  subst hn
  exact lv_pop hT.1 hT.2.1 hd (by rw [xv_cat]; exact hv) (k p l e R s m args below meth c cells slots ad G cA Z hT hR H locs ls hP hS hl)
/-! the script -/
theorem X_slen {L : Nat} {f : Nat → Int32} (pd : Nat) (hd : decode M.2.1 pc = .ok (.arraylength, 1)) (hn : pc + 1 = pd) (kk : xg_X (some (L, f)) d M pd lv (.int (nI L) :: st) σ Q) : xg_X (some (L, f)) d M pc lv (.ref 110 :: st) σ Q := by
  intro p l e R s m args below meth c cells slots ad G cA Z hT hR H locs ls hP hS hl
  subst hn
  obtain ⟨h1, h2, h3⟩ := hT.2.2.2.2.2.2.2.2.2.2
  exact va_slen hT.1 hT.2.1 h1 h2 h3 hS hd (kk p l e R s m args below meth c cells slots ad G cA Z hT hR H locs ls hP hS hl)
theorem X_sald {L : Nat} {f : Nat → Int32} {i : Int32} (pd : Nat) (hd : decode M.2.1 pc = .ok (.iaload, 1)) (hn : pc + 1 = pd) (hi : vp_in i L) (kk : xg_X (some (L, f)) d M pd lv (.int (f i.toNatClampNeg) :: st) σ Q) : xg_X (some (L, f)) d M pc lv (.int i :: .ref 110 :: st) σ Q := by
  intro p l e R s m args below meth c cells slots ad G cA Z hT hR H locs ls hP hS hl
  subst hn
  obtain ⟨h1, h2, h3⟩ := hT.2.2.2.2.2.2.2.2.2.2
  exact va_sld hT.1 hT.2.1 h1 h2 h3 hS hi hd (kk p l e R s m args below meth c cells slots ad G cA Z hT hR H locs ls hP hS hl)
end HEAP
section CALLS
variable {xs : Option (Nat × (Nat → Int32))} {d : Nat} {M : xg_Y} {pc : Nat} {lv : List (Nat × Value)} {st : List Value} {σ : xm_M} {Q : Option Value → xm_M → Prop}
def xg_zk (z : xg_Y) (n : Nat) : Prop := z.1.cls ≠ "java/lang/invoke/MethodHandle" ∧ z.1.cls ≠ "java/lang/invoke/VarHandle" ∧ (parseMethodDescriptor z.1.desc).map (fun d => d.parameters.length) = some n ∧ z.2.2.1 ≤ 40
def xg_pu (r : Option Value) (st : List Value) : List Value := match r with
  | none => st
  | some v => v :: st
theorem xg_blind {As : List Value} {ad : Nat → Nat} {G : va_G} {cA : Nat → ClassId} {σ : xm_M} : FrameBlind (va_Pc (As.map (xv ad)) (xg_At ad G cA σ)) := by
  intro a U g mk h
  obtain ⟨h0, hP, hK, hap, hKK, hN⟩ := h
  exact ⟨h0, hP, va_K.moved (u := U) (U := U.calling g mk a) (Vm.Alike.refl U.vm) hK, hap, xg_K.moved (u := U) (U := U.calling g mk a) (Vm.Alike.refl U.vm) hKK, xg_N.same (u := U) (U := U.calling g mk a) rfl hN⟩
theorem xg_good {z : xg_Y} (h : xg_cd z ∈ xg_tb) : GoodIn xg_tb (xg_ws z) := fun w hw => by
  have h1 : w ∈ xg_tb := by
    rcases List.mem_cons.mp hw with rfl | h2
    · exact h
    · exact h2
  exact ⟨h1, good_of_word (xg_tb_good w h1)⟩
theorem xg_pre {xs : Option (Nat × (Nat → Int32))} {d : Nat} {M : xg_Y} {p : Program} {l : Launch} {e : Env} {R : Room} {s : State} {m : MethodId} {args : Array Value} {below : List Frame} {meth : Method} {c : Code} {cells slots : Nat} {ad : Nat → Nat} {G : va_G} {cA : Nat → ClassId} {σ : xm_M} {H : Heap} {locs : List Loc} {As : List Value}
    (hT : xg_T xs d M p l e R s m args below meth c cells slots ad G cA) (hP : va_P G vwCl (xw_w ad cA σ) H) (hS : va_S (xg_A ad) s.heap H locs) : ∀ U : State, U.heap = H → s.WarmedH U.vm → va_Pc (As.map (xv ad)) (xg_At ad G cA σ) (As.map (xv ad)).toArray U := by
  intro U hU hW
  refine ⟨rfl, by rw [hU]; exact hP, va_K.moved hW.alike hT.2.2.2.2.2.2.1, hT.2.2.2.2.2.2.2.1, ?_, xg_N.warm hW hT.2.2.2.2.2.2.2.2.2.1⟩
  rw [hU]
  exact (hT.2.2.2.2.2.2.2.2.1.kept hS.2.1).moved hW.alike
theorem xg_run {p : Program} {l : Launch} {e : Env} {R : Room} {s : State} {m : MethodId} {args : Array Value} {below : List Frame} {meth : Method} {c : Code} {cells slots : Nat} {ad : Nat → Nat} {G : va_G} {cA : Nat → ClassId} {H : Heap} {locs : List Loc} {ls : Array Slot} {pd : Nat} {stk st : List Value} {Z : State → Prop} {a : Array Value} {Q2 : Option Value → xm_M → Prop}
    (hT : xg_T xs (d + 1) M p l e R s m args below meth c cells slots ad G cA) (hR : xg_R M p l e R s m args below meth c cells slots ad G cA Q Z) (hS : va_S (xg_A ad) s.heap H locs) (hl : lv_has ls M.2.2.1 (lv.map (fun q => (q.1, xv ad q.2)))) (hn : pc + 3 = pd)
    (hr : va_Run p l e R s m args below meth c H locs cells slots 0 0 (F0 m pc ls stk) (st.map (xv ad)) (xg_Q ad G cA Q2 a) (xg_A ad)) (hq : ∀ r σ, Q2 r σ → xg_X xs (d + 1) M pd lv (xg_pu r st) σ Q) : W p l e R s m args below meth c H locs cells slots Z (F0 m pc ls stk) := by
  subst hn
  intro T hT1 X1
  obtain ⟨v, st₀, t, T', L, h0, X2, hL, e1, e2, ⟨⟨r, σ', hv, hq2, hP2⟩, hz, hk⟩, stp⟩ := hr T hT1 X1
  rw [h0] at hz hk
  have hv' : v = r.map (xv ad) := by cases hv; rfl
  have hS2 : va_S (xg_A ad) s.heap T'.heap (locs ++ L) := ⟨Nat.le_trans hS.1 (by rw [e1]; exact hz), fun q h1 h2 => by rw [e1, hk q (Nat.lt_of_lt_of_le h1 hS.1) h2]; exact hS.2.1 q h1 h2, fun q hq => by
      rcases List.mem_append.mp hq with h | h
      · exact hS.2.2 q h
      · exact hL q h⟩
  obtain ⟨t2, a1, b1⟩ := hq r σ' hq2 p l e R s m args below meth c cells slots ad G cA Z hT hR T'.heap (locs ++ L) ls (by rw [e1]; exact hP2) hS2 hl T' rfl X2
  refine ⟨t2, stp t2 ?_, b1⟩
  have hst : v.toList ++ st.map (xv ad) = (xg_pu r st).map (xv ad) := by rw [hv']; cases r <;> rfl
  have a2 : Steps p.tables e below (T'.setTop (F0 m (pc + 3) ls (v.toList ++ st.map (xv ad)))) t2 := by rw [hst]; exact a1
  exact a2
theorem xg_sum {ad : Nat → Nat} {st : List Value} {m : MethodId} {pc : Nat} {ls : Array Slot} {stk : List Value} (h : Nat.ble (st.map Value.category).sum 8 = true) : 2 * (F0 m pc ls stk).monitorRoom + ((st.map (xv ad)).map fun v => v.category).sum ≤ 8 := by
  refine lv_room (st := st.map (xv ad)) ?_
  rw [List.map_map, show ((fun v => Value.category v) ∘ xv ad) = Value.category from funext (fun v => xv_cat ad v)]
  exact Nat.le_of_ble_eq_true h
theorem xg_room {R : Room} {z : xg_Y} {n : Nat} (hz : xg_zk z n) (h : d + 1 + 1 ≤ R.frames ∧ 60 * (d + 1 + 1) ≤ R.locals) : (xg_rm d).frames + 1 ≤ R.frames ∧ 8 + (z.2.2.1 + 11) + (xg_rm d).locals ≤ R.locals := by
  have := hz.2.2.2
  exact ⟨h.1, by show 8 + (z.2.2.1 + 11) + 60 * (d + 1) ≤ R.locals; omega⟩
/-- a call of a static method -/
theorem X_callS {z : xg_Y} {idx n : Nat} (As : List Value) {stk : List Value} (pd : Nat) (hd : decode M.2.1 pc = .ok (.invokestatic idx, 3)) (hw : ∀ w ∈ [Cond.methodLink M.1.cls idx z.1, .static z.1, .initialized z.1.cls, xg_cd z], w ∈ xg_tb) (hz : xg_zk z n) (hln : As.length = n) (hstk : stk = As.reverse ++ st) (hsum : Nat.ble (st.map Value.category).sum 8 = true) (hn : pc + 3 = pd)
    (hc : xg_C d z As σ (fun r σ' => xg_X xs (d + 1) M pd lv (xg_pu r st) σ' Q)) : xg_X xs (d + 1) M pc lv stk σ Q := by
  intro p l e R s m args below meth c cells slots ad G cA Z hT hR H locs ls hP hS hl
  subst hstk
  have hts := hT.2.2.2.2.1
  have cw := va_cwS (R := R) (own := M.1.cls) (index := idx) (y := z.1) (bytes := z.2.1) (maxL := z.2.2.1) (ret := z.2.2.2) (ws := xg_ws z) (ws' := xg_tb) (rm := xg_rm d) n hts (fun w h => by
    unfold va_wsS at h
    rcases List.mem_append.mp h with h | h
    · have h1 : w ∈ xg_tb := hw w (List.mem_append_left [xg_cd z] h)
      exact ⟨h1, good_of_word (xg_tb_good w h1)⟩
    · exact xg_good (hw _ (by simp)) w h) rfl rfl rfl ⟨hz.1, hz.2.1, hz.2.2.1⟩ (xg_room hz ⟨hT.2.2.2.2.2.1.1, hT.2.2.2.2.2.1.2.1⟩)
  refine xg_run hT hR hS hl hn (va_runS (As := As.map (xv ad)) (rest := st.map (xv ad)) (g := F0 m pc ls _) ⟨hT.1, hT.2.1, hT.2.2.1, hT.2.2.2.1, hts⟩ (hc l ad G cA) cw ⟨xg_blind, xg_pre hT hP hS⟩ rfl (by simp [hln]) hl.1 (by simp) (xg_sum hsum) hd ⟨hT.2.2.2.2.2.1.2.2.1, hT.2.2.2.2.2.1.2.2.2⟩) (fun r σ' h => h)
/-- a call of a nest mate's private static method -/
theorem X_callN {z : xg_Y} {idx n : Nat} (As : List Value) {stk : List Value} (pd : Nat) (hd : decode M.2.1 pc = .ok (.invokestatic idx, 3)) (hnw : Cond.methodLinkNest M.1.cls idx z.1 RX4 ∈ xk_nest) (hw : ∀ w ∈ [Cond.static z.1, .initialized z.1.cls, xg_cd z], w ∈ xg_tb) (hz : xg_zk z n) (hln : As.length = n) (hstk : stk = As.reverse ++ st) (hsum : Nat.ble (st.map Value.category).sum 8 = true) (hn : pc + 3 = pd)
    (hc : xg_C d z As σ (fun r σ' => xg_X xs (d + 1) M pd lv (xg_pu r st) σ' Q)) : xg_X xs (d + 1) M pc lv stk σ Q := by
  intro p l e R s m args below meth c cells slots ad G cA Z hT hR H locs ls hP hS hl
  subst hstk
  have hts := hT.2.2.2.2.1
  have cw := va_cnB (R := R) (own := M.1.cls) (index := idx) (y := z.1) (host := RX4) (bytes := z.2.1) (maxL := z.2.2.1) (ret := z.2.2.2) (ws := xg_ws z) (ws' := xg_tb) (rm := xg_rm d) n hts (xg_good (hw _ (by simp))) rfl rfl rfl (hT.2.2.2.2.2.2.2.2.2.1.1 _ hnw) (hts _ (hw _ (by simp))) ⟨hz.1, hz.2.1, hz.2.2.1⟩ (xg_room hz ⟨hT.2.2.2.2.2.1.1, hT.2.2.2.2.2.1.2.1⟩)
  refine xg_run hT hR hS hl hn (va_runSN (As := As.map (xv ad)) (rest := st.map (xv ad)) (g := F0 m pc ls _) ⟨hT.1, hT.2.1, hT.2.2.1, hT.2.2.2.1, hts⟩ (hc l ad G cA) ⟨cw, hts _ (hw _ (by simp)), trivial⟩ ⟨xg_blind, xg_pre hT hP hS⟩ rfl (by simp [hln]) hl.1 (by simp) (xg_sum hsum) hd ⟨hT.2.2.2.2.2.1.2.2.1, hT.2.2.2.2.2.1.2.2.2⟩) (fun r σ' h => h)
theorem xg_cwV {R : Room} {s : State} {args : Array Value} {z : xg_Y} {idx n : Nat} (hts : ∀ w ∈ xg_tb, w.before args s = true) (hw : ∀ w ∈ [Cond.methodLink M.1.cls idx z.1, .instanceMethod z.1, .selects z.1.cls z.1 z.1, .initialized z.1.cls, xg_cd z], w ∈ xg_tb) (hz : xg_zk z n) (hR : (xg_rm d).frames + 1 ≤ R.frames ∧ 8 + (z.2.2.1 + 11) + (xg_rm d).locals ≤ R.locals) :
    CallW R s args M.1.cls z.1.cls idx z.1 z.2.1 z.2.2.1 z.2.2.2 (xg_ws z) (xg_rm d) 0 0 n :=
  cwV (ws' := xg_tb) n hts (fun w h => by
    unfold wsV at h
    rcases List.mem_append.mp h with h | h
    · have h1 : w ∈ xg_tb := hw w (List.mem_append_left [xg_cd z] h)
      exact ⟨h1, good_of_word (xg_tb_good w h1)⟩
    · exact xg_good (hw _ (by simp)) w h) rfl rfl rfl ⟨rfl, hz.1, hz.2.1, hz.2.2.1⟩ hR
def xg_oc (a ci : Nat) : Bool := Nat.ble (a + 1) 52 && (Nat.beq (sh_cl a) ci && Nat.ble (ci + 1) 9)
/-- a call of a method of an object of the world -/
theorem X_callV {z : xg_Y} {idx n ci a : Nat} {r : vw_C} (As : List Value) {stk : List Value} (pd : Nat) (hd : decode M.2.1 pc = .ok (.invokevirtual idx, 3)) (hw : ∀ w ∈ [Cond.methodLink M.1.cls idx z.1, .instanceMethod z.1, .selects z.1.cls z.1 z.1, .initialized z.1.cls, xg_cd z], w ∈ xg_tb) (hz : xg_zk z n) (hcl : vwCl[ci]? = some r ∧ r.1 = z.1.cls) (ho : xg_oc a ci = true) (hln : As.length = n) (hstk : stk = As.reverse ++ .ref a :: st) (hsum : Nat.ble (st.map Value.category).sum 8 = true) (hn : pc + 3 = pd)
    (hc : xg_C d z (.ref a :: As) σ (fun r σ' => xg_X xs (d + 1) M pd lv (xg_pu r st) σ' Q)) : xg_X xs (d + 1) M pc lv stk σ Q := by
  intro p l e R s m args below meth c cells slots ad G cA Z hT hR H locs ls hP hS hl
  subst hstk
  have hts := hT.2.2.2.2.1
  simp only [xg_oc, Bool.and_eq_true] at ho
  have hcell := va_recv hT.2.2.2.2.2.2.1 hP hcl.1 (xg_ob_cell (Nat.le_of_ble_eq_true ho.1) (Nat.eq_of_beq_eq_true ho.2.1) (Nat.le_of_ble_eq_true ho.2.2))
  rw [hcl.2] at hcell
  refine xg_run hT hR hS hl hn (va_runV (b := ad a) (As := As.map (xv ad)) (rest := st.map (xv ad)) (g := F0 m pc ls _) ⟨hT.1, hT.2.1, hT.2.2.1, hT.2.2.2.1, hts⟩ (hc l ad G cA) (xg_cwV hts hw hz (xg_room hz ⟨hT.2.2.2.2.2.1.1, hT.2.2.2.2.2.1.2.1⟩)) ⟨xg_blind, hcell, xg_pre (As := .ref a :: As) hT hP hS⟩ rfl (by simp [hln]) hl.1 (by simp [xv]) (xg_sum hsum) hd ⟨hT.2.2.2.2.2.1.2.2.1, hT.2.2.2.2.2.1.2.2.2⟩) (fun r σ' h => h)
/-- a call of a method of a word -/
theorem X_callW {z : xg_Y} {idx n : Nat} (i : Nat) (As : List Value) {stk : List Value} (pd : Nat) (hd : decode M.2.1 pc = .ok (.invokevirtual idx, 3)) (hw : ∀ w ∈ [Cond.methodLink M.1.cls idx z.1, .instanceMethod z.1, .selects z.1.cls z.1 z.1, .initialized z.1.cls, xg_cd z], w ∈ xg_tb) (hz : xg_zk z n) (hcl : z.1.cls = RJ0) (hi : i < 11) (hln : As.length = n) (hstk : stk = As.reverse ++ .ref (70 + i) :: st) (hsum : Nat.ble (st.map Value.category).sum 8 = true) (hn : pc + 3 = pd)
    (hc : xg_C d z (.ref (70 + i) :: As) σ (fun r σ' => xg_X xs (d + 1) M pd lv (xg_pu r st) σ' Q)) : xg_X xs (d + 1) M pc lv stk σ Q := by
  intro p l e R s m args below meth c cells slots ad G cA Z hT hR H locs ls hP hS hl
  subst hstk
  have hts := hT.2.2.2.2.1
  have hcell := vk_recv hT.2.2.2.2.2.2.2.2.1.2.2.2.2.2.1 hi hS
  rw [show "java/lang/String" = z.1.cls from hcl.symm] at hcell
  refine xg_run hT hR hS hl hn (va_runV (b := ad (70 + i)) (As := As.map (xv ad)) (rest := st.map (xv ad)) (g := F0 m pc ls _) ⟨hT.1, hT.2.1, hT.2.2.1, hT.2.2.2.1, hts⟩ (hc l ad G cA) (xg_cwV hts hw hz (xg_room hz ⟨hT.2.2.2.2.2.1.1, hT.2.2.2.2.2.1.2.1⟩)) ⟨xg_blind, hcell, xg_pre (As := .ref (70 + i) :: As) hT hP hS⟩ rfl (by simp [hln]) hl.1 (by simp [xv]) (xg_sum hsum) hd ⟨hT.2.2.2.2.2.1.2.2.1, hT.2.2.2.2.2.1.2.2.2⟩) (fun r σ' h => h)
end CALLS
