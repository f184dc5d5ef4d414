/-! THE FRAME. The world of both objects is 52 cells (36 of GoldTouch, 16 of the reference), by their numbers:
0 GoldTouch; 1 court (2 kind 3 weight 4 worth 5 place 6 bears); 7 draft (8 .. 12); 13 text (14 letters 15 numbers); 16 day; 17 ahead; 18 past; 19 kept; 20 row; 21 planner (22 tools); 23 24 25 seen;
26 .. 33 the days of past, 34 35 of kept; 36 the reference (37 thing 38 bears 39 text 40 read 41 now 42 tried 43 image 44 isKept 45 backOf 46 row 47 tasks 48 sight 49 cost 50 last 51 tools).
60 KIND_ABOVE, 61 NUMBERS; 70 + i the word i, 90 + i its bytes; 110 the script. A memory is what the cells hold: cell, place. -/
def xg_tb : List Cond := lw_tbl.filter goodWord
theorem xg_tb_in {w : Cond} (h : w ∈ xg_tb) : w ∈ lw_tbl := (List.mem_filter.mp h).1
theorem xg_tb_good : ∀ w ∈ xg_tb, goodWord w = true := fun _ h => (List.mem_filter.mp h).2
abbrev xm_M : Type := (Nat → Nat → Int32) × Int64
def xm_set (σ : xm_M) (a k : Nat) (v : Int32) : xm_M := (fun b j => if b = a ∧ j = k then v else σ.1 b j, σ.2)
theorem xs_ne {σ : xm_M} {a b k j : Nat} {v : Int32} (h : b ≠ a) : (xm_set σ a k v).1 b j = σ.1 b j := if_neg (fun e => h e.1)
theorem xs_nk {σ : xm_M} {a b k j : Nat} {v : Int32} (h : j ≠ k) : (xm_set σ a k v).1 b j = σ.1 b j := if_neg (fun e => h e.2)
theorem xs_eq {σ : xm_M} {a k : Nat} {v : Int32} : (xm_set σ a k v).1 a k = v := if_pos ⟨rfl, rfl⟩
theorem xs_2 {σ : xm_M} {a k : Nat} {v : Int32} : (xm_set σ a k v).2 = σ.2 := rfl
def xm_tok (σ : xm_M) (t : Int64) : xm_M := (σ.1, t)
def sh_cl (a : Nat) : Nat := if a = 0 then 4 else if a = 1 then 0 else if a = 7 then 0 else if a = 13 then 3 else if a = 16 then 1 else if a = 17 then 1 else if a = 21 then 2 else if a = 36 then 5 else if 26 ≤ a ∧ a ≤ 35 then 1 else 9
def sh_n (a : Nat) : Nat := [0, 0, 8, 8, 8, 8, 3, 0, 8, 8, 8, 8, 3, 0, 160, 3, 0, 0, 8, 2, 8, 0, 3, 6, 6, 6, 0, 0, 0, 0, 0, 0, 0, 0, 0, 0, 0, 32, 3, 160, 70, 12, 12, 24, 2, 96, 8, 4, 18, 32000, 32000, 3].getD a 0
def sh_t (a : Nat) : Nat := if a = 18 then 2 else if a = 19 then 2 else if a = 44 then 1 else 0
/-- the fields of an object: 0 an int, 1 the long, 2 + j the cell j -/
def sh_f (a : Nat) : List Nat := if a = 0 then [3, 9, 15, 18, 19, 20, 0, 21, 0, 22, 0, 0, 23, 25, 26, 27, 0] else if a = 1 then [4, 5, 6, 7, 8, 0, 0, 0, 0] else if a = 7 then [10, 11, 12, 13, 14, 0, 0, 0, 0] else if a = 13 then [16, 0, 0, 0, 0, 17]
  else if a = 21 then [0, 0, 0, 0, 24] else if a = 36 then [0, 39, 40, 0, 0, 0, 0, 41, 0, 0, 1, 0, 0, 0, 0, 0, 42, 43, 44, 45, 46, 47, 0, 48, 0, 49, 0, 50, 0, 51, 52, 53, 0] else [0, 0, 0, 0, 0, 0]
def xv (ad : Nat → Nat) : Value → Value
  | .ref a => .ref (ad a)
  | v => v
def xw_v (ad : Nat → Nat) (σ : xm_M) (a k c : Nat) : Value := if c = 0 then .int (σ.1 a k) else if c = 1 then .long σ.2 else .ref (ad (c - 2))
def xw_f (ad : Nat → Nat) (σ : xm_M) (a : Nat) : List Value := (List.range (sh_f a).length).map (fun k => xw_v ad σ a k ((sh_f a).getD k 0))
def xw_e (ad : Nat → Nat) (cA : Nat → ClassId) (σ : xm_M) (a : Nat) : va_E :=
  if sh_cl a < 9 then .inr (sh_cl a, xw_f ad σ a) else if sh_t a = 2 then .inl (cA 2, sh_n a, .inr (.inr (.inr (.inr (fun k => some (ad (σ.1 a k).toNatClampNeg)))))) else .inl (cA (sh_t a), sh_n a, .inl (σ.1 a))
def xw_w (ad : Nat → Nat) (cA : Nat → ClassId) (σ : xm_M) : va_W := (List.range 52).map (fun a => (ad a, xw_e ad cA σ a))
def xg_A (ad : Nat → Nat) : Nat → Prop := fun q => ∃ a, a < 52 ∧ q = ad a
def xg_tys (cA : Nat → ClassId) : List (ClassId × FieldType) := [(cA 0, .int), (cA 1, .boolean), (cA 2, .object RX1)]
theorem xw_at {ad : Nat → Nat} {cA : Nat → ClassId} {σ : xm_M} {a : Nat} (h : a < 52) : (xw_w ad cA σ)[a]? = some (ad a, xw_e ad cA σ a) := by
  simp [xw_w, List.getElem?_map, List.getElem?_range, h]
theorem xw_len {ad : Nat → Nat} {cA : Nat → ClassId} {σ : xm_M} : (xw_w ad cA σ).length = 52 := by simp [xw_w]
theorem xw_at' {ad : Nat → Nat} {cA : Nat → ClassId} {σ : xm_M} {a : Nat} {q : Nat × va_E} (h : (xw_w ad cA σ)[a]? = some q) : a < 52 ∧ q = (ad a, xw_e ad cA σ a) := by
  have h1 : a < 52 := by have := (List.getElem?_eq_some_iff.mp h).1; rwa [xw_len] at this
  rw [xw_at h1] at h
  exact ⟨h1, (Option.some.inj h).symm⟩
theorem xw_e_same {ad : Nat → Nat} {cA : Nat → ClassId} {σ σ' : xm_M} {b : Nat} (h : ∀ k, σ'.1 b k = σ.1 b k) (ht : σ'.2 = σ.2 ∨ b ≠ 36) : xw_e ad cA σ' b = xw_e ad cA σ b := by
  have hf : σ'.1 b = σ.1 b := funext h
  have hF : xw_f ad σ' b = xw_f ad σ b := by
    unfold xw_f
    apply List.map_congr_left
    intro k _
    unfold xw_v
    rcases ht with ht | ht
    · rw [hf, ht]
    · have hne : (sh_f b).getD k 0 ≠ 1 := by
        unfold sh_f
        repeat' split
        all_goals first | (exfalso; exact ht (by assumption)) | skip
        all_goals (rcases k with _ | _ | _ | _ | _ | _ | _ | _ | _ | _ | _ | _ | _ | _ | _ | _ | _ | k <;> simp)
      rw [hf, if_neg hne, if_neg hne]
  unfold xw_e
  rw [hF, hf]
theorem xw_set {ad : Nat → Nat} {cA : Nat → ClassId} {σ σ' : xm_M} {a : Nat} (h : a < 52) (hs : ∀ b, b ≠ a → xw_e ad cA σ' b = xw_e ad cA σ b) : (xw_w ad cA σ).set a (ad a, xw_e ad cA σ' a) = xw_w ad cA σ' := by
  apply List.ext_getElem?
  intro k
  by_cases hk : k < 52
  · rw [xw_at hk]
    by_cases e : k = a
    · subst e
      rw [List.getElem?_set_self (by rw [xw_len]; exact hk)]
    · rw [List.getElem?_set_ne (Ne.symm e), xw_at hk, hs k e]
  · rw [List.getElem?_eq_none (by rw [List.length_set, xw_len]; omega), List.getElem?_eq_none (by rw [xw_len]; omega)]
theorem xm_set_e {ad : Nat → Nat} {cA : Nat → ClassId} {σ : xm_M} {a k : Nat} {v : Int32} {b : Nat} (h : b ≠ a) : xw_e ad cA (xm_set σ a k v) b = xw_e ad cA σ b :=
  xw_e_same (fun j => by simp [xm_set, h]) (Or.inl rfl)
/-- the world's addresses are apart -/
def xg_ap (ad : Nat → Nat) : Prop := ∀ a b, a < 52 → b < 52 → ad a = ad b → a = b
theorem xg_D {ad : Nat → Nat} {cA : Nat → ClassId} {σ : xm_M} (h : xg_ap ad) : va_D (xg_A ad) (xw_w ad cA σ) := by
  refine ⟨fun i j p q hi hj e => ?_, fun k q hk => ?_⟩
  · obtain ⟨h1, rfl⟩ := xw_at' hi
    obtain ⟨h2, rfl⟩ := xw_at' hj
    exact h i j h1 h2 e
  · obtain ⟨h1, rfl⟩ := xw_at' hk
    exact ⟨k, h1, rfl⟩
/-! what is constant: tables, words -/
def xk_above : List Int32 := [-1, 0, 1, 1, 0, 1]
def xk_nums : List Int32 := [3, 3, 3, 3, 3, 2, 1, 1, 1, 0, 0]
def xk_words : List (Nat × String) := [(91, "dead"), (93, "tool"), (95, "gate"), (97, "being"), (99, "food"), (101, "bears"), (102, "wash"), (103, "chill"), (104, "noon"), (105, "court"), (107, "bare")]
def xk_bytes : List (List Int32) := [[100, 101, 97, 100], [116, 111, 111, 108], [103, 97, 116, 101], [98, 101, 105, 110, 103], [102, 111, 111, 100], [98, 101, 97, 114, 115], [119, 97, 115, 104], [99, 104, 105, 108, 108], [110, 111, 111, 110], [99, 111, 117, 114, 116], [98, 97, 114, 101]]
def xk_lens : List Nat := [4, 4, 4, 5, 4, 5, 4, 5, 4, 5, 4]
def xk_nest : List Cond := [.methodLinkNest RX1 30 yX4_hasBit RX4, .methodLinkNest RX1 73 yX4_handIn RX4, .methodLinkNest RX2 25 yX4_hasBit RX4, .methodLinkNest RX2 69 yX4_handIn RX4]
def xg_K (ad : Nat → Nat) (A : Nat → Prop) (U : State) (H : Heap) : Prop :=
  va_Z RX4 "KIND_ABOVE" "[I" (.ref (ad 60)) A U H ∧ va_T .int (ad 60) 6 (fun j => .int (xk_above.getD j 0)) A U H ∧ va_Z RX3 "NUMBERS" "[I" (.ref (ad 61)) A U H ∧ va_T .int (ad 61) 11 (fun j => .int (xk_nums.getD j 0)) A U H ∧
  va_Z RJ0 "COMPACT_STRINGS" "Z" (.int 1) A U H ∧ vk_S 11 xk_lens xk_bytes (fun i => ad (70 + i)) (fun i => ad (90 + i)) A U H ∧
  (va_Z RJ3 "SIOOBE_FORMATTER" "Ljava/util/function/BiFunction;" .null A U H ∨ va_Z RJ3 "SIOOBE_FORMATTER" "Ljava/util/function/BiFunction;" (.ref (ad 120)) A U H)
def xg_N (ad : Nat → Nat) (U : State) : Prop := (∀ w ∈ xk_nest, va_Nw w U) ∧ ∀ i, i < 11 → vk_R RX3 (xk_words.getD i (0, "")).1 (xk_words.getD i (0, "")).2 (ad (70 + i)) U
theorem xg_K.moved {ad : Nat → Nat} {A : Nat → Prop} {u U : State} {H : Heap} (hvm : u.vm.Alike U.vm) (h : xg_K ad A u H) : xg_K ad A U H :=
  ⟨h.1.moved hvm, h.2.1.moved hvm, h.2.2.1.moved hvm, h.2.2.2.1.moved hvm, h.2.2.2.2.1.moved hvm, h.2.2.2.2.2.1.moved hvm, h.2.2.2.2.2.2.imp (fun h => h.moved hvm) (fun h => h.moved hvm)⟩
theorem xg_K.kept {ad : Nat → Nat} {A : Nat → Prop} {U : State} {H H1 : Heap} (h : xg_K ad A U H) (hq : ∀ a : Nat, a < H.size → ¬ A a → H1[a]? = H[a]?) : xg_K ad A U H1 :=
  ⟨h.1.kept hq, h.2.1.kept hq, h.2.2.1.kept hq, h.2.2.2.1.kept hq, h.2.2.2.2.1.kept hq, h.2.2.2.2.2.1.kept hq, h.2.2.2.2.2.2.imp (fun h => h.kept hq) (fun h => h.kept hq)⟩
theorem xg_N.warm {ad : Nat → Nat} {s U : State} (hW : s.WarmedH U.vm) (h : xg_N ad s) : xg_N ad U := by
  refine ⟨fun w hw => ?_, fun i hi => (h.2 i hi).warm hW⟩
  have h1 := h.1 w hw
  simp only [xk_nest, List.mem_cons, List.not_mem_nil, or_false] at hw
  rcases hw with rfl | rfl | rfl | rfl <;> exact va_Nw.warmM hW h1
theorem xg_N.same {ad : Nat → Nat} {u U : State} (hv : U.vm = u.vm) (h : xg_N ad u) : xg_N ad U := by
  refine ⟨fun w hw => ?_, fun i hi => (h.2 i hi).same hv⟩
  have h1 := h.1 w hw
  simp only [xk_nest, List.mem_cons, List.not_mem_nil, or_false] at hw
  rcases hw with rfl | rfl | rfl | rfl <;> exact va_Nw.same rfl hv.symm h1
/-! a method: its name, its bytes, its locals, what it returns -/
abbrev xg_Y : Type := MethodName × ByteArray × Nat × Option FieldType
def xg_cd (M : xg_Y) : Cond := .code M.1 M.2.1 M.2.2.1 M.2.2.2
def xg_ws (M : xg_Y) : List Cond := xg_cd M :: xg_tb
def xg_rm (d : Nat) : Room := { frames := d + 1, cells := 0, slots := 0, locals := 60 * (d + 1) }
/-- a state in which the world is held -/
def xg_At (ad : Nat → Nat) (G : va_G) (cA : Nat → ClassId) (σ : xm_M) (U : State) : Prop :=
  va_P G vwCl (xw_w ad cA σ) U.heap ∧ va_K G vwCl (xg_tys cA) U ∧ xg_ap ad ∧ xg_K ad (xg_A ad) U U.heap ∧ xg_N ad U
def xg_Q (ad : Nat → Nat) (G : va_G) (cA : Nat → ClassId) (Q : Option Value → xm_M → Prop) : Array Value → State → Outcome → State → Prop := fun _ st oc t =>
  (∃ (r : Option Value) (σ : xm_M), oc = .returned (r.map (xv ad)) ∧ Q r σ ∧ va_P G vwCl (xw_w ad cA σ) t.heap) ∧ va_F (xg_A ad) st t
/-- a call of M with these arguments from this memory ends with Q -/
def xg_C (d : Nat) (M : xg_Y) (As : List Value) (σ : xm_M) (Q : Option Value → xm_M → Prop) : Prop :=
  ∀ (l : Launch) (ad : Nat → Nat) (G : va_G) (cA : Nat → ClassId), Met l M.1 (xg_ws M) (xg_rm d) (va_Pc (As.map (xv ad)) (xg_At ad G cA σ)) (xg_Q ad G cA Q) 0 0 (xg_A ad)
def xg_sc (xs : Option (Nat × (Nat → Int32))) (b : Nat) (A : Nat → Prop) (s : State) : Prop := match xs with
  | none => True
  | some q => va_X b q.1 q.2 s s.heap ∧ b < s.heap.size ∧ ¬ A b
/-- what stands still while a method is walked -/
def xg_T (xs : Option (Nat × (Nat → Int32))) (d : Nat) (M : xg_Y) (p : Program) (l : Launch) (e : Env) (R : Room) (s : State) (m : MethodId) (args : Array Value) (below : List Frame) (meth : Method) (c : Code) (cells slots : Nat) (ad : Nat → Nat) (G : va_G) (cA : Nat → ClassId) : Prop :=
  p.tables.exec = Jvm.exec ∧ c.code = M.2.1 ∧ c.maxLocals = M.2.2.1 ∧ s.vm.findClass M.1.cls = some m.cls ∧ (∀ w ∈ xg_tb, w.before args s = true) ∧ (d + 1 ≤ R.frames ∧ 60 * (d + 1) ≤ R.locals ∧ cells ≤ R.cells ∧ slots ≤ R.slots) ∧
  va_K G vwCl (xg_tys cA) s ∧ xg_ap ad ∧ xg_K ad (xg_A ad) s s.heap ∧ xg_N ad s ∧ xg_sc xs (ad 110) (xg_A ad) s
/-- an instruction that ends the method with this answer -/
def xg_isR (M : xg_Y) (pc : Nat) (r : Option Value) : Prop :=
  (r = none ∧ decode M.2.1 pc = .ok (.return_, 1) ∧ M.2.2.2 = none) ∨ (∃ (v : Int32) (ty : FieldType), r = some (.int v) ∧ decode M.2.1 pc = .ok (.ireturn, 1) ∧ M.2.2.2 = some ty ∧ narrow ty (.int v) = .int v) ∨
  (∃ v : Int64, r = some (.long v) ∧ decode M.2.1 pc = .ok (.lreturn, 1) ∧ M.2.2.2 = some .long) ∨ (∃ (a : Nat) (n : String), r = some (.ref a) ∧ decode M.2.1 pc = .ok (.areturn, 1) ∧ M.2.2.2 = some (.object n))
def xg_R (M : xg_Y) (p : Program) (l : Launch) (e : Env) (R : Room) (s : State) (m : MethodId) (args : Array Value) (below : List Frame) (meth : Method) (c : Code) (cells slots : Nat) (ad : Nat → Nat) (G : va_G) (cA : Nat → ClassId) (Q : Option Value → xm_M → Prop) (Z : State → Prop) : Prop :=
  ∀ (r : Option Value) (σ : xm_M) (H : Heap) (locs : List Loc) (ls : Array Slot) (pc : Nat), Q r σ → va_P G vwCl (xw_w ad cA σ) H → va_S (xg_A ad) s.heap H locs → xg_isR M pc r → W p l e R s m args below meth c H locs cells slots Z (F0 m pc ls (r.map (xv ad)).toList)
/-- from this frame of M, with this memory, the method ends with Q -/
def xg_X (xs : Option (Nat × (Nat → Int32))) (d : Nat) (M : xg_Y) (pc : Nat) (lv : List (Nat × Value)) (st : List Value) (σ : xm_M) (Q : Option Value → xm_M → Prop) : Prop :=
  ∀ (p : Program) (l : Launch) (e : Env) (R : Room) (s : State) (m : MethodId) (args : Array Value) (below : List Frame) (meth : Method) (c : Code) (cells slots : Nat) (ad : Nat → Nat) (G : va_G) (cA : Nat → ClassId) (Z : State → Prop),
    xg_T xs d M p l e R s m args below meth c cells slots ad G cA → xg_R M p l e R s m args below meth c cells slots ad G cA Q Z →
    ∀ (H : Heap) (locs : List Loc) (ls : Array Slot), va_P G vwCl (xw_w ad cA σ) H → va_S (xg_A ad) s.heap H locs → lv_has ls M.2.2.1 (lv.map (fun q => (q.1, xv ad q.2))) →
    W p l e R s m args below meth c H locs cells slots Z (F0 m pc ls (st.map (xv ad)))
theorem xv_cat (ad : Nat → Nat) (v : Value) : (xv ad v).category = v.category := by cases v <;> rfl
theorem xv_args (ad : Nat → Nat) : ∀ (i : Nat) (vs : List Value), lv_args i (vs.map (xv ad)) = (lv_args i vs).map (fun q => (q.1, xv ad q.2))
  | _, [] => rfl
  | i, v :: vs => by
    simp only [List.map_cons, lv_args, xv_cat]
    rw [xv_args]
theorem xv_sl (ad : Nat → Nat) (vs : List Value) : (lg_sl (vs.map (xv ad))).length = (lg_sl vs).length := by
  induction vs with
  | nil => rfl
  | cons v vs ih => cases v <;> simp_all [lg_sl, xv, Value.category]
set_option maxHeartbeats 4000000 in
/-- a contract is a walk of the body -/
theorem xg_C_of {d : Nat} {M : xg_Y} {As : List Value} {σ : xm_M} {Q : Option Value → xm_M → Prop} (hy : plainName M.1.cls = true) (hl : (lg_sl As).length ≤ M.2.2.1) (h : xg_X none d M 0 (lv_args 0 As) [] σ Q) : xg_C d M As σ Q := by
  intro l ad G cA
  refine Met.ofW (cc := M.2.1) (maxL := M.2.2.1) (ret := M.2.2.2) hy rfl ?_
  intro p e s m args below meth c s₁ B hml hv
  obtain ⟨rfl, hP, hK, hap, hKK, hN⟩ := hv
  have hts := atoms_spec (ws := xg_ws M) B.pre
  have hr := B.returns
  have hlocks := B.notSynchronized
  have hlv := lv_entry (As.map (xv ad)) (n := M.2.2.1) (by rw [xv_sl]; exact hl)
  rw [xv_args] at hlv
  rw [lg_entry_eq]
  have hT : xg_T none d M p l e (headSpec (xg_ws M) (xg_rm d)).room s m (As.map (xv ad)).toArray below meth c 0 0 ad G cA :=
    ⟨B.exec, B.bytes, hml, findClass_of_methodNamed B.named, fun w hw => hts w (List.mem_cons_of_mem _ hw), ⟨Nat.le_refl _, Nat.le_refl _, Nat.zero_le _, Nat.zero_le _⟩, hK, hap, hKK, hN, trivial⟩
  refine h p l e _ s m _ below meth c 0 0 ad G cA _ hT ?_ s.heap [] _ hP va_S.rf hlv
  intro r σ' H locs ls pc hQ hP' hS' hR
  have hq : ∀ t : State, t.heap = H → s.WarmedH t.vm → xg_Q ad G cA Q (As.map (xv ad)).toArray s (.returned (r.map (xv ad))) t := fun t ht _ => ⟨⟨r, σ', rfl, hQ, by rw [ht]; exact hP'⟩, hS'.F ht⟩
  rcases hR with ⟨rfl, hd, h0⟩ | ⟨v, ty, rfl, hd, h0, hn⟩ | ⟨v, rfl, hd, h0⟩ | ⟨a, n, rfl, hd, h0⟩
  · exact W.vret B.exec B.bytes (hr.trans h0) hq hS'.2.2 hd
  · exact W.zret B.exec B.bytes (hr.trans h0) hn hq hS'.2.2 hd
  · exact W.lret B.exec B.bytes (hr.trans h0) hq hS'.2.2 hd
  · exact W.aret B.exec B.bytes (hr.trans h0) (Or.inl ⟨n, rfl⟩) (Or.inr ⟨_, rfl⟩) hq hS'.2.2 hd
/-- more room -/
theorem xg_X_mono {xs : Option (Nat × (Nat → Int32))} {d : Nat} {M : xg_Y} {pc : Nat} {lv : List (Nat × Value)} {st : List Value} {σ : xm_M} {Q Q' : Option Value → xm_M → Prop} (hQ : ∀ r σ, Q r σ → Q' r σ) (h : xg_X xs d M pc lv st σ Q) : xg_X xs d M pc lv st σ Q' := by
  intro p l e R s m args below meth c cells slots ad G cA Z hT hR H locs ls hP hS hl
  exact h p l e R s m args below meth c cells slots ad G cA Z hT (fun r σ H locs ls pc hq => hR r σ H locs ls pc (hQ r σ hq)) H locs ls hP hS hl
