/-! the reference: the thief, what fits, baths -/
def rsM (σ : xm_M) (t f : Nat) : Bool := allN (fun u => decide (lotM σ u (nI f) ≤ lotM σ t (nI f))) (nM σ) && allN (fun g => decide (lotM σ t (nI f) ≤ lotM σ t (nI g))) 3
def g_thief (σ : xm_M) (y : Int32) : Int32 := if inB y 0 2 = false then -3 else if y = 0 then (thO (rsM σ) (nM σ)).1 else if y = 1 then (thO (rsM σ) (nM σ)).2.1 else (thO (rsM σ) (nM σ)).2.2
def igM (σ : xm_M) (x m : Int32) : Bool := if x = 24 ∨ m < x then false else decide (hM σ (σ.1 41 11) x = 2 ∨ (hM σ (σ.1 41 11) x = 1 ∧ (σ.1 36 5 ≤ x ∨ m < σ.1 36 5)))
def fsM (σ : xm_M) (x : Int32) (i : Nat) : Nat → Bool := fun k => decide (¬ σ.1 48 (3 * k) = x) || (igM σ (nI i) (σ.1 48 (3 * k + 1)) == decide (σ.1 48 (3 * k + 2) = 1))
def f0M (σ : xm_M) (i : Nat) : Bool := decide (nI i < σ.1 41 10 ∨ nI i = 24)
def fiM (σ : xm_M) (x : Int32) : Nat → Int32
  | 0 => 0
  | i + 1 => fiM σ x i ||| (if (f0M σ i && allN (fsM σ x i) (smM σ)) = true then 1 <<< (nI i &&& 31) else 0)
def g_fit (σ : xm_M) (x : Int32) : Int32 := if isTm σ x = false then -2 else fiM σ x 25
def bkS (σ : xm_M) (x : Int32) (s : Nat) (b : Int32) : Nat → Bool × Int32
  | 0 => (decide ((nI s &&& x) = 0 ∧ (b = -1 ∨ bitM (nI s) 24 < bitM b 24)), agoR (σ.1 41 11) (σ.1 41 10) (miM σ))
  | k + 1 => if (bkS σ x s b k).1 then (!hb x (nI k) || decide (hbM σ (bkS σ x s b k).2 = 0), if hb (nI s) (nI k) then 1 else (bkS σ x s b k).2 + 1) else bkS σ x s b k
def bhM (σ : xm_M) (x : Int32) : Nat → Int32
  | 0 => -1
  | s + 1 => if (bkS σ x s (bhM σ x s) 12).1 then nI s else bhM σ x s
def g_baths (σ : xm_M) (x y : Int32) : Int32 := if inB x 0 4095 = false ∨ inB y 0 1 = false then -3 else if bhM σ x 4096 = -1 ∨ y = 1 then bhM σ x 4096 else bitM (bhM σ x 4096) 24
theorem bkS_no {σ : xm_M} {x : Int32} {s : Nat} {b : Int32} {k : Nat} (h : (bkS σ x s b k).1 = false) : ∀ n, (bkS σ x s b (k + n)).1 = false
  | 0 => h
  | n + 1 => by
    show (bkS σ x s b (k + n + 1)).1 = false
    rw [bkS, if_neg (by rw [bkS_no h n]; decide)]
    exact bkS_no h n
section REF6
variable {d : Nat} {σ : xm_M} {Q : Option Value → xm_M → Prop}
theorem S_X5_thief {y : Int32} (hv : vXm σ) (h : Q (some (.int (g_thief σ y))) σ) : xg_C (d + 5) mX5_thief [.ref 36, .int y] σ Q := by
  refine xg_C_of py_X5_thief (Nat.le_of_ble_eq_true rfl) ?_
  show xg_X none (d + 5) mX5_thief 0 [(0, .ref 36), (1, .int y)] [] σ Q
  have hv' := hv
  obtain ⟨hn, hn8⟩ := hv
  have outer : inB y 0 2 = true → ∀ k t, t + k = nM σ → ∀ lx, xg_X none (d + 5) mX5_thief 22 (lx ++ [(5, .int (nI t)), (4, .int (thO (rsM σ) t).2.2), (3, .int (thO (rsM σ) t).2.1), (2, .int (thO (rsM σ) t).1), (0, .ref 36), (1, .int y)]) [] σ Q := by
    intro cy k
    induction k with
    | zero =>
      intro t h2 lx
      obtain rfl : t = nM σ := by omega
      refine xg_sub (lw := [(5, .int (nI (nM σ))), (4, .int (thO (rsM σ) (nM σ)).2.2), (3, .int (thO (rsM σ) (nM σ)).2.1), (2, .int (thO (rsM σ) (nM σ)).1), (0, .ref 36), (1, .int y)]) (fun q hq => List.mem_append_right _ hq) ?_
      refine X_ild0 24 dX5_thief_22 rfl ?_
      refine X_aldn4 25 dX5_thief_24 rfl rfl ?_
      refine X_getI 28 dX5_thief_25 fl_X5_72 rfl rfl ?_
      refine X_icge 182 31 dX5_thief_28 (by decide) rfl (fun c28 => ?_) (fun c28 => ?_)
      · refine X_ildn5 183 dX5_thief_182 rfl rfl ?_
        refine X_ifne 190 186 dX5_thief_183 (by decide) rfl (fun c183 => ?_) (fun c183 => ?_)
        · refine X_ildn5 191 dX5_thief_190 rfl rfl ?_
          refine X_iconst 1 192 dX5_thief_191 (by decide) rfl ?_
          refine X_icne 199 195 dX5_thief_192 (by decide) rfl (fun c192 => ?_) (fun c192 => ?_)
          · refine X_ild1 201 dX5_thief_199 rfl ?_
            refine X_iret dX5_thief_201 rfl ?_
            refine Qi h ?_
            grind [g_thief]
          · refine X_ildn2 196 dX5_thief_195 rfl rfl ?_
            refine X_goto 201 dX5_thief_196 (by decide) ?_
            refine X_iret dX5_thief_201 rfl ?_
            refine Qi h ?_
            grind [g_thief]
        · refine X_ildn3 187 dX5_thief_186 rfl rfl ?_
          refine X_goto 201 dX5_thief_187 (by decide) ?_
          refine X_iret dX5_thief_201 rfl ?_
          refine Qi h ?_
          grind [g_thief]
      · exact absurd (by rw [hn]; exact nI_le (Nat.le_refl _) (by omega)) c28
    | succ k ih =>
      intro t h2 lx
      have inner : ∀ n f, f + n = 3 → ∀ lx, xg_X none (d + 5) mX5_thief 34 (lx ++ [(6, .int (nI f)), (5, .int (nI t)), (4, .int (thI (rsM σ) t (thO (rsM σ) t) f).2.2), (3, .int (thI (rsM σ) t (thO (rsM σ) t) f).2.1), (2, .int (thI (rsM σ) t (thO (rsM σ) t) f).1), (0, .ref 36), (1, .int y)]) [] σ Q := by
        intro n
        induction n with
        | zero =>
          intro f h3 lx
          obtain rfl : f = 3 := by omega
          refine xg_sub (lw := [(6, .int (nI 3)), (5, .int (nI t)), (4, .int (thI (rsM σ) t (thO (rsM σ) t) 3).2.2), (3, .int (thI (rsM σ) t (thO (rsM σ) t) 3).2.1), (2, .int (thI (rsM σ) t (thO (rsM σ) t) 3).1), (0, .ref 36), (1, .int y)]) (fun q hq => List.mem_append_right _ hq) ?_
          refine X_ild0 36 dX5_thief_34 rfl ?_
          refine X_iconst 3 37 dX5_thief_36 (by decide) rfl ?_
          refine X_icge 176 40 dX5_thief_37 (by decide) rfl (fun c37 => ?_) (fun c37 => ?_)
          · refine X_inc1 1 179 dX5_thief_176 (by decide) rfl rfl rfl ?_
            refine X_goto 22 dX5_thief_179 (by decide) ?_
            exact xg_lv (by simp [nI_succ, thO]) (ih (t + 1) (by omega) [(6, .int (nI 3))])
          · exact absurd (by decide) c37
        | succ n ih2 =>
          intro f h3 lx
          have fin : ∀ z w, w = b2i (rsM σ t f) → xg_X none (d + 5) mX5_thief 138 [(8, .int z), (7, .int w), (6, .int (nI f)), (5, .int (nI t)), (4, .int (thI (rsM σ) t (thO (rsM σ) t) f).2.2), (3, .int (thI (rsM σ) t (thO (rsM σ) t) f).2.1), (2, .int (thI (rsM σ) t (thO (rsM σ) t) f).1), (0, .ref 36), (1, .int y)] [] σ Q := by
            intro z w ew
            have nxt := ih2 (f + 1) (by omega) [(8, .int z), (7, .int w)]
            rw [thI, nI_succ] at nxt
            refine X_ild1 140 dX5_thief_138 rfl ?_
            refine X_ifeq 170 143 dX5_thief_140 (by decide) rfl (fun c140 => ?_) (fun c140 => ?_)
            · rw [ew, b2i_0] at c140
              refine X_inc2 1 173 dX5_thief_170 (by decide) rfl rfl rfl ?_
              refine X_goto 34 dX5_thief_173 (by decide) ?_
              refine xg_lv ?_ nxt
              grind
            · rw [ew, b2i_n] at c140
              refine X_ildn6 144 dX5_thief_143 rfl rfl ?_
              refine X_ifne 152 147 dX5_thief_144 (by decide) rfl (fun c144 => ?_) (fun c144 => ?_)
              · refine X_ildn5 153 dX5_thief_152 rfl rfl ?_
                refine X_istn5 154 dX5_thief_153 rfl rfl rfl rfl ?_
                refine X_ildn6 155 dX5_thief_154 rfl rfl ?_
                refine X_ifne 163 158 dX5_thief_155 (by decide) rfl (fun c155 => ?_) (fun c155 => ?_)
                · refine X_ild4 165 dX5_thief_163 rfl ?_
                  refine X_ist4 167 dX5_thief_165 rfl rfl rfl ?_
                  refine X_inc6 1 170 dX5_thief_167 (by decide) rfl rfl rfl ?_
                  refine X_inc2 1 173 dX5_thief_170 (by decide) rfl rfl rfl ?_
                  refine X_goto 34 dX5_thief_173 (by decide) ?_
                  refine xg_lv ?_ nxt
                  grind
                · refine X_ild2 160 dX5_thief_158 rfl ?_
                  refine X_goto 165 dX5_thief_160 (by decide) ?_
                  refine X_ist4 167 dX5_thief_165 rfl rfl rfl ?_
                  refine X_inc6 1 170 dX5_thief_167 (by decide) rfl rfl rfl ?_
                  refine X_inc2 1 173 dX5_thief_170 (by decide) rfl rfl rfl ?_
                  refine X_goto 34 dX5_thief_173 (by decide) ?_
                  refine xg_lv ?_ nxt
                  grind
              · refine X_ild3 149 dX5_thief_147 rfl ?_
                refine X_goto 153 dX5_thief_149 (by decide) ?_
                refine X_istn5 154 dX5_thief_153 rfl rfl rfl rfl ?_
                refine X_ildn6 155 dX5_thief_154 rfl rfl ?_
                refine X_ifne 163 158 dX5_thief_155 (by decide) rfl (fun c155 => ?_) (fun c155 => ?_)
                · refine X_ild4 165 dX5_thief_163 rfl ?_
                  refine X_ist4 167 dX5_thief_165 rfl rfl rfl ?_
                  refine X_inc6 1 170 dX5_thief_167 (by decide) rfl rfl rfl ?_
                  refine X_inc2 1 173 dX5_thief_170 (by decide) rfl rfl rfl ?_
                  refine X_goto 34 dX5_thief_173 (by decide) ?_
                  refine xg_lv ?_ nxt
                  grind
                · refine X_ild2 160 dX5_thief_158 rfl ?_
                  refine X_goto 165 dX5_thief_160 (by decide) ?_
                  refine X_ist4 167 dX5_thief_165 rfl rfl rfl ?_
                  refine X_inc6 1 170 dX5_thief_167 (by decide) rfl rfl rfl ?_
                  refine X_inc2 1 173 dX5_thief_170 (by decide) rfl rfl rfl ?_
                  refine X_goto 34 dX5_thief_173 (by decide) ?_
                  refine xg_lv ?_ nxt
                  grind
          have gl : ∀ m g, g + m = 3 → ∀ w, w = b2i (allN (fun u => decide (lotM σ u (nI f) ≤ lotM σ t (nI f))) (nM σ) && allN (fun g => decide (lotM σ t (nI f) ≤ lotM σ t (nI g))) g) → xg_X none (d + 5) mX5_thief 95 [(8, .int (nI g)), (7, .int w), (6, .int (nI f)), (5, .int (nI t)), (4, .int (thI (rsM σ) t (thO (rsM σ) t) f).2.2), (3, .int (thI (rsM σ) t (thO (rsM σ) t) f).2.1), (2, .int (thI (rsM σ) t (thO (rsM σ) t) f).1), (0, .ref 36), (1, .int y)] [] σ Q := by
            intro m
            induction m with
            | zero =>
              intro g h4 w ew
              obtain rfl : g = 3 := by omega
              refine X_ild0 97 dX5_thief_95 rfl ?_
              refine X_iconst 3 98 dX5_thief_97 (by decide) rfl ?_
              refine X_icge 138 101 dX5_thief_98 (by decide) rfl (fun c98 => ?_) (fun c98 => ?_)
              · exact fin _ w ew
              · exact absurd (by decide) c98
            | succ m ih3 =>
              intro g h4 w ew
              refine X_ild0 97 dX5_thief_95 rfl ?_
              refine X_iconst 3 98 dX5_thief_97 (by decide) rfl ?_
              refine X_icge 138 101 dX5_thief_98 (by decide) rfl (fun c98 => ?_) (fun c98 => ?_)
              · have c98 := leq c98 (n := 3) (by decide) (by decide) (by omega)
                omega
              · refine X_ild1 103 dX5_thief_101 rfl ?_
                refine X_ifeq 129 106 dX5_thief_103 (by decide) rfl (fun c103 => ?_) (fun c103 => ?_)
                · refine X_iconst 0 130 dX5_thief_129 (by decide) rfl ?_
                  refine X_ist1 132 dX5_thief_130 rfl rfl rfl ?_
                  refine X_inc0 1 135 dX5_thief_132 (by decide) rfl rfl rfl ?_
                  refine X_goto 95 dX5_thief_135 (by decide) ?_
                  refine xg_lv (by rw [nI_succ]) (ih3 (g + 1) (by omega) _ ?_)
                  rw [allN]
                  (try simp only [i_nlt, i_nle] at *)
                  grind [b2i]
                · refine X_aldn7 107 dX5_thief_106 rfl rfl ?_
                  refine X_ild3 109 dX5_thief_107 rfl ?_
                  refine X_ild0 111 dX5_thief_109 rfl ?_
                  refine X_callV2 5 114 dX5_thief_111 cw_X5_275 zk_X5_lootOf ⟨rfl, rfl⟩ rfl rfl rfl (S_X5_lootOf (by omega) ?_)
                  refine X_pu ?_
                  refine X_aldn7 115 dX5_thief_114 rfl rfl ?_
                  refine X_ild3 117 dX5_thief_115 rfl ?_
                  refine X_ild2 119 dX5_thief_117 rfl ?_
                  refine X_callV2 5 122 dX5_thief_119 cw_X5_275 zk_X5_lootOf ⟨rfl, rfl⟩ rfl rfl rfl (S_X5_lootOf (by omega) ?_)
                  refine X_pu ?_
                  refine X_iclt 129 125 dX5_thief_122 (by decide) rfl (fun c122 => ?_) (fun c122 => ?_)
                  · refine X_iconst 0 130 dX5_thief_129 (by decide) rfl ?_
                    refine X_ist1 132 dX5_thief_130 rfl rfl rfl ?_
                    refine X_inc0 1 135 dX5_thief_132 (by decide) rfl rfl rfl ?_
                    refine X_goto 95 dX5_thief_135 (by decide) ?_
                    refine xg_lv (by rw [nI_succ]) (ih3 (g + 1) (by omega) _ ?_)
                    rw [allN]
                    (try simp only [i_nlt, i_nle] at *)
                    grind [b2i]
                  · refine X_iconst 1 126 dX5_thief_125 (by decide) rfl ?_
                    refine X_goto 130 dX5_thief_126 (by decide) ?_
                    refine X_ist1 132 dX5_thief_130 rfl rfl rfl ?_
                    refine X_inc0 1 135 dX5_thief_132 (by decide) rfl rfl rfl ?_
                    refine X_goto 95 dX5_thief_135 (by decide) ?_
                    refine xg_lv (by rw [nI_succ]) (ih3 (g + 1) (by omega) _ ?_)
                    rw [allN]
                    (try simp only [i_nlt, i_nle] at *)
                    grind [b2i]
          have ul : ∀ m u, u + m = nM σ → ∀ w, w = b2i (allN (fun u => decide (lotM σ u (nI f) ≤ lotM σ t (nI f))) u) → xg_X none (d + 5) mX5_thief 46 [(8, .int (nI u)), (7, .int w), (6, .int (nI f)), (5, .int (nI t)), (4, .int (thI (rsM σ) t (thO (rsM σ) t) f).2.2), (3, .int (thI (rsM σ) t (thO (rsM σ) t) f).2.1), (2, .int (thI (rsM σ) t (thO (rsM σ) t) f).1), (0, .ref 36), (1, .int y)] [] σ Q := by
            intro m
            induction m with
            | zero =>
              intro u h4 w ew
              obtain rfl : u = nM σ := by omega
              refine X_ild0 48 dX5_thief_46 rfl ?_
              refine X_aldn7 49 dX5_thief_48 rfl rfl ?_
              refine X_getI 52 dX5_thief_49 fl_X5_72 rfl rfl ?_
              refine X_icge 92 55 dX5_thief_52 (by decide) rfl (fun c52 => ?_) (fun c52 => ?_)
              · refine X_iconst 0 93 dX5_thief_92 (by decide) rfl ?_
                refine X_ist0 95 dX5_thief_93 rfl rfl rfl ?_
                refine gl 3 0 rfl w ?_
                rw [ew, allN, Bool.and_true]
              · exact absurd (by rw [hn]; exact nI_le (Nat.le_refl _) (by omega)) c52
            | succ m ih3 =>
              intro u h4 w ew
              refine X_ild0 48 dX5_thief_46 rfl ?_
              refine X_aldn7 49 dX5_thief_48 rfl rfl ?_
              refine X_getI 52 dX5_thief_49 fl_X5_72 rfl rfl ?_
              refine X_icge 92 55 dX5_thief_52 (by decide) rfl (fun c52 => ?_) (fun c52 => ?_)
              · have c52 := leq c52 hn (by omega) (by omega)
                omega
              · refine X_ild1 57 dX5_thief_55 rfl ?_
                refine X_ifeq 83 60 dX5_thief_57 (by decide) rfl (fun c57 => ?_) (fun c57 => ?_)
                · refine X_iconst 0 84 dX5_thief_83 (by decide) rfl ?_
                  refine X_ist1 86 dX5_thief_84 rfl rfl rfl ?_
                  refine X_inc0 1 89 dX5_thief_86 (by decide) rfl rfl rfl ?_
                  refine X_goto 46 dX5_thief_89 (by decide) ?_
                  refine xg_lv (by rw [nI_succ]) (ih3 (u + 1) (by omega) _ ?_)
                  rw [allN]
                  (try simp only [i_nlt, i_nle] at *)
                  grind [b2i]
                · refine X_aldn7 61 dX5_thief_60 rfl rfl ?_
                  refine X_ild0 63 dX5_thief_61 rfl ?_
                  refine X_ild2 65 dX5_thief_63 rfl ?_
                  refine X_callV2 5 68 dX5_thief_65 cw_X5_275 zk_X5_lootOf ⟨rfl, rfl⟩ rfl rfl rfl (S_X5_lootOf (by omega) ?_)
                  refine X_pu ?_
                  refine X_aldn7 69 dX5_thief_68 rfl rfl ?_
                  refine X_ild3 71 dX5_thief_69 rfl ?_
                  refine X_ild2 73 dX5_thief_71 rfl ?_
                  refine X_callV2 5 76 dX5_thief_73 cw_X5_275 zk_X5_lootOf ⟨rfl, rfl⟩ rfl rfl rfl (S_X5_lootOf (by omega) ?_)
                  refine X_pu ?_
                  refine X_icgt 83 79 dX5_thief_76 (by decide) rfl (fun c76 => ?_) (fun c76 => ?_)
                  · refine X_iconst 0 84 dX5_thief_83 (by decide) rfl ?_
                    refine X_ist1 86 dX5_thief_84 rfl rfl rfl ?_
                    refine X_inc0 1 89 dX5_thief_86 (by decide) rfl rfl rfl ?_
                    refine X_goto 46 dX5_thief_89 (by decide) ?_
                    refine xg_lv (by rw [nI_succ]) (ih3 (u + 1) (by omega) _ ?_)
                    rw [allN]
                    (try simp only [i_nlt, i_nle] at *)
                    grind [b2i]
                  · refine X_iconst 1 80 dX5_thief_79 (by decide) rfl ?_
                    refine X_goto 84 dX5_thief_80 (by decide) ?_
                    refine X_ist1 86 dX5_thief_84 rfl rfl rfl ?_
                    refine X_inc0 1 89 dX5_thief_86 (by decide) rfl rfl rfl ?_
                    refine X_goto 46 dX5_thief_89 (by decide) ?_
                    refine xg_lv (by rw [nI_succ]) (ih3 (u + 1) (by omega) _ ?_)
                    rw [allN]
                    (try simp only [i_nlt, i_nle] at *)
                    grind [b2i]
          refine xg_sub (lw := [(6, .int (nI f)), (5, .int (nI t)), (4, .int (thI (rsM σ) t (thO (rsM σ) t) f).2.2), (3, .int (thI (rsM σ) t (thO (rsM σ) t) f).2.1), (2, .int (thI (rsM σ) t (thO (rsM σ) t) f).1), (0, .ref 36), (1, .int y)]) (fun q hq => List.mem_append_right _ hq) ?_
          refine X_ild0 36 dX5_thief_34 rfl ?_
          refine X_iconst 3 37 dX5_thief_36 (by decide) rfl ?_
          refine X_icge 176 40 dX5_thief_37 (by decide) rfl (fun c37 => ?_) (fun c37 => ?_)
          · have c37 := leq c37 (n := 3) (by decide) (by decide) (by omega)
            omega
          · refine X_iconst 1 41 dX5_thief_40 (by decide) rfl ?_
            refine X_istN 43 dX5_thief_41 rfl rfl rfl ?_
            refine X_iconst 0 44 dX5_thief_43 (by decide) rfl ?_
            refine X_istN 46 dX5_thief_44 rfl rfl rfl ?_
            exact ul (nM σ) 0 (by omega) _ rfl
      refine xg_sub (lw := [(5, .int (nI t)), (4, .int (thO (rsM σ) t).2.2), (3, .int (thO (rsM σ) t).2.1), (2, .int (thO (rsM σ) t).1), (0, .ref 36), (1, .int y)]) (fun q hq => List.mem_append_right _ hq) ?_
      refine X_ild0 24 dX5_thief_22 rfl ?_
      refine X_aldn4 25 dX5_thief_24 rfl rfl ?_
      refine X_getI 28 dX5_thief_25 fl_X5_72 rfl rfl ?_
      refine X_icge 182 31 dX5_thief_28 (by decide) rfl (fun c28 => ?_) (fun c28 => ?_)
      · have c28 := leq c28 hn (by omega) (by omega)
        omega
      · refine X_iconst 0 32 dX5_thief_31 (by decide) rfl ?_
        refine X_istN 34 dX5_thief_32 rfl rfl rfl ?_
        exact inner 3 0 rfl []
  refine X_ildn1 1 dX5_thief_0 rfl rfl ?_
  refine X_iconst 0 2 dX5_thief_1 (by decide) rfl ?_
  refine X_iconst 2 3 dX5_thief_2 (by decide) rfl ?_
  refine X_callS3 6 dX5_thief_3 cw_X5_87 zk_X5_in rfl rfl (S_X5_in ?_)
  refine X_pu ?_
  refine X_ifne 12 9 dX5_thief_6 (by decide) rfl (fun c6 => ?_) (fun c6 => ?_)
  · rw [b2i_n] at c6
    refine X_iconst 0 13 dX5_thief_12 (by decide) rfl ?_
    refine X_istnN 14 dX5_thief_13 rfl rfl rfl rfl ?_
    refine X_iconst (-1) 15 dX5_thief_14 (by decide) rfl ?_
    refine X_istnN 16 dX5_thief_15 rfl rfl rfl rfl ?_
    refine X_iconst (-1) 17 dX5_thief_16 (by decide) rfl ?_
    refine X_istN 19 dX5_thief_17 rfl rfl rfl ?_
    refine X_iconst 0 20 dX5_thief_19 (by decide) rfl ?_
    refine X_istN 22 dX5_thief_20 rfl rfl rfl ?_
    exact outer c6 (nM σ) 0 (by omega) []
  · rw [b2i_0] at c6
    refine X_bipush (-3) 11 dX5_thief_9 (by decide) rfl ?_
    refine X_iret dX5_thief_11 rfl ?_
    refine Qi h ?_
    grind [g_thief]
theorem S_X5_isGold {x m : Int32} (h : Q (some (.int (b2i (igM σ x m)))) σ) : xg_C (d + 2) mX5_isGold [.ref 36, .int x, .int m] σ Q := by
  refine xg_C_of py_X5_isGold (Nat.le_of_ble_eq_true rfl) ?_
  show xg_X none (d + 2) mX5_isGold 0 [(0, .ref 36), (1, .int x), (2, .int m)] [] σ Q
  refine X_ildn1 1 dX5_isGold_0 rfl rfl ?_
  refine X_bipush 24 3 dX5_isGold_1 (by decide) rfl ?_
  refine X_iceq 11 6 dX5_isGold_3 (by decide) rfl (fun c3 => ?_) (fun c3 => ?_)
  · refine X_iconst 0 12 dX5_isGold_11 (by decide) rfl ?_
    refine X_zret dX5_isGold_12 rfl (by first | exact Or.inl rfl | exact Or.inr rfl) ?_
    refine Qi h ?_
    (try simp only [i_nlt, i_nle] at *)
    grind [igM, b2i]
  · refine X_ildn2 7 dX5_isGold_6 rfl rfl ?_
    refine X_ildn1 8 dX5_isGold_7 rfl rfl ?_
    refine X_icge 13 11 dX5_isGold_8 (by decide) rfl (fun c8 => ?_) (fun c8 => ?_)
    · refine X_aldn0 14 dX5_isGold_13 rfl rfl ?_
      refine X_aldn0 15 dX5_isGold_14 rfl rfl ?_
      refine X_getA 41 18 dX5_isGold_15 fl_X5_32 rfl rfl ?_
      refine X_bipush 11 20 dX5_isGold_18 (by decide) rfl ?_
      refine X_ialk 11 21 dX5_isGold_20 rfl rfl (by decide) (by decide) ?_
      refine X_ildn1 22 dX5_isGold_21 rfl rfl ?_
      refine X_callV2 5 25 dX5_isGold_22 cw_X5_214 zk_X5_handIn ⟨rfl, rfl⟩ rfl rfl rfl (S_X5_handIn ?_)
      refine X_pu ?_
      refine X_istnN 26 dX5_isGold_25 rfl rfl rfl rfl ?_
      refine X_ildn0 27 dX5_isGold_26 rfl rfl ?_
      refine X_iconst 2 28 dX5_isGold_27 (by decide) rfl ?_
      refine X_iceq 52 31 dX5_isGold_28 (by decide) rfl (fun c28 => ?_) (fun c28 => ?_)
      · refine X_iconst 1 53 dX5_isGold_52 (by decide) rfl ?_
        refine X_goto 57 dX5_isGold_53 (by decide) ?_
        refine X_zret dX5_isGold_57 rfl (by first | exact Or.inl rfl | exact Or.inr rfl) ?_
        refine Qi h ?_
        (try simp only [i_nlt, i_nle] at *)
        grind [igM, b2i]
      · refine X_ildn0 32 dX5_isGold_31 rfl rfl ?_
        refine X_iconst 1 33 dX5_isGold_32 (by decide) rfl ?_
        refine X_icne 56 36 dX5_isGold_33 (by decide) rfl (fun c33 => ?_) (fun c33 => ?_)
        · refine X_iconst 0 57 dX5_isGold_56 (by decide) rfl ?_
          refine X_zret dX5_isGold_57 rfl (by first | exact Or.inl rfl | exact Or.inr rfl) ?_
          refine Qi h ?_
          (try simp only [i_nlt, i_nle] at *)
          grind [igM, b2i]
        · refine X_ildn2 37 dX5_isGold_36 rfl rfl ?_
          refine X_aldn1 38 dX5_isGold_37 rfl rfl ?_
          refine X_getI 41 dX5_isGold_38 fl_X5_23 rfl rfl ?_
          refine X_icge 52 44 dX5_isGold_41 (by decide) rfl (fun c41 => ?_) (fun c41 => ?_)
          · refine X_iconst 1 53 dX5_isGold_52 (by decide) rfl ?_
            refine X_goto 57 dX5_isGold_53 (by decide) ?_
            refine X_zret dX5_isGold_57 rfl (by first | exact Or.inl rfl | exact Or.inr rfl) ?_
            refine Qi h ?_
            (try simp only [i_nlt, i_nle] at *)
            grind [igM, b2i]
          · refine X_ildn3 45 dX5_isGold_44 rfl rfl ?_
            refine X_aldn1 46 dX5_isGold_45 rfl rfl ?_
            refine X_getI 49 dX5_isGold_46 fl_X5_23 rfl rfl ?_
            refine X_icge 56 52 dX5_isGold_49 (by decide) rfl (fun c49 => ?_) (fun c49 => ?_)
            · refine X_iconst 0 57 dX5_isGold_56 (by decide) rfl ?_
              refine X_zret dX5_isGold_57 rfl (by first | exact Or.inl rfl | exact Or.inr rfl) ?_
              refine Qi h ?_
              (try simp only [i_nlt, i_nle] at *)
              grind [igM, b2i]
            · refine X_iconst 1 53 dX5_isGold_52 (by decide) rfl ?_
              refine X_goto 57 dX5_isGold_53 (by decide) ?_
              refine X_zret dX5_isGold_57 rfl (by first | exact Or.inl rfl | exact Or.inr rfl) ?_
              refine Qi h ?_
              (try simp only [i_nlt, i_nle] at *)
              grind [igM, b2i]
    · refine X_iconst 0 12 dX5_isGold_11 (by decide) rfl ?_
      refine X_zret dX5_isGold_12 rfl (by first | exact Or.inl rfl | exact Or.inr rfl) ?_
      refine Qi h ?_
      (try simp only [i_nlt, i_nle] at *)
      grind [igM, b2i]
theorem S_X5_fit {x : Int32} (hm : vMm σ) (hs : vSm σ) (h : Q (some (.int (g_fit σ x))) σ) : xg_C (d + 3) mX5_fit [.ref 36, .int x] σ Q := by
  refine xg_C_of py_X5_fit (Nat.le_of_ble_eq_true rfl) ?_
  show xg_X none (d + 3) mX5_fit 0 [(0, .ref 36), (1, .int x)] [] σ Q
  obtain ⟨hs1, hs2⟩ := hs
  have loop : isTm σ x = true → ∀ j i, i + j = 25 → ∀ lx, xg_X none (d + 3) mX5_fit 15 (lx ++ [(3, .int (nI i)), (2, .int (fiM σ x i)), (0, .ref 36), (1, .int x)]) [] σ Q := by
    intro hT j
    induction j with
    | zero =>
      intro i hi lx
      obtain rfl : i = 25 := by omega
      refine xg_sub (lw := [(3, .int (nI 25)), (2, .int (fiM σ x 25)), (0, .ref 36), (1, .int x)]) (fun q hq => List.mem_append_right _ hq) ?_
      refine X_ildn0 16 dX5_fit_15 rfl rfl ?_
      refine X_bipush 24 18 dX5_fit_16 (by decide) rfl ?_
      refine X_icgt 148 21 dX5_fit_18 (by decide) rfl (fun c18 => ?_) (fun c18 => ?_)
      · refine X_ildn1 149 dX5_fit_148 rfl rfl ?_
        refine X_iret dX5_fit_149 rfl ?_
        refine Qi h ?_
        rw [g_fit, if_neg (by rw [hT]; decide)]
      · exact absurd (by decide) c18
    | succ j ih =>
      intro i hi lx
      refine xg_sub (lw := [(3, .int (nI i)), (2, .int (fiM σ x i)), (0, .ref 36), (1, .int x)]) (fun q hq => List.mem_append_right _ hq) ?_
      have fin : ∀ z w, w = b2i (f0M σ i && allN (fsM σ x i) (smM σ)) → xg_X none (d + 3) mX5_fit 127 [(5, .int z), (4, .int w), (3, .int (nI i)), (2, .int (fiM σ x i)), (0, .ref 36), (1, .int x)] [] σ Q := by
        intro z w ew
        have nxt := ih (i + 1) (by omega) [(5, .int z), (4, .int w)]
        rw [fiM, nI_succ] at nxt
        refine X_ildn3 128 dX5_fit_127 rfl rfl ?_
        refine X_ild1 130 dX5_fit_128 rfl ?_
        refine X_ifeq 139 133 dX5_fit_130 (by decide) rfl (fun c130 => ?_) (fun c130 => ?_)
        · rw [ew, b2i_0] at c130
          refine X_iconst 0 140 dX5_fit_139 (by decide) rfl ?_
          refine X_ior 141 dX5_fit_140 rfl ?_
          refine X_istn3 142 dX5_fit_141 rfl rfl rfl rfl ?_
          refine X_inc2 1 145 dX5_fit_142 (by decide) rfl rfl rfl ?_
          refine X_goto 15 dX5_fit_145 (by decide) ?_
          rw [if_neg (by rw [c130]; decide)] at nxt
          exact nxt
        · rw [ew, b2i_n] at c130
          refine X_iconst 1 134 dX5_fit_133 (by decide) rfl ?_
          refine X_ildn2 135 dX5_fit_134 rfl rfl ?_
          refine X_ishl 136 dX5_fit_135 rfl ?_
          refine X_goto 140 dX5_fit_136 (by decide) ?_
          refine X_ior 141 dX5_fit_140 rfl ?_
          refine X_istn3 142 dX5_fit_141 rfl rfl rfl rfl ?_
          refine X_inc2 1 145 dX5_fit_142 (by decide) rfl rfl rfl ?_
          refine X_goto 15 dX5_fit_145 (by decide) ?_
          rw [if_pos c130] at nxt
          exact nxt
      have inn : ∀ m k, k + m = smM σ → ∀ w, w = b2i (f0M σ i && allN (fsM σ x i) k) → xg_X none (d + 3) mX5_fit 48 [(5, .int (nI k)), (4, .int w), (3, .int (nI i)), (2, .int (fiM σ x i)), (0, .ref 36), (1, .int x)] [] σ Q := by
        intro m
        induction m with
        | zero =>
          intro k hk w ew
          obtain rfl : k = smM σ := by omega
          refine X_ild0 50 dX5_fit_48 rfl ?_
          refine X_aldn4 51 dX5_fit_50 rfl rfl ?_
          refine X_getI 54 dX5_fit_51 fl_X5_84 rfl rfl ?_
          refine X_icge 127 57 dX5_fit_54 (by decide) rfl (fun c54 => ?_) (fun c54 => ?_)
          · exact fin _ w ew
          · exact absurd (by rw [hs1]; exact nI_le (Nat.le_refl _) (by omega)) c54
        | succ m ih2 =>
          intro k hk w ew
          have e0 : (3 : Int32) * nI k = nI (3 * k) := pk_mul 3 k
          have nxt : ∀ z, z = b2i (f0M σ i && allN (fsM σ x i) (k + 1)) → xg_X none (d + 3) mX5_fit 119 [(5, .int (nI k)), (4, .int w), (3, .int (nI i)), (2, .int (fiM σ x i)), (0, .ref 36), (1, .int x)] [.int z] σ Q := by
            intro z ez
            refine X_ist1 121 dX5_fit_119 rfl rfl rfl ?_
            refine X_inc0 1 124 dX5_fit_121 (by decide) rfl rfl rfl ?_
            refine X_goto 48 dX5_fit_124 (by decide) ?_
            exact xg_lv (by rw [nI_succ]) (ih2 (k + 1) (by omega) z ez)
          refine X_ild0 50 dX5_fit_48 rfl ?_
          refine X_aldn4 51 dX5_fit_50 rfl rfl ?_
          refine X_getI 54 dX5_fit_51 fl_X5_84 rfl rfl ?_
          refine X_icge 127 57 dX5_fit_54 (by decide) rfl (fun c54 => ?_) (fun c54 => ?_)
          · have c54 := leq c54 hs1 (by omega) (by omega)
            omega
          · refine X_ild1 59 dX5_fit_57 rfl ?_
            refine X_ifeq 118 62 dX5_fit_59 (by decide) rfl (fun c59 => ?_) (fun c59 => ?_)
            · refine X_iconst 0 119 dX5_fit_118 (by decide) rfl ?_
              refine nxt _ ?_
              rw [allN]
              grind [b2i, fsM]
            · refine X_aldn4 63 dX5_fit_62 rfl rfl ?_
              refine X_getA 48 66 dX5_fit_63 fl_X5_54 rfl rfl ?_
              refine X_iconst 3 67 dX5_fit_66 (by decide) rfl ?_
              refine X_ild0 69 dX5_fit_67 rfl ?_
              refine X_imul 70 dX5_fit_69 rfl ?_
              refine X_ialk (3 * k) 71 dX5_fit_70 rfl rfl e0 (show 3 * k < 18 by omega) ?_
              refine X_ildn5 72 dX5_fit_71 rfl rfl ?_
              refine X_icne 114 75 dX5_fit_72 (by decide) rfl (fun c72 => ?_) (fun c72 => ?_)
              · refine X_iconst 1 115 dX5_fit_114 (by decide) rfl ?_
                refine X_goto 119 dX5_fit_115 (by decide) ?_
                refine nxt _ ?_
                rw [allN]
                grind [b2i, fsM]
              · refine X_aldn4 76 dX5_fit_75 rfl rfl ?_
                refine X_ildn2 77 dX5_fit_76 rfl rfl ?_
                refine X_aldn4 78 dX5_fit_77 rfl rfl ?_
                refine X_getA 48 81 dX5_fit_78 fl_X5_54 rfl rfl ?_
                refine X_iconst 3 82 dX5_fit_81 (by decide) rfl ?_
                refine X_ild0 84 dX5_fit_82 rfl ?_
                refine X_imul 85 dX5_fit_84 rfl ?_
                refine X_iconst 1 86 dX5_fit_85 (by decide) rfl ?_
                refine X_iadd 87 dX5_fit_86 rfl ?_
                refine X_ialk (3 * k + 1) 88 dX5_fit_87 rfl rfl (by rw [e0]; exact nI_add _ 1) (show 3 * k + 1 < 18 by omega) ?_
                refine X_callV2 5 91 dX5_fit_88 cw_X5_278 zk_X5_isGold ⟨rfl, rfl⟩ rfl rfl rfl (S_X5_isGold ?_)
                refine X_pu ?_
                refine X_aldn4 92 dX5_fit_91 rfl rfl ?_
                refine X_getA 48 95 dX5_fit_92 fl_X5_54 rfl rfl ?_
                refine X_iconst 3 96 dX5_fit_95 (by decide) rfl ?_
                refine X_ild0 98 dX5_fit_96 rfl ?_
                refine X_imul 99 dX5_fit_98 rfl ?_
                refine X_iconst 2 100 dX5_fit_99 (by decide) rfl ?_
                refine X_iadd 101 dX5_fit_100 rfl ?_
                refine X_ialk (3 * k + 2) 102 dX5_fit_101 rfl rfl (by rw [e0]; exact nI_add _ 2) (show 3 * k + 2 < 18 by omega) ?_
                refine X_iconst 1 103 dX5_fit_102 (by decide) rfl ?_
                refine X_icne 110 106 dX5_fit_103 (by decide) rfl (fun c103 => ?_) (fun c103 => ?_)
                · refine X_iconst 0 111 dX5_fit_110 (by decide) rfl ?_
                  refine X_icne 118 114 dX5_fit_111 (by decide) rfl (fun c111 => ?_) (fun c111 => ?_)
                  · refine X_iconst 0 119 dX5_fit_118 (by decide) rfl ?_
                    refine nxt _ ?_
                    rw [allN]
                    grind [b2i, fsM]
                  · refine X_iconst 1 115 dX5_fit_114 (by decide) rfl ?_
                    refine X_goto 119 dX5_fit_115 (by decide) ?_
                    refine nxt _ ?_
                    rw [allN]
                    grind [b2i, fsM]
                · refine X_iconst 1 107 dX5_fit_106 (by decide) rfl ?_
                  refine X_goto 111 dX5_fit_107 (by decide) ?_
                  refine X_icne 118 114 dX5_fit_111 (by decide) rfl (fun c111 => ?_) (fun c111 => ?_)
                  · refine X_iconst 0 119 dX5_fit_118 (by decide) rfl ?_
                    refine nxt _ ?_
                    rw [allN]
                    grind [b2i, fsM]
                  · refine X_iconst 1 115 dX5_fit_114 (by decide) rfl ?_
                    refine X_goto 119 dX5_fit_115 (by decide) ?_
                    refine nxt _ ?_
                    rw [allN]
                    grind [b2i, fsM]
      refine X_ildn0 16 dX5_fit_15 rfl rfl ?_
      refine X_bipush 24 18 dX5_fit_16 (by decide) rfl ?_
      refine X_icgt 148 21 dX5_fit_18 (by decide) rfl (fun c18 => ?_) (fun c18 => ?_)
      · exact absurd (nI_le (a := i) (b := 24) (by omega) (by decide)) (by rw [i_nle]; exact c18)
      · refine X_ildn0 22 dX5_fit_21 rfl rfl ?_
        refine X_aldn2 23 dX5_fit_22 rfl rfl ?_
        refine X_getA 41 26 dX5_fit_23 fl_X5_32 rfl rfl ?_
        refine X_bipush 10 28 dX5_fit_26 (by decide) rfl ?_
        refine X_ialk 10 29 dX5_fit_28 rfl rfl (by decide) (by decide) ?_
        refine X_iclt 38 32 dX5_fit_29 (by decide) rfl (fun c29 => ?_) (fun c29 => ?_)
        · refine X_iconst 1 39 dX5_fit_38 (by decide) rfl ?_
          refine X_goto 43 dX5_fit_39 (by decide) ?_
          refine X_istN 45 dX5_fit_43 rfl rfl rfl ?_
          refine X_iconst 0 46 dX5_fit_45 (by decide) rfl ?_
          refine X_istN 48 dX5_fit_46 rfl rfl rfl ?_
          refine inn (smM σ) 0 (by omega) _ ?_
          rw [allN]
          (try simp only [i_nlt, i_nle] at *)
          grind [b2i, f0M]
        · refine X_ildn0 33 dX5_fit_32 rfl rfl ?_
          refine X_bipush 24 35 dX5_fit_33 (by decide) rfl ?_
          refine X_icne 42 38 dX5_fit_35 (by decide) rfl (fun c35 => ?_) (fun c35 => ?_)
          · refine X_iconst 0 43 dX5_fit_42 (by decide) rfl ?_
            refine X_istN 45 dX5_fit_43 rfl rfl rfl ?_
            refine X_iconst 0 46 dX5_fit_45 (by decide) rfl ?_
            refine X_istN 48 dX5_fit_46 rfl rfl rfl ?_
            refine inn (smM σ) 0 (by omega) _ ?_
            rw [allN]
            (try simp only [i_nlt, i_nle] at *)
            grind [b2i, f0M]
          · refine X_iconst 1 39 dX5_fit_38 (by decide) rfl ?_
            refine X_goto 43 dX5_fit_39 (by decide) ?_
            refine X_istN 45 dX5_fit_43 rfl rfl rfl ?_
            refine X_iconst 0 46 dX5_fit_45 (by decide) rfl ?_
            refine X_istN 48 dX5_fit_46 rfl rfl rfl ?_
            refine inn (smM σ) 0 (by omega) _ ?_
            rw [allN]
            (try simp only [i_nlt, i_nle] at *)
            grind [b2i, f0M]
  refine X_aldn0 1 dX5_fit_0 rfl rfl ?_
  refine X_ildn1 2 dX5_fit_1 rfl rfl ?_
  refine X_callV1 5 5 dX5_fit_2 cw_X5_196 zk_X5_isThing ⟨rfl, rfl⟩ rfl rfl rfl (S_X5_isThing ?_)
  refine X_pu ?_
  refine X_ifne 11 8 dX5_fit_5 (by decide) rfl (fun c5 => ?_) (fun c5 => ?_)
  · rw [b2i_n] at c5
    refine X_iconst 0 12 dX5_fit_11 (by decide) rfl ?_
    refine X_istnN 13 dX5_fit_12 rfl rfl rfl rfl ?_
    refine X_iconst 0 14 dX5_fit_13 (by decide) rfl ?_
    refine X_istnN 15 dX5_fit_14 rfl rfl rfl rfl ?_
    exact loop c5 25 0 rfl []
  · rw [b2i_0] at c5
    refine X_bipush (-2) 10 dX5_fit_8 (by decide) rfl ?_
    refine X_iret dX5_fit_10 rfl ?_
    refine Qi h ?_
    rw [g_fit, if_pos c5]
theorem S_X5_baths {x y : Int32} (hm : vMm σ) (h : Q (some (.int (g_baths σ x y))) σ) : xg_C (d + 3) mX5_baths [.ref 36, .int x, .int y] σ Q := by
  refine xg_C_of py_X5_baths (Nat.le_of_ble_eq_true rfl) ?_
  show xg_X none (d + 3) mX5_baths 0 [(0, .ref 36), (1, .int x), (2, .int y)] [] σ Q
  obtain ⟨hm1, hm2⟩ := hm
  have loop : inB x 0 4095 = true → inB y 0 1 = true → ∀ j s, s + j = 4096 → ∀ lx, xg_X none (d + 3) mX5_baths 28 (lx ++ [(4, .int (nI s)), (3, .int (bhM σ x s)), (0, .ref 36), (1, .int x), (2, .int y)]) [] σ Q := by
    intro hx hy j
    induction j with
    | zero =>
      intro s hs lx
      obtain rfl : s = 4096 := by omega
      refine xg_sub (lw := [(4, .int (nI 4096)), (3, .int (bhM σ x 4096)), (0, .ref 36), (1, .int x), (2, .int y)]) (fun q hq => List.mem_append_right _ hq) ?_
      generalize eb : bhM σ x 4096 = b at *
      refine X_ild0 30 dX5_baths_28 rfl ?_
      refine X_sipush 4096 33 dX5_baths_30 (by decide) rfl ?_
      refine X_icge 208 36 dX5_baths_33 (by decide) rfl (fun c33 => ?_) (fun c33 => ?_)
      · refine X_ildn1 209 dX5_baths_208 rfl rfl ?_
        refine X_iconst (-1) 210 dX5_baths_209 (by decide) rfl ?_
        refine X_iceq 218 213 dX5_baths_210 (by decide) rfl (fun c210 => ?_) (fun c210 => ?_)
        · refine X_ildn1 219 dX5_baths_218 rfl rfl ?_
          refine X_goto 226 dX5_baths_219 (by decide) ?_
          refine X_iret dX5_baths_226 rfl ?_
          refine Qi h ?_
          rw [g_baths, eb]
          grind
        · refine X_ildn4 214 dX5_baths_213 rfl rfl ?_
          refine X_iconst 1 215 dX5_baths_214 (by decide) rfl ?_
          refine X_icne 222 218 dX5_baths_215 (by decide) rfl (fun c215 => ?_) (fun c215 => ?_)
          · refine X_ildn1 223 dX5_baths_222 rfl rfl ?_
            refine X_callS1 226 dX5_baths_223 cw_X5_281 zk_X5_bits rfl rfl (S_X5_bits ?_)
            refine X_pu ?_
            refine X_iret dX5_baths_226 rfl ?_
            refine Qi h ?_
            rw [g_baths, eb]
            grind
          · refine X_ildn1 219 dX5_baths_218 rfl rfl ?_
            refine X_goto 226 dX5_baths_219 (by decide) ?_
            refine X_iret dX5_baths_226 rfl ?_
            refine Qi h ?_
            rw [g_baths, eb]
            grind
      · exact absurd (by decide) c33
    | succ j ih =>
      intro s hs lx
      refine xg_sub (lw := [(4, .int (nI s)), (3, .int (bhM σ x s)), (0, .ref 36), (1, .int x), (2, .int y)]) (fun q hq => List.mem_append_right _ hq) ?_
      have fin : ∀ z a w, w = b2i (bkS σ x s (bhM σ x s) 12).1 → xg_X none (d + 3) mX5_baths 190 [(7, .int z), (6, .int a), (5, .int w), (4, .int (nI s)), (3, .int (bhM σ x s)), (0, .ref 36), (1, .int x), (2, .int y)] [] σ Q := by
        intro z a w ew
        have nxt := ih (s + 1) (by omega) [(7, .int z), (6, .int a), (5, .int w)]
        rw [bhM, nI_succ] at nxt
        refine X_ild2 192 dX5_baths_190 rfl ?_
        refine X_ifeq 200 195 dX5_baths_192 (by decide) rfl (fun c192 => ?_) (fun c192 => ?_)
        · rw [ew, b2i_0] at c192
          refine X_ildn4 201 dX5_baths_200 rfl rfl ?_
          refine X_istn4 202 dX5_baths_201 rfl rfl rfl rfl ?_
          refine X_inc3 1 205 dX5_baths_202 (by decide) rfl rfl rfl ?_
          refine X_goto 28 dX5_baths_205 (by decide) ?_
          rw [if_neg (by rw [c192]; decide)] at nxt
          exact nxt
        · rw [ew, b2i_n] at c192
          refine X_ild3 197 dX5_baths_195 rfl ?_
          refine X_goto 201 dX5_baths_197 (by decide) ?_
          refine X_istn4 202 dX5_baths_201 rfl rfl rfl rfl ?_
          refine X_inc3 1 205 dX5_baths_202 (by decide) rfl rfl rfl ?_
          refine X_goto 28 dX5_baths_205 (by decide) ?_
          rw [if_pos c192] at nxt
          exact nxt
      have kl : ∀ m k, k + m = 12 → ∀ w a, w = b2i (bkS σ x s (bhM σ x s) k).1 → a = (bkS σ x s (bhM σ x s) k).2 → xg_X none (d + 3) mX5_baths 127 [(7, .int (nI k)), (6, .int a), (5, .int w), (4, .int (nI s)), (3, .int (bhM σ x s)), (0, .ref 36), (1, .int x), (2, .int y)] [] σ Q := by
        intro m
        induction m with
        | zero =>
          intro k hk w a ew ea
          obtain rfl : k = 12 := by omega
          refine X_ild0 129 dX5_baths_127 rfl ?_
          refine X_bipush 12 131 dX5_baths_129 (by decide) rfl ?_
          refine X_icge 190 134 dX5_baths_131 (by decide) rfl (fun c131 => ?_) (fun c131 => ?_)
          · exact fin _ _ w ew
          · exact absurd (by decide) c131
        | succ m ih2 =>
          intro k hk w a ew ea
          have hS : (bkS σ x s (bhM σ x s) k).1 = true → bkS σ x s (bhM σ x s) (k + 1) = (!hb x (nI k) || decide (hbM σ a = 0), if hb (nI s) (nI k) then 1 else a + 1) := by
            intro q
            rw [bkS, if_pos q, ea]
          refine X_ild0 129 dX5_baths_127 rfl ?_
          refine X_bipush 12 131 dX5_baths_129 (by decide) rfl ?_
          refine X_icge 190 134 dX5_baths_131 (by decide) rfl (fun c131 => ?_) (fun c131 => ?_)
          · have c131 := leq c131 (n := 12) (by decide) (by decide) (by omega)
            omega
          · refine X_ild2 136 dX5_baths_134 rfl ?_
            refine X_ifeq 190 139 dX5_baths_136 (by decide) rfl (fun c136 => ?_) (fun c136 => ?_)
            · rw [ew, b2i_0] at c136
              refine fin _ _ w ?_
              have := bkS_no c136 (12 - k)
              rw [show k + (12 - k) = 12 by omega] at this
              rw [ew, c136, this]
            · rw [ew, b2i_n] at c136
              refine X_ildn6 140 dX5_baths_139 rfl rfl ?_
              refine X_ild0 142 dX5_baths_140 rfl ?_
              refine X_callS2 145 dX5_baths_142 cw_X5_177 zk_X5_has rfl rfl (S_X5_has ?_)
              refine X_pu ?_
              refine X_ifeq 157 148 dX5_baths_145 (by decide) rfl (fun c145 => ?_) (fun c145 => ?_)
              · refine X_iconst 1 158 dX5_baths_157 (by decide) rfl ?_
                refine X_goto 162 dX5_baths_158 (by decide) ?_
                refine X_ist2 164 dX5_baths_162 rfl rfl rfl ?_
                refine X_ild3 166 dX5_baths_164 rfl ?_
                refine X_ild0 168 dX5_baths_166 rfl ?_
                refine X_callS2 171 dX5_baths_168 cw_X5_177 zk_X5_has rfl rfl (S_X5_has ?_)
                refine X_pu ?_
                refine X_ifeq 178 174 dX5_baths_171 (by decide) rfl (fun c171 => ?_) (fun c171 => ?_)
                · refine X_ild1 180 dX5_baths_178 rfl ?_
                  refine X_iconst 1 181 dX5_baths_180 (by decide) rfl ?_
                  refine X_iadd 182 dX5_baths_181 rfl ?_
                  refine X_ist1 184 dX5_baths_182 rfl rfl rfl ?_
                  refine X_inc0 1 187 dX5_baths_184 (by decide) rfl rfl rfl ?_
                  refine X_goto 127 dX5_baths_187 (by decide) ?_
                  refine xg_lv (by rw [nI_succ]) (ih2 (k + 1) (by omega) _ _ ?_ ?_)
                  · rw [hS c136]
                    grind [b2i]
                  · rw [hS c136]
                    grind [b2i]
                · refine X_iconst 1 175 dX5_baths_174 (by decide) rfl ?_
                  refine X_goto 182 dX5_baths_175 (by decide) ?_
                  refine X_ist1 184 dX5_baths_182 rfl rfl rfl ?_
                  refine X_inc0 1 187 dX5_baths_184 (by decide) rfl rfl rfl ?_
                  refine X_goto 127 dX5_baths_187 (by decide) ?_
                  refine xg_lv (by rw [nI_succ]) (ih2 (k + 1) (by omega) _ _ ?_ ?_)
                  · rw [hS c136]
                    grind [b2i]
                  · rw [hS c136]
                    grind [b2i]
              · refine X_aldn5 149 dX5_baths_148 rfl rfl ?_
                refine X_ild1 151 dX5_baths_149 rfl ?_
                refine X_callV1 5 154 dX5_baths_151 cw_X5_211 zk_X5_handBehind ⟨rfl, rfl⟩ rfl rfl rfl (S_X5_handBehind ?_)
                refine X_pu ?_
                refine X_ifne 161 157 dX5_baths_154 (by decide) rfl (fun c154 => ?_) (fun c154 => ?_)
                · refine X_iconst 0 162 dX5_baths_161 (by decide) rfl ?_
                  refine X_ist2 164 dX5_baths_162 rfl rfl rfl ?_
                  refine X_ild3 166 dX5_baths_164 rfl ?_
                  refine X_ild0 168 dX5_baths_166 rfl ?_
                  refine X_callS2 171 dX5_baths_168 cw_X5_177 zk_X5_has rfl rfl (S_X5_has ?_)
                  refine X_pu ?_
                  refine X_ifeq 178 174 dX5_baths_171 (by decide) rfl (fun c171 => ?_) (fun c171 => ?_)
                  · refine X_ild1 180 dX5_baths_178 rfl ?_
                    refine X_iconst 1 181 dX5_baths_180 (by decide) rfl ?_
                    refine X_iadd 182 dX5_baths_181 rfl ?_
                    refine X_ist1 184 dX5_baths_182 rfl rfl rfl ?_
                    refine X_inc0 1 187 dX5_baths_184 (by decide) rfl rfl rfl ?_
                    refine X_goto 127 dX5_baths_187 (by decide) ?_
                    refine xg_lv (by rw [nI_succ]) (ih2 (k + 1) (by omega) _ _ ?_ ?_)
                    · rw [hS c136]
                      grind [b2i]
                    · rw [hS c136]
                      grind [b2i]
                  · refine X_iconst 1 175 dX5_baths_174 (by decide) rfl ?_
                    refine X_goto 182 dX5_baths_175 (by decide) ?_
                    refine X_ist1 184 dX5_baths_182 rfl rfl rfl ?_
                    refine X_inc0 1 187 dX5_baths_184 (by decide) rfl rfl rfl ?_
                    refine X_goto 127 dX5_baths_187 (by decide) ?_
                    refine xg_lv (by rw [nI_succ]) (ih2 (k + 1) (by omega) _ _ ?_ ?_)
                    · rw [hS c136]
                      grind [b2i]
                    · rw [hS c136]
                      grind [b2i]
                · refine X_iconst 1 158 dX5_baths_157 (by decide) rfl ?_
                  refine X_goto 162 dX5_baths_158 (by decide) ?_
                  refine X_ist2 164 dX5_baths_162 rfl rfl rfl ?_
                  refine X_ild3 166 dX5_baths_164 rfl ?_
                  refine X_ild0 168 dX5_baths_166 rfl ?_
                  refine X_callS2 171 dX5_baths_168 cw_X5_177 zk_X5_has rfl rfl (S_X5_has ?_)
                  refine X_pu ?_
                  refine X_ifeq 178 174 dX5_baths_171 (by decide) rfl (fun c171 => ?_) (fun c171 => ?_)
                  · refine X_ild1 180 dX5_baths_178 rfl ?_
                    refine X_iconst 1 181 dX5_baths_180 (by decide) rfl ?_
                    refine X_iadd 182 dX5_baths_181 rfl ?_
                    refine X_ist1 184 dX5_baths_182 rfl rfl rfl ?_
                    refine X_inc0 1 187 dX5_baths_184 (by decide) rfl rfl rfl ?_
                    refine X_goto 127 dX5_baths_187 (by decide) ?_
                    refine xg_lv (by rw [nI_succ]) (ih2 (k + 1) (by omega) _ _ ?_ ?_)
                    · rw [hS c136]
                      grind [b2i]
                    · rw [hS c136]
                      grind [b2i]
                  · refine X_iconst 1 175 dX5_baths_174 (by decide) rfl ?_
                    refine X_goto 182 dX5_baths_175 (by decide) ?_
                    refine X_ist1 184 dX5_baths_182 rfl rfl rfl ?_
                    refine X_inc0 1 187 dX5_baths_184 (by decide) rfl rfl rfl ?_
                    refine X_goto 127 dX5_baths_187 (by decide) ?_
                    refine xg_lv (by rw [nI_succ]) (ih2 (k + 1) (by omega) _ _ ?_ ?_)
                    · rw [hS c136]
                      grind [b2i]
                    · rw [hS c136]
                      grind [b2i]
      have al : ∀ w, w = b2i (bkS σ x s (bhM σ x s) 0).1 → ∀ m b, b + m = miM σ → xg_X none (d + 3) mX5_baths 74 [(7, .int (nI b)), (6, .int (agoR (σ.1 41 11) (σ.1 41 10) b)), (5, .int w), (4, .int (nI s)), (3, .int (bhM σ x s)), (0, .ref 36), (1, .int x), (2, .int y)] [] σ Q := by
        intro w ew m
        induction m with
        | zero =>
          intro b hb
          obtain rfl : b = miM σ := by omega
          refine X_ild0 76 dX5_baths_74 rfl ?_
          refine X_aldn5 77 dX5_baths_76 rfl rfl ?_
          refine X_getA 41 80 dX5_baths_77 fl_X5_32 rfl rfl ?_
          refine X_bipush 10 82 dX5_baths_80 (by decide) rfl ?_
          refine X_ialk 10 83 dX5_baths_82 rfl rfl (by decide) (by decide) ?_
          refine X_icge 124 86 dX5_baths_83 (by decide) rfl (fun c83 => ?_) (fun c83 => ?_)
          · refine X_iconst 0 125 dX5_baths_124 (by decide) rfl ?_
            refine X_ist0 127 dX5_baths_125 rfl rfl rfl ?_
            exact kl 12 0 rfl _ _ ew rfl
          · exact absurd (by rw [hm1]; exact nI_le (Nat.le_refl _) (by omega)) c83
        | succ m ih2 =>
          intro b hb
          refine X_ild0 76 dX5_baths_74 rfl ?_
          refine X_aldn5 77 dX5_baths_76 rfl rfl ?_
          refine X_getA 41 80 dX5_baths_77 fl_X5_32 rfl rfl ?_
          refine X_bipush 10 82 dX5_baths_80 (by decide) rfl ?_
          refine X_ialk 10 83 dX5_baths_82 rfl rfl (by decide) (by decide) ?_
          refine X_icge 124 86 dX5_baths_83 (by decide) rfl (fun c83 => ?_) (fun c83 => ?_)
          · have c83 := leq c83 hm1 (by omega) (by omega)
            omega
          · refine X_aldn5 87 dX5_baths_86 rfl rfl ?_
            refine X_getA 41 90 dX5_baths_87 fl_X5_32 rfl rfl ?_
            refine X_bipush 11 92 dX5_baths_90 (by decide) rfl ?_
            refine X_ialk 11 93 dX5_baths_92 rfl rfl (by decide) (by decide) ?_
            refine X_ild0 95 dX5_baths_93 rfl ?_
            refine X_callS2 98 dX5_baths_95 cw_X5_177 zk_X5_has rfl rfl (S_X5_has ?_)
            refine X_pu ?_
            refine X_ifeq 114 101 dX5_baths_98 (by decide) rfl (fun c98 => ?_) (fun c98 => ?_)
            · rw [b2i_0] at c98
              refine X_ild1 116 dX5_baths_114 rfl ?_
              refine X_ist1 118 dX5_baths_116 rfl rfl rfl ?_
              refine X_inc0 1 121 dX5_baths_118 (by decide) rfl rfl rfl ?_
              refine X_goto 74 dX5_baths_121 (by decide) ?_
              refine xg_lv ?_ (ih2 (b + 1) (by omega))
              rw [nI_succ, agoR, if_neg (fun q => by rw [q.1] at c98; exact absurd c98 (by decide))]
            · rw [b2i_n] at c98
              refine X_aldn5 102 dX5_baths_101 rfl rfl ?_
              refine X_getA 41 105 dX5_baths_102 fl_X5_32 rfl rfl ?_
              refine X_bipush 10 107 dX5_baths_105 (by decide) rfl ?_
              refine X_ialk 10 108 dX5_baths_107 rfl rfl (by decide) (by decide) ?_
              refine X_ild0 110 dX5_baths_108 rfl ?_
              refine X_isub 111 dX5_baths_110 rfl ?_
              refine X_goto 116 dX5_baths_111 (by decide) ?_
              refine X_ist1 118 dX5_baths_116 rfl rfl rfl ?_
              refine X_inc0 1 121 dX5_baths_118 (by decide) rfl rfl rfl ?_
              refine X_goto 74 dX5_baths_121 (by decide) ?_
              refine xg_lv ?_ (ih2 (b + 1) (by omega))
              rw [nI_succ, agoR, if_pos ⟨c98, by rw [i_nle] at c83; exact c83⟩]
      refine X_ild0 30 dX5_baths_28 rfl ?_
      refine X_sipush 4096 33 dX5_baths_30 (by decide) rfl ?_
      refine X_icge 208 36 dX5_baths_33 (by decide) rfl (fun c33 => ?_) (fun c33 => ?_)
      · have c33 := leq c33 (n := 4096) (by decide) (by decide) (by omega)
        omega
      · refine X_ild0 38 dX5_baths_36 rfl ?_
        refine X_ildn3 39 dX5_baths_38 rfl rfl ?_
        refine X_iand 40 dX5_baths_39 rfl ?_
        refine X_ifne 64 43 dX5_baths_40 (by decide) rfl (fun c40 => ?_) (fun c40 => ?_)
        · refine X_iconst 0 65 dX5_baths_64 (by decide) rfl ?_
          refine X_istN 67 dX5_baths_65 rfl rfl rfl ?_
          refine X_bipush 99 69 dX5_baths_67 (by decide) rfl ?_
          refine X_istN 71 dX5_baths_69 rfl rfl rfl ?_
          refine X_iconst 0 72 dX5_baths_71 (by decide) rfl ?_
          refine X_istN 74 dX5_baths_72 rfl rfl rfl ?_
          refine al _ ?_ (miM σ) 0 (by omega)
          (try simp only [i_nlt, i_nle] at *)
          grind [b2i, bkS]
        · refine X_ildn1 44 dX5_baths_43 rfl rfl ?_
          refine X_iconst (-1) 45 dX5_baths_44 (by decide) rfl ?_
          refine X_iceq 60 48 dX5_baths_45 (by decide) rfl (fun c45 => ?_) (fun c45 => ?_)
          · refine X_iconst 1 61 dX5_baths_60 (by decide) rfl ?_
            refine X_goto 65 dX5_baths_61 (by decide) ?_
            refine X_istN 67 dX5_baths_65 rfl rfl rfl ?_
            refine X_bipush 99 69 dX5_baths_67 (by decide) rfl ?_
            refine X_istN 71 dX5_baths_69 rfl rfl rfl ?_
            refine X_iconst 0 72 dX5_baths_71 (by decide) rfl ?_
            refine X_istN 74 dX5_baths_72 rfl rfl rfl ?_
            refine al _ ?_ (miM σ) 0 (by omega)
            (try simp only [i_nlt, i_nle] at *)
            grind [b2i, bkS]
          · refine X_ild0 50 dX5_baths_48 rfl ?_
            refine X_callS1 53 dX5_baths_50 cw_X5_281 zk_X5_bits rfl rfl (S_X5_bits ?_)
            refine X_pu ?_
            refine X_ildn1 54 dX5_baths_53 rfl rfl ?_
            refine X_callS1 57 dX5_baths_54 cw_X5_281 zk_X5_bits rfl rfl (S_X5_bits ?_)
            refine X_pu ?_
            refine X_icge 64 60 dX5_baths_57 (by decide) rfl (fun c57 => ?_) (fun c57 => ?_)
            · refine X_iconst 0 65 dX5_baths_64 (by decide) rfl ?_
              refine X_istN 67 dX5_baths_65 rfl rfl rfl ?_
              refine X_bipush 99 69 dX5_baths_67 (by decide) rfl ?_
              refine X_istN 71 dX5_baths_69 rfl rfl rfl ?_
              refine X_iconst 0 72 dX5_baths_71 (by decide) rfl ?_
              refine X_istN 74 dX5_baths_72 rfl rfl rfl ?_
              refine al _ ?_ (miM σ) 0 (by omega)
              (try simp only [i_nlt, i_nle] at *)
              grind [b2i, bkS]
            · refine X_iconst 1 61 dX5_baths_60 (by decide) rfl ?_
              refine X_goto 65 dX5_baths_61 (by decide) ?_
              refine X_istN 67 dX5_baths_65 rfl rfl rfl ?_
              refine X_bipush 99 69 dX5_baths_67 (by decide) rfl ?_
              refine X_istN 71 dX5_baths_69 rfl rfl rfl ?_
              refine X_iconst 0 72 dX5_baths_71 (by decide) rfl ?_
              refine X_istN 74 dX5_baths_72 rfl rfl rfl ?_
              refine al _ ?_ (miM σ) 0 (by omega)
              (try simp only [i_nlt, i_nle] at *)
              grind [b2i, bkS]
  refine X_ildn1 1 dX5_baths_0 rfl rfl ?_
  refine X_iconst 0 2 dX5_baths_1 (by decide) rfl ?_
  refine X_sipush 4095 5 dX5_baths_2 (by decide) rfl ?_
  refine X_callS3 8 dX5_baths_5 cw_X5_87 zk_X5_in rfl rfl (S_X5_in ?_)
  refine X_pu ?_
  refine X_ifeq 20 11 dX5_baths_8 (by decide) rfl (fun c8 => ?_) (fun c8 => ?_)
  · refine X_bipush (-3) 22 dX5_baths_20 (by decide) rfl ?_
    refine X_iret dX5_baths_22 rfl ?_
    refine Qi h ?_
    grind [g_baths, b2i]
  · refine X_ildn2 12 dX5_baths_11 rfl rfl ?_
    refine X_iconst 0 13 dX5_baths_12 (by decide) rfl ?_
    refine X_iconst 1 14 dX5_baths_13 (by decide) rfl ?_
    refine X_callS3 17 dX5_baths_14 cw_X5_87 zk_X5_in rfl rfl (S_X5_in ?_)
    refine X_pu ?_
    refine X_ifne 23 20 dX5_baths_17 (by decide) rfl (fun c17 => ?_) (fun c17 => ?_)
    · refine X_iconst (-1) 24 dX5_baths_23 (by decide) rfl ?_
      refine X_istnN 25 dX5_baths_24 rfl rfl rfl rfl ?_
      refine X_iconst 0 26 dX5_baths_25 (by decide) rfl ?_
      refine X_istN 28 dX5_baths_26 rfl rfl rfl ?_
      exact loop (by grind [b2i]) (by grind [b2i]) 4096 0 rfl []
    · refine X_bipush (-3) 22 dX5_baths_20 (by decide) rfl ?_
      refine X_iret dX5_baths_22 rfl ?_
      refine Qi h ?_
      grind [g_baths, b2i]
end REF6
