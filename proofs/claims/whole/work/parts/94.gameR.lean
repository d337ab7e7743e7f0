/-! ===== a game: pure ===== -/
def gbI (b : Bool) : Int32 := match b with
  | true => nI 1
  | false => nI 0
def gm_b (b : Bool) (X v : Nat) : Bool := match b with
  | true => decide (X < v)
  | false => decide (v < X)
def gm_f (b : Bool) (g : Nat → Nat) : Nat → Nat
  | 0 => 0
  | 1 => g 0
  | a + 2 => if gm_b b (gm_f b g (a + 1)) (g (a + 1)) = true then g (a + 1) else gm_f b g (a + 1)
def gm_c (b : Bool) (g : Nat → Nat) : Nat → Nat
  | 0 => 0
  | 1 => 0
  | a + 2 => if gm_b b (gm_f b g (a + 1)) (g (a + 1)) = true then a + 1 else gm_c b g (a + 1)
theorem gm_y {b : Bool} {g : Nat → Nat} {a : Nat} (h : gm_b b (gm_f b g (a + 1)) (g (a + 1)) = true) : gm_f b g (a + 2) = g (a + 1) ∧ gm_c b g (a + 2) = a + 1 := ⟨if_pos h, if_pos h⟩
theorem gm_n {b : Bool} {g : Nat → Nat} {a : Nat} (h : ¬ gm_b b (gm_f b g (a + 1)) (g (a + 1)) = true) : gm_f b g (a + 2) = gm_f b g (a + 1) ∧ gm_c b g (a + 2) = gm_c b g (a + 1) := ⟨if_neg h, if_neg h⟩
theorem gm_t {X v : Nat} : gm_b true X v = true ↔ X < v := by unfold gm_b; exact decide_eq_true_iff
theorem gm_u {X v : Nat} : gm_b false X v = true ↔ v < X := by unfold gm_b; exact decide_eq_true_iff
theorem gm_le {b : Bool} {g : Nat → Nat} {B : Nat} : ∀ n, (∀ x, x ≤ n → g x ≤ B) → gm_f b g (n + 1) ≤ B
  | 0, h => h 0 (by omega)
  | n + 1, h => by
    by_cases e : gm_b b (gm_f b g (n + 1)) (g (n + 1)) = true
    · rw [(gm_y e).1]; exact h (n + 1) (by omega)
    · rw [(gm_n e).1]; exact gm_le n (fun x hx => h x (by omega))
theorem gm_g0 {b : Bool} {g : Nat → Nat} : ∀ n, ¬ gm_b b (gm_f b g (n + 1)) (g 0) = true
  | 0 => by cases b; (rw [gm_u]; exact Nat.lt_irrefl _); (rw [gm_t]; exact Nat.lt_irrefl _)
  | n + 1 => by
    have ih := gm_g0 (b := b) (g := g) n
    by_cases e : gm_b b (gm_f b g (n + 1)) (g (n + 1)) = true
    · rw [(gm_y e).1]
      cases b
      · rw [gm_u] at *; omega
      · rw [gm_t] at *; omega
    · rw [(gm_n e).1]; exact ih
theorem gm_i {b : Bool} {g : Nat → Nat} {a : Nat} (h : g (a + 1) = g 0) : gm_f b g (a + 2) = gm_f b g (a + 1) ∧ gm_c b g (a + 2) = gm_c b g (a + 1) := gm_n (by rw [h]; exact gm_g0 a)
theorem gm_cs {g : Nat → Nat} : ∀ n, gm_c true g (n + 1) ≤ n ∧ g (gm_c true g (n + 1)) = gm_f true g (n + 1) ∧ (∀ x, x ≤ n → g x ≤ gm_f true g (n + 1)) ∧ ∀ x, x < gm_c true g (n + 1) → g x < gm_f true g (n + 1)
  | 0 => ⟨Nat.le_refl _, rfl, fun x hx => by rw [show x = 0 by omega]; exact Nat.le_refl _, fun x hx => absurd hx (Nat.not_lt_zero x)⟩
  | n + 1 => by
    obtain ⟨i1_h, i2_h, i3_h, i4_h⟩ := gm_cs (g := g) n
    by_cases e : gm_b true (gm_f true g (n + 1)) (g (n + 1)) = true
    · rw [(gm_y e).1, (gm_y e).2]
      rw [gm_t] at e
      refine ⟨Nat.le_refl _, rfl, fun x hx => ?_, fun x hx => ?_⟩
      · by_cases ex : x = n + 1
        · rw [ex]; exact Nat.le_refl _
        · have := i3_h x (by omega); omega
      · have := i3_h x (by omega); omega
    · rw [(gm_n e).1, (gm_n e).2]
      rw [gm_t] at e
      refine ⟨by omega, i2_h, fun x hx => ?_, i4_h⟩
      by_cases ex : x = n + 1
      · rw [ex]; omega
      · exact i3_h x (by omega)
theorem gm_first {g : Nat → Nat} {n a : Nat} (ha : g a = gm_f true g (n + 1)) (hn : ∀ x, x < a → g x ≠ gm_f true g (n + 1)) : gm_c true g (n + 1) = a := by
  obtain ⟨i1_h, i2_h, i3_h, i4_h⟩ := gm_cs (g := g) n
  rcases Nat.lt_trichotomy (gm_c true g (n + 1)) a with h | h | h
  · exact absurd i2_h (hn _ h)
  · exact h
  · have := i4_h a h; omega
/-- what comes yet of a game of m turns -/
def sg_gv (w : sg_R) (c : Nat) : Nat → Bool → (Nat → Nat) → Nat
  | 0, _, _ => 0
  | m + 1, b, σ => gm_f b (fun a => (sg_goes w σ (sg_ot a)).2 + sg_gv w c m (!b) (sg_goes w σ (sg_ot a)).1) (c + 1)
def sg_gg (w : sg_R) (c m : Nat) (b : Bool) (σ : Nat → Nat) (a : Nat) : Nat := (sg_goes w σ (sg_ot a)).2 + sg_gv w c m (!b) (sg_goes w σ (sg_ot a)).1
theorem sg_gv_s {w : sg_R} {c m : Nat} {b : Bool} {σ : Nat → Nat} : sg_gv w c (m + 1) b σ = gm_f b (sg_gg w c m b σ) (c + 1) := rfl
theorem sg_gv_le {w : sg_R} {c : Nat} (hc : c ≤ 6) : ∀ (m : Nat) (b : Bool) (σ : Nat → Nat), sg_ok σ → m ≤ σ 0 - σ 1 → sg_gv w c m b σ ≤ 19 * m
  | 0, _, _, _, _ => Nat.le_refl 0
  | m + 1, b, σ, o, h => by
    have o16_h := o.2.1
    rw [sg_gv_s]
    refine gm_le c (fun x hx => ?_)
    have t6_h : ∀ h, sg_ot x = some h → h < 6 := fun h e => by have := sg_ot_lt hx h e; omega
    have h1_h := sg_goes_le (w := w) o t6_h
    have h2_h := sg_gv_le (w := w) hc m (!b) (sg_goes w σ (sg_ot x)).1 (o.goes t6_h (by omega)) (by rw [sg_goes_1, sg_goes_o (by omega) (by omega)]; omega)
    unfold sg_gg
    omega
def kf_game (K : sg_K) (n : Int32) : Int32 := if nI 1 ≤ n ∧ n ≤ nI 4 then nI (sg_gv K.2.1 (K.1 4) (sg_ys K.1 (tN n)) true K.1) else -1
def kf_play (K : sg_K) (n : Int32) : Int32 := if nI 1 ≤ n ∧ n ≤ nI 4 then (if K.1 0 ≤ K.1 1 then -3 else nI (gm_c true (sg_gg K.2.1 (K.1 4) (sg_ys K.1 (tN n) - 1) true K.1) (K.1 4 + 1))) else -1
theorem sg_ys_p {w : sg_R} {σ : Nat → Nat} {L : Nat} (hy : σ 1 < σ 0) (t : Option Nat) : sg_ys σ (L + 1) = sg_ys (sg_goes w σ t).1 L + 1 := by
  unfold sg_ys
  rw [sg_goes_1, sg_goes_o (by omega) (by omega)]
  omega
/-! ===== a game in the reference ===== -/
def rGo (n q k : Nat) : Prop := q = 109 ∨ (q = 110 ∧ k < 621 * n)
theorem rGo_N {n : Nat} {M M' : dk_Mem} (h : dk_fr (rGo n) M M') : dk_fr rN M M' := h.up (fun q k z => by unfold rGo at z; unfold rN; omega)
theorem rGo_r {n : Nat} {σ : Nat → Nat} {M M' : dk_Mem} (hr : rr σ M) (h : dk_fr (rGo n) M M') : rr σ M' := hr.N (rGo_N h)
theorem rGo_T {n : Nat} {f : Nat → Int32} {M M' : dk_Mem} (hr : rT f M) (h : dk_fr (rGo n) M M') : rT f M' := hr.N (rGo_N h)
theorem q_t621 : ∀ L, L < 4 → nI 621 * (nI (L + 1) - nI 1) = nI (621 * L) := by decide +kernel
def r_GP (w : sg_R) (nr : Nat) (f : Nat → Int32) (b : Bool) (left D : Nat) : Prop := ∀ (σ : Nat → Nat) (M : dk_Mem) (Q : Option Value → dk_Mem → Prop), sg_ok σ → σ 6 = nr → rr σ M → rT f M → (∀ M2, dk_fr (rGo left) M M2 → Q (some (.int (nI (sg_gv w (σ 4) (sg_ys σ left) b σ)))) M2) → dk_Call D mX12_gameOn [.ref 104, .int (nI left), .int (gbI b)] M Q

set_option maxRecDepth 20000 in
theorem r_gcL {d : Nat} {M : dk_Mem} {Q : Option Value → dk_Mem → Prop} {L : Nat} (hL : L < 4) {x2_h : Int32} {x4_h x5_h x6_h x7_h : Option Value} (hx : ∀ M1, dk_fr (fun q k => q = 110 ∧ 621 * L ≤ k ∧ k < 621 * (L + 1)) M M1 → (∀ k, k < 621 → M1.1 110 (621 * L + k) = M.1 105 k) → dk_W d mX12_gameOn 48 [some (.ref 104), some (.int (nI (L + 1))), some (.int x2_h), some (.int (nI 621)), x4_h, x5_h, x6_h, x7_h] [] M1 Q) : ∀ (n k : Nat) (M1 : dk_Mem), k ≤ 621 → 621 - k < n → dk_fr (fun q k => q = 110 ∧ 621 * L ≤ k ∧ k < 621 * (L + 1)) M M1 → (∀ j, j < k → M1.1 110 (621 * L + j) = M.1 105 j) → dk_W d mX12_gameOn 15 [some (.ref 104), some (.int (nI (L + 1))), some (.int x2_h), some (.int (nI k)), x4_h, x5_h, x6_h, x7_h] [] M1 Q := by
  intro n
  induction n with
  | zero => intro k M1 _ h; omega
  | succ n ih =>
    intro k M1 hk hn hf hi
    refine w_il3 (n := 16) dX12_gameOn_15 rfl ?_
    refine w_sipush (n := 19) (nI 621) dX12_gameOn_16 (by decide) rfl ?_
    refine w_ic_ge (n := 22) 48 dX12_gameOn_19 (by decide) rfl (fun z19_h => ?_) (fun z19_h => ?_)
    · skip
      rw [q_le (by decide) (by omega)] at z19_h
      have e : k = 621 := by omega
      subst e
      exact hx M1 hf hi
    · skip
      have hk6_h : k < 621 := by rw [q_le (by decide) (by omega)] at z19_h; omega
      refine w_al0 (n := 23) dX12_gameOn_22 rfl ?_
      refine g_R (n := 26) f_X12_26_12 pl_104 rf_104_18 dX12_gameOn_23 rfl ?_
      refine w_sipush (n := 29) (nI 621) dX12_gameOn_26 (by decide) rfl ?_
      refine w_il1 (n := 30) dX12_gameOn_29 rfl ?_
      refine w_iconst (n := 31) (nI 1) dX12_gameOn_30 (by decide) rfl ?_
      refine w_isub (n := 32) dX12_gameOn_31 rfl ?_
      refine w_imul (n := 33) dX12_gameOn_32 rfl ?_
      rw [q_t621 L hL]
      refine w_il3 (n := 34) dX12_gameOn_33 rfl ?_
      refine w_iadd (n := 35) dX12_gameOn_34 rfl ?_
      refine w_al0 (n := 36) dX12_gameOn_35 rfl ?_
      refine g_R (n := 39) f_X12_9_12 pl_104 rf_104_0 dX12_gameOn_36 rfl ?_
      refine w_il3 (n := 40) dX12_gameOn_39 rfl ?_
      refine i_iald (n := 41) pl_105 (j := k) rfl (by omega) (by decide) rfl dX12_gameOn_40 rfl ?_
      refine i_iast (n := 42) pl_110 (j := 621 * L + k) (by rw [nI_add]) (by omega) (by decide) dX12_gameOn_41 rfl ?_
      refine w_inc3 (n := 45) (nI 1) dX12_gameOn_42 (by decide) rfl rfl (by decide) ?_
      refine w_goto 15 dX12_gameOn_45 (by decide) ?_
      rw [nI_add]
      refine ih (k + 1) _ (by omega) (by omega) (hf.put (by omega)) (fun j hj => ?_)
      by_cases e : j = k
      · subst e
        rw [dk_put_s]
        exact hf.2 105 j (by omega)
      · rw [dk_put_k (by omega)]
        exact hi j (by omega)

set_option maxRecDepth 20000 in
theorem r_grL {d : Nat} {M : dk_Mem} {Q : Option Value → dk_Mem → Prop} {L : Nat} (hL : L < 4) {x2_h x3_h x6_h : Int32} {x4_h x5_h : Option Value} (hx : ∀ M1, dk_fr (fun q k => q = 105 ∧ k < 621) M M1 → (∀ k, k < 621 → M1.1 105 k = M.1 110 (621 * L + k)) → dk_W d mX12_gameOn 138 [some (.ref 104), some (.int (nI (L + 1))), some (.int x2_h), some (.int x3_h), x4_h, x5_h, some (.int x6_h), some (.int (nI 621))] [] M1 Q) : ∀ (n k : Nat) (M1 : dk_Mem), k ≤ 621 → 621 - k < n → dk_fr (fun q k => q = 105 ∧ k < 621) M M1 → (∀ j, j < k → M1.1 105 j = M.1 110 (621 * L + j)) → dk_W d mX12_gameOn 102 [some (.ref 104), some (.int (nI (L + 1))), some (.int x2_h), some (.int x3_h), x4_h, x5_h, some (.int x6_h), some (.int (nI k))] [] M1 Q := by
  intro n
  induction n with
  | zero => intro k M1 _ h; omega
  | succ n ih =>
    intro k M1 hk hn hf hi
    refine w_il7 (n := 104) dX12_gameOn_102 rfl ?_
    refine w_sipush (n := 107) (nI 621) dX12_gameOn_104 (by decide) rfl ?_
    refine w_ic_ge (n := 110) 138 dX12_gameOn_107 (by decide) rfl (fun z107_h => ?_) (fun z107_h => ?_)
    · skip
      rw [q_le (by decide) (by omega)] at z107_h
      have e : k = 621 := by omega
      subst e
      exact hx M1 hf hi
    · skip
      have hk6_h : k < 621 := by rw [q_le (by decide) (by omega)] at z107_h; omega
      refine w_al0 (n := 111) dX12_gameOn_110 rfl ?_
      refine g_R (n := 114) f_X12_9_12 pl_104 rf_104_0 dX12_gameOn_111 rfl ?_
      refine w_il7 (n := 116) dX12_gameOn_114 rfl ?_
      refine w_al0 (n := 117) dX12_gameOn_116 rfl ?_
      refine g_R (n := 120) f_X12_26_12 pl_104 rf_104_18 dX12_gameOn_117 rfl ?_
      refine w_sipush (n := 123) (nI 621) dX12_gameOn_120 (by decide) rfl ?_
      refine w_il1 (n := 124) dX12_gameOn_123 rfl ?_
      refine w_iconst (n := 125) (nI 1) dX12_gameOn_124 (by decide) rfl ?_
      refine w_isub (n := 126) dX12_gameOn_125 rfl ?_
      refine w_imul (n := 127) dX12_gameOn_126 rfl ?_
      rw [q_t621 L hL]
      refine w_il7 (n := 129) dX12_gameOn_127 rfl ?_
      refine w_iadd (n := 130) dX12_gameOn_129 rfl ?_
      refine i_iald (n := 131) pl_110 (j := 621 * L + k) (by rw [nI_add]) (by omega) (by decide) (hf.2 110 _ (by omega)) dX12_gameOn_130 rfl ?_
      refine i_iast (n := 132) pl_105 (j := k) rfl (by omega) (by decide) dX12_gameOn_131 rfl ?_
      refine w_inc7 (n := 135) (nI 1) dX12_gameOn_132 (by decide) rfl rfl (by decide) ?_
      refine w_goto 102 dX12_gameOn_135 (by decide) ?_
      rw [nI_add]
      refine ih (k + 1) _ (by omega) (by omega) (hf.put (by omega)) (fun j hj => ?_)
      by_cases e : j = k
      · subst e
        rw [dk_put_s]
      · rw [dk_put_k (by omega)]
        exact hi j (by omega)

set_option maxRecDepth 20000 in
theorem r_gB1 {d : Nat} {M : dk_Mem} {Q : Option Value → dk_Mem → Prop} {L c a : Nat} {g : Nat → Nat} (ha : a ≤ c) (hc : c ≤ 6) (gl : ∀ x, x ≤ c → g x ≤ 100) {x7_h : Option Value} (hx : ∀ y7_h, dk_W d mX12_gameOn 61 [some (.ref 104), some (.int (nI (L + 1))), some (.int (nI 1)), some (.int (nI (gm_f true g (a + 1)))), some (.int (nI c)), some (.int (nI (a + 1))), some (.int (nI (g a))), y7_h] [] M Q) : dk_W d mX12_gameOn 138 [some (.ref 104), some (.int (nI (L + 1))), some (.int (nI 1)), some (.int (nI (gm_f true g a))), some (.int (nI c)), some (.int (nI a)), some (.int (nI (g a))), x7_h] [] M Q := by
  have ga := gl a ha
  refine w_il5 (n := 140) dX12_gameOn_138 rfl ?_
  refine w_if_eq (n := 143) 162 dX12_gameOn_140 (by decide) rfl (fun z140_h => ?_) (fun z140_h => ?_)
  · skip
    refine w_iconst (n := 163) (nI 1) dX12_gameOn_162 (by decide) rfl ?_
    refine w_goto 167 dX12_gameOn_163 (by decide) ?_
    refine w_is7 (n := 169) dX12_gameOn_167 rfl rfl (by decide) ?_
    refine w_il7 (n := 171) dX12_gameOn_169 rfl ?_
    refine w_if_eq (n := 174) 179 dX12_gameOn_171 (by decide) rfl (fun h => absurd h (by decide)) (fun _ => ?_)
    refine w_il6 (n := 176) dX12_gameOn_174 rfl ?_
    refine w_goto 180 dX12_gameOn_176 (by decide) ?_
    refine w_is3 (n := 181) dX12_gameOn_180 rfl rfl (by decide) ?_
    refine w_inc5 (n := 184) (nI 1) dX12_gameOn_181 (by decide) rfl rfl (by decide) ?_
    refine w_goto 61 dX12_gameOn_184 (by decide) ?_
    rw [nI_add]
    first | (have e := (q_nz (by omega)).mp z140_h; subst e; exact hx _) | (have zz := z150_h; rw [q_le (by omega) (by omega)] at zz; have e9_h := (gm_y (b := true) (g := g) (a := e) (by rw [gm_t]; omega)).1; rw [show e + 1 + 1 = e + 2 by omega, e9_h] at hx; exact hx _) | (have zz := z150_h; rw [q_le (by omega) (by omega)] at zz; have e9_h := (gm_n (b := true) (g := g) (a := e) (by rw [gm_t]; omega)).1; rw [show e + 1 + 1 = e + 2 by omega, e9_h] at hx; exact hx _)
  · skip
    obtain ⟨e, rfl⟩ : ∃ e, a = e + 1 := ⟨a - 1, by have h0_h : ¬ a = 0 := fun z => z140_h ((q_nz (by omega)).mpr z); omega⟩
    have gf := gm_le (b := true) (g := g) (B := 100) e (fun x hx => gl x (by omega))
    refine w_il2 (n := 144) dX12_gameOn_143 rfl ?_
    refine w_if_eq (n := 147) 156 dX12_gameOn_144 (by decide) rfl (fun h => absurd h (by decide)) (fun _ => ?_)
    refine w_il6 (n := 149) dX12_gameOn_147 rfl ?_
    refine w_il3 (n := 150) dX12_gameOn_149 rfl ?_
    refine w_ic_le (n := 153) 166 dX12_gameOn_150 (by decide) rfl (fun z150_h => ?_) (fun z150_h => ?_)
    · skip
      refine w_iconst (n := 167) (nI 0) dX12_gameOn_166 (by decide) rfl ?_
      refine w_is7 (n := 169) dX12_gameOn_167 rfl rfl (by decide) ?_
      refine w_il7 (n := 171) dX12_gameOn_169 rfl ?_
      refine w_if_eq (n := 174) 179 dX12_gameOn_171 (by decide) rfl (fun _ => ?_) (fun h => absurd (by decide) h)
      refine w_il3 (n := 180) dX12_gameOn_179 rfl ?_
      refine w_is3 (n := 181) dX12_gameOn_180 rfl rfl (by decide) ?_
      refine w_inc5 (n := 184) (nI 1) dX12_gameOn_181 (by decide) rfl rfl (by decide) ?_
      refine w_goto 61 dX12_gameOn_184 (by decide) ?_
      rw [nI_add]
      first | (have e := (q_nz (by omega)).mp z140_h; subst e; exact hx _) | (have zz := z150_h; rw [q_le (by omega) (by omega)] at zz; have e9_h := (gm_y (b := true) (g := g) (a := e) (by rw [gm_t]; omega)).1; rw [show e + 1 + 1 = e + 2 by omega, e9_h] at hx; exact hx _) | (have zz := z150_h; rw [q_le (by omega) (by omega)] at zz; have e9_h := (gm_n (b := true) (g := g) (a := e) (by rw [gm_t]; omega)).1; rw [show e + 1 + 1 = e + 2 by omega, e9_h] at hx; exact hx _)
    · skip
      refine w_goto 162 dX12_gameOn_153 (by decide) ?_
      refine w_iconst (n := 163) (nI 1) dX12_gameOn_162 (by decide) rfl ?_
      refine w_goto 167 dX12_gameOn_163 (by decide) ?_
      refine w_is7 (n := 169) dX12_gameOn_167 rfl rfl (by decide) ?_
      refine w_il7 (n := 171) dX12_gameOn_169 rfl ?_
      refine w_if_eq (n := 174) 179 dX12_gameOn_171 (by decide) rfl (fun h => absurd h (by decide)) (fun _ => ?_)
      refine w_il6 (n := 176) dX12_gameOn_174 rfl ?_
      refine w_goto 180 dX12_gameOn_176 (by decide) ?_
      refine w_is3 (n := 181) dX12_gameOn_180 rfl rfl (by decide) ?_
      refine w_inc5 (n := 184) (nI 1) dX12_gameOn_181 (by decide) rfl rfl (by decide) ?_
      refine w_goto 61 dX12_gameOn_184 (by decide) ?_
      rw [nI_add]
      first | (have e := (q_nz (by omega)).mp z140_h; subst e; exact hx _) | (have zz := z150_h; rw [q_le (by omega) (by omega)] at zz; have e9_h := (gm_y (b := true) (g := g) (a := e) (by rw [gm_t]; omega)).1; rw [show e + 1 + 1 = e + 2 by omega, e9_h] at hx; exact hx _) | (have zz := z150_h; rw [q_le (by omega) (by omega)] at zz; have e9_h := (gm_n (b := true) (g := g) (a := e) (by rw [gm_t]; omega)).1; rw [show e + 1 + 1 = e + 2 by omega, e9_h] at hx; exact hx _)

set_option maxRecDepth 20000 in
theorem r_gL1 {d r : Nat} {M : dk_Mem} {Q : Option Value → dk_Mem → Prop} {w : sg_R} {f : Nat → Int32} {c m L : Nat} {σ : Nat → Nat} {g : Nat → Nat} (hrb : rb w (σ 6) f) (hIH : r_GP w (σ 6) f false L (d + r + 7)) (hL : L < 4) (o : sg_ok σ) (hc4_h : σ 4 = c) (hy : σ 1 < σ 0) (hm : sg_ys σ (L + 1) = m + 1) (hg : g = sg_gg w c m true σ) (hr0_h : rr σ M) (hT0 : rT f M) (hq : ∀ M2, dk_fr (rGo (L + 1)) M M2 → Q (some (.int (nI (gm_f true g (c + 1))))) M2) : ∀ (k a : Nat) (x6_h x7_h : Option Value) (M1 : dk_Mem), a ≤ c + 1 → c + 1 - a < k → dk_fr (rGo (L + 1)) M M1 → (∀ k, k < 621 → M1.1 110 (621 * L + k) = M.1 105 k) → dk_W (d + (r + 1) + 7) mX12_gameOn 61 [some (.ref 104), some (.int (nI (L + 1))), some (.int (nI 1)), some (.int (nI (gm_f true g a))), some (.int (nI c)), some (.int (nI a)), x6_h, x7_h] [] M1 Q := by
  have o4_h := o.2.2.2.1
  have o16_h := o.2.1
  have yl := sg_ys_le (σ := σ) (n := L + 1)
  have t6_h : ∀ x, x ≤ c → ∀ h, sg_ot x = some h → h < 6 := fun x hx h e => by have := sg_ot_lt hx h e; omega
  have og : ∀ x, x ≤ c → sg_ok (sg_goes w σ (sg_ot x)).1 := fun x hx => o.goes (t6_h x hx) (by omega)
  have gl : ∀ x, x ≤ c → g x ≤ 100 := fun x hx => by have h1_h := sg_goes_le (w := w) o (t6_h x hx); have h2_h := sg_gv_le (w := w) (c := c) (by omega) m (!true) (sg_goes w σ (sg_ot x)).1 (og x hx) (by rw [sg_goes_1, sg_goes_o (by omega) (by omega)]; omega); rw [hg]; unfold sg_gg; omega
  intro k
  induction k with
  | zero => intro a x6_h x7_h M1 _ h; omega
  | succ k ih =>
    intro a x6_h x7_h M1 ha hk hf hi
    have hr1_h := rGo_r hr0_h hf
    have hT1 := rGo_T hT0 hf
    refine w_il5 (n := 63) dX12_gameOn_61 rfl ?_
    refine w_il4 (n := 65) dX12_gameOn_63 rfl ?_
    refine w_ic_gt (n := 68) 187 dX12_gameOn_65 (by decide) rfl (fun z65_h => ?_) (fun z65_h => ?_)
    · skip
      refine w_il3 (n := 188) dX12_gameOn_187 rfl ?_
      refine w_retI dX12_gameOn_188 rfl ?_
      rw [nI_ltI (by omega) (by omega)] at z65_h
      have e : a = c + 1 := by omega
      subst e
      exact hq M1 hf
    · skip
      have hac : a ≤ c := by rw [nI_ltI (by omega) (by omega)] at z65_h; omega
      refine w_al0 (n := 69) dX12_gameOn_68 rfl ?_
      refine w_il5 (n := 71) dX12_gameOn_69 rfl ?_
      refine w_iconst (n := 72) (nI 1) dX12_gameOn_71 (by decide) rfl ?_
      refine w_isub (n := 73) dX12_gameOn_72 rfl ?_
      rw [sg_ot_enc (by omega)]
      refine w_cV1 (n := 76) pl_104 cl_12 s0_X12_goes k_X12_226 (Nat.le_of_ble_eq_true rfl) dX12_gameOn_73 rfl (r_goes hr1_h o (t6_h a hac) hrb hT1 (fun M2 g1_h g2_h g3_h => ?_))
      refine w_is6 (n := 78) dX12_gameOn_76 rfl rfl (by decide) ?_
      refine w_il6 (n := 80) dX12_gameOn_78 rfl ?_
      refine w_al0 (n := 81) dX12_gameOn_80 rfl ?_
      refine w_il1 (n := 82) dX12_gameOn_81 rfl ?_
      refine w_iconst (n := 83) (nI 1) dX12_gameOn_82 (by decide) rfl ?_
      refine w_isub (n := 84) dX12_gameOn_83 rfl ?_
      rw [q_pm1 (by omega), Nat.add_sub_cancel]
      refine w_il2 (n := 85) dX12_gameOn_84 rfl ?_
      refine w_if_ne (n := 88) 92 dX12_gameOn_85 (by decide) rfl (fun _ => ?_) (fun h => absurd h (by decide))
      refine w_iconst (n := 93) (nI 0) dX12_gameOn_92 (by decide) rfl ?_
      refine w_cV2 (n := 96) pl_104 cl_12 s0_X12_gameOn k_X12_274 (Nat.le_of_ble_eq_true rfl) dX12_gameOn_93 rfl (hIH (sg_goes w σ (sg_ot a)).1 M2 _ (og a hac) (sg_goes_o (by omega) (by omega)) g1_h (hT1.fr g2_h) (fun M3 b1_h => ?_))
      have hys : sg_ys (sg_goes w σ (sg_ot a)).1 L = m := by have := sg_ys_p (w := w) (L := L) hy (sg_ot a); omega
      rw [hys, show (sg_goes w σ (sg_ot a)).1 4 = c from (sg_goes_o (by omega) (by omega)).trans hc4_h]
      have eg : (sg_goes w σ (sg_ot a)).2 + sg_gv w c m false (sg_goes w σ (sg_ot a)).1 = g a := by rw [hg]; rfl
      refine w_iadd (n := 97) dX12_gameOn_96 rfl ?_
      rw [nI_add, eg]
      refine w_is6 (n := 99) dX12_gameOn_97 rfl rfl (by decide) ?_
      refine w_iconst (n := 100) (nI 0) dX12_gameOn_99 (by decide) rfl ?_
      refine w_is7 (n := 102) dX12_gameOn_100 rfl rfl (by decide) ?_
      refine r_grL (L := L) hL (fun M4 c1_h c2_h => ?_) 622 0 M3 (by omega) (by omega) dk_fr.rf (fun j hj => by omega)
      have hback : ∀ k, M4.1 105 k = M.1 105 k := fun k => by
        by_cases hk6_h : k < 621
        · rw [c2_h k hk6_h, b1_h.2 110 _ (by unfold rGo; omega), g2_h.2 110 _ (by unfold rG; omega)]
          exact hi k hk6_h
        · rw [c1_h.2 105 k (by omega), b1_h.2 105 k (by unfold rGo; omega), g2_h.2 105 k (by unfold rG; omega)]
          exact hf.2 105 k (by unfold rGo; omega)
      have f4_h : dk_fr (rGo (L + 1)) M M4 := ⟨(((c1_h.1.trans b1_h.1).trans g2_h.1).trans hf.1), fun q k hn => by
        by_cases hq5_h : q = 105
        · subst hq5_h; exact hback k
        · rw [c1_h.2 q k (by omega), b1_h.2 q k (fun z => hn (by unfold rGo at *; omega)), g2_h.2 q k (fun z => hn (by unfold rG at z; unfold rGo; omega))]; exact hf.2 q k hn⟩
      have i4_h : ∀ k, k < 621 → M4.1 110 (621 * L + k) = M.1 105 k := fun k hk6_h => by rw [c1_h.2 110 _ (by omega), b1_h.2 110 _ (by unfold rGo; omega), g2_h.2 110 _ (by unfold rG; omega)]; exact hi k hk6_h
      exact r_gB1 hac (by omega) gl (fun y7_h => ih (a + 1) _ y7_h M4 (by omega) (by omega) f4_h i4_h)

set_option maxRecDepth 20000 in
theorem r_gX1 {d : Nat} {M : dk_Mem} {Q : Option Value → dk_Mem → Prop} {L : Nat} {σ : Nat → Nat} (hr0_h : rr σ M) {x3_h x4_h x5_h x6_h x7_h : Option Value} (hx : dk_W d mX12_gameOn 61 [some (.ref 104), some (.int (nI (L + 1))), some (.int (nI 1)), some (.int (nI 0)), some (.int (nI (σ 4))), some (.int (nI 0)), x6_h, x7_h] [] M Q) : dk_W d mX12_gameOn 48 [some (.ref 104), some (.int (nI (L + 1))), some (.int (nI 1)), x3_h, x4_h, x5_h, x6_h, x7_h] [] M Q := by
  refine w_iconst (n := 49) (nI 0) dX12_gameOn_48 (by decide) rfl ?_
  refine w_is3 (n := 50) dX12_gameOn_49 rfl rfl (by decide) ?_
  refine w_al0 (n := 51) dX12_gameOn_50 rfl ?_
  refine g_R (n := 54) f_X12_9_12 pl_104 rf_104_0 dX12_gameOn_51 rfl ?_
  refine w_iconst (n := 55) (nI 4) dX12_gameOn_54 (by decide) rfl ?_
  refine i_iald (n := 56) pl_105 (j := 4) rfl (by decide) (by decide) (hr0_h 4 (by decide) (by decide) (by decide)) dX12_gameOn_55 rfl ?_
  refine w_is4 (n := 58) dX12_gameOn_56 rfl rfl (by decide) ?_
  refine w_iconst (n := 59) (nI 0) dX12_gameOn_58 (by decide) rfl ?_
  refine w_is5 (n := 61) dX12_gameOn_59 rfl rfl (by decide) ?_
  exact hx

set_option maxRecDepth 20000 in
theorem r_gS1 {d r : Nat} {w : sg_R} {nr : Nat} {f : Nat → Int32} (hrb : rb w nr f) (hr4_h : r ≤ 4) (hIH : ∀ L, r = L + 1 → r_GP w nr f false L (d + L + 7)) : r_GP w nr f true r (d + r + 7) := by
  intro σ M Q o hs6_h hr hT hq
  subst hs6_h
  have o4_h := o.2.2.2.1
  refine dk_enter [some (.ref 104), some (.int (nI r)), some (.int (nI 1)), none, none, none, none, none] (by decide) (fun _ => rfl) (fun _ => Nat.le_of_ble_eq_true rfl) ?_
  refine w_il1 (n := 1) dX12_gameOn_0 rfl ?_
  refine w_if_eq (n := 4) 11 dX12_gameOn_1 (by decide) rfl (fun z1_h => ?_) (fun z1_h => ?_)
  · skip
    refine w_iconst (n := 12) (nI 0) dX12_gameOn_11 (by decide) rfl ?_
    refine w_retI dX12_gameOn_12 rfl ?_
    have hm0_h : sg_ys σ r = 0 := by unfold sg_ys; first | omega | (have e := (q_nz (by omega)).mp z1_h; omega)
    rw [hm0_h] at hq
    exact hq M dk_fr.rf
  · skip
    refine w_al0 (n := 5) dX12_gameOn_4 rfl ?_
    refine w_cV0 (n := 8) pl_104 cl_12 s0_X12_isOver k_X12_121 (Nat.le_of_ble_eq_true rfl) dX12_gameOn_5 rfl (r_isOver hr o (fun t5_h => ?_) (fun t5_h => ?_))
    · skip
      refine w_if_eq (n := 11) 13 dX12_gameOn_8 (by decide) rfl (fun h => absurd h (by decide)) (fun _ => ?_)
      refine w_iconst (n := 12) (nI 0) dX12_gameOn_11 (by decide) rfl ?_
      refine w_retI dX12_gameOn_12 rfl ?_
      have hm0_h : sg_ys σ r = 0 := by unfold sg_ys; first | omega | (have e := (q_nz (by omega)).mp z1_h; omega)
      rw [hm0_h] at hq
      exact hq M dk_fr.rf
    · skip
      refine w_if_eq (n := 11) 13 dX12_gameOn_8 (by decide) rfl (fun _ => ?_) (fun h => absurd (by decide) h)
      refine w_iconst (n := 14) (nI 0) dX12_gameOn_13 (by decide) rfl ?_
      refine w_is3 (n := 15) dX12_gameOn_14 rfl rfl (by decide) ?_
      obtain ⟨L, rfl⟩ : ∃ e, r = e + 1 := ⟨r - 1, by have h0_h : ¬ r = 0 := fun z => z1_h ((q_nz (by omega)).mpr z); omega⟩
      obtain ⟨m, hm⟩ : ∃ m, sg_ys σ (L + 1) = m + 1 := ⟨sg_ys σ (L + 1) - 1, by unfold sg_ys; omega⟩
      rw [hm, sg_gv_s] at hq
      refine r_gcL (L := L) (by omega) (fun M1 c1_h c2_h => ?_) 622 0 M (by omega) (by omega) dk_fr.rf (fun j hj => by omega)
      have f1_h : dk_fr (rGo (L + 1)) M M1 := c1_h.up (fun q k z => by unfold rGo; omega)
      have hr0_h := rGo_r hr f1_h
      exact r_gX1 hr0_h (r_gL1 hrb (hIH L rfl) (by omega) o rfl t5_h hm rfl hr hT hq (σ 4 + 2) 0 _ _ M1 (by omega) (by omega) f1_h c2_h)

set_option maxRecDepth 20000 in
theorem r_gB0 {d : Nat} {M : dk_Mem} {Q : Option Value → dk_Mem → Prop} {L c a : Nat} {g : Nat → Nat} (ha : a ≤ c) (hc : c ≤ 6) (gl : ∀ x, x ≤ c → g x ≤ 100) {x7_h : Option Value} (hx : ∀ y7_h, dk_W d mX12_gameOn 61 [some (.ref 104), some (.int (nI (L + 1))), some (.int (nI 0)), some (.int (nI (gm_f false g (a + 1)))), some (.int (nI c)), some (.int (nI (a + 1))), some (.int (nI (g a))), y7_h] [] M Q) : dk_W d mX12_gameOn 138 [some (.ref 104), some (.int (nI (L + 1))), some (.int (nI 0)), some (.int (nI (gm_f false g a))), some (.int (nI c)), some (.int (nI a)), some (.int (nI (g a))), x7_h] [] M Q := by
  have ga := gl a ha
  refine w_il5 (n := 140) dX12_gameOn_138 rfl ?_
  refine w_if_eq (n := 143) 162 dX12_gameOn_140 (by decide) rfl (fun z140_h => ?_) (fun z140_h => ?_)
  · skip
    refine w_iconst (n := 163) (nI 1) dX12_gameOn_162 (by decide) rfl ?_
    refine w_goto 167 dX12_gameOn_163 (by decide) ?_
    refine w_is7 (n := 169) dX12_gameOn_167 rfl rfl (by decide) ?_
    refine w_il7 (n := 171) dX12_gameOn_169 rfl ?_
    refine w_if_eq (n := 174) 179 dX12_gameOn_171 (by decide) rfl (fun h => absurd h (by decide)) (fun _ => ?_)
    refine w_il6 (n := 176) dX12_gameOn_174 rfl ?_
    refine w_goto 180 dX12_gameOn_176 (by decide) ?_
    refine w_is3 (n := 181) dX12_gameOn_180 rfl rfl (by decide) ?_
    refine w_inc5 (n := 184) (nI 1) dX12_gameOn_181 (by decide) rfl rfl (by decide) ?_
    refine w_goto 61 dX12_gameOn_184 (by decide) ?_
    rw [nI_add]
    first | (have e := (q_nz (by omega)).mp z140_h; subst e; exact hx _) | (have zz := z159_h; rw [q_le (by omega) (by omega)] at zz; have e9_h := (gm_y (b := false) (g := g) (a := e) (by rw [gm_u]; omega)).1; rw [show e + 1 + 1 = e + 2 by omega, e9_h] at hx; exact hx _) | (have zz := z159_h; rw [q_le (by omega) (by omega)] at zz; have e9_h := (gm_n (b := false) (g := g) (a := e) (by rw [gm_u]; omega)).1; rw [show e + 1 + 1 = e + 2 by omega, e9_h] at hx; exact hx _)
  · skip
    obtain ⟨e, rfl⟩ : ∃ e, a = e + 1 := ⟨a - 1, by have h0_h : ¬ a = 0 := fun z => z140_h ((q_nz (by omega)).mpr z); omega⟩
    have gf := gm_le (b := false) (g := g) (B := 100) e (fun x hx => gl x (by omega))
    refine w_il2 (n := 144) dX12_gameOn_143 rfl ?_
    refine w_if_eq (n := 147) 156 dX12_gameOn_144 (by decide) rfl (fun _ => ?_) (fun h => absurd (by decide) h)
    refine w_il6 (n := 158) dX12_gameOn_156 rfl ?_
    refine w_il3 (n := 159) dX12_gameOn_158 rfl ?_
    refine w_ic_ge (n := 162) 166 dX12_gameOn_159 (by decide) rfl (fun z159_h => ?_) (fun z159_h => ?_)
    · skip
      refine w_iconst (n := 167) (nI 0) dX12_gameOn_166 (by decide) rfl ?_
      refine w_is7 (n := 169) dX12_gameOn_167 rfl rfl (by decide) ?_
      refine w_il7 (n := 171) dX12_gameOn_169 rfl ?_
      refine w_if_eq (n := 174) 179 dX12_gameOn_171 (by decide) rfl (fun _ => ?_) (fun h => absurd (by decide) h)
      refine w_il3 (n := 180) dX12_gameOn_179 rfl ?_
      refine w_is3 (n := 181) dX12_gameOn_180 rfl rfl (by decide) ?_
      refine w_inc5 (n := 184) (nI 1) dX12_gameOn_181 (by decide) rfl rfl (by decide) ?_
      refine w_goto 61 dX12_gameOn_184 (by decide) ?_
      rw [nI_add]
      first | (have e := (q_nz (by omega)).mp z140_h; subst e; exact hx _) | (have zz := z159_h; rw [q_le (by omega) (by omega)] at zz; have e9_h := (gm_y (b := false) (g := g) (a := e) (by rw [gm_u]; omega)).1; rw [show e + 1 + 1 = e + 2 by omega, e9_h] at hx; exact hx _) | (have zz := z159_h; rw [q_le (by omega) (by omega)] at zz; have e9_h := (gm_n (b := false) (g := g) (a := e) (by rw [gm_u]; omega)).1; rw [show e + 1 + 1 = e + 2 by omega, e9_h] at hx; exact hx _)
    · skip
      refine w_iconst (n := 163) (nI 1) dX12_gameOn_162 (by decide) rfl ?_
      refine w_goto 167 dX12_gameOn_163 (by decide) ?_
      refine w_is7 (n := 169) dX12_gameOn_167 rfl rfl (by decide) ?_
      refine w_il7 (n := 171) dX12_gameOn_169 rfl ?_
      refine w_if_eq (n := 174) 179 dX12_gameOn_171 (by decide) rfl (fun h => absurd h (by decide)) (fun _ => ?_)
      refine w_il6 (n := 176) dX12_gameOn_174 rfl ?_
      refine w_goto 180 dX12_gameOn_176 (by decide) ?_
      refine w_is3 (n := 181) dX12_gameOn_180 rfl rfl (by decide) ?_
      refine w_inc5 (n := 184) (nI 1) dX12_gameOn_181 (by decide) rfl rfl (by decide) ?_
      refine w_goto 61 dX12_gameOn_184 (by decide) ?_
      rw [nI_add]
      first | (have e := (q_nz (by omega)).mp z140_h; subst e; exact hx _) | (have zz := z159_h; rw [q_le (by omega) (by omega)] at zz; have e9_h := (gm_y (b := false) (g := g) (a := e) (by rw [gm_u]; omega)).1; rw [show e + 1 + 1 = e + 2 by omega, e9_h] at hx; exact hx _) | (have zz := z159_h; rw [q_le (by omega) (by omega)] at zz; have e9_h := (gm_n (b := false) (g := g) (a := e) (by rw [gm_u]; omega)).1; rw [show e + 1 + 1 = e + 2 by omega, e9_h] at hx; exact hx _)

set_option maxRecDepth 20000 in
theorem r_gL0 {d r : Nat} {M : dk_Mem} {Q : Option Value → dk_Mem → Prop} {w : sg_R} {f : Nat → Int32} {c m L : Nat} {σ : Nat → Nat} {g : Nat → Nat} (hrb : rb w (σ 6) f) (hIH : r_GP w (σ 6) f true L (d + r + 7)) (hL : L < 4) (o : sg_ok σ) (hc4_h : σ 4 = c) (hy : σ 1 < σ 0) (hm : sg_ys σ (L + 1) = m + 1) (hg : g = sg_gg w c m false σ) (hr0_h : rr σ M) (hT0 : rT f M) (hq : ∀ M2, dk_fr (rGo (L + 1)) M M2 → Q (some (.int (nI (gm_f false g (c + 1))))) M2) : ∀ (k a : Nat) (x6_h x7_h : Option Value) (M1 : dk_Mem), a ≤ c + 1 → c + 1 - a < k → dk_fr (rGo (L + 1)) M M1 → (∀ k, k < 621 → M1.1 110 (621 * L + k) = M.1 105 k) → dk_W (d + (r + 1) + 7) mX12_gameOn 61 [some (.ref 104), some (.int (nI (L + 1))), some (.int (nI 0)), some (.int (nI (gm_f false g a))), some (.int (nI c)), some (.int (nI a)), x6_h, x7_h] [] M1 Q := by
  have o4_h := o.2.2.2.1
  have o16_h := o.2.1
  have yl := sg_ys_le (σ := σ) (n := L + 1)
  have t6_h : ∀ x, x ≤ c → ∀ h, sg_ot x = some h → h < 6 := fun x hx h e => by have := sg_ot_lt hx h e; omega
  have og : ∀ x, x ≤ c → sg_ok (sg_goes w σ (sg_ot x)).1 := fun x hx => o.goes (t6_h x hx) (by omega)
  have gl : ∀ x, x ≤ c → g x ≤ 100 := fun x hx => by have h1_h := sg_goes_le (w := w) o (t6_h x hx); have h2_h := sg_gv_le (w := w) (c := c) (by omega) m (!false) (sg_goes w σ (sg_ot x)).1 (og x hx) (by rw [sg_goes_1, sg_goes_o (by omega) (by omega)]; omega); rw [hg]; unfold sg_gg; omega
  intro k
  induction k with
  | zero => intro a x6_h x7_h M1 _ h; omega
  | succ k ih =>
    intro a x6_h x7_h M1 ha hk hf hi
    have hr1_h := rGo_r hr0_h hf
    have hT1 := rGo_T hT0 hf
    refine w_il5 (n := 63) dX12_gameOn_61 rfl ?_
    refine w_il4 (n := 65) dX12_gameOn_63 rfl ?_
    refine w_ic_gt (n := 68) 187 dX12_gameOn_65 (by decide) rfl (fun z65_h => ?_) (fun z65_h => ?_)
    · skip
      refine w_il3 (n := 188) dX12_gameOn_187 rfl ?_
      refine w_retI dX12_gameOn_188 rfl ?_
      rw [nI_ltI (by omega) (by omega)] at z65_h
      have e : a = c + 1 := by omega
      subst e
      exact hq M1 hf
    · skip
      have hac : a ≤ c := by rw [nI_ltI (by omega) (by omega)] at z65_h; omega
      refine w_al0 (n := 69) dX12_gameOn_68 rfl ?_
      refine w_il5 (n := 71) dX12_gameOn_69 rfl ?_
      refine w_iconst (n := 72) (nI 1) dX12_gameOn_71 (by decide) rfl ?_
      refine w_isub (n := 73) dX12_gameOn_72 rfl ?_
      rw [sg_ot_enc (by omega)]
      refine w_cV1 (n := 76) pl_104 cl_12 s0_X12_goes k_X12_226 (Nat.le_of_ble_eq_true rfl) dX12_gameOn_73 rfl (r_goes hr1_h o (t6_h a hac) hrb hT1 (fun M2 g1_h g2_h g3_h => ?_))
      refine w_is6 (n := 78) dX12_gameOn_76 rfl rfl (by decide) ?_
      refine w_il6 (n := 80) dX12_gameOn_78 rfl ?_
      refine w_al0 (n := 81) dX12_gameOn_80 rfl ?_
      refine w_il1 (n := 82) dX12_gameOn_81 rfl ?_
      refine w_iconst (n := 83) (nI 1) dX12_gameOn_82 (by decide) rfl ?_
      refine w_isub (n := 84) dX12_gameOn_83 rfl ?_
      rw [q_pm1 (by omega), Nat.add_sub_cancel]
      refine w_il2 (n := 85) dX12_gameOn_84 rfl ?_
      refine w_if_ne (n := 88) 92 dX12_gameOn_85 (by decide) rfl (fun h => absurd h (by decide)) (fun _ => ?_)
      refine w_iconst (n := 89) (nI 1) dX12_gameOn_88 (by decide) rfl ?_
      refine w_goto 93 dX12_gameOn_89 (by decide) ?_
      refine w_cV2 (n := 96) pl_104 cl_12 s0_X12_gameOn k_X12_274 (Nat.le_of_ble_eq_true rfl) dX12_gameOn_93 rfl (hIH (sg_goes w σ (sg_ot a)).1 M2 _ (og a hac) (sg_goes_o (by omega) (by omega)) g1_h (hT1.fr g2_h) (fun M3 b1_h => ?_))
      have hys : sg_ys (sg_goes w σ (sg_ot a)).1 L = m := by have := sg_ys_p (w := w) (L := L) hy (sg_ot a); omega
      rw [hys, show (sg_goes w σ (sg_ot a)).1 4 = c from (sg_goes_o (by omega) (by omega)).trans hc4_h]
      have eg : (sg_goes w σ (sg_ot a)).2 + sg_gv w c m true (sg_goes w σ (sg_ot a)).1 = g a := by rw [hg]; rfl
      refine w_iadd (n := 97) dX12_gameOn_96 rfl ?_
      rw [nI_add, eg]
      refine w_is6 (n := 99) dX12_gameOn_97 rfl rfl (by decide) ?_
      refine w_iconst (n := 100) (nI 0) dX12_gameOn_99 (by decide) rfl ?_
      refine w_is7 (n := 102) dX12_gameOn_100 rfl rfl (by decide) ?_
      refine r_grL (L := L) hL (fun M4 c1_h c2_h => ?_) 622 0 M3 (by omega) (by omega) dk_fr.rf (fun j hj => by omega)
      have hback : ∀ k, M4.1 105 k = M.1 105 k := fun k => by
        by_cases hk6_h : k < 621
        · rw [c2_h k hk6_h, b1_h.2 110 _ (by unfold rGo; omega), g2_h.2 110 _ (by unfold rG; omega)]
          exact hi k hk6_h
        · rw [c1_h.2 105 k (by omega), b1_h.2 105 k (by unfold rGo; omega), g2_h.2 105 k (by unfold rG; omega)]
          exact hf.2 105 k (by unfold rGo; omega)
      have f4_h : dk_fr (rGo (L + 1)) M M4 := ⟨(((c1_h.1.trans b1_h.1).trans g2_h.1).trans hf.1), fun q k hn => by
        by_cases hq5_h : q = 105
        · subst hq5_h; exact hback k
        · rw [c1_h.2 q k (by omega), b1_h.2 q k (fun z => hn (by unfold rGo at *; omega)), g2_h.2 q k (fun z => hn (by unfold rG at z; unfold rGo; omega))]; exact hf.2 q k hn⟩
      have i4_h : ∀ k, k < 621 → M4.1 110 (621 * L + k) = M.1 105 k := fun k hk6_h => by rw [c1_h.2 110 _ (by omega), b1_h.2 110 _ (by unfold rGo; omega), g2_h.2 110 _ (by unfold rG; omega)]; exact hi k hk6_h
      exact r_gB0 hac (by omega) gl (fun y7_h => ih (a + 1) _ y7_h M4 (by omega) (by omega) f4_h i4_h)

set_option maxRecDepth 20000 in
theorem r_gX0 {d : Nat} {M : dk_Mem} {Q : Option Value → dk_Mem → Prop} {L : Nat} {σ : Nat → Nat} (hr0_h : rr σ M) {x3_h x4_h x5_h x6_h x7_h : Option Value} (hx : dk_W d mX12_gameOn 61 [some (.ref 104), some (.int (nI (L + 1))), some (.int (nI 0)), some (.int (nI 0)), some (.int (nI (σ 4))), some (.int (nI 0)), x6_h, x7_h] [] M Q) : dk_W d mX12_gameOn 48 [some (.ref 104), some (.int (nI (L + 1))), some (.int (nI 0)), x3_h, x4_h, x5_h, x6_h, x7_h] [] M Q := by
  refine w_iconst (n := 49) (nI 0) dX12_gameOn_48 (by decide) rfl ?_
  refine w_is3 (n := 50) dX12_gameOn_49 rfl rfl (by decide) ?_
  refine w_al0 (n := 51) dX12_gameOn_50 rfl ?_
  refine g_R (n := 54) f_X12_9_12 pl_104 rf_104_0 dX12_gameOn_51 rfl ?_
  refine w_iconst (n := 55) (nI 4) dX12_gameOn_54 (by decide) rfl ?_
  refine i_iald (n := 56) pl_105 (j := 4) rfl (by decide) (by decide) (hr0_h 4 (by decide) (by decide) (by decide)) dX12_gameOn_55 rfl ?_
  refine w_is4 (n := 58) dX12_gameOn_56 rfl rfl (by decide) ?_
  refine w_iconst (n := 59) (nI 0) dX12_gameOn_58 (by decide) rfl ?_
  refine w_is5 (n := 61) dX12_gameOn_59 rfl rfl (by decide) ?_
  exact hx

set_option maxRecDepth 20000 in
theorem r_gS0 {d r : Nat} {w : sg_R} {nr : Nat} {f : Nat → Int32} (hrb : rb w nr f) (hr4_h : r ≤ 4) (hIH : ∀ L, r = L + 1 → r_GP w nr f true L (d + L + 7)) : r_GP w nr f false r (d + r + 7) := by
  intro σ M Q o hs6_h hr hT hq
  subst hs6_h
  have o4_h := o.2.2.2.1
  refine dk_enter [some (.ref 104), some (.int (nI r)), some (.int (nI 0)), none, none, none, none, none] (by decide) (fun _ => rfl) (fun _ => Nat.le_of_ble_eq_true rfl) ?_
  refine w_il1 (n := 1) dX12_gameOn_0 rfl ?_
  refine w_if_eq (n := 4) 11 dX12_gameOn_1 (by decide) rfl (fun z1_h => ?_) (fun z1_h => ?_)
  · skip
    refine w_iconst (n := 12) (nI 0) dX12_gameOn_11 (by decide) rfl ?_
    refine w_retI dX12_gameOn_12 rfl ?_
    have hm0_h : sg_ys σ r = 0 := by unfold sg_ys; first | omega | (have e := (q_nz (by omega)).mp z1_h; omega)
    rw [hm0_h] at hq
    exact hq M dk_fr.rf
  · skip
    refine w_al0 (n := 5) dX12_gameOn_4 rfl ?_
    refine w_cV0 (n := 8) pl_104 cl_12 s0_X12_isOver k_X12_121 (Nat.le_of_ble_eq_true rfl) dX12_gameOn_5 rfl (r_isOver hr o (fun t5_h => ?_) (fun t5_h => ?_))
    · skip
      refine w_if_eq (n := 11) 13 dX12_gameOn_8 (by decide) rfl (fun h => absurd h (by decide)) (fun _ => ?_)
      refine w_iconst (n := 12) (nI 0) dX12_gameOn_11 (by decide) rfl ?_
      refine w_retI dX12_gameOn_12 rfl ?_
      have hm0_h : sg_ys σ r = 0 := by unfold sg_ys; first | omega | (have e := (q_nz (by omega)).mp z1_h; omega)
      rw [hm0_h] at hq
      exact hq M dk_fr.rf
    · skip
      refine w_if_eq (n := 11) 13 dX12_gameOn_8 (by decide) rfl (fun _ => ?_) (fun h => absurd (by decide) h)
      refine w_iconst (n := 14) (nI 0) dX12_gameOn_13 (by decide) rfl ?_
      refine w_is3 (n := 15) dX12_gameOn_14 rfl rfl (by decide) ?_
      obtain ⟨L, rfl⟩ : ∃ e, r = e + 1 := ⟨r - 1, by have h0_h : ¬ r = 0 := fun z => z1_h ((q_nz (by omega)).mpr z); omega⟩
      obtain ⟨m, hm⟩ : ∃ m, sg_ys σ (L + 1) = m + 1 := ⟨sg_ys σ (L + 1) - 1, by unfold sg_ys; omega⟩
      rw [hm, sg_gv_s] at hq
      refine r_gcL (L := L) (by omega) (fun M1 c1_h c2_h => ?_) 622 0 M (by omega) (by omega) dk_fr.rf (fun j hj => by omega)
      have f1_h : dk_fr (rGo (L + 1)) M M1 := c1_h.up (fun q k z => by unfold rGo; omega)
      have hr0_h := rGo_r hr f1_h
      exact r_gX0 hr0_h (r_gL0 hrb (hIH L rfl) (by omega) o rfl t5_h hm rfl hr hT hq (σ 4 + 2) 0 _ _ M1 (by omega) (by omega) f1_h c2_h)

theorem r_game {w : sg_R} {nr : Nat} {f : Nat → Int32} (hrb : rb w nr f) : ∀ (r d : Nat) (b : Bool), r ≤ 4 → r_GP w nr f b r (d + r + 7)
  | 0, d, true, h => r_gS1 hrb h (fun L e => by omega)
  | 0, d, false, h => r_gS0 hrb h (fun L e => by omega)
  | r + 1, d, true, h => r_gS1 hrb h (fun L e => by cases e; exact r_game hrb r d false (by omega))
  | r + 1, d, false, h => r_gS0 hrb h (fun L e => by cases e; exact r_game hrb r d true (by omega))
theorem r_g4 {w : sg_R} {nr : Nat} {f : Nat → Int32} (hrb : rb w nr f) {r : Nat} (h : r ≤ 4) (d : Nat) (b : Bool) : r_GP w nr f b r (d + 11) := by
  have g := r_game hrb r (d + (4 - r)) b h
  rw [show d + (4 - r) + r + 7 = d + 11 by omega] at g
  exact g

set_option maxRecDepth 20000 in
theorem R_game {d : Nat} {M : dk_Mem} {Q : Option Value → dk_Mem → Prop} {K : sg_K} (hK : rK K M) {n : Int32} (hq : ∀ M2, dk_fr rN M M2 → Q (some (.int (kf_game K n))) M2) : dk_Call (d + 12) mX12_game [.ref 104, .int n] M Q := by
  have hK0 := hK
  obtain ⟨⟨o, p1_h, p2_h, p3_h⟩, hr, ⟨f, hb, hT⟩, hsc, hz⟩ := hK0
  have o4_h := o.2.2.2.1
  have o16_h := o.2.1
  refine dk_enter [some (.ref 104), some (.int n)] (by decide) (fun _ => rfl) (fun _ => Nat.le_of_ble_eq_true rfl) ?_
  refine w_il1 (n := 1) dX12_game_0 rfl ?_
  refine w_iconst (n := 2) (nI 1) dX12_game_1 (by decide) rfl ?_
  refine w_iconst (n := 3) (nI 4) dX12_game_2 (by decide) rfl ?_
  refine w_cS3 (n := 6) s0_X12_in k_X12_61 (Nat.le_of_ble_eq_true rfl) dX12_game_3 rfl (r_in (fun t3_h => ?_) (fun t3_h => ?_))
  · skip
    refine w_if_eq (n := 9) 18 dX12_game_6 (by decide) rfl (fun h => absurd h (by decide)) (fun _ => ?_)
    have hn := tN_of (n := 4) (by decide) (Int32.le_trans (by decide) t3_h.1) t3_h.2
    have n1_h : 1 ≤ tN n := by have y := t3_h.1; rw [hn.1, q_le (by decide) (by omega)] at y; exact y
    have en : Value.int n = Value.int (nI (tN n)) := by rw [← hn.1]
    rw [en]
    refine w_al0 (n := 10) dX12_game_9 rfl ?_
    refine w_il1 (n := 11) dX12_game_10 rfl ?_
    refine w_iconst (n := 12) (nI 1) dX12_game_11 (by decide) rfl ?_
    refine w_cV2 (n := 15) pl_104 cl_12 s0_X12_gameOn k_X12_274 (Nat.le_of_ble_eq_true rfl) dX12_game_12 rfl (r_g4 hb hn.2 d true K.1 M _ o rfl hr hT (fun M2 g1_h => ?_))
    refine w_goto 19 dX12_game_15 (by decide) ?_
    refine w_retI dX12_game_19 rfl ?_
    first | (rw [show kf_game K n = nI (sg_gv K.2.1 (K.1 4) (sg_ys K.1 (tN n)) true K.1) from if_pos t3_h] at hq; exact hq M2 (rGo_N g1_h)) | (rw [show kf_game K n = -1 from if_neg t3_h] at hq; exact hq M dk_fr.rf)
  · skip
    refine w_if_eq (n := 9) 18 dX12_game_6 (by decide) rfl (fun _ => ?_) (fun h => absurd (by decide) h)
    refine w_iconst (n := 19) (-1) dX12_game_18 (by decide) rfl ?_
    refine w_retI dX12_game_19 rfl ?_
    first | (rw [show kf_game K n = nI (sg_gv K.2.1 (K.1 4) (sg_ys K.1 (tN n)) true K.1) from if_pos t3_h] at hq; exact hq M2 (rGo_N g1_h)) | (rw [show kf_game K n = -1 from if_neg t3_h] at hq; exact hq M dk_fr.rf)
