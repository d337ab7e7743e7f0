/-! ===== the component's tree of best plans ===== -/
def sg_gt (w : sg_R) (b m : Nat) (σ : Nat → Nat) (x : Nat) : Nat × Nat × Nat := ((sg_goes w σ (sg_ot x)).2 + (sg_tb w b m (sg_goes w σ (sg_ot x)).1).1, (sg_tb w b m (sg_goes w σ (sg_ot x)).1).2.1, (sg_tb w b m (sg_goes w σ (sg_ot x)).1).2.2)
theorem sg_tb_s {w : sg_R} {b m : Nat} {σ : Nat → Nat} : sg_tb w b (m + 1) σ = tr_af (sg_gt w b m σ) (b ^ m) b := rfl
theorem fb_lt {f : Nat → Nat} : ∀ n, (fb f (n + 1)).2.1 ≤ n
  | 0 => Nat.le_refl 0
  | n + 1 => by
    have ih := fb_lt (f := f) n
    rw [fb_st]
    rcases Nat.lt_trichotomy (fb f (n + 1)).1 (f (n + 1)) with a | a | a
    · rw [st_g a]; exact Nat.le_refl _
    · rw [st_e a.symm]; exact Nat.le_trans ih (by omega)
    · rw [st_l a]; omega
theorem sg_tb_le {w : sg_R} {c : Nat} (hc : c ≤ 6) {m : Nat} {σ : Nat → Nat} (o : sg_ok σ) (h : m ≤ σ 0 - σ 1) : (sg_tb w (c + 1) m σ).1 ≤ 19 * m ∧ (sg_tb w (c + 1) m σ).2.1 < (c + 1) ^ m := by
  rw [← fb_tb (w := w) (b := c + 1) (by omega) m σ]
  obtain ⟨N, hN⟩ : ∃ N, (c + 1) ^ m = N + 1 := ⟨(c + 1) ^ m - 1, by have := Nat.pow_pos (a := c + 1) (n := m) (by omega); omega⟩
  rw [hN]
  exact ⟨(fb_le (fun P => pl_w_le (w := w) (m := m) (P := P) hc m 0 σ o h) (N + 1)).1, Nat.lt_succ_of_le (fb_lt N)⟩
theorem tr_af_s {g : Nat → Nat × Nat × Nat} {N a : Nat} : tr_af g N (a + 2) = tr_jn (tr_af g N (a + 1)) (g (a + 1)) ((a + 1) * N) := rfl
theorem tr_jn_1 {x y : Nat × Nat × Nat} {n : Nat} : x.1 ≤ (tr_jn x y n).1 ∧ ((tr_jn x y n).1 = x.1 ∨ (tr_jn x y n).1 = y.1) := by
  rcases Nat.lt_trichotomy x.1 y.1 with a | a | a
  · rw [tr_g a]; exact ⟨by show x.1 ≤ y.1; omega, Or.inr rfl⟩
  · rw [tr_e a.symm]; exact ⟨Nat.le_refl _, Or.inl rfl⟩
  · rw [tr_l a]; exact ⟨Nat.le_refl _, Or.inl rfl⟩
theorem tr_af_ge {g : Nat → Nat × Nat × Nat} {N : Nat} : ∀ a, (g 0).1 ≤ (tr_af g N (a + 1)).1
  | 0 => Nat.le_refl _
  | a + 1 => Nat.le_trans (tr_af_ge a) tr_jn_1.1
theorem tr_af_le {g : Nat → Nat × Nat × Nat} {N B : Nat} : ∀ a, (∀ x, x ≤ a → (g x).1 ≤ B) → (tr_af g N (a + 1)).1 ≤ B
  | 0, h => h 0 (by omega)
  | a + 1, h => by
    rw [tr_af_s]
    rcases (tr_jn_1 (x := tr_af g N (a + 1)) (y := g (a + 1)) (n := (a + 1) * N)).2 with e | e
    · rw [e]; exact tr_af_le a (fun x hx => h x (by omega))
    · rw [e]; exact h (a + 1) (by omega)
theorem bl_i {g : Nat → Nat × Nat × Nat} {N a W J : Nat} (gi : g (a + 1) = g 0) (hW : (tr_af g N (a + 1)).2.2 = W + (if (g 0).1 = (tr_af g N (a + 1)).1 then J * (g 0).2.2 else 0)) : (tr_af g N (a + 2)).1 = (tr_af g N (a + 1)).1 ∧ (tr_af g N (a + 2)).2.1 = (tr_af g N (a + 1)).2.1 ∧ (tr_af g N (a + 2)).2.2 = W + (if (g 0).1 = (tr_af g N (a + 2)).1 then (J + 1) * (g 0).2.2 else 0) := by
  have xg := tr_af_ge (g := g) (N := N) a
  rw [tr_af_s, gi]
  generalize tr_af g N (a + 1) = X at *
  by_cases e : (g 0).1 = X.1
  · rw [tr_e e]
    refine ⟨rfl, rfl, ?_⟩
    rw [if_pos e] at hW
    show X.2.2 + (g 0).2.2 = W + if (g 0).1 = X.1 then (J + 1) * (g 0).2.2 else 0
    rw [if_pos e, hW, Nat.add_mul, Nat.one_mul, Nat.add_assoc]
  · rw [tr_l (show (g 0).1 < X.1 by omega)]
    refine ⟨rfl, rfl, ?_⟩
    rw [if_neg e] at hW
    rw [if_neg e]
    exact hW
theorem bl_g {g : Nat → Nat × Nat × Nat} {N a J : Nat} (h : (tr_af g N (a + 1)).1 < (g (a + 1)).1) : (tr_af g N (a + 2)).1 = (g (a + 1)).1 ∧ (tr_af g N (a + 2)).2.1 = (a + 1) * N + (g (a + 1)).2.1 ∧ (tr_af g N (a + 2)).2.2 = (g (a + 1)).2.2 + (if (g 0).1 = (tr_af g N (a + 2)).1 then J * (g 0).2.2 else 0) := by
  have xg := tr_af_ge (g := g) (N := N) a
  rw [tr_af_s, tr_g h]
  refine ⟨rfl, rfl, ?_⟩
  show (g (a + 1)).2.2 = (g (a + 1)).2.2 + if (g 0).1 = (g (a + 1)).1 then J * (g 0).2.2 else 0
  rw [if_neg (by omega)]
  rfl
theorem bl_e {g : Nat → Nat × Nat × Nat} {N a W J : Nat} (h : (g (a + 1)).1 = (tr_af g N (a + 1)).1) (hW : (tr_af g N (a + 1)).2.2 = W + (if (g 0).1 = (tr_af g N (a + 1)).1 then J * (g 0).2.2 else 0)) : (tr_af g N (a + 2)).1 = (tr_af g N (a + 1)).1 ∧ (tr_af g N (a + 2)).2.1 = (tr_af g N (a + 1)).2.1 ∧ (tr_af g N (a + 2)).2.2 = W + (g (a + 1)).2.2 + (if (g 0).1 = (tr_af g N (a + 2)).1 then J * (g 0).2.2 else 0) := by
  rw [tr_af_s, tr_e h]
  refine ⟨rfl, rfl, ?_⟩
  show (tr_af g N (a + 1)).2.2 + (g (a + 1)).2.2 = W + (g (a + 1)).2.2 + if (g 0).1 = (tr_af g N (a + 1)).1 then J * (g 0).2.2 else 0
  rw [hW]
  omega
theorem bl_l {g : Nat → Nat × Nat × Nat} {N a : Nat} (h : (g (a + 1)).1 < (tr_af g N (a + 1)).1) : tr_af g N (a + 2) = tr_af g N (a + 1) := by rw [tr_af_s, tr_l h]
def cBP (l q k : Nat) : Prop := cY q k ∨ (q = 68 ∧ l ≤ k) ∨ (63 + l ≤ q ∧ q ≤ 67) ∨ (sg_lv l + 2 ≤ q ∧ q ≤ 78)
theorem cBP_up {l q k : Nat} (h : cBP (l + 1) q k) : cBP l q k := by unfold cBP sg_lv cY at *; omega
theorem cs.B {σ : Nat → Nat} {M M' : dk_Mem} {l : Nat} (hs : cs σ M) (hf : dk_fr (cBP l) M M') : cs σ M' := hs.fr hf (fun q k a b z => by unfold cBP sg_lv cY at z; omega)
theorem cm.B {σ : Nat → Nat} {M M' : dk_Mem} {l : Nat} (hl : l ≤ 4) (hc : cm (sg_lv l) σ M) (hf : dk_fr (cBP l) M M') : cm (sg_lv l) σ M' := hc.fr hf (fun q k a z => by unfold cBP sg_lv cY at *; omega)
theorem cbb.B {w : sg_R} {M M' : dk_Mem} {l : Nat} (hb : cbb w M) (hf : dk_fr (cBP l) M M') : cbb w M' := hb.fr hf (fun q k z => by unfold cBP sg_lv cY at z; unfold cA cN; omega)
def c6_BP (w : sg_R) (n l D : Nat) : Prop := ∀ (σ : Nat → Nat) (M : dk_Mem) (Q : Option Value → dk_Mem → Prop), sg_ok σ → cs σ M → cm (sg_lv l) σ M → cbb w M → (∀ M2, dk_fr (cBP l) M M2 → M2.1 68 l = nI (sg_tb w (σ 4 + 1) (sg_ys σ (n - l)) σ).2.2 → (∀ i, i < sg_ys σ (n - l) → M2.1 (63 + l) (l + i) = nI (pl_d (σ 4 + 1) (sg_ys σ (n - l)) (sg_tb w (σ 4 + 1) (sg_ys σ (n - l)) σ).2.1 i)) → Q (some (.int (nI (sg_tb w (σ 4 + 1) (sg_ys σ (n - l)) σ).1))) M2) → dk_Call D mX6_bestFrom [.ref 60, .int (nI l), .int (nI n)] M Q
theorem sg_ys_s {w : sg_R} {σ : Nat → Nat} {n l : Nat} (hl : l < n) (hy : σ 1 < σ 0) (t : Option Nat) : sg_ys σ (n - l) = sg_ys (sg_goes w σ t).1 (n - (l + 1)) + 1 := by
  unfold sg_ys
  rw [sg_goes_1, sg_goes_o (by omega) (by omega)]
  omega

set_option maxRecDepth 20000 in
theorem c6_bL {d r : Nat} {M : dk_Mem} {Q : Option Value → dk_Mem → Prop} {w : sg_R} {n l c m N : Nat} {σ : Nat → Nat} {g : Nat → Nat × Nat × Nat} (hIH : c6_BP w n (l + 1) (d + r + 8)) (hn : n ≤ 4) (hl : l < n) (o : sg_ok σ) (hc4_h : σ 4 = c) (hy : σ 1 < σ 0) (hm : sg_ys σ (n - l) = m + 1) (hg : g = sg_gt w (c + 1) m σ) (hN : N = (c + 1) ^ m) (hq : ∀ M2, dk_fr (cBP l) M M2 → M2.1 68 l = nI (tr_af g N (c + 1)).2.2 → (∀ i, i < m + 1 → M2.1 (63 + l) (l + i) = nI (pl_d (c + 1) (m + 1) (tr_af g N (c + 1)).2.1 i)) → Q (some (.int (nI (tr_af g N (c + 1)).1))) M2) : ∀ (k a W J : Nat) (x9_h : Option Value) (M1 : dk_Mem), a ≤ c → c - a < k → cs σ M1 → cm (sg_lv l) σ M1 → cbb w M1 → dk_fr (cBP l) M M1 → (tr_af g N (a + 1)).2.2 = W + (if (g 0).1 = (tr_af g N (a + 1)).1 then J * (g 0).2.2 else 0) → (∀ i, i < m + 1 → M1.1 (63 + l) (l + i) = nI (pl_d (c + 1) (m + 1) (tr_af g N (a + 1)).2.1 i)) → dk_W (d + (r + 1) + 8) mX6_bestFrom 63 [some (.ref 60), some (.int (nI l)), some (.int (nI n)), some (.int (nI (g 0).1)), some (.int (nI (g 0).2.2)), some (.int (nI (tr_af g N (a + 1)).1)), some (.int (nI W)), some (.int (nI J)), some (.int (nI (a + 1))), x9_h] [] M1 Q := by
  have o4_h := o.2.2.2.1
  have o16_h := o.2.1
  have yl := sg_ys_le (σ := σ) (n := n - l)
  have rf := lv_rf l (by omega)
  have m0_h := lv_mo (l := l) (by omega)
  have t6_h : ∀ x, x ≤ c → ∀ h, sg_ot x = some h → h < σ 4 := fun x hx h e => by have := sg_ot_lt hx h e; omega
  have hys : ∀ t, sg_ys (sg_goes w σ t).1 (n - (l + 1)) = m := fun t => by have := sg_ys_s (w := w) hl hy t; omega
  have og : ∀ x, x ≤ c → sg_ok (sg_goes w σ (sg_ot x)).1 := fun x hx => o.goes (fun h e => by have := t6_h x hx h e; omega) (by omega)
  have tl : ∀ x, x ≤ c → (sg_tb w (c + 1) m (sg_goes w σ (sg_ot x)).1).1 ≤ 19 * m ∧ (sg_tb w (c + 1) m (sg_goes w σ (sg_ot x)).1).2.1 < (c + 1) ^ m := fun x hx => sg_tb_le (by omega) (og x hx) (by rw [sg_goes_1, sg_goes_o (by omega) (by omega)]; omega)
  have gl : ∀ x, x ≤ c → (g x).1 ≤ 100 := fun x hx => by have h1_h := sg_goes_le (w := w) o (t := sg_ot x) (fun h e => by have := t6_h x hx h e; omega); have h2_h := (tl x hx).1; rw [hg]; show (sg_goes w σ (sg_ot x)).2 + _ ≤ 100; omega
  intro k
  induction k with
  | zero => intro a W J x9_h M1 _ h; omega
  | succ k ih =>
    intro a W J x9_h M1 ha hk hs hc hb hf hW hd
    have xl := tr_af_le (g := g) (N := N) a (fun x hx => gl x (by omega))
    have xg := tr_af_ge (g := g) (N := N) a
    refine w_il8 (n := 65) dX6_bestFrom_63 rfl ?_
    refine w_al0 (n := 66) dX6_bestFrom_65 rfl ?_
    refine g_R (n := 69) f_X6_26_6 pl_60 rf_60_0 dX6_bestFrom_66 rfl ?_
    refine g_I (n := 72) f_X6_64_10 pl_14 dX6_bestFrom_69 rfl ?_
    rw [hs.count, hc4_h]
    refine w_ic_gt (n := 75) 176 dX6_bestFrom_72 (by decide) rfl (fun z72_h => ?_) (fun z72_h => ?_)
    · skip
      refine w_il3 (n := 177) dX6_bestFrom_176 rfl ?_
      refine w_il5 (n := 179) dX6_bestFrom_177 rfl ?_
      refine w_ic_ne (n := 182) 192 dX6_bestFrom_179 (by decide) rfl (fun z179_h => ?_) (fun z179_h => ?_)
      · skip
        refine w_al0 (n := 193) dX6_bestFrom_192 rfl ?_
        refine g_R (n := 196) f_X6_22_6 pl_60 rf_60_3 dX6_bestFrom_193 rfl ?_
        refine w_il1 (n := 197) dX6_bestFrom_196 rfl ?_
        refine w_il6 (n := 199) dX6_bestFrom_197 rfl ?_
        refine i_iast (n := 200) pl_68 (j := l) rfl (by omega) (by decide) dX6_bestFrom_199 rfl ?_
        refine w_il5 (n := 202) dX6_bestFrom_200 rfl ?_
        refine w_retI dX6_bestFrom_202 rfl ?_
        rw [nI_ltI (by omega) (by omega)] at z72_h
        have e : a = c := by omega
        subst e
        first | (rw [nI_eq (by omega) (by omega)] at z179_h; rw [if_pos z179_h] at hW; rw [pk_mul, nI_add, ← hW]; exact hq _ (hf.put (by unfold cBP; omega)) dk_put_s (fun i hi => by rw [dk_put_k (by omega)]; exact hd i hi)) | (rw [nI_eq (by omega) (by omega)] at z179_h; have hW2 : (tr_af g N (a + 1)).2.2 = W := hW.trans ((congrArg (fun y => W + y) (if_neg z179_h)).trans (Nat.add_zero W)); rw [← hW2]; exact hq _ (hf.put (by unfold cBP; omega)) dk_put_s (fun i hi => by rw [dk_put_k (by omega)]; exact hd i hi))
      · skip
        refine w_il6 (n := 184) dX6_bestFrom_182 rfl ?_
        refine w_il7 (n := 186) dX6_bestFrom_184 rfl ?_
        refine w_il4 (n := 188) dX6_bestFrom_186 rfl ?_
        refine w_imul (n := 189) dX6_bestFrom_188 rfl ?_
        refine w_iadd (n := 190) dX6_bestFrom_189 rfl ?_
        refine w_is6 (n := 192) dX6_bestFrom_190 rfl rfl (by decide) ?_
        refine w_al0 (n := 193) dX6_bestFrom_192 rfl ?_
        refine g_R (n := 196) f_X6_22_6 pl_60 rf_60_3 dX6_bestFrom_193 rfl ?_
        refine w_il1 (n := 197) dX6_bestFrom_196 rfl ?_
        refine w_il6 (n := 199) dX6_bestFrom_197 rfl ?_
        refine i_iast (n := 200) pl_68 (j := l) rfl (by omega) (by decide) dX6_bestFrom_199 rfl ?_
        refine w_il5 (n := 202) dX6_bestFrom_200 rfl ?_
        refine w_retI dX6_bestFrom_202 rfl ?_
        rw [nI_ltI (by omega) (by omega)] at z72_h
        have e : a = c := by omega
        subst e
        first | (rw [nI_eq (by omega) (by omega)] at z179_h; rw [if_pos z179_h] at hW; rw [pk_mul, nI_add, ← hW]; exact hq _ (hf.put (by unfold cBP; omega)) dk_put_s (fun i hi => by rw [dk_put_k (by omega)]; exact hd i hi)) | (rw [nI_eq (by omega) (by omega)] at z179_h; have hW2 : (tr_af g N (a + 1)).2.2 = W := hW.trans ((congrArg (fun y => W + y) (if_neg z179_h)).trans (Nat.add_zero W)); rw [← hW2]; exact hq _ (hf.put (by unfold cBP; omega)) dk_put_s (fun i hi => by rw [dk_put_k (by omega)]; exact hd i hi))
    · skip
      have hac : a < c := by rw [nI_ltI (by omega) (by omega)] at z72_h; omega
      have ga := gl (a + 1) (by omega)
      have g0_h := gl 0 (by omega)
      refine w_al0 (n := 76) dX6_bestFrom_75 rfl ?_
      refine g_R (n := 79) f_X6_26_6 pl_60 rf_60_0 dX6_bestFrom_76 rfl ?_
      refine w_al0 (n := 80) dX6_bestFrom_79 rfl ?_
      refine g_R (n := 83) f_X6_11_6 pl_60 rf_60_1 dX6_bestFrom_80 rfl ?_
      refine w_il1 (n := 84) dX6_bestFrom_83 rfl ?_
      refine i_aaldM (n := 85) pl_61 (j := l) rfl (by omega) (by decide) rf.1 dX6_bestFrom_84 rfl ?_
      refine w_il8 (n := 87) dX6_bestFrom_85 rfl ?_
      refine w_iconst (n := 88) (nI 1) dX6_bestFrom_87 (by decide) rfl ?_
      refine w_isub (n := 89) dX6_bestFrom_88 rfl ?_
      rw [q_pm1 (by omega), Nat.add_sub_cancel]
      refine w_cV2 (n := 92) pl_14 cl_10 s0_X10_isIdle k_X6_68 (Nat.le_of_ble_eq_true rfl) dX6_bestFrom_89 rfl (c10_isIdle hs o m0_h hc (h := a) (by omega) hb (fun M2 gY idl => ?_) (fun M2 gY idl => ?_))
      · skip
        refine w_if_eq (n := 95) 101 dX6_bestFrom_92 (by decide) rfl (fun h => absurd h (by decide)) (fun _ => ?_)
        have hs2_h := hs.Y gY
        have hc2_h := hc.Y m0_h gY
        have hb2_h := hb.Y gY
        have f2_h : dk_fr (cBP l) M M2 := hf.tr (gY.up (fun q k z => Or.inl z))
        have gi : g (a + 1) = g 0 := by rw [hg]; unfold sg_gt; rw [show sg_goes w σ (sg_ot (a + 1)) = sg_goes w σ (sg_ot 0) from sg_idle_goes o idl]
        have hd2_h : ∀ i, i < m + 1 → M2.1 (63 + l) (l + i) = nI (pl_d (c + 1) (m + 1) (tr_af g N (a + 1)).2.1 i) := fun i hi => by rw [gY.2 _ _ (by unfold cY; omega)]; exact hd i hi
        refine w_inc7 (n := 98) (nI 1) dX6_bestFrom_95 (by decide) rfl rfl (by decide) ?_
        refine w_goto 170 dX6_bestFrom_98 (by decide) ?_
        refine w_inc8 (n := 173) (nI 1) dX6_bestFrom_170 (by decide) rfl rfl (by decide) ?_
        refine w_goto 63 dX6_bestFrom_173 (by decide) ?_
        first | (have q := bl_i gi hW; rw [nI_add, nI_add]; rw [← q.1]; exact ih (a + 1) W (J + 1) _ M2 (by omega) (by omega) hs2_h hc2_h hb2_h f2_h q.2.2 (fun i hi => by rw [show (tr_af g N (a + 1 + 1)).2.1 = _ from q.2.1]; exact hd2_h i hi)) | (have z9_h := z154_h; rw [nI_eq (by omega) (by omega)] at z9_h; have q := bl_e z9_h hW; rw [nI_add, nI_add]; rw [← q.1]; exact ih (a + 1) (W + (g (a + 1)).2.2) J _ M4 (by omega) (by omega) hs4_h hc4m hb4_h f4_h q.2.2 (fun i hi => by rw [show (tr_af g N (a + 1 + 1)).2.1 = _ from q.2.1]; exact hd4_h i hi)) | (have z8_h := z154_h; rw [nI_eq (by omega) (by omega)] at z8_h; have z9_h := z123_h; rw [q_le (by omega) (by omega)] at z9_h; have q := bl_l (g := g) (N := N) (a := a) (by omega); rw [nI_add]; rw [← q]; exact ih (a + 1) W J _ M4 (by omega) (by omega) hs4_h hc4m hb4_h f4_h (by rw [show tr_af g N (a + 1 + 1) = _ from q]; exact hW) (fun i hi => by rw [show tr_af g N (a + 1 + 1) = _ from q]; exact hd4_h i hi)) | (have z9_h := z123_h; rw [q_le (by omega) (by omega)] at z9_h; have q := bl_g (g := g) (N := N) (a := a) (J := J) (by omega); rw [nI_add]; rw [← q.1]; exact ih (a + 1) (g (a + 1)).2.2 J _ M5 (by omega) (by omega) (hs4_h.B f45_h) (hc4m.B (by omega) f45_h) (hb4_h.B f45_h) (f4_h.tr f45_h) q.2.2 (fun i hi => by rw [show (tr_af g N (a + 1 + 1)).2.1 = _ from q.2.1, hN]; exact hd5_h i hi))
      · skip
        refine w_if_eq (n := 95) 101 dX6_bestFrom_92 (by decide) rfl (fun _ => ?_) (fun h => absurd (by decide) h)
        have hs2_h := hs.Y gY
        have hc2_h := hc.Y m0_h gY
        have hb2_h := hb.Y gY
        have f2_h : dk_fr (cBP l) M M2 := hf.tr (gY.up (fun q k z => Or.inl z))
        refine w_al0 (n := 102) dX6_bestFrom_101 rfl ?_
        refine w_il1 (n := 103) dX6_bestFrom_102 rfl ?_
        refine w_il8 (n := 105) dX6_bestFrom_103 rfl ?_
        refine w_cV2 (n := 108) pl_60 cl_6 s0_X6_goDeeper k_X6_53 (Nat.le_of_ble_eq_true rfl) dX6_bestFrom_105 rfl (c6_deep hs2_h o (by omega) hc2_h (t := some a) (fun h e => by cases e; omega) hb2_h (fun M3 a1_h a2_h => ?_))
        refine w_al0 (n := 109) dX6_bestFrom_108 rfl ?_
        refine w_il1 (n := 110) dX6_bestFrom_109 rfl ?_
        refine w_iconst (n := 111) (nI 1) dX6_bestFrom_110 (by decide) rfl ?_
        refine w_iadd (n := 112) dX6_bestFrom_111 rfl ?_
        refine w_il2 (n := 113) dX6_bestFrom_112 rfl ?_
        have f23_h : dk_fr (cX (sg_lv (l + 1))) M2 M3 := a2_h.up (fun q k z => by unfold cX; unfold cY at z; omega)
        have m1_h := lv_mo (l := l + 1) (by omega)
        have hs3_h : cs (sg_goes w σ (some a)).1 M3 := (hs2_h.X m1_h f23_h).eqv sg_eqv.goes
        have hb3_h := hb2_h.X m1_h f23_h
        rw [nI_add]
        refine w_cV2 (n := 116) pl_60 cl_6 s0_X6_bestFrom k_X6_57 (Nat.le_of_ble_eq_true rfl) dX6_bestFrom_113 rfl (hIH (sg_goes w σ (some a)).1 M3 _ (og (a + 1) (by omega)) hs3_h a1_h hb3_h (fun M4 b1_h b2_h b3_h => ?_))
        have f4_h : dk_fr (cBP l) M M4 := (f2_h.tr (a2_h.up (fun q k z => by unfold cBP sg_lv cY at *; omega))).tr (b1_h.up (fun q k z => cBP_up z))
        have f24_h : dk_fr (cBP l) M2 M4 := (a2_h.up (fun q k z => by unfold cBP sg_lv cY at *; omega)).tr (b1_h.up (fun q k z => cBP_up z))
        have hs4_h := hs2_h.B f24_h
        have hc4m := hc2_h.B (by omega) f24_h
        have hb4_h := hb2_h.B f24_h
        rw [hys, show (sg_goes w σ (some a)).1 4 = c from (sg_goes_o (by omega) (by omega)).trans hc4_h] at b2_h b3_h
        rw [hys, show (sg_goes w σ (some a)).1 4 = c from (sg_goes_o (by omega) (by omega)).trans hc4_h]
        have eg1_h : (sg_goes w σ (some a)).2 + (sg_tb w (c + 1) m (sg_goes w σ (some a)).1).1 = (g (a + 1)).1 := by rw [hg]; rfl
        have eg2_h : (sg_tb w (c + 1) m (sg_goes w σ (some a)).1).2.2 = (g (a + 1)).2.2 := by rw [hg]; rfl
        have eg3_h : (sg_tb w (c + 1) m (sg_goes w σ (some a)).1).2.1 = (g (a + 1)).2.1 := by rw [hg]; rfl
        rw [eg2_h] at b2_h
        rw [eg3_h] at b3_h
        have hd4_h : ∀ i, i < m + 1 → M4.1 (63 + l) (l + i) = nI (pl_d (c + 1) (m + 1) (tr_af g N (a + 1)).2.1 i) := fun i hi => by rw [b1_h.2 _ _ (by unfold cBP sg_lv cY; omega), a2_h.2 _ _ (by unfold sg_lv cY; omega), gY.2 _ _ (by unfold cY; omega)]; exact hd i hi
        refine w_iadd (n := 117) dX6_bestFrom_116 rfl ?_
        rw [nI_add, eg1_h]
        refine w_is9 (n := 119) dX6_bestFrom_117 rfl rfl (by decide) ?_
        refine w_il9 (n := 121) dX6_bestFrom_119 rfl ?_
        refine w_il5 (n := 123) dX6_bestFrom_121 rfl ?_
        refine w_ic_le (n := 126) 150 dX6_bestFrom_123 (by decide) rfl (fun z123_h => ?_) (fun z123_h => ?_)
        · skip
          refine w_il9 (n := 152) dX6_bestFrom_150 rfl ?_
          refine w_il5 (n := 154) dX6_bestFrom_152 rfl ?_
          refine w_ic_ne (n := 157) 170 dX6_bestFrom_154 (by decide) rfl (fun z154_h => ?_) (fun z154_h => ?_)
          · skip
            refine w_inc8 (n := 173) (nI 1) dX6_bestFrom_170 (by decide) rfl rfl (by decide) ?_
            refine w_goto 63 dX6_bestFrom_173 (by decide) ?_
            first | (have q := bl_i gi hW; rw [nI_add, nI_add]; rw [← q.1]; exact ih (a + 1) W (J + 1) _ M2 (by omega) (by omega) hs2_h hc2_h hb2_h f2_h q.2.2 (fun i hi => by rw [show (tr_af g N (a + 1 + 1)).2.1 = _ from q.2.1]; exact hd2_h i hi)) | (have z9_h := z154_h; rw [nI_eq (by omega) (by omega)] at z9_h; have q := bl_e z9_h hW; rw [nI_add, nI_add]; rw [← q.1]; exact ih (a + 1) (W + (g (a + 1)).2.2) J _ M4 (by omega) (by omega) hs4_h hc4m hb4_h f4_h q.2.2 (fun i hi => by rw [show (tr_af g N (a + 1 + 1)).2.1 = _ from q.2.1]; exact hd4_h i hi)) | (have z8_h := z154_h; rw [nI_eq (by omega) (by omega)] at z8_h; have z9_h := z123_h; rw [q_le (by omega) (by omega)] at z9_h; have q := bl_l (g := g) (N := N) (a := a) (by omega); rw [nI_add]; rw [← q]; exact ih (a + 1) W J _ M4 (by omega) (by omega) hs4_h hc4m hb4_h f4_h (by rw [show tr_af g N (a + 1 + 1) = _ from q]; exact hW) (fun i hi => by rw [show tr_af g N (a + 1 + 1) = _ from q]; exact hd4_h i hi)) | (have z9_h := z123_h; rw [q_le (by omega) (by omega)] at z9_h; have q := bl_g (g := g) (N := N) (a := a) (J := J) (by omega); rw [nI_add]; rw [← q.1]; exact ih (a + 1) (g (a + 1)).2.2 J _ M5 (by omega) (by omega) (hs4_h.B f45_h) (hc4m.B (by omega) f45_h) (hb4_h.B f45_h) (f4_h.tr f45_h) q.2.2 (fun i hi => by rw [show (tr_af g N (a + 1 + 1)).2.1 = _ from q.2.1, hN]; exact hd5_h i hi))
          · skip
            refine w_il6 (n := 159) dX6_bestFrom_157 rfl ?_
            refine w_al0 (n := 160) dX6_bestFrom_159 rfl ?_
            refine g_R (n := 163) f_X6_22_6 pl_60 rf_60_3 dX6_bestFrom_160 rfl ?_
            refine w_il1 (n := 164) dX6_bestFrom_163 rfl ?_
            refine w_iconst (n := 165) (nI 1) dX6_bestFrom_164 (by decide) rfl ?_
            refine w_iadd (n := 166) dX6_bestFrom_165 rfl ?_
            refine i_iald (n := 167) pl_68 (j := l + 1) (by rw [nI_add]) (by omega) (by decide) b2_h dX6_bestFrom_166 rfl ?_
            refine w_iadd (n := 168) dX6_bestFrom_167 rfl ?_
            refine w_is6 (n := 170) dX6_bestFrom_168 rfl rfl (by decide) ?_
            refine w_inc8 (n := 173) (nI 1) dX6_bestFrom_170 (by decide) rfl rfl (by decide) ?_
            refine w_goto 63 dX6_bestFrom_173 (by decide) ?_
            first | (have q := bl_i gi hW; rw [nI_add, nI_add]; rw [← q.1]; exact ih (a + 1) W (J + 1) _ M2 (by omega) (by omega) hs2_h hc2_h hb2_h f2_h q.2.2 (fun i hi => by rw [show (tr_af g N (a + 1 + 1)).2.1 = _ from q.2.1]; exact hd2_h i hi)) | (have z9_h := z154_h; rw [nI_eq (by omega) (by omega)] at z9_h; have q := bl_e z9_h hW; rw [nI_add, nI_add]; rw [← q.1]; exact ih (a + 1) (W + (g (a + 1)).2.2) J _ M4 (by omega) (by omega) hs4_h hc4m hb4_h f4_h q.2.2 (fun i hi => by rw [show (tr_af g N (a + 1 + 1)).2.1 = _ from q.2.1]; exact hd4_h i hi)) | (have z8_h := z154_h; rw [nI_eq (by omega) (by omega)] at z8_h; have z9_h := z123_h; rw [q_le (by omega) (by omega)] at z9_h; have q := bl_l (g := g) (N := N) (a := a) (by omega); rw [nI_add]; rw [← q]; exact ih (a + 1) W J _ M4 (by omega) (by omega) hs4_h hc4m hb4_h f4_h (by rw [show tr_af g N (a + 1 + 1) = _ from q]; exact hW) (fun i hi => by rw [show tr_af g N (a + 1 + 1) = _ from q]; exact hd4_h i hi)) | (have z9_h := z123_h; rw [q_le (by omega) (by omega)] at z9_h; have q := bl_g (g := g) (N := N) (a := a) (J := J) (by omega); rw [nI_add]; rw [← q.1]; exact ih (a + 1) (g (a + 1)).2.2 J _ M5 (by omega) (by omega) (hs4_h.B f45_h) (hc4m.B (by omega) f45_h) (hb4_h.B f45_h) (f4_h.tr f45_h) q.2.2 (fun i hi => by rw [show (tr_af g N (a + 1 + 1)).2.1 = _ from q.2.1, hN]; exact hd5_h i hi))
        · skip
          refine w_il9 (n := 128) dX6_bestFrom_126 rfl ?_
          refine w_is5 (n := 130) dX6_bestFrom_128 rfl rfl (by decide) ?_
          refine w_al0 (n := 131) dX6_bestFrom_130 rfl ?_
          refine g_R (n := 134) f_X6_22_6 pl_60 rf_60_3 dX6_bestFrom_131 rfl ?_
          refine w_il1 (n := 135) dX6_bestFrom_134 rfl ?_
          refine w_iconst (n := 136) (nI 1) dX6_bestFrom_135 (by decide) rfl ?_
          refine w_iadd (n := 137) dX6_bestFrom_136 rfl ?_
          refine i_iald (n := 138) pl_68 (j := l + 1) (by rw [nI_add]) (by omega) (by decide) b2_h dX6_bestFrom_137 rfl ?_
          refine w_is6 (n := 140) dX6_bestFrom_138 rfl rfl (by decide) ?_
          refine w_al0 (n := 141) dX6_bestFrom_140 rfl ?_
          refine w_il1 (n := 142) dX6_bestFrom_141 rfl ?_
          refine w_il8 (n := 144) dX6_bestFrom_142 rfl ?_
          refine w_cV2 (n := 147) pl_60 cl_6 s0_X6_noteFirst k_X6_60 (Nat.le_of_ble_eq_true rfl) dX6_bestFrom_144 rfl (c6_note (l := l) (by omega) (fun M5 e1_h e2_h e3_h => ?_))
          have f45_h : dk_fr (cBP l) M4 M5 := e1_h.up (fun q k z => by unfold cBP; omega)
          have hd5_h : ∀ i, i < m + 1 → M5.1 (63 + l) (l + i) = nI (pl_d (c + 1) (m + 1) ((a + 1) * (c + 1) ^ m + (g (a + 1)).2.1) i) := fun i hi => by
            cases i with
            | zero => rw [pl_d_0 (by omega) (by omega) (by rw [← eg3_h]; exact (tl (a + 1) (by omega)).2)]; exact e2_h
            | succ i => rw [pl_d_s (by omega) (by omega), ← b3_h i (by omega), show l + (i + 1) = l + 1 + i by omega, e3_h (l + 1 + i) (by omega) (by omega), show 64 + l = 63 + (l + 1) by omega]
          refine w_goto 170 dX6_bestFrom_147 (by decide) ?_
          refine w_inc8 (n := 173) (nI 1) dX6_bestFrom_170 (by decide) rfl rfl (by decide) ?_
          refine w_goto 63 dX6_bestFrom_173 (by decide) ?_
          first | (have q := bl_i gi hW; rw [nI_add, nI_add]; rw [← q.1]; exact ih (a + 1) W (J + 1) _ M2 (by omega) (by omega) hs2_h hc2_h hb2_h f2_h q.2.2 (fun i hi => by rw [show (tr_af g N (a + 1 + 1)).2.1 = _ from q.2.1]; exact hd2_h i hi)) | (have z9_h := z154_h; rw [nI_eq (by omega) (by omega)] at z9_h; have q := bl_e z9_h hW; rw [nI_add, nI_add]; rw [← q.1]; exact ih (a + 1) (W + (g (a + 1)).2.2) J _ M4 (by omega) (by omega) hs4_h hc4m hb4_h f4_h q.2.2 (fun i hi => by rw [show (tr_af g N (a + 1 + 1)).2.1 = _ from q.2.1]; exact hd4_h i hi)) | (have z8_h := z154_h; rw [nI_eq (by omega) (by omega)] at z8_h; have z9_h := z123_h; rw [q_le (by omega) (by omega)] at z9_h; have q := bl_l (g := g) (N := N) (a := a) (by omega); rw [nI_add]; rw [← q]; exact ih (a + 1) W J _ M4 (by omega) (by omega) hs4_h hc4m hb4_h f4_h (by rw [show tr_af g N (a + 1 + 1) = _ from q]; exact hW) (fun i hi => by rw [show tr_af g N (a + 1 + 1) = _ from q]; exact hd4_h i hi)) | (have z9_h := z123_h; rw [q_le (by omega) (by omega)] at z9_h; have q := bl_g (g := g) (N := N) (a := a) (J := J) (by omega); rw [nI_add]; rw [← q.1]; exact ih (a + 1) (g (a + 1)).2.2 J _ M5 (by omega) (by omega) (hs4_h.B f45_h) (hc4m.B (by omega) f45_h) (hb4_h.B f45_h) (f4_h.tr f45_h) q.2.2 (fun i hi => by rw [show (tr_af g N (a + 1 + 1)).2.1 = _ from q.2.1, hN]; exact hd5_h i hi))
