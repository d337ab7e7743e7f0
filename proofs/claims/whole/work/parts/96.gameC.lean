/-! ===== a game in the component ===== -/
def c6_GP (w : sg_R) (n : Nat) (b : Bool) (l D : Nat) : Prop := ∀ (σ : Nat → Nat) (M : dk_Mem) (Q : Option Value → dk_Mem → Prop), sg_ok σ → cs σ M → cm (sg_lv l) σ M → cbb w M → (∀ M2, dk_fr (cBP l) M M2 → (∀ m, sg_ys σ (n - l) = m + 1 → M2.1 (63 + l) l = nI (gm_c b (sg_gg w (σ 4) m b σ) (σ 4 + 1))) → Q (some (.int (nI (sg_gv w (σ 4) (sg_ys σ (n - l)) b σ)))) M2) → dk_Call D mX6_gameFrom [.ref 60, .int (nI l), .int (nI n)] M Q
theorem q_ev : ∀ l, l < 5 → (nI l &&& nI 1 = 0 ↔ l % 2 = 0) := by decide +kernel

set_option maxRecDepth 20000 in
theorem c6_gL1 {d r : Nat} {M : dk_Mem} {Q : Option Value → dk_Mem → Prop} {w : sg_R} {n l c m : Nat} {σ : Nat → Nat} {g : Nat → Nat} (hIH : c6_GP w n false (l + 1) (d + r + 8)) (hn : n ≤ 4) (hl : l < n) (o : sg_ok σ) (hc4_h : σ 4 = c) (hy : σ 1 < σ 0) (hm : sg_ys σ (n - l) = m + 1) (hg : g = sg_gg w c m true σ) (hq : ∀ M2, dk_fr (cBP l) M M2 → M2.1 (63 + l) l = nI (gm_c true g (c + 1)) → Q (some (.int (nI (gm_f true g (c + 1))))) M2) : ∀ (k a : Nat) (x7_h : Option Value) (M1 : dk_Mem), a ≤ c → c - a < k → cs σ M1 → cm (sg_lv l) σ M1 → cbb w M1 → dk_fr (cBP l) M M1 → dk_W (d + (r + 1) + 8) mX6_gameFrom 46 [some (.ref 60), some (.int (nI l)), some (.int (nI n)), some (.int (nI 1)), some (.int (nI (gm_f true g (a + 1)))), some (.int (nI (gm_c true g (a + 1)))), some (.int (nI (a + 1))), x7_h] [] M1 Q := by
  have o4_h := o.2.2.2.1
  have o16_h := o.2.1
  have yl := sg_ys_le (σ := σ) (n := n - l)
  have rf := lv_rf l (by omega)
  have m0_h := lv_mo (l := l) (by omega)
  have t6_h : ∀ x, x ≤ c → ∀ h, sg_ot x = some h → h < σ 4 := fun x hx h e => by have := sg_ot_lt hx h e; omega
  have hys : ∀ t, sg_ys (sg_goes w σ t).1 (n - (l + 1)) = m := fun t => by have := sg_ys_s (w := w) hl hy t; omega
  have og : ∀ x, x ≤ c → sg_ok (sg_goes w σ (sg_ot x)).1 := fun x hx => o.goes (fun h e => by have := t6_h x hx h e; omega) (by omega)
  have yg : ∀ x, m ≤ (sg_goes w σ (sg_ot x)).1 0 - (sg_goes w σ (sg_ot x)).1 1 := fun x => by rw [sg_goes_1, sg_goes_o (by omega) (by omega)]; omega
  have gl : ∀ x, x ≤ c → g x ≤ 100 := fun x hx => by have h1_h := sg_goes_le (w := w) o (t := sg_ot x) (fun h e => by have := t6_h x hx h e; omega); have h2_h := sg_gv_le (w := w) (c := c) (by omega) m (!true) (sg_goes w σ (sg_ot x)).1 (og x hx) (yg x); rw [hg]; unfold sg_gg; omega
  intro k
  induction k with
  | zero => intro a x7_h M1 _ h; omega
  | succ k ih =>
    intro a x7_h M1 ha hk hs hc hb hf
    have xl := gm_le (b := true) (g := g) (B := 100) a (fun x hx => gl x (by omega))
    refine w_il6 (n := 48) dX6_gameFrom_46 rfl ?_
    refine w_al0 (n := 49) dX6_gameFrom_48 rfl ?_
    refine g_R (n := 52) f_X6_26_6 pl_60 rf_60_0 dX6_gameFrom_49 rfl ?_
    refine g_I (n := 55) f_X6_64_10 pl_14 dX6_gameFrom_52 rfl ?_
    rw [hs.count, hc4_h]
    refine w_ic_gt (n := 58) 134 dX6_gameFrom_55 (by decide) rfl (fun z55_h => ?_) (fun z55_h => ?_)
    · skip
      refine w_al0 (n := 135) dX6_gameFrom_134 rfl ?_
      refine g_R (n := 138) f_X6_19_6 pl_60 rf_60_2 dX6_gameFrom_135 rfl ?_
      refine w_il1 (n := 139) dX6_gameFrom_138 rfl ?_
      refine i_aaldI (n := 140) pl_62 (j := l) rfl (by omega) (by decide) rf.2.1 dX6_gameFrom_139 rfl ?_
      refine w_il1 (n := 141) dX6_gameFrom_140 rfl ?_
      refine w_il5 (n := 143) dX6_gameFrom_141 rfl ?_
      refine i_iast (n := 144) rf.2.2 (j := l) rfl (by omega) (by decide) dX6_gameFrom_143 rfl ?_
      refine w_il4 (n := 146) dX6_gameFrom_144 rfl ?_
      refine w_retI dX6_gameFrom_146 rfl ?_
      rw [nI_ltI (by omega) (by omega)] at z55_h
      have e : a = c := by omega
      subst e
      exact hq _ (hf.put (by unfold cBP; omega)) dk_put_s
    · skip
      have hac : a < c := by rw [nI_ltI (by omega) (by omega)] at z55_h; omega
      have ga := gl (a + 1) (by omega)
      refine w_al0 (n := 59) dX6_gameFrom_58 rfl ?_
      refine g_R (n := 62) f_X6_26_6 pl_60 rf_60_0 dX6_gameFrom_59 rfl ?_
      refine w_al0 (n := 63) dX6_gameFrom_62 rfl ?_
      refine g_R (n := 66) f_X6_11_6 pl_60 rf_60_1 dX6_gameFrom_63 rfl ?_
      refine w_il1 (n := 67) dX6_gameFrom_66 rfl ?_
      refine i_aaldM (n := 68) pl_61 (j := l) rfl (by omega) (by decide) rf.1 dX6_gameFrom_67 rfl ?_
      refine w_il6 (n := 70) dX6_gameFrom_68 rfl ?_
      refine w_iconst (n := 71) (nI 1) dX6_gameFrom_70 (by decide) rfl ?_
      refine w_isub (n := 72) dX6_gameFrom_71 rfl ?_
      rw [q_pm1 (by omega), Nat.add_sub_cancel]
      refine w_cV2 (n := 75) pl_14 cl_10 s0_X10_isIdle k_X6_68 (Nat.le_of_ble_eq_true rfl) dX6_gameFrom_72 rfl (c10_isIdle hs o m0_h hc (h := a) (by omega) hb (fun M2 gY idl => ?_) (fun M2 gY idl => ?_))
      · skip
        refine w_if_eq (n := 78) 81 dX6_gameFrom_75 (by decide) rfl (fun h => absurd h (by decide)) (fun _ => ?_)
        have hs2_h := hs.Y gY
        have hc2_h := hc.Y m0_h gY
        have hb2_h := hb.Y gY
        have f2_h : dk_fr (cBP l) M M2 := hf.tr (gY.up (fun q k z => Or.inl z))
        have h2_h : g (a + 1) = g 0 := by
          rw [hg]
          show (sg_goes w σ (sg_ot (a + 1))).2 + sg_gv w c m (!true) (sg_goes w σ (sg_ot (a + 1))).1 = (sg_goes w σ (sg_ot 0)).2 + sg_gv w c m (!true) (sg_goes w σ (sg_ot 0)).1
          rw [show sg_goes w σ (sg_ot (a + 1)) = sg_goes w σ (sg_ot 0) from sg_idle_goes o idl]
        have gi := gm_i (b := true) h2_h
        refine w_goto 128 dX6_gameFrom_78 (by decide) ?_
        refine w_inc6 (n := 131) (nI 1) dX6_gameFrom_128 (by decide) rfl rfl (by decide) ?_
        refine w_goto 46 dX6_gameFrom_131 (by decide) ?_
        rw [nI_add]
        first | (have gg := ih (a + 1) x7_h M2 (by omega) (by omega) hs2_h hc2_h hb2_h f2_h; rw [show gm_f true g (a + 1 + 1) = _ from gi.1, show gm_c true g (a + 1 + 1) = _ from gi.2] at gg; exact gg) | (have zy := z107_h; rw [q_le (by omega) (by omega)] at zy; have gi := gm_y (b := true) (g := g) (a := a) (by rw [gm_t]; omega); have gg := ih (a + 1) (some (.int (nI (g (a + 1))))) M4 (by omega) (by omega) hs4_h hc4m hb4_h f4_h; rw [show gm_f true g (a + 1 + 1) = _ from gi.1, show gm_c true g (a + 1 + 1) = _ from gi.2] at gg; exact gg) | (have zy := z107_h; rw [q_le (by omega) (by omega)] at zy; have gi := gm_n (b := true) (g := g) (a := a) (by rw [gm_t]; omega); have gg := ih (a + 1) (some (.int (nI (g (a + 1))))) M4 (by omega) (by omega) hs4_h hc4m hb4_h f4_h; rw [show gm_f true g (a + 1 + 1) = _ from gi.1, show gm_c true g (a + 1 + 1) = _ from gi.2] at gg; exact gg)
      · skip
        refine w_if_eq (n := 78) 81 dX6_gameFrom_75 (by decide) rfl (fun _ => ?_) (fun h => absurd (by decide) h)
        have hs2_h := hs.Y gY
        have hc2_h := hc.Y m0_h gY
        have hb2_h := hb.Y gY
        have f2_h : dk_fr (cBP l) M M2 := hf.tr (gY.up (fun q k z => Or.inl z))
        refine w_al0 (n := 82) dX6_gameFrom_81 rfl ?_
        refine w_il1 (n := 83) dX6_gameFrom_82 rfl ?_
        refine w_il6 (n := 85) dX6_gameFrom_83 rfl ?_
        refine w_cV2 (n := 88) pl_60 cl_6 s0_X6_goDeeper k_X6_53 (Nat.le_of_ble_eq_true rfl) dX6_gameFrom_85 rfl (c6_deep hs2_h o (by omega) hc2_h (t := some a) (fun h e => by cases e; omega) hb2_h (fun M3 a1_h a2_h => ?_))
        refine w_al0 (n := 89) dX6_gameFrom_88 rfl ?_
        refine w_il1 (n := 90) dX6_gameFrom_89 rfl ?_
        refine w_iconst (n := 91) (nI 1) dX6_gameFrom_90 (by decide) rfl ?_
        refine w_iadd (n := 92) dX6_gameFrom_91 rfl ?_
        refine w_il2 (n := 93) dX6_gameFrom_92 rfl ?_
        have f23_h : dk_fr (cX (sg_lv (l + 1))) M2 M3 := a2_h.up (fun q k z => by unfold cX; unfold cY at z; omega)
        have m1_h := lv_mo (l := l + 1) (by omega)
        have hs3_h : cs (sg_goes w σ (some a)).1 M3 := (hs2_h.X m1_h f23_h).eqv sg_eqv.goes
        have hb3_h := hb2_h.X m1_h f23_h
        rw [nI_add]
        refine w_cV2 (n := 96) pl_60 cl_6 s0_X6_gameFrom k_X6_87 (Nat.le_of_ble_eq_true rfl) dX6_gameFrom_93 rfl (hIH (sg_goes w σ (some a)).1 M3 _ (og (a + 1) (by omega)) hs3_h a1_h hb3_h (fun M4 b1_h b2_h => ?_))
        have f24_h : dk_fr (cBP l) M2 M4 := (a2_h.up (fun q k z => by unfold cBP sg_lv cY at *; omega)).tr (b1_h.up (fun q k z => cBP_up z))
        have f4_h := f2_h.tr f24_h
        have hs4_h := hs2_h.B f24_h
        have hc4m := hc2_h.B (by omega) f24_h
        have hb4_h := hb2_h.B f24_h
        rw [hys, show (sg_goes w σ (some a)).1 4 = c from (sg_goes_o (by omega) (by omega)).trans hc4_h]
        have eg : (sg_goes w σ (some a)).2 + sg_gv w c m false (sg_goes w σ (some a)).1 = g (a + 1) := by rw [hg]; rfl
        refine w_iadd (n := 97) dX6_gameFrom_96 rfl ?_
        rw [nI_add, eg]
        refine w_is7 (n := 99) dX6_gameFrom_97 rfl rfl (by decide) ?_
        refine w_il3 (n := 100) dX6_gameFrom_99 rfl ?_
        refine w_if_eq (n := 103) 113 dX6_gameFrom_100 (by decide) rfl (fun h => absurd h (by decide)) (fun _ => ?_)
        refine w_il7 (n := 105) dX6_gameFrom_103 rfl ?_
        refine w_il4 (n := 107) dX6_gameFrom_105 rfl ?_
        refine w_ic_le (n := 110) 128 dX6_gameFrom_107 (by decide) rfl (fun z107_h => ?_) (fun z107_h => ?_)
        · skip
          refine w_inc6 (n := 131) (nI 1) dX6_gameFrom_128 (by decide) rfl rfl (by decide) ?_
          refine w_goto 46 dX6_gameFrom_131 (by decide) ?_
          rw [nI_add]
          first | (have gg := ih (a + 1) x7_h M2 (by omega) (by omega) hs2_h hc2_h hb2_h f2_h; rw [show gm_f true g (a + 1 + 1) = _ from gi.1, show gm_c true g (a + 1 + 1) = _ from gi.2] at gg; exact gg) | (have zy := z107_h; rw [q_le (by omega) (by omega)] at zy; have gi := gm_y (b := true) (g := g) (a := a) (by rw [gm_t]; omega); have gg := ih (a + 1) (some (.int (nI (g (a + 1))))) M4 (by omega) (by omega) hs4_h hc4m hb4_h f4_h; rw [show gm_f true g (a + 1 + 1) = _ from gi.1, show gm_c true g (a + 1 + 1) = _ from gi.2] at gg; exact gg) | (have zy := z107_h; rw [q_le (by omega) (by omega)] at zy; have gi := gm_n (b := true) (g := g) (a := a) (by rw [gm_t]; omega); have gg := ih (a + 1) (some (.int (nI (g (a + 1))))) M4 (by omega) (by omega) hs4_h hc4m hb4_h f4_h; rw [show gm_f true g (a + 1 + 1) = _ from gi.1, show gm_c true g (a + 1 + 1) = _ from gi.2] at gg; exact gg)
        · skip
          refine w_goto 120 dX6_gameFrom_110 (by decide) ?_
          refine w_il7 (n := 122) dX6_gameFrom_120 rfl ?_
          refine w_is4 (n := 124) dX6_gameFrom_122 rfl rfl (by decide) ?_
          refine w_il6 (n := 126) dX6_gameFrom_124 rfl ?_
          refine w_is5 (n := 128) dX6_gameFrom_126 rfl rfl (by decide) ?_
          refine w_inc6 (n := 131) (nI 1) dX6_gameFrom_128 (by decide) rfl rfl (by decide) ?_
          refine w_goto 46 dX6_gameFrom_131 (by decide) ?_
          rw [nI_add]
          first | (have gg := ih (a + 1) x7_h M2 (by omega) (by omega) hs2_h hc2_h hb2_h f2_h; rw [show gm_f true g (a + 1 + 1) = _ from gi.1, show gm_c true g (a + 1 + 1) = _ from gi.2] at gg; exact gg) | (have zy := z107_h; rw [q_le (by omega) (by omega)] at zy; have gi := gm_y (b := true) (g := g) (a := a) (by rw [gm_t]; omega); have gg := ih (a + 1) (some (.int (nI (g (a + 1))))) M4 (by omega) (by omega) hs4_h hc4m hb4_h f4_h; rw [show gm_f true g (a + 1 + 1) = _ from gi.1, show gm_c true g (a + 1 + 1) = _ from gi.2] at gg; exact gg) | (have zy := z107_h; rw [q_le (by omega) (by omega)] at zy; have gi := gm_n (b := true) (g := g) (a := a) (by rw [gm_t]; omega); have gg := ih (a + 1) (some (.int (nI (g (a + 1))))) M4 (by omega) (by omega) hs4_h hc4m hb4_h f4_h; rw [show gm_f true g (a + 1 + 1) = _ from gi.1, show gm_c true g (a + 1 + 1) = _ from gi.2] at gg; exact gg)

set_option maxRecDepth 20000 in
theorem c6_gL0 {d r : Nat} {M : dk_Mem} {Q : Option Value → dk_Mem → Prop} {w : sg_R} {n l c m : Nat} {σ : Nat → Nat} {g : Nat → Nat} (hIH : c6_GP w n true (l + 1) (d + r + 8)) (hn : n ≤ 4) (hl : l < n) (o : sg_ok σ) (hc4_h : σ 4 = c) (hy : σ 1 < σ 0) (hm : sg_ys σ (n - l) = m + 1) (hg : g = sg_gg w c m false σ) (hq : ∀ M2, dk_fr (cBP l) M M2 → M2.1 (63 + l) l = nI (gm_c false g (c + 1)) → Q (some (.int (nI (gm_f false g (c + 1))))) M2) : ∀ (k a : Nat) (x7_h : Option Value) (M1 : dk_Mem), a ≤ c → c - a < k → cs σ M1 → cm (sg_lv l) σ M1 → cbb w M1 → dk_fr (cBP l) M M1 → dk_W (d + (r + 1) + 8) mX6_gameFrom 46 [some (.ref 60), some (.int (nI l)), some (.int (nI n)), some (.int (nI 0)), some (.int (nI (gm_f false g (a + 1)))), some (.int (nI (gm_c false g (a + 1)))), some (.int (nI (a + 1))), x7_h] [] M1 Q := by
  have o4_h := o.2.2.2.1
  have o16_h := o.2.1
  have yl := sg_ys_le (σ := σ) (n := n - l)
  have rf := lv_rf l (by omega)
  have m0_h := lv_mo (l := l) (by omega)
  have t6_h : ∀ x, x ≤ c → ∀ h, sg_ot x = some h → h < σ 4 := fun x hx h e => by have := sg_ot_lt hx h e; omega
  have hys : ∀ t, sg_ys (sg_goes w σ t).1 (n - (l + 1)) = m := fun t => by have := sg_ys_s (w := w) hl hy t; omega
  have og : ∀ x, x ≤ c → sg_ok (sg_goes w σ (sg_ot x)).1 := fun x hx => o.goes (fun h e => by have := t6_h x hx h e; omega) (by omega)
  have yg : ∀ x, m ≤ (sg_goes w σ (sg_ot x)).1 0 - (sg_goes w σ (sg_ot x)).1 1 := fun x => by rw [sg_goes_1, sg_goes_o (by omega) (by omega)]; omega
  have gl : ∀ x, x ≤ c → g x ≤ 100 := fun x hx => by have h1_h := sg_goes_le (w := w) o (t := sg_ot x) (fun h e => by have := t6_h x hx h e; omega); have h2_h := sg_gv_le (w := w) (c := c) (by omega) m (!false) (sg_goes w σ (sg_ot x)).1 (og x hx) (yg x); rw [hg]; unfold sg_gg; omega
  intro k
  induction k with
  | zero => intro a x7_h M1 _ h; omega
  | succ k ih =>
    intro a x7_h M1 ha hk hs hc hb hf
    have xl := gm_le (b := false) (g := g) (B := 100) a (fun x hx => gl x (by omega))
    refine w_il6 (n := 48) dX6_gameFrom_46 rfl ?_
    refine w_al0 (n := 49) dX6_gameFrom_48 rfl ?_
    refine g_R (n := 52) f_X6_26_6 pl_60 rf_60_0 dX6_gameFrom_49 rfl ?_
    refine g_I (n := 55) f_X6_64_10 pl_14 dX6_gameFrom_52 rfl ?_
    rw [hs.count, hc4_h]
    refine w_ic_gt (n := 58) 134 dX6_gameFrom_55 (by decide) rfl (fun z55_h => ?_) (fun z55_h => ?_)
    · skip
      refine w_al0 (n := 135) dX6_gameFrom_134 rfl ?_
      refine g_R (n := 138) f_X6_19_6 pl_60 rf_60_2 dX6_gameFrom_135 rfl ?_
      refine w_il1 (n := 139) dX6_gameFrom_138 rfl ?_
      refine i_aaldI (n := 140) pl_62 (j := l) rfl (by omega) (by decide) rf.2.1 dX6_gameFrom_139 rfl ?_
      refine w_il1 (n := 141) dX6_gameFrom_140 rfl ?_
      refine w_il5 (n := 143) dX6_gameFrom_141 rfl ?_
      refine i_iast (n := 144) rf.2.2 (j := l) rfl (by omega) (by decide) dX6_gameFrom_143 rfl ?_
      refine w_il4 (n := 146) dX6_gameFrom_144 rfl ?_
      refine w_retI dX6_gameFrom_146 rfl ?_
      rw [nI_ltI (by omega) (by omega)] at z55_h
      have e : a = c := by omega
      subst e
      exact hq _ (hf.put (by unfold cBP; omega)) dk_put_s
    · skip
      have hac : a < c := by rw [nI_ltI (by omega) (by omega)] at z55_h; omega
      have ga := gl (a + 1) (by omega)
      refine w_al0 (n := 59) dX6_gameFrom_58 rfl ?_
      refine g_R (n := 62) f_X6_26_6 pl_60 rf_60_0 dX6_gameFrom_59 rfl ?_
      refine w_al0 (n := 63) dX6_gameFrom_62 rfl ?_
      refine g_R (n := 66) f_X6_11_6 pl_60 rf_60_1 dX6_gameFrom_63 rfl ?_
      refine w_il1 (n := 67) dX6_gameFrom_66 rfl ?_
      refine i_aaldM (n := 68) pl_61 (j := l) rfl (by omega) (by decide) rf.1 dX6_gameFrom_67 rfl ?_
      refine w_il6 (n := 70) dX6_gameFrom_68 rfl ?_
      refine w_iconst (n := 71) (nI 1) dX6_gameFrom_70 (by decide) rfl ?_
      refine w_isub (n := 72) dX6_gameFrom_71 rfl ?_
      rw [q_pm1 (by omega), Nat.add_sub_cancel]
      refine w_cV2 (n := 75) pl_14 cl_10 s0_X10_isIdle k_X6_68 (Nat.le_of_ble_eq_true rfl) dX6_gameFrom_72 rfl (c10_isIdle hs o m0_h hc (h := a) (by omega) hb (fun M2 gY idl => ?_) (fun M2 gY idl => ?_))
      · skip
        refine w_if_eq (n := 78) 81 dX6_gameFrom_75 (by decide) rfl (fun h => absurd h (by decide)) (fun _ => ?_)
        have hs2_h := hs.Y gY
        have hc2_h := hc.Y m0_h gY
        have hb2_h := hb.Y gY
        have f2_h : dk_fr (cBP l) M M2 := hf.tr (gY.up (fun q k z => Or.inl z))
        have h2_h : g (a + 1) = g 0 := by
          rw [hg]
          show (sg_goes w σ (sg_ot (a + 1))).2 + sg_gv w c m (!false) (sg_goes w σ (sg_ot (a + 1))).1 = (sg_goes w σ (sg_ot 0)).2 + sg_gv w c m (!false) (sg_goes w σ (sg_ot 0)).1
          rw [show sg_goes w σ (sg_ot (a + 1)) = sg_goes w σ (sg_ot 0) from sg_idle_goes o idl]
        have gi := gm_i (b := false) h2_h
        refine w_goto 128 dX6_gameFrom_78 (by decide) ?_
        refine w_inc6 (n := 131) (nI 1) dX6_gameFrom_128 (by decide) rfl rfl (by decide) ?_
        refine w_goto 46 dX6_gameFrom_131 (by decide) ?_
        rw [nI_add]
        first | (have gg := ih (a + 1) x7_h M2 (by omega) (by omega) hs2_h hc2_h hb2_h f2_h; rw [show gm_f false g (a + 1 + 1) = _ from gi.1, show gm_c false g (a + 1 + 1) = _ from gi.2] at gg; exact gg) | (have zy := z117_h; rw [q_le (by omega) (by omega)] at zy; have gi := gm_y (b := false) (g := g) (a := a) (by rw [gm_u]; omega); have gg := ih (a + 1) (some (.int (nI (g (a + 1))))) M4 (by omega) (by omega) hs4_h hc4m hb4_h f4_h; rw [show gm_f false g (a + 1 + 1) = _ from gi.1, show gm_c false g (a + 1 + 1) = _ from gi.2] at gg; exact gg) | (have zy := z117_h; rw [q_le (by omega) (by omega)] at zy; have gi := gm_n (b := false) (g := g) (a := a) (by rw [gm_u]; omega); have gg := ih (a + 1) (some (.int (nI (g (a + 1))))) M4 (by omega) (by omega) hs4_h hc4m hb4_h f4_h; rw [show gm_f false g (a + 1 + 1) = _ from gi.1, show gm_c false g (a + 1 + 1) = _ from gi.2] at gg; exact gg)
      · skip
        refine w_if_eq (n := 78) 81 dX6_gameFrom_75 (by decide) rfl (fun _ => ?_) (fun h => absurd (by decide) h)
        have hs2_h := hs.Y gY
        have hc2_h := hc.Y m0_h gY
        have hb2_h := hb.Y gY
        have f2_h : dk_fr (cBP l) M M2 := hf.tr (gY.up (fun q k z => Or.inl z))
        refine w_al0 (n := 82) dX6_gameFrom_81 rfl ?_
        refine w_il1 (n := 83) dX6_gameFrom_82 rfl ?_
        refine w_il6 (n := 85) dX6_gameFrom_83 rfl ?_
        refine w_cV2 (n := 88) pl_60 cl_6 s0_X6_goDeeper k_X6_53 (Nat.le_of_ble_eq_true rfl) dX6_gameFrom_85 rfl (c6_deep hs2_h o (by omega) hc2_h (t := some a) (fun h e => by cases e; omega) hb2_h (fun M3 a1_h a2_h => ?_))
        refine w_al0 (n := 89) dX6_gameFrom_88 rfl ?_
        refine w_il1 (n := 90) dX6_gameFrom_89 rfl ?_
        refine w_iconst (n := 91) (nI 1) dX6_gameFrom_90 (by decide) rfl ?_
        refine w_iadd (n := 92) dX6_gameFrom_91 rfl ?_
        refine w_il2 (n := 93) dX6_gameFrom_92 rfl ?_
        have f23_h : dk_fr (cX (sg_lv (l + 1))) M2 M3 := a2_h.up (fun q k z => by unfold cX; unfold cY at z; omega)
        have m1_h := lv_mo (l := l + 1) (by omega)
        have hs3_h : cs (sg_goes w σ (some a)).1 M3 := (hs2_h.X m1_h f23_h).eqv sg_eqv.goes
        have hb3_h := hb2_h.X m1_h f23_h
        rw [nI_add]
        refine w_cV2 (n := 96) pl_60 cl_6 s0_X6_gameFrom k_X6_87 (Nat.le_of_ble_eq_true rfl) dX6_gameFrom_93 rfl (hIH (sg_goes w σ (some a)).1 M3 _ (og (a + 1) (by omega)) hs3_h a1_h hb3_h (fun M4 b1_h b2_h => ?_))
        have f24_h : dk_fr (cBP l) M2 M4 := (a2_h.up (fun q k z => by unfold cBP sg_lv cY at *; omega)).tr (b1_h.up (fun q k z => cBP_up z))
        have f4_h := f2_h.tr f24_h
        have hs4_h := hs2_h.B f24_h
        have hc4m := hc2_h.B (by omega) f24_h
        have hb4_h := hb2_h.B f24_h
        rw [hys, show (sg_goes w σ (some a)).1 4 = c from (sg_goes_o (by omega) (by omega)).trans hc4_h]
        have eg : (sg_goes w σ (some a)).2 + sg_gv w c m true (sg_goes w σ (some a)).1 = g (a + 1) := by rw [hg]; rfl
        refine w_iadd (n := 97) dX6_gameFrom_96 rfl ?_
        rw [nI_add, eg]
        refine w_is7 (n := 99) dX6_gameFrom_97 rfl rfl (by decide) ?_
        refine w_il3 (n := 100) dX6_gameFrom_99 rfl ?_
        refine w_if_eq (n := 103) 113 dX6_gameFrom_100 (by decide) rfl (fun _ => ?_) (fun h => absurd (by decide) h)
        refine w_il7 (n := 115) dX6_gameFrom_113 rfl ?_
        refine w_il4 (n := 117) dX6_gameFrom_115 rfl ?_
        refine w_ic_ge (n := 120) 128 dX6_gameFrom_117 (by decide) rfl (fun z117_h => ?_) (fun z117_h => ?_)
        · skip
          refine w_inc6 (n := 131) (nI 1) dX6_gameFrom_128 (by decide) rfl rfl (by decide) ?_
          refine w_goto 46 dX6_gameFrom_131 (by decide) ?_
          rw [nI_add]
          first | (have gg := ih (a + 1) x7_h M2 (by omega) (by omega) hs2_h hc2_h hb2_h f2_h; rw [show gm_f false g (a + 1 + 1) = _ from gi.1, show gm_c false g (a + 1 + 1) = _ from gi.2] at gg; exact gg) | (have zy := z117_h; rw [q_le (by omega) (by omega)] at zy; have gi := gm_y (b := false) (g := g) (a := a) (by rw [gm_u]; omega); have gg := ih (a + 1) (some (.int (nI (g (a + 1))))) M4 (by omega) (by omega) hs4_h hc4m hb4_h f4_h; rw [show gm_f false g (a + 1 + 1) = _ from gi.1, show gm_c false g (a + 1 + 1) = _ from gi.2] at gg; exact gg) | (have zy := z117_h; rw [q_le (by omega) (by omega)] at zy; have gi := gm_n (b := false) (g := g) (a := a) (by rw [gm_u]; omega); have gg := ih (a + 1) (some (.int (nI (g (a + 1))))) M4 (by omega) (by omega) hs4_h hc4m hb4_h f4_h; rw [show gm_f false g (a + 1 + 1) = _ from gi.1, show gm_c false g (a + 1 + 1) = _ from gi.2] at gg; exact gg)
        · skip
          refine w_il7 (n := 122) dX6_gameFrom_120 rfl ?_
          refine w_is4 (n := 124) dX6_gameFrom_122 rfl rfl (by decide) ?_
          refine w_il6 (n := 126) dX6_gameFrom_124 rfl ?_
          refine w_is5 (n := 128) dX6_gameFrom_126 rfl rfl (by decide) ?_
          refine w_inc6 (n := 131) (nI 1) dX6_gameFrom_128 (by decide) rfl rfl (by decide) ?_
          refine w_goto 46 dX6_gameFrom_131 (by decide) ?_
          rw [nI_add]
          first | (have gg := ih (a + 1) x7_h M2 (by omega) (by omega) hs2_h hc2_h hb2_h f2_h; rw [show gm_f false g (a + 1 + 1) = _ from gi.1, show gm_c false g (a + 1 + 1) = _ from gi.2] at gg; exact gg) | (have zy := z117_h; rw [q_le (by omega) (by omega)] at zy; have gi := gm_y (b := false) (g := g) (a := a) (by rw [gm_u]; omega); have gg := ih (a + 1) (some (.int (nI (g (a + 1))))) M4 (by omega) (by omega) hs4_h hc4m hb4_h f4_h; rw [show gm_f false g (a + 1 + 1) = _ from gi.1, show gm_c false g (a + 1 + 1) = _ from gi.2] at gg; exact gg) | (have zy := z117_h; rw [q_le (by omega) (by omega)] at zy; have gi := gm_n (b := false) (g := g) (a := a) (by rw [gm_u]; omega); have gg := ih (a + 1) (some (.int (nI (g (a + 1))))) M4 (by omega) (by omega) hs4_h hc4m hb4_h f4_h; rw [show gm_f false g (a + 1 + 1) = _ from gi.1, show gm_c false g (a + 1 + 1) = _ from gi.2] at gg; exact gg)

set_option maxRecDepth 20000 in
theorem c6_gW1 {d r : Nat} {w : sg_R} {n l m : Nat} {σ : Nat → Nat} {M : dk_Mem} {Q : Option Value → dk_Mem → Prop} (hn : n ≤ 4) (o : sg_ok σ) (hs : cs σ M) (hc : cm (sg_lv l) σ M) (hb : cbb w M) (c1_h : l < n) (c3_h : σ 1 < σ 0) (hm : sg_ys σ (n - l) = m + 1) (hIH2 : c6_GP w n false (l + 1) (d + r + 8)) (hq : ∀ M2, dk_fr (cBP l) M M2 → M2.1 (63 + l) l = nI (gm_c true (sg_gg w (σ 4) m true σ) (σ 4 + 1)) → Q (some (.int (nI (gm_f true (sg_gg w (σ 4) m true σ) (σ 4 + 1))))) M2) {x3_h x4_h x5_h x6_h x7_h : Option Value} : dk_W (d + (r + 1) + 8) mX6_gameFrom 22 [some (.ref 60), some (.int (nI l)), some (.int (nI n)), x3_h, x4_h, x5_h, x6_h, x7_h] [.int (nI 1)] M Q := by
  have o4_h := o.2.2.2.1
  have o16_h := o.2.1
  have yl := sg_ys_le (σ := σ) (n := n - l)
  have hys : sg_ys (sg_goes w σ none).1 (n - (l + 1)) = m := by have := sg_ys_s (w := w) c1_h c3_h none; omega
  have og : sg_ok (sg_goes w σ none).1 := o.goes (fun h e => by cases e) (by omega)
  refine w_is3 (n := 23) dX6_gameFrom_22 rfl rfl (by decide) ?_
  refine w_al0 (n := 24) dX6_gameFrom_23 rfl ?_
  refine w_il1 (n := 25) dX6_gameFrom_24 rfl ?_
  refine w_iconst (n := 26) (nI 0) dX6_gameFrom_25 (by decide) rfl ?_
  refine w_cV2 (n := 29) pl_60 cl_6 s0_X6_goDeeper k_X6_53 (Nat.le_of_ble_eq_true rfl) dX6_gameFrom_26 rfl (c6_deep hs o (by omega) hc (t := none) (fun h e => by cases e) hb (fun M3 a1_h a2_h => ?_))
  refine w_al0 (n := 30) dX6_gameFrom_29 rfl ?_
  refine w_il1 (n := 31) dX6_gameFrom_30 rfl ?_
  refine w_iconst (n := 32) (nI 1) dX6_gameFrom_31 (by decide) rfl ?_
  refine w_iadd (n := 33) dX6_gameFrom_32 rfl ?_
  refine w_il2 (n := 34) dX6_gameFrom_33 rfl ?_
  have f23_h : dk_fr (cX (sg_lv (l + 1))) M M3 := a2_h.up (fun q k z => by unfold cX; unfold cY at z; omega)
  have m1_h := lv_mo (l := l + 1) (by omega)
  have hs3_h : cs (sg_goes w σ none).1 M3 := (hs.X m1_h f23_h).eqv sg_eqv.goes
  have hb3_h := hb.X m1_h f23_h
  rw [nI_add]
  refine w_cV2 (n := 37) pl_60 cl_6 s0_X6_gameFrom k_X6_87 (Nat.le_of_ble_eq_true rfl) dX6_gameFrom_34 rfl (hIH2 (sg_goes w σ none).1 M3 _ og hs3_h a1_h hb3_h (fun M4 b1_h b2_h => ?_))
  have f4_h : dk_fr (cBP l) M M4 := (a2_h.up (fun q k z => by unfold cBP sg_lv cY at *; omega)).tr (b1_h.up (fun q k z => cBP_up z))
  have e4_h : (sg_goes w σ none).1 4 = σ 4 := sg_goes_o (by omega) (by omega)
  rw [hys, e4_h]
  have eg : (sg_goes w σ none).2 + sg_gv w (σ 4) m false (sg_goes w σ none).1 = gm_f true (sg_gg w (σ 4) m true σ) (0 + 1) := rfl
  refine w_iadd (n := 38) dX6_gameFrom_37 rfl ?_
  rw [nI_add, eg]
  refine w_is4 (n := 40) dX6_gameFrom_38 rfl rfl (by decide) ?_
  refine w_iconst (n := 41) (nI 0) dX6_gameFrom_40 (by decide) rfl ?_
  refine w_is5 (n := 43) dX6_gameFrom_41 rfl rfl (by decide) ?_
  refine w_iconst (n := 44) (nI 1) dX6_gameFrom_43 (by decide) rfl ?_
  refine w_is6 (n := 46) dX6_gameFrom_44 rfl rfl (by decide) ?_
  exact c6_gL1 hIH2 hn c1_h o rfl c3_h hm rfl hq (σ 4 + 1) 0 _ M4 (by omega) (by omega) (hs.B f4_h) (hc.B (by omega) f4_h) (hb.B f4_h) f4_h

set_option maxRecDepth 20000 in
theorem c6_gW0 {d r : Nat} {w : sg_R} {n l m : Nat} {σ : Nat → Nat} {M : dk_Mem} {Q : Option Value → dk_Mem → Prop} (hn : n ≤ 4) (o : sg_ok σ) (hs : cs σ M) (hc : cm (sg_lv l) σ M) (hb : cbb w M) (c1_h : l < n) (c3_h : σ 1 < σ 0) (hm : sg_ys σ (n - l) = m + 1) (hIH2 : c6_GP w n true (l + 1) (d + r + 8)) (hq : ∀ M2, dk_fr (cBP l) M M2 → M2.1 (63 + l) l = nI (gm_c false (sg_gg w (σ 4) m false σ) (σ 4 + 1)) → Q (some (.int (nI (gm_f false (sg_gg w (σ 4) m false σ) (σ 4 + 1))))) M2) {x3_h x4_h x5_h x6_h x7_h : Option Value} : dk_W (d + (r + 1) + 8) mX6_gameFrom 22 [some (.ref 60), some (.int (nI l)), some (.int (nI n)), x3_h, x4_h, x5_h, x6_h, x7_h] [.int (nI 0)] M Q := by
  have o4_h := o.2.2.2.1
  have o16_h := o.2.1
  have yl := sg_ys_le (σ := σ) (n := n - l)
  have hys : sg_ys (sg_goes w σ none).1 (n - (l + 1)) = m := by have := sg_ys_s (w := w) c1_h c3_h none; omega
  have og : sg_ok (sg_goes w σ none).1 := o.goes (fun h e => by cases e) (by omega)
  refine w_is3 (n := 23) dX6_gameFrom_22 rfl rfl (by decide) ?_
  refine w_al0 (n := 24) dX6_gameFrom_23 rfl ?_
  refine w_il1 (n := 25) dX6_gameFrom_24 rfl ?_
  refine w_iconst (n := 26) (nI 0) dX6_gameFrom_25 (by decide) rfl ?_
  refine w_cV2 (n := 29) pl_60 cl_6 s0_X6_goDeeper k_X6_53 (Nat.le_of_ble_eq_true rfl) dX6_gameFrom_26 rfl (c6_deep hs o (by omega) hc (t := none) (fun h e => by cases e) hb (fun M3 a1_h a2_h => ?_))
  refine w_al0 (n := 30) dX6_gameFrom_29 rfl ?_
  refine w_il1 (n := 31) dX6_gameFrom_30 rfl ?_
  refine w_iconst (n := 32) (nI 1) dX6_gameFrom_31 (by decide) rfl ?_
  refine w_iadd (n := 33) dX6_gameFrom_32 rfl ?_
  refine w_il2 (n := 34) dX6_gameFrom_33 rfl ?_
  have f23_h : dk_fr (cX (sg_lv (l + 1))) M M3 := a2_h.up (fun q k z => by unfold cX; unfold cY at z; omega)
  have m1_h := lv_mo (l := l + 1) (by omega)
  have hs3_h : cs (sg_goes w σ none).1 M3 := (hs.X m1_h f23_h).eqv sg_eqv.goes
  have hb3_h := hb.X m1_h f23_h
  rw [nI_add]
  refine w_cV2 (n := 37) pl_60 cl_6 s0_X6_gameFrom k_X6_87 (Nat.le_of_ble_eq_true rfl) dX6_gameFrom_34 rfl (hIH2 (sg_goes w σ none).1 M3 _ og hs3_h a1_h hb3_h (fun M4 b1_h b2_h => ?_))
  have f4_h : dk_fr (cBP l) M M4 := (a2_h.up (fun q k z => by unfold cBP sg_lv cY at *; omega)).tr (b1_h.up (fun q k z => cBP_up z))
  have e4_h : (sg_goes w σ none).1 4 = σ 4 := sg_goes_o (by omega) (by omega)
  rw [hys, e4_h]
  have eg : (sg_goes w σ none).2 + sg_gv w (σ 4) m true (sg_goes w σ none).1 = gm_f false (sg_gg w (σ 4) m false σ) (0 + 1) := rfl
  refine w_iadd (n := 38) dX6_gameFrom_37 rfl ?_
  rw [nI_add, eg]
  refine w_is4 (n := 40) dX6_gameFrom_38 rfl rfl (by decide) ?_
  refine w_iconst (n := 41) (nI 0) dX6_gameFrom_40 (by decide) rfl ?_
  refine w_is5 (n := 43) dX6_gameFrom_41 rfl rfl (by decide) ?_
  refine w_iconst (n := 44) (nI 1) dX6_gameFrom_43 (by decide) rfl ?_
  refine w_is6 (n := 46) dX6_gameFrom_44 rfl rfl (by decide) ?_
  exact c6_gL0 hIH2 hn c1_h o rfl c3_h hm rfl hq (σ 4 + 1) 0 _ M4 (by omega) (by omega) (hs.B f4_h) (hc.B (by omega) f4_h) (hb.B f4_h) f4_h

set_option maxRecDepth 20000 in
theorem c6_gS1 {d r : Nat} {w : sg_R} {n l : Nat} (hn : n ≤ 4) (hl4_h : l ≤ 4) (he : l % 2 = 0) (hIH : l < n → c6_GP w n false (l + 1) (d + r + 8)) : c6_GP w n true l (d + (r + 1) + 8) := by
  intro σ M Q o hs hc hb hq
  have o4_h := o.2.2.2.1
  have o16_h := o.2.1
  have ev := q_ev l (by omega)
  refine dk_enter [some (.ref 60), some (.int (nI l)), some (.int (nI n)), none, none, none, none, none] (by decide) (fun _ => rfl) (fun _ => Nat.le_of_ble_eq_true rfl) ?_
  refine w_al0 (n := 1) dX6_gameFrom_0 rfl ?_
  refine w_il1 (n := 2) dX6_gameFrom_1 rfl ?_
  refine w_il2 (n := 3) dX6_gameFrom_2 rfl ?_
  refine w_cV2 (n := 6) pl_60 cl_6 s0_X6_isLast k_X6_49 (Nat.le_of_ble_eq_true rfl) dX6_gameFrom_3 rfl (c6_isLast hs o hl4_h hn hc (fun lst => ?_) (fun c1_h c2_h c3_h => ?_))
  · skip
    have hm0_h : sg_ys σ (n - l) = 0 := by unfold sg_ys; omega
    rw [hm0_h] at hq
    refine w_if_eq (n := 9) 11 dX6_gameFrom_6 (by decide) rfl (fun h => absurd h (by decide)) (fun _ => ?_)
    refine w_iconst (n := 10) (nI 0) dX6_gameFrom_9 (by decide) rfl ?_
    refine w_retI dX6_gameFrom_10 rfl ?_
    exact hq M dk_fr.rf (fun m9_h e9_h => by cases e9_h)
  · skip
    have hIH2 := hIH c1_h
    obtain ⟨m, hm⟩ : ∃ m, sg_ys σ (n - l) = m + 1 := ⟨sg_ys σ (n - l) - 1, by unfold sg_ys; omega⟩
    have hq3_h := fun M2 f x => hq M2 f (fun m9_h e9_h => by rw [hm] at e9_h; cases e9_h; exact x)
    rw [hm, sg_gv_s] at hq3_h
    have yl := sg_ys_le (σ := σ) (n := n - l)
    have hys : sg_ys (sg_goes w σ none).1 (n - (l + 1)) = m := by have := sg_ys_s (w := w) c1_h c3_h none; omega
    have og : sg_ok (sg_goes w σ none).1 := o.goes (fun h e => by cases e) (by omega)
    refine w_if_eq (n := 9) 11 dX6_gameFrom_6 (by decide) rfl (fun _ => ?_) (fun h => absurd (by decide) h)
    refine w_il1 (n := 12) dX6_gameFrom_11 rfl ?_
    refine w_iconst (n := 13) (nI 1) dX6_gameFrom_12 (by decide) rfl ?_
    refine w_iand (n := 14) dX6_gameFrom_13 rfl ?_
    refine w_if_ne (n := 17) 21 dX6_gameFrom_14 (by decide) rfl (fun z14_h => ?_) (fun z14_h => ?_)
    · skip
      refine w_iconst (n := 22) (nI 0) dX6_gameFrom_21 (by decide) rfl ?_
      first | exact c6_gW1 hn o hs hc hb c1_h c3_h hm hIH2 hq3_h | (exfalso; exact z14_h (ev.mpr he))
    · skip
      refine w_iconst (n := 18) (nI 1) dX6_gameFrom_17 (by decide) rfl ?_
      refine w_goto 22 dX6_gameFrom_18 (by decide) ?_
      first | exact c6_gW1 hn o hs hc hb c1_h c3_h hm hIH2 hq3_h | (exfalso; exact z14_h (ev.mpr he))

set_option maxRecDepth 20000 in
theorem c6_gS0 {d r : Nat} {w : sg_R} {n l : Nat} (hn : n ≤ 4) (hl4_h : l ≤ 4) (he : l % 2 = 1) (hIH : l < n → c6_GP w n true (l + 1) (d + r + 8)) : c6_GP w n false l (d + (r + 1) + 8) := by
  intro σ M Q o hs hc hb hq
  have o4_h := o.2.2.2.1
  have o16_h := o.2.1
  have ev := q_ev l (by omega)
  refine dk_enter [some (.ref 60), some (.int (nI l)), some (.int (nI n)), none, none, none, none, none] (by decide) (fun _ => rfl) (fun _ => Nat.le_of_ble_eq_true rfl) ?_
  refine w_al0 (n := 1) dX6_gameFrom_0 rfl ?_
  refine w_il1 (n := 2) dX6_gameFrom_1 rfl ?_
  refine w_il2 (n := 3) dX6_gameFrom_2 rfl ?_
  refine w_cV2 (n := 6) pl_60 cl_6 s0_X6_isLast k_X6_49 (Nat.le_of_ble_eq_true rfl) dX6_gameFrom_3 rfl (c6_isLast hs o hl4_h hn hc (fun lst => ?_) (fun c1_h c2_h c3_h => ?_))
  · skip
    have hm0_h : sg_ys σ (n - l) = 0 := by unfold sg_ys; omega
    rw [hm0_h] at hq
    refine w_if_eq (n := 9) 11 dX6_gameFrom_6 (by decide) rfl (fun h => absurd h (by decide)) (fun _ => ?_)
    refine w_iconst (n := 10) (nI 0) dX6_gameFrom_9 (by decide) rfl ?_
    refine w_retI dX6_gameFrom_10 rfl ?_
    exact hq M dk_fr.rf (fun m9_h e9_h => by cases e9_h)
  · skip
    have hIH2 := hIH c1_h
    obtain ⟨m, hm⟩ : ∃ m, sg_ys σ (n - l) = m + 1 := ⟨sg_ys σ (n - l) - 1, by unfold sg_ys; omega⟩
    have hq3_h := fun M2 f x => hq M2 f (fun m9_h e9_h => by rw [hm] at e9_h; cases e9_h; exact x)
    rw [hm, sg_gv_s] at hq3_h
    have yl := sg_ys_le (σ := σ) (n := n - l)
    have hys : sg_ys (sg_goes w σ none).1 (n - (l + 1)) = m := by have := sg_ys_s (w := w) c1_h c3_h none; omega
    have og : sg_ok (sg_goes w σ none).1 := o.goes (fun h e => by cases e) (by omega)
    refine w_if_eq (n := 9) 11 dX6_gameFrom_6 (by decide) rfl (fun _ => ?_) (fun h => absurd (by decide) h)
    refine w_il1 (n := 12) dX6_gameFrom_11 rfl ?_
    refine w_iconst (n := 13) (nI 1) dX6_gameFrom_12 (by decide) rfl ?_
    refine w_iand (n := 14) dX6_gameFrom_13 rfl ?_
    refine w_if_ne (n := 17) 21 dX6_gameFrom_14 (by decide) rfl (fun z14_h => ?_) (fun z14_h => ?_)
    · skip
      refine w_iconst (n := 22) (nI 0) dX6_gameFrom_21 (by decide) rfl ?_
      first | exact c6_gW0 hn o hs hc hb c1_h c3_h hm hIH2 hq3_h | (exfalso; have zz := ev.mp z14_h; omega)
    · skip
      refine w_iconst (n := 18) (nI 1) dX6_gameFrom_17 (by decide) rfl ?_
      refine w_goto 22 dX6_gameFrom_18 (by decide) ?_
      first | exact c6_gW0 hn o hs hc hb c1_h c3_h hm hIH2 hq3_h | (exfalso; have zz := ev.mp z14_h; omega)

theorem c6_game {w : sg_R} {n : Nat} (hn : n ≤ 4) : ∀ (r l d : Nat) (b : Bool), l + r = n → (b = true ↔ l % 2 = 0) → c6_GP w n b l (d + (r + 1) + 8)
  | 0, l, d, true, h, e => c6_gS1 hn (by omega) (e.mp rfl) (fun z => by omega)
  | 0, l, d, false, h, e => c6_gS0 hn (by omega) (by have : ¬ l % 2 = 0 := fun z => Bool.noConfusion (e.mpr z); omega) (fun z => by omega)
  | r + 1, l, d, true, h, e => c6_gS1 (r := r + 1) hn (by omega) (e.mp rfl) (fun _ => c6_game hn r (l + 1) d false (by omega) (by have := e.mp rfl; constructor; (intro z; cases z); (intro z; omega)))
  | r + 1, l, d, false, h, e => c6_gS0 (r := r + 1) hn (by omega) (by have : ¬ l % 2 = 0 := fun z => Bool.noConfusion (e.mpr z); omega) (fun _ => c6_game hn r (l + 1) d true (by omega) (by have : ¬ l % 2 = 0 := fun z => Bool.noConfusion (e.mpr z); exact ⟨fun _ => by omega, fun _ => rfl⟩))
theorem c6_g0 {w : sg_R} {n : Nat} (hn : n ≤ 4) (d : Nat) : c6_GP w n true 0 (d + 13) := by
  have h := c6_game (w := w) hn n 0 (d + (4 - n)) true (by omega) ⟨fun _ => rfl, fun _ => rfl⟩
  rw [show d + (4 - n) + (n + 1) + 8 = d + 13 by omega] at h
  exact h

set_option maxRecDepth 20000 in
theorem C_game {d : Nat} {M : dk_Mem} {Q : Option Value → dk_Mem → Prop} {K : sg_K} (hK : cK K M) {n : Int32} (hq : ∀ M2, dk_fr cN M M2 → Q (some (.int (kf_game K n))) M2) : dk_Call (d + 14) mX11_game [.ref 0, .int n] M Q := by
  have hK0 := hK
  obtain ⟨⟨o, p1_h, p2_h, p3_h⟩, hs, hc, hb, hcr, hsc, hz, β, hβ, hβ1, hβ2⟩ := hK0
  have o4_h := o.2.2.2.1
  have o16_h := o.2.1
  have hm : dk_mo 22 := Or.inl rfl
  refine dk_enter [some (.ref 0), some (.int n)] (by decide) (fun _ => rfl) (fun _ => Nat.le_of_ble_eq_true rfl) ?_
  refine w_il1 (n := 1) dX11_game_0 rfl ?_
  refine w_iconst (n := 2) (nI 1) dX11_game_1 (by decide) rfl ?_
  refine w_iconst (n := 3) (nI 4) dX11_game_2 (by decide) rfl ?_
  refine w_cS3 (n := 6) s0_X11_within k_X11_112 (Nat.le_of_ble_eq_true rfl) dX11_game_3 rfl (c_within (fun t3_h => ?_) (fun t3_h => ?_))
  · skip
    refine w_if_ne (n := 9) 11 dX11_game_6 (by decide) rfl (fun _ => ?_) (fun h => absurd h (by decide))
    have hn := tN_of (n := 4) (by decide) (Int32.le_trans (by decide) t3_h.1) t3_h.2
    have n1_h : 1 ≤ tN n := by have y := t3_h.1; rw [hn.1, q_le (by decide) (by omega)] at y; exact y
    have en : Value.int n = Value.int (nI (tN n)) := by rw [← hn.1]
    rw [en]
    refine w_al0 (n := 12) dX11_game_11 rfl ?_
    refine g_R (n := 15) f_X11_52_11 pl_0 rf_0_4 dX11_game_12 rfl ?_
    refine w_cV0 (n := 18) pl_60 cl_6 s0_X6_start k_X11_251 (Nat.le_of_ble_eq_true rfl) dX11_game_15 rfl (c6_start hs o hm hc (fun M2 k1_h k2_h => ?_))
    have f0_h : dk_fr cN M M2 := k2_h.up (fun q k z => by unfold cN; omega)
    have hs0_h : cs K.1 M2 := hs.fr f0_h (fun q k _ _ z => by unfold cN at z; omega)
    have hb0_h : cbb K.2.1 M2 := hb.fr f0_h (fun q k z => Or.inr (Or.inr z))
    refine w_al0 (n := 19) dX11_game_18 rfl ?_
    refine g_R (n := 22) f_X11_52_11 pl_0 rf_0_4 dX11_game_19 rfl ?_
    refine w_iconst (n := 23) (nI 0) dX11_game_22 (by decide) rfl ?_
    refine w_il1 (n := 24) dX11_game_23 rfl ?_
    refine w_cV2 (n := 27) pl_60 cl_6 s0_X6_gameFrom k_X11_278 (Nat.le_of_ble_eq_true rfl) dX11_game_24 rfl (c6_g0 hn.2 d K.1 M2 _ o hs0_h k1_h hb0_h (fun M3 b1_h b2_h => ?_))
    rw [Nat.sub_zero] at b2_h
    have f9_h := f0_h.tr (cBP_N b1_h)
    refine w_retI dX11_game_27 rfl ?_
    rw [show kf_game K n = nI (sg_gv K.2.1 (K.1 4) (sg_ys K.1 (tN n)) true K.1) from if_pos t3_h] at hq
    rw [Nat.sub_zero]
    exact hq M3 f9_h
  · skip
    refine w_if_ne (n := 9) 11 dX11_game_6 (by decide) rfl (fun h => absurd h (by decide)) (fun _ => ?_)
    refine w_iconst (n := 10) (-1) dX11_game_9 (by decide) rfl ?_
    refine w_retI dX11_game_10 rfl ?_
    rw [show kf_game K n = -1 from if_neg t3_h] at hq
    exact hq M dk_fr.rf

set_option maxRecDepth 20000 in
theorem C_play {d : Nat} {M : dk_Mem} {Q : Option Value → dk_Mem → Prop} {K : sg_K} (hK : cK K M) {n : Int32} (hq : ∀ M2, dk_fr cN M M2 → Q (some (.int (kf_play K n))) M2) : dk_Call (d + 14) mX11_play [.ref 0, .int n] M Q := by
  have hK0 := hK
  obtain ⟨⟨o, p1_h, p2_h, p3_h⟩, hs, hc, hb, hcr, hsc, hz, β, hβ, hβ1, hβ2⟩ := hK0
  have o4_h := o.2.2.2.1
  have o16_h := o.2.1
  have hm : dk_mo 22 := Or.inl rfl
  refine dk_enter [some (.ref 0), some (.int n)] (by decide) (fun _ => rfl) (fun _ => Nat.le_of_ble_eq_true rfl) ?_
  refine w_il1 (n := 1) dX11_play_0 rfl ?_
  refine w_iconst (n := 2) (nI 1) dX11_play_1 (by decide) rfl ?_
  refine w_iconst (n := 3) (nI 4) dX11_play_2 (by decide) rfl ?_
  refine w_cS3 (n := 6) s0_X11_within k_X11_112 (Nat.le_of_ble_eq_true rfl) dX11_play_3 rfl (c_within (fun t3_h => ?_) (fun t3_h => ?_))
  · skip
    refine w_if_ne (n := 9) 11 dX11_play_6 (by decide) rfl (fun _ => ?_) (fun h => absurd h (by decide))
    rw [show kf_play K n = if K.1 0 ≤ K.1 1 then -3 else nI (gm_c true (sg_gg K.2.1 (K.1 4) (sg_ys K.1 (tN n) - 1) true K.1) (K.1 4 + 1)) from if_pos t3_h] at hq
    refine w_al0 (n := 12) dX11_play_11 rfl ?_
    refine g_R (n := 15) f_X11_36_11 pl_0 rf_0_1 dX11_play_12 rfl ?_
    refine w_al0 (n := 16) dX11_play_15 rfl ?_
    refine g_R (n := 19) f_X11_36_11 pl_0 rf_0_1 dX11_play_16 rfl ?_
    refine g_R (n := 22) f_X11_127_10 pl_14 rf_14_9 dX11_play_19 rfl ?_
    refine w_cV1 (n := 25) pl_14 cl_10 s0_X10_isOver k_X11_197 (Nat.le_of_ble_eq_true rfl) dX11_play_22 rfl (c10_isOver hs o hm hc (fun t22_h => ?_) (fun t22_h => ?_))
    · skip
      refine w_if_eq (n := 28) 31 dX11_play_25 (by decide) rfl (fun h => absurd h (by decide)) (fun _ => ?_)
      refine w_bipush (n := 30) (-3) dX11_play_28 (by decide) rfl ?_
      refine w_retI dX11_play_30 rfl ?_
      rw [if_pos t22_h] at hq
      exact hq M dk_fr.rf
    · skip
      refine w_if_eq (n := 28) 31 dX11_play_25 (by decide) rfl (fun _ => ?_) (fun h => absurd (by decide) h)
      have hn := tN_of (n := 4) (by decide) (Int32.le_trans (by decide) t3_h.1) t3_h.2
      have n1_h : 1 ≤ tN n := by have y := t3_h.1; rw [hn.1, q_le (by decide) (by omega)] at y; exact y
      have en : Value.int n = Value.int (nI (tN n)) := by rw [← hn.1]
      rw [en]
      have ys1_h : sg_ys K.1 (tN n) = sg_ys K.1 (tN n) - 1 + 1 := by unfold sg_ys; omega
      rw [if_neg (by omega)] at hq
      refine w_al0 (n := 32) dX11_play_31 rfl ?_
      refine g_R (n := 35) f_X11_52_11 pl_0 rf_0_4 dX11_play_32 rfl ?_
      refine w_cV0 (n := 38) pl_60 cl_6 s0_X6_start k_X11_251 (Nat.le_of_ble_eq_true rfl) dX11_play_35 rfl (c6_start hs o hm hc (fun M2 k1_h k2_h => ?_))
      have f0_h : dk_fr cN M M2 := k2_h.up (fun q k z => by unfold cN; omega)
      have hs0_h : cs K.1 M2 := hs.fr f0_h (fun q k _ _ z => by unfold cN at z; omega)
      have hb0_h : cbb K.2.1 M2 := hb.fr f0_h (fun q k z => Or.inr (Or.inr z))
      refine w_al0 (n := 39) dX11_play_38 rfl ?_
      refine g_R (n := 42) f_X11_52_11 pl_0 rf_0_4 dX11_play_39 rfl ?_
      refine w_iconst (n := 43) (nI 0) dX11_play_42 (by decide) rfl ?_
      refine w_il1 (n := 44) dX11_play_43 rfl ?_
      refine w_cV2 (n := 47) pl_60 cl_6 s0_X6_gameFrom k_X11_278 (Nat.le_of_ble_eq_true rfl) dX11_play_44 rfl (c6_g0 hn.2 d K.1 M2 _ o hs0_h k1_h hb0_h (fun M3 b1_h b2_h => ?_))
      rw [Nat.sub_zero] at b2_h
      have f9_h := f0_h.tr (cBP_N b1_h)
      refine w_pop (n := 48) rfl dX11_play_47 rfl ?_
      refine w_al0 (n := 49) dX11_play_48 rfl ?_
      refine g_R (n := 52) f_X11_52_11 pl_0 rf_0_4 dX11_play_49 rfl ?_
      refine g_R (n := 55) f_X11_260_6 pl_60 rf_60_2 dX11_play_52 rfl ?_
      refine w_iconst (n := 56) (nI 0) dX11_play_55 (by decide) rfl ?_
      refine i_aaldI (n := 57) pl_62 (j := 0) rfl (by decide) (by decide) rf_62_0 dX11_play_56 rfl ?_
      refine w_iconst (n := 58) (nI 0) dX11_play_57 (by decide) rfl ?_
      refine i_iald (n := 59) pl_63 (j := 0) rfl (by decide) (by decide) (b2_h _ ys1_h) dX11_play_58 rfl ?_
      refine w_retI dX11_play_59 rfl ?_
      exact hq M3 f9_h
  · skip
    refine w_if_ne (n := 9) 11 dX11_play_6 (by decide) rfl (fun h => absurd h (by decide)) (fun _ => ?_)
    refine w_iconst (n := 10) (-1) dX11_play_9 (by decide) rfl ?_
    refine w_retI dX11_play_10 rfl ?_
    rw [show kf_play K n = -1 from if_neg t3_h] at hq
    exact hq M dk_fr.rf
