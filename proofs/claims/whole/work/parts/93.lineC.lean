/-! ===== the component's line and bars ===== -/
def sg_fg (w : sg_R) (c s m : Nat) (σ : Nat → Nat) (x : Nat) : Nat := sg_1 x + sg_ft w c s m (sg_goes w σ (sg_ot x)).1
def sg_rg (w : sg_R) (c m : Nat) (σ : Nat → Nat) (x : Nat) : Nat := sg_rt w c m (sg_goes w σ (sg_ot x)).1
def c6_FP (w : sg_R) (n s l D : Nat) : Prop := ∀ (σ : Nat → Nat) (M : dk_Mem) (Q : Option Value → dk_Mem → Prop), sg_ok σ → cs σ M → cm (sg_lv l) σ M → cbb w M → (∀ M2, dk_fr (cBP l) M M2 → Q (some (.int (nI (sg_ft w (σ 4) s (sg_ys σ (n - l)) σ)))) M2) → dk_Call D mX6_fewestFrom [.ref 60, .int (nI l), .int (nI n), .int (nI s)] M Q
def c6_RP (w : sg_R) (n l D : Nat) : Prop := ∀ (σ : Nat → Nat) (M : dk_Mem) (Q : Option Value → dk_Mem → Prop), sg_ok σ → cs σ M → cm (sg_lv l) σ M → cbb w M → (∀ M2, dk_fr (cBP l) M M2 → Q (some (.int (nI (sg_rt w (σ 4) (sg_ys σ (n - l)) σ)))) M2) → dk_Call D mX6_reachFrom [.ref 60, .int (nI l), .int (nI n)] M Q

set_option maxRecDepth 20000 in
theorem c6_fL {d r : Nat} {M : dk_Mem} {Q : Option Value → dk_Mem → Prop} {w : sg_R} {n l c m : Nat} {σ : Nat → Nat} {s : Nat} {g : Nat → Nat} (hIH : c6_FP w n s (l + 1) (d + r + 8)) (hn : n ≤ 4) (hl : l < n) (o : sg_ok σ) (hc4_h : σ 4 = c) (hy : σ 1 < σ 0) (hm : sg_ys σ (n - l) = m + 1) (hg : g = sg_fg w c s m σ) (hq : ∀ M2, dk_fr (cBP l) M M2 → Q (some (.int (nI (mnf g (c + 1))))) M2) : ∀ (k a : Nat) (M1 : dk_Mem), a ≤ c → c - a < k → cs σ M1 → cm (sg_lv l) σ M1 → cbb w M1 → dk_fr (cBP l) M M1 → dk_W (d + (r + 1) + 8) mX6_fewestFrom 50 [some (.ref 60), some (.int (nI l)), some (.int (nI n)), some (.int (nI s)), some (.int (nI (mnf g (a + 1)))), some (.int (nI (a + 1)))] [] M1 Q := by
  have o4_h := o.2.2.2.1
  have o16_h := o.2.1
  have yl := sg_ys_le (σ := σ) (n := n - l)
  have rf := lv_rf l (by omega)
  have m0_h := lv_mo (l := l) (by omega)
  have t6_h : ∀ x, x ≤ c → ∀ h, sg_ot x = some h → h < σ 4 := fun x hx h e => by have := sg_ot_lt hx h e; omega
  have hys : ∀ t, sg_ys (sg_goes w σ t).1 (n - (l + 1)) = m := fun t => by have := sg_ys_s (w := w) hl hy t; omega
  have og : ∀ x, x ≤ c → sg_ok (sg_goes w σ (sg_ot x)).1 := fun x hx => o.goes (fun h e => by have := t6_h x hx h e; omega) (by omega)
  have yg : ∀ x, m ≤ (sg_goes w σ (sg_ot x)).1 0 - (sg_goes w σ (sg_ot x)).1 1 := fun x => by rw [sg_goes_1, sg_goes_o (by omega) (by omega)]; omega
  have gl : ∀ x, g x ≤ 100 := fun x => by rw [hg]; unfold sg_fg sg_1; have := sg_ft_le (w := w) (c := c) (s := s) (m := m) (σ := (sg_goes w σ (sg_ot x)).1); split <;> omega
  intro k
  induction k with
  | zero => intro a M1 _ h; omega
  | succ k ih =>
    intro a M1 ha hk hs hc hb hf
    have xl := mnf_le (f := g) (a + 1)
    refine w_il5 (n := 52) dX6_fewestFrom_50 rfl ?_
    refine w_al0 (n := 53) dX6_fewestFrom_52 rfl ?_
    refine g_R (n := 56) f_X6_26_6 pl_60 rf_60_0 dX6_fewestFrom_53 rfl ?_
    refine g_I (n := 59) f_X6_64_10 pl_14 dX6_fewestFrom_56 rfl ?_
    rw [hs.count, hc4_h]
    refine w_ic_gt (n := 62) 122 dX6_fewestFrom_59 (by decide) rfl (fun z59_h => ?_) (fun z59_h => ?_)
    · skip
      refine w_il4 (n := 124) dX6_fewestFrom_122 rfl ?_
      refine w_bipush (n := 126) (nI 99) dX6_fewestFrom_124 (by decide) rfl ?_
      refine w_mmin (n := 129) dk_m3_min_X6_79 (Nat.le_of_ble_eq_true rfl) dX6_fewestFrom_126 rfl ?_
      rw [q_mi (by omega) (by omega), Nat.min_eq_left (by omega)]
      refine w_retI dX6_fewestFrom_129 rfl ?_
      first | (rw [show (0 : Int32) = nI 0 from rfl, q_le (by omega) (by omega)] at z64_h; have h9_h := mnf_anti (f := g) (n := a + 1) (c - a); rw [show a + 1 + (c - a) = c + 1 by omega] at h9_h; rw [show mnf g (a + 1) = mnf g (c + 1) by omega]; exact hq M1 hf) | (rw [nI_ltI (by omega) (by omega)] at z59_h; have e : a = c := (by omega); subst e; exact hq M1 hf)
    · skip
      have hac : a < c := by rw [nI_ltI (by omega) (by omega)] at z59_h; omega
      have ga := gl (a + 1)
      refine w_il4 (n := 64) dX6_fewestFrom_62 rfl ?_
      refine w_if_le (n := 67) 122 dX6_fewestFrom_64 (by decide) rfl (fun z64_h => ?_) (fun z64_h => ?_)
      · skip
        refine w_il4 (n := 124) dX6_fewestFrom_122 rfl ?_
        refine w_bipush (n := 126) (nI 99) dX6_fewestFrom_124 (by decide) rfl ?_
        refine w_mmin (n := 129) dk_m3_min_X6_79 (Nat.le_of_ble_eq_true rfl) dX6_fewestFrom_126 rfl ?_
        rw [q_mi (by omega) (by omega), Nat.min_eq_left (by omega)]
        refine w_retI dX6_fewestFrom_129 rfl ?_
        first | (rw [show (0 : Int32) = nI 0 from rfl, q_le (by omega) (by omega)] at z64_h; have h9_h := mnf_anti (f := g) (n := a + 1) (c - a); rw [show a + 1 + (c - a) = c + 1 by omega] at h9_h; rw [show mnf g (a + 1) = mnf g (c + 1) by omega]; exact hq M1 hf) | (rw [nI_ltI (by omega) (by omega)] at z59_h; have e : a = c := (by omega); subst e; exact hq M1 hf)
      · skip
        refine w_al0 (n := 68) dX6_fewestFrom_67 rfl ?_
        refine g_R (n := 71) f_X6_26_6 pl_60 rf_60_0 dX6_fewestFrom_68 rfl ?_
        refine w_al0 (n := 72) dX6_fewestFrom_71 rfl ?_
        refine g_R (n := 75) f_X6_11_6 pl_60 rf_60_1 dX6_fewestFrom_72 rfl ?_
        refine w_il1 (n := 76) dX6_fewestFrom_75 rfl ?_
        refine i_aaldM (n := 77) pl_61 (j := l) rfl (by omega) (by decide) rf.1 dX6_fewestFrom_76 rfl ?_
        refine w_il5 (n := 79) dX6_fewestFrom_77 rfl ?_
        refine w_iconst (n := 80) (nI 1) dX6_fewestFrom_79 (by decide) rfl ?_
        refine w_isub (n := 81) dX6_fewestFrom_80 rfl ?_
        rw [q_pm1 (by omega), Nat.add_sub_cancel]
        refine w_cV2 (n := 84) pl_14 cl_10 s0_X10_isIdle k_X6_68 (Nat.le_of_ble_eq_true rfl) dX6_fewestFrom_81 rfl (c10_isIdle hs o m0_h hc (h := a) (by omega) hb (fun M2 gY idl => ?_) (fun M2 gY idl => ?_))
        · skip
          refine w_if_eq (n := 87) 90 dX6_fewestFrom_84 (by decide) rfl (fun h => absurd h (by decide)) (fun _ => ?_)
          have hs2_h := hs.Y gY
          have hc2_h := hc.Y m0_h gY
          have hb2_h := hb.Y gY
          have f2_h : dk_fr (cBP l) M M2 := hf.tr (gY.up (fun q k z => Or.inl z))
          have gi : mnf g (a + 1 + 1) = mnf g (a + 1) := by
            have h1_h := mnf_mem (f := g) (i := 0) (a + 1) (by omega)
            have h2_h : g (a + 1) = 1 + g 0 := by
              rw [hg]
              show sg_1 (a + 1) + sg_ft w c s m (sg_goes w σ (sg_ot (a + 1))).1 = 1 + (sg_1 0 + sg_ft w c s m (sg_goes w σ (sg_ot 0)).1)
              rw [show sg_goes w σ (sg_ot (a + 1)) = sg_goes w σ (sg_ot 0) from sg_idle_goes o idl]
              show 1 + _ = 1 + (0 + _)
              omega
            rw [mnf_s]
            omega
          refine w_goto 116 dX6_fewestFrom_87 (by decide) ?_
          refine w_inc5 (n := 119) (nI 1) dX6_fewestFrom_116 (by decide) rfl rfl (by decide) ?_
          refine w_goto 50 dX6_fewestFrom_119 (by decide) ?_
          rw [nI_add]
          first | (have gg := ih (a + 1) M2 (by omega) (by omega) hs2_h hc2_h hb2_h f2_h; rw [gi] at gg; exact gg) | exact ih (a + 1) M4 (by omega) (by omega) hs4_h hc4m hb4_h f4_h
        · skip
          refine w_if_eq (n := 87) 90 dX6_fewestFrom_84 (by decide) rfl (fun _ => ?_) (fun h => absurd (by decide) h)
          have hs2_h := hs.Y gY
          have hc2_h := hc.Y m0_h gY
          have hb2_h := hb.Y gY
          have f2_h : dk_fr (cBP l) M M2 := hf.tr (gY.up (fun q k z => Or.inl z))
          refine w_al0 (n := 91) dX6_fewestFrom_90 rfl ?_
          refine w_il1 (n := 92) dX6_fewestFrom_91 rfl ?_
          refine w_il5 (n := 94) dX6_fewestFrom_92 rfl ?_
          refine w_cV2 (n := 97) pl_60 cl_6 s0_X6_goDeeper k_X6_53 (Nat.le_of_ble_eq_true rfl) dX6_fewestFrom_94 rfl (c6_deep hs2_h o (by omega) hc2_h (t := some a) (fun h e => by cases e; omega) hb2_h (fun M3 a1_h a2_h => ?_))
          refine w_pop (n := 98) rfl dX6_fewestFrom_97 rfl ?_
          refine w_il4 (n := 100) dX6_fewestFrom_98 rfl ?_
          refine w_iconst (n := 101) (nI 1) dX6_fewestFrom_100 (by decide) rfl ?_
          refine w_al0 (n := 102) dX6_fewestFrom_101 rfl ?_
          refine w_il1 (n := 103) dX6_fewestFrom_102 rfl ?_
          refine w_iconst (n := 104) (nI 1) dX6_fewestFrom_103 (by decide) rfl ?_
          refine w_iadd (n := 105) dX6_fewestFrom_104 rfl ?_
          refine w_il2 (n := 106) dX6_fewestFrom_105 rfl ?_
          refine w_il3 (n := 107) dX6_fewestFrom_106 rfl ?_
          have f23_h : dk_fr (cX (sg_lv (l + 1))) M2 M3 := a2_h.up (fun q k z => by unfold cX; unfold cY at z; omega)
          have m1_h := lv_mo (l := l + 1) (by omega)
          have hs3_h : cs (sg_goes w σ (some a)).1 M3 := (hs2_h.X m1_h f23_h).eqv sg_eqv.goes
          have hb3_h := hb2_h.X m1_h f23_h
          rw [nI_add]
          refine w_cV3 (n := 110) pl_60 cl_6 s0_X6_fewestFrom k_X6_75 (Nat.le_of_ble_eq_true rfl) dX6_fewestFrom_107 rfl (hIH (sg_goes w σ (some a)).1 M3 _ (og (a + 1) (by omega)) hs3_h a1_h hb3_h (fun M4 b1_h => ?_))
          have f24_h : dk_fr (cBP l) M2 M4 := (a2_h.up (fun q k z => by unfold cBP sg_lv cY at *; omega)).tr (b1_h.up (fun q k z => cBP_up z))
          have f4_h := f2_h.tr f24_h
          have hs4_h := hs2_h.B f24_h
          have hc4m := hc2_h.B (by omega) f24_h
          have hb4_h := hb2_h.B f24_h
          rw [hys, show (sg_goes w σ (some a)).1 4 = c from (sg_goes_o (by omega) (by omega)).trans hc4_h]
          have eg : 1 + sg_ft w c s m (sg_goes w σ (some a)).1 = g (a + 1) := by rw [hg]; rfl
          refine w_iadd (n := 111) dX6_fewestFrom_110 rfl ?_
          rw [nI_add, eg]
          refine w_mmin (n := 114) dk_m3_min_X6_79 (Nat.le_of_ble_eq_true rfl) dX6_fewestFrom_111 rfl ?_
          rw [q_mi (by omega) (by omega)]
          refine w_is4 (n := 116) dX6_fewestFrom_114 rfl rfl (by decide) ?_
          refine w_inc5 (n := 119) (nI 1) dX6_fewestFrom_116 (by decide) rfl rfl (by decide) ?_
          refine w_goto 50 dX6_fewestFrom_119 (by decide) ?_
          rw [nI_add]
          first | (have gg := ih (a + 1) M2 (by omega) (by omega) hs2_h hc2_h hb2_h f2_h; rw [gi] at gg; exact gg) | exact ih (a + 1) M4 (by omega) (by omega) hs4_h hc4m hb4_h f4_h

set_option maxRecDepth 20000 in
theorem c6_fewS {d r : Nat} {w : sg_R} {n l s : Nat} (hn : n ≤ 4) (hl4_h : l ≤ 4) (s64_h : s < 64) (hIH : l < n → c6_FP w n s (l + 1) (d + r + 8)) : c6_FP w n s l (d + (r + 1) + 8) := by
  intro σ M Q o hs hc hb hq
  have o4_h := o.2.2.2.1
  have o16_h := o.2.1
  have rf := lv_rf l (by omega)
  have m0_h := lv_mo (l := l) (by omega)
  have p64_h := sg_set_64 o
  have qs := q_subs _ p64_h _ s64_h
  refine dk_enter [some (.ref 60), some (.int (nI l)), some (.int (nI n)), some (.int (nI s)), none, none] (by decide) (fun _ => rfl) (fun _ => Nat.le_of_ble_eq_true rfl) ?_
  refine w_al0 (n := 1) dX6_fewestFrom_0 rfl ?_
  refine g_R (n := 4) f_X6_11_6 pl_60 rf_60_1 dX6_fewestFrom_1 rfl ?_
  refine w_il1 (n := 5) dX6_fewestFrom_4 rfl ?_
  refine i_aaldM (n := 6) pl_61 (j := l) rfl (by omega) (by decide) rf.1 dX6_fewestFrom_5 rfl ?_
  refine g_I (n := 9) f_X6_72_4 m0_h.is dX6_fewestFrom_6 rfl ?_
  rw [hc.2.1]
  refine w_il3 (n := 10) dX6_fewestFrom_9 rfl ?_
  refine w_iand (n := 11) dX6_fewestFrom_10 rfl ?_
  refine w_il3 (n := 12) dX6_fewestFrom_11 rfl ?_
  refine w_ic_ne (n := 15) 17 dX6_fewestFrom_12 (by decide) rfl (fun z12_h => ?_) (fun z12_h => ?_)
  · skip
    refine w_al0 (n := 18) dX6_fewestFrom_17 rfl ?_
    refine w_il1 (n := 19) dX6_fewestFrom_18 rfl ?_
    refine w_il2 (n := 20) dX6_fewestFrom_19 rfl ?_
    refine w_cV2 (n := 23) pl_60 cl_6 s0_X6_isLast k_X6_49 (Nat.le_of_ble_eq_true rfl) dX6_fewestFrom_20 rfl (c6_isLast hs o hl4_h hn hc (fun lst => ?_) (fun c1_h c2_h c3_h => ?_))
    · skip
      have hm0_h : sg_ys σ (n - l) = 0 := by unfold sg_ys; omega
      rw [hm0_h] at hq
      refine w_if_eq (n := 26) 29 dX6_fewestFrom_23 (by decide) rfl (fun h => absurd h (by decide)) (fun _ => ?_)
      refine w_bipush (n := 28) (nI 99) dX6_fewestFrom_26 (by decide) rfl ?_
      refine w_retI dX6_fewestFrom_28 rfl ?_
      rw [show sg_ft w (σ 4) s 0 σ = 99 from if_neg (fun z => z12_h (qs.mpr z))] at hq
      exact hq M dk_fr.rf
    · skip
      have hIH2 := hIH c1_h
      obtain ⟨m, hm⟩ : ∃ m, sg_ys σ (n - l) = m + 1 := ⟨sg_ys σ (n - l) - 1, by unfold sg_ys; omega⟩
      rw [hm] at hq
      have yl := sg_ys_le (σ := σ) (n := n - l)
      have hys : sg_ys (sg_goes w σ none).1 (n - (l + 1)) = m := by have := sg_ys_s (w := w) c1_h c3_h none; omega
      have og : sg_ok (sg_goes w σ none).1 := o.goes (fun h e => by cases e) (by omega)
      refine w_if_eq (n := 26) 29 dX6_fewestFrom_23 (by decide) rfl (fun _ => ?_) (fun h => absurd (by decide) h)
      refine w_al0 (n := 30) dX6_fewestFrom_29 rfl ?_
      refine w_il1 (n := 31) dX6_fewestFrom_30 rfl ?_
      refine w_iconst (n := 32) (nI 0) dX6_fewestFrom_31 (by decide) rfl ?_
      refine w_cV2 (n := 35) pl_60 cl_6 s0_X6_goDeeper k_X6_53 (Nat.le_of_ble_eq_true rfl) dX6_fewestFrom_32 rfl (c6_deep hs o (by omega) hc (t := none) (fun h e => by cases e) hb (fun M3 a1_h a2_h => ?_))
      refine w_pop (n := 36) rfl dX6_fewestFrom_35 rfl ?_
      refine w_al0 (n := 37) dX6_fewestFrom_36 rfl ?_
      refine w_il1 (n := 38) dX6_fewestFrom_37 rfl ?_
      refine w_iconst (n := 39) (nI 1) dX6_fewestFrom_38 (by decide) rfl ?_
      refine w_iadd (n := 40) dX6_fewestFrom_39 rfl ?_
      refine w_il2 (n := 41) dX6_fewestFrom_40 rfl ?_
      refine w_il3 (n := 42) dX6_fewestFrom_41 rfl ?_
      have f23_h : dk_fr (cX (sg_lv (l + 1))) M M3 := a2_h.up (fun q k z => by unfold cX; unfold cY at z; omega)
      have m1_h := lv_mo (l := l + 1) (by omega)
      have hs3_h : cs (sg_goes w σ none).1 M3 := (hs.X m1_h f23_h).eqv sg_eqv.goes
      have hb3_h := hb.X m1_h f23_h
      rw [nI_add]
      refine w_cV3 (n := 45) pl_60 cl_6 s0_X6_fewestFrom k_X6_75 (Nat.le_of_ble_eq_true rfl) dX6_fewestFrom_42 rfl (hIH2 (sg_goes w σ none).1 M3 _ og hs3_h a1_h hb3_h (fun M4 b1_h => ?_))
      have f4_h : dk_fr (cBP l) M M4 := (a2_h.up (fun q k z => by unfold cBP sg_lv cY at *; omega)).tr (b1_h.up (fun q k z => cBP_up z))
      have e4_h : (sg_goes w σ none).1 4 = σ 4 := sg_goes_o (by omega) (by omega)
      rw [hys, e4_h]
      have eg : sg_ft w (σ 4) s m (sg_goes w σ none).1 = mnf (sg_fg w (σ 4) s m σ) (0 + 1) := by
        have h9_h := sg_ft_le (w := w) (c := σ 4) (s := s) (m := m) (σ := (sg_goes w σ none).1)
        show _ = min 99 (0 + sg_ft w (σ 4) s m (sg_goes w σ none).1)
        omega
      rw [eg]
      refine w_is4 (n := 47) dX6_fewestFrom_45 rfl rfl (by decide) ?_
      refine w_iconst (n := 48) (nI 1) dX6_fewestFrom_47 (by decide) rfl ?_
      refine w_is5 (n := 50) dX6_fewestFrom_48 rfl rfl (by decide) ?_
      exact c6_fL hIH2 hn c1_h o rfl c3_h hm rfl hq (σ 4 + 1) 0 M4 (by omega) (by omega) (hs.B f4_h) (hc.B (by omega) f4_h) (hb.B f4_h) f4_h
  · skip
    refine w_iconst (n := 16) (nI 0) dX6_fewestFrom_15 (by decide) rfl ?_
    refine w_retI dX6_fewestFrom_16 rfl ?_
    rw [sg_ft_0 o4_h _ _ o sg_ys_le.2 (qs.mp z12_h)] at hq
    exact hq M dk_fr.rf

set_option maxRecDepth 20000 in
theorem c6_rL {d r : Nat} {M : dk_Mem} {Q : Option Value → dk_Mem → Prop} {w : sg_R} {n l c m : Nat} {σ : Nat → Nat} {A : Nat} {g : Nat → Nat} (hIH : c6_RP w n (l + 1) (d + r + 8)) (hn : n ≤ 4) (hl : l < n) (o : sg_ok σ) (hc4_h : σ 4 = c) (hy : σ 1 < σ 0) (hm : sg_ys σ (n - l) = m + 1) (hA : A < 64) (hg : g = sg_rg w c m σ) (hq : ∀ M2, dk_fr (cBP l) M M2 → Q (some (.int (nI (A ||| orf g (c + 1))))) M2) : ∀ (k a : Nat) (M1 : dk_Mem), a ≤ c → c - a < k → cs σ M1 → cm (sg_lv l) σ M1 → cbb w M1 → dk_fr (cBP l) M M1 → dk_W (d + (r + 1) + 8) mX6_reachFrom 42 [some (.ref 60), some (.int (nI l)), some (.int (nI n)), some (.int (nI (A ||| orf g (a + 1)))), some (.int (nI (a + 1)))] [] M1 Q := by
  have o4_h := o.2.2.2.1
  have o16_h := o.2.1
  have yl := sg_ys_le (σ := σ) (n := n - l)
  have rf := lv_rf l (by omega)
  have m0_h := lv_mo (l := l) (by omega)
  have t6_h : ∀ x, x ≤ c → ∀ h, sg_ot x = some h → h < σ 4 := fun x hx h e => by have := sg_ot_lt hx h e; omega
  have hys : ∀ t, sg_ys (sg_goes w σ t).1 (n - (l + 1)) = m := fun t => by have := sg_ys_s (w := w) hl hy t; omega
  have og : ∀ x, x ≤ c → sg_ok (sg_goes w σ (sg_ot x)).1 := fun x hx => o.goes (fun h e => by have := t6_h x hx h e; omega) (by omega)
  have yg : ∀ x, m ≤ (sg_goes w σ (sg_ot x)).1 0 - (sg_goes w σ (sg_ot x)).1 1 := fun x => by rw [sg_goes_1, sg_goes_o (by omega) (by omega)]; omega
  have gl : ∀ x, x ≤ c → g x < 64 := fun x hx => by rw [hg]; exact sg_rt_64 (by omega) m _ (og x hx) (yg x)
  intro k
  induction k with
  | zero => intro a M1 _ h; omega
  | succ k ih =>
    intro a M1 ha hk hs hc hb hf
    have xl := (q_orr _ hA _ (orf_lt (f := g) (a + 1) (fun i hi => gl i (by omega)))).2
    refine w_il4 (n := 44) dX6_reachFrom_42 rfl ?_
    refine w_al0 (n := 45) dX6_reachFrom_44 rfl ?_
    refine g_R (n := 48) f_X6_26_6 pl_60 rf_60_0 dX6_reachFrom_45 rfl ?_
    refine g_I (n := 51) f_X6_64_10 pl_14 dX6_reachFrom_48 rfl ?_
    rw [hs.count, hc4_h]
    refine w_ic_gt (n := 54) 102 dX6_reachFrom_51 (by decide) rfl (fun z51_h => ?_) (fun z51_h => ?_)
    · skip
      refine w_il3 (n := 103) dX6_reachFrom_102 rfl ?_
      refine w_retI dX6_reachFrom_103 rfl ?_
      rw [nI_ltI (by omega) (by omega)] at z51_h
      have e : a = c := by omega
      subst e
      exact hq M1 hf
    · skip
      have hac : a < c := by rw [nI_ltI (by omega) (by omega)] at z51_h; omega
      have ga := gl (a + 1) (by omega)
      refine w_al0 (n := 55) dX6_reachFrom_54 rfl ?_
      refine g_R (n := 58) f_X6_26_6 pl_60 rf_60_0 dX6_reachFrom_55 rfl ?_
      refine w_al0 (n := 59) dX6_reachFrom_58 rfl ?_
      refine g_R (n := 62) f_X6_11_6 pl_60 rf_60_1 dX6_reachFrom_59 rfl ?_
      refine w_il1 (n := 63) dX6_reachFrom_62 rfl ?_
      refine i_aaldM (n := 64) pl_61 (j := l) rfl (by omega) (by decide) rf.1 dX6_reachFrom_63 rfl ?_
      refine w_il4 (n := 66) dX6_reachFrom_64 rfl ?_
      refine w_iconst (n := 67) (nI 1) dX6_reachFrom_66 (by decide) rfl ?_
      refine w_isub (n := 68) dX6_reachFrom_67 rfl ?_
      rw [q_pm1 (by omega), Nat.add_sub_cancel]
      refine w_cV2 (n := 71) pl_14 cl_10 s0_X10_isIdle k_X6_68 (Nat.le_of_ble_eq_true rfl) dX6_reachFrom_68 rfl (c10_isIdle hs o m0_h hc (h := a) (by omega) hb (fun M2 gY idl => ?_) (fun M2 gY idl => ?_))
      · skip
        refine w_if_eq (n := 74) 77 dX6_reachFrom_71 (by decide) rfl (fun h => absurd h (by decide)) (fun _ => ?_)
        have hs2_h := hs.Y gY
        have hc2_h := hc.Y m0_h gY
        have hb2_h := hb.Y gY
        have f2_h : dk_fr (cBP l) M M2 := hf.tr (gY.up (fun q k z => Or.inl z))
        have gi : A ||| orf g (a + 1 + 1) = A ||| orf g (a + 1) := by
          have h1_h := orf_mem (f := g) (i := 0) (a + 1) (by omega)
          have h2_h : g (a + 1) = g 0 := by
            rw [hg]
            show sg_rt w c m (sg_goes w σ (sg_ot (a + 1))).1 = sg_rt w c m (sg_goes w σ (sg_ot 0)).1
            rw [show sg_goes w σ (sg_ot (a + 1)) = sg_goes w σ (sg_ot 0) from sg_idle_goes o idl]
          rw [orf_s, h2_h, h1_h]
        refine w_goto 96 dX6_reachFrom_74 (by decide) ?_
        refine w_inc4 (n := 99) (nI 1) dX6_reachFrom_96 (by decide) rfl rfl (by decide) ?_
        refine w_goto 42 dX6_reachFrom_99 (by decide) ?_
        rw [nI_add]
        first | (have gg := ih (a + 1) M2 (by omega) (by omega) hs2_h hc2_h hb2_h f2_h; rw [gi] at gg; exact gg) | exact ih (a + 1) M4 (by omega) (by omega) hs4_h hc4m hb4_h f4_h
      · skip
        refine w_if_eq (n := 74) 77 dX6_reachFrom_71 (by decide) rfl (fun _ => ?_) (fun h => absurd (by decide) h)
        have hs2_h := hs.Y gY
        have hc2_h := hc.Y m0_h gY
        have hb2_h := hb.Y gY
        have f2_h : dk_fr (cBP l) M M2 := hf.tr (gY.up (fun q k z => Or.inl z))
        refine w_al0 (n := 78) dX6_reachFrom_77 rfl ?_
        refine w_il1 (n := 79) dX6_reachFrom_78 rfl ?_
        refine w_il4 (n := 81) dX6_reachFrom_79 rfl ?_
        refine w_cV2 (n := 84) pl_60 cl_6 s0_X6_goDeeper k_X6_53 (Nat.le_of_ble_eq_true rfl) dX6_reachFrom_81 rfl (c6_deep hs2_h o (by omega) hc2_h (t := some a) (fun h e => by cases e; omega) hb2_h (fun M3 a1_h a2_h => ?_))
        refine w_pop (n := 85) rfl dX6_reachFrom_84 rfl ?_
        refine w_il3 (n := 86) dX6_reachFrom_85 rfl ?_
        refine w_al0 (n := 87) dX6_reachFrom_86 rfl ?_
        refine w_il1 (n := 88) dX6_reachFrom_87 rfl ?_
        refine w_iconst (n := 89) (nI 1) dX6_reachFrom_88 (by decide) rfl ?_
        refine w_iadd (n := 90) dX6_reachFrom_89 rfl ?_
        refine w_il2 (n := 91) dX6_reachFrom_90 rfl ?_
        have f23_h : dk_fr (cX (sg_lv (l + 1))) M2 M3 := a2_h.up (fun q k z => by unfold cX; unfold cY at z; omega)
        have m1_h := lv_mo (l := l + 1) (by omega)
        have hs3_h : cs (sg_goes w σ (some a)).1 M3 := (hs2_h.X m1_h f23_h).eqv sg_eqv.goes
        have hb3_h := hb2_h.X m1_h f23_h
        rw [nI_add]
        refine w_cV2 (n := 94) pl_60 cl_6 s0_X6_reachFrom k_X6_84 (Nat.le_of_ble_eq_true rfl) dX6_reachFrom_91 rfl (hIH (sg_goes w σ (some a)).1 M3 _ (og (a + 1) (by omega)) hs3_h a1_h hb3_h (fun M4 b1_h => ?_))
        have f24_h : dk_fr (cBP l) M2 M4 := (a2_h.up (fun q k z => by unfold cBP sg_lv cY at *; omega)).tr (b1_h.up (fun q k z => cBP_up z))
        have f4_h := f2_h.tr f24_h
        have hs4_h := hs2_h.B f24_h
        have hc4m := hc2_h.B (by omega) f24_h
        have hb4_h := hb2_h.B f24_h
        rw [hys, show (sg_goes w σ (some a)).1 4 = c from (sg_goes_o (by omega) (by omega)).trans hc4_h]
        have eg : sg_rt w c m (sg_goes w σ (some a)).1 = g (a + 1) := by rw [hg]; rfl
        rw [eg]
        refine w_ior (n := 95) dX6_reachFrom_94 rfl ?_
        rw [(q_orr _ xl _ ga).1, Nat.or_assoc]
        refine w_is3 (n := 96) dX6_reachFrom_95 rfl rfl (by decide) ?_
        refine w_inc4 (n := 99) (nI 1) dX6_reachFrom_96 (by decide) rfl rfl (by decide) ?_
        refine w_goto 42 dX6_reachFrom_99 (by decide) ?_
        rw [nI_add]
        first | (have gg := ih (a + 1) M2 (by omega) (by omega) hs2_h hc2_h hb2_h f2_h; rw [gi] at gg; exact gg) | exact ih (a + 1) M4 (by omega) (by omega) hs4_h hc4m hb4_h f4_h

set_option maxRecDepth 20000 in
theorem c6_reaS {d r : Nat} {w : sg_R} {n l : Nat} (hn : n ≤ 4) (hl4_h : l ≤ 4) (hIH : l < n → c6_RP w n (l + 1) (d + r + 8)) : c6_RP w n l (d + (r + 1) + 8) := by
  intro σ M Q o hs hc hb hq
  have o4_h := o.2.2.2.1
  have o16_h := o.2.1
  have rf := lv_rf l (by omega)
  have m0_h := lv_mo (l := l) (by omega)
  have p64_h := sg_set_64 o
  refine dk_enter [some (.ref 60), some (.int (nI l)), some (.int (nI n)), none, none] (by decide) (fun _ => rfl) (fun _ => Nat.le_of_ble_eq_true rfl) ?_
  refine w_al0 (n := 1) dX6_reachFrom_0 rfl ?_
  refine g_R (n := 4) f_X6_11_6 pl_60 rf_60_1 dX6_reachFrom_1 rfl ?_
  refine w_il1 (n := 5) dX6_reachFrom_4 rfl ?_
  refine i_aaldM (n := 6) pl_61 (j := l) rfl (by omega) (by decide) rf.1 dX6_reachFrom_5 rfl ?_
  refine g_I (n := 9) f_X6_72_4 m0_h.is dX6_reachFrom_6 rfl ?_
  rw [hc.2.1]
  refine w_is3 (n := 10) dX6_reachFrom_9 rfl rfl (by decide) ?_
  refine w_al0 (n := 11) dX6_reachFrom_10 rfl ?_
  refine w_il1 (n := 12) dX6_reachFrom_11 rfl ?_
  refine w_il2 (n := 13) dX6_reachFrom_12 rfl ?_
  refine w_cV2 (n := 16) pl_60 cl_6 s0_X6_isLast k_X6_49 (Nat.le_of_ble_eq_true rfl) dX6_reachFrom_13 rfl (c6_isLast hs o hl4_h hn hc (fun lst => ?_) (fun c1_h c2_h c3_h => ?_))
  · skip
    have hm0_h : sg_ys σ (n - l) = 0 := by unfold sg_ys; omega
    rw [hm0_h] at hq
    refine w_if_eq (n := 19) 21 dX6_reachFrom_16 (by decide) rfl (fun h => absurd h (by decide)) (fun _ => ?_)
    refine w_il3 (n := 20) dX6_reachFrom_19 rfl ?_
    refine w_retI dX6_reachFrom_20 rfl ?_
    exact hq M dk_fr.rf
  · skip
    have hIH2 := hIH c1_h
    obtain ⟨m, hm⟩ : ∃ m, sg_ys σ (n - l) = m + 1 := ⟨sg_ys σ (n - l) - 1, by unfold sg_ys; omega⟩
    rw [hm] at hq
    have yl := sg_ys_le (σ := σ) (n := n - l)
    have hys : sg_ys (sg_goes w σ none).1 (n - (l + 1)) = m := by have := sg_ys_s (w := w) c1_h c3_h none; omega
    have og : sg_ok (sg_goes w σ none).1 := o.goes (fun h e => by cases e) (by omega)
    refine w_if_eq (n := 19) 21 dX6_reachFrom_16 (by decide) rfl (fun _ => ?_) (fun h => absurd (by decide) h)
    refine w_al0 (n := 22) dX6_reachFrom_21 rfl ?_
    refine w_il1 (n := 23) dX6_reachFrom_22 rfl ?_
    refine w_iconst (n := 24) (nI 0) dX6_reachFrom_23 (by decide) rfl ?_
    refine w_cV2 (n := 27) pl_60 cl_6 s0_X6_goDeeper k_X6_53 (Nat.le_of_ble_eq_true rfl) dX6_reachFrom_24 rfl (c6_deep hs o (by omega) hc (t := none) (fun h e => by cases e) hb (fun M3 a1_h a2_h => ?_))
    refine w_pop (n := 28) rfl dX6_reachFrom_27 rfl ?_
    refine w_il3 (n := 29) dX6_reachFrom_28 rfl ?_
    refine w_al0 (n := 30) dX6_reachFrom_29 rfl ?_
    refine w_il1 (n := 31) dX6_reachFrom_30 rfl ?_
    refine w_iconst (n := 32) (nI 1) dX6_reachFrom_31 (by decide) rfl ?_
    refine w_iadd (n := 33) dX6_reachFrom_32 rfl ?_
    refine w_il2 (n := 34) dX6_reachFrom_33 rfl ?_
    have f23_h : dk_fr (cX (sg_lv (l + 1))) M M3 := a2_h.up (fun q k z => by unfold cX; unfold cY at z; omega)
    have m1_h := lv_mo (l := l + 1) (by omega)
    have hs3_h : cs (sg_goes w σ none).1 M3 := (hs.X m1_h f23_h).eqv sg_eqv.goes
    have hb3_h := hb.X m1_h f23_h
    rw [nI_add]
    refine w_cV2 (n := 37) pl_60 cl_6 s0_X6_reachFrom k_X6_84 (Nat.le_of_ble_eq_true rfl) dX6_reachFrom_34 rfl (hIH2 (sg_goes w σ none).1 M3 _ og hs3_h a1_h hb3_h (fun M4 b1_h => ?_))
    have f4_h : dk_fr (cBP l) M M4 := (a2_h.up (fun q k z => by unfold cBP sg_lv cY at *; omega)).tr (b1_h.up (fun q k z => cBP_up z))
    have e4_h : (sg_goes w σ none).1 4 = σ 4 := sg_goes_o (by omega) (by omega)
    rw [hys, e4_h]
    have r64_h := sg_rt_64 (w := w) o4_h m _ og (by rw [sg_goes_1, sg_goes_o (by omega) (by omega)]; omega)
    refine w_ior (n := 38) dX6_reachFrom_37 rfl ?_
    rw [(q_orr _ p64_h _ r64_h).1, show sg_rt w (σ 4) m (sg_goes w σ none).1 = orf (sg_rg w (σ 4) m σ) (0 + 1) from (Nat.zero_or _).symm]
    refine w_is3 (n := 39) dX6_reachFrom_38 rfl rfl (by decide) ?_
    refine w_iconst (n := 40) (nI 1) dX6_reachFrom_39 (by decide) rfl ?_
    refine w_is4 (n := 42) dX6_reachFrom_40 rfl rfl (by decide) ?_
    rw [← sg_rt_ge o4_h (m + 1) σ o (by omega)] at hq
    exact c6_rL hIH2 hn c1_h o rfl c3_h hm p64_h rfl hq (σ 4 + 1) 0 M4 (by omega) (by omega) (hs.B f4_h) (hc.B (by omega) f4_h) (hb.B f4_h) f4_h

theorem c6_few {w : sg_R} {n s : Nat} (hn : n ≤ 4) (s64_h : s < 64) : ∀ (r l d : Nat), l + r = n → c6_FP w n s l (d + (r + 1) + 8)
  | 0, l, d, h => c6_fewS hn (by omega) s64_h (fun z => by omega)
  | r + 1, l, d, h => c6_fewS (r := r + 1) hn (by omega) s64_h (fun _ => c6_few hn s64_h r (l + 1) d (by omega))
theorem c6_rea {w : sg_R} {n : Nat} (hn : n ≤ 4) : ∀ (r l d : Nat), l + r = n → c6_RP w n l (d + (r + 1) + 8)
  | 0, l, d, h => c6_reaS hn (by omega) (fun z => by omega)
  | r + 1, l, d, h => c6_reaS (r := r + 1) hn (by omega) (fun _ => c6_rea hn r (l + 1) d (by omega))
theorem c6_f0 {w : sg_R} {n s : Nat} (hn : n ≤ 4) (s64_h : s < 64) (d : Nat) : c6_FP w n s 0 (d + 13) := by
  have h := c6_few (w := w) hn s64_h n 0 (d + (4 - n)) (by omega)
  rw [show d + (4 - n) + (n + 1) + 8 = d + 13 by omega] at h
  exact h
theorem c6_r0 {w : sg_R} {n : Nat} (hn : n ≤ 4) (d : Nat) : c6_RP w n 0 (d + 13) := by
  have h := c6_rea (w := w) hn n 0 (d + (4 - n)) (by omega)
  rw [show d + (4 - n) + (n + 1) + 8 = d + 13 by omega] at h
  exact h
theorem q_isS : ∀ c, c < 7 → nI 1 <<< (nI c &&& 31) = nI (2 ^ c) := by decide +kernel
theorem q_lt1 {x : Int32} {n : Nat} (h0_h : nI 0 ≤ x) (h1_h : 1 ≤ n) (hn : n < 2 ^ 31) : nI n ≤ x ↔ ¬ x ≤ nI (n - 1) := by
  rw [Int32.le_iff_toInt_le, Int32.le_iff_toInt_le, nI_toInt hn, nI_toInt (show n - 1 < 2 ^ 31 by omega)]
  omega

set_option maxRecDepth 20000 in
theorem c10_isSet {d : Nat} {M : dk_Mem} {Q : Option Value → dk_Mem → Prop} {σ : Nat → Nat} (hs : cs σ M) (o : sg_ok σ) {x : Int32} (h1_h : nI 0 ≤ x ∧ x ≤ nI (2 ^ σ 4 - 1) → Q (some (.int 1)) M) (h0_h : ¬ (nI 0 ≤ x ∧ x ≤ nI (2 ^ σ 4 - 1)) → Q (some (.int 0)) M) : dk_Call d mX10_isSet [.ref 14, .int x] M Q := by
  have o4_h := o.2.2.2.1
  have pw := pow6 o4_h
  have pp : 1 ≤ 2 ^ σ 4 := Nat.pow_pos (by decide)
  refine dk_enter [some (.ref 14), some (.int x)] (by decide) (fun _ => rfl) (fun _ => Nat.le_of_ble_eq_true rfl) ?_
  refine w_il1 (n := 1) dX10_isSet_0 rfl ?_
  refine w_if_lt (n := 4) 18 dX10_isSet_1 (by decide) rfl (fun z1_h => ?_) (fun z1_h => ?_)
  · skip
    refine w_iconst (n := 19) (nI 0) dX10_isSet_18 (by decide) rfl ?_
    refine w_retZ0 dX10_isSet_19 rfl ?_
    first | exact h0_h (fun z => absurd z1_h (Int32.not_lt.mpr z.1)) | exact h0_h (fun z => (q_lt1 z.1 pp (by omega)).mp z11_h z.2)
  · skip
    refine w_il1 (n := 5) dX10_isSet_4 rfl ?_
    refine w_iconst (n := 6) (nI 1) dX10_isSet_5 (by decide) rfl ?_
    refine w_al0 (n := 7) dX10_isSet_6 rfl ?_
    refine g_I (n := 10) f_X10_9_10 pl_14 dX10_isSet_7 rfl ?_
    rw [hs.count]
    refine w_ishl (n := 11) dX10_isSet_10 rfl ?_
    rw [q_isS _ (by omega)]
    refine w_ic_ge (n := 14) 18 dX10_isSet_11 (by decide) rfl (fun z11_h => ?_) (fun z11_h => ?_)
    · skip
      refine w_iconst (n := 19) (nI 0) dX10_isSet_18 (by decide) rfl ?_
      refine w_retZ0 dX10_isSet_19 rfl ?_
      first | exact h0_h (fun z => absurd z1_h (Int32.not_lt.mpr z.1)) | exact h0_h (fun z => (q_lt1 z.1 pp (by omega)).mp z11_h z.2)
    · skip
      refine w_iconst (n := 15) (nI 1) dX10_isSet_14 (by decide) rfl ?_
      refine w_goto 19 dX10_isSet_15 (by decide) ?_
      refine w_retZ1 dX10_isSet_19 rfl ?_
      rw [q_lt1 (q_ge0 z1_h) pp (by omega)] at z11_h
      exact h1_h ⟨q_ge0 z1_h, Decidable.byContradiction z11_h⟩

set_option maxRecDepth 20000 in
theorem C_line {d : Nat} {M : dk_Mem} {Q : Option Value → dk_Mem → Prop} {K : sg_K} (hK : cK K M) {n s : Int32} (hq : ∀ M2, dk_fr cN M M2 → Q (some (.int (kf_line K n s))) M2) : dk_Call (d + 14) mX11_line [.ref 0, .int n, .int s] M Q := by
  have hK0 := hK
  obtain ⟨⟨o, p1_h, p2_h, p3_h⟩, hs, hc, hb, hcr, hsc, hz, β, hβ, hβ1, hβ2⟩ := hK0
  have o4_h := o.2.2.2.1
  have o16_h := o.2.1
  have hm : dk_mo 22 := Or.inl rfl
  refine dk_enter [some (.ref 0), some (.int n), some (.int s), none] (by decide) (fun _ => rfl) (fun _ => Nat.le_of_ble_eq_true rfl) ?_
  refine w_il1 (n := 1) dX11_line_0 rfl ?_
  refine w_iconst (n := 2) (nI 0) dX11_line_1 (by decide) rfl ?_
  refine w_iconst (n := 3) (nI 4) dX11_line_2 (by decide) rfl ?_
  refine w_cS3 (n := 6) s0_X11_within k_X11_112 (Nat.le_of_ble_eq_true rfl) dX11_line_3 rfl (c_within (fun t3_h => ?_) (fun t3_h => ?_))
  · skip
    refine w_if_eq (n := 9) 20 dX11_line_6 (by decide) rfl (fun h => absurd h (by decide)) (fun _ => ?_)
    refine w_al0 (n := 10) dX11_line_9 rfl ?_
    refine g_R (n := 13) f_X11_36_11 pl_0 rf_0_1 dX11_line_10 rfl ?_
    refine w_il2 (n := 14) dX11_line_13 rfl ?_
    refine w_cV1 (n := 17) pl_14 cl_10 s0_X10_isSet k_X11_266 (Nat.le_of_ble_eq_true rfl) dX11_line_14 rfl (c10_isSet hs o (fun t14_h => ?_) (fun t14_h => ?_))
    · skip
      refine w_if_ne (n := 20) 22 dX11_line_17 (by decide) rfl (fun _ => ?_) (fun h => absurd h (by decide))
      have hn := tN_of (n := 4) (by decide) t3_h.1 t3_h.2
      have pw := pow6 o4_h
      have hS := tN_of (n := 2 ^ K.1 4 - 1) (by omega) t14_h.1 t14_h.2
      have yl := (sg_ys_le (σ := K.1) (n := tN n)).1
      have yl2_h := (sg_ys_le (σ := K.1) (n := tN n)).2
      have l1_h := hn.2
      have l2_h := hS.2
      have en : Value.int n = Value.int (nI (tN n)) := by rw [← hn.1]
      have es : Value.int s = Value.int (nI (tN s)) := by rw [← hS.1]
      rw [en, es]
      have lf := sg_ln2_ft (K := K) (n := tN n) (s := tN s) (by omega)
      rw [show kf_line K n s = on3_h (sg_ln2 K (sg_ys K.1 (tN n)) (tN s) (sg_np K.1 (tN n))) from if_pos ⟨t3_h, t14_h⟩, lf.1] at hq
      refine w_al0 (n := 23) dX11_line_22 rfl ?_
      refine g_R (n := 26) f_X11_52_11 pl_0 rf_0_4 dX11_line_23 rfl ?_
      refine w_cV0 (n := 29) pl_60 cl_6 s0_X6_start k_X11_251 (Nat.le_of_ble_eq_true rfl) dX11_line_26 rfl (c6_start hs o hm hc (fun M2 k1_h k2_h => ?_))
      have f0_h : dk_fr cN M M2 := k2_h.up (fun q k z => by unfold cN; omega)
      have hs0_h : cs K.1 M2 := hs.fr f0_h (fun q k _ _ z => by unfold cN at z; omega)
      have hb0_h : cbb K.2.1 M2 := hb.fr f0_h (fun q k z => Or.inr (Or.inr z))
      refine w_al0 (n := 30) dX11_line_29 rfl ?_
      refine g_R (n := 33) f_X11_52_11 pl_0 rf_0_4 dX11_line_30 rfl ?_
      refine w_iconst (n := 34) (nI 0) dX11_line_33 (by decide) rfl ?_
      refine w_il1 (n := 35) dX11_line_34 rfl ?_
      refine w_il2 (n := 36) dX11_line_35 rfl ?_
      refine w_cV3 (n := 39) pl_60 cl_6 s0_X6_fewestFrom k_X11_269 (Nat.le_of_ble_eq_true rfl) dX11_line_36 rfl (c6_f0 l1_h (by omega) d K.1 M2 _ o hs0_h k1_h hb0_h (fun M3 b1_h => ?_))
      rw [Nat.sub_zero]
      have f9_h := f0_h.tr (cBP_N b1_h)
      have lf2_h := lf.2
      refine w_is3 (n := 40) dX11_line_39 rfl rfl (by decide) ?_
      refine w_il3 (n := 41) dX11_line_40 rfl ?_
      refine w_iconst (n := 42) (nI 4) dX11_line_41 (by decide) rfl ?_
      refine w_ic_le (n := 45) 50 dX11_line_42 (by decide) rfl (fun z42_h => ?_) (fun z42_h => ?_)
      · skip
        refine w_il3 (n := 51) dX11_line_50 rfl ?_
        refine w_retI dX11_line_51 rfl ?_
        first | (rw [q_le (by omega) (by omega)] at z42_h; rw [if_neg (by omega)] at hq; exact hq M3 f9_h) | (rw [q_le (by omega) (by omega)] at z42_h; rw [if_pos (by omega)] at hq; exact hq M3 f9_h)
      · skip
        refine w_bipush (n := 47) (-3) dX11_line_45 (by decide) rfl ?_
        refine w_goto 51 dX11_line_47 (by decide) ?_
        refine w_retI dX11_line_51 rfl ?_
        first | (rw [q_le (by omega) (by omega)] at z42_h; rw [if_neg (by omega)] at hq; exact hq M3 f9_h) | (rw [q_le (by omega) (by omega)] at z42_h; rw [if_pos (by omega)] at hq; exact hq M3 f9_h)
    · skip
      refine w_if_ne (n := 20) 22 dX11_line_17 (by decide) rfl (fun h => absurd h (by decide)) (fun _ => ?_)
      refine w_iconst (n := 21) (-1) dX11_line_20 (by decide) rfl ?_
      refine w_retI dX11_line_21 rfl ?_
      rw [show kf_line K n s = -1 from if_neg (fun z => by first | exact t3_h z.1 | exact t14_h z.2)] at hq
      exact hq M dk_fr.rf
  · skip
    refine w_if_eq (n := 9) 20 dX11_line_6 (by decide) rfl (fun _ => ?_) (fun h => absurd (by decide) h)
    refine w_iconst (n := 21) (-1) dX11_line_20 (by decide) rfl ?_
    refine w_retI dX11_line_21 rfl ?_
    rw [show kf_line K n s = -1 from if_neg (fun z => by first | exact t3_h z.1 | exact t14_h z.2)] at hq
    exact hq M dk_fr.rf

set_option maxRecDepth 20000 in
theorem C_bars {d : Nat} {M : dk_Mem} {Q : Option Value → dk_Mem → Prop} {K : sg_K} (hK : cK K M) {n s : Int32} (hq : ∀ M2, dk_fr cN M M2 → Q (some (.int (kf_bars K n s))) M2) : dk_Call (d + 14) mX11_bars [.ref 0, .int n, .int s] M Q := by
  have hK0 := hK
  obtain ⟨⟨o, p1_h, p2_h, p3_h⟩, hs, hc, hb, hcr, hsc, hz, β, hβ, hβ1, hβ2⟩ := hK0
  have o4_h := o.2.2.2.1
  have o16_h := o.2.1
  have hm : dk_mo 22 := Or.inl rfl
  refine dk_enter [some (.ref 0), some (.int n), some (.int s), none] (by decide) (fun _ => rfl) (fun _ => Nat.le_of_ble_eq_true rfl) ?_
  refine w_il1 (n := 1) dX11_bars_0 rfl ?_
  refine w_iconst (n := 2) (nI 0) dX11_bars_1 (by decide) rfl ?_
  refine w_iconst (n := 3) (nI 4) dX11_bars_2 (by decide) rfl ?_
  refine w_cS3 (n := 6) s0_X11_within k_X11_112 (Nat.le_of_ble_eq_true rfl) dX11_bars_3 rfl (c_within (fun t3_h => ?_) (fun t3_h => ?_))
  · skip
    refine w_if_eq (n := 9) 20 dX11_bars_6 (by decide) rfl (fun h => absurd h (by decide)) (fun _ => ?_)
    refine w_al0 (n := 10) dX11_bars_9 rfl ?_
    refine g_R (n := 13) f_X11_36_11 pl_0 rf_0_1 dX11_bars_10 rfl ?_
    refine w_il2 (n := 14) dX11_bars_13 rfl ?_
    refine w_cV1 (n := 17) pl_14 cl_10 s0_X10_isSet k_X11_266 (Nat.le_of_ble_eq_true rfl) dX11_bars_14 rfl (c10_isSet hs o (fun t14_h => ?_) (fun t14_h => ?_))
    · skip
      refine w_if_ne (n := 20) 22 dX11_bars_17 (by decide) rfl (fun _ => ?_) (fun h => absurd h (by decide))
      have hn := tN_of (n := 4) (by decide) t3_h.1 t3_h.2
      have pw := pow6 o4_h
      have hS := tN_of (n := 2 ^ K.1 4 - 1) (by omega) t14_h.1 t14_h.2
      have yl := (sg_ys_le (σ := K.1) (n := tN n)).1
      have yl2_h := (sg_ys_le (σ := K.1) (n := tN n)).2
      have l1_h := hn.2
      have l2_h := hS.2
      have en : Value.int n = Value.int (nI (tN n)) := by rw [← hn.1]
      have es : Value.int s = Value.int (nI (tN s)) := by rw [← hS.1]
      rw [en, es]
      rw [show kf_bars K n s = sg_lo (tN s &&& (63 ^^^ sg_rc K (sg_ys K.1 (tN n)) (sg_np K.1 (tN n)))) from if_pos ⟨t3_h, t14_h⟩, sg_rc_rt] at hq
      have r64_h := sg_rt_64 (w := K.2.1) o4_h (sg_ys K.1 (tN n)) K.1 o yl2_h
      have qn := q_nand (tN s) (by omega) _ r64_h
      refine w_al0 (n := 23) dX11_bars_22 rfl ?_
      refine g_R (n := 26) f_X11_52_11 pl_0 rf_0_4 dX11_bars_23 rfl ?_
      refine w_cV0 (n := 29) pl_60 cl_6 s0_X6_start k_X11_251 (Nat.le_of_ble_eq_true rfl) dX11_bars_26 rfl (c6_start hs o hm hc (fun M2 k1_h k2_h => ?_))
      have f0_h : dk_fr cN M M2 := k2_h.up (fun q k z => by unfold cN; omega)
      have hs0_h : cs K.1 M2 := hs.fr f0_h (fun q k _ _ z => by unfold cN at z; omega)
      have hb0_h : cbb K.2.1 M2 := hb.fr f0_h (fun q k z => Or.inr (Or.inr z))
      refine w_il2 (n := 30) dX11_bars_29 rfl ?_
      refine w_al0 (n := 31) dX11_bars_30 rfl ?_
      refine g_R (n := 34) f_X11_52_11 pl_0 rf_0_4 dX11_bars_31 rfl ?_
      refine w_iconst (n := 35) (nI 0) dX11_bars_34 (by decide) rfl ?_
      refine w_il1 (n := 36) dX11_bars_35 rfl ?_
      refine w_cV2 (n := 39) pl_60 cl_6 s0_X6_reachFrom k_X11_272 (Nat.le_of_ble_eq_true rfl) dX11_bars_36 rfl (c6_r0 l1_h d K.1 M2 _ o hs0_h k1_h hb0_h (fun M3 b1_h => ?_))
      rw [Nat.sub_zero]
      have f9_h := f0_h.tr (cBP_N b1_h)
      refine w_iconst (n := 40) (-1) dX11_bars_39 (by decide) rfl ?_
      refine w_ixor (n := 41) dX11_bars_40 rfl ?_
      refine w_iand (n := 42) dX11_bars_41 rfl ?_
      rw [qn.1]
      refine w_is3 (n := 43) dX11_bars_42 rfl rfl (by decide) ?_
      refine w_il3 (n := 44) dX11_bars_43 rfl ?_
      refine w_cS1 (n := 47) s0_X11_leastOf k_X11_275 (Nat.le_of_ble_eq_true rfl) dX11_bars_44 rfl (c_leastOf qn.2.1 ?_)
      refine w_retI dX11_bars_47 rfl ?_
      exact hq M3 f9_h
    · skip
      refine w_if_ne (n := 20) 22 dX11_bars_17 (by decide) rfl (fun h => absurd h (by decide)) (fun _ => ?_)
      refine w_iconst (n := 21) (-1) dX11_bars_20 (by decide) rfl ?_
      refine w_retI dX11_bars_21 rfl ?_
      rw [show kf_bars K n s = -1 from if_neg (fun z => by first | exact t3_h z.1 | exact t14_h z.2)] at hq
      exact hq M dk_fr.rf
  · skip
    refine w_if_eq (n := 9) 20 dX11_bars_6 (by decide) rfl (fun _ => ?_) (fun h => absurd (by decide) h)
    refine w_iconst (n := 21) (-1) dX11_bars_20 (by decide) rfl ?_
    refine w_retI dX11_bars_21 rfl ?_
    rw [show kf_bars K n s = -1 from if_neg (fun z => by first | exact t3_h z.1 | exact t14_h z.2)] at hq
    exact hq M dk_fr.rf
