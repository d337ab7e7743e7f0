set_option maxRecDepth 20000 in
theorem c6_bestS {d r : Nat} {w : sg_R} {n l : Nat} (hn : n ≤ 4) (hl4_h : l ≤ 4) (hIH : l < n → c6_BP w n (l + 1) (d + r + 8)) : c6_BP w n l (d + (r + 1) + 8) := by
  intro σ M Q o hs hc hb hq
  have o4_h := o.2.2.2.1
  have o16_h := o.2.1
  refine dk_enter [some (.ref 60), some (.int (nI l)), some (.int (nI n)), none, none, none, none, none, none, none] (by decide) (fun _ => rfl) (fun _ => Nat.le_of_ble_eq_true rfl) ?_
  refine w_al0 (n := 1) dX6_bestFrom_0 rfl ?_
  refine w_il1 (n := 2) dX6_bestFrom_1 rfl ?_
  refine w_il2 (n := 3) dX6_bestFrom_2 rfl ?_
  refine w_cV2 (n := 6) pl_60 cl_6 s0_X6_isLast k_X6_49 (Nat.le_of_ble_eq_true rfl) dX6_bestFrom_3 rfl (c6_isLast hs o hl4_h hn hc (fun lst => ?_) (fun c1_h c2_h c3_h => ?_))
  · skip
    have hm0_h : sg_ys σ (n - l) = 0 := by unfold sg_ys; omega
    rw [hm0_h] at hq
    refine w_if_eq (n := 9) 18 dX6_bestFrom_6 (by decide) rfl (fun h => absurd h (by decide)) (fun _ => ?_)
    refine w_al0 (n := 10) dX6_bestFrom_9 rfl ?_
    refine g_R (n := 13) f_X6_22_6 pl_60 rf_60_3 dX6_bestFrom_10 rfl ?_
    refine w_il1 (n := 14) dX6_bestFrom_13 rfl ?_
    refine w_iconst (n := 15) (nI 1) dX6_bestFrom_14 (by decide) rfl ?_
    refine i_iast (n := 16) pl_68 (j := l) rfl (by omega) (by decide) dX6_bestFrom_15 rfl ?_
    refine w_iconst (n := 17) (nI 0) dX6_bestFrom_16 (by decide) rfl ?_
    refine w_retI dX6_bestFrom_17 rfl ?_
    exact hq _ (dk_fr.rf.put (by unfold cBP; omega)) dk_put_s (fun i hi => by omega)
  · skip
    have rf := lv_rf l (by omega)
    have m0_h := lv_mo (l := l) (by omega)
    have hIH2 := hIH c1_h
    obtain ⟨m, hm⟩ : ∃ m, sg_ys σ (n - l) = m + 1 := ⟨sg_ys σ (n - l) - 1, by unfold sg_ys; omega⟩
    rw [hm] at hq
    have yl := sg_ys_le (σ := σ) (n := n - l)
    have hys : sg_ys (sg_goes w σ none).1 (n - (l + 1)) = m := by have := sg_ys_s (w := w) c1_h c3_h none; omega
    have og : sg_ok (sg_goes w σ none).1 := o.goes (fun h e => by cases e) (by omega)
    have tl := sg_tb_le (w := w) (c := σ 4) (by omega) (m := m) og (by rw [sg_goes_1, sg_goes_o (by omega) (by omega)]; omega)
    refine w_if_eq (n := 9) 18 dX6_bestFrom_6 (by decide) rfl (fun _ => ?_) (fun h => absurd (by decide) h)
    refine w_al0 (n := 19) dX6_bestFrom_18 rfl ?_
    refine w_il1 (n := 20) dX6_bestFrom_19 rfl ?_
    refine w_iconst (n := 21) (nI 0) dX6_bestFrom_20 (by decide) rfl ?_
    refine w_cV2 (n := 24) pl_60 cl_6 s0_X6_goDeeper k_X6_53 (Nat.le_of_ble_eq_true rfl) dX6_bestFrom_21 rfl (c6_deep hs o (by omega) hc (t := none) (fun h e => by cases e) hb (fun M3 a1_h a2_h => ?_))
    refine w_al0 (n := 25) dX6_bestFrom_24 rfl ?_
    refine w_il1 (n := 26) dX6_bestFrom_25 rfl ?_
    refine w_iconst (n := 27) (nI 1) dX6_bestFrom_26 (by decide) rfl ?_
    refine w_iadd (n := 28) dX6_bestFrom_27 rfl ?_
    refine w_il2 (n := 29) dX6_bestFrom_28 rfl ?_
    have f23_h : dk_fr (cX (sg_lv (l + 1))) M M3 := a2_h.up (fun q k z => by unfold cX; unfold cY at z; omega)
    have m1_h := lv_mo (l := l + 1) (by omega)
    have hs3_h : cs (sg_goes w σ none).1 M3 := (hs.X m1_h f23_h).eqv sg_eqv.goes
    have hb3_h := hb.X m1_h f23_h
    rw [nI_add]
    refine w_cV2 (n := 32) pl_60 cl_6 s0_X6_bestFrom k_X6_57 (Nat.le_of_ble_eq_true rfl) dX6_bestFrom_29 rfl (hIH2 (sg_goes w σ none).1 M3 _ og hs3_h a1_h hb3_h (fun M4 b1_h b2_h b3_h => ?_))
    have f4_h : dk_fr (cBP l) M M4 := (a2_h.up (fun q k z => by unfold cBP sg_lv cY at *; omega)).tr (b1_h.up (fun q k z => cBP_up z))
    have e4_h : (sg_goes w σ none).1 4 = σ 4 := sg_goes_o (by omega) (by omega)
    rw [hys, e4_h] at b2_h b3_h
    rw [hys, e4_h]
    obtain ⟨g, hg⟩ : ∃ g, g = sg_gt w (σ 4 + 1) m σ := ⟨_, rfl⟩
    have eg1_h : (sg_goes w σ none).2 + (sg_tb w (σ 4 + 1) m (sg_goes w σ none).1).1 = (g 0).1 := by rw [hg]; rfl
    have eg2_h : (sg_tb w (σ 4 + 1) m (sg_goes w σ none).1).2.2 = (g 0).2.2 := by rw [hg]; rfl
    have eg3_h : (sg_tb w (σ 4 + 1) m (sg_goes w σ none).1).2.1 = (g 0).2.1 := by rw [hg]; rfl
    rw [eg2_h] at b2_h
    rw [eg3_h] at b3_h tl
    refine w_iadd (n := 33) dX6_bestFrom_32 rfl ?_
    rw [nI_add, eg1_h]
    refine w_is3 (n := 34) dX6_bestFrom_33 rfl rfl (by decide) ?_
    refine w_al0 (n := 35) dX6_bestFrom_34 rfl ?_
    refine g_R (n := 38) f_X6_22_6 pl_60 rf_60_3 dX6_bestFrom_35 rfl ?_
    refine w_il1 (n := 39) dX6_bestFrom_38 rfl ?_
    refine w_iconst (n := 40) (nI 1) dX6_bestFrom_39 (by decide) rfl ?_
    refine w_iadd (n := 41) dX6_bestFrom_40 rfl ?_
    refine i_iald (n := 42) pl_68 (j := l + 1) (by rw [nI_add]) (by omega) (by decide) b2_h dX6_bestFrom_41 rfl ?_
    refine w_is4 (n := 44) dX6_bestFrom_42 rfl rfl (by decide) ?_
    refine w_il3 (n := 45) dX6_bestFrom_44 rfl ?_
    refine w_is5 (n := 47) dX6_bestFrom_45 rfl rfl (by decide) ?_
    refine w_il4 (n := 49) dX6_bestFrom_47 rfl ?_
    refine w_is6 (n := 51) dX6_bestFrom_49 rfl rfl (by decide) ?_
    refine w_al0 (n := 52) dX6_bestFrom_51 rfl ?_
    refine w_il1 (n := 53) dX6_bestFrom_52 rfl ?_
    refine w_iconst (n := 54) (nI 0) dX6_bestFrom_53 (by decide) rfl ?_
    refine w_cV2 (n := 57) pl_60 cl_6 s0_X6_noteFirst k_X6_60 (Nat.le_of_ble_eq_true rfl) dX6_bestFrom_54 rfl (c6_note (l := l) (by omega) (fun M5 e1_h e2_h e3_h => ?_))
    refine w_iconst (n := 58) (nI 0) dX6_bestFrom_57 (by decide) rfl ?_
    refine w_is7 (n := 60) dX6_bestFrom_58 rfl rfl (by decide) ?_
    refine w_iconst (n := 61) (nI 1) dX6_bestFrom_60 (by decide) rfl ?_
    refine w_is8 (n := 63) dX6_bestFrom_61 rfl rfl (by decide) ?_
    have f45_h : dk_fr (cBP l) M4 M5 := e1_h.up (fun q k z => by unfold cBP; omega)
    have f5_h := f4_h.tr f45_h
    rw [sg_tb_s, ← hg] at hq
    refine c6_bL hIH2 hn c1_h o rfl c3_h hm hg rfl hq (σ 4 + 1) 0 (g 0).2.2 0 _ M5 (by omega) (by omega) (hs.B f5_h) (hc.B (by omega) f5_h) (hb.B f5_h) f5_h ?_ (fun i hi => ?_)
    · show (g 0).2.2 = (g 0).2.2 + _
      rw [Nat.zero_mul]
      split <;> rfl
    · have ep : (tr_af g ((σ 4 + 1) ^ m) (0 + 1)).2.1 = 0 * (σ 4 + 1) ^ m + (g 0).2.1 := ((congrArg (fun y => y + (g 0).2.1) (Nat.zero_mul ((σ 4 + 1) ^ m))).trans (Nat.zero_add (g 0).2.1)).symm
      rw [ep]
      cases i with
      | zero => rw [pl_d_0 (by omega) (by omega) tl.2]; exact e2_h
      | succ i => rw [pl_d_s (by omega) (by omega), ← b3_h i (by omega), show l + (i + 1) = l + 1 + i by omega, e3_h (l + 1 + i) (by omega) (by omega), show 64 + l = 63 + (l + 1) by omega]

theorem c6_best {w : sg_R} {n : Nat} (hn : n ≤ 4) : ∀ (r l d : Nat), l + r = n → c6_BP w n l (d + (r + 1) + 8)
  | 0, l, d, h => c6_bestS hn (by omega) (fun z => by omega)
  | r + 1, l, d, h => c6_bestS (r := r + 1) hn (by omega) (fun _ => c6_best hn r (l + 1) d (by omega))
theorem cBP_N {M M' : dk_Mem} (h : dk_fr (cBP 0) M M') : dk_fr cN M M' := h.up (fun q k z => by unfold cBP sg_lv cY at z; unfold cN; omega)
theorem sg_fb_tb {K : sg_K} {n : Nat} : sg_fb K n = sg_tb K.2.1 (K.1 4 + 1) (sg_ys K.1 n) K.1 := fb_tb (by omega) _ _
