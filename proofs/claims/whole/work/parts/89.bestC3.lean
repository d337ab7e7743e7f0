theorem q_plen : ∀ n, n < 5 → ∀ a, a < 17 → ∀ b, b ≤ a → (if nI 0 < (if nI a - nI b < nI n then nI a - nI b else nI n) then (if nI a - nI b < nI n then nI a - nI b else nI n) else nI 0) = nI (min n (a - b)) := by decide +kernel
theorem c6_b0 {w : sg_R} {n : Nat} (hn : n ≤ 4) (d : Nat) : c6_BP w n 0 (d + 13) := by
  have h := c6_best (w := w) hn n 0 (d + (4 - n)) (by omega)
  rw [show d + (4 - n) + (n + 1) + 8 = d + 13 by omega] at h
  exact h

set_option maxRecDepth 20000 in
theorem c_planLen {d : Nat} {M : dk_Mem} {Q : Option Value → dk_Mem → Prop} {σ : Nat → Nat} (hs : cs σ M) (o : sg_in σ) (hc : cm 22 σ M) {n : Nat} (hn : n ≤ 4) (hq : Q (some (.int (nI (sg_ys σ n)))) M) : dk_Call (d + 1) mX11_planLength [.ref 0, .int (nI n)] M Q := by
  have o2_h := o.2.1
  have o16_h := o.1.2.1
  refine dk_enter [some (.ref 0), some (.int (nI n))] (by decide) (fun _ => rfl) (fun _ => Nat.le_of_ble_eq_true rfl) ?_
  refine w_iconst (n := 1) (nI 0) dX11_planLength_0 (by decide) rfl ?_
  refine w_il1 (n := 2) dX11_planLength_1 rfl ?_
  refine w_al0 (n := 3) dX11_planLength_2 rfl ?_
  refine g_R (n := 6) f_X11_36_11 pl_0 rf_0_1 dX11_planLength_3 rfl ?_
  refine g_I (n := 9) f_X11_188_10 pl_14 dX11_planLength_6 rfl ?_
  refine w_al0 (n := 10) dX11_planLength_9 rfl ?_
  refine g_R (n := 13) f_X11_36_11 pl_0 rf_0_1 dX11_planLength_10 rfl ?_
  refine g_R (n := 16) f_X11_127_10 pl_14 rf_14_9 dX11_planLength_13 rfl ?_
  refine g_I (n := 19) f_X11_185_4 pl_22 dX11_planLength_16 rfl ?_
  refine w_isub (n := 20) dX11_planLength_19 rfl ?_
  rw [hs.end, hc.1]
  refine w_mmin (n := 23) dk_m3_min_X11_375 (Nat.le_of_ble_eq_true rfl) dX11_planLength_20 rfl ?_
  refine w_mmax (n := 26) dk_m3_max_X11_380 (Nat.le_of_ble_eq_true rfl) dX11_planLength_23 rfl ?_
  refine w_retI dX11_planLength_26 rfl ?_
  unfold sg_ys at hq
  rw [q_plen n (by omega) _ (by omega) _ o2_h]
  exact hq

set_option maxRecDepth 20000 in
theorem C_best {d : Nat} {M : dk_Mem} {Q : Option Value → dk_Mem → Prop} {K : sg_K} (hK : cK K M) {n : Int32} (hq : ∀ M2, dk_fr cN M M2 → Q (some (.int (kf_bst K n))) M2) : dk_Call (d + 14) mX11_best [.ref 0, .int n] M Q := by
  have hK0 := hK
  obtain ⟨⟨o, p1_h, p2_h, p3_h⟩, hs, hc, hb, hcr, hsc, hz, β, hβ, hβ1, hβ2⟩ := hK0
  have o4_h := o.2.2.2.1
  have o16_h := o.2.1
  have hm : dk_mo 22 := Or.inl rfl
  refine dk_enter [some (.ref 0), some (.int n)] (by decide) (fun _ => rfl) (fun _ => Nat.le_of_ble_eq_true rfl) ?_
  refine w_il1 (n := 1) dX11_best_0 rfl ?_
  refine w_iconst (n := 2) (nI 0) dX11_best_1 (by decide) rfl ?_
  refine w_iconst (n := 3) (nI 4) dX11_best_2 (by decide) rfl ?_
  refine w_cS3 (n := 6) s0_X11_within k_X11_112 (Nat.le_of_ble_eq_true rfl) dX11_best_3 rfl (c_within (fun t3_h => ?_) (fun t3_h => ?_))
  · skip
    refine w_if_ne (n := 9) 11 dX11_best_6 (by decide) rfl (fun _ => ?_) (fun h => absurd h (by decide))
    have hn := tN_of (n := 4) (by decide) t3_h.1 t3_h.2
    refine w_al0 (n := 12) dX11_best_11 rfl ?_
    refine g_R (n := 15) f_X11_52_11 pl_0 rf_0_4 dX11_best_12 rfl ?_
    refine w_cV0 (n := 18) pl_60 cl_6 s0_X6_start k_X11_251 (Nat.le_of_ble_eq_true rfl) dX11_best_15 rfl (c6_start hs o hm hc (fun M2 k1_h k2_h => ?_))
    have f0_h : dk_fr cN M M2 := k2_h.up (fun q k z => by unfold cN; omega)
    have hs0_h : cs K.1 M2 := hs.fr f0_h (fun q k _ _ z => by unfold cN at z; omega)
    have hb0_h : cbb K.2.1 M2 := hb.fr f0_h (fun q k z => Or.inr (Or.inr z))
    refine w_al0 (n := 19) dX11_best_18 rfl ?_
    refine g_R (n := 22) f_X11_52_11 pl_0 rf_0_4 dX11_best_19 rfl ?_
    refine w_iconst (n := 23) (nI 0) dX11_best_22 (by decide) rfl ?_
    refine w_il1 (n := 24) dX11_best_23 rfl ?_
    have en : Value.int n = Value.int (nI (tN n)) := by rw [← hn.1]
    rw [en]
    refine w_cV2 (n := 27) pl_60 cl_6 s0_X6_bestFrom k_X11_254 (Nat.le_of_ble_eq_true rfl) dX11_best_24 rfl (c6_b0 hn.2 d K.1 M2 _ o hs0_h k1_h hb0_h (fun M3 b1_h b2_h b3_h => ?_))
    rw [Nat.sub_zero, ← sg_fb_tb] at b2_h b3_h
    rw [Nat.sub_zero, ← sg_fb_tb]
    have f9_h := f0_h.tr (cBP_N b1_h)
    refine w_retI dX11_best_27 rfl ?_
    rw [show kf_bst K n = nI (sg_fb K (tN n)).1 from if_pos t3_h] at hq
    exact hq M3 f9_h
  · skip
    refine w_if_ne (n := 9) 11 dX11_best_6 (by decide) rfl (fun h => absurd h (by decide)) (fun _ => ?_)
    refine w_iconst (n := 10) (-1) dX11_best_9 (by decide) rfl ?_
    refine w_retI dX11_best_10 rfl ?_
    rw [show kf_bst K n = -1 from if_neg t3_h] at hq
    exact hq M dk_fr.rf

set_option maxRecDepth 20000 in
theorem C_ways {d : Nat} {M : dk_Mem} {Q : Option Value → dk_Mem → Prop} {K : sg_K} (hK : cK K M) {n : Int32} (hq : ∀ M2, dk_fr cN M M2 → Q (some (.int (kf_ways K n))) M2) : dk_Call (d + 14) mX11_ways [.ref 0, .int n] M Q := by
  have hK0 := hK
  obtain ⟨⟨o, p1_h, p2_h, p3_h⟩, hs, hc, hb, hcr, hsc, hz, β, hβ, hβ1, hβ2⟩ := hK0
  have o4_h := o.2.2.2.1
  have o16_h := o.2.1
  have hm : dk_mo 22 := Or.inl rfl
  refine dk_enter [some (.ref 0), some (.int n)] (by decide) (fun _ => rfl) (fun _ => Nat.le_of_ble_eq_true rfl) ?_
  refine w_il1 (n := 1) dX11_ways_0 rfl ?_
  refine w_iconst (n := 2) (nI 0) dX11_ways_1 (by decide) rfl ?_
  refine w_iconst (n := 3) (nI 4) dX11_ways_2 (by decide) rfl ?_
  refine w_cS3 (n := 6) s0_X11_within k_X11_112 (Nat.le_of_ble_eq_true rfl) dX11_ways_3 rfl (c_within (fun t3_h => ?_) (fun t3_h => ?_))
  · skip
    refine w_if_ne (n := 9) 11 dX11_ways_6 (by decide) rfl (fun _ => ?_) (fun h => absurd h (by decide))
    have hn := tN_of (n := 4) (by decide) t3_h.1 t3_h.2
    refine w_al0 (n := 12) dX11_ways_11 rfl ?_
    refine g_R (n := 15) f_X11_52_11 pl_0 rf_0_4 dX11_ways_12 rfl ?_
    refine w_cV0 (n := 18) pl_60 cl_6 s0_X6_start k_X11_251 (Nat.le_of_ble_eq_true rfl) dX11_ways_15 rfl (c6_start hs o hm hc (fun M2 k1_h k2_h => ?_))
    have f0_h : dk_fr cN M M2 := k2_h.up (fun q k z => by unfold cN; omega)
    have hs0_h : cs K.1 M2 := hs.fr f0_h (fun q k _ _ z => by unfold cN at z; omega)
    have hb0_h : cbb K.2.1 M2 := hb.fr f0_h (fun q k z => Or.inr (Or.inr z))
    refine w_al0 (n := 19) dX11_ways_18 rfl ?_
    refine g_R (n := 22) f_X11_52_11 pl_0 rf_0_4 dX11_ways_19 rfl ?_
    refine w_iconst (n := 23) (nI 0) dX11_ways_22 (by decide) rfl ?_
    refine w_il1 (n := 24) dX11_ways_23 rfl ?_
    have en : Value.int n = Value.int (nI (tN n)) := by rw [← hn.1]
    rw [en]
    refine w_cV2 (n := 27) pl_60 cl_6 s0_X6_bestFrom k_X11_254 (Nat.le_of_ble_eq_true rfl) dX11_ways_24 rfl (c6_b0 hn.2 d K.1 M2 _ o hs0_h k1_h hb0_h (fun M3 b1_h b2_h b3_h => ?_))
    rw [Nat.sub_zero, ← sg_fb_tb] at b2_h b3_h
    rw [Nat.sub_zero, ← sg_fb_tb]
    have f9_h := f0_h.tr (cBP_N b1_h)
    refine w_pop (n := 28) rfl dX11_ways_27 rfl ?_
    refine w_al0 (n := 29) dX11_ways_28 rfl ?_
    refine g_R (n := 32) f_X11_52_11 pl_0 rf_0_4 dX11_ways_29 rfl ?_
    refine g_R (n := 35) f_X11_263_6 pl_60 rf_60_3 dX11_ways_32 rfl ?_
    refine w_iconst (n := 36) (nI 0) dX11_ways_35 (by decide) rfl ?_
    refine i_iald (n := 37) pl_68 (j := 0) rfl (by decide) (by decide) b2_h dX11_ways_36 rfl ?_
    refine w_retI dX11_ways_37 rfl ?_
    rw [show kf_ways K n = nI (sg_fb K (tN n)).2.2 from if_pos t3_h] at hq
    exact hq M3 f9_h
  · skip
    refine w_if_ne (n := 9) 11 dX11_ways_6 (by decide) rfl (fun h => absurd h (by decide)) (fun _ => ?_)
    refine w_iconst (n := 10) (-1) dX11_ways_9 (by decide) rfl ?_
    refine w_retI dX11_ways_10 rfl ?_
    rw [show kf_ways K n = -1 from if_neg t3_h] at hq
    exact hq M dk_fr.rf

set_option maxRecDepth 20000 in
theorem C_ith {d : Nat} {M : dk_Mem} {Q : Option Value → dk_Mem → Prop} {K : sg_K} (hK : cK K M) {n i : Int32} (hq : ∀ M2, dk_fr cN M M2 → Q (some (.int (kf_ith K n i))) M2) : dk_Call (d + 14) mX11_ith [.ref 0, .int n, .int i] M Q := by
  have hK0 := hK
  obtain ⟨⟨o, p1_h, p2_h, p3_h⟩, hs, hc, hb, hcr, hsc, hz, β, hβ, hβ1, hβ2⟩ := hK0
  have o4_h := o.2.2.2.1
  have o16_h := o.2.1
  have hm : dk_mo 22 := Or.inl rfl
  refine dk_enter [some (.ref 0), some (.int n), some (.int i)] (by decide) (fun _ => rfl) (fun _ => Nat.le_of_ble_eq_true rfl) ?_
  refine w_il1 (n := 1) dX11_ith_0 rfl ?_
  refine w_iconst (n := 2) (nI 0) dX11_ith_1 (by decide) rfl ?_
  refine w_iconst (n := 3) (nI 4) dX11_ith_2 (by decide) rfl ?_
  refine w_cS3 (n := 6) s0_X11_within k_X11_112 (Nat.le_of_ble_eq_true rfl) dX11_ith_3 rfl (c_within (fun t3_h => ?_) (fun t3_h => ?_))
  · skip
    refine w_if_eq (n := 9) 18 dX11_ith_6 (by decide) rfl (fun h => absurd h (by decide)) (fun _ => ?_)
    refine w_il2 (n := 10) dX11_ith_9 rfl ?_
    refine w_iconst (n := 11) (nI 0) dX11_ith_10 (by decide) rfl ?_
    refine w_iconst (n := 12) (nI 3) dX11_ith_11 (by decide) rfl ?_
    refine w_cS3 (n := 15) s0_X11_within k_X11_112 (Nat.le_of_ble_eq_true rfl) dX11_ith_12 rfl (c_within (fun t12_h => ?_) (fun t12_h => ?_))
    · skip
      refine w_if_ne (n := 18) 20 dX11_ith_15 (by decide) rfl (fun _ => ?_) (fun h => absurd h (by decide))
      have hn := tN_of (n := 4) (by decide) t3_h.1 t3_h.2
      have hi := tN_of (n := 3) (by decide) t12_h.1 t12_h.2
      rw [show kf_ith K n i = if tN i < sg_ys K.1 (tN n) then nI (pl_d (K.1 4 + 1) (sg_ys K.1 (tN n)) (sg_fb K (tN n)).2.1 (tN i)) else -3 from if_pos ⟨t3_h, t12_h⟩] at hq
      have yl := (sg_ys_le (σ := K.1) (n := tN n)).1
      have hl := hn.2
      have hl2_h := hi.2
      have en0_h : Value.int n = Value.int (nI (tN n)) := by rw [← hn.1]
      have ei0_h : Value.int i = Value.int (nI (tN i)) := by rw [← hi.1]
      rw [en0_h, ei0_h]
      refine w_il2 (n := 21) dX11_ith_20 rfl ?_
      refine w_al0 (n := 22) dX11_ith_21 rfl ?_
      refine w_il1 (n := 23) dX11_ith_22 rfl ?_
      refine w_cV1 (n := 26) pl_0 cl_11 s0_X11_planLength k_X11_257 (Nat.le_of_ble_eq_true rfl) dX11_ith_23 rfl (c_planLen hs hK.1 hc hl ?_)
      refine w_ic_lt (n := 29) 32 dX11_ith_26 (by decide) rfl (fun z26_h => ?_) (fun z26_h => ?_)
      · skip
        have hlt : tN i < sg_ys K.1 (tN n) := by rw [nI_ltI (by omega) (by omega)] at z26_h; exact z26_h
        rw [if_pos hlt] at hq
        refine w_al0 (n := 33) dX11_ith_32 rfl ?_
        refine g_R (n := 36) f_X11_52_11 pl_0 rf_0_4 dX11_ith_33 rfl ?_
        refine w_cV0 (n := 39) pl_60 cl_6 s0_X6_start k_X11_251 (Nat.le_of_ble_eq_true rfl) dX11_ith_36 rfl (c6_start hs o hm hc (fun M2 k1_h k2_h => ?_))
        have f0_h : dk_fr cN M M2 := k2_h.up (fun q k z => by unfold cN; omega)
        have hs0_h : cs K.1 M2 := hs.fr f0_h (fun q k _ _ z => by unfold cN at z; omega)
        have hb0_h : cbb K.2.1 M2 := hb.fr f0_h (fun q k z => Or.inr (Or.inr z))
        refine w_al0 (n := 40) dX11_ith_39 rfl ?_
        refine g_R (n := 43) f_X11_52_11 pl_0 rf_0_4 dX11_ith_40 rfl ?_
        refine w_iconst (n := 44) (nI 0) dX11_ith_43 (by decide) rfl ?_
        refine w_il1 (n := 45) dX11_ith_44 rfl ?_
        refine w_cV2 (n := 48) pl_60 cl_6 s0_X6_bestFrom k_X11_254 (Nat.le_of_ble_eq_true rfl) dX11_ith_45 rfl (c6_b0 hl d K.1 M2 _ o hs0_h k1_h hb0_h (fun M3 b1_h b2_h b3_h => ?_))
        rw [Nat.sub_zero, ← sg_fb_tb] at b2_h b3_h
        have f9_h := f0_h.tr (cBP_N b1_h)
        refine w_pop (n := 49) rfl dX11_ith_48 rfl ?_
        refine w_al0 (n := 50) dX11_ith_49 rfl ?_
        refine g_R (n := 53) f_X11_52_11 pl_0 rf_0_4 dX11_ith_50 rfl ?_
        refine g_R (n := 56) f_X11_260_6 pl_60 rf_60_2 dX11_ith_53 rfl ?_
        refine w_iconst (n := 57) (nI 0) dX11_ith_56 (by decide) rfl ?_
        refine i_aaldI (n := 58) pl_62 (j := 0) rfl (by decide) (by decide) rf_62_0 dX11_ith_57 rfl ?_
        refine w_il2 (n := 59) dX11_ith_58 rfl ?_
        refine i_iald (n := 60) pl_63 (j := tN i) rfl (by omega) (by decide) ((congrArg (fun y => M3.1 63 y) (Nat.zero_add (tN i)).symm).trans (b3_h (tN i) hlt)) dX11_ith_59 rfl ?_
        refine w_retI dX11_ith_60 rfl ?_
        exact hq M3 f9_h
      · skip
        refine w_bipush (n := 31) (-3) dX11_ith_29 (by decide) rfl ?_
        refine w_retI dX11_ith_31 rfl ?_
        rw [if_neg (by rw [nI_ltI (by omega) (by omega)] at z26_h; exact z26_h)] at hq
        exact hq M dk_fr.rf
    · skip
      refine w_if_ne (n := 18) 20 dX11_ith_15 (by decide) rfl (fun h => absurd h (by decide)) (fun _ => ?_)
      refine w_iconst (n := 19) (-1) dX11_ith_18 (by decide) rfl ?_
      refine w_retI dX11_ith_19 rfl ?_
      rw [show kf_ith K n i = -1 from if_neg (fun z => by first | exact t3_h z.1 | exact t12_h z.2)] at hq
      exact hq M dk_fr.rf
  · skip
    refine w_if_eq (n := 9) 18 dX11_ith_6 (by decide) rfl (fun _ => ?_) (fun h => absurd (by decide) h)
    refine w_iconst (n := 19) (-1) dX11_ith_18 (by decide) rfl ?_
    refine w_retI dX11_ith_19 rfl ?_
    rw [show kf_ith K n i = -1 from if_neg (fun z => by first | exact t3_h z.1 | exact t12_h z.2)] at hq
    exact hq M dk_fr.rf
