theorem sg_lw_4 {w : sg_R} {σ : Nat → Nat} (o : sg_ok σ) : ∀ h, sg_lw w σ = some h → h < σ 4 := fun h e => sg_fm_lt o (σ 4) (Nat.le_refl _) h e
theorem cK.cb {K : sg_K} {M M1 : dk_Mem} (h : cbb K.2.1 M) (hf : dk_fr cN M M1) : cbb K.2.1 M1 := h.fr hf (fun q k z => Or.inr (Or.inr z))

set_option maxRecDepth 20000 in
theorem c_goOn {d : Nat} {M : dk_Mem} {Q : Option Value → dk_Mem → Prop} {K : sg_K} (hK : cK K M) {t : Option Nat} (ht : ∀ h, t = some h → h < K.1 4) (hy : K.1 1 < K.1 0) (hq : ∀ M2, cK (sg_yr K t).2 M2 → dk_fr cA M M2 → Q (some (.int (sg_yr K t).1)) M2) : dk_Call (d + 7) mX11_goOn [.ref 0, .int (nI (sg_act t))] M Q := by
  have hK0 := hK
  obtain ⟨⟨o, p1, p2, p3⟩, hs, hc, hb, hcr, hsc, hz, β, hβ, hβ1, hβ2⟩ := hK0
  have o4 := o.2.2.2.1
  have o16 := o.2.1
  have hm : dk_mo 22 := Or.inl rfl
  have hm9 : dk_mo 79 := Or.inr (Or.inr (Or.inr (Or.inr (Or.inr (Or.inr (Or.inr rfl))))))
  refine dk_enter [some (.ref 0), some (.int (nI (sg_act t))), none] (by decide) (fun _ => rfl) (fun _ => Nat.le_of_ble_eq_true rfl) ?_
  refine w_al0 (n := 1) dX11_goOn_0 rfl ?_
  refine g_R (n := 4) f_X11_36_11 pl_0 rf_0_1 dX11_goOn_1 rfl ?_
  refine w_al0 (n := 5) dX11_goOn_4 rfl ?_
  refine g_R (n := 8) f_X11_36_11 pl_0 rf_0_1 dX11_goOn_5 rfl ?_
  refine g_R (n := 11) f_X11_127_10 pl_14 rf_14_9 dX11_goOn_8 rfl ?_
  refine w_il1 (n := 12) dX11_goOn_11 rfl ?_
  refine w_cV2 (n := 15) pl_14 cl_10 s0_X10_passYear k_X11_241 (Nat.le_of_ble_eq_true rfl) dX11_goOn_12 rfl (c10_py hs o hm hc ht hb (fun M2 g1 g2 => ?_))
  refine w_is2 (n := 16) dX11_goOn_15 rfl rfl (by decide) ?_
  refine w_al0 (n := 17) dX11_goOn_16 rfl ?_
  refine g_R (n := 20) f_X11_36_11 pl_0 rf_0_1 dX11_goOn_17 rfl ?_
  refine w_dup (n := 21) rfl dX11_goOn_20 rfl ?_
  refine g_I (n := 24) f_X11_194_10 pl_14 dX11_goOn_21 rfl ?_
  refine w_il2 (n := 25) dX11_goOn_24 rfl ?_
  rw [g2.2 14 11 (fun z => by unfold cX at z; omega), hsc]
  refine w_iadd (n := 26) dX11_goOn_25 rfl ?_
  refine p_I (n := 29) f_X11_194_10 pl_14 dX11_goOn_26 rfl ?_
  refine w_il2 (n := 30) dX11_goOn_29 rfl ?_
  refine w_retI dX11_goOn_30 rfl ?_
  exact hq _ (hK.yr ht hy g1 g2) ((cXA g2).put (by unfold cA cN; omega))

set_option maxRecDepth 20000 in
theorem C_year {d : Nat} {M : dk_Mem} {Q : Option Value → dk_Mem → Prop} {K : sg_K} (hK : cK K M) (hq : ∀ M2, cK (kf_year K).2 M2 → dk_fr cA M M2 → Q (some (.int (kf_year K).1)) M2) : dk_Call (d + 8) mX11_year [.ref 0] M Q := by
  have hK0 := hK
  obtain ⟨⟨o, p1, p2, p3⟩, hs, hc, hb, hcr, hsc, hz, β, hβ, hβ1, hβ2⟩ := hK0
  have o4 := o.2.2.2.1
  have o16 := o.2.1
  have hm : dk_mo 22 := Or.inl rfl
  have hm9 : dk_mo 79 := Or.inr (Or.inr (Or.inr (Or.inr (Or.inr (Or.inr (Or.inr rfl))))))
  refine dk_enter [some (.ref 0)] (by decide) (fun _ => rfl) (fun _ => Nat.le_of_ble_eq_true rfl) ?_
  refine w_al0 (n := 1) dX11_year_0 rfl ?_
  refine g_R (n := 4) f_X11_36_11 pl_0 rf_0_1 dX11_year_1 rfl ?_
  refine w_al0 (n := 5) dX11_year_4 rfl ?_
  refine g_R (n := 8) f_X11_36_11 pl_0 rf_0_1 dX11_year_5 rfl ?_
  refine g_R (n := 11) f_X11_127_10 pl_14 rf_14_9 dX11_year_8 rfl ?_
  refine w_cV1 (n := 14) pl_14 cl_10 s0_X10_isOver k_X11_197 (Nat.le_of_ble_eq_true rfl) dX11_year_11 rfl (c10_isOver hs o hm hc (fun t11 => ?_) (fun t11 => ?_))
  · skip
    refine w_if_eq (n := 17) 20 dX11_year_14 (by decide) rfl (fun h => absurd h (by decide)) (fun _ => ?_)
    refine w_bipush (n := 19) (-4) dX11_year_17 (by decide) rfl ?_
    refine w_retI dX11_year_19 rfl ?_
    exact dk_fin hq (if_pos t11) hK dk_fr.rf
  · skip
    refine w_if_eq (n := 17) 20 dX11_year_14 (by decide) rfl (fun _ => ?_) (fun h => absurd (by decide) h)
    refine w_al0 (n := 21) dX11_year_20 rfl ?_
    refine w_al0 (n := 22) dX11_year_21 rfl ?_
    refine g_R (n := 25) f_X11_36_11 pl_0 rf_0_1 dX11_year_22 rfl ?_
    refine w_al0 (n := 26) dX11_year_25 rfl ?_
    refine g_R (n := 29) f_X11_36_11 pl_0 rf_0_1 dX11_year_26 rfl ?_
    refine g_R (n := 32) f_X11_127_10 pl_14 rf_14_9 dX11_year_29 rfl ?_
    refine w_cV1 (n := 35) pl_14 cl_10 s0_X10_leastWilling k_X11_216 (Nat.le_of_ble_eq_true rfl) dX11_year_32 rfl (c10_lw hs o hm hc hb (fun M2 g => ?_))
    refine w_cV1 (n := 38) pl_0 cl_11 s0_X11_goOn k_X11_219 (Nat.le_of_ble_eq_true rfl) dX11_year_35 rfl (c_goOn (hK.N (cY_N g)) (sg_lw_4 o) t11 (fun M3 g1 g2 => ?_))
    refine w_retI dX11_year_38 rfl ?_
    refine dk_fin hq (if_neg (by omega)) g1 ((cN_A (cY_N g)).tr g2)

set_option maxRecDepth 20000 in
theorem c_rwL {d : Nat} {M : dk_Mem} {Q : Option Value → dk_Mem → Prop} {N : Nat} (hN : N ≤ 16) {w : sg_R} {T0 : Nat} (hq : ∀ M1, dk_fr cN M M1 → Q (some (.int (nI T0))) M1) : ∀ (n k a : Nat) (σ : Nat → Nat) (M1 : dk_Mem), k ≤ N → N - k < n → sg_ok σ → cs σ M1 → cm 79 σ M1 → cbb w M1 → dk_fr cN M M1 → a + (sg_rest w (N - k) σ).2 = T0 → dk_W (d + 8) mX11_restWorth 18 [some (.ref 0), some (.int (nI N)), some (.int (nI a)), some (.int (nI k))] [] M1 Q := by
  have hm9 : dk_mo 79 := Or.inr (Or.inr (Or.inr (Or.inr (Or.inr (Or.inr (Or.inr rfl))))))
  intro n
  induction n with
  | zero => intro k _ _ _ _ h; omega
  | succ n ih =>
    intro k a σ M1 hi hn o hs hc hb hf he
    refine w_il3 (n := 19) dX11_restWorth_18 rfl ?_
    refine w_il1 (n := 20) dX11_restWorth_19 rfl ?_
    refine w_ic_ge (n := 23) 68 dX11_restWorth_20 (by decide) rfl (fun z20 => ?_) (fun z20 => ?_)
    · skip
      refine w_il2 (n := 69) dX11_restWorth_68 rfl ?_
      refine w_retI dX11_restWorth_69 rfl ?_
      have e0 : (sg_rest w (N - k) σ).2 = 0 := by
        first | (rw [show N - k = 0 by rw [q_le (by omega) (by omega)] at z20; omega]; rfl) | (rcases Nat.eq_zero_or_pos (N - k) with e | e; (rw [e]; rfl); (rw [show N - k = (N - k - 1) + 1 by omega, sg_rest, if_pos t31]))
      rw [e0] at he
      rw [show a = T0 by omega]
      exact hq M1 hf
    · skip
      refine w_al0 (n := 24) dX11_restWorth_23 rfl ?_
      refine g_R (n := 27) f_X11_36_11 pl_0 rf_0_1 dX11_restWorth_24 rfl ?_
      refine w_al0 (n := 28) dX11_restWorth_27 rfl ?_
      refine g_R (n := 31) f_X11_59_11 pl_0 rf_0_5 dX11_restWorth_28 rfl ?_
      refine w_cV1 (n := 34) pl_14 cl_10 s0_X10_isOver k_X11_197 (Nat.le_of_ble_eq_true rfl) dX11_restWorth_31 rfl (c10_isOver hs o hm9 hc (fun t31 => ?_) (fun t31 => ?_))
      · skip
        refine w_if_ne (n := 37) 68 dX11_restWorth_34 (by decide) rfl (fun _ => ?_) (fun h => absurd h (by decide))
        refine w_il2 (n := 69) dX11_restWorth_68 rfl ?_
        refine w_retI dX11_restWorth_69 rfl ?_
        have e0 : (sg_rest w (N - k) σ).2 = 0 := by
          first | (rw [show N - k = 0 by rw [q_le (by omega) (by omega)] at z20; omega]; rfl) | (rcases Nat.eq_zero_or_pos (N - k) with e | e; (rw [e]; rfl); (rw [show N - k = (N - k - 1) + 1 by omega, sg_rest, if_pos t31]))
        rw [e0] at he
        rw [show a = T0 by omega]
        exact hq M1 hf
      · skip
        refine w_if_ne (n := 37) 68 dX11_restWorth_34 (by decide) rfl (fun h => absurd h (by decide)) (fun _ => ?_)
        refine w_il2 (n := 38) dX11_restWorth_37 rfl ?_
        refine w_al0 (n := 39) dX11_restWorth_38 rfl ?_
        refine g_R (n := 42) f_X11_36_11 pl_0 rf_0_1 dX11_restWorth_39 rfl ?_
        refine w_al0 (n := 43) dX11_restWorth_42 rfl ?_
        refine g_R (n := 46) f_X11_59_11 pl_0 rf_0_5 dX11_restWorth_43 rfl ?_
        refine w_al0 (n := 47) dX11_restWorth_46 rfl ?_
        refine g_R (n := 50) f_X11_36_11 pl_0 rf_0_1 dX11_restWorth_47 rfl ?_
        refine w_al0 (n := 51) dX11_restWorth_50 rfl ?_
        refine g_R (n := 54) f_X11_59_11 pl_0 rf_0_5 dX11_restWorth_51 rfl ?_
        refine w_cV1 (n := 57) pl_14 cl_10 s0_X10_leastWilling k_X11_216 (Nat.le_of_ble_eq_true rfl) dX11_restWorth_54 rfl (c10_lw hs o hm9 hc hb (fun M2 g => ?_))
        refine w_cV2 (n := 60) pl_14 cl_10 s0_X10_passYear k_X11_241 (Nat.le_of_ble_eq_true rfl) dX11_restWorth_57 rfl (c10_py (hs.Y g) o hm9 (hc.Y hm9 g) (sg_lw_4 o) (hb.Y g) (fun M3 g1 g2 => ?_))
        refine w_iadd (n := 61) dX11_restWorth_60 rfl ?_
        refine w_is2 (n := 62) dX11_restWorth_61 rfl rfl (by decide) ?_
        refine w_inc3 (n := 65) (nI 1) dX11_restWorth_62 (by decide) rfl rfl (by decide) ?_
        refine w_goto 18 dX11_restWorth_65 (by decide) ?_
        have hk : k < N := by rw [q_le (by omega) (by omega)] at z20; omega
        have e : (sg_rest w (N - k) σ).2 = (sg_goes w σ (sg_lw w σ)).2 + (sg_rest w (N - (k + 1)) (sg_goes w σ (sg_lw w σ)).1).2 := by rw [show N - k = (N - (k + 1)) + 1 by omega, sg_rest, if_neg (by omega)]
        rw [e] at he
        have o1 := o.2.1
        rw [nI_add, nI_add]
        exact ih (k + 1) _ _ M3 (by omega) (by omega) (o.goes (sg_lw_lt o) (by omega)) (((hs.Y g).X hm9 g2).eqv sg_eqv.goes) g1 ((hb.Y g).X hm9 g2) ((hf.tr (cY_N g)).tr (cX79 g2)) (by omega)

set_option maxRecDepth 20000 in
theorem c_rw {d : Nat} {M : dk_Mem} {Q : Option Value → dk_Mem → Prop} (hm : dk_mo 22) (hm9 : dk_mo 79) {σ : Nat → Nat} (hs : cs σ M) (o : sg_ok σ) (hc : cm 22 σ M) {w : sg_R} (hb : cbb w M) {N : Nat} (hN : N ≤ 16) (hq : ∀ M1, dk_fr cN M M1 → Q (some (.int (nI (sg_rest w N σ).2))) M1) : dk_Call (d + 8) mX11_restWorth [.ref 0, .int (nI N)] M Q := by
  have o4 := o.2.2.2.1
  refine dk_enter [some (.ref 0), some (.int (nI N)), none, none] (by decide) (fun _ => rfl) (fun _ => Nat.le_of_ble_eq_true rfl) ?_
  refine w_al0 (n := 1) dX11_restWorth_0 rfl ?_
  refine g_R (n := 4) f_X11_59_11 pl_0 rf_0_5 dX11_restWorth_1 rfl ?_
  refine w_al0 (n := 5) dX11_restWorth_4 rfl ?_
  refine g_R (n := 8) f_X11_36_11 pl_0 rf_0_1 dX11_restWorth_5 rfl ?_
  refine g_R (n := 11) f_X11_127_10 pl_14 rf_14_9 dX11_restWorth_8 rfl ?_
  refine w_cV1 (n := 14) pl_79 cl_4 s0_X4_take k_X11_233 (Nat.le_of_ble_eq_true rfl) dX11_restWorth_11 rfl (c4_take hm9 hm (by decide) hc o4 (fun M2 k1 k2 => ?_))
  refine w_iconst (n := 15) (nI 0) dX11_restWorth_14 (by decide) rfl ?_
  refine w_is2 (n := 16) dX11_restWorth_15 rfl rfl (by decide) ?_
  refine w_iconst (n := 17) (nI 0) dX11_restWorth_16 (by decide) rfl ?_
  refine w_is3 (n := 18) dX11_restWorth_17 rfl rfl (by decide) ?_
  have f0 : dk_fr cN M M2 := k2.up (fun q k z => by unfold cN; omega)
  have hs0 : cs _ M2 := hs.fr f0 (fun q k _ _ z => by unfold cN at z; omega)
  have hb0 : cbb _ M2 := hb.fr f0 (fun q k z => Or.inr (Or.inr z))
  exact c_rwL hN (fun M1 g => hq M1 (f0.tr g)) (N + 1) 0 0 σ M2 (by omega) (by omega) o hs0 k1 hb0 dk_fr.rf (by rw [Nat.sub_zero, Nat.zero_add])

set_option maxRecDepth 20000 in
theorem C_on {d : Nat} {M : dk_Mem} {Q : Option Value → dk_Mem → Prop} {K : sg_K} (hK : cK K M) {n : Int32} (hq : ∀ M2, cK (kf_on K n).2 M2 → dk_fr cA M M2 → Q (some (.int (kf_on K n).1)) M2) : dk_Call (d + 9) mX11_on [.ref 0, .int n] M Q := by
  have hK0 := hK
  obtain ⟨⟨o, p1, p2, p3⟩, hs, hc, hb, hcr, hsc, hz, β, hβ, hβ1, hβ2⟩ := hK0
  have o4 := o.2.2.2.1
  have o16 := o.2.1
  have hm : dk_mo 22 := Or.inl rfl
  have hm9 : dk_mo 79 := Or.inr (Or.inr (Or.inr (Or.inr (Or.inr (Or.inr (Or.inr rfl))))))
  refine dk_enter [some (.ref 0), some (.int n)] (by decide) (fun _ => rfl) (fun _ => Nat.le_of_ble_eq_true rfl) ?_
  refine w_il1 (n := 1) dX11_on_0 rfl ?_
  refine w_iconst (n := 2) (nI 0) dX11_on_1 (by decide) rfl ?_
  refine w_bipush (n := 4) (nI 16) dX11_on_2 (by decide) rfl ?_
  refine w_cS3 (n := 7) s0_X11_within k_X11_112 (Nat.le_of_ble_eq_true rfl) dX11_on_4 rfl (c_within (fun t4 => ?_) (fun t4 => ?_))
  · skip
    refine w_if_ne (n := 10) 12 dX11_on_7 (by decide) rfl (fun _ => ?_) (fun h => absurd h (by decide))
    refine w_al0 (n := 13) dX11_on_12 rfl ?_
    refine w_il1 (n := 14) dX11_on_13 rfl ?_
    have hn := tN_of (n := 16) (by decide) t4.1 t4.2
    rw [hn.1]
    refine w_cV1 (n := 17) pl_0 cl_11 s0_X11_restWorth k_X11_222 (Nat.le_of_ble_eq_true rfl) dX11_on_14 rfl (c_rw hm hm9 hs o hc hb hn.2 (fun M1 g => ?_))
    refine w_retI dX11_on_17 rfl ?_
    exact dk_fin hq (congrArg (fun y => (y, K)) (if_pos t4)) (hK.N g) (cN_A g)
  · skip
    refine w_if_ne (n := 10) 12 dX11_on_7 (by decide) rfl (fun h => absurd h (by decide)) (fun _ => ?_)
    refine w_iconst (n := 11) (-1) dX11_on_10 (by decide) rfl ?_
    refine w_retI dX11_on_11 rfl ?_
    exact dk_fin hq (congrArg (fun y => (y, K)) (if_neg t4)) hK dk_fr.rf

set_option maxRecDepth 20000 in
theorem c_ffLT {d : Nat} {M : dk_Mem} {Q : Option Value → dk_Mem → Prop} {w : sg_R} {c h : Nat} (h4 : h < c) {T0 : Int32} (hq : ∀ M1, dk_fr cN M M1 → Q (some (.int T0)) M1) : ∀ (n k : Nat) (σ : Nat → Nat) (M1 : dk_Mem), k ≤ 16 → 16 - k < n → sg_ok σ → σ 4 = c → σ 0 - σ 1 ≤ 16 - k → cs σ M1 → cm 79 σ M1 → cbb w M1 → dk_fr cN M M1 → sg_wh w true h (16 - k) σ = T0 → dk_W (d + 8) mX11_firstFallen 33 [some (.ref 0), some (.int (nI h)), some (.int (nI 1)), some (.int (nI k))] [] M1 Q := by
  have hm9 : dk_mo 79 := Or.inr (Or.inr (Or.inr (Or.inr (Or.inr (Or.inr (Or.inr rfl))))))
  intro n
  induction n with
  | zero => intro k _ _ _ h; omega
  | succ n ih =>
    intro k σ M1 hi hn o hc4 hyr hs hc hb hf he
    subst hc4
    have o4 := o.2.2.2.1
    refine w_il3 (n := 34) dX11_firstFallen_33 rfl ?_
    refine w_bipush (n := 36) (nI 16) dX11_firstFallen_34 (by decide) rfl ?_
    refine w_ic_ge (n := 39) 111 dX11_firstFallen_36 (by decide) rfl (fun z36 => ?_) (fun z36 => ?_)
    · skip
      refine w_bipush (n := 113) (-3) dX11_firstFallen_111 (by decide) rfl ?_
      refine w_retI dX11_firstFallen_113 rfl ?_
      have e0 : sg_wh w true h (16 - k) σ = -3 := by
        first | (rw [show 16 - k = 0 by rw [q_le (by omega) (by omega)] at z36; omega]; rfl) | (rcases Nat.eq_zero_or_pos (16 - k) with e | e; (rw [e]; rfl); (rw [show 16 - k = (16 - k - 1) + 1 by omega, sg_wh, if_pos t47]))
      rw [e0] at he
      subst he
      exact hq M1 hf
    · skip
      refine w_al0 (n := 40) dX11_firstFallen_39 rfl ?_
      refine g_R (n := 43) f_X11_36_11 pl_0 rf_0_1 dX11_firstFallen_40 rfl ?_
      refine w_al0 (n := 44) dX11_firstFallen_43 rfl ?_
      refine g_R (n := 47) f_X11_59_11 pl_0 rf_0_5 dX11_firstFallen_44 rfl ?_
      refine w_cV1 (n := 50) pl_14 cl_10 s0_X10_isOver k_X11_197 (Nat.le_of_ble_eq_true rfl) dX11_firstFallen_47 rfl (c10_isOver hs o hm9 hc (fun t47 => ?_) (fun t47 => ?_))
      · skip
        refine w_if_ne (n := 53) 111 dX11_firstFallen_50 (by decide) rfl (fun _ => ?_) (fun h => absurd h (by decide))
        refine w_bipush (n := 113) (-3) dX11_firstFallen_111 (by decide) rfl ?_
        refine w_retI dX11_firstFallen_113 rfl ?_
        have e0 : sg_wh w true h (16 - k) σ = -3 := by
          first | (rw [show 16 - k = 0 by rw [q_le (by omega) (by omega)] at z36; omega]; rfl) | (rcases Nat.eq_zero_or_pos (16 - k) with e | e; (rw [e]; rfl); (rw [show 16 - k = (16 - k - 1) + 1 by omega, sg_wh, if_pos t47]))
        rw [e0] at he
        subst he
        exact hq M1 hf
      · skip
        refine w_if_ne (n := 53) 111 dX11_firstFallen_50 (by decide) rfl (fun h => absurd h (by decide)) (fun _ => ?_)
        refine w_al0 (n := 54) dX11_firstFallen_53 rfl ?_
        refine g_R (n := 57) f_X11_36_11 pl_0 rf_0_1 dX11_firstFallen_54 rfl ?_
        refine w_al0 (n := 58) dX11_firstFallen_57 rfl ?_
        refine g_R (n := 61) f_X11_59_11 pl_0 rf_0_5 dX11_firstFallen_58 rfl ?_
        refine w_il2 (n := 62) dX11_firstFallen_61 rfl ?_
        refine w_if_eq (n := 65) 79 dX11_firstFallen_62 (by decide) rfl (fun h => absurd h (by decide)) (fun _ => ?_)
        refine w_al0 (n := 66) dX11_firstFallen_65 rfl ?_
        refine g_R (n := 69) f_X11_36_11 pl_0 rf_0_1 dX11_firstFallen_66 rfl ?_
        refine w_al0 (n := 70) dX11_firstFallen_69 rfl ?_
        refine g_R (n := 73) f_X11_59_11 pl_0 rf_0_5 dX11_firstFallen_70 rfl ?_
        refine w_cV1 (n := 76) pl_14 cl_10 s0_X10_leastWilling k_X11_216 (Nat.le_of_ble_eq_true rfl) dX11_firstFallen_73 rfl (c10_lw hs o hm9 hc hb (fun M2 g => ?_))
        refine w_goto 80 dX11_firstFallen_76 (by decide) ?_
        refine w_cV2 (n := 83) pl_14 cl_10 s0_X10_passYear k_X11_241 (Nat.le_of_ble_eq_true rfl) dX11_firstFallen_80 rfl (c10_py (hs.Y g) o hm9 (hc.Y hm9 g) (sg_lw_4 o) (hb.Y g) (fun M3 g1 g2 => ?_))
        refine w_pop (n := 84) rfl dX11_firstFallen_83 rfl ?_
        have o2 := o.goes (w := w) (t := (sg_lw w σ)) (sg_lw_lt (w := w) o) (by have := o.2.1; omega)
        have hk : k < 16 := by rw [q_le (by omega) (by omega)] at z36; omega
        have he2 : (if (sg_goes w σ (sg_lw w σ)).1 (39 + 5 * h) = 1 then nI (σ 1) else sg_wh w true h (16 - (k + 1)) (sg_goes w σ (sg_lw w σ)).1) = T0 := by rw [← he, show 16 - k = (16 - (k + 1)) + 1 by omega]; exact (if_neg (show ¬ σ 0 ≤ σ 1 by omega)).symm
        refine w_al0 (n := 85) dX11_firstFallen_84 rfl ?_
        refine g_R (n := 88) f_X11_59_11 pl_0 rf_0_5 dX11_firstFallen_85 rfl ?_
        refine w_il1 (n := 89) dX11_firstFallen_88 rfl ?_
        refine w_cV1 (n := 92) pl_79 cl_4 s0_X4_isFallen k_X11_142 (Nat.le_of_ble_eq_true rfl) dX11_firstFallen_89 rfl (c4_isFallen hm9 g1 o2 (by rw [sg_goes_o (by omega) (by omega)]; exact h4) (fun t89 => ?_) (fun t89 => ?_))
        · skip
          refine w_if_eq (n := 95) 105 dX11_firstFallen_92 (by decide) rfl (fun h => absurd h (by decide)) (fun _ => ?_)
          refine w_al0 (n := 96) dX11_firstFallen_95 rfl ?_
          refine g_R (n := 99) f_X11_59_11 pl_0 rf_0_5 dX11_firstFallen_96 rfl ?_
          refine g_I (n := 102) f_X11_185_4 pl_79 dX11_firstFallen_99 rfl ?_
          refine w_iconst (n := 103) (nI 1) dX11_firstFallen_102 (by decide) rfl ?_
          refine w_isub (n := 104) dX11_firstFallen_103 rfl ?_
          refine w_retI dX11_firstFallen_104 rfl ?_
          rw [if_pos t89] at he2
          rw [g1.1, sg_goes_1, q_pm1 (by have := o.2.1; omega), Nat.add_sub_cancel, he2]
          exact hq M3 ((hf.tr (cY_N g)).tr (cX79 g2))
        · skip
          refine w_if_eq (n := 95) 105 dX11_firstFallen_92 (by decide) rfl (fun _ => ?_) (fun h => absurd (by decide) h)
          refine w_inc3 (n := 108) (nI 1) dX11_firstFallen_105 (by decide) rfl rfl (by decide) ?_
          refine w_goto 33 dX11_firstFallen_108 (by decide) ?_
          rw [nI_add]
          rw [if_neg (by omega)] at he2
          exact ih (k + 1) _ M3 (by omega) (by omega) o2 (sg_goes_o (by omega) (by omega)) (by rw [sg_goes_1, sg_goes_o (by omega) (by omega)]; omega) (((hs.Y g).X hm9 g2).eqv sg_eqv.goes) g1 ((hb.Y g).X hm9 g2) ((hf.tr (cY_N g)).tr (cX79 g2)) he2

set_option maxRecDepth 20000 in
theorem c_ffT {d : Nat} {M : dk_Mem} {Q : Option Value → dk_Mem → Prop} (hm : dk_mo 22) (hm9 : dk_mo 79) {σ : Nat → Nat} (hs : cs σ M) (o : sg_ok σ) (hc : cm 22 σ M) {w : sg_R} (hb : cbb w M) {h : Nat} (hh : h < σ 4) (hq : ∀ M1, dk_fr cN M M1 → Q (some (.int (if σ (39 + 5 * h) = 1 then -3 else sg_wh w true h 16 σ))) M1) : dk_Call (d + 8) mX11_firstFallen [.ref 0, .int (nI h), .int (nI 1)] M Q := by
  have o4 := o.2.2.2.1
  have o16 := o.2.1
  refine dk_enter [some (.ref 0), some (.int (nI h)), some (.int (nI 1)), none] (by decide) (fun _ => rfl) (fun _ => Nat.le_of_ble_eq_true rfl) ?_
  refine w_al0 (n := 1) dX11_firstFallen_0 rfl ?_
  refine g_R (n := 4) f_X11_36_11 pl_0 rf_0_1 dX11_firstFallen_1 rfl ?_
  refine g_R (n := 7) f_X11_127_10 pl_14 rf_14_9 dX11_firstFallen_4 rfl ?_
  refine w_il1 (n := 8) dX11_firstFallen_7 rfl ?_
  refine w_cV1 (n := 11) pl_22 cl_4 s0_X4_isFallen k_X11_142 (Nat.le_of_ble_eq_true rfl) dX11_firstFallen_8 rfl (c4_isFallen hm hc o hh (fun t8 => ?_) (fun t8 => ?_))
  · skip
    refine w_if_eq (n := 14) 17 dX11_firstFallen_11 (by decide) rfl (fun h => absurd h (by decide)) (fun _ => ?_)
    refine w_bipush (n := 16) (-3) dX11_firstFallen_14 (by decide) rfl ?_
    refine w_retI dX11_firstFallen_16 rfl ?_
    rw [if_pos t8] at hq
    exact hq M dk_fr.rf
  · skip
    refine w_if_eq (n := 14) 17 dX11_firstFallen_11 (by decide) rfl (fun _ => ?_) (fun h => absurd (by decide) h)
    refine w_al0 (n := 18) dX11_firstFallen_17 rfl ?_
    refine g_R (n := 21) f_X11_59_11 pl_0 rf_0_5 dX11_firstFallen_18 rfl ?_
    refine w_al0 (n := 22) dX11_firstFallen_21 rfl ?_
    refine g_R (n := 25) f_X11_36_11 pl_0 rf_0_1 dX11_firstFallen_22 rfl ?_
    refine g_R (n := 28) f_X11_127_10 pl_14 rf_14_9 dX11_firstFallen_25 rfl ?_
    refine w_cV1 (n := 31) pl_79 cl_4 s0_X4_take k_X11_233 (Nat.le_of_ble_eq_true rfl) dX11_firstFallen_28 rfl (c4_take hm9 hm (by decide) hc o4 (fun M2 k1 k2 => ?_))
    refine w_iconst (n := 32) (nI 0) dX11_firstFallen_31 (by decide) rfl ?_
    refine w_is3 (n := 33) dX11_firstFallen_32 rfl rfl (by decide) ?_
    have f0 : dk_fr cN M M2 := k2.up (fun q k z => by unfold cN; omega)
    have hs0 : cs _ M2 := hs.fr f0 (fun q k _ _ z => by unfold cN at z; omega)
    have hb0 : cbb _ M2 := hb.fr f0 (fun q k z => Or.inr (Or.inr z))
    rw [if_neg (by omega)] at hq
    exact c_ffLT hh (fun M1 g => hq M1 (f0.tr g)) 17 0 σ M2 (by omega) (by omega) o rfl (by omega) hs0 k1 hb0 dk_fr.rf rfl

set_option maxRecDepth 20000 in
theorem C_when {d : Nat} {M : dk_Mem} {Q : Option Value → dk_Mem → Prop} {K : sg_K} (hK : cK K M) {k : Int32} (hq : ∀ M2, cK (kf_first true K k).2 M2 → dk_fr cA M M2 → Q (some (.int (kf_first true K k).1)) M2) : dk_Call (d + 9) mX11_when [.ref 0, .int k] M Q := by
  have hK0 := hK
  obtain ⟨⟨o, p1, p2, p3⟩, hs, hc, hb, hcr, hsc, hz, β, hβ, hβ1, hβ2⟩ := hK0
  have o4 := o.2.2.2.1
  have o16 := o.2.1
  have hm : dk_mo 22 := Or.inl rfl
  have hm9 : dk_mo 79 := Or.inr (Or.inr (Or.inr (Or.inr (Or.inr (Or.inr (Or.inr rfl))))))
  refine dk_enter [some (.ref 0), some (.int k)] (by decide) (fun _ => rfl) (fun _ => Nat.le_of_ble_eq_true rfl) ?_
  refine w_al0 (n := 1) dX11_when_0 rfl ?_
  refine g_R (n := 4) f_X11_36_11 pl_0 rf_0_1 dX11_when_1 rfl ?_
  refine w_il1 (n := 5) dX11_when_4 rfl ?_
  refine w_cV1 (n := 8) pl_14 cl_10 s0_X10_isPiece k_X11_123 (Nat.le_of_ble_eq_true rfl) dX11_when_5 rfl (c10_isPiece hs o (fun h hh e => ?_) (fun nh => ?_))
  · skip
    subst e
    have h6 : h < 6 := by omega
    refine w_if_ne (n := 11) 13 dX11_when_8 (by decide) rfl (fun _ => ?_) (fun h => absurd h (by decide))
    refine w_al0 (n := 14) dX11_when_13 rfl ?_
    refine w_il1 (n := 15) dX11_when_14 rfl ?_
    refine w_iconst (n := 16) (nI 1) dX11_when_15 (by decide) rfl ?_
    refine w_cV2 (n := 19) pl_0 cl_11 s0_X11_firstFallen k_X11_225 (Nat.le_of_ble_eq_true rfl) dX11_when_16 rfl (c_ffT hm hm9 hs o hc hb hh (fun M1 g => ?_))
    refine w_retI dX11_when_19 rfl ?_
    exact dk_fin hq (by unfold kf_first; rw [sg_pc_some o4 hh]) (hK.N g) (cN_A g)
  · skip
    refine w_if_ne (n := 11) 13 dX11_when_8 (by decide) rfl (fun h => absurd h (by decide)) (fun _ => ?_)
    refine w_iconst (n := 12) (-1) dX11_when_11 (by decide) rfl ?_
    refine w_retI dX11_when_12 rfl ?_
    exact dk_fin hq (by unfold kf_first; rw [sg_pc_none o4 nh]) hK dk_fr.rf

set_option maxRecDepth 20000 in
theorem c_ffLF {d : Nat} {M : dk_Mem} {Q : Option Value → dk_Mem → Prop} {w : sg_R} {c h : Nat} (h4 : h < c) {T0 : Int32} (hq : ∀ M1, dk_fr cN M M1 → Q (some (.int T0)) M1) : ∀ (n k : Nat) (σ : Nat → Nat) (M1 : dk_Mem), k ≤ 16 → 16 - k < n → sg_ok σ → σ 4 = c → σ 0 - σ 1 ≤ 16 - k → cs σ M1 → cm 79 σ M1 → cbb w M1 → dk_fr cN M M1 → sg_wh w false h (16 - k) σ = T0 → dk_W (d + 8) mX11_firstFallen 33 [some (.ref 0), some (.int (nI h)), some (.int (nI 0)), some (.int (nI k))] [] M1 Q := by
  have hm9 : dk_mo 79 := Or.inr (Or.inr (Or.inr (Or.inr (Or.inr (Or.inr (Or.inr rfl))))))
  intro n
  induction n with
  | zero => intro k _ _ _ h; omega
  | succ n ih =>
    intro k σ M1 hi hn o hc4 hyr hs hc hb hf he
    subst hc4
    have o4 := o.2.2.2.1
    refine w_il3 (n := 34) dX11_firstFallen_33 rfl ?_
    refine w_bipush (n := 36) (nI 16) dX11_firstFallen_34 (by decide) rfl ?_
    refine w_ic_ge (n := 39) 111 dX11_firstFallen_36 (by decide) rfl (fun z36 => ?_) (fun z36 => ?_)
    · skip
      refine w_bipush (n := 113) (-3) dX11_firstFallen_111 (by decide) rfl ?_
      refine w_retI dX11_firstFallen_113 rfl ?_
      have e0 : sg_wh w false h (16 - k) σ = -3 := by
        first | (rw [show 16 - k = 0 by rw [q_le (by omega) (by omega)] at z36; omega]; rfl) | (rcases Nat.eq_zero_or_pos (16 - k) with e | e; (rw [e]; rfl); (rw [show 16 - k = (16 - k - 1) + 1 by omega, sg_wh, if_pos t47]))
      rw [e0] at he
      subst he
      exact hq M1 hf
    · skip
      refine w_al0 (n := 40) dX11_firstFallen_39 rfl ?_
      refine g_R (n := 43) f_X11_36_11 pl_0 rf_0_1 dX11_firstFallen_40 rfl ?_
      refine w_al0 (n := 44) dX11_firstFallen_43 rfl ?_
      refine g_R (n := 47) f_X11_59_11 pl_0 rf_0_5 dX11_firstFallen_44 rfl ?_
      refine w_cV1 (n := 50) pl_14 cl_10 s0_X10_isOver k_X11_197 (Nat.le_of_ble_eq_true rfl) dX11_firstFallen_47 rfl (c10_isOver hs o hm9 hc (fun t47 => ?_) (fun t47 => ?_))
      · skip
        refine w_if_ne (n := 53) 111 dX11_firstFallen_50 (by decide) rfl (fun _ => ?_) (fun h => absurd h (by decide))
        refine w_bipush (n := 113) (-3) dX11_firstFallen_111 (by decide) rfl ?_
        refine w_retI dX11_firstFallen_113 rfl ?_
        have e0 : sg_wh w false h (16 - k) σ = -3 := by
          first | (rw [show 16 - k = 0 by rw [q_le (by omega) (by omega)] at z36; omega]; rfl) | (rcases Nat.eq_zero_or_pos (16 - k) with e | e; (rw [e]; rfl); (rw [show 16 - k = (16 - k - 1) + 1 by omega, sg_wh, if_pos t47]))
        rw [e0] at he
        subst he
        exact hq M1 hf
      · skip
        refine w_if_ne (n := 53) 111 dX11_firstFallen_50 (by decide) rfl (fun h => absurd h (by decide)) (fun _ => ?_)
        refine w_al0 (n := 54) dX11_firstFallen_53 rfl ?_
        refine g_R (n := 57) f_X11_36_11 pl_0 rf_0_1 dX11_firstFallen_54 rfl ?_
        refine w_al0 (n := 58) dX11_firstFallen_57 rfl ?_
        refine g_R (n := 61) f_X11_59_11 pl_0 rf_0_5 dX11_firstFallen_58 rfl ?_
        refine w_il2 (n := 62) dX11_firstFallen_61 rfl ?_
        refine w_if_eq (n := 65) 79 dX11_firstFallen_62 (by decide) rfl (fun _ => ?_) (fun h => absurd (by decide) h)
        refine w_iconst (n := 80) (nI 0) dX11_firstFallen_79 (by decide) rfl ?_
        refine w_cV2 (n := 83) pl_14 cl_10 s0_X10_passYear k_X11_241 (Nat.le_of_ble_eq_true rfl) dX11_firstFallen_80 rfl (c10_pyN hs o hm9 hc hb (fun M3 g1 g2 => ?_))
        refine w_pop (n := 84) rfl dX11_firstFallen_83 rfl ?_
        have o2 := o.goes (w := w) (t := none) (fun h0 e => by cases e) (by have := o.2.1; omega)
        have hk : k < 16 := by rw [q_le (by omega) (by omega)] at z36; omega
        have he2 : (if (sg_goes w σ none).1 (39 + 5 * h) = 1 then nI (σ 1) else sg_wh w false h (16 - (k + 1)) (sg_goes w σ none).1) = T0 := by rw [← he, show 16 - k = (16 - (k + 1)) + 1 by omega]; exact (if_neg (show ¬ σ 0 ≤ σ 1 by omega)).symm
        refine w_al0 (n := 85) dX11_firstFallen_84 rfl ?_
        refine g_R (n := 88) f_X11_59_11 pl_0 rf_0_5 dX11_firstFallen_85 rfl ?_
        refine w_il1 (n := 89) dX11_firstFallen_88 rfl ?_
        refine w_cV1 (n := 92) pl_79 cl_4 s0_X4_isFallen k_X11_142 (Nat.le_of_ble_eq_true rfl) dX11_firstFallen_89 rfl (c4_isFallen hm9 g1 o2 (by rw [sg_goes_o (by omega) (by omega)]; exact h4) (fun t89 => ?_) (fun t89 => ?_))
        · skip
          refine w_if_eq (n := 95) 105 dX11_firstFallen_92 (by decide) rfl (fun h => absurd h (by decide)) (fun _ => ?_)
          refine w_al0 (n := 96) dX11_firstFallen_95 rfl ?_
          refine g_R (n := 99) f_X11_59_11 pl_0 rf_0_5 dX11_firstFallen_96 rfl ?_
          refine g_I (n := 102) f_X11_185_4 pl_79 dX11_firstFallen_99 rfl ?_
          refine w_iconst (n := 103) (nI 1) dX11_firstFallen_102 (by decide) rfl ?_
          refine w_isub (n := 104) dX11_firstFallen_103 rfl ?_
          refine w_retI dX11_firstFallen_104 rfl ?_
          rw [if_pos t89] at he2
          rw [g1.1, sg_goes_1, q_pm1 (by have := o.2.1; omega), Nat.add_sub_cancel, he2]
          exact hq M3 (hf.tr (cX79 g2))
        · skip
          refine w_if_eq (n := 95) 105 dX11_firstFallen_92 (by decide) rfl (fun _ => ?_) (fun h => absurd (by decide) h)
          refine w_inc3 (n := 108) (nI 1) dX11_firstFallen_105 (by decide) rfl rfl (by decide) ?_
          refine w_goto 33 dX11_firstFallen_108 (by decide) ?_
          rw [nI_add]
          rw [if_neg (by omega)] at he2
          exact ih (k + 1) _ M3 (by omega) (by omega) o2 (sg_goes_o (by omega) (by omega)) (by rw [sg_goes_1, sg_goes_o (by omega) (by omega)]; omega) ((hs.X hm9 g2).eqv sg_eqv.goes) g1 (hb.X hm9 g2) (hf.tr (cX79 g2)) he2

set_option maxRecDepth 20000 in
theorem c_ffF {d : Nat} {M : dk_Mem} {Q : Option Value → dk_Mem → Prop} (hm : dk_mo 22) (hm9 : dk_mo 79) {σ : Nat → Nat} (hs : cs σ M) (o : sg_ok σ) (hc : cm 22 σ M) {w : sg_R} (hb : cbb w M) {h : Nat} (hh : h < σ 4) (hq : ∀ M1, dk_fr cN M M1 → Q (some (.int (if σ (39 + 5 * h) = 1 then -3 else sg_wh w false h 16 σ))) M1) : dk_Call (d + 8) mX11_firstFallen [.ref 0, .int (nI h), .int (nI 0)] M Q := by
  have o4 := o.2.2.2.1
  have o16 := o.2.1
  refine dk_enter [some (.ref 0), some (.int (nI h)), some (.int (nI 0)), none] (by decide) (fun _ => rfl) (fun _ => Nat.le_of_ble_eq_true rfl) ?_
  refine w_al0 (n := 1) dX11_firstFallen_0 rfl ?_
  refine g_R (n := 4) f_X11_36_11 pl_0 rf_0_1 dX11_firstFallen_1 rfl ?_
  refine g_R (n := 7) f_X11_127_10 pl_14 rf_14_9 dX11_firstFallen_4 rfl ?_
  refine w_il1 (n := 8) dX11_firstFallen_7 rfl ?_
  refine w_cV1 (n := 11) pl_22 cl_4 s0_X4_isFallen k_X11_142 (Nat.le_of_ble_eq_true rfl) dX11_firstFallen_8 rfl (c4_isFallen hm hc o hh (fun t8 => ?_) (fun t8 => ?_))
  · skip
    refine w_if_eq (n := 14) 17 dX11_firstFallen_11 (by decide) rfl (fun h => absurd h (by decide)) (fun _ => ?_)
    refine w_bipush (n := 16) (-3) dX11_firstFallen_14 (by decide) rfl ?_
    refine w_retI dX11_firstFallen_16 rfl ?_
    rw [if_pos t8] at hq
    exact hq M dk_fr.rf
  · skip
    refine w_if_eq (n := 14) 17 dX11_firstFallen_11 (by decide) rfl (fun _ => ?_) (fun h => absurd (by decide) h)
    refine w_al0 (n := 18) dX11_firstFallen_17 rfl ?_
    refine g_R (n := 21) f_X11_59_11 pl_0 rf_0_5 dX11_firstFallen_18 rfl ?_
    refine w_al0 (n := 22) dX11_firstFallen_21 rfl ?_
    refine g_R (n := 25) f_X11_36_11 pl_0 rf_0_1 dX11_firstFallen_22 rfl ?_
    refine g_R (n := 28) f_X11_127_10 pl_14 rf_14_9 dX11_firstFallen_25 rfl ?_
    refine w_cV1 (n := 31) pl_79 cl_4 s0_X4_take k_X11_233 (Nat.le_of_ble_eq_true rfl) dX11_firstFallen_28 rfl (c4_take hm9 hm (by decide) hc o4 (fun M2 k1 k2 => ?_))
    refine w_iconst (n := 32) (nI 0) dX11_firstFallen_31 (by decide) rfl ?_
    refine w_is3 (n := 33) dX11_firstFallen_32 rfl rfl (by decide) ?_
    have f0 : dk_fr cN M M2 := k2.up (fun q k z => by unfold cN; omega)
    have hs0 : cs _ M2 := hs.fr f0 (fun q k _ _ z => by unfold cN at z; omega)
    have hb0 : cbb _ M2 := hb.fr f0 (fun q k z => Or.inr (Or.inr z))
    rw [if_neg (by omega)] at hq
    exact c_ffLF hh (fun M1 g => hq M1 (f0.tr g)) 17 0 σ M2 (by omega) (by omega) o rfl (by omega) hs0 k1 hb0 dk_fr.rf rfl

set_option maxRecDepth 20000 in
theorem C_itself {d : Nat} {M : dk_Mem} {Q : Option Value → dk_Mem → Prop} {K : sg_K} (hK : cK K M) {k : Int32} (hq : ∀ M2, cK (kf_first false K k).2 M2 → dk_fr cA M M2 → Q (some (.int (kf_first false K k).1)) M2) : dk_Call (d + 9) mX11_itself [.ref 0, .int k] M Q := by
  have hK0 := hK
  obtain ⟨⟨o, p1, p2, p3⟩, hs, hc, hb, hcr, hsc, hz, β, hβ, hβ1, hβ2⟩ := hK0
  have o4 := o.2.2.2.1
  have o16 := o.2.1
  have hm : dk_mo 22 := Or.inl rfl
  have hm9 : dk_mo 79 := Or.inr (Or.inr (Or.inr (Or.inr (Or.inr (Or.inr (Or.inr rfl))))))
  refine dk_enter [some (.ref 0), some (.int k)] (by decide) (fun _ => rfl) (fun _ => Nat.le_of_ble_eq_true rfl) ?_
  refine w_al0 (n := 1) dX11_itself_0 rfl ?_
  refine g_R (n := 4) f_X11_36_11 pl_0 rf_0_1 dX11_itself_1 rfl ?_
  refine w_il1 (n := 5) dX11_itself_4 rfl ?_
  refine w_cV1 (n := 8) pl_14 cl_10 s0_X10_isPiece k_X11_123 (Nat.le_of_ble_eq_true rfl) dX11_itself_5 rfl (c10_isPiece hs o (fun h hh e => ?_) (fun nh => ?_))
  · skip
    subst e
    have h6 : h < 6 := by omega
    refine w_if_ne (n := 11) 13 dX11_itself_8 (by decide) rfl (fun _ => ?_) (fun h => absurd h (by decide))
    refine w_al0 (n := 14) dX11_itself_13 rfl ?_
    refine w_il1 (n := 15) dX11_itself_14 rfl ?_
    refine w_iconst (n := 16) (nI 0) dX11_itself_15 (by decide) rfl ?_
    refine w_cV2 (n := 19) pl_0 cl_11 s0_X11_firstFallen k_X11_225 (Nat.le_of_ble_eq_true rfl) dX11_itself_16 rfl (c_ffF hm hm9 hs o hc hb hh (fun M1 g => ?_))
    refine w_retI dX11_itself_19 rfl ?_
    exact dk_fin hq (by unfold kf_first; rw [sg_pc_some o4 hh]) (hK.N g) (cN_A g)
  · skip
    refine w_if_ne (n := 11) 13 dX11_itself_8 (by decide) rfl (fun h => absurd h (by decide)) (fun _ => ?_)
    refine w_iconst (n := 12) (-1) dX11_itself_11 (by decide) rfl ?_
    refine w_retI dX11_itself_12 rfl ?_
    exact dk_fin hq (by unfold kf_first; rw [sg_pc_none o4 nh]) hK dk_fr.rf

set_option maxRecDepth 20000 in
theorem c_leastL {d : Nat} {M : dk_Mem} {Q : Option Value → dk_Mem → Prop} {σ : Nat → Nat} (hs : cs σ M) (o : sg_ok σ) (hc : cm 22 σ M) {h : Nat} (hh : h < σ 4) {T0 : Int32} (hq : Q (some (.int T0)) M) : ∀ (n k : Nat), k ≤ 4 → 4 - k < n → (∀ j, j < k → ¬ sg_bears σ h ≤ σ (36 + 5 * h) + 6 * j) → (k < 4 → sg_bears σ h ≤ σ (36 + 5 * h) + 6 * k → T0 = nI k) → ((∀ j, j < 4 → ¬ sg_bears σ h ≤ σ (36 + 5 * h) + 6 * j) → T0 = -3) → (∀ i, k < i → i < 4 → (∀ j, j < i → ¬ sg_bears σ h ≤ σ (36 + 5 * h) + 6 * j) → sg_bears σ h ≤ σ (36 + 5 * h) + 6 * i → T0 = nI i) → dk_W (d + 2) mX11_least 32 [some (.ref 0), some (.int (nI h)), some (.int (nI k))] [] M Q := by
  have o4 := o.2.2.2.1
  have h6 : h < 6 := by omega
  have b1 := o.lean h6
  have b2 := o.bears h6
  intro n
  induction n with
  | zero => intro i _ h; omega
  | succ n ih =>
    intro k hi hn a1 a2 a3 a4
    refine w_il2 (n := 33) dX11_least_32 rfl ?_
    refine w_iconst (n := 34) (nI 3) dX11_least_33 (by decide) rfl ?_
    refine w_ic_gt (n := 37) 74 dX11_least_34 (by decide) rfl (fun z34 => ?_) (fun z34 => ?_)
    · skip
      refine w_bipush (n := 76) (-3) dX11_least_74 (by decide) rfl ?_
      refine w_retI dX11_least_76 rfl ?_
      rw [nI_ltI (by decide) (by omega)] at z34
      rw [show k = 4 by omega] at a1
      rw [a3 a1] at hq
      exact hq
    · skip
      refine w_al0 (n := 38) dX11_least_37 rfl ?_
      refine g_R (n := 41) f_X11_36_11 pl_0 rf_0_1 dX11_least_38 rfl ?_
      refine g_R (n := 44) f_X11_127_10 pl_14 rf_14_9 dX11_least_41 rfl ?_
      refine g_R (n := 47) f_X11_133_4 pl_22 rf_22_2 dX11_least_44 rfl ?_
      refine w_il1 (n := 48) dX11_least_47 rfl ?_
      refine i_iald (n := 49) pl_23 (j := h) rfl h6 (by decide) (hc.2.2 h hh) dX11_least_48 rfl ?_
      refine w_bipush (n := 51) (nI 6) dX11_least_49 (by decide) rfl ?_
      refine w_il2 (n := 52) dX11_least_51 rfl ?_
      refine w_imul (n := 53) dX11_least_52 rfl ?_
      refine w_iadd (n := 54) dX11_least_53 rfl ?_
      refine w_al0 (n := 55) dX11_least_54 rfl ?_
      refine g_R (n := 58) f_X11_36_11 pl_0 rf_0_1 dX11_least_55 rfl ?_
      refine g_R (n := 61) f_X11_149_10 pl_14 rf_14_5 dX11_least_58 rfl ?_
      refine w_il1 (n := 62) dX11_least_61 rfl ?_
      refine i_iald (n := 63) pl_18 (j := h) rfl h6 (by decide) (hs.bears hh) dX11_least_62 rfl ?_
      rw [pk_mul, nI_add]
      refine w_ic_lt (n := 66) 68 dX11_least_63 (by decide) rfl (fun z63 => ?_) (fun z63 => ?_)
      · skip
        refine w_inc2 (n := 71) (nI 1) dX11_least_68 (by decide) rfl rfl (by decide) ?_
        refine w_goto 32 dX11_least_71 (by decide) ?_
        have c1 : ¬ sg_bears σ h ≤ σ (36 + 5 * h) + 6 * k := by rw [nI_ltI (by omega) (by omega)] at z63; omega
        have k4 : k < 4 := by rw [nI_ltI (by decide) (by omega)] at z34; omega
        rw [nI_add]
        exact ih (k + 1) (by omega) (by omega) (fun j hj => by rcases (show j < k ∨ j = k by omega) with e | e; exact a1 j e; (rw [e]; exact c1)) (fun g1 g2 => a4 (k + 1) (by omega) g1 (fun j hj => by rcases (show j < k ∨ j = k by omega) with e | e; exact a1 j e; (rw [e]; exact c1)) g2) a3 (fun i g1 g2 => a4 i (by omega) g2)
      · skip
        refine w_il2 (n := 67) dX11_least_66 rfl ?_
        refine w_retI dX11_least_67 rfl ?_
        rw [nI_ltI (by omega) (by omega)] at z63
        rw [nI_ltI (by decide) (by omega)] at z34
        rw [a2 (by omega) (by omega)] at hq
        exact hq

set_option maxRecDepth 20000 in
theorem C_least {d : Nat} {M : dk_Mem} {Q : Option Value → dk_Mem → Prop} {K : sg_K} (hK : cK K M) {k : Int32} (hq : ∀ M2, cK (kf_least K k).2 M2 → dk_fr cA M M2 → Q (some (.int (kf_least K k).1)) M2) : dk_Call (d + 3) mX11_least [.ref 0, .int k] M Q := by
  have hK0 := hK
  obtain ⟨⟨o, p1, p2, p3⟩, hs, hc, hb, hcr, hsc, hz, β, hβ, hβ1, hβ2⟩ := hK0
  have o4 := o.2.2.2.1
  have o16 := o.2.1
  have hm : dk_mo 22 := Or.inl rfl
  have hm9 : dk_mo 79 := Or.inr (Or.inr (Or.inr (Or.inr (Or.inr (Or.inr (Or.inr rfl))))))
  refine dk_enter [some (.ref 0), some (.int k), none] (by decide) (fun _ => rfl) (fun _ => Nat.le_of_ble_eq_true rfl) ?_
  refine w_al0 (n := 1) dX11_least_0 rfl ?_
  refine g_R (n := 4) f_X11_36_11 pl_0 rf_0_1 dX11_least_1 rfl ?_
  refine w_il1 (n := 5) dX11_least_4 rfl ?_
  refine w_cV1 (n := 8) pl_14 cl_10 s0_X10_isPiece k_X11_123 (Nat.le_of_ble_eq_true rfl) dX11_least_5 rfl (c10_isPiece hs o (fun h hh e => ?_) (fun nh => ?_))
  · skip
    subst e
    have h6 : h < 6 := by omega
    refine w_if_ne (n := 11) 13 dX11_least_8 (by decide) rfl (fun _ => ?_) (fun h => absurd h (by decide))
    refine w_al0 (n := 14) dX11_least_13 rfl ?_
    refine g_R (n := 17) f_X11_36_11 pl_0 rf_0_1 dX11_least_14 rfl ?_
    refine g_R (n := 20) f_X11_127_10 pl_14 rf_14_9 dX11_least_17 rfl ?_
    refine w_il1 (n := 21) dX11_least_20 rfl ?_
    refine w_cV1 (n := 24) pl_22 cl_4 s0_X4_isFallen k_X11_142 (Nat.le_of_ble_eq_true rfl) dX11_least_21 rfl (c4_isFallen hm hc o hh (fun t21 => ?_) (fun t21 => ?_))
    · skip
      refine w_if_eq (n := 27) 30 dX11_least_24 (by decide) rfl (fun h => absurd h (by decide)) (fun _ => ?_)
      refine w_bipush (n := 29) (-3) dX11_least_27 (by decide) rfl ?_
      refine w_retI dX11_least_29 rfl ?_
      exact dk_fin hq (by unfold kf_least; rw [sg_pc_some o4 hh]; exact congrArg (fun y => (y, K)) (if_pos t21)) hK dk_fr.rf
    · skip
      refine w_if_eq (n := 27) 30 dX11_least_24 (by decide) rfl (fun _ => ?_) (fun h => absurd (by decide) h)
      refine w_iconst (n := 31) (nI 0) dX11_least_30 (by decide) rfl ?_
      refine w_is2 (n := 32) dX11_least_31 rfl rfl (by decide) ?_
      have hq2 : Q (some (.int (sg_least K.1 h))) M := dk_fin hq (by unfold kf_least; rw [sg_pc_some o4 hh]) hK dk_fr.rf
      unfold sg_least at hq2
      rw [if_neg (by omega)] at hq2
      exact c_leastL hs o hc hh hq2 5 0 (by omega) (by omega) (fun j hj => by omega) (fun _ g => if_pos (by omega)) (fun g => by rw [if_neg (by have := g 0; omega), if_neg (by have := g 1; omega), if_neg (by have := g 2; omega), if_neg (by have := g 3; omega)]) (fun i g1 g2 g3 g4 => by rcases (show i = 1 ∨ i = 2 ∨ i = 3 by omega) with rfl | rfl | rfl; (rw [if_neg (by have := g3 0; omega), if_pos (by omega)]); (rw [if_neg (by have := g3 0; omega), if_neg (by have := g3 1; omega), if_pos (by omega)]); (rw [if_neg (by have := g3 0; omega), if_neg (by have := g3 1; omega), if_neg (by have := g3 2; omega), if_pos (by omega)]))
  · skip
    refine w_if_ne (n := 11) 13 dX11_least_8 (by decide) rfl (fun h => absurd h (by decide)) (fun _ => ?_)
    refine w_iconst (n := 12) (-1) dX11_least_11 (by decide) rfl ?_
    refine w_retI dX11_least_12 rfl ?_
    exact dk_fin hq (by unfold kf_least; rw [sg_pc_none o4 nh]) hK dk_fr.rf

set_option maxRecDepth 20000 in
theorem c_waveL {d : Nat} {M : dk_Mem} {Q : Option Value → dk_Mem → Prop} {N : Nat} (hN : N ≤ 16) {w : sg_R} {c : Nat} {h : Int32} {T0 : Nat} (hq : ∀ M1, dk_fr cN M M1 → Q (some (.int (nI T0))) M1) : ∀ (n k : Nat) (σ : Nat → Nat) (M1 : dk_Mem), k ≤ N → N - k < n → sg_ok σ → σ 4 = c → cs σ M1 → cm 79 σ M1 → cbb w M1 → dk_fr cN M M1 → sg_set (sg_nn w (N - k) σ) c = T0 → dk_W (d + 8) mX11_wave 62 [some (.ref 0), some (.int h), some (.int (nI N)), some (.int (nI k))] [] M1 Q := by
  have hm9 : dk_mo 79 := Or.inr (Or.inr (Or.inr (Or.inr (Or.inr (Or.inr (Or.inr rfl))))))
  intro n
  induction n with
  | zero => intro k _ _ _ h; omega
  | succ n ih =>
    intro k σ M1 hi hn o hc4 hs hc hb hf he
    subst hc4
    refine w_il3 (n := 63) dX11_wave_62 rfl ?_
    refine w_il2 (n := 64) dX11_wave_63 rfl ?_
    refine w_ic_ge (n := 67) 100 dX11_wave_64 (by decide) rfl (fun z64 => ?_) (fun z64 => ?_)
    · skip
      refine w_al0 (n := 101) dX11_wave_100 rfl ?_
      refine g_R (n := 104) f_X11_59_11 pl_0 rf_0_5 dX11_wave_101 rfl ?_
      refine g_I (n := 107) f_X11_191_4 pl_79 dX11_wave_104 rfl ?_
      refine w_retI dX11_wave_107 rfl ?_
      have e0 : sg_nn w (N - k) σ = σ := by
        first | (rw [show N - k = 0 by rw [q_le (by omega) (by omega)] at z64; omega]; rfl) | (rcases Nat.eq_zero_or_pos (N - k) with e | e; (rw [e]; rfl); (rw [show N - k = (N - k - 1) + 1 by omega, sg_nn, if_pos t75]))
      rw [e0] at he
      rw [hc.2.1, he]
      exact hq M1 hf
    · skip
      refine w_al0 (n := 68) dX11_wave_67 rfl ?_
      refine g_R (n := 71) f_X11_36_11 pl_0 rf_0_1 dX11_wave_68 rfl ?_
      refine w_al0 (n := 72) dX11_wave_71 rfl ?_
      refine g_R (n := 75) f_X11_59_11 pl_0 rf_0_5 dX11_wave_72 rfl ?_
      refine w_cV1 (n := 78) pl_14 cl_10 s0_X10_isOver k_X11_197 (Nat.le_of_ble_eq_true rfl) dX11_wave_75 rfl (c10_isOver hs o hm9 hc (fun t75 => ?_) (fun t75 => ?_))
      · skip
        refine w_if_ne (n := 81) 100 dX11_wave_78 (by decide) rfl (fun _ => ?_) (fun h => absurd h (by decide))
        refine w_al0 (n := 101) dX11_wave_100 rfl ?_
        refine g_R (n := 104) f_X11_59_11 pl_0 rf_0_5 dX11_wave_101 rfl ?_
        refine g_I (n := 107) f_X11_191_4 pl_79 dX11_wave_104 rfl ?_
        refine w_retI dX11_wave_107 rfl ?_
        have e0 : sg_nn w (N - k) σ = σ := by
          first | (rw [show N - k = 0 by rw [q_le (by omega) (by omega)] at z64; omega]; rfl) | (rcases Nat.eq_zero_or_pos (N - k) with e | e; (rw [e]; rfl); (rw [show N - k = (N - k - 1) + 1 by omega, sg_nn, if_pos t75]))
        rw [e0] at he
        rw [hc.2.1, he]
        exact hq M1 hf
      · skip
        refine w_if_ne (n := 81) 100 dX11_wave_78 (by decide) rfl (fun h => absurd h (by decide)) (fun _ => ?_)
        refine w_al0 (n := 82) dX11_wave_81 rfl ?_
        refine g_R (n := 85) f_X11_36_11 pl_0 rf_0_1 dX11_wave_82 rfl ?_
        refine w_al0 (n := 86) dX11_wave_85 rfl ?_
        refine g_R (n := 89) f_X11_59_11 pl_0 rf_0_5 dX11_wave_86 rfl ?_
        refine w_iconst (n := 90) (nI 0) dX11_wave_89 (by decide) rfl ?_
        refine w_cV2 (n := 93) pl_14 cl_10 s0_X10_passYear k_X11_241 (Nat.le_of_ble_eq_true rfl) dX11_wave_90 rfl (c10_pyN hs o hm9 hc hb (fun M3 g1 g2 => ?_))
        refine w_pop (n := 94) rfl dX11_wave_93 rfl ?_
        refine w_inc3 (n := 97) (nI 1) dX11_wave_94 (by decide) rfl rfl (by decide) ?_
        refine w_goto 62 dX11_wave_97 (by decide) ?_
        have hk : k < N := by rw [q_le (by omega) (by omega)] at z64; omega
        have e : sg_nn w (N - k) σ = sg_nn w (N - (k + 1)) (sg_goes w σ none).1 := by rw [show N - k = (N - (k + 1)) + 1 by omega, sg_nn, if_neg (by omega)]
        rw [e] at he
        rw [nI_add]
        have o0 := o.2.1
        exact ih (k + 1) _ M3 (by omega) (by omega) (o.goes (fun h e => by cases e) (by omega)) (sg_goes_o (by omega) (by omega)) ((hs.X hm9 g2).eqv sg_eqv.goes) g1 (hb.X hm9 g2) (hf.tr (cX79 g2)) he

set_option maxRecDepth 20000 in
theorem C_wave {d : Nat} {M : dk_Mem} {Q : Option Value → dk_Mem → Prop} {K : sg_K} (hK : cK K M) {k n : Int32} (hq : ∀ M2, cK (kf_wave K k n).2 M2 → dk_fr cA M M2 → Q (some (.int (kf_wave K k n).1)) M2) : dk_Call (d + 9) mX11_wave [.ref 0, .int k, .int n] M Q := by
  have hK0 := hK
  obtain ⟨⟨o, p1, p2, p3⟩, hs, hc, hb, hcr, hsc, hz, β, hβ, hβ1, hβ2⟩ := hK0
  have o4 := o.2.2.2.1
  have o16 := o.2.1
  have hm : dk_mo 22 := Or.inl rfl
  have hm9 : dk_mo 79 := Or.inr (Or.inr (Or.inr (Or.inr (Or.inr (Or.inr (Or.inr rfl))))))
  refine dk_enter [some (.ref 0), some (.int k), some (.int n), none] (by decide) (fun _ => rfl) (fun _ => Nat.le_of_ble_eq_true rfl) ?_
  refine w_al0 (n := 1) dX11_wave_0 rfl ?_
  refine g_R (n := 4) f_X11_36_11 pl_0 rf_0_1 dX11_wave_1 rfl ?_
  refine w_il1 (n := 5) dX11_wave_4 rfl ?_
  refine w_cV1 (n := 8) pl_14 cl_10 s0_X10_isPiece k_X11_123 (Nat.le_of_ble_eq_true rfl) dX11_wave_5 rfl (c10_isPiece hs o (fun h hh e => ?_) (fun nh => ?_))
  · skip
    subst e
    have h6 : h < 6 := by omega
    refine w_if_eq (n := 11) 21 dX11_wave_8 (by decide) rfl (fun h => absurd h (by decide)) (fun _ => ?_)
    refine w_il2 (n := 12) dX11_wave_11 rfl ?_
    refine w_iconst (n := 13) (nI 0) dX11_wave_12 (by decide) rfl ?_
    refine w_bipush (n := 15) (nI 16) dX11_wave_13 (by decide) rfl ?_
    refine w_cS3 (n := 18) s0_X11_within k_X11_112 (Nat.le_of_ble_eq_true rfl) dX11_wave_15 rfl (c_within (fun t15 => ?_) (fun t15 => ?_))
    · skip
      refine w_if_ne (n := 21) 23 dX11_wave_18 (by decide) rfl (fun _ => ?_) (fun h => absurd h (by decide))
      refine w_al0 (n := 24) dX11_wave_23 rfl ?_
      refine g_R (n := 27) f_X11_59_11 pl_0 rf_0_5 dX11_wave_24 rfl ?_
      refine w_al0 (n := 28) dX11_wave_27 rfl ?_
      refine g_R (n := 31) f_X11_36_11 pl_0 rf_0_1 dX11_wave_28 rfl ?_
      refine g_R (n := 34) f_X11_127_10 pl_14 rf_14_9 dX11_wave_31 rfl ?_
      refine w_cV1 (n := 37) pl_79 cl_4 s0_X4_take k_X11_233 (Nat.le_of_ble_eq_true rfl) dX11_wave_34 rfl (c4_take hm9 hm (by decide) hc o4 (fun M2 k1 k2 => ?_))
      have f0 : dk_fr cN M M2 := k2.up (fun q k z => by unfold cN; omega)
      have hs0 : cs _ M2 := hs.fr f0 (fun q k _ _ z => by unfold cN at z; omega)
      have hb0 : cbb _ M2 := hb.fr f0 (fun q k z => Or.inr (Or.inr z))
      have hn := tN_of (n := 16) (by decide) t15.1 t15.2
      have hq2 : ∀ M1, dk_fr cN M M1 → Q (some (.int (nI (sg_wave K.2.1 K.1 h (tN n))))) M1 := fun M1 g9 => dk_fin hq (by unfold kf_wave; rw [sg_pc_some o4 hh]; exact if_pos t15) (hK.N g9) (cN_A g9)
      have e9 := hn.1
      generalize tN n = N at e9 hn hq2
      subst e9
      refine w_al0 (n := 38) dX11_wave_37 rfl ?_
      refine g_R (n := 41) f_X11_59_11 pl_0 rf_0_5 dX11_wave_38 rfl ?_
      refine w_il1 (n := 42) dX11_wave_41 rfl ?_
      refine w_cV1 (n := 45) pl_79 cl_4 s0_X4_isFallen k_X11_142 (Nat.le_of_ble_eq_true rfl) dX11_wave_42 rfl (c4_isFallen hm9 k1 o hh (fun t42 => ?_) (fun t42 => ?_))
      · skip
        refine w_if_ne (n := 48) 60 dX11_wave_45 (by decide) rfl (fun _ => ?_) (fun h => absurd h (by decide))
        refine w_iconst (n := 61) (nI 0) dX11_wave_60 (by decide) rfl ?_
        refine w_is3 (n := 62) dX11_wave_61 rfl rfl (by decide) ?_
        first | exact c_waveL hn.2 (fun M1 g => hq2 M1 ((f0.tr (cX79 g2)).tr g)) (N + 1) 0 (sg_falls K.1 h) M3 (by omega) (by omega) o.falls (sg_falls_o (by omega) (by omega)) ((hs0.X hm9 g2).eqv sg_eqv.falls) g1 (hb0.X hm9 g2) dk_fr.rf (by unfold sg_wave; rw [if_pos t42]; rfl) | exact c_waveL hn.2 (fun M1 g => hq2 M1 (f0.tr g)) (N + 1) 0 K.1 M2 (by omega) (by omega) o rfl hs0 k1 hb0 dk_fr.rf (by unfold sg_wave; rw [if_neg (by omega)]; rfl)
      · skip
        refine w_if_ne (n := 48) 60 dX11_wave_45 (by decide) rfl (fun h => absurd h (by decide)) (fun _ => ?_)
        refine w_al0 (n := 49) dX11_wave_48 rfl ?_
        refine g_R (n := 52) f_X11_36_11 pl_0 rf_0_1 dX11_wave_49 rfl ?_
        refine w_al0 (n := 53) dX11_wave_52 rfl ?_
        refine g_R (n := 56) f_X11_59_11 pl_0 rf_0_5 dX11_wave_53 rfl ?_
        refine w_il1 (n := 57) dX11_wave_56 rfl ?_
        refine w_cV2 (n := 60) pl_14 cl_10 s0_X10_fall k_X11_237 (Nat.le_of_ble_eq_true rfl) dX11_wave_57 rfl (c10_fall hs0 o hm9 k1 hh (fun M3 g1 g2 => ?_))
        refine w_iconst (n := 61) (nI 0) dX11_wave_60 (by decide) rfl ?_
        refine w_is3 (n := 62) dX11_wave_61 rfl rfl (by decide) ?_
        first | exact c_waveL hn.2 (fun M1 g => hq2 M1 ((f0.tr (cX79 g2)).tr g)) (N + 1) 0 (sg_falls K.1 h) M3 (by omega) (by omega) o.falls (sg_falls_o (by omega) (by omega)) ((hs0.X hm9 g2).eqv sg_eqv.falls) g1 (hb0.X hm9 g2) dk_fr.rf (by unfold sg_wave; rw [if_pos t42]; rfl) | exact c_waveL hn.2 (fun M1 g => hq2 M1 (f0.tr g)) (N + 1) 0 K.1 M2 (by omega) (by omega) o rfl hs0 k1 hb0 dk_fr.rf (by unfold sg_wave; rw [if_neg (by omega)]; rfl)
    · skip
      refine w_if_ne (n := 21) 23 dX11_wave_18 (by decide) rfl (fun h => absurd h (by decide)) (fun _ => ?_)
      refine w_iconst (n := 22) (-1) dX11_wave_21 (by decide) rfl ?_
      refine w_retI dX11_wave_22 rfl ?_
      first | exact dk_fin hq (by unfold kf_wave; rw [sg_pc_none o4 nh]) hK dk_fr.rf | exact dk_fin hq (by unfold kf_wave; rw [sg_pc_some o4 hh]; exact if_neg t15) hK dk_fr.rf
  · skip
    refine w_if_eq (n := 11) 21 dX11_wave_8 (by decide) rfl (fun _ => ?_) (fun h => absurd (by decide) h)
    refine w_iconst (n := 22) (-1) dX11_wave_21 (by decide) rfl ?_
    refine w_retI dX11_wave_22 rfl ?_
    first | exact dk_fin hq (by unfold kf_wave; rw [sg_pc_none o4 nh]) hK dk_fr.rf | exact dk_fin hq (by unfold kf_wave; rw [sg_pc_some o4 hh]; exact if_neg t15) hK dk_fr.rf
