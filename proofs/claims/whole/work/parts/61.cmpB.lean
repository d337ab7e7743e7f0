theorem sg_eqv.goes {w : sg_R} {σ : Nat → Nat} {t : Option Nat} : sg_eqv σ (sg_goes w σ t).1 := by
  show sg_eqv σ (sg_up (sg_l3 (sg_mid w σ t).1 (σ 4)) 1 (σ 1 + 1))
  refine sg_eqv.tr (τ := sg_l3 (sg_mid w σ t).1 (σ 4)) (sg_eqv.tr (τ := (sg_mid w σ t).1) ?_ (sg_eqv.l3 _)) (sg_eqv.of (fun j h1 _ _ => sg_up_n h1))
  unfold sg_mid
  exact sg_eqv.tr sg_eqv.told (sg_eqv.l2 _)
theorem cX79 {M M' : dk_Mem} (h : dk_fr (cX 79) M M') : dk_fr cN M M' := h.up (fun q k z => by unfold cX at z; unfold cN; omega)
theorem cXA {M M' : dk_Mem} (h : dk_fr (cX 22) M M') : dk_fr cA M M' := h.up (fun q k z => by unfold cX at z; unfold cA cN; omega)
theorem cK.yr {K : sg_K} {M M1 : dk_Mem} (h : cK K M) {t : Option Nat} (ht : ∀ h, t = some h → h < K.1 4) (hy : K.1 1 < K.1 0) (hc : cm 22 (sg_goes K.2.1 K.1 t).1 M1) (hf : dk_fr (cX 22) M M1) : cK (sg_yr K t).2 (dk_put M1 14 11 (K.2.2.1 + nI (sg_goes K.2.1 K.1 t).2)) := by
  have hm : dk_mo 22 := Or.inl rfl
  obtain ⟨a1, a2, a3, a4, a5, a6, a7, β, a8, a9, a10⟩ := h
  have o4 := a1.1.2.2.2.1
  have ht6 : ∀ h, t = some h → h < 6 := fun h e => by have := ht h e; omega
  have b1 : dk_fr (cX 22) M M1 := hf
  have b2 : dk_fr (fun q k => cX 22 q k ∨ (q = 14 ∧ k = 11)) M (dk_put M1 14 11 (K.2.2.1 + nI (sg_goes K.2.1 K.1 t).2)) := (hf.up (fun q k z => Or.inl z)).put (Or.inr ⟨rfl, rfl⟩)
  refine ⟨a1.goes ht6 hy, ?_, hc.fr (S := fun q _ => q = 14) (dk_fr.rf.put rfl) (fun q k z z2 => by omega), a4.fr b2 (fun q k z => by unfold cX at z; unfold cA cN; omega), ?_, ?_, ?_, β, a8, ?_, ?_⟩
  · have c1 := (a2.X hm hf).eqv (sg_eqv.goes (w := K.2.1) (t := t))
    obtain ⟨d1, d2, d3, d4, d5⟩ := c1
    refine ⟨by rw [dk_put_k (by omega)]; exact d1, by rw [dk_put_k (by omega)]; exact d2, fun i hi => ?_, fun y hy => by rw [dk_put_k (by omega)]; exact d4 y hy, fun j hj => ?_⟩
    · rw [dk_put_k (by omega), dk_put_k (by omega), dk_put_k (by omega), dk_put_k (by omega)]; exact d3 i hi
    · rw [dk_put_k (by omega), dk_put_k (by omega)]; exact d5 j hj
  · have c5 := a5.fr b2 (fun q k x y _ z => by unfold cX at z; omega)
    refine ⟨by show _ = nI ((sg_goes K.2.1 K.1 t).1 5); rw [sg_goes_o (by omega) (by omega)]; exact c5.1, fun r hr => ?_⟩
    have hr2 : r < K.1 5 := by
      have e5 : (sg_goes K.2.1 K.1 t).1 5 = K.1 5 := sg_goes_o (by omega) (by omega)
      have hr3 : r < (sg_goes K.2.1 K.1 t).1 5 := hr
      omega
    show _ = nI ((sg_goes K.2.1 K.1 t).1 _) ∧ _ = nI ((sg_goes K.2.1 K.1 t).1 _) ∧ _ = nI ((sg_goes K.2.1 K.1 t).1 _) ∧ _ = nI ((sg_goes K.2.1 K.1 t).1 _)
    rw [sg_goes_6 (by omega) ht6 o4, sg_goes_6 (by omega) ht6 o4, sg_goes_6 (by omega) ht6 o4, sg_goes_6 (by omega) ht6 o4]
    exact c5.2 r hr2
  · rw [dk_put_s]; rfl
  · rw [b2.2 14 12 (fun z => by unfold cX at z; omega)]; exact a7
  · rw [b2.2 14 13 (fun z => by unfold cX at z; omega)]; exact a9
  · rw [b2.2 β 0 (fun z => by unfold cX dk_bo at *; omega)]
    show _ = nI ((sg_goes K.2.1 K.1 t).1 6)
    rw [sg_goes_o (by omega) (by omega)]; exact a10
theorem sg_add_in {σ : Nat → Nat} (o : sg_in σ) (h4 : σ 4 < 6) {k l g r : Nat} (hk : k ≤ 5) (hl : l ≤ 99) (hg : g ≤ 9) (hr : r ≤ 5) : sg_in (sg_add σ k l g r) := by
  unfold sg_add
  exact (((((o.u_cnt (by omega)).u_kind h4 hk).u_lean h4 hl).u_gap h4 hg).u_room h4 hr).u_fal h4 (by omega)
theorem sg_add_o {σ : Nat → Nat} {k l g r j : Nat} (h4 : j ≠ 4) (h : j < 35 + 5 * σ 4 ∨ 40 + 5 * σ 4 ≤ j) : sg_add σ k l g r j = σ j := by
  unfold sg_add
  rw [sg_up_n (by omega), sg_up_n (by omega), sg_up_n (by omega), sg_up_n (by omega), sg_up_n (by omega), sg_up_n (by omega)]
theorem sg_add_4 {σ : Nat → Nat} {k l g r : Nat} : sg_add σ k l g r 4 = σ 4 + 1 := by
  unfold sg_add
  rw [sg_up_n (by omega), sg_up_n (by omega), sg_up_n (by omega), sg_up_n (by omega), sg_up_n (by omega), sg_up_s]
theorem sg_add_n {σ : Nat → Nat} {k l g r : Nat} : sg_add σ k l g r (35 + 5 * σ 4) = k ∧ sg_add σ k l g r (36 + 5 * σ 4) = l ∧ sg_add σ k l g r (37 + 5 * σ 4) = g ∧ sg_add σ k l g r (38 + 5 * σ 4) = r ∧ sg_add σ k l g r (39 + 5 * σ 4) = 0 := by
  unfold sg_add
  refine ⟨?_, ?_, ?_, ?_, ?_⟩
  · rw [sg_up_n (by omega), sg_up_n (by omega), sg_up_n (by omega), sg_up_n (by omega), sg_up_s]
  · rw [sg_up_n (by omega), sg_up_n (by omega), sg_up_n (by omega), sg_up_s]
  · rw [sg_up_n (by omega), sg_up_n (by omega), sg_up_s]
  · rw [sg_up_n (by omega), sg_up_s]
  · rw [sg_up_s]
theorem sg_sb_0 {s k : Nat} (h : s < 2 ^ k) : sg_sb s k 0 = s := by
  unfold sg_sb
  rw [Nat.div_eq_of_lt h]
  simp
def cd_add (M : dk_Mem) (a s k l g r : Nat) : dk_Mem := dk_put (dk_put (dk_put (dk_put (dk_put (dk_put (dk_put M 15 a (nI k)) 16 a (nI g)) 17 a (nI r)) 23 a (nI l)) 22 1 (nI (sg_sb s a 0))) 18 a (nI (sg_br k g a))) 14 1 (nI (a + 1))
theorem cd_add_fr {M : dk_Mem} {a s k l g r : Nat} (ha : a < 6) : dk_fr cW M (cd_add M a s k l g r) := ((((((fW (by unfold cW; omega)).put (by unfold cW; omega)).put (by unfold cW; omega)).put (by unfold cW; omega)).put (by unfold cW; omega)).put (by unfold cW; omega)).put (by unfold cW; omega)
theorem cd_add_n {M : dk_Mem} {a s k l g r : Nat} : (cd_add M a s k l g r).1 15 a = nI k ∧ (cd_add M a s k l g r).1 16 a = nI g ∧ (cd_add M a s k l g r).1 17 a = nI r ∧ (cd_add M a s k l g r).1 18 a = nI (sg_br k g a) ∧ (cd_add M a s k l g r).1 23 a = nI l ∧ (cd_add M a s k l g r).1 22 1 = nI (sg_sb s a 0) ∧ (cd_add M a s k l g r).1 14 1 = nI (a + 1) := by
  unfold cd_add
  refine ⟨?_, ?_, ?_, ?_, ?_, ?_, ?_⟩
  all_goals repeat first | rw [dk_put_s] | rw [dk_put_k (by omega)]
theorem cd_add_o {M : dk_Mem} {a s k l g r q j : Nat} (h1 : ¬ (q = 14 ∧ j = 1)) (h2 : ¬ (q = 22 ∧ j = 1)) (h3 : j = a → ¬ (15 ≤ q ∧ q ≤ 18) ∧ q ≠ 23) : (cd_add M a s k l g r).1 q j = M.1 q j := by
  unfold cd_add
  rw [dk_put_k (by omega), dk_put_k (by omega), dk_put_k (by omega), dk_put_k (by omega), dk_put_k (by omega), dk_put_k (by omega), dk_put_k (by omega)]
theorem cs.add {σ : Nat → Nat} {M : dk_Mem} (h : cs σ M) {s k l g r : Nat} : cs (sg_add σ k l g r) (cd_add M (σ 4) s k l g r) := by
  obtain ⟨h1, h2, h3, h4, h5⟩ := h
  have n := cd_add_n (M := M) (a := σ 4) (s := s) (k := k) (l := l) (g := g) (r := r)
  have m := sg_add_n (σ := σ) (k := k) (l := l) (g := g) (r := r)
  refine ⟨by rw [sg_add_4]; exact n.2.2.2.2.2.2, ?_, fun i hi => ?_, fun y hy => ?_, fun j hj => ?_⟩
  · rw [cd_add_o (by omega) (by omega) (by omega), sg_add_o (by omega) (by omega)]; exact h2
  · rw [sg_add_4] at hi
    unfold sg_bears
    by_cases e : i = σ 4
    · subst e
      rw [m.1, m.2.2.1, m.2.2.2.1]
      exact ⟨n.1, n.2.1, n.2.2.1, n.2.2.2.1⟩
    · rw [cd_add_o (by omega) (by omega) (by omega), cd_add_o (by omega) (by omega) (by omega), cd_add_o (by omega) (by omega) (by omega), cd_add_o (by omega) (by omega) (by omega), sg_add_o (by omega) (by omega), sg_add_o (by omega) (by omega), sg_add_o (by omega) (by omega)]
      exact h3 i (by omega)
  · rw [cd_add_o (by omega) (by omega) (by omega), sg_add_o (by omega) (by omega)]; exact h4 y hy
  · rw [cd_add_o (by omega) (by omega) (by omega), cd_add_o (by omega) (by omega) (by omega), sg_add_o (by omega) (by omega), sg_add_o (by omega) (by omega)]; exact h5 j hj
theorem cm.add {σ : Nat → Nat} {M : dk_Mem} (o : sg_ok σ) (h : cm 22 σ M) {k l g r : Nat} : cm 22 (sg_add σ k l g r) (cd_add M (σ 4) (sg_set σ (σ 4)) k l g r) := by
  have n := cd_add_n (M := M) (a := σ 4) (s := sg_set σ (σ 4)) (k := k) (l := l) (g := g) (r := r)
  have m := sg_add_n (σ := σ) (k := k) (l := l) (g := g) (r := r)
  refine ⟨?_, ?_, fun i hi => ?_⟩
  · rw [cd_add_o (by omega) (by omega) (by omega), sg_add_o (by omega) (by omega)]; exact h.1
  · rw [n.2.2.2.2.2.1, sg_sb_0 (sg_set_lt o _ o.2.2.2.1), sg_add_4, sg_set, m.2.2.2.2, sg_set_cong (σ := σ) (σ 4) (fun i hi => sg_add_o (by omega) (by omega))]
    simp
  · rw [sg_add_4] at hi
    by_cases e : i = σ 4
    · subst e
      rw [m.2.1]
      exact n.2.2.2.2.1
    · rw [cd_add_o (by omega) (by omega) (by omega), sg_add_o (by omega) (by omega)]
      exact h.2.2 i (by omega)

set_option maxRecDepth 20000 in
theorem c10_add {d : Nat} {M : dk_Mem} {Q : Option Value → dk_Mem → Prop} {a s k l g r : Nat} (ha : a < 6) (hk : k ≤ 5) (hg : g ≤ 9) (h1 : M.1 14 1 = nI a) (h2 : M.1 22 1 = nI s) (hs : s < 64) (hq : Q (some (.int (nI a))) (cd_add M a s k l g r)) : dk_Call (d + 4) mX10_add [.ref 14, .int (nI k), .int (nI l), .int (nI g), .int (nI r)] M Q := by
  refine dk_enter [some (.ref 14), some (.int (nI k)), some (.int (nI l)), some (.int (nI g)), some (.int (nI r)), none] (by decide) (fun _ => rfl) (fun _ => Nat.le_of_ble_eq_true rfl) ?_
  refine w_al0 (n := 1) dX10_add_0 rfl ?_
  refine g_I (n := 4) f_X10_9_10 pl_14 dX10_add_1 rfl ?_
  rw [h1]
  refine w_is5 (n := 6) dX10_add_4 rfl rfl (by decide) ?_
  refine w_al0 (n := 7) dX10_add_6 rfl ?_
  refine g_R (n := 10) f_X10_15_10 pl_14 rf_14_2 dX10_add_7 rfl ?_
  refine w_il5 (n := 12) dX10_add_10 rfl ?_
  refine w_il1 (n := 13) dX10_add_12 rfl ?_
  refine i_iast (n := 14) pl_15 (j := a) rfl ha (by decide) dX10_add_13 rfl ?_
  refine w_al0 (n := 15) dX10_add_14 rfl ?_
  refine g_R (n := 18) f_X10_19_10 pl_14 rf_14_3 dX10_add_15 rfl ?_
  refine w_il5 (n := 20) dX10_add_18 rfl ?_
  refine w_il3 (n := 21) dX10_add_20 rfl ?_
  refine i_iast (n := 22) pl_16 (j := a) rfl ha (by decide) dX10_add_21 rfl ?_
  refine w_al0 (n := 23) dX10_add_22 rfl ?_
  refine g_R (n := 26) f_X10_22_10 pl_14 rf_14_4 dX10_add_23 rfl ?_
  refine w_il5 (n := 28) dX10_add_26 rfl ?_
  refine w_il4 (n := 30) dX10_add_28 rfl ?_
  refine i_iast (n := 31) pl_17 (j := a) rfl ha (by decide) dX10_add_30 rfl ?_
  refine w_al0 (n := 32) dX10_add_31 rfl ?_
  refine g_R (n := 35) f_X10_40_10 pl_14 rf_14_9 dX10_add_32 rfl ?_
  refine g_R (n := 38) f_X10_93_4 pl_22 rf_22_2 dX10_add_35 rfl ?_
  refine w_il5 (n := 40) dX10_add_38 rfl ?_
  refine w_il2 (n := 41) dX10_add_40 rfl ?_
  refine i_iast (n := 42) pl_23 (j := a) rfl ha (by decide) dX10_add_41 rfl ?_
  refine w_al0 (n := 43) dX10_add_42 rfl ?_
  refine g_R (n := 46) f_X10_40_10 pl_14 rf_14_9 dX10_add_43 rfl ?_
  refine w_il5 (n := 48) dX10_add_46 rfl ?_
  refine w_iconst (n := 49) (nI 0) dX10_add_48 (by decide) rfl ?_
  refine w_cV2 (n := 52) pl_22 cl_4 s0_X4_setFallen k_X10_96 (Nat.le_of_ble_eq_true rfl) dX10_add_49 rfl (c4_setFallen (Or.inl rfl) (by rw [dk_put_k (by omega), dk_put_k (by omega), dk_put_k (by omega), dk_put_k (by omega)]; exact h2) hs ha (by decide) ?_)
  refine w_pop (n := 53) rfl dX10_add_52 rfl ?_
  refine w_al0 (n := 54) dX10_add_53 rfl ?_
  refine w_il5 (n := 56) dX10_add_54 rfl ?_
  refine w_cV1 (n := 59) pl_14 cl_10 s0_X10_settleBears k_X10_100 (Nat.le_of_ble_eq_true rfl) dX10_add_56 rfl (c10_settle ha hk hg (by rw [dk_put_k (by omega), dk_put_k (by omega), dk_put_k (by omega), dk_put_k (by omega), dk_put_s]) (by rw [dk_put_k (by omega), dk_put_k (by omega), dk_put_k (by omega), dk_put_s]) ?_)
  refine w_al0 (n := 60) dX10_add_59 rfl ?_
  refine w_dup (n := 61) rfl dX10_add_60 rfl ?_
  refine g_I (n := 64) f_X10_9_10 pl_14 dX10_add_61 rfl ?_
  refine w_iconst (n := 65) (nI 1) dX10_add_64 (by decide) rfl ?_
  rw [dk_put_k (by omega), dk_put_k (by omega), dk_put_k (by omega), dk_put_k (by omega), dk_put_k (by omega), dk_put_k (by omega), h1]
  refine w_iadd (n := 66) dX10_add_65 rfl ?_
  rw [nI_add]
  refine p_I (n := 69) f_X10_9_10 pl_14 dX10_add_66 rfl ?_
  refine w_il5 (n := 71) dX10_add_69 rfl ?_
  refine w_retI dX10_add_71 rfl ?_
  exact hq

set_option maxRecDepth 20000 in
theorem C_piece {d : Nat} {M : dk_Mem} {Q : Option Value → dk_Mem → Prop} {K : sg_K} (hK : cK K M) {a b c e : Int32} (hq : ∀ M2, cK (kf_piece K a b c e).2 M2 → dk_fr cA M M2 → Q (some (.int (kf_piece K a b c e).1)) M2) : dk_Call (d + 5) mX11_piece [.ref 0, .int a, .int b, .int c, .int e] M Q := by
  have hK0 := hK
  obtain ⟨⟨o, p1, p2, p3⟩, hs, hc, hb, hcr, hsc, hz, β, hβ, hβ1, hβ2⟩ := hK0
  have o4 := o.2.2.2.1
  have o16 := o.2.1
  have hm : dk_mo 22 := Or.inl rfl
  have hm9 : dk_mo 79 := Or.inr (Or.inr (Or.inr (Or.inr (Or.inr (Or.inr (Or.inr rfl))))))
  refine dk_enter [some (.ref 0), some (.int a), some (.int b), some (.int c), some (.int e)] (by decide) (fun _ => rfl) (fun _ => Nat.le_of_ble_eq_true rfl) ?_
  refine w_il1 (n := 1) dX11_piece_0 rfl ?_
  refine w_iconst (n := 2) (nI 1) dX11_piece_1 (by decide) rfl ?_
  refine w_iconst (n := 3) (nI 5) dX11_piece_2 (by decide) rfl ?_
  refine w_cS3 (n := 6) s0_X11_within k_X11_112 (Nat.le_of_ble_eq_true rfl) dX11_piece_3 rfl (c_within (fun t3 => ?_) (fun t3 => ?_))
  · skip
    refine w_if_eq (n := 9) 19 dX11_piece_6 (by decide) rfl (fun h => absurd h (by decide)) (fun _ => ?_)
    refine w_il2 (n := 10) dX11_piece_9 rfl ?_
    refine w_iconst (n := 11) (nI 0) dX11_piece_10 (by decide) rfl ?_
    refine w_bipush (n := 13) (nI 99) dX11_piece_11 (by decide) rfl ?_
    refine w_cS3 (n := 16) s0_X11_within k_X11_112 (Nat.le_of_ble_eq_true rfl) dX11_piece_13 rfl (c_within (fun t13 => ?_) (fun t13 => ?_))
    · skip
      refine w_if_ne (n := 19) 21 dX11_piece_16 (by decide) rfl (fun _ => ?_) (fun h => absurd h (by decide))
      refine w_il3 (n := 22) dX11_piece_21 rfl ?_
      refine w_iconst (n := 23) (nI 0) dX11_piece_22 (by decide) rfl ?_
      refine w_bipush (n := 25) (nI 9) dX11_piece_23 (by decide) rfl ?_
      refine w_cS3 (n := 28) s0_X11_within k_X11_112 (Nat.le_of_ble_eq_true rfl) dX11_piece_25 rfl (c_within (fun t25 => ?_) (fun t25 => ?_))
      · skip
        refine w_if_eq (n := 31) 41 dX11_piece_28 (by decide) rfl (fun h => absurd h (by decide)) (fun _ => ?_)
        refine w_il4 (n := 33) dX11_piece_31 rfl ?_
        refine w_iconst (n := 34) (nI 0) dX11_piece_33 (by decide) rfl ?_
        refine w_iconst (n := 35) (nI 5) dX11_piece_34 (by decide) rfl ?_
        refine w_cS3 (n := 38) s0_X11_within k_X11_112 (Nat.le_of_ble_eq_true rfl) dX11_piece_35 rfl (c_within (fun t35 => ?_) (fun t35 => ?_))
        · skip
          refine w_if_ne (n := 41) 43 dX11_piece_38 (by decide) rfl (fun _ => ?_) (fun h => absurd h (by decide))
          refine w_al0 (n := 44) dX11_piece_43 rfl ?_
          refine g_R (n := 47) f_X11_36_11 pl_0 rf_0_1 dX11_piece_44 rfl ?_
          refine g_I (n := 50) f_X11_116_10 pl_14 dX11_piece_47 rfl ?_
          refine w_bipush (n := 52) (nI 6) dX11_piece_50 (by decide) rfl ?_
          rw [hs.count]
          refine w_ic_lt (n := 55) 58 dX11_piece_52 (by decide) rfl (fun z52 => ?_) (fun z52 => ?_)
          · skip
            refine w_al0 (n := 59) dX11_piece_58 rfl ?_
            refine g_R (n := 62) f_X11_36_11 pl_0 rf_0_1 dX11_piece_59 rfl ?_
            refine w_il1 (n := 63) dX11_piece_62 rfl ?_
            refine w_il2 (n := 64) dX11_piece_63 rfl ?_
            refine w_il3 (n := 65) dX11_piece_64 rfl ?_
            refine w_il4 (n := 67) dX11_piece_65 rfl ?_
            have ka := tN_of (n := 5) (by decide) (Int32.le_trans (by decide) t3.1) t3.2
            have kb := tN_of (n := 99) (by decide) t13.1 t13.2
            have kc := tN_of (n := 9) (by decide) t25.1 t25.2
            have kd := tN_of (n := 5) (by decide) t35.1 t35.2
            have h46 : K.1 4 < 6 := by rw [nI_ltI (by omega) (by decide)] at z52; exact z52
            rw [ka.1, kb.1, kc.1, kd.1]
            refine w_cV4 (n := 70) pl_14 cl_10 s0_X10_add k_X11_119 (Nat.le_of_ble_eq_true rfl) dX11_piece_67 rfl (c10_add h46 ka.2 kc.2 hs.count hc.2.1 (sg_set_64 o) ?_)
            refine w_retI dX11_piece_70 rfl ?_
            exact dk_fin hq (by unfold kf_piece; rw [if_pos ⟨t3, t13, t25, t35⟩]; exact if_neg (by omega)) (hK.mk (sg_add_in hK.1 h46 ka.2 kb.2 kc.2 kd.2) hs.add (hc.add o) (cd_add_fr h46) (fun j hj => sg_add_o (by omega) (by omega))) (cW_A (cd_add_fr h46))
          · skip
            refine w_bipush (n := 57) (-2) dX11_piece_55 (by decide) rfl ?_
            refine w_retI dX11_piece_57 rfl ?_
            exact dk_fin hq (by unfold kf_piece; rw [if_pos ⟨t3, t13, t25, t35⟩]; exact if_pos (by rw [nI_ltI (by omega) (by decide)] at z52; omega)) hK dk_fr.rf
        · skip
          refine w_if_ne (n := 41) 43 dX11_piece_38 (by decide) rfl (fun h => absurd h (by decide)) (fun _ => ?_)
          refine w_iconst (n := 42) (-1) dX11_piece_41 (by decide) rfl ?_
          refine w_retI dX11_piece_42 rfl ?_
          exact dk_fin hq (if_neg (fun z => by first | exact t25 z.2.2.1 | exact t35 z.2.2.2)) hK dk_fr.rf
      · skip
        refine w_if_eq (n := 31) 41 dX11_piece_28 (by decide) rfl (fun _ => ?_) (fun h => absurd (by decide) h)
        refine w_iconst (n := 42) (-1) dX11_piece_41 (by decide) rfl ?_
        refine w_retI dX11_piece_42 rfl ?_
        exact dk_fin hq (if_neg (fun z => by first | exact t25 z.2.2.1 | exact t35 z.2.2.2)) hK dk_fr.rf
    · skip
      refine w_if_ne (n := 19) 21 dX11_piece_16 (by decide) rfl (fun h => absurd h (by decide)) (fun _ => ?_)
      refine w_iconst (n := 20) (-1) dX11_piece_19 (by decide) rfl ?_
      refine w_retI dX11_piece_20 rfl ?_
      exact dk_fin hq (if_neg (fun z => by first | exact t3 z.1 | exact t13 z.2.1)) hK dk_fr.rf
  · skip
    refine w_if_eq (n := 9) 19 dX11_piece_6 (by decide) rfl (fun _ => ?_) (fun h => absurd (by decide) h)
    refine w_iconst (n := 20) (-1) dX11_piece_19 (by decide) rfl ?_
    refine w_retI dX11_piece_20 rfl ?_
    exact dk_fin hq (if_neg (fun z => by first | exact t3 z.1 | exact t13 z.2.1)) hK dk_fr.rf

set_option maxRecDepth 20000 in
theorem c10_leans {d : Nat} {M : dk_Mem} {Q : Option Value → dk_Mem → Prop} {σ : Nat → Nat} (hs : cs σ M) (o : sg_ok σ) {μ : Nat} (hm : dk_mo μ) (hc : cm μ σ M) {h : Nat} (hh : h < σ 4) (hq : Q (some (.int (nI (sg_leans σ h)))) M) : dk_Call (d + 3) mX10_leansMore [.ref 14, .ref μ, .int (nI h)] M Q := by
  have o4 := o.2.2.2.1
  have h6 : h < 6 := by omega
  have b2 := o.kind h6
  refine dk_enter [some (.ref 14), some (.ref μ), some (.int (nI h))] (by decide) (fun _ => rfl) (fun _ => Nat.le_of_ble_eq_true rfl) ?_
  refine w_al0 (n := 1) dX10_leansMore_0 rfl ?_
  refine g_R (n := 4) f_X10_67_10 pl_14 rf_14_0 dX10_leansMore_1 rfl ?_
  refine w_al0 (n := 5) dX10_leansMore_4 rfl ?_
  refine g_R (n := 8) f_X10_15_10 pl_14 rf_14_2 dX10_leansMore_5 rfl ?_
  refine w_il2 (n := 9) dX10_leansMore_8 rfl ?_
  refine i_iald (n := 10) pl_15 (j := h) rfl h6 (by decide) (hs.kind hh) dX10_leansMore_9 rfl ?_
  refine i_aaldP (n := 11) pl_1 (j := σ (35 + 5 * h)) rfl (by omega) (by decide) (rf_kinds _ (by omega)) dX10_leansMore_10 rfl ?_
  refine w_al0 (n := 12) dX10_leansMore_11 rfl ?_
  refine w_al1 (n := 13) dX10_leansMore_12 rfl ?_
  refine g_I (n := 16) f_X10_108_4 hm.is dX10_leansMore_13 rfl ?_
  rw [hc.1]
  refine w_cV1 (n := 19) pl_14 cl_10 s0_X10_wordOf k_X10_115 (Nat.le_of_ble_eq_true rfl) dX10_leansMore_16 rfl (c10_wordOf hs o o.2.2.1 ?_)
  refine w_al0 (n := 20) dX10_leansMore_19 rfl ?_
  refine w_al1 (n := 21) dX10_leansMore_20 rfl ?_
  refine g_I (n := 24) f_X10_108_4 hm.is dX10_leansMore_21 rfl ?_
  rw [hc.1]
  refine w_cV1 (n := 27) pl_14 cl_10 s0_X10_hushOf k_X10_118 (Nat.le_of_ble_eq_true rfl) dX10_leansMore_24 rfl (c10_hushOf hs o o.2.2.1 ?_)
  refine w_al1 (n := 28) dX10_leansMore_27 rfl ?_
  refine g_I (n := 31) f_X10_108_4 hm.is dX10_leansMore_28 rfl ?_
  rw [hc.1]
  refine w_lm_X10 (n := 34) rfl b2 o.wd o.hs o.2.2.1 (Nat.le_of_ble_eq_true rfl) dX10_leansMore_31 rfl ?_
  refine w_retI dX10_leansMore_34 rfl ?_
  exact hq

set_option maxRecDepth 20000 in
theorem C_pieceOf {d : Nat} {M : dk_Mem} {Q : Option Value → dk_Mem → Prop} {K : sg_K} (hK : cK K M) {k x : Int32} (hq : ∀ M2, cK (kf_pieceOf K k x).2 M2 → dk_fr cA M M2 → Q (some (.int (kf_pieceOf K k x).1)) M2) : dk_Call (d + 6) mX11_pieceOf [.ref 0, .int k, .int x] M Q := by
  have hK0 := hK
  obtain ⟨⟨o, p1, p2, p3⟩, hs, hc, hb, hcr, hsc, hz, β, hβ, hβ1, hβ2⟩ := hK0
  have o4 := o.2.2.2.1
  have o16 := o.2.1
  have hm : dk_mo 22 := Or.inl rfl
  have hm9 : dk_mo 79 := Or.inr (Or.inr (Or.inr (Or.inr (Or.inr (Or.inr (Or.inr rfl))))))
  refine dk_enter [some (.ref 0), some (.int k), some (.int x), none] (by decide) (fun _ => rfl) (fun _ => Nat.le_of_ble_eq_true rfl) ?_
  refine w_al0 (n := 1) dX11_pieceOf_0 rfl ?_
  refine g_R (n := 4) f_X11_36_11 pl_0 rf_0_1 dX11_pieceOf_1 rfl ?_
  refine w_il1 (n := 5) dX11_pieceOf_4 rfl ?_
  refine w_cV1 (n := 8) pl_14 cl_10 s0_X10_isPiece k_X11_123 (Nat.le_of_ble_eq_true rfl) dX11_pieceOf_5 rfl (c10_isPiece hs o (fun h hh e => ?_) (fun nh => ?_))
  · skip
    subst e
    have h6 : h < 6 := by omega
    refine w_if_ne (n := 11) 13 dX11_pieceOf_8 (by decide) rfl (fun _ => ?_) (fun h => absurd h (by decide))
    refine w_al0 (n := 14) dX11_pieceOf_13 rfl ?_
    refine g_R (n := 17) f_X11_36_11 pl_0 rf_0_1 dX11_pieceOf_14 rfl ?_
    refine g_R (n := 20) f_X11_127_10 pl_14 rf_14_9 dX11_pieceOf_17 rfl ?_
    refine w_as3 (n := 21) dX11_pieceOf_20 rfl rfl (by decide) ?_
    refine w_il2 (n := 22) dX11_pieceOf_21 rfl ?_
    by_cases hs22_0 : x = (nI 0)
    · first | subst hs22_0 | rw [hs22_0]
      refine w_tabIn 76 dX11_pieceOf_22 (by decide) (by decide) rfl (by decide) ?_
      refine w_al0 (n := 77) dX11_pieceOf_76 rfl ?_
      refine g_R (n := 80) f_X11_36_11 pl_0 rf_0_1 dX11_pieceOf_77 rfl ?_
      refine g_R (n := 83) f_X11_130_10 pl_14 rf_14_2 dX11_pieceOf_80 rfl ?_
      refine w_il1 (n := 84) dX11_pieceOf_83 rfl ?_
      refine i_iald (n := 85) pl_15 (j := h) rfl h6 (by decide) (hs.kind hh) dX11_pieceOf_84 rfl ?_
      refine w_retI dX11_pieceOf_85 rfl ?_
      exact dk_fin hq (by unfold kf_pieceOf; rw [sg_pc_some o4 hh]; exact congrArg (fun y => (y, K)) (rfl)) hK dk_fr.rf
    by_cases hs22_1 : x = (nI 1)
    · first | subst hs22_1 | rw [hs22_1]
      refine w_tabIn 86 dX11_pieceOf_22 (by decide) (by decide) rfl (by decide) ?_
      refine w_al3 (n := 87) dX11_pieceOf_86 rfl ?_
      refine g_R (n := 90) f_X11_133_4 pl_22 rf_22_2 dX11_pieceOf_87 rfl ?_
      refine w_il1 (n := 91) dX11_pieceOf_90 rfl ?_
      refine i_iald (n := 92) pl_23 (j := h) rfl h6 (by decide) (hc.2.2 h hh) dX11_pieceOf_91 rfl ?_
      refine w_retI dX11_pieceOf_92 rfl ?_
      exact dk_fin hq (by unfold kf_pieceOf; rw [sg_pc_some o4 hh]; exact congrArg (fun y => (y, K)) (rfl)) hK dk_fr.rf
    by_cases hs22_2 : x = (nI 2)
    · first | subst hs22_2 | rw [hs22_2]
      refine w_tabIn 93 dX11_pieceOf_22 (by decide) (by decide) rfl (by decide) ?_
      refine w_al0 (n := 94) dX11_pieceOf_93 rfl ?_
      refine g_R (n := 97) f_X11_36_11 pl_0 rf_0_1 dX11_pieceOf_94 rfl ?_
      refine g_R (n := 100) f_X11_136_10 pl_14 rf_14_3 dX11_pieceOf_97 rfl ?_
      refine w_il1 (n := 101) dX11_pieceOf_100 rfl ?_
      refine i_iald (n := 102) pl_16 (j := h) rfl h6 (by decide) (hs.gap hh) dX11_pieceOf_101 rfl ?_
      refine w_retI dX11_pieceOf_102 rfl ?_
      exact dk_fin hq (by unfold kf_pieceOf; rw [sg_pc_some o4 hh]; exact congrArg (fun y => (y, K)) (rfl)) hK dk_fr.rf
    by_cases hs22_3 : x = (nI 3)
    · first | subst hs22_3 | rw [hs22_3]
      refine w_tabIn 103 dX11_pieceOf_22 (by decide) (by decide) rfl (by decide) ?_
      refine w_al0 (n := 104) dX11_pieceOf_103 rfl ?_
      refine g_R (n := 107) f_X11_36_11 pl_0 rf_0_1 dX11_pieceOf_104 rfl ?_
      refine g_R (n := 110) f_X11_139_10 pl_14 rf_14_4 dX11_pieceOf_107 rfl ?_
      refine w_il1 (n := 111) dX11_pieceOf_110 rfl ?_
      refine i_iald (n := 112) pl_17 (j := h) rfl h6 (by decide) (hs.room hh) dX11_pieceOf_111 rfl ?_
      refine w_retI dX11_pieceOf_112 rfl ?_
      exact dk_fin hq (by unfold kf_pieceOf; rw [sg_pc_some o4 hh]; exact congrArg (fun y => (y, K)) (rfl)) hK dk_fr.rf
    by_cases hs22_4 : x = (nI 4)
    · first | subst hs22_4 | rw [hs22_4]
      refine w_tabIn 113 dX11_pieceOf_22 (by decide) (by decide) rfl (by decide) ?_
      refine w_al3 (n := 114) dX11_pieceOf_113 rfl ?_
      refine w_il1 (n := 115) dX11_pieceOf_114 rfl ?_
      refine w_cV1 (n := 118) pl_22 cl_4 s0_X4_isFallen k_X11_142 (Nat.le_of_ble_eq_true rfl) dX11_pieceOf_115 rfl (c4_isFallen hm hc o hh (fun t115 => ?_) (fun t115 => ?_))
      · skip
        refine w_if_eq (n := 121) 125 dX11_pieceOf_118 (by decide) rfl (fun h => absurd h (by decide)) (fun _ => ?_)
        refine w_iconst (n := 122) (nI 1) dX11_pieceOf_121 (by decide) rfl ?_
        refine w_goto 126 dX11_pieceOf_122 (by decide) ?_
        refine w_retI dX11_pieceOf_126 rfl ?_
        exact dk_fin hq (by unfold kf_pieceOf; rw [sg_pc_some o4 hh]; exact congrArg (fun y => (y, K)) (show nI (K.1 (39 + 5 * h)) = nI 1 by rw [t115])) hK dk_fr.rf
      · skip
        refine w_if_eq (n := 121) 125 dX11_pieceOf_118 (by decide) rfl (fun _ => ?_) (fun h => absurd (by decide) h)
        refine w_iconst (n := 126) (nI 0) dX11_pieceOf_125 (by decide) rfl ?_
        refine w_retI dX11_pieceOf_126 rfl ?_
        exact dk_fin hq (by unfold kf_pieceOf; rw [sg_pc_some o4 hh]; exact congrArg (fun y => (y, K)) (show nI (K.1 (39 + 5 * h)) = nI 0 by rw [t115])) hK dk_fr.rf
    by_cases hs22_5 : x = (nI 5)
    · first | subst hs22_5 | rw [hs22_5]
      refine w_tabIn 127 dX11_pieceOf_22 (by decide) (by decide) rfl (by decide) ?_
      refine w_al0 (n := 128) dX11_pieceOf_127 rfl ?_
      refine g_R (n := 131) f_X11_36_11 pl_0 rf_0_1 dX11_pieceOf_128 rfl ?_
      refine w_al3 (n := 132) dX11_pieceOf_131 rfl ?_
      refine w_il1 (n := 133) dX11_pieceOf_132 rfl ?_
      refine w_cV2 (n := 136) pl_14 cl_10 s0_X10_leansMore k_X11_145 (Nat.le_of_ble_eq_true rfl) dX11_pieceOf_133 rfl (c10_leans hs o hm hc hh ?_)
      refine w_retI dX11_pieceOf_136 rfl ?_
      exact dk_fin hq (by unfold kf_pieceOf; rw [sg_pc_some o4 hh]; exact congrArg (fun y => (y, K)) (rfl)) hK dk_fr.rf
    by_cases hs22_6 : x = (nI 6)
    · first | subst hs22_6 | rw [hs22_6]
      refine w_tabIn 137 dX11_pieceOf_22 (by decide) (by decide) rfl (by decide) ?_
      refine w_al0 (n := 138) dX11_pieceOf_137 rfl ?_
      refine g_R (n := 141) f_X11_36_11 pl_0 rf_0_1 dX11_pieceOf_138 rfl ?_
      refine g_R (n := 144) f_X11_149_10 pl_14 rf_14_5 dX11_pieceOf_141 rfl ?_
      refine w_il1 (n := 145) dX11_pieceOf_144 rfl ?_
      refine i_iald (n := 146) pl_18 (j := h) rfl h6 (by decide) (hs.bears hh) dX11_pieceOf_145 rfl ?_
      refine w_retI dX11_pieceOf_146 rfl ?_
      exact dk_fin hq (by unfold kf_pieceOf; rw [sg_pc_some o4 hh]; exact congrArg (fun y => (y, K)) (rfl)) hK dk_fr.rf
    by_cases hs22_7 : x = (nI 7)
    · first | subst hs22_7 | rw [hs22_7]
      refine w_tabIn 147 dX11_pieceOf_22 (by decide) (by decide) rfl (by decide) ?_
      refine w_al0 (n := 148) dX11_pieceOf_147 rfl ?_
      refine g_R (n := 151) f_X11_36_11 pl_0 rf_0_1 dX11_pieceOf_148 rfl ?_
      refine w_al3 (n := 152) dX11_pieceOf_151 rfl ?_
      refine w_il1 (n := 153) dX11_pieceOf_152 rfl ?_
      refine w_cV2 (n := 156) pl_14 cl_10 s0_X10_pays k_X11_152 (Nat.le_of_ble_eq_true rfl) dX11_pieceOf_153 rfl (c10_pays hs o hm hc hh ?_)
      refine w_retI dX11_pieceOf_156 rfl ?_
      exact dk_fin hq (by unfold kf_pieceOf; rw [sg_pc_some o4 hh]; exact congrArg (fun y => (y, K)) (rfl)) hK dk_fr.rf
    by_cases hs22_8 : x = (nI 8)
    · first | subst hs22_8 | rw [hs22_8]
      refine w_tabIn 157 dX11_pieceOf_22 (by decide) (by decide) rfl (by decide) ?_
      refine w_al0 (n := 158) dX11_pieceOf_157 rfl ?_
      refine g_R (n := 161) f_X11_36_11 pl_0 rf_0_1 dX11_pieceOf_158 rfl ?_
      refine w_al3 (n := 162) dX11_pieceOf_161 rfl ?_
      refine w_il1 (n := 163) dX11_pieceOf_162 rfl ?_
      refine w_cV2 (n := 166) pl_14 cl_10 s0_X10_mayFall k_X11_155 (Nat.le_of_ble_eq_true rfl) dX11_pieceOf_163 rfl (c10_mayFall hs o hm hc hh hb (fun M2 g t163 => ?_) (fun M2 g t163 => ?_))
      · skip
        refine w_if_eq (n := 169) 173 dX11_pieceOf_166 (by decide) rfl (fun h => absurd h (by decide)) (fun _ => ?_)
        refine w_iconst (n := 170) (nI 1) dX11_pieceOf_169 (by decide) rfl ?_
        refine w_goto 174 dX11_pieceOf_170 (by decide) ?_
        refine w_retI dX11_pieceOf_174 rfl ?_
        have e9 : sg_may K.2.1 K.1 h ↔ (0 < sg_pays K.1 h ∧ sg_does K.2.1 K.1 h = 0) := by unfold sg_may; first | exact Iff.rfl | omega
        first | exact dk_fin hq (by unfold kf_pieceOf; rw [sg_pc_some o4 hh]; exact congrArg (fun y => (y, K)) (show (if 0 < sg_pays K.1 h ∧ sg_does K.2.1 K.1 h = 0 then nI 1 else nI 0) = nI 1 from if_pos (e9.mp t163))) (hK.N (cY_N g)) (cN_A (cY_N g)) | exact dk_fin hq (by unfold kf_pieceOf; rw [sg_pc_some o4 hh]; exact congrArg (fun y => (y, K)) (show (if 0 < sg_pays K.1 h ∧ sg_does K.2.1 K.1 h = 0 then nI 1 else nI 0) = nI 0 from if_neg (fun z => t163 (e9.mpr z)))) (hK.N (cY_N g)) (cN_A (cY_N g))
      · skip
        refine w_if_eq (n := 169) 173 dX11_pieceOf_166 (by decide) rfl (fun _ => ?_) (fun h => absurd (by decide) h)
        refine w_iconst (n := 174) (nI 0) dX11_pieceOf_173 (by decide) rfl ?_
        refine w_retI dX11_pieceOf_174 rfl ?_
        have e9 : sg_may K.2.1 K.1 h ↔ (0 < sg_pays K.1 h ∧ sg_does K.2.1 K.1 h = 0) := by unfold sg_may; first | exact Iff.rfl | omega
        first | exact dk_fin hq (by unfold kf_pieceOf; rw [sg_pc_some o4 hh]; exact congrArg (fun y => (y, K)) (show (if 0 < sg_pays K.1 h ∧ sg_does K.2.1 K.1 h = 0 then nI 1 else nI 0) = nI 1 from if_pos (e9.mp t163))) (hK.N (cY_N g)) (cN_A (cY_N g)) | exact dk_fin hq (by unfold kf_pieceOf; rw [sg_pc_some o4 hh]; exact congrArg (fun y => (y, K)) (show (if 0 < sg_pays K.1 h ∧ sg_does K.2.1 K.1 h = 0 then nI 1 else nI 0) = nI 0 from if_neg (fun z => t163 (e9.mpr z)))) (hK.N (cY_N g)) (cN_A (cY_N g))
    by_cases hs22_9 : x = (nI 9)
    · first | subst hs22_9 | rw [hs22_9]
      refine w_tabIn 175 dX11_pieceOf_22 (by decide) (by decide) rfl (by decide) ?_
      refine w_al0 (n := 176) dX11_pieceOf_175 rfl ?_
      refine g_R (n := 179) f_X11_36_11 pl_0 rf_0_1 dX11_pieceOf_176 rfl ?_
      refine w_al3 (n := 180) dX11_pieceOf_179 rfl ?_
      refine w_il1 (n := 181) dX11_pieceOf_180 rfl ?_
      refine w_cV2 (n := 184) pl_14 cl_10 s0_X10_will k_X11_159 (Nat.le_of_ble_eq_true rfl) dX11_pieceOf_181 rfl (c_will hs o hm hc hh hb (fun M2 g => ?_))
      refine w_retI dX11_pieceOf_184 rfl ?_
      exact dk_fin hq (by unfold kf_pieceOf; rw [sg_pc_some o4 hh]; exact congrArg (fun y => (y, K)) (rfl)) (hK.N (cY_N g)) (cN_A (cY_N g))
    refine w_tabOut 185 dX11_pieceOf_22 (dk_out10 hs22_0 hs22_1 hs22_2 hs22_3 hs22_4 hs22_5 hs22_6 hs22_7 hs22_8 hs22_9) (by decide) ?_
    refine w_iconst (n := 186) (-1) dX11_pieceOf_185 (by decide) rfl ?_
    refine w_retI dX11_pieceOf_186 rfl ?_
    exact dk_fin hq (by unfold kf_pieceOf; rw [sg_pc_some o4 hh]; exact congrArg (fun y => (y, K)) (by unfold sg_pof; rw [if_neg hs22_0, if_neg hs22_1, if_neg hs22_2, if_neg hs22_3, if_neg hs22_4, if_neg hs22_5, if_neg hs22_6, if_neg hs22_7, if_neg hs22_8, if_neg hs22_9])) hK dk_fr.rf
  · skip
    refine w_if_ne (n := 11) 13 dX11_pieceOf_8 (by decide) rfl (fun h => absurd h (by decide)) (fun _ => ?_)
    refine w_iconst (n := 12) (-1) dX11_pieceOf_11 (by decide) rfl ?_
    refine w_retI dX11_pieceOf_12 rfl ?_
    exact dk_fin hq (by unfold kf_pieceOf; rw [sg_pc_none o4 nh]) hK dk_fr.rf

theorem sg_clr_f {σ : Nat → Nat} : ∀ n i, i < n → sg_clr σ n (39 + 5 * i) = 0
  | 0, i, h => by omega
  | n + 1, i, h => by
    rw [sg_clr]
    by_cases e : i = n
    · subst e; rw [sg_up_s]
    · rw [sg_up_n (by omega)]; exact sg_clr_f n i (by omega)
theorem sg_set_0 {σ : Nat → Nat} : ∀ n, (∀ i, i < n → σ (39 + 5 * i) = 0) → sg_set σ n = 0
  | 0, _ => rfl
  | n + 1, h => by rw [sg_set, h n (by omega), sg_set_0 n (fun i hi => h i (by omega))]; simp
theorem sg_clr_1 {σ : Nat → Nat} : ∀ n, sg_clr σ n 1 = 0
  | 0 => sg_up_s
  | n + 1 => by rw [sg_clr, sg_up_n (by omega)]; exact sg_clr_1 n
theorem sg_clr_h {σ : Nat → Nat} {j : Nat} (h : 65 ≤ j) : ∀ n, n ≤ 6 → sg_clr σ n j = σ j
  | 0, _ => sg_up_n (by omega)
  | n + 1, hn => by rw [sg_clr, sg_up_n (by omega)]; exact sg_clr_h h n (by omega)
set_option maxRecDepth 20000 in
theorem C_anew {d : Nat} {M : dk_Mem} {Q : Option Value → dk_Mem → Prop} {K : sg_K} (hK : cK K M) (hq : ∀ M2, cK (kf_anew K).2 M2 → dk_fr cA M M2 → Q (some (.int (kf_anew K).1)) M2) : dk_Call (d + 3) mX11_anew [.ref 0] M Q := by
  have hK0 := hK
  obtain ⟨⟨o, p1, p2, p3⟩, hs, hc, hb, hcr, hsc, hz, β, hβ, hβ1, hβ2⟩ := hK0
  have o4 := o.2.2.2.1
  have o16 := o.2.1
  have hm : dk_mo 22 := Or.inl rfl
  have hm9 : dk_mo 79 := Or.inr (Or.inr (Or.inr (Or.inr (Or.inr (Or.inr (Or.inr rfl))))))
  refine dk_enter [some (.ref 0), none] (by decide) (fun _ => rfl) (fun _ => Nat.le_of_ble_eq_true rfl) ?_
  refine w_al0 (n := 1) dX11_anew_0 rfl ?_
  refine g_R (n := 4) f_X11_36_11 pl_0 rf_0_1 dX11_anew_1 rfl ?_
  refine g_R (n := 7) f_X11_127_10 pl_14 rf_14_9 dX11_anew_4 rfl ?_
  refine g_I (n := 10) f_X11_185_4 pl_22 dX11_anew_7 rfl ?_
  rw [hc.1]
  refine w_is1 (n := 11) dX11_anew_10 rfl rfl (by decide) ?_
  refine w_al0 (n := 12) dX11_anew_11 rfl ?_
  refine g_R (n := 15) f_X11_36_11 pl_0 rf_0_1 dX11_anew_12 rfl ?_
  refine g_R (n := 18) f_X11_127_10 pl_14 rf_14_9 dX11_anew_15 rfl ?_
  refine w_iconst (n := 19) (nI 0) dX11_anew_18 (by decide) rfl ?_
  refine p_I (n := 22) f_X11_185_4 pl_22 dX11_anew_19 rfl ?_
  refine w_al0 (n := 23) dX11_anew_22 rfl ?_
  refine g_R (n := 26) f_X11_36_11 pl_0 rf_0_1 dX11_anew_23 rfl ?_
  refine g_R (n := 29) f_X11_127_10 pl_14 rf_14_9 dX11_anew_26 rfl ?_
  refine w_iconst (n := 30) (nI 0) dX11_anew_29 (by decide) rfl ?_
  refine p_I (n := 33) f_X11_191_4 pl_22 dX11_anew_30 rfl ?_
  refine w_al0 (n := 34) dX11_anew_33 rfl ?_
  refine g_R (n := 37) f_X11_36_11 pl_0 rf_0_1 dX11_anew_34 rfl ?_
  refine w_iconst (n := 38) (nI 0) dX11_anew_37 (by decide) rfl ?_
  refine p_I (n := 41) f_X11_194_10 pl_14 dX11_anew_38 rfl ?_
  refine w_il1 (n := 42) dX11_anew_41 rfl ?_
  refine w_retI dX11_anew_42 rfl ?_
  have hc2 : sg_clr K.1 (K.1 4) 4 = K.1 4 := sg_clr_o (by omega) (by omega) _
  have b2 : dk_fr (fun q k => q = 22 ∨ (q = 14 ∧ k = 11)) M (dk_put (dk_put (dk_put M 22 0 (nI 0)) 22 1 (nI 0)) 14 11 (nI 0)) := ((dk_fr.rf.put (Or.inl rfl)).put (Or.inl rfl)).put (Or.inr ⟨rfl, rfl⟩)
  have hs2 : cs K.1 (dk_put (dk_put (dk_put M 22 0 (nI 0)) 22 1 (nI 0)) 14 11 (nI 0)) := by
    obtain ⟨d1, d2, d3, d4, d5⟩ := hs
    refine ⟨?_, ?_, fun i hi => ?_, fun y hy => ?_, fun j hj => ?_⟩
    · rw [b2.2 14 1 (by omega)]; exact d1
    · rw [b2.2 14 10 (by omega)]; exact d2
    · rw [b2.2 _ _ (by omega), b2.2 _ _ (by omega), b2.2 _ _ (by omega), b2.2 _ _ (by omega)]; exact d3 i hi
    · rw [b2.2 _ _ (by omega)]; exact d4 y hy
    · rw [b2.2 _ _ (by omega), b2.2 _ _ (by omega)]; exact d5 j hj
  refine hq _ ⟨sg_clr_in hK.1 _ o4, hs2.eqv (sg_eqv.of (fun j h1 _ h3 => sg_clr_o h1 h3 _)), ⟨?_, ?_, fun i hi => ?_⟩, hb.fr b2 (fun q k z => by unfold cA cN; omega), ?_, ?_, ?_, β, hβ, ?_, ?_⟩ (b2.up (fun q k z => by unfold cA cN; omega))
  · rw [dk_put_k (by omega), dk_put_k (by omega), dk_put_s]; show _ = nI (sg_clr K.1 (K.1 4) 1); rw [sg_clr_1]
  · rw [dk_put_k (by omega), dk_put_s]; show _ = nI (sg_set (sg_clr K.1 (K.1 4)) (sg_clr K.1 (K.1 4) 4)); rw [hc2, sg_set_0 _ (sg_clr_f _)]
  · have hi2 : i < sg_clr K.1 (K.1 4) 4 := hi
    rw [hc2] at hi2
    rw [b2.2 _ _ (by omega)]; show _ = nI (sg_clr K.1 (K.1 4) (36 + 5 * i)); rw [sg_clr_o (by omega) (by omega)]; exact hc.2.2 i hi2
  · have c5 := hcr.fr b2 (fun q k x y _ z => by omega)
    have e5 : sg_clr K.1 (K.1 4) 5 = K.1 5 := sg_clr_o (by omega) (by omega) _
    refine ⟨by show _ = nI (sg_clr K.1 (K.1 4) 5); rw [e5]; exact c5.1, fun r hr => ?_⟩
    have hr2 : r < sg_clr K.1 (K.1 4) 5 := hr
    rw [e5] at hr2
    show _ = nI (sg_clr K.1 (K.1 4) _) ∧ _ = nI (sg_clr K.1 (K.1 4) _) ∧ _ = nI (sg_clr K.1 (K.1 4) _) ∧ _ = nI (sg_clr K.1 (K.1 4) _)
    rw [sg_clr_h (by omega) _ o4, sg_clr_h (by omega) _ o4, sg_clr_h (by omega) _ o4, sg_clr_h (by omega) _ o4]
    exact c5.2 r hr2
  · rw [dk_put_s]; rfl
  · rw [b2.2 14 12 (by omega)]; exact hz
  · rw [b2.2 14 13 (by omega)]; exact hβ1
  · rw [b2.2 β 0 (by unfold dk_bo at hβ; omega)]; show _ = nI (sg_clr K.1 (K.1 4) 6); rw [sg_clr_o (by omega) (by omega)]; exact hβ2

set_option maxRecDepth 20000 in
theorem c_laL {d : Nat} {M : dk_Mem} {Q : Option Value → dk_Mem → Prop} {σ : Nat → Nat} (hs : cs σ M) (o : sg_ok σ) {μ : Nat} (hm : dk_mo μ) (hc : cm μ σ M) (hq : Q (some (.int (nI (sg_sum σ (σ 4))))) M) : ∀ (n k : Nat), k ≤ σ 4 → σ 4 - k < n → dk_W (d + 1) mX10_leanOfAll 4 [some (.ref 14), some (.ref μ), some (.int (nI (sg_sum σ k))), some (.int (nI k))] [] M Q := by
  have o4 := o.2.2.2.1
  intro n
  induction n with
  | zero => intro i _ h; omega
  | succ n ih =>
    intro k hi hn
    refine w_il3 (n := 5) dX10_leanOfAll_4 rfl ?_
    refine w_al0 (n := 6) dX10_leanOfAll_5 rfl ?_
    refine g_I (n := 9) f_X10_9_10 pl_14 dX10_leanOfAll_6 rfl ?_
    rw [hs.count]
    refine w_ic_ge (n := 12) 27 dX10_leanOfAll_9 (by decide) rfl (fun z9 => ?_) (fun z9 => ?_)
    · skip
      refine w_il2 (n := 28) dX10_leanOfAll_27 rfl ?_
      refine w_retI dX10_leanOfAll_28 rfl ?_
      rw [show k = σ 4 by rw [q_le (by omega) (by omega)] at z9; omega]
      exact hq
    · skip
      have hk : k < σ 4 := by rw [q_le (by omega) (by omega)] at z9; omega
      refine w_il2 (n := 13) dX10_leanOfAll_12 rfl ?_
      refine w_al1 (n := 14) dX10_leanOfAll_13 rfl ?_
      refine g_R (n := 17) f_X10_93_4 hm.is hm.rf dX10_leanOfAll_14 rfl ?_
      refine w_il3 (n := 18) dX10_leanOfAll_17 rfl ?_
      refine i_iald (n := 19) hm.ar (j := k) rfl (by omega) (by decide) (hc.2.2 k hk) dX10_leanOfAll_18 rfl ?_
      refine w_iadd (n := 20) dX10_leanOfAll_19 rfl ?_
      refine w_is2 (n := 21) dX10_leanOfAll_20 rfl rfl (by decide) ?_
      refine w_inc3 (n := 24) (nI 1) dX10_leanOfAll_21 (by decide) rfl rfl (by decide) ?_
      refine w_goto 4 dX10_leanOfAll_24 (by decide) ?_
      rw [nI_add, nI_add]
      exact ih (k + 1) (by omega) (by omega)

set_option maxRecDepth 20000 in
theorem c10_la {d : Nat} {M : dk_Mem} {Q : Option Value → dk_Mem → Prop} {σ : Nat → Nat} (hs : cs σ M) (o : sg_ok σ) {μ : Nat} (hm : dk_mo μ) (hc : cm μ σ M) (hq : Q (some (.int (nI (sg_sum σ (σ 4))))) M) : dk_Call (d + 1) mX10_leanOfAll [.ref 14, .ref μ] M Q := by
  refine dk_enter [some (.ref 14), some (.ref μ), none, none] (by decide) (fun _ => rfl) (fun _ => Nat.le_of_ble_eq_true rfl) ?_
  refine w_iconst (n := 1) (nI 0) dX10_leanOfAll_0 (by decide) rfl ?_
  refine w_is2 (n := 2) dX10_leanOfAll_1 rfl rfl (by decide) ?_
  refine w_iconst (n := 3) (nI 0) dX10_leanOfAll_2 (by decide) rfl ?_
  refine w_is3 (n := 4) dX10_leanOfAll_3 rfl rfl (by decide) ?_
  exact c_laL hs o hm hc hq (σ 4 + 1) 0 (by omega) (by omega)

set_option maxRecDepth 20000 in
theorem C_state {d : Nat} {M : dk_Mem} {Q : Option Value → dk_Mem → Prop} {K : sg_K} (hK : cK K M) {x : Int32} (hq : ∀ M2, cK (kf_state K x).2 M2 → dk_fr cA M M2 → Q (some (.int (kf_state K x).1)) M2) : dk_Call (d + 3) mX11_state [.ref 0, .int x] M Q := by
  have hK0 := hK
  obtain ⟨⟨o, p1, p2, p3⟩, hs, hc, hb, hcr, hsc, hz, β, hβ, hβ1, hβ2⟩ := hK0
  have o4 := o.2.2.2.1
  have o16 := o.2.1
  have hm : dk_mo 22 := Or.inl rfl
  have hm9 : dk_mo 79 := Or.inr (Or.inr (Or.inr (Or.inr (Or.inr (Or.inr (Or.inr rfl))))))
  refine dk_enter [some (.ref 0), some (.int x), none] (by decide) (fun _ => rfl) (fun _ => Nat.le_of_ble_eq_true rfl) ?_
  refine w_al0 (n := 1) dX11_state_0 rfl ?_
  refine g_R (n := 4) f_X11_36_11 pl_0 rf_0_1 dX11_state_1 rfl ?_
  refine g_R (n := 7) f_X11_127_10 pl_14 rf_14_9 dX11_state_4 rfl ?_
  refine w_as2 (n := 8) dX11_state_7 rfl rfl (by decide) ?_
  refine w_il1 (n := 9) dX11_state_8 rfl ?_
  by_cases hs9_0 : x = (nI 0)
  · first | subst hs9_0 | rw [hs9_0]
    refine w_tabIn 52 dX11_state_9 (by decide) (by decide) rfl (by decide) ?_
    refine w_al2 (n := 53) dX11_state_52 rfl ?_
    refine g_I (n := 56) f_X11_185_4 pl_22 dX11_state_53 rfl ?_
    rw [hc.1]
    refine w_retI dX11_state_56 rfl ?_
    exact dk_fin hq rfl hK dk_fr.rf
  by_cases hs9_1 : x = (nI 1)
  · first | subst hs9_1 | rw [hs9_1]
    refine w_tabIn 57 dX11_state_9 (by decide) (by decide) rfl (by decide) ?_
    refine w_al0 (n := 58) dX11_state_57 rfl ?_
    refine g_R (n := 61) f_X11_36_11 pl_0 rf_0_1 dX11_state_58 rfl ?_
    refine g_I (n := 64) f_X11_188_10 pl_14 dX11_state_61 rfl ?_
    rw [hs.end]
    refine w_retI dX11_state_64 rfl ?_
    exact dk_fin hq rfl hK dk_fr.rf
  by_cases hs9_2 : x = (nI 2)
  · first | subst hs9_2 | rw [hs9_2]
    refine w_tabIn 65 dX11_state_9 (by decide) (by decide) rfl (by decide) ?_
    refine w_al0 (n := 66) dX11_state_65 rfl ?_
    refine g_R (n := 69) f_X11_36_11 pl_0 rf_0_1 dX11_state_66 rfl ?_
    refine g_I (n := 72) f_X11_194_10 pl_14 dX11_state_69 rfl ?_
    rw [hsc]
    refine w_retI dX11_state_72 rfl ?_
    exact dk_fin hq rfl hK dk_fr.rf
  by_cases hs9_3 : x = (nI 3)
  · first | subst hs9_3 | rw [hs9_3]
    refine w_tabIn 73 dX11_state_9 (by decide) (by decide) rfl (by decide) ?_
    refine w_al0 (n := 74) dX11_state_73 rfl ?_
    refine g_R (n := 77) f_X11_36_11 pl_0 rf_0_1 dX11_state_74 rfl ?_
    refine w_al2 (n := 78) dX11_state_77 rfl ?_
    refine w_cV1 (n := 81) pl_14 cl_10 s0_X10_isOver k_X11_197 (Nat.le_of_ble_eq_true rfl) dX11_state_78 rfl (c10_isOver hs o hm hc (fun t78 => ?_) (fun t78 => ?_))
    · skip
      refine w_if_eq (n := 84) 88 dX11_state_81 (by decide) rfl (fun h => absurd h (by decide)) (fun _ => ?_)
      refine w_iconst (n := 85) (nI 1) dX11_state_84 (by decide) rfl ?_
      refine w_goto 89 dX11_state_85 (by decide) ?_
      refine w_retI dX11_state_89 rfl ?_
      exact dk_fin hq (congrArg (fun y => (y, K)) (if_pos t78)) hK dk_fr.rf
    · skip
      refine w_if_eq (n := 84) 88 dX11_state_81 (by decide) rfl (fun _ => ?_) (fun h => absurd (by decide) h)
      refine w_iconst (n := 89) (nI 0) dX11_state_88 (by decide) rfl ?_
      refine w_retI dX11_state_89 rfl ?_
      exact dk_fin hq (congrArg (fun y => (y, K)) (show (if K.1 0 ≤ K.1 1 then nI 1 else nI 0) = nI 0 from if_neg (by omega))) hK dk_fr.rf
  by_cases hs9_4 : x = (nI 4)
  · first | subst hs9_4 | rw [hs9_4]
    refine w_tabIn 90 dX11_state_9 (by decide) (by decide) rfl (by decide) ?_
    refine w_al2 (n := 91) dX11_state_90 rfl ?_
    refine g_I (n := 94) f_X11_191_4 pl_22 dX11_state_91 rfl ?_
    rw [hc.2.1]
    refine w_retI dX11_state_94 rfl ?_
    exact dk_fin hq rfl hK dk_fr.rf
  by_cases hs9_5 : x = (nI 5)
  · first | subst hs9_5 | rw [hs9_5]
    refine w_tabIn 95 dX11_state_9 (by decide) (by decide) rfl (by decide) ?_
    refine w_al0 (n := 96) dX11_state_95 rfl ?_
    refine g_R (n := 99) f_X11_36_11 pl_0 rf_0_1 dX11_state_96 rfl ?_
    refine w_al2 (n := 100) dX11_state_99 rfl ?_
    refine g_I (n := 103) f_X11_185_4 pl_22 dX11_state_100 rfl ?_
    rw [hc.1]
    refine w_cV1 (n := 106) pl_14 cl_10 s0_X10_sayingOf k_X11_201 (Nat.le_of_ble_eq_true rfl) dX11_state_103 rfl (c10_sayingOf hs o.2.2.1 ?_)
    refine w_retI dX11_state_106 rfl ?_
    exact dk_fin hq rfl hK dk_fr.rf
  by_cases hs9_6 : x = (nI 6)
  · first | subst hs9_6 | rw [hs9_6]
    refine w_tabIn 107 dX11_state_9 (by decide) (by decide) rfl (by decide) ?_
    refine w_al0 (n := 108) dX11_state_107 rfl ?_
    refine g_R (n := 111) f_X11_36_11 pl_0 rf_0_1 dX11_state_108 rfl ?_
    refine w_al2 (n := 112) dX11_state_111 rfl ?_
    refine w_cV1 (n := 115) pl_14 cl_10 s0_X10_leanOfAll k_X11_205 (Nat.le_of_ble_eq_true rfl) dX11_state_112 rfl (c10_la hs o hm hc ?_)
    refine w_retI dX11_state_115 rfl ?_
    exact dk_fin hq rfl hK dk_fr.rf
  refine w_tabOut 116 dX11_state_9 (dk_out7 hs9_0 hs9_1 hs9_2 hs9_3 hs9_4 hs9_5 hs9_6) (by decide) ?_
  refine w_iconst (n := 117) (-1) dX11_state_116 (by decide) rfl ?_
  refine w_retI dX11_state_117 rfl ?_
  exact dk_fin hq (by unfold kf_state; rw [if_neg hs9_0, if_neg hs9_1, if_neg hs9_2, if_neg hs9_3, if_neg hs9_4, if_neg hs9_5, if_neg hs9_6]) hK dk_fr.rf
