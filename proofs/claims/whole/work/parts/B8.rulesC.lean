/-! ===== rules in the component ===== -/
def cRu (q k : Nat) : Prop := (q = 0 ∧ (k = 7 ∨ k = 8)) ∨ (q = 14 ∧ k = 13) ∨ (24 ≤ q ∧ q ≤ 31) ∨ (82 ≤ q ∧ q ≤ 89)
theorem cE_ru {E : sg_E} {M M2 : dk_Mem} (hI : eI E) (hE : cE E M) (hf : dk_fr cRu M M2) (h7_h : M2.1 0 7 = nI 0) : cE (eU E 80 (nI 0)) M2 := by
  obtain ⟨a1_h, a2_h, a3_h, a4_h, a5_h⟩ := hE
  have he : ∀ j, j ≠ 80 → eU E 80 (nI 0) j = E j := fun j hj => if_neg hj
  have h8_h : eU E 80 (nI 0) 80 = nI 0 := if_pos rfl
  refine ⟨a1_h.fr hI (fun j hj => he j (by omega)) (fun q k z => hf.2 q k (by unfold cRu; omega)), a2_h.fr (fun j hj => he j (by omega)) (fun q k z => hf.2 q k (by unfold cRu; omega)), a3_h.fr (fun j hj => he j (by omega)) (fun q k z => hf.2 q k (by unfold cRu; omega)), a4_h.fr hI (fun j hj => he j (by omega)) (fun q k z => hf.2 q k (by unfold cRu; omega)), by rw [h8_h]; exact h7_h, fun i hi => ?_⟩
  rw [h8_h, tN_nI (by decide)] at hi
  omega
theorem cE_lt {E : sg_E} {M : dk_Mem} (hE : cE E M) (hI : eI E) : cLT (ef_bt E) (tN (E 80)) M := by
  have h80_h := hI.2.2.2.1
  refine ⟨h80_h.2, fun i hi => ?_, fun i => ?_⟩
  · have h8_h := h80_h.2
    have hb := hI.2.2.2.2 i (by omega)
    rw [hE.2.2.2.2.2 i hi]
    unfold ef_bt sbv
    rw [if_pos (by omega), ← hb.1]
  · unfold ef_bt
    split
    · exact (hI.2.2.2.2 i (by assumption)).2
    · omega
theorem cK_ru {K : sg_K} {M M2 : dk_Mem} (hK : cK K M) {γ c C : Nat} {t : py_T} (hγ : dk_bo γ) (h13_h : M2.1 14 13 = nI γ) (hf : dk_fr cRu M M2) (h0_h : M2.1 γ 0 = nI c) (h5_h : M2.1 γ 5 = nI C) (c8_h : c ≤ 8) (hC : C ≤ 200) (hI : cl_I γ M2 t c C) : cK (sg_up K.1 6 c, sg_w t.1 t.2.1 t.2.2 c, K.2.2) M2 := by
  obtain ⟨a1_h, a2_h, a3_h, a4_h, a5_h, a6_h, a7_h, β, a8_h, a9_h, a10_h⟩ := hK
  have o4_h := a1_h.1.2.2.2.1
  have hj : ∀ j, j ≠ 6 → sg_up K.1 6 c j = K.1 j := fun j h => sg_up_n h
  have e : ∀ q k, ¬ cRu q k → M2.1 q k = M.1 q k := fun q k z => hf.2 q k z
  refine ⟨a1_h.u_rul c8_h, ?_, ?_, ⟨fun j k => M2.1 (γ + j) k, γ, cl_cb (hI.A c8_h hC h0_h h5_h), hγ, ⟨rfl, rfl, fun k _ => ⟨rfl, rfl⟩, fun k _ => rfl, fun k _ _ => rfl⟩, h13_h⟩, ?_, ?_, ?_, γ, hγ, h13_h, ?_⟩
  · exact a2_h.same ⟨hj 4 (by omega), hj 0 (by omega), fun i hi => ⟨hj _ (by omega), hj _ (by omega), hj _ (by omega)⟩, fun j g1_h g2_h => hj _ (by omega)⟩ (fun q k _ _ _ _ => e _ _ (by unfold cRu; omega)) (fun q k _ _ => e _ _ (by unfold cRu; omega))
  · exact a3_h.cong (hj 1 (by omega)) (hj 4 (by omega)) (fun i hi => ⟨hj _ (by omega), hj _ (by omega)⟩) (fun k => ⟨e _ _ (by unfold cRu; omega), e _ _ (by unfold cRu; omega)⟩)
  · refine ⟨?_, fun r hr => ?_⟩
    · show _ = nI (sg_up K.1 6 c 5)
      rw [hj 5 (by omega), e 32 0 (by unfold cRu; omega)]; exact a5_h.1
    · have hr5_h : r < K.1 5 := by rw [← hj 5 (by omega)]; exact hr
      show _ = nI (sg_up K.1 6 c (65 + 4 * r)) ∧ _ = nI (sg_up K.1 6 c (66 + 4 * r)) ∧ _ = nI (sg_up K.1 6 c (67 + 4 * r)) ∧ _ = nI (sg_up K.1 6 c (68 + 4 * r))
      rw [hj _ (by omega), hj _ (by omega), hj _ (by omega), hj _ (by omega), e 33 r (by unfold cRu; omega), e 34 r (by unfold cRu; omega), e 35 r (by unfold cRu; omega), e 36 r (by unfold cRu; omega)]
      exact a5_h.2 r hr5_h
  · show M2.1 14 11 = K.2.2.1
    rw [e 14 11 (by unfold cRu; omega)]; exact a6_h
  · show M2.1 14 12 = K.2.2.2
    rw [e 14 12 (by unfold cRu; omega)]; exact a7_h
  · show _ = nI (sg_up K.1 6 c 6)
    rw [sg_up_s]; exact h0_h
theorem cl_I.ext {γ : Nat} {M M2 : dk_Mem} {t : py_T} {c C : Nat} (h : cl_I γ M t c C) (he : ∀ j k, j ≤ 4 → M2.1 (γ + j) k = M.1 (γ + j) k) : cl_I γ M2 t c C := ⟨fun h0_h => (he 3 c (by omega)).trans (h.1 h0_h), fun r hr => by
  obtain ⟨a1_h, a2_h, a3_h, a4_h, a, b, ab, bl, a5_h, a6_h, a7_h⟩ := h.2 r hr
  refine ⟨a1_h, a2_h, (he 1 r (by omega)).trans a3_h, (he 2 r (by omega)).trans a4_h, a, b, ab, bl, (he 3 r (by omega)).trans a5_h, (he 3 (r + 1) (by omega)).trans a6_h, ?_⟩
  rcases a7_h with z | z
  · exact Or.inl z
  · exact Or.inr (z.ext (fun j u v => he 4 j (by omega)))⟩
theorem m100_lt {b : Nat} (h : b ≤ 255) : ¬ (0 : Int32) ≤ -100 - nI b := by
  have q : ∀ b, b < 256 → ¬ (0 : Int32) ≤ -100 - nI b := by decide +kernel
  exact q b (by omega)
theorem tk_b_le (bt : Nat → Nat) (n i : Nat) (hn : n ≤ 200) : tk_b bt n i ≤ 255 := by
  have := (tk_p_le (bt := bt) (n := n) i).2.1
  omega

set_option maxRecDepth 20000 in
theorem c11_ru15b {d : Nat} {M : dk_Mem} {Q : Option Value → dk_Mem → Prop} {x : Int32} (hx : ¬ (0 : Int32) ≤ x) (hq : Q (some (.int x)) (dk_put M 0 7 (nI 0))) {x1_h x2_h : Option Value} : dk_W d mX11_rules 15 [some (.ref 0), x1_h, x2_h] [.int x] M Q := by
  refine w_is1 (n := 16) dX11_rules_15 rfl rfl (by decide) ?_
  refine w_al0 (n := 17) dX11_rules_16 rfl ?_
  refine w_iconst (n := 18) (nI 0) dX11_rules_17 (by decide) rfl ?_
  refine p_I (n := 21) f_X11_67_11 pl_0 dX11_rules_18 rfl ?_
  refine w_il1 (n := 22) dX11_rules_21 rfl ?_
  refine w_if_ge (n := 25) 27 dX11_rules_22 (by decide) rfl (fun z22_h => ?_) (fun z22_h => ?_)
  · skip
    exact absurd z22_h hx
  · skip
    refine w_il1 (n := 26) dX11_rules_25 rfl ?_
    refine w_retI dX11_rules_26 rfl ?_
    exact hq

set_option maxRecDepth 20000 in
theorem C_rules {d : Nat} {M : dk_Mem} {Q : Option Value → dk_Mem → Prop} {K : sg_K} (hK : cK K M) {E : sg_E} (hE : cE E M) (hI : eI E) (hB : cB M) (hq : ∀ M2, cK (ef_rules K E).2.1 M2 → cE (ef_rules K E).2.2 M2 → cB M2 → dk_fr cRu M M2 → Q (some (.int (ef_rules K E).1)) M2) : dk_Call (d + 16) mX11_rules [.ref 0] M Q := by
  have hlt := cE_lt hE hI
  have h200_h := hlt.1
  have h7_h : M.1 0 7 = nI (tN (E 80)) := hE.2.2.2.2.1.trans hI.2.2.2.1.1
  obtain ⟨β, γ, hbg, b1_h, b2_h, b3_h, b4_h, b5_h⟩ := hB
  have hβ : dk_bo β := by unfold dk_bo; omega
  have hγ : dk_bo γ := by unfold dk_bo; omega
  have lu : ∀ {A B : dk_Mem}, dk_fr (cRl γ) A B → dk_fr cRu A B := fun h => h.up (fun q k z => by unfold cRl at z; unfold cRu; omega)
  refine dk_enter [some (.ref 0), none, none] (by decide) (fun _ => rfl) (fun _ => Nat.le_of_ble_eq_true rfl) ?_
  refine w_al0 (n := 1) dX11_rules_0 rfl ?_
  refine g_M (n := 4) f_X11_74_11 pl_0 (dk_ref_i b2_h (by omega)) dX11_rules_1 rfl ?_
  refine w_al0 (n := 5) dX11_rules_4 rfl ?_
  refine g_R (n := 8) f_X11_63_11 pl_0 rf_0_6 dX11_rules_5 rfl ?_
  refine w_al0 (n := 9) dX11_rules_8 rfl ?_
  refine g_I (n := 12) f_X11_67_11 pl_0 dX11_rules_9 rfl ?_
  rw [h7_h]
  refine w_cV2 (n := 15) (bo_is hγ) cl_8 s0_X8_readText k_X11_209 (Nat.le_of_ble_eq_true rfl) dX11_rules_12 rfl (c8_readText (d := d) hγ hlt (R := ef_R E) rfl (fun g0_h M2 C g1_h g2_h g3_h g4_h g5_h g6_h => ?_) (fun g0_h M2 g1_h => ?_))
  · skip
    unfold ef_rules at hq
    rw [if_pos g0_h] at hq
    refine w_is1 (n := 16) dX11_rules_15 rfl rfl (by decide) ?_
    refine w_al0 (n := 17) dX11_rules_16 rfl ?_
    refine w_iconst (n := 18) (nI 0) dX11_rules_17 (by decide) rfl ?_
    refine p_I (n := 21) f_X11_67_11 pl_0 dX11_rules_18 rfl ?_
    have c2_h : (dk_put M2 0 7 (nI 0)).1 0 8 = nI γ := by rw [dk_put_k (by omega), g1_h.2 0 8 (by unfold cRl; omega)]; exact b2_h
    have c1_h : (dk_put M2 0 7 (nI 0)).1 14 13 = nI β := by rw [dk_put_k (by omega), g1_h.2 14 13 (by unfold cRl; omega)]; exact b1_h
    have f3_h : dk_fr cRu M (dk_put M2 0 7 (nI 0)) := (lu g1_h).put (Or.inl ⟨rfl, Or.inl rfl⟩)
    refine w_il1 (n := 22) dX11_rules_21 rfl ?_
    refine w_if_ge (n := 25) 27 dX11_rules_22 (by decide) rfl (fun z22_h => ?_) (fun z22_h => ?_)
    · skip
      refine w_al0 (n := 28) dX11_rules_27 rfl ?_
      refine g_M (n := 31) f_X11_74_11 pl_0 (dk_ref_i c2_h (by omega)) dX11_rules_28 rfl ?_
      refine w_as2 (n := 32) dX11_rules_31 rfl rfl (by decide) ?_
      refine w_al0 (n := 33) dX11_rules_32 rfl ?_
      refine w_al0 (n := 34) dX11_rules_33 rfl ?_
      refine g_R (n := 37) f_X11_36_11 pl_0 rf_0_1 dX11_rules_34 rfl ?_
      refine g_M (n := 40) f_X11_213_10 pl_14 (dk_ref_i c1_h (by omega)) dX11_rules_37 rfl ?_
      refine p_R (n := 43) (by omega) f_X11_74_11 pl_0 dX11_rules_40 rfl ?_
      refine w_al0 (n := 44) dX11_rules_43 rfl ?_
      refine g_R (n := 47) f_X11_36_11 pl_0 rf_0_1 dX11_rules_44 rfl ?_
      refine w_al2 (n := 48) dX11_rules_47 rfl ?_
      refine p_R (n := 51) (by omega) f_X11_213_10 pl_14 dX11_rules_48 rfl ?_
      refine w_il1 (n := 52) dX11_rules_51 rfl ?_
      refine w_retI dX11_rules_52 rfl ?_
      have e2_h : ∀ j k, (dk_put (dk_put (dk_put M2 0 7 (nI 0)) 0 8 (nI β)) 14 13 (nI γ)).1 (γ + j) k = M2.1 (γ + j) k := fun j k => by rw [dk_put_k (by omega), dk_put_k (by omega), dk_put_k (by omega)]
      have f5_h : dk_fr cRu M (dk_put (dk_put (dk_put M2 0 7 (nI 0)) 0 8 (nI β)) 14 13 (nI γ)) := (f3_h.put (Or.inl ⟨rfl, Or.inr rfl⟩)).put (Or.inr (Or.inl ⟨rfl, rfl⟩))
      refine hq _ (cK_ru hK hγ dk_put_s f5_h ((e2_h 0 0).trans g2_h) ((e2_h 0 5).trans g5_h) g3_h g4_h (g6_h.ext (fun j k _ => e2_h j k))) (cE_ru hI hE f5_h (by rw [dk_put_k (by omega), dk_put_k (by omega), dk_put_s])) ⟨γ, β, by omega, dk_put_s, by rw [dk_put_k (by omega), dk_put_s], by rw [f5_h.2 37 13 (by unfold cRu; omega)]; exact b3_h, ?_, by rw [f5_h.2 47 5 (by unfold cRu; omega)]; exact b5_h⟩ f5_h
      have e5_h := (e2_h 0 5).trans g5_h
      rw [show (dk_put (dk_put (dk_put M2 0 7 (nI 0)) 0 8 (nI β)) 14 13 (nI γ)).1 γ 5 = nI C from e5_h]
      exact ⟨by rw [tN_nI (by omega)], by rw [tN_nI (by omega)]; exact g4_h⟩
    · skip
      refine w_il1 (n := 26) dX11_rules_25 rfl ?_
      refine w_retI dX11_rules_26 rfl ?_
      exfalso
      exact z22_h ((q_le (by decide) (by omega)).mpr (Nat.zero_le _))
  · skip
    unfold ef_rules at hq
    rw [if_neg (by rw [g0_h]; decide)] at hq
    have c2_h : (dk_put M2 0 7 (nI 0)).1 0 8 = nI γ := by rw [dk_put_k (by omega), g1_h.2 0 8 (by unfold cRl; omega)]; exact b2_h
    have c1_h : (dk_put M2 0 7 (nI 0)).1 14 13 = nI β := by rw [dk_put_k (by omega), g1_h.2 14 13 (by unfold cRl; omega)]; exact b1_h
    have f3_h : dk_fr cRu M (dk_put M2 0 7 (nI 0)) := (lu g1_h).put (Or.inl ⟨rfl, Or.inl rfl⟩)
    refine c11_ru15b (m100_lt (tk_b_le _ _ _ h200_h)) ?_
    exact hq _ (hK.fr hβ b1_h (((g1_h.up (fun q k z => Or.inl z)) : dk_fr (fun q k => cRl γ q k ∨ (q = 0 ∧ k = 7)) M M2).put (Or.inr ⟨rfl, rfl⟩)) (fun q k z => by unfold cRl at z; omega)) (cE_ru hI hE f3_h dk_put_s) ⟨β, γ, hbg, c1_h, c2_h, by rw [f3_h.2 37 13 (by unfold cRu; omega)]; exact b3_h, by rw [dk_put_k (by omega), g1_h.2 β 5 (by unfold cRl; omega)]; exact b4_h, by rw [f3_h.2 47 5 (by unfold cRu; omega)]; exact b5_h⟩ f3_h
