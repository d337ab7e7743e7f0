/-! ===== prove in the component: its loop ===== -/
def cPr (q k : Nat) : Prop := (91 ≤ q ∧ q ≤ 94) ∨ cX 79 q k
theorem cs.Pr {σ : Nat → Nat} {M M' : dk_Mem} (h : cs σ M) (hf : dk_fr cPr M M') : cs σ M' := h.fr hf (fun q k a b z => by unfold cPr cX at z; omega)
theorem cs.r {σ : Nat → Nat} {M : dk_Mem} (h : cs σ M) {i j : Nat} {x : Int32} (hi : i < 4) : cs σ (dk_put M (91 + i) j x) := h.fr (S := fun q k => 91 ≤ q) (dk_fr.rf.put (by omega)) (fun q k a b z => by omega)
theorem cm.r {σ : Nat → Nat} {M : dk_Mem} (h : cm 79 σ M) {i j : Nat} {x : Int32} (hi : i < 4) : cm 79 σ (dk_put M (91 + i) j x) := h.fr (S := fun q k => 91 ≤ q) (dk_fr.rf.put (by omega)) (fun q k a z => by omega)
theorem cbb.r {w : sg_R} {M : dk_Mem} (h : cbb w M) {i j : Nat} {x : Int32} (hi : i < 4) : cbb w (dk_put M (91 + i) j x) := by
  obtain ⟨g, β, h1_h, h2_h, h3_h, h4_h⟩ := h
  exact ⟨g, β, h1_h, h2_h, h3_h.fr (S := fun q k => 91 ≤ q) (dk_fr.rf.put (by omega)) (fun q k a b z => by unfold dk_bo at h2_h; omega), by rw [dk_put_k (by omega)]; exact h4_h⟩

set_option maxRecDepth 20000 in
theorem c_pvL {d : Nat} {M : dk_Mem} {Q : Option Value → dk_Mem → Prop} {w : sg_R} {c m P : Nat} {n0_h : Int32} (hm : m ≤ 4) (hc6_h : c ≤ 6) {T0 : sg_E} (h63_h : ∀ i, i < m → M.1 63 i = nI (pl_d (c + 1) m P i)) (h10_h : M.1 0 10 = nI m) (hq : ∀ M1, dk_fr cPr M M1 → (∀ j, j < m → ∀ u, u < 3 → M1.1 (91 + j) u = T0 (1 + (3 * j + u))) → Q (some (.int (nI m))) M1) : ∀ (n k : Nat) (σ : Nat → Nat) (E : sg_E) (x3_h : Option Value) (M1 : dk_Mem), k ≤ m → m - k < n → sg_ok σ → σ 4 = c → m - k ≤ σ 0 - σ 1 → cs σ M1 → cm 79 σ M1 → cbb w M1 → dk_fr cPr M M1 → (∀ j, j < k → ∀ u, u < 3 → M1.1 (91 + j) u = E (1 + (3 * j + u))) → ePv w (c + 1) m P c (m - k) k σ E = T0 → dk_W (d + 8) mX11_prove 53 [some (.ref 0), some (.int n0_h), some (.int (nI k)), x3_h] [] M1 Q := by
  have hm9_h : dk_mo 79 := cK.m9
  intro n
  induction n with
  | zero => intro k _ _ _ _ _ h; omega
  | succ n ih =>
    intro k σ E x3_h M1 hk hn o hs4_h hyr hs hcm hb hf hrow he
    have o16_h := o.2.1
    have e10_h : M1.1 0 10 = nI m := (hf.2 0 10 (by unfold cPr cX; omega)).trans h10_h
    refine w_il2 (n := 54) dX11_prove_53 rfl ?_
    refine w_al0 (n := 55) dX11_prove_54 rfl ?_
    refine g_I (n := 58) f_X11_83_11 pl_0 dX11_prove_55 rfl ?_
    rw [e10_h]
    refine w_ic_ge (n := 61) 123 dX11_prove_58 (by decide) rfl (fun z58_h => ?_) (fun z58_h => ?_)
    · skip
      refine w_al0 (n := 124) dX11_prove_123 rfl ?_
      refine g_I (n := 127) f_X11_83_11 pl_0 dX11_prove_124 rfl ?_
      rw [e10_h]
      refine w_retI dX11_prove_127 rfl ?_
      rw [q_le (by omega) (by omega)] at z58_h
      rw [show m - k = 0 by omega] at he
      have e9_h : E = T0 := he
      have ek : k = m := by omega
      subst ek
      rw [e9_h] at hrow
      exact hq M1 hf hrow
    · skip
      have hkm : k < m := by rw [q_le (by omega) (by omega)] at z58_h; omega
      have sl := sl_ar k (by omega)
      have dl := pl_d_le (m := m) (P := P) (i := k) (show 0 < c + 1 by omega)
      have hlt := sg_ot_lt dl
      have en := sg_ot_act (pl_d (c + 1) m P k)
      refine w_al0 (n := 62) dX11_prove_61 rfl ?_
      refine g_R (n := 65) f_X11_52_11 pl_0 rf_0_4 dX11_prove_62 rfl ?_
      refine g_R (n := 68) f_X11_260_6 pl_60 rf_60_2 dX11_prove_65 rfl ?_
      refine w_iconst (n := 69) (nI 0) dX11_prove_68 (by decide) rfl ?_
      refine i_aaldI (n := 70) pl_62 (j := 0) rfl (by decide) (by decide) rf_62_0 dX11_prove_69 rfl ?_
      refine w_il2 (n := 71) dX11_prove_70 rfl ?_
      refine i_iald (n := 72) pl_63 (j := k) rfl (by omega) (by decide) ((hf.2 63 k (by unfold cPr cX; omega)).trans (h63_h k hkm)) dX11_prove_71 rfl ?_
      refine w_is3 (n := 73) dX11_prove_72 rfl rfl (by decide) ?_
      refine w_al0 (n := 74) dX11_prove_73 rfl ?_
      refine g_R (n := 77) f_X11_80_11 pl_0 rf_0_9 dX11_prove_74 rfl ?_
      refine w_il2 (n := 78) dX11_prove_77 rfl ?_
      refine i_aaldI (n := 79) pl_90 (j := k) rfl (by omega) (by decide) sl.2.2.2 dX11_prove_78 rfl ?_
      refine w_iconst (n := 80) (nI 0) dX11_prove_79 (by decide) rfl ?_
      refine w_il3 (n := 81) dX11_prove_80 rfl ?_
      refine i_iast (n := 82) sl.2.1 (j := 0) rfl (by decide) (by decide) dX11_prove_81 rfl ?_
      refine w_al0 (n := 83) dX11_prove_82 rfl ?_
      refine g_R (n := 86) f_X11_80_11 pl_0 rf_0_9 dX11_prove_83 rfl ?_
      refine w_il2 (n := 87) dX11_prove_86 rfl ?_
      refine i_aaldI (n := 88) pl_90 (j := k) rfl (by omega) (by decide) sl.2.2.2 dX11_prove_87 rfl ?_
      refine w_iconst (n := 89) (nI 1) dX11_prove_88 (by decide) rfl ?_
      refine w_al0 (n := 90) dX11_prove_89 rfl ?_
      refine g_R (n := 93) f_X11_36_11 pl_0 rf_0_1 dX11_prove_90 rfl ?_
      refine w_al0 (n := 94) dX11_prove_93 rfl ?_
      refine g_R (n := 97) f_X11_59_11 pl_0 rf_0_5 dX11_prove_94 rfl ?_
      refine w_il3 (n := 98) dX11_prove_97 rfl ?_
      rw [← en]
      generalize hgt : sg_ot (pl_d (c + 1) m P k) = t at *
      refine w_cV2 (n := 101) pl_14 cl_10 s0_X10_passYear k_X11_241 (Nat.le_of_ble_eq_true rfl) dX11_prove_98 rfl (c10_py (hs.r (by omega)) o hm9_h (hcm.r (by omega)) (fun h e => by have := hlt h e; omega) (hb.r (by omega)) (fun M3 g1_h g2_h => ?_))
      have o2_h := o.goes (w := w) (t := t) (fun h e => by have := hlt h e; omega) (by omega)
      have e4_h : (sg_goes w σ t).1 4 = c := (sg_goes_o (by omega) (by omega)).trans hs4_h
      refine i_iast (n := 102) sl.2.1 (j := 1) rfl (by decide) (by decide) dX11_prove_101 rfl ?_
      refine w_al0 (n := 103) dX11_prove_102 rfl ?_
      refine g_R (n := 106) f_X11_80_11 pl_0 rf_0_9 dX11_prove_103 rfl ?_
      refine w_il2 (n := 107) dX11_prove_106 rfl ?_
      refine i_aaldI (n := 108) pl_90 (j := k) rfl (by omega) (by decide) sl.2.2.2 dX11_prove_107 rfl ?_
      refine w_iconst (n := 109) (nI 2) dX11_prove_108 (by decide) rfl ?_
      refine w_al0 (n := 110) dX11_prove_109 rfl ?_
      refine g_R (n := 113) f_X11_59_11 pl_0 rf_0_5 dX11_prove_110 rfl ?_
      refine g_I (n := 116) f_X11_191_4 pl_79 dX11_prove_113 rfl ?_
      rw [dk_put_k (by omega), g1_h.2.1, e4_h]
      refine i_iast (n := 117) sl.2.1 (j := 2) rfl (by decide) (by decide) dX11_prove_116 rfl ?_
      refine w_inc2 (n := 120) (nI 1) dX11_prove_117 (by decide) rfl rfl (by decide) ?_
      refine w_goto 53 dX11_prove_120 (by decide) ?_
      have em : m - k = (m - (k + 1)) + 1 := by omega
      rw [em, ePv_s hgt] at he
      rw [nI_add]
      have f3_h : dk_fr cPr M M3 := (hf.put (Or.inl ⟨by omega, by omega⟩)).tr (g2_h.up (fun q k z => Or.inr z))
      have f5_h := (f3_h.put (x := nI (sg_goes w σ t).2) (show cPr (91 + k) 1 from Or.inl ⟨by omega, by omega⟩)).put (x := nI (sg_set (sg_goes w σ t).1 c)) (show cPr (91 + k) 2 from Or.inl ⟨by omega, by omega⟩)
      have hsz : cs (sg_goes w σ t).1 M3 := ((hs.r (by omega)).X hm9_h g2_h).eqv sg_eqv.goes
      have hbz := (hb.r (i := k) (j := 0) (x := nI (sg_act t)) (by omega)).X hm9_h g2_h
      refine ih (k + 1) _ _ _ _ (by omega) (by omega) o2_h e4_h (by rw [sg_goes_1, sg_goes_o (by omega) (by omega)]; omega) ((hsz.r (by omega)).r (by omega)) ((g1_h.r (by omega)).r (by omega)) ((hbz.r (by omega)).r (by omega)) f5_h (fun j hj u hu => ?_) he
      have q3_h : ∀ j u, M3.1 (91 + j) u = (dk_put M1 (91 + k) 0 (nI (sg_act t))).1 (91 + j) u := fun j u => g2_h.2 _ _ (by unfold cX; omega)
      by_cases ej : j = k
      · subst ej
        rcases (show u = 0 ∨ u = 1 ∨ u = 2 by omega) with rfl | rfl | rfl
        · rw [dk_put_k (by omega), dk_put_k (by omega), q3_h, dk_put_s, eU_n (by omega), eU_n (by omega), show 3 * j + 0 = 3 * j from rfl, eU_s, en]
        · rw [dk_put_k (by omega), dk_put_s, eU_n (by omega), eU_s]
        · rw [dk_put_s, eU_s]
      · rw [dk_put_k (by omega), dk_put_k (by omega), q3_h, dk_put_k (by omega), eU_n (by omega), eU_n (by omega), eU_n (by omega)]
        exact hrow j (by omega) u hu

theorem ePv_o {w : sg_R} {b m P c j : Nat} (hj : 20 ≤ j) : ∀ (n k : Nat) (σ : Nat → Nat) (E : sg_E), n + k ≤ 4 → ePv w b m P c n k σ E j = E j
  | 0, _, _, _, _ => rfl
  | n + 1, k, σ, E, h => by rw [ePv, ePv_o hj n (k + 1) _ _ (by omega), eU_n (by omega), eU_n (by omega), eU_n (by omega)]
def cPv (q k : Nat) : Prop := cN q k ∨ (91 ≤ q ∧ q ≤ 94) ∨ (q = 0 ∧ k = 10)
theorem cE.pv {E T0 : sg_E} {M M' : dk_Mem} (hI : eI E) (h : cE E M) {m : Nat} (hm : m ≤ 4) (he : ∀ j, 20 ≤ j → T0 j = E j) (h10_h : M'.1 0 10 = nI m) (hr : ∀ j, j < m → ∀ u, u < 3 → M'.1 (91 + j) u = T0 (1 + (3 * j + u))) (hf : dk_fr cPv M M') : cE (eU T0 0 (nI m)) M' := by
  have e2_h : ∀ j, 20 ≤ j → eU T0 0 (nI m) j = E j := fun j hj => by rw [eU_n (by omega)]; exact he j hj
  have em : ∀ q k, ¬ cPv q k → M'.1 q k = M.1 q k := hf.2
  refine ⟨⟨by rw [eU_s]; exact h10_h, fun k hk u hu => ?_⟩, h.2.1.fr (fun j hj => e2_h j (by omega)) (fun q k z => em q k (by unfold cPv cN; omega)), h.2.2.1.fr (fun j hj => e2_h j (by omega)) (fun q k z => em q k (by unfold cPv cN; omega)), h.2.2.2.1.fr hI (fun j hj => e2_h j (by omega)) (fun q k z => em q k (by unfold cPv cN; omega)), h.2.2.2.2.fr hI (fun j hj => e2_h j (by omega)) (fun q k z => em q k (by unfold cPv cN; omega))⟩
  rw [eU_s, tN_nI (by omega)] at hk
  rw [eU_n (by omega)]
  exact hr k hk u hu

set_option maxRecDepth 20000 in
theorem C_prove {d : Nat} {M : dk_Mem} {Q : Option Value → dk_Mem → Prop} {K : sg_K} (hK : cK K M) {E : sg_E} (hE : cE E M) (hI : eI E) {n : Int32} (hq : ∀ M2, cK K M2 → cE (ef_prove K E n).2 M2 → dk_fr cPv M M2 → Q (some (.int (ef_prove K E n).1)) M2) : dk_Call (d + 14) mX11_prove [.ref 0, .int n] M Q := by
  have hK0 := hK
  obtain ⟨⟨o, p1_h, p2_h, p3_h⟩, hs, hc, hb, hcr, hsc, hz, β, hβ, hβ1, hβ2⟩ := hK0
  have o4_h := o.2.2.2.1
  have o16_h := o.2.1
  have hm : dk_mo 22 := Or.inl rfl
  have hm9_h : dk_mo 79 := cK.m9
  refine dk_enter [some (.ref 0), some (.int n), none, none] (by decide) (fun _ => rfl) (fun _ => Nat.le_of_ble_eq_true rfl) ?_
  refine w_il1 (n := 1) dX11_prove_0 rfl ?_
  refine w_iconst (n := 2) (nI 0) dX11_prove_1 (by decide) rfl ?_
  refine w_iconst (n := 3) (nI 4) dX11_prove_2 (by decide) rfl ?_
  refine w_cS3 (n := 6) s0_X11_within k_X11_112 (Nat.le_of_ble_eq_true rfl) dX11_prove_3 rfl (c_within (fun t3_h => ?_) (fun t3_h => ?_))
  · skip
    refine w_if_ne (n := 9) 11 dX11_prove_6 (by decide) rfl (fun _ => ?_) (fun h => absurd h (by decide))
    have hn := tN_of (n := 4) (by decide) t3_h.1 t3_h.2
    have yl := sg_ys_le (σ := K.1) (n := tN n)
    have e9_h : ef_prove K E n = (nI (sg_ys K.1 (tN n)), eU (ePv K.2.1 (K.1 4 + 1) (sg_ys K.1 (tN n)) (sg_fb K (tN n)).2.1 (K.1 4) (sg_ys K.1 (tN n)) 0 K.1 E) 0 (nI (sg_ys K.1 (tN n)))) := if_pos t3_h
    have en := hn.1
    have ln := hn.2
    clear hn
    generalize tN n = n9_h at *
    subst en
    refine w_al0 (n := 12) dX11_prove_11 rfl ?_
    refine g_R (n := 15) f_X11_52_11 pl_0 rf_0_4 dX11_prove_12 rfl ?_
    refine w_cV0 (n := 18) pl_60 cl_6 s0_X6_start k_X11_251 (Nat.le_of_ble_eq_true rfl) dX11_prove_15 rfl (c6_start hs o hm hc (fun M2 k1_h k2_h => ?_))
    have f0_h : dk_fr cN M M2 := k2_h.up (fun q k z => by unfold cN; omega)
    have hs0_h : cs K.1 M2 := hs.fr f0_h (fun q k _ _ z => by unfold cN at z; omega)
    have hb0_h : cbb K.2.1 M2 := hb.fr f0_h (fun q k z => Or.inr (Or.inr z))
    refine w_al0 (n := 19) dX11_prove_18 rfl ?_
    refine g_R (n := 22) f_X11_52_11 pl_0 rf_0_4 dX11_prove_19 rfl ?_
    refine w_iconst (n := 23) (nI 0) dX11_prove_22 (by decide) rfl ?_
    refine w_il1 (n := 24) dX11_prove_23 rfl ?_
    refine w_cV2 (n := 27) pl_60 cl_6 s0_X6_bestFrom k_X11_254 (Nat.le_of_ble_eq_true rfl) dX11_prove_24 rfl (c6_b0 ln d K.1 M2 _ o hs0_h k1_h hb0_h (fun M3 b1_h b2_h b3_h => ?_))
    rw [Nat.sub_zero, ← sg_fb_tb] at b2_h b3_h
    have f9_h := f0_h.tr (cBP_N b1_h)
    have hK3 := hK.N f9_h
    refine w_pop (n := 28) rfl dX11_prove_27 rfl ?_
    refine w_al0 (n := 29) dX11_prove_28 rfl ?_
    refine w_al0 (n := 30) dX11_prove_29 rfl ?_
    refine w_il1 (n := 31) dX11_prove_30 rfl ?_
    refine w_cV1 (n := 34) pl_0 cl_11 s0_X11_planLength k_X11_257 (Nat.le_of_ble_eq_true rfl) dX11_prove_31 rfl (c_planLen hK3.2.1 hK3.1 hK3.2.2.1 ln ?_)
    refine p_I (n := 37) f_X11_83_11 pl_0 dX11_prove_34 rfl ?_
    refine w_al0 (n := 38) dX11_prove_37 rfl ?_
    refine g_R (n := 41) f_X11_59_11 pl_0 rf_0_5 dX11_prove_38 rfl ?_
    refine w_al0 (n := 42) dX11_prove_41 rfl ?_
    refine g_R (n := 45) f_X11_36_11 pl_0 rf_0_1 dX11_prove_42 rfl ?_
    refine g_R (n := 48) f_X11_127_10 pl_14 rf_14_9 dX11_prove_45 rfl ?_
    have hc4_h : cm 22 K.1 (dk_put M3 0 10 (nI (sg_ys K.1 n9_h))) := hK3.2.2.1.fr (S := fun q k => q = 0) (dk_fr.rf.put rfl) (fun q k h z => by omega)
    refine w_cV1 (n := 51) pl_79 cl_4 s0_X4_take k_X11_233 (Nat.le_of_ble_eq_true rfl) dX11_prove_48 rfl (c4_take hm9_h hm (by decide) hc4_h o4_h (fun M5 k3_h k4_h => ?_))
    refine w_iconst (n := 52) (nI 0) dX11_prove_51 (by decide) rfl ?_
    refine w_is2 (n := 53) dX11_prove_52 rfl rfl (by decide) ?_
    have f35_h : dk_fr cPv M3 M5 := (dk_fr.rf.put (S := cPv) (by unfold cPv; omega)).tr (k4_h.up (fun q k z => by unfold cPv cN; omega))
    have fM5 : dk_fr cPv M M5 := (f9_h.up (fun q k z => Or.inl z)).tr f35_h
    have hs5_h : cs K.1 M5 := hK3.2.1.fr f35_h (fun q k a b z => by unfold cPv cN at z; omega)
    have hb5_h : cbb K.2.1 M5 := by
      obtain ⟨g, γ, u1_h, u2_h, u3_h, u4_h⟩ := hK3.2.2.2.1
      exact ⟨g, γ, u1_h, u2_h, u3_h.fr f35_h (fun q k a b z => by unfold cPv cN at z; unfold dk_bo at u2_h; omega), by rw [f35_h.2 14 13 (by unfold cPv cN; omega)]; exact u4_h⟩
    have m10_h : M5.1 0 10 = nI (sg_ys K.1 n9_h) := by rw [k4_h.2 _ _ (by omega), dk_put_s]
    have m63_h : ∀ i, i < sg_ys K.1 n9_h → M5.1 63 i = nI (pl_d (K.1 4 + 1) (sg_ys K.1 n9_h) (sg_fb K n9_h).2.1 i) := fun i hi => by rw [k4_h.2 _ _ (by omega), dk_put_k (by omega)]; exact (congrArg (fun y => M3.1 63 y) (Nat.zero_add i).symm).trans (b3_h i hi)
    refine c_pvL (w := K.2.1) (by omega) o4_h (T0 := ePv K.2.1 (K.1 4 + 1) (sg_ys K.1 n9_h) (sg_fb K n9_h).2.1 (K.1 4) (sg_ys K.1 n9_h) 0 K.1 E) m63_h m10_h (fun M1 g1_h g2_h => ?_) (sg_ys K.1 n9_h + 1) 0 K.1 E _ M5 (by omega) (by omega) o rfl (by omega) hs5_h k3_h hb5_h dk_fr.rf (fun j hj => by omega) rfl
    have fT : dk_fr cPv M M1 := fM5.tr (g1_h.up (fun q k z => by unfold cPr cX at z; unfold cPv cN; omega))
    have hq2_h := hq M1 (hK.fr hβ hβ1 fT (fun q k z => by unfold cPv cN at z; unfold dk_bo at hβ; omega)) (by rw [e9_h]; exact hE.pv hI (by omega) (fun j hj => ePv_o hj _ _ _ _ (by omega)) ((g1_h.2 0 10 (by unfold cPr cX; omega)).trans m10_h) g2_h fT) fT
    rw [e9_h] at hq2_h
    exact hq2_h
  · skip
    refine w_if_ne (n := 9) 11 dX11_prove_6 (by decide) rfl (fun h => absurd h (by decide)) (fun _ => ?_)
    refine w_iconst (n := 10) (-1) dX11_prove_9 (by decide) rfl ?_
    refine w_retI dX11_prove_10 rfl ?_
    have hq2_h := hq M hK (by rw [show ef_prove K E n = (-1, E) from if_neg t3_h]; exact hE) dk_fr.rf
    rw [show ef_prove K E n = (-1, E) from if_neg t3_h] at hq2_h
    exact hq2_h
