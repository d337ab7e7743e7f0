theorem cs.same {σ σ' : Nat → Nat} {M M' : dk_Mem} (h : cs σ M) (e : sg_eqv σ σ') (hM : ∀ q k, 14 ≤ q → q < 22 → q = 14 → (k = 1 ∨ k = 10) → M'.1 q k = M.1 q k) (hM2 : ∀ q k, 15 ≤ q → q < 22 → M'.1 q k = M.1 q k) : cs σ' M' := by
  obtain ⟨d1, d2, d3, d4, d5⟩ := h.eqv e
  refine ⟨by rw [hM _ _ (by omega) (by omega) rfl (by omega)]; exact d1, by rw [hM _ _ (by omega) (by omega) rfl (by omega)]; exact d2, fun i hi => ?_, fun y hy => by rw [hM2 _ _ (by omega) (by omega)]; exact d4 y hy, fun j hj => ?_⟩
  · rw [hM2 _ _ (by omega) (by omega), hM2 _ _ (by omega) (by omega), hM2 _ _ (by omega) (by omega), hM2 _ _ (by omega) (by omega)]; exact d3 i hi
  · rw [hM2 _ _ (by omega) (by omega), hM2 _ _ (by omega) (by omega)]; exact d5 j hj
def cRp (q k : Nat) : Prop := 32 ≤ q ∧ q ≤ 36
theorem cRp_A {M M' : dk_Mem} (h : dk_fr cRp M M') : dk_fr cA M M' := h.up (fun q k z => Or.inr (Or.inl z))
theorem cK.rp {K : sg_K} {M M' : dk_Mem} {σ' : Nat → Nat} (h : cK K M) (hi : sg_in σ') (hr : cr σ' M') (hf : dk_fr cRp M M') (hj : ∀ j, j < 65 → j ≠ 5 → σ' j = K.1 j) : cK (σ', K.2) M' := by
  obtain ⟨a1, a2, a3, a4, a5, a6, a7, β, a8, a9, a10⟩ := h
  have o4 := a1.1.2.2.2.1
  have e : ∀ q k, ¬ cRp q k → M'.1 q k = M.1 q k := fun q k z => hf.2 q k z
  refine ⟨hi, ?_, a3.cong (hj 1 (by omega) (by omega)) (hj 4 (by omega) (by omega)) (fun i hi => ⟨hj _ (by omega) (by omega), hj _ (by omega) (by omega)⟩) (fun k => ⟨e _ _ (by unfold cRp; omega), e _ _ (by unfold cRp; omega)⟩), a4.fr hf (fun q k z => Or.inr (Or.inl z)), hr, ?_, ?_, β, a8, ?_, ?_⟩
  · refine (a2.fr hf (fun q k x y z => by unfold cRp at z; omega)).eqv ⟨hj 4 (by omega) (by omega), hj 0 (by omega) (by omega), fun i hi => ⟨hj _ (by omega) (by omega), hj _ (by omega) (by omega), hj _ (by omega) (by omega)⟩, fun j g1 g2 => hj _ (by omega) (by omega)⟩
  · rw [e 14 11 (by unfold cRp; omega)]; exact a6
  · rw [e 14 12 (by unfold cRp; omega)]; exact a7
  · rw [e 14 13 (by unfold cRp; omega)]; exact a9
  · rw [e β 0 (by unfold cRp dk_bo at *; omega)]
    show _ = nI (σ' 6)
    rw [hj 6 (by omega) (by omega)]; exact a10
theorem cK.zz {K : sg_K} {M : dk_Mem} (h : cK K M) {v : Int32} : cK (K.1, K.2.1, K.2.2.1, v) (dk_put M 14 12 v) := by
  obtain ⟨a1, a2, a3, a4, a5, a6, a7, β, a8, a9, a10⟩ := h
  have hf : dk_fr (fun q k => q = 14 ∧ k = 12) M (dk_put M 14 12 v) := dk_fr.rf.put ⟨rfl, rfl⟩
  have e : ∀ q k, ¬ (q = 14 ∧ k = 12) → (dk_put M 14 12 v).1 q k = M.1 q k := fun q k z => hf.2 q k z
  refine ⟨a1, a2.same sg_eqv.rf (fun q k _ _ _ _ => e _ _ (by omega)) (fun q k _ _ => e _ _ (by omega)), a3.fr hf (fun q k x z => by omega), a4.fr hf (fun q k z => by unfold cA; omega), a5.fr hf (fun q k x y _ z => by omega), ?_, dk_put_s, β, a8, ?_, ?_⟩
  · rw [e 14 11 (by omega)]; exact a6
  · rw [e 14 13 (by omega)]; exact a9
  · rw [e β 0 (by unfold dk_bo at a8; omega)]; exact a10
def cd_rep (M : dk_Mem) (r k a l m : Nat) : dk_Mem := dk_put (dk_put (dk_put (dk_put (dk_put M 33 r (nI k)) 34 r (nI a)) 35 r (nI l)) 36 r (nI m)) 32 0 (nI (r + 1))
theorem cd_rep_fr {M : dk_Mem} {r k a l m : Nat} : dk_fr cRp M (cd_rep M r k a l m) := ((((dk_fr.rf.put (by unfold cRp; omega)).put (by unfold cRp; omega)).put (by unfold cRp; omega)).put (by unfold cRp; omega)).put (by unfold cRp; omega)
theorem sg_rep_o {σ : Nat → Nat} {k a l m j : Nat} (h5 : j ≠ 5) (h : j < 65 + 4 * σ 5 ∨ 69 + 4 * σ 5 ≤ j) : sg_rep σ k a l m j = σ j := by
  unfold sg_rep
  rw [sg_up_n (by omega), sg_up_n (by omega), sg_up_n (by omega), sg_up_n (by omega), sg_up_n (by omega)]
theorem cr.add {σ : Nat → Nat} {M : dk_Mem} (h : cr σ M) {k a l m : Nat} : cr (sg_rep σ k a l m) (cd_rep M (σ 5) k a l m) := by
  have e5 : sg_rep σ k a l m 5 = σ 5 + 1 := by unfold sg_rep; rw [sg_up_n (by omega), sg_up_n (by omega), sg_up_n (by omega), sg_up_n (by omega), sg_up_s]
  refine ⟨by rw [e5]; unfold cd_rep; rw [dk_put_s], fun r hr => ?_⟩
  rw [e5] at hr
  by_cases e : r = σ 5
  · subst e
    unfold cd_rep sg_rep
    refine ⟨?_, ?_, ?_, ?_⟩
    · rw [dk_put_k (by omega), dk_put_k (by omega), dk_put_k (by omega), dk_put_k (by omega), dk_put_s, sg_up_n (by omega), sg_up_n (by omega), sg_up_n (by omega), sg_up_s]
    · rw [dk_put_k (by omega), dk_put_k (by omega), dk_put_k (by omega), dk_put_s, sg_up_n (by omega), sg_up_n (by omega), sg_up_s]
    · rw [dk_put_k (by omega), dk_put_k (by omega), dk_put_s, sg_up_n (by omega), sg_up_s]
    · rw [dk_put_k (by omega), dk_put_s, sg_up_s]
  · rw [sg_rep_o (by omega) (by omega), sg_rep_o (by omega) (by omega), sg_rep_o (by omega) (by omega), sg_rep_o (by omega) (by omega)]
    have ek : ∀ q, 33 ≤ q → (cd_rep M (σ 5) k a l m).1 q r = M.1 q r := fun q hq => by
      unfold cd_rep
      rw [dk_put_k (by omega), dk_put_k (by omega), dk_put_k (by omega), dk_put_k (by omega), dk_put_k (by omega)]
    rw [ek _ (by omega), ek _ (by omega), ek _ (by omega), ek _ (by omega)]
    exact h.2 r (by omega)

set_option maxRecDepth 20000 in
theorem c7_add {d : Nat} {M : dk_Mem} {Q : Option Value → dk_Mem → Prop} {r k a l m : Nat} (hr : r < 6) (h1 : M.1 32 0 = nI r) (hq : Q (some (.int (nI r))) (cd_rep M r k a l m)) : dk_Call (d + 1) mX7_add [.ref 32, .int (nI k), .int (nI a), .int (nI l), .int (nI m)] M Q := by
  refine dk_enter [some (.ref 32), some (.int (nI k)), some (.int (nI a)), some (.int (nI l)), some (.int (nI m)), none] (by decide) (fun _ => rfl) (fun _ => Nat.le_of_ble_eq_true rfl) ?_
  refine w_al0 (n := 1) dX7_add_0 rfl ?_
  refine g_I (n := 4) f_X7_9_7 pl_32 dX7_add_1 rfl ?_
  rw [h1]
  refine w_is5 (n := 6) dX7_add_4 rfl rfl (by decide) ?_
  refine w_al0 (n := 7) dX7_add_6 rfl ?_
  refine g_R (n := 10) f_X7_15_7 pl_32 rf_32_1 dX7_add_7 rfl ?_
  refine w_il5 (n := 12) dX7_add_10 rfl ?_
  refine w_il1 (n := 13) dX7_add_12 rfl ?_
  refine i_iast (n := 14) pl_33 (j := r) rfl hr (by decide) dX7_add_13 rfl ?_
  refine w_al0 (n := 15) dX7_add_14 rfl ?_
  refine g_R (n := 18) f_X7_19_7 pl_32 rf_32_2 dX7_add_15 rfl ?_
  refine w_il5 (n := 20) dX7_add_18 rfl ?_
  refine w_il2 (n := 21) dX7_add_20 rfl ?_
  refine i_iast (n := 22) pl_34 (j := r) rfl hr (by decide) dX7_add_21 rfl ?_
  refine w_al0 (n := 23) dX7_add_22 rfl ?_
  refine g_R (n := 26) f_X7_22_7 pl_32 rf_32_3 dX7_add_23 rfl ?_
  refine w_il5 (n := 28) dX7_add_26 rfl ?_
  refine w_il3 (n := 29) dX7_add_28 rfl ?_
  refine i_iast (n := 30) pl_35 (j := r) rfl hr (by decide) dX7_add_29 rfl ?_
  refine w_al0 (n := 31) dX7_add_30 rfl ?_
  refine g_R (n := 34) f_X7_25_7 pl_32 rf_32_4 dX7_add_31 rfl ?_
  refine w_il5 (n := 36) dX7_add_34 rfl ?_
  refine w_il4 (n := 38) dX7_add_36 rfl ?_
  refine i_iast (n := 39) pl_36 (j := r) rfl hr (by decide) dX7_add_38 rfl ?_
  refine w_al0 (n := 40) dX7_add_39 rfl ?_
  refine w_dup (n := 41) rfl dX7_add_40 rfl ?_
  refine g_I (n := 44) f_X7_9_7 pl_32 dX7_add_41 rfl ?_
  refine w_iconst (n := 45) (nI 1) dX7_add_44 (by decide) rfl ?_
  rw [dk_put_k (by omega), dk_put_k (by omega), dk_put_k (by omega), dk_put_k (by omega), h1]
  refine w_iadd (n := 46) dX7_add_45 rfl ?_
  rw [nI_add]
  refine p_I (n := 49) f_X7_9_7 pl_32 dX7_add_46 rfl ?_
  refine w_il5 (n := 51) dX7_add_49 rfl ?_
  refine w_retI dX7_add_51 rfl ?_
  exact hq

set_option maxRecDepth 20000 in
theorem C_report {d : Nat} {M : dk_Mem} {Q : Option Value → dk_Mem → Prop} {K : sg_K} (hK : cK K M) {k a l m : Int32} (hq : ∀ M2, cK (kf_report K k a l m).2 M2 → dk_fr cA M M2 → Q (some (.int (kf_report K k a l m).1)) M2) : dk_Call (d + 3) mX11_report [.ref 0, .int k, .int a, .int l, .int m] M Q := by
  have hK0 := hK
  obtain ⟨⟨o, p1, p2, p3⟩, hs, hc, hb, hcr, hsc, hz, β, hβ, hβ1, hβ2⟩ := hK0
  have o4 := o.2.2.2.1
  have o16 := o.2.1
  have hm : dk_mo 22 := Or.inl rfl
  have hm9 : dk_mo 79 := Or.inr (Or.inr (Or.inr (Or.inr (Or.inr (Or.inr (Or.inr rfl))))))
  refine dk_enter [some (.ref 0), some (.int k), some (.int a), some (.int l), some (.int m), none] (by decide) (fun _ => rfl) (fun _ => Nat.le_of_ble_eq_true rfl) ?_
  refine w_il1 (n := 1) dX11_report_0 rfl ?_
  refine w_iconst (n := 2) (nI 0) dX11_report_1 (by decide) rfl ?_
  refine w_bipush (n := 4) (nI 15) dX11_report_2 (by decide) rfl ?_
  refine w_cS3 (n := 7) s0_X11_within k_X11_112 (Nat.le_of_ble_eq_true rfl) dX11_report_4 rfl (c_within (fun t4 => ?_) (fun t4 => ?_))
  · skip
    refine w_if_eq (n := 10) 19 dX11_report_7 (by decide) rfl (fun h => absurd h (by decide)) (fun _ => ?_)
    refine w_il2 (n := 11) dX11_report_10 rfl ?_
    refine w_iconst (n := 12) (nI 0) dX11_report_11 (by decide) rfl ?_
    refine w_iconst (n := 13) (nI 1) dX11_report_12 (by decide) rfl ?_
    refine w_cS3 (n := 16) s0_X11_within k_X11_112 (Nat.le_of_ble_eq_true rfl) dX11_report_13 rfl (c_within (fun t13 => ?_) (fun t13 => ?_))
    · skip
      refine w_if_ne (n := 19) 21 dX11_report_16 (by decide) rfl (fun _ => ?_) (fun h => absurd h (by decide))
      refine w_il2 (n := 22) dX11_report_21 rfl ?_
      refine w_if_ne (n := 25) 30 dX11_report_22 (by decide) rfl (fun z22 => ?_) (fun z22 => ?_)
      · skip
        refine w_bipush (n := 32) (nI 16) dX11_report_30 (by decide) rfl ?_
        refine w_is5 (n := 34) dX11_report_32 rfl rfl (by decide) ?_
        first | (have e9 : a = nI 0 := z22; have et : sg_top a = nI 99 := if_pos e9; rw [← et]) | (have et : sg_top a = nI 16 := if_neg z22; rw [← et])
        refine w_il3 (n := 35) dX11_report_34 rfl ?_
        refine w_iconst (n := 36) (nI 0) dX11_report_35 (by decide) rfl ?_
        refine w_il5 (n := 38) dX11_report_36 rfl ?_
        refine w_cS3 (n := 41) s0_X11_within k_X11_112 (Nat.le_of_ble_eq_true rfl) dX11_report_38 rfl (c_within (fun t38 => ?_) (fun t38 => ?_))
        · skip
          refine w_if_eq (n := 44) 55 dX11_report_41 (by decide) rfl (fun h => absurd h (by decide)) (fun _ => ?_)
          refine w_il4 (n := 46) dX11_report_44 rfl ?_
          refine w_il3 (n := 47) dX11_report_46 rfl ?_
          refine w_il5 (n := 49) dX11_report_47 rfl ?_
          refine w_cS3 (n := 52) s0_X11_within k_X11_112 (Nat.le_of_ble_eq_true rfl) dX11_report_49 rfl (c_within (fun t49 => ?_) (fun t49 => ?_))
          · skip
            refine w_if_ne (n := 55) 57 dX11_report_52 (by decide) rfl (fun _ => ?_) (fun h => absurd h (by decide))
            refine w_al0 (n := 58) dX11_report_57 rfl ?_
            refine g_R (n := 61) f_X11_36_11 pl_0 rf_0_1 dX11_report_58 rfl ?_
            refine g_R (n := 64) f_X11_281_10 pl_14 rf_14_14 dX11_report_61 rfl ?_
            refine g_I (n := 67) f_X11_285_7 pl_32 dX11_report_64 rfl ?_
            refine w_bipush (n := 69) (nI 6) dX11_report_67 (by decide) rfl ?_
            rw [hcr.1]
            refine w_ic_lt (n := 72) 75 dX11_report_69 (by decide) rfl (fun z69 => ?_) (fun z69 => ?_)
            · skip
              refine w_al0 (n := 76) dX11_report_75 rfl ?_
              refine g_R (n := 79) f_X11_36_11 pl_0 rf_0_1 dX11_report_76 rfl ?_
              refine g_R (n := 82) f_X11_281_10 pl_14 rf_14_14 dX11_report_79 rfl ?_
              refine w_il1 (n := 83) dX11_report_82 rfl ?_
              refine w_il2 (n := 84) dX11_report_83 rfl ?_
              refine w_il3 (n := 85) dX11_report_84 rfl ?_
              refine w_il4 (n := 87) dX11_report_85 rfl ?_
              have h56 : K.1 5 < 6 := by rw [nI_ltI (by have := o.2.2.2.2.1; omega) (by decide)] at z69; exact z69
              have ka := tN_of (n := 15) (by decide) t4.1 t4.2
              have kb := tN_of (n := 1) (by decide) t13.1 t13.2
              have kc := q_top t38.1 t38.2 t49.1 t49.2
              rw [ka.1, kb.1, kc.1, kc.2.2.1]
              refine w_cV4 (n := 90) pl_32 cl_7 s0_X7_add k_X11_288 (Nat.le_of_ble_eq_true rfl) dX11_report_87 rfl (c7_add h56 hcr.1 ?_)
              refine w_retI dX11_report_90 rfl ?_
              exact dk_fin hq (by unfold kf_report; rw [if_pos ⟨t4, t13, t38, t49⟩]; exact if_neg (by omega)) (hK.rp (sg_rep_in hK.1 h56 ka.2 kb.2 kc.2.1 kc.2.2.2) hcr.add cd_rep_fr (fun j h1 h2 => sg_rep_o h2 (by omega))) (cRp_A cd_rep_fr)
            · skip
              refine w_bipush (n := 74) (-2) dX11_report_72 (by decide) rfl ?_
              refine w_retI dX11_report_74 rfl ?_
              exact dk_fin hq (by unfold kf_report; rw [if_pos ⟨t4, t13, t38, t49⟩]; exact if_pos (by rw [nI_ltI (by have := o.2.2.2.2.1; omega) (by decide)] at z69; have := o.2.2.2.2.1; omega)) hK dk_fr.rf
          · skip
            refine w_if_ne (n := 55) 57 dX11_report_52 (by decide) rfl (fun h => absurd h (by decide)) (fun _ => ?_)
            refine w_iconst (n := 56) (-1) dX11_report_55 (by decide) rfl ?_
            refine w_retI dX11_report_56 rfl ?_
            exact dk_fin hq (if_neg (fun z => by first | exact t38 z.2.2.1 | exact t49 z.2.2.2)) hK dk_fr.rf
        · skip
          refine w_if_eq (n := 44) 55 dX11_report_41 (by decide) rfl (fun _ => ?_) (fun h => absurd (by decide) h)
          refine w_iconst (n := 56) (-1) dX11_report_55 (by decide) rfl ?_
          refine w_retI dX11_report_56 rfl ?_
          exact dk_fin hq (if_neg (fun z => by first | exact t38 z.2.2.1 | exact t49 z.2.2.2)) hK dk_fr.rf
      · skip
        refine w_bipush (n := 27) (nI 99) dX11_report_25 (by decide) rfl ?_
        refine w_goto 32 dX11_report_27 (by decide) ?_
        refine w_is5 (n := 34) dX11_report_32 rfl rfl (by decide) ?_
        first | (have e9 : a = nI 0 := z22; have et : sg_top a = nI 99 := if_pos e9; rw [← et]) | (have et : sg_top a = nI 16 := if_neg z22; rw [← et])
        refine w_il3 (n := 35) dX11_report_34 rfl ?_
        refine w_iconst (n := 36) (nI 0) dX11_report_35 (by decide) rfl ?_
        refine w_il5 (n := 38) dX11_report_36 rfl ?_
        refine w_cS3 (n := 41) s0_X11_within k_X11_112 (Nat.le_of_ble_eq_true rfl) dX11_report_38 rfl (c_within (fun t38 => ?_) (fun t38 => ?_))
        · skip
          refine w_if_eq (n := 44) 55 dX11_report_41 (by decide) rfl (fun h => absurd h (by decide)) (fun _ => ?_)
          refine w_il4 (n := 46) dX11_report_44 rfl ?_
          refine w_il3 (n := 47) dX11_report_46 rfl ?_
          refine w_il5 (n := 49) dX11_report_47 rfl ?_
          refine w_cS3 (n := 52) s0_X11_within k_X11_112 (Nat.le_of_ble_eq_true rfl) dX11_report_49 rfl (c_within (fun t49 => ?_) (fun t49 => ?_))
          · skip
            refine w_if_ne (n := 55) 57 dX11_report_52 (by decide) rfl (fun _ => ?_) (fun h => absurd h (by decide))
            refine w_al0 (n := 58) dX11_report_57 rfl ?_
            refine g_R (n := 61) f_X11_36_11 pl_0 rf_0_1 dX11_report_58 rfl ?_
            refine g_R (n := 64) f_X11_281_10 pl_14 rf_14_14 dX11_report_61 rfl ?_
            refine g_I (n := 67) f_X11_285_7 pl_32 dX11_report_64 rfl ?_
            refine w_bipush (n := 69) (nI 6) dX11_report_67 (by decide) rfl ?_
            rw [hcr.1]
            refine w_ic_lt (n := 72) 75 dX11_report_69 (by decide) rfl (fun z69 => ?_) (fun z69 => ?_)
            · skip
              refine w_al0 (n := 76) dX11_report_75 rfl ?_
              refine g_R (n := 79) f_X11_36_11 pl_0 rf_0_1 dX11_report_76 rfl ?_
              refine g_R (n := 82) f_X11_281_10 pl_14 rf_14_14 dX11_report_79 rfl ?_
              refine w_il1 (n := 83) dX11_report_82 rfl ?_
              refine w_il2 (n := 84) dX11_report_83 rfl ?_
              refine w_il3 (n := 85) dX11_report_84 rfl ?_
              refine w_il4 (n := 87) dX11_report_85 rfl ?_
              have h56 : K.1 5 < 6 := by rw [nI_ltI (by have := o.2.2.2.2.1; omega) (by decide)] at z69; exact z69
              have ka := tN_of (n := 15) (by decide) t4.1 t4.2
              have kb := tN_of (n := 1) (by decide) t13.1 t13.2
              have kc := q_top t38.1 t38.2 t49.1 t49.2
              rw [ka.1, kb.1, kc.1, kc.2.2.1]
              refine w_cV4 (n := 90) pl_32 cl_7 s0_X7_add k_X11_288 (Nat.le_of_ble_eq_true rfl) dX11_report_87 rfl (c7_add h56 hcr.1 ?_)
              refine w_retI dX11_report_90 rfl ?_
              exact dk_fin hq (by unfold kf_report; rw [if_pos ⟨t4, t13, t38, t49⟩]; exact if_neg (by omega)) (hK.rp (sg_rep_in hK.1 h56 ka.2 kb.2 kc.2.1 kc.2.2.2) hcr.add cd_rep_fr (fun j h1 h2 => sg_rep_o h2 (by omega))) (cRp_A cd_rep_fr)
            · skip
              refine w_bipush (n := 74) (-2) dX11_report_72 (by decide) rfl ?_
              refine w_retI dX11_report_74 rfl ?_
              exact dk_fin hq (by unfold kf_report; rw [if_pos ⟨t4, t13, t38, t49⟩]; exact if_pos (by rw [nI_ltI (by have := o.2.2.2.2.1; omega) (by decide)] at z69; have := o.2.2.2.2.1; omega)) hK dk_fr.rf
          · skip
            refine w_if_ne (n := 55) 57 dX11_report_52 (by decide) rfl (fun h => absurd h (by decide)) (fun _ => ?_)
            refine w_iconst (n := 56) (-1) dX11_report_55 (by decide) rfl ?_
            refine w_retI dX11_report_56 rfl ?_
            exact dk_fin hq (if_neg (fun z => by first | exact t38 z.2.2.1 | exact t49 z.2.2.2)) hK dk_fr.rf
        · skip
          refine w_if_eq (n := 44) 55 dX11_report_41 (by decide) rfl (fun _ => ?_) (fun h => absurd (by decide) h)
          refine w_iconst (n := 56) (-1) dX11_report_55 (by decide) rfl ?_
          refine w_retI dX11_report_56 rfl ?_
          exact dk_fin hq (if_neg (fun z => by first | exact t38 z.2.2.1 | exact t49 z.2.2.2)) hK dk_fr.rf
    · skip
      refine w_if_ne (n := 19) 21 dX11_report_16 (by decide) rfl (fun h => absurd h (by decide)) (fun _ => ?_)
      refine w_iconst (n := 20) (-1) dX11_report_19 (by decide) rfl ?_
      refine w_retI dX11_report_20 rfl ?_
      exact dk_fin hq (if_neg (fun z => by first | exact t4 z.1 | exact t13 z.2.1)) hK dk_fr.rf
  · skip
    refine w_if_eq (n := 10) 19 dX11_report_7 (by decide) rfl (fun _ => ?_) (fun h => absurd (by decide) h)
    refine w_iconst (n := 20) (-1) dX11_report_19 (by decide) rfl ?_
    refine w_retI dX11_report_20 rfl ?_
    exact dk_fin hq (if_neg (fun z => by first | exact t4 z.1 | exact t13 z.2.1)) hK dk_fr.rf

set_option maxRecDepth 20000 in
theorem C_forget {d : Nat} {M : dk_Mem} {Q : Option Value → dk_Mem → Prop} {K : sg_K} (hK : cK K M) (hq : ∀ M2, cK (kf_forget K).2 M2 → dk_fr cA M M2 → Q (some (.int (kf_forget K).1)) M2) : dk_Call (d + 3) mX11_forget [.ref 0] M Q := by
  have hK0 := hK
  obtain ⟨⟨o, p1, p2, p3⟩, hs, hc, hb, hcr, hsc, hz, β, hβ, hβ1, hβ2⟩ := hK0
  have o4 := o.2.2.2.1
  have o16 := o.2.1
  have hm : dk_mo 22 := Or.inl rfl
  have hm9 : dk_mo 79 := Or.inr (Or.inr (Or.inr (Or.inr (Or.inr (Or.inr (Or.inr rfl))))))
  refine dk_enter [some (.ref 0), none] (by decide) (fun _ => rfl) (fun _ => Nat.le_of_ble_eq_true rfl) ?_
  refine w_al0 (n := 1) dX11_forget_0 rfl ?_
  refine g_R (n := 4) f_X11_36_11 pl_0 rf_0_1 dX11_forget_1 rfl ?_
  refine g_R (n := 7) f_X11_281_10 pl_14 rf_14_14 dX11_forget_4 rfl ?_
  refine g_I (n := 10) f_X11_285_7 pl_32 dX11_forget_7 rfl ?_
  rw [hcr.1]
  refine w_is1 (n := 11) dX11_forget_10 rfl rfl (by decide) ?_
  refine w_al0 (n := 12) dX11_forget_11 rfl ?_
  refine g_R (n := 15) f_X11_36_11 pl_0 rf_0_1 dX11_forget_12 rfl ?_
  refine g_R (n := 18) f_X11_281_10 pl_14 rf_14_14 dX11_forget_15 rfl ?_
  refine w_iconst (n := 19) (nI 0) dX11_forget_18 (by decide) rfl ?_
  refine p_I (n := 22) f_X11_285_7 pl_32 dX11_forget_19 rfl ?_
  refine w_il1 (n := 23) dX11_forget_22 rfl ?_
  refine w_retI dX11_forget_23 rfl ?_
  have f1 : dk_fr cRp M (dk_put M 32 0 (nI 0)) := dk_fr.rf.put (by unfold cRp; omega)
  exact dk_fin hq rfl (hK.rp (hK.1.u_rep (by omega)) ⟨by rw [dk_put_s, sg_up_s], fun r hr => by rw [sg_up_s] at hr; omega⟩ f1 (fun j h1 h2 => sg_up_n h2)) (cRp_A f1)

set_option maxRecDepth 20000 in
theorem C_seed {d : Nat} {M : dk_Mem} {Q : Option Value → dk_Mem → Prop} {K : sg_K} (hK : cK K M) {v : Int32} (hq : ∀ M2, cK (kf_seed K v).2 M2 → dk_fr cA M M2 → Q (some (.int (kf_seed K v).1)) M2) : dk_Call (d + 3) mX11_seed [.ref 0, .int v] M Q := by
  have hK0 := hK
  obtain ⟨⟨o, p1, p2, p3⟩, hs, hc, hb, hcr, hsc, hz, β, hβ, hβ1, hβ2⟩ := hK0
  have o4 := o.2.2.2.1
  have o16 := o.2.1
  have hm : dk_mo 22 := Or.inl rfl
  have hm9 : dk_mo 79 := Or.inr (Or.inr (Or.inr (Or.inr (Or.inr (Or.inr (Or.inr rfl))))))
  refine dk_enter [some (.ref 0), some (.int v), none] (by decide) (fun _ => rfl) (fun _ => Nat.le_of_ble_eq_true rfl) ?_
  refine w_al0 (n := 1) dX11_seed_0 rfl ?_
  refine g_R (n := 4) f_X11_36_11 pl_0 rf_0_1 dX11_seed_1 rfl ?_
  refine g_I (n := 7) f_X11_307_10 pl_14 dX11_seed_4 rfl ?_
  rw [hz]
  refine w_is2 (n := 8) dX11_seed_7 rfl rfl (by decide) ?_
  refine w_al0 (n := 9) dX11_seed_8 rfl ?_
  refine g_R (n := 12) f_X11_36_11 pl_0 rf_0_1 dX11_seed_9 rfl ?_
  refine w_il1 (n := 13) dX11_seed_12 rfl ?_
  refine p_I (n := 16) f_X11_307_10 pl_14 dX11_seed_13 rfl ?_
  refine w_il2 (n := 17) dX11_seed_16 rfl ?_
  refine w_retI dX11_seed_17 rfl ?_
  exact dk_fin hq rfl hK.zz (dk_fr.rf.put (by unfold cA; omega))

set_option maxRecDepth 20000 in
theorem c_next {d : Nat} {M : dk_Mem} {Q : Option Value → dk_Mem → Prop} {z : Int32} (hq : Q (some (.int (sg_z z))) M) : dk_Call d mX11_nextLot [.int z] M Q := by
  refine dk_enter [some (.int z)] (by decide) (fun _ => rfl) (fun _ => Nat.le_of_ble_eq_true rfl) ?_
  refine w_il0 (n := 1) dX11_nextLot_0 rfl ?_
  refine w_ldcw (n := 4) in_1030 dX11_nextLot_1 rfl ?_
  refine w_imul (n := 5) dX11_nextLot_4 rfl ?_
  refine w_sipush (n := 8) (nI 12345) dX11_nextLot_5 (by decide) rfl ?_
  refine w_iadd (n := 9) dX11_nextLot_8 rfl ?_
  refine w_retI dX11_nextLot_9 rfl ?_
  rw [sg_z_e]
  exact hq

set_option maxRecDepth 20000 in
theorem c10_abl {d : Nat} {M : dk_Mem} {Q : Option Value → dk_Mem → Prop} {c : Nat} (hc : c ≤ 6) (h1 : M.1 14 1 = nI c) {z : Int32} (hq : Q (some (.int (nI (sg_la z c)))) M) : dk_Call d mX10_actByLot [.ref 14, .int z] M Q := by
  refine dk_enter [some (.ref 14), some (.int z)] (by decide) (fun _ => rfl) (fun _ => Nat.le_of_ble_eq_true rfl) ?_
  refine w_il1 (n := 1) dX10_actByLot_0 rfl ?_
  refine w_bipush (n := 3) (nI 16) dX10_actByLot_1 (by decide) rfl ?_
  refine w_iushr (n := 4) dX10_actByLot_3 rfl ?_
  refine w_al0 (n := 5) dX10_actByLot_4 rfl ?_
  refine g_I (n := 8) f_X10_9_10 pl_14 dX10_actByLot_5 rfl ?_
  rw [h1]
  refine w_iconst (n := 9) (nI 1) dX10_actByLot_8 (by decide) rfl ?_
  refine w_iadd (n := 10) dX10_actByLot_9 rfl ?_
  refine w_irem (n := 11) (nI_s0 hc) dX10_actByLot_10 rfl ?_
  rw [nI_add, q_ush, q_lot _ hc]
  refine w_retI dX10_actByLot_11 rfl ?_
  exact hq

set_option maxRecDepth 20000 in
theorem C_lot {d : Nat} {M : dk_Mem} {Q : Option Value → dk_Mem → Prop} {K : sg_K} (hK : cK K M) (hq : ∀ M2, cK (kf_lot K).2 M2 → dk_fr cA M M2 → Q (some (.int (kf_lot K).1)) M2) : dk_Call (d + 8) mX11_lot [.ref 0] M Q := by
  have hK0 := hK
  obtain ⟨⟨o, p1, p2, p3⟩, hs, hc, hb, hcr, hsc, hz, β, hβ, hβ1, hβ2⟩ := hK0
  have o4 := o.2.2.2.1
  have o16 := o.2.1
  have hm : dk_mo 22 := Or.inl rfl
  have hm9 : dk_mo 79 := Or.inr (Or.inr (Or.inr (Or.inr (Or.inr (Or.inr (Or.inr rfl))))))
  refine dk_enter [some (.ref 0)] (by decide) (fun _ => rfl) (fun _ => Nat.le_of_ble_eq_true rfl) ?_
  refine w_al0 (n := 1) dX11_lot_0 rfl ?_
  refine g_R (n := 4) f_X11_36_11 pl_0 rf_0_1 dX11_lot_1 rfl ?_
  refine w_al0 (n := 5) dX11_lot_4 rfl ?_
  refine g_R (n := 8) f_X11_36_11 pl_0 rf_0_1 dX11_lot_5 rfl ?_
  refine g_R (n := 11) f_X11_127_10 pl_14 rf_14_9 dX11_lot_8 rfl ?_
  refine w_cV1 (n := 14) pl_14 cl_10 s0_X10_isOver k_X11_197 (Nat.le_of_ble_eq_true rfl) dX11_lot_11 rfl (c10_isOver hs o hm hc (fun t11 => ?_) (fun t11 => ?_))
  · skip
    refine w_if_eq (n := 17) 20 dX11_lot_14 (by decide) rfl (fun h => absurd h (by decide)) (fun _ => ?_)
    refine w_bipush (n := 19) (-4) dX11_lot_17 (by decide) rfl ?_
    refine w_retI dX11_lot_19 rfl ?_
    exact dk_fin hq (if_pos t11) hK dk_fr.rf
  · skip
    refine w_if_eq (n := 17) 20 dX11_lot_14 (by decide) rfl (fun _ => ?_) (fun h => absurd (by decide) h)
    refine w_al0 (n := 21) dX11_lot_20 rfl ?_
    refine g_R (n := 24) f_X11_36_11 pl_0 rf_0_1 dX11_lot_21 rfl ?_
    refine w_al0 (n := 25) dX11_lot_24 rfl ?_
    refine g_R (n := 28) f_X11_36_11 pl_0 rf_0_1 dX11_lot_25 rfl ?_
    refine g_I (n := 31) f_X11_307_10 pl_14 dX11_lot_28 rfl ?_
    rw [hz]
    refine w_cS1 (n := 34) s0_X11_nextLot k_X11_310 (Nat.le_of_ble_eq_true rfl) dX11_lot_31 rfl (c_next ?_)
    refine p_I (n := 37) f_X11_307_10 pl_14 dX11_lot_34 rfl ?_
    refine w_al0 (n := 38) dX11_lot_37 rfl ?_
    refine w_al0 (n := 39) dX11_lot_38 rfl ?_
    refine g_R (n := 42) f_X11_36_11 pl_0 rf_0_1 dX11_lot_39 rfl ?_
    refine w_al0 (n := 43) dX11_lot_42 rfl ?_
    refine g_R (n := 46) f_X11_36_11 pl_0 rf_0_1 dX11_lot_43 rfl ?_
    refine g_I (n := 49) f_X11_307_10 pl_14 dX11_lot_46 rfl ?_
    rw [dk_put_s]
    refine w_cV1 (n := 52) pl_14 cl_10 s0_X10_actByLot k_X11_313 (Nat.le_of_ble_eq_true rfl) dX11_lot_49 rfl (c10_abl o4 (by rw [dk_put_k (by omega)]; exact hs.count) ?_)
    have e9 : kf_lot K = sg_yr (K.1, K.2.1, K.2.2.1, sg_z K.2.2.2) (sg_ot (sg_la (sg_z K.2.2.2) (K.1 4))) := if_neg (show ¬ K.1 0 ≤ K.1 1 by omega)
    rw [e9] at hq
    clear e9
    have hK2 := hK.zz (v := sg_z K.2.2.2)
    have ht4 : ∀ h, sg_ot (sg_la (sg_z K.2.2.2) (K.1 4)) = some h → h < K.1 4 := fun h e => sg_ot_lt (sg_la_le _ _) h e
    have ea := sg_ot_act (sg_la (sg_z K.2.2.2) (K.1 4))
    rw [← ea]
    generalize sg_ot (sg_la (sg_z K.2.2.2) (K.1 4)) = t at hq ht4 ⊢
    generalize sg_z K.2.2.2 = z2 at hq hK2 ⊢
    refine w_cV1 (n := 55) pl_0 cl_11 s0_X11_goOn k_X11_219 (Nat.le_of_ble_eq_true rfl) dX11_lot_52 rfl (c_goOn hK2 ht4 (rK_eta t11) (fun M3 g1 g2 => ?_))
    refine w_retI dX11_lot_55 rfl ?_
    exact hq M3 g1 ((dk_fr.rf.put (by unfold cA; omega)).tr g2)
