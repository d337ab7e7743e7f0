theorem eT_0 {E : sg_E} : eT E (at_0 E) = eU E 40 (nI 0) := by
  funext j
  unfold eT eU at_0
  by_cases h1_h : j = 40
  · rw [if_pos h1_h, if_pos h1_h]
  · rw [if_neg h1_h, if_neg h1_h]
    by_cases h2_h : 41 ≤ j ∧ j < 71
    · rw [if_pos h2_h]
      show E (41 + (j - 41)) = E j
      rw [show 41 + (j - 41) = j by omega]
    · rw [if_neg h2_h]
theorem eT_o {E : sg_E} {T : at_T} {j : Nat} (h : j < 40 ∨ 71 ≤ j) : eT E T j = E j := by
  unfold eT
  rw [if_neg (by omega), if_neg (by omega)]
theorem eT_40 {E : sg_E} {T : at_T} : eT E T 40 = nI T.1 := if_pos rfl
theorem eT_t {E : sg_E} {T : at_T} {i : Nat} (h : i < 30) : eT E T (41 + i) = T.2 i := by
  unfold eT
  rw [if_neg (by omega), if_pos (by omega), show 41 + i - 41 = i by omega]
theorem eI.T {E : sg_E} (hI : eI E) {T : at_T} (h : T.1 ≤ 30) : eI (eT E T) := by
  obtain ⟨h1_h, h2_h, h3_h, h4_h, h5_h⟩ := hI
  refine ⟨by rw [eT_o (by omega)]; exact h1_h, fun s hs => ?_, ?_, by rw [eT_o (by omega)]; exact h4_h, fun i hi => by rw [eT_o (by omega)]; exact h5_h i hi⟩
  · rw [eT_o (by omega), eT_o (by omega), eT_o (by omega), eT_o (by omega)]; exact h2_h s hs
  · rw [eT_40]
    unfold eN
    rw [tN_nI (by omega)]
    exact ⟨rfl, h⟩
theorem eP_T {K : sg_K} {E : sg_E} {T : at_T} {s : Nat} (hs : s < 4) : eP K (eT E T) s = eP K E s := by
  unfold eP
  rw [eT_o (by omega), eT_o (by omega)]
theorem rE_act {E : sg_E} {M M2 : dk_Mem} (hE : rE E M) {T : at_T} (hf : dk_fr rT2 M M2) (hT : rTS T M2) : rE (eT E T) M2 ∧ dk_fe rX M M2 := by
  refine ⟨⟨fun q k j hj => ?_, fun i hi => by rw [hf.1, eT_o (by omega)]; exact hE.2 i hi⟩, hf.e.up (fun q k z => by unfold rT2 at z; unfold rX; omega)⟩
  by_cases e : rT2 q k
  · unfold rT2 at e
    unfold eL at hj
    rcases e with ⟨e1_h, e2_h | e2_h⟩ | e1_h
    · subst e1_h; subst e2_h
      have ej : j = 40 := by omega
      rw [ej, eT_40]
      exact hT.1
    · omega
    · subst e1_h
      have ej : k < 30 ∧ j = 41 + k := by omega
      rw [ej.2, eT_t ej.1]
      exact hT.2.2 k ej.1
  · rw [hf.2 q k e, eT_o ?_]
    · exact hE.1 q k j hj
    · unfold eL at hj
      unfold rT2 at e
      omega

set_option maxRecDepth 20000 in
theorem R_act {d : Nat} {M : dk_Mem} {Q : Option Value → dk_Mem → Prop} {K : sg_K} (hK : rK K M) {E : sg_E} (hE : rE E M) (hI : eI E) {s a x : Int32} (hq : ∀ M2, rE (ef_act K E s a x).2 M2 → dk_fe rX M M2 → Q (some (.int (ef_act K E s a x).1)) M2) : dk_Call (d + 7) mX12_act [.ref 104, .int s, .int a, .int x] M Q := by
  have hK0 := hK
  obtain ⟨⟨o, p1_h, p2_h, p3_h⟩, hr, ⟨f, hb, hT⟩, hsc, hz⟩ := hK0
  have o4_h := o.2.2.2.1
  have o16_h := o.2.1
  have hE0 : rE (eT E (at_0 E)) (dk_put M 104 29 (nI 0)) := by rw [eT_0]; exact hE.put (Or.inl ⟨rfl, Or.inr (Or.inl ⟨rfl, rfl⟩)⟩)
  have hI0 : eI (eT E (at_0 E)) := hI.T (Nat.zero_le _)
  have fe0_h : dk_fr rT2 M (dk_put M 104 29 (nI 0)) := dk_fr.rf.put (Or.inl ⟨rfl, Or.inl rfl⟩)
  have hK0b : rK K (dk_put M 104 29 (nI 0)) := hK.X (fe0_h.e.up (fun q k z => by unfold rT2 at z; unfold rX; omega))
  refine dk_enter [some (.ref 104), some (.int s), some (.int a), some (.int x), none, none] (by decide) (fun _ => rfl) (fun _ => Nat.le_of_ble_eq_true rfl) ?_
  refine w_al0 (n := 1) dX12_act_0 rfl ?_
  refine w_iconst (n := 2) (nI 0) dX12_act_1 (by decide) rfl ?_
  refine p_I (n := 5) f_X12_307_12 pl_104 dX12_act_2 rfl ?_
  refine w_il1 (n := 6) dX12_act_5 rfl ?_
  refine w_cS1 (n := 9) s0_X12_isFour k_X12_281 (Nat.le_of_ble_eq_true rfl) dX12_act_6 rfl (r_isFour (fun t6_h => ?_) (fun t6_h => ?_))
  · skip
    refine w_if_eq (n := 12) 29 dX12_act_9 (by decide) rfl (fun h => absurd h (by decide)) (fun _ => ?_)
    refine w_il2 (n := 13) dX12_act_12 rfl ?_
    refine w_iconst (n := 14) (nI 0) dX12_act_13 (by decide) rfl ?_
    refine w_iconst (n := 15) (nI 3) dX12_act_14 (by decide) rfl ?_
    refine w_cS3 (n := 18) s0_X12_in k_X12_61 (Nat.le_of_ble_eq_true rfl) dX12_act_15 rfl (r_in (fun t15_h => ?_) (fun t15_h => ?_))
    · skip
      refine w_if_eq (n := 21) 29 dX12_act_18 (by decide) rfl (fun h => absurd h (by decide)) (fun _ => ?_)
      have hs := tN_of (n := 3) (by decide) t6_h.1 t6_h.2
      have es : Value.int s = Value.int (nI (tN s)) := by rw [← hs.1]
      rw [es]
      have hs3_h := hs.2
      refine w_al0 (n := 22) dX12_act_21 rfl ?_
      refine w_il1 (n := 23) dX12_act_22 rfl ?_
      refine w_cV1 (n := 26) pl_104 cl_12 s0_X12_hasPiece k_X12_304 (Nat.le_of_ble_eq_true rfl) dX12_act_23 rfl (r_hasPiece hK0b hE0 hI0 (s := tN s) (by omega) (fun h hh e1_h e2_h => ?_) (fun e1_h => ?_))
      · skip
        refine w_if_ne (n := 29) 31 dX12_act_26 (by decide) rfl (fun _ => ?_) (fun h => absurd h (by decide))
        have h6_h : h < 6 := by omega
        have ea : ef_act K E s a x = ((at_act (K.1 (35 + 5 * h)) h (K.1 (38 + 5 * h)) x (at_0 E) a).1, eT E (at_act (K.1 (35 + 5 * h)) h (K.1 (38 + 5 * h)) x (at_0 E) a).2) := by
          unfold ef_act
          rw [if_pos ⟨t6_h, t15_h⟩, ← eP_T (T := at_0 E) (by omega), e1_h]
        rw [ea] at hq
        unfold at_act at hq
        have k5_h := o.kind h6_h
        have f1_h : dk_fr rT2 M (dk_put (dk_put M 104 29 (nI 0)) 104 30 (nI 0)) := fe0_h.put (Or.inl ⟨rfl, Or.inr rfl⟩)
        have hr1_h := hr.T2 f1_h
        have hT1 : rTS (at_0 E) (dk_put (dk_put M 104 29 (nI 0)) 104 30 (nI 0)) := ⟨by rw [dk_put_k (by omega), dk_put_s]; rfl, Nat.zero_le _, fun i hi => by rw [dk_put_k (by omega), dk_put_k (by omega)]; exact hE.1 119 i (41 + i) (by unfold eL; omega)⟩
        refine w_al0 (n := 32) dX12_act_31 rfl ?_
        refine g_R (n := 35) f_X12_48_12 pl_104 rf_104_26 dX12_act_32 rfl ?_
        refine w_il1 (n := 36) dX12_act_35 rfl ?_
        refine i_iald (n := 37) pl_117 (j := tN s) rfl (by omega) (by decide) ((hE0.1 117 (tN s) (32 + tN s) (by unfold eL; omega)).trans e2_h) dX12_act_36 rfl ?_
        refine w_is4 (n := 39) dX12_act_37 rfl rfl (by decide) ?_
        refine w_al0 (n := 40) dX12_act_39 rfl ?_
        refine w_iconst (n := 41) (nI 0) dX12_act_40 (by decide) rfl ?_
        refine p_Z (n := 44) (by decide) f_X12_322_12 pl_104 dX12_act_41 rfl ?_
        refine w_il2 (n := 45) dX12_act_44 rfl ?_
        refine w_if_ne (n := 48) 58 dX12_act_45 (by decide) rfl (fun z45_h => ?_) (fun z45_h => ?_)
        · skip
          refine w_il2 (n := 59) dX12_act_58 rfl ?_
          refine w_iconst (n := 60) (nI 1) dX12_act_59 (by decide) rfl ?_
          refine w_ic_ne (n := 63) 73 dX12_act_60 (by decide) rfl (fun z60_h => ?_) (fun z60_h => ?_)
          · skip
            refine w_il2 (n := 74) dX12_act_73 rfl ?_
            refine w_iconst (n := 75) (nI 2) dX12_act_74 (by decide) rfl ?_
            refine w_ic_ne (n := 78) 88 dX12_act_75 (by decide) rfl (fun z75_h => ?_) (fun z75_h => ?_)
            · skip
              refine w_al0 (n := 89) dX12_act_88 rfl ?_
              refine w_il4 (n := 91) dX12_act_89 rfl ?_
              refine w_il3 (n := 92) dX12_act_91 rfl ?_
              refine w_cV2 (n := 95) pl_104 cl_12 s0_X12_turns k_X12_340 (Nat.le_of_ble_eq_true rfl) dX12_act_92 rfl (r_turns hr1_h h6_h k5_h hT1 (fun M2 v g1_h g2_h gp g4_h => ?_))
              refine w_is5 (n := 97) dX12_act_95 rfl rfl (by decide) ?_
              refine w_al0 (n := 98) dX12_act_97 rfl ?_
              refine g_Z (n := 101) f_X12_322_12 pl_104 dX12_act_98 rfl ?_
              rw [gp]
              refine w_if_eq (n := 104) 109 dX12_act_101 (by decide) rfl (fun z101_h => ?_) (fun z101_h => ?_)
              · skip
                refine w_il5 (n := 111) dX12_act_109 rfl ?_
                refine w_retI dX12_act_111 rfl ?_
                first | exact absurd rfl z101_h | (rw [if_pos (show a = nI 0 from z45_h)] at hq; have q := rE_act hE (f1_h.tr (rT12 g1_h)) g2_h; exact hq _ q.1 q.2) | (rw [if_neg (show ¬ a = nI 0 from z45_h), if_pos z60_h] at hq; have q := rE_act hE (f1_h.tr (rT12 g1_h)) g2_h; exact hq _ q.1 q.2) | (rw [if_neg (show ¬ a = nI 0 from z45_h), if_neg z60_h, if_pos z75_h] at hq; have q := rE_act hE (f1_h.tr g1_h) g2_h; have zb := gbI_0 z101_h; rw [zb] at hq q g4_h; rw [g4_h rfl]; exact hq _ q.1 q.2) | (rw [if_neg (show ¬ a = nI 0 from z45_h), if_neg z60_h, if_pos z75_h] at hq; have q := rE_act hE (f1_h.tr g1_h) g2_h; have zb := gbI_1 z101_h; rw [zb] at hq q; exact hq _ q.1 q.2) | (rw [if_neg (show ¬ a = nI 0 from z45_h), if_neg z60_h, if_neg z75_h] at hq; have q := rE_act hE (f1_h.tr g1_h) g2_h; have zb := gbI_0 z101_h; rw [zb] at hq q g4_h; rw [g4_h rfl]; exact hq _ q.1 q.2) | (rw [if_neg (show ¬ a = nI 0 from z45_h), if_neg z60_h, if_neg z75_h] at hq; have q := rE_act hE (f1_h.tr g1_h) g2_h; have zb := gbI_1 z101_h; rw [zb] at hq q; exact hq _ q.1 q.2)
              · skip
                refine w_bipush (n := 106) (-15) dX12_act_104 (by decide) rfl ?_
                refine w_goto 111 dX12_act_106 (by decide) ?_
                refine w_retI dX12_act_111 rfl ?_
                first | exact absurd rfl z101_h | (rw [if_pos (show a = nI 0 from z45_h)] at hq; have q := rE_act hE (f1_h.tr (rT12 g1_h)) g2_h; exact hq _ q.1 q.2) | (rw [if_neg (show ¬ a = nI 0 from z45_h), if_pos z60_h] at hq; have q := rE_act hE (f1_h.tr (rT12 g1_h)) g2_h; exact hq _ q.1 q.2) | (rw [if_neg (show ¬ a = nI 0 from z45_h), if_neg z60_h, if_pos z75_h] at hq; have q := rE_act hE (f1_h.tr g1_h) g2_h; have zb := gbI_0 z101_h; rw [zb] at hq q g4_h; rw [g4_h rfl]; exact hq _ q.1 q.2) | (rw [if_neg (show ¬ a = nI 0 from z45_h), if_neg z60_h, if_pos z75_h] at hq; have q := rE_act hE (f1_h.tr g1_h) g2_h; have zb := gbI_1 z101_h; rw [zb] at hq q; exact hq _ q.1 q.2) | (rw [if_neg (show ¬ a = nI 0 from z45_h), if_neg z60_h, if_neg z75_h] at hq; have q := rE_act hE (f1_h.tr g1_h) g2_h; have zb := gbI_0 z101_h; rw [zb] at hq q g4_h; rw [g4_h rfl]; exact hq _ q.1 q.2) | (rw [if_neg (show ¬ a = nI 0 from z45_h), if_neg z60_h, if_neg z75_h] at hq; have q := rE_act hE (f1_h.tr g1_h) g2_h; have zb := gbI_1 z101_h; rw [zb] at hq q; exact hq _ q.1 q.2)
            · skip
              refine w_al0 (n := 79) dX12_act_78 rfl ?_
              refine w_il4 (n := 81) dX12_act_79 rfl ?_
              refine w_il3 (n := 82) dX12_act_81 rfl ?_
              refine w_cV2 (n := 85) pl_104 cl_12 s0_X12_halves k_X12_334 (Nat.le_of_ble_eq_true rfl) dX12_act_82 rfl (r_halves hr1_h h6_h k5_h hT1 (fun M2 v g1_h g2_h gp g4_h => ?_))
              refine w_goto 95 dX12_act_85 (by decide) ?_
              refine w_is5 (n := 97) dX12_act_95 rfl rfl (by decide) ?_
              refine w_al0 (n := 98) dX12_act_97 rfl ?_
              refine g_Z (n := 101) f_X12_322_12 pl_104 dX12_act_98 rfl ?_
              rw [gp]
              refine w_if_eq (n := 104) 109 dX12_act_101 (by decide) rfl (fun z101_h => ?_) (fun z101_h => ?_)
              · skip
                refine w_il5 (n := 111) dX12_act_109 rfl ?_
                refine w_retI dX12_act_111 rfl ?_
                first | exact absurd rfl z101_h | (rw [if_pos (show a = nI 0 from z45_h)] at hq; have q := rE_act hE (f1_h.tr (rT12 g1_h)) g2_h; exact hq _ q.1 q.2) | (rw [if_neg (show ¬ a = nI 0 from z45_h), if_pos z60_h] at hq; have q := rE_act hE (f1_h.tr (rT12 g1_h)) g2_h; exact hq _ q.1 q.2) | (rw [if_neg (show ¬ a = nI 0 from z45_h), if_neg z60_h, if_pos z75_h] at hq; have q := rE_act hE (f1_h.tr g1_h) g2_h; have zb := gbI_0 z101_h; rw [zb] at hq q g4_h; rw [g4_h rfl]; exact hq _ q.1 q.2) | (rw [if_neg (show ¬ a = nI 0 from z45_h), if_neg z60_h, if_pos z75_h] at hq; have q := rE_act hE (f1_h.tr g1_h) g2_h; have zb := gbI_1 z101_h; rw [zb] at hq q; exact hq _ q.1 q.2) | (rw [if_neg (show ¬ a = nI 0 from z45_h), if_neg z60_h, if_neg z75_h] at hq; have q := rE_act hE (f1_h.tr g1_h) g2_h; have zb := gbI_0 z101_h; rw [zb] at hq q g4_h; rw [g4_h rfl]; exact hq _ q.1 q.2) | (rw [if_neg (show ¬ a = nI 0 from z45_h), if_neg z60_h, if_neg z75_h] at hq; have q := rE_act hE (f1_h.tr g1_h) g2_h; have zb := gbI_1 z101_h; rw [zb] at hq q; exact hq _ q.1 q.2)
              · skip
                refine w_bipush (n := 106) (-15) dX12_act_104 (by decide) rfl ?_
                refine w_goto 111 dX12_act_106 (by decide) ?_
                refine w_retI dX12_act_111 rfl ?_
                first | exact absurd rfl z101_h | (rw [if_pos (show a = nI 0 from z45_h)] at hq; have q := rE_act hE (f1_h.tr (rT12 g1_h)) g2_h; exact hq _ q.1 q.2) | (rw [if_neg (show ¬ a = nI 0 from z45_h), if_pos z60_h] at hq; have q := rE_act hE (f1_h.tr (rT12 g1_h)) g2_h; exact hq _ q.1 q.2) | (rw [if_neg (show ¬ a = nI 0 from z45_h), if_neg z60_h, if_pos z75_h] at hq; have q := rE_act hE (f1_h.tr g1_h) g2_h; have zb := gbI_0 z101_h; rw [zb] at hq q g4_h; rw [g4_h rfl]; exact hq _ q.1 q.2) | (rw [if_neg (show ¬ a = nI 0 from z45_h), if_neg z60_h, if_pos z75_h] at hq; have q := rE_act hE (f1_h.tr g1_h) g2_h; have zb := gbI_1 z101_h; rw [zb] at hq q; exact hq _ q.1 q.2) | (rw [if_neg (show ¬ a = nI 0 from z45_h), if_neg z60_h, if_neg z75_h] at hq; have q := rE_act hE (f1_h.tr g1_h) g2_h; have zb := gbI_0 z101_h; rw [zb] at hq q g4_h; rw [g4_h rfl]; exact hq _ q.1 q.2) | (rw [if_neg (show ¬ a = nI 0 from z45_h), if_neg z60_h, if_neg z75_h] at hq; have q := rE_act hE (f1_h.tr g1_h) g2_h; have zb := gbI_1 z101_h; rw [zb] at hq q; exact hq _ q.1 q.2)
          · skip
            refine w_al0 (n := 64) dX12_act_63 rfl ?_
            refine w_il4 (n := 66) dX12_act_64 rfl ?_
            refine w_il3 (n := 67) dX12_act_66 rfl ?_
            refine w_cV2 (n := 70) pl_104 cl_12 s0_X12_taps k_X12_331 (Nat.le_of_ble_eq_true rfl) dX12_act_67 rfl (r_taps hr1_h h6_h k5_h hT1 (fun M2 g1_h g2_h => ?_))
            have gp : M2.1 104 30 = nI 0 := (g1_h.2 104 30 (by unfold rT1; omega)).trans dk_put_s
            refine w_goto 95 dX12_act_70 (by decide) ?_
            refine w_is5 (n := 97) dX12_act_95 rfl rfl (by decide) ?_
            refine w_al0 (n := 98) dX12_act_97 rfl ?_
            refine g_Z (n := 101) f_X12_322_12 pl_104 dX12_act_98 rfl ?_
            rw [gp]
            refine w_if_eq (n := 104) 109 dX12_act_101 (by decide) rfl (fun z101_h => ?_) (fun z101_h => ?_)
            · skip
              refine w_il5 (n := 111) dX12_act_109 rfl ?_
              refine w_retI dX12_act_111 rfl ?_
              first | exact absurd rfl z101_h | (rw [if_pos (show a = nI 0 from z45_h)] at hq; have q := rE_act hE (f1_h.tr (rT12 g1_h)) g2_h; exact hq _ q.1 q.2) | (rw [if_neg (show ¬ a = nI 0 from z45_h), if_pos z60_h] at hq; have q := rE_act hE (f1_h.tr (rT12 g1_h)) g2_h; exact hq _ q.1 q.2) | (rw [if_neg (show ¬ a = nI 0 from z45_h), if_neg z60_h, if_pos z75_h] at hq; have q := rE_act hE (f1_h.tr g1_h) g2_h; have zb := gbI_0 z101_h; rw [zb] at hq q g4_h; rw [g4_h rfl]; exact hq _ q.1 q.2) | (rw [if_neg (show ¬ a = nI 0 from z45_h), if_neg z60_h, if_pos z75_h] at hq; have q := rE_act hE (f1_h.tr g1_h) g2_h; have zb := gbI_1 z101_h; rw [zb] at hq q; exact hq _ q.1 q.2) | (rw [if_neg (show ¬ a = nI 0 from z45_h), if_neg z60_h, if_neg z75_h] at hq; have q := rE_act hE (f1_h.tr g1_h) g2_h; have zb := gbI_0 z101_h; rw [zb] at hq q g4_h; rw [g4_h rfl]; exact hq _ q.1 q.2) | (rw [if_neg (show ¬ a = nI 0 from z45_h), if_neg z60_h, if_neg z75_h] at hq; have q := rE_act hE (f1_h.tr g1_h) g2_h; have zb := gbI_1 z101_h; rw [zb] at hq q; exact hq _ q.1 q.2)
            · skip
              refine w_bipush (n := 106) (-15) dX12_act_104 (by decide) rfl ?_
              refine w_goto 111 dX12_act_106 (by decide) ?_
              refine w_retI dX12_act_111 rfl ?_
              first | exact absurd rfl z101_h | (rw [if_pos (show a = nI 0 from z45_h)] at hq; have q := rE_act hE (f1_h.tr (rT12 g1_h)) g2_h; exact hq _ q.1 q.2) | (rw [if_neg (show ¬ a = nI 0 from z45_h), if_pos z60_h] at hq; have q := rE_act hE (f1_h.tr (rT12 g1_h)) g2_h; exact hq _ q.1 q.2) | (rw [if_neg (show ¬ a = nI 0 from z45_h), if_neg z60_h, if_pos z75_h] at hq; have q := rE_act hE (f1_h.tr g1_h) g2_h; have zb := gbI_0 z101_h; rw [zb] at hq q g4_h; rw [g4_h rfl]; exact hq _ q.1 q.2) | (rw [if_neg (show ¬ a = nI 0 from z45_h), if_neg z60_h, if_pos z75_h] at hq; have q := rE_act hE (f1_h.tr g1_h) g2_h; have zb := gbI_1 z101_h; rw [zb] at hq q; exact hq _ q.1 q.2) | (rw [if_neg (show ¬ a = nI 0 from z45_h), if_neg z60_h, if_neg z75_h] at hq; have q := rE_act hE (f1_h.tr g1_h) g2_h; have zb := gbI_0 z101_h; rw [zb] at hq q g4_h; rw [g4_h rfl]; exact hq _ q.1 q.2) | (rw [if_neg (show ¬ a = nI 0 from z45_h), if_neg z60_h, if_neg z75_h] at hq; have q := rE_act hE (f1_h.tr g1_h) g2_h; have zb := gbI_1 z101_h; rw [zb] at hq q; exact hq _ q.1 q.2)
        · skip
          refine w_al0 (n := 49) dX12_act_48 rfl ?_
          refine w_il4 (n := 51) dX12_act_49 rfl ?_
          refine w_il3 (n := 52) dX12_act_51 rfl ?_
          refine w_cV2 (n := 55) pl_104 cl_12 s0_X12_tips k_X12_316 (Nat.le_of_ble_eq_true rfl) dX12_act_52 rfl (r_tips hr1_h h6_h k5_h hT1 (fun M2 g1_h g2_h => ?_))
          have gp : M2.1 104 30 = nI 0 := (g1_h.2 104 30 (by unfold rT1; omega)).trans dk_put_s
          refine w_goto 95 dX12_act_55 (by decide) ?_
          refine w_is5 (n := 97) dX12_act_95 rfl rfl (by decide) ?_
          refine w_al0 (n := 98) dX12_act_97 rfl ?_
          refine g_Z (n := 101) f_X12_322_12 pl_104 dX12_act_98 rfl ?_
          rw [gp]
          refine w_if_eq (n := 104) 109 dX12_act_101 (by decide) rfl (fun z101_h => ?_) (fun z101_h => ?_)
          · skip
            refine w_il5 (n := 111) dX12_act_109 rfl ?_
            refine w_retI dX12_act_111 rfl ?_
            first | exact absurd rfl z101_h | (rw [if_pos (show a = nI 0 from z45_h)] at hq; have q := rE_act hE (f1_h.tr (rT12 g1_h)) g2_h; exact hq _ q.1 q.2) | (rw [if_neg (show ¬ a = nI 0 from z45_h), if_pos z60_h] at hq; have q := rE_act hE (f1_h.tr (rT12 g1_h)) g2_h; exact hq _ q.1 q.2) | (rw [if_neg (show ¬ a = nI 0 from z45_h), if_neg z60_h, if_pos z75_h] at hq; have q := rE_act hE (f1_h.tr g1_h) g2_h; have zb := gbI_0 z101_h; rw [zb] at hq q g4_h; rw [g4_h rfl]; exact hq _ q.1 q.2) | (rw [if_neg (show ¬ a = nI 0 from z45_h), if_neg z60_h, if_pos z75_h] at hq; have q := rE_act hE (f1_h.tr g1_h) g2_h; have zb := gbI_1 z101_h; rw [zb] at hq q; exact hq _ q.1 q.2) | (rw [if_neg (show ¬ a = nI 0 from z45_h), if_neg z60_h, if_neg z75_h] at hq; have q := rE_act hE (f1_h.tr g1_h) g2_h; have zb := gbI_0 z101_h; rw [zb] at hq q g4_h; rw [g4_h rfl]; exact hq _ q.1 q.2) | (rw [if_neg (show ¬ a = nI 0 from z45_h), if_neg z60_h, if_neg z75_h] at hq; have q := rE_act hE (f1_h.tr g1_h) g2_h; have zb := gbI_1 z101_h; rw [zb] at hq q; exact hq _ q.1 q.2)
          · skip
            refine w_bipush (n := 106) (-15) dX12_act_104 (by decide) rfl ?_
            refine w_goto 111 dX12_act_106 (by decide) ?_
            refine w_retI dX12_act_111 rfl ?_
            first | exact absurd rfl z101_h | (rw [if_pos (show a = nI 0 from z45_h)] at hq; have q := rE_act hE (f1_h.tr (rT12 g1_h)) g2_h; exact hq _ q.1 q.2) | (rw [if_neg (show ¬ a = nI 0 from z45_h), if_pos z60_h] at hq; have q := rE_act hE (f1_h.tr (rT12 g1_h)) g2_h; exact hq _ q.1 q.2) | (rw [if_neg (show ¬ a = nI 0 from z45_h), if_neg z60_h, if_pos z75_h] at hq; have q := rE_act hE (f1_h.tr g1_h) g2_h; have zb := gbI_0 z101_h; rw [zb] at hq q g4_h; rw [g4_h rfl]; exact hq _ q.1 q.2) | (rw [if_neg (show ¬ a = nI 0 from z45_h), if_neg z60_h, if_pos z75_h] at hq; have q := rE_act hE (f1_h.tr g1_h) g2_h; have zb := gbI_1 z101_h; rw [zb] at hq q; exact hq _ q.1 q.2) | (rw [if_neg (show ¬ a = nI 0 from z45_h), if_neg z60_h, if_neg z75_h] at hq; have q := rE_act hE (f1_h.tr g1_h) g2_h; have zb := gbI_0 z101_h; rw [zb] at hq q g4_h; rw [g4_h rfl]; exact hq _ q.1 q.2) | (rw [if_neg (show ¬ a = nI 0 from z45_h), if_neg z60_h, if_neg z75_h] at hq; have q := rE_act hE (f1_h.tr g1_h) g2_h; have zb := gbI_1 z101_h; rw [zb] at hq q; exact hq _ q.1 q.2)
      · skip
        refine w_if_ne (n := 29) 31 dX12_act_26 (by decide) rfl (fun h => absurd h (by decide)) (fun _ => ?_)
        refine w_iconst (n := 30) (nI 0) dX12_act_29 (by decide) rfl ?_
        refine w_retI dX12_act_30 rfl ?_
        have q := rE_act hE fe0_h (T := at_0 E) ⟨dk_put_s, Nat.zero_le _, fun i hi => by rw [dk_put_k (by omega)]; exact hE.1 119 i (41 + i) (by unfold eL; omega)⟩
        have ea : ef_act K E s a x = (nI 0, eT E (at_0 E)) := by
          unfold ef_act
          first | rw [if_neg (fun z => t6_h z.1)] | rw [if_neg (fun z => t15_h z.2)] | rw [if_pos ⟨t6_h, t15_h⟩, ← eP_T (T := at_0 E) (by omega), e1_h]
        rw [ea] at hq
        exact hq _ q.1 q.2
    · skip
      refine w_if_eq (n := 21) 29 dX12_act_18 (by decide) rfl (fun _ => ?_) (fun h => absurd (by decide) h)
      refine w_iconst (n := 30) (nI 0) dX12_act_29 (by decide) rfl ?_
      refine w_retI dX12_act_30 rfl ?_
      have q := rE_act hE fe0_h (T := at_0 E) ⟨dk_put_s, Nat.zero_le _, fun i hi => by rw [dk_put_k (by omega)]; exact hE.1 119 i (41 + i) (by unfold eL; omega)⟩
      have ea : ef_act K E s a x = (nI 0, eT E (at_0 E)) := by
        unfold ef_act
        first | rw [if_neg (fun z => t6_h z.1)] | rw [if_neg (fun z => t15_h z.2)] | rw [if_pos ⟨t6_h, t15_h⟩, ← eP_T (T := at_0 E) (by omega), e1_h]
      rw [ea] at hq
      exact hq _ q.1 q.2
  · skip
    refine w_if_eq (n := 12) 29 dX12_act_9 (by decide) rfl (fun _ => ?_) (fun h => absurd (by decide) h)
    refine w_iconst (n := 30) (nI 0) dX12_act_29 (by decide) rfl ?_
    refine w_retI dX12_act_30 rfl ?_
    have q := rE_act hE fe0_h (T := at_0 E) ⟨dk_put_s, Nat.zero_le _, fun i hi => by rw [dk_put_k (by omega)]; exact hE.1 119 i (41 + i) (by unfold eL; omega)⟩
    have ea : ef_act K E s a x = (nI 0, eT E (at_0 E)) := by
      unfold ef_act
      first | rw [if_neg (fun z => t6_h z.1)] | rw [if_neg (fun z => t15_h z.2)] | rw [if_pos ⟨t6_h, t15_h⟩, ← eP_T (T := at_0 E) (by omega), e1_h]
    rw [ea] at hq
    exact hq _ q.1 q.2
