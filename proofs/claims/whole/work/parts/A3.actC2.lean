def cAc (q k : Nat) : Prop := (q = 0 ∧ k = 16) ∨ (2 ≤ q ∧ q ≤ 13)
theorem cAc_X {M M' : dk_Mem} (h : dk_fr cAc M M') : dk_fr cXX M M' := h.up (fun q k z => by unfold cAc at z; unfold cXX; omega)
theorem cE_act {E : sg_E} {M M2 : dk_Mem} (hI : eI E) (hE : cE E M) {T : at_T} {κ : Nat} (hκ : κ < 6) (hf : dk_fr cAc M M2) (h16_h : M2.1 0 16 = nI (2 + 2 * κ)) (hT : cTS (2 + 2 * κ) T M2) : cE (eT E T) M2 := by
  obtain ⟨a1_h, a2_h, a3_h, a4_h, a5_h⟩ := hE
  refine ⟨a1_h.fr hI (fun j hj => eT_o (by omega)) (fun q k z => hf.2 q k (by unfold cAc; omega)), a2_h.fr (fun j hj => eT_o (by omega)) (fun q k z => hf.2 q k (by unfold cAc; omega)), a3_h.fr (fun j hj => eT_o (by omega)) (fun q k z => hf.2 q k (by unfold cAc; omega)), Or.inr ⟨κ, hκ, h16_h, ?_, fun i hi => ?_⟩, a5_h.fr hI (fun j hj => eT_o (by omega)) (fun q k z => hf.2 q k (by unfold cAc; omega))⟩
  · rw [eT_40]; exact hT.1
  · have tl := hT.2.1
    rw [eT_40, tN_nI (by omega)] at hi
    rw [eT_t (by omega), show 3 + 2 * κ = 2 + 2 * κ + 1 by omega]
    exact hT.2.2 i hi
theorem cE_act0 {E : sg_E} {M : dk_Mem} (hI : eI E) (hE : cE E M) : cE (eT E (at_0 E)) (dk_put M 0 16 (-1)) := by
  obtain ⟨a1_h, a2_h, a3_h, a4_h, a5_h⟩ := hE
  refine ⟨a1_h.fr hI (fun j hj => eT_o (by omega)) (fun q k z => dk_put_k (by omega)), a2_h.fr (fun j hj => eT_o (by omega)) (fun q k z => dk_put_k (by omega)), a3_h.fr (fun j hj => eT_o (by omega)) (fun q k z => dk_put_k (by omega)), Or.inl ⟨dk_put_s, ?_⟩, a5_h.fr hI (fun j hj => eT_o (by omega)) (fun q k z => dk_put_k (by omega))⟩
  rw [eT_40]
  rfl

set_option maxRecDepth 20000 in
theorem c_bec_0 {d : Nat} {M : dk_Mem} {Q : Option Value → dk_Mem → Prop} {h r : Nat} (hq : ∀ M2, dk_fr (fun q _ => q = 2) M M2 → cPc 2 h r M2 → M2.1 2 2 = nI 0 → M2.1 2 1 = nI 0 → Q none M2) : dk_Call d mX5_becomes [.ref 2, .int (nI h), .int (nI r)] M Q := by
  refine dk_enter [some (.ref 2), some (.int (nI h)), some (.int (nI r))] (by decide) (fun _ => rfl) (fun _ => Nat.le_of_ble_eq_true rfl) ?_
  refine w_al0 (n := 1) dX5_becomes_0 rfl ?_
  refine w_il1 (n := 2) dX5_becomes_1 rfl ?_
  refine p_I (n := 5) f_X5_23_5 pl_2 dX5_becomes_2 rfl ?_
  refine w_al0 (n := 6) dX5_becomes_5 rfl ?_
  refine w_il2 (n := 7) dX5_becomes_6 rfl ?_
  refine p_I (n := 10) f_X5_26_5 pl_2 dX5_becomes_7 rfl ?_
  refine w_al0 (n := 11) dX5_becomes_10 rfl ?_
  refine w_iconst (n := 12) (nI 0) dX5_becomes_11 (by decide) rfl ?_
  refine p_I (n := 15) f_X5_15_5 pl_2 dX5_becomes_12 rfl ?_
  refine w_al0 (n := 16) dX5_becomes_15 rfl ?_
  refine w_iconst (n := 17) (nI 0) dX5_becomes_16 (by decide) rfl ?_
  refine p_Z (n := 20) (by decide) f_X5_19_5 pl_2 dX5_becomes_17 rfl ?_
  refine w_ret dX5_becomes_20 rfl ?_
  exact hq _ ((((dk_fr.rf.put (S := fun q _ => q = 2) rfl).put (S := fun q _ => q = 2) rfl).put (S := fun q _ => q = 2) rfl).put (S := fun q _ => q = 2) rfl) ⟨by rw [dk_put_k (by omega), dk_put_k (by omega), dk_put_k (by omega), dk_put_s], by rw [dk_put_k (by omega), dk_put_k (by omega), dk_put_s]⟩ dk_put_s (by rw [dk_put_k (by omega), dk_put_s])

set_option maxRecDepth 20000 in
theorem c_aW_0 {d : Nat} {M : dk_Mem} {Q : Option Value → dk_Mem → Prop} {σ : Nat → Nat} (hs : cs σ M) {s h : Nat} (hs4_h : s < 4) (h6_h : h < 6) (hh : h < σ 4) (hm : M.1 103 s = nI h) (hk : σ (35 + 5 * h) = 0) {a x : Int32} {x4_h x5_h : Option Value} {T0 : at_T} (t0_h : T0.1 = 0) (hq : ∀ M2, dk_fr cAc M M2 → M2.1 0 16 = nI 2 → cTS 2 (at_act 0 h (σ (38 + 5 * h)) x T0 a).2 M2 → Q (some (.int (at_act 0 h (σ (38 + 5 * h)) x T0 a).1)) M2) : dk_W (d + 7) mX11_act 35 [some (.ref 0), some (.int (nI s)), some (.int a), some (.int x), x4_h, x5_h] [] M Q := by
  unfold at_act at hq
  refine w_al0 (n := 36) dX11_act_35 rfl ?_
  refine g_R (n := 39) f_X11_99_11 pl_0 rf_0_15 dX11_act_36 rfl ?_
  refine w_il1 (n := 40) dX11_act_39 rfl ?_
  refine i_iald (n := 41) pl_103 (j := s) rfl (by omega) (by decide) hm dX11_act_40 rfl ?_
  refine w_is4 (n := 43) dX11_act_41 rfl rfl (by decide) ?_
  refine w_al0 (n := 44) dX11_act_43 rfl ?_
  refine w_al0 (n := 45) dX11_act_44 rfl ?_
  refine g_R (n := 48) f_X11_25_11 pl_0 rf_0_0 dX11_act_45 rfl ?_
  refine w_al0 (n := 49) dX11_act_48 rfl ?_
  refine g_R (n := 52) f_X11_36_11 pl_0 rf_0_1 dX11_act_49 rfl ?_
  refine g_R (n := 55) f_X11_130_10 pl_14 rf_14_2 dX11_act_52 rfl ?_
  refine w_il4 (n := 57) dX11_act_55 rfl ?_
  refine i_iald (n := 58) pl_15 (j := h) rfl (by omega) (by decide) ((hs.kind hh).trans (congrArg nI hk)) dX11_act_57 rfl ?_
  refine i_aaldP (n := 59) pl_1 (j := 0) rfl (by decide) (by decide) rf_1_0 dX11_act_58 rfl ?_
  refine p_R (n := 62) (by decide) f_X11_102_11 pl_0 dX11_act_59 rfl ?_
  refine w_al0 (n := 63) dX11_act_62 rfl ?_
  refine g_M (n := 66) f_X11_102_11 pl_0 (dk_ref_i dk_put_s (by decide)) dX11_act_63 rfl ?_
  refine w_il4 (n := 68) dX11_act_66 rfl ?_
  refine w_al0 (n := 69) dX11_act_68 rfl ?_
  refine g_R (n := 72) f_X11_36_11 pl_0 rf_0_1 dX11_act_69 rfl ?_
  refine g_R (n := 75) f_X11_139_10 pl_14 rf_14_4 dX11_act_72 rfl ?_
  refine w_il4 (n := 77) dX11_act_75 rfl ?_
  refine i_iald (n := 78) pl_17 (j := h) rfl (by omega) (by decide) ((dk_put_k (by omega)).trans (hs.room hh)) dX11_act_77 rfl ?_
  refine w_cU2 (n := 81) (C := RX5) pl_2 cl_5 s0_X5_becomes ku_X11_335_5 (Nat.le_of_ble_eq_true rfl) dX11_act_78 rfl (c_bec_0 (fun M2 k1_h k2_h k3_h k4_h => ?_))
  have h16_h : M2.1 0 16 = nI 2 := (k1_h.2 0 16 (by omega)).trans dk_put_s
  have f2_h : dk_fr cAc M M2 := (dk_fr.rf.put (Or.inl ⟨rfl, rfl⟩)).tr (k1_h.up (fun q k z => by unfold cAc; omega))
  have hT : cTS 2 T0 M2 := ⟨by rw [k4_h, t0_h], by omega, fun i hi => by omega⟩
  refine w_il2 (n := 82) dX11_act_81 rfl ?_
  by_cases hs82_0 : a = (nI 0)
  · first | subst hs82_0 | rw [hs82_0]
    refine w_tabIn 108 dX11_act_82 (by decide) (by decide) rfl (by decide) ?_
    refine w_al0 (n := 109) dX11_act_108 rfl ?_
    refine g_M (n := 112) f_X11_102_11 pl_0 (dk_ref_i h16_h (by decide)) dX11_act_109 rfl ?_
    refine w_il3 (n := 113) dX11_act_112 rfl ?_
    refine w_cU1 (n := 116) (C := RX5) pl_2 cl_5 s0_X5_tips ku_X11_339_5 (Nat.le_of_ble_eq_true rfl) dX11_act_113 rfl (c_tips_0 k2_h k3_h hT (fun M3 g1_h g2_h => ?_))
    have h16b : M3.1 0 16 = nI 2 := (g1_h.2 0 16 (by unfold cT1; omega)).trans h16_h
    have gp : M3.1 2 2 = nI 0 := cp_T1 g1_h k3_h
    have f3_h := f2_h.tr (g1_h.up (fun q k z => by unfold cT1 at z; unfold cAc; omega))
    rw [if_pos rfl] at hq
    refine w_is5 (n := 118) dX11_act_116 rfl rfl (by decide) ?_
    refine w_goto 157 dX11_act_118 (by decide) ?_
    refine w_al0 (n := 158) dX11_act_157 rfl ?_
    refine g_M (n := 161) f_X11_102_11 pl_0 (dk_ref_i h16b (by decide)) dX11_act_158 rfl ?_
    refine g_Z (n := 164) f_X11_351_5 pl_2 dX11_act_161 rfl ?_
    rw [gp]
    refine w_if_eq (n := 167) 172 dX11_act_164 (by decide) rfl (fun z164_h => ?_) (fun z164_h => ?_)
    · skip
      refine w_il5 (n := 174) dX11_act_172 rfl ?_
      refine w_retI dX11_act_174 rfl ?_
      first | exact absurd rfl z164_h | (have q := hq M3 f3_h h16b g2_h; exact q) | (have zb := gbI_0 z164_h; have q := hq M3 f3_h h16b g2_h; rw [zb] at q g4_h; rw [g4_h rfl]; exact q) | (have zb := gbI_1 z164_h; have q := hq M3 f3_h h16b g2_h; rw [zb] at q; exact q)
    · skip
      refine w_bipush (n := 169) (-15) dX11_act_167 (by decide) rfl ?_
      refine w_goto 174 dX11_act_169 (by decide) ?_
      refine w_retI dX11_act_174 rfl ?_
      first | exact absurd rfl z164_h | (have q := hq M3 f3_h h16b g2_h; exact q) | (have zb := gbI_0 z164_h; have q := hq M3 f3_h h16b g2_h; rw [zb] at q g4_h; rw [g4_h rfl]; exact q) | (have zb := gbI_1 z164_h; have q := hq M3 f3_h h16b g2_h; rw [zb] at q; exact q)
  by_cases hs82_1 : a = (nI 1)
  · first | subst hs82_1 | rw [hs82_1]
    refine w_tabIn 121 dX11_act_82 (by decide) (by decide) rfl (by decide) ?_
    refine w_al0 (n := 122) dX11_act_121 rfl ?_
    refine g_M (n := 125) f_X11_102_11 pl_0 (dk_ref_i h16_h (by decide)) dX11_act_122 rfl ?_
    refine w_il3 (n := 126) dX11_act_125 rfl ?_
    refine w_cU1 (n := 129) (C := RX5) pl_2 cl_5 s0_X5_taps ku_X11_342_5 (Nat.le_of_ble_eq_true rfl) dX11_act_126 rfl (c_taps_0 k2_h k3_h hT (fun M3 g1_h g2_h => ?_))
    have h16b : M3.1 0 16 = nI 2 := (g1_h.2 0 16 (by unfold cT1; omega)).trans h16_h
    have gp : M3.1 2 2 = nI 0 := cp_T1 g1_h k3_h
    have f3_h := f2_h.tr (g1_h.up (fun q k z => by unfold cT1 at z; unfold cAc; omega))
    rw [if_neg (by decide), if_pos rfl] at hq
    refine w_is5 (n := 131) dX11_act_129 rfl rfl (by decide) ?_
    refine w_goto 157 dX11_act_131 (by decide) ?_
    refine w_al0 (n := 158) dX11_act_157 rfl ?_
    refine g_M (n := 161) f_X11_102_11 pl_0 (dk_ref_i h16b (by decide)) dX11_act_158 rfl ?_
    refine g_Z (n := 164) f_X11_351_5 pl_2 dX11_act_161 rfl ?_
    rw [gp]
    refine w_if_eq (n := 167) 172 dX11_act_164 (by decide) rfl (fun z164_h => ?_) (fun z164_h => ?_)
    · skip
      refine w_il5 (n := 174) dX11_act_172 rfl ?_
      refine w_retI dX11_act_174 rfl ?_
      first | exact absurd rfl z164_h | (have q := hq M3 f3_h h16b g2_h; exact q) | (have zb := gbI_0 z164_h; have q := hq M3 f3_h h16b g2_h; rw [zb] at q g4_h; rw [g4_h rfl]; exact q) | (have zb := gbI_1 z164_h; have q := hq M3 f3_h h16b g2_h; rw [zb] at q; exact q)
    · skip
      refine w_bipush (n := 169) (-15) dX11_act_167 (by decide) rfl ?_
      refine w_goto 174 dX11_act_169 (by decide) ?_
      refine w_retI dX11_act_174 rfl ?_
      first | exact absurd rfl z164_h | (have q := hq M3 f3_h h16b g2_h; exact q) | (have zb := gbI_0 z164_h; have q := hq M3 f3_h h16b g2_h; rw [zb] at q g4_h; rw [g4_h rfl]; exact q) | (have zb := gbI_1 z164_h; have q := hq M3 f3_h h16b g2_h; rw [zb] at q; exact q)
  by_cases hs82_2 : a = (nI 2)
  · first | subst hs82_2 | rw [hs82_2]
    refine w_tabIn 134 dX11_act_82 (by decide) (by decide) rfl (by decide) ?_
    refine w_al0 (n := 135) dX11_act_134 rfl ?_
    refine g_M (n := 138) f_X11_102_11 pl_0 (dk_ref_i h16_h (by decide)) dX11_act_135 rfl ?_
    refine w_il3 (n := 139) dX11_act_138 rfl ?_
    refine w_cU1 (n := 142) (C := RX5) pl_2 cl_5 s0_X5_halves ku_X11_345_5 (Nat.le_of_ble_eq_true rfl) dX11_act_139 rfl (c_halves_0 k2_h k3_h hT (fun M3 v g1_h g2_h gp g4_h => ?_))
    have h16b : M3.1 0 16 = nI 2 := (g1_h.2 0 16 (by unfold cT2; omega)).trans h16_h
    have f3_h := f2_h.tr (g1_h.up (fun q k z => by unfold cT2 at z; unfold cAc; omega))
    rw [if_neg (by decide), if_neg (by decide), if_pos rfl] at hq
    refine w_is5 (n := 144) dX11_act_142 rfl rfl (by decide) ?_
    refine w_goto 157 dX11_act_144 (by decide) ?_
    refine w_al0 (n := 158) dX11_act_157 rfl ?_
    refine g_M (n := 161) f_X11_102_11 pl_0 (dk_ref_i h16b (by decide)) dX11_act_158 rfl ?_
    refine g_Z (n := 164) f_X11_351_5 pl_2 dX11_act_161 rfl ?_
    rw [gp]
    refine w_if_eq (n := 167) 172 dX11_act_164 (by decide) rfl (fun z164_h => ?_) (fun z164_h => ?_)
    · skip
      refine w_il5 (n := 174) dX11_act_172 rfl ?_
      refine w_retI dX11_act_174 rfl ?_
      first | exact absurd rfl z164_h | (have q := hq M3 f3_h h16b g2_h; exact q) | (have zb := gbI_0 z164_h; have q := hq M3 f3_h h16b g2_h; rw [zb] at q g4_h; rw [g4_h rfl]; exact q) | (have zb := gbI_1 z164_h; have q := hq M3 f3_h h16b g2_h; rw [zb] at q; exact q)
    · skip
      refine w_bipush (n := 169) (-15) dX11_act_167 (by decide) rfl ?_
      refine w_goto 174 dX11_act_169 (by decide) ?_
      refine w_retI dX11_act_174 rfl ?_
      first | exact absurd rfl z164_h | (have q := hq M3 f3_h h16b g2_h; exact q) | (have zb := gbI_0 z164_h; have q := hq M3 f3_h h16b g2_h; rw [zb] at q g4_h; rw [g4_h rfl]; exact q) | (have zb := gbI_1 z164_h; have q := hq M3 f3_h h16b g2_h; rw [zb] at q; exact q)
  refine w_tabOut 147 dX11_act_82 (dk_out3 hs82_0 hs82_1 hs82_2) (by decide) ?_
  refine w_al0 (n := 148) dX11_act_147 rfl ?_
  refine g_M (n := 151) f_X11_102_11 pl_0 (dk_ref_i h16_h (by decide)) dX11_act_148 rfl ?_
  refine w_il3 (n := 152) dX11_act_151 rfl ?_
  refine w_cU1 (n := 155) (C := RX5) pl_2 cl_5 s0_X5_turns ku_X11_348_5 (Nat.le_of_ble_eq_true rfl) dX11_act_152 rfl (c_turns_0 k2_h k3_h hT (fun M3 v g1_h g2_h gp g4_h => ?_))
  have h16b : M3.1 0 16 = nI 2 := (g1_h.2 0 16 (by unfold cT2; omega)).trans h16_h
  have f3_h := f2_h.tr (g1_h.up (fun q k z => by unfold cT2 at z; unfold cAc; omega))
  rw [if_neg hs82_0, if_neg hs82_1, if_neg hs82_2] at hq
  refine w_is5 (n := 157) dX11_act_155 rfl rfl (by decide) ?_
  refine w_al0 (n := 158) dX11_act_157 rfl ?_
  refine g_M (n := 161) f_X11_102_11 pl_0 (dk_ref_i h16b (by decide)) dX11_act_158 rfl ?_
  refine g_Z (n := 164) f_X11_351_5 pl_2 dX11_act_161 rfl ?_
  rw [gp]
  refine w_if_eq (n := 167) 172 dX11_act_164 (by decide) rfl (fun z164_h => ?_) (fun z164_h => ?_)
  · skip
    refine w_il5 (n := 174) dX11_act_172 rfl ?_
    refine w_retI dX11_act_174 rfl ?_
    first | exact absurd rfl z164_h | (have q := hq M3 f3_h h16b g2_h; exact q) | (have zb := gbI_0 z164_h; have q := hq M3 f3_h h16b g2_h; rw [zb] at q g4_h; rw [g4_h rfl]; exact q) | (have zb := gbI_1 z164_h; have q := hq M3 f3_h h16b g2_h; rw [zb] at q; exact q)
  · skip
    refine w_bipush (n := 169) (-15) dX11_act_167 (by decide) rfl ?_
    refine w_goto 174 dX11_act_169 (by decide) ?_
    refine w_retI dX11_act_174 rfl ?_
    first | exact absurd rfl z164_h | (have q := hq M3 f3_h h16b g2_h; exact q) | (have zb := gbI_0 z164_h; have q := hq M3 f3_h h16b g2_h; rw [zb] at q g4_h; rw [g4_h rfl]; exact q) | (have zb := gbI_1 z164_h; have q := hq M3 f3_h h16b g2_h; rw [zb] at q; exact q)

set_option maxRecDepth 20000 in
theorem c_bec_1 {d : Nat} {M : dk_Mem} {Q : Option Value → dk_Mem → Prop} {h r : Nat} (hq : ∀ M2, dk_fr (fun q _ => q = 4) M M2 → cPc 4 h r M2 → M2.1 4 2 = nI 0 → M2.1 4 1 = nI 0 → Q none M2) : dk_Call d mX5_becomes [.ref 4, .int (nI h), .int (nI r)] M Q := by
  refine dk_enter [some (.ref 4), some (.int (nI h)), some (.int (nI r))] (by decide) (fun _ => rfl) (fun _ => Nat.le_of_ble_eq_true rfl) ?_
  refine w_al0 (n := 1) dX5_becomes_0 rfl ?_
  refine w_il1 (n := 2) dX5_becomes_1 rfl ?_
  refine p_I (n := 5) f_X5_23_0 pl_4 dX5_becomes_2 rfl ?_
  refine w_al0 (n := 6) dX5_becomes_5 rfl ?_
  refine w_il2 (n := 7) dX5_becomes_6 rfl ?_
  refine p_I (n := 10) f_X5_26_0 pl_4 dX5_becomes_7 rfl ?_
  refine w_al0 (n := 11) dX5_becomes_10 rfl ?_
  refine w_iconst (n := 12) (nI 0) dX5_becomes_11 (by decide) rfl ?_
  refine p_I (n := 15) f_X5_15_0 pl_4 dX5_becomes_12 rfl ?_
  refine w_al0 (n := 16) dX5_becomes_15 rfl ?_
  refine w_iconst (n := 17) (nI 0) dX5_becomes_16 (by decide) rfl ?_
  refine p_Z (n := 20) (by decide) f_X5_19_0 pl_4 dX5_becomes_17 rfl ?_
  refine w_ret dX5_becomes_20 rfl ?_
  exact hq _ ((((dk_fr.rf.put (S := fun q _ => q = 4) rfl).put (S := fun q _ => q = 4) rfl).put (S := fun q _ => q = 4) rfl).put (S := fun q _ => q = 4) rfl) ⟨by rw [dk_put_k (by omega), dk_put_k (by omega), dk_put_k (by omega), dk_put_s], by rw [dk_put_k (by omega), dk_put_k (by omega), dk_put_s]⟩ dk_put_s (by rw [dk_put_k (by omega), dk_put_s])

set_option maxRecDepth 20000 in
theorem c_aW_1 {d : Nat} {M : dk_Mem} {Q : Option Value → dk_Mem → Prop} {σ : Nat → Nat} (hs : cs σ M) {s h : Nat} (hs4_h : s < 4) (h6_h : h < 6) (hh : h < σ 4) (hm : M.1 103 s = nI h) (hk : σ (35 + 5 * h) = 1) {a x : Int32} {x4_h x5_h : Option Value} {T0 : at_T} (t0_h : T0.1 = 0) (hq : ∀ M2, dk_fr cAc M M2 → M2.1 0 16 = nI 4 → cTS 4 (at_act 1 h (σ (38 + 5 * h)) x T0 a).2 M2 → Q (some (.int (at_act 1 h (σ (38 + 5 * h)) x T0 a).1)) M2) : dk_W (d + 7) mX11_act 35 [some (.ref 0), some (.int (nI s)), some (.int a), some (.int x), x4_h, x5_h] [] M Q := by
  unfold at_act at hq
  refine w_al0 (n := 36) dX11_act_35 rfl ?_
  refine g_R (n := 39) f_X11_99_11 pl_0 rf_0_15 dX11_act_36 rfl ?_
  refine w_il1 (n := 40) dX11_act_39 rfl ?_
  refine i_iald (n := 41) pl_103 (j := s) rfl (by omega) (by decide) hm dX11_act_40 rfl ?_
  refine w_is4 (n := 43) dX11_act_41 rfl rfl (by decide) ?_
  refine w_al0 (n := 44) dX11_act_43 rfl ?_
  refine w_al0 (n := 45) dX11_act_44 rfl ?_
  refine g_R (n := 48) f_X11_25_11 pl_0 rf_0_0 dX11_act_45 rfl ?_
  refine w_al0 (n := 49) dX11_act_48 rfl ?_
  refine g_R (n := 52) f_X11_36_11 pl_0 rf_0_1 dX11_act_49 rfl ?_
  refine g_R (n := 55) f_X11_130_10 pl_14 rf_14_2 dX11_act_52 rfl ?_
  refine w_il4 (n := 57) dX11_act_55 rfl ?_
  refine i_iald (n := 58) pl_15 (j := h) rfl (by omega) (by decide) ((hs.kind hh).trans (congrArg nI hk)) dX11_act_57 rfl ?_
  refine i_aaldP (n := 59) pl_1 (j := 1) rfl (by decide) (by decide) rf_1_1 dX11_act_58 rfl ?_
  refine p_R (n := 62) (by decide) f_X11_102_11 pl_0 dX11_act_59 rfl ?_
  refine w_al0 (n := 63) dX11_act_62 rfl ?_
  refine g_M (n := 66) f_X11_102_11 pl_0 (dk_ref_i dk_put_s (by decide)) dX11_act_63 rfl ?_
  refine w_il4 (n := 68) dX11_act_66 rfl ?_
  refine w_al0 (n := 69) dX11_act_68 rfl ?_
  refine g_R (n := 72) f_X11_36_11 pl_0 rf_0_1 dX11_act_69 rfl ?_
  refine g_R (n := 75) f_X11_139_10 pl_14 rf_14_4 dX11_act_72 rfl ?_
  refine w_il4 (n := 77) dX11_act_75 rfl ?_
  refine i_iald (n := 78) pl_17 (j := h) rfl (by omega) (by decide) ((dk_put_k (by omega)).trans (hs.room hh)) dX11_act_77 rfl ?_
  refine w_cU2 (n := 81) (C := RX0) pl_4 cl_0 s0_X5_becomes ku_X11_335_0 (Nat.le_of_ble_eq_true rfl) dX11_act_78 rfl (c_bec_1 (fun M2 k1_h k2_h k3_h k4_h => ?_))
  have h16_h : M2.1 0 16 = nI 4 := (k1_h.2 0 16 (by omega)).trans dk_put_s
  have f2_h : dk_fr cAc M M2 := (dk_fr.rf.put (Or.inl ⟨rfl, rfl⟩)).tr (k1_h.up (fun q k z => by unfold cAc; omega))
  have hT : cTS 4 T0 M2 := ⟨by rw [k4_h, t0_h], by omega, fun i hi => by omega⟩
  refine w_il2 (n := 82) dX11_act_81 rfl ?_
  by_cases hs82_0 : a = (nI 0)
  · first | subst hs82_0 | rw [hs82_0]
    refine w_tabIn 108 dX11_act_82 (by decide) (by decide) rfl (by decide) ?_
    refine w_al0 (n := 109) dX11_act_108 rfl ?_
    refine g_M (n := 112) f_X11_102_11 pl_0 (dk_ref_i h16_h (by decide)) dX11_act_109 rfl ?_
    refine w_il3 (n := 113) dX11_act_112 rfl ?_
    refine w_cU1 (n := 116) (C := RX0) pl_4 cl_0 s0_X0_tips ku_X11_339_0 (Nat.le_of_ble_eq_true rfl) dX11_act_113 rfl (c_tips_1 k2_h k3_h hT (fun M3 g1_h g2_h => ?_))
    have h16b : M3.1 0 16 = nI 4 := (g1_h.2 0 16 (by unfold cT1; omega)).trans h16_h
    have gp : M3.1 4 2 = nI 0 := cp_T1 g1_h k3_h
    have f3_h := f2_h.tr (g1_h.up (fun q k z => by unfold cT1 at z; unfold cAc; omega))
    rw [if_pos rfl] at hq
    refine w_is5 (n := 118) dX11_act_116 rfl rfl (by decide) ?_
    refine w_goto 157 dX11_act_118 (by decide) ?_
    refine w_al0 (n := 158) dX11_act_157 rfl ?_
    refine g_M (n := 161) f_X11_102_11 pl_0 (dk_ref_i h16b (by decide)) dX11_act_158 rfl ?_
    refine g_Z (n := 164) f_X11_351_0 pl_4 dX11_act_161 rfl ?_
    rw [gp]
    refine w_if_eq (n := 167) 172 dX11_act_164 (by decide) rfl (fun z164_h => ?_) (fun z164_h => ?_)
    · skip
      refine w_il5 (n := 174) dX11_act_172 rfl ?_
      refine w_retI dX11_act_174 rfl ?_
      first | exact absurd rfl z164_h | (have q := hq M3 f3_h h16b g2_h; exact q) | (have zb := gbI_0 z164_h; have q := hq M3 f3_h h16b g2_h; rw [zb] at q g4_h; rw [g4_h rfl]; exact q) | (have zb := gbI_1 z164_h; have q := hq M3 f3_h h16b g2_h; rw [zb] at q; exact q)
    · skip
      refine w_bipush (n := 169) (-15) dX11_act_167 (by decide) rfl ?_
      refine w_goto 174 dX11_act_169 (by decide) ?_
      refine w_retI dX11_act_174 rfl ?_
      first | exact absurd rfl z164_h | (have q := hq M3 f3_h h16b g2_h; exact q) | (have zb := gbI_0 z164_h; have q := hq M3 f3_h h16b g2_h; rw [zb] at q g4_h; rw [g4_h rfl]; exact q) | (have zb := gbI_1 z164_h; have q := hq M3 f3_h h16b g2_h; rw [zb] at q; exact q)
  by_cases hs82_1 : a = (nI 1)
  · first | subst hs82_1 | rw [hs82_1]
    refine w_tabIn 121 dX11_act_82 (by decide) (by decide) rfl (by decide) ?_
    refine w_al0 (n := 122) dX11_act_121 rfl ?_
    refine g_M (n := 125) f_X11_102_11 pl_0 (dk_ref_i h16_h (by decide)) dX11_act_122 rfl ?_
    refine w_il3 (n := 126) dX11_act_125 rfl ?_
    refine w_cU1 (n := 129) (C := RX0) pl_4 cl_0 s0_X5_taps ku_X11_342_0 (Nat.le_of_ble_eq_true rfl) dX11_act_126 rfl (c_taps_1 k2_h k3_h hT (fun M3 g1_h g2_h => ?_))
    have h16b : M3.1 0 16 = nI 4 := (g1_h.2 0 16 (by unfold cT1; omega)).trans h16_h
    have gp : M3.1 4 2 = nI 0 := cp_T1 g1_h k3_h
    have f3_h := f2_h.tr (g1_h.up (fun q k z => by unfold cT1 at z; unfold cAc; omega))
    rw [if_neg (by decide), if_pos rfl] at hq
    refine w_is5 (n := 131) dX11_act_129 rfl rfl (by decide) ?_
    refine w_goto 157 dX11_act_131 (by decide) ?_
    refine w_al0 (n := 158) dX11_act_157 rfl ?_
    refine g_M (n := 161) f_X11_102_11 pl_0 (dk_ref_i h16b (by decide)) dX11_act_158 rfl ?_
    refine g_Z (n := 164) f_X11_351_0 pl_4 dX11_act_161 rfl ?_
    rw [gp]
    refine w_if_eq (n := 167) 172 dX11_act_164 (by decide) rfl (fun z164_h => ?_) (fun z164_h => ?_)
    · skip
      refine w_il5 (n := 174) dX11_act_172 rfl ?_
      refine w_retI dX11_act_174 rfl ?_
      first | exact absurd rfl z164_h | (have q := hq M3 f3_h h16b g2_h; exact q) | (have zb := gbI_0 z164_h; have q := hq M3 f3_h h16b g2_h; rw [zb] at q g4_h; rw [g4_h rfl]; exact q) | (have zb := gbI_1 z164_h; have q := hq M3 f3_h h16b g2_h; rw [zb] at q; exact q)
    · skip
      refine w_bipush (n := 169) (-15) dX11_act_167 (by decide) rfl ?_
      refine w_goto 174 dX11_act_169 (by decide) ?_
      refine w_retI dX11_act_174 rfl ?_
      first | exact absurd rfl z164_h | (have q := hq M3 f3_h h16b g2_h; exact q) | (have zb := gbI_0 z164_h; have q := hq M3 f3_h h16b g2_h; rw [zb] at q g4_h; rw [g4_h rfl]; exact q) | (have zb := gbI_1 z164_h; have q := hq M3 f3_h h16b g2_h; rw [zb] at q; exact q)
  by_cases hs82_2 : a = (nI 2)
  · first | subst hs82_2 | rw [hs82_2]
    refine w_tabIn 134 dX11_act_82 (by decide) (by decide) rfl (by decide) ?_
    refine w_al0 (n := 135) dX11_act_134 rfl ?_
    refine g_M (n := 138) f_X11_102_11 pl_0 (dk_ref_i h16_h (by decide)) dX11_act_135 rfl ?_
    refine w_il3 (n := 139) dX11_act_138 rfl ?_
    refine w_cU1 (n := 142) (C := RX0) pl_4 cl_0 s0_X5_halves ku_X11_345_0 (Nat.le_of_ble_eq_true rfl) dX11_act_139 rfl (c_halves_1 k2_h k3_h hT (fun M3 v g1_h g2_h gp g4_h => ?_))
    have h16b : M3.1 0 16 = nI 4 := (g1_h.2 0 16 (by unfold cT2; omega)).trans h16_h
    have f3_h := f2_h.tr (g1_h.up (fun q k z => by unfold cT2 at z; unfold cAc; omega))
    rw [if_neg (by decide), if_neg (by decide), if_pos rfl] at hq
    refine w_is5 (n := 144) dX11_act_142 rfl rfl (by decide) ?_
    refine w_goto 157 dX11_act_144 (by decide) ?_
    refine w_al0 (n := 158) dX11_act_157 rfl ?_
    refine g_M (n := 161) f_X11_102_11 pl_0 (dk_ref_i h16b (by decide)) dX11_act_158 rfl ?_
    refine g_Z (n := 164) f_X11_351_0 pl_4 dX11_act_161 rfl ?_
    rw [gp]
    refine w_if_eq (n := 167) 172 dX11_act_164 (by decide) rfl (fun z164_h => ?_) (fun z164_h => ?_)
    · skip
      refine w_il5 (n := 174) dX11_act_172 rfl ?_
      refine w_retI dX11_act_174 rfl ?_
      first | exact absurd rfl z164_h | (have q := hq M3 f3_h h16b g2_h; exact q) | (have zb := gbI_0 z164_h; have q := hq M3 f3_h h16b g2_h; rw [zb] at q g4_h; rw [g4_h rfl]; exact q) | (have zb := gbI_1 z164_h; have q := hq M3 f3_h h16b g2_h; rw [zb] at q; exact q)
    · skip
      refine w_bipush (n := 169) (-15) dX11_act_167 (by decide) rfl ?_
      refine w_goto 174 dX11_act_169 (by decide) ?_
      refine w_retI dX11_act_174 rfl ?_
      first | exact absurd rfl z164_h | (have q := hq M3 f3_h h16b g2_h; exact q) | (have zb := gbI_0 z164_h; have q := hq M3 f3_h h16b g2_h; rw [zb] at q g4_h; rw [g4_h rfl]; exact q) | (have zb := gbI_1 z164_h; have q := hq M3 f3_h h16b g2_h; rw [zb] at q; exact q)
  refine w_tabOut 147 dX11_act_82 (dk_out3 hs82_0 hs82_1 hs82_2) (by decide) ?_
  refine w_al0 (n := 148) dX11_act_147 rfl ?_
  refine g_M (n := 151) f_X11_102_11 pl_0 (dk_ref_i h16_h (by decide)) dX11_act_148 rfl ?_
  refine w_il3 (n := 152) dX11_act_151 rfl ?_
  refine w_cU1 (n := 155) (C := RX0) pl_4 cl_0 s0_X5_turns ku_X11_348_0 (Nat.le_of_ble_eq_true rfl) dX11_act_152 rfl (c_turns_1 k2_h k3_h hT (fun M3 v g1_h g2_h gp g4_h => ?_))
  have h16b : M3.1 0 16 = nI 4 := (g1_h.2 0 16 (by unfold cT2; omega)).trans h16_h
  have f3_h := f2_h.tr (g1_h.up (fun q k z => by unfold cT2 at z; unfold cAc; omega))
  rw [if_neg hs82_0, if_neg hs82_1, if_neg hs82_2] at hq
  refine w_is5 (n := 157) dX11_act_155 rfl rfl (by decide) ?_
  refine w_al0 (n := 158) dX11_act_157 rfl ?_
  refine g_M (n := 161) f_X11_102_11 pl_0 (dk_ref_i h16b (by decide)) dX11_act_158 rfl ?_
  refine g_Z (n := 164) f_X11_351_0 pl_4 dX11_act_161 rfl ?_
  rw [gp]
  refine w_if_eq (n := 167) 172 dX11_act_164 (by decide) rfl (fun z164_h => ?_) (fun z164_h => ?_)
  · skip
    refine w_il5 (n := 174) dX11_act_172 rfl ?_
    refine w_retI dX11_act_174 rfl ?_
    first | exact absurd rfl z164_h | (have q := hq M3 f3_h h16b g2_h; exact q) | (have zb := gbI_0 z164_h; have q := hq M3 f3_h h16b g2_h; rw [zb] at q g4_h; rw [g4_h rfl]; exact q) | (have zb := gbI_1 z164_h; have q := hq M3 f3_h h16b g2_h; rw [zb] at q; exact q)
  · skip
    refine w_bipush (n := 169) (-15) dX11_act_167 (by decide) rfl ?_
    refine w_goto 174 dX11_act_169 (by decide) ?_
    refine w_retI dX11_act_174 rfl ?_
    first | exact absurd rfl z164_h | (have q := hq M3 f3_h h16b g2_h; exact q) | (have zb := gbI_0 z164_h; have q := hq M3 f3_h h16b g2_h; rw [zb] at q g4_h; rw [g4_h rfl]; exact q) | (have zb := gbI_1 z164_h; have q := hq M3 f3_h h16b g2_h; rw [zb] at q; exact q)

set_option maxRecDepth 20000 in
theorem c_bec_2 {d : Nat} {M : dk_Mem} {Q : Option Value → dk_Mem → Prop} {h r : Nat} (hq : ∀ M2, dk_fr (fun q _ => q = 6) M M2 → cPc 6 h r M2 → M2.1 6 2 = nI 0 → M2.1 6 1 = nI 0 → Q none M2) : dk_Call d mX5_becomes [.ref 6, .int (nI h), .int (nI r)] M Q := by
  refine dk_enter [some (.ref 6), some (.int (nI h)), some (.int (nI r))] (by decide) (fun _ => rfl) (fun _ => Nat.le_of_ble_eq_true rfl) ?_
  refine w_al0 (n := 1) dX5_becomes_0 rfl ?_
  refine w_il1 (n := 2) dX5_becomes_1 rfl ?_
  refine p_I (n := 5) f_X5_23_2 pl_6 dX5_becomes_2 rfl ?_
  refine w_al0 (n := 6) dX5_becomes_5 rfl ?_
  refine w_il2 (n := 7) dX5_becomes_6 rfl ?_
  refine p_I (n := 10) f_X5_26_2 pl_6 dX5_becomes_7 rfl ?_
  refine w_al0 (n := 11) dX5_becomes_10 rfl ?_
  refine w_iconst (n := 12) (nI 0) dX5_becomes_11 (by decide) rfl ?_
  refine p_I (n := 15) f_X5_15_2 pl_6 dX5_becomes_12 rfl ?_
  refine w_al0 (n := 16) dX5_becomes_15 rfl ?_
  refine w_iconst (n := 17) (nI 0) dX5_becomes_16 (by decide) rfl ?_
  refine p_Z (n := 20) (by decide) f_X5_19_2 pl_6 dX5_becomes_17 rfl ?_
  refine w_ret dX5_becomes_20 rfl ?_
  exact hq _ ((((dk_fr.rf.put (S := fun q _ => q = 6) rfl).put (S := fun q _ => q = 6) rfl).put (S := fun q _ => q = 6) rfl).put (S := fun q _ => q = 6) rfl) ⟨by rw [dk_put_k (by omega), dk_put_k (by omega), dk_put_k (by omega), dk_put_s], by rw [dk_put_k (by omega), dk_put_k (by omega), dk_put_s]⟩ dk_put_s (by rw [dk_put_k (by omega), dk_put_s])

set_option maxRecDepth 20000 in
theorem c_aW_2 {d : Nat} {M : dk_Mem} {Q : Option Value → dk_Mem → Prop} {σ : Nat → Nat} (hs : cs σ M) {s h : Nat} (hs4_h : s < 4) (h6_h : h < 6) (hh : h < σ 4) (hm : M.1 103 s = nI h) (hk : σ (35 + 5 * h) = 2) {a x : Int32} {x4_h x5_h : Option Value} {T0 : at_T} (t0_h : T0.1 = 0) (hq : ∀ M2, dk_fr cAc M M2 → M2.1 0 16 = nI 6 → cTS 6 (at_act 2 h (σ (38 + 5 * h)) x T0 a).2 M2 → Q (some (.int (at_act 2 h (σ (38 + 5 * h)) x T0 a).1)) M2) : dk_W (d + 7) mX11_act 35 [some (.ref 0), some (.int (nI s)), some (.int a), some (.int x), x4_h, x5_h] [] M Q := by
  unfold at_act at hq
  refine w_al0 (n := 36) dX11_act_35 rfl ?_
  refine g_R (n := 39) f_X11_99_11 pl_0 rf_0_15 dX11_act_36 rfl ?_
  refine w_il1 (n := 40) dX11_act_39 rfl ?_
  refine i_iald (n := 41) pl_103 (j := s) rfl (by omega) (by decide) hm dX11_act_40 rfl ?_
  refine w_is4 (n := 43) dX11_act_41 rfl rfl (by decide) ?_
  refine w_al0 (n := 44) dX11_act_43 rfl ?_
  refine w_al0 (n := 45) dX11_act_44 rfl ?_
  refine g_R (n := 48) f_X11_25_11 pl_0 rf_0_0 dX11_act_45 rfl ?_
  refine w_al0 (n := 49) dX11_act_48 rfl ?_
  refine g_R (n := 52) f_X11_36_11 pl_0 rf_0_1 dX11_act_49 rfl ?_
  refine g_R (n := 55) f_X11_130_10 pl_14 rf_14_2 dX11_act_52 rfl ?_
  refine w_il4 (n := 57) dX11_act_55 rfl ?_
  refine i_iald (n := 58) pl_15 (j := h) rfl (by omega) (by decide) ((hs.kind hh).trans (congrArg nI hk)) dX11_act_57 rfl ?_
  refine i_aaldP (n := 59) pl_1 (j := 2) rfl (by decide) (by decide) rf_1_2 dX11_act_58 rfl ?_
  refine p_R (n := 62) (by decide) f_X11_102_11 pl_0 dX11_act_59 rfl ?_
  refine w_al0 (n := 63) dX11_act_62 rfl ?_
  refine g_M (n := 66) f_X11_102_11 pl_0 (dk_ref_i dk_put_s (by decide)) dX11_act_63 rfl ?_
  refine w_il4 (n := 68) dX11_act_66 rfl ?_
  refine w_al0 (n := 69) dX11_act_68 rfl ?_
  refine g_R (n := 72) f_X11_36_11 pl_0 rf_0_1 dX11_act_69 rfl ?_
  refine g_R (n := 75) f_X11_139_10 pl_14 rf_14_4 dX11_act_72 rfl ?_
  refine w_il4 (n := 77) dX11_act_75 rfl ?_
  refine i_iald (n := 78) pl_17 (j := h) rfl (by omega) (by decide) ((dk_put_k (by omega)).trans (hs.room hh)) dX11_act_77 rfl ?_
  refine w_cU2 (n := 81) (C := RX2) pl_6 cl_2 s0_X5_becomes ku_X11_335_2 (Nat.le_of_ble_eq_true rfl) dX11_act_78 rfl (c_bec_2 (fun M2 k1_h k2_h k3_h k4_h => ?_))
  have h16_h : M2.1 0 16 = nI 6 := (k1_h.2 0 16 (by omega)).trans dk_put_s
  have f2_h : dk_fr cAc M M2 := (dk_fr.rf.put (Or.inl ⟨rfl, rfl⟩)).tr (k1_h.up (fun q k z => by unfold cAc; omega))
  have hT : cTS 6 T0 M2 := ⟨by rw [k4_h, t0_h], by omega, fun i hi => by omega⟩
  refine w_il2 (n := 82) dX11_act_81 rfl ?_
  by_cases hs82_0 : a = (nI 0)
  · first | subst hs82_0 | rw [hs82_0]
    refine w_tabIn 108 dX11_act_82 (by decide) (by decide) rfl (by decide) ?_
    refine w_al0 (n := 109) dX11_act_108 rfl ?_
    refine g_M (n := 112) f_X11_102_11 pl_0 (dk_ref_i h16_h (by decide)) dX11_act_109 rfl ?_
    refine w_il3 (n := 113) dX11_act_112 rfl ?_
    refine w_cU1 (n := 116) (C := RX2) pl_6 cl_2 s0_X5_tips ku_X11_339_2 (Nat.le_of_ble_eq_true rfl) dX11_act_113 rfl (c_tips_2 k2_h k3_h hT (fun M3 g1_h g2_h => ?_))
    have h16b : M3.1 0 16 = nI 6 := (g1_h.2 0 16 (by unfold cT1; omega)).trans h16_h
    have gp : M3.1 6 2 = nI 0 := cp_T1 g1_h k3_h
    have f3_h := f2_h.tr (g1_h.up (fun q k z => by unfold cT1 at z; unfold cAc; omega))
    rw [if_pos rfl] at hq
    refine w_is5 (n := 118) dX11_act_116 rfl rfl (by decide) ?_
    refine w_goto 157 dX11_act_118 (by decide) ?_
    refine w_al0 (n := 158) dX11_act_157 rfl ?_
    refine g_M (n := 161) f_X11_102_11 pl_0 (dk_ref_i h16b (by decide)) dX11_act_158 rfl ?_
    refine g_Z (n := 164) f_X11_351_2 pl_6 dX11_act_161 rfl ?_
    rw [gp]
    refine w_if_eq (n := 167) 172 dX11_act_164 (by decide) rfl (fun z164_h => ?_) (fun z164_h => ?_)
    · skip
      refine w_il5 (n := 174) dX11_act_172 rfl ?_
      refine w_retI dX11_act_174 rfl ?_
      first | exact absurd rfl z164_h | (have q := hq M3 f3_h h16b g2_h; exact q) | (have zb := gbI_0 z164_h; have q := hq M3 f3_h h16b g2_h; rw [zb] at q g4_h; rw [g4_h rfl]; exact q) | (have zb := gbI_1 z164_h; have q := hq M3 f3_h h16b g2_h; rw [zb] at q; exact q)
    · skip
      refine w_bipush (n := 169) (-15) dX11_act_167 (by decide) rfl ?_
      refine w_goto 174 dX11_act_169 (by decide) ?_
      refine w_retI dX11_act_174 rfl ?_
      first | exact absurd rfl z164_h | (have q := hq M3 f3_h h16b g2_h; exact q) | (have zb := gbI_0 z164_h; have q := hq M3 f3_h h16b g2_h; rw [zb] at q g4_h; rw [g4_h rfl]; exact q) | (have zb := gbI_1 z164_h; have q := hq M3 f3_h h16b g2_h; rw [zb] at q; exact q)
  by_cases hs82_1 : a = (nI 1)
  · first | subst hs82_1 | rw [hs82_1]
    refine w_tabIn 121 dX11_act_82 (by decide) (by decide) rfl (by decide) ?_
    refine w_al0 (n := 122) dX11_act_121 rfl ?_
    refine g_M (n := 125) f_X11_102_11 pl_0 (dk_ref_i h16_h (by decide)) dX11_act_122 rfl ?_
    refine w_il3 (n := 126) dX11_act_125 rfl ?_
    refine w_cU1 (n := 129) (C := RX2) pl_6 cl_2 s0_X2_taps ku_X11_342_2 (Nat.le_of_ble_eq_true rfl) dX11_act_126 rfl (c_taps_2 k2_h k3_h hT (fun M3 g1_h g2_h => ?_))
    have h16b : M3.1 0 16 = nI 6 := (g1_h.2 0 16 (by unfold cT1; omega)).trans h16_h
    have gp : M3.1 6 2 = nI 0 := cp_T1 g1_h k3_h
    have f3_h := f2_h.tr (g1_h.up (fun q k z => by unfold cT1 at z; unfold cAc; omega))
    rw [if_neg (by decide), if_pos rfl] at hq
    refine w_is5 (n := 131) dX11_act_129 rfl rfl (by decide) ?_
    refine w_goto 157 dX11_act_131 (by decide) ?_
    refine w_al0 (n := 158) dX11_act_157 rfl ?_
    refine g_M (n := 161) f_X11_102_11 pl_0 (dk_ref_i h16b (by decide)) dX11_act_158 rfl ?_
    refine g_Z (n := 164) f_X11_351_2 pl_6 dX11_act_161 rfl ?_
    rw [gp]
    refine w_if_eq (n := 167) 172 dX11_act_164 (by decide) rfl (fun z164_h => ?_) (fun z164_h => ?_)
    · skip
      refine w_il5 (n := 174) dX11_act_172 rfl ?_
      refine w_retI dX11_act_174 rfl ?_
      first | exact absurd rfl z164_h | (have q := hq M3 f3_h h16b g2_h; exact q) | (have zb := gbI_0 z164_h; have q := hq M3 f3_h h16b g2_h; rw [zb] at q g4_h; rw [g4_h rfl]; exact q) | (have zb := gbI_1 z164_h; have q := hq M3 f3_h h16b g2_h; rw [zb] at q; exact q)
    · skip
      refine w_bipush (n := 169) (-15) dX11_act_167 (by decide) rfl ?_
      refine w_goto 174 dX11_act_169 (by decide) ?_
      refine w_retI dX11_act_174 rfl ?_
      first | exact absurd rfl z164_h | (have q := hq M3 f3_h h16b g2_h; exact q) | (have zb := gbI_0 z164_h; have q := hq M3 f3_h h16b g2_h; rw [zb] at q g4_h; rw [g4_h rfl]; exact q) | (have zb := gbI_1 z164_h; have q := hq M3 f3_h h16b g2_h; rw [zb] at q; exact q)
  by_cases hs82_2 : a = (nI 2)
  · first | subst hs82_2 | rw [hs82_2]
    refine w_tabIn 134 dX11_act_82 (by decide) (by decide) rfl (by decide) ?_
    refine w_al0 (n := 135) dX11_act_134 rfl ?_
    refine g_M (n := 138) f_X11_102_11 pl_0 (dk_ref_i h16_h (by decide)) dX11_act_135 rfl ?_
    refine w_il3 (n := 139) dX11_act_138 rfl ?_
    refine w_cU1 (n := 142) (C := RX2) pl_6 cl_2 s0_X5_halves ku_X11_345_2 (Nat.le_of_ble_eq_true rfl) dX11_act_139 rfl (c_halves_2 k2_h k3_h hT (fun M3 v g1_h g2_h gp g4_h => ?_))
    have h16b : M3.1 0 16 = nI 6 := (g1_h.2 0 16 (by unfold cT2; omega)).trans h16_h
    have f3_h := f2_h.tr (g1_h.up (fun q k z => by unfold cT2 at z; unfold cAc; omega))
    rw [if_neg (by decide), if_neg (by decide), if_pos rfl] at hq
    refine w_is5 (n := 144) dX11_act_142 rfl rfl (by decide) ?_
    refine w_goto 157 dX11_act_144 (by decide) ?_
    refine w_al0 (n := 158) dX11_act_157 rfl ?_
    refine g_M (n := 161) f_X11_102_11 pl_0 (dk_ref_i h16b (by decide)) dX11_act_158 rfl ?_
    refine g_Z (n := 164) f_X11_351_2 pl_6 dX11_act_161 rfl ?_
    rw [gp]
    refine w_if_eq (n := 167) 172 dX11_act_164 (by decide) rfl (fun z164_h => ?_) (fun z164_h => ?_)
    · skip
      refine w_il5 (n := 174) dX11_act_172 rfl ?_
      refine w_retI dX11_act_174 rfl ?_
      first | exact absurd rfl z164_h | (have q := hq M3 f3_h h16b g2_h; exact q) | (have zb := gbI_0 z164_h; have q := hq M3 f3_h h16b g2_h; rw [zb] at q g4_h; rw [g4_h rfl]; exact q) | (have zb := gbI_1 z164_h; have q := hq M3 f3_h h16b g2_h; rw [zb] at q; exact q)
    · skip
      refine w_bipush (n := 169) (-15) dX11_act_167 (by decide) rfl ?_
      refine w_goto 174 dX11_act_169 (by decide) ?_
      refine w_retI dX11_act_174 rfl ?_
      first | exact absurd rfl z164_h | (have q := hq M3 f3_h h16b g2_h; exact q) | (have zb := gbI_0 z164_h; have q := hq M3 f3_h h16b g2_h; rw [zb] at q g4_h; rw [g4_h rfl]; exact q) | (have zb := gbI_1 z164_h; have q := hq M3 f3_h h16b g2_h; rw [zb] at q; exact q)
  refine w_tabOut 147 dX11_act_82 (dk_out3 hs82_0 hs82_1 hs82_2) (by decide) ?_
  refine w_al0 (n := 148) dX11_act_147 rfl ?_
  refine g_M (n := 151) f_X11_102_11 pl_0 (dk_ref_i h16_h (by decide)) dX11_act_148 rfl ?_
  refine w_il3 (n := 152) dX11_act_151 rfl ?_
  refine w_cU1 (n := 155) (C := RX2) pl_6 cl_2 s0_X5_turns ku_X11_348_2 (Nat.le_of_ble_eq_true rfl) dX11_act_152 rfl (c_turns_2 k2_h k3_h hT (fun M3 v g1_h g2_h gp g4_h => ?_))
  have h16b : M3.1 0 16 = nI 6 := (g1_h.2 0 16 (by unfold cT2; omega)).trans h16_h
  have f3_h := f2_h.tr (g1_h.up (fun q k z => by unfold cT2 at z; unfold cAc; omega))
  rw [if_neg hs82_0, if_neg hs82_1, if_neg hs82_2] at hq
  refine w_is5 (n := 157) dX11_act_155 rfl rfl (by decide) ?_
  refine w_al0 (n := 158) dX11_act_157 rfl ?_
  refine g_M (n := 161) f_X11_102_11 pl_0 (dk_ref_i h16b (by decide)) dX11_act_158 rfl ?_
  refine g_Z (n := 164) f_X11_351_2 pl_6 dX11_act_161 rfl ?_
  rw [gp]
  refine w_if_eq (n := 167) 172 dX11_act_164 (by decide) rfl (fun z164_h => ?_) (fun z164_h => ?_)
  · skip
    refine w_il5 (n := 174) dX11_act_172 rfl ?_
    refine w_retI dX11_act_174 rfl ?_
    first | exact absurd rfl z164_h | (have q := hq M3 f3_h h16b g2_h; exact q) | (have zb := gbI_0 z164_h; have q := hq M3 f3_h h16b g2_h; rw [zb] at q g4_h; rw [g4_h rfl]; exact q) | (have zb := gbI_1 z164_h; have q := hq M3 f3_h h16b g2_h; rw [zb] at q; exact q)
  · skip
    refine w_bipush (n := 169) (-15) dX11_act_167 (by decide) rfl ?_
    refine w_goto 174 dX11_act_169 (by decide) ?_
    refine w_retI dX11_act_174 rfl ?_
    first | exact absurd rfl z164_h | (have q := hq M3 f3_h h16b g2_h; exact q) | (have zb := gbI_0 z164_h; have q := hq M3 f3_h h16b g2_h; rw [zb] at q g4_h; rw [g4_h rfl]; exact q) | (have zb := gbI_1 z164_h; have q := hq M3 f3_h h16b g2_h; rw [zb] at q; exact q)

set_option maxRecDepth 20000 in
theorem c_bec_3 {d : Nat} {M : dk_Mem} {Q : Option Value → dk_Mem → Prop} {h r : Nat} (hq : ∀ M2, dk_fr (fun q _ => q = 8) M M2 → cPc 8 h r M2 → M2.1 8 2 = nI 0 → M2.1 8 1 = nI 0 → Q none M2) : dk_Call d mX5_becomes [.ref 8, .int (nI h), .int (nI r)] M Q := by
  refine dk_enter [some (.ref 8), some (.int (nI h)), some (.int (nI r))] (by decide) (fun _ => rfl) (fun _ => Nat.le_of_ble_eq_true rfl) ?_
  refine w_al0 (n := 1) dX5_becomes_0 rfl ?_
  refine w_il1 (n := 2) dX5_becomes_1 rfl ?_
  refine p_I (n := 5) f_X5_23_1 pl_8 dX5_becomes_2 rfl ?_
  refine w_al0 (n := 6) dX5_becomes_5 rfl ?_
  refine w_il2 (n := 7) dX5_becomes_6 rfl ?_
  refine p_I (n := 10) f_X5_26_1 pl_8 dX5_becomes_7 rfl ?_
  refine w_al0 (n := 11) dX5_becomes_10 rfl ?_
  refine w_iconst (n := 12) (nI 0) dX5_becomes_11 (by decide) rfl ?_
  refine p_I (n := 15) f_X5_15_1 pl_8 dX5_becomes_12 rfl ?_
  refine w_al0 (n := 16) dX5_becomes_15 rfl ?_
  refine w_iconst (n := 17) (nI 0) dX5_becomes_16 (by decide) rfl ?_
  refine p_Z (n := 20) (by decide) f_X5_19_1 pl_8 dX5_becomes_17 rfl ?_
  refine w_ret dX5_becomes_20 rfl ?_
  exact hq _ ((((dk_fr.rf.put (S := fun q _ => q = 8) rfl).put (S := fun q _ => q = 8) rfl).put (S := fun q _ => q = 8) rfl).put (S := fun q _ => q = 8) rfl) ⟨by rw [dk_put_k (by omega), dk_put_k (by omega), dk_put_k (by omega), dk_put_s], by rw [dk_put_k (by omega), dk_put_k (by omega), dk_put_s]⟩ dk_put_s (by rw [dk_put_k (by omega), dk_put_s])

set_option maxRecDepth 20000 in
theorem c_aW_3 {d : Nat} {M : dk_Mem} {Q : Option Value → dk_Mem → Prop} {σ : Nat → Nat} (hs : cs σ M) {s h : Nat} (hs4_h : s < 4) (h6_h : h < 6) (hh : h < σ 4) (hm : M.1 103 s = nI h) (hk : σ (35 + 5 * h) = 3) {a x : Int32} {x4_h x5_h : Option Value} {T0 : at_T} (t0_h : T0.1 = 0) (hq : ∀ M2, dk_fr cAc M M2 → M2.1 0 16 = nI 8 → cTS 8 (at_act 3 h (σ (38 + 5 * h)) x T0 a).2 M2 → Q (some (.int (at_act 3 h (σ (38 + 5 * h)) x T0 a).1)) M2) : dk_W (d + 7) mX11_act 35 [some (.ref 0), some (.int (nI s)), some (.int a), some (.int x), x4_h, x5_h] [] M Q := by
  unfold at_act at hq
  refine w_al0 (n := 36) dX11_act_35 rfl ?_
  refine g_R (n := 39) f_X11_99_11 pl_0 rf_0_15 dX11_act_36 rfl ?_
  refine w_il1 (n := 40) dX11_act_39 rfl ?_
  refine i_iald (n := 41) pl_103 (j := s) rfl (by omega) (by decide) hm dX11_act_40 rfl ?_
  refine w_is4 (n := 43) dX11_act_41 rfl rfl (by decide) ?_
  refine w_al0 (n := 44) dX11_act_43 rfl ?_
  refine w_al0 (n := 45) dX11_act_44 rfl ?_
  refine g_R (n := 48) f_X11_25_11 pl_0 rf_0_0 dX11_act_45 rfl ?_
  refine w_al0 (n := 49) dX11_act_48 rfl ?_
  refine g_R (n := 52) f_X11_36_11 pl_0 rf_0_1 dX11_act_49 rfl ?_
  refine g_R (n := 55) f_X11_130_10 pl_14 rf_14_2 dX11_act_52 rfl ?_
  refine w_il4 (n := 57) dX11_act_55 rfl ?_
  refine i_iald (n := 58) pl_15 (j := h) rfl (by omega) (by decide) ((hs.kind hh).trans (congrArg nI hk)) dX11_act_57 rfl ?_
  refine i_aaldP (n := 59) pl_1 (j := 3) rfl (by decide) (by decide) rf_1_3 dX11_act_58 rfl ?_
  refine p_R (n := 62) (by decide) f_X11_102_11 pl_0 dX11_act_59 rfl ?_
  refine w_al0 (n := 63) dX11_act_62 rfl ?_
  refine g_M (n := 66) f_X11_102_11 pl_0 (dk_ref_i dk_put_s (by decide)) dX11_act_63 rfl ?_
  refine w_il4 (n := 68) dX11_act_66 rfl ?_
  refine w_al0 (n := 69) dX11_act_68 rfl ?_
  refine g_R (n := 72) f_X11_36_11 pl_0 rf_0_1 dX11_act_69 rfl ?_
  refine g_R (n := 75) f_X11_139_10 pl_14 rf_14_4 dX11_act_72 rfl ?_
  refine w_il4 (n := 77) dX11_act_75 rfl ?_
  refine i_iald (n := 78) pl_17 (j := h) rfl (by omega) (by decide) ((dk_put_k (by omega)).trans (hs.room hh)) dX11_act_77 rfl ?_
  refine w_cU2 (n := 81) (C := RX1) pl_8 cl_1 s0_X5_becomes ku_X11_335_1 (Nat.le_of_ble_eq_true rfl) dX11_act_78 rfl (c_bec_3 (fun M2 k1_h k2_h k3_h k4_h => ?_))
  have h16_h : M2.1 0 16 = nI 8 := (k1_h.2 0 16 (by omega)).trans dk_put_s
  have f2_h : dk_fr cAc M M2 := (dk_fr.rf.put (Or.inl ⟨rfl, rfl⟩)).tr (k1_h.up (fun q k z => by unfold cAc; omega))
  have hT : cTS 8 T0 M2 := ⟨by rw [k4_h, t0_h], by omega, fun i hi => by omega⟩
  refine w_il2 (n := 82) dX11_act_81 rfl ?_
  by_cases hs82_0 : a = (nI 0)
  · first | subst hs82_0 | rw [hs82_0]
    refine w_tabIn 108 dX11_act_82 (by decide) (by decide) rfl (by decide) ?_
    refine w_al0 (n := 109) dX11_act_108 rfl ?_
    refine g_M (n := 112) f_X11_102_11 pl_0 (dk_ref_i h16_h (by decide)) dX11_act_109 rfl ?_
    refine w_il3 (n := 113) dX11_act_112 rfl ?_
    refine w_cU1 (n := 116) (C := RX1) pl_8 cl_1 s0_X1_tips ku_X11_339_1 (Nat.le_of_ble_eq_true rfl) dX11_act_113 rfl (c_tips_3 k2_h k3_h hT (fun M3 g1_h g2_h => ?_))
    have h16b : M3.1 0 16 = nI 8 := (g1_h.2 0 16 (by unfold cT1; omega)).trans h16_h
    have gp : M3.1 8 2 = nI 0 := cp_T1 g1_h k3_h
    have f3_h := f2_h.tr (g1_h.up (fun q k z => by unfold cT1 at z; unfold cAc; omega))
    rw [if_pos rfl] at hq
    refine w_is5 (n := 118) dX11_act_116 rfl rfl (by decide) ?_
    refine w_goto 157 dX11_act_118 (by decide) ?_
    refine w_al0 (n := 158) dX11_act_157 rfl ?_
    refine g_M (n := 161) f_X11_102_11 pl_0 (dk_ref_i h16b (by decide)) dX11_act_158 rfl ?_
    refine g_Z (n := 164) f_X11_351_1 pl_8 dX11_act_161 rfl ?_
    rw [gp]
    refine w_if_eq (n := 167) 172 dX11_act_164 (by decide) rfl (fun z164_h => ?_) (fun z164_h => ?_)
    · skip
      refine w_il5 (n := 174) dX11_act_172 rfl ?_
      refine w_retI dX11_act_174 rfl ?_
      first | exact absurd rfl z164_h | (have q := hq M3 f3_h h16b g2_h; exact q) | (have zb := gbI_0 z164_h; have q := hq M3 f3_h h16b g2_h; rw [zb] at q g4_h; rw [g4_h rfl]; exact q) | (have zb := gbI_1 z164_h; have q := hq M3 f3_h h16b g2_h; rw [zb] at q; exact q)
    · skip
      refine w_bipush (n := 169) (-15) dX11_act_167 (by decide) rfl ?_
      refine w_goto 174 dX11_act_169 (by decide) ?_
      refine w_retI dX11_act_174 rfl ?_
      first | exact absurd rfl z164_h | (have q := hq M3 f3_h h16b g2_h; exact q) | (have zb := gbI_0 z164_h; have q := hq M3 f3_h h16b g2_h; rw [zb] at q g4_h; rw [g4_h rfl]; exact q) | (have zb := gbI_1 z164_h; have q := hq M3 f3_h h16b g2_h; rw [zb] at q; exact q)
  by_cases hs82_1 : a = (nI 1)
  · first | subst hs82_1 | rw [hs82_1]
    refine w_tabIn 121 dX11_act_82 (by decide) (by decide) rfl (by decide) ?_
    refine w_al0 (n := 122) dX11_act_121 rfl ?_
    refine g_M (n := 125) f_X11_102_11 pl_0 (dk_ref_i h16_h (by decide)) dX11_act_122 rfl ?_
    refine w_il3 (n := 126) dX11_act_125 rfl ?_
    refine w_cU1 (n := 129) (C := RX1) pl_8 cl_1 s0_X2_taps ku_X11_342_1 (Nat.le_of_ble_eq_true rfl) dX11_act_126 rfl (c_taps_3 k2_h k3_h hT (fun M3 g1_h g2_h => ?_))
    have h16b : M3.1 0 16 = nI 8 := (g1_h.2 0 16 (by unfold cT1; omega)).trans h16_h
    have gp : M3.1 8 2 = nI 0 := cp_T1 g1_h k3_h
    have f3_h := f2_h.tr (g1_h.up (fun q k z => by unfold cT1 at z; unfold cAc; omega))
    rw [if_neg (by decide), if_pos rfl] at hq
    refine w_is5 (n := 131) dX11_act_129 rfl rfl (by decide) ?_
    refine w_goto 157 dX11_act_131 (by decide) ?_
    refine w_al0 (n := 158) dX11_act_157 rfl ?_
    refine g_M (n := 161) f_X11_102_11 pl_0 (dk_ref_i h16b (by decide)) dX11_act_158 rfl ?_
    refine g_Z (n := 164) f_X11_351_1 pl_8 dX11_act_161 rfl ?_
    rw [gp]
    refine w_if_eq (n := 167) 172 dX11_act_164 (by decide) rfl (fun z164_h => ?_) (fun z164_h => ?_)
    · skip
      refine w_il5 (n := 174) dX11_act_172 rfl ?_
      refine w_retI dX11_act_174 rfl ?_
      first | exact absurd rfl z164_h | (have q := hq M3 f3_h h16b g2_h; exact q) | (have zb := gbI_0 z164_h; have q := hq M3 f3_h h16b g2_h; rw [zb] at q g4_h; rw [g4_h rfl]; exact q) | (have zb := gbI_1 z164_h; have q := hq M3 f3_h h16b g2_h; rw [zb] at q; exact q)
    · skip
      refine w_bipush (n := 169) (-15) dX11_act_167 (by decide) rfl ?_
      refine w_goto 174 dX11_act_169 (by decide) ?_
      refine w_retI dX11_act_174 rfl ?_
      first | exact absurd rfl z164_h | (have q := hq M3 f3_h h16b g2_h; exact q) | (have zb := gbI_0 z164_h; have q := hq M3 f3_h h16b g2_h; rw [zb] at q g4_h; rw [g4_h rfl]; exact q) | (have zb := gbI_1 z164_h; have q := hq M3 f3_h h16b g2_h; rw [zb] at q; exact q)
  by_cases hs82_2 : a = (nI 2)
  · first | subst hs82_2 | rw [hs82_2]
    refine w_tabIn 134 dX11_act_82 (by decide) (by decide) rfl (by decide) ?_
    refine w_al0 (n := 135) dX11_act_134 rfl ?_
    refine g_M (n := 138) f_X11_102_11 pl_0 (dk_ref_i h16_h (by decide)) dX11_act_135 rfl ?_
    refine w_il3 (n := 139) dX11_act_138 rfl ?_
    refine w_cU1 (n := 142) (C := RX1) pl_8 cl_1 s0_X5_halves ku_X11_345_1 (Nat.le_of_ble_eq_true rfl) dX11_act_139 rfl (c_halves_3 k2_h k3_h hT (fun M3 v g1_h g2_h gp g4_h => ?_))
    have h16b : M3.1 0 16 = nI 8 := (g1_h.2 0 16 (by unfold cT2; omega)).trans h16_h
    have f3_h := f2_h.tr (g1_h.up (fun q k z => by unfold cT2 at z; unfold cAc; omega))
    rw [if_neg (by decide), if_neg (by decide), if_pos rfl] at hq
    refine w_is5 (n := 144) dX11_act_142 rfl rfl (by decide) ?_
    refine w_goto 157 dX11_act_144 (by decide) ?_
    refine w_al0 (n := 158) dX11_act_157 rfl ?_
    refine g_M (n := 161) f_X11_102_11 pl_0 (dk_ref_i h16b (by decide)) dX11_act_158 rfl ?_
    refine g_Z (n := 164) f_X11_351_1 pl_8 dX11_act_161 rfl ?_
    rw [gp]
    refine w_if_eq (n := 167) 172 dX11_act_164 (by decide) rfl (fun z164_h => ?_) (fun z164_h => ?_)
    · skip
      refine w_il5 (n := 174) dX11_act_172 rfl ?_
      refine w_retI dX11_act_174 rfl ?_
      first | exact absurd rfl z164_h | (have q := hq M3 f3_h h16b g2_h; exact q) | (have zb := gbI_0 z164_h; have q := hq M3 f3_h h16b g2_h; rw [zb] at q g4_h; rw [g4_h rfl]; exact q) | (have zb := gbI_1 z164_h; have q := hq M3 f3_h h16b g2_h; rw [zb] at q; exact q)
    · skip
      refine w_bipush (n := 169) (-15) dX11_act_167 (by decide) rfl ?_
      refine w_goto 174 dX11_act_169 (by decide) ?_
      refine w_retI dX11_act_174 rfl ?_
      first | exact absurd rfl z164_h | (have q := hq M3 f3_h h16b g2_h; exact q) | (have zb := gbI_0 z164_h; have q := hq M3 f3_h h16b g2_h; rw [zb] at q g4_h; rw [g4_h rfl]; exact q) | (have zb := gbI_1 z164_h; have q := hq M3 f3_h h16b g2_h; rw [zb] at q; exact q)
  refine w_tabOut 147 dX11_act_82 (dk_out3 hs82_0 hs82_1 hs82_2) (by decide) ?_
  refine w_al0 (n := 148) dX11_act_147 rfl ?_
  refine g_M (n := 151) f_X11_102_11 pl_0 (dk_ref_i h16_h (by decide)) dX11_act_148 rfl ?_
  refine w_il3 (n := 152) dX11_act_151 rfl ?_
  refine w_cU1 (n := 155) (C := RX1) pl_8 cl_1 s0_X1_turns ku_X11_348_1 (Nat.le_of_ble_eq_true rfl) dX11_act_152 rfl (c_turns_3 k2_h k3_h hT (fun M3 v g1_h g2_h gp g4_h => ?_))
  have h16b : M3.1 0 16 = nI 8 := (g1_h.2 0 16 (by unfold cT2; omega)).trans h16_h
  have f3_h := f2_h.tr (g1_h.up (fun q k z => by unfold cT2 at z; unfold cAc; omega))
  rw [if_neg hs82_0, if_neg hs82_1, if_neg hs82_2] at hq
  refine w_is5 (n := 157) dX11_act_155 rfl rfl (by decide) ?_
  refine w_al0 (n := 158) dX11_act_157 rfl ?_
  refine g_M (n := 161) f_X11_102_11 pl_0 (dk_ref_i h16b (by decide)) dX11_act_158 rfl ?_
  refine g_Z (n := 164) f_X11_351_1 pl_8 dX11_act_161 rfl ?_
  rw [gp]
  refine w_if_eq (n := 167) 172 dX11_act_164 (by decide) rfl (fun z164_h => ?_) (fun z164_h => ?_)
  · skip
    refine w_il5 (n := 174) dX11_act_172 rfl ?_
    refine w_retI dX11_act_174 rfl ?_
    first | exact absurd rfl z164_h | (have q := hq M3 f3_h h16b g2_h; exact q) | (have zb := gbI_0 z164_h; have q := hq M3 f3_h h16b g2_h; rw [zb] at q g4_h; rw [g4_h rfl]; exact q) | (have zb := gbI_1 z164_h; have q := hq M3 f3_h h16b g2_h; rw [zb] at q; exact q)
  · skip
    refine w_bipush (n := 169) (-15) dX11_act_167 (by decide) rfl ?_
    refine w_goto 174 dX11_act_169 (by decide) ?_
    refine w_retI dX11_act_174 rfl ?_
    first | exact absurd rfl z164_h | (have q := hq M3 f3_h h16b g2_h; exact q) | (have zb := gbI_0 z164_h; have q := hq M3 f3_h h16b g2_h; rw [zb] at q g4_h; rw [g4_h rfl]; exact q) | (have zb := gbI_1 z164_h; have q := hq M3 f3_h h16b g2_h; rw [zb] at q; exact q)

set_option maxRecDepth 20000 in
theorem c_bec_4 {d : Nat} {M : dk_Mem} {Q : Option Value → dk_Mem → Prop} {h r : Nat} (hq : ∀ M2, dk_fr (fun q _ => q = 10) M M2 → cPc 10 h r M2 → M2.1 10 2 = nI 0 → M2.1 10 1 = nI 0 → Q none M2) : dk_Call d mX5_becomes [.ref 10, .int (nI h), .int (nI r)] M Q := by
  refine dk_enter [some (.ref 10), some (.int (nI h)), some (.int (nI r))] (by decide) (fun _ => rfl) (fun _ => Nat.le_of_ble_eq_true rfl) ?_
  refine w_al0 (n := 1) dX5_becomes_0 rfl ?_
  refine w_il1 (n := 2) dX5_becomes_1 rfl ?_
  refine p_I (n := 5) f_X5_23_3 pl_10 dX5_becomes_2 rfl ?_
  refine w_al0 (n := 6) dX5_becomes_5 rfl ?_
  refine w_il2 (n := 7) dX5_becomes_6 rfl ?_
  refine p_I (n := 10) f_X5_26_3 pl_10 dX5_becomes_7 rfl ?_
  refine w_al0 (n := 11) dX5_becomes_10 rfl ?_
  refine w_iconst (n := 12) (nI 0) dX5_becomes_11 (by decide) rfl ?_
  refine p_I (n := 15) f_X5_15_3 pl_10 dX5_becomes_12 rfl ?_
  refine w_al0 (n := 16) dX5_becomes_15 rfl ?_
  refine w_iconst (n := 17) (nI 0) dX5_becomes_16 (by decide) rfl ?_
  refine p_Z (n := 20) (by decide) f_X5_19_3 pl_10 dX5_becomes_17 rfl ?_
  refine w_ret dX5_becomes_20 rfl ?_
  exact hq _ ((((dk_fr.rf.put (S := fun q _ => q = 10) rfl).put (S := fun q _ => q = 10) rfl).put (S := fun q _ => q = 10) rfl).put (S := fun q _ => q = 10) rfl) ⟨by rw [dk_put_k (by omega), dk_put_k (by omega), dk_put_k (by omega), dk_put_s], by rw [dk_put_k (by omega), dk_put_k (by omega), dk_put_s]⟩ dk_put_s (by rw [dk_put_k (by omega), dk_put_s])

set_option maxRecDepth 20000 in
theorem c_aW_4 {d : Nat} {M : dk_Mem} {Q : Option Value → dk_Mem → Prop} {σ : Nat → Nat} (hs : cs σ M) {s h : Nat} (hs4_h : s < 4) (h6_h : h < 6) (hh : h < σ 4) (hm : M.1 103 s = nI h) (hk : σ (35 + 5 * h) = 4) {a x : Int32} {x4_h x5_h : Option Value} {T0 : at_T} (t0_h : T0.1 = 0) (hq : ∀ M2, dk_fr cAc M M2 → M2.1 0 16 = nI 10 → cTS 10 (at_act 4 h (σ (38 + 5 * h)) x T0 a).2 M2 → Q (some (.int (at_act 4 h (σ (38 + 5 * h)) x T0 a).1)) M2) : dk_W (d + 7) mX11_act 35 [some (.ref 0), some (.int (nI s)), some (.int a), some (.int x), x4_h, x5_h] [] M Q := by
  unfold at_act at hq
  refine w_al0 (n := 36) dX11_act_35 rfl ?_
  refine g_R (n := 39) f_X11_99_11 pl_0 rf_0_15 dX11_act_36 rfl ?_
  refine w_il1 (n := 40) dX11_act_39 rfl ?_
  refine i_iald (n := 41) pl_103 (j := s) rfl (by omega) (by decide) hm dX11_act_40 rfl ?_
  refine w_is4 (n := 43) dX11_act_41 rfl rfl (by decide) ?_
  refine w_al0 (n := 44) dX11_act_43 rfl ?_
  refine w_al0 (n := 45) dX11_act_44 rfl ?_
  refine g_R (n := 48) f_X11_25_11 pl_0 rf_0_0 dX11_act_45 rfl ?_
  refine w_al0 (n := 49) dX11_act_48 rfl ?_
  refine g_R (n := 52) f_X11_36_11 pl_0 rf_0_1 dX11_act_49 rfl ?_
  refine g_R (n := 55) f_X11_130_10 pl_14 rf_14_2 dX11_act_52 rfl ?_
  refine w_il4 (n := 57) dX11_act_55 rfl ?_
  refine i_iald (n := 58) pl_15 (j := h) rfl (by omega) (by decide) ((hs.kind hh).trans (congrArg nI hk)) dX11_act_57 rfl ?_
  refine i_aaldP (n := 59) pl_1 (j := 4) rfl (by decide) (by decide) rf_1_4 dX11_act_58 rfl ?_
  refine p_R (n := 62) (by decide) f_X11_102_11 pl_0 dX11_act_59 rfl ?_
  refine w_al0 (n := 63) dX11_act_62 rfl ?_
  refine g_M (n := 66) f_X11_102_11 pl_0 (dk_ref_i dk_put_s (by decide)) dX11_act_63 rfl ?_
  refine w_il4 (n := 68) dX11_act_66 rfl ?_
  refine w_al0 (n := 69) dX11_act_68 rfl ?_
  refine g_R (n := 72) f_X11_36_11 pl_0 rf_0_1 dX11_act_69 rfl ?_
  refine g_R (n := 75) f_X11_139_10 pl_14 rf_14_4 dX11_act_72 rfl ?_
  refine w_il4 (n := 77) dX11_act_75 rfl ?_
  refine i_iald (n := 78) pl_17 (j := h) rfl (by omega) (by decide) ((dk_put_k (by omega)).trans (hs.room hh)) dX11_act_77 rfl ?_
  refine w_cU2 (n := 81) (C := RX3) pl_10 cl_3 s0_X5_becomes ku_X11_335_3 (Nat.le_of_ble_eq_true rfl) dX11_act_78 rfl (c_bec_4 (fun M2 k1_h k2_h k3_h k4_h => ?_))
  have h16_h : M2.1 0 16 = nI 10 := (k1_h.2 0 16 (by omega)).trans dk_put_s
  have f2_h : dk_fr cAc M M2 := (dk_fr.rf.put (Or.inl ⟨rfl, rfl⟩)).tr (k1_h.up (fun q k z => by unfold cAc; omega))
  have hT : cTS 10 T0 M2 := ⟨by rw [k4_h, t0_h], by omega, fun i hi => by omega⟩
  refine w_il2 (n := 82) dX11_act_81 rfl ?_
  by_cases hs82_0 : a = (nI 0)
  · first | subst hs82_0 | rw [hs82_0]
    refine w_tabIn 108 dX11_act_82 (by decide) (by decide) rfl (by decide) ?_
    refine w_al0 (n := 109) dX11_act_108 rfl ?_
    refine g_M (n := 112) f_X11_102_11 pl_0 (dk_ref_i h16_h (by decide)) dX11_act_109 rfl ?_
    refine w_il3 (n := 113) dX11_act_112 rfl ?_
    refine w_cU1 (n := 116) (C := RX3) pl_10 cl_3 s0_X5_tips ku_X11_339_3 (Nat.le_of_ble_eq_true rfl) dX11_act_113 rfl (c_tips_4 k2_h k3_h hT (fun M3 g1_h g2_h => ?_))
    have h16b : M3.1 0 16 = nI 10 := (g1_h.2 0 16 (by unfold cT1; omega)).trans h16_h
    have gp : M3.1 10 2 = nI 0 := cp_T1 g1_h k3_h
    have f3_h := f2_h.tr (g1_h.up (fun q k z => by unfold cT1 at z; unfold cAc; omega))
    rw [if_pos rfl] at hq
    refine w_is5 (n := 118) dX11_act_116 rfl rfl (by decide) ?_
    refine w_goto 157 dX11_act_118 (by decide) ?_
    refine w_al0 (n := 158) dX11_act_157 rfl ?_
    refine g_M (n := 161) f_X11_102_11 pl_0 (dk_ref_i h16b (by decide)) dX11_act_158 rfl ?_
    refine g_Z (n := 164) f_X11_351_3 pl_10 dX11_act_161 rfl ?_
    rw [gp]
    refine w_if_eq (n := 167) 172 dX11_act_164 (by decide) rfl (fun z164_h => ?_) (fun z164_h => ?_)
    · skip
      refine w_il5 (n := 174) dX11_act_172 rfl ?_
      refine w_retI dX11_act_174 rfl ?_
      first | exact absurd rfl z164_h | (have q := hq M3 f3_h h16b g2_h; exact q) | (have zb := gbI_0 z164_h; have q := hq M3 f3_h h16b g2_h; rw [zb] at q g4_h; rw [g4_h rfl]; exact q) | (have zb := gbI_1 z164_h; have q := hq M3 f3_h h16b g2_h; rw [zb] at q; exact q)
    · skip
      refine w_bipush (n := 169) (-15) dX11_act_167 (by decide) rfl ?_
      refine w_goto 174 dX11_act_169 (by decide) ?_
      refine w_retI dX11_act_174 rfl ?_
      first | exact absurd rfl z164_h | (have q := hq M3 f3_h h16b g2_h; exact q) | (have zb := gbI_0 z164_h; have q := hq M3 f3_h h16b g2_h; rw [zb] at q g4_h; rw [g4_h rfl]; exact q) | (have zb := gbI_1 z164_h; have q := hq M3 f3_h h16b g2_h; rw [zb] at q; exact q)
  by_cases hs82_1 : a = (nI 1)
  · first | subst hs82_1 | rw [hs82_1]
    refine w_tabIn 121 dX11_act_82 (by decide) (by decide) rfl (by decide) ?_
    refine w_al0 (n := 122) dX11_act_121 rfl ?_
    refine g_M (n := 125) f_X11_102_11 pl_0 (dk_ref_i h16_h (by decide)) dX11_act_122 rfl ?_
    refine w_il3 (n := 126) dX11_act_125 rfl ?_
    refine w_cU1 (n := 129) (C := RX3) pl_10 cl_3 s0_X5_taps ku_X11_342_3 (Nat.le_of_ble_eq_true rfl) dX11_act_126 rfl (c_taps_4 k2_h k3_h hT (fun M3 g1_h g2_h => ?_))
    have h16b : M3.1 0 16 = nI 10 := (g1_h.2 0 16 (by unfold cT1; omega)).trans h16_h
    have gp : M3.1 10 2 = nI 0 := cp_T1 g1_h k3_h
    have f3_h := f2_h.tr (g1_h.up (fun q k z => by unfold cT1 at z; unfold cAc; omega))
    rw [if_neg (by decide), if_pos rfl] at hq
    refine w_is5 (n := 131) dX11_act_129 rfl rfl (by decide) ?_
    refine w_goto 157 dX11_act_131 (by decide) ?_
    refine w_al0 (n := 158) dX11_act_157 rfl ?_
    refine g_M (n := 161) f_X11_102_11 pl_0 (dk_ref_i h16b (by decide)) dX11_act_158 rfl ?_
    refine g_Z (n := 164) f_X11_351_3 pl_10 dX11_act_161 rfl ?_
    rw [gp]
    refine w_if_eq (n := 167) 172 dX11_act_164 (by decide) rfl (fun z164_h => ?_) (fun z164_h => ?_)
    · skip
      refine w_il5 (n := 174) dX11_act_172 rfl ?_
      refine w_retI dX11_act_174 rfl ?_
      first | exact absurd rfl z164_h | (have q := hq M3 f3_h h16b g2_h; exact q) | (have zb := gbI_0 z164_h; have q := hq M3 f3_h h16b g2_h; rw [zb] at q g4_h; rw [g4_h rfl]; exact q) | (have zb := gbI_1 z164_h; have q := hq M3 f3_h h16b g2_h; rw [zb] at q; exact q)
    · skip
      refine w_bipush (n := 169) (-15) dX11_act_167 (by decide) rfl ?_
      refine w_goto 174 dX11_act_169 (by decide) ?_
      refine w_retI dX11_act_174 rfl ?_
      first | exact absurd rfl z164_h | (have q := hq M3 f3_h h16b g2_h; exact q) | (have zb := gbI_0 z164_h; have q := hq M3 f3_h h16b g2_h; rw [zb] at q g4_h; rw [g4_h rfl]; exact q) | (have zb := gbI_1 z164_h; have q := hq M3 f3_h h16b g2_h; rw [zb] at q; exact q)
  by_cases hs82_2 : a = (nI 2)
  · first | subst hs82_2 | rw [hs82_2]
    refine w_tabIn 134 dX11_act_82 (by decide) (by decide) rfl (by decide) ?_
    refine w_al0 (n := 135) dX11_act_134 rfl ?_
    refine g_M (n := 138) f_X11_102_11 pl_0 (dk_ref_i h16_h (by decide)) dX11_act_135 rfl ?_
    refine w_il3 (n := 139) dX11_act_138 rfl ?_
    refine w_cU1 (n := 142) (C := RX3) pl_10 cl_3 s0_X3_halves ku_X11_345_3 (Nat.le_of_ble_eq_true rfl) dX11_act_139 rfl (c_halves_4 k2_h k3_h hT (fun M3 v g1_h g2_h gp g4_h => ?_))
    have h16b : M3.1 0 16 = nI 10 := (g1_h.2 0 16 (by unfold cT2; omega)).trans h16_h
    have f3_h := f2_h.tr (g1_h.up (fun q k z => by unfold cT2 at z; unfold cAc; omega))
    rw [if_neg (by decide), if_neg (by decide), if_pos rfl] at hq
    refine w_is5 (n := 144) dX11_act_142 rfl rfl (by decide) ?_
    refine w_goto 157 dX11_act_144 (by decide) ?_
    refine w_al0 (n := 158) dX11_act_157 rfl ?_
    refine g_M (n := 161) f_X11_102_11 pl_0 (dk_ref_i h16b (by decide)) dX11_act_158 rfl ?_
    refine g_Z (n := 164) f_X11_351_3 pl_10 dX11_act_161 rfl ?_
    rw [gp]
    refine w_if_eq (n := 167) 172 dX11_act_164 (by decide) rfl (fun z164_h => ?_) (fun z164_h => ?_)
    · skip
      refine w_il5 (n := 174) dX11_act_172 rfl ?_
      refine w_retI dX11_act_174 rfl ?_
      first | exact absurd rfl z164_h | (have q := hq M3 f3_h h16b g2_h; exact q) | (have zb := gbI_0 z164_h; have q := hq M3 f3_h h16b g2_h; rw [zb] at q g4_h; rw [g4_h rfl]; exact q) | (have zb := gbI_1 z164_h; have q := hq M3 f3_h h16b g2_h; rw [zb] at q; exact q)
    · skip
      refine w_bipush (n := 169) (-15) dX11_act_167 (by decide) rfl ?_
      refine w_goto 174 dX11_act_169 (by decide) ?_
      refine w_retI dX11_act_174 rfl ?_
      first | exact absurd rfl z164_h | (have q := hq M3 f3_h h16b g2_h; exact q) | (have zb := gbI_0 z164_h; have q := hq M3 f3_h h16b g2_h; rw [zb] at q g4_h; rw [g4_h rfl]; exact q) | (have zb := gbI_1 z164_h; have q := hq M3 f3_h h16b g2_h; rw [zb] at q; exact q)
  refine w_tabOut 147 dX11_act_82 (dk_out3 hs82_0 hs82_1 hs82_2) (by decide) ?_
  refine w_al0 (n := 148) dX11_act_147 rfl ?_
  refine g_M (n := 151) f_X11_102_11 pl_0 (dk_ref_i h16_h (by decide)) dX11_act_148 rfl ?_
  refine w_il3 (n := 152) dX11_act_151 rfl ?_
  refine w_cU1 (n := 155) (C := RX3) pl_10 cl_3 s0_X5_turns ku_X11_348_3 (Nat.le_of_ble_eq_true rfl) dX11_act_152 rfl (c_turns_4 k2_h k3_h hT (fun M3 v g1_h g2_h gp g4_h => ?_))
  have h16b : M3.1 0 16 = nI 10 := (g1_h.2 0 16 (by unfold cT2; omega)).trans h16_h
  have f3_h := f2_h.tr (g1_h.up (fun q k z => by unfold cT2 at z; unfold cAc; omega))
  rw [if_neg hs82_0, if_neg hs82_1, if_neg hs82_2] at hq
  refine w_is5 (n := 157) dX11_act_155 rfl rfl (by decide) ?_
  refine w_al0 (n := 158) dX11_act_157 rfl ?_
  refine g_M (n := 161) f_X11_102_11 pl_0 (dk_ref_i h16b (by decide)) dX11_act_158 rfl ?_
  refine g_Z (n := 164) f_X11_351_3 pl_10 dX11_act_161 rfl ?_
  rw [gp]
  refine w_if_eq (n := 167) 172 dX11_act_164 (by decide) rfl (fun z164_h => ?_) (fun z164_h => ?_)
  · skip
    refine w_il5 (n := 174) dX11_act_172 rfl ?_
    refine w_retI dX11_act_174 rfl ?_
    first | exact absurd rfl z164_h | (have q := hq M3 f3_h h16b g2_h; exact q) | (have zb := gbI_0 z164_h; have q := hq M3 f3_h h16b g2_h; rw [zb] at q g4_h; rw [g4_h rfl]; exact q) | (have zb := gbI_1 z164_h; have q := hq M3 f3_h h16b g2_h; rw [zb] at q; exact q)
  · skip
    refine w_bipush (n := 169) (-15) dX11_act_167 (by decide) rfl ?_
    refine w_goto 174 dX11_act_169 (by decide) ?_
    refine w_retI dX11_act_174 rfl ?_
    first | exact absurd rfl z164_h | (have q := hq M3 f3_h h16b g2_h; exact q) | (have zb := gbI_0 z164_h; have q := hq M3 f3_h h16b g2_h; rw [zb] at q g4_h; rw [g4_h rfl]; exact q) | (have zb := gbI_1 z164_h; have q := hq M3 f3_h h16b g2_h; rw [zb] at q; exact q)

set_option maxRecDepth 20000 in
theorem c_bec_5 {d : Nat} {M : dk_Mem} {Q : Option Value → dk_Mem → Prop} {h r : Nat} (hq : ∀ M2, dk_fr (fun q _ => q = 12) M M2 → cPc 12 h r M2 → M2.1 12 2 = nI 0 → M2.1 12 1 = nI 0 → Q none M2) : dk_Call d mX5_becomes [.ref 12, .int (nI h), .int (nI r)] M Q := by
  refine dk_enter [some (.ref 12), some (.int (nI h)), some (.int (nI r))] (by decide) (fun _ => rfl) (fun _ => Nat.le_of_ble_eq_true rfl) ?_
  refine w_al0 (n := 1) dX5_becomes_0 rfl ?_
  refine w_il1 (n := 2) dX5_becomes_1 rfl ?_
  refine p_I (n := 5) f_X5_23_9 pl_12 dX5_becomes_2 rfl ?_
  refine w_al0 (n := 6) dX5_becomes_5 rfl ?_
  refine w_il2 (n := 7) dX5_becomes_6 rfl ?_
  refine p_I (n := 10) f_X5_26_9 pl_12 dX5_becomes_7 rfl ?_
  refine w_al0 (n := 11) dX5_becomes_10 rfl ?_
  refine w_iconst (n := 12) (nI 0) dX5_becomes_11 (by decide) rfl ?_
  refine p_I (n := 15) f_X5_15_9 pl_12 dX5_becomes_12 rfl ?_
  refine w_al0 (n := 16) dX5_becomes_15 rfl ?_
  refine w_iconst (n := 17) (nI 0) dX5_becomes_16 (by decide) rfl ?_
  refine p_Z (n := 20) (by decide) f_X5_19_9 pl_12 dX5_becomes_17 rfl ?_
  refine w_ret dX5_becomes_20 rfl ?_
  exact hq _ ((((dk_fr.rf.put (S := fun q _ => q = 12) rfl).put (S := fun q _ => q = 12) rfl).put (S := fun q _ => q = 12) rfl).put (S := fun q _ => q = 12) rfl) ⟨by rw [dk_put_k (by omega), dk_put_k (by omega), dk_put_k (by omega), dk_put_s], by rw [dk_put_k (by omega), dk_put_k (by omega), dk_put_s]⟩ dk_put_s (by rw [dk_put_k (by omega), dk_put_s])

set_option maxRecDepth 20000 in
theorem c_aW_5 {d : Nat} {M : dk_Mem} {Q : Option Value → dk_Mem → Prop} {σ : Nat → Nat} (hs : cs σ M) {s h : Nat} (hs4_h : s < 4) (h6_h : h < 6) (hh : h < σ 4) (hm : M.1 103 s = nI h) (hk : σ (35 + 5 * h) = 5) {a x : Int32} {x4_h x5_h : Option Value} {T0 : at_T} (t0_h : T0.1 = 0) (hq : ∀ M2, dk_fr cAc M M2 → M2.1 0 16 = nI 12 → cTS 12 (at_act 5 h (σ (38 + 5 * h)) x T0 a).2 M2 → Q (some (.int (at_act 5 h (σ (38 + 5 * h)) x T0 a).1)) M2) : dk_W (d + 7) mX11_act 35 [some (.ref 0), some (.int (nI s)), some (.int a), some (.int x), x4_h, x5_h] [] M Q := by
  unfold at_act at hq
  refine w_al0 (n := 36) dX11_act_35 rfl ?_
  refine g_R (n := 39) f_X11_99_11 pl_0 rf_0_15 dX11_act_36 rfl ?_
  refine w_il1 (n := 40) dX11_act_39 rfl ?_
  refine i_iald (n := 41) pl_103 (j := s) rfl (by omega) (by decide) hm dX11_act_40 rfl ?_
  refine w_is4 (n := 43) dX11_act_41 rfl rfl (by decide) ?_
  refine w_al0 (n := 44) dX11_act_43 rfl ?_
  refine w_al0 (n := 45) dX11_act_44 rfl ?_
  refine g_R (n := 48) f_X11_25_11 pl_0 rf_0_0 dX11_act_45 rfl ?_
  refine w_al0 (n := 49) dX11_act_48 rfl ?_
  refine g_R (n := 52) f_X11_36_11 pl_0 rf_0_1 dX11_act_49 rfl ?_
  refine g_R (n := 55) f_X11_130_10 pl_14 rf_14_2 dX11_act_52 rfl ?_
  refine w_il4 (n := 57) dX11_act_55 rfl ?_
  refine i_iald (n := 58) pl_15 (j := h) rfl (by omega) (by decide) ((hs.kind hh).trans (congrArg nI hk)) dX11_act_57 rfl ?_
  refine i_aaldP (n := 59) pl_1 (j := 5) rfl (by decide) (by decide) rf_1_5 dX11_act_58 rfl ?_
  refine p_R (n := 62) (by decide) f_X11_102_11 pl_0 dX11_act_59 rfl ?_
  refine w_al0 (n := 63) dX11_act_62 rfl ?_
  refine g_M (n := 66) f_X11_102_11 pl_0 (dk_ref_i dk_put_s (by decide)) dX11_act_63 rfl ?_
  refine w_il4 (n := 68) dX11_act_66 rfl ?_
  refine w_al0 (n := 69) dX11_act_68 rfl ?_
  refine g_R (n := 72) f_X11_36_11 pl_0 rf_0_1 dX11_act_69 rfl ?_
  refine g_R (n := 75) f_X11_139_10 pl_14 rf_14_4 dX11_act_72 rfl ?_
  refine w_il4 (n := 77) dX11_act_75 rfl ?_
  refine i_iald (n := 78) pl_17 (j := h) rfl (by omega) (by decide) ((dk_put_k (by omega)).trans (hs.room hh)) dX11_act_77 rfl ?_
  refine w_cU2 (n := 81) (C := RX9) pl_12 cl_9 s0_X5_becomes ku_X11_335_9 (Nat.le_of_ble_eq_true rfl) dX11_act_78 rfl (c_bec_5 (fun M2 k1_h k2_h k3_h k4_h => ?_))
  have h16_h : M2.1 0 16 = nI 12 := (k1_h.2 0 16 (by omega)).trans dk_put_s
  have f2_h : dk_fr cAc M M2 := (dk_fr.rf.put (Or.inl ⟨rfl, rfl⟩)).tr (k1_h.up (fun q k z => by unfold cAc; omega))
  have hT : cTS 12 T0 M2 := ⟨by rw [k4_h, t0_h], by omega, fun i hi => by omega⟩
  refine w_il2 (n := 82) dX11_act_81 rfl ?_
  by_cases hs82_0 : a = (nI 0)
  · first | subst hs82_0 | rw [hs82_0]
    refine w_tabIn 108 dX11_act_82 (by decide) (by decide) rfl (by decide) ?_
    refine w_al0 (n := 109) dX11_act_108 rfl ?_
    refine g_M (n := 112) f_X11_102_11 pl_0 (dk_ref_i h16_h (by decide)) dX11_act_109 rfl ?_
    refine w_il3 (n := 113) dX11_act_112 rfl ?_
    refine w_cU1 (n := 116) (C := RX9) pl_12 cl_9 s0_X5_tips ku_X11_339_9 (Nat.le_of_ble_eq_true rfl) dX11_act_113 rfl (c_tips_5 k2_h k3_h hT (fun M3 g1_h g2_h => ?_))
    have h16b : M3.1 0 16 = nI 12 := (g1_h.2 0 16 (by unfold cT1; omega)).trans h16_h
    have gp : M3.1 12 2 = nI 0 := cp_T1 g1_h k3_h
    have f3_h := f2_h.tr (g1_h.up (fun q k z => by unfold cT1 at z; unfold cAc; omega))
    rw [if_pos rfl] at hq
    refine w_is5 (n := 118) dX11_act_116 rfl rfl (by decide) ?_
    refine w_goto 157 dX11_act_118 (by decide) ?_
    refine w_al0 (n := 158) dX11_act_157 rfl ?_
    refine g_M (n := 161) f_X11_102_11 pl_0 (dk_ref_i h16b (by decide)) dX11_act_158 rfl ?_
    refine g_Z (n := 164) f_X11_351_9 pl_12 dX11_act_161 rfl ?_
    rw [gp]
    refine w_if_eq (n := 167) 172 dX11_act_164 (by decide) rfl (fun z164_h => ?_) (fun z164_h => ?_)
    · skip
      refine w_il5 (n := 174) dX11_act_172 rfl ?_
      refine w_retI dX11_act_174 rfl ?_
      first | exact absurd rfl z164_h | (have q := hq M3 f3_h h16b g2_h; exact q) | (have zb := gbI_0 z164_h; have q := hq M3 f3_h h16b g2_h; rw [zb] at q g4_h; rw [g4_h rfl]; exact q) | (have zb := gbI_1 z164_h; have q := hq M3 f3_h h16b g2_h; rw [zb] at q; exact q)
    · skip
      refine w_bipush (n := 169) (-15) dX11_act_167 (by decide) rfl ?_
      refine w_goto 174 dX11_act_169 (by decide) ?_
      refine w_retI dX11_act_174 rfl ?_
      first | exact absurd rfl z164_h | (have q := hq M3 f3_h h16b g2_h; exact q) | (have zb := gbI_0 z164_h; have q := hq M3 f3_h h16b g2_h; rw [zb] at q g4_h; rw [g4_h rfl]; exact q) | (have zb := gbI_1 z164_h; have q := hq M3 f3_h h16b g2_h; rw [zb] at q; exact q)
  by_cases hs82_1 : a = (nI 1)
  · first | subst hs82_1 | rw [hs82_1]
    refine w_tabIn 121 dX11_act_82 (by decide) (by decide) rfl (by decide) ?_
    refine w_al0 (n := 122) dX11_act_121 rfl ?_
    refine g_M (n := 125) f_X11_102_11 pl_0 (dk_ref_i h16_h (by decide)) dX11_act_122 rfl ?_
    refine w_il3 (n := 126) dX11_act_125 rfl ?_
    refine w_cU1 (n := 129) (C := RX9) pl_12 cl_9 s0_X9_taps ku_X11_342_9 (Nat.le_of_ble_eq_true rfl) dX11_act_126 rfl (c_taps_5 k2_h k3_h hT (fun M3 g1_h g2_h => ?_))
    have h16b : M3.1 0 16 = nI 12 := (g1_h.2 0 16 (by unfold cT1; omega)).trans h16_h
    have gp : M3.1 12 2 = nI 0 := cp_T1 g1_h k3_h
    have f3_h := f2_h.tr (g1_h.up (fun q k z => by unfold cT1 at z; unfold cAc; omega))
    rw [if_neg (by decide), if_pos rfl] at hq
    refine w_is5 (n := 131) dX11_act_129 rfl rfl (by decide) ?_
    refine w_goto 157 dX11_act_131 (by decide) ?_
    refine w_al0 (n := 158) dX11_act_157 rfl ?_
    refine g_M (n := 161) f_X11_102_11 pl_0 (dk_ref_i h16b (by decide)) dX11_act_158 rfl ?_
    refine g_Z (n := 164) f_X11_351_9 pl_12 dX11_act_161 rfl ?_
    rw [gp]
    refine w_if_eq (n := 167) 172 dX11_act_164 (by decide) rfl (fun z164_h => ?_) (fun z164_h => ?_)
    · skip
      refine w_il5 (n := 174) dX11_act_172 rfl ?_
      refine w_retI dX11_act_174 rfl ?_
      first | exact absurd rfl z164_h | (have q := hq M3 f3_h h16b g2_h; exact q) | (have zb := gbI_0 z164_h; have q := hq M3 f3_h h16b g2_h; rw [zb] at q g4_h; rw [g4_h rfl]; exact q) | (have zb := gbI_1 z164_h; have q := hq M3 f3_h h16b g2_h; rw [zb] at q; exact q)
    · skip
      refine w_bipush (n := 169) (-15) dX11_act_167 (by decide) rfl ?_
      refine w_goto 174 dX11_act_169 (by decide) ?_
      refine w_retI dX11_act_174 rfl ?_
      first | exact absurd rfl z164_h | (have q := hq M3 f3_h h16b g2_h; exact q) | (have zb := gbI_0 z164_h; have q := hq M3 f3_h h16b g2_h; rw [zb] at q g4_h; rw [g4_h rfl]; exact q) | (have zb := gbI_1 z164_h; have q := hq M3 f3_h h16b g2_h; rw [zb] at q; exact q)
  by_cases hs82_2 : a = (nI 2)
  · first | subst hs82_2 | rw [hs82_2]
    refine w_tabIn 134 dX11_act_82 (by decide) (by decide) rfl (by decide) ?_
    refine w_al0 (n := 135) dX11_act_134 rfl ?_
    refine g_M (n := 138) f_X11_102_11 pl_0 (dk_ref_i h16_h (by decide)) dX11_act_135 rfl ?_
    refine w_il3 (n := 139) dX11_act_138 rfl ?_
    refine w_cU1 (n := 142) (C := RX9) pl_12 cl_9 s0_X9_halves ku_X11_345_9 (Nat.le_of_ble_eq_true rfl) dX11_act_139 rfl (c_halves_5 k2_h k3_h hT (fun M3 v g1_h g2_h gp g4_h => ?_))
    have h16b : M3.1 0 16 = nI 12 := (g1_h.2 0 16 (by unfold cT2; omega)).trans h16_h
    have f3_h := f2_h.tr (g1_h.up (fun q k z => by unfold cT2 at z; unfold cAc; omega))
    rw [if_neg (by decide), if_neg (by decide), if_pos rfl] at hq
    refine w_is5 (n := 144) dX11_act_142 rfl rfl (by decide) ?_
    refine w_goto 157 dX11_act_144 (by decide) ?_
    refine w_al0 (n := 158) dX11_act_157 rfl ?_
    refine g_M (n := 161) f_X11_102_11 pl_0 (dk_ref_i h16b (by decide)) dX11_act_158 rfl ?_
    refine g_Z (n := 164) f_X11_351_9 pl_12 dX11_act_161 rfl ?_
    rw [gp]
    refine w_if_eq (n := 167) 172 dX11_act_164 (by decide) rfl (fun z164_h => ?_) (fun z164_h => ?_)
    · skip
      refine w_il5 (n := 174) dX11_act_172 rfl ?_
      refine w_retI dX11_act_174 rfl ?_
      first | exact absurd rfl z164_h | (have q := hq M3 f3_h h16b g2_h; exact q) | (have zb := gbI_0 z164_h; have q := hq M3 f3_h h16b g2_h; rw [zb] at q g4_h; rw [g4_h rfl]; exact q) | (have zb := gbI_1 z164_h; have q := hq M3 f3_h h16b g2_h; rw [zb] at q; exact q)
    · skip
      refine w_bipush (n := 169) (-15) dX11_act_167 (by decide) rfl ?_
      refine w_goto 174 dX11_act_169 (by decide) ?_
      refine w_retI dX11_act_174 rfl ?_
      first | exact absurd rfl z164_h | (have q := hq M3 f3_h h16b g2_h; exact q) | (have zb := gbI_0 z164_h; have q := hq M3 f3_h h16b g2_h; rw [zb] at q g4_h; rw [g4_h rfl]; exact q) | (have zb := gbI_1 z164_h; have q := hq M3 f3_h h16b g2_h; rw [zb] at q; exact q)
  refine w_tabOut 147 dX11_act_82 (dk_out3 hs82_0 hs82_1 hs82_2) (by decide) ?_
  refine w_al0 (n := 148) dX11_act_147 rfl ?_
  refine g_M (n := 151) f_X11_102_11 pl_0 (dk_ref_i h16_h (by decide)) dX11_act_148 rfl ?_
  refine w_il3 (n := 152) dX11_act_151 rfl ?_
  refine w_cU1 (n := 155) (C := RX9) pl_12 cl_9 s0_X5_turns ku_X11_348_9 (Nat.le_of_ble_eq_true rfl) dX11_act_152 rfl (c_turns_5 k2_h k3_h hT (fun M3 v g1_h g2_h gp g4_h => ?_))
  have h16b : M3.1 0 16 = nI 12 := (g1_h.2 0 16 (by unfold cT2; omega)).trans h16_h
  have f3_h := f2_h.tr (g1_h.up (fun q k z => by unfold cT2 at z; unfold cAc; omega))
  rw [if_neg hs82_0, if_neg hs82_1, if_neg hs82_2] at hq
  refine w_is5 (n := 157) dX11_act_155 rfl rfl (by decide) ?_
  refine w_al0 (n := 158) dX11_act_157 rfl ?_
  refine g_M (n := 161) f_X11_102_11 pl_0 (dk_ref_i h16b (by decide)) dX11_act_158 rfl ?_
  refine g_Z (n := 164) f_X11_351_9 pl_12 dX11_act_161 rfl ?_
  rw [gp]
  refine w_if_eq (n := 167) 172 dX11_act_164 (by decide) rfl (fun z164_h => ?_) (fun z164_h => ?_)
  · skip
    refine w_il5 (n := 174) dX11_act_172 rfl ?_
    refine w_retI dX11_act_174 rfl ?_
    first | exact absurd rfl z164_h | (have q := hq M3 f3_h h16b g2_h; exact q) | (have zb := gbI_0 z164_h; have q := hq M3 f3_h h16b g2_h; rw [zb] at q g4_h; rw [g4_h rfl]; exact q) | (have zb := gbI_1 z164_h; have q := hq M3 f3_h h16b g2_h; rw [zb] at q; exact q)
  · skip
    refine w_bipush (n := 169) (-15) dX11_act_167 (by decide) rfl ?_
    refine w_goto 174 dX11_act_169 (by decide) ?_
    refine w_retI dX11_act_174 rfl ?_
    first | exact absurd rfl z164_h | (have q := hq M3 f3_h h16b g2_h; exact q) | (have zb := gbI_0 z164_h; have q := hq M3 f3_h h16b g2_h; rw [zb] at q g4_h; rw [g4_h rfl]; exact q) | (have zb := gbI_1 z164_h; have q := hq M3 f3_h h16b g2_h; rw [zb] at q; exact q)

theorem c_aW {d : Nat} {M : dk_Mem} {Q : Option Value → dk_Mem → Prop} {σ : Nat → Nat} (hs : cs σ M) {s h : Nat} (hs4_h : s < 4) (h6_h : h < 6) (hh : h < σ 4) (hm : M.1 103 s = nI h) (k5_h : σ (35 + 5 * h) ≤ 5) {a x : Int32} {x4_h x5_h : Option Value} {T0 : at_T} (t0_h : T0.1 = 0) (hq : ∀ M2, dk_fr cAc M M2 → M2.1 0 16 = nI (2 + 2 * σ (35 + 5 * h)) → cTS (2 + 2 * σ (35 + 5 * h)) (at_act (σ (35 + 5 * h)) h (σ (38 + 5 * h)) x T0 a).2 M2 → Q (some (.int (at_act (σ (35 + 5 * h)) h (σ (38 + 5 * h)) x T0 a).1)) M2) : dk_W (d + 7) mX11_act 35 [some (.ref 0), some (.int (nI s)), some (.int a), some (.int x), x4_h, x5_h] [] M Q := by
  rcases (show σ (35 + 5 * h) = 0 ∨ σ (35 + 5 * h) = 1 ∨ σ (35 + 5 * h) = 2 ∨ σ (35 + 5 * h) = 3 ∨ σ (35 + 5 * h) = 4 ∨ σ (35 + 5 * h) = 5 by omega) with hk | hk | hk | hk | hk | hk
  · rw [hk] at hq
    exact c_aW_0 hs hs4_h h6_h hh hm hk t0_h hq
  · rw [hk] at hq
    exact c_aW_1 hs hs4_h h6_h hh hm hk t0_h hq
  · rw [hk] at hq
    exact c_aW_2 hs hs4_h h6_h hh hm hk t0_h hq
  · rw [hk] at hq
    exact c_aW_3 hs hs4_h h6_h hh hm hk t0_h hq
  · rw [hk] at hq
    exact c_aW_4 hs hs4_h h6_h hh hm hk t0_h hq
  · rw [hk] at hq
    exact c_aW_5 hs hs4_h h6_h hh hm hk t0_h hq

set_option maxRecDepth 20000 in
theorem C_act {d : Nat} {M : dk_Mem} {Q : Option Value → dk_Mem → Prop} {K : sg_K} (hK : cK K M) {E : sg_E} (hE : cE E M) (hI : eI E) {s a x : Int32} (hq : ∀ M2, cE (ef_act K E s a x).2 M2 → dk_fr cXX M M2 → Q (some (.int (ef_act K E s a x).1)) M2) : dk_Call (d + 7) mX11_act [.ref 0, .int s, .int a, .int x] M Q := by
  have hK0 := hK
  obtain ⟨⟨o, p1_h, p2_h, p3_h⟩, hs, hc, hb, hcr, hsc, hz, β, hβ, hβ1, hβ2⟩ := hK0
  have o4_h := o.2.2.2.1
  have o16_h := o.2.1
  have hm : dk_mo 22 := Or.inl rfl
  have hE0 := cE_act0 hI hE
  have hI0 : eI (eT E (at_0 E)) := hI.T (Nat.zero_le _)
  have f0_h : dk_fr cAc M (dk_put M 0 16 (-1)) := dk_fr.rf.put (Or.inl ⟨rfl, rfl⟩)
  have f0X := cAc_X f0_h
  have hK1 : cK K (dk_put M 0 16 (-1)) := hK.X f0X
  refine dk_enter [some (.ref 0), some (.int s), some (.int a), some (.int x), none, none] (by decide) (fun _ => rfl) (fun _ => Nat.le_of_ble_eq_true rfl) ?_
  refine w_al0 (n := 1) dX11_act_0 rfl ?_
  refine w_null (n := 2) dX11_act_1 rfl ?_
  refine p_N (n := 5) f_X11_102_11 pl_0 dX11_act_2 rfl ?_
  refine w_il1 (n := 6) dX11_act_5 rfl ?_
  refine w_iconst (n := 7) (nI 0) dX11_act_6 (by decide) rfl ?_
  refine w_iconst (n := 8) (nI 3) dX11_act_7 (by decide) rfl ?_
  refine w_cS3 (n := 11) s0_X11_within k_X11_112 (Nat.le_of_ble_eq_true rfl) dX11_act_8 rfl (c_within (fun t8_h => ?_) (fun t8_h => ?_))
  · skip
    refine w_if_eq (n := 14) 23 dX11_act_11 (by decide) rfl (fun h => absurd h (by decide)) (fun _ => ?_)
    refine w_il2 (n := 15) dX11_act_14 rfl ?_
    refine w_iconst (n := 16) (nI 0) dX11_act_15 (by decide) rfl ?_
    refine w_iconst (n := 17) (nI 3) dX11_act_16 (by decide) rfl ?_
    refine w_cS3 (n := 20) s0_X11_within k_X11_112 (Nat.le_of_ble_eq_true rfl) dX11_act_17 rfl (c_within (fun t17_h => ?_) (fun t17_h => ?_))
    · skip
      refine w_if_ne (n := 23) 25 dX11_act_20 (by decide) rfl (fun _ => ?_) (fun h => absurd h (by decide))
      have hs9_h := tN_of (n := 3) (by decide) t8_h.1 t8_h.2
      have es : Value.int s = Value.int (nI (tN s)) := by rw [← hs9_h.1]
      rw [es]
      have hs3_h := hs9_h.2
      refine w_al0 (n := 26) dX11_act_25 rfl ?_
      refine w_il1 (n := 27) dX11_act_26 rfl ?_
      refine w_cV1 (n := 30) pl_0 cl_11 s0_X11_heldOn k_X11_328 (Nat.le_of_ble_eq_true rfl) dX11_act_27 rfl (c_heldOn hK1 hE0 hI0 (s := tN s) (by omega) (fun h hh e1_h e2_h => ?_) (fun e1_h e2_h e3_h => ?_) (fun e1_h e2_h => ?_))
      · skip
        refine w_if_eq (n := 33) 35 dX11_act_30 (by decide) rfl (fun _ => ?_) (fun h => absurd (by decide) h)
        have h6_h : h < 6 := by omega
        have ea : ef_act K E s a x = ((at_act (K.1 (35 + 5 * h)) h (K.1 (38 + 5 * h)) x (at_0 E) a).1, eT E (at_act (K.1 (35 + 5 * h)) h (K.1 (38 + 5 * h)) x (at_0 E) a).2) := by
          unfold ef_act
          rw [if_pos ⟨t8_h, t17_h⟩, ← eP_T (T := at_0 E) (by omega), e1_h]
        rw [ea] at hq
        have k5_h := o.kind h6_h
        refine c_aW (T0 := at_0 E) hK1.2.1 (by omega) h6_h hh e2_h k5_h rfl (fun M2 g1_h g2_h g3_h => ?_)
        have f2_h := f0_h.tr g1_h
        exact hq M2 (cE_act hI hE (by omega) f2_h g2_h g3_h) (cAc_X f2_h)
      · skip
        refine w_if_eq (n := 33) 35 dX11_act_30 (by decide) rfl (fun z => absurd z (q_10 hI0 (by omega) e2_h).2) (fun _ => ?_)
        refine w_iconst (n := 34) (nI 0) dX11_act_33 (by decide) rfl ?_
        refine w_retI dX11_act_34 rfl ?_
        have ea : ef_act K E s a x = (nI 0, eT E (at_0 E)) := by
          unfold ef_act
          first | rw [if_neg (fun z => t8_h z.1)] | rw [if_neg (fun z => t17_h z.2)] | rw [if_pos ⟨t8_h, t17_h⟩, ← eP_T (T := at_0 E) (by omega), e1_h]
        rw [ea] at hq
        exact hq _ hE0 f0X
      · skip
        refine w_if_eq (n := 33) 35 dX11_act_30 (by decide) rfl (fun h => absurd h (by decide)) (fun _ => ?_)
        refine w_iconst (n := 34) (nI 0) dX11_act_33 (by decide) rfl ?_
        refine w_retI dX11_act_34 rfl ?_
        have ea : ef_act K E s a x = (nI 0, eT E (at_0 E)) := by
          unfold ef_act
          first | rw [if_neg (fun z => t8_h z.1)] | rw [if_neg (fun z => t17_h z.2)] | rw [if_pos ⟨t8_h, t17_h⟩, ← eP_T (T := at_0 E) (by omega), e1_h]
        rw [ea] at hq
        exact hq _ hE0 f0X
    · skip
      refine w_if_ne (n := 23) 25 dX11_act_20 (by decide) rfl (fun h => absurd h (by decide)) (fun _ => ?_)
      refine w_iconst (n := 24) (nI 0) dX11_act_23 (by decide) rfl ?_
      refine w_retI dX11_act_24 rfl ?_
      have ea : ef_act K E s a x = (nI 0, eT E (at_0 E)) := by
        unfold ef_act
        first | rw [if_neg (fun z => t8_h z.1)] | rw [if_neg (fun z => t17_h z.2)] | rw [if_pos ⟨t8_h, t17_h⟩, ← eP_T (T := at_0 E) (by omega), e1_h]
      rw [ea] at hq
      exact hq _ hE0 f0X
  · skip
    refine w_if_eq (n := 14) 23 dX11_act_11 (by decide) rfl (fun _ => ?_) (fun h => absurd (by decide) h)
    refine w_iconst (n := 24) (nI 0) dX11_act_23 (by decide) rfl ?_
    refine w_retI dX11_act_24 rfl ?_
    have ea : ef_act K E s a x = (nI 0, eT E (at_0 E)) := by
      unfold ef_act
      first | rw [if_neg (fun z => t8_h z.1)] | rw [if_neg (fun z => t17_h z.2)] | rw [if_pos ⟨t8_h, t17_h⟩, ← eP_T (T := at_0 E) (by omega), e1_h]
    rw [ea] at hq
    exact hq _ hE0 f0X
