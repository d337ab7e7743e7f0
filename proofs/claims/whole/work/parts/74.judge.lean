/-! ===== judge ===== -/
def sg_jd (w : sg_R) (E : sg_E) : Nat → Nat → (Nat → Nat) → Nat
  | 0, _, _ => 0
  | n + 1, k, σ => if (nI 0 ≤ E (1 + 3 * k) ∧ E (1 + 3 * k) ≤ nI (σ 4)) ∧ σ 1 < σ 0 then (if nI (sg_goes w σ (sg_ot (tN (E (1 + 3 * k))))).2 = E (1 + (3 * k + 1)) ∧ nI (sg_set (sg_goes w σ (sg_ot (tN (E (1 + 3 * k))))).1 (σ 4)) = E (1 + (3 * k + 2)) then sg_jd w E n (k + 1) (sg_goes w σ (sg_ot (tN (E (1 + 3 * k))))).1 else 1 + k) else 1 + k
theorem sg_jd_n {w : sg_R} {E : sg_E} {n k : Nat} {σ : Nat → Nat} (h : ¬ ((nI 0 ≤ E (1 + 3 * k) ∧ E (1 + 3 * k) ≤ nI (σ 4)) ∧ σ 1 < σ 0)) : sg_jd w E (n + 1) k σ = 1 + k := if_neg h
theorem sg_jd_m {w : sg_R} {E : sg_E} {n k : Nat} {σ : Nat → Nat} {t : Option Nat} (ht : sg_ot (tN (E (1 + 3 * k))) = t) (h : ¬ (nI (sg_goes w σ t).2 = E (1 + (3 * k + 1)) ∧ nI (sg_set (sg_goes w σ t).1 (σ 4)) = E (1 + (3 * k + 2)))) : sg_jd w E (n + 1) k σ = 1 + k := by
  subst ht
  rw [sg_jd]
  by_cases c : (nI 0 ≤ E (1 + 3 * k) ∧ E (1 + 3 * k) ≤ nI (σ 4)) ∧ σ 1 < σ 0
  · rw [if_pos c]; exact if_neg h
  · exact if_neg c
theorem sg_jd_y {w : sg_R} {E : sg_E} {n k : Nat} {σ : Nat → Nat} {t : Option Nat} (ht : sg_ot (tN (E (1 + 3 * k))) = t) (h0_h : (nI 0 ≤ E (1 + 3 * k) ∧ E (1 + 3 * k) ≤ nI (σ 4)) ∧ σ 1 < σ 0) (h : nI (sg_goes w σ t).2 = E (1 + (3 * k + 1)) ∧ nI (sg_set (sg_goes w σ t).1 (σ 4)) = E (1 + (3 * k + 2))) : sg_jd w E (n + 1) k σ = sg_jd w E n (k + 1) (sg_goes w σ t).1 := by
  subst ht
  rw [sg_jd, if_pos h0_h]
  exact if_pos h
theorem sg_ac {x : Int32} {c : Nat} (hc : c ≤ 6) (h : nI 0 ≤ x ∧ x ≤ nI c) : x = nI (tN x) ∧ tN x ≤ c ∧ (∀ h, sg_ot (tN x) = some h → h < c) ∧ x - nI 1 = dk_enc (sg_ot (tN x)) := by
  obtain ⟨e, l⟩ := tN_of (n := c) (by omega) h.1 h.2
  refine ⟨e, l, sg_ot_lt l, ?_⟩
  generalize tN x = a at e l
  rw [e]
  exact sg_ot_enc (by omega)
theorem rE.G {E : sg_E} {M M' : dk_Mem} (h : rE E M) (hf : dk_fr rG M M') : rE E M' := h.fr hf (fun q k z => by unfold rG at z; omega)
theorem rE.N {E : sg_E} {M M' : dk_Mem} (h : rE E M) (hf : dk_fr rN M M') : rE E M' := h.fr hf (fun q k z => by unfold rN at z; omega)

set_option maxRecDepth 20000 in
theorem r_jdX {d : Nat} {Q : Option Value → dk_Mem → Prop} {j k : Nat} (hj : j < 100) {M1 : dk_Mem} {x3_h x4_h : Option Value} (hq : Q (some (.int (nI (1 + j)))) (dk_row M1 105 (dk_cp (M1.1 107) (M1.1 105) 621))) : dk_W (d + 8) mX12_judge 8 [some (.ref 104), some (.int (nI (1 + j))), some (.int (nI k)), x3_h, x4_h] [] M1 Q := by
  refine w_il2 (n := 9) dX12_judge_8 rfl ?_
  refine w_al0 (n := 10) dX12_judge_9 rfl ?_
  refine g_I (n := 13) f_X12_291_12 pl_104 dX12_judge_10 rfl ?_
  refine w_ic_ge (n := 16) 138 dX12_judge_13 (by decide) rfl (fun z13_h => ?_) (fun z13_h => ?_)
  · skip
    refine w_al0 (n := 139) dX12_judge_138 rfl ?_
    refine w_cV0 (n := 142) pl_104 cl_12 s0_X12_putsBack k_X12_202 (Nat.le_of_ble_eq_true rfl) dX12_judge_139 rfl (r_putsBack ?_)
    refine w_il1 (n := 143) dX12_judge_142 rfl ?_
    refine w_retI dX12_judge_143 rfl ?_
    exact hq
  · skip
    refine w_il1 (n := 17) dX12_judge_16 rfl ?_
    refine w_if_ne (n := 20) 138 dX12_judge_17 (by decide) rfl (fun z17_h => ?_) (fun z17_h => ?_)
    · skip
      refine w_al0 (n := 139) dX12_judge_138 rfl ?_
      refine w_cV0 (n := 142) pl_104 cl_12 s0_X12_putsBack k_X12_202 (Nat.le_of_ble_eq_true rfl) dX12_judge_139 rfl (r_putsBack ?_)
      refine w_il1 (n := 143) dX12_judge_142 rfl ?_
      refine w_retI dX12_judge_143 rfl ?_
      exact hq
    · skip
      exact absurd ((q_nz (by omega)).mp z17_h) (by omega)

set_option maxRecDepth 20000 in
theorem r_jdL {d : Nat} {M : dk_Mem} {Q : Option Value → dk_Mem → Prop} {w : sg_R} {nr : Nat} {f g : Nat → Int32} {E : sg_E} (hI : eI E) (hb : rb w nr f) {T0 : Nat} (hq : ∀ M1, dk_fr rG M M1 → rW g M1 → Q (some (.int (nI T0))) (dk_row M1 105 (dk_cp (M1.1 107) (M1.1 105) 621))) : ∀ (n k : Nat) (σ : Nat → Nat) (M1 : dk_Mem) (x3_h x4_h : Option Value), k ≤ tN (E 0) → tN (E 0) - k < n → sg_ok σ → σ 6 = nr → rr σ M1 → rT f M1 → dk_fr rG M M1 → rW g M1 → rE E M1 → sg_jd w E (tN (E 0) - k) k σ = T0 → dk_W (d + 8) mX12_judge 8 [some (.ref 104), some (.int (nI 0)), some (.int (nI k)), x3_h, x4_h] [] M1 Q := by
  have hR := hI.1
  have h4_h := hR.2
  intro n
  induction n with
  | zero => intro k _ _ _ _ _ h; omega
  | succ n ih =>
    intro k σ M1 x3_h x4_h hi hn o hs6_h hr hT hf hW hE he
    subst hs6_h
    have o4_h := o.2.2.2.1
    have o16_h := o.2.1
    refine w_il2 (n := 9) dX12_judge_8 rfl ?_
    refine w_al0 (n := 10) dX12_judge_9 rfl ?_
    refine g_I (n := 13) f_X12_291_12 pl_104 dX12_judge_10 rfl ?_
    rw [hE.1 _ _ _ eL_0, hR.1]
    refine w_ic_ge (n := 16) 138 dX12_judge_13 (by decide) rfl (fun z13_h => ?_) (fun z13_h => ?_)
    · skip
      refine w_al0 (n := 139) dX12_judge_138 rfl ?_
      refine w_cV0 (n := 142) pl_104 cl_12 s0_X12_putsBack k_X12_202 (Nat.le_of_ble_eq_true rfl) dX12_judge_139 rfl (r_putsBack ?_)
      refine w_il1 (n := 143) dX12_judge_142 rfl ?_
      refine w_retI dX12_judge_143 rfl ?_
      rw [show tN (E 0) - k = 0 by rw [q_le (by omega) (by omega)] at z13_h; omega] at he
      rw [show T0 = 0 from he.symm] at hq
      exact hq M1 hf hW
    · skip
      have hk : k < tN (E 0) := by rw [q_le (by omega) (by omega)] at z13_h; omega
      rw [show tN (E 0) - k = (tN (E 0) - (k + 1)) + 1 by omega] at he
      refine w_il1 (n := 17) dX12_judge_16 rfl ?_
      refine w_if_ne (n := 20) 138 dX12_judge_17 (by decide) rfl (fun h => absurd h (by decide)) (fun _ => ?_)
      refine w_al0 (n := 21) dX12_judge_20 rfl ?_
      refine g_R (n := 24) f_X12_32_12 pl_104 rf_104_21 dX12_judge_21 rfl ?_
      refine w_iconst (n := 25) (nI 3) dX12_judge_24 (by decide) rfl ?_
      refine w_il2 (n := 26) dX12_judge_25 rfl ?_
      refine w_imul (n := 27) dX12_judge_26 rfl ?_
      refine i_iald (n := 28) pl_112 (j := 3 * k) (by rw [pk_mul]) (by omega) (by decide) (hE.1 _ _ _ (eL_112 (by omega))) dX12_judge_27 rfl ?_
      refine w_iconst (n := 29) (nI 0) dX12_judge_28 (by decide) rfl ?_
      refine w_al0 (n := 30) dX12_judge_29 rfl ?_
      refine g_R (n := 33) f_X12_9_12 pl_104 rf_104_0 dX12_judge_30 rfl ?_
      refine w_iconst (n := 34) (nI 4) dX12_judge_33 (by decide) rfl ?_
      refine i_iald (n := 35) pl_105 (j := 4) rfl (by decide) (by decide) (hr 4 (by decide) (by decide) (by decide)) dX12_judge_34 rfl ?_
      refine w_cS3 (n := 38) s0_X12_in k_X12_61 (Nat.le_of_ble_eq_true rfl) dX12_judge_35 rfl (r_in (fun t35_h => ?_) (fun t35_h => ?_))
      · skip
        refine w_if_eq (n := 41) 52 dX12_judge_38 (by decide) rfl (fun h => absurd h (by decide)) (fun _ => ?_)
        refine w_al0 (n := 42) dX12_judge_41 rfl ?_
        refine w_cV0 (n := 45) pl_104 cl_12 s0_X12_isOver k_X12_121 (Nat.le_of_ble_eq_true rfl) dX12_judge_42 rfl (r_isOver hr o (fun t42_h => ?_) (fun t42_h => ?_))
        · skip
          refine w_if_ne (n := 48) 52 dX12_judge_45 (by decide) rfl (fun _ => ?_) (fun h => absurd h (by decide))
          refine w_iconst (n := 53) (nI 0) dX12_judge_52 (by decide) rfl ?_
          refine w_is3 (n := 54) dX12_judge_53 rfl rfl (by decide) ?_
          refine w_il3 (n := 55) dX12_judge_54 rfl ?_
          refine w_if_eq (n := 58) 75 dX12_judge_55 (by decide) rfl (fun _ => ?_) (fun h => absurd (by decide) h)
          refine w_iconst (n := 76) (nI 0) dX12_judge_75 (by decide) rfl ?_
          refine w_is4 (n := 78) dX12_judge_76 rfl rfl (by decide) ?_
          refine w_il3 (n := 79) dX12_judge_78 rfl ?_
          refine w_if_eq (n := 82) 118 dX12_judge_79 (by decide) rfl (fun _ => ?_) (fun h => absurd (by decide) h)
          refine w_iconst (n := 119) (nI 0) dX12_judge_118 (by decide) rfl ?_
          refine w_is3 (n := 120) dX12_judge_119 rfl rfl (by decide) ?_
          refine w_il3 (n := 121) dX12_judge_120 rfl ?_
          refine w_if_eq (n := 124) 128 dX12_judge_121 (by decide) rfl (fun _ => ?_) (fun h => absurd (by decide) h)
          refine w_iconst (n := 129) (nI 1) dX12_judge_128 (by decide) rfl ?_
          refine w_il2 (n := 130) dX12_judge_129 rfl ?_
          refine w_iadd (n := 131) dX12_judge_130 rfl ?_
          refine w_is1 (n := 132) dX12_judge_131 rfl rfl (by decide) ?_
          refine w_inc2 (n := 135) (nI 1) dX12_judge_132 (by decide) rfl rfl (by decide) ?_
          refine w_goto 8 dX12_judge_135 (by decide) ?_
          rw [nI_add]
          first | (rw [sg_jd_n (w := w) (E := E) (k := k) (σ := σ) (fun z => t35_h z.1)] at he; rw [nI_add]; exact r_jdX (by omega) (by rw [he]; exact hq M1 hf hW)) | (rw [sg_jd_n (w := w) (E := E) (k := k) (σ := σ) (fun z => absurd z.2 (by omega))] at he; rw [nI_add]; exact r_jdX (by omega) (by rw [he]; exact hq M1 hf hW)) | (rw [sg_jd_m (w := w) (E := E) (k := k) (σ := σ) hgt (fun z => z94_h z.1)] at he; rw [nI_add]; exact r_jdX (by omega) (by rw [he]; exact hq M2 (hf.tr g2_h) (hW.fr g2_h nG7))) | (rw [sg_jd_m (w := w) (E := E) (k := k) (σ := σ) hgt (fun z => z111_h z.2)] at he; rw [nI_add]; exact r_jdX (by omega) (by rw [he]; exact hq M2 (hf.tr g2_h) (hW.fr g2_h nG7))) | (rw [sg_jd_y (w := w) (E := E) (k := k) (σ := σ) hgt ⟨t35_h, t42_h⟩ ⟨z94_h, z111_h⟩] at he; exact ih (k + 1) _ M2 _ _ (by omega) (by omega) o2_h (sg_goes_o (by omega) (by omega)) g1_h (hT.fr g2_h) (hf.tr g2_h) (hW.fr g2_h nG7) hE2 he)
        · skip
          refine w_if_ne (n := 48) 52 dX12_judge_45 (by decide) rfl (fun h => absurd h (by decide)) (fun _ => ?_)
          refine w_iconst (n := 49) (nI 1) dX12_judge_48 (by decide) rfl ?_
          refine w_goto 53 dX12_judge_49 (by decide) ?_
          refine w_is3 (n := 54) dX12_judge_53 rfl rfl (by decide) ?_
          refine w_il3 (n := 55) dX12_judge_54 rfl ?_
          refine w_if_eq (n := 58) 75 dX12_judge_55 (by decide) rfl (fun h => absurd h (by decide)) (fun _ => ?_)
          refine w_al0 (n := 59) dX12_judge_58 rfl ?_
          refine w_al0 (n := 60) dX12_judge_59 rfl ?_
          refine g_R (n := 63) f_X12_32_12 pl_104 rf_104_21 dX12_judge_60 rfl ?_
          refine w_iconst (n := 64) (nI 3) dX12_judge_63 (by decide) rfl ?_
          refine w_il2 (n := 65) dX12_judge_64 rfl ?_
          refine w_imul (n := 66) dX12_judge_65 rfl ?_
          refine i_iald (n := 67) pl_112 (j := 3 * k) (by rw [pk_mul]) (by omega) (by decide) (hE.1 _ _ _ (eL_112 (by omega))) dX12_judge_66 rfl ?_
          refine w_iconst (n := 68) (nI 1) dX12_judge_67 (by decide) rfl ?_
          refine w_isub (n := 69) dX12_judge_68 rfl ?_
          have ac := sg_ac o4_h t35_h
          have hot := ac.2.2.1
          have hen := ac.2.2.2
          rw [hen]
          generalize hgt : sg_ot (tN (E (1 + 3 * k))) = t at *
          refine w_cV1 (n := 72) pl_104 cl_12 s0_X12_goes k_X12_226 (Nat.le_of_ble_eq_true rfl) dX12_judge_69 rfl (r_goes hr o (fun h e => by have := hot h e; omega) hb hT (fun M2 g1_h g2_h g3_h => ?_))
          have o2_h := o.goes (w := w) (t := t) (fun h e => by have := hot h e; omega) (by omega)
          have hE2 := hE.G g2_h
          have e4_h : (sg_goes w σ t).1 4 = σ 4 := sg_goes_o (by omega) (by omega)
          refine w_goto 76 dX12_judge_72 (by decide) ?_
          refine w_is4 (n := 78) dX12_judge_76 rfl rfl (by decide) ?_
          refine w_il3 (n := 79) dX12_judge_78 rfl ?_
          refine w_if_eq (n := 82) 118 dX12_judge_79 (by decide) rfl (fun h => absurd h (by decide)) (fun _ => ?_)
          refine w_il4 (n := 84) dX12_judge_82 rfl ?_
          refine w_al0 (n := 85) dX12_judge_84 rfl ?_
          refine g_R (n := 88) f_X12_32_12 pl_104 rf_104_21 dX12_judge_85 rfl ?_
          refine w_iconst (n := 89) (nI 3) dX12_judge_88 (by decide) rfl ?_
          refine w_il2 (n := 90) dX12_judge_89 rfl ?_
          refine w_imul (n := 91) dX12_judge_90 rfl ?_
          refine w_iconst (n := 92) (nI 1) dX12_judge_91 (by decide) rfl ?_
          refine w_iadd (n := 93) dX12_judge_92 rfl ?_
          refine i_iald (n := 94) pl_112 (j := 3 * k + 1) (by rw [pk_mul, nI_add]) (by omega) (by decide) (hE2.1 _ _ _ (eL_112 (by omega))) dX12_judge_93 rfl ?_
          refine w_ic_ne (n := 97) 118 dX12_judge_94 (by decide) rfl (fun z94_h => ?_) (fun z94_h => ?_)
          · skip
            refine w_iconst (n := 119) (nI 0) dX12_judge_118 (by decide) rfl ?_
            refine w_is3 (n := 120) dX12_judge_119 rfl rfl (by decide) ?_
            refine w_il3 (n := 121) dX12_judge_120 rfl ?_
            refine w_if_eq (n := 124) 128 dX12_judge_121 (by decide) rfl (fun _ => ?_) (fun h => absurd (by decide) h)
            refine w_iconst (n := 129) (nI 1) dX12_judge_128 (by decide) rfl ?_
            refine w_il2 (n := 130) dX12_judge_129 rfl ?_
            refine w_iadd (n := 131) dX12_judge_130 rfl ?_
            refine w_is1 (n := 132) dX12_judge_131 rfl rfl (by decide) ?_
            refine w_inc2 (n := 135) (nI 1) dX12_judge_132 (by decide) rfl rfl (by decide) ?_
            refine w_goto 8 dX12_judge_135 (by decide) ?_
            rw [nI_add]
            first | (rw [sg_jd_n (w := w) (E := E) (k := k) (σ := σ) (fun z => t35_h z.1)] at he; rw [nI_add]; exact r_jdX (by omega) (by rw [he]; exact hq M1 hf hW)) | (rw [sg_jd_n (w := w) (E := E) (k := k) (σ := σ) (fun z => absurd z.2 (by omega))] at he; rw [nI_add]; exact r_jdX (by omega) (by rw [he]; exact hq M1 hf hW)) | (rw [sg_jd_m (w := w) (E := E) (k := k) (σ := σ) hgt (fun z => z94_h z.1)] at he; rw [nI_add]; exact r_jdX (by omega) (by rw [he]; exact hq M2 (hf.tr g2_h) (hW.fr g2_h nG7))) | (rw [sg_jd_m (w := w) (E := E) (k := k) (σ := σ) hgt (fun z => z111_h z.2)] at he; rw [nI_add]; exact r_jdX (by omega) (by rw [he]; exact hq M2 (hf.tr g2_h) (hW.fr g2_h nG7))) | (rw [sg_jd_y (w := w) (E := E) (k := k) (σ := σ) hgt ⟨t35_h, t42_h⟩ ⟨z94_h, z111_h⟩] at he; exact ih (k + 1) _ M2 _ _ (by omega) (by omega) o2_h (sg_goes_o (by omega) (by omega)) g1_h (hT.fr g2_h) (hf.tr g2_h) (hW.fr g2_h nG7) hE2 he)
          · skip
            refine w_al0 (n := 98) dX12_judge_97 rfl ?_
            refine w_cV0 (n := 101) pl_104 cl_12 s0_X12_fallenOnes k_X12_125 (Nat.le_of_ble_eq_true rfl) dX12_judge_98 rfl (r_fallenOnes g1_h o2_h ?_)
            rw [e4_h]
            refine w_al0 (n := 102) dX12_judge_101 rfl ?_
            refine g_R (n := 105) f_X12_32_12 pl_104 rf_104_21 dX12_judge_102 rfl ?_
            refine w_iconst (n := 106) (nI 3) dX12_judge_105 (by decide) rfl ?_
            refine w_il2 (n := 107) dX12_judge_106 rfl ?_
            refine w_imul (n := 108) dX12_judge_107 rfl ?_
            refine w_iconst (n := 109) (nI 2) dX12_judge_108 (by decide) rfl ?_
            refine w_iadd (n := 110) dX12_judge_109 rfl ?_
            refine i_iald (n := 111) pl_112 (j := 3 * k + 2) (by rw [pk_mul, nI_add]) (by omega) (by decide) (hE2.1 _ _ _ (eL_112 (by omega))) dX12_judge_110 rfl ?_
            refine w_ic_ne (n := 114) 118 dX12_judge_111 (by decide) rfl (fun z111_h => ?_) (fun z111_h => ?_)
            · skip
              refine w_iconst (n := 119) (nI 0) dX12_judge_118 (by decide) rfl ?_
              refine w_is3 (n := 120) dX12_judge_119 rfl rfl (by decide) ?_
              refine w_il3 (n := 121) dX12_judge_120 rfl ?_
              refine w_if_eq (n := 124) 128 dX12_judge_121 (by decide) rfl (fun _ => ?_) (fun h => absurd (by decide) h)
              refine w_iconst (n := 129) (nI 1) dX12_judge_128 (by decide) rfl ?_
              refine w_il2 (n := 130) dX12_judge_129 rfl ?_
              refine w_iadd (n := 131) dX12_judge_130 rfl ?_
              refine w_is1 (n := 132) dX12_judge_131 rfl rfl (by decide) ?_
              refine w_inc2 (n := 135) (nI 1) dX12_judge_132 (by decide) rfl rfl (by decide) ?_
              refine w_goto 8 dX12_judge_135 (by decide) ?_
              rw [nI_add]
              first | (rw [sg_jd_n (w := w) (E := E) (k := k) (σ := σ) (fun z => t35_h z.1)] at he; rw [nI_add]; exact r_jdX (by omega) (by rw [he]; exact hq M1 hf hW)) | (rw [sg_jd_n (w := w) (E := E) (k := k) (σ := σ) (fun z => absurd z.2 (by omega))] at he; rw [nI_add]; exact r_jdX (by omega) (by rw [he]; exact hq M1 hf hW)) | (rw [sg_jd_m (w := w) (E := E) (k := k) (σ := σ) hgt (fun z => z94_h z.1)] at he; rw [nI_add]; exact r_jdX (by omega) (by rw [he]; exact hq M2 (hf.tr g2_h) (hW.fr g2_h nG7))) | (rw [sg_jd_m (w := w) (E := E) (k := k) (σ := σ) hgt (fun z => z111_h z.2)] at he; rw [nI_add]; exact r_jdX (by omega) (by rw [he]; exact hq M2 (hf.tr g2_h) (hW.fr g2_h nG7))) | (rw [sg_jd_y (w := w) (E := E) (k := k) (σ := σ) hgt ⟨t35_h, t42_h⟩ ⟨z94_h, z111_h⟩] at he; exact ih (k + 1) _ M2 _ _ (by omega) (by omega) o2_h (sg_goes_o (by omega) (by omega)) g1_h (hT.fr g2_h) (hf.tr g2_h) (hW.fr g2_h nG7) hE2 he)
            · skip
              refine w_iconst (n := 115) (nI 1) dX12_judge_114 (by decide) rfl ?_
              refine w_goto 119 dX12_judge_115 (by decide) ?_
              refine w_is3 (n := 120) dX12_judge_119 rfl rfl (by decide) ?_
              refine w_il3 (n := 121) dX12_judge_120 rfl ?_
              refine w_if_eq (n := 124) 128 dX12_judge_121 (by decide) rfl (fun h => absurd h (by decide)) (fun _ => ?_)
              refine w_iconst (n := 125) (nI 0) dX12_judge_124 (by decide) rfl ?_
              refine w_goto 131 dX12_judge_125 (by decide) ?_
              refine w_is1 (n := 132) dX12_judge_131 rfl rfl (by decide) ?_
              refine w_inc2 (n := 135) (nI 1) dX12_judge_132 (by decide) rfl rfl (by decide) ?_
              refine w_goto 8 dX12_judge_135 (by decide) ?_
              rw [nI_add]
              first | (rw [sg_jd_n (w := w) (E := E) (k := k) (σ := σ) (fun z => t35_h z.1)] at he; rw [nI_add]; exact r_jdX (by omega) (by rw [he]; exact hq M1 hf hW)) | (rw [sg_jd_n (w := w) (E := E) (k := k) (σ := σ) (fun z => absurd z.2 (by omega))] at he; rw [nI_add]; exact r_jdX (by omega) (by rw [he]; exact hq M1 hf hW)) | (rw [sg_jd_m (w := w) (E := E) (k := k) (σ := σ) hgt (fun z => z94_h z.1)] at he; rw [nI_add]; exact r_jdX (by omega) (by rw [he]; exact hq M2 (hf.tr g2_h) (hW.fr g2_h nG7))) | (rw [sg_jd_m (w := w) (E := E) (k := k) (σ := σ) hgt (fun z => z111_h z.2)] at he; rw [nI_add]; exact r_jdX (by omega) (by rw [he]; exact hq M2 (hf.tr g2_h) (hW.fr g2_h nG7))) | (rw [sg_jd_y (w := w) (E := E) (k := k) (σ := σ) hgt ⟨t35_h, t42_h⟩ ⟨z94_h, z111_h⟩] at he; exact ih (k + 1) _ M2 _ _ (by omega) (by omega) o2_h (sg_goes_o (by omega) (by omega)) g1_h (hT.fr g2_h) (hf.tr g2_h) (hW.fr g2_h nG7) hE2 he)
      · skip
        refine w_if_eq (n := 41) 52 dX12_judge_38 (by decide) rfl (fun _ => ?_) (fun h => absurd (by decide) h)
        refine w_iconst (n := 53) (nI 0) dX12_judge_52 (by decide) rfl ?_
        refine w_is3 (n := 54) dX12_judge_53 rfl rfl (by decide) ?_
        refine w_il3 (n := 55) dX12_judge_54 rfl ?_
        refine w_if_eq (n := 58) 75 dX12_judge_55 (by decide) rfl (fun _ => ?_) (fun h => absurd (by decide) h)
        refine w_iconst (n := 76) (nI 0) dX12_judge_75 (by decide) rfl ?_
        refine w_is4 (n := 78) dX12_judge_76 rfl rfl (by decide) ?_
        refine w_il3 (n := 79) dX12_judge_78 rfl ?_
        refine w_if_eq (n := 82) 118 dX12_judge_79 (by decide) rfl (fun _ => ?_) (fun h => absurd (by decide) h)
        refine w_iconst (n := 119) (nI 0) dX12_judge_118 (by decide) rfl ?_
        refine w_is3 (n := 120) dX12_judge_119 rfl rfl (by decide) ?_
        refine w_il3 (n := 121) dX12_judge_120 rfl ?_
        refine w_if_eq (n := 124) 128 dX12_judge_121 (by decide) rfl (fun _ => ?_) (fun h => absurd (by decide) h)
        refine w_iconst (n := 129) (nI 1) dX12_judge_128 (by decide) rfl ?_
        refine w_il2 (n := 130) dX12_judge_129 rfl ?_
        refine w_iadd (n := 131) dX12_judge_130 rfl ?_
        refine w_is1 (n := 132) dX12_judge_131 rfl rfl (by decide) ?_
        refine w_inc2 (n := 135) (nI 1) dX12_judge_132 (by decide) rfl rfl (by decide) ?_
        refine w_goto 8 dX12_judge_135 (by decide) ?_
        rw [nI_add]
        first | (rw [sg_jd_n (w := w) (E := E) (k := k) (σ := σ) (fun z => t35_h z.1)] at he; rw [nI_add]; exact r_jdX (by omega) (by rw [he]; exact hq M1 hf hW)) | (rw [sg_jd_n (w := w) (E := E) (k := k) (σ := σ) (fun z => absurd z.2 (by omega))] at he; rw [nI_add]; exact r_jdX (by omega) (by rw [he]; exact hq M1 hf hW)) | (rw [sg_jd_m (w := w) (E := E) (k := k) (σ := σ) hgt (fun z => z94_h z.1)] at he; rw [nI_add]; exact r_jdX (by omega) (by rw [he]; exact hq M2 (hf.tr g2_h) (hW.fr g2_h nG7))) | (rw [sg_jd_m (w := w) (E := E) (k := k) (σ := σ) hgt (fun z => z111_h z.2)] at he; rw [nI_add]; exact r_jdX (by omega) (by rw [he]; exact hq M2 (hf.tr g2_h) (hW.fr g2_h nG7))) | (rw [sg_jd_y (w := w) (E := E) (k := k) (σ := σ) hgt ⟨t35_h, t42_h⟩ ⟨z94_h, z111_h⟩] at he; exact ih (k + 1) _ M2 _ _ (by omega) (by omega) o2_h (sg_goes_o (by omega) (by omega)) g1_h (hT.fr g2_h) (hf.tr g2_h) (hW.fr g2_h nG7) hE2 he)

set_option maxRecDepth 20000 in
theorem R_judge {d : Nat} {M : dk_Mem} {Q : Option Value → dk_Mem → Prop} {K : sg_K} (hK : rK K M) {E : sg_E} (hE : rE E M) (hI : eI E) (hq : ∀ M2, dk_fr rN M M2 → Q (some (.int (nI (sg_jd K.2.1 E (tN (E 0)) 0 K.1)))) M2) : dk_Call (d + 9) mX12_judge [.ref 104] M Q := by
  have hK0 := hK
  obtain ⟨⟨o, p1_h, p2_h, p3_h⟩, hr, ⟨f, hb, hT⟩, hsc, hz⟩ := hK0
  have o4_h := o.2.2.2.1
  have o16_h := o.2.1
  refine dk_enter [some (.ref 104), none, none, none, none] (by decide) (fun _ => rfl) (fun _ => Nat.le_of_ble_eq_true rfl) ?_
  refine w_al0 (n := 1) dX12_judge_0 rfl ?_
  refine w_cV0 (n := 4) pl_104 cl_12 s0_X12_thinks k_X12_196 (Nat.le_of_ble_eq_true rfl) dX12_judge_1 rfl (r_thinks ?_)
  refine w_iconst (n := 5) (nI 0) dX12_judge_4 (by decide) rfl ?_
  refine w_is1 (n := 6) dX12_judge_5 rfl rfl (by decide) ?_
  refine w_iconst (n := 7) (nI 0) dX12_judge_6 (by decide) rfl ?_
  refine w_is2 (n := 8) dX12_judge_7 rfl rfl (by decide) ?_
  have hf1_h := rN_thinks (M := M)
  exact r_jdL hI hb (g := M.1 105) (fun M1 g1_h g2_h => hq _ (hf1_h.tr (r_back g1_h g2_h (fun k hk => ((hf1_h.2 105 k (by rintro (z | z | z | z | z) <;> omega))).symm)))) (tN (E 0) + 1) 0 K.1 _ _ _ (by omega) (by omega) o rfl (hr.N hf1_h) (hT.N hf1_h) dk_fr.rf (fun k hk => by rw [dk_row_at]; exact if_pos hk) (hE.N hf1_h) rfl

set_option maxRecDepth 20000 in
theorem c10_isAct {d : Nat} {M : dk_Mem} {Q : Option Value → dk_Mem → Prop} {c : Nat} (h1_h : M.1 14 1 = nI c) {x : Int32} (hy : nI 0 ≤ x ∧ x ≤ nI c → Q (some (.int 1)) M) (hn : ¬ (nI 0 ≤ x ∧ x ≤ nI c) → Q (some (.int 0)) M) : dk_Call d mX10_isAct [.ref 14, .int x] M Q := by
  refine dk_enter [some (.ref 14), some (.int x)] (by decide) (fun _ => rfl) (fun _ => Nat.le_of_ble_eq_true rfl) ?_
  refine w_il1 (n := 1) dX10_isAct_0 rfl ?_
  refine w_if_lt (n := 4) 16 dX10_isAct_1 (by decide) rfl (fun z1_h => ?_) (fun z1_h => ?_)
  · skip
    refine w_iconst (n := 17) (nI 0) dX10_isAct_16 (by decide) rfl ?_
    refine w_retZ0 dX10_isAct_17 rfl ?_
    exact hn (fun z => by first | exact absurd z.1 (Int32.not_le.mpr z1_h) | exact absurd z.2 (Int32.not_le.mpr z9_h))
  · skip
    refine w_il1 (n := 5) dX10_isAct_4 rfl ?_
    refine w_al0 (n := 6) dX10_isAct_5 rfl ?_
    refine g_I (n := 9) f_X10_9_10 pl_14 dX10_isAct_6 rfl ?_
    rw [h1_h]
    refine w_ic_gt (n := 12) 16 dX10_isAct_9 (by decide) rfl (fun z9_h => ?_) (fun z9_h => ?_)
    · skip
      refine w_iconst (n := 17) (nI 0) dX10_isAct_16 (by decide) rfl ?_
      refine w_retZ0 dX10_isAct_17 rfl ?_
      exact hn (fun z => by first | exact absurd z.1 (Int32.not_le.mpr z1_h) | exact absurd z.2 (Int32.not_le.mpr z9_h))
    · skip
      refine w_iconst (n := 13) (nI 1) dX10_isAct_12 (by decide) rfl ?_
      refine w_goto 17 dX10_isAct_13 (by decide) ?_
      refine w_retZ1 dX10_isAct_17 rfl ?_
      exact hy ⟨Int32.not_lt.mp z1_h, Int32.not_lt.mp z9_h⟩

set_option maxRecDepth 20000 in
theorem c_jdL {d : Nat} {M : dk_Mem} {Q : Option Value → dk_Mem → Prop} {w : sg_R} {E : sg_E} (hI : eI E) {T0 : Nat} (hq : ∀ M1, dk_fr cN M M1 → Q (some (.int (nI T0))) M1) : ∀ (n k : Nat) (σ : Nat → Nat) (M1 : dk_Mem) (x2_h x3_h : Option Value), k ≤ tN (E 0) → tN (E 0) - k < n → sg_ok σ → cs σ M1 → cm 79 σ M1 → cbb w M1 → dk_fr cN M M1 → cE E M1 → sg_jd w E (tN (E 0) - k) k σ = T0 → dk_W (d + 8) mX11_judge 16 [some (.ref 0), some (.int (nI k)), x2_h, x3_h] [] M1 Q := by
  have hm9_h : dk_mo 79 := cK.m9
  have hR := hI.1
  have h4_h := hR.2
  intro n
  induction n with
  | zero => intro k _ _ _ _ _ h; omega
  | succ n ih =>
    intro k σ M1 x2_h x3_h hi hn o hs hc hb hf hE he
    have o4_h := o.2.2.2.1
    have o16_h := o.2.1
    refine w_il1 (n := 17) dX11_judge_16 rfl ?_
    refine w_al0 (n := 18) dX11_judge_17 rfl ?_
    refine g_I (n := 21) f_X11_83_11 pl_0 dX11_judge_18 rfl ?_
    rw [hE.1.1, hR.1]
    refine w_ic_ge (n := 24) 107 dX11_judge_21 (by decide) rfl (fun z21_h => ?_) (fun z21_h => ?_)
    · skip
      refine w_iconst (n := 108) (nI 0) dX11_judge_107 (by decide) rfl ?_
      refine w_retI dX11_judge_108 rfl ?_
      rw [show tN (E 0) - k = 0 by rw [q_le (by omega) (by omega)] at z21_h; omega] at he
      rw [show T0 = 0 from he.symm] at hq
      exact hq M1 hf
    · skip
      have hk : k < tN (E 0) := by rw [q_le (by omega) (by omega)] at z21_h; omega
      have sl := sl_ar k (by omega)
      rw [show tN (E 0) - k = (tN (E 0) - (k + 1)) + 1 by omega] at he
      refine w_al0 (n := 25) dX11_judge_24 rfl ?_
      refine g_R (n := 28) f_X11_80_11 pl_0 rf_0_9 dX11_judge_25 rfl ?_
      refine w_il1 (n := 29) dX11_judge_28 rfl ?_
      refine i_aaldI (n := 30) pl_90 (j := k) rfl (by omega) (by decide) sl.2.2.2 dX11_judge_29 rfl ?_
      refine w_as2 (n := 31) dX11_judge_30 rfl rfl (by decide) ?_
      refine w_al0 (n := 32) dX11_judge_31 rfl ?_
      refine g_R (n := 35) f_X11_36_11 pl_0 rf_0_1 dX11_judge_32 rfl ?_
      refine w_al0 (n := 36) dX11_judge_35 rfl ?_
      refine g_R (n := 39) f_X11_59_11 pl_0 rf_0_5 dX11_judge_36 rfl ?_
      refine w_cV1 (n := 42) pl_14 cl_10 s0_X10_isOver k_X11_197 (Nat.le_of_ble_eq_true rfl) dX11_judge_39 rfl (c10_isOver hs o hm9_h hc (fun t39_h => ?_) (fun t39_h => ?_))
      · skip
        refine w_if_ne (n := 45) 58 dX11_judge_42 (by decide) rfl (fun _ => ?_) (fun h => absurd h (by decide))
        refine w_il1 (n := 59) dX11_judge_58 rfl ?_
        refine w_iconst (n := 60) (nI 1) dX11_judge_59 (by decide) rfl ?_
        refine w_iadd (n := 61) dX11_judge_60 rfl ?_
        refine w_retI dX11_judge_61 rfl ?_
        rw [nI_add, Nat.add_comm]
        first | (rw [sg_jd_n (w := w) (E := E) (k := k) (σ := σ) (fun z => absurd z.2 (by omega))] at he; rw [he]; exact hq M1 hf) | (rw [sg_jd_n (w := w) (E := E) (k := k) (σ := σ) (fun z => t52_h z.1)] at he; rw [he]; exact hq M1 hf)
      · skip
        refine w_if_ne (n := 45) 58 dX11_judge_42 (by decide) rfl (fun h => absurd h (by decide)) (fun _ => ?_)
        refine w_al0 (n := 46) dX11_judge_45 rfl ?_
        refine g_R (n := 49) f_X11_36_11 pl_0 rf_0_1 dX11_judge_46 rfl ?_
        refine w_al2 (n := 50) dX11_judge_49 rfl ?_
        refine w_iconst (n := 51) (nI 0) dX11_judge_50 (by decide) rfl ?_
        refine i_iald (n := 52) sl.2.1 (j := 0) rfl (by decide) (by decide) (show M1.1 (91 + k) 0 = E (1 + 3 * k) from hE.1.2 _ hk _ (by decide)) dX11_judge_51 rfl ?_
        refine w_cV1 (n := 55) pl_14 cl_10 s0_X10_isAct k_X11_316 (Nat.le_of_ble_eq_true rfl) dX11_judge_52 rfl (c10_isAct hs.count (fun t52_h => ?_) (fun t52_h => ?_))
        · skip
          refine w_if_ne (n := 58) 62 dX11_judge_55 (by decide) rfl (fun _ => ?_) (fun h => absurd h (by decide))
          refine w_al0 (n := 63) dX11_judge_62 rfl ?_
          refine g_R (n := 66) f_X11_36_11 pl_0 rf_0_1 dX11_judge_63 rfl ?_
          refine w_al0 (n := 67) dX11_judge_66 rfl ?_
          refine g_R (n := 70) f_X11_59_11 pl_0 rf_0_5 dX11_judge_67 rfl ?_
          refine w_al2 (n := 71) dX11_judge_70 rfl ?_
          refine w_iconst (n := 72) (nI 0) dX11_judge_71 (by decide) rfl ?_
          refine i_iald (n := 73) sl.2.1 (j := 0) rfl (by decide) (by decide) (show M1.1 (91 + k) 0 = E (1 + 3 * k) from hE.1.2 _ hk _ (by decide)) dX11_judge_72 rfl ?_
          have ac := sg_ac o4_h t52_h
          have hot := ac.2.2.1
          have hax := ac.1
          rw [hax]
          have hen := sg_ot_act (tN (E (1 + 3 * k)))
          rw [← hen]
          generalize hgt : sg_ot (tN (E (1 + 3 * k))) = t at *
          refine w_cV2 (n := 76) pl_14 cl_10 s0_X10_passYear k_X11_241 (Nat.le_of_ble_eq_true rfl) dX11_judge_73 rfl (c10_py hs o hm9_h hc hot hb (fun M3 g1_h g2_h => ?_))
          have o2_h := o.goes (w := w) (t := t) (fun h e => by have := hot h e; omega) (by omega)
          have hE2 := hE.fr hI g2_h (fun q k z => by unfold cX at z; unfold cXX; omega)
          have e4_h : (sg_goes w σ t).1 4 = σ 4 := sg_goes_o (by omega) (by omega)
          refine w_is3 (n := 77) dX11_judge_76 rfl rfl (by decide) ?_
          refine w_il3 (n := 78) dX11_judge_77 rfl ?_
          refine w_al2 (n := 79) dX11_judge_78 rfl ?_
          refine w_iconst (n := 80) (nI 1) dX11_judge_79 (by decide) rfl ?_
          refine i_iald (n := 81) sl.2.1 (j := 1) rfl (by decide) (by decide) (hE2.1.2 _ hk _ (by decide)) dX11_judge_80 rfl ?_
          refine w_ic_ne (n := 84) 97 dX11_judge_81 (by decide) rfl (fun z81_h => ?_) (fun z81_h => ?_)
          · skip
            refine w_il1 (n := 98) dX11_judge_97 rfl ?_
            refine w_iconst (n := 99) (nI 1) dX11_judge_98 (by decide) rfl ?_
            refine w_iadd (n := 100) dX11_judge_99 rfl ?_
            refine w_retI dX11_judge_100 rfl ?_
            rw [nI_add, Nat.add_comm]
            first | (rw [sg_jd_m (w := w) (E := E) (k := k) (σ := σ) hgt (fun z => z81_h z.1)] at he; rw [he]; exact hq M3 (hf.tr (cX79 g2_h))) | (rw [sg_jd_m (w := w) (E := E) (k := k) (σ := σ) hgt (fun z => z94_h z.2)] at he; rw [he]; exact hq M3 (hf.tr (cX79 g2_h)))
          · skip
            refine w_al0 (n := 85) dX11_judge_84 rfl ?_
            refine g_R (n := 88) f_X11_59_11 pl_0 rf_0_5 dX11_judge_85 rfl ?_
            refine g_I (n := 91) f_X11_191_4 pl_79 dX11_judge_88 rfl ?_
            rw [g1_h.2.1, e4_h]
            refine w_al2 (n := 92) dX11_judge_91 rfl ?_
            refine w_iconst (n := 93) (nI 2) dX11_judge_92 (by decide) rfl ?_
            refine i_iald (n := 94) sl.2.1 (j := 2) rfl (by decide) (by decide) (hE2.1.2 _ hk _ (by decide)) dX11_judge_93 rfl ?_
            refine w_ic_eq (n := 97) 101 dX11_judge_94 (by decide) rfl (fun z94_h => ?_) (fun z94_h => ?_)
            · skip
              refine w_inc1 (n := 104) (nI 1) dX11_judge_101 (by decide) rfl rfl (by decide) ?_
              refine w_goto 16 dX11_judge_104 (by decide) ?_
              rw [sg_jd_y (w := w) (E := E) (k := k) (σ := σ) hgt ⟨t52_h, t39_h⟩ ⟨z81_h, z94_h⟩] at he
              rw [nI_add]
              exact ih (k + 1) _ M3 _ _ (by omega) (by omega) o2_h ((hs.X hm9_h g2_h).eqv sg_eqv.goes) g1_h (hb.X hm9_h g2_h) (hf.tr (cX79 g2_h)) hE2 he
            · skip
              refine w_il1 (n := 98) dX11_judge_97 rfl ?_
              refine w_iconst (n := 99) (nI 1) dX11_judge_98 (by decide) rfl ?_
              refine w_iadd (n := 100) dX11_judge_99 rfl ?_
              refine w_retI dX11_judge_100 rfl ?_
              rw [nI_add, Nat.add_comm]
              first | (rw [sg_jd_m (w := w) (E := E) (k := k) (σ := σ) hgt (fun z => z81_h z.1)] at he; rw [he]; exact hq M3 (hf.tr (cX79 g2_h))) | (rw [sg_jd_m (w := w) (E := E) (k := k) (σ := σ) hgt (fun z => z94_h z.2)] at he; rw [he]; exact hq M3 (hf.tr (cX79 g2_h)))
        · skip
          refine w_if_ne (n := 58) 62 dX11_judge_55 (by decide) rfl (fun h => absurd h (by decide)) (fun _ => ?_)
          refine w_il1 (n := 59) dX11_judge_58 rfl ?_
          refine w_iconst (n := 60) (nI 1) dX11_judge_59 (by decide) rfl ?_
          refine w_iadd (n := 61) dX11_judge_60 rfl ?_
          refine w_retI dX11_judge_61 rfl ?_
          rw [nI_add, Nat.add_comm]
          first | (rw [sg_jd_n (w := w) (E := E) (k := k) (σ := σ) (fun z => absurd z.2 (by omega))] at he; rw [he]; exact hq M1 hf) | (rw [sg_jd_n (w := w) (E := E) (k := k) (σ := σ) (fun z => t52_h z.1)] at he; rw [he]; exact hq M1 hf)

set_option maxRecDepth 20000 in
theorem C_judge {d : Nat} {M : dk_Mem} {Q : Option Value → dk_Mem → Prop} {K : sg_K} (hK : cK K M) {E : sg_E} (hE : cE E M) (hI : eI E) (hq : ∀ M2, dk_fr cN M M2 → Q (some (.int (nI (sg_jd K.2.1 E (tN (E 0)) 0 K.1)))) M2) : dk_Call (d + 9) mX11_judge [.ref 0] M Q := by
  have hK0 := hK
  obtain ⟨⟨o, p1_h, p2_h, p3_h⟩, hs, hc, hb, hcr, hsc, hz, β, hβ, hβ1, hβ2⟩ := hK0
  have o4_h := o.2.2.2.1
  have o16_h := o.2.1
  have hm : dk_mo 22 := Or.inl rfl
  have hm9_h : dk_mo 79 := cK.m9
  refine dk_enter [some (.ref 0), none, none, none] (by decide) (fun _ => rfl) (fun _ => Nat.le_of_ble_eq_true rfl) ?_
  refine w_al0 (n := 1) dX11_judge_0 rfl ?_
  refine g_R (n := 4) f_X11_59_11 pl_0 rf_0_5 dX11_judge_1 rfl ?_
  refine w_al0 (n := 5) dX11_judge_4 rfl ?_
  refine g_R (n := 8) f_X11_36_11 pl_0 rf_0_1 dX11_judge_5 rfl ?_
  refine g_R (n := 11) f_X11_127_10 pl_14 rf_14_9 dX11_judge_8 rfl ?_
  refine w_cV1 (n := 14) pl_79 cl_4 s0_X4_take k_X11_233 (Nat.le_of_ble_eq_true rfl) dX11_judge_11 rfl (c4_take hm9_h hm (by decide) hc o4_h (fun M2 k1_h k2_h => ?_))
  have f0_h : dk_fr cN M M2 := k2_h.up (fun q k z => by unfold cN; omega)
  have hs0_h : cs _ M2 := hs.fr f0_h (fun q k _ _ z => by unfold cN at z; omega)
  have hb0_h : cbb _ M2 := hb.fr f0_h (fun q k z => Or.inr (Or.inr z))
  refine w_iconst (n := 15) (nI 0) dX11_judge_14 (by decide) rfl ?_
  refine w_is1 (n := 16) dX11_judge_15 rfl rfl (by decide) ?_
  exact c_jdL hI (fun M1 g => hq M1 (f0_h.tr g)) (tN (E 0) + 1) 0 K.1 M2 _ _ (by omega) (by omega) o hs0_h k1_h hb0_h dk_fr.rf (hE.A hI (cN_A f0_h)) rfl
