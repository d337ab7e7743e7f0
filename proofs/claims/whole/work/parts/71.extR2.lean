theorem q_ge0 {x : Int32} (h : ¬ x < 0) : 0 ≤ x := Int32.not_lt.mp h
theorem rE.shelf {E : sg_E} {M : dk_Mem} (h : rE E M) {s : Nat} (hs : s < 4) {x n a b c : Int32} (ha : a = if x = nI 1 ∧ ¬ (0 ≤ E (20 + tN n)) then nI 2 else x) (hb : b = if x = nI 1 ∧ 0 ≤ E (20 + tN n) then E (20 + tN n) else n) (hc : c = if x = nI 1 ∧ 0 ≤ E (20 + tN n) then E (24 + tN n) else nI 0) : rE (eF E s x n) (dk_put (dk_put (dk_put M 116 s a) 117 s b) 118 s c) := by
  subst ha hb hc
  exact ((h.put (eL_116 hs)).put (eL_117 hs)).put (eL_118 hs)
theorem fe_shelf {M : dk_Mem} {s : Nat} {a b c : Int32} : dk_fe rX M (dk_put (dk_put (dk_put M 116 s a) 117 s b) 118 s c) := ((dk_fe.rf.put (by unfold rX; omega)).put (by unfold rX; omega)).put (by unfold rX; omega)
theorem q_and : ∀ s, s < 64 → s ≠ 0 → nI s &&& (nI s - nI 1) = nI (s &&& (s - 1)) ∧ (s &&& (s - 1)) < s ∧ sg_bits s = sg_bits (s &&& (s - 1)) + 1 := by decide +kernel
theorem q_bits : ∀ s, s < 64 → sg_bits s ≤ 6 := by decide +kernel

set_option maxRecDepth 20000 in
theorem R_shelf {d : Nat} {M : dk_Mem} {Q : Option Value → dk_Mem → Prop} {K : sg_K} (hK : rK K M) {E : sg_E} (hE : rE E M) (hI : eI E) {s x n : Int32} (hq : ∀ M2, rE (ef_shelf K E s x n).2 M2 → dk_fe rX M M2 → Q (some (.int (ef_shelf K E s x n).1)) M2) : dk_Call (d + 3) mX12_shelf [.ref 104, .int s, .int x, .int n] M Q := by
  have hK0 := hK
  obtain ⟨⟨o, p1_h, p2_h, p3_h⟩, hr, ⟨f, hb, hT⟩, hsc, hz⟩ := hK0
  have o4_h := o.2.2.2.1
  have o16_h := o.2.1
  refine dk_enter [some (.ref 104), some (.int s), some (.int x), some (.int n), none] (by decide) (fun _ => rfl) (fun _ => Nat.le_of_ble_eq_true rfl) ?_
  refine w_il1 (n := 1) dX12_shelf_0 rfl ?_
  refine w_cS1 (n := 4) s0_X12_isFour k_X12_281 (Nat.le_of_ble_eq_true rfl) dX12_shelf_1 rfl (r_isFour (fun t1_h => ?_) (fun t1_h => ?_))
  · skip
    refine w_if_eq (n := 7) 40 dX12_shelf_4 (by decide) rfl (fun h => absurd h (by decide)) (fun _ => ?_)
    refine w_il2 (n := 8) dX12_shelf_7 rfl ?_
    refine w_iconst (n := 9) (nI 0) dX12_shelf_8 (by decide) rfl ?_
    refine w_iconst (n := 10) (nI 2) dX12_shelf_9 (by decide) rfl ?_
    refine w_cS3 (n := 13) s0_X12_in k_X12_61 (Nat.le_of_ble_eq_true rfl) dX12_shelf_10 rfl (r_in (fun t10_h => ?_) (fun t10_h => ?_))
    · skip
      refine w_if_eq (n := 16) 40 dX12_shelf_13 (by decide) rfl (fun h => absurd h (by decide)) (fun _ => ?_)
      refine w_il2 (n := 17) dX12_shelf_16 rfl ?_
      refine w_if_ne (n := 20) 28 dX12_shelf_17 (by decide) rfl (fun z17_h => ?_) (fun z17_h => ?_)
      · skip
        refine w_il2 (n := 29) dX12_shelf_28 rfl ?_
        refine w_iconst (n := 30) (nI 1) dX12_shelf_29 (by decide) rfl ?_
        refine w_ic_ne (n := 33) 42 dX12_shelf_30 (by decide) rfl (fun z30_h => ?_) (fun z30_h => ?_)
        · skip
          have hs := tN_of (n := 3) (by decide) t1_h.1 t1_h.2
          have cc : (nI 0 ≤ s ∧ s ≤ nI 3) ∧ (nI 0 ≤ x ∧ x ≤ nI 2) ∧ (x = 0 → sg_pc K.1 n ≠ none) ∧ (x = nI 1 → nI 0 ≤ n ∧ n ≤ nI 3) := ⟨t1_h, t10_h, fun e => by first | exact kp | exact absurd e z17_h, fun e => by first | exact t34_h | exact absurd e z30_h⟩
          refine w_il2 (n := 43) dX12_shelf_42 rfl ?_
          refine w_iconst (n := 44) (nI 1) dX12_shelf_43 (by decide) rfl ?_
          refine w_ic_ne (n := 47) 60 dX12_shelf_44 (by decide) rfl (fun z44_h => ?_) (fun z44_h => ?_)
          · skip
            refine w_iconst (n := 61) (nI 0) dX12_shelf_60 (by decide) rfl ?_
            refine w_is4 (n := 63) dX12_shelf_61 rfl rfl (by decide) ?_
            refine w_al0 (n := 64) dX12_shelf_63 rfl ?_
            refine g_R (n := 67) f_X12_45_12 pl_104 rf_104_25 dX12_shelf_64 rfl ?_
            refine w_il1 (n := 68) dX12_shelf_67 rfl ?_
            refine w_il2 (n := 69) dX12_shelf_68 rfl ?_
            refine w_iconst (n := 70) (nI 1) dX12_shelf_69 (by decide) rfl ?_
            refine w_ic_ne (n := 73) 82 dX12_shelf_70 (by decide) rfl (fun z70_h => ?_) (fun z70_h => ?_)
            · skip
              refine w_il2 (n := 83) dX12_shelf_82 rfl ?_
              refine i_iast (n := 84) pl_116 (j := tN s) hs.1 (by omega) (by decide) dX12_shelf_83 rfl ?_
              refine w_al0 (n := 85) dX12_shelf_84 rfl ?_
              refine g_R (n := 88) f_X12_48_12 pl_104 rf_104_26 dX12_shelf_85 rfl ?_
              refine w_il1 (n := 89) dX12_shelf_88 rfl ?_
              refine w_il4 (n := 91) dX12_shelf_89 rfl ?_
              refine w_if_eq (n := 94) 103 dX12_shelf_91 (by decide) rfl (fun _ => ?_) (fun h => absurd (by decide) h)
              refine w_il3 (n := 104) dX12_shelf_103 rfl ?_
              refine i_iast (n := 105) pl_117 (j := tN s) hs.1 (by omega) (by decide) dX12_shelf_104 rfl ?_
              refine w_al0 (n := 106) dX12_shelf_105 rfl ?_
              refine g_R (n := 109) f_X12_51_12 pl_104 rf_104_27 dX12_shelf_106 rfl ?_
              refine w_il1 (n := 110) dX12_shelf_109 rfl ?_
              refine w_il4 (n := 112) dX12_shelf_110 rfl ?_
              refine w_if_eq (n := 115) 124 dX12_shelf_112 (by decide) rfl (fun _ => ?_) (fun h => absurd (by decide) h)
              refine w_iconst (n := 125) (nI 0) dX12_shelf_124 (by decide) rfl ?_
              refine i_iast (n := 126) pl_118 (j := tN s) hs.1 (by omega) (by decide) dX12_shelf_125 rfl ?_
              refine w_iconst (n := 127) (nI 1) dX12_shelf_126 (by decide) rfl ?_
              refine w_retI dX12_shelf_127 rfl ?_
              refine dk_finE hq (if_pos cc) (hE.shelf (s := tN s) (by omega) ?_ ?_ ?_) fe_shelf
              · first | exact absurd z70_h z44_h | exact absurd z44_h z70_h | exact (if_neg (fun z => absurd z.1 z70_h)).symm | exact (if_neg (fun z => z.2 (Int32.not_lt.mp z53_h))).symm | exact (if_pos ⟨z70_h, fun z => absurd z53_h (Int32.not_lt.mpr z)⟩).symm
              · first | exact absurd z70_h z44_h | exact absurd z44_h z70_h | exact (if_neg (fun z => absurd z.1 z44_h)).symm | exact (if_pos ⟨z44_h, Int32.not_lt.mp z53_h⟩).symm | exact (if_neg (fun z => absurd z53_h (Int32.not_lt.mpr z.2))).symm
              · first | exact absurd z70_h z44_h | exact absurd z44_h z70_h | exact (if_neg (fun z => absurd z.1 z44_h)).symm | exact (if_pos ⟨z44_h, Int32.not_lt.mp z53_h⟩).symm | exact (if_neg (fun z => absurd z53_h (Int32.not_lt.mpr z.2))).symm
            · skip
              refine w_il4 (n := 75) dX12_shelf_73 rfl ?_
              refine w_if_ne (n := 78) 82 dX12_shelf_75 (by decide) rfl (fun h => absurd h (by decide)) (fun _ => ?_)
              refine w_iconst (n := 79) (nI 2) dX12_shelf_78 (by decide) rfl ?_
              refine w_goto 83 dX12_shelf_79 (by decide) ?_
              refine i_iast (n := 84) pl_116 (j := tN s) hs.1 (by omega) (by decide) dX12_shelf_83 rfl ?_
              refine w_al0 (n := 85) dX12_shelf_84 rfl ?_
              refine g_R (n := 88) f_X12_48_12 pl_104 rf_104_26 dX12_shelf_85 rfl ?_
              refine w_il1 (n := 89) dX12_shelf_88 rfl ?_
              refine w_il4 (n := 91) dX12_shelf_89 rfl ?_
              refine w_if_eq (n := 94) 103 dX12_shelf_91 (by decide) rfl (fun _ => ?_) (fun h => absurd (by decide) h)
              refine w_il3 (n := 104) dX12_shelf_103 rfl ?_
              refine i_iast (n := 105) pl_117 (j := tN s) hs.1 (by omega) (by decide) dX12_shelf_104 rfl ?_
              refine w_al0 (n := 106) dX12_shelf_105 rfl ?_
              refine g_R (n := 109) f_X12_51_12 pl_104 rf_104_27 dX12_shelf_106 rfl ?_
              refine w_il1 (n := 110) dX12_shelf_109 rfl ?_
              refine w_il4 (n := 112) dX12_shelf_110 rfl ?_
              refine w_if_eq (n := 115) 124 dX12_shelf_112 (by decide) rfl (fun _ => ?_) (fun h => absurd (by decide) h)
              refine w_iconst (n := 125) (nI 0) dX12_shelf_124 (by decide) rfl ?_
              refine i_iast (n := 126) pl_118 (j := tN s) hs.1 (by omega) (by decide) dX12_shelf_125 rfl ?_
              refine w_iconst (n := 127) (nI 1) dX12_shelf_126 (by decide) rfl ?_
              refine w_retI dX12_shelf_127 rfl ?_
              refine dk_finE hq (if_pos cc) (hE.shelf (s := tN s) (by omega) ?_ ?_ ?_) fe_shelf
              · first | exact absurd z70_h z44_h | exact absurd z44_h z70_h | exact (if_neg (fun z => absurd z.1 z70_h)).symm | exact (if_neg (fun z => z.2 (Int32.not_lt.mp z53_h))).symm | exact (if_pos ⟨z70_h, fun z => absurd z53_h (Int32.not_lt.mpr z)⟩).symm
              · first | exact absurd z70_h z44_h | exact absurd z44_h z70_h | exact (if_neg (fun z => absurd z.1 z44_h)).symm | exact (if_pos ⟨z44_h, Int32.not_lt.mp z53_h⟩).symm | exact (if_neg (fun z => absurd z53_h (Int32.not_lt.mpr z.2))).symm
              · first | exact absurd z70_h z44_h | exact absurd z44_h z70_h | exact (if_neg (fun z => absurd z.1 z44_h)).symm | exact (if_pos ⟨z44_h, Int32.not_lt.mp z53_h⟩).symm | exact (if_neg (fun z => absurd z53_h (Int32.not_lt.mpr z.2))).symm
          · skip
            have hn := tN_of (n := 3) (by decide) (cc.2.2.2 z44_h).1 (cc.2.2.2 z44_h).2
            refine w_al0 (n := 48) dX12_shelf_47 rfl ?_
            refine g_R (n := 51) f_X12_35_12 pl_104 rf_104_22 dX12_shelf_48 rfl ?_
            refine w_il3 (n := 52) dX12_shelf_51 rfl ?_
            refine i_iald (n := 53) pl_113 (j := tN n) hn.1 (by omega) (by decide) (hE.1 _ _ _ (eL_113 (by omega))) dX12_shelf_52 rfl ?_
            refine w_if_lt (n := 56) 60 dX12_shelf_53 (by decide) rfl (fun z53_h => ?_) (fun z53_h => ?_)
            · skip
              refine w_iconst (n := 61) (nI 0) dX12_shelf_60 (by decide) rfl ?_
              refine w_is4 (n := 63) dX12_shelf_61 rfl rfl (by decide) ?_
              refine w_al0 (n := 64) dX12_shelf_63 rfl ?_
              refine g_R (n := 67) f_X12_45_12 pl_104 rf_104_25 dX12_shelf_64 rfl ?_
              refine w_il1 (n := 68) dX12_shelf_67 rfl ?_
              refine w_il2 (n := 69) dX12_shelf_68 rfl ?_
              refine w_iconst (n := 70) (nI 1) dX12_shelf_69 (by decide) rfl ?_
              refine w_ic_ne (n := 73) 82 dX12_shelf_70 (by decide) rfl (fun z70_h => ?_) (fun z70_h => ?_)
              · skip
                refine w_il2 (n := 83) dX12_shelf_82 rfl ?_
                refine i_iast (n := 84) pl_116 (j := tN s) hs.1 (by omega) (by decide) dX12_shelf_83 rfl ?_
                refine w_al0 (n := 85) dX12_shelf_84 rfl ?_
                refine g_R (n := 88) f_X12_48_12 pl_104 rf_104_26 dX12_shelf_85 rfl ?_
                refine w_il1 (n := 89) dX12_shelf_88 rfl ?_
                refine w_il4 (n := 91) dX12_shelf_89 rfl ?_
                refine w_if_eq (n := 94) 103 dX12_shelf_91 (by decide) rfl (fun _ => ?_) (fun h => absurd (by decide) h)
                refine w_il3 (n := 104) dX12_shelf_103 rfl ?_
                refine i_iast (n := 105) pl_117 (j := tN s) hs.1 (by omega) (by decide) dX12_shelf_104 rfl ?_
                refine w_al0 (n := 106) dX12_shelf_105 rfl ?_
                refine g_R (n := 109) f_X12_51_12 pl_104 rf_104_27 dX12_shelf_106 rfl ?_
                refine w_il1 (n := 110) dX12_shelf_109 rfl ?_
                refine w_il4 (n := 112) dX12_shelf_110 rfl ?_
                refine w_if_eq (n := 115) 124 dX12_shelf_112 (by decide) rfl (fun _ => ?_) (fun h => absurd (by decide) h)
                refine w_iconst (n := 125) (nI 0) dX12_shelf_124 (by decide) rfl ?_
                refine i_iast (n := 126) pl_118 (j := tN s) hs.1 (by omega) (by decide) dX12_shelf_125 rfl ?_
                refine w_iconst (n := 127) (nI 1) dX12_shelf_126 (by decide) rfl ?_
                refine w_retI dX12_shelf_127 rfl ?_
                refine dk_finE hq (if_pos cc) (hE.shelf (s := tN s) (by omega) ?_ ?_ ?_) fe_shelf
                · first | exact absurd z70_h z44_h | exact absurd z44_h z70_h | exact (if_neg (fun z => absurd z.1 z70_h)).symm | exact (if_neg (fun z => z.2 (Int32.not_lt.mp z53_h))).symm | exact (if_pos ⟨z70_h, fun z => absurd z53_h (Int32.not_lt.mpr z)⟩).symm
                · first | exact absurd z70_h z44_h | exact absurd z44_h z70_h | exact (if_neg (fun z => absurd z.1 z44_h)).symm | exact (if_pos ⟨z44_h, Int32.not_lt.mp z53_h⟩).symm | exact (if_neg (fun z => absurd z53_h (Int32.not_lt.mpr z.2))).symm
                · first | exact absurd z70_h z44_h | exact absurd z44_h z70_h | exact (if_neg (fun z => absurd z.1 z44_h)).symm | exact (if_pos ⟨z44_h, Int32.not_lt.mp z53_h⟩).symm | exact (if_neg (fun z => absurd z53_h (Int32.not_lt.mpr z.2))).symm
              · skip
                refine w_il4 (n := 75) dX12_shelf_73 rfl ?_
                refine w_if_ne (n := 78) 82 dX12_shelf_75 (by decide) rfl (fun h => absurd h (by decide)) (fun _ => ?_)
                refine w_iconst (n := 79) (nI 2) dX12_shelf_78 (by decide) rfl ?_
                refine w_goto 83 dX12_shelf_79 (by decide) ?_
                refine i_iast (n := 84) pl_116 (j := tN s) hs.1 (by omega) (by decide) dX12_shelf_83 rfl ?_
                refine w_al0 (n := 85) dX12_shelf_84 rfl ?_
                refine g_R (n := 88) f_X12_48_12 pl_104 rf_104_26 dX12_shelf_85 rfl ?_
                refine w_il1 (n := 89) dX12_shelf_88 rfl ?_
                refine w_il4 (n := 91) dX12_shelf_89 rfl ?_
                refine w_if_eq (n := 94) 103 dX12_shelf_91 (by decide) rfl (fun _ => ?_) (fun h => absurd (by decide) h)
                refine w_il3 (n := 104) dX12_shelf_103 rfl ?_
                refine i_iast (n := 105) pl_117 (j := tN s) hs.1 (by omega) (by decide) dX12_shelf_104 rfl ?_
                refine w_al0 (n := 106) dX12_shelf_105 rfl ?_
                refine g_R (n := 109) f_X12_51_12 pl_104 rf_104_27 dX12_shelf_106 rfl ?_
                refine w_il1 (n := 110) dX12_shelf_109 rfl ?_
                refine w_il4 (n := 112) dX12_shelf_110 rfl ?_
                refine w_if_eq (n := 115) 124 dX12_shelf_112 (by decide) rfl (fun _ => ?_) (fun h => absurd (by decide) h)
                refine w_iconst (n := 125) (nI 0) dX12_shelf_124 (by decide) rfl ?_
                refine i_iast (n := 126) pl_118 (j := tN s) hs.1 (by omega) (by decide) dX12_shelf_125 rfl ?_
                refine w_iconst (n := 127) (nI 1) dX12_shelf_126 (by decide) rfl ?_
                refine w_retI dX12_shelf_127 rfl ?_
                refine dk_finE hq (if_pos cc) (hE.shelf (s := tN s) (by omega) ?_ ?_ ?_) fe_shelf
                · first | exact absurd z70_h z44_h | exact absurd z44_h z70_h | exact (if_neg (fun z => absurd z.1 z70_h)).symm | exact (if_neg (fun z => z.2 (Int32.not_lt.mp z53_h))).symm | exact (if_pos ⟨z70_h, fun z => absurd z53_h (Int32.not_lt.mpr z)⟩).symm
                · first | exact absurd z70_h z44_h | exact absurd z44_h z70_h | exact (if_neg (fun z => absurd z.1 z44_h)).symm | exact (if_pos ⟨z44_h, Int32.not_lt.mp z53_h⟩).symm | exact (if_neg (fun z => absurd z53_h (Int32.not_lt.mpr z.2))).symm
                · first | exact absurd z70_h z44_h | exact absurd z44_h z70_h | exact (if_neg (fun z => absurd z.1 z44_h)).symm | exact (if_pos ⟨z44_h, Int32.not_lt.mp z53_h⟩).symm | exact (if_neg (fun z => absurd z53_h (Int32.not_lt.mpr z.2))).symm
            · skip
              refine w_iconst (n := 57) (nI 1) dX12_shelf_56 (by decide) rfl ?_
              refine w_goto 61 dX12_shelf_57 (by decide) ?_
              refine w_is4 (n := 63) dX12_shelf_61 rfl rfl (by decide) ?_
              refine w_al0 (n := 64) dX12_shelf_63 rfl ?_
              refine g_R (n := 67) f_X12_45_12 pl_104 rf_104_25 dX12_shelf_64 rfl ?_
              refine w_il1 (n := 68) dX12_shelf_67 rfl ?_
              refine w_il2 (n := 69) dX12_shelf_68 rfl ?_
              refine w_iconst (n := 70) (nI 1) dX12_shelf_69 (by decide) rfl ?_
              refine w_ic_ne (n := 73) 82 dX12_shelf_70 (by decide) rfl (fun z70_h => ?_) (fun z70_h => ?_)
              · skip
                refine w_il2 (n := 83) dX12_shelf_82 rfl ?_
                refine i_iast (n := 84) pl_116 (j := tN s) hs.1 (by omega) (by decide) dX12_shelf_83 rfl ?_
                refine w_al0 (n := 85) dX12_shelf_84 rfl ?_
                refine g_R (n := 88) f_X12_48_12 pl_104 rf_104_26 dX12_shelf_85 rfl ?_
                refine w_il1 (n := 89) dX12_shelf_88 rfl ?_
                refine w_il4 (n := 91) dX12_shelf_89 rfl ?_
                refine w_if_eq (n := 94) 103 dX12_shelf_91 (by decide) rfl (fun h => absurd h (by decide)) (fun _ => ?_)
                refine w_al0 (n := 95) dX12_shelf_94 rfl ?_
                refine g_R (n := 98) f_X12_35_12 pl_104 rf_104_22 dX12_shelf_95 rfl ?_
                refine w_il3 (n := 99) dX12_shelf_98 rfl ?_
                refine i_iald (n := 100) pl_113 (j := tN n) hn.1 (by omega) (by decide) ((dk_put_k (by omega)).trans (hE.1 _ _ _ (eL_113 (by omega)))) dX12_shelf_99 rfl ?_
                refine w_goto 104 dX12_shelf_100 (by decide) ?_
                refine i_iast (n := 105) pl_117 (j := tN s) hs.1 (by omega) (by decide) dX12_shelf_104 rfl ?_
                refine w_al0 (n := 106) dX12_shelf_105 rfl ?_
                refine g_R (n := 109) f_X12_51_12 pl_104 rf_104_27 dX12_shelf_106 rfl ?_
                refine w_il1 (n := 110) dX12_shelf_109 rfl ?_
                refine w_il4 (n := 112) dX12_shelf_110 rfl ?_
                refine w_if_eq (n := 115) 124 dX12_shelf_112 (by decide) rfl (fun h => absurd h (by decide)) (fun _ => ?_)
                refine w_al0 (n := 116) dX12_shelf_115 rfl ?_
                refine g_R (n := 119) f_X12_38_12 pl_104 rf_104_23 dX12_shelf_116 rfl ?_
                refine w_il3 (n := 120) dX12_shelf_119 rfl ?_
                refine i_iald (n := 121) pl_114 (j := tN n) hn.1 (by omega) (by decide) ((dk_put_k (by omega)).trans ((dk_put_k (by omega)).trans (hE.1 _ _ _ (eL_114 (by omega))))) dX12_shelf_120 rfl ?_
                refine w_goto 125 dX12_shelf_121 (by decide) ?_
                refine i_iast (n := 126) pl_118 (j := tN s) hs.1 (by omega) (by decide) dX12_shelf_125 rfl ?_
                refine w_iconst (n := 127) (nI 1) dX12_shelf_126 (by decide) rfl ?_
                refine w_retI dX12_shelf_127 rfl ?_
                refine dk_finE hq (if_pos cc) (hE.shelf (s := tN s) (by omega) ?_ ?_ ?_) fe_shelf
                · first | exact absurd z70_h z44_h | exact absurd z44_h z70_h | exact (if_neg (fun z => absurd z.1 z70_h)).symm | exact (if_neg (fun z => z.2 (Int32.not_lt.mp z53_h))).symm | exact (if_pos ⟨z70_h, fun z => absurd z53_h (Int32.not_lt.mpr z)⟩).symm
                · first | exact absurd z70_h z44_h | exact absurd z44_h z70_h | exact (if_neg (fun z => absurd z.1 z44_h)).symm | exact (if_pos ⟨z44_h, Int32.not_lt.mp z53_h⟩).symm | exact (if_neg (fun z => absurd z53_h (Int32.not_lt.mpr z.2))).symm
                · first | exact absurd z70_h z44_h | exact absurd z44_h z70_h | exact (if_neg (fun z => absurd z.1 z44_h)).symm | exact (if_pos ⟨z44_h, Int32.not_lt.mp z53_h⟩).symm | exact (if_neg (fun z => absurd z53_h (Int32.not_lt.mpr z.2))).symm
              · skip
                refine w_il4 (n := 75) dX12_shelf_73 rfl ?_
                refine w_if_ne (n := 78) 82 dX12_shelf_75 (by decide) rfl (fun _ => ?_) (fun h => absurd h (by decide))
                refine w_il2 (n := 83) dX12_shelf_82 rfl ?_
                refine i_iast (n := 84) pl_116 (j := tN s) hs.1 (by omega) (by decide) dX12_shelf_83 rfl ?_
                refine w_al0 (n := 85) dX12_shelf_84 rfl ?_
                refine g_R (n := 88) f_X12_48_12 pl_104 rf_104_26 dX12_shelf_85 rfl ?_
                refine w_il1 (n := 89) dX12_shelf_88 rfl ?_
                refine w_il4 (n := 91) dX12_shelf_89 rfl ?_
                refine w_if_eq (n := 94) 103 dX12_shelf_91 (by decide) rfl (fun h => absurd h (by decide)) (fun _ => ?_)
                refine w_al0 (n := 95) dX12_shelf_94 rfl ?_
                refine g_R (n := 98) f_X12_35_12 pl_104 rf_104_22 dX12_shelf_95 rfl ?_
                refine w_il3 (n := 99) dX12_shelf_98 rfl ?_
                refine i_iald (n := 100) pl_113 (j := tN n) hn.1 (by omega) (by decide) ((dk_put_k (by omega)).trans (hE.1 _ _ _ (eL_113 (by omega)))) dX12_shelf_99 rfl ?_
                refine w_goto 104 dX12_shelf_100 (by decide) ?_
                refine i_iast (n := 105) pl_117 (j := tN s) hs.1 (by omega) (by decide) dX12_shelf_104 rfl ?_
                refine w_al0 (n := 106) dX12_shelf_105 rfl ?_
                refine g_R (n := 109) f_X12_51_12 pl_104 rf_104_27 dX12_shelf_106 rfl ?_
                refine w_il1 (n := 110) dX12_shelf_109 rfl ?_
                refine w_il4 (n := 112) dX12_shelf_110 rfl ?_
                refine w_if_eq (n := 115) 124 dX12_shelf_112 (by decide) rfl (fun h => absurd h (by decide)) (fun _ => ?_)
                refine w_al0 (n := 116) dX12_shelf_115 rfl ?_
                refine g_R (n := 119) f_X12_38_12 pl_104 rf_104_23 dX12_shelf_116 rfl ?_
                refine w_il3 (n := 120) dX12_shelf_119 rfl ?_
                refine i_iald (n := 121) pl_114 (j := tN n) hn.1 (by omega) (by decide) ((dk_put_k (by omega)).trans ((dk_put_k (by omega)).trans (hE.1 _ _ _ (eL_114 (by omega))))) dX12_shelf_120 rfl ?_
                refine w_goto 125 dX12_shelf_121 (by decide) ?_
                refine i_iast (n := 126) pl_118 (j := tN s) hs.1 (by omega) (by decide) dX12_shelf_125 rfl ?_
                refine w_iconst (n := 127) (nI 1) dX12_shelf_126 (by decide) rfl ?_
                refine w_retI dX12_shelf_127 rfl ?_
                refine dk_finE hq (if_pos cc) (hE.shelf (s := tN s) (by omega) ?_ ?_ ?_) fe_shelf
                · first | exact absurd z70_h z44_h | exact absurd z44_h z70_h | exact (if_neg (fun z => absurd z.1 z70_h)).symm | exact (if_neg (fun z => z.2 (Int32.not_lt.mp z53_h))).symm | exact (if_pos ⟨z70_h, fun z => absurd z53_h (Int32.not_lt.mpr z)⟩).symm
                · first | exact absurd z70_h z44_h | exact absurd z44_h z70_h | exact (if_neg (fun z => absurd z.1 z44_h)).symm | exact (if_pos ⟨z44_h, Int32.not_lt.mp z53_h⟩).symm | exact (if_neg (fun z => absurd z53_h (Int32.not_lt.mpr z.2))).symm
                · first | exact absurd z70_h z44_h | exact absurd z44_h z70_h | exact (if_neg (fun z => absurd z.1 z44_h)).symm | exact (if_pos ⟨z44_h, Int32.not_lt.mp z53_h⟩).symm | exact (if_neg (fun z => absurd z53_h (Int32.not_lt.mpr z.2))).symm
        · skip
          refine w_il3 (n := 34) dX12_shelf_33 rfl ?_
          refine w_cS1 (n := 37) s0_X12_isFour k_X12_281 (Nat.le_of_ble_eq_true rfl) dX12_shelf_34 rfl (r_isFour (fun t34_h => ?_) (fun t34_h => ?_))
          · skip
            refine w_if_ne (n := 40) 42 dX12_shelf_37 (by decide) rfl (fun _ => ?_) (fun h => absurd h (by decide))
            have hs := tN_of (n := 3) (by decide) t1_h.1 t1_h.2
            have cc : (nI 0 ≤ s ∧ s ≤ nI 3) ∧ (nI 0 ≤ x ∧ x ≤ nI 2) ∧ (x = 0 → sg_pc K.1 n ≠ none) ∧ (x = nI 1 → nI 0 ≤ n ∧ n ≤ nI 3) := ⟨t1_h, t10_h, fun e => by first | exact kp | exact absurd e z17_h, fun e => by first | exact t34_h | exact absurd e z30_h⟩
            refine w_il2 (n := 43) dX12_shelf_42 rfl ?_
            refine w_iconst (n := 44) (nI 1) dX12_shelf_43 (by decide) rfl ?_
            refine w_ic_ne (n := 47) 60 dX12_shelf_44 (by decide) rfl (fun z44_h => ?_) (fun z44_h => ?_)
            · skip
              refine w_iconst (n := 61) (nI 0) dX12_shelf_60 (by decide) rfl ?_
              refine w_is4 (n := 63) dX12_shelf_61 rfl rfl (by decide) ?_
              refine w_al0 (n := 64) dX12_shelf_63 rfl ?_
              refine g_R (n := 67) f_X12_45_12 pl_104 rf_104_25 dX12_shelf_64 rfl ?_
              refine w_il1 (n := 68) dX12_shelf_67 rfl ?_
              refine w_il2 (n := 69) dX12_shelf_68 rfl ?_
              refine w_iconst (n := 70) (nI 1) dX12_shelf_69 (by decide) rfl ?_
              refine w_ic_ne (n := 73) 82 dX12_shelf_70 (by decide) rfl (fun z70_h => ?_) (fun z70_h => ?_)
              · skip
                refine w_il2 (n := 83) dX12_shelf_82 rfl ?_
                refine i_iast (n := 84) pl_116 (j := tN s) hs.1 (by omega) (by decide) dX12_shelf_83 rfl ?_
                refine w_al0 (n := 85) dX12_shelf_84 rfl ?_
                refine g_R (n := 88) f_X12_48_12 pl_104 rf_104_26 dX12_shelf_85 rfl ?_
                refine w_il1 (n := 89) dX12_shelf_88 rfl ?_
                refine w_il4 (n := 91) dX12_shelf_89 rfl ?_
                refine w_if_eq (n := 94) 103 dX12_shelf_91 (by decide) rfl (fun _ => ?_) (fun h => absurd (by decide) h)
                refine w_il3 (n := 104) dX12_shelf_103 rfl ?_
                refine i_iast (n := 105) pl_117 (j := tN s) hs.1 (by omega) (by decide) dX12_shelf_104 rfl ?_
                refine w_al0 (n := 106) dX12_shelf_105 rfl ?_
                refine g_R (n := 109) f_X12_51_12 pl_104 rf_104_27 dX12_shelf_106 rfl ?_
                refine w_il1 (n := 110) dX12_shelf_109 rfl ?_
                refine w_il4 (n := 112) dX12_shelf_110 rfl ?_
                refine w_if_eq (n := 115) 124 dX12_shelf_112 (by decide) rfl (fun _ => ?_) (fun h => absurd (by decide) h)
                refine w_iconst (n := 125) (nI 0) dX12_shelf_124 (by decide) rfl ?_
                refine i_iast (n := 126) pl_118 (j := tN s) hs.1 (by omega) (by decide) dX12_shelf_125 rfl ?_
                refine w_iconst (n := 127) (nI 1) dX12_shelf_126 (by decide) rfl ?_
                refine w_retI dX12_shelf_127 rfl ?_
                refine dk_finE hq (if_pos cc) (hE.shelf (s := tN s) (by omega) ?_ ?_ ?_) fe_shelf
                · first | exact absurd z70_h z44_h | exact absurd z44_h z70_h | exact (if_neg (fun z => absurd z.1 z70_h)).symm | exact (if_neg (fun z => z.2 (Int32.not_lt.mp z53_h))).symm | exact (if_pos ⟨z70_h, fun z => absurd z53_h (Int32.not_lt.mpr z)⟩).symm
                · first | exact absurd z70_h z44_h | exact absurd z44_h z70_h | exact (if_neg (fun z => absurd z.1 z44_h)).symm | exact (if_pos ⟨z44_h, Int32.not_lt.mp z53_h⟩).symm | exact (if_neg (fun z => absurd z53_h (Int32.not_lt.mpr z.2))).symm
                · first | exact absurd z70_h z44_h | exact absurd z44_h z70_h | exact (if_neg (fun z => absurd z.1 z44_h)).symm | exact (if_pos ⟨z44_h, Int32.not_lt.mp z53_h⟩).symm | exact (if_neg (fun z => absurd z53_h (Int32.not_lt.mpr z.2))).symm
              · skip
                refine w_il4 (n := 75) dX12_shelf_73 rfl ?_
                refine w_if_ne (n := 78) 82 dX12_shelf_75 (by decide) rfl (fun h => absurd h (by decide)) (fun _ => ?_)
                refine w_iconst (n := 79) (nI 2) dX12_shelf_78 (by decide) rfl ?_
                refine w_goto 83 dX12_shelf_79 (by decide) ?_
                refine i_iast (n := 84) pl_116 (j := tN s) hs.1 (by omega) (by decide) dX12_shelf_83 rfl ?_
                refine w_al0 (n := 85) dX12_shelf_84 rfl ?_
                refine g_R (n := 88) f_X12_48_12 pl_104 rf_104_26 dX12_shelf_85 rfl ?_
                refine w_il1 (n := 89) dX12_shelf_88 rfl ?_
                refine w_il4 (n := 91) dX12_shelf_89 rfl ?_
                refine w_if_eq (n := 94) 103 dX12_shelf_91 (by decide) rfl (fun _ => ?_) (fun h => absurd (by decide) h)
                refine w_il3 (n := 104) dX12_shelf_103 rfl ?_
                refine i_iast (n := 105) pl_117 (j := tN s) hs.1 (by omega) (by decide) dX12_shelf_104 rfl ?_
                refine w_al0 (n := 106) dX12_shelf_105 rfl ?_
                refine g_R (n := 109) f_X12_51_12 pl_104 rf_104_27 dX12_shelf_106 rfl ?_
                refine w_il1 (n := 110) dX12_shelf_109 rfl ?_
                refine w_il4 (n := 112) dX12_shelf_110 rfl ?_
                refine w_if_eq (n := 115) 124 dX12_shelf_112 (by decide) rfl (fun _ => ?_) (fun h => absurd (by decide) h)
                refine w_iconst (n := 125) (nI 0) dX12_shelf_124 (by decide) rfl ?_
                refine i_iast (n := 126) pl_118 (j := tN s) hs.1 (by omega) (by decide) dX12_shelf_125 rfl ?_
                refine w_iconst (n := 127) (nI 1) dX12_shelf_126 (by decide) rfl ?_
                refine w_retI dX12_shelf_127 rfl ?_
                refine dk_finE hq (if_pos cc) (hE.shelf (s := tN s) (by omega) ?_ ?_ ?_) fe_shelf
                · first | exact absurd z70_h z44_h | exact absurd z44_h z70_h | exact (if_neg (fun z => absurd z.1 z70_h)).symm | exact (if_neg (fun z => z.2 (Int32.not_lt.mp z53_h))).symm | exact (if_pos ⟨z70_h, fun z => absurd z53_h (Int32.not_lt.mpr z)⟩).symm
                · first | exact absurd z70_h z44_h | exact absurd z44_h z70_h | exact (if_neg (fun z => absurd z.1 z44_h)).symm | exact (if_pos ⟨z44_h, Int32.not_lt.mp z53_h⟩).symm | exact (if_neg (fun z => absurd z53_h (Int32.not_lt.mpr z.2))).symm
                · first | exact absurd z70_h z44_h | exact absurd z44_h z70_h | exact (if_neg (fun z => absurd z.1 z44_h)).symm | exact (if_pos ⟨z44_h, Int32.not_lt.mp z53_h⟩).symm | exact (if_neg (fun z => absurd z53_h (Int32.not_lt.mpr z.2))).symm
            · skip
              have hn := tN_of (n := 3) (by decide) (cc.2.2.2 z44_h).1 (cc.2.2.2 z44_h).2
              refine w_al0 (n := 48) dX12_shelf_47 rfl ?_
              refine g_R (n := 51) f_X12_35_12 pl_104 rf_104_22 dX12_shelf_48 rfl ?_
              refine w_il3 (n := 52) dX12_shelf_51 rfl ?_
              refine i_iald (n := 53) pl_113 (j := tN n) hn.1 (by omega) (by decide) (hE.1 _ _ _ (eL_113 (by omega))) dX12_shelf_52 rfl ?_
              refine w_if_lt (n := 56) 60 dX12_shelf_53 (by decide) rfl (fun z53_h => ?_) (fun z53_h => ?_)
              · skip
                refine w_iconst (n := 61) (nI 0) dX12_shelf_60 (by decide) rfl ?_
                refine w_is4 (n := 63) dX12_shelf_61 rfl rfl (by decide) ?_
                refine w_al0 (n := 64) dX12_shelf_63 rfl ?_
                refine g_R (n := 67) f_X12_45_12 pl_104 rf_104_25 dX12_shelf_64 rfl ?_
                refine w_il1 (n := 68) dX12_shelf_67 rfl ?_
                refine w_il2 (n := 69) dX12_shelf_68 rfl ?_
                refine w_iconst (n := 70) (nI 1) dX12_shelf_69 (by decide) rfl ?_
                refine w_ic_ne (n := 73) 82 dX12_shelf_70 (by decide) rfl (fun z70_h => ?_) (fun z70_h => ?_)
                · skip
                  refine w_il2 (n := 83) dX12_shelf_82 rfl ?_
                  refine i_iast (n := 84) pl_116 (j := tN s) hs.1 (by omega) (by decide) dX12_shelf_83 rfl ?_
                  refine w_al0 (n := 85) dX12_shelf_84 rfl ?_
                  refine g_R (n := 88) f_X12_48_12 pl_104 rf_104_26 dX12_shelf_85 rfl ?_
                  refine w_il1 (n := 89) dX12_shelf_88 rfl ?_
                  refine w_il4 (n := 91) dX12_shelf_89 rfl ?_
                  refine w_if_eq (n := 94) 103 dX12_shelf_91 (by decide) rfl (fun _ => ?_) (fun h => absurd (by decide) h)
                  refine w_il3 (n := 104) dX12_shelf_103 rfl ?_
                  refine i_iast (n := 105) pl_117 (j := tN s) hs.1 (by omega) (by decide) dX12_shelf_104 rfl ?_
                  refine w_al0 (n := 106) dX12_shelf_105 rfl ?_
                  refine g_R (n := 109) f_X12_51_12 pl_104 rf_104_27 dX12_shelf_106 rfl ?_
                  refine w_il1 (n := 110) dX12_shelf_109 rfl ?_
                  refine w_il4 (n := 112) dX12_shelf_110 rfl ?_
                  refine w_if_eq (n := 115) 124 dX12_shelf_112 (by decide) rfl (fun _ => ?_) (fun h => absurd (by decide) h)
                  refine w_iconst (n := 125) (nI 0) dX12_shelf_124 (by decide) rfl ?_
                  refine i_iast (n := 126) pl_118 (j := tN s) hs.1 (by omega) (by decide) dX12_shelf_125 rfl ?_
                  refine w_iconst (n := 127) (nI 1) dX12_shelf_126 (by decide) rfl ?_
                  refine w_retI dX12_shelf_127 rfl ?_
                  refine dk_finE hq (if_pos cc) (hE.shelf (s := tN s) (by omega) ?_ ?_ ?_) fe_shelf
                  · first | exact absurd z70_h z44_h | exact absurd z44_h z70_h | exact (if_neg (fun z => absurd z.1 z70_h)).symm | exact (if_neg (fun z => z.2 (Int32.not_lt.mp z53_h))).symm | exact (if_pos ⟨z70_h, fun z => absurd z53_h (Int32.not_lt.mpr z)⟩).symm
                  · first | exact absurd z70_h z44_h | exact absurd z44_h z70_h | exact (if_neg (fun z => absurd z.1 z44_h)).symm | exact (if_pos ⟨z44_h, Int32.not_lt.mp z53_h⟩).symm | exact (if_neg (fun z => absurd z53_h (Int32.not_lt.mpr z.2))).symm
                  · first | exact absurd z70_h z44_h | exact absurd z44_h z70_h | exact (if_neg (fun z => absurd z.1 z44_h)).symm | exact (if_pos ⟨z44_h, Int32.not_lt.mp z53_h⟩).symm | exact (if_neg (fun z => absurd z53_h (Int32.not_lt.mpr z.2))).symm
                · skip
                  refine w_il4 (n := 75) dX12_shelf_73 rfl ?_
                  refine w_if_ne (n := 78) 82 dX12_shelf_75 (by decide) rfl (fun h => absurd h (by decide)) (fun _ => ?_)
                  refine w_iconst (n := 79) (nI 2) dX12_shelf_78 (by decide) rfl ?_
                  refine w_goto 83 dX12_shelf_79 (by decide) ?_
                  refine i_iast (n := 84) pl_116 (j := tN s) hs.1 (by omega) (by decide) dX12_shelf_83 rfl ?_
                  refine w_al0 (n := 85) dX12_shelf_84 rfl ?_
                  refine g_R (n := 88) f_X12_48_12 pl_104 rf_104_26 dX12_shelf_85 rfl ?_
                  refine w_il1 (n := 89) dX12_shelf_88 rfl ?_
                  refine w_il4 (n := 91) dX12_shelf_89 rfl ?_
                  refine w_if_eq (n := 94) 103 dX12_shelf_91 (by decide) rfl (fun _ => ?_) (fun h => absurd (by decide) h)
                  refine w_il3 (n := 104) dX12_shelf_103 rfl ?_
                  refine i_iast (n := 105) pl_117 (j := tN s) hs.1 (by omega) (by decide) dX12_shelf_104 rfl ?_
                  refine w_al0 (n := 106) dX12_shelf_105 rfl ?_
                  refine g_R (n := 109) f_X12_51_12 pl_104 rf_104_27 dX12_shelf_106 rfl ?_
                  refine w_il1 (n := 110) dX12_shelf_109 rfl ?_
                  refine w_il4 (n := 112) dX12_shelf_110 rfl ?_
                  refine w_if_eq (n := 115) 124 dX12_shelf_112 (by decide) rfl (fun _ => ?_) (fun h => absurd (by decide) h)
                  refine w_iconst (n := 125) (nI 0) dX12_shelf_124 (by decide) rfl ?_
                  refine i_iast (n := 126) pl_118 (j := tN s) hs.1 (by omega) (by decide) dX12_shelf_125 rfl ?_
                  refine w_iconst (n := 127) (nI 1) dX12_shelf_126 (by decide) rfl ?_
                  refine w_retI dX12_shelf_127 rfl ?_
                  refine dk_finE hq (if_pos cc) (hE.shelf (s := tN s) (by omega) ?_ ?_ ?_) fe_shelf
                  · first | exact absurd z70_h z44_h | exact absurd z44_h z70_h | exact (if_neg (fun z => absurd z.1 z70_h)).symm | exact (if_neg (fun z => z.2 (Int32.not_lt.mp z53_h))).symm | exact (if_pos ⟨z70_h, fun z => absurd z53_h (Int32.not_lt.mpr z)⟩).symm
                  · first | exact absurd z70_h z44_h | exact absurd z44_h z70_h | exact (if_neg (fun z => absurd z.1 z44_h)).symm | exact (if_pos ⟨z44_h, Int32.not_lt.mp z53_h⟩).symm | exact (if_neg (fun z => absurd z53_h (Int32.not_lt.mpr z.2))).symm
                  · first | exact absurd z70_h z44_h | exact absurd z44_h z70_h | exact (if_neg (fun z => absurd z.1 z44_h)).symm | exact (if_pos ⟨z44_h, Int32.not_lt.mp z53_h⟩).symm | exact (if_neg (fun z => absurd z53_h (Int32.not_lt.mpr z.2))).symm
              · skip
                refine w_iconst (n := 57) (nI 1) dX12_shelf_56 (by decide) rfl ?_
                refine w_goto 61 dX12_shelf_57 (by decide) ?_
                refine w_is4 (n := 63) dX12_shelf_61 rfl rfl (by decide) ?_
                refine w_al0 (n := 64) dX12_shelf_63 rfl ?_
                refine g_R (n := 67) f_X12_45_12 pl_104 rf_104_25 dX12_shelf_64 rfl ?_
                refine w_il1 (n := 68) dX12_shelf_67 rfl ?_
                refine w_il2 (n := 69) dX12_shelf_68 rfl ?_
                refine w_iconst (n := 70) (nI 1) dX12_shelf_69 (by decide) rfl ?_
                refine w_ic_ne (n := 73) 82 dX12_shelf_70 (by decide) rfl (fun z70_h => ?_) (fun z70_h => ?_)
                · skip
                  refine w_il2 (n := 83) dX12_shelf_82 rfl ?_
                  refine i_iast (n := 84) pl_116 (j := tN s) hs.1 (by omega) (by decide) dX12_shelf_83 rfl ?_
                  refine w_al0 (n := 85) dX12_shelf_84 rfl ?_
                  refine g_R (n := 88) f_X12_48_12 pl_104 rf_104_26 dX12_shelf_85 rfl ?_
                  refine w_il1 (n := 89) dX12_shelf_88 rfl ?_
                  refine w_il4 (n := 91) dX12_shelf_89 rfl ?_
                  refine w_if_eq (n := 94) 103 dX12_shelf_91 (by decide) rfl (fun h => absurd h (by decide)) (fun _ => ?_)
                  refine w_al0 (n := 95) dX12_shelf_94 rfl ?_
                  refine g_R (n := 98) f_X12_35_12 pl_104 rf_104_22 dX12_shelf_95 rfl ?_
                  refine w_il3 (n := 99) dX12_shelf_98 rfl ?_
                  refine i_iald (n := 100) pl_113 (j := tN n) hn.1 (by omega) (by decide) ((dk_put_k (by omega)).trans (hE.1 _ _ _ (eL_113 (by omega)))) dX12_shelf_99 rfl ?_
                  refine w_goto 104 dX12_shelf_100 (by decide) ?_
                  refine i_iast (n := 105) pl_117 (j := tN s) hs.1 (by omega) (by decide) dX12_shelf_104 rfl ?_
                  refine w_al0 (n := 106) dX12_shelf_105 rfl ?_
                  refine g_R (n := 109) f_X12_51_12 pl_104 rf_104_27 dX12_shelf_106 rfl ?_
                  refine w_il1 (n := 110) dX12_shelf_109 rfl ?_
                  refine w_il4 (n := 112) dX12_shelf_110 rfl ?_
                  refine w_if_eq (n := 115) 124 dX12_shelf_112 (by decide) rfl (fun h => absurd h (by decide)) (fun _ => ?_)
                  refine w_al0 (n := 116) dX12_shelf_115 rfl ?_
                  refine g_R (n := 119) f_X12_38_12 pl_104 rf_104_23 dX12_shelf_116 rfl ?_
                  refine w_il3 (n := 120) dX12_shelf_119 rfl ?_
                  refine i_iald (n := 121) pl_114 (j := tN n) hn.1 (by omega) (by decide) ((dk_put_k (by omega)).trans ((dk_put_k (by omega)).trans (hE.1 _ _ _ (eL_114 (by omega))))) dX12_shelf_120 rfl ?_
                  refine w_goto 125 dX12_shelf_121 (by decide) ?_
                  refine i_iast (n := 126) pl_118 (j := tN s) hs.1 (by omega) (by decide) dX12_shelf_125 rfl ?_
                  refine w_iconst (n := 127) (nI 1) dX12_shelf_126 (by decide) rfl ?_
                  refine w_retI dX12_shelf_127 rfl ?_
                  refine dk_finE hq (if_pos cc) (hE.shelf (s := tN s) (by omega) ?_ ?_ ?_) fe_shelf
                  · first | exact absurd z70_h z44_h | exact absurd z44_h z70_h | exact (if_neg (fun z => absurd z.1 z70_h)).symm | exact (if_neg (fun z => z.2 (Int32.not_lt.mp z53_h))).symm | exact (if_pos ⟨z70_h, fun z => absurd z53_h (Int32.not_lt.mpr z)⟩).symm
                  · first | exact absurd z70_h z44_h | exact absurd z44_h z70_h | exact (if_neg (fun z => absurd z.1 z44_h)).symm | exact (if_pos ⟨z44_h, Int32.not_lt.mp z53_h⟩).symm | exact (if_neg (fun z => absurd z53_h (Int32.not_lt.mpr z.2))).symm
                  · first | exact absurd z70_h z44_h | exact absurd z44_h z70_h | exact (if_neg (fun z => absurd z.1 z44_h)).symm | exact (if_pos ⟨z44_h, Int32.not_lt.mp z53_h⟩).symm | exact (if_neg (fun z => absurd z53_h (Int32.not_lt.mpr z.2))).symm
                · skip
                  refine w_il4 (n := 75) dX12_shelf_73 rfl ?_
                  refine w_if_ne (n := 78) 82 dX12_shelf_75 (by decide) rfl (fun _ => ?_) (fun h => absurd h (by decide))
                  refine w_il2 (n := 83) dX12_shelf_82 rfl ?_
                  refine i_iast (n := 84) pl_116 (j := tN s) hs.1 (by omega) (by decide) dX12_shelf_83 rfl ?_
                  refine w_al0 (n := 85) dX12_shelf_84 rfl ?_
                  refine g_R (n := 88) f_X12_48_12 pl_104 rf_104_26 dX12_shelf_85 rfl ?_
                  refine w_il1 (n := 89) dX12_shelf_88 rfl ?_
                  refine w_il4 (n := 91) dX12_shelf_89 rfl ?_
                  refine w_if_eq (n := 94) 103 dX12_shelf_91 (by decide) rfl (fun h => absurd h (by decide)) (fun _ => ?_)
                  refine w_al0 (n := 95) dX12_shelf_94 rfl ?_
                  refine g_R (n := 98) f_X12_35_12 pl_104 rf_104_22 dX12_shelf_95 rfl ?_
                  refine w_il3 (n := 99) dX12_shelf_98 rfl ?_
                  refine i_iald (n := 100) pl_113 (j := tN n) hn.1 (by omega) (by decide) ((dk_put_k (by omega)).trans (hE.1 _ _ _ (eL_113 (by omega)))) dX12_shelf_99 rfl ?_
                  refine w_goto 104 dX12_shelf_100 (by decide) ?_
                  refine i_iast (n := 105) pl_117 (j := tN s) hs.1 (by omega) (by decide) dX12_shelf_104 rfl ?_
                  refine w_al0 (n := 106) dX12_shelf_105 rfl ?_
                  refine g_R (n := 109) f_X12_51_12 pl_104 rf_104_27 dX12_shelf_106 rfl ?_
                  refine w_il1 (n := 110) dX12_shelf_109 rfl ?_
                  refine w_il4 (n := 112) dX12_shelf_110 rfl ?_
                  refine w_if_eq (n := 115) 124 dX12_shelf_112 (by decide) rfl (fun h => absurd h (by decide)) (fun _ => ?_)
                  refine w_al0 (n := 116) dX12_shelf_115 rfl ?_
                  refine g_R (n := 119) f_X12_38_12 pl_104 rf_104_23 dX12_shelf_116 rfl ?_
                  refine w_il3 (n := 120) dX12_shelf_119 rfl ?_
                  refine i_iald (n := 121) pl_114 (j := tN n) hn.1 (by omega) (by decide) ((dk_put_k (by omega)).trans ((dk_put_k (by omega)).trans (hE.1 _ _ _ (eL_114 (by omega))))) dX12_shelf_120 rfl ?_
                  refine w_goto 125 dX12_shelf_121 (by decide) ?_
                  refine i_iast (n := 126) pl_118 (j := tN s) hs.1 (by omega) (by decide) dX12_shelf_125 rfl ?_
                  refine w_iconst (n := 127) (nI 1) dX12_shelf_126 (by decide) rfl ?_
                  refine w_retI dX12_shelf_127 rfl ?_
                  refine dk_finE hq (if_pos cc) (hE.shelf (s := tN s) (by omega) ?_ ?_ ?_) fe_shelf
                  · first | exact absurd z70_h z44_h | exact absurd z44_h z70_h | exact (if_neg (fun z => absurd z.1 z70_h)).symm | exact (if_neg (fun z => z.2 (Int32.not_lt.mp z53_h))).symm | exact (if_pos ⟨z70_h, fun z => absurd z53_h (Int32.not_lt.mpr z)⟩).symm
                  · first | exact absurd z70_h z44_h | exact absurd z44_h z70_h | exact (if_neg (fun z => absurd z.1 z44_h)).symm | exact (if_pos ⟨z44_h, Int32.not_lt.mp z53_h⟩).symm | exact (if_neg (fun z => absurd z53_h (Int32.not_lt.mpr z.2))).symm
                  · first | exact absurd z70_h z44_h | exact absurd z44_h z70_h | exact (if_neg (fun z => absurd z.1 z44_h)).symm | exact (if_pos ⟨z44_h, Int32.not_lt.mp z53_h⟩).symm | exact (if_neg (fun z => absurd z53_h (Int32.not_lt.mpr z.2))).symm
          · skip
            refine w_if_ne (n := 40) 42 dX12_shelf_37 (by decide) rfl (fun h => absurd h (by decide)) (fun _ => ?_)
            refine w_iconst (n := 41) (-1) dX12_shelf_40 (by decide) rfl ?_
            refine w_retI dX12_shelf_41 rfl ?_
            exact dk_finE hq (if_neg (fun z => by first | exact t1_h z.1 | exact t10_h z.2.1 | exact z.2.2.1 z17_h kn | exact t34_h (z.2.2.2 z30_h))) hE dk_fe.rf
      · skip
        refine w_al0 (n := 21) dX12_shelf_20 rfl ?_
        refine w_il3 (n := 22) dX12_shelf_21 rfl ?_
        refine w_cV1 (n := 25) pl_104 cl_12 s0_X12_isPiece k_X12_109 (Nat.le_of_ble_eq_true rfl) dX12_shelf_22 rfl (r_isPiece hr o (fun h hh e => ?_) (fun nh => ?_))
        · skip
          have kp : sg_pc K.1 n ≠ none := by rw [e, sg_pc_some o4_h hh]; exact fun z => by cases z
          refine w_if_eq (n := 28) 40 dX12_shelf_25 (by decide) rfl (fun h => absurd h (by decide)) (fun _ => ?_)
          refine w_il2 (n := 29) dX12_shelf_28 rfl ?_
          refine w_iconst (n := 30) (nI 1) dX12_shelf_29 (by decide) rfl ?_
          refine w_ic_ne (n := 33) 42 dX12_shelf_30 (by decide) rfl (fun z30_h => ?_) (fun z30_h => ?_)
          · skip
            have hs := tN_of (n := 3) (by decide) t1_h.1 t1_h.2
            have cc : (nI 0 ≤ s ∧ s ≤ nI 3) ∧ (nI 0 ≤ x ∧ x ≤ nI 2) ∧ (x = 0 → sg_pc K.1 n ≠ none) ∧ (x = nI 1 → nI 0 ≤ n ∧ n ≤ nI 3) := ⟨t1_h, t10_h, fun e => by first | exact kp | exact absurd e z17_h, fun e => by first | exact t34_h | exact absurd e z30_h⟩
            refine w_il2 (n := 43) dX12_shelf_42 rfl ?_
            refine w_iconst (n := 44) (nI 1) dX12_shelf_43 (by decide) rfl ?_
            refine w_ic_ne (n := 47) 60 dX12_shelf_44 (by decide) rfl (fun z44_h => ?_) (fun z44_h => ?_)
            · skip
              refine w_iconst (n := 61) (nI 0) dX12_shelf_60 (by decide) rfl ?_
              refine w_is4 (n := 63) dX12_shelf_61 rfl rfl (by decide) ?_
              refine w_al0 (n := 64) dX12_shelf_63 rfl ?_
              refine g_R (n := 67) f_X12_45_12 pl_104 rf_104_25 dX12_shelf_64 rfl ?_
              refine w_il1 (n := 68) dX12_shelf_67 rfl ?_
              refine w_il2 (n := 69) dX12_shelf_68 rfl ?_
              refine w_iconst (n := 70) (nI 1) dX12_shelf_69 (by decide) rfl ?_
              refine w_ic_ne (n := 73) 82 dX12_shelf_70 (by decide) rfl (fun z70_h => ?_) (fun z70_h => ?_)
              · skip
                refine w_il2 (n := 83) dX12_shelf_82 rfl ?_
                refine i_iast (n := 84) pl_116 (j := tN s) hs.1 (by omega) (by decide) dX12_shelf_83 rfl ?_
                refine w_al0 (n := 85) dX12_shelf_84 rfl ?_
                refine g_R (n := 88) f_X12_48_12 pl_104 rf_104_26 dX12_shelf_85 rfl ?_
                refine w_il1 (n := 89) dX12_shelf_88 rfl ?_
                refine w_il4 (n := 91) dX12_shelf_89 rfl ?_
                refine w_if_eq (n := 94) 103 dX12_shelf_91 (by decide) rfl (fun _ => ?_) (fun h => absurd (by decide) h)
                refine w_il3 (n := 104) dX12_shelf_103 rfl ?_
                refine i_iast (n := 105) pl_117 (j := tN s) hs.1 (by omega) (by decide) dX12_shelf_104 rfl ?_
                refine w_al0 (n := 106) dX12_shelf_105 rfl ?_
                refine g_R (n := 109) f_X12_51_12 pl_104 rf_104_27 dX12_shelf_106 rfl ?_
                refine w_il1 (n := 110) dX12_shelf_109 rfl ?_
                refine w_il4 (n := 112) dX12_shelf_110 rfl ?_
                refine w_if_eq (n := 115) 124 dX12_shelf_112 (by decide) rfl (fun _ => ?_) (fun h => absurd (by decide) h)
                refine w_iconst (n := 125) (nI 0) dX12_shelf_124 (by decide) rfl ?_
                refine i_iast (n := 126) pl_118 (j := tN s) hs.1 (by omega) (by decide) dX12_shelf_125 rfl ?_
                refine w_iconst (n := 127) (nI 1) dX12_shelf_126 (by decide) rfl ?_
                refine w_retI dX12_shelf_127 rfl ?_
                refine dk_finE hq (if_pos cc) (hE.shelf (s := tN s) (by omega) ?_ ?_ ?_) fe_shelf
                · first | exact absurd z70_h z44_h | exact absurd z44_h z70_h | exact (if_neg (fun z => absurd z.1 z70_h)).symm | exact (if_neg (fun z => z.2 (Int32.not_lt.mp z53_h))).symm | exact (if_pos ⟨z70_h, fun z => absurd z53_h (Int32.not_lt.mpr z)⟩).symm
                · first | exact absurd z70_h z44_h | exact absurd z44_h z70_h | exact (if_neg (fun z => absurd z.1 z44_h)).symm | exact (if_pos ⟨z44_h, Int32.not_lt.mp z53_h⟩).symm | exact (if_neg (fun z => absurd z53_h (Int32.not_lt.mpr z.2))).symm
                · first | exact absurd z70_h z44_h | exact absurd z44_h z70_h | exact (if_neg (fun z => absurd z.1 z44_h)).symm | exact (if_pos ⟨z44_h, Int32.not_lt.mp z53_h⟩).symm | exact (if_neg (fun z => absurd z53_h (Int32.not_lt.mpr z.2))).symm
              · skip
                refine w_il4 (n := 75) dX12_shelf_73 rfl ?_
                refine w_if_ne (n := 78) 82 dX12_shelf_75 (by decide) rfl (fun h => absurd h (by decide)) (fun _ => ?_)
                refine w_iconst (n := 79) (nI 2) dX12_shelf_78 (by decide) rfl ?_
                refine w_goto 83 dX12_shelf_79 (by decide) ?_
                refine i_iast (n := 84) pl_116 (j := tN s) hs.1 (by omega) (by decide) dX12_shelf_83 rfl ?_
                refine w_al0 (n := 85) dX12_shelf_84 rfl ?_
                refine g_R (n := 88) f_X12_48_12 pl_104 rf_104_26 dX12_shelf_85 rfl ?_
                refine w_il1 (n := 89) dX12_shelf_88 rfl ?_
                refine w_il4 (n := 91) dX12_shelf_89 rfl ?_
                refine w_if_eq (n := 94) 103 dX12_shelf_91 (by decide) rfl (fun _ => ?_) (fun h => absurd (by decide) h)
                refine w_il3 (n := 104) dX12_shelf_103 rfl ?_
                refine i_iast (n := 105) pl_117 (j := tN s) hs.1 (by omega) (by decide) dX12_shelf_104 rfl ?_
                refine w_al0 (n := 106) dX12_shelf_105 rfl ?_
                refine g_R (n := 109) f_X12_51_12 pl_104 rf_104_27 dX12_shelf_106 rfl ?_
                refine w_il1 (n := 110) dX12_shelf_109 rfl ?_
                refine w_il4 (n := 112) dX12_shelf_110 rfl ?_
                refine w_if_eq (n := 115) 124 dX12_shelf_112 (by decide) rfl (fun _ => ?_) (fun h => absurd (by decide) h)
                refine w_iconst (n := 125) (nI 0) dX12_shelf_124 (by decide) rfl ?_
                refine i_iast (n := 126) pl_118 (j := tN s) hs.1 (by omega) (by decide) dX12_shelf_125 rfl ?_
                refine w_iconst (n := 127) (nI 1) dX12_shelf_126 (by decide) rfl ?_
                refine w_retI dX12_shelf_127 rfl ?_
                refine dk_finE hq (if_pos cc) (hE.shelf (s := tN s) (by omega) ?_ ?_ ?_) fe_shelf
                · first | exact absurd z70_h z44_h | exact absurd z44_h z70_h | exact (if_neg (fun z => absurd z.1 z70_h)).symm | exact (if_neg (fun z => z.2 (Int32.not_lt.mp z53_h))).symm | exact (if_pos ⟨z70_h, fun z => absurd z53_h (Int32.not_lt.mpr z)⟩).symm
                · first | exact absurd z70_h z44_h | exact absurd z44_h z70_h | exact (if_neg (fun z => absurd z.1 z44_h)).symm | exact (if_pos ⟨z44_h, Int32.not_lt.mp z53_h⟩).symm | exact (if_neg (fun z => absurd z53_h (Int32.not_lt.mpr z.2))).symm
                · first | exact absurd z70_h z44_h | exact absurd z44_h z70_h | exact (if_neg (fun z => absurd z.1 z44_h)).symm | exact (if_pos ⟨z44_h, Int32.not_lt.mp z53_h⟩).symm | exact (if_neg (fun z => absurd z53_h (Int32.not_lt.mpr z.2))).symm
            · skip
              have hn := tN_of (n := 3) (by decide) (cc.2.2.2 z44_h).1 (cc.2.2.2 z44_h).2
              refine w_al0 (n := 48) dX12_shelf_47 rfl ?_
              refine g_R (n := 51) f_X12_35_12 pl_104 rf_104_22 dX12_shelf_48 rfl ?_
              refine w_il3 (n := 52) dX12_shelf_51 rfl ?_
              refine i_iald (n := 53) pl_113 (j := tN n) hn.1 (by omega) (by decide) (hE.1 _ _ _ (eL_113 (by omega))) dX12_shelf_52 rfl ?_
              refine w_if_lt (n := 56) 60 dX12_shelf_53 (by decide) rfl (fun z53_h => ?_) (fun z53_h => ?_)
              · skip
                refine w_iconst (n := 61) (nI 0) dX12_shelf_60 (by decide) rfl ?_
                refine w_is4 (n := 63) dX12_shelf_61 rfl rfl (by decide) ?_
                refine w_al0 (n := 64) dX12_shelf_63 rfl ?_
                refine g_R (n := 67) f_X12_45_12 pl_104 rf_104_25 dX12_shelf_64 rfl ?_
                refine w_il1 (n := 68) dX12_shelf_67 rfl ?_
                refine w_il2 (n := 69) dX12_shelf_68 rfl ?_
                refine w_iconst (n := 70) (nI 1) dX12_shelf_69 (by decide) rfl ?_
                refine w_ic_ne (n := 73) 82 dX12_shelf_70 (by decide) rfl (fun z70_h => ?_) (fun z70_h => ?_)
                · skip
                  refine w_il2 (n := 83) dX12_shelf_82 rfl ?_
                  refine i_iast (n := 84) pl_116 (j := tN s) hs.1 (by omega) (by decide) dX12_shelf_83 rfl ?_
                  refine w_al0 (n := 85) dX12_shelf_84 rfl ?_
                  refine g_R (n := 88) f_X12_48_12 pl_104 rf_104_26 dX12_shelf_85 rfl ?_
                  refine w_il1 (n := 89) dX12_shelf_88 rfl ?_
                  refine w_il4 (n := 91) dX12_shelf_89 rfl ?_
                  refine w_if_eq (n := 94) 103 dX12_shelf_91 (by decide) rfl (fun _ => ?_) (fun h => absurd (by decide) h)
                  refine w_il3 (n := 104) dX12_shelf_103 rfl ?_
                  refine i_iast (n := 105) pl_117 (j := tN s) hs.1 (by omega) (by decide) dX12_shelf_104 rfl ?_
                  refine w_al0 (n := 106) dX12_shelf_105 rfl ?_
                  refine g_R (n := 109) f_X12_51_12 pl_104 rf_104_27 dX12_shelf_106 rfl ?_
                  refine w_il1 (n := 110) dX12_shelf_109 rfl ?_
                  refine w_il4 (n := 112) dX12_shelf_110 rfl ?_
                  refine w_if_eq (n := 115) 124 dX12_shelf_112 (by decide) rfl (fun _ => ?_) (fun h => absurd (by decide) h)
                  refine w_iconst (n := 125) (nI 0) dX12_shelf_124 (by decide) rfl ?_
                  refine i_iast (n := 126) pl_118 (j := tN s) hs.1 (by omega) (by decide) dX12_shelf_125 rfl ?_
                  refine w_iconst (n := 127) (nI 1) dX12_shelf_126 (by decide) rfl ?_
                  refine w_retI dX12_shelf_127 rfl ?_
                  refine dk_finE hq (if_pos cc) (hE.shelf (s := tN s) (by omega) ?_ ?_ ?_) fe_shelf
                  · first | exact absurd z70_h z44_h | exact absurd z44_h z70_h | exact (if_neg (fun z => absurd z.1 z70_h)).symm | exact (if_neg (fun z => z.2 (Int32.not_lt.mp z53_h))).symm | exact (if_pos ⟨z70_h, fun z => absurd z53_h (Int32.not_lt.mpr z)⟩).symm
                  · first | exact absurd z70_h z44_h | exact absurd z44_h z70_h | exact (if_neg (fun z => absurd z.1 z44_h)).symm | exact (if_pos ⟨z44_h, Int32.not_lt.mp z53_h⟩).symm | exact (if_neg (fun z => absurd z53_h (Int32.not_lt.mpr z.2))).symm
                  · first | exact absurd z70_h z44_h | exact absurd z44_h z70_h | exact (if_neg (fun z => absurd z.1 z44_h)).symm | exact (if_pos ⟨z44_h, Int32.not_lt.mp z53_h⟩).symm | exact (if_neg (fun z => absurd z53_h (Int32.not_lt.mpr z.2))).symm
                · skip
                  refine w_il4 (n := 75) dX12_shelf_73 rfl ?_
                  refine w_if_ne (n := 78) 82 dX12_shelf_75 (by decide) rfl (fun h => absurd h (by decide)) (fun _ => ?_)
                  refine w_iconst (n := 79) (nI 2) dX12_shelf_78 (by decide) rfl ?_
                  refine w_goto 83 dX12_shelf_79 (by decide) ?_
                  refine i_iast (n := 84) pl_116 (j := tN s) hs.1 (by omega) (by decide) dX12_shelf_83 rfl ?_
                  refine w_al0 (n := 85) dX12_shelf_84 rfl ?_
                  refine g_R (n := 88) f_X12_48_12 pl_104 rf_104_26 dX12_shelf_85 rfl ?_
                  refine w_il1 (n := 89) dX12_shelf_88 rfl ?_
                  refine w_il4 (n := 91) dX12_shelf_89 rfl ?_
                  refine w_if_eq (n := 94) 103 dX12_shelf_91 (by decide) rfl (fun _ => ?_) (fun h => absurd (by decide) h)
                  refine w_il3 (n := 104) dX12_shelf_103 rfl ?_
                  refine i_iast (n := 105) pl_117 (j := tN s) hs.1 (by omega) (by decide) dX12_shelf_104 rfl ?_
                  refine w_al0 (n := 106) dX12_shelf_105 rfl ?_
                  refine g_R (n := 109) f_X12_51_12 pl_104 rf_104_27 dX12_shelf_106 rfl ?_
                  refine w_il1 (n := 110) dX12_shelf_109 rfl ?_
                  refine w_il4 (n := 112) dX12_shelf_110 rfl ?_
                  refine w_if_eq (n := 115) 124 dX12_shelf_112 (by decide) rfl (fun _ => ?_) (fun h => absurd (by decide) h)
                  refine w_iconst (n := 125) (nI 0) dX12_shelf_124 (by decide) rfl ?_
                  refine i_iast (n := 126) pl_118 (j := tN s) hs.1 (by omega) (by decide) dX12_shelf_125 rfl ?_
                  refine w_iconst (n := 127) (nI 1) dX12_shelf_126 (by decide) rfl ?_
                  refine w_retI dX12_shelf_127 rfl ?_
                  refine dk_finE hq (if_pos cc) (hE.shelf (s := tN s) (by omega) ?_ ?_ ?_) fe_shelf
                  · first | exact absurd z70_h z44_h | exact absurd z44_h z70_h | exact (if_neg (fun z => absurd z.1 z70_h)).symm | exact (if_neg (fun z => z.2 (Int32.not_lt.mp z53_h))).symm | exact (if_pos ⟨z70_h, fun z => absurd z53_h (Int32.not_lt.mpr z)⟩).symm
                  · first | exact absurd z70_h z44_h | exact absurd z44_h z70_h | exact (if_neg (fun z => absurd z.1 z44_h)).symm | exact (if_pos ⟨z44_h, Int32.not_lt.mp z53_h⟩).symm | exact (if_neg (fun z => absurd z53_h (Int32.not_lt.mpr z.2))).symm
                  · first | exact absurd z70_h z44_h | exact absurd z44_h z70_h | exact (if_neg (fun z => absurd z.1 z44_h)).symm | exact (if_pos ⟨z44_h, Int32.not_lt.mp z53_h⟩).symm | exact (if_neg (fun z => absurd z53_h (Int32.not_lt.mpr z.2))).symm
              · skip
                refine w_iconst (n := 57) (nI 1) dX12_shelf_56 (by decide) rfl ?_
                refine w_goto 61 dX12_shelf_57 (by decide) ?_
                refine w_is4 (n := 63) dX12_shelf_61 rfl rfl (by decide) ?_
                refine w_al0 (n := 64) dX12_shelf_63 rfl ?_
                refine g_R (n := 67) f_X12_45_12 pl_104 rf_104_25 dX12_shelf_64 rfl ?_
                refine w_il1 (n := 68) dX12_shelf_67 rfl ?_
                refine w_il2 (n := 69) dX12_shelf_68 rfl ?_
                refine w_iconst (n := 70) (nI 1) dX12_shelf_69 (by decide) rfl ?_
                refine w_ic_ne (n := 73) 82 dX12_shelf_70 (by decide) rfl (fun z70_h => ?_) (fun z70_h => ?_)
                · skip
                  refine w_il2 (n := 83) dX12_shelf_82 rfl ?_
                  refine i_iast (n := 84) pl_116 (j := tN s) hs.1 (by omega) (by decide) dX12_shelf_83 rfl ?_
                  refine w_al0 (n := 85) dX12_shelf_84 rfl ?_
                  refine g_R (n := 88) f_X12_48_12 pl_104 rf_104_26 dX12_shelf_85 rfl ?_
                  refine w_il1 (n := 89) dX12_shelf_88 rfl ?_
                  refine w_il4 (n := 91) dX12_shelf_89 rfl ?_
                  refine w_if_eq (n := 94) 103 dX12_shelf_91 (by decide) rfl (fun h => absurd h (by decide)) (fun _ => ?_)
                  refine w_al0 (n := 95) dX12_shelf_94 rfl ?_
                  refine g_R (n := 98) f_X12_35_12 pl_104 rf_104_22 dX12_shelf_95 rfl ?_
                  refine w_il3 (n := 99) dX12_shelf_98 rfl ?_
                  refine i_iald (n := 100) pl_113 (j := tN n) hn.1 (by omega) (by decide) ((dk_put_k (by omega)).trans (hE.1 _ _ _ (eL_113 (by omega)))) dX12_shelf_99 rfl ?_
                  refine w_goto 104 dX12_shelf_100 (by decide) ?_
                  refine i_iast (n := 105) pl_117 (j := tN s) hs.1 (by omega) (by decide) dX12_shelf_104 rfl ?_
                  refine w_al0 (n := 106) dX12_shelf_105 rfl ?_
                  refine g_R (n := 109) f_X12_51_12 pl_104 rf_104_27 dX12_shelf_106 rfl ?_
                  refine w_il1 (n := 110) dX12_shelf_109 rfl ?_
                  refine w_il4 (n := 112) dX12_shelf_110 rfl ?_
                  refine w_if_eq (n := 115) 124 dX12_shelf_112 (by decide) rfl (fun h => absurd h (by decide)) (fun _ => ?_)
                  refine w_al0 (n := 116) dX12_shelf_115 rfl ?_
                  refine g_R (n := 119) f_X12_38_12 pl_104 rf_104_23 dX12_shelf_116 rfl ?_
                  refine w_il3 (n := 120) dX12_shelf_119 rfl ?_
                  refine i_iald (n := 121) pl_114 (j := tN n) hn.1 (by omega) (by decide) ((dk_put_k (by omega)).trans ((dk_put_k (by omega)).trans (hE.1 _ _ _ (eL_114 (by omega))))) dX12_shelf_120 rfl ?_
                  refine w_goto 125 dX12_shelf_121 (by decide) ?_
                  refine i_iast (n := 126) pl_118 (j := tN s) hs.1 (by omega) (by decide) dX12_shelf_125 rfl ?_
                  refine w_iconst (n := 127) (nI 1) dX12_shelf_126 (by decide) rfl ?_
                  refine w_retI dX12_shelf_127 rfl ?_
                  refine dk_finE hq (if_pos cc) (hE.shelf (s := tN s) (by omega) ?_ ?_ ?_) fe_shelf
                  · first | exact absurd z70_h z44_h | exact absurd z44_h z70_h | exact (if_neg (fun z => absurd z.1 z70_h)).symm | exact (if_neg (fun z => z.2 (Int32.not_lt.mp z53_h))).symm | exact (if_pos ⟨z70_h, fun z => absurd z53_h (Int32.not_lt.mpr z)⟩).symm
                  · first | exact absurd z70_h z44_h | exact absurd z44_h z70_h | exact (if_neg (fun z => absurd z.1 z44_h)).symm | exact (if_pos ⟨z44_h, Int32.not_lt.mp z53_h⟩).symm | exact (if_neg (fun z => absurd z53_h (Int32.not_lt.mpr z.2))).symm
                  · first | exact absurd z70_h z44_h | exact absurd z44_h z70_h | exact (if_neg (fun z => absurd z.1 z44_h)).symm | exact (if_pos ⟨z44_h, Int32.not_lt.mp z53_h⟩).symm | exact (if_neg (fun z => absurd z53_h (Int32.not_lt.mpr z.2))).symm
                · skip
                  refine w_il4 (n := 75) dX12_shelf_73 rfl ?_
                  refine w_if_ne (n := 78) 82 dX12_shelf_75 (by decide) rfl (fun _ => ?_) (fun h => absurd h (by decide))
                  refine w_il2 (n := 83) dX12_shelf_82 rfl ?_
                  refine i_iast (n := 84) pl_116 (j := tN s) hs.1 (by omega) (by decide) dX12_shelf_83 rfl ?_
                  refine w_al0 (n := 85) dX12_shelf_84 rfl ?_
                  refine g_R (n := 88) f_X12_48_12 pl_104 rf_104_26 dX12_shelf_85 rfl ?_
                  refine w_il1 (n := 89) dX12_shelf_88 rfl ?_
                  refine w_il4 (n := 91) dX12_shelf_89 rfl ?_
                  refine w_if_eq (n := 94) 103 dX12_shelf_91 (by decide) rfl (fun h => absurd h (by decide)) (fun _ => ?_)
                  refine w_al0 (n := 95) dX12_shelf_94 rfl ?_
                  refine g_R (n := 98) f_X12_35_12 pl_104 rf_104_22 dX12_shelf_95 rfl ?_
                  refine w_il3 (n := 99) dX12_shelf_98 rfl ?_
                  refine i_iald (n := 100) pl_113 (j := tN n) hn.1 (by omega) (by decide) ((dk_put_k (by omega)).trans (hE.1 _ _ _ (eL_113 (by omega)))) dX12_shelf_99 rfl ?_
                  refine w_goto 104 dX12_shelf_100 (by decide) ?_
                  refine i_iast (n := 105) pl_117 (j := tN s) hs.1 (by omega) (by decide) dX12_shelf_104 rfl ?_
                  refine w_al0 (n := 106) dX12_shelf_105 rfl ?_
                  refine g_R (n := 109) f_X12_51_12 pl_104 rf_104_27 dX12_shelf_106 rfl ?_
                  refine w_il1 (n := 110) dX12_shelf_109 rfl ?_
                  refine w_il4 (n := 112) dX12_shelf_110 rfl ?_
                  refine w_if_eq (n := 115) 124 dX12_shelf_112 (by decide) rfl (fun h => absurd h (by decide)) (fun _ => ?_)
                  refine w_al0 (n := 116) dX12_shelf_115 rfl ?_
                  refine g_R (n := 119) f_X12_38_12 pl_104 rf_104_23 dX12_shelf_116 rfl ?_
                  refine w_il3 (n := 120) dX12_shelf_119 rfl ?_
                  refine i_iald (n := 121) pl_114 (j := tN n) hn.1 (by omega) (by decide) ((dk_put_k (by omega)).trans ((dk_put_k (by omega)).trans (hE.1 _ _ _ (eL_114 (by omega))))) dX12_shelf_120 rfl ?_
                  refine w_goto 125 dX12_shelf_121 (by decide) ?_
                  refine i_iast (n := 126) pl_118 (j := tN s) hs.1 (by omega) (by decide) dX12_shelf_125 rfl ?_
                  refine w_iconst (n := 127) (nI 1) dX12_shelf_126 (by decide) rfl ?_
                  refine w_retI dX12_shelf_127 rfl ?_
                  refine dk_finE hq (if_pos cc) (hE.shelf (s := tN s) (by omega) ?_ ?_ ?_) fe_shelf
                  · first | exact absurd z70_h z44_h | exact absurd z44_h z70_h | exact (if_neg (fun z => absurd z.1 z70_h)).symm | exact (if_neg (fun z => z.2 (Int32.not_lt.mp z53_h))).symm | exact (if_pos ⟨z70_h, fun z => absurd z53_h (Int32.not_lt.mpr z)⟩).symm
                  · first | exact absurd z70_h z44_h | exact absurd z44_h z70_h | exact (if_neg (fun z => absurd z.1 z44_h)).symm | exact (if_pos ⟨z44_h, Int32.not_lt.mp z53_h⟩).symm | exact (if_neg (fun z => absurd z53_h (Int32.not_lt.mpr z.2))).symm
                  · first | exact absurd z70_h z44_h | exact absurd z44_h z70_h | exact (if_neg (fun z => absurd z.1 z44_h)).symm | exact (if_pos ⟨z44_h, Int32.not_lt.mp z53_h⟩).symm | exact (if_neg (fun z => absurd z53_h (Int32.not_lt.mpr z.2))).symm
          · skip
            refine w_il3 (n := 34) dX12_shelf_33 rfl ?_
            refine w_cS1 (n := 37) s0_X12_isFour k_X12_281 (Nat.le_of_ble_eq_true rfl) dX12_shelf_34 rfl (r_isFour (fun t34_h => ?_) (fun t34_h => ?_))
            · skip
              refine w_if_ne (n := 40) 42 dX12_shelf_37 (by decide) rfl (fun _ => ?_) (fun h => absurd h (by decide))
              have hs := tN_of (n := 3) (by decide) t1_h.1 t1_h.2
              have cc : (nI 0 ≤ s ∧ s ≤ nI 3) ∧ (nI 0 ≤ x ∧ x ≤ nI 2) ∧ (x = 0 → sg_pc K.1 n ≠ none) ∧ (x = nI 1 → nI 0 ≤ n ∧ n ≤ nI 3) := ⟨t1_h, t10_h, fun e => by first | exact kp | exact absurd e z17_h, fun e => by first | exact t34_h | exact absurd e z30_h⟩
              refine w_il2 (n := 43) dX12_shelf_42 rfl ?_
              refine w_iconst (n := 44) (nI 1) dX12_shelf_43 (by decide) rfl ?_
              refine w_ic_ne (n := 47) 60 dX12_shelf_44 (by decide) rfl (fun z44_h => ?_) (fun z44_h => ?_)
              · skip
                refine w_iconst (n := 61) (nI 0) dX12_shelf_60 (by decide) rfl ?_
                refine w_is4 (n := 63) dX12_shelf_61 rfl rfl (by decide) ?_
                refine w_al0 (n := 64) dX12_shelf_63 rfl ?_
                refine g_R (n := 67) f_X12_45_12 pl_104 rf_104_25 dX12_shelf_64 rfl ?_
                refine w_il1 (n := 68) dX12_shelf_67 rfl ?_
                refine w_il2 (n := 69) dX12_shelf_68 rfl ?_
                refine w_iconst (n := 70) (nI 1) dX12_shelf_69 (by decide) rfl ?_
                refine w_ic_ne (n := 73) 82 dX12_shelf_70 (by decide) rfl (fun z70_h => ?_) (fun z70_h => ?_)
                · skip
                  refine w_il2 (n := 83) dX12_shelf_82 rfl ?_
                  refine i_iast (n := 84) pl_116 (j := tN s) hs.1 (by omega) (by decide) dX12_shelf_83 rfl ?_
                  refine w_al0 (n := 85) dX12_shelf_84 rfl ?_
                  refine g_R (n := 88) f_X12_48_12 pl_104 rf_104_26 dX12_shelf_85 rfl ?_
                  refine w_il1 (n := 89) dX12_shelf_88 rfl ?_
                  refine w_il4 (n := 91) dX12_shelf_89 rfl ?_
                  refine w_if_eq (n := 94) 103 dX12_shelf_91 (by decide) rfl (fun _ => ?_) (fun h => absurd (by decide) h)
                  refine w_il3 (n := 104) dX12_shelf_103 rfl ?_
                  refine i_iast (n := 105) pl_117 (j := tN s) hs.1 (by omega) (by decide) dX12_shelf_104 rfl ?_
                  refine w_al0 (n := 106) dX12_shelf_105 rfl ?_
                  refine g_R (n := 109) f_X12_51_12 pl_104 rf_104_27 dX12_shelf_106 rfl ?_
                  refine w_il1 (n := 110) dX12_shelf_109 rfl ?_
                  refine w_il4 (n := 112) dX12_shelf_110 rfl ?_
                  refine w_if_eq (n := 115) 124 dX12_shelf_112 (by decide) rfl (fun _ => ?_) (fun h => absurd (by decide) h)
                  refine w_iconst (n := 125) (nI 0) dX12_shelf_124 (by decide) rfl ?_
                  refine i_iast (n := 126) pl_118 (j := tN s) hs.1 (by omega) (by decide) dX12_shelf_125 rfl ?_
                  refine w_iconst (n := 127) (nI 1) dX12_shelf_126 (by decide) rfl ?_
                  refine w_retI dX12_shelf_127 rfl ?_
                  refine dk_finE hq (if_pos cc) (hE.shelf (s := tN s) (by omega) ?_ ?_ ?_) fe_shelf
                  · first | exact absurd z70_h z44_h | exact absurd z44_h z70_h | exact (if_neg (fun z => absurd z.1 z70_h)).symm | exact (if_neg (fun z => z.2 (Int32.not_lt.mp z53_h))).symm | exact (if_pos ⟨z70_h, fun z => absurd z53_h (Int32.not_lt.mpr z)⟩).symm
                  · first | exact absurd z70_h z44_h | exact absurd z44_h z70_h | exact (if_neg (fun z => absurd z.1 z44_h)).symm | exact (if_pos ⟨z44_h, Int32.not_lt.mp z53_h⟩).symm | exact (if_neg (fun z => absurd z53_h (Int32.not_lt.mpr z.2))).symm
                  · first | exact absurd z70_h z44_h | exact absurd z44_h z70_h | exact (if_neg (fun z => absurd z.1 z44_h)).symm | exact (if_pos ⟨z44_h, Int32.not_lt.mp z53_h⟩).symm | exact (if_neg (fun z => absurd z53_h (Int32.not_lt.mpr z.2))).symm
                · skip
                  refine w_il4 (n := 75) dX12_shelf_73 rfl ?_
                  refine w_if_ne (n := 78) 82 dX12_shelf_75 (by decide) rfl (fun h => absurd h (by decide)) (fun _ => ?_)
                  refine w_iconst (n := 79) (nI 2) dX12_shelf_78 (by decide) rfl ?_
                  refine w_goto 83 dX12_shelf_79 (by decide) ?_
                  refine i_iast (n := 84) pl_116 (j := tN s) hs.1 (by omega) (by decide) dX12_shelf_83 rfl ?_
                  refine w_al0 (n := 85) dX12_shelf_84 rfl ?_
                  refine g_R (n := 88) f_X12_48_12 pl_104 rf_104_26 dX12_shelf_85 rfl ?_
                  refine w_il1 (n := 89) dX12_shelf_88 rfl ?_
                  refine w_il4 (n := 91) dX12_shelf_89 rfl ?_
                  refine w_if_eq (n := 94) 103 dX12_shelf_91 (by decide) rfl (fun _ => ?_) (fun h => absurd (by decide) h)
                  refine w_il3 (n := 104) dX12_shelf_103 rfl ?_
                  refine i_iast (n := 105) pl_117 (j := tN s) hs.1 (by omega) (by decide) dX12_shelf_104 rfl ?_
                  refine w_al0 (n := 106) dX12_shelf_105 rfl ?_
                  refine g_R (n := 109) f_X12_51_12 pl_104 rf_104_27 dX12_shelf_106 rfl ?_
                  refine w_il1 (n := 110) dX12_shelf_109 rfl ?_
                  refine w_il4 (n := 112) dX12_shelf_110 rfl ?_
                  refine w_if_eq (n := 115) 124 dX12_shelf_112 (by decide) rfl (fun _ => ?_) (fun h => absurd (by decide) h)
                  refine w_iconst (n := 125) (nI 0) dX12_shelf_124 (by decide) rfl ?_
                  refine i_iast (n := 126) pl_118 (j := tN s) hs.1 (by omega) (by decide) dX12_shelf_125 rfl ?_
                  refine w_iconst (n := 127) (nI 1) dX12_shelf_126 (by decide) rfl ?_
                  refine w_retI dX12_shelf_127 rfl ?_
                  refine dk_finE hq (if_pos cc) (hE.shelf (s := tN s) (by omega) ?_ ?_ ?_) fe_shelf
                  · first | exact absurd z70_h z44_h | exact absurd z44_h z70_h | exact (if_neg (fun z => absurd z.1 z70_h)).symm | exact (if_neg (fun z => z.2 (Int32.not_lt.mp z53_h))).symm | exact (if_pos ⟨z70_h, fun z => absurd z53_h (Int32.not_lt.mpr z)⟩).symm
                  · first | exact absurd z70_h z44_h | exact absurd z44_h z70_h | exact (if_neg (fun z => absurd z.1 z44_h)).symm | exact (if_pos ⟨z44_h, Int32.not_lt.mp z53_h⟩).symm | exact (if_neg (fun z => absurd z53_h (Int32.not_lt.mpr z.2))).symm
                  · first | exact absurd z70_h z44_h | exact absurd z44_h z70_h | exact (if_neg (fun z => absurd z.1 z44_h)).symm | exact (if_pos ⟨z44_h, Int32.not_lt.mp z53_h⟩).symm | exact (if_neg (fun z => absurd z53_h (Int32.not_lt.mpr z.2))).symm
              · skip
                have hn := tN_of (n := 3) (by decide) (cc.2.2.2 z44_h).1 (cc.2.2.2 z44_h).2
                refine w_al0 (n := 48) dX12_shelf_47 rfl ?_
                refine g_R (n := 51) f_X12_35_12 pl_104 rf_104_22 dX12_shelf_48 rfl ?_
                refine w_il3 (n := 52) dX12_shelf_51 rfl ?_
                refine i_iald (n := 53) pl_113 (j := tN n) hn.1 (by omega) (by decide) (hE.1 _ _ _ (eL_113 (by omega))) dX12_shelf_52 rfl ?_
                refine w_if_lt (n := 56) 60 dX12_shelf_53 (by decide) rfl (fun z53_h => ?_) (fun z53_h => ?_)
                · skip
                  refine w_iconst (n := 61) (nI 0) dX12_shelf_60 (by decide) rfl ?_
                  refine w_is4 (n := 63) dX12_shelf_61 rfl rfl (by decide) ?_
                  refine w_al0 (n := 64) dX12_shelf_63 rfl ?_
                  refine g_R (n := 67) f_X12_45_12 pl_104 rf_104_25 dX12_shelf_64 rfl ?_
                  refine w_il1 (n := 68) dX12_shelf_67 rfl ?_
                  refine w_il2 (n := 69) dX12_shelf_68 rfl ?_
                  refine w_iconst (n := 70) (nI 1) dX12_shelf_69 (by decide) rfl ?_
                  refine w_ic_ne (n := 73) 82 dX12_shelf_70 (by decide) rfl (fun z70_h => ?_) (fun z70_h => ?_)
                  · skip
                    refine w_il2 (n := 83) dX12_shelf_82 rfl ?_
                    refine i_iast (n := 84) pl_116 (j := tN s) hs.1 (by omega) (by decide) dX12_shelf_83 rfl ?_
                    refine w_al0 (n := 85) dX12_shelf_84 rfl ?_
                    refine g_R (n := 88) f_X12_48_12 pl_104 rf_104_26 dX12_shelf_85 rfl ?_
                    refine w_il1 (n := 89) dX12_shelf_88 rfl ?_
                    refine w_il4 (n := 91) dX12_shelf_89 rfl ?_
                    refine w_if_eq (n := 94) 103 dX12_shelf_91 (by decide) rfl (fun _ => ?_) (fun h => absurd (by decide) h)
                    refine w_il3 (n := 104) dX12_shelf_103 rfl ?_
                    refine i_iast (n := 105) pl_117 (j := tN s) hs.1 (by omega) (by decide) dX12_shelf_104 rfl ?_
                    refine w_al0 (n := 106) dX12_shelf_105 rfl ?_
                    refine g_R (n := 109) f_X12_51_12 pl_104 rf_104_27 dX12_shelf_106 rfl ?_
                    refine w_il1 (n := 110) dX12_shelf_109 rfl ?_
                    refine w_il4 (n := 112) dX12_shelf_110 rfl ?_
                    refine w_if_eq (n := 115) 124 dX12_shelf_112 (by decide) rfl (fun _ => ?_) (fun h => absurd (by decide) h)
                    refine w_iconst (n := 125) (nI 0) dX12_shelf_124 (by decide) rfl ?_
                    refine i_iast (n := 126) pl_118 (j := tN s) hs.1 (by omega) (by decide) dX12_shelf_125 rfl ?_
                    refine w_iconst (n := 127) (nI 1) dX12_shelf_126 (by decide) rfl ?_
                    refine w_retI dX12_shelf_127 rfl ?_
                    refine dk_finE hq (if_pos cc) (hE.shelf (s := tN s) (by omega) ?_ ?_ ?_) fe_shelf
                    · first | exact absurd z70_h z44_h | exact absurd z44_h z70_h | exact (if_neg (fun z => absurd z.1 z70_h)).symm | exact (if_neg (fun z => z.2 (Int32.not_lt.mp z53_h))).symm | exact (if_pos ⟨z70_h, fun z => absurd z53_h (Int32.not_lt.mpr z)⟩).symm
                    · first | exact absurd z70_h z44_h | exact absurd z44_h z70_h | exact (if_neg (fun z => absurd z.1 z44_h)).symm | exact (if_pos ⟨z44_h, Int32.not_lt.mp z53_h⟩).symm | exact (if_neg (fun z => absurd z53_h (Int32.not_lt.mpr z.2))).symm
                    · first | exact absurd z70_h z44_h | exact absurd z44_h z70_h | exact (if_neg (fun z => absurd z.1 z44_h)).symm | exact (if_pos ⟨z44_h, Int32.not_lt.mp z53_h⟩).symm | exact (if_neg (fun z => absurd z53_h (Int32.not_lt.mpr z.2))).symm
                  · skip
                    refine w_il4 (n := 75) dX12_shelf_73 rfl ?_
                    refine w_if_ne (n := 78) 82 dX12_shelf_75 (by decide) rfl (fun h => absurd h (by decide)) (fun _ => ?_)
                    refine w_iconst (n := 79) (nI 2) dX12_shelf_78 (by decide) rfl ?_
                    refine w_goto 83 dX12_shelf_79 (by decide) ?_
                    refine i_iast (n := 84) pl_116 (j := tN s) hs.1 (by omega) (by decide) dX12_shelf_83 rfl ?_
                    refine w_al0 (n := 85) dX12_shelf_84 rfl ?_
                    refine g_R (n := 88) f_X12_48_12 pl_104 rf_104_26 dX12_shelf_85 rfl ?_
                    refine w_il1 (n := 89) dX12_shelf_88 rfl ?_
                    refine w_il4 (n := 91) dX12_shelf_89 rfl ?_
                    refine w_if_eq (n := 94) 103 dX12_shelf_91 (by decide) rfl (fun _ => ?_) (fun h => absurd (by decide) h)
                    refine w_il3 (n := 104) dX12_shelf_103 rfl ?_
                    refine i_iast (n := 105) pl_117 (j := tN s) hs.1 (by omega) (by decide) dX12_shelf_104 rfl ?_
                    refine w_al0 (n := 106) dX12_shelf_105 rfl ?_
                    refine g_R (n := 109) f_X12_51_12 pl_104 rf_104_27 dX12_shelf_106 rfl ?_
                    refine w_il1 (n := 110) dX12_shelf_109 rfl ?_
                    refine w_il4 (n := 112) dX12_shelf_110 rfl ?_
                    refine w_if_eq (n := 115) 124 dX12_shelf_112 (by decide) rfl (fun _ => ?_) (fun h => absurd (by decide) h)
                    refine w_iconst (n := 125) (nI 0) dX12_shelf_124 (by decide) rfl ?_
                    refine i_iast (n := 126) pl_118 (j := tN s) hs.1 (by omega) (by decide) dX12_shelf_125 rfl ?_
                    refine w_iconst (n := 127) (nI 1) dX12_shelf_126 (by decide) rfl ?_
                    refine w_retI dX12_shelf_127 rfl ?_
                    refine dk_finE hq (if_pos cc) (hE.shelf (s := tN s) (by omega) ?_ ?_ ?_) fe_shelf
                    · first | exact absurd z70_h z44_h | exact absurd z44_h z70_h | exact (if_neg (fun z => absurd z.1 z70_h)).symm | exact (if_neg (fun z => z.2 (Int32.not_lt.mp z53_h))).symm | exact (if_pos ⟨z70_h, fun z => absurd z53_h (Int32.not_lt.mpr z)⟩).symm
                    · first | exact absurd z70_h z44_h | exact absurd z44_h z70_h | exact (if_neg (fun z => absurd z.1 z44_h)).symm | exact (if_pos ⟨z44_h, Int32.not_lt.mp z53_h⟩).symm | exact (if_neg (fun z => absurd z53_h (Int32.not_lt.mpr z.2))).symm
                    · first | exact absurd z70_h z44_h | exact absurd z44_h z70_h | exact (if_neg (fun z => absurd z.1 z44_h)).symm | exact (if_pos ⟨z44_h, Int32.not_lt.mp z53_h⟩).symm | exact (if_neg (fun z => absurd z53_h (Int32.not_lt.mpr z.2))).symm
                · skip
                  refine w_iconst (n := 57) (nI 1) dX12_shelf_56 (by decide) rfl ?_
                  refine w_goto 61 dX12_shelf_57 (by decide) ?_
                  refine w_is4 (n := 63) dX12_shelf_61 rfl rfl (by decide) ?_
                  refine w_al0 (n := 64) dX12_shelf_63 rfl ?_
                  refine g_R (n := 67) f_X12_45_12 pl_104 rf_104_25 dX12_shelf_64 rfl ?_
                  refine w_il1 (n := 68) dX12_shelf_67 rfl ?_
                  refine w_il2 (n := 69) dX12_shelf_68 rfl ?_
                  refine w_iconst (n := 70) (nI 1) dX12_shelf_69 (by decide) rfl ?_
                  refine w_ic_ne (n := 73) 82 dX12_shelf_70 (by decide) rfl (fun z70_h => ?_) (fun z70_h => ?_)
                  · skip
                    refine w_il2 (n := 83) dX12_shelf_82 rfl ?_
                    refine i_iast (n := 84) pl_116 (j := tN s) hs.1 (by omega) (by decide) dX12_shelf_83 rfl ?_
                    refine w_al0 (n := 85) dX12_shelf_84 rfl ?_
                    refine g_R (n := 88) f_X12_48_12 pl_104 rf_104_26 dX12_shelf_85 rfl ?_
                    refine w_il1 (n := 89) dX12_shelf_88 rfl ?_
                    refine w_il4 (n := 91) dX12_shelf_89 rfl ?_
                    refine w_if_eq (n := 94) 103 dX12_shelf_91 (by decide) rfl (fun h => absurd h (by decide)) (fun _ => ?_)
                    refine w_al0 (n := 95) dX12_shelf_94 rfl ?_
                    refine g_R (n := 98) f_X12_35_12 pl_104 rf_104_22 dX12_shelf_95 rfl ?_
                    refine w_il3 (n := 99) dX12_shelf_98 rfl ?_
                    refine i_iald (n := 100) pl_113 (j := tN n) hn.1 (by omega) (by decide) ((dk_put_k (by omega)).trans (hE.1 _ _ _ (eL_113 (by omega)))) dX12_shelf_99 rfl ?_
                    refine w_goto 104 dX12_shelf_100 (by decide) ?_
                    refine i_iast (n := 105) pl_117 (j := tN s) hs.1 (by omega) (by decide) dX12_shelf_104 rfl ?_
                    refine w_al0 (n := 106) dX12_shelf_105 rfl ?_
                    refine g_R (n := 109) f_X12_51_12 pl_104 rf_104_27 dX12_shelf_106 rfl ?_
                    refine w_il1 (n := 110) dX12_shelf_109 rfl ?_
                    refine w_il4 (n := 112) dX12_shelf_110 rfl ?_
                    refine w_if_eq (n := 115) 124 dX12_shelf_112 (by decide) rfl (fun h => absurd h (by decide)) (fun _ => ?_)
                    refine w_al0 (n := 116) dX12_shelf_115 rfl ?_
                    refine g_R (n := 119) f_X12_38_12 pl_104 rf_104_23 dX12_shelf_116 rfl ?_
                    refine w_il3 (n := 120) dX12_shelf_119 rfl ?_
                    refine i_iald (n := 121) pl_114 (j := tN n) hn.1 (by omega) (by decide) ((dk_put_k (by omega)).trans ((dk_put_k (by omega)).trans (hE.1 _ _ _ (eL_114 (by omega))))) dX12_shelf_120 rfl ?_
                    refine w_goto 125 dX12_shelf_121 (by decide) ?_
                    refine i_iast (n := 126) pl_118 (j := tN s) hs.1 (by omega) (by decide) dX12_shelf_125 rfl ?_
                    refine w_iconst (n := 127) (nI 1) dX12_shelf_126 (by decide) rfl ?_
                    refine w_retI dX12_shelf_127 rfl ?_
                    refine dk_finE hq (if_pos cc) (hE.shelf (s := tN s) (by omega) ?_ ?_ ?_) fe_shelf
                    · first | exact absurd z70_h z44_h | exact absurd z44_h z70_h | exact (if_neg (fun z => absurd z.1 z70_h)).symm | exact (if_neg (fun z => z.2 (Int32.not_lt.mp z53_h))).symm | exact (if_pos ⟨z70_h, fun z => absurd z53_h (Int32.not_lt.mpr z)⟩).symm
                    · first | exact absurd z70_h z44_h | exact absurd z44_h z70_h | exact (if_neg (fun z => absurd z.1 z44_h)).symm | exact (if_pos ⟨z44_h, Int32.not_lt.mp z53_h⟩).symm | exact (if_neg (fun z => absurd z53_h (Int32.not_lt.mpr z.2))).symm
                    · first | exact absurd z70_h z44_h | exact absurd z44_h z70_h | exact (if_neg (fun z => absurd z.1 z44_h)).symm | exact (if_pos ⟨z44_h, Int32.not_lt.mp z53_h⟩).symm | exact (if_neg (fun z => absurd z53_h (Int32.not_lt.mpr z.2))).symm
                  · skip
                    refine w_il4 (n := 75) dX12_shelf_73 rfl ?_
                    refine w_if_ne (n := 78) 82 dX12_shelf_75 (by decide) rfl (fun _ => ?_) (fun h => absurd h (by decide))
                    refine w_il2 (n := 83) dX12_shelf_82 rfl ?_
                    refine i_iast (n := 84) pl_116 (j := tN s) hs.1 (by omega) (by decide) dX12_shelf_83 rfl ?_
                    refine w_al0 (n := 85) dX12_shelf_84 rfl ?_
                    refine g_R (n := 88) f_X12_48_12 pl_104 rf_104_26 dX12_shelf_85 rfl ?_
                    refine w_il1 (n := 89) dX12_shelf_88 rfl ?_
                    refine w_il4 (n := 91) dX12_shelf_89 rfl ?_
                    refine w_if_eq (n := 94) 103 dX12_shelf_91 (by decide) rfl (fun h => absurd h (by decide)) (fun _ => ?_)
                    refine w_al0 (n := 95) dX12_shelf_94 rfl ?_
                    refine g_R (n := 98) f_X12_35_12 pl_104 rf_104_22 dX12_shelf_95 rfl ?_
                    refine w_il3 (n := 99) dX12_shelf_98 rfl ?_
                    refine i_iald (n := 100) pl_113 (j := tN n) hn.1 (by omega) (by decide) ((dk_put_k (by omega)).trans (hE.1 _ _ _ (eL_113 (by omega)))) dX12_shelf_99 rfl ?_
                    refine w_goto 104 dX12_shelf_100 (by decide) ?_
                    refine i_iast (n := 105) pl_117 (j := tN s) hs.1 (by omega) (by decide) dX12_shelf_104 rfl ?_
                    refine w_al0 (n := 106) dX12_shelf_105 rfl ?_
                    refine g_R (n := 109) f_X12_51_12 pl_104 rf_104_27 dX12_shelf_106 rfl ?_
                    refine w_il1 (n := 110) dX12_shelf_109 rfl ?_
                    refine w_il4 (n := 112) dX12_shelf_110 rfl ?_
                    refine w_if_eq (n := 115) 124 dX12_shelf_112 (by decide) rfl (fun h => absurd h (by decide)) (fun _ => ?_)
                    refine w_al0 (n := 116) dX12_shelf_115 rfl ?_
                    refine g_R (n := 119) f_X12_38_12 pl_104 rf_104_23 dX12_shelf_116 rfl ?_
                    refine w_il3 (n := 120) dX12_shelf_119 rfl ?_
                    refine i_iald (n := 121) pl_114 (j := tN n) hn.1 (by omega) (by decide) ((dk_put_k (by omega)).trans ((dk_put_k (by omega)).trans (hE.1 _ _ _ (eL_114 (by omega))))) dX12_shelf_120 rfl ?_
                    refine w_goto 125 dX12_shelf_121 (by decide) ?_
                    refine i_iast (n := 126) pl_118 (j := tN s) hs.1 (by omega) (by decide) dX12_shelf_125 rfl ?_
                    refine w_iconst (n := 127) (nI 1) dX12_shelf_126 (by decide) rfl ?_
                    refine w_retI dX12_shelf_127 rfl ?_
                    refine dk_finE hq (if_pos cc) (hE.shelf (s := tN s) (by omega) ?_ ?_ ?_) fe_shelf
                    · first | exact absurd z70_h z44_h | exact absurd z44_h z70_h | exact (if_neg (fun z => absurd z.1 z70_h)).symm | exact (if_neg (fun z => z.2 (Int32.not_lt.mp z53_h))).symm | exact (if_pos ⟨z70_h, fun z => absurd z53_h (Int32.not_lt.mpr z)⟩).symm
                    · first | exact absurd z70_h z44_h | exact absurd z44_h z70_h | exact (if_neg (fun z => absurd z.1 z44_h)).symm | exact (if_pos ⟨z44_h, Int32.not_lt.mp z53_h⟩).symm | exact (if_neg (fun z => absurd z53_h (Int32.not_lt.mpr z.2))).symm
                    · first | exact absurd z70_h z44_h | exact absurd z44_h z70_h | exact (if_neg (fun z => absurd z.1 z44_h)).symm | exact (if_pos ⟨z44_h, Int32.not_lt.mp z53_h⟩).symm | exact (if_neg (fun z => absurd z53_h (Int32.not_lt.mpr z.2))).symm
            · skip
              refine w_if_ne (n := 40) 42 dX12_shelf_37 (by decide) rfl (fun h => absurd h (by decide)) (fun _ => ?_)
              refine w_iconst (n := 41) (-1) dX12_shelf_40 (by decide) rfl ?_
              refine w_retI dX12_shelf_41 rfl ?_
              exact dk_finE hq (if_neg (fun z => by first | exact t1_h z.1 | exact t10_h z.2.1 | exact z.2.2.1 z17_h kn | exact t34_h (z.2.2.2 z30_h))) hE dk_fe.rf
        · skip
          have kn : sg_pc K.1 n = none := sg_pc_none o4_h nh
          refine w_if_eq (n := 28) 40 dX12_shelf_25 (by decide) rfl (fun _ => ?_) (fun h => absurd (by decide) h)
          refine w_iconst (n := 41) (-1) dX12_shelf_40 (by decide) rfl ?_
          refine w_retI dX12_shelf_41 rfl ?_
          exact dk_finE hq (if_neg (fun z => by first | exact t1_h z.1 | exact t10_h z.2.1 | exact z.2.2.1 z17_h kn | exact t34_h (z.2.2.2 z30_h))) hE dk_fe.rf
    · skip
      refine w_if_eq (n := 16) 40 dX12_shelf_13 (by decide) rfl (fun _ => ?_) (fun h => absurd (by decide) h)
      refine w_iconst (n := 41) (-1) dX12_shelf_40 (by decide) rfl ?_
      refine w_retI dX12_shelf_41 rfl ?_
      exact dk_finE hq (if_neg (fun z => by first | exact t1_h z.1 | exact t10_h z.2.1 | exact z.2.2.1 z17_h kn | exact t34_h (z.2.2.2 z30_h))) hE dk_fe.rf
  · skip
    refine w_if_eq (n := 7) 40 dX12_shelf_4 (by decide) rfl (fun _ => ?_) (fun h => absurd (by decide) h)
    refine w_iconst (n := 41) (-1) dX12_shelf_40 (by decide) rfl ?_
    refine w_retI dX12_shelf_41 rfl ?_
    exact dk_finE hq (if_neg (fun z => by first | exact t1_h z.1 | exact t10_h z.2.1 | exact z.2.2.1 z17_h kn | exact t34_h (z.2.2.2 z30_h))) hE dk_fe.rf

set_option maxRecDepth 20000 in
theorem r_hasPiece {d : Nat} {M : dk_Mem} {Q : Option Value → dk_Mem → Prop} {K : sg_K} (hK : rK K M) {E : sg_E} (hE : rE E M) (hI : eI E) {s : Nat} (hs : s < 4) (h1_h : ∀ h, h < K.1 4 → eP K E s = some h → E (32 + s) = nI h → Q (some (.int 1)) M) (h0_h : eP K E s = none → Q (some (.int 0)) M) : dk_Call (d + 2) mX12_hasPiece [.ref 104, .int (nI s)] M Q := by
  have hK0 := hK
  obtain ⟨⟨o, p1_h, p2_h, p3_h⟩, hr, ⟨f, hb, hT⟩, hsc, hz⟩ := hK0
  have o4_h := o.2.2.2.1
  have o16_h := o.2.1
  refine dk_enter [some (.ref 104), some (.int (nI s))] (by decide) (fun _ => rfl) (fun _ => Nat.le_of_ble_eq_true rfl) ?_
  refine w_al0 (n := 1) dX12_hasPiece_0 rfl ?_
  refine g_R (n := 4) f_X12_45_12 pl_104 rf_104_25 dX12_hasPiece_1 rfl ?_
  refine w_il1 (n := 5) dX12_hasPiece_4 rfl ?_
  refine i_iald (n := 6) pl_116 (j := s) rfl hs (by decide) (hE.1 _ _ _ (eL_116 hs)) dX12_hasPiece_5 rfl ?_
  refine w_if_ne (n := 9) 26 dX12_hasPiece_6 (by decide) rfl (fun z6_h => ?_) (fun z6_h => ?_)
  · skip
    refine w_iconst (n := 27) (nI 0) dX12_hasPiece_26 (by decide) rfl ?_
    refine w_retZ0 dX12_hasPiece_27 rfl ?_
    first | exact h0_h (by unfold eP; rw [if_neg z6_h]) | exact h0_h (by unfold eP; rw [if_pos z6_h, sg_pc_none o4_h nh])
  · skip
    refine w_al0 (n := 10) dX12_hasPiece_9 rfl ?_
    refine w_al0 (n := 11) dX12_hasPiece_10 rfl ?_
    refine g_R (n := 14) f_X12_48_12 pl_104 rf_104_26 dX12_hasPiece_11 rfl ?_
    refine w_il1 (n := 15) dX12_hasPiece_14 rfl ?_
    refine i_iald (n := 16) pl_117 (j := s) rfl hs (by decide) (hE.1 _ _ _ (eL_117 hs)) dX12_hasPiece_15 rfl ?_
    refine w_cV1 (n := 19) pl_104 cl_12 s0_X12_isPiece k_X12_109 (Nat.le_of_ble_eq_true rfl) dX12_hasPiece_16 rfl (r_isPiece hr o (fun h hh e => ?_) (fun nh => ?_))
    · skip
      refine w_if_eq (n := 22) 26 dX12_hasPiece_19 (by decide) rfl (fun h => absurd h (by decide)) (fun _ => ?_)
      refine w_iconst (n := 23) (nI 1) dX12_hasPiece_22 (by decide) rfl ?_
      refine w_goto 27 dX12_hasPiece_23 (by decide) ?_
      refine w_retZ1 dX12_hasPiece_27 rfl ?_
      exact h1_h h hh (by unfold eP; rw [if_pos z6_h, e, sg_pc_some o4_h hh]) e
    · skip
      refine w_if_eq (n := 22) 26 dX12_hasPiece_19 (by decide) rfl (fun _ => ?_) (fun h => absurd (by decide) h)
      refine w_iconst (n := 27) (nI 0) dX12_hasPiece_26 (by decide) rfl ?_
      refine w_retZ0 dX12_hasPiece_27 rfl ?_
      first | exact h0_h (by unfold eP; rw [if_neg z6_h]) | exact h0_h (by unfold eP; rw [if_pos z6_h, sg_pc_none o4_h nh])

set_option maxRecDepth 20000 in
theorem R_taken {d : Nat} {M : dk_Mem} {Q : Option Value → dk_Mem → Prop} {K : sg_K} (hK : rK K M) {E : sg_E} (hE : rE E M) (hI : eI E) {s a : Int32} (hq : ∀ M2, rE (ef_taken K E s a).2 M2 → dk_fe rX M M2 → Q (some (.int (ef_taken K E s a).1)) M2) : dk_Call (d + 3) mX12_taken [.ref 104, .int s, .int a] M Q := by
  have hK0 := hK
  obtain ⟨⟨o, p1_h, p2_h, p3_h⟩, hr, ⟨f, hb, hT⟩, hsc, hz⟩ := hK0
  have o4_h := o.2.2.2.1
  have o16_h := o.2.1
  refine dk_enter [some (.ref 104), some (.int s), some (.int a)] (by decide) (fun _ => rfl) (fun _ => Nat.le_of_ble_eq_true rfl) ?_
  refine w_il1 (n := 1) dX12_taken_0 rfl ?_
  refine w_cS1 (n := 4) s0_X12_isFour k_X12_281 (Nat.le_of_ble_eq_true rfl) dX12_taken_1 rfl (r_isFour (fun t1_h => ?_) (fun t1_h => ?_))
  · skip
    refine w_if_eq (n := 7) 27 dX12_taken_4 (by decide) rfl (fun h => absurd h (by decide)) (fun _ => ?_)
    refine w_il2 (n := 8) dX12_taken_7 rfl ?_
    refine w_iconst (n := 9) (nI 0) dX12_taken_8 (by decide) rfl ?_
    refine w_iconst (n := 10) (nI 5) dX12_taken_9 (by decide) rfl ?_
    refine w_cS3 (n := 13) s0_X12_in k_X12_61 (Nat.le_of_ble_eq_true rfl) dX12_taken_10 rfl (r_in (fun t10_h => ?_) (fun t10_h => ?_))
    · skip
      refine w_if_ne (n := 16) 29 dX12_taken_13 (by decide) rfl (fun _ => ?_) (fun h => absurd h (by decide))
      have hs := tN_of (n := 3) (by decide) t1_h.1 t1_h.2
      have cc : (nI 0 ≤ s ∧ s ≤ nI 3) ∧ ((nI 0 ≤ a ∧ a ≤ nI 5) ∨ (nI 10 ≤ a ∧ a ≤ nI 14)) := ⟨t1_h, by first | exact Or.inl t10_h | exact Or.inr t21_h⟩
      have e9_h : ef_taken K E s a = ((match eP K E (tN s) with | some h => (if a < nI 6 ∧ sg_ub (K.1 (35 + 5 * h)) (tN a) = true then nI h else -13) | none => (if E (28 + tN s) = nI 1 then (if a = nI 10 + E (32 + tN s) then E (36 + tN s) else -13) else -11)), E) := congrArg (fun y => (y, E)) (if_pos cc)
      rw [e9_h] at hq
      clear e9_h
      have e8_h := hs.1
      have b8_h := hs.2
      generalize tN s = s0_h at *
      subst e8_h
      refine w_al0 (n := 30) dX12_taken_29 rfl ?_
      refine w_il1 (n := 31) dX12_taken_30 rfl ?_
      refine w_cV1 (n := 34) pl_104 cl_12 s0_X12_hasPiece k_X12_304 (Nat.le_of_ble_eq_true rfl) dX12_taken_31 rfl (r_hasPiece hK hE hI (s := s0_h) (by omega) (fun h hh ep eh => ?_) (fun ep => ?_))
      · skip
        rw [ep] at hq
        dsimp only at hq
        refine w_if_eq (n := 37) 73 dX12_taken_34 (by decide) rfl (fun h => absurd h (by decide)) (fun _ => ?_)
        refine w_il2 (n := 38) dX12_taken_37 rfl ?_
        refine w_bipush (n := 40) (nI 6) dX12_taken_38 (by decide) rfl ?_
        refine w_ic_ge (n := 43) 70 dX12_taken_40 (by decide) rfl (fun z40_h => ?_) (fun z40_h => ?_)
        · skip
          refine w_bipush (n := 72) (-13) dX12_taken_70 (by decide) rfl ?_
          refine w_retI dX12_taken_72 rfl ?_
          exact dk_finE hq (congrArg (fun y => (y, E)) (if_neg (fun z => by first | exact z40_h (Int32.not_le.mpr z.1) | (exact absurd z.1 (Int32.not_lt.mpr z40_h)) | (rw [sg_ub_n t55_h] at z; exact absurd z.2 (by decide))))) hE dk_fe.rf
        · skip
          have a6_h := tN_of (n := 5) (by decide) (show nI 0 ≤ a by rcases cc.2 with z | z; exact z.1; exact Int32.le_trans (by decide) z.1) (by rcases cc.2 with z | z; exact z.2; exact absurd (Int32.le_trans (show nI 6 ≤ nI 10 by decide) z.1) z40_h)
          refine w_al0 (n := 44) dX12_taken_43 rfl ?_
          refine w_al0 (n := 45) dX12_taken_44 rfl ?_
          refine g_R (n := 48) f_X12_48_12 pl_104 rf_104_26 dX12_taken_45 rfl ?_
          refine w_il1 (n := 49) dX12_taken_48 rfl ?_
          refine i_iald (n := 50) pl_117 (j := s0_h) rfl (by omega) (by decide) (hE.1 _ _ _ (eL_117 (by omega))) dX12_taken_49 rfl ?_
          refine w_iconst (n := 51) (nI 0) dX12_taken_50 (by decide) rfl ?_
          have h6_h : h < 6 := by omega
          rw [eh]
          refine w_cV2 (n := 54) pl_104 cl_12 s0_X12_of k_X12_69 (Nat.le_of_ble_eq_true rfl) dX12_taken_51 rfl (r_of (h := h) (w := 0) (by omega) (hr.kind h6_h) ?_)
          refine w_il2 (n := 55) dX12_taken_54 rfl ?_
          have ea : Value.int a = Value.int (nI (tN a)) := by rw [← a6_h.1]
          rw [ea]
          refine w_cS2 (n := 58) s0_X12_isUnder k_X12_211 (Nat.le_of_ble_eq_true rfl) dX12_taken_55 rfl (r_isUnder (o.kind h6_h) a6_h.2 (fun t55_h => ?_) (fun t55_h => ?_))
          · skip
            refine w_if_eq (n := 61) 70 dX12_taken_58 (by decide) rfl (fun h => absurd h (by decide)) (fun _ => ?_)
            refine w_al0 (n := 62) dX12_taken_61 rfl ?_
            refine g_R (n := 65) f_X12_48_12 pl_104 rf_104_26 dX12_taken_62 rfl ?_
            refine w_il1 (n := 66) dX12_taken_65 rfl ?_
            refine i_iald (n := 67) pl_117 (j := s0_h) rfl (by omega) (by decide) (hE.1 _ _ _ (eL_117 (by omega))) dX12_taken_66 rfl ?_
            refine w_goto 72 dX12_taken_67 (by decide) ?_
            refine w_retI dX12_taken_72 rfl ?_
            rw [eh]
            exact dk_finE hq (congrArg (fun y => (y, E)) (if_pos ⟨Int32.not_le.mp z40_h, sg_ub_y t55_h⟩)) hE dk_fe.rf
          · skip
            refine w_if_eq (n := 61) 70 dX12_taken_58 (by decide) rfl (fun _ => ?_) (fun h => absurd (by decide) h)
            refine w_bipush (n := 72) (-13) dX12_taken_70 (by decide) rfl ?_
            refine w_retI dX12_taken_72 rfl ?_
            exact dk_finE hq (congrArg (fun y => (y, E)) (if_neg (fun z => by first | exact z40_h (Int32.not_le.mpr z.1) | (exact absurd z.1 (Int32.not_lt.mpr z40_h)) | (rw [sg_ub_n t55_h] at z; exact absurd z.2 (by decide))))) hE dk_fe.rf
      · skip
        rw [ep] at hq
        dsimp only at hq
        refine w_if_eq (n := 37) 73 dX12_taken_34 (by decide) rfl (fun _ => ?_) (fun h => absurd (by decide) h)
        refine w_al0 (n := 74) dX12_taken_73 rfl ?_
        refine g_R (n := 77) f_X12_45_12 pl_104 rf_104_25 dX12_taken_74 rfl ?_
        refine w_il1 (n := 78) dX12_taken_77 rfl ?_
        refine i_iald (n := 79) pl_116 (j := s0_h) rfl (by omega) (by decide) (hE.1 _ _ _ (eL_116 (by omega))) dX12_taken_78 rfl ?_
        refine w_iconst (n := 80) (nI 1) dX12_taken_79 (by decide) rfl ?_
        refine w_ic_eq (n := 83) 86 dX12_taken_80 (by decide) rfl (fun z80_h => ?_) (fun z80_h => ?_)
        · skip
          refine w_il2 (n := 87) dX12_taken_86 rfl ?_
          refine w_bipush (n := 89) (nI 10) dX12_taken_87 (by decide) rfl ?_
          refine w_al0 (n := 90) dX12_taken_89 rfl ?_
          refine g_R (n := 93) f_X12_48_12 pl_104 rf_104_26 dX12_taken_90 rfl ?_
          refine w_il1 (n := 94) dX12_taken_93 rfl ?_
          refine i_iald (n := 95) pl_117 (j := s0_h) rfl (by omega) (by decide) (hE.1 _ _ _ (eL_117 (by omega))) dX12_taken_94 rfl ?_
          refine w_iadd (n := 96) dX12_taken_95 rfl ?_
          refine w_ic_ne (n := 99) 108 dX12_taken_96 (by decide) rfl (fun z96_h => ?_) (fun z96_h => ?_)
          · skip
            refine w_bipush (n := 110) (-13) dX12_taken_108 (by decide) rfl ?_
            refine w_retI dX12_taken_110 rfl ?_
            exact dk_finE hq (congrArg (fun y => (y, E)) ((if_pos z80_h).trans (if_neg z96_h))) hE dk_fe.rf
          · skip
            refine w_al0 (n := 100) dX12_taken_99 rfl ?_
            refine g_R (n := 103) f_X12_51_12 pl_104 rf_104_27 dX12_taken_100 rfl ?_
            refine w_il1 (n := 104) dX12_taken_103 rfl ?_
            refine i_iald (n := 105) pl_118 (j := s0_h) rfl (by omega) (by decide) (hE.1 _ _ _ (eL_118 (by omega))) dX12_taken_104 rfl ?_
            refine w_goto 110 dX12_taken_105 (by decide) ?_
            refine w_retI dX12_taken_110 rfl ?_
            exact dk_finE hq (congrArg (fun y => (y, E)) ((if_pos z80_h).trans (if_pos z96_h))) hE dk_fe.rf
        · skip
          refine w_bipush (n := 85) (-11) dX12_taken_83 (by decide) rfl ?_
          refine w_retI dX12_taken_85 rfl ?_
          exact dk_finE hq (congrArg (fun y => (y, E)) (if_neg z80_h)) hE dk_fe.rf
    · skip
      refine w_if_ne (n := 16) 29 dX12_taken_13 (by decide) rfl (fun h => absurd h (by decide)) (fun _ => ?_)
      refine w_il2 (n := 17) dX12_taken_16 rfl ?_
      refine w_bipush (n := 19) (nI 10) dX12_taken_17 (by decide) rfl ?_
      refine w_bipush (n := 21) (nI 14) dX12_taken_19 (by decide) rfl ?_
      refine w_cS3 (n := 24) s0_X12_in k_X12_61 (Nat.le_of_ble_eq_true rfl) dX12_taken_21 rfl (r_in (fun t21_h => ?_) (fun t21_h => ?_))
      · skip
        refine w_if_ne (n := 27) 29 dX12_taken_24 (by decide) rfl (fun _ => ?_) (fun h => absurd h (by decide))
        have hs := tN_of (n := 3) (by decide) t1_h.1 t1_h.2
        have cc : (nI 0 ≤ s ∧ s ≤ nI 3) ∧ ((nI 0 ≤ a ∧ a ≤ nI 5) ∨ (nI 10 ≤ a ∧ a ≤ nI 14)) := ⟨t1_h, by first | exact Or.inl t10_h | exact Or.inr t21_h⟩
        have e9_h : ef_taken K E s a = ((match eP K E (tN s) with | some h => (if a < nI 6 ∧ sg_ub (K.1 (35 + 5 * h)) (tN a) = true then nI h else -13) | none => (if E (28 + tN s) = nI 1 then (if a = nI 10 + E (32 + tN s) then E (36 + tN s) else -13) else -11)), E) := congrArg (fun y => (y, E)) (if_pos cc)
        rw [e9_h] at hq
        clear e9_h
        have e8_h := hs.1
        have b8_h := hs.2
        generalize tN s = s0_h at *
        subst e8_h
        refine w_al0 (n := 30) dX12_taken_29 rfl ?_
        refine w_il1 (n := 31) dX12_taken_30 rfl ?_
        refine w_cV1 (n := 34) pl_104 cl_12 s0_X12_hasPiece k_X12_304 (Nat.le_of_ble_eq_true rfl) dX12_taken_31 rfl (r_hasPiece hK hE hI (s := s0_h) (by omega) (fun h hh ep eh => ?_) (fun ep => ?_))
        · skip
          rw [ep] at hq
          dsimp only at hq
          refine w_if_eq (n := 37) 73 dX12_taken_34 (by decide) rfl (fun h => absurd h (by decide)) (fun _ => ?_)
          refine w_il2 (n := 38) dX12_taken_37 rfl ?_
          refine w_bipush (n := 40) (nI 6) dX12_taken_38 (by decide) rfl ?_
          refine w_ic_ge (n := 43) 70 dX12_taken_40 (by decide) rfl (fun z40_h => ?_) (fun z40_h => ?_)
          · skip
            refine w_bipush (n := 72) (-13) dX12_taken_70 (by decide) rfl ?_
            refine w_retI dX12_taken_72 rfl ?_
            exact dk_finE hq (congrArg (fun y => (y, E)) (if_neg (fun z => by first | exact z40_h (Int32.not_le.mpr z.1) | (exact absurd z.1 (Int32.not_lt.mpr z40_h)) | (rw [sg_ub_n t55_h] at z; exact absurd z.2 (by decide))))) hE dk_fe.rf
          · skip
            have a6_h := tN_of (n := 5) (by decide) (show nI 0 ≤ a by rcases cc.2 with z | z; exact z.1; exact Int32.le_trans (by decide) z.1) (by rcases cc.2 with z | z; exact z.2; exact absurd (Int32.le_trans (show nI 6 ≤ nI 10 by decide) z.1) z40_h)
            refine w_al0 (n := 44) dX12_taken_43 rfl ?_
            refine w_al0 (n := 45) dX12_taken_44 rfl ?_
            refine g_R (n := 48) f_X12_48_12 pl_104 rf_104_26 dX12_taken_45 rfl ?_
            refine w_il1 (n := 49) dX12_taken_48 rfl ?_
            refine i_iald (n := 50) pl_117 (j := s0_h) rfl (by omega) (by decide) (hE.1 _ _ _ (eL_117 (by omega))) dX12_taken_49 rfl ?_
            refine w_iconst (n := 51) (nI 0) dX12_taken_50 (by decide) rfl ?_
            have h6_h : h < 6 := by omega
            rw [eh]
            refine w_cV2 (n := 54) pl_104 cl_12 s0_X12_of k_X12_69 (Nat.le_of_ble_eq_true rfl) dX12_taken_51 rfl (r_of (h := h) (w := 0) (by omega) (hr.kind h6_h) ?_)
            refine w_il2 (n := 55) dX12_taken_54 rfl ?_
            have ea : Value.int a = Value.int (nI (tN a)) := by rw [← a6_h.1]
            rw [ea]
            refine w_cS2 (n := 58) s0_X12_isUnder k_X12_211 (Nat.le_of_ble_eq_true rfl) dX12_taken_55 rfl (r_isUnder (o.kind h6_h) a6_h.2 (fun t55_h => ?_) (fun t55_h => ?_))
            · skip
              refine w_if_eq (n := 61) 70 dX12_taken_58 (by decide) rfl (fun h => absurd h (by decide)) (fun _ => ?_)
              refine w_al0 (n := 62) dX12_taken_61 rfl ?_
              refine g_R (n := 65) f_X12_48_12 pl_104 rf_104_26 dX12_taken_62 rfl ?_
              refine w_il1 (n := 66) dX12_taken_65 rfl ?_
              refine i_iald (n := 67) pl_117 (j := s0_h) rfl (by omega) (by decide) (hE.1 _ _ _ (eL_117 (by omega))) dX12_taken_66 rfl ?_
              refine w_goto 72 dX12_taken_67 (by decide) ?_
              refine w_retI dX12_taken_72 rfl ?_
              rw [eh]
              exact dk_finE hq (congrArg (fun y => (y, E)) (if_pos ⟨Int32.not_le.mp z40_h, sg_ub_y t55_h⟩)) hE dk_fe.rf
            · skip
              refine w_if_eq (n := 61) 70 dX12_taken_58 (by decide) rfl (fun _ => ?_) (fun h => absurd (by decide) h)
              refine w_bipush (n := 72) (-13) dX12_taken_70 (by decide) rfl ?_
              refine w_retI dX12_taken_72 rfl ?_
              exact dk_finE hq (congrArg (fun y => (y, E)) (if_neg (fun z => by first | exact z40_h (Int32.not_le.mpr z.1) | (exact absurd z.1 (Int32.not_lt.mpr z40_h)) | (rw [sg_ub_n t55_h] at z; exact absurd z.2 (by decide))))) hE dk_fe.rf
        · skip
          rw [ep] at hq
          dsimp only at hq
          refine w_if_eq (n := 37) 73 dX12_taken_34 (by decide) rfl (fun _ => ?_) (fun h => absurd (by decide) h)
          refine w_al0 (n := 74) dX12_taken_73 rfl ?_
          refine g_R (n := 77) f_X12_45_12 pl_104 rf_104_25 dX12_taken_74 rfl ?_
          refine w_il1 (n := 78) dX12_taken_77 rfl ?_
          refine i_iald (n := 79) pl_116 (j := s0_h) rfl (by omega) (by decide) (hE.1 _ _ _ (eL_116 (by omega))) dX12_taken_78 rfl ?_
          refine w_iconst (n := 80) (nI 1) dX12_taken_79 (by decide) rfl ?_
          refine w_ic_eq (n := 83) 86 dX12_taken_80 (by decide) rfl (fun z80_h => ?_) (fun z80_h => ?_)
          · skip
            refine w_il2 (n := 87) dX12_taken_86 rfl ?_
            refine w_bipush (n := 89) (nI 10) dX12_taken_87 (by decide) rfl ?_
            refine w_al0 (n := 90) dX12_taken_89 rfl ?_
            refine g_R (n := 93) f_X12_48_12 pl_104 rf_104_26 dX12_taken_90 rfl ?_
            refine w_il1 (n := 94) dX12_taken_93 rfl ?_
            refine i_iald (n := 95) pl_117 (j := s0_h) rfl (by omega) (by decide) (hE.1 _ _ _ (eL_117 (by omega))) dX12_taken_94 rfl ?_
            refine w_iadd (n := 96) dX12_taken_95 rfl ?_
            refine w_ic_ne (n := 99) 108 dX12_taken_96 (by decide) rfl (fun z96_h => ?_) (fun z96_h => ?_)
            · skip
              refine w_bipush (n := 110) (-13) dX12_taken_108 (by decide) rfl ?_
              refine w_retI dX12_taken_110 rfl ?_
              exact dk_finE hq (congrArg (fun y => (y, E)) ((if_pos z80_h).trans (if_neg z96_h))) hE dk_fe.rf
            · skip
              refine w_al0 (n := 100) dX12_taken_99 rfl ?_
              refine g_R (n := 103) f_X12_51_12 pl_104 rf_104_27 dX12_taken_100 rfl ?_
              refine w_il1 (n := 104) dX12_taken_103 rfl ?_
              refine i_iald (n := 105) pl_118 (j := s0_h) rfl (by omega) (by decide) (hE.1 _ _ _ (eL_118 (by omega))) dX12_taken_104 rfl ?_
              refine w_goto 110 dX12_taken_105 (by decide) ?_
              refine w_retI dX12_taken_110 rfl ?_
              exact dk_finE hq (congrArg (fun y => (y, E)) ((if_pos z80_h).trans (if_pos z96_h))) hE dk_fe.rf
          · skip
            refine w_bipush (n := 85) (-11) dX12_taken_83 (by decide) rfl ?_
            refine w_retI dX12_taken_85 rfl ?_
            exact dk_finE hq (congrArg (fun y => (y, E)) (if_neg z80_h)) hE dk_fe.rf
      · skip
        refine w_if_ne (n := 27) 29 dX12_taken_24 (by decide) rfl (fun h => absurd h (by decide)) (fun _ => ?_)
        refine w_iconst (n := 28) (-1) dX12_taken_27 (by decide) rfl ?_
        refine w_retI dX12_taken_28 rfl ?_
        exact dk_finE hq (congrArg (fun y => (y, E)) (if_neg (fun z => by first | exact t1_h z.1 | (rcases z.2 with z | z; exact t10_h z; exact t21_h z)))) hE dk_fe.rf
  · skip
    refine w_if_eq (n := 7) 27 dX12_taken_4 (by decide) rfl (fun _ => ?_) (fun h => absurd (by decide) h)
    refine w_iconst (n := 28) (-1) dX12_taken_27 (by decide) rfl ?_
    refine w_retI dX12_taken_28 rfl ?_
    exact dk_finE hq (congrArg (fun y => (y, E)) (if_neg (fun z => by first | exact t1_h z.1 | (rcases z.2 with z | z; exact t10_h z; exact t21_h z)))) hE dk_fe.rf

set_option maxRecDepth 20000 in
theorem r_isRow {d : Nat} {M : dk_Mem} {Q : Option Value → dk_Mem → Prop} {E : sg_E} (hE : rE E M) (hI : eI E) {k x : Int32} (h1_h : (nI 0 ≤ k ∧ k ≤ E 0 - nI 1) ∧ nI 0 ≤ x ∧ x ≤ nI 2 → Q (some (.int 1)) M) (h0_h : ¬ ((nI 0 ≤ k ∧ k ≤ E 0 - nI 1) ∧ nI 0 ≤ x ∧ x ≤ nI 2) → Q (some (.int 0)) M) : dk_Call (d + 1) mX12_isRow [.ref 104, .int k, .int x] M Q := by
  refine dk_enter [some (.ref 104), some (.int k), some (.int x)] (by decide) (fun _ => rfl) (fun _ => Nat.le_of_ble_eq_true rfl) ?_
  refine w_il1 (n := 1) dX12_isRow_0 rfl ?_
  refine w_iconst (n := 2) (nI 0) dX12_isRow_1 (by decide) rfl ?_
  refine w_al0 (n := 3) dX12_isRow_2 rfl ?_
  refine g_I (n := 6) f_X12_291_12 pl_104 dX12_isRow_3 rfl ?_
  rw [hE.1 _ _ _ eL_0]
  refine w_iconst (n := 7) (nI 1) dX12_isRow_6 (by decide) rfl ?_
  refine w_isub (n := 8) dX12_isRow_7 rfl ?_
  refine w_cS3 (n := 11) s0_X12_in k_X12_61 (Nat.le_of_ble_eq_true rfl) dX12_isRow_8 rfl (r_in (fun t8_h => ?_) (fun t8_h => ?_))
  · skip
    refine w_if_eq (n := 14) 27 dX12_isRow_11 (by decide) rfl (fun h => absurd h (by decide)) (fun _ => ?_)
    refine w_il2 (n := 15) dX12_isRow_14 rfl ?_
    refine w_iconst (n := 16) (nI 0) dX12_isRow_15 (by decide) rfl ?_
    refine w_iconst (n := 17) (nI 2) dX12_isRow_16 (by decide) rfl ?_
    refine w_cS3 (n := 20) s0_X12_in k_X12_61 (Nat.le_of_ble_eq_true rfl) dX12_isRow_17 rfl (r_in (fun t17_h => ?_) (fun t17_h => ?_))
    · skip
      refine w_if_eq (n := 23) 27 dX12_isRow_20 (by decide) rfl (fun h => absurd h (by decide)) (fun _ => ?_)
      refine w_iconst (n := 24) (nI 1) dX12_isRow_23 (by decide) rfl ?_
      refine w_goto 28 dX12_isRow_24 (by decide) ?_
      refine w_retZ1 dX12_isRow_28 rfl ?_
      exact h1_h ⟨t8_h, t17_h⟩
    · skip
      refine w_if_eq (n := 23) 27 dX12_isRow_20 (by decide) rfl (fun _ => ?_) (fun h => absurd (by decide) h)
      refine w_iconst (n := 28) (nI 0) dX12_isRow_27 (by decide) rfl ?_
      refine w_retZ0 dX12_isRow_28 rfl ?_
      exact h0_h (fun z => by first | exact t8_h z.1 | exact t17_h z.2)
  · skip
    refine w_if_eq (n := 14) 27 dX12_isRow_11 (by decide) rfl (fun _ => ?_) (fun h => absurd (by decide) h)
    refine w_iconst (n := 28) (nI 0) dX12_isRow_27 (by decide) rfl ?_
    refine w_retZ0 dX12_isRow_28 rfl ?_
    exact h0_h (fun z => by first | exact t8_h z.1 | exact t17_h z.2)

set_option maxRecDepth 20000 in
theorem R_row {d : Nat} {M : dk_Mem} {Q : Option Value → dk_Mem → Prop} {E : sg_E} (hE : rE E M) (hI : eI E) {k x : Int32} (hq : ∀ M2, rE (ef_row E k x).2 M2 → dk_fe rX M M2 → Q (some (.int (ef_row E k x).1)) M2) : dk_Call (d + 2) mX12_row [.ref 104, .int k, .int x] M Q := by
  refine dk_enter [some (.ref 104), some (.int k), some (.int x)] (by decide) (fun _ => rfl) (fun _ => Nat.le_of_ble_eq_true rfl) ?_
  refine w_al0 (n := 1) dX12_row_0 rfl ?_
  refine w_il1 (n := 2) dX12_row_1 rfl ?_
  refine w_il2 (n := 3) dX12_row_2 rfl ?_
  refine w_cV2 (n := 6) pl_104 cl_12 s0_X12_isRow k_X12_294 (Nat.le_of_ble_eq_true rfl) dX12_row_3 rfl (r_isRow hE hI (fun t3_h => ?_) (fun t3_h => ?_))
  · skip
    refine w_if_eq (n := 9) 22 dX12_row_6 (by decide) rfl (fun h => absurd h (by decide)) (fun _ => ?_)
    have hk := hI.1.in (by decide) t3_h.1.1 t3_h.1.2
    have hx := tN_of (n := 2) (by decide) t3_h.2.1 t3_h.2.2
    have ix : nI 3 * k + x = nI (3 * tN k + tN x) := by
      have e1_h := hk.1
      have e2_h := hx.1
      generalize tN k = a at *
      generalize tN x = b at *
      rw [e1_h, e2_h, pk_mul, nI_add]
    refine w_al0 (n := 10) dX12_row_9 rfl ?_
    refine g_R (n := 13) f_X12_32_12 pl_104 rf_104_21 dX12_row_10 rfl ?_
    refine w_iconst (n := 14) (nI 3) dX12_row_13 (by decide) rfl ?_
    refine w_il1 (n := 15) dX12_row_14 rfl ?_
    refine w_imul (n := 16) dX12_row_15 rfl ?_
    refine w_il2 (n := 17) dX12_row_16 rfl ?_
    refine w_iadd (n := 18) dX12_row_17 rfl ?_
    refine i_iald (n := 19) pl_112 (j := 3 * tN k + tN x) ix (by omega) (by decide) (hE.1 _ _ _ (eL_112 (by omega))) dX12_row_18 rfl ?_
    refine w_goto 24 dX12_row_19 (by decide) ?_
    refine w_retI dX12_row_24 rfl ?_
    exact dk_finE hq (congrArg (fun y => (y, E)) (if_pos t3_h)) hE dk_fe.rf
  · skip
    refine w_if_eq (n := 9) 22 dX12_row_6 (by decide) rfl (fun _ => ?_) (fun h => absurd (by decide) h)
    refine w_bipush (n := 24) (-9) dX12_row_22 (by decide) rfl ?_
    refine w_retI dX12_row_24 rfl ?_
    exact dk_finE hq (congrArg (fun y => (y, E)) (if_neg t3_h)) hE dk_fe.rf

set_option maxRecDepth 20000 in
theorem R_alterRow {d : Nat} {M : dk_Mem} {Q : Option Value → dk_Mem → Prop} {E : sg_E} (hE : rE E M) (hI : eI E) {k x v : Int32} (hq : ∀ M2, rE (ef_alter E k x v).2 M2 → dk_fe rX M M2 → Q (some (.int (ef_alter E k x v).1)) M2) : dk_Call (d + 2) mX12_alterRow [.ref 104, .int k, .int x, .int v] M Q := by
  refine dk_enter [some (.ref 104), some (.int k), some (.int x), some (.int v), none] (by decide) (fun _ => rfl) (fun _ => Nat.le_of_ble_eq_true rfl) ?_
  refine w_al0 (n := 1) dX12_alterRow_0 rfl ?_
  refine w_il1 (n := 2) dX12_alterRow_1 rfl ?_
  refine w_il2 (n := 3) dX12_alterRow_2 rfl ?_
  refine w_cV2 (n := 6) pl_104 cl_12 s0_X12_isRow k_X12_294 (Nat.le_of_ble_eq_true rfl) dX12_alterRow_3 rfl (r_isRow hE hI (fun t3_h => ?_) (fun t3_h => ?_))
  · skip
    refine w_if_ne (n := 9) 12 dX12_alterRow_6 (by decide) rfl (fun _ => ?_) (fun h => absurd h (by decide))
    have hk := hI.1.in (by decide) t3_h.1.1 t3_h.1.2
    have hx := tN_of (n := 2) (by decide) t3_h.2.1 t3_h.2.2
    have ix : nI 3 * k + x = nI (3 * tN k + tN x) := by
      have e1_h := hk.1
      have e2_h := hx.1
      generalize tN k = a at *
      generalize tN x = b at *
      rw [e1_h, e2_h, pk_mul, nI_add]
    refine w_al0 (n := 13) dX12_alterRow_12 rfl ?_
    refine g_R (n := 16) f_X12_32_12 pl_104 rf_104_21 dX12_alterRow_13 rfl ?_
    refine w_iconst (n := 17) (nI 3) dX12_alterRow_16 (by decide) rfl ?_
    refine w_il1 (n := 18) dX12_alterRow_17 rfl ?_
    refine w_imul (n := 19) dX12_alterRow_18 rfl ?_
    refine w_il2 (n := 20) dX12_alterRow_19 rfl ?_
    refine w_iadd (n := 21) dX12_alterRow_20 rfl ?_
    refine i_iald (n := 22) pl_112 (j := 3 * tN k + tN x) ix (by omega) (by decide) (hE.1 _ _ _ (eL_112 (by omega))) dX12_alterRow_21 rfl ?_
    refine w_is4 (n := 24) dX12_alterRow_22 rfl rfl (by decide) ?_
    refine w_al0 (n := 25) dX12_alterRow_24 rfl ?_
    refine g_R (n := 28) f_X12_32_12 pl_104 rf_104_21 dX12_alterRow_25 rfl ?_
    refine w_iconst (n := 29) (nI 3) dX12_alterRow_28 (by decide) rfl ?_
    refine w_il1 (n := 30) dX12_alterRow_29 rfl ?_
    refine w_imul (n := 31) dX12_alterRow_30 rfl ?_
    refine w_il2 (n := 32) dX12_alterRow_31 rfl ?_
    refine w_iadd (n := 33) dX12_alterRow_32 rfl ?_
    refine w_il3 (n := 34) dX12_alterRow_33 rfl ?_
    refine i_iast (n := 35) pl_112 (j := 3 * tN k + tN x) ix (by omega) (by decide) dX12_alterRow_34 rfl ?_
    refine w_il4 (n := 37) dX12_alterRow_35 rfl ?_
    refine w_retI dX12_alterRow_37 rfl ?_
    exact dk_finE hq (if_pos t3_h) (hE.put (eL_112 (by omega))) (dk_fe.rf.put (by unfold rX; omega))
  · skip
    refine w_if_ne (n := 9) 12 dX12_alterRow_6 (by decide) rfl (fun h => absurd h (by decide)) (fun _ => ?_)
    refine w_bipush (n := 11) (-9) dX12_alterRow_9 (by decide) rfl ?_
    refine w_retI dX12_alterRow_11 rfl ?_
    exact dk_finE hq (if_neg t3_h) hE dk_fe.rf

set_option maxRecDepth 20000 in
theorem R_trace {d : Nat} {M : dk_Mem} {Q : Option Value → dk_Mem → Prop} {E : sg_E} (hE : rE E M) (hI : eI E) {i : Int32} (hq : ∀ M2, rE (ef_trace E i).2 M2 → dk_fe rX M M2 → Q (some (.int (ef_trace E i).1)) M2) : dk_Call (d + 1) mX12_trace [.ref 104, .int i] M Q := by
  refine dk_enter [some (.ref 104), some (.int i)] (by decide) (fun _ => rfl) (fun _ => Nat.le_of_ble_eq_true rfl) ?_
  refine w_il1 (n := 1) dX12_trace_0 rfl ?_
  refine w_iconst (n := 2) (nI 0) dX12_trace_1 (by decide) rfl ?_
  refine w_al0 (n := 3) dX12_trace_2 rfl ?_
  refine g_I (n := 6) f_X12_307_12 pl_104 dX12_trace_3 rfl ?_
  rw [hE.1 _ _ _ eL_40]
  refine w_iconst (n := 7) (nI 1) dX12_trace_6 (by decide) rfl ?_
  refine w_isub (n := 8) dX12_trace_7 rfl ?_
  refine w_cS3 (n := 11) s0_X12_in k_X12_61 (Nat.le_of_ble_eq_true rfl) dX12_trace_8 rfl (r_in (fun t8_h => ?_) (fun t8_h => ?_))
  · skip
    refine w_if_eq (n := 14) 23 dX12_trace_11 (by decide) rfl (fun h => absurd h (by decide)) (fun _ => ?_)
    have hi := hI.2.2.1.in (by decide) t8_h.1 t8_h.2
    refine w_al0 (n := 15) dX12_trace_14 rfl ?_
    refine g_R (n := 18) f_X12_54_12 pl_104 rf_104_28 dX12_trace_15 rfl ?_
    refine w_il1 (n := 19) dX12_trace_18 rfl ?_
    refine i_iald (n := 20) pl_119 (j := tN i) hi.1 (by omega) (by decide) (hE.1 _ _ _ (eL_119 (by omega))) dX12_trace_19 rfl ?_
    refine w_goto 25 dX12_trace_20 (by decide) ?_
    refine w_retI dX12_trace_25 rfl ?_
    exact dk_finE hq (congrArg (fun y => (y, E)) (if_pos t8_h)) hE dk_fe.rf
  · skip
    refine w_if_eq (n := 14) 23 dX12_trace_11 (by decide) rfl (fun _ => ?_) (fun h => absurd (by decide) h)
    refine w_bipush (n := 25) (-3) dX12_trace_23 (by decide) rfl ?_
    refine w_retI dX12_trace_25 rfl ?_
    exact dk_finE hq (congrArg (fun y => (y, E)) (if_neg t8_h)) hE dk_fe.rf

set_option maxRecDepth 20000 in
theorem r_bitsL {d : Nat} {M : dk_Mem} {Q : Option Value → dk_Mem → Prop} {s0_h : Int32} : ∀ (n s a : Nat), s < n → s < 64 → Q (some (.int (nI (a + sg_bits s)))) M → dk_W d mX12_bits 4 [some (.int s0_h), some (.int (nI a)), some (.int (nI s))] [] M Q := by
  intro n
  induction n with
  | zero => intro s a h; omega
  | succ n ih =>
    intro s a hn h6_h hq
    refine w_il2 (n := 5) dX12_bits_4 rfl ?_
    refine w_if_eq (n := 8) 20 dX12_bits_5 (by decide) rfl (fun z5_h => ?_) (fun z5_h => ?_)
    · skip
      refine w_il1 (n := 21) dX12_bits_20 rfl ?_
      refine w_retI dX12_bits_21 rfl ?_
      have e : s = 0 := (q_nz (by omega)).mp z5_h
      subst e
      exact hq
    · skip
      have g := q_and s h6_h (fun z => z5_h (by rw [z]; decide))
      refine w_inc1 (n := 11) (nI 1) dX12_bits_8 (by decide) rfl rfl (by decide) ?_
      refine w_il2 (n := 12) dX12_bits_11 rfl ?_
      refine w_il2 (n := 13) dX12_bits_12 rfl ?_
      refine w_iconst (n := 14) (nI 1) dX12_bits_13 (by decide) rfl ?_
      refine w_isub (n := 15) dX12_bits_14 rfl ?_
      refine w_iand (n := 16) dX12_bits_15 rfl ?_
      rw [g.1]
      refine w_is2 (n := 17) dX12_bits_16 rfl rfl (by decide) ?_
      refine w_goto 4 dX12_bits_17 (by decide) ?_
      rw [nI_add]
      exact ih _ _ (by omega) (by omega) (by rw [g.2.2, Nat.add_comm (sg_bits _) 1, ← Nat.add_assoc] at hq; exact hq)

set_option maxRecDepth 20000 in
theorem r_bits {d : Nat} {M : dk_Mem} {Q : Option Value → dk_Mem → Prop} {s : Nat} (hs : s < 64) (hq : Q (some (.int (nI (sg_bits s)))) M) : dk_Call d mX12_bits [.int (nI s)] M Q := by
  refine dk_enter [some (.int (nI s)), none, none] (by decide) (fun _ => rfl) (fun _ => Nat.le_of_ble_eq_true rfl) ?_
  refine w_iconst (n := 1) (nI 0) dX12_bits_0 (by decide) rfl ?_
  refine w_is1 (n := 2) dX12_bits_1 rfl rfl (by decide) ?_
  refine w_il0 (n := 3) dX12_bits_2 rfl ?_
  refine w_is2 (n := 4) dX12_bits_3 rfl rfl (by decide) ?_
  exact r_bitsL 64 s 0 hs hs (by rw [Nat.zero_add]; exact hq)

set_option maxRecDepth 20000 in
theorem R_many {d : Nat} {M : dk_Mem} {Q : Option Value → dk_Mem → Prop} {K : sg_K} (hK : rK K M) {E : sg_E} (hE : rE E M) (hI : eI E) {x : Int32} (hq : ∀ M2, rE (ef_many K E x).2 M2 → dk_fe rX M M2 → Q (some (.int (ef_many K E x).1)) M2) : dk_Call (d + 2) mX12_many [.ref 104, .int x] M Q := by
  have hK0 := hK
  obtain ⟨⟨o, p1_h, p2_h, p3_h⟩, hr, ⟨f, hb, hT⟩, hsc, hz⟩ := hK0
  have o4_h := o.2.2.2.1
  have o16_h := o.2.1
  refine dk_enter [some (.ref 104), some (.int x)] (by decide) (fun _ => rfl) (fun _ => Nat.le_of_ble_eq_true rfl) ?_
  refine w_il1 (n := 1) dX12_many_0 rfl ?_
  by_cases hs1_0 : x = (nI 0)
  · first | subst hs1_0 | rw [hs1_0]
    refine w_tabIn 44 dX12_many_1 (by decide) (by decide) rfl (by decide) ?_
    refine w_al0 (n := 45) dX12_many_44 rfl ?_
    refine g_R (n := 48) f_X12_9_12 pl_104 rf_104_0 dX12_many_45 rfl ?_
    refine w_iconst (n := 49) (nI 4) dX12_many_48 (by decide) rfl ?_
    refine i_iald (n := 50) pl_105 (j := 4) rfl (by decide) (by decide) (hr 4 (by decide) (by decide) (by decide)) dX12_many_49 rfl ?_
    refine w_retI dX12_many_50 rfl ?_
    exact dk_finE hq rfl hE dk_fe.rf
  by_cases hs1_1 : x = (nI 1)
  · first | subst hs1_1 | rw [hs1_1]
    refine w_tabIn 51 dX12_many_1 (by decide) (by decide) rfl (by decide) ?_
    refine w_al0 (n := 52) dX12_many_51 rfl ?_
    refine g_R (n := 55) f_X12_9_12 pl_104 rf_104_0 dX12_many_52 rfl ?_
    refine w_bipush (n := 57) (nI 6) dX12_many_55 (by decide) rfl ?_
    refine i_iald (n := 58) pl_105 (j := 6) rfl (by decide) (by decide) (hr 6 (by decide) (by decide) (by decide)) dX12_many_57 rfl ?_
    refine w_retI dX12_many_58 rfl ?_
    exact dk_finE hq rfl hE dk_fe.rf
  by_cases hs1_2 : x = (nI 2)
  · first | subst hs1_2 | rw [hs1_2]
    refine w_tabIn 59 dX12_many_1 (by decide) (by decide) rfl (by decide) ?_
    refine w_al0 (n := 60) dX12_many_59 rfl ?_
    refine w_cV0 (n := 63) pl_104 cl_12 s0_X12_fallenOnes k_X12_125 (Nat.le_of_ble_eq_true rfl) dX12_many_60 rfl (r_fallenOnes hr o ?_)
    refine w_cS1 (n := 66) s0_X12_bits k_X12_343 (Nat.le_of_ble_eq_true rfl) dX12_many_63 rfl (r_bits (sg_set_64 o) ?_)
    refine w_retI dX12_many_66 rfl ?_
    exact dk_finE hq rfl hE dk_fe.rf
  by_cases hs1_3 : x = (nI 3)
  · first | subst hs1_3 | rw [hs1_3]
    refine w_tabIn 67 dX12_many_1 (by decide) (by decide) rfl (by decide) ?_
    refine w_al0 (n := 68) dX12_many_67 rfl ?_
    refine g_R (n := 71) f_X12_9_12 pl_104 rf_104_0 dX12_many_68 rfl ?_
    refine w_iconst (n := 72) (nI 5) dX12_many_71 (by decide) rfl ?_
    refine i_iald (n := 73) pl_105 (j := 5) rfl (by decide) (by decide) (hr 5 (by decide) (by decide) (by decide)) dX12_many_72 rfl ?_
    refine w_retI dX12_many_73 rfl ?_
    exact dk_finE hq rfl hE dk_fe.rf
  by_cases hs1_4 : x = (nI 4)
  · first | subst hs1_4 | rw [hs1_4]
    refine w_tabIn 74 dX12_many_1 (by decide) (by decide) rfl (by decide) ?_
    refine w_al0 (n := 75) dX12_many_74 rfl ?_
    refine g_I (n := 78) f_X12_291_12 pl_104 dX12_many_75 rfl ?_
    rw [hE.1 _ _ _ eL_0]
    refine w_retI dX12_many_78 rfl ?_
    exact dk_finE hq rfl hE dk_fe.rf
  by_cases hs1_5 : x = (nI 5)
  · first | subst hs1_5 | rw [hs1_5]
    refine w_tabIn 79 dX12_many_1 (by decide) (by decide) rfl (by decide) ?_
    refine w_al0 (n := 80) dX12_many_79 rfl ?_
    refine g_I (n := 83) f_X12_131_12 pl_104 dX12_many_80 rfl ?_
    rw [hE.1 _ _ _ eL_80]
    refine w_retI dX12_many_83 rfl ?_
    exact dk_finE hq rfl hE dk_fe.rf
  by_cases hs1_6 : x = (nI 6)
  · first | subst hs1_6 | rw [hs1_6]
    refine w_tabIn 84 dX12_many_1 (by decide) (by decide) rfl (by decide) ?_
    refine w_al0 (n := 85) dX12_many_84 rfl ?_
    refine g_I (n := 88) f_X12_307_12 pl_104 dX12_many_85 rfl ?_
    rw [hE.1 _ _ _ eL_40]
    refine w_retI dX12_many_88 rfl ?_
    exact dk_finE hq rfl hE dk_fe.rf
  refine w_tabOut 89 dX12_many_1 (dk_out7 hs1_0 hs1_1 hs1_2 hs1_3 hs1_4 hs1_5 hs1_6) (by decide) ?_
  refine w_iconst (n := 90) (-1) dX12_many_89 (by decide) rfl ?_
  refine w_retI dX12_many_90 rfl ?_
  exact dk_finE hq (by unfold ef_many; rw [if_neg hs1_0, if_neg hs1_1, if_neg hs1_2, if_neg hs1_3, if_neg hs1_4, if_neg hs1_5, if_neg hs1_6]) hE dk_fe.rf
