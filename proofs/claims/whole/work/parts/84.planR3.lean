theorem sg_ln2_le {K : sg_K} {m s : Nat} : ∀ (n a : Nat), sg_ln2 K m s n = some a → a ≤ m
  | 0, a, h => by cases h
  | n + 1, a, h => by
    rw [sg_ln2] at h
    split at h
    · have := pl_a_le (b := K.1 4 + 1) (m := m) (P := n) m
      cases h
      exact this
    · exact sg_ln2_le n a h
theorem on3_n {x : Option Nat} (hx : ∀ a, x = some a → a ≤ 4) (h : on3_h x < 0) : x = none := by
  cases x with
  | none => rfl
  | some a =>
    have := hx a rfl
    exact absurd h (Int32.not_lt.mpr (nI_pos' (by omega)))
theorem on3_s {x : Option Nat} (h : ¬ on3_h x < 0) : ∃ a, x = some a := by
  cases x with
  | none => exact absurd (by decide) h
  | some a => exact ⟨a, rfl⟩

set_option maxRecDepth 20000 in
theorem r_liL {d : Nat} {M : dk_Mem} {Q : Option Value → dk_Mem → Prop} {K : sg_K} (hK : rK K M) {m N s : Nat} (hm : m ≤ 4) (hN : N ≤ 2401) (hs : s < 64) (hy : m ≤ K.1 0 - K.1 1) {n0_h : Int32} (hq : ∀ M2, dk_fr rN M M2 → Q (some (.int (on3_h (sg_ln2 K m s N)))) M2) : ∀ (n P : Nat) (x7_h x8_h x9_h : Option Value) (M1 : dk_Mem), P ≤ N → N - P < n → dk_fr rN M M1 → rW (M.1 105) M1 → dk_W (d + 10) mX12_line 53 [some (.ref 104), some (.int n0_h), some (.int (nI s)), some (.int (nI m)), some (.int (nI N)), some (.int (on3_h (sg_ln2 K m s P))), some (.int (nI P)), x7_h, x8_h, x9_h] [] M1 Q := by
  have o := hK.1.1
  have o4_h := o.2.2.2.1
  intro n
  induction n with
  | zero => intro P x7_h x8_h x9_h M1 _ h; omega
  | succ n ih =>
    intro P x7_h x8_h x9_h M1 hP hn hf hW
    have e5_h : ∀ k, M1.1 105 k = M.1 105 k := fun k => hf.2 105 k (by unfold rN; omega)
    have hW1 : rW (M1.1 105) M1 := fun k hk => (hW k hk).trans (e5_h k).symm
    refine w_il6 (n := 55) dX12_line_53 rfl ?_
    refine w_il4 (n := 57) dX12_line_55 rfl ?_
    refine w_ic_ge (n := 60) 128 dX12_line_57 (by decide) rfl (fun z57_h => ?_) (fun z57_h => ?_)
    · skip
      refine w_il5 (n := 130) dX12_line_128 rfl ?_
      refine w_retI dX12_line_130 rfl ?_
      rw [q_le (by omega) (by omega)] at z57_h
      rw [show P = N by omega]
      exact hq M1 hf
    · skip
      have hPN : P < N := by rw [q_le (by omega) (by omega)] at z57_h; omega
      refine w_al0 (n := 61) dX12_line_60 rfl ?_
      refine w_il6 (n := 63) dX12_line_61 rfl ?_
      refine w_il3 (n := 64) dX12_line_63 rfl ?_
      refine w_cV2 (n := 67) pl_104 cl_12 s0_X12_worthOf k_X12_259 (Nat.le_of_ble_eq_true rfl) dX12_line_64 rfl (r_worthOf (hK.N hf) (P := P) hm (by omega) hy hW1 (fun M2 w1_h w2_h w3_h w4_h => ?_))
      have f2_h := hf.tr w1_h
      have hW2 : rW (M.1 105) M2 := fun k hk => (w2_h k hk).trans (e5_h k)
      have e14_h : M2.1 104 14 = nI (sg_e K m P) := w4_h
      have el := sg_e_64 (P := P) o hy
      have nd := (q_nand s hs _ el).2.2
      have al := pl_a_le (b := K.1 4 + 1) (m := m) (P := P) m
      have xl : ∀ a, sg_ln2 K m s P = some a → a ≤ 4 := fun a e => Nat.le_trans (sg_ln2_le P a e) hm
      refine w_is7 (n := 69) dX12_line_67 rfl rfl (by decide) ?_
      refine w_al0 (n := 70) dX12_line_69 rfl ?_
      refine w_il6 (n := 72) dX12_line_70 rfl ?_
      refine w_il3 (n := 73) dX12_line_72 rfl ?_
      refine w_cV2 (n := 76) pl_104 cl_12 s0_X12_actsIn k_X12_271 (Nat.le_of_ble_eq_true rfl) dX12_line_73 rfl (r_actsIn (hK.N (hf.tr w1_h)).2.1 o4_h (by omega) hm ?_)
      refine w_is8 (n := 78) dX12_line_76 rfl rfl (by decide) ?_
      refine w_il2 (n := 79) dX12_line_78 rfl ?_
      refine w_al0 (n := 80) dX12_line_79 rfl ?_
      refine g_I (n := 83) f_X12_250_12 pl_104 dX12_line_80 rfl ?_
      rw [e14_h]
      refine w_iconst (n := 84) (-1) dX12_line_83 (by decide) rfl ?_
      refine w_ixor (n := 85) dX12_line_84 rfl ?_
      refine w_iand (n := 86) dX12_line_85 rfl ?_
      refine w_if_ne (n := 89) 105 dX12_line_86 (by decide) rfl (fun z86_h => ?_) (fun z86_h => ?_)
      · skip
        refine w_iconst (n := 106) (nI 0) dX12_line_105 (by decide) rfl ?_
        refine w_is9 (n := 108) dX12_line_106 rfl rfl (by decide) ?_
        refine w_il9 (n := 110) dX12_line_108 rfl ?_
        refine w_if_eq (n := 113) 118 dX12_line_110 (by decide) rfl (fun _ => ?_) (fun h => absurd (by decide) h)
        refine w_il5 (n := 120) dX12_line_118 rfl ?_
        refine w_is5 (n := 122) dX12_line_120 rfl rfl (by decide) ?_
        refine w_inc6 (n := 125) (nI 1) dX12_line_122 (by decide) rfl rfl (by decide) ?_
        refine w_goto 53 dX12_line_125 (by decide) ?_
        rw [nI_add]
        have g := fun x7_h x8_h x9_h => ih (P + 1) x7_h x8_h x9_h M2 (by omega) (by omega) f2_h hW2
        first | (have e : sg_ln2 K m s (P + 1) = sg_ln2 K m s P := if_neg (fun z => z86_h (nd.mpr z.1)); rw [e] at g; exact g _ _ _) | (have y1_h := nd.mp z86_h; have y2_h := on3_n xl z91_h; have e : sg_ln2 K m s (P + 1) = some (pl_a (K.1 4 + 1) m P m) := if_pos ⟨y1_h, Or.inl y2_h⟩; rw [e] at g; exact g _ _ _) | (obtain ⟨a, ha⟩ := on3_s z91_h; have la := xl a ha; rw [ha] at z98_h; have z9_h : ¬ nI a ≤ nI (pl_a (K.1 4 + 1) m P m) := z98_h; rw [q_le (by omega) (by omega)] at z9_h; have e : sg_ln2 K m s (P + 1) = some (pl_a (K.1 4 + 1) m P m) := if_pos ⟨nd.mp z86_h, Or.inr (by rw [ha]; show _ < a; omega)⟩; rw [e] at g; exact g _ _ _) | (obtain ⟨a, ha⟩ := on3_s z91_h; have la := xl a ha; rw [ha] at z98_h; have z9_h : nI a ≤ nI (pl_a (K.1 4 + 1) m P m) := z98_h; rw [q_le (by omega) (by omega)] at z9_h; have e : sg_ln2 K m s (P + 1) = sg_ln2 K m s P := if_neg (fun z => by rw [ha] at z; rcases z.2 with y | y; cases y; (have y2_h : pl_a (K.1 4 + 1) m P m < a := y; omega)); rw [e] at g; exact g _ _ _)
      · skip
        refine w_il5 (n := 91) dX12_line_89 rfl ?_
        refine w_if_lt (n := 94) 101 dX12_line_91 (by decide) rfl (fun z91_h => ?_) (fun z91_h => ?_)
        · skip
          refine w_iconst (n := 102) (nI 1) dX12_line_101 (by decide) rfl ?_
          refine w_goto 106 dX12_line_102 (by decide) ?_
          refine w_is9 (n := 108) dX12_line_106 rfl rfl (by decide) ?_
          refine w_il9 (n := 110) dX12_line_108 rfl ?_
          refine w_if_eq (n := 113) 118 dX12_line_110 (by decide) rfl (fun h => absurd h (by decide)) (fun _ => ?_)
          refine w_il8 (n := 115) dX12_line_113 rfl ?_
          refine w_goto 120 dX12_line_115 (by decide) ?_
          refine w_is5 (n := 122) dX12_line_120 rfl rfl (by decide) ?_
          refine w_inc6 (n := 125) (nI 1) dX12_line_122 (by decide) rfl rfl (by decide) ?_
          refine w_goto 53 dX12_line_125 (by decide) ?_
          rw [nI_add]
          have g := fun x7_h x8_h x9_h => ih (P + 1) x7_h x8_h x9_h M2 (by omega) (by omega) f2_h hW2
          first | (have e : sg_ln2 K m s (P + 1) = sg_ln2 K m s P := if_neg (fun z => z86_h (nd.mpr z.1)); rw [e] at g; exact g _ _ _) | (have y1_h := nd.mp z86_h; have y2_h := on3_n xl z91_h; have e : sg_ln2 K m s (P + 1) = some (pl_a (K.1 4 + 1) m P m) := if_pos ⟨y1_h, Or.inl y2_h⟩; rw [e] at g; exact g _ _ _) | (obtain ⟨a, ha⟩ := on3_s z91_h; have la := xl a ha; rw [ha] at z98_h; have z9_h : ¬ nI a ≤ nI (pl_a (K.1 4 + 1) m P m) := z98_h; rw [q_le (by omega) (by omega)] at z9_h; have e : sg_ln2 K m s (P + 1) = some (pl_a (K.1 4 + 1) m P m) := if_pos ⟨nd.mp z86_h, Or.inr (by rw [ha]; show _ < a; omega)⟩; rw [e] at g; exact g _ _ _) | (obtain ⟨a, ha⟩ := on3_s z91_h; have la := xl a ha; rw [ha] at z98_h; have z9_h : nI a ≤ nI (pl_a (K.1 4 + 1) m P m) := z98_h; rw [q_le (by omega) (by omega)] at z9_h; have e : sg_ln2 K m s (P + 1) = sg_ln2 K m s P := if_neg (fun z => by rw [ha] at z; rcases z.2 with y | y; cases y; (have y2_h : pl_a (K.1 4 + 1) m P m < a := y; omega)); rw [e] at g; exact g _ _ _)
        · skip
          refine w_il8 (n := 96) dX12_line_94 rfl ?_
          refine w_il5 (n := 98) dX12_line_96 rfl ?_
          refine w_ic_ge (n := 101) 105 dX12_line_98 (by decide) rfl (fun z98_h => ?_) (fun z98_h => ?_)
          · skip
            refine w_iconst (n := 106) (nI 0) dX12_line_105 (by decide) rfl ?_
            refine w_is9 (n := 108) dX12_line_106 rfl rfl (by decide) ?_
            refine w_il9 (n := 110) dX12_line_108 rfl ?_
            refine w_if_eq (n := 113) 118 dX12_line_110 (by decide) rfl (fun _ => ?_) (fun h => absurd (by decide) h)
            refine w_il5 (n := 120) dX12_line_118 rfl ?_
            refine w_is5 (n := 122) dX12_line_120 rfl rfl (by decide) ?_
            refine w_inc6 (n := 125) (nI 1) dX12_line_122 (by decide) rfl rfl (by decide) ?_
            refine w_goto 53 dX12_line_125 (by decide) ?_
            rw [nI_add]
            have g := fun x7_h x8_h x9_h => ih (P + 1) x7_h x8_h x9_h M2 (by omega) (by omega) f2_h hW2
            first | (have e : sg_ln2 K m s (P + 1) = sg_ln2 K m s P := if_neg (fun z => z86_h (nd.mpr z.1)); rw [e] at g; exact g _ _ _) | (have y1_h := nd.mp z86_h; have y2_h := on3_n xl z91_h; have e : sg_ln2 K m s (P + 1) = some (pl_a (K.1 4 + 1) m P m) := if_pos ⟨y1_h, Or.inl y2_h⟩; rw [e] at g; exact g _ _ _) | (obtain ⟨a, ha⟩ := on3_s z91_h; have la := xl a ha; rw [ha] at z98_h; have z9_h : ¬ nI a ≤ nI (pl_a (K.1 4 + 1) m P m) := z98_h; rw [q_le (by omega) (by omega)] at z9_h; have e : sg_ln2 K m s (P + 1) = some (pl_a (K.1 4 + 1) m P m) := if_pos ⟨nd.mp z86_h, Or.inr (by rw [ha]; show _ < a; omega)⟩; rw [e] at g; exact g _ _ _) | (obtain ⟨a, ha⟩ := on3_s z91_h; have la := xl a ha; rw [ha] at z98_h; have z9_h : nI a ≤ nI (pl_a (K.1 4 + 1) m P m) := z98_h; rw [q_le (by omega) (by omega)] at z9_h; have e : sg_ln2 K m s (P + 1) = sg_ln2 K m s P := if_neg (fun z => by rw [ha] at z; rcases z.2 with y | y; cases y; (have y2_h : pl_a (K.1 4 + 1) m P m < a := y; omega)); rw [e] at g; exact g _ _ _)
          · skip
            refine w_iconst (n := 102) (nI 1) dX12_line_101 (by decide) rfl ?_
            refine w_goto 106 dX12_line_102 (by decide) ?_
            refine w_is9 (n := 108) dX12_line_106 rfl rfl (by decide) ?_
            refine w_il9 (n := 110) dX12_line_108 rfl ?_
            refine w_if_eq (n := 113) 118 dX12_line_110 (by decide) rfl (fun h => absurd h (by decide)) (fun _ => ?_)
            refine w_il8 (n := 115) dX12_line_113 rfl ?_
            refine w_goto 120 dX12_line_115 (by decide) ?_
            refine w_is5 (n := 122) dX12_line_120 rfl rfl (by decide) ?_
            refine w_inc6 (n := 125) (nI 1) dX12_line_122 (by decide) rfl rfl (by decide) ?_
            refine w_goto 53 dX12_line_125 (by decide) ?_
            rw [nI_add]
            have g := fun x7_h x8_h x9_h => ih (P + 1) x7_h x8_h x9_h M2 (by omega) (by omega) f2_h hW2
            first | (have e : sg_ln2 K m s (P + 1) = sg_ln2 K m s P := if_neg (fun z => z86_h (nd.mpr z.1)); rw [e] at g; exact g _ _ _) | (have y1_h := nd.mp z86_h; have y2_h := on3_n xl z91_h; have e : sg_ln2 K m s (P + 1) = some (pl_a (K.1 4 + 1) m P m) := if_pos ⟨y1_h, Or.inl y2_h⟩; rw [e] at g; exact g _ _ _) | (obtain ⟨a, ha⟩ := on3_s z91_h; have la := xl a ha; rw [ha] at z98_h; have z9_h : ¬ nI a ≤ nI (pl_a (K.1 4 + 1) m P m) := z98_h; rw [q_le (by omega) (by omega)] at z9_h; have e : sg_ln2 K m s (P + 1) = some (pl_a (K.1 4 + 1) m P m) := if_pos ⟨nd.mp z86_h, Or.inr (by rw [ha]; show _ < a; omega)⟩; rw [e] at g; exact g _ _ _) | (obtain ⟨a, ha⟩ := on3_s z91_h; have la := xl a ha; rw [ha] at z98_h; have z9_h : nI a ≤ nI (pl_a (K.1 4 + 1) m P m) := z98_h; rw [q_le (by omega) (by omega)] at z9_h; have e : sg_ln2 K m s (P + 1) = sg_ln2 K m s P := if_neg (fun z => by rw [ha] at z; rcases z.2 with y | y; cases y; (have y2_h : pl_a (K.1 4 + 1) m P m < a := y; omega)); rw [e] at g; exact g _ _ _)

set_option maxRecDepth 20000 in
theorem R_line {d : Nat} {M : dk_Mem} {Q : Option Value → dk_Mem → Prop} {K : sg_K} (hK : rK K M) {n s : Int32} (hq : ∀ M2, dk_fr rN M M2 → Q (some (.int (kf_line K n s))) M2) : dk_Call (d + 11) mX12_line [.ref 104, .int n, .int s] M Q := by
  have hK0 := hK
  obtain ⟨⟨o, p1_h, p2_h, p3_h⟩, hr, ⟨f, hb, hT⟩, hsc, hz⟩ := hK0
  have o4_h := o.2.2.2.1
  have o16_h := o.2.1
  refine dk_enter [some (.ref 104), some (.int n), some (.int s), none, none, none, none, none, none, none] (by decide) (fun _ => rfl) (fun _ => Nat.le_of_ble_eq_true rfl) ?_
  refine w_il1 (n := 1) dX12_line_0 rfl ?_
  refine w_iconst (n := 2) (nI 0) dX12_line_1 (by decide) rfl ?_
  refine w_iconst (n := 3) (nI 4) dX12_line_2 (by decide) rfl ?_
  refine w_cS3 (n := 6) s0_X12_in k_X12_61 (Nat.le_of_ble_eq_true rfl) dX12_line_3 rfl (r_in (fun t3_h => ?_) (fun t3_h => ?_))
  · skip
    refine w_if_eq (n := 9) 27 dX12_line_6 (by decide) rfl (fun h => absurd h (by decide)) (fun _ => ?_)
    refine w_il2 (n := 10) dX12_line_9 rfl ?_
    refine w_iconst (n := 11) (nI 0) dX12_line_10 (by decide) rfl ?_
    refine w_iconst (n := 12) (nI 1) dX12_line_11 (by decide) rfl ?_
    refine w_al0 (n := 13) dX12_line_12 rfl ?_
    refine g_R (n := 16) f_X12_9_12 pl_104 rf_104_0 dX12_line_13 rfl ?_
    refine w_iconst (n := 17) (nI 4) dX12_line_16 (by decide) rfl ?_
    refine i_iald (n := 18) pl_105 (j := 4) rfl (by decide) (by decide) (hr 4 (by decide) (by decide) (by decide)) dX12_line_17 rfl ?_
    refine w_ishl (n := 19) dX12_line_18 rfl ?_
    refine w_iconst (n := 20) (nI 1) dX12_line_19 (by decide) rfl ?_
    refine w_isub (n := 21) dX12_line_20 rfl ?_
    rw [q_pw1 _ (by omega)]
    refine w_cS3 (n := 24) s0_X12_in k_X12_61 (Nat.le_of_ble_eq_true rfl) dX12_line_21 rfl (r_in (fun t21_h => ?_) (fun t21_h => ?_))
    · skip
      refine w_if_ne (n := 27) 29 dX12_line_24 (by decide) rfl (fun _ => ?_) (fun h => absurd h (by decide))
      have hn := tN_of (n := 4) (by decide) t3_h.1 t3_h.2
      have hs := tN_of (n := 2 ^ K.1 4 - 1) (by have := pow6 o4_h; omega) t21_h.1 t21_h.2
      have pw := pow6 o4_h
      have yl := sg_ys_le (σ := K.1) (n := tN n)
      have np := sg_np_le (σ := K.1) o4_h hn.2
      rw [show kf_line K n s = on3_h (sg_ln2 K (sg_ys K.1 (tN n)) (tN s) (sg_np K.1 (tN n))) from if_pos ⟨t3_h, t21_h⟩] at hq
      have e1_h := hn.1
      have e2_h := hs.1
      have l1_h := hn.2
      have l2_h := hs.2
      clear hn hs
      generalize tN n = n9_h at *
      generalize tN s = s9_h at *
      subst e1_h e2_h
      refine w_al0 (n := 30) dX12_line_29 rfl ?_
      refine w_il1 (n := 31) dX12_line_30 rfl ?_
      refine w_cV1 (n := 34) pl_104 cl_12 s0_X12_yearsOf k_X12_244 (Nat.le_of_ble_eq_true rfl) dX12_line_31 rfl (r_yearsOf hr hK.1 l1_h ?_)
      refine w_is3 (n := 35) dX12_line_34 rfl rfl (by decide) ?_
      refine w_al0 (n := 36) dX12_line_35 rfl ?_
      refine w_il1 (n := 37) dX12_line_36 rfl ?_
      refine w_cV1 (n := 40) pl_104 cl_12 s0_X12_plansOf k_X12_253 (Nat.le_of_ble_eq_true rfl) dX12_line_37 rfl (r_plansOf hr hK.1 l1_h ?_)
      refine w_is4 (n := 42) dX12_line_40 rfl rfl (by decide) ?_
      refine w_al0 (n := 43) dX12_line_42 rfl ?_
      refine w_cV0 (n := 46) pl_104 cl_12 s0_X12_thinks k_X12_196 (Nat.le_of_ble_eq_true rfl) dX12_line_43 rfl (r_thinks ?_)
      refine w_bipush (n := 48) (-3) dX12_line_46 (by decide) rfl ?_
      refine w_is5 (n := 50) dX12_line_48 rfl rfl (by decide) ?_
      refine w_iconst (n := 51) (nI 0) dX12_line_50 (by decide) rfl ?_
      refine w_is6 (n := 53) dX12_line_51 rfl rfl (by decide) ?_
      have hf1_h := rN_thinks (M := M)
      exact r_liL hK (by omega) np.2 (by omega) yl.2 hq (sg_np K.1 n9_h + 1) 0 _ _ _ _ (by omega) (by omega) hf1_h (fun k hk => by rw [dk_row_at]; exact if_pos hk)
    · skip
      refine w_if_ne (n := 27) 29 dX12_line_24 (by decide) rfl (fun h => absurd h (by decide)) (fun _ => ?_)
      refine w_iconst (n := 28) (-1) dX12_line_27 (by decide) rfl ?_
      refine w_retI dX12_line_28 rfl ?_
      rw [show kf_line K n s = -1 from if_neg (fun z => by first | exact t3_h z.1 | exact t21_h z.2)] at hq
      exact hq M dk_fr.rf
  · skip
    refine w_if_eq (n := 9) 27 dX12_line_6 (by decide) rfl (fun _ => ?_) (fun h => absurd (by decide) h)
    refine w_iconst (n := 28) (-1) dX12_line_27 (by decide) rfl ?_
    refine w_retI dX12_line_28 rfl ?_
    rw [show kf_line K n s = -1 from if_neg (fun z => by first | exact t3_h z.1 | exact t21_h z.2)] at hq
    exact hq M dk_fr.rf

set_option maxRecDepth 20000 in
theorem r_baX {d : Nat} {M1 : dk_Mem} {Q : Option Value → dk_Mem → Prop} {s : Nat} (hs : s < 64) {n0_h p0_h m0_h N0 a0_h : Int32} (hq : Q (some (.int (sg_lo s))) M1) : ∀ (n k : Nat), k ≤ 6 → 6 - k < n → (∀ j, j < k → s.testBit j = false) → dk_W d mX12_bars 94 [some (.ref 104), some (.int n0_h), some (.int p0_h), some (.int m0_h), some (.int N0), some (.int a0_h), some (.int (nI s)), some (.int (nI k))] [] M1 Q := by
  intro n
  induction n with
  | zero => intro k _ h; omega
  | succ n ih =>
    intro k hk hn ha
    refine w_il7 (n := 96) dX12_bars_94 rfl ?_
    refine w_bipush (n := 98) (nI 6) dX12_bars_96 (by decide) rfl ?_
    refine w_ic_ge (n := 101) 121 dX12_bars_98 (by decide) rfl (fun z98_h => ?_) (fun z98_h => ?_)
    · skip
      refine w_bipush (n := 123) (-3) dX12_bars_121 (by decide) rfl ?_
      refine w_retI dX12_bars_123 rfl ?_
      rw [q_le (by decide) (by omega)] at z98_h
      rw [sg_lo_n s hs (fun j hj => ha j (by omega))] at hq
      exact hq
    · skip
      have hk6_h : k < 6 := by rw [q_le (by decide) (by omega)] at z98_h; omega
      refine w_il6 (n := 103) dX12_bars_101 rfl ?_
      refine w_il7 (n := 105) dX12_bars_103 rfl ?_
      refine w_ishr (n := 106) dX12_bars_105 rfl ?_
      refine w_iconst (n := 107) (nI 1) dX12_bars_106 (by decide) rfl ?_
      refine w_iand (n := 108) dX12_bars_107 rfl ?_
      refine w_iconst (n := 109) (nI 1) dX12_bars_108 (by decide) rfl ?_
      rw [q_bit s hs k hk6_h]
      refine w_ic_ne (n := 112) 115 dX12_bars_109 (by decide) rfl (fun z109_h => ?_) (fun z109_h => ?_)
      · skip
        refine w_inc7 (n := 118) (nI 1) dX12_bars_115 (by decide) rfl rfl (by decide) ?_
        refine w_goto 94 dX12_bars_118 (by decide) ?_
        rw [nI_add]
        exact ih (k + 1) (by omega) (by omega) (fun j hj => by rcases (show j < k ∨ j = k by omega) with e | e; exact ha j e; (rw [e]; exact tb_0 z109_h))
      · skip
        refine w_il7 (n := 114) dX12_bars_112 rfl ?_
        refine w_retI dX12_bars_114 rfl ?_
        rw [sg_lo_k s hs k hk6_h (tb_1 z109_h) ha] at hq
        exact hq

set_option maxRecDepth 20000 in
theorem r_baL {d : Nat} {M : dk_Mem} {Q : Option Value → dk_Mem → Prop} {K : sg_K} (hK : rK K M) {m N s : Nat} (hm : m ≤ 4) (hN : N ≤ 2401) (hs : s < 64) (hy : m ≤ K.1 0 - K.1 1) {n0_h : Int32} (hq : ∀ M2, dk_fr rN M M2 → Q (some (.int (sg_lo (s &&& (63 ^^^ sg_rc K m N))))) M2) : ∀ (n P : Nat) (x7_h : Option Value) (M1 : dk_Mem), P ≤ N → N - P < n → dk_fr rN M M1 → rW (M.1 105) M1 → dk_W (d + 10) mX12_bars 52 [some (.ref 104), some (.int n0_h), some (.int (nI s)), some (.int (nI m)), some (.int (nI N)), some (.int (nI (sg_rc K m P))), some (.int (nI P)), x7_h] [] M1 Q := by
  have o := hK.1.1
  have o4_h := o.2.2.2.1
  intro n
  induction n with
  | zero => intro P x7_h M1 _ h; omega
  | succ n ih =>
    intro P x7_h M1 hP hn hf hW
    have e5_h : ∀ k, M1.1 105 k = M.1 105 k := fun k => hf.2 105 k (by unfold rN; omega)
    have hW1 : rW (M1.1 105) M1 := fun k hk => (hW k hk).trans (e5_h k).symm
    refine w_il6 (n := 54) dX12_bars_52 rfl ?_
    refine w_il4 (n := 56) dX12_bars_54 rfl ?_
    refine w_ic_ge (n := 59) 83 dX12_bars_56 (by decide) rfl (fun z56_h => ?_) (fun z56_h => ?_)
    · skip
      refine w_il2 (n := 84) dX12_bars_83 rfl ?_
      refine w_il5 (n := 86) dX12_bars_84 rfl ?_
      refine w_iconst (n := 87) (-1) dX12_bars_86 (by decide) rfl ?_
      refine w_ixor (n := 88) dX12_bars_87 rfl ?_
      refine w_iand (n := 89) dX12_bars_88 rfl ?_
      refine w_is6 (n := 91) dX12_bars_89 rfl rfl (by decide) ?_
      refine w_iconst (n := 92) (nI 0) dX12_bars_91 (by decide) rfl ?_
      refine w_is7 (n := 94) dX12_bars_92 rfl rfl (by decide) ?_
      rw [q_le (by omega) (by omega)] at z56_h
      have e : P = N := by omega
      subst e
      have nd := q_nand s hs _ (sg_rc_64 (m := m) o hy P)
      rw [nd.1]
      exact r_baX nd.2.1 (hq M1 hf) 7 0 (by omega) (by omega) (fun j hj => by omega)
    · skip
      have hPN : P < N := by rw [q_le (by omega) (by omega)] at z56_h; omega
      refine w_al0 (n := 60) dX12_bars_59 rfl ?_
      refine w_il6 (n := 62) dX12_bars_60 rfl ?_
      refine w_il3 (n := 63) dX12_bars_62 rfl ?_
      refine w_cV2 (n := 66) pl_104 cl_12 s0_X12_worthOf k_X12_259 (Nat.le_of_ble_eq_true rfl) dX12_bars_63 rfl (r_worthOf (hK.N hf) (P := P) hm (by omega) hy hW1 (fun M2 w1_h w2_h w3_h w4_h => ?_))
      have e14_h : M2.1 104 14 = nI (sg_e K m P) := w4_h
      have el := sg_e_64 (P := P) o hy
      have orr := q_orr _ (sg_rc_64 (m := m) o hy P) _ el
      refine w_is7 (n := 68) dX12_bars_66 rfl rfl (by decide) ?_
      refine w_il5 (n := 70) dX12_bars_68 rfl ?_
      refine w_al0 (n := 71) dX12_bars_70 rfl ?_
      refine g_I (n := 74) f_X12_250_12 pl_104 dX12_bars_71 rfl ?_
      rw [e14_h]
      refine w_ior (n := 75) dX12_bars_74 rfl ?_
      rw [orr.1]
      refine w_is5 (n := 77) dX12_bars_75 rfl rfl (by decide) ?_
      refine w_inc6 (n := 80) (nI 1) dX12_bars_77 (by decide) rfl rfl (by decide) ?_
      refine w_goto 52 dX12_bars_80 (by decide) ?_
      rw [nI_add]
      exact ih (P + 1) _ M2 (by omega) (by omega) (hf.tr w1_h) (fun k hk => (w2_h k hk).trans (e5_h k))

set_option maxRecDepth 20000 in
theorem R_bars {d : Nat} {M : dk_Mem} {Q : Option Value → dk_Mem → Prop} {K : sg_K} (hK : rK K M) {n s : Int32} (hq : ∀ M2, dk_fr rN M M2 → Q (some (.int (kf_bars K n s))) M2) : dk_Call (d + 11) mX12_bars [.ref 104, .int n, .int s] M Q := by
  have hK0 := hK
  obtain ⟨⟨o, p1_h, p2_h, p3_h⟩, hr, ⟨f, hb, hT⟩, hsc, hz⟩ := hK0
  have o4_h := o.2.2.2.1
  have o16_h := o.2.1
  refine dk_enter [some (.ref 104), some (.int n), some (.int s), none, none, none, none, none] (by decide) (fun _ => rfl) (fun _ => Nat.le_of_ble_eq_true rfl) ?_
  refine w_il1 (n := 1) dX12_bars_0 rfl ?_
  refine w_iconst (n := 2) (nI 0) dX12_bars_1 (by decide) rfl ?_
  refine w_iconst (n := 3) (nI 4) dX12_bars_2 (by decide) rfl ?_
  refine w_cS3 (n := 6) s0_X12_in k_X12_61 (Nat.le_of_ble_eq_true rfl) dX12_bars_3 rfl (r_in (fun t3_h => ?_) (fun t3_h => ?_))
  · skip
    refine w_if_eq (n := 9) 27 dX12_bars_6 (by decide) rfl (fun h => absurd h (by decide)) (fun _ => ?_)
    refine w_il2 (n := 10) dX12_bars_9 rfl ?_
    refine w_iconst (n := 11) (nI 0) dX12_bars_10 (by decide) rfl ?_
    refine w_iconst (n := 12) (nI 1) dX12_bars_11 (by decide) rfl ?_
    refine w_al0 (n := 13) dX12_bars_12 rfl ?_
    refine g_R (n := 16) f_X12_9_12 pl_104 rf_104_0 dX12_bars_13 rfl ?_
    refine w_iconst (n := 17) (nI 4) dX12_bars_16 (by decide) rfl ?_
    refine i_iald (n := 18) pl_105 (j := 4) rfl (by decide) (by decide) (hr 4 (by decide) (by decide) (by decide)) dX12_bars_17 rfl ?_
    refine w_ishl (n := 19) dX12_bars_18 rfl ?_
    refine w_iconst (n := 20) (nI 1) dX12_bars_19 (by decide) rfl ?_
    refine w_isub (n := 21) dX12_bars_20 rfl ?_
    rw [q_pw1 _ (by omega)]
    refine w_cS3 (n := 24) s0_X12_in k_X12_61 (Nat.le_of_ble_eq_true rfl) dX12_bars_21 rfl (r_in (fun t21_h => ?_) (fun t21_h => ?_))
    · skip
      refine w_if_ne (n := 27) 29 dX12_bars_24 (by decide) rfl (fun _ => ?_) (fun h => absurd h (by decide))
      have hn := tN_of (n := 4) (by decide) t3_h.1 t3_h.2
      have hs := tN_of (n := 2 ^ K.1 4 - 1) (by have := pow6 o4_h; omega) t21_h.1 t21_h.2
      have pw := pow6 o4_h
      have yl := sg_ys_le (σ := K.1) (n := tN n)
      have np := sg_np_le (σ := K.1) o4_h hn.2
      rw [show kf_bars K n s = sg_lo (tN s &&& (63 ^^^ sg_rc K (sg_ys K.1 (tN n)) (sg_np K.1 (tN n)))) from if_pos ⟨t3_h, t21_h⟩] at hq
      have e1_h := hn.1
      have e2_h := hs.1
      have l1_h := hn.2
      have l2_h := hs.2
      clear hn hs
      generalize tN n = n9_h at *
      generalize tN s = s9_h at *
      subst e1_h e2_h
      refine w_al0 (n := 30) dX12_bars_29 rfl ?_
      refine w_il1 (n := 31) dX12_bars_30 rfl ?_
      refine w_cV1 (n := 34) pl_104 cl_12 s0_X12_yearsOf k_X12_244 (Nat.le_of_ble_eq_true rfl) dX12_bars_31 rfl (r_yearsOf hr hK.1 l1_h ?_)
      refine w_is3 (n := 35) dX12_bars_34 rfl rfl (by decide) ?_
      refine w_al0 (n := 36) dX12_bars_35 rfl ?_
      refine w_il1 (n := 37) dX12_bars_36 rfl ?_
      refine w_cV1 (n := 40) pl_104 cl_12 s0_X12_plansOf k_X12_253 (Nat.le_of_ble_eq_true rfl) dX12_bars_37 rfl (r_plansOf hr hK.1 l1_h ?_)
      refine w_is4 (n := 42) dX12_bars_40 rfl rfl (by decide) ?_
      refine w_al0 (n := 43) dX12_bars_42 rfl ?_
      refine w_cV0 (n := 46) pl_104 cl_12 s0_X12_thinks k_X12_196 (Nat.le_of_ble_eq_true rfl) dX12_bars_43 rfl (r_thinks ?_)
      refine w_iconst (n := 47) (nI 0) dX12_bars_46 (by decide) rfl ?_
      refine w_is5 (n := 49) dX12_bars_47 rfl rfl (by decide) ?_
      refine w_iconst (n := 50) (nI 0) dX12_bars_49 (by decide) rfl ?_
      refine w_is6 (n := 52) dX12_bars_50 rfl rfl (by decide) ?_
      have hf1_h := rN_thinks (M := M)
      exact r_baL hK (by omega) np.2 (by omega) yl.2 hq (sg_np K.1 n9_h + 1) 0 _ _ (by omega) (by omega) hf1_h (fun k hk => by rw [dk_row_at]; exact if_pos hk)
    · skip
      refine w_if_ne (n := 27) 29 dX12_bars_24 (by decide) rfl (fun h => absurd h (by decide)) (fun _ => ?_)
      refine w_iconst (n := 28) (-1) dX12_bars_27 (by decide) rfl ?_
      refine w_retI dX12_bars_28 rfl ?_
      rw [show kf_bars K n s = -1 from if_neg (fun z => by first | exact t3_h z.1 | exact t21_h z.2)] at hq
      exact hq M dk_fr.rf
  · skip
    refine w_if_eq (n := 9) 27 dX12_bars_6 (by decide) rfl (fun _ => ?_) (fun h => absurd (by decide) h)
    refine w_iconst (n := 28) (-1) dX12_bars_27 (by decide) rfl ?_
    refine w_retI dX12_bars_28 rfl ?_
    rw [show kf_bars K n s = -1 from if_neg (fun z => by first | exact t3_h z.1 | exact t21_h z.2)] at hq
    exact hq M dk_fr.rf
