set_option maxRecDepth 20000 in
theorem r_plL {d : Nat} {M : dk_Mem} {Q : Option Value → dk_Mem → Prop} {K : sg_K} (hK : rK K M) {L m : Nat} {g : Nat → Nat} (hL : L < 4) (hy : K.1 1 < K.1 0) (hm : sg_ys K.1 (L + 1) = m + 1) (hg : g = sg_gg K.2.1 (K.1 4) m true K.1) (hq : ∀ M2, dk_fr rN M M2 → Q (some (.int (nI (gm_c true g (K.1 4 + 1))))) M2) : ∀ (k a : Nat) (x4_h : Option Value) (M1 : dk_Mem), a ≤ K.1 4 → K.1 4 - a < k → dk_fr rN M M1 → (∀ x, x < a → g x ≠ gm_f true g (K.1 4 + 1)) → dk_W (d + 12) mX12_play 30 [some (.ref 104), some (.int (nI (L + 1))), some (.int (nI (gm_f true g (K.1 4 + 1)))), some (.int (nI a)), x4_h] [] M1 Q := by
  have hK0 := hK
  obtain ⟨⟨o, p1_h, p2_h, p3_h⟩, hr, ⟨f, hb, hT⟩, hsc, hz⟩ := hK0
  have o4_h := o.2.2.2.1
  have o16_h := o.2.1
  have yl := sg_ys_le (σ := K.1) (n := L + 1)
  have t6_h : ∀ x, x ≤ K.1 4 → ∀ h, sg_ot x = some h → h < 6 := fun x hx h e => by have := sg_ot_lt hx h e; omega
  have og : ∀ x, x ≤ K.1 4 → sg_ok (sg_goes K.2.1 K.1 (sg_ot x)).1 := fun x hx => o.goes (t6_h x hx) (by omega)
  have gl : ∀ x, x ≤ K.1 4 → g x ≤ 100 := fun x hx => by have h1_h := sg_goes_le (w := K.2.1) o (t6_h x hx); have h2_h := sg_gv_le (w := K.2.1) (c := K.1 4) (by omega) m (!true) (sg_goes K.2.1 K.1 (sg_ot x)).1 (og x hx) (by rw [sg_goes_1, sg_goes_o (by omega) (by omega)]; omega); rw [hg]; unfold sg_gg; omega
  have gf := gm_le (b := true) (g := g) (B := 100) (K.1 4) gl
  obtain ⟨i1_h, i2_h, i3_h, i4_h⟩ := gm_cs (g := g) (K.1 4)
  intro k
  induction k with
  | zero => intro a x4_h M1 _ h; omega
  | succ k ih =>
    intro a x4_h M1 ha hk hf hi
    have hr1_h := hr.N hf
    have hT1 := hT.N hf
    refine w_il3 (n := 31) dX12_play_30 rfl ?_
    refine w_al0 (n := 32) dX12_play_31 rfl ?_
    refine g_R (n := 35) f_X12_9_12 pl_104 rf_104_0 dX12_play_32 rfl ?_
    refine w_iconst (n := 36) (nI 4) dX12_play_35 (by decide) rfl ?_
    refine i_iald (n := 37) pl_105 (j := 4) rfl (by decide) (by decide) (hr1_h 4 (by decide) (by decide) (by decide)) dX12_play_36 rfl ?_
    refine w_ic_gt (n := 40) 98 dX12_play_37 (by decide) rfl (fun z37_h => ?_) (fun z37_h => ?_)
    · skip
      exfalso
      rw [nI_ltI (by omega) (by omega)] at z37_h
      omega
    · skip
      have ga := gl a ha
      refine w_al0 (n := 41) dX12_play_40 rfl ?_
      refine g_R (n := 44) f_X12_9_12 pl_104 rf_104_0 dX12_play_41 rfl ?_
      refine w_al0 (n := 45) dX12_play_44 rfl ?_
      refine g_R (n := 48) f_X12_29_12 pl_104 rf_104_19 dX12_play_45 rfl ?_
      refine w_cS2 (n := 51) s0_X12_copyAll k_X12_57 (Nat.le_of_ble_eq_true rfl) dX12_play_48 rfl (r_copyAll pl_105 pl_111 (by decide) ?_)
      obtain ⟨X, hX⟩ : ∃ X, X = dk_row M1 111 (dk_cp (M1.1 105) (M1.1 111) 621) := ⟨_, rfl⟩
      rw [← hX]
      have fX : dk_fr rN M1 X := by rw [hX]; exact ⟨rfl, fun q k h => dk_row_k (fun z => h (by unfold rN; omega)) k⟩
      have hrX := hr1_h.N fX
      have hTX := hT1.N fX
      have eX : ∀ k, k < 621 → X.1 111 k = M1.1 105 k := fun k hk6_h => by rw [hX, dk_row_at]; exact if_pos hk6_h
      clear hX
      refine w_al0 (n := 52) dX12_play_51 rfl ?_
      refine w_il3 (n := 53) dX12_play_52 rfl ?_
      refine w_iconst (n := 54) (nI 1) dX12_play_53 (by decide) rfl ?_
      refine w_isub (n := 55) dX12_play_54 rfl ?_
      rw [sg_ot_enc (by omega)]
      refine w_cV1 (n := 58) pl_104 cl_12 s0_X12_goes k_X12_226 (Nat.le_of_ble_eq_true rfl) dX12_play_55 rfl (r_goes hrX o (t6_h a ha) hb hTX (fun M2 g1_h g2_h g3_h => ?_))
      refine w_is4 (n := 60) dX12_play_58 rfl rfl (by decide) ?_
      refine w_il4 (n := 62) dX12_play_60 rfl ?_
      refine w_al0 (n := 63) dX12_play_62 rfl ?_
      refine w_il1 (n := 64) dX12_play_63 rfl ?_
      refine w_iconst (n := 65) (nI 1) dX12_play_64 (by decide) rfl ?_
      refine w_isub (n := 66) dX12_play_65 rfl ?_
      rw [q_pm1 (by omega), Nat.add_sub_cancel]
      refine w_iconst (n := 67) (nI 0) dX12_play_66 (by decide) rfl ?_
      refine w_cV2 (n := 70) pl_104 cl_12 s0_X12_gameOn k_X12_274 (Nat.le_of_ble_eq_true rfl) dX12_play_67 rfl (r_g4 hb (show L ≤ 4 by omega) d false (sg_goes K.2.1 K.1 (sg_ot a)).1 M2 _ (og a ha) (sg_goes_o (by omega) (by omega)) g1_h (hTX.fr g2_h) (fun M3 b1_h => ?_))
      have hys : sg_ys (sg_goes K.2.1 K.1 (sg_ot a)).1 L = m := by have := sg_ys_p (w := K.2.1) (L := L) hy (sg_ot a); omega
      rw [hys, show (sg_goes K.2.1 K.1 (sg_ot a)).1 4 = K.1 4 from sg_goes_o (by omega) (by omega)]
      have eg : (sg_goes K.2.1 K.1 (sg_ot a)).2 + sg_gv K.2.1 (K.1 4) m false (sg_goes K.2.1 K.1 (sg_ot a)).1 = g a := by rw [hg]; rfl
      refine w_iadd (n := 71) dX12_play_70 rfl ?_
      rw [nI_add, eg]
      refine w_is4 (n := 73) dX12_play_71 rfl rfl (by decide) ?_
      refine w_al0 (n := 74) dX12_play_73 rfl ?_
      refine g_R (n := 77) f_X12_29_12 pl_104 rf_104_19 dX12_play_74 rfl ?_
      refine w_al0 (n := 78) dX12_play_77 rfl ?_
      refine g_R (n := 81) f_X12_9_12 pl_104 rf_104_0 dX12_play_78 rfl ?_
      refine w_cS2 (n := 84) s0_X12_copyAll k_X12_57 (Nat.le_of_ble_eq_true rfl) dX12_play_81 rfl (r_copyAll pl_111 pl_105 (by decide) ?_)
      obtain ⟨Y, hY⟩ : ∃ Y, Y = dk_row M3 105 (dk_cp (M3.1 111) (M3.1 105) 621) := ⟨_, rfl⟩
      rw [← hY]
      have fY : dk_fr rN M Y := by
        refine ⟨by rw [hY]; exact ((b1_h.1.trans g2_h.1).trans fX.1).trans hf.1, fun q k hn => ?_⟩
        by_cases hq5_h : q = 105
        · subst hq5_h
          rw [hY, dk_row_at]
          unfold dk_cp
          by_cases hk6_h : k < 621
          · rw [if_pos hk6_h, b1_h.2 111 k (by unfold rGo; omega), g2_h.2 111 k (by unfold rG; omega), eX k hk6_h]; exact hf.2 105 k hn
          · rw [if_neg hk6_h, b1_h.2 105 k (by unfold rGo; omega), g2_h.2 105 k (by unfold rG; omega), fX.2 105 k hn]; exact hf.2 105 k hn
        · rw [hY, dk_row_k hq5_h, b1_h.2 q k (fun z => hn (by unfold rGo at z; unfold rN; omega)), g2_h.2 q k (fun z => hn (by unfold rG at z; unfold rN; omega)), fX.2 q k hn]; exact hf.2 q k hn
      clear hY
      refine w_il4 (n := 86) dX12_play_84 rfl ?_
      refine w_il2 (n := 87) dX12_play_86 rfl ?_
      refine w_ic_ne (n := 90) 92 dX12_play_87 (by decide) rfl (fun z87_h => ?_) (fun z87_h => ?_)
      · skip
        refine w_inc3 (n := 95) (nI 1) dX12_play_92 (by decide) rfl rfl (by decide) ?_
        refine w_goto 30 dX12_play_95 (by decide) ?_
        rw [nI_eq (by omega) (by omega)] at z87_h
        rw [nI_add]
        have hi2_h : ∀ x, x < a + 1 → g x ≠ gm_f true g (K.1 4 + 1) := fun x hx => by
          by_cases e : x = a
          · rw [e]; exact z87_h
          · exact hi x (by omega)
        have hlt : ¬ gm_c true g (K.1 4 + 1) < a + 1 := fun z => hi2_h _ z i2_h
        exact ih (a + 1) _ Y (by omega) (by omega) fY hi2_h
      · skip
        refine w_il3 (n := 91) dX12_play_90 rfl ?_
        refine w_retI dX12_play_91 rfl ?_
        rw [nI_eq (by omega) (by omega)] at z87_h
        rw [gm_first z87_h hi] at hq
        exact hq Y fY

set_option maxRecDepth 20000 in
theorem R_play {d : Nat} {M : dk_Mem} {Q : Option Value → dk_Mem → Prop} {K : sg_K} (hK : rK K M) {n : Int32} (hq : ∀ M2, dk_fr rN M M2 → Q (some (.int (kf_play K n))) M2) : dk_Call (d + 12) mX12_play [.ref 104, .int n] M Q := by
  have hK0 := hK
  obtain ⟨⟨o, p1_h, p2_h, p3_h⟩, hr, ⟨f, hb, hT⟩, hsc, hz⟩ := hK0
  have o4_h := o.2.2.2.1
  have o16_h := o.2.1
  refine dk_enter [some (.ref 104), some (.int n), none, none, none] (by decide) (fun _ => rfl) (fun _ => Nat.le_of_ble_eq_true rfl) ?_
  refine w_il1 (n := 1) dX12_play_0 rfl ?_
  refine w_iconst (n := 2) (nI 1) dX12_play_1 (by decide) rfl ?_
  refine w_iconst (n := 3) (nI 4) dX12_play_2 (by decide) rfl ?_
  refine w_cS3 (n := 6) s0_X12_in k_X12_61 (Nat.le_of_ble_eq_true rfl) dX12_play_3 rfl (r_in (fun t3_h => ?_) (fun t3_h => ?_))
  · skip
    refine w_if_ne (n := 9) 11 dX12_play_6 (by decide) rfl (fun _ => ?_) (fun h => absurd h (by decide))
    rw [show kf_play K n = if K.1 0 ≤ K.1 1 then -3 else nI (gm_c true (sg_gg K.2.1 (K.1 4) (sg_ys K.1 (tN n) - 1) true K.1) (K.1 4 + 1)) from if_pos t3_h] at hq
    refine w_al0 (n := 12) dX12_play_11 rfl ?_
    refine w_cV0 (n := 15) pl_104 cl_12 s0_X12_isOver k_X12_121 (Nat.le_of_ble_eq_true rfl) dX12_play_12 rfl (r_isOver hr o (fun t12_h => ?_) (fun t12_h => ?_))
    · skip
      refine w_if_eq (n := 18) 21 dX12_play_15 (by decide) rfl (fun h => absurd h (by decide)) (fun _ => ?_)
      refine w_bipush (n := 20) (-3) dX12_play_18 (by decide) rfl ?_
      refine w_retI dX12_play_20 rfl ?_
      rw [if_pos t12_h] at hq
      exact hq M dk_fr.rf
    · skip
      refine w_if_eq (n := 18) 21 dX12_play_15 (by decide) rfl (fun _ => ?_) (fun h => absurd (by decide) h)
      have hn := tN_of (n := 4) (by decide) (Int32.le_trans (by decide) t3_h.1) t3_h.2
      have n1_h : 1 ≤ tN n := by have y := t3_h.1; rw [hn.1, q_le (by decide) (by omega)] at y; exact y
      have en : Value.int n = Value.int (nI (tN n)) := by rw [← hn.1]
      rw [en]
      obtain ⟨L, hL⟩ : ∃ L, tN n = L + 1 := ⟨tN n - 1, by omega⟩
      rw [hL] at hq hn
      rw [hL]
      have hn2_h := hn.2
      obtain ⟨m, hm⟩ : ∃ m, sg_ys K.1 (L + 1) = m + 1 := ⟨sg_ys K.1 (L + 1) - 1, by unfold sg_ys; omega⟩
      rw [if_neg (by omega), hm, Nat.add_sub_cancel] at hq
      refine w_al0 (n := 22) dX12_play_21 rfl ?_
      refine w_il1 (n := 23) dX12_play_22 rfl ?_
      refine w_iconst (n := 24) (nI 1) dX12_play_23 (by decide) rfl ?_
      refine w_cV2 (n := 27) pl_104 cl_12 s0_X12_gameOn k_X12_274 (Nat.le_of_ble_eq_true rfl) dX12_play_24 rfl (r_g4 hb hn2_h d true K.1 M _ o rfl hr hT (fun M2 g1_h => ?_))
      rw [hm, sg_gv_s]
      refine w_is2 (n := 28) dX12_play_27 rfl rfl (by decide) ?_
      refine w_iconst (n := 29) (nI 0) dX12_play_28 (by decide) rfl ?_
      refine w_is3 (n := 30) dX12_play_29 rfl rfl (by decide) ?_
      exact r_plL hK (by omega) t12_h hm rfl hq (K.1 4 + 1) 0 _ M2 (by omega) (by omega) (rGo_N g1_h) (fun x hx => by omega)
  · skip
    refine w_if_ne (n := 9) 11 dX12_play_6 (by decide) rfl (fun h => absurd h (by decide)) (fun _ => ?_)
    refine w_iconst (n := 10) (-1) dX12_play_9 (by decide) rfl ?_
    refine w_retI dX12_play_10 rfl ?_
    rw [show kf_play K n = -1 from if_neg t3_h] at hq
    exact hq M dk_fr.rf
