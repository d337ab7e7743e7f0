/-! ===== the component's planner: its small steps ===== -/
def sg_lv (l : Nat) : Nat := 69 + 2 * l
theorem lv_mo {l : Nat} (h : l ≤ 4) : dk_mo (sg_lv l) := by unfold dk_mo sg_lv; omega
theorem lv_rf : ∀ l, l < 5 → dk_rf 61 l = some (sg_lv l) ∧ dk_rf 62 l = some (63 + l) ∧ dk_ar (63 + l) 20 4 := by
  intro l h
  rcases (show l = 0 ∨ l = 1 ∨ l = 2 ∨ l = 3 ∨ l = 4 by omega) with rfl | rfl | rfl | rfl | rfl
  · exact ⟨rf_61_0, rf_62_0, pl_63⟩
  · exact ⟨rf_61_1, rf_62_1, pl_64⟩
  · exact ⟨rf_61_2, rf_62_2, pl_65⟩
  · exact ⟨rf_61_3, rf_62_3, pl_66⟩
  · exact ⟨rf_61_4, rf_62_4, pl_67⟩
/-- to tell it is as to tell nobody -/
def sg_idle (w : sg_R) (σ : Nat → Nat) (h : Nat) : Prop := σ (39 + 5 * h) = 1 ∨ sg_does w σ h = 1 ∨ (sg_does w σ h = 0 ∧ sg_pays σ h = 0)
theorem sg_idle_told {w : sg_R} {σ : Nat → Nat} {h : Nat} (o : sg_ok σ) (hi : sg_idle w σ h) : sg_told w σ (some h) = (σ, 0) := by
  unfold sg_told
  dsimp only
  by_cases e : σ (39 + 5 * h) = 0
  · rw [if_pos e]
    unfold sg_tells
    rcases hi with z | z | z
    · omega
    · rw [if_neg (by omega), if_neg (by omega)]
    · rw [if_neg (by omega), if_neg (by omega)]
  · rw [if_neg e]
theorem sg_idle_goes {w : sg_R} {σ : Nat → Nat} {h : Nat} (o : sg_ok σ) (hi : sg_idle w σ h) : sg_goes w σ (some h) = sg_goes w σ none := by
  have e1_h := sg_idle_told o hi
  have e2_h : sg_told w σ none = (σ, 0) := rfl
  unfold sg_goes sg_mid
  rw [e1_h, e2_h]

set_option maxRecDepth 20000 in
theorem c10_isIdle {d : Nat} {M : dk_Mem} {Q : Option Value → dk_Mem → Prop} {σ : Nat → Nat} (hs : cs σ M) (o : sg_ok σ) {μ : Nat} (hm : dk_mo μ) (hc : cm μ σ M) {h : Nat} (hh : h < σ 4) {w : sg_R} (hb : cbb w M) (h1_h : ∀ M2, dk_fr cY M M2 → sg_idle w σ h → Q (some (.int 1)) M2) (h0_h : ∀ M2, dk_fr cY M M2 → ¬ sg_idle w σ h → Q (some (.int 0)) M2) : dk_Call (d + 5) mX10_isIdle [.ref 14, .ref μ, .int (nI h)] M Q := by
  have o4_h := o.2.2.2.1
  have dl := hb.le (σ (35 + 5 * h)) (σ 1) (σ (36 + 5 * h)) (σ (37 + 5 * h)) (sg_wd σ) h
  have pl := o.pays (h := h) (by omega)
  have dd : sg_does w σ h ≤ 2 := dl
  refine dk_enter [some (.ref 14), some (.ref μ), some (.int (nI h)), none] (by decide) (fun _ => rfl) (fun _ => Nat.le_of_ble_eq_true rfl) ?_
  refine w_al1 (n := 1) dX10_isIdle_0 rfl ?_
  refine w_il2 (n := 2) dX10_isIdle_1 rfl ?_
  refine w_cV1 (n := 5) hm.is cl_4 s0_X4_isFallen k_X10_125 (Nat.le_of_ble_eq_true rfl) dX10_isIdle_2 rfl (c4_isFallen hm hc o hh (fun t2_h => ?_) (fun t2_h => ?_))
  · skip
    refine w_if_eq (n := 8) 10 dX10_isIdle_5 (by decide) rfl (fun h => absurd h (by decide)) (fun _ => ?_)
    refine w_iconst (n := 9) (nI 1) dX10_isIdle_8 (by decide) rfl ?_
    refine w_retZ1 dX10_isIdle_9 rfl ?_
    exact h1_h M dk_fr.rf (Or.inl t2_h)
  · skip
    refine w_if_eq (n := 8) 10 dX10_isIdle_5 (by decide) rfl (fun _ => ?_) (fun h => absurd (by decide) h)
    refine w_al0 (n := 11) dX10_isIdle_10 rfl ?_
    refine w_al1 (n := 12) dX10_isIdle_11 rfl ?_
    refine w_il2 (n := 13) dX10_isIdle_12 rfl ?_
    refine w_cV2 (n := 16) pl_14 cl_10 s0_X10_will k_X10_150 (Nat.le_of_ble_eq_true rfl) dX10_isIdle_13 rfl (c_will hs o hm hc hh hb (fun M2 g => ?_))
    refine w_is3 (n := 17) dX10_isIdle_16 rfl rfl (by decide) ?_
    refine w_il3 (n := 18) dX10_isIdle_17 rfl ?_
    refine w_iconst (n := 19) (nI 1) dX10_isIdle_18 (by decide) rfl ?_
    refine w_ic_eq (n := 22) 35 dX10_isIdle_19 (by decide) rfl (fun z19_h => ?_) (fun z19_h => ?_)
    · skip
      refine w_iconst (n := 36) (nI 1) dX10_isIdle_35 (by decide) rfl ?_
      refine w_goto 40 dX10_isIdle_36 (by decide) ?_
      refine w_retZ1 dX10_isIdle_40 rfl ?_
      first | exact h1_h M2 g (Or.inr (Or.inl ((nI_eq (by omega) (by decide)).mp z19_h))) | exact h1_h M2 g (Or.inr (Or.inr ⟨(q_nz (by omega)).mp z23_h, (q_nz (by omega)).mp z32_h⟩))
    · skip
      refine w_il3 (n := 23) dX10_isIdle_22 rfl ?_
      refine w_if_ne (n := 26) 39 dX10_isIdle_23 (by decide) rfl (fun z23_h => ?_) (fun z23_h => ?_)
      · skip
        refine w_iconst (n := 40) (nI 0) dX10_isIdle_39 (by decide) rfl ?_
        refine w_retZ0 dX10_isIdle_40 rfl ?_
        refine h0_h M2 g (fun z => ?_)
        rcases z with z | z | z
        · omega
        · exact z19_h (by rw [z])
        · first | exact z23_h (by rw [z.1]; rfl) | exact z32_h (by rw [z.2]; rfl)
      · skip
        refine w_al0 (n := 27) dX10_isIdle_26 rfl ?_
        refine w_al1 (n := 28) dX10_isIdle_27 rfl ?_
        refine w_il2 (n := 29) dX10_isIdle_28 rfl ?_
        refine w_cV2 (n := 32) pl_14 cl_10 s0_X10_pays k_X10_146 (Nat.le_of_ble_eq_true rfl) dX10_isIdle_29 rfl (c10_pays (hs.Y g) o hm (hc.Y hm g) hh ?_)
        refine w_if_ne (n := 35) 39 dX10_isIdle_32 (by decide) rfl (fun z32_h => ?_) (fun z32_h => ?_)
        · skip
          refine w_iconst (n := 40) (nI 0) dX10_isIdle_39 (by decide) rfl ?_
          refine w_retZ0 dX10_isIdle_40 rfl ?_
          refine h0_h M2 g (fun z => ?_)
          rcases z with z | z | z
          · omega
          · exact z19_h (by rw [z])
          · first | exact z23_h (by rw [z.1]; rfl) | exact z32_h (by rw [z.2]; rfl)
        · skip
          refine w_iconst (n := 36) (nI 1) dX10_isIdle_35 (by decide) rfl ?_
          refine w_goto 40 dX10_isIdle_36 (by decide) ?_
          refine w_retZ1 dX10_isIdle_40 rfl ?_
          first | exact h1_h M2 g (Or.inr (Or.inl ((nI_eq (by omega) (by decide)).mp z19_h))) | exact h1_h M2 g (Or.inr (Or.inr ⟨(q_nz (by omega)).mp z23_h, (q_nz (by omega)).mp z32_h⟩))

set_option maxRecDepth 20000 in
theorem c6_start {d : Nat} {M : dk_Mem} {Q : Option Value → dk_Mem → Prop} {σ : Nat → Nat} (hs : cs σ M) (o : sg_ok σ) (hm : dk_mo 22) (hc : cm 22 σ M) (hq : ∀ M2, cm (sg_lv 0) σ M2 → dk_fr (fun q _ => q = 69 ∨ q = 70) M M2 → Q none M2) : dk_Call (d + 2) mX6_start [.ref 60] M Q := by
  have o4_h := o.2.2.2.1
  refine dk_enter [some (.ref 60)] (by decide) (fun _ => rfl) (fun _ => Nat.le_of_ble_eq_true rfl) ?_
  refine w_al0 (n := 1) dX6_start_0 rfl ?_
  refine g_R (n := 4) f_X6_11_6 pl_60 rf_60_1 dX6_start_1 rfl ?_
  refine w_iconst (n := 5) (nI 0) dX6_start_4 (by decide) rfl ?_
  refine i_aaldM (n := 6) pl_61 (j := 0) rfl (by decide) (by decide) rf_61_0 dX6_start_5 rfl ?_
  refine w_al0 (n := 7) dX6_start_6 rfl ?_
  refine g_R (n := 10) f_X6_26_6 pl_60 rf_60_0 dX6_start_7 rfl ?_
  refine g_R (n := 13) f_X6_31_10 pl_14 rf_14_9 dX6_start_10 rfl ?_
  refine w_cV1 (n := 16) pl_69 cl_4 s0_X4_take k_X6_37 (Nat.le_of_ble_eq_true rfl) dX6_start_13 rfl (c4_take (μ := 69) (ν := 22) (lv_mo (l := 0) (by omega)) hm (by decide) hc o4_h (fun M2 k1_h k2_h => ?_))
  refine w_ret dX6_start_16 rfl ?_
  exact hq M2 k1_h k2_h

set_option maxRecDepth 20000 in
theorem c6_isLast {d : Nat} {M : dk_Mem} {Q : Option Value → dk_Mem → Prop} {σ : Nat → Nat} (hs : cs σ M) (o : sg_ok σ) {l n : Nat} (hl : l ≤ 4) (hn : n ≤ 4) (hc : cm (sg_lv l) σ M) (h1_h : n ≤ l ∨ 4 ≤ l ∨ σ 0 ≤ σ 1 → Q (some (.int 1)) M) (h0_h : l < n → l < 4 → σ 1 < σ 0 → Q (some (.int 0)) M) : dk_Call (d + 1) mX6_isLast [.ref 60, .int (nI l), .int (nI n)] M Q := by
  have rf := lv_rf l (by omega)
  refine dk_enter [some (.ref 60), some (.int (nI l)), some (.int (nI n))] (by decide) (fun _ => rfl) (fun _ => Nat.le_of_ble_eq_true rfl) ?_
  refine w_il1 (n := 1) dX6_isLast_0 rfl ?_
  refine w_il2 (n := 2) dX6_isLast_1 rfl ?_
  refine w_ic_ge (n := 5) 26 dX6_isLast_2 (by decide) rfl (fun z2_h => ?_) (fun z2_h => ?_)
  · skip
    refine w_iconst (n := 27) (nI 1) dX6_isLast_26 (by decide) rfl ?_
    refine w_goto 31 dX6_isLast_27 (by decide) ?_
    refine w_retZ1 dX6_isLast_31 rfl ?_
    first | exact h1_h (Or.inr (Or.inr t20_h)) | (rw [q_le (by omega) (by omega)] at z2_h; exact h1_h (Or.inl z2_h)) | (rw [q_le (by omega) (by omega)] at z7_h; exact h1_h (Or.inr (Or.inl z7_h)))
  · skip
    refine w_il1 (n := 6) dX6_isLast_5 rfl ?_
    refine w_iconst (n := 7) (nI 4) dX6_isLast_6 (by decide) rfl ?_
    refine w_ic_ge (n := 10) 26 dX6_isLast_7 (by decide) rfl (fun z7_h => ?_) (fun z7_h => ?_)
    · skip
      refine w_iconst (n := 27) (nI 1) dX6_isLast_26 (by decide) rfl ?_
      refine w_goto 31 dX6_isLast_27 (by decide) ?_
      refine w_retZ1 dX6_isLast_31 rfl ?_
      first | exact h1_h (Or.inr (Or.inr t20_h)) | (rw [q_le (by omega) (by omega)] at z2_h; exact h1_h (Or.inl z2_h)) | (rw [q_le (by omega) (by omega)] at z7_h; exact h1_h (Or.inr (Or.inl z7_h)))
    · skip
      refine w_al0 (n := 11) dX6_isLast_10 rfl ?_
      refine g_R (n := 14) f_X6_26_6 pl_60 rf_60_0 dX6_isLast_11 rfl ?_
      refine w_al0 (n := 15) dX6_isLast_14 rfl ?_
      refine g_R (n := 18) f_X6_11_6 pl_60 rf_60_1 dX6_isLast_15 rfl ?_
      refine w_il1 (n := 19) dX6_isLast_18 rfl ?_
      refine i_aaldM (n := 20) pl_61 (j := l) rfl (by omega) (by decide) rf.1 dX6_isLast_19 rfl ?_
      refine w_cV1 (n := 23) pl_14 cl_10 s0_X10_isOver k_X6_41 (Nat.le_of_ble_eq_true rfl) dX6_isLast_20 rfl (c10_isOver hs o (lv_mo hl) hc (fun t20_h => ?_) (fun t20_h => ?_))
      · skip
        refine w_if_eq (n := 26) 30 dX6_isLast_23 (by decide) rfl (fun h => absurd h (by decide)) (fun _ => ?_)
        refine w_iconst (n := 27) (nI 1) dX6_isLast_26 (by decide) rfl ?_
        refine w_goto 31 dX6_isLast_27 (by decide) ?_
        refine w_retZ1 dX6_isLast_31 rfl ?_
        first | exact h1_h (Or.inr (Or.inr t20_h)) | (rw [q_le (by omega) (by omega)] at z2_h; exact h1_h (Or.inl z2_h)) | (rw [q_le (by omega) (by omega)] at z7_h; exact h1_h (Or.inr (Or.inl z7_h)))
      · skip
        refine w_if_eq (n := 26) 30 dX6_isLast_23 (by decide) rfl (fun _ => ?_) (fun h => absurd (by decide) h)
        refine w_iconst (n := 31) (nI 0) dX6_isLast_30 (by decide) rfl ?_
        refine w_retZ0 dX6_isLast_31 rfl ?_
        rw [q_le (by omega) (by omega)] at z2_h
        rw [q_le (by omega) (by omega)] at z7_h
        exact h0_h (by omega) (by omega) t20_h

set_option maxRecDepth 20000 in
theorem c6_deep {d : Nat} {M : dk_Mem} {Q : Option Value → dk_Mem → Prop} {σ : Nat → Nat} (hs : cs σ M) (o : sg_ok σ) {l : Nat} (hl : l < 4) (hc : cm (sg_lv l) σ M) {t : Option Nat} (ht : ∀ h, t = some h → h < σ 4) {w : sg_R} (hb : cbb w M) (hq : ∀ M2, cm (sg_lv (l + 1)) (sg_goes w σ t).1 M2 → dk_fr (fun q k => q = sg_lv (l + 1) ∨ q = sg_lv (l + 1) + 1 ∨ cY q k) M M2 → Q (some (.int (nI (sg_goes w σ t).2))) M2) : dk_Call (d + 7) mX6_goDeeper [.ref 60, .int (nI l), .int (nI (sg_act t))] M Q := by
  have o4_h := o.2.2.2.1
  have rf := lv_rf l (by omega)
  have rf1_h := lv_rf (l + 1) (by omega)
  have m0_h := lv_mo (l := l) (by omega)
  have m1_h := lv_mo (l := l + 1) (by omega)
  have hne : sg_lv (l + 1) ≠ sg_lv l := by unfold sg_lv; omega
  refine dk_enter [some (.ref 60), some (.int (nI l)), some (.int (nI (sg_act t))), none] (by decide) (fun _ => rfl) (fun _ => Nat.le_of_ble_eq_true rfl) ?_
  refine w_al0 (n := 1) dX6_goDeeper_0 rfl ?_
  refine g_R (n := 4) f_X6_11_6 pl_60 rf_60_1 dX6_goDeeper_1 rfl ?_
  refine w_il1 (n := 5) dX6_goDeeper_4 rfl ?_
  refine w_iconst (n := 6) (nI 1) dX6_goDeeper_5 (by decide) rfl ?_
  refine w_iadd (n := 7) dX6_goDeeper_6 rfl ?_
  refine i_aaldM (n := 8) pl_61 (j := l + 1) (by rw [nI_add]) (by omega) (by decide) rf1_h.1 dX6_goDeeper_7 rfl ?_
  refine w_as3 (n := 9) dX6_goDeeper_8 rfl rfl (by decide) ?_
  refine w_al3 (n := 10) dX6_goDeeper_9 rfl ?_
  refine w_al0 (n := 11) dX6_goDeeper_10 rfl ?_
  refine g_R (n := 14) f_X6_11_6 pl_60 rf_60_1 dX6_goDeeper_11 rfl ?_
  refine w_il1 (n := 15) dX6_goDeeper_14 rfl ?_
  refine i_aaldM (n := 16) pl_61 (j := l) rfl (by omega) (by decide) rf.1 dX6_goDeeper_15 rfl ?_
  refine w_cV1 (n := 19) m1_h.is cl_4 s0_X4_take k_X6_37 (Nat.le_of_ble_eq_true rfl) dX6_goDeeper_16 rfl (c4_take m1_h m0_h hne hc o4_h (fun M2 k1_h k2_h => ?_))
  have f2_h : dk_fr (cX (sg_lv (l + 1))) M M2 := k2_h.up (fun q k z => by unfold cX; omega)
  have hs2_h := hs.X m1_h f2_h
  have hb2_h := hb.X m1_h f2_h
  refine w_al0 (n := 20) dX6_goDeeper_19 rfl ?_
  refine g_R (n := 23) f_X6_26_6 pl_60 rf_60_0 dX6_goDeeper_20 rfl ?_
  refine w_al3 (n := 24) dX6_goDeeper_23 rfl ?_
  refine w_il2 (n := 25) dX6_goDeeper_24 rfl ?_
  refine w_cV2 (n := 28) pl_14 cl_10 s0_X10_passYear k_X6_45 (Nat.le_of_ble_eq_true rfl) dX6_goDeeper_25 rfl (c10_py hs2_h o m1_h k1_h ht hb2_h (fun M3 g1_h g2_h => ?_))
  refine w_retI dX6_goDeeper_28 rfl ?_
  exact hq M3 g1_h ((f2_h.tr g2_h).up (fun q k z => by unfold cX at z; unfold cY; omega))

set_option maxRecDepth 20000 in
theorem c6_nfL {d : Nat} {M : dk_Mem} {Q : Option Value → dk_Mem → Prop} {l : Nat} (hl : l < 4) {a : Int32} (hq : ∀ M2, dk_fr (fun q k => q = 63 + l ∧ l < k ∧ k < 4) M M2 → (∀ i, l < i → i < 4 → M2.1 (63 + l) i = M.1 (64 + l) i) → Q none M2) : ∀ (n k : Nat) (M1 : dk_Mem), l < k → k ≤ 4 → 4 - k < n → dk_fr (fun q k => q = 63 + l ∧ l < k ∧ k < 4) M M1 → (∀ i, l < i → i < k → M1.1 (63 + l) i = M.1 (64 + l) i) → dk_W d mX6_noteFirst 13 [some (.ref 60), some (.int (nI l)), some (.int a), some (.int (nI k))] [] M1 Q := by
  have rf := lv_rf l (by omega)
  have rf1_h := lv_rf (l + 1) (by omega)
  intro n
  induction n with
  | zero => intro k M1 _ _ h; omega
  | succ n ih =>
    intro k M1 h1_h h2_h hn hf hi
    refine w_il3 (n := 14) dX6_noteFirst_13 rfl ?_
    refine w_iconst (n := 15) (nI 4) dX6_noteFirst_14 (by decide) rfl ?_
    refine w_ic_ge (n := 18) 42 dX6_noteFirst_15 (by decide) rfl (fun z15_h => ?_) (fun z15_h => ?_)
    · skip
      refine w_ret dX6_noteFirst_42 rfl ?_
      rw [q_le (by decide) (by omega)] at z15_h
      exact hq M1 hf (fun i i1_h i2_h => hi i i1_h (by omega))
    · skip
      have hk : k < 4 := by rw [q_le (by decide) (by omega)] at z15_h; omega
      refine w_al0 (n := 19) dX6_noteFirst_18 rfl ?_
      refine g_R (n := 22) f_X6_19_6 pl_60 rf_60_2 dX6_noteFirst_19 rfl ?_
      refine w_il1 (n := 23) dX6_noteFirst_22 rfl ?_
      refine i_aaldI (n := 24) pl_62 (j := l) rfl (by omega) (by decide) rf.2.1 dX6_noteFirst_23 rfl ?_
      refine w_il3 (n := 25) dX6_noteFirst_24 rfl ?_
      refine w_al0 (n := 26) dX6_noteFirst_25 rfl ?_
      refine g_R (n := 29) f_X6_19_6 pl_60 rf_60_2 dX6_noteFirst_26 rfl ?_
      refine w_il1 (n := 30) dX6_noteFirst_29 rfl ?_
      refine w_iconst (n := 31) (nI 1) dX6_noteFirst_30 (by decide) rfl ?_
      refine w_iadd (n := 32) dX6_noteFirst_31 rfl ?_
      refine i_aaldI (n := 33) pl_62 (j := l + 1) (by rw [nI_add]) (by omega) (by decide) rf1_h.2.1 dX6_noteFirst_32 rfl ?_
      refine w_il3 (n := 34) dX6_noteFirst_33 rfl ?_
      refine i_iald (n := 35) rf1_h.2.2 (j := k) rfl hk (by decide) (show M1.1 (63 + (l + 1)) k = M.1 (64 + l) k by rw [show 63 + (l + 1) = 64 + l by omega]; exact hf.2 _ _ (by omega)) dX6_noteFirst_34 rfl ?_
      refine i_iast (n := 36) rf.2.2 (j := k) rfl hk (by decide) dX6_noteFirst_35 rfl ?_
      refine w_inc3 (n := 39) (nI 1) dX6_noteFirst_36 (by decide) rfl rfl (by decide) ?_
      refine w_goto 13 dX6_noteFirst_39 (by decide) ?_
      rw [nI_add]
      exact ih (k + 1) _ (by omega) (by omega) (by omega) (hf.put ⟨rfl, h1_h, hk⟩) (fun i i1_h i2_h => by by_cases e : i = k; (rw [e, dk_put_s]); (rw [dk_put_k (by omega)]; exact hi i i1_h (by omega)))

set_option maxRecDepth 20000 in
theorem c6_note {d : Nat} {M : dk_Mem} {Q : Option Value → dk_Mem → Prop} {l : Nat} (hl : l < 4) {a : Int32} (hq : ∀ M2, dk_fr (fun q k => q = 63 + l ∧ l ≤ k ∧ k < 4) M M2 → M2.1 (63 + l) l = a → (∀ i, l < i → i < 4 → M2.1 (63 + l) i = M.1 (64 + l) i) → Q none M2) : dk_Call d mX6_noteFirst [.ref 60, .int (nI l), .int a] M Q := by
  have rf := lv_rf l (by omega)
  refine dk_enter [some (.ref 60), some (.int (nI l)), some (.int a), none] (by decide) (fun _ => rfl) (fun _ => Nat.le_of_ble_eq_true rfl) ?_
  refine w_al0 (n := 1) dX6_noteFirst_0 rfl ?_
  refine g_R (n := 4) f_X6_19_6 pl_60 rf_60_2 dX6_noteFirst_1 rfl ?_
  refine w_il1 (n := 5) dX6_noteFirst_4 rfl ?_
  refine i_aaldI (n := 6) pl_62 (j := l) rfl (by omega) (by decide) rf.2.1 dX6_noteFirst_5 rfl ?_
  refine w_il1 (n := 7) dX6_noteFirst_6 rfl ?_
  refine w_il2 (n := 8) dX6_noteFirst_7 rfl ?_
  refine i_iast (n := 9) rf.2.2 (j := l) rfl (by omega) (by decide) dX6_noteFirst_8 rfl ?_
  refine w_il1 (n := 10) dX6_noteFirst_9 rfl ?_
  refine w_iconst (n := 11) (nI 1) dX6_noteFirst_10 (by decide) rfl ?_
  refine w_iadd (n := 12) dX6_noteFirst_11 rfl ?_
  refine w_is3 (n := 13) dX6_noteFirst_12 rfl rfl (by decide) ?_
  rw [nI_add]
  exact c6_nfL hl (fun M2 g1_h g2_h => hq M2 ((dk_fr.rf.put (S := fun q k => q = 63 + l ∧ l ≤ k ∧ k < 4) ⟨rfl, Nat.le_refl _, hl⟩).tr (g1_h.up (fun q k z => by omega))) (by rw [g1_h.2 _ _ (by omega), dk_put_s]) (fun i i1_h i2_h => by rw [g2_h i i1_h i2_h, dk_put_k (by omega)])) 5 (l + 1) _ (by omega) (by omega) (by omega) dk_fr.rf (fun i i1_h i2_h => by omega)
