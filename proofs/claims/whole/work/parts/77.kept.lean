/-! ===== kept ===== -/
def rQ (K : sg_K) (M : dk_Mem) : Prop := rK K (dk_row M 105 (M.1 106))
def rP (P : Option sg_K) (M : dk_Mem) : Prop := match P with
  | none => M.1 104 3 = 0
  | some K => M.1 104 3 = 1 ∧ rQ K M
theorem rK.row {K : sg_K} {M M' : dk_Mem} (h : rK K M) (he : ∀ k, k < 621 → M'.1 105 k = M.1 105 k) : rK K M' := by
  obtain ⟨h1_h, h2_h, ⟨f, h3_h, h4_h⟩, h5_h, h6_h⟩ := h
  exact ⟨h1_h, fun j a b c => (he j (by omega)).trans (h2_h j a b c), ⟨f, h3_h, fun k a b => (he k b).trans (h4_h k a b)⟩, (he 2 (by omega)).trans h5_h, (he 3 (by omega)).trans h6_h⟩
def kf_again (K : sg_K) (P : Option sg_K) : Int32 × sg_K := match P with
  | none => (-3, K)
  | some K' => (nI (K'.1 4), K')

set_option maxRecDepth 20000 in
theorem R_keep {d : Nat} {M : dk_Mem} {Q : Option Value → dk_Mem → Prop} {K : sg_K} (hK : rK K M) (hq : ∀ M2, rK K M2 → rP (some K) M2 → dk_fr (fun q k => q = 106 ∨ (q = 104 ∧ k = 3)) M M2 → Q (some (.int (nI 1))) M2) : dk_Call (d + 1) mX12_keep [.ref 104] M Q := by
  refine dk_enter [some (.ref 104)] (by decide) (fun _ => rfl) (fun _ => Nat.le_of_ble_eq_true rfl) ?_
  refine w_al0 (n := 1) dX12_keep_0 rfl ?_
  refine g_R (n := 4) f_X12_9_12 pl_104 rf_104_0 dX12_keep_1 rfl ?_
  refine w_al0 (n := 5) dX12_keep_4 rfl ?_
  refine g_R (n := 8) f_X12_13_12 pl_104 rf_104_1 dX12_keep_5 rfl ?_
  refine w_cS2 (n := 11) s0_X12_copyAll k_X12_57 (Nat.le_of_ble_eq_true rfl) dX12_keep_8 rfl (r_copyAll pl_105 pl_106 (by decide) ?_)
  refine w_al0 (n := 12) dX12_keep_11 rfl ?_
  refine w_iconst (n := 13) (nI 1) dX12_keep_12 (by decide) rfl ?_
  refine p_Z (n := 16) (by decide) f_X12_346_12 pl_104 dX12_keep_13 rfl ?_
  refine w_iconst (n := 17) (nI 1) dX12_keep_16 (by decide) rfl ?_
  refine w_retI dX12_keep_17 rfl ?_
  have e1_h : ∀ k, (dk_put (dk_row M 106 (dk_cp (M.1 105) (M.1 106) 621)) 104 3 (nI 1)).1 105 k = M.1 105 k := fun k => by rw [dk_put_k (by omega), dk_row_k (by decide)]
  refine hq _ (hK.row (fun k _ => e1_h k)) ⟨by rw [dk_put_s]; rfl, hK.row (fun k hk => ?_)⟩ ⟨rfl, fun q k hn => ?_⟩
  · rw [dk_row_at, dk_put_k (by omega), dk_row_at]; exact if_pos hk
  · rw [dk_put_k (fun z => hn (Or.inr z)), dk_row_k (fun z => hn (Or.inl z))]

set_option maxRecDepth 20000 in
theorem r_again0 {d : Nat} {M : dk_Mem} {Q : Option Value → dk_Mem → Prop} (h0_h : M.1 104 3 = 0) (hq : Q (some (.int (-3))) M) : dk_Call (d + 1) mX12_again [.ref 104] M Q := by
  refine dk_enter [some (.ref 104)] (by decide) (fun _ => rfl) (fun _ => Nat.le_of_ble_eq_true rfl) ?_
  refine w_al0 (n := 1) dX12_again_0 rfl ?_
  refine g_Z (n := 4) f_X12_346_12 pl_104 dX12_again_1 rfl ?_
  rw [h0_h]
  refine w_if_ne (n := 7) 10 dX12_again_4 (by decide) rfl (fun z4_h => ?_) (fun z4_h => ?_)
  · skip
    exact absurd rfl z4_h
  · skip
    refine w_bipush (n := 9) (-3) dX12_again_7 (by decide) rfl ?_
    refine w_retI dX12_again_9 rfl ?_
    exact hq

set_option maxRecDepth 20000 in
theorem r_again1 {d : Nat} {M : dk_Mem} {Q : Option Value → dk_Mem → Prop} {K : sg_K} (h0_h : M.1 104 3 = 1) (hK : rQ K M) (hq : ∀ M2, rK K M2 → dk_fr rA M M2 → Q (some (.int (nI (K.1 4)))) M2) : dk_Call (d + 1) mX12_again [.ref 104] M Q := by
  refine dk_enter [some (.ref 104)] (by decide) (fun _ => rfl) (fun _ => Nat.le_of_ble_eq_true rfl) ?_
  refine w_al0 (n := 1) dX12_again_0 rfl ?_
  refine g_Z (n := 4) f_X12_346_12 pl_104 dX12_again_1 rfl ?_
  rw [h0_h]
  refine w_if_ne (n := 7) 10 dX12_again_4 (by decide) rfl (fun z4_h => ?_) (fun z4_h => ?_)
  · skip
    refine w_al0 (n := 11) dX12_again_10 rfl ?_
    refine g_R (n := 14) f_X12_13_12 pl_104 rf_104_1 dX12_again_11 rfl ?_
    refine w_al0 (n := 15) dX12_again_14 rfl ?_
    refine g_R (n := 18) f_X12_9_12 pl_104 rf_104_0 dX12_again_15 rfl ?_
    refine w_cS2 (n := 21) s0_X12_copyAll k_X12_57 (Nat.le_of_ble_eq_true rfl) dX12_again_18 rfl (r_copyAll pl_106 pl_105 (by decide) ?_)
    have hK2 : rK K (dk_row M 105 (dk_cp (M.1 106) (M.1 105) 621)) := hK.row (fun k hk => by rw [dk_row_at, dk_row_at]; exact if_pos hk)
    refine w_al0 (n := 22) dX12_again_21 rfl ?_
    refine g_R (n := 25) f_X12_9_12 pl_104 rf_104_0 dX12_again_22 rfl ?_
    refine w_iconst (n := 26) (nI 4) dX12_again_25 (by decide) rfl ?_
    refine i_iald (n := 27) pl_105 (j := 4) rfl (by decide) (by decide) (hK2.2.1 4 (by decide) (by decide) (by decide)) dX12_again_26 rfl ?_
    refine w_retI dX12_again_27 rfl ?_
    exact hq _ hK2 ⟨rfl, fun q k hn => dk_row_k (fun z => hn (Or.inl z)) k⟩
  · skip
    exact absurd z4_h (by decide)

theorem R_again {d : Nat} {M : dk_Mem} {Q : Option Value → dk_Mem → Prop} {K : sg_K} (hK : rK K M) {P : Option sg_K} (hP : rP P M) (hq : ∀ M2, rK (kf_again K P).2 M2 → dk_fr rA M M2 → Q (some (.int (kf_again K P).1)) M2) : dk_Call (d + 1) mX12_again [.ref 104] M Q := by
  cases P with
  | none => exact r_again0 hP (hq M hK dk_fr.rf)
  | some K' => exact r_again1 hP.1 hP.2 hq
/-! the component: the kept street's places, told as the street's -/
def shf (M : dk_Mem) : dk_Mem := (fun q k => if 14 ≤ q ∧ q ≤ 36 then M.1 (q + 23) k else M.1 q k, M.2)
def cQ (K : sg_K) (M : dk_Mem) : Prop := cK K (shf M)
theorem cp_i {f g : Nat → Int32} {n k : Nat} (h : k < n) (hn : n < 2 ^ 31) : va_cpy f g (nI 0).toNatClampNeg (nI 0).toNatClampNeg (nI n).toNatClampNeg k = f k := by
  have e0_h : (nI 0).toNatClampNeg = 0 := rfl
  rw [nI_clamp hn, e0_h, show va_cpy f g 0 0 n k = f (0 + (k - 0)) from pk_cpy_in (Nat.zero_le k) (by omega)]
  congr 1
  omega
theorem bo_rf {β : Nat} (h : dk_bo β) : dk_rf β 1 = some (β + 1) ∧ dk_rf β 2 = some (β + 2) ∧ dk_rf β 3 = some (β + 3) ∧ dk_rf β 4 = some (β + 4) := by
  rcases h with rfl | rfl | rfl
  · exact ⟨rf_24_1, rf_24_2, rf_24_3, rf_24_4⟩
  · exact ⟨rf_47_1, rf_47_2, rf_47_3, rf_47_4⟩
  · exact ⟨rf_82_1, rf_82_2, rf_82_3, rf_82_4⟩
theorem bo_ar {β : Nat} (h : dk_bo β) : dk_ar (β + 1) 20 8 ∧ dk_ar (β + 2) 20 8 ∧ dk_ar (β + 3) 20 9 ∧ dk_ar (β + 4) 20 200 := by
  rcases h with rfl | rfl | rfl
  · exact ⟨pl_25, pl_26, pl_27, pl_28⟩
  · exact ⟨pl_48, pl_49, pl_50, pl_51⟩
  · exact ⟨pl_83, pl_84, pl_85, pl_86⟩

set_option maxRecDepth 20000 in
theorem c7_take55 {d : Nat} {M : dk_Mem} {Q : Option Value → dk_Mem → Prop} (hq : ∀ M2, M2.1 55 0 = M.1 32 0 → (∀ k, k < 6 → M2.1 56 k = M.1 33 k ∧ M2.1 57 k = M.1 34 k ∧ M2.1 58 k = M.1 35 k ∧ M2.1 59 k = M.1 36 k) → dk_fr (fun q _ => 55 ≤ q ∧ q ≤ 59) M M2 → Q none M2) : dk_Call (d + 1) mX7_take [.ref 55, .ref 32] M Q := by
  refine dk_enter [some (.ref 55), some (.ref 32)] (by decide) (fun _ => rfl) (fun _ => Nat.le_of_ble_eq_true rfl) ?_
  refine w_al0 (n := 1) dX7_take_0 rfl ?_
  refine w_al1 (n := 2) dX7_take_1 rfl ?_
  refine g_I (n := 5) f_X7_9_7 pl_32 dX7_take_2 rfl ?_
  refine p_I (n := 8) f_X7_9_7 pl_55 dX7_take_5 rfl ?_
  refine w_al1 (n := 9) dX7_take_8 rfl ?_
  refine g_R (n := 12) f_X7_15_7 pl_32 rf_32_1 dX7_take_9 rfl ?_
  refine w_iconst (n := 13) (nI 0) dX7_take_12 (by decide) rfl ?_
  refine w_al0 (n := 14) dX7_take_13 rfl ?_
  refine g_R (n := 17) f_X7_15_7 pl_55 rf_55_1 dX7_take_14 rfl ?_
  refine w_iconst (n := 18) (nI 0) dX7_take_17 (by decide) rfl ?_
  refine w_bipush (n := 20) (nI 6) dX7_take_18 (by decide) rfl ?_
  refine w_cpy (n := 23) pl_33 pl_56 in_1243 (by decide) (by decide) (by decide) (by decide) (by decide) (Nat.le_of_ble_eq_true rfl) dX7_take_20 rfl ?_
  refine w_al1 (n := 24) dX7_take_23 rfl ?_
  refine g_R (n := 27) f_X7_19_7 pl_32 rf_32_2 dX7_take_24 rfl ?_
  refine w_iconst (n := 28) (nI 0) dX7_take_27 (by decide) rfl ?_
  refine w_al0 (n := 29) dX7_take_28 rfl ?_
  refine g_R (n := 32) f_X7_19_7 pl_55 rf_55_2 dX7_take_29 rfl ?_
  refine w_iconst (n := 33) (nI 0) dX7_take_32 (by decide) rfl ?_
  refine w_bipush (n := 35) (nI 6) dX7_take_33 (by decide) rfl ?_
  refine w_cpy (n := 38) pl_34 pl_57 in_1243 (by decide) (by decide) (by decide) (by decide) (by decide) (Nat.le_of_ble_eq_true rfl) dX7_take_35 rfl ?_
  refine w_al1 (n := 39) dX7_take_38 rfl ?_
  refine g_R (n := 42) f_X7_22_7 pl_32 rf_32_3 dX7_take_39 rfl ?_
  refine w_iconst (n := 43) (nI 0) dX7_take_42 (by decide) rfl ?_
  refine w_al0 (n := 44) dX7_take_43 rfl ?_
  refine g_R (n := 47) f_X7_22_7 pl_55 rf_55_3 dX7_take_44 rfl ?_
  refine w_iconst (n := 48) (nI 0) dX7_take_47 (by decide) rfl ?_
  refine w_bipush (n := 50) (nI 6) dX7_take_48 (by decide) rfl ?_
  refine w_cpy (n := 53) pl_35 pl_58 in_1243 (by decide) (by decide) (by decide) (by decide) (by decide) (Nat.le_of_ble_eq_true rfl) dX7_take_50 rfl ?_
  refine w_al1 (n := 54) dX7_take_53 rfl ?_
  refine g_R (n := 57) f_X7_25_7 pl_32 rf_32_4 dX7_take_54 rfl ?_
  refine w_iconst (n := 58) (nI 0) dX7_take_57 (by decide) rfl ?_
  refine w_al0 (n := 59) dX7_take_58 rfl ?_
  refine g_R (n := 62) f_X7_25_7 pl_55 rf_55_4 dX7_take_59 rfl ?_
  refine w_iconst (n := 63) (nI 0) dX7_take_62 (by decide) rfl ?_
  refine w_bipush (n := 65) (nI 6) dX7_take_63 (by decide) rfl ?_
  refine w_cpy (n := 68) pl_36 pl_59 in_1243 (by decide) (by decide) (by decide) (by decide) (by decide) (Nat.le_of_ble_eq_true rfl) dX7_take_65 rfl ?_
  refine w_ret dX7_take_68 rfl ?_
  refine hq _ rfl (fun k hk => ⟨?_, ?_, ?_, ?_⟩) ⟨rfl, fun q k hn => ?_⟩
  · exact (show va_cpy (M.1 33) (M.1 56) (nI 0).toNatClampNeg (nI 0).toNatClampNeg (nI 6).toNatClampNeg k = M.1 33 k from cp_i hk (by decide))
  · exact (show va_cpy (M.1 34) (M.1 57) (nI 0).toNatClampNeg (nI 0).toNatClampNeg (nI 6).toNatClampNeg k = M.1 34 k from cp_i hk (by decide))
  · exact (show va_cpy (M.1 35) (M.1 58) (nI 0).toNatClampNeg (nI 0).toNatClampNeg (nI 6).toNatClampNeg k = M.1 35 k from cp_i hk (by decide))
  · exact (show va_cpy (M.1 36) (M.1 59) (nI 0).toNatClampNeg (nI 0).toNatClampNeg (nI 6).toNatClampNeg k = M.1 36 k from cp_i hk (by decide))
  · rw [dk_row_k (by omega), dk_row_k (by omega), dk_row_k (by omega), dk_row_k (by omega), dk_put_k (by omega)]

set_option maxRecDepth 20000 in
theorem c7_take32 {d : Nat} {M : dk_Mem} {Q : Option Value → dk_Mem → Prop} (hq : ∀ M2, M2.1 32 0 = M.1 55 0 → (∀ k, k < 6 → M2.1 33 k = M.1 56 k ∧ M2.1 34 k = M.1 57 k ∧ M2.1 35 k = M.1 58 k ∧ M2.1 36 k = M.1 59 k) → dk_fr (fun q _ => 32 ≤ q ∧ q ≤ 36) M M2 → Q none M2) : dk_Call (d + 1) mX7_take [.ref 32, .ref 55] M Q := by
  refine dk_enter [some (.ref 32), some (.ref 55)] (by decide) (fun _ => rfl) (fun _ => Nat.le_of_ble_eq_true rfl) ?_
  refine w_al0 (n := 1) dX7_take_0 rfl ?_
  refine w_al1 (n := 2) dX7_take_1 rfl ?_
  refine g_I (n := 5) f_X7_9_7 pl_55 dX7_take_2 rfl ?_
  refine p_I (n := 8) f_X7_9_7 pl_32 dX7_take_5 rfl ?_
  refine w_al1 (n := 9) dX7_take_8 rfl ?_
  refine g_R (n := 12) f_X7_15_7 pl_55 rf_55_1 dX7_take_9 rfl ?_
  refine w_iconst (n := 13) (nI 0) dX7_take_12 (by decide) rfl ?_
  refine w_al0 (n := 14) dX7_take_13 rfl ?_
  refine g_R (n := 17) f_X7_15_7 pl_32 rf_32_1 dX7_take_14 rfl ?_
  refine w_iconst (n := 18) (nI 0) dX7_take_17 (by decide) rfl ?_
  refine w_bipush (n := 20) (nI 6) dX7_take_18 (by decide) rfl ?_
  refine w_cpy (n := 23) pl_56 pl_33 in_1243 (by decide) (by decide) (by decide) (by decide) (by decide) (Nat.le_of_ble_eq_true rfl) dX7_take_20 rfl ?_
  refine w_al1 (n := 24) dX7_take_23 rfl ?_
  refine g_R (n := 27) f_X7_19_7 pl_55 rf_55_2 dX7_take_24 rfl ?_
  refine w_iconst (n := 28) (nI 0) dX7_take_27 (by decide) rfl ?_
  refine w_al0 (n := 29) dX7_take_28 rfl ?_
  refine g_R (n := 32) f_X7_19_7 pl_32 rf_32_2 dX7_take_29 rfl ?_
  refine w_iconst (n := 33) (nI 0) dX7_take_32 (by decide) rfl ?_
  refine w_bipush (n := 35) (nI 6) dX7_take_33 (by decide) rfl ?_
  refine w_cpy (n := 38) pl_57 pl_34 in_1243 (by decide) (by decide) (by decide) (by decide) (by decide) (Nat.le_of_ble_eq_true rfl) dX7_take_35 rfl ?_
  refine w_al1 (n := 39) dX7_take_38 rfl ?_
  refine g_R (n := 42) f_X7_22_7 pl_55 rf_55_3 dX7_take_39 rfl ?_
  refine w_iconst (n := 43) (nI 0) dX7_take_42 (by decide) rfl ?_
  refine w_al0 (n := 44) dX7_take_43 rfl ?_
  refine g_R (n := 47) f_X7_22_7 pl_32 rf_32_3 dX7_take_44 rfl ?_
  refine w_iconst (n := 48) (nI 0) dX7_take_47 (by decide) rfl ?_
  refine w_bipush (n := 50) (nI 6) dX7_take_48 (by decide) rfl ?_
  refine w_cpy (n := 53) pl_58 pl_35 in_1243 (by decide) (by decide) (by decide) (by decide) (by decide) (Nat.le_of_ble_eq_true rfl) dX7_take_50 rfl ?_
  refine w_al1 (n := 54) dX7_take_53 rfl ?_
  refine g_R (n := 57) f_X7_25_7 pl_55 rf_55_4 dX7_take_54 rfl ?_
  refine w_iconst (n := 58) (nI 0) dX7_take_57 (by decide) rfl ?_
  refine w_al0 (n := 59) dX7_take_58 rfl ?_
  refine g_R (n := 62) f_X7_25_7 pl_32 rf_32_4 dX7_take_59 rfl ?_
  refine w_iconst (n := 63) (nI 0) dX7_take_62 (by decide) rfl ?_
  refine w_bipush (n := 65) (nI 6) dX7_take_63 (by decide) rfl ?_
  refine w_cpy (n := 68) pl_59 pl_36 in_1243 (by decide) (by decide) (by decide) (by decide) (by decide) (Nat.le_of_ble_eq_true rfl) dX7_take_65 rfl ?_
  refine w_ret dX7_take_68 rfl ?_
  refine hq _ rfl (fun k hk => ⟨?_, ?_, ?_, ?_⟩) ⟨rfl, fun q k hn => ?_⟩
  · exact (show va_cpy (M.1 56) (M.1 33) (nI 0).toNatClampNeg (nI 0).toNatClampNeg (nI 6).toNatClampNeg k = M.1 56 k from cp_i hk (by decide))
  · exact (show va_cpy (M.1 57) (M.1 34) (nI 0).toNatClampNeg (nI 0).toNatClampNeg (nI 6).toNatClampNeg k = M.1 57 k from cp_i hk (by decide))
  · exact (show va_cpy (M.1 58) (M.1 35) (nI 0).toNatClampNeg (nI 0).toNatClampNeg (nI 6).toNatClampNeg k = M.1 58 k from cp_i hk (by decide))
  · exact (show va_cpy (M.1 59) (M.1 36) (nI 0).toNatClampNeg (nI 0).toNatClampNeg (nI 6).toNatClampNeg k = M.1 59 k from cp_i hk (by decide))
  · rw [dk_row_k (by omega), dk_row_k (by omega), dk_row_k (by omega), dk_row_k (by omega), dk_put_k (by omega)]

set_option maxRecDepth 20000 in
theorem c8_take {d : Nat} {M : dk_Mem} {Q : Option Value → dk_Mem → Prop} {β γ : Nat} (hβ : dk_bo β) (hγ : dk_bo γ) (hne : β ≠ γ) {g : Nat → Nat → Int32} (hg : cbk g β M) (hz : eN (g 0 5) 200) (hq : ∀ M2, cbk g γ M2 → dk_fr (fun q _ => γ ≤ q ∧ q ≤ γ + 4) M M2 → Q none M2) : dk_Call (d + 1) mX8_take [.ref γ, .ref β] M Q := by
  have hap : β + 4 < γ ∨ γ + 4 < β := by unfold dk_bo at hβ hγ; omega
  refine dk_enter [some (.ref γ), some (.ref β)] (by decide) (fun _ => rfl) (fun _ => Nat.le_of_ble_eq_true rfl) ?_
  refine w_al0 (n := 1) dX8_take_0 rfl ?_
  refine w_al1 (n := 2) dX8_take_1 rfl ?_
  refine g_I (n := 5) f_X8_9_8 (bo_is hβ) dX8_take_2 rfl ?_
  refine p_I (n := 8) f_X8_9_8 (bo_is hγ) dX8_take_5 rfl ?_
  refine w_al0 (n := 9) dX8_take_8 rfl ?_
  refine w_al1 (n := 10) dX8_take_9 rfl ?_
  refine g_I (n := 13) f_X8_28_8 (bo_is hβ) dX8_take_10 rfl ?_
  rw [dk_put_k (by omega), hg.2.1]
  refine p_I (n := 16) f_X8_28_8 (bo_is hγ) dX8_take_13 rfl ?_
  refine w_al1 (n := 17) dX8_take_16 rfl ?_
  refine g_R (n := 20) f_X8_15_8 (bo_is hβ) (bo_rf hβ).1 dX8_take_17 rfl ?_
  refine w_iconst (n := 21) (nI 0) dX8_take_20 (by decide) rfl ?_
  refine w_al0 (n := 22) dX8_take_21 rfl ?_
  refine g_R (n := 25) f_X8_15_8 (bo_is hγ) (bo_rf hγ).1 dX8_take_22 rfl ?_
  refine w_iconst (n := 26) (nI 0) dX8_take_25 (by decide) rfl ?_
  refine w_bipush (n := 28) (nI 8) dX8_take_26 (by decide) rfl ?_
  refine w_cpy (n := 31) (bo_ar hβ).1 (bo_ar hγ).1 in_1238 (by decide) (by decide) (by decide) (by decide) (by decide) (Nat.le_of_ble_eq_true rfl) dX8_take_28 rfl ?_
  refine w_al1 (n := 32) dX8_take_31 rfl ?_
  refine g_R (n := 35) f_X8_19_8 (bo_is hβ) (bo_rf hβ).2.1 dX8_take_32 rfl ?_
  refine w_iconst (n := 36) (nI 0) dX8_take_35 (by decide) rfl ?_
  refine w_al0 (n := 37) dX8_take_36 rfl ?_
  refine g_R (n := 40) f_X8_19_8 (bo_is hγ) (bo_rf hγ).2.1 dX8_take_37 rfl ?_
  refine w_iconst (n := 41) (nI 0) dX8_take_40 (by decide) rfl ?_
  refine w_bipush (n := 43) (nI 8) dX8_take_41 (by decide) rfl ?_
  refine w_cpy (n := 46) (bo_ar hβ).2.1 (bo_ar hγ).2.1 in_1238 (by decide) (by decide) (by decide) (by decide) (by decide) (Nat.le_of_ble_eq_true rfl) dX8_take_43 rfl ?_
  refine w_al1 (n := 47) dX8_take_46 rfl ?_
  refine g_R (n := 50) f_X8_22_8 (bo_is hβ) (bo_rf hβ).2.2.1 dX8_take_47 rfl ?_
  refine w_iconst (n := 51) (nI 0) dX8_take_50 (by decide) rfl ?_
  refine w_al0 (n := 52) dX8_take_51 rfl ?_
  refine g_R (n := 55) f_X8_22_8 (bo_is hγ) (bo_rf hγ).2.2.1 dX8_take_52 rfl ?_
  refine w_iconst (n := 56) (nI 0) dX8_take_55 (by decide) rfl ?_
  refine w_bipush (n := 58) (nI 9) dX8_take_56 (by decide) rfl ?_
  refine w_cpy (n := 61) (bo_ar hβ).2.2.1 (bo_ar hγ).2.2.1 in_1238 (by decide) (by decide) (by decide) (by decide) (by decide) (Nat.le_of_ble_eq_true rfl) dX8_take_58 rfl ?_
  refine w_al1 (n := 62) dX8_take_61 rfl ?_
  refine g_R (n := 65) f_X8_25_8 (bo_is hβ) (bo_rf hβ).2.2.2 dX8_take_62 rfl ?_
  refine w_iconst (n := 66) (nI 0) dX8_take_65 (by decide) rfl ?_
  refine w_al0 (n := 67) dX8_take_66 rfl ?_
  refine g_R (n := 70) f_X8_25_8 (bo_is hγ) (bo_rf hγ).2.2.2 dX8_take_67 rfl ?_
  refine w_iconst (n := 71) (nI 0) dX8_take_70 (by decide) rfl ?_
  refine w_al0 (n := 72) dX8_take_71 rfl ?_
  refine g_I (n := 75) f_X8_28_8 (bo_is hγ) dX8_take_72 rfl ?_
  rw [dk_row_k (by omega), dk_row_k (by omega), dk_row_k (by omega), dk_put_s]
  have ez : g 0 5 = nI (tN (g 0 5)) := hz.1
  rw [ez]
  refine w_cpy (n := 78) (bo_ar hβ).2.2.2 (bo_ar hγ).2.2.2 in_1238 (by decide) (by decide) (Int32.not_lt.mpr (nI_pos' (by have := hz.2; omega))) (by rw [show (nI (tN (g 0 5))).toNatClampNeg = tN (g 0 5) from nI_clamp (by have := hz.2; omega)]; have := hz.2; show 0 + _ ≤ _; omega) (by rw [show (nI (tN (g 0 5))).toNatClampNeg = tN (g 0 5) from nI_clamp (by have := hz.2; omega)]; have := hz.2; show 0 + _ ≤ _; omega) (Nat.le_of_ble_eq_true rfl) dX8_take_75 rfl ?_
  refine w_ret dX8_take_78 rfl ?_
  refine hq _ ⟨?_, ?_, fun k hk => ⟨?_, ?_⟩, fun k hk => ?_, fun k hk hl => ?_⟩ ⟨rfl, fun q k hn => ?_⟩
  · rw [dk_row_k (by omega), dk_row_k (by omega), dk_row_k (by omega), dk_row_k (by omega), dk_put_k (by omega), dk_put_s]; exact hg.1
  · rw [dk_row_k (by omega), dk_row_k (by omega), dk_row_k (by omega), dk_row_k (by omega), dk_put_s]; exact ez.symm
  · rw [dk_row_k (by omega), dk_row_k (by omega), dk_row_k (by omega), dk_row_at, cp_i hk (by decide), dk_put_k (by omega), dk_put_k (by omega)]; exact (hg.2.2.1 k hk).1
  · rw [dk_row_k (by omega), dk_row_k (by omega), dk_row_at, cp_i hk (by decide), dk_row_k (by omega), dk_put_k (by omega), dk_put_k (by omega)]; exact (hg.2.2.1 k hk).2
  · rw [dk_row_k (by omega), dk_row_at, cp_i hk (by decide), dk_row_k (by omega), dk_row_k (by omega), dk_put_k (by omega), dk_put_k (by omega)]; exact hg.2.2.2.1 k hk
  · have hz2_h := hz.2
    have hl2_h := hl
    rw [ez, nI_ltI (by omega) (by omega)] at hl2_h
    rw [dk_row_at, cp_i hl2_h (by omega), dk_row_k (by omega), dk_row_k (by omega), dk_row_k (by omega), dk_put_k (by omega), dk_put_k (by omega)]; exact hg.2.2.2.2 k hk hl
  · rw [dk_row_k (by omega), dk_row_k (by omega), dk_row_k (by omega), dk_row_k (by omega), dk_put_k (by omega), dk_put_k (by omega)]

theorem dk_genM {d : Nat} {μ : dk_Mt} {pc : Nat} {L : List (Option Value)} {st : List Value} {M : dk_Mem} {Q : Option Value → dk_Mem → Prop} (h : ∀ X, X = M → dk_W d μ pc L st X Q) : dk_W d μ pc L st M Q := h M rfl
/-- the books stand apart: the street's and the spare one change places, the kept one stays -/
def cB (M : dk_Mem) : Prop := ∃ β γ, ((β = 24 ∧ γ = 82) ∨ (β = 82 ∧ γ = 24)) ∧ M.1 14 13 = nI β ∧ M.1 0 8 = nI γ ∧ M.1 37 13 = nI 47 ∧ eN (M.1 β 5) 200 ∧ eN (M.1 47 5) 200
theorem nI_bo {β γ : Nat} (h1_h : dk_bo β) (h2_h : dk_bo γ) (e : nI β = nI γ) : β = γ := by
  unfold dk_bo at h1_h h2_h
  exact (nI_eq (by omega) (by omega)).mp e

set_option maxRecDepth 20000 in
theorem c10_take37 {d : Nat} {M : dk_Mem} {Q : Option Value → dk_Mem → Prop} {K : sg_K} (hK : cK K M) {β γ : Nat} (hβ : dk_bo β) (hγ : dk_bo γ) (hne : β ≠ γ) (hb1_h : M.1 14 13 = nI β) (hc1_h : M.1 37 13 = nI γ) (hz5_h : eN (M.1 β 5) 200) (e7_h : γ = 47) (hq : ∀ M2, cK K (shf M2) → eN (M2.1 γ 5) 200 → dk_fr (fun q k => (37 ≤ q ∧ q ≤ 46 ∧ ¬ (q = 37 ∧ k = 13)) ∨ (55 ≤ q ∧ q ≤ 59) ∨ (γ ≤ q ∧ q ≤ γ + 4)) M M2 → Q none M2) : dk_Call (d + 2) mX10_take [.ref 37, .ref 14] M Q := by
  obtain ⟨⟨o, p1_h, p2_h, p3_h⟩, hs, hc, ⟨g, β0, hcb, hβ0, hg0_h, hβ01⟩, hcr, hsc, hz, β1, hβ1, hβ11, hβ12⟩ := id hK
  have o4_h := o.2.2.2.1
  have hm : dk_mo 22 := Or.inl rfl
  have hm5_h : dk_mo 45 := Or.inr (Or.inl rfl)
  have eb0_h : β0 = β := nI_bo hβ0 hβ (hβ01.symm.trans hb1_h)
  have eb1_h : β1 = β := nI_bo hβ1 hβ (hβ11.symm.trans hb1_h)
  have hg : cbk g β M := by rw [← eb0_h]; exact hg0_h
  have hβ2 : M.1 β 0 = nI (K.1 6) := by rw [← eb1_h]; exact hβ12
  have hz6_h : eN (g 0 5) 200 := by rw [← hg.2.1]; exact hz5_h
  refine dk_enter [some (.ref 37), some (.ref 14)] (by decide) (fun _ => rfl) (fun _ => Nat.le_of_ble_eq_true rfl) ?_
  refine w_al0 (n := 1) dX10_take_0 rfl ?_
  refine w_al1 (n := 2) dX10_take_1 rfl ?_
  refine g_I (n := 5) f_X10_9_10 pl_14 dX10_take_2 rfl ?_
  refine p_I (n := 8) f_X10_9_10 pl_37 dX10_take_5 rfl ?_
  refine w_al1 (n := 9) dX10_take_8 rfl ?_
  refine g_R (n := 12) f_X10_15_10 pl_14 rf_14_2 dX10_take_9 rfl ?_
  refine w_iconst (n := 13) (nI 0) dX10_take_12 (by decide) rfl ?_
  refine w_al0 (n := 14) dX10_take_13 rfl ?_
  refine g_R (n := 17) f_X10_15_10 pl_37 rf_37_2 dX10_take_14 rfl ?_
  refine w_iconst (n := 18) (nI 0) dX10_take_17 (by decide) rfl ?_
  refine w_bipush (n := 20) (nI 6) dX10_take_18 (by decide) rfl ?_
  refine w_cpy (n := 23) pl_15 pl_38 in_1232 (by decide) (by decide) (by decide) (by decide) (by decide) (Nat.le_of_ble_eq_true rfl) dX10_take_20 rfl ?_
  refine w_al1 (n := 24) dX10_take_23 rfl ?_
  refine g_R (n := 27) f_X10_19_10 pl_14 rf_14_3 dX10_take_24 rfl ?_
  refine w_iconst (n := 28) (nI 0) dX10_take_27 (by decide) rfl ?_
  refine w_al0 (n := 29) dX10_take_28 rfl ?_
  refine g_R (n := 32) f_X10_19_10 pl_37 rf_37_3 dX10_take_29 rfl ?_
  refine w_iconst (n := 33) (nI 0) dX10_take_32 (by decide) rfl ?_
  refine w_bipush (n := 35) (nI 6) dX10_take_33 (by decide) rfl ?_
  refine w_cpy (n := 38) pl_16 pl_39 in_1232 (by decide) (by decide) (by decide) (by decide) (by decide) (Nat.le_of_ble_eq_true rfl) dX10_take_35 rfl ?_
  refine w_al1 (n := 39) dX10_take_38 rfl ?_
  refine g_R (n := 42) f_X10_22_10 pl_14 rf_14_4 dX10_take_39 rfl ?_
  refine w_iconst (n := 43) (nI 0) dX10_take_42 (by decide) rfl ?_
  refine w_al0 (n := 44) dX10_take_43 rfl ?_
  refine g_R (n := 47) f_X10_22_10 pl_37 rf_37_4 dX10_take_44 rfl ?_
  refine w_iconst (n := 48) (nI 0) dX10_take_47 (by decide) rfl ?_
  refine w_bipush (n := 50) (nI 6) dX10_take_48 (by decide) rfl ?_
  refine w_cpy (n := 53) pl_17 pl_40 in_1232 (by decide) (by decide) (by decide) (by decide) (by decide) (Nat.le_of_ble_eq_true rfl) dX10_take_50 rfl ?_
  refine w_al1 (n := 54) dX10_take_53 rfl ?_
  refine g_R (n := 57) f_X10_25_10 pl_14 rf_14_5 dX10_take_54 rfl ?_
  refine w_iconst (n := 58) (nI 0) dX10_take_57 (by decide) rfl ?_
  refine w_al0 (n := 59) dX10_take_58 rfl ?_
  refine g_R (n := 62) f_X10_25_10 pl_37 rf_37_5 dX10_take_59 rfl ?_
  refine w_iconst (n := 63) (nI 0) dX10_take_62 (by decide) rfl ?_
  refine w_bipush (n := 65) (nI 6) dX10_take_63 (by decide) rfl ?_
  refine w_cpy (n := 68) pl_18 pl_41 in_1232 (by decide) (by decide) (by decide) (by decide) (by decide) (Nat.le_of_ble_eq_true rfl) dX10_take_65 rfl ?_
  refine w_al1 (n := 69) dX10_take_68 rfl ?_
  refine g_R (n := 72) f_X10_28_10 pl_14 rf_14_6 dX10_take_69 rfl ?_
  refine w_iconst (n := 73) (nI 0) dX10_take_72 (by decide) rfl ?_
  refine w_al0 (n := 74) dX10_take_73 rfl ?_
  refine g_R (n := 77) f_X10_28_10 pl_37 rf_37_6 dX10_take_74 rfl ?_
  refine w_iconst (n := 78) (nI 0) dX10_take_77 (by decide) rfl ?_
  refine w_bipush (n := 80) (nI 16) dX10_take_78 (by decide) rfl ?_
  refine w_cpy (n := 83) pl_19 pl_42 in_1232 (by decide) (by decide) (by decide) (by decide) (by decide) (Nat.le_of_ble_eq_true rfl) dX10_take_80 rfl ?_
  refine w_al1 (n := 84) dX10_take_83 rfl ?_
  refine g_R (n := 87) f_X10_31_10 pl_14 rf_14_7 dX10_take_84 rfl ?_
  refine w_iconst (n := 88) (nI 0) dX10_take_87 (by decide) rfl ?_
  refine w_al0 (n := 89) dX10_take_88 rfl ?_
  refine g_R (n := 92) f_X10_31_10 pl_37 rf_37_7 dX10_take_89 rfl ?_
  refine w_iconst (n := 93) (nI 0) dX10_take_92 (by decide) rfl ?_
  refine w_bipush (n := 95) (nI 6) dX10_take_93 (by decide) rfl ?_
  refine w_cpy (n := 98) pl_20 pl_43 in_1232 (by decide) (by decide) (by decide) (by decide) (by decide) (Nat.le_of_ble_eq_true rfl) dX10_take_95 rfl ?_
  refine w_al1 (n := 99) dX10_take_98 rfl ?_
  refine g_R (n := 102) f_X10_34_10 pl_14 rf_14_8 dX10_take_99 rfl ?_
  refine w_iconst (n := 103) (nI 0) dX10_take_102 (by decide) rfl ?_
  refine w_al0 (n := 104) dX10_take_103 rfl ?_
  refine g_R (n := 107) f_X10_34_10 pl_37 rf_37_8 dX10_take_104 rfl ?_
  refine w_iconst (n := 108) (nI 0) dX10_take_107 (by decide) rfl ?_
  refine w_bipush (n := 110) (nI 6) dX10_take_108 (by decide) rfl ?_
  refine w_cpy (n := 113) pl_21 pl_44 in_1232 (by decide) (by decide) (by decide) (by decide) (by decide) (Nat.le_of_ble_eq_true rfl) dX10_take_110 rfl ?_
  refine dk_genM (fun X1 hX1 => ?_)
  have c1_h : ∀ k, k < 6 → X1.1 38 k = M.1 15 k := fun k hk => by rw [hX1]; exact (show va_cpy (M.1 15) (M.1 38) (nI 0).toNatClampNeg (nI 0).toNatClampNeg (nI 6).toNatClampNeg k = M.1 15 k from cp_i hk (by decide))
  have c2_h : ∀ k, k < 6 → X1.1 39 k = M.1 16 k := fun k hk => by rw [hX1]; exact (show va_cpy (M.1 16) (M.1 39) (nI 0).toNatClampNeg (nI 0).toNatClampNeg (nI 6).toNatClampNeg k = M.1 16 k from cp_i hk (by decide))
  have c3_h : ∀ k, k < 6 → X1.1 40 k = M.1 17 k := fun k hk => by rw [hX1]; exact (show va_cpy (M.1 17) (M.1 40) (nI 0).toNatClampNeg (nI 0).toNatClampNeg (nI 6).toNatClampNeg k = M.1 17 k from cp_i hk (by decide))
  have c4_h : ∀ k, k < 6 → X1.1 41 k = M.1 18 k := fun k hk => by rw [hX1]; exact (show va_cpy (M.1 18) (M.1 41) (nI 0).toNatClampNeg (nI 0).toNatClampNeg (nI 6).toNatClampNeg k = M.1 18 k from cp_i hk (by decide))
  have c5_h : ∀ k, k < 16 → X1.1 42 k = M.1 19 k := fun k hk => by rw [hX1]; exact (show va_cpy (M.1 19) (M.1 42) (nI 0).toNatClampNeg (nI 0).toNatClampNeg (nI 16).toNatClampNeg k = M.1 19 k from cp_i hk (by decide))
  have c6_h : ∀ k, k < 6 → X1.1 43 k = M.1 20 k := fun k hk => by rw [hX1]; exact (show va_cpy (M.1 20) (M.1 43) (nI 0).toNatClampNeg (nI 0).toNatClampNeg (nI 6).toNatClampNeg k = M.1 20 k from cp_i hk (by decide))
  have c7_h : ∀ k, k < 6 → X1.1 44 k = M.1 21 k := fun k hk => by rw [hX1]; exact (show va_cpy (M.1 21) (M.1 44) (nI 0).toNatClampNeg (nI 0).toNatClampNeg (nI 6).toNatClampNeg k = M.1 21 k from cp_i hk (by decide))
  have c0_h : X1.1 37 1 = M.1 14 1 := by rw [hX1]; rfl
  have fr1_h : dk_fr (fun q k => 37 ≤ q ∧ q ≤ 44 ∧ ¬ (q = 37 ∧ k ≠ 1)) M X1 := by
    rw [hX1]
    refine ⟨rfl, fun q k hn => ?_⟩
    rw [dk_row_k (by omega), dk_row_k (by omega), dk_row_k (by omega), dk_row_k (by omega), dk_row_k (by omega), dk_row_k (by omega), dk_row_k (by omega), dk_put_k (by omega)]
  clear hX1
  have hcX : cm 22 K.1 X1 := by
    have hc0_h : cm 22 K.1 M := hc
    exact hc0_h.fr fr1_h (fun q k h z => by omega)
  refine w_al0 (n := 114) dX10_take_113 rfl ?_
  refine g_R (n := 117) f_X10_40_10 pl_37 rf_37_9 dX10_take_114 rfl ?_
  refine w_al1 (n := 118) dX10_take_117 rfl ?_
  refine g_R (n := 121) f_X10_40_10 pl_14 rf_14_9 dX10_take_118 rfl ?_
  refine w_cV1 (n := 124) pl_45 cl_4 s0_X4_take k_X10_83 (Nat.le_of_ble_eq_true rfl) dX10_take_121 rfl (c4_take hm5_h hm (by decide) hcX o4_h (fun M2 k1_h k2_h => ?_))
  refine w_al0 (n := 125) dX10_take_124 rfl ?_
  refine w_al1 (n := 126) dX10_take_125 rfl ?_
  refine g_I (n := 129) f_X10_44_10 pl_14 dX10_take_126 rfl ?_
  refine p_I (n := 132) f_X10_44_10 pl_37 dX10_take_129 rfl ?_
  refine w_al0 (n := 133) dX10_take_132 rfl ?_
  refine w_al1 (n := 134) dX10_take_133 rfl ?_
  refine g_I (n := 137) f_X10_47_10 pl_14 dX10_take_134 rfl ?_
  refine p_I (n := 140) f_X10_47_10 pl_37 dX10_take_137 rfl ?_
  refine w_al0 (n := 141) dX10_take_140 rfl ?_
  refine w_al1 (n := 142) dX10_take_141 rfl ?_
  refine g_I (n := 145) f_X10_50_10 pl_14 dX10_take_142 rfl ?_
  refine p_I (n := 148) f_X10_50_10 pl_37 dX10_take_145 rfl ?_
  refine dk_genM (fun X2 hX2 => ?_)
  have c10_h : X2.1 37 10 = M.1 14 10 := by rw [hX2, dk_put_k (by omega), dk_put_k (by omega), dk_put_s, k2_h.2 _ _ (by omega), fr1_h.2 _ _ (by omega)]
  have c11_h : X2.1 37 11 = M.1 14 11 := by rw [hX2, dk_put_k (by omega), dk_put_s, dk_put_k (by omega), k2_h.2 _ _ (by omega), fr1_h.2 _ _ (by omega)]
  have c12_h : X2.1 37 12 = M.1 14 12 := by rw [hX2, dk_put_s, dk_put_k (by omega), dk_put_k (by omega), k2_h.2 _ _ (by omega), fr1_h.2 _ _ (by omega)]
  have fr2_h : dk_fr (fun q k => q = 37 ∧ 10 ≤ k ∧ k ≤ 12) M2 X2 := by
    rw [hX2]
    refine ⟨rfl, fun q k hn => ?_⟩
    rw [dk_put_k (by omega), dk_put_k (by omega), dk_put_k (by omega)]
  clear hX2
  have fr3_h : dk_fr (fun q k => 37 ≤ q ∧ q ≤ 46 ∧ ¬ (q = 37 ∧ k = 13)) M X2 := ((fr1_h.up (fun q k z => by omega)).tr (k2_h.up (fun q k z => by omega))).tr (fr2_h.up (fun q k z => by omega))
  have hb2_h : X2.1 14 13 = nI β := (fr3_h.2 _ _ (by omega)).trans hb1_h
  have hc2_h : X2.1 37 13 = nI γ := (fr3_h.2 _ _ (by omega)).trans hc1_h
  have hg2_h : cbk g β X2 := hg.fr fr3_h (fun q k h1_h h2_h z => by unfold dk_bo at hβ hγ; omega)
  refine w_al0 (n := 149) dX10_take_148 rfl ?_
  refine g_M (n := 152) f_X10_56_10 pl_37 (dk_ref_i hc2_h (by unfold dk_bo at hγ; omega)) dX10_take_149 rfl ?_
  refine w_al1 (n := 153) dX10_take_152 rfl ?_
  refine g_M (n := 156) f_X10_56_10 pl_14 (dk_ref_i hb2_h (by unfold dk_bo at hβ; omega)) dX10_take_153 rfl ?_
  refine w_cV1 (n := 159) (bo_is hγ) cl_8 s0_X8_take k_X10_87 (Nat.le_of_ble_eq_true rfl) dX10_take_156 rfl (c8_take hβ hγ hne hg2_h hz6_h (fun M3 r1_h r2_h => ?_))
  refine w_al0 (n := 160) dX10_take_159 rfl ?_
  refine g_R (n := 163) f_X10_63_10 pl_37 rf_37_14 dX10_take_160 rfl ?_
  refine w_al1 (n := 164) dX10_take_163 rfl ?_
  refine g_R (n := 167) f_X10_63_10 pl_14 rf_14_14 dX10_take_164 rfl ?_
  refine w_cV1 (n := 170) pl_55 cl_7 s0_X7_take k_X10_90 (Nat.le_of_ble_eq_true rfl) dX10_take_167 rfl (c7_take55 (fun M4 q1_h q2_h q4_h => ?_))
  refine w_ret dX10_take_170 rfl ?_
  have up : ∀ q k, 37 ≤ q → q ≤ 44 → ¬ (q = 37 ∧ 10 ≤ k) → M4.1 q k = X1.1 q k := fun q k h1_h h2_h h3_h => by rw [q4_h.2 q k (by omega), r2_h.2 q k (by unfold dk_bo at hγ; omega), fr2_h.2 q k (by omega), k2_h.2 q k (by omega)]
  have up5_h : ∀ k, 10 ≤ k → k ≤ 13 → M4.1 37 k = X2.1 37 k := fun k h1_h h2_h => by rw [q4_h.2 37 k (by omega), r2_h.2 37 k (by unfold dk_bo at hγ; omega)]
  have dn : ∀ q k, 32 ≤ q → q ≤ 36 → M3.1 q k = M.1 q k := fun q k h1_h h2_h => by rw [r2_h.2 q k (by unfold dk_bo at hγ; omega), fr3_h.2 q k (by omega)]
  have g4_h : cbk g γ M4 := r1_h.fr q4_h (fun q k h1_h h2_h z => by unfold dk_bo at hγ; omega)
  have frT : dk_fr (fun q k => (37 ≤ q ∧ q ≤ 46 ∧ ¬ (q = 37 ∧ k = 13)) ∨ (55 ≤ q ∧ q ≤ 59) ∨ (γ ≤ q ∧ q ≤ γ + 4)) M M4 := ((fr3_h.up (fun q k z => Or.inl z)).tr (r2_h.up (fun q k z => Or.inr (Or.inr z)))).tr (q4_h.up (fun q k z => Or.inr (Or.inl z)))
  have hcm : cm 45 K.1 M4 := (((k1_h.fr fr2_h (fun q k h z => by omega)).fr r2_h (fun q k h z => by unfold dk_bo at hγ; omega)).fr q4_h (fun q k h z => by omega))
  have k6_h : M4.1 γ 0 = nI (K.1 6) := by rw [g4_h.1, ← hg.1]; exact hβ2
  have s1_h : M4.1 37 1 = nI (K.1 4) := by rw [up _ _ (by omega) (by omega) (by omega), c0_h]; exact hs.1
  have s2_h : M4.1 37 10 = nI (K.1 0) := by rw [up5_h _ (by omega) (by omega), c10_h]; exact hs.2.1
  have s3_h : ∀ i, i < K.1 4 → M4.1 38 i = nI (K.1 (35 + 5 * i)) ∧ M4.1 39 i = nI (K.1 (37 + 5 * i)) ∧ M4.1 40 i = nI (K.1 (38 + 5 * i)) ∧ M4.1 41 i = nI (sg_bears K.1 i) := fun i hi => by
    rw [up _ _ (by omega) (by omega) (by omega), up _ _ (by omega) (by omega) (by omega), up _ _ (by omega) (by omega) (by omega), up _ _ (by omega) (by omega) (by omega), c1_h i (by omega), c2_h i (by omega), c3_h i (by omega), c4_h i (by omega)]
    exact hs.2.2.1 i hi
  have s4_h : ∀ y, y < 16 → M4.1 42 y = nI (K.1 (7 + y)) := fun y hy => by rw [up _ _ (by omega) (by omega) (by omega), c5_h y hy]; exact hs.2.2.2.1 y hy
  have s5_h : ∀ j, j < 6 → M4.1 43 j = nI (K.1 (23 + 2 * j)) ∧ M4.1 44 j = nI (K.1 (24 + 2 * j)) := fun j hj => by rw [up _ _ (by omega) (by omega) (by omega), up _ _ (by omega) (by omega) (by omega), c6_h j hj, c7_h j hj]; exact hs.2.2.2.2 j hj
  have t0_h : M4.1 55 0 = nI (K.1 5) := by rw [q1_h, dn _ _ (by omega) (by omega)]; exact hcr.1
  have t1_h : ∀ r, r < K.1 5 → M4.1 56 r = nI (K.1 (65 + 4 * r)) ∧ M4.1 57 r = nI (K.1 (66 + 4 * r)) ∧ M4.1 58 r = nI (K.1 (67 + 4 * r)) ∧ M4.1 59 r = nI (K.1 (68 + 4 * r)) := fun r hr => by
    have r6_h : r < 6 := by have := o.2.2.2.2.1; omega
    rw [(q2_h r r6_h).1, (q2_h r r6_h).2.1, (q2_h r r6_h).2.2.1, (q2_h r r6_h).2.2.2, dn _ _ (by omega) (by omega), dn _ _ (by omega) (by omega), dn _ _ (by omega) (by omega), dn _ _ (by omega) (by omega)]
    exact hcr.2 r hr
  have s6_h : M4.1 37 11 = K.2.2.1 := by rw [up5_h _ (by omega) (by omega), c11_h]; exact hsc
  have s7_h : M4.1 37 12 = K.2.2.2 := by rw [up5_h _ (by omega) (by omega), c12_h]; exact hz
  have s8_h : M4.1 37 13 = nI γ := by rw [up5_h _ (by omega) (by omega)]; exact hc2_h
  have z9_h : eN (M4.1 γ 5) 200 := by rw [g4_h.2.1]; exact hz6_h
  subst e7_h
  exact hq M4 ⟨⟨o, p1_h, p2_h, p3_h⟩, ⟨s1_h, s2_h, s3_h, s4_h, s5_h⟩, hcm, ⟨g, 47, hcb, hγ, g4_h, s8_h⟩, ⟨t0_h, t1_h⟩, s6_h, s7_h, 47, hγ, s8_h, k6_h⟩ z9_h frT

set_option maxRecDepth 20000 in
theorem c10_take14 {d : Nat} {M : dk_Mem} {Q : Option Value → dk_Mem → Prop} {K : sg_K} (hK : cK K (shf M)) {β γ : Nat} (hβ : dk_bo β) (hγ : dk_bo γ) (hne : β ≠ γ) (hb1_h : M.1 37 13 = nI β) (hc1_h : M.1 14 13 = nI γ) (hz5_h : eN (M.1 β 5) 200) (e7_h : β = 47) (hq : ∀ M2, cK K M2 → eN (M2.1 γ 5) 200 → dk_fr (fun q k => (14 ≤ q ∧ q ≤ 23 ∧ ¬ (q = 14 ∧ k = 13)) ∨ (32 ≤ q ∧ q ≤ 36) ∨ (γ ≤ q ∧ q ≤ γ + 4)) M M2 → Q none M2) : dk_Call (d + 2) mX10_take [.ref 14, .ref 37] M Q := by
  obtain ⟨⟨o, p1_h, p2_h, p3_h⟩, hs, hc, ⟨g, β0, hcb, hβ0, hg0_h, hβ01⟩, hcr, hsc, hz, β1, hβ1, hβ11, hβ12⟩ := id hK
  have o4_h := o.2.2.2.1
  have hm : dk_mo 22 := Or.inl rfl
  have hm5_h : dk_mo 45 := Or.inr (Or.inl rfl)
  have eb0_h : β0 = β := nI_bo hβ0 hβ (hβ01.symm.trans hb1_h)
  have eb1_h : β1 = β := nI_bo hβ1 hβ (hβ11.symm.trans hb1_h)
  have hg : cbk g β M := by rw [eb0_h, e7_h] at hg0_h; rw [e7_h]; exact hg0_h
  have hβ2 : M.1 β 0 = nI (K.1 6) := by rw [eb1_h, e7_h] at hβ12; rw [e7_h]; exact hβ12
  have hz6_h : eN (g 0 5) 200 := by rw [← hg.2.1]; exact hz5_h
  refine dk_enter [some (.ref 14), some (.ref 37)] (by decide) (fun _ => rfl) (fun _ => Nat.le_of_ble_eq_true rfl) ?_
  refine w_al0 (n := 1) dX10_take_0 rfl ?_
  refine w_al1 (n := 2) dX10_take_1 rfl ?_
  refine g_I (n := 5) f_X10_9_10 pl_37 dX10_take_2 rfl ?_
  refine p_I (n := 8) f_X10_9_10 pl_14 dX10_take_5 rfl ?_
  refine w_al1 (n := 9) dX10_take_8 rfl ?_
  refine g_R (n := 12) f_X10_15_10 pl_37 rf_37_2 dX10_take_9 rfl ?_
  refine w_iconst (n := 13) (nI 0) dX10_take_12 (by decide) rfl ?_
  refine w_al0 (n := 14) dX10_take_13 rfl ?_
  refine g_R (n := 17) f_X10_15_10 pl_14 rf_14_2 dX10_take_14 rfl ?_
  refine w_iconst (n := 18) (nI 0) dX10_take_17 (by decide) rfl ?_
  refine w_bipush (n := 20) (nI 6) dX10_take_18 (by decide) rfl ?_
  refine w_cpy (n := 23) pl_38 pl_15 in_1232 (by decide) (by decide) (by decide) (by decide) (by decide) (Nat.le_of_ble_eq_true rfl) dX10_take_20 rfl ?_
  refine w_al1 (n := 24) dX10_take_23 rfl ?_
  refine g_R (n := 27) f_X10_19_10 pl_37 rf_37_3 dX10_take_24 rfl ?_
  refine w_iconst (n := 28) (nI 0) dX10_take_27 (by decide) rfl ?_
  refine w_al0 (n := 29) dX10_take_28 rfl ?_
  refine g_R (n := 32) f_X10_19_10 pl_14 rf_14_3 dX10_take_29 rfl ?_
  refine w_iconst (n := 33) (nI 0) dX10_take_32 (by decide) rfl ?_
  refine w_bipush (n := 35) (nI 6) dX10_take_33 (by decide) rfl ?_
  refine w_cpy (n := 38) pl_39 pl_16 in_1232 (by decide) (by decide) (by decide) (by decide) (by decide) (Nat.le_of_ble_eq_true rfl) dX10_take_35 rfl ?_
  refine w_al1 (n := 39) dX10_take_38 rfl ?_
  refine g_R (n := 42) f_X10_22_10 pl_37 rf_37_4 dX10_take_39 rfl ?_
  refine w_iconst (n := 43) (nI 0) dX10_take_42 (by decide) rfl ?_
  refine w_al0 (n := 44) dX10_take_43 rfl ?_
  refine g_R (n := 47) f_X10_22_10 pl_14 rf_14_4 dX10_take_44 rfl ?_
  refine w_iconst (n := 48) (nI 0) dX10_take_47 (by decide) rfl ?_
  refine w_bipush (n := 50) (nI 6) dX10_take_48 (by decide) rfl ?_
  refine w_cpy (n := 53) pl_40 pl_17 in_1232 (by decide) (by decide) (by decide) (by decide) (by decide) (Nat.le_of_ble_eq_true rfl) dX10_take_50 rfl ?_
  refine w_al1 (n := 54) dX10_take_53 rfl ?_
  refine g_R (n := 57) f_X10_25_10 pl_37 rf_37_5 dX10_take_54 rfl ?_
  refine w_iconst (n := 58) (nI 0) dX10_take_57 (by decide) rfl ?_
  refine w_al0 (n := 59) dX10_take_58 rfl ?_
  refine g_R (n := 62) f_X10_25_10 pl_14 rf_14_5 dX10_take_59 rfl ?_
  refine w_iconst (n := 63) (nI 0) dX10_take_62 (by decide) rfl ?_
  refine w_bipush (n := 65) (nI 6) dX10_take_63 (by decide) rfl ?_
  refine w_cpy (n := 68) pl_41 pl_18 in_1232 (by decide) (by decide) (by decide) (by decide) (by decide) (Nat.le_of_ble_eq_true rfl) dX10_take_65 rfl ?_
  refine w_al1 (n := 69) dX10_take_68 rfl ?_
  refine g_R (n := 72) f_X10_28_10 pl_37 rf_37_6 dX10_take_69 rfl ?_
  refine w_iconst (n := 73) (nI 0) dX10_take_72 (by decide) rfl ?_
  refine w_al0 (n := 74) dX10_take_73 rfl ?_
  refine g_R (n := 77) f_X10_28_10 pl_14 rf_14_6 dX10_take_74 rfl ?_
  refine w_iconst (n := 78) (nI 0) dX10_take_77 (by decide) rfl ?_
  refine w_bipush (n := 80) (nI 16) dX10_take_78 (by decide) rfl ?_
  refine w_cpy (n := 83) pl_42 pl_19 in_1232 (by decide) (by decide) (by decide) (by decide) (by decide) (Nat.le_of_ble_eq_true rfl) dX10_take_80 rfl ?_
  refine w_al1 (n := 84) dX10_take_83 rfl ?_
  refine g_R (n := 87) f_X10_31_10 pl_37 rf_37_7 dX10_take_84 rfl ?_
  refine w_iconst (n := 88) (nI 0) dX10_take_87 (by decide) rfl ?_
  refine w_al0 (n := 89) dX10_take_88 rfl ?_
  refine g_R (n := 92) f_X10_31_10 pl_14 rf_14_7 dX10_take_89 rfl ?_
  refine w_iconst (n := 93) (nI 0) dX10_take_92 (by decide) rfl ?_
  refine w_bipush (n := 95) (nI 6) dX10_take_93 (by decide) rfl ?_
  refine w_cpy (n := 98) pl_43 pl_20 in_1232 (by decide) (by decide) (by decide) (by decide) (by decide) (Nat.le_of_ble_eq_true rfl) dX10_take_95 rfl ?_
  refine w_al1 (n := 99) dX10_take_98 rfl ?_
  refine g_R (n := 102) f_X10_34_10 pl_37 rf_37_8 dX10_take_99 rfl ?_
  refine w_iconst (n := 103) (nI 0) dX10_take_102 (by decide) rfl ?_
  refine w_al0 (n := 104) dX10_take_103 rfl ?_
  refine g_R (n := 107) f_X10_34_10 pl_14 rf_14_8 dX10_take_104 rfl ?_
  refine w_iconst (n := 108) (nI 0) dX10_take_107 (by decide) rfl ?_
  refine w_bipush (n := 110) (nI 6) dX10_take_108 (by decide) rfl ?_
  refine w_cpy (n := 113) pl_44 pl_21 in_1232 (by decide) (by decide) (by decide) (by decide) (by decide) (Nat.le_of_ble_eq_true rfl) dX10_take_110 rfl ?_
  refine dk_genM (fun X1 hX1 => ?_)
  have c1_h : ∀ k, k < 6 → X1.1 15 k = M.1 38 k := fun k hk => by rw [hX1]; exact (show va_cpy (M.1 38) (M.1 15) (nI 0).toNatClampNeg (nI 0).toNatClampNeg (nI 6).toNatClampNeg k = M.1 38 k from cp_i hk (by decide))
  have c2_h : ∀ k, k < 6 → X1.1 16 k = M.1 39 k := fun k hk => by rw [hX1]; exact (show va_cpy (M.1 39) (M.1 16) (nI 0).toNatClampNeg (nI 0).toNatClampNeg (nI 6).toNatClampNeg k = M.1 39 k from cp_i hk (by decide))
  have c3_h : ∀ k, k < 6 → X1.1 17 k = M.1 40 k := fun k hk => by rw [hX1]; exact (show va_cpy (M.1 40) (M.1 17) (nI 0).toNatClampNeg (nI 0).toNatClampNeg (nI 6).toNatClampNeg k = M.1 40 k from cp_i hk (by decide))
  have c4_h : ∀ k, k < 6 → X1.1 18 k = M.1 41 k := fun k hk => by rw [hX1]; exact (show va_cpy (M.1 41) (M.1 18) (nI 0).toNatClampNeg (nI 0).toNatClampNeg (nI 6).toNatClampNeg k = M.1 41 k from cp_i hk (by decide))
  have c5_h : ∀ k, k < 16 → X1.1 19 k = M.1 42 k := fun k hk => by rw [hX1]; exact (show va_cpy (M.1 42) (M.1 19) (nI 0).toNatClampNeg (nI 0).toNatClampNeg (nI 16).toNatClampNeg k = M.1 42 k from cp_i hk (by decide))
  have c6_h : ∀ k, k < 6 → X1.1 20 k = M.1 43 k := fun k hk => by rw [hX1]; exact (show va_cpy (M.1 43) (M.1 20) (nI 0).toNatClampNeg (nI 0).toNatClampNeg (nI 6).toNatClampNeg k = M.1 43 k from cp_i hk (by decide))
  have c7_h : ∀ k, k < 6 → X1.1 21 k = M.1 44 k := fun k hk => by rw [hX1]; exact (show va_cpy (M.1 44) (M.1 21) (nI 0).toNatClampNeg (nI 0).toNatClampNeg (nI 6).toNatClampNeg k = M.1 44 k from cp_i hk (by decide))
  have c0_h : X1.1 14 1 = M.1 37 1 := by rw [hX1]; rfl
  have fr1_h : dk_fr (fun q k => 14 ≤ q ∧ q ≤ 21 ∧ ¬ (q = 14 ∧ k ≠ 1)) M X1 := by
    rw [hX1]
    refine ⟨rfl, fun q k hn => ?_⟩
    rw [dk_row_k (by omega), dk_row_k (by omega), dk_row_k (by omega), dk_row_k (by omega), dk_row_k (by omega), dk_row_k (by omega), dk_row_k (by omega), dk_put_k (by omega)]
  clear hX1
  have hcX : cm 45 K.1 X1 := by
    have hc0_h : cm 45 K.1 M := hc
    exact hc0_h.fr fr1_h (fun q k h z => by omega)
  refine w_al0 (n := 114) dX10_take_113 rfl ?_
  refine g_R (n := 117) f_X10_40_10 pl_14 rf_14_9 dX10_take_114 rfl ?_
  refine w_al1 (n := 118) dX10_take_117 rfl ?_
  refine g_R (n := 121) f_X10_40_10 pl_37 rf_37_9 dX10_take_118 rfl ?_
  refine w_cV1 (n := 124) pl_22 cl_4 s0_X4_take k_X10_83 (Nat.le_of_ble_eq_true rfl) dX10_take_121 rfl (c4_take hm hm5_h (by decide) hcX o4_h (fun M2 k1_h k2_h => ?_))
  refine w_al0 (n := 125) dX10_take_124 rfl ?_
  refine w_al1 (n := 126) dX10_take_125 rfl ?_
  refine g_I (n := 129) f_X10_44_10 pl_37 dX10_take_126 rfl ?_
  refine p_I (n := 132) f_X10_44_10 pl_14 dX10_take_129 rfl ?_
  refine w_al0 (n := 133) dX10_take_132 rfl ?_
  refine w_al1 (n := 134) dX10_take_133 rfl ?_
  refine g_I (n := 137) f_X10_47_10 pl_37 dX10_take_134 rfl ?_
  refine p_I (n := 140) f_X10_47_10 pl_14 dX10_take_137 rfl ?_
  refine w_al0 (n := 141) dX10_take_140 rfl ?_
  refine w_al1 (n := 142) dX10_take_141 rfl ?_
  refine g_I (n := 145) f_X10_50_10 pl_37 dX10_take_142 rfl ?_
  refine p_I (n := 148) f_X10_50_10 pl_14 dX10_take_145 rfl ?_
  refine dk_genM (fun X2 hX2 => ?_)
  have c10_h : X2.1 14 10 = M.1 37 10 := by rw [hX2, dk_put_k (by omega), dk_put_k (by omega), dk_put_s, k2_h.2 _ _ (by omega), fr1_h.2 _ _ (by omega)]
  have c11_h : X2.1 14 11 = M.1 37 11 := by rw [hX2, dk_put_k (by omega), dk_put_s, dk_put_k (by omega), k2_h.2 _ _ (by omega), fr1_h.2 _ _ (by omega)]
  have c12_h : X2.1 14 12 = M.1 37 12 := by rw [hX2, dk_put_s, dk_put_k (by omega), dk_put_k (by omega), k2_h.2 _ _ (by omega), fr1_h.2 _ _ (by omega)]
  have fr2_h : dk_fr (fun q k => q = 14 ∧ 10 ≤ k ∧ k ≤ 12) M2 X2 := by
    rw [hX2]
    refine ⟨rfl, fun q k hn => ?_⟩
    rw [dk_put_k (by omega), dk_put_k (by omega), dk_put_k (by omega)]
  clear hX2
  have fr3_h : dk_fr (fun q k => 14 ≤ q ∧ q ≤ 23 ∧ ¬ (q = 14 ∧ k = 13)) M X2 := ((fr1_h.up (fun q k z => by omega)).tr (k2_h.up (fun q k z => by omega))).tr (fr2_h.up (fun q k z => by omega))
  have hb2_h : X2.1 37 13 = nI β := (fr3_h.2 _ _ (by omega)).trans hb1_h
  have hc2_h : X2.1 14 13 = nI γ := (fr3_h.2 _ _ (by omega)).trans hc1_h
  have hg2_h : cbk g β X2 := hg.fr fr3_h (fun q k h1_h h2_h z => by unfold dk_bo at hβ hγ; omega)
  refine w_al0 (n := 149) dX10_take_148 rfl ?_
  refine g_M (n := 152) f_X10_56_10 pl_14 (dk_ref_i hc2_h (by unfold dk_bo at hγ; omega)) dX10_take_149 rfl ?_
  refine w_al1 (n := 153) dX10_take_152 rfl ?_
  refine g_M (n := 156) f_X10_56_10 pl_37 (dk_ref_i hb2_h (by unfold dk_bo at hβ; omega)) dX10_take_153 rfl ?_
  refine w_cV1 (n := 159) (bo_is hγ) cl_8 s0_X8_take k_X10_87 (Nat.le_of_ble_eq_true rfl) dX10_take_156 rfl (c8_take hβ hγ hne hg2_h hz6_h (fun M3 r1_h r2_h => ?_))
  refine w_al0 (n := 160) dX10_take_159 rfl ?_
  refine g_R (n := 163) f_X10_63_10 pl_14 rf_14_14 dX10_take_160 rfl ?_
  refine w_al1 (n := 164) dX10_take_163 rfl ?_
  refine g_R (n := 167) f_X10_63_10 pl_37 rf_37_14 dX10_take_164 rfl ?_
  refine w_cV1 (n := 170) pl_32 cl_7 s0_X7_take k_X10_90 (Nat.le_of_ble_eq_true rfl) dX10_take_167 rfl (c7_take32 (fun M4 q1_h q2_h q4_h => ?_))
  refine w_ret dX10_take_170 rfl ?_
  have up : ∀ q k, 14 ≤ q → q ≤ 21 → ¬ (q = 14 ∧ 10 ≤ k) → M4.1 q k = X1.1 q k := fun q k h1_h h2_h h3_h => by rw [q4_h.2 q k (by omega), r2_h.2 q k (by unfold dk_bo at hγ; omega), fr2_h.2 q k (by omega), k2_h.2 q k (by omega)]
  have up5_h : ∀ k, 10 ≤ k → k ≤ 13 → M4.1 14 k = X2.1 14 k := fun k h1_h h2_h => by rw [q4_h.2 14 k (by omega), r2_h.2 14 k (by unfold dk_bo at hγ; omega)]
  have dn : ∀ q k, 55 ≤ q → q ≤ 59 → M3.1 q k = M.1 q k := fun q k h1_h h2_h => by rw [r2_h.2 q k (by unfold dk_bo at hγ; omega), fr3_h.2 q k (by omega)]
  have g4_h : cbk g γ M4 := r1_h.fr q4_h (fun q k h1_h h2_h z => by unfold dk_bo at hγ; omega)
  have frT : dk_fr (fun q k => (14 ≤ q ∧ q ≤ 23 ∧ ¬ (q = 14 ∧ k = 13)) ∨ (32 ≤ q ∧ q ≤ 36) ∨ (γ ≤ q ∧ q ≤ γ + 4)) M M4 := ((fr3_h.up (fun q k z => Or.inl z)).tr (r2_h.up (fun q k z => Or.inr (Or.inr z)))).tr (q4_h.up (fun q k z => Or.inr (Or.inl z)))
  have hcm : cm 22 K.1 M4 := (((k1_h.fr fr2_h (fun q k h z => by omega)).fr r2_h (fun q k h z => by unfold dk_bo at hγ; omega)).fr q4_h (fun q k h z => by omega))
  have k6_h : M4.1 γ 0 = nI (K.1 6) := by rw [g4_h.1, ← hg.1]; exact hβ2
  have s1_h : M4.1 14 1 = nI (K.1 4) := by rw [up _ _ (by omega) (by omega) (by omega), c0_h]; exact hs.1
  have s2_h : M4.1 14 10 = nI (K.1 0) := by rw [up5_h _ (by omega) (by omega), c10_h]; exact hs.2.1
  have s3_h : ∀ i, i < K.1 4 → M4.1 15 i = nI (K.1 (35 + 5 * i)) ∧ M4.1 16 i = nI (K.1 (37 + 5 * i)) ∧ M4.1 17 i = nI (K.1 (38 + 5 * i)) ∧ M4.1 18 i = nI (sg_bears K.1 i) := fun i hi => by
    rw [up _ _ (by omega) (by omega) (by omega), up _ _ (by omega) (by omega) (by omega), up _ _ (by omega) (by omega) (by omega), up _ _ (by omega) (by omega) (by omega), c1_h i (by omega), c2_h i (by omega), c3_h i (by omega), c4_h i (by omega)]
    exact hs.2.2.1 i hi
  have s4_h : ∀ y, y < 16 → M4.1 19 y = nI (K.1 (7 + y)) := fun y hy => by rw [up _ _ (by omega) (by omega) (by omega), c5_h y hy]; exact hs.2.2.2.1 y hy
  have s5_h : ∀ j, j < 6 → M4.1 20 j = nI (K.1 (23 + 2 * j)) ∧ M4.1 21 j = nI (K.1 (24 + 2 * j)) := fun j hj => by rw [up _ _ (by omega) (by omega) (by omega), up _ _ (by omega) (by omega) (by omega), c6_h j hj, c7_h j hj]; exact hs.2.2.2.2 j hj
  have t0_h : M4.1 32 0 = nI (K.1 5) := by rw [q1_h, dn _ _ (by omega) (by omega)]; exact hcr.1
  have t1_h : ∀ r, r < K.1 5 → M4.1 33 r = nI (K.1 (65 + 4 * r)) ∧ M4.1 34 r = nI (K.1 (66 + 4 * r)) ∧ M4.1 35 r = nI (K.1 (67 + 4 * r)) ∧ M4.1 36 r = nI (K.1 (68 + 4 * r)) := fun r hr => by
    have r6_h : r < 6 := by have := o.2.2.2.2.1; omega
    rw [(q2_h r r6_h).1, (q2_h r r6_h).2.1, (q2_h r r6_h).2.2.1, (q2_h r r6_h).2.2.2, dn _ _ (by omega) (by omega), dn _ _ (by omega) (by omega), dn _ _ (by omega) (by omega), dn _ _ (by omega) (by omega)]
    exact hcr.2 r hr
  have s6_h : M4.1 14 11 = K.2.2.1 := by rw [up5_h _ (by omega) (by omega), c11_h]; exact hsc
  have s7_h : M4.1 14 12 = K.2.2.2 := by rw [up5_h _ (by omega) (by omega), c12_h]; exact hz
  have s8_h : M4.1 14 13 = nI γ := by rw [up5_h _ (by omega) (by omega)]; exact hc2_h
  have z9_h : eN (M4.1 γ 5) 200 := by rw [g4_h.2.1]; exact hz6_h
  exact hq M4 ⟨⟨o, p1_h, p2_h, p3_h⟩, ⟨s1_h, s2_h, s3_h, s4_h, s5_h⟩, hcm, ⟨g, γ, hcb, hγ, g4_h, s8_h⟩, ⟨t0_h, t1_h⟩, s6_h, s7_h, γ, hγ, s8_h, k6_h⟩ z9_h frT
