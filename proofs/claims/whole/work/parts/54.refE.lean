/-! ===== times ===== -/
def sg_lt (K : sg_K) : Option Nat := sg_ot (sg_la (sg_z K.2.2.2) (K.1 4))
/-- by lots to the end: what it is worth, and what is then -/
def sg_lr : Nat → sg_K → Nat × sg_K
  | 0, K => (0, K)
  | n + 1, K => if K.1 0 ≤ K.1 1 then (0, K) else ((sg_goes K.2.1 K.1 (sg_lt K)).2 + (sg_lr n (kf_lot K).2).1, (sg_lr n (kf_lot K).2).2)
def sg_tm (K : sg_K) (v : Nat) : Nat → Int32 → Nat
  | 0, _ => 0
  | n + 1, z => (if v ≤ (sg_lr 16 (K.1, K.2.1, K.2.2.1, z)).1 then 1 else 0) + sg_tm K v n (sg_lr 16 (K.1, K.2.1, K.2.2.1, z)).2.2.2.2
def kf_times (K : sg_K) (n v : Int32) : Int32 × sg_K := if (nI 1 ≤ n ∧ n ≤ nI 40) ∧ nI 0 ≤ v ∧ v ≤ nI 999 then (nI (sg_tm K (tN v) (tN n) K.2.2.2), K) else (-1, K)
theorem sg_lr_over {K : sg_K} (h : K.1 0 ≤ K.1 1) : ∀ n, sg_lr n K = (0, K)
  | 0 => rfl
  | n + 1 => if_pos h
theorem sg_lr_s {K : sg_K} (h : K.1 1 < K.1 0) (n : Nat) : sg_lr (n + 1) K = ((sg_goes K.2.1 K.1 (sg_lt K)).2 + (sg_lr n (kf_lot K).2).1, (sg_lr n (kf_lot K).2).2) := if_neg (by omega)
theorem kf_lot_e {K : sg_K} (h : K.1 1 < K.1 0) : kf_lot K = (nI (sg_goes K.2.1 K.1 (sg_lt K)).2, ((sg_goes K.2.1 K.1 (sg_lt K)).1, K.2.1, K.2.2.1 + nI (sg_goes K.2.1 K.1 (sg_lt K)).2, sg_z K.2.2.2)) := by
  unfold kf_lot
  rw [if_neg (by omega), sg_yr_e]
  rfl
theorem sg_lt_lt {K : sg_K} : ∀ h, sg_lt K = some h → h < K.1 4 := fun h e => sg_ot_lt (sg_la_le _ _) h e
theorem sg_lr_le : ∀ (n : Nat) (K : sg_K), sg_in K.1 → (sg_lr n K).1 ≤ 19 * n
  | 0, K, _ => Nat.le_refl 0
  | n + 1, K, o => by
    by_cases h : K.1 0 ≤ K.1 1
    · rw [sg_lr_over h]; omega
    · have o4 := o.1.2.2.2.1
      have t6 : ∀ h, sg_lt K = some h → h < 6 := fun h e => by have := sg_lt_lt h e; omega
      rw [sg_lr_s (by omega)]
      have h1 := sg_goes_le (w := K.2.1) o.1 t6
      have h2 := sg_lr_le n (kf_lot K).2 (by rw [kf_lot_e (by omega)]; exact o.goes t6 (by omega))
      show _ + _ ≤ _
      omega
theorem nL7 (k : Nat) : ¬ rL 107 k := by unfold rL; omega
theorem rL_back {M M2 : dk_Mem} (h : dk_fr rL M M2) : dk_fr rL M (dk_row M2 105 (dk_cp (M2.1 107) (M2.1 105) 621)) := by
  refine ⟨h.1, fun q k hn => ?_⟩
  by_cases hq : q = 105
  · subst hq
    rw [dk_row_at]
    unfold dk_cp
    rw [if_neg (fun z => hn (Or.inl ⟨rfl, z⟩))]
    exact h.2 105 k hn
  · rw [dk_row_k hq]; exact h.2 q k hn
theorem r_backL {M M1 : dk_Mem} {g : Nat → Int32} (hf : dk_fr rL M M1) (hw : rW g M1) (hg : ∀ k, k < 621 → g k = M.1 105 k) : dk_fr rN M (dk_row M1 105 (dk_cp (M1.1 107) (M1.1 105) 621)) := by
  refine ⟨hf.1, fun q k hn => ?_⟩
  by_cases hq : q = 105
  · subst hq
    rw [dk_row_at]
    unfold dk_cp
    split
    · rw [hw k (by assumption), hg k (by assumption)]
    · exact hf.2 105 k (by rintro (z | z) <;> omega)
  · rw [dk_row_k hq]
    refine hf.2 q k (fun z => ?_)
    rcases z with z | z
    · exact hq z.1
    · exact hn (Or.inr (Or.inl z))

set_option maxRecDepth 20000 in
theorem r_tmI {d : Nat} {M : dk_Mem} {Q : Option Value → dk_Mem → Prop} {g : Nat → Int32} {nn v mm kk : Int32} {x6 : Option Value} : ∀ (m n a : Nat) (K : sg_K) (M1 : dk_Mem), n < m → K.1 0 - K.1 1 ≤ n → rK K M1 → dk_fr rL M M1 → rW g M1 → (∀ M2, dk_fr rL M M2 → rW g M2 → M2.1 105 3 = (sg_lr n K).2.2.2.2 → dk_W (d + 8) mX12_times 60 [some (.ref 104), some (.int nn), some (.int v), some (.int mm), some (.int kk), some (.int (nI (a + (sg_lr n K).1))), x6] [] M2 Q) → dk_W (d + 8) mX12_times 41 [some (.ref 104), some (.int nn), some (.int v), some (.int mm), some (.int kk), some (.int (nI a)), x6] [] M1 Q := by
  intro m
  induction m with
  | zero => intro n a K M1 h; omega
  | succ m ih =>
    intro n a K M1 hnm hn hK hf hW hx
    have hr := hK.2.1
    have o := hK.1.1
    have hz := hK.2.2.2.2
    refine w_al0 (n := 42) dX12_times_41 rfl ?_
    refine w_cV0 (n := 45) pl_104 cl_12 s0_X12_isOver k_X12_121 (Nat.le_of_ble_eq_true rfl) dX12_times_42 rfl (r_isOver hr o (fun t42 => ?_) (fun t42 => ?_))
    · skip
      refine w_if_ne (n := 48) 60 dX12_times_45 (by decide) rfl (fun _ => ?_) (fun h => absurd h (by decide))
      rw [sg_lr_over t42] at hx
      exact hx M1 hf hW hz
    · skip
      refine w_if_ne (n := 48) 60 dX12_times_45 (by decide) rfl (fun h => absurd h (by decide)) (fun _ => ?_)
      refine w_il5 (n := 50) dX12_times_48 rfl ?_
      refine w_al0 (n := 51) dX12_times_50 rfl ?_
      refine w_cV0 (n := 54) pl_104 cl_12 s0_X12_byLot k_X12_288 (Nat.le_of_ble_eq_true rfl) dX12_times_51 rfl (r_byLot hK t42 (fun M2 g1 g2 => ?_))
      have e1 : (kf_lot K).1 = nI (sg_goes K.2.1 K.1 (sg_lt K)).2 := by rw [kf_lot_e t42]
      rw [e1]
      refine w_iadd (n := 55) dX12_times_54 rfl ?_
      rw [nI_add]
      refine w_is5 (n := 57) dX12_times_55 rfl rfl (by decide) ?_
      refine w_goto 41 dX12_times_57 (by decide) ?_
      obtain ⟨n, rfl⟩ : ∃ n0, n = n0 + 1 := ⟨n - 1, by omega⟩
      rw [sg_lr_s t42] at hx
      have ey : (kf_lot K).2.1 0 - (kf_lot K).2.1 1 ≤ n := by
        rw [kf_lot_e t42]
        show (sg_goes K.2.1 K.1 (sg_lt K)).1 0 - (sg_goes K.2.1 K.1 (sg_lt K)).1 1 ≤ n
        rw [sg_goes_1, sg_goes_o (by omega) (by omega)]
        omega
      refine ih n _ (kf_lot K).2 M2 (by omega) ey g1 (hf.tr g2) (hW.fr g2 nL7) (fun M3 k1 k2 k3 => ?_)
      have k9 := hx M3 k1 k2 k3
      rw [Nat.add_assoc]
      exact k9

set_option maxRecDepth 20000 in
theorem r_tmE {d : Nat} {Q : Option Value → dk_Mem → Prop} {M2 : dk_Mem} {N v c k s : Nat} {z : Int32} {x6 : Option Value} (hs : s < 1000) (hv : v < 1000) (hz : M2.1 105 3 = z) (hn : dk_W (d + 8) mX12_times 32 [some (.ref 104), some (.int (nI N)), some (.int (nI v)), some (.int (nI (c + if v ≤ s then 1 else 0))), some (.int (nI (k + 1))), some (.int (nI s)), some (.int z)] [] (dk_put (dk_row M2 105 (dk_cp (M2.1 107) (M2.1 105) 621)) 105 3 z) Q) : dk_W (d + 8) mX12_times 60 [some (.ref 104), some (.int (nI N)), some (.int (nI v)), some (.int (nI c)), some (.int (nI k)), some (.int (nI s)), x6] [] M2 Q := by
  refine w_al0 (n := 61) dX12_times_60 rfl ?_
  refine g_R (n := 64) f_X12_9_12 pl_104 rf_104_0 dX12_times_61 rfl ?_
  refine w_iconst (n := 65) (nI 3) dX12_times_64 (by decide) rfl ?_
  refine i_iald (n := 66) pl_105 (j := 3) rfl (by decide) (by decide) hz dX12_times_65 rfl ?_
  refine w_is6 (n := 68) dX12_times_66 rfl rfl (by decide) ?_
  refine w_al0 (n := 69) dX12_times_68 rfl ?_
  refine w_cV0 (n := 72) pl_104 cl_12 s0_X12_putsBack k_X12_202 (Nat.le_of_ble_eq_true rfl) dX12_times_69 rfl (r_putsBack ?_)
  refine w_al0 (n := 73) dX12_times_72 rfl ?_
  refine g_R (n := 76) f_X12_9_12 pl_104 rf_104_0 dX12_times_73 rfl ?_
  refine w_iconst (n := 77) (nI 3) dX12_times_76 (by decide) rfl ?_
  refine w_il6 (n := 79) dX12_times_77 rfl ?_
  refine i_iast (n := 80) pl_105 (j := 3) rfl (by decide) (by decide) dX12_times_79 rfl ?_
  refine w_il3 (n := 81) dX12_times_80 rfl ?_
  refine w_il5 (n := 83) dX12_times_81 rfl ?_
  refine w_il2 (n := 84) dX12_times_83 rfl ?_
  refine w_ic_lt (n := 87) 91 dX12_times_84 (by decide) rfl (fun z84 => ?_) (fun z84 => ?_)
  · skip
    refine w_iconst (n := 92) (nI 0) dX12_times_91 (by decide) rfl ?_
    refine w_iadd (n := 93) dX12_times_92 rfl ?_
    refine w_is3 (n := 94) dX12_times_93 rfl rfl (by decide) ?_
    refine w_inc4 (n := 97) (nI 1) dX12_times_94 (by decide) rfl rfl (by decide) ?_
    refine w_goto 32 dX12_times_97 (by decide) ?_
    rw [nI_add, nI_add]
    first | (rw [if_pos (by rw [nI_ltI (by omega) (by omega)] at z84; omega)] at hn; exact hn) | (rw [if_neg (by rw [nI_ltI (by omega) (by omega)] at z84; omega)] at hn; exact hn)
  · skip
    refine w_iconst (n := 88) (nI 1) dX12_times_87 (by decide) rfl ?_
    refine w_goto 92 dX12_times_88 (by decide) ?_
    refine w_iadd (n := 93) dX12_times_92 rfl ?_
    refine w_is3 (n := 94) dX12_times_93 rfl rfl (by decide) ?_
    refine w_inc4 (n := 97) (nI 1) dX12_times_94 (by decide) rfl rfl (by decide) ?_
    refine w_goto 32 dX12_times_97 (by decide) ?_
    rw [nI_add, nI_add]
    first | (rw [if_pos (by rw [nI_ltI (by omega) (by omega)] at z84; omega)] at hn; exact hn) | (rw [if_neg (by rw [nI_ltI (by omega) (by omega)] at z84; omega)] at hn; exact hn)

set_option maxRecDepth 20000 in
theorem r_tmL {d : Nat} {M : dk_Mem} {Q : Option Value → dk_Mem → Prop} {K : sg_K} (hK : rK K M) {N v : Nat} (hN : N ≤ 40) (hv : v < 1000) {T0 : Nat} (hq : ∀ M1, dk_fr rL M M1 → rW (M.1 105) M1 → Q (some (.int (nI T0))) (dk_row M1 105 (dk_cp (M1.1 107) (M1.1 105) 621))) : ∀ (n k c : Nat) (z : Int32) (M1 : dk_Mem) (x5 x6 : Option Value), k ≤ N → N - k < n → rK (K.1, K.2.1, K.2.2.1, z) M1 → dk_fr rL M M1 → rW (M.1 105) M1 → c + sg_tm K v (N - k) z = T0 → dk_W (d + 8) mX12_times 32 [some (.ref 104), some (.int (nI N)), some (.int (nI v)), some (.int (nI c)), some (.int (nI k)), x5, x6] [] M1 Q := by
  intro n
  induction n with
  | zero => intro k c z M1 x5 x6 _ h; omega
  | succ n ih =>
    intro k c z M1 x5 x6 hi hn hz hf hW he
    refine w_il4 (n := 34) dX12_times_32 rfl ?_
    refine w_il1 (n := 35) dX12_times_34 rfl ?_
    refine w_ic_ge (n := 38) 100 dX12_times_35 (by decide) rfl (fun z35 => ?_) (fun z35 => ?_)
    · skip
      refine w_al0 (n := 101) dX12_times_100 rfl ?_
      refine w_cV0 (n := 104) pl_104 cl_12 s0_X12_putsBack k_X12_202 (Nat.le_of_ble_eq_true rfl) dX12_times_101 rfl (r_putsBack ?_)
      refine w_il3 (n := 105) dX12_times_104 rfl ?_
      refine w_retI dX12_times_105 rfl ?_
      rw [show N - k = 0 by rw [q_le (by omega) (by omega)] at z35; omega, sg_tm, Nat.add_zero] at he
      rw [he]
      exact hq M1 hf hW
    · skip
      refine w_iconst (n := 39) (nI 0) dX12_times_38 (by decide) rfl ?_
      refine w_is5 (n := 41) dX12_times_39 rfl rfl (by decide) ?_
      have hk : k < N := by rw [q_le (by omega) (by omega)] at z35; omega
      have hin : sg_in (K.1, K.2.1, K.2.2.1, z).1 := hz.1
      have o16 := hK.1.1.2.1
      have hle := sg_lr_le 16 (K.1, K.2.1, K.2.2.1, z) hin
      refine r_tmI 17 16 0 (K.1, K.2.1, K.2.2.1, z) M1 (by omega) (by show K.1 0 - K.1 1 ≤ 16; omega) hz hf hW (fun M2 g1 g2 g3 => ?_)
      rw [Nat.zero_add]
      rw [show N - k = (N - (k + 1)) + 1 by omega, sg_tm] at he
      generalize (sg_lr 16 (K.1, K.2.1, K.2.2.1, z)).1 = s at hle he ⊢
      generalize (sg_lr 16 (K.1, K.2.1, K.2.2.1, z)).2.2.2.2 = z2 at g3 he
      have hB := r_backL g1 g2 (fun k _ => rfl)
      exact r_tmE (by omega) hv g3 (ih (k + 1) _ z2 _ _ _ (by omega) (by omega) (hK.N hB).zz ((rL_back g1).put (Or.inl ⟨rfl, by decide⟩)) (fun j hj => by rw [dk_put_k (by omega), dk_row_k (by decide)]; exact g2 j hj) (by omega))

set_option maxRecDepth 20000 in
theorem R_times {d : Nat} {M : dk_Mem} {Q : Option Value → dk_Mem → Prop} {K : sg_K} (hK : rK K M) {n v : Int32} (hq : ∀ M2, rK (kf_times K n v).2 M2 → dk_fr rA M M2 → Q (some (.int (kf_times K n v).1)) M2) : dk_Call (d + 9) mX12_times [.ref 104, .int n, .int v] M Q := by
  have hK0 := hK
  obtain ⟨⟨o, p1, p2, p3⟩, hr, ⟨f, hb, hT⟩, hsc, hz⟩ := hK0
  have o4 := o.2.2.2.1
  have o16 := o.2.1
  refine dk_enter [some (.ref 104), some (.int n), some (.int v), none, none, none, none] (by decide) (fun _ => rfl) (fun _ => Nat.le_of_ble_eq_true rfl) ?_
  refine w_il1 (n := 1) dX12_times_0 rfl ?_
  refine w_iconst (n := 2) (nI 1) dX12_times_1 (by decide) rfl ?_
  refine w_bipush (n := 4) (nI 40) dX12_times_2 (by decide) rfl ?_
  refine w_cS3 (n := 7) s0_X12_in k_X12_61 (Nat.le_of_ble_eq_true rfl) dX12_times_4 rfl (r_in (fun t4 => ?_) (fun t4 => ?_))
  · skip
    refine w_if_eq (n := 10) 21 dX12_times_7 (by decide) rfl (fun h => absurd h (by decide)) (fun _ => ?_)
    refine w_il2 (n := 11) dX12_times_10 rfl ?_
    refine w_iconst (n := 12) (nI 0) dX12_times_11 (by decide) rfl ?_
    refine w_sipush (n := 15) (nI 999) dX12_times_12 (by decide) rfl ?_
    refine w_cS3 (n := 18) s0_X12_in k_X12_61 (Nat.le_of_ble_eq_true rfl) dX12_times_15 rfl (r_in (fun t15 => ?_) (fun t15 => ?_))
    · skip
      refine w_if_ne (n := 21) 23 dX12_times_18 (by decide) rfl (fun _ => ?_) (fun h => absurd h (by decide))
      refine w_al0 (n := 24) dX12_times_23 rfl ?_
      refine w_cV0 (n := 27) pl_104 cl_12 s0_X12_thinks k_X12_196 (Nat.le_of_ble_eq_true rfl) dX12_times_24 rfl (r_thinks ?_)
      refine w_iconst (n := 28) (nI 0) dX12_times_27 (by decide) rfl ?_
      refine w_is3 (n := 29) dX12_times_28 rfl rfl (by decide) ?_
      refine w_iconst (n := 30) (nI 0) dX12_times_29 (by decide) rfl ?_
      refine w_is4 (n := 32) dX12_times_30 rfl rfl (by decide) ?_
      have hf1 := rN_thinks (M := M)
      have hn := tN_of (n := 40) (by decide) (Int32.le_trans (by decide) t4.1) t4.2
      have hv := tN_of (n := 999) (by decide) t15.1 t15.2
      have e9 : kf_times K n v = (nI (sg_tm K (tN v) (tN n) K.2.2.2), K) := if_pos ⟨t4, t15⟩
      rw [e9] at hq
      clear e9
      have en := hn.1
      have ev := hv.1
      generalize tN n = N at *
      generalize tN v = u at *
      subst en
      subst ev
      refine r_tmL (hK.N hf1) hn.2 (by omega) (T0 := sg_tm K u N K.2.2.2) (fun M1 g1 g2 => ?_) (N + 1) 0 0 K.2.2.2 _ _ _ (by omega) (by omega) (hK.N hf1) dk_fr.rf (fun k hk => ?_) (by rw [Nat.zero_add, Nat.sub_zero])
      · have g9 := hf1.tr (r_backL g1 g2 (fun k _ => rfl))
        exact hq _ (hK.N g9) (rN_A g9)
      · rw [dk_row_at, dk_row_k (by decide)]; exact if_pos hk
    · skip
      refine w_if_ne (n := 21) 23 dX12_times_18 (by decide) rfl (fun h => absurd h (by decide)) (fun _ => ?_)
      refine w_iconst (n := 22) (-1) dX12_times_21 (by decide) rfl ?_
      refine w_retI dX12_times_22 rfl ?_
      exact dk_fin hq (if_neg (fun z => by first | exact t4 z.1 | exact t15 z.2)) hK dk_fr.rf
  · skip
    refine w_if_eq (n := 10) 21 dX12_times_7 (by decide) rfl (fun _ => ?_) (fun h => absurd (by decide) h)
    refine w_iconst (n := 22) (-1) dX12_times_21 (by decide) rfl ?_
    refine w_retI dX12_times_22 rfl ?_
    exact dk_fin hq (if_neg (fun z => by first | exact t4 z.1 | exact t15 z.2)) hK dk_fr.rf
