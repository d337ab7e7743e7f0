theorem dk_q {Q : Option Value → dk_Mem → Prop} {M : dk_Mem} {x y : Int32} (e : x = y) (h : Q (some (.int y)) M) : Q (some (.int x)) M := by rw [e]; exact h
theorem q_ln : ∀ w, w < 4 → ∀ h, h < 4 → ((0 ≤ nI 2 + nI w - nI h → nI 2 + nI w - nI h = nI (2 + w - h)) ∧ (¬ 0 ≤ nI 2 + nI w - nI h → 2 + w - h = 0)) := by decide +kernel
theorem q_div6 : ∀ y, y < 17 → nI y / nI 6 = nI (y / 6) := by decide +kernel
theorem q_rem2 : ∀ y, y < 17 → nI y - nI y / nI 2 * nI 2 = nI (y % 2) := by decide +kernel
theorem q_div4 : ∀ y, y < 16 → nI y / nI 4 = nI (y / 4) := by decide +kernel
theorem q_rem4 : ∀ y, y < 16 → nI y - nI y / nI 4 * nI 4 = nI (y % 4) := by decide +kernel
theorem q_pm1 {n : Nat} (h : 0 < n) : nI n - nI 1 = nI (n - 1) := by
  obtain ⟨m, rfl⟩ : ∃ m, n = m + 1 := ⟨n - 1, by omega⟩
  exact nI_pred m
/-- 0 ≤ x ≤ n - 1 : one of 0 .. n - 1 -/
theorem q_in {x : Int32} {n : Nat} (hn : n < 2 ^ 31) : (nI 0 ≤ x ∧ x ≤ nI n - nI 1) ↔ ∃ h, h < n ∧ x = nI h := by
  constructor
  · rintro ⟨h1, z2⟩
    rcases Nat.eq_zero_or_pos n with rfl | hp
    · exfalso
      rw [Int32.le_iff_toInt_le] at h1 z2
      have e : (nI 0 - nI 1 : Int32).toInt = -1 := by decide
      have e0 : (nI 0).toInt = 0 := by decide
      omega
    · rw [q_pm1 hp] at z2
      obtain ⟨j, hj, e⟩ := nI_of (x := x) (Int32.not_lt.mpr h1)
      subst e
      rw [nI_leI hj (by omega)] at z2
      exact ⟨j, by omega, rfl⟩
  · rintro ⟨h, h1, rfl⟩
    rw [q_pm1 (by omega)]
    exact ⟨nI_le (by omega) (by omega), nI_le (by omega) (by omega)⟩

theorem q_br : ∀ k, k < 6 → ∀ g, g < 10 → ∀ n, n < 6 → (if k = 1 then nI 95 else if k = 2 then (nI 40 - nI 2 * nI g) - nI 8 else if k = 3 then (nI 40 - nI 2 * nI g) - nI 8 + nI g else if k = 4 then (nI 40 - nI 2 * nI g) + nI 10 else if k = 5 then (nI 40 - nI 2 * nI g) + nI 10 + nI n else (nI 40 - nI 2 * nI g) : Int32) = nI (sg_br k g n) := by decide +kernel

set_option maxRecDepth 20000 in
theorem r_in {d : Nat} {M : dk_Mem} {Q : Option Value → dk_Mem → Prop} {v lo hi : Int32} (h1 : lo ≤ v ∧ v ≤ hi → Q (some (.int 1)) M) (h0 : ¬ (lo ≤ v ∧ v ≤ hi) → Q (some (.int 0)) M) : dk_Call d mX12_in [.int v, .int lo, .int hi] M Q := by
  refine dk_enter [some (.int v), some (.int lo), some (.int hi)] (by decide) (fun _ => rfl) (fun _ => Nat.le_of_ble_eq_true rfl) ?_
  refine w_il0 (n := 1) dX12_in_0 rfl ?_
  refine w_il1 (n := 2) dX12_in_1 rfl ?_
  refine w_ic_lt (n := 5) 14 dX12_in_2 (by decide) rfl (fun z2 => ?_) (fun z2 => ?_)
  · skip
    refine w_iconst (n := 15) (nI 0) dX12_in_14 (by decide) rfl ?_
    refine w_retZ0 dX12_in_15 rfl ?_
    exact h0 (fun z => by first | exact absurd z.1 (Int32.not_le.mpr z2) | exact absurd z.2 (Int32.not_le.mpr z7))
  · skip
    refine w_il0 (n := 6) dX12_in_5 rfl ?_
    refine w_il2 (n := 7) dX12_in_6 rfl ?_
    refine w_ic_gt (n := 10) 14 dX12_in_7 (by decide) rfl (fun z7 => ?_) (fun z7 => ?_)
    · skip
      refine w_iconst (n := 15) (nI 0) dX12_in_14 (by decide) rfl ?_
      refine w_retZ0 dX12_in_15 rfl ?_
      exact h0 (fun z => by first | exact absurd z.1 (Int32.not_le.mpr z2) | exact absurd z.2 (Int32.not_le.mpr z7))
    · skip
      refine w_iconst (n := 11) (nI 1) dX12_in_10 (by decide) rfl ?_
      refine w_goto 15 dX12_in_11 (by decide) ?_
      refine w_retZ1 dX12_in_15 rfl ?_
      exact h1 ⟨Int32.not_lt.mp z2, Int32.not_lt.mp z7⟩

set_option maxRecDepth 20000 in
theorem r_isRoom {d : Nat} {M : dk_Mem} {Q : Option Value → dk_Mem → Prop} {v : Int32} (h1 : nI 0 ≤ v ∧ v ≤ nI 5 → Q (some (.int 1)) M) (h0 : ¬ (nI 0 ≤ v ∧ v ≤ nI 5) → Q (some (.int 0)) M) : dk_Call (d + 1) mX12_isRoom [.int v] M Q := by
  refine dk_enter [some (.int v)] (by decide) (fun _ => rfl) (fun _ => Nat.le_of_ble_eq_true rfl) ?_
  refine w_il0 (n := 1) dX12_isRoom_0 rfl ?_
  refine w_iconst (n := 2) (nI 0) dX12_isRoom_1 (by decide) rfl ?_
  refine w_iconst (n := 3) (nI 5) dX12_isRoom_2 (by decide) rfl ?_
  refine w_cS3 (n := 6) s0_X12_in k_X12_61 (Nat.le_of_ble_eq_true rfl) dX12_isRoom_3 rfl (r_in (fun t3 => ?_) (fun t3 => ?_))
  · skip
    refine w_retZ1 dX12_isRoom_6 rfl ?_
    exact h1 t3
  · skip
    refine w_retZ0 dX12_isRoom_6 rfl ?_
    exact h0 t3

set_option maxRecDepth 20000 in
theorem r_isFour {d : Nat} {M : dk_Mem} {Q : Option Value → dk_Mem → Prop} {v : Int32} (h1 : nI 0 ≤ v ∧ v ≤ nI 3 → Q (some (.int 1)) M) (h0 : ¬ (nI 0 ≤ v ∧ v ≤ nI 3) → Q (some (.int 0)) M) : dk_Call (d + 1) mX12_isFour [.int v] M Q := by
  refine dk_enter [some (.int v)] (by decide) (fun _ => rfl) (fun _ => Nat.le_of_ble_eq_true rfl) ?_
  refine w_il0 (n := 1) dX12_isFour_0 rfl ?_
  refine w_iconst (n := 2) (nI 0) dX12_isFour_1 (by decide) rfl ?_
  refine w_iconst (n := 3) (nI 3) dX12_isFour_2 (by decide) rfl ?_
  refine w_cS3 (n := 6) s0_X12_in k_X12_61 (Nat.le_of_ble_eq_true rfl) dX12_isFour_3 rfl (r_in (fun t3 => ?_) (fun t3 => ?_))
  · skip
    refine w_retZ1 dX12_isFour_6 rfl ?_
    exact h1 t3
  · skip
    refine w_retZ0 dX12_isFour_6 rfl ?_
    exact h0 t3

set_option maxRecDepth 20000 in
theorem r_of {d : Nat} {M : dk_Mem} {Q : Option Value → dk_Mem → Prop} {h w : Nat} {x : Int32} (hj : 35 + 5 * h + w < 621) (hx : M.1 105 (35 + 5 * h + w) = x) (hq : Q (some (.int x)) M) : dk_Call d mX12_of [.ref 104, .int (nI h), .int (nI w)] M Q := by
  refine dk_enter [some (.ref 104), some (.int (nI h)), some (.int (nI w))] (by decide) (fun _ => rfl) (fun _ => Nat.le_of_ble_eq_true rfl) ?_
  refine w_al0 (n := 1) dX12_of_0 rfl ?_
  refine g_R (n := 4) f_X12_9_12 pl_104 rf_104_0 dX12_of_1 rfl ?_
  refine w_bipush (n := 6) (nI 35) dX12_of_4 (by decide) rfl ?_
  refine w_iconst (n := 7) (nI 5) dX12_of_6 (by decide) rfl ?_
  refine w_il1 (n := 8) dX12_of_7 rfl ?_
  refine w_imul (n := 9) dX12_of_8 rfl ?_
  refine w_iadd (n := 10) dX12_of_9 rfl ?_
  refine w_il2 (n := 11) dX12_of_10 rfl ?_
  refine w_iadd (n := 12) dX12_of_11 rfl ?_
  refine i_iald (n := 13) pl_105 (j := 35 + 5 * h + w) (by simp only [pk_mul, nI_add]) hj (by decide) hx dX12_of_12 rfl ?_
  refine w_retI dX12_of_13 rfl ?_
  exact hq

set_option maxRecDepth 20000 in
theorem r_put {d : Nat} {M : dk_Mem} {Q : Option Value → dk_Mem → Prop} {h w : Nat} {x : Int32} (hj : 35 + 5 * h + w < 621) (hq : Q none (dk_put M 105 (35 + 5 * h + w) x)) : dk_Call d mX12_put [.ref 104, .int (nI h), .int (nI w), .int x] M Q := by
  refine dk_enter [some (.ref 104), some (.int (nI h)), some (.int (nI w)), some (.int x)] (by decide) (fun _ => rfl) (fun _ => Nat.le_of_ble_eq_true rfl) ?_
  refine w_al0 (n := 1) dX12_put_0 rfl ?_
  refine g_R (n := 4) f_X12_9_12 pl_104 rf_104_0 dX12_put_1 rfl ?_
  refine w_bipush (n := 6) (nI 35) dX12_put_4 (by decide) rfl ?_
  refine w_iconst (n := 7) (nI 5) dX12_put_6 (by decide) rfl ?_
  refine w_il1 (n := 8) dX12_put_7 rfl ?_
  refine w_imul (n := 9) dX12_put_8 rfl ?_
  refine w_iadd (n := 10) dX12_put_9 rfl ?_
  refine w_il2 (n := 11) dX12_put_10 rfl ?_
  refine w_iadd (n := 12) dX12_put_11 rfl ?_
  refine w_il3 (n := 13) dX12_put_12 rfl ?_
  refine i_iast (n := 14) pl_105 (j := 35 + 5 * h + w) (by simp only [pk_mul, nI_add]) hj (by decide) dX12_put_13 rfl ?_
  refine w_ret dX12_put_14 rfl ?_
  exact hq

set_option maxRecDepth 20000 in
theorem r_becomes {d : Nat} {M : dk_Mem} {Q : Option Value → dk_Mem → Prop} {j : Nat} {x y : Int32} (hj : j < 621) (hx : M.1 105 j = y) (hq : Q (some (.int y)) (dk_put M 105 j x)) : dk_Call d mX12_becomes [.ref 104, .int (nI j), .int x] M Q := by
  refine dk_enter [some (.ref 104), some (.int (nI j)), some (.int x), none] (by decide) (fun _ => rfl) (fun _ => Nat.le_of_ble_eq_true rfl) ?_
  refine w_al0 (n := 1) dX12_becomes_0 rfl ?_
  refine g_R (n := 4) f_X12_9_12 pl_104 rf_104_0 dX12_becomes_1 rfl ?_
  refine w_il1 (n := 5) dX12_becomes_4 rfl ?_
  refine i_iald (n := 6) pl_105 (j := j) rfl hj (by decide) hx dX12_becomes_5 rfl ?_
  refine w_is3 (n := 7) dX12_becomes_6 rfl rfl (by decide) ?_
  refine w_al0 (n := 8) dX12_becomes_7 rfl ?_
  refine g_R (n := 11) f_X12_9_12 pl_104 rf_104_0 dX12_becomes_8 rfl ?_
  refine w_il1 (n := 12) dX12_becomes_11 rfl ?_
  refine w_il2 (n := 13) dX12_becomes_12 rfl ?_
  refine i_iast (n := 14) pl_105 (j := j) rfl hj (by decide) dX12_becomes_13 rfl ?_
  refine w_il3 (n := 15) dX12_becomes_14 rfl ?_
  refine w_retI dX12_becomes_15 rfl ?_
  exact hq

set_option maxRecDepth 20000 in
theorem r_isPiece {d : Nat} {M : dk_Mem} {Q : Option Value → dk_Mem → Prop} {σ : Nat → Nat} {k : Int32} (hr : rr σ M) (o : sg_ok σ) (h1 : ∀ h, h < σ 4 → k = nI h → Q (some (.int 1)) M) (h0 : (¬ ∃ h, h < σ 4 ∧ k = nI h) → Q (some (.int 0)) M) : dk_Call (d + 1) mX12_isPiece [.ref 104, .int k] M Q := by
  have hc : σ 4 < 2 ^ 31 := by have := o.2.2.2.1; omega
  refine dk_enter [some (.ref 104), some (.int k)] (by decide) (fun _ => rfl) (fun _ => Nat.le_of_ble_eq_true rfl) ?_
  refine w_il1 (n := 1) dX12_isPiece_0 rfl ?_
  refine w_iconst (n := 2) (nI 0) dX12_isPiece_1 (by decide) rfl ?_
  refine w_al0 (n := 3) dX12_isPiece_2 rfl ?_
  refine g_R (n := 6) f_X12_9_12 pl_104 rf_104_0 dX12_isPiece_3 rfl ?_
  refine w_iconst (n := 7) (nI 4) dX12_isPiece_6 (by decide) rfl ?_
  refine i_iald (n := 8) pl_105 (j := 4) rfl (by decide) (by decide) (hr 4 (by decide) (by decide) (by decide)) dX12_isPiece_7 rfl ?_
  refine w_iconst (n := 9) (nI 1) dX12_isPiece_8 (by decide) rfl ?_
  refine w_isub (n := 10) dX12_isPiece_9 rfl ?_
  refine w_cS3 (n := 13) s0_X12_in k_X12_61 (Nat.le_of_ble_eq_true rfl) dX12_isPiece_10 rfl (r_in (fun t10 => ?_) (fun t10 => ?_))
  · skip
    refine w_retZ1 dX12_isPiece_13 rfl ?_
    obtain ⟨h, hh, e⟩ := (q_in hc).mp t10
    exact h1 h hh e
  · skip
    refine w_retZ0 dX12_isPiece_13 rfl ?_
    exact h0 (fun z => t10 ((q_in hc).mpr z))

set_option maxRecDepth 20000 in
theorem r_isOver {d : Nat} {M : dk_Mem} {Q : Option Value → dk_Mem → Prop} {σ : Nat → Nat} (hr : rr σ M) (o : sg_ok σ) (h1 : σ 0 ≤ σ 1 → Q (some (.int 1)) M) (h0 : σ 1 < σ 0 → Q (some (.int 0)) M) : dk_Call d mX12_isOver [.ref 104] M Q := by
  have b0 := o.2.1
  have b1 := o.2.2.1
  refine dk_enter [some (.ref 104)] (by decide) (fun _ => rfl) (fun _ => Nat.le_of_ble_eq_true rfl) ?_
  refine w_al0 (n := 1) dX12_isOver_0 rfl ?_
  refine g_R (n := 4) f_X12_9_12 pl_104 rf_104_0 dX12_isOver_1 rfl ?_
  refine w_iconst (n := 5) (nI 1) dX12_isOver_4 (by decide) rfl ?_
  refine i_iald (n := 6) pl_105 (j := 1) rfl (by decide) (by decide) (hr 1 (by decide) (by decide) (by decide)) dX12_isOver_5 rfl ?_
  refine w_al0 (n := 7) dX12_isOver_6 rfl ?_
  refine g_R (n := 10) f_X12_9_12 pl_104 rf_104_0 dX12_isOver_7 rfl ?_
  refine w_iconst (n := 11) (nI 0) dX12_isOver_10 (by decide) rfl ?_
  refine i_iald (n := 12) pl_105 (j := 0) rfl (by decide) (by decide) (hr 0 (by decide) (by decide) (by decide)) dX12_isOver_11 rfl ?_
  refine w_ic_lt (n := 15) 19 dX12_isOver_12 (by decide) rfl (fun z12 => ?_) (fun z12 => ?_)
  · skip
    refine w_iconst (n := 20) (nI 0) dX12_isOver_19 (by decide) rfl ?_
    refine w_retZ0 dX12_isOver_20 rfl ?_
    exact h0 (by rw [nI_ltI (by omega) (by omega)] at z12; exact z12)
  · skip
    refine w_iconst (n := 16) (nI 1) dX12_isOver_15 (by decide) rfl ?_
    refine w_goto 20 dX12_isOver_16 (by decide) ?_
    refine w_retZ1 dX12_isOver_20 rfl ?_
    exact h1 (by rw [Int32.not_lt, nI_leI (by omega) (by omega)] at z12; exact z12)

set_option maxRecDepth 20000 in
theorem r_sayingOf {d : Nat} {M : dk_Mem} {Q : Option Value → dk_Mem → Prop} {σ : Nat → Nat} {y : Nat} (hy : y ≤ 16) (hr : rr σ M) (hq : Q (some (.int (nI (sg_sy σ y)))) M) : dk_Call d mX12_sayingOf [.ref 104, .int (nI y)] M Q := by
  refine dk_enter [some (.ref 104), some (.int (nI y))] (by decide) (fun _ => rfl) (fun _ => Nat.le_of_ble_eq_true rfl) ?_
  refine w_il1 (n := 1) dX12_sayingOf_0 rfl ?_
  refine w_bipush (n := 3) (nI 16) dX12_sayingOf_1 (by decide) rfl ?_
  refine w_ic_ge (n := 6) 18 dX12_sayingOf_3 (by decide) rfl (fun z3 => ?_) (fun z3 => ?_)
  · skip
    refine w_iconst (n := 19) (nI 0) dX12_sayingOf_18 (by decide) rfl ?_
    refine w_retI dX12_sayingOf_19 rfl ?_
    unfold sg_sy at hq
    first | (rw [if_pos (by rw [nI_leI (by omega) (by omega)] at z3; omega)] at hq; exact hq) | (rw [if_neg (by rw [nI_leI (by omega) (by omega)] at z3; omega)] at hq; exact hq)
  · skip
    refine w_al0 (n := 7) dX12_sayingOf_6 rfl ?_
    refine g_R (n := 10) f_X12_9_12 pl_104 rf_104_0 dX12_sayingOf_7 rfl ?_
    refine w_bipush (n := 12) (nI 7) dX12_sayingOf_10 (by decide) rfl ?_
    refine w_il1 (n := 13) dX12_sayingOf_12 rfl ?_
    refine w_iadd (n := 14) dX12_sayingOf_13 rfl ?_
    refine i_iald (n := 15) pl_105 (j := 7 + y) (by simp only [pk_mul, nI_add]) (by rw [nI_leI (by omega) (by omega)] at z3; omega) (by decide) (hr (7 + y) (by rw [nI_leI (by omega) (by omega)] at z3; omega) (by omega) (by omega)) dX12_sayingOf_14 rfl ?_
    refine w_goto 19 dX12_sayingOf_15 (by decide) ?_
    refine w_retI dX12_sayingOf_19 rfl ?_
    unfold sg_sy at hq
    first | (rw [if_pos (by rw [nI_leI (by omega) (by omega)] at z3; omega)] at hq; exact hq) | (rw [if_neg (by rw [nI_leI (by omega) (by omega)] at z3; omega)] at hq; exact hq)

set_option maxRecDepth 20000 in
theorem r_word {d : Nat} {M : dk_Mem} {Q : Option Value → dk_Mem → Prop} {σ : Nat → Nat} (hr : rr σ M) (o : sg_ok σ) (hq : Q (some (.int (nI (sg_wd σ)))) M) : dk_Call (d + 1) mX12_word [.ref 104] M Q := by
  refine dk_enter [some (.ref 104)] (by decide) (fun _ => rfl) (fun _ => Nat.le_of_ble_eq_true rfl) ?_
  refine w_al0 (n := 1) dX12_word_0 rfl ?_
  refine w_al0 (n := 2) dX12_word_1 rfl ?_
  refine g_R (n := 5) f_X12_9_12 pl_104 rf_104_0 dX12_word_2 rfl ?_
  refine w_iconst (n := 6) (nI 1) dX12_word_5 (by decide) rfl ?_
  refine i_iald (n := 7) pl_105 (j := 1) rfl (by decide) (by decide) (hr 1 (by decide) (by decide) (by decide)) dX12_word_6 rfl ?_
  refine w_cV1 (n := 10) pl_104 cl_12 s0_X12_sayingOf k_X12_65 (Nat.le_of_ble_eq_true rfl) dX12_word_7 rfl (r_sayingOf o.2.2.1 hr ?_)
  refine w_iconst (n := 11) (nI 4) dX12_word_10 (by decide) rfl ?_
  refine w_idiv (n := 12) (by decide) dX12_word_11 rfl ?_
  refine w_retI dX12_word_12 rfl ?_
  exact dk_q (q_div4 _ (by have := o.sy (σ 1); omega)) hq

set_option maxRecDepth 20000 in
theorem r_hush {d : Nat} {M : dk_Mem} {Q : Option Value → dk_Mem → Prop} {σ : Nat → Nat} (hr : rr σ M) (o : sg_ok σ) (hq : Q (some (.int (nI (sg_hs σ)))) M) : dk_Call (d + 1) mX12_hush [.ref 104] M Q := by
  refine dk_enter [some (.ref 104)] (by decide) (fun _ => rfl) (fun _ => Nat.le_of_ble_eq_true rfl) ?_
  refine w_al0 (n := 1) dX12_hush_0 rfl ?_
  refine w_al0 (n := 2) dX12_hush_1 rfl ?_
  refine g_R (n := 5) f_X12_9_12 pl_104 rf_104_0 dX12_hush_2 rfl ?_
  refine w_iconst (n := 6) (nI 1) dX12_hush_5 (by decide) rfl ?_
  refine i_iald (n := 7) pl_105 (j := 1) rfl (by decide) (by decide) (hr 1 (by decide) (by decide) (by decide)) dX12_hush_6 rfl ?_
  refine w_cV1 (n := 10) pl_104 cl_12 s0_X12_sayingOf k_X12_65 (Nat.le_of_ble_eq_true rfl) dX12_hush_7 rfl (r_sayingOf o.2.2.1 hr ?_)
  refine w_iconst (n := 11) (nI 4) dX12_hush_10 (by decide) rfl ?_
  refine w_irem (n := 12) (by decide) dX12_hush_11 rfl ?_
  refine w_retI dX12_hush_12 rfl ?_
  exact dk_q (q_rem4 _ (by have := o.sy (σ 1); omega)) hq

set_option maxRecDepth 20000 in
theorem r_leansBy {d : Nat} {M : dk_Mem} {Q : Option Value → dk_Mem → Prop} {k w h y : Nat} (hk : k ≤ 5) (hw : w ≤ 3) (hh : h ≤ 3) (hy : y ≤ 16) (hq : Q (some (.int (nI (sg_ln k w h y)))) M) : dk_Call d mX12_leansBy [.int (nI k), .int (nI w), .int (nI h), .int (nI y)] M Q := by
  have q1 := q_ln w (by omega) h (by omega)
  have q2 := q_div6 y (by omega)
  have q3 := q_rem2 y (by omega)
  rcases (show k = 0 ∨ k = 1 ∨ k = 2 ∨ k = 3 ∨ k = 4 ∨ k = 5 by omega) with rfl | rfl | rfl | rfl | rfl | rfl
  · refine dk_enter [some (.int (nI 0)), some (.int (nI w)), some (.int (nI h)), some (.int (nI y)), none] (by decide) (fun _ => rfl) (fun _ => Nat.le_of_ble_eq_true rfl) ?_
    refine w_iconst (n := 1) (nI 2) dX12_leansBy_0 (by decide) rfl ?_
    refine w_il1 (n := 2) dX12_leansBy_1 rfl ?_
    refine w_iadd (n := 3) dX12_leansBy_2 rfl ?_
    refine w_il2 (n := 4) dX12_leansBy_3 rfl ?_
    refine w_isub (n := 5) dX12_leansBy_4 rfl ?_
    refine w_is4 (n := 7) dX12_leansBy_5 rfl rfl (by decide) ?_
    refine w_il4 (n := 9) dX12_leansBy_7 rfl ?_
    refine w_if_ge (n := 12) 16 dX12_leansBy_9 (by decide) rfl (fun z9 => ?_) (fun z9 => ?_)
    · skip
      refine w_il4 (n := 18) dX12_leansBy_16 rfl ?_
      refine w_is4 (n := 20) dX12_leansBy_18 rfl rfl (by decide) ?_
      refine w_il0 (n := 21) dX12_leansBy_20 rfl ?_
      refine w_tabOut 92 dX12_leansBy_21 (by decide) (by decide) ?_
      refine w_iconst (n := 93) (nI 2) dX12_leansBy_92 (by decide) rfl ?_
      refine w_il1 (n := 94) dX12_leansBy_93 rfl ?_
      refine w_iadd (n := 95) dX12_leansBy_94 rfl ?_
      refine w_retI dX12_leansBy_95 rfl ?_
      refine dk_q ?_ hq
      rw [nI_add]
      rfl
    · skip
      refine w_iconst (n := 13) (nI 0) dX12_leansBy_12 (by decide) rfl ?_
      refine w_goto 18 dX12_leansBy_13 (by decide) ?_
      refine w_is4 (n := 20) dX12_leansBy_18 rfl rfl (by decide) ?_
      refine w_il0 (n := 21) dX12_leansBy_20 rfl ?_
      refine w_tabOut 92 dX12_leansBy_21 (by decide) (by decide) ?_
      refine w_iconst (n := 93) (nI 2) dX12_leansBy_92 (by decide) rfl ?_
      refine w_il1 (n := 94) dX12_leansBy_93 rfl ?_
      refine w_iadd (n := 95) dX12_leansBy_94 rfl ?_
      refine w_retI dX12_leansBy_95 rfl ?_
      refine dk_q ?_ hq
      rw [nI_add]
      rfl
  · refine dk_enter [some (.int (nI 1)), some (.int (nI w)), some (.int (nI h)), some (.int (nI y)), none] (by decide) (fun _ => rfl) (fun _ => Nat.le_of_ble_eq_true rfl) ?_
    refine w_iconst (n := 1) (nI 2) dX12_leansBy_0 (by decide) rfl ?_
    refine w_il1 (n := 2) dX12_leansBy_1 rfl ?_
    refine w_iadd (n := 3) dX12_leansBy_2 rfl ?_
    refine w_il2 (n := 4) dX12_leansBy_3 rfl ?_
    refine w_isub (n := 5) dX12_leansBy_4 rfl ?_
    refine w_is4 (n := 7) dX12_leansBy_5 rfl rfl (by decide) ?_
    refine w_il4 (n := 9) dX12_leansBy_7 rfl ?_
    refine w_if_ge (n := 12) 16 dX12_leansBy_9 (by decide) rfl (fun z9 => ?_) (fun z9 => ?_)
    · skip
      refine w_il4 (n := 18) dX12_leansBy_16 rfl ?_
      refine w_is4 (n := 20) dX12_leansBy_18 rfl rfl (by decide) ?_
      refine w_il0 (n := 21) dX12_leansBy_20 rfl ?_
      refine w_tabIn 56 dX12_leansBy_21 (by decide) (by decide) rfl (by decide) ?_
      refine w_iconst (n := 57) (nI 1) dX12_leansBy_56 (by decide) rfl ?_
      refine w_retI dX12_leansBy_57 rfl ?_
      exact hq
    · skip
      refine w_iconst (n := 13) (nI 0) dX12_leansBy_12 (by decide) rfl ?_
      refine w_goto 18 dX12_leansBy_13 (by decide) ?_
      refine w_is4 (n := 20) dX12_leansBy_18 rfl rfl (by decide) ?_
      refine w_il0 (n := 21) dX12_leansBy_20 rfl ?_
      refine w_tabIn 56 dX12_leansBy_21 (by decide) (by decide) rfl (by decide) ?_
      refine w_iconst (n := 57) (nI 1) dX12_leansBy_56 (by decide) rfl ?_
      refine w_retI dX12_leansBy_57 rfl ?_
      exact hq
  · refine dk_enter [some (.int (nI 2)), some (.int (nI w)), some (.int (nI h)), some (.int (nI y)), none] (by decide) (fun _ => rfl) (fun _ => Nat.le_of_ble_eq_true rfl) ?_
    refine w_iconst (n := 1) (nI 2) dX12_leansBy_0 (by decide) rfl ?_
    refine w_il1 (n := 2) dX12_leansBy_1 rfl ?_
    refine w_iadd (n := 3) dX12_leansBy_2 rfl ?_
    refine w_il2 (n := 4) dX12_leansBy_3 rfl ?_
    refine w_isub (n := 5) dX12_leansBy_4 rfl ?_
    refine w_is4 (n := 7) dX12_leansBy_5 rfl rfl (by decide) ?_
    refine w_il4 (n := 9) dX12_leansBy_7 rfl ?_
    refine w_if_ge (n := 12) 16 dX12_leansBy_9 (by decide) rfl (fun z9 => ?_) (fun z9 => ?_)
    · skip
      refine w_il4 (n := 18) dX12_leansBy_16 rfl ?_
      refine w_is4 (n := 20) dX12_leansBy_18 rfl rfl (by decide) ?_
      refine w_il0 (n := 21) dX12_leansBy_20 rfl ?_
      refine w_tabIn 58 dX12_leansBy_21 (by decide) (by decide) rfl (by decide) ?_
      refine w_iconst (n := 59) (nI 4) dX12_leansBy_58 (by decide) rfl ?_
      refine w_iconst (n := 60) (nI 2) dX12_leansBy_59 (by decide) rfl ?_
      refine w_il1 (n := 61) dX12_leansBy_60 rfl ?_
      refine w_imul (n := 62) dX12_leansBy_61 rfl ?_
      refine w_iadd (n := 63) dX12_leansBy_62 rfl ?_
      refine w_retI dX12_leansBy_63 rfl ?_
      refine dk_q ?_ hq
      rw [pk_mul, nI_add]
      rfl
    · skip
      refine w_iconst (n := 13) (nI 0) dX12_leansBy_12 (by decide) rfl ?_
      refine w_goto 18 dX12_leansBy_13 (by decide) ?_
      refine w_is4 (n := 20) dX12_leansBy_18 rfl rfl (by decide) ?_
      refine w_il0 (n := 21) dX12_leansBy_20 rfl ?_
      refine w_tabIn 58 dX12_leansBy_21 (by decide) (by decide) rfl (by decide) ?_
      refine w_iconst (n := 59) (nI 4) dX12_leansBy_58 (by decide) rfl ?_
      refine w_iconst (n := 60) (nI 2) dX12_leansBy_59 (by decide) rfl ?_
      refine w_il1 (n := 61) dX12_leansBy_60 rfl ?_
      refine w_imul (n := 62) dX12_leansBy_61 rfl ?_
      refine w_iadd (n := 63) dX12_leansBy_62 rfl ?_
      refine w_retI dX12_leansBy_63 rfl ?_
      refine dk_q ?_ hq
      rw [pk_mul, nI_add]
      rfl
  · refine dk_enter [some (.int (nI 3)), some (.int (nI w)), some (.int (nI h)), some (.int (nI y)), none] (by decide) (fun _ => rfl) (fun _ => Nat.le_of_ble_eq_true rfl) ?_
    refine w_iconst (n := 1) (nI 2) dX12_leansBy_0 (by decide) rfl ?_
    refine w_il1 (n := 2) dX12_leansBy_1 rfl ?_
    refine w_iadd (n := 3) dX12_leansBy_2 rfl ?_
    refine w_il2 (n := 4) dX12_leansBy_3 rfl ?_
    refine w_isub (n := 5) dX12_leansBy_4 rfl ?_
    refine w_is4 (n := 7) dX12_leansBy_5 rfl rfl (by decide) ?_
    refine w_il4 (n := 9) dX12_leansBy_7 rfl ?_
    refine w_if_ge (n := 12) 16 dX12_leansBy_9 (by decide) rfl (fun z9 => ?_) (fun z9 => ?_)
    · skip
      refine w_il4 (n := 18) dX12_leansBy_16 rfl ?_
      refine w_is4 (n := 20) dX12_leansBy_18 rfl rfl (by decide) ?_
      refine w_il0 (n := 21) dX12_leansBy_20 rfl ?_
      refine w_tabIn 64 dX12_leansBy_21 (by decide) (by decide) rfl (by decide) ?_
      refine w_iconst (n := 65) (nI 4) dX12_leansBy_64 (by decide) rfl ?_
      refine w_iconst (n := 66) (nI 2) dX12_leansBy_65 (by decide) rfl ?_
      refine w_il1 (n := 67) dX12_leansBy_66 rfl ?_
      refine w_imul (n := 68) dX12_leansBy_67 rfl ?_
      refine w_iadd (n := 69) dX12_leansBy_68 rfl ?_
      refine w_il3 (n := 70) dX12_leansBy_69 rfl ?_
      refine w_bipush (n := 72) (nI 6) dX12_leansBy_70 (by decide) rfl ?_
      refine w_idiv (n := 73) (by decide) dX12_leansBy_72 rfl ?_
      refine w_iadd (n := 74) dX12_leansBy_73 rfl ?_
      refine w_retI dX12_leansBy_74 rfl ?_
      refine dk_q ?_ hq
      rw [q2, pk_mul, nI_add, nI_add]
      rfl
    · skip
      refine w_iconst (n := 13) (nI 0) dX12_leansBy_12 (by decide) rfl ?_
      refine w_goto 18 dX12_leansBy_13 (by decide) ?_
      refine w_is4 (n := 20) dX12_leansBy_18 rfl rfl (by decide) ?_
      refine w_il0 (n := 21) dX12_leansBy_20 rfl ?_
      refine w_tabIn 64 dX12_leansBy_21 (by decide) (by decide) rfl (by decide) ?_
      refine w_iconst (n := 65) (nI 4) dX12_leansBy_64 (by decide) rfl ?_
      refine w_iconst (n := 66) (nI 2) dX12_leansBy_65 (by decide) rfl ?_
      refine w_il1 (n := 67) dX12_leansBy_66 rfl ?_
      refine w_imul (n := 68) dX12_leansBy_67 rfl ?_
      refine w_iadd (n := 69) dX12_leansBy_68 rfl ?_
      refine w_il3 (n := 70) dX12_leansBy_69 rfl ?_
      refine w_bipush (n := 72) (nI 6) dX12_leansBy_70 (by decide) rfl ?_
      refine w_idiv (n := 73) (by decide) dX12_leansBy_72 rfl ?_
      refine w_iadd (n := 74) dX12_leansBy_73 rfl ?_
      refine w_retI dX12_leansBy_74 rfl ?_
      refine dk_q ?_ hq
      rw [q2, pk_mul, nI_add, nI_add]
      rfl
  · refine dk_enter [some (.int (nI 4)), some (.int (nI w)), some (.int (nI h)), some (.int (nI y)), none] (by decide) (fun _ => rfl) (fun _ => Nat.le_of_ble_eq_true rfl) ?_
    refine w_iconst (n := 1) (nI 2) dX12_leansBy_0 (by decide) rfl ?_
    refine w_il1 (n := 2) dX12_leansBy_1 rfl ?_
    refine w_iadd (n := 3) dX12_leansBy_2 rfl ?_
    refine w_il2 (n := 4) dX12_leansBy_3 rfl ?_
    refine w_isub (n := 5) dX12_leansBy_4 rfl ?_
    refine w_is4 (n := 7) dX12_leansBy_5 rfl rfl (by decide) ?_
    refine w_il4 (n := 9) dX12_leansBy_7 rfl ?_
    refine w_if_ge (n := 12) 16 dX12_leansBy_9 (by decide) rfl (fun z9 => ?_) (fun z9 => ?_)
    · skip
      refine w_il4 (n := 18) dX12_leansBy_16 rfl ?_
      refine w_is4 (n := 20) dX12_leansBy_18 rfl rfl (by decide) ?_
      refine w_il0 (n := 21) dX12_leansBy_20 rfl ?_
      refine w_tabIn 75 dX12_leansBy_21 (by decide) (by decide) rfl (by decide) ?_
      refine w_il4 (n := 77) dX12_leansBy_75 rfl ?_
      refine w_retI dX12_leansBy_77 rfl ?_
      refine dk_q ?_ hq
      first | exact q1.1 z9 | (show nI 0 = nI (2 + w - h); rw [q1.2 z9])
    · skip
      refine w_iconst (n := 13) (nI 0) dX12_leansBy_12 (by decide) rfl ?_
      refine w_goto 18 dX12_leansBy_13 (by decide) ?_
      refine w_is4 (n := 20) dX12_leansBy_18 rfl rfl (by decide) ?_
      refine w_il0 (n := 21) dX12_leansBy_20 rfl ?_
      refine w_tabIn 75 dX12_leansBy_21 (by decide) (by decide) rfl (by decide) ?_
      refine w_il4 (n := 77) dX12_leansBy_75 rfl ?_
      refine w_retI dX12_leansBy_77 rfl ?_
      refine dk_q ?_ hq
      first | exact q1.1 z9 | (show nI 0 = nI (2 + w - h); rw [q1.2 z9])
  · refine dk_enter [some (.int (nI 5)), some (.int (nI w)), some (.int (nI h)), some (.int (nI y)), none] (by decide) (fun _ => rfl) (fun _ => Nat.le_of_ble_eq_true rfl) ?_
    refine w_iconst (n := 1) (nI 2) dX12_leansBy_0 (by decide) rfl ?_
    refine w_il1 (n := 2) dX12_leansBy_1 rfl ?_
    refine w_iadd (n := 3) dX12_leansBy_2 rfl ?_
    refine w_il2 (n := 4) dX12_leansBy_3 rfl ?_
    refine w_isub (n := 5) dX12_leansBy_4 rfl ?_
    refine w_is4 (n := 7) dX12_leansBy_5 rfl rfl (by decide) ?_
    refine w_il4 (n := 9) dX12_leansBy_7 rfl ?_
    refine w_if_ge (n := 12) 16 dX12_leansBy_9 (by decide) rfl (fun z9 => ?_) (fun z9 => ?_)
    · skip
      refine w_il4 (n := 18) dX12_leansBy_16 rfl ?_
      refine w_is4 (n := 20) dX12_leansBy_18 rfl rfl (by decide) ?_
      refine w_il0 (n := 21) dX12_leansBy_20 rfl ?_
      refine w_tabIn 78 dX12_leansBy_21 (by decide) (by decide) rfl (by decide) ?_
      refine w_il3 (n := 79) dX12_leansBy_78 rfl ?_
      refine w_iconst (n := 80) (nI 2) dX12_leansBy_79 (by decide) rfl ?_
      refine w_irem (n := 81) (by decide) dX12_leansBy_80 rfl ?_
      refine w_iconst (n := 82) (nI 1) dX12_leansBy_81 (by decide) rfl ?_
      refine w_ic_ne (n := 85) 89 dX12_leansBy_82 (by decide) rfl (fun z82 => ?_) (fun z82 => ?_)
      · skip
        refine w_il4 (n := 91) dX12_leansBy_89 rfl ?_
        refine w_retI dX12_leansBy_91 rfl ?_
        refine dk_q ?_ hq
        show _ = nI (if y % 2 = 1 then 0 else 2 + w - h)
        by_cases e82 : y % 2 = 1
        · first | exact absurd (by rw [q3, e82]) z82 | (rw [if_pos e82])
        · rw [if_neg e82]
          first | exact q1.1 z9 | (rw [q1.2 z9]; done) | exact absurd ((nI_eq (by omega) (by decide)).mp (q3.symm.trans z82)) e82
      · skip
        refine w_iconst (n := 86) (nI 0) dX12_leansBy_85 (by decide) rfl ?_
        refine w_goto 91 dX12_leansBy_86 (by decide) ?_
        refine w_retI dX12_leansBy_91 rfl ?_
        refine dk_q ?_ hq
        show _ = nI (if y % 2 = 1 then 0 else 2 + w - h)
        by_cases e82 : y % 2 = 1
        · first | exact absurd (by rw [q3, e82]) z82 | (rw [if_pos e82])
        · rw [if_neg e82]
          first | exact q1.1 z9 | (rw [q1.2 z9]; done) | exact absurd ((nI_eq (by omega) (by decide)).mp (q3.symm.trans z82)) e82
    · skip
      refine w_iconst (n := 13) (nI 0) dX12_leansBy_12 (by decide) rfl ?_
      refine w_goto 18 dX12_leansBy_13 (by decide) ?_
      refine w_is4 (n := 20) dX12_leansBy_18 rfl rfl (by decide) ?_
      refine w_il0 (n := 21) dX12_leansBy_20 rfl ?_
      refine w_tabIn 78 dX12_leansBy_21 (by decide) (by decide) rfl (by decide) ?_
      refine w_il3 (n := 79) dX12_leansBy_78 rfl ?_
      refine w_iconst (n := 80) (nI 2) dX12_leansBy_79 (by decide) rfl ?_
      refine w_irem (n := 81) (by decide) dX12_leansBy_80 rfl ?_
      refine w_iconst (n := 82) (nI 1) dX12_leansBy_81 (by decide) rfl ?_
      refine w_ic_ne (n := 85) 89 dX12_leansBy_82 (by decide) rfl (fun z82 => ?_) (fun z82 => ?_)
      · skip
        refine w_il4 (n := 91) dX12_leansBy_89 rfl ?_
        refine w_retI dX12_leansBy_91 rfl ?_
        refine dk_q ?_ hq
        show _ = nI (if y % 2 = 1 then 0 else 2 + w - h)
        by_cases e82 : y % 2 = 1
        · first | exact absurd (by rw [q3, e82]) z82 | (rw [if_pos e82])
        · rw [if_neg e82]
          first | exact q1.1 z9 | (rw [q1.2 z9]; done) | exact absurd ((nI_eq (by omega) (by decide)).mp (q3.symm.trans z82)) e82
      · skip
        refine w_iconst (n := 86) (nI 0) dX12_leansBy_85 (by decide) rfl ?_
        refine w_goto 91 dX12_leansBy_86 (by decide) ?_
        refine w_retI dX12_leansBy_91 rfl ?_
        refine dk_q ?_ hq
        show _ = nI (if y % 2 = 1 then 0 else 2 + w - h)
        by_cases e82 : y % 2 = 1
        · first | exact absurd (by rw [q3, e82]) z82 | (rw [if_pos e82])
        · rw [if_neg e82]
          first | exact q1.1 z9 | (rw [q1.2 z9]; done) | exact absurd ((nI_eq (by omega) (by decide)).mp (q3.symm.trans z82)) e82

set_option maxRecDepth 20000 in
theorem r_bearsBy {d : Nat} {M : dk_Mem} {Q : Option Value → dk_Mem → Prop} {k g n : Nat} (hk : k ≤ 5) (hg : g ≤ 9) (hn : n < 6) (hq : Q (some (.int (nI (sg_br k g n)))) M) : dk_Call d mX12_bearsBy [.int (nI k), .int (nI g), .int (nI n)] M Q := by
  rcases (show k = 0 ∨ k = 1 ∨ k = 2 ∨ k = 3 ∨ k = 4 ∨ k = 5 by omega) with rfl | rfl | rfl | rfl | rfl | rfl
  · refine dk_enter [some (.int (nI 0)), some (.int (nI g)), some (.int (nI n)), none] (by decide) (fun _ => rfl) (fun _ => Nat.le_of_ble_eq_true rfl) ?_
    refine w_bipush (n := 2) (nI 40) dX12_bearsBy_0 (by decide) rfl ?_
    refine w_iconst (n := 3) (nI 2) dX12_bearsBy_2 (by decide) rfl ?_
    refine w_il1 (n := 4) dX12_bearsBy_3 rfl ?_
    refine w_imul (n := 5) dX12_bearsBy_4 rfl ?_
    refine w_isub (n := 6) dX12_bearsBy_5 rfl ?_
    refine w_is3 (n := 7) dX12_bearsBy_6 rfl rfl (by decide) ?_
    refine w_il0 (n := 8) dX12_bearsBy_7 rfl ?_
    refine w_tabOut 71 dX12_bearsBy_8 (by decide) (by decide) ?_
    refine w_il3 (n := 72) dX12_bearsBy_71 rfl ?_
    refine w_retI dX12_bearsBy_72 rfl ?_
    refine dk_q ?_ hq
    first | exact q_br 0 (by decide) g (by omega) n hn | exact q_br 1 (by decide) g (by omega) n hn | exact q_br 2 (by decide) g (by omega) n hn | exact q_br 3 (by decide) g (by omega) n hn | exact q_br 4 (by decide) g (by omega) n hn | exact q_br 5 (by decide) g (by omega) n hn
  · refine dk_enter [some (.int (nI 1)), some (.int (nI g)), some (.int (nI n)), none] (by decide) (fun _ => rfl) (fun _ => Nat.le_of_ble_eq_true rfl) ?_
    refine w_bipush (n := 2) (nI 40) dX12_bearsBy_0 (by decide) rfl ?_
    refine w_iconst (n := 3) (nI 2) dX12_bearsBy_2 (by decide) rfl ?_
    refine w_il1 (n := 4) dX12_bearsBy_3 rfl ?_
    refine w_imul (n := 5) dX12_bearsBy_4 rfl ?_
    refine w_isub (n := 6) dX12_bearsBy_5 rfl ?_
    refine w_is3 (n := 7) dX12_bearsBy_6 rfl rfl (by decide) ?_
    refine w_il0 (n := 8) dX12_bearsBy_7 rfl ?_
    refine w_tabIn 44 dX12_bearsBy_8 (by decide) (by decide) rfl (by decide) ?_
    refine w_bipush (n := 46) (nI 95) dX12_bearsBy_44 (by decide) rfl ?_
    refine w_retI dX12_bearsBy_46 rfl ?_
    refine dk_q ?_ hq
    first | exact q_br 0 (by decide) g (by omega) n hn | exact q_br 1 (by decide) g (by omega) n hn | exact q_br 2 (by decide) g (by omega) n hn | exact q_br 3 (by decide) g (by omega) n hn | exact q_br 4 (by decide) g (by omega) n hn | exact q_br 5 (by decide) g (by omega) n hn
  · refine dk_enter [some (.int (nI 2)), some (.int (nI g)), some (.int (nI n)), none] (by decide) (fun _ => rfl) (fun _ => Nat.le_of_ble_eq_true rfl) ?_
    refine w_bipush (n := 2) (nI 40) dX12_bearsBy_0 (by decide) rfl ?_
    refine w_iconst (n := 3) (nI 2) dX12_bearsBy_2 (by decide) rfl ?_
    refine w_il1 (n := 4) dX12_bearsBy_3 rfl ?_
    refine w_imul (n := 5) dX12_bearsBy_4 rfl ?_
    refine w_isub (n := 6) dX12_bearsBy_5 rfl ?_
    refine w_is3 (n := 7) dX12_bearsBy_6 rfl rfl (by decide) ?_
    refine w_il0 (n := 8) dX12_bearsBy_7 rfl ?_
    refine w_tabIn 47 dX12_bearsBy_8 (by decide) (by decide) rfl (by decide) ?_
    refine w_il3 (n := 48) dX12_bearsBy_47 rfl ?_
    refine w_bipush (n := 50) (nI 8) dX12_bearsBy_48 (by decide) rfl ?_
    refine w_isub (n := 51) dX12_bearsBy_50 rfl ?_
    refine w_retI dX12_bearsBy_51 rfl ?_
    refine dk_q ?_ hq
    first | exact q_br 0 (by decide) g (by omega) n hn | exact q_br 1 (by decide) g (by omega) n hn | exact q_br 2 (by decide) g (by omega) n hn | exact q_br 3 (by decide) g (by omega) n hn | exact q_br 4 (by decide) g (by omega) n hn | exact q_br 5 (by decide) g (by omega) n hn
  · refine dk_enter [some (.int (nI 3)), some (.int (nI g)), some (.int (nI n)), none] (by decide) (fun _ => rfl) (fun _ => Nat.le_of_ble_eq_true rfl) ?_
    refine w_bipush (n := 2) (nI 40) dX12_bearsBy_0 (by decide) rfl ?_
    refine w_iconst (n := 3) (nI 2) dX12_bearsBy_2 (by decide) rfl ?_
    refine w_il1 (n := 4) dX12_bearsBy_3 rfl ?_
    refine w_imul (n := 5) dX12_bearsBy_4 rfl ?_
    refine w_isub (n := 6) dX12_bearsBy_5 rfl ?_
    refine w_is3 (n := 7) dX12_bearsBy_6 rfl rfl (by decide) ?_
    refine w_il0 (n := 8) dX12_bearsBy_7 rfl ?_
    refine w_tabIn 52 dX12_bearsBy_8 (by decide) (by decide) rfl (by decide) ?_
    refine w_il3 (n := 53) dX12_bearsBy_52 rfl ?_
    refine w_bipush (n := 55) (nI 8) dX12_bearsBy_53 (by decide) rfl ?_
    refine w_isub (n := 56) dX12_bearsBy_55 rfl ?_
    refine w_il1 (n := 57) dX12_bearsBy_56 rfl ?_
    refine w_iadd (n := 58) dX12_bearsBy_57 rfl ?_
    refine w_retI dX12_bearsBy_58 rfl ?_
    refine dk_q ?_ hq
    first | exact q_br 0 (by decide) g (by omega) n hn | exact q_br 1 (by decide) g (by omega) n hn | exact q_br 2 (by decide) g (by omega) n hn | exact q_br 3 (by decide) g (by omega) n hn | exact q_br 4 (by decide) g (by omega) n hn | exact q_br 5 (by decide) g (by omega) n hn
  · refine dk_enter [some (.int (nI 4)), some (.int (nI g)), some (.int (nI n)), none] (by decide) (fun _ => rfl) (fun _ => Nat.le_of_ble_eq_true rfl) ?_
    refine w_bipush (n := 2) (nI 40) dX12_bearsBy_0 (by decide) rfl ?_
    refine w_iconst (n := 3) (nI 2) dX12_bearsBy_2 (by decide) rfl ?_
    refine w_il1 (n := 4) dX12_bearsBy_3 rfl ?_
    refine w_imul (n := 5) dX12_bearsBy_4 rfl ?_
    refine w_isub (n := 6) dX12_bearsBy_5 rfl ?_
    refine w_is3 (n := 7) dX12_bearsBy_6 rfl rfl (by decide) ?_
    refine w_il0 (n := 8) dX12_bearsBy_7 rfl ?_
    refine w_tabIn 59 dX12_bearsBy_8 (by decide) (by decide) rfl (by decide) ?_
    refine w_il3 (n := 60) dX12_bearsBy_59 rfl ?_
    refine w_bipush (n := 62) (nI 10) dX12_bearsBy_60 (by decide) rfl ?_
    refine w_iadd (n := 63) dX12_bearsBy_62 rfl ?_
    refine w_retI dX12_bearsBy_63 rfl ?_
    refine dk_q ?_ hq
    first | exact q_br 0 (by decide) g (by omega) n hn | exact q_br 1 (by decide) g (by omega) n hn | exact q_br 2 (by decide) g (by omega) n hn | exact q_br 3 (by decide) g (by omega) n hn | exact q_br 4 (by decide) g (by omega) n hn | exact q_br 5 (by decide) g (by omega) n hn
  · refine dk_enter [some (.int (nI 5)), some (.int (nI g)), some (.int (nI n)), none] (by decide) (fun _ => rfl) (fun _ => Nat.le_of_ble_eq_true rfl) ?_
    refine w_bipush (n := 2) (nI 40) dX12_bearsBy_0 (by decide) rfl ?_
    refine w_iconst (n := 3) (nI 2) dX12_bearsBy_2 (by decide) rfl ?_
    refine w_il1 (n := 4) dX12_bearsBy_3 rfl ?_
    refine w_imul (n := 5) dX12_bearsBy_4 rfl ?_
    refine w_isub (n := 6) dX12_bearsBy_5 rfl ?_
    refine w_is3 (n := 7) dX12_bearsBy_6 rfl rfl (by decide) ?_
    refine w_il0 (n := 8) dX12_bearsBy_7 rfl ?_
    refine w_tabIn 64 dX12_bearsBy_8 (by decide) (by decide) rfl (by decide) ?_
    refine w_il3 (n := 65) dX12_bearsBy_64 rfl ?_
    refine w_bipush (n := 67) (nI 10) dX12_bearsBy_65 (by decide) rfl ?_
    refine w_iadd (n := 68) dX12_bearsBy_67 rfl ?_
    refine w_il2 (n := 69) dX12_bearsBy_68 rfl ?_
    refine w_iadd (n := 70) dX12_bearsBy_69 rfl ?_
    refine w_retI dX12_bearsBy_70 rfl ?_
    refine dk_q ?_ hq
    first | exact q_br 0 (by decide) g (by omega) n hn | exact q_br 1 (by decide) g (by omega) n hn | exact q_br 2 (by decide) g (by omega) n hn | exact q_br 3 (by decide) g (by omega) n hn | exact q_br 4 (by decide) g (by omega) n hn | exact q_br 5 (by decide) g (by omega) n hn
