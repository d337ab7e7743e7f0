/-! ===== chains, both sides ===== -/
theorem q_orb : ∀ s, s < 64 → ∀ k, k < 6 → nI s ||| (nI 1 <<< (nI k &&& 31)) = nI (s ||| 2 ^ k) := by decide +kernel
theorem q_apart : ∀ a, a < 6 → ∀ b, b < 6 → ((-1 ≤ nI a - nI b ∧ nI a - nI b ≤ nI 1) ↔ (a ≤ b + 1 ∧ b ≤ a + 1)) := by decide +kernel
theorem q_absd : ∀ a, a < 6 → ∀ b, b < 6 → (nI 1 < (if 0 ≤ nI a - nI b then nI a - nI b else 0 - (nI a - nI b)) ↔ ¬ (a ≤ b + 1 ∧ b ≤ a + 1)) := by decide +kernel
theorem q_mask : ∀ s, s < 64 → ∀ h, h < 6 → nI s &&& ((nI 1 <<< (nI h &&& 31)) - nI 1) = nI (s % 2 ^ h) := by decide +kernel
theorem q_sh1 : ∀ h, h < 6 → nI 1 <<< (nI h &&& 31) = nI (2 ^ h) := by decide +kernel
theorem q_rem6 : ∀ p, p < 36 → nI p - nI p / nI 6 * nI 6 = nI (p % 6) := by decide +kernel
def sg_lo (s : Nat) : Int32 := if s.testBit 0 then nI 0 else if s.testBit 1 then nI 1 else if s.testBit 2 then nI 2 else if s.testBit 3 then nI 3 else if s.testBit 4 then nI 4 else if s.testBit 5 then nI 5 else -3
theorem sg_lo_k : ∀ s, s < 64 → ∀ k, k < 6 → s.testBit k = true → (∀ j, j < k → s.testBit j = false) → sg_lo s = nI k := by decide +kernel
theorem sg_lo_n : ∀ s, s < 64 → (∀ j, j < 6 → s.testBit j = false) → sg_lo s = -3 := by decide +kernel
theorem sg_lo_e : ∀ s, s < 64 → ∀ k, k < 6 → (s = 0 ∨ s.testBit k = true) → (sg_lo s = nI k ↔ (s ≠ 0 ∧ s % 2 ^ k = 0)) := by decide +kernel
def sg_nc (σ : Nat → Nat) : Nat → Nat
  | 0 => 0
  | n + 1 => sg_nc σ n + if sg_ch σ n ≠ 0 ∧ sg_ch σ n % 2 ^ n = 0 then 1 else 0
def kf_chains (K : sg_K) (x : Int32) : Int32 := if x = -1 then nI (sg_nc K.1 (K.1 4)) else match sg_pc K.1 x with
  | none => -1
  | some h => nI (sg_ch K.1 h)
theorem ch_ok1 {σ : Nat → Nat} (o : sg_ok σ) {h : Nat} (hh : h < σ 4) (e : ¬ σ (39 + 5 * h) = 1) : ch_ok σ (2 ^ h) := fun j z => by
  rw [Nat.testBit_two_pow, decide_eq_true_eq] at z
  have o4_h := o.2.2.2.1
  have := o.fal (h := h) (by omega)
  rw [← z]
  exact ⟨hh, by omega⟩
theorem sg_ch_64 {σ : Nat → Nat} (o : sg_ok σ) {h : Nat} (hh : h < σ 4) : sg_ch σ h < 64 ∧ (sg_ch σ h = 0 ∨ (sg_ch σ h).testBit h = true) := by
  unfold sg_ch
  by_cases e : σ (39 + 5 * h) = 1
  · rw [if_pos e]; exact ⟨by omega, Or.inl rfl⟩
  · rw [if_neg e]
    exact ⟨ch_64 o.2.2.2.1 (ch_ou_ok (ch_ok1 o hh e) 36), Or.inr (ch_ou_sub 36 h (by rw [Nat.testBit_two_pow]; simp))⟩
theorem sg_nc_le {σ : Nat → Nat} : ∀ n, sg_nc σ n ≤ n
  | 0 => Nat.le_refl 0
  | n + 1 => by
    have := sg_nc_le (σ := σ) n
    rw [sg_nc]
    split <;> omega
theorem tb_1 {s i : Nat} (h : nI (if s.testBit i then 1 else 0) = nI 1) : s.testBit i = true := by
  cases e : s.testBit i
  · rw [e] at h; exact absurd h (by decide)
  · rfl
theorem tb_0 {s i : Nat} (h : ¬ nI (if s.testBit i then 1 else 0) = nI 1) : s.testBit i = false := by
  cases e : s.testBit i
  · rfl
  · rw [e] at h; exact absurd rfl h
theorem tb_z {s i : Nat} (h : nI (if s.testBit i then 1 else 0) = 0) : s.testBit i = false := by
  cases e : s.testBit i
  · rfl
  · rw [e] at h; exact absurd h (by decide)
theorem tb_nz {s i : Nat} (h : ¬ nI (if s.testBit i then 1 else 0) = 0) : s.testBit i = true := by
  cases e : s.testBit i
  · rw [e] at h; exact absurd rfl h
  · rfl

set_option maxRecDepth 20000 in
theorem r_areClose {d : Nat} {M : dk_Mem} {Q : Option Value → dk_Mem → Prop} {σ : Nat → Nat} (hr : rr σ M) (o : sg_ok σ) {i k : Nat} (hi : i < 6) (hk : k < 6) (h1_h : sg_cl σ i k → Q (some (.int 1)) M) (h0_h : ¬ sg_cl σ i k → Q (some (.int 0)) M) : dk_Call (d + 1) mX12_areClose [.ref 104, .int (nI i), .int (nI k)] M Q := by
  have bi := o.room hi
  have bk := o.room hk
  have fi := o.fal hi
  have fk := o.fal hk
  have qa := q_apart _ (show σ (38 + 5 * i) < 6 by omega) _ (show σ (38 + 5 * k) < 6 by omega)
  refine dk_enter [some (.ref 104), some (.int (nI i)), some (.int (nI k)), none] (by decide) (fun _ => rfl) (fun _ => Nat.le_of_ble_eq_true rfl) ?_
  refine w_al0 (n := 1) dX12_areClose_0 rfl ?_
  refine w_il1 (n := 2) dX12_areClose_1 rfl ?_
  refine w_iconst (n := 3) (nI 3) dX12_areClose_2 (by decide) rfl ?_
  refine w_cV2 (n := 6) pl_104 cl_12 s0_X12_of k_X12_69 (Nat.le_of_ble_eq_true rfl) dX12_areClose_3 rfl (r_of (h := i) (w := 3) (by omega) (hr.room hi) ?_)
  refine w_al0 (n := 7) dX12_areClose_6 rfl ?_
  refine w_il2 (n := 8) dX12_areClose_7 rfl ?_
  refine w_iconst (n := 9) (nI 3) dX12_areClose_8 (by decide) rfl ?_
  refine w_cV2 (n := 12) pl_104 cl_12 s0_X12_of k_X12_69 (Nat.le_of_ble_eq_true rfl) dX12_areClose_9 rfl (r_of (h := k) (w := 3) (by omega) (hr.room hk) ?_)
  refine w_isub (n := 13) dX12_areClose_12 rfl ?_
  refine w_is3 (n := 14) dX12_areClose_13 rfl rfl (by decide) ?_
  refine w_al0 (n := 15) dX12_areClose_14 rfl ?_
  refine w_il1 (n := 16) dX12_areClose_15 rfl ?_
  refine w_iconst (n := 17) (nI 4) dX12_areClose_16 (by decide) rfl ?_
  refine w_cV2 (n := 20) pl_104 cl_12 s0_X12_of k_X12_69 (Nat.le_of_ble_eq_true rfl) dX12_areClose_17 rfl (r_of (h := i) (w := 4) (by omega) (hr.fal hi) ?_)
  refine w_if_ne (n := 23) 45 dX12_areClose_20 (by decide) rfl (fun z20_h => ?_) (fun z20_h => ?_)
  · skip
    refine w_iconst (n := 46) (nI 0) dX12_areClose_45 (by decide) rfl ?_
    refine w_retZ0 dX12_areClose_46 rfl ?_
    first | exact h0_h (fun z => z20_h ((q_nz (by omega)).mpr z.1.1)) | exact h0_h (fun z => z29_h ((q_nz (by omega)).mpr z.1.2)) | exact h0_h (fun z => t35_h (qa.mpr z.2))
  · skip
    refine w_al0 (n := 24) dX12_areClose_23 rfl ?_
    refine w_il2 (n := 25) dX12_areClose_24 rfl ?_
    refine w_iconst (n := 26) (nI 4) dX12_areClose_25 (by decide) rfl ?_
    refine w_cV2 (n := 29) pl_104 cl_12 s0_X12_of k_X12_69 (Nat.le_of_ble_eq_true rfl) dX12_areClose_26 rfl (r_of (h := k) (w := 4) (by omega) (hr.fal hk) ?_)
    refine w_if_ne (n := 32) 45 dX12_areClose_29 (by decide) rfl (fun z29_h => ?_) (fun z29_h => ?_)
    · skip
      refine w_iconst (n := 46) (nI 0) dX12_areClose_45 (by decide) rfl ?_
      refine w_retZ0 dX12_areClose_46 rfl ?_
      first | exact h0_h (fun z => z20_h ((q_nz (by omega)).mpr z.1.1)) | exact h0_h (fun z => z29_h ((q_nz (by omega)).mpr z.1.2)) | exact h0_h (fun z => t35_h (qa.mpr z.2))
    · skip
      refine w_il3 (n := 33) dX12_areClose_32 rfl ?_
      refine w_iconst (n := 34) (-1) dX12_areClose_33 (by decide) rfl ?_
      refine w_iconst (n := 35) (nI 1) dX12_areClose_34 (by decide) rfl ?_
      refine w_cS3 (n := 38) s0_X12_in k_X12_61 (Nat.le_of_ble_eq_true rfl) dX12_areClose_35 rfl (r_in (fun t35_h => ?_) (fun t35_h => ?_))
      · skip
        refine w_if_eq (n := 41) 45 dX12_areClose_38 (by decide) rfl (fun h => absurd h (by decide)) (fun _ => ?_)
        refine w_iconst (n := 42) (nI 1) dX12_areClose_41 (by decide) rfl ?_
        refine w_goto 46 dX12_areClose_42 (by decide) ?_
        refine w_retZ1 dX12_areClose_46 rfl ?_
        exact h1_h ⟨⟨(q_nz (by omega)).mp z20_h, (q_nz (by omega)).mp z29_h⟩, qa.mp t35_h⟩
      · skip
        refine w_if_eq (n := 41) 45 dX12_areClose_38 (by decide) rfl (fun _ => ?_) (fun h => absurd (by decide) h)
        refine w_iconst (n := 46) (nI 0) dX12_areClose_45 (by decide) rfl ?_
        refine w_retZ0 dX12_areClose_46 rfl ?_
        first | exact h0_h (fun z => z20_h ((q_nz (by omega)).mpr z.1.1)) | exact h0_h (fun z => z29_h ((q_nz (by omega)).mpr z.1.2)) | exact h0_h (fun z => t35_h (qa.mpr z.2))

set_option maxRecDepth 20000 in
theorem r_chI {d : Nat} {M : dk_Mem} {Q : Option Value → dk_Mem → Prop} {σ : Nat → Nat} (hr : rr σ M) (o : sg_ok σ) {h0_h : Int32} {i p s : Nat} (hi : i < σ 4) (hs : ch_ok σ s) (hx : dk_W (d + 2) mX12_chainOf 95 [some (.ref 104), some (.int h0_h), some (.int (nI (ch_in σ i (σ 4) s))), some (.int (nI p)), some (.int (nI i)), some (.int (nI (σ 4)))] [] M Q) : ∀ (n k : Nat), k ≤ σ 4 → σ 4 - k < n → dk_W (d + 2) mX12_chainOf 35 [some (.ref 104), some (.int h0_h), some (.int (nI (ch_in σ i k s))), some (.int (nI p)), some (.int (nI i)), some (.int (nI k))] [] M Q := by
  have o4_h := o.2.2.2.1
  intro n
  induction n with
  | zero => intro k _ h; omega
  | succ n ih =>
    intro k hk hn
    have l64_h := ch_64 o4_h (ch_in_ok (i := i) hs k hk)
    refine w_il5 (n := 37) dX12_chainOf_35 rfl ?_
    refine w_al0 (n := 38) dX12_chainOf_37 rfl ?_
    refine g_R (n := 41) f_X12_9_12 pl_104 rf_104_0 dX12_chainOf_38 rfl ?_
    refine w_iconst (n := 42) (nI 4) dX12_chainOf_41 (by decide) rfl ?_
    refine i_iald (n := 43) pl_105 (j := 4) rfl (by decide) (by decide) (hr 4 (by decide) (by decide) (by decide)) dX12_chainOf_42 rfl ?_
    refine w_ic_ge (n := 46) 95 dX12_chainOf_43 (by decide) rfl (fun z43_h => ?_) (fun z43_h => ?_)
    · skip
      first | exact absurd z54_h (by rw [q_le (by omega) (by omega)]; omega) | (have e : k = σ 4 := (by rw [q_le (by omega) (by omega)] at z43_h; omega); rw [e]; exact hx)
    · skip
      have hk4_h : k < σ 4 := by rw [q_le (by omega) (by omega)] at z43_h; omega
      refine w_il4 (n := 48) dX12_chainOf_46 rfl ?_
      refine w_al0 (n := 49) dX12_chainOf_48 rfl ?_
      refine g_R (n := 52) f_X12_9_12 pl_104 rf_104_0 dX12_chainOf_49 rfl ?_
      refine w_iconst (n := 53) (nI 4) dX12_chainOf_52 (by decide) rfl ?_
      refine i_iald (n := 54) pl_105 (j := 4) rfl (by decide) (by decide) (hr 4 (by decide) (by decide) (by decide)) dX12_chainOf_53 rfl ?_
      refine w_ic_ge (n := 57) 95 dX12_chainOf_54 (by decide) rfl (fun z54_h => ?_) (fun z54_h => ?_)
      · skip
        first | exact absurd z54_h (by rw [q_le (by omega) (by omega)]; omega) | (have e : k = σ 4 := (by rw [q_le (by omega) (by omega)] at z43_h; omega); rw [e]; exact hx)
      · skip
        refine w_il2 (n := 58) dX12_chainOf_57 rfl ?_
        refine w_il2 (n := 59) dX12_chainOf_58 rfl ?_
        refine w_il4 (n := 61) dX12_chainOf_59 rfl ?_
        refine w_ishr (n := 62) dX12_chainOf_61 rfl ?_
        refine w_iconst (n := 63) (nI 1) dX12_chainOf_62 (by decide) rfl ?_
        refine w_iand (n := 64) dX12_chainOf_63 rfl ?_
        refine w_iconst (n := 65) (nI 1) dX12_chainOf_64 (by decide) rfl ?_
        rw [q_bit _ l64_h i (by omega)]
        refine w_ic_ne (n := 68) 86 dX12_chainOf_65 (by decide) rfl (fun z65_h => ?_) (fun z65_h => ?_)
        · skip
          refine w_iconst (n := 87) (nI 0) dX12_chainOf_86 (by decide) rfl ?_
          refine w_ior (n := 88) dX12_chainOf_87 rfl ?_
          refine w_is2 (n := 89) dX12_chainOf_88 rfl rfl (by decide) ?_
          refine w_inc5 (n := 92) (nI 1) dX12_chainOf_89 (by decide) rfl rfl (by decide) ?_
          refine w_goto 35 dX12_chainOf_92 (by decide) ?_
          rw [nI_add]
          first | (rw [q_orb _ l64_h k (by omega)]; have e1_h : ch_in σ i (k + 1) s = ch_in σ i k s ||| 2 ^ k := if_pos ⟨tb_1 z65_h, t73_h⟩; have g := ih (k + 1) (by omega) (by omega); rw [e1_h] at g; exact g) | (rw [q_or0]; have e1_h : ch_in σ i (k + 1) s = ch_in σ i k s := if_neg (fun z => t73_h z.2); have g := ih (k + 1) (by omega) (by omega); rw [e1_h] at g; exact g) | (rw [q_or0]; have e1_h : ch_in σ i (k + 1) s = ch_in σ i k s := if_neg (fun z => by rw [tb_0 z65_h] at z; exact absurd z.1 (by decide)); have g := ih (k + 1) (by omega) (by omega); rw [e1_h] at g; exact g)
        · skip
          refine w_al0 (n := 69) dX12_chainOf_68 rfl ?_
          refine w_il4 (n := 71) dX12_chainOf_69 rfl ?_
          refine w_il5 (n := 73) dX12_chainOf_71 rfl ?_
          refine w_cV2 (n := 76) pl_104 cl_12 s0_X12_areClose k_X12_238 (Nat.le_of_ble_eq_true rfl) dX12_chainOf_73 rfl (r_areClose hr o (i := i) (k := k) (by omega) (by omega) (fun t73_h => ?_) (fun t73_h => ?_))
          · skip
            refine w_if_eq (n := 79) 86 dX12_chainOf_76 (by decide) rfl (fun h => absurd h (by decide)) (fun _ => ?_)
            refine w_iconst (n := 80) (nI 1) dX12_chainOf_79 (by decide) rfl ?_
            refine w_il5 (n := 82) dX12_chainOf_80 rfl ?_
            refine w_ishl (n := 83) dX12_chainOf_82 rfl ?_
            refine w_goto 87 dX12_chainOf_83 (by decide) ?_
            refine w_ior (n := 88) dX12_chainOf_87 rfl ?_
            refine w_is2 (n := 89) dX12_chainOf_88 rfl rfl (by decide) ?_
            refine w_inc5 (n := 92) (nI 1) dX12_chainOf_89 (by decide) rfl rfl (by decide) ?_
            refine w_goto 35 dX12_chainOf_92 (by decide) ?_
            rw [nI_add]
            first | (rw [q_orb _ l64_h k (by omega)]; have e1_h : ch_in σ i (k + 1) s = ch_in σ i k s ||| 2 ^ k := if_pos ⟨tb_1 z65_h, t73_h⟩; have g := ih (k + 1) (by omega) (by omega); rw [e1_h] at g; exact g) | (rw [q_or0]; have e1_h : ch_in σ i (k + 1) s = ch_in σ i k s := if_neg (fun z => t73_h z.2); have g := ih (k + 1) (by omega) (by omega); rw [e1_h] at g; exact g) | (rw [q_or0]; have e1_h : ch_in σ i (k + 1) s = ch_in σ i k s := if_neg (fun z => by rw [tb_0 z65_h] at z; exact absurd z.1 (by decide)); have g := ih (k + 1) (by omega) (by omega); rw [e1_h] at g; exact g)
          · skip
            refine w_if_eq (n := 79) 86 dX12_chainOf_76 (by decide) rfl (fun _ => ?_) (fun h => absurd (by decide) h)
            refine w_iconst (n := 87) (nI 0) dX12_chainOf_86 (by decide) rfl ?_
            refine w_ior (n := 88) dX12_chainOf_87 rfl ?_
            refine w_is2 (n := 89) dX12_chainOf_88 rfl rfl (by decide) ?_
            refine w_inc5 (n := 92) (nI 1) dX12_chainOf_89 (by decide) rfl rfl (by decide) ?_
            refine w_goto 35 dX12_chainOf_92 (by decide) ?_
            rw [nI_add]
            first | (rw [q_orb _ l64_h k (by omega)]; have e1_h : ch_in σ i (k + 1) s = ch_in σ i k s ||| 2 ^ k := if_pos ⟨tb_1 z65_h, t73_h⟩; have g := ih (k + 1) (by omega) (by omega); rw [e1_h] at g; exact g) | (rw [q_or0]; have e1_h : ch_in σ i (k + 1) s = ch_in σ i k s := if_neg (fun z => t73_h z.2); have g := ih (k + 1) (by omega) (by omega); rw [e1_h] at g; exact g) | (rw [q_or0]; have e1_h : ch_in σ i (k + 1) s = ch_in σ i k s := if_neg (fun z => by rw [tb_0 z65_h] at z; exact absurd z.1 (by decide)); have g := ih (k + 1) (by omega) (by omega); rw [e1_h] at g; exact g)

set_option maxRecDepth 20000 in
theorem r_chN {d : Nat} {M : dk_Mem} {Q : Option Value → dk_Mem → Prop} {σ : Nat → Nat} (hr : rr σ M) (o : sg_ok σ) {h0_h s0_h : Int32} {i p : Nat} (hi : ¬ i < σ 4) (hi6_h : i < 6) (hx : dk_W (d + 2) mX12_chainOf 95 [some (.ref 104), some (.int h0_h), some (.int s0_h), some (.int (nI p)), some (.int (nI i)), some (.int (nI 0))] [] M Q) : dk_W (d + 2) mX12_chainOf 35 [some (.ref 104), some (.int h0_h), some (.int s0_h), some (.int (nI p)), some (.int (nI i)), some (.int (nI 0))] [] M Q := by
  have o4_h := o.2.2.2.1
  refine w_il5 (n := 37) dX12_chainOf_35 rfl ?_
  refine w_al0 (n := 38) dX12_chainOf_37 rfl ?_
  refine g_R (n := 41) f_X12_9_12 pl_104 rf_104_0 dX12_chainOf_38 rfl ?_
  refine w_iconst (n := 42) (nI 4) dX12_chainOf_41 (by decide) rfl ?_
  refine i_iald (n := 43) pl_105 (j := 4) rfl (by decide) (by decide) (hr 4 (by decide) (by decide) (by decide)) dX12_chainOf_42 rfl ?_
  refine w_ic_ge (n := 46) 95 dX12_chainOf_43 (by decide) rfl (fun z43_h => ?_) (fun z43_h => ?_)
  · skip
    exact hx
  · skip
    refine w_il4 (n := 48) dX12_chainOf_46 rfl ?_
    refine w_al0 (n := 49) dX12_chainOf_48 rfl ?_
    refine g_R (n := 52) f_X12_9_12 pl_104 rf_104_0 dX12_chainOf_49 rfl ?_
    refine w_iconst (n := 53) (nI 4) dX12_chainOf_52 (by decide) rfl ?_
    refine i_iald (n := 54) pl_105 (j := 4) rfl (by decide) (by decide) (hr 4 (by decide) (by decide) (by decide)) dX12_chainOf_53 rfl ?_
    refine w_ic_ge (n := 57) 95 dX12_chainOf_54 (by decide) rfl (fun z54_h => ?_) (fun z54_h => ?_)
    · skip
      exact hx
    · skip
      exact absurd (by rw [q_le (by omega) (by omega)]; omega) z54_h

set_option maxRecDepth 20000 in
theorem r_ch95 {d : Nat} {M : dk_Mem} {Q : Option Value → dk_Mem → Prop} {h0_h s0_h : Int32} {p : Nat} {x4_h x5_h : Option Value} (hx : dk_W (d + 2) mX12_chainOf 20 [some (.ref 104), some (.int h0_h), some (.int s0_h), some (.int (nI (p + 1))), x4_h, x5_h] [] M Q) : dk_W (d + 2) mX12_chainOf 95 [some (.ref 104), some (.int h0_h), some (.int s0_h), some (.int (nI p)), x4_h, x5_h] [] M Q := by
  refine w_inc3 (n := 98) (nI 1) dX12_chainOf_95 (by decide) rfl rfl (by decide) ?_
  refine w_goto 20 dX12_chainOf_98 (by decide) ?_
  rw [nI_add]
  exact hx

set_option maxRecDepth 20000 in
theorem r_chO {d : Nat} {M : dk_Mem} {Q : Option Value → dk_Mem → Prop} {σ : Nat → Nat} (hr : rr σ M) (o : sg_ok σ) {h0_h : Int32} {s : Nat} (hs : ch_ok σ s) (hq : Q (some (.int (nI (ch_ou σ 36 s)))) M) : ∀ (n p : Nat) (x4_h x5_h : Option Value), p ≤ 36 → 36 - p < n → dk_W (d + 2) mX12_chainOf 20 [some (.ref 104), some (.int h0_h), some (.int (nI (ch_ou σ p s))), some (.int (nI p)), x4_h, x5_h] [] M Q := by
  have o4_h := o.2.2.2.1
  intro n
  induction n with
  | zero => intro p x4_h x5_h _ h; omega
  | succ n ih =>
    intro p x4_h x5_h hp hn
    refine w_il3 (n := 21) dX12_chainOf_20 rfl ?_
    refine w_bipush (n := 23) (nI 36) dX12_chainOf_21 (by decide) rfl ?_
    refine w_ic_ge (n := 26) 101 dX12_chainOf_23 (by decide) rfl (fun z23_h => ?_) (fun z23_h => ?_)
    · skip
      refine w_il2 (n := 102) dX12_chainOf_101 rfl ?_
      refine w_retI dX12_chainOf_102 rfl ?_
      rw [q_le (by decide) (by omega)] at z23_h
      rw [show p = 36 by omega]
      exact hq
    · skip
      have hp2_h : p < 36 := by rw [q_le (by decide) (by omega)] at z23_h; omega
      refine w_il3 (n := 27) dX12_chainOf_26 rfl ?_
      refine w_bipush (n := 29) (nI 6) dX12_chainOf_27 (by decide) rfl ?_
      refine w_irem (n := 30) (by decide) dX12_chainOf_29 rfl ?_
      rw [q_rem6 p hp2_h]
      refine w_is4 (n := 32) dX12_chainOf_30 rfl rfl (by decide) ?_
      refine w_iconst (n := 33) (nI 0) dX12_chainOf_32 (by decide) rfl ?_
      refine w_is5 (n := 35) dX12_chainOf_33 rfl rfl (by decide) ?_
      have ih2_h := ih (p + 1)
      by_cases c : p % 6 < σ 4
      · have hx : ch_ou σ (p + 1) s = ch_in σ (p % 6) (σ 4) (ch_ou σ p s) := if_pos c
        refine r_chI hr o c (ch_ou_ok hs p) ?_ (σ 4 + 1) 0 (by omega) (by omega)
        have g := r_ch95 (d := d) (ih2_h (some (.int (nI (p % 6)))) (some (.int (nI (σ 4)))) (by omega) (by omega))
        rw [hx] at g
        exact g
      · have hx : ch_ou σ (p + 1) s = ch_ou σ p s := if_neg c
        refine r_chN hr o c (by omega) ?_
        have g := r_ch95 (d := d) (ih2_h (some (.int (nI (p % 6)))) (some (.int (nI 0))) (by omega) (by omega))
        rw [hx] at g
        exact g

set_option maxRecDepth 20000 in
theorem r_chZ {d : Nat} {M : dk_Mem} {Q : Option Value → dk_Mem → Prop} {σ : Nat → Nat} (hr : rr σ M) (o : sg_ok σ) {h0_h : Int32} (hq : Q (some (.int (nI 0))) M) : ∀ (n p : Nat) (x4_h x5_h : Option Value), p ≤ 36 → 36 - p < n → dk_W (d + 2) mX12_chainOf 20 [some (.ref 104), some (.int h0_h), some (.int (nI 0)), some (.int (nI p)), x4_h, x5_h] [] M Q := by
  have o4_h := o.2.2.2.1
  have hs : ch_ok σ 0 := fun j z => by rw [Nat.zero_testBit] at z; exact absurd z (by decide)
  have hz : ∀ i k, ch_in σ i k 0 = 0 := fun i k => by
    induction k with
    | zero => rfl
    | succ k ih => rw [ch_in, ih, if_neg (fun z => by rw [Nat.zero_testBit] at z; exact absurd z.1 (by decide))]
  intro n
  induction n with
  | zero => intro p x4_h x5_h _ h; omega
  | succ n ih =>
    intro p x4_h x5_h hp hn
    refine w_il3 (n := 21) dX12_chainOf_20 rfl ?_
    refine w_bipush (n := 23) (nI 36) dX12_chainOf_21 (by decide) rfl ?_
    refine w_ic_ge (n := 26) 101 dX12_chainOf_23 (by decide) rfl (fun z23_h => ?_) (fun z23_h => ?_)
    · skip
      refine w_il2 (n := 102) dX12_chainOf_101 rfl ?_
      refine w_retI dX12_chainOf_102 rfl ?_
      exact hq
    · skip
      have hp2_h : p < 36 := by rw [q_le (by decide) (by omega)] at z23_h; omega
      refine w_il3 (n := 27) dX12_chainOf_26 rfl ?_
      refine w_bipush (n := 29) (nI 6) dX12_chainOf_27 (by decide) rfl ?_
      refine w_irem (n := 30) (by decide) dX12_chainOf_29 rfl ?_
      rw [q_rem6 p hp2_h]
      refine w_is4 (n := 32) dX12_chainOf_30 rfl rfl (by decide) ?_
      refine w_iconst (n := 33) (nI 0) dX12_chainOf_32 (by decide) rfl ?_
      refine w_is5 (n := 35) dX12_chainOf_33 rfl rfl (by decide) ?_
      by_cases c : p % 6 < σ 4
      · have g := r_chI (d := d) (M := M) (Q := Q) (h0_h := h0_h) (p := p) (s := 0) hr o c hs (by rw [hz]; exact r_ch95 (ih (p + 1) _ _ (by omega) (by omega))) (σ 4 + 1) 0 (by omega) (by omega)
        exact g
      · exact r_chN hr o c (by omega) (r_ch95 (ih (p + 1) _ _ (by omega) (by omega)))

set_option maxRecDepth 20000 in
theorem r_chainOf {d : Nat} {M : dk_Mem} {Q : Option Value → dk_Mem → Prop} {σ : Nat → Nat} (hr : rr σ M) (o : sg_ok σ) {h : Nat} (hh : h < σ 4) (hq : Q (some (.int (nI (sg_ch σ h)))) M) : dk_Call (d + 2) mX12_chainOf [.ref 104, .int (nI h)] M Q := by
  have o4_h := o.2.2.2.1
  have h6_h : h < 6 := by omega
  have b1_h := o.fal h6_h
  refine dk_enter [some (.ref 104), some (.int (nI h)), none, none, none, none] (by decide) (fun _ => rfl) (fun _ => Nat.le_of_ble_eq_true rfl) ?_
  refine w_al0 (n := 1) dX12_chainOf_0 rfl ?_
  refine w_il1 (n := 2) dX12_chainOf_1 rfl ?_
  refine w_iconst (n := 3) (nI 4) dX12_chainOf_2 (by decide) rfl ?_
  refine w_cV2 (n := 6) pl_104 cl_12 s0_X12_of k_X12_69 (Nat.le_of_ble_eq_true rfl) dX12_chainOf_3 rfl (r_of (h := h) (w := 4) (by omega) (hr.fal h6_h) ?_)
  refine w_iconst (n := 7) (nI 1) dX12_chainOf_6 (by decide) rfl ?_
  refine w_ic_ne (n := 10) 14 dX12_chainOf_7 (by decide) rfl (fun z7_h => ?_) (fun z7_h => ?_)
  · skip
    refine w_iconst (n := 15) (nI 1) dX12_chainOf_14 (by decide) rfl ?_
    refine w_il1 (n := 16) dX12_chainOf_15 rfl ?_
    refine w_ishl (n := 17) dX12_chainOf_16 rfl ?_
    refine w_is2 (n := 18) dX12_chainOf_17 rfl rfl (by decide) ?_
    refine w_iconst (n := 19) (nI 0) dX12_chainOf_18 (by decide) rfl ?_
    refine w_is3 (n := 20) dX12_chainOf_19 rfl rfl (by decide) ?_
    unfold sg_ch at hq
    first | (have e : ¬ σ (39 + 5 * h) = 1 := (fun z => z7_h (by rw [z])); rw [if_neg e] at hq; rw [q_sh1 h h6_h]; exact r_chO hr o (ch_ok1 o hh e) hq 37 0 _ _ (by omega) (by omega)) | (have e : σ (39 + 5 * h) = 1 := (nI_eq (by omega) (by decide)).mp z7_h; rw [if_pos e] at hq; exact r_chZ hr o hq 37 0 _ _ (by omega) (by omega))
  · skip
    refine w_iconst (n := 11) (nI 0) dX12_chainOf_10 (by decide) rfl ?_
    refine w_goto 17 dX12_chainOf_11 (by decide) ?_
    refine w_is2 (n := 18) dX12_chainOf_17 rfl rfl (by decide) ?_
    refine w_iconst (n := 19) (nI 0) dX12_chainOf_18 (by decide) rfl ?_
    refine w_is3 (n := 20) dX12_chainOf_19 rfl rfl (by decide) ?_
    unfold sg_ch at hq
    first | (have e : ¬ σ (39 + 5 * h) = 1 := (fun z => z7_h (by rw [z])); rw [if_neg e] at hq; rw [q_sh1 h h6_h]; exact r_chO hr o (ch_ok1 o hh e) hq 37 0 _ _ (by omega) (by omega)) | (have e : σ (39 + 5 * h) = 1 := (nI_eq (by omega) (by decide)).mp z7_h; rw [if_pos e] at hq; exact r_chZ hr o hq 37 0 _ _ (by omega) (by omega))

set_option maxRecDepth 20000 in
theorem r_ncL {d : Nat} {M : dk_Mem} {Q : Option Value → dk_Mem → Prop} {σ : Nat → Nat} (hr : rr σ M) (o : sg_ok σ) {x0_h : Int32} (hq : Q (some (.int (nI (sg_nc σ (σ 4))))) M) : ∀ (n k : Nat) (x4_h : Option Value), k ≤ σ 4 → σ 4 - k < n → dk_W (d + 3) mX12_chains 27 [some (.ref 104), some (.int x0_h), some (.int (nI (sg_nc σ k))), some (.int (nI k)), x4_h] [] M Q := by
  have o4_h := o.2.2.2.1
  intro n
  induction n with
  | zero => intro k x4_h _ h; omega
  | succ n ih =>
    intro k x4_h hk hn
    refine w_il3 (n := 28) dX12_chains_27 rfl ?_
    refine w_al0 (n := 29) dX12_chains_28 rfl ?_
    refine g_R (n := 32) f_X12_9_12 pl_104 rf_104_0 dX12_chains_29 rfl ?_
    refine w_iconst (n := 33) (nI 4) dX12_chains_32 (by decide) rfl ?_
    refine i_iald (n := 34) pl_105 (j := 4) rfl (by decide) (by decide) (hr 4 (by decide) (by decide) (by decide)) dX12_chains_33 rfl ?_
    refine w_ic_ge (n := 37) 74 dX12_chains_34 (by decide) rfl (fun z34_h => ?_) (fun z34_h => ?_)
    · skip
      refine w_il2 (n := 75) dX12_chains_74 rfl ?_
      refine w_retI dX12_chains_75 rfl ?_
      rw [q_le (by omega) (by omega)] at z34_h
      rw [show k = σ 4 by omega]
      exact hq
    · skip
      have hk4_h : k < σ 4 := by rw [q_le (by omega) (by omega)] at z34_h; omega
      have g6_h := sg_ch_64 o hk4_h
      refine w_al0 (n := 38) dX12_chains_37 rfl ?_
      refine w_il3 (n := 39) dX12_chains_38 rfl ?_
      refine w_cV1 (n := 42) pl_104 cl_12 s0_X12_chainOf k_X12_241 (Nat.le_of_ble_eq_true rfl) dX12_chains_39 rfl (r_chainOf hr o (h := k) (by rw [q_le (by omega) (by omega)] at z34_h; omega) ?_)
      refine w_is4 (n := 44) dX12_chains_42 rfl rfl (by decide) ?_
      refine w_il2 (n := 45) dX12_chains_44 rfl ?_
      refine w_il4 (n := 47) dX12_chains_45 rfl ?_
      refine w_if_eq (n := 50) 65 dX12_chains_47 (by decide) rfl (fun z47_h => ?_) (fun z47_h => ?_)
      · skip
        refine w_iconst (n := 66) (nI 0) dX12_chains_65 (by decide) rfl ?_
        refine w_iadd (n := 67) dX12_chains_66 rfl ?_
        refine w_is2 (n := 68) dX12_chains_67 rfl rfl (by decide) ?_
        refine w_inc3 (n := 71) (nI 1) dX12_chains_68 (by decide) rfl rfl (by decide) ?_
        refine w_goto 27 dX12_chains_71 (by decide) ?_
        rw [nI_add, nI_add]
        have l2_h := Nat.mod_lt (sg_ch σ k) (show 0 < 2 ^ k from Nat.pow_pos (by decide))
        have l3_h := pow6 (show k ≤ 6 by omega)
        have g := ih (k + 1) (some (.int (nI (sg_ch σ k)))) (by omega) (by omega)
        rw [sg_nc] at g
        rw [q_nz (by omega)] at z47_h
        try rw [q_nz (by omega)] at z58_h
        split at g
        · first | exact g | (exfalso; omega)
        · first | exact g | (exfalso; omega)
      · skip
        refine w_il4 (n := 52) dX12_chains_50 rfl ?_
        refine w_iconst (n := 53) (nI 1) dX12_chains_52 (by decide) rfl ?_
        refine w_il3 (n := 54) dX12_chains_53 rfl ?_
        refine w_ishl (n := 55) dX12_chains_54 rfl ?_
        refine w_iconst (n := 56) (nI 1) dX12_chains_55 (by decide) rfl ?_
        refine w_isub (n := 57) dX12_chains_56 rfl ?_
        refine w_iand (n := 58) dX12_chains_57 rfl ?_
        rw [q_mask _ g6_h.1 k (by omega)]
        refine w_if_ne (n := 61) 65 dX12_chains_58 (by decide) rfl (fun z58_h => ?_) (fun z58_h => ?_)
        · skip
          refine w_iconst (n := 66) (nI 0) dX12_chains_65 (by decide) rfl ?_
          refine w_iadd (n := 67) dX12_chains_66 rfl ?_
          refine w_is2 (n := 68) dX12_chains_67 rfl rfl (by decide) ?_
          refine w_inc3 (n := 71) (nI 1) dX12_chains_68 (by decide) rfl rfl (by decide) ?_
          refine w_goto 27 dX12_chains_71 (by decide) ?_
          rw [nI_add, nI_add]
          have l2_h := Nat.mod_lt (sg_ch σ k) (show 0 < 2 ^ k from Nat.pow_pos (by decide))
          have l3_h := pow6 (show k ≤ 6 by omega)
          have g := ih (k + 1) (some (.int (nI (sg_ch σ k)))) (by omega) (by omega)
          rw [sg_nc] at g
          rw [q_nz (by omega)] at z47_h
          try rw [q_nz (by omega)] at z58_h
          split at g
          · first | exact g | (exfalso; omega)
          · first | exact g | (exfalso; omega)
        · skip
          refine w_iconst (n := 62) (nI 1) dX12_chains_61 (by decide) rfl ?_
          refine w_goto 66 dX12_chains_62 (by decide) ?_
          refine w_iadd (n := 67) dX12_chains_66 rfl ?_
          refine w_is2 (n := 68) dX12_chains_67 rfl rfl (by decide) ?_
          refine w_inc3 (n := 71) (nI 1) dX12_chains_68 (by decide) rfl rfl (by decide) ?_
          refine w_goto 27 dX12_chains_71 (by decide) ?_
          rw [nI_add, nI_add]
          have l2_h := Nat.mod_lt (sg_ch σ k) (show 0 < 2 ^ k from Nat.pow_pos (by decide))
          have l3_h := pow6 (show k ≤ 6 by omega)
          have g := ih (k + 1) (some (.int (nI (sg_ch σ k)))) (by omega) (by omega)
          rw [sg_nc] at g
          rw [q_nz (by omega)] at z47_h
          try rw [q_nz (by omega)] at z58_h
          split at g
          · first | exact g | (exfalso; omega)
          · first | exact g | (exfalso; omega)

set_option maxRecDepth 20000 in
theorem R_chains {d : Nat} {M : dk_Mem} {Q : Option Value → dk_Mem → Prop} {K : sg_K} (hK : rK K M) {x : Int32} (hq : Q (some (.int (kf_chains K x))) M) : dk_Call (d + 4) mX12_chains [.ref 104, .int x] M Q := by
  have hK0 := hK
  obtain ⟨⟨o, p1_h, p2_h, p3_h⟩, hr, ⟨f, hb, hT⟩, hsc, hz⟩ := hK0
  have o4_h := o.2.2.2.1
  have o16_h := o.2.1
  refine dk_enter [some (.ref 104), some (.int x), none, none, none] (by decide) (fun _ => rfl) (fun _ => Nat.le_of_ble_eq_true rfl) ?_
  refine w_il1 (n := 1) dX12_chains_0 rfl ?_
  refine w_iconst (n := 2) (-1) dX12_chains_1 (by decide) rfl ?_
  refine w_ic_eq (n := 5) 23 dX12_chains_2 (by decide) rfl (fun z2_h => ?_) (fun z2_h => ?_)
  · skip
    refine w_iconst (n := 24) (nI 0) dX12_chains_23 (by decide) rfl ?_
    refine w_is2 (n := 25) dX12_chains_24 rfl rfl (by decide) ?_
    refine w_iconst (n := 26) (nI 0) dX12_chains_25 (by decide) rfl ?_
    refine w_is3 (n := 27) dX12_chains_26 rfl rfl (by decide) ?_
    rw [show kf_chains K x = nI (sg_nc K.1 (K.1 4)) from if_pos z2_h] at hq
    exact r_ncL hr o hq (K.1 4 + 1) 0 _ (by omega) (by omega)
  · skip
    refine w_al0 (n := 6) dX12_chains_5 rfl ?_
    refine w_il1 (n := 7) dX12_chains_6 rfl ?_
    refine w_cV1 (n := 10) pl_104 cl_12 s0_X12_isPiece k_X12_109 (Nat.le_of_ble_eq_true rfl) dX12_chains_7 rfl (r_isPiece hr o (fun h hh e => ?_) (fun nh => ?_))
    · skip
      subst e
      have h6_h : h < 6 := by omega
      refine w_if_eq (n := 13) 21 dX12_chains_10 (by decide) rfl (fun h => absurd h (by decide)) (fun _ => ?_)
      refine w_al0 (n := 14) dX12_chains_13 rfl ?_
      refine w_il1 (n := 15) dX12_chains_14 rfl ?_
      refine w_cV1 (n := 18) pl_104 cl_12 s0_X12_chainOf k_X12_241 (Nat.le_of_ble_eq_true rfl) dX12_chains_15 rfl (r_chainOf hr o hh ?_)
      refine w_goto 22 dX12_chains_18 (by decide) ?_
      refine w_retI dX12_chains_22 rfl ?_
      unfold kf_chains at hq
      rw [if_neg z2_h] at hq
      first | (rw [sg_pc_some o4_h hh] at hq; exact hq) | (rw [sg_pc_none o4_h nh] at hq; exact hq)
    · skip
      refine w_if_eq (n := 13) 21 dX12_chains_10 (by decide) rfl (fun _ => ?_) (fun h => absurd (by decide) h)
      refine w_iconst (n := 22) (-1) dX12_chains_21 (by decide) rfl ?_
      refine w_retI dX12_chains_22 rfl ?_
      unfold kf_chains at hq
      rw [if_neg z2_h] at hq
      first | (rw [sg_pc_some o4_h hh] at hq; exact hq) | (rw [sg_pc_none o4_h nh] at hq; exact hq)
