/-! ===== the component's street (place 14), its moments ===== -/
def dk_mo (μ : Nat) : Prop := μ = 22 ∨ μ = 45 ∨ μ = 69 ∨ μ = 71 ∨ μ = 73 ∨ μ = 75 ∨ μ = 77 ∨ μ = 79
theorem dk_mo.is {μ : Nat} (h : dk_mo μ) : dk_is μ 4 := by rcases h with rfl | rfl | rfl | rfl | rfl | rfl | rfl | rfl; all_goals first | exact pl_22 | exact pl_45 | exact pl_69 | exact pl_71 | exact pl_73 | exact pl_75 | exact pl_77 | exact pl_79
theorem dk_mo.rf {μ : Nat} (h : dk_mo μ) : dk_rf μ 2 = some (μ + 1) := by rcases h with rfl | rfl | rfl | rfl | rfl | rfl | rfl | rfl; all_goals first | exact rf_22_2 | exact rf_45_2 | exact rf_69_2 | exact rf_71_2 | exact rf_73_2 | exact rf_75_2 | exact rf_77_2 | exact rf_79_2
theorem dk_mo.ar {μ : Nat} (h : dk_mo μ) : dk_ar (μ + 1) 20 6 := by rcases h with rfl | rfl | rfl | rfl | rfl | rfl | rfl | rfl; all_goals first | exact pl_23 | exact pl_46 | exact pl_70 | exact pl_72 | exact pl_74 | exact pl_76 | exact pl_78 | exact pl_80
def cs (σ : Nat → Nat) (M : dk_Mem) : Prop := M.1 14 1 = nI (σ 4) ∧ M.1 14 10 = nI (σ 0) ∧ (∀ i, i < σ 4 → M.1 15 i = nI (σ (35 + 5 * i)) ∧ M.1 16 i = nI (σ (37 + 5 * i)) ∧ M.1 17 i = nI (σ (38 + 5 * i)) ∧ M.1 18 i = nI (sg_bears σ i)) ∧ (∀ y, y < 16 → M.1 19 y = nI (σ (7 + y))) ∧ ∀ j, j < 6 → M.1 20 j = nI (σ (23 + 2 * j)) ∧ M.1 21 j = nI (σ (24 + 2 * j))
def cm (μ : Nat) (σ : Nat → Nat) (M : dk_Mem) : Prop := M.1 μ 0 = nI (σ 1) ∧ M.1 μ 1 = nI (sg_set σ (σ 4)) ∧ ∀ i, i < σ 4 → M.1 (μ + 1) i = nI (σ (36 + 5 * i))
theorem cs.count {σ : Nat → Nat} {M : dk_Mem} (h : cs σ M) : M.1 14 1 = nI (σ 4) := h.1
theorem cs.end {σ : Nat → Nat} {M : dk_Mem} (h : cs σ M) : M.1 14 10 = nI (σ 0) := h.2.1
theorem cs.kind {σ : Nat → Nat} {M : dk_Mem} (h : cs σ M) {i : Nat} (hi : i < σ 4) : M.1 15 i = nI (σ (35 + 5 * i)) := (h.2.2.1 i hi).1
theorem cs.gap {σ : Nat → Nat} {M : dk_Mem} (h : cs σ M) {i : Nat} (hi : i < σ 4) : M.1 16 i = nI (σ (37 + 5 * i)) := (h.2.2.1 i hi).2.1
theorem cs.room {σ : Nat → Nat} {M : dk_Mem} (h : cs σ M) {i : Nat} (hi : i < σ 4) : M.1 17 i = nI (σ (38 + 5 * i)) := (h.2.2.1 i hi).2.2.1
theorem cs.bears {σ : Nat → Nat} {M : dk_Mem} (h : cs σ M) {i : Nat} (hi : i < σ 4) : M.1 18 i = nI (sg_bears σ i) := (h.2.2.1 i hi).2.2.2
/-- two streets that differ in what years alter alone -/
def sg_eqv (σ τ : Nat → Nat) : Prop := τ 4 = σ 4 ∧ τ 0 = σ 0 ∧ (∀ i, i < σ 4 → τ (35 + 5 * i) = σ (35 + 5 * i) ∧ τ (37 + 5 * i) = σ (37 + 5 * i) ∧ τ (38 + 5 * i) = σ (38 + 5 * i)) ∧ ∀ j, 7 ≤ j → j < 35 → τ j = σ j
theorem sg_eqv.bears {σ τ : Nat → Nat} (h : sg_eqv σ τ) {i : Nat} (hi : i < σ 4) : sg_bears τ i = sg_bears σ i := by
  unfold sg_bears
  rw [(h.2.2.1 i hi).1, (h.2.2.1 i hi).2.1]
theorem cs.eqv {σ τ : Nat → Nat} {M : dk_Mem} (h : cs σ M) (e : sg_eqv σ τ) : cs τ M := by
  obtain ⟨h1, h2, h3, h4, h5⟩ := h
  refine ⟨by rw [e.1]; exact h1, by rw [e.2.1]; exact h2, fun i hi => ?_, fun y hy => by rw [e.2.2.2 _ (by omega) (by omega)]; exact h4 y hy, fun j hj => by rw [e.2.2.2 _ (by omega) (by omega), e.2.2.2 _ (by omega) (by omega)]; exact h5 j hj⟩
  rw [e.1] at hi
  rw [(e.2.2.1 i hi).1, (e.2.2.1 i hi).2.1, (e.2.2.1 i hi).2.2, e.bears hi]
  exact h3 i hi
theorem cs.fr {σ : Nat → Nat} {M M' : dk_Mem} {S : Nat → Nat → Prop} (h : cs σ M) (hf : dk_fr S M M') (hS : ∀ q k, 14 ≤ q → q < 22 → ¬ S q k) : cs σ M' := by
  obtain ⟨h1, h2, h3, h4, h5⟩ := h
  have e : ∀ q k, 14 ≤ q → q < 22 → M'.1 q k = M.1 q k := fun q k g1 g2 => hf.2 q k (hS q k g1 g2)
  refine ⟨by rw [e _ _ (by omega) (by omega)]; exact h1, by rw [e _ _ (by omega) (by omega)]; exact h2, fun i hi => ?_, fun y hy => by rw [e _ _ (by omega) (by omega)]; exact h4 y hy, fun j hj => ?_⟩
  · rw [e _ _ (by omega) (by omega), e _ _ (by omega) (by omega), e _ _ (by omega) (by omega), e _ _ (by omega) (by omega)]; exact h3 i hi
  · rw [e _ _ (by omega) (by omega), e _ _ (by omega) (by omega)]; exact h5 j hj
theorem cm.fr {μ : Nat} {σ : Nat → Nat} {M M' : dk_Mem} {S : Nat → Nat → Prop} (h : cm μ σ M) (hf : dk_fr S M M') (hS : ∀ q k, (q = μ ∨ q = μ + 1) → ¬ S q k) : cm μ σ M' := by
  refine ⟨by rw [hf.2 μ 0 (hS _ _ (Or.inl rfl))]; exact h.1, by rw [hf.2 μ 1 (hS _ _ (Or.inl rfl))]; exact h.2.1, fun i hi => by rw [hf.2 (μ + 1) i (hS _ _ (Or.inr rfl))]; exact h.2.2 i hi⟩
theorem sg_set_bit {σ : Nat → Nat} (o : sg_ok σ) {k : Nat} : ∀ n, k < n → n ≤ 6 → ((sg_set σ n).testBit k = true ↔ σ (39 + 5 * k) = 1)
  | 0, h, _ => absurd h (by omega)
  | n + 1, h, h6 => by
    have lt := sg_set_lt o n (by omega)
    rw [sg_set, Nat.add_comm, Nat.mul_comm, Nat.testBit_two_pow_mul_add _ lt]
    split
    · exact sg_set_bit o n (by omega) (by omega)
    · have hk : k = n := by omega
      subst hk
      have b := o.fal (h := k) (by omega)
      rw [Nat.sub_self]
      rcases (show σ (39 + 5 * k) = 0 ∨ σ (39 + 5 * k) = 1 by omega) with e | e <;> rw [e] <;> decide
def sg_sb (s k v : Nat) : Nat := s - s / 2 ^ k % 2 * 2 ^ k + v * 2 ^ k
theorem q_sb : ∀ s, s < 64 → ∀ k, k < 6 → ∀ v, v < 2 → (nI s &&& ((nI 1 <<< (nI k &&& 31)) ^^^ (-1))) ||| (nI v <<< (nI k &&& 31)) = nI (sg_sb s k v) := by decide +kernel
theorem q_bitv : ∀ s, s < 64 → ∀ k, k < 6 → (nI s >>> (nI k &&& 31)) &&& nI 1 = nI (s / 2 ^ k % 2) := by decide +kernel
theorem sg_set_cong {σ τ : Nat → Nat} : ∀ n, (∀ i, i < n → τ (39 + 5 * i) = σ (39 + 5 * i)) → sg_set τ n = sg_set σ n
  | 0, _ => rfl
  | n + 1, h => by rw [sg_set, sg_set, sg_set_cong n (fun i hi => h i (by omega)), h n (by omega)]
theorem sg_set_up {σ : Nat → Nat} (o : sg_ok σ) {k v : Nat} (hv : v ≤ 1) : ∀ n, k < n → n ≤ 6 → sg_set (sg_up σ (39 + 5 * k) v) n = sg_sb (sg_set σ n) k v
  | 0, h, _ => absurd h (by omega)
  | n + 1, h, h6 => by
    rw [sg_set, sg_set]
    have lt := sg_set_lt o n (by omega)
    have b := o.fal (h := n) (by omega)
    by_cases e : k = n
    · subst e
      rw [sg_up_s, sg_set_cong k (fun i hi => sg_up_n (by omega))]
      unfold sg_sb
      rw [Nat.add_mul_div_right _ _ (Nat.two_pow_pos k), Nat.div_eq_of_lt lt, Nat.zero_add, Nat.mod_eq_of_lt (by omega)]
      omega
    · rw [sg_up_n (by omega), sg_set_up o hv n (by omega) (by omega)]
      unfold sg_sb
      obtain ⟨j, hj⟩ : ∃ j, n = k + 1 + j := ⟨n - k - 1, by omega⟩
      have e1 : (sg_set σ n + σ (39 + 5 * n) * 2 ^ n) / 2 ^ k % 2 = sg_set σ n / 2 ^ k % 2 := by
        have e3 : σ (39 + 5 * n) * 2 ^ n = 2 ^ k * (2 * (σ (39 + 5 * n) * 2 ^ j)) := by
          have e4 : (2 : Nat) ^ n = 2 ^ k * (2 * 2 ^ j) := by rw [hj, Nat.pow_add, Nat.pow_add]; simp [Nat.mul_assoc]
          rw [e4]
          generalize σ (39 + 5 * n) = y
          simp only [Nat.mul_comm, Nat.mul_left_comm, Nat.mul_assoc]
        rw [e3, Nat.add_mul_div_left _ _ (Nat.two_pow_pos k)]
        omega
      rw [e1]
      have e2 : sg_set σ n / 2 ^ k % 2 * 2 ^ k ≤ sg_set σ n := Nat.le_trans (Nat.mul_le_mul_right _ (Nat.mod_le _ _)) (Nat.div_mul_le_self _ _)
      omega

set_option maxRecDepth 20000 in
theorem c4_isFallen {d : Nat} {M : dk_Mem} {Q : Option Value → dk_Mem → Prop} {μ : Nat} {σ : Nat → Nat} (hm : dk_mo μ) (hc : cm μ σ M) (o : sg_ok σ) {h : Nat} (hh : h < σ 4) (h1 : σ (39 + 5 * h) = 1 → Q (some (.int 1)) M) (h0 : σ (39 + 5 * h) = 0 → Q (some (.int 0)) M) : dk_Call d mX4_isFallen [.ref μ, .int (nI h)] M Q := by
  have o4 := o.2.2.2.1
  have b := o.fal (h := h) (by omega)
  have sb := sg_set_bit o (σ 4) hh o4
  have q := q_bit (sg_set σ (σ 4)) (Nat.lt_of_lt_of_le (sg_set_lt o _ o4) (pow6 o4)) h (by omega)
  refine dk_enter [some (.ref μ), some (.int (nI h))] (by decide) (fun _ => rfl) (fun _ => Nat.le_of_ble_eq_true rfl) ?_
  refine w_al0 (n := 1) dX4_isFallen_0 rfl ?_
  refine g_I (n := 4) f_X4_15_4 hm.is dX4_isFallen_1 rfl ?_
  refine w_il1 (n := 5) dX4_isFallen_4 rfl ?_
  refine w_ishr (n := 6) dX4_isFallen_5 rfl ?_
  refine w_iconst (n := 7) (nI 1) dX4_isFallen_6 (by decide) rfl ?_
  refine w_iand (n := 8) dX4_isFallen_7 rfl ?_
  rw [hc.2.1, q]
  refine w_if_eq (n := 11) 15 dX4_isFallen_8 (by decide) rfl (fun z8 => ?_) (fun z8 => ?_)
  · skip
    refine w_iconst (n := 16) (nI 0) dX4_isFallen_15 (by decide) rfl ?_
    refine w_retZ0 dX4_isFallen_16 rfl ?_
    exact h0 (by
      by_cases e : (sg_set σ (σ 4)).testBit h = true
      · rw [if_pos e] at z8; exact absurd z8 (by decide)
      · have := mt sb.mpr e; omega)
  · skip
    refine w_iconst (n := 12) (nI 1) dX4_isFallen_11 (by decide) rfl ?_
    refine w_goto 16 dX4_isFallen_12 (by decide) ?_
    refine w_retZ1 dX4_isFallen_16 rfl ?_
    exact h1 (sb.mp (by
      by_cases e : (sg_set σ (σ 4)).testBit h = true
      · exact e
      · exact absurd (by rw [if_neg e]; rfl) z8))

set_option maxRecDepth 20000 in
theorem c4_setFallen {d : Nat} {M : dk_Mem} {Q : Option Value → dk_Mem → Prop} {μ s k v : Nat} (hm : dk_mo μ) (hx : M.1 μ 1 = nI s) (hs : s < 64) (hk : k < 6) (hv : v < 2) (hq : Q (some (.int (nI (s / 2 ^ k % 2)))) (dk_put M μ 1 (nI (sg_sb s k v)))) : dk_Call d mX4_setFallen [.ref μ, .int (nI k), .int (nI v)] M Q := by
  refine dk_enter [some (.ref μ), some (.int (nI k)), some (.int (nI v)), none] (by decide) (fun _ => rfl) (fun _ => Nat.le_of_ble_eq_true rfl) ?_
  refine w_al0 (n := 1) dX4_setFallen_0 rfl ?_
  refine g_I (n := 4) f_X4_15_4 hm.is dX4_setFallen_1 rfl ?_
  refine w_il1 (n := 5) dX4_setFallen_4 rfl ?_
  refine w_ishr (n := 6) dX4_setFallen_5 rfl ?_
  refine w_iconst (n := 7) (nI 1) dX4_setFallen_6 (by decide) rfl ?_
  refine w_iand (n := 8) dX4_setFallen_7 rfl ?_
  rw [hx, q_bitv s hs k hk]
  refine w_is3 (n := 9) dX4_setFallen_8 rfl rfl (by decide) ?_
  refine w_al0 (n := 10) dX4_setFallen_9 rfl ?_
  refine w_al0 (n := 11) dX4_setFallen_10 rfl ?_
  refine g_I (n := 14) f_X4_15_4 hm.is dX4_setFallen_11 rfl ?_
  refine w_iconst (n := 15) (nI 1) dX4_setFallen_14 (by decide) rfl ?_
  refine w_il1 (n := 16) dX4_setFallen_15 rfl ?_
  refine w_ishl (n := 17) dX4_setFallen_16 rfl ?_
  refine w_iconst (n := 18) (-1) dX4_setFallen_17 (by decide) rfl ?_
  refine w_ixor (n := 19) dX4_setFallen_18 rfl ?_
  refine w_iand (n := 20) dX4_setFallen_19 rfl ?_
  refine w_il2 (n := 21) dX4_setFallen_20 rfl ?_
  refine w_il1 (n := 22) dX4_setFallen_21 rfl ?_
  refine w_ishl (n := 23) dX4_setFallen_22 rfl ?_
  refine w_ior (n := 24) dX4_setFallen_23 rfl ?_
  rw [hx, q_sb s hs k hk v hv]
  refine p_I (n := 27) f_X4_15_4 hm.is dX4_setFallen_24 rfl ?_
  refine w_il3 (n := 28) dX4_setFallen_27 rfl ?_
  refine w_retI dX4_setFallen_28 rfl ?_
  exact hq

set_option maxRecDepth 20000 in
theorem c4_leanMore {d : Nat} {M : dk_Mem} {Q : Option Value → dk_Mem → Prop} {μ k a b : Nat} (hm : dk_mo μ) (hk : k < 6) (hx : M.1 (μ + 1) k = nI a) (hab : a + b < 1000) (hq : Q none (dk_put M (μ + 1) k (nI (min 99 (a + b))))) : dk_Call (d + 1) mX4_leanMore [.ref μ, .int (nI k), .int (nI b)] M Q := by
  refine dk_enter [some (.ref μ), some (.int (nI k)), some (.int (nI b))] (by decide) (fun _ => rfl) (fun _ => Nat.le_of_ble_eq_true rfl) ?_
  refine w_al0 (n := 1) dX4_leanMore_0 rfl ?_
  refine g_R (n := 4) f_X4_18_4 hm.is hm.rf dX4_leanMore_1 rfl ?_
  refine w_il1 (n := 5) dX4_leanMore_4 rfl ?_
  refine w_bipush (n := 7) (nI 99) dX4_leanMore_5 (by decide) rfl ?_
  refine w_al0 (n := 8) dX4_leanMore_7 rfl ?_
  refine g_R (n := 11) f_X4_18_4 hm.is hm.rf dX4_leanMore_8 rfl ?_
  refine w_il1 (n := 12) dX4_leanMore_11 rfl ?_
  refine i_iald (n := 13) hm.ar (j := k) rfl hk (by decide) hx dX4_leanMore_12 rfl ?_
  refine w_il2 (n := 14) dX4_leanMore_13 rfl ?_
  refine w_iadd (n := 15) dX4_leanMore_14 rfl ?_
  refine w_mmin (n := 18) dk_m3_min_X4_28 (Nat.le_of_ble_eq_true rfl) dX4_leanMore_15 rfl ?_
  rw [nI_add, show (if nI (a + b) < nI 99 then nI (a + b) else nI 99) = nI (min 99 (a + b)) from by
    split
    · rename_i z; exact q_min2 _ (by omega) (Int32.le_of_lt z)
    · rename_i z; rw [nI_ltI (by omega) (by decide)] at z; rw [Nat.min_eq_left (by omega)]]
  refine i_iast (n := 19) hm.ar (j := k) rfl hk (by decide) dX4_leanMore_18 rfl ?_
  refine w_ret dX4_leanMore_19 rfl ?_
  exact hq

set_option maxRecDepth 20000 in
theorem c4_take {d : Nat} {M : dk_Mem} {Q : Option Value → dk_Mem → Prop} {μ ν : Nat} {σ : Nat → Nat} (hm : dk_mo μ) (hv : dk_mo ν) (hne : μ ≠ ν) (hc : cm ν σ M) (o4 : σ 4 ≤ 6) (hq : ∀ M2, cm μ σ M2 → dk_fr (fun q _ => q = μ ∨ q = μ + 1) M M2 → Q none M2) : dk_Call (d + 1) mX4_take [.ref μ, .ref ν] M Q := by
  refine dk_enter [some (.ref μ), some (.ref ν)] (by decide) (fun _ => rfl) (fun _ => Nat.le_of_ble_eq_true rfl) ?_
  refine w_al0 (n := 1) dX4_take_0 rfl ?_
  refine w_al1 (n := 2) dX4_take_1 rfl ?_
  refine g_I (n := 5) f_X4_9_4 hv.is dX4_take_2 rfl ?_
  refine p_I (n := 8) f_X4_9_4 hm.is dX4_take_5 rfl ?_
  refine w_al0 (n := 9) dX4_take_8 rfl ?_
  refine w_al1 (n := 10) dX4_take_9 rfl ?_
  refine g_I (n := 13) f_X4_15_4 hv.is dX4_take_10 rfl ?_
  refine p_I (n := 16) f_X4_15_4 hm.is dX4_take_13 rfl ?_
  refine w_al1 (n := 17) dX4_take_16 rfl ?_
  refine g_R (n := 20) f_X4_18_4 hv.is hv.rf dX4_take_17 rfl ?_
  refine w_iconst (n := 21) (nI 0) dX4_take_20 (by decide) rfl ?_
  refine w_al0 (n := 22) dX4_take_21 rfl ?_
  refine g_R (n := 25) f_X4_18_4 hm.is hm.rf dX4_take_22 rfl ?_
  refine w_iconst (n := 26) (nI 0) dX4_take_25 (by decide) rfl ?_
  refine w_bipush (n := 28) (nI 6) dX4_take_26 (by decide) rfl ?_
  refine w_cpy (n := 31) hv.ar hm.ar in_831 (by decide) (by decide) (by decide) (by decide) (by decide) (Nat.le_of_ble_eq_true rfl) dX4_take_28 rfl ?_
  refine w_ret dX4_take_31 rfl ?_
  have n1 : ν ≠ μ + 1 := by unfold dk_mo at hm hv; omega
  have n2 : ν + 1 ≠ μ := by unfold dk_mo at hm hv; omega
  refine hq _ ⟨?_, ?_, fun i hi => ?_⟩ ⟨rfl, fun q k hn => ?_⟩
  · rw [dk_row_k (by omega), dk_put_k (by omega), dk_put_s]; exact hc.1
  · rw [dk_row_k (by omega), dk_put_s, dk_put_k (by omega)]; exact hc.2.1
  · rw [dk_row_at, show va_cpy _ _ _ _ _ i = _ from pk_cpy_in (show (nI 0).toNatClampNeg ≤ i from Nat.zero_le i) (by show i < 0 + 6; omega)]
    rw [dk_put_k (by omega), dk_put_k (by omega)]
    rw [show (nI 0).toNatClampNeg + (i - (nI 0).toNatClampNeg) = i from by show 0 + (i - 0) = i; omega]
    exact hc.2.2 i hi
  · rw [dk_row_k (fun z => hn (Or.inr z)), dk_put_k (fun z => hn (Or.inl z.1)), dk_put_k (fun z => hn (Or.inl z.1))]

set_option maxRecDepth 20000 in
theorem c10_isPiece {d : Nat} {M : dk_Mem} {Q : Option Value → dk_Mem → Prop} {σ : Nat → Nat} (hs : cs σ M) (o : sg_ok σ) {k : Int32} (h1 : ∀ h, h < σ 4 → k = nI h → Q (some (.int 1)) M) (h0 : (¬ ∃ h, h < σ 4 ∧ k = nI h) → Q (some (.int 0)) M) : dk_Call d mX10_isPiece [.ref 14, .int k] M Q := by
  have o4 := o.2.2.2.1
  refine dk_enter [some (.ref 14), some (.int k)] (by decide) (fun _ => rfl) (fun _ => Nat.le_of_ble_eq_true rfl) ?_
  refine w_il1 (n := 1) dX10_isPiece_0 rfl ?_
  refine w_if_lt (n := 4) 16 dX10_isPiece_1 (by decide) rfl (fun z1 => ?_) (fun z1 => ?_)
  · skip
    refine w_iconst (n := 17) (nI 0) dX10_isPiece_16 (by decide) rfl ?_
    refine w_retZ0 dX10_isPiece_17 rfl ?_
    refine h0 (fun ⟨h, hh, e⟩ => ?_)
    subst e
    first | exact absurd z1 (nI_pos (by omega)) | (rw [q_le (by omega) (by omega)] at z9; omega)
  · skip
    refine w_il1 (n := 5) dX10_isPiece_4 rfl ?_
    refine w_al0 (n := 6) dX10_isPiece_5 rfl ?_
    refine g_I (n := 9) f_X10_9_10 pl_14 dX10_isPiece_6 rfl ?_
    rw [hs.count]
    refine w_ic_ge (n := 12) 16 dX10_isPiece_9 (by decide) rfl (fun z9 => ?_) (fun z9 => ?_)
    · skip
      refine w_iconst (n := 17) (nI 0) dX10_isPiece_16 (by decide) rfl ?_
      refine w_retZ0 dX10_isPiece_17 rfl ?_
      refine h0 (fun ⟨h, hh, e⟩ => ?_)
      subst e
      first | exact absurd z1 (nI_pos (by omega)) | (rw [q_le (by omega) (by omega)] at z9; omega)
    · skip
      refine w_iconst (n := 13) (nI 1) dX10_isPiece_12 (by decide) rfl ?_
      refine w_goto 17 dX10_isPiece_13 (by decide) ?_
      refine w_retZ1 dX10_isPiece_17 rfl ?_
      obtain ⟨j, hj, e⟩ := nI_of z1
      subst e
      rw [q_le (by omega) hj] at z9
      exact h1 j (by omega) rfl

set_option maxRecDepth 20000 in
theorem c10_isOver {d : Nat} {M : dk_Mem} {Q : Option Value → dk_Mem → Prop} {σ : Nat → Nat} (hs : cs σ M) (o : sg_ok σ) {μ : Nat} (hm : dk_mo μ) (hc : cm μ σ M) (h1 : σ 0 ≤ σ 1 → Q (some (.int 1)) M) (h0 : σ 1 < σ 0 → Q (some (.int 0)) M) : dk_Call d mX10_isOver [.ref 14, .ref μ] M Q := by
  have b0 := o.2.1
  have b1 := o.2.2.1
  refine dk_enter [some (.ref 14), some (.ref μ)] (by decide) (fun _ => rfl) (fun _ => Nat.le_of_ble_eq_true rfl) ?_
  refine w_al1 (n := 1) dX10_isOver_0 rfl ?_
  refine g_I (n := 4) f_X10_108_4 hm.is dX10_isOver_1 rfl ?_
  refine w_al0 (n := 5) dX10_isOver_4 rfl ?_
  refine g_I (n := 8) f_X10_44_10 pl_14 dX10_isOver_5 rfl ?_
  rw [hs.end, hc.1]
  refine w_ic_lt (n := 11) 15 dX10_isOver_8 (by decide) rfl (fun z8 => ?_) (fun z8 => ?_)
  · skip
    refine w_iconst (n := 16) (nI 0) dX10_isOver_15 (by decide) rfl ?_
    refine w_retZ0 dX10_isOver_16 rfl ?_
    exact h0 (by rw [nI_ltI (by omega) (by omega)] at z8; exact z8)
  · skip
    refine w_iconst (n := 12) (nI 1) dX10_isOver_11 (by decide) rfl ?_
    refine w_goto 16 dX10_isOver_12 (by decide) ?_
    refine w_retZ1 dX10_isOver_16 rfl ?_
    exact h1 (by rw [Int32.not_lt, nI_leI (by omega) (by omega)] at z8; exact z8)

set_option maxRecDepth 20000 in
theorem c10_sayingOf {d : Nat} {M : dk_Mem} {Q : Option Value → dk_Mem → Prop} {σ : Nat → Nat} (hs : cs σ M) {y : Nat} (hy : y ≤ 16) (hq : Q (some (.int (nI (sg_sy σ y)))) M) : dk_Call d mX10_sayingOf [.ref 14, .int (nI y)] M Q := by
  refine dk_enter [some (.ref 14), some (.int (nI y))] (by decide) (fun _ => rfl) (fun _ => Nat.le_of_ble_eq_true rfl) ?_
  refine w_il1 (n := 1) dX10_sayingOf_0 rfl ?_
  refine w_if_lt (n := 4) 19 dX10_sayingOf_1 (by decide) rfl (fun z1 => ?_) (fun z1 => ?_)
  · skip
    refine w_iconst (n := 20) (nI 0) dX10_sayingOf_19 (by decide) rfl ?_
    refine w_retI dX10_sayingOf_20 rfl ?_
    unfold sg_sy at hq
    first | exact absurd z1 (nI_pos (by omega)) | (rw [if_pos (by rw [q_le (by decide) (by omega)] at z7; omega)] at hq; exact hq) | (rw [if_neg (by rw [q_le (by decide) (by omega)] at z7; omega)] at hq; exact hq)
  · skip
    refine w_il1 (n := 5) dX10_sayingOf_4 rfl ?_
    refine w_bipush (n := 7) (nI 16) dX10_sayingOf_5 (by decide) rfl ?_
    refine w_ic_ge (n := 10) 19 dX10_sayingOf_7 (by decide) rfl (fun z7 => ?_) (fun z7 => ?_)
    · skip
      refine w_iconst (n := 20) (nI 0) dX10_sayingOf_19 (by decide) rfl ?_
      refine w_retI dX10_sayingOf_20 rfl ?_
      unfold sg_sy at hq
      first | exact absurd z1 (nI_pos (by omega)) | (rw [if_pos (by rw [q_le (by decide) (by omega)] at z7; omega)] at hq; exact hq) | (rw [if_neg (by rw [q_le (by decide) (by omega)] at z7; omega)] at hq; exact hq)
    · skip
      refine w_al0 (n := 11) dX10_sayingOf_10 rfl ?_
      refine g_R (n := 14) f_X10_28_10 pl_14 rf_14_6 dX10_sayingOf_11 rfl ?_
      refine w_il1 (n := 15) dX10_sayingOf_14 rfl ?_
      refine i_iald (n := 16) pl_19 (j := y) rfl (by rw [q_le (by decide) (by omega)] at z7; omega) (by decide) (hs.2.2.2.1 y (by rw [q_le (by decide) (by omega)] at z7; omega)) dX10_sayingOf_15 rfl ?_
      refine w_goto 20 dX10_sayingOf_16 (by decide) ?_
      refine w_retI dX10_sayingOf_20 rfl ?_
      unfold sg_sy at hq
      first | exact absurd z1 (nI_pos (by omega)) | (rw [if_pos (by rw [q_le (by decide) (by omega)] at z7; omega)] at hq; exact hq) | (rw [if_neg (by rw [q_le (by decide) (by omega)] at z7; omega)] at hq; exact hq)

theorem q_shr2 : ∀ s, s < 16 → nI s >>> (nI 2 &&& 31) = nI (s / 4) := by decide +kernel
theorem q_and3 : ∀ s, s < 16 → nI s &&& nI 3 = nI (s % 4) := by decide +kernel
set_option maxRecDepth 20000 in
theorem c10_wordOf {d : Nat} {M : dk_Mem} {Q : Option Value → dk_Mem → Prop} {σ : Nat → Nat} (hs : cs σ M) (o : sg_ok σ) {y : Nat} (hy : y ≤ 16) (hq : Q (some (.int (nI (sg_sy σ y / 4)))) M) : dk_Call (d + 1) mX10_wordOf [.ref 14, .int (nI y)] M Q := by
  refine dk_enter [some (.ref 14), some (.int (nI y))] (by decide) (fun _ => rfl) (fun _ => Nat.le_of_ble_eq_true rfl) ?_
  refine w_al0 (n := 1) dX10_wordOf_0 rfl ?_
  refine w_il1 (n := 2) dX10_wordOf_1 rfl ?_
  refine w_cV1 (n := 5) pl_14 cl_10 s0_X10_sayingOf k_X10_111 (Nat.le_of_ble_eq_true rfl) dX10_wordOf_2 rfl (c10_sayingOf hs hy ?_)
  refine w_iconst (n := 6) (nI 2) dX10_wordOf_5 (by decide) rfl ?_
  refine w_ishr (n := 7) dX10_wordOf_6 rfl ?_
  refine w_retI dX10_wordOf_7 rfl ?_
  exact dk_q (q_shr2 _ (by have := o.sy y; omega)) hq

set_option maxRecDepth 20000 in
theorem c10_hushOf {d : Nat} {M : dk_Mem} {Q : Option Value → dk_Mem → Prop} {σ : Nat → Nat} (hs : cs σ M) (o : sg_ok σ) {y : Nat} (hy : y ≤ 16) (hq : Q (some (.int (nI (sg_sy σ y % 4)))) M) : dk_Call (d + 1) mX10_hushOf [.ref 14, .int (nI y)] M Q := by
  refine dk_enter [some (.ref 14), some (.int (nI y))] (by decide) (fun _ => rfl) (fun _ => Nat.le_of_ble_eq_true rfl) ?_
  refine w_al0 (n := 1) dX10_hushOf_0 rfl ?_
  refine w_il1 (n := 2) dX10_hushOf_1 rfl ?_
  refine w_cV1 (n := 5) pl_14 cl_10 s0_X10_sayingOf k_X10_111 (Nat.le_of_ble_eq_true rfl) dX10_hushOf_2 rfl (c10_sayingOf hs hy ?_)
  refine w_iconst (n := 6) (nI 3) dX10_hushOf_5 (by decide) rfl ?_
  refine w_iand (n := 7) dX10_hushOf_6 rfl ?_
  refine w_retI dX10_hushOf_7 rfl ?_
  exact dk_q (q_and3 _ (by have := o.sy y; omega)) hq
