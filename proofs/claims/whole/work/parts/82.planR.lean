/-! ===== plans in the reference ===== -/
/-- place i of plan P, of m places, base b -/
def pl_d (b m P i : Nat) : Nat := P / b ^ (m - 1 - i) % b
def pl_w (w : sg_R) (b m P : Nat) : Nat → Nat → (Nat → Nat) → (Nat → Nat) × Nat
  | 0, _, σ => (σ, 0)
  | n + 1, k, σ => ((pl_w w b m P n (k + 1) (sg_goes w σ (sg_ot (pl_d b m P k))).1).1, (sg_goes w σ (sg_ot (pl_d b m P k))).2 + (pl_w w b m P n (k + 1) (sg_goes w σ (sg_ot (pl_d b m P k))).1).2)
theorem pl_w_1 {w : sg_R} {b m P n k : Nat} {σ : Nat → Nat} {t : Option Nat} (ht : sg_ot (pl_d b m P k) = t) : (pl_w w b m P (n + 1) k σ).1 = (pl_w w b m P n (k + 1) (sg_goes w σ t).1).1 := by subst ht; rfl
theorem pl_w_2 {w : sg_R} {b m P n k : Nat} {σ : Nat → Nat} {t : Option Nat} (ht : sg_ot (pl_d b m P k) = t) : (pl_w w b m P (n + 1) k σ).2 = (sg_goes w σ t).2 + (pl_w w b m P n (k + 1) (sg_goes w σ t).1).2 := by subst ht; rfl
def sg_ys (σ : Nat → Nat) (n : Nat) : Nat := min n (σ 0 - σ 1)
theorem sg_ys_le {σ : Nat → Nat} {n : Nat} : sg_ys σ n ≤ n ∧ sg_ys σ n ≤ σ 0 - σ 1 := ⟨Nat.min_le_left _ _, Nat.min_le_right _ _⟩
theorem pl_d_le {b m P i : Nat} (hb : 0 < b) : pl_d b m P i ≤ b - 1 := by
  unfold pl_d
  have := Nat.mod_lt (P / b ^ (m - 1 - i)) hb
  omega

set_option maxRecDepth 20000 in
theorem r_dgL {d : Nat} {M : dk_Mem} {Q : Option Value → dk_Mem → Prop} {P b m i : Nat} (hP : P < 2 ^ 31) (hb : 0 < b) (hb7_h : b ≤ 7) (hm : m ≤ 4) (hi : i < m) (hq : Q (some (.int (nI (pl_d b m P i)))) M) : ∀ (n k : Nat), i < k → k ≤ m → m - k < n → dk_W d mX12_digit 8 [some (.int (nI P)), some (.int (nI b)), some (.int (nI i)), some (.int (nI m)), some (.int (nI (P / b ^ (k - 1 - i)))), some (.int (nI k))] [] M Q := by
  intro n
  induction n with
  | zero => intro k _ _ h; omega
  | succ n ih =>
    intro k hk hm2_h hn
    have l1_h : P / b ^ (k - 1 - i) ≤ P := Nat.div_le_self _ _
    have nz : ¬ nI b = 0 := fun z => absurd ((q_nz (by omega)).mp z) (by omega)
    refine w_il5 (n := 10) dX12_digit_8 rfl ?_
    refine w_il3 (n := 11) dX12_digit_10 rfl ?_
    refine w_ic_ge (n := 14) 26 dX12_digit_11 (by decide) rfl (fun z11_h => ?_) (fun z11_h => ?_)
    · skip
      refine w_il4 (n := 28) dX12_digit_26 rfl ?_
      refine w_il1 (n := 29) dX12_digit_28 rfl ?_
      refine w_irem (n := 30) nz dX12_digit_29 rfl ?_
      refine w_retI dX12_digit_30 rfl ?_
      rw [q_le (by omega) (by omega)] at z11_h
      rw [pk_rem (by omega) hb (by omega)]
      have e : k = m := by omega
      subst e
      exact hq
    · skip
      refine w_il4 (n := 16) dX12_digit_14 rfl ?_
      refine w_il1 (n := 17) dX12_digit_16 rfl ?_
      refine w_idiv (n := 18) nz dX12_digit_17 rfl ?_
      rw [pk_div (by omega) hb (by omega), Nat.div_div_eq_div_mul, show b ^ (k - 1 - i) * b = b ^ (k + 1 - 1 - i) by rw [← Nat.pow_succ]; congr 1; omega]
      refine w_is4 (n := 20) dX12_digit_18 rfl rfl (by decide) ?_
      refine w_inc5 (n := 23) (nI 1) dX12_digit_20 (by decide) rfl rfl (by decide) ?_
      refine w_goto 8 dX12_digit_23 (by decide) ?_
      rw [q_le (by omega) (by omega)] at z11_h
      rw [nI_add]
      exact ih (k + 1) (by omega) (by omega) (by omega)

set_option maxRecDepth 20000 in
theorem r_digit {d : Nat} {M : dk_Mem} {Q : Option Value → dk_Mem → Prop} {P b m i : Nat} (hP : P < 2 ^ 31) (hb : 0 < b) (hb7_h : b ≤ 7) (hm : m ≤ 4) (hi : i < m) (hq : Q (some (.int (nI (pl_d b m P i)))) M) : dk_Call d mX12_digit [.int (nI P), .int (nI b), .int (nI i), .int (nI m)] M Q := by
  refine dk_enter [some (.int (nI P)), some (.int (nI b)), some (.int (nI i)), some (.int (nI m)), none, none] (by decide) (fun _ => rfl) (fun _ => Nat.le_of_ble_eq_true rfl) ?_
  refine w_il0 (n := 1) dX12_digit_0 rfl ?_
  refine w_is4 (n := 3) dX12_digit_1 rfl rfl (by decide) ?_
  refine w_il2 (n := 4) dX12_digit_3 rfl ?_
  refine w_iconst (n := 5) (nI 1) dX12_digit_4 (by decide) rfl ?_
  refine w_iadd (n := 6) dX12_digit_5 rfl ?_
  refine w_is5 (n := 8) dX12_digit_6 rfl rfl (by decide) ?_
  rw [nI_add]
  have h := r_dgL (d := d) hP hb hb7_h hm hi hq (m + 1) (i + 1) (by omega) (by omega) (by omega)
  rw [show i + 1 - 1 - i = 0 by omega, Nat.pow_zero, Nat.div_one] at h
  exact h

set_option maxRecDepth 20000 in
theorem r_yearsOf {d : Nat} {M : dk_Mem} {Q : Option Value → dk_Mem → Prop} {σ : Nat → Nat} (hr : rr σ M) (o : sg_in σ) {n : Nat} (hn : n ≤ 4) (hq : Q (some (.int (nI (sg_ys σ n)))) M) : dk_Call d mX12_yearsOf [.ref 104, .int (nI n)] M Q := by
  have o2_h := o.2.1
  have o16_h := o.1.2.1
  refine dk_enter [some (.ref 104), some (.int (nI n)), none] (by decide) (fun _ => rfl) (fun _ => Nat.le_of_ble_eq_true rfl) ?_
  refine w_al0 (n := 1) dX12_yearsOf_0 rfl ?_
  refine g_R (n := 4) f_X12_9_12 pl_104 rf_104_0 dX12_yearsOf_1 rfl ?_
  refine w_iconst (n := 5) (nI 0) dX12_yearsOf_4 (by decide) rfl ?_
  refine i_iald (n := 6) pl_105 (j := 0) rfl (by decide) (by decide) (hr 0 (by decide) (by decide) (by decide)) dX12_yearsOf_5 rfl ?_
  refine w_al0 (n := 7) dX12_yearsOf_6 rfl ?_
  refine g_R (n := 10) f_X12_9_12 pl_104 rf_104_0 dX12_yearsOf_7 rfl ?_
  refine w_iconst (n := 11) (nI 1) dX12_yearsOf_10 (by decide) rfl ?_
  refine i_iald (n := 12) pl_105 (j := 1) rfl (by decide) (by decide) (hr 1 (by decide) (by decide) (by decide)) dX12_yearsOf_11 rfl ?_
  refine w_isub (n := 13) dX12_yearsOf_12 rfl ?_
  have es : nI (σ 0) - nI (σ 1) = nI (σ 0 - σ 1) := pk_sub o2_h
  rw [es]
  refine w_is2 (n := 14) dX12_yearsOf_13 rfl rfl (by decide) ?_
  refine w_il2 (n := 15) dX12_yearsOf_14 rfl ?_
  refine w_il1 (n := 16) dX12_yearsOf_15 rfl ?_
  refine w_ic_ge (n := 19) 23 dX12_yearsOf_16 (by decide) rfl (fun z16_h => ?_) (fun z16_h => ?_)
  · skip
    refine w_il1 (n := 24) dX12_yearsOf_23 rfl ?_
    refine w_retI dX12_yearsOf_24 rfl ?_
    unfold sg_ys at hq
    first | (rw [q_le (by omega) (by omega)] at z16_h; rw [Nat.min_eq_left (by omega)] at hq; exact hq) | (rw [q_le (by omega) (by omega)] at z16_h; rw [Nat.min_eq_right (by omega)] at hq; exact hq)
  · skip
    refine w_il2 (n := 20) dX12_yearsOf_19 rfl ?_
    refine w_goto 24 dX12_yearsOf_20 (by decide) ?_
    refine w_retI dX12_yearsOf_24 rfl ?_
    unfold sg_ys at hq
    first | (rw [q_le (by omega) (by omega)] at z16_h; rw [Nat.min_eq_left (by omega)] at hq; exact hq) | (rw [q_le (by omega) (by omega)] at z16_h; rw [Nat.min_eq_right (by omega)] at hq; exact hq)

set_option maxRecDepth 20000 in
theorem r_psL {d : Nat} {M : dk_Mem} {Q : Option Value → dk_Mem → Prop} {σ : Nat → Nat} (hr : rr σ M) (o : sg_in σ) {n0_h : Nat} (hn0_h : n0_h ≤ 4) (hq : Q (some (.int (nI ((σ 4 + 1) ^ sg_ys σ n0_h)))) M) : ∀ (n k : Nat), k ≤ sg_ys σ n0_h → sg_ys σ n0_h - k < n → dk_W (d + 1) mX12_plansOf 4 [some (.ref 104), some (.int (nI n0_h)), some (.int (nI ((σ 4 + 1) ^ k))), some (.int (nI k))] [] M Q := by
  have yl := (sg_ys_le (σ := σ) (n := n0_h)).1
  intro n
  induction n with
  | zero => intro k _ h; omega
  | succ n ih =>
    intro k hk hn
    refine w_il3 (n := 5) dX12_plansOf_4 rfl ?_
    refine w_al0 (n := 6) dX12_plansOf_5 rfl ?_
    refine w_il1 (n := 7) dX12_plansOf_6 rfl ?_
    refine w_cV1 (n := 10) pl_104 cl_12 s0_X12_yearsOf k_X12_244 (Nat.le_of_ble_eq_true rfl) dX12_plansOf_7 rfl (r_yearsOf hr o hn0_h ?_)
    refine w_ic_ge (n := 13) 30 dX12_plansOf_10 (by decide) rfl (fun z10_h => ?_) (fun z10_h => ?_)
    · skip
      refine w_il2 (n := 31) dX12_plansOf_30 rfl ?_
      refine w_retI dX12_plansOf_31 rfl ?_
      rw [q_le (by omega) (by omega)] at z10_h
      rw [show k = sg_ys σ n0_h by omega]
      exact hq
    · skip
      refine w_il2 (n := 14) dX12_plansOf_13 rfl ?_
      refine w_al0 (n := 15) dX12_plansOf_14 rfl ?_
      refine g_R (n := 18) f_X12_9_12 pl_104 rf_104_0 dX12_plansOf_15 rfl ?_
      refine w_iconst (n := 19) (nI 4) dX12_plansOf_18 (by decide) rfl ?_
      refine i_iald (n := 20) pl_105 (j := 4) rfl (by decide) (by decide) (hr 4 (by decide) (by decide) (by decide)) dX12_plansOf_19 rfl ?_
      refine w_iconst (n := 21) (nI 1) dX12_plansOf_20 (by decide) rfl ?_
      refine w_iadd (n := 22) dX12_plansOf_21 rfl ?_
      refine w_imul (n := 23) dX12_plansOf_22 rfl ?_
      refine w_is2 (n := 24) dX12_plansOf_23 rfl rfl (by decide) ?_
      refine w_inc3 (n := 27) (nI 1) dX12_plansOf_24 (by decide) rfl rfl (by decide) ?_
      refine w_goto 4 dX12_plansOf_27 (by decide) ?_
      rw [q_le (by omega) (by omega)] at z10_h
      rw [nI_add, nI_add, pk_mul, ← Nat.pow_succ]
      exact ih (k + 1) (by omega) (by omega)

set_option maxRecDepth 20000 in
theorem r_plansOf {d : Nat} {M : dk_Mem} {Q : Option Value → dk_Mem → Prop} {σ : Nat → Nat} (hr : rr σ M) (o : sg_in σ) {n : Nat} (hn : n ≤ 4) (hq : Q (some (.int (nI ((σ 4 + 1) ^ sg_ys σ n)))) M) : dk_Call (d + 1) mX12_plansOf [.ref 104, .int (nI n)] M Q := by
  refine dk_enter [some (.ref 104), some (.int (nI n)), none, none] (by decide) (fun _ => rfl) (fun _ => Nat.le_of_ble_eq_true rfl) ?_
  refine w_iconst (n := 1) (nI 1) dX12_plansOf_0 (by decide) rfl ?_
  refine w_is2 (n := 2) dX12_plansOf_1 rfl rfl (by decide) ?_
  refine w_iconst (n := 3) (nI 0) dX12_plansOf_2 (by decide) rfl ?_
  refine w_is3 (n := 4) dX12_plansOf_3 rfl rfl (by decide) ?_
  exact r_psL hr o hn hq (sg_ys σ n + 1) 0 (by omega) (by omega)

set_option maxRecDepth 20000 in
theorem r_woL {d : Nat} {M : dk_Mem} {Q : Option Value → dk_Mem → Prop} {w : sg_R} {nr c m P : Nat} {f g : Nat → Int32} (hb : rb w nr f) (hm : m ≤ 4) (hP : P < 2 ^ 31) (hc : c ≤ 6) {T0 : (Nat → Nat) × Nat} (hq : ∀ M1 X, dk_fr rG M M1 → rW g M1 → X = dk_put M1 104 14 (nI (sg_set T0.1 c)) → Q (some (.int (nI T0.2))) (dk_row X 105 (dk_cp (X.1 107) (X.1 105) 621))) : ∀ (n k a : Nat) (σ : Nat → Nat) (M1 : dk_Mem), k ≤ m → m - k < n → sg_ok σ → σ 6 = nr → σ 4 = c → m - k ≤ σ 0 - σ 1 → rr σ M1 → rT f M1 → dk_fr rG M M1 → rW g M1 → (pl_w w (c + 1) m P (m - k) k σ).1 = T0.1 → a + (pl_w w (c + 1) m P (m - k) k σ).2 = T0.2 → dk_W (d + 8) mX12_worthOf 15 [some (.ref 104), some (.int (nI P)), some (.int (nI m)), some (.int (nI (c + 1))), some (.int (nI a)), some (.int (nI k))] [] M1 Q := by
  intro n
  induction n with
  | zero => intro k _ _ _ _ h; omega
  | succ n ih =>
    intro k a σ M1 hk hn o hs6_h hs4_h hyr hr hT hf hW he1_h he2_h
    subst hs6_h
    have o16_h := o.2.1
    refine w_il5 (n := 17) dX12_worthOf_15 rfl ?_
    refine w_il2 (n := 18) dX12_worthOf_17 rfl ?_
    refine w_ic_ge (n := 21) 46 dX12_worthOf_18 (by decide) rfl (fun z18_h => ?_) (fun z18_h => ?_)
    · skip
      refine w_al0 (n := 47) dX12_worthOf_46 rfl ?_
      refine w_al0 (n := 48) dX12_worthOf_47 rfl ?_
      rw [q_le (by omega) (by omega)] at z18_h
      rw [show m - k = 0 by omega] at he1_h he2_h
      have e1_h : σ = T0.1 := he1_h
      have e2_h : a = T0.2 := he2_h
      refine w_cV0 (n := 51) pl_104 cl_12 s0_X12_fallenOnes k_X12_125 (Nat.le_of_ble_eq_true rfl) dX12_worthOf_48 rfl (r_fallenOnes hr o ?_)
      refine p_I (n := 54) f_X12_250_12 pl_104 dX12_worthOf_51 rfl ?_
      refine w_al0 (n := 55) dX12_worthOf_54 rfl ?_
      refine w_cV0 (n := 58) pl_104 cl_12 s0_X12_putsBack k_X12_202 (Nat.le_of_ble_eq_true rfl) dX12_worthOf_55 rfl (r_putsBack ?_)
      refine w_il4 (n := 60) dX12_worthOf_58 rfl ?_
      refine w_retI dX12_worthOf_60 rfl ?_
      rw [e2_h]
      refine hq M1 _ hf hW ?_
      rw [← e1_h, hs4_h]
    · skip
      refine w_il4 (n := 23) dX12_worthOf_21 rfl ?_
      refine w_al0 (n := 24) dX12_worthOf_23 rfl ?_
      refine w_il1 (n := 25) dX12_worthOf_24 rfl ?_
      refine w_il3 (n := 26) dX12_worthOf_25 rfl ?_
      refine w_il5 (n := 28) dX12_worthOf_26 rfl ?_
      refine w_il2 (n := 29) dX12_worthOf_28 rfl ?_
      refine w_cS4 (n := 32) s0_X12_digit k_X12_247 (Nat.le_of_ble_eq_true rfl) dX12_worthOf_29 rfl (r_digit hP (by omega) (by omega) hm (by rw [q_le (by omega) (by omega)] at z18_h; omega) ?_)
      refine w_iconst (n := 33) (nI 1) dX12_worthOf_32 (by decide) rfl ?_
      refine w_isub (n := 34) dX12_worthOf_33 rfl ?_
      have hlt := sg_ot_lt (pl_d_le (m := m) (P := P) (i := k) (show 0 < c + 1 by omega))
      rw [sg_ot_enc (by have := pl_d_le (m := m) (P := P) (i := k) (show 0 < c + 1 by omega); omega)]
      generalize hgt : sg_ot (pl_d (c + 1) m P k) = t at *
      refine w_cV1 (n := 37) pl_104 cl_12 s0_X12_goes k_X12_226 (Nat.le_of_ble_eq_true rfl) dX12_worthOf_34 rfl (r_goes hr o (fun h e => by have := hlt h e; omega) hb hT (fun M2 g1_h g2_h g3_h => ?_))
      refine w_iadd (n := 38) dX12_worthOf_37 rfl ?_
      refine w_is4 (n := 40) dX12_worthOf_38 rfl rfl (by decide) ?_
      refine w_inc5 (n := 43) (nI 1) dX12_worthOf_40 (by decide) rfl rfl (by decide) ?_
      refine w_goto 15 dX12_worthOf_43 (by decide) ?_
      rw [q_le (by omega) (by omega)] at z18_h
      have em : m - k = (m - (k + 1)) + 1 := by omega
      rw [em, pl_w_1 hgt] at he1_h
      rw [em, pl_w_2 hgt, ← Nat.add_assoc] at he2_h
      rw [nI_add, nI_add]
      exact ih (k + 1) _ _ M2 (by omega) (by omega) (o.goes (fun h e => by have := hlt h e; omega) (by omega)) (sg_goes_o (by omega) (by omega)) ((sg_goes_o (by omega) (by omega)).trans hs4_h) (by rw [sg_goes_1, sg_goes_o (by omega) (by omega)]; omega) g1_h (hT.fr g2_h) (hf.tr g2_h) (hW.fr g2_h nG7) he1_h he2_h

set_option maxRecDepth 20000 in
theorem r_worthOf {d : Nat} {M : dk_Mem} {Q : Option Value → dk_Mem → Prop} {K : sg_K} (hK : rK K M) {m P : Nat} (hm : m ≤ 4) (hP : P < 2 ^ 31) (hy : m ≤ K.1 0 - K.1 1) (hW : rW (M.1 105) M) (hq : ∀ M2, dk_fr rN M M2 → rW (M.1 105) M2 → (∀ k, 6 ≤ k → k ≠ 14 → M2.1 104 k = M.1 104 k) → M2.1 104 14 = nI (sg_set (pl_w K.2.1 (K.1 4 + 1) m P m 0 K.1).1 (K.1 4)) → Q (some (.int (nI (pl_w K.2.1 (K.1 4 + 1) m P m 0 K.1).2))) M2) : dk_Call (d + 9) mX12_worthOf [.ref 104, .int (nI P), .int (nI m)] M Q := by
  have hK0 := hK
  obtain ⟨⟨o, p1_h, p2_h, p3_h⟩, hr, ⟨f, hb, hT⟩, hsc, hz⟩ := hK0
  have o4_h := o.2.2.2.1
  have o16_h := o.2.1
  refine dk_enter [some (.ref 104), some (.int (nI P)), some (.int (nI m)), none, none, none] (by decide) (fun _ => rfl) (fun _ => Nat.le_of_ble_eq_true rfl) ?_
  refine w_al0 (n := 1) dX12_worthOf_0 rfl ?_
  refine g_R (n := 4) f_X12_9_12 pl_104 rf_104_0 dX12_worthOf_1 rfl ?_
  refine w_iconst (n := 5) (nI 4) dX12_worthOf_4 (by decide) rfl ?_
  refine i_iald (n := 6) pl_105 (j := 4) rfl (by decide) (by decide) (hr 4 (by decide) (by decide) (by decide)) dX12_worthOf_5 rfl ?_
  refine w_iconst (n := 7) (nI 1) dX12_worthOf_6 (by decide) rfl ?_
  refine w_iadd (n := 8) dX12_worthOf_7 rfl ?_
  refine w_is3 (n := 9) dX12_worthOf_8 rfl rfl (by decide) ?_
  refine w_iconst (n := 10) (nI 0) dX12_worthOf_9 (by decide) rfl ?_
  refine w_is4 (n := 12) dX12_worthOf_10 rfl rfl (by decide) ?_
  refine w_iconst (n := 13) (nI 0) dX12_worthOf_12 (by decide) rfl ?_
  refine w_is5 (n := 15) dX12_worthOf_13 rfl rfl (by decide) ?_
  rw [nI_add]
  refine r_woL hb hm hP o4_h (g := M.1 105) (T0 := pl_w K.2.1 (K.1 4 + 1) m P m 0 K.1) (fun M1 X g1_h g2_h g3_h => ?_) (m + 1) 0 0 K.1 M (by omega) (by omega) o rfl rfl (by omega) hr hT dk_fr.rf hW rfl (Nat.zero_add _)
  have x7_h : ∀ k, X.1 107 k = M1.1 107 k := fun k => by rw [g3_h, dk_put_k (by omega)]
  have x5_h : ∀ k, X.1 105 k = M1.1 105 k := fun k => by rw [g3_h, dk_put_k (by omega)]
  have fN : dk_fr rN M (dk_row X 105 (dk_cp (X.1 107) (X.1 105) 621)) := by
    refine ⟨by rw [g3_h]; exact g1_h.1, fun q k hn => ?_⟩
    by_cases hq5_h : q = 105
    · subst hq5_h
      rw [dk_row_at]
      unfold dk_cp
      split
      · rw [x7_h, g2_h k (by assumption)]
      · rw [x5_h]; exact g1_h.2 105 k (by unfold rG; omega)
    · rw [dk_row_k hq5_h, g3_h, dk_put_k (fun z => hn (by unfold rN; omega))]
      exact g1_h.2 q k (fun z => by unfold rG at z; unfold rN at hn; omega)
  refine hq _ fN (fun k hk => ?_) (fun k h6_h h14_h => ?_) ?_
  · rw [dk_row_k (by decide), x7_h]; exact g2_h k hk
  · rw [dk_row_k (by decide), g3_h, dk_put_k (by omega)]; exact g1_h.2 104 k (by unfold rG; omega)
  · rw [dk_row_k (by decide), g3_h, dk_put_s]

/-- the first best of n plans: worth, plan, how many -/
def fb (f : Nat → Nat) : Nat → Nat × Nat × Nat
  | 0 => (0, 0, 0)
  | 1 => (f 0, 0, 1)
  | n + 2 => if (fb f (n + 1)).1 < f (n + 1) then (f (n + 1), n + 1, 1) else if f (n + 1) = (fb f (n + 1)).1 then ((fb f (n + 1)).1, (fb f (n + 1)).2.1, (fb f (n + 1)).2.2 + 1) else fb f (n + 1)
def sg_f (K : sg_K) (m P : Nat) : Nat := (pl_w K.2.1 (K.1 4 + 1) m P m 0 K.1).2
theorem pl_w_le {w : sg_R} {c m P : Nat} (hc : c ≤ 6) : ∀ (n k : Nat) (σ : Nat → Nat), sg_ok σ → n ≤ σ 0 - σ 1 → (pl_w w (c + 1) m P n k σ).2 ≤ 19 * n
  | 0, _, _, _, _ => Nat.le_refl 0
  | n + 1, k, σ, o, h => by
    have hlt := sg_ot_lt (pl_d_le (m := m) (P := P) (i := k) (show 0 < c + 1 by omega))
    have t6_h : ∀ h, sg_ot (pl_d (c + 1) m P k) = some h → h < 6 := fun h e => by have := hlt h e; omega
    generalize hgt : sg_ot (pl_d (c + 1) m P k) = t at *
    rw [pl_w_2 hgt]
    have o16_h := o.2.1
    have h1_h := sg_goes_le (w := w) o t6_h
    have h2_h := pl_w_le (w := w) (m := m) (P := P) hc n (k + 1) (sg_goes w σ t).1 (o.goes t6_h (by omega)) (by rw [sg_goes_1, sg_goes_o (by omega) (by omega)]; omega)
    omega
theorem fb_le {f : Nat → Nat} {B : Nat} (hf : ∀ P, f P ≤ B) : ∀ n, (fb f n).1 ≤ B ∧ (fb f n).2.1 ≤ n ∧ (fb f n).2.2 ≤ n
  | 0 => ⟨Nat.zero_le _, Nat.zero_le _, Nat.zero_le _⟩
  | 1 => ⟨hf 0, Nat.zero_le _, Nat.le_refl _⟩
  | n + 2 => by
    have ih := fb_le hf (n + 1)
    have h2_h := hf (n + 1)
    rw [fb]
    split
    · exact ⟨h2_h, by show n + 1 ≤ n + 2; omega, by show 1 ≤ n + 2; omega⟩
    · split
      · exact ⟨ih.1, by show (fb f (n + 1)).2.1 ≤ n + 2; omega, by show (fb f (n + 1)).2.2 + 1 ≤ n + 2; omega⟩
      · exact ⟨ih.1, by omega, by omega⟩
theorem fb_g {f : Nat → Nat} {n : Nat} (h : (fb f (n + 1)).1 < f (n + 1)) : fb f (n + 2) = (f (n + 1), n + 1, 1) := if_pos h
theorem fb_e {f : Nat → Nat} {n : Nat} (h : f (n + 1) = (fb f (n + 1)).1) : fb f (n + 2) = ((fb f (n + 1)).1, (fb f (n + 1)).2.1, (fb f (n + 1)).2.2 + 1) := (if_neg (by omega)).trans (if_pos h)
theorem fb_l {f : Nat → Nat} {n : Nat} (h : f (n + 1) < (fb f (n + 1)).1) : fb f (n + 2) = fb f (n + 1) := (if_neg (by omega)).trans (if_neg (by omega))

set_option maxRecDepth 20000 in
theorem r_fb0 {d : Nat} {M : dk_Mem} {Q : Option Value → dk_Mem → Prop} {K : sg_K} (hK : rK K M) {m N : Nat} (hm : m ≤ 4) (hN : N ≤ 2401) (h1_h : 1 ≤ N) (hy : m ≤ K.1 0 - K.1 1) {n0_h : Int32} {x5_h : Option Value} {M1 : dk_Mem} (hf : dk_fr rN M M1) (hW : rW (M.1 105) M1) (hb : M1.1 104 16 = -1) (hx : ∀ M2, dk_fr rN M M2 → rW (M.1 105) M2 → M2.1 104 16 = nI (sg_f K m 0) → M2.1 104 15 = nI 0 → M2.1 104 17 = nI 1 → dk_W (d + 10) mX12_findBest 24 [some (.ref 104), some (.int n0_h), some (.int (nI m)), some (.int (nI N)), some (.int (nI 1)), some (.int (nI (sg_f K m 0)))] [] M2 Q) : dk_W (d + 10) mX12_findBest 24 [some (.ref 104), some (.int n0_h), some (.int (nI m)), some (.int (nI N)), some (.int (nI 0)), x5_h] [] M1 Q := by
  have e5_h : ∀ k, M1.1 105 k = M.1 105 k := fun k => hf.2 105 k (by unfold rN; omega)
  have hW1 : rW (M1.1 105) M1 := fun k hk => (hW k hk).trans (e5_h k).symm
  have o4_h := hK.1.1.2.2.2.1
  refine w_il4 (n := 26) dX12_findBest_24 rfl ?_
  refine w_il3 (n := 27) dX12_findBest_26 rfl ?_
  refine w_ic_ge (n := 30) 128 dX12_findBest_27 (by decide) rfl (fun z27_h => ?_) (fun z27_h => ?_)
  · skip
    exact absurd z27_h (by rw [q_le (by omega) (by omega)]; omega)
  · skip
    refine w_al0 (n := 31) dX12_findBest_30 rfl ?_
    refine w_il4 (n := 33) dX12_findBest_31 rfl ?_
    refine w_il2 (n := 34) dX12_findBest_33 rfl ?_
    refine w_cV2 (n := 37) pl_104 cl_12 s0_X12_worthOf k_X12_259 (Nat.le_of_ble_eq_true rfl) dX12_findBest_34 rfl (r_worthOf (hK.N hf) (P := 0) hm (by decide) hy hW1 (fun M2 w1_h w2_h w3_h w4_h => ?_))
    have hle := pl_w_le (w := K.2.1) (m := m) (P := 0) o4_h m 0 K.1 hK.1.1 hy
    have ef : (pl_w K.2.1 (K.1 4 + 1) m 0 m 0 K.1).2 = sg_f K m 0 := rfl
    rw [ef] at hle
    rw [ef]
    have b2_h : M2.1 104 16 = -1 := (w3_h 16 (by omega) (by omega)).trans hb
    have gt : -1 < nI (sg_f K m 0) := Int32.lt_of_lt_of_le (by decide) (nI_pos' (by omega))
    refine w_is5 (n := 39) dX12_findBest_37 rfl rfl (by decide) ?_
    refine w_al0 (n := 40) dX12_findBest_39 rfl ?_
    refine w_il5 (n := 42) dX12_findBest_40 rfl ?_
    refine w_al0 (n := 43) dX12_findBest_42 rfl ?_
    refine g_I (n := 46) f_X12_256_12 pl_104 dX12_findBest_43 rfl ?_
    rw [b2_h]
    refine w_ic_le (n := 49) 53 dX12_findBest_46 (by decide) rfl (fun z46_h => ?_) (fun z46_h => ?_)
    · skip
      exact absurd gt (Int32.not_lt.mpr z46_h)
    · skip
      refine w_iconst (n := 50) (nI 1) dX12_findBest_49 (by decide) rfl ?_
      refine w_goto 75 dX12_findBest_50 (by decide) ?_
      refine p_I (n := 78) f_X12_262_12 pl_104 dX12_findBest_75 rfl ?_
      refine w_al0 (n := 79) dX12_findBest_78 rfl ?_
      refine w_il5 (n := 81) dX12_findBest_79 rfl ?_
      refine w_al0 (n := 82) dX12_findBest_81 rfl ?_
      refine g_I (n := 85) f_X12_256_12 pl_104 dX12_findBest_82 rfl ?_
      rw [dk_put_k (by omega), b2_h]
      refine w_ic_le (n := 88) 93 dX12_findBest_85 (by decide) rfl (fun z85_h => ?_) (fun z85_h => ?_)
      · skip
        exact absurd gt (Int32.not_lt.mpr z85_h)
      · skip
        refine w_il4 (n := 90) dX12_findBest_88 rfl ?_
        refine w_goto 97 dX12_findBest_90 (by decide) ?_
        refine p_I (n := 100) f_X12_265_12 pl_104 dX12_findBest_97 rfl ?_
        refine w_al0 (n := 101) dX12_findBest_100 rfl ?_
        refine w_il5 (n := 103) dX12_findBest_101 rfl ?_
        refine w_al0 (n := 104) dX12_findBest_103 rfl ?_
        refine g_I (n := 107) f_X12_256_12 pl_104 dX12_findBest_104 rfl ?_
        rw [dk_put_k (by omega), dk_put_k (by omega), b2_h]
        refine w_ic_le (n := 110) 115 dX12_findBest_107 (by decide) rfl (fun z107_h => ?_) (fun z107_h => ?_)
        · skip
          exact absurd gt (Int32.not_lt.mpr z107_h)
        · skip
          refine w_il5 (n := 112) dX12_findBest_110 rfl ?_
          refine w_goto 119 dX12_findBest_112 (by decide) ?_
          refine p_I (n := 122) f_X12_256_12 pl_104 dX12_findBest_119 rfl ?_
          refine w_inc4 (n := 125) (nI 1) dX12_findBest_122 (by decide) rfl rfl (by decide) ?_
          refine w_goto 24 dX12_findBest_125 (by decide) ?_
          refine hx _ ?_ (fun k hk => ?_) dk_put_s ?_ ?_
          · exact ((((hf.tr w1_h).put (by unfold rN; omega)).put (by unfold rN; omega)).put (by unfold rN; omega))
          · rw [dk_put_k (by omega), dk_put_k (by omega), dk_put_k (by omega), w2_h k hk]; exact e5_h k
          · rw [dk_put_k (by omega), dk_put_s]
          · rw [dk_put_k (by omega), dk_put_k (by omega), dk_put_s]

set_option maxRecDepth 20000 in
theorem r_fbL {d : Nat} {M : dk_Mem} {Q : Option Value → dk_Mem → Prop} {K : sg_K} (hK : rK K M) {m N : Nat} (hm : m ≤ 4) (hN : N ≤ 2401) (hy : m ≤ K.1 0 - K.1 1) {n0_h : Int32} (hq : ∀ M2, dk_fr rN M M2 → M2.1 104 16 = nI (fb (sg_f K m) N).1 → M2.1 104 15 = nI (fb (sg_f K m) N).2.1 → M2.1 104 17 = nI (fb (sg_f K m) N).2.2 → Q none M2) : ∀ (n P : Nat) (x5_h : Option Value) (M1 : dk_Mem), 1 ≤ P → P ≤ N → N - P < n → dk_fr rN M M1 → rW (M.1 105) M1 → M1.1 104 16 = nI (fb (sg_f K m) P).1 → M1.1 104 15 = nI (fb (sg_f K m) P).2.1 → M1.1 104 17 = nI (fb (sg_f K m) P).2.2 → dk_W (d + 10) mX12_findBest 24 [some (.ref 104), some (.int n0_h), some (.int (nI m)), some (.int (nI N)), some (.int (nI P)), x5_h] [] M1 Q := by
  have o4_h := hK.1.1.2.2.2.1
  have fle : ∀ P, sg_f K m P ≤ 76 := fun P => by have := pl_w_le (w := K.2.1) (m := m) (P := P) o4_h m 0 K.1 hK.1.1 hy; unfold sg_f; omega
  intro n
  induction n with
  | zero => intro P x5_h M1 _ _ h; omega
  | succ n ih =>
    intro P x5_h M1 h1_h hP hn hf hW b6_h b5_h b7_h
    have e5_h : ∀ k, M1.1 105 k = M.1 105 k := fun k => hf.2 105 k (by unfold rN; omega)
    have hW1 : rW (M1.1 105) M1 := fun k hk => (hW k hk).trans (e5_h k).symm
    obtain ⟨P, rfl⟩ : ∃ p, P = p + 1 := ⟨P - 1, by omega⟩
    have fbb := fb_le fle (P + 1)
    refine w_il4 (n := 26) dX12_findBest_24 rfl ?_
    refine w_il3 (n := 27) dX12_findBest_26 rfl ?_
    refine w_ic_ge (n := 30) 128 dX12_findBest_27 (by decide) rfl (fun z27_h => ?_) (fun z27_h => ?_)
    · skip
      refine w_ret dX12_findBest_128 rfl ?_
      rw [q_le (by omega) (by omega)] at z27_h
      have e : P + 1 = N := by omega
      rw [← e] at hq
      exact hq M1 hf b6_h b5_h b7_h
    · skip
      refine w_al0 (n := 31) dX12_findBest_30 rfl ?_
      refine w_il4 (n := 33) dX12_findBest_31 rfl ?_
      refine w_il2 (n := 34) dX12_findBest_33 rfl ?_
      refine w_cV2 (n := 37) pl_104 cl_12 s0_X12_worthOf k_X12_259 (Nat.le_of_ble_eq_true rfl) dX12_findBest_34 rfl (r_worthOf (hK.N hf) (P := P + 1) hm (by omega) hy hW1 (fun M2 w1_h w2_h w3_h w4_h => ?_))
      rw [show (pl_w K.2.1 (K.1 4 + 1) m (P + 1) m 0 K.1).2 = sg_f K m (P + 1) from rfl]
      have hl := fle (P + 1)
      have c6_h : M2.1 104 16 = _ := (w3_h 16 (by omega) (by omega)).trans b6_h
      have c5_h : M2.1 104 15 = _ := (w3_h 15 (by omega) (by omega)).trans b5_h
      have c7_h : M2.1 104 17 = _ := (w3_h 17 (by omega) (by omega)).trans b7_h
      have hPN : P + 1 < N := by rw [q_le (by omega) (by omega)] at z27_h; omega
      have key : ∀ (X6 X5 X7 : Int32), X6 = nI (fb (sg_f K m) (P + 2)).1 → X5 = nI (fb (sg_f K m) (P + 2)).2.1 → X7 = nI (fb (sg_f K m) (P + 2)).2.2 → ∀ x9_h, dk_W (d + 10) mX12_findBest 24 [some (.ref 104), some (.int n0_h), some (.int (nI m)), some (.int (nI N)), some (.int (nI (P + 2))), x9_h] [] (dk_put (dk_put (dk_put M2 104 17 X7) 104 15 X5) 104 16 X6) Q := fun X6 X5 X7 a1_h a2_h a3_h x9_h => ih (P + 2) x9_h _ (by omega) (by omega) (by omega) ((((hf.tr w1_h).put (by unfold rN; omega)).put (by unfold rN; omega)).put (by unfold rN; omega)) (fun k hk => by rw [dk_put_k (by omega), dk_put_k (by omega), dk_put_k (by omega), w2_h k hk]; exact e5_h k) (by rw [dk_put_s]; exact a1_h) (by rw [dk_put_k (by omega), dk_put_s]; exact a2_h) (by rw [dk_put_k (by omega), dk_put_k (by omega), dk_put_s]; exact a3_h)
      refine w_is5 (n := 39) dX12_findBest_37 rfl rfl (by decide) ?_
      refine w_al0 (n := 40) dX12_findBest_39 rfl ?_
      refine w_il5 (n := 42) dX12_findBest_40 rfl ?_
      refine w_al0 (n := 43) dX12_findBest_42 rfl ?_
      refine g_I (n := 46) f_X12_256_12 pl_104 dX12_findBest_43 rfl ?_
      rw [c6_h]
      refine w_ic_le (n := 49) 53 dX12_findBest_46 (by decide) rfl (fun z46_h => ?_) (fun z46_h => ?_)
      · skip
        refine w_il5 (n := 55) dX12_findBest_53 rfl ?_
        refine w_al0 (n := 56) dX12_findBest_55 rfl ?_
        refine g_I (n := 59) f_X12_256_12 pl_104 dX12_findBest_56 rfl ?_
        rw [c6_h]
        refine w_ic_ne (n := 62) 71 dX12_findBest_59 (by decide) rfl (fun z59_h => ?_) (fun z59_h => ?_)
        · skip
          refine w_al0 (n := 72) dX12_findBest_71 rfl ?_
          refine g_I (n := 75) f_X12_262_12 pl_104 dX12_findBest_72 rfl ?_
          try rw [c7_h]
          refine p_I (n := 78) f_X12_262_12 pl_104 dX12_findBest_75 rfl ?_
          refine w_al0 (n := 79) dX12_findBest_78 rfl ?_
          refine w_il5 (n := 81) dX12_findBest_79 rfl ?_
          refine w_al0 (n := 82) dX12_findBest_81 rfl ?_
          refine g_I (n := 85) f_X12_256_12 pl_104 dX12_findBest_82 rfl ?_
          rw [dk_put_k (by omega), c6_h]
          refine w_ic_le (n := 88) 93 dX12_findBest_85 (by decide) rfl (fun z85_h => ?_) (fun z85_h => ?_)
          · skip
            refine w_al0 (n := 94) dX12_findBest_93 rfl ?_
            refine g_I (n := 97) f_X12_265_12 pl_104 dX12_findBest_94 rfl ?_
            try rw [dk_put_k (by omega), c5_h]
            refine p_I (n := 100) f_X12_265_12 pl_104 dX12_findBest_97 rfl ?_
            refine w_al0 (n := 101) dX12_findBest_100 rfl ?_
            refine w_il5 (n := 103) dX12_findBest_101 rfl ?_
            refine w_al0 (n := 104) dX12_findBest_103 rfl ?_
            refine g_I (n := 107) f_X12_256_12 pl_104 dX12_findBest_104 rfl ?_
            rw [dk_put_k (by omega), dk_put_k (by omega), c6_h]
            refine w_ic_le (n := 110) 115 dX12_findBest_107 (by decide) rfl (fun z107_h => ?_) (fun z107_h => ?_)
            · skip
              refine w_al0 (n := 116) dX12_findBest_115 rfl ?_
              refine g_I (n := 119) f_X12_256_12 pl_104 dX12_findBest_116 rfl ?_
              try rw [dk_put_k (by omega), dk_put_k (by omega), c6_h]
              refine p_I (n := 122) f_X12_256_12 pl_104 dX12_findBest_119 rfl ?_
              refine w_inc4 (n := 125) (nI 1) dX12_findBest_122 (by decide) rfl rfl (by decide) ?_
              refine w_goto 24 dX12_findBest_125 (by decide) ?_
              rw [q_le (by omega) (by omega)] at z46_h z85_h z107_h
              try rw [nI_eq (by omega) (by omega)] at z59_h
              rw [nI_add]
              first | (exfalso; omega) | exact key _ _ _ (by first | rw [fb_g (by omega)] | rw [fb_e (by omega)] | rw [fb_l (by omega)]) (by first | rw [fb_g (by omega)] | rw [fb_e (by omega)] | rw [fb_l (by omega)]) (by first | rw [fb_g (by omega)] | (rw [fb_e (by omega), nI_add]) | rw [fb_l (by omega)]) _
            · skip
              refine w_il5 (n := 112) dX12_findBest_110 rfl ?_
              refine w_goto 119 dX12_findBest_112 (by decide) ?_
              try rw [dk_put_k (by omega), dk_put_k (by omega), c6_h]
              refine p_I (n := 122) f_X12_256_12 pl_104 dX12_findBest_119 rfl ?_
              refine w_inc4 (n := 125) (nI 1) dX12_findBest_122 (by decide) rfl rfl (by decide) ?_
              refine w_goto 24 dX12_findBest_125 (by decide) ?_
              rw [q_le (by omega) (by omega)] at z46_h z85_h z107_h
              try rw [nI_eq (by omega) (by omega)] at z59_h
              rw [nI_add]
              first | (exfalso; omega) | exact key _ _ _ (by first | rw [fb_g (by omega)] | rw [fb_e (by omega)] | rw [fb_l (by omega)]) (by first | rw [fb_g (by omega)] | rw [fb_e (by omega)] | rw [fb_l (by omega)]) (by first | rw [fb_g (by omega)] | (rw [fb_e (by omega), nI_add]) | rw [fb_l (by omega)]) _
          · skip
            refine w_il4 (n := 90) dX12_findBest_88 rfl ?_
            refine w_goto 97 dX12_findBest_90 (by decide) ?_
            try rw [dk_put_k (by omega), c5_h]
            refine p_I (n := 100) f_X12_265_12 pl_104 dX12_findBest_97 rfl ?_
            refine w_al0 (n := 101) dX12_findBest_100 rfl ?_
            refine w_il5 (n := 103) dX12_findBest_101 rfl ?_
            refine w_al0 (n := 104) dX12_findBest_103 rfl ?_
            refine g_I (n := 107) f_X12_256_12 pl_104 dX12_findBest_104 rfl ?_
            rw [dk_put_k (by omega), dk_put_k (by omega), c6_h]
            refine w_ic_le (n := 110) 115 dX12_findBest_107 (by decide) rfl (fun z107_h => ?_) (fun z107_h => ?_)
            · skip
              refine w_al0 (n := 116) dX12_findBest_115 rfl ?_
              refine g_I (n := 119) f_X12_256_12 pl_104 dX12_findBest_116 rfl ?_
              try rw [dk_put_k (by omega), dk_put_k (by omega), c6_h]
              refine p_I (n := 122) f_X12_256_12 pl_104 dX12_findBest_119 rfl ?_
              refine w_inc4 (n := 125) (nI 1) dX12_findBest_122 (by decide) rfl rfl (by decide) ?_
              refine w_goto 24 dX12_findBest_125 (by decide) ?_
              rw [q_le (by omega) (by omega)] at z46_h z85_h z107_h
              try rw [nI_eq (by omega) (by omega)] at z59_h
              rw [nI_add]
              first | (exfalso; omega) | exact key _ _ _ (by first | rw [fb_g (by omega)] | rw [fb_e (by omega)] | rw [fb_l (by omega)]) (by first | rw [fb_g (by omega)] | rw [fb_e (by omega)] | rw [fb_l (by omega)]) (by first | rw [fb_g (by omega)] | (rw [fb_e (by omega), nI_add]) | rw [fb_l (by omega)]) _
            · skip
              refine w_il5 (n := 112) dX12_findBest_110 rfl ?_
              refine w_goto 119 dX12_findBest_112 (by decide) ?_
              try rw [dk_put_k (by omega), dk_put_k (by omega), c6_h]
              refine p_I (n := 122) f_X12_256_12 pl_104 dX12_findBest_119 rfl ?_
              refine w_inc4 (n := 125) (nI 1) dX12_findBest_122 (by decide) rfl rfl (by decide) ?_
              refine w_goto 24 dX12_findBest_125 (by decide) ?_
              rw [q_le (by omega) (by omega)] at z46_h z85_h z107_h
              try rw [nI_eq (by omega) (by omega)] at z59_h
              rw [nI_add]
              first | (exfalso; omega) | exact key _ _ _ (by first | rw [fb_g (by omega)] | rw [fb_e (by omega)] | rw [fb_l (by omega)]) (by first | rw [fb_g (by omega)] | rw [fb_e (by omega)] | rw [fb_l (by omega)]) (by first | rw [fb_g (by omega)] | (rw [fb_e (by omega), nI_add]) | rw [fb_l (by omega)]) _
        · skip
          refine w_al0 (n := 63) dX12_findBest_62 rfl ?_
          refine g_I (n := 66) f_X12_262_12 pl_104 dX12_findBest_63 rfl ?_
          rw [c7_h]
          refine w_iconst (n := 67) (nI 1) dX12_findBest_66 (by decide) rfl ?_
          refine w_iadd (n := 68) dX12_findBest_67 rfl ?_
          refine w_goto 75 dX12_findBest_68 (by decide) ?_
          try rw [c7_h]
          refine p_I (n := 78) f_X12_262_12 pl_104 dX12_findBest_75 rfl ?_
          refine w_al0 (n := 79) dX12_findBest_78 rfl ?_
          refine w_il5 (n := 81) dX12_findBest_79 rfl ?_
          refine w_al0 (n := 82) dX12_findBest_81 rfl ?_
          refine g_I (n := 85) f_X12_256_12 pl_104 dX12_findBest_82 rfl ?_
          rw [dk_put_k (by omega), c6_h]
          refine w_ic_le (n := 88) 93 dX12_findBest_85 (by decide) rfl (fun z85_h => ?_) (fun z85_h => ?_)
          · skip
            refine w_al0 (n := 94) dX12_findBest_93 rfl ?_
            refine g_I (n := 97) f_X12_265_12 pl_104 dX12_findBest_94 rfl ?_
            try rw [dk_put_k (by omega), c5_h]
            refine p_I (n := 100) f_X12_265_12 pl_104 dX12_findBest_97 rfl ?_
            refine w_al0 (n := 101) dX12_findBest_100 rfl ?_
            refine w_il5 (n := 103) dX12_findBest_101 rfl ?_
            refine w_al0 (n := 104) dX12_findBest_103 rfl ?_
            refine g_I (n := 107) f_X12_256_12 pl_104 dX12_findBest_104 rfl ?_
            rw [dk_put_k (by omega), dk_put_k (by omega), c6_h]
            refine w_ic_le (n := 110) 115 dX12_findBest_107 (by decide) rfl (fun z107_h => ?_) (fun z107_h => ?_)
            · skip
              refine w_al0 (n := 116) dX12_findBest_115 rfl ?_
              refine g_I (n := 119) f_X12_256_12 pl_104 dX12_findBest_116 rfl ?_
              try rw [dk_put_k (by omega), dk_put_k (by omega), c6_h]
              refine p_I (n := 122) f_X12_256_12 pl_104 dX12_findBest_119 rfl ?_
              refine w_inc4 (n := 125) (nI 1) dX12_findBest_122 (by decide) rfl rfl (by decide) ?_
              refine w_goto 24 dX12_findBest_125 (by decide) ?_
              rw [q_le (by omega) (by omega)] at z46_h z85_h z107_h
              try rw [nI_eq (by omega) (by omega)] at z59_h
              rw [nI_add]
              first | (exfalso; omega) | exact key _ _ _ (by first | rw [fb_g (by omega)] | rw [fb_e (by omega)] | rw [fb_l (by omega)]) (by first | rw [fb_g (by omega)] | rw [fb_e (by omega)] | rw [fb_l (by omega)]) (by first | rw [fb_g (by omega)] | (rw [fb_e (by omega), nI_add]) | rw [fb_l (by omega)]) _
            · skip
              refine w_il5 (n := 112) dX12_findBest_110 rfl ?_
              refine w_goto 119 dX12_findBest_112 (by decide) ?_
              try rw [dk_put_k (by omega), dk_put_k (by omega), c6_h]
              refine p_I (n := 122) f_X12_256_12 pl_104 dX12_findBest_119 rfl ?_
              refine w_inc4 (n := 125) (nI 1) dX12_findBest_122 (by decide) rfl rfl (by decide) ?_
              refine w_goto 24 dX12_findBest_125 (by decide) ?_
              rw [q_le (by omega) (by omega)] at z46_h z85_h z107_h
              try rw [nI_eq (by omega) (by omega)] at z59_h
              rw [nI_add]
              first | (exfalso; omega) | exact key _ _ _ (by first | rw [fb_g (by omega)] | rw [fb_e (by omega)] | rw [fb_l (by omega)]) (by first | rw [fb_g (by omega)] | rw [fb_e (by omega)] | rw [fb_l (by omega)]) (by first | rw [fb_g (by omega)] | (rw [fb_e (by omega), nI_add]) | rw [fb_l (by omega)]) _
          · skip
            refine w_il4 (n := 90) dX12_findBest_88 rfl ?_
            refine w_goto 97 dX12_findBest_90 (by decide) ?_
            try rw [dk_put_k (by omega), c5_h]
            refine p_I (n := 100) f_X12_265_12 pl_104 dX12_findBest_97 rfl ?_
            refine w_al0 (n := 101) dX12_findBest_100 rfl ?_
            refine w_il5 (n := 103) dX12_findBest_101 rfl ?_
            refine w_al0 (n := 104) dX12_findBest_103 rfl ?_
            refine g_I (n := 107) f_X12_256_12 pl_104 dX12_findBest_104 rfl ?_
            rw [dk_put_k (by omega), dk_put_k (by omega), c6_h]
            refine w_ic_le (n := 110) 115 dX12_findBest_107 (by decide) rfl (fun z107_h => ?_) (fun z107_h => ?_)
            · skip
              refine w_al0 (n := 116) dX12_findBest_115 rfl ?_
              refine g_I (n := 119) f_X12_256_12 pl_104 dX12_findBest_116 rfl ?_
              try rw [dk_put_k (by omega), dk_put_k (by omega), c6_h]
              refine p_I (n := 122) f_X12_256_12 pl_104 dX12_findBest_119 rfl ?_
              refine w_inc4 (n := 125) (nI 1) dX12_findBest_122 (by decide) rfl rfl (by decide) ?_
              refine w_goto 24 dX12_findBest_125 (by decide) ?_
              rw [q_le (by omega) (by omega)] at z46_h z85_h z107_h
              try rw [nI_eq (by omega) (by omega)] at z59_h
              rw [nI_add]
              first | (exfalso; omega) | exact key _ _ _ (by first | rw [fb_g (by omega)] | rw [fb_e (by omega)] | rw [fb_l (by omega)]) (by first | rw [fb_g (by omega)] | rw [fb_e (by omega)] | rw [fb_l (by omega)]) (by first | rw [fb_g (by omega)] | (rw [fb_e (by omega), nI_add]) | rw [fb_l (by omega)]) _
            · skip
              refine w_il5 (n := 112) dX12_findBest_110 rfl ?_
              refine w_goto 119 dX12_findBest_112 (by decide) ?_
              try rw [dk_put_k (by omega), dk_put_k (by omega), c6_h]
              refine p_I (n := 122) f_X12_256_12 pl_104 dX12_findBest_119 rfl ?_
              refine w_inc4 (n := 125) (nI 1) dX12_findBest_122 (by decide) rfl rfl (by decide) ?_
              refine w_goto 24 dX12_findBest_125 (by decide) ?_
              rw [q_le (by omega) (by omega)] at z46_h z85_h z107_h
              try rw [nI_eq (by omega) (by omega)] at z59_h
              rw [nI_add]
              first | (exfalso; omega) | exact key _ _ _ (by first | rw [fb_g (by omega)] | rw [fb_e (by omega)] | rw [fb_l (by omega)]) (by first | rw [fb_g (by omega)] | rw [fb_e (by omega)] | rw [fb_l (by omega)]) (by first | rw [fb_g (by omega)] | (rw [fb_e (by omega), nI_add]) | rw [fb_l (by omega)]) _
      · skip
        refine w_iconst (n := 50) (nI 1) dX12_findBest_49 (by decide) rfl ?_
        refine w_goto 75 dX12_findBest_50 (by decide) ?_
        try rw [c7_h]
        refine p_I (n := 78) f_X12_262_12 pl_104 dX12_findBest_75 rfl ?_
        refine w_al0 (n := 79) dX12_findBest_78 rfl ?_
        refine w_il5 (n := 81) dX12_findBest_79 rfl ?_
        refine w_al0 (n := 82) dX12_findBest_81 rfl ?_
        refine g_I (n := 85) f_X12_256_12 pl_104 dX12_findBest_82 rfl ?_
        rw [dk_put_k (by omega), c6_h]
        refine w_ic_le (n := 88) 93 dX12_findBest_85 (by decide) rfl (fun z85_h => ?_) (fun z85_h => ?_)
        · skip
          refine w_al0 (n := 94) dX12_findBest_93 rfl ?_
          refine g_I (n := 97) f_X12_265_12 pl_104 dX12_findBest_94 rfl ?_
          try rw [dk_put_k (by omega), c5_h]
          refine p_I (n := 100) f_X12_265_12 pl_104 dX12_findBest_97 rfl ?_
          refine w_al0 (n := 101) dX12_findBest_100 rfl ?_
          refine w_il5 (n := 103) dX12_findBest_101 rfl ?_
          refine w_al0 (n := 104) dX12_findBest_103 rfl ?_
          refine g_I (n := 107) f_X12_256_12 pl_104 dX12_findBest_104 rfl ?_
          rw [dk_put_k (by omega), dk_put_k (by omega), c6_h]
          refine w_ic_le (n := 110) 115 dX12_findBest_107 (by decide) rfl (fun z107_h => ?_) (fun z107_h => ?_)
          · skip
            refine w_al0 (n := 116) dX12_findBest_115 rfl ?_
            refine g_I (n := 119) f_X12_256_12 pl_104 dX12_findBest_116 rfl ?_
            try rw [dk_put_k (by omega), dk_put_k (by omega), c6_h]
            refine p_I (n := 122) f_X12_256_12 pl_104 dX12_findBest_119 rfl ?_
            refine w_inc4 (n := 125) (nI 1) dX12_findBest_122 (by decide) rfl rfl (by decide) ?_
            refine w_goto 24 dX12_findBest_125 (by decide) ?_
            rw [q_le (by omega) (by omega)] at z46_h z85_h z107_h
            try rw [nI_eq (by omega) (by omega)] at z59_h
            rw [nI_add]
            first | (exfalso; omega) | exact key _ _ _ (by first | rw [fb_g (by omega)] | rw [fb_e (by omega)] | rw [fb_l (by omega)]) (by first | rw [fb_g (by omega)] | rw [fb_e (by omega)] | rw [fb_l (by omega)]) (by first | rw [fb_g (by omega)] | (rw [fb_e (by omega), nI_add]) | rw [fb_l (by omega)]) _
          · skip
            refine w_il5 (n := 112) dX12_findBest_110 rfl ?_
            refine w_goto 119 dX12_findBest_112 (by decide) ?_
            try rw [dk_put_k (by omega), dk_put_k (by omega), c6_h]
            refine p_I (n := 122) f_X12_256_12 pl_104 dX12_findBest_119 rfl ?_
            refine w_inc4 (n := 125) (nI 1) dX12_findBest_122 (by decide) rfl rfl (by decide) ?_
            refine w_goto 24 dX12_findBest_125 (by decide) ?_
            rw [q_le (by omega) (by omega)] at z46_h z85_h z107_h
            try rw [nI_eq (by omega) (by omega)] at z59_h
            rw [nI_add]
            first | (exfalso; omega) | exact key _ _ _ (by first | rw [fb_g (by omega)] | rw [fb_e (by omega)] | rw [fb_l (by omega)]) (by first | rw [fb_g (by omega)] | rw [fb_e (by omega)] | rw [fb_l (by omega)]) (by first | rw [fb_g (by omega)] | (rw [fb_e (by omega), nI_add]) | rw [fb_l (by omega)]) _
        · skip
          refine w_il4 (n := 90) dX12_findBest_88 rfl ?_
          refine w_goto 97 dX12_findBest_90 (by decide) ?_
          try rw [dk_put_k (by omega), c5_h]
          refine p_I (n := 100) f_X12_265_12 pl_104 dX12_findBest_97 rfl ?_
          refine w_al0 (n := 101) dX12_findBest_100 rfl ?_
          refine w_il5 (n := 103) dX12_findBest_101 rfl ?_
          refine w_al0 (n := 104) dX12_findBest_103 rfl ?_
          refine g_I (n := 107) f_X12_256_12 pl_104 dX12_findBest_104 rfl ?_
          rw [dk_put_k (by omega), dk_put_k (by omega), c6_h]
          refine w_ic_le (n := 110) 115 dX12_findBest_107 (by decide) rfl (fun z107_h => ?_) (fun z107_h => ?_)
          · skip
            refine w_al0 (n := 116) dX12_findBest_115 rfl ?_
            refine g_I (n := 119) f_X12_256_12 pl_104 dX12_findBest_116 rfl ?_
            try rw [dk_put_k (by omega), dk_put_k (by omega), c6_h]
            refine p_I (n := 122) f_X12_256_12 pl_104 dX12_findBest_119 rfl ?_
            refine w_inc4 (n := 125) (nI 1) dX12_findBest_122 (by decide) rfl rfl (by decide) ?_
            refine w_goto 24 dX12_findBest_125 (by decide) ?_
            rw [q_le (by omega) (by omega)] at z46_h z85_h z107_h
            try rw [nI_eq (by omega) (by omega)] at z59_h
            rw [nI_add]
            first | (exfalso; omega) | exact key _ _ _ (by first | rw [fb_g (by omega)] | rw [fb_e (by omega)] | rw [fb_l (by omega)]) (by first | rw [fb_g (by omega)] | rw [fb_e (by omega)] | rw [fb_l (by omega)]) (by first | rw [fb_g (by omega)] | (rw [fb_e (by omega), nI_add]) | rw [fb_l (by omega)]) _
          · skip
            refine w_il5 (n := 112) dX12_findBest_110 rfl ?_
            refine w_goto 119 dX12_findBest_112 (by decide) ?_
            try rw [dk_put_k (by omega), dk_put_k (by omega), c6_h]
            refine p_I (n := 122) f_X12_256_12 pl_104 dX12_findBest_119 rfl ?_
            refine w_inc4 (n := 125) (nI 1) dX12_findBest_122 (by decide) rfl rfl (by decide) ?_
            refine w_goto 24 dX12_findBest_125 (by decide) ?_
            rw [q_le (by omega) (by omega)] at z46_h z85_h z107_h
            try rw [nI_eq (by omega) (by omega)] at z59_h
            rw [nI_add]
            first | (exfalso; omega) | exact key _ _ _ (by first | rw [fb_g (by omega)] | rw [fb_e (by omega)] | rw [fb_l (by omega)]) (by first | rw [fb_g (by omega)] | rw [fb_e (by omega)] | rw [fb_l (by omega)]) (by first | rw [fb_g (by omega)] | (rw [fb_e (by omega), nI_add]) | rw [fb_l (by omega)]) _
