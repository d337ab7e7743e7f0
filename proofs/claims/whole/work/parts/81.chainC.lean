set_option maxRecDepth 20000 in
theorem c_anL {d : Nat} {M : dk_Mem} {Q : Option Value → dk_Mem → Prop} {σ : Nat → Nat} (hs : cs σ M) (o : sg_ok σ) {j s : Nat} (hj : j < σ 4) (l64_h : s < 64) (h1_h : ch_any σ j s (σ 4) = true → Q (some (.int 1)) M) (h0_h : ch_any σ j s (σ 4) = false → Q (some (.int 0)) M) : ∀ (n i : Nat), i ≤ σ 4 → σ 4 - i < n → ch_any σ j s i = false → dk_W (d + 1) mX10_isCloseToOne 2 [some (.ref 14), some (.int (nI j)), some (.int (nI s)), some (.int (nI i))] [] M Q := by
  have o4_h := o.2.2.2.1
  intro n
  induction n with
  | zero => intro i _ h; omega
  | succ n ih =>
    intro i hi hn ha
    refine w_il3 (n := 3) dX10_isCloseToOne_2 rfl ?_
    refine w_al0 (n := 4) dX10_isCloseToOne_3 rfl ?_
    refine g_I (n := 7) f_X10_9_10 pl_14 dX10_isCloseToOne_4 rfl ?_
    rw [hs.count]
    refine w_ic_ge (n := 10) 46 dX10_isCloseToOne_7 (by decide) rfl (fun z7_h => ?_) (fun z7_h => ?_)
    · skip
      refine w_iconst (n := 47) (nI 0) dX10_isCloseToOne_46 (by decide) rfl ?_
      refine w_retZ0 dX10_isCloseToOne_47 rfl ?_
      rw [q_le (by omega) (by omega)] at z7_h
      rw [show i = σ 4 by omega] at ha
      exact h0_h ha
    · skip
      have hi4_h : i < σ 4 := by rw [q_le (by omega) (by omega)] at z7_h; omega
      have qa := q_absd _ (show σ (38 + 5 * i) < 6 by have := o.room (h := i) (by omega); omega) _ (show σ (38 + 5 * j) < 6 by have := o.room (h := j) (by omega); omega)
      refine w_il2 (n := 11) dX10_isCloseToOne_10 rfl ?_
      refine w_il3 (n := 12) dX10_isCloseToOne_11 rfl ?_
      refine w_ishr (n := 13) dX10_isCloseToOne_12 rfl ?_
      refine w_iconst (n := 14) (nI 1) dX10_isCloseToOne_13 (by decide) rfl ?_
      refine w_iand (n := 15) dX10_isCloseToOne_14 rfl ?_
      rw [q_bit s l64_h i (by omega)]
      refine w_if_eq (n := 18) 40 dX10_isCloseToOne_15 (by decide) rfl (fun z15_h => ?_) (fun z15_h => ?_)
      · skip
        refine w_inc3 (n := 43) (nI 1) dX10_isCloseToOne_40 (by decide) rfl rfl (by decide) ?_
        refine w_goto 2 dX10_isCloseToOne_43 (by decide) ?_
        rw [nI_add]
        refine ih (i + 1) (by omega) (by omega) ?_
        rw [ch_any, ha, Bool.false_or]
        first | (rw [tb_z z15_h]; rfl) | (have e9_h := qa.mp z35_h; cases e8_h : (decide (σ (38 + 5 * i) ≤ σ (38 + 5 * j) + 1) && decide (σ (38 + 5 * j) ≤ σ (38 + 5 * i) + 1)); (rw [Bool.and_assoc, e8_h, Bool.and_false]); (rw [Bool.and_eq_true, decide_eq_true_eq, decide_eq_true_eq] at e8_h; exact absurd e8_h e9_h))
      · skip
        refine w_al0 (n := 19) dX10_isCloseToOne_18 rfl ?_
        refine g_R (n := 22) f_X10_22_10 pl_14 rf_14_4 dX10_isCloseToOne_19 rfl ?_
        refine w_il3 (n := 23) dX10_isCloseToOne_22 rfl ?_
        refine i_iald (n := 24) pl_17 (j := i) rfl (by omega) (by decide) (hs.room hi4_h) dX10_isCloseToOne_23 rfl ?_
        refine w_al0 (n := 25) dX10_isCloseToOne_24 rfl ?_
        refine g_R (n := 28) f_X10_22_10 pl_14 rf_14_4 dX10_isCloseToOne_25 rfl ?_
        refine w_il1 (n := 29) dX10_isCloseToOne_28 rfl ?_
        refine i_iald (n := 30) pl_17 (j := j) rfl (by omega) (by decide) (hs.room hj) dX10_isCloseToOne_29 rfl ?_
        refine w_isub (n := 31) dX10_isCloseToOne_30 rfl ?_
        refine w_mabs (n := 34) dk_m3_abs_X10_188 (Nat.le_of_ble_eq_true rfl) dX10_isCloseToOne_31 rfl ?_
        refine w_iconst (n := 35) (nI 1) dX10_isCloseToOne_34 (by decide) rfl ?_
        refine w_ic_gt (n := 38) 40 dX10_isCloseToOne_35 (by decide) rfl (fun z35_h => ?_) (fun z35_h => ?_)
        · skip
          refine w_inc3 (n := 43) (nI 1) dX10_isCloseToOne_40 (by decide) rfl rfl (by decide) ?_
          refine w_goto 2 dX10_isCloseToOne_43 (by decide) ?_
          rw [nI_add]
          refine ih (i + 1) (by omega) (by omega) ?_
          rw [ch_any, ha, Bool.false_or]
          first | (rw [tb_z z15_h]; rfl) | (have e9_h := qa.mp z35_h; cases e8_h : (decide (σ (38 + 5 * i) ≤ σ (38 + 5 * j) + 1) && decide (σ (38 + 5 * j) ≤ σ (38 + 5 * i) + 1)); (rw [Bool.and_assoc, e8_h, Bool.and_false]); (rw [Bool.and_eq_true, decide_eq_true_eq, decide_eq_true_eq] at e8_h; exact absurd e8_h e9_h))
        · skip
          refine w_iconst (n := 39) (nI 1) dX10_isCloseToOne_38 (by decide) rfl ?_
          refine w_retZ1 dX10_isCloseToOne_39 rfl ?_
          have e9_h : σ (38 + 5 * i) ≤ σ (38 + 5 * j) + 1 ∧ σ (38 + 5 * j) ≤ σ (38 + 5 * i) + 1 := Decidable.byContradiction (fun z => z35_h (qa.mpr z))
          exact h1_h ((ch_any_e _).mpr ⟨i, hi4_h, tb_nz z15_h, e9_h.1, e9_h.2⟩)

set_option maxRecDepth 20000 in
theorem c10_close {d : Nat} {M : dk_Mem} {Q : Option Value → dk_Mem → Prop} {σ : Nat → Nat} (hs : cs σ M) (o : sg_ok σ) {j s : Nat} (hj : j < σ 4) (l64_h : s < 64) (h1_h : ch_any σ j s (σ 4) = true → Q (some (.int 1)) M) (h0_h : ch_any σ j s (σ 4) = false → Q (some (.int 0)) M) : dk_Call (d + 1) mX10_isCloseToOne [.ref 14, .int (nI j), .int (nI s)] M Q := by
  refine dk_enter [some (.ref 14), some (.int (nI j)), some (.int (nI s)), none] (by decide) (fun _ => rfl) (fun _ => Nat.le_of_ble_eq_true rfl) ?_
  refine w_iconst (n := 1) (nI 0) dX10_isCloseToOne_0 (by decide) rfl ?_
  refine w_is3 (n := 2) dX10_isCloseToOne_1 rfl rfl (by decide) ?_
  exact c_anL hs o hj l64_h h1_h h0_h (σ 4 + 1) 0 (by omega) (by omega) rfl

set_option maxRecDepth 20000 in
theorem c_rdL {d : Nat} {M : dk_Mem} {Q : Option Value → dk_Mem → Prop} {σ : Nat → Nat} (hs : cs σ M) (o : sg_ok σ) (hm : dk_mo 22) (hc : cm 22 σ M) {h0_h : Int32} {r s : Nat} (hs0_h : ch_ok σ s) (hx : dk_W (d + 2) mX10_chainOf 74 [some (.ref 14), some (.int h0_h), some (.int (nI (ch_rd σ (σ 4) s))), some (.int (nI r)), some (.int (nI (σ 4)))] [] M Q) : ∀ (n j : Nat), j ≤ σ 4 → σ 4 - j < n → dk_W (d + 2) mX10_chainOf 30 [some (.ref 14), some (.int h0_h), some (.int (nI (ch_rd σ j s))), some (.int (nI r)), some (.int (nI j))] [] M Q := by
  have o4_h := o.2.2.2.1
  intro n
  induction n with
  | zero => intro j _ h; omega
  | succ n ih =>
    intro j hj hn
    have l64_h := ch_64 o4_h (ch_rd_ok hs0_h j hj)
    refine w_il4 (n := 32) dX10_chainOf_30 rfl ?_
    refine w_al0 (n := 33) dX10_chainOf_32 rfl ?_
    refine g_I (n := 36) f_X10_9_10 pl_14 dX10_chainOf_33 rfl ?_
    rw [hs.count]
    refine w_ic_ge (n := 39) 74 dX10_chainOf_36 (by decide) rfl (fun z36_h => ?_) (fun z36_h => ?_)
    · skip
      rw [q_le (by omega) (by omega)] at z36_h
      rw [show j = σ 4 by omega]
      exact hx
    · skip
      have hj4_h : j < σ 4 := by rw [q_le (by omega) (by omega)] at z36_h; omega
      refine w_al0 (n := 40) dX10_chainOf_39 rfl ?_
      refine g_R (n := 43) f_X10_40_10 pl_14 rf_14_9 dX10_chainOf_40 rfl ?_
      refine w_il4 (n := 45) dX10_chainOf_43 rfl ?_
      refine w_cV1 (n := 48) pl_22 cl_4 s0_X4_isFallen k_X10_125 (Nat.le_of_ble_eq_true rfl) dX10_chainOf_45 rfl (c4_isFallen hm hc o (h := j) (by rw [q_le (by omega) (by omega)] at z36_h; omega) (fun t45_h => ?_) (fun t45_h => ?_))
      · skip
        refine w_if_ne (n := 51) 68 dX10_chainOf_48 (by decide) rfl (fun _ => ?_) (fun h => absurd h (by decide))
        refine w_inc4 (n := 71) (nI 1) dX10_chainOf_68 (by decide) rfl rfl (by decide) ?_
        refine w_goto 30 dX10_chainOf_71 (by decide) ?_
        rw [nI_add]
        have g := ih (j + 1) (by omega) (by omega)
        first | (rw [q_orb _ l64_h j (by omega)]; have e1_h : ch_rd σ (j + 1) s = ch_rd σ j s ||| 2 ^ j := if_pos ⟨t45_h, t55_h⟩; rw [e1_h] at g; exact g) | (have e1_h : ch_rd σ (j + 1) s = ch_rd σ j s := if_neg (fun z => by rw [t55_h] at z; exact absurd z.2 (by decide)); rw [e1_h] at g; exact g) | (have e1_h : ch_rd σ (j + 1) s = ch_rd σ j s := if_neg (fun z => by omega); rw [e1_h] at g; exact g)
      · skip
        refine w_if_ne (n := 51) 68 dX10_chainOf_48 (by decide) rfl (fun h => absurd h (by decide)) (fun _ => ?_)
        refine w_al0 (n := 52) dX10_chainOf_51 rfl ?_
        refine w_il4 (n := 54) dX10_chainOf_52 rfl ?_
        refine w_il2 (n := 55) dX10_chainOf_54 rfl ?_
        refine w_cV2 (n := 58) pl_14 cl_10 s0_X10_isCloseToOne k_X10_185 (Nat.le_of_ble_eq_true rfl) dX10_chainOf_55 rfl (c10_close hs o hj4_h l64_h (fun t55_h => ?_) (fun t55_h => ?_))
        · skip
          refine w_if_eq (n := 61) 68 dX10_chainOf_58 (by decide) rfl (fun h => absurd h (by decide)) (fun _ => ?_)
          refine w_il2 (n := 62) dX10_chainOf_61 rfl ?_
          refine w_iconst (n := 63) (nI 1) dX10_chainOf_62 (by decide) rfl ?_
          refine w_il4 (n := 65) dX10_chainOf_63 rfl ?_
          refine w_ishl (n := 66) dX10_chainOf_65 rfl ?_
          refine w_ior (n := 67) dX10_chainOf_66 rfl ?_
          refine w_is2 (n := 68) dX10_chainOf_67 rfl rfl (by decide) ?_
          refine w_inc4 (n := 71) (nI 1) dX10_chainOf_68 (by decide) rfl rfl (by decide) ?_
          refine w_goto 30 dX10_chainOf_71 (by decide) ?_
          rw [nI_add]
          have g := ih (j + 1) (by omega) (by omega)
          first | (rw [q_orb _ l64_h j (by omega)]; have e1_h : ch_rd σ (j + 1) s = ch_rd σ j s ||| 2 ^ j := if_pos ⟨t45_h, t55_h⟩; rw [e1_h] at g; exact g) | (have e1_h : ch_rd σ (j + 1) s = ch_rd σ j s := if_neg (fun z => by rw [t55_h] at z; exact absurd z.2 (by decide)); rw [e1_h] at g; exact g) | (have e1_h : ch_rd σ (j + 1) s = ch_rd σ j s := if_neg (fun z => by omega); rw [e1_h] at g; exact g)
        · skip
          refine w_if_eq (n := 61) 68 dX10_chainOf_58 (by decide) rfl (fun _ => ?_) (fun h => absurd (by decide) h)
          refine w_inc4 (n := 71) (nI 1) dX10_chainOf_68 (by decide) rfl rfl (by decide) ?_
          refine w_goto 30 dX10_chainOf_71 (by decide) ?_
          rw [nI_add]
          have g := ih (j + 1) (by omega) (by omega)
          first | (rw [q_orb _ l64_h j (by omega)]; have e1_h : ch_rd σ (j + 1) s = ch_rd σ j s ||| 2 ^ j := if_pos ⟨t45_h, t55_h⟩; rw [e1_h] at g; exact g) | (have e1_h : ch_rd σ (j + 1) s = ch_rd σ j s := if_neg (fun z => by rw [t55_h] at z; exact absurd z.2 (by decide)); rw [e1_h] at g; exact g) | (have e1_h : ch_rd σ (j + 1) s = ch_rd σ j s := if_neg (fun z => by omega); rw [e1_h] at g; exact g)

set_option maxRecDepth 20000 in
theorem c_ch74 {d : Nat} {M : dk_Mem} {Q : Option Value → dk_Mem → Prop} {h0_h s0_h : Int32} {r : Nat} {x4_h : Option Value} (hx : dk_W (d + 2) mX10_chainOf 19 [some (.ref 14), some (.int h0_h), some (.int s0_h), some (.int (nI (r + 1))), x4_h] [] M Q) : dk_W (d + 2) mX10_chainOf 74 [some (.ref 14), some (.int h0_h), some (.int s0_h), some (.int (nI r)), x4_h] [] M Q := by
  refine w_inc3 (n := 77) (nI 1) dX10_chainOf_74 (by decide) rfl rfl (by decide) ?_
  refine w_goto 19 dX10_chainOf_77 (by decide) ?_
  rw [nI_add]
  exact hx

set_option maxRecDepth 20000 in
theorem c_chO {d : Nat} {M : dk_Mem} {Q : Option Value → dk_Mem → Prop} {σ : Nat → Nat} (hs : cs σ M) (o : sg_ok σ) (hm : dk_mo 22) (hc : cm 22 σ M) {h0_h : Int32} {s : Nat} (hs0_h : ch_ok σ s) (h4_h : 1 ≤ σ 4) (hq : Q (some (.int (nI (ch_it (ch_rd σ (σ 4)) (σ 4 - 1) s)))) M) : ∀ (n r : Nat) (x4_h : Option Value), r + 1 ≤ σ 4 → σ 4 - r < n → dk_W (d + 2) mX10_chainOf 19 [some (.ref 14), some (.int h0_h), some (.int (nI (ch_it (ch_rd σ (σ 4)) r s))), some (.int (nI (r + 1))), x4_h] [] M Q := by
  have o4_h := o.2.2.2.1
  intro n
  induction n with
  | zero => intro r x4_h _ h; omega
  | succ n ih =>
    intro r x4_h hr hn
    refine w_il3 (n := 20) dX10_chainOf_19 rfl ?_
    refine w_al0 (n := 21) dX10_chainOf_20 rfl ?_
    refine g_I (n := 24) f_X10_9_10 pl_14 dX10_chainOf_21 rfl ?_
    rw [hs.count]
    refine w_ic_ge (n := 27) 80 dX10_chainOf_24 (by decide) rfl (fun z24_h => ?_) (fun z24_h => ?_)
    · skip
      refine w_il2 (n := 81) dX10_chainOf_80 rfl ?_
      refine w_retI dX10_chainOf_81 rfl ?_
      rw [q_le (by omega) (by omega)] at z24_h
      rw [show r = σ 4 - 1 by omega]
      exact hq
    · skip
      refine w_iconst (n := 28) (nI 0) dX10_chainOf_27 (by decide) rfl ?_
      refine w_is4 (n := 30) dX10_chainOf_28 rfl rfl (by decide) ?_
      rw [q_le (by omega) (by omega)] at z24_h
      exact c_rdL hs o hm hc (ch_it_ok (fun t ht => ch_rd_ok ht _ (Nat.le_refl _)) hs0_h r) (c_ch74 (ih (r + 1) _ (by omega) (by omega))) (σ 4 + 1) 0 (by omega) (by omega)

set_option maxRecDepth 20000 in
theorem c10_chainOf {d : Nat} {M : dk_Mem} {Q : Option Value → dk_Mem → Prop} {σ : Nat → Nat} (hs : cs σ M) (o : sg_ok σ) (hm : dk_mo 22) (hc : cm 22 σ M) {h : Nat} (hh : h < σ 4) (hq : Q (some (.int (nI (sg_ch σ h)))) M) : dk_Call (d + 2) mX10_chainOf [.ref 14, .int (nI h)] M Q := by
  rw [← sg_cc_ch o hh] at hq
  have o4_h := o.2.2.2.1
  unfold sg_cc at hq
  refine dk_enter [some (.ref 14), some (.int (nI h)), none, none, none] (by decide) (fun _ => rfl) (fun _ => Nat.le_of_ble_eq_true rfl) ?_
  refine w_al0 (n := 1) dX10_chainOf_0 rfl ?_
  refine g_R (n := 4) f_X10_40_10 pl_14 rf_14_9 dX10_chainOf_1 rfl ?_
  refine w_il1 (n := 5) dX10_chainOf_4 rfl ?_
  refine w_cV1 (n := 8) pl_22 cl_4 s0_X4_isFallen k_X10_125 (Nat.le_of_ble_eq_true rfl) dX10_chainOf_5 rfl (c4_isFallen hm hc o hh (fun t5_h => ?_) (fun t5_h => ?_))
  · skip
    refine w_if_eq (n := 11) 13 dX10_chainOf_8 (by decide) rfl (fun h => absurd h (by decide)) (fun _ => ?_)
    refine w_iconst (n := 12) (nI 0) dX10_chainOf_11 (by decide) rfl ?_
    refine w_retI dX10_chainOf_12 rfl ?_
    rw [if_pos t5_h] at hq
    exact hq
  · skip
    refine w_if_eq (n := 11) 13 dX10_chainOf_8 (by decide) rfl (fun _ => ?_) (fun h => absurd (by decide) h)
    refine w_iconst (n := 14) (nI 1) dX10_chainOf_13 (by decide) rfl ?_
    refine w_il1 (n := 15) dX10_chainOf_14 rfl ?_
    refine w_ishl (n := 16) dX10_chainOf_15 rfl ?_
    refine w_is2 (n := 17) dX10_chainOf_16 rfl rfl (by decide) ?_
    refine w_iconst (n := 18) (nI 1) dX10_chainOf_17 (by decide) rfl ?_
    refine w_is3 (n := 19) dX10_chainOf_18 rfl rfl (by decide) ?_
    rw [if_neg (by omega)] at hq
    rw [q_sh1 h (by omega)]
    exact c_chO hs o hm hc (ch_ok1 o hh (by omega)) (by omega) hq (σ 4 + 1) 0 _ (by omega) (by omega)

set_option maxRecDepth 20000 in
theorem c_loL {d : Nat} {M : dk_Mem} {Q : Option Value → dk_Mem → Prop} {s : Nat} (hs : s < 64) (hq : Q (some (.int (sg_lo s))) M) : ∀ (n k : Nat), k ≤ 6 → 6 - k < n → (∀ j, j < k → s.testBit j = false) → dk_W d mX11_leastOf 2 [some (.int (nI s)), some (.int (nI k))] [] M Q := by
  intro n
  induction n with
  | zero => intro k _ h; omega
  | succ n ih =>
    intro k hk hn ha
    refine w_il1 (n := 3) dX11_leastOf_2 rfl ?_
    refine w_bipush (n := 5) (nI 6) dX11_leastOf_3 (by decide) rfl ?_
    refine w_ic_ge (n := 8) 24 dX11_leastOf_5 (by decide) rfl (fun z5_h => ?_) (fun z5_h => ?_)
    · skip
      refine w_bipush (n := 26) (-3) dX11_leastOf_24 (by decide) rfl ?_
      refine w_retI dX11_leastOf_26 rfl ?_
      rw [q_le (by decide) (by omega)] at z5_h
      rw [sg_lo_n s hs (fun j hj => ha j (by omega))] at hq
      exact hq
    · skip
      have hk6_h : k < 6 := by rw [q_le (by decide) (by omega)] at z5_h; omega
      refine w_il0 (n := 9) dX11_leastOf_8 rfl ?_
      refine w_il1 (n := 10) dX11_leastOf_9 rfl ?_
      refine w_ishr (n := 11) dX11_leastOf_10 rfl ?_
      refine w_iconst (n := 12) (nI 1) dX11_leastOf_11 (by decide) rfl ?_
      refine w_iand (n := 13) dX11_leastOf_12 rfl ?_
      rw [q_bit s hs k hk6_h]
      refine w_if_eq (n := 16) 18 dX11_leastOf_13 (by decide) rfl (fun z13_h => ?_) (fun z13_h => ?_)
      · skip
        refine w_inc1 (n := 21) (nI 1) dX11_leastOf_18 (by decide) rfl rfl (by decide) ?_
        refine w_goto 2 dX11_leastOf_21 (by decide) ?_
        rw [nI_add]
        exact ih (k + 1) (by omega) (by omega) (fun j hj => by rcases (show j < k ∨ j = k by omega) with e | e; exact ha j e; (rw [e]; exact tb_z z13_h))
      · skip
        refine w_il1 (n := 17) dX11_leastOf_16 rfl ?_
        refine w_retI dX11_leastOf_17 rfl ?_
        rw [sg_lo_k s hs k hk6_h (tb_nz z13_h) ha] at hq
        exact hq

set_option maxRecDepth 20000 in
theorem c_leastOf {d : Nat} {M : dk_Mem} {Q : Option Value → dk_Mem → Prop} {s : Nat} (hs : s < 64) (hq : Q (some (.int (sg_lo s))) M) : dk_Call d mX11_leastOf [.int (nI s)] M Q := by
  refine dk_enter [some (.int (nI s)), none] (by decide) (fun _ => rfl) (fun _ => Nat.le_of_ble_eq_true rfl) ?_
  refine w_iconst (n := 1) (nI 0) dX11_leastOf_0 (by decide) rfl ?_
  refine w_is1 (n := 2) dX11_leastOf_1 rfl rfl (by decide) ?_
  exact c_loL hs hq 7 0 (by omega) (by omega) (fun j hj => by omega)

set_option maxRecDepth 20000 in
theorem c_ncL {d : Nat} {M : dk_Mem} {Q : Option Value → dk_Mem → Prop} {σ : Nat → Nat} (hs : cs σ M) (o : sg_ok σ) (hm : dk_mo 22) (hc : cm 22 σ M) (hq : Q (some (.int (nI (sg_nc σ (σ 4))))) M) : ∀ (n k : Nat) (x3_h : Option Value), k ≤ σ 4 → σ 4 - k < n → dk_W (d + 3) mX11_countChains 4 [some (.ref 0), some (.int (nI (sg_nc σ k))), some (.int (nI k)), x3_h] [] M Q := by
  have o4_h := o.2.2.2.1
  intro n
  induction n with
  | zero => intro k x3_h _ h; omega
  | succ n ih =>
    intro k x3_h hk hn
    refine w_il2 (n := 5) dX11_countChains_4 rfl ?_
    refine w_al0 (n := 6) dX11_countChains_5 rfl ?_
    refine g_R (n := 9) f_X11_36_11 pl_0 rf_0_1 dX11_countChains_6 rfl ?_
    refine g_I (n := 12) f_X11_116_10 pl_14 dX11_countChains_9 rfl ?_
    rw [hs.count]
    refine w_ic_ge (n := 15) 41 dX11_countChains_12 (by decide) rfl (fun z12_h => ?_) (fun z12_h => ?_)
    · skip
      refine w_il1 (n := 42) dX11_countChains_41 rfl ?_
      refine w_retI dX11_countChains_42 rfl ?_
      rw [q_le (by omega) (by omega)] at z12_h
      rw [show k = σ 4 by omega]
      exact hq
    · skip
      have hk4_h : k < σ 4 := by rw [q_le (by omega) (by omega)] at z12_h; omega
      have g6_h := sg_ch_64 o hk4_h
      have ge := sg_lo_e _ g6_h.1 k (by omega) g6_h.2
      refine w_al0 (n := 16) dX11_countChains_15 rfl ?_
      refine g_R (n := 19) f_X11_36_11 pl_0 rf_0_1 dX11_countChains_16 rfl ?_
      refine w_il2 (n := 20) dX11_countChains_19 rfl ?_
      refine w_cV1 (n := 23) pl_14 cl_10 s0_X10_chainOf k_X11_248 (Nat.le_of_ble_eq_true rfl) dX11_countChains_20 rfl (c10_chainOf hs o hm hc hk4_h ?_)
      refine w_is3 (n := 24) dX11_countChains_23 rfl rfl (by decide) ?_
      refine w_il3 (n := 25) dX11_countChains_24 rfl ?_
      refine w_cS1 (n := 28) s0_X11_leastOf k_X11_275 (Nat.le_of_ble_eq_true rfl) dX11_countChains_25 rfl (c_leastOf g6_h.1 ?_)
      refine w_il2 (n := 29) dX11_countChains_28 rfl ?_
      refine w_ic_ne (n := 32) 35 dX11_countChains_29 (by decide) rfl (fun z29_h => ?_) (fun z29_h => ?_)
      · skip
        refine w_inc2 (n := 38) (nI 1) dX11_countChains_35 (by decide) rfl rfl (by decide) ?_
        refine w_goto 4 dX11_countChains_38 (by decide) ?_
        rw [nI_add]
        have g := ih (k + 1) (some (.int (nI (sg_ch σ k)))) (by omega) (by omega)
        rw [sg_nc] at g
        first | (rw [if_pos (ge.mp z29_h)] at g; rw [nI_add]; exact g) | (rw [if_neg (fun z => z29_h (ge.mpr z)), Nat.add_zero] at g; exact g)
      · skip
        refine w_inc1 (n := 35) (nI 1) dX11_countChains_32 (by decide) rfl rfl (by decide) ?_
        refine w_inc2 (n := 38) (nI 1) dX11_countChains_35 (by decide) rfl rfl (by decide) ?_
        refine w_goto 4 dX11_countChains_38 (by decide) ?_
        rw [nI_add]
        have g := ih (k + 1) (some (.int (nI (sg_ch σ k)))) (by omega) (by omega)
        rw [sg_nc] at g
        first | (rw [if_pos (ge.mp z29_h)] at g; rw [nI_add]; exact g) | (rw [if_neg (fun z => z29_h (ge.mpr z)), Nat.add_zero] at g; exact g)

set_option maxRecDepth 20000 in
theorem c_countChains {d : Nat} {M : dk_Mem} {Q : Option Value → dk_Mem → Prop} {σ : Nat → Nat} (hs : cs σ M) (o : sg_ok σ) (hm : dk_mo 22) (hc : cm 22 σ M) (hq : Q (some (.int (nI (sg_nc σ (σ 4))))) M) : dk_Call (d + 3) mX11_countChains [.ref 0] M Q := by
  refine dk_enter [some (.ref 0), none, none, none] (by decide) (fun _ => rfl) (fun _ => Nat.le_of_ble_eq_true rfl) ?_
  refine w_iconst (n := 1) (nI 0) dX11_countChains_0 (by decide) rfl ?_
  refine w_is1 (n := 2) dX11_countChains_1 rfl rfl (by decide) ?_
  refine w_iconst (n := 3) (nI 0) dX11_countChains_2 (by decide) rfl ?_
  refine w_is2 (n := 4) dX11_countChains_3 rfl rfl (by decide) ?_
  exact c_ncL hs o hm hc hq (σ 4 + 1) 0 _ (by omega) (by omega)

set_option maxRecDepth 20000 in
theorem C_chains {d : Nat} {M : dk_Mem} {Q : Option Value → dk_Mem → Prop} {K : sg_K} (hK : cK K M) {x : Int32} (hq : Q (some (.int (kf_chains K x))) M) : dk_Call (d + 4) mX11_chains [.ref 0, .int x] M Q := by
  have hK0 := hK
  obtain ⟨⟨o, p1_h, p2_h, p3_h⟩, hs, hc, hb, hcr, hsc, hz, β, hβ, hβ1, hβ2⟩ := hK0
  have o4_h := o.2.2.2.1
  have o16_h := o.2.1
  have hm : dk_mo 22 := Or.inl rfl
  refine dk_enter [some (.ref 0), some (.int x)] (by decide) (fun _ => rfl) (fun _ => Nat.le_of_ble_eq_true rfl) ?_
  refine w_il1 (n := 1) dX11_chains_0 rfl ?_
  refine w_iconst (n := 2) (-1) dX11_chains_1 (by decide) rfl ?_
  refine w_ic_ne (n := 5) 10 dX11_chains_2 (by decide) rfl (fun z2_h => ?_) (fun z2_h => ?_)
  · skip
    refine w_al0 (n := 11) dX11_chains_10 rfl ?_
    refine g_R (n := 14) f_X11_36_11 pl_0 rf_0_1 dX11_chains_11 rfl ?_
    refine w_il1 (n := 15) dX11_chains_14 rfl ?_
    refine w_cV1 (n := 18) pl_14 cl_10 s0_X10_isPiece k_X11_123 (Nat.le_of_ble_eq_true rfl) dX11_chains_15 rfl (c10_isPiece hs o (fun h hh e => ?_) (fun nh => ?_))
    · skip
      subst e
      have h6_h : h < 6 := by omega
      refine w_if_ne (n := 21) 23 dX11_chains_18 (by decide) rfl (fun _ => ?_) (fun h => absurd h (by decide))
      refine w_al0 (n := 24) dX11_chains_23 rfl ?_
      refine g_R (n := 27) f_X11_36_11 pl_0 rf_0_1 dX11_chains_24 rfl ?_
      refine w_il1 (n := 28) dX11_chains_27 rfl ?_
      refine w_cV1 (n := 31) pl_14 cl_10 s0_X10_chainOf k_X11_248 (Nat.le_of_ble_eq_true rfl) dX11_chains_28 rfl (c10_chainOf hs o hm hc hh ?_)
      refine w_retI dX11_chains_31 rfl ?_
      unfold kf_chains at hq
      rw [if_neg z2_h] at hq
      first | (rw [sg_pc_some o4_h hh] at hq; exact hq) | (rw [sg_pc_none o4_h nh] at hq; exact hq)
    · skip
      refine w_if_ne (n := 21) 23 dX11_chains_18 (by decide) rfl (fun h => absurd h (by decide)) (fun _ => ?_)
      refine w_iconst (n := 22) (-1) dX11_chains_21 (by decide) rfl ?_
      refine w_retI dX11_chains_22 rfl ?_
      unfold kf_chains at hq
      rw [if_neg z2_h] at hq
      first | (rw [sg_pc_some o4_h hh] at hq; exact hq) | (rw [sg_pc_none o4_h nh] at hq; exact hq)
  · skip
    refine w_al0 (n := 6) dX11_chains_5 rfl ?_
    refine w_cV0 (n := 9) pl_0 cl_11 s0_X11_countChains k_X11_244 (Nat.le_of_ble_eq_true rfl) dX11_chains_6 rfl (c_countChains hs o hm hc ?_)
    refine w_retI dX11_chains_9 rfl ?_
    rw [show kf_chains K x = nI (sg_nc K.1 (K.1 4)) from if_pos z2_h] at hq
    exact hq
