theorem q_and1 : ∀ y, y < 17 → nI y &&& nI 1 = nI (y % 2) := by decide +kernel
def sg_bits (s : Nat) : Nat := s % 2 + s / 2 % 2 + s / 4 % 2 + s / 8 % 2 + s / 16 % 2 + s / 32 % 2
set_option maxRecDepth 20000 in
theorem j_bits {d : Nat} {M : dk_Mem} {Q : Option Value → dk_Mem → Prop} {s : Nat} (hs : s < 64) (hq : Q (some (.int (nI (sg_bits s)))) M) : dk_Call d mJ6_bitCount_0f7a4 [.int (nI s)] M Q := by
  refine dk_enter [some (.int (nI s))] (by decide) (fun _ => rfl) (fun _ => Nat.le_of_ble_eq_true rfl) ?_
  refine w_il0 (n := 1) dJ6_bitCount_0f7a4_0 rfl ?_
  refine w_il0 (n := 2) dJ6_bitCount_0f7a4_1 rfl ?_
  refine w_iconst (n := 3) (nI 1) dJ6_bitCount_0f7a4_2 (by decide) rfl ?_
  refine w_iushr (n := 4) dJ6_bitCount_0f7a4_3 rfl ?_
  refine w_ldcw (n := 7) in_816 dJ6_bitCount_0f7a4_4 rfl ?_
  refine w_iand (n := 8) dJ6_bitCount_0f7a4_7 rfl ?_
  refine w_isub (n := 9) dJ6_bitCount_0f7a4_8 rfl ?_
  refine w_is0 (n := 10) dJ6_bitCount_0f7a4_9 rfl (by decide) ?_
  refine w_il0 (n := 11) dJ6_bitCount_0f7a4_10 rfl ?_
  refine w_ldcw (n := 14) in_817 dJ6_bitCount_0f7a4_11 rfl ?_
  refine w_iand (n := 15) dJ6_bitCount_0f7a4_14 rfl ?_
  refine w_il0 (n := 16) dJ6_bitCount_0f7a4_15 rfl ?_
  refine w_iconst (n := 17) (nI 2) dJ6_bitCount_0f7a4_16 (by decide) rfl ?_
  refine w_iushr (n := 18) dJ6_bitCount_0f7a4_17 rfl ?_
  refine w_ldcw (n := 21) in_817 dJ6_bitCount_0f7a4_18 rfl ?_
  refine w_iand (n := 22) dJ6_bitCount_0f7a4_21 rfl ?_
  refine w_iadd (n := 23) dJ6_bitCount_0f7a4_22 rfl ?_
  refine w_is0 (n := 24) dJ6_bitCount_0f7a4_23 rfl (by decide) ?_
  refine w_il0 (n := 25) dJ6_bitCount_0f7a4_24 rfl ?_
  refine w_il0 (n := 26) dJ6_bitCount_0f7a4_25 rfl ?_
  refine w_iconst (n := 27) (nI 4) dJ6_bitCount_0f7a4_26 (by decide) rfl ?_
  refine w_iushr (n := 28) dJ6_bitCount_0f7a4_27 rfl ?_
  refine w_iadd (n := 29) dJ6_bitCount_0f7a4_28 rfl ?_
  refine w_ldcw (n := 32) in_818 dJ6_bitCount_0f7a4_29 rfl ?_
  refine w_iand (n := 33) dJ6_bitCount_0f7a4_32 rfl ?_
  refine w_is0 (n := 34) dJ6_bitCount_0f7a4_33 rfl (by decide) ?_
  refine w_il0 (n := 35) dJ6_bitCount_0f7a4_34 rfl ?_
  refine w_il0 (n := 36) dJ6_bitCount_0f7a4_35 rfl ?_
  refine w_bipush (n := 38) (nI 8) dJ6_bitCount_0f7a4_36 (by decide) rfl ?_
  refine w_iushr (n := 39) dJ6_bitCount_0f7a4_38 rfl ?_
  refine w_iadd (n := 40) dJ6_bitCount_0f7a4_39 rfl ?_
  refine w_is0 (n := 41) dJ6_bitCount_0f7a4_40 rfl (by decide) ?_
  refine w_il0 (n := 42) dJ6_bitCount_0f7a4_41 rfl ?_
  refine w_il0 (n := 43) dJ6_bitCount_0f7a4_42 rfl ?_
  refine w_bipush (n := 45) (nI 16) dJ6_bitCount_0f7a4_43 (by decide) rfl ?_
  refine w_iushr (n := 46) dJ6_bitCount_0f7a4_45 rfl ?_
  refine w_iadd (n := 47) dJ6_bitCount_0f7a4_46 rfl ?_
  refine w_is0 (n := 48) dJ6_bitCount_0f7a4_47 rfl (by decide) ?_
  refine w_il0 (n := 49) dJ6_bitCount_0f7a4_48 rfl ?_
  refine w_bipush (n := 51) (nI 63) dJ6_bitCount_0f7a4_49 (by decide) rfl ?_
  refine w_iand (n := 52) dJ6_bitCount_0f7a4_51 rfl ?_
  refine w_retI dJ6_bitCount_0f7a4_52 rfl ?_
  refine dk_q ?_ hq
  clear hq
  revert s
  decide +kernel

set_option maxRecDepth 20000 in
theorem c5_lm {d : Nat} {M : dk_Mem} {Q : Option Value → dk_Mem → Prop} {p w h y : Nat} (hq : Q (some (.int (nI (2 + w)))) M) : dk_Call d mX5_leansMore [.ref p, .int (nI w), .int (nI h), .int (nI y)] M Q := by
  refine dk_enter [some (.ref p), some (.int (nI w)), some (.int (nI h)), some (.int (nI y))] (by decide) (fun _ => rfl) (fun _ => Nat.le_of_ble_eq_true rfl) ?_
  refine w_iconst (n := 1) (nI 2) dX5_leansMore_0 (by decide) rfl ?_
  refine w_il1 (n := 2) dX5_leansMore_1 rfl ?_
  refine w_iadd (n := 3) dX5_leansMore_2 rfl ?_
  refine w_retI dX5_leansMore_3 rfl ?_
  exact dk_q (nI_add 2 w) hq

set_option maxRecDepth 20000 in
theorem c0_lm {d : Nat} {M : dk_Mem} {Q : Option Value → dk_Mem → Prop} {p w h y : Nat} (hq : Q (some (.int (nI 1))) M) : dk_Call d mX0_leansMore [.ref p, .int (nI w), .int (nI h), .int (nI y)] M Q := by
  refine dk_enter [some (.ref p), some (.int (nI w)), some (.int (nI h)), some (.int (nI y))] (by decide) (fun _ => rfl) (fun _ => Nat.le_of_ble_eq_true rfl) ?_
  refine w_iconst (n := 1) (nI 1) dX0_leansMore_0 (by decide) rfl ?_
  refine w_retI dX0_leansMore_1 rfl ?_
  exact hq

set_option maxRecDepth 20000 in
theorem c2_lm {d : Nat} {M : dk_Mem} {Q : Option Value → dk_Mem → Prop} {p ci : Nat} {C : String} {T : u_T} {N : Nat} {ty0 : Nat → FieldType} (hs : dk_is p ci) (hcl : dk_CL ci C T N ty0) {w h y : Nat} (hq : Q (some (.int (nI (4 + 2 * w)))) M) : dk_Call (d + 1) mX2_leansMore [.ref p, .int (nI w), .int (nI h), .int (nI y)] M Q := by
  refine dk_enter [some (.ref p), some (.int (nI w)), some (.int (nI h)), some (.int (nI y))] (by decide) (fun _ => rfl) (fun _ => Nat.le_of_ble_eq_true rfl) ?_
  refine w_iconst (n := 1) (nI 2) dX2_leansMore_0 (by decide) rfl ?_
  refine w_al0 (n := 2) dX2_leansMore_1 rfl ?_
  refine w_il1 (n := 3) dX2_leansMore_2 rfl ?_
  refine w_il2 (n := 4) dX2_leansMore_3 rfl ?_
  refine w_il3 (n := 5) dX2_leansMore_4 rfl ?_
  refine w_cP3 (n := 8) hs hcl s0_X5_leansMore kp_X2_7 (Nat.le_of_ble_eq_true rfl) dX2_leansMore_5 rfl (c5_lm ?_)
  refine w_imul (n := 9) dX2_leansMore_8 rfl ?_
  refine w_retI dX2_leansMore_9 rfl ?_
  exact dk_q (by rw [pk_mul]; congr 1; omega) hq

set_option maxRecDepth 20000 in
theorem c1_lm {d : Nat} {M : dk_Mem} {Q : Option Value → dk_Mem → Prop} {p ci : Nat} {C : String} {T : u_T} {N : Nat} {ty0 : Nat → FieldType} (hs : dk_is p ci) (hcl : dk_CL ci C T N ty0) {w h y : Nat} (hy : y ≤ 16) (hq : Q (some (.int (nI (4 + 2 * w + y / 6)))) M) : dk_Call (d + 2) mX1_leansMore [.ref p, .int (nI w), .int (nI h), .int (nI y)] M Q := by
  refine dk_enter [some (.ref p), some (.int (nI w)), some (.int (nI h)), some (.int (nI y))] (by decide) (fun _ => rfl) (fun _ => Nat.le_of_ble_eq_true rfl) ?_
  refine w_al0 (n := 1) dX1_leansMore_0 rfl ?_
  refine w_il1 (n := 2) dX1_leansMore_1 rfl ?_
  refine w_il2 (n := 3) dX1_leansMore_2 rfl ?_
  refine w_il3 (n := 4) dX1_leansMore_3 rfl ?_
  refine w_cP3 (n := 7) hs hcl s0_X2_leansMore kp_X1_7 (Nat.le_of_ble_eq_true rfl) dX1_leansMore_4 rfl (c2_lm hs hcl ?_)
  refine w_il3 (n := 8) dX1_leansMore_7 rfl ?_
  refine w_bipush (n := 10) (nI 6) dX1_leansMore_8 (by decide) rfl ?_
  refine w_idiv (n := 11) (by decide) dX1_leansMore_10 rfl ?_
  refine w_iadd (n := 12) dX1_leansMore_11 rfl ?_
  refine w_retI dX1_leansMore_12 rfl ?_
  exact dk_q (by rw [q_div6 y (by omega), nI_add]) hq

set_option maxRecDepth 20000 in
theorem c3_lm {d : Nat} {M : dk_Mem} {Q : Option Value → dk_Mem → Prop} {p ci : Nat} {C : String} {T : u_T} {N : Nat} {ty0 : Nat → FieldType} (hs : dk_is p ci) (hcl : dk_CL ci C T N ty0) {w h y : Nat} (hw : w ≤ 3) (hh : h ≤ 3) (hq : Q (some (.int (nI (2 + w - h)))) M) : dk_Call (d + 1) mX3_leansMore [.ref p, .int (nI w), .int (nI h), .int (nI y)] M Q := by
  have q1 := q_ln w (by omega) h (by omega)
  refine dk_enter [some (.ref p), some (.int (nI w)), some (.int (nI h)), some (.int (nI y))] (by decide) (fun _ => rfl) (fun _ => Nat.le_of_ble_eq_true rfl) ?_
  refine w_iconst (n := 1) (nI 0) dX3_leansMore_0 (by decide) rfl ?_
  refine w_al0 (n := 2) dX3_leansMore_1 rfl ?_
  refine w_il1 (n := 3) dX3_leansMore_2 rfl ?_
  refine w_il2 (n := 4) dX3_leansMore_3 rfl ?_
  refine w_il3 (n := 5) dX3_leansMore_4 rfl ?_
  refine w_cP3 (n := 8) hs hcl s0_X5_leansMore kp_X3_7 (Nat.le_of_ble_eq_true rfl) dX3_leansMore_5 rfl (c5_lm ?_)
  refine w_il2 (n := 9) dX3_leansMore_8 rfl ?_
  refine w_isub (n := 10) dX3_leansMore_9 rfl ?_
  refine w_mmax (n := 13) dk_m3_max_X3_11 (Nat.le_of_ble_eq_true rfl) dX3_leansMore_10 rfl ?_
  refine w_retI dX3_leansMore_13 rfl ?_
  refine dk_q ?_ hq
  rw [← nI_add] at *
  split
  · rename_i z; exact q1.1 (Int32.le_of_lt z)
  · rename_i z; first | (by_cases e : 0 ≤ nI 2 + nI w - nI h; (rw [← q1.1 e]; exact (Int32.le_antisymm (Int32.not_lt.mp z) e).symm); (rw [q1.2 e]))

set_option maxRecDepth 20000 in
theorem c9_lm {d : Nat} {M : dk_Mem} {Q : Option Value → dk_Mem → Prop} {p ci : Nat} {C : String} {T : u_T} {N : Nat} {ty0 : Nat → FieldType} (hs : dk_is p ci) (hcl : dk_CL ci C T N ty0) {w h y : Nat} (hw : w ≤ 3) (hh : h ≤ 3) (hy : y ≤ 16) (hq : Q (some (.int (nI (if y % 2 = 1 then 0 else 2 + w - h)))) M) : dk_Call (d + 2) mX9_leansMore [.ref p, .int (nI w), .int (nI h), .int (nI y)] M Q := by
  have q1 := q_and1 y (by omega)
  refine dk_enter [some (.ref p), some (.int (nI w)), some (.int (nI h)), some (.int (nI y))] (by decide) (fun _ => rfl) (fun _ => Nat.le_of_ble_eq_true rfl) ?_
  refine w_il3 (n := 1) dX9_leansMore_0 rfl ?_
  refine w_iconst (n := 2) (nI 1) dX9_leansMore_1 (by decide) rfl ?_
  refine w_iand (n := 3) dX9_leansMore_2 rfl ?_
  refine w_if_eq (n := 6) 10 dX9_leansMore_3 (by decide) rfl (fun z3 => ?_) (fun z3 => ?_)
  · skip
    refine w_al0 (n := 11) dX9_leansMore_10 rfl ?_
    refine w_il1 (n := 12) dX9_leansMore_11 rfl ?_
    refine w_il2 (n := 13) dX9_leansMore_12 rfl ?_
    refine w_il3 (n := 14) dX9_leansMore_13 rfl ?_
    refine w_cP3 (n := 17) hs hcl s0_X3_leansMore kp_X9_7 (Nat.le_of_ble_eq_true rfl) dX9_leansMore_14 rfl (c3_lm hs hcl hw hh ?_)
    refine w_retI dX9_leansMore_17 rfl ?_
    rw [q1] at z3
    first | (rw [if_pos (by rw [q_nz (by omega)] at z3; omega)] at hq; exact hq) | (rw [if_neg (by rw [q_nz (by omega)] at z3; omega)] at hq; exact hq)
  · skip
    refine w_iconst (n := 7) (nI 0) dX9_leansMore_6 (by decide) rfl ?_
    refine w_goto 17 dX9_leansMore_7 (by decide) ?_
    refine w_retI dX9_leansMore_17 rfl ?_
    rw [q1] at z3
    first | (rw [if_pos (by rw [q_nz (by omega)] at z3; omega)] at hq; exact hq) | (rw [if_neg (by rw [q_nz (by omega)] at z3; omega)] at hq; exact hq)

theorem q_b5 : ∀ g, g < 10 → nI 40 - nI 2 * nI g = nI (40 - 2 * g) := by decide +kernel
theorem q_b2 : ∀ g, g < 10 → nI (40 - 2 * g) - nI 8 = nI (32 - 2 * g) := by decide +kernel
theorem q_b1 : ∀ g, g < 10 → nI (32 - 2 * g) + nI g = nI (32 - g) := by decide +kernel
theorem q_b3 : ∀ g, g < 10 → nI (40 - 2 * g) + nI 10 = nI (50 - 2 * g) := by decide +kernel
set_option maxRecDepth 20000 in
theorem c5_br {d : Nat} {M : dk_Mem} {Q : Option Value → dk_Mem → Prop} {p g n : Nat} (hg : g ≤ 9) (hq : Q (some (.int (nI (40 - 2 * g)))) M) : dk_Call d mX5_bears [.ref p, .int (nI g), .int (nI n)] M Q := by
  refine dk_enter [some (.ref p), some (.int (nI g)), some (.int (nI n))] (by decide) (fun _ => rfl) (fun _ => Nat.le_of_ble_eq_true rfl) ?_
  refine w_bipush (n := 2) (nI 40) dX5_bears_0 (by decide) rfl ?_
  refine w_iconst (n := 3) (nI 2) dX5_bears_2 (by decide) rfl ?_
  refine w_il1 (n := 4) dX5_bears_3 rfl ?_
  refine w_imul (n := 5) dX5_bears_4 rfl ?_
  refine w_isub (n := 6) dX5_bears_5 rfl ?_
  refine w_retI dX5_bears_6 rfl ?_
  exact dk_q (q_b5 g (by omega)) hq

set_option maxRecDepth 20000 in
theorem c0_br {d : Nat} {M : dk_Mem} {Q : Option Value → dk_Mem → Prop} {p g n : Nat} (hq : Q (some (.int (nI 95))) M) : dk_Call d mX0_bears [.ref p, .int (nI g), .int (nI n)] M Q := by
  refine dk_enter [some (.ref p), some (.int (nI g)), some (.int (nI n))] (by decide) (fun _ => rfl) (fun _ => Nat.le_of_ble_eq_true rfl) ?_
  refine w_bipush (n := 2) (nI 95) dX0_bears_0 (by decide) rfl ?_
  refine w_retI dX0_bears_2 rfl ?_
  exact hq

set_option maxRecDepth 20000 in
theorem c2_br {d : Nat} {M : dk_Mem} {Q : Option Value → dk_Mem → Prop} {p ci : Nat} {C : String} {T : u_T} {N : Nat} {ty0 : Nat → FieldType} (hs : dk_is p ci) (hcl : dk_CL ci C T N ty0) {g n : Nat} (hg : g ≤ 9) (hq : Q (some (.int (nI (32 - 2 * g)))) M) : dk_Call (d + 1) mX2_bears [.ref p, .int (nI g), .int (nI n)] M Q := by
  refine dk_enter [some (.ref p), some (.int (nI g)), some (.int (nI n))] (by decide) (fun _ => rfl) (fun _ => Nat.le_of_ble_eq_true rfl) ?_
  refine w_al0 (n := 1) dX2_bears_0 rfl ?_
  refine w_il1 (n := 2) dX2_bears_1 rfl ?_
  refine w_il2 (n := 3) dX2_bears_2 rfl ?_
  refine w_cP2 (n := 6) hs hcl s0_X5_bears kp_X2_11 (Nat.le_of_ble_eq_true rfl) dX2_bears_3 rfl (c5_br hg ?_)
  refine w_bipush (n := 8) (nI 8) dX2_bears_6 (by decide) rfl ?_
  refine w_isub (n := 9) dX2_bears_8 rfl ?_
  refine w_retI dX2_bears_9 rfl ?_
  exact dk_q (q_b2 g (by omega)) hq

set_option maxRecDepth 20000 in
theorem c1_br {d : Nat} {M : dk_Mem} {Q : Option Value → dk_Mem → Prop} {p ci : Nat} {C : String} {T : u_T} {N : Nat} {ty0 : Nat → FieldType} (hs : dk_is p ci) (hcl : dk_CL ci C T N ty0) {g n : Nat} (hg : g ≤ 9) (hq : Q (some (.int (nI (32 - g)))) M) : dk_Call (d + 2) mX1_bears [.ref p, .int (nI g), .int (nI n)] M Q := by
  refine dk_enter [some (.ref p), some (.int (nI g)), some (.int (nI n))] (by decide) (fun _ => rfl) (fun _ => Nat.le_of_ble_eq_true rfl) ?_
  refine w_al0 (n := 1) dX1_bears_0 rfl ?_
  refine w_il1 (n := 2) dX1_bears_1 rfl ?_
  refine w_il2 (n := 3) dX1_bears_2 rfl ?_
  refine w_cP2 (n := 6) hs hcl s0_X2_bears kp_X1_11 (Nat.le_of_ble_eq_true rfl) dX1_bears_3 rfl (c2_br hs hcl hg ?_)
  refine w_il1 (n := 7) dX1_bears_6 rfl ?_
  refine w_iadd (n := 8) dX1_bears_7 rfl ?_
  refine w_retI dX1_bears_8 rfl ?_
  exact dk_q (q_b1 g (by omega)) hq

set_option maxRecDepth 20000 in
theorem c3_br {d : Nat} {M : dk_Mem} {Q : Option Value → dk_Mem → Prop} {p ci : Nat} {C : String} {T : u_T} {N : Nat} {ty0 : Nat → FieldType} (hs : dk_is p ci) (hcl : dk_CL ci C T N ty0) {g n : Nat} (hg : g ≤ 9) (hq : Q (some (.int (nI (50 - 2 * g)))) M) : dk_Call (d + 1) mX3_bears [.ref p, .int (nI g), .int (nI n)] M Q := by
  refine dk_enter [some (.ref p), some (.int (nI g)), some (.int (nI n))] (by decide) (fun _ => rfl) (fun _ => Nat.le_of_ble_eq_true rfl) ?_
  refine w_al0 (n := 1) dX3_bears_0 rfl ?_
  refine w_il1 (n := 2) dX3_bears_1 rfl ?_
  refine w_il2 (n := 3) dX3_bears_2 rfl ?_
  refine w_cP2 (n := 6) hs hcl s0_X5_bears kp_X3_17 (Nat.le_of_ble_eq_true rfl) dX3_bears_3 rfl (c5_br hg ?_)
  refine w_bipush (n := 8) (nI 10) dX3_bears_6 (by decide) rfl ?_
  refine w_iadd (n := 9) dX3_bears_8 rfl ?_
  refine w_retI dX3_bears_9 rfl ?_
  exact dk_q (q_b3 g (by omega)) hq

set_option maxRecDepth 20000 in
theorem c9_br {d : Nat} {M : dk_Mem} {Q : Option Value → dk_Mem → Prop} {p ci : Nat} {C : String} {T : u_T} {N : Nat} {ty0 : Nat → FieldType} (hs : dk_is p ci) (hcl : dk_CL ci C T N ty0) {g n : Nat} (hg : g ≤ 9) (hq : Q (some (.int (nI (50 - 2 * g + n)))) M) : dk_Call (d + 2) mX9_bears [.ref p, .int (nI g), .int (nI n)] M Q := by
  refine dk_enter [some (.ref p), some (.int (nI g)), some (.int (nI n))] (by decide) (fun _ => rfl) (fun _ => Nat.le_of_ble_eq_true rfl) ?_
  refine w_al0 (n := 1) dX9_bears_0 rfl ?_
  refine w_il1 (n := 2) dX9_bears_1 rfl ?_
  refine w_il2 (n := 3) dX9_bears_2 rfl ?_
  refine w_cP2 (n := 6) hs hcl s0_X3_bears kp_X9_11 (Nat.le_of_ble_eq_true rfl) dX9_bears_3 rfl (c3_br hs hcl hg ?_)
  refine w_il2 (n := 7) dX9_bears_6 rfl ?_
  refine w_iadd (n := 8) dX9_bears_7 rfl ?_
  refine w_retI dX9_bears_8 rfl ?_
  exact dk_q (nI_add _ _) hq

theorem rf_kinds : ∀ k, k < 6 → dk_rf 1 k = some (2 + 2 * k) := by decide +kernel
theorem w_lm_X10 {d : Nat} {μ : dk_Mt} {pc n : Nat} {L : List (Option Value)} {st : List Value} {M : dk_Mem} {Q : Option Value → dk_Mem → Prop} (h1 : RX10 = μ.1.cls) {k w h y : Nat} (hk : k ≤ 5) (hw : w ≤ 3) (hh : h ≤ 3) (hy : y ≤ 16) (hc : (st.map Value.category).sum ≤ 8) (hd : decode μ.2.1 pc = .ok (.invokevirtual 121, 3)) (hn : pc + 3 = n) (k9 : dk_W (d + 3) μ n L (.int (nI (sg_ln k w h y)) :: st) M Q) : dk_W (d + 3) μ pc L (.int (nI y) :: .int (nI h) :: .int (nI w) :: .ref (2 + 2 * k) :: st) M Q := by
  rcases (show k = 0 ∨ k = 1 ∨ k = 2 ∨ k = 3 ∨ k = 4 ∨ k = 5 by omega) with rfl | rfl | rfl | rfl | rfl | rfl
  · exact w_cU3 (C := RX5) pl_2 cl_5 s0_X5_leansMore (h1 ▸ ku_X10_121_5) hc hd hn (c5_lm k9)
  · exact w_cU3 (C := RX0) pl_4 cl_0 s0_X0_leansMore (h1 ▸ ku_X10_121_0) hc hd hn (c0_lm k9)
  · exact w_cU3 (C := RX2) pl_6 cl_2 s0_X2_leansMore (h1 ▸ ku_X10_121_2) hc hd hn (c2_lm pl_6 cl_2 k9)
  · exact w_cU3 (C := RX1) pl_8 cl_1 s0_X1_leansMore (h1 ▸ ku_X10_121_1) hc hd hn (c1_lm pl_8 cl_1 hy k9)
  · exact w_cU3 (C := RX3) pl_10 cl_3 s0_X3_leansMore (h1 ▸ ku_X10_121_3) hc hd hn (c3_lm pl_10 cl_3 hw hh k9)
  · exact w_cU3 (C := RX9) pl_12 cl_9 s0_X9_leansMore (h1 ▸ ku_X10_121_9) hc hd hn (c9_lm pl_12 cl_9 hw hh hy k9)

theorem w_br_X10 {d : Nat} {μ : dk_Mt} {pc n : Nat} {L : List (Option Value)} {st : List Value} {M : dk_Mem} {Q : Option Value → dk_Mem → Prop} (h1 : RX10 = μ.1.cls) {k g i : Nat} (hk : k ≤ 5) (hg : g ≤ 9) (hc : (st.map Value.category).sum ≤ 8) (hd : decode μ.2.1 pc = .ok (.invokevirtual 104, 3)) (hn : pc + 3 = n) (k9 : dk_W (d + 3) μ n L (.int (nI (sg_br k g i)) :: st) M Q) : dk_W (d + 3) μ pc L (.int (nI i) :: .int (nI g) :: .ref (2 + 2 * k) :: st) M Q := by
  rcases (show k = 0 ∨ k = 1 ∨ k = 2 ∨ k = 3 ∨ k = 4 ∨ k = 5 by omega) with rfl | rfl | rfl | rfl | rfl | rfl
  · exact w_cU2 (C := RX5) pl_2 cl_5 s0_X5_bears (h1 ▸ ku_X10_104_5) hc hd hn (c5_br hg k9)
  · exact w_cU2 (C := RX0) pl_4 cl_0 s0_X0_bears (h1 ▸ ku_X10_104_0) hc hd hn (c0_br k9)
  · exact w_cU2 (C := RX2) pl_6 cl_2 s0_X2_bears (h1 ▸ ku_X10_104_2) hc hd hn (c2_br pl_6 cl_2 hg k9)
  · exact w_cU2 (C := RX1) pl_8 cl_1 s0_X1_bears (h1 ▸ ku_X10_104_1) hc hd hn (c1_br pl_8 cl_1 hg k9)
  · exact w_cU2 (C := RX3) pl_10 cl_3 s0_X3_bears (h1 ▸ ku_X10_104_3) hc hd hn (c3_br pl_10 cl_3 hg k9)
  · exact w_cU2 (C := RX9) pl_12 cl_9 s0_X9_bears (h1 ▸ ku_X10_104_9) hc hd hn (c9_br pl_12 cl_9 hg k9)

theorem w_lm_X7 {d : Nat} {μ : dk_Mt} {pc n : Nat} {L : List (Option Value)} {st : List Value} {M : dk_Mem} {Q : Option Value → dk_Mem → Prop} (h1 : RX7 = μ.1.cls) {k w h y : Nat} (hk : k ≤ 5) (hw : w ≤ 3) (hh : h ≤ 3) (hy : y ≤ 16) (hc : (st.map Value.category).sum ≤ 8) (hd : decode μ.2.1 pc = .ok (.invokevirtual 89, 3)) (hn : pc + 3 = n) (k9 : dk_W (d + 3) μ n L (.int (nI (sg_ln k w h y)) :: st) M Q) : dk_W (d + 3) μ pc L (.int (nI y) :: .int (nI h) :: .int (nI w) :: .ref (2 + 2 * k) :: st) M Q := by
  rcases (show k = 0 ∨ k = 1 ∨ k = 2 ∨ k = 3 ∨ k = 4 ∨ k = 5 by omega) with rfl | rfl | rfl | rfl | rfl | rfl
  · exact w_cU3 (C := RX5) pl_2 cl_5 s0_X5_leansMore (h1 ▸ ku_X7_89_5) hc hd hn (c5_lm k9)
  · exact w_cU3 (C := RX0) pl_4 cl_0 s0_X0_leansMore (h1 ▸ ku_X7_89_0) hc hd hn (c0_lm k9)
  · exact w_cU3 (C := RX2) pl_6 cl_2 s0_X2_leansMore (h1 ▸ ku_X7_89_2) hc hd hn (c2_lm pl_6 cl_2 k9)
  · exact w_cU3 (C := RX1) pl_8 cl_1 s0_X1_leansMore (h1 ▸ ku_X7_89_1) hc hd hn (c1_lm pl_8 cl_1 hy k9)
  · exact w_cU3 (C := RX3) pl_10 cl_3 s0_X3_leansMore (h1 ▸ ku_X7_89_3) hc hd hn (c3_lm pl_10 cl_3 hw hh k9)
  · exact w_cU3 (C := RX9) pl_12 cl_9 s0_X9_leansMore (h1 ▸ ku_X7_89_9) hc hd hn (c9_lm pl_12 cl_9 hw hh hy k9)

theorem w_br_X7 {d : Nat} {μ : dk_Mt} {pc n : Nat} {L : List (Option Value)} {st : List Value} {M : dk_Mem} {Q : Option Value → dk_Mem → Prop} (h1 : RX7 = μ.1.cls) {k g i : Nat} (hk : k ≤ 5) (hg : g ≤ 9) (hc : (st.map Value.category).sum ≤ 8) (hd : decode μ.2.1 pc = .ok (.invokevirtual 69, 3)) (hn : pc + 3 = n) (k9 : dk_W (d + 3) μ n L (.int (nI (sg_br k g i)) :: st) M Q) : dk_W (d + 3) μ pc L (.int (nI i) :: .int (nI g) :: .ref (2 + 2 * k) :: st) M Q := by
  rcases (show k = 0 ∨ k = 1 ∨ k = 2 ∨ k = 3 ∨ k = 4 ∨ k = 5 by omega) with rfl | rfl | rfl | rfl | rfl | rfl
  · exact w_cU2 (C := RX5) pl_2 cl_5 s0_X5_bears (h1 ▸ ku_X7_69_5) hc hd hn (c5_br hg k9)
  · exact w_cU2 (C := RX0) pl_4 cl_0 s0_X0_bears (h1 ▸ ku_X7_69_0) hc hd hn (c0_br k9)
  · exact w_cU2 (C := RX2) pl_6 cl_2 s0_X2_bears (h1 ▸ ku_X7_69_2) hc hd hn (c2_br pl_6 cl_2 hg k9)
  · exact w_cU2 (C := RX1) pl_8 cl_1 s0_X1_bears (h1 ▸ ku_X7_69_1) hc hd hn (c1_br pl_8 cl_1 hg k9)
  · exact w_cU2 (C := RX3) pl_10 cl_3 s0_X3_bears (h1 ▸ ku_X7_69_3) hc hd hn (c3_br pl_10 cl_3 hg k9)
  · exact w_cU2 (C := RX9) pl_12 cl_9 s0_X9_bears (h1 ▸ ku_X7_69_9) hc hd hn (c9_br pl_12 cl_9 hg k9)
