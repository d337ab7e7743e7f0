/-! ===== acts in the component ===== -/
def cTS (P : Nat) (T : at_T) (M : dk_Mem) : Prop := M.1 P 1 = nI T.1 ∧ T.1 ≤ 30 ∧ ∀ i, i < T.1 → M.1 (P + 1) i = T.2 i
def cPc (P h r : Nat) (M : dk_Mem) : Prop := M.1 P 3 = nI h ∧ M.1 P 4 = nI r
def cT1 (P q k : Nat) : Prop := (q = P ∧ k = 1) ∨ q = P + 1
def cT2 (P q k : Nat) : Prop := (q = P ∧ (k = 1 ∨ k = 2)) ∨ q = P + 1
theorem cT12 {P : Nat} {M M' : dk_Mem} (h : dk_fr (cT1 P) M M') : dk_fr (cT2 P) M M' := h.up (fun q k z => by unfold cT1 at z; unfold cT2; omega)
theorem cPc.T1 {P h r : Nat} {M M' : dk_Mem} (hc : cPc P h r M) (hf : dk_fr (cT1 P) M M') : cPc P h r M' := ⟨(hf.2 P 3 (by unfold cT1; omega)).trans hc.1, (hf.2 P 4 (by unfold cT1; omega)).trans hc.2⟩
theorem cPc.T2 {P h r : Nat} {M M' : dk_Mem} (hc : cPc P h r M) (hf : dk_fr (cT2 P) M M') : cPc P h r M' := ⟨(hf.2 P 3 (by unfold cT2; omega)).trans hc.1, (hf.2 P 4 (by unfold cT2; omega)).trans hc.2⟩
theorem cp_T1 {P : Nat} {M M' : dk_Mem} {v : Int32} (hf : dk_fr (cT1 P) M M') (hp : M.1 P 2 = v) : M'.1 P 2 = v := (hf.2 P 2 (by unfold cT1; omega)).trans hp

set_option maxRecDepth 20000 in
theorem c_bg0_0 {d : Nat} {M : dk_Mem} {Q : Option Value → dk_Mem → Prop} (hp : M.1 2 2 = nI 0) {T : at_T} (hT : cTS 2 T M) {b : Nat} (hq : ∀ M2, dk_fr (cT1 2) M M2 → cTS 2 (at_b T b) M2 → Q none M2) : dk_Call d mX5_began [.ref 2, .int (nI b)] M Q := by
  have tl := hT.2.1
  refine dk_enter [some (.ref 2), some (.int (nI b))] (by decide) (fun _ => rfl) (fun _ => Nat.le_of_ble_eq_true rfl) ?_
  refine w_al0 (n := 1) dX5_began_0 rfl ?_
  refine g_Z (n := 4) f_X5_19_5 pl_2 dX5_began_1 rfl ?_
  rw [hp]
  refine w_if_ne (n := 7) 16 dX5_began_4 (by decide) rfl (fun z4_h => ?_) (fun z4_h => ?_)
  · skip
    refine w_ret dX5_began_16 rfl ?_
    first | exact absurd rfl z4_h | (rw [nI_ltI (by omega) (by decide)] at z13_h; have e : at_b T b = T := if_neg (by omega); rw [e] at hq; exact hq M dk_fr.rf hT)
  · skip
    refine w_al0 (n := 8) dX5_began_7 rfl ?_
    refine g_I (n := 11) f_X5_15_5 pl_2 dX5_began_8 rfl ?_
    rw [hT.1]
    refine w_bipush (n := 13) (nI 30) dX5_began_11 (by decide) rfl ?_
    refine w_ic_lt (n := 16) 17 dX5_began_13 (by decide) rfl (fun z13_h => ?_) (fun z13_h => ?_)
    · skip
      refine w_al0 (n := 18) dX5_began_17 rfl ?_
      refine g_R (n := 21) f_X5_9_5 pl_2 rf_2_0 dX5_began_18 rfl ?_
      refine w_al0 (n := 22) dX5_began_21 rfl ?_
      refine g_I (n := 25) f_X5_15_5 pl_2 dX5_began_22 rfl ?_
      refine w_il1 (n := 26) dX5_began_25 rfl ?_
      refine i_iast (n := 27) pl_3 (j := T.1) hT.1 (by rw [nI_ltI (by omega) (by decide)] at z13_h; omega) (by decide) dX5_began_26 rfl ?_
      refine w_al0 (n := 28) dX5_began_27 rfl ?_
      refine w_dup (n := 29) rfl dX5_began_28 rfl ?_
      refine g_I (n := 32) f_X5_15_5 pl_2 dX5_began_29 rfl ?_
      rw [dk_put_k (by omega), hT.1]
      refine w_iconst (n := 33) (nI 1) dX5_began_32 (by decide) rfl ?_
      refine w_iadd (n := 34) dX5_began_33 rfl ?_
      rw [nI_add]
      refine p_I (n := 37) f_X5_15_5 pl_2 dX5_began_34 rfl ?_
      refine w_ret dX5_began_37 rfl ?_
      rw [nI_ltI (by omega) (by decide)] at z13_h
      have e : at_b T b = (T.1 + 1, fun i => if i = T.1 then nI b else T.2 i) := if_pos (by omega)
      rw [e] at hq
      refine hq _ ((dk_fr.rf.put (Or.inr rfl)).put (Or.inl ⟨rfl, rfl⟩)) ⟨dk_put_s, (by show T.1 + 1 ≤ 30; omega), fun i hi => ?_⟩
      have hi2_h : i < T.1 + 1 := hi
      rw [dk_put_k (by omega)]
      by_cases ei : i = T.1
      · rw [ei, dk_put_s]; exact (if_pos rfl).symm
      · rw [dk_put_k (by omega)]; exact (hT.2.2 i (by omega)).trans (if_neg ei).symm
    · skip
      refine w_ret dX5_began_16 rfl ?_
      first | exact absurd rfl z4_h | (rw [nI_ltI (by omega) (by decide)] at z13_h; have e : at_b T b = T := if_neg (by omega); rw [e] at hq; exact hq M dk_fr.rf hT)

set_option maxRecDepth 20000 in
theorem c_bg1_0 {d : Nat} {M : dk_Mem} {Q : Option Value → dk_Mem → Prop} (hp : M.1 2 2 = nI 1) {b : Nat} (hq : Q none M) : dk_Call d mX5_began [.ref 2, .int (nI b)] M Q := by
  refine dk_enter [some (.ref 2), some (.int (nI b))] (by decide) (fun _ => rfl) (fun _ => Nat.le_of_ble_eq_true rfl) ?_
  refine w_al0 (n := 1) dX5_began_0 rfl ?_
  refine g_Z (n := 4) f_X5_19_5 pl_2 dX5_began_1 rfl ?_
  rw [hp]
  refine w_if_ne (n := 7) 16 dX5_began_4 (by decide) rfl (fun z4_h => ?_) (fun z4_h => ?_)
  · skip
    refine w_ret dX5_began_16 rfl ?_
    exact hq
  · skip
    exact absurd z4_h (by decide)

set_option maxRecDepth 20000 in
theorem c_pti_0 {d : Nat} {M : dk_Mem} {Q : Option Value → dk_Mem → Prop} {h r : Nat} (hc : cPc 2 h r M) (hp : M.1 2 2 = nI 0) {T : at_T} (hT : cTS 2 T M) {x : Int32} (hq : ∀ M2, dk_fr (cT1 2) M M2 → cTS 2 (at_b T 10) M2 → Q (some (.int (x * nI 10 - nI h))) M2) : dk_Call (d + 1) mX5_tips [.ref 2, .int x] M Q := by
  refine dk_enter [some (.ref 2), some (.int x)] (by decide) (fun _ => rfl) (fun _ => Nat.le_of_ble_eq_true rfl) ?_
  refine w_al0 (n := 1) dX5_tips_0 rfl ?_
  refine w_bipush (n := 3) (nI 10) dX5_tips_1 (by decide) rfl ?_
  refine w_cU1 (n := 6) (C := RX5) pl_2 cl_5 s0_X5_began ku_X5_29_5 (Nat.le_of_ble_eq_true rfl) dX5_tips_3 rfl (c_bg0_0 hp hT (fun M2 g1_h g2_h => ?_))
  refine w_il1 (n := 7) dX5_tips_6 rfl ?_
  refine w_bipush (n := 9) (nI 10) dX5_tips_7 (by decide) rfl ?_
  refine w_imul (n := 10) dX5_tips_9 rfl ?_
  refine w_al0 (n := 11) dX5_tips_10 rfl ?_
  refine g_I (n := 14) f_X5_23_5 pl_2 dX5_tips_11 rfl ?_
  rw [show M2.1 2 3 = nI h from (g1_h.2 2 3 (by unfold cT1; omega)).trans hc.1]
  refine w_isub (n := 15) dX5_tips_14 rfl ?_
  refine w_retI dX5_tips_15 rfl ?_
  exact hq M2 g1_h g2_h

theorem c_tips_0 {d : Nat} {M : dk_Mem} {Q : Option Value → dk_Mem → Prop} {h r : Nat} (hc : cPc 2 h r M) (hp : M.1 2 2 = nI 0) {T : at_T} (hT : cTS 2 T M) {x : Int32} (hq : ∀ M2, dk_fr (cT1 2) M M2 → cTS 2 ((at_tips h x T 0).2) M2 → Q (some (.int ((at_tips h x T 0).1))) M2) : dk_Call (d + 2) mX5_tips [.ref 2, .int x] M Q := c_pti_0 hc hp hT hq
set_option maxRecDepth 20000 in
theorem c_pta_0 {d : Nat} {M : dk_Mem} {Q : Option Value → dk_Mem → Prop} {h r : Nat} (hc : cPc 2 h r M) (hp : M.1 2 2 = nI 0) {T : at_T} (hT : cTS 2 T M) {x : Int32} (hq : ∀ M2, dk_fr (cT1 2) M M2 → cTS 2 ((at_pt 0 h r x T).2) M2 → Q (some (.int ((at_pt 0 h r x T).1))) M2) : dk_Call (d + 3) mX5_taps [.ref 2, .int x] M Q := by
  refine dk_enter [some (.ref 2), some (.int x)] (by decide) (fun _ => rfl) (fun _ => Nat.le_of_ble_eq_true rfl) ?_
  refine w_al0 (n := 1) dX5_taps_0 rfl ?_
  refine w_bipush (n := 3) (nI 11) dX5_taps_1 (by decide) rfl ?_
  refine w_cU1 (n := 6) (C := RX5) pl_2 cl_5 s0_X5_began ku_X5_29_5 (Nat.le_of_ble_eq_true rfl) dX5_taps_3 rfl (c_bg0_0 hp hT (fun M2 g1_h g2_h => ?_))
  refine w_al0 (n := 7) dX5_taps_6 rfl ?_
  refine w_il1 (n := 8) dX5_taps_7 rfl ?_
  refine w_cU1 (n := 11) (C := RX5) pl_2 cl_5 s0_X5_tips ku_X5_33_5 (Nat.le_of_ble_eq_true rfl) dX5_taps_8 rfl (c_tips_0 (hc.T1 g1_h) (cp_T1 g1_h hp) g2_h (fun M3 g3_h g4_h => ?_))
  refine w_iconst (n := 12) (nI 3) dX5_taps_11 (by decide) rfl ?_
  refine w_al0 (n := 13) dX5_taps_12 rfl ?_
  refine g_I (n := 16) f_X5_26_5 pl_2 dX5_taps_13 rfl ?_
  rw [show M3.1 2 4 = nI r from ((hc.T1 g1_h).T1 g3_h).2]
  refine w_imul (n := 17) dX5_taps_16 rfl ?_
  refine w_iadd (n := 18) dX5_taps_17 rfl ?_
  refine w_retI dX5_taps_18 rfl ?_
  exact hq M3 (g1_h.tr g3_h) g4_h

theorem c_taps_0 {d : Nat} {M : dk_Mem} {Q : Option Value → dk_Mem → Prop} {h r : Nat} (hc : cPc 2 h r M) (hp : M.1 2 2 = nI 0) {T : at_T} (hT : cTS 2 T M) {x : Int32} (hq : ∀ M2, dk_fr (cT1 2) M M2 → cTS 2 ((at_taps h r x T 0).2) M2 → Q (some (.int ((at_taps h r x T 0).1))) M2) : dk_Call (d + 4) mX5_taps [.ref 2, .int x] M Q := c_pta_0 hc hp hT hq
set_option maxRecDepth 20000 in
theorem c_ph_N_0 {d : Nat} {M : dk_Mem} {Q : Option Value → dk_Mem → Prop} {h r : Nat} (hc : cPc 2 h r M) (hp : M.1 2 2 = nI 0) {T : at_T} (hT : cTS 2 T M) {x : Int32} (hz : ¬ at_by h r = 0) (hq : ∀ M2, dk_fr (cT2 2) M M2 → cTS 2 (at_b T 12) M2 → M2.1 2 2 = nI 0 → Q (some (.int (x / at_by h r))) M2) : dk_Call (d + 1) mX5_halves [.ref 2, .int x] M Q := by
  refine dk_enter [some (.ref 2), some (.int x), none] (by decide) (fun _ => rfl) (fun _ => Nat.le_of_ble_eq_true rfl) ?_
  refine w_al0 (n := 1) dX5_halves_0 rfl ?_
  refine w_bipush (n := 3) (nI 12) dX5_halves_1 (by decide) rfl ?_
  refine w_cU1 (n := 6) (C := RX5) pl_2 cl_5 s0_X5_began ku_X5_29_5 (Nat.le_of_ble_eq_true rfl) dX5_halves_3 rfl (c_bg0_0 hp hT (fun M2 g1_h g2_h => ?_))
  refine w_al0 (n := 7) dX5_halves_6 rfl ?_
  refine g_I (n := 10) f_X5_26_5 pl_2 dX5_halves_7 rfl ?_
  rw [show M2.1 2 4 = nI r from (hc.T1 g1_h).2]
  refine w_al0 (n := 11) dX5_halves_10 rfl ?_
  refine g_I (n := 14) f_X5_23_5 pl_2 dX5_halves_11 rfl ?_
  rw [show M2.1 2 3 = nI h from (g1_h.2 2 3 (by unfold cT1; omega)).trans hc.1]
  refine w_isub (n := 15) dX5_halves_14 rfl ?_
  refine w_iconst (n := 16) (nI 4) dX5_halves_15 (by decide) rfl ?_
  refine w_iadd (n := 17) dX5_halves_16 rfl ?_
  rw [show nI r - nI h + nI 4 = at_by h r from rfl]
  refine w_is2 (n := 18) dX5_halves_17 rfl rfl (by decide) ?_
  refine w_il2 (n := 19) dX5_halves_18 rfl ?_
  refine w_if_ne (n := 22) 29 dX5_halves_19 (by decide) rfl (fun z19_h => ?_) (fun z19_h => ?_)
  · skip
    refine w_il1 (n := 30) dX5_halves_29 rfl ?_
    refine w_il2 (n := 31) dX5_halves_30 rfl ?_
    refine w_idiv (n := 32) hz dX5_halves_31 rfl ?_
    refine w_retI dX5_halves_32 rfl ?_
    exact hq M2 (cT12 g1_h) g2_h (cp_T1 g1_h hp)
  · skip
    exact absurd z19_h hz

theorem c_halves_N_0 {d : Nat} {M : dk_Mem} {Q : Option Value → dk_Mem → Prop} {h r : Nat} (hc : cPc 2 h r M) (hp : M.1 2 2 = nI 0) {T : at_T} (hT : cTS 2 T M) {x : Int32} (hz : ¬ at_by h r = 0) (hq : ∀ M2, dk_fr (cT2 2) M M2 → cTS 2 (at_hT false T 0) M2 → M2.1 2 2 = nI 0 → Q (some (.int (at_hv h r x 0))) M2) : dk_Call (d + 3) mX5_halves [.ref 2, .int x] M Q := c_ph_N_0 hc hp hT hz hq
set_option maxRecDepth 20000 in
theorem c_pu_N_0 {d : Nat} {M : dk_Mem} {Q : Option Value → dk_Mem → Prop} {h r : Nat} (hc : cPc 2 h r M) (hp : M.1 2 2 = nI 0) {T : at_T} (hT : cTS 2 T M) {x : Int32} (hz : ¬ at_by h r = 0) (hq : ∀ M2, dk_fr (cT2 2) M M2 → cTS 2 (at_uT false h r x T 0) M2 → M2.1 2 2 = nI 0 → Q (some (.int (at_uv h r x T 0))) M2) : dk_Call (d + 5) mX5_turns [.ref 2, .int x] M Q := by
  refine dk_enter [some (.ref 2), some (.int x)] (by decide) (fun _ => rfl) (fun _ => Nat.le_of_ble_eq_true rfl) ?_
  refine w_al0 (n := 1) dX5_turns_0 rfl ?_
  refine w_bipush (n := 3) (nI 13) dX5_turns_1 (by decide) rfl ?_
  refine w_cU1 (n := 6) (C := RX5) pl_2 cl_5 s0_X5_began ku_X5_29_5 (Nat.le_of_ble_eq_true rfl) dX5_turns_3 rfl (c_bg0_0 hp hT (fun M2 g1_h g2_h => ?_))
  refine w_al0 (n := 7) dX5_turns_6 rfl ?_
  refine w_il1 (n := 8) dX5_turns_7 rfl ?_
  refine w_cU1 (n := 11) (C := RX5) pl_2 cl_5 s0_X5_taps ku_X5_37_5 (Nat.le_of_ble_eq_true rfl) dX5_turns_8 rfl (c_taps_0 (hc.T1 g1_h) (cp_T1 g1_h hp) g2_h (fun M3 g3_h g4_h => ?_))
  refine w_al0 (n := 12) dX5_turns_11 rfl ?_
  refine w_il1 (n := 13) dX5_turns_12 rfl ?_
  refine w_cU1 (n := 16) (C := RX5) pl_2 cl_5 s0_X5_halves ku_X5_40_5 (Nat.le_of_ble_eq_true rfl) dX5_turns_13 rfl (c_halves_N_0 ((hc.T1 g1_h).T1 g3_h) (cp_T1 g3_h (cp_T1 g1_h hp)) g4_h hz (fun M4 g6_h g7_h g8_h => ?_))
  refine w_ixor (n := 17) dX5_turns_16 rfl ?_
  refine w_retI dX5_turns_17 rfl ?_
  exact hq M4 ((cT12 (g1_h.tr g3_h)).tr g6_h) g7_h g8_h

theorem c_turns_N_0 {d : Nat} {M : dk_Mem} {Q : Option Value → dk_Mem → Prop} {h r : Nat} (hc : cPc 2 h r M) (hp : M.1 2 2 = nI 0) {T : at_T} (hT : cTS 2 T M) {x : Int32} (hz : ¬ at_by h r = 0) (hq : ∀ M2, dk_fr (cT2 2) M M2 → cTS 2 (at_rT false h r x T 0) M2 → M2.1 2 2 = nI 0 → Q (some (.int (at_rv h r x T 0))) M2) : dk_Call (d + 6) mX5_turns [.ref 2, .int x] M Q := c_pu_N_0 hc hp hT hz hq
set_option maxRecDepth 20000 in
theorem c_ph_P_0 {d : Nat} {M : dk_Mem} {Q : Option Value → dk_Mem → Prop} {h r : Nat} (hc : cPc 2 h r M) (hp : M.1 2 2 = nI 0) {T : at_T} (hT : cTS 2 T M) {x : Int32} (hz : at_by h r = 0) (hq : ∀ M2, dk_fr (cT2 2) M M2 → cTS 2 (at_b T 12) M2 → M2.1 2 2 = nI 1 → ∀ v, Q (some (.int v)) M2) : dk_Call (d + 1) mX5_halves [.ref 2, .int x] M Q := by
  refine dk_enter [some (.ref 2), some (.int x), none] (by decide) (fun _ => rfl) (fun _ => Nat.le_of_ble_eq_true rfl) ?_
  refine w_al0 (n := 1) dX5_halves_0 rfl ?_
  refine w_bipush (n := 3) (nI 12) dX5_halves_1 (by decide) rfl ?_
  refine w_cU1 (n := 6) (C := RX5) pl_2 cl_5 s0_X5_began ku_X5_29_5 (Nat.le_of_ble_eq_true rfl) dX5_halves_3 rfl (c_bg0_0 hp hT (fun M2 g1_h g2_h => ?_))
  refine w_al0 (n := 7) dX5_halves_6 rfl ?_
  refine g_I (n := 10) f_X5_26_5 pl_2 dX5_halves_7 rfl ?_
  rw [show M2.1 2 4 = nI r from (hc.T1 g1_h).2]
  refine w_al0 (n := 11) dX5_halves_10 rfl ?_
  refine g_I (n := 14) f_X5_23_5 pl_2 dX5_halves_11 rfl ?_
  rw [show M2.1 2 3 = nI h from (g1_h.2 2 3 (by unfold cT1; omega)).trans hc.1]
  refine w_isub (n := 15) dX5_halves_14 rfl ?_
  refine w_iconst (n := 16) (nI 4) dX5_halves_15 (by decide) rfl ?_
  refine w_iadd (n := 17) dX5_halves_16 rfl ?_
  rw [show nI r - nI h + nI 4 = at_by h r from rfl]
  refine w_is2 (n := 18) dX5_halves_17 rfl rfl (by decide) ?_
  refine w_il2 (n := 19) dX5_halves_18 rfl ?_
  refine w_if_ne (n := 22) 29 dX5_halves_19 (by decide) rfl (fun z19_h => ?_) (fun z19_h => ?_)
  · skip
    exact absurd hz z19_h
  · skip
    refine w_al0 (n := 23) dX5_halves_22 rfl ?_
    refine w_iconst (n := 24) (nI 1) dX5_halves_23 (by decide) rfl ?_
    refine p_Z (n := 27) (by decide) f_X5_19_5 pl_2 dX5_halves_24 rfl ?_
    refine w_iconst (n := 28) (nI 0) dX5_halves_27 (by decide) rfl ?_
    refine w_retI dX5_halves_28 rfl ?_
    exact hq _ ((cT12 g1_h).put (Or.inl ⟨rfl, Or.inr rfl⟩)) ⟨by rw [dk_put_k (by omega)]; exact g2_h.1, g2_h.2.1, fun i hi => by rw [dk_put_k (by omega)]; exact g2_h.2.2 i hi⟩ dk_put_s _

theorem c_halves_P_0 {d : Nat} {M : dk_Mem} {Q : Option Value → dk_Mem → Prop} {h r : Nat} (hc : cPc 2 h r M) (hp : M.1 2 2 = nI 0) {T : at_T} (hT : cTS 2 T M) {x : Int32} (hz : at_by h r = 0) (hq : ∀ M2, dk_fr (cT2 2) M M2 → cTS 2 (at_hT true T 0) M2 → M2.1 2 2 = nI 1 → ∀ v, Q (some (.int v)) M2) : dk_Call (d + 3) mX5_halves [.ref 2, .int x] M Q := c_ph_P_0 hc hp hT hz hq
set_option maxRecDepth 20000 in
theorem c_pu_P_0 {d : Nat} {M : dk_Mem} {Q : Option Value → dk_Mem → Prop} {h r : Nat} (hc : cPc 2 h r M) (hp : M.1 2 2 = nI 0) {T : at_T} (hT : cTS 2 T M) {x : Int32} (hz : at_by h r = 0) (hq : ∀ M2, dk_fr (cT2 2) M M2 → cTS 2 (at_uT true h r x T 0) M2 → M2.1 2 2 = nI 1 → ∀ v, Q (some (.int v)) M2) : dk_Call (d + 5) mX5_turns [.ref 2, .int x] M Q := by
  refine dk_enter [some (.ref 2), some (.int x)] (by decide) (fun _ => rfl) (fun _ => Nat.le_of_ble_eq_true rfl) ?_
  refine w_al0 (n := 1) dX5_turns_0 rfl ?_
  refine w_bipush (n := 3) (nI 13) dX5_turns_1 (by decide) rfl ?_
  refine w_cU1 (n := 6) (C := RX5) pl_2 cl_5 s0_X5_began ku_X5_29_5 (Nat.le_of_ble_eq_true rfl) dX5_turns_3 rfl (c_bg0_0 hp hT (fun M2 g1_h g2_h => ?_))
  refine w_al0 (n := 7) dX5_turns_6 rfl ?_
  refine w_il1 (n := 8) dX5_turns_7 rfl ?_
  refine w_cU1 (n := 11) (C := RX5) pl_2 cl_5 s0_X5_taps ku_X5_37_5 (Nat.le_of_ble_eq_true rfl) dX5_turns_8 rfl (c_taps_0 (hc.T1 g1_h) (cp_T1 g1_h hp) g2_h (fun M3 g3_h g4_h => ?_))
  refine w_al0 (n := 12) dX5_turns_11 rfl ?_
  refine w_il1 (n := 13) dX5_turns_12 rfl ?_
  refine w_cU1 (n := 16) (C := RX5) pl_2 cl_5 s0_X5_halves ku_X5_40_5 (Nat.le_of_ble_eq_true rfl) dX5_turns_13 rfl (c_halves_P_0 ((hc.T1 g1_h).T1 g3_h) (cp_T1 g3_h (cp_T1 g1_h hp)) g4_h hz (fun M4 g6_h g7_h g8_h v => ?_))
  refine w_ixor (n := 17) dX5_turns_16 rfl ?_
  refine w_retI dX5_turns_17 rfl ?_
  exact hq M4 ((cT12 (g1_h.tr g3_h)).tr g6_h) g7_h g8_h _

theorem c_turns_P_0 {d : Nat} {M : dk_Mem} {Q : Option Value → dk_Mem → Prop} {h r : Nat} (hc : cPc 2 h r M) (hp : M.1 2 2 = nI 0) {T : at_T} (hT : cTS 2 T M) {x : Int32} (hz : at_by h r = 0) (hq : ∀ M2, dk_fr (cT2 2) M M2 → cTS 2 (at_rT true h r x T 0) M2 → M2.1 2 2 = nI 1 → ∀ v, Q (some (.int v)) M2) : dk_Call (d + 6) mX5_turns [.ref 2, .int x] M Q := c_pu_P_0 hc hp hT hz hq
theorem c_halves_0 {d : Nat} {M : dk_Mem} {Q : Option Value → dk_Mem → Prop} {h r : Nat} (hc : cPc 2 h r M) (hp : M.1 2 2 = nI 0) {T : at_T} (hT : cTS 2 T M) {x : Int32} (hq : ∀ M2 v, dk_fr (cT2 2) M M2 → cTS 2 (at_hT (at_p h r) T 0) M2 → M2.1 2 2 = gbI (at_p h r) → (at_p h r = false → v = at_hv h r x 0) → Q (some (.int v)) M2) : dk_Call (d + 3) mX5_halves [.ref 2, .int x] M Q := by
  by_cases hz : at_by h r = 0
  · have e : at_p h r = true := decide_eq_true hz
    rw [e] at hq
    exact c_halves_P_0 hc hp hT hz (fun M2 a b c v => hq M2 v a b c (fun z => by cases z))
  · have e : at_p h r = false := decide_eq_false hz
    rw [e] at hq
    exact c_halves_N_0 hc hp hT hz (fun M2 a b c => hq M2 _ a b c (fun _ => rfl))

theorem c_turns_0 {d : Nat} {M : dk_Mem} {Q : Option Value → dk_Mem → Prop} {h r : Nat} (hc : cPc 2 h r M) (hp : M.1 2 2 = nI 0) {T : at_T} (hT : cTS 2 T M) {x : Int32} (hq : ∀ M2 v, dk_fr (cT2 2) M M2 → cTS 2 (at_rT (at_p h r) h r x T 0) M2 → M2.1 2 2 = gbI (at_p h r) → (at_p h r = false → v = at_rv h r x T 0) → Q (some (.int v)) M2) : dk_Call (d + 6) mX5_turns [.ref 2, .int x] M Q := by
  by_cases hz : at_by h r = 0
  · have e : at_p h r = true := decide_eq_true hz
    rw [e] at hq
    exact c_turns_P_0 hc hp hT hz (fun M2 a b c v => hq M2 v a b c (fun z => by cases z))
  · have e : at_p h r = false := decide_eq_false hz
    rw [e] at hq
    exact c_turns_N_0 hc hp hT hz (fun M2 a b c => hq M2 _ a b c (fun _ => rfl))

set_option maxRecDepth 20000 in
theorem c_bg0_1 {d : Nat} {M : dk_Mem} {Q : Option Value → dk_Mem → Prop} (hp : M.1 4 2 = nI 0) {T : at_T} (hT : cTS 4 T M) {b : Nat} (hq : ∀ M2, dk_fr (cT1 4) M M2 → cTS 4 (at_b T b) M2 → Q none M2) : dk_Call d mX5_began [.ref 4, .int (nI b)] M Q := by
  have tl := hT.2.1
  refine dk_enter [some (.ref 4), some (.int (nI b))] (by decide) (fun _ => rfl) (fun _ => Nat.le_of_ble_eq_true rfl) ?_
  refine w_al0 (n := 1) dX5_began_0 rfl ?_
  refine g_Z (n := 4) f_X5_19_0 pl_4 dX5_began_1 rfl ?_
  rw [hp]
  refine w_if_ne (n := 7) 16 dX5_began_4 (by decide) rfl (fun z4_h => ?_) (fun z4_h => ?_)
  · skip
    refine w_ret dX5_began_16 rfl ?_
    first | exact absurd rfl z4_h | (rw [nI_ltI (by omega) (by decide)] at z13_h; have e : at_b T b = T := if_neg (by omega); rw [e] at hq; exact hq M dk_fr.rf hT)
  · skip
    refine w_al0 (n := 8) dX5_began_7 rfl ?_
    refine g_I (n := 11) f_X5_15_0 pl_4 dX5_began_8 rfl ?_
    rw [hT.1]
    refine w_bipush (n := 13) (nI 30) dX5_began_11 (by decide) rfl ?_
    refine w_ic_lt (n := 16) 17 dX5_began_13 (by decide) rfl (fun z13_h => ?_) (fun z13_h => ?_)
    · skip
      refine w_al0 (n := 18) dX5_began_17 rfl ?_
      refine g_R (n := 21) f_X5_9_0 pl_4 rf_4_0 dX5_began_18 rfl ?_
      refine w_al0 (n := 22) dX5_began_21 rfl ?_
      refine g_I (n := 25) f_X5_15_0 pl_4 dX5_began_22 rfl ?_
      refine w_il1 (n := 26) dX5_began_25 rfl ?_
      refine i_iast (n := 27) pl_5 (j := T.1) hT.1 (by rw [nI_ltI (by omega) (by decide)] at z13_h; omega) (by decide) dX5_began_26 rfl ?_
      refine w_al0 (n := 28) dX5_began_27 rfl ?_
      refine w_dup (n := 29) rfl dX5_began_28 rfl ?_
      refine g_I (n := 32) f_X5_15_0 pl_4 dX5_began_29 rfl ?_
      rw [dk_put_k (by omega), hT.1]
      refine w_iconst (n := 33) (nI 1) dX5_began_32 (by decide) rfl ?_
      refine w_iadd (n := 34) dX5_began_33 rfl ?_
      rw [nI_add]
      refine p_I (n := 37) f_X5_15_0 pl_4 dX5_began_34 rfl ?_
      refine w_ret dX5_began_37 rfl ?_
      rw [nI_ltI (by omega) (by decide)] at z13_h
      have e : at_b T b = (T.1 + 1, fun i => if i = T.1 then nI b else T.2 i) := if_pos (by omega)
      rw [e] at hq
      refine hq _ ((dk_fr.rf.put (Or.inr rfl)).put (Or.inl ⟨rfl, rfl⟩)) ⟨dk_put_s, (by show T.1 + 1 ≤ 30; omega), fun i hi => ?_⟩
      have hi2_h : i < T.1 + 1 := hi
      rw [dk_put_k (by omega)]
      by_cases ei : i = T.1
      · rw [ei, dk_put_s]; exact (if_pos rfl).symm
      · rw [dk_put_k (by omega)]; exact (hT.2.2 i (by omega)).trans (if_neg ei).symm
    · skip
      refine w_ret dX5_began_16 rfl ?_
      first | exact absurd rfl z4_h | (rw [nI_ltI (by omega) (by decide)] at z13_h; have e : at_b T b = T := if_neg (by omega); rw [e] at hq; exact hq M dk_fr.rf hT)

set_option maxRecDepth 20000 in
theorem c_bg1_1 {d : Nat} {M : dk_Mem} {Q : Option Value → dk_Mem → Prop} (hp : M.1 4 2 = nI 1) {b : Nat} (hq : Q none M) : dk_Call d mX5_began [.ref 4, .int (nI b)] M Q := by
  refine dk_enter [some (.ref 4), some (.int (nI b))] (by decide) (fun _ => rfl) (fun _ => Nat.le_of_ble_eq_true rfl) ?_
  refine w_al0 (n := 1) dX5_began_0 rfl ?_
  refine g_Z (n := 4) f_X5_19_0 pl_4 dX5_began_1 rfl ?_
  rw [hp]
  refine w_if_ne (n := 7) 16 dX5_began_4 (by decide) rfl (fun z4_h => ?_) (fun z4_h => ?_)
  · skip
    refine w_ret dX5_began_16 rfl ?_
    exact hq
  · skip
    exact absurd z4_h (by decide)

set_option maxRecDepth 20000 in
theorem c_pti_1 {d : Nat} {M : dk_Mem} {Q : Option Value → dk_Mem → Prop} {h r : Nat} (hc : cPc 4 h r M) (hp : M.1 4 2 = nI 0) {T : at_T} (hT : cTS 4 T M) {x : Int32} (hq : ∀ M2, dk_fr (cT1 4) M M2 → cTS 4 (at_b T 10) M2 → Q (some (.int (x * nI 10 - nI h))) M2) : dk_Call (d + 1) mX5_tips [.ref 4, .int x] M Q := by
  refine dk_enter [some (.ref 4), some (.int x)] (by decide) (fun _ => rfl) (fun _ => Nat.le_of_ble_eq_true rfl) ?_
  refine w_al0 (n := 1) dX5_tips_0 rfl ?_
  refine w_bipush (n := 3) (nI 10) dX5_tips_1 (by decide) rfl ?_
  refine w_cU1 (n := 6) (C := RX0) pl_4 cl_0 s0_X5_began ku_X5_29_0 (Nat.le_of_ble_eq_true rfl) dX5_tips_3 rfl (c_bg0_1 hp hT (fun M2 g1_h g2_h => ?_))
  refine w_il1 (n := 7) dX5_tips_6 rfl ?_
  refine w_bipush (n := 9) (nI 10) dX5_tips_7 (by decide) rfl ?_
  refine w_imul (n := 10) dX5_tips_9 rfl ?_
  refine w_al0 (n := 11) dX5_tips_10 rfl ?_
  refine g_I (n := 14) f_X5_23_0 pl_4 dX5_tips_11 rfl ?_
  rw [show M2.1 4 3 = nI h from (g1_h.2 4 3 (by unfold cT1; omega)).trans hc.1]
  refine w_isub (n := 15) dX5_tips_14 rfl ?_
  refine w_retI dX5_tips_15 rfl ?_
  exact hq M2 g1_h g2_h

set_option maxRecDepth 20000 in
theorem c_tips_1 {d : Nat} {M : dk_Mem} {Q : Option Value → dk_Mem → Prop} {h r : Nat} (hc : cPc 4 h r M) (hp : M.1 4 2 = nI 0) {T : at_T} (hT : cTS 4 T M) {x : Int32} (hq : ∀ M2, dk_fr (cT1 4) M M2 → cTS 4 ((at_tips h x T 1).2) M2 → Q (some (.int ((at_tips h x T 1).1))) M2) : dk_Call (d + 2) mX0_tips [.ref 4, .int x] M Q := by
  refine dk_enter [some (.ref 4), some (.int x)] (by decide) (fun _ => rfl) (fun _ => Nat.le_of_ble_eq_true rfl) ?_
  refine w_al0 (n := 1) dX0_tips_0 rfl ?_
  refine w_bipush (n := 3) (nI 20) dX0_tips_1 (by decide) rfl ?_
  refine w_cU1 (n := 6) (C := RX0) pl_4 cl_0 s0_X5_began ku_X0_7_0 (Nat.le_of_ble_eq_true rfl) dX0_tips_3 rfl (c_bg0_1 hp hT (fun M2 g1_h g2_h => ?_))
  refine w_al0 (n := 7) dX0_tips_6 rfl ?_
  refine w_il1 (n := 8) dX0_tips_7 rfl ?_
  refine w_cP1 (n := 11) pl_4 cl_0 s0_X5_tips kp_X0_13 (Nat.le_of_ble_eq_true rfl) dX0_tips_8 rfl (c_pti_1 (hc.T1 g1_h) (cp_T1 g1_h hp) g2_h (fun M3 g3_h g4_h => ?_))
  refine w_bipush (n := 13) (nI 30) dX0_tips_11 (by decide) rfl ?_
  refine w_ixor (n := 14) dX0_tips_13 rfl ?_
  refine w_retI dX0_tips_14 rfl ?_
  exact hq M3 (g1_h.tr g3_h) g4_h

set_option maxRecDepth 20000 in
theorem c_pta_1 {d : Nat} {M : dk_Mem} {Q : Option Value → dk_Mem → Prop} {h r : Nat} (hc : cPc 4 h r M) (hp : M.1 4 2 = nI 0) {T : at_T} (hT : cTS 4 T M) {x : Int32} (hq : ∀ M2, dk_fr (cT1 4) M M2 → cTS 4 ((at_pt 1 h r x T).2) M2 → Q (some (.int ((at_pt 1 h r x T).1))) M2) : dk_Call (d + 3) mX5_taps [.ref 4, .int x] M Q := by
  refine dk_enter [some (.ref 4), some (.int x)] (by decide) (fun _ => rfl) (fun _ => Nat.le_of_ble_eq_true rfl) ?_
  refine w_al0 (n := 1) dX5_taps_0 rfl ?_
  refine w_bipush (n := 3) (nI 11) dX5_taps_1 (by decide) rfl ?_
  refine w_cU1 (n := 6) (C := RX0) pl_4 cl_0 s0_X5_began ku_X5_29_0 (Nat.le_of_ble_eq_true rfl) dX5_taps_3 rfl (c_bg0_1 hp hT (fun M2 g1_h g2_h => ?_))
  refine w_al0 (n := 7) dX5_taps_6 rfl ?_
  refine w_il1 (n := 8) dX5_taps_7 rfl ?_
  refine w_cU1 (n := 11) (C := RX0) pl_4 cl_0 s0_X0_tips ku_X5_33_0 (Nat.le_of_ble_eq_true rfl) dX5_taps_8 rfl (c_tips_1 (hc.T1 g1_h) (cp_T1 g1_h hp) g2_h (fun M3 g3_h g4_h => ?_))
  refine w_iconst (n := 12) (nI 3) dX5_taps_11 (by decide) rfl ?_
  refine w_al0 (n := 13) dX5_taps_12 rfl ?_
  refine g_I (n := 16) f_X5_26_0 pl_4 dX5_taps_13 rfl ?_
  rw [show M3.1 4 4 = nI r from ((hc.T1 g1_h).T1 g3_h).2]
  refine w_imul (n := 17) dX5_taps_16 rfl ?_
  refine w_iadd (n := 18) dX5_taps_17 rfl ?_
  refine w_retI dX5_taps_18 rfl ?_
  exact hq M3 (g1_h.tr g3_h) g4_h

theorem c_taps_1 {d : Nat} {M : dk_Mem} {Q : Option Value → dk_Mem → Prop} {h r : Nat} (hc : cPc 4 h r M) (hp : M.1 4 2 = nI 0) {T : at_T} (hT : cTS 4 T M) {x : Int32} (hq : ∀ M2, dk_fr (cT1 4) M M2 → cTS 4 ((at_taps h r x T 1).2) M2 → Q (some (.int ((at_taps h r x T 1).1))) M2) : dk_Call (d + 4) mX5_taps [.ref 4, .int x] M Q := c_pta_1 hc hp hT hq
set_option maxRecDepth 20000 in
theorem c_ph_N_1 {d : Nat} {M : dk_Mem} {Q : Option Value → dk_Mem → Prop} {h r : Nat} (hc : cPc 4 h r M) (hp : M.1 4 2 = nI 0) {T : at_T} (hT : cTS 4 T M) {x : Int32} (hz : ¬ at_by h r = 0) (hq : ∀ M2, dk_fr (cT2 4) M M2 → cTS 4 (at_b T 12) M2 → M2.1 4 2 = nI 0 → Q (some (.int (x / at_by h r))) M2) : dk_Call (d + 1) mX5_halves [.ref 4, .int x] M Q := by
  refine dk_enter [some (.ref 4), some (.int x), none] (by decide) (fun _ => rfl) (fun _ => Nat.le_of_ble_eq_true rfl) ?_
  refine w_al0 (n := 1) dX5_halves_0 rfl ?_
  refine w_bipush (n := 3) (nI 12) dX5_halves_1 (by decide) rfl ?_
  refine w_cU1 (n := 6) (C := RX0) pl_4 cl_0 s0_X5_began ku_X5_29_0 (Nat.le_of_ble_eq_true rfl) dX5_halves_3 rfl (c_bg0_1 hp hT (fun M2 g1_h g2_h => ?_))
  refine w_al0 (n := 7) dX5_halves_6 rfl ?_
  refine g_I (n := 10) f_X5_26_0 pl_4 dX5_halves_7 rfl ?_
  rw [show M2.1 4 4 = nI r from (hc.T1 g1_h).2]
  refine w_al0 (n := 11) dX5_halves_10 rfl ?_
  refine g_I (n := 14) f_X5_23_0 pl_4 dX5_halves_11 rfl ?_
  rw [show M2.1 4 3 = nI h from (g1_h.2 4 3 (by unfold cT1; omega)).trans hc.1]
  refine w_isub (n := 15) dX5_halves_14 rfl ?_
  refine w_iconst (n := 16) (nI 4) dX5_halves_15 (by decide) rfl ?_
  refine w_iadd (n := 17) dX5_halves_16 rfl ?_
  rw [show nI r - nI h + nI 4 = at_by h r from rfl]
  refine w_is2 (n := 18) dX5_halves_17 rfl rfl (by decide) ?_
  refine w_il2 (n := 19) dX5_halves_18 rfl ?_
  refine w_if_ne (n := 22) 29 dX5_halves_19 (by decide) rfl (fun z19_h => ?_) (fun z19_h => ?_)
  · skip
    refine w_il1 (n := 30) dX5_halves_29 rfl ?_
    refine w_il2 (n := 31) dX5_halves_30 rfl ?_
    refine w_idiv (n := 32) hz dX5_halves_31 rfl ?_
    refine w_retI dX5_halves_32 rfl ?_
    exact hq M2 (cT12 g1_h) g2_h (cp_T1 g1_h hp)
  · skip
    exact absurd z19_h hz

theorem c_halves_N_1 {d : Nat} {M : dk_Mem} {Q : Option Value → dk_Mem → Prop} {h r : Nat} (hc : cPc 4 h r M) (hp : M.1 4 2 = nI 0) {T : at_T} (hT : cTS 4 T M) {x : Int32} (hz : ¬ at_by h r = 0) (hq : ∀ M2, dk_fr (cT2 4) M M2 → cTS 4 (at_hT false T 1) M2 → M2.1 4 2 = nI 0 → Q (some (.int (at_hv h r x 1))) M2) : dk_Call (d + 3) mX5_halves [.ref 4, .int x] M Q := c_ph_N_1 hc hp hT hz hq
set_option maxRecDepth 20000 in
theorem c_pu_N_1 {d : Nat} {M : dk_Mem} {Q : Option Value → dk_Mem → Prop} {h r : Nat} (hc : cPc 4 h r M) (hp : M.1 4 2 = nI 0) {T : at_T} (hT : cTS 4 T M) {x : Int32} (hz : ¬ at_by h r = 0) (hq : ∀ M2, dk_fr (cT2 4) M M2 → cTS 4 (at_uT false h r x T 1) M2 → M2.1 4 2 = nI 0 → Q (some (.int (at_uv h r x T 1))) M2) : dk_Call (d + 5) mX5_turns [.ref 4, .int x] M Q := by
  refine dk_enter [some (.ref 4), some (.int x)] (by decide) (fun _ => rfl) (fun _ => Nat.le_of_ble_eq_true rfl) ?_
  refine w_al0 (n := 1) dX5_turns_0 rfl ?_
  refine w_bipush (n := 3) (nI 13) dX5_turns_1 (by decide) rfl ?_
  refine w_cU1 (n := 6) (C := RX0) pl_4 cl_0 s0_X5_began ku_X5_29_0 (Nat.le_of_ble_eq_true rfl) dX5_turns_3 rfl (c_bg0_1 hp hT (fun M2 g1_h g2_h => ?_))
  refine w_al0 (n := 7) dX5_turns_6 rfl ?_
  refine w_il1 (n := 8) dX5_turns_7 rfl ?_
  refine w_cU1 (n := 11) (C := RX0) pl_4 cl_0 s0_X5_taps ku_X5_37_0 (Nat.le_of_ble_eq_true rfl) dX5_turns_8 rfl (c_taps_1 (hc.T1 g1_h) (cp_T1 g1_h hp) g2_h (fun M3 g3_h g4_h => ?_))
  refine w_al0 (n := 12) dX5_turns_11 rfl ?_
  refine w_il1 (n := 13) dX5_turns_12 rfl ?_
  refine w_cU1 (n := 16) (C := RX0) pl_4 cl_0 s0_X5_halves ku_X5_40_0 (Nat.le_of_ble_eq_true rfl) dX5_turns_13 rfl (c_halves_N_1 ((hc.T1 g1_h).T1 g3_h) (cp_T1 g3_h (cp_T1 g1_h hp)) g4_h hz (fun M4 g6_h g7_h g8_h => ?_))
  refine w_ixor (n := 17) dX5_turns_16 rfl ?_
  refine w_retI dX5_turns_17 rfl ?_
  exact hq M4 ((cT12 (g1_h.tr g3_h)).tr g6_h) g7_h g8_h

theorem c_turns_N_1 {d : Nat} {M : dk_Mem} {Q : Option Value → dk_Mem → Prop} {h r : Nat} (hc : cPc 4 h r M) (hp : M.1 4 2 = nI 0) {T : at_T} (hT : cTS 4 T M) {x : Int32} (hz : ¬ at_by h r = 0) (hq : ∀ M2, dk_fr (cT2 4) M M2 → cTS 4 (at_rT false h r x T 1) M2 → M2.1 4 2 = nI 0 → Q (some (.int (at_rv h r x T 1))) M2) : dk_Call (d + 6) mX5_turns [.ref 4, .int x] M Q := c_pu_N_1 hc hp hT hz hq
set_option maxRecDepth 20000 in
theorem c_ph_P_1 {d : Nat} {M : dk_Mem} {Q : Option Value → dk_Mem → Prop} {h r : Nat} (hc : cPc 4 h r M) (hp : M.1 4 2 = nI 0) {T : at_T} (hT : cTS 4 T M) {x : Int32} (hz : at_by h r = 0) (hq : ∀ M2, dk_fr (cT2 4) M M2 → cTS 4 (at_b T 12) M2 → M2.1 4 2 = nI 1 → ∀ v, Q (some (.int v)) M2) : dk_Call (d + 1) mX5_halves [.ref 4, .int x] M Q := by
  refine dk_enter [some (.ref 4), some (.int x), none] (by decide) (fun _ => rfl) (fun _ => Nat.le_of_ble_eq_true rfl) ?_
  refine w_al0 (n := 1) dX5_halves_0 rfl ?_
  refine w_bipush (n := 3) (nI 12) dX5_halves_1 (by decide) rfl ?_
  refine w_cU1 (n := 6) (C := RX0) pl_4 cl_0 s0_X5_began ku_X5_29_0 (Nat.le_of_ble_eq_true rfl) dX5_halves_3 rfl (c_bg0_1 hp hT (fun M2 g1_h g2_h => ?_))
  refine w_al0 (n := 7) dX5_halves_6 rfl ?_
  refine g_I (n := 10) f_X5_26_0 pl_4 dX5_halves_7 rfl ?_
  rw [show M2.1 4 4 = nI r from (hc.T1 g1_h).2]
  refine w_al0 (n := 11) dX5_halves_10 rfl ?_
  refine g_I (n := 14) f_X5_23_0 pl_4 dX5_halves_11 rfl ?_
  rw [show M2.1 4 3 = nI h from (g1_h.2 4 3 (by unfold cT1; omega)).trans hc.1]
  refine w_isub (n := 15) dX5_halves_14 rfl ?_
  refine w_iconst (n := 16) (nI 4) dX5_halves_15 (by decide) rfl ?_
  refine w_iadd (n := 17) dX5_halves_16 rfl ?_
  rw [show nI r - nI h + nI 4 = at_by h r from rfl]
  refine w_is2 (n := 18) dX5_halves_17 rfl rfl (by decide) ?_
  refine w_il2 (n := 19) dX5_halves_18 rfl ?_
  refine w_if_ne (n := 22) 29 dX5_halves_19 (by decide) rfl (fun z19_h => ?_) (fun z19_h => ?_)
  · skip
    exact absurd hz z19_h
  · skip
    refine w_al0 (n := 23) dX5_halves_22 rfl ?_
    refine w_iconst (n := 24) (nI 1) dX5_halves_23 (by decide) rfl ?_
    refine p_Z (n := 27) (by decide) f_X5_19_0 pl_4 dX5_halves_24 rfl ?_
    refine w_iconst (n := 28) (nI 0) dX5_halves_27 (by decide) rfl ?_
    refine w_retI dX5_halves_28 rfl ?_
    exact hq _ ((cT12 g1_h).put (Or.inl ⟨rfl, Or.inr rfl⟩)) ⟨by rw [dk_put_k (by omega)]; exact g2_h.1, g2_h.2.1, fun i hi => by rw [dk_put_k (by omega)]; exact g2_h.2.2 i hi⟩ dk_put_s _

theorem c_halves_P_1 {d : Nat} {M : dk_Mem} {Q : Option Value → dk_Mem → Prop} {h r : Nat} (hc : cPc 4 h r M) (hp : M.1 4 2 = nI 0) {T : at_T} (hT : cTS 4 T M) {x : Int32} (hz : at_by h r = 0) (hq : ∀ M2, dk_fr (cT2 4) M M2 → cTS 4 (at_hT true T 1) M2 → M2.1 4 2 = nI 1 → ∀ v, Q (some (.int v)) M2) : dk_Call (d + 3) mX5_halves [.ref 4, .int x] M Q := c_ph_P_1 hc hp hT hz hq
set_option maxRecDepth 20000 in
theorem c_pu_P_1 {d : Nat} {M : dk_Mem} {Q : Option Value → dk_Mem → Prop} {h r : Nat} (hc : cPc 4 h r M) (hp : M.1 4 2 = nI 0) {T : at_T} (hT : cTS 4 T M) {x : Int32} (hz : at_by h r = 0) (hq : ∀ M2, dk_fr (cT2 4) M M2 → cTS 4 (at_uT true h r x T 1) M2 → M2.1 4 2 = nI 1 → ∀ v, Q (some (.int v)) M2) : dk_Call (d + 5) mX5_turns [.ref 4, .int x] M Q := by
  refine dk_enter [some (.ref 4), some (.int x)] (by decide) (fun _ => rfl) (fun _ => Nat.le_of_ble_eq_true rfl) ?_
  refine w_al0 (n := 1) dX5_turns_0 rfl ?_
  refine w_bipush (n := 3) (nI 13) dX5_turns_1 (by decide) rfl ?_
  refine w_cU1 (n := 6) (C := RX0) pl_4 cl_0 s0_X5_began ku_X5_29_0 (Nat.le_of_ble_eq_true rfl) dX5_turns_3 rfl (c_bg0_1 hp hT (fun M2 g1_h g2_h => ?_))
  refine w_al0 (n := 7) dX5_turns_6 rfl ?_
  refine w_il1 (n := 8) dX5_turns_7 rfl ?_
  refine w_cU1 (n := 11) (C := RX0) pl_4 cl_0 s0_X5_taps ku_X5_37_0 (Nat.le_of_ble_eq_true rfl) dX5_turns_8 rfl (c_taps_1 (hc.T1 g1_h) (cp_T1 g1_h hp) g2_h (fun M3 g3_h g4_h => ?_))
  refine w_al0 (n := 12) dX5_turns_11 rfl ?_
  refine w_il1 (n := 13) dX5_turns_12 rfl ?_
  refine w_cU1 (n := 16) (C := RX0) pl_4 cl_0 s0_X5_halves ku_X5_40_0 (Nat.le_of_ble_eq_true rfl) dX5_turns_13 rfl (c_halves_P_1 ((hc.T1 g1_h).T1 g3_h) (cp_T1 g3_h (cp_T1 g1_h hp)) g4_h hz (fun M4 g6_h g7_h g8_h v => ?_))
  refine w_ixor (n := 17) dX5_turns_16 rfl ?_
  refine w_retI dX5_turns_17 rfl ?_
  exact hq M4 ((cT12 (g1_h.tr g3_h)).tr g6_h) g7_h g8_h _

theorem c_turns_P_1 {d : Nat} {M : dk_Mem} {Q : Option Value → dk_Mem → Prop} {h r : Nat} (hc : cPc 4 h r M) (hp : M.1 4 2 = nI 0) {T : at_T} (hT : cTS 4 T M) {x : Int32} (hz : at_by h r = 0) (hq : ∀ M2, dk_fr (cT2 4) M M2 → cTS 4 (at_rT true h r x T 1) M2 → M2.1 4 2 = nI 1 → ∀ v, Q (some (.int v)) M2) : dk_Call (d + 6) mX5_turns [.ref 4, .int x] M Q := c_pu_P_1 hc hp hT hz hq
theorem c_halves_1 {d : Nat} {M : dk_Mem} {Q : Option Value → dk_Mem → Prop} {h r : Nat} (hc : cPc 4 h r M) (hp : M.1 4 2 = nI 0) {T : at_T} (hT : cTS 4 T M) {x : Int32} (hq : ∀ M2 v, dk_fr (cT2 4) M M2 → cTS 4 (at_hT (at_p h r) T 1) M2 → M2.1 4 2 = gbI (at_p h r) → (at_p h r = false → v = at_hv h r x 1) → Q (some (.int v)) M2) : dk_Call (d + 3) mX5_halves [.ref 4, .int x] M Q := by
  by_cases hz : at_by h r = 0
  · have e : at_p h r = true := decide_eq_true hz
    rw [e] at hq
    exact c_halves_P_1 hc hp hT hz (fun M2 a b c v => hq M2 v a b c (fun z => by cases z))
  · have e : at_p h r = false := decide_eq_false hz
    rw [e] at hq
    exact c_halves_N_1 hc hp hT hz (fun M2 a b c => hq M2 _ a b c (fun _ => rfl))

theorem c_turns_1 {d : Nat} {M : dk_Mem} {Q : Option Value → dk_Mem → Prop} {h r : Nat} (hc : cPc 4 h r M) (hp : M.1 4 2 = nI 0) {T : at_T} (hT : cTS 4 T M) {x : Int32} (hq : ∀ M2 v, dk_fr (cT2 4) M M2 → cTS 4 (at_rT (at_p h r) h r x T 1) M2 → M2.1 4 2 = gbI (at_p h r) → (at_p h r = false → v = at_rv h r x T 1) → Q (some (.int v)) M2) : dk_Call (d + 6) mX5_turns [.ref 4, .int x] M Q := by
  by_cases hz : at_by h r = 0
  · have e : at_p h r = true := decide_eq_true hz
    rw [e] at hq
    exact c_turns_P_1 hc hp hT hz (fun M2 a b c v => hq M2 v a b c (fun z => by cases z))
  · have e : at_p h r = false := decide_eq_false hz
    rw [e] at hq
    exact c_turns_N_1 hc hp hT hz (fun M2 a b c => hq M2 _ a b c (fun _ => rfl))

set_option maxRecDepth 20000 in
theorem c_bg0_2 {d : Nat} {M : dk_Mem} {Q : Option Value → dk_Mem → Prop} (hp : M.1 6 2 = nI 0) {T : at_T} (hT : cTS 6 T M) {b : Nat} (hq : ∀ M2, dk_fr (cT1 6) M M2 → cTS 6 (at_b T b) M2 → Q none M2) : dk_Call d mX5_began [.ref 6, .int (nI b)] M Q := by
  have tl := hT.2.1
  refine dk_enter [some (.ref 6), some (.int (nI b))] (by decide) (fun _ => rfl) (fun _ => Nat.le_of_ble_eq_true rfl) ?_
  refine w_al0 (n := 1) dX5_began_0 rfl ?_
  refine g_Z (n := 4) f_X5_19_2 pl_6 dX5_began_1 rfl ?_
  rw [hp]
  refine w_if_ne (n := 7) 16 dX5_began_4 (by decide) rfl (fun z4_h => ?_) (fun z4_h => ?_)
  · skip
    refine w_ret dX5_began_16 rfl ?_
    first | exact absurd rfl z4_h | (rw [nI_ltI (by omega) (by decide)] at z13_h; have e : at_b T b = T := if_neg (by omega); rw [e] at hq; exact hq M dk_fr.rf hT)
  · skip
    refine w_al0 (n := 8) dX5_began_7 rfl ?_
    refine g_I (n := 11) f_X5_15_2 pl_6 dX5_began_8 rfl ?_
    rw [hT.1]
    refine w_bipush (n := 13) (nI 30) dX5_began_11 (by decide) rfl ?_
    refine w_ic_lt (n := 16) 17 dX5_began_13 (by decide) rfl (fun z13_h => ?_) (fun z13_h => ?_)
    · skip
      refine w_al0 (n := 18) dX5_began_17 rfl ?_
      refine g_R (n := 21) f_X5_9_2 pl_6 rf_6_0 dX5_began_18 rfl ?_
      refine w_al0 (n := 22) dX5_began_21 rfl ?_
      refine g_I (n := 25) f_X5_15_2 pl_6 dX5_began_22 rfl ?_
      refine w_il1 (n := 26) dX5_began_25 rfl ?_
      refine i_iast (n := 27) pl_7 (j := T.1) hT.1 (by rw [nI_ltI (by omega) (by decide)] at z13_h; omega) (by decide) dX5_began_26 rfl ?_
      refine w_al0 (n := 28) dX5_began_27 rfl ?_
      refine w_dup (n := 29) rfl dX5_began_28 rfl ?_
      refine g_I (n := 32) f_X5_15_2 pl_6 dX5_began_29 rfl ?_
      rw [dk_put_k (by omega), hT.1]
      refine w_iconst (n := 33) (nI 1) dX5_began_32 (by decide) rfl ?_
      refine w_iadd (n := 34) dX5_began_33 rfl ?_
      rw [nI_add]
      refine p_I (n := 37) f_X5_15_2 pl_6 dX5_began_34 rfl ?_
      refine w_ret dX5_began_37 rfl ?_
      rw [nI_ltI (by omega) (by decide)] at z13_h
      have e : at_b T b = (T.1 + 1, fun i => if i = T.1 then nI b else T.2 i) := if_pos (by omega)
      rw [e] at hq
      refine hq _ ((dk_fr.rf.put (Or.inr rfl)).put (Or.inl ⟨rfl, rfl⟩)) ⟨dk_put_s, (by show T.1 + 1 ≤ 30; omega), fun i hi => ?_⟩
      have hi2_h : i < T.1 + 1 := hi
      rw [dk_put_k (by omega)]
      by_cases ei : i = T.1
      · rw [ei, dk_put_s]; exact (if_pos rfl).symm
      · rw [dk_put_k (by omega)]; exact (hT.2.2 i (by omega)).trans (if_neg ei).symm
    · skip
      refine w_ret dX5_began_16 rfl ?_
      first | exact absurd rfl z4_h | (rw [nI_ltI (by omega) (by decide)] at z13_h; have e : at_b T b = T := if_neg (by omega); rw [e] at hq; exact hq M dk_fr.rf hT)

set_option maxRecDepth 20000 in
theorem c_bg1_2 {d : Nat} {M : dk_Mem} {Q : Option Value → dk_Mem → Prop} (hp : M.1 6 2 = nI 1) {b : Nat} (hq : Q none M) : dk_Call d mX5_began [.ref 6, .int (nI b)] M Q := by
  refine dk_enter [some (.ref 6), some (.int (nI b))] (by decide) (fun _ => rfl) (fun _ => Nat.le_of_ble_eq_true rfl) ?_
  refine w_al0 (n := 1) dX5_began_0 rfl ?_
  refine g_Z (n := 4) f_X5_19_2 pl_6 dX5_began_1 rfl ?_
  rw [hp]
  refine w_if_ne (n := 7) 16 dX5_began_4 (by decide) rfl (fun z4_h => ?_) (fun z4_h => ?_)
  · skip
    refine w_ret dX5_began_16 rfl ?_
    exact hq
  · skip
    exact absurd z4_h (by decide)

set_option maxRecDepth 20000 in
theorem c_pti_2 {d : Nat} {M : dk_Mem} {Q : Option Value → dk_Mem → Prop} {h r : Nat} (hc : cPc 6 h r M) (hp : M.1 6 2 = nI 0) {T : at_T} (hT : cTS 6 T M) {x : Int32} (hq : ∀ M2, dk_fr (cT1 6) M M2 → cTS 6 (at_b T 10) M2 → Q (some (.int (x * nI 10 - nI h))) M2) : dk_Call (d + 1) mX5_tips [.ref 6, .int x] M Q := by
  refine dk_enter [some (.ref 6), some (.int x)] (by decide) (fun _ => rfl) (fun _ => Nat.le_of_ble_eq_true rfl) ?_
  refine w_al0 (n := 1) dX5_tips_0 rfl ?_
  refine w_bipush (n := 3) (nI 10) dX5_tips_1 (by decide) rfl ?_
  refine w_cU1 (n := 6) (C := RX2) pl_6 cl_2 s0_X5_began ku_X5_29_2 (Nat.le_of_ble_eq_true rfl) dX5_tips_3 rfl (c_bg0_2 hp hT (fun M2 g1_h g2_h => ?_))
  refine w_il1 (n := 7) dX5_tips_6 rfl ?_
  refine w_bipush (n := 9) (nI 10) dX5_tips_7 (by decide) rfl ?_
  refine w_imul (n := 10) dX5_tips_9 rfl ?_
  refine w_al0 (n := 11) dX5_tips_10 rfl ?_
  refine g_I (n := 14) f_X5_23_2 pl_6 dX5_tips_11 rfl ?_
  rw [show M2.1 6 3 = nI h from (g1_h.2 6 3 (by unfold cT1; omega)).trans hc.1]
  refine w_isub (n := 15) dX5_tips_14 rfl ?_
  refine w_retI dX5_tips_15 rfl ?_
  exact hq M2 g1_h g2_h

theorem c_tips_2 {d : Nat} {M : dk_Mem} {Q : Option Value → dk_Mem → Prop} {h r : Nat} (hc : cPc 6 h r M) (hp : M.1 6 2 = nI 0) {T : at_T} (hT : cTS 6 T M) {x : Int32} (hq : ∀ M2, dk_fr (cT1 6) M M2 → cTS 6 ((at_tips h x T 2).2) M2 → Q (some (.int ((at_tips h x T 2).1))) M2) : dk_Call (d + 2) mX5_tips [.ref 6, .int x] M Q := c_pti_2 hc hp hT hq
set_option maxRecDepth 20000 in
theorem c_pta_2 {d : Nat} {M : dk_Mem} {Q : Option Value → dk_Mem → Prop} {h r : Nat} (hc : cPc 6 h r M) (hp : M.1 6 2 = nI 0) {T : at_T} (hT : cTS 6 T M) {x : Int32} (hq : ∀ M2, dk_fr (cT1 6) M M2 → cTS 6 ((at_pt 2 h r x T).2) M2 → Q (some (.int ((at_pt 2 h r x T).1))) M2) : dk_Call (d + 3) mX5_taps [.ref 6, .int x] M Q := by
  refine dk_enter [some (.ref 6), some (.int x)] (by decide) (fun _ => rfl) (fun _ => Nat.le_of_ble_eq_true rfl) ?_
  refine w_al0 (n := 1) dX5_taps_0 rfl ?_
  refine w_bipush (n := 3) (nI 11) dX5_taps_1 (by decide) rfl ?_
  refine w_cU1 (n := 6) (C := RX2) pl_6 cl_2 s0_X5_began ku_X5_29_2 (Nat.le_of_ble_eq_true rfl) dX5_taps_3 rfl (c_bg0_2 hp hT (fun M2 g1_h g2_h => ?_))
  refine w_al0 (n := 7) dX5_taps_6 rfl ?_
  refine w_il1 (n := 8) dX5_taps_7 rfl ?_
  refine w_cU1 (n := 11) (C := RX2) pl_6 cl_2 s0_X5_tips ku_X5_33_2 (Nat.le_of_ble_eq_true rfl) dX5_taps_8 rfl (c_tips_2 (hc.T1 g1_h) (cp_T1 g1_h hp) g2_h (fun M3 g3_h g4_h => ?_))
  refine w_iconst (n := 12) (nI 3) dX5_taps_11 (by decide) rfl ?_
  refine w_al0 (n := 13) dX5_taps_12 rfl ?_
  refine g_I (n := 16) f_X5_26_2 pl_6 dX5_taps_13 rfl ?_
  rw [show M3.1 6 4 = nI r from ((hc.T1 g1_h).T1 g3_h).2]
  refine w_imul (n := 17) dX5_taps_16 rfl ?_
  refine w_iadd (n := 18) dX5_taps_17 rfl ?_
  refine w_retI dX5_taps_18 rfl ?_
  exact hq M3 (g1_h.tr g3_h) g4_h

set_option maxRecDepth 20000 in
theorem c_taps_2 {d : Nat} {M : dk_Mem} {Q : Option Value → dk_Mem → Prop} {h r : Nat} (hc : cPc 6 h r M) (hp : M.1 6 2 = nI 0) {T : at_T} (hT : cTS 6 T M) {x : Int32} (hq : ∀ M2, dk_fr (cT1 6) M M2 → cTS 6 ((at_taps h r x T 2).2) M2 → Q (some (.int ((at_taps h r x T 2).1))) M2) : dk_Call (d + 4) mX2_taps [.ref 6, .int x] M Q := by
  refine dk_enter [some (.ref 6), some (.int x)] (by decide) (fun _ => rfl) (fun _ => Nat.le_of_ble_eq_true rfl) ?_
  refine w_al0 (n := 1) dX2_taps_0 rfl ?_
  refine w_bipush (n := 3) (nI 30) dX2_taps_1 (by decide) rfl ?_
  refine w_cU1 (n := 6) (C := RX2) pl_6 cl_2 s0_X5_began ku_X2_15_2 (Nat.le_of_ble_eq_true rfl) dX2_taps_3 rfl (c_bg0_2 hp hT (fun M2 g1_h g2_h => ?_))
  refine w_al0 (n := 7) dX2_taps_6 rfl ?_
  refine w_il1 (n := 8) dX2_taps_7 rfl ?_
  refine w_cP1 (n := 11) pl_6 cl_2 s0_X5_taps kp_X2_21 (Nat.le_of_ble_eq_true rfl) dX2_taps_8 rfl (c_pta_2 (hc.T1 g1_h) (cp_T1 g1_h hp) g2_h (fun M3 g3_h g4_h => ?_))
  refine w_iconst (n := 12) (nI 2) dX2_taps_11 (by decide) rfl ?_
  refine w_imul (n := 13) dX2_taps_12 rfl ?_
  refine w_retI dX2_taps_13 rfl ?_
  exact hq M3 (g1_h.tr g3_h) g4_h

set_option maxRecDepth 20000 in
theorem c_ph_N_2 {d : Nat} {M : dk_Mem} {Q : Option Value → dk_Mem → Prop} {h r : Nat} (hc : cPc 6 h r M) (hp : M.1 6 2 = nI 0) {T : at_T} (hT : cTS 6 T M) {x : Int32} (hz : ¬ at_by h r = 0) (hq : ∀ M2, dk_fr (cT2 6) M M2 → cTS 6 (at_b T 12) M2 → M2.1 6 2 = nI 0 → Q (some (.int (x / at_by h r))) M2) : dk_Call (d + 1) mX5_halves [.ref 6, .int x] M Q := by
  refine dk_enter [some (.ref 6), some (.int x), none] (by decide) (fun _ => rfl) (fun _ => Nat.le_of_ble_eq_true rfl) ?_
  refine w_al0 (n := 1) dX5_halves_0 rfl ?_
  refine w_bipush (n := 3) (nI 12) dX5_halves_1 (by decide) rfl ?_
  refine w_cU1 (n := 6) (C := RX2) pl_6 cl_2 s0_X5_began ku_X5_29_2 (Nat.le_of_ble_eq_true rfl) dX5_halves_3 rfl (c_bg0_2 hp hT (fun M2 g1_h g2_h => ?_))
  refine w_al0 (n := 7) dX5_halves_6 rfl ?_
  refine g_I (n := 10) f_X5_26_2 pl_6 dX5_halves_7 rfl ?_
  rw [show M2.1 6 4 = nI r from (hc.T1 g1_h).2]
  refine w_al0 (n := 11) dX5_halves_10 rfl ?_
  refine g_I (n := 14) f_X5_23_2 pl_6 dX5_halves_11 rfl ?_
  rw [show M2.1 6 3 = nI h from (g1_h.2 6 3 (by unfold cT1; omega)).trans hc.1]
  refine w_isub (n := 15) dX5_halves_14 rfl ?_
  refine w_iconst (n := 16) (nI 4) dX5_halves_15 (by decide) rfl ?_
  refine w_iadd (n := 17) dX5_halves_16 rfl ?_
  rw [show nI r - nI h + nI 4 = at_by h r from rfl]
  refine w_is2 (n := 18) dX5_halves_17 rfl rfl (by decide) ?_
  refine w_il2 (n := 19) dX5_halves_18 rfl ?_
  refine w_if_ne (n := 22) 29 dX5_halves_19 (by decide) rfl (fun z19_h => ?_) (fun z19_h => ?_)
  · skip
    refine w_il1 (n := 30) dX5_halves_29 rfl ?_
    refine w_il2 (n := 31) dX5_halves_30 rfl ?_
    refine w_idiv (n := 32) hz dX5_halves_31 rfl ?_
    refine w_retI dX5_halves_32 rfl ?_
    exact hq M2 (cT12 g1_h) g2_h (cp_T1 g1_h hp)
  · skip
    exact absurd z19_h hz

theorem c_halves_N_2 {d : Nat} {M : dk_Mem} {Q : Option Value → dk_Mem → Prop} {h r : Nat} (hc : cPc 6 h r M) (hp : M.1 6 2 = nI 0) {T : at_T} (hT : cTS 6 T M) {x : Int32} (hz : ¬ at_by h r = 0) (hq : ∀ M2, dk_fr (cT2 6) M M2 → cTS 6 (at_hT false T 2) M2 → M2.1 6 2 = nI 0 → Q (some (.int (at_hv h r x 2))) M2) : dk_Call (d + 3) mX5_halves [.ref 6, .int x] M Q := c_ph_N_2 hc hp hT hz hq
set_option maxRecDepth 20000 in
theorem c_pu_N_2 {d : Nat} {M : dk_Mem} {Q : Option Value → dk_Mem → Prop} {h r : Nat} (hc : cPc 6 h r M) (hp : M.1 6 2 = nI 0) {T : at_T} (hT : cTS 6 T M) {x : Int32} (hz : ¬ at_by h r = 0) (hq : ∀ M2, dk_fr (cT2 6) M M2 → cTS 6 (at_uT false h r x T 2) M2 → M2.1 6 2 = nI 0 → Q (some (.int (at_uv h r x T 2))) M2) : dk_Call (d + 5) mX5_turns [.ref 6, .int x] M Q := by
  refine dk_enter [some (.ref 6), some (.int x)] (by decide) (fun _ => rfl) (fun _ => Nat.le_of_ble_eq_true rfl) ?_
  refine w_al0 (n := 1) dX5_turns_0 rfl ?_
  refine w_bipush (n := 3) (nI 13) dX5_turns_1 (by decide) rfl ?_
  refine w_cU1 (n := 6) (C := RX2) pl_6 cl_2 s0_X5_began ku_X5_29_2 (Nat.le_of_ble_eq_true rfl) dX5_turns_3 rfl (c_bg0_2 hp hT (fun M2 g1_h g2_h => ?_))
  refine w_al0 (n := 7) dX5_turns_6 rfl ?_
  refine w_il1 (n := 8) dX5_turns_7 rfl ?_
  refine w_cU1 (n := 11) (C := RX2) pl_6 cl_2 s0_X2_taps ku_X5_37_2 (Nat.le_of_ble_eq_true rfl) dX5_turns_8 rfl (c_taps_2 (hc.T1 g1_h) (cp_T1 g1_h hp) g2_h (fun M3 g3_h g4_h => ?_))
  refine w_al0 (n := 12) dX5_turns_11 rfl ?_
  refine w_il1 (n := 13) dX5_turns_12 rfl ?_
  refine w_cU1 (n := 16) (C := RX2) pl_6 cl_2 s0_X5_halves ku_X5_40_2 (Nat.le_of_ble_eq_true rfl) dX5_turns_13 rfl (c_halves_N_2 ((hc.T1 g1_h).T1 g3_h) (cp_T1 g3_h (cp_T1 g1_h hp)) g4_h hz (fun M4 g6_h g7_h g8_h => ?_))
  refine w_ixor (n := 17) dX5_turns_16 rfl ?_
  refine w_retI dX5_turns_17 rfl ?_
  exact hq M4 ((cT12 (g1_h.tr g3_h)).tr g6_h) g7_h g8_h

theorem c_turns_N_2 {d : Nat} {M : dk_Mem} {Q : Option Value → dk_Mem → Prop} {h r : Nat} (hc : cPc 6 h r M) (hp : M.1 6 2 = nI 0) {T : at_T} (hT : cTS 6 T M) {x : Int32} (hz : ¬ at_by h r = 0) (hq : ∀ M2, dk_fr (cT2 6) M M2 → cTS 6 (at_rT false h r x T 2) M2 → M2.1 6 2 = nI 0 → Q (some (.int (at_rv h r x T 2))) M2) : dk_Call (d + 6) mX5_turns [.ref 6, .int x] M Q := c_pu_N_2 hc hp hT hz hq
set_option maxRecDepth 20000 in
theorem c_ph_P_2 {d : Nat} {M : dk_Mem} {Q : Option Value → dk_Mem → Prop} {h r : Nat} (hc : cPc 6 h r M) (hp : M.1 6 2 = nI 0) {T : at_T} (hT : cTS 6 T M) {x : Int32} (hz : at_by h r = 0) (hq : ∀ M2, dk_fr (cT2 6) M M2 → cTS 6 (at_b T 12) M2 → M2.1 6 2 = nI 1 → ∀ v, Q (some (.int v)) M2) : dk_Call (d + 1) mX5_halves [.ref 6, .int x] M Q := by
  refine dk_enter [some (.ref 6), some (.int x), none] (by decide) (fun _ => rfl) (fun _ => Nat.le_of_ble_eq_true rfl) ?_
  refine w_al0 (n := 1) dX5_halves_0 rfl ?_
  refine w_bipush (n := 3) (nI 12) dX5_halves_1 (by decide) rfl ?_
  refine w_cU1 (n := 6) (C := RX2) pl_6 cl_2 s0_X5_began ku_X5_29_2 (Nat.le_of_ble_eq_true rfl) dX5_halves_3 rfl (c_bg0_2 hp hT (fun M2 g1_h g2_h => ?_))
  refine w_al0 (n := 7) dX5_halves_6 rfl ?_
  refine g_I (n := 10) f_X5_26_2 pl_6 dX5_halves_7 rfl ?_
  rw [show M2.1 6 4 = nI r from (hc.T1 g1_h).2]
  refine w_al0 (n := 11) dX5_halves_10 rfl ?_
  refine g_I (n := 14) f_X5_23_2 pl_6 dX5_halves_11 rfl ?_
  rw [show M2.1 6 3 = nI h from (g1_h.2 6 3 (by unfold cT1; omega)).trans hc.1]
  refine w_isub (n := 15) dX5_halves_14 rfl ?_
  refine w_iconst (n := 16) (nI 4) dX5_halves_15 (by decide) rfl ?_
  refine w_iadd (n := 17) dX5_halves_16 rfl ?_
  rw [show nI r - nI h + nI 4 = at_by h r from rfl]
  refine w_is2 (n := 18) dX5_halves_17 rfl rfl (by decide) ?_
  refine w_il2 (n := 19) dX5_halves_18 rfl ?_
  refine w_if_ne (n := 22) 29 dX5_halves_19 (by decide) rfl (fun z19_h => ?_) (fun z19_h => ?_)
  · skip
    exact absurd hz z19_h
  · skip
    refine w_al0 (n := 23) dX5_halves_22 rfl ?_
    refine w_iconst (n := 24) (nI 1) dX5_halves_23 (by decide) rfl ?_
    refine p_Z (n := 27) (by decide) f_X5_19_2 pl_6 dX5_halves_24 rfl ?_
    refine w_iconst (n := 28) (nI 0) dX5_halves_27 (by decide) rfl ?_
    refine w_retI dX5_halves_28 rfl ?_
    exact hq _ ((cT12 g1_h).put (Or.inl ⟨rfl, Or.inr rfl⟩)) ⟨by rw [dk_put_k (by omega)]; exact g2_h.1, g2_h.2.1, fun i hi => by rw [dk_put_k (by omega)]; exact g2_h.2.2 i hi⟩ dk_put_s _

theorem c_halves_P_2 {d : Nat} {M : dk_Mem} {Q : Option Value → dk_Mem → Prop} {h r : Nat} (hc : cPc 6 h r M) (hp : M.1 6 2 = nI 0) {T : at_T} (hT : cTS 6 T M) {x : Int32} (hz : at_by h r = 0) (hq : ∀ M2, dk_fr (cT2 6) M M2 → cTS 6 (at_hT true T 2) M2 → M2.1 6 2 = nI 1 → ∀ v, Q (some (.int v)) M2) : dk_Call (d + 3) mX5_halves [.ref 6, .int x] M Q := c_ph_P_2 hc hp hT hz hq
set_option maxRecDepth 20000 in
theorem c_pu_P_2 {d : Nat} {M : dk_Mem} {Q : Option Value → dk_Mem → Prop} {h r : Nat} (hc : cPc 6 h r M) (hp : M.1 6 2 = nI 0) {T : at_T} (hT : cTS 6 T M) {x : Int32} (hz : at_by h r = 0) (hq : ∀ M2, dk_fr (cT2 6) M M2 → cTS 6 (at_uT true h r x T 2) M2 → M2.1 6 2 = nI 1 → ∀ v, Q (some (.int v)) M2) : dk_Call (d + 5) mX5_turns [.ref 6, .int x] M Q := by
  refine dk_enter [some (.ref 6), some (.int x)] (by decide) (fun _ => rfl) (fun _ => Nat.le_of_ble_eq_true rfl) ?_
  refine w_al0 (n := 1) dX5_turns_0 rfl ?_
  refine w_bipush (n := 3) (nI 13) dX5_turns_1 (by decide) rfl ?_
  refine w_cU1 (n := 6) (C := RX2) pl_6 cl_2 s0_X5_began ku_X5_29_2 (Nat.le_of_ble_eq_true rfl) dX5_turns_3 rfl (c_bg0_2 hp hT (fun M2 g1_h g2_h => ?_))
  refine w_al0 (n := 7) dX5_turns_6 rfl ?_
  refine w_il1 (n := 8) dX5_turns_7 rfl ?_
  refine w_cU1 (n := 11) (C := RX2) pl_6 cl_2 s0_X2_taps ku_X5_37_2 (Nat.le_of_ble_eq_true rfl) dX5_turns_8 rfl (c_taps_2 (hc.T1 g1_h) (cp_T1 g1_h hp) g2_h (fun M3 g3_h g4_h => ?_))
  refine w_al0 (n := 12) dX5_turns_11 rfl ?_
  refine w_il1 (n := 13) dX5_turns_12 rfl ?_
  refine w_cU1 (n := 16) (C := RX2) pl_6 cl_2 s0_X5_halves ku_X5_40_2 (Nat.le_of_ble_eq_true rfl) dX5_turns_13 rfl (c_halves_P_2 ((hc.T1 g1_h).T1 g3_h) (cp_T1 g3_h (cp_T1 g1_h hp)) g4_h hz (fun M4 g6_h g7_h g8_h v => ?_))
  refine w_ixor (n := 17) dX5_turns_16 rfl ?_
  refine w_retI dX5_turns_17 rfl ?_
  exact hq M4 ((cT12 (g1_h.tr g3_h)).tr g6_h) g7_h g8_h _

theorem c_turns_P_2 {d : Nat} {M : dk_Mem} {Q : Option Value → dk_Mem → Prop} {h r : Nat} (hc : cPc 6 h r M) (hp : M.1 6 2 = nI 0) {T : at_T} (hT : cTS 6 T M) {x : Int32} (hz : at_by h r = 0) (hq : ∀ M2, dk_fr (cT2 6) M M2 → cTS 6 (at_rT true h r x T 2) M2 → M2.1 6 2 = nI 1 → ∀ v, Q (some (.int v)) M2) : dk_Call (d + 6) mX5_turns [.ref 6, .int x] M Q := c_pu_P_2 hc hp hT hz hq
theorem c_halves_2 {d : Nat} {M : dk_Mem} {Q : Option Value → dk_Mem → Prop} {h r : Nat} (hc : cPc 6 h r M) (hp : M.1 6 2 = nI 0) {T : at_T} (hT : cTS 6 T M) {x : Int32} (hq : ∀ M2 v, dk_fr (cT2 6) M M2 → cTS 6 (at_hT (at_p h r) T 2) M2 → M2.1 6 2 = gbI (at_p h r) → (at_p h r = false → v = at_hv h r x 2) → Q (some (.int v)) M2) : dk_Call (d + 3) mX5_halves [.ref 6, .int x] M Q := by
  by_cases hz : at_by h r = 0
  · have e : at_p h r = true := decide_eq_true hz
    rw [e] at hq
    exact c_halves_P_2 hc hp hT hz (fun M2 a b c v => hq M2 v a b c (fun z => by cases z))
  · have e : at_p h r = false := decide_eq_false hz
    rw [e] at hq
    exact c_halves_N_2 hc hp hT hz (fun M2 a b c => hq M2 _ a b c (fun _ => rfl))

theorem c_turns_2 {d : Nat} {M : dk_Mem} {Q : Option Value → dk_Mem → Prop} {h r : Nat} (hc : cPc 6 h r M) (hp : M.1 6 2 = nI 0) {T : at_T} (hT : cTS 6 T M) {x : Int32} (hq : ∀ M2 v, dk_fr (cT2 6) M M2 → cTS 6 (at_rT (at_p h r) h r x T 2) M2 → M2.1 6 2 = gbI (at_p h r) → (at_p h r = false → v = at_rv h r x T 2) → Q (some (.int v)) M2) : dk_Call (d + 6) mX5_turns [.ref 6, .int x] M Q := by
  by_cases hz : at_by h r = 0
  · have e : at_p h r = true := decide_eq_true hz
    rw [e] at hq
    exact c_turns_P_2 hc hp hT hz (fun M2 a b c v => hq M2 v a b c (fun z => by cases z))
  · have e : at_p h r = false := decide_eq_false hz
    rw [e] at hq
    exact c_turns_N_2 hc hp hT hz (fun M2 a b c => hq M2 _ a b c (fun _ => rfl))

set_option maxRecDepth 20000 in
theorem c_bg0_3 {d : Nat} {M : dk_Mem} {Q : Option Value → dk_Mem → Prop} (hp : M.1 8 2 = nI 0) {T : at_T} (hT : cTS 8 T M) {b : Nat} (hq : ∀ M2, dk_fr (cT1 8) M M2 → cTS 8 (at_b T b) M2 → Q none M2) : dk_Call d mX5_began [.ref 8, .int (nI b)] M Q := by
  have tl := hT.2.1
  refine dk_enter [some (.ref 8), some (.int (nI b))] (by decide) (fun _ => rfl) (fun _ => Nat.le_of_ble_eq_true rfl) ?_
  refine w_al0 (n := 1) dX5_began_0 rfl ?_
  refine g_Z (n := 4) f_X5_19_1 pl_8 dX5_began_1 rfl ?_
  rw [hp]
  refine w_if_ne (n := 7) 16 dX5_began_4 (by decide) rfl (fun z4_h => ?_) (fun z4_h => ?_)
  · skip
    refine w_ret dX5_began_16 rfl ?_
    first | exact absurd rfl z4_h | (rw [nI_ltI (by omega) (by decide)] at z13_h; have e : at_b T b = T := if_neg (by omega); rw [e] at hq; exact hq M dk_fr.rf hT)
  · skip
    refine w_al0 (n := 8) dX5_began_7 rfl ?_
    refine g_I (n := 11) f_X5_15_1 pl_8 dX5_began_8 rfl ?_
    rw [hT.1]
    refine w_bipush (n := 13) (nI 30) dX5_began_11 (by decide) rfl ?_
    refine w_ic_lt (n := 16) 17 dX5_began_13 (by decide) rfl (fun z13_h => ?_) (fun z13_h => ?_)
    · skip
      refine w_al0 (n := 18) dX5_began_17 rfl ?_
      refine g_R (n := 21) f_X5_9_1 pl_8 rf_8_0 dX5_began_18 rfl ?_
      refine w_al0 (n := 22) dX5_began_21 rfl ?_
      refine g_I (n := 25) f_X5_15_1 pl_8 dX5_began_22 rfl ?_
      refine w_il1 (n := 26) dX5_began_25 rfl ?_
      refine i_iast (n := 27) pl_9 (j := T.1) hT.1 (by rw [nI_ltI (by omega) (by decide)] at z13_h; omega) (by decide) dX5_began_26 rfl ?_
      refine w_al0 (n := 28) dX5_began_27 rfl ?_
      refine w_dup (n := 29) rfl dX5_began_28 rfl ?_
      refine g_I (n := 32) f_X5_15_1 pl_8 dX5_began_29 rfl ?_
      rw [dk_put_k (by omega), hT.1]
      refine w_iconst (n := 33) (nI 1) dX5_began_32 (by decide) rfl ?_
      refine w_iadd (n := 34) dX5_began_33 rfl ?_
      rw [nI_add]
      refine p_I (n := 37) f_X5_15_1 pl_8 dX5_began_34 rfl ?_
      refine w_ret dX5_began_37 rfl ?_
      rw [nI_ltI (by omega) (by decide)] at z13_h
      have e : at_b T b = (T.1 + 1, fun i => if i = T.1 then nI b else T.2 i) := if_pos (by omega)
      rw [e] at hq
      refine hq _ ((dk_fr.rf.put (Or.inr rfl)).put (Or.inl ⟨rfl, rfl⟩)) ⟨dk_put_s, (by show T.1 + 1 ≤ 30; omega), fun i hi => ?_⟩
      have hi2_h : i < T.1 + 1 := hi
      rw [dk_put_k (by omega)]
      by_cases ei : i = T.1
      · rw [ei, dk_put_s]; exact (if_pos rfl).symm
      · rw [dk_put_k (by omega)]; exact (hT.2.2 i (by omega)).trans (if_neg ei).symm
    · skip
      refine w_ret dX5_began_16 rfl ?_
      first | exact absurd rfl z4_h | (rw [nI_ltI (by omega) (by decide)] at z13_h; have e : at_b T b = T := if_neg (by omega); rw [e] at hq; exact hq M dk_fr.rf hT)

set_option maxRecDepth 20000 in
theorem c_bg1_3 {d : Nat} {M : dk_Mem} {Q : Option Value → dk_Mem → Prop} (hp : M.1 8 2 = nI 1) {b : Nat} (hq : Q none M) : dk_Call d mX5_began [.ref 8, .int (nI b)] M Q := by
  refine dk_enter [some (.ref 8), some (.int (nI b))] (by decide) (fun _ => rfl) (fun _ => Nat.le_of_ble_eq_true rfl) ?_
  refine w_al0 (n := 1) dX5_began_0 rfl ?_
  refine g_Z (n := 4) f_X5_19_1 pl_8 dX5_began_1 rfl ?_
  rw [hp]
  refine w_if_ne (n := 7) 16 dX5_began_4 (by decide) rfl (fun z4_h => ?_) (fun z4_h => ?_)
  · skip
    refine w_ret dX5_began_16 rfl ?_
    exact hq
  · skip
    exact absurd z4_h (by decide)

set_option maxRecDepth 20000 in
theorem c_pti_3 {d : Nat} {M : dk_Mem} {Q : Option Value → dk_Mem → Prop} {h r : Nat} (hc : cPc 8 h r M) (hp : M.1 8 2 = nI 0) {T : at_T} (hT : cTS 8 T M) {x : Int32} (hq : ∀ M2, dk_fr (cT1 8) M M2 → cTS 8 (at_b T 10) M2 → Q (some (.int (x * nI 10 - nI h))) M2) : dk_Call (d + 1) mX5_tips [.ref 8, .int x] M Q := by
  refine dk_enter [some (.ref 8), some (.int x)] (by decide) (fun _ => rfl) (fun _ => Nat.le_of_ble_eq_true rfl) ?_
  refine w_al0 (n := 1) dX5_tips_0 rfl ?_
  refine w_bipush (n := 3) (nI 10) dX5_tips_1 (by decide) rfl ?_
  refine w_cU1 (n := 6) (C := RX1) pl_8 cl_1 s0_X5_began ku_X5_29_1 (Nat.le_of_ble_eq_true rfl) dX5_tips_3 rfl (c_bg0_3 hp hT (fun M2 g1_h g2_h => ?_))
  refine w_il1 (n := 7) dX5_tips_6 rfl ?_
  refine w_bipush (n := 9) (nI 10) dX5_tips_7 (by decide) rfl ?_
  refine w_imul (n := 10) dX5_tips_9 rfl ?_
  refine w_al0 (n := 11) dX5_tips_10 rfl ?_
  refine g_I (n := 14) f_X5_23_1 pl_8 dX5_tips_11 rfl ?_
  rw [show M2.1 8 3 = nI h from (g1_h.2 8 3 (by unfold cT1; omega)).trans hc.1]
  refine w_isub (n := 15) dX5_tips_14 rfl ?_
  refine w_retI dX5_tips_15 rfl ?_
  exact hq M2 g1_h g2_h

set_option maxRecDepth 20000 in
theorem c_pti1_3 {d : Nat} {M : dk_Mem} {Q : Option Value → dk_Mem → Prop} (hp : M.1 8 2 = nI 1) {x : Int32} (hq : ∀ v, Q (some (.int v)) M) : dk_Call (d + 1) mX5_tips [.ref 8, .int x] M Q := by
  refine dk_enter [some (.ref 8), some (.int x)] (by decide) (fun _ => rfl) (fun _ => Nat.le_of_ble_eq_true rfl) ?_
  refine w_al0 (n := 1) dX5_tips_0 rfl ?_
  refine w_bipush (n := 3) (nI 10) dX5_tips_1 (by decide) rfl ?_
  refine w_cU1 (n := 6) (C := RX1) pl_8 cl_1 s0_X5_began ku_X5_29_1 (Nat.le_of_ble_eq_true rfl) dX5_tips_3 rfl (c_bg1_3 hp ?_)
  refine w_il1 (n := 7) dX5_tips_6 rfl ?_
  refine w_bipush (n := 9) (nI 10) dX5_tips_7 (by decide) rfl ?_
  refine w_imul (n := 10) dX5_tips_9 rfl ?_
  refine w_al0 (n := 11) dX5_tips_10 rfl ?_
  refine g_I (n := 14) f_X5_23_1 pl_8 dX5_tips_11 rfl ?_
  refine w_isub (n := 15) dX5_tips_14 rfl ?_
  refine w_retI dX5_tips_15 rfl ?_
  exact hq _

set_option maxRecDepth 20000 in
theorem c_tips_3 {d : Nat} {M : dk_Mem} {Q : Option Value → dk_Mem → Prop} {h r : Nat} (hc : cPc 8 h r M) (hp : M.1 8 2 = nI 0) {T : at_T} (hT : cTS 8 T M) {x : Int32} (hq : ∀ M2, dk_fr (cT1 8) M M2 → cTS 8 ((at_tips h x T 3).2) M2 → Q (some (.int ((at_tips h x T 3).1))) M2) : dk_Call (d + 2) mX1_tips [.ref 8, .int x] M Q := by
  refine dk_enter [some (.ref 8), some (.int x)] (by decide) (fun _ => rfl) (fun _ => Nat.le_of_ble_eq_true rfl) ?_
  refine w_al0 (n := 1) dX1_tips_0 rfl ?_
  refine w_bipush (n := 3) (nI 50) dX1_tips_1 (by decide) rfl ?_
  refine w_cU1 (n := 6) (C := RX1) pl_8 cl_1 s0_X5_began ku_X1_15_1 (Nat.le_of_ble_eq_true rfl) dX1_tips_3 rfl (c_bg0_3 hp hT (fun M2 g1_h g2_h => ?_))
  refine w_al0 (n := 7) dX1_tips_6 rfl ?_
  refine w_il1 (n := 8) dX1_tips_7 rfl ?_
  refine w_bipush (n := 10) (nI 14) dX1_tips_8 (by decide) rfl ?_
  refine w_isub (n := 11) dX1_tips_10 rfl ?_
  refine w_cQ1 (n := 14) pl_8 cl_1 s0_X5_tips kq_X1_21 (Nat.le_of_ble_eq_true rfl) dX1_tips_11 rfl (c_pti_3 (hc.T1 g1_h) (cp_T1 g1_h hp) g2_h (fun M3 g3_h g4_h => ?_))
  refine w_retI dX1_tips_14 rfl ?_
  exact hq M3 (g1_h.tr g3_h) g4_h

set_option maxRecDepth 20000 in
theorem c_tips1_3 {d : Nat} {M : dk_Mem} {Q : Option Value → dk_Mem → Prop} (hp : M.1 8 2 = nI 1) {x : Int32} (hq : ∀ v, Q (some (.int v)) M) : dk_Call (d + 2) mX1_tips [.ref 8, .int x] M Q := by
  refine dk_enter [some (.ref 8), some (.int x)] (by decide) (fun _ => rfl) (fun _ => Nat.le_of_ble_eq_true rfl) ?_
  refine w_al0 (n := 1) dX1_tips_0 rfl ?_
  refine w_bipush (n := 3) (nI 50) dX1_tips_1 (by decide) rfl ?_
  refine w_cU1 (n := 6) (C := RX1) pl_8 cl_1 s0_X5_began ku_X1_15_1 (Nat.le_of_ble_eq_true rfl) dX1_tips_3 rfl (c_bg1_3 hp ?_)
  refine w_al0 (n := 7) dX1_tips_6 rfl ?_
  refine w_il1 (n := 8) dX1_tips_7 rfl ?_
  refine w_bipush (n := 10) (nI 14) dX1_tips_8 (by decide) rfl ?_
  refine w_isub (n := 11) dX1_tips_10 rfl ?_
  refine w_cQ1 (n := 14) pl_8 cl_1 s0_X5_tips kq_X1_21 (Nat.le_of_ble_eq_true rfl) dX1_tips_11 rfl (c_pti1_3 hp (fun v => ?_))
  refine w_retI dX1_tips_14 rfl ?_
  exact hq _

set_option maxRecDepth 20000 in
theorem c_pta_3 {d : Nat} {M : dk_Mem} {Q : Option Value → dk_Mem → Prop} {h r : Nat} (hc : cPc 8 h r M) (hp : M.1 8 2 = nI 0) {T : at_T} (hT : cTS 8 T M) {x : Int32} (hq : ∀ M2, dk_fr (cT1 8) M M2 → cTS 8 ((at_pt 3 h r x T).2) M2 → Q (some (.int ((at_pt 3 h r x T).1))) M2) : dk_Call (d + 3) mX5_taps [.ref 8, .int x] M Q := by
  refine dk_enter [some (.ref 8), some (.int x)] (by decide) (fun _ => rfl) (fun _ => Nat.le_of_ble_eq_true rfl) ?_
  refine w_al0 (n := 1) dX5_taps_0 rfl ?_
  refine w_bipush (n := 3) (nI 11) dX5_taps_1 (by decide) rfl ?_
  refine w_cU1 (n := 6) (C := RX1) pl_8 cl_1 s0_X5_began ku_X5_29_1 (Nat.le_of_ble_eq_true rfl) dX5_taps_3 rfl (c_bg0_3 hp hT (fun M2 g1_h g2_h => ?_))
  refine w_al0 (n := 7) dX5_taps_6 rfl ?_
  refine w_il1 (n := 8) dX5_taps_7 rfl ?_
  refine w_cU1 (n := 11) (C := RX1) pl_8 cl_1 s0_X1_tips ku_X5_33_1 (Nat.le_of_ble_eq_true rfl) dX5_taps_8 rfl (c_tips_3 (hc.T1 g1_h) (cp_T1 g1_h hp) g2_h (fun M3 g3_h g4_h => ?_))
  refine w_iconst (n := 12) (nI 3) dX5_taps_11 (by decide) rfl ?_
  refine w_al0 (n := 13) dX5_taps_12 rfl ?_
  refine g_I (n := 16) f_X5_26_1 pl_8 dX5_taps_13 rfl ?_
  rw [show M3.1 8 4 = nI r from ((hc.T1 g1_h).T1 g3_h).2]
  refine w_imul (n := 17) dX5_taps_16 rfl ?_
  refine w_iadd (n := 18) dX5_taps_17 rfl ?_
  refine w_retI dX5_taps_18 rfl ?_
  exact hq M3 (g1_h.tr g3_h) g4_h

set_option maxRecDepth 20000 in
theorem c_pta1_3 {d : Nat} {M : dk_Mem} {Q : Option Value → dk_Mem → Prop} (hp : M.1 8 2 = nI 1) {x : Int32} (hq : ∀ v, Q (some (.int v)) M) : dk_Call (d + 3) mX5_taps [.ref 8, .int x] M Q := by
  refine dk_enter [some (.ref 8), some (.int x)] (by decide) (fun _ => rfl) (fun _ => Nat.le_of_ble_eq_true rfl) ?_
  refine w_al0 (n := 1) dX5_taps_0 rfl ?_
  refine w_bipush (n := 3) (nI 11) dX5_taps_1 (by decide) rfl ?_
  refine w_cU1 (n := 6) (C := RX1) pl_8 cl_1 s0_X5_began ku_X5_29_1 (Nat.le_of_ble_eq_true rfl) dX5_taps_3 rfl (c_bg1_3 hp ?_)
  refine w_al0 (n := 7) dX5_taps_6 rfl ?_
  refine w_il1 (n := 8) dX5_taps_7 rfl ?_
  refine w_cU1 (n := 11) (C := RX1) pl_8 cl_1 s0_X1_tips ku_X5_33_1 (Nat.le_of_ble_eq_true rfl) dX5_taps_8 rfl (c_tips1_3 hp (fun v => ?_))
  refine w_iconst (n := 12) (nI 3) dX5_taps_11 (by decide) rfl ?_
  refine w_al0 (n := 13) dX5_taps_12 rfl ?_
  refine g_I (n := 16) f_X5_26_1 pl_8 dX5_taps_13 rfl ?_
  refine w_imul (n := 17) dX5_taps_16 rfl ?_
  refine w_iadd (n := 18) dX5_taps_17 rfl ?_
  refine w_retI dX5_taps_18 rfl ?_
  exact hq _

set_option maxRecDepth 20000 in
theorem c_taps_3 {d : Nat} {M : dk_Mem} {Q : Option Value → dk_Mem → Prop} {h r : Nat} (hc : cPc 8 h r M) (hp : M.1 8 2 = nI 0) {T : at_T} (hT : cTS 8 T M) {x : Int32} (hq : ∀ M2, dk_fr (cT1 8) M M2 → cTS 8 ((at_taps h r x T 3).2) M2 → Q (some (.int ((at_taps h r x T 3).1))) M2) : dk_Call (d + 4) mX2_taps [.ref 8, .int x] M Q := by
  refine dk_enter [some (.ref 8), some (.int x)] (by decide) (fun _ => rfl) (fun _ => Nat.le_of_ble_eq_true rfl) ?_
  refine w_al0 (n := 1) dX2_taps_0 rfl ?_
  refine w_bipush (n := 3) (nI 30) dX2_taps_1 (by decide) rfl ?_
  refine w_cU1 (n := 6) (C := RX1) pl_8 cl_1 s0_X5_began ku_X2_15_1 (Nat.le_of_ble_eq_true rfl) dX2_taps_3 rfl (c_bg0_3 hp hT (fun M2 g1_h g2_h => ?_))
  refine w_al0 (n := 7) dX2_taps_6 rfl ?_
  refine w_il1 (n := 8) dX2_taps_7 rfl ?_
  refine w_cP1 (n := 11) pl_8 cl_1 s0_X5_taps kp_X2_21 (Nat.le_of_ble_eq_true rfl) dX2_taps_8 rfl (c_pta_3 (hc.T1 g1_h) (cp_T1 g1_h hp) g2_h (fun M3 g3_h g4_h => ?_))
  refine w_iconst (n := 12) (nI 2) dX2_taps_11 (by decide) rfl ?_
  refine w_imul (n := 13) dX2_taps_12 rfl ?_
  refine w_retI dX2_taps_13 rfl ?_
  exact hq M3 (g1_h.tr g3_h) g4_h

set_option maxRecDepth 20000 in
theorem c_taps1_3 {d : Nat} {M : dk_Mem} {Q : Option Value → dk_Mem → Prop} (hp : M.1 8 2 = nI 1) {x : Int32} (hq : ∀ v, Q (some (.int v)) M) : dk_Call (d + 4) mX2_taps [.ref 8, .int x] M Q := by
  refine dk_enter [some (.ref 8), some (.int x)] (by decide) (fun _ => rfl) (fun _ => Nat.le_of_ble_eq_true rfl) ?_
  refine w_al0 (n := 1) dX2_taps_0 rfl ?_
  refine w_bipush (n := 3) (nI 30) dX2_taps_1 (by decide) rfl ?_
  refine w_cU1 (n := 6) (C := RX1) pl_8 cl_1 s0_X5_began ku_X2_15_1 (Nat.le_of_ble_eq_true rfl) dX2_taps_3 rfl (c_bg1_3 hp ?_)
  refine w_al0 (n := 7) dX2_taps_6 rfl ?_
  refine w_il1 (n := 8) dX2_taps_7 rfl ?_
  refine w_cP1 (n := 11) pl_8 cl_1 s0_X5_taps kp_X2_21 (Nat.le_of_ble_eq_true rfl) dX2_taps_8 rfl (c_pta1_3 hp (fun v => ?_))
  refine w_iconst (n := 12) (nI 2) dX2_taps_11 (by decide) rfl ?_
  refine w_imul (n := 13) dX2_taps_12 rfl ?_
  refine w_retI dX2_taps_13 rfl ?_
  exact hq _

set_option maxRecDepth 20000 in
theorem c_ph_N_3 {d : Nat} {M : dk_Mem} {Q : Option Value → dk_Mem → Prop} {h r : Nat} (hc : cPc 8 h r M) (hp : M.1 8 2 = nI 0) {T : at_T} (hT : cTS 8 T M) {x : Int32} (hz : ¬ at_by h r = 0) (hq : ∀ M2, dk_fr (cT2 8) M M2 → cTS 8 (at_b T 12) M2 → M2.1 8 2 = nI 0 → Q (some (.int (x / at_by h r))) M2) : dk_Call (d + 1) mX5_halves [.ref 8, .int x] M Q := by
  refine dk_enter [some (.ref 8), some (.int x), none] (by decide) (fun _ => rfl) (fun _ => Nat.le_of_ble_eq_true rfl) ?_
  refine w_al0 (n := 1) dX5_halves_0 rfl ?_
  refine w_bipush (n := 3) (nI 12) dX5_halves_1 (by decide) rfl ?_
  refine w_cU1 (n := 6) (C := RX1) pl_8 cl_1 s0_X5_began ku_X5_29_1 (Nat.le_of_ble_eq_true rfl) dX5_halves_3 rfl (c_bg0_3 hp hT (fun M2 g1_h g2_h => ?_))
  refine w_al0 (n := 7) dX5_halves_6 rfl ?_
  refine g_I (n := 10) f_X5_26_1 pl_8 dX5_halves_7 rfl ?_
  rw [show M2.1 8 4 = nI r from (hc.T1 g1_h).2]
  refine w_al0 (n := 11) dX5_halves_10 rfl ?_
  refine g_I (n := 14) f_X5_23_1 pl_8 dX5_halves_11 rfl ?_
  rw [show M2.1 8 3 = nI h from (g1_h.2 8 3 (by unfold cT1; omega)).trans hc.1]
  refine w_isub (n := 15) dX5_halves_14 rfl ?_
  refine w_iconst (n := 16) (nI 4) dX5_halves_15 (by decide) rfl ?_
  refine w_iadd (n := 17) dX5_halves_16 rfl ?_
  rw [show nI r - nI h + nI 4 = at_by h r from rfl]
  refine w_is2 (n := 18) dX5_halves_17 rfl rfl (by decide) ?_
  refine w_il2 (n := 19) dX5_halves_18 rfl ?_
  refine w_if_ne (n := 22) 29 dX5_halves_19 (by decide) rfl (fun z19_h => ?_) (fun z19_h => ?_)
  · skip
    refine w_il1 (n := 30) dX5_halves_29 rfl ?_
    refine w_il2 (n := 31) dX5_halves_30 rfl ?_
    refine w_idiv (n := 32) hz dX5_halves_31 rfl ?_
    refine w_retI dX5_halves_32 rfl ?_
    exact hq M2 (cT12 g1_h) g2_h (cp_T1 g1_h hp)
  · skip
    exact absurd z19_h hz

theorem c_halves_N_3 {d : Nat} {M : dk_Mem} {Q : Option Value → dk_Mem → Prop} {h r : Nat} (hc : cPc 8 h r M) (hp : M.1 8 2 = nI 0) {T : at_T} (hT : cTS 8 T M) {x : Int32} (hz : ¬ at_by h r = 0) (hq : ∀ M2, dk_fr (cT2 8) M M2 → cTS 8 (at_hT false T 3) M2 → M2.1 8 2 = nI 0 → Q (some (.int (at_hv h r x 3))) M2) : dk_Call (d + 3) mX5_halves [.ref 8, .int x] M Q := c_ph_N_3 hc hp hT hz hq
set_option maxRecDepth 20000 in
theorem c_pu_N_3 {d : Nat} {M : dk_Mem} {Q : Option Value → dk_Mem → Prop} {h r : Nat} (hc : cPc 8 h r M) (hp : M.1 8 2 = nI 0) {T : at_T} (hT : cTS 8 T M) {x : Int32} (hz : ¬ at_by h r = 0) (hq : ∀ M2, dk_fr (cT2 8) M M2 → cTS 8 (at_uT false h r x T 3) M2 → M2.1 8 2 = nI 0 → Q (some (.int (at_uv h r x T 3))) M2) : dk_Call (d + 5) mX5_turns [.ref 8, .int x] M Q := by
  refine dk_enter [some (.ref 8), some (.int x)] (by decide) (fun _ => rfl) (fun _ => Nat.le_of_ble_eq_true rfl) ?_
  refine w_al0 (n := 1) dX5_turns_0 rfl ?_
  refine w_bipush (n := 3) (nI 13) dX5_turns_1 (by decide) rfl ?_
  refine w_cU1 (n := 6) (C := RX1) pl_8 cl_1 s0_X5_began ku_X5_29_1 (Nat.le_of_ble_eq_true rfl) dX5_turns_3 rfl (c_bg0_3 hp hT (fun M2 g1_h g2_h => ?_))
  refine w_al0 (n := 7) dX5_turns_6 rfl ?_
  refine w_il1 (n := 8) dX5_turns_7 rfl ?_
  refine w_cU1 (n := 11) (C := RX1) pl_8 cl_1 s0_X2_taps ku_X5_37_1 (Nat.le_of_ble_eq_true rfl) dX5_turns_8 rfl (c_taps_3 (hc.T1 g1_h) (cp_T1 g1_h hp) g2_h (fun M3 g3_h g4_h => ?_))
  refine w_al0 (n := 12) dX5_turns_11 rfl ?_
  refine w_il1 (n := 13) dX5_turns_12 rfl ?_
  refine w_cU1 (n := 16) (C := RX1) pl_8 cl_1 s0_X5_halves ku_X5_40_1 (Nat.le_of_ble_eq_true rfl) dX5_turns_13 rfl (c_halves_N_3 ((hc.T1 g1_h).T1 g3_h) (cp_T1 g3_h (cp_T1 g1_h hp)) g4_h hz (fun M4 g6_h g7_h g8_h => ?_))
  refine w_ixor (n := 17) dX5_turns_16 rfl ?_
  refine w_retI dX5_turns_17 rfl ?_
  exact hq M4 ((cT12 (g1_h.tr g3_h)).tr g6_h) g7_h g8_h

set_option maxRecDepth 20000 in
theorem c_turns_N_3 {d : Nat} {M : dk_Mem} {Q : Option Value → dk_Mem → Prop} {h r : Nat} (hc : cPc 8 h r M) (hp : M.1 8 2 = nI 0) {T : at_T} (hT : cTS 8 T M) {x : Int32} (hz : ¬ at_by h r = 0) (hq : ∀ M2, dk_fr (cT2 8) M M2 → cTS 8 (at_rT false h r x T 3) M2 → M2.1 8 2 = nI 0 → Q (some (.int (at_rv h r x T 3))) M2) : dk_Call (d + 6) mX1_turns [.ref 8, .int x] M Q := by
  refine dk_enter [some (.ref 8), some (.int x)] (by decide) (fun _ => rfl) (fun _ => Nat.le_of_ble_eq_true rfl) ?_
  refine w_al0 (n := 1) dX1_turns_0 rfl ?_
  refine w_bipush (n := 3) (nI 51) dX1_turns_1 (by decide) rfl ?_
  refine w_cU1 (n := 6) (C := RX1) pl_8 cl_1 s0_X5_began ku_X1_15_1 (Nat.le_of_ble_eq_true rfl) dX1_turns_3 rfl (c_bg0_3 hp hT (fun M2 g1_h g2_h => ?_))
  refine w_al0 (n := 7) dX1_turns_6 rfl ?_
  refine w_il1 (n := 8) dX1_turns_7 rfl ?_
  refine w_cQ1 (n := 11) pl_8 cl_1 s0_X5_turns kq_X1_25 (Nat.le_of_ble_eq_true rfl) dX1_turns_8 rfl (c_pu_N_3 (hc.T1 g1_h) (cp_T1 g1_h hp) g2_h hz (fun M3 g3_h g4_h g5_h => ?_))
  refine w_al0 (n := 12) dX1_turns_11 rfl ?_
  refine w_al0 (n := 13) dX1_turns_12 rfl ?_
  refine g_I (n := 16) f_X1_28_1 pl_8 dX1_turns_13 rfl ?_
  rw [show M3.1 8 4 = nI r from ((hc.T1 g1_h).T2 g3_h).2]
  refine w_cU1 (n := 19) (C := RX1) pl_8 cl_1 s0_X2_taps ku_X1_32_1 (Nat.le_of_ble_eq_true rfl) dX1_turns_16 rfl (c_taps_3 ((hc.T1 g1_h).T2 g3_h) g5_h g4_h (fun M4 g6_h g7_h => ?_))
  refine w_isub (n := 20) dX1_turns_19 rfl ?_
  refine w_retI dX1_turns_20 rfl ?_
  exact hq M4 (((cT12 g1_h).tr g3_h).tr (cT12 g6_h)) g7_h (cp_T1 g6_h g5_h)

set_option maxRecDepth 20000 in
theorem c_ph_P_3 {d : Nat} {M : dk_Mem} {Q : Option Value → dk_Mem → Prop} {h r : Nat} (hc : cPc 8 h r M) (hp : M.1 8 2 = nI 0) {T : at_T} (hT : cTS 8 T M) {x : Int32} (hz : at_by h r = 0) (hq : ∀ M2, dk_fr (cT2 8) M M2 → cTS 8 (at_b T 12) M2 → M2.1 8 2 = nI 1 → ∀ v, Q (some (.int v)) M2) : dk_Call (d + 1) mX5_halves [.ref 8, .int x] M Q := by
  refine dk_enter [some (.ref 8), some (.int x), none] (by decide) (fun _ => rfl) (fun _ => Nat.le_of_ble_eq_true rfl) ?_
  refine w_al0 (n := 1) dX5_halves_0 rfl ?_
  refine w_bipush (n := 3) (nI 12) dX5_halves_1 (by decide) rfl ?_
  refine w_cU1 (n := 6) (C := RX1) pl_8 cl_1 s0_X5_began ku_X5_29_1 (Nat.le_of_ble_eq_true rfl) dX5_halves_3 rfl (c_bg0_3 hp hT (fun M2 g1_h g2_h => ?_))
  refine w_al0 (n := 7) dX5_halves_6 rfl ?_
  refine g_I (n := 10) f_X5_26_1 pl_8 dX5_halves_7 rfl ?_
  rw [show M2.1 8 4 = nI r from (hc.T1 g1_h).2]
  refine w_al0 (n := 11) dX5_halves_10 rfl ?_
  refine g_I (n := 14) f_X5_23_1 pl_8 dX5_halves_11 rfl ?_
  rw [show M2.1 8 3 = nI h from (g1_h.2 8 3 (by unfold cT1; omega)).trans hc.1]
  refine w_isub (n := 15) dX5_halves_14 rfl ?_
  refine w_iconst (n := 16) (nI 4) dX5_halves_15 (by decide) rfl ?_
  refine w_iadd (n := 17) dX5_halves_16 rfl ?_
  rw [show nI r - nI h + nI 4 = at_by h r from rfl]
  refine w_is2 (n := 18) dX5_halves_17 rfl rfl (by decide) ?_
  refine w_il2 (n := 19) dX5_halves_18 rfl ?_
  refine w_if_ne (n := 22) 29 dX5_halves_19 (by decide) rfl (fun z19_h => ?_) (fun z19_h => ?_)
  · skip
    exact absurd hz z19_h
  · skip
    refine w_al0 (n := 23) dX5_halves_22 rfl ?_
    refine w_iconst (n := 24) (nI 1) dX5_halves_23 (by decide) rfl ?_
    refine p_Z (n := 27) (by decide) f_X5_19_1 pl_8 dX5_halves_24 rfl ?_
    refine w_iconst (n := 28) (nI 0) dX5_halves_27 (by decide) rfl ?_
    refine w_retI dX5_halves_28 rfl ?_
    exact hq _ ((cT12 g1_h).put (Or.inl ⟨rfl, Or.inr rfl⟩)) ⟨by rw [dk_put_k (by omega)]; exact g2_h.1, g2_h.2.1, fun i hi => by rw [dk_put_k (by omega)]; exact g2_h.2.2 i hi⟩ dk_put_s _

theorem c_halves_P_3 {d : Nat} {M : dk_Mem} {Q : Option Value → dk_Mem → Prop} {h r : Nat} (hc : cPc 8 h r M) (hp : M.1 8 2 = nI 0) {T : at_T} (hT : cTS 8 T M) {x : Int32} (hz : at_by h r = 0) (hq : ∀ M2, dk_fr (cT2 8) M M2 → cTS 8 (at_hT true T 3) M2 → M2.1 8 2 = nI 1 → ∀ v, Q (some (.int v)) M2) : dk_Call (d + 3) mX5_halves [.ref 8, .int x] M Q := c_ph_P_3 hc hp hT hz hq
set_option maxRecDepth 20000 in
theorem c_pu_P_3 {d : Nat} {M : dk_Mem} {Q : Option Value → dk_Mem → Prop} {h r : Nat} (hc : cPc 8 h r M) (hp : M.1 8 2 = nI 0) {T : at_T} (hT : cTS 8 T M) {x : Int32} (hz : at_by h r = 0) (hq : ∀ M2, dk_fr (cT2 8) M M2 → cTS 8 (at_uT true h r x T 3) M2 → M2.1 8 2 = nI 1 → ∀ v, Q (some (.int v)) M2) : dk_Call (d + 5) mX5_turns [.ref 8, .int x] M Q := by
  refine dk_enter [some (.ref 8), some (.int x)] (by decide) (fun _ => rfl) (fun _ => Nat.le_of_ble_eq_true rfl) ?_
  refine w_al0 (n := 1) dX5_turns_0 rfl ?_
  refine w_bipush (n := 3) (nI 13) dX5_turns_1 (by decide) rfl ?_
  refine w_cU1 (n := 6) (C := RX1) pl_8 cl_1 s0_X5_began ku_X5_29_1 (Nat.le_of_ble_eq_true rfl) dX5_turns_3 rfl (c_bg0_3 hp hT (fun M2 g1_h g2_h => ?_))
  refine w_al0 (n := 7) dX5_turns_6 rfl ?_
  refine w_il1 (n := 8) dX5_turns_7 rfl ?_
  refine w_cU1 (n := 11) (C := RX1) pl_8 cl_1 s0_X2_taps ku_X5_37_1 (Nat.le_of_ble_eq_true rfl) dX5_turns_8 rfl (c_taps_3 (hc.T1 g1_h) (cp_T1 g1_h hp) g2_h (fun M3 g3_h g4_h => ?_))
  refine w_al0 (n := 12) dX5_turns_11 rfl ?_
  refine w_il1 (n := 13) dX5_turns_12 rfl ?_
  refine w_cU1 (n := 16) (C := RX1) pl_8 cl_1 s0_X5_halves ku_X5_40_1 (Nat.le_of_ble_eq_true rfl) dX5_turns_13 rfl (c_halves_P_3 ((hc.T1 g1_h).T1 g3_h) (cp_T1 g3_h (cp_T1 g1_h hp)) g4_h hz (fun M4 g6_h g7_h g8_h v => ?_))
  refine w_ixor (n := 17) dX5_turns_16 rfl ?_
  refine w_retI dX5_turns_17 rfl ?_
  exact hq M4 ((cT12 (g1_h.tr g3_h)).tr g6_h) g7_h g8_h _

set_option maxRecDepth 20000 in
theorem c_turns_P_3 {d : Nat} {M : dk_Mem} {Q : Option Value → dk_Mem → Prop} {h r : Nat} (hc : cPc 8 h r M) (hp : M.1 8 2 = nI 0) {T : at_T} (hT : cTS 8 T M) {x : Int32} (hz : at_by h r = 0) (hq : ∀ M2, dk_fr (cT2 8) M M2 → cTS 8 (at_rT true h r x T 3) M2 → M2.1 8 2 = nI 1 → ∀ v, Q (some (.int v)) M2) : dk_Call (d + 6) mX1_turns [.ref 8, .int x] M Q := by
  refine dk_enter [some (.ref 8), some (.int x)] (by decide) (fun _ => rfl) (fun _ => Nat.le_of_ble_eq_true rfl) ?_
  refine w_al0 (n := 1) dX1_turns_0 rfl ?_
  refine w_bipush (n := 3) (nI 51) dX1_turns_1 (by decide) rfl ?_
  refine w_cU1 (n := 6) (C := RX1) pl_8 cl_1 s0_X5_began ku_X1_15_1 (Nat.le_of_ble_eq_true rfl) dX1_turns_3 rfl (c_bg0_3 hp hT (fun M2 g1_h g2_h => ?_))
  refine w_al0 (n := 7) dX1_turns_6 rfl ?_
  refine w_il1 (n := 8) dX1_turns_7 rfl ?_
  refine w_cQ1 (n := 11) pl_8 cl_1 s0_X5_turns kq_X1_25 (Nat.le_of_ble_eq_true rfl) dX1_turns_8 rfl (c_pu_P_3 (hc.T1 g1_h) (cp_T1 g1_h hp) g2_h hz (fun M3 g3_h g4_h g5_h v => ?_))
  refine w_al0 (n := 12) dX1_turns_11 rfl ?_
  refine w_al0 (n := 13) dX1_turns_12 rfl ?_
  refine g_I (n := 16) f_X1_28_1 pl_8 dX1_turns_13 rfl ?_
  rw [show M3.1 8 4 = nI r from ((hc.T1 g1_h).T2 g3_h).2]
  refine w_cU1 (n := 19) (C := RX1) pl_8 cl_1 s0_X2_taps ku_X1_32_1 (Nat.le_of_ble_eq_true rfl) dX1_turns_16 rfl (c_taps1_3 g5_h (fun u => ?_))
  refine w_isub (n := 20) dX1_turns_19 rfl ?_
  refine w_retI dX1_turns_20 rfl ?_
  exact hq M3 ((cT12 g1_h).tr g3_h) g4_h g5_h _

theorem c_halves_3 {d : Nat} {M : dk_Mem} {Q : Option Value → dk_Mem → Prop} {h r : Nat} (hc : cPc 8 h r M) (hp : M.1 8 2 = nI 0) {T : at_T} (hT : cTS 8 T M) {x : Int32} (hq : ∀ M2 v, dk_fr (cT2 8) M M2 → cTS 8 (at_hT (at_p h r) T 3) M2 → M2.1 8 2 = gbI (at_p h r) → (at_p h r = false → v = at_hv h r x 3) → Q (some (.int v)) M2) : dk_Call (d + 3) mX5_halves [.ref 8, .int x] M Q := by
  by_cases hz : at_by h r = 0
  · have e : at_p h r = true := decide_eq_true hz
    rw [e] at hq
    exact c_halves_P_3 hc hp hT hz (fun M2 a b c v => hq M2 v a b c (fun z => by cases z))
  · have e : at_p h r = false := decide_eq_false hz
    rw [e] at hq
    exact c_halves_N_3 hc hp hT hz (fun M2 a b c => hq M2 _ a b c (fun _ => rfl))

theorem c_turns_3 {d : Nat} {M : dk_Mem} {Q : Option Value → dk_Mem → Prop} {h r : Nat} (hc : cPc 8 h r M) (hp : M.1 8 2 = nI 0) {T : at_T} (hT : cTS 8 T M) {x : Int32} (hq : ∀ M2 v, dk_fr (cT2 8) M M2 → cTS 8 (at_rT (at_p h r) h r x T 3) M2 → M2.1 8 2 = gbI (at_p h r) → (at_p h r = false → v = at_rv h r x T 3) → Q (some (.int v)) M2) : dk_Call (d + 6) mX1_turns [.ref 8, .int x] M Q := by
  by_cases hz : at_by h r = 0
  · have e : at_p h r = true := decide_eq_true hz
    rw [e] at hq
    exact c_turns_P_3 hc hp hT hz (fun M2 a b c v => hq M2 v a b c (fun z => by cases z))
  · have e : at_p h r = false := decide_eq_false hz
    rw [e] at hq
    exact c_turns_N_3 hc hp hT hz (fun M2 a b c => hq M2 _ a b c (fun _ => rfl))

set_option maxRecDepth 20000 in
theorem c_bg0_4 {d : Nat} {M : dk_Mem} {Q : Option Value → dk_Mem → Prop} (hp : M.1 10 2 = nI 0) {T : at_T} (hT : cTS 10 T M) {b : Nat} (hq : ∀ M2, dk_fr (cT1 10) M M2 → cTS 10 (at_b T b) M2 → Q none M2) : dk_Call d mX5_began [.ref 10, .int (nI b)] M Q := by
  have tl := hT.2.1
  refine dk_enter [some (.ref 10), some (.int (nI b))] (by decide) (fun _ => rfl) (fun _ => Nat.le_of_ble_eq_true rfl) ?_
  refine w_al0 (n := 1) dX5_began_0 rfl ?_
  refine g_Z (n := 4) f_X5_19_3 pl_10 dX5_began_1 rfl ?_
  rw [hp]
  refine w_if_ne (n := 7) 16 dX5_began_4 (by decide) rfl (fun z4_h => ?_) (fun z4_h => ?_)
  · skip
    refine w_ret dX5_began_16 rfl ?_
    first | exact absurd rfl z4_h | (rw [nI_ltI (by omega) (by decide)] at z13_h; have e : at_b T b = T := if_neg (by omega); rw [e] at hq; exact hq M dk_fr.rf hT)
  · skip
    refine w_al0 (n := 8) dX5_began_7 rfl ?_
    refine g_I (n := 11) f_X5_15_3 pl_10 dX5_began_8 rfl ?_
    rw [hT.1]
    refine w_bipush (n := 13) (nI 30) dX5_began_11 (by decide) rfl ?_
    refine w_ic_lt (n := 16) 17 dX5_began_13 (by decide) rfl (fun z13_h => ?_) (fun z13_h => ?_)
    · skip
      refine w_al0 (n := 18) dX5_began_17 rfl ?_
      refine g_R (n := 21) f_X5_9_3 pl_10 rf_10_0 dX5_began_18 rfl ?_
      refine w_al0 (n := 22) dX5_began_21 rfl ?_
      refine g_I (n := 25) f_X5_15_3 pl_10 dX5_began_22 rfl ?_
      refine w_il1 (n := 26) dX5_began_25 rfl ?_
      refine i_iast (n := 27) pl_11 (j := T.1) hT.1 (by rw [nI_ltI (by omega) (by decide)] at z13_h; omega) (by decide) dX5_began_26 rfl ?_
      refine w_al0 (n := 28) dX5_began_27 rfl ?_
      refine w_dup (n := 29) rfl dX5_began_28 rfl ?_
      refine g_I (n := 32) f_X5_15_3 pl_10 dX5_began_29 rfl ?_
      rw [dk_put_k (by omega), hT.1]
      refine w_iconst (n := 33) (nI 1) dX5_began_32 (by decide) rfl ?_
      refine w_iadd (n := 34) dX5_began_33 rfl ?_
      rw [nI_add]
      refine p_I (n := 37) f_X5_15_3 pl_10 dX5_began_34 rfl ?_
      refine w_ret dX5_began_37 rfl ?_
      rw [nI_ltI (by omega) (by decide)] at z13_h
      have e : at_b T b = (T.1 + 1, fun i => if i = T.1 then nI b else T.2 i) := if_pos (by omega)
      rw [e] at hq
      refine hq _ ((dk_fr.rf.put (Or.inr rfl)).put (Or.inl ⟨rfl, rfl⟩)) ⟨dk_put_s, (by show T.1 + 1 ≤ 30; omega), fun i hi => ?_⟩
      have hi2_h : i < T.1 + 1 := hi
      rw [dk_put_k (by omega)]
      by_cases ei : i = T.1
      · rw [ei, dk_put_s]; exact (if_pos rfl).symm
      · rw [dk_put_k (by omega)]; exact (hT.2.2 i (by omega)).trans (if_neg ei).symm
    · skip
      refine w_ret dX5_began_16 rfl ?_
      first | exact absurd rfl z4_h | (rw [nI_ltI (by omega) (by decide)] at z13_h; have e : at_b T b = T := if_neg (by omega); rw [e] at hq; exact hq M dk_fr.rf hT)

set_option maxRecDepth 20000 in
theorem c_bg1_4 {d : Nat} {M : dk_Mem} {Q : Option Value → dk_Mem → Prop} (hp : M.1 10 2 = nI 1) {b : Nat} (hq : Q none M) : dk_Call d mX5_began [.ref 10, .int (nI b)] M Q := by
  refine dk_enter [some (.ref 10), some (.int (nI b))] (by decide) (fun _ => rfl) (fun _ => Nat.le_of_ble_eq_true rfl) ?_
  refine w_al0 (n := 1) dX5_began_0 rfl ?_
  refine g_Z (n := 4) f_X5_19_3 pl_10 dX5_began_1 rfl ?_
  rw [hp]
  refine w_if_ne (n := 7) 16 dX5_began_4 (by decide) rfl (fun z4_h => ?_) (fun z4_h => ?_)
  · skip
    refine w_ret dX5_began_16 rfl ?_
    exact hq
  · skip
    exact absurd z4_h (by decide)

set_option maxRecDepth 20000 in
theorem c_pti_4 {d : Nat} {M : dk_Mem} {Q : Option Value → dk_Mem → Prop} {h r : Nat} (hc : cPc 10 h r M) (hp : M.1 10 2 = nI 0) {T : at_T} (hT : cTS 10 T M) {x : Int32} (hq : ∀ M2, dk_fr (cT1 10) M M2 → cTS 10 (at_b T 10) M2 → Q (some (.int (x * nI 10 - nI h))) M2) : dk_Call (d + 1) mX5_tips [.ref 10, .int x] M Q := by
  refine dk_enter [some (.ref 10), some (.int x)] (by decide) (fun _ => rfl) (fun _ => Nat.le_of_ble_eq_true rfl) ?_
  refine w_al0 (n := 1) dX5_tips_0 rfl ?_
  refine w_bipush (n := 3) (nI 10) dX5_tips_1 (by decide) rfl ?_
  refine w_cU1 (n := 6) (C := RX3) pl_10 cl_3 s0_X5_began ku_X5_29_3 (Nat.le_of_ble_eq_true rfl) dX5_tips_3 rfl (c_bg0_4 hp hT (fun M2 g1_h g2_h => ?_))
  refine w_il1 (n := 7) dX5_tips_6 rfl ?_
  refine w_bipush (n := 9) (nI 10) dX5_tips_7 (by decide) rfl ?_
  refine w_imul (n := 10) dX5_tips_9 rfl ?_
  refine w_al0 (n := 11) dX5_tips_10 rfl ?_
  refine g_I (n := 14) f_X5_23_3 pl_10 dX5_tips_11 rfl ?_
  rw [show M2.1 10 3 = nI h from (g1_h.2 10 3 (by unfold cT1; omega)).trans hc.1]
  refine w_isub (n := 15) dX5_tips_14 rfl ?_
  refine w_retI dX5_tips_15 rfl ?_
  exact hq M2 g1_h g2_h

theorem c_tips_4 {d : Nat} {M : dk_Mem} {Q : Option Value → dk_Mem → Prop} {h r : Nat} (hc : cPc 10 h r M) (hp : M.1 10 2 = nI 0) {T : at_T} (hT : cTS 10 T M) {x : Int32} (hq : ∀ M2, dk_fr (cT1 10) M M2 → cTS 10 ((at_tips h x T 4).2) M2 → Q (some (.int ((at_tips h x T 4).1))) M2) : dk_Call (d + 2) mX5_tips [.ref 10, .int x] M Q := c_pti_4 hc hp hT hq
set_option maxRecDepth 20000 in
theorem c_pta_4 {d : Nat} {M : dk_Mem} {Q : Option Value → dk_Mem → Prop} {h r : Nat} (hc : cPc 10 h r M) (hp : M.1 10 2 = nI 0) {T : at_T} (hT : cTS 10 T M) {x : Int32} (hq : ∀ M2, dk_fr (cT1 10) M M2 → cTS 10 ((at_pt 4 h r x T).2) M2 → Q (some (.int ((at_pt 4 h r x T).1))) M2) : dk_Call (d + 3) mX5_taps [.ref 10, .int x] M Q := by
  refine dk_enter [some (.ref 10), some (.int x)] (by decide) (fun _ => rfl) (fun _ => Nat.le_of_ble_eq_true rfl) ?_
  refine w_al0 (n := 1) dX5_taps_0 rfl ?_
  refine w_bipush (n := 3) (nI 11) dX5_taps_1 (by decide) rfl ?_
  refine w_cU1 (n := 6) (C := RX3) pl_10 cl_3 s0_X5_began ku_X5_29_3 (Nat.le_of_ble_eq_true rfl) dX5_taps_3 rfl (c_bg0_4 hp hT (fun M2 g1_h g2_h => ?_))
  refine w_al0 (n := 7) dX5_taps_6 rfl ?_
  refine w_il1 (n := 8) dX5_taps_7 rfl ?_
  refine w_cU1 (n := 11) (C := RX3) pl_10 cl_3 s0_X5_tips ku_X5_33_3 (Nat.le_of_ble_eq_true rfl) dX5_taps_8 rfl (c_tips_4 (hc.T1 g1_h) (cp_T1 g1_h hp) g2_h (fun M3 g3_h g4_h => ?_))
  refine w_iconst (n := 12) (nI 3) dX5_taps_11 (by decide) rfl ?_
  refine w_al0 (n := 13) dX5_taps_12 rfl ?_
  refine g_I (n := 16) f_X5_26_3 pl_10 dX5_taps_13 rfl ?_
  rw [show M3.1 10 4 = nI r from ((hc.T1 g1_h).T1 g3_h).2]
  refine w_imul (n := 17) dX5_taps_16 rfl ?_
  refine w_iadd (n := 18) dX5_taps_17 rfl ?_
  refine w_retI dX5_taps_18 rfl ?_
  exact hq M3 (g1_h.tr g3_h) g4_h

theorem c_taps_4 {d : Nat} {M : dk_Mem} {Q : Option Value → dk_Mem → Prop} {h r : Nat} (hc : cPc 10 h r M) (hp : M.1 10 2 = nI 0) {T : at_T} (hT : cTS 10 T M) {x : Int32} (hq : ∀ M2, dk_fr (cT1 10) M M2 → cTS 10 ((at_taps h r x T 4).2) M2 → Q (some (.int ((at_taps h r x T 4).1))) M2) : dk_Call (d + 4) mX5_taps [.ref 10, .int x] M Q := c_pta_4 hc hp hT hq
set_option maxRecDepth 20000 in
theorem c_ph_N_4 {d : Nat} {M : dk_Mem} {Q : Option Value → dk_Mem → Prop} {h r : Nat} (hc : cPc 10 h r M) (hp : M.1 10 2 = nI 0) {T : at_T} (hT : cTS 10 T M) {x : Int32} (hz : ¬ at_by h r = 0) (hq : ∀ M2, dk_fr (cT2 10) M M2 → cTS 10 (at_b T 12) M2 → M2.1 10 2 = nI 0 → Q (some (.int (x / at_by h r))) M2) : dk_Call (d + 1) mX5_halves [.ref 10, .int x] M Q := by
  refine dk_enter [some (.ref 10), some (.int x), none] (by decide) (fun _ => rfl) (fun _ => Nat.le_of_ble_eq_true rfl) ?_
  refine w_al0 (n := 1) dX5_halves_0 rfl ?_
  refine w_bipush (n := 3) (nI 12) dX5_halves_1 (by decide) rfl ?_
  refine w_cU1 (n := 6) (C := RX3) pl_10 cl_3 s0_X5_began ku_X5_29_3 (Nat.le_of_ble_eq_true rfl) dX5_halves_3 rfl (c_bg0_4 hp hT (fun M2 g1_h g2_h => ?_))
  refine w_al0 (n := 7) dX5_halves_6 rfl ?_
  refine g_I (n := 10) f_X5_26_3 pl_10 dX5_halves_7 rfl ?_
  rw [show M2.1 10 4 = nI r from (hc.T1 g1_h).2]
  refine w_al0 (n := 11) dX5_halves_10 rfl ?_
  refine g_I (n := 14) f_X5_23_3 pl_10 dX5_halves_11 rfl ?_
  rw [show M2.1 10 3 = nI h from (g1_h.2 10 3 (by unfold cT1; omega)).trans hc.1]
  refine w_isub (n := 15) dX5_halves_14 rfl ?_
  refine w_iconst (n := 16) (nI 4) dX5_halves_15 (by decide) rfl ?_
  refine w_iadd (n := 17) dX5_halves_16 rfl ?_
  rw [show nI r - nI h + nI 4 = at_by h r from rfl]
  refine w_is2 (n := 18) dX5_halves_17 rfl rfl (by decide) ?_
  refine w_il2 (n := 19) dX5_halves_18 rfl ?_
  refine w_if_ne (n := 22) 29 dX5_halves_19 (by decide) rfl (fun z19_h => ?_) (fun z19_h => ?_)
  · skip
    refine w_il1 (n := 30) dX5_halves_29 rfl ?_
    refine w_il2 (n := 31) dX5_halves_30 rfl ?_
    refine w_idiv (n := 32) hz dX5_halves_31 rfl ?_
    refine w_retI dX5_halves_32 rfl ?_
    exact hq M2 (cT12 g1_h) g2_h (cp_T1 g1_h hp)
  · skip
    exact absurd z19_h hz

set_option maxRecDepth 20000 in
theorem c_gh_N_4 {d : Nat} {M : dk_Mem} {Q : Option Value → dk_Mem → Prop} {h r : Nat} (hc : cPc 10 h r M) (hp : M.1 10 2 = nI 0) {T : at_T} (hT : cTS 10 T M) {x : Int32} (hz : ¬ at_by h r = 0) (hq : ∀ M2, dk_fr (cT2 10) M M2 → cTS 10 (at_b (at_b T 40) 12) M2 → M2.1 10 2 = nI 0 → Q (some (.int (x / at_by h r + nI 5))) M2) : dk_Call (d + 2) mX3_halves [.ref 10, .int x] M Q := by
  refine dk_enter [some (.ref 10), some (.int x)] (by decide) (fun _ => rfl) (fun _ => Nat.le_of_ble_eq_true rfl) ?_
  refine w_al0 (n := 1) dX3_halves_0 rfl ?_
  refine w_bipush (n := 3) (nI 40) dX3_halves_1 (by decide) rfl ?_
  refine w_cU1 (n := 6) (C := RX3) pl_10 cl_3 s0_X5_began ku_X3_20_3 (Nat.le_of_ble_eq_true rfl) dX3_halves_3 rfl (c_bg0_4 hp hT (fun M2 g1_h g2_h => ?_))
  refine w_al0 (n := 7) dX3_halves_6 rfl ?_
  refine w_il1 (n := 8) dX3_halves_7 rfl ?_
  refine w_cP1 (n := 11) pl_10 cl_3 s0_X5_halves kp_X3_26 (Nat.le_of_ble_eq_true rfl) dX3_halves_8 rfl (c_ph_N_4 (hc.T1 g1_h) (cp_T1 g1_h hp) g2_h hz (fun M3 g3_h g4_h g5_h => ?_))
  refine w_iconst (n := 12) (nI 5) dX3_halves_11 (by decide) rfl ?_
  refine w_iadd (n := 13) dX3_halves_12 rfl ?_
  refine w_retI dX3_halves_13 rfl ?_
  exact hq M3 ((cT12 g1_h).tr g3_h) g4_h g5_h

theorem c_halves_N_4 {d : Nat} {M : dk_Mem} {Q : Option Value → dk_Mem → Prop} {h r : Nat} (hc : cPc 10 h r M) (hp : M.1 10 2 = nI 0) {T : at_T} (hT : cTS 10 T M) {x : Int32} (hz : ¬ at_by h r = 0) (hq : ∀ M2, dk_fr (cT2 10) M M2 → cTS 10 (at_hT false T 4) M2 → M2.1 10 2 = nI 0 → Q (some (.int (at_hv h r x 4))) M2) : dk_Call (d + 3) mX3_halves [.ref 10, .int x] M Q := c_gh_N_4 hc hp hT hz hq
set_option maxRecDepth 20000 in
theorem c_pu_N_4 {d : Nat} {M : dk_Mem} {Q : Option Value → dk_Mem → Prop} {h r : Nat} (hc : cPc 10 h r M) (hp : M.1 10 2 = nI 0) {T : at_T} (hT : cTS 10 T M) {x : Int32} (hz : ¬ at_by h r = 0) (hq : ∀ M2, dk_fr (cT2 10) M M2 → cTS 10 (at_uT false h r x T 4) M2 → M2.1 10 2 = nI 0 → Q (some (.int (at_uv h r x T 4))) M2) : dk_Call (d + 5) mX5_turns [.ref 10, .int x] M Q := by
  refine dk_enter [some (.ref 10), some (.int x)] (by decide) (fun _ => rfl) (fun _ => Nat.le_of_ble_eq_true rfl) ?_
  refine w_al0 (n := 1) dX5_turns_0 rfl ?_
  refine w_bipush (n := 3) (nI 13) dX5_turns_1 (by decide) rfl ?_
  refine w_cU1 (n := 6) (C := RX3) pl_10 cl_3 s0_X5_began ku_X5_29_3 (Nat.le_of_ble_eq_true rfl) dX5_turns_3 rfl (c_bg0_4 hp hT (fun M2 g1_h g2_h => ?_))
  refine w_al0 (n := 7) dX5_turns_6 rfl ?_
  refine w_il1 (n := 8) dX5_turns_7 rfl ?_
  refine w_cU1 (n := 11) (C := RX3) pl_10 cl_3 s0_X5_taps ku_X5_37_3 (Nat.le_of_ble_eq_true rfl) dX5_turns_8 rfl (c_taps_4 (hc.T1 g1_h) (cp_T1 g1_h hp) g2_h (fun M3 g3_h g4_h => ?_))
  refine w_al0 (n := 12) dX5_turns_11 rfl ?_
  refine w_il1 (n := 13) dX5_turns_12 rfl ?_
  refine w_cU1 (n := 16) (C := RX3) pl_10 cl_3 s0_X3_halves ku_X5_40_3 (Nat.le_of_ble_eq_true rfl) dX5_turns_13 rfl (c_halves_N_4 ((hc.T1 g1_h).T1 g3_h) (cp_T1 g3_h (cp_T1 g1_h hp)) g4_h hz (fun M4 g6_h g7_h g8_h => ?_))
  refine w_ixor (n := 17) dX5_turns_16 rfl ?_
  refine w_retI dX5_turns_17 rfl ?_
  exact hq M4 ((cT12 (g1_h.tr g3_h)).tr g6_h) g7_h g8_h

theorem c_turns_N_4 {d : Nat} {M : dk_Mem} {Q : Option Value → dk_Mem → Prop} {h r : Nat} (hc : cPc 10 h r M) (hp : M.1 10 2 = nI 0) {T : at_T} (hT : cTS 10 T M) {x : Int32} (hz : ¬ at_by h r = 0) (hq : ∀ M2, dk_fr (cT2 10) M M2 → cTS 10 (at_rT false h r x T 4) M2 → M2.1 10 2 = nI 0 → Q (some (.int (at_rv h r x T 4))) M2) : dk_Call (d + 6) mX5_turns [.ref 10, .int x] M Q := c_pu_N_4 hc hp hT hz hq
set_option maxRecDepth 20000 in
theorem c_ph_P_4 {d : Nat} {M : dk_Mem} {Q : Option Value → dk_Mem → Prop} {h r : Nat} (hc : cPc 10 h r M) (hp : M.1 10 2 = nI 0) {T : at_T} (hT : cTS 10 T M) {x : Int32} (hz : at_by h r = 0) (hq : ∀ M2, dk_fr (cT2 10) M M2 → cTS 10 (at_b T 12) M2 → M2.1 10 2 = nI 1 → ∀ v, Q (some (.int v)) M2) : dk_Call (d + 1) mX5_halves [.ref 10, .int x] M Q := by
  refine dk_enter [some (.ref 10), some (.int x), none] (by decide) (fun _ => rfl) (fun _ => Nat.le_of_ble_eq_true rfl) ?_
  refine w_al0 (n := 1) dX5_halves_0 rfl ?_
  refine w_bipush (n := 3) (nI 12) dX5_halves_1 (by decide) rfl ?_
  refine w_cU1 (n := 6) (C := RX3) pl_10 cl_3 s0_X5_began ku_X5_29_3 (Nat.le_of_ble_eq_true rfl) dX5_halves_3 rfl (c_bg0_4 hp hT (fun M2 g1_h g2_h => ?_))
  refine w_al0 (n := 7) dX5_halves_6 rfl ?_
  refine g_I (n := 10) f_X5_26_3 pl_10 dX5_halves_7 rfl ?_
  rw [show M2.1 10 4 = nI r from (hc.T1 g1_h).2]
  refine w_al0 (n := 11) dX5_halves_10 rfl ?_
  refine g_I (n := 14) f_X5_23_3 pl_10 dX5_halves_11 rfl ?_
  rw [show M2.1 10 3 = nI h from (g1_h.2 10 3 (by unfold cT1; omega)).trans hc.1]
  refine w_isub (n := 15) dX5_halves_14 rfl ?_
  refine w_iconst (n := 16) (nI 4) dX5_halves_15 (by decide) rfl ?_
  refine w_iadd (n := 17) dX5_halves_16 rfl ?_
  rw [show nI r - nI h + nI 4 = at_by h r from rfl]
  refine w_is2 (n := 18) dX5_halves_17 rfl rfl (by decide) ?_
  refine w_il2 (n := 19) dX5_halves_18 rfl ?_
  refine w_if_ne (n := 22) 29 dX5_halves_19 (by decide) rfl (fun z19_h => ?_) (fun z19_h => ?_)
  · skip
    exact absurd hz z19_h
  · skip
    refine w_al0 (n := 23) dX5_halves_22 rfl ?_
    refine w_iconst (n := 24) (nI 1) dX5_halves_23 (by decide) rfl ?_
    refine p_Z (n := 27) (by decide) f_X5_19_3 pl_10 dX5_halves_24 rfl ?_
    refine w_iconst (n := 28) (nI 0) dX5_halves_27 (by decide) rfl ?_
    refine w_retI dX5_halves_28 rfl ?_
    exact hq _ ((cT12 g1_h).put (Or.inl ⟨rfl, Or.inr rfl⟩)) ⟨by rw [dk_put_k (by omega)]; exact g2_h.1, g2_h.2.1, fun i hi => by rw [dk_put_k (by omega)]; exact g2_h.2.2 i hi⟩ dk_put_s _

set_option maxRecDepth 20000 in
theorem c_gh_P_4 {d : Nat} {M : dk_Mem} {Q : Option Value → dk_Mem → Prop} {h r : Nat} (hc : cPc 10 h r M) (hp : M.1 10 2 = nI 0) {T : at_T} (hT : cTS 10 T M) {x : Int32} (hz : at_by h r = 0) (hq : ∀ M2, dk_fr (cT2 10) M M2 → cTS 10 (at_b (at_b T 40) 12) M2 → M2.1 10 2 = nI 1 → ∀ v, Q (some (.int v)) M2) : dk_Call (d + 2) mX3_halves [.ref 10, .int x] M Q := by
  refine dk_enter [some (.ref 10), some (.int x)] (by decide) (fun _ => rfl) (fun _ => Nat.le_of_ble_eq_true rfl) ?_
  refine w_al0 (n := 1) dX3_halves_0 rfl ?_
  refine w_bipush (n := 3) (nI 40) dX3_halves_1 (by decide) rfl ?_
  refine w_cU1 (n := 6) (C := RX3) pl_10 cl_3 s0_X5_began ku_X3_20_3 (Nat.le_of_ble_eq_true rfl) dX3_halves_3 rfl (c_bg0_4 hp hT (fun M2 g1_h g2_h => ?_))
  refine w_al0 (n := 7) dX3_halves_6 rfl ?_
  refine w_il1 (n := 8) dX3_halves_7 rfl ?_
  refine w_cP1 (n := 11) pl_10 cl_3 s0_X5_halves kp_X3_26 (Nat.le_of_ble_eq_true rfl) dX3_halves_8 rfl (c_ph_P_4 (hc.T1 g1_h) (cp_T1 g1_h hp) g2_h hz (fun M3 g3_h g4_h g5_h v => ?_))
  refine w_iconst (n := 12) (nI 5) dX3_halves_11 (by decide) rfl ?_
  refine w_iadd (n := 13) dX3_halves_12 rfl ?_
  refine w_retI dX3_halves_13 rfl ?_
  exact hq M3 ((cT12 g1_h).tr g3_h) g4_h g5_h _

theorem c_halves_P_4 {d : Nat} {M : dk_Mem} {Q : Option Value → dk_Mem → Prop} {h r : Nat} (hc : cPc 10 h r M) (hp : M.1 10 2 = nI 0) {T : at_T} (hT : cTS 10 T M) {x : Int32} (hz : at_by h r = 0) (hq : ∀ M2, dk_fr (cT2 10) M M2 → cTS 10 (at_hT true T 4) M2 → M2.1 10 2 = nI 1 → ∀ v, Q (some (.int v)) M2) : dk_Call (d + 3) mX3_halves [.ref 10, .int x] M Q := c_gh_P_4 hc hp hT hz hq
set_option maxRecDepth 20000 in
theorem c_pu_P_4 {d : Nat} {M : dk_Mem} {Q : Option Value → dk_Mem → Prop} {h r : Nat} (hc : cPc 10 h r M) (hp : M.1 10 2 = nI 0) {T : at_T} (hT : cTS 10 T M) {x : Int32} (hz : at_by h r = 0) (hq : ∀ M2, dk_fr (cT2 10) M M2 → cTS 10 (at_uT true h r x T 4) M2 → M2.1 10 2 = nI 1 → ∀ v, Q (some (.int v)) M2) : dk_Call (d + 5) mX5_turns [.ref 10, .int x] M Q := by
  refine dk_enter [some (.ref 10), some (.int x)] (by decide) (fun _ => rfl) (fun _ => Nat.le_of_ble_eq_true rfl) ?_
  refine w_al0 (n := 1) dX5_turns_0 rfl ?_
  refine w_bipush (n := 3) (nI 13) dX5_turns_1 (by decide) rfl ?_
  refine w_cU1 (n := 6) (C := RX3) pl_10 cl_3 s0_X5_began ku_X5_29_3 (Nat.le_of_ble_eq_true rfl) dX5_turns_3 rfl (c_bg0_4 hp hT (fun M2 g1_h g2_h => ?_))
  refine w_al0 (n := 7) dX5_turns_6 rfl ?_
  refine w_il1 (n := 8) dX5_turns_7 rfl ?_
  refine w_cU1 (n := 11) (C := RX3) pl_10 cl_3 s0_X5_taps ku_X5_37_3 (Nat.le_of_ble_eq_true rfl) dX5_turns_8 rfl (c_taps_4 (hc.T1 g1_h) (cp_T1 g1_h hp) g2_h (fun M3 g3_h g4_h => ?_))
  refine w_al0 (n := 12) dX5_turns_11 rfl ?_
  refine w_il1 (n := 13) dX5_turns_12 rfl ?_
  refine w_cU1 (n := 16) (C := RX3) pl_10 cl_3 s0_X3_halves ku_X5_40_3 (Nat.le_of_ble_eq_true rfl) dX5_turns_13 rfl (c_halves_P_4 ((hc.T1 g1_h).T1 g3_h) (cp_T1 g3_h (cp_T1 g1_h hp)) g4_h hz (fun M4 g6_h g7_h g8_h v => ?_))
  refine w_ixor (n := 17) dX5_turns_16 rfl ?_
  refine w_retI dX5_turns_17 rfl ?_
  exact hq M4 ((cT12 (g1_h.tr g3_h)).tr g6_h) g7_h g8_h _

theorem c_turns_P_4 {d : Nat} {M : dk_Mem} {Q : Option Value → dk_Mem → Prop} {h r : Nat} (hc : cPc 10 h r M) (hp : M.1 10 2 = nI 0) {T : at_T} (hT : cTS 10 T M) {x : Int32} (hz : at_by h r = 0) (hq : ∀ M2, dk_fr (cT2 10) M M2 → cTS 10 (at_rT true h r x T 4) M2 → M2.1 10 2 = nI 1 → ∀ v, Q (some (.int v)) M2) : dk_Call (d + 6) mX5_turns [.ref 10, .int x] M Q := c_pu_P_4 hc hp hT hz hq
theorem c_halves_4 {d : Nat} {M : dk_Mem} {Q : Option Value → dk_Mem → Prop} {h r : Nat} (hc : cPc 10 h r M) (hp : M.1 10 2 = nI 0) {T : at_T} (hT : cTS 10 T M) {x : Int32} (hq : ∀ M2 v, dk_fr (cT2 10) M M2 → cTS 10 (at_hT (at_p h r) T 4) M2 → M2.1 10 2 = gbI (at_p h r) → (at_p h r = false → v = at_hv h r x 4) → Q (some (.int v)) M2) : dk_Call (d + 3) mX3_halves [.ref 10, .int x] M Q := by
  by_cases hz : at_by h r = 0
  · have e : at_p h r = true := decide_eq_true hz
    rw [e] at hq
    exact c_halves_P_4 hc hp hT hz (fun M2 a b c v => hq M2 v a b c (fun z => by cases z))
  · have e : at_p h r = false := decide_eq_false hz
    rw [e] at hq
    exact c_halves_N_4 hc hp hT hz (fun M2 a b c => hq M2 _ a b c (fun _ => rfl))

theorem c_turns_4 {d : Nat} {M : dk_Mem} {Q : Option Value → dk_Mem → Prop} {h r : Nat} (hc : cPc 10 h r M) (hp : M.1 10 2 = nI 0) {T : at_T} (hT : cTS 10 T M) {x : Int32} (hq : ∀ M2 v, dk_fr (cT2 10) M M2 → cTS 10 (at_rT (at_p h r) h r x T 4) M2 → M2.1 10 2 = gbI (at_p h r) → (at_p h r = false → v = at_rv h r x T 4) → Q (some (.int v)) M2) : dk_Call (d + 6) mX5_turns [.ref 10, .int x] M Q := by
  by_cases hz : at_by h r = 0
  · have e : at_p h r = true := decide_eq_true hz
    rw [e] at hq
    exact c_turns_P_4 hc hp hT hz (fun M2 a b c v => hq M2 v a b c (fun z => by cases z))
  · have e : at_p h r = false := decide_eq_false hz
    rw [e] at hq
    exact c_turns_N_4 hc hp hT hz (fun M2 a b c => hq M2 _ a b c (fun _ => rfl))

set_option maxRecDepth 20000 in
theorem c_bg0_5 {d : Nat} {M : dk_Mem} {Q : Option Value → dk_Mem → Prop} (hp : M.1 12 2 = nI 0) {T : at_T} (hT : cTS 12 T M) {b : Nat} (hq : ∀ M2, dk_fr (cT1 12) M M2 → cTS 12 (at_b T b) M2 → Q none M2) : dk_Call d mX5_began [.ref 12, .int (nI b)] M Q := by
  have tl := hT.2.1
  refine dk_enter [some (.ref 12), some (.int (nI b))] (by decide) (fun _ => rfl) (fun _ => Nat.le_of_ble_eq_true rfl) ?_
  refine w_al0 (n := 1) dX5_began_0 rfl ?_
  refine g_Z (n := 4) f_X5_19_9 pl_12 dX5_began_1 rfl ?_
  rw [hp]
  refine w_if_ne (n := 7) 16 dX5_began_4 (by decide) rfl (fun z4_h => ?_) (fun z4_h => ?_)
  · skip
    refine w_ret dX5_began_16 rfl ?_
    first | exact absurd rfl z4_h | (rw [nI_ltI (by omega) (by decide)] at z13_h; have e : at_b T b = T := if_neg (by omega); rw [e] at hq; exact hq M dk_fr.rf hT)
  · skip
    refine w_al0 (n := 8) dX5_began_7 rfl ?_
    refine g_I (n := 11) f_X5_15_9 pl_12 dX5_began_8 rfl ?_
    rw [hT.1]
    refine w_bipush (n := 13) (nI 30) dX5_began_11 (by decide) rfl ?_
    refine w_ic_lt (n := 16) 17 dX5_began_13 (by decide) rfl (fun z13_h => ?_) (fun z13_h => ?_)
    · skip
      refine w_al0 (n := 18) dX5_began_17 rfl ?_
      refine g_R (n := 21) f_X5_9_9 pl_12 rf_12_0 dX5_began_18 rfl ?_
      refine w_al0 (n := 22) dX5_began_21 rfl ?_
      refine g_I (n := 25) f_X5_15_9 pl_12 dX5_began_22 rfl ?_
      refine w_il1 (n := 26) dX5_began_25 rfl ?_
      refine i_iast (n := 27) pl_13 (j := T.1) hT.1 (by rw [nI_ltI (by omega) (by decide)] at z13_h; omega) (by decide) dX5_began_26 rfl ?_
      refine w_al0 (n := 28) dX5_began_27 rfl ?_
      refine w_dup (n := 29) rfl dX5_began_28 rfl ?_
      refine g_I (n := 32) f_X5_15_9 pl_12 dX5_began_29 rfl ?_
      rw [dk_put_k (by omega), hT.1]
      refine w_iconst (n := 33) (nI 1) dX5_began_32 (by decide) rfl ?_
      refine w_iadd (n := 34) dX5_began_33 rfl ?_
      rw [nI_add]
      refine p_I (n := 37) f_X5_15_9 pl_12 dX5_began_34 rfl ?_
      refine w_ret dX5_began_37 rfl ?_
      rw [nI_ltI (by omega) (by decide)] at z13_h
      have e : at_b T b = (T.1 + 1, fun i => if i = T.1 then nI b else T.2 i) := if_pos (by omega)
      rw [e] at hq
      refine hq _ ((dk_fr.rf.put (Or.inr rfl)).put (Or.inl ⟨rfl, rfl⟩)) ⟨dk_put_s, (by show T.1 + 1 ≤ 30; omega), fun i hi => ?_⟩
      have hi2_h : i < T.1 + 1 := hi
      rw [dk_put_k (by omega)]
      by_cases ei : i = T.1
      · rw [ei, dk_put_s]; exact (if_pos rfl).symm
      · rw [dk_put_k (by omega)]; exact (hT.2.2 i (by omega)).trans (if_neg ei).symm
    · skip
      refine w_ret dX5_began_16 rfl ?_
      first | exact absurd rfl z4_h | (rw [nI_ltI (by omega) (by decide)] at z13_h; have e : at_b T b = T := if_neg (by omega); rw [e] at hq; exact hq M dk_fr.rf hT)

set_option maxRecDepth 20000 in
theorem c_bg1_5 {d : Nat} {M : dk_Mem} {Q : Option Value → dk_Mem → Prop} (hp : M.1 12 2 = nI 1) {b : Nat} (hq : Q none M) : dk_Call d mX5_began [.ref 12, .int (nI b)] M Q := by
  refine dk_enter [some (.ref 12), some (.int (nI b))] (by decide) (fun _ => rfl) (fun _ => Nat.le_of_ble_eq_true rfl) ?_
  refine w_al0 (n := 1) dX5_began_0 rfl ?_
  refine g_Z (n := 4) f_X5_19_9 pl_12 dX5_began_1 rfl ?_
  rw [hp]
  refine w_if_ne (n := 7) 16 dX5_began_4 (by decide) rfl (fun z4_h => ?_) (fun z4_h => ?_)
  · skip
    refine w_ret dX5_began_16 rfl ?_
    exact hq
  · skip
    exact absurd z4_h (by decide)

set_option maxRecDepth 20000 in
theorem c_pti_5 {d : Nat} {M : dk_Mem} {Q : Option Value → dk_Mem → Prop} {h r : Nat} (hc : cPc 12 h r M) (hp : M.1 12 2 = nI 0) {T : at_T} (hT : cTS 12 T M) {x : Int32} (hq : ∀ M2, dk_fr (cT1 12) M M2 → cTS 12 (at_b T 10) M2 → Q (some (.int (x * nI 10 - nI h))) M2) : dk_Call (d + 1) mX5_tips [.ref 12, .int x] M Q := by
  refine dk_enter [some (.ref 12), some (.int x)] (by decide) (fun _ => rfl) (fun _ => Nat.le_of_ble_eq_true rfl) ?_
  refine w_al0 (n := 1) dX5_tips_0 rfl ?_
  refine w_bipush (n := 3) (nI 10) dX5_tips_1 (by decide) rfl ?_
  refine w_cU1 (n := 6) (C := RX9) pl_12 cl_9 s0_X5_began ku_X5_29_9 (Nat.le_of_ble_eq_true rfl) dX5_tips_3 rfl (c_bg0_5 hp hT (fun M2 g1_h g2_h => ?_))
  refine w_il1 (n := 7) dX5_tips_6 rfl ?_
  refine w_bipush (n := 9) (nI 10) dX5_tips_7 (by decide) rfl ?_
  refine w_imul (n := 10) dX5_tips_9 rfl ?_
  refine w_al0 (n := 11) dX5_tips_10 rfl ?_
  refine g_I (n := 14) f_X5_23_9 pl_12 dX5_tips_11 rfl ?_
  rw [show M2.1 12 3 = nI h from (g1_h.2 12 3 (by unfold cT1; omega)).trans hc.1]
  refine w_isub (n := 15) dX5_tips_14 rfl ?_
  refine w_retI dX5_tips_15 rfl ?_
  exact hq M2 g1_h g2_h

set_option maxRecDepth 20000 in
theorem c_pti1_5 {d : Nat} {M : dk_Mem} {Q : Option Value → dk_Mem → Prop} (hp : M.1 12 2 = nI 1) {x : Int32} (hq : ∀ v, Q (some (.int v)) M) : dk_Call (d + 1) mX5_tips [.ref 12, .int x] M Q := by
  refine dk_enter [some (.ref 12), some (.int x)] (by decide) (fun _ => rfl) (fun _ => Nat.le_of_ble_eq_true rfl) ?_
  refine w_al0 (n := 1) dX5_tips_0 rfl ?_
  refine w_bipush (n := 3) (nI 10) dX5_tips_1 (by decide) rfl ?_
  refine w_cU1 (n := 6) (C := RX9) pl_12 cl_9 s0_X5_began ku_X5_29_9 (Nat.le_of_ble_eq_true rfl) dX5_tips_3 rfl (c_bg1_5 hp ?_)
  refine w_il1 (n := 7) dX5_tips_6 rfl ?_
  refine w_bipush (n := 9) (nI 10) dX5_tips_7 (by decide) rfl ?_
  refine w_imul (n := 10) dX5_tips_9 rfl ?_
  refine w_al0 (n := 11) dX5_tips_10 rfl ?_
  refine g_I (n := 14) f_X5_23_9 pl_12 dX5_tips_11 rfl ?_
  refine w_isub (n := 15) dX5_tips_14 rfl ?_
  refine w_retI dX5_tips_15 rfl ?_
  exact hq _

theorem c_tips_5 {d : Nat} {M : dk_Mem} {Q : Option Value → dk_Mem → Prop} {h r : Nat} (hc : cPc 12 h r M) (hp : M.1 12 2 = nI 0) {T : at_T} (hT : cTS 12 T M) {x : Int32} (hq : ∀ M2, dk_fr (cT1 12) M M2 → cTS 12 ((at_tips h x T 5).2) M2 → Q (some (.int ((at_tips h x T 5).1))) M2) : dk_Call (d + 2) mX5_tips [.ref 12, .int x] M Q := c_pti_5 hc hp hT hq
theorem c_tips1_5 {d : Nat} {M : dk_Mem} {Q : Option Value → dk_Mem → Prop} (hp : M.1 12 2 = nI 1) {x : Int32} (hq : ∀ v, Q (some (.int v)) M) : dk_Call (d + 2) mX5_tips [.ref 12, .int x] M Q := c_pti1_5 hp hq
set_option maxRecDepth 20000 in
theorem c_pta_5 {d : Nat} {M : dk_Mem} {Q : Option Value → dk_Mem → Prop} {h r : Nat} (hc : cPc 12 h r M) (hp : M.1 12 2 = nI 0) {T : at_T} (hT : cTS 12 T M) {x : Int32} (hq : ∀ M2, dk_fr (cT1 12) M M2 → cTS 12 ((at_pt 5 h r x T).2) M2 → Q (some (.int ((at_pt 5 h r x T).1))) M2) : dk_Call (d + 3) mX5_taps [.ref 12, .int x] M Q := by
  refine dk_enter [some (.ref 12), some (.int x)] (by decide) (fun _ => rfl) (fun _ => Nat.le_of_ble_eq_true rfl) ?_
  refine w_al0 (n := 1) dX5_taps_0 rfl ?_
  refine w_bipush (n := 3) (nI 11) dX5_taps_1 (by decide) rfl ?_
  refine w_cU1 (n := 6) (C := RX9) pl_12 cl_9 s0_X5_began ku_X5_29_9 (Nat.le_of_ble_eq_true rfl) dX5_taps_3 rfl (c_bg0_5 hp hT (fun M2 g1_h g2_h => ?_))
  refine w_al0 (n := 7) dX5_taps_6 rfl ?_
  refine w_il1 (n := 8) dX5_taps_7 rfl ?_
  refine w_cU1 (n := 11) (C := RX9) pl_12 cl_9 s0_X5_tips ku_X5_33_9 (Nat.le_of_ble_eq_true rfl) dX5_taps_8 rfl (c_tips_5 (hc.T1 g1_h) (cp_T1 g1_h hp) g2_h (fun M3 g3_h g4_h => ?_))
  refine w_iconst (n := 12) (nI 3) dX5_taps_11 (by decide) rfl ?_
  refine w_al0 (n := 13) dX5_taps_12 rfl ?_
  refine g_I (n := 16) f_X5_26_9 pl_12 dX5_taps_13 rfl ?_
  rw [show M3.1 12 4 = nI r from ((hc.T1 g1_h).T1 g3_h).2]
  refine w_imul (n := 17) dX5_taps_16 rfl ?_
  refine w_iadd (n := 18) dX5_taps_17 rfl ?_
  refine w_retI dX5_taps_18 rfl ?_
  exact hq M3 (g1_h.tr g3_h) g4_h

set_option maxRecDepth 20000 in
theorem c_taps_5 {d : Nat} {M : dk_Mem} {Q : Option Value → dk_Mem → Prop} {h r : Nat} (hc : cPc 12 h r M) (hp : M.1 12 2 = nI 0) {T : at_T} (hT : cTS 12 T M) {x : Int32} (hq : ∀ M2, dk_fr (cT1 12) M M2 → cTS 12 ((at_taps h r x T 5).2) M2 → Q (some (.int ((at_taps h r x T 5).1))) M2) : dk_Call (d + 4) mX9_taps [.ref 12, .int x] M Q := by
  refine dk_enter [some (.ref 12), some (.int x)] (by decide) (fun _ => rfl) (fun _ => Nat.le_of_ble_eq_true rfl) ?_
  refine w_al0 (n := 1) dX9_taps_0 rfl ?_
  refine w_bipush (n := 3) (nI 60) dX9_taps_1 (by decide) rfl ?_
  refine w_cU1 (n := 6) (C := RX9) pl_12 cl_9 s0_X5_began ku_X9_15_9 (Nat.le_of_ble_eq_true rfl) dX9_taps_3 rfl (c_bg0_5 hp hT (fun M2 g1_h g2_h => ?_))
  refine w_iconst (n := 7) (nI 0) dX9_taps_6 (by decide) rfl ?_
  refine w_al0 (n := 8) dX9_taps_7 rfl ?_
  refine w_il1 (n := 9) dX9_taps_8 rfl ?_
  refine w_cQ1 (n := 12) pl_12 cl_9 s0_X5_taps kq_X9_21 (Nat.le_of_ble_eq_true rfl) dX9_taps_9 rfl (c_pta_5 (hc.T1 g1_h) (cp_T1 g1_h hp) g2_h (fun M3 g3_h g4_h => ?_))
  refine w_isub (n := 13) dX9_taps_12 rfl ?_
  refine w_retI dX9_taps_13 rfl ?_
  exact hq M3 (g1_h.tr g3_h) g4_h

set_option maxRecDepth 20000 in
theorem c_ph_N_5 {d : Nat} {M : dk_Mem} {Q : Option Value → dk_Mem → Prop} {h r : Nat} (hc : cPc 12 h r M) (hp : M.1 12 2 = nI 0) {T : at_T} (hT : cTS 12 T M) {x : Int32} (hz : ¬ at_by h r = 0) (hq : ∀ M2, dk_fr (cT2 12) M M2 → cTS 12 (at_b T 12) M2 → M2.1 12 2 = nI 0 → Q (some (.int (x / at_by h r))) M2) : dk_Call (d + 1) mX5_halves [.ref 12, .int x] M Q := by
  refine dk_enter [some (.ref 12), some (.int x), none] (by decide) (fun _ => rfl) (fun _ => Nat.le_of_ble_eq_true rfl) ?_
  refine w_al0 (n := 1) dX5_halves_0 rfl ?_
  refine w_bipush (n := 3) (nI 12) dX5_halves_1 (by decide) rfl ?_
  refine w_cU1 (n := 6) (C := RX9) pl_12 cl_9 s0_X5_began ku_X5_29_9 (Nat.le_of_ble_eq_true rfl) dX5_halves_3 rfl (c_bg0_5 hp hT (fun M2 g1_h g2_h => ?_))
  refine w_al0 (n := 7) dX5_halves_6 rfl ?_
  refine g_I (n := 10) f_X5_26_9 pl_12 dX5_halves_7 rfl ?_
  rw [show M2.1 12 4 = nI r from (hc.T1 g1_h).2]
  refine w_al0 (n := 11) dX5_halves_10 rfl ?_
  refine g_I (n := 14) f_X5_23_9 pl_12 dX5_halves_11 rfl ?_
  rw [show M2.1 12 3 = nI h from (g1_h.2 12 3 (by unfold cT1; omega)).trans hc.1]
  refine w_isub (n := 15) dX5_halves_14 rfl ?_
  refine w_iconst (n := 16) (nI 4) dX5_halves_15 (by decide) rfl ?_
  refine w_iadd (n := 17) dX5_halves_16 rfl ?_
  rw [show nI r - nI h + nI 4 = at_by h r from rfl]
  refine w_is2 (n := 18) dX5_halves_17 rfl rfl (by decide) ?_
  refine w_il2 (n := 19) dX5_halves_18 rfl ?_
  refine w_if_ne (n := 22) 29 dX5_halves_19 (by decide) rfl (fun z19_h => ?_) (fun z19_h => ?_)
  · skip
    refine w_il1 (n := 30) dX5_halves_29 rfl ?_
    refine w_il2 (n := 31) dX5_halves_30 rfl ?_
    refine w_idiv (n := 32) hz dX5_halves_31 rfl ?_
    refine w_retI dX5_halves_32 rfl ?_
    exact hq M2 (cT12 g1_h) g2_h (cp_T1 g1_h hp)
  · skip
    exact absurd z19_h hz

set_option maxRecDepth 20000 in
theorem c_gh_N_5 {d : Nat} {M : dk_Mem} {Q : Option Value → dk_Mem → Prop} {h r : Nat} (hc : cPc 12 h r M) (hp : M.1 12 2 = nI 0) {T : at_T} (hT : cTS 12 T M) {x : Int32} (hz : ¬ at_by h r = 0) (hq : ∀ M2, dk_fr (cT2 12) M M2 → cTS 12 (at_b (at_b T 40) 12) M2 → M2.1 12 2 = nI 0 → Q (some (.int (x / at_by h r + nI 5))) M2) : dk_Call (d + 2) mX3_halves [.ref 12, .int x] M Q := by
  refine dk_enter [some (.ref 12), some (.int x)] (by decide) (fun _ => rfl) (fun _ => Nat.le_of_ble_eq_true rfl) ?_
  refine w_al0 (n := 1) dX3_halves_0 rfl ?_
  refine w_bipush (n := 3) (nI 40) dX3_halves_1 (by decide) rfl ?_
  refine w_cU1 (n := 6) (C := RX9) pl_12 cl_9 s0_X5_began ku_X3_20_9 (Nat.le_of_ble_eq_true rfl) dX3_halves_3 rfl (c_bg0_5 hp hT (fun M2 g1_h g2_h => ?_))
  refine w_al0 (n := 7) dX3_halves_6 rfl ?_
  refine w_il1 (n := 8) dX3_halves_7 rfl ?_
  refine w_cP1 (n := 11) pl_12 cl_9 s0_X5_halves kp_X3_26 (Nat.le_of_ble_eq_true rfl) dX3_halves_8 rfl (c_ph_N_5 (hc.T1 g1_h) (cp_T1 g1_h hp) g2_h hz (fun M3 g3_h g4_h g5_h => ?_))
  refine w_iconst (n := 12) (nI 5) dX3_halves_11 (by decide) rfl ?_
  refine w_iadd (n := 13) dX3_halves_12 rfl ?_
  refine w_retI dX3_halves_13 rfl ?_
  exact hq M3 ((cT12 g1_h).tr g3_h) g4_h g5_h

set_option maxRecDepth 20000 in
theorem c_halves_N_5 {d : Nat} {M : dk_Mem} {Q : Option Value → dk_Mem → Prop} {h r : Nat} (hc : cPc 12 h r M) (hp : M.1 12 2 = nI 0) {T : at_T} (hT : cTS 12 T M) {x : Int32} (hz : ¬ at_by h r = 0) (hq : ∀ M2, dk_fr (cT2 12) M M2 → cTS 12 (at_hT false T 5) M2 → M2.1 12 2 = nI 0 → Q (some (.int (at_hv h r x 5))) M2) : dk_Call (d + 3) mX9_halves [.ref 12, .int x] M Q := by
  refine dk_enter [some (.ref 12), some (.int x)] (by decide) (fun _ => rfl) (fun _ => Nat.le_of_ble_eq_true rfl) ?_
  refine w_al0 (n := 1) dX9_halves_0 rfl ?_
  refine w_bipush (n := 3) (nI 61) dX9_halves_1 (by decide) rfl ?_
  refine w_cU1 (n := 6) (C := RX9) pl_12 cl_9 s0_X5_began ku_X9_15_9 (Nat.le_of_ble_eq_true rfl) dX9_halves_3 rfl (c_bg0_5 hp hT (fun M2 g1_h g2_h => ?_))
  refine w_al0 (n := 7) dX9_halves_6 rfl ?_
  refine w_il1 (n := 8) dX9_halves_7 rfl ?_
  refine w_cP1 (n := 11) pl_12 cl_9 s0_X3_halves kp_X9_25 (Nat.le_of_ble_eq_true rfl) dX9_halves_8 rfl (c_gh_N_5 (hc.T1 g1_h) (cp_T1 g1_h hp) g2_h hz (fun M3 g3_h g4_h g5_h => ?_))
  refine w_al0 (n := 12) dX9_halves_11 rfl ?_
  refine w_al0 (n := 13) dX9_halves_12 rfl ?_
  refine g_I (n := 16) f_X9_28_9 pl_12 dX9_halves_13 rfl ?_
  rw [show M3.1 12 3 = nI h from ((hc.T1 g1_h).T2 g3_h).1]
  refine w_cU1 (n := 19) (C := RX9) pl_12 cl_9 s0_X5_tips ku_X9_32_9 (Nat.le_of_ble_eq_true rfl) dX9_halves_16 rfl (c_tips_5 ((hc.T1 g1_h).T2 g3_h) g5_h g4_h (fun M4 g6_h g7_h => ?_))
  refine w_iadd (n := 20) dX9_halves_19 rfl ?_
  refine w_retI dX9_halves_20 rfl ?_
  exact hq M4 (((cT12 g1_h).tr g3_h).tr (cT12 g6_h)) g7_h (cp_T1 g6_h g5_h)

set_option maxRecDepth 20000 in
theorem c_pu_N_5 {d : Nat} {M : dk_Mem} {Q : Option Value → dk_Mem → Prop} {h r : Nat} (hc : cPc 12 h r M) (hp : M.1 12 2 = nI 0) {T : at_T} (hT : cTS 12 T M) {x : Int32} (hz : ¬ at_by h r = 0) (hq : ∀ M2, dk_fr (cT2 12) M M2 → cTS 12 (at_uT false h r x T 5) M2 → M2.1 12 2 = nI 0 → Q (some (.int (at_uv h r x T 5))) M2) : dk_Call (d + 5) mX5_turns [.ref 12, .int x] M Q := by
  refine dk_enter [some (.ref 12), some (.int x)] (by decide) (fun _ => rfl) (fun _ => Nat.le_of_ble_eq_true rfl) ?_
  refine w_al0 (n := 1) dX5_turns_0 rfl ?_
  refine w_bipush (n := 3) (nI 13) dX5_turns_1 (by decide) rfl ?_
  refine w_cU1 (n := 6) (C := RX9) pl_12 cl_9 s0_X5_began ku_X5_29_9 (Nat.le_of_ble_eq_true rfl) dX5_turns_3 rfl (c_bg0_5 hp hT (fun M2 g1_h g2_h => ?_))
  refine w_al0 (n := 7) dX5_turns_6 rfl ?_
  refine w_il1 (n := 8) dX5_turns_7 rfl ?_
  refine w_cU1 (n := 11) (C := RX9) pl_12 cl_9 s0_X9_taps ku_X5_37_9 (Nat.le_of_ble_eq_true rfl) dX5_turns_8 rfl (c_taps_5 (hc.T1 g1_h) (cp_T1 g1_h hp) g2_h (fun M3 g3_h g4_h => ?_))
  refine w_al0 (n := 12) dX5_turns_11 rfl ?_
  refine w_il1 (n := 13) dX5_turns_12 rfl ?_
  refine w_cU1 (n := 16) (C := RX9) pl_12 cl_9 s0_X9_halves ku_X5_40_9 (Nat.le_of_ble_eq_true rfl) dX5_turns_13 rfl (c_halves_N_5 ((hc.T1 g1_h).T1 g3_h) (cp_T1 g3_h (cp_T1 g1_h hp)) g4_h hz (fun M4 g6_h g7_h g8_h => ?_))
  refine w_ixor (n := 17) dX5_turns_16 rfl ?_
  refine w_retI dX5_turns_17 rfl ?_
  exact hq M4 ((cT12 (g1_h.tr g3_h)).tr g6_h) g7_h g8_h

theorem c_turns_N_5 {d : Nat} {M : dk_Mem} {Q : Option Value → dk_Mem → Prop} {h r : Nat} (hc : cPc 12 h r M) (hp : M.1 12 2 = nI 0) {T : at_T} (hT : cTS 12 T M) {x : Int32} (hz : ¬ at_by h r = 0) (hq : ∀ M2, dk_fr (cT2 12) M M2 → cTS 12 (at_rT false h r x T 5) M2 → M2.1 12 2 = nI 0 → Q (some (.int (at_rv h r x T 5))) M2) : dk_Call (d + 6) mX5_turns [.ref 12, .int x] M Q := c_pu_N_5 hc hp hT hz hq
set_option maxRecDepth 20000 in
theorem c_ph_P_5 {d : Nat} {M : dk_Mem} {Q : Option Value → dk_Mem → Prop} {h r : Nat} (hc : cPc 12 h r M) (hp : M.1 12 2 = nI 0) {T : at_T} (hT : cTS 12 T M) {x : Int32} (hz : at_by h r = 0) (hq : ∀ M2, dk_fr (cT2 12) M M2 → cTS 12 (at_b T 12) M2 → M2.1 12 2 = nI 1 → ∀ v, Q (some (.int v)) M2) : dk_Call (d + 1) mX5_halves [.ref 12, .int x] M Q := by
  refine dk_enter [some (.ref 12), some (.int x), none] (by decide) (fun _ => rfl) (fun _ => Nat.le_of_ble_eq_true rfl) ?_
  refine w_al0 (n := 1) dX5_halves_0 rfl ?_
  refine w_bipush (n := 3) (nI 12) dX5_halves_1 (by decide) rfl ?_
  refine w_cU1 (n := 6) (C := RX9) pl_12 cl_9 s0_X5_began ku_X5_29_9 (Nat.le_of_ble_eq_true rfl) dX5_halves_3 rfl (c_bg0_5 hp hT (fun M2 g1_h g2_h => ?_))
  refine w_al0 (n := 7) dX5_halves_6 rfl ?_
  refine g_I (n := 10) f_X5_26_9 pl_12 dX5_halves_7 rfl ?_
  rw [show M2.1 12 4 = nI r from (hc.T1 g1_h).2]
  refine w_al0 (n := 11) dX5_halves_10 rfl ?_
  refine g_I (n := 14) f_X5_23_9 pl_12 dX5_halves_11 rfl ?_
  rw [show M2.1 12 3 = nI h from (g1_h.2 12 3 (by unfold cT1; omega)).trans hc.1]
  refine w_isub (n := 15) dX5_halves_14 rfl ?_
  refine w_iconst (n := 16) (nI 4) dX5_halves_15 (by decide) rfl ?_
  refine w_iadd (n := 17) dX5_halves_16 rfl ?_
  rw [show nI r - nI h + nI 4 = at_by h r from rfl]
  refine w_is2 (n := 18) dX5_halves_17 rfl rfl (by decide) ?_
  refine w_il2 (n := 19) dX5_halves_18 rfl ?_
  refine w_if_ne (n := 22) 29 dX5_halves_19 (by decide) rfl (fun z19_h => ?_) (fun z19_h => ?_)
  · skip
    exact absurd hz z19_h
  · skip
    refine w_al0 (n := 23) dX5_halves_22 rfl ?_
    refine w_iconst (n := 24) (nI 1) dX5_halves_23 (by decide) rfl ?_
    refine p_Z (n := 27) (by decide) f_X5_19_9 pl_12 dX5_halves_24 rfl ?_
    refine w_iconst (n := 28) (nI 0) dX5_halves_27 (by decide) rfl ?_
    refine w_retI dX5_halves_28 rfl ?_
    exact hq _ ((cT12 g1_h).put (Or.inl ⟨rfl, Or.inr rfl⟩)) ⟨by rw [dk_put_k (by omega)]; exact g2_h.1, g2_h.2.1, fun i hi => by rw [dk_put_k (by omega)]; exact g2_h.2.2 i hi⟩ dk_put_s _

set_option maxRecDepth 20000 in
theorem c_gh_P_5 {d : Nat} {M : dk_Mem} {Q : Option Value → dk_Mem → Prop} {h r : Nat} (hc : cPc 12 h r M) (hp : M.1 12 2 = nI 0) {T : at_T} (hT : cTS 12 T M) {x : Int32} (hz : at_by h r = 0) (hq : ∀ M2, dk_fr (cT2 12) M M2 → cTS 12 (at_b (at_b T 40) 12) M2 → M2.1 12 2 = nI 1 → ∀ v, Q (some (.int v)) M2) : dk_Call (d + 2) mX3_halves [.ref 12, .int x] M Q := by
  refine dk_enter [some (.ref 12), some (.int x)] (by decide) (fun _ => rfl) (fun _ => Nat.le_of_ble_eq_true rfl) ?_
  refine w_al0 (n := 1) dX3_halves_0 rfl ?_
  refine w_bipush (n := 3) (nI 40) dX3_halves_1 (by decide) rfl ?_
  refine w_cU1 (n := 6) (C := RX9) pl_12 cl_9 s0_X5_began ku_X3_20_9 (Nat.le_of_ble_eq_true rfl) dX3_halves_3 rfl (c_bg0_5 hp hT (fun M2 g1_h g2_h => ?_))
  refine w_al0 (n := 7) dX3_halves_6 rfl ?_
  refine w_il1 (n := 8) dX3_halves_7 rfl ?_
  refine w_cP1 (n := 11) pl_12 cl_9 s0_X5_halves kp_X3_26 (Nat.le_of_ble_eq_true rfl) dX3_halves_8 rfl (c_ph_P_5 (hc.T1 g1_h) (cp_T1 g1_h hp) g2_h hz (fun M3 g3_h g4_h g5_h v => ?_))
  refine w_iconst (n := 12) (nI 5) dX3_halves_11 (by decide) rfl ?_
  refine w_iadd (n := 13) dX3_halves_12 rfl ?_
  refine w_retI dX3_halves_13 rfl ?_
  exact hq M3 ((cT12 g1_h).tr g3_h) g4_h g5_h _

set_option maxRecDepth 20000 in
theorem c_halves_P_5 {d : Nat} {M : dk_Mem} {Q : Option Value → dk_Mem → Prop} {h r : Nat} (hc : cPc 12 h r M) (hp : M.1 12 2 = nI 0) {T : at_T} (hT : cTS 12 T M) {x : Int32} (hz : at_by h r = 0) (hq : ∀ M2, dk_fr (cT2 12) M M2 → cTS 12 (at_hT true T 5) M2 → M2.1 12 2 = nI 1 → ∀ v, Q (some (.int v)) M2) : dk_Call (d + 3) mX9_halves [.ref 12, .int x] M Q := by
  refine dk_enter [some (.ref 12), some (.int x)] (by decide) (fun _ => rfl) (fun _ => Nat.le_of_ble_eq_true rfl) ?_
  refine w_al0 (n := 1) dX9_halves_0 rfl ?_
  refine w_bipush (n := 3) (nI 61) dX9_halves_1 (by decide) rfl ?_
  refine w_cU1 (n := 6) (C := RX9) pl_12 cl_9 s0_X5_began ku_X9_15_9 (Nat.le_of_ble_eq_true rfl) dX9_halves_3 rfl (c_bg0_5 hp hT (fun M2 g1_h g2_h => ?_))
  refine w_al0 (n := 7) dX9_halves_6 rfl ?_
  refine w_il1 (n := 8) dX9_halves_7 rfl ?_
  refine w_cP1 (n := 11) pl_12 cl_9 s0_X3_halves kp_X9_25 (Nat.le_of_ble_eq_true rfl) dX9_halves_8 rfl (c_gh_P_5 (hc.T1 g1_h) (cp_T1 g1_h hp) g2_h hz (fun M3 g3_h g4_h g5_h v => ?_))
  refine w_al0 (n := 12) dX9_halves_11 rfl ?_
  refine w_al0 (n := 13) dX9_halves_12 rfl ?_
  refine g_I (n := 16) f_X9_28_9 pl_12 dX9_halves_13 rfl ?_
  rw [show M3.1 12 3 = nI h from ((hc.T1 g1_h).T2 g3_h).1]
  refine w_cU1 (n := 19) (C := RX9) pl_12 cl_9 s0_X5_tips ku_X9_32_9 (Nat.le_of_ble_eq_true rfl) dX9_halves_16 rfl (c_tips1_5 g5_h (fun u => ?_))
  refine w_iadd (n := 20) dX9_halves_19 rfl ?_
  refine w_retI dX9_halves_20 rfl ?_
  exact hq M3 ((cT12 g1_h).tr g3_h) g4_h g5_h _

set_option maxRecDepth 20000 in
theorem c_pu_P_5 {d : Nat} {M : dk_Mem} {Q : Option Value → dk_Mem → Prop} {h r : Nat} (hc : cPc 12 h r M) (hp : M.1 12 2 = nI 0) {T : at_T} (hT : cTS 12 T M) {x : Int32} (hz : at_by h r = 0) (hq : ∀ M2, dk_fr (cT2 12) M M2 → cTS 12 (at_uT true h r x T 5) M2 → M2.1 12 2 = nI 1 → ∀ v, Q (some (.int v)) M2) : dk_Call (d + 5) mX5_turns [.ref 12, .int x] M Q := by
  refine dk_enter [some (.ref 12), some (.int x)] (by decide) (fun _ => rfl) (fun _ => Nat.le_of_ble_eq_true rfl) ?_
  refine w_al0 (n := 1) dX5_turns_0 rfl ?_
  refine w_bipush (n := 3) (nI 13) dX5_turns_1 (by decide) rfl ?_
  refine w_cU1 (n := 6) (C := RX9) pl_12 cl_9 s0_X5_began ku_X5_29_9 (Nat.le_of_ble_eq_true rfl) dX5_turns_3 rfl (c_bg0_5 hp hT (fun M2 g1_h g2_h => ?_))
  refine w_al0 (n := 7) dX5_turns_6 rfl ?_
  refine w_il1 (n := 8) dX5_turns_7 rfl ?_
  refine w_cU1 (n := 11) (C := RX9) pl_12 cl_9 s0_X9_taps ku_X5_37_9 (Nat.le_of_ble_eq_true rfl) dX5_turns_8 rfl (c_taps_5 (hc.T1 g1_h) (cp_T1 g1_h hp) g2_h (fun M3 g3_h g4_h => ?_))
  refine w_al0 (n := 12) dX5_turns_11 rfl ?_
  refine w_il1 (n := 13) dX5_turns_12 rfl ?_
  refine w_cU1 (n := 16) (C := RX9) pl_12 cl_9 s0_X9_halves ku_X5_40_9 (Nat.le_of_ble_eq_true rfl) dX5_turns_13 rfl (c_halves_P_5 ((hc.T1 g1_h).T1 g3_h) (cp_T1 g3_h (cp_T1 g1_h hp)) g4_h hz (fun M4 g6_h g7_h g8_h v => ?_))
  refine w_ixor (n := 17) dX5_turns_16 rfl ?_
  refine w_retI dX5_turns_17 rfl ?_
  exact hq M4 ((cT12 (g1_h.tr g3_h)).tr g6_h) g7_h g8_h _

theorem c_turns_P_5 {d : Nat} {M : dk_Mem} {Q : Option Value → dk_Mem → Prop} {h r : Nat} (hc : cPc 12 h r M) (hp : M.1 12 2 = nI 0) {T : at_T} (hT : cTS 12 T M) {x : Int32} (hz : at_by h r = 0) (hq : ∀ M2, dk_fr (cT2 12) M M2 → cTS 12 (at_rT true h r x T 5) M2 → M2.1 12 2 = nI 1 → ∀ v, Q (some (.int v)) M2) : dk_Call (d + 6) mX5_turns [.ref 12, .int x] M Q := c_pu_P_5 hc hp hT hz hq
theorem c_halves_5 {d : Nat} {M : dk_Mem} {Q : Option Value → dk_Mem → Prop} {h r : Nat} (hc : cPc 12 h r M) (hp : M.1 12 2 = nI 0) {T : at_T} (hT : cTS 12 T M) {x : Int32} (hq : ∀ M2 v, dk_fr (cT2 12) M M2 → cTS 12 (at_hT (at_p h r) T 5) M2 → M2.1 12 2 = gbI (at_p h r) → (at_p h r = false → v = at_hv h r x 5) → Q (some (.int v)) M2) : dk_Call (d + 3) mX9_halves [.ref 12, .int x] M Q := by
  by_cases hz : at_by h r = 0
  · have e : at_p h r = true := decide_eq_true hz
    rw [e] at hq
    exact c_halves_P_5 hc hp hT hz (fun M2 a b c v => hq M2 v a b c (fun z => by cases z))
  · have e : at_p h r = false := decide_eq_false hz
    rw [e] at hq
    exact c_halves_N_5 hc hp hT hz (fun M2 a b c => hq M2 _ a b c (fun _ => rfl))

theorem c_turns_5 {d : Nat} {M : dk_Mem} {Q : Option Value → dk_Mem → Prop} {h r : Nat} (hc : cPc 12 h r M) (hp : M.1 12 2 = nI 0) {T : at_T} (hT : cTS 12 T M) {x : Int32} (hq : ∀ M2 v, dk_fr (cT2 12) M M2 → cTS 12 (at_rT (at_p h r) h r x T 5) M2 → M2.1 12 2 = gbI (at_p h r) → (at_p h r = false → v = at_rv h r x T 5) → Q (some (.int v)) M2) : dk_Call (d + 6) mX5_turns [.ref 12, .int x] M Q := by
  by_cases hz : at_by h r = 0
  · have e : at_p h r = true := decide_eq_true hz
    rw [e] at hq
    exact c_turns_P_5 hc hp hT hz (fun M2 a b c v => hq M2 v a b c (fun z => by cases z))
  · have e : at_p h r = false := decide_eq_false hz
    rw [e] at hq
    exact c_turns_N_5 hc hp hT hz (fun M2 a b c => hq M2 _ a b c (fun _ => rfl))
