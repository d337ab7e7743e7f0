/-! ===== acts of things: pure ===== -/
abbrev at_T : Type := Nat × (Nat → Int32)
def at_b (T : at_T) (b : Nat) : at_T := if T.1 < 30 then (T.1 + 1, fun i => if i = T.1 then nI b else T.2 i) else T
theorem at_b_le {T : at_T} {b : Nat} (h : T.1 ≤ 30) : (at_b T b).1 ≤ 30 := by
  unfold at_b
  split
  · show T.1 + 1 ≤ 30; omega
  · exact h
def at_by (h r : Nat) : Int32 := nI r - nI h + nI 4
def at_p (h r : Nat) : Bool := decide (at_by h r = 0)
def at_tips (h : Nat) (x : Int32) (T : at_T) : Nat → Int32 × at_T
  | 1 => ((x * nI 10 - nI h) ^^^ nI 30, at_b (at_b T 20) 10)
  | 3 => ((x - nI 14) * nI 10 - nI h, at_b (at_b T 50) 10)
  | _ => (x * nI 10 - nI h, at_b T 10)
def at_pt (k h r : Nat) (x : Int32) (T : at_T) : Int32 × at_T := ((at_tips h x (at_b T 11) k).1 + nI 3 * nI r, (at_tips h x (at_b T 11) k).2)
def at_taps (h r : Nat) (x : Int32) (T : at_T) : Nat → Int32 × at_T
  | 2 => ((at_pt 2 h r x (at_b T 30)).1 * nI 2, (at_pt 2 h r x (at_b T 30)).2)
  | 3 => ((at_pt 3 h r x (at_b T 30)).1 * nI 2, (at_pt 3 h r x (at_b T 30)).2)
  | 5 => (nI 0 - (at_pt 5 h r x (at_b T 60)).1, (at_pt 5 h r x (at_b T 60)).2)
  | k => at_pt k h r x T
def at_hv (h r : Nat) (x : Int32) : Nat → Int32
  | 4 => x / at_by h r + nI 5
  | 5 => x / at_by h r + nI 5 + (nI h * nI 10 - nI h)
  | _ => x / at_by h r
def at_hT (p : Bool) (T : at_T) : Nat → at_T
  | 4 => at_b (at_b T 40) 12
  | 5 => bif p then at_b (at_b (at_b T 61) 40) 12 else at_b (at_b (at_b (at_b T 61) 40) 12) 10
  | _ => at_b T 12
def at_uv (h r : Nat) (x : Int32) (T : at_T) (k : Nat) : Int32 := (at_taps h r x (at_b T 13) k).1 ^^^ at_hv h r x k
def at_uT (p : Bool) (h r : Nat) (x : Int32) (T : at_T) (k : Nat) : at_T := at_hT p (at_taps h r x (at_b T 13) k).2 k
def at_rv (h r : Nat) (x : Int32) (T : at_T) : Nat → Int32
  | 3 => at_uv h r x (at_b T 51) 3 - (at_taps h r (nI r) (at_uT false h r x (at_b T 51) 3) 3).1
  | k => at_uv h r x T k
def at_rT (p : Bool) (h r : Nat) (x : Int32) (T : at_T) : Nat → at_T
  | 3 => bif p then at_uT true h r x (at_b T 51) 3 else (at_taps h r (nI r) (at_uT false h r x (at_b T 51) 3) 3).2
  | k => at_uT p h r x T k
def at_act (k h r : Nat) (x : Int32) (T : at_T) (a : Int32) : Int32 × at_T :=
  if a = nI 0 then at_tips h x T k else if a = nI 1 then at_taps h r x T k
  else if a = nI 2 then (bif at_p h r then -15 else at_hv h r x k, at_hT (at_p h r) T k)
  else (bif at_p h r then -15 else at_rv h r x T k, at_rT (at_p h r) h r x T k)
def eT (E : sg_E) (T : at_T) : sg_E := fun j => if j = 40 then nI T.1 else if 41 ≤ j ∧ j < 71 then T.2 (j - 41) else E j
def at_0 (E : sg_E) : at_T := (0, fun i => E (41 + i))
def ef_act (K : sg_K) (E : sg_E) (s a x : Int32) : Int32 × sg_E := if (nI 0 ≤ s ∧ s ≤ nI 3) ∧ nI 0 ≤ a ∧ a ≤ nI 3 then (match eP K E (tN s) with
  | none => (nI 0, eT E (at_0 E))
  | some h => ((at_act (K.1 (35 + 5 * h)) h (K.1 (38 + 5 * h)) x (at_0 E) a).1, eT E (at_act (K.1 (35 + 5 * h)) h (K.1 (38 + 5 * h)) x (at_0 E) a).2)) else (nI 0, eT E (at_0 E))
/-! ===== acts in the reference ===== -/
def rTS (T : at_T) (M : dk_Mem) : Prop := M.1 104 29 = nI T.1 ∧ T.1 ≤ 30 ∧ ∀ i, i < 30 → M.1 119 i = T.2 i
def rT1 (q k : Nat) : Prop := (q = 104 ∧ k = 29) ∨ q = 119
def rT2 (q k : Nat) : Prop := (q = 104 ∧ (k = 29 ∨ k = 30)) ∨ q = 119
theorem rT12 {M M' : dk_Mem} (h : dk_fr rT1 M M') : dk_fr rT2 M M' := h.up (fun q k z => by unfold rT1 at z; unfold rT2; omega)
theorem rr.T1 {σ : Nat → Nat} {M M' : dk_Mem} (h : rr σ M) (hf : dk_fr rT1 M M') : rr σ M' := h.fr hf (fun k _ z => by unfold rT1 at z; omega)
theorem rr.T2 {σ : Nat → Nat} {M M' : dk_Mem} (h : rr σ M) (hf : dk_fr rT2 M M') : rr σ M' := h.fr hf (fun k _ z => by unfold rT2 at z; omega)
theorem rTS.p {T : at_T} {M : dk_Mem} (h : rTS T M) {x : Int32} : rTS T (dk_put M 104 30 x) := ⟨by rw [dk_put_k (by omega)]; exact h.1, h.2.1, fun i hi => by rw [dk_put_k (by omega)]; exact h.2.2 i hi⟩

set_option maxRecDepth 20000 in
theorem r_begins {d : Nat} {M : dk_Mem} {Q : Option Value → dk_Mem → Prop} {T : at_T} (hT : rTS T M) {b : Nat} (hq : ∀ M2, dk_fr rT1 M M2 → rTS (at_b T b) M2 → Q none M2) : dk_Call d mX12_begins [.ref 104, .int (nI b)] M Q := by
  have tl := hT.2.1
  refine dk_enter [some (.ref 104), some (.int (nI b))] (by decide) (fun _ => rfl) (fun _ => Nat.le_of_ble_eq_true rfl) ?_
  refine w_al0 (n := 1) dX12_begins_0 rfl ?_
  refine g_I (n := 4) f_X12_307_12 pl_104 dX12_begins_1 rfl ?_
  rw [hT.1]
  refine w_bipush (n := 6) (nI 30) dX12_begins_4 (by decide) rfl ?_
  refine w_ic_ge (n := 9) 29 dX12_begins_6 (by decide) rfl (fun z6_h => ?_) (fun z6_h => ?_)
  · skip
    refine w_ret dX12_begins_29 rfl ?_
    rw [q_le (by decide) (by omega)] at z6_h
    first | (have e : at_b T b = T := if_neg (by omega); rw [e] at hq; exact hq M dk_fr.rf hT) | (have e : at_b T b = (T.1 + 1, fun i => if i = T.1 then nI b else T.2 i) := if_pos (by omega); rw [e] at hq; refine hq _ ((dk_fr.rf.put (Or.inr rfl)).put (Or.inl ⟨rfl, rfl⟩)) ⟨dk_put_s, (by show T.1 + 1 ≤ 30; omega), fun i hi => ?_⟩; rw [dk_put_k (by omega)]; by_cases ei : i = T.1; (rw [ei, dk_put_s]; exact (if_pos rfl).symm); (rw [dk_put_k (by omega)]; exact (hT.2.2 i hi).trans (if_neg ei).symm))
  · skip
    refine w_al0 (n := 10) dX12_begins_9 rfl ?_
    refine g_R (n := 13) f_X12_54_12 pl_104 rf_104_28 dX12_begins_10 rfl ?_
    refine w_al0 (n := 14) dX12_begins_13 rfl ?_
    refine g_I (n := 17) f_X12_307_12 pl_104 dX12_begins_14 rfl ?_
    refine w_il1 (n := 18) dX12_begins_17 rfl ?_
    refine i_iast (n := 19) pl_119 (j := T.1) hT.1 (by rw [q_le (by decide) (by omega)] at z6_h; omega) (by decide) dX12_begins_18 rfl ?_
    refine w_al0 (n := 20) dX12_begins_19 rfl ?_
    refine w_dup (n := 21) rfl dX12_begins_20 rfl ?_
    refine g_I (n := 24) f_X12_307_12 pl_104 dX12_begins_21 rfl ?_
    rw [dk_put_k (by omega), hT.1]
    refine w_iconst (n := 25) (nI 1) dX12_begins_24 (by decide) rfl ?_
    refine w_iadd (n := 26) dX12_begins_25 rfl ?_
    rw [nI_add]
    refine p_I (n := 29) f_X12_307_12 pl_104 dX12_begins_26 rfl ?_
    refine w_ret dX12_begins_29 rfl ?_
    rw [q_le (by decide) (by omega)] at z6_h
    first | (have e : at_b T b = T := if_neg (by omega); rw [e] at hq; exact hq M dk_fr.rf hT) | (have e : at_b T b = (T.1 + 1, fun i => if i = T.1 then nI b else T.2 i) := if_pos (by omega); rw [e] at hq; refine hq _ ((dk_fr.rf.put (Or.inr rfl)).put (Or.inl ⟨rfl, rfl⟩)) ⟨dk_put_s, (by show T.1 + 1 ≤ 30; omega), fun i hi => ?_⟩; rw [dk_put_k (by omega)]; by_cases ei : i = T.1; (rw [ei, dk_put_s]; exact (if_pos rfl).symm); (rw [dk_put_k (by omega)]; exact (hT.2.2 i hi).trans (if_neg ei).symm))

set_option maxRecDepth 20000 in
theorem r_ptips {d : Nat} {M : dk_Mem} {Q : Option Value → dk_Mem → Prop} {h : Nat} {T : at_T} (hT : rTS T M) {x : Int32} (hq : ∀ M2, dk_fr rT1 M M2 → rTS (at_b T 10) M2 → Q (some (.int (x * nI 10 - nI h))) M2) : dk_Call (d + 1) mX12_plainTips [.ref 104, .int (nI h), .int x] M Q := by
  refine dk_enter [some (.ref 104), some (.int (nI h)), some (.int x)] (by decide) (fun _ => rfl) (fun _ => Nat.le_of_ble_eq_true rfl) ?_
  refine w_al0 (n := 1) dX12_plainTips_0 rfl ?_
  refine w_bipush (n := 3) (nI 10) dX12_plainTips_1 (by decide) rfl ?_
  refine w_cV1 (n := 6) pl_104 cl_12 s0_X12_begins k_X12_310 (Nat.le_of_ble_eq_true rfl) dX12_plainTips_3 rfl (r_begins hT (fun M2 g1_h g2_h => ?_))
  refine w_il2 (n := 7) dX12_plainTips_6 rfl ?_
  refine w_bipush (n := 9) (nI 10) dX12_plainTips_7 (by decide) rfl ?_
  refine w_imul (n := 10) dX12_plainTips_9 rfl ?_
  refine w_il1 (n := 11) dX12_plainTips_10 rfl ?_
  refine w_isub (n := 12) dX12_plainTips_11 rfl ?_
  refine w_retI dX12_plainTips_12 rfl ?_
  exact hq M2 g1_h g2_h

set_option maxRecDepth 20000 in
theorem r_tips_0 {d : Nat} {M : dk_Mem} {Q : Option Value → dk_Mem → Prop} {σ : Nat → Nat} (hr : rr σ M) {h : Nat} (h6_h : h < 6) (hk : σ (35 + 5 * h) = 0) {T : at_T} (hT : rTS T M) {x : Int32} (hq : ∀ M2, dk_fr rT1 M M2 → rTS ((at_tips h x T 0).2) M2 → Q (some (.int ((at_tips h x T 0).1))) M2) : dk_Call (d + 2) mX12_tips [.ref 104, .int (nI h), .int x] M Q := by
  refine dk_enter [some (.ref 104), some (.int (nI h)), some (.int x)] (by decide) (fun _ => rfl) (fun _ => Nat.le_of_ble_eq_true rfl) ?_
  refine w_al0 (n := 1) dX12_tips_0 rfl ?_
  refine w_il1 (n := 2) dX12_tips_1 rfl ?_
  refine w_iconst (n := 3) (nI 0) dX12_tips_2 (by decide) rfl ?_
  refine w_cV2 (n := 6) pl_104 cl_12 s0_X12_of k_X12_69 (Nat.le_of_ble_eq_true rfl) dX12_tips_3 rfl (r_of (h := h) (w := 0) (by omega) ((hr.kind h6_h).trans (congrArg nI hk)) ?_)
  · skip
    refine w_look (off := 58) 64 dX12_tips_6 rfl rfl (by decide) ?_
    refine w_al0 (n := 65) dX12_tips_64 rfl ?_
    refine w_il1 (n := 66) dX12_tips_65 rfl ?_
    refine w_il2 (n := 67) dX12_tips_66 rfl ?_
    refine w_cV2 (n := 70) pl_104 cl_12 s0_X12_plainTips k_X12_313 (Nat.le_of_ble_eq_true rfl) dX12_tips_67 rfl (r_ptips hT (fun M3 g3_h g4_h => ?_))
    refine w_retI dX12_tips_70 rfl ?_
    exact hq M3 g3_h g4_h

set_option maxRecDepth 20000 in
theorem r_tips_1 {d : Nat} {M : dk_Mem} {Q : Option Value → dk_Mem → Prop} {σ : Nat → Nat} (hr : rr σ M) {h : Nat} (h6_h : h < 6) (hk : σ (35 + 5 * h) = 1) {T : at_T} (hT : rTS T M) {x : Int32} (hq : ∀ M2, dk_fr rT1 M M2 → rTS ((at_tips h x T 1).2) M2 → Q (some (.int ((at_tips h x T 1).1))) M2) : dk_Call (d + 2) mX12_tips [.ref 104, .int (nI h), .int x] M Q := by
  refine dk_enter [some (.ref 104), some (.int (nI h)), some (.int x)] (by decide) (fun _ => rfl) (fun _ => Nat.le_of_ble_eq_true rfl) ?_
  refine w_al0 (n := 1) dX12_tips_0 rfl ?_
  refine w_il1 (n := 2) dX12_tips_1 rfl ?_
  refine w_iconst (n := 3) (nI 0) dX12_tips_2 (by decide) rfl ?_
  refine w_cV2 (n := 6) pl_104 cl_12 s0_X12_of k_X12_69 (Nat.le_of_ble_eq_true rfl) dX12_tips_3 rfl (r_of (h := h) (w := 0) (by omega) ((hr.kind h6_h).trans (congrArg nI hk)) ?_)
  · skip
    refine w_look (off := 26) 32 dX12_tips_6 rfl rfl (by decide) ?_
    refine w_al0 (n := 33) dX12_tips_32 rfl ?_
    refine w_bipush (n := 35) (nI 20) dX12_tips_33 (by decide) rfl ?_
    refine w_cV1 (n := 38) pl_104 cl_12 s0_X12_begins k_X12_310 (Nat.le_of_ble_eq_true rfl) dX12_tips_35 rfl (r_begins hT (fun M2 g1_h g2_h => ?_))
    refine w_al0 (n := 39) dX12_tips_38 rfl ?_
    refine w_il1 (n := 40) dX12_tips_39 rfl ?_
    refine w_il2 (n := 41) dX12_tips_40 rfl ?_
    refine w_cV2 (n := 44) pl_104 cl_12 s0_X12_plainTips k_X12_313 (Nat.le_of_ble_eq_true rfl) dX12_tips_41 rfl (r_ptips g2_h (fun M3 g3_h g4_h => ?_))
    refine w_bipush (n := 46) (nI 30) dX12_tips_44 (by decide) rfl ?_
    refine w_ixor (n := 47) dX12_tips_46 rfl ?_
    refine w_retI dX12_tips_47 rfl ?_
    exact hq M3 (g1_h.tr g3_h) g4_h

set_option maxRecDepth 20000 in
theorem r_tips_2 {d : Nat} {M : dk_Mem} {Q : Option Value → dk_Mem → Prop} {σ : Nat → Nat} (hr : rr σ M) {h : Nat} (h6_h : h < 6) (hk : σ (35 + 5 * h) = 2) {T : at_T} (hT : rTS T M) {x : Int32} (hq : ∀ M2, dk_fr rT1 M M2 → rTS ((at_tips h x T 2).2) M2 → Q (some (.int ((at_tips h x T 2).1))) M2) : dk_Call (d + 2) mX12_tips [.ref 104, .int (nI h), .int x] M Q := by
  refine dk_enter [some (.ref 104), some (.int (nI h)), some (.int x)] (by decide) (fun _ => rfl) (fun _ => Nat.le_of_ble_eq_true rfl) ?_
  refine w_al0 (n := 1) dX12_tips_0 rfl ?_
  refine w_il1 (n := 2) dX12_tips_1 rfl ?_
  refine w_iconst (n := 3) (nI 0) dX12_tips_2 (by decide) rfl ?_
  refine w_cV2 (n := 6) pl_104 cl_12 s0_X12_of k_X12_69 (Nat.le_of_ble_eq_true rfl) dX12_tips_3 rfl (r_of (h := h) (w := 0) (by omega) ((hr.kind h6_h).trans (congrArg nI hk)) ?_)
  · skip
    refine w_look (off := 58) 64 dX12_tips_6 rfl rfl (by decide) ?_
    refine w_al0 (n := 65) dX12_tips_64 rfl ?_
    refine w_il1 (n := 66) dX12_tips_65 rfl ?_
    refine w_il2 (n := 67) dX12_tips_66 rfl ?_
    refine w_cV2 (n := 70) pl_104 cl_12 s0_X12_plainTips k_X12_313 (Nat.le_of_ble_eq_true rfl) dX12_tips_67 rfl (r_ptips hT (fun M3 g3_h g4_h => ?_))
    refine w_retI dX12_tips_70 rfl ?_
    exact hq M3 g3_h g4_h

set_option maxRecDepth 20000 in
theorem r_tips_3 {d : Nat} {M : dk_Mem} {Q : Option Value → dk_Mem → Prop} {σ : Nat → Nat} (hr : rr σ M) {h : Nat} (h6_h : h < 6) (hk : σ (35 + 5 * h) = 3) {T : at_T} (hT : rTS T M) {x : Int32} (hq : ∀ M2, dk_fr rT1 M M2 → rTS ((at_tips h x T 3).2) M2 → Q (some (.int ((at_tips h x T 3).1))) M2) : dk_Call (d + 2) mX12_tips [.ref 104, .int (nI h), .int x] M Q := by
  refine dk_enter [some (.ref 104), some (.int (nI h)), some (.int x)] (by decide) (fun _ => rfl) (fun _ => Nat.le_of_ble_eq_true rfl) ?_
  refine w_al0 (n := 1) dX12_tips_0 rfl ?_
  refine w_il1 (n := 2) dX12_tips_1 rfl ?_
  refine w_iconst (n := 3) (nI 0) dX12_tips_2 (by decide) rfl ?_
  refine w_cV2 (n := 6) pl_104 cl_12 s0_X12_of k_X12_69 (Nat.le_of_ble_eq_true rfl) dX12_tips_3 rfl (r_of (h := h) (w := 0) (by omega) ((hr.kind h6_h).trans (congrArg nI hk)) ?_)
  · skip
    refine w_look (off := 42) 48 dX12_tips_6 rfl rfl (by decide) ?_
    refine w_al0 (n := 49) dX12_tips_48 rfl ?_
    refine w_bipush (n := 51) (nI 50) dX12_tips_49 (by decide) rfl ?_
    refine w_cV1 (n := 54) pl_104 cl_12 s0_X12_begins k_X12_310 (Nat.le_of_ble_eq_true rfl) dX12_tips_51 rfl (r_begins hT (fun M2 g1_h g2_h => ?_))
    refine w_al0 (n := 55) dX12_tips_54 rfl ?_
    refine w_il1 (n := 56) dX12_tips_55 rfl ?_
    refine w_il2 (n := 57) dX12_tips_56 rfl ?_
    refine w_bipush (n := 59) (nI 14) dX12_tips_57 (by decide) rfl ?_
    refine w_isub (n := 60) dX12_tips_59 rfl ?_
    refine w_cV2 (n := 63) pl_104 cl_12 s0_X12_plainTips k_X12_313 (Nat.le_of_ble_eq_true rfl) dX12_tips_60 rfl (r_ptips g2_h (fun M3 g3_h g4_h => ?_))
    refine w_retI dX12_tips_63 rfl ?_
    exact hq M3 (g1_h.tr g3_h) g4_h

set_option maxRecDepth 20000 in
theorem r_tips_4 {d : Nat} {M : dk_Mem} {Q : Option Value → dk_Mem → Prop} {σ : Nat → Nat} (hr : rr σ M) {h : Nat} (h6_h : h < 6) (hk : σ (35 + 5 * h) = 4) {T : at_T} (hT : rTS T M) {x : Int32} (hq : ∀ M2, dk_fr rT1 M M2 → rTS ((at_tips h x T 4).2) M2 → Q (some (.int ((at_tips h x T 4).1))) M2) : dk_Call (d + 2) mX12_tips [.ref 104, .int (nI h), .int x] M Q := by
  refine dk_enter [some (.ref 104), some (.int (nI h)), some (.int x)] (by decide) (fun _ => rfl) (fun _ => Nat.le_of_ble_eq_true rfl) ?_
  refine w_al0 (n := 1) dX12_tips_0 rfl ?_
  refine w_il1 (n := 2) dX12_tips_1 rfl ?_
  refine w_iconst (n := 3) (nI 0) dX12_tips_2 (by decide) rfl ?_
  refine w_cV2 (n := 6) pl_104 cl_12 s0_X12_of k_X12_69 (Nat.le_of_ble_eq_true rfl) dX12_tips_3 rfl (r_of (h := h) (w := 0) (by omega) ((hr.kind h6_h).trans (congrArg nI hk)) ?_)
  · skip
    refine w_look (off := 58) 64 dX12_tips_6 rfl rfl (by decide) ?_
    refine w_al0 (n := 65) dX12_tips_64 rfl ?_
    refine w_il1 (n := 66) dX12_tips_65 rfl ?_
    refine w_il2 (n := 67) dX12_tips_66 rfl ?_
    refine w_cV2 (n := 70) pl_104 cl_12 s0_X12_plainTips k_X12_313 (Nat.le_of_ble_eq_true rfl) dX12_tips_67 rfl (r_ptips hT (fun M3 g3_h g4_h => ?_))
    refine w_retI dX12_tips_70 rfl ?_
    exact hq M3 g3_h g4_h

set_option maxRecDepth 20000 in
theorem r_tips_5 {d : Nat} {M : dk_Mem} {Q : Option Value → dk_Mem → Prop} {σ : Nat → Nat} (hr : rr σ M) {h : Nat} (h6_h : h < 6) (hk : σ (35 + 5 * h) = 5) {T : at_T} (hT : rTS T M) {x : Int32} (hq : ∀ M2, dk_fr rT1 M M2 → rTS ((at_tips h x T 5).2) M2 → Q (some (.int ((at_tips h x T 5).1))) M2) : dk_Call (d + 2) mX12_tips [.ref 104, .int (nI h), .int x] M Q := by
  refine dk_enter [some (.ref 104), some (.int (nI h)), some (.int x)] (by decide) (fun _ => rfl) (fun _ => Nat.le_of_ble_eq_true rfl) ?_
  refine w_al0 (n := 1) dX12_tips_0 rfl ?_
  refine w_il1 (n := 2) dX12_tips_1 rfl ?_
  refine w_iconst (n := 3) (nI 0) dX12_tips_2 (by decide) rfl ?_
  refine w_cV2 (n := 6) pl_104 cl_12 s0_X12_of k_X12_69 (Nat.le_of_ble_eq_true rfl) dX12_tips_3 rfl (r_of (h := h) (w := 0) (by omega) ((hr.kind h6_h).trans (congrArg nI hk)) ?_)
  · skip
    refine w_look (off := 58) 64 dX12_tips_6 rfl rfl (by decide) ?_
    refine w_al0 (n := 65) dX12_tips_64 rfl ?_
    refine w_il1 (n := 66) dX12_tips_65 rfl ?_
    refine w_il2 (n := 67) dX12_tips_66 rfl ?_
    refine w_cV2 (n := 70) pl_104 cl_12 s0_X12_plainTips k_X12_313 (Nat.le_of_ble_eq_true rfl) dX12_tips_67 rfl (r_ptips hT (fun M3 g3_h g4_h => ?_))
    refine w_retI dX12_tips_70 rfl ?_
    exact hq M3 g3_h g4_h

set_option maxRecDepth 20000 in
theorem r_ptaps_0 {d : Nat} {M : dk_Mem} {Q : Option Value → dk_Mem → Prop} {σ : Nat → Nat} (hr : rr σ M) {h : Nat} (h6_h : h < 6) (hk : σ (35 + 5 * h) = 0) {T : at_T} (hT : rTS T M) {x : Int32} (hq : ∀ M2, dk_fr rT1 M M2 → rTS ((at_pt 0 h (σ (38 + 5 * h)) x T).2) M2 → Q (some (.int ((at_pt 0 h (σ (38 + 5 * h)) x T).1))) M2) : dk_Call (d + 3) mX12_plainTaps [.ref 104, .int (nI h), .int x] M Q := by
  refine dk_enter [some (.ref 104), some (.int (nI h)), some (.int x)] (by decide) (fun _ => rfl) (fun _ => Nat.le_of_ble_eq_true rfl) ?_
  refine w_al0 (n := 1) dX12_plainTaps_0 rfl ?_
  refine w_bipush (n := 3) (nI 11) dX12_plainTaps_1 (by decide) rfl ?_
  refine w_cV1 (n := 6) pl_104 cl_12 s0_X12_begins k_X12_310 (Nat.le_of_ble_eq_true rfl) dX12_plainTaps_3 rfl (r_begins hT (fun M2 g1_h g2_h => ?_))
  refine w_al0 (n := 7) dX12_plainTaps_6 rfl ?_
  refine w_il1 (n := 8) dX12_plainTaps_7 rfl ?_
  refine w_il2 (n := 9) dX12_plainTaps_8 rfl ?_
  refine w_cV2 (n := 12) pl_104 cl_12 s0_X12_tips k_X12_316 (Nat.le_of_ble_eq_true rfl) dX12_plainTaps_9 rfl (r_tips_0 (hr.T1 g1_h) h6_h hk g2_h (fun M3 g3_h g4_h => ?_))
  have hr3_h := (hr.T1 g1_h).T1 g3_h
  refine w_iconst (n := 13) (nI 3) dX12_plainTaps_12 (by decide) rfl ?_
  refine w_al0 (n := 14) dX12_plainTaps_13 rfl ?_
  refine w_il1 (n := 15) dX12_plainTaps_14 rfl ?_
  refine w_iconst (n := 16) (nI 3) dX12_plainTaps_15 (by decide) rfl ?_
  refine w_cV2 (n := 19) pl_104 cl_12 s0_X12_of k_X12_69 (Nat.le_of_ble_eq_true rfl) dX12_plainTaps_16 rfl (r_of (h := h) (w := 3) (by omega) (hr3_h.room h6_h) ?_)
  refine w_imul (n := 20) dX12_plainTaps_19 rfl ?_
  refine w_iadd (n := 21) dX12_plainTaps_20 rfl ?_
  refine w_retI dX12_plainTaps_21 rfl ?_
  exact hq M3 (g1_h.tr g3_h) g4_h

set_option maxRecDepth 20000 in
theorem r_ptaps_1 {d : Nat} {M : dk_Mem} {Q : Option Value → dk_Mem → Prop} {σ : Nat → Nat} (hr : rr σ M) {h : Nat} (h6_h : h < 6) (hk : σ (35 + 5 * h) = 1) {T : at_T} (hT : rTS T M) {x : Int32} (hq : ∀ M2, dk_fr rT1 M M2 → rTS ((at_pt 1 h (σ (38 + 5 * h)) x T).2) M2 → Q (some (.int ((at_pt 1 h (σ (38 + 5 * h)) x T).1))) M2) : dk_Call (d + 3) mX12_plainTaps [.ref 104, .int (nI h), .int x] M Q := by
  refine dk_enter [some (.ref 104), some (.int (nI h)), some (.int x)] (by decide) (fun _ => rfl) (fun _ => Nat.le_of_ble_eq_true rfl) ?_
  refine w_al0 (n := 1) dX12_plainTaps_0 rfl ?_
  refine w_bipush (n := 3) (nI 11) dX12_plainTaps_1 (by decide) rfl ?_
  refine w_cV1 (n := 6) pl_104 cl_12 s0_X12_begins k_X12_310 (Nat.le_of_ble_eq_true rfl) dX12_plainTaps_3 rfl (r_begins hT (fun M2 g1_h g2_h => ?_))
  refine w_al0 (n := 7) dX12_plainTaps_6 rfl ?_
  refine w_il1 (n := 8) dX12_plainTaps_7 rfl ?_
  refine w_il2 (n := 9) dX12_plainTaps_8 rfl ?_
  refine w_cV2 (n := 12) pl_104 cl_12 s0_X12_tips k_X12_316 (Nat.le_of_ble_eq_true rfl) dX12_plainTaps_9 rfl (r_tips_1 (hr.T1 g1_h) h6_h hk g2_h (fun M3 g3_h g4_h => ?_))
  have hr3_h := (hr.T1 g1_h).T1 g3_h
  refine w_iconst (n := 13) (nI 3) dX12_plainTaps_12 (by decide) rfl ?_
  refine w_al0 (n := 14) dX12_plainTaps_13 rfl ?_
  refine w_il1 (n := 15) dX12_plainTaps_14 rfl ?_
  refine w_iconst (n := 16) (nI 3) dX12_plainTaps_15 (by decide) rfl ?_
  refine w_cV2 (n := 19) pl_104 cl_12 s0_X12_of k_X12_69 (Nat.le_of_ble_eq_true rfl) dX12_plainTaps_16 rfl (r_of (h := h) (w := 3) (by omega) (hr3_h.room h6_h) ?_)
  refine w_imul (n := 20) dX12_plainTaps_19 rfl ?_
  refine w_iadd (n := 21) dX12_plainTaps_20 rfl ?_
  refine w_retI dX12_plainTaps_21 rfl ?_
  exact hq M3 (g1_h.tr g3_h) g4_h

set_option maxRecDepth 20000 in
theorem r_ptaps_2 {d : Nat} {M : dk_Mem} {Q : Option Value → dk_Mem → Prop} {σ : Nat → Nat} (hr : rr σ M) {h : Nat} (h6_h : h < 6) (hk : σ (35 + 5 * h) = 2) {T : at_T} (hT : rTS T M) {x : Int32} (hq : ∀ M2, dk_fr rT1 M M2 → rTS ((at_pt 2 h (σ (38 + 5 * h)) x T).2) M2 → Q (some (.int ((at_pt 2 h (σ (38 + 5 * h)) x T).1))) M2) : dk_Call (d + 3) mX12_plainTaps [.ref 104, .int (nI h), .int x] M Q := by
  refine dk_enter [some (.ref 104), some (.int (nI h)), some (.int x)] (by decide) (fun _ => rfl) (fun _ => Nat.le_of_ble_eq_true rfl) ?_
  refine w_al0 (n := 1) dX12_plainTaps_0 rfl ?_
  refine w_bipush (n := 3) (nI 11) dX12_plainTaps_1 (by decide) rfl ?_
  refine w_cV1 (n := 6) pl_104 cl_12 s0_X12_begins k_X12_310 (Nat.le_of_ble_eq_true rfl) dX12_plainTaps_3 rfl (r_begins hT (fun M2 g1_h g2_h => ?_))
  refine w_al0 (n := 7) dX12_plainTaps_6 rfl ?_
  refine w_il1 (n := 8) dX12_plainTaps_7 rfl ?_
  refine w_il2 (n := 9) dX12_plainTaps_8 rfl ?_
  refine w_cV2 (n := 12) pl_104 cl_12 s0_X12_tips k_X12_316 (Nat.le_of_ble_eq_true rfl) dX12_plainTaps_9 rfl (r_tips_2 (hr.T1 g1_h) h6_h hk g2_h (fun M3 g3_h g4_h => ?_))
  have hr3_h := (hr.T1 g1_h).T1 g3_h
  refine w_iconst (n := 13) (nI 3) dX12_plainTaps_12 (by decide) rfl ?_
  refine w_al0 (n := 14) dX12_plainTaps_13 rfl ?_
  refine w_il1 (n := 15) dX12_plainTaps_14 rfl ?_
  refine w_iconst (n := 16) (nI 3) dX12_plainTaps_15 (by decide) rfl ?_
  refine w_cV2 (n := 19) pl_104 cl_12 s0_X12_of k_X12_69 (Nat.le_of_ble_eq_true rfl) dX12_plainTaps_16 rfl (r_of (h := h) (w := 3) (by omega) (hr3_h.room h6_h) ?_)
  refine w_imul (n := 20) dX12_plainTaps_19 rfl ?_
  refine w_iadd (n := 21) dX12_plainTaps_20 rfl ?_
  refine w_retI dX12_plainTaps_21 rfl ?_
  exact hq M3 (g1_h.tr g3_h) g4_h

set_option maxRecDepth 20000 in
theorem r_ptaps_3 {d : Nat} {M : dk_Mem} {Q : Option Value → dk_Mem → Prop} {σ : Nat → Nat} (hr : rr σ M) {h : Nat} (h6_h : h < 6) (hk : σ (35 + 5 * h) = 3) {T : at_T} (hT : rTS T M) {x : Int32} (hq : ∀ M2, dk_fr rT1 M M2 → rTS ((at_pt 3 h (σ (38 + 5 * h)) x T).2) M2 → Q (some (.int ((at_pt 3 h (σ (38 + 5 * h)) x T).1))) M2) : dk_Call (d + 3) mX12_plainTaps [.ref 104, .int (nI h), .int x] M Q := by
  refine dk_enter [some (.ref 104), some (.int (nI h)), some (.int x)] (by decide) (fun _ => rfl) (fun _ => Nat.le_of_ble_eq_true rfl) ?_
  refine w_al0 (n := 1) dX12_plainTaps_0 rfl ?_
  refine w_bipush (n := 3) (nI 11) dX12_plainTaps_1 (by decide) rfl ?_
  refine w_cV1 (n := 6) pl_104 cl_12 s0_X12_begins k_X12_310 (Nat.le_of_ble_eq_true rfl) dX12_plainTaps_3 rfl (r_begins hT (fun M2 g1_h g2_h => ?_))
  refine w_al0 (n := 7) dX12_plainTaps_6 rfl ?_
  refine w_il1 (n := 8) dX12_plainTaps_7 rfl ?_
  refine w_il2 (n := 9) dX12_plainTaps_8 rfl ?_
  refine w_cV2 (n := 12) pl_104 cl_12 s0_X12_tips k_X12_316 (Nat.le_of_ble_eq_true rfl) dX12_plainTaps_9 rfl (r_tips_3 (hr.T1 g1_h) h6_h hk g2_h (fun M3 g3_h g4_h => ?_))
  have hr3_h := (hr.T1 g1_h).T1 g3_h
  refine w_iconst (n := 13) (nI 3) dX12_plainTaps_12 (by decide) rfl ?_
  refine w_al0 (n := 14) dX12_plainTaps_13 rfl ?_
  refine w_il1 (n := 15) dX12_plainTaps_14 rfl ?_
  refine w_iconst (n := 16) (nI 3) dX12_plainTaps_15 (by decide) rfl ?_
  refine w_cV2 (n := 19) pl_104 cl_12 s0_X12_of k_X12_69 (Nat.le_of_ble_eq_true rfl) dX12_plainTaps_16 rfl (r_of (h := h) (w := 3) (by omega) (hr3_h.room h6_h) ?_)
  refine w_imul (n := 20) dX12_plainTaps_19 rfl ?_
  refine w_iadd (n := 21) dX12_plainTaps_20 rfl ?_
  refine w_retI dX12_plainTaps_21 rfl ?_
  exact hq M3 (g1_h.tr g3_h) g4_h

set_option maxRecDepth 20000 in
theorem r_ptaps_4 {d : Nat} {M : dk_Mem} {Q : Option Value → dk_Mem → Prop} {σ : Nat → Nat} (hr : rr σ M) {h : Nat} (h6_h : h < 6) (hk : σ (35 + 5 * h) = 4) {T : at_T} (hT : rTS T M) {x : Int32} (hq : ∀ M2, dk_fr rT1 M M2 → rTS ((at_pt 4 h (σ (38 + 5 * h)) x T).2) M2 → Q (some (.int ((at_pt 4 h (σ (38 + 5 * h)) x T).1))) M2) : dk_Call (d + 3) mX12_plainTaps [.ref 104, .int (nI h), .int x] M Q := by
  refine dk_enter [some (.ref 104), some (.int (nI h)), some (.int x)] (by decide) (fun _ => rfl) (fun _ => Nat.le_of_ble_eq_true rfl) ?_
  refine w_al0 (n := 1) dX12_plainTaps_0 rfl ?_
  refine w_bipush (n := 3) (nI 11) dX12_plainTaps_1 (by decide) rfl ?_
  refine w_cV1 (n := 6) pl_104 cl_12 s0_X12_begins k_X12_310 (Nat.le_of_ble_eq_true rfl) dX12_plainTaps_3 rfl (r_begins hT (fun M2 g1_h g2_h => ?_))
  refine w_al0 (n := 7) dX12_plainTaps_6 rfl ?_
  refine w_il1 (n := 8) dX12_plainTaps_7 rfl ?_
  refine w_il2 (n := 9) dX12_plainTaps_8 rfl ?_
  refine w_cV2 (n := 12) pl_104 cl_12 s0_X12_tips k_X12_316 (Nat.le_of_ble_eq_true rfl) dX12_plainTaps_9 rfl (r_tips_4 (hr.T1 g1_h) h6_h hk g2_h (fun M3 g3_h g4_h => ?_))
  have hr3_h := (hr.T1 g1_h).T1 g3_h
  refine w_iconst (n := 13) (nI 3) dX12_plainTaps_12 (by decide) rfl ?_
  refine w_al0 (n := 14) dX12_plainTaps_13 rfl ?_
  refine w_il1 (n := 15) dX12_plainTaps_14 rfl ?_
  refine w_iconst (n := 16) (nI 3) dX12_plainTaps_15 (by decide) rfl ?_
  refine w_cV2 (n := 19) pl_104 cl_12 s0_X12_of k_X12_69 (Nat.le_of_ble_eq_true rfl) dX12_plainTaps_16 rfl (r_of (h := h) (w := 3) (by omega) (hr3_h.room h6_h) ?_)
  refine w_imul (n := 20) dX12_plainTaps_19 rfl ?_
  refine w_iadd (n := 21) dX12_plainTaps_20 rfl ?_
  refine w_retI dX12_plainTaps_21 rfl ?_
  exact hq M3 (g1_h.tr g3_h) g4_h

set_option maxRecDepth 20000 in
theorem r_ptaps_5 {d : Nat} {M : dk_Mem} {Q : Option Value → dk_Mem → Prop} {σ : Nat → Nat} (hr : rr σ M) {h : Nat} (h6_h : h < 6) (hk : σ (35 + 5 * h) = 5) {T : at_T} (hT : rTS T M) {x : Int32} (hq : ∀ M2, dk_fr rT1 M M2 → rTS ((at_pt 5 h (σ (38 + 5 * h)) x T).2) M2 → Q (some (.int ((at_pt 5 h (σ (38 + 5 * h)) x T).1))) M2) : dk_Call (d + 3) mX12_plainTaps [.ref 104, .int (nI h), .int x] M Q := by
  refine dk_enter [some (.ref 104), some (.int (nI h)), some (.int x)] (by decide) (fun _ => rfl) (fun _ => Nat.le_of_ble_eq_true rfl) ?_
  refine w_al0 (n := 1) dX12_plainTaps_0 rfl ?_
  refine w_bipush (n := 3) (nI 11) dX12_plainTaps_1 (by decide) rfl ?_
  refine w_cV1 (n := 6) pl_104 cl_12 s0_X12_begins k_X12_310 (Nat.le_of_ble_eq_true rfl) dX12_plainTaps_3 rfl (r_begins hT (fun M2 g1_h g2_h => ?_))
  refine w_al0 (n := 7) dX12_plainTaps_6 rfl ?_
  refine w_il1 (n := 8) dX12_plainTaps_7 rfl ?_
  refine w_il2 (n := 9) dX12_plainTaps_8 rfl ?_
  refine w_cV2 (n := 12) pl_104 cl_12 s0_X12_tips k_X12_316 (Nat.le_of_ble_eq_true rfl) dX12_plainTaps_9 rfl (r_tips_5 (hr.T1 g1_h) h6_h hk g2_h (fun M3 g3_h g4_h => ?_))
  have hr3_h := (hr.T1 g1_h).T1 g3_h
  refine w_iconst (n := 13) (nI 3) dX12_plainTaps_12 (by decide) rfl ?_
  refine w_al0 (n := 14) dX12_plainTaps_13 rfl ?_
  refine w_il1 (n := 15) dX12_plainTaps_14 rfl ?_
  refine w_iconst (n := 16) (nI 3) dX12_plainTaps_15 (by decide) rfl ?_
  refine w_cV2 (n := 19) pl_104 cl_12 s0_X12_of k_X12_69 (Nat.le_of_ble_eq_true rfl) dX12_plainTaps_16 rfl (r_of (h := h) (w := 3) (by omega) (hr3_h.room h6_h) ?_)
  refine w_imul (n := 20) dX12_plainTaps_19 rfl ?_
  refine w_iadd (n := 21) dX12_plainTaps_20 rfl ?_
  refine w_retI dX12_plainTaps_21 rfl ?_
  exact hq M3 (g1_h.tr g3_h) g4_h

set_option maxRecDepth 20000 in
theorem r_taps_0 {d : Nat} {M : dk_Mem} {Q : Option Value → dk_Mem → Prop} {σ : Nat → Nat} (hr : rr σ M) {h : Nat} (h6_h : h < 6) (hk : σ (35 + 5 * h) = 0) {T : at_T} (hT : rTS T M) {x : Int32} (hq : ∀ M2, dk_fr rT1 M M2 → rTS ((at_taps h (σ (38 + 5 * h)) x T 0).2) M2 → Q (some (.int ((at_taps h (σ (38 + 5 * h)) x T 0).1))) M2) : dk_Call (d + 4) mX12_taps [.ref 104, .int (nI h), .int x] M Q := by
  refine dk_enter [some (.ref 104), some (.int (nI h)), some (.int x)] (by decide) (fun _ => rfl) (fun _ => Nat.le_of_ble_eq_true rfl) ?_
  refine w_al0 (n := 1) dX12_taps_0 rfl ?_
  refine w_il1 (n := 2) dX12_taps_1 rfl ?_
  refine w_iconst (n := 3) (nI 0) dX12_taps_2 (by decide) rfl ?_
  refine w_cV2 (n := 6) pl_104 cl_12 s0_X12_of k_X12_69 (Nat.le_of_ble_eq_true rfl) dX12_taps_3 rfl (r_of (h := h) (w := 0) (by omega) ((hr.kind h6_h).trans (congrArg nI hk)) ?_)
  · skip
    refine w_tabOut 65 dX12_taps_6 (by decide) (by decide) ?_
    refine w_al0 (n := 66) dX12_taps_65 rfl ?_
    refine w_il1 (n := 67) dX12_taps_66 rfl ?_
    refine w_il2 (n := 68) dX12_taps_67 rfl ?_
    refine w_cV2 (n := 71) pl_104 cl_12 s0_X12_plainTaps k_X12_319 (Nat.le_of_ble_eq_true rfl) dX12_taps_68 rfl (r_ptaps_0 hr h6_h hk hT (fun M3 g3_h g4_h => ?_))
    refine w_retI dX12_taps_71 rfl ?_
    exact hq M3 g3_h g4_h

set_option maxRecDepth 20000 in
theorem r_taps_1 {d : Nat} {M : dk_Mem} {Q : Option Value → dk_Mem → Prop} {σ : Nat → Nat} (hr : rr σ M) {h : Nat} (h6_h : h < 6) (hk : σ (35 + 5 * h) = 1) {T : at_T} (hT : rTS T M) {x : Int32} (hq : ∀ M2, dk_fr rT1 M M2 → rTS ((at_taps h (σ (38 + 5 * h)) x T 1).2) M2 → Q (some (.int ((at_taps h (σ (38 + 5 * h)) x T 1).1))) M2) : dk_Call (d + 4) mX12_taps [.ref 104, .int (nI h), .int x] M Q := by
  refine dk_enter [some (.ref 104), some (.int (nI h)), some (.int x)] (by decide) (fun _ => rfl) (fun _ => Nat.le_of_ble_eq_true rfl) ?_
  refine w_al0 (n := 1) dX12_taps_0 rfl ?_
  refine w_il1 (n := 2) dX12_taps_1 rfl ?_
  refine w_iconst (n := 3) (nI 0) dX12_taps_2 (by decide) rfl ?_
  refine w_cV2 (n := 6) pl_104 cl_12 s0_X12_of k_X12_69 (Nat.le_of_ble_eq_true rfl) dX12_taps_3 rfl (r_of (h := h) (w := 0) (by omega) ((hr.kind h6_h).trans (congrArg nI hk)) ?_)
  · skip
    refine w_tabOut 65 dX12_taps_6 (by decide) (by decide) ?_
    refine w_al0 (n := 66) dX12_taps_65 rfl ?_
    refine w_il1 (n := 67) dX12_taps_66 rfl ?_
    refine w_il2 (n := 68) dX12_taps_67 rfl ?_
    refine w_cV2 (n := 71) pl_104 cl_12 s0_X12_plainTaps k_X12_319 (Nat.le_of_ble_eq_true rfl) dX12_taps_68 rfl (r_ptaps_1 hr h6_h hk hT (fun M3 g3_h g4_h => ?_))
    refine w_retI dX12_taps_71 rfl ?_
    exact hq M3 g3_h g4_h

set_option maxRecDepth 20000 in
theorem r_taps_2 {d : Nat} {M : dk_Mem} {Q : Option Value → dk_Mem → Prop} {σ : Nat → Nat} (hr : rr σ M) {h : Nat} (h6_h : h < 6) (hk : σ (35 + 5 * h) = 2) {T : at_T} (hT : rTS T M) {x : Int32} (hq : ∀ M2, dk_fr rT1 M M2 → rTS ((at_taps h (σ (38 + 5 * h)) x T 2).2) M2 → Q (some (.int ((at_taps h (σ (38 + 5 * h)) x T 2).1))) M2) : dk_Call (d + 4) mX12_taps [.ref 104, .int (nI h), .int x] M Q := by
  refine dk_enter [some (.ref 104), some (.int (nI h)), some (.int x)] (by decide) (fun _ => rfl) (fun _ => Nat.le_of_ble_eq_true rfl) ?_
  refine w_al0 (n := 1) dX12_taps_0 rfl ?_
  refine w_il1 (n := 2) dX12_taps_1 rfl ?_
  refine w_iconst (n := 3) (nI 0) dX12_taps_2 (by decide) rfl ?_
  refine w_cV2 (n := 6) pl_104 cl_12 s0_X12_of k_X12_69 (Nat.le_of_ble_eq_true rfl) dX12_taps_3 rfl (r_of (h := h) (w := 0) (by omega) ((hr.kind h6_h).trans (congrArg nI hk)) ?_)
  · skip
    refine w_tabIn 36 dX12_taps_6 (by decide) (by decide) rfl (by decide) ?_
    refine w_al0 (n := 37) dX12_taps_36 rfl ?_
    refine w_bipush (n := 39) (nI 30) dX12_taps_37 (by decide) rfl ?_
    refine w_cV1 (n := 42) pl_104 cl_12 s0_X12_begins k_X12_310 (Nat.le_of_ble_eq_true rfl) dX12_taps_39 rfl (r_begins hT (fun M2 g1_h g2_h => ?_))
    refine w_al0 (n := 43) dX12_taps_42 rfl ?_
    refine w_il1 (n := 44) dX12_taps_43 rfl ?_
    refine w_il2 (n := 45) dX12_taps_44 rfl ?_
    refine w_cV2 (n := 48) pl_104 cl_12 s0_X12_plainTaps k_X12_319 (Nat.le_of_ble_eq_true rfl) dX12_taps_45 rfl (r_ptaps_2 (hr.T1 g1_h) h6_h hk g2_h (fun M3 g3_h g4_h => ?_))
    refine w_iconst (n := 49) (nI 2) dX12_taps_48 (by decide) rfl ?_
    refine w_imul (n := 50) dX12_taps_49 rfl ?_
    refine w_retI dX12_taps_50 rfl ?_
    exact hq M3 (g1_h.tr g3_h) g4_h

set_option maxRecDepth 20000 in
theorem r_taps_3 {d : Nat} {M : dk_Mem} {Q : Option Value → dk_Mem → Prop} {σ : Nat → Nat} (hr : rr σ M) {h : Nat} (h6_h : h < 6) (hk : σ (35 + 5 * h) = 3) {T : at_T} (hT : rTS T M) {x : Int32} (hq : ∀ M2, dk_fr rT1 M M2 → rTS ((at_taps h (σ (38 + 5 * h)) x T 3).2) M2 → Q (some (.int ((at_taps h (σ (38 + 5 * h)) x T 3).1))) M2) : dk_Call (d + 4) mX12_taps [.ref 104, .int (nI h), .int x] M Q := by
  refine dk_enter [some (.ref 104), some (.int (nI h)), some (.int x)] (by decide) (fun _ => rfl) (fun _ => Nat.le_of_ble_eq_true rfl) ?_
  refine w_al0 (n := 1) dX12_taps_0 rfl ?_
  refine w_il1 (n := 2) dX12_taps_1 rfl ?_
  refine w_iconst (n := 3) (nI 0) dX12_taps_2 (by decide) rfl ?_
  refine w_cV2 (n := 6) pl_104 cl_12 s0_X12_of k_X12_69 (Nat.le_of_ble_eq_true rfl) dX12_taps_3 rfl (r_of (h := h) (w := 0) (by omega) ((hr.kind h6_h).trans (congrArg nI hk)) ?_)
  · skip
    refine w_tabIn 36 dX12_taps_6 (by decide) (by decide) rfl (by decide) ?_
    refine w_al0 (n := 37) dX12_taps_36 rfl ?_
    refine w_bipush (n := 39) (nI 30) dX12_taps_37 (by decide) rfl ?_
    refine w_cV1 (n := 42) pl_104 cl_12 s0_X12_begins k_X12_310 (Nat.le_of_ble_eq_true rfl) dX12_taps_39 rfl (r_begins hT (fun M2 g1_h g2_h => ?_))
    refine w_al0 (n := 43) dX12_taps_42 rfl ?_
    refine w_il1 (n := 44) dX12_taps_43 rfl ?_
    refine w_il2 (n := 45) dX12_taps_44 rfl ?_
    refine w_cV2 (n := 48) pl_104 cl_12 s0_X12_plainTaps k_X12_319 (Nat.le_of_ble_eq_true rfl) dX12_taps_45 rfl (r_ptaps_3 (hr.T1 g1_h) h6_h hk g2_h (fun M3 g3_h g4_h => ?_))
    refine w_iconst (n := 49) (nI 2) dX12_taps_48 (by decide) rfl ?_
    refine w_imul (n := 50) dX12_taps_49 rfl ?_
    refine w_retI dX12_taps_50 rfl ?_
    exact hq M3 (g1_h.tr g3_h) g4_h

set_option maxRecDepth 20000 in
theorem r_taps_4 {d : Nat} {M : dk_Mem} {Q : Option Value → dk_Mem → Prop} {σ : Nat → Nat} (hr : rr σ M) {h : Nat} (h6_h : h < 6) (hk : σ (35 + 5 * h) = 4) {T : at_T} (hT : rTS T M) {x : Int32} (hq : ∀ M2, dk_fr rT1 M M2 → rTS ((at_taps h (σ (38 + 5 * h)) x T 4).2) M2 → Q (some (.int ((at_taps h (σ (38 + 5 * h)) x T 4).1))) M2) : dk_Call (d + 4) mX12_taps [.ref 104, .int (nI h), .int x] M Q := by
  refine dk_enter [some (.ref 104), some (.int (nI h)), some (.int x)] (by decide) (fun _ => rfl) (fun _ => Nat.le_of_ble_eq_true rfl) ?_
  refine w_al0 (n := 1) dX12_taps_0 rfl ?_
  refine w_il1 (n := 2) dX12_taps_1 rfl ?_
  refine w_iconst (n := 3) (nI 0) dX12_taps_2 (by decide) rfl ?_
  refine w_cV2 (n := 6) pl_104 cl_12 s0_X12_of k_X12_69 (Nat.le_of_ble_eq_true rfl) dX12_taps_3 rfl (r_of (h := h) (w := 0) (by omega) ((hr.kind h6_h).trans (congrArg nI hk)) ?_)
  · skip
    refine w_tabIn 65 dX12_taps_6 (by decide) (by decide) rfl (by decide) ?_
    refine w_al0 (n := 66) dX12_taps_65 rfl ?_
    refine w_il1 (n := 67) dX12_taps_66 rfl ?_
    refine w_il2 (n := 68) dX12_taps_67 rfl ?_
    refine w_cV2 (n := 71) pl_104 cl_12 s0_X12_plainTaps k_X12_319 (Nat.le_of_ble_eq_true rfl) dX12_taps_68 rfl (r_ptaps_4 hr h6_h hk hT (fun M3 g3_h g4_h => ?_))
    refine w_retI dX12_taps_71 rfl ?_
    exact hq M3 g3_h g4_h

set_option maxRecDepth 20000 in
theorem r_taps_5 {d : Nat} {M : dk_Mem} {Q : Option Value → dk_Mem → Prop} {σ : Nat → Nat} (hr : rr σ M) {h : Nat} (h6_h : h < 6) (hk : σ (35 + 5 * h) = 5) {T : at_T} (hT : rTS T M) {x : Int32} (hq : ∀ M2, dk_fr rT1 M M2 → rTS ((at_taps h (σ (38 + 5 * h)) x T 5).2) M2 → Q (some (.int ((at_taps h (σ (38 + 5 * h)) x T 5).1))) M2) : dk_Call (d + 4) mX12_taps [.ref 104, .int (nI h), .int x] M Q := by
  refine dk_enter [some (.ref 104), some (.int (nI h)), some (.int x)] (by decide) (fun _ => rfl) (fun _ => Nat.le_of_ble_eq_true rfl) ?_
  refine w_al0 (n := 1) dX12_taps_0 rfl ?_
  refine w_il1 (n := 2) dX12_taps_1 rfl ?_
  refine w_iconst (n := 3) (nI 0) dX12_taps_2 (by decide) rfl ?_
  refine w_cV2 (n := 6) pl_104 cl_12 s0_X12_of k_X12_69 (Nat.le_of_ble_eq_true rfl) dX12_taps_3 rfl (r_of (h := h) (w := 0) (by omega) ((hr.kind h6_h).trans (congrArg nI hk)) ?_)
  · skip
    refine w_tabIn 51 dX12_taps_6 (by decide) (by decide) rfl (by decide) ?_
    refine w_al0 (n := 52) dX12_taps_51 rfl ?_
    refine w_bipush (n := 54) (nI 60) dX12_taps_52 (by decide) rfl ?_
    refine w_cV1 (n := 57) pl_104 cl_12 s0_X12_begins k_X12_310 (Nat.le_of_ble_eq_true rfl) dX12_taps_54 rfl (r_begins hT (fun M2 g1_h g2_h => ?_))
    refine w_al0 (n := 58) dX12_taps_57 rfl ?_
    refine w_il1 (n := 59) dX12_taps_58 rfl ?_
    refine w_il2 (n := 60) dX12_taps_59 rfl ?_
    refine w_cV2 (n := 63) pl_104 cl_12 s0_X12_plainTaps k_X12_319 (Nat.le_of_ble_eq_true rfl) dX12_taps_60 rfl (r_ptaps_5 (hr.T1 g1_h) h6_h hk g2_h (fun M3 g3_h g4_h => ?_))
    refine w_ineg (n := 64) dX12_taps_63 rfl ?_
    refine w_retI dX12_taps_64 rfl ?_
    rw [← Int32.zero_sub]
    exact hq M3 (g1_h.tr g3_h) g4_h

theorem r_tips {d : Nat} {M : dk_Mem} {Q : Option Value → dk_Mem → Prop} {σ : Nat → Nat} (hr : rr σ M) {h : Nat} (h6_h : h < 6) (k5_h : σ (35 + 5 * h) ≤ 5) {T : at_T} (hT : rTS T M) {x : Int32} (hq : ∀ M2, dk_fr rT1 M M2 → rTS ((at_tips h x T (σ (35 + 5 * h))).2) M2 → Q (some (.int ((at_tips h x T (σ (35 + 5 * h))).1))) M2) : dk_Call (d + 2) mX12_tips [.ref 104, .int (nI h), .int x] M Q := by
  rcases (show σ (35 + 5 * h) = 0 ∨ σ (35 + 5 * h) = 1 ∨ σ (35 + 5 * h) = 2 ∨ σ (35 + 5 * h) = 3 ∨ σ (35 + 5 * h) = 4 ∨ σ (35 + 5 * h) = 5 by omega) with hk | hk | hk | hk | hk | hk
  · rw [hk] at hq
    exact r_tips_0 hr h6_h hk hT hq
  · rw [hk] at hq
    exact r_tips_1 hr h6_h hk hT hq
  · rw [hk] at hq
    exact r_tips_2 hr h6_h hk hT hq
  · rw [hk] at hq
    exact r_tips_3 hr h6_h hk hT hq
  · rw [hk] at hq
    exact r_tips_4 hr h6_h hk hT hq
  · rw [hk] at hq
    exact r_tips_5 hr h6_h hk hT hq

theorem r_taps {d : Nat} {M : dk_Mem} {Q : Option Value → dk_Mem → Prop} {σ : Nat → Nat} (hr : rr σ M) {h : Nat} (h6_h : h < 6) (k5_h : σ (35 + 5 * h) ≤ 5) {T : at_T} (hT : rTS T M) {x : Int32} (hq : ∀ M2, dk_fr rT1 M M2 → rTS ((at_taps h (σ (38 + 5 * h)) x T (σ (35 + 5 * h))).2) M2 → Q (some (.int ((at_taps h (σ (38 + 5 * h)) x T (σ (35 + 5 * h))).1))) M2) : dk_Call (d + 4) mX12_taps [.ref 104, .int (nI h), .int x] M Q := by
  rcases (show σ (35 + 5 * h) = 0 ∨ σ (35 + 5 * h) = 1 ∨ σ (35 + 5 * h) = 2 ∨ σ (35 + 5 * h) = 3 ∨ σ (35 + 5 * h) = 4 ∨ σ (35 + 5 * h) = 5 by omega) with hk | hk | hk | hk | hk | hk
  · rw [hk] at hq
    exact r_taps_0 hr h6_h hk hT hq
  · rw [hk] at hq
    exact r_taps_1 hr h6_h hk hT hq
  · rw [hk] at hq
    exact r_taps_2 hr h6_h hk hT hq
  · rw [hk] at hq
    exact r_taps_3 hr h6_h hk hT hq
  · rw [hk] at hq
    exact r_taps_4 hr h6_h hk hT hq
  · rw [hk] at hq
    exact r_taps_5 hr h6_h hk hT hq

set_option maxRecDepth 20000 in
theorem r_ph_N {d : Nat} {M : dk_Mem} {Q : Option Value → dk_Mem → Prop} {σ : Nat → Nat} (hr : rr σ M) {h : Nat} (h6_h : h < 6) (hp : ¬ at_by h (σ (38 + 5 * h)) = 0) {T : at_T} (hT : rTS T M) {x : Int32} (hq : ∀ M2, dk_fr rT2 M M2 → rTS (at_b T 12) M2 → M2.1 104 30 = nI 0 → Q (some (.int (x / at_by h (σ (38 + 5 * h))))) M2) : dk_Call (d + 1) mX12_plainHalves [.ref 104, .int (nI h), .int x] M Q := by
  refine dk_enter [some (.ref 104), some (.int (nI h)), some (.int x), none] (by decide) (fun _ => rfl) (fun _ => Nat.le_of_ble_eq_true rfl) ?_
  refine w_al0 (n := 1) dX12_plainHalves_0 rfl ?_
  refine w_bipush (n := 3) (nI 12) dX12_plainHalves_1 (by decide) rfl ?_
  refine w_cV1 (n := 6) pl_104 cl_12 s0_X12_begins k_X12_310 (Nat.le_of_ble_eq_true rfl) dX12_plainHalves_3 rfl (r_begins hT (fun M2 g1_h g2_h => ?_))
  have hr2_h := hr.T1 g1_h
  refine w_al0 (n := 7) dX12_plainHalves_6 rfl ?_
  refine w_il1 (n := 8) dX12_plainHalves_7 rfl ?_
  refine w_iconst (n := 9) (nI 3) dX12_plainHalves_8 (by decide) rfl ?_
  refine w_cV2 (n := 12) pl_104 cl_12 s0_X12_of k_X12_69 (Nat.le_of_ble_eq_true rfl) dX12_plainHalves_9 rfl (r_of (h := h) (w := 3) (by omega) (hr2_h.room h6_h) ?_)
  refine w_il1 (n := 13) dX12_plainHalves_12 rfl ?_
  refine w_isub (n := 14) dX12_plainHalves_13 rfl ?_
  refine w_iconst (n := 15) (nI 4) dX12_plainHalves_14 (by decide) rfl ?_
  refine w_iadd (n := 16) dX12_plainHalves_15 rfl ?_
  rw [show nI (σ (38 + 5 * h)) - nI h + nI 4 = at_by h (σ (38 + 5 * h)) from rfl]
  refine w_is3 (n := 17) dX12_plainHalves_16 rfl rfl (by decide) ?_
  refine w_al0 (n := 18) dX12_plainHalves_17 rfl ?_
  refine w_il3 (n := 19) dX12_plainHalves_18 rfl ?_
  refine w_if_ne (n := 22) 26 dX12_plainHalves_19 (by decide) rfl (fun z19_h => ?_) (fun z19_h => ?_)
  · skip
    refine w_iconst (n := 27) (nI 0) dX12_plainHalves_26 (by decide) rfl ?_
    refine p_Z (n := 30) (by decide) f_X12_322_12 pl_104 dX12_plainHalves_27 rfl ?_
    refine w_al0 (n := 31) dX12_plainHalves_30 rfl ?_
    refine g_Z (n := 34) f_X12_322_12 pl_104 dX12_plainHalves_31 rfl ?_
    rw [dk_put_s]
    refine w_if_eq (n := 37) 41 dX12_plainHalves_34 (by decide) rfl (fun z34_h => ?_) (fun z34_h => ?_)
    · skip
      refine w_il2 (n := 42) dX12_plainHalves_41 rfl ?_
      refine w_il3 (n := 43) dX12_plainHalves_42 rfl ?_
      refine w_idiv (n := 44) hp dX12_plainHalves_43 rfl ?_
      refine w_retI dX12_plainHalves_44 rfl ?_
      exact hq _ ((rT12 g1_h).put (Or.inl ⟨rfl, Or.inr rfl⟩)) g2_h.p dk_put_s
    · skip
      exact absurd rfl z34_h
  · skip
    exact absurd z19_h hp

set_option maxRecDepth 20000 in
theorem r_gh_N {d : Nat} {M : dk_Mem} {Q : Option Value → dk_Mem → Prop} {σ : Nat → Nat} (hr : rr σ M) {h : Nat} (h6_h : h < 6) (hp : ¬ at_by h (σ (38 + 5 * h)) = 0) {T : at_T} (hT : rTS T M) {x : Int32} (hq : ∀ M2, dk_fr rT2 M M2 → rTS (at_b (at_b T 40) 12) M2 → M2.1 104 30 = nI 0 → Q (some (.int (x / at_by h (σ (38 + 5 * h)) + nI 5))) M2) : dk_Call (d + 2) mX12_girlHalves [.ref 104, .int (nI h), .int x] M Q := by
  refine dk_enter [some (.ref 104), some (.int (nI h)), some (.int x)] (by decide) (fun _ => rfl) (fun _ => Nat.le_of_ble_eq_true rfl) ?_
  refine w_al0 (n := 1) dX12_girlHalves_0 rfl ?_
  refine w_bipush (n := 3) (nI 40) dX12_girlHalves_1 (by decide) rfl ?_
  refine w_cV1 (n := 6) pl_104 cl_12 s0_X12_begins k_X12_310 (Nat.le_of_ble_eq_true rfl) dX12_girlHalves_3 rfl (r_begins hT (fun M2 g1_h g2_h => ?_))
  refine w_al0 (n := 7) dX12_girlHalves_6 rfl ?_
  refine w_il1 (n := 8) dX12_girlHalves_7 rfl ?_
  refine w_il2 (n := 9) dX12_girlHalves_8 rfl ?_
  refine w_cV2 (n := 12) pl_104 cl_12 s0_X12_plainHalves k_X12_325 (Nat.le_of_ble_eq_true rfl) dX12_girlHalves_9 rfl (r_ph_N (hr.T1 g1_h) h6_h hp g2_h (fun M3 g3_h g4_h g5_h => ?_))
  refine w_iconst (n := 13) (nI 5) dX12_girlHalves_12 (by decide) rfl ?_
  refine w_iadd (n := 14) dX12_girlHalves_13 rfl ?_
  refine w_retI dX12_girlHalves_14 rfl ?_
  exact hq M3 ((rT12 g1_h).tr g3_h) g4_h g5_h

set_option maxRecDepth 20000 in
theorem r_halves_N_0 {d : Nat} {M : dk_Mem} {Q : Option Value → dk_Mem → Prop} {σ : Nat → Nat} (hr : rr σ M) {h : Nat} (h6_h : h < 6) (hp : ¬ at_by h (σ (38 + 5 * h)) = 0) (hk : σ (35 + 5 * h) = 0) {T : at_T} (hT : rTS T M) {x : Int32} (hq : ∀ M2, dk_fr rT2 M M2 → rTS (at_hT false T 0) M2 → M2.1 104 30 = nI 0 → Q (some (.int (at_hv h (σ (38 + 5 * h)) x 0))) M2) : dk_Call (d + 3) mX12_halves [.ref 104, .int (nI h), .int x] M Q := by
  refine dk_enter [some (.ref 104), some (.int (nI h)), some (.int x), none] (by decide) (fun _ => rfl) (fun _ => Nat.le_of_ble_eq_true rfl) ?_
  refine w_al0 (n := 1) dX12_halves_0 rfl ?_
  refine w_il1 (n := 2) dX12_halves_1 rfl ?_
  refine w_iconst (n := 3) (nI 0) dX12_halves_2 (by decide) rfl ?_
  refine w_cV2 (n := 6) pl_104 cl_12 s0_X12_of k_X12_69 (Nat.le_of_ble_eq_true rfl) dX12_halves_3 rfl (r_of (h := h) (w := 0) (by omega) ((hr.kind h6_h).trans (congrArg nI hk)) ?_)
  · skip
    refine w_look (off := 66) 72 dX12_halves_6 rfl rfl (by decide) ?_
    refine w_al0 (n := 73) dX12_halves_72 rfl ?_
    refine w_il1 (n := 74) dX12_halves_73 rfl ?_
    refine w_il2 (n := 75) dX12_halves_74 rfl ?_
    refine w_cV2 (n := 78) pl_104 cl_12 s0_X12_plainHalves k_X12_325 (Nat.le_of_ble_eq_true rfl) dX12_halves_75 rfl (r_ph_N hr h6_h hp hT (fun M3 g3_h g4_h g5_h => ?_))
    refine w_retI dX12_halves_78 rfl ?_
    exact hq M3 g3_h g4_h g5_h

set_option maxRecDepth 20000 in
theorem r_halves_N_1 {d : Nat} {M : dk_Mem} {Q : Option Value → dk_Mem → Prop} {σ : Nat → Nat} (hr : rr σ M) {h : Nat} (h6_h : h < 6) (hp : ¬ at_by h (σ (38 + 5 * h)) = 0) (hk : σ (35 + 5 * h) = 1) {T : at_T} (hT : rTS T M) {x : Int32} (hq : ∀ M2, dk_fr rT2 M M2 → rTS (at_hT false T 1) M2 → M2.1 104 30 = nI 0 → Q (some (.int (at_hv h (σ (38 + 5 * h)) x 1))) M2) : dk_Call (d + 3) mX12_halves [.ref 104, .int (nI h), .int x] M Q := by
  refine dk_enter [some (.ref 104), some (.int (nI h)), some (.int x), none] (by decide) (fun _ => rfl) (fun _ => Nat.le_of_ble_eq_true rfl) ?_
  refine w_al0 (n := 1) dX12_halves_0 rfl ?_
  refine w_il1 (n := 2) dX12_halves_1 rfl ?_
  refine w_iconst (n := 3) (nI 0) dX12_halves_2 (by decide) rfl ?_
  refine w_cV2 (n := 6) pl_104 cl_12 s0_X12_of k_X12_69 (Nat.le_of_ble_eq_true rfl) dX12_halves_3 rfl (r_of (h := h) (w := 0) (by omega) ((hr.kind h6_h).trans (congrArg nI hk)) ?_)
  · skip
    refine w_look (off := 66) 72 dX12_halves_6 rfl rfl (by decide) ?_
    refine w_al0 (n := 73) dX12_halves_72 rfl ?_
    refine w_il1 (n := 74) dX12_halves_73 rfl ?_
    refine w_il2 (n := 75) dX12_halves_74 rfl ?_
    refine w_cV2 (n := 78) pl_104 cl_12 s0_X12_plainHalves k_X12_325 (Nat.le_of_ble_eq_true rfl) dX12_halves_75 rfl (r_ph_N hr h6_h hp hT (fun M3 g3_h g4_h g5_h => ?_))
    refine w_retI dX12_halves_78 rfl ?_
    exact hq M3 g3_h g4_h g5_h

set_option maxRecDepth 20000 in
theorem r_halves_N_2 {d : Nat} {M : dk_Mem} {Q : Option Value → dk_Mem → Prop} {σ : Nat → Nat} (hr : rr σ M) {h : Nat} (h6_h : h < 6) (hp : ¬ at_by h (σ (38 + 5 * h)) = 0) (hk : σ (35 + 5 * h) = 2) {T : at_T} (hT : rTS T M) {x : Int32} (hq : ∀ M2, dk_fr rT2 M M2 → rTS (at_hT false T 2) M2 → M2.1 104 30 = nI 0 → Q (some (.int (at_hv h (σ (38 + 5 * h)) x 2))) M2) : dk_Call (d + 3) mX12_halves [.ref 104, .int (nI h), .int x] M Q := by
  refine dk_enter [some (.ref 104), some (.int (nI h)), some (.int x), none] (by decide) (fun _ => rfl) (fun _ => Nat.le_of_ble_eq_true rfl) ?_
  refine w_al0 (n := 1) dX12_halves_0 rfl ?_
  refine w_il1 (n := 2) dX12_halves_1 rfl ?_
  refine w_iconst (n := 3) (nI 0) dX12_halves_2 (by decide) rfl ?_
  refine w_cV2 (n := 6) pl_104 cl_12 s0_X12_of k_X12_69 (Nat.le_of_ble_eq_true rfl) dX12_halves_3 rfl (r_of (h := h) (w := 0) (by omega) ((hr.kind h6_h).trans (congrArg nI hk)) ?_)
  · skip
    refine w_look (off := 66) 72 dX12_halves_6 rfl rfl (by decide) ?_
    refine w_al0 (n := 73) dX12_halves_72 rfl ?_
    refine w_il1 (n := 74) dX12_halves_73 rfl ?_
    refine w_il2 (n := 75) dX12_halves_74 rfl ?_
    refine w_cV2 (n := 78) pl_104 cl_12 s0_X12_plainHalves k_X12_325 (Nat.le_of_ble_eq_true rfl) dX12_halves_75 rfl (r_ph_N hr h6_h hp hT (fun M3 g3_h g4_h g5_h => ?_))
    refine w_retI dX12_halves_78 rfl ?_
    exact hq M3 g3_h g4_h g5_h

set_option maxRecDepth 20000 in
theorem r_halves_N_3 {d : Nat} {M : dk_Mem} {Q : Option Value → dk_Mem → Prop} {σ : Nat → Nat} (hr : rr σ M) {h : Nat} (h6_h : h < 6) (hp : ¬ at_by h (σ (38 + 5 * h)) = 0) (hk : σ (35 + 5 * h) = 3) {T : at_T} (hT : rTS T M) {x : Int32} (hq : ∀ M2, dk_fr rT2 M M2 → rTS (at_hT false T 3) M2 → M2.1 104 30 = nI 0 → Q (some (.int (at_hv h (σ (38 + 5 * h)) x 3))) M2) : dk_Call (d + 3) mX12_halves [.ref 104, .int (nI h), .int x] M Q := by
  refine dk_enter [some (.ref 104), some (.int (nI h)), some (.int x), none] (by decide) (fun _ => rfl) (fun _ => Nat.le_of_ble_eq_true rfl) ?_
  refine w_al0 (n := 1) dX12_halves_0 rfl ?_
  refine w_il1 (n := 2) dX12_halves_1 rfl ?_
  refine w_iconst (n := 3) (nI 0) dX12_halves_2 (by decide) rfl ?_
  refine w_cV2 (n := 6) pl_104 cl_12 s0_X12_of k_X12_69 (Nat.le_of_ble_eq_true rfl) dX12_halves_3 rfl (r_of (h := h) (w := 0) (by omega) ((hr.kind h6_h).trans (congrArg nI hk)) ?_)
  · skip
    refine w_look (off := 66) 72 dX12_halves_6 rfl rfl (by decide) ?_
    refine w_al0 (n := 73) dX12_halves_72 rfl ?_
    refine w_il1 (n := 74) dX12_halves_73 rfl ?_
    refine w_il2 (n := 75) dX12_halves_74 rfl ?_
    refine w_cV2 (n := 78) pl_104 cl_12 s0_X12_plainHalves k_X12_325 (Nat.le_of_ble_eq_true rfl) dX12_halves_75 rfl (r_ph_N hr h6_h hp hT (fun M3 g3_h g4_h g5_h => ?_))
    refine w_retI dX12_halves_78 rfl ?_
    exact hq M3 g3_h g4_h g5_h

set_option maxRecDepth 20000 in
theorem r_halves_N_4 {d : Nat} {M : dk_Mem} {Q : Option Value → dk_Mem → Prop} {σ : Nat → Nat} (hr : rr σ M) {h : Nat} (h6_h : h < 6) (hp : ¬ at_by h (σ (38 + 5 * h)) = 0) (hk : σ (35 + 5 * h) = 4) {T : at_T} (hT : rTS T M) {x : Int32} (hq : ∀ M2, dk_fr rT2 M M2 → rTS (at_hT false T 4) M2 → M2.1 104 30 = nI 0 → Q (some (.int (at_hv h (σ (38 + 5 * h)) x 4))) M2) : dk_Call (d + 3) mX12_halves [.ref 104, .int (nI h), .int x] M Q := by
  refine dk_enter [some (.ref 104), some (.int (nI h)), some (.int x), none] (by decide) (fun _ => rfl) (fun _ => Nat.le_of_ble_eq_true rfl) ?_
  refine w_al0 (n := 1) dX12_halves_0 rfl ?_
  refine w_il1 (n := 2) dX12_halves_1 rfl ?_
  refine w_iconst (n := 3) (nI 0) dX12_halves_2 (by decide) rfl ?_
  refine w_cV2 (n := 6) pl_104 cl_12 s0_X12_of k_X12_69 (Nat.le_of_ble_eq_true rfl) dX12_halves_3 rfl (r_of (h := h) (w := 0) (by omega) ((hr.kind h6_h).trans (congrArg nI hk)) ?_)
  · skip
    refine w_look (off := 26) 32 dX12_halves_6 rfl rfl (by decide) ?_
    refine w_al0 (n := 33) dX12_halves_32 rfl ?_
    refine w_il1 (n := 34) dX12_halves_33 rfl ?_
    refine w_il2 (n := 35) dX12_halves_34 rfl ?_
    refine w_cV2 (n := 38) pl_104 cl_12 s0_X12_girlHalves k_X12_328 (Nat.le_of_ble_eq_true rfl) dX12_halves_35 rfl (r_gh_N hr h6_h hp hT (fun M3 g3_h g4_h g5_h => ?_))
    refine w_retI dX12_halves_38 rfl ?_
    exact hq M3 g3_h g4_h g5_h

set_option maxRecDepth 20000 in
theorem r_halves_N_5 {d : Nat} {M : dk_Mem} {Q : Option Value → dk_Mem → Prop} {σ : Nat → Nat} (hr : rr σ M) {h : Nat} (h6_h : h < 6) (hp : ¬ at_by h (σ (38 + 5 * h)) = 0) (hk : σ (35 + 5 * h) = 5) {T : at_T} (hT : rTS T M) {x : Int32} (hq : ∀ M2, dk_fr rT2 M M2 → rTS (at_hT false T 5) M2 → M2.1 104 30 = nI 0 → Q (some (.int (at_hv h (σ (38 + 5 * h)) x 5))) M2) : dk_Call (d + 3) mX12_halves [.ref 104, .int (nI h), .int x] M Q := by
  refine dk_enter [some (.ref 104), some (.int (nI h)), some (.int x), none] (by decide) (fun _ => rfl) (fun _ => Nat.le_of_ble_eq_true rfl) ?_
  refine w_al0 (n := 1) dX12_halves_0 rfl ?_
  refine w_il1 (n := 2) dX12_halves_1 rfl ?_
  refine w_iconst (n := 3) (nI 0) dX12_halves_2 (by decide) rfl ?_
  refine w_cV2 (n := 6) pl_104 cl_12 s0_X12_of k_X12_69 (Nat.le_of_ble_eq_true rfl) dX12_halves_3 rfl (r_of (h := h) (w := 0) (by omega) ((hr.kind h6_h).trans (congrArg nI hk)) ?_)
  · skip
    refine w_look (off := 33) 39 dX12_halves_6 rfl rfl (by decide) ?_
    refine w_al0 (n := 40) dX12_halves_39 rfl ?_
    refine w_bipush (n := 42) (nI 61) dX12_halves_40 (by decide) rfl ?_
    refine w_cV1 (n := 45) pl_104 cl_12 s0_X12_begins k_X12_310 (Nat.le_of_ble_eq_true rfl) dX12_halves_42 rfl (r_begins hT (fun M2 g1_h g2_h => ?_))
    refine w_al0 (n := 46) dX12_halves_45 rfl ?_
    refine w_il1 (n := 47) dX12_halves_46 rfl ?_
    refine w_il2 (n := 48) dX12_halves_47 rfl ?_
    refine w_cV2 (n := 51) pl_104 cl_12 s0_X12_girlHalves k_X12_328 (Nat.le_of_ble_eq_true rfl) dX12_halves_48 rfl (r_gh_N (hr.T1 g1_h) h6_h hp g2_h (fun M3 g3_h g4_h g5_h => ?_))
    have hr3_h := (hr.T1 g1_h).T2 g3_h
    refine w_is3 (n := 52) dX12_halves_51 rfl rfl (by decide) ?_
    refine w_al0 (n := 53) dX12_halves_52 rfl ?_
    refine g_Z (n := 56) f_X12_322_12 pl_104 dX12_halves_53 rfl ?_
    rw [g5_h]
    refine w_if_eq (n := 59) 63 dX12_halves_56 (by decide) rfl (fun z56_h => ?_) (fun z56_h => ?_)
    · skip
      refine w_il3 (n := 64) dX12_halves_63 rfl ?_
      refine w_al0 (n := 65) dX12_halves_64 rfl ?_
      refine w_il1 (n := 66) dX12_halves_65 rfl ?_
      refine w_il1 (n := 67) dX12_halves_66 rfl ?_
      refine w_cV2 (n := 70) pl_104 cl_12 s0_X12_tips k_X12_316 (Nat.le_of_ble_eq_true rfl) dX12_halves_67 rfl (r_tips_5 hr3_h h6_h hk g4_h (fun M4 g6_h g7_h => ?_))
      refine w_iadd (n := 71) dX12_halves_70 rfl ?_
      refine w_retI dX12_halves_71 rfl ?_
      exact hq M4 (((rT12 g1_h).tr g3_h).tr (rT12 g6_h)) g7_h ((g6_h.2 104 30 (by unfold rT1; omega)).trans g5_h)
    · skip
      exact absurd rfl z56_h

set_option maxRecDepth 20000 in
theorem r_pu_N_0 {d : Nat} {M : dk_Mem} {Q : Option Value → dk_Mem → Prop} {σ : Nat → Nat} (hr : rr σ M) {h : Nat} (h6_h : h < 6) (hp : ¬ at_by h (σ (38 + 5 * h)) = 0) (hk : σ (35 + 5 * h) = 0) {T : at_T} (hT : rTS T M) {x : Int32} (hq : ∀ M2, dk_fr rT2 M M2 → rTS (at_uT false h (σ (38 + 5 * h)) x T 0) M2 → M2.1 104 30 = nI 0 → Q (some (.int (at_uv h (σ (38 + 5 * h)) x T 0))) M2) : dk_Call (d + 5) mX12_plainTurns [.ref 104, .int (nI h), .int x] M Q := by
  refine dk_enter [some (.ref 104), some (.int (nI h)), some (.int x), none] (by decide) (fun _ => rfl) (fun _ => Nat.le_of_ble_eq_true rfl) ?_
  refine w_al0 (n := 1) dX12_plainTurns_0 rfl ?_
  refine w_bipush (n := 3) (nI 13) dX12_plainTurns_1 (by decide) rfl ?_
  refine w_cV1 (n := 6) pl_104 cl_12 s0_X12_begins k_X12_310 (Nat.le_of_ble_eq_true rfl) dX12_plainTurns_3 rfl (r_begins hT (fun M2 g1_h g2_h => ?_))
  refine w_al0 (n := 7) dX12_plainTurns_6 rfl ?_
  refine w_il1 (n := 8) dX12_plainTurns_7 rfl ?_
  refine w_il2 (n := 9) dX12_plainTurns_8 rfl ?_
  refine w_cV2 (n := 12) pl_104 cl_12 s0_X12_taps k_X12_331 (Nat.le_of_ble_eq_true rfl) dX12_plainTurns_9 rfl (r_taps_0 (hr.T1 g1_h) h6_h hk g2_h (fun M3 g3_h g4_h => ?_))
  have hr3_h := (hr.T1 g1_h).T1 g3_h
  refine w_is3 (n := 13) dX12_plainTurns_12 rfl rfl (by decide) ?_
  refine w_il3 (n := 14) dX12_plainTurns_13 rfl ?_
  refine w_al0 (n := 15) dX12_plainTurns_14 rfl ?_
  refine w_il1 (n := 16) dX12_plainTurns_15 rfl ?_
  refine w_il2 (n := 17) dX12_plainTurns_16 rfl ?_
  refine w_cV2 (n := 20) pl_104 cl_12 s0_X12_halves k_X12_334 (Nat.le_of_ble_eq_true rfl) dX12_plainTurns_17 rfl (r_halves_N_0 hr3_h h6_h hp hk g4_h (fun M4 g6_h g7_h g8_h => ?_))
  refine w_ixor (n := 21) dX12_plainTurns_20 rfl ?_
  refine w_retI dX12_plainTurns_21 rfl ?_
  exact hq M4 ((rT12 (g1_h.tr g3_h)).tr g6_h) g7_h g8_h

set_option maxRecDepth 20000 in
theorem r_pu_N_1 {d : Nat} {M : dk_Mem} {Q : Option Value → dk_Mem → Prop} {σ : Nat → Nat} (hr : rr σ M) {h : Nat} (h6_h : h < 6) (hp : ¬ at_by h (σ (38 + 5 * h)) = 0) (hk : σ (35 + 5 * h) = 1) {T : at_T} (hT : rTS T M) {x : Int32} (hq : ∀ M2, dk_fr rT2 M M2 → rTS (at_uT false h (σ (38 + 5 * h)) x T 1) M2 → M2.1 104 30 = nI 0 → Q (some (.int (at_uv h (σ (38 + 5 * h)) x T 1))) M2) : dk_Call (d + 5) mX12_plainTurns [.ref 104, .int (nI h), .int x] M Q := by
  refine dk_enter [some (.ref 104), some (.int (nI h)), some (.int x), none] (by decide) (fun _ => rfl) (fun _ => Nat.le_of_ble_eq_true rfl) ?_
  refine w_al0 (n := 1) dX12_plainTurns_0 rfl ?_
  refine w_bipush (n := 3) (nI 13) dX12_plainTurns_1 (by decide) rfl ?_
  refine w_cV1 (n := 6) pl_104 cl_12 s0_X12_begins k_X12_310 (Nat.le_of_ble_eq_true rfl) dX12_plainTurns_3 rfl (r_begins hT (fun M2 g1_h g2_h => ?_))
  refine w_al0 (n := 7) dX12_plainTurns_6 rfl ?_
  refine w_il1 (n := 8) dX12_plainTurns_7 rfl ?_
  refine w_il2 (n := 9) dX12_plainTurns_8 rfl ?_
  refine w_cV2 (n := 12) pl_104 cl_12 s0_X12_taps k_X12_331 (Nat.le_of_ble_eq_true rfl) dX12_plainTurns_9 rfl (r_taps_1 (hr.T1 g1_h) h6_h hk g2_h (fun M3 g3_h g4_h => ?_))
  have hr3_h := (hr.T1 g1_h).T1 g3_h
  refine w_is3 (n := 13) dX12_plainTurns_12 rfl rfl (by decide) ?_
  refine w_il3 (n := 14) dX12_plainTurns_13 rfl ?_
  refine w_al0 (n := 15) dX12_plainTurns_14 rfl ?_
  refine w_il1 (n := 16) dX12_plainTurns_15 rfl ?_
  refine w_il2 (n := 17) dX12_plainTurns_16 rfl ?_
  refine w_cV2 (n := 20) pl_104 cl_12 s0_X12_halves k_X12_334 (Nat.le_of_ble_eq_true rfl) dX12_plainTurns_17 rfl (r_halves_N_1 hr3_h h6_h hp hk g4_h (fun M4 g6_h g7_h g8_h => ?_))
  refine w_ixor (n := 21) dX12_plainTurns_20 rfl ?_
  refine w_retI dX12_plainTurns_21 rfl ?_
  exact hq M4 ((rT12 (g1_h.tr g3_h)).tr g6_h) g7_h g8_h

set_option maxRecDepth 20000 in
theorem r_pu_N_2 {d : Nat} {M : dk_Mem} {Q : Option Value → dk_Mem → Prop} {σ : Nat → Nat} (hr : rr σ M) {h : Nat} (h6_h : h < 6) (hp : ¬ at_by h (σ (38 + 5 * h)) = 0) (hk : σ (35 + 5 * h) = 2) {T : at_T} (hT : rTS T M) {x : Int32} (hq : ∀ M2, dk_fr rT2 M M2 → rTS (at_uT false h (σ (38 + 5 * h)) x T 2) M2 → M2.1 104 30 = nI 0 → Q (some (.int (at_uv h (σ (38 + 5 * h)) x T 2))) M2) : dk_Call (d + 5) mX12_plainTurns [.ref 104, .int (nI h), .int x] M Q := by
  refine dk_enter [some (.ref 104), some (.int (nI h)), some (.int x), none] (by decide) (fun _ => rfl) (fun _ => Nat.le_of_ble_eq_true rfl) ?_
  refine w_al0 (n := 1) dX12_plainTurns_0 rfl ?_
  refine w_bipush (n := 3) (nI 13) dX12_plainTurns_1 (by decide) rfl ?_
  refine w_cV1 (n := 6) pl_104 cl_12 s0_X12_begins k_X12_310 (Nat.le_of_ble_eq_true rfl) dX12_plainTurns_3 rfl (r_begins hT (fun M2 g1_h g2_h => ?_))
  refine w_al0 (n := 7) dX12_plainTurns_6 rfl ?_
  refine w_il1 (n := 8) dX12_plainTurns_7 rfl ?_
  refine w_il2 (n := 9) dX12_plainTurns_8 rfl ?_
  refine w_cV2 (n := 12) pl_104 cl_12 s0_X12_taps k_X12_331 (Nat.le_of_ble_eq_true rfl) dX12_plainTurns_9 rfl (r_taps_2 (hr.T1 g1_h) h6_h hk g2_h (fun M3 g3_h g4_h => ?_))
  have hr3_h := (hr.T1 g1_h).T1 g3_h
  refine w_is3 (n := 13) dX12_plainTurns_12 rfl rfl (by decide) ?_
  refine w_il3 (n := 14) dX12_plainTurns_13 rfl ?_
  refine w_al0 (n := 15) dX12_plainTurns_14 rfl ?_
  refine w_il1 (n := 16) dX12_plainTurns_15 rfl ?_
  refine w_il2 (n := 17) dX12_plainTurns_16 rfl ?_
  refine w_cV2 (n := 20) pl_104 cl_12 s0_X12_halves k_X12_334 (Nat.le_of_ble_eq_true rfl) dX12_plainTurns_17 rfl (r_halves_N_2 hr3_h h6_h hp hk g4_h (fun M4 g6_h g7_h g8_h => ?_))
  refine w_ixor (n := 21) dX12_plainTurns_20 rfl ?_
  refine w_retI dX12_plainTurns_21 rfl ?_
  exact hq M4 ((rT12 (g1_h.tr g3_h)).tr g6_h) g7_h g8_h

set_option maxRecDepth 20000 in
theorem r_pu_N_3 {d : Nat} {M : dk_Mem} {Q : Option Value → dk_Mem → Prop} {σ : Nat → Nat} (hr : rr σ M) {h : Nat} (h6_h : h < 6) (hp : ¬ at_by h (σ (38 + 5 * h)) = 0) (hk : σ (35 + 5 * h) = 3) {T : at_T} (hT : rTS T M) {x : Int32} (hq : ∀ M2, dk_fr rT2 M M2 → rTS (at_uT false h (σ (38 + 5 * h)) x T 3) M2 → M2.1 104 30 = nI 0 → Q (some (.int (at_uv h (σ (38 + 5 * h)) x T 3))) M2) : dk_Call (d + 5) mX12_plainTurns [.ref 104, .int (nI h), .int x] M Q := by
  refine dk_enter [some (.ref 104), some (.int (nI h)), some (.int x), none] (by decide) (fun _ => rfl) (fun _ => Nat.le_of_ble_eq_true rfl) ?_
  refine w_al0 (n := 1) dX12_plainTurns_0 rfl ?_
  refine w_bipush (n := 3) (nI 13) dX12_plainTurns_1 (by decide) rfl ?_
  refine w_cV1 (n := 6) pl_104 cl_12 s0_X12_begins k_X12_310 (Nat.le_of_ble_eq_true rfl) dX12_plainTurns_3 rfl (r_begins hT (fun M2 g1_h g2_h => ?_))
  refine w_al0 (n := 7) dX12_plainTurns_6 rfl ?_
  refine w_il1 (n := 8) dX12_plainTurns_7 rfl ?_
  refine w_il2 (n := 9) dX12_plainTurns_8 rfl ?_
  refine w_cV2 (n := 12) pl_104 cl_12 s0_X12_taps k_X12_331 (Nat.le_of_ble_eq_true rfl) dX12_plainTurns_9 rfl (r_taps_3 (hr.T1 g1_h) h6_h hk g2_h (fun M3 g3_h g4_h => ?_))
  have hr3_h := (hr.T1 g1_h).T1 g3_h
  refine w_is3 (n := 13) dX12_plainTurns_12 rfl rfl (by decide) ?_
  refine w_il3 (n := 14) dX12_plainTurns_13 rfl ?_
  refine w_al0 (n := 15) dX12_plainTurns_14 rfl ?_
  refine w_il1 (n := 16) dX12_plainTurns_15 rfl ?_
  refine w_il2 (n := 17) dX12_plainTurns_16 rfl ?_
  refine w_cV2 (n := 20) pl_104 cl_12 s0_X12_halves k_X12_334 (Nat.le_of_ble_eq_true rfl) dX12_plainTurns_17 rfl (r_halves_N_3 hr3_h h6_h hp hk g4_h (fun M4 g6_h g7_h g8_h => ?_))
  refine w_ixor (n := 21) dX12_plainTurns_20 rfl ?_
  refine w_retI dX12_plainTurns_21 rfl ?_
  exact hq M4 ((rT12 (g1_h.tr g3_h)).tr g6_h) g7_h g8_h

set_option maxRecDepth 20000 in
theorem r_pu_N_4 {d : Nat} {M : dk_Mem} {Q : Option Value → dk_Mem → Prop} {σ : Nat → Nat} (hr : rr σ M) {h : Nat} (h6_h : h < 6) (hp : ¬ at_by h (σ (38 + 5 * h)) = 0) (hk : σ (35 + 5 * h) = 4) {T : at_T} (hT : rTS T M) {x : Int32} (hq : ∀ M2, dk_fr rT2 M M2 → rTS (at_uT false h (σ (38 + 5 * h)) x T 4) M2 → M2.1 104 30 = nI 0 → Q (some (.int (at_uv h (σ (38 + 5 * h)) x T 4))) M2) : dk_Call (d + 5) mX12_plainTurns [.ref 104, .int (nI h), .int x] M Q := by
  refine dk_enter [some (.ref 104), some (.int (nI h)), some (.int x), none] (by decide) (fun _ => rfl) (fun _ => Nat.le_of_ble_eq_true rfl) ?_
  refine w_al0 (n := 1) dX12_plainTurns_0 rfl ?_
  refine w_bipush (n := 3) (nI 13) dX12_plainTurns_1 (by decide) rfl ?_
  refine w_cV1 (n := 6) pl_104 cl_12 s0_X12_begins k_X12_310 (Nat.le_of_ble_eq_true rfl) dX12_plainTurns_3 rfl (r_begins hT (fun M2 g1_h g2_h => ?_))
  refine w_al0 (n := 7) dX12_plainTurns_6 rfl ?_
  refine w_il1 (n := 8) dX12_plainTurns_7 rfl ?_
  refine w_il2 (n := 9) dX12_plainTurns_8 rfl ?_
  refine w_cV2 (n := 12) pl_104 cl_12 s0_X12_taps k_X12_331 (Nat.le_of_ble_eq_true rfl) dX12_plainTurns_9 rfl (r_taps_4 (hr.T1 g1_h) h6_h hk g2_h (fun M3 g3_h g4_h => ?_))
  have hr3_h := (hr.T1 g1_h).T1 g3_h
  refine w_is3 (n := 13) dX12_plainTurns_12 rfl rfl (by decide) ?_
  refine w_il3 (n := 14) dX12_plainTurns_13 rfl ?_
  refine w_al0 (n := 15) dX12_plainTurns_14 rfl ?_
  refine w_il1 (n := 16) dX12_plainTurns_15 rfl ?_
  refine w_il2 (n := 17) dX12_plainTurns_16 rfl ?_
  refine w_cV2 (n := 20) pl_104 cl_12 s0_X12_halves k_X12_334 (Nat.le_of_ble_eq_true rfl) dX12_plainTurns_17 rfl (r_halves_N_4 hr3_h h6_h hp hk g4_h (fun M4 g6_h g7_h g8_h => ?_))
  refine w_ixor (n := 21) dX12_plainTurns_20 rfl ?_
  refine w_retI dX12_plainTurns_21 rfl ?_
  exact hq M4 ((rT12 (g1_h.tr g3_h)).tr g6_h) g7_h g8_h

set_option maxRecDepth 20000 in
theorem r_pu_N_5 {d : Nat} {M : dk_Mem} {Q : Option Value → dk_Mem → Prop} {σ : Nat → Nat} (hr : rr σ M) {h : Nat} (h6_h : h < 6) (hp : ¬ at_by h (σ (38 + 5 * h)) = 0) (hk : σ (35 + 5 * h) = 5) {T : at_T} (hT : rTS T M) {x : Int32} (hq : ∀ M2, dk_fr rT2 M M2 → rTS (at_uT false h (σ (38 + 5 * h)) x T 5) M2 → M2.1 104 30 = nI 0 → Q (some (.int (at_uv h (σ (38 + 5 * h)) x T 5))) M2) : dk_Call (d + 5) mX12_plainTurns [.ref 104, .int (nI h), .int x] M Q := by
  refine dk_enter [some (.ref 104), some (.int (nI h)), some (.int x), none] (by decide) (fun _ => rfl) (fun _ => Nat.le_of_ble_eq_true rfl) ?_
  refine w_al0 (n := 1) dX12_plainTurns_0 rfl ?_
  refine w_bipush (n := 3) (nI 13) dX12_plainTurns_1 (by decide) rfl ?_
  refine w_cV1 (n := 6) pl_104 cl_12 s0_X12_begins k_X12_310 (Nat.le_of_ble_eq_true rfl) dX12_plainTurns_3 rfl (r_begins hT (fun M2 g1_h g2_h => ?_))
  refine w_al0 (n := 7) dX12_plainTurns_6 rfl ?_
  refine w_il1 (n := 8) dX12_plainTurns_7 rfl ?_
  refine w_il2 (n := 9) dX12_plainTurns_8 rfl ?_
  refine w_cV2 (n := 12) pl_104 cl_12 s0_X12_taps k_X12_331 (Nat.le_of_ble_eq_true rfl) dX12_plainTurns_9 rfl (r_taps_5 (hr.T1 g1_h) h6_h hk g2_h (fun M3 g3_h g4_h => ?_))
  have hr3_h := (hr.T1 g1_h).T1 g3_h
  refine w_is3 (n := 13) dX12_plainTurns_12 rfl rfl (by decide) ?_
  refine w_il3 (n := 14) dX12_plainTurns_13 rfl ?_
  refine w_al0 (n := 15) dX12_plainTurns_14 rfl ?_
  refine w_il1 (n := 16) dX12_plainTurns_15 rfl ?_
  refine w_il2 (n := 17) dX12_plainTurns_16 rfl ?_
  refine w_cV2 (n := 20) pl_104 cl_12 s0_X12_halves k_X12_334 (Nat.le_of_ble_eq_true rfl) dX12_plainTurns_17 rfl (r_halves_N_5 hr3_h h6_h hp hk g4_h (fun M4 g6_h g7_h g8_h => ?_))
  refine w_ixor (n := 21) dX12_plainTurns_20 rfl ?_
  refine w_retI dX12_plainTurns_21 rfl ?_
  exact hq M4 ((rT12 (g1_h.tr g3_h)).tr g6_h) g7_h g8_h

set_option maxRecDepth 20000 in
theorem r_turns_N_0 {d : Nat} {M : dk_Mem} {Q : Option Value → dk_Mem → Prop} {σ : Nat → Nat} (hr : rr σ M) {h : Nat} (h6_h : h < 6) (hp : ¬ at_by h (σ (38 + 5 * h)) = 0) (hk : σ (35 + 5 * h) = 0) {T : at_T} (hT : rTS T M) {x : Int32} (hq : ∀ M2, dk_fr rT2 M M2 → rTS (at_rT false h (σ (38 + 5 * h)) x T 0) M2 → M2.1 104 30 = nI 0 → Q (some (.int (at_rv h (σ (38 + 5 * h)) x T 0))) M2) : dk_Call (d + 6) mX12_turns [.ref 104, .int (nI h), .int x] M Q := by
  refine dk_enter [some (.ref 104), some (.int (nI h)), some (.int x), none] (by decide) (fun _ => rfl) (fun _ => Nat.le_of_ble_eq_true rfl) ?_
  refine w_al0 (n := 1) dX12_turns_0 rfl ?_
  refine w_il1 (n := 2) dX12_turns_1 rfl ?_
  refine w_iconst (n := 3) (nI 0) dX12_turns_2 (by decide) rfl ?_
  refine w_cV2 (n := 6) pl_104 cl_12 s0_X12_of k_X12_69 (Nat.le_of_ble_eq_true rfl) dX12_turns_3 rfl (r_of (h := h) (w := 0) (by omega) ((hr.kind h6_h).trans (congrArg nI hk)) ?_)
  · skip
    refine w_iconst (n := 7) (nI 3) dX12_turns_6 (by decide) rfl ?_
    refine w_ic_eq (n := 10) 17 dX12_turns_7 (by decide) rfl (fun h => absurd h (by decide)) (fun _ => ?_)
    refine w_al0 (n := 11) dX12_turns_10 rfl ?_
    refine w_il1 (n := 12) dX12_turns_11 rfl ?_
    refine w_il2 (n := 13) dX12_turns_12 rfl ?_
    refine w_cV2 (n := 16) pl_104 cl_12 s0_X12_plainTurns k_X12_337 (Nat.le_of_ble_eq_true rfl) dX12_turns_13 rfl (r_pu_N_0 hr h6_h hp hk hT (fun M3 g3_h g4_h g5_h => ?_))
    refine w_retI dX12_turns_16 rfl ?_
    exact hq M3 g3_h g4_h g5_h

set_option maxRecDepth 20000 in
theorem r_turns_N_1 {d : Nat} {M : dk_Mem} {Q : Option Value → dk_Mem → Prop} {σ : Nat → Nat} (hr : rr σ M) {h : Nat} (h6_h : h < 6) (hp : ¬ at_by h (σ (38 + 5 * h)) = 0) (hk : σ (35 + 5 * h) = 1) {T : at_T} (hT : rTS T M) {x : Int32} (hq : ∀ M2, dk_fr rT2 M M2 → rTS (at_rT false h (σ (38 + 5 * h)) x T 1) M2 → M2.1 104 30 = nI 0 → Q (some (.int (at_rv h (σ (38 + 5 * h)) x T 1))) M2) : dk_Call (d + 6) mX12_turns [.ref 104, .int (nI h), .int x] M Q := by
  refine dk_enter [some (.ref 104), some (.int (nI h)), some (.int x), none] (by decide) (fun _ => rfl) (fun _ => Nat.le_of_ble_eq_true rfl) ?_
  refine w_al0 (n := 1) dX12_turns_0 rfl ?_
  refine w_il1 (n := 2) dX12_turns_1 rfl ?_
  refine w_iconst (n := 3) (nI 0) dX12_turns_2 (by decide) rfl ?_
  refine w_cV2 (n := 6) pl_104 cl_12 s0_X12_of k_X12_69 (Nat.le_of_ble_eq_true rfl) dX12_turns_3 rfl (r_of (h := h) (w := 0) (by omega) ((hr.kind h6_h).trans (congrArg nI hk)) ?_)
  · skip
    refine w_iconst (n := 7) (nI 3) dX12_turns_6 (by decide) rfl ?_
    refine w_ic_eq (n := 10) 17 dX12_turns_7 (by decide) rfl (fun h => absurd h (by decide)) (fun _ => ?_)
    refine w_al0 (n := 11) dX12_turns_10 rfl ?_
    refine w_il1 (n := 12) dX12_turns_11 rfl ?_
    refine w_il2 (n := 13) dX12_turns_12 rfl ?_
    refine w_cV2 (n := 16) pl_104 cl_12 s0_X12_plainTurns k_X12_337 (Nat.le_of_ble_eq_true rfl) dX12_turns_13 rfl (r_pu_N_1 hr h6_h hp hk hT (fun M3 g3_h g4_h g5_h => ?_))
    refine w_retI dX12_turns_16 rfl ?_
    exact hq M3 g3_h g4_h g5_h

set_option maxRecDepth 20000 in
theorem r_turns_N_2 {d : Nat} {M : dk_Mem} {Q : Option Value → dk_Mem → Prop} {σ : Nat → Nat} (hr : rr σ M) {h : Nat} (h6_h : h < 6) (hp : ¬ at_by h (σ (38 + 5 * h)) = 0) (hk : σ (35 + 5 * h) = 2) {T : at_T} (hT : rTS T M) {x : Int32} (hq : ∀ M2, dk_fr rT2 M M2 → rTS (at_rT false h (σ (38 + 5 * h)) x T 2) M2 → M2.1 104 30 = nI 0 → Q (some (.int (at_rv h (σ (38 + 5 * h)) x T 2))) M2) : dk_Call (d + 6) mX12_turns [.ref 104, .int (nI h), .int x] M Q := by
  refine dk_enter [some (.ref 104), some (.int (nI h)), some (.int x), none] (by decide) (fun _ => rfl) (fun _ => Nat.le_of_ble_eq_true rfl) ?_
  refine w_al0 (n := 1) dX12_turns_0 rfl ?_
  refine w_il1 (n := 2) dX12_turns_1 rfl ?_
  refine w_iconst (n := 3) (nI 0) dX12_turns_2 (by decide) rfl ?_
  refine w_cV2 (n := 6) pl_104 cl_12 s0_X12_of k_X12_69 (Nat.le_of_ble_eq_true rfl) dX12_turns_3 rfl (r_of (h := h) (w := 0) (by omega) ((hr.kind h6_h).trans (congrArg nI hk)) ?_)
  · skip
    refine w_iconst (n := 7) (nI 3) dX12_turns_6 (by decide) rfl ?_
    refine w_ic_eq (n := 10) 17 dX12_turns_7 (by decide) rfl (fun h => absurd h (by decide)) (fun _ => ?_)
    refine w_al0 (n := 11) dX12_turns_10 rfl ?_
    refine w_il1 (n := 12) dX12_turns_11 rfl ?_
    refine w_il2 (n := 13) dX12_turns_12 rfl ?_
    refine w_cV2 (n := 16) pl_104 cl_12 s0_X12_plainTurns k_X12_337 (Nat.le_of_ble_eq_true rfl) dX12_turns_13 rfl (r_pu_N_2 hr h6_h hp hk hT (fun M3 g3_h g4_h g5_h => ?_))
    refine w_retI dX12_turns_16 rfl ?_
    exact hq M3 g3_h g4_h g5_h

set_option maxRecDepth 20000 in
theorem r_turns_N_3 {d : Nat} {M : dk_Mem} {Q : Option Value → dk_Mem → Prop} {σ : Nat → Nat} (hr : rr σ M) {h : Nat} (h6_h : h < 6) (hp : ¬ at_by h (σ (38 + 5 * h)) = 0) (hk : σ (35 + 5 * h) = 3) {T : at_T} (hT : rTS T M) {x : Int32} (hq : ∀ M2, dk_fr rT2 M M2 → rTS (at_rT false h (σ (38 + 5 * h)) x T 3) M2 → M2.1 104 30 = nI 0 → Q (some (.int (at_rv h (σ (38 + 5 * h)) x T 3))) M2) : dk_Call (d + 6) mX12_turns [.ref 104, .int (nI h), .int x] M Q := by
  refine dk_enter [some (.ref 104), some (.int (nI h)), some (.int x), none] (by decide) (fun _ => rfl) (fun _ => Nat.le_of_ble_eq_true rfl) ?_
  refine w_al0 (n := 1) dX12_turns_0 rfl ?_
  refine w_il1 (n := 2) dX12_turns_1 rfl ?_
  refine w_iconst (n := 3) (nI 0) dX12_turns_2 (by decide) rfl ?_
  refine w_cV2 (n := 6) pl_104 cl_12 s0_X12_of k_X12_69 (Nat.le_of_ble_eq_true rfl) dX12_turns_3 rfl (r_of (h := h) (w := 0) (by omega) ((hr.kind h6_h).trans (congrArg nI hk)) ?_)
  · skip
    refine w_iconst (n := 7) (nI 3) dX12_turns_6 (by decide) rfl ?_
    refine w_ic_eq (n := 10) 17 dX12_turns_7 (by decide) rfl (fun _ => ?_) (fun h => absurd (by decide) h)
    refine w_al0 (n := 18) dX12_turns_17 rfl ?_
    refine w_bipush (n := 20) (nI 51) dX12_turns_18 (by decide) rfl ?_
    refine w_cV1 (n := 23) pl_104 cl_12 s0_X12_begins k_X12_310 (Nat.le_of_ble_eq_true rfl) dX12_turns_20 rfl (r_begins hT (fun M2 g1_h g2_h => ?_))
    refine w_al0 (n := 24) dX12_turns_23 rfl ?_
    refine w_il1 (n := 25) dX12_turns_24 rfl ?_
    refine w_il2 (n := 26) dX12_turns_25 rfl ?_
    refine w_cV2 (n := 29) pl_104 cl_12 s0_X12_plainTurns k_X12_337 (Nat.le_of_ble_eq_true rfl) dX12_turns_26 rfl (r_pu_N_3 (hr.T1 g1_h) h6_h hp hk g2_h (fun M3 g3_h g4_h g5_h => ?_))
    have hr3_h := (hr.T1 g1_h).T2 g3_h
    refine w_is3 (n := 30) dX12_turns_29 rfl rfl (by decide) ?_
    refine w_al0 (n := 31) dX12_turns_30 rfl ?_
    refine g_Z (n := 34) f_X12_322_12 pl_104 dX12_turns_31 rfl ?_
    rw [g5_h]
    refine w_if_eq (n := 37) 41 dX12_turns_34 (by decide) rfl (fun z34_h => ?_) (fun z34_h => ?_)
    · skip
      refine w_il3 (n := 42) dX12_turns_41 rfl ?_
      refine w_al0 (n := 43) dX12_turns_42 rfl ?_
      refine w_il1 (n := 44) dX12_turns_43 rfl ?_
      refine w_al0 (n := 45) dX12_turns_44 rfl ?_
      refine w_il1 (n := 46) dX12_turns_45 rfl ?_
      refine w_iconst (n := 47) (nI 3) dX12_turns_46 (by decide) rfl ?_
      refine w_cV2 (n := 50) pl_104 cl_12 s0_X12_of k_X12_69 (Nat.le_of_ble_eq_true rfl) dX12_turns_47 rfl (r_of (h := h) (w := 3) (by omega) (hr3_h.room h6_h) ?_)
      refine w_cV2 (n := 53) pl_104 cl_12 s0_X12_taps k_X12_331 (Nat.le_of_ble_eq_true rfl) dX12_turns_50 rfl (r_taps_3 hr3_h h6_h hk g4_h (fun M4 g6_h g7_h => ?_))
      refine w_isub (n := 54) dX12_turns_53 rfl ?_
      refine w_retI dX12_turns_54 rfl ?_
      exact hq M4 (((rT12 g1_h).tr g3_h).tr (rT12 g6_h)) g7_h ((g6_h.2 104 30 (by unfold rT1; omega)).trans g5_h)
    · skip
      exact absurd rfl z34_h

set_option maxRecDepth 20000 in
theorem r_turns_N_4 {d : Nat} {M : dk_Mem} {Q : Option Value → dk_Mem → Prop} {σ : Nat → Nat} (hr : rr σ M) {h : Nat} (h6_h : h < 6) (hp : ¬ at_by h (σ (38 + 5 * h)) = 0) (hk : σ (35 + 5 * h) = 4) {T : at_T} (hT : rTS T M) {x : Int32} (hq : ∀ M2, dk_fr rT2 M M2 → rTS (at_rT false h (σ (38 + 5 * h)) x T 4) M2 → M2.1 104 30 = nI 0 → Q (some (.int (at_rv h (σ (38 + 5 * h)) x T 4))) M2) : dk_Call (d + 6) mX12_turns [.ref 104, .int (nI h), .int x] M Q := by
  refine dk_enter [some (.ref 104), some (.int (nI h)), some (.int x), none] (by decide) (fun _ => rfl) (fun _ => Nat.le_of_ble_eq_true rfl) ?_
  refine w_al0 (n := 1) dX12_turns_0 rfl ?_
  refine w_il1 (n := 2) dX12_turns_1 rfl ?_
  refine w_iconst (n := 3) (nI 0) dX12_turns_2 (by decide) rfl ?_
  refine w_cV2 (n := 6) pl_104 cl_12 s0_X12_of k_X12_69 (Nat.le_of_ble_eq_true rfl) dX12_turns_3 rfl (r_of (h := h) (w := 0) (by omega) ((hr.kind h6_h).trans (congrArg nI hk)) ?_)
  · skip
    refine w_iconst (n := 7) (nI 3) dX12_turns_6 (by decide) rfl ?_
    refine w_ic_eq (n := 10) 17 dX12_turns_7 (by decide) rfl (fun h => absurd h (by decide)) (fun _ => ?_)
    refine w_al0 (n := 11) dX12_turns_10 rfl ?_
    refine w_il1 (n := 12) dX12_turns_11 rfl ?_
    refine w_il2 (n := 13) dX12_turns_12 rfl ?_
    refine w_cV2 (n := 16) pl_104 cl_12 s0_X12_plainTurns k_X12_337 (Nat.le_of_ble_eq_true rfl) dX12_turns_13 rfl (r_pu_N_4 hr h6_h hp hk hT (fun M3 g3_h g4_h g5_h => ?_))
    refine w_retI dX12_turns_16 rfl ?_
    exact hq M3 g3_h g4_h g5_h

set_option maxRecDepth 20000 in
theorem r_turns_N_5 {d : Nat} {M : dk_Mem} {Q : Option Value → dk_Mem → Prop} {σ : Nat → Nat} (hr : rr σ M) {h : Nat} (h6_h : h < 6) (hp : ¬ at_by h (σ (38 + 5 * h)) = 0) (hk : σ (35 + 5 * h) = 5) {T : at_T} (hT : rTS T M) {x : Int32} (hq : ∀ M2, dk_fr rT2 M M2 → rTS (at_rT false h (σ (38 + 5 * h)) x T 5) M2 → M2.1 104 30 = nI 0 → Q (some (.int (at_rv h (σ (38 + 5 * h)) x T 5))) M2) : dk_Call (d + 6) mX12_turns [.ref 104, .int (nI h), .int x] M Q := by
  refine dk_enter [some (.ref 104), some (.int (nI h)), some (.int x), none] (by decide) (fun _ => rfl) (fun _ => Nat.le_of_ble_eq_true rfl) ?_
  refine w_al0 (n := 1) dX12_turns_0 rfl ?_
  refine w_il1 (n := 2) dX12_turns_1 rfl ?_
  refine w_iconst (n := 3) (nI 0) dX12_turns_2 (by decide) rfl ?_
  refine w_cV2 (n := 6) pl_104 cl_12 s0_X12_of k_X12_69 (Nat.le_of_ble_eq_true rfl) dX12_turns_3 rfl (r_of (h := h) (w := 0) (by omega) ((hr.kind h6_h).trans (congrArg nI hk)) ?_)
  · skip
    refine w_iconst (n := 7) (nI 3) dX12_turns_6 (by decide) rfl ?_
    refine w_ic_eq (n := 10) 17 dX12_turns_7 (by decide) rfl (fun h => absurd h (by decide)) (fun _ => ?_)
    refine w_al0 (n := 11) dX12_turns_10 rfl ?_
    refine w_il1 (n := 12) dX12_turns_11 rfl ?_
    refine w_il2 (n := 13) dX12_turns_12 rfl ?_
    refine w_cV2 (n := 16) pl_104 cl_12 s0_X12_plainTurns k_X12_337 (Nat.le_of_ble_eq_true rfl) dX12_turns_13 rfl (r_pu_N_5 hr h6_h hp hk hT (fun M3 g3_h g4_h g5_h => ?_))
    refine w_retI dX12_turns_16 rfl ?_
    exact hq M3 g3_h g4_h g5_h

theorem r_halves_N {d : Nat} {M : dk_Mem} {Q : Option Value → dk_Mem → Prop} {σ : Nat → Nat} (hr : rr σ M) {h : Nat} (h6_h : h < 6) (hp : ¬ at_by h (σ (38 + 5 * h)) = 0) (k5_h : σ (35 + 5 * h) ≤ 5) {T : at_T} (hT : rTS T M) {x : Int32} (hq : ∀ M2, dk_fr rT2 M M2 → rTS (at_hT false T (σ (35 + 5 * h))) M2 → M2.1 104 30 = nI 0 → Q (some (.int (at_hv h (σ (38 + 5 * h)) x (σ (35 + 5 * h))))) M2) : dk_Call (d + 3) mX12_halves [.ref 104, .int (nI h), .int x] M Q := by
  rcases (show σ (35 + 5 * h) = 0 ∨ σ (35 + 5 * h) = 1 ∨ σ (35 + 5 * h) = 2 ∨ σ (35 + 5 * h) = 3 ∨ σ (35 + 5 * h) = 4 ∨ σ (35 + 5 * h) = 5 by omega) with hk | hk | hk | hk | hk | hk
  · rw [hk] at hq
    exact r_halves_N_0 hr h6_h hp hk hT hq
  · rw [hk] at hq
    exact r_halves_N_1 hr h6_h hp hk hT hq
  · rw [hk] at hq
    exact r_halves_N_2 hr h6_h hp hk hT hq
  · rw [hk] at hq
    exact r_halves_N_3 hr h6_h hp hk hT hq
  · rw [hk] at hq
    exact r_halves_N_4 hr h6_h hp hk hT hq
  · rw [hk] at hq
    exact r_halves_N_5 hr h6_h hp hk hT hq

theorem r_turns_N {d : Nat} {M : dk_Mem} {Q : Option Value → dk_Mem → Prop} {σ : Nat → Nat} (hr : rr σ M) {h : Nat} (h6_h : h < 6) (hp : ¬ at_by h (σ (38 + 5 * h)) = 0) (k5_h : σ (35 + 5 * h) ≤ 5) {T : at_T} (hT : rTS T M) {x : Int32} (hq : ∀ M2, dk_fr rT2 M M2 → rTS (at_rT false h (σ (38 + 5 * h)) x T (σ (35 + 5 * h))) M2 → M2.1 104 30 = nI 0 → Q (some (.int (at_rv h (σ (38 + 5 * h)) x T (σ (35 + 5 * h))))) M2) : dk_Call (d + 6) mX12_turns [.ref 104, .int (nI h), .int x] M Q := by
  rcases (show σ (35 + 5 * h) = 0 ∨ σ (35 + 5 * h) = 1 ∨ σ (35 + 5 * h) = 2 ∨ σ (35 + 5 * h) = 3 ∨ σ (35 + 5 * h) = 4 ∨ σ (35 + 5 * h) = 5 by omega) with hk | hk | hk | hk | hk | hk
  · rw [hk] at hq
    exact r_turns_N_0 hr h6_h hp hk hT hq
  · rw [hk] at hq
    exact r_turns_N_1 hr h6_h hp hk hT hq
  · rw [hk] at hq
    exact r_turns_N_2 hr h6_h hp hk hT hq
  · rw [hk] at hq
    exact r_turns_N_3 hr h6_h hp hk hT hq
  · rw [hk] at hq
    exact r_turns_N_4 hr h6_h hp hk hT hq
  · rw [hk] at hq
    exact r_turns_N_5 hr h6_h hp hk hT hq

set_option maxRecDepth 20000 in
theorem r_ph_P {d : Nat} {M : dk_Mem} {Q : Option Value → dk_Mem → Prop} {σ : Nat → Nat} (hr : rr σ M) {h : Nat} (h6_h : h < 6) (hp : at_by h (σ (38 + 5 * h)) = 0) {T : at_T} (hT : rTS T M) {x : Int32} (hq : ∀ M2, dk_fr rT2 M M2 → rTS (at_b T 12) M2 → M2.1 104 30 = nI 1 → ∀ v, Q (some (.int v)) M2) : dk_Call (d + 1) mX12_plainHalves [.ref 104, .int (nI h), .int x] M Q := by
  refine dk_enter [some (.ref 104), some (.int (nI h)), some (.int x), none] (by decide) (fun _ => rfl) (fun _ => Nat.le_of_ble_eq_true rfl) ?_
  refine w_al0 (n := 1) dX12_plainHalves_0 rfl ?_
  refine w_bipush (n := 3) (nI 12) dX12_plainHalves_1 (by decide) rfl ?_
  refine w_cV1 (n := 6) pl_104 cl_12 s0_X12_begins k_X12_310 (Nat.le_of_ble_eq_true rfl) dX12_plainHalves_3 rfl (r_begins hT (fun M2 g1_h g2_h => ?_))
  have hr2_h := hr.T1 g1_h
  refine w_al0 (n := 7) dX12_plainHalves_6 rfl ?_
  refine w_il1 (n := 8) dX12_plainHalves_7 rfl ?_
  refine w_iconst (n := 9) (nI 3) dX12_plainHalves_8 (by decide) rfl ?_
  refine w_cV2 (n := 12) pl_104 cl_12 s0_X12_of k_X12_69 (Nat.le_of_ble_eq_true rfl) dX12_plainHalves_9 rfl (r_of (h := h) (w := 3) (by omega) (hr2_h.room h6_h) ?_)
  refine w_il1 (n := 13) dX12_plainHalves_12 rfl ?_
  refine w_isub (n := 14) dX12_plainHalves_13 rfl ?_
  refine w_iconst (n := 15) (nI 4) dX12_plainHalves_14 (by decide) rfl ?_
  refine w_iadd (n := 16) dX12_plainHalves_15 rfl ?_
  rw [show nI (σ (38 + 5 * h)) - nI h + nI 4 = at_by h (σ (38 + 5 * h)) from rfl]
  refine w_is3 (n := 17) dX12_plainHalves_16 rfl rfl (by decide) ?_
  refine w_al0 (n := 18) dX12_plainHalves_17 rfl ?_
  refine w_il3 (n := 19) dX12_plainHalves_18 rfl ?_
  refine w_if_ne (n := 22) 26 dX12_plainHalves_19 (by decide) rfl (fun z19_h => ?_) (fun z19_h => ?_)
  · skip
    exact absurd hp z19_h
  · skip
    refine w_iconst (n := 23) (nI 1) dX12_plainHalves_22 (by decide) rfl ?_
    refine w_goto 27 dX12_plainHalves_23 (by decide) ?_
    refine p_Z (n := 30) (by decide) f_X12_322_12 pl_104 dX12_plainHalves_27 rfl ?_
    refine w_al0 (n := 31) dX12_plainHalves_30 rfl ?_
    refine g_Z (n := 34) f_X12_322_12 pl_104 dX12_plainHalves_31 rfl ?_
    rw [dk_put_s]
    refine w_if_eq (n := 37) 41 dX12_plainHalves_34 (by decide) rfl (fun z34_h => ?_) (fun z34_h => ?_)
    · skip
      exact absurd z34_h (by decide)
    · skip
      refine w_iconst (n := 38) (nI 0) dX12_plainHalves_37 (by decide) rfl ?_
      refine w_goto 44 dX12_plainHalves_38 (by decide) ?_
      refine w_retI dX12_plainHalves_44 rfl ?_
      exact hq _ ((rT12 g1_h).put (Or.inl ⟨rfl, Or.inr rfl⟩)) g2_h.p dk_put_s _

set_option maxRecDepth 20000 in
theorem r_gh_P {d : Nat} {M : dk_Mem} {Q : Option Value → dk_Mem → Prop} {σ : Nat → Nat} (hr : rr σ M) {h : Nat} (h6_h : h < 6) (hp : at_by h (σ (38 + 5 * h)) = 0) {T : at_T} (hT : rTS T M) {x : Int32} (hq : ∀ M2, dk_fr rT2 M M2 → rTS (at_b (at_b T 40) 12) M2 → M2.1 104 30 = nI 1 → ∀ v, Q (some (.int v)) M2) : dk_Call (d + 2) mX12_girlHalves [.ref 104, .int (nI h), .int x] M Q := by
  refine dk_enter [some (.ref 104), some (.int (nI h)), some (.int x)] (by decide) (fun _ => rfl) (fun _ => Nat.le_of_ble_eq_true rfl) ?_
  refine w_al0 (n := 1) dX12_girlHalves_0 rfl ?_
  refine w_bipush (n := 3) (nI 40) dX12_girlHalves_1 (by decide) rfl ?_
  refine w_cV1 (n := 6) pl_104 cl_12 s0_X12_begins k_X12_310 (Nat.le_of_ble_eq_true rfl) dX12_girlHalves_3 rfl (r_begins hT (fun M2 g1_h g2_h => ?_))
  refine w_al0 (n := 7) dX12_girlHalves_6 rfl ?_
  refine w_il1 (n := 8) dX12_girlHalves_7 rfl ?_
  refine w_il2 (n := 9) dX12_girlHalves_8 rfl ?_
  refine w_cV2 (n := 12) pl_104 cl_12 s0_X12_plainHalves k_X12_325 (Nat.le_of_ble_eq_true rfl) dX12_girlHalves_9 rfl (r_ph_P (hr.T1 g1_h) h6_h hp g2_h (fun M3 g3_h g4_h g5_h v => ?_))
  refine w_iconst (n := 13) (nI 5) dX12_girlHalves_12 (by decide) rfl ?_
  refine w_iadd (n := 14) dX12_girlHalves_13 rfl ?_
  refine w_retI dX12_girlHalves_14 rfl ?_
  exact hq M3 ((rT12 g1_h).tr g3_h) g4_h g5_h _

set_option maxRecDepth 20000 in
theorem r_halves_P_0 {d : Nat} {M : dk_Mem} {Q : Option Value → dk_Mem → Prop} {σ : Nat → Nat} (hr : rr σ M) {h : Nat} (h6_h : h < 6) (hp : at_by h (σ (38 + 5 * h)) = 0) (hk : σ (35 + 5 * h) = 0) {T : at_T} (hT : rTS T M) {x : Int32} (hq : ∀ M2, dk_fr rT2 M M2 → rTS (at_hT true T 0) M2 → M2.1 104 30 = nI 1 → ∀ v, Q (some (.int v)) M2) : dk_Call (d + 3) mX12_halves [.ref 104, .int (nI h), .int x] M Q := by
  refine dk_enter [some (.ref 104), some (.int (nI h)), some (.int x), none] (by decide) (fun _ => rfl) (fun _ => Nat.le_of_ble_eq_true rfl) ?_
  refine w_al0 (n := 1) dX12_halves_0 rfl ?_
  refine w_il1 (n := 2) dX12_halves_1 rfl ?_
  refine w_iconst (n := 3) (nI 0) dX12_halves_2 (by decide) rfl ?_
  refine w_cV2 (n := 6) pl_104 cl_12 s0_X12_of k_X12_69 (Nat.le_of_ble_eq_true rfl) dX12_halves_3 rfl (r_of (h := h) (w := 0) (by omega) ((hr.kind h6_h).trans (congrArg nI hk)) ?_)
  · skip
    refine w_look (off := 66) 72 dX12_halves_6 rfl rfl (by decide) ?_
    refine w_al0 (n := 73) dX12_halves_72 rfl ?_
    refine w_il1 (n := 74) dX12_halves_73 rfl ?_
    refine w_il2 (n := 75) dX12_halves_74 rfl ?_
    refine w_cV2 (n := 78) pl_104 cl_12 s0_X12_plainHalves k_X12_325 (Nat.le_of_ble_eq_true rfl) dX12_halves_75 rfl (r_ph_P hr h6_h hp hT (fun M3 g3_h g4_h g5_h v => ?_))
    refine w_retI dX12_halves_78 rfl ?_
    exact hq M3 g3_h g4_h g5_h _

set_option maxRecDepth 20000 in
theorem r_halves_P_1 {d : Nat} {M : dk_Mem} {Q : Option Value → dk_Mem → Prop} {σ : Nat → Nat} (hr : rr σ M) {h : Nat} (h6_h : h < 6) (hp : at_by h (σ (38 + 5 * h)) = 0) (hk : σ (35 + 5 * h) = 1) {T : at_T} (hT : rTS T M) {x : Int32} (hq : ∀ M2, dk_fr rT2 M M2 → rTS (at_hT true T 1) M2 → M2.1 104 30 = nI 1 → ∀ v, Q (some (.int v)) M2) : dk_Call (d + 3) mX12_halves [.ref 104, .int (nI h), .int x] M Q := by
  refine dk_enter [some (.ref 104), some (.int (nI h)), some (.int x), none] (by decide) (fun _ => rfl) (fun _ => Nat.le_of_ble_eq_true rfl) ?_
  refine w_al0 (n := 1) dX12_halves_0 rfl ?_
  refine w_il1 (n := 2) dX12_halves_1 rfl ?_
  refine w_iconst (n := 3) (nI 0) dX12_halves_2 (by decide) rfl ?_
  refine w_cV2 (n := 6) pl_104 cl_12 s0_X12_of k_X12_69 (Nat.le_of_ble_eq_true rfl) dX12_halves_3 rfl (r_of (h := h) (w := 0) (by omega) ((hr.kind h6_h).trans (congrArg nI hk)) ?_)
  · skip
    refine w_look (off := 66) 72 dX12_halves_6 rfl rfl (by decide) ?_
    refine w_al0 (n := 73) dX12_halves_72 rfl ?_
    refine w_il1 (n := 74) dX12_halves_73 rfl ?_
    refine w_il2 (n := 75) dX12_halves_74 rfl ?_
    refine w_cV2 (n := 78) pl_104 cl_12 s0_X12_plainHalves k_X12_325 (Nat.le_of_ble_eq_true rfl) dX12_halves_75 rfl (r_ph_P hr h6_h hp hT (fun M3 g3_h g4_h g5_h v => ?_))
    refine w_retI dX12_halves_78 rfl ?_
    exact hq M3 g3_h g4_h g5_h _

set_option maxRecDepth 20000 in
theorem r_halves_P_2 {d : Nat} {M : dk_Mem} {Q : Option Value → dk_Mem → Prop} {σ : Nat → Nat} (hr : rr σ M) {h : Nat} (h6_h : h < 6) (hp : at_by h (σ (38 + 5 * h)) = 0) (hk : σ (35 + 5 * h) = 2) {T : at_T} (hT : rTS T M) {x : Int32} (hq : ∀ M2, dk_fr rT2 M M2 → rTS (at_hT true T 2) M2 → M2.1 104 30 = nI 1 → ∀ v, Q (some (.int v)) M2) : dk_Call (d + 3) mX12_halves [.ref 104, .int (nI h), .int x] M Q := by
  refine dk_enter [some (.ref 104), some (.int (nI h)), some (.int x), none] (by decide) (fun _ => rfl) (fun _ => Nat.le_of_ble_eq_true rfl) ?_
  refine w_al0 (n := 1) dX12_halves_0 rfl ?_
  refine w_il1 (n := 2) dX12_halves_1 rfl ?_
  refine w_iconst (n := 3) (nI 0) dX12_halves_2 (by decide) rfl ?_
  refine w_cV2 (n := 6) pl_104 cl_12 s0_X12_of k_X12_69 (Nat.le_of_ble_eq_true rfl) dX12_halves_3 rfl (r_of (h := h) (w := 0) (by omega) ((hr.kind h6_h).trans (congrArg nI hk)) ?_)
  · skip
    refine w_look (off := 66) 72 dX12_halves_6 rfl rfl (by decide) ?_
    refine w_al0 (n := 73) dX12_halves_72 rfl ?_
    refine w_il1 (n := 74) dX12_halves_73 rfl ?_
    refine w_il2 (n := 75) dX12_halves_74 rfl ?_
    refine w_cV2 (n := 78) pl_104 cl_12 s0_X12_plainHalves k_X12_325 (Nat.le_of_ble_eq_true rfl) dX12_halves_75 rfl (r_ph_P hr h6_h hp hT (fun M3 g3_h g4_h g5_h v => ?_))
    refine w_retI dX12_halves_78 rfl ?_
    exact hq M3 g3_h g4_h g5_h _

set_option maxRecDepth 20000 in
theorem r_halves_P_3 {d : Nat} {M : dk_Mem} {Q : Option Value → dk_Mem → Prop} {σ : Nat → Nat} (hr : rr σ M) {h : Nat} (h6_h : h < 6) (hp : at_by h (σ (38 + 5 * h)) = 0) (hk : σ (35 + 5 * h) = 3) {T : at_T} (hT : rTS T M) {x : Int32} (hq : ∀ M2, dk_fr rT2 M M2 → rTS (at_hT true T 3) M2 → M2.1 104 30 = nI 1 → ∀ v, Q (some (.int v)) M2) : dk_Call (d + 3) mX12_halves [.ref 104, .int (nI h), .int x] M Q := by
  refine dk_enter [some (.ref 104), some (.int (nI h)), some (.int x), none] (by decide) (fun _ => rfl) (fun _ => Nat.le_of_ble_eq_true rfl) ?_
  refine w_al0 (n := 1) dX12_halves_0 rfl ?_
  refine w_il1 (n := 2) dX12_halves_1 rfl ?_
  refine w_iconst (n := 3) (nI 0) dX12_halves_2 (by decide) rfl ?_
  refine w_cV2 (n := 6) pl_104 cl_12 s0_X12_of k_X12_69 (Nat.le_of_ble_eq_true rfl) dX12_halves_3 rfl (r_of (h := h) (w := 0) (by omega) ((hr.kind h6_h).trans (congrArg nI hk)) ?_)
  · skip
    refine w_look (off := 66) 72 dX12_halves_6 rfl rfl (by decide) ?_
    refine w_al0 (n := 73) dX12_halves_72 rfl ?_
    refine w_il1 (n := 74) dX12_halves_73 rfl ?_
    refine w_il2 (n := 75) dX12_halves_74 rfl ?_
    refine w_cV2 (n := 78) pl_104 cl_12 s0_X12_plainHalves k_X12_325 (Nat.le_of_ble_eq_true rfl) dX12_halves_75 rfl (r_ph_P hr h6_h hp hT (fun M3 g3_h g4_h g5_h v => ?_))
    refine w_retI dX12_halves_78 rfl ?_
    exact hq M3 g3_h g4_h g5_h _

set_option maxRecDepth 20000 in
theorem r_halves_P_4 {d : Nat} {M : dk_Mem} {Q : Option Value → dk_Mem → Prop} {σ : Nat → Nat} (hr : rr σ M) {h : Nat} (h6_h : h < 6) (hp : at_by h (σ (38 + 5 * h)) = 0) (hk : σ (35 + 5 * h) = 4) {T : at_T} (hT : rTS T M) {x : Int32} (hq : ∀ M2, dk_fr rT2 M M2 → rTS (at_hT true T 4) M2 → M2.1 104 30 = nI 1 → ∀ v, Q (some (.int v)) M2) : dk_Call (d + 3) mX12_halves [.ref 104, .int (nI h), .int x] M Q := by
  refine dk_enter [some (.ref 104), some (.int (nI h)), some (.int x), none] (by decide) (fun _ => rfl) (fun _ => Nat.le_of_ble_eq_true rfl) ?_
  refine w_al0 (n := 1) dX12_halves_0 rfl ?_
  refine w_il1 (n := 2) dX12_halves_1 rfl ?_
  refine w_iconst (n := 3) (nI 0) dX12_halves_2 (by decide) rfl ?_
  refine w_cV2 (n := 6) pl_104 cl_12 s0_X12_of k_X12_69 (Nat.le_of_ble_eq_true rfl) dX12_halves_3 rfl (r_of (h := h) (w := 0) (by omega) ((hr.kind h6_h).trans (congrArg nI hk)) ?_)
  · skip
    refine w_look (off := 26) 32 dX12_halves_6 rfl rfl (by decide) ?_
    refine w_al0 (n := 33) dX12_halves_32 rfl ?_
    refine w_il1 (n := 34) dX12_halves_33 rfl ?_
    refine w_il2 (n := 35) dX12_halves_34 rfl ?_
    refine w_cV2 (n := 38) pl_104 cl_12 s0_X12_girlHalves k_X12_328 (Nat.le_of_ble_eq_true rfl) dX12_halves_35 rfl (r_gh_P hr h6_h hp hT (fun M3 g3_h g4_h g5_h v => ?_))
    refine w_retI dX12_halves_38 rfl ?_
    exact hq M3 g3_h g4_h g5_h _

set_option maxRecDepth 20000 in
theorem r_halves_P_5 {d : Nat} {M : dk_Mem} {Q : Option Value → dk_Mem → Prop} {σ : Nat → Nat} (hr : rr σ M) {h : Nat} (h6_h : h < 6) (hp : at_by h (σ (38 + 5 * h)) = 0) (hk : σ (35 + 5 * h) = 5) {T : at_T} (hT : rTS T M) {x : Int32} (hq : ∀ M2, dk_fr rT2 M M2 → rTS (at_hT true T 5) M2 → M2.1 104 30 = nI 1 → ∀ v, Q (some (.int v)) M2) : dk_Call (d + 3) mX12_halves [.ref 104, .int (nI h), .int x] M Q := by
  refine dk_enter [some (.ref 104), some (.int (nI h)), some (.int x), none] (by decide) (fun _ => rfl) (fun _ => Nat.le_of_ble_eq_true rfl) ?_
  refine w_al0 (n := 1) dX12_halves_0 rfl ?_
  refine w_il1 (n := 2) dX12_halves_1 rfl ?_
  refine w_iconst (n := 3) (nI 0) dX12_halves_2 (by decide) rfl ?_
  refine w_cV2 (n := 6) pl_104 cl_12 s0_X12_of k_X12_69 (Nat.le_of_ble_eq_true rfl) dX12_halves_3 rfl (r_of (h := h) (w := 0) (by omega) ((hr.kind h6_h).trans (congrArg nI hk)) ?_)
  · skip
    refine w_look (off := 33) 39 dX12_halves_6 rfl rfl (by decide) ?_
    refine w_al0 (n := 40) dX12_halves_39 rfl ?_
    refine w_bipush (n := 42) (nI 61) dX12_halves_40 (by decide) rfl ?_
    refine w_cV1 (n := 45) pl_104 cl_12 s0_X12_begins k_X12_310 (Nat.le_of_ble_eq_true rfl) dX12_halves_42 rfl (r_begins hT (fun M2 g1_h g2_h => ?_))
    refine w_al0 (n := 46) dX12_halves_45 rfl ?_
    refine w_il1 (n := 47) dX12_halves_46 rfl ?_
    refine w_il2 (n := 48) dX12_halves_47 rfl ?_
    refine w_cV2 (n := 51) pl_104 cl_12 s0_X12_girlHalves k_X12_328 (Nat.le_of_ble_eq_true rfl) dX12_halves_48 rfl (r_gh_P (hr.T1 g1_h) h6_h hp g2_h (fun M3 g3_h g4_h g5_h v => ?_))
    have hr3_h := (hr.T1 g1_h).T2 g3_h
    refine w_is3 (n := 52) dX12_halves_51 rfl rfl (by decide) ?_
    refine w_al0 (n := 53) dX12_halves_52 rfl ?_
    refine g_Z (n := 56) f_X12_322_12 pl_104 dX12_halves_53 rfl ?_
    rw [g5_h]
    refine w_if_eq (n := 59) 63 dX12_halves_56 (by decide) rfl (fun z56_h => ?_) (fun z56_h => ?_)
    · skip
      exact absurd z56_h (by decide)
    · skip
      refine w_iconst (n := 60) (nI 0) dX12_halves_59 (by decide) rfl ?_
      refine w_goto 71 dX12_halves_60 (by decide) ?_
      refine w_retI dX12_halves_71 rfl ?_
      exact hq M3 ((rT12 g1_h).tr g3_h) g4_h g5_h _

set_option maxRecDepth 20000 in
theorem r_pu_P_0 {d : Nat} {M : dk_Mem} {Q : Option Value → dk_Mem → Prop} {σ : Nat → Nat} (hr : rr σ M) {h : Nat} (h6_h : h < 6) (hp : at_by h (σ (38 + 5 * h)) = 0) (hk : σ (35 + 5 * h) = 0) {T : at_T} (hT : rTS T M) {x : Int32} (hq : ∀ M2, dk_fr rT2 M M2 → rTS (at_uT true h (σ (38 + 5 * h)) x T 0) M2 → M2.1 104 30 = nI 1 → ∀ v, Q (some (.int v)) M2) : dk_Call (d + 5) mX12_plainTurns [.ref 104, .int (nI h), .int x] M Q := by
  refine dk_enter [some (.ref 104), some (.int (nI h)), some (.int x), none] (by decide) (fun _ => rfl) (fun _ => Nat.le_of_ble_eq_true rfl) ?_
  refine w_al0 (n := 1) dX12_plainTurns_0 rfl ?_
  refine w_bipush (n := 3) (nI 13) dX12_plainTurns_1 (by decide) rfl ?_
  refine w_cV1 (n := 6) pl_104 cl_12 s0_X12_begins k_X12_310 (Nat.le_of_ble_eq_true rfl) dX12_plainTurns_3 rfl (r_begins hT (fun M2 g1_h g2_h => ?_))
  refine w_al0 (n := 7) dX12_plainTurns_6 rfl ?_
  refine w_il1 (n := 8) dX12_plainTurns_7 rfl ?_
  refine w_il2 (n := 9) dX12_plainTurns_8 rfl ?_
  refine w_cV2 (n := 12) pl_104 cl_12 s0_X12_taps k_X12_331 (Nat.le_of_ble_eq_true rfl) dX12_plainTurns_9 rfl (r_taps_0 (hr.T1 g1_h) h6_h hk g2_h (fun M3 g3_h g4_h => ?_))
  have hr3_h := (hr.T1 g1_h).T1 g3_h
  refine w_is3 (n := 13) dX12_plainTurns_12 rfl rfl (by decide) ?_
  refine w_il3 (n := 14) dX12_plainTurns_13 rfl ?_
  refine w_al0 (n := 15) dX12_plainTurns_14 rfl ?_
  refine w_il1 (n := 16) dX12_plainTurns_15 rfl ?_
  refine w_il2 (n := 17) dX12_plainTurns_16 rfl ?_
  refine w_cV2 (n := 20) pl_104 cl_12 s0_X12_halves k_X12_334 (Nat.le_of_ble_eq_true rfl) dX12_plainTurns_17 rfl (r_halves_P_0 hr3_h h6_h hp hk g4_h (fun M4 g6_h g7_h g8_h v => ?_))
  refine w_ixor (n := 21) dX12_plainTurns_20 rfl ?_
  refine w_retI dX12_plainTurns_21 rfl ?_
  exact hq M4 ((rT12 (g1_h.tr g3_h)).tr g6_h) g7_h g8_h _

set_option maxRecDepth 20000 in
theorem r_pu_P_1 {d : Nat} {M : dk_Mem} {Q : Option Value → dk_Mem → Prop} {σ : Nat → Nat} (hr : rr σ M) {h : Nat} (h6_h : h < 6) (hp : at_by h (σ (38 + 5 * h)) = 0) (hk : σ (35 + 5 * h) = 1) {T : at_T} (hT : rTS T M) {x : Int32} (hq : ∀ M2, dk_fr rT2 M M2 → rTS (at_uT true h (σ (38 + 5 * h)) x T 1) M2 → M2.1 104 30 = nI 1 → ∀ v, Q (some (.int v)) M2) : dk_Call (d + 5) mX12_plainTurns [.ref 104, .int (nI h), .int x] M Q := by
  refine dk_enter [some (.ref 104), some (.int (nI h)), some (.int x), none] (by decide) (fun _ => rfl) (fun _ => Nat.le_of_ble_eq_true rfl) ?_
  refine w_al0 (n := 1) dX12_plainTurns_0 rfl ?_
  refine w_bipush (n := 3) (nI 13) dX12_plainTurns_1 (by decide) rfl ?_
  refine w_cV1 (n := 6) pl_104 cl_12 s0_X12_begins k_X12_310 (Nat.le_of_ble_eq_true rfl) dX12_plainTurns_3 rfl (r_begins hT (fun M2 g1_h g2_h => ?_))
  refine w_al0 (n := 7) dX12_plainTurns_6 rfl ?_
  refine w_il1 (n := 8) dX12_plainTurns_7 rfl ?_
  refine w_il2 (n := 9) dX12_plainTurns_8 rfl ?_
  refine w_cV2 (n := 12) pl_104 cl_12 s0_X12_taps k_X12_331 (Nat.le_of_ble_eq_true rfl) dX12_plainTurns_9 rfl (r_taps_1 (hr.T1 g1_h) h6_h hk g2_h (fun M3 g3_h g4_h => ?_))
  have hr3_h := (hr.T1 g1_h).T1 g3_h
  refine w_is3 (n := 13) dX12_plainTurns_12 rfl rfl (by decide) ?_
  refine w_il3 (n := 14) dX12_plainTurns_13 rfl ?_
  refine w_al0 (n := 15) dX12_plainTurns_14 rfl ?_
  refine w_il1 (n := 16) dX12_plainTurns_15 rfl ?_
  refine w_il2 (n := 17) dX12_plainTurns_16 rfl ?_
  refine w_cV2 (n := 20) pl_104 cl_12 s0_X12_halves k_X12_334 (Nat.le_of_ble_eq_true rfl) dX12_plainTurns_17 rfl (r_halves_P_1 hr3_h h6_h hp hk g4_h (fun M4 g6_h g7_h g8_h v => ?_))
  refine w_ixor (n := 21) dX12_plainTurns_20 rfl ?_
  refine w_retI dX12_plainTurns_21 rfl ?_
  exact hq M4 ((rT12 (g1_h.tr g3_h)).tr g6_h) g7_h g8_h _

set_option maxRecDepth 20000 in
theorem r_pu_P_2 {d : Nat} {M : dk_Mem} {Q : Option Value → dk_Mem → Prop} {σ : Nat → Nat} (hr : rr σ M) {h : Nat} (h6_h : h < 6) (hp : at_by h (σ (38 + 5 * h)) = 0) (hk : σ (35 + 5 * h) = 2) {T : at_T} (hT : rTS T M) {x : Int32} (hq : ∀ M2, dk_fr rT2 M M2 → rTS (at_uT true h (σ (38 + 5 * h)) x T 2) M2 → M2.1 104 30 = nI 1 → ∀ v, Q (some (.int v)) M2) : dk_Call (d + 5) mX12_plainTurns [.ref 104, .int (nI h), .int x] M Q := by
  refine dk_enter [some (.ref 104), some (.int (nI h)), some (.int x), none] (by decide) (fun _ => rfl) (fun _ => Nat.le_of_ble_eq_true rfl) ?_
  refine w_al0 (n := 1) dX12_plainTurns_0 rfl ?_
  refine w_bipush (n := 3) (nI 13) dX12_plainTurns_1 (by decide) rfl ?_
  refine w_cV1 (n := 6) pl_104 cl_12 s0_X12_begins k_X12_310 (Nat.le_of_ble_eq_true rfl) dX12_plainTurns_3 rfl (r_begins hT (fun M2 g1_h g2_h => ?_))
  refine w_al0 (n := 7) dX12_plainTurns_6 rfl ?_
  refine w_il1 (n := 8) dX12_plainTurns_7 rfl ?_
  refine w_il2 (n := 9) dX12_plainTurns_8 rfl ?_
  refine w_cV2 (n := 12) pl_104 cl_12 s0_X12_taps k_X12_331 (Nat.le_of_ble_eq_true rfl) dX12_plainTurns_9 rfl (r_taps_2 (hr.T1 g1_h) h6_h hk g2_h (fun M3 g3_h g4_h => ?_))
  have hr3_h := (hr.T1 g1_h).T1 g3_h
  refine w_is3 (n := 13) dX12_plainTurns_12 rfl rfl (by decide) ?_
  refine w_il3 (n := 14) dX12_plainTurns_13 rfl ?_
  refine w_al0 (n := 15) dX12_plainTurns_14 rfl ?_
  refine w_il1 (n := 16) dX12_plainTurns_15 rfl ?_
  refine w_il2 (n := 17) dX12_plainTurns_16 rfl ?_
  refine w_cV2 (n := 20) pl_104 cl_12 s0_X12_halves k_X12_334 (Nat.le_of_ble_eq_true rfl) dX12_plainTurns_17 rfl (r_halves_P_2 hr3_h h6_h hp hk g4_h (fun M4 g6_h g7_h g8_h v => ?_))
  refine w_ixor (n := 21) dX12_plainTurns_20 rfl ?_
  refine w_retI dX12_plainTurns_21 rfl ?_
  exact hq M4 ((rT12 (g1_h.tr g3_h)).tr g6_h) g7_h g8_h _

set_option maxRecDepth 20000 in
theorem r_pu_P_3 {d : Nat} {M : dk_Mem} {Q : Option Value → dk_Mem → Prop} {σ : Nat → Nat} (hr : rr σ M) {h : Nat} (h6_h : h < 6) (hp : at_by h (σ (38 + 5 * h)) = 0) (hk : σ (35 + 5 * h) = 3) {T : at_T} (hT : rTS T M) {x : Int32} (hq : ∀ M2, dk_fr rT2 M M2 → rTS (at_uT true h (σ (38 + 5 * h)) x T 3) M2 → M2.1 104 30 = nI 1 → ∀ v, Q (some (.int v)) M2) : dk_Call (d + 5) mX12_plainTurns [.ref 104, .int (nI h), .int x] M Q := by
  refine dk_enter [some (.ref 104), some (.int (nI h)), some (.int x), none] (by decide) (fun _ => rfl) (fun _ => Nat.le_of_ble_eq_true rfl) ?_
  refine w_al0 (n := 1) dX12_plainTurns_0 rfl ?_
  refine w_bipush (n := 3) (nI 13) dX12_plainTurns_1 (by decide) rfl ?_
  refine w_cV1 (n := 6) pl_104 cl_12 s0_X12_begins k_X12_310 (Nat.le_of_ble_eq_true rfl) dX12_plainTurns_3 rfl (r_begins hT (fun M2 g1_h g2_h => ?_))
  refine w_al0 (n := 7) dX12_plainTurns_6 rfl ?_
  refine w_il1 (n := 8) dX12_plainTurns_7 rfl ?_
  refine w_il2 (n := 9) dX12_plainTurns_8 rfl ?_
  refine w_cV2 (n := 12) pl_104 cl_12 s0_X12_taps k_X12_331 (Nat.le_of_ble_eq_true rfl) dX12_plainTurns_9 rfl (r_taps_3 (hr.T1 g1_h) h6_h hk g2_h (fun M3 g3_h g4_h => ?_))
  have hr3_h := (hr.T1 g1_h).T1 g3_h
  refine w_is3 (n := 13) dX12_plainTurns_12 rfl rfl (by decide) ?_
  refine w_il3 (n := 14) dX12_plainTurns_13 rfl ?_
  refine w_al0 (n := 15) dX12_plainTurns_14 rfl ?_
  refine w_il1 (n := 16) dX12_plainTurns_15 rfl ?_
  refine w_il2 (n := 17) dX12_plainTurns_16 rfl ?_
  refine w_cV2 (n := 20) pl_104 cl_12 s0_X12_halves k_X12_334 (Nat.le_of_ble_eq_true rfl) dX12_plainTurns_17 rfl (r_halves_P_3 hr3_h h6_h hp hk g4_h (fun M4 g6_h g7_h g8_h v => ?_))
  refine w_ixor (n := 21) dX12_plainTurns_20 rfl ?_
  refine w_retI dX12_plainTurns_21 rfl ?_
  exact hq M4 ((rT12 (g1_h.tr g3_h)).tr g6_h) g7_h g8_h _

set_option maxRecDepth 20000 in
theorem r_pu_P_4 {d : Nat} {M : dk_Mem} {Q : Option Value → dk_Mem → Prop} {σ : Nat → Nat} (hr : rr σ M) {h : Nat} (h6_h : h < 6) (hp : at_by h (σ (38 + 5 * h)) = 0) (hk : σ (35 + 5 * h) = 4) {T : at_T} (hT : rTS T M) {x : Int32} (hq : ∀ M2, dk_fr rT2 M M2 → rTS (at_uT true h (σ (38 + 5 * h)) x T 4) M2 → M2.1 104 30 = nI 1 → ∀ v, Q (some (.int v)) M2) : dk_Call (d + 5) mX12_plainTurns [.ref 104, .int (nI h), .int x] M Q := by
  refine dk_enter [some (.ref 104), some (.int (nI h)), some (.int x), none] (by decide) (fun _ => rfl) (fun _ => Nat.le_of_ble_eq_true rfl) ?_
  refine w_al0 (n := 1) dX12_plainTurns_0 rfl ?_
  refine w_bipush (n := 3) (nI 13) dX12_plainTurns_1 (by decide) rfl ?_
  refine w_cV1 (n := 6) pl_104 cl_12 s0_X12_begins k_X12_310 (Nat.le_of_ble_eq_true rfl) dX12_plainTurns_3 rfl (r_begins hT (fun M2 g1_h g2_h => ?_))
  refine w_al0 (n := 7) dX12_plainTurns_6 rfl ?_
  refine w_il1 (n := 8) dX12_plainTurns_7 rfl ?_
  refine w_il2 (n := 9) dX12_plainTurns_8 rfl ?_
  refine w_cV2 (n := 12) pl_104 cl_12 s0_X12_taps k_X12_331 (Nat.le_of_ble_eq_true rfl) dX12_plainTurns_9 rfl (r_taps_4 (hr.T1 g1_h) h6_h hk g2_h (fun M3 g3_h g4_h => ?_))
  have hr3_h := (hr.T1 g1_h).T1 g3_h
  refine w_is3 (n := 13) dX12_plainTurns_12 rfl rfl (by decide) ?_
  refine w_il3 (n := 14) dX12_plainTurns_13 rfl ?_
  refine w_al0 (n := 15) dX12_plainTurns_14 rfl ?_
  refine w_il1 (n := 16) dX12_plainTurns_15 rfl ?_
  refine w_il2 (n := 17) dX12_plainTurns_16 rfl ?_
  refine w_cV2 (n := 20) pl_104 cl_12 s0_X12_halves k_X12_334 (Nat.le_of_ble_eq_true rfl) dX12_plainTurns_17 rfl (r_halves_P_4 hr3_h h6_h hp hk g4_h (fun M4 g6_h g7_h g8_h v => ?_))
  refine w_ixor (n := 21) dX12_plainTurns_20 rfl ?_
  refine w_retI dX12_plainTurns_21 rfl ?_
  exact hq M4 ((rT12 (g1_h.tr g3_h)).tr g6_h) g7_h g8_h _

set_option maxRecDepth 20000 in
theorem r_pu_P_5 {d : Nat} {M : dk_Mem} {Q : Option Value → dk_Mem → Prop} {σ : Nat → Nat} (hr : rr σ M) {h : Nat} (h6_h : h < 6) (hp : at_by h (σ (38 + 5 * h)) = 0) (hk : σ (35 + 5 * h) = 5) {T : at_T} (hT : rTS T M) {x : Int32} (hq : ∀ M2, dk_fr rT2 M M2 → rTS (at_uT true h (σ (38 + 5 * h)) x T 5) M2 → M2.1 104 30 = nI 1 → ∀ v, Q (some (.int v)) M2) : dk_Call (d + 5) mX12_plainTurns [.ref 104, .int (nI h), .int x] M Q := by
  refine dk_enter [some (.ref 104), some (.int (nI h)), some (.int x), none] (by decide) (fun _ => rfl) (fun _ => Nat.le_of_ble_eq_true rfl) ?_
  refine w_al0 (n := 1) dX12_plainTurns_0 rfl ?_
  refine w_bipush (n := 3) (nI 13) dX12_plainTurns_1 (by decide) rfl ?_
  refine w_cV1 (n := 6) pl_104 cl_12 s0_X12_begins k_X12_310 (Nat.le_of_ble_eq_true rfl) dX12_plainTurns_3 rfl (r_begins hT (fun M2 g1_h g2_h => ?_))
  refine w_al0 (n := 7) dX12_plainTurns_6 rfl ?_
  refine w_il1 (n := 8) dX12_plainTurns_7 rfl ?_
  refine w_il2 (n := 9) dX12_plainTurns_8 rfl ?_
  refine w_cV2 (n := 12) pl_104 cl_12 s0_X12_taps k_X12_331 (Nat.le_of_ble_eq_true rfl) dX12_plainTurns_9 rfl (r_taps_5 (hr.T1 g1_h) h6_h hk g2_h (fun M3 g3_h g4_h => ?_))
  have hr3_h := (hr.T1 g1_h).T1 g3_h
  refine w_is3 (n := 13) dX12_plainTurns_12 rfl rfl (by decide) ?_
  refine w_il3 (n := 14) dX12_plainTurns_13 rfl ?_
  refine w_al0 (n := 15) dX12_plainTurns_14 rfl ?_
  refine w_il1 (n := 16) dX12_plainTurns_15 rfl ?_
  refine w_il2 (n := 17) dX12_plainTurns_16 rfl ?_
  refine w_cV2 (n := 20) pl_104 cl_12 s0_X12_halves k_X12_334 (Nat.le_of_ble_eq_true rfl) dX12_plainTurns_17 rfl (r_halves_P_5 hr3_h h6_h hp hk g4_h (fun M4 g6_h g7_h g8_h v => ?_))
  refine w_ixor (n := 21) dX12_plainTurns_20 rfl ?_
  refine w_retI dX12_plainTurns_21 rfl ?_
  exact hq M4 ((rT12 (g1_h.tr g3_h)).tr g6_h) g7_h g8_h _

set_option maxRecDepth 20000 in
theorem r_turns_P_0 {d : Nat} {M : dk_Mem} {Q : Option Value → dk_Mem → Prop} {σ : Nat → Nat} (hr : rr σ M) {h : Nat} (h6_h : h < 6) (hp : at_by h (σ (38 + 5 * h)) = 0) (hk : σ (35 + 5 * h) = 0) {T : at_T} (hT : rTS T M) {x : Int32} (hq : ∀ M2, dk_fr rT2 M M2 → rTS (at_rT true h (σ (38 + 5 * h)) x T 0) M2 → M2.1 104 30 = nI 1 → ∀ v, Q (some (.int v)) M2) : dk_Call (d + 6) mX12_turns [.ref 104, .int (nI h), .int x] M Q := by
  refine dk_enter [some (.ref 104), some (.int (nI h)), some (.int x), none] (by decide) (fun _ => rfl) (fun _ => Nat.le_of_ble_eq_true rfl) ?_
  refine w_al0 (n := 1) dX12_turns_0 rfl ?_
  refine w_il1 (n := 2) dX12_turns_1 rfl ?_
  refine w_iconst (n := 3) (nI 0) dX12_turns_2 (by decide) rfl ?_
  refine w_cV2 (n := 6) pl_104 cl_12 s0_X12_of k_X12_69 (Nat.le_of_ble_eq_true rfl) dX12_turns_3 rfl (r_of (h := h) (w := 0) (by omega) ((hr.kind h6_h).trans (congrArg nI hk)) ?_)
  · skip
    refine w_iconst (n := 7) (nI 3) dX12_turns_6 (by decide) rfl ?_
    refine w_ic_eq (n := 10) 17 dX12_turns_7 (by decide) rfl (fun h => absurd h (by decide)) (fun _ => ?_)
    refine w_al0 (n := 11) dX12_turns_10 rfl ?_
    refine w_il1 (n := 12) dX12_turns_11 rfl ?_
    refine w_il2 (n := 13) dX12_turns_12 rfl ?_
    refine w_cV2 (n := 16) pl_104 cl_12 s0_X12_plainTurns k_X12_337 (Nat.le_of_ble_eq_true rfl) dX12_turns_13 rfl (r_pu_P_0 hr h6_h hp hk hT (fun M3 g3_h g4_h g5_h v => ?_))
    refine w_retI dX12_turns_16 rfl ?_
    exact hq M3 g3_h g4_h g5_h _

set_option maxRecDepth 20000 in
theorem r_turns_P_1 {d : Nat} {M : dk_Mem} {Q : Option Value → dk_Mem → Prop} {σ : Nat → Nat} (hr : rr σ M) {h : Nat} (h6_h : h < 6) (hp : at_by h (σ (38 + 5 * h)) = 0) (hk : σ (35 + 5 * h) = 1) {T : at_T} (hT : rTS T M) {x : Int32} (hq : ∀ M2, dk_fr rT2 M M2 → rTS (at_rT true h (σ (38 + 5 * h)) x T 1) M2 → M2.1 104 30 = nI 1 → ∀ v, Q (some (.int v)) M2) : dk_Call (d + 6) mX12_turns [.ref 104, .int (nI h), .int x] M Q := by
  refine dk_enter [some (.ref 104), some (.int (nI h)), some (.int x), none] (by decide) (fun _ => rfl) (fun _ => Nat.le_of_ble_eq_true rfl) ?_
  refine w_al0 (n := 1) dX12_turns_0 rfl ?_
  refine w_il1 (n := 2) dX12_turns_1 rfl ?_
  refine w_iconst (n := 3) (nI 0) dX12_turns_2 (by decide) rfl ?_
  refine w_cV2 (n := 6) pl_104 cl_12 s0_X12_of k_X12_69 (Nat.le_of_ble_eq_true rfl) dX12_turns_3 rfl (r_of (h := h) (w := 0) (by omega) ((hr.kind h6_h).trans (congrArg nI hk)) ?_)
  · skip
    refine w_iconst (n := 7) (nI 3) dX12_turns_6 (by decide) rfl ?_
    refine w_ic_eq (n := 10) 17 dX12_turns_7 (by decide) rfl (fun h => absurd h (by decide)) (fun _ => ?_)
    refine w_al0 (n := 11) dX12_turns_10 rfl ?_
    refine w_il1 (n := 12) dX12_turns_11 rfl ?_
    refine w_il2 (n := 13) dX12_turns_12 rfl ?_
    refine w_cV2 (n := 16) pl_104 cl_12 s0_X12_plainTurns k_X12_337 (Nat.le_of_ble_eq_true rfl) dX12_turns_13 rfl (r_pu_P_1 hr h6_h hp hk hT (fun M3 g3_h g4_h g5_h v => ?_))
    refine w_retI dX12_turns_16 rfl ?_
    exact hq M3 g3_h g4_h g5_h _

set_option maxRecDepth 20000 in
theorem r_turns_P_2 {d : Nat} {M : dk_Mem} {Q : Option Value → dk_Mem → Prop} {σ : Nat → Nat} (hr : rr σ M) {h : Nat} (h6_h : h < 6) (hp : at_by h (σ (38 + 5 * h)) = 0) (hk : σ (35 + 5 * h) = 2) {T : at_T} (hT : rTS T M) {x : Int32} (hq : ∀ M2, dk_fr rT2 M M2 → rTS (at_rT true h (σ (38 + 5 * h)) x T 2) M2 → M2.1 104 30 = nI 1 → ∀ v, Q (some (.int v)) M2) : dk_Call (d + 6) mX12_turns [.ref 104, .int (nI h), .int x] M Q := by
  refine dk_enter [some (.ref 104), some (.int (nI h)), some (.int x), none] (by decide) (fun _ => rfl) (fun _ => Nat.le_of_ble_eq_true rfl) ?_
  refine w_al0 (n := 1) dX12_turns_0 rfl ?_
  refine w_il1 (n := 2) dX12_turns_1 rfl ?_
  refine w_iconst (n := 3) (nI 0) dX12_turns_2 (by decide) rfl ?_
  refine w_cV2 (n := 6) pl_104 cl_12 s0_X12_of k_X12_69 (Nat.le_of_ble_eq_true rfl) dX12_turns_3 rfl (r_of (h := h) (w := 0) (by omega) ((hr.kind h6_h).trans (congrArg nI hk)) ?_)
  · skip
    refine w_iconst (n := 7) (nI 3) dX12_turns_6 (by decide) rfl ?_
    refine w_ic_eq (n := 10) 17 dX12_turns_7 (by decide) rfl (fun h => absurd h (by decide)) (fun _ => ?_)
    refine w_al0 (n := 11) dX12_turns_10 rfl ?_
    refine w_il1 (n := 12) dX12_turns_11 rfl ?_
    refine w_il2 (n := 13) dX12_turns_12 rfl ?_
    refine w_cV2 (n := 16) pl_104 cl_12 s0_X12_plainTurns k_X12_337 (Nat.le_of_ble_eq_true rfl) dX12_turns_13 rfl (r_pu_P_2 hr h6_h hp hk hT (fun M3 g3_h g4_h g5_h v => ?_))
    refine w_retI dX12_turns_16 rfl ?_
    exact hq M3 g3_h g4_h g5_h _

set_option maxRecDepth 20000 in
theorem r_turns_P_3 {d : Nat} {M : dk_Mem} {Q : Option Value → dk_Mem → Prop} {σ : Nat → Nat} (hr : rr σ M) {h : Nat} (h6_h : h < 6) (hp : at_by h (σ (38 + 5 * h)) = 0) (hk : σ (35 + 5 * h) = 3) {T : at_T} (hT : rTS T M) {x : Int32} (hq : ∀ M2, dk_fr rT2 M M2 → rTS (at_rT true h (σ (38 + 5 * h)) x T 3) M2 → M2.1 104 30 = nI 1 → ∀ v, Q (some (.int v)) M2) : dk_Call (d + 6) mX12_turns [.ref 104, .int (nI h), .int x] M Q := by
  refine dk_enter [some (.ref 104), some (.int (nI h)), some (.int x), none] (by decide) (fun _ => rfl) (fun _ => Nat.le_of_ble_eq_true rfl) ?_
  refine w_al0 (n := 1) dX12_turns_0 rfl ?_
  refine w_il1 (n := 2) dX12_turns_1 rfl ?_
  refine w_iconst (n := 3) (nI 0) dX12_turns_2 (by decide) rfl ?_
  refine w_cV2 (n := 6) pl_104 cl_12 s0_X12_of k_X12_69 (Nat.le_of_ble_eq_true rfl) dX12_turns_3 rfl (r_of (h := h) (w := 0) (by omega) ((hr.kind h6_h).trans (congrArg nI hk)) ?_)
  · skip
    refine w_iconst (n := 7) (nI 3) dX12_turns_6 (by decide) rfl ?_
    refine w_ic_eq (n := 10) 17 dX12_turns_7 (by decide) rfl (fun _ => ?_) (fun h => absurd (by decide) h)
    refine w_al0 (n := 18) dX12_turns_17 rfl ?_
    refine w_bipush (n := 20) (nI 51) dX12_turns_18 (by decide) rfl ?_
    refine w_cV1 (n := 23) pl_104 cl_12 s0_X12_begins k_X12_310 (Nat.le_of_ble_eq_true rfl) dX12_turns_20 rfl (r_begins hT (fun M2 g1_h g2_h => ?_))
    refine w_al0 (n := 24) dX12_turns_23 rfl ?_
    refine w_il1 (n := 25) dX12_turns_24 rfl ?_
    refine w_il2 (n := 26) dX12_turns_25 rfl ?_
    refine w_cV2 (n := 29) pl_104 cl_12 s0_X12_plainTurns k_X12_337 (Nat.le_of_ble_eq_true rfl) dX12_turns_26 rfl (r_pu_P_3 (hr.T1 g1_h) h6_h hp hk g2_h (fun M3 g3_h g4_h g5_h v => ?_))
    have hr3_h := (hr.T1 g1_h).T2 g3_h
    refine w_is3 (n := 30) dX12_turns_29 rfl rfl (by decide) ?_
    refine w_al0 (n := 31) dX12_turns_30 rfl ?_
    refine g_Z (n := 34) f_X12_322_12 pl_104 dX12_turns_31 rfl ?_
    rw [g5_h]
    refine w_if_eq (n := 37) 41 dX12_turns_34 (by decide) rfl (fun z34_h => ?_) (fun z34_h => ?_)
    · skip
      exact absurd z34_h (by decide)
    · skip
      refine w_iconst (n := 38) (nI 0) dX12_turns_37 (by decide) rfl ?_
      refine w_goto 54 dX12_turns_38 (by decide) ?_
      refine w_retI dX12_turns_54 rfl ?_
      exact hq M3 ((rT12 g1_h).tr g3_h) g4_h g5_h _

set_option maxRecDepth 20000 in
theorem r_turns_P_4 {d : Nat} {M : dk_Mem} {Q : Option Value → dk_Mem → Prop} {σ : Nat → Nat} (hr : rr σ M) {h : Nat} (h6_h : h < 6) (hp : at_by h (σ (38 + 5 * h)) = 0) (hk : σ (35 + 5 * h) = 4) {T : at_T} (hT : rTS T M) {x : Int32} (hq : ∀ M2, dk_fr rT2 M M2 → rTS (at_rT true h (σ (38 + 5 * h)) x T 4) M2 → M2.1 104 30 = nI 1 → ∀ v, Q (some (.int v)) M2) : dk_Call (d + 6) mX12_turns [.ref 104, .int (nI h), .int x] M Q := by
  refine dk_enter [some (.ref 104), some (.int (nI h)), some (.int x), none] (by decide) (fun _ => rfl) (fun _ => Nat.le_of_ble_eq_true rfl) ?_
  refine w_al0 (n := 1) dX12_turns_0 rfl ?_
  refine w_il1 (n := 2) dX12_turns_1 rfl ?_
  refine w_iconst (n := 3) (nI 0) dX12_turns_2 (by decide) rfl ?_
  refine w_cV2 (n := 6) pl_104 cl_12 s0_X12_of k_X12_69 (Nat.le_of_ble_eq_true rfl) dX12_turns_3 rfl (r_of (h := h) (w := 0) (by omega) ((hr.kind h6_h).trans (congrArg nI hk)) ?_)
  · skip
    refine w_iconst (n := 7) (nI 3) dX12_turns_6 (by decide) rfl ?_
    refine w_ic_eq (n := 10) 17 dX12_turns_7 (by decide) rfl (fun h => absurd h (by decide)) (fun _ => ?_)
    refine w_al0 (n := 11) dX12_turns_10 rfl ?_
    refine w_il1 (n := 12) dX12_turns_11 rfl ?_
    refine w_il2 (n := 13) dX12_turns_12 rfl ?_
    refine w_cV2 (n := 16) pl_104 cl_12 s0_X12_plainTurns k_X12_337 (Nat.le_of_ble_eq_true rfl) dX12_turns_13 rfl (r_pu_P_4 hr h6_h hp hk hT (fun M3 g3_h g4_h g5_h v => ?_))
    refine w_retI dX12_turns_16 rfl ?_
    exact hq M3 g3_h g4_h g5_h _

set_option maxRecDepth 20000 in
theorem r_turns_P_5 {d : Nat} {M : dk_Mem} {Q : Option Value → dk_Mem → Prop} {σ : Nat → Nat} (hr : rr σ M) {h : Nat} (h6_h : h < 6) (hp : at_by h (σ (38 + 5 * h)) = 0) (hk : σ (35 + 5 * h) = 5) {T : at_T} (hT : rTS T M) {x : Int32} (hq : ∀ M2, dk_fr rT2 M M2 → rTS (at_rT true h (σ (38 + 5 * h)) x T 5) M2 → M2.1 104 30 = nI 1 → ∀ v, Q (some (.int v)) M2) : dk_Call (d + 6) mX12_turns [.ref 104, .int (nI h), .int x] M Q := by
  refine dk_enter [some (.ref 104), some (.int (nI h)), some (.int x), none] (by decide) (fun _ => rfl) (fun _ => Nat.le_of_ble_eq_true rfl) ?_
  refine w_al0 (n := 1) dX12_turns_0 rfl ?_
  refine w_il1 (n := 2) dX12_turns_1 rfl ?_
  refine w_iconst (n := 3) (nI 0) dX12_turns_2 (by decide) rfl ?_
  refine w_cV2 (n := 6) pl_104 cl_12 s0_X12_of k_X12_69 (Nat.le_of_ble_eq_true rfl) dX12_turns_3 rfl (r_of (h := h) (w := 0) (by omega) ((hr.kind h6_h).trans (congrArg nI hk)) ?_)
  · skip
    refine w_iconst (n := 7) (nI 3) dX12_turns_6 (by decide) rfl ?_
    refine w_ic_eq (n := 10) 17 dX12_turns_7 (by decide) rfl (fun h => absurd h (by decide)) (fun _ => ?_)
    refine w_al0 (n := 11) dX12_turns_10 rfl ?_
    refine w_il1 (n := 12) dX12_turns_11 rfl ?_
    refine w_il2 (n := 13) dX12_turns_12 rfl ?_
    refine w_cV2 (n := 16) pl_104 cl_12 s0_X12_plainTurns k_X12_337 (Nat.le_of_ble_eq_true rfl) dX12_turns_13 rfl (r_pu_P_5 hr h6_h hp hk hT (fun M3 g3_h g4_h g5_h v => ?_))
    refine w_retI dX12_turns_16 rfl ?_
    exact hq M3 g3_h g4_h g5_h _

theorem r_halves_P {d : Nat} {M : dk_Mem} {Q : Option Value → dk_Mem → Prop} {σ : Nat → Nat} (hr : rr σ M) {h : Nat} (h6_h : h < 6) (hp : at_by h (σ (38 + 5 * h)) = 0) (k5_h : σ (35 + 5 * h) ≤ 5) {T : at_T} (hT : rTS T M) {x : Int32} (hq : ∀ M2, dk_fr rT2 M M2 → rTS (at_hT true T (σ (35 + 5 * h))) M2 → M2.1 104 30 = nI 1 → ∀ v, Q (some (.int v)) M2) : dk_Call (d + 3) mX12_halves [.ref 104, .int (nI h), .int x] M Q := by
  rcases (show σ (35 + 5 * h) = 0 ∨ σ (35 + 5 * h) = 1 ∨ σ (35 + 5 * h) = 2 ∨ σ (35 + 5 * h) = 3 ∨ σ (35 + 5 * h) = 4 ∨ σ (35 + 5 * h) = 5 by omega) with hk | hk | hk | hk | hk | hk
  · rw [hk] at hq
    exact r_halves_P_0 hr h6_h hp hk hT hq
  · rw [hk] at hq
    exact r_halves_P_1 hr h6_h hp hk hT hq
  · rw [hk] at hq
    exact r_halves_P_2 hr h6_h hp hk hT hq
  · rw [hk] at hq
    exact r_halves_P_3 hr h6_h hp hk hT hq
  · rw [hk] at hq
    exact r_halves_P_4 hr h6_h hp hk hT hq
  · rw [hk] at hq
    exact r_halves_P_5 hr h6_h hp hk hT hq

theorem r_turns_P {d : Nat} {M : dk_Mem} {Q : Option Value → dk_Mem → Prop} {σ : Nat → Nat} (hr : rr σ M) {h : Nat} (h6_h : h < 6) (hp : at_by h (σ (38 + 5 * h)) = 0) (k5_h : σ (35 + 5 * h) ≤ 5) {T : at_T} (hT : rTS T M) {x : Int32} (hq : ∀ M2, dk_fr rT2 M M2 → rTS (at_rT true h (σ (38 + 5 * h)) x T (σ (35 + 5 * h))) M2 → M2.1 104 30 = nI 1 → ∀ v, Q (some (.int v)) M2) : dk_Call (d + 6) mX12_turns [.ref 104, .int (nI h), .int x] M Q := by
  rcases (show σ (35 + 5 * h) = 0 ∨ σ (35 + 5 * h) = 1 ∨ σ (35 + 5 * h) = 2 ∨ σ (35 + 5 * h) = 3 ∨ σ (35 + 5 * h) = 4 ∨ σ (35 + 5 * h) = 5 by omega) with hk | hk | hk | hk | hk | hk
  · rw [hk] at hq
    exact r_turns_P_0 hr h6_h hp hk hT hq
  · rw [hk] at hq
    exact r_turns_P_1 hr h6_h hp hk hT hq
  · rw [hk] at hq
    exact r_turns_P_2 hr h6_h hp hk hT hq
  · rw [hk] at hq
    exact r_turns_P_3 hr h6_h hp hk hT hq
  · rw [hk] at hq
    exact r_turns_P_4 hr h6_h hp hk hT hq
  · rw [hk] at hq
    exact r_turns_P_5 hr h6_h hp hk hT hq

theorem r_halves {d : Nat} {M : dk_Mem} {Q : Option Value → dk_Mem → Prop} {σ : Nat → Nat} (hr : rr σ M) {h : Nat} (h6_h : h < 6) (k5_h : σ (35 + 5 * h) ≤ 5) {T : at_T} (hT : rTS T M) {x : Int32} (hq : ∀ M2 v, dk_fr rT2 M M2 → rTS (at_hT (at_p h (σ (38 + 5 * h))) T (σ (35 + 5 * h))) M2 → M2.1 104 30 = gbI (at_p h (σ (38 + 5 * h))) → (at_p h (σ (38 + 5 * h)) = false → v = at_hv h (σ (38 + 5 * h)) x (σ (35 + 5 * h))) → Q (some (.int v)) M2) : dk_Call (d + 3) mX12_halves [.ref 104, .int (nI h), .int x] M Q := by
  by_cases hp : at_by h (σ (38 + 5 * h)) = 0
  · have e : at_p h (σ (38 + 5 * h)) = true := decide_eq_true hp
    rw [e] at hq
    exact r_halves_P hr h6_h hp k5_h hT (fun M2 a b c v => hq M2 v a b c (fun z => by cases z))
  · have e : at_p h (σ (38 + 5 * h)) = false := decide_eq_false hp
    rw [e] at hq
    exact r_halves_N hr h6_h hp k5_h hT (fun M2 a b c => hq M2 _ a b c (fun _ => rfl))

theorem r_turns {d : Nat} {M : dk_Mem} {Q : Option Value → dk_Mem → Prop} {σ : Nat → Nat} (hr : rr σ M) {h : Nat} (h6_h : h < 6) (k5_h : σ (35 + 5 * h) ≤ 5) {T : at_T} (hT : rTS T M) {x : Int32} (hq : ∀ M2 v, dk_fr rT2 M M2 → rTS (at_rT (at_p h (σ (38 + 5 * h))) h (σ (38 + 5 * h)) x T (σ (35 + 5 * h))) M2 → M2.1 104 30 = gbI (at_p h (σ (38 + 5 * h))) → (at_p h (σ (38 + 5 * h)) = false → v = at_rv h (σ (38 + 5 * h)) x T (σ (35 + 5 * h))) → Q (some (.int v)) M2) : dk_Call (d + 6) mX12_turns [.ref 104, .int (nI h), .int x] M Q := by
  by_cases hp : at_by h (σ (38 + 5 * h)) = 0
  · have e : at_p h (σ (38 + 5 * h)) = true := decide_eq_true hp
    rw [e] at hq
    exact r_turns_P hr h6_h hp k5_h hT (fun M2 a b c v => hq M2 v a b c (fun z => by cases z))
  · have e : at_p h (σ (38 + 5 * h)) = false := decide_eq_false hp
    rw [e] at hq
    exact r_turns_N hr h6_h hp k5_h hT (fun M2 a b c => hq M2 _ a b c (fun _ => rfl))
