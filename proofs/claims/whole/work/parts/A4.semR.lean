/-! ===== what THE RULES say: pure ===== -/
def sg_fe (y l g a n : Nat) : Nat → Nat := fun k => if k = 0 then y else if k = 1 then l else if k = 2 then g else if k = 3 then a else n
def sg_ev (fe : Nat → Nat) (c : Nat) : Nat := if c < 10000 then c else fe (c - 10000)
def sg_cmp (s a b : Nat) : Bool := if s = 60 then decide (a < b) else if s = 61 then decide (a = b) else decide (b < a)
/-- a side of a comparison as the reference lays it -/
def rl_v (c : Nat) : Int32 := if c < 10000 then nI c else nI 8 - nI (9 + (c - 10000))
def okR (f : Nat → Int32) (fe : Nat → Nat) (en : Nat) : Nat → Nat → List Bool → Bool → Prop
  | 0, _, _, _ => False
  | n + 1, j, ps, r =>
    (j = en ∧ ps = [r]) ∨
    (j < en ∧ f (121 + j) = nI 17 ∧ ∃ b t, ps = b :: t ∧ okR f fe en n (j + 1) ((!b) :: t) r) ∨
    (j < en ∧ f (121 + j) = nI 16 ∧ ∃ b a t, ps = b :: a :: t ∧ okR f fe en n (j + 1) ((a && b) :: t) r) ∨
    (j < en ∧ f (121 + j) = nI 15 ∧ ∃ b a t, ps = b :: a :: t ∧ okR f fe en n (j + 1) ((a || b) :: t) r) ∨
    (j + 2 < en ∧ ps.length < 20 ∧ ∃ s c1_h c2_h, 60 ≤ s ∧ s ≤ 62 ∧ c1_h < 10005 ∧ c2_h < 10005 ∧ f (121 + j) = nI s ∧ f (121 + j + 1) = rl_v c1_h ∧ f (121 + j + 2) = rl_v c2_h ∧ okR f fe en n (j + 3) (sg_cmp s (sg_ev fe c1_h) (sg_ev fe c2_h) :: ps) r)
def rl_P : List Bool → dk_Mem → Prop
  | [], _ => True
  | b :: t, M => M.1 109 t.length = gbI b ∧ rl_P t M
theorem rl_P.put {M : dk_Mem} {j : Nat} {x : Int32} : ∀ {ps : List Bool}, ps.length ≤ j → rl_P ps M → rl_P ps (dk_put M 109 j x)
  | [], _, _ => trivial
  | b :: t, h, hp => by
    have h2_h : t.length + 1 ≤ j := h
    exact ⟨by rw [dk_put_k (by omega)]; exact hp.1, rl_P.put (by omega) hp.2⟩
theorem nI_dec (n : Nat) : nI (n + 1) + (-1) = nI n := by
  rw [← nI_add]
  rw [Int32.add_assoc, show nI 1 + (-1) = (0 : Int32) from by decide, Int32.add_zero]
/-- rules one behind another -/
def sg_wf (kd dg : Nat → Nat) (sm : Nat → (Nat → Nat) → Bool) (k : Nat) (fe : Nat → Nat) : Nat → Nat → Nat
  | 0, _ => 0
  | m + 1, r => if sg_ub k (kd r) = true ∧ sm r fe = true then dg r else sg_wf kd dg sm k fe m (r + 1)
def sg_w (kd dg : Nat → Nat) (sm : Nat → (Nat → Nat) → Bool) (nr : Nat) : sg_R := fun k y l g a n => sg_wf kd dg sm k (sg_fe y l g a n) nr 0
theorem sg_wf_le {kd dg : Nat → Nat} {sm : Nat → (Nat → Nat) → Bool} {k : Nat} {fe : Nat → Nat} : ∀ m r, (∀ i, i < r + m → dg i ≤ 2) → sg_wf kd dg sm k fe m r ≤ 2
  | 0, r, _ => Nat.zero_le _
  | m + 1, r, h => by
    rw [sg_wf]
    split
    · exact h r (by omega)
    · exact sg_wf_le m (r + 1) (fun i hi => h i (by omega))
/-! ===== in the reference ===== -/
def rl_e (σ : Nat → Nat) (h : Nat) : Nat → Nat := sg_fe (σ 1) (σ (36 + 5 * h)) (σ (37 + 5 * h)) (sg_wd σ) h
theorem rl_e_le {σ : Nat → Nat} (o : sg_ok σ) {h : Nat} (h6_h : h < 6) (c : Nat) (hc : c < 10005) : sg_ev (rl_e σ h) c < 10005 := by
  have h1_h := o.2.2.1
  have h2_h := o.lean h6_h
  have h3_h := o.gap h6_h
  have h4_h := o.wd
  unfold sg_ev rl_e sg_fe
  repeat' split
  all_goals omega
theorem rl_out {c : Nat} (h : c < 10000) : (nI c).toInt < -5 ∨ -1 < (nI c).toInt := by
  rw [nI_toInt (by omega)]
  omega

set_option maxRecDepth 20000 in
theorem r_fact0 {d : Nat} {M : dk_Mem} {Q : Option Value → dk_Mem → Prop} {h c : Nat} (hc : c < 10000) (hq : Q (some (.int (nI c))) M) : dk_Call d mX12_factOf [.ref 104, .int (nI h), .int (nI c)] M Q := by
  refine dk_enter [some (.ref 104), some (.int (nI h)), some (.int (nI c))] (by decide) (fun _ => rfl) (fun _ => Nat.le_of_ble_eq_true rfl) ?_
  refine w_il2 (n := 1) dX12_factOf_0 rfl ?_
  refine w_tabOut 64 dX12_factOf_1 (rl_out hc) (by decide) ?_
  refine w_il2 (n := 65) dX12_factOf_64 rfl ?_
  refine w_retI dX12_factOf_65 rfl ?_
  exact hq

set_option maxRecDepth 20000 in
theorem r_fact_0 {d : Nat} {M : dk_Mem} {Q : Option Value → dk_Mem → Prop} {σ : Nat → Nat} (hr : rr σ M) (o : sg_ok σ) {h : Nat} (h6_h : h < 6) (hq : Q (some (.int (nI (rl_e σ h 0)))) M) : dk_Call (d + 2) mX12_factOf [.ref 104, .int (nI h), .int (-1)] M Q := by
  refine dk_enter [some (.ref 104), some (.int (nI h)), some (.int (-1))] (by decide) (fun _ => rfl) (fun _ => Nat.le_of_ble_eq_true rfl) ?_
  refine w_il2 (n := 1) dX12_factOf_0 rfl ?_
  refine w_tabIn 36 dX12_factOf_1 (by decide) (by decide) rfl (by decide) ?_
  refine w_al0 (n := 37) dX12_factOf_36 rfl ?_
  refine g_R (n := 40) f_X12_9_12 pl_104 rf_104_0 dX12_factOf_37 rfl ?_
  refine w_iconst (n := 41) (nI 1) dX12_factOf_40 (by decide) rfl ?_
  refine i_iald (n := 42) pl_105 (j := 1) rfl (by decide) (by decide) (hr 1 (by decide) (by decide) (by decide)) dX12_factOf_41 rfl ?_
  refine w_retI dX12_factOf_42 rfl ?_
  exact hq

set_option maxRecDepth 20000 in
theorem r_fact_1 {d : Nat} {M : dk_Mem} {Q : Option Value → dk_Mem → Prop} {σ : Nat → Nat} (hr : rr σ M) (o : sg_ok σ) {h : Nat} (h6_h : h < 6) (hq : Q (some (.int (nI (rl_e σ h 1)))) M) : dk_Call (d + 2) mX12_factOf [.ref 104, .int (nI h), .int (-2)] M Q := by
  refine dk_enter [some (.ref 104), some (.int (nI h)), some (.int (-2))] (by decide) (fun _ => rfl) (fun _ => Nat.le_of_ble_eq_true rfl) ?_
  refine w_il2 (n := 1) dX12_factOf_0 rfl ?_
  refine w_tabIn 43 dX12_factOf_1 (by decide) (by decide) rfl (by decide) ?_
  refine w_al0 (n := 44) dX12_factOf_43 rfl ?_
  refine w_il1 (n := 45) dX12_factOf_44 rfl ?_
  refine w_iconst (n := 46) (nI 1) dX12_factOf_45 (by decide) rfl ?_
  refine w_cV2 (n := 49) pl_104 cl_12 s0_X12_of k_X12_69 (Nat.le_of_ble_eq_true rfl) dX12_factOf_46 rfl (r_of (h := h) (w := 1) (by omega) (hr.lean h6_h) ?_)
  refine w_retI dX12_factOf_49 rfl ?_
  exact hq

set_option maxRecDepth 20000 in
theorem r_fact_2 {d : Nat} {M : dk_Mem} {Q : Option Value → dk_Mem → Prop} {σ : Nat → Nat} (hr : rr σ M) (o : sg_ok σ) {h : Nat} (h6_h : h < 6) (hq : Q (some (.int (nI (rl_e σ h 2)))) M) : dk_Call (d + 2) mX12_factOf [.ref 104, .int (nI h), .int (-3)] M Q := by
  refine dk_enter [some (.ref 104), some (.int (nI h)), some (.int (-3))] (by decide) (fun _ => rfl) (fun _ => Nat.le_of_ble_eq_true rfl) ?_
  refine w_il2 (n := 1) dX12_factOf_0 rfl ?_
  refine w_tabIn 50 dX12_factOf_1 (by decide) (by decide) rfl (by decide) ?_
  refine w_al0 (n := 51) dX12_factOf_50 rfl ?_
  refine w_il1 (n := 52) dX12_factOf_51 rfl ?_
  refine w_iconst (n := 53) (nI 2) dX12_factOf_52 (by decide) rfl ?_
  refine w_cV2 (n := 56) pl_104 cl_12 s0_X12_of k_X12_69 (Nat.le_of_ble_eq_true rfl) dX12_factOf_53 rfl (r_of (h := h) (w := 2) (by omega) (hr.gap h6_h) ?_)
  refine w_retI dX12_factOf_56 rfl ?_
  exact hq

set_option maxRecDepth 20000 in
theorem r_fact_3 {d : Nat} {M : dk_Mem} {Q : Option Value → dk_Mem → Prop} {σ : Nat → Nat} (hr : rr σ M) (o : sg_ok σ) {h : Nat} (h6_h : h < 6) (hq : Q (some (.int (nI (rl_e σ h 3)))) M) : dk_Call (d + 2) mX12_factOf [.ref 104, .int (nI h), .int (-4)] M Q := by
  refine dk_enter [some (.ref 104), some (.int (nI h)), some (.int (-4))] (by decide) (fun _ => rfl) (fun _ => Nat.le_of_ble_eq_true rfl) ?_
  refine w_il2 (n := 1) dX12_factOf_0 rfl ?_
  refine w_tabIn 57 dX12_factOf_1 (by decide) (by decide) rfl (by decide) ?_
  refine w_al0 (n := 58) dX12_factOf_57 rfl ?_
  refine w_cV0 (n := 61) pl_104 cl_12 s0_X12_word k_X12_73 (Nat.le_of_ble_eq_true rfl) dX12_factOf_58 rfl (r_word hr o ?_)
  refine w_retI dX12_factOf_61 rfl ?_
  exact hq

set_option maxRecDepth 20000 in
theorem r_fact_4 {d : Nat} {M : dk_Mem} {Q : Option Value → dk_Mem → Prop} {σ : Nat → Nat} (hr : rr σ M) (o : sg_ok σ) {h : Nat} (h6_h : h < 6) (hq : Q (some (.int (nI (rl_e σ h 4)))) M) : dk_Call (d + 2) mX12_factOf [.ref 104, .int (nI h), .int (-5)] M Q := by
  refine dk_enter [some (.ref 104), some (.int (nI h)), some (.int (-5))] (by decide) (fun _ => rfl) (fun _ => Nat.le_of_ble_eq_true rfl) ?_
  refine w_il2 (n := 1) dX12_factOf_0 rfl ?_
  refine w_tabIn 62 dX12_factOf_1 (by decide) (by decide) rfl (by decide) ?_
  refine w_il1 (n := 63) dX12_factOf_62 rfl ?_
  refine w_retI dX12_factOf_63 rfl ?_
  exact hq

theorem r_fact {d : Nat} {M : dk_Mem} {Q : Option Value → dk_Mem → Prop} {σ : Nat → Nat} (hr : rr σ M) (o : sg_ok σ) {h : Nat} (h6_h : h < 6) {c : Nat} (hc : c < 10005) (hq : Q (some (.int (nI (sg_ev (rl_e σ h) c)))) M) : dk_Call (d + 2) mX12_factOf [.ref 104, .int (nI h), .int (rl_v c)] M Q := by
  by_cases e : c < 10000
  · rw [show rl_v c = nI c from if_pos e]
    rw [show sg_ev (rl_e σ h) c = c from if_pos e] at hq
    exact r_fact0 e hq
  · rcases (show c = 10000 ∨ c = 10001 ∨ c = 10002 ∨ c = 10003 ∨ c = 10004 by omega) with rfl | rfl | rfl | rfl | rfl
    · rw [show rl_v 10000 = (-1) from by decide]
      exact r_fact_0 hr o h6_h hq
    · rw [show rl_v 10001 = (-2) from by decide]
      exact r_fact_1 hr o h6_h hq
    · rw [show rl_v 10002 = (-3) from by decide]
      exact r_fact_2 hr o h6_h hq
    · rw [show rl_v 10003 = (-4) from by decide]
      exact r_fact_3 hr o h6_h hq
    · rw [show rl_v 10004 = (-5) from by decide]
      exact r_fact_4 hr o h6_h hq

set_option maxRecDepth 20000 in
theorem r_isSo {d : Nat} {M : dk_Mem} {Q : Option Value → dk_Mem → Prop} {s a b : Nat} (hs1_h : 60 ≤ s) (hs2_h : s ≤ 62) (ha : a < 2 ^ 31) (hb : b < 2 ^ 31) (hq : Q (some (.int (gbI (sg_cmp s a b)))) M) : dk_Call d mX12_isSo [.int (nI s), .int (nI a), .int (nI b)] M Q := by
  unfold sg_cmp at hq
  refine dk_enter [some (.int (nI s)), some (.int (nI a)), some (.int (nI b))] (by decide) (fun _ => rfl) (fun _ => Nat.le_of_ble_eq_true rfl) ?_
  refine w_il0 (n := 1) dX12_isSo_0 rfl ?_
  refine w_bipush (n := 3) (nI 60) dX12_isSo_1 (by decide) rfl ?_
  refine w_ic_ne (n := 6) 19 dX12_isSo_3 (by decide) rfl (fun z3_h => ?_) (fun z3_h => ?_)
  · skip
    refine w_il0 (n := 20) dX12_isSo_19 rfl ?_
    refine w_bipush (n := 22) (nI 61) dX12_isSo_20 (by decide) rfl ?_
    refine w_ic_ne (n := 25) 38 dX12_isSo_22 (by decide) rfl (fun z22_h => ?_) (fun z22_h => ?_)
    · skip
      refine w_il1 (n := 39) dX12_isSo_38 rfl ?_
      refine w_il2 (n := 40) dX12_isSo_39 rfl ?_
      refine w_ic_le (n := 43) 47 dX12_isSo_40 (by decide) rfl (fun z40_h => ?_) (fun z40_h => ?_)
      · skip
        refine w_iconst (n := 48) (nI 0) dX12_isSo_47 (by decide) rfl ?_
        refine w_retZ0 dX12_isSo_48 rfl ?_
        first | (rw [nI_eq (by omega) (by omega)] at z3_h; rw [q_le (by omega) (by omega)] at z8_h; rw [if_pos z3_h, decide_eq_false (by omega)] at hq; exact hq) | (rw [nI_eq (by omega) (by omega)] at z3_h; rw [nI_eq (by omega) (by omega)] at z22_h; rw [nI_eq (by omega) (by omega)] at z27_h; rw [if_neg z3_h, if_pos z22_h, decide_eq_false (by omega)] at hq; exact hq) | (rw [nI_eq (by omega) (by omega)] at z3_h; rw [nI_eq (by omega) (by omega)] at z22_h; rw [q_le (by omega) (by omega)] at z40_h; rw [if_neg z3_h, if_neg z22_h, decide_eq_false (by omega)] at hq; exact hq)
      · skip
        refine w_iconst (n := 44) (nI 1) dX12_isSo_43 (by decide) rfl ?_
        refine w_goto 48 dX12_isSo_44 (by decide) ?_
        refine w_retZ1 dX12_isSo_48 rfl ?_
        first | (rw [nI_eq (by omega) (by omega)] at z3_h; rw [q_le (by omega) (by omega)] at z8_h; rw [if_pos z3_h, decide_eq_true (by omega)] at hq; exact hq) | (rw [nI_eq (by omega) (by omega)] at z3_h; rw [nI_eq (by omega) (by omega)] at z22_h; rw [nI_eq (by omega) (by omega)] at z27_h; rw [if_neg z3_h, if_pos z22_h, decide_eq_true (by omega)] at hq; exact hq) | (rw [nI_eq (by omega) (by omega)] at z3_h; rw [nI_eq (by omega) (by omega)] at z22_h; rw [q_le (by omega) (by omega)] at z40_h; rw [if_neg z3_h, if_neg z22_h, decide_eq_true (by omega)] at hq; exact hq)
    · skip
      refine w_il1 (n := 26) dX12_isSo_25 rfl ?_
      refine w_il2 (n := 27) dX12_isSo_26 rfl ?_
      refine w_ic_ne (n := 30) 34 dX12_isSo_27 (by decide) rfl (fun z27_h => ?_) (fun z27_h => ?_)
      · skip
        refine w_iconst (n := 35) (nI 0) dX12_isSo_34 (by decide) rfl ?_
        refine w_goto 48 dX12_isSo_35 (by decide) ?_
        refine w_retZ0 dX12_isSo_48 rfl ?_
        first | (rw [nI_eq (by omega) (by omega)] at z3_h; rw [q_le (by omega) (by omega)] at z8_h; rw [if_pos z3_h, decide_eq_false (by omega)] at hq; exact hq) | (rw [nI_eq (by omega) (by omega)] at z3_h; rw [nI_eq (by omega) (by omega)] at z22_h; rw [nI_eq (by omega) (by omega)] at z27_h; rw [if_neg z3_h, if_pos z22_h, decide_eq_false (by omega)] at hq; exact hq) | (rw [nI_eq (by omega) (by omega)] at z3_h; rw [nI_eq (by omega) (by omega)] at z22_h; rw [q_le (by omega) (by omega)] at z40_h; rw [if_neg z3_h, if_neg z22_h, decide_eq_false (by omega)] at hq; exact hq)
      · skip
        refine w_iconst (n := 31) (nI 1) dX12_isSo_30 (by decide) rfl ?_
        refine w_goto 48 dX12_isSo_31 (by decide) ?_
        refine w_retZ1 dX12_isSo_48 rfl ?_
        first | (rw [nI_eq (by omega) (by omega)] at z3_h; rw [q_le (by omega) (by omega)] at z8_h; rw [if_pos z3_h, decide_eq_true (by omega)] at hq; exact hq) | (rw [nI_eq (by omega) (by omega)] at z3_h; rw [nI_eq (by omega) (by omega)] at z22_h; rw [nI_eq (by omega) (by omega)] at z27_h; rw [if_neg z3_h, if_pos z22_h, decide_eq_true (by omega)] at hq; exact hq) | (rw [nI_eq (by omega) (by omega)] at z3_h; rw [nI_eq (by omega) (by omega)] at z22_h; rw [q_le (by omega) (by omega)] at z40_h; rw [if_neg z3_h, if_neg z22_h, decide_eq_true (by omega)] at hq; exact hq)
  · skip
    refine w_il1 (n := 7) dX12_isSo_6 rfl ?_
    refine w_il2 (n := 8) dX12_isSo_7 rfl ?_
    refine w_ic_ge (n := 11) 15 dX12_isSo_8 (by decide) rfl (fun z8_h => ?_) (fun z8_h => ?_)
    · skip
      refine w_iconst (n := 16) (nI 0) dX12_isSo_15 (by decide) rfl ?_
      refine w_goto 48 dX12_isSo_16 (by decide) ?_
      refine w_retZ0 dX12_isSo_48 rfl ?_
      first | (rw [nI_eq (by omega) (by omega)] at z3_h; rw [q_le (by omega) (by omega)] at z8_h; rw [if_pos z3_h, decide_eq_false (by omega)] at hq; exact hq) | (rw [nI_eq (by omega) (by omega)] at z3_h; rw [nI_eq (by omega) (by omega)] at z22_h; rw [nI_eq (by omega) (by omega)] at z27_h; rw [if_neg z3_h, if_pos z22_h, decide_eq_false (by omega)] at hq; exact hq) | (rw [nI_eq (by omega) (by omega)] at z3_h; rw [nI_eq (by omega) (by omega)] at z22_h; rw [q_le (by omega) (by omega)] at z40_h; rw [if_neg z3_h, if_neg z22_h, decide_eq_false (by omega)] at hq; exact hq)
    · skip
      refine w_iconst (n := 12) (nI 1) dX12_isSo_11 (by decide) rfl ?_
      refine w_goto 48 dX12_isSo_12 (by decide) ?_
      refine w_retZ1 dX12_isSo_48 rfl ?_
      first | (rw [nI_eq (by omega) (by omega)] at z3_h; rw [q_le (by omega) (by omega)] at z8_h; rw [if_pos z3_h, decide_eq_true (by omega)] at hq; exact hq) | (rw [nI_eq (by omega) (by omega)] at z3_h; rw [nI_eq (by omega) (by omega)] at z22_h; rw [nI_eq (by omega) (by omega)] at z27_h; rw [if_neg z3_h, if_pos z22_h, decide_eq_true (by omega)] at hq; exact hq) | (rw [nI_eq (by omega) (by omega)] at z3_h; rw [nI_eq (by omega) (by omega)] at z22_h; rw [q_le (by omega) (by omega)] at z40_h; rw [if_neg z3_h, if_neg z22_h, decide_eq_true (by omega)] at hq; exact hq)

set_option maxRecDepth 20000 in
theorem r_hN {d : Nat} {M : dk_Mem} {Q : Option Value → dk_Mem → Prop} {h j en : Nat} {ru : Int32} {x7_h : Option Value} (hen : en ≤ 500) {b : Bool} {t : List Bool} (hj : j < en) (hv : M.1 105 (121 + j) = nI 17) (hl : t.length < 90) (hp : M.1 109 t.length = gbI b) (hx : ∀ y7_h, dk_W d mX12_isHolding 42 [some (.ref 104), some (.int (nI h)), some (.int ru), some (.int (nI (t.length + 1))), some (.int (nI (121 + (j + 1)))), some (.int (nI (121 + en))), some (.int (nI 0)), y7_h] [] (dk_put M 109 t.length (gbI (!b))) Q) : dk_W d mX12_isHolding 42 [some (.ref 104), some (.int (nI h)), some (.int ru), some (.int (nI (t.length + 1))), some (.int (nI (121 + j))), some (.int (nI (121 + en))), some (.int (nI 0)), x7_h] [] M Q := by
  refine w_il4 (n := 44) dX12_isHolding_42 rfl ?_
  refine w_il5 (n := 46) dX12_isHolding_44 rfl ?_
  refine w_ic_ge (n := 49) 234 dX12_isHolding_46 (by decide) rfl (fun z46_h => ?_) (fun z46_h => ?_)
  · skip
    exfalso
    rw [q_le (by omega) (by omega)] at z46_h
    omega
  · skip
    refine w_al0 (n := 50) dX12_isHolding_49 rfl ?_
    refine g_R (n := 53) f_X12_9_12 pl_104 rf_104_0 dX12_isHolding_50 rfl ?_
    refine w_il4 (n := 55) dX12_isHolding_53 rfl ?_
    refine i_iald (n := 56) pl_105 (j := 121 + j) rfl (by omega) (by decide) hv dX12_isHolding_55 rfl ?_
    refine w_is7 (n := 58) dX12_isHolding_56 rfl rfl (by decide) ?_
    refine w_il7 (n := 60) dX12_isHolding_58 rfl ?_
    refine w_bipush (n := 62) (nI 17) dX12_isHolding_60 (by decide) rfl ?_
    refine w_ic_ne (n := 65) 95 dX12_isHolding_62 (by decide) rfl (fun h => absurd h (by decide)) (fun _ => ?_)
    refine w_al0 (n := 66) dX12_isHolding_65 rfl ?_
    refine g_R (n := 69) f_X12_22_12 pl_104 rf_104_13 dX12_isHolding_66 rfl ?_
    refine w_il3 (n := 70) dX12_isHolding_69 rfl ?_
    refine w_iconst (n := 71) (nI 1) dX12_isHolding_70 (by decide) rfl ?_
    refine w_isub (n := 72) dX12_isHolding_71 rfl ?_
    refine w_al0 (n := 73) dX12_isHolding_72 rfl ?_
    refine g_R (n := 76) f_X12_22_12 pl_104 rf_104_13 dX12_isHolding_73 rfl ?_
    refine w_il3 (n := 77) dX12_isHolding_76 rfl ?_
    refine w_iconst (n := 78) (nI 1) dX12_isHolding_77 (by decide) rfl ?_
    refine w_isub (n := 79) dX12_isHolding_78 rfl ?_
    refine i_zald (n := 80) pl_109 (j := t.length) (by rw [q_pm1 (by omega), Nat.add_sub_cancel]) (by omega) (by decide) hp dX12_isHolding_79 rfl ?_
    refine w_if_ne (n := 83) 87 dX12_isHolding_80 (by decide) rfl (fun z80_h => ?_) (fun z80_h => ?_)
    · skip
      refine w_iconst (n := 88) (nI 0) dX12_isHolding_87 (by decide) rfl ?_
      refine i_zast (n := 89) (by decide) pl_109 (j := t.length) (by rw [q_pm1 (by omega), Nat.add_sub_cancel]) (by omega) (by decide) dX12_isHolding_88 rfl ?_
      refine w_inc4 (n := 92) (nI 1) dX12_isHolding_89 (by decide) rfl rfl (by decide) ?_
      refine w_goto 231 dX12_isHolding_92 (by decide) ?_
      refine w_goto 42 dX12_isHolding_231 (by decide) ?_
      rw [nI_add]
      first | (have e := gbI_1 z80_h; subst e; exact hx _) | (have e := gbI_0 z80_h; subst e; exact hx _)
    · skip
      refine w_iconst (n := 84) (nI 1) dX12_isHolding_83 (by decide) rfl ?_
      refine w_goto 88 dX12_isHolding_84 (by decide) ?_
      refine i_zast (n := 89) (by decide) pl_109 (j := t.length) (by rw [q_pm1 (by omega), Nat.add_sub_cancel]) (by omega) (by decide) dX12_isHolding_88 rfl ?_
      refine w_inc4 (n := 92) (nI 1) dX12_isHolding_89 (by decide) rfl rfl (by decide) ?_
      refine w_goto 231 dX12_isHolding_92 (by decide) ?_
      refine w_goto 42 dX12_isHolding_231 (by decide) ?_
      rw [nI_add]
      first | (have e := gbI_1 z80_h; subst e; exact hx _) | (have e := gbI_0 z80_h; subst e; exact hx _)

set_option maxRecDepth 20000 in
theorem r_hA {d : Nat} {M : dk_Mem} {Q : Option Value → dk_Mem → Prop} {h j en : Nat} {ru : Int32} {x7_h : Option Value} (hen : en ≤ 500) {b a : Bool} {t : List Bool} (hj : j < en) (hv : M.1 105 (121 + j) = nI 16) (hl : t.length < 90) (hp1_h : M.1 109 (t.length + 1) = gbI b) (hp2_h : M.1 109 t.length = gbI a) (hx : ∀ y7_h, dk_W d mX12_isHolding 42 [some (.ref 104), some (.int (nI h)), some (.int ru), some (.int (nI (t.length + 1))), some (.int (nI (121 + (j + 1)))), some (.int (nI (121 + en))), some (.int (nI 0)), y7_h] [] (dk_put M 109 t.length (gbI (a && b))) Q) : dk_W d mX12_isHolding 42 [some (.ref 104), some (.int (nI h)), some (.int ru), some (.int (nI (t.length + 2))), some (.int (nI (121 + j))), some (.int (nI (121 + en))), some (.int (nI 0)), x7_h] [] M Q := by
  refine w_il4 (n := 44) dX12_isHolding_42 rfl ?_
  refine w_il5 (n := 46) dX12_isHolding_44 rfl ?_
  refine w_ic_ge (n := 49) 234 dX12_isHolding_46 (by decide) rfl (fun z46_h => ?_) (fun z46_h => ?_)
  · skip
    exfalso
    rw [q_le (by omega) (by omega)] at z46_h
    omega
  · skip
    refine w_al0 (n := 50) dX12_isHolding_49 rfl ?_
    refine g_R (n := 53) f_X12_9_12 pl_104 rf_104_0 dX12_isHolding_50 rfl ?_
    refine w_il4 (n := 55) dX12_isHolding_53 rfl ?_
    refine i_iald (n := 56) pl_105 (j := 121 + j) rfl (by omega) (by decide) hv dX12_isHolding_55 rfl ?_
    refine w_is7 (n := 58) dX12_isHolding_56 rfl rfl (by decide) ?_
    refine w_il7 (n := 60) dX12_isHolding_58 rfl ?_
    refine w_bipush (n := 62) (nI 17) dX12_isHolding_60 (by decide) rfl ?_
    refine w_ic_ne (n := 65) 95 dX12_isHolding_62 (by decide) rfl (fun _ => ?_) (fun h => absurd h (by decide))
    refine w_il7 (n := 97) dX12_isHolding_95 rfl ?_
    refine w_bipush (n := 99) (nI 16) dX12_isHolding_97 (by decide) rfl ?_
    refine w_ic_eq (n := 102) 109 dX12_isHolding_99 (by decide) rfl (fun _ => ?_) (fun h => absurd (by decide) h)
    refine w_inc3 (n := 112) (-1) dX12_isHolding_109 (by decide) rfl rfl (by decide) ?_
    rw [nI_dec]
    refine w_al0 (n := 113) dX12_isHolding_112 rfl ?_
    refine g_R (n := 116) f_X12_22_12 pl_104 rf_104_13 dX12_isHolding_113 rfl ?_
    refine w_il3 (n := 117) dX12_isHolding_116 rfl ?_
    refine w_iconst (n := 118) (nI 1) dX12_isHolding_117 (by decide) rfl ?_
    refine w_isub (n := 119) dX12_isHolding_118 rfl ?_
    refine w_il7 (n := 121) dX12_isHolding_119 rfl ?_
    refine w_bipush (n := 123) (nI 16) dX12_isHolding_121 (by decide) rfl ?_
    refine w_ic_ne (n := 126) 154 dX12_isHolding_123 (by decide) rfl (fun h => absurd h (by decide)) (fun _ => ?_)
    refine w_al0 (n := 127) dX12_isHolding_126 rfl ?_
    refine g_R (n := 130) f_X12_22_12 pl_104 rf_104_13 dX12_isHolding_127 rfl ?_
    refine w_il3 (n := 131) dX12_isHolding_130 rfl ?_
    refine w_iconst (n := 132) (nI 1) dX12_isHolding_131 (by decide) rfl ?_
    refine w_isub (n := 133) dX12_isHolding_132 rfl ?_
    refine i_zald (n := 134) pl_109 (j := t.length) (by rw [q_pm1 (by omega), Nat.add_sub_cancel]) (by omega) (by decide) hp2_h dX12_isHolding_133 rfl ?_
    refine w_if_eq (n := 137) 150 dX12_isHolding_134 (by decide) rfl (fun z134_h => ?_) (fun z134_h => ?_)
    · skip
      refine w_iconst (n := 151) (nI 0) dX12_isHolding_150 (by decide) rfl ?_
      refine w_goto 179 dX12_isHolding_151 (by decide) ?_
      refine i_zast (n := 180) (by decide) pl_109 (j := t.length) (by rw [q_pm1 (by omega), Nat.add_sub_cancel]) (by omega) (by decide) dX12_isHolding_179 rfl ?_
      refine w_inc4 (n := 183) (nI 1) dX12_isHolding_180 (by decide) rfl rfl (by decide) ?_
      refine w_goto 231 dX12_isHolding_183 (by decide) ?_
      refine w_goto 42 dX12_isHolding_231 (by decide) ?_
      rw [nI_add]
      first | (have e1_h := gbI_1 z134_h; have e2_h := gbI_1 z143_h; subst e1_h; subst e2_h; exact hx _) | (have e1_h := gbI_1 z134_h; have e2_h := gbI_0 z143_h; subst e1_h; subst e2_h; exact hx _) | (have e1_h := gbI_0 z134_h; have e2_h := gbI_1 z143_h; subst e1_h; subst e2_h; exact hx _) | (have e1_h := gbI_0 z134_h; have e2_h := gbI_0 z143_h; subst e1_h; subst e2_h; exact hx _) | (have e1_h := gbI_0 z134_h; subst e1_h; rw [show (false && b) = false from rfl] at hx; exact hx _) | (have e1_h := gbI_1 z134_h; subst e1_h; rw [show (true || b) = true from rfl] at hx; exact hx _)
    · skip
      refine w_al0 (n := 138) dX12_isHolding_137 rfl ?_
      refine g_R (n := 141) f_X12_22_12 pl_104 rf_104_13 dX12_isHolding_138 rfl ?_
      refine w_il3 (n := 142) dX12_isHolding_141 rfl ?_
      refine i_zald (n := 143) pl_109 (j := t.length + 1) rfl (by omega) (by decide) hp1_h dX12_isHolding_142 rfl ?_
      refine w_if_eq (n := 146) 150 dX12_isHolding_143 (by decide) rfl (fun z143_h => ?_) (fun z143_h => ?_)
      · skip
        refine w_iconst (n := 151) (nI 0) dX12_isHolding_150 (by decide) rfl ?_
        refine w_goto 179 dX12_isHolding_151 (by decide) ?_
        refine i_zast (n := 180) (by decide) pl_109 (j := t.length) (by rw [q_pm1 (by omega), Nat.add_sub_cancel]) (by omega) (by decide) dX12_isHolding_179 rfl ?_
        refine w_inc4 (n := 183) (nI 1) dX12_isHolding_180 (by decide) rfl rfl (by decide) ?_
        refine w_goto 231 dX12_isHolding_183 (by decide) ?_
        refine w_goto 42 dX12_isHolding_231 (by decide) ?_
        rw [nI_add]
        first | (have e1_h := gbI_1 z134_h; have e2_h := gbI_1 z143_h; subst e1_h; subst e2_h; exact hx _) | (have e1_h := gbI_1 z134_h; have e2_h := gbI_0 z143_h; subst e1_h; subst e2_h; exact hx _) | (have e1_h := gbI_0 z134_h; have e2_h := gbI_1 z143_h; subst e1_h; subst e2_h; exact hx _) | (have e1_h := gbI_0 z134_h; have e2_h := gbI_0 z143_h; subst e1_h; subst e2_h; exact hx _) | (have e1_h := gbI_0 z134_h; subst e1_h; rw [show (false && b) = false from rfl] at hx; exact hx _) | (have e1_h := gbI_1 z134_h; subst e1_h; rw [show (true || b) = true from rfl] at hx; exact hx _)
      · skip
        refine w_iconst (n := 147) (nI 1) dX12_isHolding_146 (by decide) rfl ?_
        refine w_goto 179 dX12_isHolding_147 (by decide) ?_
        refine i_zast (n := 180) (by decide) pl_109 (j := t.length) (by rw [q_pm1 (by omega), Nat.add_sub_cancel]) (by omega) (by decide) dX12_isHolding_179 rfl ?_
        refine w_inc4 (n := 183) (nI 1) dX12_isHolding_180 (by decide) rfl rfl (by decide) ?_
        refine w_goto 231 dX12_isHolding_183 (by decide) ?_
        refine w_goto 42 dX12_isHolding_231 (by decide) ?_
        rw [nI_add]
        first | (have e1_h := gbI_1 z134_h; have e2_h := gbI_1 z143_h; subst e1_h; subst e2_h; exact hx _) | (have e1_h := gbI_1 z134_h; have e2_h := gbI_0 z143_h; subst e1_h; subst e2_h; exact hx _) | (have e1_h := gbI_0 z134_h; have e2_h := gbI_1 z143_h; subst e1_h; subst e2_h; exact hx _) | (have e1_h := gbI_0 z134_h; have e2_h := gbI_0 z143_h; subst e1_h; subst e2_h; exact hx _) | (have e1_h := gbI_0 z134_h; subst e1_h; rw [show (false && b) = false from rfl] at hx; exact hx _) | (have e1_h := gbI_1 z134_h; subst e1_h; rw [show (true || b) = true from rfl] at hx; exact hx _)

set_option maxRecDepth 20000 in
theorem r_hO {d : Nat} {M : dk_Mem} {Q : Option Value → dk_Mem → Prop} {h j en : Nat} {ru : Int32} {x7_h : Option Value} (hen : en ≤ 500) {b a : Bool} {t : List Bool} (hj : j < en) (hv : M.1 105 (121 + j) = nI 15) (hl : t.length < 90) (hp1_h : M.1 109 (t.length + 1) = gbI b) (hp2_h : M.1 109 t.length = gbI a) (hx : ∀ y7_h, dk_W d mX12_isHolding 42 [some (.ref 104), some (.int (nI h)), some (.int ru), some (.int (nI (t.length + 1))), some (.int (nI (121 + (j + 1)))), some (.int (nI (121 + en))), some (.int (nI 0)), y7_h] [] (dk_put M 109 t.length (gbI (a || b))) Q) : dk_W d mX12_isHolding 42 [some (.ref 104), some (.int (nI h)), some (.int ru), some (.int (nI (t.length + 2))), some (.int (nI (121 + j))), some (.int (nI (121 + en))), some (.int (nI 0)), x7_h] [] M Q := by
  refine w_il4 (n := 44) dX12_isHolding_42 rfl ?_
  refine w_il5 (n := 46) dX12_isHolding_44 rfl ?_
  refine w_ic_ge (n := 49) 234 dX12_isHolding_46 (by decide) rfl (fun z46_h => ?_) (fun z46_h => ?_)
  · skip
    exfalso
    rw [q_le (by omega) (by omega)] at z46_h
    omega
  · skip
    refine w_al0 (n := 50) dX12_isHolding_49 rfl ?_
    refine g_R (n := 53) f_X12_9_12 pl_104 rf_104_0 dX12_isHolding_50 rfl ?_
    refine w_il4 (n := 55) dX12_isHolding_53 rfl ?_
    refine i_iald (n := 56) pl_105 (j := 121 + j) rfl (by omega) (by decide) hv dX12_isHolding_55 rfl ?_
    refine w_is7 (n := 58) dX12_isHolding_56 rfl rfl (by decide) ?_
    refine w_il7 (n := 60) dX12_isHolding_58 rfl ?_
    refine w_bipush (n := 62) (nI 17) dX12_isHolding_60 (by decide) rfl ?_
    refine w_ic_ne (n := 65) 95 dX12_isHolding_62 (by decide) rfl (fun _ => ?_) (fun h => absurd h (by decide))
    refine w_il7 (n := 97) dX12_isHolding_95 rfl ?_
    refine w_bipush (n := 99) (nI 16) dX12_isHolding_97 (by decide) rfl ?_
    refine w_ic_eq (n := 102) 109 dX12_isHolding_99 (by decide) rfl (fun h => absurd h (by decide)) (fun _ => ?_)
    refine w_il7 (n := 104) dX12_isHolding_102 rfl ?_
    refine w_bipush (n := 106) (nI 15) dX12_isHolding_104 (by decide) rfl ?_
    refine w_ic_ne (n := 109) 186 dX12_isHolding_106 (by decide) rfl (fun h => absurd h (by decide)) (fun _ => ?_)
    refine w_inc3 (n := 112) (-1) dX12_isHolding_109 (by decide) rfl rfl (by decide) ?_
    rw [nI_dec]
    refine w_al0 (n := 113) dX12_isHolding_112 rfl ?_
    refine g_R (n := 116) f_X12_22_12 pl_104 rf_104_13 dX12_isHolding_113 rfl ?_
    refine w_il3 (n := 117) dX12_isHolding_116 rfl ?_
    refine w_iconst (n := 118) (nI 1) dX12_isHolding_117 (by decide) rfl ?_
    refine w_isub (n := 119) dX12_isHolding_118 rfl ?_
    refine w_il7 (n := 121) dX12_isHolding_119 rfl ?_
    refine w_bipush (n := 123) (nI 16) dX12_isHolding_121 (by decide) rfl ?_
    refine w_ic_ne (n := 126) 154 dX12_isHolding_123 (by decide) rfl (fun _ => ?_) (fun h => absurd h (by decide))
    refine w_al0 (n := 155) dX12_isHolding_154 rfl ?_
    refine g_R (n := 158) f_X12_22_12 pl_104 rf_104_13 dX12_isHolding_155 rfl ?_
    refine w_il3 (n := 159) dX12_isHolding_158 rfl ?_
    refine w_iconst (n := 160) (nI 1) dX12_isHolding_159 (by decide) rfl ?_
    refine w_isub (n := 161) dX12_isHolding_160 rfl ?_
    refine i_zald (n := 162) pl_109 (j := t.length) (by rw [q_pm1 (by omega), Nat.add_sub_cancel]) (by omega) (by decide) hp2_h dX12_isHolding_161 rfl ?_
    refine w_if_ne (n := 165) 174 dX12_isHolding_162 (by decide) rfl (fun z162_h => ?_) (fun z162_h => ?_)
    · skip
      refine w_iconst (n := 175) (nI 1) dX12_isHolding_174 (by decide) rfl ?_
      refine w_goto 179 dX12_isHolding_175 (by decide) ?_
      refine i_zast (n := 180) (by decide) pl_109 (j := t.length) (by rw [q_pm1 (by omega), Nat.add_sub_cancel]) (by omega) (by decide) dX12_isHolding_179 rfl ?_
      refine w_inc4 (n := 183) (nI 1) dX12_isHolding_180 (by decide) rfl rfl (by decide) ?_
      refine w_goto 231 dX12_isHolding_183 (by decide) ?_
      refine w_goto 42 dX12_isHolding_231 (by decide) ?_
      rw [nI_add]
      first | (have e1_h := gbI_1 z162_h; have e2_h := gbI_1 z171_h; subst e1_h; subst e2_h; exact hx _) | (have e1_h := gbI_1 z162_h; have e2_h := gbI_0 z171_h; subst e1_h; subst e2_h; exact hx _) | (have e1_h := gbI_0 z162_h; have e2_h := gbI_1 z171_h; subst e1_h; subst e2_h; exact hx _) | (have e1_h := gbI_0 z162_h; have e2_h := gbI_0 z171_h; subst e1_h; subst e2_h; exact hx _) | (have e1_h := gbI_0 z162_h; subst e1_h; rw [show (false && b) = false from rfl] at hx; exact hx _) | (have e1_h := gbI_1 z162_h; subst e1_h; rw [show (true || b) = true from rfl] at hx; exact hx _)
    · skip
      refine w_al0 (n := 166) dX12_isHolding_165 rfl ?_
      refine g_R (n := 169) f_X12_22_12 pl_104 rf_104_13 dX12_isHolding_166 rfl ?_
      refine w_il3 (n := 170) dX12_isHolding_169 rfl ?_
      refine i_zald (n := 171) pl_109 (j := t.length + 1) rfl (by omega) (by decide) hp1_h dX12_isHolding_170 rfl ?_
      refine w_if_eq (n := 174) 178 dX12_isHolding_171 (by decide) rfl (fun z171_h => ?_) (fun z171_h => ?_)
      · skip
        refine w_iconst (n := 179) (nI 0) dX12_isHolding_178 (by decide) rfl ?_
        refine i_zast (n := 180) (by decide) pl_109 (j := t.length) (by rw [q_pm1 (by omega), Nat.add_sub_cancel]) (by omega) (by decide) dX12_isHolding_179 rfl ?_
        refine w_inc4 (n := 183) (nI 1) dX12_isHolding_180 (by decide) rfl rfl (by decide) ?_
        refine w_goto 231 dX12_isHolding_183 (by decide) ?_
        refine w_goto 42 dX12_isHolding_231 (by decide) ?_
        rw [nI_add]
        first | (have e1_h := gbI_1 z162_h; have e2_h := gbI_1 z171_h; subst e1_h; subst e2_h; exact hx _) | (have e1_h := gbI_1 z162_h; have e2_h := gbI_0 z171_h; subst e1_h; subst e2_h; exact hx _) | (have e1_h := gbI_0 z162_h; have e2_h := gbI_1 z171_h; subst e1_h; subst e2_h; exact hx _) | (have e1_h := gbI_0 z162_h; have e2_h := gbI_0 z171_h; subst e1_h; subst e2_h; exact hx _) | (have e1_h := gbI_0 z162_h; subst e1_h; rw [show (false && b) = false from rfl] at hx; exact hx _) | (have e1_h := gbI_1 z162_h; subst e1_h; rw [show (true || b) = true from rfl] at hx; exact hx _)
      · skip
        refine w_iconst (n := 175) (nI 1) dX12_isHolding_174 (by decide) rfl ?_
        refine w_goto 179 dX12_isHolding_175 (by decide) ?_
        refine i_zast (n := 180) (by decide) pl_109 (j := t.length) (by rw [q_pm1 (by omega), Nat.add_sub_cancel]) (by omega) (by decide) dX12_isHolding_179 rfl ?_
        refine w_inc4 (n := 183) (nI 1) dX12_isHolding_180 (by decide) rfl rfl (by decide) ?_
        refine w_goto 231 dX12_isHolding_183 (by decide) ?_
        refine w_goto 42 dX12_isHolding_231 (by decide) ?_
        rw [nI_add]
        first | (have e1_h := gbI_1 z162_h; have e2_h := gbI_1 z171_h; subst e1_h; subst e2_h; exact hx _) | (have e1_h := gbI_1 z162_h; have e2_h := gbI_0 z171_h; subst e1_h; subst e2_h; exact hx _) | (have e1_h := gbI_0 z162_h; have e2_h := gbI_1 z171_h; subst e1_h; subst e2_h; exact hx _) | (have e1_h := gbI_0 z162_h; have e2_h := gbI_0 z171_h; subst e1_h; subst e2_h; exact hx _) | (have e1_h := gbI_0 z162_h; subst e1_h; rw [show (false && b) = false from rfl] at hx; exact hx _) | (have e1_h := gbI_1 z162_h; subst e1_h; rw [show (true || b) = true from rfl] at hx; exact hx _)

set_option maxRecDepth 20000 in
theorem r_hC {d : Nat} {M : dk_Mem} {Q : Option Value → dk_Mem → Prop} {h j en : Nat} {ru : Int32} {x7_h : Option Value} (hen : en ≤ 500) {σ : Nat → Nat} (hr : rr σ M) (o : sg_ok σ) (h6_h : h < 6) {ps : List Bool} {s c1_h c2_h : Nat} (hj : j + 2 < en) (hs1_h : 60 ≤ s) (hs2_h : s ≤ 62) (hc1_h : c1_h < 10005) (hc2_h : c2_h < 10005) (hv : M.1 105 (121 + j) = nI s) (hv1_h : M.1 105 (121 + j + 1) = rl_v c1_h) (hv2_h : M.1 105 (121 + j + 2) = rl_v c2_h) (hl : ps.length < 90) (hx : ∀ y7_h, dk_W (d + 3) mX12_isHolding 42 [some (.ref 104), some (.int (nI h)), some (.int ru), some (.int (nI (ps.length + 1))), some (.int (nI (121 + (j + 3)))), some (.int (nI (121 + en))), some (.int (nI 0)), y7_h] [] (dk_put M 109 ps.length (gbI (sg_cmp s (sg_ev (rl_e σ h) c1_h) (sg_ev (rl_e σ h) c2_h)))) Q) : dk_W (d + 3) mX12_isHolding 42 [some (.ref 104), some (.int (nI h)), some (.int ru), some (.int (nI ps.length)), some (.int (nI (121 + j))), some (.int (nI (121 + en))), some (.int (nI 0)), x7_h] [] M Q := by
  have l1_h := rl_e_le o h6_h c1_h hc1_h
  have l2_h := rl_e_le o h6_h c2_h hc2_h
  refine w_il4 (n := 44) dX12_isHolding_42 rfl ?_
  refine w_il5 (n := 46) dX12_isHolding_44 rfl ?_
  refine w_ic_ge (n := 49) 234 dX12_isHolding_46 (by decide) rfl (fun z46_h => ?_) (fun z46_h => ?_)
  · skip
    exfalso
    rw [q_le (by omega) (by omega)] at z46_h
    omega
  · skip
    refine w_al0 (n := 50) dX12_isHolding_49 rfl ?_
    refine g_R (n := 53) f_X12_9_12 pl_104 rf_104_0 dX12_isHolding_50 rfl ?_
    refine w_il4 (n := 55) dX12_isHolding_53 rfl ?_
    refine i_iald (n := 56) pl_105 (j := 121 + j) rfl (by omega) (by decide) hv dX12_isHolding_55 rfl ?_
    refine w_is7 (n := 58) dX12_isHolding_56 rfl rfl (by decide) ?_
    refine w_il7 (n := 60) dX12_isHolding_58 rfl ?_
    refine w_bipush (n := 62) (nI 17) dX12_isHolding_60 (by decide) rfl ?_
    refine w_ic_ne (n := 65) 95 dX12_isHolding_62 (by decide) rfl (fun z62_h => ?_) (fun z62_h => ?_)
    · skip
      refine w_il7 (n := 97) dX12_isHolding_95 rfl ?_
      refine w_bipush (n := 99) (nI 16) dX12_isHolding_97 (by decide) rfl ?_
      refine w_ic_eq (n := 102) 109 dX12_isHolding_99 (by decide) rfl (fun z99_h => ?_) (fun z99_h => ?_)
      · skip
        exfalso
        first | (rw [nI_eq (by omega) (by omega)] at z99_h; omega) | (rw [nI_eq (by omega) (by omega)] at z106_h; omega)
      · skip
        refine w_il7 (n := 104) dX12_isHolding_102 rfl ?_
        refine w_bipush (n := 106) (nI 15) dX12_isHolding_104 (by decide) rfl ?_
        refine w_ic_ne (n := 109) 186 dX12_isHolding_106 (by decide) rfl (fun z106_h => ?_) (fun z106_h => ?_)
        · skip
          refine w_al0 (n := 187) dX12_isHolding_186 rfl ?_
          refine g_R (n := 190) f_X12_22_12 pl_104 rf_104_13 dX12_isHolding_187 rfl ?_
          refine w_il3 (n := 191) dX12_isHolding_190 rfl ?_
          refine w_il7 (n := 193) dX12_isHolding_191 rfl ?_
          refine w_al0 (n := 194) dX12_isHolding_193 rfl ?_
          refine w_il1 (n := 195) dX12_isHolding_194 rfl ?_
          refine w_al0 (n := 196) dX12_isHolding_195 rfl ?_
          refine g_R (n := 199) f_X12_9_12 pl_104 rf_104_0 dX12_isHolding_196 rfl ?_
          refine w_il4 (n := 201) dX12_isHolding_199 rfl ?_
          refine w_iconst (n := 202) (nI 1) dX12_isHolding_201 (by decide) rfl ?_
          refine w_iadd (n := 203) dX12_isHolding_202 rfl ?_
          refine i_iald (n := 204) pl_105 (j := 121 + j + 1) (by rw [nI_add]) (by omega) (by decide) hv1_h dX12_isHolding_203 rfl ?_
          refine w_cV2 (n := 207) pl_104 cl_12 s0_X12_factOf k_X12_205 (Nat.le_of_ble_eq_true rfl) dX12_isHolding_204 rfl (r_fact hr o h6_h hc1_h ?_)
          refine w_al0 (n := 208) dX12_isHolding_207 rfl ?_
          refine w_il1 (n := 209) dX12_isHolding_208 rfl ?_
          refine w_al0 (n := 210) dX12_isHolding_209 rfl ?_
          refine g_R (n := 213) f_X12_9_12 pl_104 rf_104_0 dX12_isHolding_210 rfl ?_
          refine w_il4 (n := 215) dX12_isHolding_213 rfl ?_
          refine w_iconst (n := 216) (nI 2) dX12_isHolding_215 (by decide) rfl ?_
          refine w_iadd (n := 217) dX12_isHolding_216 rfl ?_
          refine i_iald (n := 218) pl_105 (j := 121 + j + 2) (by rw [nI_add]) (by omega) (by decide) hv2_h dX12_isHolding_217 rfl ?_
          refine w_cV2 (n := 221) pl_104 cl_12 s0_X12_factOf k_X12_205 (Nat.le_of_ble_eq_true rfl) dX12_isHolding_218 rfl (r_fact hr o h6_h hc2_h ?_)
          refine w_cS3 (n := 224) s0_X12_isSo k_X12_208 (Nat.le_of_ble_eq_true rfl) dX12_isHolding_221 rfl (r_isSo hs1_h hs2_h (by omega) (by omega) ?_)
          refine i_zast (n := 225) (gbI_01 _) pl_109 (j := ps.length) rfl (by omega) (by decide) dX12_isHolding_224 rfl ?_
          refine w_inc3 (n := 228) (nI 1) dX12_isHolding_225 (by decide) rfl rfl (by decide) ?_
          refine w_inc4 (n := 231) (nI 3) dX12_isHolding_228 (by decide) rfl rfl (by decide) ?_
          refine w_goto 42 dX12_isHolding_231 (by decide) ?_
          rw [nI_add, nI_add]
          exact hx _
        · skip
          exfalso
          first | (rw [nI_eq (by omega) (by omega)] at z99_h; omega) | (rw [nI_eq (by omega) (by omega)] at z106_h; omega)
    · skip
      exfalso
      rw [nI_eq (by omega) (by omega)] at z62_h
      omega

set_option maxRecDepth 20000 in
theorem r_hE {d : Nat} {M : dk_Mem} {Q : Option Value → dk_Mem → Prop} {h j en : Nat} {ru : Int32} {x7_h : Option Value} {r : Bool} (hp : M.1 109 0 = gbI r) (hq : Q (some (.int (gbI r))) M) : dk_W d mX12_isHolding 42 [some (.ref 104), some (.int (nI h)), some (.int ru), some (.int (nI 1)), some (.int (nI (121 + en))), some (.int (nI (121 + en))), some (.int (nI 0)), x7_h] [] M Q := by
  refine w_il4 (n := 44) dX12_isHolding_42 rfl ?_
  refine w_il5 (n := 46) dX12_isHolding_44 rfl ?_
  refine w_ic_ge (n := 49) 234 dX12_isHolding_46 (by decide) rfl (fun z46_h => ?_) (fun z46_h => ?_)
  · skip
    refine w_il6 (n := 236) dX12_isHolding_234 rfl ?_
    refine w_if_ne (n := 239) 248 dX12_isHolding_236 (by decide) rfl (fun h => absurd h (by decide)) (fun _ => ?_)
    refine w_al0 (n := 240) dX12_isHolding_239 rfl ?_
    refine g_R (n := 243) f_X12_22_12 pl_104 rf_104_13 dX12_isHolding_240 rfl ?_
    refine w_iconst (n := 244) (nI 0) dX12_isHolding_243 (by decide) rfl ?_
    refine i_zald (n := 245) pl_109 (j := 0) rfl (by decide) (by decide) hp dX12_isHolding_244 rfl ?_
    refine w_if_eq (n := 248) 252 dX12_isHolding_245 (by decide) rfl (fun z245_h => ?_) (fun z245_h => ?_)
    · skip
      refine w_iconst (n := 253) (nI 0) dX12_isHolding_252 (by decide) rfl ?_
      refine w_retZ0 dX12_isHolding_253 rfl ?_
      first | (have e := gbI_1 z245_h; subst e; exact hq) | (have e := gbI_0 z245_h; subst e; exact hq)
    · skip
      refine w_iconst (n := 249) (nI 1) dX12_isHolding_248 (by decide) rfl ?_
      refine w_goto 253 dX12_isHolding_249 (by decide) ?_
      refine w_retZ1 dX12_isHolding_253 rfl ?_
      first | (have e := gbI_1 z245_h; subst e; exact hq) | (have e := gbI_0 z245_h; subst e; exact hq)
  · skip
    exact absurd (Int32.le_refl _) z46_h

theorem r_hL {d : Nat} {M : dk_Mem} {Q : Option Value → dk_Mem → Prop} {h en : Nat} {ru : Int32} (hen : en ≤ 500) {σ : Nat → Nat} (hr : rr σ M) (o : sg_ok σ) (h6_h : h < 6) {f : Nat → Int32} (hf : rT f M) {r : Bool} (hq : ∀ M2, dk_fr (fun q _ => q = 109) M M2 → Q (some (.int (gbI r))) M2) : ∀ (n j : Nat) (ps : List Bool) (x7_h : Option Value) (M1 : dk_Mem), okR f (rl_e σ h) en n j ps r → ps.length ≤ 20 → dk_fr (fun q _ => q = 109) M M1 → rl_P ps M1 → dk_W (d + 3) mX12_isHolding 42 [some (.ref 104), some (.int (nI h)), some (.int ru), some (.int (nI ps.length)), some (.int (nI (121 + j))), some (.int (nI (121 + en))), some (.int (nI 0)), x7_h] [] M1 Q := by
  intro n
  induction n with
  | zero => intro j ps x7_h M1 ho; exact absurd ho (fun z => z)
  | succ n ih =>
    intro j ps x7_h M1 ho hl hg hp
    have e5_h : ∀ k, M1.1 105 k = M.1 105 k := fun k => hg.2 105 k (fun z => by cases z)
    have hr1_h : rr σ M1 := hr.f109 hg
    rcases ho with ⟨e1_h, e2_h⟩ | ⟨hj, hv, b, t, e, h2_h⟩ | ⟨hj, hv, b, a, t, e, h2_h⟩ | ⟨hj, hv, b, a, t, e, h2_h⟩ | ⟨hj, hlen, s, c1_h, c2_h, s1_h, s2_h, l1_h, l2_h, v0_h, v1_h, v2_h, h2_h⟩
    · subst e1_h; subst e2_h
      exact r_hE (j := 0) hp.1 (hq M1 hg)
    · subst e
      have hl2_h : t.length + 1 ≤ 20 := hl
      exact r_hN hen hj (by rw [e5_h, hf _ (by omega) (by omega)]; exact hv) (by omega) hp.1 (fun y7_h => ih (j + 1) ((!b) :: t) y7_h _ h2_h hl (hg.put rfl) ⟨dk_put_s, hp.2.put (Nat.le_refl _)⟩)
    · subst e
      have hl2_h : t.length + 1 + 1 ≤ 20 := hl
      exact r_hA hen hj (by rw [e5_h, hf _ (by omega) (by omega)]; exact hv) (by omega) hp.1 hp.2.1 (fun y7_h => ih (j + 1) ((a && b) :: t) y7_h _ h2_h (by show t.length + 1 ≤ 20; omega) (hg.put rfl) ⟨dk_put_s, hp.2.2.put (Nat.le_refl _)⟩)
    · subst e
      have hl2_h : t.length + 1 + 1 ≤ 20 := hl
      exact r_hO hen hj (by rw [e5_h, hf _ (by omega) (by omega)]; exact hv) (by omega) hp.1 hp.2.1 (fun y7_h => ih (j + 1) ((a || b) :: t) y7_h _ h2_h (by show t.length + 1 ≤ 20; omega) (hg.put rfl) ⟨dk_put_s, hp.2.2.put (Nat.le_refl _)⟩)
    · exact r_hC hen hr1_h o h6_h hj s1_h s2_h l1_h l2_h (by rw [e5_h, hf _ (by omega) (by omega)]; exact v0_h) (by rw [e5_h, hf _ (by omega) (by omega)]; exact v1_h) (by rw [e5_h, hf _ (by omega) (by omega)]; exact v2_h) (by omega) (fun y7_h => ih (j + 3) (_ :: ps) y7_h _ h2_h (by show ps.length + 1 ≤ 20; omega) (hg.put rfl) ⟨dk_put_s, hp.put (Nat.le_refl _)⟩)
/-- rule r stands in the reference's row -/
def rl_R (f : Nat → Int32) (r : Nat) (sem : (Nat → Nat) → Bool) : Prop := ∃ a b, a ≤ b ∧ b ≤ 500 ∧ f (91 + 4 * r) = nI a ∧ f (92 + 4 * r) = nI b ∧ ((a = b ∧ ∀ fe, sem fe = true) ∨ (a < b ∧ ∀ fe, ∃ n, okR f fe b n a [] (sem fe)))

set_option maxRecDepth 20000 in
theorem r_hT {d : Nat} {M : dk_Mem} {Q : Option Value → dk_Mem → Prop} {h ru n0_h : Int32} {en : Nat} {x7_h : Option Value} (hq : Q (some (.int (nI 1))) M) : dk_W d mX12_isHolding 42 [some (.ref 104), some (.int h), some (.int ru), some (.int n0_h), some (.int (nI (121 + en))), some (.int (nI (121 + en))), some (.int (nI 1)), x7_h] [] M Q := by
  refine w_il4 (n := 44) dX12_isHolding_42 rfl ?_
  refine w_il5 (n := 46) dX12_isHolding_44 rfl ?_
  refine w_ic_ge (n := 49) 234 dX12_isHolding_46 (by decide) rfl (fun z46_h => ?_) (fun z46_h => ?_)
  · skip
    refine w_il6 (n := 236) dX12_isHolding_234 rfl ?_
    refine w_if_ne (n := 239) 248 dX12_isHolding_236 (by decide) rfl (fun _ => ?_) (fun h => absurd h (by decide))
    refine w_iconst (n := 249) (nI 1) dX12_isHolding_248 (by decide) rfl ?_
    refine w_goto 253 dX12_isHolding_249 (by decide) ?_
    refine w_retZ1 dX12_isHolding_253 rfl ?_
    exact hq
  · skip
    exact absurd (Int32.le_refl _) z46_h

set_option maxRecDepth 20000 in
theorem r_isH {d : Nat} {M : dk_Mem} {Q : Option Value → dk_Mem → Prop} {σ : Nat → Nat} (hr : rr σ M) (o : sg_ok σ) {h : Nat} (h6_h : h < 6) {f : Nat → Int32} (hf : rT f M) {r : Nat} (r8_h : r < 8) {sem : (Nat → Nat) → Bool} (hs : rl_R f r sem) (hq : ∀ M2, dk_fr (fun q _ => q = 109) M M2 → Q (some (.int (gbI (sem (rl_e σ h))))) M2) : dk_Call (d + 3) mX12_isHolding [.ref 104, .int (nI h), .int (nI (89 + 4 * r))] M Q := by
  obtain ⟨a, b, hab, hb, va, vb, hs⟩ := hs
  have ka : M.1 105 (89 + 4 * r + 2) = nI a := by rw [hf _ (by omega) (by omega), show 89 + 4 * r + 2 = 91 + 4 * r by omega]; exact va
  have kb : M.1 105 (89 + 4 * r + 3) = nI b := by rw [hf _ (by omega) (by omega), show 89 + 4 * r + 3 = 92 + 4 * r by omega]; exact vb
  refine dk_enter [some (.ref 104), some (.int (nI h)), some (.int (nI (89 + 4 * r))), none, none, none, none, none] (by decide) (fun _ => rfl) (fun _ => Nat.le_of_ble_eq_true rfl) ?_
  refine w_iconst (n := 1) (nI 0) dX12_isHolding_0 (by decide) rfl ?_
  refine w_is3 (n := 2) dX12_isHolding_1 rfl rfl (by decide) ?_
  refine w_bipush (n := 4) (nI 121) dX12_isHolding_2 (by decide) rfl ?_
  refine w_al0 (n := 5) dX12_isHolding_4 rfl ?_
  refine g_R (n := 8) f_X12_9_12 pl_104 rf_104_0 dX12_isHolding_5 rfl ?_
  refine w_il2 (n := 9) dX12_isHolding_8 rfl ?_
  refine w_iconst (n := 10) (nI 2) dX12_isHolding_9 (by decide) rfl ?_
  refine w_iadd (n := 11) dX12_isHolding_10 rfl ?_
  refine i_iald (n := 12) pl_105 (j := 89 + 4 * r + 2) (by rw [nI_add]) (by omega) (by decide) ka dX12_isHolding_11 rfl ?_
  refine w_iadd (n := 13) dX12_isHolding_12 rfl ?_
  rw [nI_add]
  refine w_is4 (n := 15) dX12_isHolding_13 rfl rfl (by decide) ?_
  refine w_bipush (n := 17) (nI 121) dX12_isHolding_15 (by decide) rfl ?_
  refine w_al0 (n := 18) dX12_isHolding_17 rfl ?_
  refine g_R (n := 21) f_X12_9_12 pl_104 rf_104_0 dX12_isHolding_18 rfl ?_
  refine w_il2 (n := 22) dX12_isHolding_21 rfl ?_
  refine w_iconst (n := 23) (nI 3) dX12_isHolding_22 (by decide) rfl ?_
  refine w_iadd (n := 24) dX12_isHolding_23 rfl ?_
  refine i_iald (n := 25) pl_105 (j := 89 + 4 * r + 3) (by rw [nI_add]) (by omega) (by decide) kb dX12_isHolding_24 rfl ?_
  refine w_iadd (n := 26) dX12_isHolding_25 rfl ?_
  rw [nI_add]
  refine w_is5 (n := 28) dX12_isHolding_26 rfl rfl (by decide) ?_
  have lab : nI (121 + a) = nI (121 + b) ↔ a = b := by rw [nI_eq (by omega) (by omega)]; omega
  refine w_il4 (n := 30) dX12_isHolding_28 rfl ?_
  refine w_il5 (n := 32) dX12_isHolding_30 rfl ?_
  refine w_ic_ne (n := 35) 39 dX12_isHolding_32 (by decide) rfl (fun z32_h => ?_) (fun z32_h => ?_)
  · skip
    refine w_iconst (n := 40) (nI 0) dX12_isHolding_39 (by decide) rfl ?_
    refine w_is6 (n := 42) dX12_isHolding_40 rfl rfl (by decide) ?_
    first | (have zz := fun e => z32_h (lab.mpr e); rcases hs with hs | hs; (exact absurd hs.1 zz); (obtain ⟨n, hn⟩ := hs.2 (rl_e σ h); exact r_hL hb hr o h6_h hf hq n a [] _ M hn (Nat.zero_le _) dk_fr.rf trivial)) | (have zz := lab.mp z32_h; rcases hs with hs | hs; (rw [hs.2] at hq; subst zz; exact r_hT (hq M dk_fr.rf)); (exact absurd zz (by omega)))
  · skip
    refine w_iconst (n := 36) (nI 1) dX12_isHolding_35 (by decide) rfl ?_
    refine w_goto 40 dX12_isHolding_36 (by decide) ?_
    refine w_is6 (n := 42) dX12_isHolding_40 rfl rfl (by decide) ?_
    first | (have zz := fun e => z32_h (lab.mpr e); rcases hs with hs | hs; (exact absurd hs.1 zz); (obtain ⟨n, hn⟩ := hs.2 (rl_e σ h); exact r_hL hb hr o h6_h hf hq n a [] _ M hn (Nat.zero_le _) dk_fr.rf trivial)) | (have zz := lab.mp z32_h; rcases hs with hs | hs; (rw [hs.2] at hq; subst zz; exact r_hT (hq M dk_fr.rf)); (exact absurd zz (by omega)))

/-- all the rules stand in the reference's row -/
def rl_A (f : Nat → Int32) (kd dg : Nat → Nat) (sm : Nat → (Nat → Nat) → Bool) (nr : Nat) : Prop := nr ≤ 8 ∧ ∀ r, r < nr → kd r ≤ 5 ∧ dg r ≤ 2 ∧ f (89 + 4 * r) = nI (kd r) ∧ f (90 + 4 * r) = nI (dg r) ∧ rl_R f r (sm r)
theorem sg_ub_e {k a : Nat} : sg_ub k a = true ↔ sg_un k a := by
  constructor
  · intro h
    rcases Classical.em (sg_un k a) with z | z
    · exact z
    · rw [sg_ub_n z] at h; cases h
  · exact sg_ub_y

set_option maxRecDepth 20000 in
theorem r_do0 {d : Nat} {M1 : dk_Mem} {Q : Option Value → dk_Mem → Prop} {σ : Nat → Nat} {h r : Int32} {x3_h : Option Value} (h1_h : M1.1 105 6 = nI (σ 6)) (h8_h : σ 6 ≤ 8) (e : r = nI (σ 6)) (hq : Q (some (.int (nI 0))) M1) : dk_W d mX12_does 2 [some (.ref 104), some (.int h), some (.int r), x3_h] [] M1 Q := by
  refine w_il2 (n := 3) dX12_does_2 rfl ?_
  refine w_al0 (n := 4) dX12_does_3 rfl ?_
  refine g_R (n := 7) f_X12_9_12 pl_104 rf_104_0 dX12_does_4 rfl ?_
  refine w_bipush (n := 9) (nI 6) dX12_does_7 (by decide) rfl ?_
  refine i_iald (n := 10) pl_105 (j := 6) rfl (by decide) (by decide) h1_h dX12_does_9 rfl ?_
  rw [e]
  refine w_ic_ge (n := 13) 62 dX12_does_10 (by decide) rfl (fun z10_h => ?_) (fun z10_h => ?_)
  · skip
    refine w_iconst (n := 63) (nI 0) dX12_does_62 (by decide) rfl ?_
    refine w_retI dX12_does_63 rfl ?_
    exact hq
  · skip
    exact absurd (Int32.le_refl _) z10_h

set_option maxRecDepth 20000 in
theorem r_doL {d : Nat} {M : dk_Mem} {Q : Option Value → dk_Mem → Prop} {σ : Nat → Nat} (hr : rr σ M) (o : sg_ok σ) {h : Nat} (h6_h : h < 6) {f : Nat → Int32} (hf : rT f M) {kd dg : Nat → Nat} {sm : Nat → (Nat → Nat) → Bool} (hA : rl_A f kd dg sm (σ 6)) {v : Nat} (hq : ∀ M2, dk_fr (fun q _ => q = 109) M M2 → Q (some (.int (nI v))) M2) : ∀ (m r : Nat) (x3_h : Option Value) (M1 : dk_Mem), r + m = σ 6 → dk_fr (fun q _ => q = 109) M M1 → sg_wf kd dg sm (σ (35 + 5 * h)) (rl_e σ h) m r = v → dk_W (d + 4) mX12_does 2 [some (.ref 104), some (.int (nI h)), some (.int (nI r)), x3_h] [] M1 Q := by
  have n8_h := hA.1
  intro m
  induction m with
  | zero =>
    intro r x3_h M1 hm hg hv
    refine r_do0 (σ := σ) ?_ (by omega) (by rw [show r = σ 6 by omega]) ?_
    · exact (hg.2 105 6 (by decide)).trans (hr 6 (by decide) (by decide) (by decide))
    · rw [sg_wf] at hv
      subst hv
      exact hq M1 hg
  | succ m ih =>
    intro r x3_h M1 hm hg hv
    have a1_h := hA.2 r (by omega)
    have hr1_h : rr σ M1 := hr.f109 hg
    have hf1_h : rT f M1 := fun k p q => (hg.2 105 k (fun z => by cases z)).trans (hf k p q)
    have k5_h := o.kind h6_h
    have e1_h : M1.1 105 (89 + 4 * r) = nI (kd r) := (hf1_h _ (by omega) (by omega)).trans a1_h.2.2.1
    have e2_h : M1.1 105 (89 + 4 * r + 1) = nI (dg r) := by rw [hf1_h _ (by omega) (by omega), show 89 + 4 * r + 1 = 90 + 4 * r by omega]; exact a1_h.2.2.2.1
    rw [sg_wf] at hv
    refine w_il2 (n := 3) dX12_does_2 rfl ?_
    refine w_al0 (n := 4) dX12_does_3 rfl ?_
    refine g_R (n := 7) f_X12_9_12 pl_104 rf_104_0 dX12_does_4 rfl ?_
    refine w_bipush (n := 9) (nI 6) dX12_does_7 (by decide) rfl ?_
    refine i_iald (n := 10) pl_105 (j := 6) rfl (by decide) (by decide) (hr1_h 6 (by decide) (by decide) (by decide)) dX12_does_9 rfl ?_
    refine w_ic_ge (n := 13) 62 dX12_does_10 (by decide) rfl (fun z10_h => ?_) (fun z10_h => ?_)
    · skip
      exfalso
      rw [q_le (by omega) (by omega)] at z10_h
      omega
    · skip
      refine w_bipush (n := 15) (nI 89) dX12_does_13 (by decide) rfl ?_
      refine w_iconst (n := 16) (nI 4) dX12_does_15 (by decide) rfl ?_
      refine w_il2 (n := 17) dX12_does_16 rfl ?_
      refine w_imul (n := 18) dX12_does_17 rfl ?_
      refine w_iadd (n := 19) dX12_does_18 rfl ?_
      rw [pk_mul, nI_add]
      refine w_is3 (n := 20) dX12_does_19 rfl rfl (by decide) ?_
      refine w_al0 (n := 21) dX12_does_20 rfl ?_
      refine w_il1 (n := 22) dX12_does_21 rfl ?_
      refine w_iconst (n := 23) (nI 0) dX12_does_22 (by decide) rfl ?_
      refine w_cV2 (n := 26) pl_104 cl_12 s0_X12_of k_X12_69 (Nat.le_of_ble_eq_true rfl) dX12_does_23 rfl (r_of (h := h) (w := 0) (by omega) (hr1_h.kind h6_h) ?_)
      refine w_al0 (n := 27) dX12_does_26 rfl ?_
      refine g_R (n := 30) f_X12_9_12 pl_104 rf_104_0 dX12_does_27 rfl ?_
      refine w_il3 (n := 31) dX12_does_30 rfl ?_
      refine i_iald (n := 32) pl_105 (j := 89 + 4 * r) rfl (by omega) (by decide) e1_h dX12_does_31 rfl ?_
      refine w_cS2 (n := 35) s0_X12_isUnder k_X12_211 (Nat.le_of_ble_eq_true rfl) dX12_does_32 rfl (r_isUnder k5_h a1_h.1 (fun t32_h => ?_) (fun t32_h => ?_))
      · skip
        refine w_if_eq (n := 38) 56 dX12_does_35 (by decide) rfl (fun h => absurd h (by decide)) (fun _ => ?_)
        refine w_al0 (n := 39) dX12_does_38 rfl ?_
        refine w_il1 (n := 40) dX12_does_39 rfl ?_
        refine w_il3 (n := 41) dX12_does_40 rfl ?_
        refine w_cV2 (n := 44) pl_104 cl_12 s0_X12_isHolding k_X12_214 (Nat.le_of_ble_eq_true rfl) dX12_does_41 rfl (r_isH hr1_h o h6_h hf1_h (r := r) (by omega) a1_h.2.2.2.2 (fun M2 g2_h => ?_))
        refine w_if_eq (n := 47) 56 dX12_does_44 (by decide) rfl (fun z44_h => ?_) (fun z44_h => ?_)
        · skip
          refine w_inc2 (n := 59) (nI 1) dX12_does_56 (by decide) rfl rfl (by decide) ?_
          refine w_goto 2 dX12_does_59 (by decide) ?_
          rw [nI_add]
          first | (have zz := gbI_0 z44_h; rw [if_neg (fun z => by rw [zz] at z; exact absurd z.2 (by decide))] at hv; exact ih (r + 1) _ M2 (by omega) (hg.tr g2_h) hv) | (rw [if_neg (fun z => t32_h (sg_ub_e.mp z.1))] at hv; exact ih (r + 1) _ M1 (by omega) hg hv)
        · skip
          refine w_al0 (n := 48) dX12_does_47 rfl ?_
          refine g_R (n := 51) f_X12_9_12 pl_104 rf_104_0 dX12_does_48 rfl ?_
          refine w_il3 (n := 52) dX12_does_51 rfl ?_
          refine w_iconst (n := 53) (nI 1) dX12_does_52 (by decide) rfl ?_
          refine w_iadd (n := 54) dX12_does_53 rfl ?_
          refine i_iald (n := 55) pl_105 (j := 89 + 4 * r + 1) (by rw [nI_add]) (by omega) (by decide) ((g2_h.2 105 _ (fun z => by cases z)).trans e2_h) dX12_does_54 rfl ?_
          refine w_retI dX12_does_55 rfl ?_
          have zz := gbI_1 z44_h
          rw [if_pos ⟨sg_ub_e.mpr t32_h, zz⟩] at hv
          subst hv
          exact hq M2 (hg.tr g2_h)
      · skip
        refine w_if_eq (n := 38) 56 dX12_does_35 (by decide) rfl (fun _ => ?_) (fun h => absurd (by decide) h)
        refine w_inc2 (n := 59) (nI 1) dX12_does_56 (by decide) rfl rfl (by decide) ?_
        refine w_goto 2 dX12_does_59 (by decide) ?_
        rw [nI_add]
        first | (have zz := gbI_0 z44_h; rw [if_neg (fun z => by rw [zz] at z; exact absurd z.2 (by decide))] at hv; exact ih (r + 1) _ M2 (by omega) (hg.tr g2_h) hv) | (rw [if_neg (fun z => t32_h (sg_ub_e.mp z.1))] at hv; exact ih (r + 1) _ M1 (by omega) hg hv)

set_option maxRecDepth 20000 in
theorem r_doT {d : Nat} {M : dk_Mem} {Q : Option Value → dk_Mem → Prop} {σ : Nat → Nat} (hr : rr σ M) (o : sg_ok σ) {h : Nat} (h6_h : h < 6) {f : Nat → Int32} (hf : rT f M) {kd dg : Nat → Nat} {sm : Nat → (Nat → Nat) → Bool} (hA : rl_A f kd dg sm (σ 6)) (hq : ∀ M2, dk_fr (fun q _ => q = 109) M M2 → Q (some (.int (nI (sg_does (sg_w kd dg sm (σ 6)) σ h)))) M2) : dk_Call (d + 4) mX12_does [.ref 104, .int (nI h)] M Q := by
  refine dk_enter [some (.ref 104), some (.int (nI h)), none, none] (by decide) (fun _ => rfl) (fun _ => Nat.le_of_ble_eq_true rfl) ?_
  refine w_iconst (n := 1) (nI 0) dX12_does_0 (by decide) rfl ?_
  refine w_is2 (n := 2) dX12_does_1 rfl rfl (by decide) ?_
  exact r_doL hr o h6_h hf hA hq (σ 6) 0 _ M (by omega) dk_fr.rf rfl

theorem rl_rb {f : Nat → Int32} {kd dg : Nat → Nat} {sm : Nat → (Nat → Nat) → Bool} {nr : Nat} (hA : rl_A f kd dg sm nr) : rb (sg_w kd dg sm nr) nr f := by
  refine ⟨fun k y l g a n => sg_wf_le nr 0 (fun i hi => (hA.2 i (by omega)).2.1), fun d h σ M1 Q h1_h hr h6_h o hh hq => ?_⟩
  subst h6_h
  exact r_doT hr o hh h1_h hA hq
