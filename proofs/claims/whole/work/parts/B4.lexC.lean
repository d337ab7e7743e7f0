/-! ===== words of the component ===== -/
def sbv (c : Nat) : Int32 := (nI c).toInt8.toInt32
theorem sb_L : ∀ c, c < 256 → ((sbv c < nI 97) ↔ c < 97 ∨ 128 ≤ c) ∧ ((nI 122 < sbv c) ↔ (122 < c ∧ c < 128)) := by decide +kernel
theorem sb_D : ∀ c, c < 256 → ((sbv c < nI 48) ↔ c < 48 ∨ 128 ≤ c) ∧ ((nI 57 < sbv c) ↔ (57 < c ∧ c < 128)) := by decide +kernel
theorem sb_32 : ∀ c, c < 256 → (sbv c = nI 32 ↔ c = 32) := by decide +kernel
theorem sb_n : ∀ c, c < 128 → sbv c = nI c := by decide +kernel
theorem sb_eq : ∀ c, c < 256 → ∀ m, m < 123 → (sbv c = nI m ↔ c = m) := by decide +kernel
def cLT (bt : Nat → Nat) (n : Nat) (M : dk_Mem) : Prop := n ≤ 200 ∧ (∀ i, i < n → M.1 81 i = sbv (bt i)) ∧ ∀ i, bt i ≤ 255
def wm_p : List Nat := [0, 1, 2, 3, 4, 5, 14, 6, 7, 8, 15, 16, 17, 9, 10, 11, 12, 13]
def wm_c : List Nat := [0, 0, 0, 0, 0, 0, 1, 1, 1, 1, 1, 2, 2, 2, 2, 2, 2, 2, 3, 3, 3, 3, 3, 3, 3, 4, 4, 4, 4, 4, 5, 5, 5, 5, 5, 5, 5, 6, 6, 6, 7, 7, 7, 7, 8, 8, 8, 8, 8, 8, 9, 9, 9, 9, 9, 10, 10, 10, 11, 11, 11, 11, 12, 12, 12, 12, 13, 13, 13, 13, 13, 14, 14, 14, 14, 14, 15, 15, 15, 15, 16, 16, 16, 16, 16, 17, 17, 17, 17, 17, 17, 17, 18]
def wm_b : List Nat := [0, 0, 0, 0, 0, 0, 6, 6, 6, 6, 6, 11, 11, 11, 11, 11, 11, 11, 18, 18, 18, 18, 18, 18, 18, 25, 25, 25, 25, 25, 30, 30, 30, 30, 30, 30, 30, 37, 37, 37, 40, 40, 40, 40, 44, 44, 44, 44, 44, 44, 50, 50, 50, 50, 50, 55, 55, 55, 58, 58, 58, 58, 62, 62, 62, 62, 66, 66, 66, 66, 66, 71, 71, 71, 71, 71, 76, 76, 76, 76, 80, 80, 80, 80, 80, 85, 85, 85, 85, 85, 85, 85, 92]
def wm_l : List Nat := [5, 4, 6, 6, 4, 6, 3, 5, 4, 4, 4, 3, 4, 6, 2, 2, 3, 3]
def wm_P (c : Nat) : Nat := wm_p.getD c 0
def wm_C (i : Nat) : Nat := wm_c.getD i 0
def wm_B (i : Nat) : Nat := wm_b.getD i 0
def wm_L (w : Nat) : Nat := wm_l.getD w 0
theorem wm_st : ∀ i, i < 92 → (dk_bytL.getD i 0 = nI 32 ∧ wm_C (i + 1) = wm_C i + 1 ∧ wm_B (i + 1) = i + 1 ∧ wm_C i < 18 ∧ wm_B i ≤ i ∧ i - wm_B i = wm_L (wm_P (wm_C i)) ∧ ∀ k, k < 7 → k < i - wm_B i → dk_bytL.getD (wm_B i + k) 0 = nI (lx_N (7 * wm_P (wm_C i) + k))) ∨ (dk_bytL.getD i 0 ≠ nI 32 ∧ wm_C (i + 1) = wm_C i ∧ wm_B (i + 1) = wm_B i) := by decide +kernel
theorem wm_bd : ∀ i, i < 93 → wm_C i ≤ 18 ∧ wm_B i ≤ 92 := by decide +kernel
theorem wm_P_18 : ∀ c, c < 18 → wm_P c < 18 := by decide +kernel
theorem wm_all : ∀ w, w < 18 → ∃ c, c < 18 ∧ wm_P c = w := by decide +kernel
theorem wm_L_6 : ∀ w, w < 18 → wm_L w ≤ 6 ∧ 1 ≤ wm_L w ∧ lx_N (7 * w + 6) = 0 := by decide +kernel
theorem wm_N0 : ∀ w, w < 18 → ∀ k, k < 7 → (lx_N (7 * w + k) = 0 ↔ wm_L w ≤ k) := by decide +kernel
theorem wm_uni : ∀ w, w < 18 → ∀ v, v < 18 → wm_L w = wm_L v → (∀ k, k < 7 → k < wm_L w → lx_N (7 * w + k) = lx_N (7 * v + k)) → w = v := by decide +kernel
theorem lx_q_e {bt : Nat → Nat} {w b : Nat} : ∀ s, lx_q bt w b s = true ↔ ∀ k, k < s → lx_N (7 * w + k) = bt (b + k)
  | 0 => ⟨fun _ k hk => by omega, fun _ => rfl⟩
  | s + 1 => by
    rw [lx_q, Bool.and_eq_true, lx_q_e s, decide_eq_true_iff]
    constructor
    · rintro ⟨a, c⟩ k hk
      rcases (show k < s ∨ k = s by omega) with e | e
      · exact a k e
      · rw [e]; exact c
    · intro a
      exact ⟨fun k hk => a k (by omega), a s (by omega)⟩
theorem lx_m_e {bt : Nat → Nat} {w b s : Nat} (hw : w < 18) (hl : ∀ k, k < s → lx_L (bt (b + k)) = true) : lx_m bt w b s = true ↔ (s = wm_L w ∧ ∀ k, k < s → lx_N (7 * w + k) = bt (b + k)) := by
  unfold lx_m
  rw [Bool.and_eq_true, decide_eq_true_iff, lx_q_e]
  have l6_h := wm_L_6 w hw
  constructor
  · rintro ⟨⟨h7_h, h0_h⟩, hq⟩
    refine ⟨?_, hq⟩
    have hle : ∀ k, k < s → k < wm_L w := fun k hk => by
      have h1_h := hq k hk
      have h2_h := lx_isL.mp (hl k hk)
      by_cases hk7_h : k < 7
      · have := (wm_N0 w hw k hk7_h)
        omega
      · omega
    by_cases hs : s = 7
    · have := hle 6 (by omega)
      omega
    · have h1_h : lx_N (7 * w + s) = 0 := by omega
      have h2_h := (wm_N0 w hw s (by omega)).mp h1_h
      by_cases hs0_h : s = 0
      · omega
      · have := hle (s - 1) (by omega)
        omega
  · rintro ⟨h1_h, hq⟩
    exact ⟨⟨by omega, Or.inr ((wm_N0 w hw s (by omega)).mpr (by omega))⟩, hq⟩
theorem lx_ws_at {bt : Nat → Nat} {b s w0_h : Nat} (h0_h : lx_m bt w0_h b s = true) (hu : ∀ w, w < 18 → lx_m bt w b s = true → w = w0_h) : ∀ m w, w + m = 18 → w ≤ w0_h → w0_h < 18 → lx_ws bt b s m w = w0_h
  | 0, w, h1_h, h2_h, h3_h => by omega
  | m + 1, w, h1_h, h2_h, h3_h => by
    rw [lx_ws]
    by_cases e : lx_m bt w b s = true
    · rw [if_pos e]; exact hu w (by omega) e
    · rw [if_neg e]
      have hne : w ≠ w0_h := fun z => e (by rw [z]; exact h0_h)
      exact lx_ws_at h0_h hu m (w + 1) (by omega) (by omega) h3_h
theorem lx_ws_no {bt : Nat → Nat} {b s : Nat} (hu : ∀ w, w < 18 → ¬ lx_m bt w b s = true) : ∀ m w, w + m = 18 → lx_ws bt b s m w = 26
  | 0, w, _ => rfl
  | m + 1, w, h => by rw [lx_ws, if_neg (hu w (by omega))]; exact lx_ws_no hu m (w + 1) (by omega)
def ct (k v : Nat) : Nat := if k ≤ 5 then k else if k ≤ 8 then k + 1 else if k ≤ 13 then k + 4 else if k = 14 then 6 else if k = 15 then 10 else if k = 16 then 11 else if k = 17 then 12 else if k = 20 then 100 + v else if k = 21 then v - 40 else if k = 22 then 23 else if k = 23 then 24 else if k = 24 then 25 else if k = 25 then 27 else 26
theorem ct_w : ∀ c, c < 18 → ct (wm_P c) 0 = c := by decide +kernel

set_option maxRecDepth 20000 in
theorem c8_isLetter {d : Nat} {M : dk_Mem} {Q : Option Value → dk_Mem → Prop} {c : Nat} (hc : c < 256) (h1_h : lx_L c = true → Q (some (.int 1)) M) (h0_h : ¬ lx_L c = true → Q (some (.int 0)) M) : dk_Call d mX8_isLetter [.int (sbv c)] M Q := by
  have q := sb_L c hc
  refine dk_enter [some (.int (sbv c))] (by decide) (fun _ => rfl) (fun _ => Nat.le_of_ble_eq_true rfl) ?_
  refine w_il0 (n := 1) dX8_isLetter_0 rfl ?_
  refine w_bipush (n := 3) (nI 97) dX8_isLetter_1 (by decide) rfl ?_
  refine w_ic_lt (n := 6) 16 dX8_isLetter_3 (by decide) rfl (fun z3_h => ?_) (fun z3_h => ?_)
  · skip
    refine w_iconst (n := 17) (nI 0) dX8_isLetter_16 (by decide) rfl ?_
    refine w_retZ0 dX8_isLetter_17 rfl ?_
    first | (rw [q.1] at z3_h; exact h0_h (fun z => by have := lx_isL.mp z; omega)) | (rw [q.1] at z3_h; rw [q.2] at z9_h; exact h0_h (fun z => by have := lx_isL.mp z; omega))
  · skip
    refine w_il0 (n := 7) dX8_isLetter_6 rfl ?_
    refine w_bipush (n := 9) (nI 122) dX8_isLetter_7 (by decide) rfl ?_
    refine w_ic_gt (n := 12) 16 dX8_isLetter_9 (by decide) rfl (fun z9_h => ?_) (fun z9_h => ?_)
    · skip
      refine w_iconst (n := 17) (nI 0) dX8_isLetter_16 (by decide) rfl ?_
      refine w_retZ0 dX8_isLetter_17 rfl ?_
      first | (rw [q.1] at z3_h; exact h0_h (fun z => by have := lx_isL.mp z; omega)) | (rw [q.1] at z3_h; rw [q.2] at z9_h; exact h0_h (fun z => by have := lx_isL.mp z; omega))
    · skip
      refine w_iconst (n := 13) (nI 1) dX8_isLetter_12 (by decide) rfl ?_
      refine w_goto 17 dX8_isLetter_13 (by decide) ?_
      refine w_retZ1 dX8_isLetter_17 rfl ?_
      rw [q.1] at z3_h
      rw [q.2] at z9_h
      exact h1_h (lx_isL.mpr (by omega))

set_option maxRecDepth 20000 in
theorem c8_isDigit {d : Nat} {M : dk_Mem} {Q : Option Value → dk_Mem → Prop} {c : Nat} (hc : c < 256) (h1_h : lx_D c = true → Q (some (.int 1)) M) (h0_h : ¬ lx_D c = true → Q (some (.int 0)) M) : dk_Call d mX8_isDigit [.int (sbv c)] M Q := by
  have q := sb_D c hc
  refine dk_enter [some (.int (sbv c))] (by decide) (fun _ => rfl) (fun _ => Nat.le_of_ble_eq_true rfl) ?_
  refine w_il0 (n := 1) dX8_isDigit_0 rfl ?_
  refine w_bipush (n := 3) (nI 48) dX8_isDigit_1 (by decide) rfl ?_
  refine w_ic_lt (n := 6) 16 dX8_isDigit_3 (by decide) rfl (fun z3_h => ?_) (fun z3_h => ?_)
  · skip
    refine w_iconst (n := 17) (nI 0) dX8_isDigit_16 (by decide) rfl ?_
    refine w_retZ0 dX8_isDigit_17 rfl ?_
    first | (rw [q.1] at z3_h; exact h0_h (fun z => by have := lx_isD.mp z; omega)) | (rw [q.1] at z3_h; rw [q.2] at z9_h; exact h0_h (fun z => by have := lx_isD.mp z; omega))
  · skip
    refine w_il0 (n := 7) dX8_isDigit_6 rfl ?_
    refine w_bipush (n := 9) (nI 57) dX8_isDigit_7 (by decide) rfl ?_
    refine w_ic_gt (n := 12) 16 dX8_isDigit_9 (by decide) rfl (fun z9_h => ?_) (fun z9_h => ?_)
    · skip
      refine w_iconst (n := 17) (nI 0) dX8_isDigit_16 (by decide) rfl ?_
      refine w_retZ0 dX8_isDigit_17 rfl ?_
      first | (rw [q.1] at z3_h; exact h0_h (fun z => by have := lx_isD.mp z; omega)) | (rw [q.1] at z3_h; rw [q.2] at z9_h; exact h0_h (fun z => by have := lx_isD.mp z; omega))
    · skip
      refine w_iconst (n := 13) (nI 1) dX8_isDigit_12 (by decide) rfl ?_
      refine w_goto 17 dX8_isDigit_13 (by decide) ?_
      refine w_retZ1 dX8_isDigit_17 rfl ?_
      rw [q.1] at z3_h
      rw [q.2] at z9_h
      exact h1_h (lx_isD.mpr (by omega))

set_option maxRecDepth 20000 in
theorem c8_eoW {d : Nat} {M : dk_Mem} {Q : Option Value → dk_Mem → Prop} {bt : Nat → Nat} {n : Nat} (hL : cLT bt n M) {p : Nat} (hp : p ≤ 200) (hq : Q (some (.int (nI (lx_e lx_L bt n (p + 1))))) M) : ∀ (m q : Nat), q ≤ n → n - q < m → lx_e lx_L bt n q = lx_e lx_L bt n (p + 1) → dk_W (d + 1) mX8_endOf 13 [some (.ref 81), some (.int (nI p)), some (.int (nI n)), some (.int (nI q))] [] M Q := by
  have n2_h := hL.1
  intro m
  induction m with
  | zero => intro q _ h; omega
  | succ m ih =>
    intro q hqn hm he
    have b5_h := hL.2.2 q
    refine w_il3 (n := 14) dX8_endOf_13 rfl ?_
    refine w_il2 (n := 15) dX8_endOf_14 rfl ?_
    refine w_ic_ge (n := 18) 62 dX8_endOf_15 (by decide) rfl (fun z15_h => ?_) (fun z15_h => ?_)
    · skip
      refine w_il3 (n := 63) dX8_endOf_62 rfl ?_
      refine w_retI dX8_endOf_63 rfl ?_
      rw [← he] at hq
      first | (rw [lx_e_n (fun z => t21_h z.2)] at hq; exact hq) | (rw [q_le (by omega) (by omega)] at z15_h; rw [lx_e_n (fun z => by omega)] at hq; exact hq)
    · skip
      have hlt : q < n := by rw [q_le (by omega) (by omega)] at z15_h; omega
      refine w_al0 (n := 19) dX8_endOf_18 rfl ?_
      refine w_il3 (n := 20) dX8_endOf_19 rfl ?_
      refine i_bald (n := 21) pl_81 (j := q) rfl (by omega) (by decide) (hL.2.1 q hlt) dX8_endOf_20 rfl ?_
      refine w_cS1 (n := 24) s0_X8_isLetter k_X8_68 (Nat.le_of_ble_eq_true rfl) dX8_endOf_21 rfl (c8_isLetter (c := bt q) (by omega) (fun t21_h => ?_) (fun t21_h => ?_))
      · skip
        refine w_if_eq (n := 27) 62 dX8_endOf_24 (by decide) rfl (fun h => absurd h (by decide)) (fun _ => ?_)
        refine w_inc3 (n := 30) (nI 1) dX8_endOf_27 (by decide) rfl rfl (by decide) ?_
        refine w_goto 13 dX8_endOf_30 (by decide) ?_
        rw [nI_add]
        refine ih (q + 1) (by omega) (by omega) ?_
        rw [← he]
        exact (lx_e_y hlt t21_h).symm
      · skip
        refine w_if_eq (n := 27) 62 dX8_endOf_24 (by decide) rfl (fun _ => ?_) (fun h => absurd (by decide) h)
        refine w_il3 (n := 63) dX8_endOf_62 rfl ?_
        refine w_retI dX8_endOf_63 rfl ?_
        rw [← he] at hq
        first | (rw [lx_e_n (fun z => t21_h z.2)] at hq; exact hq) | (rw [q_le (by omega) (by omega)] at z15_h; rw [lx_e_n (fun z => by omega)] at hq; exact hq)

set_option maxRecDepth 20000 in
theorem c8_eoD {d : Nat} {M : dk_Mem} {Q : Option Value → dk_Mem → Prop} {bt : Nat → Nat} {n : Nat} (hL : cLT bt n M) {p : Nat} (hp : p ≤ 200) (hq : Q (some (.int (nI (lx_e lx_D bt n (p + 1))))) M) : ∀ (m q : Nat), q ≤ n → n - q < m → lx_e lx_D bt n q = lx_e lx_D bt n (p + 1) → dk_W (d + 1) mX8_endOf 42 [some (.ref 81), some (.int (nI p)), some (.int (nI n)), some (.int (nI q))] [] M Q := by
  have n2_h := hL.1
  intro m
  induction m with
  | zero => intro q _ h; omega
  | succ m ih =>
    intro q hqn hm he
    have b5_h := hL.2.2 q
    refine w_il3 (n := 43) dX8_endOf_42 rfl ?_
    refine w_il2 (n := 44) dX8_endOf_43 rfl ?_
    refine w_ic_ge (n := 47) 62 dX8_endOf_44 (by decide) rfl (fun z44_h => ?_) (fun z44_h => ?_)
    · skip
      refine w_il3 (n := 63) dX8_endOf_62 rfl ?_
      refine w_retI dX8_endOf_63 rfl ?_
      rw [← he] at hq
      first | (rw [lx_e_n (fun z => t50_h z.2)] at hq; exact hq) | (rw [q_le (by omega) (by omega)] at z44_h; rw [lx_e_n (fun z => by omega)] at hq; exact hq)
    · skip
      have hlt : q < n := by rw [q_le (by omega) (by omega)] at z44_h; omega
      refine w_al0 (n := 48) dX8_endOf_47 rfl ?_
      refine w_il3 (n := 49) dX8_endOf_48 rfl ?_
      refine i_bald (n := 50) pl_81 (j := q) rfl (by omega) (by decide) (hL.2.1 q hlt) dX8_endOf_49 rfl ?_
      refine w_cS1 (n := 53) s0_X8_isDigit k_X8_72 (Nat.le_of_ble_eq_true rfl) dX8_endOf_50 rfl (c8_isDigit (c := bt q) (by omega) (fun t50_h => ?_) (fun t50_h => ?_))
      · skip
        refine w_if_eq (n := 56) 62 dX8_endOf_53 (by decide) rfl (fun h => absurd h (by decide)) (fun _ => ?_)
        refine w_inc3 (n := 59) (nI 1) dX8_endOf_56 (by decide) rfl rfl (by decide) ?_
        refine w_goto 42 dX8_endOf_59 (by decide) ?_
        rw [nI_add]
        refine ih (q + 1) (by omega) (by omega) ?_
        rw [← he]
        exact (lx_e_y hlt t50_h).symm
      · skip
        refine w_if_eq (n := 56) 62 dX8_endOf_53 (by decide) rfl (fun _ => ?_) (fun h => absurd (by decide) h)
        refine w_il3 (n := 63) dX8_endOf_62 rfl ?_
        refine w_retI dX8_endOf_63 rfl ?_
        rw [← he] at hq
        first | (rw [lx_e_n (fun z => t50_h z.2)] at hq; exact hq) | (rw [q_le (by omega) (by omega)] at z44_h; rw [lx_e_n (fun z => by omega)] at hq; exact hq)

set_option maxRecDepth 20000 in
theorem c8_endOf {d : Nat} {M : dk_Mem} {Q : Option Value → dk_Mem → Prop} {bt : Nat → Nat} {n : Nat} (hL : cLT bt n M) {p : Nat} (hp : p < n) (hq : Q (some (.int (nI (lx_n0 bt n p)))) M) : dk_Call (d + 1) mX8_endOf [.ref 81, .int (nI p), .int (nI n)] M Q := by
  have n2_h := hL.1
  have b5_h := hL.2.2 p
  unfold lx_n0 at hq
  rw [if_pos hp] at hq
  refine dk_enter [some (.ref 81), some (.int (nI p)), some (.int (nI n)), none] (by decide) (fun _ => rfl) (fun _ => Nat.le_of_ble_eq_true rfl) ?_
  refine w_il1 (n := 1) dX8_endOf_0 rfl ?_
  refine w_iconst (n := 2) (nI 1) dX8_endOf_1 (by decide) rfl ?_
  refine w_iadd (n := 3) dX8_endOf_2 rfl ?_
  rw [nI_add]
  refine w_is3 (n := 4) dX8_endOf_3 rfl rfl (by decide) ?_
  refine w_al0 (n := 5) dX8_endOf_4 rfl ?_
  refine w_il1 (n := 6) dX8_endOf_5 rfl ?_
  refine i_bald (n := 7) pl_81 (j := p) rfl (by omega) (by decide) (hL.2.1 p hp) dX8_endOf_6 rfl ?_
  refine w_cS1 (n := 10) s0_X8_isLetter k_X8_68 (Nat.le_of_ble_eq_true rfl) dX8_endOf_7 rfl (c8_isLetter (c := bt p) (by omega) (fun t7_h => ?_) (fun t7_h => ?_))
  · skip
    refine w_if_eq (n := 13) 33 dX8_endOf_10 (by decide) rfl (fun h => absurd h (by decide)) (fun _ => ?_)
    rw [if_pos t7_h, lx_e_y hp t7_h] at hq
    exact c8_eoW hL (by omega) hq (n + 1) (p + 1) (by omega) (by omega) rfl
  · skip
    refine w_if_eq (n := 13) 33 dX8_endOf_10 (by decide) rfl (fun _ => ?_) (fun h => absurd (by decide) h)
    refine w_al0 (n := 34) dX8_endOf_33 rfl ?_
    refine w_il1 (n := 35) dX8_endOf_34 rfl ?_
    refine i_bald (n := 36) pl_81 (j := p) rfl (by omega) (by decide) (hL.2.1 p hp) dX8_endOf_35 rfl ?_
    refine w_cS1 (n := 39) s0_X8_isDigit k_X8_72 (Nat.le_of_ble_eq_true rfl) dX8_endOf_36 rfl (c8_isDigit (c := bt p) (by omega) (fun t36_h => ?_) (fun t36_h => ?_))
    · skip
      refine w_if_eq (n := 42) 62 dX8_endOf_39 (by decide) rfl (fun h => absurd h (by decide)) (fun _ => ?_)
      rw [if_neg t7_h, if_pos t36_h, lx_e_y hp t36_h] at hq
      exact c8_eoD hL (by omega) hq (n + 1) (p + 1) (by omega) (by omega) rfl
    · skip
      refine w_if_eq (n := 42) 62 dX8_endOf_39 (by decide) rfl (fun _ => ?_) (fun h => absurd (by decide) h)
      refine w_il3 (n := 63) dX8_endOf_62 rfl ?_
      refine w_retI dX8_endOf_63 rfl ?_
      rw [if_neg t7_h, if_neg t36_h] at hq
      exact hq

set_option maxRecDepth 20000 in
theorem c8_spL {d : Nat} {M : dk_Mem} {Q : Option Value → dk_Mem → Prop} {bt : Nat → Nat} {n : Nat} (hL : cLT bt n M) {b g e w : Nat} (hge : g ≤ e) (he : e ≤ 92) (e7_h : e - g < 7) (hw : w < 18) (hbn : b + (e - g) ≤ n) (hby : ∀ k, k < 7 → k < e - g → dk_bytL.getD (g + k) 0 = nI (lx_N (7 * w + k))) (hq : Q (some (.int (gbI (lx_q bt w b (e - g))))) M) : ∀ (m k : Nat), g + k ≤ e → e - (g + k) < m → lx_q bt w b k = true → dk_W (d + 4) mX8_spells 3 [some (.ref 81), some (.int (nI b)), some (.int (nI g)), some (.int (nI e)), some (.int (nI (g + k)))] [] M Q := by
  have n2_h := hL.1
  have qf : ∀ k j, lx_q bt w b k = false → lx_q bt w b (k + j) = false := fun k j h => by
    induction j with
    | zero => exact h
    | succ j ih => show (lx_q bt w b (k + j) && _) = false; rw [ih]; rfl
  intro m
  induction m with
  | zero => intro k _ h; omega
  | succ m ih =>
    intro k hk hm hv
    have b5_h := hL.2.2 (b + k)
    refine w_il4 (n := 5) dX8_spells_3 rfl ?_
    refine w_il3 (n := 6) dX8_spells_5 rfl ?_
    refine w_ic_ge (n := 9) 35 dX8_spells_6 (by decide) rfl (fun z6_h => ?_) (fun z6_h => ?_)
    · skip
      refine w_iconst (n := 36) (nI 1) dX8_spells_35 (by decide) rfl ?_
      refine w_retZ1 dX8_spells_36 rfl ?_
      rw [q_le (by omega) (by omega)] at z6_h
      rw [show k = e - g by omega] at hv
      rw [hv] at hq
      exact hq
    · skip
      have hlt : g + k < e := by rw [q_le (by omega) (by omega)] at z6_h; omega
      have nl := lx_N_le (7 * w + k) (by omega)
      have qe := sb_eq (bt (b + k)) (by omega) _ nl
      have ek : dk_bytL.getD (g + k) 0 = nI (lx_N (7 * w + k)) := hby k (by omega) (by omega)
      have nv : lx_q bt w b (k + 1) = decide (lx_N (7 * w + k) = bt (b + k)) := by
        show (lx_q bt w b k && _) = _
        rw [hv]
        rfl
      refine w_al0 (n := 10) dX8_spells_9 rfl ?_
      refine w_il1 (n := 11) dX8_spells_10 rfl ?_
      refine w_il4 (n := 13) dX8_spells_11 rfl ?_
      refine w_iadd (n := 14) dX8_spells_13 rfl ?_
      refine w_il2 (n := 15) dX8_spells_14 rfl ?_
      refine w_isub (n := 16) dX8_spells_15 rfl ?_
      refine i_bald (n := 17) pl_81 (j := b + k) (by rw [nI_add, pk_sub (by omega), show b + (g + k) - g = b + k by omega]) (by omega) (by decide) (hL.2.1 _ (by omega)) dX8_spells_16 rfl ?_
      refine w_ldcS (n := 19) dX8_spells_17 rfl ?_
      refine w_il4 (n := 21) dX8_spells_19 rfl ?_
      refine w_cT1 (n := 24) s0_J0_charAt_5068e k_X8_89 (Nat.le_of_ble_eq_true rfl) dX8_spells_21 rfl (j_charAt (j := g + k) (by omega) ?_)
      rw [ek]
      refine w_ic_eq (n := 27) 29 dX8_spells_24 (by decide) rfl (fun z24_h => ?_) (fun z24_h => ?_)
      · skip
        refine w_inc4 (n := 32) (nI 1) dX8_spells_29 (by decide) rfl rfl (by decide) ?_
        refine w_goto 3 dX8_spells_32 (by decide) ?_
        rw [nI_add, show g + k + 1 = g + (k + 1) by omega]
        exact ih (k + 1) (by omega) (by omega) (by rw [nv, decide_eq_true (qe.mp z24_h).symm])
      · skip
        refine w_iconst (n := 28) (nI 0) dX8_spells_27 (by decide) rfl ?_
        refine w_retZ0 dX8_spells_28 rfl ?_
        have e2_h : lx_q bt w b (k + 1) = false := by rw [nv, decide_eq_false (fun z => z24_h (qe.mpr z.symm))]
        have e3_h := qf (k + 1) (e - g - (k + 1)) e2_h
        rw [show k + 1 + (e - g - (k + 1)) = e - g by omega] at e3_h
        rw [e3_h] at hq
        exact hq

set_option maxRecDepth 20000 in
theorem c8_spells {d : Nat} {M : dk_Mem} {Q : Option Value → dk_Mem → Prop} {bt : Nat → Nat} {n : Nat} (hL : cLT bt n M) {b g e w : Nat} (hge : g ≤ e) (he : e ≤ 92) (e7_h : e - g < 7) (hw : w < 18) (hbn : b + (e - g) ≤ n) (hby : ∀ k, k < 7 → k < e - g → dk_bytL.getD (g + k) 0 = nI (lx_N (7 * w + k))) (hq : Q (some (.int (gbI (lx_q bt w b (e - g))))) M) : dk_Call (d + 4) mX8_spells [.ref 81, .int (nI b), .int (nI g), .int (nI e)] M Q := by
  refine dk_enter [some (.ref 81), some (.int (nI b)), some (.int (nI g)), some (.int (nI e)), none] (by decide) (fun _ => rfl) (fun _ => Nat.le_of_ble_eq_true rfl) ?_
  refine w_il2 (n := 1) dX8_spells_0 rfl ?_
  refine w_is4 (n := 3) dX8_spells_1 rfl rfl (by decide) ?_
  exact c8_spL hL hge he e7_h hw hbn hby hq (e + 1) 0 (by omega) (by omega) rfl

set_option maxRecDepth 20000 in
theorem c8_woL {d : Nat} {M : dk_Mem} {Q : Option Value → dk_Mem → Prop} {bt : Nat → Nat} {n : Nat} (hL : cLT bt n M) {b e : Nat} (hbe : b ≤ e) (hen : e ≤ n) (hl : ∀ k, k < e - b → lx_L (bt (b + k)) = true) (hq : Q (some (.int (nI (ct (lx_w bt b (e - b)) 0)))) M) : ∀ (m i : Nat), i ≤ 92 → 92 - i < m → (∀ c, c < wm_C i → ¬ lx_m bt (wm_P c) b (e - b) = true) → dk_W (d + 5) mX8_wordOf 8 [some (.ref 81), some (.int (nI b)), some (.int (nI e)), some (.int (nI (wm_C i))), some (.int (nI (wm_B i))), some (.int (nI i))] [] M Q := by
  have n2_h := hL.1
  intro m
  induction m with
  | zero => intro i _ h; omega
  | succ m ih =>
    intro i hi hm hno
    have bd := wm_bd i (by omega)
    refine w_il5 (n := 10) dX8_wordOf_8 rfl ?_
    refine w_ldcS (n := 12) dX8_wordOf_10 rfl ?_
    refine w_cT0 (n := 15) s0_J0_length_8abf5 k_X8_83 (Nat.le_of_ble_eq_true rfl) dX8_wordOf_12 rfl (j_length ?_)
    refine w_ic_ge (n := 18) 73 dX8_wordOf_15 (by decide) rfl (fun z15_h => ?_) (fun z15_h => ?_)
    · skip
      refine w_bipush (n := 75) (nI 26) dX8_wordOf_73 (by decide) rfl ?_
      refine w_retI dX8_wordOf_75 rfl ?_
      rw [q_le (by decide) (by omega)] at z15_h
      have e92_h : i = 92 := by omega
      subst e92_h
      have ew : lx_w bt b (e - b) = 26 := lx_ws_no (fun w hw h => by obtain ⟨c, hc, ec⟩ := wm_all w hw; exact hno c (by show c < 18; exact hc) (by rw [ec]; exact h)) 18 0 rfl
      rw [ew] at hq
      exact hq
    · skip
      refine w_ldcS (n := 20) dX8_wordOf_18 rfl ?_
      refine w_il5 (n := 22) dX8_wordOf_20 rfl ?_
      have hi92_h : i < 92 := by rw [q_le (by decide) (by omega)] at z15_h; omega
      refine w_cT1 (n := 25) s0_J0_charAt_5068e k_X8_89 (Nat.le_of_ble_eq_true rfl) dX8_wordOf_22 rfl (j_charAt (j := i) hi92_h ?_)
      have st := wm_st i hi92_h
      refine w_bipush (n := 27) (nI 32) dX8_wordOf_25 (by decide) rfl ?_
      refine w_ic_eq (n := 30) 33 dX8_wordOf_27 (by decide) rfl (fun z27_h => ?_) (fun z27_h => ?_)
      · skip
        have st1_h := st.resolve_right (fun z => z.1 z27_h)
        refine w_il5 (n := 35) dX8_wordOf_33 rfl ?_
        refine w_il4 (n := 37) dX8_wordOf_35 rfl ?_
        refine w_isub (n := 38) dX8_wordOf_37 rfl ?_
        rw [pk_sub st1_h.2.2.2.2.1]
        refine w_il2 (n := 39) dX8_wordOf_38 rfl ?_
        refine w_il1 (n := 40) dX8_wordOf_39 rfl ?_
        refine w_isub (n := 41) dX8_wordOf_40 rfl ?_
        rw [pk_sub hbe]
        refine w_ic_ne (n := 44) 58 dX8_wordOf_41 (by decide) rfl (fun z41_h => ?_) (fun z41_h => ?_)
        · skip
          have nm : ¬ lx_m bt (wm_P (wm_C i)) b (e - b) = true := fun z => by
            have w18_h := wm_P_18 _ st1_h.2.2.2.1
            have z2_h := (lx_m_e w18_h hl).mp z
            first | (rw [nI_eq (by omega) (by omega)] at z41_h; exact z41_h (by rw [st1_h.2.2.2.2.2.1]; exact z2_h.1.symm)) | (have z3_h := gbI_0 z53_h; rw [szb, (lx_q_e _).mpr z2_h.2] at z3_h; cases z3_h)
          refine w_il5 (n := 60) dX8_wordOf_58 rfl ?_
          refine w_iconst (n := 61) (nI 1) dX8_wordOf_60 (by decide) rfl ?_
          refine w_iadd (n := 62) dX8_wordOf_61 rfl ?_
          refine w_is4 (n := 64) dX8_wordOf_62 rfl rfl (by decide) ?_
          refine w_inc3 (n := 67) (nI 1) dX8_wordOf_64 (by decide) rfl rfl (by decide) ?_
          refine w_inc5 (n := 70) (nI 1) dX8_wordOf_67 (by decide) rfl rfl (by decide) ?_
          refine w_goto 8 dX8_wordOf_70 (by decide) ?_
          first | (have st2_h := st.resolve_left (fun z => z27_h z.1); rw [nI_add, ← st2_h.2.1, ← st2_h.2.2]; exact ih (i + 1) (by omega) (by omega) (fun c hc => hno c (by rw [st2_h.2.1] at hc; exact hc))) | (rw [nI_add, nI_add, ← st1_h.2.1]; have g := ih (i + 1) (by omega) (by omega) (fun c hc => by rw [st1_h.2.1] at hc; rcases (show c < wm_C i ∨ c = wm_C i by omega) with e9_h | e9_h; exact hno c e9_h; (rw [e9_h]; exact nm)); rw [st1_h.2.2.1] at g; exact g)
        · skip
          refine w_al0 (n := 45) dX8_wordOf_44 rfl ?_
          refine w_il1 (n := 46) dX8_wordOf_45 rfl ?_
          refine w_il4 (n := 48) dX8_wordOf_46 rfl ?_
          refine w_il5 (n := 50) dX8_wordOf_48 rfl ?_
          have st1_h := st.resolve_right (fun z => z.1 z27_h)
          have w18_h := wm_P_18 _ st1_h.2.2.2.1
          have l6_h := wm_L_6 _ w18_h
          have szb : i - wm_B i = e - b := (nI_eq (by omega) (by omega)).mp z41_h
          refine w_cS4 (n := 53) s0_X8_spells k_X8_93 (Nat.le_of_ble_eq_true rfl) dX8_wordOf_50 rfl (c8_spells (w := wm_P (wm_C i)) hL st1_h.2.2.2.2.1 (by omega) (by omega) w18_h (by omega) st1_h.2.2.2.2.2.2 ?_)
          refine w_if_eq (n := 56) 58 dX8_wordOf_53 (by decide) rfl (fun z53_h => ?_) (fun z53_h => ?_)
          · skip
            have nm : ¬ lx_m bt (wm_P (wm_C i)) b (e - b) = true := fun z => by
              have w18_h := wm_P_18 _ st1_h.2.2.2.1
              have z2_h := (lx_m_e w18_h hl).mp z
              first | (rw [nI_eq (by omega) (by omega)] at z41_h; exact z41_h (by rw [st1_h.2.2.2.2.2.1]; exact z2_h.1.symm)) | (have z3_h := gbI_0 z53_h; rw [szb, (lx_q_e _).mpr z2_h.2] at z3_h; cases z3_h)
            refine w_il5 (n := 60) dX8_wordOf_58 rfl ?_
            refine w_iconst (n := 61) (nI 1) dX8_wordOf_60 (by decide) rfl ?_
            refine w_iadd (n := 62) dX8_wordOf_61 rfl ?_
            refine w_is4 (n := 64) dX8_wordOf_62 rfl rfl (by decide) ?_
            refine w_inc3 (n := 67) (nI 1) dX8_wordOf_64 (by decide) rfl rfl (by decide) ?_
            refine w_inc5 (n := 70) (nI 1) dX8_wordOf_67 (by decide) rfl rfl (by decide) ?_
            refine w_goto 8 dX8_wordOf_70 (by decide) ?_
            first | (have st2_h := st.resolve_left (fun z => z27_h z.1); rw [nI_add, ← st2_h.2.1, ← st2_h.2.2]; exact ih (i + 1) (by omega) (by omega) (fun c hc => hno c (by rw [st2_h.2.1] at hc; exact hc))) | (rw [nI_add, nI_add, ← st1_h.2.1]; have g := ih (i + 1) (by omega) (by omega) (fun c hc => by rw [st1_h.2.1] at hc; rcases (show c < wm_C i ∨ c = wm_C i by omega) with e9_h | e9_h; exact hno c e9_h; (rw [e9_h]; exact nm)); rw [st1_h.2.2.1] at g; exact g)
          · skip
            refine w_il3 (n := 57) dX8_wordOf_56 rfl ?_
            refine w_retI dX8_wordOf_57 rfl ?_
            have z3_h := gbI_1 z53_h
            rw [szb] at z3_h
            have w18b := wm_P_18 _ st1_h.2.2.2.1
            have hm9_h : lx_m bt (wm_P (wm_C i)) b (e - b) = true := (lx_m_e w18b hl).mpr ⟨by rw [← szb]; exact st1_h.2.2.2.2.2.1, (lx_q_e _).mp z3_h⟩
            have ew : lx_w bt b (e - b) = wm_P (wm_C i) := lx_ws_at hm9_h (fun w hw h => by
              have a1_h := (lx_m_e hw hl).mp h
              have a2_h := (lx_m_e w18b hl).mp hm9_h
              exact wm_uni w hw _ w18b (by rw [← a1_h.1, ← a2_h.1]) (fun k _ hk => by rw [a1_h.2 k (by rw [a1_h.1]; exact hk), a2_h.2 k (by rw [a1_h.1]; exact hk)])) 18 0 rfl (Nat.zero_le _) w18b
            rw [ew, ct_w _ st1_h.2.2.2.1] at hq
            exact hq
      · skip
        refine w_goto 67 dX8_wordOf_30 (by decide) ?_
        refine w_inc5 (n := 70) (nI 1) dX8_wordOf_67 (by decide) rfl rfl (by decide) ?_
        refine w_goto 8 dX8_wordOf_70 (by decide) ?_
        first | (have st2_h := st.resolve_left (fun z => z27_h z.1); rw [nI_add, ← st2_h.2.1, ← st2_h.2.2]; exact ih (i + 1) (by omega) (by omega) (fun c hc => hno c (by rw [st2_h.2.1] at hc; exact hc))) | (rw [nI_add, nI_add, ← st1_h.2.1]; have g := ih (i + 1) (by omega) (by omega) (fun c hc => by rw [st1_h.2.1] at hc; rcases (show c < wm_C i ∨ c = wm_C i by omega) with e9_h | e9_h; exact hno c e9_h; (rw [e9_h]; exact nm)); rw [st1_h.2.2.1] at g; exact g)

set_option maxRecDepth 20000 in
theorem c8_wordOf {d : Nat} {M : dk_Mem} {Q : Option Value → dk_Mem → Prop} {bt : Nat → Nat} {n : Nat} (hL : cLT bt n M) {b e : Nat} (hbe : b ≤ e) (hen : e ≤ n) (hl : ∀ k, k < e - b → lx_L (bt (b + k)) = true) (hq : Q (some (.int (nI (ct (lx_w bt b (e - b)) 0)))) M) : dk_Call (d + 5) mX8_wordOf [.ref 81, .int (nI b), .int (nI e)] M Q := by
  refine dk_enter [some (.ref 81), some (.int (nI b)), some (.int (nI e)), none, none, none] (by decide) (fun _ => rfl) (fun _ => Nat.le_of_ble_eq_true rfl) ?_
  refine w_iconst (n := 1) (nI 0) dX8_wordOf_0 (by decide) rfl ?_
  refine w_is3 (n := 2) dX8_wordOf_1 rfl rfl (by decide) ?_
  refine w_iconst (n := 3) (nI 0) dX8_wordOf_2 (by decide) rfl ?_
  refine w_is4 (n := 5) dX8_wordOf_3 rfl rfl (by decide) ?_
  refine w_iconst (n := 6) (nI 0) dX8_wordOf_5 (by decide) rfl ?_
  refine w_is5 (n := 8) dX8_wordOf_6 rfl rfl (by decide) ?_
  exact c8_woL hL hbe hen hl hq 93 0 (by omega) (by omega) (fun c hc => absurd hc (by rw [show wm_C 0 = 0 from by decide]; omega))

set_option maxRecDepth 20000 in
theorem c8_noL {d : Nat} {M : dk_Mem} {Q : Option Value → dk_Mem → Prop} {bt : Nat → Nat} {n : Nat} (hL : cLT bt n M) {b e : Nat} (hbe : b ≤ e) (hen : e ≤ n) (h4_h : e - b ≤ 4) (hl : ∀ k, k < e - b → lx_D (bt (b + k)) = true) (hq : Q (some (.int (nI (100 + lx_v bt b (e - b))))) M) : ∀ (m k : Nat), b + k ≤ e → e - (b + k) < m → dk_W d mX8_numberOf 15 [some (.ref 81), some (.int (nI b)), some (.int (nI e)), some (.int (nI (lx_v bt b k))), some (.int (nI (b + k)))] [] M Q := by
  have n2_h := hL.1
  intro m
  induction m with
  | zero => intro k _ h; omega
  | succ m ih =>
    intro k hk hm
    have vl := lx_v_4 (bt := bt) (b := b) (k := k) (fun i hi => hl i (by omega))
    refine w_il4 (n := 17) dX8_numberOf_15 rfl ?_
    refine w_il2 (n := 18) dX8_numberOf_17 rfl ?_
    refine w_ic_ge (n := 21) 40 dX8_numberOf_18 (by decide) rfl (fun z18_h => ?_) (fun z18_h => ?_)
    · skip
      refine w_bipush (n := 42) (nI 100) dX8_numberOf_40 (by decide) rfl ?_
      refine w_il3 (n := 43) dX8_numberOf_42 rfl ?_
      refine w_iadd (n := 44) dX8_numberOf_43 rfl ?_
      rw [nI_add]
      refine w_retI dX8_numberOf_44 rfl ?_
      rw [q_le (by omega) (by omega)] at z18_h
      rw [show k = e - b by omega]
      exact hq
    · skip
      have hlt : b + k < e := by rw [q_le (by omega) (by omega)] at z18_h; omega
      have hd := lx_isD.mp (hl k (by omega))
      have es := sb_n (bt (b + k)) (by omega)
      refine w_il3 (n := 22) dX8_numberOf_21 rfl ?_
      refine w_bipush (n := 24) (nI 10) dX8_numberOf_22 (by decide) rfl ?_
      refine w_imul (n := 25) dX8_numberOf_24 rfl ?_
      rw [pk_mul]
      refine w_al0 (n := 26) dX8_numberOf_25 rfl ?_
      refine w_il4 (n := 28) dX8_numberOf_26 rfl ?_
      refine i_bald (n := 29) pl_81 (j := b + k) rfl (by omega) (by decide) (hL.2.1 _ (by omega)) dX8_numberOf_28 rfl ?_
      rw [es]
      refine w_iadd (n := 30) dX8_numberOf_29 rfl ?_
      rw [nI_add]
      refine w_bipush (n := 32) (nI 48) dX8_numberOf_30 (by decide) rfl ?_
      refine w_isub (n := 33) dX8_numberOf_32 rfl ?_
      rw [pk_sub (by omega)]
      refine w_is3 (n := 34) dX8_numberOf_33 rfl rfl (by decide) ?_
      refine w_inc4 (n := 37) (nI 1) dX8_numberOf_34 (by decide) rfl rfl (by decide) ?_
      refine w_goto 15 dX8_numberOf_37 (by decide) ?_
      rw [nI_add, show b + k + 1 = b + (k + 1) by omega]
      have g := ih (k + 1) (by omega) (by omega)
      rw [lx_v, if_neg (by omega), Nat.mul_comm 10] at g
      exact g

set_option maxRecDepth 20000 in
theorem c8_numberOf {d : Nat} {M : dk_Mem} {Q : Option Value → dk_Mem → Prop} {bt : Nat → Nat} {n : Nat} (hL : cLT bt n M) {b e : Nat} (hbe : b ≤ e) (hen : e ≤ n) (hl : ∀ k, k < e - b → lx_D (bt (b + k)) = true) (hq : Q (some (.int (nI (if 4 < e - b then 26 else 100 + lx_v bt b (e - b))))) M) : dk_Call d mX8_numberOf [.ref 81, .int (nI b), .int (nI e)] M Q := by
  have n2_h := hL.1
  refine dk_enter [some (.ref 81), some (.int (nI b)), some (.int (nI e)), none, none] (by decide) (fun _ => rfl) (fun _ => Nat.le_of_ble_eq_true rfl) ?_
  refine w_il2 (n := 1) dX8_numberOf_0 rfl ?_
  refine w_il1 (n := 2) dX8_numberOf_1 rfl ?_
  refine w_isub (n := 3) dX8_numberOf_2 rfl ?_
  rw [pk_sub hbe]
  refine w_iconst (n := 4) (nI 4) dX8_numberOf_3 (by decide) rfl ?_
  refine w_ic_le (n := 7) 10 dX8_numberOf_4 (by decide) rfl (fun z4_h => ?_) (fun z4_h => ?_)
  · skip
    refine w_iconst (n := 11) (nI 0) dX8_numberOf_10 (by decide) rfl ?_
    refine w_is3 (n := 12) dX8_numberOf_11 rfl rfl (by decide) ?_
    refine w_il1 (n := 13) dX8_numberOf_12 rfl ?_
    refine w_is4 (n := 15) dX8_numberOf_13 rfl rfl (by decide) ?_
    rw [q_le (by omega) (by decide)] at z4_h
    rw [if_neg (by omega)] at hq
    exact c8_noL hL hbe hen (by omega) hl hq (e + 1) 0 (by omega) (by omega)
  · skip
    refine w_bipush (n := 9) (nI 26) dX8_numberOf_7 (by decide) rfl ?_
    refine w_retI dX8_numberOf_9 rfl ?_
    rw [q_le (by omega) (by decide)] at z4_h
    rw [if_pos (by omega)] at hq
    exact hq

def ct_s (c : Nat) : Nat := if c = 60 then 20 else if c = 61 then 21 else if c = 62 then 22 else if c = 40 then 23 else if c = 41 then 24 else if c = 59 then 25 else 26
theorem ct_so : ∀ c, c < 256 → ∃ tgt : Nat, Op.lookupswitch.offset [(40, 66), (41, 69), (59, 72), (60, 57), (61, 60), (62, 63)] 75 (sbv c).toInt = (tgt : Int) ∧ ((tgt = 57 ∧ ct_s c = 20) ∨ (tgt = 60 ∧ ct_s c = 21) ∨ (tgt = 63 ∧ ct_s c = 22) ∨ (tgt = 66 ∧ ct_s c = 23) ∨ (tgt = 69 ∧ ct_s c = 24) ∨ (tgt = 72 ∧ ct_s c = 25) ∨ (tgt = 75 ∧ ct_s c = 26)) := by
  intro c hc
  by_cases h1_h : c = 40; (subst h1_h; exact ⟨66, by decide, by decide⟩)
  by_cases h2_h : c = 41; (subst h2_h; exact ⟨69, by decide, by decide⟩)
  by_cases h3_h : c = 59; (subst h3_h; exact ⟨72, by decide, by decide⟩)
  by_cases h4_h : c = 60; (subst h4_h; exact ⟨57, by decide, by decide⟩)
  by_cases h5_h : c = 61; (subst h5_h; exact ⟨60, by decide, by decide⟩)
  by_cases h6_h : c = 62; (subst h6_h; exact ⟨63, by decide, by decide⟩)
  refine ⟨75, ?_, Or.inr (Or.inr (Or.inr (Or.inr (Or.inr (Or.inr ⟨rfl, ?_⟩)))))⟩
  · have g : ∀ v : Nat, v < 123 → c ≠ v → ((v : Int) == (sbv c).toInt) = false := fun v hv h => by
      rw [beq_eq_false_iff_ne]
      intro e
      have e2_h : sbv c = nI v := Int32.toInt_inj.mp (by rw [nI_toInt (by omega)]; exact e.symm)
      exact h ((sb_eq c hc v hv).mp e2_h)
    have g1_h := g 40 (by omega) h1_h
    have g2_h := g 41 (by omega) h2_h
    have g3_h := g 59 (by omega) h3_h
    have g4_h := g 60 (by omega) h4_h
    have g5_h := g 61 (by omega) h5_h
    have g6_h := g 62 (by omega) h6_h
    simp only [Op.lookupswitch.offset]
    simp_all
  · unfold ct_s
    rw [if_neg h4_h, if_neg h5_h, if_neg h6_h, if_neg h1_h, if_neg h2_h, if_neg h3_h]
theorem ct_ls : ∀ c, c < 256 → ct (lx_s c) c = ct_s c := by decide +kernel
theorem lx_w_le {bt : Nat → Nat} {b s : Nat} : lx_w bt b s < 18 ∨ lx_w bt b s = 26 := lx_ws_le 18 0 rfl

set_option maxRecDepth 20000 in
theorem c8_tokenOf {d : Nat} {M : dk_Mem} {Q : Option Value → dk_Mem → Prop} {bt : Nat → Nat} {n : Nat} (hL : cLT bt n M) {b : Nat} (hb : b < n) (hq : Q (some (.int (nI (ct (lx_k0 bt n b) (lx_v0 bt n b))))) M) : dk_Call (d + 6) mX8_tokenOf [.ref 81, .int (nI b), .int (nI (lx_n0 bt n b))] M Q := by
  have n2_h := hL.1
  have b5_h := hL.2.2 b
  have n0_h := lx_n0_gt (bt := bt) hb
  unfold lx_k0 lx_v0 at hq
  rw [if_pos hb, if_pos hb] at hq
  refine dk_enter [some (.ref 81), some (.int (nI b)), some (.int (nI (lx_n0 bt n b)))] (by decide) (fun _ => rfl) (fun _ => Nat.le_of_ble_eq_true rfl) ?_
  refine w_al0 (n := 1) dX8_tokenOf_0 rfl ?_
  refine w_il1 (n := 2) dX8_tokenOf_1 rfl ?_
  refine i_bald (n := 3) pl_81 (j := b) rfl (by omega) (by decide) (hL.2.1 b hb) dX8_tokenOf_2 rfl ?_
  refine w_cS1 (n := 6) s0_X8_isLetter k_X8_68 (Nat.le_of_ble_eq_true rfl) dX8_tokenOf_3 rfl (c8_isLetter (c := bt b) (by omega) (fun t3_h => ?_) (fun t3_h => ?_))
  · skip
    refine w_if_eq (n := 9) 16 dX8_tokenOf_6 (by decide) rfl (fun h => absurd h (by decide)) (fun _ => ?_)
    refine w_al0 (n := 10) dX8_tokenOf_9 rfl ?_
    refine w_il1 (n := 11) dX8_tokenOf_10 rfl ?_
    refine w_il2 (n := 12) dX8_tokenOf_11 rfl ?_
    rw [if_pos t3_h, if_pos t3_h] at hq
    have en : lx_n0 bt n b = lx_e lx_L bt n b := by unfold lx_n0; rw [if_pos hb, if_pos t3_h]
    rw [en] at n0_h ⊢
    refine w_cS3 (n := 15) s0_X8_wordOf k_X8_75 (Nat.le_of_ble_eq_true rfl) dX8_tokenOf_12 rfl (c8_wordOf hL (by omega) n0_h.2 (fun k hk => lx_r_in _ _ _ (by omega) (show b + k < lx_e lx_L bt n b by omega)) ?_)
    refine w_retI dX8_tokenOf_15 rfl ?_
    exact hq
  · skip
    refine w_if_eq (n := 9) 16 dX8_tokenOf_6 (by decide) rfl (fun _ => ?_) (fun h => absurd (by decide) h)
    refine w_al0 (n := 17) dX8_tokenOf_16 rfl ?_
    refine w_il1 (n := 18) dX8_tokenOf_17 rfl ?_
    refine i_bald (n := 19) pl_81 (j := b) rfl (by omega) (by decide) (hL.2.1 b hb) dX8_tokenOf_18 rfl ?_
    refine w_cS1 (n := 22) s0_X8_isDigit k_X8_72 (Nat.le_of_ble_eq_true rfl) dX8_tokenOf_19 rfl (c8_isDigit (c := bt b) (by omega) (fun t19_h => ?_) (fun t19_h => ?_))
    · skip
      refine w_if_eq (n := 25) 32 dX8_tokenOf_22 (by decide) rfl (fun h => absurd h (by decide)) (fun _ => ?_)
      refine w_al0 (n := 26) dX8_tokenOf_25 rfl ?_
      refine w_il1 (n := 27) dX8_tokenOf_26 rfl ?_
      refine w_il2 (n := 28) dX8_tokenOf_27 rfl ?_
      rw [if_neg t3_h, if_pos t19_h, if_neg t3_h, if_pos t19_h] at hq
      have en : lx_n0 bt n b = lx_e lx_D bt n b := by unfold lx_n0; rw [if_pos hb, if_neg t3_h, if_pos t19_h]
      rw [en] at n0_h ⊢
      refine w_cS3 (n := 31) s0_X8_numberOf k_X8_78 (Nat.le_of_ble_eq_true rfl) dX8_tokenOf_28 rfl (c8_numberOf hL (by omega) n0_h.2 (fun k hk => lx_r_in _ _ _ (by omega) (show b + k < lx_e lx_D bt n b by omega)) ?_)
      refine w_retI dX8_tokenOf_31 rfl ?_
      split at hq
      · rename_i h4_h; rw [if_pos h4_h]; exact hq
      · rename_i h4_h; rw [if_neg h4_h]; exact hq
    · skip
      refine w_if_eq (n := 25) 32 dX8_tokenOf_22 (by decide) rfl (fun _ => ?_) (fun h => absurd (by decide) h)
      refine w_al0 (n := 33) dX8_tokenOf_32 rfl ?_
      refine w_il1 (n := 34) dX8_tokenOf_33 rfl ?_
      refine i_bald (n := 35) pl_81 (j := b) rfl (by omega) (by decide) (hL.2.1 b hb) dX8_tokenOf_34 rfl ?_
      rw [if_neg t3_h, if_neg t19_h, if_neg t3_h, if_neg t19_h, ct_ls _ (by omega)] at hq
      obtain ⟨tgt, h9_h, hh⟩ := ct_so (bt b) (by omega)
      rcases hh with ⟨e1_h, e2_h⟩ | ⟨e1_h, e2_h⟩ | ⟨e1_h, e2_h⟩ | ⟨e1_h, e2_h⟩ | ⟨e1_h, e2_h⟩ | ⟨e1_h, e2_h⟩ | ⟨e1_h, e2_h⟩
      · rw [e2_h] at hq
        rw [e1_h] at h9_h
        refine w_look (off := 57) 92 dX8_tokenOf_35 rfl h9_h (by decide) ?_
        refine w_bipush (n := 94) (nI 20) dX8_tokenOf_92 (by decide) rfl ?_
        refine w_retI dX8_tokenOf_94 rfl ?_
        exact hq
      · rw [e2_h] at hq
        rw [e1_h] at h9_h
        refine w_look (off := 60) 95 dX8_tokenOf_35 rfl h9_h (by decide) ?_
        refine w_bipush (n := 97) (nI 21) dX8_tokenOf_95 (by decide) rfl ?_
        refine w_retI dX8_tokenOf_97 rfl ?_
        exact hq
      · rw [e2_h] at hq
        rw [e1_h] at h9_h
        refine w_look (off := 63) 98 dX8_tokenOf_35 rfl h9_h (by decide) ?_
        refine w_bipush (n := 100) (nI 22) dX8_tokenOf_98 (by decide) rfl ?_
        refine w_retI dX8_tokenOf_100 rfl ?_
        exact hq
      · rw [e2_h] at hq
        rw [e1_h] at h9_h
        refine w_look (off := 66) 101 dX8_tokenOf_35 rfl h9_h (by decide) ?_
        refine w_bipush (n := 103) (nI 23) dX8_tokenOf_101 (by decide) rfl ?_
        refine w_retI dX8_tokenOf_103 rfl ?_
        exact hq
      · rw [e2_h] at hq
        rw [e1_h] at h9_h
        refine w_look (off := 69) 104 dX8_tokenOf_35 rfl h9_h (by decide) ?_
        refine w_bipush (n := 106) (nI 24) dX8_tokenOf_104 (by decide) rfl ?_
        refine w_retI dX8_tokenOf_106 rfl ?_
        exact hq
      · rw [e2_h] at hq
        rw [e1_h] at h9_h
        refine w_look (off := 72) 107 dX8_tokenOf_35 rfl h9_h (by decide) ?_
        refine w_bipush (n := 109) (nI 25) dX8_tokenOf_107 (by decide) rfl ?_
        refine w_retI dX8_tokenOf_109 rfl ?_
        exact hq
      · rw [e2_h] at hq
        rw [e1_h] at h9_h
        refine w_look (off := 75) 110 dX8_tokenOf_35 rfl h9_h (by decide) ?_
        refine w_bipush (n := 112) (nI 26) dX8_tokenOf_110 (by decide) rfl ?_
        refine w_retI dX8_tokenOf_112 rfl ?_
        exact hq
