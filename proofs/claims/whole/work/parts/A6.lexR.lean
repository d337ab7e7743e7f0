/-! ===== words, numbers and signs of a text: pure ===== -/
def lx_l7 : List Nat := [112, 105, 101, 99, 101, 0, 0, 97, 117, 110, 116, 0, 0, 0, 102, 97, 116, 104, 101, 114, 0, 101, 108, 100, 101, 115, 116, 0, 103, 105, 114, 108, 0, 0, 0, 115, 97, 105, 108, 111, 114, 0, 115, 97, 121, 0, 0, 0, 0, 115, 116, 97, 110, 100, 0, 0, 104, 111, 108, 100, 0, 0, 0, 121, 101, 97, 114, 0, 0, 0, 108, 101, 97, 110, 0, 0, 0, 103, 97, 112, 0, 0, 0, 0, 119, 111, 114, 100, 0, 0, 0, 110, 117, 109, 98, 101, 114, 0, 105, 102, 0, 0, 0, 0, 0, 111, 114, 0, 0, 0, 0, 0, 97, 110, 100, 0, 0, 0, 0, 110, 111, 116, 0, 0, 0, 0]
def lx_N (j : Nat) : Nat := lx_l7.getD j 0
theorem lx_nam : ∀ j, j < 126 → dk_nam j = nI (lx_N j) := by decide +kernel
theorem lx_N_le : ∀ j, j < 126 → lx_N j < 123 := by decide +kernel
def lx_r (C : Nat → Bool) (bt : Nat → Nat) (n : Nat) : Nat → Nat → Nat
  | 0, p => p
  | f + 1, p => if p < n ∧ C (bt p) = true then lx_r C bt n f (p + 1) else p
def lx_e (C : Nat → Bool) (bt : Nat → Nat) (n p : Nat) : Nat := lx_r C bt n (n - p) p
theorem lx_e_y {C : Nat → Bool} {bt : Nat → Nat} {n p : Nat} (hp : p < n) (hc : C (bt p) = true) : lx_e C bt n p = lx_e C bt n (p + 1) := by
  unfold lx_e
  rw [show n - p = (n - (p + 1)) + 1 by omega, lx_r, if_pos ⟨hp, hc⟩]
theorem lx_e_n {C : Nat → Bool} {bt : Nat → Nat} {n p : Nat} (h : ¬ (p < n ∧ C (bt p) = true)) : lx_e C bt n p = p := by
  unfold lx_e
  cases hk : n - p with
  | zero => rfl
  | succ m => rw [lx_r, if_neg h]
theorem lx_r_le {C : Nat → Bool} {bt : Nat → Nat} {n : Nat} : ∀ f p, p ≤ n → p ≤ lx_r C bt n f p ∧ lx_r C bt n f p ≤ n
  | 0, p, h => ⟨Nat.le_refl _, h⟩
  | f + 1, p, h => by
    rw [lx_r]
    split
    · have := lx_r_le (C := C) (bt := bt) (n := n) f (p + 1) (by omega); omega
    · omega
theorem lx_e_le {C : Nat → Bool} {bt : Nat → Nat} {n p : Nat} (h : p ≤ n) : p ≤ lx_e C bt n p ∧ lx_e C bt n p ≤ n := lx_r_le _ _ h
def lx_S (b : Nat) : Bool := decide (b = 32)
def lx_L (b : Nat) : Bool := decide (97 ≤ b ∧ b ≤ 122)
def lx_D (b : Nat) : Bool := decide (48 ≤ b ∧ b ≤ 57)
def lx_q (bt : Nat → Nat) (w b : Nat) : Nat → Bool
  | 0 => true
  | k + 1 => lx_q bt w b k && decide (lx_N (7 * w + k) = bt (b + k))
def lx_m (bt : Nat → Nat) (w b s : Nat) : Bool := decide (s ≤ 7 ∧ (s = 7 ∨ lx_N (7 * w + s) = 0)) && lx_q bt w b s
def lx_ws (bt : Nat → Nat) (b s : Nat) : Nat → Nat → Nat
  | 0, _ => 26
  | m + 1, w => if lx_m bt w b s = true then w else lx_ws bt b s m (w + 1)
def lx_w (bt : Nat → Nat) (b s : Nat) : Nat := lx_ws bt b s 18 0
def lx_s (c : Nat) : Nat := if c = 60 ∨ c = 61 ∨ c = 62 then 21 else if c = 40 then 22 else if c = 41 then 23 else if c = 59 then 24 else 26
def lx_v (bt : Nat → Nat) (b : Nat) : Nat → Nat
  | 0 => 0
  | k + 1 => if 3 < k then lx_v bt b k else 10 * lx_v bt b k + bt (b + k) - 48
def lx_b (bt : Nat → Nat) (n p : Nat) : Nat := lx_e lx_S bt n p
/-- of the token from b on: kind, value, end -/
def lx_k0 (bt : Nat → Nat) (n b : Nat) : Nat := if b < n then (if lx_L (bt b) = true then lx_w bt b (lx_e lx_L bt n b - b) else if lx_D (bt b) = true then (if 4 < lx_e lx_D bt n b - b then 26 else 20) else lx_s (bt b)) else 25
def lx_v0 (bt : Nat → Nat) (n b : Nat) : Nat := if b < n then (if lx_L (bt b) = true then 0 else if lx_D (bt b) = true then lx_v bt b (lx_e lx_D bt n b - b) else bt b) else 0
def lx_n0 (bt : Nat → Nat) (n b : Nat) : Nat := if b < n then (if lx_L (bt b) = true then lx_e lx_L bt n b else if lx_D (bt b) = true then lx_e lx_D bt n b else b + 1) else b
/-- all bytes of a run are of its sort -/
theorem lx_r_in {C : Nat → Bool} {bt : Nat → Nat} {n : Nat} : ∀ f p i, p ≤ i → i < lx_r C bt n f p → C (bt i) = true
  | 0, p, i, h1_h, h2_h => by rw [lx_r] at h2_h; omega
  | f + 1, p, i, h1_h, h2_h => by
    rw [lx_r] at h2_h
    split at h2_h
    · rename_i hc
      by_cases e : i = p
      · subst e; exact hc.2
      · exact lx_r_in f (p + 1) i (by omega) h2_h
    · omega
theorem lx_v_le {bt : Nat → Nat} {b : Nat} : ∀ k, (∀ i, i < k → lx_D (bt (b + i)) = true) → lx_v bt b k < 10 ^ (min k 4)
  | 0, _ => by rw [lx_v]; decide
  | k + 1, h => by
    have ih := lx_v_le (bt := bt) (b := b) k (fun i hi => h i (by omega))
    have hd := h k (by omega)
    unfold lx_D at hd
    rw [decide_eq_true_iff] at hd
    rw [lx_v]
    split
    · rename_i h3_h
      rw [show min (k + 1) 4 = min k 4 by omega]; exact ih
    · rename_i h3_h
      rw [show min k 4 = k by omega] at ih
      rw [show min (k + 1) 4 = k + 1 by omega, Nat.pow_succ]
      omega
theorem lx_v_4 {bt : Nat → Nat} {b k : Nat} (h : ∀ i, i < k → lx_D (bt (b + i)) = true) : lx_v bt b k < 10000 := Nat.lt_of_lt_of_le (lx_v_le k h) (Nat.pow_le_pow_right (by decide) (Nat.min_le_right k 4))
/-! ===== in the reference ===== -/
def rLT (bt : Nat → Nat) (n : Nat) (M : dk_Mem) : Prop := M.1 104 5 = nI n ∧ n ≤ 200 ∧ (∀ i, i < n → M.1 108 i = nI (bt i)) ∧ ∀ i, bt i ≤ 255
def rLx (q k : Nat) : Prop := q = 104 ∧ 6 ≤ k ∧ k ≤ 9
theorem rLT.fr {bt : Nat → Nat} {n : Nat} {M M' : dk_Mem} {S : Nat → Nat → Prop} (h : rLT bt n M) (hf : dk_fr S M M') (hS : ∀ q k, S q k → q ≠ 108 ∧ ¬ (q = 104 ∧ k = 5)) : rLT bt n M' := ⟨(hf.2 104 5 (fun z => (hS _ _ z).2 ⟨rfl, rfl⟩)).trans h.1, h.2.1, fun i hi => (hf.2 108 i (fun z => (hS _ _ z).1 rfl)).trans (h.2.2.1 i hi), h.2.2.2⟩
theorem rLT.x {bt : Nat → Nat} {n : Nat} {M M' : dk_Mem} (h : rLT bt n M) (hf : dk_fr rLx M M') : rLT bt n M' := h.fr hf (fun q k z => by unfold rLx at z; omega)
theorem q_in2 {v a b : Nat} (hv : v < 2 ^ 31) (ha : a < 2 ^ 31) (hb : b < 2 ^ 31) : (nI a ≤ nI v ∧ nI v ≤ nI b) ↔ (a ≤ v ∧ v ≤ b) := by rw [q_le ha hv, q_le hv hb]

set_option maxRecDepth 20000 in
theorem r_isByte {d : Nat} {M : dk_Mem} {Q : Option Value → dk_Mem → Prop} {bt : Nat → Nat} {n : Nat} (hL : rLT bt n M) {k lo hi : Nat} (hk : k ≤ 200) (l1_h : lo < 256) (l2_h : hi < 256) (h1_h : k < n → lo ≤ bt k → bt k ≤ hi → Q (some (.int 1)) M) (h0_h : ¬ (k < n ∧ lo ≤ bt k ∧ bt k ≤ hi) → Q (some (.int 0)) M) : dk_Call (d + 1) mX12_isByte [.ref 104, .int (nI k), .int (nI lo), .int (nI hi)] M Q := by
  have n2_h := hL.2.1
  have b5_h := hL.2.2.2 k
  refine dk_enter [some (.ref 104), some (.int (nI k)), some (.int (nI lo)), some (.int (nI hi))] (by decide) (fun _ => rfl) (fun _ => Nat.le_of_ble_eq_true rfl) ?_
  refine w_il1 (n := 1) dX12_isByte_0 rfl ?_
  refine w_al0 (n := 2) dX12_isByte_1 rfl ?_
  refine g_I (n := 5) f_X12_131_12 pl_104 dX12_isByte_2 rfl ?_
  rw [hL.1]
  refine w_ic_ge (n := 8) 26 dX12_isByte_5 (by decide) rfl (fun z5_h => ?_) (fun z5_h => ?_)
  · skip
    refine w_iconst (n := 27) (nI 0) dX12_isByte_26 (by decide) rfl ?_
    refine w_retZ0 dX12_isByte_27 rfl ?_
    first | (rw [q_in2 (by omega) (by omega) (by omega)] at t16_h; exact h0_h (fun z => t16_h z.2)) | (rw [q_le (by omega) (by omega)] at z5_h; exact h0_h (fun z => by omega))
  · skip
    have hk2_h : k < n := by rw [q_le (by omega) (by omega)] at z5_h; omega
    refine w_al0 (n := 9) dX12_isByte_8 rfl ?_
    refine g_R (n := 12) f_X12_19_12 pl_104 rf_104_4 dX12_isByte_9 rfl ?_
    refine w_il1 (n := 13) dX12_isByte_12 rfl ?_
    refine i_iald (n := 14) pl_108 (j := k) rfl (by omega) (by decide) (hL.2.2.1 k hk2_h) dX12_isByte_13 rfl ?_
    refine w_il2 (n := 15) dX12_isByte_14 rfl ?_
    refine w_il3 (n := 16) dX12_isByte_15 rfl ?_
    refine w_cS3 (n := 19) s0_X12_in k_X12_61 (Nat.le_of_ble_eq_true rfl) dX12_isByte_16 rfl (r_in (fun t16_h => ?_) (fun t16_h => ?_))
    · skip
      refine w_if_eq (n := 22) 26 dX12_isByte_19 (by decide) rfl (fun h => absurd h (by decide)) (fun _ => ?_)
      refine w_iconst (n := 23) (nI 1) dX12_isByte_22 (by decide) rfl ?_
      refine w_goto 27 dX12_isByte_23 (by decide) ?_
      refine w_retZ1 dX12_isByte_27 rfl ?_
      rw [q_in2 (by omega) (by omega) (by omega)] at t16_h
      exact h1_h hk2_h t16_h.1 t16_h.2
    · skip
      refine w_if_eq (n := 22) 26 dX12_isByte_19 (by decide) rfl (fun _ => ?_) (fun h => absurd (by decide) h)
      refine w_iconst (n := 27) (nI 0) dX12_isByte_26 (by decide) rfl ?_
      refine w_retZ0 dX12_isByte_27 rfl ?_
      first | (rw [q_in2 (by omega) (by omega) (by omega)] at t16_h; exact h0_h (fun z => t16_h z.2)) | (rw [q_le (by omega) (by omega)] at z5_h; exact h0_h (fun z => by omega))

theorem lx_isS {b : Nat} : lx_S b = true ↔ (32 ≤ b ∧ b ≤ 32) := by unfold lx_S; rw [decide_eq_true_iff]; omega
theorem lx_isL {b : Nat} : lx_L b = true ↔ (97 ≤ b ∧ b ≤ 122) := by unfold lx_L; exact decide_eq_true_iff
theorem lx_isD {b : Nat} : lx_D b = true ↔ (48 ≤ b ∧ b ≤ 57) := by unfold lx_D; exact decide_eq_true_iff

set_option maxRecDepth 20000 in
theorem r_inL {d : Nat} {M : dk_Mem} {Q : Option Value → dk_Mem → Prop} {bt : Nat → Nat} {n : Nat} (hL : rLT bt n M) {w b s : Nat} (hw : w < 18) (s7_h : s ≤ 7) (hb : M.1 104 7 = nI b) (hbs : b + s ≤ n) (hq : Q (some (.int (gbI (lx_q bt w b s)))) M) : ∀ (m k : Nat) (v : Bool), k ≤ s → s - k < m → v = lx_q bt w b k → dk_W d mX12_isName 34 [some (.ref 104), some (.int (nI w)), some (.int (nI s)), some (.int (gbI v)), some (.int (nI k))] [] M Q := by
  have n2_h := hL.2.1
  have qf : ∀ k j, lx_q bt w b k = false → lx_q bt w b (k + j) = false := fun k j h => by
    induction j with
    | zero => exact h
    | succ j ih => show (lx_q bt w b (k + j) && _) = false; rw [ih]; rfl
  intro m
  induction m with
  | zero => intro k v _ h; omega
  | succ m ih =>
    intro k v hk hm hv
    refine w_il4 (n := 36) dX12_isName_34 rfl ?_
    refine w_il2 (n := 37) dX12_isName_36 rfl ?_
    refine w_ic_ge (n := 40) 82 dX12_isName_37 (by decide) rfl (fun z37_h => ?_) (fun z37_h => ?_)
    · skip
      refine w_il3 (n := 83) dX12_isName_82 rfl ?_
      refine w_retZ (gbI_01 v) dX12_isName_83 rfl ?_
      first | (have e := gbI_0 z41_h; subst e; have e2_h := qf k (s - k) hv.symm; rw [show k + (s - k) = s by omega] at e2_h; rw [e2_h] at hq; exact hq) | (rw [q_le (by omega) (by omega)] at z37_h; rw [show k = s by omega] at hv; rw [← hv] at hq; exact hq)
    · skip
      refine w_il3 (n := 41) dX12_isName_40 rfl ?_
      refine w_if_eq (n := 44) 82 dX12_isName_41 (by decide) rfl (fun z41_h => ?_) (fun z41_h => ?_)
      · skip
        refine w_il3 (n := 83) dX12_isName_82 rfl ?_
        refine w_retZ (gbI_01 v) dX12_isName_83 rfl ?_
        first | (have e := gbI_0 z41_h; subst e; have e2_h := qf k (s - k) hv.symm; rw [show k + (s - k) = s by omega] at e2_h; rw [e2_h] at hq; exact hq) | (rw [q_le (by omega) (by omega)] at z37_h; rw [show k = s by omega] at hv; rw [← hv] at hq; exact hq)
      · skip
        have hks : k < s := by rw [q_le (by omega) (by omega)] at z37_h; omega
        have l1_h := lx_N_le (7 * w + k) (by omega)
        have b5_h := hL.2.2.2 (b + k)
        have nv : lx_q bt w b (k + 1) = decide (lx_N (7 * w + k) = bt (b + k)) := by
          show (lx_q bt w b k && _) = _
          rw [← hv, gbI_1 z41_h]
          rfl
        refine w_gets137 (n := 47) dX12_isName_44 rfl ?_
        refine w_bipush (n := 49) (nI 7) dX12_isName_47 (by decide) rfl ?_
        refine w_il1 (n := 50) dX12_isName_49 rfl ?_
        refine w_imul (n := 51) dX12_isName_50 rfl ?_
        rw [pk_mul]
        refine w_il4 (n := 53) dX12_isName_51 rfl ?_
        refine w_iadd (n := 54) dX12_isName_53 rfl ?_
        rw [nI_add]
        refine w_sld_DominoKinModel (n := 55) (j := 7 * w + k) rfl (by omega) (lx_nam _ (by omega)) dX12_isName_54 rfl ?_
        refine w_al0 (n := 56) dX12_isName_55 rfl ?_
        refine g_R (n := 59) f_X12_19_12 pl_104 rf_104_4 dX12_isName_56 rfl ?_
        refine w_al0 (n := 60) dX12_isName_59 rfl ?_
        refine g_I (n := 63) f_X12_140_12 pl_104 dX12_isName_60 rfl ?_
        rw [hb]
        refine w_il4 (n := 65) dX12_isName_63 rfl ?_
        refine w_iadd (n := 66) dX12_isName_65 rfl ?_
        refine i_iald (n := 67) pl_108 (j := b + k) (by rw [nI_add]) (by omega) (by decide) (hL.2.2.1 _ (by omega)) dX12_isName_66 rfl ?_
        refine w_ic_ne (n := 70) 74 dX12_isName_67 (by decide) rfl (fun z67_h => ?_) (fun z67_h => ?_)
        · skip
          refine w_iconst (n := 75) (nI 0) dX12_isName_74 (by decide) rfl ?_
          refine w_is3 (n := 76) dX12_isName_75 rfl rfl (by decide) ?_
          refine w_inc4 (n := 79) (nI 1) dX12_isName_76 (by decide) rfl rfl (by decide) ?_
          refine w_goto 34 dX12_isName_79 (by decide) ?_
          rw [nI_eq (by omega) (by omega)] at z67_h
          rw [nI_add]
          first | exact ih (k + 1) true (by omega) (by omega) (by rw [nv, decide_eq_true z67_h]) | exact ih (k + 1) false (by omega) (by omega) (by rw [nv, decide_eq_false z67_h])
        · skip
          refine w_iconst (n := 71) (nI 1) dX12_isName_70 (by decide) rfl ?_
          refine w_goto 75 dX12_isName_71 (by decide) ?_
          refine w_is3 (n := 76) dX12_isName_75 rfl rfl (by decide) ?_
          refine w_inc4 (n := 79) (nI 1) dX12_isName_76 (by decide) rfl rfl (by decide) ?_
          refine w_goto 34 dX12_isName_79 (by decide) ?_
          rw [nI_eq (by omega) (by omega)] at z67_h
          rw [nI_add]
          first | exact ih (k + 1) true (by omega) (by omega) (by rw [nv, decide_eq_true z67_h]) | exact ih (k + 1) false (by omega) (by omega) (by rw [nv, decide_eq_false z67_h])

set_option maxRecDepth 20000 in
theorem r_in0 {d : Nat} {M : dk_Mem} {Q : Option Value → dk_Mem → Prop} {w s : Int32} (hq : Q (some (.int (nI 0))) M) : dk_W d mX12_isName 34 [some (.ref 104), some (.int w), some (.int s), some (.int (nI 0)), some (.int (nI 0))] [] M Q := by
  refine w_il4 (n := 36) dX12_isName_34 rfl ?_
  refine w_il2 (n := 37) dX12_isName_36 rfl ?_
  refine w_ic_ge (n := 40) 82 dX12_isName_37 (by decide) rfl (fun z37_h => ?_) (fun z37_h => ?_)
  · skip
    refine w_il3 (n := 83) dX12_isName_82 rfl ?_
    refine w_retZ0 dX12_isName_83 rfl ?_
    exact hq
  · skip
    refine w_il3 (n := 41) dX12_isName_40 rfl ?_
    refine w_if_eq (n := 44) 82 dX12_isName_41 (by decide) rfl (fun _ => ?_) (fun h => absurd (by decide) h)
    refine w_il3 (n := 83) dX12_isName_82 rfl ?_
    refine w_retZ0 dX12_isName_83 rfl ?_
    exact hq

set_option maxRecDepth 20000 in
theorem r_isName {d : Nat} {M : dk_Mem} {Q : Option Value → dk_Mem → Prop} {bt : Nat → Nat} {n : Nat} (hL : rLT bt n M) {w b s : Nat} (hw : w < 18) (s2_h : s ≤ 200) (hb : M.1 104 7 = nI b) (hbs : b + s ≤ n) (hq : Q (some (.int (gbI (lx_m bt w b s)))) M) : dk_Call d mX12_isName [.ref 104, .int (nI w), .int (nI s)] M Q := by
  unfold lx_m at hq
  refine dk_enter [some (.ref 104), some (.int (nI w)), some (.int (nI s)), none, none] (by decide) (fun _ => rfl) (fun _ => Nat.le_of_ble_eq_true rfl) ?_
  refine w_il2 (n := 1) dX12_isName_0 rfl ?_
  refine w_bipush (n := 3) (nI 7) dX12_isName_1 (by decide) rfl ?_
  refine w_ic_gt (n := 6) 29 dX12_isName_3 (by decide) rfl (fun z3_h => ?_) (fun z3_h => ?_)
  · skip
    refine w_iconst (n := 30) (nI 0) dX12_isName_29 (by decide) rfl ?_
    refine w_is3 (n := 31) dX12_isName_30 rfl rfl (by decide) ?_
    refine w_iconst (n := 32) (nI 0) dX12_isName_31 (by decide) rfl ?_
    refine w_is4 (n := 34) dX12_isName_32 rfl rfl (by decide) ?_
    first | (rw [nI_eq (by omega) (by decide)] at z9_h; rw [decide_eq_true (show s ≤ 7 ∧ (s = 7 ∨ lx_N (7 * w + s) = 0) from ⟨s7_h, Or.inl z9_h⟩), Bool.true_and] at hq; exact r_inL hL hw s7_h hb hbs hq (s + 1) 0 true (by omega) (by omega) rfl) | (have z8_h := (q_nz (by omega)).mp z22_h; rw [decide_eq_true (show s ≤ 7 ∧ (s = 7 ∨ lx_N (7 * w + s) = 0) from ⟨s7_h, Or.inr z8_h⟩), Bool.true_and] at hq; exact r_inL hL hw s7_h hb hbs hq (s + 1) 0 true (by omega) (by omega) rfl) | (have z8_h : ¬ lx_N (7 * w + s) = 0 := fun z => z22_h ((q_nz (by omega)).mpr z); rw [decide_eq_false (show ¬ (s ≤ 7 ∧ (s = 7 ∨ lx_N (7 * w + s) = 0)) from fun z => by omega), Bool.false_and] at hq; exact r_in0 hq) | (rw [nI_ltI (by decide) (by omega)] at z3_h; rw [decide_eq_false (show ¬ (s ≤ 7 ∧ (s = 7 ∨ lx_N (7 * w + s) = 0)) from fun z => by omega), Bool.false_and] at hq; exact r_in0 hq)
  · skip
    have s7_h : s ≤ 7 := by rw [nI_ltI (by decide) (by omega)] at z3_h; omega
    refine w_il2 (n := 7) dX12_isName_6 rfl ?_
    refine w_bipush (n := 9) (nI 7) dX12_isName_7 (by decide) rfl ?_
    refine w_ic_eq (n := 12) 25 dX12_isName_9 (by decide) rfl (fun z9_h => ?_) (fun z9_h => ?_)
    · skip
      refine w_iconst (n := 26) (nI 1) dX12_isName_25 (by decide) rfl ?_
      refine w_goto 30 dX12_isName_26 (by decide) ?_
      refine w_is3 (n := 31) dX12_isName_30 rfl rfl (by decide) ?_
      refine w_iconst (n := 32) (nI 0) dX12_isName_31 (by decide) rfl ?_
      refine w_is4 (n := 34) dX12_isName_32 rfl rfl (by decide) ?_
      first | (rw [nI_eq (by omega) (by decide)] at z9_h; rw [decide_eq_true (show s ≤ 7 ∧ (s = 7 ∨ lx_N (7 * w + s) = 0) from ⟨s7_h, Or.inl z9_h⟩), Bool.true_and] at hq; exact r_inL hL hw s7_h hb hbs hq (s + 1) 0 true (by omega) (by omega) rfl) | (have z8_h := (q_nz (by omega)).mp z22_h; rw [decide_eq_true (show s ≤ 7 ∧ (s = 7 ∨ lx_N (7 * w + s) = 0) from ⟨s7_h, Or.inr z8_h⟩), Bool.true_and] at hq; exact r_inL hL hw s7_h hb hbs hq (s + 1) 0 true (by omega) (by omega) rfl) | (have z8_h : ¬ lx_N (7 * w + s) = 0 := fun z => z22_h ((q_nz (by omega)).mpr z); rw [decide_eq_false (show ¬ (s ≤ 7 ∧ (s = 7 ∨ lx_N (7 * w + s) = 0)) from fun z => by omega), Bool.false_and] at hq; exact r_in0 hq) | (rw [nI_ltI (by decide) (by omega)] at z3_h; rw [decide_eq_false (show ¬ (s ≤ 7 ∧ (s = 7 ∨ lx_N (7 * w + s) = 0)) from fun z => by omega), Bool.false_and] at hq; exact r_in0 hq)
    · skip
      have s6_h : ¬ s = 7 := by rw [nI_eq (by omega) (by decide)] at z9_h; exact z9_h
      have l1_h := lx_N_le (7 * w + s) (by omega)
      refine w_gets137 (n := 15) dX12_isName_12 rfl ?_
      refine w_bipush (n := 17) (nI 7) dX12_isName_15 (by decide) rfl ?_
      refine w_il1 (n := 18) dX12_isName_17 rfl ?_
      refine w_imul (n := 19) dX12_isName_18 rfl ?_
      rw [pk_mul]
      refine w_il2 (n := 20) dX12_isName_19 rfl ?_
      refine w_iadd (n := 21) dX12_isName_20 rfl ?_
      rw [nI_add]
      refine w_sld_DominoKinModel (n := 22) (j := 7 * w + s) rfl (by omega) (lx_nam _ (by omega)) dX12_isName_21 rfl ?_
      refine w_if_ne (n := 25) 29 dX12_isName_22 (by decide) rfl (fun z22_h => ?_) (fun z22_h => ?_)
      · skip
        refine w_iconst (n := 30) (nI 0) dX12_isName_29 (by decide) rfl ?_
        refine w_is3 (n := 31) dX12_isName_30 rfl rfl (by decide) ?_
        refine w_iconst (n := 32) (nI 0) dX12_isName_31 (by decide) rfl ?_
        refine w_is4 (n := 34) dX12_isName_32 rfl rfl (by decide) ?_
        first | (rw [nI_eq (by omega) (by decide)] at z9_h; rw [decide_eq_true (show s ≤ 7 ∧ (s = 7 ∨ lx_N (7 * w + s) = 0) from ⟨s7_h, Or.inl z9_h⟩), Bool.true_and] at hq; exact r_inL hL hw s7_h hb hbs hq (s + 1) 0 true (by omega) (by omega) rfl) | (have z8_h := (q_nz (by omega)).mp z22_h; rw [decide_eq_true (show s ≤ 7 ∧ (s = 7 ∨ lx_N (7 * w + s) = 0) from ⟨s7_h, Or.inr z8_h⟩), Bool.true_and] at hq; exact r_inL hL hw s7_h hb hbs hq (s + 1) 0 true (by omega) (by omega) rfl) | (have z8_h : ¬ lx_N (7 * w + s) = 0 := fun z => z22_h ((q_nz (by omega)).mpr z); rw [decide_eq_false (show ¬ (s ≤ 7 ∧ (s = 7 ∨ lx_N (7 * w + s) = 0)) from fun z => by omega), Bool.false_and] at hq; exact r_in0 hq) | (rw [nI_ltI (by decide) (by omega)] at z3_h; rw [decide_eq_false (show ¬ (s ≤ 7 ∧ (s = 7 ∨ lx_N (7 * w + s) = 0)) from fun z => by omega), Bool.false_and] at hq; exact r_in0 hq)
      · skip
        refine w_iconst (n := 26) (nI 1) dX12_isName_25 (by decide) rfl ?_
        refine w_goto 30 dX12_isName_26 (by decide) ?_
        refine w_is3 (n := 31) dX12_isName_30 rfl rfl (by decide) ?_
        refine w_iconst (n := 32) (nI 0) dX12_isName_31 (by decide) rfl ?_
        refine w_is4 (n := 34) dX12_isName_32 rfl rfl (by decide) ?_
        first | (rw [nI_eq (by omega) (by decide)] at z9_h; rw [decide_eq_true (show s ≤ 7 ∧ (s = 7 ∨ lx_N (7 * w + s) = 0) from ⟨s7_h, Or.inl z9_h⟩), Bool.true_and] at hq; exact r_inL hL hw s7_h hb hbs hq (s + 1) 0 true (by omega) (by omega) rfl) | (have z8_h := (q_nz (by omega)).mp z22_h; rw [decide_eq_true (show s ≤ 7 ∧ (s = 7 ∨ lx_N (7 * w + s) = 0) from ⟨s7_h, Or.inr z8_h⟩), Bool.true_and] at hq; exact r_inL hL hw s7_h hb hbs hq (s + 1) 0 true (by omega) (by omega) rfl) | (have z8_h : ¬ lx_N (7 * w + s) = 0 := fun z => z22_h ((q_nz (by omega)).mpr z); rw [decide_eq_false (show ¬ (s ≤ 7 ∧ (s = 7 ∨ lx_N (7 * w + s) = 0)) from fun z => by omega), Bool.false_and] at hq; exact r_in0 hq) | (rw [nI_ltI (by decide) (by omega)] at z3_h; rw [decide_eq_false (show ¬ (s ≤ 7 ∧ (s = 7 ∨ lx_N (7 * w + s) = 0)) from fun z => by omega), Bool.false_and] at hq; exact r_in0 hq)

theorem lx_ws_le {bt : Nat → Nat} {b s : Nat} : ∀ m w, w + m = 18 → lx_ws bt b s m w < 18 ∨ lx_ws bt b s m w = 26
  | 0, w, _ => Or.inr rfl
  | m + 1, w, h => by
    rw [lx_ws]
    split
    · exact Or.inl (by omega)
    · exact lx_ws_le m (w + 1) (by omega)

set_option maxRecDepth 20000 in
theorem r_wh0 {d : Nat} {M : dk_Mem} {Q : Option Value → dk_Mem → Prop} {w : Int32} (e : w = nI 18) (hq : Q (some (.int (nI 26))) M) : dk_W d mX12_wordHere 2 [some (.ref 104), some (.int w)] [] M Q := by
  subst e
  refine w_il1 (n := 3) dX12_wordHere_2 rfl ?_
  refine w_bipush (n := 5) (nI 18) dX12_wordHere_3 (by decide) rfl ?_
  refine w_ic_ge (n := 8) 31 dX12_wordHere_5 (by decide) rfl (fun z5_h => ?_) (fun z5_h => ?_)
  · skip
    refine w_il1 (n := 32) dX12_wordHere_31 rfl ?_
    refine w_bipush (n := 34) (nI 18) dX12_wordHere_32 (by decide) rfl ?_
    refine w_ic_ge (n := 37) 41 dX12_wordHere_34 (by decide) rfl (fun z34_h => ?_) (fun z34_h => ?_)
    · skip
      refine w_bipush (n := 43) (nI 26) dX12_wordHere_41 (by decide) rfl ?_
      refine w_retI dX12_wordHere_43 rfl ?_
      exact hq
    · skip
      exact absurd (Int32.le_refl _) z34_h
  · skip
    exact absurd (Int32.le_refl _) z5_h

set_option maxRecDepth 20000 in
theorem r_wh1 {d : Nat} {M : dk_Mem} {Q : Option Value → dk_Mem → Prop} {w : Nat} (hw : w < 18) (hq : Q (some (.int (nI w))) M) : dk_W d mX12_wordHere 31 [some (.ref 104), some (.int (nI w))] [] M Q := by
  refine w_il1 (n := 32) dX12_wordHere_31 rfl ?_
  refine w_bipush (n := 34) (nI 18) dX12_wordHere_32 (by decide) rfl ?_
  refine w_ic_ge (n := 37) 41 dX12_wordHere_34 (by decide) rfl (fun z34_h => ?_) (fun z34_h => ?_)
  · skip
    exfalso
    rw [q_le (by decide) (by omega)] at z34_h
    omega
  · skip
    refine w_il1 (n := 38) dX12_wordHere_37 rfl ?_
    refine w_goto 43 dX12_wordHere_38 (by decide) ?_
    refine w_retI dX12_wordHere_43 rfl ?_
    exact hq

set_option maxRecDepth 20000 in
theorem r_whL {d : Nat} {M : dk_Mem} {Q : Option Value → dk_Mem → Prop} {bt : Nat → Nat} {n : Nat} (hL : rLT bt n M) {b e : Nat} (hb : M.1 104 7 = nI b) (he : M.1 104 8 = nI e) (hbe : b ≤ e) (hen : e ≤ n) (hq : Q (some (.int (nI (lx_w bt b (e - b))))) M) : ∀ (m w : Nat), w + m = 18 → lx_ws bt b (e - b) m w = lx_w bt b (e - b) → dk_W (d + 1) mX12_wordHere 2 [some (.ref 104), some (.int (nI w))] [] M Q := by
  have n2_h := hL.2.1
  intro m
  induction m with
  | zero =>
    intro w hw h9_h
    rw [← h9_h] at hq
    exact r_wh0 (by rw [show w = 18 by omega]) hq
  | succ m ih =>
    intro w hw h9_h
    rw [lx_ws] at h9_h
    refine w_il1 (n := 3) dX12_wordHere_2 rfl ?_
    refine w_bipush (n := 5) (nI 18) dX12_wordHere_3 (by decide) rfl ?_
    refine w_ic_ge (n := 8) 31 dX12_wordHere_5 (by decide) rfl (fun z5_h => ?_) (fun z5_h => ?_)
    · skip
      first | (exfalso; rw [q_le (by decide) (by omega)] at z5_h; omega) | (have zz := gbI_1 z22_h; rw [if_pos zz] at h9_h; rw [← h9_h] at hq; exact r_wh1 (by omega) hq)
    · skip
      refine w_al0 (n := 9) dX12_wordHere_8 rfl ?_
      refine w_il1 (n := 10) dX12_wordHere_9 rfl ?_
      refine w_al0 (n := 11) dX12_wordHere_10 rfl ?_
      refine g_I (n := 14) f_X12_143_12 pl_104 dX12_wordHere_11 rfl ?_
      rw [he]
      refine w_al0 (n := 15) dX12_wordHere_14 rfl ?_
      refine g_I (n := 18) f_X12_140_12 pl_104 dX12_wordHere_15 rfl ?_
      rw [hb]
      refine w_isub (n := 19) dX12_wordHere_18 rfl ?_
      rw [pk_sub hbe]
      refine w_cV2 (n := 22) pl_104 cl_12 s0_X12_isName k_X12_146 (Nat.le_of_ble_eq_true rfl) dX12_wordHere_19 rfl (r_isName hL (by omega) (by omega) hb (by omega) ?_)
      refine w_if_ne (n := 25) 31 dX12_wordHere_22 (by decide) rfl (fun z22_h => ?_) (fun z22_h => ?_)
      · skip
        first | (exfalso; rw [q_le (by decide) (by omega)] at z5_h; omega) | (have zz := gbI_1 z22_h; rw [if_pos zz] at h9_h; rw [← h9_h] at hq; exact r_wh1 (by omega) hq)
      · skip
        refine w_inc1 (n := 28) (nI 1) dX12_wordHere_25 (by decide) rfl rfl (by decide) ?_
        refine w_goto 2 dX12_wordHere_28 (by decide) ?_
        have zz := gbI_0 z22_h
        rw [if_neg (by rw [zz]; decide)] at h9_h
        rw [nI_add]
        exact ih (w + 1) (by omega) h9_h

set_option maxRecDepth 20000 in
theorem r_wordHere {d : Nat} {M : dk_Mem} {Q : Option Value → dk_Mem → Prop} {bt : Nat → Nat} {n : Nat} (hL : rLT bt n M) {b e : Nat} (hb : M.1 104 7 = nI b) (he : M.1 104 8 = nI e) (hbe : b ≤ e) (hen : e ≤ n) (hq : Q (some (.int (nI (lx_w bt b (e - b))))) M) : dk_Call (d + 1) mX12_wordHere [.ref 104] M Q := by
  refine dk_enter [some (.ref 104), none] (by decide) (fun _ => rfl) (fun _ => Nat.le_of_ble_eq_true rfl) ?_
  refine w_iconst (n := 1) (nI 0) dX12_wordHere_0 (by decide) rfl ?_
  refine w_is1 (n := 2) dX12_wordHere_1 rfl rfl (by decide) ?_
  exact r_whL hL hb he hbe hen hq 18 0 rfl rfl

theorem lx_so : ∀ c, c < 256 → ∃ tgt : Nat, Op.lookupswitch.offset [(40, 62), (41, 65), (59, 68), (60, 59), (61, 59), (62, 59)] 71 (nI c).toInt = (tgt : Int) ∧ ((tgt = 59 ∧ lx_s c = 21) ∨ (tgt = 62 ∧ lx_s c = 22) ∨ (tgt = 65 ∧ lx_s c = 23) ∨ (tgt = 68 ∧ lx_s c = 24) ∨ (tgt = 71 ∧ lx_s c = 26)) := by
  intro c hc
  rw [nI_toInt (by omega)]
  by_cases h1_h : c = 40; (subst h1_h; exact ⟨62, rfl, by decide⟩)
  by_cases h2_h : c = 41; (subst h2_h; exact ⟨65, rfl, by decide⟩)
  by_cases h3_h : c = 59; (subst h3_h; exact ⟨68, rfl, by decide⟩)
  by_cases h4_h : c = 60; (subst h4_h; exact ⟨59, rfl, by decide⟩)
  by_cases h5_h : c = 61; (subst h5_h; exact ⟨59, rfl, by decide⟩)
  by_cases h6_h : c = 62; (subst h6_h; exact ⟨59, rfl, by decide⟩)
  refine ⟨71, ?_, Or.inr (Or.inr (Or.inr (Or.inr ⟨rfl, ?_⟩)))⟩
  · have g : ∀ v : Nat, c ≠ v → ((v : Int) == (c : Int)) = false := fun v h => by rw [beq_eq_false_iff_ne]; omega
    have g1_h := g 40 h1_h
    have g2_h := g 41 h2_h
    have g3_h := g 59 h3_h
    have g4_h := g 60 h4_h
    have g5_h := g 61 h5_h
    have g6_h := g 62 h6_h
    simp only [Op.lookupswitch.offset]
    simp_all
  · unfold lx_s
    rw [if_neg (by omega), if_neg h1_h, if_neg h2_h, if_neg h3_h]

set_option maxRecDepth 20000 in
theorem r_signOf {d : Nat} {M : dk_Mem} {Q : Option Value → dk_Mem → Prop} {c : Nat} (hc : c < 256) (hq : Q (some (.int (nI (lx_s c)))) M) : dk_Call d mX12_signOf [.int (nI c)] M Q := by
  refine dk_enter [some (.int (nI c))] (by decide) (fun _ => rfl) (fun _ => Nat.le_of_ble_eq_true rfl) ?_
  refine w_il0 (n := 1) dX12_signOf_0 rfl ?_
  obtain ⟨tgt, h9_h, hh⟩ := lx_so c hc
  rcases hh with ⟨e1_h, e2_h⟩ | ⟨e1_h, e2_h⟩ | ⟨e1_h, e2_h⟩ | ⟨e1_h, e2_h⟩ | ⟨e1_h, e2_h⟩
  · rw [e2_h] at hq
    rw [e1_h] at h9_h
    refine w_look (off := 59) 60 dX12_signOf_1 rfl h9_h (by decide) ?_
    refine w_bipush (n := 62) (nI 21) dX12_signOf_60 (by decide) rfl ?_
    refine w_retI dX12_signOf_62 rfl ?_
    exact hq
  · rw [e2_h] at hq
    rw [e1_h] at h9_h
    refine w_look (off := 62) 63 dX12_signOf_1 rfl h9_h (by decide) ?_
    refine w_bipush (n := 65) (nI 22) dX12_signOf_63 (by decide) rfl ?_
    refine w_retI dX12_signOf_65 rfl ?_
    exact hq
  · rw [e2_h] at hq
    rw [e1_h] at h9_h
    refine w_look (off := 65) 66 dX12_signOf_1 rfl h9_h (by decide) ?_
    refine w_bipush (n := 68) (nI 23) dX12_signOf_66 (by decide) rfl ?_
    refine w_retI dX12_signOf_68 rfl ?_
    exact hq
  · rw [e2_h] at hq
    rw [e1_h] at h9_h
    refine w_look (off := 68) 69 dX12_signOf_1 rfl h9_h (by decide) ?_
    refine w_bipush (n := 71) (nI 24) dX12_signOf_69 (by decide) rfl ?_
    refine w_retI dX12_signOf_71 rfl ?_
    exact hq
  · rw [e2_h] at hq
    rw [e1_h] at h9_h
    refine w_look (off := 71) 72 dX12_signOf_1 rfl h9_h (by decide) ?_
    refine w_bipush (n := 74) (nI 26) dX12_signOf_72 (by decide) rfl ?_
    refine w_retI dX12_signOf_74 rfl ?_
    exact hq
