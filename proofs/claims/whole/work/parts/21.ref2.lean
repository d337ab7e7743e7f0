theorem rr.kind {σ : Nat → Nat} {M : dk_Mem} (hr : rr σ M) {h : Nat} (hh : h < 6) : M.1 105 (35 + 5 * h + 0) = nI (σ (35 + 5 * h)) := hr (35 + 5 * h) (by omega) (by omega) (by omega)
theorem rr.lean {σ : Nat → Nat} {M : dk_Mem} (hr : rr σ M) {h : Nat} (hh : h < 6) : M.1 105 (35 + 5 * h + 1) = nI (σ (36 + 5 * h)) := by
  rw [show 35 + 5 * h + 1 = 36 + 5 * h by omega]; exact hr _ (by omega) (by omega) (by omega)
theorem rr.gap {σ : Nat → Nat} {M : dk_Mem} (hr : rr σ M) {h : Nat} (hh : h < 6) : M.1 105 (35 + 5 * h + 2) = nI (σ (37 + 5 * h)) := by
  rw [show 35 + 5 * h + 2 = 37 + 5 * h by omega]; exact hr _ (by omega) (by omega) (by omega)
theorem rr.room {σ : Nat → Nat} {M : dk_Mem} (hr : rr σ M) {h : Nat} (hh : h < 6) : M.1 105 (35 + 5 * h + 3) = nI (σ (38 + 5 * h)) := by
  rw [show 35 + 5 * h + 3 = 38 + 5 * h by omega]; exact hr _ (by omega) (by omega) (by omega)
theorem rr.fal {σ : Nat → Nat} {M : dk_Mem} (hr : rr σ M) {h : Nat} (hh : h < 6) : M.1 105 (35 + 5 * h + 4) = nI (σ (39 + 5 * h)) := by
  rw [show 35 + 5 * h + 4 = 39 + 5 * h by omega]; exact hr _ (by omega) (by omega) (by omega)
theorem rr.putP {σ : Nat → Nat} {M : dk_Mem} (hr : rr σ M) {h w v k : Nat} (e : 35 + 5 * h + w = k) : rr (sg_up σ k v) (dk_put M 105 (35 + 5 * h + w) (nI v)) := by subst e; exact hr.put
/-- what years touch in the reference -/
def rS (q k : Nat) : Prop := (q = 105 ∧ k < 89 ∧ k ≠ 3 ∧ k ≠ 2) ∨ q = 109
/-- what a whole YEAR touches: SCORE too -/
def rG (q k : Nat) : Prop := (q = 105 ∧ k < 89 ∧ k ≠ 3) ∨ q = 109
theorem rS_G {q k : Nat} (h : rS q k) : rG q k := by
  rcases h with h | h
  · exact Or.inl ⟨h.1, h.2.1, h.2.2.1⟩
  · exact Or.inr h
/-- what is only noise in the reference -/
def rN (q k : Nat) : Prop := q = 107 ∨ q = 109 ∨ q = 110 ∨ q = 111 ∨ (q = 104 ∧ 6 ≤ k ∧ k ≤ 17)
/-- THE RULES in the reference's row: what 'does' answers, wherever that row holds them -/
def rb (w : sg_R) (nr : Nat) (f : Nat → Int32) : Prop := (∀ k y l g a n, w k y l g a n ≤ 2) ∧ ∀ (d h : Nat) (σ : Nat → Nat) (M1 : dk_Mem) (Q : Option Value → dk_Mem → Prop), (∀ k, 89 ≤ k → k < 621 → M1.1 105 k = f k) → rr σ M1 → σ 6 = nr → sg_ok σ → h < 6 → (∀ M2, dk_fr (fun q _ => q = 109) M1 M2 → Q (some (.int (nI (sg_does w σ h)))) M2) → dk_Call (d + 4) mX12_does [.ref 104, .int (nI h)] M1 Q
theorem rr.f109 {σ : Nat → Nat} {M M' : dk_Mem} (h : rr σ M) (hf : dk_fr (fun q _ => q = 109) M M') : rr σ M' := h.fr hf (fun k _ z => by cases z)
theorem rS109 : ∀ q k : Nat, q = 109 → rS q k := fun q k h => Or.inr h
def rT (f : Nat → Int32) (M : dk_Mem) : Prop := ∀ k, 89 ≤ k → k < 621 → M.1 105 k = f k
theorem rT.fr {f : Nat → Int32} {M M' : dk_Mem} (h : rT f M) (hf : dk_fr rG M M') : rT f M' := fun k h1 h2 => (hf.2 105 k (fun z => by rcases z with z | z; omega; cases z)).trans (h k h1 h2)
theorem q_le {a b : Nat} (ha : a < 2 ^ 31) (hb : b < 2 ^ 31) : nI a ≤ nI b ↔ a ≤ b := nI_leI ha hb
theorem q_nz {a : Nat} (ha : a < 2 ^ 31) : nI a = 0 ↔ a = 0 := nI_eq (b := 0) ha (by decide)
theorem q_bit : ∀ s, s < 64 → ∀ h, h < 6 → (nI s >>> (nI h &&& 31)) &&& nI 1 = nI (if s.testBit h then 1 else 0) := by decide +kernel
theorem q_shl : ∀ h, h < 6 → ∀ a, a < 2 → nI a <<< (nI h &&& 31) = nI (a * 2 ^ h) := by decide +kernel
theorem q_or : ∀ h, h < 6 → ∀ s, s < 2 ^ h → ∀ a, a < 2 → nI s ||| nI (a * 2 ^ h) = nI (s + a * 2 ^ h) := by decide +kernel
theorem sg_tip_lt (σ : Nat → Nat) : ∀ n, sg_tip σ n < 2 ^ n
  | 0 => by simp [sg_tip]
  | n + 1 => by
    have := sg_tip_lt σ n
    rw [sg_tip, Nat.pow_succ]
    split <;> omega
/-- the FALLEN as a set -/
def sg_set (σ : Nat → Nat) : Nat → Nat
  | 0 => 0
  | n + 1 => sg_set σ n + σ (39 + 5 * n) * 2 ^ n
theorem sg_set_lt {σ : Nat → Nat} (o : sg_ok σ) : ∀ n, n ≤ 6 → sg_set σ n < 2 ^ n
  | 0, _ => by simp [sg_set]
  | n + 1, h => by
    have h1 := sg_set_lt o n (by omega)
    have h2 := o.fal (h := n) (by omega)
    rw [sg_set, Nat.pow_succ]
    rcases (show σ (39 + 5 * n) = 0 ∨ σ (39 + 5 * n) = 1 by omega) with e | e <;> rw [e] <;> omega
theorem pow6 {n : Nat} (h : n ≤ 6) : 2 ^ n ≤ 64 := by
  have : (2 : Nat) ^ n ≤ 2 ^ 6 := Nat.pow_le_pow_right (by decide) h
  omega

set_option maxRecDepth 20000 in
theorem r_leansOf {d : Nat} {M : dk_Mem} {Q : Option Value → dk_Mem → Prop} {σ : Nat → Nat} (hr : rr σ M) (o : sg_ok σ) {h : Nat} (hh : h < 6) (hq : Q (some (.int (nI (sg_leans σ h)))) M) : dk_Call (d + 2) mX12_leansOf [.ref 104, .int (nI h)] M Q := by
  refine dk_enter [some (.ref 104), some (.int (nI h))] (by decide) (fun _ => rfl) (fun _ => Nat.le_of_ble_eq_true rfl) ?_
  refine w_al0 (n := 1) dX12_leansOf_0 rfl ?_
  refine w_il1 (n := 2) dX12_leansOf_1 rfl ?_
  refine w_iconst (n := 3) (nI 0) dX12_leansOf_2 (by decide) rfl ?_
  refine w_cV2 (n := 6) pl_104 cl_12 s0_X12_of k_X12_69 (Nat.le_of_ble_eq_true rfl) dX12_leansOf_3 rfl (r_of (w := 0) (by omega) (hr.kind hh) ?_)
  refine w_al0 (n := 7) dX12_leansOf_6 rfl ?_
  refine w_cV0 (n := 10) pl_104 cl_12 s0_X12_word k_X12_73 (Nat.le_of_ble_eq_true rfl) dX12_leansOf_7 rfl (r_word hr o ?_)
  refine w_al0 (n := 11) dX12_leansOf_10 rfl ?_
  refine w_cV0 (n := 14) pl_104 cl_12 s0_X12_hush k_X12_77 (Nat.le_of_ble_eq_true rfl) dX12_leansOf_11 rfl (r_hush hr o ?_)
  refine w_al0 (n := 15) dX12_leansOf_14 rfl ?_
  refine g_R (n := 18) f_X12_9_12 pl_104 rf_104_0 dX12_leansOf_15 rfl ?_
  refine w_iconst (n := 19) (nI 1) dX12_leansOf_18 (by decide) rfl ?_
  refine i_iald (n := 20) pl_105 (j := 1) rfl (by decide) (by decide) (hr 1 (by decide) (by decide) (by decide)) dX12_leansOf_19 rfl ?_
  refine w_cS4 (n := 23) s0_X12_leansBy k_X12_80 (Nat.le_of_ble_eq_true rfl) dX12_leansOf_20 rfl (r_leansBy (o.kind hh) o.wd o.hs o.2.2.1 ?_)
  refine w_retI dX12_leansOf_23 rfl ?_
  exact hq

set_option maxRecDepth 20000 in
theorem r_bearsOf {d : Nat} {M : dk_Mem} {Q : Option Value → dk_Mem → Prop} {σ : Nat → Nat} (hr : rr σ M) (o : sg_ok σ) {h : Nat} (hh : h < 6) (hq : Q (some (.int (nI (sg_bears σ h)))) M) : dk_Call (d + 1) mX12_bearsOf [.ref 104, .int (nI h)] M Q := by
  refine dk_enter [some (.ref 104), some (.int (nI h))] (by decide) (fun _ => rfl) (fun _ => Nat.le_of_ble_eq_true rfl) ?_
  refine w_al0 (n := 1) dX12_bearsOf_0 rfl ?_
  refine w_il1 (n := 2) dX12_bearsOf_1 rfl ?_
  refine w_iconst (n := 3) (nI 0) dX12_bearsOf_2 (by decide) rfl ?_
  refine w_cV2 (n := 6) pl_104 cl_12 s0_X12_of k_X12_69 (Nat.le_of_ble_eq_true rfl) dX12_bearsOf_3 rfl (r_of (w := 0) (by omega) (hr.kind hh) ?_)
  refine w_al0 (n := 7) dX12_bearsOf_6 rfl ?_
  refine w_il1 (n := 8) dX12_bearsOf_7 rfl ?_
  refine w_iconst (n := 9) (nI 2) dX12_bearsOf_8 (by decide) rfl ?_
  refine w_cV2 (n := 12) pl_104 cl_12 s0_X12_of k_X12_69 (Nat.le_of_ble_eq_true rfl) dX12_bearsOf_9 rfl (r_of (w := 2) (by omega) (hr.gap hh) ?_)
  refine w_il1 (n := 13) dX12_bearsOf_12 rfl ?_
  refine w_cS3 (n := 16) s0_X12_bearsBy k_X12_84 (Nat.le_of_ble_eq_true rfl) dX12_bearsOf_13 rfl (r_bearsBy (o.kind hh) (o.gap hh) hh ?_)
  refine w_retI dX12_bearsOf_16 rfl ?_
  exact hq

set_option maxRecDepth 20000 in
theorem r_paysOf {d : Nat} {M : dk_Mem} {Q : Option Value → dk_Mem → Prop} {σ : Nat → Nat} (hr : rr σ M) (o : sg_ok σ) {h : Nat} (hh : h < 6) (hq : Q (some (.int (nI (sg_pays σ h)))) M) : dk_Call (d + 2) mX12_paysOf [.ref 104, .int (nI h)] M Q := by
  have b1 := o.fal hh
  have b2 := o.lean hh
  have b3 := o.wd
  have b4 := (o.bears hh).2
  have b5 := o.gap hh
  have e1 : nI (σ (36 + 5 * h)) + nI 6 * nI (sg_wd σ) < nI (sg_bears σ h) ↔ ¬ sg_bears σ h ≤ σ (36 + 5 * h) + 6 * sg_wd σ := by rw [pk_mul, nI_add, nI_ltI (by omega) (by omega)]; omega
  unfold sg_pays at hq
  refine dk_enter [some (.ref 104), some (.int (nI h))] (by decide) (fun _ => rfl) (fun _ => Nat.le_of_ble_eq_true rfl) ?_
  refine w_al0 (n := 1) dX12_paysOf_0 rfl ?_
  refine w_il1 (n := 2) dX12_paysOf_1 rfl ?_
  refine w_iconst (n := 3) (nI 4) dX12_paysOf_2 (by decide) rfl ?_
  refine w_cV2 (n := 6) pl_104 cl_12 s0_X12_of k_X12_69 (Nat.le_of_ble_eq_true rfl) dX12_paysOf_3 rfl (r_of (w := 4) (by omega) (hr.fal hh) ?_)
  refine w_if_ne (n := 9) 42 dX12_paysOf_6 (by decide) rfl (fun z6 => ?_) (fun z6 => ?_)
  · skip
    refine w_iconst (n := 43) (nI 0) dX12_paysOf_42 (by decide) rfl ?_
    refine w_retI dX12_paysOf_43 rfl ?_
    first | (rw [if_pos ⟨(q_nz (by omega)).mp z6, Decidable.not_not.mp (fun z => z28 (e1.mpr z))⟩] at hq; exact dk_q (nI_add 4 _) hq) | (rw [if_neg (fun z => z6 ((q_nz (by omega)).mpr z.1))] at hq; exact hq) | (rw [if_neg (fun z => (e1.mp z28) z.2)] at hq; exact hq)
  · skip
    refine w_al0 (n := 10) dX12_paysOf_9 rfl ?_
    refine w_il1 (n := 11) dX12_paysOf_10 rfl ?_
    refine w_iconst (n := 12) (nI 1) dX12_paysOf_11 (by decide) rfl ?_
    refine w_cV2 (n := 15) pl_104 cl_12 s0_X12_of k_X12_69 (Nat.le_of_ble_eq_true rfl) dX12_paysOf_12 rfl (r_of (w := 1) (by omega) (hr.lean hh) ?_)
    refine w_bipush (n := 17) (nI 6) dX12_paysOf_15 (by decide) rfl ?_
    refine w_al0 (n := 18) dX12_paysOf_17 rfl ?_
    refine w_cV0 (n := 21) pl_104 cl_12 s0_X12_word k_X12_73 (Nat.le_of_ble_eq_true rfl) dX12_paysOf_18 rfl (r_word hr o ?_)
    refine w_imul (n := 22) dX12_paysOf_21 rfl ?_
    refine w_iadd (n := 23) dX12_paysOf_22 rfl ?_
    refine w_al0 (n := 24) dX12_paysOf_23 rfl ?_
    refine w_il1 (n := 25) dX12_paysOf_24 rfl ?_
    refine w_cV1 (n := 28) pl_104 cl_12 s0_X12_bearsOf k_X12_88 (Nat.le_of_ble_eq_true rfl) dX12_paysOf_25 rfl (r_bearsOf hr o hh ?_)
    refine w_ic_lt (n := 31) 42 dX12_paysOf_28 (by decide) rfl (fun z28 => ?_) (fun z28 => ?_)
    · skip
      refine w_iconst (n := 43) (nI 0) dX12_paysOf_42 (by decide) rfl ?_
      refine w_retI dX12_paysOf_43 rfl ?_
      first | (rw [if_pos ⟨(q_nz (by omega)).mp z6, Decidable.not_not.mp (fun z => z28 (e1.mpr z))⟩] at hq; exact dk_q (nI_add 4 _) hq) | (rw [if_neg (fun z => z6 ((q_nz (by omega)).mpr z.1))] at hq; exact hq) | (rw [if_neg (fun z => (e1.mp z28) z.2)] at hq; exact hq)
    · skip
      refine w_iconst (n := 32) (nI 4) dX12_paysOf_31 (by decide) rfl ?_
      refine w_al0 (n := 33) dX12_paysOf_32 rfl ?_
      refine w_il1 (n := 34) dX12_paysOf_33 rfl ?_
      refine w_iconst (n := 35) (nI 2) dX12_paysOf_34 (by decide) rfl ?_
      refine w_cV2 (n := 38) pl_104 cl_12 s0_X12_of k_X12_69 (Nat.le_of_ble_eq_true rfl) dX12_paysOf_35 rfl (r_of (w := 2) (by omega) (hr.gap hh) ?_)
      refine w_iadd (n := 39) dX12_paysOf_38 rfl ?_
      refine w_goto 43 dX12_paysOf_39 (by decide) ?_
      refine w_retI dX12_paysOf_43 rfl ?_
      first | (rw [if_pos ⟨(q_nz (by omega)).mp z6, Decidable.not_not.mp (fun z => z28 (e1.mpr z))⟩] at hq; exact dk_q (nI_add 4 _) hq) | (rw [if_neg (fun z => z6 ((q_nz (by omega)).mpr z.1))] at hq; exact hq) | (rw [if_neg (fun z => (e1.mp z28) z.2)] at hq; exact hq)

set_option maxRecDepth 20000 in
theorem r_mayFall {d : Nat} {M : dk_Mem} {Q : Option Value → dk_Mem → Prop} {σ : Nat → Nat} (hr : rr σ M) (o : sg_ok σ) {h : Nat} (hh : h < 6) {w : sg_R} {f : Nat → Int32} (hb : rb w (σ 6) f) (hT : rT f M) (h1 : ∀ M2, dk_fr (fun q _ => q = 109) M M2 → sg_may w σ h → Q (some (.int 1)) M2) (h0 : ∀ M2, dk_fr (fun q _ => q = 109) M M2 → ¬ sg_may w σ h → Q (some (.int 0)) M2) : dk_Call (d + 5) mX12_mayFall [.ref 104, .int (nI h)] M Q := by
  have b1 := o.pays hh
  have b2 : sg_does w σ h ≤ 2 := hb.1 _ _ _ _ _ _
  refine dk_enter [some (.ref 104), some (.int (nI h))] (by decide) (fun _ => rfl) (fun _ => Nat.le_of_ble_eq_true rfl) ?_
  refine w_al0 (n := 1) dX12_mayFall_0 rfl ?_
  refine w_il1 (n := 2) dX12_mayFall_1 rfl ?_
  refine w_cV1 (n := 5) pl_104 cl_12 s0_X12_paysOf k_X12_91 (Nat.le_of_ble_eq_true rfl) dX12_mayFall_2 rfl (r_paysOf hr o hh ?_)
  refine w_if_le (n := 8) 20 dX12_mayFall_5 (by decide) rfl (fun z5 => ?_) (fun z5 => ?_)
  · skip
    refine w_iconst (n := 21) (nI 0) dX12_mayFall_20 (by decide) rfl ?_
    refine w_retZ0 dX12_mayFall_21 rfl ?_
    first | exact h1 _ hf ⟨by rw [show (0 : Int32) = nI 0 from rfl, q_le (by omega) (by omega)] at z5; omega, (q_nz (by omega)).mp z13⟩ | exact h0 _ hf (fun z => z13 ((q_nz (by omega)).mpr z.2)) | exact h0 _ dk_fr.rf (fun z => by rw [show (0 : Int32) = nI 0 from rfl, q_le (by omega) (by omega)] at z5; have := z.1; omega)
  · skip
    refine w_al0 (n := 9) dX12_mayFall_8 rfl ?_
    refine w_il1 (n := 10) dX12_mayFall_9 rfl ?_
    refine w_cV1 (n := 13) pl_104 cl_12 s0_X12_does k_X12_94 (Nat.le_of_ble_eq_true rfl) dX12_mayFall_10 rfl (hb.2 _ _ _ _ _ hT hr rfl o hh (fun M2 hf => ?_))
    refine w_if_ne (n := 16) 20 dX12_mayFall_13 (by decide) rfl (fun z13 => ?_) (fun z13 => ?_)
    · skip
      refine w_iconst (n := 21) (nI 0) dX12_mayFall_20 (by decide) rfl ?_
      refine w_retZ0 dX12_mayFall_21 rfl ?_
      first | exact h1 _ hf ⟨by rw [show (0 : Int32) = nI 0 from rfl, q_le (by omega) (by omega)] at z5; omega, (q_nz (by omega)).mp z13⟩ | exact h0 _ hf (fun z => z13 ((q_nz (by omega)).mpr z.2)) | exact h0 _ dk_fr.rf (fun z => by rw [show (0 : Int32) = nI 0 from rfl, q_le (by omega) (by omega)] at z5; have := z.1; omega)
    · skip
      refine w_iconst (n := 17) (nI 1) dX12_mayFall_16 (by decide) rfl ?_
      refine w_goto 21 dX12_mayFall_17 (by decide) ?_
      refine w_retZ1 dX12_mayFall_21 rfl ?_
      first | exact h1 _ hf ⟨by rw [show (0 : Int32) = nI 0 from rfl, q_le (by omega) (by omega)] at z5; omega, (q_nz (by omega)).mp z13⟩ | exact h0 _ hf (fun z => z13 ((q_nz (by omega)).mpr z.2)) | exact h0 _ dk_fr.rf (fun z => by rw [show (0 : Int32) = nI 0 from rfl, q_le (by omega) (by omega)] at z5; have := z.1; omega)

def sg_un (k a : Nat) : Prop := a = 0 ∨ k = a ∨ (a = 2 ∧ k = 3) ∨ (a = 4 ∧ k = 5)
theorem q_un {k a : Nat} (hk : k ≤ 5) (ha : a ≤ 5) : True := trivial
set_option maxRecDepth 20000 in
theorem r_isUnder {d : Nat} {M : dk_Mem} {Q : Option Value → dk_Mem → Prop} {k a : Nat} (hk : k ≤ 5) (ha : a ≤ 5) (h1 : sg_un k a → Q (some (.int 1)) M) (h0 : ¬ sg_un k a → Q (some (.int 0)) M) : dk_Call d mX12_isUnder [.int (nI k), .int (nI a)] M Q := by
  have e0 : nI a = 0 ↔ a = 0 := q_nz (by omega)
  have e1 : nI k = nI a ↔ k = a := nI_eq (by omega) (by omega)
  have e2 : nI a = nI 2 ↔ a = 2 := nI_eq (by omega) (by decide)
  have e3 : nI k = nI 3 ↔ k = 3 := nI_eq (by omega) (by decide)
  have e4 : nI a = nI 4 ↔ a = 4 := nI_eq (by omega) (by decide)
  have e5 : nI k = nI 5 ↔ k = 5 := nI_eq (by omega) (by decide)
  refine dk_enter [some (.int (nI k)), some (.int (nI a))] (by decide) (fun _ => rfl) (fun _ => Nat.le_of_ble_eq_true rfl) ?_
  refine w_il1 (n := 1) dX12_isUnder_0 rfl ?_
  refine w_if_eq (n := 4) 29 dX12_isUnder_1 (by decide) rfl (fun z1 => ?_) (fun z1 => ?_)
  · skip
    refine w_iconst (n := 30) (nI 1) dX12_isUnder_29 (by decide) rfl ?_
    refine w_goto 34 dX12_isUnder_30 (by decide) ?_
    refine w_retZ1 dX12_isUnder_34 rfl ?_
    simp only [e0, e1, e2, e3, e4, e5] at *
    exact h1 (by unfold sg_un; omega)
  · skip
    refine w_il0 (n := 5) dX12_isUnder_4 rfl ?_
    refine w_il1 (n := 6) dX12_isUnder_5 rfl ?_
    refine w_ic_eq (n := 9) 29 dX12_isUnder_6 (by decide) rfl (fun z6 => ?_) (fun z6 => ?_)
    · skip
      refine w_iconst (n := 30) (nI 1) dX12_isUnder_29 (by decide) rfl ?_
      refine w_goto 34 dX12_isUnder_30 (by decide) ?_
      refine w_retZ1 dX12_isUnder_34 rfl ?_
      simp only [e0, e1, e2, e3, e4, e5] at *
      exact h1 (by unfold sg_un; omega)
    · skip
      refine w_il1 (n := 10) dX12_isUnder_9 rfl ?_
      refine w_iconst (n := 11) (nI 2) dX12_isUnder_10 (by decide) rfl ?_
      refine w_ic_ne (n := 14) 19 dX12_isUnder_11 (by decide) rfl (fun z11 => ?_) (fun z11 => ?_)
      · skip
        refine w_il1 (n := 20) dX12_isUnder_19 rfl ?_
        refine w_iconst (n := 21) (nI 4) dX12_isUnder_20 (by decide) rfl ?_
        refine w_ic_ne (n := 24) 33 dX12_isUnder_21 (by decide) rfl (fun z21 => ?_) (fun z21 => ?_)
        · skip
          refine w_iconst (n := 34) (nI 0) dX12_isUnder_33 (by decide) rfl ?_
          refine w_retZ0 dX12_isUnder_34 rfl ?_
          simp only [e0, e1, e2, e3, e4, e5] at *
          exact h0 (by unfold sg_un; omega)
        · skip
          refine w_il0 (n := 25) dX12_isUnder_24 rfl ?_
          refine w_iconst (n := 26) (nI 5) dX12_isUnder_25 (by decide) rfl ?_
          refine w_ic_ne (n := 29) 33 dX12_isUnder_26 (by decide) rfl (fun z26 => ?_) (fun z26 => ?_)
          · skip
            refine w_iconst (n := 34) (nI 0) dX12_isUnder_33 (by decide) rfl ?_
            refine w_retZ0 dX12_isUnder_34 rfl ?_
            simp only [e0, e1, e2, e3, e4, e5] at *
            exact h0 (by unfold sg_un; omega)
          · skip
            refine w_iconst (n := 30) (nI 1) dX12_isUnder_29 (by decide) rfl ?_
            refine w_goto 34 dX12_isUnder_30 (by decide) ?_
            refine w_retZ1 dX12_isUnder_34 rfl ?_
            simp only [e0, e1, e2, e3, e4, e5] at *
            exact h1 (by unfold sg_un; omega)
      · skip
        refine w_il0 (n := 15) dX12_isUnder_14 rfl ?_
        refine w_iconst (n := 16) (nI 3) dX12_isUnder_15 (by decide) rfl ?_
        refine w_ic_eq (n := 19) 29 dX12_isUnder_16 (by decide) rfl (fun z16 => ?_) (fun z16 => ?_)
        · skip
          refine w_iconst (n := 30) (nI 1) dX12_isUnder_29 (by decide) rfl ?_
          refine w_goto 34 dX12_isUnder_30 (by decide) ?_
          refine w_retZ1 dX12_isUnder_34 rfl ?_
          simp only [e0, e1, e2, e3, e4, e5] at *
          exact h1 (by unfold sg_un; omega)
        · skip
          refine w_il1 (n := 20) dX12_isUnder_19 rfl ?_
          refine w_iconst (n := 21) (nI 4) dX12_isUnder_20 (by decide) rfl ?_
          refine w_ic_ne (n := 24) 33 dX12_isUnder_21 (by decide) rfl (fun z21 => ?_) (fun z21 => ?_)
          · skip
            refine w_iconst (n := 34) (nI 0) dX12_isUnder_33 (by decide) rfl ?_
            refine w_retZ0 dX12_isUnder_34 rfl ?_
            simp only [e0, e1, e2, e3, e4, e5] at *
            exact h0 (by unfold sg_un; omega)
          · skip
            refine w_il0 (n := 25) dX12_isUnder_24 rfl ?_
            refine w_iconst (n := 26) (nI 5) dX12_isUnder_25 (by decide) rfl ?_
            refine w_ic_ne (n := 29) 33 dX12_isUnder_26 (by decide) rfl (fun z26 => ?_) (fun z26 => ?_)
            · skip
              refine w_iconst (n := 34) (nI 0) dX12_isUnder_33 (by decide) rfl ?_
              refine w_retZ0 dX12_isUnder_34 rfl ?_
              simp only [e0, e1, e2, e3, e4, e5] at *
              exact h0 (by unfold sg_un; omega)
            · skip
              refine w_iconst (n := 30) (nI 1) dX12_isUnder_29 (by decide) rfl ?_
              refine w_goto 34 dX12_isUnder_30 (by decide) ?_
              refine w_retZ1 dX12_isUnder_34 rfl ?_
              simp only [e0, e1, e2, e3, e4, e5] at *
              exact h1 (by unfold sg_un; omega)

def sg_of (w v : Int32) : Prop := (w = nI 1 ∧ nI 0 ≤ v ∧ v ≤ nI 99) ∨ (w = nI 2 ∧ nI 0 ≤ v ∧ v ≤ nI 9) ∨ (w = nI 3 ∧ nI 0 ≤ v ∧ v ≤ nI 5) ∨ (w = nI 4 ∧ nI 0 ≤ v ∧ v ≤ nI 1)
set_option maxRecDepth 20000 in
theorem r_isOf {d : Nat} {M : dk_Mem} {Q : Option Value → dk_Mem → Prop} {w v : Int32} (h1 : sg_of w v → Q (some (.int 1)) M) (h0 : ¬ sg_of w v → Q (some (.int 0)) M) : dk_Call (d + 2) mX12_isOf [.int w, .int v] M Q := by
  refine dk_enter [some (.int w), some (.int v)] (by decide) (fun _ => rfl) (fun _ => Nat.le_of_ble_eq_true rfl) ?_
  refine w_il0 (n := 1) dX12_isOf_0 rfl ?_
  by_cases hs1_1 : w = (nI 1)
  · first | subst hs1_1 | rw [hs1_1]
    refine w_tabIn 32 dX12_isOf_1 (by decide) (by decide) rfl (by decide) ?_
    refine w_il1 (n := 33) dX12_isOf_32 rfl ?_
    refine w_iconst (n := 34) (nI 0) dX12_isOf_33 (by decide) rfl ?_
    refine w_bipush (n := 36) (nI 99) dX12_isOf_34 (by decide) rfl ?_
    refine w_cS3 (n := 39) s0_X12_in k_X12_61 (Nat.le_of_ble_eq_true rfl) dX12_isOf_36 rfl (r_in (fun t36 => ?_) (fun t36 => ?_))
    · skip
      refine w_retZ1 dX12_isOf_39 rfl ?_
      exact h1 (by unfold sg_of; first | exact Or.inl ⟨rfl, t36⟩ | exact Or.inr (Or.inl ⟨rfl, t44⟩) | exact Or.inr (Or.inr (Or.inl ⟨rfl, t49⟩)) | exact Or.inr (Or.inr (Or.inr ⟨rfl, t56⟩)))
    · skip
      refine w_retZ0 dX12_isOf_39 rfl ?_
      exact h0 (fun z => by
        unfold sg_of at z
        rcases z with z | z | z | z
        · first | exact t36 z.2 | exact absurd z.1 (by decide) | exact hs1_1 z.1
        · first | exact t44 z.2 | exact absurd z.1 (by decide) | exact hs1_2 z.1
        · first | exact t49 z.2 | exact absurd z.1 (by decide) | exact hs1_3 z.1
        · first | exact t56 z.2 | exact absurd z.1 (by decide) | exact hs1_4 z.1)
  by_cases hs1_2 : w = (nI 2)
  · first | subst hs1_2 | rw [hs1_2]
    refine w_tabIn 40 dX12_isOf_1 (by decide) (by decide) rfl (by decide) ?_
    refine w_il1 (n := 41) dX12_isOf_40 rfl ?_
    refine w_iconst (n := 42) (nI 0) dX12_isOf_41 (by decide) rfl ?_
    refine w_bipush (n := 44) (nI 9) dX12_isOf_42 (by decide) rfl ?_
    refine w_cS3 (n := 47) s0_X12_in k_X12_61 (Nat.le_of_ble_eq_true rfl) dX12_isOf_44 rfl (r_in (fun t44 => ?_) (fun t44 => ?_))
    · skip
      refine w_retZ1 dX12_isOf_47 rfl ?_
      exact h1 (by unfold sg_of; first | exact Or.inl ⟨rfl, t36⟩ | exact Or.inr (Or.inl ⟨rfl, t44⟩) | exact Or.inr (Or.inr (Or.inl ⟨rfl, t49⟩)) | exact Or.inr (Or.inr (Or.inr ⟨rfl, t56⟩)))
    · skip
      refine w_retZ0 dX12_isOf_47 rfl ?_
      exact h0 (fun z => by
        unfold sg_of at z
        rcases z with z | z | z | z
        · first | exact t36 z.2 | exact absurd z.1 (by decide) | exact hs1_1 z.1
        · first | exact t44 z.2 | exact absurd z.1 (by decide) | exact hs1_2 z.1
        · first | exact t49 z.2 | exact absurd z.1 (by decide) | exact hs1_3 z.1
        · first | exact t56 z.2 | exact absurd z.1 (by decide) | exact hs1_4 z.1)
  by_cases hs1_3 : w = (nI 3)
  · first | subst hs1_3 | rw [hs1_3]
    refine w_tabIn 48 dX12_isOf_1 (by decide) (by decide) rfl (by decide) ?_
    refine w_il1 (n := 49) dX12_isOf_48 rfl ?_
    refine w_cS1 (n := 52) s0_X12_isRoom k_X12_97 (Nat.le_of_ble_eq_true rfl) dX12_isOf_49 rfl (r_isRoom (fun t49 => ?_) (fun t49 => ?_))
    · skip
      refine w_retZ1 dX12_isOf_52 rfl ?_
      exact h1 (by unfold sg_of; first | exact Or.inl ⟨rfl, t36⟩ | exact Or.inr (Or.inl ⟨rfl, t44⟩) | exact Or.inr (Or.inr (Or.inl ⟨rfl, t49⟩)) | exact Or.inr (Or.inr (Or.inr ⟨rfl, t56⟩)))
    · skip
      refine w_retZ0 dX12_isOf_52 rfl ?_
      exact h0 (fun z => by
        unfold sg_of at z
        rcases z with z | z | z | z
        · first | exact t36 z.2 | exact absurd z.1 (by decide) | exact hs1_1 z.1
        · first | exact t44 z.2 | exact absurd z.1 (by decide) | exact hs1_2 z.1
        · first | exact t49 z.2 | exact absurd z.1 (by decide) | exact hs1_3 z.1
        · first | exact t56 z.2 | exact absurd z.1 (by decide) | exact hs1_4 z.1)
  by_cases hs1_4 : w = (nI 4)
  · first | subst hs1_4 | rw [hs1_4]
    refine w_tabIn 53 dX12_isOf_1 (by decide) (by decide) rfl (by decide) ?_
    refine w_il1 (n := 54) dX12_isOf_53 rfl ?_
    refine w_iconst (n := 55) (nI 0) dX12_isOf_54 (by decide) rfl ?_
    refine w_iconst (n := 56) (nI 1) dX12_isOf_55 (by decide) rfl ?_
    refine w_cS3 (n := 59) s0_X12_in k_X12_61 (Nat.le_of_ble_eq_true rfl) dX12_isOf_56 rfl (r_in (fun t56 => ?_) (fun t56 => ?_))
    · skip
      refine w_retZ1 dX12_isOf_59 rfl ?_
      exact h1 (by unfold sg_of; first | exact Or.inl ⟨rfl, t36⟩ | exact Or.inr (Or.inl ⟨rfl, t44⟩) | exact Or.inr (Or.inr (Or.inl ⟨rfl, t49⟩)) | exact Or.inr (Or.inr (Or.inr ⟨rfl, t56⟩)))
    · skip
      refine w_retZ0 dX12_isOf_59 rfl ?_
      exact h0 (fun z => by
        unfold sg_of at z
        rcases z with z | z | z | z
        · first | exact t36 z.2 | exact absurd z.1 (by decide) | exact hs1_1 z.1
        · first | exact t44 z.2 | exact absurd z.1 (by decide) | exact hs1_2 z.1
        · first | exact t49 z.2 | exact absurd z.1 (by decide) | exact hs1_3 z.1
        · first | exact t56 z.2 | exact absurd z.1 (by decide) | exact hs1_4 z.1)
  refine w_tabOut 60 dX12_isOf_1 (dk_outL1_4 hs1_1 hs1_2 hs1_3 hs1_4) (by decide) ?_
  refine w_iconst (n := 61) (nI 0) dX12_isOf_60 (by decide) rfl ?_
  refine w_retZ0 dX12_isOf_61 rfl ?_
  exact h0 (fun z => by
    unfold sg_of at z
    rcases z with z | z | z | z
    · first | exact t36 z.2 | exact absurd z.1 (by decide) | exact hs1_1 z.1
    · first | exact t44 z.2 | exact absurd z.1 (by decide) | exact hs1_2 z.1
    · first | exact t49 z.2 | exact absurd z.1 (by decide) | exact hs1_3 z.1
    · first | exact t56 z.2 | exact absurd z.1 (by decide) | exact hs1_4 z.1)

def dk_cp (f g : Nat → Int32) (n : Nat) : Nat → Int32 := fun k => if k < n then f k else g k
theorem dk_cp_s {M : dk_Mem} {f g : Nat → Int32} {b i : Nat} : dk_put (dk_row M b (dk_cp f g i)) b i (f i) = dk_row M b (dk_cp f g (i + 1)) := by
  refine Prod.ext (funext fun q => funext fun j => ?_) rfl
  simp only [dk_put, dk_row, dk_cp]
  by_cases hq : q = b
  · by_cases hj : j = i
    · simp [hq, hj]
    · simp only [hq, hj, true_and, if_false, if_true]
      by_cases h1 : j < i
      · rw [if_pos h1, if_pos (by omega)]
      · rw [if_neg h1, if_neg (by omega)]
  · simp [hq]
theorem dk_cp_0 {M : dk_Mem} {f : Nat → Int32} {b : Nat} : M = dk_row M b (dk_cp f (M.1 b) 0) := by
  refine Prod.ext (funext fun q => funext fun j => ?_) rfl
  simp only [dk_row, dk_cp]
  by_cases hq : q = b <;> simp [hq]
theorem dk_row_at {M : dk_Mem} {p : Nat} {f : Nat → Int32} (j : Nat) : (dk_row M p f).1 p j = f j := if_pos rfl
theorem dk_row_k {M : dk_Mem} {p q : Nat} {f : Nat → Int32} (h : q ≠ p) (j : Nat) : (dk_row M p f).1 q j = M.1 q j := if_neg h
set_option maxRecDepth 20000 in
theorem r_copyL {d : Nat} {M : dk_Mem} {Q : Option Value → dk_Mem → Prop} {a b : Nat} (ha : dk_ar a 20 621) (hb : dk_ar b 20 621) (hab : a ≠ b) (hq : Q none (dk_row M b (dk_cp (M.1 a) (M.1 b) 621))) : ∀ (n i : Nat), i ≤ 621 → 621 - i < n → dk_W d mX12_copyAll 2 [some (.ref a), some (.ref b), some (.int (nI i))] [] (dk_row M b (dk_cp (M.1 a) (M.1 b) i)) Q := by
  intro n
  induction n with
  | zero => intro i _ h; omega
  | succ n ih =>
    intro i hi hn
    refine w_il2 (n := 3) dX12_copyAll_2 rfl ?_
    refine w_sipush (n := 6) (nI 621) dX12_copyAll_3 (by decide) rfl ?_
    refine w_ic_ge (n := 9) 21 dX12_copyAll_6 (by decide) rfl (fun z6 => ?_) (fun z6 => ?_)
    · skip
      refine w_ret dX12_copyAll_21 rfl ?_
      rw [show i = 621 by rw [q_le (by decide) (by omega)] at z6; omega]
      exact hq
    · skip
      refine w_al1 (n := 10) dX12_copyAll_9 rfl ?_
      refine w_il2 (n := 11) dX12_copyAll_10 rfl ?_
      refine w_al0 (n := 12) dX12_copyAll_11 rfl ?_
      refine w_il2 (n := 13) dX12_copyAll_12 rfl ?_
      refine i_iald (n := 14) ha (j := i) rfl (by rw [q_le (by decide) (by omega)] at z6; omega) (by decide) (dk_row_k hab i) dX12_copyAll_13 rfl ?_
      refine i_iast (n := 15) hb (j := i) rfl (by rw [q_le (by decide) (by omega)] at z6; omega) (by decide) dX12_copyAll_14 rfl ?_
      refine w_inc2 (n := 18) (nI 1) dX12_copyAll_15 (by decide) rfl rfl (by decide) ?_
      refine w_goto 2 dX12_copyAll_18 (by decide) ?_
      rw [nI_add]
      refine w_eq rfl rfl dk_cp_s ?_
      exact ih (i + 1) (by rw [q_le (by decide) (by omega)] at z6; omega) (by rw [q_le (by decide) (by omega)] at z6; omega)

set_option maxRecDepth 20000 in
theorem r_copyAll {d : Nat} {M : dk_Mem} {Q : Option Value → dk_Mem → Prop} {a b : Nat} (ha : dk_ar a 20 621) (hb : dk_ar b 20 621) (hab : a ≠ b) (hq : Q none (dk_row M b (dk_cp (M.1 a) (M.1 b) 621))) : dk_Call d mX12_copyAll [.ref a, .ref b] M Q := by
  refine dk_enter [some (.ref a), some (.ref b), none] (by decide) (fun _ => rfl) (fun _ => Nat.le_of_ble_eq_true rfl) ?_
  refine w_iconst (n := 1) (nI 0) dX12_copyAll_0 (by decide) rfl ?_
  refine w_is2 (n := 2) dX12_copyAll_1 rfl rfl (by decide) ?_
  refine w_eq rfl rfl (dk_cp_0 (b := b) (f := M.1 a)) ?_
  exact r_copyL ha hb hab hq 622 0 (by omega) (by omega)

set_option maxRecDepth 20000 in
theorem r_thinks {d : Nat} {M : dk_Mem} {Q : Option Value → dk_Mem → Prop} (hq : Q none (dk_row M 107 (dk_cp (M.1 105) (M.1 107) 621))) : dk_Call (d + 1) mX12_thinks [.ref 104] M Q := by
  refine dk_enter [some (.ref 104)] (by decide) (fun _ => rfl) (fun _ => Nat.le_of_ble_eq_true rfl) ?_
  refine w_al0 (n := 1) dX12_thinks_0 rfl ?_
  refine g_R (n := 4) f_X12_9_12 pl_104 rf_104_0 dX12_thinks_1 rfl ?_
  refine w_al0 (n := 5) dX12_thinks_4 rfl ?_
  refine g_R (n := 8) f_X12_16_12 pl_104 rf_104_2 dX12_thinks_5 rfl ?_
  refine w_cS2 (n := 11) s0_X12_copyAll k_X12_57 (Nat.le_of_ble_eq_true rfl) dX12_thinks_8 rfl (r_copyAll pl_105 pl_107 (by decide) ?_)
  refine w_ret dX12_thinks_11 rfl ?_
  exact hq

set_option maxRecDepth 20000 in
theorem r_putsBack {d : Nat} {M : dk_Mem} {Q : Option Value → dk_Mem → Prop} (hq : Q none (dk_row M 105 (dk_cp (M.1 107) (M.1 105) 621))) : dk_Call (d + 1) mX12_putsBack [.ref 104] M Q := by
  refine dk_enter [some (.ref 104)] (by decide) (fun _ => rfl) (fun _ => Nat.le_of_ble_eq_true rfl) ?_
  refine w_al0 (n := 1) dX12_putsBack_0 rfl ?_
  refine g_R (n := 4) f_X12_16_12 pl_104 rf_104_2 dX12_putsBack_1 rfl ?_
  refine w_al0 (n := 5) dX12_putsBack_4 rfl ?_
  refine g_R (n := 8) f_X12_9_12 pl_104 rf_104_0 dX12_putsBack_5 rfl ?_
  refine w_cS2 (n := 11) s0_X12_copyAll k_X12_57 (Nat.le_of_ble_eq_true rfl) dX12_putsBack_8 rfl (r_copyAll pl_107 pl_105 (by decide) ?_)
  refine w_ret dX12_putsBack_11 rfl ?_
  exact hq
