/-! ===== bits of a pile ===== -/
theorem nI_or (a b : Nat) : nI a ||| nI b = nI (a ||| b) := by
  apply Int32.toBitVec_inj.1
  show BitVec.ofNat 32 a ||| BitVec.ofNat 32 b = BitVec.ofNat 32 (a ||| b)
  apply BitVec.eq_of_getLsbD_eq
  intro i hi
  simp [hi]
theorem nI_xo (a b : Nat) : nI a ^^^ nI b = nI (a ^^^ b) := by
  apply Int32.toBitVec_inj.1
  show BitVec.ofNat 32 a ^^^ BitVec.ofNat 32 b = BitVec.ofNat 32 (a ^^^ b)
  apply BitVec.eq_of_getLsbD_eq
  intro i hi
  simp [hi]
def b01_h (b : Bool) : Nat := match b with
  | true => 1
  | false => 0
theorem b01_le (b : Bool) : b01_h b ≤ 1 := by cases b <;> decide
theorem m2_bit : ∀ i : Fin 32, ((-2 : Int32).toBitVec).getLsbD i.val = decide (0 < i.val) := by decide
theorem pb_or2 {P : Nat} : nI (2 * P + 1) ||| (-2) = -1 := by
  apply Int32.toBitVec_inj.1
  show BitVec.ofNat 32 (2 * P + 1) ||| (-2 : Int32).toBitVec = BitVec.allOnes 32
  apply BitVec.eq_of_getLsbD_eq
  intro i hi
  rw [BitVec.getLsbD_or, m2_bit ⟨i, hi⟩, BitVec.getLsbD_allOnes, BitVec.getLsbD_ofNat]
  cases i with
  | zero => simp [Nat.testBit_zero]
  | succ i => simp [hi]
theorem pb_or2e {P : Nat} : nI (2 * P) ||| (-2) = -2 := by
  apply Int32.toBitVec_inj.1
  show BitVec.ofNat 32 (2 * P) ||| (-2 : Int32).toBitVec = (-2 : Int32).toBitVec
  apply BitVec.eq_of_getLsbD_eq
  intro i hi
  rw [BitVec.getLsbD_or, m2_bit ⟨i, hi⟩, BitVec.getLsbD_ofNat]
  cases i with
  | zero => simp [Nat.testBit_zero]
  | succ i => simp
theorem pb_and2 {P : Nat} {a : Bool} : nI (2 * P + b01_h a) &&& (-2) = nI (2 * P) := by
  apply Int32.toBitVec_inj.1
  show BitVec.ofNat 32 (2 * P + b01_h a) &&& (-2 : Int32).toBitVec = BitVec.ofNat 32 (2 * P)
  apply BitVec.eq_of_getLsbD_eq
  intro i hi
  rw [BitVec.getLsbD_and, m2_bit ⟨i, hi⟩, BitVec.getLsbD_ofNat, BitVec.getLsbD_ofNat]
  cases i with
  | zero => simp [Nat.testBit_zero]
  | succ i =>
    rw [Nat.testBit_succ, Nat.testBit_succ, show (2 * P + b01_h a) / 2 = 2 * P / 2 by have := b01_le a; omega]
    simp
theorem pb_m1 (x : Int32) : x &&& (-1) = x := by
  apply Int32.toBitVec_inj.1
  show x.toBitVec &&& BitVec.allOnes 32 = x.toBitVec
  exact BitVec.and_allOnes
theorem pb_shr {P : Nat} {b : Bool} (h : P < 2 ^ 29) : nI (2 * P + b01_h b) >>> (nI 1 &&& 31) = nI P := by
  have := b01_le b
  rw [pk_shrN (by omega) _ 1 (by decide), show (2 * P + b01_h b) / 2 ^ 1 = P by omega]
theorem pb_a1 {P : Nat} {b : Bool} (h : P < 2 ^ 29) : nI (2 * P + b01_h b) &&& nI 1 = nI (b01_h b) := by
  have := b01_le b
  rw [pk_andN (by omega) 1 (by decide), show (2 * P + b01_h b) % 2 ^ 1 = b01_h b by omega]
theorem pb_shl {P : Nat} (h : P < 2 ^ 29) : nI P <<< (nI 1 &&& 31) = nI (2 * P) := by
  rw [pk_shlN _ 1 (by decide) (by omega), Nat.mul_comm, Nat.pow_one]
theorem nt_or {P : Nat} {a b : Bool} : (2 * P + b01_h a) ||| b01_h b = 2 * P + b01_h (a || b) := by
  apply Nat.eq_of_testBit_eq
  intro i
  rw [Nat.testBit_or]
  cases i with
  | zero => rw [Nat.testBit_zero, Nat.testBit_zero, Nat.testBit_zero]; cases a <;> cases b <;> simp [b01_h]
  | succ i =>
    have h1_h := b01_le a
    have h2_h := b01_le b
    have h3_h := b01_le (a || b)
    rw [Nat.testBit_succ, Nat.testBit_succ, Nat.testBit_succ, show (2 * P + b01_h a) / 2 = P by omega, show b01_h b / 2 = 0 by omega, show (2 * P + b01_h (a || b)) / 2 = P by omega]
    simp
theorem nt_xor {P : Nat} {a : Bool} : (2 * P + b01_h a) ^^^ 1 = 2 * P + b01_h (!a) := by
  apply Nat.eq_of_testBit_eq
  intro i
  rw [Nat.testBit_xor]
  cases i with
  | zero => rw [Nat.testBit_zero, Nat.testBit_zero, Nat.testBit_zero]; cases a <;> simp [b01_h]
  | succ i =>
    have h1_h := b01_le a
    have h3_h := b01_le (!a)
    rw [Nat.testBit_succ, Nat.testBit_succ, Nat.testBit_succ, show (2 * P + b01_h a) / 2 = P by omega, show (2 * P + b01_h (!a)) / 2 = P by omega]
    simp
/-- a pile in an int -/
def pb_e : List Bool → Nat
  | [] => 1
  | b :: t => 2 * pb_e t + b01_h b
theorem pb_e_lt : ∀ ps : List Bool, pb_e ps < 2 ^ (ps.length + 1)
  | [] => by decide
  | b :: t => by
    have ih := pb_e_lt t
    have h1_h := b01_le b
    show 2 * pb_e t + b01_h b < 2 ^ (t.length + 1 + 1)
    rw [Nat.pow_succ]
    omega
theorem pb_e_21 {ps : List Bool} (h : ps.length ≤ 20) : pb_e ps < 2 ^ 21 := Nat.lt_of_lt_of_le (pb_e_lt ps) (Nat.pow_le_pow_right (by decide) (by omega))
def okC (f : Nat → Int32) (fe : Nat → Nat) (en : Nat) : Nat → Nat → List Bool → Bool → Prop
  | 0, _, _, _ => False
  | n + 1, j, ps, r =>
    (j = en ∧ ps = [r]) ∨
    (j < en ∧ f j = -1 ∧ ∃ b t, ps = b :: t ∧ okC f fe en n (j + 1) ((!b) :: t) r) ∨
    (j < en ∧ f j = -2 ∧ ∃ b a t, ps = b :: a :: t ∧ okC f fe en n (j + 1) ((a && b) :: t) r) ∨
    (j < en ∧ f j = -3 ∧ ∃ b a t, ps = b :: a :: t ∧ okC f fe en n (j + 1) ((a || b) :: t) r) ∨
    (j < en ∧ ps.length < 20 ∧ ∃ s c1_h c2_h, s ≤ 2 ∧ c1_h < 10005 ∧ c2_h < 10005 ∧ f j = nI ((s * 16384 + c1_h) * 16384 + c2_h) ∧ okC f fe en n (j + 1) (sg_cmp (60 + s) (sg_ev fe c1_h) (sg_ev fe c2_h) :: ps) r)
theorem bo_rf2 {β : Nat} (h : dk_bo β) : dk_rf β 6 = some (β + 5) ∧ dk_rf β 7 = some (β + 6) ∧ dk_rf β 8 = some (β + 7) := by
  rcases h with rfl | rfl | rfl
  · exact ⟨rf_24_6, rf_24_7, rf_24_8⟩
  · exact ⟨rf_47_6, rf_47_7, rf_47_8⟩
  · exact ⟨rf_82_6, rf_82_7, rf_82_8⟩
theorem bo_ar2 {β : Nat} (h : dk_bo β) : dk_ar (β + 5) 20 5 ∧ dk_ar (β + 6) 20 201 ∧ dk_ar (β + 7) 20 201 := by
  rcases h with rfl | rfl | rfl
  · exact ⟨pl_29, pl_30, pl_31⟩
  · exact ⟨pl_52, pl_53, pl_54⟩
  · exact ⟨pl_87, pl_88, pl_89⟩
theorem cp_dec {s c1_h c2_h : Nat} (h0_h : s ≤ 2) (h1_h : c1_h < 10005) (h2_h : c2_h < 10005) : (s * 16384 + c1_h) * 16384 + c2_h < 2 ^ 31 ∧ ((s * 16384 + c1_h) * 16384 + c2_h) / 2 ^ 14 % 2 ^ 14 = c1_h ∧ ((s * 16384 + c1_h) * 16384 + c2_h) % 2 ^ 14 = c2_h ∧ ((s * 16384 + c1_h) * 16384 + c2_h) / 2 ^ 28 = s := by omega
theorem cp_neg {c : Nat} (h : c < 10000) : nI c - nI 10000 < 0 := by
  rw [Int32.lt_iff_toInt_lt, pk_sub_toInt (by omega) (by omega)]
  show (c : Int) - 10000 < 0
  omega
def cl_F (β : Nat) (fe : Nat → Nat) (M : dk_Mem) : Prop := (∀ k, k < 5 → M.1 (β + 5) k = nI (fe k)) ∧ ∀ k, fe k < 10005
theorem sg_ev_le {fe : Nat → Nat} (h : ∀ k, fe k < 10005) {c : Nat} (hc : c < 10005) : sg_ev fe c < 10005 := by
  unfold sg_ev
  split
  · exact hc
  · exact h _

set_option maxRecDepth 20000 in
theorem c8_learn {d : Nat} {M : dk_Mem} {Q : Option Value → dk_Mem → Prop} {β : Nat} (hβ : dk_bo β) {fe : Nat → Nat} (hl : ∀ k, fe k < 10005) (hq : ∀ M2, dk_fr (fun q _ => q = β + 5) M M2 → cl_F β fe M2 → Q none M2) : dk_Call d mX8_learn [.ref β, .int (nI (fe 0)), .int (nI (fe 1)), .int (nI (fe 2)), .int (nI (fe 3)), .int (nI (fe 4))] M Q := by
  refine dk_enter [some (.ref β), some (.int (nI (fe 0))), some (.int (nI (fe 1))), some (.int (nI (fe 2))), some (.int (nI (fe 3))), some (.int (nI (fe 4)))] (by decide) (fun _ => rfl) (fun _ => Nat.le_of_ble_eq_true rfl) ?_
  refine w_al0 (n := 1) dX8_learn_0 rfl ?_
  refine g_R (n := 4) f_X8_31_8 (bo_is hβ) (bo_rf2 hβ).1 dX8_learn_1 rfl ?_
  refine w_iconst (n := 5) (nI 0) dX8_learn_4 (by decide) rfl ?_
  refine w_il1 (n := 6) dX8_learn_5 rfl ?_
  refine i_iast (n := 7) (bo_ar2 hβ).1 (j := 0) rfl (by decide) (by decide) dX8_learn_6 rfl ?_
  refine w_al0 (n := 8) dX8_learn_7 rfl ?_
  refine g_R (n := 11) f_X8_31_8 (bo_is hβ) (bo_rf2 hβ).1 dX8_learn_8 rfl ?_
  refine w_iconst (n := 12) (nI 1) dX8_learn_11 (by decide) rfl ?_
  refine w_il2 (n := 13) dX8_learn_12 rfl ?_
  refine i_iast (n := 14) (bo_ar2 hβ).1 (j := 1) rfl (by decide) (by decide) dX8_learn_13 rfl ?_
  refine w_al0 (n := 15) dX8_learn_14 rfl ?_
  refine g_R (n := 18) f_X8_31_8 (bo_is hβ) (bo_rf2 hβ).1 dX8_learn_15 rfl ?_
  refine w_iconst (n := 19) (nI 2) dX8_learn_18 (by decide) rfl ?_
  refine w_il3 (n := 20) dX8_learn_19 rfl ?_
  refine i_iast (n := 21) (bo_ar2 hβ).1 (j := 2) rfl (by decide) (by decide) dX8_learn_20 rfl ?_
  refine w_al0 (n := 22) dX8_learn_21 rfl ?_
  refine g_R (n := 25) f_X8_31_8 (bo_is hβ) (bo_rf2 hβ).1 dX8_learn_22 rfl ?_
  refine w_iconst (n := 26) (nI 3) dX8_learn_25 (by decide) rfl ?_
  refine w_il4 (n := 28) dX8_learn_26 rfl ?_
  refine i_iast (n := 29) (bo_ar2 hβ).1 (j := 3) rfl (by decide) (by decide) dX8_learn_28 rfl ?_
  refine w_al0 (n := 30) dX8_learn_29 rfl ?_
  refine g_R (n := 33) f_X8_31_8 (bo_is hβ) (bo_rf2 hβ).1 dX8_learn_30 rfl ?_
  refine w_iconst (n := 34) (nI 4) dX8_learn_33 (by decide) rfl ?_
  refine w_il5 (n := 36) dX8_learn_34 rfl ?_
  refine i_iast (n := 37) (bo_ar2 hβ).1 (j := 4) rfl (by decide) (by decide) dX8_learn_36 rfl ?_
  refine w_ret dX8_learn_37 rfl ?_
  refine hq _ (((((dk_fr.rf.put (S := fun q _ => q = β + 5) rfl).put (S := fun q _ => q = β + 5) rfl).put (S := fun q _ => q = β + 5) rfl).put (S := fun q _ => q = β + 5) rfl).put (S := fun q _ => q = β + 5) rfl) ⟨fun k hk => ?_, hl⟩
  rcases (show k = 0 ∨ k = 1 ∨ k = 2 ∨ k = 3 ∨ k = 4 by omega) with rfl | rfl | rfl | rfl | rfl
  · rw [dk_put_k (by omega), dk_put_k (by omega), dk_put_k (by omega), dk_put_k (by omega), dk_put_s]
  · rw [dk_put_k (by omega), dk_put_k (by omega), dk_put_k (by omega), dk_put_s]
  · rw [dk_put_k (by omega), dk_put_k (by omega), dk_put_s]
  · rw [dk_put_k (by omega), dk_put_s]
  · rw [dk_put_s]

set_option maxRecDepth 20000 in
theorem c8_c71_0 {d : Nat} {M : dk_Mem} {Q : Option Value → dk_Mem → Prop} {β : Nat} (hβ : dk_bo β) {cc : Int32} {x4_h x5_h : Option Value} {a b : Nat} (ha : a < 10005) (hb : b < 10005) (hq : Q (some (.int (gbI (sg_cmp 60 a b)))) M) : dk_W d mX8_compares 71 [some (.ref β), some (.int cc), some (.int (nI a)), some (.int (nI b)), x4_h, x5_h] [.int (nI 0)] M Q := by
  unfold sg_cmp at hq
  refine w_look (off := 25) 96 dX8_compares_71 rfl rfl (by decide) ?_
  refine w_il2 (n := 97) dX8_compares_96 rfl ?_
  refine w_il3 (n := 98) dX8_compares_97 rfl ?_
  refine w_ic_ge (n := 101) 105 dX8_compares_98 (by decide) rfl (fun z98_h => ?_) (fun z98_h => ?_)
  · skip
    refine w_iconst (n := 106) (nI 0) dX8_compares_105 (by decide) rfl ?_
    refine w_retZ0 dX8_compares_106 rfl ?_
    rw [q_le (by omega) (by omega)] at z98_h; rw [if_pos rfl, decide_eq_false (by omega)] at hq; exact hq
  · skip
    refine w_iconst (n := 102) (nI 1) dX8_compares_101 (by decide) rfl ?_
    refine w_goto 106 dX8_compares_102 (by decide) ?_
    refine w_retZ1 dX8_compares_106 rfl ?_
    rw [q_le (by omega) (by omega)] at z98_h; rw [if_pos rfl, decide_eq_true (by omega)] at hq; exact hq

set_option maxRecDepth 20000 in
theorem c8_c71_1 {d : Nat} {M : dk_Mem} {Q : Option Value → dk_Mem → Prop} {β : Nat} (hβ : dk_bo β) {cc : Int32} {x4_h x5_h : Option Value} {a b : Nat} (ha : a < 10005) (hb : b < 10005) (hq : Q (some (.int (gbI (sg_cmp 61 a b)))) M) : dk_W d mX8_compares 71 [some (.ref β), some (.int cc), some (.int (nI a)), some (.int (nI b)), x4_h, x5_h] [.int (nI 1)] M Q := by
  unfold sg_cmp at hq
  refine w_look (off := 36) 107 dX8_compares_71 rfl rfl (by decide) ?_
  refine w_il2 (n := 108) dX8_compares_107 rfl ?_
  refine w_il3 (n := 109) dX8_compares_108 rfl ?_
  refine w_ic_ne (n := 112) 116 dX8_compares_109 (by decide) rfl (fun z109_h => ?_) (fun z109_h => ?_)
  · skip
    refine w_iconst (n := 117) (nI 0) dX8_compares_116 (by decide) rfl ?_
    refine w_retZ0 dX8_compares_117 rfl ?_
    rw [nI_eq (by omega) (by omega)] at z109_h; rw [if_neg (by decide), if_pos rfl, decide_eq_false (by omega)] at hq; exact hq
  · skip
    refine w_iconst (n := 113) (nI 1) dX8_compares_112 (by decide) rfl ?_
    refine w_goto 117 dX8_compares_113 (by decide) ?_
    refine w_retZ1 dX8_compares_117 rfl ?_
    rw [nI_eq (by omega) (by omega)] at z109_h; rw [if_neg (by decide), if_pos rfl, decide_eq_true (by omega)] at hq; exact hq

set_option maxRecDepth 20000 in
theorem c8_c71_2 {d : Nat} {M : dk_Mem} {Q : Option Value → dk_Mem → Prop} {β : Nat} (hβ : dk_bo β) {cc : Int32} {x4_h x5_h : Option Value} {a b : Nat} (ha : a < 10005) (hb : b < 10005) (hq : Q (some (.int (gbI (sg_cmp 62 a b)))) M) : dk_W d mX8_compares 71 [some (.ref β), some (.int cc), some (.int (nI a)), some (.int (nI b)), x4_h, x5_h] [.int (nI 2)] M Q := by
  unfold sg_cmp at hq
  refine w_look (off := 47) 118 dX8_compares_71 rfl rfl (by decide) ?_
  refine w_il2 (n := 119) dX8_compares_118 rfl ?_
  refine w_il3 (n := 120) dX8_compares_119 rfl ?_
  refine w_ic_le (n := 123) 127 dX8_compares_120 (by decide) rfl (fun z120_h => ?_) (fun z120_h => ?_)
  · skip
    refine w_iconst (n := 128) (nI 0) dX8_compares_127 (by decide) rfl ?_
    refine w_retZ0 dX8_compares_128 rfl ?_
    rw [q_le (by omega) (by omega)] at z120_h; rw [if_neg (by decide), if_neg (by decide), decide_eq_false (by omega)] at hq; exact hq
  · skip
    refine w_iconst (n := 124) (nI 1) dX8_compares_123 (by decide) rfl ?_
    refine w_goto 128 dX8_compares_124 (by decide) ?_
    refine w_retZ1 dX8_compares_128 rfl ?_
    rw [q_le (by omega) (by omega)] at z120_h; rw [if_neg (by decide), if_neg (by decide), decide_eq_true (by omega)] at hq; exact hq

set_option maxRecDepth 20000 in
theorem c8_cS {d : Nat} {M : dk_Mem} {Q : Option Value → dk_Mem → Prop} {β : Nat} (hβ : dk_bo β) {fe : Nat → Nat} (hF : cl_F β fe M) {s c1_h c2_h : Nat} (h0_h : s ≤ 2) (h1_h : c1_h < 10005) (h2_h : c2_h < 10005) {x4_h x5_h : Option Value} {a b : Nat} (ha : a < 10005) (hb : b < 10005) (hq : Q (some (.int (gbI (sg_cmp (60 + s) a b)))) M) : dk_W d mX8_compares 67 [some (.ref β), some (.int (nI ((s * 16384 + c1_h) * 16384 + c2_h))), some (.int (nI a)), some (.int (nI b)), x4_h, x5_h] [] M Q := by
  have cd := cp_dec h0_h h1_h h2_h
  refine w_il1 (n := 68) dX8_compares_67 rfl ?_
  refine w_bipush (n := 70) (nI 28) dX8_compares_68 (by decide) rfl ?_
  refine w_ishr (n := 71) dX8_compares_70 rfl ?_
  rw [pk_shrN cd.1 _ 28 (by decide), cd.2.2.2]
  rcases (show s = 0 ∨ s = 1 ∨ s = 2 by omega) with rfl | rfl | rfl
  · exact c8_c71_0 hβ ha hb hq
  · exact c8_c71_1 hβ ha hb hq
  · exact c8_c71_2 hβ ha hb hq

set_option maxRecDepth 20000 in
theorem c8_cR {d : Nat} {M : dk_Mem} {Q : Option Value → dk_Mem → Prop} {β : Nat} (hβ : dk_bo β) {fe : Nat → Nat} (hF : cl_F β fe M) {s c1_h c2_h : Nat} (h0_h : s ≤ 2) (h1_h : c1_h < 10005) (h2_h : c2_h < 10005) {x4_h : Option Value} {a : Nat} (ha : a < 10005) (hq : Q (some (.int (gbI (sg_cmp (60 + s) a (sg_ev fe c2_h))))) M) : dk_W d mX8_compares 48 [some (.ref β), some (.int (nI ((s * 16384 + c1_h) * 16384 + c2_h))), some (.int (nI a)), some (.int (nI c2_h)), x4_h, some (.int (nI c2_h - nI 10000))] [] M Q := by
  have el := sg_ev_le hF.2 h2_h
  refine w_il5 (n := 50) dX8_compares_48 rfl ?_
  refine w_if_lt (n := 53) 67 dX8_compares_50 (by decide) rfl (fun z50_h => ?_) (fun z50_h => ?_)
  · skip
    first | (rw [ev] at hq el; exact c8_cS hβ hF h0_h h1_h h2_h ha el hq) | (have hlt : c2_h < 10000 := Decidable.byContradiction (fun z => by rw [pk_sub (by omega)] at z50_h; exact absurd z50_h (nI_lt0 (by omega))); have ev : sg_ev fe c2_h = c2_h := if_pos hlt; rw [ev] at hq; exact c8_cS hβ hF h0_h h1_h h2_h ha h2_h hq) | (exfalso; rw [q_le (by decide) (by omega)] at z56_h; omega)
  · skip
    have hge : ¬ c2_h < 10000 := fun z => z50_h (cp_neg z)
    have es : nI c2_h - nI 10000 = nI (c2_h - 10000) := pk_sub (by omega)
    rw [es]
    have ev : sg_ev fe c2_h = fe (c2_h - 10000) := if_neg hge
    refine w_il5 (n := 55) dX8_compares_53 rfl ?_
    refine w_iconst (n := 56) (nI 5) dX8_compares_55 (by decide) rfl ?_
    refine w_ic_ge (n := 59) 67 dX8_compares_56 (by decide) rfl (fun z56_h => ?_) (fun z56_h => ?_)
    · skip
      first | (rw [ev] at hq el; exact c8_cS hβ hF h0_h h1_h h2_h ha el hq) | (have hlt : c2_h < 10000 := Decidable.byContradiction (fun z => by rw [pk_sub (by omega)] at z50_h; exact absurd z50_h (nI_lt0 (by omega))); have ev : sg_ev fe c2_h = c2_h := if_pos hlt; rw [ev] at hq; exact c8_cS hβ hF h0_h h1_h h2_h ha h2_h hq) | (exfalso; rw [q_le (by decide) (by omega)] at z56_h; omega)
    · skip
      refine w_al0 (n := 60) dX8_compares_59 rfl ?_
      refine g_R (n := 63) f_X8_31_8 (bo_is hβ) (bo_rf2 hβ).1 dX8_compares_60 rfl ?_
      refine w_il5 (n := 65) dX8_compares_63 rfl ?_
      refine i_iald (n := 66) (bo_ar2 hβ).1 (j := c2_h - 10000) rfl (by omega) (by decide) (hF.1 _ (by omega)) dX8_compares_65 rfl ?_
      refine w_is3 (n := 67) dX8_compares_66 rfl rfl (by decide) ?_
      first | (rw [ev] at hq el; exact c8_cS hβ hF h0_h h1_h h2_h ha el hq) | (have hlt : c2_h < 10000 := Decidable.byContradiction (fun z => by rw [pk_sub (by omega)] at z50_h; exact absurd z50_h (nI_lt0 (by omega))); have ev : sg_ev fe c2_h = c2_h := if_pos hlt; rw [ev] at hq; exact c8_cS hβ hF h0_h h1_h h2_h ha h2_h hq) | (exfalso; rw [q_le (by decide) (by omega)] at z56_h; omega)

set_option maxRecDepth 20000 in
theorem c8_compares {d : Nat} {M : dk_Mem} {Q : Option Value → dk_Mem → Prop} {β : Nat} (hβ : dk_bo β) {fe : Nat → Nat} (hF : cl_F β fe M) {s c1_h c2_h : Nat} (h0_h : s ≤ 2) (h1_h : c1_h < 10005) (h2_h : c2_h < 10005) (hq : Q (some (.int (gbI (sg_cmp (60 + s) (sg_ev fe c1_h) (sg_ev fe c2_h))))) M) : dk_Call d mX8_compares [.ref β, .int (nI ((s * 16384 + c1_h) * 16384 + c2_h))] M Q := by
  have el := sg_ev_le hF.2 h1_h
  have cd := cp_dec h0_h h1_h h2_h
  refine dk_enter [some (.ref β), some (.int (nI ((s * 16384 + c1_h) * 16384 + c2_h))), none, none, none, none] (by decide) (fun _ => rfl) (fun _ => Nat.le_of_ble_eq_true rfl) ?_
  refine w_il1 (n := 1) dX8_compares_0 rfl ?_
  refine w_bipush (n := 3) (nI 14) dX8_compares_1 (by decide) rfl ?_
  refine w_ishr (n := 4) dX8_compares_3 rfl ?_
  refine w_sipush (n := 7) (nI 16383) dX8_compares_4 (by decide) rfl ?_
  refine w_iand (n := 8) dX8_compares_7 rfl ?_
  rw [pk_shrN cd.1 _ 14 (by decide), pk_andN (by omega) 14 (by decide), cd.2.1]
  refine w_is2 (n := 9) dX8_compares_8 rfl rfl (by decide) ?_
  refine w_il1 (n := 10) dX8_compares_9 rfl ?_
  refine w_sipush (n := 13) (nI 16383) dX8_compares_10 (by decide) rfl ?_
  refine w_iand (n := 14) dX8_compares_13 rfl ?_
  rw [pk_andN (by omega) 14 (by decide), cd.2.2.1]
  refine w_is3 (n := 15) dX8_compares_14 rfl rfl (by decide) ?_
  refine w_il2 (n := 16) dX8_compares_15 rfl ?_
  refine w_sipush (n := 19) (nI 10000) dX8_compares_16 (by decide) rfl ?_
  refine w_isub (n := 20) dX8_compares_19 rfl ?_
  refine w_is4 (n := 22) dX8_compares_20 rfl rfl (by decide) ?_
  refine w_il3 (n := 23) dX8_compares_22 rfl ?_
  refine w_sipush (n := 26) (nI 10000) dX8_compares_23 (by decide) rfl ?_
  refine w_isub (n := 27) dX8_compares_26 rfl ?_
  refine w_is5 (n := 29) dX8_compares_27 rfl rfl (by decide) ?_
  refine w_il4 (n := 31) dX8_compares_29 rfl ?_
  refine w_if_lt (n := 34) 48 dX8_compares_31 (by decide) rfl (fun z31_h => ?_) (fun z31_h => ?_)
  · skip
    first | (rw [ev] at hq el; exact c8_cR hβ hF h0_h h1_h h2_h el hq) | (have hlt : c1_h < 10000 := Decidable.byContradiction (fun z => by rw [pk_sub (by omega)] at z31_h; exact absurd z31_h (nI_lt0 (by omega))); have ev : sg_ev fe c1_h = c1_h := if_pos hlt; rw [ev] at hq; exact c8_cR hβ hF h0_h h1_h h2_h h1_h hq) | (exfalso; rw [q_le (by decide) (by omega)] at z37_h; omega)
  · skip
    have hge : ¬ c1_h < 10000 := fun z => z31_h (cp_neg z)
    have es : nI c1_h - nI 10000 = nI (c1_h - 10000) := pk_sub (by omega)
    rw [es]
    have ev : sg_ev fe c1_h = fe (c1_h - 10000) := if_neg hge
    refine w_il4 (n := 36) dX8_compares_34 rfl ?_
    refine w_iconst (n := 37) (nI 5) dX8_compares_36 (by decide) rfl ?_
    refine w_ic_ge (n := 40) 48 dX8_compares_37 (by decide) rfl (fun z37_h => ?_) (fun z37_h => ?_)
    · skip
      first | (rw [ev] at hq el; exact c8_cR hβ hF h0_h h1_h h2_h el hq) | (have hlt : c1_h < 10000 := Decidable.byContradiction (fun z => by rw [pk_sub (by omega)] at z31_h; exact absurd z31_h (nI_lt0 (by omega))); have ev : sg_ev fe c1_h = c1_h := if_pos hlt; rw [ev] at hq; exact c8_cR hβ hF h0_h h1_h h2_h h1_h hq) | (exfalso; rw [q_le (by decide) (by omega)] at z37_h; omega)
    · skip
      refine w_al0 (n := 41) dX8_compares_40 rfl ?_
      refine g_R (n := 44) f_X8_31_8 (bo_is hβ) (bo_rf2 hβ).1 dX8_compares_41 rfl ?_
      refine w_il4 (n := 46) dX8_compares_44 rfl ?_
      refine i_iald (n := 47) (bo_ar2 hβ).1 (j := c1_h - 10000) rfl (by omega) (by decide) (hF.1 _ (by omega)) dX8_compares_46 rfl ?_
      refine w_is2 (n := 48) dX8_compares_47 rfl rfl (by decide) ?_
      first | (rw [ev] at hq el; exact c8_cR hβ hF h0_h h1_h h2_h el hq) | (have hlt : c1_h < 10000 := Decidable.byContradiction (fun z => by rw [pk_sub (by omega)] at z31_h; exact absurd z31_h (nI_lt0 (by omega))); have ev : sg_ev fe c1_h = c1_h := if_pos hlt; rw [ev] at hq; exact c8_cR hβ hF h0_h h1_h h2_h h1_h hq) | (exfalso; rw [q_le (by decide) (by omega)] at z37_h; omega)

set_option maxRecDepth 20000 in
theorem c8_hN {d : Nat} {M : dk_Mem} {Q : Option Value → dk_Mem → Prop} {β : Nat} (hβ : dk_bo β) {r j en : Nat} (r8_h : r < 8) (hen : en ≤ 200) (hst : M.1 (β + 3) (r + 1) = nI en) {x4_h : Option Value} (hj : j < en) (hv : M.1 (β + 4) j = (-1)) {b : Bool} {t : List Bool} (hl : t.length < 20) (hx : ∀ y4_h, dk_W d mX8_holds 9 [some (.ref β), some (.int (nI r)), some (.int (nI (pb_e ((!b) :: t)))), some (.int (nI (j + 1))), y4_h] [] M Q) : dk_W d mX8_holds 9 [some (.ref β), some (.int (nI r)), some (.int (nI (pb_e (b :: t)))), some (.int (nI j)), x4_h] [] M Q := by
  refine w_il3 (n := 10) dX8_holds_9 rfl ?_
  refine w_al0 (n := 11) dX8_holds_10 rfl ?_
  refine g_R (n := 14) f_X8_22_8 (bo_is hβ) (bo_rf hβ).2.2.1 dX8_holds_11 rfl ?_
  refine w_il1 (n := 15) dX8_holds_14 rfl ?_
  refine w_iconst (n := 16) (nI 1) dX8_holds_15 (by decide) rfl ?_
  refine w_iadd (n := 17) dX8_holds_16 rfl ?_
  refine i_iald (n := 18) (bo_ar hβ).2.2.1 (j := r + 1) (by rw [nI_add]) (by omega) (by decide) hst dX8_holds_17 rfl ?_
  refine w_ic_ge (n := 21) 111 dX8_holds_18 (by decide) rfl (fun z18_h => ?_) (fun z18_h => ?_)
  · skip
    exfalso
    rw [q_le (by omega) (by omega)] at z18_h
    omega
  · skip
    refine w_al0 (n := 22) dX8_holds_21 rfl ?_
    refine g_R (n := 25) f_X8_25_8 (bo_is hβ) (bo_rf hβ).2.2.2 dX8_holds_22 rfl ?_
    refine w_il3 (n := 26) dX8_holds_25 rfl ?_
    refine i_iald (n := 27) (bo_ar hβ).2.2.2 (j := j) rfl (by omega) (by decide) hv dX8_holds_26 rfl ?_
    refine w_is4 (n := 29) dX8_holds_27 rfl rfl (by decide) ?_
    refine w_il4 (n := 31) dX8_holds_29 rfl ?_
    refine w_tabIn 56 dX8_holds_31 (by decide) (by decide) rfl (by decide) ?_
    refine w_il2 (n := 57) dX8_holds_56 rfl ?_
    refine w_iconst (n := 58) (nI 1) dX8_holds_57 (by decide) rfl ?_
    refine w_ixor (n := 59) dX8_holds_58 rfl ?_
    rw [nI_xo, show pb_e (b :: t) ^^^ 1 = pb_e ((!b) :: t) from nt_xor]
    refine w_is2 (n := 60) dX8_holds_59 rfl rfl (by decide) ?_
    refine w_goto 105 dX8_holds_60 (by decide) ?_
    refine w_inc3 (n := 108) (nI 1) dX8_holds_105 (by decide) rfl rfl (by decide) ?_
    refine w_goto 9 dX8_holds_108 (by decide) ?_
    rw [nI_add]
    exact hx _

set_option maxRecDepth 20000 in
theorem c8_hA {d : Nat} {M : dk_Mem} {Q : Option Value → dk_Mem → Prop} {β : Nat} (hβ : dk_bo β) {r j en : Nat} (r8_h : r < 8) (hen : en ≤ 200) (hst : M.1 (β + 3) (r + 1) = nI en) {x4_h : Option Value} (hj : j < en) (hv : M.1 (β + 4) j = (-2)) {b a : Bool} {t : List Bool} (hl : t.length < 19) (hx : ∀ y4_h, dk_W d mX8_holds 9 [some (.ref β), some (.int (nI r)), some (.int (nI (pb_e ((a && b) :: t)))), some (.int (nI (j + 1))), y4_h] [] M Q) : dk_W d mX8_holds 9 [some (.ref β), some (.int (nI r)), some (.int (nI (pb_e (b :: a :: t)))), some (.int (nI j)), x4_h] [] M Q := by
  refine w_il3 (n := 10) dX8_holds_9 rfl ?_
  refine w_al0 (n := 11) dX8_holds_10 rfl ?_
  refine g_R (n := 14) f_X8_22_8 (bo_is hβ) (bo_rf hβ).2.2.1 dX8_holds_11 rfl ?_
  refine w_il1 (n := 15) dX8_holds_14 rfl ?_
  refine w_iconst (n := 16) (nI 1) dX8_holds_15 (by decide) rfl ?_
  refine w_iadd (n := 17) dX8_holds_16 rfl ?_
  refine i_iald (n := 18) (bo_ar hβ).2.2.1 (j := r + 1) (by rw [nI_add]) (by omega) (by decide) hst dX8_holds_17 rfl ?_
  refine w_ic_ge (n := 21) 111 dX8_holds_18 (by decide) rfl (fun z18_h => ?_) (fun z18_h => ?_)
  · skip
    exfalso
    rw [q_le (by omega) (by omega)] at z18_h
    omega
  · skip
    refine w_al0 (n := 22) dX8_holds_21 rfl ?_
    refine g_R (n := 25) f_X8_25_8 (bo_is hβ) (bo_rf hβ).2.2.2 dX8_holds_22 rfl ?_
    refine w_il3 (n := 26) dX8_holds_25 rfl ?_
    refine i_iald (n := 27) (bo_ar hβ).2.2.2 (j := j) rfl (by omega) (by decide) hv dX8_holds_26 rfl ?_
    refine w_is4 (n := 29) dX8_holds_27 rfl rfl (by decide) ?_
    refine w_il4 (n := 31) dX8_holds_29 rfl ?_
    refine w_tabIn 63 dX8_holds_31 (by decide) (by decide) rfl (by decide) ?_
    have pl := pb_e_21 (ps := a :: t) (by show t.length + 1 ≤ 20; omega)
    have eq : (nI (pb_e (b :: a :: t)) >>> (nI 1 &&& 31)) &&& (nI (pb_e (b :: a :: t)) ||| (-2)) = nI (pb_e ((a && b) :: t)) := by
      rw [show pb_e (b :: a :: t) = 2 * pb_e (a :: t) + b01_h b from rfl, pb_shr (by omega)]
      cases b
      · rw [show 2 * pb_e (a :: t) + b01_h false = 2 * pb_e (a :: t) from rfl, pb_or2e, Bool.and_false]
        exact pb_and2
      · rw [show 2 * pb_e (a :: t) + b01_h true = 2 * pb_e (a :: t) + 1 from rfl, pb_or2, pb_m1, Bool.and_true]
    refine w_il2 (n := 64) dX8_holds_63 rfl ?_
    refine w_iconst (n := 65) (nI 1) dX8_holds_64 (by decide) rfl ?_
    refine w_ishr (n := 66) dX8_holds_65 rfl ?_
    refine w_il2 (n := 67) dX8_holds_66 rfl ?_
    refine w_bipush (n := 69) (-2) dX8_holds_67 (by decide) rfl ?_
    refine w_ior (n := 70) dX8_holds_69 rfl ?_
    refine w_iand (n := 71) dX8_holds_70 rfl ?_
    rw [eq]
    refine w_is2 (n := 72) dX8_holds_71 rfl rfl (by decide) ?_
    refine w_goto 105 dX8_holds_72 (by decide) ?_
    refine w_inc3 (n := 108) (nI 1) dX8_holds_105 (by decide) rfl rfl (by decide) ?_
    refine w_goto 9 dX8_holds_108 (by decide) ?_
    rw [nI_add]
    exact hx _

set_option maxRecDepth 20000 in
theorem c8_hO {d : Nat} {M : dk_Mem} {Q : Option Value → dk_Mem → Prop} {β : Nat} (hβ : dk_bo β) {r j en : Nat} (r8_h : r < 8) (hen : en ≤ 200) (hst : M.1 (β + 3) (r + 1) = nI en) {x4_h : Option Value} (hj : j < en) (hv : M.1 (β + 4) j = (-3)) {b a : Bool} {t : List Bool} (hl : t.length < 19) (hx : ∀ y4_h, dk_W d mX8_holds 9 [some (.ref β), some (.int (nI r)), some (.int (nI (pb_e ((a || b) :: t)))), some (.int (nI (j + 1))), y4_h] [] M Q) : dk_W d mX8_holds 9 [some (.ref β), some (.int (nI r)), some (.int (nI (pb_e (b :: a :: t)))), some (.int (nI j)), x4_h] [] M Q := by
  refine w_il3 (n := 10) dX8_holds_9 rfl ?_
  refine w_al0 (n := 11) dX8_holds_10 rfl ?_
  refine g_R (n := 14) f_X8_22_8 (bo_is hβ) (bo_rf hβ).2.2.1 dX8_holds_11 rfl ?_
  refine w_il1 (n := 15) dX8_holds_14 rfl ?_
  refine w_iconst (n := 16) (nI 1) dX8_holds_15 (by decide) rfl ?_
  refine w_iadd (n := 17) dX8_holds_16 rfl ?_
  refine i_iald (n := 18) (bo_ar hβ).2.2.1 (j := r + 1) (by rw [nI_add]) (by omega) (by decide) hst dX8_holds_17 rfl ?_
  refine w_ic_ge (n := 21) 111 dX8_holds_18 (by decide) rfl (fun z18_h => ?_) (fun z18_h => ?_)
  · skip
    exfalso
    rw [q_le (by omega) (by omega)] at z18_h
    omega
  · skip
    refine w_al0 (n := 22) dX8_holds_21 rfl ?_
    refine g_R (n := 25) f_X8_25_8 (bo_is hβ) (bo_rf hβ).2.2.2 dX8_holds_22 rfl ?_
    refine w_il3 (n := 26) dX8_holds_25 rfl ?_
    refine i_iald (n := 27) (bo_ar hβ).2.2.2 (j := j) rfl (by omega) (by decide) hv dX8_holds_26 rfl ?_
    refine w_is4 (n := 29) dX8_holds_27 rfl rfl (by decide) ?_
    refine w_il4 (n := 31) dX8_holds_29 rfl ?_
    refine w_tabIn 75 dX8_holds_31 (by decide) (by decide) rfl (by decide) ?_
    have pl := pb_e_21 (ps := a :: t) (by show t.length + 1 ≤ 20; omega)
    have eq : (nI (pb_e (b :: a :: t)) >>> (nI 1 &&& 31)) ||| (nI (pb_e (b :: a :: t)) &&& nI 1) = nI (pb_e ((a || b) :: t)) := by
      rw [show pb_e (b :: a :: t) = 2 * pb_e (a :: t) + b01_h b from rfl, pb_shr (by omega), pb_a1 (by omega), nI_or]
      exact congrArg nI nt_or
    refine w_il2 (n := 76) dX8_holds_75 rfl ?_
    refine w_iconst (n := 77) (nI 1) dX8_holds_76 (by decide) rfl ?_
    refine w_ishr (n := 78) dX8_holds_77 rfl ?_
    refine w_il2 (n := 79) dX8_holds_78 rfl ?_
    refine w_iconst (n := 80) (nI 1) dX8_holds_79 (by decide) rfl ?_
    refine w_iand (n := 81) dX8_holds_80 rfl ?_
    refine w_ior (n := 82) dX8_holds_81 rfl ?_
    rw [eq]
    refine w_is2 (n := 83) dX8_holds_82 rfl rfl (by decide) ?_
    refine w_goto 105 dX8_holds_83 (by decide) ?_
    refine w_inc3 (n := 108) (nI 1) dX8_holds_105 (by decide) rfl rfl (by decide) ?_
    refine w_goto 9 dX8_holds_108 (by decide) ?_
    rw [nI_add]
    exact hx _

set_option maxRecDepth 20000 in
theorem c8_hC {d : Nat} {M : dk_Mem} {Q : Option Value → dk_Mem → Prop} {β : Nat} (hβ : dk_bo β) {r j en : Nat} (r8_h : r < 8) (hen : en ≤ 200) (hst : M.1 (β + 3) (r + 1) = nI en) {x4_h : Option Value} {fe : Nat → Nat} (hF : cl_F β fe M) {ps : List Bool} {s c1_h c2_h : Nat} (h0_h : s ≤ 2) (h1_h : c1_h < 10005) (h2_h : c2_h < 10005) (hj : j < en) (hv : M.1 (β + 4) j = (nI ((s * 16384 + c1_h) * 16384 + c2_h))) (hl : ps.length < 20) (hx : ∀ y4_h, dk_W (d + 1) mX8_holds 9 [some (.ref β), some (.int (nI r)), some (.int (nI (pb_e (sg_cmp (60 + s) (sg_ev fe c1_h) (sg_ev fe c2_h) :: ps)))), some (.int (nI (j + 1))), y4_h] [] M Q) : dk_W (d + 1) mX8_holds 9 [some (.ref β), some (.int (nI r)), some (.int (nI (pb_e ps))), some (.int (nI j)), x4_h] [] M Q := by
  have pl := pb_e_21 (ps := ps) (by omega)
  have cd := cp_dec h0_h h1_h h2_h
  have ot : (nI ((s * 16384 + c1_h) * 16384 + c2_h)).toInt < -3 ∨ -1 < (nI ((s * 16384 + c1_h) * 16384 + c2_h)).toInt := Or.inr (by rw [nI_toInt cd.1]; omega)
  refine w_il3 (n := 10) dX8_holds_9 rfl ?_
  refine w_al0 (n := 11) dX8_holds_10 rfl ?_
  refine g_R (n := 14) f_X8_22_8 (bo_is hβ) (bo_rf hβ).2.2.1 dX8_holds_11 rfl ?_
  refine w_il1 (n := 15) dX8_holds_14 rfl ?_
  refine w_iconst (n := 16) (nI 1) dX8_holds_15 (by decide) rfl ?_
  refine w_iadd (n := 17) dX8_holds_16 rfl ?_
  refine i_iald (n := 18) (bo_ar hβ).2.2.1 (j := r + 1) (by rw [nI_add]) (by omega) (by decide) hst dX8_holds_17 rfl ?_
  refine w_ic_ge (n := 21) 111 dX8_holds_18 (by decide) rfl (fun z18_h => ?_) (fun z18_h => ?_)
  · skip
    exfalso
    rw [q_le (by omega) (by omega)] at z18_h
    omega
  · skip
    refine w_al0 (n := 22) dX8_holds_21 rfl ?_
    refine g_R (n := 25) f_X8_25_8 (bo_is hβ) (bo_rf hβ).2.2.2 dX8_holds_22 rfl ?_
    refine w_il3 (n := 26) dX8_holds_25 rfl ?_
    refine i_iald (n := 27) (bo_ar hβ).2.2.2 (j := j) rfl (by omega) (by decide) hv dX8_holds_26 rfl ?_
    refine w_is4 (n := 29) dX8_holds_27 rfl rfl (by decide) ?_
    refine w_il4 (n := 31) dX8_holds_29 rfl ?_
    refine w_tabOut 86 dX8_holds_31 (ot) (by decide) ?_
    refine w_il2 (n := 87) dX8_holds_86 rfl ?_
    refine w_iconst (n := 88) (nI 1) dX8_holds_87 (by decide) rfl ?_
    refine w_ishl (n := 89) dX8_holds_88 rfl ?_
    rw [pb_shl (by omega)]
    refine w_al0 (n := 90) dX8_holds_89 rfl ?_
    refine w_il4 (n := 92) dX8_holds_90 rfl ?_
    refine w_cV1 (n := 95) (bo_is hβ) cl_8 s0_X8_compares k_X8_49 (Nat.le_of_ble_eq_true rfl) dX8_holds_92 rfl (c8_compares hβ hF h0_h h1_h h2_h ?_)
    have hor : ∀ b : Bool, nI (2 * pb_e ps) ||| nI (b01_h b) = nI (pb_e (b :: ps)) := fun b => by
      rw [nI_or]
      have e := nt_or (P := pb_e ps) (a := false) (b := b)
      exact congrArg nI e
    generalize hb9_h : sg_cmp (60 + s) (sg_ev fe c1_h) (sg_ev fe c2_h) = b9_h at *
    refine w_if_eq (n := 98) 102 dX8_holds_95 (by decide) rfl (fun z95_h => ?_) (fun z95_h => ?_)
    · skip
      refine w_iconst (n := 103) (nI 0) dX8_holds_102 (by decide) rfl ?_
      refine w_ior (n := 104) dX8_holds_103 rfl ?_
      refine w_is2 (n := 105) dX8_holds_104 rfl rfl (by decide) ?_
      refine w_inc3 (n := 108) (nI 1) dX8_holds_105 (by decide) rfl rfl (by decide) ?_
      refine w_goto 9 dX8_holds_108 (by decide) ?_
      rw [nI_add]
      first | (have e := gbI_1 z95_h; subst e; rw [show nI (2 * pb_e ps) ||| nI 1 = _ from hor true]; exact hx _) | (have e := gbI_0 z95_h; subst e; rw [show nI (2 * pb_e ps) ||| nI 0 = _ from hor false]; exact hx _)
    · skip
      refine w_iconst (n := 99) (nI 1) dX8_holds_98 (by decide) rfl ?_
      refine w_goto 103 dX8_holds_99 (by decide) ?_
      refine w_ior (n := 104) dX8_holds_103 rfl ?_
      refine w_is2 (n := 105) dX8_holds_104 rfl rfl (by decide) ?_
      refine w_inc3 (n := 108) (nI 1) dX8_holds_105 (by decide) rfl rfl (by decide) ?_
      refine w_goto 9 dX8_holds_108 (by decide) ?_
      rw [nI_add]
      first | (have e := gbI_1 z95_h; subst e; rw [show nI (2 * pb_e ps) ||| nI 1 = _ from hor true]; exact hx _) | (have e := gbI_0 z95_h; subst e; rw [show nI (2 * pb_e ps) ||| nI 0 = _ from hor false]; exact hx _)

set_option maxRecDepth 20000 in
theorem c8_hE {d : Nat} {M : dk_Mem} {Q : Option Value → dk_Mem → Prop} {β : Nat} (hβ : dk_bo β) {r j en : Nat} (r8_h : r < 8) (hen : en ≤ 200) (hst : M.1 (β + 3) (r + 1) = nI en)  {x4_h : Option Value} {v : Bool} {P : Nat} (hP : P < 2 ^ 29) (hq : Q (some (.int (gbI v))) M) : dk_W d mX8_holds 9 [some (.ref β), some (.int (nI r)), some (.int (nI (2 * P + b01_h v))), some (.int (nI en)), x4_h] [] M Q := by
  refine w_il3 (n := 10) dX8_holds_9 rfl ?_
  refine w_al0 (n := 11) dX8_holds_10 rfl ?_
  refine g_R (n := 14) f_X8_22_8 (bo_is hβ) (bo_rf hβ).2.2.1 dX8_holds_11 rfl ?_
  refine w_il1 (n := 15) dX8_holds_14 rfl ?_
  refine w_iconst (n := 16) (nI 1) dX8_holds_15 (by decide) rfl ?_
  refine w_iadd (n := 17) dX8_holds_16 rfl ?_
  refine i_iald (n := 18) (bo_ar hβ).2.2.1 (j := r + 1) (by rw [nI_add]) (by omega) (by decide) hst dX8_holds_17 rfl ?_
  refine w_ic_ge (n := 21) 111 dX8_holds_18 (by decide) rfl (fun z18_h => ?_) (fun z18_h => ?_)
  · skip
    refine w_il2 (n := 112) dX8_holds_111 rfl ?_
    refine w_iconst (n := 113) (nI 1) dX8_holds_112 (by decide) rfl ?_
    refine w_iand (n := 114) dX8_holds_113 rfl ?_
    rw [pb_a1 hP]
    refine w_if_eq (n := 117) 121 dX8_holds_114 (by decide) rfl (fun z114_h => ?_) (fun z114_h => ?_)
    · skip
      refine w_iconst (n := 122) (nI 0) dX8_holds_121 (by decide) rfl ?_
      refine w_retZ0 dX8_holds_122 rfl ?_
      cases v with
      | true => first | exact hq | exact absurd z114_h (by decide)
      | false => first | exact hq | exact absurd rfl z114_h
    · skip
      refine w_iconst (n := 118) (nI 1) dX8_holds_117 (by decide) rfl ?_
      refine w_goto 122 dX8_holds_118 (by decide) ?_
      refine w_retZ1 dX8_holds_122 rfl ?_
      cases v with
      | true => first | exact hq | exact absurd z114_h (by decide)
      | false => first | exact hq | exact absurd rfl z114_h
  · skip
    exact absurd (Int32.le_refl _) z18_h

theorem c8_hL {d : Nat} {M : dk_Mem} {Q : Option Value → dk_Mem → Prop} {β : Nat} (hβ : dk_bo β) {r en : Nat} (r8_h : r < 8) (hen : en ≤ 200) (hst : M.1 (β + 3) (r + 1) = nI en) {fe : Nat → Nat} (hF : cl_F β fe M) {f : Nat → Int32} (hf : ∀ k, k < en → M.1 (β + 4) k = f k) {v : Bool} (hq : Q (some (.int (gbI v))) M) : ∀ (n j : Nat) (ps : List Bool) (x4_h : Option Value), okC f fe en n j ps v → ps.length ≤ 20 → dk_W (d + 1) mX8_holds 9 [some (.ref β), some (.int (nI r)), some (.int (nI (pb_e ps))), some (.int (nI j)), x4_h] [] M Q := by
  intro n
  induction n with
  | zero => intro j ps x4_h ho; exact absurd ho (fun z => z)
  | succ n ih =>
    intro j ps x4_h ho hl
    rcases ho with ⟨e1_h, e2_h⟩ | ⟨hj, hv, b, t, e, h2_h⟩ | ⟨hj, hv, b, a, t, e, h2_h⟩ | ⟨hj, hv, b, a, t, e, h2_h⟩ | ⟨hj, hlen, s, c1_h, c2_h, s1_h, l1_h, l2_h, v0_h, h2_h⟩
    · subst e1_h; subst e2_h
      exact c8_hE (j := 0) (P := 1) hβ r8_h hen hst (by decide) hq
    · subst e
      exact c8_hN hβ r8_h hen hst hj ((hf _ hj).trans hv) (by have : t.length + 1 ≤ 20 := hl; omega) (fun y => ih (j + 1) _ y h2_h hl)
    · subst e
      have hl2_h : t.length + 1 + 1 ≤ 20 := hl
      exact c8_hA hβ r8_h hen hst hj ((hf _ hj).trans hv) (by omega) (fun y => ih (j + 1) _ y h2_h (by show t.length + 1 ≤ 20; omega))
    · subst e
      have hl2_h : t.length + 1 + 1 ≤ 20 := hl
      exact c8_hO hβ r8_h hen hst hj ((hf _ hj).trans hv) (by omega) (fun y => ih (j + 1) _ y h2_h (by show t.length + 1 ≤ 20; omega))
    · exact c8_hC hβ r8_h hen hst hF s1_h l1_h l2_h hj ((hf _ hj).trans v0_h) hlen (fun y => ih (j + 1) _ y h2_h (by show ps.length + 1 ≤ 20; omega))
/-- rule r stands in a book -/
def cl_R (g : Nat → Nat → Int32) (cz r : Nat) (sem : (Nat → Nat) → Bool) : Prop := ∃ a b, a ≤ b ∧ b ≤ cz ∧ g 3 r = nI a ∧ g 3 (r + 1) = nI b ∧ ((a = b ∧ ∀ fe, sem fe = true) ∨ (a < b ∧ ∀ fe, ∃ n, okC (g 4) fe b n a [] (sem fe)))
def cl_A (g : Nat → Nat → Int32) (kd dg : Nat → Nat) (sm : Nat → (Nat → Nat) → Bool) (nr : Nat) : Prop := nr ≤ 8 ∧ g 0 0 = nI nr ∧ ∃ cz, cz ≤ 200 ∧ g 0 5 = nI cz ∧ ∀ r, r < nr → kd r ≤ 5 ∧ dg r ≤ 2 ∧ g 1 r = nI (kd r) ∧ g 2 r = nI (dg r) ∧ cl_R g cz r (sm r)

set_option maxRecDepth 20000 in
theorem c8_holds {d : Nat} {M : dk_Mem} {Q : Option Value → dk_Mem → Prop} {β : Nat} (hβ : dk_bo β) {r : Nat} (r8_h : r < 8) {fe : Nat → Nat} (hF : cl_F β fe M) {g : Nat → Nat → Int32} {cz : Nat} (hcz : cz ≤ 200) (h3_h : ∀ k, k < 9 → M.1 (β + 3) k = g 3 k) (h4_h : ∀ k, k < cz → M.1 (β + 4) k = g 4 k) {sem : (Nat → Nat) → Bool} (hs : cl_R g cz r sem) (hq : Q (some (.int (gbI (sem fe)))) M) : dk_Call (d + 1) mX8_holds [.ref β, .int (nI r)] M Q := by
  obtain ⟨a, b, hab, hb, va, vb, hs⟩ := hs
  have hst : M.1 (β + 3) (r + 1) = nI b := (h3_h _ (by omega)).trans vb
  refine dk_enter [some (.ref β), some (.int (nI r)), none, none, none] (by decide) (fun _ => rfl) (fun _ => Nat.le_of_ble_eq_true rfl) ?_
  refine w_iconst (n := 1) (nI 1) dX8_holds_0 (by decide) rfl ?_
  refine w_is2 (n := 2) dX8_holds_1 rfl rfl (by decide) ?_
  refine w_al0 (n := 3) dX8_holds_2 rfl ?_
  refine g_R (n := 6) f_X8_22_8 (bo_is hβ) (bo_rf hβ).2.2.1 dX8_holds_3 rfl ?_
  refine w_il1 (n := 7) dX8_holds_6 rfl ?_
  refine i_iald (n := 8) (bo_ar hβ).2.2.1 (j := r) rfl (by omega) (by decide) ((h3_h _ (by omega)).trans va) dX8_holds_7 rfl ?_
  refine w_is3 (n := 9) dX8_holds_8 rfl rfl (by decide) ?_
  rcases hs with hs | hs
  · rw [hs.2] at hq
    have e := hs.1
    subst e
    exact c8_hE (j := 0) (P := 0) (v := true) hβ r8_h (by omega) hst (by decide) hq
  · obtain ⟨n, hn⟩ := hs.2 fe
    exact c8_hL hβ r8_h (by omega) hst hF (fun k hk => h4_h k (by omega)) hq n a [] _ hn (Nat.zero_le _)

set_option maxRecDepth 20000 in
theorem c10_wi0 {d : Nat} {M : dk_Mem} {Q : Option Value → dk_Mem → Prop} {μ β nr : Nat} {h r : Int32} (hβ : dk_bo β) (hk : M.1 14 13 = nI β) (h0_h : M.1 β 0 = nI nr) (e : r = nI nr) (hq : Q (some (.int (nI 0))) M) : dk_W d mX10_will 46 [some (.ref 14), some (.ref μ), some (.int h), some (.int r)] [] M Q := by
  refine w_il3 (n := 47) dX10_will_46 rfl ?_
  refine w_al0 (n := 48) dX10_will_47 rfl ?_
  refine g_M (n := 51) f_X10_56_10 pl_14 (dk_ref_i hk (by unfold dk_bo at hβ; omega)) dX10_will_48 rfl ?_
  refine g_I (n := 54) f_X10_129_8 (bo_is hβ) dX10_will_51 rfl ?_
  rw [h0_h, e]
  refine w_ic_ge (n := 57) 105 dX10_will_54 (by decide) rfl (fun z54_h => ?_) (fun z54_h => ?_)
  · skip
    refine w_iconst (n := 106) (nI 0) dX10_will_105 (by decide) rfl ?_
    refine w_retI dX10_will_106 rfl ?_
    exact hq
  · skip
    exact absurd (Int32.le_refl _) z54_h

set_option maxRecDepth 20000 in
theorem c10_wiL {d : Nat} {M : dk_Mem} {Q : Option Value → dk_Mem → Prop} {σ : Nat → Nat} (hs : cs σ M) (o : sg_ok σ) {μ : Nat} (hm : dk_mo μ) (hc : cm μ σ M) {h : Nat} (hh : h < σ 4) {β : Nat} (hβ : dk_bo β) {g : Nat → Nat → Int32} (hg : cbk g β M) (hk : M.1 14 13 = nI β) {kd dg : Nat → Nat} {sm : Nat → (Nat → Nat) → Bool} {nr cz : Nat} (n8_h : nr ≤ 8) (g00_h : g 0 0 = nI nr) (hcz : cz ≤ 200) (g05_h : g 0 5 = nI cz) (hA : ∀ r, r < nr → kd r ≤ 5 ∧ dg r ≤ 2 ∧ g 1 r = nI (kd r) ∧ g 2 r = nI (dg r) ∧ cl_R g cz r (sm r)) (hF : cl_F β (rl_e σ h) M) {v : Nat} (hq : Q (some (.int (nI v))) M) : ∀ (m r : Nat), r + m = nr → sg_wf kd dg sm (σ (35 + 5 * h)) (rl_e σ h) m r = v → dk_W (d + 4) mX10_will 46 [some (.ref 14), some (.ref μ), some (.int (nI h)), some (.int (nI r))] [] M Q := by
  have o4_h := o.2.2.2.1
  have k5_h := o.kind (h := h) (by omega)
  intro m
  induction m with
  | zero =>
    intro r hm2_h hv
    rw [sg_wf] at hv
    subst hv
    exact c10_wi0 hβ hk (hg.1.trans g00_h) (by rw [show r = nr by omega]) hq
  | succ m ih =>
    intro r hm2_h hv
    have a1_h := hA r (by omega)
    have e1_h := (hg.2.2.1 r (by omega)).1.trans a1_h.2.2.1
    have e2_h := (hg.2.2.1 r (by omega)).2.trans a1_h.2.2.2.1
    rw [sg_wf] at hv
    refine w_il3 (n := 47) dX10_will_46 rfl ?_
    refine w_al0 (n := 48) dX10_will_47 rfl ?_
    refine g_M (n := 51) f_X10_56_10 pl_14 (dk_ref_i hk (by unfold dk_bo at hβ; omega)) dX10_will_48 rfl ?_
    refine g_I (n := 54) f_X10_129_8 (bo_is hβ) dX10_will_51 rfl ?_
    rw [hg.1, g00_h]
    refine w_ic_ge (n := 57) 105 dX10_will_54 (by decide) rfl (fun z54_h => ?_) (fun z54_h => ?_)
    · skip
      exfalso
      rw [q_le (by omega) (by omega)] at z54_h
      omega
    · skip
      refine w_al0 (n := 58) dX10_will_57 rfl ?_
      refine g_R (n := 61) f_X10_15_10 pl_14 rf_14_2 dX10_will_58 rfl ?_
      refine w_il2 (n := 62) dX10_will_61 rfl ?_
      refine i_iald (n := 63) pl_15 (j := h) rfl (by omega) (by decide) (hs.kind hh) dX10_will_62 rfl ?_
      refine w_al0 (n := 64) dX10_will_63 rfl ?_
      refine g_M (n := 67) f_X10_56_10 pl_14 (dk_ref_i hk (by unfold dk_bo at hβ; omega)) dX10_will_64 rfl ?_
      refine g_R (n := 70) f_X10_134_8 (bo_is hβ) (bo_rf hβ).1 dX10_will_67 rfl ?_
      refine w_il3 (n := 71) dX10_will_70 rfl ?_
      refine i_iald (n := 72) (bo_ar hβ).1 (j := r) rfl (by omega) (by decide) e1_h dX10_will_71 rfl ?_
      refine w_cN2 (n := 75) s0_X11_isOrIsUnder k_X10_136 (Nat.le_of_ble_eq_true rfl) dX10_will_72 rfl (c_under k5_h a1_h.1 (fun t72_h => ?_) (fun t72_h => ?_))
      · skip
        refine w_if_eq (n := 78) 99 dX10_will_75 (by decide) rfl (fun h => absurd h (by decide)) (fun _ => ?_)
        refine w_al0 (n := 79) dX10_will_78 rfl ?_
        refine g_M (n := 82) f_X10_56_10 pl_14 (dk_ref_i hk (by unfold dk_bo at hβ; omega)) dX10_will_79 rfl ?_
        refine w_il3 (n := 83) dX10_will_82 rfl ?_
        refine w_cV1 (n := 86) (bo_is hβ) cl_8 s0_X8_holds k_X10_140 (Nat.le_of_ble_eq_true rfl) dX10_will_83 rfl (c8_holds hβ (r := r) (by omega) hF hcz hg.2.2.2.1 (fun k hk9_h => hg.2.2.2.2 k (by omega) (by rw [g05_h, nI_ltI (by omega) (by omega)]; exact hk9_h)) a1_h.2.2.2.2 ?_)
        refine w_if_eq (n := 89) 99 dX10_will_86 (by decide) rfl (fun z86_h => ?_) (fun z86_h => ?_)
        · skip
          refine w_inc3 (n := 102) (nI 1) dX10_will_99 (by decide) rfl rfl (by decide) ?_
          refine w_goto 46 dX10_will_102 (by decide) ?_
          rw [nI_add]
          first | (have zz := gbI_0 z86_h; rw [if_neg (fun z => by rw [zz] at z; exact absurd z.2 (by decide))] at hv; exact ih (r + 1) (by omega) hv) | (rw [if_neg (fun z => by rw [t72_h] at z; exact absurd z.1 (by decide))] at hv; exact ih (r + 1) (by omega) hv)
        · skip
          refine w_al0 (n := 90) dX10_will_89 rfl ?_
          refine g_M (n := 93) f_X10_56_10 pl_14 (dk_ref_i hk (by unfold dk_bo at hβ; omega)) dX10_will_90 rfl ?_
          refine g_R (n := 96) f_X10_143_8 (bo_is hβ) (bo_rf hβ).2.1 dX10_will_93 rfl ?_
          refine w_il3 (n := 97) dX10_will_96 rfl ?_
          refine i_iald (n := 98) (bo_ar hβ).2.1 (j := r) rfl (by omega) (by decide) e2_h dX10_will_97 rfl ?_
          refine w_retI dX10_will_98 rfl ?_
          have zz := gbI_1 z86_h
          rw [if_pos ⟨t72_h, zz⟩] at hv
          subst hv
          exact hq
      · skip
        refine w_if_eq (n := 78) 99 dX10_will_75 (by decide) rfl (fun _ => ?_) (fun h => absurd (by decide) h)
        refine w_inc3 (n := 102) (nI 1) dX10_will_99 (by decide) rfl rfl (by decide) ?_
        refine w_goto 46 dX10_will_102 (by decide) ?_
        rw [nI_add]
        first | (have zz := gbI_0 z86_h; rw [if_neg (fun z => by rw [zz] at z; exact absurd z.2 (by decide))] at hv; exact ih (r + 1) (by omega) hv) | (rw [if_neg (fun z => by rw [t72_h] at z; exact absurd z.1 (by decide))] at hv; exact ih (r + 1) (by omega) hv)

set_option maxRecDepth 20000 in
theorem c10_wT {d : Nat} {M : dk_Mem} {Q : Option Value → dk_Mem → Prop} {σ : Nat → Nat} (hs : cs σ M) (o : sg_ok σ) {μ : Nat} (hm : dk_mo μ) (hc : cm μ σ M) {h : Nat} (hh : h < σ 4) {β : Nat} (hβ : dk_bo β) {g : Nat → Nat → Int32} (hg : cbk g β M) (hk : M.1 14 13 = nI β) {kd dg : Nat → Nat} {sm : Nat → (Nat → Nat) → Bool} {nr cz : Nat} (n8_h : nr ≤ 8) (g00_h : g 0 0 = nI nr) (hcz : cz ≤ 200) (g05_h : g 0 5 = nI cz) (hA : ∀ r, r < nr → kd r ≤ 5 ∧ dg r ≤ 2 ∧ g 1 r = nI (kd r) ∧ g 2 r = nI (dg r) ∧ cl_R g cz r (sm r)) (hq : ∀ M2, dk_fr cY M M2 → Q (some (.int (nI (sg_does (sg_w kd dg sm nr) σ h)))) M2) : dk_Call (d + 4) mX10_will [.ref 14, .ref μ, .int (nI h)] M Q := by
  have o4_h := o.2.2.2.1
  refine dk_enter [some (.ref 14), some (.ref μ), some (.int (nI h)), none] (by decide) (fun _ => rfl) (fun _ => Nat.le_of_ble_eq_true rfl) ?_
  refine w_al0 (n := 1) dX10_will_0 rfl ?_
  refine g_M (n := 4) f_X10_56_10 pl_14 (dk_ref_i hk (by unfold dk_bo at hβ; omega)) dX10_will_1 rfl ?_
  refine g_I (n := 7) f_X10_129_8 (bo_is hβ) dX10_will_4 rfl ?_
  rw [hg.1, g00_h]
  refine w_if_ne (n := 10) 12 dX10_will_7 (by decide) rfl (fun z7_h => ?_) (fun z7_h => ?_)
  · skip
    refine w_al0 (n := 13) dX10_will_12 rfl ?_
    refine g_M (n := 16) f_X10_56_10 pl_14 (dk_ref_i hk (by unfold dk_bo at hβ; omega)) dX10_will_13 rfl ?_
    refine w_al1 (n := 17) dX10_will_16 rfl ?_
    refine g_I (n := 20) f_X10_108_4 hm.is dX10_will_17 rfl ?_
    rw [hc.1]
    refine w_al1 (n := 21) dX10_will_20 rfl ?_
    refine g_R (n := 24) f_X10_93_4 hm.is hm.rf dX10_will_21 rfl ?_
    refine w_il2 (n := 25) dX10_will_24 rfl ?_
    refine i_iald (n := 26) hm.ar (j := h) rfl (by omega) (by decide) (hc.2.2 h hh) dX10_will_25 rfl ?_
    refine w_al0 (n := 27) dX10_will_26 rfl ?_
    refine g_R (n := 30) f_X10_19_10 pl_14 rf_14_3 dX10_will_27 rfl ?_
    refine w_il2 (n := 31) dX10_will_30 rfl ?_
    refine i_iald (n := 32) pl_16 (j := h) rfl (by omega) (by decide) (hs.gap hh) dX10_will_31 rfl ?_
    refine w_al0 (n := 33) dX10_will_32 rfl ?_
    refine w_al1 (n := 34) dX10_will_33 rfl ?_
    refine g_I (n := 37) f_X10_108_4 hm.is dX10_will_34 rfl ?_
    rw [hc.1]
    refine w_cV1 (n := 40) pl_14 cl_10 s0_X10_wordOf k_X10_115 (Nat.le_of_ble_eq_true rfl) dX10_will_37 rfl (c10_wordOf hs o o.2.2.1 ?_)
    refine w_il2 (n := 41) dX10_will_40 rfl ?_
    refine w_cV5 (n := 44) (bo_is hβ) cl_8 s0_X8_learn k_X10_130 (Nat.le_of_ble_eq_true rfl) dX10_will_41 rfl (c8_learn (fe := rl_e σ h) hβ (fun k => ?_) (fun M2 g1_h g2_h => ?_))
    · have h1_h := o.2.2.1; have h2_h := o.lean (h := h) (by omega); have h3_h := o.gap (h := h) (by omega); have h4_h := o.wd; unfold rl_e sg_fe; repeat' split
      all_goals omega
    have gY : dk_fr cY M M2 := g1_h.up (fun q k z => by unfold cY; unfold dk_bo at hβ; omega)
    have hg2_h : cbk g β M2 := hg.fr g1_h (fun q k a b z => by omega)
    have hk2_h : M2.1 14 13 = nI β := (g1_h.2 14 13 (by unfold dk_bo at hβ; omega)).trans hk
    refine w_iconst (n := 45) (nI 0) dX10_will_44 (by decide) rfl ?_
    refine w_is3 (n := 46) dX10_will_45 rfl rfl (by decide) ?_
    exact c10_wiL (hs.Y gY) o hm (hc.Y hm gY) hh hβ hg2_h hk2_h n8_h g00_h hcz g05_h hA g2_h (hq M2 gY) nr 0 (by omega) rfl
  · skip
    refine w_iconst (n := 11) (nI 0) dX10_will_10 (by decide) rfl ?_
    refine w_retI dX10_will_11 rfl ?_
    have e : nr = 0 := (q_nz (by omega)).mp z7_h
    subst e
    exact hq M dk_fr.rf

theorem cl_cb {g : Nat → Nat → Int32} {kd dg : Nat → Nat} {sm : Nat → (Nat → Nat) → Bool} {nr : Nat} (hA : cl_A g kd dg sm nr) : cb (sg_w kd dg sm nr) g := by
  obtain ⟨n8_h, g00_h, cz, hcz, g05_h, hA⟩ := hA
  refine ⟨fun k y l g a n => sg_wf_le nr 0 (fun i hi => (hA i (by omega)).2.1), fun d β μ h σ M1 Q hβ hg hk hs hm hc o hh hq => ?_⟩
  exact c10_wT hs o hm hc hh hβ hg hk n8_h g00_h hcz g05_h hA hq
