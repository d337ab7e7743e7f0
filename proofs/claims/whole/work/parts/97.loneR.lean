/-! ===== a lone piece: pure ===== -/
def ln_t (σ : Nat → Nat) (k g l : Nat) : Nat → Nat × Nat
  | 0 => (l, 0)
  | y + 1 => (min 99 ((ln_t σ k g l y).1 + sg_ln k (sg_sy σ y / 4) (sg_sy σ y % 4) y), (ln_t σ k g l y).2 + if sg_br k g 0 ≤ (ln_t σ k g l y).1 + 6 * (sg_sy σ y / 4) then 1 else 0)
theorem ln_t_le {σ : Nat → Nat} {k g l : Nat} (hl : l ≤ 99) : ∀ y, (ln_t σ k g l y).1 ≤ 99 ∧ (ln_t σ k g l y).2 ≤ y
  | 0 => ⟨hl, Nat.le_refl _⟩
  | y + 1 => by
    have ih := ln_t_le (σ := σ) (k := k) (g := g) hl y
    rw [ln_t]
    refine ⟨Nat.min_le_left _ _, ?_⟩
    show (ln_t σ k g l y).2 + _ ≤ y + 1
    split <;> omega
def ln_x (σ : Nat → Nat) (r : Nat) (t : Nat × Nat) : Nat := if σ (66 + 4 * r) = 0 then t.1 else t.2
def ln_bad (σ : Nat → Nat) (r : Nat) (t : Nat × Nat) : Prop := ¬ (σ (67 + 4 * r) ≤ ln_x σ r t ∧ ln_x σ r t ≤ σ (68 + 4 * r))
def ln_db (σ : Nat → Nat) (r y : Nat) (t : Nat × Nat) : Bool := decide (σ (65 + 4 * r) = y) && (decide (ln_x σ r t < σ (67 + 4 * r)) || decide (σ (68 + 4 * r) < ln_x σ r t))
theorem ln_db_e {σ : Nat → Nat} {r y : Nat} {t : Nat × Nat} : ln_db σ r y t = true ↔ (σ (65 + 4 * r) = y ∧ ln_bad σ r t) := by
  unfold ln_db ln_bad
  rw [Bool.and_eq_true, Bool.or_eq_true, decide_eq_true_iff, decide_eq_true_iff, decide_eq_true_iff]
  constructor
  · rintro ⟨a, b⟩; exact ⟨a, by omega⟩
  · rintro ⟨a, b⟩; exact ⟨a, by omega⟩
/-- the reports that are wrong behind year y -/
def ln_b (σ : Nat → Nat) (y : Nat) (t : Nat × Nat) : Nat → Nat
  | 0 => 0
  | r + 1 => if ln_db σ r y t = true then ln_b σ y t r ||| 2 ^ r else ln_b σ y t r
theorem ln_b_t {σ : Nat → Nat} {y i : Nat} {t : Nat × Nat} : ∀ n, (ln_b σ y t n).testBit i = true ↔ (i < n ∧ σ (65 + 4 * i) = y ∧ ln_bad σ i t)
  | 0 => by rw [ln_b, Nat.zero_testBit]; constructor; (intro h; cases h); (rintro ⟨a, _⟩; omega)
  | n + 1 => by
    have ih := ln_b_t (σ := σ) (y := y) (i := i) (t := t) n
    by_cases h : ln_db σ n y t = true
    · rw [ln_b, if_pos h, Nat.testBit_or, Bool.or_eq_true, ih, Nat.testBit_two_pow, decide_eq_true_iff]
      rw [ln_db_e] at h
      constructor
      · rintro (a | a)
        · exact ⟨by omega, a.2⟩
        · subst a; exact ⟨by omega, h⟩
      · rintro ⟨a, b⟩
        by_cases e : n = i
        · exact Or.inr e
        · exact Or.inl ⟨by omega, b⟩
    · rw [ln_b, if_neg h, ih]
      rw [ln_db_e] at h
      constructor
      · rintro ⟨a, b⟩; exact ⟨by omega, b⟩
      · rintro ⟨a, b⟩
        refine ⟨?_, b⟩
        by_cases e : i = n
        · subst e; exact absurd b h
        · omega
theorem ln_b_64 {σ : Nat → Nat} {y : Nat} {t : Nat × Nat} : ∀ n, n ≤ 6 → ln_b σ y t n < 64
  | 0, _ => by rw [ln_b]; omega
  | n + 1, h => by
    have ih := ln_b_64 (σ := σ) (y := y) (t := t) n (by omega)
    rw [ln_b]
    split
    · exact (q_orr _ ih _ (by have := Nat.pow_lt_pow_right (a := 2) (by decide) (show n < 6 by omega); omega)).2
    · exact ih
def ln_o (σ : Nat → Nat) (t : Nat → Nat × Nat) : Nat → Nat
  | 0 => 0
  | y + 1 => ln_o σ t y ||| ln_b σ y (t y) (σ 5)
theorem ln_o_t {σ : Nat → Nat} {t : Nat → Nat × Nat} {i : Nat} : ∀ n, (ln_o σ t n).testBit i = true ↔ (i < σ 5 ∧ σ (65 + 4 * i) < n ∧ ln_bad σ i (t (σ (65 + 4 * i))))
  | 0 => by rw [ln_o, Nat.zero_testBit]; constructor; (intro h; cases h); (rintro ⟨_, a, _⟩; omega)
  | n + 1 => by
    rw [ln_o, Nat.testBit_or, Bool.or_eq_true, ln_o_t n, ln_b_t]
    constructor
    · rintro (⟨a, b, c⟩ | ⟨a, b, c⟩)
      · exact ⟨a, by omega, c⟩
      · exact ⟨a, by omega, by rw [b]; exact c⟩
    · rintro ⟨a, b, c⟩
      by_cases e : σ (65 + 4 * i) = n
      · exact Or.inr ⟨a, e, by rw [e] at c; exact c⟩
      · exact Or.inl ⟨a, by omega, c⟩
theorem ln_o_64 {σ : Nat → Nat} {t : Nat → Nat × Nat} (h5_h : σ 5 ≤ 6) : ∀ n, ln_o σ t n < 64
  | 0 => by rw [ln_o]; omega
  | n + 1 => (q_orr _ (ln_o_64 h5_h n) _ (ln_b_64 _ h5_h)).2
theorem tb_ext {a b : Nat} (h : ∀ i, a.testBit i = true ↔ b.testBit i = true) : a = b := by
  apply Nat.eq_of_testBit_eq
  intro i
  have := h i
  cases e1_h : a.testBit i <;> cases e2_h : b.testBit i <;> simp_all
theorem ln_o_last {σ : Nat → Nat} {t : Nat → Nat × Nat} {n : Nat} (hy : ∀ r, r < σ 5 → σ (65 + 4 * r) < n ∧ σ (65 + 4 * r) < 16) : ln_o σ t n = ln_o σ t 16 := tb_ext (fun i => by
  rw [ln_o_t, ln_o_t]
  constructor
  · rintro ⟨a, b, c⟩; exact ⟨a, (hy i a).2, c⟩
  · rintro ⟨a, b, c⟩; exact ⟨a, (hy i a).1, c⟩)
def ln_T (σ : Nat → Nat) (v : Nat) : Nat → Nat × Nat := ln_t σ (1 + v / 100) (v / 10 % 10) (9 * (v % 10))
/-- the reports that lone piece v makes wrong -/
def ln_v (σ : Nat → Nat) (v : Nat) : Nat := ln_o σ (ln_T σ v) 16
theorem ln_T_le {σ : Nat → Nat} {v : Nat} (y : Nat) : (ln_T σ v y).1 ≤ 99 ∧ (ln_T σ v y).2 ≤ y := ln_t_le (by omega) y
theorem ln_v_t {σ : Nat → Nat} {v i : Nat} (hy : ∀ r, r < σ 5 → σ (65 + 4 * r) < 16) : (ln_v σ v).testBit i = true ↔ (i < σ 5 ∧ ln_bad σ i (ln_T σ v (σ (65 + 4 * i)))) := by
  unfold ln_v
  rw [ln_o_t]
  constructor
  · rintro ⟨a, b, c⟩; exact ⟨a, c⟩
  · rintro ⟨a, c⟩; exact ⟨a, hy i a, c⟩
def ln_f (f : Nat → Bool) : Nat → Option Nat
  | 0 => none
  | n + 1 => match ln_f f n with
    | some v => some v
    | none => if f n = true then some n else none
theorem ln_f_n {f : Nat → Bool} : ∀ n, (∀ u, u < n → f u = false) → ln_f f n = none
  | 0, _ => rfl
  | n + 1, h => by rw [ln_f, ln_f_n n (fun u hu => h u (by omega))]; dsimp only; rw [if_neg (by rw [h n (by omega)]; decide)]
theorem ln_f_s {f : Nat → Bool} {v : Nat} (hv : f v = true) (hn : ∀ u, u < v → f u = false) : ∀ n, v < n → ln_f f n = some v
  | 0, h => by omega
  | n + 1, h => by
    by_cases e : v = n
    · subst e; rw [ln_f, ln_f_n v hn]; dsimp only; rw [if_pos hv]
    · rw [ln_f, ln_f_s hv hn n (by omega)]
def ln_c (f : Nat → Bool) : Nat → Nat
  | 0 => 0
  | n + 1 => ln_c f n + if f n = true then 1 else 0
theorem ln_c_le {f : Nat → Bool} : ∀ n, ln_c f n ≤ n
  | 0 => Nat.le_refl _
  | n + 1 => by rw [ln_c]; have := ln_c_le (f := f) n; split <;> omega
theorem ln_cf {f : Nat → Bool} : ∀ n, (ln_c f n = 0 ↔ ln_f f n = none)
  | 0 => ⟨fun _ => rfl, fun _ => rfl⟩
  | n + 1 => by
    have ih := ln_cf (f := f) n
    rw [ln_c, ln_f]
    cases e : ln_f f n with
    | none =>
      have := ih.mpr e
      dsimp only
      by_cases h : f n = true
      · rw [if_pos h, if_pos h]; constructor; (intro z; omega); (intro z; cases z)
      · rw [if_neg h, if_neg h]; constructor; (intro _; rfl); (intro _; omega)
    | some v =>
      have h1_h : ¬ ln_c f n = 0 := fun z => by rw [ih.mp z] at e; cases e
      dsimp only
      constructor; (intro z; omega); (intro z; cases z)
def ln_z (σ : Nat → Nat) (v : Nat) : Bool := decide (ln_v σ v = 0)
def ln_su (σ : Nat → Nat) : Nat → Nat
  | 0 => 0
  | n + 1 => if sg_bits (ln_v σ n) = 1 then ln_su σ n ||| ln_v σ n else ln_su σ n
def kf_lone (K : sg_K) (x : Int32) : Int32 := if nI 0 ≤ x ∧ x ≤ nI 3 then (if x = nI 0 then nI (ln_c (ln_z K.1) 500) else match ln_f (ln_z K.1) 500 with
  | none => -3
  | some v => if x = nI 1 then nI (1 + v / 100) else if x = nI 2 then nI (v / 10 % 10) else nI (9 * (v % 10))) else -1
def kf_liar (K : sg_K) : Int32 := match ln_f (ln_z K.1) 500 with
  | none => sg_lo (ln_su K.1 500)
  | some _ => -3
theorem q_b1p : ∀ s, s < 64 → (sg_bits s = 1 ↔ (s = 1 ∨ s = 2 ∨ s = 4 ∨ s = 8 ∨ s = 16 ∨ s = 32)) := by decide +kernel
theorem q_one : ∀ s, s < 64 → ∀ r, r < 6 → (∀ i, i < 6 → s.testBit i = true → i = r) → (s = 0 ∨ s = 2 ^ r) := by decide +kernel
theorem q_bp : ∀ r, r < 6 → sg_bits (2 ^ r) = 1 := by decide +kernel
theorem q_bt : ∀ s, s < 64 → sg_bits s = 1 → ∀ r, r < 6 → s.testBit r = true → s = 2 ^ r := by decide +kernel
theorem ln_su_64 {σ : Nat → Nat} (h5_h : σ 5 ≤ 6) : ∀ n, ln_su σ n < 64
  | 0 => by rw [ln_su]; omega
  | n + 1 => by
    rw [ln_su]
    split
    · exact (q_orr _ (ln_su_64 h5_h n) _ (ln_o_64 h5_h 16)).2
    · exact ln_su_64 h5_h n
theorem ln_su_t {σ : Nat → Nat} (h5_h : σ 5 ≤ 6) {r : Nat} (hr : r < 6) : ∀ n, (ln_su σ n).testBit r = true ↔ ∃ v, v < n ∧ ln_v σ v = 2 ^ r
  | 0 => by rw [ln_su, Nat.zero_testBit]; constructor; (intro h; cases h); (rintro ⟨v, a, _⟩; omega)
  | n + 1 => by
    have ih := ln_su_t h5_h hr n
    have l64_h : ln_v σ n < 64 := ln_o_64 h5_h 16
    by_cases h : sg_bits (ln_v σ n) = 1
    · rw [ln_su, if_pos h, Nat.testBit_or, Bool.or_eq_true, ih]
      constructor
      · rintro (⟨v, a, b⟩ | a)
        · exact ⟨v, by omega, b⟩
        · exact ⟨n, by omega, q_bt _ l64_h h r hr a⟩
      · rintro ⟨v, a, b⟩
        by_cases e : v = n
        · subst e; right; rw [b, Nat.testBit_two_pow_self]
        · exact Or.inl ⟨v, by omega, b⟩
    · rw [ln_su, if_neg h, ih]
      constructor
      · rintro ⟨v, a, b⟩; exact ⟨v, by omega, b⟩
      · rintro ⟨v, a, b⟩
        by_cases e : v = n
        · subst e; exact absurd (by rw [b]; exact q_bp r hr) h
        · exact ⟨v, by omega, b⟩
theorem gbI_01 (b : Bool) : gbI b = 0 ∨ gbI b = 1 := by cases b; exact Or.inl rfl; exact Or.inr rfl
theorem gbI_0 {b : Bool} (h : gbI b = 0) : b = false := by cases b; rfl; exact absurd h (by decide)
theorem gbI_1 {b : Bool} (h : ¬ gbI b = 0) : b = true := by cases b; exact absurd rfl h; rfl
def ln_G (σ : Nat → Nat) (B : Nat → Bool) (y : Nat) (t : Nat × Nat) (r : Nat) : Prop := B r = true ∨ σ (65 + 4 * r) ≠ y ∨ ¬ ln_bad σ r t
/-! ===== lone and liar in the reference ===== -/

set_option maxRecDepth 20000 in
theorem r_fiL {d : Nat} {M : dk_Mem} {Q : Option Value → dk_Mem → Prop} {σ : Nat → Nat} (hr : rr σ M) (o : sg_in σ) {v k0_h g0_h y : Nat} {t : Nat × Nat} {bt : Int32} {B : Nat → Bool} (hB : ∀ r, r < 6 → (nI r = bt ↔ B r = true)) (hy : y ≤ 15) (ht1_h : t.1 ≤ 99) (ht2_h : t.2 ≤ 16) {P0 : Prop} (hx : ∀ b x10_h x11_h, (b = true ↔ (P0 ∧ ∀ i, i < σ 5 → ln_G σ B y t i)) → dk_W (d + 1) mX12_fits 147 [some (.ref 104), some (.int (nI v)), some (.int bt), some (.int (nI k0_h)), some (.int (nI g0_h)), some (.int (nI t.1)), some (.int (nI t.2)), some (.int (gbI b)), some (.int (nI y)), some (.int (nI (σ 5))), x10_h, x11_h] [] M Q) : ∀ (n r : Nat) (b : Bool) (x10_h x11_h : Option Value), r ≤ σ 5 → σ 5 - r < n → (b = true ↔ (P0 ∧ ∀ i, i < r → ln_G σ B y t i)) → dk_W (d + 1) mX12_fits 44 [some (.ref 104), some (.int (nI v)), some (.int bt), some (.int (nI k0_h)), some (.int (nI g0_h)), some (.int (nI t.1)), some (.int (nI t.2)), some (.int (gbI b)), some (.int (nI y)), some (.int (nI r)), x10_h, x11_h] [] M Q := by
  have o5_h := o.1.2.2.2.2.1
  intro n
  induction n with
  | zero => intro r b x10_h x11_h _ h; omega
  | succ n ih =>
    intro r b x10_h x11_h hr5_h hn hb
    refine w_il9 (n := 46) dX12_fits_44 rfl ?_
    refine w_al0 (n := 47) dX12_fits_46 rfl ?_
    refine g_R (n := 50) f_X12_9_12 pl_104 rf_104_0 dX12_fits_47 rfl ?_
    refine w_iconst (n := 51) (nI 5) dX12_fits_50 (by decide) rfl ?_
    refine i_iald (n := 52) pl_105 (j := 5) rfl (by decide) (by decide) (hr 5 (by decide) (by decide) (by decide)) dX12_fits_51 rfl ?_
    refine w_ic_ge (n := 55) 147 dX12_fits_52 (by decide) rfl (fun z52_h => ?_) (fun z52_h => ?_)
    · skip
      rw [q_le (by omega) (by omega)] at z52_h
      have e : r = σ 5 := by omega
      subst e
      exact hx b x10_h x11_h hb
    · skip
      have hr6_h : r < σ 5 := by rw [q_le (by omega) (by omega)] at z52_h; omega
      have ro := o.2.2.2 r (by omega)
      have k1_h := hr (65 + 4 * r) (by omega) (by omega) (by omega)
      have k2_h : M.1 105 (65 + 4 * r + 1) = nI (σ (66 + 4 * r)) := by rw [show 65 + 4 * r + 1 = 66 + 4 * r by omega]; exact hr (66 + 4 * r) (by omega) (by omega) (by omega)
      have k3_h : M.1 105 (65 + 4 * r + 2) = nI (σ (67 + 4 * r)) := by rw [show 65 + 4 * r + 2 = 67 + 4 * r by omega]; exact hr (67 + 4 * r) (by omega) (by omega) (by omega)
      have k4_h : M.1 105 (65 + 4 * r + 3) = nI (σ (68 + 4 * r)) := by rw [show 65 + 4 * r + 3 = 68 + 4 * r by omega]; exact hr (68 + 4 * r) (by omega) (by omega) (by omega)
      have step : ∀ b2_h : Bool, (b2_h = true ↔ (b = true ∧ ln_G σ B y t r)) → (b2_h = true ↔ (P0 ∧ ∀ i, i < r + 1 → ln_G σ B y t i)) := fun b2_h h2_h => by
        rw [h2_h, hb]
        constructor
        · rintro ⟨⟨a, c⟩, e⟩; exact ⟨a, fun i hi => by rcases (show i < r ∨ i = r by omega) with z | z; exact c i z; (rw [z]; exact e)⟩
        · rintro ⟨a, c⟩; exact ⟨⟨a, fun i hi => c i (by omega)⟩, c r (by omega)⟩
      refine w_bipush (n := 57) (nI 65) dX12_fits_55 (by decide) rfl ?_
      refine w_iconst (n := 58) (nI 4) dX12_fits_57 (by decide) rfl ?_
      refine w_il9 (n := 60) dX12_fits_58 rfl ?_
      refine w_imul (n := 61) dX12_fits_60 rfl ?_
      refine w_iadd (n := 62) dX12_fits_61 rfl ?_
      rw [pk_mul, nI_add]
      refine w_is10 (n := 64) dX12_fits_62 rfl rfl (by decide) ?_
      refine w_al0 (n := 65) dX12_fits_64 rfl ?_
      refine g_R (n := 68) f_X12_9_12 pl_104 rf_104_0 dX12_fits_65 rfl ?_
      refine w_il10 (n := 70) dX12_fits_68 rfl ?_
      refine w_iconst (n := 71) (nI 1) dX12_fits_70 (by decide) rfl ?_
      refine w_iadd (n := 72) dX12_fits_71 rfl ?_
      refine i_iald (n := 73) pl_105 (j := 65 + 4 * r + 1) (by rw [nI_add]) (by omega) (by decide) k2_h dX12_fits_72 rfl ?_
      refine w_if_ne (n := 76) 81 dX12_fits_73 (by decide) rfl (fun z73_h => ?_) (fun z73_h => ?_)
      · skip
        have ex : ln_x σ r t = t.2 := if_neg (fun z => z73_h ((q_nz (by omega)).mpr z))
        refine w_il6 (n := 83) dX12_fits_81 rfl ?_
        refine w_is11 (n := 85) dX12_fits_83 rfl rfl (by decide) ?_
        refine w_il7 (n := 87) dX12_fits_85 rfl ?_
        refine w_if_eq (n := 90) 138 dX12_fits_87 (by decide) rfl (fun z87_h => ?_) (fun z87_h => ?_)
        · skip
          refine w_iconst (n := 139) (nI 0) dX12_fits_138 (by decide) rfl ?_
          refine w_is7 (n := 141) dX12_fits_139 rfl rfl (by decide) ?_
          refine w_inc9 (n := 144) (nI 1) dX12_fits_141 (by decide) rfl rfl (by decide) ?_
          refine w_goto 44 dX12_fits_144 (by decide) ?_
          rw [nI_add]
          first | (have eb := gbI_0 z87_h; exact ih (r + 1) false _ _ (by omega) (by omega) (step false (by rw [eb]; exact ⟨fun z => (by cases z), fun z => z.1⟩))) | (have eb := gbI_1 z87_h; have zz := (hB r (by omega)).mp z93_h; exact ih (r + 1) true _ _ (by omega) (by omega) (step true ⟨fun _ => ⟨eb, Or.inl zz⟩, fun _ => rfl⟩)) | (have eb := gbI_1 z87_h; have zz := t128_h; rw [q_le (by omega) (by omega), q_le (by omega) (by omega)] at zz; exact ih (r + 1) true _ _ (by omega) (by omega) (step true ⟨fun _ => ⟨eb, Or.inr (Or.inr (fun w => w (by rw [ex]; exact zz)))⟩, fun _ => rfl⟩)) | (have zb := fun w => z93_h ((hB r (by omega)).mpr w); have zy := z105_h; rw [nI_eq (by omega) (by omega)] at zy; have zz := t128_h; rw [q_le (by omega) (by omega), q_le (by omega) (by omega)] at zz; exact ih (r + 1) false _ _ (by omega) (by omega) (step false ⟨fun w => (by cases w), fun w => by rcases w.2 with e | e | e; exact absurd e zb; exact absurd zy e; exact absurd (fun u => zz (by rw [ex] at u; exact u)) e⟩)) | (have eb := gbI_1 z87_h; have zy := z105_h; rw [nI_eq (by omega) (by omega)] at zy; exact ih (r + 1) true _ _ (by omega) (by omega) (step true ⟨fun _ => ⟨eb, Or.inr (Or.inl zy)⟩, fun _ => rfl⟩))
        · skip
          refine w_il9 (n := 92) dX12_fits_90 rfl ?_
          refine w_il2 (n := 93) dX12_fits_92 rfl ?_
          refine w_ic_eq (n := 96) 134 dX12_fits_93 (by decide) rfl (fun z93_h => ?_) (fun z93_h => ?_)
          · skip
            refine w_iconst (n := 135) (nI 1) dX12_fits_134 (by decide) rfl ?_
            refine w_goto 139 dX12_fits_135 (by decide) ?_
            refine w_is7 (n := 141) dX12_fits_139 rfl rfl (by decide) ?_
            refine w_inc9 (n := 144) (nI 1) dX12_fits_141 (by decide) rfl rfl (by decide) ?_
            refine w_goto 44 dX12_fits_144 (by decide) ?_
            rw [nI_add]
            first | (have eb := gbI_0 z87_h; exact ih (r + 1) false _ _ (by omega) (by omega) (step false (by rw [eb]; exact ⟨fun z => (by cases z), fun z => z.1⟩))) | (have eb := gbI_1 z87_h; have zz := (hB r (by omega)).mp z93_h; exact ih (r + 1) true _ _ (by omega) (by omega) (step true ⟨fun _ => ⟨eb, Or.inl zz⟩, fun _ => rfl⟩)) | (have eb := gbI_1 z87_h; have zz := t128_h; rw [q_le (by omega) (by omega), q_le (by omega) (by omega)] at zz; exact ih (r + 1) true _ _ (by omega) (by omega) (step true ⟨fun _ => ⟨eb, Or.inr (Or.inr (fun w => w (by rw [ex]; exact zz)))⟩, fun _ => rfl⟩)) | (have zb := fun w => z93_h ((hB r (by omega)).mpr w); have zy := z105_h; rw [nI_eq (by omega) (by omega)] at zy; have zz := t128_h; rw [q_le (by omega) (by omega), q_le (by omega) (by omega)] at zz; exact ih (r + 1) false _ _ (by omega) (by omega) (step false ⟨fun w => (by cases w), fun w => by rcases w.2 with e | e | e; exact absurd e zb; exact absurd zy e; exact absurd (fun u => zz (by rw [ex] at u; exact u)) e⟩)) | (have eb := gbI_1 z87_h; have zy := z105_h; rw [nI_eq (by omega) (by omega)] at zy; exact ih (r + 1) true _ _ (by omega) (by omega) (step true ⟨fun _ => ⟨eb, Or.inr (Or.inl zy)⟩, fun _ => rfl⟩))
          · skip
            refine w_al0 (n := 97) dX12_fits_96 rfl ?_
            refine g_R (n := 100) f_X12_9_12 pl_104 rf_104_0 dX12_fits_97 rfl ?_
            refine w_il10 (n := 102) dX12_fits_100 rfl ?_
            refine i_iald (n := 103) pl_105 (j := 65 + 4 * r) rfl (by omega) (by decide) k1_h dX12_fits_102 rfl ?_
            refine w_il8 (n := 105) dX12_fits_103 rfl ?_
            refine w_ic_ne (n := 108) 134 dX12_fits_105 (by decide) rfl (fun z105_h => ?_) (fun z105_h => ?_)
            · skip
              refine w_iconst (n := 135) (nI 1) dX12_fits_134 (by decide) rfl ?_
              refine w_goto 139 dX12_fits_135 (by decide) ?_
              refine w_is7 (n := 141) dX12_fits_139 rfl rfl (by decide) ?_
              refine w_inc9 (n := 144) (nI 1) dX12_fits_141 (by decide) rfl rfl (by decide) ?_
              refine w_goto 44 dX12_fits_144 (by decide) ?_
              rw [nI_add]
              first | (have eb := gbI_0 z87_h; exact ih (r + 1) false _ _ (by omega) (by omega) (step false (by rw [eb]; exact ⟨fun z => (by cases z), fun z => z.1⟩))) | (have eb := gbI_1 z87_h; have zz := (hB r (by omega)).mp z93_h; exact ih (r + 1) true _ _ (by omega) (by omega) (step true ⟨fun _ => ⟨eb, Or.inl zz⟩, fun _ => rfl⟩)) | (have eb := gbI_1 z87_h; have zz := t128_h; rw [q_le (by omega) (by omega), q_le (by omega) (by omega)] at zz; exact ih (r + 1) true _ _ (by omega) (by omega) (step true ⟨fun _ => ⟨eb, Or.inr (Or.inr (fun w => w (by rw [ex]; exact zz)))⟩, fun _ => rfl⟩)) | (have zb := fun w => z93_h ((hB r (by omega)).mpr w); have zy := z105_h; rw [nI_eq (by omega) (by omega)] at zy; have zz := t128_h; rw [q_le (by omega) (by omega), q_le (by omega) (by omega)] at zz; exact ih (r + 1) false _ _ (by omega) (by omega) (step false ⟨fun w => (by cases w), fun w => by rcases w.2 with e | e | e; exact absurd e zb; exact absurd zy e; exact absurd (fun u => zz (by rw [ex] at u; exact u)) e⟩)) | (have eb := gbI_1 z87_h; have zy := z105_h; rw [nI_eq (by omega) (by omega)] at zy; exact ih (r + 1) true _ _ (by omega) (by omega) (step true ⟨fun _ => ⟨eb, Or.inr (Or.inl zy)⟩, fun _ => rfl⟩))
            · skip
              refine w_il11 (n := 110) dX12_fits_108 rfl ?_
              refine w_al0 (n := 111) dX12_fits_110 rfl ?_
              refine g_R (n := 114) f_X12_9_12 pl_104 rf_104_0 dX12_fits_111 rfl ?_
              refine w_il10 (n := 116) dX12_fits_114 rfl ?_
              refine w_iconst (n := 117) (nI 2) dX12_fits_116 (by decide) rfl ?_
              refine w_iadd (n := 118) dX12_fits_117 rfl ?_
              refine i_iald (n := 119) pl_105 (j := 65 + 4 * r + 2) (by rw [nI_add]) (by omega) (by decide) k3_h dX12_fits_118 rfl ?_
              refine w_al0 (n := 120) dX12_fits_119 rfl ?_
              refine g_R (n := 123) f_X12_9_12 pl_104 rf_104_0 dX12_fits_120 rfl ?_
              refine w_il10 (n := 125) dX12_fits_123 rfl ?_
              refine w_iconst (n := 126) (nI 3) dX12_fits_125 (by decide) rfl ?_
              refine w_iadd (n := 127) dX12_fits_126 rfl ?_
              refine i_iald (n := 128) pl_105 (j := 65 + 4 * r + 3) (by rw [nI_add]) (by omega) (by decide) k4_h dX12_fits_127 rfl ?_
              refine w_cS3 (n := 131) s0_X12_in k_X12_61 (Nat.le_of_ble_eq_true rfl) dX12_fits_128 rfl (r_in (fun t128_h => ?_) (fun t128_h => ?_))
              · skip
                refine w_if_eq (n := 134) 138 dX12_fits_131 (by decide) rfl (fun h => absurd h (by decide)) (fun _ => ?_)
                refine w_iconst (n := 135) (nI 1) dX12_fits_134 (by decide) rfl ?_
                refine w_goto 139 dX12_fits_135 (by decide) ?_
                refine w_is7 (n := 141) dX12_fits_139 rfl rfl (by decide) ?_
                refine w_inc9 (n := 144) (nI 1) dX12_fits_141 (by decide) rfl rfl (by decide) ?_
                refine w_goto 44 dX12_fits_144 (by decide) ?_
                rw [nI_add]
                first | (have eb := gbI_0 z87_h; exact ih (r + 1) false _ _ (by omega) (by omega) (step false (by rw [eb]; exact ⟨fun z => (by cases z), fun z => z.1⟩))) | (have eb := gbI_1 z87_h; have zz := (hB r (by omega)).mp z93_h; exact ih (r + 1) true _ _ (by omega) (by omega) (step true ⟨fun _ => ⟨eb, Or.inl zz⟩, fun _ => rfl⟩)) | (have eb := gbI_1 z87_h; have zz := t128_h; rw [q_le (by omega) (by omega), q_le (by omega) (by omega)] at zz; exact ih (r + 1) true _ _ (by omega) (by omega) (step true ⟨fun _ => ⟨eb, Or.inr (Or.inr (fun w => w (by rw [ex]; exact zz)))⟩, fun _ => rfl⟩)) | (have zb := fun w => z93_h ((hB r (by omega)).mpr w); have zy := z105_h; rw [nI_eq (by omega) (by omega)] at zy; have zz := t128_h; rw [q_le (by omega) (by omega), q_le (by omega) (by omega)] at zz; exact ih (r + 1) false _ _ (by omega) (by omega) (step false ⟨fun w => (by cases w), fun w => by rcases w.2 with e | e | e; exact absurd e zb; exact absurd zy e; exact absurd (fun u => zz (by rw [ex] at u; exact u)) e⟩)) | (have eb := gbI_1 z87_h; have zy := z105_h; rw [nI_eq (by omega) (by omega)] at zy; exact ih (r + 1) true _ _ (by omega) (by omega) (step true ⟨fun _ => ⟨eb, Or.inr (Or.inl zy)⟩, fun _ => rfl⟩))
              · skip
                refine w_if_eq (n := 134) 138 dX12_fits_131 (by decide) rfl (fun _ => ?_) (fun h => absurd (by decide) h)
                refine w_iconst (n := 139) (nI 0) dX12_fits_138 (by decide) rfl ?_
                refine w_is7 (n := 141) dX12_fits_139 rfl rfl (by decide) ?_
                refine w_inc9 (n := 144) (nI 1) dX12_fits_141 (by decide) rfl rfl (by decide) ?_
                refine w_goto 44 dX12_fits_144 (by decide) ?_
                rw [nI_add]
                first | (have eb := gbI_0 z87_h; exact ih (r + 1) false _ _ (by omega) (by omega) (step false (by rw [eb]; exact ⟨fun z => (by cases z), fun z => z.1⟩))) | (have eb := gbI_1 z87_h; have zz := (hB r (by omega)).mp z93_h; exact ih (r + 1) true _ _ (by omega) (by omega) (step true ⟨fun _ => ⟨eb, Or.inl zz⟩, fun _ => rfl⟩)) | (have eb := gbI_1 z87_h; have zz := t128_h; rw [q_le (by omega) (by omega), q_le (by omega) (by omega)] at zz; exact ih (r + 1) true _ _ (by omega) (by omega) (step true ⟨fun _ => ⟨eb, Or.inr (Or.inr (fun w => w (by rw [ex]; exact zz)))⟩, fun _ => rfl⟩)) | (have zb := fun w => z93_h ((hB r (by omega)).mpr w); have zy := z105_h; rw [nI_eq (by omega) (by omega)] at zy; have zz := t128_h; rw [q_le (by omega) (by omega), q_le (by omega) (by omega)] at zz; exact ih (r + 1) false _ _ (by omega) (by omega) (step false ⟨fun w => (by cases w), fun w => by rcases w.2 with e | e | e; exact absurd e zb; exact absurd zy e; exact absurd (fun u => zz (by rw [ex] at u; exact u)) e⟩)) | (have eb := gbI_1 z87_h; have zy := z105_h; rw [nI_eq (by omega) (by omega)] at zy; exact ih (r + 1) true _ _ (by omega) (by omega) (step true ⟨fun _ => ⟨eb, Or.inr (Or.inl zy)⟩, fun _ => rfl⟩))
      · skip
        have ex : ln_x σ r t = t.1 := if_pos ((q_nz (by omega)).mp z73_h)
        refine w_il5 (n := 78) dX12_fits_76 rfl ?_
        refine w_goto 83 dX12_fits_78 (by decide) ?_
        refine w_is11 (n := 85) dX12_fits_83 rfl rfl (by decide) ?_
        refine w_il7 (n := 87) dX12_fits_85 rfl ?_
        refine w_if_eq (n := 90) 138 dX12_fits_87 (by decide) rfl (fun z87_h => ?_) (fun z87_h => ?_)
        · skip
          refine w_iconst (n := 139) (nI 0) dX12_fits_138 (by decide) rfl ?_
          refine w_is7 (n := 141) dX12_fits_139 rfl rfl (by decide) ?_
          refine w_inc9 (n := 144) (nI 1) dX12_fits_141 (by decide) rfl rfl (by decide) ?_
          refine w_goto 44 dX12_fits_144 (by decide) ?_
          rw [nI_add]
          first | (have eb := gbI_0 z87_h; exact ih (r + 1) false _ _ (by omega) (by omega) (step false (by rw [eb]; exact ⟨fun z => (by cases z), fun z => z.1⟩))) | (have eb := gbI_1 z87_h; have zz := (hB r (by omega)).mp z93_h; exact ih (r + 1) true _ _ (by omega) (by omega) (step true ⟨fun _ => ⟨eb, Or.inl zz⟩, fun _ => rfl⟩)) | (have eb := gbI_1 z87_h; have zz := t128_h; rw [q_le (by omega) (by omega), q_le (by omega) (by omega)] at zz; exact ih (r + 1) true _ _ (by omega) (by omega) (step true ⟨fun _ => ⟨eb, Or.inr (Or.inr (fun w => w (by rw [ex]; exact zz)))⟩, fun _ => rfl⟩)) | (have zb := fun w => z93_h ((hB r (by omega)).mpr w); have zy := z105_h; rw [nI_eq (by omega) (by omega)] at zy; have zz := t128_h; rw [q_le (by omega) (by omega), q_le (by omega) (by omega)] at zz; exact ih (r + 1) false _ _ (by omega) (by omega) (step false ⟨fun w => (by cases w), fun w => by rcases w.2 with e | e | e; exact absurd e zb; exact absurd zy e; exact absurd (fun u => zz (by rw [ex] at u; exact u)) e⟩)) | (have eb := gbI_1 z87_h; have zy := z105_h; rw [nI_eq (by omega) (by omega)] at zy; exact ih (r + 1) true _ _ (by omega) (by omega) (step true ⟨fun _ => ⟨eb, Or.inr (Or.inl zy)⟩, fun _ => rfl⟩))
        · skip
          refine w_il9 (n := 92) dX12_fits_90 rfl ?_
          refine w_il2 (n := 93) dX12_fits_92 rfl ?_
          refine w_ic_eq (n := 96) 134 dX12_fits_93 (by decide) rfl (fun z93_h => ?_) (fun z93_h => ?_)
          · skip
            refine w_iconst (n := 135) (nI 1) dX12_fits_134 (by decide) rfl ?_
            refine w_goto 139 dX12_fits_135 (by decide) ?_
            refine w_is7 (n := 141) dX12_fits_139 rfl rfl (by decide) ?_
            refine w_inc9 (n := 144) (nI 1) dX12_fits_141 (by decide) rfl rfl (by decide) ?_
            refine w_goto 44 dX12_fits_144 (by decide) ?_
            rw [nI_add]
            first | (have eb := gbI_0 z87_h; exact ih (r + 1) false _ _ (by omega) (by omega) (step false (by rw [eb]; exact ⟨fun z => (by cases z), fun z => z.1⟩))) | (have eb := gbI_1 z87_h; have zz := (hB r (by omega)).mp z93_h; exact ih (r + 1) true _ _ (by omega) (by omega) (step true ⟨fun _ => ⟨eb, Or.inl zz⟩, fun _ => rfl⟩)) | (have eb := gbI_1 z87_h; have zz := t128_h; rw [q_le (by omega) (by omega), q_le (by omega) (by omega)] at zz; exact ih (r + 1) true _ _ (by omega) (by omega) (step true ⟨fun _ => ⟨eb, Or.inr (Or.inr (fun w => w (by rw [ex]; exact zz)))⟩, fun _ => rfl⟩)) | (have zb := fun w => z93_h ((hB r (by omega)).mpr w); have zy := z105_h; rw [nI_eq (by omega) (by omega)] at zy; have zz := t128_h; rw [q_le (by omega) (by omega), q_le (by omega) (by omega)] at zz; exact ih (r + 1) false _ _ (by omega) (by omega) (step false ⟨fun w => (by cases w), fun w => by rcases w.2 with e | e | e; exact absurd e zb; exact absurd zy e; exact absurd (fun u => zz (by rw [ex] at u; exact u)) e⟩)) | (have eb := gbI_1 z87_h; have zy := z105_h; rw [nI_eq (by omega) (by omega)] at zy; exact ih (r + 1) true _ _ (by omega) (by omega) (step true ⟨fun _ => ⟨eb, Or.inr (Or.inl zy)⟩, fun _ => rfl⟩))
          · skip
            refine w_al0 (n := 97) dX12_fits_96 rfl ?_
            refine g_R (n := 100) f_X12_9_12 pl_104 rf_104_0 dX12_fits_97 rfl ?_
            refine w_il10 (n := 102) dX12_fits_100 rfl ?_
            refine i_iald (n := 103) pl_105 (j := 65 + 4 * r) rfl (by omega) (by decide) k1_h dX12_fits_102 rfl ?_
            refine w_il8 (n := 105) dX12_fits_103 rfl ?_
            refine w_ic_ne (n := 108) 134 dX12_fits_105 (by decide) rfl (fun z105_h => ?_) (fun z105_h => ?_)
            · skip
              refine w_iconst (n := 135) (nI 1) dX12_fits_134 (by decide) rfl ?_
              refine w_goto 139 dX12_fits_135 (by decide) ?_
              refine w_is7 (n := 141) dX12_fits_139 rfl rfl (by decide) ?_
              refine w_inc9 (n := 144) (nI 1) dX12_fits_141 (by decide) rfl rfl (by decide) ?_
              refine w_goto 44 dX12_fits_144 (by decide) ?_
              rw [nI_add]
              first | (have eb := gbI_0 z87_h; exact ih (r + 1) false _ _ (by omega) (by omega) (step false (by rw [eb]; exact ⟨fun z => (by cases z), fun z => z.1⟩))) | (have eb := gbI_1 z87_h; have zz := (hB r (by omega)).mp z93_h; exact ih (r + 1) true _ _ (by omega) (by omega) (step true ⟨fun _ => ⟨eb, Or.inl zz⟩, fun _ => rfl⟩)) | (have eb := gbI_1 z87_h; have zz := t128_h; rw [q_le (by omega) (by omega), q_le (by omega) (by omega)] at zz; exact ih (r + 1) true _ _ (by omega) (by omega) (step true ⟨fun _ => ⟨eb, Or.inr (Or.inr (fun w => w (by rw [ex]; exact zz)))⟩, fun _ => rfl⟩)) | (have zb := fun w => z93_h ((hB r (by omega)).mpr w); have zy := z105_h; rw [nI_eq (by omega) (by omega)] at zy; have zz := t128_h; rw [q_le (by omega) (by omega), q_le (by omega) (by omega)] at zz; exact ih (r + 1) false _ _ (by omega) (by omega) (step false ⟨fun w => (by cases w), fun w => by rcases w.2 with e | e | e; exact absurd e zb; exact absurd zy e; exact absurd (fun u => zz (by rw [ex] at u; exact u)) e⟩)) | (have eb := gbI_1 z87_h; have zy := z105_h; rw [nI_eq (by omega) (by omega)] at zy; exact ih (r + 1) true _ _ (by omega) (by omega) (step true ⟨fun _ => ⟨eb, Or.inr (Or.inl zy)⟩, fun _ => rfl⟩))
            · skip
              refine w_il11 (n := 110) dX12_fits_108 rfl ?_
              refine w_al0 (n := 111) dX12_fits_110 rfl ?_
              refine g_R (n := 114) f_X12_9_12 pl_104 rf_104_0 dX12_fits_111 rfl ?_
              refine w_il10 (n := 116) dX12_fits_114 rfl ?_
              refine w_iconst (n := 117) (nI 2) dX12_fits_116 (by decide) rfl ?_
              refine w_iadd (n := 118) dX12_fits_117 rfl ?_
              refine i_iald (n := 119) pl_105 (j := 65 + 4 * r + 2) (by rw [nI_add]) (by omega) (by decide) k3_h dX12_fits_118 rfl ?_
              refine w_al0 (n := 120) dX12_fits_119 rfl ?_
              refine g_R (n := 123) f_X12_9_12 pl_104 rf_104_0 dX12_fits_120 rfl ?_
              refine w_il10 (n := 125) dX12_fits_123 rfl ?_
              refine w_iconst (n := 126) (nI 3) dX12_fits_125 (by decide) rfl ?_
              refine w_iadd (n := 127) dX12_fits_126 rfl ?_
              refine i_iald (n := 128) pl_105 (j := 65 + 4 * r + 3) (by rw [nI_add]) (by omega) (by decide) k4_h dX12_fits_127 rfl ?_
              refine w_cS3 (n := 131) s0_X12_in k_X12_61 (Nat.le_of_ble_eq_true rfl) dX12_fits_128 rfl (r_in (fun t128_h => ?_) (fun t128_h => ?_))
              · skip
                refine w_if_eq (n := 134) 138 dX12_fits_131 (by decide) rfl (fun h => absurd h (by decide)) (fun _ => ?_)
                refine w_iconst (n := 135) (nI 1) dX12_fits_134 (by decide) rfl ?_
                refine w_goto 139 dX12_fits_135 (by decide) ?_
                refine w_is7 (n := 141) dX12_fits_139 rfl rfl (by decide) ?_
                refine w_inc9 (n := 144) (nI 1) dX12_fits_141 (by decide) rfl rfl (by decide) ?_
                refine w_goto 44 dX12_fits_144 (by decide) ?_
                rw [nI_add]
                first | (have eb := gbI_0 z87_h; exact ih (r + 1) false _ _ (by omega) (by omega) (step false (by rw [eb]; exact ⟨fun z => (by cases z), fun z => z.1⟩))) | (have eb := gbI_1 z87_h; have zz := (hB r (by omega)).mp z93_h; exact ih (r + 1) true _ _ (by omega) (by omega) (step true ⟨fun _ => ⟨eb, Or.inl zz⟩, fun _ => rfl⟩)) | (have eb := gbI_1 z87_h; have zz := t128_h; rw [q_le (by omega) (by omega), q_le (by omega) (by omega)] at zz; exact ih (r + 1) true _ _ (by omega) (by omega) (step true ⟨fun _ => ⟨eb, Or.inr (Or.inr (fun w => w (by rw [ex]; exact zz)))⟩, fun _ => rfl⟩)) | (have zb := fun w => z93_h ((hB r (by omega)).mpr w); have zy := z105_h; rw [nI_eq (by omega) (by omega)] at zy; have zz := t128_h; rw [q_le (by omega) (by omega), q_le (by omega) (by omega)] at zz; exact ih (r + 1) false _ _ (by omega) (by omega) (step false ⟨fun w => (by cases w), fun w => by rcases w.2 with e | e | e; exact absurd e zb; exact absurd zy e; exact absurd (fun u => zz (by rw [ex] at u; exact u)) e⟩)) | (have eb := gbI_1 z87_h; have zy := z105_h; rw [nI_eq (by omega) (by omega)] at zy; exact ih (r + 1) true _ _ (by omega) (by omega) (step true ⟨fun _ => ⟨eb, Or.inr (Or.inl zy)⟩, fun _ => rfl⟩))
              · skip
                refine w_if_eq (n := 134) 138 dX12_fits_131 (by decide) rfl (fun _ => ?_) (fun h => absurd (by decide) h)
                refine w_iconst (n := 139) (nI 0) dX12_fits_138 (by decide) rfl ?_
                refine w_is7 (n := 141) dX12_fits_139 rfl rfl (by decide) ?_
                refine w_inc9 (n := 144) (nI 1) dX12_fits_141 (by decide) rfl rfl (by decide) ?_
                refine w_goto 44 dX12_fits_144 (by decide) ?_
                rw [nI_add]
                first | (have eb := gbI_0 z87_h; exact ih (r + 1) false _ _ (by omega) (by omega) (step false (by rw [eb]; exact ⟨fun z => (by cases z), fun z => z.1⟩))) | (have eb := gbI_1 z87_h; have zz := (hB r (by omega)).mp z93_h; exact ih (r + 1) true _ _ (by omega) (by omega) (step true ⟨fun _ => ⟨eb, Or.inl zz⟩, fun _ => rfl⟩)) | (have eb := gbI_1 z87_h; have zz := t128_h; rw [q_le (by omega) (by omega), q_le (by omega) (by omega)] at zz; exact ih (r + 1) true _ _ (by omega) (by omega) (step true ⟨fun _ => ⟨eb, Or.inr (Or.inr (fun w => w (by rw [ex]; exact zz)))⟩, fun _ => rfl⟩)) | (have zb := fun w => z93_h ((hB r (by omega)).mpr w); have zy := z105_h; rw [nI_eq (by omega) (by omega)] at zy; have zz := t128_h; rw [q_le (by omega) (by omega), q_le (by omega) (by omega)] at zz; exact ih (r + 1) false _ _ (by omega) (by omega) (step false ⟨fun w => (by cases w), fun w => by rcases w.2 with e | e | e; exact absurd e zb; exact absurd zy e; exact absurd (fun u => zz (by rw [ex] at u; exact u)) e⟩)) | (have eb := gbI_1 z87_h; have zy := z105_h; rw [nI_eq (by omega) (by omega)] at zy; exact ih (r + 1) true _ _ (by omega) (by omega) (step true ⟨fun _ => ⟨eb, Or.inr (Or.inl zy)⟩, fun _ => rfl⟩))

set_option maxRecDepth 20000 in
theorem r_fyS {d : Nat} {M : dk_Mem} {Q : Option Value → dk_Mem → Prop} {σ : Nat → Nat} (hr : rr σ M) (o : sg_in σ) {v k0_h g0_h l0_h : Nat} (hk0_h : k0_h ≤ 5) (hg0_h : g0_h ≤ 9) (hl0_h : l0_h ≤ 99) {bt : Int32} {y : Nat} (hy : y ≤ 15) {b : Bool} {x9_h x10_h x11_h : Option Value} (hx : ∀ x9_h, dk_W (d + 1) mX12_fits 34 [some (.ref 104), some (.int (nI v)), some (.int bt), some (.int (nI k0_h)), some (.int (nI g0_h)), some (.int (nI (ln_t σ k0_h g0_h l0_h (y + 1)).1)), some (.int (nI (ln_t σ k0_h g0_h l0_h (y + 1)).2)), some (.int (gbI b)), some (.int (nI (y + 1))), x9_h, x10_h, x11_h] [] M Q) : dk_W (d + 1) mX12_fits 147 [some (.ref 104), some (.int (nI v)), some (.int bt), some (.int (nI k0_h)), some (.int (nI g0_h)), some (.int (nI (ln_t σ k0_h g0_h l0_h y).1)), some (.int (nI (ln_t σ k0_h g0_h l0_h y).2)), some (.int (gbI b)), some (.int (nI y)), x9_h, x10_h, x11_h] [] M Q := by
  have tl := ln_t_le (σ := σ) (k := k0_h) (g := g0_h) hl0_h y
  have es : sg_sy σ y = σ (7 + y) := if_pos (by omega)
  have sl := o.1.sy y
  have k1_h := hr (7 + y) (by omega) (by omega) (by omega)
  have bl := sg_br_le (k := k0_h) (g := g0_h) (n := 0) hg0_h (by omega)
  have ll := sg_ln_le (k := k0_h) (w := sg_sy σ y / 4) (h := sg_sy σ y % 4) (y := y) (by omega) (by omega)
  rw [← es] at k1_h
  clear es
  refine w_al0 (n := 148) dX12_fits_147 rfl ?_
  refine g_R (n := 151) f_X12_9_12 pl_104 rf_104_0 dX12_fits_148 rfl ?_
  refine w_bipush (n := 153) (nI 7) dX12_fits_151 (by decide) rfl ?_
  refine w_il8 (n := 155) dX12_fits_153 rfl ?_
  refine w_iadd (n := 156) dX12_fits_155 rfl ?_
  refine i_iald (n := 157) pl_105 (j := 7 + y) (by rw [nI_add]) (by omega) (by decide) k1_h dX12_fits_156 rfl ?_
  refine w_iconst (n := 158) (nI 4) dX12_fits_157 (by decide) rfl ?_
  refine w_idiv (n := 159) (by decide) dX12_fits_158 rfl ?_
  rw [q_div4 _ (by omega)]
  refine w_is9 (n := 161) dX12_fits_159 rfl rfl (by decide) ?_
  refine w_il6 (n := 163) dX12_fits_161 rfl ?_
  refine w_il5 (n := 165) dX12_fits_163 rfl ?_
  refine w_bipush (n := 167) (nI 6) dX12_fits_165 (by decide) rfl ?_
  refine w_il9 (n := 169) dX12_fits_167 rfl ?_
  refine w_imul (n := 170) dX12_fits_169 rfl ?_
  refine w_iadd (n := 171) dX12_fits_170 rfl ?_
  rw [pk_mul, nI_add]
  refine w_il3 (n := 172) dX12_fits_171 rfl ?_
  refine w_il4 (n := 174) dX12_fits_172 rfl ?_
  refine w_iconst (n := 175) (nI 0) dX12_fits_174 (by decide) rfl ?_
  refine w_cS3 (n := 178) s0_X12_bearsBy k_X12_84 (Nat.le_of_ble_eq_true rfl) dX12_fits_175 rfl (r_bearsBy hk0_h hg0_h (by omega) ?_)
  refine w_ic_lt (n := 181) 185 dX12_fits_178 (by decide) rfl (fun z178_h => ?_) (fun z178_h => ?_)
  · skip
    refine w_iconst (n := 186) (nI 0) dX12_fits_185 (by decide) rfl ?_
    refine w_iadd (n := 187) dX12_fits_186 rfl ?_
    refine w_is6 (n := 189) dX12_fits_187 rfl rfl (by decide) ?_
    rw [nI_add]
    refine w_il5 (n := 191) dX12_fits_189 rfl ?_
    refine w_il3 (n := 192) dX12_fits_191 rfl ?_
    refine w_il9 (n := 194) dX12_fits_192 rfl ?_
    refine w_al0 (n := 195) dX12_fits_194 rfl ?_
    refine g_R (n := 198) f_X12_9_12 pl_104 rf_104_0 dX12_fits_195 rfl ?_
    refine w_bipush (n := 200) (nI 7) dX12_fits_198 (by decide) rfl ?_
    refine w_il8 (n := 202) dX12_fits_200 rfl ?_
    refine w_iadd (n := 203) dX12_fits_202 rfl ?_
    refine i_iald (n := 204) pl_105 (j := 7 + y) (by rw [nI_add]) (by omega) (by decide) k1_h dX12_fits_203 rfl ?_
    refine w_iconst (n := 205) (nI 4) dX12_fits_204 (by decide) rfl ?_
    refine w_irem (n := 206) (by decide) dX12_fits_205 rfl ?_
    rw [q_rem4 _ (by omega)]
    refine w_il8 (n := 208) dX12_fits_206 rfl ?_
    refine w_cS4 (n := 211) s0_X12_leansBy k_X12_80 (Nat.le_of_ble_eq_true rfl) dX12_fits_208 rfl (r_leansBy hk0_h (by omega) (by omega) (by omega) ?_)
    refine w_iadd (n := 212) dX12_fits_211 rfl ?_
    rw [nI_add]
    refine w_is5 (n := 214) dX12_fits_212 rfl rfl (by decide) ?_
    refine w_il5 (n := 216) dX12_fits_214 rfl ?_
    refine w_bipush (n := 218) (nI 99) dX12_fits_216 (by decide) rfl ?_
    refine w_ic_le (n := 221) 226 dX12_fits_218 (by decide) rfl (fun z218_h => ?_) (fun z218_h => ?_)
    · skip
      refine w_il5 (n := 228) dX12_fits_226 rfl ?_
      refine w_is5 (n := 230) dX12_fits_228 rfl rfl (by decide) ?_
      refine w_inc8 (n := 233) (nI 1) dX12_fits_230 (by decide) rfl rfl (by decide) ?_
      refine w_goto 34 dX12_fits_233 (by decide) ?_
      rw [nI_add]
      have zl := z218_h
      rw [q_le (by omega) (by omega)] at zl
      have zp := z178_h
      rw [nI_ltI (by omega) (by omega)] at zp
      have e1_h : (ln_t σ k0_h g0_h l0_h (y + 1)).1 = min 99 ((ln_t σ k0_h g0_h l0_h y).1 + sg_ln k0_h (sg_sy σ y / 4) (sg_sy σ y % 4) y) := rfl
      have e2_h : (ln_t σ k0_h g0_h l0_h (y + 1)).2 = (ln_t σ k0_h g0_h l0_h y).2 + if sg_br k0_h g0_h 0 ≤ (ln_t σ k0_h g0_h l0_h y).1 + 6 * (sg_sy σ y / 4) then 1 else 0 := rfl
      rw [e1_h, e2_h] at hx
      first | rw [Nat.min_eq_right (by omega)] at hx | rw [Nat.min_eq_left (by omega)] at hx
      first | rw [if_pos (by omega)] at hx | rw [if_neg (by omega)] at hx
      exact hx _
    · skip
      refine w_bipush (n := 223) (nI 99) dX12_fits_221 (by decide) rfl ?_
      refine w_goto 228 dX12_fits_223 (by decide) ?_
      refine w_is5 (n := 230) dX12_fits_228 rfl rfl (by decide) ?_
      refine w_inc8 (n := 233) (nI 1) dX12_fits_230 (by decide) rfl rfl (by decide) ?_
      refine w_goto 34 dX12_fits_233 (by decide) ?_
      rw [nI_add]
      have zl := z218_h
      rw [q_le (by omega) (by omega)] at zl
      have zp := z178_h
      rw [nI_ltI (by omega) (by omega)] at zp
      have e1_h : (ln_t σ k0_h g0_h l0_h (y + 1)).1 = min 99 ((ln_t σ k0_h g0_h l0_h y).1 + sg_ln k0_h (sg_sy σ y / 4) (sg_sy σ y % 4) y) := rfl
      have e2_h : (ln_t σ k0_h g0_h l0_h (y + 1)).2 = (ln_t σ k0_h g0_h l0_h y).2 + if sg_br k0_h g0_h 0 ≤ (ln_t σ k0_h g0_h l0_h y).1 + 6 * (sg_sy σ y / 4) then 1 else 0 := rfl
      rw [e1_h, e2_h] at hx
      first | rw [Nat.min_eq_right (by omega)] at hx | rw [Nat.min_eq_left (by omega)] at hx
      first | rw [if_pos (by omega)] at hx | rw [if_neg (by omega)] at hx
      exact hx _
  · skip
    refine w_iconst (n := 182) (nI 1) dX12_fits_181 (by decide) rfl ?_
    refine w_goto 186 dX12_fits_182 (by decide) ?_
    refine w_iadd (n := 187) dX12_fits_186 rfl ?_
    refine w_is6 (n := 189) dX12_fits_187 rfl rfl (by decide) ?_
    rw [nI_add]
    refine w_il5 (n := 191) dX12_fits_189 rfl ?_
    refine w_il3 (n := 192) dX12_fits_191 rfl ?_
    refine w_il9 (n := 194) dX12_fits_192 rfl ?_
    refine w_al0 (n := 195) dX12_fits_194 rfl ?_
    refine g_R (n := 198) f_X12_9_12 pl_104 rf_104_0 dX12_fits_195 rfl ?_
    refine w_bipush (n := 200) (nI 7) dX12_fits_198 (by decide) rfl ?_
    refine w_il8 (n := 202) dX12_fits_200 rfl ?_
    refine w_iadd (n := 203) dX12_fits_202 rfl ?_
    refine i_iald (n := 204) pl_105 (j := 7 + y) (by rw [nI_add]) (by omega) (by decide) k1_h dX12_fits_203 rfl ?_
    refine w_iconst (n := 205) (nI 4) dX12_fits_204 (by decide) rfl ?_
    refine w_irem (n := 206) (by decide) dX12_fits_205 rfl ?_
    rw [q_rem4 _ (by omega)]
    refine w_il8 (n := 208) dX12_fits_206 rfl ?_
    refine w_cS4 (n := 211) s0_X12_leansBy k_X12_80 (Nat.le_of_ble_eq_true rfl) dX12_fits_208 rfl (r_leansBy hk0_h (by omega) (by omega) (by omega) ?_)
    refine w_iadd (n := 212) dX12_fits_211 rfl ?_
    rw [nI_add]
    refine w_is5 (n := 214) dX12_fits_212 rfl rfl (by decide) ?_
    refine w_il5 (n := 216) dX12_fits_214 rfl ?_
    refine w_bipush (n := 218) (nI 99) dX12_fits_216 (by decide) rfl ?_
    refine w_ic_le (n := 221) 226 dX12_fits_218 (by decide) rfl (fun z218_h => ?_) (fun z218_h => ?_)
    · skip
      refine w_il5 (n := 228) dX12_fits_226 rfl ?_
      refine w_is5 (n := 230) dX12_fits_228 rfl rfl (by decide) ?_
      refine w_inc8 (n := 233) (nI 1) dX12_fits_230 (by decide) rfl rfl (by decide) ?_
      refine w_goto 34 dX12_fits_233 (by decide) ?_
      rw [nI_add]
      have zl := z218_h
      rw [q_le (by omega) (by omega)] at zl
      have zp := z178_h
      rw [nI_ltI (by omega) (by omega)] at zp
      have e1_h : (ln_t σ k0_h g0_h l0_h (y + 1)).1 = min 99 ((ln_t σ k0_h g0_h l0_h y).1 + sg_ln k0_h (sg_sy σ y / 4) (sg_sy σ y % 4) y) := rfl
      have e2_h : (ln_t σ k0_h g0_h l0_h (y + 1)).2 = (ln_t σ k0_h g0_h l0_h y).2 + if sg_br k0_h g0_h 0 ≤ (ln_t σ k0_h g0_h l0_h y).1 + 6 * (sg_sy σ y / 4) then 1 else 0 := rfl
      rw [e1_h, e2_h] at hx
      first | rw [Nat.min_eq_right (by omega)] at hx | rw [Nat.min_eq_left (by omega)] at hx
      first | rw [if_pos (by omega)] at hx | rw [if_neg (by omega)] at hx
      exact hx _
    · skip
      refine w_bipush (n := 223) (nI 99) dX12_fits_221 (by decide) rfl ?_
      refine w_goto 228 dX12_fits_223 (by decide) ?_
      refine w_is5 (n := 230) dX12_fits_228 rfl rfl (by decide) ?_
      refine w_inc8 (n := 233) (nI 1) dX12_fits_230 (by decide) rfl rfl (by decide) ?_
      refine w_goto 34 dX12_fits_233 (by decide) ?_
      rw [nI_add]
      have zl := z218_h
      rw [q_le (by omega) (by omega)] at zl
      have zp := z178_h
      rw [nI_ltI (by omega) (by omega)] at zp
      have e1_h : (ln_t σ k0_h g0_h l0_h (y + 1)).1 = min 99 ((ln_t σ k0_h g0_h l0_h y).1 + sg_ln k0_h (sg_sy σ y / 4) (sg_sy σ y % 4) y) := rfl
      have e2_h : (ln_t σ k0_h g0_h l0_h (y + 1)).2 = (ln_t σ k0_h g0_h l0_h y).2 + if sg_br k0_h g0_h 0 ≤ (ln_t σ k0_h g0_h l0_h y).1 + 6 * (sg_sy σ y / 4) then 1 else 0 := rfl
      rw [e1_h, e2_h] at hx
      first | rw [Nat.min_eq_right (by omega)] at hx | rw [Nat.min_eq_left (by omega)] at hx
      first | rw [if_pos (by omega)] at hx | rw [if_neg (by omega)] at hx
      exact hx _

set_option maxRecDepth 20000 in
theorem r_fyL {d : Nat} {M : dk_Mem} {Q : Option Value → dk_Mem → Prop} {σ : Nat → Nat} (hr : rr σ M) (o : sg_in σ) {v k0_h g0_h l0_h : Nat} (hk0_h : k0_h ≤ 5) (hg0_h : g0_h ≤ 9) (hl0_h : l0_h ≤ 99) {bt : Int32} {B : Nat → Bool} (hB : ∀ r, r < 6 → (nI r = bt ↔ B r = true)) (hq : ∀ b, (b = true ↔ ∀ z, z < 16 → ∀ i, i < σ 5 → ln_G σ B z (ln_t σ k0_h g0_h l0_h z) i) → Q (some (.int (gbI b))) M) : ∀ (n y : Nat) (b : Bool) (x9_h x10_h x11_h : Option Value), y ≤ 16 → 16 - y < n → (b = true ↔ ∀ z, z < y → ∀ i, i < σ 5 → ln_G σ B z (ln_t σ k0_h g0_h l0_h z) i) → dk_W (d + 1) mX12_fits 34 [some (.ref 104), some (.int (nI v)), some (.int bt), some (.int (nI k0_h)), some (.int (nI g0_h)), some (.int (nI (ln_t σ k0_h g0_h l0_h y).1)), some (.int (nI (ln_t σ k0_h g0_h l0_h y).2)), some (.int (gbI b)), some (.int (nI y)), x9_h, x10_h, x11_h] [] M Q := by
  intro n
  induction n with
  | zero => intro y b x9_h x10_h x11_h _ h; omega
  | succ n ih =>
    intro y b x9_h x10_h x11_h hy hn hb
    have tl := ln_t_le (σ := σ) (k := k0_h) (g := g0_h) hl0_h y
    refine w_il8 (n := 36) dX12_fits_34 rfl ?_
    refine w_bipush (n := 38) (nI 16) dX12_fits_36 (by decide) rfl ?_
    refine w_ic_ge (n := 41) 236 dX12_fits_38 (by decide) rfl (fun z38_h => ?_) (fun z38_h => ?_)
    · skip
      refine w_il7 (n := 238) dX12_fits_236 rfl ?_
      refine w_retZ (gbI_01 b) dX12_fits_238 rfl ?_
      rw [q_le (by decide) (by omega)] at z38_h
      have e : y = 16 := by omega
      subst e
      exact hq b hb
    · skip
      refine w_iconst (n := 42) (nI 0) dX12_fits_41 (by decide) rfl ?_
      refine w_is9 (n := 44) dX12_fits_42 rfl rfl (by decide) ?_
      have hy6_h : y ≤ 15 := by rw [q_le (by decide) (by omega)] at z38_h; omega
      refine r_fiL hr o hB (t := ln_t σ k0_h g0_h l0_h y) hy6_h tl.1 (by omega) (P0 := ∀ z, z < y → ∀ i, i < σ 5 → ln_G σ B z (ln_t σ k0_h g0_h l0_h z) i) (fun b2_h y10_h y11_h h2_h => ?_) 7 0 b x10_h x11_h (by omega) (by have := o.1.2.2.2.2.1; omega) ⟨fun e => ⟨hb.mp e, fun i hi => by omega⟩, fun e => hb.mpr e.1⟩
      refine r_fyS hr o hk0_h hg0_h hl0_h hy6_h (fun y9_h => ih (y + 1) b2_h y9_h _ _ (by omega) (by omega) ?_)
      rw [h2_h]
      constructor
      · rintro ⟨a, c⟩ z hz; rcases (show z < y ∨ z = y by omega) with e | e; exact a z e; (rw [e]; exact c)
      · intro a; exact ⟨fun z hz => a z (by omega), a y (by omega)⟩

set_option maxRecDepth 20000 in
theorem r_fits {d : Nat} {M : dk_Mem} {Q : Option Value → dk_Mem → Prop} {σ : Nat → Nat} (hr : rr σ M) (o : sg_in σ) {v : Nat} (hv : v < 500) {bt : Int32} {B : Nat → Bool} (hB : ∀ r, r < 6 → (nI r = bt ↔ B r = true)) (h1_h : (∀ r, (ln_v σ v).testBit r = true → B r = true) → Q (some (.int 1)) M) (h0_h : ¬ (∀ r, (ln_v σ v).testBit r = true → B r = true) → Q (some (.int 0)) M) : dk_Call (d + 1) mX12_fits [.ref 104, .int (nI v), .int bt] M Q := by
  have o5_h := o.1.2.2.2.2.1
  have hyr : ∀ r, r < σ 5 → σ (65 + 4 * r) < 16 := fun r h => by have := (o.2.2.2 r (by omega)).1; omega
  refine dk_enter [some (.ref 104), some (.int (nI v)), some (.int bt), none, none, none, none, none, none, none, none, none] (by decide) (fun _ => rfl) (fun _ => Nat.le_of_ble_eq_true rfl) ?_
  refine w_iconst (n := 1) (nI 1) dX12_fits_0 (by decide) rfl ?_
  refine w_il1 (n := 2) dX12_fits_1 rfl ?_
  refine w_bipush (n := 4) (nI 100) dX12_fits_2 (by decide) rfl ?_
  refine w_idiv (n := 5) (by decide) dX12_fits_4 rfl ?_
  rw [pk_div (by omega) (by omega) (by omega)]
  refine w_iadd (n := 6) dX12_fits_5 rfl ?_
  rw [nI_add]
  refine w_is3 (n := 7) dX12_fits_6 rfl rfl (by decide) ?_
  refine w_il1 (n := 8) dX12_fits_7 rfl ?_
  refine w_bipush (n := 10) (nI 10) dX12_fits_8 (by decide) rfl ?_
  refine w_idiv (n := 11) (by decide) dX12_fits_10 rfl ?_
  rw [pk_div (by omega) (by omega) (by omega)]
  refine w_bipush (n := 13) (nI 10) dX12_fits_11 (by decide) rfl ?_
  refine w_irem (n := 14) (by decide) dX12_fits_13 rfl ?_
  rw [pk_rem (by omega) (by omega) (by omega)]
  refine w_is4 (n := 16) dX12_fits_14 rfl rfl (by decide) ?_
  refine w_bipush (n := 18) (nI 9) dX12_fits_16 (by decide) rfl ?_
  refine w_il1 (n := 19) dX12_fits_18 rfl ?_
  refine w_bipush (n := 21) (nI 10) dX12_fits_19 (by decide) rfl ?_
  refine w_irem (n := 22) (by decide) dX12_fits_21 rfl ?_
  rw [pk_rem (by omega) (by omega) (by omega)]
  refine w_imul (n := 23) dX12_fits_22 rfl ?_
  rw [pk_mul]
  refine w_is5 (n := 25) dX12_fits_23 rfl rfl (by decide) ?_
  refine w_iconst (n := 26) (nI 0) dX12_fits_25 (by decide) rfl ?_
  refine w_is6 (n := 28) dX12_fits_26 rfl rfl (by decide) ?_
  refine w_iconst (n := 29) (nI 1) dX12_fits_28 (by decide) rfl ?_
  refine w_is7 (n := 31) dX12_fits_29 rfl rfl (by decide) ?_
  refine w_iconst (n := 32) (nI 0) dX12_fits_31 (by decide) rfl ?_
  refine w_is8 (n := 34) dX12_fits_32 rfl rfl (by decide) ?_
  refine r_fyL hr o (k0_h := 1 + v / 100) (g0_h := v / 10 % 10) (l0_h := 9 * (v % 10)) (by omega) (by omega) (by omega) hB (fun b hb => ?_) 17 0 true _ _ _ (by omega) (by omega) ⟨fun _ z hz => by omega, fun _ => rfl⟩
  have key : b = true ↔ (∀ r, (ln_v σ v).testBit r = true → B r = true) := by
    rw [hb]
    constructor
    · intro h r hr9_h
      have g9_h := (ln_v_t hyr).mp hr9_h
      rcases h (σ (65 + 4 * r)) (hyr r g9_h.1) r g9_h.1 with e | e | e
      · exact e
      · exact absurd rfl e
      · exact absurd g9_h.2 e
    · intro h z hz i hi
      by_cases e1_h : B i = true
      · exact Or.inl e1_h
      · by_cases e2_h : σ (65 + 4 * i) = z
        · refine Or.inr (Or.inr (fun e3_h => e1_h (h i ((ln_v_t hyr).mpr ⟨hi, ?_⟩))))
          rw [e2_h]
          exact e3_h
        · exact Or.inr (Or.inl e2_h)
  cases b with
  | true => exact h1_h (key.mp rfl)
  | false => exact h0_h (fun z => Bool.noConfusion (key.mpr z))

def ln_F (σ : Nat → Nat) (B : Nat → Bool) (v : Nat) : Prop := ∀ r, (ln_v σ v).testBit r = true → B r = true

set_option maxRecDepth 20000 in
theorem r_stL {d : Nat} {M : dk_Mem} {Q : Option Value → dk_Mem → Prop} {σ : Nat → Nat} (hr : rr σ M) (o : sg_in σ) {bt : Int32} {B : Nat → Bool} (hB : ∀ r, r < 6 → (nI r = bt ↔ B r = true)) (h1_h : ∀ v, v < 500 → ln_F σ B v → (∀ u, u < v → ¬ ln_F σ B u) → Q (some (.int (nI v))) M) (h0_h : (∀ u, u < 500 → ¬ ln_F σ B u) → Q (some (.int (-1))) M) : ∀ (n v : Nat), v ≤ 500 → 500 - v < n → (∀ u, u < v → ¬ ln_F σ B u) → dk_W (d + 2) mX12_stranger 2 [some (.ref 104), some (.int bt), some (.int (nI v))] [] M Q := by
  intro n
  induction n with
  | zero => intro v _ h; omega
  | succ n ih =>
    intro v hv hn hu
    refine w_il2 (n := 3) dX12_stranger_2 rfl ?_
    refine w_sipush (n := 6) (nI 500) dX12_stranger_3 (by decide) rfl ?_
    refine w_ic_ge (n := 9) 26 dX12_stranger_6 (by decide) rfl (fun z6_h => ?_) (fun z6_h => ?_)
    · skip
      refine w_iconst (n := 27) (-1) dX12_stranger_26 (by decide) rfl ?_
      refine w_retI dX12_stranger_27 rfl ?_
      rw [q_le (by decide) (by omega)] at z6_h
      exact h0_h (fun u h => hu u (by omega))
    · skip
      have hv5_h : v < 500 := by rw [q_le (by decide) (by omega)] at z6_h; omega
      refine w_al0 (n := 10) dX12_stranger_9 rfl ?_
      refine w_il2 (n := 11) dX12_stranger_10 rfl ?_
      refine w_il1 (n := 12) dX12_stranger_11 rfl ?_
      refine w_cV2 (n := 15) pl_104 cl_12 s0_X12_fits k_X12_278 (Nat.le_of_ble_eq_true rfl) dX12_stranger_12 rfl (r_fits hr o hv5_h hB (fun t12_h => ?_) (fun t12_h => ?_))
      · skip
        refine w_if_eq (n := 18) 20 dX12_stranger_15 (by decide) rfl (fun h => absurd h (by decide)) (fun _ => ?_)
        refine w_il2 (n := 19) dX12_stranger_18 rfl ?_
        refine w_retI dX12_stranger_19 rfl ?_
        exact h1_h v hv5_h t12_h hu
      · skip
        refine w_if_eq (n := 18) 20 dX12_stranger_15 (by decide) rfl (fun _ => ?_) (fun h => absurd (by decide) h)
        refine w_inc2 (n := 23) (nI 1) dX12_stranger_20 (by decide) rfl rfl (by decide) ?_
        refine w_goto 2 dX12_stranger_23 (by decide) ?_
        rw [nI_add]
        exact ih (v + 1) (by omega) (by omega) (fun u h => by rcases (show u < v ∨ u = v by omega) with e | e; exact hu u e; (rw [e]; exact t12_h))

set_option maxRecDepth 20000 in
theorem r_stranger {d : Nat} {M : dk_Mem} {Q : Option Value → dk_Mem → Prop} {σ : Nat → Nat} (hr : rr σ M) (o : sg_in σ) {bt : Int32} {B : Nat → Bool} (hB : ∀ r, r < 6 → (nI r = bt ↔ B r = true)) (h1_h : ∀ v, v < 500 → ln_F σ B v → (∀ u, u < v → ¬ ln_F σ B u) → Q (some (.int (nI v))) M) (h0_h : (∀ u, u < 500 → ¬ ln_F σ B u) → Q (some (.int (-1))) M) : dk_Call (d + 2) mX12_stranger [.ref 104, .int bt] M Q := by
  refine dk_enter [some (.ref 104), some (.int bt), none] (by decide) (fun _ => rfl) (fun _ => Nat.le_of_ble_eq_true rfl) ?_
  refine w_iconst (n := 1) (nI 0) dX12_stranger_0 (by decide) rfl ?_
  refine w_is2 (n := 2) dX12_stranger_1 rfl rfl (by decide) ?_
  exact r_stL hr o hB h1_h h0_h 501 0 (by omega) (by omega) (fun u h => by omega)

theorem ln_F0 {σ : Nat → Nat} {v : Nat} : ln_F σ (fun _ => false) v ↔ ln_z σ v = true := by
  unfold ln_F ln_z
  rw [decide_eq_true_iff]
  constructor
  · intro h
    refine tb_ext (fun i => ?_)
    rw [Nat.zero_testBit]
    exact ⟨fun z => h i z, fun z => by cases z⟩
  · intro h r hr
    rw [h, Nat.zero_testBit] at hr
    cases hr
theorem ln_B0 : ∀ r, r < 6 → (nI r = (-1 : Int32) ↔ (fun _ : Nat => false) r = true) := by decide +kernel
theorem ln_f0 {b : Bool} (h : ¬ b = true) : b = false := by cases b; rfl; exact absurd rfl h
theorem nI_lt0 {v : Nat} (h : v < 2 ^ 31) : ¬ nI v < 0 := Int32.not_lt.mpr (nI_pos' h)
theorem q_x3 {x : Int32} (h : nI 0 ≤ x ∧ x ≤ nI 3) : x = nI 0 ∨ x = nI 1 ∨ x = nI 2 ∨ x = nI 3 := by
  have h2_h := tN_of (n := 3) (by decide) h.1 h.2
  rw [h2_h.1]
  rcases (show tN x = 0 ∨ tN x = 1 ∨ tN x = 2 ∨ tN x = 3 by omega) with e | e | e | e <;> rw [e] <;> simp

set_option maxRecDepth 20000 in
theorem r_lnL {d : Nat} {M : dk_Mem} {Q : Option Value → dk_Mem → Prop} {σ : Nat → Nat} (hr : rr σ M) (o : sg_in σ) {x : Int32} (hq : Q (some (.int (nI (ln_c (ln_z σ) 500)))) M) : ∀ (n v : Nat), v ≤ 500 → 500 - v < n → dk_W (d + 2) mX12_lone 69 [some (.ref 104), some (.int x), some (.int (nI (ln_c (ln_z σ) v))), some (.int (nI v))] [] M Q := by
  intro n
  induction n with
  | zero => intro v _ h; omega
  | succ n ih =>
    intro v hv hn
    refine w_il3 (n := 70) dX12_lone_69 rfl ?_
    refine w_sipush (n := 73) (nI 500) dX12_lone_70 (by decide) rfl ?_
    refine w_ic_ge (n := 76) 99 dX12_lone_73 (by decide) rfl (fun z73_h => ?_) (fun z73_h => ?_)
    · skip
      refine w_il2 (n := 100) dX12_lone_99 rfl ?_
      refine w_retI dX12_lone_100 rfl ?_
      rw [q_le (by decide) (by omega)] at z73_h
      have e : v = 500 := by omega
      subst e
      exact hq
    · skip
      have hv5_h : v < 500 := by rw [q_le (by decide) (by omega)] at z73_h; omega
      refine w_il2 (n := 77) dX12_lone_76 rfl ?_
      refine w_al0 (n := 78) dX12_lone_77 rfl ?_
      refine w_il3 (n := 79) dX12_lone_78 rfl ?_
      refine w_iconst (n := 80) (-1) dX12_lone_79 (by decide) rfl ?_
      refine w_cV2 (n := 83) pl_104 cl_12 s0_X12_fits k_X12_278 (Nat.le_of_ble_eq_true rfl) dX12_lone_80 rfl (r_fits hr o hv5_h ln_B0 (fun t80_h => ?_) (fun t80_h => ?_))
      · skip
        refine w_if_eq (n := 86) 90 dX12_lone_83 (by decide) rfl (fun h => absurd h (by decide)) (fun _ => ?_)
        refine w_iconst (n := 87) (nI 1) dX12_lone_86 (by decide) rfl ?_
        refine w_goto 91 dX12_lone_87 (by decide) ?_
        refine w_iadd (n := 92) dX12_lone_91 rfl ?_
        refine w_is2 (n := 93) dX12_lone_92 rfl rfl (by decide) ?_
        refine w_inc3 (n := 96) (nI 1) dX12_lone_93 (by decide) rfl rfl (by decide) ?_
        refine w_goto 69 dX12_lone_96 (by decide) ?_
        rw [nI_add, nI_add]
        have g := ih (v + 1) (by omega) (by omega)
        rw [ln_c] at g
        first | (rw [if_pos (ln_F0.mp t80_h)] at g; exact g) | (rw [if_neg (fun z => t80_h (ln_F0.mpr z))] at g; exact g)
      · skip
        refine w_if_eq (n := 86) 90 dX12_lone_83 (by decide) rfl (fun _ => ?_) (fun h => absurd (by decide) h)
        refine w_iconst (n := 91) (nI 0) dX12_lone_90 (by decide) rfl ?_
        refine w_iadd (n := 92) dX12_lone_91 rfl ?_
        refine w_is2 (n := 93) dX12_lone_92 rfl rfl (by decide) ?_
        refine w_inc3 (n := 96) (nI 1) dX12_lone_93 (by decide) rfl rfl (by decide) ?_
        refine w_goto 69 dX12_lone_96 (by decide) ?_
        rw [nI_add, nI_add]
        have g := ih (v + 1) (by omega) (by omega)
        rw [ln_c] at g
        first | (rw [if_pos (ln_F0.mp t80_h)] at g; exact g) | (rw [if_neg (fun z => t80_h (ln_F0.mpr z))] at g; exact g)

set_option maxRecDepth 20000 in
theorem R_lone {d : Nat} {M : dk_Mem} {Q : Option Value → dk_Mem → Prop} {K : sg_K} (hK : rK K M) {x : Int32} (hq : Q (some (.int (kf_lone K x))) M) : dk_Call (d + 3) mX12_lone [.ref 104, .int x] M Q := by
  have hK0 := hK
  obtain ⟨⟨o, p1_h, p2_h, p3_h⟩, hr, ⟨f, hb, hT⟩, hsc, hz⟩ := hK0
  have o4_h := o.2.2.2.1
  have o16_h := o.2.1
  have hin := hK.1
  refine dk_enter [some (.ref 104), some (.int x), none, none] (by decide) (fun _ => rfl) (fun _ => Nat.le_of_ble_eq_true rfl) ?_
  refine w_il1 (n := 1) dX12_lone_0 rfl ?_
  refine w_cS1 (n := 4) s0_X12_isFour k_X12_281 (Nat.le_of_ble_eq_true rfl) dX12_lone_1 rfl (r_isFour (fun t1_h => ?_) (fun t1_h => ?_))
  · skip
    refine w_if_ne (n := 7) 9 dX12_lone_4 (by decide) rfl (fun _ => ?_) (fun h => absurd h (by decide))
    unfold kf_lone at hq
    rw [if_pos t1_h] at hq
    have x3_h := q_x3 t1_h
    refine w_il1 (n := 10) dX12_lone_9 rfl ?_
    refine w_if_le (n := 13) 65 dX12_lone_10 (by decide) rfl (fun z10_h => ?_) (fun z10_h => ?_)
    · skip
      refine w_iconst (n := 66) (nI 0) dX12_lone_65 (by decide) rfl ?_
      refine w_is2 (n := 67) dX12_lone_66 rfl rfl (by decide) ?_
      refine w_iconst (n := 68) (nI 0) dX12_lone_67 (by decide) rfl ?_
      refine w_is3 (n := 69) dX12_lone_68 rfl rfl (by decide) ?_
      have e0_h : x = nI 0 := by rcases x3_h with e | e | e | e; exact e; all_goals (rw [e] at z10_h; exact absurd z10_h (by decide))
      rw [if_pos e0_h] at hq
      exact r_lnL hr hin hq 501 0 (by omega) (by omega)
    · skip
      refine w_al0 (n := 14) dX12_lone_13 rfl ?_
      refine w_iconst (n := 15) (-1) dX12_lone_14 (by decide) rfl ?_
      refine w_cV1 (n := 18) pl_104 cl_12 s0_X12_stranger k_X12_284 (Nat.le_of_ble_eq_true rfl) dX12_lone_15 rfl (r_stranger hr hin ln_B0 (fun v hv f9_h n9_h => ?_) (fun n9_h => ?_))
      · skip
        have sv := ln_f_s (ln_F0.mp f9_h) (fun u hu => ln_f0 (fun z => n9_h u hu (ln_F0.mpr z))) 500 hv
        rw [sv] at hq
        dsimp only at hq
        rw [if_neg (fun z => by rw [z] at z10_h; exact z10_h (by decide))] at hq
        refine w_is2 (n := 19) dX12_lone_18 rfl rfl (by decide) ?_
        refine w_il2 (n := 20) dX12_lone_19 rfl ?_
        refine w_if_ge (n := 23) 28 dX12_lone_20 (by decide) rfl (fun z20_h => ?_) (fun z20_h => ?_)
        · skip
          refine w_il1 (n := 29) dX12_lone_28 rfl ?_
          refine w_iconst (n := 30) (nI 1) dX12_lone_29 (by decide) rfl ?_
          refine w_ic_ne (n := 33) 42 dX12_lone_30 (by decide) rfl (fun z30_h => ?_) (fun z30_h => ?_)
          · skip
            refine w_il1 (n := 43) dX12_lone_42 rfl ?_
            refine w_iconst (n := 44) (nI 2) dX12_lone_43 (by decide) rfl ?_
            refine w_ic_ne (n := 47) 57 dX12_lone_44 (by decide) rfl (fun z44_h => ?_) (fun z44_h => ?_)
            · skip
              refine w_bipush (n := 59) (nI 9) dX12_lone_57 (by decide) rfl ?_
              refine w_il2 (n := 60) dX12_lone_59 rfl ?_
              refine w_bipush (n := 62) (nI 10) dX12_lone_60 (by decide) rfl ?_
              refine w_irem (n := 63) (by decide) dX12_lone_62 rfl ?_
              refine w_imul (n := 64) dX12_lone_63 rfl ?_
              refine w_retI dX12_lone_64 rfl ?_
              first | exact hq | exact absurd (nI_pos' (by omega)) z20_h | (rw [if_pos z30_h] at hq; rw [pk_div (by omega) (by omega) (by omega), nI_add]; exact hq) | (rw [if_neg z30_h, if_pos z44_h] at hq; rw [pk_div (by omega) (by omega) (by omega), pk_rem (by omega) (by omega) (by omega)]; exact hq) | (rw [if_neg z30_h, if_neg z44_h] at hq; rw [pk_rem (by omega) (by omega) (by omega), pk_mul]; exact hq)
            · skip
              refine w_il2 (n := 48) dX12_lone_47 rfl ?_
              refine w_bipush (n := 50) (nI 10) dX12_lone_48 (by decide) rfl ?_
              refine w_idiv (n := 51) (by decide) dX12_lone_50 rfl ?_
              refine w_bipush (n := 53) (nI 10) dX12_lone_51 (by decide) rfl ?_
              refine w_irem (n := 54) (by decide) dX12_lone_53 rfl ?_
              refine w_goto 64 dX12_lone_54 (by decide) ?_
              refine w_retI dX12_lone_64 rfl ?_
              first | exact hq | exact absurd (nI_pos' (by omega)) z20_h | (rw [if_pos z30_h] at hq; rw [pk_div (by omega) (by omega) (by omega), nI_add]; exact hq) | (rw [if_neg z30_h, if_pos z44_h] at hq; rw [pk_div (by omega) (by omega) (by omega), pk_rem (by omega) (by omega) (by omega)]; exact hq) | (rw [if_neg z30_h, if_neg z44_h] at hq; rw [pk_rem (by omega) (by omega) (by omega), pk_mul]; exact hq)
          · skip
            refine w_iconst (n := 34) (nI 1) dX12_lone_33 (by decide) rfl ?_
            refine w_il2 (n := 35) dX12_lone_34 rfl ?_
            refine w_bipush (n := 37) (nI 100) dX12_lone_35 (by decide) rfl ?_
            refine w_idiv (n := 38) (by decide) dX12_lone_37 rfl ?_
            refine w_iadd (n := 39) dX12_lone_38 rfl ?_
            refine w_goto 64 dX12_lone_39 (by decide) ?_
            refine w_retI dX12_lone_64 rfl ?_
            first | exact hq | exact absurd (nI_pos' (by omega)) z20_h | (rw [if_pos z30_h] at hq; rw [pk_div (by omega) (by omega) (by omega), nI_add]; exact hq) | (rw [if_neg z30_h, if_pos z44_h] at hq; rw [pk_div (by omega) (by omega) (by omega), pk_rem (by omega) (by omega) (by omega)]; exact hq) | (rw [if_neg z30_h, if_neg z44_h] at hq; rw [pk_rem (by omega) (by omega) (by omega), pk_mul]; exact hq)
        · skip
          refine w_bipush (n := 25) (-3) dX12_lone_23 (by decide) rfl ?_
          refine w_goto 64 dX12_lone_25 (by decide) ?_
          refine w_retI dX12_lone_64 rfl ?_
          first | exact hq | exact absurd (nI_pos' (by omega)) z20_h | (rw [if_pos z30_h] at hq; rw [pk_div (by omega) (by omega) (by omega), nI_add]; exact hq) | (rw [if_neg z30_h, if_pos z44_h] at hq; rw [pk_div (by omega) (by omega) (by omega), pk_rem (by omega) (by omega) (by omega)]; exact hq) | (rw [if_neg z30_h, if_neg z44_h] at hq; rw [pk_rem (by omega) (by omega) (by omega), pk_mul]; exact hq)
      · skip
        have sv := ln_f_n (f := ln_z K.1) 500 (fun u hu => ln_f0 (fun z => n9_h u hu (ln_F0.mpr z)))
        rw [sv] at hq
        rw [if_neg (fun z => by rw [z] at z10_h; exact z10_h (by decide))] at hq
        refine w_is2 (n := 19) dX12_lone_18 rfl rfl (by decide) ?_
        refine w_il2 (n := 20) dX12_lone_19 rfl ?_
        refine w_if_ge (n := 23) 28 dX12_lone_20 (by decide) rfl (fun h => absurd h (by decide)) (fun _ => ?_)
        refine w_bipush (n := 25) (-3) dX12_lone_23 (by decide) rfl ?_
        refine w_goto 64 dX12_lone_25 (by decide) ?_
        refine w_retI dX12_lone_64 rfl ?_
        first | exact hq | exact absurd (nI_pos' (by omega)) z20_h | (rw [if_pos z30_h] at hq; rw [pk_div (by omega) (by omega) (by omega), nI_add]; exact hq) | (rw [if_neg z30_h, if_pos z44_h] at hq; rw [pk_div (by omega) (by omega) (by omega), pk_rem (by omega) (by omega) (by omega)]; exact hq) | (rw [if_neg z30_h, if_neg z44_h] at hq; rw [pk_rem (by omega) (by omega) (by omega), pk_mul]; exact hq)
  · skip
    refine w_if_ne (n := 7) 9 dX12_lone_4 (by decide) rfl (fun h => absurd h (by decide)) (fun _ => ?_)
    refine w_iconst (n := 8) (-1) dX12_lone_7 (by decide) rfl ?_
    refine w_retI dX12_lone_8 rfl ?_
    unfold kf_lone at hq
    rw [if_neg t1_h] at hq
    exact hq

theorem ln_Bi {r : Nat} (hr : r < 6) : ∀ i, i < 6 → (nI i = nI r ↔ (fun j : Nat => decide (j = r)) i = true) := fun i hi => by
  rw [nI_eq (by omega) (by omega)]
  exact decide_eq_true_iff.symm
theorem ln_Fi {σ : Nat → Nat} (h5_h : σ 5 ≤ 6) (hz : ∀ u, u < 500 → ln_z σ u = false) {r v : Nat} (hr : r < 6) (hv : v < 500) : ln_F σ (fun j : Nat => decide (j = r)) v ↔ ln_v σ v = 2 ^ r := by
  have l64_h : ln_v σ v < 64 := ln_o_64 h5_h 16
  constructor
  · intro h
    rcases q_one _ l64_h r hr (fun i _ hi => decide_eq_true_iff.mp (h i hi)) with e | e
    · have := hz v hv
      unfold ln_z at this
      rw [decide_eq_false_iff_not] at this
      exact absurd e this
    · exact e
  · intro h i hi
    rw [h, Nat.testBit_two_pow, decide_eq_true_iff] at hi
    exact decide_eq_true_iff.mpr hi.symm

set_option maxRecDepth 20000 in
theorem r_liarL {d : Nat} {M : dk_Mem} {Q : Option Value → dk_Mem → Prop} {σ : Nat → Nat} (hr : rr σ M) (o : sg_in σ) (hz : ∀ u, u < 500 → ln_z σ u = false) (hq : Q (some (.int (sg_lo (ln_su σ 500)))) M) : ∀ (n r : Nat), r ≤ σ 5 → σ 5 - r < n → (∀ i, i < r → (ln_su σ 500).testBit i = false) → dk_W (d + 3) mX12_liar 13 [some (.ref 104), some (.int (nI r))] [] M Q := by
  have o5_h := o.1.2.2.2.2.1
  have s64_h := ln_su_64 o5_h 500
  intro n
  induction n with
  | zero => intro r _ h; omega
  | succ n ih =>
    intro r hr5_h hn hi
    refine w_il1 (n := 14) dX12_liar_13 rfl ?_
    refine w_al0 (n := 15) dX12_liar_14 rfl ?_
    refine g_R (n := 18) f_X12_9_12 pl_104 rf_104_0 dX12_liar_15 rfl ?_
    refine w_iconst (n := 19) (nI 5) dX12_liar_18 (by decide) rfl ?_
    refine i_iald (n := 20) pl_105 (j := 5) rfl (by decide) (by decide) (hr 5 (by decide) (by decide) (by decide)) dX12_liar_19 rfl ?_
    refine w_ic_ge (n := 23) 39 dX12_liar_20 (by decide) rfl (fun z20_h => ?_) (fun z20_h => ?_)
    · skip
      refine w_bipush (n := 41) (-3) dX12_liar_39 (by decide) rfl ?_
      refine w_retI dX12_liar_41 rfl ?_
      rw [q_le (by omega) (by omega)] at z20_h
      rw [sg_lo_n _ s64_h (fun j hj => ?_)] at hq
      · exact hq
      · by_cases e : j < r
        · exact hi j e
        · refine ln_f0 (fun z => ?_)
          obtain ⟨v, a, b⟩ := (ln_su_t o5_h hj 500).mp z
          have g9_h := (ln_v_t (σ := σ) (v := v) (i := j) (fun r h => by have := (o.2.2.2 r (by omega)).1; omega)).mp (by rw [b]; exact Nat.testBit_two_pow_self)
          omega
    · skip
      have hr6_h : r < σ 5 := by rw [q_le (by omega) (by omega)] at z20_h; omega
      have st := ln_su_t o5_h (r := r) (by omega) 500
      refine w_al0 (n := 24) dX12_liar_23 rfl ?_
      refine w_il1 (n := 25) dX12_liar_24 rfl ?_
      refine w_cV1 (n := 28) pl_104 cl_12 s0_X12_stranger k_X12_284 (Nat.le_of_ble_eq_true rfl) dX12_liar_25 rfl (r_stranger hr o (ln_Bi (r := r) (by omega)) (fun v hv f9_h n9_h => ?_) (fun n9_h => ?_))
      · skip
        have sb := st.mpr ⟨v, hv, (ln_Fi o5_h hz (by omega) hv).mp f9_h⟩
        refine w_if_lt (n := 31) 33 dX12_liar_28 (by decide) rfl (fun z28_h => ?_) (fun z28_h => ?_)
        · skip
          refine w_inc1 (n := 36) (nI 1) dX12_liar_33 (by decide) rfl rfl (by decide) ?_
          refine w_goto 13 dX12_liar_36 (by decide) ?_
          first | (rw [nI_add]; exact ih (r + 1) (by omega) (by omega) (fun i h => by rcases (show i < r ∨ i = r by omega) with e | e; exact hi i e; (rw [e]; exact sb))) | exact absurd z28_h (nI_lt0 (by omega))
        · skip
          refine w_il1 (n := 32) dX12_liar_31 rfl ?_
          refine w_retI dX12_liar_32 rfl ?_
          rw [sg_lo_k _ s64_h r (by omega) sb hi] at hq
          exact hq
      · skip
        have sb : (ln_su σ 500).testBit r = false := ln_f0 (fun z => by obtain ⟨v, a, b⟩ := st.mp z; exact n9_h v a ((ln_Fi o5_h hz (by omega) a).mpr b))
        refine w_if_lt (n := 31) 33 dX12_liar_28 (by decide) rfl (fun _ => ?_) (fun h => absurd (by decide) h)
        refine w_inc1 (n := 36) (nI 1) dX12_liar_33 (by decide) rfl rfl (by decide) ?_
        refine w_goto 13 dX12_liar_36 (by decide) ?_
        first | (rw [nI_add]; exact ih (r + 1) (by omega) (by omega) (fun i h => by rcases (show i < r ∨ i = r by omega) with e | e; exact hi i e; (rw [e]; exact sb))) | exact absurd z28_h (nI_lt0 (by omega))

set_option maxRecDepth 20000 in
theorem R_liar {d : Nat} {M : dk_Mem} {Q : Option Value → dk_Mem → Prop} {K : sg_K} (hK : rK K M) (hq : Q (some (.int (kf_liar K))) M) : dk_Call (d + 3) mX12_liar [.ref 104] M Q := by
  have hK0 := hK
  obtain ⟨⟨o, p1_h, p2_h, p3_h⟩, hr, ⟨f, hb, hT⟩, hsc, hz⟩ := hK0
  have o4_h := o.2.2.2.1
  have o16_h := o.2.1
  have hin := hK.1
  unfold kf_liar at hq
  refine dk_enter [some (.ref 104), none] (by decide) (fun _ => rfl) (fun _ => Nat.le_of_ble_eq_true rfl) ?_
  refine w_al0 (n := 1) dX12_liar_0 rfl ?_
  refine w_iconst (n := 2) (-1) dX12_liar_1 (by decide) rfl ?_
  refine w_cV1 (n := 5) pl_104 cl_12 s0_X12_stranger k_X12_284 (Nat.le_of_ble_eq_true rfl) dX12_liar_2 rfl (r_stranger hr hin ln_B0 (fun v hv f9_h n9_h => ?_) (fun n9_h => ?_))
  · skip
    have sv := ln_f_s (ln_F0.mp f9_h) (fun u hu => ln_f0 (fun z => n9_h u hu (ln_F0.mpr z))) 500 hv
    rw [sv] at hq
    refine w_if_lt (n := 8) 11 dX12_liar_5 (by decide) rfl (fun z5_h => ?_) (fun z5_h => ?_)
    · skip
      refine w_iconst (n := 12) (nI 0) dX12_liar_11 (by decide) rfl ?_
      refine w_is1 (n := 13) dX12_liar_12 rfl rfl (by decide) ?_
      first | exact r_liarL hr hin hz hq 7 0 (by omega) (by have := o.2.2.2.2.1; omega) (fun i h => by omega) | exact absurd z5_h (nI_lt0 (by omega))
    · skip
      refine w_bipush (n := 10) (-3) dX12_liar_8 (by decide) rfl ?_
      refine w_retI dX12_liar_10 rfl ?_
      exact hq
  · skip
    have hz : ∀ u, u < 500 → ln_z K.1 u = false := fun u hu => ln_f0 (fun z => n9_h u hu (ln_F0.mpr z))
    have sv := ln_f_n (f := ln_z K.1) 500 hz
    rw [sv] at hq
    refine w_if_lt (n := 8) 11 dX12_liar_5 (by decide) rfl (fun _ => ?_) (fun h => absurd (by decide) h)
    refine w_iconst (n := 12) (nI 0) dX12_liar_11 (by decide) rfl ?_
    refine w_is1 (n := 13) dX12_liar_12 rfl rfl (by decide) ?_
    first | exact r_liarL hr hin hz hq 7 0 (by omega) (by have := o.2.2.2.2.1; omega) (fun i h => by omega) | exact absurd z5_h (nI_lt0 (by omega))
