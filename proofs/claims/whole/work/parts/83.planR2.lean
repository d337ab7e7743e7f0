/-! ===== best, ith, ways, line, bars in the reference ===== -/
def sg_np (σ : Nat → Nat) (n : Nat) : Nat := (σ 4 + 1) ^ sg_ys σ n
theorem sg_np_le {σ : Nat → Nat} (h4_h : σ 4 ≤ 6) {n : Nat} (hn : n ≤ 4) : 1 ≤ sg_np σ n ∧ sg_np σ n ≤ 2401 := by
  unfold sg_np
  have yl := (sg_ys_le (σ := σ) (n := n)).1
  refine ⟨Nat.pow_pos (by omega), ?_⟩
  exact Nat.le_trans (Nat.pow_le_pow_left (show σ 4 + 1 ≤ 7 by omega) _) (Nat.le_trans (Nat.pow_le_pow_right (by decide) (show sg_ys σ n ≤ 4 by omega)) (by decide))
def sg_fb (K : sg_K) (n : Nat) : Nat × Nat × Nat := fb (sg_f K (sg_ys K.1 n)) (sg_np K.1 n)
def kf_bst (K : sg_K) (n : Int32) : Int32 := if nI 0 ≤ n ∧ n ≤ nI 4 then nI (sg_fb K (tN n)).1 else -1
def kf_ways (K : sg_K) (n : Int32) : Int32 := if nI 0 ≤ n ∧ n ≤ nI 4 then nI (sg_fb K (tN n)).2.2 else -1
def kf_ith (K : sg_K) (n i : Int32) : Int32 := if (nI 0 ≤ n ∧ n ≤ nI 4) ∧ nI 0 ≤ i ∧ i ≤ nI 3 then (if tN i < sg_ys K.1 (tN n) then nI (pl_d (K.1 4 + 1) (sg_ys K.1 (tN n)) (sg_fb K (tN n)).2.1 (tN i)) else -3) else -1
def pl_a (b m P : Nat) : Nat → Nat
  | 0 => 0
  | k + 1 => pl_a b m P k + if 0 < pl_d b m P k then 1 else 0
theorem pl_a_le {b m P : Nat} : ∀ k, pl_a b m P k ≤ k
  | 0 => Nat.le_refl 0
  | k + 1 => by
    have := pl_a_le (b := b) (m := m) (P := P) k
    rw [pl_a]
    split <;> omega
def sg_e (K : sg_K) (m P : Nat) : Nat := sg_set (pl_w K.2.1 (K.1 4 + 1) m P m 0 K.1).1 (K.1 4)
/-- the fewest acts of n plans behind which all of s have fallen -/
def sg_ln2 (K : sg_K) (m s : Nat) : Nat → Option Nat
  | 0 => none
  | n + 1 => if s &&& sg_e K m n = s ∧ (sg_ln2 K m s n = none ∨ pl_a (K.1 4 + 1) m n m < (sg_ln2 K m s n).getD 0) then some (pl_a (K.1 4 + 1) m n m) else sg_ln2 K m s n
def on3_h (x : Option Nat) : Int32 := match x with
  | none => -3
  | some a => nI a
def sg_rc (K : sg_K) (m : Nat) : Nat → Nat
  | 0 => 0
  | n + 1 => sg_rc K m n ||| sg_e K m n
def kf_line (K : sg_K) (n s : Int32) : Int32 := if (nI 0 ≤ n ∧ n ≤ nI 4) ∧ nI 0 ≤ s ∧ s ≤ nI (2 ^ K.1 4 - 1) then on3_h (sg_ln2 K (sg_ys K.1 (tN n)) (tN s) (sg_np K.1 (tN n))) else -1
def kf_bars (K : sg_K) (n s : Int32) : Int32 := if (nI 0 ≤ n ∧ n ≤ nI 4) ∧ nI 0 ≤ s ∧ s ≤ nI (2 ^ K.1 4 - 1) then sg_lo (tN s &&& (63 ^^^ sg_rc K (sg_ys K.1 (tN n)) (sg_np K.1 (tN n)))) else -1
theorem q_pw1 : ∀ c, c < 7 → (nI 1 <<< (nI c &&& 31)) - nI 1 = nI (2 ^ c - 1) := by decide +kernel
theorem q_nand : ∀ p, p < 64 → ∀ s, s < 64 → (nI p &&& (nI s ^^^ -1) = nI (p &&& (63 ^^^ s))) ∧ (p &&& (63 ^^^ s)) < 64 ∧ (nI p &&& (nI s ^^^ -1) = 0 ↔ p &&& s = p) := by decide +kernel
theorem q_orr : ∀ p, p < 64 → ∀ s, s < 64 → nI p ||| nI s = nI (p ||| s) ∧ (p ||| s) < 64 := by decide +kernel
theorem pl_w_ok {w : sg_R} {c m P : Nat} (hc : c ≤ 6) : ∀ (n k : Nat) (σ : Nat → Nat), sg_ok σ → σ 4 = c → n ≤ σ 0 - σ 1 → sg_ok (pl_w w (c + 1) m P n k σ).1 ∧ (pl_w w (c + 1) m P n k σ).1 4 = c
  | 0, _, _, o, h4_h, _ => ⟨o, h4_h⟩
  | n + 1, k, σ, o, h4_h, h => by
    have hlt := sg_ot_lt (pl_d_le (m := m) (P := P) (i := k) (show 0 < c + 1 by omega))
    have t6_h : ∀ h, sg_ot (pl_d (c + 1) m P k) = some h → h < 6 := fun h e => by have := hlt h e; omega
    generalize hgt : sg_ot (pl_d (c + 1) m P k) = t at *
    rw [pl_w_1 hgt]
    have o16_h := o.2.1
    exact pl_w_ok (w := w) (m := m) (P := P) hc n (k + 1) (sg_goes w σ t).1 (o.goes t6_h (by omega)) ((sg_goes_o (by omega) (by omega)).trans h4_h) (by rw [sg_goes_1, sg_goes_o (by omega) (by omega)]; omega)
theorem sg_e_64 {K : sg_K} (o : sg_ok K.1) {m P : Nat} (hy : m ≤ K.1 0 - K.1 1) : sg_e K m P < 64 := by
  have g := pl_w_ok (w := K.2.1) (m := m) (P := P) o.2.2.2.1 m 0 K.1 o rfl hy
  unfold sg_e
  have h := sg_set_64 g.1
  rw [g.2] at h
  exact h
theorem sg_rc_64 {K : sg_K} (o : sg_ok K.1) {m : Nat} (hy : m ≤ K.1 0 - K.1 1) : ∀ n, sg_rc K m n < 64
  | 0 => by rw [sg_rc]; omega
  | n + 1 => (q_orr _ (sg_rc_64 o hy n) _ (sg_e_64 o hy)).2

set_option maxRecDepth 20000 in
theorem r_findBest {d : Nat} {M : dk_Mem} {Q : Option Value → dk_Mem → Prop} {K : sg_K} (hK : rK K M) {n : Nat} (hn : n ≤ 4) (hq : ∀ M2, dk_fr rN M M2 → M2.1 104 16 = nI (sg_fb K n).1 → M2.1 104 15 = nI (sg_fb K n).2.1 → M2.1 104 17 = nI (sg_fb K n).2.2 → Q none M2) : dk_Call (d + 10) mX12_findBest [.ref 104, .int (nI n)] M Q := by
  have hK0 := hK
  obtain ⟨⟨o, p1_h, p2_h, p3_h⟩, hr, ⟨f, hb, hT⟩, hsc, hz⟩ := hK0
  have o4_h := o.2.2.2.1
  have o16_h := o.2.1
  have hin := hK.1
  refine dk_enter [some (.ref 104), some (.int (nI n)), none, none, none, none] (by decide) (fun _ => rfl) (fun _ => Nat.le_of_ble_eq_true rfl) ?_
  refine w_al0 (n := 1) dX12_findBest_0 rfl ?_
  refine w_il1 (n := 2) dX12_findBest_1 rfl ?_
  refine w_cV1 (n := 5) pl_104 cl_12 s0_X12_yearsOf k_X12_244 (Nat.le_of_ble_eq_true rfl) dX12_findBest_2 rfl (r_yearsOf hr hin hn ?_)
  refine w_is2 (n := 6) dX12_findBest_5 rfl rfl (by decide) ?_
  refine w_al0 (n := 7) dX12_findBest_6 rfl ?_
  refine w_il1 (n := 8) dX12_findBest_7 rfl ?_
  refine w_cV1 (n := 11) pl_104 cl_12 s0_X12_plansOf k_X12_253 (Nat.le_of_ble_eq_true rfl) dX12_findBest_8 rfl (r_plansOf hr hin hn ?_)
  refine w_is3 (n := 12) dX12_findBest_11 rfl rfl (by decide) ?_
  refine w_al0 (n := 13) dX12_findBest_12 rfl ?_
  refine w_cV0 (n := 16) pl_104 cl_12 s0_X12_thinks k_X12_196 (Nat.le_of_ble_eq_true rfl) dX12_findBest_13 rfl (r_thinks ?_)
  refine w_al0 (n := 17) dX12_findBest_16 rfl ?_
  refine w_iconst (n := 18) (-1) dX12_findBest_17 (by decide) rfl ?_
  refine p_I (n := 21) f_X12_256_12 pl_104 dX12_findBest_18 rfl ?_
  refine w_iconst (n := 22) (nI 0) dX12_findBest_21 (by decide) rfl ?_
  refine w_is4 (n := 24) dX12_findBest_22 rfl rfl (by decide) ?_
  have hf1_h : dk_fr rN M (dk_put (dk_row M 107 (dk_cp (M.1 105) (M.1 107) 621)) 104 16 (-1)) := rN_thinks.put (by unfold rN; omega)
  have yl := sg_ys_le (σ := K.1) (n := n)
  have np := sg_np_le (σ := K.1) o4_h hn
  have hW : rW (M.1 105) (dk_put (dk_row M 107 (dk_cp (M.1 105) (M.1 107) 621)) 104 16 (-1)) := fun k hk => by rw [dk_put_k (by omega), dk_row_at]; exact if_pos hk
  rw [show (K.1 4 + 1) ^ sg_ys K.1 n = sg_np K.1 n from rfl]
  exact r_fb0 hK (by omega) np.2 np.1 yl.2 hf1_h hW dk_put_s (fun M2 a1_h a2_h a3_h a4_h a5_h => r_fbL hK (by omega) np.2 yl.2 hq (sg_np K.1 n + 1) 1 _ M2 (by omega) np.1 (by omega) a1_h a2_h a3_h a4_h a5_h)

set_option maxRecDepth 20000 in
theorem R_best {d : Nat} {M : dk_Mem} {Q : Option Value → dk_Mem → Prop} {K : sg_K} (hK : rK K M) {n : Int32} (hq : ∀ M2, dk_fr rN M M2 → Q (some (.int (kf_bst K n))) M2) : dk_Call (d + 11) mX12_best [.ref 104, .int n] M Q := by
  refine dk_enter [some (.ref 104), some (.int n)] (by decide) (fun _ => rfl) (fun _ => Nat.le_of_ble_eq_true rfl) ?_
  refine w_il1 (n := 1) dX12_best_0 rfl ?_
  refine w_iconst (n := 2) (nI 0) dX12_best_1 (by decide) rfl ?_
  refine w_iconst (n := 3) (nI 4) dX12_best_2 (by decide) rfl ?_
  refine w_cS3 (n := 6) s0_X12_in k_X12_61 (Nat.le_of_ble_eq_true rfl) dX12_best_3 rfl (r_in (fun t3_h => ?_) (fun t3_h => ?_))
  · skip
    refine w_if_ne (n := 9) 11 dX12_best_6 (by decide) rfl (fun _ => ?_) (fun h => absurd h (by decide))
    refine w_al0 (n := 12) dX12_best_11 rfl ?_
    refine w_il1 (n := 13) dX12_best_12 rfl ?_
    have hn := tN_of (n := 4) (by decide) t3_h.1 t3_h.2
    have en : Value.int n = Value.int (nI (tN n)) := by rw [← hn.1]
    rw [en]
    refine w_cV1 (n := 16) pl_104 cl_12 s0_X12_findBest k_X12_268 (Nat.le_of_ble_eq_true rfl) dX12_best_13 rfl (r_findBest hK hn.2 (fun M2 g1_h g2_h g3_h g4_h => ?_))
    refine w_al0 (n := 17) dX12_best_16 rfl ?_
    refine g_I (n := 20) f_X12_256_12 pl_104 dX12_best_17 rfl ?_
    rw [g2_h]
    refine w_retI dX12_best_20 rfl ?_
    rw [show kf_bst K n = nI (sg_fb K (tN n)).1 from if_pos t3_h] at hq
    exact hq M2 g1_h
  · skip
    refine w_if_ne (n := 9) 11 dX12_best_6 (by decide) rfl (fun h => absurd h (by decide)) (fun _ => ?_)
    refine w_iconst (n := 10) (-1) dX12_best_9 (by decide) rfl ?_
    refine w_retI dX12_best_10 rfl ?_
    rw [show kf_bst K n = -1 from if_neg t3_h] at hq
    exact hq M dk_fr.rf

set_option maxRecDepth 20000 in
theorem R_ways {d : Nat} {M : dk_Mem} {Q : Option Value → dk_Mem → Prop} {K : sg_K} (hK : rK K M) {n : Int32} (hq : ∀ M2, dk_fr rN M M2 → Q (some (.int (kf_ways K n))) M2) : dk_Call (d + 11) mX12_ways [.ref 104, .int n] M Q := by
  refine dk_enter [some (.ref 104), some (.int n)] (by decide) (fun _ => rfl) (fun _ => Nat.le_of_ble_eq_true rfl) ?_
  refine w_il1 (n := 1) dX12_ways_0 rfl ?_
  refine w_iconst (n := 2) (nI 0) dX12_ways_1 (by decide) rfl ?_
  refine w_iconst (n := 3) (nI 4) dX12_ways_2 (by decide) rfl ?_
  refine w_cS3 (n := 6) s0_X12_in k_X12_61 (Nat.le_of_ble_eq_true rfl) dX12_ways_3 rfl (r_in (fun t3_h => ?_) (fun t3_h => ?_))
  · skip
    refine w_if_ne (n := 9) 11 dX12_ways_6 (by decide) rfl (fun _ => ?_) (fun h => absurd h (by decide))
    refine w_al0 (n := 12) dX12_ways_11 rfl ?_
    refine w_il1 (n := 13) dX12_ways_12 rfl ?_
    have hn := tN_of (n := 4) (by decide) t3_h.1 t3_h.2
    have en : Value.int n = Value.int (nI (tN n)) := by rw [← hn.1]
    rw [en]
    refine w_cV1 (n := 16) pl_104 cl_12 s0_X12_findBest k_X12_268 (Nat.le_of_ble_eq_true rfl) dX12_ways_13 rfl (r_findBest hK hn.2 (fun M2 g1_h g2_h g3_h g4_h => ?_))
    refine w_al0 (n := 17) dX12_ways_16 rfl ?_
    refine g_I (n := 20) f_X12_262_12 pl_104 dX12_ways_17 rfl ?_
    rw [g4_h]
    refine w_retI dX12_ways_20 rfl ?_
    rw [show kf_ways K n = nI (sg_fb K (tN n)).2.2 from if_pos t3_h] at hq
    exact hq M2 g1_h
  · skip
    refine w_if_ne (n := 9) 11 dX12_ways_6 (by decide) rfl (fun h => absurd h (by decide)) (fun _ => ?_)
    refine w_iconst (n := 10) (-1) dX12_ways_9 (by decide) rfl ?_
    refine w_retI dX12_ways_10 rfl ?_
    rw [show kf_ways K n = -1 from if_neg t3_h] at hq
    exact hq M dk_fr.rf

set_option maxRecDepth 20000 in
theorem R_ith {d : Nat} {M : dk_Mem} {Q : Option Value → dk_Mem → Prop} {K : sg_K} (hK : rK K M) {n i : Int32} (hq : ∀ M2, dk_fr rN M M2 → Q (some (.int (kf_ith K n i))) M2) : dk_Call (d + 11) mX12_ith [.ref 104, .int n, .int i] M Q := by
  have hK0 := hK
  obtain ⟨⟨o, p1_h, p2_h, p3_h⟩, hr, ⟨f, hb, hT⟩, hsc, hz⟩ := hK0
  have o4_h := o.2.2.2.1
  have o16_h := o.2.1
  refine dk_enter [some (.ref 104), some (.int n), some (.int i), none] (by decide) (fun _ => rfl) (fun _ => Nat.le_of_ble_eq_true rfl) ?_
  refine w_il1 (n := 1) dX12_ith_0 rfl ?_
  refine w_iconst (n := 2) (nI 0) dX12_ith_1 (by decide) rfl ?_
  refine w_iconst (n := 3) (nI 4) dX12_ith_2 (by decide) rfl ?_
  refine w_cS3 (n := 6) s0_X12_in k_X12_61 (Nat.le_of_ble_eq_true rfl) dX12_ith_3 rfl (r_in (fun t3_h => ?_) (fun t3_h => ?_))
  · skip
    refine w_if_eq (n := 9) 18 dX12_ith_6 (by decide) rfl (fun h => absurd h (by decide)) (fun _ => ?_)
    refine w_il2 (n := 10) dX12_ith_9 rfl ?_
    refine w_iconst (n := 11) (nI 0) dX12_ith_10 (by decide) rfl ?_
    refine w_iconst (n := 12) (nI 3) dX12_ith_11 (by decide) rfl ?_
    refine w_cS3 (n := 15) s0_X12_in k_X12_61 (Nat.le_of_ble_eq_true rfl) dX12_ith_12 rfl (r_in (fun t12_h => ?_) (fun t12_h => ?_))
    · skip
      refine w_if_ne (n := 18) 20 dX12_ith_15 (by decide) rfl (fun _ => ?_) (fun h => absurd h (by decide))
      have hn := tN_of (n := 4) (by decide) t3_h.1 t3_h.2
      have hi := tN_of (n := 3) (by decide) t12_h.1 t12_h.2
      rw [show kf_ith K n i = if tN i < sg_ys K.1 (tN n) then nI (pl_d (K.1 4 + 1) (sg_ys K.1 (tN n)) (sg_fb K (tN n)).2.1 (tN i)) else -3 from if_pos ⟨t3_h, t12_h⟩] at hq
      have yl := (sg_ys_le (σ := K.1) (n := tN n)).1
      have e1_h := hn.1
      have e2_h := hi.1
      have l1_h := hn.2
      have l2_h := hi.2
      clear hn hi
      generalize tN n = n0_h at *
      generalize tN i = i0_h at *
      subst e1_h e2_h
      refine w_al0 (n := 21) dX12_ith_20 rfl ?_
      refine w_il1 (n := 22) dX12_ith_21 rfl ?_
      refine w_cV1 (n := 25) pl_104 cl_12 s0_X12_yearsOf k_X12_244 (Nat.le_of_ble_eq_true rfl) dX12_ith_22 rfl (r_yearsOf hr hK.1 l1_h ?_)
      refine w_is3 (n := 26) dX12_ith_25 rfl rfl (by decide) ?_
      refine w_il2 (n := 27) dX12_ith_26 rfl ?_
      refine w_il3 (n := 28) dX12_ith_27 rfl ?_
      refine w_ic_lt (n := 31) 34 dX12_ith_28 (by decide) rfl (fun z28_h => ?_) (fun z28_h => ?_)
      · skip
        have hlt : i0_h < sg_ys K.1 n0_h := by rw [nI_ltI (by omega) (by omega)] at z28_h; exact z28_h
        rw [if_pos hlt] at hq
        refine w_al0 (n := 35) dX12_ith_34 rfl ?_
        refine w_il1 (n := 36) dX12_ith_35 rfl ?_
        refine w_cV1 (n := 39) pl_104 cl_12 s0_X12_findBest k_X12_268 (Nat.le_of_ble_eq_true rfl) dX12_ith_36 rfl (r_findBest hK l1_h (fun M2 g1_h g2_h g3_h g4_h => ?_))
        have hr2_h := hr.N g1_h
        have fbl := fb_le (f := sg_f K (sg_ys K.1 n0_h)) (B := 76) (fun P => by have := pl_w_le (w := K.2.1) (m := sg_ys K.1 n0_h) (P := P) o4_h (sg_ys K.1 n0_h) 0 K.1 o sg_ys_le.2; unfold sg_f; omega) (sg_np K.1 n0_h)
        have npl := sg_np_le (σ := K.1) o4_h l1_h
        refine w_al0 (n := 40) dX12_ith_39 rfl ?_
        refine g_I (n := 43) f_X12_265_12 pl_104 dX12_ith_40 rfl ?_
        rw [g3_h]
        refine w_al0 (n := 44) dX12_ith_43 rfl ?_
        refine g_R (n := 47) f_X12_9_12 pl_104 rf_104_0 dX12_ith_44 rfl ?_
        refine w_iconst (n := 48) (nI 4) dX12_ith_47 (by decide) rfl ?_
        refine i_iald (n := 49) pl_105 (j := 4) rfl (by decide) (by decide) (hr2_h 4 (by decide) (by decide) (by decide)) dX12_ith_48 rfl ?_
        refine w_iconst (n := 50) (nI 1) dX12_ith_49 (by decide) rfl ?_
        refine w_iadd (n := 51) dX12_ith_50 rfl ?_
        rw [nI_add]
        refine w_il2 (n := 52) dX12_ith_51 rfl ?_
        refine w_il3 (n := 53) dX12_ith_52 rfl ?_
        refine w_cS4 (n := 56) s0_X12_digit k_X12_247 (Nat.le_of_ble_eq_true rfl) dX12_ith_53 rfl (r_digit (by have h9_h : (sg_fb K n0_h).2.1 ≤ sg_np K.1 n0_h := fbl.2.1; omega) (by omega) (by omega) (by omega) hlt ?_)
        refine w_retI dX12_ith_56 rfl ?_
        exact hq M2 g1_h
      · skip
        refine w_bipush (n := 33) (-3) dX12_ith_31 (by decide) rfl ?_
        refine w_retI dX12_ith_33 rfl ?_
        rw [if_neg (by rw [nI_ltI (by omega) (by omega)] at z28_h; exact z28_h)] at hq
        exact hq M dk_fr.rf
    · skip
      refine w_if_ne (n := 18) 20 dX12_ith_15 (by decide) rfl (fun h => absurd h (by decide)) (fun _ => ?_)
      refine w_iconst (n := 19) (-1) dX12_ith_18 (by decide) rfl ?_
      refine w_retI dX12_ith_19 rfl ?_
      rw [show kf_ith K n i = -1 from if_neg (fun z => by first | exact t3_h z.1 | exact t12_h z.2)] at hq
      exact hq M dk_fr.rf
  · skip
    refine w_if_eq (n := 9) 18 dX12_ith_6 (by decide) rfl (fun _ => ?_) (fun h => absurd (by decide) h)
    refine w_iconst (n := 19) (-1) dX12_ith_18 (by decide) rfl ?_
    refine w_retI dX12_ith_19 rfl ?_
    rw [show kf_ith K n i = -1 from if_neg (fun z => by first | exact t3_h z.1 | exact t12_h z.2)] at hq
    exact hq M dk_fr.rf

set_option maxRecDepth 20000 in
theorem r_aiL {d : Nat} {M : dk_Mem} {Q : Option Value → dk_Mem → Prop} {σ : Nat → Nat} (hr : rr σ M) (h4_h : σ 4 ≤ 6) {P m : Nat} (hP : P < 2 ^ 31) (hm : m ≤ 4) (hq : Q (some (.int (nI (pl_a (σ 4 + 1) m P m)))) M) : ∀ (n k : Nat), k ≤ m → m - k < n → dk_W (d + 1) mX12_actsIn 5 [some (.ref 104), some (.int (nI P)), some (.int (nI m)), some (.int (nI (pl_a (σ 4 + 1) m P k))), some (.int (nI k))] [] M Q := by
  intro n
  induction n with
  | zero => intro k _ h; omega
  | succ n ih =>
    intro k hk hn
    have dl := pl_d_le (m := m) (P := P) (i := k) (show 0 < σ 4 + 1 by omega)
    refine w_il4 (n := 7) dX12_actsIn_5 rfl ?_
    refine w_il2 (n := 8) dX12_actsIn_7 rfl ?_
    refine w_ic_ge (n := 11) 43 dX12_actsIn_8 (by decide) rfl (fun z8_h => ?_) (fun z8_h => ?_)
    · skip
      refine w_il3 (n := 44) dX12_actsIn_43 rfl ?_
      refine w_retI dX12_actsIn_44 rfl ?_
      rw [q_le (by omega) (by omega)] at z8_h
      have e : k = m := by omega
      subst e
      exact hq
    · skip
      refine w_il3 (n := 12) dX12_actsIn_11 rfl ?_
      refine w_il1 (n := 13) dX12_actsIn_12 rfl ?_
      refine w_al0 (n := 14) dX12_actsIn_13 rfl ?_
      refine g_R (n := 17) f_X12_9_12 pl_104 rf_104_0 dX12_actsIn_14 rfl ?_
      refine w_iconst (n := 18) (nI 4) dX12_actsIn_17 (by decide) rfl ?_
      refine i_iald (n := 19) pl_105 (j := 4) rfl (by decide) (by decide) (hr 4 (by decide) (by decide) (by decide)) dX12_actsIn_18 rfl ?_
      refine w_iconst (n := 20) (nI 1) dX12_actsIn_19 (by decide) rfl ?_
      refine w_iadd (n := 21) dX12_actsIn_20 rfl ?_
      refine w_il4 (n := 23) dX12_actsIn_21 rfl ?_
      refine w_il2 (n := 24) dX12_actsIn_23 rfl ?_
      rw [nI_add]
      refine w_cS4 (n := 27) s0_X12_digit k_X12_247 (Nat.le_of_ble_eq_true rfl) dX12_actsIn_24 rfl (r_digit hP (by omega) (by omega) hm (by rw [q_le (by omega) (by omega)] at z8_h; omega) ?_)
      refine w_if_le (n := 30) 34 dX12_actsIn_27 (by decide) rfl (fun z27_h => ?_) (fun z27_h => ?_)
      · skip
        refine w_iconst (n := 35) (nI 0) dX12_actsIn_34 (by decide) rfl ?_
        refine w_iadd (n := 36) dX12_actsIn_35 rfl ?_
        refine w_is3 (n := 37) dX12_actsIn_36 rfl rfl (by decide) ?_
        refine w_inc4 (n := 40) (nI 1) dX12_actsIn_37 (by decide) rfl rfl (by decide) ?_
        refine w_goto 5 dX12_actsIn_40 (by decide) ?_
        rw [q_le (by omega) (by omega)] at z8_h
        rw [nI_add, nI_add]
        have g := ih (k + 1) (by omega) (by omega)
        rw [pl_a] at g
        have z9_h := z27_h
        rw [show (0 : Int32) = nI 0 from rfl, q_le (by omega) (by omega)] at z9_h
        split at g
        · first | exact g | (exfalso; omega)
        · first | exact g | (exfalso; omega)
      · skip
        refine w_iconst (n := 31) (nI 1) dX12_actsIn_30 (by decide) rfl ?_
        refine w_goto 35 dX12_actsIn_31 (by decide) ?_
        refine w_iadd (n := 36) dX12_actsIn_35 rfl ?_
        refine w_is3 (n := 37) dX12_actsIn_36 rfl rfl (by decide) ?_
        refine w_inc4 (n := 40) (nI 1) dX12_actsIn_37 (by decide) rfl rfl (by decide) ?_
        refine w_goto 5 dX12_actsIn_40 (by decide) ?_
        rw [q_le (by omega) (by omega)] at z8_h
        rw [nI_add, nI_add]
        have g := ih (k + 1) (by omega) (by omega)
        rw [pl_a] at g
        have z9_h := z27_h
        rw [show (0 : Int32) = nI 0 from rfl, q_le (by omega) (by omega)] at z9_h
        split at g
        · first | exact g | (exfalso; omega)
        · first | exact g | (exfalso; omega)

set_option maxRecDepth 20000 in
theorem r_actsIn {d : Nat} {M : dk_Mem} {Q : Option Value → dk_Mem → Prop} {σ : Nat → Nat} (hr : rr σ M) (h4_h : σ 4 ≤ 6) {P m : Nat} (hP : P < 2 ^ 31) (hm : m ≤ 4) (hq : Q (some (.int (nI (pl_a (σ 4 + 1) m P m)))) M) : dk_Call (d + 1) mX12_actsIn [.ref 104, .int (nI P), .int (nI m)] M Q := by
  refine dk_enter [some (.ref 104), some (.int (nI P)), some (.int (nI m)), none, none] (by decide) (fun _ => rfl) (fun _ => Nat.le_of_ble_eq_true rfl) ?_
  refine w_iconst (n := 1) (nI 0) dX12_actsIn_0 (by decide) rfl ?_
  refine w_is3 (n := 2) dX12_actsIn_1 rfl rfl (by decide) ?_
  refine w_iconst (n := 3) (nI 0) dX12_actsIn_2 (by decide) rfl ?_
  refine w_is4 (n := 5) dX12_actsIn_3 rfl rfl (by decide) ?_
  exact r_aiL hr h4_h hP hm hq (m + 1) 0 (by omega) (by omega)
