/-! ===== acts of a sheet ===== -/
theorem lN_big {n : Nat} (h : n < 2 ^ 63) : (lN n).toInt = (n : Int) := Int64.toInt_ofNat_of_lt h
theorem q_lpos {i : Int32} {k : Nat} (hk : k ≤ 20) (h : nI 0 ≤ i) : i.toInt64 + (nI k).toInt64 = lN (tN i + k) ∧ tN i < 2 ^ 31 ∧ i = nI (tN i) := by
  obtain ⟨j, hj, e⟩ := nI_of (x := i) (Int32.not_lt.mpr h)
  subst e
  rw [tN_nI hj, nI_l hj, nI_l (by omega), lN_add]
  exact ⟨rfl, hj, rfl⟩
theorem q_lneg {i : Int32} (h : ¬ nI 0 ≤ i) : i.toInt64 + (nI 0).toInt64 < 0 := by
  rw [show (nI 0).toInt64 = 0 from rfl, Int64.add_zero, show (0 : Int64) = (0 : Int32).toInt64 from rfl, fa_wide_lt]
  exact Int32.not_le.mp h
def sg_pl (i : Int32) (k sz : Nat) : Prop := nI 0 ≤ i ∧ tN i + k < sz
theorem q_pl {i : Int32} {k sz : Nat} (hk : k ≤ 20) (hz : sz ≤ 40) (hik : k = 0 ∨ nI 0 ≤ i) : (i.toInt64 + (nI k).toInt64 < 0 → ¬ sg_pl i k sz) ∧ ((nI sz).toInt64 ≤ i.toInt64 + (nI k).toInt64 → ¬ sg_pl i k sz) ∧ (¬ i.toInt64 + (nI k).toInt64 < 0 → ¬ (nI sz).toInt64 ≤ i.toInt64 + (nI k).toInt64 → sg_pl i k sz) := by
  by_cases h : nI 0 ≤ i
  · obtain ⟨e, hj, -⟩ := q_lpos hk h
    rw [e, nI_l (by omega)]
    have e1_h := lN_big (n := tN i + k) (by omega)
    have e2_h := lN_big (n := sz) (by omega)
    have e3_h : (0 : Int64).toInt = 0 := rfl
    unfold sg_pl
    refine ⟨fun z => ?_, fun z => ?_, fun z1_h z2_h => ?_⟩
    · have := Int64.lt_iff_toInt_lt.mp z
      omega
    · have := Int64.le_iff_toInt_le.mp z
      omega
    · refine ⟨h, ?_⟩
      exact Nat.lt_of_not_le (fun y => z2_h (Int64.le_iff_toInt_le.mpr (by omega)))
  · rcases hik with rfl | z
    · have := q_lneg h
      exact ⟨fun _ y => h y.1, fun _ y => h y.1, fun z => absurd this z⟩
    · exact absurd z h
theorem q_plc {i sz : Int32} {k : Nat} (hz : eN sz 40) (hk : k ≤ 20) : (nI 0 ≤ i ∧ i ≤ sz - nI 1 - nI k) ↔ sg_pl i k (tN sz) := by
  unfold sg_pl
  constructor
  · rintro ⟨h0_h, h1_h⟩
    refine ⟨h0_h, ?_⟩
    have a1_h := Int32.le_iff_toInt_le.mp h1_h
    obtain ⟨-, hj, e⟩ := q_lpos (k := 0) (by omega) h0_h
    have z2_h := hz.2
    have a2_h : (sz - nI 1 - nI k).toInt = (tN sz : Int) - 1 - k := by
      rw [hz.1]
      generalize tN sz = a at z2_h
      rw [show tN (nI a) = a from tN_nI (by omega)]
      have : ∀ a, a < 41 → ∀ k, k < 21 → (nI a - nI 1 - nI k).toInt = (a : Int) - 1 - k := by decide +kernel
      exact this a (by omega) k (by omega)
    rw [a2_h, e, nI_toInt hj] at a1_h
    omega
  · rintro ⟨h0_h, h1_h⟩
    refine ⟨h0_h, ?_⟩
    obtain ⟨-, hj, e⟩ := q_lpos (k := 0) (by omega) h0_h
    have z2_h := hz.2
    apply Int32.le_iff_toInt_le.mpr
    have a2_h : (sz - nI 1 - nI k).toInt = (tN sz : Int) - 1 - k := by
      rw [hz.1]
      generalize tN sz = a at z2_h
      rw [show tN (nI a) = a from tN_nI (by omega)]
      have : ∀ a, a < 41 → ∀ k, k < 21 → (nI a - nI 1 - nI k).toInt = (a : Int) - 1 - k := by decide +kernel
      exact this a (by omega) k (by omega)
    rw [a2_h, e, nI_toInt hj]
    omega
def kf_ga (E : sg_E) (s : Nat) (i : Int32) : Nat → Nat → Int32 → sg_K → Int32 × sg_K
  | 0, _, a, K => (a, K)
  | n + 1, k, a, K => if nI 0 ≤ i ∧ tN i + k < tN (E (24 + s)) then (if (nI 0 ≤ E (300 + (40 * s + (tN i + k))) ∧ E (300 + (40 * s + (tN i + k))) ≤ nI (K.1 4)) ∧ K.1 1 < K.1 0 then kf_ga E s i n (k + 1) (a + (sg_yr K (sg_ot (tN (E (300 + (40 * s + (tN i + k))))))).1) (sg_yr K (sg_ot (tN (E (300 + (40 * s + (tN i + k))))))).2 else kf_ga E s i n (k + 1) a K) else (-12, K)
theorem kf_ga_o {E : sg_E} {s n k : Nat} {i a : Int32} {K : sg_K} (h : ¬ sg_pl i k (tN (E (24 + s)))) : kf_ga E s i (n + 1) k a K = (-12, K) := if_neg h
theorem kf_ga_n {E : sg_E} {s n k : Nat} {i a c : Int32} {K : sg_K} (h : sg_pl i k (tN (E (24 + s)))) (hc : E (300 + (40 * s + (tN i + k))) = c) (h2_h : ¬ ((nI 0 ≤ c ∧ c ≤ nI (K.1 4)) ∧ K.1 1 < K.1 0)) : kf_ga E s i (n + 1) k a K = kf_ga E s i n (k + 1) a K := by
  subst hc
  rw [kf_ga]
  exact (if_pos h).trans (if_neg h2_h)
theorem kf_ga_y {E : sg_E} {s n k : Nat} {i a c : Int32} {K : sg_K} (h : sg_pl i k (tN (E (24 + s)))) (hc : E (300 + (40 * s + (tN i + k))) = c) (h2_h : (nI 0 ≤ c ∧ c ≤ nI (K.1 4)) ∧ K.1 1 < K.1 0) : kf_ga E s i (n + 1) k a K = kf_ga E s i n (k + 1) (a + (sg_yr K (sg_ot (tN c))).1) (sg_yr K (sg_ot (tN c))).2 := by
  subst hc
  rw [kf_ga]
  exact (if_pos h).trans (if_pos h2_h)
/-- why items cannot be acts -/
def ef_na (E : sg_E) (s n : Int32) : Int32 := if (nI 0 ≤ s ∧ s ≤ nI 3) ∧ nI 0 ≤ n ∧ n ≤ nI 20 then (if E (20 + tN s) < 0 then -11 else if E (20 + tN s) = 0 then nI 0 else -13) else -1
def kf_goAll (K : sg_K) (E : sg_E) (s i n : Int32) : Int32 × sg_K := if ef_na E s n = 0 then kf_ga E (tN s) i (tN n) 0 (nI 0) K else (ef_na E s n, K)
theorem ef_na_0 {E : sg_E} {s n : Int32} (h : ef_na E s n = 0) : eN s 3 ∧ eN n 20 := by
  unfold ef_na at h
  by_cases c : (nI 0 ≤ s ∧ s ≤ nI 3) ∧ nI 0 ≤ n ∧ n ≤ nI 20
  · exact ⟨tN_of (by decide) c.1.1 c.1.2, tN_of (by decide) c.2.1 c.2.2⟩
  · rw [if_neg c] at h
    exact absurd h (by decide)
theorem ef_na_lt {E : sg_E} {s n : Int32} (h : ef_na E s n ≠ 0) : ef_na E s n < 0 := by
  unfold ef_na at *
  by_cases c : (nI 0 ≤ s ∧ s ≤ nI 3) ∧ nI 0 ≤ n ∧ n ≤ nI 20
  · rw [if_pos c] at *
    by_cases c2_h : E (20 + tN s) < 0
    · rw [if_pos c2_h]; decide
    · rw [if_neg c2_h] at *
      by_cases c3_h : E (20 + tN s) = 0
      · rw [if_pos c3_h] at h; exact absurd rfl h
      · rw [if_neg c3_h]; decide
  · rw [if_neg c]; decide

set_option maxRecDepth 20000 in
theorem r_notActs {d : Nat} {M : dk_Mem} {Q : Option Value → dk_Mem → Prop} {E : sg_E} (hE : rE E M) (hI : eI E) {s n : Int32} (hq : Q (some (.int (ef_na E s n))) M) : dk_Call (d + 2) mX12_notActs [.ref 104, .int s, .int n] M Q := by
  refine dk_enter [some (.ref 104), some (.int s), some (.int n)] (by decide) (fun _ => rfl) (fun _ => Nat.le_of_ble_eq_true rfl) ?_
  refine w_il1 (n := 1) dX12_notActs_0 rfl ?_
  refine w_cS1 (n := 4) s0_X12_isFour k_X12_281 (Nat.le_of_ble_eq_true rfl) dX12_notActs_1 rfl (r_isFour (fun t1_h => ?_) (fun t1_h => ?_))
  · skip
    refine w_if_eq (n := 7) 17 dX12_notActs_4 (by decide) rfl (fun h => absurd h (by decide)) (fun _ => ?_)
    refine w_il2 (n := 8) dX12_notActs_7 rfl ?_
    refine w_iconst (n := 9) (nI 0) dX12_notActs_8 (by decide) rfl ?_
    refine w_bipush (n := 11) (nI 20) dX12_notActs_9 (by decide) rfl ?_
    refine w_cS3 (n := 14) s0_X12_in k_X12_61 (Nat.le_of_ble_eq_true rfl) dX12_notActs_11 rfl (r_in (fun t11_h => ?_) (fun t11_h => ?_))
    · skip
      refine w_if_ne (n := 17) 19 dX12_notActs_14 (by decide) rfl (fun _ => ?_) (fun h => absurd h (by decide))
      have hs := tN_of (n := 3) (by decide) t1_h.1 t1_h.2
      refine w_al0 (n := 20) dX12_notActs_19 rfl ?_
      refine g_R (n := 23) f_X12_35_12 pl_104 rf_104_22 dX12_notActs_20 rfl ?_
      refine w_il1 (n := 24) dX12_notActs_23 rfl ?_
      refine i_iald (n := 25) pl_113 (j := tN s) hs.1 (by omega) (by decide) (hE.1 _ _ _ (eL_113 (by omega))) dX12_notActs_24 rfl ?_
      refine w_if_ge (n := 28) 33 dX12_notActs_25 (by decide) rfl (fun z25_h => ?_) (fun z25_h => ?_)
      · skip
        refine w_al0 (n := 34) dX12_notActs_33 rfl ?_
        refine g_R (n := 37) f_X12_35_12 pl_104 rf_104_22 dX12_notActs_34 rfl ?_
        refine w_il1 (n := 38) dX12_notActs_37 rfl ?_
        refine i_iald (n := 39) pl_113 (j := tN s) hs.1 (by omega) (by decide) (hE.1 _ _ _ (eL_113 (by omega))) dX12_notActs_38 rfl ?_
        refine w_if_ne (n := 42) 46 dX12_notActs_39 (by decide) rfl (fun z39_h => ?_) (fun z39_h => ?_)
        · skip
          refine w_bipush (n := 48) (-13) dX12_notActs_46 (by decide) rfl ?_
          refine w_retI dX12_notActs_48 rfl ?_
          have e9_h : ef_na E s n = if E (20 + tN s) < 0 then -11 else if E (20 + tN s) = 0 then nI 0 else -13 := if_pos ⟨t1_h, t11_h⟩
          rw [e9_h] at hq
          clear e9_h
          first | (rw [if_pos (Int32.not_le.mp z25_h)] at hq; exact hq) | (rw [if_neg (Int32.not_lt.mpr z25_h), if_pos z39_h] at hq; exact hq) | (rw [if_neg (Int32.not_lt.mpr z25_h), if_neg z39_h] at hq; exact hq)
        · skip
          refine w_iconst (n := 43) (nI 0) dX12_notActs_42 (by decide) rfl ?_
          refine w_goto 48 dX12_notActs_43 (by decide) ?_
          refine w_retI dX12_notActs_48 rfl ?_
          have e9_h : ef_na E s n = if E (20 + tN s) < 0 then -11 else if E (20 + tN s) = 0 then nI 0 else -13 := if_pos ⟨t1_h, t11_h⟩
          rw [e9_h] at hq
          clear e9_h
          first | (rw [if_pos (Int32.not_le.mp z25_h)] at hq; exact hq) | (rw [if_neg (Int32.not_lt.mpr z25_h), if_pos z39_h] at hq; exact hq) | (rw [if_neg (Int32.not_lt.mpr z25_h), if_neg z39_h] at hq; exact hq)
      · skip
        refine w_bipush (n := 30) (-11) dX12_notActs_28 (by decide) rfl ?_
        refine w_goto 48 dX12_notActs_30 (by decide) ?_
        refine w_retI dX12_notActs_48 rfl ?_
        have e9_h : ef_na E s n = if E (20 + tN s) < 0 then -11 else if E (20 + tN s) = 0 then nI 0 else -13 := if_pos ⟨t1_h, t11_h⟩
        rw [e9_h] at hq
        clear e9_h
        first | (rw [if_pos (Int32.not_le.mp z25_h)] at hq; exact hq) | (rw [if_neg (Int32.not_lt.mpr z25_h), if_pos z39_h] at hq; exact hq) | (rw [if_neg (Int32.not_lt.mpr z25_h), if_neg z39_h] at hq; exact hq)
    · skip
      refine w_if_ne (n := 17) 19 dX12_notActs_14 (by decide) rfl (fun h => absurd h (by decide)) (fun _ => ?_)
      refine w_iconst (n := 18) (-1) dX12_notActs_17 (by decide) rfl ?_
      refine w_retI dX12_notActs_18 rfl ?_
      rw [show ef_na E s n = -1 from if_neg (fun z => by first | exact t1_h z.1 | exact t11_h z.2)] at hq
      exact hq
  · skip
    refine w_if_eq (n := 7) 17 dX12_notActs_4 (by decide) rfl (fun _ => ?_) (fun h => absurd (by decide) h)
    refine w_iconst (n := 18) (-1) dX12_notActs_17 (by decide) rfl ?_
    refine w_retI dX12_notActs_18 rfl ?_
    rw [show ef_na E s n = -1 from if_neg (fun z => by first | exact t1_h z.1 | exact t11_h z.2)] at hq
    exact hq

set_option maxRecDepth 20000 in
theorem r_isPlace {d : Nat} {M : dk_Mem} {Q : Option Value → dk_Mem → Prop} {E : sg_E} (hE : rE E M) (hI : eI E) {s k : Nat} (hs : s < 4) {i : Int32} (hk : k ≤ 20) (hik : k = 0 ∨ nI 0 ≤ i) (h1_h : sg_pl i k (tN (E (24 + s))) → Q (some (.int 1)) M) (h0_h : ¬ sg_pl i k (tN (E (24 + s))) → Q (some (.int 0)) M) : dk_Call d mX12_isPlace [.ref 104, .int (nI s), .long (i.toInt64 + (nI k).toInt64)] M Q := by
  have hz := (hI.2.1 s hs).2.1
  have hp := q_pl hk hz.2 hik
  have hx : M.1 114 s = nI (tN (E (24 + s))) := (hE.1 _ _ _ (eL_114 hs)).trans hz.1
  refine dk_enter [some (.ref 104), some (.int (nI s)), some (.long (i.toInt64 + (nI k).toInt64)), none] (by decide) (fun _ => rfl) (fun _ => Nat.le_of_ble_eq_true rfl) ?_
  refine w_ll2 (n := 1) dX12_isPlace_0 rfl ?_
  refine w_lconst (n := 2) 0 dX12_isPlace_1 (by decide) rfl ?_
  refine w_lcmp (n := 3) dX12_isPlace_2 rfl ?_
  refine w_if_lt (n := 6) 22 dX12_isPlace_3 (by decide) rfl (fun z3_h => ?_) (fun z3_h => ?_)
  · skip
    refine w_iconst (n := 23) (nI 0) dX12_isPlace_22 (by decide) rfl ?_
    refine w_retZ0 dX12_isPlace_23 rfl ?_
    first | (rw [lg_cmp_lt] at z3_h; exact h0_h (hp.1 z3_h)) | (rw [lg_cmp_ge] at z15_h; exact h0_h (hp.2.1 z15_h))
  · skip
    refine w_ll2 (n := 7) dX12_isPlace_6 rfl ?_
    refine w_al0 (n := 8) dX12_isPlace_7 rfl ?_
    refine g_R (n := 11) f_X12_38_12 pl_104 rf_104_23 dX12_isPlace_8 rfl ?_
    refine w_il1 (n := 12) dX12_isPlace_11 rfl ?_
    refine i_iald (n := 13) pl_114 (j := s) rfl hs (by decide) hx dX12_isPlace_12 rfl ?_
    refine w_i2l (n := 14) dX12_isPlace_13 rfl ?_
    refine w_lcmp (n := 15) dX12_isPlace_14 rfl ?_
    refine w_if_ge (n := 18) 22 dX12_isPlace_15 (by decide) rfl (fun z15_h => ?_) (fun z15_h => ?_)
    · skip
      refine w_iconst (n := 23) (nI 0) dX12_isPlace_22 (by decide) rfl ?_
      refine w_retZ0 dX12_isPlace_23 rfl ?_
      first | (rw [lg_cmp_lt] at z3_h; exact h0_h (hp.1 z3_h)) | (rw [lg_cmp_ge] at z15_h; exact h0_h (hp.2.1 z15_h))
    · skip
      refine w_iconst (n := 19) (nI 1) dX12_isPlace_18 (by decide) rfl ?_
      refine w_goto 23 dX12_isPlace_19 (by decide) ?_
      refine w_retZ1 dX12_isPlace_23 rfl ?_
      rw [lg_cmp_lt] at z3_h
      rw [lg_cmp_ge] at z15_h
      exact h1_h (hp.2.2 z3_h z15_h)

set_option maxRecDepth 20000 in
theorem r_gaL {d : Nat} {M : dk_Mem} {Q : Option Value → dk_Mem → Prop} {E : sg_E} (hI : eI E) {s N : Nat} (hs : s < 4) (hN : N ≤ 20) {i : Int32} {T0 : Int32 × sg_K} (hq : ∀ M2, rK T0.2 M2 → dk_fr rA M M2 → Q (some (.int T0.1)) M2) : ∀ (n k : Nat) (a : Int32) (K : sg_K) (M1 : dk_Mem) (x7_h : Option Value), k ≤ N → N - k < n → (k = 0 ∨ nI 0 ≤ i) → rK K M1 → rE E M1 → dk_fr rA M M1 → kf_ga E s i (N - k) k a K = T0 → dk_W (d + 8) mX12_goAll 22 [some (.ref 104), some (.int (nI s)), some (.int i), some (.int (nI N)), some (.int (nI 0)), some (.int a), some (.int (nI k)), x7_h] [] M1 Q := by
  intro n
  induction n with
  | zero => intro k _ _ _ _ _ h; omega
  | succ n ih =>
    intro k a K M1 x7_h hi hn hik hK hE hf he
    have hr := hK.2.1
    have o := hK.1.1
    have o4_h := o.2.2.2.1
    refine w_il6 (n := 24) dX12_goAll_22 rfl ?_
    refine w_il3 (n := 25) dX12_goAll_24 rfl ?_
    refine w_ic_ge (n := 28) 107 dX12_goAll_25 (by decide) rfl (fun z25_h => ?_) (fun z25_h => ?_)
    · skip
      refine w_il5 (n := 109) dX12_goAll_107 rfl ?_
      refine w_retI dX12_goAll_109 rfl ?_
      rw [show N - k = 0 by rw [q_le (by omega) (by omega)] at z25_h; omega] at he
      subst he
      exact hq M1 hK hf
    · skip
      have hk : k < N := by rw [q_le (by omega) (by omega)] at z25_h; omega
      rw [show N - k = (N - (k + 1)) + 1 by omega] at he
      refine w_al0 (n := 29) dX12_goAll_28 rfl ?_
      refine w_il1 (n := 30) dX12_goAll_29 rfl ?_
      refine w_il2 (n := 31) dX12_goAll_30 rfl ?_
      refine w_i2l (n := 32) dX12_goAll_31 rfl ?_
      refine w_il6 (n := 34) dX12_goAll_32 rfl ?_
      refine w_i2l (n := 35) dX12_goAll_34 rfl ?_
      refine w_ladd (n := 36) dX12_goAll_35 rfl ?_
      refine w_cV2 (n := 39) pl_104 cl_12 s0_X12_isPlace k_X12_300 (Nat.le_of_ble_eq_true rfl) dX12_goAll_36 rfl (r_isPlace hE hI hs (by omega) hik (fun t36_h => ?_) (fun t36_h => ?_))
      · skip
        refine w_if_ne (n := 42) 45 dX12_goAll_39 (by decide) rfl (fun _ => ?_) (fun h => absurd h (by decide))
        have hz := (hI.2.1 s hs).2.1
        have hpos := q_lpos (k := 0) (by omega) t36_h.1
        have hlt := t36_h.2
        have hz2_h := hz.2
        have ix : nI 40 * nI s + i + nI k = nI (40 * s + (tN i + k)) := by
          have e2_h := hpos.2.2
          generalize tN i = b at *
          rw [e2_h, pk_mul, nI_add, nI_add, Nat.add_assoc]
        refine w_al0 (n := 46) dX12_goAll_45 rfl ?_
        refine g_R (n := 49) f_X12_41_12 pl_104 rf_104_24 dX12_goAll_46 rfl ?_
        refine w_bipush (n := 51) (nI 40) dX12_goAll_49 (by decide) rfl ?_
        refine w_il1 (n := 52) dX12_goAll_51 rfl ?_
        refine w_imul (n := 53) dX12_goAll_52 rfl ?_
        refine w_il2 (n := 54) dX12_goAll_53 rfl ?_
        refine w_iadd (n := 55) dX12_goAll_54 rfl ?_
        refine w_il6 (n := 57) dX12_goAll_55 rfl ?_
        refine w_iadd (n := 58) dX12_goAll_57 rfl ?_
        refine i_lald (n := 59) pl_115 (j := 40 * s + (tN i + k)) ix (by omega) (by decide) (hE.2 _ (by omega)) dX12_goAll_58 rfl ?_
        refine w_l2i (n := 60) dX12_goAll_59 rfl ?_
        rw [Int32.toInt32_toInt64]
        generalize hgc : E (300 + (40 * s + (tN i + k))) = c at *
        refine w_is7 (n := 62) dX12_goAll_60 rfl rfl (by decide) ?_
        refine w_il5 (n := 64) dX12_goAll_62 rfl ?_
        refine w_il7 (n := 66) dX12_goAll_64 rfl ?_
        refine w_iconst (n := 67) (nI 0) dX12_goAll_66 (by decide) rfl ?_
        refine w_al0 (n := 68) dX12_goAll_67 rfl ?_
        refine g_R (n := 71) f_X12_9_12 pl_104 rf_104_0 dX12_goAll_68 rfl ?_
        refine w_iconst (n := 72) (nI 4) dX12_goAll_71 (by decide) rfl ?_
        refine i_iald (n := 73) pl_105 (j := 4) rfl (by decide) (by decide) (hr 4 (by decide) (by decide) (by decide)) dX12_goAll_72 rfl ?_
        refine w_cS3 (n := 76) s0_X12_in k_X12_61 (Nat.le_of_ble_eq_true rfl) dX12_goAll_73 rfl (r_in (fun t73_h => ?_) (fun t73_h => ?_))
        · skip
          refine w_if_eq (n := 79) 97 dX12_goAll_76 (by decide) rfl (fun h => absurd h (by decide)) (fun _ => ?_)
          refine w_al0 (n := 80) dX12_goAll_79 rfl ?_
          refine w_cV0 (n := 83) pl_104 cl_12 s0_X12_isOver k_X12_121 (Nat.le_of_ble_eq_true rfl) dX12_goAll_80 rfl (r_isOver hr o (fun t80_h => ?_) (fun t80_h => ?_))
          · skip
            refine w_if_ne (n := 86) 97 dX12_goAll_83 (by decide) rfl (fun _ => ?_) (fun h => absurd h (by decide))
            refine w_iconst (n := 98) (nI 0) dX12_goAll_97 (by decide) rfl ?_
            refine w_iadd (n := 99) dX12_goAll_98 rfl ?_
            refine w_is5 (n := 101) dX12_goAll_99 rfl rfl (by decide) ?_
            refine w_inc6 (n := 104) (nI 1) dX12_goAll_101 (by decide) rfl rfl (by decide) ?_
            refine w_goto 22 dX12_goAll_104 (by decide) ?_
            rw [nI_add]
            first | (rw [kf_ga_y (E := E) (s := s) (i := i) (k := k) t36_h hgc ⟨t73_h, t80_h⟩] at he; exact ih (k + 1) _ _ M2 _ (by omega) (by omega) (Or.inr t36_h.1) g1_h (hE.A (rG_A g2_h)) (hf.tr (rG_A g2_h)) he) | (rw [kf_ga_n (E := E) (s := s) (i := i) (k := k) (K := K) t36_h hgc (fun z => t73_h z.1)] at he; rw [show a + nI 0 = a from Int32.add_zero a]; exact ih (k + 1) _ _ M1 _ (by omega) (by omega) (Or.inr t36_h.1) hK hE hf he) | (rw [kf_ga_n (E := E) (s := s) (i := i) (k := k) (K := K) t36_h hgc (fun z => absurd z.2 (by omega))] at he; rw [show a + nI 0 = a from Int32.add_zero a]; exact ih (k + 1) _ _ M1 _ (by omega) (by omega) (Or.inr t36_h.1) hK hE hf he)
          · skip
            refine w_if_ne (n := 86) 97 dX12_goAll_83 (by decide) rfl (fun h => absurd h (by decide)) (fun _ => ?_)
            refine w_al0 (n := 87) dX12_goAll_86 rfl ?_
            refine w_il7 (n := 89) dX12_goAll_87 rfl ?_
            refine w_iconst (n := 90) (nI 1) dX12_goAll_89 (by decide) rfl ?_
            refine w_isub (n := 91) dX12_goAll_90 rfl ?_
            have ac := sg_ac o4_h t73_h
            rw [ac.2.2.2]
            refine w_cV1 (n := 94) pl_104 cl_12 s0_X12_goes k_X12_226 (Nat.le_of_ble_eq_true rfl) dX12_goAll_91 rfl (r_yrK hK (fun h e => by have := ac.2.2.1 h e; omega) t80_h (fun M2 g1_h g2_h => ?_))
            refine w_goto 98 dX12_goAll_94 (by decide) ?_
            refine w_iadd (n := 99) dX12_goAll_98 rfl ?_
            refine w_is5 (n := 101) dX12_goAll_99 rfl rfl (by decide) ?_
            refine w_inc6 (n := 104) (nI 1) dX12_goAll_101 (by decide) rfl rfl (by decide) ?_
            refine w_goto 22 dX12_goAll_104 (by decide) ?_
            rw [nI_add]
            first | (rw [kf_ga_y (E := E) (s := s) (i := i) (k := k) t36_h hgc ⟨t73_h, t80_h⟩] at he; exact ih (k + 1) _ _ M2 _ (by omega) (by omega) (Or.inr t36_h.1) g1_h (hE.A (rG_A g2_h)) (hf.tr (rG_A g2_h)) he) | (rw [kf_ga_n (E := E) (s := s) (i := i) (k := k) (K := K) t36_h hgc (fun z => t73_h z.1)] at he; rw [show a + nI 0 = a from Int32.add_zero a]; exact ih (k + 1) _ _ M1 _ (by omega) (by omega) (Or.inr t36_h.1) hK hE hf he) | (rw [kf_ga_n (E := E) (s := s) (i := i) (k := k) (K := K) t36_h hgc (fun z => absurd z.2 (by omega))] at he; rw [show a + nI 0 = a from Int32.add_zero a]; exact ih (k + 1) _ _ M1 _ (by omega) (by omega) (Or.inr t36_h.1) hK hE hf he)
        · skip
          refine w_if_eq (n := 79) 97 dX12_goAll_76 (by decide) rfl (fun _ => ?_) (fun h => absurd (by decide) h)
          refine w_iconst (n := 98) (nI 0) dX12_goAll_97 (by decide) rfl ?_
          refine w_iadd (n := 99) dX12_goAll_98 rfl ?_
          refine w_is5 (n := 101) dX12_goAll_99 rfl rfl (by decide) ?_
          refine w_inc6 (n := 104) (nI 1) dX12_goAll_101 (by decide) rfl rfl (by decide) ?_
          refine w_goto 22 dX12_goAll_104 (by decide) ?_
          rw [nI_add]
          first | (rw [kf_ga_y (E := E) (s := s) (i := i) (k := k) t36_h hgc ⟨t73_h, t80_h⟩] at he; exact ih (k + 1) _ _ M2 _ (by omega) (by omega) (Or.inr t36_h.1) g1_h (hE.A (rG_A g2_h)) (hf.tr (rG_A g2_h)) he) | (rw [kf_ga_n (E := E) (s := s) (i := i) (k := k) (K := K) t36_h hgc (fun z => t73_h z.1)] at he; rw [show a + nI 0 = a from Int32.add_zero a]; exact ih (k + 1) _ _ M1 _ (by omega) (by omega) (Or.inr t36_h.1) hK hE hf he) | (rw [kf_ga_n (E := E) (s := s) (i := i) (k := k) (K := K) t36_h hgc (fun z => absurd z.2 (by omega))] at he; rw [show a + nI 0 = a from Int32.add_zero a]; exact ih (k + 1) _ _ M1 _ (by omega) (by omega) (Or.inr t36_h.1) hK hE hf he)
      · skip
        refine w_if_ne (n := 42) 45 dX12_goAll_39 (by decide) rfl (fun h => absurd h (by decide)) (fun _ => ?_)
        refine w_bipush (n := 44) (-12) dX12_goAll_42 (by decide) rfl ?_
        refine w_retI dX12_goAll_44 rfl ?_
        rw [kf_ga_o (E := E) (s := s) (i := i) (k := k) (K := K) t36_h] at he
        subst he
        exact hq M1 hK hf

set_option maxRecDepth 20000 in
theorem R_goAll {d : Nat} {M : dk_Mem} {Q : Option Value → dk_Mem → Prop} {K : sg_K} (hK : rK K M) {E : sg_E} (hE : rE E M) (hI : eI E) {s i n : Int32} (hq : ∀ M2, rK (kf_goAll K E s i n).2 M2 → dk_fr rA M M2 → Q (some (.int (kf_goAll K E s i n).1)) M2) : dk_Call (d + 9) mX12_goAll [.ref 104, .int s, .int i, .int n] M Q := by
  refine dk_enter [some (.ref 104), some (.int s), some (.int i), some (.int n), none, none, none, none] (by decide) (fun _ => rfl) (fun _ => Nat.le_of_ble_eq_true rfl) ?_
  refine w_al0 (n := 1) dX12_goAll_0 rfl ?_
  refine w_il1 (n := 2) dX12_goAll_1 rfl ?_
  refine w_il3 (n := 3) dX12_goAll_2 rfl ?_
  refine w_cV2 (n := 6) pl_104 cl_12 s0_X12_notActs k_X12_297 (Nat.le_of_ble_eq_true rfl) dX12_goAll_3 rfl (r_notActs hE hI ?_)
  refine w_is4 (n := 8) dX12_goAll_6 rfl rfl (by decide) ?_
  refine w_il4 (n := 10) dX12_goAll_8 rfl ?_
  refine w_if_eq (n := 13) 16 dX12_goAll_10 (by decide) rfl (fun z10_h => ?_) (fun z10_h => ?_)
  · skip
    refine w_iconst (n := 17) (nI 0) dX12_goAll_16 (by decide) rfl ?_
    refine w_is5 (n := 19) dX12_goAll_17 rfl rfl (by decide) ?_
    refine w_iconst (n := 20) (nI 0) dX12_goAll_19 (by decide) rfl ?_
    refine w_is6 (n := 22) dX12_goAll_20 rfl rfl (by decide) ?_
    have hz := z10_h
    have ez := ef_na_0 z10_h
    rw [show kf_goAll K E s i n = kf_ga E (tN s) i (tN n) 0 (nI 0) K from if_pos z10_h] at hq
    rw [z10_h]
    have e1_h := ez.1.1
    have e2_h := ez.2.1
    have l1_h := ez.1.2
    have l2_h := ez.2.2
    clear ez z10_h hz
    generalize tN s = s0_h at *
    generalize tN n = n0_h at *
    subst e1_h e2_h
    exact r_gaL hI (by omega) l2_h hq (n0_h + 1) 0 (nI 0) K M _ (by omega) (by omega) (Or.inl rfl) hK hE dk_fr.rf rfl
  · skip
    refine w_il4 (n := 15) dX12_goAll_13 rfl ?_
    refine w_retI dX12_goAll_15 rfl ?_
    exact dk_fin hq (if_neg z10_h) hK dk_fr.rf

set_option maxRecDepth 20000 in
theorem c_refusal {d : Nat} {M : dk_Mem} {Q : Option Value → dk_Mem → Prop} {E : sg_E} (hE : cE E M) (hI : eI E) {s n : Int32} (hq : Q (some (.int (ef_na E s n))) M) : dk_Call (d + 2) mX11_refusalOfActs [.ref 0, .int s, .int n] M Q := by
  refine dk_enter [some (.ref 0), some (.int s), some (.int n)] (by decide) (fun _ => rfl) (fun _ => Nat.le_of_ble_eq_true rfl) ?_
  refine w_il1 (n := 1) dX11_refusalOfActs_0 rfl ?_
  refine w_iconst (n := 2) (nI 0) dX11_refusalOfActs_1 (by decide) rfl ?_
  refine w_iconst (n := 3) (nI 3) dX11_refusalOfActs_2 (by decide) rfl ?_
  refine w_cS3 (n := 6) s0_X11_within k_X11_112 (Nat.le_of_ble_eq_true rfl) dX11_refusalOfActs_3 rfl (c_within (fun t3_h => ?_) (fun t3_h => ?_))
  · skip
    refine w_if_eq (n := 9) 19 dX11_refusalOfActs_6 (by decide) rfl (fun h => absurd h (by decide)) (fun _ => ?_)
    refine w_il2 (n := 10) dX11_refusalOfActs_9 rfl ?_
    refine w_iconst (n := 11) (nI 0) dX11_refusalOfActs_10 (by decide) rfl ?_
    refine w_bipush (n := 13) (nI 20) dX11_refusalOfActs_11 (by decide) rfl ?_
    refine w_cS3 (n := 16) s0_X11_within k_X11_112 (Nat.le_of_ble_eq_true rfl) dX11_refusalOfActs_13 rfl (c_within (fun t13_h => ?_) (fun t13_h => ?_))
    · skip
      refine w_if_ne (n := 19) 21 dX11_refusalOfActs_16 (by decide) rfl (fun _ => ?_) (fun h => absurd h (by decide))
      have hs := tN_of (n := 3) (by decide) t3_h.1 t3_h.2
      have hsr := hI.srt (s := tN s) (by omega)
      have e9_h : ef_na E s n = if E (20 + tN s) < 0 then -11 else if E (20 + tN s) = 0 then nI 0 else -13 := if_pos ⟨t3_h, t13_h⟩
      rw [e9_h] at hq
      clear e9_h
      refine w_al0 (n := 22) dX11_refusalOfActs_21 rfl ?_
      refine g_R (n := 25) f_X11_86_11 pl_0 rf_0_11 dX11_refusalOfActs_22 rfl ?_
      refine w_il1 (n := 26) dX11_refusalOfActs_25 rfl ?_
      refine i_iald (n := 27) pl_95 (j := tN s) hs.1 (by omega) (by decide) (hE.2.1 _ (by omega)).1 dX11_refusalOfActs_26 rfl ?_
      refine w_iconst (n := 28) (-1) dX11_refusalOfActs_27 (by decide) rfl ?_
      refine w_ic_ne (n := 31) 34 dX11_refusalOfActs_28 (by decide) rfl (fun z28_h => ?_) (fun z28_h => ?_)
      · skip
        refine w_al0 (n := 35) dX11_refusalOfActs_34 rfl ?_
        refine g_R (n := 38) f_X11_86_11 pl_0 rf_0_11 dX11_refusalOfActs_35 rfl ?_
        refine w_il1 (n := 39) dX11_refusalOfActs_38 rfl ?_
        refine i_iald (n := 40) pl_95 (j := tN s) hs.1 (by omega) (by decide) (hE.2.1 _ (by omega)).1 dX11_refusalOfActs_39 rfl ?_
        refine w_if_ne (n := 43) 47 dX11_refusalOfActs_40 (by decide) rfl (fun z40_h => ?_) (fun z40_h => ?_)
        · skip
          refine w_bipush (n := 49) (-13) dX11_refusalOfActs_47 (by decide) rfl ?_
          refine w_retI dX11_refusalOfActs_49 rfl ?_
          rw [if_neg (show ¬ E (20 + tN s) < 0 by rcases hsr with z | z; exact absurd z.1 z28_h; exact z.2.2)] at hq
          first | (rw [if_pos z40_h] at hq; exact hq) | (rw [if_neg z40_h] at hq; exact hq)
        · skip
          refine w_iconst (n := 44) (nI 0) dX11_refusalOfActs_43 (by decide) rfl ?_
          refine w_goto 49 dX11_refusalOfActs_44 (by decide) ?_
          refine w_retI dX11_refusalOfActs_49 rfl ?_
          rw [if_neg (show ¬ E (20 + tN s) < 0 by rcases hsr with z | z; exact absurd z.1 z28_h; exact z.2.2)] at hq
          first | (rw [if_pos z40_h] at hq; exact hq) | (rw [if_neg z40_h] at hq; exact hq)
      · skip
        refine w_bipush (n := 33) (-11) dX11_refusalOfActs_31 (by decide) rfl ?_
        refine w_retI dX11_refusalOfActs_33 rfl ?_
        rw [if_pos (show E (20 + tN s) < 0 by rcases hsr with z | z; exact z.2; exact absurd z28_h z.1)] at hq
        exact hq
    · skip
      refine w_if_ne (n := 19) 21 dX11_refusalOfActs_16 (by decide) rfl (fun h => absurd h (by decide)) (fun _ => ?_)
      refine w_iconst (n := 20) (-1) dX11_refusalOfActs_19 (by decide) rfl ?_
      refine w_retI dX11_refusalOfActs_20 rfl ?_
      rw [show ef_na E s n = -1 from if_neg (fun z => by first | exact t3_h z.1 | exact t13_h z.2)] at hq
      exact hq
  · skip
    refine w_if_eq (n := 9) 19 dX11_refusalOfActs_6 (by decide) rfl (fun _ => ?_) (fun h => absurd (by decide) h)
    refine w_iconst (n := 20) (-1) dX11_refusalOfActs_19 (by decide) rfl ?_
    refine w_retI dX11_refusalOfActs_20 rfl ?_
    rw [show ef_na E s n = -1 from if_neg (fun z => by first | exact t3_h z.1 | exact t13_h z.2)] at hq
    exact hq

set_option maxRecDepth 20000 in
theorem c_gaL {d : Nat} {M : dk_Mem} {Q : Option Value → dk_Mem → Prop} {E : sg_E} (hI : eI E) {s N : Nat} (hs4_h : s < 4) (hN : N ≤ 20) {i : Int32} {T0 : Int32 × sg_K} (hq : ∀ M2, cK T0.2 M2 → dk_fr cA M M2 → Q (some (.int T0.1)) M2) : ∀ (n k : Nat) (a : Int32) (K : sg_K) (M1 : dk_Mem) (x7_h : Option Value), k ≤ N → N - k < n → cK K M1 → cE E M1 → dk_fr cA M M1 → kf_ga E s i (N - k) k a K = T0 → dk_W (d + 8) mX11_goAll 22 [some (.ref 0), some (.int (nI s)), some (.int i), some (.int (nI N)), some (.int (nI 0)), some (.int a), some (.int (nI k)), x7_h] [] M1 Q := by
  have sl := sl_ar s hs4_h
  have hm : dk_mo 22 := Or.inl rfl
  intro n
  induction n with
  | zero => intro k _ _ _ _ _ h; omega
  | succ n ih =>
    intro k a K M1 x7_h hi hn hK hE hf he
    obtain ⟨⟨o, -⟩, hs, hc, -⟩ := id hK
    have o4_h := o.2.2.2.1
    refine w_il6 (n := 24) dX11_goAll_22 rfl ?_
    refine w_il3 (n := 25) dX11_goAll_24 rfl ?_
    refine w_ic_ge (n := 28) 109 dX11_goAll_25 (by decide) rfl (fun z25_h => ?_) (fun z25_h => ?_)
    · skip
      refine w_il5 (n := 111) dX11_goAll_109 rfl ?_
      refine w_retI dX11_goAll_111 rfl ?_
      rw [show N - k = 0 by rw [q_le (by omega) (by omega)] at z25_h; omega] at he
      subst he
      exact hq M1 hK hf
    · skip
      have hk : k < N := by rw [q_le (by omega) (by omega)] at z25_h; omega
      rw [show N - k = (N - (k + 1)) + 1 by omega] at he
      refine w_il2 (n := 29) dX11_goAll_28 rfl ?_
      refine w_iconst (n := 30) (nI 0) dX11_goAll_29 (by decide) rfl ?_
      refine w_al0 (n := 31) dX11_goAll_30 rfl ?_
      refine g_R (n := 34) f_X11_90_11 pl_0 rf_0_12 dX11_goAll_31 rfl ?_
      refine w_il1 (n := 35) dX11_goAll_34 rfl ?_
      refine i_iald (n := 36) pl_96 (j := s) rfl hs4_h (by decide) (hE.2.1 _ hs4_h).2.1 dX11_goAll_35 rfl ?_
      refine w_iconst (n := 37) (nI 1) dX11_goAll_36 (by decide) rfl ?_
      refine w_isub (n := 38) dX11_goAll_37 rfl ?_
      refine w_il6 (n := 40) dX11_goAll_38 rfl ?_
      refine w_isub (n := 41) dX11_goAll_40 rfl ?_
      refine w_cS3 (n := 44) s0_X11_within k_X11_112 (Nat.le_of_ble_eq_true rfl) dX11_goAll_41 rfl (c_within (fun t41_h => ?_) (fun t41_h => ?_))
      · skip
        refine w_if_ne (n := 47) 50 dX11_goAll_44 (by decide) rfl (fun _ => ?_) (fun h => absurd h (by decide))
        have hpl := (q_plc (hI.2.1 s hs4_h).2.1 (k := k) (by omega)).mp t41_h
        have hpos := q_lpos (k := 0) (by omega) t41_h.1
        have hz2_h := (hI.2.1 s hs4_h).2.1.2
        have hlt := hpl.2
        have ix : i + nI k = nI (tN i + k) := by
          have e2_h := hpos.2.2
          generalize tN i = b at *
          rw [e2_h, nI_add]
        refine w_al0 (n := 51) dX11_goAll_50 rfl ?_
        refine g_R (n := 54) f_X11_93_11 pl_0 rf_0_13 dX11_goAll_51 rfl ?_
        refine w_il1 (n := 55) dX11_goAll_54 rfl ?_
        refine i_aaldI (n := 56) pl_97 (j := s) rfl hs4_h (by decide) sl.2.2.1 dX11_goAll_55 rfl ?_
        refine w_il2 (n := 57) dX11_goAll_56 rfl ?_
        refine w_il6 (n := 59) dX11_goAll_57 rfl ?_
        refine w_iadd (n := 60) dX11_goAll_59 rfl ?_
        refine i_iald (n := 61) sl.1 (j := tN i + k) ix (by omega) (by decide) ((hE.2.1 _ hs4_h).2.2 _ (by omega)) dX11_goAll_60 rfl ?_
        generalize hgc : E (300 + (40 * s + (tN i + k))) = c at *
        refine w_is7 (n := 63) dX11_goAll_61 rfl rfl (by decide) ?_
        refine w_al0 (n := 64) dX11_goAll_63 rfl ?_
        refine g_R (n := 67) f_X11_36_11 pl_0 rf_0_1 dX11_goAll_64 rfl ?_
        refine w_il7 (n := 69) dX11_goAll_67 rfl ?_
        refine w_cV1 (n := 72) pl_14 cl_10 s0_X10_isAct k_X11_316 (Nat.le_of_ble_eq_true rfl) dX11_goAll_69 rfl (c10_isAct hs.count (fun t69_h => ?_) (fun t69_h => ?_))
        · skip
          refine w_if_eq (n := 75) 103 dX11_goAll_72 (by decide) rfl (fun h => absurd h (by decide)) (fun _ => ?_)
          refine w_al0 (n := 76) dX11_goAll_75 rfl ?_
          refine g_R (n := 79) f_X11_36_11 pl_0 rf_0_1 dX11_goAll_76 rfl ?_
          refine w_al0 (n := 80) dX11_goAll_79 rfl ?_
          refine g_R (n := 83) f_X11_36_11 pl_0 rf_0_1 dX11_goAll_80 rfl ?_
          refine g_R (n := 86) f_X11_127_10 pl_14 rf_14_9 dX11_goAll_83 rfl ?_
          refine w_cV1 (n := 89) pl_14 cl_10 s0_X10_isOver k_X11_197 (Nat.le_of_ble_eq_true rfl) dX11_goAll_86 rfl (c10_isOver hs o hm hc (fun t86_h => ?_) (fun t86_h => ?_))
          · skip
            refine w_if_ne (n := 92) 103 dX11_goAll_89 (by decide) rfl (fun _ => ?_) (fun h => absurd h (by decide))
            refine w_inc6 (n := 106) (nI 1) dX11_goAll_103 (by decide) rfl rfl (by decide) ?_
            refine w_goto 22 dX11_goAll_106 (by decide) ?_
            rw [nI_add]
            first | (rw [kf_ga_y (E := E) (s := s) (i := i) (k := k) hpl hgc ⟨t69_h, t86_h⟩] at he; exact ih (k + 1) _ _ M3 _ (by omega) (by omega) g1_h (hE.A hI g2_h) (hf.tr g2_h) he) | (rw [kf_ga_n (E := E) (s := s) (i := i) (k := k) (K := K) hpl hgc (fun z => t69_h z.1)] at he; exact ih (k + 1) _ _ M1 _ (by omega) (by omega) hK hE hf he) | (rw [kf_ga_n (E := E) (s := s) (i := i) (k := k) (K := K) hpl hgc (fun z => absurd z.2 (by omega))] at he; exact ih (k + 1) _ _ M1 _ (by omega) (by omega) hK hE hf he)
          · skip
            refine w_if_ne (n := 92) 103 dX11_goAll_89 (by decide) rfl (fun h => absurd h (by decide)) (fun _ => ?_)
            refine w_il5 (n := 94) dX11_goAll_92 rfl ?_
            refine w_al0 (n := 95) dX11_goAll_94 rfl ?_
            refine w_il7 (n := 97) dX11_goAll_95 rfl ?_
            have ac := sg_ac o4_h t69_h
            have hax := ac.1
            rw [hax]
            have hen := sg_ot_act (tN c)
            rw [← hen]
            refine w_cV1 (n := 100) pl_0 cl_11 s0_X11_goOn k_X11_219 (Nat.le_of_ble_eq_true rfl) dX11_goAll_97 rfl (c_goOn hK ac.2.2.1 t86_h (fun M3 g1_h g2_h => ?_))
            refine w_iadd (n := 101) dX11_goAll_100 rfl ?_
            refine w_is5 (n := 103) dX11_goAll_101 rfl rfl (by decide) ?_
            refine w_inc6 (n := 106) (nI 1) dX11_goAll_103 (by decide) rfl rfl (by decide) ?_
            refine w_goto 22 dX11_goAll_106 (by decide) ?_
            rw [nI_add]
            first | (rw [kf_ga_y (E := E) (s := s) (i := i) (k := k) hpl hgc ⟨t69_h, t86_h⟩] at he; exact ih (k + 1) _ _ M3 _ (by omega) (by omega) g1_h (hE.A hI g2_h) (hf.tr g2_h) he) | (rw [kf_ga_n (E := E) (s := s) (i := i) (k := k) (K := K) hpl hgc (fun z => t69_h z.1)] at he; exact ih (k + 1) _ _ M1 _ (by omega) (by omega) hK hE hf he) | (rw [kf_ga_n (E := E) (s := s) (i := i) (k := k) (K := K) hpl hgc (fun z => absurd z.2 (by omega))] at he; exact ih (k + 1) _ _ M1 _ (by omega) (by omega) hK hE hf he)
        · skip
          refine w_if_eq (n := 75) 103 dX11_goAll_72 (by decide) rfl (fun _ => ?_) (fun h => absurd (by decide) h)
          refine w_inc6 (n := 106) (nI 1) dX11_goAll_103 (by decide) rfl rfl (by decide) ?_
          refine w_goto 22 dX11_goAll_106 (by decide) ?_
          rw [nI_add]
          first | (rw [kf_ga_y (E := E) (s := s) (i := i) (k := k) hpl hgc ⟨t69_h, t86_h⟩] at he; exact ih (k + 1) _ _ M3 _ (by omega) (by omega) g1_h (hE.A hI g2_h) (hf.tr g2_h) he) | (rw [kf_ga_n (E := E) (s := s) (i := i) (k := k) (K := K) hpl hgc (fun z => t69_h z.1)] at he; exact ih (k + 1) _ _ M1 _ (by omega) (by omega) hK hE hf he) | (rw [kf_ga_n (E := E) (s := s) (i := i) (k := k) (K := K) hpl hgc (fun z => absurd z.2 (by omega))] at he; exact ih (k + 1) _ _ M1 _ (by omega) (by omega) hK hE hf he)
      · skip
        refine w_if_ne (n := 47) 50 dX11_goAll_44 (by decide) rfl (fun h => absurd h (by decide)) (fun _ => ?_)
        refine w_bipush (n := 49) (-12) dX11_goAll_47 (by decide) rfl ?_
        refine w_retI dX11_goAll_49 rfl ?_
        rw [kf_ga_o (E := E) (s := s) (i := i) (k := k) (K := K) (fun z => t41_h ((q_plc (hI.2.1 s hs4_h).2.1 (k := k) (by omega)).mpr z))] at he
        subst he
        exact hq M1 hK hf

set_option maxRecDepth 20000 in
theorem C_goAll {d : Nat} {M : dk_Mem} {Q : Option Value → dk_Mem → Prop} {K : sg_K} (hK : cK K M) {E : sg_E} (hE : cE E M) (hI : eI E) {s i n : Int32} (hq : ∀ M2, cK (kf_goAll K E s i n).2 M2 → dk_fr cA M M2 → Q (some (.int (kf_goAll K E s i n).1)) M2) : dk_Call (d + 9) mX11_goAll [.ref 0, .int s, .int i, .int n] M Q := by
  refine dk_enter [some (.ref 0), some (.int s), some (.int i), some (.int n), none, none, none, none] (by decide) (fun _ => rfl) (fun _ => Nat.le_of_ble_eq_true rfl) ?_
  refine w_al0 (n := 1) dX11_goAll_0 rfl ?_
  refine w_il1 (n := 2) dX11_goAll_1 rfl ?_
  refine w_il3 (n := 3) dX11_goAll_2 rfl ?_
  refine w_cV2 (n := 6) pl_0 cl_11 s0_X11_refusalOfActs k_X11_322 (Nat.le_of_ble_eq_true rfl) dX11_goAll_3 rfl (c_refusal hE hI ?_)
  refine w_is4 (n := 8) dX11_goAll_6 rfl rfl (by decide) ?_
  refine w_il4 (n := 10) dX11_goAll_8 rfl ?_
  refine w_if_ge (n := 13) 16 dX11_goAll_10 (by decide) rfl (fun z10_h => ?_) (fun z10_h => ?_)
  · skip
    refine w_iconst (n := 17) (nI 0) dX11_goAll_16 (by decide) rfl ?_
    refine w_is5 (n := 19) dX11_goAll_17 rfl rfl (by decide) ?_
    refine w_iconst (n := 20) (nI 0) dX11_goAll_19 (by decide) rfl ?_
    refine w_is6 (n := 22) dX11_goAll_20 rfl rfl (by decide) ?_
    have ez0_h : ef_na E s n = 0 := Decidable.byContradiction (fun z => absurd (ef_na_lt z) (Int32.not_lt.mpr z10_h))
    have ez := ef_na_0 ez0_h
    rw [show kf_goAll K E s i n = kf_ga E (tN s) i (tN n) 0 (nI 0) K from if_pos ez0_h] at hq
    rw [ez0_h]
    have e1_h := ez.1.1
    have e2_h := ez.2.1
    have l1_h := ez.1.2
    have l2_h := ez.2.2
    clear ez z10_h ez0_h
    generalize tN s = s0_h at *
    generalize tN n = n0_h at *
    subst e1_h e2_h
    exact c_gaL hI (by omega) l2_h hq (n0_h + 1) 0 (nI 0) K M _ (by omega) (by omega) hK hE dk_fr.rf rfl
  · skip
    refine w_il4 (n := 15) dX11_goAll_13 rfl ?_
    refine w_retI dX11_goAll_15 rfl ?_
    exact dk_fin hq (if_neg (fun z => z10_h (by rw [z]; decide))) hK dk_fr.rf

def sg_wb (w : sg_R) (E : sg_E) (s : Nat) (i : Int32) : Nat → Nat → Nat → (Nat → Nat) → Int32
  | 0, _, a, _ => nI a
  | n + 1, k, a, σ => if nI 0 ≤ i ∧ tN i + k < tN (E (24 + s)) then (if (nI 0 ≤ E (300 + (40 * s + (tN i + k))) ∧ E (300 + (40 * s + (tN i + k))) ≤ nI (σ 4)) ∧ σ 1 < σ 0 then sg_wb w E s i n (k + 1) (a + (sg_goes w σ (sg_ot (tN (E (300 + (40 * s + (tN i + k))))))).2) (sg_goes w σ (sg_ot (tN (E (300 + (40 * s + (tN i + k))))))).1 else -4) else -12
theorem sg_wb_o {w : sg_R} {E : sg_E} {s n k a : Nat} {i : Int32} {σ : Nat → Nat} (h : ¬ sg_pl i k (tN (E (24 + s)))) : sg_wb w E s i (n + 1) k a σ = -12 := if_neg h
theorem sg_wb_n {w : sg_R} {E : sg_E} {s n k a : Nat} {i c : Int32} {σ : Nat → Nat} (h : sg_pl i k (tN (E (24 + s)))) (hc : E (300 + (40 * s + (tN i + k))) = c) (h2_h : ¬ ((nI 0 ≤ c ∧ c ≤ nI (σ 4)) ∧ σ 1 < σ 0)) : sg_wb w E s i (n + 1) k a σ = -4 := by
  subst hc
  rw [sg_wb]
  exact (if_pos h).trans (if_neg h2_h)
theorem sg_wb_y {w : sg_R} {E : sg_E} {s n k a : Nat} {i c : Int32} {σ : Nat → Nat} (h : sg_pl i k (tN (E (24 + s)))) (hc : E (300 + (40 * s + (tN i + k))) = c) (h2_h : (nI 0 ≤ c ∧ c ≤ nI (σ 4)) ∧ σ 1 < σ 0) : sg_wb w E s i (n + 1) k a σ = sg_wb w E s i n (k + 1) (a + (sg_goes w σ (sg_ot (tN c))).2) (sg_goes w σ (sg_ot (tN c))).1 := by
  subst hc
  rw [sg_wb]
  exact (if_pos h).trans (if_pos h2_h)
def kf_wb (K : sg_K) (E : sg_E) (s i n : Int32) : Int32 := if ef_na E s n = 0 then sg_wb K.2.1 E (tN s) i (tN n) 0 0 K.1 else ef_na E s n

set_option maxRecDepth 20000 in
theorem r_wbX12 {d : Nat} {Q : Option Value → dk_Mem → Prop} {s N k : Nat} {i a : Int32} {M1 : dk_Mem} {x7_h x8_h : Option Value} (hq : Q (some (.int (-12))) (dk_row M1 105 (dk_cp (M1.1 107) (M1.1 105) 621))) : dk_W (d + 8) mX12_wouldBe 26 [some (.ref 104), some (.int (nI s)), some (.int i), some (.int (nI N)), some (.int (-12)), some (.int (a)), some (.int (nI k)), x7_h, x8_h] [] M1 Q := by
  refine w_il6 (n := 28) dX12_wouldBe_26 rfl ?_
  refine w_il3 (n := 29) dX12_wouldBe_28 rfl ?_
  refine w_ic_ge (n := 32) 144 dX12_wouldBe_29 (by decide) rfl (fun z29_h => ?_) (fun z29_h => ?_)
  · skip
    refine w_al0 (n := 145) dX12_wouldBe_144 rfl ?_
    refine w_cV0 (n := 148) pl_104 cl_12 s0_X12_putsBack k_X12_202 (Nat.le_of_ble_eq_true rfl) dX12_wouldBe_145 rfl (r_putsBack ?_)
    refine w_il4 (n := 150) dX12_wouldBe_148 rfl ?_
    refine w_if_ne (n := 153) 158 dX12_wouldBe_150 (by decide) rfl (fun _ => ?_) (fun h => absurd h (by decide))
    refine w_il4 (n := 160) dX12_wouldBe_158 rfl ?_
    refine w_retI dX12_wouldBe_160 rfl ?_
    exact hq
  · skip
    refine w_il4 (n := 34) dX12_wouldBe_32 rfl ?_
    refine w_if_ne (n := 37) 144 dX12_wouldBe_34 (by decide) rfl (fun _ => ?_) (fun h => absurd h (by decide))
    refine w_al0 (n := 145) dX12_wouldBe_144 rfl ?_
    refine w_cV0 (n := 148) pl_104 cl_12 s0_X12_putsBack k_X12_202 (Nat.le_of_ble_eq_true rfl) dX12_wouldBe_145 rfl (r_putsBack ?_)
    refine w_il4 (n := 150) dX12_wouldBe_148 rfl ?_
    refine w_if_ne (n := 153) 158 dX12_wouldBe_150 (by decide) rfl (fun _ => ?_) (fun h => absurd h (by decide))
    refine w_il4 (n := 160) dX12_wouldBe_158 rfl ?_
    refine w_retI dX12_wouldBe_160 rfl ?_
    exact hq

set_option maxRecDepth 20000 in
theorem r_wbX4 {d : Nat} {Q : Option Value → dk_Mem → Prop} {s N k : Nat} {i a : Int32} {M1 : dk_Mem} {x7_h x8_h : Option Value} (hq : Q (some (.int (-4))) (dk_row M1 105 (dk_cp (M1.1 107) (M1.1 105) 621))) : dk_W (d + 8) mX12_wouldBe 26 [some (.ref 104), some (.int (nI s)), some (.int i), some (.int (nI N)), some (.int (-4)), some (.int (a)), some (.int (nI k)), x7_h, x8_h] [] M1 Q := by
  refine w_il6 (n := 28) dX12_wouldBe_26 rfl ?_
  refine w_il3 (n := 29) dX12_wouldBe_28 rfl ?_
  refine w_ic_ge (n := 32) 144 dX12_wouldBe_29 (by decide) rfl (fun z29_h => ?_) (fun z29_h => ?_)
  · skip
    refine w_al0 (n := 145) dX12_wouldBe_144 rfl ?_
    refine w_cV0 (n := 148) pl_104 cl_12 s0_X12_putsBack k_X12_202 (Nat.le_of_ble_eq_true rfl) dX12_wouldBe_145 rfl (r_putsBack ?_)
    refine w_il4 (n := 150) dX12_wouldBe_148 rfl ?_
    refine w_if_ne (n := 153) 158 dX12_wouldBe_150 (by decide) rfl (fun _ => ?_) (fun h => absurd h (by decide))
    refine w_il4 (n := 160) dX12_wouldBe_158 rfl ?_
    refine w_retI dX12_wouldBe_160 rfl ?_
    exact hq
  · skip
    refine w_il4 (n := 34) dX12_wouldBe_32 rfl ?_
    refine w_if_ne (n := 37) 144 dX12_wouldBe_34 (by decide) rfl (fun _ => ?_) (fun h => absurd h (by decide))
    refine w_al0 (n := 145) dX12_wouldBe_144 rfl ?_
    refine w_cV0 (n := 148) pl_104 cl_12 s0_X12_putsBack k_X12_202 (Nat.le_of_ble_eq_true rfl) dX12_wouldBe_145 rfl (r_putsBack ?_)
    refine w_il4 (n := 150) dX12_wouldBe_148 rfl ?_
    refine w_if_ne (n := 153) 158 dX12_wouldBe_150 (by decide) rfl (fun _ => ?_) (fun h => absurd h (by decide))
    refine w_il4 (n := 160) dX12_wouldBe_158 rfl ?_
    refine w_retI dX12_wouldBe_160 rfl ?_
    exact hq

set_option maxRecDepth 20000 in
theorem r_wbL {d : Nat} {M : dk_Mem} {Q : Option Value → dk_Mem → Prop} {w : sg_R} {nr : Nat} {f g : Nat → Int32} {E : sg_E} (hI : eI E) (hb : rb w nr f) {s N : Nat} (hs : s < 4) (hN : N ≤ 20) {i : Int32} {T0 : Int32} (hq : ∀ M1, dk_fr rG M M1 → rW g M1 → Q (some (.int T0)) (dk_row M1 105 (dk_cp (M1.1 107) (M1.1 105) 621))) : ∀ (n k a : Nat) (σ : Nat → Nat) (M1 : dk_Mem) (x7_h x8_h : Option Value), k ≤ N → N - k < n → (k = 0 ∨ nI 0 ≤ i) → sg_ok σ → σ 6 = nr → rr σ M1 → rT f M1 → dk_fr rG M M1 → rW g M1 → rE E M1 → sg_wb w E s i (N - k) k a σ = T0 → dk_W (d + 8) mX12_wouldBe 26 [some (.ref 104), some (.int (nI s)), some (.int i), some (.int (nI N)), some (.int (nI 0)), some (.int (nI a)), some (.int (nI k)), x7_h, x8_h] [] M1 Q := by
  intro n
  induction n with
  | zero => intro k _ _ _ _ _ _ h; omega
  | succ n ih =>
    intro k a σ M1 x7_h x8_h hi hn hik o hs6_h hr hT hf hW hE he
    subst hs6_h
    have o4_h := o.2.2.2.1
    have o16_h := o.2.1
    refine w_il6 (n := 28) dX12_wouldBe_26 rfl ?_
    refine w_il3 (n := 29) dX12_wouldBe_28 rfl ?_
    refine w_ic_ge (n := 32) 144 dX12_wouldBe_29 (by decide) rfl (fun z29_h => ?_) (fun z29_h => ?_)
    · skip
      refine w_al0 (n := 145) dX12_wouldBe_144 rfl ?_
      refine w_cV0 (n := 148) pl_104 cl_12 s0_X12_putsBack k_X12_202 (Nat.le_of_ble_eq_true rfl) dX12_wouldBe_145 rfl (r_putsBack ?_)
      refine w_il4 (n := 150) dX12_wouldBe_148 rfl ?_
      refine w_if_ne (n := 153) 158 dX12_wouldBe_150 (by decide) rfl (fun h => absurd h (by decide)) (fun _ => ?_)
      refine w_il5 (n := 155) dX12_wouldBe_153 rfl ?_
      refine w_goto 160 dX12_wouldBe_155 (by decide) ?_
      refine w_retI dX12_wouldBe_160 rfl ?_
      rw [show N - k = 0 by rw [q_le (by omega) (by omega)] at z29_h; omega] at he
      rw [show T0 = nI a from he.symm] at hq
      exact hq M1 hf hW
    · skip
      have hk : k < N := by rw [q_le (by omega) (by omega)] at z29_h; omega
      rw [show N - k = (N - (k + 1)) + 1 by omega] at he
      refine w_il4 (n := 34) dX12_wouldBe_32 rfl ?_
      refine w_if_ne (n := 37) 144 dX12_wouldBe_34 (by decide) rfl (fun h => absurd h (by decide)) (fun _ => ?_)
      refine w_al0 (n := 38) dX12_wouldBe_37 rfl ?_
      refine w_il1 (n := 39) dX12_wouldBe_38 rfl ?_
      refine w_il2 (n := 40) dX12_wouldBe_39 rfl ?_
      refine w_i2l (n := 41) dX12_wouldBe_40 rfl ?_
      refine w_il6 (n := 43) dX12_wouldBe_41 rfl ?_
      refine w_i2l (n := 44) dX12_wouldBe_43 rfl ?_
      refine w_ladd (n := 45) dX12_wouldBe_44 rfl ?_
      refine w_cV2 (n := 48) pl_104 cl_12 s0_X12_isPlace k_X12_300 (Nat.le_of_ble_eq_true rfl) dX12_wouldBe_45 rfl (r_isPlace hE hI hs (by omega) hik (fun t45_h => ?_) (fun t45_h => ?_))
      · skip
        refine w_is7 (n := 50) dX12_wouldBe_48 rfl rfl (by decide) ?_
        refine w_il7 (n := 52) dX12_wouldBe_50 rfl ?_
        refine w_if_eq (n := 55) 73 dX12_wouldBe_52 (by decide) rfl (fun h => absurd h (by decide)) (fun _ => ?_)
        have hz := (hI.2.1 s hs).2.1
        have hpos := q_lpos (k := 0) (by omega) t45_h.1
        have hlt := t45_h.2
        have hz2_h := hz.2
        have ix : nI 40 * nI s + i + nI k = nI (40 * s + (tN i + k)) := by
          have e2_h := hpos.2.2
          generalize tN i = b at *
          rw [e2_h, pk_mul, nI_add, nI_add, Nat.add_assoc]
        refine w_al0 (n := 56) dX12_wouldBe_55 rfl ?_
        refine g_R (n := 59) f_X12_41_12 pl_104 rf_104_24 dX12_wouldBe_56 rfl ?_
        refine w_bipush (n := 61) (nI 40) dX12_wouldBe_59 (by decide) rfl ?_
        refine w_il1 (n := 62) dX12_wouldBe_61 rfl ?_
        refine w_imul (n := 63) dX12_wouldBe_62 rfl ?_
        refine w_il2 (n := 64) dX12_wouldBe_63 rfl ?_
        refine w_iadd (n := 65) dX12_wouldBe_64 rfl ?_
        refine w_il6 (n := 67) dX12_wouldBe_65 rfl ?_
        refine w_iadd (n := 68) dX12_wouldBe_67 rfl ?_
        refine i_lald (n := 69) pl_115 (j := 40 * s + (tN i + k)) ix (by omega) (by decide) (hE.2 _ (by omega)) dX12_wouldBe_68 rfl ?_
        refine w_l2i (n := 70) dX12_wouldBe_69 rfl ?_
        rw [Int32.toInt32_toInt64]
        generalize hgc : E (300 + (40 * s + (tN i + k))) = c at *
        refine w_goto 74 dX12_wouldBe_70 (by decide) ?_
        refine w_is8 (n := 76) dX12_wouldBe_74 rfl rfl (by decide) ?_
        refine w_il7 (n := 78) dX12_wouldBe_76 rfl ?_
        refine w_if_ne (n := 81) 86 dX12_wouldBe_78 (by decide) rfl (fun _ => ?_) (fun h => absurd h (by decide))
        refine w_al0 (n := 87) dX12_wouldBe_86 rfl ?_
        refine w_cV0 (n := 90) pl_104 cl_12 s0_X12_isOver k_X12_121 (Nat.le_of_ble_eq_true rfl) dX12_wouldBe_87 rfl (r_isOver hr o (fun t87_h => ?_) (fun t87_h => ?_))
        · skip
          refine w_if_ne (n := 93) 108 dX12_wouldBe_90 (by decide) rfl (fun _ => ?_) (fun h => absurd h (by decide))
          refine w_bipush (n := 110) (-4) dX12_wouldBe_108 (by decide) rfl ?_
          refine w_goto 114 dX12_wouldBe_110 (by decide) ?_
          refine w_is4 (n := 116) dX12_wouldBe_114 rfl rfl (by decide) ?_
          refine w_il5 (n := 118) dX12_wouldBe_116 rfl ?_
          refine w_il4 (n := 120) dX12_wouldBe_118 rfl ?_
          refine w_if_ne (n := 123) 134 dX12_wouldBe_120 (by decide) rfl (fun _ => ?_) (fun h => absurd h (by decide))
          refine w_iconst (n := 135) (nI 0) dX12_wouldBe_134 (by decide) rfl ?_
          refine w_iadd (n := 136) dX12_wouldBe_135 rfl ?_
          refine w_is5 (n := 138) dX12_wouldBe_136 rfl rfl (by decide) ?_
          refine w_inc6 (n := 141) (nI 1) dX12_wouldBe_138 (by decide) rfl rfl (by decide) ?_
          refine w_goto 26 dX12_wouldBe_141 (by decide) ?_
          first | (rw [sg_wb_o (w := w) (E := E) (s := s) (i := i) (k := k) (σ := σ) t45_h] at he; exact r_wbX12 (by rw [he]; exact hq M1 hf hW)) | (rw [sg_wb_n (w := w) (E := E) (s := s) (i := i) (k := k) (σ := σ) t45_h hgc (fun z => t102_h z.1)] at he; exact r_wbX4 (by rw [he]; exact hq M1 hf hW)) | (rw [sg_wb_n (w := w) (E := E) (s := s) (i := i) (k := k) (σ := σ) t45_h hgc (fun z => absurd z.2 (by omega))] at he; exact r_wbX4 (by rw [he]; exact hq M1 hf hW)) | (rw [sg_wb_y (w := w) (E := E) (s := s) (i := i) (k := k) (σ := σ) t45_h hgc ⟨t102_h, t87_h⟩] at he; rw [nI_add, nI_add]; exact ih (k + 1) _ _ M2 _ _ (by omega) (by omega) (Or.inr t45_h.1) (o.goes (fun h e => by have := ac.2.2.1 h e; omega) (by omega)) (sg_goes_o (by omega) (by omega)) g1_h (hT.fr g2_h) (hf.tr g2_h) (hW.fr g2_h nG7) (hE.G g2_h) he)
        · skip
          refine w_if_ne (n := 93) 108 dX12_wouldBe_90 (by decide) rfl (fun h => absurd h (by decide)) (fun _ => ?_)
          refine w_il8 (n := 95) dX12_wouldBe_93 rfl ?_
          refine w_iconst (n := 96) (nI 0) dX12_wouldBe_95 (by decide) rfl ?_
          refine w_al0 (n := 97) dX12_wouldBe_96 rfl ?_
          refine g_R (n := 100) f_X12_9_12 pl_104 rf_104_0 dX12_wouldBe_97 rfl ?_
          refine w_iconst (n := 101) (nI 4) dX12_wouldBe_100 (by decide) rfl ?_
          refine i_iald (n := 102) pl_105 (j := 4) rfl (by decide) (by decide) (hr 4 (by decide) (by decide) (by decide)) dX12_wouldBe_101 rfl ?_
          refine w_cS3 (n := 105) s0_X12_in k_X12_61 (Nat.le_of_ble_eq_true rfl) dX12_wouldBe_102 rfl (r_in (fun t102_h => ?_) (fun t102_h => ?_))
          · skip
            refine w_if_ne (n := 108) 113 dX12_wouldBe_105 (by decide) rfl (fun _ => ?_) (fun h => absurd h (by decide))
            refine w_iconst (n := 114) (nI 0) dX12_wouldBe_113 (by decide) rfl ?_
            refine w_is4 (n := 116) dX12_wouldBe_114 rfl rfl (by decide) ?_
            refine w_il5 (n := 118) dX12_wouldBe_116 rfl ?_
            refine w_il4 (n := 120) dX12_wouldBe_118 rfl ?_
            refine w_if_ne (n := 123) 134 dX12_wouldBe_120 (by decide) rfl (fun h => absurd h (by decide)) (fun _ => ?_)
            refine w_al0 (n := 124) dX12_wouldBe_123 rfl ?_
            refine w_il8 (n := 126) dX12_wouldBe_124 rfl ?_
            refine w_iconst (n := 127) (nI 1) dX12_wouldBe_126 (by decide) rfl ?_
            refine w_isub (n := 128) dX12_wouldBe_127 rfl ?_
            have ac := sg_ac o4_h t102_h
            rw [ac.2.2.2]
            refine w_cV1 (n := 131) pl_104 cl_12 s0_X12_goes k_X12_226 (Nat.le_of_ble_eq_true rfl) dX12_wouldBe_128 rfl (r_goes hr o (fun h e => by have := ac.2.2.1 h e; omega) hb hT (fun M2 g1_h g2_h g3_h => ?_))
            refine w_goto 135 dX12_wouldBe_131 (by decide) ?_
            refine w_iadd (n := 136) dX12_wouldBe_135 rfl ?_
            refine w_is5 (n := 138) dX12_wouldBe_136 rfl rfl (by decide) ?_
            refine w_inc6 (n := 141) (nI 1) dX12_wouldBe_138 (by decide) rfl rfl (by decide) ?_
            refine w_goto 26 dX12_wouldBe_141 (by decide) ?_
            first | (rw [sg_wb_o (w := w) (E := E) (s := s) (i := i) (k := k) (σ := σ) t45_h] at he; exact r_wbX12 (by rw [he]; exact hq M1 hf hW)) | (rw [sg_wb_n (w := w) (E := E) (s := s) (i := i) (k := k) (σ := σ) t45_h hgc (fun z => t102_h z.1)] at he; exact r_wbX4 (by rw [he]; exact hq M1 hf hW)) | (rw [sg_wb_n (w := w) (E := E) (s := s) (i := i) (k := k) (σ := σ) t45_h hgc (fun z => absurd z.2 (by omega))] at he; exact r_wbX4 (by rw [he]; exact hq M1 hf hW)) | (rw [sg_wb_y (w := w) (E := E) (s := s) (i := i) (k := k) (σ := σ) t45_h hgc ⟨t102_h, t87_h⟩] at he; rw [nI_add, nI_add]; exact ih (k + 1) _ _ M2 _ _ (by omega) (by omega) (Or.inr t45_h.1) (o.goes (fun h e => by have := ac.2.2.1 h e; omega) (by omega)) (sg_goes_o (by omega) (by omega)) g1_h (hT.fr g2_h) (hf.tr g2_h) (hW.fr g2_h nG7) (hE.G g2_h) he)
          · skip
            refine w_if_ne (n := 108) 113 dX12_wouldBe_105 (by decide) rfl (fun h => absurd h (by decide)) (fun _ => ?_)
            refine w_bipush (n := 110) (-4) dX12_wouldBe_108 (by decide) rfl ?_
            refine w_goto 114 dX12_wouldBe_110 (by decide) ?_
            refine w_is4 (n := 116) dX12_wouldBe_114 rfl rfl (by decide) ?_
            refine w_il5 (n := 118) dX12_wouldBe_116 rfl ?_
            refine w_il4 (n := 120) dX12_wouldBe_118 rfl ?_
            refine w_if_ne (n := 123) 134 dX12_wouldBe_120 (by decide) rfl (fun _ => ?_) (fun h => absurd h (by decide))
            refine w_iconst (n := 135) (nI 0) dX12_wouldBe_134 (by decide) rfl ?_
            refine w_iadd (n := 136) dX12_wouldBe_135 rfl ?_
            refine w_is5 (n := 138) dX12_wouldBe_136 rfl rfl (by decide) ?_
            refine w_inc6 (n := 141) (nI 1) dX12_wouldBe_138 (by decide) rfl rfl (by decide) ?_
            refine w_goto 26 dX12_wouldBe_141 (by decide) ?_
            first | (rw [sg_wb_o (w := w) (E := E) (s := s) (i := i) (k := k) (σ := σ) t45_h] at he; exact r_wbX12 (by rw [he]; exact hq M1 hf hW)) | (rw [sg_wb_n (w := w) (E := E) (s := s) (i := i) (k := k) (σ := σ) t45_h hgc (fun z => t102_h z.1)] at he; exact r_wbX4 (by rw [he]; exact hq M1 hf hW)) | (rw [sg_wb_n (w := w) (E := E) (s := s) (i := i) (k := k) (σ := σ) t45_h hgc (fun z => absurd z.2 (by omega))] at he; exact r_wbX4 (by rw [he]; exact hq M1 hf hW)) | (rw [sg_wb_y (w := w) (E := E) (s := s) (i := i) (k := k) (σ := σ) t45_h hgc ⟨t102_h, t87_h⟩] at he; rw [nI_add, nI_add]; exact ih (k + 1) _ _ M2 _ _ (by omega) (by omega) (Or.inr t45_h.1) (o.goes (fun h e => by have := ac.2.2.1 h e; omega) (by omega)) (sg_goes_o (by omega) (by omega)) g1_h (hT.fr g2_h) (hf.tr g2_h) (hW.fr g2_h nG7) (hE.G g2_h) he)
      · skip
        refine w_is7 (n := 50) dX12_wouldBe_48 rfl rfl (by decide) ?_
        refine w_il7 (n := 52) dX12_wouldBe_50 rfl ?_
        refine w_if_eq (n := 55) 73 dX12_wouldBe_52 (by decide) rfl (fun _ => ?_) (fun h => absurd (by decide) h)
        refine w_iconst (n := 74) (nI 0) dX12_wouldBe_73 (by decide) rfl ?_
        refine w_is8 (n := 76) dX12_wouldBe_74 rfl rfl (by decide) ?_
        refine w_il7 (n := 78) dX12_wouldBe_76 rfl ?_
        refine w_if_ne (n := 81) 86 dX12_wouldBe_78 (by decide) rfl (fun h => absurd h (by decide)) (fun _ => ?_)
        refine w_bipush (n := 83) (-12) dX12_wouldBe_81 (by decide) rfl ?_
        refine w_goto 114 dX12_wouldBe_83 (by decide) ?_
        refine w_is4 (n := 116) dX12_wouldBe_114 rfl rfl (by decide) ?_
        refine w_il5 (n := 118) dX12_wouldBe_116 rfl ?_
        refine w_il4 (n := 120) dX12_wouldBe_118 rfl ?_
        refine w_if_ne (n := 123) 134 dX12_wouldBe_120 (by decide) rfl (fun _ => ?_) (fun h => absurd h (by decide))
        refine w_iconst (n := 135) (nI 0) dX12_wouldBe_134 (by decide) rfl ?_
        refine w_iadd (n := 136) dX12_wouldBe_135 rfl ?_
        refine w_is5 (n := 138) dX12_wouldBe_136 rfl rfl (by decide) ?_
        refine w_inc6 (n := 141) (nI 1) dX12_wouldBe_138 (by decide) rfl rfl (by decide) ?_
        refine w_goto 26 dX12_wouldBe_141 (by decide) ?_
        first | (rw [sg_wb_o (w := w) (E := E) (s := s) (i := i) (k := k) (σ := σ) t45_h] at he; exact r_wbX12 (by rw [he]; exact hq M1 hf hW)) | (rw [sg_wb_n (w := w) (E := E) (s := s) (i := i) (k := k) (σ := σ) t45_h hgc (fun z => t102_h z.1)] at he; exact r_wbX4 (by rw [he]; exact hq M1 hf hW)) | (rw [sg_wb_n (w := w) (E := E) (s := s) (i := i) (k := k) (σ := σ) t45_h hgc (fun z => absurd z.2 (by omega))] at he; exact r_wbX4 (by rw [he]; exact hq M1 hf hW)) | (rw [sg_wb_y (w := w) (E := E) (s := s) (i := i) (k := k) (σ := σ) t45_h hgc ⟨t102_h, t87_h⟩] at he; rw [nI_add, nI_add]; exact ih (k + 1) _ _ M2 _ _ (by omega) (by omega) (Or.inr t45_h.1) (o.goes (fun h e => by have := ac.2.2.1 h e; omega) (by omega)) (sg_goes_o (by omega) (by omega)) g1_h (hT.fr g2_h) (hf.tr g2_h) (hW.fr g2_h nG7) (hE.G g2_h) he)

set_option maxRecDepth 20000 in
theorem R_wouldBe {d : Nat} {M : dk_Mem} {Q : Option Value → dk_Mem → Prop} {K : sg_K} (hK : rK K M) {E : sg_E} (hE : rE E M) (hI : eI E) {s i n : Int32} (hq : ∀ M2, dk_fr rN M M2 → Q (some (.int (kf_wb K E s i n))) M2) : dk_Call (d + 9) mX12_wouldBe [.ref 104, .int s, .int i, .int n] M Q := by
  have hK0 := hK
  obtain ⟨⟨o, p1_h, p2_h, p3_h⟩, hr, ⟨f, hb, hT⟩, hsc, hz⟩ := hK0
  have o4_h := o.2.2.2.1
  have o16_h := o.2.1
  refine dk_enter [some (.ref 104), some (.int s), some (.int i), some (.int n), none, none, none, none, none] (by decide) (fun _ => rfl) (fun _ => Nat.le_of_ble_eq_true rfl) ?_
  refine w_al0 (n := 1) dX12_wouldBe_0 rfl ?_
  refine w_il1 (n := 2) dX12_wouldBe_1 rfl ?_
  refine w_il3 (n := 3) dX12_wouldBe_2 rfl ?_
  refine w_cV2 (n := 6) pl_104 cl_12 s0_X12_notActs k_X12_297 (Nat.le_of_ble_eq_true rfl) dX12_wouldBe_3 rfl (r_notActs hE hI ?_)
  refine w_is4 (n := 8) dX12_wouldBe_6 rfl rfl (by decide) ?_
  refine w_il4 (n := 10) dX12_wouldBe_8 rfl ?_
  refine w_if_eq (n := 13) 16 dX12_wouldBe_10 (by decide) rfl (fun z10_h => ?_) (fun z10_h => ?_)
  · skip
    refine w_al0 (n := 17) dX12_wouldBe_16 rfl ?_
    refine w_cV0 (n := 20) pl_104 cl_12 s0_X12_thinks k_X12_196 (Nat.le_of_ble_eq_true rfl) dX12_wouldBe_17 rfl (r_thinks ?_)
    refine w_iconst (n := 21) (nI 0) dX12_wouldBe_20 (by decide) rfl ?_
    refine w_is5 (n := 23) dX12_wouldBe_21 rfl rfl (by decide) ?_
    refine w_iconst (n := 24) (nI 0) dX12_wouldBe_23 (by decide) rfl ?_
    refine w_is6 (n := 26) dX12_wouldBe_24 rfl rfl (by decide) ?_
    have ez := ef_na_0 z10_h
    rw [show kf_wb K E s i n = sg_wb K.2.1 E (tN s) i (tN n) 0 0 K.1 from if_pos z10_h] at hq
    rw [z10_h]
    have e1_h := ez.1.1
    have e2_h := ez.2.1
    have l1_h := ez.1.2
    have l2_h := ez.2.2
    clear ez z10_h
    generalize tN s = s0_h at *
    generalize tN n = n0_h at *
    subst e1_h e2_h
    have hf1_h := rN_thinks (M := M)
    exact r_wbL hI hb (by omega) l2_h (g := M.1 105) (fun M1 g1_h g2_h => hq _ (hf1_h.tr (r_back g1_h g2_h (fun k hk => ((hf1_h.2 105 k (by rintro (z | z | z | z | z) <;> omega))).symm)))) (n0_h + 1) 0 0 K.1 _ _ _ (by omega) (by omega) (Or.inl rfl) o rfl (hr.N hf1_h) (hT.N hf1_h) dk_fr.rf (fun k hk => by rw [dk_row_at]; exact if_pos hk) (hE.N hf1_h) rfl
  · skip
    refine w_il4 (n := 15) dX12_wouldBe_13 rfl ?_
    refine w_retI dX12_wouldBe_15 rfl ?_
    rw [show kf_wb K E s i n = ef_na E s n from if_neg z10_h] at hq
    exact hq M dk_fr.rf

set_option maxRecDepth 20000 in
theorem c_wbL {d : Nat} {M : dk_Mem} {Q : Option Value → dk_Mem → Prop} {w : sg_R} {E : sg_E} (hI : eI E) {s N : Nat} (hs4_h : s < 4) (hN : N ≤ 20) {i : Int32} {T0 : Int32} (hq : ∀ M1, dk_fr cN M M1 → Q (some (.int T0)) M1) : ∀ (n k a : Nat) (σ : Nat → Nat) (M1 : dk_Mem) (x7_h : Option Value), k ≤ N → N - k < n → sg_ok σ → cs σ M1 → cm 79 σ M1 → cbb w M1 → dk_fr cN M M1 → cE E M1 → sg_wb w E s i (N - k) k a σ = T0 → dk_W (d + 8) mX11_wouldBe 36 [some (.ref 0), some (.int (nI s)), some (.int i), some (.int (nI N)), some (.int (nI 0)), some (.int (nI a)), some (.int (nI k)), x7_h] [] M1 Q := by
  have sl := sl_ar s hs4_h
  have hm9_h : dk_mo 79 := cK.m9
  intro n
  induction n with
  | zero => intro k _ _ _ _ _ h; omega
  | succ n ih =>
    intro k a σ M1 x7_h hi hn o hs hc hb hf hE he
    have o4_h := o.2.2.2.1
    have o16_h := o.2.1
    refine w_il6 (n := 38) dX11_wouldBe_36 rfl ?_
    refine w_il3 (n := 39) dX11_wouldBe_38 rfl ?_
    refine w_ic_ge (n := 42) 130 dX11_wouldBe_39 (by decide) rfl (fun z39_h => ?_) (fun z39_h => ?_)
    · skip
      refine w_il5 (n := 132) dX11_wouldBe_130 rfl ?_
      refine w_retI dX11_wouldBe_132 rfl ?_
      rw [show N - k = 0 by rw [q_le (by omega) (by omega)] at z39_h; omega] at he
      rw [show T0 = nI a from he.symm] at hq
      exact hq M1 hf
    · skip
      have hk : k < N := by rw [q_le (by omega) (by omega)] at z39_h; omega
      rw [show N - k = (N - (k + 1)) + 1 by omega] at he
      refine w_il2 (n := 43) dX11_wouldBe_42 rfl ?_
      refine w_iconst (n := 44) (nI 0) dX11_wouldBe_43 (by decide) rfl ?_
      refine w_al0 (n := 45) dX11_wouldBe_44 rfl ?_
      refine g_R (n := 48) f_X11_90_11 pl_0 rf_0_12 dX11_wouldBe_45 rfl ?_
      refine w_il1 (n := 49) dX11_wouldBe_48 rfl ?_
      refine i_iald (n := 50) pl_96 (j := s) rfl hs4_h (by decide) (hE.2.1 _ hs4_h).2.1 dX11_wouldBe_49 rfl ?_
      refine w_iconst (n := 51) (nI 1) dX11_wouldBe_50 (by decide) rfl ?_
      refine w_isub (n := 52) dX11_wouldBe_51 rfl ?_
      refine w_il6 (n := 54) dX11_wouldBe_52 rfl ?_
      refine w_isub (n := 55) dX11_wouldBe_54 rfl ?_
      refine w_cS3 (n := 58) s0_X11_within k_X11_112 (Nat.le_of_ble_eq_true rfl) dX11_wouldBe_55 rfl (c_within (fun t55_h => ?_) (fun t55_h => ?_))
      · skip
        refine w_if_ne (n := 61) 64 dX11_wouldBe_58 (by decide) rfl (fun _ => ?_) (fun h => absurd h (by decide))
        have hpl := (q_plc (hI.2.1 s hs4_h).2.1 (k := k) (by omega)).mp t55_h
        have hpos := q_lpos (k := 0) (by omega) t55_h.1
        have hz2_h := (hI.2.1 s hs4_h).2.1.2
        have hlt := hpl.2
        have ix : i + nI k = nI (tN i + k) := by
          have e2_h := hpos.2.2
          generalize tN i = b at *
          rw [e2_h, nI_add]
        refine w_al0 (n := 65) dX11_wouldBe_64 rfl ?_
        refine g_R (n := 68) f_X11_93_11 pl_0 rf_0_13 dX11_wouldBe_65 rfl ?_
        refine w_il1 (n := 69) dX11_wouldBe_68 rfl ?_
        refine i_aaldI (n := 70) pl_97 (j := s) rfl hs4_h (by decide) sl.2.2.1 dX11_wouldBe_69 rfl ?_
        refine w_il2 (n := 71) dX11_wouldBe_70 rfl ?_
        refine w_il6 (n := 73) dX11_wouldBe_71 rfl ?_
        refine w_iadd (n := 74) dX11_wouldBe_73 rfl ?_
        refine i_iald (n := 75) sl.1 (j := tN i + k) ix (by omega) (by decide) ((hE.2.1 _ hs4_h).2.2 _ (by omega)) dX11_wouldBe_74 rfl ?_
        generalize hgc : E (300 + (40 * s + (tN i + k))) = c at *
        refine w_is7 (n := 77) dX11_wouldBe_75 rfl rfl (by decide) ?_
        refine w_al0 (n := 78) dX11_wouldBe_77 rfl ?_
        refine g_R (n := 81) f_X11_36_11 pl_0 rf_0_1 dX11_wouldBe_78 rfl ?_
        refine w_il7 (n := 83) dX11_wouldBe_81 rfl ?_
        refine w_cV1 (n := 86) pl_14 cl_10 s0_X10_isAct k_X11_316 (Nat.le_of_ble_eq_true rfl) dX11_wouldBe_83 rfl (c10_isAct hs.count (fun t83_h => ?_) (fun t83_h => ?_))
        · skip
          refine w_if_eq (n := 89) 103 dX11_wouldBe_86 (by decide) rfl (fun h => absurd h (by decide)) (fun _ => ?_)
          refine w_al0 (n := 90) dX11_wouldBe_89 rfl ?_
          refine g_R (n := 93) f_X11_36_11 pl_0 rf_0_1 dX11_wouldBe_90 rfl ?_
          refine w_al0 (n := 94) dX11_wouldBe_93 rfl ?_
          refine g_R (n := 97) f_X11_59_11 pl_0 rf_0_5 dX11_wouldBe_94 rfl ?_
          refine w_cV1 (n := 100) pl_14 cl_10 s0_X10_isOver k_X11_197 (Nat.le_of_ble_eq_true rfl) dX11_wouldBe_97 rfl (c10_isOver hs o hm9_h hc (fun t97_h => ?_) (fun t97_h => ?_))
          · skip
            refine w_if_eq (n := 103) 106 dX11_wouldBe_100 (by decide) rfl (fun h => absurd h (by decide)) (fun _ => ?_)
            refine w_bipush (n := 105) (-4) dX11_wouldBe_103 (by decide) rfl ?_
            refine w_retI dX11_wouldBe_105 rfl ?_
            first | (rw [sg_wb_n (w := w) (E := E) (s := s) (i := i) (k := k) (σ := σ) hpl hgc (fun z => t83_h z.1)] at he; subst he; exact hq M1 hf) | (rw [sg_wb_n (w := w) (E := E) (s := s) (i := i) (k := k) (σ := σ) hpl hgc (fun z => absurd z.2 (by omega))] at he; subst he; exact hq M1 hf)
          · skip
            refine w_if_eq (n := 103) 106 dX11_wouldBe_100 (by decide) rfl (fun _ => ?_) (fun h => absurd (by decide) h)
            refine w_il5 (n := 108) dX11_wouldBe_106 rfl ?_
            refine w_al0 (n := 109) dX11_wouldBe_108 rfl ?_
            refine g_R (n := 112) f_X11_36_11 pl_0 rf_0_1 dX11_wouldBe_109 rfl ?_
            refine w_al0 (n := 113) dX11_wouldBe_112 rfl ?_
            refine g_R (n := 116) f_X11_59_11 pl_0 rf_0_5 dX11_wouldBe_113 rfl ?_
            refine w_il7 (n := 118) dX11_wouldBe_116 rfl ?_
            have ac := sg_ac o4_h t83_h
            have hax := ac.1
            rw [hax]
            have hen := sg_ot_act (tN c)
            rw [← hen]
            refine w_cV2 (n := 121) pl_14 cl_10 s0_X10_passYear k_X11_241 (Nat.le_of_ble_eq_true rfl) dX11_wouldBe_118 rfl (c10_py hs o hm9_h hc ac.2.2.1 hb (fun M3 g1_h g2_h => ?_))
            refine w_iadd (n := 122) dX11_wouldBe_121 rfl ?_
            refine w_is5 (n := 124) dX11_wouldBe_122 rfl rfl (by decide) ?_
            refine w_inc6 (n := 127) (nI 1) dX11_wouldBe_124 (by decide) rfl rfl (by decide) ?_
            refine w_goto 36 dX11_wouldBe_127 (by decide) ?_
            rw [sg_wb_y (w := w) (E := E) (s := s) (i := i) (k := k) (σ := σ) hpl hgc ⟨t83_h, t97_h⟩] at he
            rw [nI_add, nI_add]
            exact ih (k + 1) _ _ M3 _ (by omega) (by omega) (o.goes (fun h e => by have := ac.2.2.1 h e; omega) (by omega)) ((hs.X hm9_h g2_h).eqv sg_eqv.goes) g1_h (hb.X hm9_h g2_h) (hf.tr (cX79 g2_h)) (hE.fr hI g2_h (fun q k z => by unfold cX at z; unfold cXX; omega)) he
        · skip
          refine w_if_eq (n := 89) 103 dX11_wouldBe_86 (by decide) rfl (fun _ => ?_) (fun h => absurd (by decide) h)
          refine w_bipush (n := 105) (-4) dX11_wouldBe_103 (by decide) rfl ?_
          refine w_retI dX11_wouldBe_105 rfl ?_
          first | (rw [sg_wb_n (w := w) (E := E) (s := s) (i := i) (k := k) (σ := σ) hpl hgc (fun z => t83_h z.1)] at he; subst he; exact hq M1 hf) | (rw [sg_wb_n (w := w) (E := E) (s := s) (i := i) (k := k) (σ := σ) hpl hgc (fun z => absurd z.2 (by omega))] at he; subst he; exact hq M1 hf)
      · skip
        refine w_if_ne (n := 61) 64 dX11_wouldBe_58 (by decide) rfl (fun h => absurd h (by decide)) (fun _ => ?_)
        refine w_bipush (n := 63) (-12) dX11_wouldBe_61 (by decide) rfl ?_
        refine w_retI dX11_wouldBe_63 rfl ?_
        rw [sg_wb_o (w := w) (E := E) (s := s) (i := i) (k := k) (σ := σ) (fun z => t55_h ((q_plc (hI.2.1 s hs4_h).2.1 (k := k) (by omega)).mpr z))] at he
        subst he
        exact hq M1 hf

set_option maxRecDepth 20000 in
theorem C_wouldBe {d : Nat} {M : dk_Mem} {Q : Option Value → dk_Mem → Prop} {K : sg_K} (hK : cK K M) {E : sg_E} (hE : cE E M) (hI : eI E) {s i n : Int32} (hq : ∀ M2, dk_fr cN M M2 → Q (some (.int (kf_wb K E s i n))) M2) : dk_Call (d + 9) mX11_wouldBe [.ref 0, .int s, .int i, .int n] M Q := by
  have hK0 := hK
  obtain ⟨⟨o, p1_h, p2_h, p3_h⟩, hs, hc, hb, hcr, hsc, hz, β, hβ, hβ1, hβ2⟩ := hK0
  have o4_h := o.2.2.2.1
  have o16_h := o.2.1
  have hm : dk_mo 22 := Or.inl rfl
  have hm9_h : dk_mo 79 := cK.m9
  refine dk_enter [some (.ref 0), some (.int s), some (.int i), some (.int n), none, none, none, none] (by decide) (fun _ => rfl) (fun _ => Nat.le_of_ble_eq_true rfl) ?_
  refine w_al0 (n := 1) dX11_wouldBe_0 rfl ?_
  refine w_il1 (n := 2) dX11_wouldBe_1 rfl ?_
  refine w_il3 (n := 3) dX11_wouldBe_2 rfl ?_
  refine w_cV2 (n := 6) pl_0 cl_11 s0_X11_refusalOfActs k_X11_322 (Nat.le_of_ble_eq_true rfl) dX11_wouldBe_3 rfl (c_refusal hE hI ?_)
  refine w_is4 (n := 8) dX11_wouldBe_6 rfl rfl (by decide) ?_
  refine w_il4 (n := 10) dX11_wouldBe_8 rfl ?_
  refine w_if_ge (n := 13) 16 dX11_wouldBe_10 (by decide) rfl (fun z10_h => ?_) (fun z10_h => ?_)
  · skip
    refine w_al0 (n := 17) dX11_wouldBe_16 rfl ?_
    refine g_R (n := 20) f_X11_59_11 pl_0 rf_0_5 dX11_wouldBe_17 rfl ?_
    refine w_al0 (n := 21) dX11_wouldBe_20 rfl ?_
    refine g_R (n := 24) f_X11_36_11 pl_0 rf_0_1 dX11_wouldBe_21 rfl ?_
    refine g_R (n := 27) f_X11_127_10 pl_14 rf_14_9 dX11_wouldBe_24 rfl ?_
    refine w_cV1 (n := 30) pl_79 cl_4 s0_X4_take k_X11_233 (Nat.le_of_ble_eq_true rfl) dX11_wouldBe_27 rfl (c4_take hm9_h hm (by decide) hc o4_h (fun M2 k1_h k2_h => ?_))
    have f0_h : dk_fr cN M M2 := k2_h.up (fun q k z => by unfold cN; omega)
    have hs0_h : cs _ M2 := hs.fr f0_h (fun q k _ _ z => by unfold cN at z; omega)
    have hb0_h : cbb _ M2 := hb.fr f0_h (fun q k z => Or.inr (Or.inr z))
    refine w_iconst (n := 31) (nI 0) dX11_wouldBe_30 (by decide) rfl ?_
    refine w_is5 (n := 33) dX11_wouldBe_31 rfl rfl (by decide) ?_
    refine w_iconst (n := 34) (nI 0) dX11_wouldBe_33 (by decide) rfl ?_
    refine w_is6 (n := 36) dX11_wouldBe_34 rfl rfl (by decide) ?_
    have ez0_h : ef_na E s n = 0 := Decidable.byContradiction (fun z => absurd (ef_na_lt z) (Int32.not_lt.mpr z10_h))
    have ez := ef_na_0 ez0_h
    rw [show kf_wb K E s i n = sg_wb K.2.1 E (tN s) i (tN n) 0 0 K.1 from if_pos ez0_h] at hq
    rw [ez0_h]
    have e1_h := ez.1.1
    have e2_h := ez.2.1
    have l1_h := ez.1.2
    have l2_h := ez.2.2
    clear ez z10_h ez0_h
    generalize tN s = s0_h at *
    generalize tN n = n0_h at *
    subst e1_h e2_h
    exact c_wbL hI (by omega) l2_h (fun M1 g => hq M1 (f0_h.tr g)) (n0_h + 1) 0 0 K.1 M2 _ (by omega) (by omega) o hs0_h k1_h hb0_h dk_fr.rf (hE.A hI (cN_A f0_h)) rfl
  · skip
    refine w_il4 (n := 15) dX11_wouldBe_13 rfl ?_
    refine w_retI dX11_wouldBe_15 rfl ?_
    rw [show kf_wb K E s i n = ef_na E s n from if_neg (fun z => z10_h (by rw [z]; decide))] at hq
    exact hq M dk_fr.rf
