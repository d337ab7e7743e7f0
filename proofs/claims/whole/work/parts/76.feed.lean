/-! ===== feed ===== -/
def eB (x : Int64) (k : Nat) : Int32 := ((x >>> ((nI (8 * k)).toInt64 &&& 63)) &&& 255).toInt32
theorem q_byte (y : Int64) : eN ((y &&& 255).toInt32) 255 ∧ ((y &&& 255).toInt32).toInt8.toInt32 = y.toInt32.toInt8.toInt32 := by
  constructor
  · have e : y &&& 255 = lN ((y.toBitVec &&& 255#64).toNat) := by
      apply Int64.toBitVec_inj.mp
      rw [Int64.toBitVec_and]
      show _ = (Int64.ofNat _).toBitVec
      rw [Int64.toBitVec_ofNat']
      simp
    have l : (y.toBitVec &&& 255#64).toNat ≤ 255 := by
      rw [BitVec.toNat_and]
      exact Nat.and_le_right
    rw [e, lN_i]
    exact eN_i l (by decide)
  · rw [Int64.toInt8_toInt32, Int64.toInt8_toInt32, Int64.toInt8_and, show (255 : Int64).toInt8 = -1 from rfl, Int8.and_neg_one]
def eFd (E : sg_E) (x : Int64) : Nat → sg_E
  | 0 => E
  | k + 1 => eU (eU (eFd E x k) (81 + (tN (E 80) + k)) (eB x k)) 80 (nI (tN (E 80) + (k + 1)))
theorem eFd_80 {E : sg_E} (hI : eI E) {x : Int64} : ∀ k, eFd E x k 80 = nI (tN (E 80) + k)
  | 0 => hI.2.2.2.1.1
  | k + 1 => eU_s
theorem eFd_o {E : sg_E} {x : Int64} {j : Nat} (hj : j < 80 ∨ 300 ≤ j) : ∀ k, tN (E 80) + k ≤ 200 → eFd E x k j = E j
  | 0, _ => rfl
  | k + 1, h => by
    rw [eFd, eU_n (by omega), eU_n (by omega)]
    exact eFd_o hj k (by omega)
def ef_feed (E : sg_E) (x : Int64) (n : Int32) : Int32 × sg_E := if nI 1 ≤ n ∧ n ≤ nI 8 then (if tN (E 80) + tN n ≤ 200 then (nI (tN (E 80) + tN n), eFd E x (tN n)) else (-2, E)) else (-1, E)
theorem eI.fd1 {E : sg_E} (hI : eI E) {a v : Int32} {j : Nat} (hj : j < 200) (ha : eN a 200) (hv : eN v 255) : eI (eU (eU E (81 + j) v) 80 a) := by
  obtain ⟨h1_h, h2_h, h3_h, h4_h, h5_h⟩ := hI
  refine ⟨?_, fun s hs => ?_, ?_, ?_, fun i hi => ?_⟩
  · rw [eU_n (by omega), eU_n (by omega)]; exact h1_h
  · rw [eU_n (by omega), eU_n (by omega), eU_n (by omega), eU_n (by omega), eU_n (by omega), eU_n (by omega), eU_n (by omega), eU_n (by omega)]; exact h2_h s hs
  · rw [eU_n (by omega), eU_n (by omega)]; exact h3_h
  · rw [eU_s]; exact ha
  · rw [eU_n (by omega)]
    by_cases e : i = j
    · rw [e, eU_s]; exact hv
    · rw [eU_n (by omega)]; exact h5_h i hi
theorem eI.fd {E : sg_E} (hI : eI E) {x : Int64} : ∀ k, tN (E 80) + k ≤ 200 → eI (eFd E x k)
  | 0, _ => hI
  | k + 1, h => (eI.fd hI k (by omega)).fd1 (by omega) (eN_i h (by decide)) (q_byte _).1
theorem cE.fd {E : sg_E} {M : dk_Mem} {x : Int64} {k : Nat} (hI : eI E) (hk : tN (E 80) + (k + 1) ≤ 200) (h : cE (eFd E x k) M) : cE (eFd E x (k + 1)) (dk_put (dk_put M 81 (tN (E 80) + k) (x >>> ((nI (8 * k)).toInt64 &&& 63)).toInt32.toInt8.toInt32) 0 7 (nI (tN (E 80) + (k + 1)))) := by
  have hI2 := hI.fd (x := x) k (by omega)
  have em : ∀ (v w : Int32) q j, q ≠ 81 → ¬ (q = 0 ∧ j = 7) → (dk_put (dk_put M 81 (tN (E 80) + k) v) 0 7 w).1 q j = M.1 q j := fun v w q j a b => by rw [dk_put_k (by omega), dk_put_k (by omega)]
  have ee : ∀ j, j < 80 ∨ 300 ≤ j → eFd E x (k + 1) j = eFd E x k j := fun j hj => by rw [eFd, eU_n (by omega), eU_n (by omega)]
  refine ⟨h.1.fr hI2 (fun j hj => ee j (by omega)) (fun q k z => em _ _ q k (by omega) (by omega)), h.2.1.fr (fun j hj => ee j (by omega)) (fun q k z => em _ _ q k (by omega) (by omega)), h.2.2.1.fr (fun j hj => ee j (by omega)) (fun q k z => em _ _ q k (by omega) (by omega)), h.2.2.2.1.fr hI2 (fun j hj => ee j (by omega)) (fun q k z => em _ _ q k (by omega) (by omega)), ?_, fun i hi => ?_⟩
  · rw [dk_put_s, eFd_80 hI]
  · rw [eFd_80 hI, tN_nI (by omega)] at hi
    rw [dk_put_k (by omega)]
    by_cases e : i = tN (E 80) + k
    · rw [e, dk_put_s, eFd, eU_n (by omega), eU_s]
      exact (q_byte _).2.symm
    · rw [dk_put_k (by omega), eFd, eU_n (by omega), eU_n (by omega)]
      exact h.2.2.2.2.2 i (by rw [eFd_80 hI, tN_nI (by omega)]; omega)

set_option maxRecDepth 20000 in
theorem r_feL {d : Nat} {M : dk_Mem} {Q : Option Value → dk_Mem → Prop} {E : sg_E} (hI : eI E) {x : Int64} {N : Nat} (hN : N ≤ 8) (hz : tN (E 80) + N ≤ 200) (hq : ∀ M2, rE (eFd E x N) M2 → dk_fe rX M M2 → Q (some (.int (nI (tN (E 80) + N)))) M2) : ∀ (n k : Nat) (M1 : dk_Mem), k ≤ N → N - k < n → rE (eFd E x k) M1 → dk_fe rX M M1 → dk_W d mX12_feed 30 [some (.ref 104), some (.long x), none, some (.int (nI N)), some (.int (nI k))] [] M1 Q := by
  have h80_h := hI.2.2.2.1
  intro n
  induction n with
  | zero => intro k _ _ h; omega
  | succ n ih =>
    intro k M1 hi hn hE hf
    refine w_il4 (n := 32) dX12_feed_30 rfl ?_
    refine w_il3 (n := 33) dX12_feed_32 rfl ?_
    refine w_ic_ge (n := 36) 73 dX12_feed_33 (by decide) rfl (fun z33_h => ?_) (fun z33_h => ?_)
    · skip
      refine w_al0 (n := 74) dX12_feed_73 rfl ?_
      refine g_I (n := 77) f_X12_131_12 pl_104 dX12_feed_74 rfl ?_
      have e80_h : M1.1 104 5 = nI (tN (E 80) + k) := (hE.1 _ _ _ eL_80).trans (eFd_80 hI k)
      rw [e80_h]
      refine w_retI dX12_feed_77 rfl ?_
      rw [q_le (by omega) (by omega)] at z33_h
      have e : k = N := by omega
      subst e
      exact hq M1 hE hf
    · skip
      have hk : k < N := by rw [q_le (by omega) (by omega)] at z33_h; omega
      have e80_h : M1.1 104 5 = nI (tN (E 80) + k) := (hE.1 _ _ _ eL_80).trans (eFd_80 hI k)
      refine w_al0 (n := 37) dX12_feed_36 rfl ?_
      refine g_R (n := 40) f_X12_19_12 pl_104 rf_104_4 dX12_feed_37 rfl ?_
      refine w_al0 (n := 41) dX12_feed_40 rfl ?_
      refine g_I (n := 44) f_X12_131_12 pl_104 dX12_feed_41 rfl ?_
      rw [e80_h]
      refine w_ll1 (n := 45) dX12_feed_44 rfl ?_
      refine w_bipush (n := 47) (nI 8) dX12_feed_45 (by decide) rfl ?_
      refine w_il4 (n := 49) dX12_feed_47 rfl ?_
      refine w_imul (n := 50) dX12_feed_49 rfl ?_
      rw [pk_mul]
      refine w_lshr (n := 51) dX12_feed_50 rfl ?_
      refine w_ldc2 (n := 54) in_1483 dX12_feed_51 rfl ?_
      refine w_land (n := 55) dX12_feed_54 rfl ?_
      refine w_l2i (n := 56) dX12_feed_55 rfl ?_
      refine i_iast (n := 57) pl_108 (j := tN (E 80) + k) rfl (by omega) (by decide) dX12_feed_56 rfl ?_
      refine w_al0 (n := 58) dX12_feed_57 rfl ?_
      refine w_dup (n := 59) rfl dX12_feed_58 rfl ?_
      refine g_I (n := 62) f_X12_131_12 pl_104 dX12_feed_59 rfl ?_
      rw [dk_put_k (by omega), e80_h]
      refine w_iconst (n := 63) (nI 1) dX12_feed_62 (by decide) rfl ?_
      refine w_iadd (n := 64) dX12_feed_63 rfl ?_
      rw [nI_add, Nat.add_assoc]
      refine p_I (n := 67) f_X12_131_12 pl_104 dX12_feed_64 rfl ?_
      refine w_inc4 (n := 70) (nI 1) dX12_feed_67 (by decide) rfl rfl (by decide) ?_
      refine w_goto 30 dX12_feed_70 (by decide) ?_
      rw [nI_add]
      exact ih (k + 1) _ (by omega) (by omega) ((hE.put (eL_108 (by omega))).put eL_80) ((hf.put (by unfold rX; omega)).put (by unfold rX; omega))

set_option maxRecDepth 20000 in
theorem R_feed {d : Nat} {M : dk_Mem} {Q : Option Value → dk_Mem → Prop} {E : sg_E} (hE : rE E M) (hI : eI E) {x : Int64} {n : Int32} (hq : ∀ M2, rE (ef_feed E x n).2 M2 → dk_fe rX M M2 → Q (some (.int (ef_feed E x n).1)) M2) : dk_Call (d + 1) mX12_feed [.ref 104, .long x, .int n] M Q := by
  refine dk_enter [some (.ref 104), some (.long x), none, some (.int n), none] (by decide) (fun _ => rfl) (fun _ => Nat.le_of_ble_eq_true rfl) ?_
  refine w_il3 (n := 1) dX12_feed_0 rfl ?_
  refine w_iconst (n := 2) (nI 1) dX12_feed_1 (by decide) rfl ?_
  refine w_bipush (n := 4) (nI 8) dX12_feed_2 (by decide) rfl ?_
  refine w_cS3 (n := 7) s0_X12_in k_X12_61 (Nat.le_of_ble_eq_true rfl) dX12_feed_4 rfl (r_in (fun t4_h => ?_) (fun t4_h => ?_))
  · skip
    refine w_if_ne (n := 10) 12 dX12_feed_7 (by decide) rfl (fun _ => ?_) (fun h => absurd h (by decide))
    have h80_h := hI.2.2.2.1
    have hn := tN_of (n := 8) (by decide) (Int32.le_trans (by decide) t4_h.1) t4_h.2
    have e9_h : ef_feed E x n = if tN (E 80) + tN n ≤ 200 then (nI (tN (E 80) + tN n), eFd E x (tN n)) else (-2, E) := if_pos t4_h
    rw [e9_h] at hq
    have en := hn.1
    have ln := hn.2
    clear e9_h hn
    generalize tN n = N at *
    subst en
    refine w_al0 (n := 13) dX12_feed_12 rfl ?_
    refine g_I (n := 16) f_X12_131_12 pl_104 dX12_feed_13 rfl ?_
    rw [hE.1 _ _ _ eL_80, h80_h.1]
    refine w_il3 (n := 17) dX12_feed_16 rfl ?_
    refine w_iadd (n := 18) dX12_feed_17 rfl ?_
    refine w_sipush (n := 21) (nI 200) dX12_feed_18 (by decide) rfl ?_
    rw [nI_add]
    refine w_ic_le (n := 24) 27 dX12_feed_21 (by decide) rfl (fun z21_h => ?_) (fun z21_h => ?_)
    · skip
      refine w_iconst (n := 28) (nI 0) dX12_feed_27 (by decide) rfl ?_
      refine w_is4 (n := 30) dX12_feed_28 rfl rfl (by decide) ?_
      have l2_h := h80_h.2
      rw [q_le (by omega) (by decide)] at z21_h
      rw [if_pos z21_h] at hq
      exact r_feL hI ln z21_h hq (N + 1) 0 M (by omega) (by omega) hE dk_fe.rf
    · skip
      refine w_bipush (n := 26) (-2) dX12_feed_24 (by decide) rfl ?_
      refine w_retI dX12_feed_26 rfl ?_
      have l2_h := h80_h.2
      rw [q_le (by omega) (by decide)] at z21_h
      exact dk_finE hq (if_neg z21_h) hE dk_fe.rf
  · skip
    refine w_if_ne (n := 10) 12 dX12_feed_7 (by decide) rfl (fun h => absurd h (by decide)) (fun _ => ?_)
    refine w_iconst (n := 11) (-1) dX12_feed_10 (by decide) rfl ?_
    refine w_retI dX12_feed_11 rfl ?_
    exact dk_finE hq (if_neg t4_h) hE dk_fe.rf

set_option maxRecDepth 20000 in
theorem c_feL {d : Nat} {M : dk_Mem} {Q : Option Value → dk_Mem → Prop} {E : sg_E} (hI : eI E) {x : Int64} {N : Nat} (hN : N ≤ 8) (hz : tN (E 80) + N ≤ 200) (hq : ∀ M2, cE (eFd E x N) M2 → dk_fr cXX M M2 → Q (some (.int (nI (tN (E 80) + N)))) M2) : ∀ (n k : Nat) (M1 : dk_Mem), k ≤ N → N - k < n → cE (eFd E x k) M1 → dk_fr cXX M M1 → dk_W d mX11_feed 30 [some (.ref 0), some (.long x), none, some (.int (nI N)), some (.int (nI k))] [] M1 Q := by
  have h80_h := hI.2.2.2.1
  intro n
  induction n with
  | zero => intro k _ _ h; omega
  | succ n ih =>
    intro k M1 hi hn hE hf
    refine w_il4 (n := 32) dX11_feed_30 rfl ?_
    refine w_il3 (n := 33) dX11_feed_32 rfl ?_
    refine w_ic_ge (n := 36) 70 dX11_feed_33 (by decide) rfl (fun z33_h => ?_) (fun z33_h => ?_)
    · skip
      refine w_al0 (n := 71) dX11_feed_70 rfl ?_
      refine g_I (n := 74) f_X11_67_11 pl_0 dX11_feed_71 rfl ?_
      have e80_h : M1.1 0 7 = nI (tN (E 80) + k) := hE.2.2.2.2.1.trans (eFd_80 hI k)
      rw [e80_h]
      refine w_retI dX11_feed_74 rfl ?_
      rw [q_le (by omega) (by omega)] at z33_h
      have e : k = N := by omega
      subst e
      exact hq M1 hE hf
    · skip
      have hk : k < N := by rw [q_le (by omega) (by omega)] at z33_h; omega
      have e80_h : M1.1 0 7 = nI (tN (E 80) + k) := hE.2.2.2.2.1.trans (eFd_80 hI k)
      refine w_al0 (n := 37) dX11_feed_36 rfl ?_
      refine g_R (n := 40) f_X11_63_11 pl_0 rf_0_6 dX11_feed_37 rfl ?_
      refine w_al0 (n := 41) dX11_feed_40 rfl ?_
      refine g_I (n := 44) f_X11_67_11 pl_0 dX11_feed_41 rfl ?_
      rw [e80_h]
      refine w_ll1 (n := 45) dX11_feed_44 rfl ?_
      refine w_bipush (n := 47) (nI 8) dX11_feed_45 (by decide) rfl ?_
      refine w_il4 (n := 49) dX11_feed_47 rfl ?_
      refine w_imul (n := 50) dX11_feed_49 rfl ?_
      rw [pk_mul]
      refine w_lshr (n := 51) dX11_feed_50 rfl ?_
      refine w_l2i (n := 52) dX11_feed_51 rfl ?_
      refine w_i2b (n := 53) dX11_feed_52 rfl ?_
      refine i_bast (n := 54) pl_81 (j := tN (E 80) + k) rfl (by omega) (by decide) (by unfold vp_nar; rw [pk_nb]) dX11_feed_53 rfl ?_
      refine w_al0 (n := 55) dX11_feed_54 rfl ?_
      refine w_dup (n := 56) rfl dX11_feed_55 rfl ?_
      refine g_I (n := 59) f_X11_67_11 pl_0 dX11_feed_56 rfl ?_
      rw [dk_put_k (by omega), e80_h]
      refine w_iconst (n := 60) (nI 1) dX11_feed_59 (by decide) rfl ?_
      refine w_iadd (n := 61) dX11_feed_60 rfl ?_
      rw [nI_add, Nat.add_assoc]
      refine p_I (n := 64) f_X11_67_11 pl_0 dX11_feed_61 rfl ?_
      refine w_inc4 (n := 67) (nI 1) dX11_feed_64 (by decide) rfl rfl (by decide) ?_
      refine w_goto 30 dX11_feed_67 (by decide) ?_
      rw [nI_add]
      exact ih (k + 1) _ (by omega) (by omega) (hE.fd hI (by omega)) ((hf.put (by unfold cXX; omega)).put (by unfold cXX; omega))

set_option maxRecDepth 20000 in
theorem C_feed {d : Nat} {M : dk_Mem} {Q : Option Value → dk_Mem → Prop} {E : sg_E} (hE : cE E M) (hI : eI E) {x : Int64} {n : Int32} (hq : ∀ M2, cE (ef_feed E x n).2 M2 → dk_fr cXX M M2 → Q (some (.int (ef_feed E x n).1)) M2) : dk_Call (d + 1) mX11_feed [.ref 0, .long x, .int n] M Q := by
  refine dk_enter [some (.ref 0), some (.long x), none, some (.int n), none] (by decide) (fun _ => rfl) (fun _ => Nat.le_of_ble_eq_true rfl) ?_
  refine w_il3 (n := 1) dX11_feed_0 rfl ?_
  refine w_iconst (n := 2) (nI 1) dX11_feed_1 (by decide) rfl ?_
  refine w_bipush (n := 4) (nI 8) dX11_feed_2 (by decide) rfl ?_
  refine w_cS3 (n := 7) s0_X11_within k_X11_112 (Nat.le_of_ble_eq_true rfl) dX11_feed_4 rfl (c_within (fun t4_h => ?_) (fun t4_h => ?_))
  · skip
    refine w_if_ne (n := 10) 12 dX11_feed_7 (by decide) rfl (fun _ => ?_) (fun h => absurd h (by decide))
    have h80_h := hI.2.2.2.1
    have hn := tN_of (n := 8) (by decide) (Int32.le_trans (by decide) t4_h.1) t4_h.2
    have e9_h : ef_feed E x n = if tN (E 80) + tN n ≤ 200 then (nI (tN (E 80) + tN n), eFd E x (tN n)) else (-2, E) := if_pos t4_h
    rw [e9_h] at hq
    have en := hn.1
    have ln := hn.2
    clear e9_h hn
    generalize tN n = N at *
    subst en
    refine w_al0 (n := 13) dX11_feed_12 rfl ?_
    refine g_I (n := 16) f_X11_67_11 pl_0 dX11_feed_13 rfl ?_
    rw [hE.2.2.2.2.1, h80_h.1]
    refine w_il3 (n := 17) dX11_feed_16 rfl ?_
    refine w_iadd (n := 18) dX11_feed_17 rfl ?_
    refine w_sipush (n := 21) (nI 200) dX11_feed_18 (by decide) rfl ?_
    rw [nI_add]
    refine w_ic_le (n := 24) 27 dX11_feed_21 (by decide) rfl (fun z21_h => ?_) (fun z21_h => ?_)
    · skip
      refine w_iconst (n := 28) (nI 0) dX11_feed_27 (by decide) rfl ?_
      refine w_is4 (n := 30) dX11_feed_28 rfl rfl (by decide) ?_
      have l2_h := h80_h.2
      rw [q_le (by omega) (by decide)] at z21_h
      rw [if_pos z21_h] at hq
      exact c_feL hI ln z21_h hq (N + 1) 0 M (by omega) (by omega) hE dk_fr.rf
    · skip
      refine w_bipush (n := 26) (-2) dX11_feed_24 (by decide) rfl ?_
      refine w_retI dX11_feed_26 rfl ?_
      have l2_h := h80_h.2
      rw [q_le (by omega) (by decide)] at z21_h
      exact dk_fin hq (if_neg z21_h) hE dk_fr.rf
  · skip
    refine w_if_ne (n := 10) 12 dX11_feed_7 (by decide) rfl (fun h => absurd h (by decide)) (fun _ => ?_)
    refine w_iconst (n := 11) (-1) dX11_feed_10 (by decide) rfl ?_
    refine w_retI dX11_feed_11 rfl ?_
    exact dk_fin hq (if_neg t4_h) hE dk_fr.rf
