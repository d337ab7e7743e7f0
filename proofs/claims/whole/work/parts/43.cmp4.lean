theorem sg_l2_z {σ : Nat → Nat} : ∀ n, sg_l2 σ 0 n = (σ, 0)
  | 0 => rfl
  | n + 1 => by
    rw [sg_l2, if_neg (by simp)]
    exact sg_l2_z n
def sg_cn (set : Nat) : Nat → Nat
  | 0 => 0
  | n + 1 => if set.testBit n then sg_cn set n + 1 else sg_cn set n
theorem sg_l2_cn {σ : Nat → Nat} {set : Nat} : ∀ n, (sg_l2 σ set n).2 = sg_cn set n
  | 0 => rfl
  | n + 1 => by
    rw [sg_l2, sg_cn]
    split
    · show (sg_l2 σ set n).2 + 1 = _
      rw [sg_l2_cn n]
    · exact sg_l2_cn n
theorem sg_cn_b : ∀ n, n < 7 → ∀ s, s < 2 ^ n → sg_cn s n = sg_bits s := by decide +kernel
theorem sg_eqv.l2 {σ : Nat → Nat} {set : Nat} (n : Nat) : sg_eqv σ (sg_l2 σ set n).1 := sg_eqv.of (fun j _ h2 h3 => sg_l2_o h2 h3 n)
theorem sg_eqv.l3 {σ : Nat → Nat} (n : Nat) : sg_eqv σ (sg_l3 σ n) := sg_eqv.of (fun j _ h2 _ => sg_l3_o h2 n)
theorem sg_eqv.told {w : sg_R} {σ : Nat → Nat} {t : Option Nat} : sg_eqv σ (sg_told w σ t).1 := by
  cases t with
  | none => exact sg_eqv.rf
  | some h =>
    unfold sg_told
    dsimp only
    split
    · exact sg_eqv.of (fun j _ h2 h3 => sg_tells_o h2 (by omega))
    · exact sg_eqv.rf
theorem cX_f {μ : Nat} (hm : dk_mo μ) : True := trivial
theorem q_m1 {h : Nat} (hh : h < 6) : nI 0 - nI 1 ≠ nI h := by
  rcases (show h = 0 ∨ h = 1 ∨ h = 2 ∨ h = 3 ∨ h = 4 ∨ h = 5 by omega) with rfl | rfl | rfl | rfl | rfl | rfl <;> decide
set_option maxRecDepth 20000 in
theorem c_tipL {d : Nat} {M : dk_Mem} {Q : Option Value → dk_Mem → Prop} {σ : Nat → Nat} (hs : cs σ M) (o : sg_ok σ) {μ : Nat} (hm : dk_mo μ) (hc : cm μ σ M) (hq : dk_W (d + 3) mX10_toppleBent 50 [some (.ref 14), some (.ref μ), some (.int (nI (sg_tip σ (σ 4)))), some (.int (nI (σ 4)))] [] M Q) : ∀ (n k : Nat), k ≤ σ 4 → σ 4 - k < n → dk_W (d + 3) mX10_toppleBent 4 [some (.ref 14), some (.ref μ), some (.int (nI (sg_tip σ k))), some (.int (nI k))] [] M Q := by
  have o4 := o.2.2.2.1
  intro n
  induction n with
  | zero => intro i _ h; omega
  | succ n ih =>
    intro k hi hn
    refine w_il3 (n := 5) dX10_toppleBent_4 rfl ?_
    refine w_al0 (n := 6) dX10_toppleBent_5 rfl ?_
    refine g_I (n := 9) f_X10_9_10 pl_14 dX10_toppleBent_6 rfl ?_
    rw [hs.count]
    refine w_ic_ge (n := 12) 50 dX10_toppleBent_9 (by decide) rfl (fun z9 => ?_) (fun z9 => ?_)
    · skip
      rw [show k = σ 4 by rw [q_le (by omega) (by omega)] at z9; omega]
      exact hq
    · skip
      have hk : k < σ 4 := by rw [q_le (by omega) (by omega)] at z9; omega
      have hk6 : k < 6 := by omega
      have b2 := o.lean hk6
      have b3 := o.bears hk6
      refine w_al1 (n := 13) dX10_toppleBent_12 rfl ?_
      refine w_il3 (n := 14) dX10_toppleBent_13 rfl ?_
      refine w_cV1 (n := 17) hm.is cl_4 s0_X4_isFallen k_X10_125 (Nat.le_of_ble_eq_true rfl) dX10_toppleBent_14 rfl (c4_isFallen hm hc o hk (fun t14 => ?_) (fun t14 => ?_))
      · skip
        refine w_if_ne (n := 20) 44 dX10_toppleBent_17 (by decide) rfl (fun _ => ?_) (fun h => absurd h (by decide))
        refine w_inc3 (n := 47) (nI 1) dX10_toppleBent_44 (by decide) rfl rfl (by decide) ?_
        refine w_goto 4 dX10_toppleBent_47 (by decide) ?_
        rw [nI_add]
        first | (rw [q_set hk6 (sg_tip_lt σ k) (by decide), ← sg_tip_1 ⟨t14, by rw [nI_add, Int32.not_lt, q_le (by omega) (by omega)] at z35; exact z35⟩]; exact ih (k + 1) (by omega) (by omega)) | (rw [← sg_tip_0 (k := k) (fun z => by rw [nI_add, nI_ltI (by omega) (by omega)] at z35; have := z.2; omega)]; exact ih (k + 1) (by omega) (by omega)) | (rw [← sg_tip_0 (k := k) (fun z => by omega)]; exact ih (k + 1) (by omega) (by omega))
      · skip
        refine w_if_ne (n := 20) 44 dX10_toppleBent_17 (by decide) rfl (fun h => absurd h (by decide)) (fun _ => ?_)
        refine w_al1 (n := 21) dX10_toppleBent_20 rfl ?_
        refine g_R (n := 24) f_X10_93_4 hm.is hm.rf dX10_toppleBent_21 rfl ?_
        refine w_il3 (n := 25) dX10_toppleBent_24 rfl ?_
        refine i_iald (n := 26) hm.ar (j := k) rfl hk6 (by decide) (hc.2.2 k hk) dX10_toppleBent_25 rfl ?_
        refine w_al0 (n := 27) dX10_toppleBent_26 rfl ?_
        refine g_R (n := 30) f_X10_25_10 pl_14 rf_14_5 dX10_toppleBent_27 rfl ?_
        refine w_il3 (n := 31) dX10_toppleBent_30 rfl ?_
        refine i_iald (n := 32) pl_18 (j := k) rfl hk6 (by decide) (hs.bears hk) dX10_toppleBent_31 rfl ?_
        refine w_bipush (n := 34) (nI 12) dX10_toppleBent_32 (by decide) rfl ?_
        refine w_iadd (n := 35) dX10_toppleBent_34 rfl ?_
        refine w_ic_lt (n := 38) 44 dX10_toppleBent_35 (by decide) rfl (fun z35 => ?_) (fun z35 => ?_)
        · skip
          refine w_inc3 (n := 47) (nI 1) dX10_toppleBent_44 (by decide) rfl rfl (by decide) ?_
          refine w_goto 4 dX10_toppleBent_47 (by decide) ?_
          rw [nI_add]
          first | (rw [q_set hk6 (sg_tip_lt σ k) (by decide), ← sg_tip_1 ⟨t14, by rw [nI_add, Int32.not_lt, q_le (by omega) (by omega)] at z35; exact z35⟩]; exact ih (k + 1) (by omega) (by omega)) | (rw [← sg_tip_0 (k := k) (fun z => by rw [nI_add, nI_ltI (by omega) (by omega)] at z35; have := z.2; omega)]; exact ih (k + 1) (by omega) (by omega)) | (rw [← sg_tip_0 (k := k) (fun z => by omega)]; exact ih (k + 1) (by omega) (by omega))
        · skip
          refine w_il2 (n := 39) dX10_toppleBent_38 rfl ?_
          refine w_iconst (n := 40) (nI 1) dX10_toppleBent_39 (by decide) rfl ?_
          refine w_il3 (n := 41) dX10_toppleBent_40 rfl ?_
          refine w_ishl (n := 42) dX10_toppleBent_41 rfl ?_
          refine w_ior (n := 43) dX10_toppleBent_42 rfl ?_
          refine w_is2 (n := 44) dX10_toppleBent_43 rfl rfl (by decide) ?_
          refine w_inc3 (n := 47) (nI 1) dX10_toppleBent_44 (by decide) rfl rfl (by decide) ?_
          refine w_goto 4 dX10_toppleBent_47 (by decide) ?_
          rw [nI_add]
          first | (rw [q_set hk6 (sg_tip_lt σ k) (by decide), ← sg_tip_1 ⟨t14, by rw [nI_add, Int32.not_lt, q_le (by omega) (by omega)] at z35; exact z35⟩]; exact ih (k + 1) (by omega) (by omega)) | (rw [← sg_tip_0 (k := k) (fun z => by rw [nI_add, nI_ltI (by omega) (by omega)] at z35; have := z.2; omega)]; exact ih (k + 1) (by omega) (by omega)) | (rw [← sg_tip_0 (k := k) (fun z => by omega)]; exact ih (k + 1) (by omega) (by omega))

set_option maxRecDepth 20000 in
theorem c_tpL {d : Nat} {M : dk_Mem} {Q : Option Value → dk_Mem → Prop} {σ : Nat → Nat} (ot : sg_ok σ) {μ : Nat} (hm : dk_mo μ) {set : Nat} (hset : set < 2 ^ σ 4) (hq : ∀ M2, cm μ (sg_l2 σ set (σ 4)).1 M2 → dk_fr (cX μ) M M2 → Q (some (.int (nI (sg_l2 σ set (σ 4)).2))) M2) : ∀ (n k : Nat) (M1 : dk_Mem), k ≤ σ 4 → σ 4 - k < n → cs σ M1 → cm μ (sg_l2 σ set k).1 M1 → dk_fr (cX μ) M M1 → dk_W (d + 3) mX10_toppleBent 52 [some (.ref 14), some (.ref μ), some (.int (nI set)), some (.int (nI k))] [] M1 Q := by
  have o4 := ot.2.2.2.1
  have h64 : set < 64 := Nat.lt_of_lt_of_le hset (pow6 o4)
  intro n
  induction n with
  | zero => intro i _ _ h; omega
  | succ n ih =>
    intro k M1 hi hn hst hc hf
    have e4 : (sg_l2 σ set k).1 4 = σ 4 := sg_l2_o (by omega) (by omega) k
    have o := ot.l2 (set := set) k
    have hs := hst.eqv (sg_eqv.l2 (set := set) k)
    refine w_il3 (n := 53) dX10_toppleBent_52 rfl ?_
    refine w_al0 (n := 54) dX10_toppleBent_53 rfl ?_
    refine g_I (n := 57) f_X10_9_10 pl_14 dX10_toppleBent_54 rfl ?_
    rw [hst.count]
    refine w_ic_ge (n := 60) 84 dX10_toppleBent_57 (by decide) rfl (fun z57 => ?_) (fun z57 => ?_)
    · skip
      refine w_il2 (n := 85) dX10_toppleBent_84 rfl ?_
      refine w_cS1 (n := 88) s0_J6_bitCount_0f7a4 k_X10_180 (Nat.le_of_ble_eq_true rfl) dX10_toppleBent_85 rfl (j_bits h64 ?_)
      refine w_retI dX10_toppleBent_88 rfl ?_
      have eb : (sg_l2 σ set (σ 4)).2 = sg_bits set := by rw [sg_l2_cn, sg_cn_b (σ 4) (by omega) set hset]
      refine dk_q (by rw [eb]) (hq M1 ?_ hf)
      first | (rw [show σ 4 = k by rw [q_le (by omega) (by omega)] at z57; omega]; exact hc) | (have z0 : set = 0 := (q_nz (by omega)).mp z61; subst z0; rw [sg_l2_z] at hc ⊢; exact hc)
    · skip
      refine w_il2 (n := 61) dX10_toppleBent_60 rfl ?_
      refine w_if_eq (n := 64) 84 dX10_toppleBent_61 (by decide) rfl (fun z61 => ?_) (fun z61 => ?_)
      · skip
        refine w_il2 (n := 85) dX10_toppleBent_84 rfl ?_
        refine w_cS1 (n := 88) s0_J6_bitCount_0f7a4 k_X10_180 (Nat.le_of_ble_eq_true rfl) dX10_toppleBent_85 rfl (j_bits h64 ?_)
        refine w_retI dX10_toppleBent_88 rfl ?_
        have eb : (sg_l2 σ set (σ 4)).2 = sg_bits set := by rw [sg_l2_cn, sg_cn_b (σ 4) (by omega) set hset]
        refine dk_q (by rw [eb]) (hq M1 ?_ hf)
        first | (rw [show σ 4 = k by rw [q_le (by omega) (by omega)] at z57; omega]; exact hc) | (have z0 : set = 0 := (q_nz (by omega)).mp z61; subst z0; rw [sg_l2_z] at hc ⊢; exact hc)
      · skip
        refine w_il2 (n := 65) dX10_toppleBent_64 rfl ?_
        refine w_il3 (n := 66) dX10_toppleBent_65 rfl ?_
        refine w_ishr (n := 67) dX10_toppleBent_66 rfl ?_
        refine w_iconst (n := 68) (nI 1) dX10_toppleBent_67 (by decide) rfl ?_
        refine w_iand (n := 69) dX10_toppleBent_68 rfl ?_
        have hk : k < σ 4 := by rw [q_le (by omega) (by omega)] at z57; omega
        have hk6 : k < 6 := by omega
        rw [q_bit set h64 k hk6]
        refine w_if_eq (n := 72) 78 dX10_toppleBent_69 (by decide) rfl (fun z69 => ?_) (fun z69 => ?_)
        · skip
          refine w_inc3 (n := 81) (nI 1) dX10_toppleBent_78 (by decide) rfl rfl (by decide) ?_
          refine w_goto 52 dX10_toppleBent_81 (by decide) ?_
          rw [nI_add]
          by_cases tb : set.testBit k = true
          · first | exact absurd z69 (by rw [if_pos tb]; decide) | (have el : sg_l2 σ set (k + 1) = (sg_falls (sg_l2 σ set k).1 k, (sg_l2 σ set k).2 + 1) := by { rw [sg_l2, if_pos tb] }; exact ih (k + 1) M3 (by omega) (by omega) (hst.X hm g2) (by rw [el]; exact g1) (hf.tr g2))
          · first | exact absurd (by rw [if_neg tb]; rfl) z69 | (have el : sg_l2 σ set (k + 1) = sg_l2 σ set k := by { rw [sg_l2, if_neg tb] }; exact ih (k + 1) M1 (by omega) (by omega) hst (by rw [el]; exact hc) hf)
        · skip
          refine w_al0 (n := 73) dX10_toppleBent_72 rfl ?_
          refine w_al1 (n := 74) dX10_toppleBent_73 rfl ?_
          refine w_il3 (n := 75) dX10_toppleBent_74 rfl ?_
          refine w_cV2 (n := 78) pl_14 cl_10 s0_X10_fall k_X10_171 (Nat.le_of_ble_eq_true rfl) dX10_toppleBent_75 rfl (c10_fall hs o hm hc (by rw [e4]; exact hk) (fun M3 g1 g2 => ?_))
          refine w_inc3 (n := 81) (nI 1) dX10_toppleBent_78 (by decide) rfl rfl (by decide) ?_
          refine w_goto 52 dX10_toppleBent_81 (by decide) ?_
          rw [nI_add]
          by_cases tb : set.testBit k = true
          · first | exact absurd z69 (by rw [if_pos tb]; decide) | (have el : sg_l2 σ set (k + 1) = (sg_falls (sg_l2 σ set k).1 k, (sg_l2 σ set k).2 + 1) := by { rw [sg_l2, if_pos tb] }; exact ih (k + 1) M3 (by omega) (by omega) (hst.X hm g2) (by rw [el]; exact g1) (hf.tr g2))
          · first | exact absurd (by rw [if_neg tb]; rfl) z69 | (have el : sg_l2 σ set (k + 1) = sg_l2 σ set k := by { rw [sg_l2, if_neg tb] }; exact ih (k + 1) M1 (by omega) (by omega) hst (by rw [el]; exact hc) hf)

set_option maxRecDepth 20000 in
theorem c10_topple {d : Nat} {M : dk_Mem} {Q : Option Value → dk_Mem → Prop} {σ : Nat → Nat} (hs : cs σ M) (o : sg_ok σ) {μ : Nat} (hm : dk_mo μ) (hc : cm μ σ M) (hq : ∀ M2, cm μ (sg_l2 σ (sg_tip σ (σ 4)) (σ 4)).1 M2 → dk_fr (cX μ) M M2 → Q (some (.int (nI (sg_l2 σ (sg_tip σ (σ 4)) (σ 4)).2))) M2) : dk_Call (d + 3) mX10_toppleBent [.ref 14, .ref μ] M Q := by
  refine dk_enter [some (.ref 14), some (.ref μ), none, none] (by decide) (fun _ => rfl) (fun _ => Nat.le_of_ble_eq_true rfl) ?_
  refine w_iconst (n := 1) (nI 0) dX10_toppleBent_0 (by decide) rfl ?_
  refine w_is2 (n := 2) dX10_toppleBent_1 rfl rfl (by decide) ?_
  refine w_iconst (n := 3) (nI 0) dX10_toppleBent_2 (by decide) rfl ?_
  refine w_is3 (n := 4) dX10_toppleBent_3 rfl rfl (by decide) ?_
  refine c_tipL hs o hm hc ?_ (σ 4 + 1) 0 (by omega) (by omega)
  refine w_iconst (n := 51) (nI 0) dX10_toppleBent_50 (by decide) rfl ?_
  refine w_is3 (n := 52) dX10_toppleBent_51 rfl rfl (by decide) ?_
  exact c_tpL o hm (sg_tip_lt σ (σ 4)) hq (σ 4 + 1) 0 M (by omega) (by omega) hs hc dk_fr.rf

theorem sg_wd_eqv {σ τ : Nat → Nat} (h1 : τ 1 = σ 1) (h : sg_eqv σ τ) : sg_wd τ = sg_wd σ ∧ sg_hs τ = sg_hs σ := by
  have e : sg_sy τ (τ 1) = sg_sy σ (σ 1) := by
    unfold sg_sy
    rw [h1]
    split
    · exact h.2.2.2 _ (by omega) (by omega)
    · rfl
  unfold sg_wd sg_hs
  rw [e]
  exact ⟨rfl, rfl⟩
theorem cm.g3t {μ : Nat} {s : Nat → Nat} {M : dk_Mem} (hc : cm μ s M) {k : Nat} (c : s (39 + 5 * k) = 0) : cm μ (sg_g3 s k) (dk_put M (μ + 1) k (nI (min 99 (s (36 + 5 * k) + sg_leans s k)))) := by
  have e : sg_g3 s k = sg_up s (36 + 5 * k) (min 99 (s (36 + 5 * k) + sg_leans s k)) := if_pos c
  rw [e]
  exact hc.upl
theorem cm.up1 {μ : Nat} {s : Nat → Nat} {M : dk_Mem} (hc : cm μ s M) {v : Nat} : cm μ (sg_up s 1 v) (dk_put M μ 0 (nI v)) := by
  refine ⟨?_, ?_, fun i hi => ?_⟩
  · rw [dk_put_s, sg_up_s]
  · rw [dk_put_k (by omega), sg_up_n (by omega), sg_set_cong (σ := s) (s 4) (fun i _ => sg_up_n (by omega))]; exact hc.2.1
  · rw [sg_up_n (by omega)] at hi
    rw [dk_put_k (by omega), sg_up_n (by omega)]; exact hc.2.2 i hi
set_option maxRecDepth 20000 in
theorem c_pyL {d : Nat} {M : dk_Mem} {Q : Option Value → dk_Mem → Prop} {ρ : Nat → Nat} (ot : sg_ok ρ) {μ : Nat} (hm : dk_mo μ) {act : Int32} {W : Nat} (hq : ∀ M2, cm μ (sg_up (sg_l3 ρ (ρ 4)) 1 (ρ 1 + 1)) M2 → dk_fr (cX μ) M M2 → Q (some (.int (nI W))) M2) : ∀ (n k : Nat) (M1 : dk_Mem), k ≤ ρ 4 → ρ 4 - k < n → cs ρ M1 → cm μ (sg_l3 ρ k) M1 → dk_fr (cX μ) M M1 → dk_W (d + 4) mX10_passYear 54 [some (.ref 14), some (.ref μ), some (.int act), some (.int (nI W)), some (.int (nI (sg_wd ρ))), some (.int (nI (sg_hs ρ))), some (.int (nI k))] [] M1 Q := by
  have o4 := ot.2.2.2.1
  intro n
  induction n with
  | zero => intro i _ _ h; omega
  | succ n ih =>
    intro k M1 hi hn hst hc hf
    have e4 : sg_l3 ρ k 4 = ρ 4 := sg_l3_o (by omega) k
    have e1 : sg_l3 ρ k 1 = ρ 1 := sg_l3_o (by omega) k
    have ev := sg_eqv.l3 (σ := ρ) k
    have ew := sg_wd_eqv e1 ev
    have o := ot.l3 k
    have hs := hst.eqv ev
    generalize he : sg_l3 ρ k = s at hc e4 e1 o hs ev ew
    refine w_il6 (n := 56) dX10_passYear_54 rfl ?_
    refine w_al0 (n := 57) dX10_passYear_56 rfl ?_
    refine g_I (n := 60) f_X10_9_10 pl_14 dX10_passYear_57 rfl ?_
    rw [hst.count]
    refine w_ic_ge (n := 63) 107 dX10_passYear_60 (by decide) rfl (fun z60 => ?_) (fun z60 => ?_)
    · skip
      refine w_al1 (n := 108) dX10_passYear_107 rfl ?_
      refine w_dup (n := 109) rfl dX10_passYear_108 rfl ?_
      refine g_I (n := 112) f_X10_108_4 hm.is dX10_passYear_109 rfl ?_
      refine w_iconst (n := 113) (nI 1) dX10_passYear_112 (by decide) rfl ?_
      refine w_iadd (n := 114) dX10_passYear_113 rfl ?_
      refine p_I (n := 117) f_X10_108_4 hm.is dX10_passYear_114 rfl ?_
      refine w_il3 (n := 118) dX10_passYear_117 rfl ?_
      refine w_retI dX10_passYear_118 rfl ?_
      have ek : k = ρ 4 := by rw [q_le (by omega) (by omega)] at z60; omega
      rw [hc.1, nI_add, e1]
      exact hq _ (by rw [← ek, he]; exact hc.up1) (hf.put (Or.inl rfl))
    · skip
      have hk : k < s 4 := by rw [q_le (by omega) (by omega)] at z60; omega
      have hk6 : k < 6 := by omega
      have b1 := o.lean hk6
      have b2 := o.kind hk6
      have b3 := o.leans (h := k)
      have b4 := o.2.2.1
      refine w_al1 (n := 64) dX10_passYear_63 rfl ?_
      refine w_il6 (n := 66) dX10_passYear_64 rfl ?_
      refine w_cV1 (n := 69) hm.is cl_4 s0_X4_isFallen k_X10_125 (Nat.le_of_ble_eq_true rfl) dX10_passYear_66 rfl (c4_isFallen hm hc o hk (fun t66 => ?_) (fun t66 => ?_))
      · skip
        refine w_if_ne (n := 72) 101 dX10_passYear_69 (by decide) rfl (fun _ => ?_) (fun h => absurd h (by decide))
        refine w_inc6 (n := 104) (nI 1) dX10_passYear_101 (by decide) rfl rfl (by decide) ?_
        refine w_goto 54 dX10_passYear_104 (by decide) ?_
        rw [nI_add]
        first | exact ih (k + 1) _ (by omega) (by omega) hst (by rw [sg_l3, he, show sg_g3 s k = s from if_neg (by omega)]; exact hc) hf | exact ih (k + 1) _ (by omega) (by omega) (hst.X hm (dk_fr.rf.put (Or.inr (Or.inl rfl)))) (by rw [sg_l3, he]; exact hc.g3t t66) (hf.put (Or.inr (Or.inl rfl)))
      · skip
        refine w_if_ne (n := 72) 101 dX10_passYear_69 (by decide) rfl (fun h => absurd h (by decide)) (fun _ => ?_)
        refine w_al1 (n := 73) dX10_passYear_72 rfl ?_
        refine w_il6 (n := 75) dX10_passYear_73 rfl ?_
        refine w_al0 (n := 76) dX10_passYear_75 rfl ?_
        refine g_R (n := 79) f_X10_67_10 pl_14 rf_14_0 dX10_passYear_76 rfl ?_
        refine w_al0 (n := 80) dX10_passYear_79 rfl ?_
        refine g_R (n := 83) f_X10_15_10 pl_14 rf_14_2 dX10_passYear_80 rfl ?_
        refine w_il6 (n := 85) dX10_passYear_83 rfl ?_
        refine i_iald (n := 86) pl_15 (j := k) rfl hk6 (by decide) (hs.kind hk) dX10_passYear_85 rfl ?_
        refine i_aaldP (n := 87) pl_1 (j := s (35 + 5 * k)) rfl (by omega) (by decide) (rf_kinds _ (by omega)) dX10_passYear_86 rfl ?_
        refine w_il4 (n := 89) dX10_passYear_87 rfl ?_
        refine w_il5 (n := 91) dX10_passYear_89 rfl ?_
        refine w_al1 (n := 92) dX10_passYear_91 rfl ?_
        refine g_I (n := 95) f_X10_108_4 hm.is dX10_passYear_92 rfl ?_
        rw [hc.1]
        refine w_lm_X10 (n := 98) rfl b2 (by rw [← ew.1]; exact o.wd) (by rw [← ew.2]; exact o.hs) b4 (Nat.le_of_ble_eq_true rfl) dX10_passYear_95 rfl ?_
        rw [show sg_ln (s (35 + 5 * k)) (sg_wd ρ) (sg_hs ρ) (s 1) = sg_leans s k from by unfold sg_leans; rw [ew.1, ew.2]]
        refine w_cV2 (n := 101) hm.is cl_4 s0_X4_leanMore k_X10_157 (Nat.le_of_ble_eq_true rfl) dX10_passYear_98 rfl (c4_leanMore hm hk6 (hc.2.2 k hk) (by show s (36 + 5 * k) + sg_leans s k < 1000; omega) ?_)
        refine w_inc6 (n := 104) (nI 1) dX10_passYear_101 (by decide) rfl rfl (by decide) ?_
        refine w_goto 54 dX10_passYear_104 (by decide) ?_
        rw [nI_add]
        first | exact ih (k + 1) _ (by omega) (by omega) hst (by rw [sg_l3, he, show sg_g3 s k = s from if_neg (by omega)]; exact hc) hf | exact ih (k + 1) _ (by omega) (by omega) (hst.X hm (dk_fr.rf.put (Or.inr (Or.inl rfl)))) (by rw [sg_l3, he]; exact hc.g3t t66) (hf.put (Or.inr (Or.inl rfl)))

set_option maxRecDepth 20000 in
theorem c_pyT {d : Nat} {M : dk_Mem} {Q : Option Value → dk_Mem → Prop} {τ : Nat → Nat} (o : sg_ok τ) {μ : Nat} (hm : dk_mo μ) {act : Int32} {a : Nat} {M1 : dk_Mem} (hs : cs τ M1) (hc : cm μ τ M1) (hf : dk_fr (cX μ) M M1) (hq : ∀ M2, cm μ (sg_up (sg_l3 (sg_l2 τ (sg_tip τ (τ 4)) (τ 4)).1 (τ 4)) 1 (τ 1 + 1)) M2 → dk_fr (cX μ) M M2 → Q (some (.int (nI (a + (sg_l2 τ (sg_tip τ (τ 4)) (τ 4)).2)))) M2) : dk_W (d + 4) mX10_passYear 22 [some (.ref 14), some (.ref μ), some (.int act), none, none, none, none] [.int (nI a)] M1 Q := by
  have o4 := o.2.2.2.1
  refine w_is3 (n := 23) dX10_passYear_22 rfl rfl (by decide) ?_
  refine w_il3 (n := 24) dX10_passYear_23 rfl ?_
  refine w_al0 (n := 25) dX10_passYear_24 rfl ?_
  refine w_al1 (n := 26) dX10_passYear_25 rfl ?_
  refine w_cV1 (n := 29) pl_14 cl_10 s0_X10_toppleBent k_X10_167 (Nat.le_of_ble_eq_true rfl) dX10_passYear_26 rfl (c10_topple hs o hm hc (fun M2 g1 g2 => ?_))
  have hs2 := (hs.X hm g2).eqv (sg_eqv.l2 (set := sg_tip τ (τ 4)) (τ 4))
  have o2 := o.l2 (set := sg_tip τ (τ 4)) (τ 4)
  have e4 : (sg_l2 τ (sg_tip τ (τ 4)) (τ 4)).1 4 = τ 4 := sg_l2_o (by omega) (by omega) _
  have e1 : (sg_l2 τ (sg_tip τ (τ 4)) (τ 4)).1 1 = τ 1 := sg_l2_o (by omega) (by omega) _
  refine w_iadd (n := 30) dX10_passYear_29 rfl ?_
  rw [nI_add]
  refine w_is3 (n := 31) dX10_passYear_30 rfl rfl (by decide) ?_
  refine w_al0 (n := 32) dX10_passYear_31 rfl ?_
  refine w_al1 (n := 33) dX10_passYear_32 rfl ?_
  refine g_I (n := 36) f_X10_108_4 hm.is dX10_passYear_33 rfl ?_
  rw [g1.1]
  refine w_cV1 (n := 39) pl_14 cl_10 s0_X10_wordOf k_X10_115 (Nat.le_of_ble_eq_true rfl) dX10_passYear_36 rfl (c10_wordOf hs2 o2 o2.2.2.1 ?_)
  refine w_is4 (n := 41) dX10_passYear_39 rfl rfl (by decide) ?_
  refine w_al0 (n := 42) dX10_passYear_41 rfl ?_
  refine w_al1 (n := 43) dX10_passYear_42 rfl ?_
  refine g_I (n := 46) f_X10_108_4 hm.is dX10_passYear_43 rfl ?_
  rw [g1.1]
  refine w_cV1 (n := 49) pl_14 cl_10 s0_X10_hushOf k_X10_118 (Nat.le_of_ble_eq_true rfl) dX10_passYear_46 rfl (c10_hushOf hs2 o2 o2.2.2.1 ?_)
  refine w_is5 (n := 51) dX10_passYear_49 rfl rfl (by decide) ?_
  refine w_iconst (n := 52) (nI 0) dX10_passYear_51 (by decide) rfl ?_
  refine w_is6 (n := 54) dX10_passYear_52 rfl rfl (by decide) ?_
  refine c_pyL o2 hm (fun M3 k1 k2 => ?_) ((sg_l2 τ (sg_tip τ (τ 4)) (τ 4)).1 4 + 1) 0 _ (by omega) (by omega) hs2 g1 dk_fr.rf
  rw [e4, e1] at k1
  exact hq M3 k1 ((hf.tr g2).tr k2)

set_option maxRecDepth 20000 in
theorem c10_pyN {d : Nat} {M : dk_Mem} {Q : Option Value → dk_Mem → Prop} {σ : Nat → Nat} (hs : cs σ M) (o : sg_ok σ) {μ : Nat} (hm : dk_mo μ) (hc : cm μ σ M) {w : sg_R} (hb : cbb w M) (hq : ∀ M2, cm μ (sg_goes w σ none).1 M2 → dk_fr (cX μ) M M2 → Q (some (.int (nI (sg_goes w σ none).2))) M2) : dk_Call (d + 6) mX10_passYear [.ref 14, .ref μ, .int (nI 0)] M Q := by
  have o4 := o.2.2.2.1
  have e4 : (sg_told w σ (none)).1 4 = σ 4 := sg_told_o (by omega)
  have e1 : (sg_told w σ (none)).1 1 = σ 1 := sg_told_o (by omega)
  refine dk_enter [some (.ref 14), some (.ref μ), some (.int (nI 0)), none, none, none, none] (by decide) (fun _ => rfl) (fun _ => Nat.le_of_ble_eq_true rfl) ?_
  refine w_al0 (n := 1) dX10_passYear_0 rfl ?_
  refine w_il2 (n := 2) dX10_passYear_1 rfl ?_
  refine w_iconst (n := 3) (nI 1) dX10_passYear_2 (by decide) rfl ?_
  refine w_isub (n := 4) dX10_passYear_3 rfl ?_
  refine w_cV1 (n := 7) pl_14 cl_10 s0_X10_isPiece k_X10_161 (Nat.le_of_ble_eq_true rfl) dX10_passYear_4 rfl (c10_isPiece hs o (fun h0 hh0 e0 => absurd e0 (q_m1 (by omega))) (fun _ => ?_))
  · skip
    refine w_if_eq (n := 10) 21 dX10_passYear_7 (by decide) rfl (fun _ => ?_) (fun h => absurd (by decide) h)
    refine w_iconst (n := 22) (nI 0) dX10_passYear_21 (by decide) rfl ?_
    have k9 := c_pyT (M := M) (d := d + 2) (act := nI 0) (a := (sg_told w σ none).2) (Q := Q) o hm hs hc dk_fr.rf (fun M2 g1 g2 => hq M2 g1 g2)
    exact k9

set_option maxRecDepth 20000 in
theorem c10_pyS {d : Nat} {M : dk_Mem} {Q : Option Value → dk_Mem → Prop} {σ : Nat → Nat} (hs : cs σ M) (o : sg_ok σ) {μ : Nat} (hm : dk_mo μ) (hc : cm μ σ M) {h : Nat} (hh : h < σ 4) {w : sg_R} (hb : cbb w M) (hq : ∀ M2, cm μ (sg_goes w σ (some h)).1 M2 → dk_fr (cX μ) M M2 → Q (some (.int (nI (sg_goes w σ (some h)).2))) M2) : dk_Call (d + 6) mX10_passYear [.ref 14, .ref μ, .int (nI (h + 1))] M Q := by
  have o4 := o.2.2.2.1
  have e4 : (sg_told w σ ((some h))).1 4 = σ 4 := sg_told_o (by omega)
  have e1 : (sg_told w σ ((some h))).1 1 = σ 1 := sg_told_o (by omega)
  have ot := sg_ok.told (w := w) o (t := some h) (fun h0 e => by cases e; omega)
  have eh : nI (h + 1) - nI 1 = nI h := by rw [q_pm1 (by omega)]; rfl
  refine dk_enter [some (.ref 14), some (.ref μ), some (.int (nI (h + 1))), none, none, none, none] (by decide) (fun _ => rfl) (fun _ => Nat.le_of_ble_eq_true rfl) ?_
  refine w_al0 (n := 1) dX10_passYear_0 rfl ?_
  refine w_il2 (n := 2) dX10_passYear_1 rfl ?_
  refine w_iconst (n := 3) (nI 1) dX10_passYear_2 (by decide) rfl ?_
  refine w_isub (n := 4) dX10_passYear_3 rfl ?_
  refine w_cV1 (n := 7) pl_14 cl_10 s0_X10_isPiece k_X10_161 (Nat.le_of_ble_eq_true rfl) dX10_passYear_4 rfl (c10_isPiece hs o (fun h0 hh0 e0 => ?_) (fun n0 => absurd ⟨h, hh, eh⟩ n0))
  · skip
    refine w_if_eq (n := 10) 21 dX10_passYear_7 (by decide) rfl (fun h => absurd h (by decide)) (fun _ => ?_)
    refine w_al0 (n := 11) dX10_passYear_10 rfl ?_
    refine w_al1 (n := 12) dX10_passYear_11 rfl ?_
    refine w_il2 (n := 13) dX10_passYear_12 rfl ?_
    refine w_iconst (n := 14) (nI 1) dX10_passYear_13 (by decide) rfl ?_
    refine w_isub (n := 15) dX10_passYear_14 rfl ?_
    rw [eh]
    refine w_cV2 (n := 18) pl_14 cl_10 s0_X10_tell k_X10_164 (Nat.le_of_ble_eq_true rfl) dX10_passYear_15 rfl (c10_tell hs o hm hc hh hb (fun M3 g1 g2 => ?_))
    refine w_goto 22 dX10_passYear_18 (by decide) ?_
    have k9 := c_pyT (M := M) (d := d + 2) (act := nI (h + 1)) (a := (sg_told w σ (some h)).2) (Q := Q) ot hm ((hs.X hm g2).eqv sg_eqv.told) g1 g2 (fun M2 k1 k2 => by simp only [e4, e1] at k1; refine dk_q ?_ (hq M2 k1 k2); simp only [e4]; rfl)
    exact k9

theorem c10_py {d : Nat} {M : dk_Mem} {Q : Option Value → dk_Mem → Prop} {σ : Nat → Nat} (hs : cs σ M) (o : sg_ok σ) {μ : Nat} (hm : dk_mo μ) (hc : cm μ σ M) {t : Option Nat} (ht : ∀ h, t = some h → h < σ 4) {w : sg_R} (hb : cbb w M) (hq : ∀ M2, cm μ (sg_goes w σ t).1 M2 → dk_fr (cX μ) M M2 → Q (some (.int (nI (sg_goes w σ t).2))) M2) : dk_Call (d + 6) mX10_passYear [.ref 14, .ref μ, .int (nI (sg_act t))] M Q := by
  cases t with
  | none => exact c10_pyN hs o hm hc hb hq
  | some h => exact c10_pyS hs o hm hc (ht h rfl) hb hq