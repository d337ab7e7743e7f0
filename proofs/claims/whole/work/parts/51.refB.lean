/-- the first YEAR behind which h is FALLEN, in THE REST or if nobody is told -/
def sg_wh (w : sg_R) (b : Bool) (h : Nat) : Nat → (Nat → Nat) → Int32
  | 0, _ => -3
  | n + 1, σ => if σ 0 ≤ σ 1 then -3 else if (sg_goes w σ (if b then sg_lw w σ else none)).1 (39 + 5 * h) = 1 then nI (σ 1) else sg_wh w b h n (sg_goes w σ (if b then sg_lw w σ else none)).1
def kf_first (b : Bool) (K : sg_K) (k : Int32) : Int32 × sg_K := match sg_pc K.1 k with
  | none => (-1, K)
  | some h => (if K.1 (39 + 5 * h) = 1 then -3 else sg_wh K.2.1 b h 16 K.1, K)
def sg_least (σ : Nat → Nat) (h : Nat) : Int32 := if σ (39 + 5 * h) = 1 then -3 else if sg_bears σ h ≤ σ (36 + 5 * h) then nI 0 else if sg_bears σ h ≤ σ (36 + 5 * h) + 6 then nI 1 else if sg_bears σ h ≤ σ (36 + 5 * h) + 12 then nI 2 else if sg_bears σ h ≤ σ (36 + 5 * h) + 18 then nI 3 else -3
def kf_least (K : sg_K) (k : Int32) : Int32 × sg_K := match sg_pc K.1 k with
  | none => (-1, K)
  | some h => (sg_least K.1 h, K)
/-- n YEARS in which nobody is told -/
def sg_nn (w : sg_R) : Nat → (Nat → Nat) → (Nat → Nat)
  | 0, σ => σ
  | n + 1, σ => if σ 0 ≤ σ 1 then σ else sg_nn w n (sg_goes w σ none).1
def sg_wave (w : sg_R) (σ : Nat → Nat) (h n : Nat) : Nat := sg_set (sg_nn w n (if σ (39 + 5 * h) = 0 then sg_falls σ h else σ)) (σ 4)
def kf_wave (K : sg_K) (k n : Int32) : Int32 × sg_K := match sg_pc K.1 k with
  | none => (-1, K)
  | some h => if nI 0 ≤ n ∧ n ≤ nI 16 then (nI (sg_wave K.2.1 K.1 h (tN n)), K) else (-1, K)
/-- of f 0 .. f n the least place of the most, and the most -/
def sg_bf (f : Nat → Nat) : Nat → Nat × Nat
  | 0 => (0, f 0)
  | n + 1 => if (sg_bf f n).2 < f (n + 1) then (n + 1, f (n + 1)) else sg_bf f n
def kf_best (j m : Nat) (K : sg_K) (k : Int32) : Int32 × sg_K := match sg_pc K.1 k with
  | none => (-1, K)
  | some h => (nI (sg_bf (fun v => (sg_rest K.2.1 16 (sg_up K.1 (j + 5 * h) v)).2) m).1, K)
theorem rT.G {f : Nat → Int32} {M M' : dk_Mem} (h : rT f M) (hf : dk_fr rG M M') : rT f M' := h.fr hf
theorem rG_put {M M1 : dk_Mem} {j : Nat} {x : Int32} (h : dk_fr rG M M1) (h1 : j < 89) (h2 : j ≠ 3) : dk_fr rG M (dk_put M1 105 j x) := h.put (Or.inl ⟨rfl, h1, h2⟩)

theorem rr.clr {σ : Nat → Nat} {M : dk_Mem} {n : Nat} (h : rr (sg_clr σ n) M) : rr (sg_clr σ (n + 1)) (dk_put M 105 (35 + 5 * n + 4) (nI 0)) := h.putP (by omega)
theorem sg_clr_in {σ : Nat → Nat} (o : sg_in σ) : ∀ n, n ≤ 6 → sg_in (sg_clr σ n)
  | 0, _ => o.u_yr (by omega)
  | n + 1, h => (sg_clr_in o n (by omega)).u_fal (by omega) (by omega)
theorem sg_clr_o {σ : Nat → Nat} {j : Nat} (h1 : j ≠ 1) (h2 : j % 5 ≠ 4 ∨ j < 39) : ∀ n, sg_clr σ n j = σ j
  | 0 => sg_up_n h1
  | n + 1 => by
    rw [sg_clr, sg_up_n (by omega)]
    exact sg_clr_o h1 h2 n
set_option maxRecDepth 20000 in
theorem R_anewL {d : Nat} {M : dk_Mem} {Q : Option Value → dk_Mem → Prop} {σ : Nat → Nat} (o4 : σ 4 ≤ 6) {x : Int32} (hq : ∀ M2, rr (sg_clr σ (σ 4)) M2 → dk_fr rS M M2 → Q (some (.int x)) M2) : ∀ (n k : Nat) (M1 : dk_Mem), k ≤ σ 4 → σ 4 - k < n → rr (sg_clr σ k) M1 → dk_fr rS M M1 → dk_W (d + 1) mX12_anew 23 [some (.ref 104), some (.int x), some (.int (nI k))] [] M1 Q := by
  intro n
  induction n with
  | zero => intro i _ _ h; omega
  | succ n ih =>
    intro k M1 hi hn hr hf
    have e4 : sg_clr σ k 4 = σ 4 := sg_clr_o (by omega) (by omega) k
    refine w_il2 (n := 24) dX12_anew_23 rfl ?_
    refine w_al0 (n := 25) dX12_anew_24 rfl ?_
    refine g_R (n := 28) f_X12_9_12 pl_104 rf_104_0 dX12_anew_25 rfl ?_
    refine w_iconst (n := 29) (nI 4) dX12_anew_28 (by decide) rfl ?_
    refine i_iald (n := 30) pl_105 (j := 4) rfl (by decide) (by decide) ((hr 4 (by decide) (by decide) (by decide)).trans (by rw [e4])) dX12_anew_29 rfl ?_
    refine w_ic_ge (n := 33) 46 dX12_anew_30 (by decide) rfl (fun z30 => ?_) (fun z30 => ?_)
    · skip
      refine w_il1 (n := 47) dX12_anew_46 rfl ?_
      refine w_retI dX12_anew_47 rfl ?_
      exact hq M1 (by rw [show σ 4 = k by rw [q_le (by omega) (by omega)] at z30; omega]; exact hr) hf
    · skip
      refine w_al0 (n := 34) dX12_anew_33 rfl ?_
      refine w_il2 (n := 35) dX12_anew_34 rfl ?_
      refine w_iconst (n := 36) (nI 4) dX12_anew_35 (by decide) rfl ?_
      refine w_iconst (n := 37) (nI 0) dX12_anew_36 (by decide) rfl ?_
      refine w_cV3 (n := 40) pl_104 cl_12 s0_X12_put k_X12_105 (Nat.le_of_ble_eq_true rfl) dX12_anew_37 rfl (r_put (h := k) (w := 4) (by rw [q_le (by omega) (by omega)] at z30; omega) ?_)
      refine w_inc2 (n := 43) (nI 1) dX12_anew_40 (by decide) rfl rfl (by decide) ?_
      refine w_goto 23 dX12_anew_43 (by decide) ?_
      have hk : k < σ 4 := by rw [q_le (by omega) (by omega)] at z30; omega
      rw [nI_add]
      exact ih (k + 1) _ (by omega) (by omega) hr.clr (hf.put (rS_p (by omega) (by omega)))

set_option maxRecDepth 20000 in
theorem R_anew {d : Nat} {M : dk_Mem} {Q : Option Value → dk_Mem → Prop} {K : sg_K} (hK : rK K M) (hq : ∀ M2, rK (kf_anew K).2 M2 → dk_fr rA M M2 → Q (some (.int (kf_anew K).1)) M2) : dk_Call (d + 3) mX12_anew [.ref 104] M Q := by
  have hK0 := hK
  obtain ⟨⟨o, p1, p2, p3⟩, hr, ⟨f, hb, hT⟩, hsc, hz⟩ := hK0
  have o4 := o.2.2.2.1
  have o16 := o.2.1
  refine dk_enter [some (.ref 104), none, none] (by decide) (fun _ => rfl) (fun _ => Nat.le_of_ble_eq_true rfl) ?_
  refine w_al0 (n := 1) dX12_anew_0 rfl ?_
  refine g_R (n := 4) f_X12_9_12 pl_104 rf_104_0 dX12_anew_1 rfl ?_
  refine w_iconst (n := 5) (nI 1) dX12_anew_4 (by decide) rfl ?_
  refine i_iald (n := 6) pl_105 (j := 1) rfl (by decide) (by decide) (hr 1 (by decide) (by decide) (by decide)) dX12_anew_5 rfl ?_
  refine w_is1 (n := 7) dX12_anew_6 rfl rfl (by decide) ?_
  refine w_al0 (n := 8) dX12_anew_7 rfl ?_
  refine g_R (n := 11) f_X12_9_12 pl_104 rf_104_0 dX12_anew_8 rfl ?_
  refine w_iconst (n := 12) (nI 1) dX12_anew_11 (by decide) rfl ?_
  refine w_iconst (n := 13) (nI 0) dX12_anew_12 (by decide) rfl ?_
  refine i_iast (n := 14) pl_105 (j := 1) rfl (by decide) (by decide) dX12_anew_13 rfl ?_
  refine w_al0 (n := 15) dX12_anew_14 rfl ?_
  refine g_R (n := 18) f_X12_9_12 pl_104 rf_104_0 dX12_anew_15 rfl ?_
  refine w_iconst (n := 19) (nI 2) dX12_anew_18 (by decide) rfl ?_
  refine w_iconst (n := 20) (nI 0) dX12_anew_19 (by decide) rfl ?_
  refine i_iast (n := 21) pl_105 (j := 2) rfl (by decide) (by decide) dX12_anew_20 rfl ?_
  refine w_iconst (n := 22) (nI 0) dX12_anew_21 (by decide) rfl ?_
  refine w_is2 (n := 23) dX12_anew_22 rfl rfl (by decide) ?_
  have r1 : rr (sg_clr K.1 0) (dk_put (dk_put M 105 1 (nI 0)) 105 2 (nI 0)) := fun j a b c => by
    rw [dk_put_k (by omega)]; exact rr.put hr j a b c
  have f1 : dk_fr rG M (dk_put (dk_put M 105 1 (nI 0)) 105 2 (nI 0)) := rG_put (rG_put dk_fr.rf (by decide) (by decide)) (by decide) (by decide)
  refine R_anewL o4 (fun M2 g1 g2 => ?_) (K.1 4 + 1) 0 _ (by omega) (by omega) r1 dk_fr.rf
  refine hq M2 ⟨sg_clr_in hK.1 _ o4, g1, ⟨f, ?_, hT.fr (f1.tr (frSG g2))⟩, ?_, ?_⟩ (rG_A (f1.tr (frSG g2)))
  · show rb K.2.1 (sg_clr K.1 (K.1 4) 6) f
    rw [sg_clr_o (by omega) (by omega)]; exact hb
  · rw [g2.2 105 2 (by rintro (z | z) <;> omega), dk_put_s]; rfl
  · rw [g2.2 105 3 (by rintro (z | z) <;> omega), dk_put_k (by decide), dk_put_k (by decide)]; exact hz

theorem sg_sum_le {σ : Nat → Nat} (o : sg_ok σ) : ∀ n, n ≤ 6 → sg_sum σ n ≤ 99 * n
  | 0, _ => Nat.le_refl 0
  | n + 1, h => by
    have h1 := sg_sum_le o n (by omega)
    have h2 := o.lean (h := n) (by omega)
    rw [sg_sum]
    omega
set_option maxRecDepth 20000 in
theorem r_allL {d : Nat} {M : dk_Mem} {Q : Option Value → dk_Mem → Prop} {σ : Nat → Nat} (hr : rr σ M) (o : sg_ok σ) (hq : Q (some (.int (nI (sg_sum σ (σ 4))))) M) : ∀ (n k : Nat), k ≤ σ 4 → σ 4 - k < n → dk_W (d + 1) mX12_allLean 4 [some (.ref 104), some (.int (nI (sg_sum σ k))), some (.int (nI k))] [] M Q := by
  have o4 := o.2.2.2.1
  intro n
  induction n with
  | zero => intro i _ h; omega
  | succ n ih =>
    intro k hi hn
    refine w_il2 (n := 5) dX12_allLean_4 rfl ?_
    refine w_al0 (n := 6) dX12_allLean_5 rfl ?_
    refine g_R (n := 9) f_X12_9_12 pl_104 rf_104_0 dX12_allLean_6 rfl ?_
    refine w_iconst (n := 10) (nI 4) dX12_allLean_9 (by decide) rfl ?_
    refine i_iald (n := 11) pl_105 (j := 4) rfl (by decide) (by decide) (hr 4 (by decide) (by decide) (by decide)) dX12_allLean_10 rfl ?_
    refine w_ic_ge (n := 14) 29 dX12_allLean_11 (by decide) rfl (fun z11 => ?_) (fun z11 => ?_)
    · skip
      refine w_il1 (n := 30) dX12_allLean_29 rfl ?_
      refine w_retI dX12_allLean_30 rfl ?_
      rw [show k = σ 4 by rw [q_le (by omega) (by omega)] at z11; omega]
      exact hq
    · skip
      refine w_il1 (n := 15) dX12_allLean_14 rfl ?_
      refine w_al0 (n := 16) dX12_allLean_15 rfl ?_
      refine w_il2 (n := 17) dX12_allLean_16 rfl ?_
      refine w_iconst (n := 18) (nI 1) dX12_allLean_17 (by decide) rfl ?_
      refine w_cV2 (n := 21) pl_104 cl_12 s0_X12_of k_X12_69 (Nat.le_of_ble_eq_true rfl) dX12_allLean_18 rfl (r_of (h := k) (w := 1) (by omega) (hr.lean (show k < 6 by rw [q_le (by omega) (by omega)] at z11; omega)) ?_)
      refine w_iadd (n := 22) dX12_allLean_21 rfl ?_
      refine w_is1 (n := 23) dX12_allLean_22 rfl rfl (by decide) ?_
      refine w_inc2 (n := 26) (nI 1) dX12_allLean_23 (by decide) rfl rfl (by decide) ?_
      refine w_goto 4 dX12_allLean_26 (by decide) ?_
      have hk : k < σ 4 := by rw [q_le (by omega) (by omega)] at z11; omega
      rw [nI_add, nI_add]
      exact ih (k + 1) (by omega) (by omega)

set_option maxRecDepth 20000 in
theorem r_allLean {d : Nat} {M : dk_Mem} {Q : Option Value → dk_Mem → Prop} {σ : Nat → Nat} (hr : rr σ M) (o : sg_ok σ) (hq : Q (some (.int (nI (sg_sum σ (σ 4))))) M) : dk_Call (d + 1) mX12_allLean [.ref 104] M Q := by
  refine dk_enter [some (.ref 104), none, none] (by decide) (fun _ => rfl) (fun _ => Nat.le_of_ble_eq_true rfl) ?_
  refine w_iconst (n := 1) (nI 0) dX12_allLean_0 (by decide) rfl ?_
  refine w_is1 (n := 2) dX12_allLean_1 rfl rfl (by decide) ?_
  refine w_iconst (n := 3) (nI 0) dX12_allLean_2 (by decide) rfl ?_
  refine w_is2 (n := 4) dX12_allLean_3 rfl rfl (by decide) ?_
  exact r_allL hr o hq (σ 4 + 1) 0 (by omega) (by omega)

set_option maxRecDepth 20000 in
theorem R_state {d : Nat} {M : dk_Mem} {Q : Option Value → dk_Mem → Prop} {K : sg_K} (hK : rK K M) {x : Int32} (hq : ∀ M2, rK (kf_state K x).2 M2 → dk_fr rA M M2 → Q (some (.int (kf_state K x).1)) M2) : dk_Call (d + 3) mX12_state [.ref 104, .int x] M Q := by
  have hK0 := hK
  obtain ⟨⟨o, p1, p2, p3⟩, hr, ⟨f, hb, hT⟩, hsc, hz⟩ := hK0
  have o4 := o.2.2.2.1
  have o16 := o.2.1
  refine dk_enter [some (.ref 104), some (.int x)] (by decide) (fun _ => rfl) (fun _ => Nat.le_of_ble_eq_true rfl) ?_
  refine w_il1 (n := 1) dX12_state_0 rfl ?_
  by_cases hs1_0 : x = (nI 0)
  · first | subst hs1_0 | rw [hs1_0]
    refine w_tabIn 44 dX12_state_1 (by decide) (by decide) rfl (by decide) ?_
    refine w_al0 (n := 45) dX12_state_44 rfl ?_
    refine g_R (n := 48) f_X12_9_12 pl_104 rf_104_0 dX12_state_45 rfl ?_
    refine w_iconst (n := 49) (nI 1) dX12_state_48 (by decide) rfl ?_
    refine i_iald (n := 50) pl_105 (j := 1) rfl (by decide) (by decide) (hr 1 (by decide) (by decide) (by decide)) dX12_state_49 rfl ?_
    refine w_retI dX12_state_50 rfl ?_
    exact dk_fin hq rfl hK dk_fr.rf
  by_cases hs1_1 : x = (nI 1)
  · first | subst hs1_1 | rw [hs1_1]
    refine w_tabIn 51 dX12_state_1 (by decide) (by decide) rfl (by decide) ?_
    refine w_al0 (n := 52) dX12_state_51 rfl ?_
    refine g_R (n := 55) f_X12_9_12 pl_104 rf_104_0 dX12_state_52 rfl ?_
    refine w_iconst (n := 56) (nI 0) dX12_state_55 (by decide) rfl ?_
    refine i_iald (n := 57) pl_105 (j := 0) rfl (by decide) (by decide) (hr 0 (by decide) (by decide) (by decide)) dX12_state_56 rfl ?_
    refine w_retI dX12_state_57 rfl ?_
    exact dk_fin hq rfl hK dk_fr.rf
  by_cases hs1_2 : x = (nI 2)
  · first | subst hs1_2 | rw [hs1_2]
    refine w_tabIn 58 dX12_state_1 (by decide) (by decide) rfl (by decide) ?_
    refine w_al0 (n := 59) dX12_state_58 rfl ?_
    refine g_R (n := 62) f_X12_9_12 pl_104 rf_104_0 dX12_state_59 rfl ?_
    refine w_iconst (n := 63) (nI 2) dX12_state_62 (by decide) rfl ?_
    refine i_iald (n := 64) pl_105 (j := 2) rfl (by decide) (by decide) hsc dX12_state_63 rfl ?_
    refine w_retI dX12_state_64 rfl ?_
    exact dk_fin hq rfl hK dk_fr.rf
  by_cases hs1_3 : x = (nI 3)
  · first | subst hs1_3 | rw [hs1_3]
    refine w_tabIn 65 dX12_state_1 (by decide) (by decide) rfl (by decide) ?_
    refine w_al0 (n := 66) dX12_state_65 rfl ?_
    refine w_cV0 (n := 69) pl_104 cl_12 s0_X12_isOver k_X12_121 (Nat.le_of_ble_eq_true rfl) dX12_state_66 rfl (r_isOver hr o (fun t66 => ?_) (fun t66 => ?_))
    · skip
      refine w_if_eq (n := 72) 76 dX12_state_69 (by decide) rfl (fun h => absurd h (by decide)) (fun _ => ?_)
      refine w_iconst (n := 73) (nI 1) dX12_state_72 (by decide) rfl ?_
      refine w_goto 77 dX12_state_73 (by decide) ?_
      refine w_retI dX12_state_77 rfl ?_
      exact dk_fin hq (congrArg (fun y => (y, K)) (if_pos t66)) hK dk_fr.rf
    · skip
      refine w_if_eq (n := 72) 76 dX12_state_69 (by decide) rfl (fun _ => ?_) (fun h => absurd (by decide) h)
      refine w_iconst (n := 77) (nI 0) dX12_state_76 (by decide) rfl ?_
      refine w_retI dX12_state_77 rfl ?_
      exact dk_fin hq (congrArg (fun y => (y, K)) (show (if K.1 0 ≤ K.1 1 then nI 1 else nI 0) = nI 0 from if_neg (by omega))) hK dk_fr.rf
  by_cases hs1_4 : x = (nI 4)
  · first | subst hs1_4 | rw [hs1_4]
    refine w_tabIn 78 dX12_state_1 (by decide) (by decide) rfl (by decide) ?_
    refine w_al0 (n := 79) dX12_state_78 rfl ?_
    refine w_cV0 (n := 82) pl_104 cl_12 s0_X12_fallenOnes k_X12_125 (Nat.le_of_ble_eq_true rfl) dX12_state_79 rfl (r_fallenOnes hr o ?_)
    refine w_retI dX12_state_82 rfl ?_
    exact dk_fin hq rfl hK dk_fr.rf
  by_cases hs1_5 : x = (nI 5)
  · first | subst hs1_5 | rw [hs1_5]
    refine w_tabIn 83 dX12_state_1 (by decide) (by decide) rfl (by decide) ?_
    refine w_al0 (n := 84) dX12_state_83 rfl ?_
    refine w_al0 (n := 85) dX12_state_84 rfl ?_
    refine g_R (n := 88) f_X12_9_12 pl_104 rf_104_0 dX12_state_85 rfl ?_
    refine w_iconst (n := 89) (nI 1) dX12_state_88 (by decide) rfl ?_
    refine i_iald (n := 90) pl_105 (j := 1) rfl (by decide) (by decide) (hr 1 (by decide) (by decide) (by decide)) dX12_state_89 rfl ?_
    refine w_cV1 (n := 93) pl_104 cl_12 s0_X12_sayingOf k_X12_65 (Nat.le_of_ble_eq_true rfl) dX12_state_90 rfl (r_sayingOf o.2.2.1 hr ?_)
    refine w_retI dX12_state_93 rfl ?_
    exact dk_fin hq rfl hK dk_fr.rf
  by_cases hs1_6 : x = (nI 6)
  · first | subst hs1_6 | rw [hs1_6]
    refine w_tabIn 94 dX12_state_1 (by decide) (by decide) rfl (by decide) ?_
    refine w_al0 (n := 95) dX12_state_94 rfl ?_
    refine w_cV0 (n := 98) pl_104 cl_12 s0_X12_allLean k_X12_128 (Nat.le_of_ble_eq_true rfl) dX12_state_95 rfl (r_allLean hr o ?_)
    refine w_retI dX12_state_98 rfl ?_
    exact dk_fin hq rfl hK dk_fr.rf
  refine w_tabOut 99 dX12_state_1 (dk_out7 hs1_0 hs1_1 hs1_2 hs1_3 hs1_4 hs1_5 hs1_6) (by decide) ?_
  refine w_iconst (n := 100) (-1) dX12_state_99 (by decide) rfl ?_
  refine w_retI dX12_state_100 rfl ?_
  exact dk_fin hq (by unfold kf_state; rw [if_neg hs1_0, if_neg hs1_1, if_neg hs1_2, if_neg hs1_3, if_neg hs1_4, if_neg hs1_5, if_neg hs1_6]) hK dk_fr.rf

set_option maxRecDepth 20000 in
theorem R_year {d : Nat} {M : dk_Mem} {Q : Option Value → dk_Mem → Prop} {K : sg_K} (hK : rK K M) (hq : ∀ M2, rK (kf_year K).2 M2 → dk_fr rA M M2 → Q (some (.int (kf_year K).1)) M2) : dk_Call (d + 8) mX12_year [.ref 104] M Q := by
  have hK0 := hK
  obtain ⟨⟨o, p1, p2, p3⟩, hr, ⟨f, hb, hT⟩, hsc, hz⟩ := hK0
  have o4 := o.2.2.2.1
  have o16 := o.2.1
  refine dk_enter [some (.ref 104)] (by decide) (fun _ => rfl) (fun _ => Nat.le_of_ble_eq_true rfl) ?_
  refine w_al0 (n := 1) dX12_year_0 rfl ?_
  refine w_cV0 (n := 4) pl_104 cl_12 s0_X12_isOver k_X12_121 (Nat.le_of_ble_eq_true rfl) dX12_year_1 rfl (r_isOver hr o (fun t1 => ?_) (fun t1 => ?_))
  · skip
    refine w_if_eq (n := 7) 12 dX12_year_4 (by decide) rfl (fun h => absurd h (by decide)) (fun _ => ?_)
    refine w_bipush (n := 9) (-4) dX12_year_7 (by decide) rfl ?_
    refine w_goto 16 dX12_year_9 (by decide) ?_
    refine w_retI dX12_year_16 rfl ?_
    first | exact dk_fin hq (if_pos t1) hK dk_fr.rf | exact dk_fin hq (if_neg (by omega)) (hK.yr (sg_lw_lt o) t1 g1 g2 g3) (rG_A g2)
  · skip
    refine w_if_eq (n := 7) 12 dX12_year_4 (by decide) rfl (fun _ => ?_) (fun h => absurd (by decide) h)
    refine w_al0 (n := 13) dX12_year_12 rfl ?_
    refine w_cV0 (n := 16) pl_104 cl_12 s0_X12_goesByItself k_X12_229 (Nat.le_of_ble_eq_true rfl) dX12_year_13 rfl (r_self hr o hb hT (fun M2 g1 g2 g3 => ?_))
    refine w_retI dX12_year_16 rfl ?_
    first | exact dk_fin hq (if_pos t1) hK dk_fr.rf | exact dk_fin hq (if_neg (by omega)) (hK.yr (sg_lw_lt o) t1 g1 g2 g3) (rG_A g2)

theorem R_on {d : Nat} {M : dk_Mem} {Q : Option Value → dk_Mem → Prop} {K : sg_K} (hK : rK K M) {n : Int32} (hq : ∀ M2, rK (kf_on K n).2 M2 → dk_fr rA M M2 → Q (some (.int (kf_on K n).1)) M2) : dk_Call (d + 9) mX12_on [.ref 104, .int n] M Q := by
  have hK0 := hK
  obtain ⟨⟨o, p1, p2, p3⟩, hr, ⟨f, hb, hT⟩, hsc, hz⟩ := hK0
  refine r_on hr o hb hT (fun z => dk_fin hq (congrArg (fun y => (y, K)) (if_neg z)) hK dk_fr.rf) (fun N hN e M2 g => dk_fin hq (congrArg (fun y => (y, K)) ?_) (hK.N g) (rN_A g))
  rw [if_pos (by rw [e]; exact ⟨nI_le (by omega) (by omega), nI_le hN (by decide)⟩), e, tN_nI (by omega)]
set_option maxRecDepth 20000 in
theorem r_whenX {d : Nat} {Q : Option Value → dk_Mem → Prop} {h : Nat} {M1 : dk_Mem} {x3 : Option Value} {x : Int32} (hx : 0 ≤ x) (hq : Q (some (.int x)) (dk_row M1 105 (dk_cp (M1.1 107) (M1.1 105) 621))) : dk_W (d + 8) mX12_when 30 [some (.ref 104), some (.int (nI h)), some (.int x), x3] [] M1 Q := by
  refine w_il2 (n := 31) dX12_when_30 rfl ?_
  refine w_if_ge (n := 34) 73 dX12_when_31 (by decide) rfl (fun z31 => ?_) (fun z31 => ?_)
  · skip
    refine w_al0 (n := 74) dX12_when_73 rfl ?_
    refine w_cV0 (n := 77) pl_104 cl_12 s0_X12_putsBack k_X12_202 (Nat.le_of_ble_eq_true rfl) dX12_when_74 rfl (r_putsBack ?_)
    refine w_il2 (n := 78) dX12_when_77 rfl ?_
    refine w_retI dX12_when_78 rfl ?_
    exact hq
  · skip
    exact absurd hx z31

set_option maxRecDepth 20000 in
theorem r_whenL {d : Nat} {M : dk_Mem} {Q : Option Value → dk_Mem → Prop} {w : sg_R} {nr : Nat} {f g : Nat → Int32} (hb : rb w nr f) {h : Nat} (h6 : h < 6) {T0 : Int32} (hq : ∀ M1, dk_fr rG M M1 → rW g M1 → Q (some (.int T0)) (dk_row M1 105 (dk_cp (M1.1 107) (M1.1 105) 621))) : ∀ (m n : Nat) (σ : Nat → Nat) (M1 : dk_Mem) (x3 : Option Value), n < m → sg_ok σ → σ 0 - σ 1 ≤ n → σ 6 = nr → rr σ M1 → rT f M1 → dk_fr rG M M1 → rW g M1 → sg_wh w true h n σ = T0 → dk_W (d + 8) mX12_when 30 [some (.ref 104), some (.int (nI h)), some (.int (-3)), x3] [] M1 Q := by
  intro m
  induction m with
  | zero => intro n σ M1 x3 h; omega
  | succ m ih =>
    intro n σ M1 x3 hnm o hn hs6 hr hT hf hW he
    subst hs6
    have o16 := o.2.1
    refine w_il2 (n := 31) dX12_when_30 rfl ?_
    refine w_if_ge (n := 34) 73 dX12_when_31 (by decide) rfl (fun h => absurd h (by decide)) (fun _ => ?_)
    refine w_al0 (n := 35) dX12_when_34 rfl ?_
    refine w_cV0 (n := 38) pl_104 cl_12 s0_X12_isOver k_X12_121 (Nat.le_of_ble_eq_true rfl) dX12_when_35 rfl (r_isOver hr o (fun t35 => ?_) (fun t35 => ?_))
    · skip
      refine w_if_ne (n := 41) 73 dX12_when_38 (by decide) rfl (fun _ => ?_) (fun h => absurd h (by decide))
      refine w_al0 (n := 74) dX12_when_73 rfl ?_
      refine w_cV0 (n := 77) pl_104 cl_12 s0_X12_putsBack k_X12_202 (Nat.le_of_ble_eq_true rfl) dX12_when_74 rfl (r_putsBack ?_)
      refine w_il2 (n := 78) dX12_when_77 rfl ?_
      refine w_retI dX12_when_78 rfl ?_
      have e0 : T0 = -3 := by
        rw [← he]
        rcases n with _ | n
        · rfl
        · rw [sg_wh, if_pos t35]
      subst e0
      exact hq M1 hf hW
    · skip
      refine w_if_ne (n := 41) 73 dX12_when_38 (by decide) rfl (fun h => absurd h (by decide)) (fun _ => ?_)
      refine w_al0 (n := 42) dX12_when_41 rfl ?_
      refine w_cV0 (n := 45) pl_104 cl_12 s0_X12_goesByItself k_X12_229 (Nat.le_of_ble_eq_true rfl) dX12_when_42 rfl (r_self hr o hb hT (fun M2 g1 g2 g3 => ?_))
      obtain ⟨n, rfl⟩ : ∃ n0, n = n0 + 1 := ⟨n - 1, by omega⟩
      have o2 := o.goes (w := w) (t := (sg_lw w σ)) (sg_lw_lt (w := w) o) (by omega)
      have b1 := o2.fal h6
      have he2 : (if (sg_goes w σ (sg_lw w σ)).1 (39 + 5 * h) = 1 then nI (σ 1) else sg_wh w true h n (sg_goes w σ (sg_lw w σ)).1) = T0 := by rw [← he]; exact (if_neg (show ¬ σ 0 ≤ σ 1 by omega)).symm
      refine w_is3 (n := 46) dX12_when_45 rfl rfl (by decide) ?_
      refine w_al0 (n := 47) dX12_when_46 rfl ?_
      refine w_il1 (n := 48) dX12_when_47 rfl ?_
      refine w_iconst (n := 49) (nI 4) dX12_when_48 (by decide) rfl ?_
      refine w_cV2 (n := 52) pl_104 cl_12 s0_X12_of k_X12_69 (Nat.le_of_ble_eq_true rfl) dX12_when_49 rfl (r_of (h := h) (w := 4) (by omega) (g1.fal h6) ?_)
      refine w_iconst (n := 53) (nI 1) dX12_when_52 (by decide) rfl ?_
      refine w_ic_ne (n := 56) 67 dX12_when_53 (by decide) rfl (fun z53 => ?_) (fun z53 => ?_)
      · skip
        refine w_bipush (n := 69) (-3) dX12_when_67 (by decide) rfl ?_
        refine w_is2 (n := 70) dX12_when_69 rfl rfl (by decide) ?_
        refine w_goto 30 dX12_when_70 (by decide) ?_
        first | exact ih n _ M2 _ (by omega) o2 (by rw [sg_goes_1, sg_goes_o (by omega) (by omega)]; omega) (sg_goes_o (by omega) (by omega)) g1 (hT.fr g2) (hf.tr g2) (hW.fr g2 nG7) (by rw [if_neg (fun z => z53 (by rw [z]))] at he2; exact he2) | (rw [if_pos ((nI_eq (by omega) (by decide)).mp z53)] at he2; rw [q_pm1 (by omega), show σ 1 + 1 - 1 = σ 1 by omega, he2]; exact r_whenX (by rw [← he2]; exact nI_pos' (by omega)) (hq M2 (hf.tr g2) (hW.fr g2 nG7)))
      · skip
        refine w_al0 (n := 57) dX12_when_56 rfl ?_
        refine g_R (n := 60) f_X12_9_12 pl_104 rf_104_0 dX12_when_57 rfl ?_
        refine w_iconst (n := 61) (nI 1) dX12_when_60 (by decide) rfl ?_
        refine i_iald (n := 62) pl_105 (j := 1) rfl (by decide) (by decide) ((g1 1 (by decide) (by decide) (by decide)).trans (by rw [sg_goes_1])) dX12_when_61 rfl ?_
        refine w_iconst (n := 63) (nI 1) dX12_when_62 (by decide) rfl ?_
        refine w_isub (n := 64) dX12_when_63 rfl ?_
        refine w_goto 69 dX12_when_64 (by decide) ?_
        refine w_is2 (n := 70) dX12_when_69 rfl rfl (by decide) ?_
        refine w_goto 30 dX12_when_70 (by decide) ?_
        first | exact ih n _ M2 _ (by omega) o2 (by rw [sg_goes_1, sg_goes_o (by omega) (by omega)]; omega) (sg_goes_o (by omega) (by omega)) g1 (hT.fr g2) (hf.tr g2) (hW.fr g2 nG7) (by rw [if_neg (fun z => z53 (by rw [z]))] at he2; exact he2) | (rw [if_pos ((nI_eq (by omega) (by decide)).mp z53)] at he2; rw [q_pm1 (by omega), show σ 1 + 1 - 1 = σ 1 by omega, he2]; exact r_whenX (by rw [← he2]; exact nI_pos' (by omega)) (hq M2 (hf.tr g2) (hW.fr g2 nG7)))

set_option maxRecDepth 20000 in
theorem R_when {d : Nat} {M : dk_Mem} {Q : Option Value → dk_Mem → Prop} {K : sg_K} (hK : rK K M) {k : Int32} (hq : ∀ M2, rK (kf_first true K k).2 M2 → dk_fr rA M M2 → Q (some (.int (kf_first true K k).1)) M2) : dk_Call (d + 9) mX12_when [.ref 104, .int k] M Q := by
  have hK0 := hK
  obtain ⟨⟨o, p1, p2, p3⟩, hr, ⟨f, hb, hT⟩, hsc, hz⟩ := hK0
  have o4 := o.2.2.2.1
  have o16 := o.2.1
  refine dk_enter [some (.ref 104), some (.int k), none, none] (by decide) (fun _ => rfl) (fun _ => Nat.le_of_ble_eq_true rfl) ?_
  refine w_al0 (n := 1) dX12_when_0 rfl ?_
  refine w_il1 (n := 2) dX12_when_1 rfl ?_
  refine w_cV1 (n := 5) pl_104 cl_12 s0_X12_isPiece k_X12_109 (Nat.le_of_ble_eq_true rfl) dX12_when_2 rfl (r_isPiece hr o (fun h hh e => ?_) (fun nh => ?_))
  · skip
    subst e
    have h6 : h < 6 := by omega
    refine w_if_ne (n := 8) 10 dX12_when_5 (by decide) rfl (fun _ => ?_) (fun h => absurd h (by decide))
    refine w_al0 (n := 11) dX12_when_10 rfl ?_
    refine w_il1 (n := 12) dX12_when_11 rfl ?_
    refine w_iconst (n := 13) (nI 4) dX12_when_12 (by decide) rfl ?_
    refine w_cV2 (n := 16) pl_104 cl_12 s0_X12_of k_X12_69 (Nat.le_of_ble_eq_true rfl) dX12_when_13 rfl (r_of (h := h) (w := 4) (by omega) (hr.fal h6) ?_)
    refine w_iconst (n := 17) (nI 1) dX12_when_16 (by decide) rfl ?_
    refine w_ic_ne (n := 20) 23 dX12_when_17 (by decide) rfl (fun z17 => ?_) (fun z17 => ?_)
    · skip
      refine w_al0 (n := 24) dX12_when_23 rfl ?_
      refine w_cV0 (n := 27) pl_104 cl_12 s0_X12_thinks k_X12_196 (Nat.le_of_ble_eq_true rfl) dX12_when_24 rfl (r_thinks ?_)
      have hf1 := rN_thinks (M := M)
      have hr1 := hr.N hf1
      have hT1 := hT.N hf1
      refine w_bipush (n := 29) (-3) dX12_when_27 (by decide) rfl ?_
      refine w_is2 (n := 30) dX12_when_29 rfl rfl (by decide) ?_
      have b1 := o.fal h6
      refine r_whenL hb h6 (T0 := sg_wh K.2.1 true h 16 K.1) (g := M.1 105) (fun M1 g1 g2 => ?_) 17 16 K.1 _ _ (by omega) o (by omega) rfl hr1 hT1 dk_fr.rf (fun k hk => by rw [dk_row_at]; exact if_pos hk) rfl
      have g9 := hf1.tr (r_back g1 g2 (fun k hk => ((hf1.2 105 k (by rintro (z | z | z | z | z) <;> omega))).symm))
      refine dk_fin hq (by unfold kf_first; rw [sg_pc_some o4 hh]; exact congrArg (fun y => (y, K)) (if_neg (fun z => z17 (by rw [z])))) (hK.N g9) (rN_A g9)
    · skip
      refine w_bipush (n := 22) (-3) dX12_when_20 (by decide) rfl ?_
      refine w_retI dX12_when_22 rfl ?_
      have b1 := o.fal h6
      exact dk_fin hq (by unfold kf_first; rw [sg_pc_some o4 hh]; exact congrArg (fun y => (y, K)) (if_pos ((nI_eq (by omega) (by decide)).mp z17))) hK dk_fr.rf
  · skip
    refine w_if_ne (n := 8) 10 dX12_when_5 (by decide) rfl (fun h => absurd h (by decide)) (fun _ => ?_)
    refine w_iconst (n := 9) (-1) dX12_when_8 (by decide) rfl ?_
    refine w_retI dX12_when_9 rfl ?_
    exact dk_fin hq (by unfold kf_first; rw [sg_pc_none o4 nh]) hK dk_fr.rf

set_option maxRecDepth 20000 in
theorem r_itselfX {d : Nat} {Q : Option Value → dk_Mem → Prop} {h : Nat} {M1 : dk_Mem} {x3 : Option Value} {x : Int32} (hx : 0 ≤ x) (hq : Q (some (.int x)) (dk_row M1 105 (dk_cp (M1.1 107) (M1.1 105) 621))) : dk_W (d + 8) mX12_itself 30 [some (.ref 104), some (.int (nI h)), some (.int x), x3] [] M1 Q := by
  refine w_il2 (n := 31) dX12_itself_30 rfl ?_
  refine w_if_ge (n := 34) 74 dX12_itself_31 (by decide) rfl (fun z31 => ?_) (fun z31 => ?_)
  · skip
    refine w_al0 (n := 75) dX12_itself_74 rfl ?_
    refine w_cV0 (n := 78) pl_104 cl_12 s0_X12_putsBack k_X12_202 (Nat.le_of_ble_eq_true rfl) dX12_itself_75 rfl (r_putsBack ?_)
    refine w_il2 (n := 79) dX12_itself_78 rfl ?_
    refine w_retI dX12_itself_79 rfl ?_
    exact hq
  · skip
    exact absurd hx z31

set_option maxRecDepth 20000 in
theorem r_itselfL {d : Nat} {M : dk_Mem} {Q : Option Value → dk_Mem → Prop} {w : sg_R} {nr : Nat} {f g : Nat → Int32} (hb : rb w nr f) {h : Nat} (h6 : h < 6) {T0 : Int32} (hq : ∀ M1, dk_fr rG M M1 → rW g M1 → Q (some (.int T0)) (dk_row M1 105 (dk_cp (M1.1 107) (M1.1 105) 621))) : ∀ (m n : Nat) (σ : Nat → Nat) (M1 : dk_Mem) (x3 : Option Value), n < m → sg_ok σ → σ 0 - σ 1 ≤ n → σ 6 = nr → rr σ M1 → rT f M1 → dk_fr rG M M1 → rW g M1 → sg_wh w false h n σ = T0 → dk_W (d + 8) mX12_itself 30 [some (.ref 104), some (.int (nI h)), some (.int (-3)), x3] [] M1 Q := by
  intro m
  induction m with
  | zero => intro n σ M1 x3 h; omega
  | succ m ih =>
    intro n σ M1 x3 hnm o hn hs6 hr hT hf hW he
    subst hs6
    have o16 := o.2.1
    refine w_il2 (n := 31) dX12_itself_30 rfl ?_
    refine w_if_ge (n := 34) 74 dX12_itself_31 (by decide) rfl (fun h => absurd h (by decide)) (fun _ => ?_)
    refine w_al0 (n := 35) dX12_itself_34 rfl ?_
    refine w_cV0 (n := 38) pl_104 cl_12 s0_X12_isOver k_X12_121 (Nat.le_of_ble_eq_true rfl) dX12_itself_35 rfl (r_isOver hr o (fun t35 => ?_) (fun t35 => ?_))
    · skip
      refine w_if_ne (n := 41) 74 dX12_itself_38 (by decide) rfl (fun _ => ?_) (fun h => absurd h (by decide))
      refine w_al0 (n := 75) dX12_itself_74 rfl ?_
      refine w_cV0 (n := 78) pl_104 cl_12 s0_X12_putsBack k_X12_202 (Nat.le_of_ble_eq_true rfl) dX12_itself_75 rfl (r_putsBack ?_)
      refine w_il2 (n := 79) dX12_itself_78 rfl ?_
      refine w_retI dX12_itself_79 rfl ?_
      have e0 : T0 = -3 := by
        rw [← he]
        rcases n with _ | n
        · rfl
        · rw [sg_wh, if_pos t35]
      subst e0
      exact hq M1 hf hW
    · skip
      refine w_if_ne (n := 41) 74 dX12_itself_38 (by decide) rfl (fun h => absurd h (by decide)) (fun _ => ?_)
      refine w_al0 (n := 42) dX12_itself_41 rfl ?_
      refine w_iconst (n := 43) (-1) dX12_itself_42 (by decide) rfl ?_
      refine w_cV1 (n := 46) pl_104 cl_12 s0_X12_goes k_X12_226 (Nat.le_of_ble_eq_true rfl) dX12_itself_43 rfl (r_goesN hr o hb hT (fun M2 g1 g2 g3 => ?_))
      obtain ⟨n, rfl⟩ : ∃ n0, n = n0 + 1 := ⟨n - 1, by omega⟩
      have o2 := o.goes (w := w) (t := none) (fun h0 e => by cases e) (by omega)
      have b1 := o2.fal h6
      have he2 : (if (sg_goes w σ none).1 (39 + 5 * h) = 1 then nI (σ 1) else sg_wh w false h n (sg_goes w σ none).1) = T0 := by rw [← he]; exact (if_neg (show ¬ σ 0 ≤ σ 1 by omega)).symm
      refine w_is3 (n := 47) dX12_itself_46 rfl rfl (by decide) ?_
      refine w_al0 (n := 48) dX12_itself_47 rfl ?_
      refine w_il1 (n := 49) dX12_itself_48 rfl ?_
      refine w_iconst (n := 50) (nI 4) dX12_itself_49 (by decide) rfl ?_
      refine w_cV2 (n := 53) pl_104 cl_12 s0_X12_of k_X12_69 (Nat.le_of_ble_eq_true rfl) dX12_itself_50 rfl (r_of (h := h) (w := 4) (by omega) (g1.fal h6) ?_)
      refine w_iconst (n := 54) (nI 1) dX12_itself_53 (by decide) rfl ?_
      refine w_ic_ne (n := 57) 68 dX12_itself_54 (by decide) rfl (fun z54 => ?_) (fun z54 => ?_)
      · skip
        refine w_bipush (n := 70) (-3) dX12_itself_68 (by decide) rfl ?_
        refine w_is2 (n := 71) dX12_itself_70 rfl rfl (by decide) ?_
        refine w_goto 30 dX12_itself_71 (by decide) ?_
        first | exact ih n _ M2 _ (by omega) o2 (by rw [sg_goes_1, sg_goes_o (by omega) (by omega)]; omega) (sg_goes_o (by omega) (by omega)) g1 (hT.fr g2) (hf.tr g2) (hW.fr g2 nG7) (by rw [if_neg (fun z => z54 (by rw [z]))] at he2; exact he2) | (rw [if_pos ((nI_eq (by omega) (by decide)).mp z54)] at he2; rw [q_pm1 (by omega), show σ 1 + 1 - 1 = σ 1 by omega, he2]; exact r_itselfX (by rw [← he2]; exact nI_pos' (by omega)) (hq M2 (hf.tr g2) (hW.fr g2 nG7)))
      · skip
        refine w_al0 (n := 58) dX12_itself_57 rfl ?_
        refine g_R (n := 61) f_X12_9_12 pl_104 rf_104_0 dX12_itself_58 rfl ?_
        refine w_iconst (n := 62) (nI 1) dX12_itself_61 (by decide) rfl ?_
        refine i_iald (n := 63) pl_105 (j := 1) rfl (by decide) (by decide) ((g1 1 (by decide) (by decide) (by decide)).trans (by rw [sg_goes_1])) dX12_itself_62 rfl ?_
        refine w_iconst (n := 64) (nI 1) dX12_itself_63 (by decide) rfl ?_
        refine w_isub (n := 65) dX12_itself_64 rfl ?_
        refine w_goto 70 dX12_itself_65 (by decide) ?_
        refine w_is2 (n := 71) dX12_itself_70 rfl rfl (by decide) ?_
        refine w_goto 30 dX12_itself_71 (by decide) ?_
        first | exact ih n _ M2 _ (by omega) o2 (by rw [sg_goes_1, sg_goes_o (by omega) (by omega)]; omega) (sg_goes_o (by omega) (by omega)) g1 (hT.fr g2) (hf.tr g2) (hW.fr g2 nG7) (by rw [if_neg (fun z => z54 (by rw [z]))] at he2; exact he2) | (rw [if_pos ((nI_eq (by omega) (by decide)).mp z54)] at he2; rw [q_pm1 (by omega), show σ 1 + 1 - 1 = σ 1 by omega, he2]; exact r_itselfX (by rw [← he2]; exact nI_pos' (by omega)) (hq M2 (hf.tr g2) (hW.fr g2 nG7)))

set_option maxRecDepth 20000 in
theorem R_itself {d : Nat} {M : dk_Mem} {Q : Option Value → dk_Mem → Prop} {K : sg_K} (hK : rK K M) {k : Int32} (hq : ∀ M2, rK (kf_first false K k).2 M2 → dk_fr rA M M2 → Q (some (.int (kf_first false K k).1)) M2) : dk_Call (d + 9) mX12_itself [.ref 104, .int k] M Q := by
  have hK0 := hK
  obtain ⟨⟨o, p1, p2, p3⟩, hr, ⟨f, hb, hT⟩, hsc, hz⟩ := hK0
  have o4 := o.2.2.2.1
  have o16 := o.2.1
  refine dk_enter [some (.ref 104), some (.int k), none, none] (by decide) (fun _ => rfl) (fun _ => Nat.le_of_ble_eq_true rfl) ?_
  refine w_al0 (n := 1) dX12_itself_0 rfl ?_
  refine w_il1 (n := 2) dX12_itself_1 rfl ?_
  refine w_cV1 (n := 5) pl_104 cl_12 s0_X12_isPiece k_X12_109 (Nat.le_of_ble_eq_true rfl) dX12_itself_2 rfl (r_isPiece hr o (fun h hh e => ?_) (fun nh => ?_))
  · skip
    subst e
    have h6 : h < 6 := by omega
    refine w_if_ne (n := 8) 10 dX12_itself_5 (by decide) rfl (fun _ => ?_) (fun h => absurd h (by decide))
    refine w_al0 (n := 11) dX12_itself_10 rfl ?_
    refine w_il1 (n := 12) dX12_itself_11 rfl ?_
    refine w_iconst (n := 13) (nI 4) dX12_itself_12 (by decide) rfl ?_
    refine w_cV2 (n := 16) pl_104 cl_12 s0_X12_of k_X12_69 (Nat.le_of_ble_eq_true rfl) dX12_itself_13 rfl (r_of (h := h) (w := 4) (by omega) (hr.fal h6) ?_)
    refine w_iconst (n := 17) (nI 1) dX12_itself_16 (by decide) rfl ?_
    refine w_ic_ne (n := 20) 23 dX12_itself_17 (by decide) rfl (fun z17 => ?_) (fun z17 => ?_)
    · skip
      refine w_al0 (n := 24) dX12_itself_23 rfl ?_
      refine w_cV0 (n := 27) pl_104 cl_12 s0_X12_thinks k_X12_196 (Nat.le_of_ble_eq_true rfl) dX12_itself_24 rfl (r_thinks ?_)
      have hf1 := rN_thinks (M := M)
      have hr1 := hr.N hf1
      have hT1 := hT.N hf1
      refine w_bipush (n := 29) (-3) dX12_itself_27 (by decide) rfl ?_
      refine w_is2 (n := 30) dX12_itself_29 rfl rfl (by decide) ?_
      have b1 := o.fal h6
      refine r_itselfL hb h6 (T0 := sg_wh K.2.1 false h 16 K.1) (g := M.1 105) (fun M1 g1 g2 => ?_) 17 16 K.1 _ _ (by omega) o (by omega) rfl hr1 hT1 dk_fr.rf (fun k hk => by rw [dk_row_at]; exact if_pos hk) rfl
      have g9 := hf1.tr (r_back g1 g2 (fun k hk => ((hf1.2 105 k (by rintro (z | z | z | z | z) <;> omega))).symm))
      refine dk_fin hq (by unfold kf_first; rw [sg_pc_some o4 hh]; exact congrArg (fun y => (y, K)) (if_neg (fun z => z17 (by rw [z])))) (hK.N g9) (rN_A g9)
    · skip
      refine w_bipush (n := 22) (-3) dX12_itself_20 (by decide) rfl ?_
      refine w_retI dX12_itself_22 rfl ?_
      have b1 := o.fal h6
      exact dk_fin hq (by unfold kf_first; rw [sg_pc_some o4 hh]; exact congrArg (fun y => (y, K)) (if_pos ((nI_eq (by omega) (by decide)).mp z17))) hK dk_fr.rf
  · skip
    refine w_if_ne (n := 8) 10 dX12_itself_5 (by decide) rfl (fun h => absurd h (by decide)) (fun _ => ?_)
    refine w_iconst (n := 9) (-1) dX12_itself_8 (by decide) rfl ?_
    refine w_retI dX12_itself_9 rfl ?_
    exact dk_fin hq (by unfold kf_first; rw [sg_pc_none o4 nh]) hK dk_fr.rf

set_option maxRecDepth 20000 in
theorem r_leastL {d : Nat} {M : dk_Mem} {Q : Option Value → dk_Mem → Prop} {σ : Nat → Nat} (hr : rr σ M) (o : sg_ok σ) {h : Nat} (h6 : h < 6) {T0 : Int32} (hq : Q (some (.int T0)) M) : ∀ (n k : Nat), k ≤ 4 → 4 - k < n → (∀ j, j < k → ¬ sg_bears σ h ≤ σ (36 + 5 * h) + 6 * j) → (k < 4 → sg_bears σ h ≤ σ (36 + 5 * h) + 6 * k → T0 = nI k) → ((∀ j, j < 4 → ¬ sg_bears σ h ≤ σ (36 + 5 * h) + 6 * j) → T0 = -3) → (∀ i, k < i → i < 4 → (∀ j, j < i → ¬ sg_bears σ h ≤ σ (36 + 5 * h) + 6 * j) → sg_bears σ h ≤ σ (36 + 5 * h) + 6 * i → T0 = nI i) → dk_W (d + 2) mX12_least 26 [some (.ref 104), some (.int (nI h)), some (.int (nI k))] [] M Q := by
  have b1 := o.lean h6
  have b2 := o.bears h6
  intro n
  induction n with
  | zero => intro i _ h; omega
  | succ n ih =>
    intro k hi hn a1 a2 a3 a4
    refine w_il2 (n := 27) dX12_least_26 rfl ?_
    refine w_iconst (n := 28) (nI 4) dX12_least_27 (by decide) rfl ?_
    refine w_ic_ge (n := 31) 56 dX12_least_28 (by decide) rfl (fun z28 => ?_) (fun z28 => ?_)
    · skip
      refine w_il2 (n := 57) dX12_least_56 rfl ?_
      refine w_iconst (n := 58) (nI 4) dX12_least_57 (by decide) rfl ?_
      refine w_ic_ge (n := 61) 65 dX12_least_58 (by decide) rfl (fun z58 => ?_) (fun z58 => ?_)
      · skip
        refine w_bipush (n := 67) (-3) dX12_least_65 (by decide) rfl ?_
        refine w_retI dX12_least_67 rfl ?_
        first | (rw [q_le (by decide) (by omega)] at z28; rw [show k = 4 by omega] at a1; rw [a3 a1] at hq; first | exact hq | exact absurd z58 (by rw [q_le (by decide) (by omega)]; omega)) | (rw [q_le (by decide) (by omega)] at z28; rw [pk_mul, nI_add, q_le (by omega) (by omega)] at z47; rw [a2 (by omega) z47] at hq; first | exact hq | exact absurd z58 (by rw [q_le (by decide) (by omega)]; omega))
      · skip
        refine w_il2 (n := 62) dX12_least_61 rfl ?_
        refine w_goto 67 dX12_least_62 (by decide) ?_
        refine w_retI dX12_least_67 rfl ?_
        first | (rw [q_le (by decide) (by omega)] at z28; rw [show k = 4 by omega] at a1; rw [a3 a1] at hq; first | exact hq | exact absurd z58 (by rw [q_le (by decide) (by omega)]; omega)) | (rw [q_le (by decide) (by omega)] at z28; rw [pk_mul, nI_add, q_le (by omega) (by omega)] at z47; rw [a2 (by omega) z47] at hq; first | exact hq | exact absurd z58 (by rw [q_le (by decide) (by omega)]; omega))
    · skip
      refine w_al0 (n := 32) dX12_least_31 rfl ?_
      refine w_il1 (n := 33) dX12_least_32 rfl ?_
      refine w_iconst (n := 34) (nI 1) dX12_least_33 (by decide) rfl ?_
      refine w_cV2 (n := 37) pl_104 cl_12 s0_X12_of k_X12_69 (Nat.le_of_ble_eq_true rfl) dX12_least_34 rfl (r_of (h := h) (w := 1) (by omega) (hr.lean h6) ?_)
      refine w_bipush (n := 39) (nI 6) dX12_least_37 (by decide) rfl ?_
      refine w_il2 (n := 40) dX12_least_39 rfl ?_
      refine w_imul (n := 41) dX12_least_40 rfl ?_
      refine w_iadd (n := 42) dX12_least_41 rfl ?_
      refine w_al0 (n := 43) dX12_least_42 rfl ?_
      refine w_il1 (n := 44) dX12_least_43 rfl ?_
      refine w_cV1 (n := 47) pl_104 cl_12 s0_X12_bearsOf k_X12_88 (Nat.le_of_ble_eq_true rfl) dX12_least_44 rfl (r_bearsOf hr o h6 ?_)
      refine w_ic_ge (n := 50) 56 dX12_least_47 (by decide) rfl (fun z47 => ?_) (fun z47 => ?_)
      · skip
        refine w_il2 (n := 57) dX12_least_56 rfl ?_
        refine w_iconst (n := 58) (nI 4) dX12_least_57 (by decide) rfl ?_
        refine w_ic_ge (n := 61) 65 dX12_least_58 (by decide) rfl (fun z58 => ?_) (fun z58 => ?_)
        · skip
          refine w_bipush (n := 67) (-3) dX12_least_65 (by decide) rfl ?_
          refine w_retI dX12_least_67 rfl ?_
          first | (rw [q_le (by decide) (by omega)] at z28; rw [show k = 4 by omega] at a1; rw [a3 a1] at hq; first | exact hq | exact absurd z58 (by rw [q_le (by decide) (by omega)]; omega)) | (rw [q_le (by decide) (by omega)] at z28; rw [pk_mul, nI_add, q_le (by omega) (by omega)] at z47; rw [a2 (by omega) z47] at hq; first | exact hq | exact absurd z58 (by rw [q_le (by decide) (by omega)]; omega))
        · skip
          refine w_il2 (n := 62) dX12_least_61 rfl ?_
          refine w_goto 67 dX12_least_62 (by decide) ?_
          refine w_retI dX12_least_67 rfl ?_
          first | (rw [q_le (by decide) (by omega)] at z28; rw [show k = 4 by omega] at a1; rw [a3 a1] at hq; first | exact hq | exact absurd z58 (by rw [q_le (by decide) (by omega)]; omega)) | (rw [q_le (by decide) (by omega)] at z28; rw [pk_mul, nI_add, q_le (by omega) (by omega)] at z47; rw [a2 (by omega) z47] at hq; first | exact hq | exact absurd z58 (by rw [q_le (by decide) (by omega)]; omega))
      · skip
        refine w_inc2 (n := 53) (nI 1) dX12_least_50 (by decide) rfl rfl (by decide) ?_
        refine w_goto 26 dX12_least_53 (by decide) ?_
        have c1 : ¬ sg_bears σ h ≤ σ (36 + 5 * h) + 6 * k := by rw [pk_mul, nI_add, q_le (by omega) (by omega)] at z47; exact z47
        have k4 : k < 4 := by rw [q_le (by decide) (by omega)] at z28; omega
        rw [nI_add]
        exact ih (k + 1) (by omega) (by omega) (fun j hj => by rcases (show j < k ∨ j = k by omega) with e | e; exact a1 j e; (rw [e]; exact c1)) (fun g1 g2 => a4 (k + 1) (by omega) g1 (fun j hj => by rcases (show j < k ∨ j = k by omega) with e | e; exact a1 j e; (rw [e]; exact c1)) g2) a3 (fun i g1 g2 => a4 i (by omega) g2)

set_option maxRecDepth 20000 in
theorem r_leastX {d : Nat} {M : dk_Mem} {Q : Option Value → dk_Mem → Prop} {σ : Nat → Nat} (hr : rr σ M) {h : Nat} (hq : Q (some (.int (-3))) M) : dk_W (d + 2) mX12_least 26 [some (.ref 104), some (.int (nI h)), some (.int (nI 4))] [] M Q := by
  refine w_il2 (n := 27) dX12_least_26 rfl ?_
  refine w_iconst (n := 28) (nI 4) dX12_least_27 (by decide) rfl ?_
  refine w_ic_ge (n := 31) 56 dX12_least_28 (by decide) rfl (fun _ => ?_) (fun h => absurd (by decide) h)
  refine w_il2 (n := 57) dX12_least_56 rfl ?_
  refine w_iconst (n := 58) (nI 4) dX12_least_57 (by decide) rfl ?_
  refine w_ic_ge (n := 61) 65 dX12_least_58 (by decide) rfl (fun _ => ?_) (fun h => absurd (by decide) h)
  refine w_bipush (n := 67) (-3) dX12_least_65 (by decide) rfl ?_
  refine w_retI dX12_least_67 rfl ?_
  exact hq

set_option maxRecDepth 20000 in
theorem R_least {d : Nat} {M : dk_Mem} {Q : Option Value → dk_Mem → Prop} {K : sg_K} (hK : rK K M) {k : Int32} (hq : ∀ M2, rK (kf_least K k).2 M2 → dk_fr rA M M2 → Q (some (.int (kf_least K k).1)) M2) : dk_Call (d + 3) mX12_least [.ref 104, .int k] M Q := by
  have hK0 := hK
  obtain ⟨⟨o, p1, p2, p3⟩, hr, ⟨f, hb, hT⟩, hsc, hz⟩ := hK0
  have o4 := o.2.2.2.1
  have o16 := o.2.1
  refine dk_enter [some (.ref 104), some (.int k), none] (by decide) (fun _ => rfl) (fun _ => Nat.le_of_ble_eq_true rfl) ?_
  refine w_al0 (n := 1) dX12_least_0 rfl ?_
  refine w_il1 (n := 2) dX12_least_1 rfl ?_
  refine w_cV1 (n := 5) pl_104 cl_12 s0_X12_isPiece k_X12_109 (Nat.le_of_ble_eq_true rfl) dX12_least_2 rfl (r_isPiece hr o (fun h hh e => ?_) (fun nh => ?_))
  · skip
    subst e
    have h6 : h < 6 := by omega
    refine w_if_ne (n := 8) 10 dX12_least_5 (by decide) rfl (fun _ => ?_) (fun h => absurd h (by decide))
    refine w_al0 (n := 11) dX12_least_10 rfl ?_
    refine w_il1 (n := 12) dX12_least_11 rfl ?_
    refine w_iconst (n := 13) (nI 4) dX12_least_12 (by decide) rfl ?_
    refine w_cV2 (n := 16) pl_104 cl_12 s0_X12_of k_X12_69 (Nat.le_of_ble_eq_true rfl) dX12_least_13 rfl (r_of (h := h) (w := 4) (by omega) (hr.fal h6) ?_)
    refine w_iconst (n := 17) (nI 1) dX12_least_16 (by decide) rfl ?_
    refine w_ic_ne (n := 20) 24 dX12_least_17 (by decide) rfl (fun z17 => ?_) (fun z17 => ?_)
    · skip
      refine w_iconst (n := 25) (nI 0) dX12_least_24 (by decide) rfl ?_
      refine w_is2 (n := 26) dX12_least_25 rfl rfl (by decide) ?_
      have b1 := o.fal h6
      have hq2 : Q (some (.int (sg_least K.1 h))) M := dk_fin hq (by unfold kf_least; rw [sg_pc_some o4 hh]) hK dk_fr.rf
      first | (have ef : K.1 (39 + 5 * h) = 1 := (nI_eq (by omega) (by decide)).mp z17; have el : sg_least K.1 h = -3 := if_pos ef; rw [el] at hq2; exact r_leastX hr hq2) | (have ef : ¬ K.1 (39 + 5 * h) = 1 := fun z => z17 (by rw [z]); unfold sg_least at hq2; rw [if_neg ef] at hq2; exact r_leastL hr o h6 hq2 5 0 (by omega) (by omega) (fun j hj => by omega) (fun _ g => if_pos (by omega)) (fun g => by rw [if_neg (by have := g 0; omega), if_neg (by have := g 1; omega), if_neg (by have := g 2; omega), if_neg (by have := g 3; omega)]) (fun i g1 g2 g3 g4 => by rcases (show i = 1 ∨ i = 2 ∨ i = 3 by omega) with rfl | rfl | rfl; (rw [if_neg (by have := g3 0; omega), if_pos (by omega)]); (rw [if_neg (by have := g3 0; omega), if_neg (by have := g3 1; omega), if_pos (by omega)]); (rw [if_neg (by have := g3 0; omega), if_neg (by have := g3 1; omega), if_neg (by have := g3 2; omega), if_pos (by omega)])))
    · skip
      refine w_iconst (n := 21) (nI 4) dX12_least_20 (by decide) rfl ?_
      refine w_goto 25 dX12_least_21 (by decide) ?_
      refine w_is2 (n := 26) dX12_least_25 rfl rfl (by decide) ?_
      have b1 := o.fal h6
      have hq2 : Q (some (.int (sg_least K.1 h))) M := dk_fin hq (by unfold kf_least; rw [sg_pc_some o4 hh]) hK dk_fr.rf
      first | (have ef : K.1 (39 + 5 * h) = 1 := (nI_eq (by omega) (by decide)).mp z17; have el : sg_least K.1 h = -3 := if_pos ef; rw [el] at hq2; exact r_leastX hr hq2) | (have ef : ¬ K.1 (39 + 5 * h) = 1 := fun z => z17 (by rw [z]); unfold sg_least at hq2; rw [if_neg ef] at hq2; exact r_leastL hr o h6 hq2 5 0 (by omega) (by omega) (fun j hj => by omega) (fun _ g => if_pos (by omega)) (fun g => by rw [if_neg (by have := g 0; omega), if_neg (by have := g 1; omega), if_neg (by have := g 2; omega), if_neg (by have := g 3; omega)]) (fun i g1 g2 g3 g4 => by rcases (show i = 1 ∨ i = 2 ∨ i = 3 by omega) with rfl | rfl | rfl; (rw [if_neg (by have := g3 0; omega), if_pos (by omega)]); (rw [if_neg (by have := g3 0; omega), if_neg (by have := g3 1; omega), if_pos (by omega)]); (rw [if_neg (by have := g3 0; omega), if_neg (by have := g3 1; omega), if_neg (by have := g3 2; omega), if_pos (by omega)])))
  · skip
    refine w_if_ne (n := 8) 10 dX12_least_5 (by decide) rfl (fun h => absurd h (by decide)) (fun _ => ?_)
    refine w_iconst (n := 9) (-1) dX12_least_8 (by decide) rfl ?_
    refine w_retI dX12_least_9 rfl ?_
    exact dk_fin hq (by unfold kf_least; rw [sg_pc_none o4 nh]) hK dk_fr.rf

theorem sg_nn_4 {w : sg_R} : ∀ n (σ : Nat → Nat), sg_nn w n σ 4 = σ 4
  | 0, σ => rfl
  | n + 1, σ => by
    rw [sg_nn]
    split
    · rfl
    · rw [sg_nn_4 n, sg_goes_o (by omega) (by omega)]
theorem sg_ok.nn {w : sg_R} : ∀ n (σ : Nat → Nat), sg_ok σ → sg_ok (sg_nn w n σ)
  | 0, σ, o => o
  | n + 1, σ, o => by
    rw [sg_nn]
    split
    · exact o
    · exact sg_ok.nn n _ (o.goes (fun h e => by cases e) (by have := o.2.1; omega))
set_option maxRecDepth 20000 in
theorem r_waveL {d : Nat} {M : dk_Mem} {Q : Option Value → dk_Mem → Prop} {N : Nat} (hN : N ≤ 16) {w : sg_R} {nr c : Nat} {f g : Nat → Int32} {h : Int32} (hb : rb w nr f) {T0 : Nat} (hq : ∀ M1, dk_fr rG M M1 → rW g M1 → Q (some (.int (nI T0))) (dk_row M1 105 (dk_cp (M1.1 107) (M1.1 105) 621))) : ∀ (n k : Nat) (σ : Nat → Nat) (M1 : dk_Mem) (x4 : Option Value), k ≤ N → N - k < n → sg_ok σ → σ 6 = nr → σ 4 = c → rr σ M1 → rT f M1 → dk_fr rG M M1 → rW g M1 → sg_set (sg_nn w (N - k) σ) c = T0 → dk_W (d + 8) mX12_wave 40 [some (.ref 104), some (.int h), some (.int (nI N)), some (.int (nI k)), x4] [] M1 Q := by
  intro n
  induction n with
  | zero => intro k _ _ _ _ h; omega
  | succ n ih =>
    intro k σ M1 x4 hi hn o hs6 hs4 hr hT hf hW he
    subst hs6
    subst hs4
    refine w_il3 (n := 41) dX12_wave_40 rfl ?_
    refine w_il2 (n := 42) dX12_wave_41 rfl ?_
    refine w_ic_ge (n := 45) 65 dX12_wave_42 (by decide) rfl (fun z42 => ?_) (fun z42 => ?_)
    · skip
      refine w_al0 (n := 66) dX12_wave_65 rfl ?_
      refine w_cV0 (n := 69) pl_104 cl_12 s0_X12_fallenOnes k_X12_125 (Nat.le_of_ble_eq_true rfl) dX12_wave_66 rfl (r_fallenOnes hr o ?_)
      refine w_is3 (n := 70) dX12_wave_69 rfl rfl (by decide) ?_
      refine w_al0 (n := 71) dX12_wave_70 rfl ?_
      refine w_cV0 (n := 74) pl_104 cl_12 s0_X12_putsBack k_X12_202 (Nat.le_of_ble_eq_true rfl) dX12_wave_71 rfl (r_putsBack ?_)
      refine w_il3 (n := 75) dX12_wave_74 rfl ?_
      refine w_retI dX12_wave_75 rfl ?_
      have e0 : sg_nn w (N - k) σ = σ := by
        first | (rw [show N - k = 0 by rw [q_le (by omega) (by omega)] at z42; omega]; rfl) | (rcases Nat.eq_zero_or_pos (N - k) with e | e; (rw [e]; rfl); (rw [show N - k = (N - k - 1) + 1 by omega, sg_nn, if_pos t46]))
      rw [e0] at he
      rw [he]
      exact hq M1 hf hW
    · skip
      refine w_al0 (n := 46) dX12_wave_45 rfl ?_
      refine w_cV0 (n := 49) pl_104 cl_12 s0_X12_isOver k_X12_121 (Nat.le_of_ble_eq_true rfl) dX12_wave_46 rfl (r_isOver hr o (fun t46 => ?_) (fun t46 => ?_))
      · skip
        refine w_if_ne (n := 52) 65 dX12_wave_49 (by decide) rfl (fun _ => ?_) (fun h => absurd h (by decide))
        refine w_al0 (n := 66) dX12_wave_65 rfl ?_
        refine w_cV0 (n := 69) pl_104 cl_12 s0_X12_fallenOnes k_X12_125 (Nat.le_of_ble_eq_true rfl) dX12_wave_66 rfl (r_fallenOnes hr o ?_)
        refine w_is3 (n := 70) dX12_wave_69 rfl rfl (by decide) ?_
        refine w_al0 (n := 71) dX12_wave_70 rfl ?_
        refine w_cV0 (n := 74) pl_104 cl_12 s0_X12_putsBack k_X12_202 (Nat.le_of_ble_eq_true rfl) dX12_wave_71 rfl (r_putsBack ?_)
        refine w_il3 (n := 75) dX12_wave_74 rfl ?_
        refine w_retI dX12_wave_75 rfl ?_
        have e0 : sg_nn w (N - k) σ = σ := by
          first | (rw [show N - k = 0 by rw [q_le (by omega) (by omega)] at z42; omega]; rfl) | (rcases Nat.eq_zero_or_pos (N - k) with e | e; (rw [e]; rfl); (rw [show N - k = (N - k - 1) + 1 by omega, sg_nn, if_pos t46]))
        rw [e0] at he
        rw [he]
        exact hq M1 hf hW
      · skip
        refine w_if_ne (n := 52) 65 dX12_wave_49 (by decide) rfl (fun h => absurd h (by decide)) (fun _ => ?_)
        refine w_al0 (n := 53) dX12_wave_52 rfl ?_
        refine w_iconst (n := 54) (-1) dX12_wave_53 (by decide) rfl ?_
        refine w_cV1 (n := 57) pl_104 cl_12 s0_X12_goes k_X12_226 (Nat.le_of_ble_eq_true rfl) dX12_wave_54 rfl (r_goesN hr o hb hT (fun M2 g1 g2 g3 => ?_))
        refine w_is4 (n := 59) dX12_wave_57 rfl rfl (by decide) ?_
        refine w_inc3 (n := 62) (nI 1) dX12_wave_59 (by decide) rfl rfl (by decide) ?_
        refine w_goto 40 dX12_wave_62 (by decide) ?_
        have hk : k < N := by rw [q_le (by omega) (by omega)] at z42; omega
        have e : sg_nn w (N - k) σ = sg_nn w (N - (k + 1)) (sg_goes w σ none).1 := by rw [show N - k = (N - (k + 1)) + 1 by omega, sg_nn, if_neg (by omega)]
        rw [e] at he
        rw [nI_add]
        have o0 := o.2.1
        exact ih (k + 1) _ M2 _ (by omega) (by omega) (o.goes (fun h e => by cases e) (by omega)) (sg_goes_o (by omega) (by omega)) (sg_goes_o (by omega) (by omega)) g1 (hT.fr g2) (hf.tr g2) (hW.fr g2 nG7) he

set_option maxRecDepth 20000 in
theorem R_wave {d : Nat} {M : dk_Mem} {Q : Option Value → dk_Mem → Prop} {K : sg_K} (hK : rK K M) {k n : Int32} (hq : ∀ M2, rK (kf_wave K k n).2 M2 → dk_fr rA M M2 → Q (some (.int (kf_wave K k n).1)) M2) : dk_Call (d + 9) mX12_wave [.ref 104, .int k, .int n] M Q := by
  have hK0 := hK
  obtain ⟨⟨o, p1, p2, p3⟩, hr, ⟨f, hb, hT⟩, hsc, hz⟩ := hK0
  have o4 := o.2.2.2.1
  have o16 := o.2.1
  refine dk_enter [some (.ref 104), some (.int k), some (.int n), none, none] (by decide) (fun _ => rfl) (fun _ => Nat.le_of_ble_eq_true rfl) ?_
  refine w_al0 (n := 1) dX12_wave_0 rfl ?_
  refine w_il1 (n := 2) dX12_wave_1 rfl ?_
  refine w_cV1 (n := 5) pl_104 cl_12 s0_X12_isPiece k_X12_109 (Nat.le_of_ble_eq_true rfl) dX12_wave_2 rfl (r_isPiece hr o (fun h hh e => ?_) (fun nh => ?_))
  · skip
    subst e
    have h6 : h < 6 := by omega
    refine w_if_eq (n := 8) 18 dX12_wave_5 (by decide) rfl (fun h => absurd h (by decide)) (fun _ => ?_)
    refine w_il2 (n := 9) dX12_wave_8 rfl ?_
    refine w_iconst (n := 10) (nI 0) dX12_wave_9 (by decide) rfl ?_
    refine w_bipush (n := 12) (nI 16) dX12_wave_10 (by decide) rfl ?_
    refine w_cS3 (n := 15) s0_X12_in k_X12_61 (Nat.le_of_ble_eq_true rfl) dX12_wave_12 rfl (r_in (fun t12 => ?_) (fun t12 => ?_))
    · skip
      refine w_if_ne (n := 18) 20 dX12_wave_15 (by decide) rfl (fun _ => ?_) (fun h => absurd h (by decide))
      refine w_al0 (n := 21) dX12_wave_20 rfl ?_
      refine w_cV0 (n := 24) pl_104 cl_12 s0_X12_thinks k_X12_196 (Nat.le_of_ble_eq_true rfl) dX12_wave_21 rfl (r_thinks ?_)
      have hf1 := rN_thinks (M := M)
      have hr1 := hr.N hf1
      have hT1 := hT.N hf1
      have hn := tN_of (n := 16) (by decide) t12.1 t12.2
      have b1 := o.fal h6
      have hW1 : rW (M.1 105) (dk_row M 107 (dk_cp (M.1 105) (M.1 107) 621)) := fun k hk => by rw [dk_row_at]; exact if_pos hk
      have hq2 : ∀ M1, dk_fr rG (dk_row M 107 (dk_cp (M.1 105) (M.1 107) 621)) M1 → rW (M.1 105) M1 → Q (some (.int (nI (sg_wave K.2.1 K.1 h (tN n))))) (dk_row M1 105 (dk_cp (M1.1 107) (M1.1 105) 621)) := fun M1 g1 g2 => by
        have g9 := hf1.tr (r_back g1 g2 (fun k hk => ((hf1.2 105 k (by rintro (z | z | z | z | z) <;> omega))).symm))
        exact dk_fin hq (by unfold kf_wave; rw [sg_pc_some o4 hh]; exact if_pos t12) (hK.N g9) (rN_A g9)
      have e9 := hn.1
      generalize tN n = N at e9 hn hq2
      subst e9
      refine w_al0 (n := 25) dX12_wave_24 rfl ?_
      refine w_il1 (n := 26) dX12_wave_25 rfl ?_
      refine w_iconst (n := 27) (nI 4) dX12_wave_26 (by decide) rfl ?_
      refine w_cV2 (n := 30) pl_104 cl_12 s0_X12_of k_X12_69 (Nat.le_of_ble_eq_true rfl) dX12_wave_27 rfl (r_of (h := h) (w := 4) (by omega) (hr1.fal h6) ?_)
      refine w_if_ne (n := 33) 38 dX12_wave_30 (by decide) rfl (fun z30 => ?_) (fun z30 => ?_)
      · skip
        refine w_iconst (n := 39) (nI 0) dX12_wave_38 (by decide) rfl ?_
        refine w_is3 (n := 40) dX12_wave_39 rfl rfl (by decide) ?_
        first | (have ef : ¬ K.1 (39 + 5 * h) = 0 := (fun z => z30 ((q_nz (by omega)).mpr z)); exact r_waveL hn.2 hb hq2 (N + 1) 0 K.1 _ _ (by omega) (by omega) o rfl rfl hr1 hT1 dk_fr.rf hW1 (by unfold sg_wave; rw [if_neg ef]; rfl)) | (have ef : K.1 (39 + 5 * h) = 0 := (q_nz (by omega)).mp z30; exact r_waveL hn.2 hb hq2 (N + 1) 0 (sg_falls K.1 h) _ _ (by omega) (by omega) o.falls (sg_falls_o (by omega) (by omega)) (sg_falls_o (by omega) (by omega)) g1 (hT1.fr (frSG g2)) (frSG g2) (hW1.fr (frSG g2) nG7) (by unfold sg_wave; rw [if_pos ef]; rfl))
      · skip
        refine w_al0 (n := 34) dX12_wave_33 rfl ?_
        refine w_il1 (n := 35) dX12_wave_34 rfl ?_
        refine w_cV1 (n := 38) pl_104 cl_12 s0_X12_falls k_X12_217 (Nat.le_of_ble_eq_true rfl) dX12_wave_35 rfl (r_falls hr1 o h6 (fun M3 g1 g2 => ?_))
        refine w_iconst (n := 39) (nI 0) dX12_wave_38 (by decide) rfl ?_
        refine w_is3 (n := 40) dX12_wave_39 rfl rfl (by decide) ?_
        first | (have ef : ¬ K.1 (39 + 5 * h) = 0 := (fun z => z30 ((q_nz (by omega)).mpr z)); exact r_waveL hn.2 hb hq2 (N + 1) 0 K.1 _ _ (by omega) (by omega) o rfl rfl hr1 hT1 dk_fr.rf hW1 (by unfold sg_wave; rw [if_neg ef]; rfl)) | (have ef : K.1 (39 + 5 * h) = 0 := (q_nz (by omega)).mp z30; exact r_waveL hn.2 hb hq2 (N + 1) 0 (sg_falls K.1 h) _ _ (by omega) (by omega) o.falls (sg_falls_o (by omega) (by omega)) (sg_falls_o (by omega) (by omega)) g1 (hT1.fr (frSG g2)) (frSG g2) (hW1.fr (frSG g2) nG7) (by unfold sg_wave; rw [if_pos ef]; rfl))
    · skip
      refine w_if_ne (n := 18) 20 dX12_wave_15 (by decide) rfl (fun h => absurd h (by decide)) (fun _ => ?_)
      refine w_iconst (n := 19) (-1) dX12_wave_18 (by decide) rfl ?_
      refine w_retI dX12_wave_19 rfl ?_
      first | exact dk_fin hq (by unfold kf_wave; rw [sg_pc_none o4 nh]) hK dk_fr.rf | exact dk_fin hq (by unfold kf_wave; rw [sg_pc_some o4 hh]; exact if_neg t12) hK dk_fr.rf
  · skip
    refine w_if_eq (n := 8) 18 dX12_wave_5 (by decide) rfl (fun _ => ?_) (fun h => absurd (by decide) h)
    refine w_iconst (n := 19) (-1) dX12_wave_18 (by decide) rfl ?_
    refine w_retI dX12_wave_19 rfl ?_
    first | exact dk_fin hq (by unfold kf_wave; rw [sg_pc_none o4 nh]) hK dk_fr.rf | exact dk_fin hq (by unfold kf_wave; rw [sg_pc_some o4 hh]; exact if_neg t12) hK dk_fr.rf
