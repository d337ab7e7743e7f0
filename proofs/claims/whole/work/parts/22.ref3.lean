theorem sg_f1_o {s : Nat → Nat} {nx k j : Nat} (h : j ≠ 36 + 5 * k) : sg_f1 s nx k j = s j := by
  unfold sg_f1
  split
  · exact sg_up_n h
  · rfl
theorem sg_fl_o {s : Nat → Nat} {nx j : Nat} (h : j % 5 ≠ 1 ∨ j < 36) : ∀ n, sg_fl s nx n j = s j
  | 0 => rfl
  | n + 1 => by
    rw [sg_fl, sg_f1_o (by omega)]
    exact sg_fl_o h n
theorem sg_ok.upl {s : Nat → Nat} (o : sg_ok s) {k v : Nat} (hv : v ≤ 99) : sg_ok (sg_up s (36 + 5 * k) v) := by
  obtain ⟨o1, o2, o3, o4, o5, o6, o7, o8⟩ := o
  refine ⟨?_, ?_, ?_, ?_, ?_, ?_, ?_, ?_⟩
  · rw [sg_up_n (by omega)]; exact o1
  · rw [sg_up_n (by omega)]; exact o2
  · rw [sg_up_n (by omega)]; exact o3
  · rw [sg_up_n (by omega)]; exact o4
  · rw [sg_up_n (by omega)]; exact o5
  · intro y hy; rw [sg_up_n (by omega)]; exact o6 y hy
  · intro y hy; rw [sg_up_n (by omega)]; exact o7 y hy
  · intro h hh
    obtain ⟨p1, p2, p3, p4, p5⟩ := o8 h hh
    refine ⟨?_, ?_, ?_, ?_, ?_⟩
    · rw [sg_up_n (by omega)]; exact p1
    · by_cases e : h = k
      · subst e; rw [sg_up_s]; exact hv
      · rw [sg_up_n (by omega)]; exact p2
    · rw [sg_up_n (by omega)]; exact p3
    · rw [sg_up_n (by omega)]; exact p4
    · rw [sg_up_n (by omega)]; exact p5
theorem sg_ok.upf {s : Nat → Nat} (o : sg_ok s) {k v : Nat} (hv : v ≤ 1) : sg_ok (sg_up s (39 + 5 * k) v) := by
  obtain ⟨o1, o2, o3, o4, o5, o6, o7, o8⟩ := o
  refine ⟨?_, ?_, ?_, ?_, ?_, ?_, ?_, ?_⟩
  · rw [sg_up_n (by omega)]; exact o1
  · rw [sg_up_n (by omega)]; exact o2
  · rw [sg_up_n (by omega)]; exact o3
  · rw [sg_up_n (by omega)]; exact o4
  · rw [sg_up_n (by omega)]; exact o5
  · intro y hy; rw [sg_up_n (by omega)]; exact o6 y hy
  · intro y hy; rw [sg_up_n (by omega)]; exact o7 y hy
  · intro h hh
    obtain ⟨p1, p2, p3, p4, p5⟩ := o8 h hh
    refine ⟨?_, ?_, ?_, ?_, ?_⟩
    · rw [sg_up_n (by omega)]; exact p1
    · rw [sg_up_n (by omega)]; exact p2
    · rw [sg_up_n (by omega)]; exact p3
    · rw [sg_up_n (by omega)]; exact p4
    · by_cases e : h = k
      · subst e; rw [sg_up_s]; exact hv
      · rw [sg_up_n (by omega)]; exact p5
theorem sg_ok.f1 {s : Nat → Nat} (o : sg_ok s) {nx k : Nat} : sg_ok (sg_f1 s nx k) := by
  unfold sg_f1
  split
  · exact o.upl (Nat.min_le_left _ _)
  · exact o
theorem sg_ok.fl {s : Nat → Nat} (o : sg_ok s) {nx : Nat} : ∀ n, sg_ok (sg_fl s nx n)
  | 0 => o
  | n + 1 => (sg_ok.fl o n).f1
theorem sg_ok.falls {s : Nat → Nat} (o : sg_ok s) {h : Nat} : sg_ok (sg_falls s h) := (o.upf (by omega)).fl _
theorem sg_falls_o {s : Nat → Nat} {h j : Nat} (h1 : j % 5 ≠ 1 ∨ j < 36) (h2 : j ≠ 39 + 5 * h) : sg_falls s h j = s j := by
  unfold sg_falls
  rw [sg_fl_o h1, sg_up_n h2]
theorem rr.f1t {s : Nat → Nat} {M : dk_Mem} (hr : rr s M) {nx k : Nat} {x : Int32} (c : s (39 + 5 * k) = 0 ∧ s (38 + 5 * k) = nx) (hx : x = nI (min 99 (s (36 + 5 * k) + 12 + s (23 + 2 * nx)))) : rr (sg_f1 s nx k) (dk_put M 105 (35 + 5 * k + 1) x) := by
  unfold sg_f1
  rw [if_pos c, hx]
  exact hr.putP (by omega)
theorem rr.f1f {s : Nat → Nat} {M : dk_Mem} (hr : rr s M) {nx k : Nat} (c : ¬ (s (39 + 5 * k) = 0 ∧ s (38 + 5 * k) = nx)) : rr (sg_f1 s nx k) M := by
  unfold sg_f1
  rw [if_neg c]
  exact hr
theorem rS_p {k : Nat} (h1 : k < 89) (h2 : k ≠ 3) (h3 : k ≠ 2 := by omega) : rS 105 k := Or.inl ⟨rfl, h1, h2, h3⟩
theorem q_min (a : Nat) (h : a < 2 ^ 31) (c : nI 99 < nI a) : nI 99 = nI (min 99 a) := by
  rw [nI_ltI (by decide) h] at c
  rw [Nat.min_eq_left (by omega)]
theorem q_min2 (a : Nat) (h : a < 2 ^ 31) (c : nI a ≤ nI 99) : nI a = nI (min 99 a) := by
  rw [nI_leI h (by decide)] at c
  rw [Nat.min_eq_right c]

theorem q_set {s a k : Nat} (hk : k < 6) (hs : s < 2 ^ k) (ha : a < 2) : nI s ||| (nI a <<< (nI k &&& 31)) = nI (s + a * 2 ^ k) := by rw [q_shl k hk a ha, q_or k hk s hs a ha]
set_option maxRecDepth 20000 in
theorem r_fallL {d : Nat} {M : dk_Mem} {Q : Option Value → dk_Mem → Prop} {σ : Nat → Nat} (hr : rr σ M) (o : sg_ok σ) (hq : Q (some (.int (nI (sg_set σ (σ 4))))) M) : ∀ (n k : Nat), k ≤ σ 4 → σ 4 - k < n → dk_W (d + 1) mX12_fallenOnes 4 [some (.ref 104), some (.int (nI (sg_set σ k))), some (.int (nI k))] [] M Q := by
  have o4 := o.2.2.2.1
  intro n
  induction n with
  | zero => intro i _ h; omega
  | succ n ih =>
    intro k hi hn
    refine w_il2 (n := 5) dX12_fallenOnes_4 rfl ?_
    refine w_al0 (n := 6) dX12_fallenOnes_5 rfl ?_
    refine g_R (n := 9) f_X12_9_12 pl_104 rf_104_0 dX12_fallenOnes_6 rfl ?_
    refine w_iconst (n := 10) (nI 4) dX12_fallenOnes_9 (by decide) rfl ?_
    refine i_iald (n := 11) pl_105 (j := 4) rfl (by decide) (by decide) (hr 4 (by decide) (by decide) (by decide)) dX12_fallenOnes_10 rfl ?_
    refine w_ic_ge (n := 14) 31 dX12_fallenOnes_11 (by decide) rfl (fun z11 => ?_) (fun z11 => ?_)
    · skip
      refine w_il1 (n := 32) dX12_fallenOnes_31 rfl ?_
      refine w_retI dX12_fallenOnes_32 rfl ?_
      rw [show k = σ 4 by rw [q_le (by omega) (by omega)] at z11; omega]
      exact hq
    · skip
      refine w_il1 (n := 15) dX12_fallenOnes_14 rfl ?_
      refine w_al0 (n := 16) dX12_fallenOnes_15 rfl ?_
      refine w_il2 (n := 17) dX12_fallenOnes_16 rfl ?_
      refine w_iconst (n := 18) (nI 4) dX12_fallenOnes_17 (by decide) rfl ?_
      refine w_cV2 (n := 21) pl_104 cl_12 s0_X12_of k_X12_69 (Nat.le_of_ble_eq_true rfl) dX12_fallenOnes_18 rfl (r_of (h := k) (w := 4) (by omega) (hr.fal (show k < 6 by rw [q_le (by omega) (by omega)] at z11; omega)) ?_)
      refine w_il2 (n := 22) dX12_fallenOnes_21 rfl ?_
      refine w_ishl (n := 23) dX12_fallenOnes_22 rfl ?_
      refine w_ior (n := 24) dX12_fallenOnes_23 rfl ?_
      refine w_is1 (n := 25) dX12_fallenOnes_24 rfl rfl (by decide) ?_
      refine w_inc2 (n := 28) (nI 1) dX12_fallenOnes_25 (by decide) rfl rfl (by decide) ?_
      refine w_goto 4 dX12_fallenOnes_28 (by decide) ?_
      have hk : k < σ 4 := by rw [q_le (by omega) (by omega)] at z11; omega
      rw [nI_add, q_set (by omega) (sg_set_lt o k (by omega)) (by have := o.fal (h := k) (by omega); omega)]
      exact ih (k + 1) (by omega) (by omega)

set_option maxRecDepth 20000 in
theorem r_fallenOnes {d : Nat} {M : dk_Mem} {Q : Option Value → dk_Mem → Prop} {σ : Nat → Nat} (hr : rr σ M) (o : sg_ok σ) (hq : Q (some (.int (nI (sg_set σ (σ 4))))) M) : dk_Call (d + 1) mX12_fallenOnes [.ref 104] M Q := by
  refine dk_enter [some (.ref 104), none, none] (by decide) (fun _ => rfl) (fun _ => Nat.le_of_ble_eq_true rfl) ?_
  refine w_iconst (n := 1) (nI 0) dX12_fallenOnes_0 (by decide) rfl ?_
  refine w_is1 (n := 2) dX12_fallenOnes_1 rfl rfl (by decide) ?_
  refine w_iconst (n := 3) (nI 0) dX12_fallenOnes_2 (by decide) rfl ?_
  refine w_is2 (n := 4) dX12_fallenOnes_3 rfl rfl (by decide) ?_
  exact r_fallL hr o hq (σ 4 + 1) 0 (by omega) (by omega)

theorem sg_tip_1 {s : Nat → Nat} {k : Nat} (c : s (39 + 5 * k) = 0 ∧ sg_bears s k + 12 ≤ s (36 + 5 * k)) : sg_tip s (k + 1) = sg_tip s k + 1 * 2 ^ k := by rw [sg_tip, if_pos c, Nat.one_mul]
theorem sg_tip_0 {s : Nat → Nat} {k : Nat} (c : ¬ (s (39 + 5 * k) = 0 ∧ sg_bears s k + 12 ≤ s (36 + 5 * k))) : sg_tip s (k + 1) = sg_tip s k := by rw [sg_tip, if_neg c, Nat.add_zero]
theorem q_or0 {s : Nat} : nI s ||| nI 0 = nI s := by
  show nI s ||| 0 = nI s
  exact Int32.or_zero
set_option maxRecDepth 20000 in
theorem r_tipL {d : Nat} {M : dk_Mem} {Q : Option Value → dk_Mem → Prop} {σ : Nat → Nat} (hr : rr σ M) (o : sg_ok σ) (hq : Q (some (.int (nI (sg_tip σ (σ 4))))) M) : ∀ (n k : Nat), k ≤ σ 4 → σ 4 - k < n → dk_W (d + 2) mX12_tipping 4 [some (.ref 104), some (.int (nI (sg_tip σ k))), some (.int (nI k))] [] M Q := by
  have o4 := o.2.2.2.1
  intro n
  induction n with
  | zero => intro i _ h; omega
  | succ n ih =>
    intro k hi hn
    refine w_il2 (n := 5) dX12_tipping_4 rfl ?_
    refine w_al0 (n := 6) dX12_tipping_5 rfl ?_
    refine g_R (n := 9) f_X12_9_12 pl_104 rf_104_0 dX12_tipping_6 rfl ?_
    refine w_iconst (n := 10) (nI 4) dX12_tipping_9 (by decide) rfl ?_
    refine i_iald (n := 11) pl_105 (j := 4) rfl (by decide) (by decide) (hr 4 (by decide) (by decide) (by decide)) dX12_tipping_10 rfl ?_
    refine w_ic_ge (n := 14) 56 dX12_tipping_11 (by decide) rfl (fun z11 => ?_) (fun z11 => ?_)
    · skip
      refine w_il1 (n := 57) dX12_tipping_56 rfl ?_
      refine w_retI dX12_tipping_57 rfl ?_
      rw [show k = σ 4 by rw [q_le (by omega) (by omega)] at z11; omega]
      exact hq
    · skip
      refine w_il1 (n := 15) dX12_tipping_14 rfl ?_
      refine w_al0 (n := 16) dX12_tipping_15 rfl ?_
      refine w_il2 (n := 17) dX12_tipping_16 rfl ?_
      refine w_iconst (n := 18) (nI 4) dX12_tipping_17 (by decide) rfl ?_
      refine w_cV2 (n := 21) pl_104 cl_12 s0_X12_of k_X12_69 (Nat.le_of_ble_eq_true rfl) dX12_tipping_18 rfl (r_of (h := k) (w := 4) (by omega) (hr.fal (show k < 6 by rw [q_le (by omega) (by omega)] at z11; omega)) ?_)
      refine w_if_ne (n := 24) 47 dX12_tipping_21 (by decide) rfl (fun z21 => ?_) (fun z21 => ?_)
      · skip
        refine w_iconst (n := 48) (nI 0) dX12_tipping_47 (by decide) rfl ?_
        refine w_ior (n := 49) dX12_tipping_48 rfl ?_
        refine w_is1 (n := 50) dX12_tipping_49 rfl rfl (by decide) ?_
        refine w_inc2 (n := 53) (nI 1) dX12_tipping_50 (by decide) rfl rfl (by decide) ?_
        refine w_goto 4 dX12_tipping_53 (by decide) ?_
        have hk : k < σ 4 := by rw [q_le (by omega) (by omega)] at z11; omega
        have b1 := o.fal (h := k) (by omega)
        have b2 := o.lean (h := k) (by omega)
        have b3 := o.bears (h := k) (by omega)
        rw [nI_add]
        first | (rw [q_set (by omega) (sg_tip_lt σ k) (by decide), ← sg_tip_1 ⟨(q_nz (by omega)).mp z21, by rw [nI_add, Int32.not_lt, q_le (by omega) (by omega)] at z38; exact z38⟩]; exact ih (k + 1) (by omega) (by omega)) | (rw [q_or0, ← sg_tip_0 (k := k) (fun z => by rw [nI_add, nI_ltI (by omega) (by omega)] at z38; have := z.2; omega)]; exact ih (k + 1) (by omega) (by omega)) | (rw [q_or0, ← sg_tip_0 (k := k) (fun z => z21 ((q_nz (by omega)).mpr z.1))]; exact ih (k + 1) (by omega) (by omega))
      · skip
        refine w_al0 (n := 25) dX12_tipping_24 rfl ?_
        refine w_il2 (n := 26) dX12_tipping_25 rfl ?_
        refine w_iconst (n := 27) (nI 1) dX12_tipping_26 (by decide) rfl ?_
        refine w_cV2 (n := 30) pl_104 cl_12 s0_X12_of k_X12_69 (Nat.le_of_ble_eq_true rfl) dX12_tipping_27 rfl (r_of (h := k) (w := 1) (by omega) (hr.lean (show k < 6 by rw [q_le (by omega) (by omega)] at z11; omega)) ?_)
        refine w_al0 (n := 31) dX12_tipping_30 rfl ?_
        refine w_il2 (n := 32) dX12_tipping_31 rfl ?_
        refine w_cV1 (n := 35) pl_104 cl_12 s0_X12_bearsOf k_X12_88 (Nat.le_of_ble_eq_true rfl) dX12_tipping_32 rfl (r_bearsOf hr o (show k < 6 by rw [q_le (by omega) (by omega)] at z11; omega) ?_)
        refine w_bipush (n := 37) (nI 12) dX12_tipping_35 (by decide) rfl ?_
        refine w_iadd (n := 38) dX12_tipping_37 rfl ?_
        refine w_ic_lt (n := 41) 47 dX12_tipping_38 (by decide) rfl (fun z38 => ?_) (fun z38 => ?_)
        · skip
          refine w_iconst (n := 48) (nI 0) dX12_tipping_47 (by decide) rfl ?_
          refine w_ior (n := 49) dX12_tipping_48 rfl ?_
          refine w_is1 (n := 50) dX12_tipping_49 rfl rfl (by decide) ?_
          refine w_inc2 (n := 53) (nI 1) dX12_tipping_50 (by decide) rfl rfl (by decide) ?_
          refine w_goto 4 dX12_tipping_53 (by decide) ?_
          have hk : k < σ 4 := by rw [q_le (by omega) (by omega)] at z11; omega
          have b1 := o.fal (h := k) (by omega)
          have b2 := o.lean (h := k) (by omega)
          have b3 := o.bears (h := k) (by omega)
          rw [nI_add]
          first | (rw [q_set (by omega) (sg_tip_lt σ k) (by decide), ← sg_tip_1 ⟨(q_nz (by omega)).mp z21, by rw [nI_add, Int32.not_lt, q_le (by omega) (by omega)] at z38; exact z38⟩]; exact ih (k + 1) (by omega) (by omega)) | (rw [q_or0, ← sg_tip_0 (k := k) (fun z => by rw [nI_add, nI_ltI (by omega) (by omega)] at z38; have := z.2; omega)]; exact ih (k + 1) (by omega) (by omega)) | (rw [q_or0, ← sg_tip_0 (k := k) (fun z => z21 ((q_nz (by omega)).mpr z.1))]; exact ih (k + 1) (by omega) (by omega))
        · skip
          refine w_iconst (n := 42) (nI 1) dX12_tipping_41 (by decide) rfl ?_
          refine w_il2 (n := 43) dX12_tipping_42 rfl ?_
          refine w_ishl (n := 44) dX12_tipping_43 rfl ?_
          refine w_goto 48 dX12_tipping_44 (by decide) ?_
          refine w_ior (n := 49) dX12_tipping_48 rfl ?_
          refine w_is1 (n := 50) dX12_tipping_49 rfl rfl (by decide) ?_
          refine w_inc2 (n := 53) (nI 1) dX12_tipping_50 (by decide) rfl rfl (by decide) ?_
          refine w_goto 4 dX12_tipping_53 (by decide) ?_
          have hk : k < σ 4 := by rw [q_le (by omega) (by omega)] at z11; omega
          have b1 := o.fal (h := k) (by omega)
          have b2 := o.lean (h := k) (by omega)
          have b3 := o.bears (h := k) (by omega)
          rw [nI_add]
          first | (rw [q_set (by omega) (sg_tip_lt σ k) (by decide), ← sg_tip_1 ⟨(q_nz (by omega)).mp z21, by rw [nI_add, Int32.not_lt, q_le (by omega) (by omega)] at z38; exact z38⟩]; exact ih (k + 1) (by omega) (by omega)) | (rw [q_or0, ← sg_tip_0 (k := k) (fun z => by rw [nI_add, nI_ltI (by omega) (by omega)] at z38; have := z.2; omega)]; exact ih (k + 1) (by omega) (by omega)) | (rw [q_or0, ← sg_tip_0 (k := k) (fun z => z21 ((q_nz (by omega)).mpr z.1))]; exact ih (k + 1) (by omega) (by omega))

set_option maxRecDepth 20000 in
theorem r_tipping {d : Nat} {M : dk_Mem} {Q : Option Value → dk_Mem → Prop} {σ : Nat → Nat} (hr : rr σ M) (o : sg_ok σ) (hq : Q (some (.int (nI (sg_tip σ (σ 4))))) M) : dk_Call (d + 2) mX12_tipping [.ref 104] M Q := by
  refine dk_enter [some (.ref 104), none, none] (by decide) (fun _ => rfl) (fun _ => Nat.le_of_ble_eq_true rfl) ?_
  refine w_iconst (n := 1) (nI 0) dX12_tipping_0 (by decide) rfl ?_
  refine w_is1 (n := 2) dX12_tipping_1 rfl rfl (by decide) ?_
  refine w_iconst (n := 3) (nI 0) dX12_tipping_2 (by decide) rfl ?_
  refine w_is2 (n := 4) dX12_tipping_3 rfl rfl (by decide) ?_
  exact r_tipL hr o hq (σ 4 + 1) 0 (by omega) (by omega)

set_option maxRecDepth 20000 in
theorem r_fallsL {d : Nat} {M : dk_Mem} {Q : Option Value → dk_Mem → Prop} {τ : Nat → Nat} (ot : sg_ok τ) {nx : Nat} (hnx : nx ≤ 6) {h : Nat} (hq : ∀ M2, rr (sg_fl τ nx (τ 4)) M2 → dk_fr rS M M2 → Q none M2) : ∀ (n k : Nat) (M1 : dk_Mem) (x4 : Option Value), k ≤ τ 4 → τ 4 - k < n → rr (sg_fl τ nx k) M1 → dk_fr rS M M1 → dk_W (d + 1) mX12_falls 18 [some (.ref 104), some (.int (nI h)), some (.int (nI nx)), some (.int (nI k)), x4] [] M1 Q := by
  have o4 := ot.2.2.2.1
  intro n
  induction n with
  | zero => intro i _ _ _ h; omega
  | succ n ih =>
    intro k M1 x4 hi hn hr hf
    have e4 : sg_fl τ nx k 4 = τ 4 := sg_fl_o (by omega) k
    have o := ot.fl (nx := nx) k
    generalize hs : sg_fl τ nx k = s at hr e4 o
    refine w_il3 (n := 19) dX12_falls_18 rfl ?_
    refine w_al0 (n := 20) dX12_falls_19 rfl ?_
    refine g_R (n := 23) f_X12_9_12 pl_104 rf_104_0 dX12_falls_20 rfl ?_
    refine w_iconst (n := 24) (nI 4) dX12_falls_23 (by decide) rfl ?_
    refine i_iald (n := 25) pl_105 (j := 4) rfl (by decide) (by decide) ((hr 4 (by decide) (by decide) (by decide)).trans (by rw [e4])) dX12_falls_24 rfl ?_
    refine w_ic_ge (n := 28) 96 dX12_falls_25 (by decide) rfl (fun z25 => ?_) (fun z25 => ?_)
    · skip
      refine w_ret dX12_falls_96 rfl ?_
      exact hq _ (by rw [show τ 4 = k by rw [q_le (by omega) (by omega)] at z25; omega, hs]; exact hr) hf
    · skip
      refine w_al0 (n := 29) dX12_falls_28 rfl ?_
      refine w_il3 (n := 30) dX12_falls_29 rfl ?_
      refine w_iconst (n := 31) (nI 4) dX12_falls_30 (by decide) rfl ?_
      have hk : k < 6 := by rw [q_le (by omega) (by omega)] at z25; omega
      have b1 := o.fal hk
      have b2 := o.lean hk
      have b3 := o.room hk
      refine w_cV2 (n := 34) pl_104 cl_12 s0_X12_of k_X12_69 (Nat.le_of_ble_eq_true rfl) dX12_falls_31 rfl (r_of (h := k) (w := 4) (by omega) (hr.fal hk) ?_)
      refine w_if_ne (n := 37) 90 dX12_falls_34 (by decide) rfl (fun z34 => ?_) (fun z34 => ?_)
      · skip
        refine w_inc3 (n := 93) (nI 1) dX12_falls_90 (by decide) rfl rfl (by decide) ?_
        refine w_goto 18 dX12_falls_93 (by decide) ?_
        have hk2 : k < τ 4 := by rw [q_le (by omega) (by omega)] at z25; omega
        simp only [nI_add]
        first | exact ih (k + 1) _ _ (by omega) (by omega) (by rw [sg_fl, hs]; exact hr.f1f (fun z => z34 ((q_nz (by omega)).mpr z.1))) hf | exact ih (k + 1) _ _ (by omega) (by omega) (by rw [sg_fl, hs]; exact hr.f1f (fun z => z44 (by rw [z.2]))) hf | exact ih (k + 1) _ _ (by omega) (by omega) (by rw [sg_fl, hs]; exact hr.f1t c0 (q_min _ bb (by simp only [nI_add] at z77; exact Int32.not_le.mp z77))) (hf.put (rS_p (by omega) (by omega))) | exact ih (k + 1) _ _ (by omega) (by omega) (by rw [sg_fl, hs]; exact hr.f1t c0 (by simp only [nI_add] at z77; exact q_min2 _ bb z77)) (hf.put (rS_p (by omega) (by omega)))
      · skip
        refine w_al0 (n := 38) dX12_falls_37 rfl ?_
        refine w_il3 (n := 39) dX12_falls_38 rfl ?_
        refine w_iconst (n := 40) (nI 3) dX12_falls_39 (by decide) rfl ?_
        refine w_cV2 (n := 43) pl_104 cl_12 s0_X12_of k_X12_69 (Nat.le_of_ble_eq_true rfl) dX12_falls_40 rfl (r_of (h := k) (w := 3) (by omega) (hr.room hk) ?_)
        refine w_il2 (n := 44) dX12_falls_43 rfl ?_
        refine w_ic_ne (n := 47) 90 dX12_falls_44 (by decide) rfl (fun z44 => ?_) (fun z44 => ?_)
        · skip
          refine w_inc3 (n := 93) (nI 1) dX12_falls_90 (by decide) rfl rfl (by decide) ?_
          refine w_goto 18 dX12_falls_93 (by decide) ?_
          have hk2 : k < τ 4 := by rw [q_le (by omega) (by omega)] at z25; omega
          simp only [nI_add]
          first | exact ih (k + 1) _ _ (by omega) (by omega) (by rw [sg_fl, hs]; exact hr.f1f (fun z => z34 ((q_nz (by omega)).mpr z.1))) hf | exact ih (k + 1) _ _ (by omega) (by omega) (by rw [sg_fl, hs]; exact hr.f1f (fun z => z44 (by rw [z.2]))) hf | exact ih (k + 1) _ _ (by omega) (by omega) (by rw [sg_fl, hs]; exact hr.f1t c0 (q_min _ bb (by simp only [nI_add] at z77; exact Int32.not_le.mp z77))) (hf.put (rS_p (by omega) (by omega))) | exact ih (k + 1) _ _ (by omega) (by omega) (by rw [sg_fl, hs]; exact hr.f1t c0 (by simp only [nI_add] at z77; exact q_min2 _ bb z77)) (hf.put (rS_p (by omega) (by omega)))
        · skip
          have c0 : s (39 + 5 * k) = 0 ∧ s (38 + 5 * k) = nx := ⟨(q_nz (by omega)).mp z34, (nI_eq (by omega) (by omega)).mp z44⟩
          have bb : s (36 + 5 * k) + 12 + s (23 + 2 * nx) < 2 ^ 31 := by have := o.2.2.2.2.2.2.1 (2 * nx) (by omega); omega
          refine w_al0 (n := 48) dX12_falls_47 rfl ?_
          refine w_il3 (n := 49) dX12_falls_48 rfl ?_
          refine w_iconst (n := 50) (nI 1) dX12_falls_49 (by decide) rfl ?_
          refine w_cV2 (n := 53) pl_104 cl_12 s0_X12_of k_X12_69 (Nat.le_of_ble_eq_true rfl) dX12_falls_50 rfl (r_of (h := k) (w := 1) (by omega) (hr.lean hk) ?_)
          refine w_bipush (n := 55) (nI 12) dX12_falls_53 (by decide) rfl ?_
          refine w_iadd (n := 56) dX12_falls_55 rfl ?_
          refine w_al0 (n := 57) dX12_falls_56 rfl ?_
          refine g_R (n := 60) f_X12_9_12 pl_104 rf_104_0 dX12_falls_57 rfl ?_
          refine w_bipush (n := 62) (nI 23) dX12_falls_60 (by decide) rfl ?_
          refine w_iconst (n := 63) (nI 2) dX12_falls_62 (by decide) rfl ?_
          refine w_il2 (n := 64) dX12_falls_63 rfl ?_
          refine w_imul (n := 65) dX12_falls_64 rfl ?_
          refine w_iadd (n := 66) dX12_falls_65 rfl ?_
          refine i_iald (n := 67) pl_105 (j := 23 + 2 * nx) (by rw [pk_mul, nI_add]) (by omega) (by decide) (hr (23 + 2 * nx) (by omega) (by omega) (by omega)) dX12_falls_66 rfl ?_
          refine w_iadd (n := 68) dX12_falls_67 rfl ?_
          refine w_is4 (n := 70) dX12_falls_68 rfl rfl (by decide) ?_
          refine w_al0 (n := 71) dX12_falls_70 rfl ?_
          refine w_il3 (n := 72) dX12_falls_71 rfl ?_
          refine w_iconst (n := 73) (nI 1) dX12_falls_72 (by decide) rfl ?_
          refine w_il4 (n := 75) dX12_falls_73 rfl ?_
          refine w_bipush (n := 77) (nI 99) dX12_falls_75 (by decide) rfl ?_
          refine w_ic_le (n := 80) 85 dX12_falls_77 (by decide) rfl (fun z77 => ?_) (fun z77 => ?_)
          · skip
            refine w_il4 (n := 87) dX12_falls_85 rfl ?_
            refine w_cV3 (n := 90) pl_104 cl_12 s0_X12_put k_X12_105 (Nat.le_of_ble_eq_true rfl) dX12_falls_87 rfl (r_put (h := k) (w := 1) (by omega) ?_)
            refine w_inc3 (n := 93) (nI 1) dX12_falls_90 (by decide) rfl rfl (by decide) ?_
            refine w_goto 18 dX12_falls_93 (by decide) ?_
            have hk2 : k < τ 4 := by rw [q_le (by omega) (by omega)] at z25; omega
            simp only [nI_add]
            first | exact ih (k + 1) _ _ (by omega) (by omega) (by rw [sg_fl, hs]; exact hr.f1f (fun z => z34 ((q_nz (by omega)).mpr z.1))) hf | exact ih (k + 1) _ _ (by omega) (by omega) (by rw [sg_fl, hs]; exact hr.f1f (fun z => z44 (by rw [z.2]))) hf | exact ih (k + 1) _ _ (by omega) (by omega) (by rw [sg_fl, hs]; exact hr.f1t c0 (q_min _ bb (by simp only [nI_add] at z77; exact Int32.not_le.mp z77))) (hf.put (rS_p (by omega) (by omega))) | exact ih (k + 1) _ _ (by omega) (by omega) (by rw [sg_fl, hs]; exact hr.f1t c0 (by simp only [nI_add] at z77; exact q_min2 _ bb z77)) (hf.put (rS_p (by omega) (by omega)))
          · skip
            refine w_bipush (n := 82) (nI 99) dX12_falls_80 (by decide) rfl ?_
            refine w_goto 87 dX12_falls_82 (by decide) ?_
            refine w_cV3 (n := 90) pl_104 cl_12 s0_X12_put k_X12_105 (Nat.le_of_ble_eq_true rfl) dX12_falls_87 rfl (r_put (h := k) (w := 1) (by omega) ?_)
            refine w_inc3 (n := 93) (nI 1) dX12_falls_90 (by decide) rfl rfl (by decide) ?_
            refine w_goto 18 dX12_falls_93 (by decide) ?_
            have hk2 : k < τ 4 := by rw [q_le (by omega) (by omega)] at z25; omega
            simp only [nI_add]
            first | exact ih (k + 1) _ _ (by omega) (by omega) (by rw [sg_fl, hs]; exact hr.f1f (fun z => z34 ((q_nz (by omega)).mpr z.1))) hf | exact ih (k + 1) _ _ (by omega) (by omega) (by rw [sg_fl, hs]; exact hr.f1f (fun z => z44 (by rw [z.2]))) hf | exact ih (k + 1) _ _ (by omega) (by omega) (by rw [sg_fl, hs]; exact hr.f1t c0 (q_min _ bb (by simp only [nI_add] at z77; exact Int32.not_le.mp z77))) (hf.put (rS_p (by omega) (by omega))) | exact ih (k + 1) _ _ (by omega) (by omega) (by rw [sg_fl, hs]; exact hr.f1t c0 (by simp only [nI_add] at z77; exact q_min2 _ bb z77)) (hf.put (rS_p (by omega) (by omega)))

set_option maxRecDepth 20000 in
theorem r_falls {d : Nat} {M : dk_Mem} {Q : Option Value → dk_Mem → Prop} {σ : Nat → Nat} (hr : rr σ M) (o : sg_ok σ) {h : Nat} (hh : h < 6) (hq : ∀ M2, rr (sg_falls σ h) M2 → dk_fr rS M M2 → Q none M2) : dk_Call (d + 1) mX12_falls [.ref 104, .int (nI h)] M Q := by
  refine dk_enter [some (.ref 104), some (.int (nI h)), none, none, none] (by decide) (fun _ => rfl) (fun _ => Nat.le_of_ble_eq_true rfl) ?_
  refine w_al0 (n := 1) dX12_falls_0 rfl ?_
  refine w_il1 (n := 2) dX12_falls_1 rfl ?_
  refine w_iconst (n := 3) (nI 4) dX12_falls_2 (by decide) rfl ?_
  refine w_iconst (n := 4) (nI 1) dX12_falls_3 (by decide) rfl ?_
  refine w_cV3 (n := 7) pl_104 cl_12 s0_X12_put k_X12_105 (Nat.le_of_ble_eq_true rfl) dX12_falls_4 rfl (r_put (h := h) (w := 4) (by omega) ?_)
  have hr1 : rr (sg_up σ (39 + 5 * h) 1) (dk_put M 105 (35 + 5 * h + 4) (nI 1)) := hr.putP (by omega)
  have hf1 : dk_fr rS M (dk_put M 105 (35 + 5 * h + 4) (nI 1)) := dk_fr.rf.put (rS_p (by omega) (by omega))
  refine w_al0 (n := 8) dX12_falls_7 rfl ?_
  refine w_il1 (n := 9) dX12_falls_8 rfl ?_
  refine w_iconst (n := 10) (nI 3) dX12_falls_9 (by decide) rfl ?_
  refine w_cV2 (n := 13) pl_104 cl_12 s0_X12_of k_X12_69 (Nat.le_of_ble_eq_true rfl) dX12_falls_10 rfl (r_of (h := h) (w := 3) (by omega) (hr1.room hh) ?_)
  refine w_iconst (n := 14) (nI 1) dX12_falls_13 (by decide) rfl ?_
  refine w_iadd (n := 15) dX12_falls_14 rfl ?_
  refine w_is2 (n := 16) dX12_falls_15 rfl rfl (by decide) ?_
  refine w_iconst (n := 17) (nI 0) dX12_falls_16 (by decide) rfl ?_
  refine w_is3 (n := 18) dX12_falls_17 rfl rfl (by decide) ?_
  rw [sg_up_n (by omega), nI_add]
  have e4 : sg_up σ (39 + 5 * h) 1 4 = σ 4 := sg_up_n (by omega)
  have b := o.room hh
  exact r_fallsL (o.upf (by omega)) (by omega) (fun M2 g1 g2 => hq M2 (by unfold sg_falls; rw [e4] at g1; exact g1) (hf1.tr g2)) (σ 4 + 1) 0 _ _ (by omega) (by omega) hr1 dk_fr.rf
