theorem q_hold : ∀ a, a < 100 → ∀ b, b < 10 → ((0 ≤ nI a - nI 10 - nI b → nI a - nI 10 - nI b = nI (a - 10 - b)) ∧ (¬ 0 ≤ nI a - nI 10 - nI b → a - 10 - b = 0)) := by decide +kernel
theorem f109S {M M' : dk_Mem} (h : dk_fr (fun q _ => q = 109) M M') : dk_fr rS M M' := h.up rS109
theorem frSG {M M' : dk_Mem} (h : dk_fr rS M M') : dk_fr rG M M' := h.up (fun _ _ => rS_G)
theorem sg_tells_2 {w : sg_R} {σ : Nat → Nat} {h : Nat} (c : sg_does w σ h = 2) : sg_tells w σ h = (sg_up σ (36 + 5 * h) (σ (36 + 5 * h) - 10 - σ (24 + 2 * σ (38 + 5 * h))), if 1 < sg_hs σ then 1 else 0) := if_pos c
theorem sg_tells_f {w : sg_R} {σ : Nat → Nat} {h : Nat} (c : sg_does w σ h = 0) (p : 0 < sg_pays σ h) : sg_tells w σ h = (sg_falls σ h, sg_pays σ h) := by
  unfold sg_tells
  rw [if_neg (by omega), if_pos ⟨c, p⟩]
theorem sg_tells_n {w : sg_R} {σ : Nat → Nat} {h : Nat} (c : ¬ sg_does w σ h = 2) (p : ¬ (sg_does w σ h = 0 ∧ 0 < sg_pays σ h)) : sg_tells w σ h = (σ, 0) := by
  unfold sg_tells
  rw [if_neg c, if_neg p]
theorem sg_ok.tells {w : sg_R} {σ : Nat → Nat} (o : sg_ok σ) {h : Nat} (hh : h < 6) : sg_ok (sg_tells w σ h).1 := by
  unfold sg_tells
  split
  · exact o.upl (by have := o.lean hh; omega)
  · split
    · exact o.falls
    · exact o
theorem sg_tells_o {w : sg_R} {σ : Nat → Nat} {h j : Nat} (h1 : j % 5 ≠ 1 ∨ j < 36) (h2 : j ≠ 39 + 5 * h) : (sg_tells w σ h).1 j = σ j := by
  unfold sg_tells
  split
  · exact sg_up_n (by omega)
  · split
    · exact sg_falls_o h1 h2
    · rfl
theorem sg_tells_le {w : sg_R} {σ : Nat → Nat} (o : sg_ok σ) {h : Nat} (hh : h < 6) : (sg_tells w σ h).2 ≤ 13 := by
  have := o.pays hh
  unfold sg_tells
  split
  · show (if 1 < sg_hs σ then 1 else 0) ≤ 13
    split <;> omega
  · split
    · exact this
    · exact Nat.zero_le _

set_option maxRecDepth 20000 in
theorem r_tells {d : Nat} {M : dk_Mem} {Q : Option Value → dk_Mem → Prop} {σ : Nat → Nat} (hr : rr σ M) (o : sg_ok σ) {h : Nat} (hh : h < 6) {w : sg_R} {f : Nat → Int32} (hb : rb w (σ 6) f) (hT : rT f M) (hq : ∀ M2, rr (sg_tells w σ h).1 M2 → dk_fr rS M M2 → Q (some (.int (nI (sg_tells w σ h).2))) M2) : dk_Call (d + 5) mX12_tells [.ref 104, .int (nI h)] M Q := by
  have c2 : sg_does w σ h ≤ 2 := hb.1 _ _ _ _ _ _
  have a1 := o.lean hh
  have a2 := o.room hh
  have a3 := o.2.2.2.2.2.2.1 (2 * σ (38 + 5 * h) + 1) (by omega)
  have a4 : σ (24 + 2 * σ (38 + 5 * h)) ≤ 9 := by rw [show 24 + 2 * σ (38 + 5 * h) = 23 + (2 * σ (38 + 5 * h) + 1) by omega]; exact a3
  have a5 := o.hs
  have a6 := o.pays hh
  have q1 := q_hold _ (show σ (36 + 5 * h) < 100 by omega) _ (show σ (24 + 2 * σ (38 + 5 * h)) < 10 by omega)
  have e2 : nI (sg_does w σ h) = nI 2 ↔ sg_does w σ h = 2 := nI_eq (by omega) (by decide)
  have e0 : nI (sg_does w σ h) = 0 ↔ sg_does w σ h = 0 := q_nz (by omega)
  refine dk_enter [some (.ref 104), some (.int (nI h)), none, none] (by decide) (fun _ => rfl) (fun _ => Nat.le_of_ble_eq_true rfl) ?_
  refine w_al0 (n := 1) dX12_tells_0 rfl ?_
  refine w_il1 (n := 2) dX12_tells_1 rfl ?_
  refine w_cV1 (n := 5) pl_104 cl_12 s0_X12_does k_X12_94 (Nat.le_of_ble_eq_true rfl) dX12_tells_2 rfl (hb.2 _ _ _ _ _ hT hr rfl o hh (fun M2 hf => ?_))
  have hr1 := hr.f109 hf
  have hT1 := hT.fr (frSG (f109S hf))
  have fS := f109S hf
  refine w_is2 (n := 6) dX12_tells_5 rfl rfl (by decide) ?_
  refine w_il2 (n := 7) dX12_tells_6 rfl ?_
  refine w_iconst (n := 8) (nI 2) dX12_tells_7 (by decide) rfl ?_
  refine w_ic_ne (n := 11) 69 dX12_tells_8 (by decide) rfl (fun z8 => ?_) (fun z8 => ?_)
  · skip
    refine w_il2 (n := 70) dX12_tells_69 rfl ?_
    refine w_if_ne (n := 73) 81 dX12_tells_70 (by decide) rfl (fun z70 => ?_) (fun z70 => ?_)
    · skip
      refine w_iconst (n := 82) (nI 0) dX12_tells_81 (by decide) rfl ?_
      refine w_is3 (n := 83) dX12_tells_82 rfl rfl (by decide) ?_
      refine w_il3 (n := 84) dX12_tells_83 rfl ?_
      refine w_if_le (n := 87) 92 dX12_tells_84 (by decide) rfl (fun _ => ?_) (fun h => absurd (by decide) h)
      refine w_il3 (n := 93) dX12_tells_92 rfl ?_
      refine w_retI dX12_tells_93 rfl ?_
      first | (have ep : 0 < sg_pays σ h := by { rw [show (0 : Int32) = nI 0 from rfl, q_le (by omega) (by omega)] at z84; omega }; have h9 := hq _ (by rw [sg_tells_f (e0.mp z70) ep]; exact g1) (fS.tr g2); rw [sg_tells_f (e0.mp z70) ep] at h9; exact h9) | (have ep : ¬ 0 < sg_pays σ h := by { rw [show (0 : Int32) = nI 0 from rfl, q_le (by omega) (by omega)] at z84; omega }; have h9 := hq _ (by rw [sg_tells_n (fun z => z8 (e2.mpr z)) (fun z => ep z.2)]; exact hr1) fS; rw [sg_tells_n (fun z => z8 (e2.mpr z)) (fun z => ep z.2)] at h9; exact dk_q (by rw [show sg_pays σ h = 0 by omega]) h9) | (have h9 := hq _ (by rw [sg_tells_n (fun z => z8 (e2.mpr z)) (fun z => z70 (e0.mpr z.1))]; exact hr1) fS; rw [sg_tells_n (fun z => z8 (e2.mpr z)) (fun z => z70 (e0.mpr z.1))] at h9; exact h9)
    · skip
      refine w_al0 (n := 74) dX12_tells_73 rfl ?_
      refine w_il1 (n := 75) dX12_tells_74 rfl ?_
      refine w_cV1 (n := 78) pl_104 cl_12 s0_X12_paysOf k_X12_91 (Nat.le_of_ble_eq_true rfl) dX12_tells_75 rfl (r_paysOf hr1 o hh ?_)
      refine w_goto 82 dX12_tells_78 (by decide) ?_
      refine w_is3 (n := 83) dX12_tells_82 rfl rfl (by decide) ?_
      refine w_il3 (n := 84) dX12_tells_83 rfl ?_
      refine w_if_le (n := 87) 92 dX12_tells_84 (by decide) rfl (fun z84 => ?_) (fun z84 => ?_)
      · skip
        refine w_il3 (n := 93) dX12_tells_92 rfl ?_
        refine w_retI dX12_tells_93 rfl ?_
        first | (have ep : 0 < sg_pays σ h := by { rw [show (0 : Int32) = nI 0 from rfl, q_le (by omega) (by omega)] at z84; omega }; have h9 := hq _ (by rw [sg_tells_f (e0.mp z70) ep]; exact g1) (fS.tr g2); rw [sg_tells_f (e0.mp z70) ep] at h9; exact h9) | (have ep : ¬ 0 < sg_pays σ h := by { rw [show (0 : Int32) = nI 0 from rfl, q_le (by omega) (by omega)] at z84; omega }; have h9 := hq _ (by rw [sg_tells_n (fun z => z8 (e2.mpr z)) (fun z => ep z.2)]; exact hr1) fS; rw [sg_tells_n (fun z => z8 (e2.mpr z)) (fun z => ep z.2)] at h9; exact dk_q (by rw [show sg_pays σ h = 0 by omega]) h9) | (have h9 := hq _ (by rw [sg_tells_n (fun z => z8 (e2.mpr z)) (fun z => z70 (e0.mpr z.1))]; exact hr1) fS; rw [sg_tells_n (fun z => z8 (e2.mpr z)) (fun z => z70 (e0.mpr z.1))] at h9; exact h9)
      · skip
        refine w_al0 (n := 88) dX12_tells_87 rfl ?_
        refine w_il1 (n := 89) dX12_tells_88 rfl ?_
        refine w_cV1 (n := 92) pl_104 cl_12 s0_X12_falls k_X12_217 (Nat.le_of_ble_eq_true rfl) dX12_tells_89 rfl (r_falls hr1 o hh (fun M3 g1 g2 => ?_))
        refine w_il3 (n := 93) dX12_tells_92 rfl ?_
        refine w_retI dX12_tells_93 rfl ?_
        first | (have ep : 0 < sg_pays σ h := by { rw [show (0 : Int32) = nI 0 from rfl, q_le (by omega) (by omega)] at z84; omega }; have h9 := hq _ (by rw [sg_tells_f (e0.mp z70) ep]; exact g1) (fS.tr g2); rw [sg_tells_f (e0.mp z70) ep] at h9; exact h9) | (have ep : ¬ 0 < sg_pays σ h := by { rw [show (0 : Int32) = nI 0 from rfl, q_le (by omega) (by omega)] at z84; omega }; have h9 := hq _ (by rw [sg_tells_n (fun z => z8 (e2.mpr z)) (fun z => ep z.2)]; exact hr1) fS; rw [sg_tells_n (fun z => z8 (e2.mpr z)) (fun z => ep z.2)] at h9; exact dk_q (by rw [show sg_pays σ h = 0 by omega]) h9) | (have h9 := hq _ (by rw [sg_tells_n (fun z => z8 (e2.mpr z)) (fun z => z70 (e0.mpr z.1))]; exact hr1) fS; rw [sg_tells_n (fun z => z8 (e2.mpr z)) (fun z => z70 (e0.mpr z.1))] at h9; exact h9)
  · skip
    refine w_al0 (n := 12) dX12_tells_11 rfl ?_
    refine w_il1 (n := 13) dX12_tells_12 rfl ?_
    refine w_iconst (n := 14) (nI 1) dX12_tells_13 (by decide) rfl ?_
    refine w_cV2 (n := 17) pl_104 cl_12 s0_X12_of k_X12_69 (Nat.le_of_ble_eq_true rfl) dX12_tells_14 rfl (r_of (h := h) (w := 1) (by omega) (hr1.lean hh) ?_)
    refine w_bipush (n := 19) (nI 10) dX12_tells_17 (by decide) rfl ?_
    refine w_isub (n := 20) dX12_tells_19 rfl ?_
    refine w_al0 (n := 21) dX12_tells_20 rfl ?_
    refine g_R (n := 24) f_X12_9_12 pl_104 rf_104_0 dX12_tells_21 rfl ?_
    refine w_bipush (n := 26) (nI 23) dX12_tells_24 (by decide) rfl ?_
    refine w_iconst (n := 27) (nI 2) dX12_tells_26 (by decide) rfl ?_
    refine w_al0 (n := 28) dX12_tells_27 rfl ?_
    refine w_il1 (n := 29) dX12_tells_28 rfl ?_
    refine w_iconst (n := 30) (nI 3) dX12_tells_29 (by decide) rfl ?_
    refine w_cV2 (n := 33) pl_104 cl_12 s0_X12_of k_X12_69 (Nat.le_of_ble_eq_true rfl) dX12_tells_30 rfl (r_of (h := h) (w := 3) (by omega) (hr1.room hh) ?_)
    refine w_imul (n := 34) dX12_tells_33 rfl ?_
    refine w_iadd (n := 35) dX12_tells_34 rfl ?_
    refine w_iconst (n := 36) (nI 1) dX12_tells_35 (by decide) rfl ?_
    refine w_iadd (n := 37) dX12_tells_36 rfl ?_
    refine i_iald (n := 38) pl_105 (j := 24 + 2 * σ (38 + 5 * h)) (by simp only [pk_mul, nI_add]; rw [show 23 + 2 * σ (38 + 5 * h) + 1 = 24 + 2 * σ (38 + 5 * h) by omega]) (by omega) (by decide) (hr1 _ (by omega) (by omega) (by omega)) dX12_tells_37 rfl ?_
    refine w_isub (n := 39) dX12_tells_38 rfl ?_
    refine w_is3 (n := 40) dX12_tells_39 rfl rfl (by decide) ?_
    refine w_al0 (n := 41) dX12_tells_40 rfl ?_
    refine w_il1 (n := 42) dX12_tells_41 rfl ?_
    refine w_iconst (n := 43) (nI 1) dX12_tells_42 (by decide) rfl ?_
    refine w_il3 (n := 44) dX12_tells_43 rfl ?_
    refine w_if_ge (n := 47) 51 dX12_tells_44 (by decide) rfl (fun z44 => ?_) (fun z44 => ?_)
    · skip
      refine w_il3 (n := 52) dX12_tells_51 rfl ?_
      refine w_cV3 (n := 55) pl_104 cl_12 s0_X12_put k_X12_105 (Nat.le_of_ble_eq_true rfl) dX12_tells_52 rfl (r_put (h := h) (w := 1) (by omega) ?_)
      have hr2 : rr (sg_up σ (36 + 5 * h) (σ (36 + 5 * h) - 10 - σ (24 + 2 * σ (38 + 5 * h)))) (dk_put M2 105 (35 + 5 * h + 1) (nI (σ (36 + 5 * h) - 10 - σ (24 + 2 * σ (38 + 5 * h))))) := hr1.putP (by omega)
      refine w_eq (M' := dk_put M2 105 (35 + 5 * h + 1) (nI (σ (36 + 5 * h) - 10 - σ (24 + 2 * σ (38 + 5 * h))))) rfl rfl (by first | rw [q1.1 z44] | rw [q1.2 z44]) ?_
      refine w_al0 (n := 56) dX12_tells_55 rfl ?_
      refine w_cV0 (n := 59) pl_104 cl_12 s0_X12_hush k_X12_77 (Nat.le_of_ble_eq_true rfl) dX12_tells_56 rfl (r_hush hr2 (o.upl (by omega)) ?_)
      refine w_iconst (n := 60) (nI 1) dX12_tells_59 (by decide) rfl ?_
      refine w_ic_le (n := 63) 67 dX12_tells_60 (by decide) rfl (fun z60 => ?_) (fun z60 => ?_)
      · skip
        refine w_iconst (n := 68) (nI 0) dX12_tells_67 (by decide) rfl ?_
        refine w_retI dX12_tells_68 rfl ?_
        have eh : sg_hs (sg_up σ (36 + 5 * h) (σ (36 + 5 * h) - 10 - σ (24 + 2 * σ (38 + 5 * h)))) = sg_hs σ := by unfold sg_hs sg_sy; rw [sg_up_n (by omega)]; split <;> first | rw [sg_up_n (by omega)] | rfl
        rw [eh, q_le (by omega) (by decide)] at z60
        have h9 := hq _ (by rw [sg_tells_2 (e2.mp z8)]; exact hr2) (fS.put (rS_p (by omega) (by omega)))
        rw [sg_tells_2 (e2.mp z8)] at h9
        exact dk_q (by rw [if_neg (by omega)]) h9
      · skip
        refine w_iconst (n := 64) (nI 1) dX12_tells_63 (by decide) rfl ?_
        refine w_goto 68 dX12_tells_64 (by decide) ?_
        refine w_retI dX12_tells_68 rfl ?_
        have eh : sg_hs (sg_up σ (36 + 5 * h) (σ (36 + 5 * h) - 10 - σ (24 + 2 * σ (38 + 5 * h)))) = sg_hs σ := by unfold sg_hs sg_sy; rw [sg_up_n (by omega)]; split <;> first | rw [sg_up_n (by omega)] | rfl
        rw [eh, q_le (by omega) (by decide)] at z60
        have h9 := hq _ (by rw [sg_tells_2 (e2.mp z8)]; exact hr2) (fS.put (rS_p (by omega) (by omega)))
        rw [sg_tells_2 (e2.mp z8)] at h9
        exact dk_q (by rw [if_pos (by omega)]) h9
    · skip
      refine w_iconst (n := 48) (nI 0) dX12_tells_47 (by decide) rfl ?_
      refine w_goto 52 dX12_tells_48 (by decide) ?_
      refine w_cV3 (n := 55) pl_104 cl_12 s0_X12_put k_X12_105 (Nat.le_of_ble_eq_true rfl) dX12_tells_52 rfl (r_put (h := h) (w := 1) (by omega) ?_)
      have hr2 : rr (sg_up σ (36 + 5 * h) (σ (36 + 5 * h) - 10 - σ (24 + 2 * σ (38 + 5 * h)))) (dk_put M2 105 (35 + 5 * h + 1) (nI (σ (36 + 5 * h) - 10 - σ (24 + 2 * σ (38 + 5 * h))))) := hr1.putP (by omega)
      refine w_eq (M' := dk_put M2 105 (35 + 5 * h + 1) (nI (σ (36 + 5 * h) - 10 - σ (24 + 2 * σ (38 + 5 * h))))) rfl rfl (by first | rw [q1.1 z44] | rw [q1.2 z44]) ?_
      refine w_al0 (n := 56) dX12_tells_55 rfl ?_
      refine w_cV0 (n := 59) pl_104 cl_12 s0_X12_hush k_X12_77 (Nat.le_of_ble_eq_true rfl) dX12_tells_56 rfl (r_hush hr2 (o.upl (by omega)) ?_)
      refine w_iconst (n := 60) (nI 1) dX12_tells_59 (by decide) rfl ?_
      refine w_ic_le (n := 63) 67 dX12_tells_60 (by decide) rfl (fun z60 => ?_) (fun z60 => ?_)
      · skip
        refine w_iconst (n := 68) (nI 0) dX12_tells_67 (by decide) rfl ?_
        refine w_retI dX12_tells_68 rfl ?_
        have eh : sg_hs (sg_up σ (36 + 5 * h) (σ (36 + 5 * h) - 10 - σ (24 + 2 * σ (38 + 5 * h)))) = sg_hs σ := by unfold sg_hs sg_sy; rw [sg_up_n (by omega)]; split <;> first | rw [sg_up_n (by omega)] | rfl
        rw [eh, q_le (by omega) (by decide)] at z60
        have h9 := hq _ (by rw [sg_tells_2 (e2.mp z8)]; exact hr2) (fS.put (rS_p (by omega) (by omega)))
        rw [sg_tells_2 (e2.mp z8)] at h9
        exact dk_q (by rw [if_neg (by omega)]) h9
      · skip
        refine w_iconst (n := 64) (nI 1) dX12_tells_63 (by decide) rfl ?_
        refine w_goto 68 dX12_tells_64 (by decide) ?_
        refine w_retI dX12_tells_68 rfl ?_
        have eh : sg_hs (sg_up σ (36 + 5 * h) (σ (36 + 5 * h) - 10 - σ (24 + 2 * σ (38 + 5 * h)))) = sg_hs σ := by unfold sg_hs sg_sy; rw [sg_up_n (by omega)]; split <;> first | rw [sg_up_n (by omega)] | rfl
        rw [eh, q_le (by omega) (by decide)] at z60
        have h9 := hq _ (by rw [sg_tells_2 (e2.mp z8)]; exact hr2) (fS.put (rS_p (by omega) (by omega)))
        rw [sg_tells_2 (e2.mp z8)] at h9
        exact dk_q (by rw [if_pos (by omega)]) h9

theorem sg_l2_o {σ : Nat → Nat} {set j : Nat} (h1 : j % 5 ≠ 1 ∨ j < 36) (h2 : j % 5 ≠ 4 ∨ j < 39) : ∀ n, (sg_l2 σ set n).1 j = σ j
  | 0 => rfl
  | n + 1 => by
    rw [sg_l2]
    split
    · show sg_falls _ n j = _
      rw [sg_falls_o h1 (by omega)]
      exact sg_l2_o h1 h2 n
    · exact sg_l2_o h1 h2 n
theorem sg_ok.l2 {σ : Nat → Nat} (o : sg_ok σ) {set : Nat} : ∀ n, sg_ok (sg_l2 σ set n).1
  | 0 => o
  | n + 1 => by
    rw [sg_l2]
    split
    · exact (sg_ok.l2 o n).falls
    · exact sg_ok.l2 o n
theorem sg_l2_le {σ : Nat → Nat} {set : Nat} : ∀ n, (sg_l2 σ set n).2 ≤ n
  | 0 => Nat.le_refl 0
  | n + 1 => by
    have := sg_l2_le (σ := σ) (set := set) n
    rw [sg_l2]
    split
    · show (sg_l2 σ set n).2 + 1 ≤ n + 1
      omega
    · omega
theorem sg_g3_o {s : Nat → Nat} {k j : Nat} (h : j ≠ 36 + 5 * k) : sg_g3 s k j = s j := by
  unfold sg_g3
  split
  · exact sg_up_n h
  · rfl
theorem sg_l3_o {s : Nat → Nat} {j : Nat} (h : j % 5 ≠ 1 ∨ j < 36) : ∀ n, sg_l3 s n j = s j
  | 0 => rfl
  | n + 1 => by
    rw [sg_l3, sg_g3_o (by omega)]
    exact sg_l3_o h n
theorem sg_ok.l3 {s : Nat → Nat} (o : sg_ok s) : ∀ n, sg_ok (sg_l3 s n)
  | 0 => o
  | n + 1 => by
    rw [sg_l3]
    unfold sg_g3
    split
    · exact (sg_ok.l3 o n).upl (Nat.min_le_left _ _)
    · exact sg_ok.l3 o n
theorem sg_up_id {s : Nat → Nat} {k : Nat} : sg_up s k (s k) = s := by
  funext j
  by_cases e : j = k
  · subst e; exact sg_up_s
  · exact sg_up_n e
theorem rr.same {s : Nat → Nat} {M : dk_Mem} (hr : rr s M) {h : Nat} {x : Int32} (hx : x = nI (s (36 + 5 * h))) : rr s (dk_put M 105 (35 + 5 * h + 1) x) := by
  have := hr.putP (h := h) (w := 1) (v := s (36 + 5 * h)) (k := 36 + 5 * h) (by omega)
  rw [sg_up_id] at this
  rw [hx]
  exact this

set_option maxRecDepth 20000 in
theorem r_goL2 {d : Nat} {M : dk_Mem} {Q : Option Value → dk_Mem → Prop} {ρ : Nat → Nat} (ot : sg_ok ρ) {W : Nat} (hW : W < 1000) {told st : Int32} (hq : ∀ M2, rr (sg_up (sg_l3 ρ (ρ 4)) 1 (ρ 1 + 1)) M2 → dk_fr rG M M2 → M2.1 105 2 = M.1 105 2 + nI W → Q (some (.int (nI W))) M2) : ∀ (n k : Nat) (M1 : dk_Mem) (x5 : Option Value), k ≤ ρ 4 → ρ 4 - k < n → rr (sg_l3 ρ k) M1 → dk_fr rS M M1 → dk_W (d + 3) mX12_goes 70 [some (.ref 104), some (.int told), some (.int (nI W)), some (.int st), some (.int (nI k)), x5] [] M1 Q := by
  have o4 := ot.2.2.2.1
  have oy := ot.2.2.1
  intro n
  induction n with
  | zero => intro i _ _ _ h; omega
  | succ n ih =>
    intro k M1 x5 hi hn hr hf
    have e4 : sg_l3 ρ k 4 = ρ 4 := sg_l3_o (by omega) k
    have e1 : sg_l3 ρ k 1 = ρ 1 := sg_l3_o (by omega) k
    have o := ot.l3 k
    generalize hs : sg_l3 ρ k = s at hr e4 e1 o
    refine w_il4 (n := 72) dX12_goes_70 rfl ?_
    refine w_al0 (n := 73) dX12_goes_72 rfl ?_
    refine g_R (n := 76) f_X12_9_12 pl_104 rf_104_0 dX12_goes_73 rfl ?_
    refine w_iconst (n := 77) (nI 4) dX12_goes_76 (by decide) rfl ?_
    refine i_iald (n := 78) pl_105 (j := 4) rfl (by decide) (by decide) ((hr 4 (by decide) (by decide) (by decide)).trans (by rw [e4])) dX12_goes_77 rfl ?_
    refine w_ic_ge (n := 81) 138 dX12_goes_78 (by decide) rfl (fun z78 => ?_) (fun z78 => ?_)
    · skip
      refine w_al0 (n := 139) dX12_goes_138 rfl ?_
      refine g_R (n := 142) f_X12_9_12 pl_104 rf_104_0 dX12_goes_139 rfl ?_
      refine w_iconst (n := 143) (nI 2) dX12_goes_142 (by decide) rfl ?_
      refine w_dup2 (n := 144) rfl rfl dX12_goes_143 rfl ?_
      refine i_iald (n := 145) pl_105 (j := 2) rfl (by decide) (by decide) (hf.2 105 2 (by rintro (z | z) <;> omega)) dX12_goes_144 rfl ?_
      refine w_il2 (n := 146) dX12_goes_145 rfl ?_
      refine w_iadd (n := 147) dX12_goes_146 rfl ?_
      refine i_iast (n := 148) pl_105 (j := 2) rfl (by decide) (by decide) dX12_goes_147 rfl ?_
      refine w_al0 (n := 149) dX12_goes_148 rfl ?_
      refine g_R (n := 152) f_X12_9_12 pl_104 rf_104_0 dX12_goes_149 rfl ?_
      refine w_iconst (n := 153) (nI 1) dX12_goes_152 (by decide) rfl ?_
      refine w_dup2 (n := 154) rfl rfl dX12_goes_153 rfl ?_
      refine i_iald (n := 155) pl_105 (j := 1) rfl (by decide) (by decide) ((dk_put_k (by decide)).trans ((hr 1 (by decide) (by decide) (by decide)).trans (by rw [e1]))) dX12_goes_154 rfl ?_
      refine w_iconst (n := 156) (nI 1) dX12_goes_155 (by decide) rfl ?_
      refine w_iadd (n := 157) dX12_goes_156 rfl ?_
      refine i_iast (n := 158) pl_105 (j := 1) rfl (by decide) (by decide) dX12_goes_157 rfl ?_
      refine w_il2 (n := 159) dX12_goes_158 rfl ?_
      refine w_retI dX12_goes_159 rfl ?_
      have ek : k = ρ 4 := by rw [q_le (by omega) (by omega)] at z78; omega
      rw [nI_add]
      refine hq _ ?_ (((frSG hf).put (Or.inl ⟨rfl, by decide, by decide⟩)).put (Or.inl ⟨rfl, by decide, by decide⟩)) ?_
      · rw [← ek, hs]
        refine rr.put ?_
        intro j h1 h2 h3
        rw [dk_put_k (by omega)]
        exact hr j h1 h2 h3
      · rw [dk_put_k (by decide), dk_put_s]
    · skip
      refine w_al0 (n := 82) dX12_goes_81 rfl ?_
      have hk : k < 6 := by rw [q_le (by omega) (by omega)] at z78; omega
      have b1 := o.fal hk
      have b2 := o.lean hk
      have b3 := o.leans (h := k)
      refine w_il4 (n := 84) dX12_goes_82 rfl ?_
      refine w_iconst (n := 85) (nI 1) dX12_goes_84 (by decide) rfl ?_
      refine w_cV2 (n := 88) pl_104 cl_12 s0_X12_of k_X12_69 (Nat.le_of_ble_eq_true rfl) dX12_goes_85 rfl (r_of (h := k) (w := 1) (by omega) (hr.lean hk) ?_)
      refine w_al0 (n := 89) dX12_goes_88 rfl ?_
      refine w_il4 (n := 91) dX12_goes_89 rfl ?_
      refine w_iconst (n := 92) (nI 4) dX12_goes_91 (by decide) rfl ?_
      refine w_cV2 (n := 95) pl_104 cl_12 s0_X12_of k_X12_69 (Nat.le_of_ble_eq_true rfl) dX12_goes_92 rfl (r_of (h := k) (w := 4) (by omega) (hr.fal hk) ?_)
      refine w_if_ne (n := 98) 107 dX12_goes_95 (by decide) rfl (fun z95 => ?_) (fun z95 => ?_)
      · skip
        refine w_iconst (n := 108) (nI 0) dX12_goes_107 (by decide) rfl ?_
        refine w_iadd (n := 109) dX12_goes_108 rfl ?_
        refine w_is5 (n := 111) dX12_goes_109 rfl rfl (by decide) ?_
        refine w_al0 (n := 112) dX12_goes_111 rfl ?_
        refine w_il4 (n := 114) dX12_goes_112 rfl ?_
        refine w_iconst (n := 115) (nI 1) dX12_goes_114 (by decide) rfl ?_
        refine w_il5 (n := 117) dX12_goes_115 rfl ?_
        refine w_bipush (n := 119) (nI 99) dX12_goes_117 (by decide) rfl ?_
        refine w_ic_le (n := 122) 127 dX12_goes_119 (by decide) rfl (fun z119 => ?_) (fun z119 => ?_)
        · skip
          refine w_il5 (n := 129) dX12_goes_127 rfl ?_
          refine w_cV3 (n := 132) pl_104 cl_12 s0_X12_put k_X12_105 (Nat.le_of_ble_eq_true rfl) dX12_goes_129 rfl (r_put (h := k) (w := 1) (by omega) ?_)
          refine w_inc4 (n := 135) (nI 1) dX12_goes_132 (by decide) rfl rfl (by decide) ?_
          refine w_goto 70 dX12_goes_135 (by decide) ?_
          have hk2 : k < ρ 4 := by rw [q_le (by omega) (by omega)] at z78; omega
          simp only [nI_add] at z119
          simp only [nI_add]
          refine ih (k + 1) _ _ (by omega) (by omega) ?_ (hf.put (rS_p (by omega) (by omega)))
          rw [sg_l3, hs]
          unfold sg_g3
          first | (rw [if_pos ((q_nz (by omega)).mp z95)]; first | (rw [q_min _ (by omega) (Int32.not_le.mp z119)]; exact hr.putP (by omega)) | (rw [q_min2 _ (by omega) z119]; exact hr.putP (by omega))) | (rw [if_neg (fun z => z95 ((q_nz (by omega)).mpr z))]; first | exact hr.same (by rw [Nat.add_zero]) | exact hr.same (by rw [Int32.not_le, nI_ltI (by decide) (by omega)] at z119; omega))
        · skip
          refine w_bipush (n := 124) (nI 99) dX12_goes_122 (by decide) rfl ?_
          refine w_goto 129 dX12_goes_124 (by decide) ?_
          refine w_cV3 (n := 132) pl_104 cl_12 s0_X12_put k_X12_105 (Nat.le_of_ble_eq_true rfl) dX12_goes_129 rfl (r_put (h := k) (w := 1) (by omega) ?_)
          refine w_inc4 (n := 135) (nI 1) dX12_goes_132 (by decide) rfl rfl (by decide) ?_
          refine w_goto 70 dX12_goes_135 (by decide) ?_
          have hk2 : k < ρ 4 := by rw [q_le (by omega) (by omega)] at z78; omega
          simp only [nI_add] at z119
          simp only [nI_add]
          refine ih (k + 1) _ _ (by omega) (by omega) ?_ (hf.put (rS_p (by omega) (by omega)))
          rw [sg_l3, hs]
          unfold sg_g3
          first | (rw [if_pos ((q_nz (by omega)).mp z95)]; first | (rw [q_min _ (by omega) (Int32.not_le.mp z119)]; exact hr.putP (by omega)) | (rw [q_min2 _ (by omega) z119]; exact hr.putP (by omega))) | (rw [if_neg (fun z => z95 ((q_nz (by omega)).mpr z))]; first | exact hr.same (by rw [Nat.add_zero]) | exact hr.same (by rw [Int32.not_le, nI_ltI (by decide) (by omega)] at z119; omega))
      · skip
        refine w_al0 (n := 99) dX12_goes_98 rfl ?_
        refine w_il4 (n := 101) dX12_goes_99 rfl ?_
        refine w_cV1 (n := 104) pl_104 cl_12 s0_X12_leansOf k_X12_112 (Nat.le_of_ble_eq_true rfl) dX12_goes_101 rfl (r_leansOf hr o hk ?_)
        refine w_goto 108 dX12_goes_104 (by decide) ?_
        refine w_iadd (n := 109) dX12_goes_108 rfl ?_
        refine w_is5 (n := 111) dX12_goes_109 rfl rfl (by decide) ?_
        refine w_al0 (n := 112) dX12_goes_111 rfl ?_
        refine w_il4 (n := 114) dX12_goes_112 rfl ?_
        refine w_iconst (n := 115) (nI 1) dX12_goes_114 (by decide) rfl ?_
        refine w_il5 (n := 117) dX12_goes_115 rfl ?_
        refine w_bipush (n := 119) (nI 99) dX12_goes_117 (by decide) rfl ?_
        refine w_ic_le (n := 122) 127 dX12_goes_119 (by decide) rfl (fun z119 => ?_) (fun z119 => ?_)
        · skip
          refine w_il5 (n := 129) dX12_goes_127 rfl ?_
          refine w_cV3 (n := 132) pl_104 cl_12 s0_X12_put k_X12_105 (Nat.le_of_ble_eq_true rfl) dX12_goes_129 rfl (r_put (h := k) (w := 1) (by omega) ?_)
          refine w_inc4 (n := 135) (nI 1) dX12_goes_132 (by decide) rfl rfl (by decide) ?_
          refine w_goto 70 dX12_goes_135 (by decide) ?_
          have hk2 : k < ρ 4 := by rw [q_le (by omega) (by omega)] at z78; omega
          simp only [nI_add] at z119
          simp only [nI_add]
          refine ih (k + 1) _ _ (by omega) (by omega) ?_ (hf.put (rS_p (by omega) (by omega)))
          rw [sg_l3, hs]
          unfold sg_g3
          first | (rw [if_pos ((q_nz (by omega)).mp z95)]; first | (rw [q_min _ (by omega) (Int32.not_le.mp z119)]; exact hr.putP (by omega)) | (rw [q_min2 _ (by omega) z119]; exact hr.putP (by omega))) | (rw [if_neg (fun z => z95 ((q_nz (by omega)).mpr z))]; first | exact hr.same (by rw [Nat.add_zero]) | exact hr.same (by rw [Int32.not_le, nI_ltI (by decide) (by omega)] at z119; omega))
        · skip
          refine w_bipush (n := 124) (nI 99) dX12_goes_122 (by decide) rfl ?_
          refine w_goto 129 dX12_goes_124 (by decide) ?_
          refine w_cV3 (n := 132) pl_104 cl_12 s0_X12_put k_X12_105 (Nat.le_of_ble_eq_true rfl) dX12_goes_129 rfl (r_put (h := k) (w := 1) (by omega) ?_)
          refine w_inc4 (n := 135) (nI 1) dX12_goes_132 (by decide) rfl rfl (by decide) ?_
          refine w_goto 70 dX12_goes_135 (by decide) ?_
          have hk2 : k < ρ 4 := by rw [q_le (by omega) (by omega)] at z78; omega
          simp only [nI_add] at z119
          simp only [nI_add]
          refine ih (k + 1) _ _ (by omega) (by omega) ?_ (hf.put (rS_p (by omega) (by omega)))
          rw [sg_l3, hs]
          unfold sg_g3
          first | (rw [if_pos ((q_nz (by omega)).mp z95)]; first | (rw [q_min _ (by omega) (Int32.not_le.mp z119)]; exact hr.putP (by omega)) | (rw [q_min2 _ (by omega) z119]; exact hr.putP (by omega))) | (rw [if_neg (fun z => z95 ((q_nz (by omega)).mpr z))]; first | exact hr.same (by rw [Nat.add_zero]) | exact hr.same (by rw [Int32.not_le, nI_ltI (by decide) (by omega)] at z119; omega))

set_option maxRecDepth 20000 in
theorem r_goL1 {d : Nat} {M : dk_Mem} {Q : Option Value → dk_Mem → Prop} {τ : Nat → Nat} (ot : sg_ok τ) {set : Nat} (hset : set < 64) {a : Nat} (ha : a ≤ 13) {told : Int32} (hq : ∀ M2, rr (sg_up (sg_l3 (sg_l2 τ set (τ 4)).1 (τ 4)) 1 (τ 1 + 1)) M2 → dk_fr rG M M2 → M2.1 105 2 = M.1 105 2 + nI (a + (sg_l2 τ set (τ 4)).2) → Q (some (.int (nI (a + (sg_l2 τ set (τ 4)).2)))) M2) : ∀ (n k : Nat) (M1 : dk_Mem) (x5 : Option Value), k ≤ τ 4 → τ 4 - k < n → rr (sg_l2 τ set k).1 M1 → dk_fr rS M M1 → dk_W (d + 3) mX12_goes 31 [some (.ref 104), some (.int told), some (.int (nI (a + (sg_l2 τ set k).2))), some (.int (nI set)), some (.int (nI k)), x5] [] M1 Q := by
  have o4 := ot.2.2.2.1
  intro n
  induction n with
  | zero => intro i _ _ _ h; omega
  | succ n ih =>
    intro k M1 x5 hi hn hr hf
    have e4 : (sg_l2 τ set k).1 4 = τ 4 := sg_l2_o (by omega) (by omega) k
    have e1 : (sg_l2 τ set k).1 1 = τ 1 := sg_l2_o (by omega) (by omega) k
    have o := ot.l2 (set := set) k
    have lw := sg_l2_le (σ := τ) (set := set) k
    refine w_il4 (n := 33) dX12_goes_31 rfl ?_
    refine w_al0 (n := 34) dX12_goes_33 rfl ?_
    refine g_R (n := 37) f_X12_9_12 pl_104 rf_104_0 dX12_goes_34 rfl ?_
    refine w_iconst (n := 38) (nI 4) dX12_goes_37 (by decide) rfl ?_
    refine i_iald (n := 39) pl_105 (j := 4) rfl (by decide) (by decide) ((hr 4 (by decide) (by decide) (by decide)).trans (by rw [e4])) dX12_goes_38 rfl ?_
    refine w_ic_ge (n := 42) 67 dX12_goes_39 (by decide) rfl (fun z39 => ?_) (fun z39 => ?_)
    · skip
      refine w_iconst (n := 68) (nI 0) dX12_goes_67 (by decide) rfl ?_
      refine w_is4 (n := 70) dX12_goes_68 rfl rfl (by decide) ?_
      have ek : k = τ 4 := by rw [q_le (by omega) (by omega)] at z39; omega
      subst ek
      refine r_goL2 o (by omega) (fun M2 g1 g2 g3 => ?_) ((sg_l2 τ set (τ 4)).1 4 + 1) 0 _ _ (by omega) (by omega) hr dk_fr.rf
      rw [e4, e1] at g1
      exact hq M2 g1 ((frSG hf).tr g2) (by rw [g3, hf.2 105 2 (by rintro (z | z) <;> omega)])
    · skip
      have hk : k < 6 := by rw [q_le (by omega) (by omega)] at z39; omega
      have qb := q_bit set hset k hk
      refine w_il3 (n := 43) dX12_goes_42 rfl ?_
      refine w_il4 (n := 45) dX12_goes_43 rfl ?_
      refine w_ishr (n := 46) dX12_goes_45 rfl ?_
      refine w_iconst (n := 47) (nI 1) dX12_goes_46 (by decide) rfl ?_
      refine w_iand (n := 48) dX12_goes_47 rfl ?_
      refine w_iconst (n := 49) (nI 1) dX12_goes_48 (by decide) rfl ?_
      refine w_ic_ne (n := 52) 61 dX12_goes_49 (by decide) rfl (fun z49 => ?_) (fun z49 => ?_)
      · skip
        refine w_inc4 (n := 64) (nI 1) dX12_goes_61 (by decide) rfl rfl (by decide) ?_
        refine w_goto 31 dX12_goes_64 (by decide) ?_
        have hk2 : k < τ 4 := by rw [q_le (by omega) (by omega)] at z39; omega
        rw [qb] at z49
        simp only [nI_add]
        by_cases tb : set.testBit k = true
        · first | exact absurd (by rw [if_pos tb]) z49 | (have el : sg_l2 τ set (k + 1) = (sg_falls (sg_l2 τ set k).1 k, (sg_l2 τ set k).2 + 1) := by { rw [sg_l2, if_pos tb] }; have hx := ih (k + 1) _ x5 (by omega) (by omega) (by rw [el]; exact g1) (hf.tr g2); rw [el] at hx; exact hx)
        · first | exact absurd (by rw [if_neg tb] at z49; exact z49) (by decide) | (have el : sg_l2 τ set (k + 1) = sg_l2 τ set k := by { rw [sg_l2, if_neg tb] }; have hx := ih (k + 1) _ x5 (by omega) (by omega) (by rw [el]; exact hr) hf; rw [el] at hx; exact hx)
      · skip
        refine w_al0 (n := 53) dX12_goes_52 rfl ?_
        refine w_il4 (n := 55) dX12_goes_53 rfl ?_
        refine w_cV1 (n := 58) pl_104 cl_12 s0_X12_falls k_X12_217 (Nat.le_of_ble_eq_true rfl) dX12_goes_55 rfl (r_falls hr o hk (fun M3 g1 g2 => ?_))
        refine w_inc2 (n := 61) (nI 1) dX12_goes_58 (by decide) rfl rfl (by decide) ?_
        refine w_inc4 (n := 64) (nI 1) dX12_goes_61 (by decide) rfl rfl (by decide) ?_
        refine w_goto 31 dX12_goes_64 (by decide) ?_
        have hk2 : k < τ 4 := by rw [q_le (by omega) (by omega)] at z39; omega
        rw [qb] at z49
        simp only [nI_add]
        by_cases tb : set.testBit k = true
        · first | exact absurd (by rw [if_pos tb]) z49 | (have el : sg_l2 τ set (k + 1) = (sg_falls (sg_l2 τ set k).1 k, (sg_l2 τ set k).2 + 1) := by { rw [sg_l2, if_pos tb] }; have hx := ih (k + 1) _ x5 (by omega) (by omega) (by rw [el]; exact g1) (hf.tr g2); rw [el] at hx; exact hx)
        · first | exact absurd (by rw [if_neg tb] at z49; exact z49) (by decide) | (have el : sg_l2 τ set (k + 1) = sg_l2 τ set k := by { rw [sg_l2, if_neg tb] }; have hx := ih (k + 1) _ x5 (by omega) (by omega) (by rw [el]; exact hr) hf; rw [el] at hx; exact hx)

theorem sg_ok.told {w : sg_R} {σ : Nat → Nat} (o : sg_ok σ) {t : Option Nat} (ht : ∀ h, t = some h → h < 6) : sg_ok (sg_told w σ t).1 := by
  cases t with
  | none => exact o
  | some h =>
    unfold sg_told
    dsimp only
    split
    · exact o.tells (ht h rfl)
    · exact o
theorem sg_told_o {w : sg_R} {σ : Nat → Nat} {t : Option Nat} {j : Nat} (h1 : j < 36) : (sg_told w σ t).1 j = σ j := by
  cases t with
  | none => rfl
  | some h =>
    unfold sg_told
    dsimp only
    split
    · exact sg_tells_o (Or.inr h1) (by omega)
    · rfl
theorem sg_told_le {w : sg_R} {σ : Nat → Nat} (o : sg_ok σ) {t : Option Nat} (ht : ∀ h, t = some h → h < 6) : (sg_told w σ t).2 ≤ 13 := by
  cases t with
  | none => exact Nat.zero_le _
  | some h =>
    unfold sg_told
    dsimp only
    split
    · exact sg_tells_le o (ht h rfl)
    · exact Nat.zero_le _
def dk_enc (t : Option Nat) : Int32 := match t with
  | none => -1
  | some h => nI h
theorem sg_goes_le {w : sg_R} {σ : Nat → Nat} (o : sg_ok σ) {t : Option Nat} (ht : ∀ h, t = some h → h < 6) : (sg_goes w σ t).2 ≤ 19 := by
  have h1 := sg_told_le (w := w) o ht
  have h2 := sg_l2_le (σ := (sg_told w σ t).1) (set := sg_tip (sg_told w σ t).1 (σ 4)) (σ 4)
  have h3 := o.2.2.2.1
  show (sg_told w σ t).2 + (sg_mid w σ t).2 ≤ 19
  unfold sg_mid
  omega
set_option maxRecDepth 20000 in
theorem r_goT {d : Nat} {M : dk_Mem} {Q : Option Value → dk_Mem → Prop} {τ : Nat → Nat} (o : sg_ok τ) {a : Nat} (ha : a ≤ 13) {told : Int32} {M1 : dk_Mem} (hr : rr τ M1) (hf : dk_fr rS M M1) (hq : ∀ M2, rr (sg_up (sg_l3 (sg_l2 τ (sg_tip τ (τ 4)) (τ 4)).1 (τ 4)) 1 (τ 1 + 1)) M2 → dk_fr rG M M2 → M2.1 105 2 = M.1 105 2 + nI (a + (sg_l2 τ (sg_tip τ (τ 4)) (τ 4)).2) → Q (some (.int (nI (a + (sg_l2 τ (sg_tip τ (τ 4)) (τ 4)).2)))) M2) : dk_W (d + 3) mX12_goes 22 [some (.ref 104), some (.int told), none, none, none, none] [.int (nI a)] M1 Q := by
  have o4 := o.2.2.2.1
  refine w_is2 (n := 23) dX12_goes_22 rfl rfl (by decide) ?_
  refine w_al0 (n := 24) dX12_goes_23 rfl ?_
  refine w_cV0 (n := 27) pl_104 cl_12 s0_X12_tipping k_X12_223 (Nat.le_of_ble_eq_true rfl) dX12_goes_24 rfl (r_tipping hr o ?_)
  refine w_is3 (n := 28) dX12_goes_27 rfl rfl (by decide) ?_
  refine w_iconst (n := 29) (nI 0) dX12_goes_28 (by decide) rfl ?_
  refine w_is4 (n := 31) dX12_goes_29 rfl rfl (by decide) ?_
  refine r_goL1 o (Nat.lt_of_lt_of_le (sg_tip_lt τ (τ 4)) (pow6 o4)) ha (fun M2 g1 g2 g3 => hq M2 g1 ((frSG hf).tr g2) (by rw [g3, hf.2 105 2 (by rintro (z | z) <;> omega)])) (τ 4 + 1) 0 _ _ (by omega) (by omega) hr dk_fr.rf

set_option maxRecDepth 20000 in
theorem r_goesN {d : Nat} {M : dk_Mem} {Q : Option Value → dk_Mem → Prop} {σ : Nat → Nat} (hr : rr σ M) (o : sg_ok σ) {w : sg_R} {f : Nat → Int32} (hb : rb w (σ 6) f) (hT : rT f M) (hq : ∀ M2, rr (sg_goes w σ none).1 M2 → dk_fr rG M M2 → M2.1 105 2 = M.1 105 2 + nI (sg_goes w σ none).2 → Q (some (.int (nI (sg_goes w σ none).2))) M2) : dk_Call (d + 6) mX12_goes [.ref 104, .int (-1)] M Q := by
  have ht : ∀ h0, (none : Option Nat) = some h0 → h0 < 6 := (fun h0 e => by cases e)
  have e4 : (sg_told w σ (none)).1 4 = σ 4 := sg_told_o (by omega)
  have e1 : (sg_told w σ (none)).1 1 = σ 1 := sg_told_o (by omega)
  have ot := sg_ok.told (w := w) o ht
  have la := sg_told_le (w := w) o ht
  refine dk_enter [some (.ref 104), some (.int (-1)), none, none, none, none] (by decide) (fun _ => rfl) (fun _ => Nat.le_of_ble_eq_true rfl) ?_
  refine w_il1 (n := 1) dX12_goes_0 rfl ?_
  refine w_if_lt (n := 4) 21 dX12_goes_1 (by decide) rfl (fun _ => ?_) (fun h => absurd (by decide) h)
  refine w_iconst (n := 22) (nI 0) dX12_goes_21 (by decide) rfl ?_
  have k9 := r_goT (M := M) (d := d + 3) (told := -1) (a := (sg_told w σ none).2) (Q := Q) ot la hr dk_fr.rf (fun M2 g1 g2 g3 => by simp only [e4, e1] at g1 g3; refine dk_q ?_ (hq M2 g1 g2 g3); simp only [e4]; rfl)
  exact k9

set_option maxRecDepth 20000 in
theorem r_goesS {d : Nat} {M : dk_Mem} {Q : Option Value → dk_Mem → Prop} {σ : Nat → Nat} (hr : rr σ M) (o : sg_ok σ) {h : Nat} (hh : h < 6) {w : sg_R} {f : Nat → Int32} (hb : rb w (σ 6) f) (hT : rT f M) (hq : ∀ M2, rr (sg_goes w σ (some h)).1 M2 → dk_fr rG M M2 → M2.1 105 2 = M.1 105 2 + nI (sg_goes w σ (some h)).2 → Q (some (.int (nI (sg_goes w σ (some h)).2))) M2) : dk_Call (d + 6) mX12_goes [.ref 104, .int (nI h)] M Q := by
  have ht : ∀ h0, ((some h) : Option Nat) = some h0 → h0 < 6 := (fun h0 e => by cases e; exact hh)
  have e4 : (sg_told w σ ((some h))).1 4 = σ 4 := sg_told_o (by omega)
  have e1 : (sg_told w σ ((some h))).1 1 = σ 1 := sg_told_o (by omega)
  have ot := sg_ok.told (w := w) o ht
  have la := sg_told_le (w := w) o ht
  have af := o.fal hh
  refine dk_enter [some (.ref 104), some (.int (nI h)), none, none, none, none] (by decide) (fun _ => rfl) (fun _ => Nat.le_of_ble_eq_true rfl) ?_
  refine w_il1 (n := 1) dX12_goes_0 rfl ?_
  refine w_if_lt (n := 4) 21 dX12_goes_1 (by decide) rfl (fun z1 => ?_) (fun z1 => ?_)
  · skip
    refine w_iconst (n := 22) (nI 0) dX12_goes_21 (by decide) rfl ?_
    first | (have et : sg_told w σ (some h) = sg_tells w σ h := if_pos ((q_nz (by omega)).mp z10); have k9 := r_goT (M := M) (d := d + 3) (told := nI h) (a := (sg_told w σ (some h)).2) (Q := Q) ot la (by rw [et]; exact g1) g2 (fun M2 g1 g2 g3 => by simp only [e4, e1] at g1 g3; refine dk_q ?_ (hq M2 g1 g2 g3); simp only [e4]; rfl); rw [et] at k9; exact k9) | (have et : sg_told w σ (some h) = (σ, 0) := if_neg (fun z => z10 ((q_nz (by omega)).mpr z)); have k9 := r_goT (M := M) (d := d + 3) (told := nI h) (a := (sg_told w σ (some h)).2) (Q := Q) ot la (by rw [et]; exact hr) dk_fr.rf (fun M2 g1 g2 g3 => by simp only [e4, e1] at g1 g3; refine dk_q ?_ (hq M2 g1 g2 g3); simp only [e4]; rfl); rw [et] at k9; exact k9) | exact absurd z1 (nI_pos (by omega))
  · skip
    refine w_al0 (n := 5) dX12_goes_4 rfl ?_
    refine w_il1 (n := 6) dX12_goes_5 rfl ?_
    refine w_iconst (n := 7) (nI 4) dX12_goes_6 (by decide) rfl ?_
    refine w_cV2 (n := 10) pl_104 cl_12 s0_X12_of k_X12_69 (Nat.le_of_ble_eq_true rfl) dX12_goes_7 rfl (r_of (h := h) (w := 4) (by omega) (hr.fal hh) ?_)
    refine w_if_ne (n := 13) 21 dX12_goes_10 (by decide) rfl (fun z10 => ?_) (fun z10 => ?_)
    · skip
      refine w_iconst (n := 22) (nI 0) dX12_goes_21 (by decide) rfl ?_
      first | (have et : sg_told w σ (some h) = sg_tells w σ h := if_pos ((q_nz (by omega)).mp z10); have k9 := r_goT (M := M) (d := d + 3) (told := nI h) (a := (sg_told w σ (some h)).2) (Q := Q) ot la (by rw [et]; exact g1) g2 (fun M2 g1 g2 g3 => by simp only [e4, e1] at g1 g3; refine dk_q ?_ (hq M2 g1 g2 g3); simp only [e4]; rfl); rw [et] at k9; exact k9) | (have et : sg_told w σ (some h) = (σ, 0) := if_neg (fun z => z10 ((q_nz (by omega)).mpr z)); have k9 := r_goT (M := M) (d := d + 3) (told := nI h) (a := (sg_told w σ (some h)).2) (Q := Q) ot la (by rw [et]; exact hr) dk_fr.rf (fun M2 g1 g2 g3 => by simp only [e4, e1] at g1 g3; refine dk_q ?_ (hq M2 g1 g2 g3); simp only [e4]; rfl); rw [et] at k9; exact k9) | exact absurd z1 (nI_pos (by omega))
    · skip
      refine w_al0 (n := 14) dX12_goes_13 rfl ?_
      refine w_il1 (n := 15) dX12_goes_14 rfl ?_
      refine w_cV1 (n := 18) pl_104 cl_12 s0_X12_tells k_X12_220 (Nat.le_of_ble_eq_true rfl) dX12_goes_15 rfl (r_tells hr o hh hb hT (fun M3 g1 g2 => ?_))
      refine w_goto 22 dX12_goes_18 (by decide) ?_
      first | (have et : sg_told w σ (some h) = sg_tells w σ h := if_pos ((q_nz (by omega)).mp z10); have k9 := r_goT (M := M) (d := d + 3) (told := nI h) (a := (sg_told w σ (some h)).2) (Q := Q) ot la (by rw [et]; exact g1) g2 (fun M2 g1 g2 g3 => by simp only [e4, e1] at g1 g3; refine dk_q ?_ (hq M2 g1 g2 g3); simp only [e4]; rfl); rw [et] at k9; exact k9) | (have et : sg_told w σ (some h) = (σ, 0) := if_neg (fun z => z10 ((q_nz (by omega)).mpr z)); have k9 := r_goT (M := M) (d := d + 3) (told := nI h) (a := (sg_told w σ (some h)).2) (Q := Q) ot la (by rw [et]; exact hr) dk_fr.rf (fun M2 g1 g2 g3 => by simp only [e4, e1] at g1 g3; refine dk_q ?_ (hq M2 g1 g2 g3); simp only [e4]; rfl); rw [et] at k9; exact k9) | exact absurd z1 (nI_pos (by omega))
