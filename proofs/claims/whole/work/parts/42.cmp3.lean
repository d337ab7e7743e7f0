/-- what a component's YEAR at the moment μ touches -/
def cX (μ q k : Nat) : Prop := q = μ ∨ q = μ + 1 ∨ q = 29 ∨ q = 52 ∨ q = 87
def cY (q k : Nat) : Prop := q = 29 ∨ q = 52 ∨ q = 87
theorem cY_X {μ q k : Nat} (h : cY q k) : cX μ q k := Or.inr (Or.inr h)
theorem cs.X {σ : Nat → Nat} {M M' : dk_Mem} {μ : Nat} (hm : dk_mo μ) (h : cs σ M) (hf : dk_fr (cX μ) M M') : cs σ M' := h.fr hf (fun q k h1 h2 z => by unfold cX dk_mo at *; omega)
theorem cs.Y {σ : Nat → Nat} {M M' : dk_Mem} (h : cs σ M) (hf : dk_fr cY M M') : cs σ M' := h.fr hf (fun q k h1 h2 z => by unfold cY at *; omega)
theorem cm.Y {σ : Nat → Nat} {M M' : dk_Mem} {μ : Nat} (hm : dk_mo μ) (h : cm μ σ M) (hf : dk_fr cY M M') : cm μ σ M' := h.fr hf (fun q k h1 z => by unfold cY dk_mo at *; omega)
def dk_bo (β : Nat) : Prop := β = 24 ∨ β = 47 ∨ β = 82
/-- the part of a book that its conditions stand on -/
def cbk (g : Nat → Nat → Int32) (β : Nat) (M : dk_Mem) : Prop := M.1 β 0 = g 0 0 ∧ M.1 β 5 = g 0 5 ∧ (∀ k, k < 8 → M.1 (β + 1) k = g 1 k ∧ M.1 (β + 2) k = g 2 k) ∧ (∀ k, k < 9 → M.1 (β + 3) k = g 3 k) ∧ ∀ k, k < 200 → nI k < g 0 5 → M.1 (β + 4) k = g 4 k
/-- THE RULES in a component's book: what 'will' answers, wherever a book holds them -/
def cb (w : sg_R) (g : Nat → Nat → Int32) : Prop := (∀ k y l gp a n, w k y l gp a n ≤ 2) ∧ ∀ (d β μ h : Nat) (σ : Nat → Nat) (M1 : dk_Mem) (Q : Option Value → dk_Mem → Prop), dk_bo β → cbk g β M1 → M1.1 14 13 = nI β → cs σ M1 → dk_mo μ → cm μ σ M1 → sg_ok σ → h < σ 4 → (∀ M2, dk_fr cY M1 M2 → Q (some (.int (nI (sg_does w σ h)))) M2) → dk_Call (d + 4) mX10_will [.ref 14, .ref μ, .int (nI h)] M1 Q
/-- the street's book, at place β, is one of these -/
def cbb (w : sg_R) (M : dk_Mem) : Prop := ∃ (g : Nat → Nat → Int32) (β : Nat), cb w g ∧ dk_bo β ∧ cbk g β M ∧ M.1 14 13 = nI β
theorem cbk.fr {g : Nat → Nat → Int32} {β : Nat} {M M' : dk_Mem} {S : Nat → Nat → Prop} (h : cbk g β M) (hf : dk_fr S M M') (hS : ∀ q k, β ≤ q → q < β + 5 → ¬ S q k) : cbk g β M' := by
  obtain ⟨h1, h2, h3, h4, h5⟩ := h
  have e : ∀ q k, β ≤ q → q < β + 5 → M'.1 q k = M.1 q k := fun q k g1 g2 => hf.2 q k (hS q k g1 g2)
  refine ⟨by rw [e _ _ (by omega) (by omega)]; exact h1, by rw [e _ _ (by omega) (by omega)]; exact h2, fun k hk => ?_, fun k hk => by rw [e _ _ (by omega) (by omega)]; exact h4 k hk, fun k hk hg => by rw [e _ _ (by omega) (by omega)]; exact h5 k hk hg⟩
  rw [e _ _ (by omega) (by omega), e _ _ (by omega) (by omega)]
  exact h3 k hk
theorem cbb.X {w : sg_R} {M M' : dk_Mem} {μ : Nat} (hm : dk_mo μ) (h : cbb w M) (hf : dk_fr (cX μ) M M') : cbb w M' := by
  obtain ⟨g, β, h1, h2, h3, h4⟩ := h
  exact ⟨g, β, h1, h2, h3.fr hf (fun q k a b z => by unfold cX dk_mo dk_bo at *; omega), by rw [hf.2 14 13 (fun z => by unfold cX dk_mo at *; omega)]; exact h4⟩
theorem cbb.Y {w : sg_R} {M M' : dk_Mem} (h : cbb w M) (hf : dk_fr cY M M') : cbb w M' := h.X (μ := 22) (Or.inl rfl) (hf.up (fun _ _ => cY_X))
theorem cbb.le {w : sg_R} {M : dk_Mem} (h : cbb w M) (k y l g a n : Nat) : w k y l g a n ≤ 2 := by
  obtain ⟨_, _, h1, -⟩ := h
  exact h1.1 _ _ _ _ _ _
theorem c_will {d : Nat} {M : dk_Mem} {Q : Option Value → dk_Mem → Prop} {σ : Nat → Nat} (hs : cs σ M) (o : sg_ok σ) {μ : Nat} (hm : dk_mo μ) (hc : cm μ σ M) {h : Nat} (hh : h < σ 4) {w : sg_R} (hb : cbb w M) (hq : ∀ M2, dk_fr cY M M2 → Q (some (.int (nI (sg_does w σ h)))) M2) : dk_Call (d + 4) mX10_will [.ref 14, .ref μ, .int (nI h)] M Q := by
  obtain ⟨g, β, h1, h2, h3, h4⟩ := hb
  exact h1.2 d β μ h σ M Q h2 h3 h4 hs hm hc o hh hq

set_option maxRecDepth 20000 in
theorem c10_pays {d : Nat} {M : dk_Mem} {Q : Option Value → dk_Mem → Prop} {σ : Nat → Nat} (hs : cs σ M) (o : sg_ok σ) {μ : Nat} (hm : dk_mo μ) (hc : cm μ σ M) {h : Nat} (hh : h < σ 4) (hq : Q (some (.int (nI (sg_pays σ h)))) M) : dk_Call (d + 2) mX10_pays [.ref 14, .ref μ, .int (nI h)] M Q := by
  have o4 := o.2.2.2.1
  have b2 := o.lean (h := h) (by omega)
  have b3 := o.wd
  have b4 := (o.bears (h := h) (by omega)).2
  have b5 := o.gap (h := h) (by omega)
  have e1 : nI (σ (36 + 5 * h)) + nI 6 * nI (sg_wd σ) < nI (sg_bears σ h) ↔ ¬ sg_bears σ h ≤ σ (36 + 5 * h) + 6 * sg_wd σ := by rw [pk_mul, nI_add, nI_ltI (by omega) (by omega)]; omega
  unfold sg_pays at hq
  refine dk_enter [some (.ref 14), some (.ref μ), some (.int (nI h))] (by decide) (fun _ => rfl) (fun _ => Nat.le_of_ble_eq_true rfl) ?_
  refine w_al1 (n := 1) dX10_pays_0 rfl ?_
  refine w_il2 (n := 2) dX10_pays_1 rfl ?_
  refine w_cV1 (n := 5) hm.is cl_4 s0_X4_isFallen k_X10_125 (Nat.le_of_ble_eq_true rfl) dX10_pays_2 rfl (c4_isFallen hm hc o hh (fun t2 => ?_) (fun t2 => ?_))
  · skip
    refine w_if_eq (n := 8) 10 dX10_pays_5 (by decide) rfl (fun h => absurd h (by decide)) (fun _ => ?_)
    refine w_iconst (n := 9) (nI 0) dX10_pays_8 (by decide) rfl ?_
    refine w_retI dX10_pays_9 rfl ?_
    first | (rw [if_neg (by omega)] at hq; exact hq) | (rw [if_pos ⟨t2, Decidable.not_not.mp (fun z => z34 (e1.mpr z))⟩] at hq; exact dk_q (nI_add 4 _) hq) | (rw [if_neg (fun z => (e1.mp z34) z.2)] at hq; exact hq)
  · skip
    refine w_if_eq (n := 8) 10 dX10_pays_5 (by decide) rfl (fun _ => ?_) (fun h => absurd (by decide) h)
    refine w_al1 (n := 11) dX10_pays_10 rfl ?_
    refine g_R (n := 14) f_X10_93_4 hm.is hm.rf dX10_pays_11 rfl ?_
    refine w_il2 (n := 15) dX10_pays_14 rfl ?_
    refine i_iald (n := 16) hm.ar (j := h) rfl (by omega) (by decide) (hc.2.2 h hh) dX10_pays_15 rfl ?_
    refine w_bipush (n := 18) (nI 6) dX10_pays_16 (by decide) rfl ?_
    refine w_al0 (n := 19) dX10_pays_18 rfl ?_
    refine w_al1 (n := 20) dX10_pays_19 rfl ?_
    refine g_I (n := 23) f_X10_108_4 hm.is dX10_pays_20 rfl ?_
    rw [hc.1]
    refine w_cV1 (n := 26) pl_14 cl_10 s0_X10_wordOf k_X10_115 (Nat.le_of_ble_eq_true rfl) dX10_pays_23 rfl (c10_wordOf hs o o.2.2.1 ?_)
    refine w_imul (n := 27) dX10_pays_26 rfl ?_
    refine w_iadd (n := 28) dX10_pays_27 rfl ?_
    refine w_al0 (n := 29) dX10_pays_28 rfl ?_
    refine g_R (n := 32) f_X10_25_10 pl_14 rf_14_5 dX10_pays_29 rfl ?_
    refine w_il2 (n := 33) dX10_pays_32 rfl ?_
    refine i_iald (n := 34) pl_18 (j := h) rfl (by omega) (by decide) (hs.bears hh) dX10_pays_33 rfl ?_
    refine w_ic_lt (n := 37) 48 dX10_pays_34 (by decide) rfl (fun z34 => ?_) (fun z34 => ?_)
    · skip
      refine w_iconst (n := 49) (nI 0) dX10_pays_48 (by decide) rfl ?_
      refine w_retI dX10_pays_49 rfl ?_
      first | (rw [if_neg (by omega)] at hq; exact hq) | (rw [if_pos ⟨t2, Decidable.not_not.mp (fun z => z34 (e1.mpr z))⟩] at hq; exact dk_q (nI_add 4 _) hq) | (rw [if_neg (fun z => (e1.mp z34) z.2)] at hq; exact hq)
    · skip
      refine w_iconst (n := 38) (nI 4) dX10_pays_37 (by decide) rfl ?_
      refine w_al0 (n := 39) dX10_pays_38 rfl ?_
      refine g_R (n := 42) f_X10_19_10 pl_14 rf_14_3 dX10_pays_39 rfl ?_
      refine w_il2 (n := 43) dX10_pays_42 rfl ?_
      refine i_iald (n := 44) pl_16 (j := h) rfl (by omega) (by decide) (hs.gap hh) dX10_pays_43 rfl ?_
      refine w_iadd (n := 45) dX10_pays_44 rfl ?_
      refine w_goto 49 dX10_pays_45 (by decide) ?_
      refine w_retI dX10_pays_49 rfl ?_
      first | (rw [if_neg (by omega)] at hq; exact hq) | (rw [if_pos ⟨t2, Decidable.not_not.mp (fun z => z34 (e1.mpr z))⟩] at hq; exact dk_q (nI_add 4 _) hq) | (rw [if_neg (fun z => (e1.mp z34) z.2)] at hq; exact hq)

set_option maxRecDepth 20000 in
theorem c10_mayFall {d : Nat} {M : dk_Mem} {Q : Option Value → dk_Mem → Prop} {σ : Nat → Nat} (hs : cs σ M) (o : sg_ok σ) {μ : Nat} (hm : dk_mo μ) (hc : cm μ σ M) {h : Nat} (hh : h < σ 4) {w : sg_R} (hb : cbb w M) (h1 : ∀ M2, dk_fr cY M M2 → sg_may w σ h → Q (some (.int 1)) M2) (h0 : ∀ M2, dk_fr cY M M2 → ¬ sg_may w σ h → Q (some (.int 0)) M2) : dk_Call (d + 5) mX10_mayFall [.ref 14, .ref μ, .int (nI h)] M Q := by
  have o4 := o.2.2.2.1
  have b1 := o.pays (h := h) (by omega)
  have b2 : sg_does w σ h ≤ 2 := hb.le _ _ _ _ _ _
  refine dk_enter [some (.ref 14), some (.ref μ), some (.int (nI h))] (by decide) (fun _ => rfl) (fun _ => Nat.le_of_ble_eq_true rfl) ?_
  refine w_al0 (n := 1) dX10_mayFall_0 rfl ?_
  refine w_al1 (n := 2) dX10_mayFall_1 rfl ?_
  refine w_il2 (n := 3) dX10_mayFall_2 rfl ?_
  refine w_cV2 (n := 6) pl_14 cl_10 s0_X10_pays k_X10_146 (Nat.le_of_ble_eq_true rfl) dX10_mayFall_3 rfl (c10_pays hs o hm hc hh ?_)
  refine w_if_le (n := 9) 22 dX10_mayFall_6 (by decide) rfl (fun z6 => ?_) (fun z6 => ?_)
  · skip
    refine w_iconst (n := 23) (nI 0) dX10_mayFall_22 (by decide) rfl ?_
    refine w_retZ0 dX10_mayFall_23 rfl ?_
    first | exact h1 _ hf ⟨by rw [show (0 : Int32) = nI 0 from rfl, q_le (by omega) (by omega)] at z6; omega, (q_nz (by omega)).mp z15⟩ | exact h0 _ hf (fun z => z15 ((q_nz (by omega)).mpr z.2)) | exact h0 _ dk_fr.rf (fun z => by rw [show (0 : Int32) = nI 0 from rfl, q_le (by omega) (by omega)] at z6; have := z.1; omega)
  · skip
    refine w_al0 (n := 10) dX10_mayFall_9 rfl ?_
    refine w_al1 (n := 11) dX10_mayFall_10 rfl ?_
    refine w_il2 (n := 12) dX10_mayFall_11 rfl ?_
    refine w_cV2 (n := 15) pl_14 cl_10 s0_X10_will k_X10_150 (Nat.le_of_ble_eq_true rfl) dX10_mayFall_12 rfl (c_will hs o hm hc hh hb (fun M2 hf => ?_))
    refine w_if_ne (n := 18) 22 dX10_mayFall_15 (by decide) rfl (fun z15 => ?_) (fun z15 => ?_)
    · skip
      refine w_iconst (n := 23) (nI 0) dX10_mayFall_22 (by decide) rfl ?_
      refine w_retZ0 dX10_mayFall_23 rfl ?_
      first | exact h1 _ hf ⟨by rw [show (0 : Int32) = nI 0 from rfl, q_le (by omega) (by omega)] at z6; omega, (q_nz (by omega)).mp z15⟩ | exact h0 _ hf (fun z => z15 ((q_nz (by omega)).mpr z.2)) | exact h0 _ dk_fr.rf (fun z => by rw [show (0 : Int32) = nI 0 from rfl, q_le (by omega) (by omega)] at z6; have := z.1; omega)
    · skip
      refine w_iconst (n := 19) (nI 1) dX10_mayFall_18 (by decide) rfl ?_
      refine w_goto 23 dX10_mayFall_19 (by decide) ?_
      refine w_retZ1 dX10_mayFall_23 rfl ?_
      first | exact h1 _ hf ⟨by rw [show (0 : Int32) = nI 0 from rfl, q_le (by omega) (by omega)] at z6; omega, (q_nz (by omega)).mp z15⟩ | exact h0 _ hf (fun z => z15 ((q_nz (by omega)).mpr z.2)) | exact h0 _ dk_fr.rf (fun z => by rw [show (0 : Int32) = nI 0 from rfl, q_le (by omega) (by omega)] at z6; have := z.1; omega)

/-- an ACT: 0 none, or 1 more than the number -/
def sg_act (t : Option Nat) : Nat := match t with
  | none => 0
  | some h => h + 1
theorem sg_fm_y {w : sg_R} {σ : Nat → Nat} {j : Nat} (h : sg_may w σ (σ 4 - 1 - j)) : sg_fm w σ (j + 1) = some (σ 4 - 1 - j) := by
  rw [sg_fm]
  exact if_pos h
theorem sg_fm_n {w : sg_R} {σ : Nat → Nat} {j : Nat} (h : ¬ sg_may w σ (σ 4 - 1 - j)) : sg_fm w σ (j + 1) = sg_fm w σ j := by
  rw [sg_fm]
  exact if_neg h
theorem sg_fm_none {w : sg_R} {σ : Nat → Nat} : ∀ j, j ≤ σ 4 → (∀ h, h < σ 4 → ¬ sg_may w σ h) → sg_fm w σ j = none
  | 0, _, _ => rfl
  | j + 1, hj, h => by
    rw [sg_fm_n (h (σ 4 - 1 - j) (by omega))]
    exact sg_fm_none j (by omega) h
theorem sg_fm_some {w : sg_R} {σ : Nat → Nat} {k : Nat} (hk : k < σ 4) (hy : sg_may w σ k) (hno : ∀ h, h < k → ¬ sg_may w σ h) : ∀ j, σ 4 - k ≤ j → j ≤ σ 4 → sg_fm w σ j = some k
  | 0, h1, _ => by omega
  | j + 1, h1, h2 => by
    by_cases e : j + 1 = σ 4 - k
    · have ek : σ 4 - 1 - j = k := by omega
      rw [sg_fm_y (by rw [ek]; exact hy), ek]
    · rw [sg_fm_n (hno (σ 4 - 1 - j) (by omega))]
      exact sg_fm_some hk hy hno j (by omega) (by omega)

set_option maxRecDepth 20000 in
theorem c_lwL {d : Nat} {M : dk_Mem} {Q : Option Value → dk_Mem → Prop} {σ : Nat → Nat} (o : sg_ok σ) {μ : Nat} (hm : dk_mo μ) {w : sg_R} (hq : ∀ M2, dk_fr cY M M2 → Q (some (.int (nI (sg_act (sg_lw w σ))))) M2) : ∀ (n k : Nat) (M1 : dk_Mem), k ≤ σ 4 → σ 4 - k < n → (∀ h, h < k → ¬ sg_may w σ h) → cs σ M1 → cm μ σ M1 → cbb w M1 → dk_fr cY M M1 → dk_W (d + 6) mX10_leastWilling 2 [some (.ref 14), some (.ref μ), some (.int (nI k))] [] M1 Q := by
  have o4 := o.2.2.2.1
  intro n
  induction n with
  | zero => intro i _ _ h; omega
  | succ n ih =>
    intro k M1 hi hn hno hs hc hb hf
    refine w_il2 (n := 3) dX10_leastWilling_2 rfl ?_
    refine w_al0 (n := 4) dX10_leastWilling_3 rfl ?_
    refine g_I (n := 7) f_X10_9_10 pl_14 dX10_leastWilling_4 rfl ?_
    rw [hs.count]
    refine w_ic_ge (n := 10) 29 dX10_leastWilling_7 (by decide) rfl (fun z7 => ?_) (fun z7 => ?_)
    · skip
      refine w_iconst (n := 30) (nI 0) dX10_leastWilling_29 (by decide) rfl ?_
      refine w_retI dX10_leastWilling_30 rfl ?_
      have e : sg_lw w σ = none := sg_fm_none (σ 4) (Nat.le_refl _) (fun h h9 => hno h (by rw [q_le (by omega) (by omega)] at z7; omega))
      have h9 := hq M1 hf
      rw [e] at h9
      exact h9
    · skip
      have hk : k < σ 4 := by rw [q_le (by omega) (by omega)] at z7; omega
      refine w_al0 (n := 11) dX10_leastWilling_10 rfl ?_
      refine w_al1 (n := 12) dX10_leastWilling_11 rfl ?_
      refine w_il2 (n := 13) dX10_leastWilling_12 rfl ?_
      refine w_cV2 (n := 16) pl_14 cl_10 s0_X10_mayFall k_X10_153 (Nat.le_of_ble_eq_true rfl) dX10_leastWilling_13 rfl (c10_mayFall hs o hm hc hk hb (fun M2 g t13 => ?_) (fun M2 g t13 => ?_))
      · skip
        refine w_if_eq (n := 19) 23 dX10_leastWilling_16 (by decide) rfl (fun h => absurd h (by decide)) (fun _ => ?_)
        refine w_il2 (n := 20) dX10_leastWilling_19 rfl ?_
        refine w_iconst (n := 21) (nI 1) dX10_leastWilling_20 (by decide) rfl ?_
        refine w_iadd (n := 22) dX10_leastWilling_21 rfl ?_
        refine w_retI dX10_leastWilling_22 rfl ?_
        have e : sg_lw w σ = some k := sg_fm_some hk t13 hno (σ 4) (by omega) (Nat.le_refl _)
        have h9 := hq M2 (hf.tr g)
        rw [e] at h9
        exact dk_q (nI_add k 1) h9
      · skip
        refine w_if_eq (n := 19) 23 dX10_leastWilling_16 (by decide) rfl (fun _ => ?_) (fun h => absurd (by decide) h)
        refine w_inc2 (n := 26) (nI 1) dX10_leastWilling_23 (by decide) rfl rfl (by decide) ?_
        refine w_goto 2 dX10_leastWilling_26 (by decide) ?_
        rw [nI_add]
        exact ih (k + 1) M2 (by omega) (by omega) (fun h h9 => by rcases (show h < k ∨ h = k by omega) with e | e; exact hno h e; (rw [e]; exact t13)) (hs.Y g) (hc.Y hm g) (hb.Y g) (hf.tr g)

set_option maxRecDepth 20000 in
theorem c10_lw {d : Nat} {M : dk_Mem} {Q : Option Value → dk_Mem → Prop} {σ : Nat → Nat} (hs : cs σ M) (o : sg_ok σ) {μ : Nat} (hm : dk_mo μ) (hc : cm μ σ M) {w : sg_R} (hb : cbb w M) (hq : ∀ M2, dk_fr cY M M2 → Q (some (.int (nI (sg_act (sg_lw w σ))))) M2) : dk_Call (d + 6) mX10_leastWilling [.ref 14, .ref μ] M Q := by
  refine dk_enter [some (.ref 14), some (.ref μ), none] (by decide) (fun _ => rfl) (fun _ => Nat.le_of_ble_eq_true rfl) ?_
  refine w_iconst (n := 1) (nI 0) dX10_leastWilling_0 (by decide) rfl ?_
  refine w_is2 (n := 2) dX10_leastWilling_1 rfl rfl (by decide) ?_
  exact c_lwL o hm hq (σ 4 + 1) 0 M (by omega) (by omega) (fun h h9 => by omega) hs hc hb dk_fr.rf

theorem sg_fl_6 {s : Nat → Nat} (o : sg_ok s) : ∀ n, n ≤ 6 → sg_fl s 6 n = s
  | 0, _ => rfl
  | n + 1, h => by
    rw [sg_fl, sg_fl_6 o n (by omega)]
    unfold sg_f1
    rw [if_neg (fun z => by have := o.room (h := n) (by omega); omega)]
theorem cm.f1t {μ : Nat} {s : Nat → Nat} {M : dk_Mem} (hm : dk_mo μ) (hc : cm μ s M) {nx k : Nat} (hk : k < s 4) (c : s (39 + 5 * k) = 0 ∧ s (38 + 5 * k) = nx) : cm μ (sg_f1 s nx k) (dk_put M (μ + 1) k (nI (min 99 (s (36 + 5 * k) + (12 + s (23 + 2 * nx)))))) := by
  have e : sg_f1 s nx k = sg_up s (36 + 5 * k) (min 99 (s (36 + 5 * k) + 12 + s (23 + 2 * nx))) := if_pos c
  rw [e]
  refine ⟨?_, ?_, fun i hi => ?_⟩
  · rw [dk_put_k (by omega), sg_up_n (by omega)]; exact hc.1
  · rw [dk_put_k (by omega), sg_up_n (by omega), sg_set_cong (σ := s) (s 4) (fun i _ => sg_up_n (by omega))]; exact hc.2.1
  · rw [sg_up_n (by omega)] at hi
    by_cases ei : i = k
    · subst ei; rw [dk_put_s, sg_up_s, Nat.add_assoc]
    · rw [dk_put_k (by omega), sg_up_n (by omega)]; exact hc.2.2 i hi
theorem sg_f1_n {s : Nat → Nat} {nx k : Nat} (c : ¬ (s (39 + 5 * k) = 0 ∧ s (38 + 5 * k) = nx)) : sg_f1 s nx k = s := if_neg c
theorem sg_eqv.rf {σ : Nat → Nat} : sg_eqv σ σ := ⟨rfl, rfl, fun _ _ => ⟨rfl, rfl, rfl⟩, fun _ _ _ => rfl⟩
theorem sg_eqv.tr {σ τ ρ : Nat → Nat} (h1 : sg_eqv σ τ) (h2 : sg_eqv τ ρ) : sg_eqv σ ρ := by
  obtain ⟨a1, a2, a3, a4⟩ := h1
  obtain ⟨b1, b2, b3, b4⟩ := h2
  refine ⟨b1.trans a1, b2.trans a2, fun i hi => ?_, fun j x y => (b4 j x y).trans (a4 j x y)⟩
  have q := b3 i (by omega)
  have p := a3 i hi
  exact ⟨q.1.trans p.1, q.2.1.trans p.2.1, q.2.2.trans p.2.2⟩
theorem sg_eqv.of {σ τ : Nat → Nat} (h : ∀ j, j ≠ 1 → (j % 5 ≠ 1 ∨ j < 36) → (j % 5 ≠ 4 ∨ j < 39) → τ j = σ j) : sg_eqv σ τ :=
  ⟨h 4 (by omega) (by omega) (by omega), h 0 (by omega) (by omega) (by omega), fun i _ => ⟨h _ (by omega) (by omega) (by omega), h _ (by omega) (by omega) (by omega), h _ (by omega) (by omega) (by omega)⟩, fun j _ _ => h j (by omega) (by omega) (by omega)⟩
theorem sg_eqv.falls {σ : Nat → Nat} {h : Nat} : sg_eqv σ (sg_falls σ h) := sg_eqv.of (fun j _ h2 h3 => sg_falls_o h2 (by omega))

set_option maxRecDepth 20000 in
theorem c_fallL {d : Nat} {M : dk_Mem} {Q : Option Value → dk_Mem → Prop} {τ : Nat → Nat} (ot : sg_ok τ) {μ : Nat} (hm : dk_mo μ) {nx : Nat} (hnx : nx < 6) {h : Nat} (hq : ∀ M2, cm μ (sg_fl τ nx (τ 4)) M2 → dk_fr (cX μ) M M2 → Q none M2) : ∀ (n k : Nat) (M1 : dk_Mem), k ≤ τ 4 → τ 4 - k < n → cs τ M1 → cm μ (sg_fl τ nx k) M1 → dk_fr (cX μ) M M1 → dk_W (d + 2) mX10_fall 26 [some (.ref 14), some (.ref μ), some (.int (nI h)), some (.int (nI nx)), some (.int (nI k))] [] M1 Q := by
  have o4 := ot.2.2.2.1
  intro n
  induction n with
  | zero => intro i _ _ h; omega
  | succ n ih =>
    intro k M1 hi hn hst hc hf
    have e4 : sg_fl τ nx k 4 = τ 4 := sg_fl_o (by omega) k
    have ev : sg_eqv τ (sg_fl τ nx k) := sg_eqv.of (fun j _ h2 _ => sg_fl_o h2 k)
    have o := ot.fl (nx := nx) k
    have hs := hst.eqv ev
    generalize he : sg_fl τ nx k = s at hc e4 o hs ev
    refine w_il4 (n := 28) dX10_fall_26 rfl ?_
    refine w_al0 (n := 29) dX10_fall_28 rfl ?_
    refine g_I (n := 32) f_X10_9_10 pl_14 dX10_fall_29 rfl ?_
    rw [hst.count]
    refine w_ic_ge (n := 35) 76 dX10_fall_32 (by decide) rfl (fun z32 => ?_) (fun z32 => ?_)
    · skip
      refine w_ret dX10_fall_76 rfl ?_
      exact hq M1 (by rw [show τ 4 = k by rw [q_le (by omega) (by omega)] at z32; omega, he]; exact hc) hf
    · skip
      have hk : k < s 4 := by rw [q_le (by omega) (by omega)] at z32; omega
      have hk6 : k < 6 := by omega
      have b1 := o.lean hk6
      have b2 := o.room hk6
      have b3 : s (23 + 2 * nx) ≤ 9 := o.2.2.2.2.2.2.1 (2 * nx) (by omega)
      refine w_al0 (n := 36) dX10_fall_35 rfl ?_
      refine g_R (n := 39) f_X10_22_10 pl_14 rf_14_4 dX10_fall_36 rfl ?_
      refine w_il4 (n := 41) dX10_fall_39 rfl ?_
      refine i_iald (n := 42) pl_17 (j := k) rfl (by omega) (by decide) (hs.room hk) dX10_fall_41 rfl ?_
      refine w_il3 (n := 43) dX10_fall_42 rfl ?_
      refine w_ic_ne (n := 46) 70 dX10_fall_43 (by decide) rfl (fun z43 => ?_) (fun z43 => ?_)
      · skip
        refine w_inc4 (n := 73) (nI 1) dX10_fall_70 (by decide) rfl rfl (by decide) ?_
        refine w_goto 26 dX10_fall_73 (by decide) ?_
        rw [nI_add]
        first | exact ih (k + 1) _ (by omega) (by omega) (hst.X hm (dk_fr.rf.put (Or.inr (Or.inl rfl)))) (by rw [sg_fl, he]; exact hc.f1t hm hk ⟨t49, (nI_eq (by omega) (by omega)).mp z43⟩) (hf.put (Or.inr (Or.inl rfl))) | exact ih (k + 1) _ (by omega) (by omega) hst (by rw [sg_fl, he, sg_f1_n (fun z => by omega)]; exact hc) hf | exact ih (k + 1) _ (by omega) (by omega) hst (by rw [sg_fl, he, sg_f1_n (fun z => z43 (by rw [z.2]))]; exact hc) hf
      · skip
        refine w_al1 (n := 47) dX10_fall_46 rfl ?_
        refine w_il4 (n := 49) dX10_fall_47 rfl ?_
        refine w_cV1 (n := 52) hm.is cl_4 s0_X4_isFallen k_X10_125 (Nat.le_of_ble_eq_true rfl) dX10_fall_49 rfl (c4_isFallen hm hc o hk (fun t49 => ?_) (fun t49 => ?_))
        · skip
          refine w_if_ne (n := 55) 70 dX10_fall_52 (by decide) rfl (fun _ => ?_) (fun h => absurd h (by decide))
          refine w_inc4 (n := 73) (nI 1) dX10_fall_70 (by decide) rfl rfl (by decide) ?_
          refine w_goto 26 dX10_fall_73 (by decide) ?_
          rw [nI_add]
          first | exact ih (k + 1) _ (by omega) (by omega) (hst.X hm (dk_fr.rf.put (Or.inr (Or.inl rfl)))) (by rw [sg_fl, he]; exact hc.f1t hm hk ⟨t49, (nI_eq (by omega) (by omega)).mp z43⟩) (hf.put (Or.inr (Or.inl rfl))) | exact ih (k + 1) _ (by omega) (by omega) hst (by rw [sg_fl, he, sg_f1_n (fun z => by omega)]; exact hc) hf | exact ih (k + 1) _ (by omega) (by omega) hst (by rw [sg_fl, he, sg_f1_n (fun z => z43 (by rw [z.2]))]; exact hc) hf
        · skip
          refine w_if_ne (n := 55) 70 dX10_fall_52 (by decide) rfl (fun h => absurd h (by decide)) (fun _ => ?_)
          refine w_al1 (n := 56) dX10_fall_55 rfl ?_
          refine w_il4 (n := 58) dX10_fall_56 rfl ?_
          refine w_bipush (n := 60) (nI 12) dX10_fall_58 (by decide) rfl ?_
          refine w_al0 (n := 61) dX10_fall_60 rfl ?_
          refine g_R (n := 64) f_X10_31_10 pl_14 rf_14_7 dX10_fall_61 rfl ?_
          refine w_il3 (n := 65) dX10_fall_64 rfl ?_
          refine i_iald (n := 66) pl_20 (j := nx) rfl (by omega) (by decide) (hs.2.2.2.2 nx (by omega)).1 dX10_fall_65 rfl ?_
          refine w_iadd (n := 67) dX10_fall_66 rfl ?_
          rw [nI_add]
          refine w_cV2 (n := 70) hm.is cl_4 s0_X4_leanMore k_X10_157 (Nat.le_of_ble_eq_true rfl) dX10_fall_67 rfl (c4_leanMore hm hk6 (hc.2.2 k hk) (by omega) ?_)
          refine w_inc4 (n := 73) (nI 1) dX10_fall_70 (by decide) rfl rfl (by decide) ?_
          refine w_goto 26 dX10_fall_73 (by decide) ?_
          rw [nI_add]
          first | exact ih (k + 1) _ (by omega) (by omega) (hst.X hm (dk_fr.rf.put (Or.inr (Or.inl rfl)))) (by rw [sg_fl, he]; exact hc.f1t hm hk ⟨t49, (nI_eq (by omega) (by omega)).mp z43⟩) (hf.put (Or.inr (Or.inl rfl))) | exact ih (k + 1) _ (by omega) (by omega) hst (by rw [sg_fl, he, sg_f1_n (fun z => by omega)]; exact hc) hf | exact ih (k + 1) _ (by omega) (by omega) hst (by rw [sg_fl, he, sg_f1_n (fun z => z43 (by rw [z.2]))]; exact hc) hf

theorem cm.upf {μ : Nat} {σ : Nat → Nat} {M : dk_Mem} (o : sg_ok σ) (hc : cm μ σ M) {h v : Nat} (hh : h < σ 4) (hv : v ≤ 1) : cm μ (sg_up σ (39 + 5 * h) v) (dk_put M μ 1 (nI (sg_sb (sg_set σ (σ 4)) h v))) := by
  refine ⟨?_, ?_, fun i hi => ?_⟩
  · rw [dk_put_k (by omega), sg_up_n (by omega)]; exact hc.1
  · rw [dk_put_s, sg_up_n (by omega), sg_set_up o hv (σ 4) hh o.2.2.2.1]
  · rw [sg_up_n (by omega)] at hi
    rw [dk_put_k (by omega), sg_up_n (by omega)]; exact hc.2.2 i hi
theorem sg_set_64 {σ : Nat → Nat} (o : sg_ok σ) : sg_set σ (σ 4) < 64 := Nat.lt_of_lt_of_le (sg_set_lt o _ o.2.2.2.1) (pow6 o.2.2.2.1)
set_option maxRecDepth 20000 in
theorem c10_fall {d : Nat} {M : dk_Mem} {Q : Option Value → dk_Mem → Prop} {σ : Nat → Nat} (hs : cs σ M) (o : sg_ok σ) {μ : Nat} (hm : dk_mo μ) (hc : cm μ σ M) {h : Nat} (hh : h < σ 4) (hq : ∀ M2, cm μ (sg_falls σ h) M2 → dk_fr (cX μ) M M2 → Q none M2) : dk_Call (d + 2) mX10_fall [.ref 14, .ref μ, .int (nI h)] M Q := by
  have o4 := o.2.2.2.1
  have b1 := o.room (h := h) (by omega)
  have hf1 : dk_fr (cX μ) M (dk_put M μ 1 (nI (sg_sb (sg_set σ (σ 4)) h 1))) := dk_fr.rf.put (Or.inl rfl)
  have hs1 := hs.X hm hf1
  have hc1 := cm.upf o hc hh (v := 1) (by omega)
  have o1 := o.upf (k := h) (v := 1) (by omega)
  have e4 : sg_up σ (39 + 5 * h) 1 4 = σ 4 := sg_up_n (by omega)
  have e8 : sg_up σ (39 + 5 * h) 1 (38 + 5 * h) = σ (38 + 5 * h) := sg_up_n (by omega)
  have ev : sg_eqv σ (sg_up σ (39 + 5 * h) 1) := sg_eqv.of (fun j _ _ h3 => sg_up_n (by omega))
  refine dk_enter [some (.ref 14), some (.ref μ), some (.int (nI h)), none, none] (by decide) (fun _ => rfl) (fun _ => Nat.le_of_ble_eq_true rfl) ?_
  refine w_al1 (n := 1) dX10_fall_0 rfl ?_
  refine w_il2 (n := 2) dX10_fall_1 rfl ?_
  refine w_iconst (n := 3) (nI 1) dX10_fall_2 (by decide) rfl ?_
  refine w_cV2 (n := 6) hm.is cl_4 s0_X4_setFallen k_X10_96 (Nat.le_of_ble_eq_true rfl) dX10_fall_3 rfl (c4_setFallen hm hc.2.1 (sg_set_64 o) (by omega) (by decide) ?_)
  refine w_pop (n := 7) rfl dX10_fall_6 rfl ?_
  refine w_al0 (n := 8) dX10_fall_7 rfl ?_
  refine g_R (n := 11) f_X10_22_10 pl_14 rf_14_4 dX10_fall_8 rfl ?_
  refine w_il2 (n := 12) dX10_fall_11 rfl ?_
  refine i_iald (n := 13) pl_17 (j := h) rfl (by omega) (by decide) (hs1.room hh) dX10_fall_12 rfl ?_
  refine w_iconst (n := 14) (nI 1) dX10_fall_13 (by decide) rfl ?_
  refine w_iadd (n := 15) dX10_fall_14 rfl ?_
  rw [nI_add]
  refine w_is3 (n := 16) dX10_fall_15 rfl rfl (by decide) ?_
  refine w_il3 (n := 17) dX10_fall_16 rfl ?_
  refine w_bipush (n := 19) (nI 6) dX10_fall_17 (by decide) rfl ?_
  refine w_ic_lt (n := 22) 23 dX10_fall_19 (by decide) rfl (fun z19 => ?_) (fun z19 => ?_)
  · skip
    refine w_iconst (n := 24) (nI 0) dX10_fall_23 (by decide) rfl ?_
    refine w_is4 (n := 26) dX10_fall_24 rfl rfl (by decide) ?_
    refine c_fallL o1 hm (by rw [nI_ltI (by omega) (by decide)] at z19; omega) (fun M2 g1 g2 => hq M2 (by unfold sg_falls; rw [e4] at g1; exact g1) (hf1.tr g2)) (σ 4 + 1) 0 _ (by omega) (by omega) (hs1.eqv ev) hc1 dk_fr.rf
  · skip
    refine w_ret dX10_fall_22 rfl ?_
    refine hq _ ?_ hf1
    unfold sg_falls
    rw [show σ (38 + 5 * h) + 1 = 6 by rw [nI_ltI (by omega) (by decide)] at z19; omega, sg_fl_6 o1 _ o4]
    exact hc1

theorem q_hold2 : ∀ a, a < 100 → ∀ b, b < 10 → (if nI 0 < nI a - nI 10 - nI b then nI a - nI 10 - nI b else nI 0) = nI (a - 10 - b) := by decide +kernel
theorem cm.upl {μ : Nat} {σ : Nat → Nat} {M : dk_Mem} (hc : cm μ σ M) {h v : Nat} : cm μ (sg_up σ (36 + 5 * h) v) (dk_put M (μ + 1) h (nI v)) := by
  refine ⟨?_, ?_, fun i hi => ?_⟩
  · rw [dk_put_k (by omega), sg_up_n (by omega)]; exact hc.1
  · rw [dk_put_k (by omega), sg_up_n (by omega), sg_set_cong (σ := σ) (σ 4) (fun i _ => sg_up_n (by omega))]; exact hc.2.1
  · rw [sg_up_n (by omega)] at hi
    by_cases ei : i = h
    · subst ei; rw [dk_put_s, sg_up_s]
    · rw [dk_put_k (by omega), sg_up_n (by omega)]; exact hc.2.2 i hi
set_option maxRecDepth 20000 in
theorem c10_tell {d : Nat} {M : dk_Mem} {Q : Option Value → dk_Mem → Prop} {σ : Nat → Nat} (hs : cs σ M) (o : sg_ok σ) {μ : Nat} (hm : dk_mo μ) (hc : cm μ σ M) {h : Nat} (hh : h < σ 4) {w : sg_R} (hb : cbb w M) (hq : ∀ M2, cm μ (sg_told w σ (some h)).1 M2 → dk_fr (cX μ) M M2 → Q (some (.int (nI (sg_told w σ (some h)).2))) M2) : dk_Call (d + 5) mX10_tell [.ref 14, .ref μ, .int (nI h)] M Q := by
  have o4 := o.2.2.2.1
  have c2 : sg_does w σ h ≤ 2 := hb.le _ _ _ _ _ _
  have a1 := o.lean (h := h) (by omega)
  have a2 := o.room (h := h) (by omega)
  have a4 : σ (24 + 2 * σ (38 + 5 * h)) ≤ 9 := by rw [show 24 + 2 * σ (38 + 5 * h) = 23 + (2 * σ (38 + 5 * h) + 1) by omega]; exact o.2.2.2.2.2.2.1 _ (by omega)
  have a5 := o.hs
  have a6 := o.pays (h := h) (by omega)
  have e2 : nI (sg_does w σ h) = nI 2 ↔ sg_does w σ h = 2 := nI_eq (by omega) (by decide)
  have e0 : nI (sg_does w σ h) = 0 ↔ sg_does w σ h = 0 := q_nz (by omega)
  have p0 : nI (sg_pays σ h) ≤ 0 ↔ ¬ 0 < sg_pays σ h := by rw [show (0 : Int32) = nI 0 from rfl, q_le (by omega) (by omega)]; omega
  refine dk_enter [some (.ref 14), some (.ref μ), some (.int (nI h)), none, none] (by decide) (fun _ => rfl) (fun _ => Nat.le_of_ble_eq_true rfl) ?_
  refine w_al1 (n := 1) dX10_tell_0 rfl ?_
  refine w_il2 (n := 2) dX10_tell_1 rfl ?_
  refine w_cV1 (n := 5) hm.is cl_4 s0_X4_isFallen k_X10_125 (Nat.le_of_ble_eq_true rfl) dX10_tell_2 rfl (c4_isFallen hm hc o hh (fun t2 => ?_) (fun t2 => ?_))
  · skip
    have et : sg_told w σ (some h) = (σ, 0) := if_neg (by omega)
    refine w_if_eq (n := 8) 10 dX10_tell_5 (by decide) rfl (fun h => absurd h (by decide)) (fun _ => ?_)
    refine w_iconst (n := 9) (nI 0) dX10_tell_8 (by decide) rfl ?_
    refine w_retI dX10_tell_9 rfl ?_
    have h9 := hq M (by rw [et]; exact hc) dk_fr.rf
    rw [et] at h9
    exact h9
  · skip
    have et : sg_told w σ (some h) = sg_tells w σ h := if_pos t2
    refine w_if_eq (n := 8) 10 dX10_tell_5 (by decide) rfl (fun _ => ?_) (fun h => absurd (by decide) h)
    refine w_al0 (n := 11) dX10_tell_10 rfl ?_
    refine w_al1 (n := 12) dX10_tell_11 rfl ?_
    refine w_il2 (n := 13) dX10_tell_12 rfl ?_
    refine w_cV2 (n := 16) pl_14 cl_10 s0_X10_will k_X10_150 (Nat.le_of_ble_eq_true rfl) dX10_tell_13 rfl (c_will hs o hm hc hh hb (fun M2 hf => ?_))
    have hs2 := hs.Y hf
    have hc2 := hc.Y hm hf
    have fX : dk_fr (cX μ) M M2 := hf.up (fun _ _ => cY_X)
    refine w_is3 (n := 17) dX10_tell_16 rfl rfl (by decide) ?_
    refine w_il3 (n := 18) dX10_tell_17 rfl ?_
    refine w_if_ne (n := 21) 43 dX10_tell_18 (by decide) rfl (fun z18 => ?_) (fun z18 => ?_)
    · skip
      refine w_il3 (n := 44) dX10_tell_43 rfl ?_
      refine w_iconst (n := 45) (nI 2) dX10_tell_44 (by decide) rfl ?_
      refine w_ic_ne (n := 48) 97 dX10_tell_45 (by decide) rfl (fun z45 => ?_) (fun z45 => ?_)
      · skip
        refine w_iconst (n := 98) (nI 0) dX10_tell_97 (by decide) rfl ?_
        refine w_retI dX10_tell_98 rfl ?_
        have h9 := hq M2 (by rw [et, sg_tells_n (fun z => z45 (e2.mpr z)) (fun z => z18 (e0.mpr z.1))]; exact hc2) fX
        rw [et, sg_tells_n (fun z => z45 (e2.mpr z)) (fun z => z18 (e0.mpr z.1))] at h9
        exact h9
      · skip
        refine w_al1 (n := 49) dX10_tell_48 rfl ?_
        refine g_R (n := 52) f_X10_93_4 hm.is hm.rf dX10_tell_49 rfl ?_
        refine w_il2 (n := 53) dX10_tell_52 rfl ?_
        refine w_iconst (n := 54) (nI 0) dX10_tell_53 (by decide) rfl ?_
        refine w_al1 (n := 55) dX10_tell_54 rfl ?_
        refine g_R (n := 58) f_X10_93_4 hm.is hm.rf dX10_tell_55 rfl ?_
        refine w_il2 (n := 59) dX10_tell_58 rfl ?_
        refine i_iald (n := 60) hm.ar (j := h) rfl (by omega) (by decide) (hc2.2.2 h hh) dX10_tell_59 rfl ?_
        refine w_bipush (n := 62) (nI 10) dX10_tell_60 (by decide) rfl ?_
        refine w_isub (n := 63) dX10_tell_62 rfl ?_
        refine w_al0 (n := 64) dX10_tell_63 rfl ?_
        refine g_R (n := 67) f_X10_34_10 pl_14 rf_14_8 dX10_tell_64 rfl ?_
        refine w_al0 (n := 68) dX10_tell_67 rfl ?_
        refine g_R (n := 71) f_X10_22_10 pl_14 rf_14_4 dX10_tell_68 rfl ?_
        refine w_il2 (n := 72) dX10_tell_71 rfl ?_
        refine i_iald (n := 73) pl_17 (j := h) rfl (by omega) (by decide) (hs2.room hh) dX10_tell_72 rfl ?_
        refine i_iald (n := 74) pl_21 (j := σ (38 + 5 * h)) rfl (by omega) (by decide) (hs2.2.2.2.2 _ (by omega)).2 dX10_tell_73 rfl ?_
        refine w_isub (n := 75) dX10_tell_74 rfl ?_
        refine w_mmax (n := 78) dk_m3_max_X10_175 (Nat.le_of_ble_eq_true rfl) dX10_tell_75 rfl ?_
        rw [q_hold2 _ (by omega) _ (by omega)]
        refine i_iast (n := 79) hm.ar (j := h) rfl (by omega) (by decide) dX10_tell_78 rfl ?_
        refine w_al0 (n := 80) dX10_tell_79 rfl ?_
        refine w_al1 (n := 81) dX10_tell_80 rfl ?_
        refine g_I (n := 84) f_X10_108_4 hm.is dX10_tell_81 rfl ?_
        rw [dk_put_k (by omega), hc2.1]
        refine w_cV1 (n := 87) pl_14 cl_10 s0_X10_hushOf k_X10_118 (Nat.le_of_ble_eq_true rfl) dX10_tell_84 rfl (c10_hushOf (hs2.X hm (dk_fr.rf.put (Or.inr (Or.inl rfl)))) o o.2.2.1 ?_)
        refine w_iconst (n := 88) (nI 1) dX10_tell_87 (by decide) rfl ?_
        refine w_ic_le (n := 91) 95 dX10_tell_88 (by decide) rfl (fun z88 => ?_) (fun z88 => ?_)
        · skip
          refine w_iconst (n := 96) (nI 0) dX10_tell_95 (by decide) rfl ?_
          refine w_retI dX10_tell_96 rfl ?_
          have z88 := z88
          have z45 := z45
          have h9 := hq _ (by rw [et, sg_tells_2 (e2.mp z45)]; exact hc2.upl) (fX.put (Or.inr (Or.inl rfl)))
          rw [et, sg_tells_2 (e2.mp z45)] at h9
          rw [q_le (by show sg_hs σ < _; omega) (by decide)] at z88
          exact dk_q (by rw [if_neg (show ¬ 1 < sg_hs σ by show ¬ 1 < sg_sy σ (σ 1) % 4; omega)]) h9
        · skip
          refine w_iconst (n := 92) (nI 1) dX10_tell_91 (by decide) rfl ?_
          refine w_goto 96 dX10_tell_92 (by decide) ?_
          refine w_retI dX10_tell_96 rfl ?_
          have z88 := z88
          have z45 := z45
          have h9 := hq _ (by rw [et, sg_tells_2 (e2.mp z45)]; exact hc2.upl) (fX.put (Or.inr (Or.inl rfl)))
          rw [et, sg_tells_2 (e2.mp z45)] at h9
          rw [q_le (by show sg_hs σ < _; omega) (by decide)] at z88
          exact dk_q (by rw [if_pos (show 1 < sg_hs σ by show 1 < sg_sy σ (σ 1) % 4; omega)]) h9
    · skip
      refine w_al0 (n := 22) dX10_tell_21 rfl ?_
      refine w_al1 (n := 23) dX10_tell_22 rfl ?_
      refine w_il2 (n := 24) dX10_tell_23 rfl ?_
      refine w_cV2 (n := 27) pl_14 cl_10 s0_X10_pays k_X10_146 (Nat.le_of_ble_eq_true rfl) dX10_tell_24 rfl (c10_pays hs2 o hm hc2 hh ?_)
      refine w_is4 (n := 29) dX10_tell_27 rfl rfl (by decide) ?_
      refine w_il4 (n := 31) dX10_tell_29 rfl ?_
      refine w_if_le (n := 34) 40 dX10_tell_31 (by decide) rfl (fun z31 => ?_) (fun z31 => ?_)
      · skip
        refine w_il4 (n := 42) dX10_tell_40 rfl ?_
        refine w_retI dX10_tell_42 rfl ?_
        first | (have ep : 0 < sg_pays σ h := Decidable.not_not.mp (fun z => z31 (p0.mpr z)); have h9 := hq M3 (by rw [et, sg_tells_f (e0.mp z18) ep]; exact g1) (fX.tr g2); rw [et, sg_tells_f (e0.mp z18) ep] at h9; exact h9) | (have ep : ¬ 0 < sg_pays σ h := p0.mp z31; have hz := e0.mp z18; have h9 := hq M2 (by rw [et, sg_tells_n (by omega) (fun z => ep z.2)]; exact hc2) fX; rw [et, sg_tells_n (by omega) (fun z => ep z.2)] at h9; exact dk_q (by rw [show sg_pays σ h = 0 by omega]) h9)
      · skip
        refine w_al0 (n := 35) dX10_tell_34 rfl ?_
        refine w_al1 (n := 36) dX10_tell_35 rfl ?_
        refine w_il2 (n := 37) dX10_tell_36 rfl ?_
        refine w_cV2 (n := 40) pl_14 cl_10 s0_X10_fall k_X10_171 (Nat.le_of_ble_eq_true rfl) dX10_tell_37 rfl (c10_fall hs2 o hm hc2 hh (fun M3 g1 g2 => ?_))
        refine w_il4 (n := 42) dX10_tell_40 rfl ?_
        refine w_retI dX10_tell_42 rfl ?_
        first | (have ep : 0 < sg_pays σ h := Decidable.not_not.mp (fun z => z31 (p0.mpr z)); have h9 := hq M3 (by rw [et, sg_tells_f (e0.mp z18) ep]; exact g1) (fX.tr g2); rw [et, sg_tells_f (e0.mp z18) ep] at h9; exact h9) | (have ep : ¬ 0 < sg_pays σ h := p0.mp z31; have hz := e0.mp z18; have h9 := hq M2 (by rw [et, sg_tells_n (by omega) (fun z => ep z.2)]; exact hc2) fX; rw [et, sg_tells_n (by omega) (fun z => ep z.2)] at h9; exact dk_q (by rw [show sg_pays σ h = 0 by omega]) h9)
