theorem r_goes {d : Nat} {M : dk_Mem} {Q : Option Value → dk_Mem → Prop} {σ : Nat → Nat} (hr : rr σ M) (o : sg_ok σ) {t : Option Nat} (ht : ∀ h, t = some h → h < 6) {w : sg_R} {f : Nat → Int32} (hb : rb w (σ 6) f) (hT : rT f M) (hq : ∀ M2, rr (sg_goes w σ t).1 M2 → dk_fr rG M M2 → M2.1 105 2 = M.1 105 2 + nI (sg_goes w σ t).2 → Q (some (.int (nI (sg_goes w σ t).2))) M2) : dk_Call (d + 6) mX12_goes [.ref 104, .int (dk_enc t)] M Q := by
  cases t with
  | none => exact r_goesN hr o hb hT hq
  | some h => exact r_goesS hr o (ht h rfl) hb hT hq
/-- the least PIECE that MAY fall, looked for from the last one down -/
def sg_fm (w : sg_R) (σ : Nat → Nat) : Nat → Option Nat
  | 0 => none
  | j + 1 => if 0 < sg_pays σ (σ 4 - 1 - j) ∧ sg_does w σ (σ 4 - 1 - j) = 0 then some (σ 4 - 1 - j) else sg_fm w σ j
def sg_lw (w : sg_R) (σ : Nat → Nat) : Option Nat := sg_fm w σ (σ 4)
theorem sg_fm_lt {w : sg_R} {σ : Nat → Nat} (o : sg_ok σ) : ∀ j, j ≤ σ 4 → ∀ h, sg_fm w σ j = some h → h < σ 4
  | 0, _, h, e => by cases e
  | j + 1, hj, h, e => by
    rw [sg_fm] at e
    split at e
    · cases e
      omega
    · exact sg_fm_lt o j (by omega) h e
theorem sg_lw_lt {w : sg_R} {σ : Nat → Nat} (o : sg_ok σ) : ∀ h, sg_lw w σ = some h → h < 6 := fun h e => by
  have h1 := sg_fm_lt o (σ 4) (Nat.le_refl _) h e
  have h2 := o.2.2.2.1
  omega
theorem q_dn {c j : Nat} {x : Int32} (hj : j < c) (hx : x = nI (c - 1 - j)) : (j + 1 < c ∧ x + (-1) = nI (c - 1 - (j + 1))) ∨ (j + 1 = c ∧ x + (-1) = -1) := by
  rcases (show j + 1 = c ∨ j + 1 < c by omega) with e | e
  · refine Or.inr ⟨e, ?_⟩
    rw [hx, show c - 1 - j = 0 by omega]
    decide
  · refine Or.inl ⟨e, ?_⟩
    rw [hx, show c - 1 - j = (c - 1 - (j + 1)) + 1 by omega]
    exact pk_m1 _

set_option maxRecDepth 20000 in
theorem r_selfL {d : Nat} {M : dk_Mem} {Q : Option Value → dk_Mem → Prop} {σ : Nat → Nat} (o : sg_ok σ) {w : sg_R} {f : Nat → Int32} (hb : rb w (σ 6) f) (hq : ∀ M2, rr (sg_goes w σ (sg_lw w σ)).1 M2 → dk_fr rG M M2 → M2.1 105 2 = M.1 105 2 + nI (sg_goes w σ (sg_lw w σ)).2 → Q (some (.int (nI (sg_goes w σ (sg_lw w σ)).2))) M2) : ∀ (n j : Nat) (M1 : dk_Mem) (x : Int32), j ≤ σ 4 → σ 4 - j < n → ((j < σ 4 ∧ x = nI (σ 4 - 1 - j)) ∨ (j = σ 4 ∧ x = -1)) → rr σ M1 → rT f M1 → dk_fr (fun q _ => q = 109) M M1 → dk_W (d + 7) mX12_goesByItself 11 [some (.ref 104), some (.int (dk_enc (sg_fm w σ j))), some (.int x)] [] M1 Q := by
  have o4 := o.2.2.2.1
  intro n
  induction n with
  | zero => intro i _ _ _ h; omega
  | succ n ih =>
    intro j M1 x hi hn hx hr hT hf
    refine w_il2 (n := 12) dX12_goesByItself_11 rfl ?_
    refine w_if_lt (n := 15) 35 dX12_goesByItself_12 (by decide) rfl (fun z12 => ?_) (fun z12 => ?_)
    · skip
      have ej : j = σ 4 := by
        rcases hx with e | e
        · exact absurd (by rw [← e.2]; exact z12) (nI_pos (by omega))
        · exact e.1
      subst ej
      refine w_al0 (n := 36) dX12_goesByItself_35 rfl ?_
      refine w_il1 (n := 37) dX12_goesByItself_36 rfl ?_
      refine w_cV1 (n := 40) pl_104 cl_12 s0_X12_goes k_X12_226 (Nat.le_of_ble_eq_true rfl) dX12_goesByItself_37 rfl (r_goes hr o (sg_lw_lt o) hb hT (fun M2 g1 g2 g3 => ?_))
      refine w_retI dX12_goesByItself_40 rfl ?_
      have f1 := frSG (f109S hf)
      exact hq M2 g1 (f1.tr g2) (by rw [g3, hf.2 105 2 (by decide)]; rfl)
    · skip
      have hj : j < σ 4 ∧ x = nI (σ 4 - 1 - j) := by
        rcases hx with e | e
        · exact e
        · exact absurd (by rw [e.2]; decide) z12
      obtain ⟨hj, rfl⟩ := hj
      refine w_al0 (n := 16) dX12_goesByItself_15 rfl ?_
      refine w_il2 (n := 17) dX12_goesByItself_16 rfl ?_
      refine w_cV1 (n := 20) pl_104 cl_12 s0_X12_mayFall k_X12_115 (Nat.le_of_ble_eq_true rfl) dX12_goesByItself_17 rfl (r_mayFall hr o (show σ 4 - 1 - j < 6 by omega) hb hT (fun M2 g t17 => ?_) (fun M2 g t17 => ?_))
      · skip
        refine w_if_eq (n := 23) 27 dX12_goesByItself_20 (by decide) rfl (fun h => absurd h (by decide)) (fun _ => ?_)
        refine w_il2 (n := 24) dX12_goesByItself_23 rfl ?_
        refine w_goto 28 dX12_goesByItself_24 (by decide) ?_
        refine w_is1 (n := 29) dX12_goesByItself_28 rfl rfl (by decide) ?_
        refine w_inc2 (n := 32) (-1) dX12_goesByItself_29 (by decide) rfl rfl (by decide) ?_
        refine w_goto 11 dX12_goesByItself_32 (by decide) ?_
        have hf2 := hf.tr g
        first | (have e : sg_fm w σ (j + 1) = some (σ 4 - 1 - j) := (by rw [sg_fm]; exact if_pos t17); have k9 := ih (j + 1) M2 _ (by omega) (by omega) (q_dn hj rfl) (hr.f109 g) (hT.fr (frSG (f109S g))) hf2; rw [e] at k9; exact k9) | (have e : sg_fm w σ (j + 1) = sg_fm w σ j := (by rw [sg_fm]; exact if_neg t17); have k9 := ih (j + 1) M2 _ (by omega) (by omega) (q_dn hj rfl) (hr.f109 g) (hT.fr (frSG (f109S g))) hf2; rw [e] at k9; exact k9)
      · skip
        refine w_if_eq (n := 23) 27 dX12_goesByItself_20 (by decide) rfl (fun _ => ?_) (fun h => absurd (by decide) h)
        refine w_il1 (n := 28) dX12_goesByItself_27 rfl ?_
        refine w_is1 (n := 29) dX12_goesByItself_28 rfl rfl (by decide) ?_
        refine w_inc2 (n := 32) (-1) dX12_goesByItself_29 (by decide) rfl rfl (by decide) ?_
        refine w_goto 11 dX12_goesByItself_32 (by decide) ?_
        have hf2 := hf.tr g
        first | (have e : sg_fm w σ (j + 1) = some (σ 4 - 1 - j) := (by rw [sg_fm]; exact if_pos t17); have k9 := ih (j + 1) M2 _ (by omega) (by omega) (q_dn hj rfl) (hr.f109 g) (hT.fr (frSG (f109S g))) hf2; rw [e] at k9; exact k9) | (have e : sg_fm w σ (j + 1) = sg_fm w σ j := (by rw [sg_fm]; exact if_neg t17); have k9 := ih (j + 1) M2 _ (by omega) (by omega) (q_dn hj rfl) (hr.f109 g) (hT.fr (frSG (f109S g))) hf2; rw [e] at k9; exact k9)

set_option maxRecDepth 20000 in
theorem r_self {d : Nat} {M : dk_Mem} {Q : Option Value → dk_Mem → Prop} {σ : Nat → Nat} (hr : rr σ M) (o : sg_ok σ) {w : sg_R} {f : Nat → Int32} (hb : rb w (σ 6) f) (hT : rT f M) (hq : ∀ M2, rr (sg_goes w σ (sg_lw w σ)).1 M2 → dk_fr rG M M2 → M2.1 105 2 = M.1 105 2 + nI (sg_goes w σ (sg_lw w σ)).2 → Q (some (.int (nI (sg_goes w σ (sg_lw w σ)).2))) M2) : dk_Call (d + 7) mX12_goesByItself [.ref 104] M Q := by
  refine dk_enter [some (.ref 104), none, none] (by decide) (fun _ => rfl) (fun _ => Nat.le_of_ble_eq_true rfl) ?_
  refine w_iconst (n := 1) (-1) dX12_goesByItself_0 (by decide) rfl ?_
  refine w_is1 (n := 2) dX12_goesByItself_1 rfl rfl (by decide) ?_
  refine w_al0 (n := 3) dX12_goesByItself_2 rfl ?_
  refine g_R (n := 6) f_X12_9_12 pl_104 rf_104_0 dX12_goesByItself_3 rfl ?_
  refine w_iconst (n := 7) (nI 4) dX12_goesByItself_6 (by decide) rfl ?_
  refine i_iald (n := 8) pl_105 (j := 4) rfl (by decide) (by decide) (hr 4 (by decide) (by decide) (by decide)) dX12_goesByItself_7 rfl ?_
  refine w_iconst (n := 9) (nI 1) dX12_goesByItself_8 (by decide) rfl ?_
  refine w_isub (n := 10) dX12_goesByItself_9 rfl ?_
  refine w_is2 (n := 11) dX12_goesByItself_10 rfl rfl (by decide) ?_
  have o4 := o.2.2.2.1
  refine r_selfL o hb hq (σ 4 + 1) 0 M _ (by omega) (by omega) ?_ hr hT dk_fr.rf
  rcases Nat.eq_zero_or_pos (σ 4) with e | e
  · exact Or.inr ⟨e.symm, by rw [e]; decide⟩
  · exact Or.inl ⟨e, by rw [q_pm1 e]; rfl⟩

set_option maxRecDepth 20000 in
theorem r_year {d : Nat} {M : dk_Mem} {Q : Option Value → dk_Mem → Prop} {σ : Nat → Nat} (hr : rr σ M) (o : sg_ok σ) {w : sg_R} {f : Nat → Int32} (hb : rb w (σ 6) f) (hT : rT f M) (h1 : σ 0 ≤ σ 1 → Q (some (.int (-4))) M) (hq : σ 1 < σ 0 → ∀ M2, rr (sg_goes w σ (sg_lw w σ)).1 M2 → dk_fr rG M M2 → M2.1 105 2 = M.1 105 2 + nI (sg_goes w σ (sg_lw w σ)).2 → Q (some (.int (nI (sg_goes w σ (sg_lw w σ)).2))) M2) : dk_Call (d + 8) mX12_year [.ref 104] M Q := by
  refine dk_enter [some (.ref 104)] (by decide) (fun _ => rfl) (fun _ => Nat.le_of_ble_eq_true rfl) ?_
  refine w_al0 (n := 1) dX12_year_0 rfl ?_
  refine w_cV0 (n := 4) pl_104 cl_12 s0_X12_isOver k_X12_121 (Nat.le_of_ble_eq_true rfl) dX12_year_1 rfl (r_isOver hr o (fun t1 => ?_) (fun t1 => ?_))
  · skip
    refine w_if_eq (n := 7) 12 dX12_year_4 (by decide) rfl (fun h => absurd h (by decide)) (fun _ => ?_)
    refine w_bipush (n := 9) (-4) dX12_year_7 (by decide) rfl ?_
    refine w_goto 16 dX12_year_9 (by decide) ?_
    refine w_retI dX12_year_16 rfl ?_
    first | exact h1 t1 | exact hq t1 M2 g1 g2 g3
  · skip
    refine w_if_eq (n := 7) 12 dX12_year_4 (by decide) rfl (fun _ => ?_) (fun h => absurd (by decide) h)
    refine w_al0 (n := 13) dX12_year_12 rfl ?_
    refine w_cV0 (n := 16) pl_104 cl_12 s0_X12_goesByItself k_X12_229 (Nat.le_of_ble_eq_true rfl) dX12_year_13 rfl (r_self hr o hb hT (fun M2 g1 g2 g3 => ?_))
    refine w_retI dX12_year_16 rfl ?_
    first | exact h1 t1 | exact hq t1 M2 g1 g2 g3

/-- n YEARS of THE REST: the street behind them, what they are WORTH -/
def sg_rest (w : sg_R) : Nat → (Nat → Nat) → (Nat → Nat) × Nat
  | 0, σ => (σ, 0)
  | n + 1, σ => if σ 0 ≤ σ 1 then (σ, 0) else ((sg_rest w n (sg_goes w σ (sg_lw w σ)).1).1, (sg_goes w σ (sg_lw w σ)).2 + (sg_rest w n (sg_goes w σ (sg_lw w σ)).1).2)
theorem sg_goes_o {w : sg_R} {σ : Nat → Nat} {t : Option Nat} {j : Nat} (h1 : j < 36) (h2 : j ≠ 1) : (sg_goes w σ t).1 j = σ j := by
  show sg_up _ 1 _ j = _
  rw [sg_up_n h2, sg_l3_o (Or.inr h1)]
  unfold sg_mid
  rw [sg_l2_o (Or.inr h1) (Or.inr (by omega)), sg_told_o h1]
theorem sg_goes_1 {w : sg_R} {σ : Nat → Nat} {t : Option Nat} : (sg_goes w σ t).1 1 = σ 1 + 1 := by
  show sg_up (sg_l3 (sg_mid w σ t).1 (σ 4)) 1 (σ 1 + 1) 1 = _
  exact sg_up_s
theorem sg_ok.up1 {s : Nat → Nat} (o : sg_ok s) {v : Nat} (hv : v ≤ 16) : sg_ok (sg_up s 1 v) := by
  obtain ⟨o1, o2, o3, o4, o5, o6, o7, o8⟩ := o
  refine ⟨?_, ?_, ?_, ?_, ?_, ?_, ?_, ?_⟩
  · rw [sg_up_n (by omega)]; exact o1
  · rw [sg_up_n (by omega)]; exact o2
  · rw [sg_up_s]; exact hv
  · rw [sg_up_n (by omega)]; exact o4
  · rw [sg_up_n (by omega)]; exact o5
  · intro y hy; rw [sg_up_n (by omega)]; exact o6 y hy
  · intro y hy; rw [sg_up_n (by omega)]; exact o7 y hy
  · intro h hh
    rw [sg_up_n (by omega), sg_up_n (by omega), sg_up_n (by omega), sg_up_n (by omega), sg_up_n (by omega)]
    exact o8 h hh
theorem sg_ok.goes {w : sg_R} {σ : Nat → Nat} (o : sg_ok σ) {t : Option Nat} (ht : ∀ h, t = some h → h < 6) (hy : σ 1 < 16) : sg_ok (sg_goes w σ t).1 := by
  refine sg_ok.up1 ?_ (by omega)
  unfold sg_mid
  exact ((o.told ht).l2 _).l3 _
theorem sg_rest_le {w : sg_R} : ∀ n (σ : Nat → Nat), sg_ok σ → (sg_rest w n σ).2 ≤ 19 * n
  | 0, σ, _ => Nat.le_refl 0
  | n + 1, σ, o => by
    rw [sg_rest]
    split
    · exact Nat.zero_le _
    · have h0 := o.2.1
      have h1 := sg_goes_le (w := w) o (sg_lw_lt (w := w) o)
      have h2 := sg_rest_le (w := w) n _ (o.goes (w := w) (sg_lw_lt (w := w) o) (by omega))
      show _ + _ ≤ _
      omega
/-- what stays of the kept row: the copy in 'was' -/
def rW (g : Nat → Int32) (M : dk_Mem) : Prop := ∀ k, k < 621 → M.1 107 k = g k
theorem rW.fr {g : Nat → Int32} {M M' : dk_Mem} {S : Nat → Nat → Prop} (h : rW g M) (hf : dk_fr S M M') (hS : ∀ k, ¬ S 107 k) : rW g M' := fun k hk => (hf.2 107 k (hS k)).trans (h k hk)
theorem nG7 (k : Nat) : ¬ rG 107 k := by
  rintro (z | z)
  · exact absurd z.1 (by decide)
  · exact absurd z (by decide)
/-- behind 'putsBack': the row as it was kept, what the years had touched is back -/
theorem r_back {M M1 : dk_Mem} {g : Nat → Int32} (hf : dk_fr rG M M1) (hw : rW g M1) (hg : ∀ k, k < 621 → g k = M.1 105 k) : dk_fr rN M (dk_row M1 105 (dk_cp (M1.1 107) (M1.1 105) 621)) := by
  refine ⟨hf.1, fun q k hn => ?_⟩
  by_cases hq : q = 105
  · subst hq
    rw [dk_row_at]
    unfold dk_cp
    split
    · rw [hw k (by assumption), hg k (by assumption)]
    · exact hf.2 105 k (by rintro (z | z) <;> omega)
  · rw [dk_row_k hq]
    refine hf.2 q k (fun z => ?_)
    rcases z with z | z
    · exact hq z.1
    · exact hn (Or.inr (Or.inl z))
theorem rN_fr {M M1 M2 : dk_Mem} (h : dk_fr rN M M1) (h2 : dk_fr rN M1 M2) : dk_fr rN M M2 := h.tr h2
theorem rN_thinks {M : dk_Mem} : dk_fr rN M (dk_row M 107 (dk_cp (M.1 105) (M.1 107) 621)) := ⟨rfl, fun q k h => dk_row_k (fun z => h (Or.inl z)) k⟩
theorem rr.N {σ : Nat → Nat} {M M' : dk_Mem} (h : rr σ M) (hf : dk_fr rN M M') : rr σ M' := h.fr hf (fun k _ z => by rcases z with z | z | z | z | z <;> omega)
theorem rT.N {f : Nat → Int32} {M M' : dk_Mem} (h : rT f M) (hf : dk_fr rN M M') : rT f M' := fun k h1 h2 => (hf.2 105 k (by rintro (z | z | z | z | z) <;> omega)).trans (h k h1 h2)

set_option maxRecDepth 20000 in
theorem r_restL {d : Nat} {M : dk_Mem} {Q : Option Value → dk_Mem → Prop} {N : Nat} (hN : N ≤ 16) {w : sg_R} {nr : Nat} {f g : Nat → Int32} (hb : rb w nr f) {T0 : Nat} (hT0 : T0 < 1000) (hq : ∀ M1, dk_fr rG M M1 → rW g M1 → Q (some (.int (nI T0))) (dk_row M1 105 (dk_cp (M1.1 107) (M1.1 105) 621))) : ∀ (n k a : Nat) (σ : Nat → Nat) (M1 : dk_Mem), k ≤ N → N - k < n → sg_ok σ → σ 6 = nr → rr σ M1 → rT f M1 → dk_fr rG M M1 → rW g M1 → a + (sg_rest w (N - k) σ).2 = T0 → dk_W (d + 8) mX12_restOf 4 [some (.ref 104), some (.int (nI N)), some (.int (nI a)), some (.int (nI k))] [] M1 Q := by
  intro n
  induction n with
  | zero => intro k _ _ _ _ h; omega
  | succ n ih =>
    intro k a σ M1 hi hn o hs6 hr hT hf hW he
    subst hs6
    refine w_il3 (n := 5) dX12_restOf_4 rfl ?_
    refine w_il1 (n := 6) dX12_restOf_5 rfl ?_
    refine w_ic_ge (n := 9) 29 dX12_restOf_6 (by decide) rfl (fun z6 => ?_) (fun z6 => ?_)
    · skip
      refine w_al0 (n := 30) dX12_restOf_29 rfl ?_
      refine w_cV0 (n := 33) pl_104 cl_12 s0_X12_putsBack k_X12_202 (Nat.le_of_ble_eq_true rfl) dX12_restOf_30 rfl (r_putsBack ?_)
      refine w_il2 (n := 34) dX12_restOf_33 rfl ?_
      refine w_retI dX12_restOf_34 rfl ?_
      have e0 : (sg_rest w (N - k) σ).2 = 0 := by
        first | (rw [show N - k = 0 by rw [q_le (by omega) (by omega)] at z6; omega]; rfl) | (rcases Nat.eq_zero_or_pos (N - k) with e | e; (rw [e]; rfl); (rw [show N - k = (N - k - 1) + 1 by omega, sg_rest, if_pos t10]))
      rw [show a = T0 by omega]
      exact hq M1 hf hW
    · skip
      refine w_al0 (n := 10) dX12_restOf_9 rfl ?_
      refine w_cV0 (n := 13) pl_104 cl_12 s0_X12_isOver k_X12_121 (Nat.le_of_ble_eq_true rfl) dX12_restOf_10 rfl (r_isOver hr o (fun t10 => ?_) (fun t10 => ?_))
      · skip
        refine w_if_ne (n := 16) 29 dX12_restOf_13 (by decide) rfl (fun _ => ?_) (fun h => absurd h (by decide))
        refine w_al0 (n := 30) dX12_restOf_29 rfl ?_
        refine w_cV0 (n := 33) pl_104 cl_12 s0_X12_putsBack k_X12_202 (Nat.le_of_ble_eq_true rfl) dX12_restOf_30 rfl (r_putsBack ?_)
        refine w_il2 (n := 34) dX12_restOf_33 rfl ?_
        refine w_retI dX12_restOf_34 rfl ?_
        have e0 : (sg_rest w (N - k) σ).2 = 0 := by
          first | (rw [show N - k = 0 by rw [q_le (by omega) (by omega)] at z6; omega]; rfl) | (rcases Nat.eq_zero_or_pos (N - k) with e | e; (rw [e]; rfl); (rw [show N - k = (N - k - 1) + 1 by omega, sg_rest, if_pos t10]))
        rw [show a = T0 by omega]
        exact hq M1 hf hW
      · skip
        refine w_if_ne (n := 16) 29 dX12_restOf_13 (by decide) rfl (fun h => absurd h (by decide)) (fun _ => ?_)
        refine w_il2 (n := 17) dX12_restOf_16 rfl ?_
        refine w_al0 (n := 18) dX12_restOf_17 rfl ?_
        refine w_cV0 (n := 21) pl_104 cl_12 s0_X12_goesByItself k_X12_229 (Nat.le_of_ble_eq_true rfl) dX12_restOf_18 rfl (r_self hr o hb hT (fun M2 g1 g2 g3 => ?_))
        refine w_iadd (n := 22) dX12_restOf_21 rfl ?_
        refine w_is2 (n := 23) dX12_restOf_22 rfl rfl (by decide) ?_
        refine w_inc3 (n := 26) (nI 1) dX12_restOf_23 (by decide) rfl rfl (by decide) ?_
        refine w_goto 4 dX12_restOf_26 (by decide) ?_
        have hk : k < N := by rw [q_le (by omega) (by omega)] at z6; omega
        have e : sg_rest w (N - k) σ = ((sg_rest w (N - (k + 1)) (sg_goes w σ (sg_lw w σ)).1).1, (sg_goes w σ (sg_lw w σ)).2 + (sg_rest w (N - (k + 1)) (sg_goes w σ (sg_lw w σ)).1).2) := by
          rw [show N - k = (N - (k + 1)) + 1 by omega, sg_rest, if_neg (by omega)]
        rw [e] at he
        simp only [nI_add]
        have o0 := o.2.1
        exact ih (k + 1) _ _ M2 (by omega) (by omega) (o.goes (sg_lw_lt o) (by omega)) (sg_goes_o (by omega) (by omega)) g1 (hT.fr g2) (hf.tr g2) (hW.fr g2 nG7) (by simp only at he; omega)

set_option maxRecDepth 20000 in
theorem r_restOf {d : Nat} {M : dk_Mem} {Q : Option Value → dk_Mem → Prop} {σ : Nat → Nat} (hr : rr σ M) (o : sg_ok σ) {w : sg_R} {f : Nat → Int32} (hb : rb w (σ 6) f) (hT : rT f M) {N : Nat} (hN : N ≤ 16) {g : Nat → Int32} (hW : rW g M) (hq : ∀ M1, dk_fr rG M M1 → rW g M1 → Q (some (.int (nI (sg_rest w N σ).2))) (dk_row M1 105 (dk_cp (M1.1 107) (M1.1 105) 621))) : dk_Call (d + 8) mX12_restOf [.ref 104, .int (nI N)] M Q := by
  refine dk_enter [some (.ref 104), some (.int (nI N)), none, none] (by decide) (fun _ => rfl) (fun _ => Nat.le_of_ble_eq_true rfl) ?_
  refine w_iconst (n := 1) (nI 0) dX12_restOf_0 (by decide) rfl ?_
  refine w_is2 (n := 2) dX12_restOf_1 rfl rfl (by decide) ?_
  refine w_iconst (n := 3) (nI 0) dX12_restOf_2 (by decide) rfl ?_
  refine w_is3 (n := 4) dX12_restOf_3 rfl rfl (by decide) ?_
  have hle := sg_rest_le (w := w) N σ o
  exact r_restL hN hb (by omega) hq (N + 1) 0 0 σ M (by omega) (by omega) o rfl hr hT dk_fr.rf hW (by simp)

set_option maxRecDepth 20000 in
theorem r_on {d : Nat} {M : dk_Mem} {Q : Option Value → dk_Mem → Prop} {σ : Nat → Nat} (hr : rr σ M) (o : sg_ok σ) {w : sg_R} {f : Nat → Int32} (hb : rb w (σ 6) f) (hT : rT f M) {n : Int32} (h0 : ¬ (nI 0 ≤ n ∧ n ≤ nI 16) → Q (some (.int (-1))) M) (hq : ∀ N, N ≤ 16 → n = nI N → ∀ M2, dk_fr rN M M2 → Q (some (.int (nI (sg_rest w N σ).2))) M2) : dk_Call (d + 9) mX12_on [.ref 104, .int n] M Q := by
  refine dk_enter [some (.ref 104), some (.int n)] (by decide) (fun _ => rfl) (fun _ => Nat.le_of_ble_eq_true rfl) ?_
  refine w_il1 (n := 1) dX12_on_0 rfl ?_
  refine w_iconst (n := 2) (nI 0) dX12_on_1 (by decide) rfl ?_
  refine w_bipush (n := 4) (nI 16) dX12_on_2 (by decide) rfl ?_
  refine w_cS3 (n := 7) s0_X12_in k_X12_61 (Nat.le_of_ble_eq_true rfl) dX12_on_4 rfl (r_in (fun t4 => ?_) (fun t4 => ?_))
  · skip
    refine w_if_ne (n := 10) 12 dX12_on_7 (by decide) rfl (fun _ => ?_) (fun h => absurd h (by decide))
    obtain ⟨N, hN, rfl⟩ := nI_of2 (x := n) (n := 16) (M := nI 16) (by decide) (Int32.not_lt.mpr t4.1) t4.2
    refine w_al0 (n := 13) dX12_on_12 rfl ?_
    refine w_cV0 (n := 16) pl_104 cl_12 s0_X12_thinks k_X12_196 (Nat.le_of_ble_eq_true rfl) dX12_on_13 rfl (r_thinks ?_)
    have hf1 := rN_thinks (M := M)
    have hr1 := hr.N hf1
    have hT1 := hT.N hf1
    refine w_al0 (n := 17) dX12_on_16 rfl ?_
    refine w_il1 (n := 18) dX12_on_17 rfl ?_
    refine w_cV1 (n := 21) pl_104 cl_12 s0_X12_restOf k_X12_232 (Nat.le_of_ble_eq_true rfl) dX12_on_18 rfl (r_restOf hr1 o hb hT1 hN (g := M.1 105) (fun k hk => by rw [dk_row_at]; exact if_pos hk) (fun M1 g1 g2 => ?_))
    refine w_retI dX12_on_21 rfl ?_
    first | exact h0 t4 | exact hq N hN rfl _ (hf1.tr (r_back g1 g2 (fun k hk => ((hf1.2 105 k (by rintro (z | z | z | z | z) <;> omega))).symm)))
  · skip
    refine w_if_ne (n := 10) 12 dX12_on_7 (by decide) rfl (fun h => absurd h (by decide)) (fun _ => ?_)
    refine w_iconst (n := 11) (-1) dX12_on_10 (by decide) rfl ?_
    refine w_retI dX12_on_11 rfl ?_
    first | exact h0 t4 | exact hq N hN rfl _ (hf1.tr (r_back g1 g2 (fun k hk => ((hf1.2 105 k (by rintro (z | z | z | z | z) <;> omega))).symm)))
