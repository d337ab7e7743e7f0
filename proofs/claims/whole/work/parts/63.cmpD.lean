theorem sg_up_up {σ : Nat → Nat} {j a b : Nat} : sg_up (sg_up σ j a) j b = sg_up σ j b := by
  funext i
  by_cases e : i = j
  · subst e; rw [sg_up_s, sg_up_s]
  · rw [sg_up_n e, sg_up_n e, sg_up_n e]
/-- change of GAP or ROOM as bestFor uses it -/
def cg_ch (x jj m h : Nat) : Prop := (x = 2 ∧ jj = 37 + 5 * h ∧ m = 9) ∨ (x = 3 ∧ jj = 38 + 5 * h ∧ m = 5)
theorem c_ch {d : Nat} {M : dk_Mem} {Q : Option Value → dk_Mem → Prop} {K : sg_K} {x jj m h v0 v : Nat} (hx : cg_ch x jj m h) (hh : h < K.1 4) (hv : v ≤ m) (hK : cK (sg_up K.1 jj v0, K.2) M) (hq : ∀ M2, cK (sg_up K.1 jj v, K.2) M2 → dk_fr cA M M2 → Q (some (.int (nI v0))) M2) : dk_Call (d + 5) mX11_change [.ref 0, .int (nI h), .int (nI x), .int (nI v)] M Q := by
  have o4 := hK.1.1.2.2.2.1
  have e4 : sg_up K.1 jj v0 4 = K.1 4 := sg_up_n (by unfold cg_ch at hx; omega)
  have e : kf_change (sg_up K.1 jj v0, K.2) (nI h) (nI x) (nI v) = (nI v0, (sg_up K.1 jj v, K.2)) := by
    unfold kf_change
    rw [sg_pc_some o4 (by show h < sg_up K.1 jj v0 4; rw [e4]; exact hh)]
    rcases hx with ⟨e1, e2, e3⟩ | ⟨e1, e2, e3⟩
    all_goals
      subst e1
      subst e3
      refine (if_pos ?_).trans ?_
      · first | exact Or.inr (Or.inl ⟨rfl, nI_le (by omega) (by omega), nI_le hv (by decide)⟩) | exact Or.inr (Or.inr (Or.inl ⟨rfl, nI_le (by omega) (by omega), nI_le hv (by decide)⟩))
      · rw [tN_nI (by decide), tN_nI (by omega), show 35 + 5 * h + _ = jj by omega]
        show (nI (sg_up K.1 jj v0 jj), (sg_up (sg_up K.1 jj v0) jj v, K.2)) = _
        rw [sg_up_s, sg_up_up]
  refine C_change hK (fun M2 g1 g2 => ?_)
  rw [e] at g1 ⊢
  exact hq M2 g1 g2
theorem cK.m9 : dk_mo 79 := Or.inr (Or.inr (Or.inr (Or.inr (Or.inr (Or.inr (Or.inr rfl))))))
theorem c_rwK {d : Nat} {M : dk_Mem} {Q : Option Value → dk_Mem → Prop} {K : sg_K} (hK : cK K M) (hq : ∀ M2, cK K M2 → dk_fr cN M M2 → Q (some (.int (nI (sg_rest K.2.1 16 K.1).2))) M2) : dk_Call (d + 8) mX11_restWorth [.ref 0, .int (nI 16)] M Q := by
  have hK0 := hK
  obtain ⟨⟨o, p1, p2, p3⟩, hs, hc, hb, -⟩ := hK0
  exact c_rw (Or.inl rfl) cK.m9 hs o hc hb (Nat.le_refl 16) (fun M1 g => hq M1 (hK.N g) g)
set_option maxRecDepth 20000 in
theorem c_bfL {d : Nat} {M : dk_Mem} {Q : Option Value → dk_Mem → Prop} {K : sg_K} {x jj m h : Nat} (hx : cg_ch x jj m h) (hh : h < K.1 4) (hq : ∀ M2, cK K M2 → dk_fr cA M M2 → Q (some (.int (nI (sg_bf (fun v => (sg_rest K.2.1 16 (sg_up K.1 jj v)).2) m).1))) M2) (hw : K.1 jj ≤ m) (hGb : ∀ i, i ≤ m → (fun v => (sg_rest K.2.1 16 (sg_up K.1 jj v)).2) i < 2 ^ 31) : ∀ (n v : Nat) (M1 : dk_Mem) (x8 : Option Value), v ≤ m → m - v < n → cK (sg_up K.1 jj v, K.2) M1 → dk_fr cA M M1 → dk_W (d + 9) mX11_bestFor 23 [some (.ref 0), some (.int (nI h)), some (.int (nI x)), some (.int (nI m)), some (.int (nI (K.1 jj))), some (.int (nI (sg_bf (fun v => (sg_rest K.2.1 16 (sg_up K.1 jj v)).2) v).1)), some (.int (nI (sg_bf (fun v => (sg_rest K.2.1 16 (sg_up K.1 jj v)).2) v).2)), some (.int (nI (v + 1))), x8] [] M1 Q := by
  generalize hF : (fun v => (sg_rest K.2.1 16 (sg_up K.1 jj v)).2) = G at *
  have Fv : ∀ v, (sg_rest K.2.1 16 (sg_up K.1 jj v)).2 = G v := fun v => by rw [← hF]
  have mb : m ≤ 9 := by unfold cg_ch at hx; omega
  have hG : ∀ i, i ≤ m → G i < 2 ^ 31 := hGb
  have hB : ∀ i, i ≤ m → (sg_bf G i).2 < 2 ^ 31 := fun i hi => Nat.lt_of_le_of_lt (sg_bf_le (c := 2 ^ 31 - 1) (n := i) (fun i2 h2 => by have := hG i2 (by omega); omega) i (Nat.le_refl i)) (by decide)
  intro n
  induction n with
  | zero => intro v M1 x8 _ h; omega
  | succ n ih =>
    intro v M1 x8 hi hn hK hf
    refine w_il7 (n := 25) dX11_bestFor_23 rfl ?_
    refine w_il3 (n := 26) dX11_bestFor_25 rfl ?_
    refine w_ic_gt (n := 29) 67 dX11_bestFor_26 (by decide) rfl (fun z26 => ?_) (fun z26 => ?_)
    · skip
      refine w_al0 (n := 68) dX11_bestFor_67 rfl ?_
      refine w_il1 (n := 69) dX11_bestFor_68 rfl ?_
      refine w_il2 (n := 70) dX11_bestFor_69 rfl ?_
      refine w_il4 (n := 72) dX11_bestFor_70 rfl ?_
      refine w_cV3 (n := 75) pl_0 cl_11 s0_X11_change k_X11_372 (Nat.le_of_ble_eq_true rfl) dX11_bestFor_72 rfl (c_ch (v0 := v) (v := K.1 jj) hx hh hw hK (fun M2 g1 g2 => ?_))
      refine w_pop (n := 76) rfl dX11_bestFor_75 rfl ?_
      refine w_il5 (n := 78) dX11_bestFor_76 rfl ?_
      refine w_retI dX11_bestFor_78 rfl ?_
      have ev : v = m := by rw [nI_ltI (by omega) (by omega)] at z26; omega
      rw [ev]
      rw [sg_up_id] at g1
      exact hq M2 g1 (hf.tr g2)
    · skip
      have hv : v < m := by rw [nI_ltI (by omega) (by omega)] at z26; omega
      refine w_al0 (n := 30) dX11_bestFor_29 rfl ?_
      refine w_il1 (n := 31) dX11_bestFor_30 rfl ?_
      refine w_il2 (n := 32) dX11_bestFor_31 rfl ?_
      refine w_il7 (n := 34) dX11_bestFor_32 rfl ?_
      refine w_cV3 (n := 37) pl_0 cl_11 s0_X11_change k_X11_372 (Nat.le_of_ble_eq_true rfl) dX11_bestFor_34 rfl (c_ch (v0 := v) (v := v + 1) hx hh (by omega) hK (fun M2 g1 g2 => ?_))
      refine w_pop (n := 38) rfl dX11_bestFor_37 rfl ?_
      refine w_al0 (n := 39) dX11_bestFor_38 rfl ?_
      refine w_bipush (n := 41) (nI 16) dX11_bestFor_39 (by decide) rfl ?_
      refine w_cV1 (n := 44) pl_0 cl_11 s0_X11_restWorth k_X11_222 (Nat.le_of_ble_eq_true rfl) dX11_bestFor_41 rfl (c_rwK g1 (fun M3 k1 k2 => ?_))
      have e9 : (sg_rest (sg_up K.1 jj (v + 1), K.2).2.1 16 (sg_up K.1 jj (v + 1), K.2).1).2 = G (v + 1) := Fv (v + 1)
      rw [e9]
      skip
      refine w_is8 (n := 46) dX11_bestFor_44 rfl rfl (by decide) ?_
      refine w_il8 (n := 48) dX11_bestFor_46 rfl ?_
      refine w_il6 (n := 50) dX11_bestFor_48 rfl ?_
      refine w_ic_le (n := 53) 61 dX11_bestFor_50 (by decide) rfl (fun z50 => ?_) (fun z50 => ?_)
      · skip
        refine w_inc7 (n := 64) (nI 1) dX11_bestFor_61 (by decide) rfl rfl (by decide) ?_
        refine w_goto 23 dX11_bestFor_64 (by decide) ?_
        have hf3 := (hf.tr g2).tr (cN_A k2)
        rw [nI_add]
        first | (have ek : sg_bf G (v + 1) = (v + 1, G (v + 1)) := (by rw [sg_bf]; exact if_pos (by rw [q_le (hG _ (by omega)) (hB _ (by omega))] at z50; omega)); have k9 := ih (v + 1) M3 (some (.int (nI (G (v + 1))))) (by omega) (by omega) k1 hf3; rw [ek] at k9; exact k9) | (have ek : sg_bf G (v + 1) = sg_bf G v := (by rw [sg_bf]; exact if_neg (by rw [q_le (hG _ (by omega)) (hB _ (by omega))] at z50; omega)); have k9 := ih (v + 1) M3 (some (.int (nI (G (v + 1))))) (by omega) (by omega) k1 hf3; rw [ek] at k9; exact k9)
      · skip
        refine w_il8 (n := 55) dX11_bestFor_53 rfl ?_
        refine w_is6 (n := 57) dX11_bestFor_55 rfl rfl (by decide) ?_
        refine w_il7 (n := 59) dX11_bestFor_57 rfl ?_
        refine w_is5 (n := 61) dX11_bestFor_59 rfl rfl (by decide) ?_
        refine w_inc7 (n := 64) (nI 1) dX11_bestFor_61 (by decide) rfl rfl (by decide) ?_
        refine w_goto 23 dX11_bestFor_64 (by decide) ?_
        have hf3 := (hf.tr g2).tr (cN_A k2)
        rw [nI_add]
        first | (have ek : sg_bf G (v + 1) = (v + 1, G (v + 1)) := (by rw [sg_bf]; exact if_pos (by rw [q_le (hG _ (by omega)) (hB _ (by omega))] at z50; omega)); have k9 := ih (v + 1) M3 (some (.int (nI (G (v + 1))))) (by omega) (by omega) k1 hf3; rw [ek] at k9; exact k9) | (have ek : sg_bf G (v + 1) = sg_bf G v := (by rw [sg_bf]; exact if_neg (by rw [q_le (hG _ (by omega)) (hB _ (by omega))] at z50; omega)); have k9 := ih (v + 1) M3 (some (.int (nI (G (v + 1))))) (by omega) (by omega) k1 hf3; rw [ek] at k9; exact k9)

/-- THE REST's worth is small whatever the street -/
theorem sg_rest_lt {w : sg_R} {σ : Nat → Nat} (h : sg_ok σ) : (sg_rest w 16 σ).2 < 2 ^ 31 := by have := rest_le (w := w) h; omega
set_option maxRecDepth 20000 in
theorem c_bf {d : Nat} {M : dk_Mem} {Q : Option Value → dk_Mem → Prop} {K : sg_K} (hK : cK K M) {x jj m h : Nat} (hx : cg_ch x jj m h) (hh : h < K.1 4) (hw : K.1 jj ≤ m) (hGb : ∀ i, i ≤ m → (fun v => (sg_rest K.2.1 16 (sg_up K.1 jj v)).2) i < 2 ^ 31) (hq : ∀ M2, cK K M2 → dk_fr cA M M2 → Q (some (.int (nI (sg_bf (fun v => (sg_rest K.2.1 16 (sg_up K.1 jj v)).2) m).1))) M2) : dk_Call (d + 9) mX11_bestFor [.ref 0, .int (nI h), .int (nI x), .int (nI m)] M Q := by
  refine dk_enter [some (.ref 0), some (.int (nI h)), some (.int (nI x)), some (.int (nI m)), none, none, none, none, none] (by decide) (fun _ => rfl) (fun _ => Nat.le_of_ble_eq_true rfl) ?_
  refine w_al0 (n := 1) dX11_bestFor_0 rfl ?_
  refine w_il1 (n := 2) dX11_bestFor_1 rfl ?_
  refine w_il2 (n := 3) dX11_bestFor_2 rfl ?_
  refine w_iconst (n := 4) (nI 0) dX11_bestFor_3 (by decide) rfl ?_
  refine w_cV3 (n := 7) pl_0 cl_11 s0_X11_change k_X11_372 (Nat.le_of_ble_eq_true rfl) dX11_bestFor_4 rfl (c_ch (v0 := K.1 jj) (v := 0) hx hh (by omega) (by rw [sg_up_id]; exact hK) (fun M2 g1 g2 => ?_))
  refine w_is4 (n := 9) dX11_bestFor_7 rfl rfl (by decide) ?_
  refine w_iconst (n := 10) (nI 0) dX11_bestFor_9 (by decide) rfl ?_
  refine w_is5 (n := 12) dX11_bestFor_10 rfl rfl (by decide) ?_
  refine w_al0 (n := 13) dX11_bestFor_12 rfl ?_
  refine w_bipush (n := 15) (nI 16) dX11_bestFor_13 (by decide) rfl ?_
  refine w_cV1 (n := 18) pl_0 cl_11 s0_X11_restWorth k_X11_222 (Nat.le_of_ble_eq_true rfl) dX11_bestFor_15 rfl (c_rwK g1 (fun M3 k1 k2 => ?_))
  refine w_is6 (n := 20) dX11_bestFor_18 rfl rfl (by decide) ?_
  refine w_iconst (n := 21) (nI 1) dX11_bestFor_20 (by decide) rfl ?_
  refine w_is7 (n := 23) dX11_bestFor_21 rfl rfl (by decide) ?_
  exact c_bfL hx hh (fun M4 j1 j2 => hq M4 j1 ((g2.tr (cN_A k2)).tr j2)) hw hGb (m + 1) 0 M3 _ (by omega) (by omega) k1 dk_fr.rf

set_option maxRecDepth 20000 in
theorem C_gapFor {d : Nat} {M : dk_Mem} {Q : Option Value → dk_Mem → Prop} {K : sg_K} (hK : cK K M) {k : Int32} (hq : ∀ M2, cK (kf_best 37 9 K k).2 M2 → dk_fr cA M M2 → Q (some (.int (kf_best 37 9 K k).1)) M2) : dk_Call (d + 10) mX11_gapFor [.ref 0, .int k] M Q := by
  have hK0 := hK
  obtain ⟨⟨o, p1, p2, p3⟩, hs, hc, hb, hcr, hsc, hz, β, hβ, hβ1, hβ2⟩ := hK0
  have o4 := o.2.2.2.1
  have o16 := o.2.1
  have hm : dk_mo 22 := Or.inl rfl
  have hm9 : dk_mo 79 := Or.inr (Or.inr (Or.inr (Or.inr (Or.inr (Or.inr (Or.inr rfl))))))
  refine dk_enter [some (.ref 0), some (.int k)] (by decide) (fun _ => rfl) (fun _ => Nat.le_of_ble_eq_true rfl) ?_
  refine w_al0 (n := 1) dX11_gapFor_0 rfl ?_
  refine g_R (n := 4) f_X11_36_11 pl_0 rf_0_1 dX11_gapFor_1 rfl ?_
  refine w_il1 (n := 5) dX11_gapFor_4 rfl ?_
  refine w_cV1 (n := 8) pl_14 cl_10 s0_X10_isPiece k_X11_123 (Nat.le_of_ble_eq_true rfl) dX11_gapFor_5 rfl (c10_isPiece hs o (fun h hh e => ?_) (fun nh => ?_))
  · skip
    subst e
    have h6 : h < 6 := by omega
    refine w_if_ne (n := 11) 13 dX11_gapFor_8 (by decide) rfl (fun _ => ?_) (fun h => absurd h (by decide))
    refine w_al0 (n := 14) dX11_gapFor_13 rfl ?_
    refine w_il1 (n := 15) dX11_gapFor_14 rfl ?_
    refine w_iconst (n := 16) (nI 2) dX11_gapFor_15 (by decide) rfl ?_
    refine w_bipush (n := 18) (nI 9) dX11_gapFor_16 (by decide) rfl ?_
    refine w_cV3 (n := 21) pl_0 cl_11 s0_X11_bestFor k_X11_229 (Nat.le_of_ble_eq_true rfl) dX11_gapFor_18 rfl (c_bf hK (x := 2) (jj := 37 + 5 * h) (m := 9) (by unfold cg_ch; omega) hh (o.gap h6) (fun i hi => sg_rest_lt (hK.1.u_gap h6 (v := i) hi).1) (fun M2 g1 g2 => ?_))
    refine w_retI dX11_gapFor_21 rfl ?_
    exact dk_fin hq (by unfold kf_best; rw [sg_pc_some o4 hh]) g1 g2
  · skip
    refine w_if_ne (n := 11) 13 dX11_gapFor_8 (by decide) rfl (fun h => absurd h (by decide)) (fun _ => ?_)
    refine w_iconst (n := 12) (-1) dX11_gapFor_11 (by decide) rfl ?_
    refine w_retI dX11_gapFor_12 rfl ?_
    exact dk_fin hq (by unfold kf_best; rw [sg_pc_none o4 nh]) hK dk_fr.rf

set_option maxRecDepth 20000 in
theorem C_roomFor {d : Nat} {M : dk_Mem} {Q : Option Value → dk_Mem → Prop} {K : sg_K} (hK : cK K M) {k : Int32} (hq : ∀ M2, cK (kf_best 38 5 K k).2 M2 → dk_fr cA M M2 → Q (some (.int (kf_best 38 5 K k).1)) M2) : dk_Call (d + 10) mX11_roomFor [.ref 0, .int k] M Q := by
  have hK0 := hK
  obtain ⟨⟨o, p1, p2, p3⟩, hs, hc, hb, hcr, hsc, hz, β, hβ, hβ1, hβ2⟩ := hK0
  have o4 := o.2.2.2.1
  have o16 := o.2.1
  have hm : dk_mo 22 := Or.inl rfl
  have hm9 : dk_mo 79 := Or.inr (Or.inr (Or.inr (Or.inr (Or.inr (Or.inr (Or.inr rfl))))))
  refine dk_enter [some (.ref 0), some (.int k)] (by decide) (fun _ => rfl) (fun _ => Nat.le_of_ble_eq_true rfl) ?_
  refine w_al0 (n := 1) dX11_roomFor_0 rfl ?_
  refine g_R (n := 4) f_X11_36_11 pl_0 rf_0_1 dX11_roomFor_1 rfl ?_
  refine w_il1 (n := 5) dX11_roomFor_4 rfl ?_
  refine w_cV1 (n := 8) pl_14 cl_10 s0_X10_isPiece k_X11_123 (Nat.le_of_ble_eq_true rfl) dX11_roomFor_5 rfl (c10_isPiece hs o (fun h hh e => ?_) (fun nh => ?_))
  · skip
    subst e
    have h6 : h < 6 := by omega
    refine w_if_ne (n := 11) 13 dX11_roomFor_8 (by decide) rfl (fun _ => ?_) (fun h => absurd h (by decide))
    refine w_al0 (n := 14) dX11_roomFor_13 rfl ?_
    refine w_il1 (n := 15) dX11_roomFor_14 rfl ?_
    refine w_iconst (n := 16) (nI 3) dX11_roomFor_15 (by decide) rfl ?_
    refine w_iconst (n := 17) (nI 5) dX11_roomFor_16 (by decide) rfl ?_
    refine w_cV3 (n := 20) pl_0 cl_11 s0_X11_bestFor k_X11_229 (Nat.le_of_ble_eq_true rfl) dX11_roomFor_17 rfl (c_bf hK (x := 3) (jj := 38 + 5 * h) (m := 5) (by unfold cg_ch; omega) hh (o.room h6) (fun i hi => sg_rest_lt (hK.1.u_room h6 (v := i) hi).1) (fun M2 g1 g2 => ?_))
    refine w_retI dX11_roomFor_20 rfl ?_
    exact dk_fin hq (by unfold kf_best; rw [sg_pc_some o4 hh]) g1 g2
  · skip
    refine w_if_ne (n := 11) 13 dX11_roomFor_8 (by decide) rfl (fun h => absurd h (by decide)) (fun _ => ?_)
    refine w_iconst (n := 12) (-1) dX11_roomFor_11 (by decide) rfl ?_
    refine w_retI dX11_roomFor_12 rfl ?_
    exact dk_fin hq (by unfold kf_best; rw [sg_pc_none o4 nh]) hK dk_fr.rf
