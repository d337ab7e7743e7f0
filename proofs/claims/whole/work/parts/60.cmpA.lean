def cW (q k : Nat) : Prop := 14 ≤ q ∧ q ≤ 23 ∧ ¬ (q = 14 ∧ 11 ≤ k ∧ k ≤ 13)
theorem cW_A {M M' : dk_Mem} (h : dk_fr cW M M') : dk_fr cA M M' := h.up (fun q k z => by unfold cW at z; unfold cA; omega)
theorem cK.mk {K : sg_K} {M M' : dk_Mem} {σ' : Nat → Nat} (h : cK K M) (hi : sg_in σ') (h1 : cs σ' M') (h2 : cm 22 σ' M') (hf : dk_fr cW M M') (hj : ∀ j, j = 5 ∨ j = 6 ∨ 65 ≤ j → σ' j = K.1 j) : cK (σ', K.2) M' := by
  obtain ⟨a1, a2, a3, a4, a5, a6, a7, β, a8, a9, a10⟩ := h
  refine ⟨hi, h1, h2, a4.fr hf (fun q k z => by unfold cW at z; unfold cA; omega), ?_, ?_, ?_, β, a8, ?_, ?_⟩
  · show cr σ' M'
    have h5 := a5.fr hf (fun q k x y _ z => by unfold cW at z; omega)
    refine ⟨by rw [hj 5 (by omega)]; exact h5.1, fun r hr => ?_⟩
    rw [hj 5 (by omega)] at hr
    rw [hj _ (by omega), hj _ (by omega), hj _ (by omega), hj _ (by omega)]
    exact h5.2 r hr
  · rw [hf.2 14 11 (fun z => by unfold cW at z; omega)]; exact a6
  · rw [hf.2 14 12 (fun z => by unfold cW at z; omega)]; exact a7
  · rw [hf.2 14 13 (fun z => by unfold cW at z; omega)]; exact a9
  · rw [hf.2 β 0 (fun z => by unfold cW dk_bo at *; omega)]
    show _ = nI (σ' 6)
    rw [hj 6 (by omega)]; exact a10
theorem cm.cong {μ : Nat} {σ σ' : Nat → Nat} {M M' : dk_Mem} (h : cm μ σ M) (h1 : σ' 1 = σ 1) (h4 : σ' 4 = σ 4) (hl : ∀ i, i < σ 4 → σ' (36 + 5 * i) = σ (36 + 5 * i) ∧ σ' (39 + 5 * i) = σ (39 + 5 * i)) (hM : ∀ k, M'.1 μ k = M.1 μ k ∧ M'.1 (μ + 1) k = M.1 (μ + 1) k) : cm μ σ' M' := by
  refine ⟨by rw [(hM 0).1, h1]; exact h.1, by rw [(hM 1).1, h4, sg_set_cong (σ := σ) _ (fun i hi => (hl i hi).2)]; exact h.2.1, fun i hi => ?_⟩
  rw [h4] at hi
  rw [(hM i).2, (hl i hi).1]
  exact h.2.2 i hi
theorem cs.kindU {σ : Nat → Nat} {M : dk_Mem} (h : cs σ M) {a v : Nat} : cs (sg_up σ (35 + 5 * a) v) (dk_put (dk_put M 15 a (nI v)) 18 a (nI (sg_br v (σ (37 + 5 * a)) a))) := by
  obtain ⟨h1, h2, h3, h4, h5⟩ := h
  refine ⟨?_, ?_, fun i hi => ?_, fun y hy => ?_, fun j hj => ?_⟩
  · rw [dk_put_k (by omega), dk_put_k (by omega), sg_up_n (by omega)]; exact h1
  · rw [dk_put_k (by omega), dk_put_k (by omega), sg_up_n (by omega)]; exact h2
  · rw [sg_up_n (by omega)] at hi
    unfold sg_bears
    by_cases e : i = a
    · subst e
      rw [dk_put_k (by omega), dk_put_s, dk_put_k (by omega), dk_put_k (by omega), dk_put_k (by omega), dk_put_k (by omega), dk_put_s, sg_up_s, sg_up_n (by omega), sg_up_n (by omega)]
      exact ⟨rfl, (h3 i hi).2.1, (h3 i hi).2.2.1, rfl⟩
    · rw [dk_put_k (by omega), dk_put_k (by omega), dk_put_k (by omega), dk_put_k (by omega), dk_put_k (by omega), dk_put_k (by omega), dk_put_k (by omega), dk_put_k (by omega), sg_up_n (by omega), sg_up_n (by omega), sg_up_n (by omega)]
      exact h3 i hi
  · rw [dk_put_k (by omega), dk_put_k (by omega), sg_up_n (by omega)]; exact h4 y hy
  · rw [dk_put_k (by omega), dk_put_k (by omega), dk_put_k (by omega), dk_put_k (by omega), sg_up_n (by omega), sg_up_n (by omega)]; exact h5 j hj
theorem cs.gapU {σ : Nat → Nat} {M : dk_Mem} (h : cs σ M) {a v : Nat} : cs (sg_up σ (37 + 5 * a) v) (dk_put (dk_put M 16 a (nI v)) 18 a (nI (sg_br (σ (35 + 5 * a)) v a))) := by
  obtain ⟨h1, h2, h3, h4, h5⟩ := h
  refine ⟨?_, ?_, fun i hi => ?_, fun y hy => ?_, fun j hj => ?_⟩
  · rw [dk_put_k (by omega), dk_put_k (by omega), sg_up_n (by omega)]; exact h1
  · rw [dk_put_k (by omega), dk_put_k (by omega), sg_up_n (by omega)]; exact h2
  · rw [sg_up_n (by omega)] at hi
    unfold sg_bears
    by_cases e : i = a
    · subst e
      rw [dk_put_k (by omega), dk_put_k (by omega), dk_put_k (by omega), dk_put_s, dk_put_k (by omega), dk_put_k (by omega), dk_put_s, sg_up_s, sg_up_n (by omega), sg_up_n (by omega)]
      exact ⟨(h3 i hi).1, rfl, (h3 i hi).2.2.1, rfl⟩
    · rw [dk_put_k (by omega), dk_put_k (by omega), dk_put_k (by omega), dk_put_k (by omega), dk_put_k (by omega), dk_put_k (by omega), dk_put_k (by omega), dk_put_k (by omega), sg_up_n (by omega), sg_up_n (by omega), sg_up_n (by omega)]
      exact h3 i hi
  · rw [dk_put_k (by omega), dk_put_k (by omega), sg_up_n (by omega)]; exact h4 y hy
  · rw [dk_put_k (by omega), dk_put_k (by omega), dk_put_k (by omega), dk_put_k (by omega), sg_up_n (by omega), sg_up_n (by omega)]; exact h5 j hj
/-- one place of the street's rows written, one number of the street with it -/
theorem cs.oneU {σ : Nat → Nat} {M : dk_Mem} (h : cs σ M) {q a jx v : Nat} (hc : (q = 17 ∧ jx = 38 + 5 * a) ∨ (q = 19 ∧ jx = 7 + a ∧ a < 16) ∨ (q = 20 ∧ jx = 23 + 2 * a ∧ a < 6) ∨ (q = 21 ∧ jx = 24 + 2 * a ∧ a < 6) ∨ (q = 14 ∧ a = 10 ∧ jx = 0)) : cs (sg_up σ jx v) (dk_put M q a (nI v)) := by
  obtain ⟨h1, h2, h3, h4, h5⟩ := h
  refine ⟨?_, ?_, fun i hi => ?_, fun y hy => ?_, fun j hj => ?_⟩
  · rw [dk_put_k (by omega), sg_up_n (by omega)]; exact h1
  · simp only [dk_put, sub_up]
    by_cases e : q = 14 ∧ a = 10 ∧ jx = 0
    · simp [e.1, e.2.1, e.2.2]
    · rw [if_neg (by omega), if_neg (by omega)]; exact h2
  · rw [sg_up_n (by omega)] at hi
    have g := h3 i hi
    have eb : sg_bears (sg_up σ jx v) i = sg_bears σ i := by unfold sg_bears; rw [sg_up_n (by omega), sg_up_n (by omega)]
    rw [eb, dk_put_k (by omega), dk_put_k (by omega), dk_put_k (q := 18) (by omega), sg_up_n (by omega), sg_up_n (by omega)]
    refine ⟨g.1, g.2.1, ?_, g.2.2.2⟩
    simp only [dk_put, sub_up]
    by_cases e : q = 17 ∧ i = a
    · rw [if_pos (by omega), if_pos (by omega)]
    · rw [if_neg (by omega), if_neg (by omega)]; exact g.2.2.1
  · simp only [dk_put, sub_up]
    by_cases e : q = 19 ∧ y = a
    · rw [if_pos (by omega), if_pos (by omega)]
    · rw [if_neg (by omega), if_neg (by omega)]; exact h4 y hy
  · simp only [dk_put, sub_up]
    constructor
    · by_cases e : q = 20 ∧ j = a
      · rw [if_pos (by omega), if_pos (by omega)]
      · rw [if_neg (by omega), if_neg (by omega)]; exact (h5 j hj).1
    · by_cases e : q = 21 ∧ j = a
      · rw [if_pos (by omega), if_pos (by omega)]
      · rw [if_neg (by omega), if_neg (by omega)]; exact (h5 j hj).2
theorem fW {M : dk_Mem} {q k : Nat} {x : Int32} (h : cW q k) : dk_fr cW M (dk_put M q k x) := dk_fr.rf.put h

set_option maxRecDepth 20000 in
theorem c_within {d : Nat} {M : dk_Mem} {Q : Option Value → dk_Mem → Prop} {v lo hi : Int32} (h1 : lo ≤ v ∧ v ≤ hi → Q (some (.int 1)) M) (h0 : ¬ (lo ≤ v ∧ v ≤ hi) → Q (some (.int 0)) M) : dk_Call d mX11_within [.int v, .int lo, .int hi] M Q := by
  refine dk_enter [some (.int v), some (.int lo), some (.int hi)] (by decide) (fun _ => rfl) (fun _ => Nat.le_of_ble_eq_true rfl) ?_
  refine w_il0 (n := 1) dX11_within_0 rfl ?_
  refine w_il1 (n := 2) dX11_within_1 rfl ?_
  refine w_ic_lt (n := 5) 14 dX11_within_2 (by decide) rfl (fun z2 => ?_) (fun z2 => ?_)
  · skip
    refine w_iconst (n := 15) (nI 0) dX11_within_14 (by decide) rfl ?_
    refine w_retZ0 dX11_within_15 rfl ?_
    exact h0 (fun z => by first | exact absurd z.1 (Int32.not_le.mpr z2) | exact absurd z.2 (Int32.not_le.mpr z7))
  · skip
    refine w_il0 (n := 6) dX11_within_5 rfl ?_
    refine w_il2 (n := 7) dX11_within_6 rfl ?_
    refine w_ic_gt (n := 10) 14 dX11_within_7 (by decide) rfl (fun z7 => ?_) (fun z7 => ?_)
    · skip
      refine w_iconst (n := 15) (nI 0) dX11_within_14 (by decide) rfl ?_
      refine w_retZ0 dX11_within_15 rfl ?_
      exact h0 (fun z => by first | exact absurd z.1 (Int32.not_le.mpr z2) | exact absurd z.2 (Int32.not_le.mpr z7))
    · skip
      refine w_iconst (n := 11) (nI 1) dX11_within_10 (by decide) rfl ?_
      refine w_goto 15 dX11_within_11 (by decide) ?_
      refine w_retZ1 dX11_within_15 rfl ?_
      exact h1 ⟨Int32.not_lt.mp z2, Int32.not_lt.mp z7⟩

set_option maxRecDepth 20000 in
theorem c_replace {d : Nat} {M : dk_Mem} {Q : Option Value → dk_Mem → Prop} {p N j : Nat} {x y : Int32} (hp : dk_ar p 20 N) (hj : j < N) (hN : N < 2 ^ 31) (hx : M.1 p j = y) (hq : Q (some (.int y)) (dk_put M p j x)) : dk_Call d mX11_replace [.ref p, .int (nI j), .int x] M Q := by
  refine dk_enter [some (.ref p), some (.int (nI j)), some (.int x), none] (by decide) (fun _ => rfl) (fun _ => Nat.le_of_ble_eq_true rfl) ?_
  refine w_al0 (n := 1) dX11_replace_0 rfl ?_
  refine w_il1 (n := 2) dX11_replace_1 rfl ?_
  refine i_iald (n := 3) hp (j := j) rfl hj hN hx dX11_replace_2 rfl ?_
  refine w_is3 (n := 4) dX11_replace_3 rfl rfl (by decide) ?_
  refine w_al0 (n := 5) dX11_replace_4 rfl ?_
  refine w_il1 (n := 6) dX11_replace_5 rfl ?_
  refine w_il2 (n := 7) dX11_replace_6 rfl ?_
  refine i_iast (n := 8) hp (j := j) rfl hj hN dX11_replace_7 rfl ?_
  refine w_il3 (n := 9) dX11_replace_8 rfl ?_
  refine w_retI dX11_replace_9 rfl ?_
  exact hq

set_option maxRecDepth 20000 in
theorem c10_settle {d : Nat} {M : dk_Mem} {Q : Option Value → dk_Mem → Prop} {a k g : Nat} (ha : a < 6) (hk : k ≤ 5) (hg : g ≤ 9) (h1 : M.1 15 a = nI k) (h2 : M.1 16 a = nI g) (hq : Q none (dk_put M 18 a (nI (sg_br k g a)))) : dk_Call (d + 3) mX10_settleBears [.ref 14, .int (nI a)] M Q := by
  refine dk_enter [some (.ref 14), some (.int (nI a))] (by decide) (fun _ => rfl) (fun _ => Nat.le_of_ble_eq_true rfl) ?_
  refine w_al0 (n := 1) dX10_settleBears_0 rfl ?_
  refine g_R (n := 4) f_X10_25_10 pl_14 rf_14_5 dX10_settleBears_1 rfl ?_
  refine w_il1 (n := 5) dX10_settleBears_4 rfl ?_
  refine w_al0 (n := 6) dX10_settleBears_5 rfl ?_
  refine g_R (n := 9) f_X10_67_10 pl_14 rf_14_0 dX10_settleBears_6 rfl ?_
  refine w_al0 (n := 10) dX10_settleBears_9 rfl ?_
  refine g_R (n := 13) f_X10_15_10 pl_14 rf_14_2 dX10_settleBears_10 rfl ?_
  refine w_il1 (n := 14) dX10_settleBears_13 rfl ?_
  refine i_iald (n := 15) pl_15 (j := a) rfl ha (by decide) h1 dX10_settleBears_14 rfl ?_
  refine i_aaldP (n := 16) pl_1 (j := k) rfl (by omega) (by decide) (rf_kinds _ (by omega)) dX10_settleBears_15 rfl ?_
  refine w_al0 (n := 17) dX10_settleBears_16 rfl ?_
  refine g_R (n := 20) f_X10_19_10 pl_14 rf_14_3 dX10_settleBears_17 rfl ?_
  refine w_il1 (n := 21) dX10_settleBears_20 rfl ?_
  refine i_iald (n := 22) pl_16 (j := a) rfl ha (by decide) h2 dX10_settleBears_21 rfl ?_
  refine w_il1 (n := 23) dX10_settleBears_22 rfl ?_
  refine w_br_X10 (n := 26) rfl hk hg (Nat.le_of_ble_eq_true rfl) dX10_settleBears_23 rfl ?_
  refine i_iast (n := 27) pl_18 (j := a) rfl ha (by decide) dX10_settleBears_26 rfl ?_
  refine w_ret dX10_settleBears_27 rfl ?_
  exact hq

set_option maxRecDepth 20000 in
theorem c10_setGap {d : Nat} {M : dk_Mem} {Q : Option Value → dk_Mem → Prop} {a k g v : Nat} (ha : a < 6) (hk : k ≤ 5) (hv : v ≤ 9) (h1 : M.1 15 a = nI k) (h2 : M.1 16 a = nI g) (hq : Q (some (.int (nI g))) (dk_put (dk_put M 16 a (nI v)) 18 a (nI (sg_br k v a)))) : dk_Call (d + 4) mX10_setGap [.ref 14, .int (nI a), .int (nI v)] M Q := by
  refine dk_enter [some (.ref 14), some (.int (nI a)), some (.int (nI v)), none] (by decide) (fun _ => rfl) (fun _ => Nat.le_of_ble_eq_true rfl) ?_
  refine w_al0 (n := 1) dX10_setGap_0 rfl ?_
  refine g_R (n := 4) f_X10_19_10 pl_14 rf_14_3 dX10_setGap_1 rfl ?_
  refine w_il1 (n := 5) dX10_setGap_4 rfl ?_
  refine i_iald (n := 6) pl_16 (j := a) rfl ha (by decide) h2 dX10_setGap_5 rfl ?_
  refine w_is3 (n := 7) dX10_setGap_6 rfl rfl (by decide) ?_
  refine w_al0 (n := 8) dX10_setGap_7 rfl ?_
  refine g_R (n := 11) f_X10_19_10 pl_14 rf_14_3 dX10_setGap_8 rfl ?_
  refine w_il1 (n := 12) dX10_setGap_11 rfl ?_
  refine w_il2 (n := 13) dX10_setGap_12 rfl ?_
  refine i_iast (n := 14) pl_16 (j := a) rfl ha (by decide) dX10_setGap_13 rfl ?_
  refine w_al0 (n := 15) dX10_setGap_14 rfl ?_
  refine w_il1 (n := 16) dX10_setGap_15 rfl ?_
  refine w_cV1 (n := 19) pl_14 cl_10 s0_X10_settleBears k_X10_100 (Nat.le_of_ble_eq_true rfl) dX10_setGap_16 rfl (c10_settle ha hk hv (by rw [dk_put_k (by omega)]; exact h1) dk_put_s ?_)
  refine w_il3 (n := 20) dX10_setGap_19 rfl ?_
  refine w_retI dX10_setGap_20 rfl ?_
  exact hq

set_option maxRecDepth 20000 in
theorem c10_setKind {d : Nat} {M : dk_Mem} {Q : Option Value → dk_Mem → Prop} {a k g v : Nat} (ha : a < 6) (hv : v ≤ 5) (hg : g ≤ 9) (h1 : M.1 15 a = nI k) (h2 : M.1 16 a = nI g) (hq : Q (some (.int (nI k))) (dk_put (dk_put M 15 a (nI v)) 18 a (nI (sg_br v g a)))) : dk_Call (d + 4) mX10_setKind [.ref 14, .int (nI a), .int (nI v)] M Q := by
  refine dk_enter [some (.ref 14), some (.int (nI a)), some (.int (nI v)), none] (by decide) (fun _ => rfl) (fun _ => Nat.le_of_ble_eq_true rfl) ?_
  refine w_al0 (n := 1) dX10_setKind_0 rfl ?_
  refine g_R (n := 4) f_X10_15_10 pl_14 rf_14_2 dX10_setKind_1 rfl ?_
  refine w_il1 (n := 5) dX10_setKind_4 rfl ?_
  refine i_iald (n := 6) pl_15 (j := a) rfl ha (by decide) h1 dX10_setKind_5 rfl ?_
  refine w_is3 (n := 7) dX10_setKind_6 rfl rfl (by decide) ?_
  refine w_al0 (n := 8) dX10_setKind_7 rfl ?_
  refine g_R (n := 11) f_X10_15_10 pl_14 rf_14_2 dX10_setKind_8 rfl ?_
  refine w_il1 (n := 12) dX10_setKind_11 rfl ?_
  refine w_il2 (n := 13) dX10_setKind_12 rfl ?_
  refine i_iast (n := 14) pl_15 (j := a) rfl ha (by decide) dX10_setKind_13 rfl ?_
  refine w_al0 (n := 15) dX10_setKind_14 rfl ?_
  refine w_il1 (n := 16) dX10_setKind_15 rfl ?_
  refine w_cV1 (n := 19) pl_14 cl_10 s0_X10_settleBears k_X10_100 (Nat.le_of_ble_eq_true rfl) dX10_setKind_16 rfl (c10_settle ha hv hg dk_put_s (by rw [dk_put_k (by omega)]; exact h2) ?_)
  refine w_il3 (n := 20) dX10_setKind_19 rfl ?_
  refine w_retI dX10_setKind_20 rfl ?_
  exact hq

set_option maxRecDepth 20000 in
theorem C_saying {d : Nat} {M : dk_Mem} {Q : Option Value → dk_Mem → Prop} {K : sg_K} (hK : cK K M) {y v : Int32} (hq : ∀ M2, cK (kf_saying K y v).2 M2 → dk_fr cA M M2 → Q (some (.int (kf_saying K y v).1)) M2) : dk_Call (d + 3) mX11_saying [.ref 0, .int y, .int v] M Q := by
  have hK0 := hK
  obtain ⟨⟨o, p1, p2, p3⟩, hs, hc, hb, hcr, hsc, hz, β, hβ, hβ1, hβ2⟩ := hK0
  have o4 := o.2.2.2.1
  have o16 := o.2.1
  have hm : dk_mo 22 := Or.inl rfl
  refine dk_enter [some (.ref 0), some (.int y), some (.int v)] (by decide) (fun _ => rfl) (fun _ => Nat.le_of_ble_eq_true rfl) ?_
  refine w_il1 (n := 1) dX11_saying_0 rfl ?_
  refine w_iconst (n := 2) (nI 0) dX11_saying_1 (by decide) rfl ?_
  refine w_bipush (n := 4) (nI 15) dX11_saying_2 (by decide) rfl ?_
  refine w_cS3 (n := 7) s0_X11_within k_X11_112 (Nat.le_of_ble_eq_true rfl) dX11_saying_4 rfl (c_within (fun t4 => ?_) (fun t4 => ?_))
  · skip
    refine w_if_eq (n := 10) 20 dX11_saying_7 (by decide) rfl (fun h => absurd h (by decide)) (fun _ => ?_)
    refine w_il2 (n := 11) dX11_saying_10 rfl ?_
    refine w_iconst (n := 12) (nI 0) dX11_saying_11 (by decide) rfl ?_
    refine w_bipush (n := 14) (nI 15) dX11_saying_12 (by decide) rfl ?_
    refine w_cS3 (n := 17) s0_X11_within k_X11_112 (Nat.le_of_ble_eq_true rfl) dX11_saying_14 rfl (c_within (fun t14 => ?_) (fun t14 => ?_))
    · skip
      refine w_if_ne (n := 20) 22 dX11_saying_17 (by decide) rfl (fun _ => ?_) (fun h => absurd h (by decide))
      refine w_al0 (n := 23) dX11_saying_22 rfl ?_
      refine g_R (n := 26) f_X11_36_11 pl_0 rf_0_1 dX11_saying_23 rfl ?_
      refine g_R (n := 29) f_X11_176_10 pl_14 rf_14_6 dX11_saying_26 rfl ?_
      refine w_il1 (n := 30) dX11_saying_29 rfl ?_
      refine w_il2 (n := 31) dX11_saying_30 rfl ?_
      have hy := tN_of (n := 15) (by decide) t4.1 t4.2
      have hv := tN_of (n := 15) (by decide) t14.1 t14.2
      rw [hy.1, hv.1]
      refine w_cS3 (n := 34) s0_X11_replace k_X11_162 (Nat.le_of_ble_eq_true rfl) dX11_saying_31 rfl (c_replace pl_19 (by omega) (by decide) (hs.2.2.2.1 _ (by omega)) ?_)
      refine w_retI dX11_saying_34 rfl ?_
      exact dk_fin hq (if_pos ⟨t4, t14⟩) (hK.mk (hK.1.u_say (by omega) hv.2) (hs.oneU (Or.inr (Or.inl ⟨rfl, rfl, by omega⟩))) (hc.cong (sg_up_n (by omega)) (sg_up_n (by omega)) (fun i hi => ⟨sg_up_n (by omega), sg_up_n (by omega)⟩) (fun k => ⟨dk_put_k (by omega), dk_put_k (by omega)⟩)) (fW (by unfold cW; omega)) (fun j hj => sg_up_n (by omega))) (cW_A (fW (by unfold cW; omega)))
    · skip
      refine w_if_ne (n := 20) 22 dX11_saying_17 (by decide) rfl (fun h => absurd h (by decide)) (fun _ => ?_)
      refine w_iconst (n := 21) (-1) dX11_saying_20 (by decide) rfl ?_
      refine w_retI dX11_saying_21 rfl ?_
      exact dk_fin hq (if_neg (fun z => by first | exact t4 z.1 | exact t14 z.2)) hK dk_fr.rf
  · skip
    refine w_if_eq (n := 10) 20 dX11_saying_7 (by decide) rfl (fun _ => ?_) (fun h => absurd (by decide) h)
    refine w_iconst (n := 21) (-1) dX11_saying_20 (by decide) rfl ?_
    refine w_retI dX11_saying_21 rfl ?_
    exact dk_fin hq (if_neg (fun z => by first | exact t4 z.1 | exact t14 z.2)) hK dk_fr.rf

set_option maxRecDepth 20000 in
theorem C_room {d : Nat} {M : dk_Mem} {Q : Option Value → dk_Mem → Prop} {K : sg_K} (hK : cK K M) {f0 x v : Int32} (hq : ∀ M2, cK (kf_room K f0 x v).2 M2 → dk_fr cA M M2 → Q (some (.int (kf_room K f0 x v).1)) M2) : dk_Call (d + 3) mX11_room [.ref 0, .int f0, .int x, .int v] M Q := by
  have hK0 := hK
  obtain ⟨⟨o, p1, p2, p3⟩, hs, hc, hb, hcr, hsc, hz, β, hβ, hβ1, hβ2⟩ := hK0
  have o4 := o.2.2.2.1
  have o16 := o.2.1
  have hm : dk_mo 22 := Or.inl rfl
  refine dk_enter [some (.ref 0), some (.int f0), some (.int x), some (.int v)] (by decide) (fun _ => rfl) (fun _ => Nat.le_of_ble_eq_true rfl) ?_
  refine w_il1 (n := 1) dX11_room_0 rfl ?_
  refine w_iconst (n := 2) (nI 0) dX11_room_1 (by decide) rfl ?_
  refine w_iconst (n := 3) (nI 5) dX11_room_2 (by decide) rfl ?_
  refine w_cS3 (n := 6) s0_X11_within k_X11_112 (Nat.le_of_ble_eq_true rfl) dX11_room_3 rfl (c_within (fun t3 => ?_) (fun t3 => ?_))
  · skip
    refine w_if_eq (n := 9) 28 dX11_room_6 (by decide) rfl (fun h => absurd h (by decide)) (fun _ => ?_)
    refine w_il2 (n := 10) dX11_room_9 rfl ?_
    refine w_iconst (n := 11) (nI 0) dX11_room_10 (by decide) rfl ?_
    refine w_iconst (n := 12) (nI 1) dX11_room_11 (by decide) rfl ?_
    refine w_cS3 (n := 15) s0_X11_within k_X11_112 (Nat.le_of_ble_eq_true rfl) dX11_room_12 rfl (c_within (fun t12 => ?_) (fun t12 => ?_))
    · skip
      refine w_if_eq (n := 18) 28 dX11_room_15 (by decide) rfl (fun h => absurd h (by decide)) (fun _ => ?_)
      refine w_il3 (n := 19) dX11_room_18 rfl ?_
      refine w_iconst (n := 20) (nI 0) dX11_room_19 (by decide) rfl ?_
      refine w_bipush (n := 22) (nI 9) dX11_room_20 (by decide) rfl ?_
      refine w_cS3 (n := 25) s0_X11_within k_X11_112 (Nat.le_of_ble_eq_true rfl) dX11_room_22 rfl (c_within (fun t22 => ?_) (fun t22 => ?_))
      · skip
        refine w_if_ne (n := 28) 30 dX11_room_25 (by decide) rfl (fun _ => ?_) (fun h => absurd h (by decide))
        have hf := tN_of (n := 5) (by decide) t3.1 t3.2
        have hx := tN_of (n := 1) (by decide) t12.1 t12.2
        have hv := tN_of (n := 9) (by decide) t22.1 t22.2
        refine w_il2 (n := 31) dX11_room_30 rfl ?_
        refine w_if_ne (n := 34) 44 dX11_room_31 (by decide) rfl (fun z31 => ?_) (fun z31 => ?_)
        · skip
          refine w_al0 (n := 45) dX11_room_44 rfl ?_
          refine g_R (n := 48) f_X11_36_11 pl_0 rf_0_1 dX11_room_45 rfl ?_
          refine g_R (n := 51) f_X11_182_10 pl_14 rf_14_8 dX11_room_48 rfl ?_
          refine w_il1 (n := 52) dX11_room_51 rfl ?_
          refine w_il3 (n := 53) dX11_room_52 rfl ?_
          first | (have ex : tN x = 0 := (by have e9 : x = nI 0 := z31; rw [e9]; decide); rw [hf.1, hv.1]; refine w_cS3 (n := 56) s0_X11_replace k_X11_162 (Nat.le_of_ble_eq_true rfl) dX11_room_53 rfl (c_replace pl_20 (by omega) (by decide) (hs.2.2.2.2 _ (by omega)).1 ?_)) | (have ex : tN x = 1 := (by have e8 : tN x ≠ 0 := fun e => z31 (by rw [hx.1, e]; rfl); omega); rw [hf.1, hv.1]; refine w_cS3 (n := 56) s0_X11_replace k_X11_162 (Nat.le_of_ble_eq_true rfl) dX11_room_53 rfl (c_replace pl_21 (by omega) (by decide) (hs.2.2.2.2 _ (by omega)).2 ?_))
          refine w_retI dX11_room_56 rfl ?_
          have ek : kf_room K f0 x v = (nI (K.1 (23 + 2 * tN f0 + tN x)), (sg_up K.1 (23 + 2 * tN f0 + tN x) (tN v), K.2)) := if_pos ⟨t3, t12, t22⟩
          rw [ex] at ek
          have hin : sg_in (sg_up K.1 (23 + (2 * tN f0 + tN x)) (tN v)) := hK.1.u_rom (by omega) hv.2
          rw [ex] at hin
          first | (rw [show 24 + 2 * tN f0 = 23 + 2 * tN f0 + 1 by omega]; refine dk_fin hq ek (hK.mk hin (hs.oneU (Or.inr (Or.inr (Or.inr (Or.inl ⟨rfl, by omega, by omega⟩))))) (hc.cong (sg_up_n (by omega)) (sg_up_n (by omega)) (fun i hi => ⟨sg_up_n (by omega), sg_up_n (by omega)⟩) (fun k => ⟨dk_put_k (by omega), dk_put_k (by omega)⟩)) (fW (by unfold cW; omega)) (fun j hj => sg_up_n (by omega))) (cW_A (fW (by unfold cW; omega)))) | (refine dk_fin hq ek (hK.mk hin (hs.oneU (Or.inr (Or.inr (Or.inl ⟨rfl, by omega, by omega⟩)))) (hc.cong (sg_up_n (by omega)) (sg_up_n (by omega)) (fun i hi => ⟨sg_up_n (by omega), sg_up_n (by omega)⟩) (fun k => ⟨dk_put_k (by omega), dk_put_k (by omega)⟩)) (fW (by unfold cW; omega)) (fun j hj => sg_up_n (by omega))) (cW_A (fW (by unfold cW; omega))))
        · skip
          refine w_al0 (n := 35) dX11_room_34 rfl ?_
          refine g_R (n := 38) f_X11_36_11 pl_0 rf_0_1 dX11_room_35 rfl ?_
          refine g_R (n := 41) f_X11_179_10 pl_14 rf_14_7 dX11_room_38 rfl ?_
          refine w_goto 51 dX11_room_41 (by decide) ?_
          refine w_il1 (n := 52) dX11_room_51 rfl ?_
          refine w_il3 (n := 53) dX11_room_52 rfl ?_
          first | (have ex : tN x = 0 := (by have e9 : x = nI 0 := z31; rw [e9]; decide); rw [hf.1, hv.1]; refine w_cS3 (n := 56) s0_X11_replace k_X11_162 (Nat.le_of_ble_eq_true rfl) dX11_room_53 rfl (c_replace pl_20 (by omega) (by decide) (hs.2.2.2.2 _ (by omega)).1 ?_)) | (have ex : tN x = 1 := (by have e8 : tN x ≠ 0 := fun e => z31 (by rw [hx.1, e]; rfl); omega); rw [hf.1, hv.1]; refine w_cS3 (n := 56) s0_X11_replace k_X11_162 (Nat.le_of_ble_eq_true rfl) dX11_room_53 rfl (c_replace pl_21 (by omega) (by decide) (hs.2.2.2.2 _ (by omega)).2 ?_))
          refine w_retI dX11_room_56 rfl ?_
          have ek : kf_room K f0 x v = (nI (K.1 (23 + 2 * tN f0 + tN x)), (sg_up K.1 (23 + 2 * tN f0 + tN x) (tN v), K.2)) := if_pos ⟨t3, t12, t22⟩
          rw [ex] at ek
          have hin : sg_in (sg_up K.1 (23 + (2 * tN f0 + tN x)) (tN v)) := hK.1.u_rom (by omega) hv.2
          rw [ex] at hin
          first | (rw [show 24 + 2 * tN f0 = 23 + 2 * tN f0 + 1 by omega]; refine dk_fin hq ek (hK.mk hin (hs.oneU (Or.inr (Or.inr (Or.inr (Or.inl ⟨rfl, by omega, by omega⟩))))) (hc.cong (sg_up_n (by omega)) (sg_up_n (by omega)) (fun i hi => ⟨sg_up_n (by omega), sg_up_n (by omega)⟩) (fun k => ⟨dk_put_k (by omega), dk_put_k (by omega)⟩)) (fW (by unfold cW; omega)) (fun j hj => sg_up_n (by omega))) (cW_A (fW (by unfold cW; omega)))) | (refine dk_fin hq ek (hK.mk hin (hs.oneU (Or.inr (Or.inr (Or.inl ⟨rfl, by omega, by omega⟩)))) (hc.cong (sg_up_n (by omega)) (sg_up_n (by omega)) (fun i hi => ⟨sg_up_n (by omega), sg_up_n (by omega)⟩) (fun k => ⟨dk_put_k (by omega), dk_put_k (by omega)⟩)) (fW (by unfold cW; omega)) (fun j hj => sg_up_n (by omega))) (cW_A (fW (by unfold cW; omega))))
      · skip
        refine w_if_ne (n := 28) 30 dX11_room_25 (by decide) rfl (fun h => absurd h (by decide)) (fun _ => ?_)
        refine w_iconst (n := 29) (-1) dX11_room_28 (by decide) rfl ?_
        refine w_retI dX11_room_29 rfl ?_
        exact dk_fin hq (if_neg (fun z => by first | exact t3 z.1 | exact t12 z.2.1 | exact t22 z.2.2)) hK dk_fr.rf
    · skip
      refine w_if_eq (n := 18) 28 dX11_room_15 (by decide) rfl (fun _ => ?_) (fun h => absurd (by decide) h)
      refine w_iconst (n := 29) (-1) dX11_room_28 (by decide) rfl ?_
      refine w_retI dX11_room_29 rfl ?_
      exact dk_fin hq (if_neg (fun z => by first | exact t3 z.1 | exact t12 z.2.1 | exact t22 z.2.2)) hK dk_fr.rf
  · skip
    refine w_if_eq (n := 9) 28 dX11_room_6 (by decide) rfl (fun _ => ?_) (fun h => absurd (by decide) h)
    refine w_iconst (n := 29) (-1) dX11_room_28 (by decide) rfl ?_
    refine w_retI dX11_room_29 rfl ?_
    exact dk_fin hq (if_neg (fun z => by first | exact t3 z.1 | exact t12 z.2.1 | exact t22 z.2.2)) hK dk_fr.rf

set_option maxRecDepth 20000 in
theorem C_roomOf {d : Nat} {M : dk_Mem} {Q : Option Value → dk_Mem → Prop} {K : sg_K} (hK : cK K M) {f0 x : Int32} (hq : ∀ M2, cK (kf_roomOf K f0 x).2 M2 → dk_fr cA M M2 → Q (some (.int (kf_roomOf K f0 x).1)) M2) : dk_Call (d + 3) mX11_roomOf [.ref 0, .int f0, .int x] M Q := by
  have hK0 := hK
  obtain ⟨⟨o, p1, p2, p3⟩, hs, hc, hb, hcr, hsc, hz, β, hβ, hβ1, hβ2⟩ := hK0
  have o4 := o.2.2.2.1
  have o16 := o.2.1
  have hm : dk_mo 22 := Or.inl rfl
  refine dk_enter [some (.ref 0), some (.int f0), some (.int x)] (by decide) (fun _ => rfl) (fun _ => Nat.le_of_ble_eq_true rfl) ?_
  refine w_il1 (n := 1) dX11_roomOf_0 rfl ?_
  refine w_iconst (n := 2) (nI 0) dX11_roomOf_1 (by decide) rfl ?_
  refine w_iconst (n := 3) (nI 5) dX11_roomOf_2 (by decide) rfl ?_
  refine w_cS3 (n := 6) s0_X11_within k_X11_112 (Nat.le_of_ble_eq_true rfl) dX11_roomOf_3 rfl (c_within (fun t3 => ?_) (fun t3 => ?_))
  · skip
    refine w_if_eq (n := 9) 18 dX11_roomOf_6 (by decide) rfl (fun h => absurd h (by decide)) (fun _ => ?_)
    refine w_il2 (n := 10) dX11_roomOf_9 rfl ?_
    refine w_iconst (n := 11) (nI 0) dX11_roomOf_10 (by decide) rfl ?_
    refine w_iconst (n := 12) (nI 1) dX11_roomOf_11 (by decide) rfl ?_
    refine w_cS3 (n := 15) s0_X11_within k_X11_112 (Nat.le_of_ble_eq_true rfl) dX11_roomOf_12 rfl (c_within (fun t12 => ?_) (fun t12 => ?_))
    · skip
      refine w_if_ne (n := 18) 20 dX11_roomOf_15 (by decide) rfl (fun _ => ?_) (fun h => absurd h (by decide))
      have hf := tN_of (n := 5) (by decide) t3.1 t3.2
      have hx := tN_of (n := 1) (by decide) t12.1 t12.2
      refine w_il2 (n := 21) dX11_roomOf_20 rfl ?_
      refine w_if_ne (n := 24) 36 dX11_roomOf_21 (by decide) rfl (fun z21 => ?_) (fun z21 => ?_)
      · skip
        refine w_al0 (n := 37) dX11_roomOf_36 rfl ?_
        refine g_R (n := 40) f_X11_36_11 pl_0 rf_0_1 dX11_roomOf_37 rfl ?_
        refine g_R (n := 43) f_X11_182_10 pl_14 rf_14_8 dX11_roomOf_40 rfl ?_
        refine w_il1 (n := 44) dX11_roomOf_43 rfl ?_
        refine i_iald (n := 45) pl_21 (j := tN f0) hf.1 (by omega) (by decide) (hs.2.2.2.2 _ (by omega)).2 dX11_roomOf_44 rfl ?_
        refine w_retI dX11_roomOf_45 rfl ?_
        refine dk_q ?_ (dk_fin hq (if_pos ⟨t3, t12⟩) hK dk_fr.rf)
        first | (have ex : tN x = 0 := (by have e9 : x = nI 0 := z21; rw [e9]; decide); rw [ex]; rfl) | (have ex : tN x = 1 := (by have e8 : tN x ≠ 0 := fun e => z21 (by rw [hx.1, e]; rfl); omega); rw [ex, show 24 + 2 * tN f0 = 23 + 2 * tN f0 + 1 by omega])
      · skip
        refine w_al0 (n := 25) dX11_roomOf_24 rfl ?_
        refine g_R (n := 28) f_X11_36_11 pl_0 rf_0_1 dX11_roomOf_25 rfl ?_
        refine g_R (n := 31) f_X11_179_10 pl_14 rf_14_7 dX11_roomOf_28 rfl ?_
        refine w_il1 (n := 32) dX11_roomOf_31 rfl ?_
        refine i_iald (n := 33) pl_20 (j := tN f0) hf.1 (by omega) (by decide) (hs.2.2.2.2 _ (by omega)).1 dX11_roomOf_32 rfl ?_
        refine w_goto 45 dX11_roomOf_33 (by decide) ?_
        refine w_retI dX11_roomOf_45 rfl ?_
        refine dk_q ?_ (dk_fin hq (if_pos ⟨t3, t12⟩) hK dk_fr.rf)
        first | (have ex : tN x = 0 := (by have e9 : x = nI 0 := z21; rw [e9]; decide); rw [ex]; rfl) | (have ex : tN x = 1 := (by have e8 : tN x ≠ 0 := fun e => z21 (by rw [hx.1, e]; rfl); omega); rw [ex, show 24 + 2 * tN f0 = 23 + 2 * tN f0 + 1 by omega])
    · skip
      refine w_if_ne (n := 18) 20 dX11_roomOf_15 (by decide) rfl (fun h => absurd h (by decide)) (fun _ => ?_)
      refine w_iconst (n := 19) (-1) dX11_roomOf_18 (by decide) rfl ?_
      refine w_retI dX11_roomOf_19 rfl ?_
      exact dk_fin hq (if_neg (fun z => by first | exact t3 z.1 | exact t12 z.2)) hK dk_fr.rf
  · skip
    refine w_if_eq (n := 9) 18 dX11_roomOf_6 (by decide) rfl (fun _ => ?_) (fun h => absurd (by decide) h)
    refine w_iconst (n := 19) (-1) dX11_roomOf_18 (by decide) rfl ?_
    refine w_retI dX11_roomOf_19 rfl ?_
    exact dk_fin hq (if_neg (fun z => by first | exact t3 z.1 | exact t12 z.2)) hK dk_fr.rf

set_option maxRecDepth 20000 in
theorem C_ends {d : Nat} {M : dk_Mem} {Q : Option Value → dk_Mem → Prop} {K : sg_K} (hK : cK K M) {v : Int32} (hq : ∀ M2, cK (kf_ends K v).2 M2 → dk_fr cA M M2 → Q (some (.int (kf_ends K v).1)) M2) : dk_Call (d + 3) mX11_ends [.ref 0, .int v] M Q := by
  have hK0 := hK
  obtain ⟨⟨o, p1, p2, p3⟩, hs, hc, hb, hcr, hsc, hz, β, hβ, hβ1, hβ2⟩ := hK0
  have o4 := o.2.2.2.1
  have o16 := o.2.1
  have hm : dk_mo 22 := Or.inl rfl
  refine dk_enter [some (.ref 0), some (.int v), none] (by decide) (fun _ => rfl) (fun _ => Nat.le_of_ble_eq_true rfl) ?_
  refine w_il1 (n := 1) dX11_ends_0 rfl ?_
  refine w_iconst (n := 2) (nI 1) dX11_ends_1 (by decide) rfl ?_
  refine w_bipush (n := 4) (nI 16) dX11_ends_2 (by decide) rfl ?_
  refine w_cS3 (n := 7) s0_X11_within k_X11_112 (Nat.le_of_ble_eq_true rfl) dX11_ends_4 rfl (c_within (fun t4 => ?_) (fun t4 => ?_))
  · skip
    refine w_if_ne (n := 10) 12 dX11_ends_7 (by decide) rfl (fun _ => ?_) (fun h => absurd h (by decide))
    refine w_il1 (n := 13) dX11_ends_12 rfl ?_
    refine w_al0 (n := 14) dX11_ends_13 rfl ?_
    refine g_R (n := 17) f_X11_36_11 pl_0 rf_0_1 dX11_ends_14 rfl ?_
    refine g_R (n := 20) f_X11_127_10 pl_14 rf_14_9 dX11_ends_17 rfl ?_
    refine g_I (n := 23) f_X11_185_4 pl_22 dX11_ends_20 rfl ?_
    rw [hc.1]
    refine w_ic_ge (n := 26) 29 dX11_ends_23 (by decide) rfl (fun z23 => ?_) (fun z23 => ?_)
    · skip
      refine w_al0 (n := 30) dX11_ends_29 rfl ?_
      refine g_R (n := 33) f_X11_36_11 pl_0 rf_0_1 dX11_ends_30 rfl ?_
      refine g_I (n := 36) f_X11_188_10 pl_14 dX11_ends_33 rfl ?_
      refine w_is2 (n := 37) dX11_ends_36 rfl rfl (by decide) ?_
      refine w_al0 (n := 38) dX11_ends_37 rfl ?_
      refine g_R (n := 41) f_X11_36_11 pl_0 rf_0_1 dX11_ends_38 rfl ?_
      refine w_il1 (n := 42) dX11_ends_41 rfl ?_
      refine p_I (n := 45) f_X11_188_10 pl_14 dX11_ends_42 rfl ?_
      refine w_il2 (n := 46) dX11_ends_45 rfl ?_
      refine w_retI dX11_ends_46 rfl ?_
      have hv := tN_of (n := 16) (by decide) (Int32.le_trans (by decide) t4.1) t4.2
      have v1 : nI 1 ≤ nI (tN v) := by rw [← hv.1]; exact t4.1
      have z9 : nI (K.1 1) ≤ nI (tN v) := by rw [← hv.1]; exact z23
      rw [q_le (by omega) (by omega)] at v1 z9
      rw [hs.end]
      have e9 : dk_put M 14 10 v = dk_put M 14 10 (nI (tN v)) := by rw [← hv.1]
      rw [e9]
      exact dk_fin hq (by unfold kf_ends; rw [if_pos t4, if_neg (Int32.not_lt.mpr z23)]) (hK.mk (hK.1.u_end v1 hv.2 z9) (hs.oneU (Or.inr (Or.inr (Or.inr (Or.inr ⟨rfl, rfl, rfl⟩))))) (hc.cong (sg_up_n (by omega)) (sg_up_n (by omega)) (fun i hi => ⟨sg_up_n (by omega), sg_up_n (by omega)⟩) (fun k => ⟨dk_put_k (by omega), dk_put_k (by omega)⟩)) (fW (by unfold cW; omega)) (fun j hj => sg_up_n (by omega))) (cW_A (fW (by unfold cW; omega)))
    · skip
      refine w_bipush (n := 28) (-4) dX11_ends_26 (by decide) rfl ?_
      refine w_retI dX11_ends_28 rfl ?_
      exact dk_fin hq (by unfold kf_ends; rw [if_pos t4, if_pos (Int32.not_le.mp z23)]) hK dk_fr.rf
  · skip
    refine w_if_ne (n := 10) 12 dX11_ends_7 (by decide) rfl (fun h => absurd h (by decide)) (fun _ => ?_)
    refine w_iconst (n := 11) (-1) dX11_ends_10 (by decide) rfl ?_
    refine w_retI dX11_ends_11 rfl ?_
    exact dk_fin hq (if_neg t4) hK dk_fr.rf

set_option maxRecDepth 20000 in
theorem C_remake {d : Nat} {M : dk_Mem} {Q : Option Value → dk_Mem → Prop} {K : sg_K} (hK : cK K M) {k v : Int32} (hq : ∀ M2, cK (kf_remake K k v).2 M2 → dk_fr cA M M2 → Q (some (.int (kf_remake K k v).1)) M2) : dk_Call (d + 5) mX11_remake [.ref 0, .int k, .int v] M Q := by
  have hK0 := hK
  obtain ⟨⟨o, p1, p2, p3⟩, hs, hc, hb, hcr, hsc, hz, β, hβ, hβ1, hβ2⟩ := hK0
  have o4 := o.2.2.2.1
  have o16 := o.2.1
  have hm : dk_mo 22 := Or.inl rfl
  refine dk_enter [some (.ref 0), some (.int k), some (.int v)] (by decide) (fun _ => rfl) (fun _ => Nat.le_of_ble_eq_true rfl) ?_
  refine w_al0 (n := 1) dX11_remake_0 rfl ?_
  refine g_R (n := 4) f_X11_36_11 pl_0 rf_0_1 dX11_remake_1 rfl ?_
  refine w_il1 (n := 5) dX11_remake_4 rfl ?_
  refine w_cV1 (n := 8) pl_14 cl_10 s0_X10_isPiece k_X11_123 (Nat.le_of_ble_eq_true rfl) dX11_remake_5 rfl (c10_isPiece hs o (fun h hh e => ?_) (fun nh => ?_))
  · skip
    subst e
    have h6 : h < 6 := by omega
    refine w_if_eq (n := 11) 20 dX11_remake_8 (by decide) rfl (fun h => absurd h (by decide)) (fun _ => ?_)
    refine w_il2 (n := 12) dX11_remake_11 rfl ?_
    refine w_iconst (n := 13) (nI 1) dX11_remake_12 (by decide) rfl ?_
    refine w_iconst (n := 14) (nI 5) dX11_remake_13 (by decide) rfl ?_
    refine w_cS3 (n := 17) s0_X11_within k_X11_112 (Nat.le_of_ble_eq_true rfl) dX11_remake_14 rfl (c_within (fun t14 => ?_) (fun t14 => ?_))
    · skip
      refine w_if_ne (n := 20) 22 dX11_remake_17 (by decide) rfl (fun _ => ?_) (fun h => absurd h (by decide))
      refine w_al0 (n := 23) dX11_remake_22 rfl ?_
      refine g_R (n := 26) f_X11_36_11 pl_0 rf_0_1 dX11_remake_23 rfl ?_
      refine w_il1 (n := 27) dX11_remake_26 rfl ?_
      refine w_il2 (n := 28) dX11_remake_27 rfl ?_
      have hv := tN_of (n := 5) (by decide) (Int32.le_trans (by decide) t14.1) t14.2
      rw [hv.1]
      refine w_cV2 (n := 31) pl_14 cl_10 s0_X10_setKind k_X11_173 (Nat.le_of_ble_eq_true rfl) dX11_remake_28 rfl (c10_setKind h6 hv.2 (o.gap h6) (hs.kind hh) (hs.gap hh) ?_)
      refine w_retI dX11_remake_31 rfl ?_
      have fr2 : dk_fr cW M (dk_put (dk_put M 15 h (nI (tN v))) 18 h (nI (sg_br (tN v) (K.1 (37 + 5 * h)) h))) := (fW (by unfold cW; omega)).put (by unfold cW; omega)
      exact dk_fin hq (by unfold kf_remake; rw [sg_pc_some o4 hh]; exact if_pos t14) (hK.mk (hK.1.u_kind h6 hv.2) hs.kindU (hc.cong (sg_up_n (by omega)) (sg_up_n (by omega)) (fun i hi => ⟨sg_up_n (by omega), sg_up_n (by omega)⟩) (fun k => ⟨by rw [dk_put_k (by omega), dk_put_k (by omega)], by rw [dk_put_k (by omega), dk_put_k (by omega)]⟩)) fr2 (fun j hj => sg_up_n (by omega))) (cW_A fr2)
    · skip
      refine w_if_ne (n := 20) 22 dX11_remake_17 (by decide) rfl (fun h => absurd h (by decide)) (fun _ => ?_)
      refine w_iconst (n := 21) (-1) dX11_remake_20 (by decide) rfl ?_
      refine w_retI dX11_remake_21 rfl ?_
      first | exact dk_fin hq (by unfold kf_remake; rw [sg_pc_none o4 nh]) hK dk_fr.rf | exact dk_fin hq (by unfold kf_remake; rw [sg_pc_some o4 hh]; exact if_neg t14) hK dk_fr.rf
  · skip
    refine w_if_eq (n := 11) 20 dX11_remake_8 (by decide) rfl (fun _ => ?_) (fun h => absurd (by decide) h)
    refine w_iconst (n := 21) (-1) dX11_remake_20 (by decide) rfl ?_
    refine w_retI dX11_remake_21 rfl ?_
    first | exact dk_fin hq (by unfold kf_remake; rw [sg_pc_none o4 nh]) hK dk_fr.rf | exact dk_fin hq (by unfold kf_remake; rw [sg_pc_some o4 hh]; exact if_neg t14) hK dk_fr.rf

theorem cs_23 {σ : Nat → Nat} {M : dk_Mem} {k : Nat} {x : Int32} (h : cs σ M) : cs σ (dk_put M 23 k x) := h.fr (S := fun q _ => q = 23) (dk_fr.rf.put rfl) (fun q k a b z => by omega)
theorem cs_22 {σ : Nat → Nat} {M : dk_Mem} {k : Nat} {x : Int32} (h : cs σ M) : cs σ (dk_put M 22 k x) := h.fr (S := fun q _ => q = 22) (dk_fr.rf.put rfl) (fun q k a b z => by omega)
theorem sg_set_bv {σ : Nat → Nat} (o : sg_ok σ) {h : Nat} (hh : h < σ 4) : sg_set σ (σ 4) / 2 ^ h % 2 = σ (39 + 5 * h) := by
  have sb := sg_set_bit o (σ 4) hh o.2.2.2.1
  have b := o.fal (h := h) (by have := o.2.2.2.1; omega)
  rw [Nat.testBit_eq_decide_div_mod_eq, decide_eq_true_eq] at sb
  omega
set_option maxRecDepth 20000 in
theorem C_change {d : Nat} {M : dk_Mem} {Q : Option Value → dk_Mem → Prop} {K : sg_K} (hK : cK K M) {k x v : Int32} (hq : ∀ M2, cK (kf_change K k x v).2 M2 → dk_fr cA M M2 → Q (some (.int (kf_change K k x v).1)) M2) : dk_Call (d + 5) mX11_change [.ref 0, .int k, .int x, .int v] M Q := by
  have hK0 := hK
  obtain ⟨⟨o, p1, p2, p3⟩, hs, hc, hb, hcr, hsc, hz, β, hβ, hβ1, hβ2⟩ := hK0
  have o4 := o.2.2.2.1
  have o16 := o.2.1
  have hm : dk_mo 22 := Or.inl rfl
  refine dk_enter [some (.ref 0), some (.int k), some (.int x), some (.int v)] (by decide) (fun _ => rfl) (fun _ => Nat.le_of_ble_eq_true rfl) ?_
  refine w_al0 (n := 1) dX11_change_0 rfl ?_
  refine g_R (n := 4) f_X11_36_11 pl_0 rf_0_1 dX11_change_1 rfl ?_
  refine w_il1 (n := 5) dX11_change_4 rfl ?_
  refine w_cV1 (n := 8) pl_14 cl_10 s0_X10_isPiece k_X11_123 (Nat.le_of_ble_eq_true rfl) dX11_change_5 rfl (c10_isPiece hs o (fun h hh e => ?_) (fun nh => ?_))
  · skip
    subst e
    have h6 : h < 6 := by omega
    refine w_if_ne (n := 11) 13 dX11_change_8 (by decide) rfl (fun _ => ?_) (fun h => absurd h (by decide))
    refine w_il2 (n := 14) dX11_change_13 rfl ?_
    by_cases hs14_1 : x = (nI 1)
    · first | subst hs14_1 | rw [hs14_1]
      refine w_tabIn 44 dX11_change_14 (by decide) (by decide) rfl (by decide) ?_
      refine w_il3 (n := 45) dX11_change_44 rfl ?_
      refine w_iconst (n := 46) (nI 0) dX11_change_45 (by decide) rfl ?_
      refine w_bipush (n := 48) (nI 99) dX11_change_46 (by decide) rfl ?_
      refine w_cS3 (n := 51) s0_X11_within k_X11_112 (Nat.le_of_ble_eq_true rfl) dX11_change_48 rfl (c_within (fun t48 => ?_) (fun t48 => ?_))
      · skip
        refine w_if_eq (n := 54) 72 dX11_change_51 (by decide) rfl (fun h => absurd h (by decide)) (fun _ => ?_)
        refine w_al0 (n := 55) dX11_change_54 rfl ?_
        refine g_R (n := 58) f_X11_36_11 pl_0 rf_0_1 dX11_change_55 rfl ?_
        refine g_R (n := 61) f_X11_127_10 pl_14 rf_14_9 dX11_change_58 rfl ?_
        refine g_R (n := 64) f_X11_133_4 pl_22 rf_22_2 dX11_change_61 rfl ?_
        refine w_il1 (n := 65) dX11_change_64 rfl ?_
        refine w_il3 (n := 66) dX11_change_65 rfl ?_
        have hv := tN_of (n := 99) (by decide) t48.1 t48.2
        rw [hv.1]
        refine w_cS3 (n := 69) s0_X11_replace k_X11_162 (Nat.le_of_ble_eq_true rfl) dX11_change_66 rfl (c_replace pl_23 h6 (by decide) (hc.2.2 h hh) ?_)
        refine w_goto 73 dX11_change_69 (by decide) ?_
        refine w_retI dX11_change_73 rfl ?_
        have e1 : 35 + 5 * h + tN (nI 1) = 36 + 5 * h := by rw [tN_nI (by decide)]; omega
        have ek : kf_change K (nI h) (nI 1) v = _ := (by unfold kf_change; rw [sg_pc_some o4 hh]; exact if_pos (Or.inl ⟨rfl, t48⟩) : _ = (nI (K.1 (35 + 5 * h + tN (nI 1))), (sg_up K.1 (35 + 5 * h + tN (nI 1)) (tN v), K.2)))
        rw [e1] at ek
        exact dk_fin hq ek (hK.mk (hK.1.u_lean h6 hv.2) (cs_23 (hs.eqv (sg_eqv.of (fun j _ h2 _ => sg_up_n (by omega))))) (hc.upl (μ := 22)) (fW (by unfold cW; omega)) (fun j hj => sg_up_n (by omega))) (cW_A (fW (by unfold cW; omega)))
      · skip
        refine w_if_eq (n := 54) 72 dX11_change_51 (by decide) rfl (fun _ => ?_) (fun h => absurd (by decide) h)
        refine w_iconst (n := 73) (-1) dX11_change_72 (by decide) rfl ?_
        refine w_retI dX11_change_73 rfl ?_
        exact dk_fin hq (by unfold kf_change; rw [sg_pc_some o4 hh]; exact if_neg (fun z => by rcases z with z | z | z | z; exact t48 z.2; exact absurd z.1 (by decide); exact absurd z.1 (by decide); exact absurd z.1 (by decide))) hK dk_fr.rf
    by_cases hs14_2 : x = (nI 2)
    · first | subst hs14_2 | rw [hs14_2]
      refine w_tabIn 74 dX11_change_14 (by decide) (by decide) rfl (by decide) ?_
      refine w_il3 (n := 75) dX11_change_74 rfl ?_
      refine w_iconst (n := 76) (nI 0) dX11_change_75 (by decide) rfl ?_
      refine w_bipush (n := 78) (nI 9) dX11_change_76 (by decide) rfl ?_
      refine w_cS3 (n := 81) s0_X11_within k_X11_112 (Nat.le_of_ble_eq_true rfl) dX11_change_78 rfl (c_within (fun t78 => ?_) (fun t78 => ?_))
      · skip
        refine w_if_eq (n := 84) 96 dX11_change_81 (by decide) rfl (fun h => absurd h (by decide)) (fun _ => ?_)
        refine w_al0 (n := 85) dX11_change_84 rfl ?_
        refine g_R (n := 88) f_X11_36_11 pl_0 rf_0_1 dX11_change_85 rfl ?_
        refine w_il1 (n := 89) dX11_change_88 rfl ?_
        refine w_il3 (n := 90) dX11_change_89 rfl ?_
        have hv := tN_of (n := 9) (by decide) t78.1 t78.2
        rw [hv.1]
        refine w_cV2 (n := 93) pl_14 cl_10 s0_X10_setGap k_X11_166 (Nat.le_of_ble_eq_true rfl) dX11_change_90 rfl (c10_setGap h6 (o.kind h6) hv.2 (hs.kind hh) (hs.gap hh) ?_)
        refine w_goto 97 dX11_change_93 (by decide) ?_
        refine w_retI dX11_change_97 rfl ?_
        have e1 : 35 + 5 * h + tN (nI 2) = 37 + 5 * h := by rw [tN_nI (by decide)]; omega
        have ek : kf_change K (nI h) (nI 2) v = _ := (by unfold kf_change; rw [sg_pc_some o4 hh]; exact if_pos (Or.inr (Or.inl ⟨rfl, t78⟩)) : _ = (nI (K.1 (35 + 5 * h + tN (nI 2))), (sg_up K.1 (35 + 5 * h + tN (nI 2)) (tN v), K.2)))
        rw [e1] at ek
        have fr2 : dk_fr cW M (dk_put (dk_put M 16 h (nI (tN v))) 18 h (nI (sg_br (K.1 (35 + 5 * h)) (tN v) h))) := (fW (by unfold cW; omega)).put (by unfold cW; omega)
        exact dk_fin hq ek (hK.mk (hK.1.u_gap h6 hv.2) hs.gapU (hc.cong (sg_up_n (by omega)) (sg_up_n (by omega)) (fun i hi => ⟨sg_up_n (by omega), sg_up_n (by omega)⟩) (fun k => ⟨by rw [dk_put_k (by omega), dk_put_k (by omega)], by rw [dk_put_k (by omega), dk_put_k (by omega)]⟩)) fr2 (fun j hj => sg_up_n (by omega))) (cW_A fr2)
      · skip
        refine w_if_eq (n := 84) 96 dX11_change_81 (by decide) rfl (fun _ => ?_) (fun h => absurd (by decide) h)
        refine w_iconst (n := 97) (-1) dX11_change_96 (by decide) rfl ?_
        refine w_retI dX11_change_97 rfl ?_
        exact dk_fin hq (by unfold kf_change; rw [sg_pc_some o4 hh]; exact if_neg (fun z => by rcases z with z | z | z | z; exact absurd z.1 (by decide); exact t78 z.2; exact absurd z.1 (by decide); exact absurd z.1 (by decide))) hK dk_fr.rf
    by_cases hs14_3 : x = (nI 3)
    · first | subst hs14_3 | rw [hs14_3]
      refine w_tabIn 98 dX11_change_14 (by decide) (by decide) rfl (by decide) ?_
      refine w_il3 (n := 99) dX11_change_98 rfl ?_
      refine w_iconst (n := 100) (nI 0) dX11_change_99 (by decide) rfl ?_
      refine w_iconst (n := 101) (nI 5) dX11_change_100 (by decide) rfl ?_
      refine w_cS3 (n := 104) s0_X11_within k_X11_112 (Nat.le_of_ble_eq_true rfl) dX11_change_101 rfl (c_within (fun t101 => ?_) (fun t101 => ?_))
      · skip
        refine w_if_eq (n := 107) 122 dX11_change_104 (by decide) rfl (fun h => absurd h (by decide)) (fun _ => ?_)
        refine w_al0 (n := 108) dX11_change_107 rfl ?_
        refine g_R (n := 111) f_X11_36_11 pl_0 rf_0_1 dX11_change_108 rfl ?_
        refine g_R (n := 114) f_X11_139_10 pl_14 rf_14_4 dX11_change_111 rfl ?_
        refine w_il1 (n := 115) dX11_change_114 rfl ?_
        refine w_il3 (n := 116) dX11_change_115 rfl ?_
        have hv := tN_of (n := 5) (by decide) t101.1 t101.2
        rw [hv.1]
        refine w_cS3 (n := 119) s0_X11_replace k_X11_162 (Nat.le_of_ble_eq_true rfl) dX11_change_116 rfl (c_replace pl_17 h6 (by decide) (hs.room hh) ?_)
        refine w_goto 123 dX11_change_119 (by decide) ?_
        refine w_retI dX11_change_123 rfl ?_
        have e1 : 35 + 5 * h + tN (nI 3) = 38 + 5 * h := by rw [tN_nI (by decide)]; omega
        have ek : kf_change K (nI h) (nI 3) v = _ := (by unfold kf_change; rw [sg_pc_some o4 hh]; exact if_pos (Or.inr (Or.inr (Or.inl ⟨rfl, t101⟩))) : _ = (nI (K.1 (35 + 5 * h + tN (nI 3))), (sg_up K.1 (35 + 5 * h + tN (nI 3)) (tN v), K.2)))
        rw [e1] at ek
        exact dk_fin hq ek (hK.mk (hK.1.u_room h6 hv.2) (hs.oneU (Or.inl ⟨rfl, rfl⟩)) (hc.cong (sg_up_n (by omega)) (sg_up_n (by omega)) (fun i hi => ⟨sg_up_n (by omega), sg_up_n (by omega)⟩) (fun k => ⟨dk_put_k (by omega), dk_put_k (by omega)⟩)) (fW (by unfold cW; omega)) (fun j hj => sg_up_n (by omega))) (cW_A (fW (by unfold cW; omega)))
      · skip
        refine w_if_eq (n := 107) 122 dX11_change_104 (by decide) rfl (fun _ => ?_) (fun h => absurd (by decide) h)
        refine w_iconst (n := 123) (-1) dX11_change_122 (by decide) rfl ?_
        refine w_retI dX11_change_123 rfl ?_
        exact dk_fin hq (by unfold kf_change; rw [sg_pc_some o4 hh]; exact if_neg (fun z => by rcases z with z | z | z | z; exact absurd z.1 (by decide); exact absurd z.1 (by decide); exact t101 z.2; exact absurd z.1 (by decide))) hK dk_fr.rf
    by_cases hs14_4 : x = (nI 4)
    · first | subst hs14_4 | rw [hs14_4]
      refine w_tabIn 124 dX11_change_14 (by decide) (by decide) rfl (by decide) ?_
      refine w_il3 (n := 125) dX11_change_124 rfl ?_
      refine w_iconst (n := 126) (nI 0) dX11_change_125 (by decide) rfl ?_
      refine w_iconst (n := 127) (nI 1) dX11_change_126 (by decide) rfl ?_
      refine w_cS3 (n := 130) s0_X11_within k_X11_112 (Nat.le_of_ble_eq_true rfl) dX11_change_127 rfl (c_within (fun t127 => ?_) (fun t127 => ?_))
      · skip
        refine w_if_eq (n := 133) 148 dX11_change_130 (by decide) rfl (fun h => absurd h (by decide)) (fun _ => ?_)
        refine w_al0 (n := 134) dX11_change_133 rfl ?_
        refine g_R (n := 137) f_X11_36_11 pl_0 rf_0_1 dX11_change_134 rfl ?_
        refine g_R (n := 140) f_X11_127_10 pl_14 rf_14_9 dX11_change_137 rfl ?_
        refine w_il1 (n := 141) dX11_change_140 rfl ?_
        refine w_il3 (n := 142) dX11_change_141 rfl ?_
        have hv := tN_of (n := 1) (by decide) t127.1 t127.2
        rw [hv.1]
        refine w_cV2 (n := 145) pl_22 cl_4 s0_X4_setFallen k_X11_170 (Nat.le_of_ble_eq_true rfl) dX11_change_142 rfl (c4_setFallen hm hc.2.1 (sg_set_64 o) h6 (by omega) ?_)
        refine w_goto 149 dX11_change_145 (by decide) ?_
        refine w_retI dX11_change_149 rfl ?_
        have e1 : 35 + 5 * h + tN (nI 4) = 39 + 5 * h := by rw [tN_nI (by decide)]; omega
        have ek : kf_change K (nI h) (nI 4) v = _ := (by unfold kf_change; rw [sg_pc_some o4 hh]; exact if_pos (Or.inr (Or.inr (Or.inr ⟨rfl, t127⟩))) : _ = (nI (K.1 (35 + 5 * h + tN (nI 4))), (sg_up K.1 (35 + 5 * h + tN (nI 4)) (tN v), K.2)))
        rw [e1] at ek
        refine dk_q (by rw [sg_set_bv o hh]) (dk_fin hq ek (hK.mk (hK.1.u_fal h6 hv.2) (cs_22 (hs.eqv (sg_eqv.of (fun j _ _ h3 => sg_up_n (by omega))))) (hc.upf o hh hv.2) (fW (by unfold cW; omega)) (fun j hj => sg_up_n (by omega))) (cW_A (fW (by unfold cW; omega))))
      · skip
        refine w_if_eq (n := 133) 148 dX11_change_130 (by decide) rfl (fun _ => ?_) (fun h => absurd (by decide) h)
        refine w_iconst (n := 149) (-1) dX11_change_148 (by decide) rfl ?_
        refine w_retI dX11_change_149 rfl ?_
        exact dk_fin hq (by unfold kf_change; rw [sg_pc_some o4 hh]; exact if_neg (fun z => by rcases z with z | z | z | z; exact absurd z.1 (by decide); exact absurd z.1 (by decide); exact absurd z.1 (by decide); exact t127 z.2)) hK dk_fr.rf
    refine w_tabOut 150 dX11_change_14 (dk_outL1_4 hs14_1 hs14_2 hs14_3 hs14_4) (by decide) ?_
    refine w_iconst (n := 151) (-1) dX11_change_150 (by decide) rfl ?_
    refine w_retI dX11_change_151 rfl ?_
    exact dk_fin hq (by unfold kf_change; rw [sg_pc_some o4 hh]; exact if_neg (fun z => by rcases z with z | z | z | z; exact hs14_1 z.1; exact hs14_2 z.1; exact hs14_3 z.1; exact hs14_4 z.1)) hK dk_fr.rf
  · skip
    refine w_if_ne (n := 11) 13 dX11_change_8 (by decide) rfl (fun h => absurd h (by decide)) (fun _ => ?_)
    refine w_iconst (n := 12) (-1) dX11_change_11 (by decide) rfl ?_
    refine w_retI dX11_change_12 rfl ?_
    exact dk_fin hq (by unfold kf_change; rw [sg_pc_none o4 nh]) hK dk_fr.rf
