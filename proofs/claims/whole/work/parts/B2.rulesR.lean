/-! ===== rules in the reference ===== -/
def rl_I (f : Nat → Int32) (t : py_T) (c L : Nat) : Prop := ∀ r, r < c → t.1 r ≤ 5 ∧ t.2.1 r ≤ 2 ∧ f (89 + 4 * r) = nI (t.1 r) ∧ f (90 + 4 * r) = nI (t.2.1 r) ∧ ∃ a b, a ≤ b ∧ b ≤ L ∧ f (91 + 4 * r) = nI a ∧ f (92 + 4 * r) = nI b ∧ ((a = b ∧ ∀ fe, t.2.2 r fe = true) ∨ sgR f a b 9 (t.2.2 r))
theorem py_tu_s {t : py_T} {c k d : Nat} {s : py_Sm} : (py_tu t c k d s).1 c = k ∧ (py_tu t c k d s).2.1 c = d ∧ (py_tu t c k d s).2.2 c = s := ⟨if_pos rfl, if_pos rfl, if_pos rfl⟩
theorem py_tu_n {t : py_T} {c k d r : Nat} {s : py_Sm} (e : r ≠ c) : (py_tu t c k d s).1 r = t.1 r ∧ (py_tu t c k d s).2.1 r = t.2.1 r ∧ (py_tu t c k d s).2.2 r = t.2.2 r := ⟨if_neg e, if_neg e, if_neg e⟩
theorem rl_I.st {f f' : Nat → Int32} {t : py_T} {c L L2 k d : Nat} {s : py_Sm} (h : rl_I f t c L) (c8_h : c < 8) (hl : L ≤ L2) (he : ∀ j, j ≠ 6 → ¬ (89 + 4 * c ≤ j ∧ j ≤ 92 + 4 * c) → j < 121 + L → f' j = f j) (k5_h : k ≤ 5) (d2_h : d ≤ 2) (e1_h : f' (89 + 4 * c) = nI k) (e2_h : f' (90 + 4 * c) = nI d) (e3_h : f' (91 + 4 * c) = nI L) (e4_h : f' (92 + 4 * c) = nI L2) (hs : (L = L2 ∧ ∀ fe, s fe = true) ∨ sgR f' L L2 9 s) : rl_I f' (py_tu t c k d s) (c + 1) L2 := fun r hr => by
  by_cases e : r = c
  · subst e
    rw [py_tu_s.1, py_tu_s.2.1, py_tu_s.2.2]
    exact ⟨k5_h, d2_h, e1_h, e2_h, L, L2, hl, Nat.le_refl _, e3_h, e4_h, hs⟩
  · obtain ⟨a1_h, a2_h, a3_h, a4_h, a, b, ab, bl, a5_h, a6_h, a7_h⟩ := h r (by omega)
    rw [(py_tu_n e).1, (py_tu_n e).2.1, (py_tu_n e).2.2]
    refine ⟨a1_h, a2_h, (he _ (by omega) (by omega) (by omega)).trans a3_h, (he _ (by omega) (by omega) (by omega)).trans a4_h, a, b, ab, by omega, (he _ (by omega) (by omega) (by omega)).trans a5_h, (he _ (by omega) (by omega) (by omega)).trans a6_h, ?_⟩
    rcases a7_h with z | z
    · exact Or.inl z
    · exact Or.inr (z.ext (fun j u v => he j (by omega) (by omega) (by omega)))
theorem rl_I.A {f : Nat → Int32} {t : py_T} {c L : Nat} (h : rl_I f t c L) (c8_h : c ≤ 8) (hl : L ≤ 200) : rl_A f t.1 t.2.1 t.2.2 c := ⟨c8_h, fun r hr => by
  obtain ⟨a1_h, a2_h, a3_h, a4_h, a, b, ab, bl, a5_h, a6_h, a7_h⟩ := h r hr
  refine ⟨a1_h, a2_h, a3_h, a4_h, a, b, ab, by omega, a5_h, a6_h, ?_⟩
  rcases a7_h with z | z
  · exact Or.inl z
  · exact Or.inr ⟨z.1, fun fe => z.run (by omega) fe⟩⟩
def rRl (q k : Nat) : Prop := (q = 104 ∧ 6 ≤ k ∧ k ≤ 12) ∨ (q = 105 ∧ (k = 6 ∨ 89 ≤ k))
theorem rRf_l {c L : Nat} {M M' : dk_Mem} (h : dk_fr (rRf c L) M M') : dk_fr rRl M M' := h.up (fun q k z => by unfold rRf at z; unfold rRl; omega)

set_option maxRecDepth 20000 in
theorem r_ru36b {d : Nat} {M : dk_Mem} {Q : Option Value → dk_Mem → Prop} (hB : M.1 104 10 = nI 1) (hx : dk_W (d + 17) mX12_rules 59 [some (.ref 104)] [] M Q) : dk_W (d + 17) mX12_rules 36 [some (.ref 104)] [] M Q := by
  refine w_al0 (n := 37) dX12_rules_36 rfl ?_
  refine g_Z (n := 40) f_X12_164_12 pl_104 dX12_rules_37 rfl ?_
  rw [hB]
  refine w_if_ne (n := 43) 59 dX12_rules_40 (by decide) rfl (fun z40_h => ?_) (fun z40_h => ?_)
  · skip
    exact hx
  · skip
    exact absurd z40_h (by decide)

set_option maxRecDepth 20000 in
theorem r_ru56 {d : Nat} {M : dk_Mem} {Q : Option Value → dk_Mem → Prop} (hx : dk_W (d + 17) mX12_rules 36 [some (.ref 104)] [] M Q) : dk_W (d + 17) mX12_rules 56 [some (.ref 104)] [] M Q := by
  refine w_goto 36 dX12_rules_56 (by decide) ?_
  exact hx

set_option maxRecDepth 20000 in
theorem r_ruL {d : Nat} {M : dk_Mem} {Q : Option Value → dk_Mem → Prop} {bt : Nat → Nat} {n : Nat} {R : Bool × Nat × Nat × py_T} (hg : R.1 = true → ∀ M2 L, dk_fr rRl M M2 → M2.1 104 10 = nI 0 → M2.1 105 6 = nI R.2.2.1 → R.2.2.1 ≤ 8 → L ≤ 200 → rl_I (M2.1 105) R.2.2.2 R.2.2.1 L → dk_W (d + 17) mX12_rules 59 [some (.ref 104)] [] M2 Q) (hb : R.1 = false → ∀ M2, dk_fr rRl M M2 → M2.1 104 10 = nI 1 → M2.1 104 7 = nI (tk_b bt n R.2.1) → dk_W (d + 17) mX12_rules 59 [some (.ref 104)] [] M2 Q) : ∀ (f c i L : Nat) (t : py_T) (M1 : dk_Mem), c + f = 9 → c ≤ 8 → dk_fr rRl M M1 → rPS bt n i L 0 M1 → M1.1 105 6 = nI c → rl_I (M1.1 105) t c L → R = py_rs (tk_k bt n) (tk_v bt n) f c i t → dk_W (d + 17) mX12_rules 36 [some (.ref 104)] [] M1 Q := by
  intro f
  induction f with
  | zero => intro c i L t M1 h1_h h2_h; omega
  | succ f ih =>
    intro c i L t M1 h1_h c8_h hf hS h6_h hI hR
    have kl : tk_k bt n i ≤ 26 := lx_k0_le
    rw [py_rs] at hR
    have hli := hS.2.2.2.2.2.1
    have h200_h := hS.2.2.2.2.2.2.1
    refine w_al0 (n := 37) dX12_rules_36 rfl ?_
    refine g_Z (n := 40) f_X12_164_12 pl_104 dX12_rules_37 rfl ?_
    rw [hS.2.2.1]
    refine w_if_ne (n := 43) 59 dX12_rules_40 (by decide) rfl (fun z40_h => ?_) (fun z40_h => ?_)
    · skip
      first | exact absurd rfl z40_h | (have e : tk_k bt n i = 25 := (nI_eq (by omega) (by decide)).mp z49_h; rw [if_pos e] at hR; subst hR; exact hg rfl M1 L hf hS.2.2.1 h6_h c8_h (by omega) hI)
    · skip
      refine w_al0 (n := 44) dX12_rules_43 rfl ?_
      refine g_I (n := 47) f_X12_155_12 pl_104 dX12_rules_44 rfl ?_
      rw [hS.2.1.1]
      refine w_bipush (n := 49) (nI 25) dX12_rules_47 (by decide) rfl ?_
      refine w_ic_eq (n := 52) 59 dX12_rules_49 (by decide) rfl (fun z49_h => ?_) (fun z49_h => ?_)
      · skip
        first | exact absurd rfl z40_h | (have e : tk_k bt n i = 25 := (nI_eq (by omega) (by decide)).mp z49_h; rw [if_pos e] at hR; subst hR; exact hg rfl M1 L hf hS.2.2.1 h6_h c8_h (by omega) hI)
      · skip
        have ne : ¬ tk_k bt n i = 25 := fun z => z49_h (by rw [z])
        rw [if_neg ne] at hR
        refine w_al0 (n := 53) dX12_rules_52 rfl ?_
        refine w_cV0 (n := 56) pl_104 cl_12 s0_X12_ruleHere k_X12_199 (Nat.le_of_ble_eq_true rfl) dX12_rules_53 rfl (r_ruleHere c8_h hS h6_h (fun e8_h M2 q1_h q2_h q3_h => ?_) (fun lt g0_h M2 L2 q1_h q2_h q3_h q4_h q5_h q6_h q7_h q8_h q9_h => ?_) (fun lt g0_h M2 q1_h q2_h q3_h => ?_))
        · rw [if_pos e8_h] at hR
          subst hR
          exact r_ru56 (r_ru36b q2_h (hb rfl M2 (hf.tr (rRf_l q1_h)) q2_h q3_h))
        · rw [if_neg (by omega), if_pos g0_h] at hR
          have ok := py_rule_ok g0_h
          exact r_ru56 (ih (c + 1) _ L2 _ M2 (by omega) (by omega) (hf.tr (rRf_l q1_h)) q2_h q4_h (hI.st lt q3_h (fun j u v w => q1_h.2 105 j (by unfold rRf; omega)) ok.1 ok.2 q5_h q6_h q7_h q8_h q9_h) hR)
        · rw [if_neg (by omega), if_neg (by rw [g0_h]; decide)] at hR
          subst hR
          exact r_ru56 (r_ru36b q2_h (hb rfl M2 (hf.tr (rRf_l q1_h)) q2_h q3_h))

set_option maxRecDepth 20000 in
theorem r_ru59g {d : Nat} {M : dk_Mem} {Q : Option Value → dk_Mem → Prop} (hB : M.1 104 10 = nI 0) {x : Int32} (h6_h : M.1 105 6 = x) (hq : Q (some (.int x)) (dk_put M 104 5 (nI 0))) : dk_W (d + 17) mX12_rules 59 [some (.ref 104)] [] M Q := by
  refine w_al0 (n := 60) dX12_rules_59 rfl ?_
  refine w_iconst (n := 61) (nI 0) dX12_rules_60 (by decide) rfl ?_
  refine p_I (n := 64) f_X12_131_12 pl_104 dX12_rules_61 rfl ?_
  refine w_al0 (n := 65) dX12_rules_64 rfl ?_
  refine g_Z (n := 68) f_X12_164_12 pl_104 dX12_rules_65 rfl ?_
  rw [dk_put_k (by omega), hB]
  refine w_if_eq (n := 71) 83 dX12_rules_68 (by decide) rfl (fun z68_h => ?_) (fun z68_h => ?_)
  · skip
    refine w_al0 (n := 84) dX12_rules_83 rfl ?_
    refine g_R (n := 87) f_X12_9_12 pl_104 rf_104_0 dX12_rules_84 rfl ?_
    refine w_bipush (n := 89) (nI 6) dX12_rules_87 (by decide) rfl ?_
    refine i_iald (n := 90) pl_105 (j := 6) rfl (by decide) (by decide) ((dk_put_k (by omega)).trans h6_h) dX12_rules_89 rfl ?_
    refine w_retI dX12_rules_90 rfl ?_
    exact hq
  · skip
    exact absurd rfl z68_h

set_option maxRecDepth 20000 in
theorem r_ru59b {d : Nat} {M : dk_Mem} {Q : Option Value → dk_Mem → Prop} (hB : M.1 104 10 = nI 1) {b : Nat} (h7_h : M.1 104 7 = nI b) (hq : ∀ X, X = dk_put M 104 5 (nI 0) → Q (some (.int (-100 - nI b))) (dk_row X 105 (dk_cp (X.1 107) (X.1 105) 621))) : dk_W (d + 17) mX12_rules 59 [some (.ref 104)] [] M Q := by
  refine w_al0 (n := 60) dX12_rules_59 rfl ?_
  refine w_iconst (n := 61) (nI 0) dX12_rules_60 (by decide) rfl ?_
  refine p_I (n := 64) f_X12_131_12 pl_104 dX12_rules_61 rfl ?_
  refine w_al0 (n := 65) dX12_rules_64 rfl ?_
  refine g_Z (n := 68) f_X12_164_12 pl_104 dX12_rules_65 rfl ?_
  rw [dk_put_k (by omega), hB]
  refine w_if_eq (n := 71) 83 dX12_rules_68 (by decide) rfl (fun z68_h => ?_) (fun z68_h => ?_)
  · skip
    exact absurd z68_h (by decide)
  · skip
    refine w_al0 (n := 72) dX12_rules_71 rfl ?_
    refine w_cV0 (n := 75) pl_104 cl_12 s0_X12_putsBack k_X12_202 (Nat.le_of_ble_eq_true rfl) dX12_rules_72 rfl (r_putsBack ?_)
    refine w_bipush (n := 77) (-100) dX12_rules_75 (by decide) rfl ?_
    refine w_al0 (n := 78) dX12_rules_77 rfl ?_
    refine g_I (n := 81) f_X12_140_12 pl_104 dX12_rules_78 rfl ?_
    rw [dk_row_k (by decide), dk_put_k (by omega), h7_h]
    refine w_isub (n := 82) dX12_rules_81 rfl ?_
    refine w_retI dX12_rules_82 rfl ?_
    exact hq _ rfl

def rRu (q k : Nat) : Prop := (q = 104 ∧ 5 ≤ k ∧ k ≤ 12) ∨ q = 105 ∨ q = 107
theorem rE_lt {E : sg_E} {M : dk_Mem} (hE : rE E M) (hI : eI E) : rLT (ef_bt E) (tN (E 80)) M := by
  have h80_h := hI.2.2.2.1
  refine ⟨?_, h80_h.2, fun i hi => ?_, fun i => ?_⟩
  · rw [hE.1 104 5 80 (by unfold eL; omega)]; exact h80_h.1
  · have h8_h := h80_h.2
    have hb := hI.2.2.2.2 i (by omega)
    rw [hE.1 108 i (81 + i) (by unfold eL; omega)]
    unfold ef_bt
    rw [if_pos (by omega)]
    exact hb.1
  · unfold ef_bt
    split
    · exact (hI.2.2.2.2 i (by assumption)).2
    · omega
theorem rK.ru {K : sg_K} {M M2 : dk_Mem} (hK : rK K M) {kd dg : Nat → Nat} {sm : Nat → py_Sm} {c : Nat} (h6_h : M2.1 105 6 = nI c) (hA : rl_A (M2.1 105) kd dg sm c) (he : ∀ k, k < 89 → k ≠ 6 → M2.1 105 k = M.1 105 k) : rK (sg_up K.1 6 c, sg_w kd dg sm c, K.2.2) M2 := by
  obtain ⟨a1_h, a2_h, a3_h, a4_h, a5_h⟩ := hK
  refine ⟨a1_h.u_rul hA.1, fun k h1_h h2_h h3_h => ?_, ⟨M2.1 105, ?_, fun k _ _ => rfl⟩, ?_, ?_⟩
  · show M2.1 105 k = nI (sg_up K.1 6 c k)
    by_cases e : k = 6
    · subst e; rw [sg_up_s]; exact h6_h
    · rw [sg_up_n e, he k h1_h e]; exact a2_h k h1_h h2_h h3_h
  · show rb (sg_w kd dg sm c) (sg_up K.1 6 c 6) _
    rw [sg_up_s]
    exact rl_rb hA
  · show M2.1 105 2 = K.2.2.1
    rw [he 2 (by omega) (by omega)]; exact a4_h
  · show M2.1 105 3 = K.2.2.2
    rw [he 3 (by omega) (by omega)]; exact a5_h

set_option maxRecDepth 20000 in
theorem R_rules {d : Nat} {M : dk_Mem} {Q : Option Value → dk_Mem → Prop} {K : sg_K} (hK : rK K M) {E : sg_E} (hE : rE E M) (hI : eI E) (hq : ∀ M2, rK (ef_rules K E).2.1 M2 → rE (ef_rules K E).2.2 M2 → dk_fr rRu M M2 → Q (some (.int (ef_rules K E).1)) M2) : dk_Call (d + 17) mX12_rules [.ref 104] M Q := by
  have hlt := rE_lt hE hI
  obtain ⟨X, hX⟩ : ∃ X, X = (dk_put (dk_put (dk_put (dk_put (dk_put (dk_row M 107 (dk_cp (M.1 105) (M.1 107) 621)) 105 6 (nI 0)) 104 8 (nI 0)) 104 10 (nI 0)) 104 11 (nI 0)) 104 12 (nI 0)) := ⟨_, rfl⟩
  have fX : dk_fr rRu M X := by
    rw [hX]
    refine (((((?_ : dk_fr rRu M _).put (Or.inr (Or.inl rfl))).put (Or.inl ⟨rfl, by omega, by omega⟩)).put (Or.inl ⟨rfl, by omega, by omega⟩)).put (Or.inl ⟨rfl, by omega, by omega⟩)).put (Or.inl ⟨rfl, by omega, by omega⟩)
    exact ⟨rfl, fun q k h => dk_row_k (fun z => h (Or.inr (Or.inr z))) k⟩
  have x5_h : ∀ k, k ≠ 6 → X.1 105 k = M.1 105 k := fun k hk => by rw [hX, dk_put_k (by omega), dk_put_k (by omega), dk_put_k (by omega), dk_put_k (by omega), dk_put_k (by omega), dk_row_k (by decide)]
  have x6_h : X.1 105 6 = nI 0 := by rw [hX, dk_put_k (by omega), dk_put_k (by omega), dk_put_k (by omega), dk_put_k (by omega), dk_put_s]
  have x7_h : ∀ k, k < 621 → X.1 107 k = M.1 105 k := fun k hk => by rw [hX, dk_put_k (by omega), dk_put_k (by omega), dk_put_k (by omega), dk_put_k (by omega), dk_put_k (by omega), dk_row_at]; exact if_pos hk
  have ltX : rLT (ef_bt E) (tN (E 80)) X := ⟨by rw [hX, dk_put_k (by omega), dk_put_k (by omega), dk_put_k (by omega), dk_put_k (by omega), dk_put_k (by omega), dk_row_k (by decide)]; exact hlt.1, hlt.2.1, fun i hi => by rw [fX.2 108 i (by unfold rRu; omega)]; exact hlt.2.2.1 i hi, hlt.2.2.2⟩
  have x8_h : X.1 104 8 = nI 0 := by rw [hX, dk_put_k (by omega), dk_put_k (by omega), dk_put_k (by omega), dk_put_s]
  have x10_h : X.1 104 10 = nI 0 := by rw [hX, dk_put_k (by omega), dk_put_k (by omega), dk_put_s]
  have x11_h : X.1 104 11 = nI 0 := by rw [hX, dk_put_k (by omega), dk_put_s]
  have x12_h : X.1 104 12 = nI 0 := by rw [hX, dk_put_s]
  refine dk_enter [some (.ref 104)] (by decide) (fun _ => rfl) (fun _ => Nat.le_of_ble_eq_true rfl) ?_
  refine w_al0 (n := 1) dX12_rules_0 rfl ?_
  refine w_cV0 (n := 4) pl_104 cl_12 s0_X12_thinks k_X12_196 (Nat.le_of_ble_eq_true rfl) dX12_rules_1 rfl (r_thinks ?_)
  refine w_al0 (n := 5) dX12_rules_4 rfl ?_
  refine g_R (n := 8) f_X12_9_12 pl_104 rf_104_0 dX12_rules_5 rfl ?_
  refine w_bipush (n := 10) (nI 6) dX12_rules_8 (by decide) rfl ?_
  refine w_iconst (n := 11) (nI 0) dX12_rules_10 (by decide) rfl ?_
  refine i_iast (n := 12) pl_105 (j := 6) rfl (by decide) (by decide) dX12_rules_11 rfl ?_
  refine w_al0 (n := 13) dX12_rules_12 rfl ?_
  refine w_iconst (n := 14) (nI 0) dX12_rules_13 (by decide) rfl ?_
  refine p_I (n := 17) f_X12_143_12 pl_104 dX12_rules_14 rfl ?_
  refine w_al0 (n := 18) dX12_rules_17 rfl ?_
  refine w_iconst (n := 19) (nI 0) dX12_rules_18 (by decide) rfl ?_
  refine p_Z (n := 22) (by decide) f_X12_164_12 pl_104 dX12_rules_19 rfl ?_
  refine w_al0 (n := 23) dX12_rules_22 rfl ?_
  refine w_iconst (n := 24) (nI 0) dX12_rules_23 (by decide) rfl ?_
  refine p_I (n := 27) f_X12_177_12 pl_104 dX12_rules_24 rfl ?_
  refine w_al0 (n := 28) dX12_rules_27 rfl ?_
  refine w_iconst (n := 29) (nI 0) dX12_rules_28 (by decide) rfl ?_
  refine p_I (n := 32) f_X12_171_12 pl_104 dX12_rules_29 rfl ?_
  rw [← hX]
  clear hX
  refine w_al0 (n := 33) dX12_rules_32 rfl ?_
  refine w_cV0 (n := 36) pl_104 cl_12 s0_X12_reads k_X12_168 (Nat.le_of_ble_eq_true rfl) dX12_rules_33 rfl (r_reads ltX (i := 0) x8_h (fun M2 g1_h g2_h => ?_))
  have e0_h : ∀ q k, ¬ rLx q k → M2.1 q k = X.1 q k := g1_h.2
  have hS : rPS (ef_bt E) (tN (E 80)) 0 0 0 M2 := ⟨ltX.x g1_h, g2_h, (e0_h 104 10 (by unfold rLx; omega)).trans x10_h, (e0_h 104 11 (by unfold rLx; omega)).trans x11_h, (e0_h 104 12 (by unfold rLx; omega)).trans x12_h, Nat.le_refl _, Nat.zero_le _, Nat.zero_le _⟩
  have f2_h : dk_fr rRu M M2 := fX.tr (g1_h.up (fun q k z => by unfold rLx at z; unfold rRu; omega))
  have lu : ∀ {A B : dk_Mem}, dk_fr rRl A B → dk_fr rRu A B := fun h => h.up (fun q k z => by unfold rRl at z; unfold rRu; omega)
  have hEt : ∀ M3, dk_fr rRu M M3 → M3.1 104 5 = nI 0 → rE (eU E 80 (nI 0)) M3 := fun M3 hf h5_h => ⟨fun q k j hj => by
    by_cases e : q = 104 ∧ k = 5
    · obtain ⟨rfl, rfl⟩ := e
      have ej : j = 80 := by unfold eL at hj; omega
      subst ej
      rw [h5_h]; unfold eU; rw [if_pos rfl]
    · rw [hf.2 q k (by unfold eL at hj; unfold rRu; omega)]
      have ej : j ≠ 80 := by unfold eL at hj; omega
      unfold eU; rw [if_neg ej]; exact hE.1 q k j hj, fun i hi => by rw [hf.1]; unfold eU; rw [if_neg (by omega)]; exact hE.2 i hi⟩
  refine r_ruL (M := M2) (R := ef_R E) (fun g0_h M3 L q1_h q2_h q3_h q4_h q5_h q6_h => ?_) (fun g0_h M3 q1_h q2_h q3_h => ?_) 9 0 0 0 py_t0 M2 rfl (by omega) dk_fr.rf hS ((e0_h 105 6 (by unfold rLx; omega)).trans x6_h) (fun r hr => by omega) rfl
  · unfold ef_rules at hq
    rw [if_pos g0_h] at hq
    have f3_h : dk_fr rRu M (dk_put M3 104 5 (nI 0)) := (f2_h.tr (lu q1_h)).put (Or.inl ⟨rfl, by omega, by omega⟩)
    refine r_ru59g q2_h q3_h (hq _ ?_ (hEt _ f3_h dk_put_s) f3_h)
    have hA := q6_h.A q4_h q5_h
    have e5_h : (dk_put M3 104 5 (nI 0)).1 105 = M3.1 105 := dk_put_ne (by decide)
    refine hK.ru (by rw [e5_h]; exact q3_h) (by rw [e5_h]; exact hA) (fun k h1_h h2_h => ?_)
    rw [e5_h, q1_h.2 105 k (by unfold rRl; omega), e0_h 105 k (by unfold rLx; omega)]
    exact x5_h k h2_h
  · unfold ef_rules at hq
    rw [if_neg (by rw [g0_h]; decide)] at hq
    refine r_ru59b q2_h q3_h (fun Y hY => ?_)
    have y7_h : ∀ k, k < 621 → Y.1 107 k = M.1 105 k := fun k hk => by rw [hY, dk_put_k (by omega), q1_h.2 107 k (by unfold rRl; omega), e0_h 107 k (by unfold rLx; omega)]; exact x7_h k hk
    have fY : dk_fr rRu M Y := by rw [hY]; exact (f2_h.tr (lu q1_h)).put (Or.inl ⟨rfl, by omega, by omega⟩)
    have f4_h : dk_fr rRu M (dk_row Y 105 (dk_cp (Y.1 107) (Y.1 105) 621)) := ⟨fY.1, fun q k hn => by rw [dk_row_k (fun z => hn (Or.inr (Or.inl z)))]; exact fY.2 q k hn⟩
    refine hq _ (hK.row (fun k hk => ?_)) (hEt _ f4_h ?_) f4_h
    · rw [dk_row_at]; unfold dk_cp; rw [if_pos hk]; exact y7_h k hk
    · rw [dk_row_k (by decide), hY, dk_put_s]
