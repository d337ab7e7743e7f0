/-! ===== the component reads a rule ===== -/
def cRf (β c C q k : Nat) : Prop := (q = β ∧ (k = 0 ∨ k = 5 ∨ k = 9)) ∨ ((q = β + 1 ∨ q = β + 2) ∧ k = c) ∨ (q = β + 3 ∧ (k = c ∨ k = c + 1)) ∨ (q = β + 4 ∧ C ≤ k)
theorem cRf_f {β c C C' : Nat} {M M' : dk_Mem} (h : dk_fr (cPf β C') M M') (hl : C ≤ C') : dk_fr (cRf β c C) M M' := h.up (fun q k z => by unfold cPf at z; unfold cRf; omega)
theorem cRf_9 {β c C : Nat} {M M1 : dk_Mem} {x : Int32} (h : dk_fr (cRf β c C) M M1) : dk_fr (cRf β c C) M (dk_put M1 β 9 x) := h.put (Or.inl ⟨rfl, Or.inr (Or.inr rfl)⟩)
theorem cPS.q {β : Nat} {bt : Nat → Nat} {n N i C : Nat} {M : dk_Mem} (h : cPS β bt n N i C M) {q k : Nat} {x : Int32} (hq : (q = β ∧ k = 0) ∨ q = β + 1 ∨ q = β + 2 ∨ q = β + 3) : cPS β bt n N i C (dk_put M q k x) := by
  obtain ⟨h1_h, h2_h, h3_h, h4_h, h5_h⟩ := h
  exact ⟨⟨h1_h.1, h1_h.2.1, fun j hj => by rw [dk_put_k (by omega), dk_put_k (by omega)]; exact h1_h.2.2 j hj⟩, by rw [dk_put_k (by omega)]; exact h2_h, by rw [dk_put_k (by omega)]; exact h3_h, h4_h, h5_h⟩

set_option maxRecDepth 20000 in
theorem c_ru74 {d : Nat} {M M0 : dk_Mem} {Q : Option Value → dk_Mem → Prop} {β : Nat} (hβ : dk_bo β) {bt : Nat → Nat} {n N i j c C C1 : Nat} {s : py_Sm} {x2_h : Option Value} (c8_h : c < 8) (k5_h : tk_k bt n i ≤ 5) (hS : cPS β bt n N j C1 M) (hf : dk_fr (cRf β c C) M0 M) (hl : C ≤ C1) (h0_h : M.1 β 0 = nI c) (hst : M.1 (β + 3) c = nI C) (hs : (C = C1 ∧ ∀ fe, s fe = true) ∨ sgC (M.1 (β + 4)) C C1 9 s) (hg : (py_end (tk_k bt n) i j s).1 = true → ∀ M2 C2, dk_fr (cRf β c C) M0 M2 → cPS β bt n N (py_end (tk_k bt n) i j s).2.1 C2 M2 → C ≤ C2 → M2.1 β 0 = nI (c + 1) → M2.1 (β + 1) c = nI (py_end (tk_k bt n) i j s).2.2.1 → M2.1 (β + 2) c = nI (py_end (tk_k bt n) i j s).2.2.2.1 → M2.1 (β + 3) c = nI C → M2.1 (β + 3) (c + 1) = nI C2 → ((C = C2 ∧ ∀ fe, (py_end (tk_k bt n) i j s).2.2.2.2 fe = true) ∨ sgC (M2.1 (β + 4)) C C2 9 (py_end (tk_k bt n) i j s).2.2.2.2) → Q (some (.int 1)) M2) (hb : (py_end (tk_k bt n) i j s).1 = false → ∀ M2, dk_fr (cRf β c C) M0 M2 → M2.1 β 9 = nI (py_end (tk_k bt n) i j s).2.1 → (py_end (tk_k bt n) i j s).2.1 ≤ N → Q (some (.int 0)) M2) : dk_W (d + 14) mX8_readRule 74 [some (.ref β), some (.int (nI (tk_t bt n i))), x2_h] [] M Q := by
  have tl := tk_tl bt n j
  have sl := ct_do (k := tk_k bt n j) (v := tk_v bt n j) lx_k0_le (fun h => tk_num h) (fun h => tk_sgn h)
  rw [show ct (tk_k bt n j) (tk_v bt n j) = tk_t bt n j from rfl] at sl
  have ti : tk_t bt n i = tk_k bt n i := ct_k5 k5_h
  unfold py_end at hg hb
  refine w_al0 (n := 75) dX8_readRule_74 rfl ?_
  refine g_R (n := 78) f_X8_34_8 (bo_is hβ) (bo_rf2 hβ).2.1 dX8_readRule_75 rfl ?_
  refine w_al0 (n := 79) dX8_readRule_78 rfl ?_
  refine g_I (n := 82) f_X8_40_8 (bo_is hβ) dX8_readRule_79 rfl ?_
  refine i_iald (n := 83) (bo_ar2 hβ).2.1 (j := j) hS.2.1 (by have := hS.2.2.2.2; have := hS.1.1; omega) (by decide) (hS.1.2.2 (j) hS.2.2.2.2).1 dX8_readRule_82 rfl ?_
  refine w_bipush (n := 85) (nI 7) dX8_readRule_83 (by decide) rfl ?_
  refine w_isub (n := 86) dX8_readRule_85 rfl ?_
  refine w_is2 (n := 87) dX8_readRule_86 rfl rfl (by decide) ?_
  refine w_il2 (n := 88) dX8_readRule_87 rfl ?_
  refine w_if_lt (n := 91) 96 dX8_readRule_88 (by decide) rfl (fun z88_h => ?_) (fun z88_h => ?_)
  · skip
    refine w_iconst (n := 97) (nI 0) dX8_readRule_96 (by decide) rfl ?_
    refine w_retZ0 dX8_readRule_97 rfl ?_
    have nk : ¬ (6 ≤ tk_k bt n j ∧ tk_k bt n j ≤ 8) := fun z => by
      have z2_h := sl.1.mpr z
      first | (rw [pk_sub z2_h.1] at z88_h; exact absurd z88_h (nI_lt0 (by omega))) | (rw [pk_sub z2_h.1, q_le (by omega) (by decide)] at z93_h; omega)
    rw [if_neg nk] at hb
    exact hb rfl M hf hS.2.1 hS.2.2.2.2
  · skip
    refine w_il2 (n := 92) dX8_readRule_91 rfl ?_
    refine w_iconst (n := 93) (nI 2) dX8_readRule_92 (by decide) rfl ?_
    refine w_ic_le (n := 96) 98 dX8_readRule_93 (by decide) rfl (fun z93_h => ?_) (fun z93_h => ?_)
    · skip
      have t7_h : 7 ≤ tk_t bt n j := Decidable.byContradiction (fun z => z88_h (pk_sneg (by decide) (by omega)))
      rw [pk_sub t7_h, q_le (by omega) (by decide)] at z93_h
      have kd := sl.1.mp ⟨t7_h, by omega⟩
      have es : nI (tk_t bt n j) - nI 7 = nI (tk_k bt n j - 6) := by rw [pk_sub t7_h, sl.2 kd.1 kd.2, show tk_k bt n j + 1 - 7 = tk_k bt n j - 6 by omega]
      rw [if_pos kd] at hg hb
      refine w_al0 (n := 99) dX8_readRule_98 rfl ?_
      refine w_dup (n := 100) rfl dX8_readRule_99 rfl ?_
      refine g_I (n := 103) f_X8_40_8 (bo_is hβ) dX8_readRule_100 rfl ?_
      rw [hS.2.1]
      refine w_iconst (n := 104) (nI 1) dX8_readRule_103 (by decide) rfl ?_
      refine w_iadd (n := 105) dX8_readRule_104 rfl ?_
      rw [nI_add]
      have hS1 := hS.nx (by omega)
      refine p_I (n := 108) f_X8_40_8 (bo_is hβ) dX8_readRule_105 rfl ?_
      refine w_al0 (n := 109) dX8_readRule_108 rfl ?_
      refine w_bipush (n := 111) (nI 25) dX8_readRule_109 (by decide) rfl ?_
      refine w_cV1 (n := 114) (bo_is hβ) cl_8 s0_X8_passes k_X8_100 (Nat.le_of_ble_eq_true rfl) dX8_readRule_111 rfl (c8_passes (w := 25) (k := 24) hβ hS1 (by decide) (by decide) (tk_te bt n _).2.2.2.1 (fun k2_h hS3 => ?_) (fun k2_h => ?_))
      · skip
        rw [if_pos k2_h] at hg
        dsimp only at hg
        refine w_if_ne (n := 117) 119 dX8_readRule_114 (by decide) rfl (fun _ => ?_) (fun h => absurd h (by decide))
        refine w_al0 (n := 120) dX8_readRule_119 rfl ?_
        refine g_R (n := 123) f_X8_15_8 (bo_is hβ) (bo_rf hβ).1 dX8_readRule_120 rfl ?_
        refine w_al0 (n := 124) dX8_readRule_123 rfl ?_
        refine g_I (n := 127) f_X8_9_8 (bo_is hβ) dX8_readRule_124 rfl ?_
        refine w_il1 (n := 128) dX8_readRule_127 rfl ?_
        rw [ti]
        refine i_iast (n := 129) (bo_ar hβ).1 (j := c) (by rw [dk_put_k (by omega), dk_put_k (by omega), h0_h]) (by omega) (by decide) dX8_readRule_128 rfl ?_
        refine w_al0 (n := 130) dX8_readRule_129 rfl ?_
        refine g_R (n := 133) f_X8_19_8 (bo_is hβ) (bo_rf hβ).2.1 dX8_readRule_130 rfl ?_
        refine w_al0 (n := 134) dX8_readRule_133 rfl ?_
        refine g_I (n := 137) f_X8_9_8 (bo_is hβ) dX8_readRule_134 rfl ?_
        refine w_il2 (n := 138) dX8_readRule_137 rfl ?_
        rw [es]
        refine i_iast (n := 139) (bo_ar hβ).2.1 (j := c) (by rw [dk_put_k (by omega), dk_put_k (by omega), dk_put_k (by omega), h0_h]) (by omega) (by decide) dX8_readRule_138 rfl ?_
        refine w_al0 (n := 140) dX8_readRule_139 rfl ?_
        refine w_dup (n := 141) rfl dX8_readRule_140 rfl ?_
        refine g_I (n := 144) f_X8_9_8 (bo_is hβ) dX8_readRule_141 rfl ?_
        rw [dk_put_k (by omega), dk_put_k (by omega), dk_put_k (by omega), dk_put_k (by omega), h0_h]
        refine w_iconst (n := 145) (nI 1) dX8_readRule_144 (by decide) rfl ?_
        refine w_iadd (n := 146) dX8_readRule_145 rfl ?_
        rw [nI_add]
        refine p_I (n := 149) f_X8_9_8 (bo_is hβ) dX8_readRule_146 rfl ?_
        refine w_al0 (n := 150) dX8_readRule_149 rfl ?_
        refine g_R (n := 153) f_X8_22_8 (bo_is hβ) (bo_rf hβ).2.2.1 dX8_readRule_150 rfl ?_
        refine w_al0 (n := 154) dX8_readRule_153 rfl ?_
        refine g_I (n := 157) f_X8_9_8 (bo_is hβ) dX8_readRule_154 rfl ?_
        rw [dk_put_s]
        refine w_al0 (n := 158) dX8_readRule_157 rfl ?_
        refine g_I (n := 161) f_X8_28_8 (bo_is hβ) dX8_readRule_158 rfl ?_
        rw [dk_put_k (by omega), dk_put_k (by omega), dk_put_k (by omega), dk_put_k (by omega), dk_put_k (by omega), hS.2.2.1]
        refine i_iast (n := 162) (bo_ar hβ).2.2.1 (j := c + 1) rfl (by omega) (by decide) dX8_readRule_161 rfl ?_
        refine w_iconst (n := 163) (nI 1) dX8_readRule_162 (by decide) rfl ?_
        refine w_retZ1 dX8_readRule_163 rfl ?_
        have e4_h : ∀ k, (dk_put (dk_put (dk_put (dk_put (dk_put (dk_put M β 9 (nI (j + 1))) β 9 (nI (j + 1 + 1))) (β + 1) c (nI (tk_k bt n i))) (β + 2) c (nI (tk_k bt n j - 6))) β 0 (nI (c + 1))) (β + 3) (c + 1) (nI C1)).1 (β + 4) k = M.1 (β + 4) k := fun k => by rw [dk_put_k (by omega), dk_put_k (by omega), dk_put_k (by omega), dk_put_k (by omega), dk_put_k (by omega), dk_put_k (by omega)]
        refine hg rfl _ C1 (((((cRf_9 (cRf_9 hf)).put (Or.inr (Or.inl ⟨Or.inl rfl, rfl⟩))).put (Or.inr (Or.inl ⟨Or.inr rfl, rfl⟩))).put (Or.inl ⟨rfl, Or.inl rfl⟩)).put (Or.inr (Or.inr (Or.inl ⟨rfl, Or.inr rfl⟩)))) ((((hS3.q (by omega)).q (by omega)).q (by omega)).q (by omega)) hl ?_ ?_ ?_ ?_ ?_ ?_
        · rw [dk_put_k (by omega), dk_put_s]
        · rw [dk_put_k (by omega), dk_put_k (by omega), dk_put_k (by omega), dk_put_s]
        · rw [dk_put_k (by omega), dk_put_k (by omega), dk_put_s]
        · rw [dk_put_k (by omega), dk_put_k (by omega), dk_put_k (by omega), dk_put_k (by omega), dk_put_k (by omega), dk_put_k (by omega)]; exact hst
        · rw [dk_put_s]
        · rcases hs with hs | hs
          · exact Or.inl hs
          · exact Or.inr (hs.ext (fun k u v => e4_h k))
      · skip
        rw [if_neg k2_h] at hb
        refine w_if_ne (n := 117) 119 dX8_readRule_114 (by decide) rfl (fun h => absurd h (by decide)) (fun _ => ?_)
        refine w_iconst (n := 118) (nI 0) dX8_readRule_117 (by decide) rfl ?_
        refine w_retZ0 dX8_readRule_118 rfl ?_
        exact hb rfl _ (cRf_9 hf) hS1.2.1 hS1.2.2.2.2
    · skip
      refine w_iconst (n := 97) (nI 0) dX8_readRule_96 (by decide) rfl ?_
      refine w_retZ0 dX8_readRule_97 rfl ?_
      have nk : ¬ (6 ≤ tk_k bt n j ∧ tk_k bt n j ≤ 8) := fun z => by
        have z2_h := sl.1.mpr z
        first | (rw [pk_sub z2_h.1] at z88_h; exact absurd z88_h (nI_lt0 (by omega))) | (rw [pk_sub z2_h.1, q_le (by omega) (by decide)] at z93_h; omega)
      rw [if_neg nk] at hb
      exact hb rfl M hf hS.2.1 hS.2.2.2.2

set_option maxRecDepth 20000 in
theorem c8_readRule {d : Nat} {M : dk_Mem} {Q : Option Value → dk_Mem → Prop} {β : Nat} (hβ : dk_bo β) {bt : Nat → Nat} {n N i c C : Nat} (c8_h : c < 8) (hS : cPS β bt n N i C M) (h0_h : M.1 β 0 = nI c) (hg : (py_rule (tk_k bt n) (tk_v bt n) i).1 = true → ∀ M2 C2, dk_fr (cRf β c C) M M2 → cPS β bt n N (py_rule (tk_k bt n) (tk_v bt n) i).2.1 C2 M2 → C ≤ C2 → M2.1 β 0 = nI (c + 1) → M2.1 (β + 1) c = nI (py_rule (tk_k bt n) (tk_v bt n) i).2.2.1 → M2.1 (β + 2) c = nI (py_rule (tk_k bt n) (tk_v bt n) i).2.2.2.1 → M2.1 (β + 3) c = nI C → M2.1 (β + 3) (c + 1) = nI C2 → ((C = C2 ∧ ∀ fe, (py_rule (tk_k bt n) (tk_v bt n) i).2.2.2.2 fe = true) ∨ sgC (M2.1 (β + 4)) C C2 9 (py_rule (tk_k bt n) (tk_v bt n) i).2.2.2.2) → Q (some (.int 1)) M2) (hb : (py_rule (tk_k bt n) (tk_v bt n) i).1 = false → ∀ M2, dk_fr (cRf β c C) M M2 → M2.1 β 9 = nI (py_rule (tk_k bt n) (tk_v bt n) i).2.1 → (py_rule (tk_k bt n) (tk_v bt n) i).2.1 ≤ N → Q (some (.int 0)) M2) : dk_Call (d + 14) mX8_readRule [.ref β] M Q := by
  have tl := tk_tl bt n i
  have tl1_h := tk_tl bt n (i + 1)
  have te := (tk_te bt n i).2.2.2.2.2.2.2.2
  have te1_h := (tk_te bt n (i + 1)).2.2.2.2.2.2.2.1
  unfold py_rule at hg hb
  refine dk_enter [some (.ref β), none, none] (by decide) (fun _ => rfl) (fun _ => Nat.le_of_ble_eq_true rfl) ?_
  refine w_al0 (n := 1) dX8_readRule_0 rfl ?_
  refine g_R (n := 4) f_X8_34_8 (bo_is hβ) (bo_rf2 hβ).2.1 dX8_readRule_1 rfl ?_
  refine w_al0 (n := 5) dX8_readRule_4 rfl ?_
  refine g_I (n := 8) f_X8_40_8 (bo_is hβ) dX8_readRule_5 rfl ?_
  refine i_iald (n := 9) (bo_ar2 hβ).2.1 (j := i) hS.2.1 (by have := hS.2.2.2.2; have := hS.1.1; omega) (by decide) (hS.1.2.2 (i) hS.2.2.2.2).1 dX8_readRule_8 rfl ?_
  refine w_is1 (n := 10) dX8_readRule_9 rfl rfl (by decide) ?_
  refine w_il1 (n := 11) dX8_readRule_10 rfl ?_
  refine w_iconst (n := 12) (nI 5) dX8_readRule_11 (by decide) rfl ?_
  refine w_ic_le (n := 15) 17 dX8_readRule_12 (by decide) rfl (fun z12_h => ?_) (fun z12_h => ?_)
  · skip
    rw [q_le (by omega) (by decide)] at z12_h
    have k5_h := te.mp z12_h
    rw [if_pos k5_h] at hg hb
    refine w_al0 (n := 18) dX8_readRule_17 rfl ?_
    refine w_dup (n := 19) rfl dX8_readRule_18 rfl ?_
    refine g_I (n := 22) f_X8_40_8 (bo_is hβ) dX8_readRule_19 rfl ?_
    rw [hS.2.1]
    refine w_iconst (n := 23) (nI 1) dX8_readRule_22 (by decide) rfl ?_
    refine w_iadd (n := 24) dX8_readRule_23 rfl ?_
    rw [nI_add]
    have hS1 := hS.nx (by omega)
    have h0a : (dk_put M β 9 (nI (i + 1))).1 β 0 = nI c := by rw [dk_put_k (by omega)]; exact h0_h
    refine p_I (n := 27) f_X8_40_8 (bo_is hβ) dX8_readRule_24 rfl ?_
    refine w_al0 (n := 28) dX8_readRule_27 rfl ?_
    refine g_R (n := 31) f_X8_22_8 (bo_is hβ) (bo_rf hβ).2.2.1 dX8_readRule_28 rfl ?_
    refine w_al0 (n := 32) dX8_readRule_31 rfl ?_
    refine g_I (n := 35) f_X8_9_8 (bo_is hβ) dX8_readRule_32 rfl ?_
    refine w_al0 (n := 36) dX8_readRule_35 rfl ?_
    refine g_I (n := 39) f_X8_28_8 (bo_is hβ) dX8_readRule_36 rfl ?_
    rw [hS1.2.2.1]
    have hS2 : cPS β bt n N (i + 1) C (dk_put (dk_put M β 9 (nI (i + 1))) (β + 3) c (nI C)) := hS1.q (by omega)
    have f2_h : dk_fr (cRf β c C) M (dk_put (dk_put M β 9 (nI (i + 1))) (β + 3) c (nI C)) := (cRf_9 dk_fr.rf).put (Or.inr (Or.inr (Or.inl ⟨rfl, Or.inl rfl⟩)))
    refine i_iast (n := 40) (bo_ar hβ).2.2.1 (j := c) h0a (by omega) (by decide) dX8_readRule_39 rfl ?_
    refine w_al0 (n := 41) dX8_readRule_40 rfl ?_
    refine g_R (n := 44) f_X8_34_8 (bo_is hβ) (bo_rf2 hβ).2.1 dX8_readRule_41 rfl ?_
    refine w_al0 (n := 45) dX8_readRule_44 rfl ?_
    refine g_I (n := 48) f_X8_40_8 (bo_is hβ) dX8_readRule_45 rfl ?_
    refine i_iald (n := 49) (bo_ar2 hβ).2.1 (j := i + 1) hS2.2.1 (by have := hS2.2.2.2.2; have := hS2.1.1; omega) (by decide) (hS2.1.2.2 (i + 1) hS2.2.2.2.2).1 dX8_readRule_48 rfl ?_
    refine w_bipush (n := 51) (nI 6) dX8_readRule_49 (by decide) rfl ?_
    refine w_ic_ne (n := 54) 74 dX8_readRule_51 (by decide) rfl (fun z51_h => ?_) (fun z51_h => ?_)
    · skip
      first | (have k14_h : ¬ tk_k bt n (i + 1) = 14 := (fun z => z51_h (by rw [te1_h.mpr z])); rw [if_neg k14_h] at hg hb; exact c_ru74 hβ c8_h k5_h hS2 f2_h (Nat.le_refl _) (by rw [dk_put_k (by omega)]; exact h0a) dk_put_s (Or.inl ⟨rfl, fun _ => rfl⟩) hg hb) | exact c_ru74 hβ c8_h k5_h g2_h ((cRf_9 f2_h).tr (cRf_f g1_h (Nat.le_refl _))) (Nat.le_of_lt g4_h.1) (by rw [g1_h.2 β 0 (by unfold cPf; omega), dk_put_k (by omega), dk_put_k (by omega)]; exact h0a) (by rw [g1_h.2 (β + 3) c (by unfold cPf; omega), dk_put_k (by omega), dk_put_s]) (Or.inr g4_h) hg hb
    · skip
      refine w_al0 (n := 55) dX8_readRule_54 rfl ?_
      refine w_dup (n := 56) rfl dX8_readRule_55 rfl ?_
      refine g_I (n := 59) f_X8_40_8 (bo_is hβ) dX8_readRule_56 rfl ?_
      rw [hS2.2.1]
      refine w_iconst (n := 60) (nI 1) dX8_readRule_59 (by decide) rfl ?_
      refine w_iadd (n := 61) dX8_readRule_60 rfl ?_
      rw [nI_add]
      rw [nI_eq (by omega) (by decide)] at z51_h
      have k14_h := te1_h.mp z51_h
      rw [if_pos k14_h] at hg hb
      have hS3 := hS2.nx (by omega)
      refine p_I (n := 64) f_X8_40_8 (bo_is hβ) dX8_readRule_61 rfl ?_
      refine w_al0 (n := 65) dX8_readRule_64 rfl ?_
      refine w_iconst (n := 66) (nI 0) dX8_readRule_65 (by decide) rfl ?_
      refine w_cV1 (n := 69) (bo_is hβ) cl_8 s0_X8_readCondition k_X8_97 (Nat.le_of_ble_eq_true rfl) dX8_readRule_66 rfl (c_cond hβ 3 0 d rfl (i + 1 + 1) C _ _ hS3 (fun g0_h M3 C1 g1_h g2_h g3_h g4_h => ?_) (fun g0_h M3 g1_h g2_h g3_h => ?_))
      · skip
        have g0b : (py_c3 (tk_k bt n) (tk_v bt n) (i + 2)).1 = true := g0_h
        rw [if_pos g0b] at hg hb
        refine w_if_ne (n := 72) 74 dX8_readRule_69 (by decide) rfl (fun _ => ?_) (fun h => absurd h (by decide))
        first | (have k14_h : ¬ tk_k bt n (i + 1) = 14 := (fun z => z51_h (by rw [te1_h.mpr z])); rw [if_neg k14_h] at hg hb; exact c_ru74 hβ c8_h k5_h hS2 f2_h (Nat.le_refl _) (by rw [dk_put_k (by omega)]; exact h0a) dk_put_s (Or.inl ⟨rfl, fun _ => rfl⟩) hg hb) | exact c_ru74 hβ c8_h k5_h g2_h ((cRf_9 f2_h).tr (cRf_f g1_h (Nat.le_refl _))) (Nat.le_of_lt g4_h.1) (by rw [g1_h.2 β 0 (by unfold cPf; omega), dk_put_k (by omega), dk_put_k (by omega)]; exact h0a) (by rw [g1_h.2 (β + 3) c (by unfold cPf; omega), dk_put_k (by omega), dk_put_s]) (Or.inr g4_h) hg hb
      · skip
        have g0b : (py_c3 (tk_k bt n) (tk_v bt n) (i + 2)).1 = false := g0_h
        rw [if_neg (by rw [g0b]; decide)] at hb
        refine w_if_ne (n := 72) 74 dX8_readRule_69 (by decide) rfl (fun h => absurd h (by decide)) (fun _ => ?_)
        refine w_iconst (n := 73) (nI 0) dX8_readRule_72 (by decide) rfl ?_
        refine w_retZ0 dX8_readRule_73 rfl ?_
        exact hb rfl M3 ((cRf_9 f2_h).tr (cRf_f g1_h (Nat.le_refl _))) g2_h g3_h
  · skip
    refine w_iconst (n := 16) (nI 0) dX8_readRule_15 (by decide) rfl ?_
    refine w_retZ0 dX8_readRule_16 rfl ?_
    rw [q_le (by omega) (by decide)] at z12_h
    rw [if_neg (fun z => z12_h (te.mpr z))] at hb
    exact hb rfl M dk_fr.rf hS.2.1 hS.2.2.2.2

/-! ===== the component reads a text ===== -/
def cl_I (β : Nat) (M : dk_Mem) (t : py_T) (c C : Nat) : Prop := (0 < c → M.1 (β + 3) c = nI C) ∧ ∀ r, r < c → t.1 r ≤ 5 ∧ t.2.1 r ≤ 2 ∧ M.1 (β + 1) r = nI (t.1 r) ∧ M.1 (β + 2) r = nI (t.2.1 r) ∧ ∃ a b, a ≤ b ∧ b ≤ C ∧ M.1 (β + 3) r = nI a ∧ M.1 (β + 3) (r + 1) = nI b ∧ ((a = b ∧ ∀ fe, t.2.2 r fe = true) ∨ sgC (M.1 (β + 4)) a b 9 (t.2.2 r))
theorem cl_I.st {β : Nat} {M M2 : dk_Mem} {t : py_T} {c C C2 k d : Nat} {s : py_Sm} (h : cl_I β M t c C) (hC : C ≤ 200) (hl : C ≤ C2) (hf : dk_fr (cRf β c C) M M2) (k5_h : k ≤ 5) (d2_h : d ≤ 2) (e1_h : M2.1 (β + 1) c = nI k) (e2_h : M2.1 (β + 2) c = nI d) (e3_h : M2.1 (β + 3) c = nI C) (e4_h : M2.1 (β + 3) (c + 1) = nI C2) (hs : (C = C2 ∧ ∀ fe, s fe = true) ∨ sgC (M2.1 (β + 4)) C C2 9 s) : cl_I β M2 (py_tu t c k d s) (c + 1) C2 := ⟨fun _ => e4_h, fun r hr => by
  by_cases e : r = c
  · subst e
    rw [py_tu_s.1, py_tu_s.2.1, py_tu_s.2.2]
    exact ⟨k5_h, d2_h, e1_h, e2_h, C, C2, hl, Nat.le_refl _, e3_h, e4_h, hs⟩
  · obtain ⟨a1_h, a2_h, a3_h, a4_h, a, b, ab, bl, a5_h, a6_h, a7_h⟩ := h.2 r (by omega)
    rw [(py_tu_n e).1, (py_tu_n e).2.1, (py_tu_n e).2.2]
    refine ⟨a1_h, a2_h, (hf.2 _ _ (by unfold cRf; omega)).trans a3_h, (hf.2 _ _ (by unfold cRf; omega)).trans a4_h, a, b, ab, by omega, (hf.2 _ _ (by unfold cRf; omega)).trans a5_h, ?_, ?_⟩
    · by_cases e9_h : r + 1 = c
      · rw [e9_h] at a6_h ⊢
        have eb : b = C := (nI_eq (by omega) (by omega)).mp (a6_h.symm.trans (h.1 (by omega)))
        rw [eb]; exact e3_h
      · exact (hf.2 _ _ (by unfold cRf; omega)).trans a6_h
    · rcases a7_h with z | z
      · exact Or.inl z
      · exact Or.inr (z.ext (fun j u v => hf.2 _ _ (by unfold cRf; omega)))⟩
theorem cl_I.A {β : Nat} {M : dk_Mem} {t : py_T} {c C : Nat} (h : cl_I β M t c C) (c8_h : c ≤ 8) (hl : C ≤ 200) (h0_h : M.1 β 0 = nI c) (h5_h : M.1 β 5 = nI C) : cl_A (fun j k => M.1 (β + j) k) t.1 t.2.1 t.2.2 c := ⟨c8_h, h0_h, C, hl, h5_h, fun r hr => by
  obtain ⟨a1_h, a2_h, a3_h, a4_h, a, b, ab, bl, a5_h, a6_h, a7_h⟩ := h.2 r hr
  refine ⟨a1_h, a2_h, a3_h, a4_h, a, b, ab, bl, a5_h, a6_h, ?_⟩
  rcases a7_h with z | z
  · exact Or.inl z
  · exact Or.inr ⟨z.1, fun fe => z.run (by omega) fe⟩⟩
def cRl (β q k : Nat) : Prop := β ≤ q ∧ q ≤ β + 7
theorem cRf_l {β c C : Nat} {M M' : dk_Mem} (h : dk_fr (cRf β c C) M M') : dk_fr (cRl β) M M' := h.up (fun q k z => by unfold cRf at z; unfold cRl; omega)

set_option maxRecDepth 20000 in
theorem c_rtL {d : Nat} {M : dk_Mem} {Q : Option Value → dk_Mem → Prop} {β : Nat} (hβ : dk_bo β) {bt : Nat → Nat} {n N : Nat} {R : Bool × Nat × Nat × py_T} (hg : R.1 = true → ∀ M2 C, dk_fr (cRl β) M M2 → M2.1 β 0 = nI R.2.2.1 → R.2.2.1 ≤ 8 → C ≤ 200 → M2.1 β 5 = nI C → cl_I β M2 R.2.2.2 R.2.2.1 C → Q (some (.int (nI R.2.2.1))) M2) (hb : R.1 = false → ∀ M2, dk_fr (cRl β) M M2 → Q (some (.int (-100 - nI (tk_b bt n R.2.1)))) M2) : ∀ (f c i C : Nat) (t : py_T) (M1 : dk_Mem), c + f = 9 → c ≤ 8 → dk_fr (cRl β) M M1 → cPS β bt n N i C M1 → M1.1 β 0 = nI c → cl_I β M1 t c C → R = py_rs (tk_k bt n) (tk_v bt n) f c i t → dk_W (d + 15) mX8_readText 23 [some (.ref β), some (.ref 81), some (.int (nI n)), some (.int (nI c))] [] M1 Q := by
  intro f
  induction f with
  | zero => intro c i C t M1 h1_h h2_h; omega
  | succ f ih =>
    intro c i C t M1 h1_h c8_h hf hS h0_h hI hR
    have tl := tk_tl bt n i
    have te := (tk_te bt n i).2.2.2.2.1
    rw [py_rs] at hR
    have h5_h := hS.2.2.2.2
    have h6_h := hS.1.1
    have h4_h := hS.2.2.2.1
    refine w_il3 (n := 24) dX8_readText_23 rfl ?_
    refine w_bipush (n := 26) (nI 8) dX8_readText_24 (by decide) rfl ?_
    refine w_ic_ge (n := 29) 69 dX8_readText_26 (by decide) rfl (fun z26_h => ?_) (fun z26_h => ?_)
    · skip
      refine w_al0 (n := 70) dX8_readText_69 rfl ?_
      refine g_R (n := 73) f_X8_34_8 (bo_is hβ) (bo_rf2 hβ).2.1 dX8_readText_70 rfl ?_
      refine w_al0 (n := 74) dX8_readText_73 rfl ?_
      refine g_I (n := 77) f_X8_40_8 (bo_is hβ) dX8_readText_74 rfl ?_
      refine i_iald (n := 78) (bo_ar2 hβ).2.1 (j := i) hS.2.1 (by have := hS.2.2.2.2; have := hS.1.1; omega) (by decide) (hS.1.2.2 (i) hS.2.2.2.2).1 dX8_readText_77 rfl ?_
      refine w_bipush (n := 80) (nI 27) dX8_readText_78 (by decide) rfl ?_
      refine w_ic_ne (n := 83) 90 dX8_readText_80 (by decide) rfl (fun z80_h => ?_) (fun z80_h => ?_)
      · skip
        refine w_bipush (n := 92) (-100) dX8_readText_90 (by decide) rfl ?_
        refine w_al0 (n := 93) dX8_readText_92 rfl ?_
        refine g_R (n := 96) f_X8_37_8 (bo_is hβ) (bo_rf2 hβ).2.2 dX8_readText_93 rfl ?_
        refine w_al0 (n := 97) dX8_readText_96 rfl ?_
        refine g_I (n := 100) f_X8_40_8 (bo_is hβ) dX8_readText_97 rfl ?_
        refine i_iald (n := 101) (bo_ar2 hβ).2.2 (j := i) hS.2.1 (by omega) (by decide) (hS.1.2.2 i h5_h).2 dX8_readText_100 rfl ?_
        refine w_isub (n := 102) dX8_readText_101 rfl ?_
        refine w_retI dX8_readText_102 rfl ?_
        first | (have k25_h : tk_k bt n i = 25 := te.mp ((nI_eq (by omega) (by decide)).mp (Decidable.byContradiction (fun w => z80_h w))); rw [if_pos k25_h] at hR; subst hR; exact hg rfl M1 C hf h0_h c8_h (by omega) hS.2.2.1 hI) | (have k25_h : tk_k bt n i = 25 := te.mp ((nI_eq (by omega) (by decide)).mp z80_h); rw [if_pos k25_h] at hR; subst hR; exact hg rfl M1 C hf h0_h c8_h (by omega) hS.2.2.1 hI) | (exfalso; exact z80_h z40_h) | (have ne : ¬ tk_k bt n i = 25 := (fun z => z80_h (by rw [te.mpr z])); rw [q_le (by decide) (by omega)] at z26_h; rw [if_neg ne, if_pos (by omega)] at hR; subst hR; exact hb rfl M1 hf)
      · skip
        refine w_al0 (n := 84) dX8_readText_83 rfl ?_
        refine g_I (n := 87) f_X8_9_8 (bo_is hβ) dX8_readText_84 rfl ?_
        rw [h0_h]
        refine w_goto 102 dX8_readText_87 (by decide) ?_
        refine w_retI dX8_readText_102 rfl ?_
        first | (have k25_h : tk_k bt n i = 25 := te.mp ((nI_eq (by omega) (by decide)).mp (Decidable.byContradiction (fun w => z80_h w))); rw [if_pos k25_h] at hR; subst hR; exact hg rfl M1 C hf h0_h c8_h (by omega) hS.2.2.1 hI) | (have k25_h : tk_k bt n i = 25 := te.mp ((nI_eq (by omega) (by decide)).mp z80_h); rw [if_pos k25_h] at hR; subst hR; exact hg rfl M1 C hf h0_h c8_h (by omega) hS.2.2.1 hI) | (exfalso; exact z80_h z40_h) | (have ne : ¬ tk_k bt n i = 25 := (fun z => z80_h (by rw [te.mpr z])); rw [q_le (by decide) (by omega)] at z26_h; rw [if_neg ne, if_pos (by omega)] at hR; subst hR; exact hb rfl M1 hf)
    · skip
      refine w_al0 (n := 30) dX8_readText_29 rfl ?_
      refine g_R (n := 33) f_X8_34_8 (bo_is hβ) (bo_rf2 hβ).2.1 dX8_readText_30 rfl ?_
      refine w_al0 (n := 34) dX8_readText_33 rfl ?_
      refine g_I (n := 37) f_X8_40_8 (bo_is hβ) dX8_readText_34 rfl ?_
      refine i_iald (n := 38) (bo_ar2 hβ).2.1 (j := i) hS.2.1 (by have := hS.2.2.2.2; have := hS.1.1; omega) (by decide) (hS.1.2.2 (i) hS.2.2.2.2).1 dX8_readText_37 rfl ?_
      refine w_bipush (n := 40) (nI 27) dX8_readText_38 (by decide) rfl ?_
      refine w_ic_eq (n := 43) 69 dX8_readText_40 (by decide) rfl (fun z40_h => ?_) (fun z40_h => ?_)
      · skip
        refine w_al0 (n := 70) dX8_readText_69 rfl ?_
        refine g_R (n := 73) f_X8_34_8 (bo_is hβ) (bo_rf2 hβ).2.1 dX8_readText_70 rfl ?_
        refine w_al0 (n := 74) dX8_readText_73 rfl ?_
        refine g_I (n := 77) f_X8_40_8 (bo_is hβ) dX8_readText_74 rfl ?_
        refine i_iald (n := 78) (bo_ar2 hβ).2.1 (j := i) hS.2.1 (by have := hS.2.2.2.2; have := hS.1.1; omega) (by decide) (hS.1.2.2 (i) hS.2.2.2.2).1 dX8_readText_77 rfl ?_
        refine w_bipush (n := 80) (nI 27) dX8_readText_78 (by decide) rfl ?_
        refine w_ic_ne (n := 83) 90 dX8_readText_80 (by decide) rfl (fun z80_h => ?_) (fun z80_h => ?_)
        · skip
          refine w_bipush (n := 92) (-100) dX8_readText_90 (by decide) rfl ?_
          refine w_al0 (n := 93) dX8_readText_92 rfl ?_
          refine g_R (n := 96) f_X8_37_8 (bo_is hβ) (bo_rf2 hβ).2.2 dX8_readText_93 rfl ?_
          refine w_al0 (n := 97) dX8_readText_96 rfl ?_
          refine g_I (n := 100) f_X8_40_8 (bo_is hβ) dX8_readText_97 rfl ?_
          refine i_iald (n := 101) (bo_ar2 hβ).2.2 (j := i) hS.2.1 (by omega) (by decide) (hS.1.2.2 i h5_h).2 dX8_readText_100 rfl ?_
          refine w_isub (n := 102) dX8_readText_101 rfl ?_
          refine w_retI dX8_readText_102 rfl ?_
          first | (have k25_h : tk_k bt n i = 25 := te.mp ((nI_eq (by omega) (by decide)).mp (Decidable.byContradiction (fun w => z80_h w))); rw [if_pos k25_h] at hR; subst hR; exact hg rfl M1 C hf h0_h c8_h (by omega) hS.2.2.1 hI) | (have k25_h : tk_k bt n i = 25 := te.mp ((nI_eq (by omega) (by decide)).mp z80_h); rw [if_pos k25_h] at hR; subst hR; exact hg rfl M1 C hf h0_h c8_h (by omega) hS.2.2.1 hI) | (exfalso; exact z80_h z40_h) | (have ne : ¬ tk_k bt n i = 25 := (fun z => z80_h (by rw [te.mpr z])); rw [q_le (by decide) (by omega)] at z26_h; rw [if_neg ne, if_pos (by omega)] at hR; subst hR; exact hb rfl M1 hf)
        · skip
          refine w_al0 (n := 84) dX8_readText_83 rfl ?_
          refine g_I (n := 87) f_X8_9_8 (bo_is hβ) dX8_readText_84 rfl ?_
          rw [h0_h]
          refine w_goto 102 dX8_readText_87 (by decide) ?_
          refine w_retI dX8_readText_102 rfl ?_
          first | (have k25_h : tk_k bt n i = 25 := te.mp ((nI_eq (by omega) (by decide)).mp (Decidable.byContradiction (fun w => z80_h w))); rw [if_pos k25_h] at hR; subst hR; exact hg rfl M1 C hf h0_h c8_h (by omega) hS.2.2.1 hI) | (have k25_h : tk_k bt n i = 25 := te.mp ((nI_eq (by omega) (by decide)).mp z80_h); rw [if_pos k25_h] at hR; subst hR; exact hg rfl M1 C hf h0_h c8_h (by omega) hS.2.2.1 hI) | (exfalso; exact z80_h z40_h) | (have ne : ¬ tk_k bt n i = 25 := (fun z => z80_h (by rw [te.mpr z])); rw [q_le (by decide) (by omega)] at z26_h; rw [if_neg ne, if_pos (by omega)] at hR; subst hR; exact hb rfl M1 hf)
      · skip
        rw [q_le (by decide) (by omega)] at z26_h
        have c7_h : c < 8 := by omega
        have ne : ¬ tk_k bt n i = 25 := fun z => z40_h (by rw [te.mpr z])
        rw [if_neg ne, if_neg (by omega)] at hR
        refine w_al0 (n := 44) dX8_readText_43 rfl ?_
        refine w_cV0 (n := 47) (bo_is hβ) cl_8 s0_X8_readRule k_X8_57 (Nat.le_of_ble_eq_true rfl) dX8_readText_44 rfl (c8_readRule hβ c7_h hS h0_h (fun g0_h M3 C2 q1_h q2_h q3_h q4_h q5_h q6_h q7_h q8_h q9_h => ?_) (fun g0_h M3 g1_h g2_h g3_h => ?_))
        · skip
          rw [if_pos g0_h] at hR
          refine w_if_ne (n := 50) 63 dX8_readText_47 (by decide) rfl (fun _ => ?_) (fun h => absurd h (by decide))
          refine w_inc3 (n := 66) (nI 1) dX8_readText_63 (by decide) rfl rfl (by decide) ?_
          refine w_goto 23 dX8_readText_66 (by decide) ?_
          rw [nI_add]
          have ok := py_rule_ok g0_h
          exact ih (c + 1) _ C2 _ M3 (by omega) (by omega) (hf.tr (cRf_l q1_h)) q2_h q4_h (hI.st (by omega) q3_h q1_h ok.1 ok.2 q5_h q6_h q7_h q8_h q9_h) hR
        · skip
          rw [if_neg (by rw [g0_h]; decide)] at hR
          subst hR
          refine w_if_ne (n := 50) 63 dX8_readText_47 (by decide) rfl (fun h => absurd h (by decide)) (fun _ => ?_)
          refine w_bipush (n := 52) (-100) dX8_readText_50 (by decide) rfl ?_
          refine w_al0 (n := 53) dX8_readText_52 rfl ?_
          refine g_R (n := 56) f_X8_37_8 (bo_is hβ) (bo_rf2 hβ).2.2 dX8_readText_53 rfl ?_
          refine w_al0 (n := 57) dX8_readText_56 rfl ?_
          refine g_I (n := 60) f_X8_40_8 (bo_is hβ) dX8_readText_57 rfl ?_
          refine i_iald (n := 61) (bo_ar2 hβ).2.2 (j := (py_rule (tk_k bt n) (tk_v bt n) i).2.1) g2_h (by omega) (by decide) ((g1_h.2 _ _ (by unfold cRf; omega)).trans (hS.1.2.2 _ g3_h).2) dX8_readText_60 rfl ?_
          refine w_isub (n := 62) dX8_readText_61 rfl ?_
          refine w_retI dX8_readText_62 rfl ?_
          exact hb rfl M3 (hf.tr (cRf_l g1_h))

set_option maxRecDepth 20000 in
theorem c8_readText {d : Nat} {M : dk_Mem} {Q : Option Value → dk_Mem → Prop} {β : Nat} (hβ : dk_bo β) {bt : Nat → Nat} {n : Nat} (hL : cLT bt n M) {R : Bool × Nat × Nat × py_T} (hR : R = py_rs (tk_k bt n) (tk_v bt n) 9 0 0 py_t0) (hg : R.1 = true → ∀ M2 C, dk_fr (cRl β) M M2 → M2.1 β 0 = nI R.2.2.1 → R.2.2.1 ≤ 8 → C ≤ 200 → M2.1 β 5 = nI C → cl_I β M2 R.2.2.2 R.2.2.1 C → Q (some (.int (nI R.2.2.1))) M2) (hb : R.1 = false → ∀ M2, dk_fr (cRl β) M M2 → Q (some (.int (-100 - nI (tk_b bt n R.2.1)))) M2) : dk_Call (d + 15) mX8_readText [.ref β, .ref 81, .int (nI n)] M Q := by
  refine dk_enter [some (.ref β), some (.ref 81), some (.int (nI n)), none] (by decide) (fun _ => rfl) (fun _ => Nat.le_of_ble_eq_true rfl) ?_
  refine w_al0 (n := 1) dX8_readText_0 rfl ?_
  refine w_al1 (n := 2) dX8_readText_1 rfl ?_
  refine w_il2 (n := 3) dX8_readText_2 rfl ?_
  refine w_cV2 (n := 6) (bo_is hβ) cl_8 s0_X8_split k_X8_53 (Nat.le_of_ble_eq_true rfl) dX8_readText_3 rfl (c8_split (d := d + 7) hβ hL (fun M2 N g1_h g2_h => ?_))
  refine w_al0 (n := 7) dX8_readText_6 rfl ?_
  refine w_iconst (n := 8) (nI 0) dX8_readText_7 (by decide) rfl ?_
  refine p_I (n := 11) f_X8_40_8 (bo_is hβ) dX8_readText_8 rfl ?_
  refine w_al0 (n := 12) dX8_readText_11 rfl ?_
  refine w_iconst (n := 13) (nI 0) dX8_readText_12 (by decide) rfl ?_
  refine p_I (n := 16) f_X8_9_8 (bo_is hβ) dX8_readText_13 rfl ?_
  refine w_al0 (n := 17) dX8_readText_16 rfl ?_
  refine w_iconst (n := 18) (nI 0) dX8_readText_17 (by decide) rfl ?_
  refine p_I (n := 21) f_X8_28_8 (bo_is hβ) dX8_readText_18 rfl ?_
  refine w_iconst (n := 22) (nI 0) dX8_readText_21 (by decide) rfl ?_
  refine w_is3 (n := 23) dX8_readText_22 rfl rfl (by decide) ?_
  have f2_h : dk_fr (cRl β) M (dk_put (dk_put (dk_put M2 β 9 (nI 0)) β 0 (nI 0)) β 5 (nI 0)) := (((g1_h.up (fun q k z => by unfold cSp at z; unfold cRl; omega)).put ⟨by omega, by omega⟩).put ⟨by omega, by omega⟩).put ⟨by omega, by omega⟩
  have hS : cPS β bt n N 0 0 (dk_put (dk_put (dk_put M2 β 9 (nI 0)) β 0 (nI 0)) β 5 (nI 0)) := ⟨⟨g2_h.1, g2_h.2.1, fun j hj => by rw [dk_put_k (by omega), dk_put_k (by omega), dk_put_k (by omega), dk_put_k (by omega), dk_put_k (by omega), dk_put_k (by omega)]; exact g2_h.2.2 j hj⟩, by rw [dk_put_k (by omega), dk_put_k (by omega), dk_put_s], dk_put_s, Nat.le_refl _, Nat.zero_le _⟩
  exact c_rtL hβ hg hb 9 0 0 0 py_t0 _ rfl (by omega) f2_h hS (by rw [dk_put_k (by omega), dk_put_s]) ⟨fun h => by omega, fun r hr => by omega⟩ hR
