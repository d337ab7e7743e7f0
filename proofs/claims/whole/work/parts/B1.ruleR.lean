/-! ===== a rule, all rules: pure ===== -/
abbrev py_U : Type := Bool × Nat × Nat × Nat × py_Sm
abbrev py_T : Type := (Nat → Nat) × (Nat → Nat) × (Nat → py_Sm)
def py_end (kk : Nat → Nat) (i j : Nat) (s : py_Sm) : py_U := if 6 ≤ kk j ∧ kk j ≤ 8 then (if kk (j + 1) = 24 then (true, j + 2, kk i, kk j - 6, s) else (false, j + 1, 0, 0, py_no)) else (false, j, 0, 0, py_no)
def py_c3 (kk vv : Nat → Nat) : Nat → py_R := py_cnd kk vv (py_sub kk vv 3)
def py_rule (kk vv : Nat → Nat) (i : Nat) : py_U := if kk i ≤ 5 then (if kk (i + 1) = 14 then (if (py_c3 kk vv (i + 2)).1 = true then py_end kk i (py_c3 kk vv (i + 2)).2.1 (py_c3 kk vv (i + 2)).2.2 else (false, (py_c3 kk vv (i + 2)).2.1, 0, 0, py_no)) else py_end kk i (i + 1) (fun _ => true)) else (false, i, 0, 0, py_no)
def py_tu (t : py_T) (c k d : Nat) (s : py_Sm) : py_T := (fun r => if r = c then k else t.1 r, fun r => if r = c then d else t.2.1 r, fun r => if r = c then s else t.2.2 r)
def py_rs (kk vv : Nat → Nat) : Nat → Nat → Nat → py_T → Bool × Nat × Nat × py_T
  | 0, c, i, t => (false, i, c, t)
  | f + 1, c, i, t => if kk i = 25 then (true, i, c, t) else if c = 8 then (false, i, c, t) else if (py_rule kk vv i).1 = true then py_rs kk vv f (c + 1) (py_rule kk vv i).2.1 (py_tu t c (py_rule kk vv i).2.2.1 (py_rule kk vv i).2.2.2.1 (py_rule kk vv i).2.2.2.2) else (false, (py_rule kk vv i).2.1, c, t)
def py_t0 : py_T := (fun _ => 0, fun _ => 0, fun _ => py_no)
def ef_bt (E : sg_E) (i : Nat) : Nat := if i < 200 then tN (E (81 + i)) else 0
def ef_R (E : sg_E) : Bool × Nat × Nat × py_T := py_rs (tk_k (ef_bt E) (tN (E 80))) (tk_v (ef_bt E) (tN (E 80))) 9 0 0 py_t0
def ef_rules (K : sg_K) (E : sg_E) : Int32 × sg_K × sg_E := if (ef_R E).1 = true then (nI (ef_R E).2.2.1, (sg_up K.1 6 (ef_R E).2.2.1, sg_w (ef_R E).2.2.2.1 (ef_R E).2.2.2.2.1 (ef_R E).2.2.2.2.2 (ef_R E).2.2.1, K.2.2), eU E 80 (nI 0)) else (-100 - nI (tk_b (ef_bt E) (tN (E 80)) (ef_R E).2.1), K, eU E 80 (nI 0))
theorem py_end_ok {kk : Nat → Nat} {i j : Nat} {s : py_Sm} (h : (py_end kk i j s).1 = true) : (6 ≤ kk j ∧ kk j ≤ 8) ∧ kk (j + 1) = 24 ∧ py_end kk i j s = (true, j + 2, kk i, kk j - 6, s) := by
  unfold py_end at h ⊢
  by_cases h1_h : 6 ≤ kk j ∧ kk j ≤ 8
  · rw [if_pos h1_h] at h ⊢
    by_cases h2_h : kk (j + 1) = 24
    · rw [if_pos h2_h]; exact ⟨h1_h, h2_h, rfl⟩
    · rw [if_neg h2_h] at h; cases h
  · rw [if_neg h1_h] at h; cases h
theorem py_rule_ok {kk vv : Nat → Nat} {i : Nat} (h : (py_rule kk vv i).1 = true) : (py_rule kk vv i).2.2.1 ≤ 5 ∧ (py_rule kk vv i).2.2.2.1 ≤ 2 := by
  unfold py_rule at h ⊢
  by_cases h1_h : kk i ≤ 5
  · rw [if_pos h1_h] at h ⊢
    by_cases h2_h : kk (i + 1) = 14
    · rw [if_pos h2_h] at h ⊢
      by_cases h3_h : (py_c3 kk vv (i + 2)).1 = true
      · rw [if_pos h3_h] at h ⊢
        obtain ⟨a, b, e⟩ := py_end_ok h
        rw [e]
        exact ⟨h1_h, by show _ - 6 ≤ 2; omega⟩
      · rw [if_neg h3_h] at h; cases h
    · rw [if_neg h2_h] at h ⊢
      obtain ⟨a, b, e⟩ := py_end_ok h
      rw [e]
      exact ⟨h1_h, by show _ - 6 ≤ 2; omega⟩
  · rw [if_neg h1_h] at h; cases h
/-! ===== ruleHere ===== -/
def rRf (c L q k : Nat) : Prop := (q = 104 ∧ 6 ≤ k ∧ k ≤ 12) ∨ (q = 105 ∧ (k = 6 ∨ (89 + 4 * c ≤ k ∧ k ≤ 92 + 4 * c) ∨ 121 + L ≤ k))
theorem rRf_f {c L L' : Nat} {M M' : dk_Mem} (h : dk_fr (rPf L') M M') (hl : L ≤ L') : dk_fr (rRf c L) M M' := h.up (fun q k z => by unfold rPf at z; unfold rRf; omega)
theorem rRf_q {c L k : Nat} {M M1 : dk_Mem} {x : Int32} (h : dk_fr (rRf c L) M M1) (hk : k = 6 ∨ (89 + 4 * c ≤ k ∧ k ≤ 92 + 4 * c)) : dk_fr (rRf c L) M (dk_put M1 105 k x) := h.put (Or.inr ⟨rfl, by omega⟩)
theorem rPS.q {bt : Nat → Nat} {n i L o : Nat} {M : dk_Mem} (h : rPS bt n i L o M) {k : Nat} {x : Int32} : rPS bt n i L o (dk_put M 105 k x) := by
  obtain ⟨h1_h, h2_h, h3_h, h4_h, h5_h, h6_h, h7_h, h8_h⟩ := h
  exact ⟨⟨by rw [dk_put_k (by omega)]; exact h1_h.1, h1_h.2.1, fun i hi => by rw [dk_put_k (by omega)]; exact h1_h.2.2.1 i hi, h1_h.2.2.2⟩, h2_h.o (fun k a b => dk_put_k (by omega)), by rw [dk_put_k (by omega)]; exact h3_h, by rw [dk_put_k (by omega)]; exact h4_h, by rw [dk_put_k (by omega)]; exact h5_h, h6_h, h7_h, h8_h⟩

set_option maxRecDepth 20000 in
theorem r_rh153 {d : Nat} {M M0 : dk_Mem} {Q : Option Value → dk_Mem → Prop} {bt : Nat → Nat} {n j c L L1 : Nat} (c8_h : c < 8) (hS : rPS bt n j L1 0 M) (hf : dk_fr (rRf c L) M0 M) (h6_h : M.1 105 6 = nI c) (hg : tk_k bt n (j + 1) = 24 → ∀ M2, dk_fr (rRf c L) M0 M2 → rPS bt n (j + 2) L1 0 M2 → M2.1 105 6 = nI (c + 1) → (∀ k, k ≠ 6 → M2.1 105 k = M.1 105 k) → Q none M2) (hb : tk_k bt n (j + 1) ≠ 24 → ∀ M2, dk_fr (rRf c L) M0 M2 → M2.1 104 10 = nI 1 → M2.1 104 7 = nI (tk_b bt n (j + 1)) → Q none M2) (hk9_h : tk_k bt n j ≠ 25) : dk_W (d + 4) mX12_ruleHere 153 [some (.ref 104), some (.int (nI (89 + 4 * c)))] [] M Q := by
  refine w_al0 (n := 154) dX12_ruleHere_153 rfl ?_
  refine w_cV0 (n := 157) pl_104 cl_12 s0_X12_reads k_X12_168 (Nat.le_of_ble_eq_true rfl) dX12_ruleHere_154 rfl (r_reads hS.1 (i := j + 1) hS.2.1.2.2.1 (fun M2 g1_h g2_h => ?_))
  have hS2 := hS.nx hk9_h g1_h g2_h
  have f2_h : dk_fr (rRf c L) M0 M2 := hf.tr (rRf_f (rPf_x (L := L) g1_h) (Nat.le_refl _))
  refine w_al0 (n := 158) dX12_ruleHere_157 rfl ?_
  refine w_al0 (n := 159) dX12_ruleHere_158 rfl ?_
  refine w_bipush (n := 161) (nI 24) dX12_ruleHere_159 (by decide) rfl ?_
  refine w_cV1 (n := 164) pl_104 cl_12 s0_X12_passes k_X12_174 (Nat.le_of_ble_eq_true rfl) dX12_ruleHere_161 rfl (r_passes hS2 (w := 24) (by decide) (fun k1_h M3 f1_h hS3 => ?_) (fun k1_h => ?_))
  · skip
    have f3_h : dk_fr (rRf c L) M0 M3 := f2_h.tr (rRf_f (rPf_x (L := L) f1_h) (Nat.le_refl _))
    have e5_h : ∀ k, (dk_put M3 104 10 (nI 0)).1 105 k = M.1 105 k := fun k => by rw [dk_put_k (by omega), f1_h.2 105 k (by unfold rLx; omega)]; exact g1_h.2 105 k (by unfold rLx; omega)
    have e6_h := (e5_h 6).trans h6_h
    refine w_if_ne (n := 167) 171 dX12_ruleHere_164 (by decide) rfl (fun _ => ?_) (fun h => absurd h (by decide))
    refine w_iconst (n := 172) (nI 0) dX12_ruleHere_171 (by decide) rfl ?_
    refine p_Z (n := 175) (by decide) f_X12_164_12 pl_104 dX12_ruleHere_172 rfl ?_
    refine w_al0 (n := 176) dX12_ruleHere_175 rfl ?_
    refine g_R (n := 179) f_X12_9_12 pl_104 rf_104_0 dX12_ruleHere_176 rfl ?_
    refine w_bipush (n := 181) (nI 6) dX12_ruleHere_179 (by decide) rfl ?_
    refine w_dup2 (n := 182) rfl rfl dX12_ruleHere_181 rfl ?_
    refine i_iald (n := 183) pl_105 (j := 6) rfl (by decide) (by decide) e6_h dX12_ruleHere_182 rfl ?_
    refine w_iconst (n := 184) (nI 1) dX12_ruleHere_183 (by decide) rfl ?_
    refine w_iadd (n := 185) dX12_ruleHere_184 rfl ?_
    rw [nI_add]
    refine i_iast (n := 186) pl_105 (j := 6) rfl (by decide) (by decide) dX12_ruleHere_185 rfl ?_
    refine w_ret dX12_ruleHere_186 rfl ?_
    first | exact hg k1_h _ (rRf_q (f3_h.put (Or.inl ⟨rfl, by omega, by omega⟩)) (Or.inl rfl)) hS3.b0.q dk_put_s (fun k hk => by rw [dk_put_k (by omega)]; exact e5_h k) | exact hb k1_h _ (rRf_q (f2_h.put (Or.inl ⟨rfl, by omega, by omega⟩)) (Or.inl rfl)) (by rw [dk_put_k (by omega), dk_put_s]) (by rw [dk_put_k (by omega), dk_put_k (by omega)]; exact hS2.2.1.2.1)
  · skip
    have e5_h : ∀ k, (dk_put M2 104 10 (nI 1)).1 105 k = M.1 105 k := fun k => by rw [dk_put_k (by omega)]; exact g1_h.2 105 k (by unfold rLx; omega)
    have e6_h := (e5_h 6).trans h6_h
    refine w_if_ne (n := 167) 171 dX12_ruleHere_164 (by decide) rfl (fun h => absurd h (by decide)) (fun _ => ?_)
    refine w_iconst (n := 168) (nI 1) dX12_ruleHere_167 (by decide) rfl ?_
    refine w_goto 172 dX12_ruleHere_168 (by decide) ?_
    refine p_Z (n := 175) (by decide) f_X12_164_12 pl_104 dX12_ruleHere_172 rfl ?_
    refine w_al0 (n := 176) dX12_ruleHere_175 rfl ?_
    refine g_R (n := 179) f_X12_9_12 pl_104 rf_104_0 dX12_ruleHere_176 rfl ?_
    refine w_bipush (n := 181) (nI 6) dX12_ruleHere_179 (by decide) rfl ?_
    refine w_dup2 (n := 182) rfl rfl dX12_ruleHere_181 rfl ?_
    refine i_iald (n := 183) pl_105 (j := 6) rfl (by decide) (by decide) e6_h dX12_ruleHere_182 rfl ?_
    refine w_iconst (n := 184) (nI 1) dX12_ruleHere_183 (by decide) rfl ?_
    refine w_iadd (n := 185) dX12_ruleHere_184 rfl ?_
    rw [nI_add]
    refine i_iast (n := 186) pl_105 (j := 6) rfl (by decide) (by decide) dX12_ruleHere_185 rfl ?_
    refine w_ret dX12_ruleHere_186 rfl ?_
    first | exact hg k1_h _ (rRf_q (f3_h.put (Or.inl ⟨rfl, by omega, by omega⟩)) (Or.inl rfl)) hS3.b0.q dk_put_s (fun k hk => by rw [dk_put_k (by omega)]; exact e5_h k) | exact hb k1_h _ (rRf_q (f2_h.put (Or.inl ⟨rfl, by omega, by omega⟩)) (Or.inl rfl)) (by rw [dk_put_k (by omega), dk_put_s]) (by rw [dk_put_k (by omega), dk_put_k (by omega)]; exact hS2.2.1.2.1)

set_option maxRecDepth 20000 in
theorem r_rh89 {d : Nat} {M M0 : dk_Mem} {Q : Option Value → dk_Mem → Prop} {bt : Nat → Nat} {n i j c L L1 : Nat} {s : py_Sm} (c8_h : c < 8) (hS : rPS bt n j L1 0 M) (hf : dk_fr (rRf c L) M0 M) (hl : L ≤ L1) (h6_h : M.1 105 6 = nI c) (hk : M.1 105 (89 + 4 * c) = nI (tk_k bt n i)) (hst : M.1 105 (91 + 4 * c) = nI L) (hs : (L = L1 ∧ ∀ fe, s fe = true) ∨ sgR (M.1 105) L L1 9 s) (hg : (py_end (tk_k bt n) i j s).1 = true → ∀ M2 L2, dk_fr (rRf c L) M0 M2 → rPS bt n (py_end (tk_k bt n) i j s).2.1 L2 0 M2 → L ≤ L2 → M2.1 105 6 = nI (c + 1) → M2.1 105 (89 + 4 * c) = nI (py_end (tk_k bt n) i j s).2.2.1 → M2.1 105 (90 + 4 * c) = nI (py_end (tk_k bt n) i j s).2.2.2.1 → M2.1 105 (91 + 4 * c) = nI L → M2.1 105 (92 + 4 * c) = nI L2 → ((L = L2 ∧ ∀ fe, (py_end (tk_k bt n) i j s).2.2.2.2 fe = true) ∨ sgR (M2.1 105) L L2 9 (py_end (tk_k bt n) i j s).2.2.2.2) → Q none M2) (hb : (py_end (tk_k bt n) i j s).1 = false → ∀ M2, dk_fr (rRf c L) M0 M2 → M2.1 104 10 = nI 1 → M2.1 104 7 = nI (tk_b bt n (py_end (tk_k bt n) i j s).2.1) → Q none M2) : dk_W (d + 4) mX12_ruleHere 89 [some (.ref 104), some (.int (nI (89 + 4 * c)))] [] M Q := by
  have kl : tk_k bt n j ≤ 26 := lx_k0_le
  have h200_h := hS.2.2.2.2.2.2.1
  unfold py_end at hg hb
  have hS2 : rPS bt n j L1 0 (dk_put (dk_put M 105 (89 + 4 * c + 3) (nI L1)) 105 (89 + 4 * c + 1) (nI (tk_k bt n j) - nI 6)) := hS.q.q
  have f2_h : dk_fr (rRf c L) M0 (dk_put (dk_put M 105 (89 + 4 * c + 3) (nI L1)) 105 (89 + 4 * c + 1) (nI (tk_k bt n j) - nI 6)) := rRf_q (rRf_q hf (by omega)) (by omega)
  refine w_al0 (n := 90) dX12_ruleHere_89 rfl ?_
  refine g_R (n := 93) f_X12_9_12 pl_104 rf_104_0 dX12_ruleHere_90 rfl ?_
  refine w_il1 (n := 94) dX12_ruleHere_93 rfl ?_
  refine w_iconst (n := 95) (nI 3) dX12_ruleHere_94 (by decide) rfl ?_
  refine w_iadd (n := 96) dX12_ruleHere_95 rfl ?_
  refine w_al0 (n := 97) dX12_ruleHere_96 rfl ?_
  refine g_I (n := 100) f_X12_171_12 pl_104 dX12_ruleHere_97 rfl ?_
  rw [hS.2.2.2.2.1]
  refine i_iast (n := 101) pl_105 (j := 89 + 4 * c + 3) (by rw [nI_add]) (by omega) (by decide) dX12_ruleHere_100 rfl ?_
  refine w_al0 (n := 102) dX12_ruleHere_101 rfl ?_
  refine g_R (n := 105) f_X12_9_12 pl_104 rf_104_0 dX12_ruleHere_102 rfl ?_
  refine w_il1 (n := 106) dX12_ruleHere_105 rfl ?_
  refine w_iconst (n := 107) (nI 1) dX12_ruleHere_106 (by decide) rfl ?_
  refine w_iadd (n := 108) dX12_ruleHere_107 rfl ?_
  refine w_al0 (n := 109) dX12_ruleHere_108 rfl ?_
  refine g_I (n := 112) f_X12_155_12 pl_104 dX12_ruleHere_109 rfl ?_
  rw [hS.q.2.1.1]
  refine w_bipush (n := 114) (nI 6) dX12_ruleHere_112 (by decide) rfl ?_
  refine w_isub (n := 115) dX12_ruleHere_114 rfl ?_
  refine i_iast (n := 116) pl_105 (j := 89 + 4 * c + 1) (by rw [nI_add]) (by omega) (by decide) dX12_ruleHere_115 rfl ?_
  refine w_al0 (n := 117) dX12_ruleHere_116 rfl ?_
  refine w_al0 (n := 118) dX12_ruleHere_117 rfl ?_
  refine g_Z (n := 121) f_X12_164_12 pl_104 dX12_ruleHere_118 rfl ?_
  rw [hS2.2.2.1]
  refine w_if_ne (n := 124) 138 dX12_ruleHere_121 (by decide) rfl (fun z121_h => ?_) (fun z121_h => ?_)
  · skip
    refine w_iconst (n := 139) (nI 1) dX12_ruleHere_138 (by decide) rfl ?_
    refine w_goto 143 dX12_ruleHere_139 (by decide) ?_
    refine p_Z (n := 146) (by decide) f_X12_164_12 pl_104 dX12_ruleHere_143 rfl ?_
    refine w_al0 (n := 147) dX12_ruleHere_146 rfl ?_
    refine g_Z (n := 150) f_X12_164_12 pl_104 dX12_ruleHere_147 rfl ?_
    rw [dk_put_s]
    refine w_if_ne (n := 153) 186 dX12_ruleHere_150 (by decide) rfl (fun z150_h => ?_) (fun z150_h => ?_)
    · skip
      refine w_ret dX12_ruleHere_186 rfl ?_
      first | exact absurd rfl z121_h | exact absurd rfl z150_h | (rw [q_in2 (by omega) (by decide) (by decide)] at t132_h; rw [if_neg t132_h] at hb; exact hb rfl _ (f2_h.put (Or.inl ⟨rfl, by omega, by omega⟩)) dk_put_s (by rw [dk_put_k (by omega)]; exact hS2.2.1.2.1))
    · skip
      first | exact absurd rfl z121_h | exact absurd z150_h (by decide) | (rw [q_in2 (by omega) (by decide) (by decide)] at t132_h; rw [if_pos t132_h] at hg hb; have hS3 := hS2.b0; have f3_h : dk_fr (rRf c L) M0 (dk_put (dk_put (dk_put M 105 (89 + 4 * c + 3) (nI L1)) 105 (89 + 4 * c + 1) (nI (tk_k bt n j) - nI 6)) 104 10 (nI 0)) := f2_h.put (Or.inl ⟨rfl, (by omega), (by omega)⟩); exact r_rh153 c8_h hS3 f3_h (by rw [dk_put_k (by omega), dk_put_k (by omega), dk_put_k (by omega)]; exact h6_h) (fun k9_h M9 a b e6_h eo => by rw [if_pos k9_h] at hg; refine hg rfl M9 L1 a b hl e6_h ?_ ?_ ?_ ?_ ?_; (rw [eo _ (by omega), dk_put_k (by omega), dk_put_k (by omega), dk_put_k (by omega)]; exact hk); (rw [eo _ (by omega), dk_put_k (by omega), show 90 + 4 * c = 89 + 4 * c + 1 by omega, dk_put_s]; exact pk_sub t132_h.1); (rw [eo _ (by omega), dk_put_k (by omega), dk_put_k (by omega), dk_put_k (by omega)]; exact hst); (rw [eo _ (by omega), dk_put_k (by omega), dk_put_k (by omega), show 92 + 4 * c = 89 + 4 * c + 3 by omega, dk_put_s]); (rcases hs with hs | hs; exact Or.inl hs; exact Or.inr (hs.ext (fun k u v => by rw [eo k (by omega), dk_put_k (by omega), dk_put_k (by omega), dk_put_k (by omega)])))) (fun k9_h M9 a b e => by rw [if_neg k9_h] at hb; exact hb rfl M9 a b e) (by omega))
  · skip
    refine w_al0 (n := 125) dX12_ruleHere_124 rfl ?_
    refine g_I (n := 128) f_X12_155_12 pl_104 dX12_ruleHere_125 rfl ?_
    rw [hS2.2.1.1]
    refine w_bipush (n := 130) (nI 6) dX12_ruleHere_128 (by decide) rfl ?_
    refine w_bipush (n := 132) (nI 8) dX12_ruleHere_130 (by decide) rfl ?_
    refine w_cS3 (n := 135) s0_X12_in k_X12_61 (Nat.le_of_ble_eq_true rfl) dX12_ruleHere_132 rfl (r_in (fun t132_h => ?_) (fun t132_h => ?_))
    · skip
      refine w_if_ne (n := 138) 142 dX12_ruleHere_135 (by decide) rfl (fun _ => ?_) (fun h => absurd h (by decide))
      refine w_iconst (n := 143) (nI 0) dX12_ruleHere_142 (by decide) rfl ?_
      refine p_Z (n := 146) (by decide) f_X12_164_12 pl_104 dX12_ruleHere_143 rfl ?_
      refine w_al0 (n := 147) dX12_ruleHere_146 rfl ?_
      refine g_Z (n := 150) f_X12_164_12 pl_104 dX12_ruleHere_147 rfl ?_
      rw [dk_put_s]
      refine w_if_ne (n := 153) 186 dX12_ruleHere_150 (by decide) rfl (fun z150_h => ?_) (fun z150_h => ?_)
      · skip
        refine w_ret dX12_ruleHere_186 rfl ?_
        first | exact absurd rfl z121_h | exact absurd rfl z150_h | (rw [q_in2 (by omega) (by decide) (by decide)] at t132_h; rw [if_neg t132_h] at hb; exact hb rfl _ (f2_h.put (Or.inl ⟨rfl, by omega, by omega⟩)) dk_put_s (by rw [dk_put_k (by omega)]; exact hS2.2.1.2.1))
      · skip
        first | exact absurd rfl z121_h | exact absurd z150_h (by decide) | (rw [q_in2 (by omega) (by decide) (by decide)] at t132_h; rw [if_pos t132_h] at hg hb; have hS3 := hS2.b0; have f3_h : dk_fr (rRf c L) M0 (dk_put (dk_put (dk_put M 105 (89 + 4 * c + 3) (nI L1)) 105 (89 + 4 * c + 1) (nI (tk_k bt n j) - nI 6)) 104 10 (nI 0)) := f2_h.put (Or.inl ⟨rfl, (by omega), (by omega)⟩); exact r_rh153 c8_h hS3 f3_h (by rw [dk_put_k (by omega), dk_put_k (by omega), dk_put_k (by omega)]; exact h6_h) (fun k9_h M9 a b e6_h eo => by rw [if_pos k9_h] at hg; refine hg rfl M9 L1 a b hl e6_h ?_ ?_ ?_ ?_ ?_; (rw [eo _ (by omega), dk_put_k (by omega), dk_put_k (by omega), dk_put_k (by omega)]; exact hk); (rw [eo _ (by omega), dk_put_k (by omega), show 90 + 4 * c = 89 + 4 * c + 1 by omega, dk_put_s]; exact pk_sub t132_h.1); (rw [eo _ (by omega), dk_put_k (by omega), dk_put_k (by omega), dk_put_k (by omega)]; exact hst); (rw [eo _ (by omega), dk_put_k (by omega), dk_put_k (by omega), show 92 + 4 * c = 89 + 4 * c + 3 by omega, dk_put_s]); (rcases hs with hs | hs; exact Or.inl hs; exact Or.inr (hs.ext (fun k u v => by rw [eo k (by omega), dk_put_k (by omega), dk_put_k (by omega), dk_put_k (by omega)])))) (fun k9_h M9 a b e => by rw [if_neg k9_h] at hb; exact hb rfl M9 a b e) (by omega))
    · skip
      refine w_if_ne (n := 138) 142 dX12_ruleHere_135 (by decide) rfl (fun h => absurd h (by decide)) (fun _ => ?_)
      refine w_iconst (n := 139) (nI 1) dX12_ruleHere_138 (by decide) rfl ?_
      refine w_goto 143 dX12_ruleHere_139 (by decide) ?_
      refine p_Z (n := 146) (by decide) f_X12_164_12 pl_104 dX12_ruleHere_143 rfl ?_
      refine w_al0 (n := 147) dX12_ruleHere_146 rfl ?_
      refine g_Z (n := 150) f_X12_164_12 pl_104 dX12_ruleHere_147 rfl ?_
      rw [dk_put_s]
      refine w_if_ne (n := 153) 186 dX12_ruleHere_150 (by decide) rfl (fun z150_h => ?_) (fun z150_h => ?_)
      · skip
        refine w_ret dX12_ruleHere_186 rfl ?_
        first | exact absurd rfl z121_h | exact absurd rfl z150_h | (rw [q_in2 (by omega) (by decide) (by decide)] at t132_h; rw [if_neg t132_h] at hb; exact hb rfl _ (f2_h.put (Or.inl ⟨rfl, by omega, by omega⟩)) dk_put_s (by rw [dk_put_k (by omega)]; exact hS2.2.1.2.1))
      · skip
        first | exact absurd rfl z121_h | exact absurd z150_h (by decide) | (rw [q_in2 (by omega) (by decide) (by decide)] at t132_h; rw [if_pos t132_h] at hg hb; have hS3 := hS2.b0; have f3_h : dk_fr (rRf c L) M0 (dk_put (dk_put (dk_put M 105 (89 + 4 * c + 3) (nI L1)) 105 (89 + 4 * c + 1) (nI (tk_k bt n j) - nI 6)) 104 10 (nI 0)) := f2_h.put (Or.inl ⟨rfl, (by omega), (by omega)⟩); exact r_rh153 c8_h hS3 f3_h (by rw [dk_put_k (by omega), dk_put_k (by omega), dk_put_k (by omega)]; exact h6_h) (fun k9_h M9 a b e6_h eo => by rw [if_pos k9_h] at hg; refine hg rfl M9 L1 a b hl e6_h ?_ ?_ ?_ ?_ ?_; (rw [eo _ (by omega), dk_put_k (by omega), dk_put_k (by omega), dk_put_k (by omega)]; exact hk); (rw [eo _ (by omega), dk_put_k (by omega), show 90 + 4 * c = 89 + 4 * c + 1 by omega, dk_put_s]; exact pk_sub t132_h.1); (rw [eo _ (by omega), dk_put_k (by omega), dk_put_k (by omega), dk_put_k (by omega)]; exact hst); (rw [eo _ (by omega), dk_put_k (by omega), dk_put_k (by omega), show 92 + 4 * c = 89 + 4 * c + 3 by omega, dk_put_s]); (rcases hs with hs | hs; exact Or.inl hs; exact Or.inr (hs.ext (fun k u v => by rw [eo k (by omega), dk_put_k (by omega), dk_put_k (by omega), dk_put_k (by omega)])))) (fun k9_h M9 a b e => by rw [if_neg k9_h] at hb; exact hb rfl M9 a b e) (by omega))

set_option maxRecDepth 20000 in
theorem r_rh89b {d : Nat} {M M0 : dk_Mem} {Q : Option Value → dk_Mem → Prop} {bt : Nat → Nat} {n j c L L1 : Nat} (c8_h : c < 8) (hS : rPB bt n j L1 0 M) (hf : dk_fr (rRf c L) M0 M) (hq : ∀ M2, dk_fr (rRf c L) M0 M2 → M2.1 104 10 = nI 1 → M2.1 104 7 = nI (tk_b bt n j) → Q none M2) : dk_W (d + 4) mX12_ruleHere 89 [some (.ref 104), some (.int (nI (89 + 4 * c)))] [] M Q := by
  refine w_al0 (n := 90) dX12_ruleHere_89 rfl ?_
  refine g_R (n := 93) f_X12_9_12 pl_104 rf_104_0 dX12_ruleHere_90 rfl ?_
  refine w_il1 (n := 94) dX12_ruleHere_93 rfl ?_
  refine w_iconst (n := 95) (nI 3) dX12_ruleHere_94 (by decide) rfl ?_
  refine w_iadd (n := 96) dX12_ruleHere_95 rfl ?_
  refine w_al0 (n := 97) dX12_ruleHere_96 rfl ?_
  refine g_I (n := 100) f_X12_171_12 pl_104 dX12_ruleHere_97 rfl ?_
  refine i_iast (n := 101) pl_105 (j := 89 + 4 * c + 3) (by rw [nI_add]) (by omega) (by decide) dX12_ruleHere_100 rfl ?_
  refine w_al0 (n := 102) dX12_ruleHere_101 rfl ?_
  refine g_R (n := 105) f_X12_9_12 pl_104 rf_104_0 dX12_ruleHere_102 rfl ?_
  refine w_il1 (n := 106) dX12_ruleHere_105 rfl ?_
  refine w_iconst (n := 107) (nI 1) dX12_ruleHere_106 (by decide) rfl ?_
  refine w_iadd (n := 108) dX12_ruleHere_107 rfl ?_
  refine w_al0 (n := 109) dX12_ruleHere_108 rfl ?_
  refine g_I (n := 112) f_X12_155_12 pl_104 dX12_ruleHere_109 rfl ?_
  refine w_bipush (n := 114) (nI 6) dX12_ruleHere_112 (by decide) rfl ?_
  refine w_isub (n := 115) dX12_ruleHere_114 rfl ?_
  refine i_iast (n := 116) pl_105 (j := 89 + 4 * c + 1) (by rw [nI_add]) (by omega) (by decide) dX12_ruleHere_115 rfl ?_
  refine w_al0 (n := 117) dX12_ruleHere_116 rfl ?_
  refine w_al0 (n := 118) dX12_ruleHere_117 rfl ?_
  refine g_Z (n := 121) f_X12_164_12 pl_104 dX12_ruleHere_118 rfl ?_
  rw [dk_put_k (by omega), dk_put_k (by omega), hS.2.2.1]
  refine w_if_ne (n := 124) 138 dX12_ruleHere_121 (by decide) rfl (fun z121_h => ?_) (fun z121_h => ?_)
  · skip
    refine w_iconst (n := 139) (nI 1) dX12_ruleHere_138 (by decide) rfl ?_
    refine w_goto 143 dX12_ruleHere_139 (by decide) ?_
    refine p_Z (n := 146) (by decide) f_X12_164_12 pl_104 dX12_ruleHere_143 rfl ?_
    refine w_al0 (n := 147) dX12_ruleHere_146 rfl ?_
    refine g_Z (n := 150) f_X12_164_12 pl_104 dX12_ruleHere_147 rfl ?_
    rw [dk_put_s]
    refine w_if_ne (n := 153) 186 dX12_ruleHere_150 (by decide) rfl (fun z150_h => ?_) (fun z150_h => ?_)
    · skip
      refine w_ret dX12_ruleHere_186 rfl ?_
      exact hq _ ((rRf_q (rRf_q hf (by omega)) (by omega)).put (Or.inl ⟨rfl, by omega, by omega⟩)) dk_put_s (by rw [dk_put_k (by omega), dk_put_k (by omega), dk_put_k (by omega)]; exact hS.2.1)
    · skip
      exact absurd z150_h (by decide)
  · skip
    exact absurd z121_h (by decide)

set_option maxRecDepth 20000 in
theorem r_rh50 {d : Nat} {M M0 : dk_Mem} {Q : Option Value → dk_Mem → Prop} {bt : Nat → Nat} {n i c L : Nat} (c8_h : c < 8) (k5_h : tk_k bt n i ≤ 5) (hS : rPS bt n i L 0 M) (hf : dk_fr (rRf c L) M0 M) (h6_h : M.1 105 6 = nI c) (hg : (py_rule (tk_k bt n) (tk_v bt n) i).1 = true → ∀ M2 L2, dk_fr (rRf c L) M0 M2 → rPS bt n (py_rule (tk_k bt n) (tk_v bt n) i).2.1 L2 0 M2 → L ≤ L2 → M2.1 105 6 = nI (c + 1) → M2.1 105 (89 + 4 * c) = nI (py_rule (tk_k bt n) (tk_v bt n) i).2.2.1 → M2.1 105 (90 + 4 * c) = nI (py_rule (tk_k bt n) (tk_v bt n) i).2.2.2.1 → M2.1 105 (91 + 4 * c) = nI L → M2.1 105 (92 + 4 * c) = nI L2 → ((L = L2 ∧ ∀ fe, (py_rule (tk_k bt n) (tk_v bt n) i).2.2.2.2 fe = true) ∨ sgR (M2.1 105) L L2 9 (py_rule (tk_k bt n) (tk_v bt n) i).2.2.2.2) → Q none M2) (hb : (py_rule (tk_k bt n) (tk_v bt n) i).1 = false → ∀ M2, dk_fr (rRf c L) M0 M2 → M2.1 104 10 = nI 1 → M2.1 104 7 = nI (tk_b bt n (py_rule (tk_k bt n) (tk_v bt n) i).2.1) → Q none M2) : dk_W (d + 16) mX12_ruleHere 50 [some (.ref 104), some (.int (nI (89 + 4 * c)))] [] M Q := by
  unfold py_rule at hg hb
  rw [if_pos k5_h] at hg hb
  have f2_h : dk_fr (rRf c L) M0 (dk_put (dk_put M 105 (89 + 4 * c) (nI (tk_k bt n i))) 105 (89 + 4 * c + 2) (nI L)) := rRf_q (rRf_q hf (by omega)) (by omega)
  have hS2 : rPS bt n i L 0 (dk_put (dk_put M 105 (89 + 4 * c) (nI (tk_k bt n i))) 105 (89 + 4 * c + 2) (nI L)) := hS.q.q
  refine w_al0 (n := 51) dX12_ruleHere_50 rfl ?_
  refine g_R (n := 54) f_X12_9_12 pl_104 rf_104_0 dX12_ruleHere_51 rfl ?_
  refine w_il1 (n := 55) dX12_ruleHere_54 rfl ?_
  refine w_al0 (n := 56) dX12_ruleHere_55 rfl ?_
  refine g_I (n := 59) f_X12_155_12 pl_104 dX12_ruleHere_56 rfl ?_
  rw [hS.2.1.1]
  refine i_iast (n := 60) pl_105 (j := 89 + 4 * c) rfl (by omega) (by decide) dX12_ruleHere_59 rfl ?_
  refine w_al0 (n := 61) dX12_ruleHere_60 rfl ?_
  refine g_R (n := 64) f_X12_9_12 pl_104 rf_104_0 dX12_ruleHere_61 rfl ?_
  refine w_il1 (n := 65) dX12_ruleHere_64 rfl ?_
  refine w_iconst (n := 66) (nI 2) dX12_ruleHere_65 (by decide) rfl ?_
  refine w_iadd (n := 67) dX12_ruleHere_66 rfl ?_
  refine w_al0 (n := 68) dX12_ruleHere_67 rfl ?_
  refine g_I (n := 71) f_X12_171_12 pl_104 dX12_ruleHere_68 rfl ?_
  rw [hS.q.2.2.2.2.1]
  refine i_iast (n := 72) pl_105 (j := 89 + 4 * c + 2) (by rw [nI_add]) (by omega) (by decide) dX12_ruleHere_71 rfl ?_
  refine w_al0 (n := 73) dX12_ruleHere_72 rfl ?_
  refine w_cV0 (n := 76) pl_104 cl_12 s0_X12_reads k_X12_168 (Nat.le_of_ble_eq_true rfl) dX12_ruleHere_73 rfl (r_reads hS2.1 (i := i + 1) hS2.2.1.2.2.1 (fun M2 g1_h g2_h => ?_))
  have hS3 := hS2.nx (by omega) g1_h g2_h
  have f3_h : dk_fr (rRf c L) M0 M2 := f2_h.tr (rRf_f (rPf_x (L := L) g1_h) (Nat.le_refl _))
  have e5_h : ∀ k, M2.1 105 k = (dk_put (dk_put M 105 (89 + 4 * c) (nI (tk_k bt n i))) 105 (89 + 4 * c + 2) (nI L)).1 105 k := fun k => g1_h.2 105 k (by unfold rLx; omega)
  have a6_h : M2.1 105 6 = nI c := by rw [e5_h, dk_put_k (by omega), dk_put_k (by omega)]; exact h6_h
  have ak : M2.1 105 (89 + 4 * c) = nI (tk_k bt n i) := by rw [e5_h, dk_put_k (by omega), dk_put_s]
  have as : M2.1 105 (91 + 4 * c) = nI L := by rw [e5_h, show 91 + 4 * c = 89 + 4 * c + 2 by omega, dk_put_s]
  refine w_al0 (n := 77) dX12_ruleHere_76 rfl ?_
  refine w_bipush (n := 79) (nI 14) dX12_ruleHere_77 (by decide) rfl ?_
  refine w_cV1 (n := 82) pl_104 cl_12 s0_X12_passes k_X12_174 (Nat.le_of_ble_eq_true rfl) dX12_ruleHere_79 rfl (r_passes hS3 (w := 14) (by decide) (fun k1_h M3 f1_h hS4 => ?_) (fun k1_h => ?_))
  · skip
    rw [if_pos k1_h] at hg hb
    have f4_h : dk_fr (rRf c L) M0 M3 := f3_h.tr (rRf_f (rPf_x (L := L) f1_h) (Nat.le_refl _))
    have x5_h : ∀ k, M3.1 105 k = M2.1 105 k := fun k => f1_h.2 105 k (by unfold rLx; omega)
    refine w_if_eq (n := 85) 89 dX12_ruleHere_82 (by decide) rfl (fun h => absurd h (by decide)) (fun _ => ?_)
    refine w_al0 (n := 86) dX12_ruleHere_85 rfl ?_
    refine w_cV0 (n := 89) pl_104 cl_12 s0_X12_condition k_X12_180 (Nat.le_of_ble_eq_true rfl) dX12_ruleHere_86 rfl (r_cond 3 0 d rfl (i + 1 + 1) L M3 _ hS4 (fun g0_h M5 L2 q1_h q2_h q3_h q4_h => ?_) (fun g0_h M5 L2 q1_h q2_h q3b q3_h => ?_))
    · have g0b : (py_c3 (tk_k bt n) (tk_v bt n) (i + 2)).1 = true := g0_h
      rw [if_pos g0b] at hg hb
      have y5_h : ∀ k, k < 121 + L → M5.1 105 k = M3.1 105 k := fun k hk => q1_h.2 105 k (by unfold rPf; omega)
      exact r_rh89 (d := d + 12) c8_h q2_h (f4_h.tr (rRf_f q1_h (Nat.le_refl _))) (Nat.le_of_lt q4_h.1) (by rw [y5_h _ (by omega), x5_h]; exact a6_h) (by rw [y5_h _ (by omega), x5_h]; exact ak) (by rw [y5_h _ (by omega), x5_h]; exact as) (Or.inr q4_h) hg hb
    · have g0b : (py_c3 (tk_k bt n) (tk_v bt n) (i + 2)).1 = false := g0_h
      rw [if_neg (by rw [g0b]; decide)] at hb
      exact r_rh89b (d := d + 12) c8_h q2_h (f4_h.tr (rRf_f q1_h (Nat.le_refl _))) (hb rfl)
  · skip
    rw [if_neg k1_h] at hg hb
    refine w_if_eq (n := 85) 89 dX12_ruleHere_82 (by decide) rfl (fun _ => ?_) (fun h => absurd (by decide) h)
    exact r_rh89 (d := d + 12) c8_h hS3 f3_h (Nat.le_refl _) a6_h ak as (Or.inl ⟨rfl, fun _ => rfl⟩) hg hb

set_option maxRecDepth 20000 in
theorem r_ruleHere {d : Nat} {M : dk_Mem} {Q : Option Value → dk_Mem → Prop} {bt : Nat → Nat} {n i c L : Nat} (c8_h : c ≤ 8) (hS : rPS bt n i L 0 M) (h6_h : M.1 105 6 = nI c) (hc8_h : c = 8 → ∀ M2, dk_fr (rRf c L) M M2 → M2.1 104 10 = nI 1 → M2.1 104 7 = nI (tk_b bt n i) → Q none M2) (hg : c < 8 → (py_rule (tk_k bt n) (tk_v bt n) i).1 = true → ∀ M2 L2, dk_fr (rRf c L) M M2 → rPS bt n (py_rule (tk_k bt n) (tk_v bt n) i).2.1 L2 0 M2 → L ≤ L2 → M2.1 105 6 = nI (c + 1) → M2.1 105 (89 + 4 * c) = nI (py_rule (tk_k bt n) (tk_v bt n) i).2.2.1 → M2.1 105 (90 + 4 * c) = nI (py_rule (tk_k bt n) (tk_v bt n) i).2.2.2.1 → M2.1 105 (91 + 4 * c) = nI L → M2.1 105 (92 + 4 * c) = nI L2 → ((L = L2 ∧ ∀ fe, (py_rule (tk_k bt n) (tk_v bt n) i).2.2.2.2 fe = true) ∨ sgR (M2.1 105) L L2 9 (py_rule (tk_k bt n) (tk_v bt n) i).2.2.2.2) → Q none M2) (hb : c < 8 → (py_rule (tk_k bt n) (tk_v bt n) i).1 = false → ∀ M2, dk_fr (rRf c L) M M2 → M2.1 104 10 = nI 1 → M2.1 104 7 = nI (tk_b bt n (py_rule (tk_k bt n) (tk_v bt n) i).2.1) → Q none M2) : dk_Call (d + 16) mX12_ruleHere [.ref 104] M Q := by
  have kl : tk_k bt n i ≤ 26 := lx_k0_le
  refine dk_enter [some (.ref 104), none] (by decide) (fun _ => rfl) (fun _ => Nat.le_of_ble_eq_true rfl) ?_
  refine w_bipush (n := 2) (nI 89) dX12_ruleHere_0 (by decide) rfl ?_
  refine w_iconst (n := 3) (nI 4) dX12_ruleHere_2 (by decide) rfl ?_
  refine w_al0 (n := 4) dX12_ruleHere_3 rfl ?_
  refine g_R (n := 7) f_X12_9_12 pl_104 rf_104_0 dX12_ruleHere_4 rfl ?_
  refine w_bipush (n := 9) (nI 6) dX12_ruleHere_7 (by decide) rfl ?_
  refine i_iald (n := 10) pl_105 (j := 6) rfl (by decide) (by decide) h6_h dX12_ruleHere_9 rfl ?_
  refine w_imul (n := 11) dX12_ruleHere_10 rfl ?_
  rw [pk_mul]
  refine w_iadd (n := 12) dX12_ruleHere_11 rfl ?_
  rw [nI_add]
  refine w_is1 (n := 13) dX12_ruleHere_12 rfl rfl (by decide) ?_
  refine w_al0 (n := 14) dX12_ruleHere_13 rfl ?_
  refine w_al0 (n := 15) dX12_ruleHere_14 rfl ?_
  refine g_I (n := 18) f_X12_155_12 pl_104 dX12_ruleHere_15 rfl ?_
  rw [hS.2.1.1]
  refine w_iconst (n := 19) (nI 5) dX12_ruleHere_18 (by decide) rfl ?_
  refine w_ic_gt (n := 22) 34 dX12_ruleHere_19 (by decide) rfl (fun z19_h => ?_) (fun z19_h => ?_)
  · skip
    refine w_iconst (n := 35) (nI 1) dX12_ruleHere_34 (by decide) rfl ?_
    refine w_goto 39 dX12_ruleHere_35 (by decide) ?_
    refine p_Z (n := 42) (by decide) f_X12_164_12 pl_104 dX12_ruleHere_39 rfl ?_
    refine w_al0 (n := 43) dX12_ruleHere_42 rfl ?_
    refine g_Z (n := 46) f_X12_164_12 pl_104 dX12_ruleHere_43 rfl ?_
    rw [dk_put_s]
    refine w_if_eq (n := 49) 50 dX12_ruleHere_46 (by decide) rfl (fun z46_h => ?_) (fun z46_h => ?_)
    · skip
      first | exact absurd z46_h (by decide) | (rw [nI_ltI (by decide) (by omega)] at z19_h; rw [nI_eq (by omega) (by decide)] at z31_h; exact r_rh50 (by omega) (by omega) hS.b0 (dk_fr.rf.put (Or.inl ⟨rfl, by omega, by omega⟩)) (by rw [dk_put_k (by omega)]; exact h6_h) (hg (by omega)) (hb (by omega)))
    · skip
      refine w_ret dX12_ruleHere_49 rfl ?_
      have f1_h : dk_fr (rRf c L) M (dk_put M 104 10 (nI 1)) := dk_fr.rf.put (Or.inl ⟨rfl, by omega, by omega⟩)
      have e7_h : (dk_put M 104 10 (nI 1)).1 104 7 = nI (tk_b bt n i) := by rw [dk_put_k (by omega)]; exact hS.2.1.2.1
      by_cases e8_h : c = 8
      · first | exact hc8_h e8_h _ f1_h dk_put_s e7_h | exact absurd rfl z46_h
      · first | exact absurd rfl z46_h | (rw [nI_ltI (by decide) (by omega)] at z19_h; have er : py_rule (tk_k bt n) (tk_v bt n) i = (false, i, 0, 0, py_no) := if_neg (by omega); rw [er] at hb; exact hb (by omega) rfl _ f1_h dk_put_s e7_h) | (rw [nI_eq (by omega) (by decide)] at z31_h; exact absurd z31_h e8_h)
  · skip
    refine w_al0 (n := 23) dX12_ruleHere_22 rfl ?_
    refine g_R (n := 26) f_X12_9_12 pl_104 rf_104_0 dX12_ruleHere_23 rfl ?_
    refine w_bipush (n := 28) (nI 6) dX12_ruleHere_26 (by decide) rfl ?_
    refine i_iald (n := 29) pl_105 (j := 6) rfl (by decide) (by decide) h6_h dX12_ruleHere_28 rfl ?_
    refine w_bipush (n := 31) (nI 8) dX12_ruleHere_29 (by decide) rfl ?_
    refine w_ic_ne (n := 34) 38 dX12_ruleHere_31 (by decide) rfl (fun z31_h => ?_) (fun z31_h => ?_)
    · skip
      refine w_iconst (n := 39) (nI 0) dX12_ruleHere_38 (by decide) rfl ?_
      refine p_Z (n := 42) (by decide) f_X12_164_12 pl_104 dX12_ruleHere_39 rfl ?_
      refine w_al0 (n := 43) dX12_ruleHere_42 rfl ?_
      refine g_Z (n := 46) f_X12_164_12 pl_104 dX12_ruleHere_43 rfl ?_
      rw [dk_put_s]
      refine w_if_eq (n := 49) 50 dX12_ruleHere_46 (by decide) rfl (fun z46_h => ?_) (fun z46_h => ?_)
      · skip
        first | exact absurd z46_h (by decide) | (rw [nI_ltI (by decide) (by omega)] at z19_h; rw [nI_eq (by omega) (by decide)] at z31_h; exact r_rh50 (by omega) (by omega) hS.b0 (dk_fr.rf.put (Or.inl ⟨rfl, by omega, by omega⟩)) (by rw [dk_put_k (by omega)]; exact h6_h) (hg (by omega)) (hb (by omega)))
      · skip
        refine w_ret dX12_ruleHere_49 rfl ?_
        have f1_h : dk_fr (rRf c L) M (dk_put M 104 10 (nI 1)) := dk_fr.rf.put (Or.inl ⟨rfl, by omega, by omega⟩)
        have e7_h : (dk_put M 104 10 (nI 1)).1 104 7 = nI (tk_b bt n i) := by rw [dk_put_k (by omega)]; exact hS.2.1.2.1
        by_cases e8_h : c = 8
        · first | exact hc8_h e8_h _ f1_h dk_put_s e7_h | exact absurd rfl z46_h
        · first | exact absurd rfl z46_h | (rw [nI_ltI (by decide) (by omega)] at z19_h; have er : py_rule (tk_k bt n) (tk_v bt n) i = (false, i, 0, 0, py_no) := if_neg (by omega); rw [er] at hb; exact hb (by omega) rfl _ f1_h dk_put_s e7_h) | (rw [nI_eq (by omega) (by decide)] at z31_h; exact absurd z31_h e8_h)
    · skip
      refine w_iconst (n := 35) (nI 1) dX12_ruleHere_34 (by decide) rfl ?_
      refine w_goto 39 dX12_ruleHere_35 (by decide) ?_
      refine p_Z (n := 42) (by decide) f_X12_164_12 pl_104 dX12_ruleHere_39 rfl ?_
      refine w_al0 (n := 43) dX12_ruleHere_42 rfl ?_
      refine g_Z (n := 46) f_X12_164_12 pl_104 dX12_ruleHere_43 rfl ?_
      rw [dk_put_s]
      refine w_if_eq (n := 49) 50 dX12_ruleHere_46 (by decide) rfl (fun z46_h => ?_) (fun z46_h => ?_)
      · skip
        first | exact absurd z46_h (by decide) | (rw [nI_ltI (by decide) (by omega)] at z19_h; rw [nI_eq (by omega) (by decide)] at z31_h; exact r_rh50 (by omega) (by omega) hS.b0 (dk_fr.rf.put (Or.inl ⟨rfl, by omega, by omega⟩)) (by rw [dk_put_k (by omega)]; exact h6_h) (hg (by omega)) (hb (by omega)))
      · skip
        refine w_ret dX12_ruleHere_49 rfl ?_
        have f1_h : dk_fr (rRf c L) M (dk_put M 104 10 (nI 1)) := dk_fr.rf.put (Or.inl ⟨rfl, by omega, by omega⟩)
        have e7_h : (dk_put M 104 10 (nI 1)).1 104 7 = nI (tk_b bt n i) := by rw [dk_put_k (by omega)]; exact hS.2.1.2.1
        by_cases e8_h : c = 8
        · first | exact hc8_h e8_h _ f1_h dk_put_s e7_h | exact absurd rfl z46_h
        · first | exact absurd rfl z46_h | (rw [nI_ltI (by decide) (by omega)] at z19_h; have er : py_rule (tk_k bt n) (tk_v bt n) i = (false, i, 0, 0, py_no) := if_neg (by omega); rw [er] at hb; exact hb (by omega) rfl _ f1_h dk_put_s e7_h) | (rw [nI_eq (by omega) (by decide)] at z31_h; exact absurd z31_h e8_h)
