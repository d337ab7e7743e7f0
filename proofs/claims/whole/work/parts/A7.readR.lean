/-! ===== the reference reads a token ===== -/
theorem rLx_p {M M1 : dk_Mem} {k : Nat} {x : Int32} (h : dk_fr rLx M M1) (h1_h : 6 ≤ k) (h2_h : k ≤ 9) : dk_fr rLx M (dk_put M1 104 k x) := h.put ⟨rfl, h1_h, h2_h⟩

set_option maxRecDepth 20000 in
theorem r_rS {d : Nat} {M : dk_Mem} {Q : Option Value → dk_Mem → Prop} {bt : Nat → Nat} {n : Nat} (hL : rLT bt n M) {p0_h : Nat} (hx : ∀ M2, dk_fr rLx M M2 → M2.1 104 8 = nI (lx_b bt n p0_h) → dk_W (d + 2) mX12_reads 28 [some (.ref 104)] [] M2 Q) : ∀ (m p : Nat) (M1 : dk_Mem), p ≤ n → n - p < m → dk_fr rLx M M1 → M1.1 104 8 = nI p → lx_b bt n p = lx_b bt n p0_h → dk_W (d + 2) mX12_reads 0 [some (.ref 104)] [] M1 Q := by
  have n2_h := hL.2.1
  intro m
  induction m with
  | zero => intro p M1 _ h; omega
  | succ m ih =>
    intro p M1 hp hm hf hat he
    refine w_al0 (n := 1) dX12_reads_0 rfl ?_
    refine w_al0 (n := 2) dX12_reads_1 rfl ?_
    refine g_I (n := 5) f_X12_143_12 pl_104 dX12_reads_2 rfl ?_
    rw [hat]
    refine w_bipush (n := 7) (nI 32) dX12_reads_5 (by decide) rfl ?_
    refine w_bipush (n := 9) (nI 32) dX12_reads_7 (by decide) rfl ?_
    refine w_cV3 (n := 12) pl_104 cl_12 s0_X12_isByte k_X12_149 (Nat.le_of_ble_eq_true rfl) dX12_reads_9 rfl (r_isByte (hL.x hf) (by omega) (by decide) (by decide) (fun a1_h a2_h a3_h => ?_) (fun a1_h => ?_))
    · skip
      refine w_if_eq (n := 15) 28 dX12_reads_12 (by decide) rfl (fun h => absurd h (by decide)) (fun _ => ?_)
      refine w_al0 (n := 16) dX12_reads_15 rfl ?_
      refine w_dup (n := 17) rfl dX12_reads_16 rfl ?_
      refine g_I (n := 20) f_X12_143_12 pl_104 dX12_reads_17 rfl ?_
      rw [hat]
      refine w_iconst (n := 21) (nI 1) dX12_reads_20 (by decide) rfl ?_
      refine w_iadd (n := 22) dX12_reads_21 rfl ?_
      rw [nI_add]
      refine p_I (n := 25) f_X12_143_12 pl_104 dX12_reads_22 rfl ?_
      refine w_goto 0 dX12_reads_25 (by decide) ?_
      refine ih (p + 1) _ (by omega) (by omega) (rLx_p hf (by omega) (by omega)) dk_put_s ?_
      rw [← he]
      exact (lx_e_y a1_h (lx_isS.mpr ⟨a2_h, a3_h⟩)).symm
    · skip
      refine w_if_eq (n := 15) 28 dX12_reads_12 (by decide) rfl (fun _ => ?_) (fun h => absurd (by decide) h)
      refine hx M1 hf ?_
      rw [hat, ← he]
      exact congrArg nI (lx_e_n (fun z => a1_h ⟨z.1, lx_isS.mp z.2⟩)).symm

set_option maxRecDepth 20000 in
theorem r_rW {d : Nat} {M : dk_Mem} {Q : Option Value → dk_Mem → Prop} {bt : Nat → Nat} {n : Nat} (hL : rLT bt n M) {b : Nat} (hx : ∀ M2, dk_fr rLx M M2 → M2.1 104 7 = nI b → M2.1 104 9 = nI 0 → M2.1 104 8 = nI (lx_e lx_L bt n b) → dk_W (d + 2) mX12_reads 104 [some (.ref 104)] [] M2 Q) : ∀ (m p : Nat) (M1 : dk_Mem), p ≤ n → n - p < m → dk_fr rLx M M1 → M1.1 104 7 = nI b → M1.1 104 9 = nI 0 → M1.1 104 8 = nI p → lx_e lx_L bt n p = lx_e lx_L bt n b → dk_W (d + 2) mX12_reads 76 [some (.ref 104)] [] M1 Q := by
  have n2_h := hL.2.1
  intro m
  induction m with
  | zero => intro p M1 _ h; omega
  | succ m ih =>
    intro p M1 hp hm hf h7_h h9_h hat he
    refine w_al0 (n := 77) dX12_reads_76 rfl ?_
    refine w_al0 (n := 78) dX12_reads_77 rfl ?_
    refine g_I (n := 81) f_X12_143_12 pl_104 dX12_reads_78 rfl ?_
    rw [hat]
    refine w_bipush (n := 83) (nI 97) dX12_reads_81 (by decide) rfl ?_
    refine w_bipush (n := 85) (nI 122) dX12_reads_83 (by decide) rfl ?_
    refine w_cV3 (n := 88) pl_104 cl_12 s0_X12_isByte k_X12_149 (Nat.le_of_ble_eq_true rfl) dX12_reads_85 rfl (r_isByte (hL.x hf) (by omega) (by decide) (by decide) (fun a1_h a2_h a3_h => ?_) (fun a1_h => ?_))
    · skip
      refine w_if_eq (n := 91) 104 dX12_reads_88 (by decide) rfl (fun h => absurd h (by decide)) (fun _ => ?_)
      refine w_al0 (n := 92) dX12_reads_91 rfl ?_
      refine w_dup (n := 93) rfl dX12_reads_92 rfl ?_
      refine g_I (n := 96) f_X12_143_12 pl_104 dX12_reads_93 rfl ?_
      rw [hat]
      refine w_iconst (n := 97) (nI 1) dX12_reads_96 (by decide) rfl ?_
      refine w_iadd (n := 98) dX12_reads_97 rfl ?_
      rw [nI_add]
      refine p_I (n := 101) f_X12_143_12 pl_104 dX12_reads_98 rfl ?_
      refine w_goto 76 dX12_reads_101 (by decide) ?_
      refine ih (p + 1) _ (by omega) (by omega) (rLx_p hf (by omega) (by omega)) (by rw [dk_put_k (by omega)]; exact h7_h) (by rw [dk_put_k (by omega)]; exact h9_h) dk_put_s ?_
      rw [← he]
      exact (lx_e_y a1_h (lx_isL.mpr ⟨a2_h, a3_h⟩)).symm
    · skip
      refine w_if_eq (n := 91) 104 dX12_reads_88 (by decide) rfl (fun _ => ?_) (fun h => absurd (by decide) h)
      refine hx M1 hf h7_h h9_h ?_
      rw [hat, ← he]
      exact congrArg nI (lx_e_n (fun z => a1_h ⟨z.1, lx_isL.mp z.2⟩)).symm

set_option maxRecDepth 20000 in
theorem r_rD {d : Nat} {M : dk_Mem} {Q : Option Value → dk_Mem → Prop} {bt : Nat → Nat} {n : Nat} (hL : rLT bt n M) {b : Nat} (hb : b ≤ n) (hx : ∀ M2, dk_fr rLx M M2 → M2.1 104 7 = nI b → M2.1 104 9 = nI (lx_v bt b (lx_e lx_D bt n b - b)) → M2.1 104 8 = nI (lx_e lx_D bt n b) → dk_W (d + 2) mX12_reads 202 [some (.ref 104)] [] M2 Q) : ∀ (m p : Nat) (M1 : dk_Mem), b ≤ p → p ≤ n → n - p < m → dk_fr rLx M M1 → M1.1 104 7 = nI b → M1.1 104 9 = nI (lx_v bt b (p - b)) → M1.1 104 8 = nI p → (∀ i, i < p - b → lx_D (bt (b + i)) = true) → lx_e lx_D bt n p = lx_e lx_D bt n b → dk_W (d + 2) mX12_reads 130 [some (.ref 104)] [] M1 Q := by
  have n2_h := hL.2.1
  intro m
  induction m with
  | zero => intro p M1 _ _ h; omega
  | succ m ih =>
    intro p M1 hbp hp hm hf h7_h h9_h hat hd he
    have vl := lx_v_4 hd
    refine w_al0 (n := 131) dX12_reads_130 rfl ?_
    refine w_al0 (n := 132) dX12_reads_131 rfl ?_
    refine g_I (n := 135) f_X12_143_12 pl_104 dX12_reads_132 rfl ?_
    rw [hat]
    refine w_bipush (n := 137) (nI 48) dX12_reads_135 (by decide) rfl ?_
    refine w_bipush (n := 139) (nI 57) dX12_reads_137 (by decide) rfl ?_
    refine w_cV3 (n := 142) pl_104 cl_12 s0_X12_isByte k_X12_149 (Nat.le_of_ble_eq_true rfl) dX12_reads_139 rfl (r_isByte (hL.x hf) (by omega) (by decide) (by decide) (fun a1_h a2_h a3_h => ?_) (fun a1_h => ?_))
    · skip
      refine w_if_eq (n := 145) 202 dX12_reads_142 (by decide) rfl (fun h => absurd h (by decide)) (fun _ => ?_)
      refine w_al0 (n := 146) dX12_reads_145 rfl ?_
      refine w_al0 (n := 147) dX12_reads_146 rfl ?_
      refine g_I (n := 150) f_X12_143_12 pl_104 dX12_reads_147 rfl ?_
      rw [hat]
      refine w_al0 (n := 151) dX12_reads_150 rfl ?_
      refine g_I (n := 154) f_X12_140_12 pl_104 dX12_reads_151 rfl ?_
      rw [h7_h]
      refine w_isub (n := 155) dX12_reads_154 rfl ?_
      rw [pk_sub hbp]
      refine w_iconst (n := 156) (nI 3) dX12_reads_155 (by decide) rfl ?_
      refine w_ic_le (n := 159) 166 dX12_reads_156 (by decide) rfl (fun z156_h => ?_) (fun z156_h => ?_)
      · skip
        refine w_bipush (n := 168) (nI 10) dX12_reads_166 (by decide) rfl ?_
        refine w_al0 (n := 169) dX12_reads_168 rfl ?_
        refine g_I (n := 172) f_X12_152_12 pl_104 dX12_reads_169 rfl ?_
        rw [h9_h]
        refine w_imul (n := 173) dX12_reads_172 rfl ?_
        rw [pk_mul]
        refine w_al0 (n := 174) dX12_reads_173 rfl ?_
        refine g_R (n := 177) f_X12_19_12 pl_104 rf_104_4 dX12_reads_174 rfl ?_
        refine w_al0 (n := 178) dX12_reads_177 rfl ?_
        refine g_I (n := 181) f_X12_143_12 pl_104 dX12_reads_178 rfl ?_
        rw [hat]
        refine i_iald (n := 182) pl_108 (j := p) rfl (by omega) (by decide) ((hf.2 108 p (by unfold rLx; omega)).trans (hL.2.2.1 p a1_h)) dX12_reads_181 rfl ?_
        refine w_iadd (n := 183) dX12_reads_182 rfl ?_
        rw [nI_add]
        refine w_bipush (n := 185) (nI 48) dX12_reads_183 (by decide) rfl ?_
        refine w_isub (n := 186) dX12_reads_185 rfl ?_
        try rw [pk_sub (by omega)]
        refine p_I (n := 189) f_X12_152_12 pl_104 dX12_reads_186 rfl ?_
        refine w_al0 (n := 190) dX12_reads_189 rfl ?_
        refine w_dup (n := 191) rfl dX12_reads_190 rfl ?_
        refine g_I (n := 194) f_X12_143_12 pl_104 dX12_reads_191 rfl ?_
        rw [dk_put_k (by omega), hat]
        refine w_iconst (n := 195) (nI 1) dX12_reads_194 (by decide) rfl ?_
        refine w_iadd (n := 196) dX12_reads_195 rfl ?_
        rw [nI_add]
        refine p_I (n := 199) f_X12_143_12 pl_104 dX12_reads_196 rfl ?_
        refine w_goto 130 dX12_reads_199 (by decide) ?_
        rw [q_le (by omega) (by decide)] at z156_h
        have ev : lx_v bt b (p + 1 - b) = if 3 < p - b then lx_v bt b (p - b) else 10 * lx_v bt b (p - b) + bt p - 48 := by
          rw [show p + 1 - b = (p - b) + 1 by omega, lx_v, show b + (p - b) = p by omega]
        refine ih (p + 1) _ (by omega) (by omega) (by omega) (rLx_p (rLx_p hf (by omega) (by omega)) (by omega) (by omega)) (by rw [dk_put_k (by omega), dk_put_k (by omega)]; exact h7_h) ?_ dk_put_s (fun i hi => ?_) ?_
        · rw [dk_put_k (by omega), dk_put_s, ev]
          first | rw [if_pos (by omega)] | rw [if_neg (by omega)]
        · by_cases e : i < p - b
          · exact hd i e
          · rw [show b + i = p by omega]; exact lx_isD.mpr ⟨a2_h, a3_h⟩
        · rw [← he]; exact (lx_e_y a1_h (lx_isD.mpr ⟨a2_h, a3_h⟩)).symm
      · skip
        refine w_al0 (n := 160) dX12_reads_159 rfl ?_
        refine g_I (n := 163) f_X12_152_12 pl_104 dX12_reads_160 rfl ?_
        rw [h9_h]
        refine w_goto 186 dX12_reads_163 (by decide) ?_
        try rw [pk_sub (by omega)]
        refine p_I (n := 189) f_X12_152_12 pl_104 dX12_reads_186 rfl ?_
        refine w_al0 (n := 190) dX12_reads_189 rfl ?_
        refine w_dup (n := 191) rfl dX12_reads_190 rfl ?_
        refine g_I (n := 194) f_X12_143_12 pl_104 dX12_reads_191 rfl ?_
        rw [dk_put_k (by omega), hat]
        refine w_iconst (n := 195) (nI 1) dX12_reads_194 (by decide) rfl ?_
        refine w_iadd (n := 196) dX12_reads_195 rfl ?_
        rw [nI_add]
        refine p_I (n := 199) f_X12_143_12 pl_104 dX12_reads_196 rfl ?_
        refine w_goto 130 dX12_reads_199 (by decide) ?_
        rw [q_le (by omega) (by decide)] at z156_h
        have ev : lx_v bt b (p + 1 - b) = if 3 < p - b then lx_v bt b (p - b) else 10 * lx_v bt b (p - b) + bt p - 48 := by
          rw [show p + 1 - b = (p - b) + 1 by omega, lx_v, show b + (p - b) = p by omega]
        refine ih (p + 1) _ (by omega) (by omega) (by omega) (rLx_p (rLx_p hf (by omega) (by omega)) (by omega) (by omega)) (by rw [dk_put_k (by omega), dk_put_k (by omega)]; exact h7_h) ?_ dk_put_s (fun i hi => ?_) ?_
        · rw [dk_put_k (by omega), dk_put_s, ev]
          first | rw [if_pos (by omega)] | rw [if_neg (by omega)]
        · by_cases e : i < p - b
          · exact hd i e
          · rw [show b + i = p by omega]; exact lx_isD.mpr ⟨a2_h, a3_h⟩
        · rw [← he]; exact (lx_e_y a1_h (lx_isD.mpr ⟨a2_h, a3_h⟩)).symm
    · skip
      refine w_if_eq (n := 145) 202 dX12_reads_142 (by decide) rfl (fun _ => ?_) (fun h => absurd (by decide) h)
      have ee : lx_e lx_D bt n b = p := by rw [← he]; exact lx_e_n (fun z => a1_h ⟨z.1, lx_isD.mp z.2⟩)
      refine hx M1 hf h7_h ?_ ?_
      · rw [ee]; exact h9_h
      · rw [ee]; exact hat

set_option maxRecDepth 20000 in
theorem r_r104 {d : Nat} {M : dk_Mem} {Q : Option Value → dk_Mem → Prop} {bt : Nat → Nat} {n b e : Nat} (hL : rLT bt n M) (hb : M.1 104 7 = nI b) (he : M.1 104 8 = nI e) (hbe : b ≤ e) (hen : e ≤ n) (hq : Q none (dk_put M 104 6 (nI (lx_w bt b (e - b))))) : dk_W (d + 2) mX12_reads 104 [some (.ref 104)] [] M Q := by
  refine w_al0 (n := 105) dX12_reads_104 rfl ?_
  refine w_al0 (n := 106) dX12_reads_105 rfl ?_
  refine w_cV0 (n := 109) pl_104 cl_12 s0_X12_wordHere k_X12_158 (Nat.le_of_ble_eq_true rfl) dX12_reads_106 rfl (r_wordHere hL hb he hbe hen ?_)
  refine p_I (n := 112) f_X12_155_12 pl_104 dX12_reads_109 rfl ?_
  refine w_goto 268 dX12_reads_112 (by decide) ?_
  refine w_ret dX12_reads_268 rfl ?_
  exact hq

set_option maxRecDepth 20000 in
theorem r_r202 {d : Nat} {M : dk_Mem} {Q : Option Value → dk_Mem → Prop} {b e : Nat} (hb : M.1 104 7 = nI b) (he : M.1 104 8 = nI e) (hbe : b ≤ e) (hen : e ≤ 200) (hq : Q none (dk_put M 104 6 (nI (if 4 < e - b then 26 else 20)))) : dk_W (d + 2) mX12_reads 202 [some (.ref 104)] [] M Q := by
  refine w_al0 (n := 203) dX12_reads_202 rfl ?_
  refine w_al0 (n := 204) dX12_reads_203 rfl ?_
  refine g_I (n := 207) f_X12_143_12 pl_104 dX12_reads_204 rfl ?_
  rw [he]
  refine w_al0 (n := 208) dX12_reads_207 rfl ?_
  refine g_I (n := 211) f_X12_140_12 pl_104 dX12_reads_208 rfl ?_
  rw [hb]
  refine w_isub (n := 212) dX12_reads_211 rfl ?_
  rw [pk_sub hbe]
  refine w_iconst (n := 213) (nI 4) dX12_reads_212 (by decide) rfl ?_
  refine w_ic_le (n := 216) 221 dX12_reads_213 (by decide) rfl (fun z213_h => ?_) (fun z213_h => ?_)
  · skip
    refine w_bipush (n := 223) (nI 20) dX12_reads_221 (by decide) rfl ?_
    refine p_I (n := 226) f_X12_155_12 pl_104 dX12_reads_223 rfl ?_
    refine w_goto 268 dX12_reads_226 (by decide) ?_
    refine w_ret dX12_reads_268 rfl ?_
    rw [q_le (by omega) (by decide)] at z213_h
    first | (rw [if_pos (by omega)] at hq; exact hq) | (rw [if_neg (by omega)] at hq; exact hq)
  · skip
    refine w_bipush (n := 218) (nI 26) dX12_reads_216 (by decide) rfl ?_
    refine w_goto 223 dX12_reads_218 (by decide) ?_
    refine p_I (n := 226) f_X12_155_12 pl_104 dX12_reads_223 rfl ?_
    refine w_goto 268 dX12_reads_226 (by decide) ?_
    refine w_ret dX12_reads_268 rfl ?_
    rw [q_le (by omega) (by decide)] at z213_h
    first | (rw [if_pos (by omega)] at hq; exact hq) | (rw [if_neg (by omega)] at hq; exact hq)

theorem lx_e_gt {C : Nat → Bool} {bt : Nat → Nat} {n b : Nat} (hb : b < n) (hc : C (bt b) = true) : b < lx_e C bt n b ∧ lx_e C bt n b ≤ n := by
  rw [lx_e_y hb hc]
  have := lx_e_le (C := C) (bt := bt) (n := n) (p := b + 1) (by omega)
  omega

set_option maxRecDepth 20000 in
theorem r_r28 {d : Nat} {M : dk_Mem} {Q : Option Value → dk_Mem → Prop} {bt : Nat → Nat} {n : Nat} (hL : rLT bt n M) {b : Nat} (hb : b ≤ n) (hq : ∀ M2, dk_fr rLx M M2 → M2.1 104 6 = nI (lx_k0 bt n b) → M2.1 104 7 = nI b → M2.1 104 8 = nI (lx_n0 bt n b) → M2.1 104 9 = nI (lx_v0 bt n b) → Q none M2) (M1 : dk_Mem) (hf : dk_fr rLx M M1) (hat : M1.1 104 8 = nI b) : dk_W (d + 2) mX12_reads 28 [some (.ref 104)] [] M1 Q := by
  have n2_h := hL.2.1
  have b5_h := hL.2.2.2 b
  have f2_h : ∀ x y, dk_fr rLx M (dk_put (dk_put M1 104 7 x) 104 9 y) := fun x y => rLx_p (rLx_p hf (by omega) (by omega)) (by omega) (by omega)
  have h7_h : (dk_put (dk_put M1 104 7 (nI b)) 104 9 (nI 0)).1 104 7 = nI b := by rw [dk_put_k (by omega), dk_put_s]
  have h8_h : (dk_put (dk_put M1 104 7 (nI b)) 104 9 (nI 0)).1 104 8 = nI b := by rw [dk_put_k (by omega), dk_put_k (by omega)]; exact hat
  have h9_h : (dk_put (dk_put M1 104 7 (nI b)) 104 9 (nI 0)).1 104 9 = nI 0 := dk_put_s
  refine w_al0 (n := 29) dX12_reads_28 rfl ?_
  refine w_al0 (n := 30) dX12_reads_29 rfl ?_
  refine g_I (n := 33) f_X12_143_12 pl_104 dX12_reads_30 rfl ?_
  rw [hat]
  refine p_I (n := 36) f_X12_140_12 pl_104 dX12_reads_33 rfl ?_
  refine w_al0 (n := 37) dX12_reads_36 rfl ?_
  refine w_iconst (n := 38) (nI 0) dX12_reads_37 (by decide) rfl ?_
  refine p_I (n := 41) f_X12_152_12 pl_104 dX12_reads_38 rfl ?_
  refine w_al0 (n := 42) dX12_reads_41 rfl ?_
  refine g_I (n := 45) f_X12_143_12 pl_104 dX12_reads_42 rfl ?_
  rw [h8_h]
  refine w_al0 (n := 46) dX12_reads_45 rfl ?_
  refine g_I (n := 49) f_X12_131_12 pl_104 dX12_reads_46 rfl ?_
  rw [((hL.x (f2_h _ _)).1 : _ = nI n)]
  refine w_ic_ne (n := 52) 61 dX12_reads_49 (by decide) rfl (fun z49_h => ?_) (fun z49_h => ?_)
  · skip
    have hlt : b < n := by rw [nI_eq (by omega) (by omega)] at z49_h; omega
    refine w_al0 (n := 62) dX12_reads_61 rfl ?_
    refine w_al0 (n := 63) dX12_reads_62 rfl ?_
    refine g_I (n := 66) f_X12_143_12 pl_104 dX12_reads_63 rfl ?_
    rw [h8_h]
    refine w_bipush (n := 68) (nI 97) dX12_reads_66 (by decide) rfl ?_
    refine w_bipush (n := 70) (nI 122) dX12_reads_68 (by decide) rfl ?_
    refine w_cV3 (n := 73) pl_104 cl_12 s0_X12_isByte k_X12_149 (Nat.le_of_ble_eq_true rfl) dX12_reads_70 rfl (r_isByte (hL.x (f2_h _ _)) (by omega) (by decide) (by decide) (fun a1_h a2_h a3_h => ?_) (fun a0_h => ?_))
    · skip
      refine w_if_eq (n := 76) 115 dX12_reads_73 (by decide) rfl (fun h => absurd h (by decide)) (fun _ => ?_)
      have il := lx_isL.mpr ⟨a2_h, a3_h⟩
      have gt := lx_e_gt hlt il
      refine r_rW (hL.x (f2_h (nI b) (nI 0))) (b := b) (fun M2 g1_h g2_h g3_h g4_h => ?_) (n + 1) b _ (by omega) (by omega) dk_fr.rf h7_h h9_h h8_h rfl
      have fx := (f2_h (nI b) (nI 0)).tr g1_h
      refine r_r104 (hL.x fx) g2_h g4_h (by omega) gt.2 (hq _ (rLx_p fx (by omega) (by omega)) ?_ ?_ ?_ ?_)
      · rw [dk_put_s]; unfold lx_k0; rw [if_pos hlt, if_pos il]
      · rw [dk_put_k (by omega)]; exact g2_h
      · rw [dk_put_k (by omega)]; unfold lx_n0; rw [if_pos hlt, if_pos il]; exact g4_h
      · rw [dk_put_k (by omega)]; unfold lx_v0; rw [if_pos hlt, if_pos il]; exact g3_h
    · skip
      refine w_if_eq (n := 76) 115 dX12_reads_73 (by decide) rfl (fun _ => ?_) (fun h => absurd (by decide) h)
      refine w_al0 (n := 116) dX12_reads_115 rfl ?_
      refine w_al0 (n := 117) dX12_reads_116 rfl ?_
      refine g_I (n := 120) f_X12_143_12 pl_104 dX12_reads_117 rfl ?_
      rw [h8_h]
      refine w_bipush (n := 122) (nI 48) dX12_reads_120 (by decide) rfl ?_
      refine w_bipush (n := 124) (nI 57) dX12_reads_122 (by decide) rfl ?_
      refine w_cV3 (n := 127) pl_104 cl_12 s0_X12_isByte k_X12_149 (Nat.le_of_ble_eq_true rfl) dX12_reads_124 rfl (r_isByte (hL.x (f2_h _ _)) (by omega) (by decide) (by decide) (fun a1_h a2_h a3_h => ?_) (fun a4_h => ?_))
      · skip
        refine w_if_eq (n := 130) 229 dX12_reads_127 (by decide) rfl (fun h => absurd h (by decide)) (fun _ => ?_)
        have nl : ¬ lx_L (bt b) = true := fun z => a0_h ⟨hlt, lx_isL.mp z⟩
        have il := lx_isD.mpr ⟨a2_h, a3_h⟩
        have gt := lx_e_gt hlt il
        refine r_rD (hL.x (f2_h (nI b) (nI 0))) (b := b) hb (fun M2 g1_h g2_h g3_h g4_h => ?_) (n + 1) b _ (by omega) (by omega) (by omega) dk_fr.rf h7_h (by rw [Nat.sub_self]; exact h9_h) h8_h (fun i hi => by omega) rfl
        have fx := (f2_h (nI b) (nI 0)).tr g1_h
        refine r_r202 g2_h g4_h (by omega) (by omega) (hq _ (rLx_p fx (by omega) (by omega)) ?_ ?_ ?_ ?_)
        · rw [dk_put_s]; unfold lx_k0; rw [if_pos hlt, if_neg nl, if_pos il]
        · rw [dk_put_k (by omega)]; exact g2_h
        · rw [dk_put_k (by omega)]; unfold lx_n0; rw [if_pos hlt, if_neg nl, if_pos il]; exact g4_h
        · rw [dk_put_k (by omega)]; unfold lx_v0; rw [if_pos hlt, if_neg nl, if_pos il]; exact g3_h
      · skip
        refine w_if_eq (n := 130) 229 dX12_reads_127 (by decide) rfl (fun _ => ?_) (fun h => absurd (by decide) h)
        refine w_al0 (n := 230) dX12_reads_229 rfl ?_
        refine w_al0 (n := 231) dX12_reads_230 rfl ?_
        refine g_R (n := 234) f_X12_19_12 pl_104 rf_104_4 dX12_reads_231 rfl ?_
        refine w_al0 (n := 235) dX12_reads_234 rfl ?_
        refine g_I (n := 238) f_X12_143_12 pl_104 dX12_reads_235 rfl ?_
        rw [h8_h]
        refine i_iald (n := 239) pl_108 (j := b) rfl (by omega) (by decide) (((f2_h _ _).2 108 b (by unfold rLx; omega)).trans (hL.2.2.1 b hlt)) dX12_reads_238 rfl ?_
        refine w_cS1 (n := 242) s0_X12_signOf k_X12_161 (Nat.le_of_ble_eq_true rfl) dX12_reads_239 rfl (r_signOf (c := bt b) (by omega) ?_)
        refine p_I (n := 245) f_X12_155_12 pl_104 dX12_reads_242 rfl ?_
        refine w_al0 (n := 246) dX12_reads_245 rfl ?_
        refine w_al0 (n := 247) dX12_reads_246 rfl ?_
        refine g_R (n := 250) f_X12_19_12 pl_104 rf_104_4 dX12_reads_247 rfl ?_
        refine w_al0 (n := 251) dX12_reads_250 rfl ?_
        refine g_I (n := 254) f_X12_143_12 pl_104 dX12_reads_251 rfl ?_
        rw [dk_put_k (by omega), h8_h]
        refine i_iald (n := 255) pl_108 (j := b) rfl (by omega) (by decide) ((dk_put_k (by omega)).trans (((f2_h _ _).2 108 b (by unfold rLx; omega)).trans (hL.2.2.1 b hlt))) dX12_reads_254 rfl ?_
        refine p_I (n := 258) f_X12_152_12 pl_104 dX12_reads_255 rfl ?_
        refine w_al0 (n := 259) dX12_reads_258 rfl ?_
        refine w_dup (n := 260) rfl dX12_reads_259 rfl ?_
        refine g_I (n := 263) f_X12_143_12 pl_104 dX12_reads_260 rfl ?_
        rw [dk_put_k (by omega), dk_put_k (by omega), h8_h]
        refine w_iconst (n := 264) (nI 1) dX12_reads_263 (by decide) rfl ?_
        refine w_iadd (n := 265) dX12_reads_264 rfl ?_
        rw [nI_add]
        refine p_I (n := 268) f_X12_143_12 pl_104 dX12_reads_265 rfl ?_
        refine w_ret dX12_reads_268 rfl ?_
        first | (have e : b = n := (nI_eq (by omega) (by omega)).mp z49_h; refine hq _ (rLx_p (f2_h _ _) (by omega) (by omega)) ?_ ?_ ?_ ?_; (rw [dk_put_s]; unfold lx_k0; rw [if_neg (by omega)]); (rw [dk_put_k (by omega)]; exact h7_h); (rw [dk_put_k (by omega)]; unfold lx_n0; rw [if_neg (by omega)]; exact h8_h); (rw [dk_put_k (by omega)]; unfold lx_v0; rw [if_neg (by omega)]; exact h9_h)) | (have nl : ¬ lx_L (bt b) = true := fun z => a0_h ⟨hlt, lx_isL.mp z⟩; have nd : ¬ lx_D (bt b) = true := fun z => a4_h ⟨hlt, lx_isD.mp z⟩; refine hq _ (rLx_p (rLx_p (rLx_p (f2_h _ _) (by omega) (by omega)) (by omega) (by omega)) (by omega) (by omega)) ?_ ?_ ?_ ?_; (rw [dk_put_k (by omega), dk_put_k (by omega), dk_put_s]; unfold lx_k0; rw [if_pos hlt, if_neg nl, if_neg nd]); (rw [dk_put_k (by omega), dk_put_k (by omega), dk_put_k (by omega)]; exact h7_h); (rw [dk_put_s]; unfold lx_n0; rw [if_pos hlt, if_neg nl, if_neg nd]); (rw [dk_put_k (by omega), dk_put_s]; unfold lx_v0; rw [if_pos hlt, if_neg nl, if_neg nd]))
  · skip
    refine w_al0 (n := 53) dX12_reads_52 rfl ?_
    refine w_bipush (n := 55) (nI 25) dX12_reads_53 (by decide) rfl ?_
    refine p_I (n := 58) f_X12_155_12 pl_104 dX12_reads_55 rfl ?_
    refine w_goto 268 dX12_reads_58 (by decide) ?_
    refine w_ret dX12_reads_268 rfl ?_
    first | (have e : b = n := (nI_eq (by omega) (by omega)).mp z49_h; refine hq _ (rLx_p (f2_h _ _) (by omega) (by omega)) ?_ ?_ ?_ ?_; (rw [dk_put_s]; unfold lx_k0; rw [if_neg (by omega)]); (rw [dk_put_k (by omega)]; exact h7_h); (rw [dk_put_k (by omega)]; unfold lx_n0; rw [if_neg (by omega)]; exact h8_h); (rw [dk_put_k (by omega)]; unfold lx_v0; rw [if_neg (by omega)]; exact h9_h)) | (have nl : ¬ lx_L (bt b) = true := fun z => a0_h ⟨hlt, lx_isL.mp z⟩; have nd : ¬ lx_D (bt b) = true := fun z => a4_h ⟨hlt, lx_isD.mp z⟩; refine hq _ (rLx_p (rLx_p (rLx_p (f2_h _ _) (by omega) (by omega)) (by omega) (by omega)) (by omega) (by omega)) ?_ ?_ ?_ ?_; (rw [dk_put_k (by omega), dk_put_k (by omega), dk_put_s]; unfold lx_k0; rw [if_pos hlt, if_neg nl, if_neg nd]); (rw [dk_put_k (by omega), dk_put_k (by omega), dk_put_k (by omega)]; exact h7_h); (rw [dk_put_s]; unfold lx_n0; rw [if_pos hlt, if_neg nl, if_neg nd]); (rw [dk_put_k (by omega), dk_put_s]; unfold lx_v0; rw [if_pos hlt, if_neg nl, if_neg nd]))

/-! ===== the row of tokens ===== -/
def tk_p (bt : Nat → Nat) (n : Nat) : Nat → Nat
  | 0 => 0
  | i + 1 => lx_n0 bt n (lx_b bt n (tk_p bt n i))
def tk_b (bt : Nat → Nat) (n i : Nat) : Nat := lx_b bt n (tk_p bt n i)
def tk_k (bt : Nat → Nat) (n i : Nat) : Nat := lx_k0 bt n (tk_b bt n i)
def tk_v (bt : Nat → Nat) (n i : Nat) : Nat := lx_v0 bt n (tk_b bt n i)
theorem lx_n0_gt {bt : Nat → Nat} {n b : Nat} (hb : b < n) : b < lx_n0 bt n b ∧ lx_n0 bt n b ≤ n := by
  unfold lx_n0
  rw [if_pos hb]
  split
  · exact lx_e_gt hb (by assumption)
  · split
    · exact lx_e_gt hb (by assumption)
    · omega
theorem tk_p_le {bt : Nat → Nat} {n : Nat} : ∀ i, tk_p bt n i ≤ n ∧ tk_b bt n i ≤ n ∧ tk_p bt n i ≤ tk_b bt n i
  | 0 => by
    have := lx_e_le (C := lx_S) (bt := bt) (n := n) (p := 0) (Nat.zero_le _)
    exact ⟨Nat.zero_le _, this.2, Nat.zero_le _⟩
  | i + 1 => by
    have ih := tk_p_le (bt := bt) (n := n) i
    have h1_h : tk_p bt n (i + 1) ≤ n := by
      show lx_n0 bt n (tk_b bt n i) ≤ n
      by_cases hb : tk_b bt n i < n
      · exact (lx_n0_gt hb).2
      · unfold lx_n0; rw [if_neg hb]; exact ih.2.1
    have := lx_e_le (C := lx_S) (bt := bt) (n := n) (p := tk_p bt n (i + 1)) h1_h
    exact ⟨h1_h, this.2, this.1⟩
theorem tk_p_ge {bt : Nat → Nat} {n : Nat} : ∀ i, i ≤ tk_p bt n i ∨ tk_p bt n i = n
  | 0 => Or.inl (Nat.zero_le _)
  | i + 1 => by
    have l := tk_p_le (bt := bt) (n := n) i
    have ih := tk_p_ge (bt := bt) (n := n) i
    show i + 1 ≤ lx_n0 bt n (tk_b bt n i) ∨ lx_n0 bt n (tk_b bt n i) = n
    by_cases hb : tk_b bt n i < n
    · have := (lx_n0_gt (bt := bt) hb).1
      left; omega
    · right; unfold lx_n0; rw [if_neg hb]; omega
theorem tk_lt {bt : Nat → Nat} {n i : Nat} (h : tk_k bt n i ≠ 25) : i < n ∧ tk_b bt n i < n := by
  have hb : tk_b bt n i < n := Decidable.byContradiction (fun z => h (by unfold tk_k lx_k0; rw [if_neg z]))
  have l := tk_p_le (bt := bt) (n := n) i
  have g := tk_p_ge (bt := bt) (n := n) i
  exact ⟨by omega, hb⟩
theorem lx_k0_le {bt : Nat → Nat} {n b : Nat} : lx_k0 bt n b ≤ 26 := by
  unfold lx_k0 lx_s
  split
  · split
    · rcases lx_ws_le (bt := bt) (b := b) (s := lx_e lx_L bt n b - b) 18 0 rfl with h | h
      · show lx_ws _ _ _ 18 0 ≤ 26; omega
      · show lx_ws _ _ _ 18 0 ≤ 26; omega
    · split
      · split <;> omega
      · repeat' split
        all_goals omega
  · omega
def rSt (bt : Nat → Nat) (n i : Nat) (M : dk_Mem) : Prop := M.1 104 6 = nI (tk_k bt n i) ∧ M.1 104 7 = nI (tk_b bt n i) ∧ M.1 104 8 = nI (tk_p bt n (i + 1)) ∧ M.1 104 9 = nI (tk_v bt n i)

set_option maxRecDepth 20000 in
theorem r_reads {d : Nat} {M : dk_Mem} {Q : Option Value → dk_Mem → Prop} {bt : Nat → Nat} {n : Nat} (hL : rLT bt n M) {i : Nat} (hat : M.1 104 8 = nI (tk_p bt n i)) (hq : ∀ M2, dk_fr rLx M M2 → rSt bt n i M2 → Q none M2) : dk_Call (d + 2) mX12_reads [.ref 104] M Q := by
  refine dk_enter [some (.ref 104)] (by decide) (fun _ => rfl) (fun _ => Nat.le_of_ble_eq_true rfl) ?_
  have l := tk_p_le (bt := bt) (n := n) i
  exact r_rS hL (p0_h := tk_p bt n i) (fun M2 g1_h g2_h => r_r28 hL (b := tk_b bt n i) l.2.1 (fun M3 a b c e f => hq M3 a ⟨b, c, e, f⟩) M2 g1_h g2_h) (n + 1) (tk_p bt n i) M l.1 (by omega) dk_fr.rf hat rfl
