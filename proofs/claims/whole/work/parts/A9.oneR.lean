theorem py_neg_0 {s : py_Sm} : py_neg 0 s = s := by
  funext fe
  unfold py_neg
  rw [decide_eq_false (by decide), Bool.false_xor]
theorem py_neg_s {s : py_Sm} {k : Nat} : py_neg (k + 1) s = fun fe => !(py_neg k s fe) := by
  funext fe
  unfold py_neg
  by_cases h : k % 2 = 1
  · rw [decide_eq_true h, decide_eq_false (show ¬ (k + 1) % 2 = 1 by omega)]
    cases s fe <;> rfl
  · rw [decide_eq_false h, decide_eq_true (show (k + 1) % 2 = 1 by omega)]
    cases s fe <;> rfl
def rStp (M : dk_Mem) (L : Nat) (x : Int32) : dk_Mem := dk_put (dk_put M 105 (121 + L) x) 104 12 (nI (L + 1))
theorem rStp_e {M : dk_Mem} {L : Nat} {x : Int32} : dk_put (dk_put M 105 (121 + L) x) 104 12 (nI (L + 1)) = rStp M L x := rfl
theorem rStp_5 {M : dk_Mem} {L k : Nat} {x : Int32} (h : k ≠ 121 + L) : (rStp M L x).1 105 k = M.1 105 k := by
  unfold rStp
  rw [dk_put_k (by omega), dk_put_k (by omega)]
theorem rStp_s {M : dk_Mem} {L : Nat} {x : Int32} : (rStp M L x).1 105 (121 + L) = x := by
  unfold rStp
  rw [dk_put_k (by omega), dk_put_s]
theorem rStp_f {L0 L : Nat} {M M1 : dk_Mem} {x : Int32} (h : dk_fr (rPf L0) M M1) (hl : L0 ≤ L) : dk_fr (rPf L0) M (rStp M1 L x) := (h.put (Or.inr ⟨rfl, by omega⟩)).put (Or.inl ⟨rfl, by omega, by omega⟩)
theorem rSt.o {bt : Nat → Nat} {n i : Nat} {M M' : dk_Mem} (h : rSt bt n i M) (hf : ∀ k, 6 ≤ k → k ≤ 9 → M'.1 104 k = M.1 104 k) : rSt bt n i M' := ⟨(hf 6 (by omega) (by omega)).trans h.1, (hf 7 (by omega) (by omega)).trans h.2.1, (hf 8 (by omega) (by omega)).trans h.2.2.1, (hf 9 (by omega) (by omega)).trans h.2.2.2⟩
theorem rPS.st {bt : Nat → Nat} {n i L o : Nat} {M : dk_Mem} {x : Int32} (h : rPS bt n i L o M) (hl : L + 1 ≤ i) : rPS bt n i (L + 1) o (rStp M L x) := by
  obtain ⟨h1_h, h2_h, h3_h, h4_h, h5_h, h6_h, h7_h, h8_h⟩ := h
  have e : ∀ k, k ≠ 12 → (rStp M L x).1 104 k = M.1 104 k := fun k hk => by unfold rStp; rw [dk_put_k (by omega), dk_put_k (by omega)]
  exact ⟨h1_h.f (rStp_f dk_fr.rf (Nat.le_refl L)), h2_h.o (fun k a b => e k (by omega)), (e 10 (by omega)).trans h3_h, (e 11 (by omega)).trans h4_h, by unfold rStp; rw [dk_put_s], hl, h7_h, h8_h⟩
theorem rPB.st {bt : Nat → Nat} {n i L o : Nat} {M : dk_Mem} {x : Int32} (h : rPB bt n i L o M) : rPB bt n i (L + 1) o (rStp M L x) := by
  obtain ⟨h1_h, h2_h, h3_h, h4_h, h5_h, h8_h⟩ := h
  have e : ∀ k, k ≠ 12 → (rStp M L x).1 104 k = M.1 104 k := fun k hk => by unfold rStp; rw [dk_put_k (by omega), dk_put_k (by omega)]
  exact ⟨h1_h.f (rStp_f dk_fr.rf (Nat.le_refl L)), (e 7 (by omega)).trans h2_h, (e 10 (by omega)).trans h3_h, (e 11 (by omega)).trans h4_h, by unfold rStp; rw [dk_put_s], h8_h⟩
theorem rPS.b0 {bt : Nat → Nat} {n i L o : Nat} {M : dk_Mem} (h : rPS bt n i L o M) : rPS bt n i L o (dk_put M 104 10 (nI 0)) := by
  obtain ⟨h1_h, h2_h, h3_h, h4_h, h5_h, h6_h, h7_h, h8_h⟩ := h
  exact ⟨h1_h.f (dk_fr.rf.put (Or.inl ⟨rfl, by omega, by omega⟩) : dk_fr (rPf L) M _), h2_h.o (fun k a b => dk_put_k (by omega)), dk_put_s, by rw [dk_put_k (by omega)]; exact h4_h, by rw [dk_put_k (by omega)]; exact h5_h, h6_h, h7_h, h8_h⟩
theorem rPS.b1 {bt : Nat → Nat} {n i L o : Nat} {M : dk_Mem} (h : rPS bt n i L o M) : rPB bt n i L o (dk_put M 104 10 (nI 1)) := by
  obtain ⟨h1_h, h2_h, h3_h, h4_h, h5_h, h6_h, h7_h, h8_h⟩ := h
  exact ⟨h1_h.f (dk_fr.rf.put (Or.inl ⟨rfl, by omega, by omega⟩) : dk_fr (rPf L) M _), by rw [dk_put_k (by omega)]; exact h2_h.2.1, dk_put_s, by rw [dk_put_k (by omega)]; exact h4_h, by rw [dk_put_k (by omega)]; exact h5_h, h8_h⟩
theorem rPB.b1 {bt : Nat → Nat} {n i L o : Nat} {M : dk_Mem} (h : rPB bt n i L o M) : rPB bt n i L o (dk_put M 104 10 (nI 1)) := by
  obtain ⟨h1_h, h2_h, h3_h, h4_h, h5_h, h8_h⟩ := h
  exact ⟨h1_h.f (dk_fr.rf.put (Or.inl ⟨rfl, by omega, by omega⟩) : dk_fr (rPf L) M _), by rw [dk_put_k (by omega)]; exact h2_h, dk_put_s, by rw [dk_put_k (by omega)]; exact h4_h, by rw [dk_put_k (by omega)]; exact h5_h, h8_h⟩
theorem rPS.op {bt : Nat → Nat} {n i L o o' : Nat} {M : dk_Mem} (h : rPS bt n i L o M) (ho : o' ≤ 3) : rPS bt n i L o' (dk_put M 104 11 (nI o')) := by
  obtain ⟨h1_h, h2_h, h3_h, h4_h, h5_h, h6_h, h7_h, h8_h⟩ := h
  exact ⟨h1_h.f (dk_fr.rf.put (Or.inl ⟨rfl, by omega, by omega⟩) : dk_fr (rPf L) M _), h2_h.o (fun k a b => dk_put_k (by omega)), by rw [dk_put_k (by omega)]; exact h3_h, dk_put_s, by rw [dk_put_k (by omega)]; exact h5_h, h6_h, h7_h, ho⟩
theorem rPB.op {bt : Nat → Nat} {n i L o o' : Nat} {M : dk_Mem} (h : rPB bt n i L o M) (ho : o' ≤ 3) : rPB bt n i L o' (dk_put M 104 11 (nI o')) := by
  obtain ⟨h1_h, h2_h, h3_h, h4_h, h5_h, h8_h⟩ := h
  exact ⟨h1_h.f (dk_fr.rf.put (Or.inl ⟨rfl, by omega, by omega⟩) : dk_fr (rPf L) M _), by rw [dk_put_k (by omega)]; exact h2_h, by rw [dk_put_k (by omega)]; exact h3_h, dk_put_s, by rw [dk_put_k (by omega)]; exact h5_h, ho⟩
theorem rPf_p {L k : Nat} {M M1 : dk_Mem} {x : Int32} (h : dk_fr (rPf L) M M1) (h1_h : 6 ≤ k) (h2_h : k ≤ 12) : dk_fr (rPf L) M (dk_put M1 104 k x) := h.put (Or.inl ⟨rfl, h1_h, h2_h⟩)
theorem rPf_up {L L' : Nat} {M M1 : dk_Mem} (h : dk_fr (rPf L') M M1) (hl : L ≤ L') : dk_fr (rPf L) M M1 := h.up (fun q k z => by unfold rPf at *; omega)

set_option maxRecDepth 20000 in
theorem r_o161 {d : Nat} {M : dk_Mem} {Q : Option Value → dk_Mem → Prop} {bt : Nat → Nat} {n j o L c : Nat} {L1 hh : Nat} {s : py_Sm} (hc : L1 + c ≤ j) (hq : ∀ M2, dk_fr (rPf L1) M M2 → rPS bt n j (L1 + c) o M2 → sgR (M2.1 105) L (L1 + c) hh (py_neg c s) → Q none M2) {x3_h x4_h : Option Value} : ∀ (m k : Nat) (M1 : dk_Mem), k ≤ c → c - k < m → dk_fr (rPf L1) M M1 → rPS bt n j (L1 + k) o M1 → sgR (M1.1 105) L (L1 + k) hh (py_neg k s) → dk_W (d + 1) mX12_one 161 [some (.ref 104), some (.int (nI c)), some (.int (nI k)), x3_h, x4_h] [] M1 Q := by
  intro m
  induction m with
  | zero => intro k M1 _ h; omega
  | succ m ih =>
    intro k M1 hk hm hf hS hg
    have h200_h := hS.2.2.2.2.2.2.1
    refine w_il2 (n := 162) dX12_one_161 rfl ?_
    refine w_il1 (n := 163) dX12_one_162 rfl ?_
    refine w_ic_ge (n := 166) 185 dX12_one_163 (by decide) rfl (fun z163_h => ?_) (fun z163_h => ?_)
    · skip
      refine w_ret dX12_one_185 rfl ?_
      first | exact absurd rfl z170_h | (rw [q_le (by omega) (by omega)] at z163_h; have e : k = c := (by omega); subst e; exact hq M1 hf hS hg)
    · skip
      have hkc : k < c := by rw [q_le (by omega) (by omega)] at z163_h; omega
      refine w_al0 (n := 167) dX12_one_166 rfl ?_
      refine g_Z (n := 170) f_X12_164_12 pl_104 dX12_one_167 rfl ?_
      rw [hS.2.2.1]
      refine w_if_ne (n := 173) 185 dX12_one_170 (by decide) rfl (fun z170_h => ?_) (fun z170_h => ?_)
      · skip
        refine w_ret dX12_one_185 rfl ?_
        first | exact absurd rfl z170_h | (rw [q_le (by omega) (by omega)] at z163_h; have e : k = c := (by omega); subst e; exact hq M1 hf hS hg)
      · skip
        refine w_al0 (n := 174) dX12_one_173 rfl ?_
        refine w_bipush (n := 176) (nI 17) dX12_one_174 (by decide) rfl ?_
        refine w_cV1 (n := 179) pl_104 cl_12 s0_X12_step k_X12_186 (Nat.le_of_ble_eq_true rfl) dX12_one_176 rfl (r_step hS.2.2.2.2.1 (by omega) ?_)
        rw [rStp_e]
        refine w_inc2 (n := 182) (nI 1) dX12_one_179 (by decide) rfl rfl (by decide) ?_
        refine w_goto 161 dX12_one_182 (by decide) ?_
        rw [nI_add]
        refine ih (k + 1) _ (by omega) (by omega) (rStp_f hf (by omega)) (hS.st (by omega)) ?_
        rw [py_neg_s]
        exact (hg.ext (fun i a b => rStp_5 (by omega))).nt rStp_s

set_option maxRecDepth 20000 in
theorem r_o159 {d : Nat} {M : dk_Mem} {Q : Option Value → dk_Mem → Prop} {bt : Nat → Nat} {n j o L c : Nat} {L1 hh : Nat} {s : py_Sm} (hc : L1 + c ≤ j) (hS : rPS bt n j L1 o M) (hg : sgR (M.1 105) L L1 hh s) (hq : ∀ M2, dk_fr (rPf L1) M M2 → rPS bt n j (L1 + c) o M2 → sgR (M2.1 105) L (L1 + c) hh (py_neg c s) → Q none M2) {x2_h x3_h x4_h : Option Value} : dk_W (d + 1) mX12_one 159 [some (.ref 104), some (.int (nI c)), x2_h, x3_h, x4_h] [] M Q := by
  refine w_iconst (n := 160) (nI 0) dX12_one_159 (by decide) rfl ?_
  refine w_is2 (n := 161) dX12_one_160 rfl rfl (by decide) ?_
  exact r_o161 hc hq (c + 1) 0 M (by omega) (by omega) dk_fr.rf hS (by rw [py_neg_0]; exact hg)

set_option maxRecDepth 20000 in
theorem r_oB {d : Nat} {M : dk_Mem} {Q : Option Value → dk_Mem → Prop} {c : Int32} (hB : M.1 104 10 = nI 1) (hq : Q none M) {x2_h x3_h x4_h : Option Value} : dk_W d mX12_one 159 [some (.ref 104), some (.int c), x2_h, x3_h, x4_h] [] M Q := by
  refine w_iconst (n := 160) (nI 0) dX12_one_159 (by decide) rfl ?_
  refine w_is2 (n := 161) dX12_one_160 rfl rfl (by decide) ?_
  refine w_il2 (n := 162) dX12_one_161 rfl ?_
  refine w_il1 (n := 163) dX12_one_162 rfl ?_
  refine w_ic_ge (n := 166) 185 dX12_one_163 (by decide) rfl (fun z163_h => ?_) (fun z163_h => ?_)
  · skip
    refine w_ret dX12_one_185 rfl ?_
    exact hq
  · skip
    refine w_al0 (n := 167) dX12_one_166 rfl ?_
    refine g_Z (n := 170) f_X12_164_12 pl_104 dX12_one_167 rfl ?_
    rw [hB]
    refine w_if_ne (n := 173) 185 dX12_one_170 (by decide) rfl (fun z170_h => ?_) (fun z170_h => ?_)
    · skip
      refine w_ret dX12_one_185 rfl ?_
      exact hq
    · skip
      exact absurd z170_h (by decide)

set_option maxRecDepth 20000 in
theorem r_o122 {d : Nat} {M : dk_Mem} {Q : Option Value → dk_Mem → Prop} {bt : Nat → Nat} {n o L c : Nat} {j2_h : Nat} (hS : rPB bt n j2_h L o (dk_put M 104 10 (nI 1))) (hb : ∀ M2 L1, dk_fr (rPf L) M M2 → rPB bt n j2_h L1 o M2 → L1 = L → Q none M2) {x2_h x3_h : Int32} {x4_h : Option Value} : dk_W (d + 4) mX12_one 122 [some (.ref 104), some (.int (nI c)), some (.int x2_h), some (.int x3_h), x4_h] [.ref 104] M Q := by
  refine w_iconst (n := 123) (nI 1) dX12_one_122 (by decide) rfl ?_
  refine w_goto 127 dX12_one_123 (by decide) ?_
  refine p_Z (n := 130) (by decide) f_X12_164_12 pl_104 dX12_one_127 rfl ?_
  refine w_al0 (n := 131) dX12_one_130 rfl ?_
  refine w_cV0 (n := 134) pl_104 cl_12 s0_X12_side k_X12_183 (Nat.le_of_ble_eq_true rfl) dX12_one_131 rfl (r_sideB hS (fun M2 v g1_h g2_h => ?_))
  refine w_is4 (n := 136) dX12_one_134 rfl rfl (by decide) ?_
  refine w_al0 (n := 137) dX12_one_136 rfl ?_
  refine g_Z (n := 140) f_X12_164_12 pl_104 dX12_one_137 rfl ?_
  rw [g2_h.2.2.1]
  refine w_if_ne (n := 143) 159 dX12_one_140 (by decide) rfl (fun z140_h => ?_) (fun z140_h => ?_)
  · skip
    exact r_oB g2_h.2.2.1 (hb M2 L ((rPf_p dk_fr.rf (by omega) (by omega)).tr g1_h) g2_h rfl)
  · skip
    exact absurd z140_h (by decide)

set_option maxRecDepth 20000 in
theorem r_o136b {d : Nat} {M : dk_Mem} {Q : Option Value → dk_Mem → Prop} {bt : Nat → Nat} {n o L c : Nat} {j2_h : Nat} (hS : rPB bt n j2_h L o M) (hq : Q none M) {x2_h x3_h x4_h : Int32} : dk_W d mX12_one 136 [some (.ref 104), some (.int (nI c)), some (.int x2_h), some (.int x3_h), some (.int x4_h)] [] M Q := by
  refine w_al0 (n := 137) dX12_one_136 rfl ?_
  refine g_Z (n := 140) f_X12_164_12 pl_104 dX12_one_137 rfl ?_
  rw [hS.2.2.1]
  refine w_if_ne (n := 143) 159 dX12_one_140 (by decide) rfl (fun z140_h => ?_) (fun z140_h => ?_)
  · skip
    exact r_oB hS.2.2.1 hq
  · skip
    exact absurd z140_h (by decide)

set_option maxRecDepth 20000 in
theorem r_o136 {d : Nat} {M : dk_Mem} {Q : Option Value → dk_Mem → Prop} {bt : Nat → Nat} {n j o L c : Nat} {s c1_h c2_h hh : Nat} (h1_h : 60 ≤ s) (h2_h : s ≤ 62) (l1_h : c1_h < 10005) (l2_h : c2_h < 10005) (hS : rPS bt n j L o M) (hlc : L + 3 + c ≤ j) (hh1_h : 1 ≤ hh) (hq : ∀ M2, dk_fr (rPf L) M M2 → rPS bt n j (L + 3 + c) o M2 → sgR (M2.1 105) L (L + 3 + c) hh (py_neg c (fun fe => sg_cmp s (sg_ev fe c1_h) (sg_ev fe c2_h))) → Q none M2) : dk_W (d + 1) mX12_one 136 [some (.ref 104), some (.int (nI c)), some (.int (rl_v c1_h)), some (.int (nI s)), some (.int (rl_v c2_h))] [] M Q := by
  have h200_h := hS.2.2.2.2.2.2.1
  refine w_al0 (n := 137) dX12_one_136 rfl ?_
  refine g_Z (n := 140) f_X12_164_12 pl_104 dX12_one_137 rfl ?_
  rw [hS.2.2.1]
  refine w_if_ne (n := 143) 159 dX12_one_140 (by decide) rfl (fun z140_h => ?_) (fun z140_h => ?_)
  · skip
    first | exact absurd rfl z140_h | (refine r_o159 (L1 := L + 3) hlc hS3 (sgR.mono (sgR.cmp h1_h h2_h l1_h l2_h ?_ ?_ ?_) hh1_h) (fun M2 a b e => hq M2 ((rStp_f (rStp_f (rStp_f dk_fr.rf (by omega)) (by omega)) (by omega)).tr (rPf_up a (by omega))) b e); (rw [rStp_5 (by omega), rStp_5 (by omega), rStp_s]); (rw [rStp_5 (by omega), show 121 + L + 1 = 121 + (L + 1) by omega, rStp_s]); (rw [show 121 + L + 2 = 121 + (L + 1 + 1) by omega, rStp_s]))
  · skip
    refine w_al0 (n := 144) dX12_one_143 rfl ?_
    refine w_il3 (n := 145) dX12_one_144 rfl ?_
    refine w_cV1 (n := 148) pl_104 cl_12 s0_X12_step k_X12_186 (Nat.le_of_ble_eq_true rfl) dX12_one_145 rfl (r_step hS.2.2.2.2.1 (by omega) ?_)
    rw [rStp_e]
    have hS1 := hS.st (x := nI s) (by omega)
    refine w_al0 (n := 149) dX12_one_148 rfl ?_
    refine w_il2 (n := 150) dX12_one_149 rfl ?_
    refine w_cV1 (n := 153) pl_104 cl_12 s0_X12_step k_X12_186 (Nat.le_of_ble_eq_true rfl) dX12_one_150 rfl (r_step hS1.2.2.2.2.1 (by omega) ?_)
    rw [rStp_e]
    have hS2 := hS1.st (x := rl_v c1_h) (by omega)
    refine w_al0 (n := 154) dX12_one_153 rfl ?_
    refine w_il4 (n := 156) dX12_one_154 rfl ?_
    refine w_cV1 (n := 159) pl_104 cl_12 s0_X12_step k_X12_186 (Nat.le_of_ble_eq_true rfl) dX12_one_156 rfl (r_step hS2.2.2.2.2.1 (by omega) ?_)
    rw [rStp_e]
    have hS3 := hS2.st (x := rl_v c2_h) (by omega)
    first | exact absurd rfl z140_h | (refine r_o159 (L1 := L + 3) hlc hS3 (sgR.mono (sgR.cmp h1_h h2_h l1_h l2_h ?_ ?_ ?_) hh1_h) (fun M2 a b e => hq M2 ((rStp_f (rStp_f (rStp_f dk_fr.rf (by omega)) (by omega)) (by omega)).tr (rPf_up a (by omega))) b e); (rw [rStp_5 (by omega), rStp_5 (by omega), rStp_s]); (rw [rStp_5 (by omega), show 121 + L + 1 = 121 + (L + 1) by omega, rStp_s]); (rw [show 121 + L + 2 = 121 + (L + 1 + 1) by omega, rStp_s]))

set_option maxRecDepth 20000 in
theorem r_o134b {d : Nat} {M : dk_Mem} {Q : Option Value → dk_Mem → Prop} {bt : Nat → Nat} {n o L c : Nat} {j2_h : Nat} (hS : rPB bt n j2_h L o M) (hq : Q none M) {x2_h x3_h v : Int32} {x4_h : Option Value} : dk_W d mX12_one 134 [some (.ref 104), some (.int (nI c)), some (.int x2_h), some (.int x3_h), x4_h] [.int v] M Q := by
  refine w_is4 (n := 136) dX12_one_134 rfl rfl (by decide) ?_
  exact r_o136b hS hq

set_option maxRecDepth 20000 in
theorem r_o136t {d : Nat} {M : dk_Mem} {Q : Option Value → dk_Mem → Prop} {bt : Nat → Nat} {n j o L c : Nat} {s c1_h c2_h hh : Nat} (h1_h : 60 ≤ s) (h2_h : s ≤ 62) (l1_h : c1_h < 10005) (l2_h : c2_h < 10005) (hS : rPS bt n j L o M) (hlc : L + 3 + c ≤ j) (hh1_h : 1 ≤ hh) (hq : ∀ M2, dk_fr (rPf L) M M2 → rPS bt n j (L + 3 + c) o M2 → sgR (M2.1 105) L (L + 3 + c) hh (py_neg c (fun fe => sg_cmp s (sg_ev fe c1_h) (sg_ev fe c2_h))) → Q none M2) {x4_h : Option Value} : dk_W (d + 1) mX12_one 134 [some (.ref 104), some (.int (nI c)), some (.int (rl_v c1_h)), some (.int (nI s)), x4_h] [.int (rl_v c2_h)] M Q := by
  refine w_is4 (n := 136) dX12_one_134 rfl rfl (by decide) ?_
  exact r_o136 h1_h h2_h l1_h l2_h hS hlc hh1_h hq

set_option maxRecDepth 20000 in
theorem r_o100 {d : Nat} {M : dk_Mem} {Q : Option Value → dk_Mem → Prop} {bt : Nat → Nat} {n j o L c : Nat} {hh c1_h : Nat} (hS : rPS bt n (j + 1) L o M) (hj : L + c ≤ j) (hh1_h : 1 ≤ hh) (e1_h : py_side (tk_k bt n) (tk_v bt n) j = some c1_h) (hg : (py_cmp (tk_k bt n) (tk_v bt n) j).1 = true → ∀ M2, dk_fr (rPf L) M M2 → rPS bt n (py_cmp (tk_k bt n) (tk_v bt n) j).2.1 (L + 3 + c) o M2 → sgR (M2.1 105) L (L + 3 + c) hh (py_neg c (py_cmp (tk_k bt n) (tk_v bt n) j).2.2) → Q none M2) (hb : (py_cmp (tk_k bt n) (tk_v bt n) j).1 = false → ∀ M2 L1, dk_fr (rPf L) M M2 → rPB bt n (py_cmp (tk_k bt n) (tk_v bt n) j).2.1 L1 o M2 → L1 = L → Q none M2) {x3_h x4_h : Option Value} : dk_W (d + 4) mX12_one 100 [some (.ref 104), some (.int (nI c)), some (.int (rl_v c1_h)), x3_h, x4_h] [] M Q := by
  unfold py_cmp at hg hb
  rw [e1_h] at hg hb
  dsimp only at hg hb
  refine w_al0 (n := 101) dX12_one_100 rfl ?_
  refine g_I (n := 104) f_X12_152_12 pl_104 dX12_one_101 rfl ?_
  rw [hS.2.1.2.2.2]
  refine w_is3 (n := 105) dX12_one_104 rfl rfl (by decide) ?_
  refine w_al0 (n := 106) dX12_one_105 rfl ?_
  refine w_al0 (n := 107) dX12_one_106 rfl ?_
  refine g_Z (n := 110) f_X12_164_12 pl_104 dX12_one_107 rfl ?_
  rw [hS.2.2.1]
  refine w_if_ne (n := 113) 122 dX12_one_110 (by decide) rfl (fun z110_h => ?_) (fun z110_h => ?_)
  · skip
    first | exact absurd rfl z110_h | exact r_o122 hS.b1 (fun M2 L1 a b e => hb rfl M2 L1 a b e)
  · skip
    refine w_al0 (n := 114) dX12_one_113 rfl ?_
    refine w_bipush (n := 116) (nI 21) dX12_one_114 (by decide) rfl ?_
    refine w_cV1 (n := 119) pl_104 cl_12 s0_X12_passes k_X12_174 (Nat.le_of_ble_eq_true rfl) dX12_one_116 rfl (r_passes hS (w := 21) (by decide) (fun k1_h M2 f1_h hS2 => ?_) (fun k1_h => ?_))
    · skip
      rw [if_pos k1_h] at hg hb
      refine w_if_ne (n := 122) 126 dX12_one_119 (by decide) rfl (fun _ => ?_) (fun h => absurd h (by decide))
      refine w_iconst (n := 127) (nI 0) dX12_one_126 (by decide) rfl ?_
      refine p_Z (n := 130) (by decide) f_X12_164_12 pl_104 dX12_one_127 rfl ?_
      refine w_al0 (n := 131) dX12_one_130 rfl ?_
      refine w_cV0 (n := 134) pl_104 cl_12 s0_X12_side k_X12_183 (Nat.le_of_ble_eq_true rfl) dX12_one_131 rfl (r_side hS2.b0 (fun c2_h e2_h M3 g1_h hS3 g3_h => ?_) (fun e2_h M3 v g1_h hS3 => ?_))
      · skip
        have sg := tk_sgn k1_h
        rw [e2_h] at hg
        exact r_o136t sg.1 sg.2 (py_side_le e1_h) (py_side_le e2_h) hS3 (by omega) hh1_h (fun M9 a b e => hg rfl M9 ((rPf_p (rPf_x f1_h) (by omega) (by omega)).tr (g1_h.tr a)) b e)
      · skip
        rw [e2_h] at hb
        exact r_o134b hS3 (hb rfl M3 L ((rPf_p (rPf_x f1_h) (by omega) (by omega)).tr g1_h) hS3 rfl)
    · skip
      rw [if_neg k1_h] at hb
      refine w_if_ne (n := 122) 126 dX12_one_119 (by decide) rfl (fun h => absurd h (by decide)) (fun _ => ?_)
      first | exact absurd rfl z110_h | exact r_o122 hS.b1 (fun M2 L1 a b e => hb rfl M2 L1 a b e)

set_option maxRecDepth 20000 in
theorem r_o100b {d : Nat} {M : dk_Mem} {Q : Option Value → dk_Mem → Prop} {bt : Nat → Nat} {n o L c : Nat} {j2_h : Nat} (hS : rPB bt n j2_h L o M) (hb : ∀ M2 L1, dk_fr (rPf L) M M2 → rPB bt n j2_h L1 o M2 → L1 = L → Q none M2) {x2_h : Int32} {x3_h x4_h : Option Value} : dk_W (d + 4) mX12_one 100 [some (.ref 104), some (.int (nI c)), some (.int x2_h), x3_h, x4_h] [] M Q := by
  refine w_al0 (n := 101) dX12_one_100 rfl ?_
  refine g_I (n := 104) f_X12_152_12 pl_104 dX12_one_101 rfl ?_
  refine w_is3 (n := 105) dX12_one_104 rfl rfl (by decide) ?_
  refine w_al0 (n := 106) dX12_one_105 rfl ?_
  refine w_al0 (n := 107) dX12_one_106 rfl ?_
  refine g_Z (n := 110) f_X12_164_12 pl_104 dX12_one_107 rfl ?_
  rw [hS.2.2.1]
  refine w_if_ne (n := 113) 122 dX12_one_110 (by decide) rfl (fun z110_h => ?_) (fun z110_h => ?_)
  · skip
    exact r_o122 hS.b1 hb
  · skip
    exact absurd z110_h (by decide)

set_option maxRecDepth 20000 in
theorem r_o99 {d : Nat} {M : dk_Mem} {Q : Option Value → dk_Mem → Prop} {c v : Int32} {x2_h x3_h x4_h : Option Value} (hx : dk_W d mX12_one 100 [some (.ref 104), some (.int c), some (.int v), x3_h, x4_h] [] M Q) : dk_W d mX12_one 99 [some (.ref 104), some (.int c), x2_h, x3_h, x4_h] [.int v] M Q := by
  refine w_is2 (n := 100) dX12_one_99 rfl rfl (by decide) ?_
  exact hx

set_option maxRecDepth 20000 in
theorem r_o95 {d : Nat} {M : dk_Mem} {Q : Option Value → dk_Mem → Prop} {bt : Nat → Nat} {n j o L c : Nat} {hh : Nat} (hS : rPS bt n j L o M) (hj : L + c ≤ j) (hh1_h : 1 ≤ hh) (hg : (py_cmp (tk_k bt n) (tk_v bt n) j).1 = true → ∀ M2, dk_fr (rPf L) M M2 → rPS bt n (py_cmp (tk_k bt n) (tk_v bt n) j).2.1 (L + 3 + c) o M2 → sgR (M2.1 105) L (L + 3 + c) hh (py_neg c (py_cmp (tk_k bt n) (tk_v bt n) j).2.2) → Q none M2) (hb : (py_cmp (tk_k bt n) (tk_v bt n) j).1 = false → ∀ M2 L1, dk_fr (rPf L) M M2 → rPB bt n (py_cmp (tk_k bt n) (tk_v bt n) j).2.1 L1 o M2 → L1 = L → Q none M2) {x2_h x3_h x4_h : Option Value} : dk_W (d + 4) mX12_one 95 [some (.ref 104), some (.int (nI c)), x2_h, x3_h, x4_h] [] M Q := by
  refine w_al0 (n := 96) dX12_one_95 rfl ?_
  refine w_cV0 (n := 99) pl_104 cl_12 s0_X12_side k_X12_183 (Nat.le_of_ble_eq_true rfl) dX12_one_96 rfl (r_side hS (fun c1_h e1_h M2 g1_h hS2 g3_h => ?_) (fun e1_h M2 v g1_h hS2 => ?_))
  · skip
    exact r_o99 (r_o100 hS2 hj hh1_h e1_h (fun e M9 a b k => hg e M9 (g1_h.tr a) b k) (fun e M9 L1 a b k => hb e M9 L1 (g1_h.tr a) b k))
  · skip
    have ec : py_cmp (tk_k bt n) (tk_v bt n) j = (false, j, py_no) := by unfold py_cmp; rw [e1_h]
    rw [ec] at hb
    exact r_o99 (r_o100b hS2 (fun M9 L1 a b k => hb rfl M9 L1 (g1_h.tr a) b k))

set_option maxRecDepth 20000 in
theorem r_o74 {d : Nat} {M : dk_Mem} {Q : Option Value → dk_Mem → Prop} {bt : Nat → Nat} {n o L c : Nat} {j2_h L1 o1_h : Nat} (ho : o1_h = o + 1) (hS : rPB bt n j2_h L1 o1_h (dk_put M 104 10 (nI 1))) (hq : ∀ M2, dk_fr (rPf L) M M2 → rPB bt n j2_h L1 o M2 → Q none M2) {x2_h x3_h x4_h : Option Value} : dk_W d mX12_one 74 [some (.ref 104), some (.int (nI c)), x2_h, x3_h, x4_h] [.ref 104] M Q := by
  subst ho
  refine w_iconst (n := 75) (nI 1) dX12_one_74 (by decide) rfl ?_
  refine w_goto 79 dX12_one_75 (by decide) ?_
  refine p_Z (n := 82) (by decide) f_X12_164_12 pl_104 dX12_one_79 rfl ?_
  refine w_al0 (n := 83) dX12_one_82 rfl ?_
  refine w_dup (n := 84) rfl dX12_one_83 rfl ?_
  refine g_I (n := 87) f_X12_177_12 pl_104 dX12_one_84 rfl ?_
  rw [hS.2.2.2.1]
  refine w_iconst (n := 88) (nI 1) dX12_one_87 (by decide) rfl ?_
  refine w_isub (n := 89) dX12_one_88 rfl ?_
  rw [q_pm1 (by omega), Nat.add_sub_cancel]
  refine p_I (n := 92) f_X12_177_12 pl_104 dX12_one_89 rfl ?_
  refine w_goto 159 dX12_one_92 (by decide) ?_
  have hS2 := hS.op (o' := o) (by have := hS.2.2.2.2.2; omega)
  exact r_oB hS2.2.2.1 (hq _ (rPf_p (rPf_p dk_fr.rf (by omega) (by omega)) (by omega) (by omega)) hS2)

set_option maxRecDepth 20000 in
theorem r_o57 {d : Nat} {M : dk_Mem} {Q : Option Value → dk_Mem → Prop} {bt : Nat → Nat} {n o L c : Nat} {j2_h L1 hh : Nat} {s : py_Sm} (hS : rPS bt n j2_h L1 (o + 1) M) (hc : L1 + c ≤ j2_h) (hsg : sgR (M.1 105) L L1 hh s) (hl : L ≤ L1) (hg : tk_k bt n j2_h = 23 → ∀ M2, dk_fr (rPf L) M M2 → rPS bt n (j2_h + 1) (L1 + c) o M2 → sgR (M2.1 105) L (L1 + c) hh (py_neg c s) → Q none M2) (hb : tk_k bt n j2_h ≠ 23 → ∀ M2, dk_fr (rPf L) M M2 → rPB bt n j2_h L1 o M2 → Q none M2) {x2_h x3_h x4_h : Option Value} : dk_W (d + 4) mX12_one 57 [some (.ref 104), some (.int (nI c)), x2_h, x3_h, x4_h] [] M Q := by
  have o3_h := hS.2.2.2.2.2.2.2
  refine w_al0 (n := 58) dX12_one_57 rfl ?_
  refine w_al0 (n := 59) dX12_one_58 rfl ?_
  refine g_Z (n := 62) f_X12_164_12 pl_104 dX12_one_59 rfl ?_
  rw [hS.2.2.1]
  refine w_if_ne (n := 65) 74 dX12_one_62 (by decide) rfl (fun z62_h => ?_) (fun z62_h => ?_)
  · skip
    first | exact absurd rfl z62_h | exact r_o74 rfl hS.b1 (hb k1_h)
  · skip
    refine w_al0 (n := 66) dX12_one_65 rfl ?_
    refine w_bipush (n := 68) (nI 23) dX12_one_66 (by decide) rfl ?_
    refine w_cV1 (n := 71) pl_104 cl_12 s0_X12_passes k_X12_174 (Nat.le_of_ble_eq_true rfl) dX12_one_68 rfl (r_passes hS (w := 23) (by decide) (fun k1_h M2 f1_h hS2 => ?_) (fun k1_h => ?_))
    · skip
      refine w_if_ne (n := 74) 78 dX12_one_71 (by decide) rfl (fun _ => ?_) (fun h => absurd h (by decide))
      refine w_iconst (n := 79) (nI 0) dX12_one_78 (by decide) rfl ?_
      refine p_Z (n := 82) (by decide) f_X12_164_12 pl_104 dX12_one_79 rfl ?_
      refine w_al0 (n := 83) dX12_one_82 rfl ?_
      refine w_dup (n := 84) rfl dX12_one_83 rfl ?_
      refine g_I (n := 87) f_X12_177_12 pl_104 dX12_one_84 rfl ?_
      rw [hS2.b0.2.2.2.1]
      refine w_iconst (n := 88) (nI 1) dX12_one_87 (by decide) rfl ?_
      refine w_isub (n := 89) dX12_one_88 rfl ?_
      rw [q_pm1 (by omega), Nat.add_sub_cancel]
      refine p_I (n := 92) f_X12_177_12 pl_104 dX12_one_89 rfl ?_
      refine w_goto 159 dX12_one_92 (by decide) ?_
      have hS3 := hS2.b0.op (o' := o) (by omega)
      have fx : dk_fr (rPf L) M (dk_put (dk_put M2 104 10 (nI 0)) 104 11 (nI o)) := rPf_p (rPf_p (rPf_x f1_h) (by omega) (by omega)) (by omega) (by omega)
      exact r_o159 (L1 := L1) (by omega) hS3 (hsg.ext (fun k a b => by rw [dk_put_k (by omega), dk_put_k (by omega)]; exact f1_h.2 105 k (by unfold rLx; omega))) (fun M9 a b e => hg k1_h M9 (fx.tr (rPf_up a hl)) b e)
    · skip
      refine w_if_ne (n := 74) 78 dX12_one_71 (by decide) rfl (fun h => absurd h (by decide)) (fun _ => ?_)
      first | exact absurd rfl z62_h | exact r_o74 rfl hS.b1 (hb k1_h)

set_option maxRecDepth 20000 in
theorem r_o57b {d : Nat} {M : dk_Mem} {Q : Option Value → dk_Mem → Prop} {bt : Nat → Nat} {n o L c : Nat} {j2_h L1 : Nat} (hS : rPB bt n j2_h L1 (o + 1) M) (hb : ∀ M2, dk_fr (rPf L) M M2 → rPB bt n j2_h L1 o M2 → Q none M2) {x2_h x3_h x4_h : Option Value} : dk_W d mX12_one 57 [some (.ref 104), some (.int (nI c)), x2_h, x3_h, x4_h] [] M Q := by
  refine w_al0 (n := 58) dX12_one_57 rfl ?_
  refine w_al0 (n := 59) dX12_one_58 rfl ?_
  refine g_Z (n := 62) f_X12_164_12 pl_104 dX12_one_59 rfl ?_
  rw [hS.2.2.1]
  refine w_if_ne (n := 65) 74 dX12_one_62 (by decide) rfl (fun z62_h => ?_) (fun z62_h => ?_)
  · skip
    exact r_o74 rfl hS.b1 hb
  · skip
    exact absurd z62_h (by decide)

def r_CP (bt : Nat → Nat) (n : Nat) (m : dk_Mt) (P : Nat → py_R) (hh B o D : Nat) : Prop := ∀ (i L : Nat) (M : dk_Mem) (Q : Option Value → dk_Mem → Prop), rPS bt n i L o M → ((P i).1 = true → ∀ M2 L', dk_fr (rPf L) M M2 → rPS bt n (P i).2.1 L' o M2 → L' + i ≤ L + (P i).2.1 → sgR (M2.1 105) L L' hh (P i).2.2 → Q none M2) → ((P i).1 = false → ∀ M2 L', dk_fr (rPf L) M M2 → rPB bt n (P i).2.1 L' o M2 → L ≤ L' → L' ≤ B → Q none M2) → dk_Call D m [.ref 104] M Q

set_option maxRecDepth 20000 in
theorem r_o17 {d : Nat} {M : dk_Mem} {Q : Option Value → dk_Mem → Prop} {bt : Nat → Nat} {n j o L c : Nat} {e D : Nat} (hoe : o + e = 3) (hIH : ∀ e1_h, e = e1_h + 1 → r_CP bt n mX12_condition (py_cnd (tk_k bt n) (tk_v bt n) (py_sub (tk_k bt n) (tk_v bt n) e1_h)) (2 * e1_h + 3) (212 + 2 * e1_h) (o + 1) (d + D + 3)) (hS : rPS bt n j L o M) (hj : L + c ≤ j) (hg : (py_one1 (tk_k bt n) (tk_v bt n) (py_sub (tk_k bt n) (tk_v bt n) e) c j).1 = true → ∀ M2 L1, dk_fr (rPf L) M M2 → rPS bt n (py_one1 (tk_k bt n) (tk_v bt n) (py_sub (tk_k bt n) (tk_v bt n) e) c j).2.1 L1 o M2 → L1 + j ≤ L + c + (py_one1 (tk_k bt n) (tk_v bt n) (py_sub (tk_k bt n) (tk_v bt n) e) c j).2.1 → sgR (M2.1 105) L L1 (2 * e + 1) (py_one1 (tk_k bt n) (tk_v bt n) (py_sub (tk_k bt n) (tk_v bt n) e) c j).2.2 → Q none M2) (hb : (py_one1 (tk_k bt n) (tk_v bt n) (py_sub (tk_k bt n) (tk_v bt n) e) c j).1 = false → ∀ M2 L1, dk_fr (rPf L) M M2 → rPB bt n (py_one1 (tk_k bt n) (tk_v bt n) (py_sub (tk_k bt n) (tk_v bt n) e) c j).2.1 L1 o M2 → L ≤ L1 → L1 ≤ 210 + 2 * e → Q none M2) {x2_h x3_h x4_h : Option Value} : dk_W (d + D + 4) mX12_one 17 [some (.ref 104), some (.int (nI c)), x2_h, x3_h, x4_h] [] M Q := by
  have kl : tk_k bt n j ≤ 26 := lx_k0_le
  have h200_h := hS.2.2.2.2.2.2.1
  have hli := hS.2.2.2.2.2.1
  unfold py_one1 at hg hb
  refine w_al0 (n := 18) dX12_one_17 rfl ?_
  refine g_I (n := 21) f_X12_155_12 pl_104 dX12_one_18 rfl ?_
  rw [hS.2.1.1]
  refine w_bipush (n := 23) (nI 22) dX12_one_21 (by decide) rfl ?_
  refine w_ic_ne (n := 26) 95 dX12_one_23 (by decide) rfl (fun z23_h => ?_) (fun z23_h => ?_)
  · skip
    first | (have k1_h : ¬ tk_k bt n j = 22 := (fun z => z23_h (by rw [z])); rw [if_neg k1_h] at hg hb; refine r_o95 (d := d + D) (hh := 2 * e + 1) hS hj (by omega) (fun g0_h M9 a b k => ?_) (fun g0_h M9 L1 a b k => ?_); (rw [if_pos g0_h] at hg; exact hg rfl M9 _ a b (by obtain ⟨c1_h, c2_h, -, -, -, ec⟩ := py_cmp_ok g0_h; rw [ec]; show L + 3 + c + j ≤ L + c + (j + 3); omega) k); (rw [if_neg (by rw [g0_h]; decide)] at hb; exact hb rfl M9 L1 a b (by omega) (by omega))) | (have k1_h : tk_k bt n j = 22 := (nI_eq (by omega) (by decide)).mp z23_h; rw [if_pos k1_h] at hg hb; rw [q_le (by decide) (by have := hS.2.2.2.2.2.2.2; omega)] at z31_h; have e0_h : e = 0 := (by omega); subst e0_h; have ec : py_cmp (tk_k bt n) (tk_v bt n) j = (false, j, py_no) := (by unfold py_cmp py_side; rw [if_neg (by omega), if_neg (by omega)]); refine r_o95 (d := d + D) (hh := 1) hS hj (by omega) (fun g0_h M9 a b k => by rw [ec] at g0_h; cases g0_h) (fun g0_h M9 L1 a b k => ?_); rw [ec] at b; exact hb rfl M9 L1 a b (by omega) (by omega))
  · skip
    refine w_al0 (n := 27) dX12_one_26 rfl ?_
    refine g_I (n := 30) f_X12_177_12 pl_104 dX12_one_27 rfl ?_
    rw [hS.2.2.2.1]
    refine w_iconst (n := 31) (nI 3) dX12_one_30 (by decide) rfl ?_
    refine w_ic_ge (n := 34) 95 dX12_one_31 (by decide) rfl (fun z31_h => ?_) (fun z31_h => ?_)
    · skip
      first | (have k1_h : ¬ tk_k bt n j = 22 := (fun z => z23_h (by rw [z])); rw [if_neg k1_h] at hg hb; refine r_o95 (d := d + D) (hh := 2 * e + 1) hS hj (by omega) (fun g0_h M9 a b k => ?_) (fun g0_h M9 L1 a b k => ?_); (rw [if_pos g0_h] at hg; exact hg rfl M9 _ a b (by obtain ⟨c1_h, c2_h, -, -, -, ec⟩ := py_cmp_ok g0_h; rw [ec]; show L + 3 + c + j ≤ L + c + (j + 3); omega) k); (rw [if_neg (by rw [g0_h]; decide)] at hb; exact hb rfl M9 L1 a b (by omega) (by omega))) | (have k1_h : tk_k bt n j = 22 := (nI_eq (by omega) (by decide)).mp z23_h; rw [if_pos k1_h] at hg hb; rw [q_le (by decide) (by have := hS.2.2.2.2.2.2.2; omega)] at z31_h; have e0_h : e = 0 := (by omega); subst e0_h; have ec : py_cmp (tk_k bt n) (tk_v bt n) j = (false, j, py_no) := (by unfold py_cmp py_side; rw [if_neg (by omega), if_neg (by omega)]); refine r_o95 (d := d + D) (hh := 1) hS hj (by omega) (fun g0_h M9 a b k => by rw [ec] at g0_h; cases g0_h) (fun g0_h M9 L1 a b k => ?_); rw [ec] at b; exact hb rfl M9 L1 a b (by omega) (by omega))
    · skip
      refine w_al0 (n := 35) dX12_one_34 rfl ?_
      refine w_bipush (n := 37) (nI 22) dX12_one_35 (by decide) rfl ?_
      refine w_cV1 (n := 40) pl_104 cl_12 s0_X12_passes k_X12_174 (Nat.le_of_ble_eq_true rfl) dX12_one_37 rfl (r_passes hS (w := 22) (by decide) (fun k1_h M2 f1_h hS2 => ?_) (fun k1_h => ?_))
      · skip
        have hoe3 : o < 3 := by rw [q_le (by decide) (by omega)] at z31_h; omega
        obtain ⟨e1_h, he1_h⟩ : ∃ e1_h, e = e1_h + 1 := ⟨e - 1, by omega⟩
        subst he1_h
        refine w_if_eq (n := 43) 95 dX12_one_40 (by decide) rfl (fun h => absurd h (by decide)) (fun _ => ?_)
        refine w_al0 (n := 44) dX12_one_43 rfl ?_
        refine w_dup (n := 45) rfl dX12_one_44 rfl ?_
        refine g_I (n := 48) f_X12_177_12 pl_104 dX12_one_45 rfl ?_
        rw [hS2.2.2.2.1]
        refine w_iconst (n := 49) (nI 1) dX12_one_48 (by decide) rfl ?_
        refine w_iadd (n := 50) dX12_one_49 rfl ?_
        rw [nI_add]
        refine p_I (n := 53) f_X12_177_12 pl_104 dX12_one_50 rfl ?_
        have hS3 := hS2.op (o' := o + 1) (by omega)
        have f3_h : dk_fr (rPf L) M (dk_put M2 104 11 (nI (o + 1))) := rPf_p (rPf_x f1_h) (by omega) (by omega)
        rw [if_pos k1_h] at hg hb
        refine w_al0 (n := 54) dX12_one_53 rfl ?_
        refine w_cV0 (n := 57) pl_104 cl_12 s0_X12_condition k_X12_180 (Nat.le_of_ble_eq_true rfl) dX12_one_54 rfl (hIH e1_h rfl (j + 1) L _ _ hS3 (fun g0_h M4 L1 g1_h g2_h g3_h g4_h => ?_) (fun g0_h M4 L1 g1_h g2_h g3b g3_h => ?_))
        · generalize hR : py_cnd (tk_k bt n) (tk_v bt n) (py_sub (tk_k bt n) (tk_v bt n) e1_h) (j + 1) = R at *
          rw [show py_sub (tk_k bt n) (tk_v bt n) (e1_h + 1) = some (py_cnd (tk_k bt n) (tk_v bt n) (py_sub (tk_k bt n) (tk_v bt n) e1_h)) from rfl] at hg hb
          dsimp only at hg hb
          rw [hR, if_pos g0_h] at hg hb
          refine r_o57 (L := L) (L1 := L1) (d := d + D) g2_h (by omega) g4_h (Nat.le_of_lt g4_h.1) (fun k2_h M9 a b k => ?_) (fun k2_h M9 a b => ?_)
          · rw [if_pos k2_h] at hg
            exact hg rfl M9 _ (f3_h.tr (g1_h.tr a)) b (by show L1 + c + j ≤ L + c + (R.2.1 + 1); omega) (k.mono (by omega))
          · rw [if_neg k2_h] at hb
            exact hb rfl M9 _ (f3_h.tr (g1_h.tr a)) b (Nat.le_of_lt g4_h.1) (by have := g2_h.2.2.2.2.2.1; have := g2_h.2.2.2.2.2.2.1; omega)
        · generalize hR : py_cnd (tk_k bt n) (tk_v bt n) (py_sub (tk_k bt n) (tk_v bt n) e1_h) (j + 1) = R at *
          rw [show py_sub (tk_k bt n) (tk_v bt n) (e1_h + 1) = some (py_cnd (tk_k bt n) (tk_v bt n) (py_sub (tk_k bt n) (tk_v bt n) e1_h)) from rfl] at hb
          dsimp only at hb
          rw [hR, if_neg (by rw [g0_h]; decide)] at hb
          exact r_o57b g2_h (fun M9 a b => hb rfl M9 _ (f3_h.tr (g1_h.tr a)) b g3b (by omega))
      · skip
        exact absurd ((nI_eq (by omega) (by decide)).mp z23_h) k1_h

set_option maxRecDepth 20000 in
theorem r_o2e {d : Nat} {M : dk_Mem} {Q : Option Value → dk_Mem → Prop} {bt : Nat → Nat} {n o L i : Nat} {c : Int32} (hS : rPS bt n i L o M) (hk : tk_k bt n i ≠ 17) {x2_h x3_h x4_h : Option Value} (hx : dk_W (d + 4) mX12_one 17 [some (.ref 104), some (.int c), x2_h, x3_h, x4_h] [] M Q) : dk_W (d + 4) mX12_one 2 [some (.ref 104), some (.int c), x2_h, x3_h, x4_h] [] M Q := by
  refine w_al0 (n := 3) dX12_one_2 rfl ?_
  refine w_bipush (n := 5) (nI 17) dX12_one_3 (by decide) rfl ?_
  refine w_cV1 (n := 8) pl_104 cl_12 s0_X12_passes k_X12_174 (Nat.le_of_ble_eq_true rfl) dX12_one_5 rfl (r_passes hS (w := 17) (by decide) (fun k1_h M2 f1_h hS2 => ?_) (fun k1_h => ?_))
  · skip
    exact absurd k1_h hk
  · skip
    refine w_if_eq (n := 11) 17 dX12_one_8 (by decide) rfl (fun _ => ?_) (fun h => absurd (by decide) h)
    exact hx

set_option maxRecDepth 20000 in
theorem r_o2 {d : Nat} {M : dk_Mem} {Q : Option Value → dk_Mem → Prop} {bt : Nat → Nat} {n o L i : Nat} {e D : Nat} (hoe : o + e = 3) (hIH : ∀ e1_h, e = e1_h + 1 → r_CP bt n mX12_condition (py_cnd (tk_k bt n) (tk_v bt n) (py_sub (tk_k bt n) (tk_v bt n) e1_h)) (2 * e1_h + 3) (212 + 2 * e1_h) (o + 1) (d + D + 3)) (hLi : L ≤ i) {R : py_R} (hg : R.1 = true → ∀ M2 L1, dk_fr (rPf L) M M2 → rPS bt n R.2.1 L1 o M2 → L1 + i ≤ L + R.2.1 → sgR (M2.1 105) L L1 (2 * e + 1) R.2.2 → Q none M2) (hb : R.1 = false → ∀ M2 L1, dk_fr (rPf L) M M2 → rPB bt n R.2.1 L1 o M2 → L ≤ L1 → L1 ≤ 210 + 2 * e → Q none M2) {x2_h x3_h x4_h : Option Value} : ∀ (f c : Nat) (M1 : dk_Mem), c + f = 200 → dk_fr (rPf L) M M1 → rPS bt n (i + c) L o M1 → R = py_one1 (tk_k bt n) (tk_v bt n) (py_sub (tk_k bt n) (tk_v bt n) e) (py_nots (tk_k bt n) f (i + c) - i) (py_nots (tk_k bt n) f (i + c)) → dk_W (d + D + 4) mX12_one 2 [some (.ref 104), some (.int (nI c)), x2_h, x3_h, x4_h] [] M1 Q := by
  have fin : ∀ (c : Nat) (M1 : dk_Mem), dk_fr (rPf L) M M1 → rPS bt n (i + c) L o M1 → R = py_one1 (tk_k bt n) (tk_v bt n) (py_sub (tk_k bt n) (tk_v bt n) e) c (i + c) → dk_W (d + D + 4) mX12_one 17 [some (.ref 104), some (.int (nI c)), x2_h, x3_h, x4_h] [] M1 Q := fun c M1 hf hS hR => by
    refine r_o17 hoe hIH hS (by omega) (fun g0_h M9 L1 a b k s => ?_) (fun g0_h M9 L1 a b k2_h k => ?_)
    · rw [← hR] at g0_h b k s
      exact hg g0_h M9 L1 (hf.tr a) b (by omega) s
    · rw [← hR] at g0_h b
      exact hb g0_h M9 L1 (hf.tr a) b k2_h k
  intro f
  induction f with
  | zero =>
    intro c M1 hc hf hS hR
    have nk : tk_k bt n (i + c) ≠ 17 := fun z => by have := (tk_lt (bt := bt) (n := n) (i := i + c) (by omega)).1; have := hS.1.2.1; omega
    rw [py_nots, show i + c - i = c by omega] at hR
    exact r_o2e hS nk (fin c M1 hf hS hR)
  | succ f ih =>
    intro c M1 hc hf hS hR
    rw [py_nots] at hR
    refine w_al0 (n := 3) dX12_one_2 rfl ?_
    refine w_bipush (n := 5) (nI 17) dX12_one_3 (by decide) rfl ?_
    refine w_cV1 (n := 8) pl_104 cl_12 s0_X12_passes k_X12_174 (Nat.le_of_ble_eq_true rfl) dX12_one_5 rfl (r_passes hS (w := 17) (by decide) (fun k1_h M2 f1_h hS2 => ?_) (fun k1_h => ?_))
    · skip
      refine w_if_eq (n := 11) 17 dX12_one_8 (by decide) rfl (fun h => absurd h (by decide)) (fun _ => ?_)
      refine w_inc1 (n := 14) (nI 1) dX12_one_11 (by decide) rfl rfl (by decide) ?_
      refine w_goto 2 dX12_one_14 (by decide) ?_
      rw [nI_add]
      rw [if_pos k1_h] at hR
      exact ih (c + 1) M2 (by omega) (hf.tr (rPf_x f1_h)) hS2 hR
    · skip
      refine w_if_eq (n := 11) 17 dX12_one_8 (by decide) rfl (fun _ => ?_) (fun h => absurd (by decide) h)
      rw [if_neg k1_h, show i + c - i = c by omega] at hR
      exact fin c M1 hf hS hR

set_option maxRecDepth 20000 in
theorem r_oneS {d D : Nat} {bt : Nat → Nat} {n o e : Nat} (hoe : o + e = 3) (hIH : ∀ e1_h, e = e1_h + 1 → r_CP bt n mX12_condition (py_cnd (tk_k bt n) (tk_v bt n) (py_sub (tk_k bt n) (tk_v bt n) e1_h)) (2 * e1_h + 3) (212 + 2 * e1_h) (o + 1) (d + D + 3)) : r_CP bt n mX12_one (py_one (tk_k bt n) (tk_v bt n) (py_sub (tk_k bt n) (tk_v bt n) e)) (2 * e + 1) (210 + 2 * e) o (d + D + 4) := by
  intro i L M Q hS hg hb
  refine dk_enter [some (.ref 104), none, none, none, none] (by decide) (fun _ => rfl) (fun _ => Nat.le_of_ble_eq_true rfl) ?_
  refine w_iconst (n := 1) (nI 0) dX12_one_0 (by decide) rfl ?_
  refine w_is1 (n := 2) dX12_one_1 rfl rfl (by decide) ?_
  exact r_o2 hoe hIH hS.2.2.2.2.2.1 hg hb 200 0 M (by omega) dk_fr.rf hS rfl
