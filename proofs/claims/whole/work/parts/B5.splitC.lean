/-! ===== the component's tokens ===== -/
theorem ct_cases {k : Nat} (v : Nat) (hk : k ≤ 26) : (k ≤ 5 ∧ ct k v = k) ∨ (6 ≤ k ∧ k ≤ 8 ∧ ct k v = k + 1) ∨ (9 ≤ k ∧ k ≤ 13 ∧ ct k v = k + 4) ∨ (k = 14 ∧ ct k v = 6) ∨ (k = 15 ∧ ct k v = 10) ∨ (k = 16 ∧ ct k v = 11) ∨ (k = 17 ∧ ct k v = 12) ∨ (k = 20 ∧ ct k v = 100 + v) ∨ (k = 21 ∧ ct k v = v - 40) ∨ (k = 22 ∧ ct k v = 23) ∨ (k = 23 ∧ ct k v = 24) ∨ (k = 24 ∧ ct k v = 25) ∨ (k = 25 ∧ ct k v = 27) ∨ ((k = 18 ∨ k = 19 ∨ k = 26) ∧ ct k v = 26) := by
  rcases (show k ≤ 5 ∨ (6 ≤ k ∧ k ≤ 8) ∨ (9 ≤ k ∧ k ≤ 13) ∨ k = 14 ∨ k = 15 ∨ k = 16 ∨ k = 17 ∨ k = 20 ∨ k = 21 ∨ k = 22 ∨ k = 23 ∨ k = 24 ∨ k = 25 ∨ k = 18 ∨ k = 19 ∨ k = 26 by omega) with h | h | h | h | h | h | h | h | h | h | h | h | h | h | h | h
  · exact Or.inl ⟨h, if_pos h⟩
  · exact Or.inr (Or.inl ⟨h.1, h.2, by unfold ct; rw [if_neg (by omega), if_pos h.2]⟩)
  · exact Or.inr (Or.inr (Or.inl ⟨h.1, h.2, by unfold ct; rw [if_neg (by omega), if_neg (by omega), if_pos h.2]⟩))
  · subst h; exact Or.inr (Or.inr (Or.inr (Or.inl ⟨rfl, rfl⟩)))
  · subst h; exact Or.inr (Or.inr (Or.inr (Or.inr (Or.inl ⟨rfl, rfl⟩))))
  · subst h; exact Or.inr (Or.inr (Or.inr (Or.inr (Or.inr (Or.inl ⟨rfl, rfl⟩)))))
  · subst h; exact Or.inr (Or.inr (Or.inr (Or.inr (Or.inr (Or.inr (Or.inl ⟨rfl, rfl⟩))))))
  · subst h; exact Or.inr (Or.inr (Or.inr (Or.inr (Or.inr (Or.inr (Or.inr (Or.inl ⟨rfl, rfl⟩)))))))
  · subst h; exact Or.inr (Or.inr (Or.inr (Or.inr (Or.inr (Or.inr (Or.inr (Or.inr (Or.inl ⟨rfl, rfl⟩))))))))
  · subst h; exact Or.inr (Or.inr (Or.inr (Or.inr (Or.inr (Or.inr (Or.inr (Or.inr (Or.inr (Or.inl ⟨rfl, rfl⟩)))))))))
  · subst h; exact Or.inr (Or.inr (Or.inr (Or.inr (Or.inr (Or.inr (Or.inr (Or.inr (Or.inr (Or.inr (Or.inl ⟨rfl, rfl⟩))))))))))
  · subst h; exact Or.inr (Or.inr (Or.inr (Or.inr (Or.inr (Or.inr (Or.inr (Or.inr (Or.inr (Or.inr (Or.inr (Or.inl ⟨rfl, rfl⟩)))))))))))
  · subst h; exact Or.inr (Or.inr (Or.inr (Or.inr (Or.inr (Or.inr (Or.inr (Or.inr (Or.inr (Or.inr (Or.inr (Or.inr (Or.inl ⟨rfl, rfl⟩))))))))))))
  · subst h; exact Or.inr (Or.inr (Or.inr (Or.inr (Or.inr (Or.inr (Or.inr (Or.inr (Or.inr (Or.inr (Or.inr (Or.inr (Or.inr (⟨Or.inl rfl, rfl⟩)))))))))))))
  · subst h; exact Or.inr (Or.inr (Or.inr (Or.inr (Or.inr (Or.inr (Or.inr (Or.inr (Or.inr (Or.inr (Or.inr (Or.inr (Or.inr (⟨Or.inr (Or.inl rfl), rfl⟩)))))))))))))
  · subst h; exact Or.inr (Or.inr (Or.inr (Or.inr (Or.inr (Or.inr (Or.inr (Or.inr (Or.inr (Or.inr (Or.inr (Or.inr (Or.inr (⟨Or.inr (Or.inr rfl), rfl⟩)))))))))))))
theorem ct_le {k v : Nat} (hk : k ≤ 26) (h0_h : k = 20 → v < 10000) (h1_h : k = 21 → 60 ≤ v ∧ v ≤ 62) : ct k v ≤ 10099 := by
  have h := ct_cases v hk
  generalize ct k v = t at h ⊢
  rcases h with h | h | h | h | h | h | h | h | h | h | h | h | h | h <;> omega
theorem ct_e {k v : Nat} (hk : k ≤ 26) (h0_h : k = 20 → v < 10000) (h1_h : k = 21 → 60 ≤ v ∧ v ≤ 62) : (ct k v = 12 ↔ k = 17) ∧ (ct k v = 23 ↔ k = 22) ∧ (ct k v = 24 ↔ k = 23) ∧ (ct k v = 25 ↔ k = 24) ∧ (ct k v = 27 ↔ k = 25) ∧ (ct k v = 10 ↔ k = 15) ∧ (ct k v = 11 ↔ k = 16) ∧ (ct k v = 6 ↔ k = 14) ∧ (ct k v ≤ 5 ↔ k ≤ 5) := by
  have h := ct_cases v hk
  generalize ct k v = t at h ⊢
  rcases h with h | h | h | h | h | h | h | h | h | h | h | h | h | h <;> (refine ⟨?_, ?_, ?_, ?_, ?_, ?_, ?_, ?_, ?_⟩ <;> omega)
theorem ct_k5 {k v : Nat} (h : k ≤ 5) : ct k v = k := if_pos h
theorem ct_do {k v : Nat} (hk : k ≤ 26) (h0_h : k = 20 → v < 10000) (h1_h : k = 21 → 60 ≤ v ∧ v ≤ 62) : ((7 ≤ ct k v ∧ ct k v ≤ 9) ↔ (6 ≤ k ∧ k ≤ 8)) ∧ (6 ≤ k → k ≤ 8 → ct k v = k + 1) := by
  have h := ct_cases v hk
  generalize ct k v = t at h ⊢
  rcases h with h | h | h | h | h | h | h | h | h | h | h | h | h | h <;> (refine ⟨?_, fun a b => ?_⟩ <;> omega)
theorem ct_sg {k v : Nat} (hk : k ≤ 26) (h0_h : k = 20 → v < 10000) (h1_h : k = 21 → 60 ≤ v ∧ v ≤ 62) : ((20 ≤ ct k v ∧ ct k v ≤ 22) ↔ k = 21) ∧ (k = 21 → ct k v = 20 + (v - 60)) := by
  have h := ct_cases v hk
  generalize ct k v = t at h ⊢
  rcases h with h | h | h | h | h | h | h | h | h | h | h | h | h | h <;> (refine ⟨?_, fun a => ?_⟩ <;> omega)
theorem ct_vl {k v : Nat} (hk : k ≤ 26) (h0_h : k = 20 → v < 10000) (h1_h : k = 21 → 60 ≤ v ∧ v ≤ 62) : (100 ≤ ct k v ↔ k = 20) ∧ (k = 20 → ct k v = 100 + v) ∧ ((13 ≤ ct k v ∧ ct k v ≤ 17) ↔ (9 ≤ k ∧ k ≤ 13)) ∧ (9 ≤ k → k ≤ 13 → ct k v = k + 4) := by
  have h := ct_cases v hk
  generalize ct k v = t at h ⊢
  rcases h with h | h | h | h | h | h | h | h | h | h | h | h | h | h <;> (refine ⟨?_, fun a => ?_, ?_, fun a b => ?_⟩ <;> omega)
def tk_t (bt : Nat → Nat) (n i : Nat) : Nat := ct (tk_k bt n i) (tk_v bt n i)
theorem tk_te (bt : Nat → Nat) (n i : Nat) : (tk_t bt n i = 12 ↔ tk_k bt n i = 17) ∧ (tk_t bt n i = 23 ↔ tk_k bt n i = 22) ∧ (tk_t bt n i = 24 ↔ tk_k bt n i = 23) ∧ (tk_t bt n i = 25 ↔ tk_k bt n i = 24) ∧ (tk_t bt n i = 27 ↔ tk_k bt n i = 25) ∧ (tk_t bt n i = 10 ↔ tk_k bt n i = 15) ∧ (tk_t bt n i = 11 ↔ tk_k bt n i = 16) ∧ (tk_t bt n i = 6 ↔ tk_k bt n i = 14) ∧ (tk_t bt n i ≤ 5 ↔ tk_k bt n i ≤ 5) := ct_e lx_k0_le (fun h => tk_num h) (fun h => tk_sgn h)
theorem tk_tl (bt : Nat → Nat) (n i : Nat) : tk_t bt n i ≤ 10099 := ct_le lx_k0_le (fun h => tk_num h) (fun h => tk_sgn h)
/-- the tokens stand in a book, N of them and an end -/
def cTk (β : Nat) (bt : Nat → Nat) (n N : Nat) (M : dk_Mem) : Prop := N ≤ 200 ∧ tk_k bt n N = 25 ∧ ∀ j, j ≤ N → M.1 (β + 6) j = nI (tk_t bt n j) ∧ M.1 (β + 7) j = nI (tk_b bt n j)
theorem cTk.fr {β : Nat} {bt : Nat → Nat} {n N : Nat} {M M' : dk_Mem} {S : Nat → Nat → Prop} (h : cTk β bt n N M) (hf : dk_fr S M M') (hS : ∀ q k, S q k → q ≠ β + 6 ∧ q ≠ β + 7) : cTk β bt n N M' := ⟨h.1, h.2.1, fun j hj => ⟨(hf.2 _ _ (fun z => (hS _ _ z).1 rfl)).trans (h.2.2 j hj).1, (hf.2 _ _ (fun z => (hS _ _ z).2 rfl)).trans (h.2.2 j hj).2⟩⟩
theorem cLT.fr {bt : Nat → Nat} {n : Nat} {M M' : dk_Mem} {S : Nat → Nat → Prop} (h : cLT bt n M) (hf : dk_fr S M M') (hS : ∀ q k, S q k → q ≠ 81) : cLT bt n M' := ⟨h.1, fun i hi => (hf.2 81 i (fun z => hS _ _ z rfl)).trans (h.2.1 i hi), h.2.2⟩
def cSp (β q k : Nat) : Prop := q = β + 6 ∨ q = β + 7

set_option maxRecDepth 20000 in
theorem c8_splL {d : Nat} {M : dk_Mem} {Q : Option Value → dk_Mem → Prop} {β : Nat} (hβ : dk_bo β) {bt : Nat → Nat} {n : Nat} (hL : cLT bt n M) (hq : ∀ M2 N, dk_fr (cSp β) M M2 → cTk β bt n N M2 → Q none M2) : ∀ (m i p c : Nat) (x6_h : Option Value) (M1 : dk_Mem), p ≤ n → n - p < m → i ≤ p → c ≤ p → lx_b bt n p = tk_b bt n i → dk_fr (cSp β) M M1 → (∀ j, j < i → M1.1 (β + 6) j = nI (tk_t bt n j) ∧ M1.1 (β + 7) j = nI (tk_b bt n j)) → dk_W (d + 7) mX8_split 8 [some (.ref β), some (.ref 81), some (.int (nI n)), some (.int (nI i)), some (.int (nI p)), some (.int (nI c)), x6_h] [] M1 Q := by
  have n2_h := hL.1
  intro m
  induction m with
  | zero => intro i p c x6_h M1 _ h; omega
  | succ m ih =>
    intro i p c x6_h M1 hp hm hip hcp hb hf ht
    have b5_h := hL.2.2 p
    have hL1 : cLT bt n M1 := hL.fr hf (fun q k z => by unfold cSp at z; unfold dk_bo at hβ; omega)
    refine w_il5 (n := 10) dX8_split_8 rfl ?_
    refine w_sipush (n := 13) (nI 200) dX8_split_10 (by decide) rfl ?_
    refine w_ic_ge (n := 16) 75 dX8_split_13 (by decide) rfl (fun z13_h => ?_) (fun z13_h => ?_)
    · skip
      refine w_al0 (n := 76) dX8_split_75 rfl ?_
      refine g_R (n := 79) f_X8_34_8 (bo_is hβ) (bo_rf2 hβ).2.1 dX8_split_76 rfl ?_
      refine w_il3 (n := 80) dX8_split_79 rfl ?_
      refine w_bipush (n := 82) (nI 27) dX8_split_80 (by decide) rfl ?_
      refine i_iast (n := 83) (bo_ar2 hβ).2.1 (j := i) rfl (by omega) (by decide) dX8_split_82 rfl ?_
      refine w_al0 (n := 84) dX8_split_83 rfl ?_
      refine g_R (n := 87) f_X8_37_8 (bo_is hβ) (bo_rf2 hβ).2.2 dX8_split_84 rfl ?_
      refine w_il3 (n := 88) dX8_split_87 rfl ?_
      refine w_il2 (n := 89) dX8_split_88 rfl ?_
      refine i_iast (n := 90) (bo_ar2 hβ).2.2 (j := i) rfl (by omega) (by decide) dX8_split_89 rfl ?_
      refine w_ret dX8_split_90 rfl ?_
      have ep : p = n := by first | (rw [q_le (by omega) (by omega)] at z19_h; omega) | (rw [q_le (by omega) (by omega)] at z13_h; omega)
      subst ep
      have etb : tk_b bt p i = p := by rw [← hb]; exact lx_e_n (fun z => by omega)
      have ek : tk_k bt p i = 25 := by unfold tk_k lx_k0; rw [etb, if_neg (by omega)]
      refine hq _ i ((hf.put (Or.inl rfl)).put (Or.inr rfl)) ⟨by omega, ek, fun j hj => ?_⟩
      rcases (show j < i ∨ j = i by omega) with e | e
      · rw [dk_put_k (by omega), dk_put_k (by omega), dk_put_k (by omega), dk_put_k (by omega)]; exact ht j e
      · subst e
        rw [dk_put_k (by omega), dk_put_s, dk_put_s, etb]
        exact ⟨by rw [(tk_te bt p j).2.2.2.2.1.mpr ek], rfl⟩
    · skip
      refine w_il4 (n := 18) dX8_split_16 rfl ?_
      refine w_il2 (n := 19) dX8_split_18 rfl ?_
      refine w_ic_ge (n := 22) 75 dX8_split_19 (by decide) rfl (fun z19_h => ?_) (fun z19_h => ?_)
      · skip
        refine w_al0 (n := 76) dX8_split_75 rfl ?_
        refine g_R (n := 79) f_X8_34_8 (bo_is hβ) (bo_rf2 hβ).2.1 dX8_split_76 rfl ?_
        refine w_il3 (n := 80) dX8_split_79 rfl ?_
        refine w_bipush (n := 82) (nI 27) dX8_split_80 (by decide) rfl ?_
        refine i_iast (n := 83) (bo_ar2 hβ).2.1 (j := i) rfl (by omega) (by decide) dX8_split_82 rfl ?_
        refine w_al0 (n := 84) dX8_split_83 rfl ?_
        refine g_R (n := 87) f_X8_37_8 (bo_is hβ) (bo_rf2 hβ).2.2 dX8_split_84 rfl ?_
        refine w_il3 (n := 88) dX8_split_87 rfl ?_
        refine w_il2 (n := 89) dX8_split_88 rfl ?_
        refine i_iast (n := 90) (bo_ar2 hβ).2.2 (j := i) rfl (by omega) (by decide) dX8_split_89 rfl ?_
        refine w_ret dX8_split_90 rfl ?_
        have ep : p = n := by first | (rw [q_le (by omega) (by omega)] at z19_h; omega) | (rw [q_le (by omega) (by omega)] at z13_h; omega)
        subst ep
        have etb : tk_b bt p i = p := by rw [← hb]; exact lx_e_n (fun z => by omega)
        have ek : tk_k bt p i = 25 := by unfold tk_k lx_k0; rw [etb, if_neg (by omega)]
        refine hq _ i ((hf.put (Or.inl rfl)).put (Or.inr rfl)) ⟨by omega, ek, fun j hj => ?_⟩
        rcases (show j < i ∨ j = i by omega) with e | e
        · rw [dk_put_k (by omega), dk_put_k (by omega), dk_put_k (by omega), dk_put_k (by omega)]; exact ht j e
        · subst e
          rw [dk_put_k (by omega), dk_put_s, dk_put_s, etb]
          exact ⟨by rw [(tk_te bt p j).2.2.2.2.1.mpr ek], rfl⟩
      · skip
        have hlt : p < n := by rw [q_le (by omega) (by omega)] at z19_h; omega
        have ng := lx_n0_gt (bt := bt) hlt
        have q3_h := sb_32 (bt p) (by omega)
        refine w_al1 (n := 23) dX8_split_22 rfl ?_
        refine w_il4 (n := 25) dX8_split_23 rfl ?_
        refine w_il2 (n := 26) dX8_split_25 rfl ?_
        refine w_cS3 (n := 29) s0_X8_endOf k_X8_61 (Nat.le_of_ble_eq_true rfl) dX8_split_26 rfl (c8_endOf hL1 hlt ?_)
        refine w_is6 (n := 31) dX8_split_29 rfl rfl (by decide) ?_
        refine w_al1 (n := 32) dX8_split_31 rfl ?_
        refine w_il4 (n := 34) dX8_split_32 rfl ?_
        refine i_bald (n := 35) pl_81 (j := p) rfl (by omega) (by decide) (hL1.2.1 p hlt) dX8_split_34 rfl ?_
        refine w_bipush (n := 37) (nI 32) dX8_split_35 (by decide) rfl ?_
        refine w_ic_eq (n := 40) 65 dX8_split_37 (by decide) rfl (fun z37_h => ?_) (fun z37_h => ?_)
        · skip
          refine w_il6 (n := 67) dX8_split_65 rfl ?_
          refine w_is4 (n := 69) dX8_split_67 rfl rfl (by decide) ?_
          refine w_inc5 (n := 72) (nI 1) dX8_split_69 (by decide) rfl rfl (by decide) ?_
          refine w_goto 8 dX8_split_72 (by decide) ?_
          first | (have e32_h := q3_h.mp z37_h; have el : ¬ lx_L (bt p) = true := (fun z => by have := lx_isL.mp z; omega); have ed : ¬ lx_D (bt p) = true := (fun z => by have := lx_isD.mp z; omega); have en : lx_n0 bt n p = p + 1 := (by unfold lx_n0; rw [if_pos hlt, if_neg el, if_neg ed]); rw [en, nI_add]; exact ih i (p + 1) (c + 1) _ M1 (by omega) (by omega) (by omega) (by omega) (by rw [← hb]; exact (lx_e_y hlt (lx_isS.mpr (by omega))).symm) hf ht) | (rw [nI_add, nI_add]; refine ih (i + 1) (lx_n0 bt n p) (c + 1) _ _ ng.2 (by omega) (by omega) (by omega) (by rw [eb]; rfl) ((hf.put (Or.inl rfl)).put (Or.inr rfl)) (fun j hj => ?_); rcases (show j < i ∨ j = i by omega) with e | e; (rw [dk_put_k (by omega), dk_put_k (by omega), dk_put_k (by omega), dk_put_k (by omega)]; exact ht j e); (subst e; rw [dk_put_k (by omega), dk_put_s, dk_put_s]; exact ⟨by rw [eb]; rfl, by rw [← eb]⟩))
        · skip
          have hns : ¬ bt p = 32 := fun z => z37_h (q3_h.mpr z)
          have eb : p = tk_b bt n i := by rw [← hb]; exact (lx_e_n (fun z => hns (by have := lx_isS.mp z.2; omega))).symm
          refine w_al0 (n := 41) dX8_split_40 rfl ?_
          refine g_R (n := 44) f_X8_34_8 (bo_is hβ) (bo_rf2 hβ).2.1 dX8_split_41 rfl ?_
          refine w_il3 (n := 45) dX8_split_44 rfl ?_
          refine w_al1 (n := 46) dX8_split_45 rfl ?_
          refine w_il4 (n := 48) dX8_split_46 rfl ?_
          refine w_il6 (n := 50) dX8_split_48 rfl ?_
          refine w_cS3 (n := 53) s0_X8_tokenOf k_X8_65 (Nat.le_of_ble_eq_true rfl) dX8_split_50 rfl (c8_tokenOf hL1 hlt ?_)
          refine i_iast (n := 54) (bo_ar2 hβ).2.1 (j := i) rfl (by omega) (by decide) dX8_split_53 rfl ?_
          refine w_al0 (n := 55) dX8_split_54 rfl ?_
          refine g_R (n := 58) f_X8_37_8 (bo_is hβ) (bo_rf2 hβ).2.2 dX8_split_55 rfl ?_
          refine w_il3 (n := 59) dX8_split_58 rfl ?_
          refine w_il4 (n := 61) dX8_split_59 rfl ?_
          refine i_iast (n := 62) (bo_ar2 hβ).2.2 (j := i) rfl (by omega) (by decide) dX8_split_61 rfl ?_
          refine w_inc3 (n := 65) (nI 1) dX8_split_62 (by decide) rfl rfl (by decide) ?_
          refine w_il6 (n := 67) dX8_split_65 rfl ?_
          refine w_is4 (n := 69) dX8_split_67 rfl rfl (by decide) ?_
          refine w_inc5 (n := 72) (nI 1) dX8_split_69 (by decide) rfl rfl (by decide) ?_
          refine w_goto 8 dX8_split_72 (by decide) ?_
          first | (have e32_h := q3_h.mp z37_h; have el : ¬ lx_L (bt p) = true := (fun z => by have := lx_isL.mp z; omega); have ed : ¬ lx_D (bt p) = true := (fun z => by have := lx_isD.mp z; omega); have en : lx_n0 bt n p = p + 1 := (by unfold lx_n0; rw [if_pos hlt, if_neg el, if_neg ed]); rw [en, nI_add]; exact ih i (p + 1) (c + 1) _ M1 (by omega) (by omega) (by omega) (by omega) (by rw [← hb]; exact (lx_e_y hlt (lx_isS.mpr (by omega))).symm) hf ht) | (rw [nI_add, nI_add]; refine ih (i + 1) (lx_n0 bt n p) (c + 1) _ _ ng.2 (by omega) (by omega) (by omega) (by rw [eb]; rfl) ((hf.put (Or.inl rfl)).put (Or.inr rfl)) (fun j hj => ?_); rcases (show j < i ∨ j = i by omega) with e | e; (rw [dk_put_k (by omega), dk_put_k (by omega), dk_put_k (by omega), dk_put_k (by omega)]; exact ht j e); (subst e; rw [dk_put_k (by omega), dk_put_s, dk_put_s]; exact ⟨by rw [eb]; rfl, by rw [← eb]⟩))

set_option maxRecDepth 20000 in
theorem c8_split {d : Nat} {M : dk_Mem} {Q : Option Value → dk_Mem → Prop} {β : Nat} (hβ : dk_bo β) {bt : Nat → Nat} {n : Nat} (hL : cLT bt n M) (hq : ∀ M2 N, dk_fr (cSp β) M M2 → cTk β bt n N M2 → Q none M2) : dk_Call (d + 7) mX8_split [.ref β, .ref 81, .int (nI n)] M Q := by
  refine dk_enter [some (.ref β), some (.ref 81), some (.int (nI n)), none, none, none, none] (by decide) (fun _ => rfl) (fun _ => Nat.le_of_ble_eq_true rfl) ?_
  refine w_iconst (n := 1) (nI 0) dX8_split_0 (by decide) rfl ?_
  refine w_is3 (n := 2) dX8_split_1 rfl rfl (by decide) ?_
  refine w_iconst (n := 3) (nI 0) dX8_split_2 (by decide) rfl ?_
  refine w_is4 (n := 5) dX8_split_3 rfl rfl (by decide) ?_
  refine w_iconst (n := 6) (nI 0) dX8_split_5 (by decide) rfl ?_
  refine w_is5 (n := 8) dX8_split_6 rfl rfl (by decide) ?_
  exact c8_splL hβ hL hq (n + 1) 0 0 0 _ M (by omega) (by omega) (by omega) (by omega) rfl dk_fr.rf (fun j hj => by omega)

/-! ===== the component's reader ===== -/
def sgC (f : Nat → Int32) (a b hh : Nat) (sem : py_Sm) : Prop := a < b ∧ ∀ f' : Nat → Int32, (∀ k, a ≤ k → k < b → f' k = f k) → ∀ fe en n ps r, b ≤ en → ps.length + hh ≤ 20 → okC f' fe en n b (sem fe :: ps) r → ∃ n', okC f' fe en n' a ps r
theorem sgC.mono {f : Nat → Int32} {a b h h' : Nat} {s : py_Sm} (hs : sgC f a b h s) (hh : h ≤ h') : sgC f a b h' s := ⟨hs.1, fun f' e fe en n ps r h1_h h2_h h3_h => hs.2 f' e fe en n ps r h1_h (by omega) h3_h⟩
theorem sgC.ext {f g : Nat → Int32} {a b h : Nat} {s : py_Sm} (hs : sgC f a b h s) (he : ∀ k, a ≤ k → k < b → g k = f k) : sgC g a b h s := ⟨hs.1, fun f' e => hs.2 f' (fun k h1_h h2_h => (e k h1_h h2_h).trans (he k h1_h h2_h))⟩
theorem sgC.cmp {f : Nat → Int32} {a s c1_h c2_h : Nat} (h2_h : s ≤ 2) (l1_h : c1_h < 10005) (l2_h : c2_h < 10005) (v0_h : f a = nI ((s * 16384 + c1_h) * 16384 + c2_h)) : sgC f a (a + 1) 1 (fun fe => sg_cmp (60 + s) (sg_ev fe c1_h) (sg_ev fe c2_h)) := ⟨by omega, fun f' e fe en n ps r hb hl ho => ⟨n + 1, Or.inr (Or.inr (Or.inr (Or.inr ⟨by omega, by omega, s, c1_h, c2_h, h2_h, l1_h, l2_h, (e _ (by omega) (by omega)).trans v0_h, ho⟩)))⟩⟩
theorem sgC.nt {f : Nat → Int32} {a b h : Nat} {s : py_Sm} (hs : sgC f a b h s) (v : f b = -1) : sgC f a (b + 1) h (fun fe => !(s fe)) := by
  have h9_h := hs.1
  refine ⟨by omega, fun f' e fe en n ps r hb hl ho => ?_⟩
  refine hs.2 f' (fun k h1_h h2_h => e k h1_h (by omega)) fe en (n + 1) ps r (by omega) hl ?_
  exact Or.inr (Or.inl ⟨by omega, (e _ (by omega) (by omega)).trans v, s fe, ps, rfl, ho⟩)
theorem sgC.an {f : Nat → Int32} {a b c h : Nat} {s t : py_Sm} (h1_h : sgC f a b (h + 1) s) (h2_h : sgC f b c h t) (v : f c = -2) : sgC f a (c + 1) (h + 1) (fun fe => and (s fe) (t fe)) := by
  have g1_h := h1_h.1
  have g2_h := h2_h.1
  refine ⟨by omega, fun f' e fe en n ps r hb hl ho => ?_⟩
  obtain ⟨m, hm⟩ := h2_h.2 f' (fun k a1_h a2_h => e k (by omega) (by omega)) fe en (n + 1) (s fe :: ps) r (by omega) (by show ps.length + 1 + h ≤ 20; omega) (Or.inr (Or.inr (Or.inl ⟨by omega, (e _ (by omega) (by omega)).trans v, t fe, s fe, ps, rfl, ho⟩)))
  exact h1_h.2 f' (fun k a1_h a2_h => e k a1_h (by omega)) fe en m ps r (by omega) hl hm
theorem sgC.oo {f : Nat → Int32} {a b c h : Nat} {s t : py_Sm} (h1_h : sgC f a b (h + 1) s) (h2_h : sgC f b c h t) (v : f c = -3) : sgC f a (c + 1) (h + 1) (fun fe => or (s fe) (t fe)) := by
  have g1_h := h1_h.1
  have g2_h := h2_h.1
  refine ⟨by omega, fun f' e fe en n ps r hb hl ho => ?_⟩
  obtain ⟨m, hm⟩ := h2_h.2 f' (fun k a1_h a2_h => e k (by omega) (by omega)) fe en (n + 1) (s fe :: ps) r (by omega) (by show ps.length + 1 + h ≤ 20; omega) (Or.inr (Or.inr (Or.inr (Or.inl ⟨by omega, (e _ (by omega) (by omega)).trans v, t fe, s fe, ps, rfl, ho⟩))))
  exact h1_h.2 f' (fun k a1_h a2_h => e k a1_h (by omega)) fe en m ps r (by omega) hl hm
theorem sgC.run {f : Nat → Int32} {a b h : Nat} {s : py_Sm} (hs : sgC f a b h s) (hh : h ≤ 20) (fe : Nat → Nat) : ∃ n, okC f fe b n a [] (s fe) := hs.2 f (fun _ _ _ => rfl) fe b 1 [] (s fe) (Nat.le_refl _) (by show 0 + h ≤ 20; omega) (Or.inl ⟨rfl, rfl⟩)
/-- the reader of a book stands at token i; C steps are emitted -/
def cPS (β : Nat) (bt : Nat → Nat) (n N i C : Nat) (M : dk_Mem) : Prop := cTk β bt n N M ∧ M.1 β 9 = nI i ∧ M.1 β 5 = nI C ∧ C ≤ i ∧ i ≤ N
def cPf (β C q k : Nat) : Prop := (q = β ∧ (k = 5 ∨ k = 9)) ∨ (q = β + 4 ∧ C ≤ k)
theorem cPS.nx {β : Nat} {bt : Nat → Nat} {n N i C : Nat} {M : dk_Mem} (h : cPS β bt n N i C M) (hk : tk_k bt n i ≠ 25) : cPS β bt n N (i + 1) C (dk_put M β 9 (nI (i + 1))) := by
  obtain ⟨h1_h, h2_h, h3_h, h4_h, h5_h⟩ := h
  have hN : i ≠ N := fun e => hk (by rw [e]; exact h1_h.2.1)
  exact ⟨h1_h.fr (dk_fr.rf.put (Or.inl ⟨rfl, Or.inr rfl⟩) : dk_fr (cPf β C) M _) (fun q k z => by unfold cPf at z; omega), dk_put_s, by rw [dk_put_k (by omega)]; exact h3_h, by omega, by omega⟩
theorem cPf_9 {β C : Nat} {M M1 : dk_Mem} {x : Int32} (h : dk_fr (cPf β C) M M1) : dk_fr (cPf β C) M (dk_put M1 β 9 x) := h.put (Or.inl ⟨rfl, Or.inr rfl⟩)
theorem cPf_up {β C C' : Nat} {M M1 : dk_Mem} (h : dk_fr (cPf β C') M M1) (hl : C ≤ C') : dk_fr (cPf β C) M M1 := h.up (fun q k z => by unfold cPf at *; omega)
def cEm (β : Nat) (M : dk_Mem) (C : Nat) (x : Int32) : dk_Mem := dk_put (dk_put M (β + 4) C x) β 5 (nI (C + 1))
theorem cEm_f {β C0 C : Nat} {M M1 : dk_Mem} {x : Int32} (h : dk_fr (cPf β C0) M M1) (hl : C0 ≤ C) : dk_fr (cPf β C0) M (cEm β M1 C x) := (h.put (Or.inr ⟨rfl, hl⟩)).put (Or.inl ⟨rfl, Or.inl rfl⟩)
theorem cEm_4 {β C k : Nat} {M : dk_Mem} {x : Int32} (h : k ≠ C) : (cEm β M C x).1 (β + 4) k = M.1 (β + 4) k := by unfold cEm; rw [dk_put_k (by omega), dk_put_k (by omega)]
theorem cEm_s {β C : Nat} {M : dk_Mem} {x : Int32} : (cEm β M C x).1 (β + 4) C = x := by unfold cEm; rw [dk_put_k (by omega), dk_put_s]
theorem cPS.em {β : Nat} {bt : Nat → Nat} {n N i C : Nat} {M : dk_Mem} {x : Int32} (h : cPS β bt n N i C M) (hl : C + 1 ≤ i) : cPS β bt n N i (C + 1) (cEm β M C x) := by
  obtain ⟨h1_h, h2_h, h3_h, h4_h, h5_h⟩ := h
  exact ⟨h1_h.fr (cEm_f dk_fr.rf (Nat.le_refl C) : dk_fr (cPf β C) M _) (fun q k z => by unfold cPf at z; omega), by unfold cEm; rw [dk_put_k (by omega), dk_put_k (by omega)]; exact h2_h, by unfold cEm; rw [dk_put_s], hl, h5_h⟩

set_option maxRecDepth 20000 in
theorem c8_passes {d : Nat} {M : dk_Mem} {Q : Option Value → dk_Mem → Prop} {β : Nat} (hβ : dk_bo β) {bt : Nat → Nat} {n N i C : Nat} (hS : cPS β bt n N i C M) {w k : Nat} (hw : w ≤ 27) (hk : k ≠ 25) (he : tk_t bt n i = w ↔ tk_k bt n i = k) (h1_h : tk_k bt n i = k → cPS β bt n N (i + 1) C (dk_put M β 9 (nI (i + 1))) → Q (some (.int 1)) (dk_put M β 9 (nI (i + 1)))) (h0_h : tk_k bt n i ≠ k → Q (some (.int 0)) M) : dk_Call d mX8_passes [.ref β, .int (nI w)] M Q := by
  have tl := tk_tl bt n i
  refine dk_enter [some (.ref β), some (.int (nI w))] (by decide) (fun _ => rfl) (fun _ => Nat.le_of_ble_eq_true rfl) ?_
  refine w_al0 (n := 1) dX8_passes_0 rfl ?_
  refine g_R (n := 4) f_X8_34_8 (bo_is hβ) (bo_rf2 hβ).2.1 dX8_passes_1 rfl ?_
  refine w_al0 (n := 5) dX8_passes_4 rfl ?_
  refine g_I (n := 8) f_X8_40_8 (bo_is hβ) dX8_passes_5 rfl ?_
  refine i_iald (n := 9) (bo_ar2 hβ).2.1 (j := i) hS.2.1 (by have := hS.2.2.2.2; have := hS.1.1; omega) (by decide) (hS.1.2.2 i hS.2.2.2.2).1 dX8_passes_8 rfl ?_
  refine w_il1 (n := 10) dX8_passes_9 rfl ?_
  refine w_ic_eq (n := 13) 15 dX8_passes_10 (by decide) rfl (fun z10_h => ?_) (fun z10_h => ?_)
  · skip
    refine w_al0 (n := 16) dX8_passes_15 rfl ?_
    refine w_dup (n := 17) rfl dX8_passes_16 rfl ?_
    refine g_I (n := 20) f_X8_40_8 (bo_is hβ) dX8_passes_17 rfl ?_
    rw [hS.2.1]
    refine w_iconst (n := 21) (nI 1) dX8_passes_20 (by decide) rfl ?_
    refine w_iadd (n := 22) dX8_passes_21 rfl ?_
    rw [nI_add]
    refine p_I (n := 25) f_X8_40_8 (bo_is hβ) dX8_passes_22 rfl ?_
    refine w_iconst (n := 26) (nI 1) dX8_passes_25 (by decide) rfl ?_
    refine w_retZ1 dX8_passes_26 rfl ?_
    rw [nI_eq (by omega) (by omega)] at z10_h
    have ek := he.mp z10_h
    exact h1_h ek (hS.nx (by rw [ek]; exact hk))
  · skip
    refine w_iconst (n := 14) (nI 0) dX8_passes_13 (by decide) rfl ?_
    refine w_retZ0 dX8_passes_14 rfl ?_
    rw [nI_eq (by omega) (by omega)] at z10_h
    exact h0_h (fun z => z10_h (he.mpr z))

set_option maxRecDepth 20000 in
theorem c8_emit {d : Nat} {M : dk_Mem} {Q : Option Value → dk_Mem → Prop} {β : Nat} (hβ : dk_bo β) {C : Nat} (hC : M.1 β 5 = nI C) (hl : C < 200) {x : Int32} (hq : Q none (cEm β M C x)) : dk_Call d mX8_emit [.ref β, .int x] M Q := by
  refine dk_enter [some (.ref β), some (.int x)] (by decide) (fun _ => rfl) (fun _ => Nat.le_of_ble_eq_true rfl) ?_
  refine w_al0 (n := 1) dX8_emit_0 rfl ?_
  refine g_I (n := 4) f_X8_28_8 (bo_is hβ) dX8_emit_1 rfl ?_
  rw [hC]
  refine w_sipush (n := 7) (nI 200) dX8_emit_4 (by decide) rfl ?_
  refine w_ic_lt (n := 10) 11 dX8_emit_7 (by decide) rfl (fun z7_h => ?_) (fun z7_h => ?_)
  · skip
    refine w_al0 (n := 12) dX8_emit_11 rfl ?_
    refine g_R (n := 15) f_X8_25_8 (bo_is hβ) (bo_rf hβ).2.2.2 dX8_emit_12 rfl ?_
    refine w_al0 (n := 16) dX8_emit_15 rfl ?_
    refine g_I (n := 19) f_X8_28_8 (bo_is hβ) dX8_emit_16 rfl ?_
    refine w_il1 (n := 20) dX8_emit_19 rfl ?_
    refine i_iast (n := 21) (bo_ar hβ).2.2.2 (j := C) hC (by omega) (by decide) dX8_emit_20 rfl ?_
    refine w_al0 (n := 22) dX8_emit_21 rfl ?_
    refine w_dup (n := 23) rfl dX8_emit_22 rfl ?_
    refine g_I (n := 26) f_X8_28_8 (bo_is hβ) dX8_emit_23 rfl ?_
    rw [dk_put_k (by omega), hC]
    refine w_iconst (n := 27) (nI 1) dX8_emit_26 (by decide) rfl ?_
    refine w_iadd (n := 28) dX8_emit_27 rfl ?_
    rw [nI_add]
    refine p_I (n := 31) f_X8_28_8 (bo_is hβ) dX8_emit_28 rfl ?_
    refine w_ret dX8_emit_31 rfl ?_
    exact hq
  · skip
    exfalso
    rw [nI_ltI (by omega) (by decide)] at z7_h
    omega

set_option maxRecDepth 20000 in
theorem c8_valueCode {d : Nat} {M : dk_Mem} {Q : Option Value → dk_Mem → Prop} {bt : Nat → Nat} {n i : Nat} (h1_h : ∀ c, py_side (tk_k bt n) (tk_v bt n) i = some c → Q (some (.int (nI c))) M) (h0_h : py_side (tk_k bt n) (tk_v bt n) i = none → Q (some (.int (-1))) M) : dk_Call d mX8_valueCode [.int (nI (tk_t bt n i))] M Q := by
  have tl := tk_tl bt n i
  obtain ⟨v1_h, v2_h, v3_h, v4_h⟩ := ct_vl (k := tk_k bt n i) (v := tk_v bt n i) lx_k0_le (fun h => tk_num h) (fun h => tk_sgn h)
  rw [show ct (tk_k bt n i) (tk_v bt n i) = tk_t bt n i from rfl] at v1_h v2_h v3_h v4_h
  unfold py_side at h1_h h0_h
  refine dk_enter [some (.int (nI (tk_t bt n i))), none] (by decide) (fun _ => rfl) (fun _ => Nat.le_of_ble_eq_true rfl) ?_
  refine w_il0 (n := 1) dX8_valueCode_0 rfl ?_
  refine w_bipush (n := 3) (nI 100) dX8_valueCode_1 (by decide) rfl ?_
  refine w_ic_lt (n := 6) 18 dX8_valueCode_3 (by decide) rfl (fun z3_h => ?_) (fun z3_h => ?_)
  · skip
    refine w_il0 (n := 19) dX8_valueCode_18 rfl ?_
    refine w_bipush (n := 21) (nI 13) dX8_valueCode_19 (by decide) rfl ?_
    refine w_isub (n := 22) dX8_valueCode_21 rfl ?_
    refine w_is1 (n := 23) dX8_valueCode_22 rfl rfl (by decide) ?_
    refine w_il1 (n := 24) dX8_valueCode_23 rfl ?_
    refine w_if_lt (n := 27) 40 dX8_valueCode_24 (by decide) rfl (fun z24_h => ?_) (fun z24_h => ?_)
    · skip
      refine w_iconst (n := 41) (-1) dX8_valueCode_40 (by decide) rfl ?_
      refine w_retI dX8_valueCode_41 rfl ?_
      have h100_h : ¬ 100 ≤ tk_t bt n i := by first | (rw [nI_ltI (by omega) (by decide)] at z3_h; omega) | (rw [nI_ltI (by decide) (by omega)] at z10_h; omega)
      rw [if_neg (fun z => h100_h (v1_h.mpr z))] at h1_h h0_h
      first | (have n13_h : ¬ 13 ≤ tk_t bt n i := (fun z => by rw [pk_sub z] at z24_h; exact absurd z24_h (nI_lt0 (by omega))); rw [if_neg (fun z => n13_h (v3_h.mpr z).1)] at h0_h; exact h0_h rfl) | (rw [q_le (by decide) (by omega)] at z29_h; rw [if_neg (fun z => by have := (v3_h.mpr z).2; omega)] at h0_h; exact h0_h rfl) | (rw [q_le (by decide) (by omega)] at z29_h; have e9_h := v3_h.mp (by omega); rw [if_pos e9_h] at h1_h; rw [nI_add]; have q := h1_h _ rfl; rw [show tk_k bt n i - 9 = tk_t bt n i - 13 by have := v4_h e9_h.1 e9_h.2; omega] at q; exact q)
    · skip
      have h13_h : 13 ≤ tk_t bt n i := Decidable.byContradiction (fun z => z24_h (by rw [Int32.lt_iff_toInt_lt, pk_sub_toInt (by omega) (by omega)]; show (tk_t bt n i : Int) - 13 < 0; omega))
      have es : nI (tk_t bt n i) - nI 13 = nI (tk_t bt n i - 13) := pk_sub h13_h
      rw [es]
      refine w_il1 (n := 28) dX8_valueCode_27 rfl ?_
      refine w_iconst (n := 29) (nI 5) dX8_valueCode_28 (by decide) rfl ?_
      refine w_ic_ge (n := 32) 40 dX8_valueCode_29 (by decide) rfl (fun z29_h => ?_) (fun z29_h => ?_)
      · skip
        refine w_iconst (n := 41) (-1) dX8_valueCode_40 (by decide) rfl ?_
        refine w_retI dX8_valueCode_41 rfl ?_
        have h100_h : ¬ 100 ≤ tk_t bt n i := by first | (rw [nI_ltI (by omega) (by decide)] at z3_h; omega) | (rw [nI_ltI (by decide) (by omega)] at z10_h; omega)
        rw [if_neg (fun z => h100_h (v1_h.mpr z))] at h1_h h0_h
        first | (have n13_h : ¬ 13 ≤ tk_t bt n i := (fun z => by rw [pk_sub z] at z24_h; exact absurd z24_h (nI_lt0 (by omega))); rw [if_neg (fun z => n13_h (v3_h.mpr z).1)] at h0_h; exact h0_h rfl) | (rw [q_le (by decide) (by omega)] at z29_h; rw [if_neg (fun z => by have := (v3_h.mpr z).2; omega)] at h0_h; exact h0_h rfl) | (rw [q_le (by decide) (by omega)] at z29_h; have e9_h := v3_h.mp (by omega); rw [if_pos e9_h] at h1_h; rw [nI_add]; have q := h1_h _ rfl; rw [show tk_k bt n i - 9 = tk_t bt n i - 13 by have := v4_h e9_h.1 e9_h.2; omega] at q; exact q)
      · skip
        refine w_sipush (n := 35) (nI 10000) dX8_valueCode_32 (by decide) rfl ?_
        refine w_il1 (n := 36) dX8_valueCode_35 rfl ?_
        refine w_iadd (n := 37) dX8_valueCode_36 rfl ?_
        refine w_goto 41 dX8_valueCode_37 (by decide) ?_
        refine w_retI dX8_valueCode_41 rfl ?_
        have h100_h : ¬ 100 ≤ tk_t bt n i := by first | (rw [nI_ltI (by omega) (by decide)] at z3_h; omega) | (rw [nI_ltI (by decide) (by omega)] at z10_h; omega)
        rw [if_neg (fun z => h100_h (v1_h.mpr z))] at h1_h h0_h
        first | (have n13_h : ¬ 13 ≤ tk_t bt n i := (fun z => by rw [pk_sub z] at z24_h; exact absurd z24_h (nI_lt0 (by omega))); rw [if_neg (fun z => n13_h (v3_h.mpr z).1)] at h0_h; exact h0_h rfl) | (rw [q_le (by decide) (by omega)] at z29_h; rw [if_neg (fun z => by have := (v3_h.mpr z).2; omega)] at h0_h; exact h0_h rfl) | (rw [q_le (by decide) (by omega)] at z29_h; have e9_h := v3_h.mp (by omega); rw [if_pos e9_h] at h1_h; rw [nI_add]; have q := h1_h _ rfl; rw [show tk_k bt n i - 9 = tk_t bt n i - 13 by have := v4_h e9_h.1 e9_h.2; omega] at q; exact q)
  · skip
    refine w_il0 (n := 7) dX8_valueCode_6 rfl ?_
    refine w_sipush (n := 10) (nI 10099) dX8_valueCode_7 (by decide) rfl ?_
    refine w_ic_gt (n := 13) 18 dX8_valueCode_10 (by decide) rfl (fun z10_h => ?_) (fun z10_h => ?_)
    · skip
      refine w_il0 (n := 19) dX8_valueCode_18 rfl ?_
      refine w_bipush (n := 21) (nI 13) dX8_valueCode_19 (by decide) rfl ?_
      refine w_isub (n := 22) dX8_valueCode_21 rfl ?_
      refine w_is1 (n := 23) dX8_valueCode_22 rfl rfl (by decide) ?_
      refine w_il1 (n := 24) dX8_valueCode_23 rfl ?_
      refine w_if_lt (n := 27) 40 dX8_valueCode_24 (by decide) rfl (fun z24_h => ?_) (fun z24_h => ?_)
      · skip
        refine w_iconst (n := 41) (-1) dX8_valueCode_40 (by decide) rfl ?_
        refine w_retI dX8_valueCode_41 rfl ?_
        have h100_h : ¬ 100 ≤ tk_t bt n i := by first | (rw [nI_ltI (by omega) (by decide)] at z3_h; omega) | (rw [nI_ltI (by decide) (by omega)] at z10_h; omega)
        rw [if_neg (fun z => h100_h (v1_h.mpr z))] at h1_h h0_h
        first | (have n13_h : ¬ 13 ≤ tk_t bt n i := (fun z => by rw [pk_sub z] at z24_h; exact absurd z24_h (nI_lt0 (by omega))); rw [if_neg (fun z => n13_h (v3_h.mpr z).1)] at h0_h; exact h0_h rfl) | (rw [q_le (by decide) (by omega)] at z29_h; rw [if_neg (fun z => by have := (v3_h.mpr z).2; omega)] at h0_h; exact h0_h rfl) | (rw [q_le (by decide) (by omega)] at z29_h; have e9_h := v3_h.mp (by omega); rw [if_pos e9_h] at h1_h; rw [nI_add]; have q := h1_h _ rfl; rw [show tk_k bt n i - 9 = tk_t bt n i - 13 by have := v4_h e9_h.1 e9_h.2; omega] at q; exact q)
      · skip
        have h13_h : 13 ≤ tk_t bt n i := Decidable.byContradiction (fun z => z24_h (by rw [Int32.lt_iff_toInt_lt, pk_sub_toInt (by omega) (by omega)]; show (tk_t bt n i : Int) - 13 < 0; omega))
        have es : nI (tk_t bt n i) - nI 13 = nI (tk_t bt n i - 13) := pk_sub h13_h
        rw [es]
        refine w_il1 (n := 28) dX8_valueCode_27 rfl ?_
        refine w_iconst (n := 29) (nI 5) dX8_valueCode_28 (by decide) rfl ?_
        refine w_ic_ge (n := 32) 40 dX8_valueCode_29 (by decide) rfl (fun z29_h => ?_) (fun z29_h => ?_)
        · skip
          refine w_iconst (n := 41) (-1) dX8_valueCode_40 (by decide) rfl ?_
          refine w_retI dX8_valueCode_41 rfl ?_
          have h100_h : ¬ 100 ≤ tk_t bt n i := by first | (rw [nI_ltI (by omega) (by decide)] at z3_h; omega) | (rw [nI_ltI (by decide) (by omega)] at z10_h; omega)
          rw [if_neg (fun z => h100_h (v1_h.mpr z))] at h1_h h0_h
          first | (have n13_h : ¬ 13 ≤ tk_t bt n i := (fun z => by rw [pk_sub z] at z24_h; exact absurd z24_h (nI_lt0 (by omega))); rw [if_neg (fun z => n13_h (v3_h.mpr z).1)] at h0_h; exact h0_h rfl) | (rw [q_le (by decide) (by omega)] at z29_h; rw [if_neg (fun z => by have := (v3_h.mpr z).2; omega)] at h0_h; exact h0_h rfl) | (rw [q_le (by decide) (by omega)] at z29_h; have e9_h := v3_h.mp (by omega); rw [if_pos e9_h] at h1_h; rw [nI_add]; have q := h1_h _ rfl; rw [show tk_k bt n i - 9 = tk_t bt n i - 13 by have := v4_h e9_h.1 e9_h.2; omega] at q; exact q)
        · skip
          refine w_sipush (n := 35) (nI 10000) dX8_valueCode_32 (by decide) rfl ?_
          refine w_il1 (n := 36) dX8_valueCode_35 rfl ?_
          refine w_iadd (n := 37) dX8_valueCode_36 rfl ?_
          refine w_goto 41 dX8_valueCode_37 (by decide) ?_
          refine w_retI dX8_valueCode_41 rfl ?_
          have h100_h : ¬ 100 ≤ tk_t bt n i := by first | (rw [nI_ltI (by omega) (by decide)] at z3_h; omega) | (rw [nI_ltI (by decide) (by omega)] at z10_h; omega)
          rw [if_neg (fun z => h100_h (v1_h.mpr z))] at h1_h h0_h
          first | (have n13_h : ¬ 13 ≤ tk_t bt n i := (fun z => by rw [pk_sub z] at z24_h; exact absurd z24_h (nI_lt0 (by omega))); rw [if_neg (fun z => n13_h (v3_h.mpr z).1)] at h0_h; exact h0_h rfl) | (rw [q_le (by decide) (by omega)] at z29_h; rw [if_neg (fun z => by have := (v3_h.mpr z).2; omega)] at h0_h; exact h0_h rfl) | (rw [q_le (by decide) (by omega)] at z29_h; have e9_h := v3_h.mp (by omega); rw [if_pos e9_h] at h1_h; rw [nI_add]; have q := h1_h _ rfl; rw [show tk_k bt n i - 9 = tk_t bt n i - 13 by have := v4_h e9_h.1 e9_h.2; omega] at q; exact q)
    · skip
      refine w_il0 (n := 14) dX8_valueCode_13 rfl ?_
      refine w_bipush (n := 16) (nI 100) dX8_valueCode_14 (by decide) rfl ?_
      refine w_isub (n := 17) dX8_valueCode_16 rfl ?_
      refine w_retI dX8_valueCode_17 rfl ?_
      rw [nI_ltI (by omega) (by decide)] at z3_h
      have e20_h := v1_h.mp (by omega)
      rw [if_pos e20_h] at h1_h
      rw [v2_h e20_h, pk_sub (by omega), Nat.add_sub_cancel_left]
      exact h1_h _ rfl
