/-! ===== the component's keep and again ===== -/
def cP (P : Option sg_K) (M : dk_Mem) : Prop := match P with
  | none => M.1 0 3 = 0
  | some K => M.1 0 3 = 1 ∧ cQ K M
/-- the street's own places, with a book that isn't the kept one -/
theorem cK.fr {K : sg_K} {M M' : dk_Mem} {S : Nat → Nat → Prop} (h : cK K M) {β : Nat} (hβ : dk_bo β) (hb : M.1 14 13 = nI β) (hf : dk_fr S M M') (hS : ∀ q k, S q k → ¬ ((14 ≤ q ∧ q ≤ 23) ∨ (32 ≤ q ∧ q ≤ 36 ∧ (k < 5 ∨ q ≠ 32)) ∨ (β ≤ q ∧ q ≤ β + 4))) : cK K M' := by
  obtain ⟨h1_h, h2_h, h3_h, ⟨g, β0, g1_h, g2_h, g3_h, g4_h⟩, h5_h, h6_h, h7_h, β1, h8_h, h9_h, h10_h⟩ := h
  have e0_h : β0 = β := nI_bo g2_h hβ (g4_h.symm.trans hb)
  have e1_h : β1 = β := nI_bo h8_h hβ (h9_h.symm.trans hb)
  refine ⟨h1_h, h2_h.fr hf (fun q k a b z => hS q k z (by omega)), h3_h.fr hf (fun q k a z => hS q k z (by omega)), ⟨g, β0, g1_h, g2_h, g3_h.fr hf (fun q k a b z => hS q k z (by omega)), ?_⟩, h5_h.fr hf (fun q k a b c z => hS q k z (by omega)), ?_, ?_, β1, h8_h, ?_, ?_⟩
  · rw [hf.2 14 13 (fun z => hS _ _ z (by omega))]; exact g4_h
  · rw [hf.2 14 11 (fun z => hS _ _ z (by omega))]; exact h6_h
  · rw [hf.2 14 12 (fun z => hS _ _ z (by omega))]; exact h7_h
  · rw [hf.2 14 13 (fun z => hS _ _ z (by omega))]; exact h9_h
  · rw [hf.2 β1 0 (fun z => hS _ _ z (by omega))]; exact h10_h
theorem shf_fr {M M' : dk_Mem} {S : Nat → Nat → Prop} (hf : dk_fr S M M') (hS : ∀ q k, S q k → ¬ (37 ≤ q ∧ q ≤ 59)) : dk_fr (fun q k => S q k ∧ ¬ (14 ≤ q ∧ q ≤ 36)) (shf M) (shf M') := ⟨hf.1, fun q k hn => by
  show (if 14 ≤ q ∧ q ≤ 36 then M'.1 (q + 23) k else M'.1 q k) = if 14 ≤ q ∧ q ≤ 36 then M.1 (q + 23) k else M.1 q k
  by_cases e : 14 ≤ q ∧ q ≤ 36
  · rw [if_pos e, if_pos e]; exact hf.2 _ _ (fun z => hS _ _ z (by omega))
  · rw [if_neg e, if_neg e]; exact hf.2 _ _ (fun z => hn ⟨z, e⟩)⟩
theorem cQ.fr {K : sg_K} {M M' : dk_Mem} {S : Nat → Nat → Prop} (h : cQ K M) (hb : M.1 37 13 = nI 47) (hf : dk_fr S M M') (hS : ∀ q k, S q k → ¬ (37 ≤ q ∧ q ≤ 59 ∧ q ≠ 52 ∧ (k < 5 ∨ q ≠ 55))) : cQ K M' := by
  have hf2_h : dk_fr (fun q k => S q k ∨ q = 52 ∨ (q = 55 ∧ 5 ≤ k)) M M' := hf.up (fun q k z => Or.inl z)
  refine cK.fr (M := shf M) (M' := shf M') (S := fun q k => (q = 29 ∨ (q = 32 ∧ 5 ≤ k) ∨ q = 52 ∨ ¬ ((14 ≤ q ∧ q ≤ 36) ∨ (47 ≤ q ∧ q ≤ 51)))) h (β := 47) (Or.inr (Or.inl rfl)) hb ⟨hf.1, fun q k hn => ?_⟩ (fun q k z => by omega)
  show (if 14 ≤ q ∧ q ≤ 36 then M'.1 (q + 23) k else M'.1 q k) = if 14 ≤ q ∧ q ≤ 36 then M.1 (q + 23) k else M.1 q k
  by_cases e : 14 ≤ q ∧ q ≤ 36
  · rw [if_pos e, if_pos e]; exact hf.2 _ _ (fun z => hS _ _ z (by omega))
  · rw [if_neg e, if_neg e]; exact hf.2 _ _ (fun z => hS _ _ z (by omega))
def cAg (q k : Nat) : Prop := cA q k ∨ (24 ≤ q ∧ q ≤ 28) ∨ (82 ≤ q ∧ q ≤ 86)
theorem cP.fr {P : Option sg_K} {M M' : dk_Mem} {S : Nat → Nat → Prop} (h : cP P M) (hb : M.1 37 13 = nI 47) (hf : dk_fr S M M') (hS : ∀ q k, S q k → ¬ ((q = 0 ∧ k = 3) ∨ (37 ≤ q ∧ q ≤ 59 ∧ q ≠ 52 ∧ (k < 5 ∨ q ≠ 55)))) : cP P M' := by
  have e : M'.1 0 3 = M.1 0 3 := hf.2 0 3 (fun z => hS _ _ z (Or.inl ⟨rfl, rfl⟩))
  cases P with
  | none => show M'.1 0 3 = 0; rw [e]; exact h
  | some K => exact ⟨by rw [e]; exact h.1, h.2.fr hb hf (fun q k z y => hS q k z (Or.inr y))⟩
theorem cB.fr {M M' : dk_Mem} {S : Nat → Nat → Prop} (h : cB M) (hf : dk_fr S M M') (hS : ∀ q k, S q k → ¬ ((q = 14 ∧ k = 13) ∨ (q = 0 ∧ k = 8) ∨ (q = 37 ∧ k = 13) ∨ ((q = 24 ∨ q = 82 ∨ q = 47) ∧ k = 5))) : cB M' := by
  obtain ⟨β, γ, h0_h, h1_h, h2_h, h3_h, h4_h, h5_h⟩ := h
  refine ⟨β, γ, h0_h, ?_, ?_, ?_, ?_, ?_⟩
  · rw [hf.2 14 13 (fun z => hS _ _ z (by omega))]; exact h1_h
  · rw [hf.2 0 8 (fun z => hS _ _ z (by omega))]; exact h2_h
  · rw [hf.2 37 13 (fun z => hS _ _ z (by omega))]; exact h3_h
  · rw [hf.2 β 5 (fun z => hS _ _ z (by omega))]; exact h4_h
  · rw [hf.2 47 5 (fun z => hS _ _ z (by omega))]; exact h5_h
theorem cB.A {M M' : dk_Mem} (h : cB M) (hf : dk_fr cA M M') : cB M' := h.fr hf (fun q k z => by unfold cA cN at z; omega)
theorem cB.X {M M' : dk_Mem} (h : cB M) (hf : dk_fr cXX M M') : cB M' := h.fr hf (fun q k z => by unfold cXX at z; omega)
def cKp (q k : Nat) : Prop := (37 ≤ q ∧ q ≤ 51 ∧ ¬ (q = 37 ∧ k = 13)) ∨ (55 ≤ q ∧ q ≤ 59) ∨ (q = 0 ∧ k = 3)

set_option maxRecDepth 20000 in
theorem C_keep {d : Nat} {M : dk_Mem} {Q : Option Value → dk_Mem → Prop} {K : sg_K} (hK : cK K M) (hB : cB M) (hq : ∀ M2, cK K M2 → cP (some K) M2 → cB M2 → dk_fr cKp M M2 → Q (some (.int (nI 1))) M2) : dk_Call (d + 3) mX11_keep [.ref 0] M Q := by
  obtain ⟨β, γ, h0_h, h1_h, h2_h, h3_h, h4_h, h5_h⟩ := id hB
  have hβ : dk_bo β := by unfold dk_bo; omega
  refine dk_enter [some (.ref 0)] (by decide) (fun _ => rfl) (fun _ => Nat.le_of_ble_eq_true rfl) ?_
  refine w_al0 (n := 1) dX11_keep_0 rfl ?_
  refine g_R (n := 4) f_X11_40_11 pl_0 rf_0_2 dX11_keep_1 rfl ?_
  refine w_al0 (n := 5) dX11_keep_4 rfl ?_
  refine g_R (n := 8) f_X11_36_11 pl_0 rf_0_1 dX11_keep_5 rfl ?_
  refine w_cV1 (n := 11) pl_37 cl_10 s0_X10_take k_X11_366 (Nat.le_of_ble_eq_true rfl) dX11_keep_8 rfl (c10_take37 hK hβ (γ := 47) (Or.inr (Or.inl rfl)) (by omega) h1_h h3_h h4_h rfl (fun M2 k1_h k2_h k3_h => ?_))
  refine w_al0 (n := 12) dX11_keep_11 rfl ?_
  refine w_iconst (n := 13) (nI 1) dX11_keep_12 (by decide) rfl ?_
  refine p_Z (n := 16) (by decide) f_X11_43_11 pl_0 dX11_keep_13 rfl ?_
  refine w_iconst (n := 17) (nI 1) dX11_keep_16 (by decide) rfl ?_
  refine w_retI dX11_keep_17 rfl ?_
  have f1_h : dk_fr cKp M (dk_put M2 0 3 (nI 1)) := (k3_h.up (fun q k z => by unfold cKp; omega)).put (by unfold cKp; omega)
  refine hq _ (hK.fr hβ h1_h f1_h (fun q k z => by unfold cKp at z; omega)) ⟨dk_put_s, ?_⟩ ?_ f1_h
  · have hQ : cQ K M2 := k1_h
    exact hQ.fr ((k3_h.2 37 13 (by omega)).trans h3_h) (dk_fr.rf.put (S := fun q k => q = 0 ∧ k = 3) ⟨rfl, rfl⟩) (fun q k z => by omega)
  · refine ⟨β, γ, h0_h, ?_, ?_, ?_, ?_, ?_⟩
    · rw [f1_h.2 14 13 (by unfold cKp; omega)]; exact h1_h
    · rw [f1_h.2 0 8 (by unfold cKp; omega)]; exact h2_h
    · rw [f1_h.2 37 13 (by unfold cKp; omega)]; exact h3_h
    · rw [f1_h.2 β 5 (by unfold cKp; omega)]; exact h4_h
    · rw [dk_put_k (by omega)]; exact k2_h

set_option maxRecDepth 20000 in
theorem c_again0 {d : Nat} {M : dk_Mem} {Q : Option Value → dk_Mem → Prop} (h0_h : M.1 0 3 = 0) (hq : Q (some (.int (-3))) M) : dk_Call (d + 3) mX11_again [.ref 0] M Q := by
  refine dk_enter [some (.ref 0)] (by decide) (fun _ => rfl) (fun _ => Nat.le_of_ble_eq_true rfl) ?_
  refine w_al0 (n := 1) dX11_again_0 rfl ?_
  refine g_Z (n := 4) f_X11_43_11 pl_0 dX11_again_1 rfl ?_
  rw [h0_h]
  refine w_if_ne (n := 7) 10 dX11_again_4 (by decide) rfl (fun z4_h => ?_) (fun z4_h => ?_)
  · skip
    exact absurd rfl z4_h
  · skip
    refine w_bipush (n := 9) (-3) dX11_again_7 (by decide) rfl ?_
    refine w_retI dX11_again_9 rfl ?_
    exact hq

set_option maxRecDepth 20000 in
theorem c_again1 {d : Nat} {M : dk_Mem} {Q : Option Value → dk_Mem → Prop} {K : sg_K} (hk : M.1 0 3 = 1) (hQ : cQ K M) (hB : cB M) (hq : ∀ M2, cK K M2 → cQ K M2 → cB M2 → dk_fr cAg M M2 → Q (some (.int (nI (K.1 4)))) M2) : dk_Call (d + 3) mX11_again [.ref 0] M Q := by
  obtain ⟨β, γ, h0_h, h1_h, h2_h, h3_h, h4_h, h5_h⟩ := id hB
  have hβ : dk_bo β := by unfold dk_bo; omega
  refine dk_enter [some (.ref 0)] (by decide) (fun _ => rfl) (fun _ => Nat.le_of_ble_eq_true rfl) ?_
  refine w_al0 (n := 1) dX11_again_0 rfl ?_
  refine g_Z (n := 4) f_X11_43_11 pl_0 dX11_again_1 rfl ?_
  rw [hk]
  refine w_if_ne (n := 7) 10 dX11_again_4 (by decide) rfl (fun z4_h => ?_) (fun z4_h => ?_)
  · skip
    refine w_al0 (n := 11) dX11_again_10 rfl ?_
    refine g_R (n := 14) f_X11_36_11 pl_0 rf_0_1 dX11_again_11 rfl ?_
    refine w_al0 (n := 15) dX11_again_14 rfl ?_
    refine g_R (n := 18) f_X11_40_11 pl_0 rf_0_2 dX11_again_15 rfl ?_
    refine w_cV1 (n := 21) pl_14 cl_10 s0_X10_take k_X11_366 (Nat.le_of_ble_eq_true rfl) dX11_again_18 rfl (c10_take14 hQ (β := 47) (γ := β) (Or.inr (Or.inl rfl)) hβ (by omega) h3_h h1_h h5_h rfl (fun M2 k1_h k2_h k3_h => ?_))
    refine w_al0 (n := 22) dX11_again_21 rfl ?_
    refine g_R (n := 25) f_X11_36_11 pl_0 rf_0_1 dX11_again_22 rfl ?_
    refine g_I (n := 28) f_X11_116_10 pl_14 dX11_again_25 rfl ?_
    rw [k1_h.2.1.1]
    refine w_retI dX11_again_28 rfl ?_
    have f1_h : dk_fr cAg M M2 := k3_h.up (fun q k z => by unfold cAg cA; omega)
    refine hq M2 k1_h (hQ.fr h3_h k3_h (fun q k z => by omega)) ⟨β, γ, h0_h, ?_, ?_, ?_, k2_h, ?_⟩ f1_h
    · rw [k3_h.2 14 13 (by omega)]; exact h1_h
    · rw [k3_h.2 0 8 (by omega)]; exact h2_h
    · rw [k3_h.2 37 13 (by omega)]; exact h3_h
    · rw [k3_h.2 47 5 (by omega)]; exact h5_h
  · skip
    exact absurd z4_h (by decide)

theorem C_again {d : Nat} {M : dk_Mem} {Q : Option Value → dk_Mem → Prop} {K : sg_K} (hK : cK K M) {P : Option sg_K} (hP : cP P M) (hB : cB M) (hq : ∀ M2, cK (kf_again K P).2 M2 → cP P M2 → cB M2 → dk_fr cAg M M2 → Q (some (.int (kf_again K P).1)) M2) : dk_Call (d + 3) mX11_again [.ref 0] M Q := by
  cases P with
  | none => exact c_again0 hP (hq M hK hP hB dk_fr.rf)
  | some K' => exact c_again1 hP.1 hP.2 hB (fun M2 a b c e => hq M2 a ⟨by rw [e.2 0 3 (by unfold cAg cA cN; omega)]; exact hP.1, b⟩ c e)
