theorem rStp_g {L0 L : Nat} {M M1 : dk_Mem} {x : Int32} (h : dk_fr (rPf L0) M M1) (hl : L0 ≤ L := by omega) : dk_fr (rPf L0) M (rStp M1 L x) := rStp_f h hl

set_option maxRecDepth 20000 in
theorem r_all17 {d : Nat} {M : dk_Mem} {Q : Option Value → dk_Mem → Prop} {L : Nat} (hD : M.1 104 12 = nI L) (hl : L < 490) (hx : dk_W (d + 1) mX12_all 4 [some (.ref 104)] [] (rStp M L (nI 16)) Q) : dk_W (d + 1) mX12_all 17 [some (.ref 104)] [] M Q := by
  refine w_al0 (n := 18) dX12_all_17 rfl ?_
  refine w_bipush (n := 20) (nI 16) dX12_all_18 (by decide) rfl ?_
  refine w_cV1 (n := 23) pl_104 cl_12 s0_X12_step k_X12_186 (Nat.le_of_ble_eq_true rfl) dX12_all_20 rfl (r_step hD hl ?_)
  rw [rStp_e]
  refine w_goto 4 dX12_all_23 (by decide) ?_
  exact hx

set_option maxRecDepth 20000 in
theorem r_allE {d : Nat} {M : dk_Mem} {Q : Option Value → dk_Mem → Prop} {bt : Nat → Nat} {n j L o : Nat} (hS : rPS bt n j L o M) (hk : tk_k bt n j ≠ 16) (hq : Q none M) : dk_W (d + 4) mX12_all 4 [some (.ref 104)] [] M Q := by
  refine w_al0 (n := 5) dX12_all_4 rfl ?_
  refine w_bipush (n := 7) (nI 16) dX12_all_5 (by decide) rfl ?_
  refine w_cV1 (n := 10) pl_104 cl_12 s0_X12_passes k_X12_174 (Nat.le_of_ble_eq_true rfl) dX12_all_7 rfl (r_passes hS (w := 16) (by decide) (fun k1_h M2 f1_h hS2 => ?_) (fun k1_h => ?_))
  · skip
    exact absurd k1_h hk
  · skip
    refine w_if_eq (n := 13) 26 dX12_all_10 (by decide) rfl (fun _ => ?_) (fun h => absurd (by decide) h)
    refine w_ret dX12_all_26 rfl ?_
    exact hq

set_option maxRecDepth 20000 in
theorem r_allB {d : Nat} {M : dk_Mem} {Q : Option Value → dk_Mem → Prop} (hB : M.1 104 10 = nI 1) (hq : Q none M) : dk_W (d + 1) mX12_all 4 [some (.ref 104)] [] M Q := by
  refine w_al0 (n := 5) dX12_all_4 rfl ?_
  refine w_bipush (n := 7) (nI 16) dX12_all_5 (by decide) rfl ?_
  refine w_cV1 (n := 10) pl_104 cl_12 s0_X12_passes k_X12_174 (Nat.le_of_ble_eq_true rfl) dX12_all_7 rfl (r_passB hB ?_)
  · skip
    refine w_if_eq (n := 13) 26 dX12_all_10 (by decide) rfl (fun _ => ?_) (fun h => absurd (by decide) h)
    refine w_ret dX12_all_26 rfl ?_
    exact hq

set_option maxRecDepth 20000 in
theorem r_allQ {d D : Nat} {M : dk_Mem} {Q : Option Value → dk_Mem → Prop} {bt : Nat → Nat} {n o L i h B : Nat} {el : Nat → py_R} (hinc : py_inc el) (hB : B ≤ 300) (hEl : r_CP bt n mX12_one el h B o (d + D + 4)) {R : py_R} (hg : R.1 = true → ∀ M2 L1, dk_fr (rPf L) M M2 → rPS bt n R.2.1 L1 o M2 → L1 + i ≤ L + R.2.1 → sgR (M2.1 105) L L1 (h + 1) R.2.2 → Q none M2) (hb : R.1 = false → ∀ M2 L1, dk_fr (rPf L) M M2 → rPB bt n R.2.1 L1 o M2 → L ≤ L1 → L1 ≤ B + 1 → Q none M2) : ∀ (f j L1 : Nat) (s : py_Sm) (M1 : dk_Mem), 200 ≤ j + f → dk_fr (rPf L) M M1 → rPS bt n j L1 o M1 → L ≤ L1 → L1 + i ≤ L + j → sgR (M1.1 105) L L1 (h + 1) s → R = py_ch (tk_k bt n) el 16 and f j s → dk_W (d + D + 5) mX12_all 4 [some (.ref 104)] [] M1 Q := by
  intro f
  induction f with
  | zero =>
    intro j L1 s M1 hj hf hS hl hr hs hR
    have nk : tk_k bt n j ≠ 16 := fun z => by have := (tk_lt (bt := bt) (n := n) (i := j) (by omega)).1; have := hS.1.2.1; omega
    rw [py_ch] at hR
    subst hR
    exact r_allE (d := d + D + 1) hS nk (hg rfl M1 L1 hf hS hr hs)
  | succ f ih =>
    intro j L1 s M1 hj hf hS hl hr hs hR
    rw [py_ch] at hR
    refine w_al0 (n := 5) dX12_all_4 rfl ?_
    refine w_bipush (n := 7) (nI 16) dX12_all_5 (by decide) rfl ?_
    refine w_cV1 (n := 10) pl_104 cl_12 s0_X12_passes k_X12_174 (Nat.le_of_ble_eq_true rfl) dX12_all_7 rfl (r_passes hS (w := 16) (by decide) (fun k1_h M2 f1_h hS2 => ?_) (fun k1_h => ?_))
    · skip
      rw [if_pos k1_h] at hR
      have f2_h : dk_fr (rPf L) M M2 := hf.tr (rPf_x f1_h)
      refine w_if_eq (n := 13) 26 dX12_all_10 (by decide) rfl (fun h => absurd h (by decide)) (fun _ => ?_)
      refine w_al0 (n := 14) dX12_all_13 rfl ?_
      refine w_cV0 (n := 17) pl_104 cl_12 s0_X12_one k_X12_190 (Nat.le_of_ble_eq_true rfl) dX12_all_14 rfl (hEl (j + 1) L1 M2 _ hS2 (fun g0_h M3 L2 g1_h g2_h g3_h g4_h => ?_) (fun g0_h M3 L2 g1_h g2_h g3b g3_h => ?_))
      · rw [if_pos g0_h] at hR
        have inc := hinc _ g0_h
        have l2_h := g2_h.2.2.2.2.2.1
        have l3_h := g2_h.2.2.2.2.2.2.1
        have gl := g4_h.1
        have hj1_h := hS.2.2.2.2.2.1
        refine r_all17 g2_h.2.2.2.2.1 (by omega) (ih (el (j + 1)).2.1 (L2 + 1) _ _ (by omega) (rStp_f (f2_h.tr (rPf_up g1_h hl)) (by omega)) (g2_h.st (by omega)) (by omega) (by omega) ?_ hR)
        have hs3_h : sgR ((rStp M3 L2 (nI 16)).1 105) L L1 (h + 1) s := hs.ext (fun k a b => by rw [rStp_5 (by omega), g1_h.2 105 k (by unfold rPf; omega)]; exact f1_h.2 105 k (by unfold rLx; omega))
        exact sgR.an hs3_h (g4_h.ext (fun k a b => rStp_5 (by omega))) rStp_s
      · rw [if_neg (by rw [g0_h]; decide)] at hR
        subst hR
        refine r_all17 g2_h.2.2.2.2.1 (by omega) (r_allB g2_h.st.2.2.1 (hb rfl _ (L2 + 1) ?_ g2_h.st (by omega) (by omega)))
        exact rStp_g (f2_h.tr (rPf_up g1_h hl))
    · skip
      rw [if_neg k1_h] at hR
      subst hR
      refine w_if_eq (n := 13) 26 dX12_all_10 (by decide) rfl (fun _ => ?_) (fun h => absurd (by decide) h)
      refine w_ret dX12_all_26 rfl ?_
      exact hg rfl M1 L1 hf hS hr hs

set_option maxRecDepth 20000 in
theorem r_allS {d D : Nat} {bt : Nat → Nat} {n o h B : Nat} {el : Nat → py_R} (hinc : py_inc el) (hB : B ≤ 300) (hEl : r_CP bt n mX12_one el h B o (d + D + 4)) : r_CP bt n mX12_all (py_sq (tk_k bt n) el 16 and) (h + 1) (B + 1) o (d + D + 5) := by
  intro i L M Q hS hg hb
  unfold py_sq at hg hb
  refine dk_enter [some (.ref 104)] (by decide) (fun _ => rfl) (fun _ => Nat.le_of_ble_eq_true rfl) ?_
  refine w_al0 (n := 1) dX12_all_0 rfl ?_
  refine w_cV0 (n := 4) pl_104 cl_12 s0_X12_one k_X12_190 (Nat.le_of_ble_eq_true rfl) dX12_all_1 rfl (hEl i L M _ hS (fun g0_h M3 L2 g1_h g2_h g3_h g4_h => ?_) (fun g0_h M3 L2 g1_h g2_h g3b g3_h => ?_))
  · rw [if_pos g0_h] at hg hb
    exact r_allQ hinc hB hEl hg hb 200 (el i).2.1 L2 (el i).2.2 M3 (by omega) g1_h g2_h (Nat.le_of_lt g4_h.1) g3_h (g4_h.mono (by omega)) rfl
  · rw [if_neg (by rw [g0_h]; decide)] at hb
    exact r_allB g2_h.2.2.1 (hb rfl M3 L2 g1_h g2_h g3b (by omega))

set_option maxRecDepth 20000 in
theorem r_condition17 {d : Nat} {M : dk_Mem} {Q : Option Value → dk_Mem → Prop} {L : Nat} (hD : M.1 104 12 = nI L) (hl : L < 490) (hx : dk_W (d + 1) mX12_condition 4 [some (.ref 104)] [] (rStp M L (nI 15)) Q) : dk_W (d + 1) mX12_condition 17 [some (.ref 104)] [] M Q := by
  refine w_al0 (n := 18) dX12_condition_17 rfl ?_
  refine w_bipush (n := 20) (nI 15) dX12_condition_18 (by decide) rfl ?_
  refine w_cV1 (n := 23) pl_104 cl_12 s0_X12_step k_X12_186 (Nat.le_of_ble_eq_true rfl) dX12_condition_20 rfl (r_step hD hl ?_)
  rw [rStp_e]
  refine w_goto 4 dX12_condition_23 (by decide) ?_
  exact hx

set_option maxRecDepth 20000 in
theorem r_conditionE {d : Nat} {M : dk_Mem} {Q : Option Value → dk_Mem → Prop} {bt : Nat → Nat} {n j L o : Nat} (hS : rPS bt n j L o M) (hk : tk_k bt n j ≠ 15) (hq : Q none M) : dk_W (d + 4) mX12_condition 4 [some (.ref 104)] [] M Q := by
  refine w_al0 (n := 5) dX12_condition_4 rfl ?_
  refine w_bipush (n := 7) (nI 15) dX12_condition_5 (by decide) rfl ?_
  refine w_cV1 (n := 10) pl_104 cl_12 s0_X12_passes k_X12_174 (Nat.le_of_ble_eq_true rfl) dX12_condition_7 rfl (r_passes hS (w := 15) (by decide) (fun k1_h M2 f1_h hS2 => ?_) (fun k1_h => ?_))
  · skip
    exact absurd k1_h hk
  · skip
    refine w_if_eq (n := 13) 26 dX12_condition_10 (by decide) rfl (fun _ => ?_) (fun h => absurd (by decide) h)
    refine w_ret dX12_condition_26 rfl ?_
    exact hq

set_option maxRecDepth 20000 in
theorem r_conditionB {d : Nat} {M : dk_Mem} {Q : Option Value → dk_Mem → Prop} (hB : M.1 104 10 = nI 1) (hq : Q none M) : dk_W (d + 1) mX12_condition 4 [some (.ref 104)] [] M Q := by
  refine w_al0 (n := 5) dX12_condition_4 rfl ?_
  refine w_bipush (n := 7) (nI 15) dX12_condition_5 (by decide) rfl ?_
  refine w_cV1 (n := 10) pl_104 cl_12 s0_X12_passes k_X12_174 (Nat.le_of_ble_eq_true rfl) dX12_condition_7 rfl (r_passB hB ?_)
  · skip
    refine w_if_eq (n := 13) 26 dX12_condition_10 (by decide) rfl (fun _ => ?_) (fun h => absurd (by decide) h)
    refine w_ret dX12_condition_26 rfl ?_
    exact hq

set_option maxRecDepth 20000 in
theorem r_conditionQ {d D : Nat} {M : dk_Mem} {Q : Option Value → dk_Mem → Prop} {bt : Nat → Nat} {n o L i h B : Nat} {el : Nat → py_R} (hinc : py_inc el) (hB : B ≤ 300) (hEl : r_CP bt n mX12_all el h B o (d + D + 5)) {R : py_R} (hg : R.1 = true → ∀ M2 L1, dk_fr (rPf L) M M2 → rPS bt n R.2.1 L1 o M2 → L1 + i ≤ L + R.2.1 → sgR (M2.1 105) L L1 (h + 1) R.2.2 → Q none M2) (hb : R.1 = false → ∀ M2 L1, dk_fr (rPf L) M M2 → rPB bt n R.2.1 L1 o M2 → L ≤ L1 → L1 ≤ B + 1 → Q none M2) : ∀ (f j L1 : Nat) (s : py_Sm) (M1 : dk_Mem), 200 ≤ j + f → dk_fr (rPf L) M M1 → rPS bt n j L1 o M1 → L ≤ L1 → L1 + i ≤ L + j → sgR (M1.1 105) L L1 (h + 1) s → R = py_ch (tk_k bt n) el 15 or f j s → dk_W (d + D + 6) mX12_condition 4 [some (.ref 104)] [] M1 Q := by
  intro f
  induction f with
  | zero =>
    intro j L1 s M1 hj hf hS hl hr hs hR
    have nk : tk_k bt n j ≠ 15 := fun z => by have := (tk_lt (bt := bt) (n := n) (i := j) (by omega)).1; have := hS.1.2.1; omega
    rw [py_ch] at hR
    subst hR
    exact r_conditionE (d := d + D + 2) hS nk (hg rfl M1 L1 hf hS hr hs)
  | succ f ih =>
    intro j L1 s M1 hj hf hS hl hr hs hR
    rw [py_ch] at hR
    refine w_al0 (n := 5) dX12_condition_4 rfl ?_
    refine w_bipush (n := 7) (nI 15) dX12_condition_5 (by decide) rfl ?_
    refine w_cV1 (n := 10) pl_104 cl_12 s0_X12_passes k_X12_174 (Nat.le_of_ble_eq_true rfl) dX12_condition_7 rfl (r_passes hS (w := 15) (by decide) (fun k1_h M2 f1_h hS2 => ?_) (fun k1_h => ?_))
    · skip
      rw [if_pos k1_h] at hR
      have f2_h : dk_fr (rPf L) M M2 := hf.tr (rPf_x f1_h)
      refine w_if_eq (n := 13) 26 dX12_condition_10 (by decide) rfl (fun h => absurd h (by decide)) (fun _ => ?_)
      refine w_al0 (n := 14) dX12_condition_13 rfl ?_
      refine w_cV0 (n := 17) pl_104 cl_12 s0_X12_all k_X12_193 (Nat.le_of_ble_eq_true rfl) dX12_condition_14 rfl (hEl (j + 1) L1 M2 _ hS2 (fun g0_h M3 L2 g1_h g2_h g3_h g4_h => ?_) (fun g0_h M3 L2 g1_h g2_h g3b g3_h => ?_))
      · rw [if_pos g0_h] at hR
        have inc := hinc _ g0_h
        have l2_h := g2_h.2.2.2.2.2.1
        have l3_h := g2_h.2.2.2.2.2.2.1
        have gl := g4_h.1
        have hj1_h := hS.2.2.2.2.2.1
        refine r_condition17 g2_h.2.2.2.2.1 (by omega) (ih (el (j + 1)).2.1 (L2 + 1) _ _ (by omega) (rStp_f (f2_h.tr (rPf_up g1_h hl)) (by omega)) (g2_h.st (by omega)) (by omega) (by omega) ?_ hR)
        have hs3_h : sgR ((rStp M3 L2 (nI 15)).1 105) L L1 (h + 1) s := hs.ext (fun k a b => by rw [rStp_5 (by omega), g1_h.2 105 k (by unfold rPf; omega)]; exact f1_h.2 105 k (by unfold rLx; omega))
        exact sgR.oo hs3_h (g4_h.ext (fun k a b => rStp_5 (by omega))) rStp_s
      · rw [if_neg (by rw [g0_h]; decide)] at hR
        subst hR
        refine r_condition17 g2_h.2.2.2.2.1 (by omega) (r_conditionB g2_h.st.2.2.1 (hb rfl _ (L2 + 1) ?_ g2_h.st (by omega) (by omega)))
        exact rStp_g (f2_h.tr (rPf_up g1_h hl))
    · skip
      rw [if_neg k1_h] at hR
      subst hR
      refine w_if_eq (n := 13) 26 dX12_condition_10 (by decide) rfl (fun _ => ?_) (fun h => absurd (by decide) h)
      refine w_ret dX12_condition_26 rfl ?_
      exact hg rfl M1 L1 hf hS hr hs

set_option maxRecDepth 20000 in
theorem r_conditionS {d D : Nat} {bt : Nat → Nat} {n o h B : Nat} {el : Nat → py_R} (hinc : py_inc el) (hB : B ≤ 300) (hEl : r_CP bt n mX12_all el h B o (d + D + 5)) : r_CP bt n mX12_condition (py_sq (tk_k bt n) el 15 or) (h + 1) (B + 1) o (d + D + 6) := by
  intro i L M Q hS hg hb
  unfold py_sq at hg hb
  refine dk_enter [some (.ref 104)] (by decide) (fun _ => rfl) (fun _ => Nat.le_of_ble_eq_true rfl) ?_
  refine w_al0 (n := 1) dX12_condition_0 rfl ?_
  refine w_cV0 (n := 4) pl_104 cl_12 s0_X12_all k_X12_193 (Nat.le_of_ble_eq_true rfl) dX12_condition_1 rfl (hEl i L M _ hS (fun g0_h M3 L2 g1_h g2_h g3_h g4_h => ?_) (fun g0_h M3 L2 g1_h g2_h g3b g3_h => ?_))
  · rw [if_pos g0_h] at hg hb
    exact r_conditionQ hinc hB hEl hg hb 200 (el i).2.1 L2 (el i).2.2 M3 (by omega) g1_h g2_h (Nat.le_of_lt g4_h.1) g3_h (g4_h.mono (by omega)) rfl
  · rw [if_neg (by rw [g0_h]; decide)] at hb
    exact r_conditionB g2_h.2.2.1 (hb rfl M3 L2 g1_h g2_h g3b (by omega))

theorem r_cond {bt : Nat → Nat} {n : Nat} : ∀ e o d, o + e = 3 → r_CP bt n mX12_condition (py_cnd (tk_k bt n) (tk_v bt n) (py_sub (tk_k bt n) (tk_v bt n) e)) (2 * e + 3) (212 + 2 * e) o (d + 3 * e + 6)
  | 0, o, d, h => by
    have h1_h := r_oneS (d := d) (D := 0) (bt := bt) (n := n) h (fun e1_h z => by omega)
    have i1_h : py_inc (py_one (tk_k bt n) (tk_v bt n) (py_sub (tk_k bt n) (tk_v bt n) 0)) := py_one_inc (py_sub_inc 0)
    exact r_conditionS (D := 0) (py_sq_inc i1_h) (by omega) (r_allS (D := 0) i1_h (by omega) h1_h)
  | e + 1, o, d, h => by
    have ih := r_cond (bt := bt) (n := n) e (o + 1) d (by omega)
    have h1_h := r_oneS (d := d) (D := 3 * e + 3) (bt := bt) (n := n) (e := e + 1) h (fun e1_h z => by
      have ee : e1_h = e := by omega
      subst ee
      rw [show d + (3 * e1_h + 3) + 3 = d + 3 * e1_h + 6 by omega]
      exact ih)
    have i1_h : py_inc (py_one (tk_k bt n) (tk_v bt n) (py_sub (tk_k bt n) (tk_v bt n) (e + 1))) := py_one_inc (py_sub_inc (e + 1))
    have h2_h := r_conditionS (D := 3 * e + 3) (py_sq_inc i1_h) (by omega) (r_allS (D := 3 * e + 3) i1_h (by omega) h1_h)
    rw [show d + (3 * e + 3) + 6 = d + 3 * (e + 1) + 6 by omega, show 2 * (e + 1) + 1 + 1 + 1 = 2 * (e + 1) + 3 by omega, show 210 + 2 * (e + 1) + 1 + 1 = 212 + 2 * (e + 1) by omega] at h2_h
    exact h2_h
